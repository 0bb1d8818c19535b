set_option maxHeartbeats 4000000 in
set_option maxRecDepth 100000 in
theorem cn_X9_isBlank (l : Launch) (D : va_G) (cB cI cZ : ClassId) (N : Nat) (x0 : Int32) (R : Int32) (hf : fX9_isBlank N x0 = some R) : Met l yX9_isBlank wsX9_isBlank ({ frames := 0, cells := 0, slots := 0, locals := 0 }) (va_Pc [.int x0] (wb_pre D [(cB, .byte), (cI, .int), (cZ, .boolean)] ([] : va_W))) (vp_Si (fun r => r = R)) 0 0 (fun _ => False) := by
  refine Met.ofW (cc := cX9_isBlank) (maxL := 1) (ret := (some .boolean)) (by decide) rfl ?_
  intro p e s m args below meth c s₁ B hml hv
  obtain ⟨rfl, hP, hK⟩ := hv
  have hx := B.exec
  have hb := B.bytes
  have hr := B.returns
  have hts := atoms_spec (ws := wsX9_isBlank) B.pre
  have hown : s.vm.findClass RX9 = some m.cls := findClass_of_methodNamed B.named
  have hlocks := B.notSynchronized
  have hl := lv_entry ([.int x0]) (n := 1) (Nat.le_of_ble_eq_true rfl)
  rw [lg_entry_eq]
  generalize (lg_sl ([.int x0]) ++ List.replicate (1 - (lg_sl ([.int x0])).length) Slot.unset).toArray = ls at hl ⊢
  have hl : lv_has ls 1 [(0, .int x0)] := hl
  unfold fX9_isBlank at hf
  refine lv_iload_n hx hb dX9_isBlank_0 rfl (lv_at hl 0 rfl) ?_
  refine lv_bipush (v := (32 : Int32)) hx hb dX9_isBlank_1 (by decide) ?_
  refine lv_icmp_eq (tgt := 12) hx hb dX9_isBlank_3 (by decide) (fun hc => ?_) (fun hc => ?_)
  · replace hf := wb_t hc hf
    refine lv_iconst (v := (1 : Int32)) hx hb dX9_isBlank_12 (by decide) ?_
    refine lv_goto (tgt := 17) hx hb dX9_isBlank_13 (by decide) ?_
    exact W.zret (v := (1 : Int32)) hx hb hr (by decide) (fun t ht hW => ⟨_, rfl, Option.some.inj hf, ht⟩) (fun _ h => nomatch h) dX9_isBlank_17
  · replace hf := wb_f hc hf
    refine lv_iload_n hx hb dX9_isBlank_6 rfl (lv_at hl 0 rfl) ?_
    refine lv_bipush (v := (10 : Int32)) hx hb dX9_isBlank_7 (by decide) ?_
    refine lv_icmp_ne (tgt := 16) hx hb dX9_isBlank_9 (by decide) (fun hc => ?_) (fun hc => ?_)
    · replace hf := wb_f hc hf
      refine lv_iconst (v := (0 : Int32)) hx hb dX9_isBlank_16 (by decide) ?_
      exact W.zret (v := (0 : Int32)) hx hb hr (by decide) (fun t ht hW => ⟨_, rfl, Option.some.inj hf, ht⟩) (fun _ h => nomatch h) dX9_isBlank_17
    · replace hf := wb_t hc hf
      refine lv_iconst (v := (1 : Int32)) hx hb dX9_isBlank_12 (by decide) ?_
      refine lv_goto (tgt := 17) hx hb dX9_isBlank_13 (by decide) ?_
      exact W.zret (v := (1 : Int32)) hx hb hr (by decide) (fun t ht hW => ⟨_, rfl, Option.some.inj hf, ht⟩) (fun _ h => nomatch h) dX9_isBlank_17

set_option maxHeartbeats 4000000 in
set_option maxRecDepth 100000 in
theorem cn_X9_step (l : Launch) (D : va_G) (cB cI cZ : ClassId) (N : Nat) (a0 : Nat → Nat) (I0 : Nat → Int32) (M0 : Nat → Nat → Int32) (sz : Nat) (R : (Nat → Int32) × (Nat → Nat → Int32)) (hf : fX9_step N I0 M0 = some R) : Met l yX9_step wsX9_step ({ frames := 1, cells := 0, slots := 0, locals := 20 }) (va_Pc [.ref (a0 0)] (wb_preD D [(cB, .byte), (cI, .int), (cZ, .boolean)] (wWX9 cB cI cZ a0 I0 M0) sz)) (va_Qv (fun _ : Unit => True) (fun _ t => wb_post D [(cB, .byte), (cI, .int), (cZ, .boolean)] (va_A (wWX9 cB cI cZ a0 I0 M0) sz) (wWX9 cB cI cZ a0 R.1 R.2) t) (va_A (wWX9 cB cI cZ a0 I0 M0) sz)) 0 0 (va_A (wWX9 cB cI cZ a0 I0 M0) sz) := by
  refine Met.ofW (cc := cX9_step) (maxL := 1) (ret := none) (by decide) rfl ?_
  intro p e s m args below meth c s₁ B hml hv
  obtain ⟨rfl, hsz, hP, hK, hD0⟩ := hv
  have hx := B.exec
  have hb := B.bytes
  have hr := B.returns
  have hts := atoms_spec (ws := wsX9_step) B.pre
  have hown : s.vm.findClass RX9 = some m.cls := findClass_of_methodNamed B.named
  have hlocks := B.notSynchronized
  have hinX9 : ∀ w ∈ u_ws RX9 TX9 10, w ∈ wsX9_step := fun w h => List.mem_cons_of_mem _ (List.mem_append_right _ h)
  subst hsz
  have hD := hD0.self (sz := s.heap.size)
  generalize hAe : va_A (wWX9 cB cI cZ a0 I0 M0) s.heap.size = A at hD ⊢
  have hA : ∀ q : Nat, s.heap.size ≤ q → A q := fun q h => by rw [← hAe]; exact Or.inr h
  have hS : va_S A s.heap s.heap [] := va_S.rf
  have hl := lv_entry ([.ref (a0 0)]) (n := 1) (Nat.le_of_ble_eq_true rfl)
  rw [lg_entry_eq]
  generalize (lg_sl ([.ref (a0 0)]) ++ List.replicate (1 - (lg_sl ([.ref (a0 0)])).length) Slot.unset).toArray = ls at hl ⊢
  have hl : lv_has ls 1 [(0, .ref (a0 0))] := hl
  unfold fX9_step at hf
  obtain ⟨H, hHe⟩ : ∃ H : Heap, H = s.heap := ⟨_, rfl⟩
  obtain ⟨locs, hle⟩ : ∃ locs : List Loc, locs = [] := ⟨_, rfl⟩
  refine wb_start (H := H) (locs := locs) hHe hle ?_
  rw [← hHe] at hP
  have hS : va_S A s.heap H locs := by rw [hHe, hle]; exact va_S.rf
  have J254 : ∀ (I0_j254 : Nat → Int32) (M0_j254 : Nat → Nat → Int32) (z254_0 : Int32) (H : Heap) (locs : List Loc), va_P D vwCl (wWX9 cB cI cZ a0 I0_j254 M0_j254) H → va_D A (wWX9 cB cI cZ a0 I0_j254 M0_j254) → va_S A s.heap H locs → ∀ (ls : Array Slot), lv_has ls 1 [(0, .ref (a0 0))] → fX9_step_J254 N I0_j254 M0_j254 z254_0 = some R → W p l e (headSpec wsX9_step { frames := 1, cells := 0, slots := 0, locals := 20 }).room s m [.ref (a0 0)].toArray below meth c H locs 0 0 (MQ below (va_Qv (fun _ : Unit => True) (fun _ t => wb_post D [(cB, .byte), (cI, .int), (cZ, .boolean)] A (wWX9 cB cI cZ a0 R.1 R.2) t) A) [.ref (a0 0)].toArray s 0 0 A) (F0 m 254 ls [.int z254_0, .ref (a0 0)]) := by
    intro I0_j254 M0_j254 z254_0 H locs hP hD hS ls hl hf
    unfold fX9_step_J254 at hf
    refine va_put (D := D) (ci := 9) (v := .int z254_0) (ty := .int) (C := RX9) (T := TX9) (N := 10) hx hb hts hinX9 tyX9 tyX9_ok nmX9 hown hK hP hD hS 0 rfl rfl 5 (by decide) (hts (.fieldLink RX9 40 "WheelBook$Text" "kind" "I") (List.mem_of_getElem? (i := 5) rfl)) (fun _ h9 => h9) rfl (by decide +kernel) rfl rfl (Nat.le_of_ble_eq_true rfl) dX9_step_254 (fun H locs hP hD hS => ?_)
    have hP : va_P D vwCl (wWX9 cB cI cZ a0 (upd I0_j254 4 z254_0) M0_j254) H := hP
    have hD : va_D A (wWX9 cB cI cZ a0 (upd I0_j254 4 z254_0) M0_j254) := hD
    obtain ⟨I0_1, eI0_1, hf⟩ := wb_v hf
    rw [← eI0_1] at hP hD
    refine lv_aload_n hx hb dX9_step_257 rfl (lv_at hl 0 rfl) ?_
    refine lv_dup hx hb dX9_step_258 rfl ?_
    refine va_get (D := D) (ci := 9) (v := .int (I0_1 3)) (C := RX9) (T := TX9) (N := 10) hx hb hts hinX9 hown hK hP 0 rfl rfl 4 (by decide) (hts (.fieldLink RX9 31 "WheelBook$Text" "at" "I") (List.mem_of_getElem? (i := 1) rfl)) (fun _ h9 => h9) rfl dX9_step_259 ?_
    refine lv_iconst (v := (1 : Int32)) hx hb dX9_step_262 (by decide) ?_
    refine lv_iadd hx hb dX9_step_263 ?_
    refine va_put (D := D) (ci := 9) (v := .int ((I0_1 3) + (1 : Int32))) (ty := .int) (C := RX9) (T := TX9) (N := 10) hx hb hts hinX9 tyX9 tyX9_ok nmX9 hown hK hP hD hS 0 rfl rfl 4 (by decide) (hts (.fieldLink RX9 31 "WheelBook$Text" "at" "I") (List.mem_of_getElem? (i := 1) rfl)) (fun _ h9 => h9) rfl (by decide +kernel) rfl rfl (Nat.le_of_ble_eq_true rfl) dX9_step_264 (fun H locs hP hD hS => ?_)
    have hP : va_P D vwCl (wWX9 cB cI cZ a0 (upd I0_1 3 ((I0_1 3) + (1 : Int32))) M0_j254) H := hP
    have hD : va_D A (wWX9 cB cI cZ a0 (upd I0_1 3 ((I0_1 3) + (1 : Int32))) M0_j254) := hD
    obtain ⟨I0_2, eI0_2, hf⟩ := wb_v hf
    rw [← eI0_2] at hP hD
    exact W.vret hx hb hr (fun t ht hW => by rw [← Option.some.inj hf]; exact ⟨⟨(), rfl, trivial, by rw [ht]; exact hP, va_K.moved hW.alike hK, hD⟩, hS.F ht⟩) hS.2.2 dX9_step_267
  have J39 : ∀ (I0_j39 : Nat → Int32) (M0_j39 : Nat → Nat → Int32) (H : Heap) (locs : List Loc), va_P D vwCl (wWX9 cB cI cZ a0 I0_j39 M0_j39) H → va_D A (wWX9 cB cI cZ a0 I0_j39 M0_j39) → va_S A s.heap H locs → ∀ (ls : Array Slot), lv_has ls 1 [(0, .ref (a0 0))] → fX9_step_J39 N I0_j39 M0_j39 = some R → W p l e (headSpec wsX9_step { frames := 1, cells := 0, slots := 0, locals := 20 }).room s m [.ref (a0 0)].toArray below meth c H locs 0 0 (MQ below (va_Qv (fun _ : Unit => True) (fun _ t => wb_post D [(cB, .byte), (cI, .int), (cZ, .boolean)] A (wWX9 cB cI cZ a0 R.1 R.2) t) A) [.ref (a0 0)].toArray s 0 0 A) (F0 m 39 ls []) := by
    intro I0_j39 M0_j39 H locs hP hD hS ls hl hf
    unfold fX9_step_J39 at hf
    refine lv_aload_n hx hb dX9_step_39 rfl (lv_at hl 0 rfl) ?_
    refine lv_aload_n hx hb dX9_step_40 rfl (lv_at hl 0 rfl) ?_
    refine va_get (D := D) (ci := 9) (v := .int (I0_j39 3)) (C := RX9) (T := TX9) (N := 10) hx hb hts hinX9 hown hK hP 0 rfl rfl 4 (by decide) (hts (.fieldLink RX9 31 "WheelBook$Text" "at" "I") (List.mem_of_getElem? (i := 1) rfl)) (fun _ h9 => h9) rfl dX9_step_41 ?_
    refine va_put (D := D) (ci := 9) (v := .int (I0_j39 3)) (ty := .int) (C := RX9) (T := TX9) (N := 10) hx hb hts hinX9 tyX9 tyX9_ok nmX9 hown hK hP hD hS 0 rfl rfl 3 (by decide) (hts (.fieldLink RX9 47 "WheelBook$Text" "start" "I") (List.mem_of_getElem? (i := 4) rfl)) (fun _ h9 => h9) rfl (by decide +kernel) rfl rfl (Nat.le_of_ble_eq_true rfl) dX9_step_44 (fun H locs hP hD hS => ?_)
    have hP : va_P D vwCl (wWX9 cB cI cZ a0 (upd I0_j39 2 (I0_j39 3)) M0_j39) H := hP
    have hD : va_D A (wWX9 cB cI cZ a0 (upd I0_j39 2 (I0_j39 3)) M0_j39) := hD
    obtain ⟨I0_3, eI0_3, hf⟩ := wb_v hf
    rw [← eI0_3] at hP hD
    refine lv_aload_n hx hb dX9_step_47 rfl (lv_at hl 0 rfl) ?_
    refine va_get (D := D) (ci := 9) (v := .int (I0_3 3)) (C := RX9) (T := TX9) (N := 10) hx hb hts hinX9 hown hK hP 0 rfl rfl 4 (by decide) (hts (.fieldLink RX9 31 "WheelBook$Text" "at" "I") (List.mem_of_getElem? (i := 1) rfl)) (fun _ h9 => h9) rfl dX9_step_48 ?_
    refine lv_aload_n hx hb dX9_step_51 rfl (lv_at hl 0 rfl) ?_
    refine va_get (D := D) (ci := 9) (v := .int (I0_3 1)) (C := RX9) (T := TX9) (N := 10) hx hb hts hinX9 hown hK hP 0 rfl rfl 2 (by decide) (hts (.fieldLink RX9 28 "WheelBook$Text" "end" "I") (List.mem_of_getElem? (i := 2) rfl)) (fun _ h9 => h9) rfl dX9_step_52 ?_
    refine lv_icmp_lt (tgt := 66) hx hb dX9_step_55 (by decide) (fun hc => ?_) (fun hc => ?_)
    · replace hf := wb_t hc hf
      refine lv_aload_n hx hb dX9_step_66 rfl (lv_at hl 0 rfl) ?_
      refine va_get (D := D) (ci := 9) (v := .ref (a0 1)) (C := RX9) (T := TX9) (N := 10) hx hb hts hinX9 hown hK hP 0 rfl rfl 0 (by decide) (hts (.fieldLink RX9 11 "WheelBook$Text" "bytes" "[B") (List.mem_of_getElem? (i := 3) rfl)) (fun _ h9 => h9) rfl dX9_step_67 ?_
      refine lv_aload_n hx hb dX9_step_70 rfl (lv_at hl 0 rfl) ?_
      refine va_get (D := D) (ci := 9) (v := .int (I0_3 3)) (C := RX9) (T := TX9) (N := 10) hx hb hts hinX9 hown hK hP 0 rfl rfl 4 (by decide) (hts (.fieldLink RX9 31 "WheelBook$Text" "at" "I") (List.mem_of_getElem? (i := 1) rfl)) (fun _ h9 => h9) rfl dX9_step_71 ?_
      obtain ⟨hin, hf⟩ := wb_n hf
      refine va_bald hx hb hK hP 1 0 rfl rfl hin dX9_step_74 ?_
      obtain ⟨r4, hr4, hf⟩ := wb_b hf
      refine vp_callSi (W.runS (As := [.int (M0_j39 0 ((I0_3 3)).toNatClampNeg)]) (rest := []) ⟨hx, hb, hml, hown, hts⟩ (cn_X9_isLetter l D cB cI cZ N (M0_j39 0 ((I0_3 3)).toNatClampNeg) r4 hr4) (va_cwS 1 hts gX9_step_X9_isLetter rfl rfl rfl csX9_isLetter ⟨Nat.le_of_ble_eq_true rfl, Nat.le_of_ble_eq_true rfl⟩) (wb_preS (hP.sub (ws' := ([] : va_W)) [] rfl) hK) rfl rfl hl.1 rfl (lv_room (Nat.le_of_ble_eq_true rfl)) dX9_step_75 ⟨Nat.le_of_ble_eq_true rfl, Nat.le_of_ble_eq_true rfl⟩) (fun r9 e9 => ?_)
      rw [e9]
      refine lv_if_eq (tgt := 125) hx hb dX9_step_78 (by decide) (fun hc => ?_) (fun hc => ?_)
      · replace hf := wb_t hc hf
        refine lv_aload_n hx hb dX9_step_125 rfl (lv_at hl 0 rfl) ?_
        refine va_get (D := D) (ci := 9) (v := .ref (a0 1)) (C := RX9) (T := TX9) (N := 10) hx hb hts hinX9 hown hK hP 0 rfl rfl 0 (by decide) (hts (.fieldLink RX9 11 "WheelBook$Text" "bytes" "[B") (List.mem_of_getElem? (i := 3) rfl)) (fun _ h9 => h9) rfl dX9_step_126 ?_
        refine lv_aload_n hx hb dX9_step_129 rfl (lv_at hl 0 rfl) ?_
        refine va_get (D := D) (ci := 9) (v := .int (I0_3 3)) (C := RX9) (T := TX9) (N := 10) hx hb hts hinX9 hown hK hP 0 rfl rfl 4 (by decide) (hts (.fieldLink RX9 31 "WheelBook$Text" "at" "I") (List.mem_of_getElem? (i := 1) rfl)) (fun _ h9 => h9) rfl dX9_step_130 ?_
        obtain ⟨hin, hf⟩ := wb_n hf
        refine va_bald hx hb hK hP 1 0 rfl rfl hin dX9_step_133 ?_
        obtain ⟨r5, hr5, hf⟩ := wb_b hf
        refine vp_callSi (W.runS (As := [.int (M0_j39 0 ((I0_3 3)).toNatClampNeg)]) (rest := []) ⟨hx, hb, hml, hown, hts⟩ (cn_X9_isDigit l D cB cI cZ N (M0_j39 0 ((I0_3 3)).toNatClampNeg) r5 hr5) (va_cwS 1 hts gX9_step_X9_isDigit rfl rfl rfl csX9_isDigit ⟨Nat.le_of_ble_eq_true rfl, Nat.le_of_ble_eq_true rfl⟩) (wb_preS (hP.sub (ws' := ([] : va_W)) [] rfl) hK) rfl rfl hl.1 rfl (lv_room (Nat.le_of_ble_eq_true rfl)) dX9_step_134 ⟨Nat.le_of_ble_eq_true rfl, Nat.le_of_ble_eq_true rfl⟩) (fun r9 e9 => ?_)
        rw [e9]
        refine lv_if_eq (tgt := 234) hx hb dX9_step_137 (by decide) (fun hc => ?_) (fun hc => ?_)
        · replace hf := wb_t hc hf
          refine lv_aload_n hx hb dX9_step_234 rfl (lv_at hl 0 rfl) ?_
          refine lv_aload_n hx hb dX9_step_235 rfl (lv_at hl 0 rfl) ?_
          refine va_get (D := D) (ci := 9) (v := .ref (a0 1)) (C := RX9) (T := TX9) (N := 10) hx hb hts hinX9 hown hK hP 0 rfl rfl 0 (by decide) (hts (.fieldLink RX9 11 "WheelBook$Text" "bytes" "[B") (List.mem_of_getElem? (i := 3) rfl)) (fun _ h9 => h9) rfl dX9_step_236 ?_
          refine lv_aload_n hx hb dX9_step_239 rfl (lv_at hl 0 rfl) ?_
          refine va_get (D := D) (ci := 9) (v := .int (I0_3 3)) (C := RX9) (T := TX9) (N := 10) hx hb hts hinX9 hown hK hP 0 rfl rfl 4 (by decide) (hts (.fieldLink RX9 31 "WheelBook$Text" "at" "I") (List.mem_of_getElem? (i := 1) rfl)) (fun _ h9 => h9) rfl dX9_step_240 ?_
          obtain ⟨hin, hf⟩ := wb_n hf
          refine va_bald hx hb hK hP 1 0 rfl rfl hin dX9_step_243 ?_
          refine lv_bipush (v := (59 : Int32)) hx hb dX9_step_244 (by decide) ?_
          refine lv_icmp_ne (tgt := 253) hx hb dX9_step_246 (by decide) (fun hc => ?_) (fun hc => ?_)
          · replace hf := wb_f hc hf
            refine lv_iconst (v := (4 : Int32)) hx hb dX9_step_253 (by decide) ?_
            exact J254 I0_3 M0_j39 (4 : Int32) H locs hP hD hS ls (lv_sub hl [0] rfl) hf
          · replace hf := wb_t hc hf
            refine lv_iconst (v := (3 : Int32)) hx hb dX9_step_249 (by decide) ?_
            refine lv_goto (tgt := 254) hx hb dX9_step_250 (by decide) ?_
            exact J254 I0_3 M0_j39 (3 : Int32) H locs hP hD hS ls (lv_sub hl [0] rfl) hf
        · replace hf := wb_f hc hf
          refine lv_aload_n hx hb dX9_step_140 rfl (lv_at hl 0 rfl) ?_
          refine lv_iconst (v := (2 : Int32)) hx hb dX9_step_141 (by decide) ?_
          refine va_put (D := D) (ci := 9) (v := .int (2 : Int32)) (ty := .int) (C := RX9) (T := TX9) (N := 10) hx hb hts hinX9 tyX9 tyX9_ok nmX9 hown hK hP hD hS 0 rfl rfl 5 (by decide) (hts (.fieldLink RX9 40 "WheelBook$Text" "kind" "I") (List.mem_of_getElem? (i := 5) rfl)) (fun _ h9 => h9) rfl (by decide +kernel) rfl rfl (Nat.le_of_ble_eq_true rfl) dX9_step_142 (fun H locs hP hD hS => ?_)
          have hP : va_P D vwCl (wWX9 cB cI cZ a0 (upd I0_3 4 (2 : Int32)) M0_j39) H := hP
          have hD : va_D A (wWX9 cB cI cZ a0 (upd I0_3 4 (2 : Int32)) M0_j39) := hD
          obtain ⟨I0_6, eI0_6, hf⟩ := wb_v hf
          rw [← eI0_6] at hP hD
          refine lv_aload_n hx hb dX9_step_145 rfl (lv_at hl 0 rfl) ?_
          refine lv_iconst (v := (0 : Int32)) hx hb dX9_step_146 (by decide) ?_
          refine va_put (D := D) (ci := 9) (v := .int (0 : Int32)) (ty := .int) (C := RX9) (T := TX9) (N := 10) hx hb hts hinX9 tyX9 tyX9_ok nmX9 hown hK hP hD hS 0 rfl rfl 6 (by decide) (hts (.fieldLink RX9 56 "WheelBook$Text" "value" "I") (List.mem_of_getElem? (i := 6) rfl)) (fun _ h9 => h9) rfl (by decide +kernel) rfl rfl (Nat.le_of_ble_eq_true rfl) dX9_step_147 (fun H locs hP hD hS => ?_)
          have hP : va_P D vwCl (wWX9 cB cI cZ a0 (upd I0_6 5 (0 : Int32)) M0_j39) H := hP
          have hD : va_D A (wWX9 cB cI cZ a0 (upd I0_6 5 (0 : Int32)) M0_j39) := hD
          obtain ⟨I0_7, eI0_7, hf⟩ := wb_v hf
          rw [← eI0_7] at hP hD
          have L150 : ∀ (fu150 : Nat) (I0_l150 : Nat → Int32) (M0_l150 : Nat → Nat → Int32) (H : Heap) (locs : List Loc), va_P D vwCl (wWX9 cB cI cZ a0 I0_l150 M0_l150) H → va_D A (wWX9 cB cI cZ a0 I0_l150 M0_l150) → va_S A s.heap H locs → ∀ (ls : Array Slot), lv_has ls 1 [(0, .ref (a0 0))] → fX9_step_L150 N fu150 I0_l150 M0_l150 = some R → W p l e (headSpec wsX9_step { frames := 1, cells := 0, slots := 0, locals := 20 }).room s m [.ref (a0 0)].toArray below meth c H locs 0 0 (MQ below (va_Qv (fun _ : Unit => True) (fun _ t => wb_post D [(cB, .byte), (cI, .int), (cZ, .boolean)] A (wWX9 cB cI cZ a0 R.1 R.2) t) A) [.ref (a0 0)].toArray s 0 0 A) (F0 m 150 ls []) := by
            intro fu150
            induction fu150 with
            | zero =>
              intro I0_l150 M0_l150 H locs hP hD hS ls hl hf
              exact absurd hf (by rw [fX9_step_L150.eq_1]; exact fun h => nomatch h)
            | succ fu150 ih150 =>
              have J218 : ∀ (I0_j218 : Nat → Int32) (M0_j218 : Nat → Nat → Int32) (z218_0 : Int32) (H : Heap) (locs : List Loc), va_P D vwCl (wWX9 cB cI cZ a0 I0_j218 M0_j218) H → va_D A (wWX9 cB cI cZ a0 I0_j218 M0_j218) → va_S A s.heap H locs → ∀ (ls : Array Slot), lv_has ls 1 [(0, .ref (a0 0))] → fX9_step_J218 N (fX9_step_L150 N fu150) I0_j218 M0_j218 z218_0 = some R → W p l e (headSpec wsX9_step { frames := 1, cells := 0, slots := 0, locals := 20 }).room s m [.ref (a0 0)].toArray below meth c H locs 0 0 (MQ below (va_Qv (fun _ : Unit => True) (fun _ t => wb_post D [(cB, .byte), (cI, .int), (cZ, .boolean)] A (wWX9 cB cI cZ a0 R.1 R.2) t) A) [.ref (a0 0)].toArray s 0 0 A) (F0 m 218 ls [.int z218_0, .ref (a0 0)]) := by
                intro I0_j218 M0_j218 z218_0 H locs hP hD hS ls hl hf
                unfold fX9_step_J218 at hf
                refine va_put (D := D) (ci := 9) (v := .int z218_0) (ty := .int) (C := RX9) (T := TX9) (N := 10) hx hb hts hinX9 tyX9 tyX9_ok nmX9 hown hK hP hD hS 0 rfl rfl 6 (by decide) (hts (.fieldLink RX9 56 "WheelBook$Text" "value" "I") (List.mem_of_getElem? (i := 6) rfl)) (fun _ h9 => h9) rfl (by decide +kernel) rfl rfl (Nat.le_of_ble_eq_true rfl) dX9_step_218 (fun H locs hP hD hS => ?_)
                have hP : va_P D vwCl (wWX9 cB cI cZ a0 (upd I0_j218 5 z218_0) M0_j218) H := hP
                have hD : va_D A (wWX9 cB cI cZ a0 (upd I0_j218 5 z218_0) M0_j218) := hD
                obtain ⟨I0_8, eI0_8, hf⟩ := wb_v hf
                rw [← eI0_8] at hP hD
                refine lv_aload_n hx hb dX9_step_221 rfl (lv_at hl 0 rfl) ?_
                refine lv_dup hx hb dX9_step_222 rfl ?_
                refine va_get (D := D) (ci := 9) (v := .int (I0_8 3)) (C := RX9) (T := TX9) (N := 10) hx hb hts hinX9 hown hK hP 0 rfl rfl 4 (by decide) (hts (.fieldLink RX9 31 "WheelBook$Text" "at" "I") (List.mem_of_getElem? (i := 1) rfl)) (fun _ h9 => h9) rfl dX9_step_223 ?_
                refine lv_iconst (v := (1 : Int32)) hx hb dX9_step_226 (by decide) ?_
                refine lv_iadd hx hb dX9_step_227 ?_
                refine va_put (D := D) (ci := 9) (v := .int ((I0_8 3) + (1 : Int32))) (ty := .int) (C := RX9) (T := TX9) (N := 10) hx hb hts hinX9 tyX9 tyX9_ok nmX9 hown hK hP hD hS 0 rfl rfl 4 (by decide) (hts (.fieldLink RX9 31 "WheelBook$Text" "at" "I") (List.mem_of_getElem? (i := 1) rfl)) (fun _ h9 => h9) rfl (by decide +kernel) rfl rfl (Nat.le_of_ble_eq_true rfl) dX9_step_228 (fun H locs hP hD hS => ?_)
                have hP : va_P D vwCl (wWX9 cB cI cZ a0 (upd I0_8 3 ((I0_8 3) + (1 : Int32))) M0_j218) H := hP
                have hD : va_D A (wWX9 cB cI cZ a0 (upd I0_8 3 ((I0_8 3) + (1 : Int32))) M0_j218) := hD
                obtain ⟨I0_9, eI0_9, hf⟩ := wb_v hf
                rw [← eI0_9] at hP hD
                refine lv_goto (tgt := 150) hx hb dX9_step_231 (by decide) ?_
                exact ih150 I0_9 M0_j218 H locs hP hD hS ls (lv_sub hl [0] rfl) hf
              intro I0_l150 M0_l150 H locs hP hD hS ls hl hf
              rw [fX9_step_L150.eq_2] at hf
              refine lv_aload_n hx hb dX9_step_150 rfl (lv_at hl 0 rfl) ?_
              refine va_get (D := D) (ci := 9) (v := .int (I0_l150 3)) (C := RX9) (T := TX9) (N := 10) hx hb hts hinX9 hown hK hP 0 rfl rfl 4 (by decide) (hts (.fieldLink RX9 31 "WheelBook$Text" "at" "I") (List.mem_of_getElem? (i := 1) rfl)) (fun _ h9 => h9) rfl dX9_step_151 ?_
              refine lv_aload_n hx hb dX9_step_154 rfl (lv_at hl 0 rfl) ?_
              refine va_get (D := D) (ci := 9) (v := .int (I0_l150 1)) (C := RX9) (T := TX9) (N := 10) hx hb hts hinX9 hown hK hP 0 rfl rfl 2 (by decide) (hts (.fieldLink RX9 28 "WheelBook$Text" "end" "I") (List.mem_of_getElem? (i := 2) rfl)) (fun _ h9 => h9) rfl dX9_step_155 ?_
              refine lv_icmp_ge (tgt := 267) hx hb dX9_step_158 (by decide) (fun hc => ?_) (fun hc => ?_)
              · replace hf := wb_t hc hf
                exact W.vret hx hb hr (fun t ht hW => by rw [← Option.some.inj hf]; exact ⟨⟨(), rfl, trivial, by rw [ht]; exact hP, va_K.moved hW.alike hK, hD⟩, hS.F ht⟩) hS.2.2 dX9_step_267
              · replace hf := wb_f hc hf
                refine lv_aload_n hx hb dX9_step_161 rfl (lv_at hl 0 rfl) ?_
                refine va_get (D := D) (ci := 9) (v := .ref (a0 1)) (C := RX9) (T := TX9) (N := 10) hx hb hts hinX9 hown hK hP 0 rfl rfl 0 (by decide) (hts (.fieldLink RX9 11 "WheelBook$Text" "bytes" "[B") (List.mem_of_getElem? (i := 3) rfl)) (fun _ h9 => h9) rfl dX9_step_162 ?_
                refine lv_aload_n hx hb dX9_step_165 rfl (lv_at hl 0 rfl) ?_
                refine va_get (D := D) (ci := 9) (v := .int (I0_l150 3)) (C := RX9) (T := TX9) (N := 10) hx hb hts hinX9 hown hK hP 0 rfl rfl 4 (by decide) (hts (.fieldLink RX9 31 "WheelBook$Text" "at" "I") (List.mem_of_getElem? (i := 1) rfl)) (fun _ h9 => h9) rfl dX9_step_166 ?_
                obtain ⟨hin, hf⟩ := wb_n hf
                refine va_bald hx hb hK hP 1 0 rfl rfl hin dX9_step_169 ?_
                obtain ⟨r10, hr10, hf⟩ := wb_b hf
                refine vp_callSi (W.runS (As := [.int (M0_l150 0 ((I0_l150 3)).toNatClampNeg)]) (rest := []) ⟨hx, hb, hml, hown, hts⟩ (cn_X9_isDigit l D cB cI cZ N (M0_l150 0 ((I0_l150 3)).toNatClampNeg) r10 hr10) (va_cwS 1 hts gX9_step_X9_isDigit rfl rfl rfl csX9_isDigit ⟨Nat.le_of_ble_eq_true rfl, Nat.le_of_ble_eq_true rfl⟩) (wb_preS (hP.sub (ws' := ([] : va_W)) [] rfl) hK) rfl rfl hl.1 rfl (lv_room (Nat.le_of_ble_eq_true rfl)) dX9_step_170 ⟨Nat.le_of_ble_eq_true rfl, Nat.le_of_ble_eq_true rfl⟩) (fun r9 e9 => ?_)
                rw [e9]
                refine lv_if_eq (tgt := 267) hx hb dX9_step_173 (by decide) (fun hc => ?_) (fun hc => ?_)
                · replace hf := wb_t hc hf
                  exact W.vret hx hb hr (fun t ht hW => by rw [← Option.some.inj hf]; exact ⟨⟨(), rfl, trivial, by rw [ht]; exact hP, va_K.moved hW.alike hK, hD⟩, hS.F ht⟩) hS.2.2 dX9_step_267
                · replace hf := wb_f hc hf
                  refine lv_aload_n hx hb dX9_step_176 rfl (lv_at hl 0 rfl) ?_
                  refine lv_aload_n hx hb dX9_step_177 rfl (lv_at hl 0 rfl) ?_
                  refine va_get (D := D) (ci := 9) (v := .int (I0_l150 3)) (C := RX9) (T := TX9) (N := 10) hx hb hts hinX9 hown hK hP 0 rfl rfl 4 (by decide) (hts (.fieldLink RX9 31 "WheelBook$Text" "at" "I") (List.mem_of_getElem? (i := 1) rfl)) (fun _ h9 => h9) rfl dX9_step_178 ?_
                  refine lv_aload_n hx hb dX9_step_181 rfl (lv_at hl 0 rfl) ?_
                  refine va_get (D := D) (ci := 9) (v := .int (I0_l150 2)) (C := RX9) (T := TX9) (N := 10) hx hb hts hinX9 hown hK hP 0 rfl rfl 3 (by decide) (hts (.fieldLink RX9 47 "WheelBook$Text" "start" "I") (List.mem_of_getElem? (i := 4) rfl)) (fun _ h9 => h9) rfl dX9_step_182 ?_
                  refine lv_isub hx hb dX9_step_185 ?_
                  refine lv_bipush (v := (7 : Int32)) hx hb dX9_step_186 (by decide) ?_
                  refine lv_icmp_ge (tgt := 214) hx hb dX9_step_188 (by decide) (fun hc => ?_) (fun hc => ?_)
                  · replace hf := wb_t hc hf
                    refine lv_aload_n hx hb dX9_step_214 rfl (lv_at hl 0 rfl) ?_
                    refine va_get (D := D) (ci := 9) (v := .int (I0_l150 5)) (C := RX9) (T := TX9) (N := 10) hx hb hts hinX9 hown hK hP 0 rfl rfl 6 (by decide) (hts (.fieldLink RX9 56 "WheelBook$Text" "value" "I") (List.mem_of_getElem? (i := 6) rfl)) (fun _ h9 => h9) rfl dX9_step_215 ?_
                    exact J218 I0_l150 M0_l150 (I0_l150 5) H locs hP hD hS ls (lv_sub hl [0] rfl) hf
                  · replace hf := wb_f hc hf
                    refine lv_bipush (v := (10 : Int32)) hx hb dX9_step_191 (by decide) ?_
                    refine lv_aload_n hx hb dX9_step_193 rfl (lv_at hl 0 rfl) ?_
                    refine va_get (D := D) (ci := 9) (v := .int (I0_l150 5)) (C := RX9) (T := TX9) (N := 10) hx hb hts hinX9 hown hK hP 0 rfl rfl 6 (by decide) (hts (.fieldLink RX9 56 "WheelBook$Text" "value" "I") (List.mem_of_getElem? (i := 6) rfl)) (fun _ h9 => h9) rfl dX9_step_194 ?_
                    refine lv_imul hx hb dX9_step_197 ?_
                    refine lv_aload_n hx hb dX9_step_198 rfl (lv_at hl 0 rfl) ?_
                    refine va_get (D := D) (ci := 9) (v := .ref (a0 1)) (C := RX9) (T := TX9) (N := 10) hx hb hts hinX9 hown hK hP 0 rfl rfl 0 (by decide) (hts (.fieldLink RX9 11 "WheelBook$Text" "bytes" "[B") (List.mem_of_getElem? (i := 3) rfl)) (fun _ h9 => h9) rfl dX9_step_199 ?_
                    refine lv_aload_n hx hb dX9_step_202 rfl (lv_at hl 0 rfl) ?_
                    refine va_get (D := D) (ci := 9) (v := .int (I0_l150 3)) (C := RX9) (T := TX9) (N := 10) hx hb hts hinX9 hown hK hP 0 rfl rfl 4 (by decide) (hts (.fieldLink RX9 31 "WheelBook$Text" "at" "I") (List.mem_of_getElem? (i := 1) rfl)) (fun _ h9 => h9) rfl dX9_step_203 ?_
                    obtain ⟨hin, hf⟩ := wb_n hf
                    refine va_bald hx hb hK hP 1 0 rfl rfl hin dX9_step_206 ?_
                    refine lv_iadd hx hb dX9_step_207 ?_
                    refine lv_bipush (v := (48 : Int32)) hx hb dX9_step_208 (by decide) ?_
                    refine lv_isub hx hb dX9_step_210 ?_
                    refine lv_goto (tgt := 218) hx hb dX9_step_211 (by decide) ?_
                    exact J218 I0_l150 M0_l150 ((((10 : Int32) * (I0_l150 5)) + (M0_l150 0 ((I0_l150 3)).toNatClampNeg)) - (48 : Int32)) H locs hP hD hS ls (lv_sub hl [0] rfl) hf
          exact L150 N I0_7 M0_j39 H locs hP hD hS ls (lv_sub hl [0] rfl) hf
      · replace hf := wb_f hc hf
        refine lv_aload_n hx hb dX9_step_81 rfl (lv_at hl 0 rfl) ?_
        refine lv_iconst (v := (1 : Int32)) hx hb dX9_step_82 (by decide) ?_
        refine va_put (D := D) (ci := 9) (v := .int (1 : Int32)) (ty := .int) (C := RX9) (T := TX9) (N := 10) hx hb hts hinX9 tyX9 tyX9_ok nmX9 hown hK hP hD hS 0 rfl rfl 5 (by decide) (hts (.fieldLink RX9 40 "WheelBook$Text" "kind" "I") (List.mem_of_getElem? (i := 5) rfl)) (fun _ h9 => h9) rfl (by decide +kernel) rfl rfl (Nat.le_of_ble_eq_true rfl) dX9_step_83 (fun H locs hP hD hS => ?_)
        have hP : va_P D vwCl (wWX9 cB cI cZ a0 (upd I0_3 4 (1 : Int32)) M0_j39) H := hP
        have hD : va_D A (wWX9 cB cI cZ a0 (upd I0_3 4 (1 : Int32)) M0_j39) := hD
        obtain ⟨I0_11, eI0_11, hf⟩ := wb_v hf
        rw [← eI0_11] at hP hD
        have L86 : ∀ (fu86 : Nat) (I0_l86 : Nat → Int32) (M0_l86 : Nat → Nat → Int32) (H : Heap) (locs : List Loc), va_P D vwCl (wWX9 cB cI cZ a0 I0_l86 M0_l86) H → va_D A (wWX9 cB cI cZ a0 I0_l86 M0_l86) → va_S A s.heap H locs → ∀ (ls : Array Slot), lv_has ls 1 [(0, .ref (a0 0))] → fX9_step_L86 N fu86 I0_l86 M0_l86 = some R → W p l e (headSpec wsX9_step { frames := 1, cells := 0, slots := 0, locals := 20 }).room s m [.ref (a0 0)].toArray below meth c H locs 0 0 (MQ below (va_Qv (fun _ : Unit => True) (fun _ t => wb_post D [(cB, .byte), (cI, .int), (cZ, .boolean)] A (wWX9 cB cI cZ a0 R.1 R.2) t) A) [.ref (a0 0)].toArray s 0 0 A) (F0 m 86 ls []) := by
          intro fu86
          induction fu86 with
          | zero =>
            intro I0_l86 M0_l86 H locs hP hD hS ls hl hf
            exact absurd hf (by rw [fX9_step_L86.eq_1]; exact fun h => nomatch h)
          | succ fu86 ih86 =>
            intro I0_l86 M0_l86 H locs hP hD hS ls hl hf
            rw [fX9_step_L86.eq_2] at hf
            refine lv_aload_n hx hb dX9_step_86 rfl (lv_at hl 0 rfl) ?_
            refine va_get (D := D) (ci := 9) (v := .int (I0_l86 3)) (C := RX9) (T := TX9) (N := 10) hx hb hts hinX9 hown hK hP 0 rfl rfl 4 (by decide) (hts (.fieldLink RX9 31 "WheelBook$Text" "at" "I") (List.mem_of_getElem? (i := 1) rfl)) (fun _ h9 => h9) rfl dX9_step_87 ?_
            refine lv_aload_n hx hb dX9_step_90 rfl (lv_at hl 0 rfl) ?_
            refine va_get (D := D) (ci := 9) (v := .int (I0_l86 1)) (C := RX9) (T := TX9) (N := 10) hx hb hts hinX9 hown hK hP 0 rfl rfl 2 (by decide) (hts (.fieldLink RX9 28 "WheelBook$Text" "end" "I") (List.mem_of_getElem? (i := 2) rfl)) (fun _ h9 => h9) rfl dX9_step_91 ?_
            refine lv_icmp_ge (tgt := 267) hx hb dX9_step_94 (by decide) (fun hc => ?_) (fun hc => ?_)
            · replace hf := wb_t hc hf
              exact W.vret hx hb hr (fun t ht hW => by rw [← Option.some.inj hf]; exact ⟨⟨(), rfl, trivial, by rw [ht]; exact hP, va_K.moved hW.alike hK, hD⟩, hS.F ht⟩) hS.2.2 dX9_step_267
            · replace hf := wb_f hc hf
              refine lv_aload_n hx hb dX9_step_97 rfl (lv_at hl 0 rfl) ?_
              refine va_get (D := D) (ci := 9) (v := .ref (a0 1)) (C := RX9) (T := TX9) (N := 10) hx hb hts hinX9 hown hK hP 0 rfl rfl 0 (by decide) (hts (.fieldLink RX9 11 "WheelBook$Text" "bytes" "[B") (List.mem_of_getElem? (i := 3) rfl)) (fun _ h9 => h9) rfl dX9_step_98 ?_
              refine lv_aload_n hx hb dX9_step_101 rfl (lv_at hl 0 rfl) ?_
              refine va_get (D := D) (ci := 9) (v := .int (I0_l86 3)) (C := RX9) (T := TX9) (N := 10) hx hb hts hinX9 hown hK hP 0 rfl rfl 4 (by decide) (hts (.fieldLink RX9 31 "WheelBook$Text" "at" "I") (List.mem_of_getElem? (i := 1) rfl)) (fun _ h9 => h9) rfl dX9_step_102 ?_
              obtain ⟨hin, hf⟩ := wb_n hf
              refine va_bald hx hb hK hP 1 0 rfl rfl hin dX9_step_105 ?_
              obtain ⟨r12, hr12, hf⟩ := wb_b hf
              refine vp_callSi (W.runS (As := [.int (M0_l86 0 ((I0_l86 3)).toNatClampNeg)]) (rest := []) ⟨hx, hb, hml, hown, hts⟩ (cn_X9_isLetter l D cB cI cZ N (M0_l86 0 ((I0_l86 3)).toNatClampNeg) r12 hr12) (va_cwS 1 hts gX9_step_X9_isLetter rfl rfl rfl csX9_isLetter ⟨Nat.le_of_ble_eq_true rfl, Nat.le_of_ble_eq_true rfl⟩) (wb_preS (hP.sub (ws' := ([] : va_W)) [] rfl) hK) rfl rfl hl.1 rfl (lv_room (Nat.le_of_ble_eq_true rfl)) dX9_step_106 ⟨Nat.le_of_ble_eq_true rfl, Nat.le_of_ble_eq_true rfl⟩) (fun r9 e9 => ?_)
              rw [e9]
              refine lv_if_eq (tgt := 267) hx hb dX9_step_109 (by decide) (fun hc => ?_) (fun hc => ?_)
              · replace hf := wb_t hc hf
                exact W.vret hx hb hr (fun t ht hW => by rw [← Option.some.inj hf]; exact ⟨⟨(), rfl, trivial, by rw [ht]; exact hP, va_K.moved hW.alike hK, hD⟩, hS.F ht⟩) hS.2.2 dX9_step_267
              · replace hf := wb_f hc hf
                refine lv_aload_n hx hb dX9_step_112 rfl (lv_at hl 0 rfl) ?_
                refine lv_dup hx hb dX9_step_113 rfl ?_
                refine va_get (D := D) (ci := 9) (v := .int (I0_l86 3)) (C := RX9) (T := TX9) (N := 10) hx hb hts hinX9 hown hK hP 0 rfl rfl 4 (by decide) (hts (.fieldLink RX9 31 "WheelBook$Text" "at" "I") (List.mem_of_getElem? (i := 1) rfl)) (fun _ h9 => h9) rfl dX9_step_114 ?_
                refine lv_iconst (v := (1 : Int32)) hx hb dX9_step_117 (by decide) ?_
                refine lv_iadd hx hb dX9_step_118 ?_
                refine va_put (D := D) (ci := 9) (v := .int ((I0_l86 3) + (1 : Int32))) (ty := .int) (C := RX9) (T := TX9) (N := 10) hx hb hts hinX9 tyX9 tyX9_ok nmX9 hown hK hP hD hS 0 rfl rfl 4 (by decide) (hts (.fieldLink RX9 31 "WheelBook$Text" "at" "I") (List.mem_of_getElem? (i := 1) rfl)) (fun _ h9 => h9) rfl (by decide +kernel) rfl rfl (Nat.le_of_ble_eq_true rfl) dX9_step_119 (fun H locs hP hD hS => ?_)
                have hP : va_P D vwCl (wWX9 cB cI cZ a0 (upd I0_l86 3 ((I0_l86 3) + (1 : Int32))) M0_l86) H := hP
                have hD : va_D A (wWX9 cB cI cZ a0 (upd I0_l86 3 ((I0_l86 3) + (1 : Int32))) M0_l86) := hD
                obtain ⟨I0_13, eI0_13, hf⟩ := wb_v hf
                rw [← eI0_13] at hP hD
                refine lv_goto (tgt := 86) hx hb dX9_step_122 (by decide) ?_
                exact ih86 I0_13 M0_l86 H locs hP hD hS ls (lv_sub hl [0] rfl) hf
        exact L86 N I0_11 M0_j39 H locs hP hD hS ls (lv_sub hl [0] rfl) hf
    · replace hf := wb_f hc hf
      refine lv_aload_n hx hb dX9_step_58 rfl (lv_at hl 0 rfl) ?_
      refine lv_iconst (v := (0 : Int32)) hx hb dX9_step_59 (by decide) ?_
      refine va_put (D := D) (ci := 9) (v := .int (0 : Int32)) (ty := .int) (C := RX9) (T := TX9) (N := 10) hx hb hts hinX9 tyX9 tyX9_ok nmX9 hown hK hP hD hS 0 rfl rfl 5 (by decide) (hts (.fieldLink RX9 40 "WheelBook$Text" "kind" "I") (List.mem_of_getElem? (i := 5) rfl)) (fun _ h9 => h9) rfl (by decide +kernel) rfl rfl (Nat.le_of_ble_eq_true rfl) dX9_step_60 (fun H locs hP hD hS => ?_)
      have hP : va_P D vwCl (wWX9 cB cI cZ a0 (upd I0_3 4 (0 : Int32)) M0_j39) H := hP
      have hD : va_D A (wWX9 cB cI cZ a0 (upd I0_3 4 (0 : Int32)) M0_j39) := hD
      obtain ⟨I0_14, eI0_14, hf⟩ := wb_v hf
      rw [← eI0_14] at hP hD
      refine lv_goto (tgt := 267) hx hb dX9_step_63 (by decide) ?_
      exact W.vret hx hb hr (fun t ht hW => by rw [← Option.some.inj hf]; exact ⟨⟨(), rfl, trivial, by rw [ht]; exact hP, va_K.moved hW.alike hK, hD⟩, hS.F ht⟩) hS.2.2 dX9_step_267
  have L0 : ∀ (fu0 : Nat) (I0_l0 : Nat → Int32) (M0_l0 : Nat → Nat → Int32) (H : Heap) (locs : List Loc), va_P D vwCl (wWX9 cB cI cZ a0 I0_l0 M0_l0) H → va_D A (wWX9 cB cI cZ a0 I0_l0 M0_l0) → va_S A s.heap H locs → ∀ (ls : Array Slot), lv_has ls 1 [(0, .ref (a0 0))] → fX9_step_L0 N fu0 I0_l0 M0_l0 = some R → W p l e (headSpec wsX9_step { frames := 1, cells := 0, slots := 0, locals := 20 }).room s m [.ref (a0 0)].toArray below meth c H locs 0 0 (MQ below (va_Qv (fun _ : Unit => True) (fun _ t => wb_post D [(cB, .byte), (cI, .int), (cZ, .boolean)] A (wWX9 cB cI cZ a0 R.1 R.2) t) A) [.ref (a0 0)].toArray s 0 0 A) (F0 m 0 ls []) := by
    intro fu0
    induction fu0 with
    | zero =>
      intro I0_l0 M0_l0 H locs hP hD hS ls hl hf
      exact absurd hf (by rw [fX9_step_L0.eq_1]; exact fun h => nomatch h)
    | succ fu0 ih0 =>
      intro I0_l0 M0_l0 H locs hP hD hS ls hl hf
      rw [fX9_step_L0.eq_2] at hf
      refine lv_aload_n hx hb dX9_step_0 rfl (lv_at hl 0 rfl) ?_
      refine va_get (D := D) (ci := 9) (v := .int (I0_l0 3)) (C := RX9) (T := TX9) (N := 10) hx hb hts hinX9 hown hK hP 0 rfl rfl 4 (by decide) (hts (.fieldLink RX9 31 "WheelBook$Text" "at" "I") (List.mem_of_getElem? (i := 1) rfl)) (fun _ h9 => h9) rfl dX9_step_1 ?_
      refine lv_aload_n hx hb dX9_step_4 rfl (lv_at hl 0 rfl) ?_
      refine va_get (D := D) (ci := 9) (v := .int (I0_l0 1)) (C := RX9) (T := TX9) (N := 10) hx hb hts hinX9 hown hK hP 0 rfl rfl 2 (by decide) (hts (.fieldLink RX9 28 "WheelBook$Text" "end" "I") (List.mem_of_getElem? (i := 2) rfl)) (fun _ h9 => h9) rfl dX9_step_5 ?_
      refine lv_icmp_ge (tgt := 39) hx hb dX9_step_8 (by decide) (fun hc => ?_) (fun hc => ?_)
      · replace hf := wb_t hc hf
        exact J39 I0_l0 M0_l0 H locs hP hD hS ls (lv_sub hl [0] rfl) hf
      · replace hf := wb_f hc hf
        refine lv_aload_n hx hb dX9_step_11 rfl (lv_at hl 0 rfl) ?_
        refine va_get (D := D) (ci := 9) (v := .ref (a0 1)) (C := RX9) (T := TX9) (N := 10) hx hb hts hinX9 hown hK hP 0 rfl rfl 0 (by decide) (hts (.fieldLink RX9 11 "WheelBook$Text" "bytes" "[B") (List.mem_of_getElem? (i := 3) rfl)) (fun _ h9 => h9) rfl dX9_step_12 ?_
        refine lv_aload_n hx hb dX9_step_15 rfl (lv_at hl 0 rfl) ?_
        refine va_get (D := D) (ci := 9) (v := .int (I0_l0 3)) (C := RX9) (T := TX9) (N := 10) hx hb hts hinX9 hown hK hP 0 rfl rfl 4 (by decide) (hts (.fieldLink RX9 31 "WheelBook$Text" "at" "I") (List.mem_of_getElem? (i := 1) rfl)) (fun _ h9 => h9) rfl dX9_step_16 ?_
        obtain ⟨hin, hf⟩ := wb_n hf
        refine va_bald hx hb hK hP 1 0 rfl rfl hin dX9_step_19 ?_
        obtain ⟨r15, hr15, hf⟩ := wb_b hf
        refine vp_callSi (W.runS (As := [.int (M0_l0 0 ((I0_l0 3)).toNatClampNeg)]) (rest := []) ⟨hx, hb, hml, hown, hts⟩ (cn_X9_isBlank l D cB cI cZ N (M0_l0 0 ((I0_l0 3)).toNatClampNeg) r15 hr15) (va_cwS 1 hts gX9_step_X9_isBlank rfl rfl rfl csX9_isBlank ⟨Nat.le_of_ble_eq_true rfl, Nat.le_of_ble_eq_true rfl⟩) (wb_preS (hP.sub (ws' := ([] : va_W)) [] rfl) hK) rfl rfl hl.1 rfl (lv_room (Nat.le_of_ble_eq_true rfl)) dX9_step_20 ⟨Nat.le_of_ble_eq_true rfl, Nat.le_of_ble_eq_true rfl⟩) (fun r9 e9 => ?_)
        rw [e9]
        refine lv_if_eq (tgt := 39) hx hb dX9_step_23 (by decide) (fun hc => ?_) (fun hc => ?_)
        · replace hf := wb_t hc hf
          exact J39 I0_l0 M0_l0 H locs hP hD hS ls (lv_sub hl [0] rfl) hf
        · replace hf := wb_f hc hf
          refine lv_aload_n hx hb dX9_step_26 rfl (lv_at hl 0 rfl) ?_
          refine lv_dup hx hb dX9_step_27 rfl ?_
          refine va_get (D := D) (ci := 9) (v := .int (I0_l0 3)) (C := RX9) (T := TX9) (N := 10) hx hb hts hinX9 hown hK hP 0 rfl rfl 4 (by decide) (hts (.fieldLink RX9 31 "WheelBook$Text" "at" "I") (List.mem_of_getElem? (i := 1) rfl)) (fun _ h9 => h9) rfl dX9_step_28 ?_
          refine lv_iconst (v := (1 : Int32)) hx hb dX9_step_31 (by decide) ?_
          refine lv_iadd hx hb dX9_step_32 ?_
          refine va_put (D := D) (ci := 9) (v := .int ((I0_l0 3) + (1 : Int32))) (ty := .int) (C := RX9) (T := TX9) (N := 10) hx hb hts hinX9 tyX9 tyX9_ok nmX9 hown hK hP hD hS 0 rfl rfl 4 (by decide) (hts (.fieldLink RX9 31 "WheelBook$Text" "at" "I") (List.mem_of_getElem? (i := 1) rfl)) (fun _ h9 => h9) rfl (by decide +kernel) rfl rfl (Nat.le_of_ble_eq_true rfl) dX9_step_33 (fun H locs hP hD hS => ?_)
          have hP : va_P D vwCl (wWX9 cB cI cZ a0 (upd I0_l0 3 ((I0_l0 3) + (1 : Int32))) M0_l0) H := hP
          have hD : va_D A (wWX9 cB cI cZ a0 (upd I0_l0 3 ((I0_l0 3) + (1 : Int32))) M0_l0) := hD
          obtain ⟨I0_16, eI0_16, hf⟩ := wb_v hf
          rw [← eI0_16] at hP hD
          refine lv_goto (tgt := 0) hx hb dX9_step_36 (by decide) ?_
          exact ih0 I0_16 M0_l0 H locs hP hD hS ls (lv_sub hl [0] rfl) hf
  exact L0 N I0 M0 H locs hP hD hS ls (lv_sub hl [0] rfl) hf

set_option maxHeartbeats 4000000 in
set_option maxRecDepth 100000 in
theorem cn_X9_begin (l : Launch) (D : va_G) (cB cI cZ : ClassId) (N : Nat) (a0 : Nat → Nat) (I0 : Nat → Int32) (M0 : Nat → Nat → Int32) (x1 : Int32) (sz : Nat) (R : (Nat → Int32) × (Nat → Nat → Int32)) (hf : fX9_begin N I0 M0 x1 = some R) : Met l yX9_begin wsX9_begin ({ frames := 2, cells := 0, slots := 0, locals := 40 }) (va_Pc [.ref (a0 0), .int x1] (wb_preD D [(cB, .byte), (cI, .int), (cZ, .boolean)] (wWX9 cB cI cZ a0 I0 M0) sz)) (va_Qv (fun _ : Unit => True) (fun _ t => wb_post D [(cB, .byte), (cI, .int), (cZ, .boolean)] (va_A (wWX9 cB cI cZ a0 I0 M0) sz) (wWX9 cB cI cZ a0 R.1 R.2) t) (va_A (wWX9 cB cI cZ a0 I0 M0) sz)) 0 0 (va_A (wWX9 cB cI cZ a0 I0 M0) sz) := by
  refine Met.ofW (cc := cX9_begin) (maxL := 2) (ret := none) (by decide) rfl ?_
  intro p e s m args below meth c s₁ B hml hv
  obtain ⟨rfl, hsz, hP, hK, hD0⟩ := hv
  have hx := B.exec
  have hb := B.bytes
  have hr := B.returns
  have hts := atoms_spec (ws := wsX9_begin) B.pre
  have hown : s.vm.findClass RX9 = some m.cls := findClass_of_methodNamed B.named
  have hlocks := B.notSynchronized
  have hinX9 : ∀ w ∈ u_ws RX9 TX9 10, w ∈ wsX9_begin := fun w h => List.mem_cons_of_mem _ (List.mem_append_right _ h)
  subst hsz
  have hD := hD0.self (sz := s.heap.size)
  generalize hAe : va_A (wWX9 cB cI cZ a0 I0 M0) s.heap.size = A at hD ⊢
  have hA : ∀ q : Nat, s.heap.size ≤ q → A q := fun q h => by rw [← hAe]; exact Or.inr h
  have hS : va_S A s.heap s.heap [] := va_S.rf
  have hl := lv_entry ([.ref (a0 0), .int x1]) (n := 2) (Nat.le_of_ble_eq_true rfl)
  rw [lg_entry_eq]
  generalize (lg_sl ([.ref (a0 0), .int x1]) ++ List.replicate (2 - (lg_sl ([.ref (a0 0), .int x1])).length) Slot.unset).toArray = ls at hl ⊢
  have hl : lv_has ls 2 [(0, .ref (a0 0)), (1, .int x1)] := hl
  unfold fX9_begin at hf
  obtain ⟨H, hHe⟩ : ∃ H : Heap, H = s.heap := ⟨_, rfl⟩
  obtain ⟨locs, hle⟩ : ∃ locs : List Loc, locs = [] := ⟨_, rfl⟩
  refine wb_start (H := H) (locs := locs) hHe hle ?_
  rw [← hHe] at hP
  have hS : va_S A s.heap H locs := by rw [hHe, hle]; exact va_S.rf
  refine lv_aload_n hx hb dX9_begin_0 rfl (lv_at hl 0 rfl) ?_
  refine lv_iload_n hx hb dX9_begin_1 rfl (lv_at hl 1 rfl) ?_
  refine lv_aload_n hx hb dX9_begin_2 rfl (lv_at hl 0 rfl) ?_
  refine va_get (D := D) (ci := 9) (v := .int (I0 0)) (C := RX9) (T := TX9) (N := 10) hx hb hts hinX9 hown hK hP 0 rfl rfl 1 (by decide) (hts (.fieldLink RX9 19 "WheelBook$Text" "length" "I") (List.mem_of_getElem? (i := 1) rfl)) (fun _ h9 => h9) rfl dX9_begin_3 ?_
  refine va_mmin hx hb (hml.trans hl.1.symm) hown (hts (.methodLink RX9 22 Lib.Math.min.name) (List.mem_of_getElem? (i := 2) rfl)) (hts (.static Lib.Math.min.name) (List.mem_of_getElem? (i := 3) rfl)) (hts (.initialized "java/lang/Math") (List.mem_of_getElem? (i := 4) rfl)) (hts (.code Lib.Math.min.name Lib.Math.min.code 2 (some .int)) (List.mem_of_getElem? (i := 5) rfl)) (Nat.le_of_ble_eq_true rfl) (Nat.le_of_ble_eq_true rfl) (Nat.zero_le _) (Nat.zero_le _) dX9_begin_6 ?_
  refine va_put (D := D) (ci := 9) (v := .int (if (I0 0) < x1 then (I0 0) else x1)) (ty := .int) (C := RX9) (T := TX9) (N := 10) hx hb hts hinX9 tyX9 tyX9_ok nmX9 hown hK hP hD hS 0 rfl rfl 2 (by decide) (hts (.fieldLink RX9 28 "WheelBook$Text" "end" "I") (List.mem_of_getElem? (i := 6) rfl)) (fun _ h9 => h9) rfl (by decide +kernel) rfl rfl (Nat.le_of_ble_eq_true rfl) dX9_begin_9 (fun H locs hP hD hS => ?_)
  have hP : va_P D vwCl (wWX9 cB cI cZ a0 (upd I0 1 (if (I0 0) < x1 then (I0 0) else x1)) M0) H := hP
  have hD : va_D A (wWX9 cB cI cZ a0 (upd I0 1 (if (I0 0) < x1 then (I0 0) else x1)) M0) := hD
  obtain ⟨I0_1, eI0_1, hf⟩ := wb_v hf
  rw [← eI0_1] at hP hD
  refine lv_aload_n hx hb dX9_begin_12 rfl (lv_at hl 0 rfl) ?_
  refine lv_iconst (v := (0 : Int32)) hx hb dX9_begin_13 (by decide) ?_
  refine va_put (D := D) (ci := 9) (v := .int (0 : Int32)) (ty := .int) (C := RX9) (T := TX9) (N := 10) hx hb hts hinX9 tyX9 tyX9_ok nmX9 hown hK hP hD hS 0 rfl rfl 1 (by decide) (hts (.fieldLink RX9 19 "WheelBook$Text" "length" "I") (List.mem_of_getElem? (i := 1) rfl)) (fun _ h9 => h9) rfl (by decide +kernel) rfl rfl (Nat.le_of_ble_eq_true rfl) dX9_begin_14 (fun H locs hP hD hS => ?_)
  have hP : va_P D vwCl (wWX9 cB cI cZ a0 (upd I0_1 0 (0 : Int32)) M0) H := hP
  have hD : va_D A (wWX9 cB cI cZ a0 (upd I0_1 0 (0 : Int32)) M0) := hD
  obtain ⟨I0_2, eI0_2, hf⟩ := wb_v hf
  rw [← eI0_2] at hP hD
  refine lv_aload_n hx hb dX9_begin_17 rfl (lv_at hl 0 rfl) ?_
  refine lv_iconst (v := (0 : Int32)) hx hb dX9_begin_18 (by decide) ?_
  refine va_put (D := D) (ci := 9) (v := .int (0 : Int32)) (ty := .int) (C := RX9) (T := TX9) (N := 10) hx hb hts hinX9 tyX9 tyX9_ok nmX9 hown hK hP hD hS 0 rfl rfl 4 (by decide) (hts (.fieldLink RX9 31 "WheelBook$Text" "at" "I") (List.mem_of_getElem? (i := 7) rfl)) (fun _ h9 => h9) rfl (by decide +kernel) rfl rfl (Nat.le_of_ble_eq_true rfl) dX9_begin_19 (fun H locs hP hD hS => ?_)
  have hP : va_P D vwCl (wWX9 cB cI cZ a0 (upd I0_2 3 (0 : Int32)) M0) H := hP
  have hD : va_D A (wWX9 cB cI cZ a0 (upd I0_2 3 (0 : Int32)) M0) := hD
  obtain ⟨I0_3, eI0_3, hf⟩ := wb_v hf
  rw [← eI0_3] at hP hD
  refine lv_aload_n hx hb dX9_begin_22 rfl (lv_at hl 0 rfl) ?_
  refine lv_iconst (v := (0 : Int32)) hx hb dX9_begin_23 (by decide) ?_
  refine va_put (D := D) (ci := 9) (v := .int (0 : Int32)) (ty := .int) (C := RX9) (T := TX9) (N := 10) hx hb hts hinX9 tyX9 tyX9_ok nmX9 hown hK hP hD hS 0 rfl rfl 8 (by decide) (hts (.fieldLink RX9 34 "WheelBook$Text" "faultKind" "I") (List.mem_of_getElem? (i := 8) rfl)) (fun _ h9 => h9) rfl (by decide +kernel) rfl rfl (Nat.le_of_ble_eq_true rfl) dX9_begin_24 (fun H locs hP hD hS => ?_)
  have hP : va_P D vwCl (wWX9 cB cI cZ a0 (upd I0_3 7 (0 : Int32)) M0) H := hP
  have hD : va_D A (wWX9 cB cI cZ a0 (upd I0_3 7 (0 : Int32)) M0) := hD
  obtain ⟨I0_4, eI0_4, hf⟩ := wb_v hf
  rw [← eI0_4] at hP hD
  refine lv_aload_n hx hb dX9_begin_27 rfl (lv_at hl 0 rfl) ?_
  refine lv_iconst (v := (-1 : Int32)) hx hb dX9_begin_28 (by decide) ?_
  refine va_put (D := D) (ci := 9) (v := .int (-1 : Int32)) (ty := .int) (C := RX9) (T := TX9) (N := 10) hx hb hts hinX9 tyX9 tyX9_ok nmX9 hown hK hP hD hS 0 rfl rfl 9 (by decide) (hts (.fieldLink RX9 15 "WheelBook$Text" "faultPlace" "I") (List.mem_of_getElem? (i := 9) rfl)) (fun _ h9 => h9) rfl (by decide +kernel) rfl rfl (Nat.le_of_ble_eq_true rfl) dX9_begin_29 (fun H locs hP hD hS => ?_)
  have hP : va_P D vwCl (wWX9 cB cI cZ a0 (upd I0_4 8 (-1 : Int32)) M0) H := hP
  have hD : va_D A (wWX9 cB cI cZ a0 (upd I0_4 8 (-1 : Int32)) M0) := hD
  obtain ⟨I0_5, eI0_5, hf⟩ := wb_v hf
  rw [← eI0_5] at hP hD
  refine lv_aload_n hx hb dX9_begin_32 rfl (lv_at hl 0 rfl) ?_
  obtain ⟨r6, hr6, hf⟩ := wb_b hf
  have hPc := hP.sub (ws' := (wWX9 cB cI cZ a0 I0_5 M0)) [0, 1] rfl
  have hDc := hD.sub (ws' := (wWX9 cB cI cZ a0 I0_5 M0)) [0, 1] (by decide) rfl
  have hFc := va_free (wc := (wWX9 cB cI cZ a0 I0_5 M0)) hD hS hA [0, 1] rfl
  refine va_callv (va_runV (As := []) (rest := []) ⟨hx, hb, hml, hown, hts⟩ (cn_X9_step l D cB cI cZ N a0 I0_5 M0 H.size r6 hr6) (cwV 0 hts gX9_begin_X9_step rfl rfl rfl cdX9_step ⟨Nat.le_of_ble_eq_true rfl, Nat.le_of_ble_eq_true rfl⟩) (wb_preDV hPc hK hDc (va_recv hK hP (ci := 9) (q0 := 0) rfl rfl)) rfl rfl hl.1 rfl (lv_room (Nat.le_of_ble_eq_true rfl)) dX9_begin_33 ⟨Nat.le_of_ble_eq_true rfl, Nat.le_of_ble_eq_true rfl⟩) hS (fun q _ h => hFc q h) hFc (fun u t H locs ht hvm hw hB hz1 hk1 hS => ?_)
  obtain ⟨hP, hD⟩ := wb_join (wc := (wWX9 cB cI cZ a0 I0_5 M0)) (w1 := (wWX9 cB cI cZ a0 r6.1 r6.2)) (wf := (wWX9 cB cI cZ a0 r6.1 r6.2)) hP hD [0, 1] [] [0, 1] rfl rfl (by decide) (by decide) (by decide) rfl hk1 hFc ht hB
  exact W.vret hx hb hr (fun t ht hW => by rw [← Option.some.inj hf]; exact ⟨⟨(), rfl, trivial, by rw [ht]; exact hP, va_K.moved hW.alike hK, hD⟩, hS.F ht⟩) hS.2.2 dX9_begin_36

set_option maxHeartbeats 4000000 in
set_option maxRecDepth 100000 in
theorem cn_X9_refuse (l : Launch) (D : va_G) (cB cI cZ : ClassId) (N : Nat) (a0 : Nat → Nat) (I0 : Nat → Int32) (M0 : Nat → Nat → Int32) (x1 : Int32) (sz : Nat) (R : Int32 × (Nat → Int32) × (Nat → Nat → Int32)) (hf : fX9_refuse N I0 M0 x1 = some R) : Met l yX9_refuse wsX9_refuse ({ frames := 0, cells := 0, slots := 0, locals := 0 }) (va_Pc [.ref (a0 0), .int x1] (wb_preD D [(cB, .byte), (cI, .int), (cZ, .boolean)] (wWX9 cB cI cZ a0 I0 M0) sz)) (va_Qi (fun r (_ : Unit) => r = R.1) (fun _ t => wb_post D [(cB, .byte), (cI, .int), (cZ, .boolean)] (va_A (wWX9 cB cI cZ a0 I0 M0) sz) (wWX9 cB cI cZ a0 R.2.1 R.2.2) t) (va_A (wWX9 cB cI cZ a0 I0 M0) sz)) 0 0 (va_A (wWX9 cB cI cZ a0 I0 M0) sz) := by
  refine Met.ofW (cc := cX9_refuse) (maxL := 2) (ret := (some .boolean)) (by decide) rfl ?_
  intro p e s m args below meth c s₁ B hml hv
  obtain ⟨rfl, hsz, hP, hK, hD0⟩ := hv
  have hx := B.exec
  have hb := B.bytes
  have hr := B.returns
  have hts := atoms_spec (ws := wsX9_refuse) B.pre
  have hown : s.vm.findClass RX9 = some m.cls := findClass_of_methodNamed B.named
  have hlocks := B.notSynchronized
  have hinX9 : ∀ w ∈ u_ws RX9 TX9 10, w ∈ wsX9_refuse := fun w h => List.mem_cons_of_mem _ (List.mem_append_right _ h)
  subst hsz
  have hD := hD0.self (sz := s.heap.size)
  generalize hAe : va_A (wWX9 cB cI cZ a0 I0 M0) s.heap.size = A at hD ⊢
  have hA : ∀ q : Nat, s.heap.size ≤ q → A q := fun q h => by rw [← hAe]; exact Or.inr h
  have hS : va_S A s.heap s.heap [] := va_S.rf
  have hl := lv_entry ([.ref (a0 0), .int x1]) (n := 2) (Nat.le_of_ble_eq_true rfl)
  rw [lg_entry_eq]
  generalize (lg_sl ([.ref (a0 0), .int x1]) ++ List.replicate (2 - (lg_sl ([.ref (a0 0), .int x1])).length) Slot.unset).toArray = ls at hl ⊢
  have hl : lv_has ls 2 [(0, .ref (a0 0)), (1, .int x1)] := hl
  unfold fX9_refuse at hf
  obtain ⟨H, hHe⟩ : ∃ H : Heap, H = s.heap := ⟨_, rfl⟩
  obtain ⟨locs, hle⟩ : ∃ locs : List Loc, locs = [] := ⟨_, rfl⟩
  refine wb_start (H := H) (locs := locs) hHe hle ?_
  rw [← hHe] at hP
  have hS : va_S A s.heap H locs := by rw [hHe, hle]; exact va_S.rf
  refine lv_aload_n hx hb dX9_refuse_0 rfl (lv_at hl 0 rfl) ?_
  refine lv_iload_n hx hb dX9_refuse_1 rfl (lv_at hl 1 rfl) ?_
  refine va_put (D := D) (ci := 9) (v := .int x1) (ty := .int) (C := RX9) (T := TX9) (N := 10) hx hb hts hinX9 tyX9 tyX9_ok nmX9 hown hK hP hD hS 0 rfl rfl 8 (by decide) (hts (.fieldLink RX9 34 "WheelBook$Text" "faultKind" "I") (List.mem_of_getElem? (i := 1) rfl)) (fun _ h9 => h9) rfl (by decide +kernel) rfl rfl (Nat.le_of_ble_eq_true rfl) dX9_refuse_2 (fun H locs hP hD hS => ?_)
  have hP : va_P D vwCl (wWX9 cB cI cZ a0 (upd I0 7 x1) M0) H := hP
  have hD : va_D A (wWX9 cB cI cZ a0 (upd I0 7 x1) M0) := hD
  obtain ⟨I0_1, eI0_1, hf⟩ := wb_v hf
  rw [← eI0_1] at hP hD
  refine lv_aload_n hx hb dX9_refuse_5 rfl (lv_at hl 0 rfl) ?_
  refine lv_aload_n hx hb dX9_refuse_6 rfl (lv_at hl 0 rfl) ?_
  refine va_get (D := D) (ci := 9) (v := .int (I0_1 2)) (C := RX9) (T := TX9) (N := 10) hx hb hts hinX9 hown hK hP 0 rfl rfl 3 (by decide) (hts (.fieldLink RX9 47 "WheelBook$Text" "start" "I") (List.mem_of_getElem? (i := 2) rfl)) (fun _ h9 => h9) rfl dX9_refuse_7 ?_
  refine va_put (D := D) (ci := 9) (v := .int (I0_1 2)) (ty := .int) (C := RX9) (T := TX9) (N := 10) hx hb hts hinX9 tyX9 tyX9_ok nmX9 hown hK hP hD hS 0 rfl rfl 9 (by decide) (hts (.fieldLink RX9 15 "WheelBook$Text" "faultPlace" "I") (List.mem_of_getElem? (i := 3) rfl)) (fun _ h9 => h9) rfl (by decide +kernel) rfl rfl (Nat.le_of_ble_eq_true rfl) dX9_refuse_10 (fun H locs hP hD hS => ?_)
  have hP : va_P D vwCl (wWX9 cB cI cZ a0 (upd I0_1 8 (I0_1 2)) M0) H := hP
  have hD : va_D A (wWX9 cB cI cZ a0 (upd I0_1 8 (I0_1 2)) M0) := hD
  obtain ⟨I0_2, eI0_2, hf⟩ := wb_v hf
  rw [← eI0_2] at hP hD
  refine lv_iconst (v := (0 : Int32)) hx hb dX9_refuse_13 (by decide) ?_
  exact W.zret (v := (0 : Int32)) hx hb hr (by decide) (fun t ht hW => by rw [← Option.some.inj hf]; exact ⟨⟨(0 : Int32), (), rfl, rfl, by rw [ht]; exact hP, va_K.moved hW.alike hK, hD⟩, hS.F ht⟩) hS.2.2 dX9_refuse_14

set_option maxHeartbeats 4000000 in
set_option maxRecDepth 100000 in
theorem cn_X9_takeStop (l : Launch) (D : va_G) (cB cI cZ : ClassId) (N : Nat) (a0 : Nat → Nat) (I0 : Nat → Int32) (M0 : Nat → Nat → Int32) (sz : Nat) (R : Int32 × (Nat → Int32) × (Nat → Nat → Int32)) (hf : fX9_takeStop N I0 M0 = some R) : Met l yX9_takeStop wsX9_takeStop ({ frames := 2, cells := 0, slots := 0, locals := 40 }) (va_Pc [.ref (a0 0)] (wb_preD D [(cB, .byte), (cI, .int), (cZ, .boolean)] (wWX9 cB cI cZ a0 I0 M0) sz)) (va_Qi (fun r (_ : Unit) => r = R.1) (fun _ t => wb_post D [(cB, .byte), (cI, .int), (cZ, .boolean)] (va_A (wWX9 cB cI cZ a0 I0 M0) sz) (wWX9 cB cI cZ a0 R.2.1 R.2.2) t) (va_A (wWX9 cB cI cZ a0 I0 M0) sz)) 0 0 (va_A (wWX9 cB cI cZ a0 I0 M0) sz) := by
  refine Met.ofW (cc := cX9_takeStop) (maxL := 1) (ret := (some .boolean)) (by decide) rfl ?_
  intro p e s m args below meth c s₁ B hml hv
  obtain ⟨rfl, hsz, hP, hK, hD0⟩ := hv
  have hx := B.exec
  have hb := B.bytes
  have hr := B.returns
  have hts := atoms_spec (ws := wsX9_takeStop) B.pre
  have hown : s.vm.findClass RX9 = some m.cls := findClass_of_methodNamed B.named
  have hlocks := B.notSynchronized
  have hinX9 : ∀ w ∈ u_ws RX9 TX9 10, w ∈ wsX9_takeStop := fun w h => List.mem_cons_of_mem _ (List.mem_append_right _ h)
  subst hsz
  have hD := hD0.self (sz := s.heap.size)
  generalize hAe : va_A (wWX9 cB cI cZ a0 I0 M0) s.heap.size = A at hD ⊢
  have hA : ∀ q : Nat, s.heap.size ≤ q → A q := fun q h => by rw [← hAe]; exact Or.inr h
  have hS : va_S A s.heap s.heap [] := va_S.rf
  have hl := lv_entry ([.ref (a0 0)]) (n := 1) (Nat.le_of_ble_eq_true rfl)
  rw [lg_entry_eq]
  generalize (lg_sl ([.ref (a0 0)]) ++ List.replicate (1 - (lg_sl ([.ref (a0 0)])).length) Slot.unset).toArray = ls at hl ⊢
  have hl : lv_has ls 1 [(0, .ref (a0 0))] := hl
  unfold fX9_takeStop at hf
  obtain ⟨H, hHe⟩ : ∃ H : Heap, H = s.heap := ⟨_, rfl⟩
  obtain ⟨locs, hle⟩ : ∃ locs : List Loc, locs = [] := ⟨_, rfl⟩
  refine wb_start (H := H) (locs := locs) hHe hle ?_
  rw [← hHe] at hP
  have hS : va_S A s.heap H locs := by rw [hHe, hle]; exact va_S.rf
  refine lv_aload_n hx hb dX9_takeStop_0 rfl (lv_at hl 0 rfl) ?_
  refine va_get (D := D) (ci := 9) (v := .int (I0 4)) (C := RX9) (T := TX9) (N := 10) hx hb hts hinX9 hown hK hP 0 rfl rfl 5 (by decide) (hts (.fieldLink RX9 40 "WheelBook$Text" "kind" "I") (List.mem_of_getElem? (i := 1) rfl)) (fun _ h9 => h9) rfl dX9_takeStop_1 ?_
  refine lv_iconst (v := (3 : Int32)) hx hb dX9_takeStop_4 (by decide) ?_
  refine lv_icmp_eq (tgt := 14) hx hb dX9_takeStop_5 (by decide) (fun hc => ?_) (fun hc => ?_)
  · replace hf := wb_t hc hf
    refine lv_aload_n hx hb dX9_takeStop_14 rfl (lv_at hl 0 rfl) ?_
    obtain ⟨r1, hr1, hf⟩ := wb_b hf
    have hPc := hP.sub (ws' := (wWX9 cB cI cZ a0 I0 M0)) [0, 1] rfl
    have hDc := hD.sub (ws' := (wWX9 cB cI cZ a0 I0 M0)) [0, 1] (by decide) rfl
    have hFc := va_free (wc := (wWX9 cB cI cZ a0 I0 M0)) hD hS hA [0, 1] rfl
    refine va_callv (va_runV (As := []) (rest := []) ⟨hx, hb, hml, hown, hts⟩ (cn_X9_step l D cB cI cZ N a0 I0 M0 H.size r1 hr1) (cwV 0 hts gX9_takeStop_X9_step rfl rfl rfl cdX9_step ⟨Nat.le_of_ble_eq_true rfl, Nat.le_of_ble_eq_true rfl⟩) (wb_preDV hPc hK hDc (va_recv hK hP (ci := 9) (q0 := 0) rfl rfl)) rfl rfl hl.1 rfl (lv_room (Nat.le_of_ble_eq_true rfl)) dX9_takeStop_15 ⟨Nat.le_of_ble_eq_true rfl, Nat.le_of_ble_eq_true rfl⟩) hS (fun q _ h => hFc q h) hFc (fun u t H locs ht hvm hw hB hz1 hk1 hS => ?_)
    obtain ⟨hP, hD⟩ := wb_join (wc := (wWX9 cB cI cZ a0 I0 M0)) (w1 := (wWX9 cB cI cZ a0 r1.1 r1.2)) (wf := (wWX9 cB cI cZ a0 r1.1 r1.2)) hP hD [0, 1] [] [0, 1] rfl rfl (by decide) (by decide) (by decide) rfl hk1 hFc ht hB
    refine lv_iconst (v := (1 : Int32)) hx hb dX9_takeStop_18 (by decide) ?_
    exact W.zret (v := (1 : Int32)) hx hb hr (by decide) (fun t ht hW => by rw [← Option.some.inj hf]; exact ⟨⟨(1 : Int32), (), rfl, rfl, by rw [ht]; exact hP, va_K.moved hW.alike hK, hD⟩, hS.F ht⟩) hS.2.2 dX9_takeStop_19
  · replace hf := wb_f hc hf
    refine lv_aload_n hx hb dX9_takeStop_8 rfl (lv_at hl 0 rfl) ?_
    refine lv_iconst (v := (1 : Int32)) hx hb dX9_takeStop_9 (by decide) ?_
    obtain ⟨r2, hr2, hf⟩ := wb_b hf
    have hPc := hP.sub (ws' := (wWX9 cB cI cZ a0 I0 M0)) [0, 1] rfl
    have hDc := hD.sub (ws' := (wWX9 cB cI cZ a0 I0 M0)) [0, 1] (by decide) rfl
    have hFc := va_free (wc := (wWX9 cB cI cZ a0 I0 M0)) hD hS hA [0, 1] rfl
    refine va_calli (va_runV (As := [.int (1 : Int32)]) (rest := []) ⟨hx, hb, hml, hown, hts⟩ (cn_X9_refuse l D cB cI cZ N a0 I0 M0 (1 : Int32) H.size r2 hr2) (cwV 1 hts gX9_takeStop_X9_refuse rfl rfl rfl cdX9_refuse ⟨Nat.le_of_ble_eq_true rfl, Nat.le_of_ble_eq_true rfl⟩) (wb_preDV hPc hK hDc (va_recv hK hP (ci := 9) (q0 := 0) rfl rfl)) rfl rfl hl.1 rfl (lv_room (Nat.le_of_ble_eq_true rfl)) dX9_takeStop_10 ⟨Nat.le_of_ble_eq_true rfl, Nat.le_of_ble_eq_true rfl⟩) hS (fun q _ h => hFc q h) hFc (fun r9 u t H locs ht hvm hw hB hz1 hk1 hS => ?_)
    obtain ⟨hP, hD⟩ := wb_join (wc := (wWX9 cB cI cZ a0 I0 M0)) (w1 := (wWX9 cB cI cZ a0 r2.2.1 r2.2.2)) (wf := (wWX9 cB cI cZ a0 r2.2.1 r2.2.2)) hP hD [0, 1] [] [0, 1] rfl rfl (by decide) (by decide) (by decide) rfl hk1 hFc ht hB
    rw [hw]
    obtain ⟨hz, hf⟩ := wb_y hf
    exact W.zret (v := r2.1) hx hb hr (congrArg Value.int hz) (fun t ht hW => by rw [← Option.some.inj hf]; exact ⟨⟨r2.1, (), rfl, rfl, by rw [ht]; exact hP, va_K.moved hW.alike hK, hD⟩, hS.F ht⟩) hS.2.2 dX9_takeStop_13

set_option maxHeartbeats 4000000 in
set_option maxRecDepth 100000 in
theorem cn_X9_holdsNumber (l : Launch) (D : va_G) (cB cI cZ : ClassId) (N : Nat) (a0 : Nat → Nat) (I0 : Nat → Int32) (M0 : Nat → Nat → Int32) (x1 : Int32) (x2 : Int32) (sz : Nat) (R : Int32 × (Nat → Int32) × (Nat → Nat → Int32)) (hf : fX9_holdsNumber N I0 M0 x1 x2 = some R) : Met l yX9_holdsNumber wsX9_holdsNumber ({ frames := 1, cells := 0, slots := 0, locals := 21 }) (va_Pc [.ref (a0 0), .int x1, .int x2] (wb_preD D [(cB, .byte), (cI, .int), (cZ, .boolean)] (wWX9 cB cI cZ a0 I0 M0) sz)) (va_Qi (fun r (_ : Unit) => r = R.1) (fun _ t => wb_post D [(cB, .byte), (cI, .int), (cZ, .boolean)] (va_A (wWX9 cB cI cZ a0 I0 M0) sz) (wWX9 cB cI cZ a0 R.2.1 R.2.2) t) (va_A (wWX9 cB cI cZ a0 I0 M0) sz)) 0 0 (va_A (wWX9 cB cI cZ a0 I0 M0) sz) := by
  refine Met.ofW (cc := cX9_holdsNumber) (maxL := 3) (ret := (some .boolean)) (by decide) rfl ?_
  intro p e s m args below meth c s₁ B hml hv
  obtain ⟨rfl, hsz, hP, hK, hD0⟩ := hv
  have hx := B.exec
  have hb := B.bytes
  have hr := B.returns
  have hts := atoms_spec (ws := wsX9_holdsNumber) B.pre
  have hown : s.vm.findClass RX9 = some m.cls := findClass_of_methodNamed B.named
  have hlocks := B.notSynchronized
  have hinX9 : ∀ w ∈ u_ws RX9 TX9 10, w ∈ wsX9_holdsNumber := fun w h => List.mem_cons_of_mem _ (List.mem_append_right _ h)
  subst hsz
  have hD := hD0.self (sz := s.heap.size)
  generalize hAe : va_A (wWX9 cB cI cZ a0 I0 M0) s.heap.size = A at hD ⊢
  have hA : ∀ q : Nat, s.heap.size ≤ q → A q := fun q h => by rw [← hAe]; exact Or.inr h
  have hS : va_S A s.heap s.heap [] := va_S.rf
  have hl := lv_entry ([.ref (a0 0), .int x1, .int x2]) (n := 3) (Nat.le_of_ble_eq_true rfl)
  rw [lg_entry_eq]
  generalize (lg_sl ([.ref (a0 0), .int x1, .int x2]) ++ List.replicate (3 - (lg_sl ([.ref (a0 0), .int x1, .int x2])).length) Slot.unset).toArray = ls at hl ⊢
  have hl : lv_has ls 3 [(0, .ref (a0 0)), (1, .int x1), (2, .int x2)] := hl
  unfold fX9_holdsNumber at hf
  obtain ⟨H, hHe⟩ : ∃ H : Heap, H = s.heap := ⟨_, rfl⟩
  obtain ⟨locs, hle⟩ : ∃ locs : List Loc, locs = [] := ⟨_, rfl⟩
  refine wb_start (H := H) (locs := locs) hHe hle ?_
  rw [← hHe] at hP
  have hS : va_S A s.heap H locs := by rw [hHe, hle]; exact va_S.rf
  refine lv_aload_n hx hb dX9_holdsNumber_0 rfl (lv_at hl 0 rfl) ?_
  refine va_get (D := D) (ci := 9) (v := .int (I0 4)) (C := RX9) (T := TX9) (N := 10) hx hb hts hinX9 hown hK hP 0 rfl rfl 5 (by decide) (hts (.fieldLink RX9 40 "WheelBook$Text" "kind" "I") (List.mem_of_getElem? (i := 1) rfl)) (fun _ h9 => h9) rfl dX9_holdsNumber_1 ?_
  refine lv_iconst (v := (2 : Int32)) hx hb dX9_holdsNumber_4 (by decide) ?_
  refine lv_icmp_eq (tgt := 14) hx hb dX9_holdsNumber_5 (by decide) (fun hc => ?_) (fun hc => ?_)
  · replace hf := wb_t hc hf
    refine lv_aload_n hx hb dX9_holdsNumber_14 rfl (lv_at hl 0 rfl) ?_
    refine va_get (D := D) (ci := 9) (v := .int (I0 3)) (C := RX9) (T := TX9) (N := 10) hx hb hts hinX9 hown hK hP 0 rfl rfl 4 (by decide) (hts (.fieldLink RX9 31 "WheelBook$Text" "at" "I") (List.mem_of_getElem? (i := 2) rfl)) (fun _ h9 => h9) rfl dX9_holdsNumber_15 ?_
    refine lv_aload_n hx hb dX9_holdsNumber_18 rfl (lv_at hl 0 rfl) ?_
    refine va_get (D := D) (ci := 9) (v := .int (I0 2)) (C := RX9) (T := TX9) (N := 10) hx hb hts hinX9 hown hK hP 0 rfl rfl 3 (by decide) (hts (.fieldLink RX9 47 "WheelBook$Text" "start" "I") (List.mem_of_getElem? (i := 3) rfl)) (fun _ h9 => h9) rfl dX9_holdsNumber_19 ?_
    refine lv_isub hx hb dX9_holdsNumber_22 ?_
    refine lv_bipush (v := (7 : Int32)) hx hb dX9_holdsNumber_23 (by decide) ?_
    refine lv_icmp_gt (tgt := 44) hx hb dX9_holdsNumber_25 (by decide) (fun hc => ?_) (fun hc => ?_)
    · replace hf := wb_t hc hf
      refine lv_aload_n hx hb dX9_holdsNumber_44 rfl (lv_at hl 0 rfl) ?_
      refine lv_iconst (v := (2 : Int32)) hx hb dX9_holdsNumber_45 (by decide) ?_
      obtain ⟨r1, hr1, hf⟩ := wb_b hf
      have hPc := hP.sub (ws' := (wWX9 cB cI cZ a0 I0 M0)) [0, 1] rfl
      have hDc := hD.sub (ws' := (wWX9 cB cI cZ a0 I0 M0)) [0, 1] (by decide) rfl
      have hFc := va_free (wc := (wWX9 cB cI cZ a0 I0 M0)) hD hS hA [0, 1] rfl
      refine va_calli (va_runV (As := [.int (2 : Int32)]) (rest := []) ⟨hx, hb, hml, hown, hts⟩ (cn_X9_refuse l D cB cI cZ N a0 I0 M0 (2 : Int32) H.size r1 hr1) (cwV 1 hts gX9_holdsNumber_X9_refuse rfl rfl rfl cdX9_refuse ⟨Nat.le_of_ble_eq_true rfl, Nat.le_of_ble_eq_true rfl⟩) (wb_preDV hPc hK hDc (va_recv hK hP (ci := 9) (q0 := 0) rfl rfl)) rfl rfl hl.1 rfl (lv_room (Nat.le_of_ble_eq_true rfl)) dX9_holdsNumber_46 ⟨Nat.le_of_ble_eq_true rfl, Nat.le_of_ble_eq_true rfl⟩) hS (fun q _ h => hFc q h) hFc (fun r9 u t H locs ht hvm hw hB hz1 hk1 hS => ?_)
      obtain ⟨hP, hD⟩ := wb_join (wc := (wWX9 cB cI cZ a0 I0 M0)) (w1 := (wWX9 cB cI cZ a0 r1.2.1 r1.2.2)) (wf := (wWX9 cB cI cZ a0 r1.2.1 r1.2.2)) hP hD [0, 1] [] [0, 1] rfl rfl (by decide) (by decide) (by decide) rfl hk1 hFc ht hB
      rw [hw]
      obtain ⟨hz, hf⟩ := wb_y hf
      exact W.zret (v := r1.1) hx hb hr (congrArg Value.int hz) (fun t ht hW => by rw [← Option.some.inj hf]; exact ⟨⟨r1.1, (), rfl, rfl, by rw [ht]; exact hP, va_K.moved hW.alike hK, hD⟩, hS.F ht⟩) hS.2.2 dX9_holdsNumber_49
    · replace hf := wb_f hc hf
      refine lv_aload_n hx hb dX9_holdsNumber_28 rfl (lv_at hl 0 rfl) ?_
      refine va_get (D := D) (ci := 9) (v := .int (I0 5)) (C := RX9) (T := TX9) (N := 10) hx hb hts hinX9 hown hK hP 0 rfl rfl 6 (by decide) (hts (.fieldLink RX9 56 "WheelBook$Text" "value" "I") (List.mem_of_getElem? (i := 4) rfl)) (fun _ h9 => h9) rfl dX9_holdsNumber_29 ?_
      refine lv_iload_n hx hb dX9_holdsNumber_32 rfl (lv_at hl 1 rfl) ?_
      refine lv_icmp_lt (tgt := 44) hx hb dX9_holdsNumber_33 (by decide) (fun hc => ?_) (fun hc => ?_)
      · replace hf := wb_t hc hf
        refine lv_aload_n hx hb dX9_holdsNumber_44 rfl (lv_at hl 0 rfl) ?_
        refine lv_iconst (v := (2 : Int32)) hx hb dX9_holdsNumber_45 (by decide) ?_
        obtain ⟨r2, hr2, hf⟩ := wb_b hf
        have hPc := hP.sub (ws' := (wWX9 cB cI cZ a0 I0 M0)) [0, 1] rfl
        have hDc := hD.sub (ws' := (wWX9 cB cI cZ a0 I0 M0)) [0, 1] (by decide) rfl
        have hFc := va_free (wc := (wWX9 cB cI cZ a0 I0 M0)) hD hS hA [0, 1] rfl
        refine va_calli (va_runV (As := [.int (2 : Int32)]) (rest := []) ⟨hx, hb, hml, hown, hts⟩ (cn_X9_refuse l D cB cI cZ N a0 I0 M0 (2 : Int32) H.size r2 hr2) (cwV 1 hts gX9_holdsNumber_X9_refuse rfl rfl rfl cdX9_refuse ⟨Nat.le_of_ble_eq_true rfl, Nat.le_of_ble_eq_true rfl⟩) (wb_preDV hPc hK hDc (va_recv hK hP (ci := 9) (q0 := 0) rfl rfl)) rfl rfl hl.1 rfl (lv_room (Nat.le_of_ble_eq_true rfl)) dX9_holdsNumber_46 ⟨Nat.le_of_ble_eq_true rfl, Nat.le_of_ble_eq_true rfl⟩) hS (fun q _ h => hFc q h) hFc (fun r9 u t H locs ht hvm hw hB hz1 hk1 hS => ?_)
        obtain ⟨hP, hD⟩ := wb_join (wc := (wWX9 cB cI cZ a0 I0 M0)) (w1 := (wWX9 cB cI cZ a0 r2.2.1 r2.2.2)) (wf := (wWX9 cB cI cZ a0 r2.2.1 r2.2.2)) hP hD [0, 1] [] [0, 1] rfl rfl (by decide) (by decide) (by decide) rfl hk1 hFc ht hB
        rw [hw]
        obtain ⟨hz, hf⟩ := wb_y hf
        exact W.zret (v := r2.1) hx hb hr (congrArg Value.int hz) (fun t ht hW => by rw [← Option.some.inj hf]; exact ⟨⟨r2.1, (), rfl, rfl, by rw [ht]; exact hP, va_K.moved hW.alike hK, hD⟩, hS.F ht⟩) hS.2.2 dX9_holdsNumber_49
      · replace hf := wb_f hc hf
        refine lv_aload_n hx hb dX9_holdsNumber_36 rfl (lv_at hl 0 rfl) ?_
        refine va_get (D := D) (ci := 9) (v := .int (I0 5)) (C := RX9) (T := TX9) (N := 10) hx hb hts hinX9 hown hK hP 0 rfl rfl 6 (by decide) (hts (.fieldLink RX9 56 "WheelBook$Text" "value" "I") (List.mem_of_getElem? (i := 4) rfl)) (fun _ h9 => h9) rfl dX9_holdsNumber_37 ?_
        refine lv_iload_n hx hb dX9_holdsNumber_40 rfl (lv_at hl 2 rfl) ?_
        refine lv_icmp_le (tgt := 50) hx hb dX9_holdsNumber_41 (by decide) (fun hc => ?_) (fun hc => ?_)
        · replace hf := wb_t hc hf
          refine lv_aload_n hx hb dX9_holdsNumber_50 rfl (lv_at hl 0 rfl) ?_
          refine lv_aload_n hx hb dX9_holdsNumber_51 rfl (lv_at hl 0 rfl) ?_
          refine va_get (D := D) (ci := 9) (v := .int (I0 5)) (C := RX9) (T := TX9) (N := 10) hx hb hts hinX9 hown hK hP 0 rfl rfl 6 (by decide) (hts (.fieldLink RX9 56 "WheelBook$Text" "value" "I") (List.mem_of_getElem? (i := 4) rfl)) (fun _ h9 => h9) rfl dX9_holdsNumber_52 ?_
          refine va_put (D := D) (ci := 9) (v := .int (I0 5)) (ty := .int) (C := RX9) (T := TX9) (N := 10) hx hb hts hinX9 tyX9 tyX9_ok nmX9 hown hK hP hD hS 0 rfl rfl 7 (by decide) (hts (.fieldLink RX9 97 "WheelBook$Text" "number" "I") (List.mem_of_getElem? (i := 5) rfl)) (fun _ h9 => h9) rfl (by decide +kernel) rfl rfl (Nat.le_of_ble_eq_true rfl) dX9_holdsNumber_55 (fun H locs hP hD hS => ?_)
          have hP : va_P D vwCl (wWX9 cB cI cZ a0 (upd I0 6 (I0 5)) M0) H := hP
          have hD : va_D A (wWX9 cB cI cZ a0 (upd I0 6 (I0 5)) M0) := hD
          obtain ⟨I0_3, eI0_3, hf⟩ := wb_v hf
          rw [← eI0_3] at hP hD
          refine lv_iconst (v := (1 : Int32)) hx hb dX9_holdsNumber_58 (by decide) ?_
          exact W.zret (v := (1 : Int32)) hx hb hr (by decide) (fun t ht hW => by rw [← Option.some.inj hf]; exact ⟨⟨(1 : Int32), (), rfl, rfl, by rw [ht]; exact hP, va_K.moved hW.alike hK, hD⟩, hS.F ht⟩) hS.2.2 dX9_holdsNumber_59
        · replace hf := wb_f hc hf
          refine lv_aload_n hx hb dX9_holdsNumber_44 rfl (lv_at hl 0 rfl) ?_
          refine lv_iconst (v := (2 : Int32)) hx hb dX9_holdsNumber_45 (by decide) ?_
          obtain ⟨r4, hr4, hf⟩ := wb_b hf
          have hPc := hP.sub (ws' := (wWX9 cB cI cZ a0 I0 M0)) [0, 1] rfl
          have hDc := hD.sub (ws' := (wWX9 cB cI cZ a0 I0 M0)) [0, 1] (by decide) rfl
          have hFc := va_free (wc := (wWX9 cB cI cZ a0 I0 M0)) hD hS hA [0, 1] rfl
          refine va_calli (va_runV (As := [.int (2 : Int32)]) (rest := []) ⟨hx, hb, hml, hown, hts⟩ (cn_X9_refuse l D cB cI cZ N a0 I0 M0 (2 : Int32) H.size r4 hr4) (cwV 1 hts gX9_holdsNumber_X9_refuse rfl rfl rfl cdX9_refuse ⟨Nat.le_of_ble_eq_true rfl, Nat.le_of_ble_eq_true rfl⟩) (wb_preDV hPc hK hDc (va_recv hK hP (ci := 9) (q0 := 0) rfl rfl)) rfl rfl hl.1 rfl (lv_room (Nat.le_of_ble_eq_true rfl)) dX9_holdsNumber_46 ⟨Nat.le_of_ble_eq_true rfl, Nat.le_of_ble_eq_true rfl⟩) hS (fun q _ h => hFc q h) hFc (fun r9 u t H locs ht hvm hw hB hz1 hk1 hS => ?_)
          obtain ⟨hP, hD⟩ := wb_join (wc := (wWX9 cB cI cZ a0 I0 M0)) (w1 := (wWX9 cB cI cZ a0 r4.2.1 r4.2.2)) (wf := (wWX9 cB cI cZ a0 r4.2.1 r4.2.2)) hP hD [0, 1] [] [0, 1] rfl rfl (by decide) (by decide) (by decide) rfl hk1 hFc ht hB
          rw [hw]
          obtain ⟨hz, hf⟩ := wb_y hf
          exact W.zret (v := r4.1) hx hb hr (congrArg Value.int hz) (fun t ht hW => by rw [← Option.some.inj hf]; exact ⟨⟨r4.1, (), rfl, rfl, by rw [ht]; exact hP, va_K.moved hW.alike hK, hD⟩, hS.F ht⟩) hS.2.2 dX9_holdsNumber_49
  · replace hf := wb_f hc hf
    refine lv_aload_n hx hb dX9_holdsNumber_8 rfl (lv_at hl 0 rfl) ?_
    refine lv_iconst (v := (1 : Int32)) hx hb dX9_holdsNumber_9 (by decide) ?_
    obtain ⟨r5, hr5, hf⟩ := wb_b hf
    have hPc := hP.sub (ws' := (wWX9 cB cI cZ a0 I0 M0)) [0, 1] rfl
    have hDc := hD.sub (ws' := (wWX9 cB cI cZ a0 I0 M0)) [0, 1] (by decide) rfl
    have hFc := va_free (wc := (wWX9 cB cI cZ a0 I0 M0)) hD hS hA [0, 1] rfl
    refine va_calli (va_runV (As := [.int (1 : Int32)]) (rest := []) ⟨hx, hb, hml, hown, hts⟩ (cn_X9_refuse l D cB cI cZ N a0 I0 M0 (1 : Int32) H.size r5 hr5) (cwV 1 hts gX9_holdsNumber_X9_refuse rfl rfl rfl cdX9_refuse ⟨Nat.le_of_ble_eq_true rfl, Nat.le_of_ble_eq_true rfl⟩) (wb_preDV hPc hK hDc (va_recv hK hP (ci := 9) (q0 := 0) rfl rfl)) rfl rfl hl.1 rfl (lv_room (Nat.le_of_ble_eq_true rfl)) dX9_holdsNumber_10 ⟨Nat.le_of_ble_eq_true rfl, Nat.le_of_ble_eq_true rfl⟩) hS (fun q _ h => hFc q h) hFc (fun r9 u t H locs ht hvm hw hB hz1 hk1 hS => ?_)
    obtain ⟨hP, hD⟩ := wb_join (wc := (wWX9 cB cI cZ a0 I0 M0)) (w1 := (wWX9 cB cI cZ a0 r5.2.1 r5.2.2)) (wf := (wWX9 cB cI cZ a0 r5.2.1 r5.2.2)) hP hD [0, 1] [] [0, 1] rfl rfl (by decide) (by decide) (by decide) rfl hk1 hFc ht hB
    rw [hw]
    obtain ⟨hz, hf⟩ := wb_y hf
    exact W.zret (v := r5.1) hx hb hr (congrArg Value.int hz) (fun t ht hW => by rw [← Option.some.inj hf]; exact ⟨⟨r5.1, (), rfl, rfl, by rw [ht]; exact hP, va_K.moved hW.alike hK, hD⟩, hS.F ht⟩) hS.2.2 dX9_holdsNumber_13

set_option maxHeartbeats 4000000 in
set_option maxRecDepth 100000 in
theorem cn_X9_takeNumber (l : Launch) (D : va_G) (cB cI cZ : ClassId) (N : Nat) (a0 : Nat → Nat) (I0 : Nat → Int32) (M0 : Nat → Nat → Int32) (x1 : Int32) (x2 : Int32) (sz : Nat) (R : Int32 × (Nat → Int32) × (Nat → Nat → Int32)) (hf : fX9_takeNumber N I0 M0 x1 x2 = some R) : Met l yX9_takeNumber wsX9_takeNumber ({ frames := 2, cells := 0, slots := 0, locals := 43 }) (va_Pc [.ref (a0 0), .int x1, .int x2] (wb_preD D [(cB, .byte), (cI, .int), (cZ, .boolean)] (wWX9 cB cI cZ a0 I0 M0) sz)) (va_Qi (fun r (_ : Unit) => r = R.1) (fun _ t => wb_post D [(cB, .byte), (cI, .int), (cZ, .boolean)] (va_A (wWX9 cB cI cZ a0 I0 M0) sz) (wWX9 cB cI cZ a0 R.2.1 R.2.2) t) (va_A (wWX9 cB cI cZ a0 I0 M0) sz)) 0 0 (va_A (wWX9 cB cI cZ a0 I0 M0) sz) := by
  refine Met.ofW (cc := cX9_takeNumber) (maxL := 3) (ret := (some .boolean)) (by decide) rfl ?_
  intro p e s m args below meth c s₁ B hml hv
  obtain ⟨rfl, hsz, hP, hK, hD0⟩ := hv
  have hx := B.exec
  have hb := B.bytes
  have hr := B.returns
  have hts := atoms_spec (ws := wsX9_takeNumber) B.pre
  have hown : s.vm.findClass RX9 = some m.cls := findClass_of_methodNamed B.named
  have hlocks := B.notSynchronized
  subst hsz
  have hD := hD0.self (sz := s.heap.size)
  generalize hAe : va_A (wWX9 cB cI cZ a0 I0 M0) s.heap.size = A at hD ⊢
  have hA : ∀ q : Nat, s.heap.size ≤ q → A q := fun q h => by rw [← hAe]; exact Or.inr h
  have hS : va_S A s.heap s.heap [] := va_S.rf
  have hl := lv_entry ([.ref (a0 0), .int x1, .int x2]) (n := 3) (Nat.le_of_ble_eq_true rfl)
  rw [lg_entry_eq]
  generalize (lg_sl ([.ref (a0 0), .int x1, .int x2]) ++ List.replicate (3 - (lg_sl ([.ref (a0 0), .int x1, .int x2])).length) Slot.unset).toArray = ls at hl ⊢
  have hl : lv_has ls 3 [(0, .ref (a0 0)), (1, .int x1), (2, .int x2)] := hl
  unfold fX9_takeNumber at hf
  obtain ⟨H, hHe⟩ : ∃ H : Heap, H = s.heap := ⟨_, rfl⟩
  obtain ⟨locs, hle⟩ : ∃ locs : List Loc, locs = [] := ⟨_, rfl⟩
  refine wb_start (H := H) (locs := locs) hHe hle ?_
  rw [← hHe] at hP
  have hS : va_S A s.heap H locs := by rw [hHe, hle]; exact va_S.rf
  refine lv_aload_n hx hb dX9_takeNumber_0 rfl (lv_at hl 0 rfl) ?_
  refine lv_iload_n hx hb dX9_takeNumber_1 rfl (lv_at hl 1 rfl) ?_
  refine lv_iload_n hx hb dX9_takeNumber_2 rfl (lv_at hl 2 rfl) ?_
  obtain ⟨r1, hr1, hf⟩ := wb_b hf
  have hPc := hP.sub (ws' := (wWX9 cB cI cZ a0 I0 M0)) [0, 1] rfl
  have hDc := hD.sub (ws' := (wWX9 cB cI cZ a0 I0 M0)) [0, 1] (by decide) rfl
  have hFc := va_free (wc := (wWX9 cB cI cZ a0 I0 M0)) hD hS hA [0, 1] rfl
  refine va_calli (va_runV (As := [.int x1, .int x2]) (rest := []) ⟨hx, hb, hml, hown, hts⟩ (cn_X9_holdsNumber l D cB cI cZ N a0 I0 M0 x1 x2 H.size r1 hr1) (cwV 2 hts gX9_takeNumber_X9_holdsNumber rfl rfl rfl cdX9_holdsNumber ⟨Nat.le_of_ble_eq_true rfl, Nat.le_of_ble_eq_true rfl⟩) (wb_preDV hPc hK hDc (va_recv hK hP (ci := 9) (q0 := 0) rfl rfl)) rfl rfl hl.1 rfl (lv_room (Nat.le_of_ble_eq_true rfl)) dX9_takeNumber_3 ⟨Nat.le_of_ble_eq_true rfl, Nat.le_of_ble_eq_true rfl⟩) hS (fun q _ h => hFc q h) hFc (fun r9 u t H locs ht hvm hw hB hz1 hk1 hS => ?_)
  obtain ⟨hP, hD⟩ := wb_join (wc := (wWX9 cB cI cZ a0 I0 M0)) (w1 := (wWX9 cB cI cZ a0 r1.2.1 r1.2.2)) (wf := (wWX9 cB cI cZ a0 r1.2.1 r1.2.2)) hP hD [0, 1] [] [0, 1] rfl rfl (by decide) (by decide) (by decide) rfl hk1 hFc ht hB
  rw [hw]
  refine lv_if_ne (tgt := 11) hx hb dX9_takeNumber_6 (by decide) (fun hc => ?_) (fun hc => ?_)
  · replace hf := wb_f hc hf
    refine lv_aload_n hx hb dX9_takeNumber_11 rfl (lv_at hl 0 rfl) ?_
    obtain ⟨r2, hr2, hf⟩ := wb_b hf
    have hPc := hP.sub (ws' := (wWX9 cB cI cZ a0 r1.2.1 r1.2.2)) [0, 1] rfl
    have hDc := hD.sub (ws' := (wWX9 cB cI cZ a0 r1.2.1 r1.2.2)) [0, 1] (by decide) rfl
    have hFc := va_free (wc := (wWX9 cB cI cZ a0 r1.2.1 r1.2.2)) hD hS hA [0, 1] rfl
    refine va_callv (va_runV (As := []) (rest := []) ⟨hx, hb, hml, hown, hts⟩ (cn_X9_step l D cB cI cZ N a0 r1.2.1 r1.2.2 H.size r2 hr2) (cwV 0 hts gX9_takeNumber_X9_step rfl rfl rfl cdX9_step ⟨Nat.le_of_ble_eq_true rfl, Nat.le_of_ble_eq_true rfl⟩) (wb_preDV hPc hK hDc (va_recv hK hP (ci := 9) (q0 := 0) rfl rfl)) rfl rfl hl.1 rfl (lv_room (Nat.le_of_ble_eq_true rfl)) dX9_takeNumber_12 ⟨Nat.le_of_ble_eq_true rfl, Nat.le_of_ble_eq_true rfl⟩) hS (fun q _ h => hFc q h) hFc (fun u t H locs ht hvm hw hB hz1 hk1 hS => ?_)
    obtain ⟨hP, hD⟩ := wb_join (wc := (wWX9 cB cI cZ a0 r1.2.1 r1.2.2)) (w1 := (wWX9 cB cI cZ a0 r2.1 r2.2)) (wf := (wWX9 cB cI cZ a0 r2.1 r2.2)) hP hD [0, 1] [] [0, 1] rfl rfl (by decide) (by decide) (by decide) rfl hk1 hFc ht hB
    refine lv_iconst (v := (1 : Int32)) hx hb dX9_takeNumber_15 (by decide) ?_
    exact W.zret (v := (1 : Int32)) hx hb hr (by decide) (fun t ht hW => by rw [← Option.some.inj hf]; exact ⟨⟨(1 : Int32), (), rfl, rfl, by rw [ht]; exact hP, va_K.moved hW.alike hK, hD⟩, hS.F ht⟩) hS.2.2 dX9_takeNumber_16
  · replace hf := wb_t hc hf
    refine lv_iconst (v := (0 : Int32)) hx hb dX9_takeNumber_9 (by decide) ?_
    exact W.zret (v := (0 : Int32)) hx hb hr (by decide) (fun t ht hW => by rw [← Option.some.inj hf]; exact ⟨⟨(0 : Int32), (), rfl, rfl, by rw [ht]; exact hP, va_K.moved hW.alike hK, hD⟩, hS.F ht⟩) hS.2.2 dX9_takeNumber_10

set_option maxHeartbeats 4000000 in
set_option maxRecDepth 100000 in
theorem cn_X10_priceOfEntry (l : Launch) (D : va_G) (cB cI cZ : ClassId) (N : Nat) (a0 : Nat → Nat) (I0 : Nat → Int32) (M0 : Nat → Nat → Int32) (x1 : Int32) (x2 : Int32) (x3 : Int32) (R : Int32) (hf : fX10_priceOfEntry N I0 M0 x1 x2 x3 = some R) : Met l yX10_priceOfEntry wsX10_priceOfEntry ({ frames := 3, cells := 0, slots := 0, locals := 68 }) (va_Pc [.ref (a0 0), .int x1, .int x2, .int x3] (wb_pre D [(cB, .byte), (cI, .int), (cZ, .boolean)] (wWX4 cB cI cZ a0 I0 M0))) (vp_Si (fun r => r = R)) 0 0 (fun _ => False) := by
  refine Met.ofW (cc := cX10_priceOfEntry) (maxL := 4) (ret := (some .int)) (by decide) rfl ?_
  intro p e s m args below meth c s₁ B hml hv
  obtain ⟨rfl, hP, hK⟩ := hv
  have hx := B.exec
  have hb := B.bytes
  have hr := B.returns
  have hts := atoms_spec (ws := wsX10_priceOfEntry) B.pre
  have hown : s.vm.findClass RX10 = some m.cls := findClass_of_methodNamed B.named
  have hlocks := B.notSynchronized
  have hl := lv_entry ([.ref (a0 0), .int x1, .int x2, .int x3]) (n := 4) (Nat.le_of_ble_eq_true rfl)
  rw [lg_entry_eq]
  generalize (lg_sl ([.ref (a0 0), .int x1, .int x2, .int x3]) ++ List.replicate (4 - (lg_sl ([.ref (a0 0), .int x1, .int x2, .int x3])).length) Slot.unset).toArray = ls at hl ⊢
  have hl : lv_has ls 4 [(0, .ref (a0 0)), (1, .int x1), (2, .int x2), (3, .int x3)] := hl
  unfold fX10_priceOfEntry at hf
  refine lv_iload_n hx hb dX10_priceOfEntry_0 rfl (lv_at hl 2 rfl) ?_
  refine lv_iload_n hx hb dX10_priceOfEntry_1 rfl (lv_at hl 3 rfl) ?_
  refine lv_icmp_ne (tgt := 7) hx hb dX10_priceOfEntry_2 (by decide) (fun hc => ?_) (fun hc => ?_)
  · replace hf := wb_f hc hf
    refine lv_iload_n hx hb dX10_priceOfEntry_7 rfl (lv_at hl 3 rfl) ?_
    refine lv_iconst (v := (-1 : Int32)) hx hb dX10_priceOfEntry_8 (by decide) ?_
    refine lv_icmp_ne (tgt := 14) hx hb dX10_priceOfEntry_9 (by decide) (fun hc => ?_) (fun hc => ?_)
    · replace hf := wb_f hc hf
      refine lv_iload_n hx hb dX10_priceOfEntry_14 rfl (lv_at hl 2 rfl) ?_
      refine lv_iconst (v := (-1 : Int32)) hx hb dX10_priceOfEntry_15 (by decide) ?_
      refine lv_icmp_ne (tgt := 21) hx hb dX10_priceOfEntry_16 (by decide) (fun hc => ?_) (fun hc => ?_)
      · replace hf := wb_f hc hf
        refine lv_iload_n hx hb dX10_priceOfEntry_21 rfl (lv_at hl 1 rfl) ?_
        refine lv_bipush (v := (21 : Int32)) hx hb dX10_priceOfEntry_22 (by decide) ?_
        refine lv_icmp_eq (tgt := 41) hx hb dX10_priceOfEntry_24 (by decide) (fun hc => ?_) (fun hc => ?_)
        · replace hf := wb_t hc hf
          refine lv_iconst (v := (3 : Int32)) hx hb dX10_priceOfEntry_41 (by decide) ?_
          exact W.iret (v := (3 : Int32)) hx hb hr (fun t ht hW => ⟨_, rfl, Option.some.inj hf, ht⟩) (fun _ h => nomatch h) dX10_priceOfEntry_42
        · replace hf := wb_f hc hf
          refine lv_aload_n hx hb dX10_priceOfEntry_27 rfl (lv_at hl 0 rfl) ?_
          refine lv_iload_n hx hb dX10_priceOfEntry_28 rfl (lv_at hl 3 rfl) ?_
          refine lv_iload_n hx hb dX10_priceOfEntry_29 rfl (lv_at hl 2 rfl) ?_
          obtain ⟨r1, hr1, hf⟩ := wb_b hf
          refine vp_callSi (W.runV (As := [.int x3, .int x2]) (rest := []) ⟨hx, hb, hml, hown, hts⟩ (cn_X4_costBeside l D cB cI cZ N a0 I0 M0 x3 x2 r1 hr1) (cwV 2 hts gX10_priceOfEntry_X4_costBeside rfl rfl rfl cdX4_costBeside ⟨Nat.le_of_ble_eq_true rfl, Nat.le_of_ble_eq_true rfl⟩) (wb_preV hP hK (va_recv hK hP (ci := 4) (q0 := 0) rfl rfl)) rfl rfl hl.1 rfl (lv_room (Nat.le_of_ble_eq_true rfl)) dX10_priceOfEntry_30 ⟨Nat.le_of_ble_eq_true rfl, Nat.le_of_ble_eq_true rfl⟩) (fun r9 e9 => ?_)
          rw [e9]
          refine lv_iconst (v := (1 : Int32)) hx hb dX10_priceOfEntry_33 (by decide) ?_
          refine lv_icmp_ne (tgt := 41) hx hb dX10_priceOfEntry_34 (by decide) (fun hc => ?_) (fun hc => ?_)
          · replace hf := wb_f hc hf
            refine lv_iconst (v := (3 : Int32)) hx hb dX10_priceOfEntry_41 (by decide) ?_
            exact W.iret (v := (3 : Int32)) hx hb hr (fun t ht hW => ⟨_, rfl, Option.some.inj hf, ht⟩) (fun _ h => nomatch h) dX10_priceOfEntry_42
          · replace hf := wb_t hc hf
            refine lv_iconst (v := (1 : Int32)) hx hb dX10_priceOfEntry_37 (by decide) ?_
            refine lv_goto (tgt := 42) hx hb dX10_priceOfEntry_38 (by decide) ?_
            exact W.iret (v := (1 : Int32)) hx hb hr (fun t ht hW => ⟨_, rfl, Option.some.inj hf, ht⟩) (fun _ h => nomatch h) dX10_priceOfEntry_42
      · replace hf := wb_t hc hf
        refine lv_iconst (v := (4 : Int32)) hx hb dX10_priceOfEntry_19 (by decide) ?_
        exact W.iret (v := (4 : Int32)) hx hb hr (fun t ht hW => ⟨_, rfl, Option.some.inj hf, ht⟩) (fun _ h => nomatch h) dX10_priceOfEntry_20
    · replace hf := wb_t hc hf
      refine lv_iconst (v := (1 : Int32)) hx hb dX10_priceOfEntry_12 (by decide) ?_
      exact W.iret (v := (1 : Int32)) hx hb hr (fun t ht hW => ⟨_, rfl, Option.some.inj hf, ht⟩) (fun _ h => nomatch h) dX10_priceOfEntry_13
  · replace hf := wb_t hc hf
    refine lv_iconst (v := (0 : Int32)) hx hb dX10_priceOfEntry_5 (by decide) ?_
    exact W.iret (v := (0 : Int32)) hx hb hr (fun t ht hW => ⟨_, rfl, Option.some.inj hf, ht⟩) (fun _ h => nomatch h) dX10_priceOfEntry_6

set_option maxHeartbeats 4000000 in
set_option maxRecDepth 100000 in
theorem cn_X10_priceOf (l : Launch) (D : va_G) (cB cI cZ : ClassId) (N : Nat) (a0 : Nat → Nat) (I0 : Nat → Int32) (M0 : Nat → Nat → Int32) (a1 : Nat → Nat) (I1 : Nat → Int32) (M1 : Nat → Nat → Int32) (x2 : Int32) (x3 : Int32) (R : Int32) (hf : fX10_priceOf N I0 M0 I1 M1 x2 x3 = some R) : Met l yX10_priceOf wsX10_priceOf ({ frames := 4, cells := 0, slots := 0, locals := 91 }) (va_Pc [.ref (a0 0), .ref (a1 0), .int x2, .int x3] (wb_pre D [(cB, .byte), (cI, .int), (cZ, .boolean)] ((wWX4 cB cI cZ a0 I0 M0) ++ (wWX1 cB cI cZ a1 I1 M1)))) (vp_Si (fun r => r = R)) 0 0 (fun _ => False) := by
  refine Met.ofW (cc := cX10_priceOf) (maxL := 9) (ret := (some .int)) (by decide) rfl ?_
  intro p e s m args below meth c s₁ B hml hv
  obtain ⟨rfl, hP, hK⟩ := hv
  have hx := B.exec
  have hb := B.bytes
  have hr := B.returns
  have hts := atoms_spec (ws := wsX10_priceOf) B.pre
  have hown : s.vm.findClass RX10 = some m.cls := findClass_of_methodNamed B.named
  have hlocks := B.notSynchronized
  have hl := lv_entry ([.ref (a0 0), .ref (a1 0), .int x2, .int x3]) (n := 9) (Nat.le_of_ble_eq_true rfl)
  rw [lg_entry_eq]
  generalize (lg_sl ([.ref (a0 0), .ref (a1 0), .int x2, .int x3]) ++ List.replicate (9 - (lg_sl ([.ref (a0 0), .ref (a1 0), .int x2, .int x3])).length) Slot.unset).toArray = ls at hl ⊢
  have hl : lv_has ls 9 [(0, .ref (a0 0)), (1, .ref (a1 0)), (2, .int x2), (3, .int x3)] := hl
  unfold fX10_priceOf at hf
  refine lv_iconst (v := (0 : Int32)) hx hb dX10_priceOf_0 (by decide) ?_
  refine lv_istore (lv' := [(4, .int (0 : Int32)), (0, .ref (a0 0)), (1, .ref (a1 0)), (2, .int x2), (3, .int x3)]) hx hb dX10_priceOf_1 hl (by decide) rfl (fun ls hl => ?_)
  refine lv_iconst (v := (0 : Int32)) hx hb dX10_priceOf_3 (by decide) ?_
  refine lv_istore (lv' := [(5, .int (0 : Int32)), (4, .int (0 : Int32)), (0, .ref (a0 0)), (1, .ref (a1 0)), (2, .int x2), (3, .int x3)]) hx hb dX10_priceOf_4 hl (by decide) rfl (fun ls hl => ?_)
  have L6 : ∀ (fu6 : Nat) (y6_4 : Int32) (y6_5 : Int32), ∀ (ls : Array Slot), lv_has ls 9 [(0, .ref (a0 0)), (1, .ref (a1 0)), (2, .int x2), (3, .int x3), (4, .int y6_4), (5, .int y6_5)] → fX10_priceOf_L6 N I0 M0 I1 M1 x2 x3 fu6 y6_4 y6_5 = some R → W p l e (headSpec wsX10_priceOf { frames := 4, cells := 0, slots := 0, locals := 91 }).room s m [.ref (a0 0), .ref (a1 0), .int x2, .int x3].toArray below meth c s.heap [] 0 0 (MQ below (vp_Si (fun r => r = R)) [.ref (a0 0), .ref (a1 0), .int x2, .int x3].toArray s 0 0 (fun _ => False)) (F0 m 6 ls []) := by
    intro fu6
    induction fu6 with
    | zero =>
      intro y6_4 y6_5 ls hl hf
      exact absurd hf (by rw [fX10_priceOf_L6.eq_1]; exact fun h => nomatch h)
    | succ fu6 ih6 =>
      intro y6_4 y6_5 ls hl hf
      rw [fX10_priceOf_L6.eq_2] at hf
      refine lv_iload hx hb dX10_priceOf_6 (lv_at hl 5 rfl) ?_
      refine lv_bipush (v := (20 : Int32)) hx hb dX10_priceOf_8 (by decide) ?_
      refine lv_icmp_ge (tgt := 80) hx hb dX10_priceOf_10 (by decide) (fun hc => ?_) (fun hc => ?_)
      · replace hf := wb_t hc hf
        refine lv_iload hx hb dX10_priceOf_80 (lv_at hl 4 rfl) ?_
        exact W.iret (v := y6_4) hx hb hr (fun t ht hW => ⟨_, rfl, Option.some.inj hf, ht⟩) (fun _ h => nomatch h) dX10_priceOf_82
      · replace hf := wb_f hc hf
        refine lv_iconst (v := (0 : Int32)) hx hb dX10_priceOf_13 (by decide) ?_
        refine lv_istore (lv' := [(6, .int (0 : Int32)), (0, .ref (a0 0)), (1, .ref (a1 0)), (2, .int x2), (3, .int x3), (4, .int y6_4), (5, .int y6_5)]) hx hb dX10_priceOf_14 hl (by decide) rfl (fun ls hl => ?_)
        have L16 : ∀ (fu16 : Nat) (y16_4 : Int32) (y16_6 : Int32), ∀ (ls : Array Slot), lv_has ls 9 [(0, .ref (a0 0)), (1, .ref (a1 0)), (2, .int x2), (3, .int x3), (4, .int y16_4), (5, .int y6_5), (6, .int y16_6)] → fX10_priceOf_L16 N I0 M0 I1 M1 x2 x3 y6_5 (fX10_priceOf_L6 N I0 M0 I1 M1 x2 x3 fu6) fu16 y16_4 y16_6 = some R → W p l e (headSpec wsX10_priceOf { frames := 4, cells := 0, slots := 0, locals := 91 }).room s m [.ref (a0 0), .ref (a1 0), .int x2, .int x3].toArray below meth c s.heap [] 0 0 (MQ below (vp_Si (fun r => r = R)) [.ref (a0 0), .ref (a1 0), .int x2, .int x3].toArray s 0 0 (fun _ => False)) (F0 m 16 ls []) := by
          intro fu16
          induction fu16 with
          | zero =>
            intro y16_4 y16_6 ls hl hf
            exact absurd hf (by rw [fX10_priceOf_L16.eq_1]; exact fun h => nomatch h)
          | succ fu16 ih16 =>
            intro y16_4 y16_6 ls hl hf
            rw [fX10_priceOf_L16.eq_2] at hf
            refine lv_iload hx hb dX10_priceOf_16 (lv_at hl 6 rfl) ?_
            refine lv_bipush (v := (22 : Int32)) hx hb dX10_priceOf_18 (by decide) ?_
            refine lv_icmp_ge (tgt := 74) hx hb dX10_priceOf_20 (by decide) (fun hc => ?_) (fun hc => ?_)
            · replace hf := wb_t hc hf
              obtain ⟨v1, ev1, hf⟩ := wb_v hf
              refine lv_iinc (v := v1) (lv' := [(5, .int v1), (0, .ref (a0 0)), (1, .ref (a1 0)), (2, .int x2), (3, .int x3), (4, .int y16_4), (6, .int y16_6)]) hx hb dX10_priceOf_74 hl (k := 5) rfl (by rw [ev1]; rfl) (by decide) rfl (fun ls hl => ?_)
              refine lv_goto (tgt := 6) hx hb dX10_priceOf_77 (by decide) ?_
              exact ih6 y16_4 v1 ls (lv_sub hl [1, 2, 3, 4, 5, 0] rfl) hf
            · replace hf := wb_f hc hf
              refine lv_aload_n hx hb dX10_priceOf_23 rfl (lv_at hl 1 rfl) ?_
              refine lv_bipush (v := (20 : Int32)) hx hb dX10_priceOf_24 (by decide) ?_
              refine lv_iload_n hx hb dX10_priceOf_26 rfl (lv_at hl 2 rfl) ?_
              refine lv_imul hx hb dX10_priceOf_27 ?_
              refine lv_iload hx hb dX10_priceOf_28 (lv_at hl 5 rfl) ?_
              refine lv_iadd hx hb dX10_priceOf_30 ?_
              refine lv_iload hx hb dX10_priceOf_31 (lv_at hl 6 rfl) ?_
              obtain ⟨r2, hr2, hf⟩ := wb_b hf
              refine vp_callSi (W.runV (As := [.int (((20 : Int32) * x2) + y6_5), .int y16_6]) (rest := []) ⟨hx, hb, hml, hown, hts⟩ (cn_X1_degreeOf l D cB cI cZ N a1 I1 M1 (((20 : Int32) * x2) + y6_5) y16_6 r2 hr2) (cwV 2 hts gX10_priceOf_X1_degreeOf rfl rfl rfl cdX1_degreeOf ⟨Nat.le_of_ble_eq_true rfl, Nat.le_of_ble_eq_true rfl⟩) (wb_preV (hP.sub (ws' := (wWX1 cB cI cZ a1 I1 M1)) [2, 3, 4] rfl) hK (va_recv hK hP (ci := 1) (q0 := 2) rfl rfl)) rfl rfl hl.1 rfl (lv_room (Nat.le_of_ble_eq_true rfl)) dX10_priceOf_33 ⟨Nat.le_of_ble_eq_true rfl, Nat.le_of_ble_eq_true rfl⟩) (fun r9 e9 => ?_)
              rw [e9]
              refine lv_istore (lv' := [(7, .int r2), (0, .ref (a0 0)), (1, .ref (a1 0)), (2, .int x2), (3, .int x3), (4, .int y16_4), (5, .int y6_5), (6, .int y16_6)]) hx hb dX10_priceOf_36 hl (by decide) rfl (fun ls hl => ?_)
              refine lv_aload_n hx hb dX10_priceOf_38 rfl (lv_at hl 2 rfl) ?_
              refine lv_bipush (v := (20 : Int32)) hx hb dX10_priceOf_39 (by decide) ?_
              refine lv_iload_n hx hb dX10_priceOf_41 rfl (lv_at hl 4 rfl) ?_
              refine lv_imul hx hb dX10_priceOf_42 ?_
              refine lv_iload hx hb dX10_priceOf_43 (lv_at hl 6 rfl) ?_
              refine lv_iadd hx hb dX10_priceOf_45 ?_
              refine lv_iload hx hb dX10_priceOf_46 (lv_at hl 7 rfl) ?_
              obtain ⟨r3, hr3, hf⟩ := wb_b hf
              refine vp_callSi (W.runV (As := [.int (((20 : Int32) * x3) + y6_5), .int y16_6]) (rest := []) ⟨hx, hb, hml, hown, hts⟩ (cn_X1_degreeOf l D cB cI cZ N a1 I1 M1 (((20 : Int32) * x3) + y6_5) y16_6 r3 hr3) (cwV 2 hts gX10_priceOf_X1_degreeOf rfl rfl rfl cdX1_degreeOf ⟨Nat.le_of_ble_eq_true rfl, Nat.le_of_ble_eq_true rfl⟩) (wb_preV (hP.sub (ws' := (wWX1 cB cI cZ a1 I1 M1)) [2, 3, 4] rfl) hK (va_recv hK hP (ci := 1) (q0 := 2) rfl rfl)) rfl rfl hl.1 rfl (lv_room (Nat.le_of_ble_eq_true rfl)) dX10_priceOf_48 ⟨Nat.le_of_ble_eq_true rfl, Nat.le_of_ble_eq_true rfl⟩) (fun r9 e9 => ?_)
              rw [e9]
              refine lv_istore (lv' := [(8, .int r3), (7, .int r2), (0, .ref (a0 0)), (1, .ref (a1 0)), (2, .int x2), (3, .int x3), (4, .int y16_4), (5, .int y6_5), (6, .int y16_6)]) hx hb dX10_priceOf_51 hl (by decide) rfl (fun ls hl => ?_)
              refine lv_iload hx hb dX10_priceOf_53 (lv_at hl 6 rfl) ?_
              refine lv_aload_n hx hb dX10_priceOf_55 rfl (lv_at hl 2 rfl) ?_
              refine lv_iload hx hb dX10_priceOf_56 (lv_at hl 8 rfl) ?_
              refine lv_iload hx hb dX10_priceOf_58 (lv_at hl 1 rfl) ?_
              refine lv_iload hx hb dX10_priceOf_60 (lv_at hl 0 rfl) ?_
              obtain ⟨r4, hr4, hf⟩ := wb_b hf
              refine vp_callSi (W.runS (As := [.ref (a0 0), .int y16_6, .int r2, .int r3]) (rest := [.int y16_4]) ⟨hx, hb, hml, hown, hts⟩ (cn_X10_priceOfEntry l D cB cI cZ N a0 I0 M0 y16_6 r2 r3 r4 hr4) (va_cwS 4 hts gX10_priceOf_X10_priceOfEntry rfl rfl rfl csX10_priceOfEntry ⟨Nat.le_of_ble_eq_true rfl, Nat.le_of_ble_eq_true rfl⟩) (wb_preS (hP.sub (ws' := (wWX4 cB cI cZ a0 I0 M0)) [0, 1] rfl) hK) rfl rfl hl.1 rfl (lv_room (Nat.le_of_ble_eq_true rfl)) dX10_priceOf_62 ⟨Nat.le_of_ble_eq_true rfl, Nat.le_of_ble_eq_true rfl⟩) (fun r9 e9 => ?_)
              rw [e9]
              refine lv_iadd hx hb dX10_priceOf_65 ?_
              obtain ⟨v5, ev5, hf⟩ := wb_v hf
              refine wb_topi ev5 ?_
              refine lv_istore (lv' := [(4, .int v5), (8, .int r3), (7, .int r2), (0, .ref (a0 0)), (1, .ref (a1 0)), (2, .int x2), (3, .int x3), (5, .int y6_5), (6, .int y16_6)]) hx hb dX10_priceOf_66 hl (by decide) rfl (fun ls hl => ?_)
              obtain ⟨v6, ev6, hf⟩ := wb_v hf
              refine lv_iinc (v := v6) (lv' := [(6, .int v6), (4, .int v5), (8, .int r3), (7, .int r2), (0, .ref (a0 0)), (1, .ref (a1 0)), (2, .int x2), (3, .int x3), (5, .int y6_5)]) hx hb dX10_priceOf_68 hl (k := 8) rfl (by rw [ev6]; rfl) (by decide) rfl (fun ls hl => ?_)
              refine lv_goto (tgt := 16) hx hb dX10_priceOf_71 (by decide) ?_
              exact ih16 v5 v6 ls (lv_sub hl [4, 5, 6, 7, 1, 8, 0] rfl) hf
        exact L16 N y6_4 (0 : Int32) ls (lv_sub hl [1, 2, 3, 4, 5, 6, 0] rfl) hf
  exact L6 N (0 : Int32) (0 : Int32) ls (lv_sub hl [2, 3, 4, 5, 1, 0] rfl) hf

set_option maxHeartbeats 4000000 in
set_option maxRecDepth 100000 in
theorem cn_X10_setBooks (l : Launch) (D : va_G) (cB cI cZ : ClassId) (N : Nat) (a0 : Nat → Nat) (I0 : Nat → Int32) (M0 : Nat → Nat → Int32) (a1 : Nat → Nat) (I1 : Nat → Int32) (M1 : Nat → Nat → Int32) (sz : Nat) (R : Int32 × (Nat → Int32) × (Nat → Nat → Int32)) (hf : fX10_setBooks N I0 M0 I1 M1 = some R) : Met l yX10_setBooks wsX10_setBooks ({ frames := 3, cells := 0, slots := 0, locals := 66 }) (va_Pc [.ref (a0 0), .ref (a1 0)] (wb_preD D [(cB, .byte), (cI, .int), (cZ, .boolean)] ((wWX10 cB cI cZ a0 I0 M0) ++ (wWX1 cB cI cZ a1 I1 M1)) sz)) (va_Qi (fun r (_ : Unit) => r = R.1) (fun _ t => wb_post D [(cB, .byte), (cI, .int), (cZ, .boolean)] (va_A ((wWX10 cB cI cZ a0 I0 M0) ++ (wWX1 cB cI cZ a1 I1 M1)) sz) ((wWX10 cB cI cZ a0 R.2.1 R.2.2) ++ (wWX1 cB cI cZ a1 I1 M1)) t) (va_A ((wWX10 cB cI cZ a0 I0 M0) ++ (wWX1 cB cI cZ a1 I1 M1)) sz)) 0 0 (va_A ((wWX10 cB cI cZ a0 I0 M0) ++ (wWX1 cB cI cZ a1 I1 M1)) sz) := by
  refine Met.ofW (cc := cX10_setBooks) (maxL := 4) (ret := (some .boolean)) (by decide) rfl ?_
  intro p e s m args below meth c s₁ B hml hv
  obtain ⟨rfl, hsz, hP, hK, hD0⟩ := hv
  have hx := B.exec
  have hb := B.bytes
  have hr := B.returns
  have hts := atoms_spec (ws := wsX10_setBooks) B.pre
  have hown : s.vm.findClass RX10 = some m.cls := findClass_of_methodNamed B.named
  have hlocks := B.notSynchronized
  have hinX10 : ∀ w ∈ u_ws RX10 TX10 5, w ∈ wsX10_setBooks := fun w h => List.mem_cons_of_mem _ (List.mem_append_left _ (List.mem_append_right _ h))
  subst hsz
  have hD := hD0.self (sz := s.heap.size)
  generalize hAe : va_A ((wWX10 cB cI cZ a0 I0 M0) ++ (wWX1 cB cI cZ a1 I1 M1)) s.heap.size = A at hD ⊢
  have hA : ∀ q : Nat, s.heap.size ≤ q → A q := fun q h => by rw [← hAe]; exact Or.inr h
  have hS : va_S A s.heap s.heap [] := va_S.rf
  have hl := lv_entry ([.ref (a0 0), .ref (a1 0)]) (n := 4) (Nat.le_of_ble_eq_true rfl)
  rw [lg_entry_eq]
  generalize (lg_sl ([.ref (a0 0), .ref (a1 0)]) ++ List.replicate (4 - (lg_sl ([.ref (a0 0), .ref (a1 0)])).length) Slot.unset).toArray = ls at hl ⊢
  have hl : lv_has ls 4 [(0, .ref (a0 0)), (1, .ref (a1 0))] := hl
  unfold fX10_setBooks at hf
  obtain ⟨H, hHe⟩ : ∃ H : Heap, H = s.heap := ⟨_, rfl⟩
  obtain ⟨locs, hle⟩ : ∃ locs : List Loc, locs = [] := ⟨_, rfl⟩
  refine wb_start (H := H) (locs := locs) hHe hle ?_
  rw [← hHe] at hP
  have hS : va_S A s.heap H locs := by rw [hHe, hle]; exact va_S.rf
  refine lv_iconst (v := (0 : Int32)) hx hb dX10_setBooks_0 (by decide) ?_
  refine lv_istore_n (lv' := [(2, .int (0 : Int32)), (0, .ref (a0 0)), (1, .ref (a1 0))]) hx hb dX10_setBooks_1 rfl hl (by decide) rfl (fun ls hl => ?_)
  refine lv_iconst (v := (0 : Int32)) hx hb dX10_setBooks_2 (by decide) ?_
  refine lv_istore_n (lv' := [(3, .int (0 : Int32)), (2, .int (0 : Int32)), (0, .ref (a0 0)), (1, .ref (a1 0))]) hx hb dX10_setBooks_3 rfl hl (by decide) rfl (fun ls hl => ?_)
  have L4 : ∀ (fu4 : Nat) (I0_l4 : Nat → Int32) (M0_l4 : Nat → Nat → Int32) (y4_2 : Int32) (y4_3 : Int32) (H : Heap) (locs : List Loc), va_P D vwCl ((wWX10 cB cI cZ a0 I0_l4 M0_l4) ++ (wWX1 cB cI cZ a1 I1 M1)) H → va_D A ((wWX10 cB cI cZ a0 I0_l4 M0_l4) ++ (wWX1 cB cI cZ a1 I1 M1)) → va_S A s.heap H locs → ∀ (ls : Array Slot), lv_has ls 4 [(0, .ref (a0 0)), (1, .ref (a1 0)), (2, .int y4_2), (3, .int y4_3)] → fX10_setBooks_L4 N I1 M1 fu4 I0_l4 M0_l4 y4_2 y4_3 = some R → W p l e (headSpec wsX10_setBooks { frames := 3, cells := 0, slots := 0, locals := 66 }).room s m [.ref (a0 0), .ref (a1 0)].toArray below meth c H locs 0 0 (MQ below (va_Qi (fun r (_ : Unit) => r = R.1) (fun _ t => wb_post D [(cB, .byte), (cI, .int), (cZ, .boolean)] A ((wWX10 cB cI cZ a0 R.2.1 R.2.2) ++ (wWX1 cB cI cZ a1 I1 M1)) t) A) [.ref (a0 0), .ref (a1 0)].toArray s 0 0 A) (F0 m 4 ls []) := by
    intro fu4
    induction fu4 with
    | zero =>
      intro I0_l4 M0_l4 y4_2 y4_3 H locs hP hD hS ls hl hf
      exact absurd hf (by rw [fX10_setBooks_L4.eq_1]; exact fun h => nomatch h)
    | succ fu4 ih4 =>
      have J30 : ∀ (I0_j30 : Nat → Int32) (M0_j30 : Nat → Nat → Int32) (y30_2 : Int32) (y30_3 : Int32) (z30_0 : Int32) (z30_1 : Int32) (H : Heap) (locs : List Loc), va_P D vwCl ((wWX10 cB cI cZ a0 I0_j30 M0_j30) ++ (wWX1 cB cI cZ a1 I1 M1)) H → va_D A ((wWX10 cB cI cZ a0 I0_j30 M0_j30) ++ (wWX1 cB cI cZ a1 I1 M1)) → va_S A s.heap H locs → ∀ (ls : Array Slot), lv_has ls 4 [(0, .ref (a0 0)), (1, .ref (a1 0)), (2, .int y30_2), (3, .int y30_3)] → fX10_setBooks_J30 N I1 M1 (fX10_setBooks_L4 N I1 M1 fu4) I0_j30 M0_j30 y30_2 y30_3 z30_0 z30_1 = some R → W p l e (headSpec wsX10_setBooks { frames := 3, cells := 0, slots := 0, locals := 66 }).room s m [.ref (a0 0), .ref (a1 0)].toArray below meth c H locs 0 0 (MQ below (va_Qi (fun r (_ : Unit) => r = R.1) (fun _ t => wb_post D [(cB, .byte), (cI, .int), (cZ, .boolean)] A ((wWX10 cB cI cZ a0 R.2.1 R.2.2) ++ (wWX1 cB cI cZ a1 I1 M1)) t) A) [.ref (a0 0), .ref (a1 0)].toArray s 0 0 A) (F0 m 30 ls [.int z30_0, .int z30_1, .ref (a0 2)]) := by
        intro I0_j30 M0_j30 y30_2 y30_3 z30_0 z30_1 H locs hP hD hS ls hl hf
        unfold fX10_setBooks_J30 at hf
        obtain ⟨hin, hf⟩ := wb_n hf
        refine va_iast hx hb hK hP hD hS 2 1 rfl rfl hin dX10_setBooks_30 (fun H locs hP hD hS => ?_)
        have hP : va_P D vwCl ((wWX10 cB cI cZ a0 I0_j30 (wb_um M0_j30 1 (z30_1).toNatClampNeg z30_0)) ++ (wWX1 cB cI cZ a1 I1 M1)) H := hP
        have hD : va_D A ((wWX10 cB cI cZ a0 I0_j30 (wb_um M0_j30 1 (z30_1).toNatClampNeg z30_0)) ++ (wWX1 cB cI cZ a1 I1 M1)) := hD
        obtain ⟨M0_1, eM0_1, hf⟩ := wb_v hf
        rw [← eM0_1] at hP hD
        refine lv_iload_n hx hb dX10_setBooks_31 rfl (lv_at hl 2 rfl) ?_
        refine lv_if_ne (tgt := 46) hx hb dX10_setBooks_32 (by decide) (fun hc => ?_) (fun hc => ?_)
        · replace hf := wb_f hc hf
          refine lv_iconst (v := (1 : Int32)) hx hb dX10_setBooks_46 (by decide) ?_
          refine lv_goto (tgt := 51) hx hb dX10_setBooks_47 (by decide) ?_
          refine lv_istore_n (lv' := [(2, .int (1 : Int32)), (0, .ref (a0 0)), (1, .ref (a1 0)), (3, .int y30_3)]) hx hb dX10_setBooks_51 rfl hl (by decide) rfl (fun ls hl => ?_)
          obtain ⟨v2, ev2, hf⟩ := wb_v hf
          refine lv_iinc (v := v2) (lv' := [(3, .int v2), (2, .int (1 : Int32)), (0, .ref (a0 0)), (1, .ref (a1 0))]) hx hb dX10_setBooks_52 hl (k := 3) rfl (by rw [ev2]; rfl) (by decide) rfl (fun ls hl => ?_)
          refine lv_goto (tgt := 4) hx hb dX10_setBooks_55 (by decide) ?_
          exact ih4 I0_j30 M0_1 (1 : Int32) v2 H locs hP hD hS ls (lv_sub hl [2, 3, 1, 0] rfl) hf
        · replace hf := wb_t hc hf
          refine lv_aload_n hx hb dX10_setBooks_35 rfl (lv_at hl 0 rfl) ?_
          refine va_get (D := D) (ci := 10) (v := .ref (a0 2)) (C := RX10) (T := TX10) (N := 5) hx hb hts hinX10 hown hK hP 0 rfl rfl 1 (by decide) (hts (.fieldLink RX10 15 "WheelBook$Tree" "row" "[I") (List.mem_of_getElem? (i := 1) rfl)) (fun _ h9 => h9) rfl dX10_setBooks_36 ?_
          refine lv_iload_n hx hb dX10_setBooks_39 rfl (lv_at hl 3 rfl) ?_
          obtain ⟨hin, hf⟩ := wb_n hf
          refine va_iald hx hb hK hP 2 1 rfl rfl hin dX10_setBooks_40 ?_
          refine lv_bipush (v := (-3 : Int32)) hx hb dX10_setBooks_41 (by decide) ?_
          refine lv_icmp_ne (tgt := 50) hx hb dX10_setBooks_43 (by decide) (fun hc => ?_) (fun hc => ?_)
          · replace hf := wb_f hc hf
            refine lv_iconst (v := (0 : Int32)) hx hb dX10_setBooks_50 (by decide) ?_
            refine lv_istore_n (lv' := [(2, .int (0 : Int32)), (0, .ref (a0 0)), (1, .ref (a1 0)), (3, .int y30_3)]) hx hb dX10_setBooks_51 rfl hl (by decide) rfl (fun ls hl => ?_)
            obtain ⟨v3, ev3, hf⟩ := wb_v hf
            refine lv_iinc (v := v3) (lv' := [(3, .int v3), (2, .int (0 : Int32)), (0, .ref (a0 0)), (1, .ref (a1 0))]) hx hb dX10_setBooks_52 hl (k := 3) rfl (by rw [ev3]; rfl) (by decide) rfl (fun ls hl => ?_)
            refine lv_goto (tgt := 4) hx hb dX10_setBooks_55 (by decide) ?_
            exact ih4 I0_j30 M0_1 (0 : Int32) v3 H locs hP hD hS ls (lv_sub hl [2, 3, 1, 0] rfl) hf
          · replace hf := wb_t hc hf
            refine lv_iconst (v := (1 : Int32)) hx hb dX10_setBooks_46 (by decide) ?_
            refine lv_goto (tgt := 51) hx hb dX10_setBooks_47 (by decide) ?_
            refine lv_istore_n (lv' := [(2, .int (1 : Int32)), (0, .ref (a0 0)), (1, .ref (a1 0)), (3, .int y30_3)]) hx hb dX10_setBooks_51 rfl hl (by decide) rfl (fun ls hl => ?_)
            obtain ⟨v4, ev4, hf⟩ := wb_v hf
            refine lv_iinc (v := v4) (lv' := [(3, .int v4), (2, .int (1 : Int32)), (0, .ref (a0 0)), (1, .ref (a1 0))]) hx hb dX10_setBooks_52 hl (k := 3) rfl (by rw [ev4]; rfl) (by decide) rfl (fun ls hl => ?_)
            refine lv_goto (tgt := 4) hx hb dX10_setBooks_55 (by decide) ?_
            exact ih4 I0_j30 M0_1 (1 : Int32) v4 H locs hP hD hS ls (lv_sub hl [2, 3, 1, 0] rfl) hf
      intro I0_l4 M0_l4 y4_2 y4_3 H locs hP hD hS ls hl hf
      rw [fX10_setBooks_L4.eq_2] at hf
      refine lv_iload_n hx hb dX10_setBooks_4 rfl (lv_at hl 3 rfl) ?_
      refine lv_bipush (v := (6 : Int32)) hx hb dX10_setBooks_5 (by decide) ?_
      refine lv_icmp_ge (tgt := 58) hx hb dX10_setBooks_7 (by decide) (fun hc => ?_) (fun hc => ?_)
      · replace hf := wb_t hc hf
        refine lv_iload_n hx hb dX10_setBooks_58 rfl (lv_at hl 2 rfl) ?_
        obtain ⟨hz, hf⟩ := wb_y hf
        exact W.zret (v := y4_2) hx hb hr (congrArg Value.int hz) (fun t ht hW => by rw [← Option.some.inj hf]; exact ⟨⟨y4_2, (), rfl, rfl, by rw [ht]; exact hP, va_K.moved hW.alike hK, hD⟩, hS.F ht⟩) hS.2.2 dX10_setBooks_59
      · replace hf := wb_f hc hf
        refine lv_aload_n hx hb dX10_setBooks_10 rfl (lv_at hl 0 rfl) ?_
        refine va_get (D := D) (ci := 10) (v := .ref (a0 2)) (C := RX10) (T := TX10) (N := 5) hx hb hts hinX10 hown hK hP 0 rfl rfl 1 (by decide) (hts (.fieldLink RX10 15 "WheelBook$Tree" "row" "[I") (List.mem_of_getElem? (i := 1) rfl)) (fun _ h9 => h9) rfl dX10_setBooks_11 ?_
        refine lv_iload_n hx hb dX10_setBooks_14 rfl (lv_at hl 3 rfl) ?_
        refine lv_aload_n hx hb dX10_setBooks_15 rfl (lv_at hl 1 rfl) ?_
        refine lv_iload_n hx hb dX10_setBooks_16 rfl (lv_at hl 3 rfl) ?_
        obtain ⟨r5, hr5, hf⟩ := wb_b hf
        refine vp_callSi (W.runV (As := [.int y4_3]) (rest := [.int y4_3, .ref (a0 2)]) ⟨hx, hb, hml, hown, hts⟩ (cn_X1_bookTells l D cB cI cZ N a1 I1 M1 y4_3 r5 hr5) (cwV 1 hts gX10_setBooks_X1_bookTells rfl rfl rfl cdX1_bookTells ⟨Nat.le_of_ble_eq_true rfl, Nat.le_of_ble_eq_true rfl⟩) (wb_preV (hP.sub (ws' := (wWX1 cB cI cZ a1 I1 M1)) [4, 5, 6] rfl) hK (va_recv hK hP (ci := 1) (q0 := 4) rfl rfl)) rfl rfl hl.1 rfl (lv_room (Nat.le_of_ble_eq_true rfl)) dX10_setBooks_17 ⟨Nat.le_of_ble_eq_true rfl, Nat.le_of_ble_eq_true rfl⟩) (fun r9 e9 => ?_)
        rw [e9]
        refine lv_if_eq (tgt := 28) hx hb dX10_setBooks_20 (by decide) (fun hc => ?_) (fun hc => ?_)
        · replace hf := wb_t hc hf
          refine lv_bipush (v := (-2 : Int32)) hx hb dX10_setBooks_28 (by decide) ?_
          exact J30 I0_l4 M0_l4 y4_2 y4_3 (-2 : Int32) y4_3 H locs hP hD hS ls (lv_sub hl [0, 1, 2, 3] rfl) hf
        · replace hf := wb_f hc hf
          refine lv_bipush (v := (-3 : Int32)) hx hb dX10_setBooks_23 (by decide) ?_
          refine lv_goto (tgt := 30) hx hb dX10_setBooks_25 (by decide) ?_
          exact J30 I0_l4 M0_l4 y4_2 y4_3 (-3 : Int32) y4_3 H locs hP hD hS ls (lv_sub hl [0, 1, 2, 3] rfl) hf
  exact L4 N I0 M0 (0 : Int32) (0 : Int32) H locs hP hD hS ls (lv_sub hl [2, 3, 1, 0] rfl) hf

set_option maxHeartbeats 4000000 in
set_option maxRecDepth 100000 in
theorem cn_X10_setPrices (l : Launch) (D : va_G) (cB cI cZ : ClassId) (N : Nat) (a0 : Nat → Nat) (I0 : Nat → Int32) (M0 : Nat → Nat → Int32) (a1 : Nat → Nat) (I1 : Nat → Int32) (M1 : Nat → Nat → Int32) (a2 : Nat → Nat) (I2 : Nat → Int32) (M2 : Nat → Nat → Int32) (sz : Nat) (R : (Nat → Int32) × (Nat → Nat → Int32)) (hf : fX10_setPrices N I0 M0 I1 M1 I2 M2 = some R) : Met l yX10_setPrices wsX10_setPrices ({ frames := 5, cells := 0, slots := 0, locals := 119 }) (va_Pc [.ref (a0 0), .ref (a1 0), .ref (a2 0)] (wb_preD D [(cB, .byte), (cI, .int), (cZ, .boolean)] ((wWX10 cB cI cZ a0 I0 M0) ++ ((wWX4 cB cI cZ a1 I1 M1) ++ (wWX1 cB cI cZ a2 I2 M2))) sz)) (va_Qv (fun _ : Unit => True) (fun _ t => wb_post D [(cB, .byte), (cI, .int), (cZ, .boolean)] (va_A ((wWX10 cB cI cZ a0 I0 M0) ++ ((wWX4 cB cI cZ a1 I1 M1) ++ (wWX1 cB cI cZ a2 I2 M2))) sz) ((wWX10 cB cI cZ a0 R.1 R.2) ++ ((wWX4 cB cI cZ a1 I1 M1) ++ (wWX1 cB cI cZ a2 I2 M2))) t) (va_A ((wWX10 cB cI cZ a0 I0 M0) ++ ((wWX4 cB cI cZ a1 I1 M1) ++ (wWX1 cB cI cZ a2 I2 M2))) sz)) 0 0 (va_A ((wWX10 cB cI cZ a0 I0 M0) ++ ((wWX4 cB cI cZ a1 I1 M1) ++ (wWX1 cB cI cZ a2 I2 M2))) sz) := by
  refine Met.ofW (cc := cX10_setPrices) (maxL := 6) (ret := none) (by decide) rfl ?_
  intro p e s m args below meth c s₁ B hml hv
  obtain ⟨rfl, hsz, hP, hK, hD0⟩ := hv
  have hx := B.exec
  have hb := B.bytes
  have hr := B.returns
  have hts := atoms_spec (ws := wsX10_setPrices) B.pre
  have hown : s.vm.findClass RX10 = some m.cls := findClass_of_methodNamed B.named
  have hlocks := B.notSynchronized
  have hinX10 : ∀ w ∈ u_ws RX10 TX10 5, w ∈ wsX10_setPrices := fun w h => List.mem_cons_of_mem _ (List.mem_append_left _ (List.mem_append_left _ (List.mem_append_right _ h)))
  subst hsz
  have hD := hD0.self (sz := s.heap.size)
  generalize hAe : va_A ((wWX10 cB cI cZ a0 I0 M0) ++ ((wWX4 cB cI cZ a1 I1 M1) ++ (wWX1 cB cI cZ a2 I2 M2))) s.heap.size = A at hD ⊢
  have hA : ∀ q : Nat, s.heap.size ≤ q → A q := fun q h => by rw [← hAe]; exact Or.inr h
  have hS : va_S A s.heap s.heap [] := va_S.rf
  have hl := lv_entry ([.ref (a0 0), .ref (a1 0), .ref (a2 0)]) (n := 6) (Nat.le_of_ble_eq_true rfl)
  rw [lg_entry_eq]
  generalize (lg_sl ([.ref (a0 0), .ref (a1 0), .ref (a2 0)]) ++ List.replicate (6 - (lg_sl ([.ref (a0 0), .ref (a1 0), .ref (a2 0)])).length) Slot.unset).toArray = ls at hl ⊢
  have hl : lv_has ls 6 [(0, .ref (a0 0)), (1, .ref (a1 0)), (2, .ref (a2 0))] := hl
  unfold fX10_setPrices at hf
  obtain ⟨H, hHe⟩ : ∃ H : Heap, H = s.heap := ⟨_, rfl⟩
  obtain ⟨locs, hle⟩ : ∃ locs : List Loc, locs = [] := ⟨_, rfl⟩
  refine wb_start (H := H) (locs := locs) hHe hle ?_
  rw [← hHe] at hP
  have hS : va_S A s.heap H locs := by rw [hHe, hle]; exact va_S.rf
  refine lv_iconst (v := (0 : Int32)) hx hb dX10_setPrices_0 (by decide) ?_
  refine lv_istore_n (lv' := [(3, .int (0 : Int32)), (0, .ref (a0 0)), (1, .ref (a1 0)), (2, .ref (a2 0))]) hx hb dX10_setPrices_1 rfl hl (by decide) rfl (fun ls hl => ?_)
  have L2 : ∀ (fu2 : Nat) (I0_l2 : Nat → Int32) (M0_l2 : Nat → Nat → Int32) (y2_3 : Int32) (H : Heap) (locs : List Loc), va_P D vwCl ((wWX10 cB cI cZ a0 I0_l2 M0_l2) ++ ((wWX4 cB cI cZ a1 I1 M1) ++ (wWX1 cB cI cZ a2 I2 M2))) H → va_D A ((wWX10 cB cI cZ a0 I0_l2 M0_l2) ++ ((wWX4 cB cI cZ a1 I1 M1) ++ (wWX1 cB cI cZ a2 I2 M2))) → va_S A s.heap H locs → ∀ (ls : Array Slot), lv_has ls 6 [(0, .ref (a0 0)), (1, .ref (a1 0)), (2, .ref (a2 0)), (3, .int y2_3)] → fX10_setPrices_L2 N I1 M1 I2 M2 fu2 I0_l2 M0_l2 y2_3 = some R → W p l e (headSpec wsX10_setPrices { frames := 5, cells := 0, slots := 0, locals := 119 }).room s m [.ref (a0 0), .ref (a1 0), .ref (a2 0)].toArray below meth c H locs 0 0 (MQ below (va_Qv (fun _ : Unit => True) (fun _ t => wb_post D [(cB, .byte), (cI, .int), (cZ, .boolean)] A ((wWX10 cB cI cZ a0 R.1 R.2) ++ ((wWX4 cB cI cZ a1 I1 M1) ++ (wWX1 cB cI cZ a2 I2 M2))) t) A) [.ref (a0 0), .ref (a1 0), .ref (a2 0)].toArray s 0 0 A) (F0 m 2 ls []) := by
    intro fu2
    induction fu2 with
    | zero =>
      intro I0_l2 M0_l2 y2_3 H locs hP hD hS ls hl hf
      exact absurd hf (by rw [fX10_setPrices_L2.eq_1]; exact fun h => nomatch h)
    | succ fu2 ih2 =>
      intro I0_l2 M0_l2 y2_3 H locs hP hD hS ls hl hf
      rw [fX10_setPrices_L2.eq_2] at hf
      refine lv_iload_n hx hb dX10_setPrices_2 rfl (lv_at hl 3 rfl) ?_
      refine lv_bipush (v := (6 : Int32)) hx hb dX10_setPrices_3 (by decide) ?_
      refine lv_icmp_ge (tgt := 89) hx hb dX10_setPrices_5 (by decide) (fun hc => ?_) (fun hc => ?_)
      · replace hf := wb_t hc hf
        exact W.vret hx hb hr (fun t ht hW => by rw [← Option.some.inj hf]; exact ⟨⟨(), rfl, trivial, by rw [ht]; exact hP, va_K.moved hW.alike hK, hD⟩, hS.F ht⟩) hS.2.2 dX10_setPrices_89
      · replace hf := wb_f hc hf
        refine lv_iconst (v := (0 : Int32)) hx hb dX10_setPrices_8 (by decide) ?_
        refine lv_istore (lv' := [(4, .int (0 : Int32)), (0, .ref (a0 0)), (1, .ref (a1 0)), (2, .ref (a2 0)), (3, .int y2_3)]) hx hb dX10_setPrices_9 hl (by decide) rfl (fun ls hl => ?_)
        have L11 : ∀ (fu11 : Nat) (I0_l11 : Nat → Int32) (M0_l11 : Nat → Nat → Int32) (y11_4 : Int32) (H : Heap) (locs : List Loc), va_P D vwCl ((wWX10 cB cI cZ a0 I0_l11 M0_l11) ++ ((wWX4 cB cI cZ a1 I1 M1) ++ (wWX1 cB cI cZ a2 I2 M2))) H → va_D A ((wWX10 cB cI cZ a0 I0_l11 M0_l11) ++ ((wWX4 cB cI cZ a1 I1 M1) ++ (wWX1 cB cI cZ a2 I2 M2))) → va_S A s.heap H locs → ∀ (ls : Array Slot), lv_has ls 6 [(0, .ref (a0 0)), (1, .ref (a1 0)), (2, .ref (a2 0)), (3, .int y2_3), (4, .int y11_4)] → fX10_setPrices_L11 N I1 M1 I2 M2 y2_3 (fX10_setPrices_L2 N I1 M1 I2 M2 fu2) fu11 I0_l11 M0_l11 y11_4 = some R → W p l e (headSpec wsX10_setPrices { frames := 5, cells := 0, slots := 0, locals := 119 }).room s m [.ref (a0 0), .ref (a1 0), .ref (a2 0)].toArray below meth c H locs 0 0 (MQ below (va_Qv (fun _ : Unit => True) (fun _ t => wb_post D [(cB, .byte), (cI, .int), (cZ, .boolean)] A ((wWX10 cB cI cZ a0 R.1 R.2) ++ ((wWX4 cB cI cZ a1 I1 M1) ++ (wWX1 cB cI cZ a2 I2 M2))) t) A) [.ref (a0 0), .ref (a1 0), .ref (a2 0)].toArray s 0 0 A) (F0 m 11 ls []) := by
          intro fu11
          induction fu11 with
          | zero =>
            intro I0_l11 M0_l11 y11_4 H locs hP hD hS ls hl hf
            exact absurd hf (by rw [fX10_setPrices_L11.eq_1]; exact fun h => nomatch h)
          | succ fu11 ih11 =>
            have J46 : ∀ (I0_j46 : Nat → Int32) (M0_j46 : Nat → Nat → Int32) (y46_4 : Int32) (z46_0 : Int32) (H : Heap) (locs : List Loc), va_P D vwCl ((wWX10 cB cI cZ a0 I0_j46 M0_j46) ++ ((wWX4 cB cI cZ a1 I1 M1) ++ (wWX1 cB cI cZ a2 I2 M2))) H → va_D A ((wWX10 cB cI cZ a0 I0_j46 M0_j46) ++ ((wWX4 cB cI cZ a1 I1 M1) ++ (wWX1 cB cI cZ a2 I2 M2))) → va_S A s.heap H locs → ∀ (ls : Array Slot), lv_has ls 6 [(0, .ref (a0 0)), (1, .ref (a1 0)), (2, .ref (a2 0)), (3, .int y2_3), (4, .int y46_4)] → fX10_setPrices_J46 N I1 M1 I2 M2 y2_3 (fX10_setPrices_L2 N I1 M1 I2 M2 fu2) (fX10_setPrices_L11 N I1 M1 I2 M2 y2_3 (fX10_setPrices_L2 N I1 M1 I2 M2 fu2) fu11) I0_j46 M0_j46 y46_4 z46_0 = some R → W p l e (headSpec wsX10_setPrices { frames := 5, cells := 0, slots := 0, locals := 119 }).room s m [.ref (a0 0), .ref (a1 0), .ref (a2 0)].toArray below meth c H locs 0 0 (MQ below (va_Qv (fun _ : Unit => True) (fun _ t => wb_post D [(cB, .byte), (cI, .int), (cZ, .boolean)] A ((wWX10 cB cI cZ a0 R.1 R.2) ++ ((wWX4 cB cI cZ a1 I1 M1) ++ (wWX1 cB cI cZ a2 I2 M2))) t) A) [.ref (a0 0), .ref (a1 0), .ref (a2 0)].toArray s 0 0 A) (F0 m 46 ls [.int z46_0]) := by
              intro I0_j46 M0_j46 y46_4 z46_0 H locs hP hD hS ls hl hf
              unfold fX10_setPrices_J46 at hf
              refine lv_istore (lv' := [(5, .int z46_0), (0, .ref (a0 0)), (1, .ref (a1 0)), (2, .ref (a2 0)), (3, .int y2_3), (4, .int y46_4)]) hx hb dX10_setPrices_46 hl (by decide) rfl (fun ls hl => ?_)
              refine lv_aload_n hx hb dX10_setPrices_48 rfl (lv_at hl 1 rfl) ?_
              refine va_get (D := D) (ci := 10) (v := .ref (a0 1)) (C := RX10) (T := TX10) (N := 5) hx hb hts hinX10 hown hK hP 0 rfl rfl 0 (by decide) (hts (.fieldLink RX10 9 "WheelBook$Tree" "prices" "[I") (List.mem_of_getElem? (i := 2) rfl)) (fun _ h9 => h9) rfl dX10_setPrices_49 ?_
              refine lv_bipush (v := (6 : Int32)) hx hb dX10_setPrices_52 (by decide) ?_
              refine lv_iload_n hx hb dX10_setPrices_54 rfl (lv_at hl 4 rfl) ?_
              refine lv_imul hx hb dX10_setPrices_55 ?_
              refine lv_iload hx hb dX10_setPrices_56 (lv_at hl 5 rfl) ?_
              refine lv_iadd hx hb dX10_setPrices_58 ?_
              refine lv_iload hx hb dX10_setPrices_59 (lv_at hl 0 rfl) ?_
              refine lv_if_eq (tgt := 75) hx hb dX10_setPrices_61 (by decide) (fun hc => ?_) (fun hc => ?_)
              · replace hf := wb_t hc hf
                refine lv_iconst (v := (0 : Int32)) hx hb dX10_setPrices_75 (by decide) ?_
                obtain ⟨hin, hf⟩ := wb_n hf
                refine va_iast hx hb hK hP hD hS 1 1 rfl rfl hin dX10_setPrices_76 (fun H locs hP hD hS => ?_)
                have hP : va_P D vwCl ((wWX10 cB cI cZ a0 I0_j46 (wb_um M0_j46 0 ((((6 : Int32) * y2_3) + y46_4)).toNatClampNeg (0 : Int32))) ++ ((wWX4 cB cI cZ a1 I1 M1) ++ (wWX1 cB cI cZ a2 I2 M2))) H := hP
                have hD : va_D A ((wWX10 cB cI cZ a0 I0_j46 (wb_um M0_j46 0 ((((6 : Int32) * y2_3) + y46_4)).toNatClampNeg (0 : Int32))) ++ ((wWX4 cB cI cZ a1 I1 M1) ++ (wWX1 cB cI cZ a2 I2 M2))) := hD
                obtain ⟨M0_1, eM0_1, hf⟩ := wb_v hf
                rw [← eM0_1] at hP hD
                obtain ⟨v2, ev2, hf⟩ := wb_v hf
                refine lv_iinc (v := v2) (lv' := [(4, .int v2), (5, .int z46_0), (0, .ref (a0 0)), (1, .ref (a1 0)), (2, .ref (a2 0)), (3, .int y2_3)]) hx hb dX10_setPrices_77 hl (k := 5) rfl (by rw [ev2]; rfl) (by decide) rfl (fun ls hl => ?_)
                refine lv_goto (tgt := 11) hx hb dX10_setPrices_80 (by decide) ?_
                exact ih11 I0_j46 M0_1 v2 H locs hP hD hS ls (lv_sub hl [2, 3, 4, 5, 0] rfl) hf
              · replace hf := wb_f hc hf
                refine lv_aload_n hx hb dX10_setPrices_64 rfl (lv_at hl 2 rfl) ?_
                refine lv_aload_n hx hb dX10_setPrices_65 rfl (lv_at hl 3 rfl) ?_
                refine lv_iload_n hx hb dX10_setPrices_66 rfl (lv_at hl 4 rfl) ?_
                refine lv_iload hx hb dX10_setPrices_67 (lv_at hl 5 rfl) ?_
                obtain ⟨r3, hr3, hf⟩ := wb_b hf
                refine vp_callSi (W.runS (As := [.ref (a1 0), .ref (a2 0), .int y2_3, .int y46_4]) (rest := [.int (((6 : Int32) * y2_3) + y46_4), .ref (a0 1)]) ⟨hx, hb, hml, hown, hts⟩ (cn_X10_priceOf l D cB cI cZ N a1 I1 M1 a2 I2 M2 y2_3 y46_4 r3 hr3) (va_cwS 4 hts gX10_setPrices_X10_priceOf rfl rfl rfl csX10_priceOf ⟨Nat.le_of_ble_eq_true rfl, Nat.le_of_ble_eq_true rfl⟩) (wb_preS (hP.sub (ws' := ((wWX4 cB cI cZ a1 I1 M1) ++ (wWX1 cB cI cZ a2 I2 M2))) [4, 5, 6, 7, 8] rfl) hK) rfl rfl hl.1 rfl (lv_room (Nat.le_of_ble_eq_true rfl)) dX10_setPrices_69 ⟨Nat.le_of_ble_eq_true rfl, Nat.le_of_ble_eq_true rfl⟩) (fun r9 e9 => ?_)
                rw [e9]
                refine lv_goto (tgt := 76) hx hb dX10_setPrices_72 (by decide) ?_
                obtain ⟨hin, hf⟩ := wb_n hf
                refine va_iast hx hb hK hP hD hS 1 1 rfl rfl hin dX10_setPrices_76 (fun H locs hP hD hS => ?_)
                have hP : va_P D vwCl ((wWX10 cB cI cZ a0 I0_j46 (wb_um M0_j46 0 ((((6 : Int32) * y2_3) + y46_4)).toNatClampNeg r3)) ++ ((wWX4 cB cI cZ a1 I1 M1) ++ (wWX1 cB cI cZ a2 I2 M2))) H := hP
                have hD : va_D A ((wWX10 cB cI cZ a0 I0_j46 (wb_um M0_j46 0 ((((6 : Int32) * y2_3) + y46_4)).toNatClampNeg r3)) ++ ((wWX4 cB cI cZ a1 I1 M1) ++ (wWX1 cB cI cZ a2 I2 M2))) := hD
                obtain ⟨M0_4, eM0_4, hf⟩ := wb_v hf
                rw [← eM0_4] at hP hD
                obtain ⟨v5, ev5, hf⟩ := wb_v hf
                refine lv_iinc (v := v5) (lv' := [(4, .int v5), (5, .int z46_0), (0, .ref (a0 0)), (1, .ref (a1 0)), (2, .ref (a2 0)), (3, .int y2_3)]) hx hb dX10_setPrices_77 hl (k := 5) rfl (by rw [ev5]; rfl) (by decide) rfl (fun ls hl => ?_)
                refine lv_goto (tgt := 11) hx hb dX10_setPrices_80 (by decide) ?_
                exact ih11 I0_j46 M0_4 v5 H locs hP hD hS ls (lv_sub hl [2, 3, 4, 5, 0] rfl) hf
            have J45 : ∀ (I0_j45 : Nat → Int32) (M0_j45 : Nat → Nat → Int32) (y45_4 : Int32) (H : Heap) (locs : List Loc), va_P D vwCl ((wWX10 cB cI cZ a0 I0_j45 M0_j45) ++ ((wWX4 cB cI cZ a1 I1 M1) ++ (wWX1 cB cI cZ a2 I2 M2))) H → va_D A ((wWX10 cB cI cZ a0 I0_j45 M0_j45) ++ ((wWX4 cB cI cZ a1 I1 M1) ++ (wWX1 cB cI cZ a2 I2 M2))) → va_S A s.heap H locs → ∀ (ls : Array Slot), lv_has ls 6 [(0, .ref (a0 0)), (1, .ref (a1 0)), (2, .ref (a2 0)), (3, .int y2_3), (4, .int y45_4)] → fX10_setPrices_J45 N I1 M1 I2 M2 y2_3 (fX10_setPrices_L2 N I1 M1 I2 M2 fu2) (fX10_setPrices_L11 N I1 M1 I2 M2 y2_3 (fX10_setPrices_L2 N I1 M1 I2 M2 fu2) fu11) I0_j45 M0_j45 y45_4 = some R → W p l e (headSpec wsX10_setPrices { frames := 5, cells := 0, slots := 0, locals := 119 }).room s m [.ref (a0 0), .ref (a1 0), .ref (a2 0)].toArray below meth c H locs 0 0 (MQ below (va_Qv (fun _ : Unit => True) (fun _ t => wb_post D [(cB, .byte), (cI, .int), (cZ, .boolean)] A ((wWX10 cB cI cZ a0 R.1 R.2) ++ ((wWX4 cB cI cZ a1 I1 M1) ++ (wWX1 cB cI cZ a2 I2 M2))) t) A) [.ref (a0 0), .ref (a1 0), .ref (a2 0)].toArray s 0 0 A) (F0 m 45 ls []) := by
              intro I0_j45 M0_j45 y45_4 H locs hP hD hS ls hl hf
              unfold fX10_setPrices_J45 at hf
              refine lv_iconst (v := (0 : Int32)) hx hb dX10_setPrices_45 (by decide) ?_
              exact J46 I0_j45 M0_j45 y45_4 (0 : Int32) H locs hP hD hS ls (lv_sub hl [0, 1, 2, 3, 4] rfl) hf
            intro I0_l11 M0_l11 y11_4 H locs hP hD hS ls hl hf
            rw [fX10_setPrices_L11.eq_2] at hf
            refine lv_iload hx hb dX10_setPrices_11 (lv_at hl 4 rfl) ?_
            refine lv_bipush (v := (6 : Int32)) hx hb dX10_setPrices_13 (by decide) ?_
            refine lv_icmp_ge (tgt := 83) hx hb dX10_setPrices_15 (by decide) (fun hc => ?_) (fun hc => ?_)
            · replace hf := wb_t hc hf
              obtain ⟨v6, ev6, hf⟩ := wb_v hf
              refine lv_iinc (v := v6) (lv' := [(3, .int v6), (0, .ref (a0 0)), (1, .ref (a1 0)), (2, .ref (a2 0)), (4, .int y11_4)]) hx hb dX10_setPrices_83 hl (k := 3) rfl (by rw [ev6]; rfl) (by decide) rfl (fun ls hl => ?_)
              refine lv_goto (tgt := 2) hx hb dX10_setPrices_86 (by decide) ?_
              exact ih2 I0_l11 M0_l11 v6 H locs hP hD hS ls (lv_sub hl [1, 2, 3, 0] rfl) hf
            · replace hf := wb_f hc hf
              refine lv_aload_n hx hb dX10_setPrices_18 rfl (lv_at hl 0 rfl) ?_
              refine va_get (D := D) (ci := 10) (v := .ref (a0 2)) (C := RX10) (T := TX10) (N := 5) hx hb hts hinX10 hown hK hP 0 rfl rfl 1 (by decide) (hts (.fieldLink RX10 15 "WheelBook$Tree" "row" "[I") (List.mem_of_getElem? (i := 1) rfl)) (fun _ h9 => h9) rfl dX10_setPrices_19 ?_
              refine lv_iload_n hx hb dX10_setPrices_22 rfl (lv_at hl 3 rfl) ?_
              obtain ⟨hin, hf⟩ := wb_n hf
              refine va_iald hx hb hK hP 2 1 rfl rfl hin dX10_setPrices_23 ?_
              refine lv_bipush (v := (-3 : Int32)) hx hb dX10_setPrices_24 (by decide) ?_
              refine lv_icmp_ne (tgt := 45) hx hb dX10_setPrices_26 (by decide) (fun hc => ?_) (fun hc => ?_)
              · replace hf := wb_f hc hf
                exact J45 I0_l11 M0_l11 y11_4 H locs hP hD hS ls (lv_sub hl [0, 1, 2, 3, 4] rfl) hf
              · replace hf := wb_t hc hf
                refine lv_aload_n hx hb dX10_setPrices_29 rfl (lv_at hl 0 rfl) ?_
                refine va_get (D := D) (ci := 10) (v := .ref (a0 2)) (C := RX10) (T := TX10) (N := 5) hx hb hts hinX10 hown hK hP 0 rfl rfl 1 (by decide) (hts (.fieldLink RX10 15 "WheelBook$Tree" "row" "[I") (List.mem_of_getElem? (i := 1) rfl)) (fun _ h9 => h9) rfl dX10_setPrices_30 ?_
                refine lv_iload hx hb dX10_setPrices_33 (lv_at hl 4 rfl) ?_
                obtain ⟨hin, hf⟩ := wb_n hf
                refine va_iald hx hb hK hP 2 1 rfl rfl hin dX10_setPrices_35 ?_
                refine lv_bipush (v := (-3 : Int32)) hx hb dX10_setPrices_36 (by decide) ?_
                refine lv_icmp_ne (tgt := 45) hx hb dX10_setPrices_38 (by decide) (fun hc => ?_) (fun hc => ?_)
                · replace hf := wb_f hc hf
                  exact J45 I0_l11 M0_l11 y11_4 H locs hP hD hS ls (lv_sub hl [0, 1, 2, 3, 4] rfl) hf
                · replace hf := wb_t hc hf
                  refine lv_iconst (v := (1 : Int32)) hx hb dX10_setPrices_41 (by decide) ?_
                  refine lv_goto (tgt := 46) hx hb dX10_setPrices_42 (by decide) ?_
                  exact J46 I0_l11 M0_l11 y11_4 (1 : Int32) H locs hP hD hS ls (lv_sub hl [0, 1, 2, 3, 4] rfl) hf
        exact L11 N I0_l2 M0_l2 (0 : Int32) H locs hP hD hS ls (lv_sub hl [1, 2, 3, 4, 0] rfl) hf
  exact L2 N I0 M0 (0 : Int32) H locs hP hD hS ls (lv_sub hl [1, 2, 3, 0] rfl) hf

set_option maxHeartbeats 4000000 in
set_option maxRecDepth 100000 in
theorem cn_X10_comesFrom (l : Launch) (D : va_G) (cB cI cZ : ClassId) (N : Nat) (a0 : Nat → Nat) (I0 : Nat → Int32) (M0 : Nat → Nat → Int32) (x1 : Int32) (x2 : Int32) (R : Int32) (hf : fX10_comesFrom N I0 M0 x1 x2 = some R) : Met l yX10_comesFrom wsX10_comesFrom ({ frames := 0, cells := 0, slots := 0, locals := 0 }) (va_Pc [.ref (a0 0), .int x1, .int x2] (wb_pre D [(cB, .byte), (cI, .int), (cZ, .boolean)] (wWX10 cB cI cZ a0 I0 M0))) (vp_Si (fun r => r = R)) 0 0 (fun _ => False) := by
  refine Met.ofW (cc := cX10_comesFrom) (maxL := 5) (ret := (some .boolean)) (by decide) rfl ?_
  intro p e s m args below meth c s₁ B hml hv
  obtain ⟨rfl, hP, hK⟩ := hv
  have hx := B.exec
  have hb := B.bytes
  have hr := B.returns
  have hts := atoms_spec (ws := wsX10_comesFrom) B.pre
  have hown : s.vm.findClass RX10 = some m.cls := findClass_of_methodNamed B.named
  have hlocks := B.notSynchronized
  have hinX10 : ∀ w ∈ u_ws RX10 TX10 5, w ∈ wsX10_comesFrom := fun w h => List.mem_cons_of_mem _ (List.mem_append_right _ h)
  have hl := lv_entry ([.ref (a0 0), .int x1, .int x2]) (n := 5) (Nat.le_of_ble_eq_true rfl)
  rw [lg_entry_eq]
  generalize (lg_sl ([.ref (a0 0), .int x1, .int x2]) ++ List.replicate (5 - (lg_sl ([.ref (a0 0), .int x1, .int x2])).length) Slot.unset).toArray = ls at hl ⊢
  have hl : lv_has ls 5 [(0, .ref (a0 0)), (1, .int x1), (2, .int x2)] := hl
  unfold fX10_comesFrom at hf
  refine lv_iload_n hx hb dX10_comesFrom_0 rfl (lv_at hl 1 rfl) ?_
  refine lv_istore_n (lv' := [(3, .int x1), (0, .ref (a0 0)), (1, .int x1), (2, .int x2)]) hx hb dX10_comesFrom_1 rfl hl (by decide) rfl (fun ls hl => ?_)
  refine lv_iconst (v := (0 : Int32)) hx hb dX10_comesFrom_2 (by decide) ?_
  refine lv_istore (lv' := [(4, .int (0 : Int32)), (3, .int x1), (0, .ref (a0 0)), (1, .int x1), (2, .int x2)]) hx hb dX10_comesFrom_3 hl (by decide) rfl (fun ls hl => ?_)
  have L5 : ∀ (fu5 : Nat) (y5_3 : Int32) (y5_4 : Int32), ∀ (ls : Array Slot), lv_has ls 5 [(0, .ref (a0 0)), (2, .int x2), (3, .int y5_3), (4, .int y5_4)] → fX10_comesFrom_L5 N I0 M0 x1 x2 fu5 y5_3 y5_4 = some R → W p l e (headSpec wsX10_comesFrom { frames := 0, cells := 0, slots := 0, locals := 0 }).room s m [.ref (a0 0), .int x1, .int x2].toArray below meth c s.heap [] 0 0 (MQ below (vp_Si (fun r => r = R)) [.ref (a0 0), .int x1, .int x2].toArray s 0 0 (fun _ => False)) (F0 m 5 ls []) := by
    intro fu5
    induction fu5 with
    | zero =>
      intro y5_3 y5_4 ls hl hf
      exact absurd hf (by rw [fX10_comesFrom_L5.eq_1]; exact fun h => nomatch h)
    | succ fu5 ih5 =>
      intro y5_3 y5_4 ls hl hf
      rw [fX10_comesFrom_L5.eq_2] at hf
      refine lv_iload hx hb dX10_comesFrom_5 (lv_at hl 3 rfl) ?_
      refine lv_bipush (v := (6 : Int32)) hx hb dX10_comesFrom_7 (by decide) ?_
      refine lv_icmp_ge (tgt := 36) hx hb dX10_comesFrom_9 (by decide) (fun hc => ?_) (fun hc => ?_)
      · replace hf := wb_t hc hf
        refine lv_iconst (v := (0 : Int32)) hx hb dX10_comesFrom_36 (by decide) ?_
        exact W.zret (v := (0 : Int32)) hx hb hr (by decide) (fun t ht hW => ⟨_, rfl, Option.some.inj hf, ht⟩) (fun _ h => nomatch h) dX10_comesFrom_37
      · replace hf := wb_f hc hf
        refine lv_iload_n hx hb dX10_comesFrom_12 rfl (lv_at hl 2 rfl) ?_
        refine lv_if_lt (tgt := 36) hx hb dX10_comesFrom_13 (by decide) (fun hc => ?_) (fun hc => ?_)
        · replace hf := wb_t hc hf
          refine lv_iconst (v := (0 : Int32)) hx hb dX10_comesFrom_36 (by decide) ?_
          exact W.zret (v := (0 : Int32)) hx hb hr (by decide) (fun t ht hW => ⟨_, rfl, Option.some.inj hf, ht⟩) (fun _ h => nomatch h) dX10_comesFrom_37
        · replace hf := wb_f hc hf
          refine lv_iload_n hx hb dX10_comesFrom_16 rfl (lv_at hl 2 rfl) ?_
          refine lv_iload_n hx hb dX10_comesFrom_17 rfl (lv_at hl 1 rfl) ?_
          refine lv_icmp_ne (tgt := 23) hx hb dX10_comesFrom_18 (by decide) (fun hc => ?_) (fun hc => ?_)
          · replace hf := wb_f hc hf
            refine lv_aload_n hx hb dX10_comesFrom_23 rfl (lv_at hl 0 rfl) ?_
            refine va_get (D := D) (ci := 10) (v := .ref (a0 2)) (C := RX10) (T := TX10) (N := 5) hx hb hts hinX10 hown hK hP 0 rfl rfl 1 (by decide) (hts (.fieldLink RX10 15 "WheelBook$Tree" "row" "[I") (List.mem_of_getElem? (i := 1) rfl)) (fun _ h9 => h9) rfl dX10_comesFrom_24 ?_
            refine lv_iload_n hx hb dX10_comesFrom_27 rfl (lv_at hl 2 rfl) ?_
            obtain ⟨hin, hf⟩ := wb_n hf
            refine va_iald hx hb hK hP 2 1 rfl rfl hin dX10_comesFrom_28 ?_
            obtain ⟨v1, ev1, hf⟩ := wb_v hf
            refine wb_topi ev1 ?_
            refine lv_istore_n (lv' := [(3, .int v1), (0, .ref (a0 0)), (2, .int x2), (4, .int y5_4)]) hx hb dX10_comesFrom_29 rfl hl (by decide) rfl (fun ls hl => ?_)
            obtain ⟨v2, ev2, hf⟩ := wb_v hf
            refine lv_iinc (v := v2) (lv' := [(4, .int v2), (3, .int v1), (0, .ref (a0 0)), (2, .int x2)]) hx hb dX10_comesFrom_30 hl (k := 3) rfl (by rw [ev2]; rfl) (by decide) rfl (fun ls hl => ?_)
            refine lv_goto (tgt := 5) hx hb dX10_comesFrom_33 (by decide) ?_
            exact ih5 v1 v2 ls (lv_sub hl [2, 3, 1, 0] rfl) hf
          · replace hf := wb_t hc hf
            refine lv_iconst (v := (1 : Int32)) hx hb dX10_comesFrom_21 (by decide) ?_
            exact W.zret (v := (1 : Int32)) hx hb hr (by decide) (fun t ht hW => ⟨_, rfl, Option.some.inj hf, ht⟩) (fun _ h => nomatch h) dX10_comesFrom_22
  exact L5 N x1 (0 : Int32) ls (lv_sub hl [2, 4, 1, 0] rfl) hf

set_option maxHeartbeats 4000000 in
set_option maxRecDepth 100000 in
theorem cn_X10_holds (l : Launch) (D : va_G) (cB cI cZ : ClassId) (N : Nat) (a0 : Nat → Nat) (I0 : Nat → Int32) (M0 : Nat → Nat → Int32) (x1 : Int32) (R : Int32) (hf : fX10_holds N I0 M0 x1 = some R) : Met l yX10_holds wsX10_holds ({ frames := 0, cells := 0, slots := 0, locals := 0 }) (va_Pc [.ref (a0 0), .int x1] (wb_pre D [(cB, .byte), (cI, .int), (cZ, .boolean)] (wWX10 cB cI cZ a0 I0 M0))) (vp_Si (fun r => r = R)) 0 0 (fun _ => False) := by
  refine Met.ofW (cc := cX10_holds) (maxL := 2) (ret := (some .boolean)) (by decide) rfl ?_
  intro p e s m args below meth c s₁ B hml hv
  obtain ⟨rfl, hP, hK⟩ := hv
  have hx := B.exec
  have hb := B.bytes
  have hr := B.returns
  have hts := atoms_spec (ws := wsX10_holds) B.pre
  have hown : s.vm.findClass RX10 = some m.cls := findClass_of_methodNamed B.named
  have hlocks := B.notSynchronized
  have hinX10 : ∀ w ∈ u_ws RX10 TX10 5, w ∈ wsX10_holds := fun w h => List.mem_cons_of_mem _ (List.mem_append_right _ h)
  have hl := lv_entry ([.ref (a0 0), .int x1]) (n := 2) (Nat.le_of_ble_eq_true rfl)
  rw [lg_entry_eq]
  generalize (lg_sl ([.ref (a0 0), .int x1]) ++ List.replicate (2 - (lg_sl ([.ref (a0 0), .int x1])).length) Slot.unset).toArray = ls at hl ⊢
  have hl : lv_has ls 2 [(0, .ref (a0 0)), (1, .int x1)] := hl
  unfold fX10_holds at hf
  refine lv_aload_n hx hb dX10_holds_0 rfl (lv_at hl 0 rfl) ?_
  refine va_get (D := D) (ci := 10) (v := .ref (a0 3)) (C := RX10) (T := TX10) (N := 5) hx hb hts hinX10 hown hK hP 0 rfl rfl 2 (by decide) (hts (.fieldLink RX10 18 "WheelBook$Tree" "bestRow" "[I") (List.mem_of_getElem? (i := 1) rfl)) (fun _ h9 => h9) rfl dX10_holds_1 ?_
  refine lv_iload_n hx hb dX10_holds_4 rfl (lv_at hl 1 rfl) ?_
  obtain ⟨hin, hf⟩ := wb_n hf
  refine va_iald hx hb hK hP 3 1 rfl rfl hin dX10_holds_5 ?_
  refine lv_bipush (v := (-2 : Int32)) hx hb dX10_holds_6 (by decide) ?_
  refine lv_icmp_eq (tgt := 15) hx hb dX10_holds_8 (by decide) (fun hc => ?_) (fun hc => ?_)
  · replace hf := wb_t hc hf
    refine lv_iconst (v := (0 : Int32)) hx hb dX10_holds_15 (by decide) ?_
    exact W.zret (v := (0 : Int32)) hx hb hr (by decide) (fun t ht hW => ⟨_, rfl, Option.some.inj hf, ht⟩) (fun _ h => nomatch h) dX10_holds_16
  · replace hf := wb_f hc hf
    refine lv_iconst (v := (1 : Int32)) hx hb dX10_holds_11 (by decide) ?_
    refine lv_goto (tgt := 16) hx hb dX10_holds_12 (by decide) ?_
    exact W.zret (v := (1 : Int32)) hx hb hr (by decide) (fun t ht hW => ⟨_, rfl, Option.some.inj hf, ht⟩) (fun _ h => nomatch h) dX10_holds_16

set_option maxHeartbeats 4000000 in
set_option maxRecDepth 100000 in
theorem cn_X10_parentOf (l : Launch) (D : va_G) (cB cI cZ : ClassId) (N : Nat) (a0 : Nat → Nat) (I0 : Nat → Int32) (M0 : Nat → Nat → Int32) (x1 : Int32) (R : Int32) (hf : fX10_parentOf N I0 M0 x1 = some R) : Met l yX10_parentOf wsX10_parentOf ({ frames := 0, cells := 0, slots := 0, locals := 0 }) (va_Pc [.ref (a0 0), .int x1] (wb_pre D [(cB, .byte), (cI, .int), (cZ, .boolean)] (wWX10 cB cI cZ a0 I0 M0))) (vp_Si (fun r => r = R)) 0 0 (fun _ => False) := by
  refine Met.ofW (cc := cX10_parentOf) (maxL := 2) (ret := (some .int)) (by decide) rfl ?_
  intro p e s m args below meth c s₁ B hml hv
  obtain ⟨rfl, hP, hK⟩ := hv
  have hx := B.exec
  have hb := B.bytes
  have hr := B.returns
  have hts := atoms_spec (ws := wsX10_parentOf) B.pre
  have hown : s.vm.findClass RX10 = some m.cls := findClass_of_methodNamed B.named
  have hlocks := B.notSynchronized
  have hinX10 : ∀ w ∈ u_ws RX10 TX10 5, w ∈ wsX10_parentOf := fun w h => List.mem_cons_of_mem _ (List.mem_append_right _ h)
  have hl := lv_entry ([.ref (a0 0), .int x1]) (n := 2) (Nat.le_of_ble_eq_true rfl)
  rw [lg_entry_eq]
  generalize (lg_sl ([.ref (a0 0), .int x1]) ++ List.replicate (2 - (lg_sl ([.ref (a0 0), .int x1])).length) Slot.unset).toArray = ls at hl ⊢
  have hl : lv_has ls 2 [(0, .ref (a0 0)), (1, .int x1)] := hl
  unfold fX10_parentOf at hf
  refine lv_aload_n hx hb dX10_parentOf_0 rfl (lv_at hl 0 rfl) ?_
  refine va_get (D := D) (ci := 10) (v := .ref (a0 3)) (C := RX10) (T := TX10) (N := 5) hx hb hts hinX10 hown hK hP 0 rfl rfl 2 (by decide) (hts (.fieldLink RX10 18 "WheelBook$Tree" "bestRow" "[I") (List.mem_of_getElem? (i := 1) rfl)) (fun _ h9 => h9) rfl dX10_parentOf_1 ?_
  refine lv_iload_n hx hb dX10_parentOf_4 rfl (lv_at hl 1 rfl) ?_
  obtain ⟨hin, hf⟩ := wb_n hf
  refine va_iald hx hb hK hP 3 1 rfl rfl hin dX10_parentOf_5 ?_
  exact W.iret (v := (M0 2 (x1).toNatClampNeg)) hx hb hr (fun t ht hW => ⟨_, rfl, Option.some.inj hf, ht⟩) (fun _ h => nomatch h) dX10_parentOf_6

set_option maxHeartbeats 4000000 in
set_option maxRecDepth 100000 in
theorem cn_X10_isSlip (l : Launch) (D : va_G) (cB cI cZ : ClassId) (N : Nat) (a0 : Nat → Nat) (I0 : Nat → Int32) (M0 : Nat → Nat → Int32) (x1 : Int32) (x2 : Int32) (x3 : Int32) (x4 : Int32) (R : Int32) (hf : fX10_isSlip N I0 M0 x1 x2 x3 x4 = some R) : Met l yX10_isSlip wsX10_isSlip ({ frames := 2, cells := 0, slots := 0, locals := 45 }) (va_Pc [.ref (a0 0), .int x1, .int x2, .int x3, .int x4] (wb_pre D [(cB, .byte), (cI, .int), (cZ, .boolean)] (wWX4 cB cI cZ a0 I0 M0))) (vp_Si (fun r => r = R)) 0 0 (fun _ => False) := by
  refine Met.ofW (cc := cX10_isSlip) (maxL := 6) (ret := (some .boolean)) (by decide) rfl ?_
  intro p e s m args below meth c s₁ B hml hv
  obtain ⟨rfl, hP, hK⟩ := hv
  have hx := B.exec
  have hb := B.bytes
  have hr := B.returns
  have hts := atoms_spec (ws := wsX10_isSlip) B.pre
  have hown : s.vm.findClass RX10 = some m.cls := findClass_of_methodNamed B.named
  have hlocks := B.notSynchronized
  have hl := lv_entry ([.ref (a0 0), .int x1, .int x2, .int x3, .int x4]) (n := 6) (Nat.le_of_ble_eq_true rfl)
  rw [lg_entry_eq]
  generalize (lg_sl ([.ref (a0 0), .int x1, .int x2, .int x3, .int x4]) ++ List.replicate (6 - (lg_sl ([.ref (a0 0), .int x1, .int x2, .int x3, .int x4])).length) Slot.unset).toArray = ls at hl ⊢
  have hl : lv_has ls 6 [(0, .ref (a0 0)), (1, .int x1), (2, .int x2), (3, .int x3), (4, .int x4)] := hl
  unfold fX10_isSlip at hf
  refine lv_aload_n hx hb dX10_isSlip_0 rfl (lv_at hl 0 rfl) ?_
  refine lv_iload_n hx hb dX10_isSlip_1 rfl (lv_at hl 1 rfl) ?_
  refine lv_iload_n hx hb dX10_isSlip_2 rfl (lv_at hl 2 rfl) ?_
  obtain ⟨r1, hr1, hf⟩ := wb_b hf
  refine vp_callSi (W.runV (As := [.int x1, .int x2]) (rest := []) ⟨hx, hb, hml, hown, hts⟩ (cn_X4_misreading l D cB cI cZ N a0 I0 M0 x1 x2 r1 hr1) (cwV 2 hts gX10_isSlip_X4_misreading rfl rfl rfl cdX4_misreading ⟨Nat.le_of_ble_eq_true rfl, Nat.le_of_ble_eq_true rfl⟩) (wb_preV hP hK (va_recv hK hP (ci := 4) (q0 := 0) rfl rfl)) rfl rfl hl.1 rfl (lv_room (Nat.le_of_ble_eq_true rfl)) dX10_isSlip_3 ⟨Nat.le_of_ble_eq_true rfl, Nat.le_of_ble_eq_true rfl⟩) (fun r9 e9 => ?_)
  rw [e9]
  refine lv_istore (lv' := [(5, .int r1), (0, .ref (a0 0)), (1, .int x1), (2, .int x2), (3, .int x3), (4, .int x4)]) hx hb dX10_isSlip_6 hl (by decide) rfl (fun ls hl => ?_)
  refine lv_iload hx hb dX10_isSlip_8 (lv_at hl 0 rfl) ?_
  refine lv_iconst (v := (1 : Int32)) hx hb dX10_isSlip_10 (by decide) ?_
  refine lv_icmp_ne (tgt := 37) hx hb dX10_isSlip_11 (by decide) (fun hc => ?_) (fun hc => ?_)
  · replace hf := wb_f hc hf
    refine lv_iload hx hb dX10_isSlip_37 (lv_at hl 0 rfl) ?_
    refine lv_iconst (v := (2 : Int32)) hx hb dX10_isSlip_39 (by decide) ?_
    refine lv_icmp_ne (tgt := 64) hx hb dX10_isSlip_40 (by decide) (fun hc => ?_) (fun hc => ?_)
    · replace hf := wb_f hc hf
      refine lv_iconst (v := (0 : Int32)) hx hb dX10_isSlip_64 (by decide) ?_
      exact W.zret (v := (0 : Int32)) hx hb hr (by decide) (fun t ht hW => ⟨_, rfl, Option.some.inj hf, ht⟩) (fun _ h => nomatch h) dX10_isSlip_65
    · replace hf := wb_t hc hf
      refine lv_iload_n hx hb dX10_isSlip_43 rfl (lv_at hl 2 rfl) ?_
      refine lv_bipush (v := (30 : Int32)) hx hb dX10_isSlip_44 (by decide) ?_
      refine lv_idiv hx hb dX10_isSlip_46 (by decide) ?_
      refine lv_iload_n hx hb dX10_isSlip_47 rfl (lv_at hl 4 rfl) ?_
      refine lv_icmp_ne (tgt := 64) hx hb dX10_isSlip_48 (by decide) (fun hc => ?_) (fun hc => ?_)
      · replace hf := wb_f hc hf
        refine lv_iconst (v := (0 : Int32)) hx hb dX10_isSlip_64 (by decide) ?_
        exact W.zret (v := (0 : Int32)) hx hb hr (by decide) (fun t ht hW => ⟨_, rfl, Option.some.inj hf, ht⟩) (fun _ h => nomatch h) dX10_isSlip_65
      · replace hf := wb_t hc hf
        refine lv_iload_n hx hb dX10_isSlip_51 rfl (lv_at hl 3 rfl) ?_
        refine lv_bipush (v := (30 : Int32)) hx hb dX10_isSlip_52 (by decide) ?_
        refine lv_idiv hx hb dX10_isSlip_54 (by decide) ?_
        refine lv_iload hx hb dX10_isSlip_55 (lv_at hl 5 rfl) ?_
        refine lv_icmp_ne (tgt := 64) hx hb dX10_isSlip_57 (by decide) (fun hc => ?_) (fun hc => ?_)
        · replace hf := wb_f hc hf
          refine lv_iconst (v := (0 : Int32)) hx hb dX10_isSlip_64 (by decide) ?_
          exact W.zret (v := (0 : Int32)) hx hb hr (by decide) (fun t ht hW => ⟨_, rfl, Option.some.inj hf, ht⟩) (fun _ h => nomatch h) dX10_isSlip_65
        · replace hf := wb_t hc hf
          refine lv_iconst (v := (1 : Int32)) hx hb dX10_isSlip_60 (by decide) ?_
          refine lv_goto (tgt := 65) hx hb dX10_isSlip_61 (by decide) ?_
          exact W.zret (v := (1 : Int32)) hx hb hr (by decide) (fun t ht hW => ⟨_, rfl, Option.some.inj hf, ht⟩) (fun _ h => nomatch h) dX10_isSlip_65
  · replace hf := wb_t hc hf
    refine lv_iload_n hx hb dX10_isSlip_14 rfl (lv_at hl 2 rfl) ?_
    refine lv_bipush (v := (30 : Int32)) hx hb dX10_isSlip_15 (by decide) ?_
    refine lv_irem hx hb dX10_isSlip_17 (by decide) ?_
    refine lv_iload_n hx hb dX10_isSlip_18 rfl (lv_at hl 4 rfl) ?_
    refine lv_icmp_ne (tgt := 35) hx hb dX10_isSlip_19 (by decide) (fun hc => ?_) (fun hc => ?_)
    · replace hf := wb_f hc hf
      refine lv_iconst (v := (0 : Int32)) hx hb dX10_isSlip_35 (by decide) ?_
      exact W.zret (v := (0 : Int32)) hx hb hr (by decide) (fun t ht hW => ⟨_, rfl, Option.some.inj hf, ht⟩) (fun _ h => nomatch h) dX10_isSlip_36
    · replace hf := wb_t hc hf
      refine lv_iload_n hx hb dX10_isSlip_22 rfl (lv_at hl 3 rfl) ?_
      refine lv_bipush (v := (30 : Int32)) hx hb dX10_isSlip_23 (by decide) ?_
      refine lv_irem hx hb dX10_isSlip_25 (by decide) ?_
      refine lv_iload hx hb dX10_isSlip_26 (lv_at hl 5 rfl) ?_
      refine lv_icmp_ne (tgt := 35) hx hb dX10_isSlip_28 (by decide) (fun hc => ?_) (fun hc => ?_)
      · replace hf := wb_f hc hf
        refine lv_iconst (v := (0 : Int32)) hx hb dX10_isSlip_35 (by decide) ?_
        exact W.zret (v := (0 : Int32)) hx hb hr (by decide) (fun t ht hW => ⟨_, rfl, Option.some.inj hf, ht⟩) (fun _ h => nomatch h) dX10_isSlip_36
      · replace hf := wb_t hc hf
        refine lv_iconst (v := (1 : Int32)) hx hb dX10_isSlip_31 (by decide) ?_
        refine lv_goto (tgt := 36) hx hb dX10_isSlip_32 (by decide) ?_
        exact W.zret (v := (1 : Int32)) hx hb hr (by decide) (fun t ht hW => ⟨_, rfl, Option.some.inj hf, ht⟩) (fun _ h => nomatch h) dX10_isSlip_36

set_option maxHeartbeats 4000000 in
set_option maxRecDepth 100000 in
theorem cn_X10_slipsOf (l : Launch) (D : va_G) (cB cI cZ : ClassId) (N : Nat) (a0 : Nat → Nat) (I0 : Nat → Int32) (M0 : Nat → Nat → Int32) (a1 : Nat → Nat) (I1 : Nat → Int32) (M1 : Nat → Nat → Int32) (a2 : Nat → Nat) (I2 : Nat → Int32) (M2 : Nat → Nat → Int32) (x3 : Int32) (x4 : Int32) (x5 : Int32) (R : Int32) (hf : fX10_slipsOf N I0 M0 I1 M1 I2 M2 x3 x4 x5 = some R) : Met l yX10_slipsOf wsX10_slipsOf ({ frames := 3, cells := 0, slots := 0, locals := 70 }) (va_Pc [.ref (a0 0), .ref (a1 0), .ref (a2 0), .int x3, .int x4, .int x5] (wb_pre D [(cB, .byte), (cI, .int), (cZ, .boolean)] ((wWX10 cB cI cZ a0 I0 M0) ++ ((wWX4 cB cI cZ a1 I1 M1) ++ (wWX1 cB cI cZ a2 I2 M2))))) (vp_Si (fun r => r = R)) 0 0 (fun _ => False) := by
  refine Met.ofW (cc := cX10_slipsOf) (maxL := 11) (ret := (some .int)) (by decide) rfl ?_
  intro p e s m args below meth c s₁ B hml hv
  obtain ⟨rfl, hP, hK⟩ := hv
  have hx := B.exec
  have hb := B.bytes
  have hr := B.returns
  have hts := atoms_spec (ws := wsX10_slipsOf) B.pre
  have hown : s.vm.findClass RX10 = some m.cls := findClass_of_methodNamed B.named
  have hlocks := B.notSynchronized
  have hinX10 : ∀ w ∈ u_ws RX10 TX10 5, w ∈ wsX10_slipsOf := fun w h => List.mem_cons_of_mem _ (List.mem_append_left _ (List.mem_append_left _ (List.mem_append_right _ h)))
  have hl := lv_entry ([.ref (a0 0), .ref (a1 0), .ref (a2 0), .int x3, .int x4, .int x5]) (n := 11) (Nat.le_of_ble_eq_true rfl)
  rw [lg_entry_eq]
  generalize (lg_sl ([.ref (a0 0), .ref (a1 0), .ref (a2 0), .int x3, .int x4, .int x5]) ++ List.replicate (11 - (lg_sl ([.ref (a0 0), .ref (a1 0), .ref (a2 0), .int x3, .int x4, .int x5])).length) Slot.unset).toArray = ls at hl ⊢
  have hl : lv_has ls 11 [(0, .ref (a0 0)), (1, .ref (a1 0)), (2, .ref (a2 0)), (3, .int x3), (4, .int x4), (5, .int x5)] := hl
  unfold fX10_slipsOf at hf
  refine lv_iconst (v := (0 : Int32)) hx hb dX10_slipsOf_0 (by decide) ?_
  refine lv_istore (lv' := [(6, .int (0 : Int32)), (0, .ref (a0 0)), (1, .ref (a1 0)), (2, .ref (a2 0)), (3, .int x3), (4, .int x4), (5, .int x5)]) hx hb dX10_slipsOf_1 hl (by decide) rfl (fun ls hl => ?_)
  refine lv_iconst (v := (0 : Int32)) hx hb dX10_slipsOf_3 (by decide) ?_
  refine lv_istore (lv' := [(7, .int (0 : Int32)), (6, .int (0 : Int32)), (0, .ref (a0 0)), (1, .ref (a1 0)), (2, .ref (a2 0)), (3, .int x3), (4, .int x4), (5, .int x5)]) hx hb dX10_slipsOf_4 hl (by decide) rfl (fun ls hl => ?_)
  have L6 : ∀ (fu6 : Nat) (y6_6 : Int32) (y6_7 : Int32), ∀ (ls : Array Slot), lv_has ls 11 [(0, .ref (a0 0)), (1, .ref (a1 0)), (2, .ref (a2 0)), (3, .int x3), (4, .int x4), (5, .int x5), (6, .int y6_6), (7, .int y6_7)] → fX10_slipsOf_L6 N I0 M0 I1 M1 I2 M2 x3 x4 x5 fu6 y6_6 y6_7 = some R → W p l e (headSpec wsX10_slipsOf { frames := 3, cells := 0, slots := 0, locals := 70 }).room s m [.ref (a0 0), .ref (a1 0), .ref (a2 0), .int x3, .int x4, .int x5].toArray below meth c s.heap [] 0 0 (MQ below (vp_Si (fun r => r = R)) [.ref (a0 0), .ref (a1 0), .ref (a2 0), .int x3, .int x4, .int x5].toArray s 0 0 (fun _ => False)) (F0 m 6 ls []) := by
    intro fu6
    induction fu6 with
    | zero =>
      intro y6_6 y6_7 ls hl hf
      exact absurd hf (by rw [fX10_slipsOf_L6.eq_1]; exact fun h => nomatch h)
    | succ fu6 ih6 =>
      intro y6_6 y6_7 ls hl hf
      rw [fX10_slipsOf_L6.eq_2] at hf
      refine lv_iload hx hb dX10_slipsOf_6 (lv_at hl 7 rfl) ?_
      refine lv_bipush (v := (20 : Int32)) hx hb dX10_slipsOf_8 (by decide) ?_
      refine lv_icmp_ge (tgt := 100) hx hb dX10_slipsOf_10 (by decide) (fun hc => ?_) (fun hc => ?_)
      · replace hf := wb_t hc hf
        refine lv_iload hx hb dX10_slipsOf_100 (lv_at hl 6 rfl) ?_
        exact W.iret (v := y6_6) hx hb hr (fun t ht hW => ⟨_, rfl, Option.some.inj hf, ht⟩) (fun _ h => nomatch h) dX10_slipsOf_102
      · replace hf := wb_f hc hf
        refine lv_iconst (v := (0 : Int32)) hx hb dX10_slipsOf_13 (by decide) ?_
        refine lv_istore (lv' := [(8, .int (0 : Int32)), (0, .ref (a0 0)), (1, .ref (a1 0)), (2, .ref (a2 0)), (3, .int x3), (4, .int x4), (5, .int x5), (6, .int y6_6), (7, .int y6_7)]) hx hb dX10_slipsOf_14 hl (by decide) rfl (fun ls hl => ?_)
        have L16 : ∀ (fu16 : Nat) (y16_6 : Int32) (y16_8 : Int32), ∀ (ls : Array Slot), lv_has ls 11 [(0, .ref (a0 0)), (1, .ref (a1 0)), (2, .ref (a2 0)), (3, .int x3), (4, .int x4), (5, .int x5), (6, .int y16_6), (7, .int y6_7), (8, .int y16_8)] → fX10_slipsOf_L16 N I0 M0 I1 M1 I2 M2 x3 x4 x5 y6_7 (fX10_slipsOf_L6 N I0 M0 I1 M1 I2 M2 x3 x4 x5 fu6) fu16 y16_6 y16_8 = some R → W p l e (headSpec wsX10_slipsOf { frames := 3, cells := 0, slots := 0, locals := 70 }).room s m [.ref (a0 0), .ref (a1 0), .ref (a2 0), .int x3, .int x4, .int x5].toArray below meth c s.heap [] 0 0 (MQ below (vp_Si (fun r => r = R)) [.ref (a0 0), .ref (a1 0), .ref (a2 0), .int x3, .int x4, .int x5].toArray s 0 0 (fun _ => False)) (F0 m 16 ls []) := by
          intro fu16
          induction fu16 with
          | zero =>
            intro y16_6 y16_8 ls hl hf
            exact absurd hf (by rw [fX10_slipsOf_L16.eq_1]; exact fun h => nomatch h)
          | succ fu16 ih16 =>
            intro y16_6 y16_8 ls hl hf
            rw [fX10_slipsOf_L16.eq_2] at hf
            refine lv_iload hx hb dX10_slipsOf_16 (lv_at hl 8 rfl) ?_
            refine lv_bipush (v := (21 : Int32)) hx hb dX10_slipsOf_18 (by decide) ?_
            refine lv_icmp_ge (tgt := 94) hx hb dX10_slipsOf_20 (by decide) (fun hc => ?_) (fun hc => ?_)
            · replace hf := wb_t hc hf
              obtain ⟨v1, ev1, hf⟩ := wb_v hf
              refine lv_iinc (v := v1) (lv' := [(7, .int v1), (0, .ref (a0 0)), (1, .ref (a1 0)), (2, .ref (a2 0)), (3, .int x3), (4, .int x4), (5, .int x5), (6, .int y16_6), (8, .int y16_8)]) hx hb dX10_slipsOf_94 hl (k := 7) rfl (by rw [ev1]; rfl) (by decide) rfl (fun ls hl => ?_)
              refine lv_goto (tgt := 6) hx hb dX10_slipsOf_97 (by decide) ?_
              exact ih6 y16_6 v1 ls (lv_sub hl [1, 2, 3, 4, 5, 6, 7, 0] rfl) hf
            · replace hf := wb_f hc hf
              refine lv_aload_n hx hb dX10_slipsOf_23 rfl (lv_at hl 2 rfl) ?_
              refine lv_bipush (v := (20 : Int32)) hx hb dX10_slipsOf_24 (by decide) ?_
              refine lv_iload_n hx hb dX10_slipsOf_26 rfl (lv_at hl 3 rfl) ?_
              refine lv_imul hx hb dX10_slipsOf_27 ?_
              refine lv_iload hx hb dX10_slipsOf_28 (lv_at hl 7 rfl) ?_
              refine lv_iadd hx hb dX10_slipsOf_30 ?_
              refine lv_iload hx hb dX10_slipsOf_31 (lv_at hl 8 rfl) ?_
              obtain ⟨r2, hr2, hf⟩ := wb_b hf
              refine vp_callSi (W.runV (As := [.int (((20 : Int32) * x3) + y6_7), .int y16_8]) (rest := []) ⟨hx, hb, hml, hown, hts⟩ (cn_X1_degreeOf l D cB cI cZ N a2 I2 M2 (((20 : Int32) * x3) + y6_7) y16_8 r2 hr2) (cwV 2 hts gX10_slipsOf_X1_degreeOf rfl rfl rfl cdX1_degreeOf ⟨Nat.le_of_ble_eq_true rfl, Nat.le_of_ble_eq_true rfl⟩) (wb_preV (hP.sub (ws' := (wWX1 cB cI cZ a2 I2 M2)) [6, 7, 8] rfl) hK (va_recv hK hP (ci := 1) (q0 := 6) rfl rfl)) rfl rfl hl.1 rfl (lv_room (Nat.le_of_ble_eq_true rfl)) dX10_slipsOf_33 ⟨Nat.le_of_ble_eq_true rfl, Nat.le_of_ble_eq_true rfl⟩) (fun r9 e9 => ?_)
              rw [e9]
              refine lv_istore (lv' := [(9, .int r2), (0, .ref (a0 0)), (1, .ref (a1 0)), (2, .ref (a2 0)), (3, .int x3), (4, .int x4), (5, .int x5), (6, .int y16_6), (7, .int y6_7), (8, .int y16_8)]) hx hb dX10_slipsOf_36 hl (by decide) rfl (fun ls hl => ?_)
              refine lv_aload_n hx hb dX10_slipsOf_38 rfl (lv_at hl 3 rfl) ?_
              refine lv_bipush (v := (20 : Int32)) hx hb dX10_slipsOf_39 (by decide) ?_
              refine lv_aload_n hx hb dX10_slipsOf_41 rfl (lv_at hl 1 rfl) ?_
              refine va_get (D := D) (ci := 10) (v := .ref (a0 3)) (C := RX10) (T := TX10) (N := 5) hx hb hts hinX10 hown hK hP 0 rfl rfl 2 (by decide) (hts (.fieldLink RX10 18 "WheelBook$Tree" "bestRow" "[I") (List.mem_of_getElem? (i := 1) rfl)) (fun _ h9 => h9) rfl dX10_slipsOf_42 ?_
              refine lv_iload_n hx hb dX10_slipsOf_45 rfl (lv_at hl 4 rfl) ?_
              obtain ⟨hin, hf⟩ := wb_n hf
              refine va_iald hx hb hK hP 3 1 rfl rfl hin dX10_slipsOf_46 ?_
              refine lv_imul hx hb dX10_slipsOf_47 ?_
              refine lv_iload hx hb dX10_slipsOf_48 (lv_at hl 8 rfl) ?_
              refine lv_iadd hx hb dX10_slipsOf_50 ?_
              refine lv_iload hx hb dX10_slipsOf_51 (lv_at hl 9 rfl) ?_
              obtain ⟨r3, hr3, hf⟩ := wb_b hf
              refine vp_callSi (W.runV (As := [.int (((20 : Int32) * (M0 2 (x3).toNatClampNeg)) + y6_7), .int y16_8]) (rest := []) ⟨hx, hb, hml, hown, hts⟩ (cn_X1_degreeOf l D cB cI cZ N a2 I2 M2 (((20 : Int32) * (M0 2 (x3).toNatClampNeg)) + y6_7) y16_8 r3 hr3) (cwV 2 hts gX10_slipsOf_X1_degreeOf rfl rfl rfl cdX1_degreeOf ⟨Nat.le_of_ble_eq_true rfl, Nat.le_of_ble_eq_true rfl⟩) (wb_preV (hP.sub (ws' := (wWX1 cB cI cZ a2 I2 M2)) [6, 7, 8] rfl) hK (va_recv hK hP (ci := 1) (q0 := 6) rfl rfl)) rfl rfl hl.1 rfl (lv_room (Nat.le_of_ble_eq_true rfl)) dX10_slipsOf_53 ⟨Nat.le_of_ble_eq_true rfl, Nat.le_of_ble_eq_true rfl⟩) (fun r9 e9 => ?_)
              rw [e9]
              refine lv_istore (lv' := [(10, .int r3), (9, .int r2), (0, .ref (a0 0)), (1, .ref (a1 0)), (2, .ref (a2 0)), (3, .int x3), (4, .int x4), (5, .int x5), (6, .int y16_6), (7, .int y6_7), (8, .int y16_8)]) hx hb dX10_slipsOf_56 hl (by decide) rfl (fun ls hl => ?_)
              refine lv_iload hx hb dX10_slipsOf_58 (lv_at hl 1 rfl) ?_
              refine lv_iconst (v := (-1 : Int32)) hx hb dX10_slipsOf_60 (by decide) ?_
              refine lv_icmp_eq (tgt := 88) hx hb dX10_slipsOf_61 (by decide) (fun hc => ?_) (fun hc => ?_)
              · replace hf := wb_t hc hf
                obtain ⟨v4, ev4, hf⟩ := wb_v hf
                refine lv_iinc (v := v4) (lv' := [(8, .int v4), (10, .int r3), (9, .int r2), (0, .ref (a0 0)), (1, .ref (a1 0)), (2, .ref (a2 0)), (3, .int x3), (4, .int x4), (5, .int x5), (6, .int y16_6), (7, .int y6_7)]) hx hb dX10_slipsOf_88 hl (k := 10) rfl (by rw [ev4]; rfl) (by decide) rfl (fun ls hl => ?_)
                refine lv_goto (tgt := 16) hx hb dX10_slipsOf_91 (by decide) ?_
                exact ih16 y16_6 v4 ls (lv_sub hl [3, 4, 5, 6, 7, 8, 9, 10, 0] rfl) hf
              · replace hf := wb_f hc hf
                refine lv_iload hx hb dX10_slipsOf_64 (lv_at hl 0 rfl) ?_
                refine lv_iconst (v := (-1 : Int32)) hx hb dX10_slipsOf_66 (by decide) ?_
                refine lv_icmp_eq (tgt := 88) hx hb dX10_slipsOf_67 (by decide) (fun hc => ?_) (fun hc => ?_)
                · replace hf := wb_t hc hf
                  obtain ⟨v5, ev5, hf⟩ := wb_v hf
                  refine lv_iinc (v := v5) (lv' := [(8, .int v5), (10, .int r3), (9, .int r2), (0, .ref (a0 0)), (1, .ref (a1 0)), (2, .ref (a2 0)), (3, .int x3), (4, .int x4), (5, .int x5), (6, .int y16_6), (7, .int y6_7)]) hx hb dX10_slipsOf_88 hl (k := 10) rfl (by rw [ev5]; rfl) (by decide) rfl (fun ls hl => ?_)
                  refine lv_goto (tgt := 16) hx hb dX10_slipsOf_91 (by decide) ?_
                  exact ih16 y16_6 v5 ls (lv_sub hl [3, 4, 5, 6, 7, 8, 9, 10, 0] rfl) hf
                · replace hf := wb_f hc hf
                  refine lv_aload_n hx hb dX10_slipsOf_70 rfl (lv_at hl 3 rfl) ?_
                  refine lv_iload hx hb dX10_slipsOf_71 (lv_at hl 1 rfl) ?_
                  refine lv_iload hx hb dX10_slipsOf_73 (lv_at hl 0 rfl) ?_
                  refine lv_iload hx hb dX10_slipsOf_75 (lv_at hl 6 rfl) ?_
                  refine lv_iload hx hb dX10_slipsOf_77 (lv_at hl 7 rfl) ?_
                  obtain ⟨r6, hr6, hf⟩ := wb_b hf
                  refine vp_callSi (W.runS (As := [.ref (a1 0), .int r2, .int r3, .int x4, .int x5]) (rest := []) ⟨hx, hb, hml, hown, hts⟩ (cn_X10_isSlip l D cB cI cZ N a1 I1 M1 r2 r3 x4 x5 r6 hr6) (va_cwS 5 hts gX10_slipsOf_X10_isSlip rfl rfl rfl csX10_isSlip ⟨Nat.le_of_ble_eq_true rfl, Nat.le_of_ble_eq_true rfl⟩) (wb_preS (hP.sub (ws' := (wWX4 cB cI cZ a1 I1 M1)) [4, 5] rfl) hK) rfl rfl hl.1 rfl (lv_room (Nat.le_of_ble_eq_true rfl)) dX10_slipsOf_79 ⟨Nat.le_of_ble_eq_true rfl, Nat.le_of_ble_eq_true rfl⟩) (fun r9 e9 => ?_)
                  rw [e9]
                  refine lv_if_eq (tgt := 88) hx hb dX10_slipsOf_82 (by decide) (fun hc => ?_) (fun hc => ?_)
                  · replace hf := wb_t hc hf
                    obtain ⟨v7, ev7, hf⟩ := wb_v hf
                    refine lv_iinc (v := v7) (lv' := [(8, .int v7), (10, .int r3), (9, .int r2), (0, .ref (a0 0)), (1, .ref (a1 0)), (2, .ref (a2 0)), (3, .int x3), (4, .int x4), (5, .int x5), (6, .int y16_6), (7, .int y6_7)]) hx hb dX10_slipsOf_88 hl (k := 10) rfl (by rw [ev7]; rfl) (by decide) rfl (fun ls hl => ?_)
                    refine lv_goto (tgt := 16) hx hb dX10_slipsOf_91 (by decide) ?_
                    exact ih16 y16_6 v7 ls (lv_sub hl [3, 4, 5, 6, 7, 8, 9, 10, 0] rfl) hf
                  · replace hf := wb_f hc hf
                    obtain ⟨v8, ev8, hf⟩ := wb_v hf
                    refine lv_iinc (v := v8) (lv' := [(6, .int v8), (10, .int r3), (9, .int r2), (0, .ref (a0 0)), (1, .ref (a1 0)), (2, .ref (a2 0)), (3, .int x3), (4, .int x4), (5, .int x5), (7, .int y6_7), (8, .int y16_8)]) hx hb dX10_slipsOf_85 hl (k := 8) rfl (by rw [ev8]; rfl) (by decide) rfl (fun ls hl => ?_)
                    obtain ⟨v9, ev9, hf⟩ := wb_v hf
                    refine lv_iinc (v := v9) (lv' := [(8, .int v9), (6, .int v8), (10, .int r3), (9, .int r2), (0, .ref (a0 0)), (1, .ref (a1 0)), (2, .ref (a2 0)), (3, .int x3), (4, .int x4), (5, .int x5), (7, .int y6_7)]) hx hb dX10_slipsOf_88 hl (k := 10) rfl (by rw [ev9]; rfl) (by decide) rfl (fun ls hl => ?_)
                    refine lv_goto (tgt := 16) hx hb dX10_slipsOf_91 (by decide) ?_
                    exact ih16 v8 v9 ls (lv_sub hl [4, 5, 6, 7, 8, 9, 1, 10, 0] rfl) hf
        exact L16 N y6_6 (0 : Int32) ls (lv_sub hl [1, 2, 3, 4, 5, 6, 7, 8, 0] rfl) hf
  exact L6 N (0 : Int32) (0 : Int32) ls (lv_sub hl [2, 3, 4, 5, 6, 7, 1, 0] rfl) hf

set_option maxHeartbeats 4000000 in
set_option maxRecDepth 100000 in
theorem cn_X10_howManySlips (l : Launch) (D : va_G) (cB cI cZ : ClassId) (N : Nat) (a0 : Nat → Nat) (I0 : Nat → Int32) (M0 : Nat → Nat → Int32) (a1 : Nat → Nat) (I1 : Nat → Int32) (M1 : Nat → Nat → Int32) (a2 : Nat → Nat) (I2 : Nat → Int32) (M2 : Nat → Nat → Int32) (x3 : Int32) (x4 : Int32) (R : Int32) (hf : fX10_howManySlips N I0 M0 I1 M1 I2 M2 x3 x4 = some R) : Met l yX10_howManySlips wsX10_howManySlips ({ frames := 4, cells := 0, slots := 0, locals := 100 }) (va_Pc [.ref (a0 0), .ref (a1 0), .ref (a2 0), .int x3, .int x4] (wb_pre D [(cB, .byte), (cI, .int), (cZ, .boolean)] ((wWX10 cB cI cZ a0 I0 M0) ++ ((wWX4 cB cI cZ a1 I1 M1) ++ (wWX1 cB cI cZ a2 I2 M2))))) (vp_Si (fun r => r = R)) 0 0 (fun _ => False) := by
  refine Met.ofW (cc := cX10_howManySlips) (maxL := 7) (ret := (some .int)) (by decide) rfl ?_
  intro p e s m args below meth c s₁ B hml hv
  obtain ⟨rfl, hP, hK⟩ := hv
  have hx := B.exec
  have hb := B.bytes
  have hr := B.returns
  have hts := atoms_spec (ws := wsX10_howManySlips) B.pre
  have hown : s.vm.findClass RX10 = some m.cls := findClass_of_methodNamed B.named
  have hlocks := B.notSynchronized
  have hinX10 : ∀ w ∈ u_ws RX10 TX10 5, w ∈ wsX10_howManySlips := fun w h => List.mem_cons_of_mem _ (List.mem_append_left _ (List.mem_append_left _ (List.mem_append_right _ h)))
  have hl := lv_entry ([.ref (a0 0), .ref (a1 0), .ref (a2 0), .int x3, .int x4]) (n := 7) (Nat.le_of_ble_eq_true rfl)
  rw [lg_entry_eq]
  generalize (lg_sl ([.ref (a0 0), .ref (a1 0), .ref (a2 0), .int x3, .int x4]) ++ List.replicate (7 - (lg_sl ([.ref (a0 0), .ref (a1 0), .ref (a2 0), .int x3, .int x4])).length) Slot.unset).toArray = ls at hl ⊢
  have hl : lv_has ls 7 [(0, .ref (a0 0)), (1, .ref (a1 0)), (2, .ref (a2 0)), (3, .int x3), (4, .int x4)] := hl
  unfold fX10_howManySlips at hf
  refine lv_iconst (v := (0 : Int32)) hx hb dX10_howManySlips_0 (by decide) ?_
  refine lv_istore (lv' := [(5, .int (0 : Int32)), (0, .ref (a0 0)), (1, .ref (a1 0)), (2, .ref (a2 0)), (3, .int x3), (4, .int x4)]) hx hb dX10_howManySlips_1 hl (by decide) rfl (fun ls hl => ?_)
  refine lv_iconst (v := (0 : Int32)) hx hb dX10_howManySlips_3 (by decide) ?_
  refine lv_istore (lv' := [(6, .int (0 : Int32)), (5, .int (0 : Int32)), (0, .ref (a0 0)), (1, .ref (a1 0)), (2, .ref (a2 0)), (3, .int x3), (4, .int x4)]) hx hb dX10_howManySlips_4 hl (by decide) rfl (fun ls hl => ?_)
  have L6 : ∀ (fu6 : Nat) (y6_5 : Int32) (y6_6 : Int32), ∀ (ls : Array Slot), lv_has ls 7 [(0, .ref (a0 0)), (1, .ref (a1 0)), (2, .ref (a2 0)), (3, .int x3), (4, .int x4), (5, .int y6_5), (6, .int y6_6)] → fX10_howManySlips_L6 N I0 M0 I1 M1 I2 M2 x3 x4 fu6 y6_5 y6_6 = some R → W p l e (headSpec wsX10_howManySlips { frames := 4, cells := 0, slots := 0, locals := 100 }).room s m [.ref (a0 0), .ref (a1 0), .ref (a2 0), .int x3, .int x4].toArray below meth c s.heap [] 0 0 (MQ below (vp_Si (fun r => r = R)) [.ref (a0 0), .ref (a1 0), .ref (a2 0), .int x3, .int x4].toArray s 0 0 (fun _ => False)) (F0 m 6 ls []) := by
    intro fu6
    induction fu6 with
    | zero =>
      intro y6_5 y6_6 ls hl hf
      exact absurd hf (by rw [fX10_howManySlips_L6.eq_1]; exact fun h => nomatch h)
    | succ fu6 ih6 =>
      intro y6_5 y6_6 ls hl hf
      rw [fX10_howManySlips_L6.eq_2] at hf
      refine lv_iload hx hb dX10_howManySlips_6 (lv_at hl 6 rfl) ?_
      refine lv_bipush (v := (6 : Int32)) hx hb dX10_howManySlips_8 (by decide) ?_
      refine lv_icmp_ge (tgt := 45) hx hb dX10_howManySlips_10 (by decide) (fun hc => ?_) (fun hc => ?_)
      · replace hf := wb_t hc hf
        refine lv_iload hx hb dX10_howManySlips_45 (lv_at hl 5 rfl) ?_
        exact W.iret (v := y6_5) hx hb hr (fun t ht hW => ⟨_, rfl, Option.some.inj hf, ht⟩) (fun _ h => nomatch h) dX10_howManySlips_47
      · replace hf := wb_f hc hf
        refine lv_aload_n hx hb dX10_howManySlips_13 rfl (lv_at hl 0 rfl) ?_
        refine va_get (D := D) (ci := 10) (v := .ref (a0 3)) (C := RX10) (T := TX10) (N := 5) hx hb hts hinX10 hown hK hP 0 rfl rfl 2 (by decide) (hts (.fieldLink RX10 18 "WheelBook$Tree" "bestRow" "[I") (List.mem_of_getElem? (i := 1) rfl)) (fun _ h9 => h9) rfl dX10_howManySlips_14 ?_
        refine lv_iload hx hb dX10_howManySlips_17 (lv_at hl 6 rfl) ?_
        obtain ⟨hin, hf⟩ := wb_n hf
        refine va_iald hx hb hK hP 3 1 rfl rfl hin dX10_howManySlips_19 ?_
        refine lv_if_lt (tgt := 39) hx hb dX10_howManySlips_20 (by decide) (fun hc => ?_) (fun hc => ?_)
        · replace hf := wb_t hc hf
          obtain ⟨v1, ev1, hf⟩ := wb_v hf
          refine lv_iinc (v := v1) (lv' := [(6, .int v1), (0, .ref (a0 0)), (1, .ref (a1 0)), (2, .ref (a2 0)), (3, .int x3), (4, .int x4), (5, .int y6_5)]) hx hb dX10_howManySlips_39 hl (k := 6) rfl (by rw [ev1]; rfl) (by decide) rfl (fun ls hl => ?_)
          refine lv_goto (tgt := 6) hx hb dX10_howManySlips_42 (by decide) ?_
          exact ih6 y6_5 v1 ls (lv_sub hl [1, 2, 3, 4, 5, 6, 0] rfl) hf
        · replace hf := wb_f hc hf
          refine lv_iload hx hb dX10_howManySlips_23 (lv_at hl 5 rfl) ?_
          refine lv_aload_n hx hb dX10_howManySlips_25 rfl (lv_at hl 0 rfl) ?_
          refine lv_aload_n hx hb dX10_howManySlips_26 rfl (lv_at hl 1 rfl) ?_
          refine lv_aload_n hx hb dX10_howManySlips_27 rfl (lv_at hl 2 rfl) ?_
          refine lv_iload hx hb dX10_howManySlips_28 (lv_at hl 6 rfl) ?_
          refine lv_iload_n hx hb dX10_howManySlips_30 rfl (lv_at hl 3 rfl) ?_
          refine lv_iload hx hb dX10_howManySlips_31 (lv_at hl 4 rfl) ?_
          obtain ⟨r2, hr2, hf⟩ := wb_b hf
          refine vp_callSi (W.runV (As := [.ref (a1 0), .ref (a2 0), .int y6_6, .int x3, .int x4]) (rest := [.int y6_5]) ⟨hx, hb, hml, hown, hts⟩ (cn_X10_slipsOf l D cB cI cZ N a0 I0 M0 a1 I1 M1 a2 I2 M2 y6_6 x3 x4 r2 hr2) (cwV 5 hts gX10_howManySlips_X10_slipsOf rfl rfl rfl cdX10_slipsOf ⟨Nat.le_of_ble_eq_true rfl, Nat.le_of_ble_eq_true rfl⟩) (wb_preV hP hK (va_recv hK hP (ci := 10) (q0 := 0) rfl rfl)) rfl rfl hl.1 rfl (lv_room (Nat.le_of_ble_eq_true rfl)) dX10_howManySlips_33 ⟨Nat.le_of_ble_eq_true rfl, Nat.le_of_ble_eq_true rfl⟩) (fun r9 e9 => ?_)
          rw [e9]
          refine lv_iadd hx hb dX10_howManySlips_36 ?_
          obtain ⟨v3, ev3, hf⟩ := wb_v hf
          refine wb_topi ev3 ?_
          refine lv_istore (lv' := [(5, .int v3), (0, .ref (a0 0)), (1, .ref (a1 0)), (2, .ref (a2 0)), (3, .int x3), (4, .int x4), (6, .int y6_6)]) hx hb dX10_howManySlips_37 hl (by decide) rfl (fun ls hl => ?_)
          obtain ⟨v4, ev4, hf⟩ := wb_v hf
          refine lv_iinc (v := v4) (lv' := [(6, .int v4), (5, .int v3), (0, .ref (a0 0)), (1, .ref (a1 0)), (2, .ref (a2 0)), (3, .int x3), (4, .int x4)]) hx hb dX10_howManySlips_39 hl (k := 6) rfl (by rw [ev4]; rfl) (by decide) rfl (fun ls hl => ?_)
          refine lv_goto (tgt := 6) hx hb dX10_howManySlips_42 (by decide) ?_
          exact ih6 v3 v4 ls (lv_sub hl [2, 3, 4, 5, 6, 1, 0] rfl) hf
  exact L6 N (0 : Int32) (0 : Int32) ls (lv_sub hl [2, 3, 4, 5, 6, 1, 0] rfl) hf
