set_option maxHeartbeats 4000000 in
set_option maxRecDepth 100000 in
theorem cn_X12_knownWord (l : Launch) (D : va_G) (cB cI cZ : ClassId) (N : Nat) (a0 : Nat → Nat) (I0 : Nat → Int32) (L0 : Int64) (M0 : Nat → Nat → Int32) (R : Int32) (hf : fX12_knownWord N I0 L0 M0 = some R) : Met l yX12_knownWord wsX12_knownWord ({ frames := 2, cells := 0, slots := 0, locals := 48 }) (va_Pc [.ref (a0 0)] (wb_pre D [(cB, .byte), (cI, .int), (cZ, .boolean)] (wWX12 cB cI cZ a0 I0 L0 M0))) (vp_Si (fun r => r = R)) 0 0 (fun _ => False) := by
  refine Met.ofW (cc := cX12_knownWord) (maxL := 2) (ret := (some .int)) pn_X12 rfl ?_
  intro p e s m args below meth c s₁ B hml hv
  obtain ⟨rfl, hP, hK⟩ := hv
  have hx := B.exec
  have hb := B.bytes
  have hr := B.returns
  have hts := atoms_spec (ws := wsX12_knownWord) B.pre
  have hown : s.vm.findClass RX12 = some m.cls := (findClass_of_methodNamed B.named :)
  have hlocks := B.notSynchronized
  have hinX12 : ∀ w ∈ u_ws RX12 TX12 58, w ∈ wsX12_knownWord := fun w h => List.mem_cons_of_mem _ (List.mem_append_right _ h)
  have hl := lv_entry ([.ref (a0 0)]) (n := 2) (Nat.le_of_ble_eq_true rfl)
  rw [lg_entry_eq]
  generalize (lg_sl ([.ref (a0 0)]) ++ List.replicate (2 - (lg_sl ([.ref (a0 0)])).length) Slot.unset).toArray = ls at hl ⊢
  have hl : lv_has ls 2 [(0, .ref (a0 0))] := hl
  unfold fX12_knownWord at hf
  refine lv_aload_n hx hb dX12_knownWord_0 rfl (lv_at hl 0 rfl) ?_
  refine va_get (D := D) (ci := 12) (v := .int (I0 8)) (C := RX12) (T := TX12) (N := 58) hx hb hts hinX12 hown hK hP 0 rfl rfl 17 (by decide) (hts (.fieldLink RX12 159 "WheelBookModel" "sort" "I") (List.mem_of_getElem? (i := 1) rfl)) (fun _ h9 => h9) rfl dX12_knownWord_1 ?_
  refine lv_iconst (v := (1 : Int32)) hx hb dX12_knownWord_4 (by decide) ?_
  refine lv_icmp_ne (tgt := 17) hx hb dX12_knownWord_5 (by decide) (fun hc => ?_) (fun hc => ?_)
  · replace hf := wb_f hc hf
    refine lv_iconst (v := (-1 : Int32)) hx hb dX12_knownWord_17 (by decide) ?_
    exact W.iret (v := (-1 : Int32)) hx hb hr (fun t ht hW => ⟨_, rfl, Option.some.inj hf, ht⟩) (fun _ h => nomatch h) dX12_knownWord_18
  · replace hf := wb_t hc hf
    refine lv_aload_n hx hb dX12_knownWord_8 rfl (lv_at hl 0 rfl) ?_
    refine va_get (D := D) (ci := 12) (v := .int (I0 10)) (C := RX12) (T := TX12) (N := 58) hx hb hts hinX12 hown hK hP 0 rfl rfl 19 (by decide) (hts (.fieldLink RX12 169 "WheelBookModel" "long0" "I") (List.mem_of_getElem? (i := 2) rfl)) (fun _ h9 => h9) rfl dX12_knownWord_9 ?_
    refine lv_bipush (v := (7 : Int32)) hx hb dX12_knownWord_12 (by decide) ?_
    refine lv_icmp_le (tgt := 19) hx hb dX12_knownWord_14 (by decide) (fun hc => ?_) (fun hc => ?_)
    · replace hf := wb_t hc hf
      refine lv_iconst (v := (0 : Int32)) hx hb dX12_knownWord_19 (by decide) ?_
      refine lv_istore_n (lv' := [(1, .int (0 : Int32)), (0, .ref (a0 0))]) hx hb dX12_knownWord_20 rfl hl (by decide) rfl (fun ls hl => ?_)
      have Lh21 : ∀ (fu21 : Nat) (y21_1 : Int32), ∀ (ls : Array Slot), lv_has ls 2 [(0, .ref (a0 0)), (1, .int y21_1)] → fX12_knownWord_L21 N I0 L0 M0 fu21 y21_1 = some R → W p l e (headSpec wsX12_knownWord { frames := 2, cells := 0, slots := 0, locals := 48 }).room s m [.ref (a0 0)].toArray below meth c s.heap [] 0 0 (MQ below (vp_Si (fun r => r = R)) [.ref (a0 0)].toArray s 0 0 (fun _ => False)) (F0 m 21 ls []) := by
        intro fu21
        induction fu21 with
        | zero =>
          intro y21_1 ls hl hf
          exact absurd hf (by rw [fX12_knownWord_L21.eq_1]; exact fun h => nomatch h)
        | succ fu21 ih21 =>
          intro y21_1 ls hl hf
          rw [fX12_knownWord_L21.eq_2] at hf
          refine lv_iload_n hx hb dX12_knownWord_21 rfl (lv_at hl 1 rfl) ?_
          refine lv_bipush (v := (19 : Int32)) hx hb dX12_knownWord_22 (by decide) ?_
          refine lv_icmp_ge (tgt := 47) hx hb dX12_knownWord_24 (by decide) (fun hc => ?_) (fun hc => ?_)
          · replace hf := wb_t hc hf
            refine lv_iconst (v := (-1 : Int32)) hx hb dX12_knownWord_47 (by decide) ?_
            exact W.iret (v := (-1 : Int32)) hx hb hr (fun t ht hW => ⟨_, rfl, Option.some.inj hf, ht⟩) (fun _ h => nomatch h) dX12_knownWord_48
          · replace hf := wb_f hc hf
            refine lv_iload_n hx hb dX12_knownWord_27 rfl (lv_at hl 1 rfl) ?_
            obtain ⟨r1, hr1, hf⟩ := wb_b hf
            refine vp_callSl (W.runS (As := [.int y21_1]) (rest := []) ⟨hx, hb, hml, hown, hts⟩ (cn_X12_letters l D cB cI cZ N y21_1 r1 hr1) (va_cwS 1 hts gX12_knownWord_X12_letters rfl rfl rfl csX12_letters ⟨Nat.le_of_ble_eq_true rfl, Nat.le_of_ble_eq_true rfl⟩) (wb_preS (hP.sub (ws' := ([] : va_W)) [] rfl) hK) rfl rfl hl.1 rfl (lv_room (Nat.le_of_ble_eq_true rfl)) dX12_knownWord_28 ⟨Nat.le_of_ble_eq_true rfl, Nat.le_of_ble_eq_true rfl⟩) (fun r9 e9 => ?_)
            rw [e9]
            refine lv_aload_n hx hb dX12_knownWord_31 rfl (lv_at hl 0 rfl) ?_
            refine va_get (D := D) (ci := 12) (v := .long L0) (C := RX12) (T := TX12) (N := 58) hx hb hts hinX12 hown hK hP 0 rfl rfl 21 (by decide) (hts (.fieldLink RX12 152 "WheelBookModel" "word" "J") (List.mem_of_getElem? (i := 3) rfl)) (fun _ h9 => h9) rfl dX12_knownWord_32 ?_
            refine W.lcmp hx hb dX12_knownWord_35 ?_
            refine lv_if_ne (tgt := 41) hx hb dX12_knownWord_36 (by decide) (fun hc => ?_) (fun hc => ?_)
            · replace hf := wb_f hc hf
              obtain ⟨v2, ev2, hf⟩ := wb_v hf
              refine lv_iinc (v := v2) (lv' := [(1, .int v2), (0, .ref (a0 0))]) hx hb dX12_knownWord_41 hl (k := 1) rfl (by rw [ev2]; rfl) (by decide) rfl (fun ls hl => ?_)
              refine lv_goto (tgt := 21) hx hb dX12_knownWord_44 (by decide) ?_
              exact ih21 v2 ls (lv_sub hl [1, 0] rfl) hf
            · replace hf := wb_t hc hf
              refine lv_iload_n hx hb dX12_knownWord_39 rfl (lv_at hl 1 rfl) ?_
              exact W.iret (v := y21_1) hx hb hr (fun t ht hW => ⟨_, rfl, Option.some.inj hf, ht⟩) (fun _ h => nomatch h) dX12_knownWord_40
      exact Lh21 N (0 : Int32) ls (lv_sub hl [1, 0] rfl) hf
    · replace hf := wb_f hc hf
      refine lv_iconst (v := (-1 : Int32)) hx hb dX12_knownWord_17 (by decide) ?_
      exact W.iret (v := (-1 : Int32)) hx hb hr (fun t ht hW => ⟨_, rfl, Option.some.inj hf, ht⟩) (fun _ h => nomatch h) dX12_knownWord_18

set_option maxHeartbeats 4000000 in
set_option maxRecDepth 100000 in
theorem cn_X12_wrong (l : Launch) (D : va_G) (cB cI cZ : ClassId) (N : Nat) (a0 : Nat → Nat) (I0 : Nat → Int32) (L0 : Int64) (M0 : Nat → Nat → Int32) (x1 : Int32) (sz : Nat) (R : (Nat → Int32) × Int64 × (Nat → Nat → Int32)) (hf : fX12_wrong N I0 L0 M0 x1 = some R) : Met l yX12_wrong wsX12_wrong ({ frames := 0, cells := 0, slots := 0, locals := 0 }) (va_Pc [.ref (a0 0), .int x1] (wb_preD D [(cB, .byte), (cI, .int), (cZ, .boolean)] (wWX12 cB cI cZ a0 I0 L0 M0) sz)) (va_Qv (fun _ : Unit => True) (fun _ t => wb_post D [(cB, .byte), (cI, .int), (cZ, .boolean)] (va_A (wWX12 cB cI cZ a0 I0 L0 M0) sz) (wWX12 cB cI cZ a0 R.1 R.2.1 R.2.2) t) (va_A (wWX12 cB cI cZ a0 I0 L0 M0) sz)) 0 0 (va_A (wWX12 cB cI cZ a0 I0 L0 M0) sz) := by
  refine Met.ofW (cc := cX12_wrong) (maxL := 2) (ret := none) pn_X12 rfl ?_
  intro p e s m args below meth c s₁ B hml hv
  obtain ⟨rfl, hsz, hP, hK, hD0⟩ := hv
  have hx := B.exec
  have hb := B.bytes
  have hr := B.returns
  have hts := atoms_spec (ws := wsX12_wrong) B.pre
  have hown : s.vm.findClass RX12 = some m.cls := (findClass_of_methodNamed B.named :)
  have hlocks := B.notSynchronized
  have hinX12 : ∀ w ∈ u_ws RX12 TX12 58, w ∈ wsX12_wrong := fun w h => List.mem_cons_of_mem _ (List.mem_append_right _ h)
  subst hsz
  have hD := hD0.self (sz := s.heap.size)
  generalize hAe : va_A (wWX12 cB cI cZ a0 I0 L0 M0) s.heap.size = A at hD ⊢
  have hA : ∀ q : Nat, s.heap.size ≤ q → A q := fun q h => by rw [← hAe]; exact Or.inr h
  have hS : va_S A s.heap s.heap [] := va_S.rf
  have hl := lv_entry ([.ref (a0 0), .int x1]) (n := 2) (Nat.le_of_ble_eq_true rfl)
  rw [lg_entry_eq]
  generalize (lg_sl ([.ref (a0 0), .int x1]) ++ List.replicate (2 - (lg_sl ([.ref (a0 0), .int x1])).length) Slot.unset).toArray = ls at hl ⊢
  have hl : lv_has ls 2 [(0, .ref (a0 0)), (1, .int x1)] := hl
  unfold fX12_wrong at hf
  obtain ⟨H, hHe⟩ : ∃ H : Heap, H = s.heap := ⟨_, rfl⟩
  obtain ⟨locs, hle⟩ : ∃ locs : List Loc, locs = [] := ⟨_, rfl⟩
  refine wb_start (H := H) (locs := locs) hHe hle ?_
  rw [← hHe] at hP
  have hS : va_S A s.heap H locs := by rw [hHe, hle]; exact va_S.rf
  refine lv_aload_n hx hb dX12_wrong_0 rfl (lv_at hl 0 rfl) ?_
  refine va_get (D := D) (ci := 12) (v := .int (I0 4)) (C := RX12) (T := TX12) (N := 58) hx hb hts hinX12 hown hK hP 0 rfl rfl 13 (by decide) (hts (.fieldLink RX12 180 "WheelBookModel" "faultKind" "I") (List.mem_of_getElem? (i := 1) rfl)) (fun _ h9 => h9) rfl dX12_wrong_1 ?_
  refine lv_if_eq (tgt := 8) hx hb dX12_wrong_4 (by decide) (fun hc => ?_) (fun hc => ?_)
  · replace hf := wb_t hc hf
    refine lv_aload_n hx hb dX12_wrong_8 rfl (lv_at hl 0 rfl) ?_
    refine lv_iload_n hx hb dX12_wrong_9 rfl (lv_at hl 1 rfl) ?_
    refine va_put (D := D) (ci := 12) (v := .int x1) (ty := .int) (C := RX12) (T := TX12) (N := 58) hx hb hts hinX12 tyX12 tyX12_ok nmX12 hown hK hP hD hS 0 rfl rfl 13 (by decide) (hts (.fieldLink RX12 180 "WheelBookModel" "faultKind" "I") (List.mem_of_getElem? (i := 1) rfl)) (fun _ h9 => h9) rfl (by decide +kernel) rfl rfl (Nat.le_of_ble_eq_true rfl) dX12_wrong_10 (fun H locs hP hD hS => ?_)
    have hP : va_P D vwCl (wWX12 cB cI cZ a0 (upd I0 4 x1) L0 M0) H := hP
    have hD : va_D A (wWX12 cB cI cZ a0 (upd I0 4 x1) L0 M0) := hD
    obtain ⟨I0_1, eI0_1, hf⟩ := wb_v hf
    rw [← eI0_1] at hP hD
    refine lv_aload_n hx hb dX12_wrong_13 rfl (lv_at hl 0 rfl) ?_
    refine lv_aload_n hx hb dX12_wrong_14 rfl (lv_at hl 0 rfl) ?_
    refine va_get (D := D) (ci := 12) (v := .int (I0_1 9)) (C := RX12) (T := TX12) (N := 58) hx hb hts hinX12 hown hK hP 0 rfl rfl 18 (by decide) (hts (.fieldLink RX12 149 "WheelBookModel" "place" "I") (List.mem_of_getElem? (i := 2) rfl)) (fun _ h9 => h9) rfl dX12_wrong_15 ?_
    refine va_put (D := D) (ci := 12) (v := .int (I0_1 9)) (ty := .int) (C := RX12) (T := TX12) (N := 58) hx hb hts hinX12 tyX12 tyX12_ok nmX12 hown hK hP hD hS 0 rfl rfl 14 (by decide) (hts (.fieldLink RX12 37 "WheelBookModel" "faultPlace" "I") (List.mem_of_getElem? (i := 3) rfl)) (fun _ h9 => h9) rfl (by decide +kernel) rfl rfl (Nat.le_of_ble_eq_true rfl) dX12_wrong_18 (fun H locs hP hD hS => ?_)
    have hP : va_P D vwCl (wWX12 cB cI cZ a0 (upd I0_1 5 (I0_1 9)) L0 M0) H := hP
    have hD : va_D A (wWX12 cB cI cZ a0 (upd I0_1 5 (I0_1 9)) L0 M0) := hD
    obtain ⟨I0_2, eI0_2, hf⟩ := wb_v hf
    rw [← eI0_2] at hP hD
    exact W.vret hx hb hr (fun t ht hW => by rw [← Option.some.inj hf]; exact ⟨⟨(), rfl, trivial, by rw [ht]; exact hP, va_K.moved hW.alike hK, hD⟩, hS.F ht⟩) hS.2.2 dX12_wrong_21
  · replace hf := wb_f hc hf
    exact W.vret hx hb hr (fun t ht hW => by rw [← Option.some.inj hf]; exact ⟨⟨(), rfl, trivial, by rw [ht]; exact hP, va_K.moved hW.alike hK, hD⟩, hS.F ht⟩) hS.2.2 dX12_wrong_7

set_option maxHeartbeats 4000000 in
set_option maxRecDepth 100000 in
theorem cn_X12_isGood (l : Launch) (D : va_G) (cB cI cZ : ClassId) (N : Nat) (a0 : Nat → Nat) (I0 : Nat → Int32) (L0 : Int64) (M0 : Nat → Nat → Int32) (R : Int32) (hf : fX12_isGood N I0 L0 M0 = some R) : Met l yX12_isGood wsX12_isGood ({ frames := 0, cells := 0, slots := 0, locals := 0 }) (va_Pc [.ref (a0 0)] (wb_pre D [(cB, .byte), (cI, .int), (cZ, .boolean)] (wWX12 cB cI cZ a0 I0 L0 M0))) (vp_Si (fun r => r = R)) 0 0 (fun _ => False) := by
  refine Met.ofW (cc := cX12_isGood) (maxL := 1) (ret := (some .boolean)) pn_X12 rfl ?_
  intro p e s m args below meth c s₁ B hml hv
  obtain ⟨rfl, hP, hK⟩ := hv
  have hx := B.exec
  have hb := B.bytes
  have hr := B.returns
  have hts := atoms_spec (ws := wsX12_isGood) B.pre
  have hown : s.vm.findClass RX12 = some m.cls := (findClass_of_methodNamed B.named :)
  have hlocks := B.notSynchronized
  have hinX12 : ∀ w ∈ u_ws RX12 TX12 58, w ∈ wsX12_isGood := fun w h => List.mem_cons_of_mem _ (List.mem_append_right _ h)
  have hl := lv_entry ([.ref (a0 0)]) (n := 1) (Nat.le_of_ble_eq_true rfl)
  rw [lg_entry_eq]
  generalize (lg_sl ([.ref (a0 0)]) ++ List.replicate (1 - (lg_sl ([.ref (a0 0)])).length) Slot.unset).toArray = ls at hl ⊢
  have hl : lv_has ls 1 [(0, .ref (a0 0))] := hl
  unfold fX12_isGood at hf
  refine lv_aload_n hx hb dX12_isGood_0 rfl (lv_at hl 0 rfl) ?_
  refine va_get (D := D) (ci := 12) (v := .int (I0 4)) (C := RX12) (T := TX12) (N := 58) hx hb hts hinX12 hown hK hP 0 rfl rfl 13 (by decide) (hts (.fieldLink RX12 180 "WheelBookModel" "faultKind" "I") (List.mem_of_getElem? (i := 1) rfl)) (fun _ h9 => h9) rfl dX12_isGood_1 ?_
  refine lv_if_ne (tgt := 11) hx hb dX12_isGood_4 (by decide) (fun hc => ?_) (fun hc => ?_)
  · replace hf := wb_f hc hf
    refine lv_iconst (v := (0 : Int32)) hx hb dX12_isGood_11 (by decide) ?_
    exact W.zret (v := (0 : Int32)) hx hb hr (by decide) (fun t ht hW => ⟨_, rfl, Option.some.inj hf, ht⟩) (fun _ h => nomatch h) dX12_isGood_12
  · replace hf := wb_t hc hf
    refine lv_iconst (v := (1 : Int32)) hx hb dX12_isGood_7 (by decide) ?_
    refine lv_goto (tgt := 12) hx hb dX12_isGood_8 (by decide) ?_
    exact W.zret (v := (1 : Int32)) hx hb hr (by decide) (fun t ht hW => ⟨_, rfl, Option.some.inj hf, ht⟩) (fun _ h => nomatch h) dX12_isGood_12

set_option maxHeartbeats 4000000 in
set_option maxRecDepth 100000 in
theorem cn_X12_need (l : Launch) (D : va_G) (cB cI cZ : ClassId) (N : Nat) (a0 : Nat → Nat) (I0 : Nat → Int32) (L0 : Int64) (M0 : Nat → Nat → Int32) (x1 : Int32) (sz : Nat) (R : (Nat → Int32) × Int64 × (Nat → Nat → Int32)) (hf : fX12_need N I0 L0 M0 x1 = some R) : Met l yX12_need wsX12_need ({ frames := 2, cells := 0, slots := 0, locals := 42 }) (va_Pc [.ref (a0 0), .int x1] (wb_preD D [(cB, .byte), (cI, .int), (cZ, .boolean)] (wWX12 cB cI cZ a0 I0 L0 M0) sz)) (va_Qv (fun _ : Unit => True) (fun _ t => wb_post D [(cB, .byte), (cI, .int), (cZ, .boolean)] (va_A (wWX12 cB cI cZ a0 I0 L0 M0) sz) (wWX12 cB cI cZ a0 R.1 R.2.1 R.2.2) t) (va_A (wWX12 cB cI cZ a0 I0 L0 M0) sz)) 0 0 (va_A (wWX12 cB cI cZ a0 I0 L0 M0) sz) := by
  refine Met.ofW (cc := cX12_need) (maxL := 2) (ret := none) pn_X12 rfl ?_
  intro p e s m args below meth c s₁ B hml hv
  obtain ⟨rfl, hsz, hP, hK, hD0⟩ := hv
  have hx := B.exec
  have hb := B.bytes
  have hr := B.returns
  have hts := atoms_spec (ws := wsX12_need) B.pre
  have hown : s.vm.findClass RX12 = some m.cls := (findClass_of_methodNamed B.named :)
  have hlocks := B.notSynchronized
  subst hsz
  have hD := hD0.self (sz := s.heap.size)
  generalize hAe : va_A (wWX12 cB cI cZ a0 I0 L0 M0) s.heap.size = A at hD ⊢
  have hA : ∀ q : Nat, s.heap.size ≤ q → A q := fun q h => by rw [← hAe]; exact Or.inr h
  have hS : va_S A s.heap s.heap [] := va_S.rf
  have hl := lv_entry ([.ref (a0 0), .int x1]) (n := 2) (Nat.le_of_ble_eq_true rfl)
  rw [lg_entry_eq]
  generalize (lg_sl ([.ref (a0 0), .int x1]) ++ List.replicate (2 - (lg_sl ([.ref (a0 0), .int x1])).length) Slot.unset).toArray = ls at hl ⊢
  have hl : lv_has ls 2 [(0, .ref (a0 0)), (1, .int x1)] := hl
  unfold fX12_need at hf
  obtain ⟨H, hHe⟩ : ∃ H : Heap, H = s.heap := ⟨_, rfl⟩
  obtain ⟨locs, hle⟩ : ∃ locs : List Loc, locs = [] := ⟨_, rfl⟩
  refine wb_start (H := H) (locs := locs) hHe hle ?_
  rw [← hHe] at hP
  have hS : va_S A s.heap H locs := by rw [hHe, hle]; exact va_S.rf
  refine lv_aload_n hx hb dX12_need_0 rfl (lv_at hl 0 rfl) ?_
  obtain ⟨r1, hr1, hf⟩ := wb_b hf
  refine vp_callSi (W.runV (As := []) (rest := []) ⟨hx, hb, hml, hown, hts⟩ (cn_X12_isGood l D cB cI cZ N a0 I0 L0 M0 r1 hr1) (cwV 0 hts gX12_need_X12_isGood rfl rfl rfl cdX12_isGood ⟨Nat.le_of_ble_eq_true rfl, Nat.le_of_ble_eq_true rfl⟩) (wb_preV hP hK (wr_12 hK hP (q0 := 0) rfl)) rfl rfl hl.1 rfl (lv_room (Nat.le_of_ble_eq_true rfl)) dX12_need_1 ⟨Nat.le_of_ble_eq_true rfl, Nat.le_of_ble_eq_true rfl⟩) (fun r9 e9 => ?_)
  rw [e9]
  refine lv_if_ne (tgt := 8) hx hb dX12_need_4 (by decide) (fun hc => ?_) (fun hc => ?_)
  · replace hf := wb_f hc hf
    refine lv_iload_n hx hb dX12_need_8 rfl (lv_at hl 1 rfl) ?_
    refine lv_if_eq (tgt := 19) hx hb dX12_need_9 (by decide) (fun hc => ?_) (fun hc => ?_)
    · replace hf := wb_t hc hf
      refine lv_aload_n hx hb dX12_need_19 rfl (lv_at hl 0 rfl) ?_
      refine lv_iconst (v := (1 : Int32)) hx hb dX12_need_20 (by decide) ?_
      obtain ⟨r2, hr2, hf⟩ := wb_b hf
      have hPc := hP
      have hDc := hD
      have hFc := wj_F hDc hS hA
      refine va_callv (va_runV (As := [.int (1 : Int32)]) (rest := []) ⟨hx, hb, hml, hown, hts⟩ (cn_X12_wrong l D cB cI cZ N a0 I0 L0 M0 (1 : Int32) H.size r2 hr2) (cwV 1 hts gX12_need_X12_wrong rfl rfl rfl cdX12_wrong ⟨Nat.le_of_ble_eq_true rfl, Nat.le_of_ble_eq_true rfl⟩) (wb_preDV hPc hK hDc (wr_12 hK hP (q0 := 0) rfl)) rfl rfl hl.1 rfl (lv_room (Nat.le_of_ble_eq_true rfl)) dX12_need_21 ⟨Nat.le_of_ble_eq_true rfl, Nat.le_of_ble_eq_true rfl⟩) hS (fun q _ h => hFc q h) hFc (fun u t H locs ht hvm hw hB hz1 hk1 hS => ?_)
      obtain ⟨hP, hD⟩ := wj_0 hFc ht hB
      exact W.vret hx hb hr (fun t ht hW => by rw [← Option.some.inj hf]; exact ⟨⟨(), rfl, trivial, by rw [ht]; exact hP, va_K.moved hW.alike hK, hD⟩, hS.F ht⟩) hS.2.2 dX12_need_24
    · replace hf := wb_f hc hf
      refine lv_aload_n hx hb dX12_need_12 rfl (lv_at hl 0 rfl) ?_
      obtain ⟨r3, hr3, hf⟩ := wb_b hf
      have hPc := hP
      have hDc := hD
      have hFc := wj_F hDc hS hA
      refine va_callv (va_runV (As := []) (rest := []) ⟨hx, hb, hml, hown, hts⟩ (cn_X12_steps l D cB cI cZ N a0 I0 L0 M0 H.size r3 hr3) (cwV 0 hts gX12_need_X12_steps rfl rfl rfl cdX12_steps ⟨Nat.le_of_ble_eq_true rfl, Nat.le_of_ble_eq_true rfl⟩) (wb_preDV hPc hK hDc (wr_12 hK hP (q0 := 0) rfl)) rfl rfl hl.1 rfl (lv_room (Nat.le_of_ble_eq_true rfl)) dX12_need_13 ⟨Nat.le_of_ble_eq_true rfl, Nat.le_of_ble_eq_true rfl⟩) hS (fun q _ h => hFc q h) hFc (fun u t H locs ht hvm hw hB hz1 hk1 hS => ?_)
      obtain ⟨hP, hD⟩ := wj_0 hFc ht hB
      refine lv_goto (tgt := 24) hx hb dX12_need_16 (by decide) ?_
      exact W.vret hx hb hr (fun t ht hW => by rw [← Option.some.inj hf]; exact ⟨⟨(), rfl, trivial, by rw [ht]; exact hP, va_K.moved hW.alike hK, hD⟩, hS.F ht⟩) hS.2.2 dX12_need_24
  · replace hf := wb_t hc hf
    exact W.vret hx hb hr (fun t ht hW => by rw [← Option.some.inj hf]; exact ⟨⟨(), rfl, trivial, by rw [ht]; exact hP, va_K.moved hW.alike hK, hD⟩, hS.F ht⟩) hS.2.2 dX12_need_7

set_option maxHeartbeats 4000000 in
set_option maxRecDepth 100000 in
theorem cn_X12_number (l : Launch) (D : va_G) (cB cI cZ : ClassId) (N : Nat) (a0 : Nat → Nat) (I0 : Nat → Int32) (L0 : Int64) (M0 : Nat → Nat → Int32) (x1 : Int32) (x2 : Int32) (sz : Nat) (R : Int32 × (Nat → Int32) × Int64 × (Nat → Nat → Int32)) (hf : fX12_number N I0 L0 M0 x1 x2 = some R) : Met l yX12_number wsX12_number ({ frames := 2, cells := 0, slots := 0, locals := 42 }) (va_Pc [.ref (a0 0), .int x1, .int x2] (wb_preD D [(cB, .byte), (cI, .int), (cZ, .boolean)] (wWX12 cB cI cZ a0 I0 L0 M0) sz)) (va_Qi (fun r (_ : Unit) => r = R.1) (fun _ t => wb_post D [(cB, .byte), (cI, .int), (cZ, .boolean)] (va_A (wWX12 cB cI cZ a0 I0 L0 M0) sz) (wWX12 cB cI cZ a0 R.2.1 R.2.2.1 R.2.2.2) t) (va_A (wWX12 cB cI cZ a0 I0 L0 M0) sz)) 0 0 (va_A (wWX12 cB cI cZ a0 I0 L0 M0) sz) := by
  refine Met.ofW (cc := cX12_number) (maxL := 4) (ret := (some .int)) pn_X12 rfl ?_
  intro p e s m args below meth c s₁ B hml hv
  obtain ⟨rfl, hsz, hP, hK, hD0⟩ := hv
  have hx := B.exec
  have hb := B.bytes
  have hr := B.returns
  have hts := atoms_spec (ws := wsX12_number) B.pre
  have hown : s.vm.findClass RX12 = some m.cls := (findClass_of_methodNamed B.named :)
  have hlocks := B.notSynchronized
  have hinX12 : ∀ w ∈ u_ws RX12 TX12 58, w ∈ wsX12_number := fun w h => List.mem_cons_of_mem _ (List.mem_append_right _ h)
  subst hsz
  have hD := hD0.self (sz := s.heap.size)
  generalize hAe : va_A (wWX12 cB cI cZ a0 I0 L0 M0) s.heap.size = A at hD ⊢
  have hA : ∀ q : Nat, s.heap.size ≤ q → A q := fun q h => by rw [← hAe]; exact Or.inr h
  have hS : va_S A s.heap s.heap [] := va_S.rf
  have hl := lv_entry ([.ref (a0 0), .int x1, .int x2]) (n := 4) (Nat.le_of_ble_eq_true rfl)
  rw [lg_entry_eq]
  generalize (lg_sl ([.ref (a0 0), .int x1, .int x2]) ++ List.replicate (4 - (lg_sl ([.ref (a0 0), .int x1, .int x2])).length) Slot.unset).toArray = ls at hl ⊢
  have hl : lv_has ls 4 [(0, .ref (a0 0)), (1, .int x1), (2, .int x2)] := hl
  unfold fX12_number at hf
  obtain ⟨H, hHe⟩ : ∃ H : Heap, H = s.heap := ⟨_, rfl⟩
  obtain ⟨locs, hle⟩ : ∃ locs : List Loc, locs = [] := ⟨_, rfl⟩
  refine wb_start (H := H) (locs := locs) hHe hle ?_
  rw [← hHe] at hP
  have hS : va_S A s.heap H locs := by rw [hHe, hle]; exact va_S.rf
  have J55 : ∀ (I0_j55 : Nat → Int32) (L0_j55 : Int64) (M0_j55 : Nat → Nat → Int32) (H : Heap) (locs : List Loc), va_P D vwCl (wWX12 cB cI cZ a0 I0_j55 L0_j55 M0_j55) H → va_D A (wWX12 cB cI cZ a0 I0_j55 L0_j55 M0_j55) → va_S A s.heap H locs → ∀ (ls : Array Slot), lv_has ls 4 [(0, .ref (a0 0))] → fX12_number_J55 N x1 x2 I0_j55 L0_j55 M0_j55 = some R → W p l e (headSpec wsX12_number { frames := 2, cells := 0, slots := 0, locals := 42 }).room s m [.ref (a0 0), .int x1, .int x2].toArray below meth c H locs 0 0 (MQ below (va_Qi (fun r (_ : Unit) => r = R.1) (fun _ t => wb_post D [(cB, .byte), (cI, .int), (cZ, .boolean)] A (wWX12 cB cI cZ a0 R.2.1 R.2.2.1 R.2.2.2) t) A) [.ref (a0 0), .int x1, .int x2].toArray s 0 0 A) (F0 m 55 ls []) := by
    intro I0_j55 L0_j55 M0_j55 H locs hP hD hS ls hl hf
    unfold fX12_number_J55 at hf
    refine lv_aload_n hx hb dX12_number_55 rfl (lv_at hl 0 rfl) ?_
    refine va_get (D := D) (ci := 12) (v := .int (I0_j55 11)) (C := RX12) (T := TX12) (N := 58) hx hb hts hinX12 hown hK hP 0 rfl rfl 20 (by decide) (hts (.fieldLink RX12 156 "WheelBookModel" "value" "I") (List.mem_of_getElem? (i := 3) rfl)) (fun _ h9 => h9) rfl dX12_number_56 ?_
    obtain ⟨v1, ev1, hf⟩ := wb_v hf
    refine wb_topi ev1 ?_
    refine lv_istore_n (lv' := [(3, .int v1), (0, .ref (a0 0))]) hx hb dX12_number_59 rfl hl (by decide) rfl (fun ls hl => ?_)
    refine lv_aload_n hx hb dX12_number_60 rfl (lv_at hl 1 rfl) ?_
    obtain ⟨r2, hr2, hf⟩ := wb_b hf
    refine vp_callSi (W.runV (As := []) (rest := []) ⟨hx, hb, hml, hown, hts⟩ (cn_X12_isGood l D cB cI cZ N a0 I0_j55 L0_j55 M0_j55 r2 hr2) (cwV 0 hts gX12_number_X12_isGood rfl rfl rfl cdX12_isGood ⟨Nat.le_of_ble_eq_true rfl, Nat.le_of_ble_eq_true rfl⟩) (wb_preV hP hK (wr_12 hK hP (q0 := 0) rfl)) rfl rfl hl.1 rfl (lv_room (Nat.le_of_ble_eq_true rfl)) dX12_number_61 ⟨Nat.le_of_ble_eq_true rfl, Nat.le_of_ble_eq_true rfl⟩) (fun r9 e9 => ?_)
    rw [e9]
    refine lv_if_eq (tgt := 71) hx hb dX12_number_64 (by decide) (fun hc => ?_) (fun hc => ?_)
    · replace hf := wb_t hc hf
      refine lv_iload_n hx hb dX12_number_71 rfl (lv_at hl 0 rfl) ?_
      exact W.iret (v := v1) hx hb hr (fun t ht hW => by rw [← Option.some.inj hf]; exact ⟨⟨v1, (), rfl, rfl, by rw [ht]; exact hP, va_K.moved hW.alike hK, hD⟩, hS.F ht⟩) hS.2.2 dX12_number_72
    · replace hf := wb_f hc hf
      refine lv_aload_n hx hb dX12_number_67 rfl (lv_at hl 1 rfl) ?_
      obtain ⟨r3, hr3, hf⟩ := wb_b hf
      have hPc := hP
      have hDc := hD
      have hFc := wj_F hDc hS hA
      refine va_callv (va_runV (As := []) (rest := []) ⟨hx, hb, hml, hown, hts⟩ (cn_X12_steps l D cB cI cZ N a0 I0_j55 L0_j55 M0_j55 H.size r3 hr3) (cwV 0 hts gX12_number_X12_steps rfl rfl rfl cdX12_steps ⟨Nat.le_of_ble_eq_true rfl, Nat.le_of_ble_eq_true rfl⟩) (wb_preDV hPc hK hDc (wr_12 hK hP (q0 := 0) rfl)) rfl rfl hl.1 rfl (lv_room (Nat.le_of_ble_eq_true rfl)) dX12_number_68 ⟨Nat.le_of_ble_eq_true rfl, Nat.le_of_ble_eq_true rfl⟩) hS (fun q _ h => hFc q h) hFc (fun u t H locs ht hvm hw hB hz1 hk1 hS => ?_)
      obtain ⟨hP, hD⟩ := wj_0 hFc ht hB
      refine lv_iload_n hx hb dX12_number_71 rfl (lv_at hl 0 rfl) ?_
      exact W.iret (v := v1) hx hb hr (fun t ht hW => by rw [← Option.some.inj hf]; exact ⟨⟨v1, (), rfl, rfl, by rw [ht]; exact hP, va_K.moved hW.alike hK, hD⟩, hS.F ht⟩) hS.2.2 dX12_number_72
  have J50 : ∀ (I0_j50 : Nat → Int32) (L0_j50 : Int64) (M0_j50 : Nat → Nat → Int32) (H : Heap) (locs : List Loc), va_P D vwCl (wWX12 cB cI cZ a0 I0_j50 L0_j50 M0_j50) H → va_D A (wWX12 cB cI cZ a0 I0_j50 L0_j50 M0_j50) → va_S A s.heap H locs → ∀ (ls : Array Slot), lv_has ls 4 [(0, .ref (a0 0))] → fX12_number_J50 N x1 x2 I0_j50 L0_j50 M0_j50 = some R → W p l e (headSpec wsX12_number { frames := 2, cells := 0, slots := 0, locals := 42 }).room s m [.ref (a0 0), .int x1, .int x2].toArray below meth c H locs 0 0 (MQ below (va_Qi (fun r (_ : Unit) => r = R.1) (fun _ t => wb_post D [(cB, .byte), (cI, .int), (cZ, .boolean)] A (wWX12 cB cI cZ a0 R.2.1 R.2.2.1 R.2.2.2) t) A) [.ref (a0 0), .int x1, .int x2].toArray s 0 0 A) (F0 m 50 ls []) := by
    intro I0_j50 L0_j50 M0_j50 H locs hP hD hS ls hl hf
    unfold fX12_number_J50 at hf
    refine lv_aload_n hx hb dX12_number_50 rfl (lv_at hl 0 rfl) ?_
    refine lv_iconst (v := (2 : Int32)) hx hb dX12_number_51 (by decide) ?_
    obtain ⟨r4, hr4, hf⟩ := wb_b hf
    have hPc := hP
    have hDc := hD
    have hFc := wj_F hDc hS hA
    refine va_callv (va_runV (As := [.int (2 : Int32)]) (rest := []) ⟨hx, hb, hml, hown, hts⟩ (cn_X12_wrong l D cB cI cZ N a0 I0_j50 L0_j50 M0_j50 (2 : Int32) H.size r4 hr4) (cwV 1 hts gX12_number_X12_wrong rfl rfl rfl cdX12_wrong ⟨Nat.le_of_ble_eq_true rfl, Nat.le_of_ble_eq_true rfl⟩) (wb_preDV hPc hK hDc (wr_12 hK hP (q0 := 0) rfl)) rfl rfl hl.1 rfl (lv_room (Nat.le_of_ble_eq_true rfl)) dX12_number_52 ⟨Nat.le_of_ble_eq_true rfl, Nat.le_of_ble_eq_true rfl⟩) hS (fun q _ h => hFc q h) hFc (fun u t H locs ht hvm hw hB hz1 hk1 hS => ?_)
    obtain ⟨hP, hD⟩ := wj_0 hFc ht hB
    exact J55 r4.1 r4.2.1 r4.2.2 H locs hP hD hS ls (lv_sub hl [0] rfl) hf
  refine lv_aload_n hx hb dX12_number_0 rfl (lv_at hl 0 rfl) ?_
  obtain ⟨r5, hr5, hf⟩ := wb_b hf
  refine vp_callSi (W.runV (As := []) (rest := []) ⟨hx, hb, hml, hown, hts⟩ (cn_X12_isGood l D cB cI cZ N a0 I0 L0 M0 r5 hr5) (cwV 0 hts gX12_number_X12_isGood rfl rfl rfl cdX12_isGood ⟨Nat.le_of_ble_eq_true rfl, Nat.le_of_ble_eq_true rfl⟩) (wb_preV hP hK (wr_12 hK hP (q0 := 0) rfl)) rfl rfl hl.1 rfl (lv_room (Nat.le_of_ble_eq_true rfl)) dX12_number_1 ⟨Nat.le_of_ble_eq_true rfl, Nat.le_of_ble_eq_true rfl⟩) (fun r9 e9 => ?_)
  rw [e9]
  refine lv_if_ne (tgt := 9) hx hb dX12_number_4 (by decide) (fun hc => ?_) (fun hc => ?_)
  · replace hf := wb_f hc hf
    refine lv_aload_n hx hb dX12_number_9 rfl (lv_at hl 0 rfl) ?_
    refine va_get (D := D) (ci := 12) (v := .int (I0 8)) (C := RX12) (T := TX12) (N := 58) hx hb hts hinX12 hown hK hP 0 rfl rfl 17 (by decide) (hts (.fieldLink RX12 159 "WheelBookModel" "sort" "I") (List.mem_of_getElem? (i := 1) rfl)) (fun _ h9 => h9) rfl dX12_number_10 ?_
    refine lv_iconst (v := (2 : Int32)) hx hb dX12_number_13 (by decide) ?_
    refine lv_icmp_eq (tgt := 25) hx hb dX12_number_14 (by decide) (fun hc => ?_) (fun hc => ?_)
    · replace hf := wb_t hc hf
      refine lv_aload_n hx hb dX12_number_25 rfl (lv_at hl 0 rfl) ?_
      refine va_get (D := D) (ci := 12) (v := .int (I0 10)) (C := RX12) (T := TX12) (N := 58) hx hb hts hinX12 hown hK hP 0 rfl rfl 19 (by decide) (hts (.fieldLink RX12 169 "WheelBookModel" "long0" "I") (List.mem_of_getElem? (i := 2) rfl)) (fun _ h9 => h9) rfl dX12_number_26 ?_
      refine lv_bipush (v := (7 : Int32)) hx hb dX12_number_29 (by decide) ?_
      refine lv_icmp_gt (tgt := 50) hx hb dX12_number_31 (by decide) (fun hc => ?_) (fun hc => ?_)
      · replace hf := wb_t hc hf
        exact J50 I0 L0 M0 H locs hP hD hS ls (lv_sub hl [0] rfl) hf
      · replace hf := wb_f hc hf
        refine lv_aload_n hx hb dX12_number_34 rfl (lv_at hl 0 rfl) ?_
        refine va_get (D := D) (ci := 12) (v := .int (I0 11)) (C := RX12) (T := TX12) (N := 58) hx hb hts hinX12 hown hK hP 0 rfl rfl 20 (by decide) (hts (.fieldLink RX12 156 "WheelBookModel" "value" "I") (List.mem_of_getElem? (i := 3) rfl)) (fun _ h9 => h9) rfl dX12_number_35 ?_
        refine lv_iload_n hx hb dX12_number_38 rfl (lv_at hl 1 rfl) ?_
        refine lv_icmp_lt (tgt := 50) hx hb dX12_number_39 (by decide) (fun hc => ?_) (fun hc => ?_)
        · replace hf := wb_t hc hf
          exact J50 I0 L0 M0 H locs hP hD hS ls (lv_sub hl [0] rfl) hf
        · replace hf := wb_f hc hf
          refine lv_aload_n hx hb dX12_number_42 rfl (lv_at hl 0 rfl) ?_
          refine va_get (D := D) (ci := 12) (v := .int (I0 11)) (C := RX12) (T := TX12) (N := 58) hx hb hts hinX12 hown hK hP 0 rfl rfl 20 (by decide) (hts (.fieldLink RX12 156 "WheelBookModel" "value" "I") (List.mem_of_getElem? (i := 3) rfl)) (fun _ h9 => h9) rfl dX12_number_43 ?_
          refine lv_iload_n hx hb dX12_number_46 rfl (lv_at hl 2 rfl) ?_
          refine lv_icmp_le (tgt := 55) hx hb dX12_number_47 (by decide) (fun hc => ?_) (fun hc => ?_)
          · replace hf := wb_t hc hf
            exact J55 I0 L0 M0 H locs hP hD hS ls (lv_sub hl [0] rfl) hf
          · replace hf := wb_f hc hf
            exact J50 I0 L0 M0 H locs hP hD hS ls (lv_sub hl [0] rfl) hf
    · replace hf := wb_f hc hf
      refine lv_aload_n hx hb dX12_number_17 rfl (lv_at hl 0 rfl) ?_
      refine lv_iconst (v := (1 : Int32)) hx hb dX12_number_18 (by decide) ?_
      obtain ⟨r6, hr6, hf⟩ := wb_b hf
      have hPc := hP
      have hDc := hD
      have hFc := wj_F hDc hS hA
      refine va_callv (va_runV (As := [.int (1 : Int32)]) (rest := []) ⟨hx, hb, hml, hown, hts⟩ (cn_X12_wrong l D cB cI cZ N a0 I0 L0 M0 (1 : Int32) H.size r6 hr6) (cwV 1 hts gX12_number_X12_wrong rfl rfl rfl cdX12_wrong ⟨Nat.le_of_ble_eq_true rfl, Nat.le_of_ble_eq_true rfl⟩) (wb_preDV hPc hK hDc (wr_12 hK hP (q0 := 0) rfl)) rfl rfl hl.1 rfl (lv_room (Nat.le_of_ble_eq_true rfl)) dX12_number_19 ⟨Nat.le_of_ble_eq_true rfl, Nat.le_of_ble_eq_true rfl⟩) hS (fun q _ h => hFc q h) hFc (fun u t H locs ht hvm hw hB hz1 hk1 hS => ?_)
      obtain ⟨hP, hD⟩ := wj_0 hFc ht hB
      refine lv_goto (tgt := 55) hx hb dX12_number_22 (by decide) ?_
      exact J55 r6.1 r6.2.1 r6.2.2 H locs hP hD hS ls (lv_sub hl [0] rfl) hf
  · replace hf := wb_t hc hf
    refine lv_iconst (v := (0 : Int32)) hx hb dX12_number_7 (by decide) ?_
    exact W.iret (v := (0 : Int32)) hx hb hr (fun t ht hW => by rw [← Option.some.inj hf]; exact ⟨⟨(0 : Int32), (), rfl, rfl, by rw [ht]; exact hP, va_K.moved hW.alike hK, hD⟩, hS.F ht⟩) hS.2.2 dX12_number_8

set_option maxHeartbeats 4000000 in
set_option maxRecDepth 100000 in
theorem cn_X12_named (l : Launch) (D : va_G) (cB cI cZ : ClassId) (N : Nat) (a0 : Nat → Nat) (I0 : Nat → Int32) (L0 : Int64) (M0 : Nat → Nat → Int32) (x1 : Int32) (x2 : Int32) (x3 : Int32) (sz : Nat) (R : Int32 × (Nat → Int32) × Int64 × (Nat → Nat → Int32)) (hf : fX12_named N I0 L0 M0 x1 x2 x3 = some R) : Met l yX12_named wsX12_named ({ frames := 3, cells := 0, slots := 0, locals := 69 }) (va_Pc [.ref (a0 0), .int x1, .int x2, .int x3] (wb_preD D [(cB, .byte), (cI, .int), (cZ, .boolean)] (wWX12 cB cI cZ a0 I0 L0 M0) sz)) (va_Qi (fun r (_ : Unit) => r = R.1) (fun _ t => wb_post D [(cB, .byte), (cI, .int), (cZ, .boolean)] (va_A (wWX12 cB cI cZ a0 I0 L0 M0) sz) (wWX12 cB cI cZ a0 R.2.1 R.2.2.1 R.2.2.2) t) (va_A (wWX12 cB cI cZ a0 I0 L0 M0) sz)) 0 0 (va_A (wWX12 cB cI cZ a0 I0 L0 M0) sz) := by
  refine Met.ofW (cc := cX12_named) (maxL := 4) (ret := (some .int)) pn_X12 rfl ?_
  intro p e s m args below meth c s₁ B hml hv
  obtain ⟨rfl, hsz, hP, hK, hD0⟩ := hv
  have hx := B.exec
  have hb := B.bytes
  have hr := B.returns
  have hts := atoms_spec (ws := wsX12_named) B.pre
  have hown : s.vm.findClass RX12 = some m.cls := (findClass_of_methodNamed B.named :)
  have hlocks := B.notSynchronized
  subst hsz
  have hD := hD0.self (sz := s.heap.size)
  generalize hAe : va_A (wWX12 cB cI cZ a0 I0 L0 M0) s.heap.size = A at hD ⊢
  have hA : ∀ q : Nat, s.heap.size ≤ q → A q := fun q h => by rw [← hAe]; exact Or.inr h
  have hS : va_S A s.heap s.heap [] := va_S.rf
  have hl := lv_entry ([.ref (a0 0), .int x1, .int x2, .int x3]) (n := 4) (Nat.le_of_ble_eq_true rfl)
  rw [lg_entry_eq]
  generalize (lg_sl ([.ref (a0 0), .int x1, .int x2, .int x3]) ++ List.replicate (4 - (lg_sl ([.ref (a0 0), .int x1, .int x2, .int x3])).length) Slot.unset).toArray = ls at hl ⊢
  have hl : lv_has ls 4 [(0, .ref (a0 0)), (1, .int x1), (2, .int x2), (3, .int x3)] := hl
  unfold fX12_named at hf
  obtain ⟨H, hHe⟩ : ∃ H : Heap, H = s.heap := ⟨_, rfl⟩
  obtain ⟨locs, hle⟩ : ∃ locs : List Loc, locs = [] := ⟨_, rfl⟩
  refine wb_start (H := H) (locs := locs) hHe hle ?_
  rw [← hHe] at hP
  have hS : va_S A s.heap H locs := by rw [hHe, hle]; exact va_S.rf
  refine lv_aload_n hx hb dX12_named_0 rfl (lv_at hl 0 rfl) ?_
  refine lv_aload_n hx hb dX12_named_1 rfl (lv_at hl 0 rfl) ?_
  obtain ⟨r1, hr1, hf⟩ := wb_b hf
  refine vp_callSi (W.runV (As := []) (rest := [.ref (a0 0)]) ⟨hx, hb, hml, hown, hts⟩ (cn_X12_knownWord l D cB cI cZ N a0 I0 L0 M0 r1 hr1) (cwV 0 hts gX12_named_X12_knownWord rfl rfl rfl cdX12_knownWord ⟨Nat.le_of_ble_eq_true rfl, Nat.le_of_ble_eq_true rfl⟩) (wb_preV hP hK (wr_12 hK hP (q0 := 0) rfl)) rfl rfl hl.1 rfl (lv_room (Nat.le_of_ble_eq_true rfl)) dX12_named_2 ⟨Nat.le_of_ble_eq_true rfl, Nat.le_of_ble_eq_true rfl⟩) (fun r9 e9 => ?_)
  rw [e9]
  refine lv_iload_n hx hb dX12_named_5 rfl (lv_at hl 1 rfl) ?_
  refine lv_icmp_ne (tgt := 13) hx hb dX12_named_6 (by decide) (fun hc => ?_) (fun hc => ?_)
  · replace hf := wb_f hc hf
    refine lv_iconst (v := (0 : Int32)) hx hb dX12_named_13 (by decide) ?_
    obtain ⟨r2, hr2, hf⟩ := wb_b hf
    have hPc := hP
    have hDc := hD
    have hFc := wj_F hDc hS hA
    refine va_callv (va_runV (As := [.int (0 : Int32)]) (rest := []) ⟨hx, hb, hml, hown, hts⟩ (cn_X12_need l D cB cI cZ N a0 I0 L0 M0 (0 : Int32) H.size r2 hr2) (cwV 1 hts gX12_named_X12_need rfl rfl rfl cdX12_need ⟨Nat.le_of_ble_eq_true rfl, Nat.le_of_ble_eq_true rfl⟩) (wb_preDV hPc hK hDc (wr_12 hK hP (q0 := 0) rfl)) rfl rfl hl.1 rfl (lv_room (Nat.le_of_ble_eq_true rfl)) dX12_named_14 ⟨Nat.le_of_ble_eq_true rfl, Nat.le_of_ble_eq_true rfl⟩) hS (fun q _ h => hFc q h) hFc (fun u t H locs ht hvm hw hB hz1 hk1 hS => ?_)
    obtain ⟨hP, hD⟩ := wj_0 hFc ht hB
    refine lv_aload_n hx hb dX12_named_17 rfl (lv_at hl 0 rfl) ?_
    refine lv_iload_n hx hb dX12_named_18 rfl (lv_at hl 2 rfl) ?_
    refine lv_iload_n hx hb dX12_named_19 rfl (lv_at hl 3 rfl) ?_
    obtain ⟨r3, hr3, hf⟩ := wb_b hf
    have hPc := hP
    have hDc := hD
    have hFc := wj_F hDc hS hA
    refine va_calli (va_runV (As := [.int x2, .int x3]) (rest := []) ⟨hx, hb, hml, hown, hts⟩ (cn_X12_number l D cB cI cZ N a0 r2.1 r2.2.1 r2.2.2 x2 x3 H.size r3 hr3) (cwV 2 hts gX12_named_X12_number rfl rfl rfl cdX12_number ⟨Nat.le_of_ble_eq_true rfl, Nat.le_of_ble_eq_true rfl⟩) (wb_preDV hPc hK hDc (wr_12 hK hP (q0 := 0) rfl)) rfl rfl hl.1 rfl (lv_room (Nat.le_of_ble_eq_true rfl)) dX12_named_20 ⟨Nat.le_of_ble_eq_true rfl, Nat.le_of_ble_eq_true rfl⟩) hS (fun q _ h => hFc q h) hFc (fun r9 u t H locs ht hvm hw hB hz1 hk1 hS => ?_)
    obtain ⟨hP, hD⟩ := wj_0 hFc ht hB
    rw [hw]
    exact W.iret (v := r3.1) hx hb hr (fun t ht hW => by rw [← Option.some.inj hf]; exact ⟨⟨r3.1, (), rfl, rfl, by rw [ht]; exact hP, va_K.moved hW.alike hK, hD⟩, hS.F ht⟩) hS.2.2 dX12_named_23
  · replace hf := wb_t hc hf
    refine lv_iconst (v := (1 : Int32)) hx hb dX12_named_9 (by decide) ?_
    refine lv_goto (tgt := 14) hx hb dX12_named_10 (by decide) ?_
    obtain ⟨r4, hr4, hf⟩ := wb_b hf
    have hPc := hP
    have hDc := hD
    have hFc := wj_F hDc hS hA
    refine va_callv (va_runV (As := [.int (1 : Int32)]) (rest := []) ⟨hx, hb, hml, hown, hts⟩ (cn_X12_need l D cB cI cZ N a0 I0 L0 M0 (1 : Int32) H.size r4 hr4) (cwV 1 hts gX12_named_X12_need rfl rfl rfl cdX12_need ⟨Nat.le_of_ble_eq_true rfl, Nat.le_of_ble_eq_true rfl⟩) (wb_preDV hPc hK hDc (wr_12 hK hP (q0 := 0) rfl)) rfl rfl hl.1 rfl (lv_room (Nat.le_of_ble_eq_true rfl)) dX12_named_14 ⟨Nat.le_of_ble_eq_true rfl, Nat.le_of_ble_eq_true rfl⟩) hS (fun q _ h => hFc q h) hFc (fun u t H locs ht hvm hw hB hz1 hk1 hS => ?_)
    obtain ⟨hP, hD⟩ := wj_0 hFc ht hB
    refine lv_aload_n hx hb dX12_named_17 rfl (lv_at hl 0 rfl) ?_
    refine lv_iload_n hx hb dX12_named_18 rfl (lv_at hl 2 rfl) ?_
    refine lv_iload_n hx hb dX12_named_19 rfl (lv_at hl 3 rfl) ?_
    obtain ⟨r5, hr5, hf⟩ := wb_b hf
    have hPc := hP
    have hDc := hD
    have hFc := wj_F hDc hS hA
    refine va_calli (va_runV (As := [.int x2, .int x3]) (rest := []) ⟨hx, hb, hml, hown, hts⟩ (cn_X12_number l D cB cI cZ N a0 r4.1 r4.2.1 r4.2.2 x2 x3 H.size r5 hr5) (cwV 2 hts gX12_named_X12_number rfl rfl rfl cdX12_number ⟨Nat.le_of_ble_eq_true rfl, Nat.le_of_ble_eq_true rfl⟩) (wb_preDV hPc hK hDc (wr_12 hK hP (q0 := 0) rfl)) rfl rfl hl.1 rfl (lv_room (Nat.le_of_ble_eq_true rfl)) dX12_named_20 ⟨Nat.le_of_ble_eq_true rfl, Nat.le_of_ble_eq_true rfl⟩) hS (fun q _ h => hFc q h) hFc (fun r9 u t H locs ht hvm hw hB hz1 hk1 hS => ?_)
    obtain ⟨hP, hD⟩ := wj_0 hFc ht hB
    rw [hw]
    exact W.iret (v := r5.1) hx hb hr (fun t ht hW => by rw [← Option.some.inj hf]; exact ⟨⟨r5.1, (), rfl, rfl, by rw [ht]; exact hP, va_K.moved hW.alike hK, hD⟩, hS.F ht⟩) hS.2.2 dX12_named_23

set_option maxHeartbeats 4000000 in
set_option maxRecDepth 100000 in
theorem cn_X12_begins (l : Launch) (D : va_G) (cB cI cZ : ClassId) (N : Nat) (a0 : Nat → Nat) (I0 : Nat → Int32) (L0 : Int64) (M0 : Nat → Nat → Int32) (x1 : Int32) (sz : Nat) (R : Int32 × (Nat → Int32) × Int64 × (Nat → Nat → Int32)) (hf : fX12_begins N I0 L0 M0 x1 = some R) : Met l yX12_begins wsX12_begins ({ frames := 2, cells := 0, slots := 0, locals := 42 }) (va_Pc [.ref (a0 0), .int x1] (wb_preD D [(cB, .byte), (cI, .int), (cZ, .boolean)] (wWX12 cB cI cZ a0 I0 L0 M0) sz)) (va_Qi (fun r (_ : Unit) => r = R.1) (fun _ t => wb_post D [(cB, .byte), (cI, .int), (cZ, .boolean)] (va_A (wWX12 cB cI cZ a0 I0 L0 M0) sz) (wWX12 cB cI cZ a0 R.2.1 R.2.2.1 R.2.2.2) t) (va_A (wWX12 cB cI cZ a0 I0 L0 M0) sz)) 0 0 (va_A (wWX12 cB cI cZ a0 I0 L0 M0) sz) := by
  refine Met.ofW (cc := cX12_begins) (maxL := 2) (ret := (some .boolean)) pn_X12 rfl ?_
  intro p e s m args below meth c s₁ B hml hv
  obtain ⟨rfl, hsz, hP, hK, hD0⟩ := hv
  have hx := B.exec
  have hb := B.bytes
  have hr := B.returns
  have hts := atoms_spec (ws := wsX12_begins) B.pre
  have hown : s.vm.findClass RX12 = some m.cls := (findClass_of_methodNamed B.named :)
  have hlocks := B.notSynchronized
  have hinX12 : ∀ w ∈ u_ws RX12 TX12 58, w ∈ wsX12_begins := fun w h => List.mem_cons_of_mem _ (List.mem_append_right _ h)
  subst hsz
  have hD := hD0.self (sz := s.heap.size)
  generalize hAe : va_A (wWX12 cB cI cZ a0 I0 L0 M0) s.heap.size = A at hD ⊢
  have hA : ∀ q : Nat, s.heap.size ≤ q → A q := fun q h => by rw [← hAe]; exact Or.inr h
  have hS : va_S A s.heap s.heap [] := va_S.rf
  have hl := lv_entry ([.ref (a0 0), .int x1]) (n := 2) (Nat.le_of_ble_eq_true rfl)
  rw [lg_entry_eq]
  generalize (lg_sl ([.ref (a0 0), .int x1]) ++ List.replicate (2 - (lg_sl ([.ref (a0 0), .int x1])).length) Slot.unset).toArray = ls at hl ⊢
  have hl : lv_has ls 2 [(0, .ref (a0 0)), (1, .int x1)] := hl
  unfold fX12_begins at hf
  obtain ⟨H, hHe⟩ : ∃ H : Heap, H = s.heap := ⟨_, rfl⟩
  obtain ⟨locs, hle⟩ : ∃ locs : List Loc, locs = [] := ⟨_, rfl⟩
  refine wb_start (H := H) (locs := locs) hHe hle ?_
  rw [← hHe] at hP
  have hS : va_S A s.heap H locs := by rw [hHe, hle]; exact va_S.rf
  have J37 : ∀ (I0_j37 : Nat → Int32) (L0_j37 : Int64) (M0_j37 : Nat → Nat → Int32) (z37_0 : Int32) (z37_1 : Int32) (H : Heap) (locs : List Loc), va_P D vwCl (wWX12 cB cI cZ a0 I0_j37 L0_j37 M0_j37) H → va_D A (wWX12 cB cI cZ a0 I0_j37 L0_j37 M0_j37) → va_S A s.heap H locs → ∀ (ls : Array Slot), lv_has ls 2 [(0, .ref (a0 0)), (1, .int x1)] → fX12_begins_J37 N x1 I0_j37 L0_j37 M0_j37 z37_0 z37_1 = some R → W p l e (headSpec wsX12_begins { frames := 2, cells := 0, slots := 0, locals := 42 }).room s m [.ref (a0 0), .int x1].toArray below meth c H locs 0 0 (MQ below (va_Qi (fun r (_ : Unit) => r = R.1) (fun _ t => wb_post D [(cB, .byte), (cI, .int), (cZ, .boolean)] A (wWX12 cB cI cZ a0 R.2.1 R.2.2.1 R.2.2.2) t) A) [.ref (a0 0), .int x1].toArray s 0 0 A) (F0 m 37 ls [.int z37_0, .int z37_1, .ref (a0 0)]) := by
    intro I0_j37 L0_j37 M0_j37 z37_0 z37_1 H locs hP hD hS ls hl hf
    unfold fX12_begins_J37 at hf
    obtain ⟨r1, hr1, hf⟩ := wb_b hf
    have hPc := hP
    have hDc := hD
    have hFc := wj_F hDc hS hA
    refine va_calli (va_runV (As := [.int z37_1, .int z37_0]) (rest := []) ⟨hx, hb, hml, hown, hts⟩ (cn_X12_right l D cB cI cZ N a0 I0_j37 L0_j37 M0_j37 z37_1 z37_0 H.size r1 hr1) (cwV 2 hts gX12_begins_X12_right rfl rfl rfl cdX12_right ⟨Nat.le_of_ble_eq_true rfl, Nat.le_of_ble_eq_true rfl⟩) (wb_preDV hPc hK hDc (wr_12 hK hP (q0 := 0) rfl)) rfl rfl hl.1 rfl (lv_room (Nat.le_of_ble_eq_true rfl)) dX12_begins_37 ⟨Nat.le_of_ble_eq_true rfl, Nat.le_of_ble_eq_true rfl⟩) hS (fun q _ h => hFc q h) hFc (fun r9 u t H locs ht hvm hw hB hz1 hk1 hS => ?_)
    obtain ⟨hP, hD⟩ := wj_0 hFc ht hB
    rw [hw]
    refine lv_if_ne (tgt := 45) hx hb dX12_begins_40 (by decide) (fun hc => ?_) (fun hc => ?_)
    · replace hf := wb_f hc hf
      refine lv_aload_n hx hb dX12_begins_45 rfl (lv_at hl 0 rfl) ?_
      refine lv_iconst (v := (0 : Int32)) hx hb dX12_begins_46 (by decide) ?_
      refine va_put (D := D) (ci := 12) (v := .int (0 : Int32)) (ty := .int) (C := RX12) (T := TX12) (N := 58) hx hb hts hinX12 tyX12 tyX12_ok nmX12 hown hK hP hD hS 0 rfl rfl 12 (by decide) (hts (.fieldLink RX12 132 "WheelBookModel" "taped" "I") (List.mem_of_getElem? (i := 1) rfl)) (fun _ h9 => h9) rfl (by decide +kernel) rfl rfl (Nat.le_of_ble_eq_true rfl) dX12_begins_47 (fun H locs hP hD hS => ?_)
      have hP : va_P D vwCl (wWX12 cB cI cZ a0 (upd r1.2.1 3 (0 : Int32)) r1.2.2.1 r1.2.2.2) H := hP
      have hD : va_D A (wWX12 cB cI cZ a0 (upd r1.2.1 3 (0 : Int32)) r1.2.2.1 r1.2.2.2) := hD
      obtain ⟨I0_2, eI0_2, hf⟩ := wb_v hf
      rw [← eI0_2] at hP hD
      refine lv_aload_n hx hb dX12_begins_50 rfl (lv_at hl 0 rfl) ?_
      refine lv_iconst (v := (-1 : Int32)) hx hb dX12_begins_51 (by decide) ?_
      refine va_put (D := D) (ci := 12) (v := .int (-1 : Int32)) (ty := .int) (C := RX12) (T := TX12) (N := 58) hx hb hts hinX12 tyX12 tyX12_ok nmX12 hown hK hP hD hS 0 rfl rfl 14 (by decide) (hts (.fieldLink RX12 37 "WheelBookModel" "faultPlace" "I") (List.mem_of_getElem? (i := 4) rfl)) (fun _ h9 => h9) rfl (by decide +kernel) rfl rfl (Nat.le_of_ble_eq_true rfl) dX12_begins_52 (fun H locs hP hD hS => ?_)
      have hP : va_P D vwCl (wWX12 cB cI cZ a0 (upd I0_2 5 (-1 : Int32)) r1.2.2.1 r1.2.2.2) H := hP
      have hD : va_D A (wWX12 cB cI cZ a0 (upd I0_2 5 (-1 : Int32)) r1.2.2.1 r1.2.2.2) := hD
      obtain ⟨I0_3, eI0_3, hf⟩ := wb_v hf
      rw [← eI0_3] at hP hD
      refine lv_aload_n hx hb dX12_begins_55 rfl (lv_at hl 0 rfl) ?_
      refine lv_iconst (v := (0 : Int32)) hx hb dX12_begins_56 (by decide) ?_
      refine va_put (D := D) (ci := 12) (v := .int (0 : Int32)) (ty := .int) (C := RX12) (T := TX12) (N := 58) hx hb hts hinX12 tyX12 tyX12_ok nmX12 hown hK hP hD hS 0 rfl rfl 13 (by decide) (hts (.fieldLink RX12 180 "WheelBookModel" "faultKind" "I") (List.mem_of_getElem? (i := 5) rfl)) (fun _ h9 => h9) rfl (by decide +kernel) rfl rfl (Nat.le_of_ble_eq_true rfl) dX12_begins_57 (fun H locs hP hD hS => ?_)
      have hP : va_P D vwCl (wWX12 cB cI cZ a0 (upd I0_3 4 (0 : Int32)) r1.2.2.1 r1.2.2.2) H := hP
      have hD : va_D A (wWX12 cB cI cZ a0 (upd I0_3 4 (0 : Int32)) r1.2.2.1 r1.2.2.2) := hD
      obtain ⟨I0_4, eI0_4, hf⟩ := wb_v hf
      rw [← eI0_4] at hP hD
      refine lv_aload_n hx hb dX12_begins_60 rfl (lv_at hl 0 rfl) ?_
      refine lv_iload_n hx hb dX12_begins_61 rfl (lv_at hl 1 rfl) ?_
      refine va_put (D := D) (ci := 12) (v := .int x1) (ty := .int) (C := RX12) (T := TX12) (N := 58) hx hb hts hinX12 tyX12 tyX12_ok nmX12 hown hK hP hD hS 0 rfl rfl 15 (by decide) (hts (.fieldLink RX12 139 "WheelBookModel" "size" "I") (List.mem_of_getElem? (i := 6) rfl)) (fun _ h9 => h9) rfl (by decide +kernel) rfl rfl (Nat.le_of_ble_eq_true rfl) dX12_begins_62 (fun H locs hP hD hS => ?_)
      have hP : va_P D vwCl (wWX12 cB cI cZ a0 (upd I0_4 6 x1) r1.2.2.1 r1.2.2.2) H := hP
      have hD : va_D A (wWX12 cB cI cZ a0 (upd I0_4 6 x1) r1.2.2.1 r1.2.2.2) := hD
      obtain ⟨I0_5, eI0_5, hf⟩ := wb_v hf
      rw [← eI0_5] at hP hD
      refine lv_aload_n hx hb dX12_begins_65 rfl (lv_at hl 0 rfl) ?_
      refine lv_iconst (v := (0 : Int32)) hx hb dX12_begins_66 (by decide) ?_
      refine va_put (D := D) (ci := 12) (v := .int (0 : Int32)) (ty := .int) (C := RX12) (T := TX12) (N := 58) hx hb hts hinX12 tyX12 tyX12_ok nmX12 hown hK hP hD hS 0 rfl rfl 16 (by decide) (hts (.fieldLink RX12 142 "WheelBookModel" "next" "I") (List.mem_of_getElem? (i := 7) rfl)) (fun _ h9 => h9) rfl (by decide +kernel) rfl rfl (Nat.le_of_ble_eq_true rfl) dX12_begins_67 (fun H locs hP hD hS => ?_)
      have hP : va_P D vwCl (wWX12 cB cI cZ a0 (upd I0_5 7 (0 : Int32)) r1.2.2.1 r1.2.2.2) H := hP
      have hD : va_D A (wWX12 cB cI cZ a0 (upd I0_5 7 (0 : Int32)) r1.2.2.1 r1.2.2.2) := hD
      obtain ⟨I0_6, eI0_6, hf⟩ := wb_v hf
      rw [← eI0_6] at hP hD
      refine lv_aload_n hx hb dX12_begins_70 rfl (lv_at hl 0 rfl) ?_
      obtain ⟨r7, hr7, hf⟩ := wb_b hf
      have hPc := hP
      have hDc := hD
      have hFc := wj_F hDc hS hA
      refine va_callv (va_runV (As := []) (rest := []) ⟨hx, hb, hml, hown, hts⟩ (cn_X12_steps l D cB cI cZ N a0 I0_6 r1.2.2.1 r1.2.2.2 H.size r7 hr7) (cwV 0 hts gX12_begins_X12_steps rfl rfl rfl cdX12_steps ⟨Nat.le_of_ble_eq_true rfl, Nat.le_of_ble_eq_true rfl⟩) (wb_preDV hPc hK hDc (wr_12 hK hP (q0 := 0) rfl)) rfl rfl hl.1 rfl (lv_room (Nat.le_of_ble_eq_true rfl)) dX12_begins_71 ⟨Nat.le_of_ble_eq_true rfl, Nat.le_of_ble_eq_true rfl⟩) hS (fun q _ h => hFc q h) hFc (fun u t H locs ht hvm hw hB hz1 hk1 hS => ?_)
      obtain ⟨hP, hD⟩ := wj_0 hFc ht hB
      refine lv_iconst (v := (1 : Int32)) hx hb dX12_begins_74 (by decide) ?_
      exact W.zret (v := (1 : Int32)) hx hb hr (by decide) (fun t ht hW => by rw [← Option.some.inj hf]; exact ⟨⟨(1 : Int32), (), rfl, rfl, by rw [ht]; exact hP, va_K.moved hW.alike hK, hD⟩, hS.F ht⟩) hS.2.2 dX12_begins_75
    · replace hf := wb_t hc hf
      refine lv_iconst (v := (0 : Int32)) hx hb dX12_begins_43 (by decide) ?_
      exact W.zret (v := (0 : Int32)) hx hb hr (by decide) (fun t ht hW => by rw [← Option.some.inj hf]; exact ⟨⟨(0 : Int32), (), rfl, rfl, by rw [ht]; exact hP, va_K.moved hW.alike hK, hD⟩, hS.F ht⟩) hS.2.2 dX12_begins_44
  have J36 : ∀ (I0_j36 : Nat → Int32) (L0_j36 : Int64) (M0_j36 : Nat → Nat → Int32) (z36_0 : Int32) (H : Heap) (locs : List Loc), va_P D vwCl (wWX12 cB cI cZ a0 I0_j36 L0_j36 M0_j36) H → va_D A (wWX12 cB cI cZ a0 I0_j36 L0_j36 M0_j36) → va_S A s.heap H locs → ∀ (ls : Array Slot), lv_has ls 2 [(0, .ref (a0 0)), (1, .int x1)] → fX12_begins_J36 N x1 I0_j36 L0_j36 M0_j36 z36_0 = some R → W p l e (headSpec wsX12_begins { frames := 2, cells := 0, slots := 0, locals := 42 }).room s m [.ref (a0 0), .int x1].toArray below meth c H locs 0 0 (MQ below (va_Qi (fun r (_ : Unit) => r = R.1) (fun _ t => wb_post D [(cB, .byte), (cI, .int), (cZ, .boolean)] A (wWX12 cB cI cZ a0 R.2.1 R.2.2.1 R.2.2.2) t) A) [.ref (a0 0), .int x1].toArray s 0 0 A) (F0 m 36 ls [.int z36_0, .ref (a0 0)]) := by
    intro I0_j36 L0_j36 M0_j36 z36_0 H locs hP hD hS ls hl hf
    unfold fX12_begins_J36 at hf
    refine lv_iconst (v := (1 : Int32)) hx hb dX12_begins_36 (by decide) ?_
    exact J37 I0_j36 L0_j36 M0_j36 (1 : Int32) z36_0 H locs hP hD hS ls (lv_sub hl [0, 1] rfl) hf
  have J18 : ∀ (I0_j18 : Nat → Int32) (L0_j18 : Int64) (M0_j18 : Nat → Nat → Int32) (z18_0 : Int32) (H : Heap) (locs : List Loc), va_P D vwCl (wWX12 cB cI cZ a0 I0_j18 L0_j18 M0_j18) H → va_D A (wWX12 cB cI cZ a0 I0_j18 L0_j18 M0_j18) → va_S A s.heap H locs → ∀ (ls : Array Slot), lv_has ls 2 [(0, .ref (a0 0)), (1, .int x1)] → fX12_begins_J18 N x1 I0_j18 L0_j18 M0_j18 z18_0 = some R → W p l e (headSpec wsX12_begins { frames := 2, cells := 0, slots := 0, locals := 42 }).room s m [.ref (a0 0), .int x1].toArray below meth c H locs 0 0 (MQ below (va_Qi (fun r (_ : Unit) => r = R.1) (fun _ t => wb_post D [(cB, .byte), (cI, .int), (cZ, .boolean)] A (wWX12 cB cI cZ a0 R.2.1 R.2.2.1 R.2.2.2) t) A) [.ref (a0 0), .int x1].toArray s 0 0 A) (F0 m 18 ls [.int z18_0, .ref (a0 0)]) := by
    intro I0_j18 L0_j18 M0_j18 z18_0 H locs hP hD hS ls hl hf
    unfold fX12_begins_J18 at hf
    refine lv_aload_n hx hb dX12_begins_18 rfl (lv_at hl 0 rfl) ?_
    refine va_get (D := D) (ci := 12) (v := .int (I0_j18 0)) (C := RX12) (T := TX12) (N := 58) hx hb hts hinX12 hown hK hP 0 rfl rfl 0 (by decide) (hts (.fieldLink RX12 129 "WheelBookModel" "thrown" "I") (List.mem_of_getElem? (i := 2) rfl)) (fun _ h9 => h9) rfl dX12_begins_19 ?_
    refine lv_if_ne (tgt := 36) hx hb dX12_begins_22 (by decide) (fun hc => ?_) (fun hc => ?_)
    · replace hf := wb_f hc hf
      exact J36 I0_j18 L0_j18 M0_j18 z18_0 H locs hP hD hS ls (lv_sub hl [0, 1] rfl) hf
    · replace hf := wb_t hc hf
      refine lv_aload_n hx hb dX12_begins_25 rfl (lv_at hl 0 rfl) ?_
      refine va_get (D := D) (ci := 12) (v := .int (I0_j18 12)) (C := RX12) (T := TX12) (N := 58) hx hb hts hinX12 hown hK hP 0 rfl rfl 22 (by decide) (hts (.fieldLink RX12 205 "WheelBookModel" "asksWheel" "Z") (List.mem_of_getElem? (i := 3) rfl)) (fun _ h9 => h9) rfl dX12_begins_26 ?_
      refine lv_if_eq (tgt := 36) hx hb dX12_begins_29 (by decide) (fun hc => ?_) (fun hc => ?_)
      · replace hf := wb_t hc hf
        exact J36 I0_j18 L0_j18 M0_j18 z18_0 H locs hP hD hS ls (lv_sub hl [0, 1] rfl) hf
      · replace hf := wb_f hc hf
        refine lv_iconst (v := (2 : Int32)) hx hb dX12_begins_32 (by decide) ?_
        refine lv_goto (tgt := 37) hx hb dX12_begins_33 (by decide) ?_
        exact J37 I0_j18 L0_j18 M0_j18 (2 : Int32) z18_0 H locs hP hD hS ls (lv_sub hl [0, 1] rfl) hf
  have J17 : ∀ (I0_j17 : Nat → Int32) (L0_j17 : Int64) (M0_j17 : Nat → Nat → Int32) (H : Heap) (locs : List Loc), va_P D vwCl (wWX12 cB cI cZ a0 I0_j17 L0_j17 M0_j17) H → va_D A (wWX12 cB cI cZ a0 I0_j17 L0_j17 M0_j17) → va_S A s.heap H locs → ∀ (ls : Array Slot), lv_has ls 2 [(0, .ref (a0 0)), (1, .int x1)] → fX12_begins_J17 N x1 I0_j17 L0_j17 M0_j17 = some R → W p l e (headSpec wsX12_begins { frames := 2, cells := 0, slots := 0, locals := 42 }).room s m [.ref (a0 0), .int x1].toArray below meth c H locs 0 0 (MQ below (va_Qi (fun r (_ : Unit) => r = R.1) (fun _ t => wb_post D [(cB, .byte), (cI, .int), (cZ, .boolean)] A (wWX12 cB cI cZ a0 R.2.1 R.2.2.1 R.2.2.2) t) A) [.ref (a0 0), .int x1].toArray s 0 0 A) (F0 m 17 ls [.ref (a0 0)]) := by
    intro I0_j17 L0_j17 M0_j17 H locs hP hD hS ls hl hf
    unfold fX12_begins_J17 at hf
    refine lv_iconst (v := (0 : Int32)) hx hb dX12_begins_17 (by decide) ?_
    exact J18 I0_j17 L0_j17 M0_j17 (0 : Int32) H locs hP hD hS ls (lv_sub hl [0, 1] rfl) hf
  refine lv_aload_n hx hb dX12_begins_0 rfl (lv_at hl 0 rfl) ?_
  refine lv_iload_n hx hb dX12_begins_1 rfl (lv_at hl 1 rfl) ?_
  refine lv_if_lt (tgt := 17) hx hb dX12_begins_2 (by decide) (fun hc => ?_) (fun hc => ?_)
  · replace hf := wb_t hc hf
    exact J17 I0 L0 M0 H locs hP hD hS ls (lv_sub hl [0, 1] rfl) hf
  · replace hf := wb_f hc hf
    refine lv_iload_n hx hb dX12_begins_5 rfl (lv_at hl 1 rfl) ?_
    refine lv_aload_n hx hb dX12_begins_6 rfl (lv_at hl 0 rfl) ?_
    refine va_get (D := D) (ci := 12) (v := .int (I0 3)) (C := RX12) (T := TX12) (N := 58) hx hb hts hinX12 hown hK hP 0 rfl rfl 12 (by decide) (hts (.fieldLink RX12 132 "WheelBookModel" "taped" "I") (List.mem_of_getElem? (i := 1) rfl)) (fun _ h9 => h9) rfl dX12_begins_7 ?_
    refine lv_icmp_gt (tgt := 17) hx hb dX12_begins_10 (by decide) (fun hc => ?_) (fun hc => ?_)
    · replace hf := wb_t hc hf
      exact J17 I0 L0 M0 H locs hP hD hS ls (lv_sub hl [0, 1] rfl) hf
    · replace hf := wb_f hc hf
      refine lv_iconst (v := (1 : Int32)) hx hb dX12_begins_13 (by decide) ?_
      refine lv_goto (tgt := 18) hx hb dX12_begins_14 (by decide) ?_
      exact J18 I0 L0 M0 (1 : Int32) H locs hP hD hS ls (lv_sub hl [0, 1] rfl) hf

set_option maxHeartbeats 4000000 in
set_option maxRecDepth 100000 in
theorem cn_X12_readsSet (l : Launch) (D : va_G) (cB cI cZ : ClassId) (N : Nat) (a0 : Nat → Nat) (I0 : Nat → Int32) (L0 : Int64) (M0 : Nat → Nat → Int32) (sz : Nat) (R : (Nat → Int32) × Int64 × (Nat → Nat → Int32)) (hf : fX12_readsSet N I0 L0 M0 = some R) : Met l yX12_readsSet wsX12_readsSet ({ frames := 4, cells := 0, slots := 0, locals := 92 }) (va_Pc [.ref (a0 0)] (wb_preD D [(cB, .byte), (cI, .int), (cZ, .boolean)] (wWX12 cB cI cZ a0 I0 L0 M0) sz)) (va_Qv (fun _ : Unit => True) (fun _ t => wb_post D [(cB, .byte), (cI, .int), (cZ, .boolean)] (va_A (wWX12 cB cI cZ a0 I0 L0 M0) sz) (wWX12 cB cI cZ a0 R.1 R.2.1 R.2.2) t) (va_A (wWX12 cB cI cZ a0 I0 L0 M0) sz)) 0 0 (va_A (wWX12 cB cI cZ a0 I0 L0 M0) sz) := by
  refine Met.ofW (cc := cX12_readsSet) (maxL := 7) (ret := none) pn_X12 rfl ?_
  intro p e s m args below meth c s₁ B hml hv
  obtain ⟨rfl, hsz, hP, hK, hD0⟩ := hv
  have hx := B.exec
  have hb := B.bytes
  have hr := B.returns
  have hts := atoms_spec (ws := wsX12_readsSet) B.pre
  have hown : s.vm.findClass RX12 = some m.cls := (findClass_of_methodNamed B.named :)
  have hlocks := B.notSynchronized
  have hinX12 : ∀ w ∈ u_ws RX12 TX12 58, w ∈ wsX12_readsSet := fun w h => List.mem_cons_of_mem _ (List.mem_append_right _ h)
  subst hsz
  have hD := hD0.self (sz := s.heap.size)
  generalize hAe : va_A (wWX12 cB cI cZ a0 I0 L0 M0) s.heap.size = A at hD ⊢
  have hA : ∀ q : Nat, s.heap.size ≤ q → A q := fun q h => by rw [← hAe]; exact Or.inr h
  have hS : va_S A s.heap s.heap [] := va_S.rf
  have hl := lv_entry ([.ref (a0 0)]) (n := 7) (Nat.le_of_ble_eq_true rfl)
  rw [lg_entry_eq]
  generalize (lg_sl ([.ref (a0 0)]) ++ List.replicate (7 - (lg_sl ([.ref (a0 0)])).length) Slot.unset).toArray = ls at hl ⊢
  have hl : lv_has ls 7 [(0, .ref (a0 0))] := hl
  unfold fX12_readsSet at hf
  obtain ⟨H, hHe⟩ : ∃ H : Heap, H = s.heap := ⟨_, rfl⟩
  obtain ⟨locs, hle⟩ : ∃ locs : List Loc, locs = [] := ⟨_, rfl⟩
  refine wb_start (H := H) (locs := locs) hHe hle ?_
  rw [← hHe] at hP
  have hS : va_S A s.heap H locs := by rw [hHe, hle]; exact va_S.rf
  have J102 : ∀ (I0_j102 : Nat → Int32) (L0_j102 : Int64) (M0_j102 : Nat → Nat → Int32) (y102_1 : Int32) (y102_2 : Int32) (y102_3 : Int32) (y102_4 : Int32) (y102_5 : Int32) (y102_6 : Int32) (H : Heap) (locs : List Loc), va_P D vwCl (wWX12 cB cI cZ a0 I0_j102 L0_j102 M0_j102) H → va_D A (wWX12 cB cI cZ a0 I0_j102 L0_j102 M0_j102) → va_S A s.heap H locs → ∀ (ls : Array Slot), lv_has ls 7 [(0, .ref (a0 0)), (1, .int y102_1), (2, .int y102_2), (3, .int y102_3), (4, .int y102_4), (5, .int y102_5), (6, .int y102_6)] → fX12_readsSet_J102 N I0_j102 L0_j102 M0_j102 y102_1 y102_2 y102_3 y102_4 y102_5 y102_6 = some R → W p l e (headSpec wsX12_readsSet { frames := 4, cells := 0, slots := 0, locals := 92 }).room s m [.ref (a0 0)].toArray below meth c H locs 0 0 (MQ below (va_Qv (fun _ : Unit => True) (fun _ t => wb_post D [(cB, .byte), (cI, .int), (cZ, .boolean)] A (wWX12 cB cI cZ a0 R.1 R.2.1 R.2.2) t) A) [.ref (a0 0)].toArray s 0 0 A) (F0 m 102 ls []) := by
    intro I0_j102 L0_j102 M0_j102 y102_1 y102_2 y102_3 y102_4 y102_5 y102_6 H locs hP hD hS ls hl hf
    unfold fX12_readsSet_J102 at hf
    refine lv_aload_n hx hb dX12_readsSet_102 rfl (lv_at hl 0 rfl) ?_
    obtain ⟨r1, hr1, hf⟩ := wb_b hf
    refine vp_callSi (W.runV (As := []) (rest := []) ⟨hx, hb, hml, hown, hts⟩ (cn_X12_isGood l D cB cI cZ N a0 I0_j102 L0_j102 M0_j102 r1 hr1) (cwV 0 hts gX12_readsSet_X12_isGood rfl rfl rfl cdX12_isGood ⟨Nat.le_of_ble_eq_true rfl, Nat.le_of_ble_eq_true rfl⟩) (wb_preV hP hK (wr_12 hK hP (q0 := 0) rfl)) rfl rfl hl.1 rfl (lv_room (Nat.le_of_ble_eq_true rfl)) dX12_readsSet_103 ⟨Nat.le_of_ble_eq_true rfl, Nat.le_of_ble_eq_true rfl⟩) (fun r9 e9 => ?_)
    rw [e9]
    refine lv_if_ne (tgt := 110) hx hb dX12_readsSet_106 (by decide) (fun hc => ?_) (fun hc => ?_)
    · replace hf := wb_f hc hf
      refine lv_aload_n hx hb dX12_readsSet_110 rfl (lv_at hl 0 rfl) ?_
      refine va_get (D := D) (ci := 12) (v := .ref (a0 10)) (C := RX12) (T := TX12) (N := 58) hx hb hts hinX12 hown hK hP 0 rfl rfl 25 (by decide) (hts (.fieldLink RX12 41 "WheelBookModel" "newStarts" "[I") (List.mem_of_getElem? (i := 3) rfl)) (fun _ h9 => h9) rfl dX12_readsSet_111 ?_
      refine lv_bipush (v := (7 : Int32)) hx hb dX12_readsSet_114 (by decide) ?_
      refine lv_iload_n hx hb dX12_readsSet_116 rfl (lv_at hl 1 rfl) ?_
      refine lv_imul hx hb dX12_readsSet_117 ?_
      refine lv_iload_n hx hb dX12_readsSet_118 rfl (lv_at hl 2 rfl) ?_
      refine lv_iadd hx hb dX12_readsSet_119 ?_
      refine lv_iload_n hx hb dX12_readsSet_120 rfl (lv_at hl 3 rfl) ?_
      obtain ⟨hin, hf⟩ := wb_n hf
      refine va_iast hx hb hK hP hD hS 10 1 rfl rfl hin dX12_readsSet_121 (fun H locs hP hD hS => ?_)
      have hP : va_P D vwCl (wWX12 cB cI cZ a0 I0_j102 L0_j102 (wb_um M0_j102 9 ((((7 : Int32) * y102_1) + y102_2)).toNatClampNeg y102_3)) H := hP
      have hD : va_D A (wWX12 cB cI cZ a0 I0_j102 L0_j102 (wb_um M0_j102 9 ((((7 : Int32) * y102_1) + y102_2)).toNatClampNeg y102_3)) := hD
      obtain ⟨M0_2, eM0_2, hf⟩ := wb_v hf
      rw [← eM0_2] at hP hD
      refine lv_aload_n hx hb dX12_readsSet_122 rfl (lv_at hl 0 rfl) ?_
      refine va_get (D := D) (ci := 12) (v := .ref (a0 11)) (C := RX12) (T := TX12) (N := 58) hx hb hts hinX12 hown hK hP 0 rfl rfl 26 (by decide) (hts (.fieldLink RX12 44 "WheelBookModel" "newGoes" "[I") (List.mem_of_getElem? (i := 4) rfl)) (fun _ h9 => h9) rfl dX12_readsSet_123 ?_
      refine lv_bipush (v := (7 : Int32)) hx hb dX12_readsSet_126 (by decide) ?_
      refine lv_iload_n hx hb dX12_readsSet_128 rfl (lv_at hl 1 rfl) ?_
      refine lv_imul hx hb dX12_readsSet_129 ?_
      refine lv_iload_n hx hb dX12_readsSet_130 rfl (lv_at hl 2 rfl) ?_
      refine lv_iadd hx hb dX12_readsSet_131 ?_
      refine lv_iload hx hb dX12_readsSet_132 (lv_at hl 4 rfl) ?_
      obtain ⟨hin, hf⟩ := wb_n hf
      refine va_iast hx hb hK hP hD hS 11 1 rfl rfl hin dX12_readsSet_134 (fun H locs hP hD hS => ?_)
      have hP : va_P D vwCl (wWX12 cB cI cZ a0 I0_j102 L0_j102 (wb_um M0_2 10 ((((7 : Int32) * y102_1) + y102_2)).toNatClampNeg y102_4)) H := hP
      have hD : va_D A (wWX12 cB cI cZ a0 I0_j102 L0_j102 (wb_um M0_2 10 ((((7 : Int32) * y102_1) + y102_2)).toNatClampNeg y102_4)) := hD
      obtain ⟨M0_3, eM0_3, hf⟩ := wb_v hf
      rw [← eM0_3] at hP hD
      refine lv_aload_n hx hb dX12_readsSet_135 rfl (lv_at hl 0 rfl) ?_
      refine va_get (D := D) (ci := 12) (v := .ref (a0 12)) (C := RX12) (T := TX12) (N := 58) hx hb hts hinX12 hown hK hP 0 rfl rfl 27 (by decide) (hts (.fieldLink RX12 47 "WheelBookModel" "newSwing" "[I") (List.mem_of_getElem? (i := 5) rfl)) (fun _ h9 => h9) rfl dX12_readsSet_136 ?_
      refine lv_bipush (v := (7 : Int32)) hx hb dX12_readsSet_139 (by decide) ?_
      refine lv_iload_n hx hb dX12_readsSet_141 rfl (lv_at hl 1 rfl) ?_
      refine lv_imul hx hb dX12_readsSet_142 ?_
      refine lv_iload_n hx hb dX12_readsSet_143 rfl (lv_at hl 2 rfl) ?_
      refine lv_iadd hx hb dX12_readsSet_144 ?_
      refine lv_iload hx hb dX12_readsSet_145 (lv_at hl 5 rfl) ?_
      obtain ⟨hin, hf⟩ := wb_n hf
      refine va_iast hx hb hK hP hD hS 12 1 rfl rfl hin dX12_readsSet_147 (fun H locs hP hD hS => ?_)
      have hP : va_P D vwCl (wWX12 cB cI cZ a0 I0_j102 L0_j102 (wb_um M0_3 11 ((((7 : Int32) * y102_1) + y102_2)).toNatClampNeg y102_5)) H := hP
      have hD : va_D A (wWX12 cB cI cZ a0 I0_j102 L0_j102 (wb_um M0_3 11 ((((7 : Int32) * y102_1) + y102_2)).toNatClampNeg y102_5)) := hD
      obtain ⟨M0_4, eM0_4, hf⟩ := wb_v hf
      rw [← eM0_4] at hP hD
      refine lv_aload_n hx hb dX12_readsSet_148 rfl (lv_at hl 0 rfl) ?_
      refine va_get (D := D) (ci := 12) (v := .ref (a0 13)) (C := RX12) (T := TX12) (N := 58) hx hb hts hinX12 hown hK hP 0 rfl rfl 28 (by decide) (hts (.fieldLink RX12 50 "WheelBookModel" "newPeriod" "[I") (List.mem_of_getElem? (i := 6) rfl)) (fun _ h9 => h9) rfl dX12_readsSet_149 ?_
      refine lv_bipush (v := (7 : Int32)) hx hb dX12_readsSet_152 (by decide) ?_
      refine lv_iload_n hx hb dX12_readsSet_154 rfl (lv_at hl 1 rfl) ?_
      refine lv_imul hx hb dX12_readsSet_155 ?_
      refine lv_iload_n hx hb dX12_readsSet_156 rfl (lv_at hl 2 rfl) ?_
      refine lv_iadd hx hb dX12_readsSet_157 ?_
      refine lv_iload hx hb dX12_readsSet_158 (lv_at hl 6 rfl) ?_
      obtain ⟨hin, hf⟩ := wb_n hf
      refine va_iast hx hb hK hP hD hS 13 1 rfl rfl hin dX12_readsSet_160 (fun H locs hP hD hS => ?_)
      have hP : va_P D vwCl (wWX12 cB cI cZ a0 I0_j102 L0_j102 (wb_um M0_4 12 ((((7 : Int32) * y102_1) + y102_2)).toNatClampNeg y102_6)) H := hP
      have hD : va_D A (wWX12 cB cI cZ a0 I0_j102 L0_j102 (wb_um M0_4 12 ((((7 : Int32) * y102_1) + y102_2)).toNatClampNeg y102_6)) := hD
      obtain ⟨M0_5, eM0_5, hf⟩ := wb_v hf
      rw [← eM0_5] at hP hD
      exact W.vret hx hb hr (fun t ht hW => by rw [← Option.some.inj hf]; exact ⟨⟨(), rfl, trivial, by rw [ht]; exact hP, va_K.moved hW.alike hK, hD⟩, hS.F ht⟩) hS.2.2 dX12_readsSet_161
    · replace hf := wb_t hc hf
      exact W.vret hx hb hr (fun t ht hW => by rw [← Option.some.inj hf]; exact ⟨⟨(), rfl, trivial, by rw [ht]; exact hP, va_K.moved hW.alike hK, hD⟩, hS.F ht⟩) hS.2.2 dX12_readsSet_109
  have J32 : ∀ (I0_j32 : Nat → Int32) (L0_j32 : Int64) (M0_j32 : Nat → Nat → Int32) (y32_1 : Int32) (y32_2 : Int32) (z32_0 : Int32) (H : Heap) (locs : List Loc), va_P D vwCl (wWX12 cB cI cZ a0 I0_j32 L0_j32 M0_j32) H → va_D A (wWX12 cB cI cZ a0 I0_j32 L0_j32 M0_j32) → va_S A s.heap H locs → ∀ (ls : Array Slot), lv_has ls 7 [(0, .ref (a0 0)), (1, .int y32_1), (2, .int y32_2)] → fX12_readsSet_J32 N I0_j32 L0_j32 M0_j32 y32_1 y32_2 z32_0 = some R → W p l e (headSpec wsX12_readsSet { frames := 4, cells := 0, slots := 0, locals := 92 }).room s m [.ref (a0 0)].toArray below meth c H locs 0 0 (MQ below (va_Qv (fun _ : Unit => True) (fun _ t => wb_post D [(cB, .byte), (cI, .int), (cZ, .boolean)] A (wWX12 cB cI cZ a0 R.1 R.2.1 R.2.2) t) A) [.ref (a0 0)].toArray s 0 0 A) (F0 m 32 ls [.int z32_0, .ref (a0 0)]) := by
    intro I0_j32 L0_j32 M0_j32 y32_1 y32_2 z32_0 H locs hP hD hS ls hl hf
    unfold fX12_readsSet_J32 at hf
    obtain ⟨r6, hr6, hf⟩ := wb_b hf
    have hPc := hP
    have hDc := hD
    have hFc := wj_F hDc hS hA
    refine va_callv (va_runV (As := [.int z32_0]) (rest := []) ⟨hx, hb, hml, hown, hts⟩ (cn_X12_need l D cB cI cZ N a0 I0_j32 L0_j32 M0_j32 z32_0 H.size r6 hr6) (cwV 1 hts gX12_readsSet_X12_need rfl rfl rfl cdX12_need ⟨Nat.le_of_ble_eq_true rfl, Nat.le_of_ble_eq_true rfl⟩) (wb_preDV hPc hK hDc (wr_12 hK hP (q0 := 0) rfl)) rfl rfl hl.1 rfl (lv_room (Nat.le_of_ble_eq_true rfl)) dX12_readsSet_32 ⟨Nat.le_of_ble_eq_true rfl, Nat.le_of_ble_eq_true rfl⟩) hS (fun q _ h => hFc q h) hFc (fun u t H locs ht hvm hw hB hz1 hk1 hS => ?_)
    obtain ⟨hP, hD⟩ := wj_0 hFc ht hB
    refine lv_aload_n hx hb dX12_readsSet_35 rfl (lv_at hl 0 rfl) ?_
    refine lv_bipush (v := (12 : Int32)) hx hb dX12_readsSet_36 (by decide) ?_
    refine lv_iconst (v := (0 : Int32)) hx hb dX12_readsSet_38 (by decide) ?_
    refine lv_sipush (v := (21599 : Int32)) hx hb dX12_readsSet_39 (by decide) ?_
    obtain ⟨r7, hr7, hf⟩ := wb_b hf
    have hPc := hP
    have hDc := hD
    have hFc := wj_F hDc hS hA
    refine va_calli (va_runV (As := [.int (12 : Int32), .int (0 : Int32), .int (21599 : Int32)]) (rest := []) ⟨hx, hb, hml, hown, hts⟩ (cn_X12_named l D cB cI cZ N a0 r6.1 r6.2.1 r6.2.2 (12 : Int32) (0 : Int32) (21599 : Int32) H.size r7 hr7) (cwV 3 hts gX12_readsSet_X12_named rfl rfl rfl cdX12_named ⟨Nat.le_of_ble_eq_true rfl, Nat.le_of_ble_eq_true rfl⟩) (wb_preDV hPc hK hDc (wr_12 hK hP (q0 := 0) rfl)) rfl rfl hl.1 rfl (lv_room (Nat.le_of_ble_eq_true rfl)) dX12_readsSet_42 ⟨Nat.le_of_ble_eq_true rfl, Nat.le_of_ble_eq_true rfl⟩) hS (fun q _ h => hFc q h) hFc (fun r9 u t H locs ht hvm hw hB hz1 hk1 hS => ?_)
    obtain ⟨hP, hD⟩ := wj_0 hFc ht hB
    rw [hw]
    obtain ⟨v8, ev8, hf⟩ := wb_v hf
    refine wb_topi ev8 ?_
    refine lv_istore_n (lv' := [(3, .int v8), (0, .ref (a0 0)), (1, .int y32_1), (2, .int y32_2)]) hx hb dX12_readsSet_45 rfl hl (by decide) rfl (fun ls hl => ?_)
    refine lv_aload_n hx hb dX12_readsSet_46 rfl (lv_at hl 1 rfl) ?_
    refine lv_bipush (v := (13 : Int32)) hx hb dX12_readsSet_47 (by decide) ?_
    refine lv_iconst (v := (0 : Int32)) hx hb dX12_readsSet_49 (by decide) ?_
    refine lv_ldc (v := (2000000 : Int32)) hx hb hown (hts (.constant RX12 217 (2000000)) (List.mem_of_getElem? (i := 1) rfl)) dX12_readsSet_50 ?_
    obtain ⟨r9b, hr9b, hf⟩ := wb_b hf
    have hPc := hP
    have hDc := hD
    have hFc := wj_F hDc hS hA
    refine va_calli (va_runV (As := [.int (13 : Int32), .int (0 : Int32), .int (2000000 : Int32)]) (rest := []) ⟨hx, hb, hml, hown, hts⟩ (cn_X12_named l D cB cI cZ N a0 r7.2.1 r7.2.2.1 r7.2.2.2 (13 : Int32) (0 : Int32) (2000000 : Int32) H.size r9b hr9b) (cwV 3 hts gX12_readsSet_X12_named rfl rfl rfl cdX12_named ⟨Nat.le_of_ble_eq_true rfl, Nat.le_of_ble_eq_true rfl⟩) (wb_preDV hPc hK hDc (wr_12 hK hP (q0 := 0) rfl)) rfl rfl hl.1 rfl (lv_room (Nat.le_of_ble_eq_true rfl)) dX12_readsSet_52 ⟨Nat.le_of_ble_eq_true rfl, Nat.le_of_ble_eq_true rfl⟩) hS (fun q _ h => hFc q h) hFc (fun r9 u t H locs ht hvm hw hB hz1 hk1 hS => ?_)
    obtain ⟨hP, hD⟩ := wj_0 hFc ht hB
    rw [hw]
    obtain ⟨v10, ev10, hf⟩ := wb_v hf
    refine wb_topi ev10 ?_
    refine lv_istore (lv' := [(4, .int v10), (3, .int v8), (0, .ref (a0 0)), (1, .int y32_1), (2, .int y32_2)]) hx hb dX12_readsSet_55 hl (by decide) rfl (fun ls hl => ?_)
    refine lv_iconst (v := (0 : Int32)) hx hb dX12_readsSet_57 (by decide) ?_
    refine lv_istore (lv' := [(5, .int (0 : Int32)), (4, .int v10), (3, .int v8), (0, .ref (a0 0)), (1, .int y32_1), (2, .int y32_2)]) hx hb dX12_readsSet_58 hl (by decide) rfl (fun ls hl => ?_)
    refine lv_iconst (v := (1 : Int32)) hx hb dX12_readsSet_60 (by decide) ?_
    refine lv_istore (lv' := [(6, .int (1 : Int32)), (5, .int (0 : Int32)), (4, .int v10), (3, .int v8), (0, .ref (a0 0)), (1, .int y32_1), (2, .int y32_2)]) hx hb dX12_readsSet_61 hl (by decide) rfl (fun ls hl => ?_)
    refine lv_aload_n hx hb dX12_readsSet_63 rfl (lv_at hl 4 rfl) ?_
    obtain ⟨r11, hr11, hf⟩ := wb_b hf
    refine vp_callSi (W.runV (As := []) (rest := []) ⟨hx, hb, hml, hown, hts⟩ (cn_X12_isGood l D cB cI cZ N a0 r9b.2.1 r9b.2.2.1 r9b.2.2.2 r11 hr11) (cwV 0 hts gX12_readsSet_X12_isGood rfl rfl rfl cdX12_isGood ⟨Nat.le_of_ble_eq_true rfl, Nat.le_of_ble_eq_true rfl⟩) (wb_preV hP hK (wr_12 hK hP (q0 := 0) rfl)) rfl rfl hl.1 rfl (lv_room (Nat.le_of_ble_eq_true rfl)) dX12_readsSet_64 ⟨Nat.le_of_ble_eq_true rfl, Nat.le_of_ble_eq_true rfl⟩) (fun r9 e9 => ?_)
    rw [e9]
    refine lv_if_eq (tgt := 102) hx hb dX12_readsSet_67 (by decide) (fun hc => ?_) (fun hc => ?_)
    · replace hf := wb_t hc hf
      exact J102 r9b.2.1 r9b.2.2.1 r9b.2.2.2 y32_1 y32_2 v8 v10 (0 : Int32) (1 : Int32) H locs hP hD hS ls (lv_sub hl [4, 5, 6, 3, 2, 1, 0] rfl) hf
    · replace hf := wb_f hc hf
      refine lv_aload_n hx hb dX12_readsSet_70 rfl (lv_at hl 4 rfl) ?_
      obtain ⟨r12, hr12, hf⟩ := wb_b hf
      refine vp_callSi (W.runV (As := []) (rest := []) ⟨hx, hb, hml, hown, hts⟩ (cn_X12_knownWord l D cB cI cZ N a0 r9b.2.1 r9b.2.2.1 r9b.2.2.2 r12 hr12) (cwV 0 hts gX12_readsSet_X12_knownWord rfl rfl rfl cdX12_knownWord ⟨Nat.le_of_ble_eq_true rfl, Nat.le_of_ble_eq_true rfl⟩) (wb_preV hP hK (wr_12 hK hP (q0 := 0) rfl)) rfl rfl hl.1 rfl (lv_room (Nat.le_of_ble_eq_true rfl)) dX12_readsSet_71 ⟨Nat.le_of_ble_eq_true rfl, Nat.le_of_ble_eq_true rfl⟩) (fun r9 e9 => ?_)
      rw [e9]
      refine lv_bipush (v := (14 : Int32)) hx hb dX12_readsSet_74 (by decide) ?_
      refine lv_icmp_ne (tgt := 102) hx hb dX12_readsSet_76 (by decide) (fun hc => ?_) (fun hc => ?_)
      · replace hf := wb_f hc hf
        exact J102 r9b.2.1 r9b.2.2.1 r9b.2.2.2 y32_1 y32_2 v8 v10 (0 : Int32) (1 : Int32) H locs hP hD hS ls (lv_sub hl [4, 5, 6, 3, 2, 1, 0] rfl) hf
      · replace hf := wb_t hc hf
        refine lv_aload_n hx hb dX12_readsSet_79 rfl (lv_at hl 4 rfl) ?_
        refine lv_bipush (v := (14 : Int32)) hx hb dX12_readsSet_80 (by decide) ?_
        refine lv_iconst (v := (0 : Int32)) hx hb dX12_readsSet_82 (by decide) ?_
        refine lv_sipush (v := (10800 : Int32)) hx hb dX12_readsSet_83 (by decide) ?_
        obtain ⟨r13, hr13, hf⟩ := wb_b hf
        have hPc := hP
        have hDc := hD
        have hFc := wj_F hDc hS hA
        refine va_calli (va_runV (As := [.int (14 : Int32), .int (0 : Int32), .int (10800 : Int32)]) (rest := []) ⟨hx, hb, hml, hown, hts⟩ (cn_X12_named l D cB cI cZ N a0 r9b.2.1 r9b.2.2.1 r9b.2.2.2 (14 : Int32) (0 : Int32) (10800 : Int32) H.size r13 hr13) (cwV 3 hts gX12_readsSet_X12_named rfl rfl rfl cdX12_named ⟨Nat.le_of_ble_eq_true rfl, Nat.le_of_ble_eq_true rfl⟩) (wb_preDV hPc hK hDc (wr_12 hK hP (q0 := 0) rfl)) rfl rfl hl.1 rfl (lv_room (Nat.le_of_ble_eq_true rfl)) dX12_readsSet_86 ⟨Nat.le_of_ble_eq_true rfl, Nat.le_of_ble_eq_true rfl⟩) hS (fun q _ h => hFc q h) hFc (fun r9 u t H locs ht hvm hw hB hz1 hk1 hS => ?_)
        obtain ⟨hP, hD⟩ := wj_0 hFc ht hB
        rw [hw]
        obtain ⟨v14, ev14, hf⟩ := wb_v hf
        refine wb_topi ev14 ?_
        refine lv_istore (lv' := [(5, .int v14), (6, .int (1 : Int32)), (4, .int v10), (3, .int v8), (0, .ref (a0 0)), (1, .int y32_1), (2, .int y32_2)]) hx hb dX12_readsSet_89 hl (by decide) rfl (fun ls hl => ?_)
        refine lv_aload_n hx hb dX12_readsSet_91 rfl (lv_at hl 4 rfl) ?_
        refine lv_bipush (v := (15 : Int32)) hx hb dX12_readsSet_92 (by decide) ?_
        refine lv_iconst (v := (2 : Int32)) hx hb dX12_readsSet_94 (by decide) ?_
        refine lv_ldc (v := (1000000 : Int32)) hx hb hown (hts (.constant RX12 218 (1000000)) (List.mem_of_getElem? (i := 2) rfl)) dX12_readsSet_95 ?_
        obtain ⟨r15, hr15, hf⟩ := wb_b hf
        have hPc := hP
        have hDc := hD
        have hFc := wj_F hDc hS hA
        refine va_calli (va_runV (As := [.int (15 : Int32), .int (2 : Int32), .int (1000000 : Int32)]) (rest := []) ⟨hx, hb, hml, hown, hts⟩ (cn_X12_named l D cB cI cZ N a0 r13.2.1 r13.2.2.1 r13.2.2.2 (15 : Int32) (2 : Int32) (1000000 : Int32) H.size r15 hr15) (cwV 3 hts gX12_readsSet_X12_named rfl rfl rfl cdX12_named ⟨Nat.le_of_ble_eq_true rfl, Nat.le_of_ble_eq_true rfl⟩) (wb_preDV hPc hK hDc (wr_12 hK hP (q0 := 0) rfl)) rfl rfl hl.1 rfl (lv_room (Nat.le_of_ble_eq_true rfl)) dX12_readsSet_97 ⟨Nat.le_of_ble_eq_true rfl, Nat.le_of_ble_eq_true rfl⟩) hS (fun q _ h => hFc q h) hFc (fun r9 u t H locs ht hvm hw hB hz1 hk1 hS => ?_)
        obtain ⟨hP, hD⟩ := wj_0 hFc ht hB
        rw [hw]
        obtain ⟨v16, ev16, hf⟩ := wb_v hf
        refine wb_topi ev16 ?_
        refine lv_istore (lv' := [(6, .int v16), (5, .int v14), (4, .int v10), (3, .int v8), (0, .ref (a0 0)), (1, .int y32_1), (2, .int y32_2)]) hx hb dX12_readsSet_100 hl (by decide) rfl (fun ls hl => ?_)
        exact J102 r15.2.1 r15.2.2.1 r15.2.2.2 y32_1 y32_2 v8 v10 v14 v16 H locs hP hD hS ls (lv_sub hl [4, 5, 6, 3, 2, 1, 0] rfl) hf
  have J31 : ∀ (I0_j31 : Nat → Int32) (L0_j31 : Int64) (M0_j31 : Nat → Nat → Int32) (y31_1 : Int32) (y31_2 : Int32) (H : Heap) (locs : List Loc), va_P D vwCl (wWX12 cB cI cZ a0 I0_j31 L0_j31 M0_j31) H → va_D A (wWX12 cB cI cZ a0 I0_j31 L0_j31 M0_j31) → va_S A s.heap H locs → ∀ (ls : Array Slot), lv_has ls 7 [(0, .ref (a0 0)), (1, .int y31_1), (2, .int y31_2)] → fX12_readsSet_J31 N I0_j31 L0_j31 M0_j31 y31_1 y31_2 = some R → W p l e (headSpec wsX12_readsSet { frames := 4, cells := 0, slots := 0, locals := 92 }).room s m [.ref (a0 0)].toArray below meth c H locs 0 0 (MQ below (va_Qv (fun _ : Unit => True) (fun _ t => wb_post D [(cB, .byte), (cI, .int), (cZ, .boolean)] A (wWX12 cB cI cZ a0 R.1 R.2.1 R.2.2) t) A) [.ref (a0 0)].toArray s 0 0 A) (F0 m 31 ls [.ref (a0 0)]) := by
    intro I0_j31 L0_j31 M0_j31 y31_1 y31_2 H locs hP hD hS ls hl hf
    unfold fX12_readsSet_J31 at hf
    refine lv_iconst (v := (0 : Int32)) hx hb dX12_readsSet_31 (by decide) ?_
    exact J32 I0_j31 L0_j31 M0_j31 y31_1 y31_2 (0 : Int32) H locs hP hD hS ls (lv_sub hl [0, 1, 2] rfl) hf
  refine lv_aload_n hx hb dX12_readsSet_0 rfl (lv_at hl 0 rfl) ?_
  obtain ⟨r17, hr17, hf⟩ := wb_b hf
  have hPc := hP
  have hDc := hD
  have hFc := wj_F hDc hS hA
  refine va_callv (va_runV (As := []) (rest := []) ⟨hx, hb, hml, hown, hts⟩ (cn_X12_steps l D cB cI cZ N a0 I0 L0 M0 H.size r17 hr17) (cwV 0 hts gX12_readsSet_X12_steps rfl rfl rfl cdX12_steps ⟨Nat.le_of_ble_eq_true rfl, Nat.le_of_ble_eq_true rfl⟩) (wb_preDV hPc hK hDc (wr_12 hK hP (q0 := 0) rfl)) rfl rfl hl.1 rfl (lv_room (Nat.le_of_ble_eq_true rfl)) dX12_readsSet_1 ⟨Nat.le_of_ble_eq_true rfl, Nat.le_of_ble_eq_true rfl⟩) hS (fun q _ h => hFc q h) hFc (fun u t H locs ht hvm hw hB hz1 hk1 hS => ?_)
  obtain ⟨hP, hD⟩ := wj_0 hFc ht hB
  refine lv_aload_n hx hb dX12_readsSet_4 rfl (lv_at hl 0 rfl) ?_
  refine lv_iconst (v := (0 : Int32)) hx hb dX12_readsSet_5 (by decide) ?_
  refine lv_iconst (v := (3 : Int32)) hx hb dX12_readsSet_6 (by decide) ?_
  obtain ⟨r18, hr18, hf⟩ := wb_b hf
  have hPc := hP
  have hDc := hD
  have hFc := wj_F hDc hS hA
  refine va_calli (va_runV (As := [.int (0 : Int32), .int (3 : Int32)]) (rest := []) ⟨hx, hb, hml, hown, hts⟩ (cn_X12_number l D cB cI cZ N a0 r17.1 r17.2.1 r17.2.2 (0 : Int32) (3 : Int32) H.size r18 hr18) (cwV 2 hts gX12_readsSet_X12_number rfl rfl rfl cdX12_number ⟨Nat.le_of_ble_eq_true rfl, Nat.le_of_ble_eq_true rfl⟩) (wb_preDV hPc hK hDc (wr_12 hK hP (q0 := 0) rfl)) rfl rfl hl.1 rfl (lv_room (Nat.le_of_ble_eq_true rfl)) dX12_readsSet_7 ⟨Nat.le_of_ble_eq_true rfl, Nat.le_of_ble_eq_true rfl⟩) hS (fun q _ h => hFc q h) hFc (fun r9 u t H locs ht hvm hw hB hz1 hk1 hS => ?_)
  obtain ⟨hP, hD⟩ := wj_0 hFc ht hB
  rw [hw]
  obtain ⟨v19, ev19, hf⟩ := wb_v hf
  refine wb_topi ev19 ?_
  refine lv_istore_n (lv' := [(1, .int v19), (0, .ref (a0 0))]) hx hb dX12_readsSet_10 rfl hl (by decide) rfl (fun ls hl => ?_)
  refine lv_aload_n hx hb dX12_readsSet_11 rfl (lv_at hl 1 rfl) ?_
  obtain ⟨r20, hr20, hf⟩ := wb_b hf
  refine vp_callSi (W.runV (As := []) (rest := []) ⟨hx, hb, hml, hown, hts⟩ (cn_X12_knownWord l D cB cI cZ N a0 r18.2.1 r18.2.2.1 r18.2.2.2 r20 hr20) (cwV 0 hts gX12_readsSet_X12_knownWord rfl rfl rfl cdX12_knownWord ⟨Nat.le_of_ble_eq_true rfl, Nat.le_of_ble_eq_true rfl⟩) (wb_preV hP hK (wr_12 hK hP (q0 := 0) rfl)) rfl rfl hl.1 rfl (lv_room (Nat.le_of_ble_eq_true rfl)) dX12_readsSet_12 ⟨Nat.le_of_ble_eq_true rfl, Nat.le_of_ble_eq_true rfl⟩) (fun r9 e9 => ?_)
  rw [e9]
  refine lv_istore_n (lv' := [(2, .int r20), (1, .int v19), (0, .ref (a0 0))]) hx hb dX12_readsSet_15 rfl hl (by decide) rfl (fun ls hl => ?_)
  refine lv_aload_n hx hb dX12_readsSet_16 rfl (lv_at hl 2 rfl) ?_
  refine lv_iload_n hx hb dX12_readsSet_17 rfl (lv_at hl 0 rfl) ?_
  refine lv_if_lt (tgt := 31) hx hb dX12_readsSet_18 (by decide) (fun hc => ?_) (fun hc => ?_)
  · replace hf := wb_t hc hf
    exact J31 r18.2.1 r18.2.2.1 r18.2.2.2 v19 r20 H locs hP hD hS ls (lv_sub hl [2, 1, 0] rfl) hf
  · replace hf := wb_f hc hf
    refine lv_iload_n hx hb dX12_readsSet_21 rfl (lv_at hl 0 rfl) ?_
    refine lv_bipush (v := (7 : Int32)) hx hb dX12_readsSet_22 (by decide) ?_
    refine lv_icmp_ge (tgt := 31) hx hb dX12_readsSet_24 (by decide) (fun hc => ?_) (fun hc => ?_)
    · replace hf := wb_t hc hf
      exact J31 r18.2.1 r18.2.2.1 r18.2.2.2 v19 r20 H locs hP hD hS ls (lv_sub hl [2, 1, 0] rfl) hf
    · replace hf := wb_f hc hf
      refine lv_iconst (v := (1 : Int32)) hx hb dX12_readsSet_27 (by decide) ?_
      refine lv_goto (tgt := 32) hx hb dX12_readsSet_28 (by decide) ?_
      exact J32 r18.2.1 r18.2.2.1 r18.2.2.2 v19 r20 (1 : Int32) H locs hP hD hS ls (lv_sub hl [2, 1, 0] rfl) hf

set_option maxHeartbeats 4000000 in
set_option maxRecDepth 100000 in
theorem cn_X12_readsClimate (l : Launch) (D : va_G) (cB cI cZ : ClassId) (N : Nat) (a0 : Nat → Nat) (I0 : Nat → Int32) (L0 : Int64) (M0 : Nat → Nat → Int32) (sz : Nat) (R : (Nat → Int32) × Int64 × (Nat → Nat → Int32)) (hf : fX12_readsClimate N I0 L0 M0 = some R) : Met l yX12_readsClimate wsX12_readsClimate ({ frames := 3, cells := 0, slots := 0, locals := 65 }) (va_Pc [.ref (a0 0)] (wb_preD D [(cB, .byte), (cI, .int), (cZ, .boolean)] (wWX12 cB cI cZ a0 I0 L0 M0) sz)) (va_Qv (fun _ : Unit => True) (fun _ t => wb_post D [(cB, .byte), (cI, .int), (cZ, .boolean)] (va_A (wWX12 cB cI cZ a0 I0 L0 M0) sz) (wWX12 cB cI cZ a0 R.1 R.2.1 R.2.2) t) (va_A (wWX12 cB cI cZ a0 I0 L0 M0) sz)) 0 0 (va_A (wWX12 cB cI cZ a0 I0 L0 M0) sz) := by
  refine Met.ofW (cc := cX12_readsClimate) (maxL := 5) (ret := none) pn_X12 rfl ?_
  intro p e s m args below meth c s₁ B hml hv
  obtain ⟨rfl, hsz, hP, hK, hD0⟩ := hv
  have hx := B.exec
  have hb := B.bytes
  have hr := B.returns
  have hts := atoms_spec (ws := wsX12_readsClimate) B.pre
  have hown : s.vm.findClass RX12 = some m.cls := (findClass_of_methodNamed B.named :)
  have hlocks := B.notSynchronized
  have hinX12 : ∀ w ∈ u_ws RX12 TX12 58, w ∈ wsX12_readsClimate := fun w h => List.mem_cons_of_mem _ (List.mem_append_right _ h)
  subst hsz
  have hD := hD0.self (sz := s.heap.size)
  generalize hAe : va_A (wWX12 cB cI cZ a0 I0 L0 M0) s.heap.size = A at hD ⊢
  have hA : ∀ q : Nat, s.heap.size ≤ q → A q := fun q h => by rw [← hAe]; exact Or.inr h
  have hS : va_S A s.heap s.heap [] := va_S.rf
  have hl := lv_entry ([.ref (a0 0)]) (n := 5) (Nat.le_of_ble_eq_true rfl)
  rw [lg_entry_eq]
  generalize (lg_sl ([.ref (a0 0)]) ++ List.replicate (5 - (lg_sl ([.ref (a0 0)])).length) Slot.unset).toArray = ls at hl ⊢
  have hl : lv_has ls 5 [(0, .ref (a0 0))] := hl
  unfold fX12_readsClimate at hf
  obtain ⟨H, hHe⟩ : ∃ H : Heap, H = s.heap := ⟨_, rfl⟩
  obtain ⟨locs, hle⟩ : ∃ locs : List Loc, locs = [] := ⟨_, rfl⟩
  refine wb_start (H := H) (locs := locs) hHe hle ?_
  rw [← hHe] at hP
  have hS : va_S A s.heap H locs := by rw [hHe, hle]; exact va_S.rf
  have J155 : ∀ (I0_j155 : Nat → Int32) (L0_j155 : Int64) (M0_j155 : Nat → Nat → Int32) (H : Heap) (locs : List Loc), va_P D vwCl (wWX12 cB cI cZ a0 I0_j155 L0_j155 M0_j155) H → va_D A (wWX12 cB cI cZ a0 I0_j155 L0_j155 M0_j155) → va_S A s.heap H locs → ∀ (ls : Array Slot), lv_has ls 5 [(0, .ref (a0 0))] → fX12_readsClimate_J155 N I0_j155 L0_j155 M0_j155 = some R → W p l e (headSpec wsX12_readsClimate { frames := 3, cells := 0, slots := 0, locals := 65 }).room s m [.ref (a0 0)].toArray below meth c H locs 0 0 (MQ below (va_Qv (fun _ : Unit => True) (fun _ t => wb_post D [(cB, .byte), (cI, .int), (cZ, .boolean)] A (wWX12 cB cI cZ a0 R.1 R.2.1 R.2.2) t) A) [.ref (a0 0)].toArray s 0 0 A) (F0 m 155 ls []) := by
    intro I0_j155 L0_j155 M0_j155 H locs hP hD hS ls hl hf
    unfold fX12_readsClimate_J155 at hf
    refine lv_aload_n hx hb dX12_readsClimate_155 rfl (lv_at hl 0 rfl) ?_
    obtain ⟨r1, hr1, hf⟩ := wb_b hf
    refine vp_callSi (W.runV (As := []) (rest := []) ⟨hx, hb, hml, hown, hts⟩ (cn_X12_isGood l D cB cI cZ N a0 I0_j155 L0_j155 M0_j155 r1 hr1) (cwV 0 hts gX12_readsClimate_X12_isGood rfl rfl rfl cdX12_isGood ⟨Nat.le_of_ble_eq_true rfl, Nat.le_of_ble_eq_true rfl⟩) (wb_preV hP hK (wr_12 hK hP (q0 := 0) rfl)) rfl rfl hl.1 rfl (lv_room (Nat.le_of_ble_eq_true rfl)) dX12_readsClimate_156 ⟨Nat.le_of_ble_eq_true rfl, Nat.le_of_ble_eq_true rfl⟩) (fun r9 e9 => ?_)
    rw [e9]
    refine lv_if_eq (tgt := 172) hx hb dX12_readsClimate_159 (by decide) (fun hc => ?_) (fun hc => ?_)
    · replace hf := wb_t hc hf
      exact W.vret hx hb hr (fun t ht hW => by rw [← Option.some.inj hf]; exact ⟨⟨(), rfl, trivial, by rw [ht]; exact hP, va_K.moved hW.alike hK, hD⟩, hS.F ht⟩) hS.2.2 dX12_readsClimate_172
    · replace hf := wb_f hc hf
      refine lv_aload_n hx hb dX12_readsClimate_162 rfl (lv_at hl 0 rfl) ?_
      refine lv_dup hx hb dX12_readsClimate_163 rfl ?_
      refine va_get (D := D) (ci := 12) (v := .int (I0_j155 13)) (C := RX12) (T := TX12) (N := 58) hx hb hts hinX12 hown hK hP 0 rfl rfl 23 (by decide) (hts (.fieldLink RX12 219 "WheelBookModel" "newClimates" "I") (List.mem_of_getElem? (i := 1) rfl)) (fun _ h9 => h9) rfl dX12_readsClimate_164 ?_
      refine lv_iconst (v := (1 : Int32)) hx hb dX12_readsClimate_167 (by decide) ?_
      refine lv_iadd hx hb dX12_readsClimate_168 ?_
      refine va_put (D := D) (ci := 12) (v := .int ((I0_j155 13) + (1 : Int32))) (ty := .int) (C := RX12) (T := TX12) (N := 58) hx hb hts hinX12 tyX12 tyX12_ok nmX12 hown hK hP hD hS 0 rfl rfl 23 (by decide) (hts (.fieldLink RX12 219 "WheelBookModel" "newClimates" "I") (List.mem_of_getElem? (i := 1) rfl)) (fun _ h9 => h9) rfl (by decide +kernel) rfl rfl (Nat.le_of_ble_eq_true rfl) dX12_readsClimate_169 (fun H locs hP hD hS => ?_)
      have hP : va_P D vwCl (wWX12 cB cI cZ a0 (upd I0_j155 13 ((I0_j155 13) + (1 : Int32))) L0_j155 M0_j155) H := hP
      have hD : va_D A (wWX12 cB cI cZ a0 (upd I0_j155 13 ((I0_j155 13) + (1 : Int32))) L0_j155 M0_j155) := hD
      obtain ⟨I0_2, eI0_2, hf⟩ := wb_v hf
      rw [← eI0_2] at hP hD
      exact W.vret hx hb hr (fun t ht hW => by rw [← Option.some.inj hf]; exact ⟨⟨(), rfl, trivial, by rw [ht]; exact hP, va_K.moved hW.alike hK, hD⟩, hS.F ht⟩) hS.2.2 dX12_readsClimate_172
  have J14 : ∀ (I0_j14 : Nat → Int32) (L0_j14 : Int64) (M0_j14 : Nat → Nat → Int32) (H : Heap) (locs : List Loc), va_P D vwCl (wWX12 cB cI cZ a0 I0_j14 L0_j14 M0_j14) H → va_D A (wWX12 cB cI cZ a0 I0_j14 L0_j14 M0_j14) → va_S A s.heap H locs → ∀ (ls : Array Slot), lv_has ls 5 [(0, .ref (a0 0))] → fX12_readsClimate_J14 N I0_j14 L0_j14 M0_j14 = some R → W p l e (headSpec wsX12_readsClimate { frames := 3, cells := 0, slots := 0, locals := 65 }).room s m [.ref (a0 0)].toArray below meth c H locs 0 0 (MQ below (va_Qv (fun _ : Unit => True) (fun _ t => wb_post D [(cB, .byte), (cI, .int), (cZ, .boolean)] A (wWX12 cB cI cZ a0 R.1 R.2.1 R.2.2) t) A) [.ref (a0 0)].toArray s 0 0 A) (F0 m 14 ls []) := by
    intro I0_j14 L0_j14 M0_j14 H locs hP hD hS ls hl hf
    unfold fX12_readsClimate_J14 at hf
    refine lv_aload_n hx hb dX12_readsClimate_14 rfl (lv_at hl 0 rfl) ?_
    obtain ⟨r3, hr3, hf⟩ := wb_b hf
    refine vp_callSi (W.runV (As := []) (rest := []) ⟨hx, hb, hml, hown, hts⟩ (cn_X12_isGood l D cB cI cZ N a0 I0_j14 L0_j14 M0_j14 r3 hr3) (cwV 0 hts gX12_readsClimate_X12_isGood rfl rfl rfl cdX12_isGood ⟨Nat.le_of_ble_eq_true rfl, Nat.le_of_ble_eq_true rfl⟩) (wb_preV hP hK (wr_12 hK hP (q0 := 0) rfl)) rfl rfl hl.1 rfl (lv_room (Nat.le_of_ble_eq_true rfl)) dX12_readsClimate_15 ⟨Nat.le_of_ble_eq_true rfl, Nat.le_of_ble_eq_true rfl⟩) (fun r9 e9 => ?_)
    rw [e9]
    refine lv_if_ne (tgt := 22) hx hb dX12_readsClimate_18 (by decide) (fun hc => ?_) (fun hc => ?_)
    · replace hf := wb_f hc hf
      refine lv_aload_n hx hb dX12_readsClimate_22 rfl (lv_at hl 0 rfl) ?_
      obtain ⟨r4, hr4, hf⟩ := wb_b hf
      have hPc := hP
      have hDc := hD
      have hFc := wj_F hDc hS hA
      refine va_callv (va_runV (As := []) (rest := []) ⟨hx, hb, hml, hown, hts⟩ (cn_X12_steps l D cB cI cZ N a0 I0_j14 L0_j14 M0_j14 H.size r4 hr4) (cwV 0 hts gX12_readsClimate_X12_steps rfl rfl rfl cdX12_steps ⟨Nat.le_of_ble_eq_true rfl, Nat.le_of_ble_eq_true rfl⟩) (wb_preDV hPc hK hDc (wr_12 hK hP (q0 := 0) rfl)) rfl rfl hl.1 rfl (lv_room (Nat.le_of_ble_eq_true rfl)) dX12_readsClimate_23 ⟨Nat.le_of_ble_eq_true rfl, Nat.le_of_ble_eq_true rfl⟩) hS (fun q _ h => hFc q h) hFc (fun u t H locs ht hvm hw hB hz1 hk1 hS => ?_)
      obtain ⟨hP, hD⟩ := wj_0 hFc ht hB
      refine lv_aload_n hx hb dX12_readsClimate_26 rfl (lv_at hl 0 rfl) ?_
      refine lv_aload_n hx hb dX12_readsClimate_27 rfl (lv_at hl 0 rfl) ?_
      refine va_get (D := D) (ci := 12) (v := .int (r4.1 13)) (C := RX12) (T := TX12) (N := 58) hx hb hts hinX12 hown hK hP 0 rfl rfl 23 (by decide) (hts (.fieldLink RX12 219 "WheelBookModel" "newClimates" "I") (List.mem_of_getElem? (i := 1) rfl)) (fun _ h9 => h9) rfl dX12_readsClimate_28 ?_
      refine lv_aload_n hx hb dX12_readsClimate_31 rfl (lv_at hl 0 rfl) ?_
      refine va_get (D := D) (ci := 12) (v := .int (r4.1 13)) (C := RX12) (T := TX12) (N := 58) hx hb hts hinX12 hown hK hP 0 rfl rfl 23 (by decide) (hts (.fieldLink RX12 219 "WheelBookModel" "newClimates" "I") (List.mem_of_getElem? (i := 1) rfl)) (fun _ h9 => h9) rfl dX12_readsClimate_32 ?_
      obtain ⟨r5, hr5, hf⟩ := wb_b hf
      have hPc := hP
      have hDc := hD
      have hFc := wj_F hDc hS hA
      refine va_calli (va_runV (As := [.int (r4.1 13), .int (r4.1 13)]) (rest := []) ⟨hx, hb, hml, hown, hts⟩ (cn_X12_number l D cB cI cZ N a0 r4.1 r4.2.1 r4.2.2 (r4.1 13) (r4.1 13) H.size r5 hr5) (cwV 2 hts gX12_readsClimate_X12_number rfl rfl rfl cdX12_number ⟨Nat.le_of_ble_eq_true rfl, Nat.le_of_ble_eq_true rfl⟩) (wb_preDV hPc hK hDc (wr_12 hK hP (q0 := 0) rfl)) rfl rfl hl.1 rfl (lv_room (Nat.le_of_ble_eq_true rfl)) dX12_readsClimate_35 ⟨Nat.le_of_ble_eq_true rfl, Nat.le_of_ble_eq_true rfl⟩) hS (fun q _ h => hFc q h) hFc (fun r9 u t H locs ht hvm hw hB hz1 hk1 hS => ?_)
      obtain ⟨hP, hD⟩ := wj_0 hFc ht hB
      rw [hw]
      refine lv_pop hx hb dX12_readsClimate_38 rfl ?_
      refine lv_iconst (v := (0 : Int32)) hx hb dX12_readsClimate_39 (by decide) ?_
      refine lv_istore_n (lv' := [(1, .int (0 : Int32)), (0, .ref (a0 0))]) hx hb dX12_readsClimate_40 rfl hl (by decide) rfl (fun ls hl => ?_)
      refine lv_iconst (v := (0 : Int32)) hx hb dX12_readsClimate_41 (by decide) ?_
      refine lv_istore_n (lv' := [(2, .int (0 : Int32)), (1, .int (0 : Int32)), (0, .ref (a0 0))]) hx hb dX12_readsClimate_42 rfl hl (by decide) rfl (fun ls hl => ?_)
      have Lh43 : ∀ (fu43 : Nat) (I0_l43 : Nat → Int32) (L0_l43 : Int64) (M0_l43 : Nat → Nat → Int32) (y43_1 : Int32) (y43_2 : Int32) (H : Heap) (locs : List Loc), va_P D vwCl (wWX12 cB cI cZ a0 I0_l43 L0_l43 M0_l43) H → va_D A (wWX12 cB cI cZ a0 I0_l43 L0_l43 M0_l43) → va_S A s.heap H locs → ∀ (ls : Array Slot), lv_has ls 5 [(0, .ref (a0 0)), (1, .int y43_1), (2, .int y43_2)] → fX12_readsClimate_L43 N fu43 I0_l43 L0_l43 M0_l43 y43_1 y43_2 = some R → W p l e (headSpec wsX12_readsClimate { frames := 3, cells := 0, slots := 0, locals := 65 }).room s m [.ref (a0 0)].toArray below meth c H locs 0 0 (MQ below (va_Qv (fun _ : Unit => True) (fun _ t => wb_post D [(cB, .byte), (cI, .int), (cZ, .boolean)] A (wWX12 cB cI cZ a0 R.1 R.2.1 R.2.2) t) A) [.ref (a0 0)].toArray s 0 0 A) (F0 m 43 ls []) := by
        intro fu43
        induction fu43 with
        | zero =>
          intro I0_l43 L0_l43 M0_l43 y43_1 y43_2 H locs hP hD hS ls hl hf
          exact absurd hf (by rw [fX12_readsClimate_L43.eq_1]; exact fun h => nomatch h)
        | succ fu43 ih43 =>
          have J111 : ∀ (I0_j111 : Nat → Int32) (L0_j111 : Int64) (M0_j111 : Nat → Nat → Int32) (y111_1 : Int32) (y111_2 : Int32) (H : Heap) (locs : List Loc), va_P D vwCl (wWX12 cB cI cZ a0 I0_j111 L0_j111 M0_j111) H → va_D A (wWX12 cB cI cZ a0 I0_j111 L0_j111 M0_j111) → va_S A s.heap H locs → ∀ (ls : Array Slot), lv_has ls 5 [(0, .ref (a0 0)), (1, .int y111_1), (2, .int y111_2)] → fX12_readsClimate_J111 N (fX12_readsClimate_L43 N fu43) I0_j111 L0_j111 M0_j111 y111_1 y111_2 = some R → W p l e (headSpec wsX12_readsClimate { frames := 3, cells := 0, slots := 0, locals := 65 }).room s m [.ref (a0 0)].toArray below meth c H locs 0 0 (MQ below (va_Qv (fun _ : Unit => True) (fun _ t => wb_post D [(cB, .byte), (cI, .int), (cZ, .boolean)] A (wWX12 cB cI cZ a0 R.1 R.2.1 R.2.2) t) A) [.ref (a0 0)].toArray s 0 0 A) (F0 m 111 ls []) := by
            intro I0_j111 L0_j111 M0_j111 y111_1 y111_2 H locs hP hD hS ls hl hf
            unfold fX12_readsClimate_J111 at hf
            refine lv_aload_n hx hb dX12_readsClimate_111 rfl (lv_at hl 0 rfl) ?_
            refine lv_iconst (v := (1 : Int32)) hx hb dX12_readsClimate_112 (by decide) ?_
            refine lv_sipush (v := (3600 : Int32)) hx hb dX12_readsClimate_113 (by decide) ?_
            obtain ⟨r6, hr6, hf⟩ := wb_b hf
            have hPc := hP
            have hDc := hD
            have hFc := wj_F hDc hS hA
            refine va_calli (va_runV (As := [.int (1 : Int32), .int (3600 : Int32)]) (rest := []) ⟨hx, hb, hml, hown, hts⟩ (cn_X12_number l D cB cI cZ N a0 I0_j111 L0_j111 M0_j111 (1 : Int32) (3600 : Int32) H.size r6 hr6) (cwV 2 hts gX12_readsClimate_X12_number rfl rfl rfl cdX12_number ⟨Nat.le_of_ble_eq_true rfl, Nat.le_of_ble_eq_true rfl⟩) (wb_preDV hPc hK hDc (wr_12 hK hP (q0 := 0) rfl)) rfl rfl hl.1 rfl (lv_room (Nat.le_of_ble_eq_true rfl)) dX12_readsClimate_116 ⟨Nat.le_of_ble_eq_true rfl, Nat.le_of_ble_eq_true rfl⟩) hS (fun q _ h => hFc q h) hFc (fun r9 u t H locs ht hvm hw hB hz1 hk1 hS => ?_)
            obtain ⟨hP, hD⟩ := wj_0 hFc ht hB
            rw [hw]
            obtain ⟨v7, ev7, hf⟩ := wb_v hf
            refine wb_topi ev7 ?_
            refine lv_istore (lv' := [(4, .int v7), (0, .ref (a0 0)), (1, .int y111_1), (2, .int y111_2)]) hx hb dX12_readsClimate_119 hl (by decide) rfl (fun ls hl => ?_)
            refine lv_aload_n hx hb dX12_readsClimate_121 rfl (lv_at hl 1 rfl) ?_
            obtain ⟨r8, hr8, hf⟩ := wb_b hf
            refine vp_callSi (W.runV (As := []) (rest := []) ⟨hx, hb, hml, hown, hts⟩ (cn_X12_isGood l D cB cI cZ N a0 r6.2.1 r6.2.2.1 r6.2.2.2 r8 hr8) (cwV 0 hts gX12_readsClimate_X12_isGood rfl rfl rfl cdX12_isGood ⟨Nat.le_of_ble_eq_true rfl, Nat.le_of_ble_eq_true rfl⟩) (wb_preV hP hK (wr_12 hK hP (q0 := 0) rfl)) rfl rfl hl.1 rfl (lv_room (Nat.le_of_ble_eq_true rfl)) dX12_readsClimate_122 ⟨Nat.le_of_ble_eq_true rfl, Nat.le_of_ble_eq_true rfl⟩) (fun r9 e9 => ?_)
            rw [e9]
            refine lv_if_eq (tgt := 144) hx hb dX12_readsClimate_125 (by decide) (fun hc => ?_) (fun hc => ?_)
            · replace hf := wb_t hc hf
              refine lv_iload_n hx hb dX12_readsClimate_144 rfl (lv_at hl 2 rfl) ?_
              refine lv_iload hx hb dX12_readsClimate_145 (lv_at hl 0 rfl) ?_
              refine lv_iadd hx hb dX12_readsClimate_147 ?_
              obtain ⟨v9, ev9, hf⟩ := wb_v hf
              refine wb_topi ev9 ?_
              refine lv_istore_n (lv' := [(1, .int v9), (4, .int v7), (0, .ref (a0 0)), (2, .int y111_2)]) hx hb dX12_readsClimate_148 rfl hl (by decide) rfl (fun ls hl => ?_)
              obtain ⟨v10, ev10, hf⟩ := wb_v hf
              refine lv_iinc (v := v10) (lv' := [(2, .int v10), (1, .int v9), (4, .int v7), (0, .ref (a0 0))]) hx hb dX12_readsClimate_149 hl (k := 3) rfl (by rw [ev10]; rfl) (by decide) rfl (fun ls hl => ?_)
              refine lv_goto (tgt := 43) hx hb dX12_readsClimate_152 (by decide) ?_
              exact ih43 r6.2.1 r6.2.2.1 r6.2.2.2 v9 v10 H locs hP hD hS ls (lv_sub hl [3, 1, 0] rfl) hf
            · replace hf := wb_f hc hf
              refine lv_aload_n hx hb dX12_readsClimate_128 rfl (lv_at hl 1 rfl) ?_
              refine va_get (D := D) (ci := 12) (v := .ref (a0 14)) (C := RX12) (T := TX12) (N := 58) hx hb hts hinX12 hown hK hP 0 rfl rfl 29 (by decide) (hts (.fieldLink RX12 53 "WheelBookModel" "newRising" "[I") (List.mem_of_getElem? (i := 5) rfl)) (fun _ h9 => h9) rfl dX12_readsClimate_129 ?_
              refine lv_bipush (v := (12 : Int32)) hx hb dX12_readsClimate_132 (by decide) ?_
              refine lv_aload_n hx hb dX12_readsClimate_134 rfl (lv_at hl 1 rfl) ?_
              refine va_get (D := D) (ci := 12) (v := .int (r6.2.1 13)) (C := RX12) (T := TX12) (N := 58) hx hb hts hinX12 hown hK hP 0 rfl rfl 23 (by decide) (hts (.fieldLink RX12 219 "WheelBookModel" "newClimates" "I") (List.mem_of_getElem? (i := 1) rfl)) (fun _ h9 => h9) rfl dX12_readsClimate_135 ?_
              refine lv_imul hx hb dX12_readsClimate_138 ?_
              refine lv_iload_n hx hb dX12_readsClimate_139 rfl (lv_at hl 3 rfl) ?_
              refine lv_iadd hx hb dX12_readsClimate_140 ?_
              refine lv_iload hx hb dX12_readsClimate_141 (lv_at hl 0 rfl) ?_
              obtain ⟨hin, hf⟩ := wb_n hf
              refine va_iast hx hb hK hP hD hS 14 1 rfl rfl hin dX12_readsClimate_143 (fun H locs hP hD hS => ?_)
              have hP : va_P D vwCl (wWX12 cB cI cZ a0 r6.2.1 r6.2.2.1 (wb_um r6.2.2.2 13 ((((12 : Int32) * (r6.2.1 13)) + y111_2)).toNatClampNeg v7)) H := hP
              have hD : va_D A (wWX12 cB cI cZ a0 r6.2.1 r6.2.2.1 (wb_um r6.2.2.2 13 ((((12 : Int32) * (r6.2.1 13)) + y111_2)).toNatClampNeg v7)) := hD
              obtain ⟨M0_11, eM0_11, hf⟩ := wb_v hf
              rw [← eM0_11] at hP hD
              refine lv_iload_n hx hb dX12_readsClimate_144 rfl (lv_at hl 2 rfl) ?_
              refine lv_iload hx hb dX12_readsClimate_145 (lv_at hl 0 rfl) ?_
              refine lv_iadd hx hb dX12_readsClimate_147 ?_
              obtain ⟨v12, ev12, hf⟩ := wb_v hf
              refine wb_topi ev12 ?_
              refine lv_istore_n (lv' := [(1, .int v12), (4, .int v7), (0, .ref (a0 0)), (2, .int y111_2)]) hx hb dX12_readsClimate_148 rfl hl (by decide) rfl (fun ls hl => ?_)
              obtain ⟨v13, ev13, hf⟩ := wb_v hf
              refine lv_iinc (v := v13) (lv' := [(2, .int v13), (1, .int v12), (4, .int v7), (0, .ref (a0 0))]) hx hb dX12_readsClimate_149 hl (k := 3) rfl (by rw [ev13]; rfl) (by decide) rfl (fun ls hl => ?_)
              refine lv_goto (tgt := 43) hx hb dX12_readsClimate_152 (by decide) ?_
              exact ih43 r6.2.1 r6.2.2.1 M0_11 v12 v13 H locs hP hD hS ls (lv_sub hl [3, 1, 0] rfl) hf
          have J98 : ∀ (I0_j98 : Nat → Int32) (L0_j98 : Int64) (M0_j98 : Nat → Nat → Int32) (y98_1 : Int32) (y98_2 : Int32) (z98_0 : Int32) (H : Heap) (locs : List Loc), va_P D vwCl (wWX12 cB cI cZ a0 I0_j98 L0_j98 M0_j98) H → va_D A (wWX12 cB cI cZ a0 I0_j98 L0_j98 M0_j98) → va_S A s.heap H locs → ∀ (ls : Array Slot), lv_has ls 5 [(0, .ref (a0 0)), (1, .int y98_1), (2, .int y98_2)] → fX12_readsClimate_J98 N (fX12_readsClimate_L43 N fu43) I0_j98 L0_j98 M0_j98 y98_1 y98_2 z98_0 = some R → W p l e (headSpec wsX12_readsClimate { frames := 3, cells := 0, slots := 0, locals := 65 }).room s m [.ref (a0 0)].toArray below meth c H locs 0 0 (MQ below (va_Qv (fun _ : Unit => True) (fun _ t => wb_post D [(cB, .byte), (cI, .int), (cZ, .boolean)] A (wWX12 cB cI cZ a0 R.1 R.2.1 R.2.2) t) A) [.ref (a0 0)].toArray s 0 0 A) (F0 m 98 ls [.int z98_0]) := by
            intro I0_j98 L0_j98 M0_j98 y98_1 y98_2 z98_0 H locs hP hD hS ls hl hf
            unfold fX12_readsClimate_J98 at hf
            refine lv_istore (lv' := [(4, .int z98_0), (0, .ref (a0 0)), (1, .int y98_1), (2, .int y98_2)]) hx hb dX12_readsClimate_98 hl (by decide) rfl (fun ls hl => ?_)
            refine lv_iload hx hb dX12_readsClimate_100 (lv_at hl 0 rfl) ?_
            refine lv_iconst (v := (-1 : Int32)) hx hb dX12_readsClimate_102 (by decide) ?_
            refine lv_icmp_ne (tgt := 111) hx hb dX12_readsClimate_103 (by decide) (fun hc => ?_) (fun hc => ?_)
            · replace hf := wb_f hc hf
              exact J111 I0_j98 L0_j98 M0_j98 y98_1 y98_2 H locs hP hD hS ls (lv_sub hl [1, 2, 3] rfl) hf
            · replace hf := wb_t hc hf
              refine lv_aload_n hx hb dX12_readsClimate_106 rfl (lv_at hl 1 rfl) ?_
              refine lv_iconst (v := (2 : Int32)) hx hb dX12_readsClimate_107 (by decide) ?_
              obtain ⟨r14, hr14, hf⟩ := wb_b hf
              have hPc := hP
              have hDc := hD
              have hFc := wj_F hDc hS hA
              refine va_callv (va_runV (As := [.int (2 : Int32)]) (rest := []) ⟨hx, hb, hml, hown, hts⟩ (cn_X12_wrong l D cB cI cZ N a0 I0_j98 L0_j98 M0_j98 (2 : Int32) H.size r14 hr14) (cwV 1 hts gX12_readsClimate_X12_wrong rfl rfl rfl cdX12_wrong ⟨Nat.le_of_ble_eq_true rfl, Nat.le_of_ble_eq_true rfl⟩) (wb_preDV hPc hK hDc (wr_12 hK hP (q0 := 0) rfl)) rfl rfl hl.1 rfl (lv_room (Nat.le_of_ble_eq_true rfl)) dX12_readsClimate_108 ⟨Nat.le_of_ble_eq_true rfl, Nat.le_of_ble_eq_true rfl⟩) hS (fun q _ h => hFc q h) hFc (fun u t H locs ht hvm hw hB hz1 hk1 hS => ?_)
              obtain ⟨hP, hD⟩ := wj_0 hFc ht hB
              exact J111 r14.1 r14.2.1 r14.2.2 y98_1 y98_2 H locs hP hD hS ls (lv_sub hl [1, 2, 3] rfl) hf
          have J97 : ∀ (I0_j97 : Nat → Int32) (L0_j97 : Int64) (M0_j97 : Nat → Nat → Int32) (y97_1 : Int32) (y97_2 : Int32) (H : Heap) (locs : List Loc), va_P D vwCl (wWX12 cB cI cZ a0 I0_j97 L0_j97 M0_j97) H → va_D A (wWX12 cB cI cZ a0 I0_j97 L0_j97 M0_j97) → va_S A s.heap H locs → ∀ (ls : Array Slot), lv_has ls 5 [(0, .ref (a0 0)), (1, .int y97_1), (2, .int y97_2)] → fX12_readsClimate_J97 N (fX12_readsClimate_L43 N fu43) I0_j97 L0_j97 M0_j97 y97_1 y97_2 = some R → W p l e (headSpec wsX12_readsClimate { frames := 3, cells := 0, slots := 0, locals := 65 }).room s m [.ref (a0 0)].toArray below meth c H locs 0 0 (MQ below (va_Qv (fun _ : Unit => True) (fun _ t => wb_post D [(cB, .byte), (cI, .int), (cZ, .boolean)] A (wWX12 cB cI cZ a0 R.1 R.2.1 R.2.2) t) A) [.ref (a0 0)].toArray s 0 0 A) (F0 m 97 ls []) := by
            intro I0_j97 L0_j97 M0_j97 y97_1 y97_2 H locs hP hD hS ls hl hf
            unfold fX12_readsClimate_J97 at hf
            refine lv_iconst (v := (0 : Int32)) hx hb dX12_readsClimate_97 (by decide) ?_
            exact J98 I0_j97 L0_j97 M0_j97 y97_1 y97_2 (0 : Int32) H locs hP hD hS ls (lv_sub hl [0, 1, 2] rfl) hf
          intro I0_l43 L0_l43 M0_l43 y43_1 y43_2 H locs hP hD hS ls hl hf
          rw [fX12_readsClimate_L43.eq_2] at hf
          refine lv_iload_n hx hb dX12_readsClimate_43 rfl (lv_at hl 2 rfl) ?_
          refine lv_bipush (v := (12 : Int32)) hx hb dX12_readsClimate_44 (by decide) ?_
          refine lv_icmp_ge (tgt := 155) hx hb dX12_readsClimate_46 (by decide) (fun hc => ?_) (fun hc => ?_)
          · replace hf := wb_t hc hf
            exact J155 I0_l43 L0_l43 M0_l43 H locs hP hD hS ls (lv_sub hl [0] rfl) hf
          · replace hf := wb_f hc hf
            refine lv_aload_n hx hb dX12_readsClimate_49 rfl (lv_at hl 0 rfl) ?_
            obtain ⟨r15, hr15, hf⟩ := wb_b hf
            refine vp_callSi (W.runV (As := []) (rest := []) ⟨hx, hb, hml, hown, hts⟩ (cn_X12_isGood l D cB cI cZ N a0 I0_l43 L0_l43 M0_l43 r15 hr15) (cwV 0 hts gX12_readsClimate_X12_isGood rfl rfl rfl cdX12_isGood ⟨Nat.le_of_ble_eq_true rfl, Nat.le_of_ble_eq_true rfl⟩) (wb_preV hP hK (wr_12 hK hP (q0 := 0) rfl)) rfl rfl hl.1 rfl (lv_room (Nat.le_of_ble_eq_true rfl)) dX12_readsClimate_50 ⟨Nat.le_of_ble_eq_true rfl, Nat.le_of_ble_eq_true rfl⟩) (fun r9 e9 => ?_)
            rw [e9]
            refine lv_if_eq (tgt := 155) hx hb dX12_readsClimate_53 (by decide) (fun hc => ?_) (fun hc => ?_)
            · replace hf := wb_t hc hf
              exact J155 I0_l43 L0_l43 M0_l43 H locs hP hD hS ls (lv_sub hl [0] rfl) hf
            · replace hf := wb_f hc hf
              refine lv_sipush (v := (3600 : Int32)) hx hb dX12_readsClimate_56 (by decide) ?_
              refine lv_iload_n hx hb dX12_readsClimate_59 rfl (lv_at hl 1 rfl) ?_
              refine lv_isub hx hb dX12_readsClimate_60 ?_
              obtain ⟨v16, ev16, hf⟩ := wb_v hf
              refine wb_topi ev16 ?_
              refine lv_istore_n (lv' := [(3, .int v16), (0, .ref (a0 0)), (1, .int y43_1), (2, .int y43_2)]) hx hb dX12_readsClimate_61 rfl hl (by decide) rfl (fun ls hl => ?_)
              refine lv_iload_n hx hb dX12_readsClimate_62 rfl (lv_at hl 3 rfl) ?_
              refine lv_bipush (v := (11 : Int32)) hx hb dX12_readsClimate_63 (by decide) ?_
              refine lv_icmp_ne (tgt := 97) hx hb dX12_readsClimate_65 (by decide) (fun hc => ?_) (fun hc => ?_)
              · replace hf := wb_f hc hf
                exact J97 I0_l43 L0_l43 M0_l43 y43_1 y43_2 H locs hP hD hS ls (lv_sub hl [1, 2, 3] rfl) hf
              · replace hf := wb_t hc hf
                refine lv_aload_n hx hb dX12_readsClimate_68 rfl (lv_at hl 1 rfl) ?_
                refine va_get (D := D) (ci := 12) (v := .int (I0_l43 8)) (C := RX12) (T := TX12) (N := 58) hx hb hts hinX12 hown hK hP 0 rfl rfl 17 (by decide) (hts (.fieldLink RX12 159 "WheelBookModel" "sort" "I") (List.mem_of_getElem? (i := 2) rfl)) (fun _ h9 => h9) rfl dX12_readsClimate_69 ?_
                refine lv_iconst (v := (2 : Int32)) hx hb dX12_readsClimate_72 (by decide) ?_
                refine lv_icmp_ne (tgt := 97) hx hb dX12_readsClimate_73 (by decide) (fun hc => ?_) (fun hc => ?_)
                · replace hf := wb_f hc hf
                  exact J97 I0_l43 L0_l43 M0_l43 y43_1 y43_2 H locs hP hD hS ls (lv_sub hl [1, 2, 3] rfl) hf
                · replace hf := wb_t hc hf
                  refine lv_aload_n hx hb dX12_readsClimate_76 rfl (lv_at hl 1 rfl) ?_
                  refine va_get (D := D) (ci := 12) (v := .int (I0_l43 10)) (C := RX12) (T := TX12) (N := 58) hx hb hts hinX12 hown hK hP 0 rfl rfl 19 (by decide) (hts (.fieldLink RX12 169 "WheelBookModel" "long0" "I") (List.mem_of_getElem? (i := 3) rfl)) (fun _ h9 => h9) rfl dX12_readsClimate_77 ?_
                  refine lv_bipush (v := (7 : Int32)) hx hb dX12_readsClimate_80 (by decide) ?_
                  refine lv_icmp_gt (tgt := 97) hx hb dX12_readsClimate_82 (by decide) (fun hc => ?_) (fun hc => ?_)
                  · replace hf := wb_t hc hf
                    exact J97 I0_l43 L0_l43 M0_l43 y43_1 y43_2 H locs hP hD hS ls (lv_sub hl [1, 2, 3] rfl) hf
                  · replace hf := wb_f hc hf
                    refine lv_aload_n hx hb dX12_readsClimate_85 rfl (lv_at hl 1 rfl) ?_
                    refine va_get (D := D) (ci := 12) (v := .int (I0_l43 11)) (C := RX12) (T := TX12) (N := 58) hx hb hts hinX12 hown hK hP 0 rfl rfl 20 (by decide) (hts (.fieldLink RX12 156 "WheelBookModel" "value" "I") (List.mem_of_getElem? (i := 4) rfl)) (fun _ h9 => h9) rfl dX12_readsClimate_86 ?_
                    refine lv_iload_n hx hb dX12_readsClimate_89 rfl (lv_at hl 0 rfl) ?_
                    refine lv_icmp_eq (tgt := 97) hx hb dX12_readsClimate_90 (by decide) (fun hc => ?_) (fun hc => ?_)
                    · replace hf := wb_t hc hf
                      exact J97 I0_l43 L0_l43 M0_l43 y43_1 y43_2 H locs hP hD hS ls (lv_sub hl [1, 2, 3] rfl) hf
                    · replace hf := wb_f hc hf
                      refine lv_iconst (v := (-1 : Int32)) hx hb dX12_readsClimate_93 (by decide) ?_
                      refine lv_goto (tgt := 98) hx hb dX12_readsClimate_94 (by decide) ?_
                      exact J98 I0_l43 L0_l43 M0_l43 y43_1 y43_2 (-1 : Int32) H locs hP hD hS ls (lv_sub hl [1, 2, 3] rfl) hf
      exact Lh43 N r5.2.1 r5.2.2.1 r5.2.2.2 (0 : Int32) (0 : Int32) H locs hP hD hS ls (lv_sub hl [2, 1, 0] rfl) hf
    · replace hf := wb_t hc hf
      exact W.vret hx hb hr (fun t ht hW => by rw [← Option.some.inj hf]; exact ⟨⟨(), rfl, trivial, by rw [ht]; exact hP, va_K.moved hW.alike hK, hD⟩, hS.F ht⟩) hS.2.2 dX12_readsClimate_21
  refine lv_aload_n hx hb dX12_readsClimate_0 rfl (lv_at hl 0 rfl) ?_
  refine va_get (D := D) (ci := 12) (v := .int (I0 13)) (C := RX12) (T := TX12) (N := 58) hx hb hts hinX12 hown hK hP 0 rfl rfl 23 (by decide) (hts (.fieldLink RX12 219 "WheelBookModel" "newClimates" "I") (List.mem_of_getElem? (i := 1) rfl)) (fun _ h9 => h9) rfl dX12_readsClimate_1 ?_
  refine lv_bipush (v := (7 : Int32)) hx hb dX12_readsClimate_4 (by decide) ?_
  refine lv_icmp_ne (tgt := 14) hx hb dX12_readsClimate_6 (by decide) (fun hc => ?_) (fun hc => ?_)
  · replace hf := wb_f hc hf
    exact J14 I0 L0 M0 H locs hP hD hS ls (lv_sub hl [0] rfl) hf
  · replace hf := wb_t hc hf
    refine lv_aload_n hx hb dX12_readsClimate_9 rfl (lv_at hl 0 rfl) ?_
    refine lv_iconst (v := (2 : Int32)) hx hb dX12_readsClimate_10 (by decide) ?_
    obtain ⟨r17, hr17, hf⟩ := wb_b hf
    have hPc := hP
    have hDc := hD
    have hFc := wj_F hDc hS hA
    refine va_callv (va_runV (As := [.int (2 : Int32)]) (rest := []) ⟨hx, hb, hml, hown, hts⟩ (cn_X12_wrong l D cB cI cZ N a0 I0 L0 M0 (2 : Int32) H.size r17 hr17) (cwV 1 hts gX12_readsClimate_X12_wrong rfl rfl rfl cdX12_wrong ⟨Nat.le_of_ble_eq_true rfl, Nat.le_of_ble_eq_true rfl⟩) (wb_preDV hPc hK hDc (wr_12 hK hP (q0 := 0) rfl)) rfl rfl hl.1 rfl (lv_room (Nat.le_of_ble_eq_true rfl)) dX12_readsClimate_11 ⟨Nat.le_of_ble_eq_true rfl, Nat.le_of_ble_eq_true rfl⟩) hS (fun q _ h => hFc q h) hFc (fun u t H locs ht hvm hw hB hz1 hk1 hS => ?_)
    obtain ⟨hP, hD⟩ := wj_0 hFc ht hB
    exact J14 r17.1 r17.2.1 r17.2.2 H locs hP hD hS ls (lv_sub hl [0] rfl) hf
