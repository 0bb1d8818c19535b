set_option maxHeartbeats 4000000 in
set_option maxRecDepth 100000 in
theorem cn_X9_isAtEnd (l : Launch) (D : va_G) (cB cI cZ : ClassId) (N : Nat) (a0 : Nat → Nat) (I0 : Nat → Int32) (M0 : Nat → Nat → Int32) (R : Int32) (hf : fX9_isAtEnd N I0 M0 = some R) : Met l yX9_isAtEnd wsX9_isAtEnd ({ frames := 0, cells := 0, slots := 0, locals := 0 }) (va_Pc [.ref (a0 0)] (wb_pre D [(cB, .byte), (cI, .int), (cZ, .boolean)] (wWX9 cB cI cZ a0 I0 M0))) (vp_Si (fun r => r = R)) 0 0 (fun _ => False) := by
  refine Met.ofW (cc := cX9_isAtEnd) (maxL := 1) (ret := (some .boolean)) (by decide) rfl ?_
  intro p e s m args below meth c s₁ B hml hv
  obtain ⟨rfl, hP, hK⟩ := hv
  have hx := B.exec
  have hb := B.bytes
  have hr := B.returns
  have hts := atoms_spec (ws := wsX9_isAtEnd) B.pre
  have hown : s.vm.findClass RX9 = some m.cls := findClass_of_methodNamed B.named
  have hlocks := B.notSynchronized
  have hinX9 : ∀ w ∈ u_ws RX9 TX9 10, w ∈ wsX9_isAtEnd := fun w h => List.mem_cons_of_mem _ (List.mem_append_right _ h)
  have hl := lv_entry ([.ref (a0 0)]) (n := 1) (Nat.le_of_ble_eq_true rfl)
  rw [lg_entry_eq]
  generalize (lg_sl ([.ref (a0 0)]) ++ List.replicate (1 - (lg_sl ([.ref (a0 0)])).length) Slot.unset).toArray = ls at hl ⊢
  have hl : lv_has ls 1 [(0, .ref (a0 0))] := hl
  unfold fX9_isAtEnd at hf
  refine lv_aload_n hx hb dX9_isAtEnd_0 rfl (lv_at hl 0 rfl) ?_
  refine va_get (D := D) (ci := 9) (v := .int (I0 4)) (C := RX9) (T := TX9) (N := 10) hx hb hts hinX9 hown hK hP 0 rfl rfl 5 (by decide) (hts (.fieldLink RX9 40 "WheelBook$Text" "kind" "I") (List.mem_of_getElem? (i := 1) rfl)) (fun _ h9 => h9) rfl dX9_isAtEnd_1 ?_
  refine lv_if_ne (tgt := 11) hx hb dX9_isAtEnd_4 (by decide) (fun hc => ?_) (fun hc => ?_)
  · replace hf := wb_f hc hf
    refine lv_iconst (v := (0 : Int32)) hx hb dX9_isAtEnd_11 (by decide) ?_
    exact W.zret (v := (0 : Int32)) hx hb hr (by decide) (fun t ht hW => ⟨_, rfl, Option.some.inj hf, ht⟩) (fun _ h => nomatch h) dX9_isAtEnd_12
  · replace hf := wb_t hc hf
    refine lv_iconst (v := (1 : Int32)) hx hb dX9_isAtEnd_7 (by decide) ?_
    refine lv_goto (tgt := 12) hx hb dX9_isAtEnd_8 (by decide) ?_
    exact W.zret (v := (1 : Int32)) hx hb hr (by decide) (fun t ht hW => ⟨_, rfl, Option.some.inj hf, ht⟩) (fun _ h => nomatch h) dX9_isAtEnd_12

set_option maxHeartbeats 4000000 in
set_option maxRecDepth 100000 in
theorem cn_X9_isWord (l : Launch) (D : va_G) (cB cI cZ : ClassId) (N : Nat) (aK aV : Nat → Nat) (a0 : Nat → Nat) (I0 : Nat → Int32) (M0 : Nat → Nat → Int32) (w1 : Nat) (hw1 : w1 < 19) (R : Int32) (hf : fX9_isWord N I0 M0 w1 = some R) : Met l yX9_isWord wsX9_isWord ({ frames := 4, cells := 0, slots := 0, locals := 121 }) (va_Pc [.ref (a0 0), .ref (aK w1)] (wb_preE D [(cB, .byte), (cI, .int), (cZ, .boolean)] (wWX9 cB cI cZ a0 I0 M0) aK aV)) (vp_Si (fun r => r = R)) 0 0 (fun _ => False) := by
  refine Met.ofW (cc := cX9_isWord) (maxL := 3) (ret := (some .boolean)) (by decide) rfl ?_
  intro p e s m args below meth c s₁ B hml hv
  obtain ⟨rfl, ⟨hP, hK⟩, hZ⟩ := hv
  have hZ : wb_Z aK aV (fun _ => False) s s.heap := hZ
  have hSZ : va_S (fun _ : Nat => False) s.heap s.heap [] := va_S.rf
  have hx := B.exec
  have hb := B.bytes
  have hr := B.returns
  have hts := atoms_spec (ws := wsX9_isWord) B.pre
  have hown : s.vm.findClass RX9 = some m.cls := findClass_of_methodNamed B.named
  have hlocks := B.notSynchronized
  have hinX9 : ∀ w ∈ u_ws RX9 TX9 10, w ∈ wsX9_isWord := fun w h => List.mem_cons_of_mem _ (List.mem_append_right _ h)
  have hl := lv_entry ([.ref (a0 0), .ref (aK w1)]) (n := 3) (Nat.le_of_ble_eq_true rfl)
  rw [lg_entry_eq]
  generalize (lg_sl ([.ref (a0 0), .ref (aK w1)]) ++ List.replicate (3 - (lg_sl ([.ref (a0 0), .ref (aK w1)])).length) Slot.unset).toArray = ls at hl ⊢
  have hl : lv_has ls 3 [(0, .ref (a0 0)), (1, .ref (aK w1))] := hl
  unfold fX9_isWord at hf
  refine lv_aload_n hx hb dX9_isWord_0 rfl (lv_at hl 0 rfl) ?_
  refine va_get (D := D) (ci := 9) (v := .int (I0 4)) (C := RX9) (T := TX9) (N := 10) hx hb hts hinX9 hown hK hP 0 rfl rfl 5 (by decide) (hts (.fieldLink RX9 40 "WheelBook$Text" "kind" "I") (List.mem_of_getElem? (i := 1) rfl)) (fun _ h9 => h9) rfl dX9_isWord_1 ?_
  refine lv_iconst (v := (1 : Int32)) hx hb dX9_isWord_4 (by decide) ?_
  refine lv_icmp_ne (tgt := 24) hx hb dX9_isWord_5 (by decide) (fun hc => ?_) (fun hc => ?_)
  · replace hf := wb_f hc hf
    refine lv_iconst (v := (0 : Int32)) hx hb dX9_isWord_24 (by decide) ?_
    exact W.zret (v := (0 : Int32)) hx hb hr (by decide) (fun t ht hW => ⟨_, rfl, Option.some.inj hf, ht⟩) (fun _ h => nomatch h) dX9_isWord_25
  · replace hf := wb_t hc hf
    refine lv_aload_n hx hb dX9_isWord_8 rfl (lv_at hl 0 rfl) ?_
    refine va_get (D := D) (ci := 9) (v := .int (I0 3)) (C := RX9) (T := TX9) (N := 10) hx hb hts hinX9 hown hK hP 0 rfl rfl 4 (by decide) (hts (.fieldLink RX9 31 "WheelBook$Text" "at" "I") (List.mem_of_getElem? (i := 2) rfl)) (fun _ h9 => h9) rfl dX9_isWord_9 ?_
    refine lv_aload_n hx hb dX9_isWord_12 rfl (lv_at hl 0 rfl) ?_
    refine va_get (D := D) (ci := 9) (v := .int (I0 2)) (C := RX9) (T := TX9) (N := 10) hx hb hts hinX9 hown hK hP 0 rfl rfl 3 (by decide) (hts (.fieldLink RX9 47 "WheelBook$Text" "start" "I") (List.mem_of_getElem? (i := 3) rfl)) (fun _ h9 => h9) rfl dX9_isWord_13 ?_
    refine lv_isub hx hb dX9_isWord_16 ?_
    refine lv_aload_n hx hb dX9_isWord_17 rfl (lv_at hl 1 rfl) ?_
    refine vp_callSi (W.runV (As := []) (rest := [.int ((I0 3) - (I0 2))]) ⟨hx, hb, hml, hown, hts⟩ (cz_J0_length_8abf5 l aK aV w1 hw1) (cwV 0 hts gX9_isWord_J0_length_8abf5 rfl rfl rfl cdJ0_length_8abf5 ⟨Nat.le_of_ble_eq_true rfl, Nat.le_of_ble_eq_true rfl⟩) (wb_preZV hZ hSZ (vk_recv hZ.1 hw1 hSZ)) rfl rfl hl.1 rfl (lv_room (Nat.le_of_ble_eq_true rfl)) dX9_isWord_18 ⟨Nat.le_of_ble_eq_true rfl, Nat.le_of_ble_eq_true rfl⟩) (fun r9 e9 => ?_)
    rw [e9]
    refine lv_icmp_eq (tgt := 26) hx hb dX9_isWord_21 (by decide) (fun hc => ?_) (fun hc => ?_)
    · replace hf := wb_t hc hf
      refine lv_iconst (v := (0 : Int32)) hx hb dX9_isWord_26 (by decide) ?_
      refine lv_istore_n (lv' := [(2, .int (0 : Int32)), (0, .ref (a0 0)), (1, .ref (aK w1))]) hx hb dX9_isWord_27 rfl hl (by decide) rfl (fun ls hl => ?_)
      have L28 : ∀ (fu28 : Nat) (y28_2 : Int32), ∀ (ls : Array Slot), lv_has ls 3 [(0, .ref (a0 0)), (1, .ref (aK w1)), (2, .int y28_2)] → fX9_isWord_L28 N I0 M0 w1 fu28 y28_2 = some R → W p l e (headSpec wsX9_isWord { frames := 4, cells := 0, slots := 0, locals := 121 }).room s m [.ref (a0 0), .ref (aK w1)].toArray below meth c s.heap [] 0 0 (MQ below (vp_Si (fun r => r = R)) [.ref (a0 0), .ref (aK w1)].toArray s 0 0 (fun _ => False)) (F0 m 28 ls []) := by
        intro fu28
        induction fu28 with
        | zero =>
          intro y28_2 ls hl hf
          exact absurd hf (by rw [fX9_isWord_L28.eq_1]; exact fun h => nomatch h)
        | succ fu28 ih28 =>
          intro y28_2 ls hl hf
          rw [fX9_isWord_L28.eq_2] at hf
          refine lv_iload_n hx hb dX9_isWord_28 rfl (lv_at hl 2 rfl) ?_
          refine lv_aload_n hx hb dX9_isWord_29 rfl (lv_at hl 1 rfl) ?_
          refine vp_callSi (W.runV (As := []) (rest := [.int y28_2]) ⟨hx, hb, hml, hown, hts⟩ (cz_J0_length_8abf5 l aK aV w1 hw1) (cwV 0 hts gX9_isWord_J0_length_8abf5 rfl rfl rfl cdJ0_length_8abf5 ⟨Nat.le_of_ble_eq_true rfl, Nat.le_of_ble_eq_true rfl⟩) (wb_preZV hZ hSZ (vk_recv hZ.1 hw1 hSZ)) rfl rfl hl.1 rfl (lv_room (Nat.le_of_ble_eq_true rfl)) dX9_isWord_30 ⟨Nat.le_of_ble_eq_true rfl, Nat.le_of_ble_eq_true rfl⟩) (fun r9 e9 => ?_)
          rw [e9]
          refine lv_icmp_ge (tgt := 63) hx hb dX9_isWord_33 (by decide) (fun hc => ?_) (fun hc => ?_)
          · replace hf := wb_t hc hf
            refine lv_iconst (v := (1 : Int32)) hx hb dX9_isWord_63 (by decide) ?_
            exact W.zret (v := (1 : Int32)) hx hb hr (by decide) (fun t ht hW => ⟨_, rfl, Option.some.inj hf, ht⟩) (fun _ h => nomatch h) dX9_isWord_64
          · replace hf := wb_f hc hf
            refine lv_aload_n hx hb dX9_isWord_36 rfl (lv_at hl 0 rfl) ?_
            refine va_get (D := D) (ci := 9) (v := .ref (a0 1)) (C := RX9) (T := TX9) (N := 10) hx hb hts hinX9 hown hK hP 0 rfl rfl 0 (by decide) (hts (.fieldLink RX9 11 "WheelBook$Text" "bytes" "[B") (List.mem_of_getElem? (i := 4) rfl)) (fun _ h9 => h9) rfl dX9_isWord_37 ?_
            refine lv_aload_n hx hb dX9_isWord_40 rfl (lv_at hl 0 rfl) ?_
            refine va_get (D := D) (ci := 9) (v := .int (I0 2)) (C := RX9) (T := TX9) (N := 10) hx hb hts hinX9 hown hK hP 0 rfl rfl 3 (by decide) (hts (.fieldLink RX9 47 "WheelBook$Text" "start" "I") (List.mem_of_getElem? (i := 3) rfl)) (fun _ h9 => h9) rfl dX9_isWord_41 ?_
            refine lv_iload_n hx hb dX9_isWord_44 rfl (lv_at hl 2 rfl) ?_
            refine lv_iadd hx hb dX9_isWord_45 ?_
            obtain ⟨hin, hf⟩ := wb_n hf
            refine va_bald hx hb hK hP 1 0 rfl rfl hin dX9_isWord_46 ?_
            refine lv_aload_n hx hb dX9_isWord_47 rfl (lv_at hl 1 rfl) ?_
            refine lv_iload_n hx hb dX9_isWord_48 rfl (lv_at hl 2 rfl) ?_
            obtain ⟨hin, hf⟩ := wb_n hf
            refine vp_callSi (W.runV (As := [.int y28_2]) (rest := [.int (M0 0 (((I0 2) + y28_2)).toNatClampNeg)]) ⟨hx, hb, hml, hown, hts⟩ (cz_J0_charAt_5068e l aK aV w1 hw1 y28_2 hin) (cwV 1 hts gX9_isWord_J0_charAt_5068e rfl rfl rfl cdJ0_charAt_5068e ⟨Nat.le_of_ble_eq_true rfl, Nat.le_of_ble_eq_true rfl⟩) (wb_preZV hZ hSZ (vk_recv hZ.1 hw1 hSZ)) rfl rfl hl.1 rfl (lv_room (Nat.le_of_ble_eq_true rfl)) dX9_isWord_49 ⟨Nat.le_of_ble_eq_true rfl, Nat.le_of_ble_eq_true rfl⟩) (fun r9 e9 => ?_)
            rw [e9]
            refine lv_icmp_eq (tgt := 57) hx hb dX9_isWord_52 (by decide) (fun hc => ?_) (fun hc => ?_)
            · replace hf := wb_t hc hf
              obtain ⟨v1, ev1, hf⟩ := wb_v hf
              refine lv_iinc (v := v1) (lv' := [(2, .int v1), (0, .ref (a0 0)), (1, .ref (aK w1))]) hx hb dX9_isWord_57 hl (k := 2) rfl (by rw [ev1]; rfl) (by decide) rfl (fun ls hl => ?_)
              refine lv_goto (tgt := 28) hx hb dX9_isWord_60 (by decide) ?_
              exact ih28 v1 ls (lv_sub hl [1, 2, 0] rfl) hf
            · replace hf := wb_f hc hf
              refine lv_iconst (v := (0 : Int32)) hx hb dX9_isWord_55 (by decide) ?_
              exact W.zret (v := (0 : Int32)) hx hb hr (by decide) (fun t ht hW => ⟨_, rfl, Option.some.inj hf, ht⟩) (fun _ h => nomatch h) dX9_isWord_56
      exact L28 N (0 : Int32) ls (lv_sub hl [1, 2, 0] rfl) hf
    · replace hf := wb_f hc hf
      refine lv_iconst (v := (0 : Int32)) hx hb dX9_isWord_24 (by decide) ?_
      exact W.zret (v := (0 : Int32)) hx hb hr (by decide) (fun t ht hW => ⟨_, rfl, Option.some.inj hf, ht⟩) (fun _ h => nomatch h) dX9_isWord_25

set_option maxHeartbeats 4000000 in
set_option maxRecDepth 100000 in
theorem cn_X9_refuse (l : Launch) (D : va_G) (cB cI cZ : ClassId) (N : Nat) (a0 : Nat → Nat) (I0 : Nat → Int32) (M0 : Nat → Nat → Int32) (x1 : Int32) (sz : Nat) (R : Int32 × (Nat → Int32) × (Nat → Nat → Int32)) (hf : fX9_refuse N I0 M0 x1 = some R) : Met l yX9_refuse wsX9_refuse ({ frames := 0, cells := 0, slots := 0, locals := 0 }) (va_Pc [.ref (a0 0), .int x1] (wb_preD D [(cB, .byte), (cI, .int), (cZ, .boolean)] (wWX9 cB cI cZ a0 I0 M0) sz)) (va_Qi (fun r (_ : Unit) => r = R.1) (fun _ t => wb_post D [(cB, .byte), (cI, .int), (cZ, .boolean)] (va_A (wWX9 cB cI cZ a0 I0 M0) sz) (wWX9 cB cI cZ a0 R.2.1 R.2.2) t) (va_A (wWX9 cB cI cZ a0 I0 M0) sz)) 0 0 (va_A (wWX9 cB cI cZ a0 I0 M0) sz) := by
  refine Met.ofW (cc := cX9_refuse) (maxL := 2) (ret := (some .boolean)) (by decide) rfl ?_
  intro p e s m args below meth c s₁ B hml hv
  obtain ⟨rfl, hsz, hP, hK, hD0⟩ := hv
  have hx := B.exec
  have hb := B.bytes
  have hr := B.returns
  have hts := atoms_spec (ws := wsX9_refuse) B.pre
  have hown : s.vm.findClass RX9 = some m.cls := findClass_of_methodNamed B.named
  have hlocks := B.notSynchronized
  have hinX9 : ∀ w ∈ u_ws RX9 TX9 10, w ∈ wsX9_refuse := fun w h => List.mem_cons_of_mem _ (List.mem_append_right _ h)
  subst hsz
  have hD := hD0.self (sz := s.heap.size)
  generalize hAe : va_A (wWX9 cB cI cZ a0 I0 M0) s.heap.size = A at hD ⊢
  have hA : ∀ q : Nat, s.heap.size ≤ q → A q := fun q h => by rw [← hAe]; exact Or.inr h
  have hS : va_S A s.heap s.heap [] := va_S.rf
  have hl := lv_entry ([.ref (a0 0), .int x1]) (n := 2) (Nat.le_of_ble_eq_true rfl)
  rw [lg_entry_eq]
  generalize (lg_sl ([.ref (a0 0), .int x1]) ++ List.replicate (2 - (lg_sl ([.ref (a0 0), .int x1])).length) Slot.unset).toArray = ls at hl ⊢
  have hl : lv_has ls 2 [(0, .ref (a0 0)), (1, .int x1)] := hl
  unfold fX9_refuse at hf
  obtain ⟨H, hHe⟩ : ∃ H : Heap, H = s.heap := ⟨_, rfl⟩
  obtain ⟨locs, hle⟩ : ∃ locs : List Loc, locs = [] := ⟨_, rfl⟩
  refine wb_start (H := H) (locs := locs) hHe hle ?_
  rw [← hHe] at hP
  have hS : va_S A s.heap H locs := by rw [hHe, hle]; exact va_S.rf
  refine lv_aload_n hx hb dX9_refuse_0 rfl (lv_at hl 0 rfl) ?_
  refine lv_iload_n hx hb dX9_refuse_1 rfl (lv_at hl 1 rfl) ?_
  refine va_put (D := D) (ci := 9) (v := .int x1) (ty := .int) (C := RX9) (T := TX9) (N := 10) hx hb hts hinX9 tyX9 tyX9_ok nmX9 hown hK hP hD hS 0 rfl rfl 8 (by decide) (hts (.fieldLink RX9 34 "WheelBook$Text" "faultKind" "I") (List.mem_of_getElem? (i := 1) rfl)) (fun _ h9 => h9) rfl (by decide +kernel) rfl rfl (Nat.le_of_ble_eq_true rfl) dX9_refuse_2 (fun H locs hP hD hS => ?_)
  have hP : va_P D vwCl (wWX9 cB cI cZ a0 (upd I0 7 x1) M0) H := hP
  have hD : va_D A (wWX9 cB cI cZ a0 (upd I0 7 x1) M0) := hD
  obtain ⟨I0_1, eI0_1, hf⟩ := wb_v hf
  rw [← eI0_1] at hP hD
  refine lv_aload_n hx hb dX9_refuse_5 rfl (lv_at hl 0 rfl) ?_
  refine lv_aload_n hx hb dX9_refuse_6 rfl (lv_at hl 0 rfl) ?_
  refine va_get (D := D) (ci := 9) (v := .int (I0_1 2)) (C := RX9) (T := TX9) (N := 10) hx hb hts hinX9 hown hK hP 0 rfl rfl 3 (by decide) (hts (.fieldLink RX9 47 "WheelBook$Text" "start" "I") (List.mem_of_getElem? (i := 2) rfl)) (fun _ h9 => h9) rfl dX9_refuse_7 ?_
  refine va_put (D := D) (ci := 9) (v := .int (I0_1 2)) (ty := .int) (C := RX9) (T := TX9) (N := 10) hx hb hts hinX9 tyX9 tyX9_ok nmX9 hown hK hP hD hS 0 rfl rfl 9 (by decide) (hts (.fieldLink RX9 15 "WheelBook$Text" "faultPlace" "I") (List.mem_of_getElem? (i := 3) rfl)) (fun _ h9 => h9) rfl (by decide +kernel) rfl rfl (Nat.le_of_ble_eq_true rfl) dX9_refuse_10 (fun H locs hP hD hS => ?_)
  have hP : va_P D vwCl (wWX9 cB cI cZ a0 (upd I0_1 8 (I0_1 2)) M0) H := hP
  have hD : va_D A (wWX9 cB cI cZ a0 (upd I0_1 8 (I0_1 2)) M0) := hD
  obtain ⟨I0_2, eI0_2, hf⟩ := wb_v hf
  rw [← eI0_2] at hP hD
  refine lv_iconst (v := (0 : Int32)) hx hb dX9_refuse_13 (by decide) ?_
  exact W.zret (v := (0 : Int32)) hx hb hr (by decide) (fun t ht hW => by rw [← Option.some.inj hf]; exact ⟨⟨(0 : Int32), (), rfl, rfl, by rw [ht]; exact hP, va_K.moved hW.alike hK, hD⟩, hS.F ht⟩) hS.2.2 dX9_refuse_14

set_option maxHeartbeats 4000000 in
set_option maxRecDepth 100000 in
theorem cn_X9_isLetter (l : Launch) (D : va_G) (cB cI cZ : ClassId) (N : Nat) (x0 : Int32) (R : Int32) (hf : fX9_isLetter N x0 = some R) : Met l yX9_isLetter wsX9_isLetter ({ frames := 0, cells := 0, slots := 0, locals := 0 }) (va_Pc [.int x0] (wb_pre D [(cB, .byte), (cI, .int), (cZ, .boolean)] ([] : va_W))) (vp_Si (fun r => r = R)) 0 0 (fun _ => False) := by
  refine Met.ofW (cc := cX9_isLetter) (maxL := 1) (ret := (some .boolean)) (by decide) rfl ?_
  intro p e s m args below meth c s₁ B hml hv
  obtain ⟨rfl, hP, hK⟩ := hv
  have hx := B.exec
  have hb := B.bytes
  have hr := B.returns
  have hts := atoms_spec (ws := wsX9_isLetter) B.pre
  have hown : s.vm.findClass RX9 = some m.cls := findClass_of_methodNamed B.named
  have hlocks := B.notSynchronized
  have hl := lv_entry ([.int x0]) (n := 1) (Nat.le_of_ble_eq_true rfl)
  rw [lg_entry_eq]
  generalize (lg_sl ([.int x0]) ++ List.replicate (1 - (lg_sl ([.int x0])).length) Slot.unset).toArray = ls at hl ⊢
  have hl : lv_has ls 1 [(0, .int x0)] := hl
  unfold fX9_isLetter at hf
  refine lv_iload_n hx hb dX9_isLetter_0 rfl (lv_at hl 0 rfl) ?_
  refine lv_bipush (v := (97 : Int32)) hx hb dX9_isLetter_1 (by decide) ?_
  refine lv_icmp_lt (tgt := 16) hx hb dX9_isLetter_3 (by decide) (fun hc => ?_) (fun hc => ?_)
  · replace hf := wb_t hc hf
    refine lv_iconst (v := (0 : Int32)) hx hb dX9_isLetter_16 (by decide) ?_
    exact W.zret (v := (0 : Int32)) hx hb hr (by decide) (fun t ht hW => ⟨_, rfl, Option.some.inj hf, ht⟩) (fun _ h => nomatch h) dX9_isLetter_17
  · replace hf := wb_f hc hf
    refine lv_iload_n hx hb dX9_isLetter_6 rfl (lv_at hl 0 rfl) ?_
    refine lv_bipush (v := (122 : Int32)) hx hb dX9_isLetter_7 (by decide) ?_
    refine lv_icmp_gt (tgt := 16) hx hb dX9_isLetter_9 (by decide) (fun hc => ?_) (fun hc => ?_)
    · replace hf := wb_t hc hf
      refine lv_iconst (v := (0 : Int32)) hx hb dX9_isLetter_16 (by decide) ?_
      exact W.zret (v := (0 : Int32)) hx hb hr (by decide) (fun t ht hW => ⟨_, rfl, Option.some.inj hf, ht⟩) (fun _ h => nomatch h) dX9_isLetter_17
    · replace hf := wb_f hc hf
      refine lv_iconst (v := (1 : Int32)) hx hb dX9_isLetter_12 (by decide) ?_
      refine lv_goto (tgt := 17) hx hb dX9_isLetter_13 (by decide) ?_
      exact W.zret (v := (1 : Int32)) hx hb hr (by decide) (fun t ht hW => ⟨_, rfl, Option.some.inj hf, ht⟩) (fun _ h => nomatch h) dX9_isLetter_17

set_option maxHeartbeats 4000000 in
set_option maxRecDepth 100000 in
theorem cn_X9_isDigit (l : Launch) (D : va_G) (cB cI cZ : ClassId) (N : Nat) (x0 : Int32) (R : Int32) (hf : fX9_isDigit N x0 = some R) : Met l yX9_isDigit wsX9_isDigit ({ frames := 0, cells := 0, slots := 0, locals := 0 }) (va_Pc [.int x0] (wb_pre D [(cB, .byte), (cI, .int), (cZ, .boolean)] ([] : va_W))) (vp_Si (fun r => r = R)) 0 0 (fun _ => False) := by
  refine Met.ofW (cc := cX9_isDigit) (maxL := 1) (ret := (some .boolean)) (by decide) rfl ?_
  intro p e s m args below meth c s₁ B hml hv
  obtain ⟨rfl, hP, hK⟩ := hv
  have hx := B.exec
  have hb := B.bytes
  have hr := B.returns
  have hts := atoms_spec (ws := wsX9_isDigit) B.pre
  have hown : s.vm.findClass RX9 = some m.cls := findClass_of_methodNamed B.named
  have hlocks := B.notSynchronized
  have hl := lv_entry ([.int x0]) (n := 1) (Nat.le_of_ble_eq_true rfl)
  rw [lg_entry_eq]
  generalize (lg_sl ([.int x0]) ++ List.replicate (1 - (lg_sl ([.int x0])).length) Slot.unset).toArray = ls at hl ⊢
  have hl : lv_has ls 1 [(0, .int x0)] := hl
  unfold fX9_isDigit at hf
  refine lv_iload_n hx hb dX9_isDigit_0 rfl (lv_at hl 0 rfl) ?_
  refine lv_bipush (v := (48 : Int32)) hx hb dX9_isDigit_1 (by decide) ?_
  refine lv_icmp_lt (tgt := 16) hx hb dX9_isDigit_3 (by decide) (fun hc => ?_) (fun hc => ?_)
  · replace hf := wb_t hc hf
    refine lv_iconst (v := (0 : Int32)) hx hb dX9_isDigit_16 (by decide) ?_
    exact W.zret (v := (0 : Int32)) hx hb hr (by decide) (fun t ht hW => ⟨_, rfl, Option.some.inj hf, ht⟩) (fun _ h => nomatch h) dX9_isDigit_17
  · replace hf := wb_f hc hf
    refine lv_iload_n hx hb dX9_isDigit_6 rfl (lv_at hl 0 rfl) ?_
    refine lv_bipush (v := (57 : Int32)) hx hb dX9_isDigit_7 (by decide) ?_
    refine lv_icmp_gt (tgt := 16) hx hb dX9_isDigit_9 (by decide) (fun hc => ?_) (fun hc => ?_)
    · replace hf := wb_t hc hf
      refine lv_iconst (v := (0 : Int32)) hx hb dX9_isDigit_16 (by decide) ?_
      exact W.zret (v := (0 : Int32)) hx hb hr (by decide) (fun t ht hW => ⟨_, rfl, Option.some.inj hf, ht⟩) (fun _ h => nomatch h) dX9_isDigit_17
    · replace hf := wb_f hc hf
      refine lv_iconst (v := (1 : Int32)) hx hb dX9_isDigit_12 (by decide) ?_
      refine lv_goto (tgt := 17) hx hb dX9_isDigit_13 (by decide) ?_
      exact W.zret (v := (1 : Int32)) hx hb hr (by decide) (fun t ht hW => ⟨_, rfl, Option.some.inj hf, ht⟩) (fun _ h => nomatch h) dX9_isDigit_17

set_option maxHeartbeats 4000000 in
set_option maxRecDepth 100000 in
theorem cn_X9_isBlank (l : Launch) (D : va_G) (cB cI cZ : ClassId) (N : Nat) (x0 : Int32) (R : Int32) (hf : fX9_isBlank N x0 = some R) : Met l yX9_isBlank wsX9_isBlank ({ frames := 0, cells := 0, slots := 0, locals := 0 }) (va_Pc [.int x0] (wb_pre D [(cB, .byte), (cI, .int), (cZ, .boolean)] ([] : va_W))) (vp_Si (fun r => r = R)) 0 0 (fun _ => False) := by
  refine Met.ofW (cc := cX9_isBlank) (maxL := 1) (ret := (some .boolean)) (by decide) rfl ?_
  intro p e s m args below meth c s₁ B hml hv
  obtain ⟨rfl, hP, hK⟩ := hv
  have hx := B.exec
  have hb := B.bytes
  have hr := B.returns
  have hts := atoms_spec (ws := wsX9_isBlank) B.pre
  have hown : s.vm.findClass RX9 = some m.cls := findClass_of_methodNamed B.named
  have hlocks := B.notSynchronized
  have hl := lv_entry ([.int x0]) (n := 1) (Nat.le_of_ble_eq_true rfl)
  rw [lg_entry_eq]
  generalize (lg_sl ([.int x0]) ++ List.replicate (1 - (lg_sl ([.int x0])).length) Slot.unset).toArray = ls at hl ⊢
  have hl : lv_has ls 1 [(0, .int x0)] := hl
  unfold fX9_isBlank at hf
  refine lv_iload_n hx hb dX9_isBlank_0 rfl (lv_at hl 0 rfl) ?_
  refine lv_bipush (v := (32 : Int32)) hx hb dX9_isBlank_1 (by decide) ?_
  refine lv_icmp_eq (tgt := 12) hx hb dX9_isBlank_3 (by decide) (fun hc => ?_) (fun hc => ?_)
  · replace hf := wb_t hc hf
    refine lv_iconst (v := (1 : Int32)) hx hb dX9_isBlank_12 (by decide) ?_
    refine lv_goto (tgt := 17) hx hb dX9_isBlank_13 (by decide) ?_
    exact W.zret (v := (1 : Int32)) hx hb hr (by decide) (fun t ht hW => ⟨_, rfl, Option.some.inj hf, ht⟩) (fun _ h => nomatch h) dX9_isBlank_17
  · replace hf := wb_f hc hf
    refine lv_iload_n hx hb dX9_isBlank_6 rfl (lv_at hl 0 rfl) ?_
    refine lv_bipush (v := (10 : Int32)) hx hb dX9_isBlank_7 (by decide) ?_
    refine lv_icmp_ne (tgt := 16) hx hb dX9_isBlank_9 (by decide) (fun hc => ?_) (fun hc => ?_)
    · replace hf := wb_f hc hf
      refine lv_iconst (v := (0 : Int32)) hx hb dX9_isBlank_16 (by decide) ?_
      exact W.zret (v := (0 : Int32)) hx hb hr (by decide) (fun t ht hW => ⟨_, rfl, Option.some.inj hf, ht⟩) (fun _ h => nomatch h) dX9_isBlank_17
    · replace hf := wb_t hc hf
      refine lv_iconst (v := (1 : Int32)) hx hb dX9_isBlank_12 (by decide) ?_
      refine lv_goto (tgt := 17) hx hb dX9_isBlank_13 (by decide) ?_
      exact W.zret (v := (1 : Int32)) hx hb hr (by decide) (fun t ht hW => ⟨_, rfl, Option.some.inj hf, ht⟩) (fun _ h => nomatch h) dX9_isBlank_17

set_option maxHeartbeats 4000000 in
set_option maxRecDepth 100000 in
theorem cn_X9_step (l : Launch) (D : va_G) (cB cI cZ : ClassId) (N : Nat) (a0 : Nat → Nat) (I0 : Nat → Int32) (M0 : Nat → Nat → Int32) (sz : Nat) (R : (Nat → Int32) × (Nat → Nat → Int32)) (hf : fX9_step N I0 M0 = some R) : Met l yX9_step wsX9_step ({ frames := 1, cells := 0, slots := 0, locals := 20 }) (va_Pc [.ref (a0 0)] (wb_preD D [(cB, .byte), (cI, .int), (cZ, .boolean)] (wWX9 cB cI cZ a0 I0 M0) sz)) (va_Qv (fun _ : Unit => True) (fun _ t => wb_post D [(cB, .byte), (cI, .int), (cZ, .boolean)] (va_A (wWX9 cB cI cZ a0 I0 M0) sz) (wWX9 cB cI cZ a0 R.1 R.2) t) (va_A (wWX9 cB cI cZ a0 I0 M0) sz)) 0 0 (va_A (wWX9 cB cI cZ a0 I0 M0) sz) := by
  refine Met.ofW (cc := cX9_step) (maxL := 1) (ret := none) (by decide) rfl ?_
  intro p e s m args below meth c s₁ B hml hv
  obtain ⟨rfl, hsz, hP, hK, hD0⟩ := hv
  have hx := B.exec
  have hb := B.bytes
  have hr := B.returns
  have hts := atoms_spec (ws := wsX9_step) B.pre
  have hown : s.vm.findClass RX9 = some m.cls := findClass_of_methodNamed B.named
  have hlocks := B.notSynchronized
  have hinX9 : ∀ w ∈ u_ws RX9 TX9 10, w ∈ wsX9_step := fun w h => List.mem_cons_of_mem _ (List.mem_append_right _ h)
  subst hsz
  have hD := hD0.self (sz := s.heap.size)
  generalize hAe : va_A (wWX9 cB cI cZ a0 I0 M0) s.heap.size = A at hD ⊢
  have hA : ∀ q : Nat, s.heap.size ≤ q → A q := fun q h => by rw [← hAe]; exact Or.inr h
  have hS : va_S A s.heap s.heap [] := va_S.rf
  have hl := lv_entry ([.ref (a0 0)]) (n := 1) (Nat.le_of_ble_eq_true rfl)
  rw [lg_entry_eq]
  generalize (lg_sl ([.ref (a0 0)]) ++ List.replicate (1 - (lg_sl ([.ref (a0 0)])).length) Slot.unset).toArray = ls at hl ⊢
  have hl : lv_has ls 1 [(0, .ref (a0 0))] := hl
  unfold fX9_step at hf
  obtain ⟨H, hHe⟩ : ∃ H : Heap, H = s.heap := ⟨_, rfl⟩
  obtain ⟨locs, hle⟩ : ∃ locs : List Loc, locs = [] := ⟨_, rfl⟩
  refine wb_start (H := H) (locs := locs) hHe hle ?_
  rw [← hHe] at hP
  have hS : va_S A s.heap H locs := by rw [hHe, hle]; exact va_S.rf
  have J254 : ∀ (I0_j254 : Nat → Int32) (M0_j254 : Nat → Nat → Int32) (z254_0 : Int32) (H : Heap) (locs : List Loc), va_P D vwCl (wWX9 cB cI cZ a0 I0_j254 M0_j254) H → va_D A (wWX9 cB cI cZ a0 I0_j254 M0_j254) → va_S A s.heap H locs → ∀ (ls : Array Slot), lv_has ls 1 [(0, .ref (a0 0))] → fX9_step_J254 N I0_j254 M0_j254 z254_0 = some R → W p l e (headSpec wsX9_step { frames := 1, cells := 0, slots := 0, locals := 20 }).room s m [.ref (a0 0)].toArray below meth c H locs 0 0 (MQ below (va_Qv (fun _ : Unit => True) (fun _ t => wb_post D [(cB, .byte), (cI, .int), (cZ, .boolean)] A (wWX9 cB cI cZ a0 R.1 R.2) t) A) [.ref (a0 0)].toArray s 0 0 A) (F0 m 254 ls [.int z254_0, .ref (a0 0)]) := by
    intro I0_j254 M0_j254 z254_0 H locs hP hD hS ls hl hf
    unfold fX9_step_J254 at hf
    refine va_put (D := D) (ci := 9) (v := .int z254_0) (ty := .int) (C := RX9) (T := TX9) (N := 10) hx hb hts hinX9 tyX9 tyX9_ok nmX9 hown hK hP hD hS 0 rfl rfl 5 (by decide) (hts (.fieldLink RX9 40 "WheelBook$Text" "kind" "I") (List.mem_of_getElem? (i := 5) rfl)) (fun _ h9 => h9) rfl (by decide +kernel) rfl rfl (Nat.le_of_ble_eq_true rfl) dX9_step_254 (fun H locs hP hD hS => ?_)
    have hP : va_P D vwCl (wWX9 cB cI cZ a0 (upd I0_j254 4 z254_0) M0_j254) H := hP
    have hD : va_D A (wWX9 cB cI cZ a0 (upd I0_j254 4 z254_0) M0_j254) := hD
    obtain ⟨I0_1, eI0_1, hf⟩ := wb_v hf
    rw [← eI0_1] at hP hD
    refine lv_aload_n hx hb dX9_step_257 rfl (lv_at hl 0 rfl) ?_
    refine lv_dup hx hb dX9_step_258 rfl ?_
    refine va_get (D := D) (ci := 9) (v := .int (I0_1 3)) (C := RX9) (T := TX9) (N := 10) hx hb hts hinX9 hown hK hP 0 rfl rfl 4 (by decide) (hts (.fieldLink RX9 31 "WheelBook$Text" "at" "I") (List.mem_of_getElem? (i := 1) rfl)) (fun _ h9 => h9) rfl dX9_step_259 ?_
    refine lv_iconst (v := (1 : Int32)) hx hb dX9_step_262 (by decide) ?_
    refine lv_iadd hx hb dX9_step_263 ?_
    refine va_put (D := D) (ci := 9) (v := .int ((I0_1 3) + (1 : Int32))) (ty := .int) (C := RX9) (T := TX9) (N := 10) hx hb hts hinX9 tyX9 tyX9_ok nmX9 hown hK hP hD hS 0 rfl rfl 4 (by decide) (hts (.fieldLink RX9 31 "WheelBook$Text" "at" "I") (List.mem_of_getElem? (i := 1) rfl)) (fun _ h9 => h9) rfl (by decide +kernel) rfl rfl (Nat.le_of_ble_eq_true rfl) dX9_step_264 (fun H locs hP hD hS => ?_)
    have hP : va_P D vwCl (wWX9 cB cI cZ a0 (upd I0_1 3 ((I0_1 3) + (1 : Int32))) M0_j254) H := hP
    have hD : va_D A (wWX9 cB cI cZ a0 (upd I0_1 3 ((I0_1 3) + (1 : Int32))) M0_j254) := hD
    obtain ⟨I0_2, eI0_2, hf⟩ := wb_v hf
    rw [← eI0_2] at hP hD
    exact W.vret hx hb hr (fun t ht hW => by rw [← Option.some.inj hf]; exact ⟨⟨(), rfl, trivial, by rw [ht]; exact hP, va_K.moved hW.alike hK, hD⟩, hS.F ht⟩) hS.2.2 dX9_step_267
  have J39 : ∀ (I0_j39 : Nat → Int32) (M0_j39 : Nat → Nat → Int32) (H : Heap) (locs : List Loc), va_P D vwCl (wWX9 cB cI cZ a0 I0_j39 M0_j39) H → va_D A (wWX9 cB cI cZ a0 I0_j39 M0_j39) → va_S A s.heap H locs → ∀ (ls : Array Slot), lv_has ls 1 [(0, .ref (a0 0))] → fX9_step_J39 N I0_j39 M0_j39 = some R → W p l e (headSpec wsX9_step { frames := 1, cells := 0, slots := 0, locals := 20 }).room s m [.ref (a0 0)].toArray below meth c H locs 0 0 (MQ below (va_Qv (fun _ : Unit => True) (fun _ t => wb_post D [(cB, .byte), (cI, .int), (cZ, .boolean)] A (wWX9 cB cI cZ a0 R.1 R.2) t) A) [.ref (a0 0)].toArray s 0 0 A) (F0 m 39 ls []) := by
    intro I0_j39 M0_j39 H locs hP hD hS ls hl hf
    unfold fX9_step_J39 at hf
    refine lv_aload_n hx hb dX9_step_39 rfl (lv_at hl 0 rfl) ?_
    refine lv_aload_n hx hb dX9_step_40 rfl (lv_at hl 0 rfl) ?_
    refine va_get (D := D) (ci := 9) (v := .int (I0_j39 3)) (C := RX9) (T := TX9) (N := 10) hx hb hts hinX9 hown hK hP 0 rfl rfl 4 (by decide) (hts (.fieldLink RX9 31 "WheelBook$Text" "at" "I") (List.mem_of_getElem? (i := 1) rfl)) (fun _ h9 => h9) rfl dX9_step_41 ?_
    refine va_put (D := D) (ci := 9) (v := .int (I0_j39 3)) (ty := .int) (C := RX9) (T := TX9) (N := 10) hx hb hts hinX9 tyX9 tyX9_ok nmX9 hown hK hP hD hS 0 rfl rfl 3 (by decide) (hts (.fieldLink RX9 47 "WheelBook$Text" "start" "I") (List.mem_of_getElem? (i := 4) rfl)) (fun _ h9 => h9) rfl (by decide +kernel) rfl rfl (Nat.le_of_ble_eq_true rfl) dX9_step_44 (fun H locs hP hD hS => ?_)
    have hP : va_P D vwCl (wWX9 cB cI cZ a0 (upd I0_j39 2 (I0_j39 3)) M0_j39) H := hP
    have hD : va_D A (wWX9 cB cI cZ a0 (upd I0_j39 2 (I0_j39 3)) M0_j39) := hD
    obtain ⟨I0_3, eI0_3, hf⟩ := wb_v hf
    rw [← eI0_3] at hP hD
    refine lv_aload_n hx hb dX9_step_47 rfl (lv_at hl 0 rfl) ?_
    refine va_get (D := D) (ci := 9) (v := .int (I0_3 3)) (C := RX9) (T := TX9) (N := 10) hx hb hts hinX9 hown hK hP 0 rfl rfl 4 (by decide) (hts (.fieldLink RX9 31 "WheelBook$Text" "at" "I") (List.mem_of_getElem? (i := 1) rfl)) (fun _ h9 => h9) rfl dX9_step_48 ?_
    refine lv_aload_n hx hb dX9_step_51 rfl (lv_at hl 0 rfl) ?_
    refine va_get (D := D) (ci := 9) (v := .int (I0_3 1)) (C := RX9) (T := TX9) (N := 10) hx hb hts hinX9 hown hK hP 0 rfl rfl 2 (by decide) (hts (.fieldLink RX9 28 "WheelBook$Text" "end" "I") (List.mem_of_getElem? (i := 2) rfl)) (fun _ h9 => h9) rfl dX9_step_52 ?_
    refine lv_icmp_lt (tgt := 66) hx hb dX9_step_55 (by decide) (fun hc => ?_) (fun hc => ?_)
    · replace hf := wb_t hc hf
      refine lv_aload_n hx hb dX9_step_66 rfl (lv_at hl 0 rfl) ?_
      refine va_get (D := D) (ci := 9) (v := .ref (a0 1)) (C := RX9) (T := TX9) (N := 10) hx hb hts hinX9 hown hK hP 0 rfl rfl 0 (by decide) (hts (.fieldLink RX9 11 "WheelBook$Text" "bytes" "[B") (List.mem_of_getElem? (i := 3) rfl)) (fun _ h9 => h9) rfl dX9_step_67 ?_
      refine lv_aload_n hx hb dX9_step_70 rfl (lv_at hl 0 rfl) ?_
      refine va_get (D := D) (ci := 9) (v := .int (I0_3 3)) (C := RX9) (T := TX9) (N := 10) hx hb hts hinX9 hown hK hP 0 rfl rfl 4 (by decide) (hts (.fieldLink RX9 31 "WheelBook$Text" "at" "I") (List.mem_of_getElem? (i := 1) rfl)) (fun _ h9 => h9) rfl dX9_step_71 ?_
      obtain ⟨hin, hf⟩ := wb_n hf
      refine va_bald hx hb hK hP 1 0 rfl rfl hin dX9_step_74 ?_
      obtain ⟨r4, hr4, hf⟩ := wb_b hf
      refine vp_callSi (W.runS (As := [.int (M0_j39 0 ((I0_3 3)).toNatClampNeg)]) (rest := []) ⟨hx, hb, hml, hown, hts⟩ (cn_X9_isLetter l D cB cI cZ N (M0_j39 0 ((I0_3 3)).toNatClampNeg) r4 hr4) (va_cwS 1 hts gX9_step_X9_isLetter rfl rfl rfl csX9_isLetter ⟨Nat.le_of_ble_eq_true rfl, Nat.le_of_ble_eq_true rfl⟩) (wb_preS (hP.sub (ws' := ([] : va_W)) [] rfl) hK) rfl rfl hl.1 rfl (lv_room (Nat.le_of_ble_eq_true rfl)) dX9_step_75 ⟨Nat.le_of_ble_eq_true rfl, Nat.le_of_ble_eq_true rfl⟩) (fun r9 e9 => ?_)
      rw [e9]
      refine lv_if_eq (tgt := 125) hx hb dX9_step_78 (by decide) (fun hc => ?_) (fun hc => ?_)
      · replace hf := wb_t hc hf
        refine lv_aload_n hx hb dX9_step_125 rfl (lv_at hl 0 rfl) ?_
        refine va_get (D := D) (ci := 9) (v := .ref (a0 1)) (C := RX9) (T := TX9) (N := 10) hx hb hts hinX9 hown hK hP 0 rfl rfl 0 (by decide) (hts (.fieldLink RX9 11 "WheelBook$Text" "bytes" "[B") (List.mem_of_getElem? (i := 3) rfl)) (fun _ h9 => h9) rfl dX9_step_126 ?_
        refine lv_aload_n hx hb dX9_step_129 rfl (lv_at hl 0 rfl) ?_
        refine va_get (D := D) (ci := 9) (v := .int (I0_3 3)) (C := RX9) (T := TX9) (N := 10) hx hb hts hinX9 hown hK hP 0 rfl rfl 4 (by decide) (hts (.fieldLink RX9 31 "WheelBook$Text" "at" "I") (List.mem_of_getElem? (i := 1) rfl)) (fun _ h9 => h9) rfl dX9_step_130 ?_
        obtain ⟨hin, hf⟩ := wb_n hf
        refine va_bald hx hb hK hP 1 0 rfl rfl hin dX9_step_133 ?_
        obtain ⟨r5, hr5, hf⟩ := wb_b hf
        refine vp_callSi (W.runS (As := [.int (M0_j39 0 ((I0_3 3)).toNatClampNeg)]) (rest := []) ⟨hx, hb, hml, hown, hts⟩ (cn_X9_isDigit l D cB cI cZ N (M0_j39 0 ((I0_3 3)).toNatClampNeg) r5 hr5) (va_cwS 1 hts gX9_step_X9_isDigit rfl rfl rfl csX9_isDigit ⟨Nat.le_of_ble_eq_true rfl, Nat.le_of_ble_eq_true rfl⟩) (wb_preS (hP.sub (ws' := ([] : va_W)) [] rfl) hK) rfl rfl hl.1 rfl (lv_room (Nat.le_of_ble_eq_true rfl)) dX9_step_134 ⟨Nat.le_of_ble_eq_true rfl, Nat.le_of_ble_eq_true rfl⟩) (fun r9 e9 => ?_)
        rw [e9]
        refine lv_if_eq (tgt := 234) hx hb dX9_step_137 (by decide) (fun hc => ?_) (fun hc => ?_)
        · replace hf := wb_t hc hf
          refine lv_aload_n hx hb dX9_step_234 rfl (lv_at hl 0 rfl) ?_
          refine lv_aload_n hx hb dX9_step_235 rfl (lv_at hl 0 rfl) ?_
          refine va_get (D := D) (ci := 9) (v := .ref (a0 1)) (C := RX9) (T := TX9) (N := 10) hx hb hts hinX9 hown hK hP 0 rfl rfl 0 (by decide) (hts (.fieldLink RX9 11 "WheelBook$Text" "bytes" "[B") (List.mem_of_getElem? (i := 3) rfl)) (fun _ h9 => h9) rfl dX9_step_236 ?_
          refine lv_aload_n hx hb dX9_step_239 rfl (lv_at hl 0 rfl) ?_
          refine va_get (D := D) (ci := 9) (v := .int (I0_3 3)) (C := RX9) (T := TX9) (N := 10) hx hb hts hinX9 hown hK hP 0 rfl rfl 4 (by decide) (hts (.fieldLink RX9 31 "WheelBook$Text" "at" "I") (List.mem_of_getElem? (i := 1) rfl)) (fun _ h9 => h9) rfl dX9_step_240 ?_
          obtain ⟨hin, hf⟩ := wb_n hf
          refine va_bald hx hb hK hP 1 0 rfl rfl hin dX9_step_243 ?_
          refine lv_bipush (v := (59 : Int32)) hx hb dX9_step_244 (by decide) ?_
          refine lv_icmp_ne (tgt := 253) hx hb dX9_step_246 (by decide) (fun hc => ?_) (fun hc => ?_)
          · replace hf := wb_f hc hf
            refine lv_iconst (v := (4 : Int32)) hx hb dX9_step_253 (by decide) ?_
            exact J254 I0_3 M0_j39 (4 : Int32) H locs hP hD hS ls (lv_sub hl [0] rfl) hf
          · replace hf := wb_t hc hf
            refine lv_iconst (v := (3 : Int32)) hx hb dX9_step_249 (by decide) ?_
            refine lv_goto (tgt := 254) hx hb dX9_step_250 (by decide) ?_
            exact J254 I0_3 M0_j39 (3 : Int32) H locs hP hD hS ls (lv_sub hl [0] rfl) hf
        · replace hf := wb_f hc hf
          refine lv_aload_n hx hb dX9_step_140 rfl (lv_at hl 0 rfl) ?_
          refine lv_iconst (v := (2 : Int32)) hx hb dX9_step_141 (by decide) ?_
          refine va_put (D := D) (ci := 9) (v := .int (2 : Int32)) (ty := .int) (C := RX9) (T := TX9) (N := 10) hx hb hts hinX9 tyX9 tyX9_ok nmX9 hown hK hP hD hS 0 rfl rfl 5 (by decide) (hts (.fieldLink RX9 40 "WheelBook$Text" "kind" "I") (List.mem_of_getElem? (i := 5) rfl)) (fun _ h9 => h9) rfl (by decide +kernel) rfl rfl (Nat.le_of_ble_eq_true rfl) dX9_step_142 (fun H locs hP hD hS => ?_)
          have hP : va_P D vwCl (wWX9 cB cI cZ a0 (upd I0_3 4 (2 : Int32)) M0_j39) H := hP
          have hD : va_D A (wWX9 cB cI cZ a0 (upd I0_3 4 (2 : Int32)) M0_j39) := hD
          obtain ⟨I0_6, eI0_6, hf⟩ := wb_v hf
          rw [← eI0_6] at hP hD
          refine lv_aload_n hx hb dX9_step_145 rfl (lv_at hl 0 rfl) ?_
          refine lv_iconst (v := (0 : Int32)) hx hb dX9_step_146 (by decide) ?_
          refine va_put (D := D) (ci := 9) (v := .int (0 : Int32)) (ty := .int) (C := RX9) (T := TX9) (N := 10) hx hb hts hinX9 tyX9 tyX9_ok nmX9 hown hK hP hD hS 0 rfl rfl 6 (by decide) (hts (.fieldLink RX9 56 "WheelBook$Text" "value" "I") (List.mem_of_getElem? (i := 6) rfl)) (fun _ h9 => h9) rfl (by decide +kernel) rfl rfl (Nat.le_of_ble_eq_true rfl) dX9_step_147 (fun H locs hP hD hS => ?_)
          have hP : va_P D vwCl (wWX9 cB cI cZ a0 (upd I0_6 5 (0 : Int32)) M0_j39) H := hP
          have hD : va_D A (wWX9 cB cI cZ a0 (upd I0_6 5 (0 : Int32)) M0_j39) := hD
          obtain ⟨I0_7, eI0_7, hf⟩ := wb_v hf
          rw [← eI0_7] at hP hD
          have L150 : ∀ (fu150 : Nat) (I0_l150 : Nat → Int32) (M0_l150 : Nat → Nat → Int32) (H : Heap) (locs : List Loc), va_P D vwCl (wWX9 cB cI cZ a0 I0_l150 M0_l150) H → va_D A (wWX9 cB cI cZ a0 I0_l150 M0_l150) → va_S A s.heap H locs → ∀ (ls : Array Slot), lv_has ls 1 [(0, .ref (a0 0))] → fX9_step_L150 N fu150 I0_l150 M0_l150 = some R → W p l e (headSpec wsX9_step { frames := 1, cells := 0, slots := 0, locals := 20 }).room s m [.ref (a0 0)].toArray below meth c H locs 0 0 (MQ below (va_Qv (fun _ : Unit => True) (fun _ t => wb_post D [(cB, .byte), (cI, .int), (cZ, .boolean)] A (wWX9 cB cI cZ a0 R.1 R.2) t) A) [.ref (a0 0)].toArray s 0 0 A) (F0 m 150 ls []) := by
            intro fu150
            induction fu150 with
            | zero =>
              intro I0_l150 M0_l150 H locs hP hD hS ls hl hf
              exact absurd hf (by rw [fX9_step_L150.eq_1]; exact fun h => nomatch h)
            | succ fu150 ih150 =>
              have J218 : ∀ (I0_j218 : Nat → Int32) (M0_j218 : Nat → Nat → Int32) (z218_0 : Int32) (H : Heap) (locs : List Loc), va_P D vwCl (wWX9 cB cI cZ a0 I0_j218 M0_j218) H → va_D A (wWX9 cB cI cZ a0 I0_j218 M0_j218) → va_S A s.heap H locs → ∀ (ls : Array Slot), lv_has ls 1 [(0, .ref (a0 0))] → fX9_step_J218 N (fX9_step_L150 N fu150) I0_j218 M0_j218 z218_0 = some R → W p l e (headSpec wsX9_step { frames := 1, cells := 0, slots := 0, locals := 20 }).room s m [.ref (a0 0)].toArray below meth c H locs 0 0 (MQ below (va_Qv (fun _ : Unit => True) (fun _ t => wb_post D [(cB, .byte), (cI, .int), (cZ, .boolean)] A (wWX9 cB cI cZ a0 R.1 R.2) t) A) [.ref (a0 0)].toArray s 0 0 A) (F0 m 218 ls [.int z218_0, .ref (a0 0)]) := by
                intro I0_j218 M0_j218 z218_0 H locs hP hD hS ls hl hf
                unfold fX9_step_J218 at hf
                refine va_put (D := D) (ci := 9) (v := .int z218_0) (ty := .int) (C := RX9) (T := TX9) (N := 10) hx hb hts hinX9 tyX9 tyX9_ok nmX9 hown hK hP hD hS 0 rfl rfl 6 (by decide) (hts (.fieldLink RX9 56 "WheelBook$Text" "value" "I") (List.mem_of_getElem? (i := 6) rfl)) (fun _ h9 => h9) rfl (by decide +kernel) rfl rfl (Nat.le_of_ble_eq_true rfl) dX9_step_218 (fun H locs hP hD hS => ?_)
                have hP : va_P D vwCl (wWX9 cB cI cZ a0 (upd I0_j218 5 z218_0) M0_j218) H := hP
                have hD : va_D A (wWX9 cB cI cZ a0 (upd I0_j218 5 z218_0) M0_j218) := hD
                obtain ⟨I0_8, eI0_8, hf⟩ := wb_v hf
                rw [← eI0_8] at hP hD
                refine lv_aload_n hx hb dX9_step_221 rfl (lv_at hl 0 rfl) ?_
                refine lv_dup hx hb dX9_step_222 rfl ?_
                refine va_get (D := D) (ci := 9) (v := .int (I0_8 3)) (C := RX9) (T := TX9) (N := 10) hx hb hts hinX9 hown hK hP 0 rfl rfl 4 (by decide) (hts (.fieldLink RX9 31 "WheelBook$Text" "at" "I") (List.mem_of_getElem? (i := 1) rfl)) (fun _ h9 => h9) rfl dX9_step_223 ?_
                refine lv_iconst (v := (1 : Int32)) hx hb dX9_step_226 (by decide) ?_
                refine lv_iadd hx hb dX9_step_227 ?_
                refine va_put (D := D) (ci := 9) (v := .int ((I0_8 3) + (1 : Int32))) (ty := .int) (C := RX9) (T := TX9) (N := 10) hx hb hts hinX9 tyX9 tyX9_ok nmX9 hown hK hP hD hS 0 rfl rfl 4 (by decide) (hts (.fieldLink RX9 31 "WheelBook$Text" "at" "I") (List.mem_of_getElem? (i := 1) rfl)) (fun _ h9 => h9) rfl (by decide +kernel) rfl rfl (Nat.le_of_ble_eq_true rfl) dX9_step_228 (fun H locs hP hD hS => ?_)
                have hP : va_P D vwCl (wWX9 cB cI cZ a0 (upd I0_8 3 ((I0_8 3) + (1 : Int32))) M0_j218) H := hP
                have hD : va_D A (wWX9 cB cI cZ a0 (upd I0_8 3 ((I0_8 3) + (1 : Int32))) M0_j218) := hD
                obtain ⟨I0_9, eI0_9, hf⟩ := wb_v hf
                rw [← eI0_9] at hP hD
                refine lv_goto (tgt := 150) hx hb dX9_step_231 (by decide) ?_
                exact ih150 I0_9 M0_j218 H locs hP hD hS ls (lv_sub hl [0] rfl) hf
              intro I0_l150 M0_l150 H locs hP hD hS ls hl hf
              rw [fX9_step_L150.eq_2] at hf
              refine lv_aload_n hx hb dX9_step_150 rfl (lv_at hl 0 rfl) ?_
              refine va_get (D := D) (ci := 9) (v := .int (I0_l150 3)) (C := RX9) (T := TX9) (N := 10) hx hb hts hinX9 hown hK hP 0 rfl rfl 4 (by decide) (hts (.fieldLink RX9 31 "WheelBook$Text" "at" "I") (List.mem_of_getElem? (i := 1) rfl)) (fun _ h9 => h9) rfl dX9_step_151 ?_
              refine lv_aload_n hx hb dX9_step_154 rfl (lv_at hl 0 rfl) ?_
              refine va_get (D := D) (ci := 9) (v := .int (I0_l150 1)) (C := RX9) (T := TX9) (N := 10) hx hb hts hinX9 hown hK hP 0 rfl rfl 2 (by decide) (hts (.fieldLink RX9 28 "WheelBook$Text" "end" "I") (List.mem_of_getElem? (i := 2) rfl)) (fun _ h9 => h9) rfl dX9_step_155 ?_
              refine lv_icmp_ge (tgt := 267) hx hb dX9_step_158 (by decide) (fun hc => ?_) (fun hc => ?_)
              · replace hf := wb_t hc hf
                exact W.vret hx hb hr (fun t ht hW => by rw [← Option.some.inj hf]; exact ⟨⟨(), rfl, trivial, by rw [ht]; exact hP, va_K.moved hW.alike hK, hD⟩, hS.F ht⟩) hS.2.2 dX9_step_267
              · replace hf := wb_f hc hf
                refine lv_aload_n hx hb dX9_step_161 rfl (lv_at hl 0 rfl) ?_
                refine va_get (D := D) (ci := 9) (v := .ref (a0 1)) (C := RX9) (T := TX9) (N := 10) hx hb hts hinX9 hown hK hP 0 rfl rfl 0 (by decide) (hts (.fieldLink RX9 11 "WheelBook$Text" "bytes" "[B") (List.mem_of_getElem? (i := 3) rfl)) (fun _ h9 => h9) rfl dX9_step_162 ?_
                refine lv_aload_n hx hb dX9_step_165 rfl (lv_at hl 0 rfl) ?_
                refine va_get (D := D) (ci := 9) (v := .int (I0_l150 3)) (C := RX9) (T := TX9) (N := 10) hx hb hts hinX9 hown hK hP 0 rfl rfl 4 (by decide) (hts (.fieldLink RX9 31 "WheelBook$Text" "at" "I") (List.mem_of_getElem? (i := 1) rfl)) (fun _ h9 => h9) rfl dX9_step_166 ?_
                obtain ⟨hin, hf⟩ := wb_n hf
                refine va_bald hx hb hK hP 1 0 rfl rfl hin dX9_step_169 ?_
                obtain ⟨r10, hr10, hf⟩ := wb_b hf
                refine vp_callSi (W.runS (As := [.int (M0_l150 0 ((I0_l150 3)).toNatClampNeg)]) (rest := []) ⟨hx, hb, hml, hown, hts⟩ (cn_X9_isDigit l D cB cI cZ N (M0_l150 0 ((I0_l150 3)).toNatClampNeg) r10 hr10) (va_cwS 1 hts gX9_step_X9_isDigit rfl rfl rfl csX9_isDigit ⟨Nat.le_of_ble_eq_true rfl, Nat.le_of_ble_eq_true rfl⟩) (wb_preS (hP.sub (ws' := ([] : va_W)) [] rfl) hK) rfl rfl hl.1 rfl (lv_room (Nat.le_of_ble_eq_true rfl)) dX9_step_170 ⟨Nat.le_of_ble_eq_true rfl, Nat.le_of_ble_eq_true rfl⟩) (fun r9 e9 => ?_)
                rw [e9]
                refine lv_if_eq (tgt := 267) hx hb dX9_step_173 (by decide) (fun hc => ?_) (fun hc => ?_)
                · replace hf := wb_t hc hf
                  exact W.vret hx hb hr (fun t ht hW => by rw [← Option.some.inj hf]; exact ⟨⟨(), rfl, trivial, by rw [ht]; exact hP, va_K.moved hW.alike hK, hD⟩, hS.F ht⟩) hS.2.2 dX9_step_267
                · replace hf := wb_f hc hf
                  refine lv_aload_n hx hb dX9_step_176 rfl (lv_at hl 0 rfl) ?_
                  refine lv_aload_n hx hb dX9_step_177 rfl (lv_at hl 0 rfl) ?_
                  refine va_get (D := D) (ci := 9) (v := .int (I0_l150 3)) (C := RX9) (T := TX9) (N := 10) hx hb hts hinX9 hown hK hP 0 rfl rfl 4 (by decide) (hts (.fieldLink RX9 31 "WheelBook$Text" "at" "I") (List.mem_of_getElem? (i := 1) rfl)) (fun _ h9 => h9) rfl dX9_step_178 ?_
                  refine lv_aload_n hx hb dX9_step_181 rfl (lv_at hl 0 rfl) ?_
                  refine va_get (D := D) (ci := 9) (v := .int (I0_l150 2)) (C := RX9) (T := TX9) (N := 10) hx hb hts hinX9 hown hK hP 0 rfl rfl 3 (by decide) (hts (.fieldLink RX9 47 "WheelBook$Text" "start" "I") (List.mem_of_getElem? (i := 4) rfl)) (fun _ h9 => h9) rfl dX9_step_182 ?_
                  refine lv_isub hx hb dX9_step_185 ?_
                  refine lv_bipush (v := (7 : Int32)) hx hb dX9_step_186 (by decide) ?_
                  refine lv_icmp_ge (tgt := 214) hx hb dX9_step_188 (by decide) (fun hc => ?_) (fun hc => ?_)
                  · replace hf := wb_t hc hf
                    refine lv_aload_n hx hb dX9_step_214 rfl (lv_at hl 0 rfl) ?_
                    refine va_get (D := D) (ci := 9) (v := .int (I0_l150 5)) (C := RX9) (T := TX9) (N := 10) hx hb hts hinX9 hown hK hP 0 rfl rfl 6 (by decide) (hts (.fieldLink RX9 56 "WheelBook$Text" "value" "I") (List.mem_of_getElem? (i := 6) rfl)) (fun _ h9 => h9) rfl dX9_step_215 ?_
                    exact J218 I0_l150 M0_l150 (I0_l150 5) H locs hP hD hS ls (lv_sub hl [0] rfl) hf
                  · replace hf := wb_f hc hf
                    refine lv_bipush (v := (10 : Int32)) hx hb dX9_step_191 (by decide) ?_
                    refine lv_aload_n hx hb dX9_step_193 rfl (lv_at hl 0 rfl) ?_
                    refine va_get (D := D) (ci := 9) (v := .int (I0_l150 5)) (C := RX9) (T := TX9) (N := 10) hx hb hts hinX9 hown hK hP 0 rfl rfl 6 (by decide) (hts (.fieldLink RX9 56 "WheelBook$Text" "value" "I") (List.mem_of_getElem? (i := 6) rfl)) (fun _ h9 => h9) rfl dX9_step_194 ?_
                    refine lv_imul hx hb dX9_step_197 ?_
                    refine lv_aload_n hx hb dX9_step_198 rfl (lv_at hl 0 rfl) ?_
                    refine va_get (D := D) (ci := 9) (v := .ref (a0 1)) (C := RX9) (T := TX9) (N := 10) hx hb hts hinX9 hown hK hP 0 rfl rfl 0 (by decide) (hts (.fieldLink RX9 11 "WheelBook$Text" "bytes" "[B") (List.mem_of_getElem? (i := 3) rfl)) (fun _ h9 => h9) rfl dX9_step_199 ?_
                    refine lv_aload_n hx hb dX9_step_202 rfl (lv_at hl 0 rfl) ?_
                    refine va_get (D := D) (ci := 9) (v := .int (I0_l150 3)) (C := RX9) (T := TX9) (N := 10) hx hb hts hinX9 hown hK hP 0 rfl rfl 4 (by decide) (hts (.fieldLink RX9 31 "WheelBook$Text" "at" "I") (List.mem_of_getElem? (i := 1) rfl)) (fun _ h9 => h9) rfl dX9_step_203 ?_
                    obtain ⟨hin, hf⟩ := wb_n hf
                    refine va_bald hx hb hK hP 1 0 rfl rfl hin dX9_step_206 ?_
                    refine lv_iadd hx hb dX9_step_207 ?_
                    refine lv_bipush (v := (48 : Int32)) hx hb dX9_step_208 (by decide) ?_
                    refine lv_isub hx hb dX9_step_210 ?_
                    refine lv_goto (tgt := 218) hx hb dX9_step_211 (by decide) ?_
                    exact J218 I0_l150 M0_l150 ((((10 : Int32) * (I0_l150 5)) + (M0_l150 0 ((I0_l150 3)).toNatClampNeg)) - (48 : Int32)) H locs hP hD hS ls (lv_sub hl [0] rfl) hf
          exact L150 N I0_7 M0_j39 H locs hP hD hS ls (lv_sub hl [0] rfl) hf
      · replace hf := wb_f hc hf
        refine lv_aload_n hx hb dX9_step_81 rfl (lv_at hl 0 rfl) ?_
        refine lv_iconst (v := (1 : Int32)) hx hb dX9_step_82 (by decide) ?_
        refine va_put (D := D) (ci := 9) (v := .int (1 : Int32)) (ty := .int) (C := RX9) (T := TX9) (N := 10) hx hb hts hinX9 tyX9 tyX9_ok nmX9 hown hK hP hD hS 0 rfl rfl 5 (by decide) (hts (.fieldLink RX9 40 "WheelBook$Text" "kind" "I") (List.mem_of_getElem? (i := 5) rfl)) (fun _ h9 => h9) rfl (by decide +kernel) rfl rfl (Nat.le_of_ble_eq_true rfl) dX9_step_83 (fun H locs hP hD hS => ?_)
        have hP : va_P D vwCl (wWX9 cB cI cZ a0 (upd I0_3 4 (1 : Int32)) M0_j39) H := hP
        have hD : va_D A (wWX9 cB cI cZ a0 (upd I0_3 4 (1 : Int32)) M0_j39) := hD
        obtain ⟨I0_11, eI0_11, hf⟩ := wb_v hf
        rw [← eI0_11] at hP hD
        have L86 : ∀ (fu86 : Nat) (I0_l86 : Nat → Int32) (M0_l86 : Nat → Nat → Int32) (H : Heap) (locs : List Loc), va_P D vwCl (wWX9 cB cI cZ a0 I0_l86 M0_l86) H → va_D A (wWX9 cB cI cZ a0 I0_l86 M0_l86) → va_S A s.heap H locs → ∀ (ls : Array Slot), lv_has ls 1 [(0, .ref (a0 0))] → fX9_step_L86 N fu86 I0_l86 M0_l86 = some R → W p l e (headSpec wsX9_step { frames := 1, cells := 0, slots := 0, locals := 20 }).room s m [.ref (a0 0)].toArray below meth c H locs 0 0 (MQ below (va_Qv (fun _ : Unit => True) (fun _ t => wb_post D [(cB, .byte), (cI, .int), (cZ, .boolean)] A (wWX9 cB cI cZ a0 R.1 R.2) t) A) [.ref (a0 0)].toArray s 0 0 A) (F0 m 86 ls []) := by
          intro fu86
          induction fu86 with
          | zero =>
            intro I0_l86 M0_l86 H locs hP hD hS ls hl hf
            exact absurd hf (by rw [fX9_step_L86.eq_1]; exact fun h => nomatch h)
          | succ fu86 ih86 =>
            intro I0_l86 M0_l86 H locs hP hD hS ls hl hf
            rw [fX9_step_L86.eq_2] at hf
            refine lv_aload_n hx hb dX9_step_86 rfl (lv_at hl 0 rfl) ?_
            refine va_get (D := D) (ci := 9) (v := .int (I0_l86 3)) (C := RX9) (T := TX9) (N := 10) hx hb hts hinX9 hown hK hP 0 rfl rfl 4 (by decide) (hts (.fieldLink RX9 31 "WheelBook$Text" "at" "I") (List.mem_of_getElem? (i := 1) rfl)) (fun _ h9 => h9) rfl dX9_step_87 ?_
            refine lv_aload_n hx hb dX9_step_90 rfl (lv_at hl 0 rfl) ?_
            refine va_get (D := D) (ci := 9) (v := .int (I0_l86 1)) (C := RX9) (T := TX9) (N := 10) hx hb hts hinX9 hown hK hP 0 rfl rfl 2 (by decide) (hts (.fieldLink RX9 28 "WheelBook$Text" "end" "I") (List.mem_of_getElem? (i := 2) rfl)) (fun _ h9 => h9) rfl dX9_step_91 ?_
            refine lv_icmp_ge (tgt := 267) hx hb dX9_step_94 (by decide) (fun hc => ?_) (fun hc => ?_)
            · replace hf := wb_t hc hf
              exact W.vret hx hb hr (fun t ht hW => by rw [← Option.some.inj hf]; exact ⟨⟨(), rfl, trivial, by rw [ht]; exact hP, va_K.moved hW.alike hK, hD⟩, hS.F ht⟩) hS.2.2 dX9_step_267
            · replace hf := wb_f hc hf
              refine lv_aload_n hx hb dX9_step_97 rfl (lv_at hl 0 rfl) ?_
              refine va_get (D := D) (ci := 9) (v := .ref (a0 1)) (C := RX9) (T := TX9) (N := 10) hx hb hts hinX9 hown hK hP 0 rfl rfl 0 (by decide) (hts (.fieldLink RX9 11 "WheelBook$Text" "bytes" "[B") (List.mem_of_getElem? (i := 3) rfl)) (fun _ h9 => h9) rfl dX9_step_98 ?_
              refine lv_aload_n hx hb dX9_step_101 rfl (lv_at hl 0 rfl) ?_
              refine va_get (D := D) (ci := 9) (v := .int (I0_l86 3)) (C := RX9) (T := TX9) (N := 10) hx hb hts hinX9 hown hK hP 0 rfl rfl 4 (by decide) (hts (.fieldLink RX9 31 "WheelBook$Text" "at" "I") (List.mem_of_getElem? (i := 1) rfl)) (fun _ h9 => h9) rfl dX9_step_102 ?_
              obtain ⟨hin, hf⟩ := wb_n hf
              refine va_bald hx hb hK hP 1 0 rfl rfl hin dX9_step_105 ?_
              obtain ⟨r12, hr12, hf⟩ := wb_b hf
              refine vp_callSi (W.runS (As := [.int (M0_l86 0 ((I0_l86 3)).toNatClampNeg)]) (rest := []) ⟨hx, hb, hml, hown, hts⟩ (cn_X9_isLetter l D cB cI cZ N (M0_l86 0 ((I0_l86 3)).toNatClampNeg) r12 hr12) (va_cwS 1 hts gX9_step_X9_isLetter rfl rfl rfl csX9_isLetter ⟨Nat.le_of_ble_eq_true rfl, Nat.le_of_ble_eq_true rfl⟩) (wb_preS (hP.sub (ws' := ([] : va_W)) [] rfl) hK) rfl rfl hl.1 rfl (lv_room (Nat.le_of_ble_eq_true rfl)) dX9_step_106 ⟨Nat.le_of_ble_eq_true rfl, Nat.le_of_ble_eq_true rfl⟩) (fun r9 e9 => ?_)
              rw [e9]
              refine lv_if_eq (tgt := 267) hx hb dX9_step_109 (by decide) (fun hc => ?_) (fun hc => ?_)
              · replace hf := wb_t hc hf
                exact W.vret hx hb hr (fun t ht hW => by rw [← Option.some.inj hf]; exact ⟨⟨(), rfl, trivial, by rw [ht]; exact hP, va_K.moved hW.alike hK, hD⟩, hS.F ht⟩) hS.2.2 dX9_step_267
              · replace hf := wb_f hc hf
                refine lv_aload_n hx hb dX9_step_112 rfl (lv_at hl 0 rfl) ?_
                refine lv_dup hx hb dX9_step_113 rfl ?_
                refine va_get (D := D) (ci := 9) (v := .int (I0_l86 3)) (C := RX9) (T := TX9) (N := 10) hx hb hts hinX9 hown hK hP 0 rfl rfl 4 (by decide) (hts (.fieldLink RX9 31 "WheelBook$Text" "at" "I") (List.mem_of_getElem? (i := 1) rfl)) (fun _ h9 => h9) rfl dX9_step_114 ?_
                refine lv_iconst (v := (1 : Int32)) hx hb dX9_step_117 (by decide) ?_
                refine lv_iadd hx hb dX9_step_118 ?_
                refine va_put (D := D) (ci := 9) (v := .int ((I0_l86 3) + (1 : Int32))) (ty := .int) (C := RX9) (T := TX9) (N := 10) hx hb hts hinX9 tyX9 tyX9_ok nmX9 hown hK hP hD hS 0 rfl rfl 4 (by decide) (hts (.fieldLink RX9 31 "WheelBook$Text" "at" "I") (List.mem_of_getElem? (i := 1) rfl)) (fun _ h9 => h9) rfl (by decide +kernel) rfl rfl (Nat.le_of_ble_eq_true rfl) dX9_step_119 (fun H locs hP hD hS => ?_)
                have hP : va_P D vwCl (wWX9 cB cI cZ a0 (upd I0_l86 3 ((I0_l86 3) + (1 : Int32))) M0_l86) H := hP
                have hD : va_D A (wWX9 cB cI cZ a0 (upd I0_l86 3 ((I0_l86 3) + (1 : Int32))) M0_l86) := hD
                obtain ⟨I0_13, eI0_13, hf⟩ := wb_v hf
                rw [← eI0_13] at hP hD
                refine lv_goto (tgt := 86) hx hb dX9_step_122 (by decide) ?_
                exact ih86 I0_13 M0_l86 H locs hP hD hS ls (lv_sub hl [0] rfl) hf
        exact L86 N I0_11 M0_j39 H locs hP hD hS ls (lv_sub hl [0] rfl) hf
    · replace hf := wb_f hc hf
      refine lv_aload_n hx hb dX9_step_58 rfl (lv_at hl 0 rfl) ?_
      refine lv_iconst (v := (0 : Int32)) hx hb dX9_step_59 (by decide) ?_
      refine va_put (D := D) (ci := 9) (v := .int (0 : Int32)) (ty := .int) (C := RX9) (T := TX9) (N := 10) hx hb hts hinX9 tyX9 tyX9_ok nmX9 hown hK hP hD hS 0 rfl rfl 5 (by decide) (hts (.fieldLink RX9 40 "WheelBook$Text" "kind" "I") (List.mem_of_getElem? (i := 5) rfl)) (fun _ h9 => h9) rfl (by decide +kernel) rfl rfl (Nat.le_of_ble_eq_true rfl) dX9_step_60 (fun H locs hP hD hS => ?_)
      have hP : va_P D vwCl (wWX9 cB cI cZ a0 (upd I0_3 4 (0 : Int32)) M0_j39) H := hP
      have hD : va_D A (wWX9 cB cI cZ a0 (upd I0_3 4 (0 : Int32)) M0_j39) := hD
      obtain ⟨I0_14, eI0_14, hf⟩ := wb_v hf
      rw [← eI0_14] at hP hD
      refine lv_goto (tgt := 267) hx hb dX9_step_63 (by decide) ?_
      exact W.vret hx hb hr (fun t ht hW => by rw [← Option.some.inj hf]; exact ⟨⟨(), rfl, trivial, by rw [ht]; exact hP, va_K.moved hW.alike hK, hD⟩, hS.F ht⟩) hS.2.2 dX9_step_267
  have L0 : ∀ (fu0 : Nat) (I0_l0 : Nat → Int32) (M0_l0 : Nat → Nat → Int32) (H : Heap) (locs : List Loc), va_P D vwCl (wWX9 cB cI cZ a0 I0_l0 M0_l0) H → va_D A (wWX9 cB cI cZ a0 I0_l0 M0_l0) → va_S A s.heap H locs → ∀ (ls : Array Slot), lv_has ls 1 [(0, .ref (a0 0))] → fX9_step_L0 N fu0 I0_l0 M0_l0 = some R → W p l e (headSpec wsX9_step { frames := 1, cells := 0, slots := 0, locals := 20 }).room s m [.ref (a0 0)].toArray below meth c H locs 0 0 (MQ below (va_Qv (fun _ : Unit => True) (fun _ t => wb_post D [(cB, .byte), (cI, .int), (cZ, .boolean)] A (wWX9 cB cI cZ a0 R.1 R.2) t) A) [.ref (a0 0)].toArray s 0 0 A) (F0 m 0 ls []) := by
    intro fu0
    induction fu0 with
    | zero =>
      intro I0_l0 M0_l0 H locs hP hD hS ls hl hf
      exact absurd hf (by rw [fX9_step_L0.eq_1]; exact fun h => nomatch h)
    | succ fu0 ih0 =>
      intro I0_l0 M0_l0 H locs hP hD hS ls hl hf
      rw [fX9_step_L0.eq_2] at hf
      refine lv_aload_n hx hb dX9_step_0 rfl (lv_at hl 0 rfl) ?_
      refine va_get (D := D) (ci := 9) (v := .int (I0_l0 3)) (C := RX9) (T := TX9) (N := 10) hx hb hts hinX9 hown hK hP 0 rfl rfl 4 (by decide) (hts (.fieldLink RX9 31 "WheelBook$Text" "at" "I") (List.mem_of_getElem? (i := 1) rfl)) (fun _ h9 => h9) rfl dX9_step_1 ?_
      refine lv_aload_n hx hb dX9_step_4 rfl (lv_at hl 0 rfl) ?_
      refine va_get (D := D) (ci := 9) (v := .int (I0_l0 1)) (C := RX9) (T := TX9) (N := 10) hx hb hts hinX9 hown hK hP 0 rfl rfl 2 (by decide) (hts (.fieldLink RX9 28 "WheelBook$Text" "end" "I") (List.mem_of_getElem? (i := 2) rfl)) (fun _ h9 => h9) rfl dX9_step_5 ?_
      refine lv_icmp_ge (tgt := 39) hx hb dX9_step_8 (by decide) (fun hc => ?_) (fun hc => ?_)
      · replace hf := wb_t hc hf
        exact J39 I0_l0 M0_l0 H locs hP hD hS ls (lv_sub hl [0] rfl) hf
      · replace hf := wb_f hc hf
        refine lv_aload_n hx hb dX9_step_11 rfl (lv_at hl 0 rfl) ?_
        refine va_get (D := D) (ci := 9) (v := .ref (a0 1)) (C := RX9) (T := TX9) (N := 10) hx hb hts hinX9 hown hK hP 0 rfl rfl 0 (by decide) (hts (.fieldLink RX9 11 "WheelBook$Text" "bytes" "[B") (List.mem_of_getElem? (i := 3) rfl)) (fun _ h9 => h9) rfl dX9_step_12 ?_
        refine lv_aload_n hx hb dX9_step_15 rfl (lv_at hl 0 rfl) ?_
        refine va_get (D := D) (ci := 9) (v := .int (I0_l0 3)) (C := RX9) (T := TX9) (N := 10) hx hb hts hinX9 hown hK hP 0 rfl rfl 4 (by decide) (hts (.fieldLink RX9 31 "WheelBook$Text" "at" "I") (List.mem_of_getElem? (i := 1) rfl)) (fun _ h9 => h9) rfl dX9_step_16 ?_
        obtain ⟨hin, hf⟩ := wb_n hf
        refine va_bald hx hb hK hP 1 0 rfl rfl hin dX9_step_19 ?_
        obtain ⟨r15, hr15, hf⟩ := wb_b hf
        refine vp_callSi (W.runS (As := [.int (M0_l0 0 ((I0_l0 3)).toNatClampNeg)]) (rest := []) ⟨hx, hb, hml, hown, hts⟩ (cn_X9_isBlank l D cB cI cZ N (M0_l0 0 ((I0_l0 3)).toNatClampNeg) r15 hr15) (va_cwS 1 hts gX9_step_X9_isBlank rfl rfl rfl csX9_isBlank ⟨Nat.le_of_ble_eq_true rfl, Nat.le_of_ble_eq_true rfl⟩) (wb_preS (hP.sub (ws' := ([] : va_W)) [] rfl) hK) rfl rfl hl.1 rfl (lv_room (Nat.le_of_ble_eq_true rfl)) dX9_step_20 ⟨Nat.le_of_ble_eq_true rfl, Nat.le_of_ble_eq_true rfl⟩) (fun r9 e9 => ?_)
        rw [e9]
        refine lv_if_eq (tgt := 39) hx hb dX9_step_23 (by decide) (fun hc => ?_) (fun hc => ?_)
        · replace hf := wb_t hc hf
          exact J39 I0_l0 M0_l0 H locs hP hD hS ls (lv_sub hl [0] rfl) hf
        · replace hf := wb_f hc hf
          refine lv_aload_n hx hb dX9_step_26 rfl (lv_at hl 0 rfl) ?_
          refine lv_dup hx hb dX9_step_27 rfl ?_
          refine va_get (D := D) (ci := 9) (v := .int (I0_l0 3)) (C := RX9) (T := TX9) (N := 10) hx hb hts hinX9 hown hK hP 0 rfl rfl 4 (by decide) (hts (.fieldLink RX9 31 "WheelBook$Text" "at" "I") (List.mem_of_getElem? (i := 1) rfl)) (fun _ h9 => h9) rfl dX9_step_28 ?_
          refine lv_iconst (v := (1 : Int32)) hx hb dX9_step_31 (by decide) ?_
          refine lv_iadd hx hb dX9_step_32 ?_
          refine va_put (D := D) (ci := 9) (v := .int ((I0_l0 3) + (1 : Int32))) (ty := .int) (C := RX9) (T := TX9) (N := 10) hx hb hts hinX9 tyX9 tyX9_ok nmX9 hown hK hP hD hS 0 rfl rfl 4 (by decide) (hts (.fieldLink RX9 31 "WheelBook$Text" "at" "I") (List.mem_of_getElem? (i := 1) rfl)) (fun _ h9 => h9) rfl (by decide +kernel) rfl rfl (Nat.le_of_ble_eq_true rfl) dX9_step_33 (fun H locs hP hD hS => ?_)
          have hP : va_P D vwCl (wWX9 cB cI cZ a0 (upd I0_l0 3 ((I0_l0 3) + (1 : Int32))) M0_l0) H := hP
          have hD : va_D A (wWX9 cB cI cZ a0 (upd I0_l0 3 ((I0_l0 3) + (1 : Int32))) M0_l0) := hD
          obtain ⟨I0_16, eI0_16, hf⟩ := wb_v hf
          rw [← eI0_16] at hP hD
          refine lv_goto (tgt := 0) hx hb dX9_step_36 (by decide) ?_
          exact ih0 I0_16 M0_l0 H locs hP hD hS ls (lv_sub hl [0] rfl) hf
  exact L0 N I0 M0 H locs hP hD hS ls (lv_sub hl [0] rfl) hf

set_option maxHeartbeats 4000000 in
set_option maxRecDepth 100000 in
theorem cn_X9_holdsNumber (l : Launch) (D : va_G) (cB cI cZ : ClassId) (N : Nat) (a0 : Nat → Nat) (I0 : Nat → Int32) (M0 : Nat → Nat → Int32) (x1 : Int32) (x2 : Int32) (sz : Nat) (R : Int32 × (Nat → Int32) × (Nat → Nat → Int32)) (hf : fX9_holdsNumber N I0 M0 x1 x2 = some R) : Met l yX9_holdsNumber wsX9_holdsNumber ({ frames := 1, cells := 0, slots := 0, locals := 21 }) (va_Pc [.ref (a0 0), .int x1, .int x2] (wb_preD D [(cB, .byte), (cI, .int), (cZ, .boolean)] (wWX9 cB cI cZ a0 I0 M0) sz)) (va_Qi (fun r (_ : Unit) => r = R.1) (fun _ t => wb_post D [(cB, .byte), (cI, .int), (cZ, .boolean)] (va_A (wWX9 cB cI cZ a0 I0 M0) sz) (wWX9 cB cI cZ a0 R.2.1 R.2.2) t) (va_A (wWX9 cB cI cZ a0 I0 M0) sz)) 0 0 (va_A (wWX9 cB cI cZ a0 I0 M0) sz) := by
  refine Met.ofW (cc := cX9_holdsNumber) (maxL := 3) (ret := (some .boolean)) (by decide) rfl ?_
  intro p e s m args below meth c s₁ B hml hv
  obtain ⟨rfl, hsz, hP, hK, hD0⟩ := hv
  have hx := B.exec
  have hb := B.bytes
  have hr := B.returns
  have hts := atoms_spec (ws := wsX9_holdsNumber) B.pre
  have hown : s.vm.findClass RX9 = some m.cls := findClass_of_methodNamed B.named
  have hlocks := B.notSynchronized
  have hinX9 : ∀ w ∈ u_ws RX9 TX9 10, w ∈ wsX9_holdsNumber := fun w h => List.mem_cons_of_mem _ (List.mem_append_right _ h)
  subst hsz
  have hD := hD0.self (sz := s.heap.size)
  generalize hAe : va_A (wWX9 cB cI cZ a0 I0 M0) s.heap.size = A at hD ⊢
  have hA : ∀ q : Nat, s.heap.size ≤ q → A q := fun q h => by rw [← hAe]; exact Or.inr h
  have hS : va_S A s.heap s.heap [] := va_S.rf
  have hl := lv_entry ([.ref (a0 0), .int x1, .int x2]) (n := 3) (Nat.le_of_ble_eq_true rfl)
  rw [lg_entry_eq]
  generalize (lg_sl ([.ref (a0 0), .int x1, .int x2]) ++ List.replicate (3 - (lg_sl ([.ref (a0 0), .int x1, .int x2])).length) Slot.unset).toArray = ls at hl ⊢
  have hl : lv_has ls 3 [(0, .ref (a0 0)), (1, .int x1), (2, .int x2)] := hl
  unfold fX9_holdsNumber at hf
  obtain ⟨H, hHe⟩ : ∃ H : Heap, H = s.heap := ⟨_, rfl⟩
  obtain ⟨locs, hle⟩ : ∃ locs : List Loc, locs = [] := ⟨_, rfl⟩
  refine wb_start (H := H) (locs := locs) hHe hle ?_
  rw [← hHe] at hP
  have hS : va_S A s.heap H locs := by rw [hHe, hle]; exact va_S.rf
  refine lv_aload_n hx hb dX9_holdsNumber_0 rfl (lv_at hl 0 rfl) ?_
  refine va_get (D := D) (ci := 9) (v := .int (I0 4)) (C := RX9) (T := TX9) (N := 10) hx hb hts hinX9 hown hK hP 0 rfl rfl 5 (by decide) (hts (.fieldLink RX9 40 "WheelBook$Text" "kind" "I") (List.mem_of_getElem? (i := 1) rfl)) (fun _ h9 => h9) rfl dX9_holdsNumber_1 ?_
  refine lv_iconst (v := (2 : Int32)) hx hb dX9_holdsNumber_4 (by decide) ?_
  refine lv_icmp_eq (tgt := 14) hx hb dX9_holdsNumber_5 (by decide) (fun hc => ?_) (fun hc => ?_)
  · replace hf := wb_t hc hf
    refine lv_aload_n hx hb dX9_holdsNumber_14 rfl (lv_at hl 0 rfl) ?_
    refine va_get (D := D) (ci := 9) (v := .int (I0 3)) (C := RX9) (T := TX9) (N := 10) hx hb hts hinX9 hown hK hP 0 rfl rfl 4 (by decide) (hts (.fieldLink RX9 31 "WheelBook$Text" "at" "I") (List.mem_of_getElem? (i := 2) rfl)) (fun _ h9 => h9) rfl dX9_holdsNumber_15 ?_
    refine lv_aload_n hx hb dX9_holdsNumber_18 rfl (lv_at hl 0 rfl) ?_
    refine va_get (D := D) (ci := 9) (v := .int (I0 2)) (C := RX9) (T := TX9) (N := 10) hx hb hts hinX9 hown hK hP 0 rfl rfl 3 (by decide) (hts (.fieldLink RX9 47 "WheelBook$Text" "start" "I") (List.mem_of_getElem? (i := 3) rfl)) (fun _ h9 => h9) rfl dX9_holdsNumber_19 ?_
    refine lv_isub hx hb dX9_holdsNumber_22 ?_
    refine lv_bipush (v := (7 : Int32)) hx hb dX9_holdsNumber_23 (by decide) ?_
    refine lv_icmp_gt (tgt := 44) hx hb dX9_holdsNumber_25 (by decide) (fun hc => ?_) (fun hc => ?_)
    · replace hf := wb_t hc hf
      refine lv_aload_n hx hb dX9_holdsNumber_44 rfl (lv_at hl 0 rfl) ?_
      refine lv_iconst (v := (2 : Int32)) hx hb dX9_holdsNumber_45 (by decide) ?_
      obtain ⟨r1, hr1, hf⟩ := wb_b hf
      have hPc := hP.sub (ws' := (wWX9 cB cI cZ a0 I0 M0)) [0, 1] rfl
      have hDc := hD.sub (ws' := (wWX9 cB cI cZ a0 I0 M0)) [0, 1] (by decide) rfl
      have hFc := va_free (wc := (wWX9 cB cI cZ a0 I0 M0)) hD hS hA [0, 1] rfl
      refine va_calli (va_runV (As := [.int (2 : Int32)]) (rest := []) ⟨hx, hb, hml, hown, hts⟩ (cn_X9_refuse l D cB cI cZ N a0 I0 M0 (2 : Int32) H.size r1 hr1) (cwV 1 hts gX9_holdsNumber_X9_refuse rfl rfl rfl cdX9_refuse ⟨Nat.le_of_ble_eq_true rfl, Nat.le_of_ble_eq_true rfl⟩) (wb_preDV hPc hK hDc (va_recv hK hP (ci := 9) (q0 := 0) rfl rfl)) rfl rfl hl.1 rfl (lv_room (Nat.le_of_ble_eq_true rfl)) dX9_holdsNumber_46 ⟨Nat.le_of_ble_eq_true rfl, Nat.le_of_ble_eq_true rfl⟩) hS (fun q _ h => hFc q h) hFc (fun r9 u t H locs ht hvm hw hB hz1 hk1 hS => ?_)
      obtain ⟨hP, hD⟩ := wb_join (wc := (wWX9 cB cI cZ a0 I0 M0)) (w1 := (wWX9 cB cI cZ a0 r1.2.1 r1.2.2)) (wf := (wWX9 cB cI cZ a0 r1.2.1 r1.2.2)) hP hD [0, 1] [] [0, 1] rfl rfl (by decide) (by decide) (by decide) rfl hk1 hFc ht hB
      rw [hw]
      obtain ⟨hz, hf⟩ := wb_y hf
      exact W.zret (v := r1.1) hx hb hr (congrArg Value.int hz) (fun t ht hW => by rw [← Option.some.inj hf]; exact ⟨⟨r1.1, (), rfl, rfl, by rw [ht]; exact hP, va_K.moved hW.alike hK, hD⟩, hS.F ht⟩) hS.2.2 dX9_holdsNumber_49
    · replace hf := wb_f hc hf
      refine lv_aload_n hx hb dX9_holdsNumber_28 rfl (lv_at hl 0 rfl) ?_
      refine va_get (D := D) (ci := 9) (v := .int (I0 5)) (C := RX9) (T := TX9) (N := 10) hx hb hts hinX9 hown hK hP 0 rfl rfl 6 (by decide) (hts (.fieldLink RX9 56 "WheelBook$Text" "value" "I") (List.mem_of_getElem? (i := 4) rfl)) (fun _ h9 => h9) rfl dX9_holdsNumber_29 ?_
      refine lv_iload_n hx hb dX9_holdsNumber_32 rfl (lv_at hl 1 rfl) ?_
      refine lv_icmp_lt (tgt := 44) hx hb dX9_holdsNumber_33 (by decide) (fun hc => ?_) (fun hc => ?_)
      · replace hf := wb_t hc hf
        refine lv_aload_n hx hb dX9_holdsNumber_44 rfl (lv_at hl 0 rfl) ?_
        refine lv_iconst (v := (2 : Int32)) hx hb dX9_holdsNumber_45 (by decide) ?_
        obtain ⟨r2, hr2, hf⟩ := wb_b hf
        have hPc := hP.sub (ws' := (wWX9 cB cI cZ a0 I0 M0)) [0, 1] rfl
        have hDc := hD.sub (ws' := (wWX9 cB cI cZ a0 I0 M0)) [0, 1] (by decide) rfl
        have hFc := va_free (wc := (wWX9 cB cI cZ a0 I0 M0)) hD hS hA [0, 1] rfl
        refine va_calli (va_runV (As := [.int (2 : Int32)]) (rest := []) ⟨hx, hb, hml, hown, hts⟩ (cn_X9_refuse l D cB cI cZ N a0 I0 M0 (2 : Int32) H.size r2 hr2) (cwV 1 hts gX9_holdsNumber_X9_refuse rfl rfl rfl cdX9_refuse ⟨Nat.le_of_ble_eq_true rfl, Nat.le_of_ble_eq_true rfl⟩) (wb_preDV hPc hK hDc (va_recv hK hP (ci := 9) (q0 := 0) rfl rfl)) rfl rfl hl.1 rfl (lv_room (Nat.le_of_ble_eq_true rfl)) dX9_holdsNumber_46 ⟨Nat.le_of_ble_eq_true rfl, Nat.le_of_ble_eq_true rfl⟩) hS (fun q _ h => hFc q h) hFc (fun r9 u t H locs ht hvm hw hB hz1 hk1 hS => ?_)
        obtain ⟨hP, hD⟩ := wb_join (wc := (wWX9 cB cI cZ a0 I0 M0)) (w1 := (wWX9 cB cI cZ a0 r2.2.1 r2.2.2)) (wf := (wWX9 cB cI cZ a0 r2.2.1 r2.2.2)) hP hD [0, 1] [] [0, 1] rfl rfl (by decide) (by decide) (by decide) rfl hk1 hFc ht hB
        rw [hw]
        obtain ⟨hz, hf⟩ := wb_y hf
        exact W.zret (v := r2.1) hx hb hr (congrArg Value.int hz) (fun t ht hW => by rw [← Option.some.inj hf]; exact ⟨⟨r2.1, (), rfl, rfl, by rw [ht]; exact hP, va_K.moved hW.alike hK, hD⟩, hS.F ht⟩) hS.2.2 dX9_holdsNumber_49
      · replace hf := wb_f hc hf
        refine lv_aload_n hx hb dX9_holdsNumber_36 rfl (lv_at hl 0 rfl) ?_
        refine va_get (D := D) (ci := 9) (v := .int (I0 5)) (C := RX9) (T := TX9) (N := 10) hx hb hts hinX9 hown hK hP 0 rfl rfl 6 (by decide) (hts (.fieldLink RX9 56 "WheelBook$Text" "value" "I") (List.mem_of_getElem? (i := 4) rfl)) (fun _ h9 => h9) rfl dX9_holdsNumber_37 ?_
        refine lv_iload_n hx hb dX9_holdsNumber_40 rfl (lv_at hl 2 rfl) ?_
        refine lv_icmp_le (tgt := 50) hx hb dX9_holdsNumber_41 (by decide) (fun hc => ?_) (fun hc => ?_)
        · replace hf := wb_t hc hf
          refine lv_aload_n hx hb dX9_holdsNumber_50 rfl (lv_at hl 0 rfl) ?_
          refine lv_aload_n hx hb dX9_holdsNumber_51 rfl (lv_at hl 0 rfl) ?_
          refine va_get (D := D) (ci := 9) (v := .int (I0 5)) (C := RX9) (T := TX9) (N := 10) hx hb hts hinX9 hown hK hP 0 rfl rfl 6 (by decide) (hts (.fieldLink RX9 56 "WheelBook$Text" "value" "I") (List.mem_of_getElem? (i := 4) rfl)) (fun _ h9 => h9) rfl dX9_holdsNumber_52 ?_
          refine va_put (D := D) (ci := 9) (v := .int (I0 5)) (ty := .int) (C := RX9) (T := TX9) (N := 10) hx hb hts hinX9 tyX9 tyX9_ok nmX9 hown hK hP hD hS 0 rfl rfl 7 (by decide) (hts (.fieldLink RX9 97 "WheelBook$Text" "number" "I") (List.mem_of_getElem? (i := 5) rfl)) (fun _ h9 => h9) rfl (by decide +kernel) rfl rfl (Nat.le_of_ble_eq_true rfl) dX9_holdsNumber_55 (fun H locs hP hD hS => ?_)
          have hP : va_P D vwCl (wWX9 cB cI cZ a0 (upd I0 6 (I0 5)) M0) H := hP
          have hD : va_D A (wWX9 cB cI cZ a0 (upd I0 6 (I0 5)) M0) := hD
          obtain ⟨I0_3, eI0_3, hf⟩ := wb_v hf
          rw [← eI0_3] at hP hD
          refine lv_iconst (v := (1 : Int32)) hx hb dX9_holdsNumber_58 (by decide) ?_
          exact W.zret (v := (1 : Int32)) hx hb hr (by decide) (fun t ht hW => by rw [← Option.some.inj hf]; exact ⟨⟨(1 : Int32), (), rfl, rfl, by rw [ht]; exact hP, va_K.moved hW.alike hK, hD⟩, hS.F ht⟩) hS.2.2 dX9_holdsNumber_59
        · replace hf := wb_f hc hf
          refine lv_aload_n hx hb dX9_holdsNumber_44 rfl (lv_at hl 0 rfl) ?_
          refine lv_iconst (v := (2 : Int32)) hx hb dX9_holdsNumber_45 (by decide) ?_
          obtain ⟨r4, hr4, hf⟩ := wb_b hf
          have hPc := hP.sub (ws' := (wWX9 cB cI cZ a0 I0 M0)) [0, 1] rfl
          have hDc := hD.sub (ws' := (wWX9 cB cI cZ a0 I0 M0)) [0, 1] (by decide) rfl
          have hFc := va_free (wc := (wWX9 cB cI cZ a0 I0 M0)) hD hS hA [0, 1] rfl
          refine va_calli (va_runV (As := [.int (2 : Int32)]) (rest := []) ⟨hx, hb, hml, hown, hts⟩ (cn_X9_refuse l D cB cI cZ N a0 I0 M0 (2 : Int32) H.size r4 hr4) (cwV 1 hts gX9_holdsNumber_X9_refuse rfl rfl rfl cdX9_refuse ⟨Nat.le_of_ble_eq_true rfl, Nat.le_of_ble_eq_true rfl⟩) (wb_preDV hPc hK hDc (va_recv hK hP (ci := 9) (q0 := 0) rfl rfl)) rfl rfl hl.1 rfl (lv_room (Nat.le_of_ble_eq_true rfl)) dX9_holdsNumber_46 ⟨Nat.le_of_ble_eq_true rfl, Nat.le_of_ble_eq_true rfl⟩) hS (fun q _ h => hFc q h) hFc (fun r9 u t H locs ht hvm hw hB hz1 hk1 hS => ?_)
          obtain ⟨hP, hD⟩ := wb_join (wc := (wWX9 cB cI cZ a0 I0 M0)) (w1 := (wWX9 cB cI cZ a0 r4.2.1 r4.2.2)) (wf := (wWX9 cB cI cZ a0 r4.2.1 r4.2.2)) hP hD [0, 1] [] [0, 1] rfl rfl (by decide) (by decide) (by decide) rfl hk1 hFc ht hB
          rw [hw]
          obtain ⟨hz, hf⟩ := wb_y hf
          exact W.zret (v := r4.1) hx hb hr (congrArg Value.int hz) (fun t ht hW => by rw [← Option.some.inj hf]; exact ⟨⟨r4.1, (), rfl, rfl, by rw [ht]; exact hP, va_K.moved hW.alike hK, hD⟩, hS.F ht⟩) hS.2.2 dX9_holdsNumber_49
  · replace hf := wb_f hc hf
    refine lv_aload_n hx hb dX9_holdsNumber_8 rfl (lv_at hl 0 rfl) ?_
    refine lv_iconst (v := (1 : Int32)) hx hb dX9_holdsNumber_9 (by decide) ?_
    obtain ⟨r5, hr5, hf⟩ := wb_b hf
    have hPc := hP.sub (ws' := (wWX9 cB cI cZ a0 I0 M0)) [0, 1] rfl
    have hDc := hD.sub (ws' := (wWX9 cB cI cZ a0 I0 M0)) [0, 1] (by decide) rfl
    have hFc := va_free (wc := (wWX9 cB cI cZ a0 I0 M0)) hD hS hA [0, 1] rfl
    refine va_calli (va_runV (As := [.int (1 : Int32)]) (rest := []) ⟨hx, hb, hml, hown, hts⟩ (cn_X9_refuse l D cB cI cZ N a0 I0 M0 (1 : Int32) H.size r5 hr5) (cwV 1 hts gX9_holdsNumber_X9_refuse rfl rfl rfl cdX9_refuse ⟨Nat.le_of_ble_eq_true rfl, Nat.le_of_ble_eq_true rfl⟩) (wb_preDV hPc hK hDc (va_recv hK hP (ci := 9) (q0 := 0) rfl rfl)) rfl rfl hl.1 rfl (lv_room (Nat.le_of_ble_eq_true rfl)) dX9_holdsNumber_10 ⟨Nat.le_of_ble_eq_true rfl, Nat.le_of_ble_eq_true rfl⟩) hS (fun q _ h => hFc q h) hFc (fun r9 u t H locs ht hvm hw hB hz1 hk1 hS => ?_)
    obtain ⟨hP, hD⟩ := wb_join (wc := (wWX9 cB cI cZ a0 I0 M0)) (w1 := (wWX9 cB cI cZ a0 r5.2.1 r5.2.2)) (wf := (wWX9 cB cI cZ a0 r5.2.1 r5.2.2)) hP hD [0, 1] [] [0, 1] rfl rfl (by decide) (by decide) (by decide) rfl hk1 hFc ht hB
    rw [hw]
    obtain ⟨hz, hf⟩ := wb_y hf
    exact W.zret (v := r5.1) hx hb hr (congrArg Value.int hz) (fun t ht hW => by rw [← Option.some.inj hf]; exact ⟨⟨r5.1, (), rfl, rfl, by rw [ht]; exact hP, va_K.moved hW.alike hK, hD⟩, hS.F ht⟩) hS.2.2 dX9_holdsNumber_13

set_option maxHeartbeats 4000000 in
set_option maxRecDepth 100000 in
theorem cn_X9_takeNumber (l : Launch) (D : va_G) (cB cI cZ : ClassId) (N : Nat) (a0 : Nat → Nat) (I0 : Nat → Int32) (M0 : Nat → Nat → Int32) (x1 : Int32) (x2 : Int32) (sz : Nat) (R : Int32 × (Nat → Int32) × (Nat → Nat → Int32)) (hf : fX9_takeNumber N I0 M0 x1 x2 = some R) : Met l yX9_takeNumber wsX9_takeNumber ({ frames := 2, cells := 0, slots := 0, locals := 43 }) (va_Pc [.ref (a0 0), .int x1, .int x2] (wb_preD D [(cB, .byte), (cI, .int), (cZ, .boolean)] (wWX9 cB cI cZ a0 I0 M0) sz)) (va_Qi (fun r (_ : Unit) => r = R.1) (fun _ t => wb_post D [(cB, .byte), (cI, .int), (cZ, .boolean)] (va_A (wWX9 cB cI cZ a0 I0 M0) sz) (wWX9 cB cI cZ a0 R.2.1 R.2.2) t) (va_A (wWX9 cB cI cZ a0 I0 M0) sz)) 0 0 (va_A (wWX9 cB cI cZ a0 I0 M0) sz) := by
  refine Met.ofW (cc := cX9_takeNumber) (maxL := 3) (ret := (some .boolean)) (by decide) rfl ?_
  intro p e s m args below meth c s₁ B hml hv
  obtain ⟨rfl, hsz, hP, hK, hD0⟩ := hv
  have hx := B.exec
  have hb := B.bytes
  have hr := B.returns
  have hts := atoms_spec (ws := wsX9_takeNumber) B.pre
  have hown : s.vm.findClass RX9 = some m.cls := findClass_of_methodNamed B.named
  have hlocks := B.notSynchronized
  subst hsz
  have hD := hD0.self (sz := s.heap.size)
  generalize hAe : va_A (wWX9 cB cI cZ a0 I0 M0) s.heap.size = A at hD ⊢
  have hA : ∀ q : Nat, s.heap.size ≤ q → A q := fun q h => by rw [← hAe]; exact Or.inr h
  have hS : va_S A s.heap s.heap [] := va_S.rf
  have hl := lv_entry ([.ref (a0 0), .int x1, .int x2]) (n := 3) (Nat.le_of_ble_eq_true rfl)
  rw [lg_entry_eq]
  generalize (lg_sl ([.ref (a0 0), .int x1, .int x2]) ++ List.replicate (3 - (lg_sl ([.ref (a0 0), .int x1, .int x2])).length) Slot.unset).toArray = ls at hl ⊢
  have hl : lv_has ls 3 [(0, .ref (a0 0)), (1, .int x1), (2, .int x2)] := hl
  unfold fX9_takeNumber at hf
  obtain ⟨H, hHe⟩ : ∃ H : Heap, H = s.heap := ⟨_, rfl⟩
  obtain ⟨locs, hle⟩ : ∃ locs : List Loc, locs = [] := ⟨_, rfl⟩
  refine wb_start (H := H) (locs := locs) hHe hle ?_
  rw [← hHe] at hP
  have hS : va_S A s.heap H locs := by rw [hHe, hle]; exact va_S.rf
  refine lv_aload_n hx hb dX9_takeNumber_0 rfl (lv_at hl 0 rfl) ?_
  refine lv_iload_n hx hb dX9_takeNumber_1 rfl (lv_at hl 1 rfl) ?_
  refine lv_iload_n hx hb dX9_takeNumber_2 rfl (lv_at hl 2 rfl) ?_
  obtain ⟨r1, hr1, hf⟩ := wb_b hf
  have hPc := hP.sub (ws' := (wWX9 cB cI cZ a0 I0 M0)) [0, 1] rfl
  have hDc := hD.sub (ws' := (wWX9 cB cI cZ a0 I0 M0)) [0, 1] (by decide) rfl
  have hFc := va_free (wc := (wWX9 cB cI cZ a0 I0 M0)) hD hS hA [0, 1] rfl
  refine va_calli (va_runV (As := [.int x1, .int x2]) (rest := []) ⟨hx, hb, hml, hown, hts⟩ (cn_X9_holdsNumber l D cB cI cZ N a0 I0 M0 x1 x2 H.size r1 hr1) (cwV 2 hts gX9_takeNumber_X9_holdsNumber rfl rfl rfl cdX9_holdsNumber ⟨Nat.le_of_ble_eq_true rfl, Nat.le_of_ble_eq_true rfl⟩) (wb_preDV hPc hK hDc (va_recv hK hP (ci := 9) (q0 := 0) rfl rfl)) rfl rfl hl.1 rfl (lv_room (Nat.le_of_ble_eq_true rfl)) dX9_takeNumber_3 ⟨Nat.le_of_ble_eq_true rfl, Nat.le_of_ble_eq_true rfl⟩) hS (fun q _ h => hFc q h) hFc (fun r9 u t H locs ht hvm hw hB hz1 hk1 hS => ?_)
  obtain ⟨hP, hD⟩ := wb_join (wc := (wWX9 cB cI cZ a0 I0 M0)) (w1 := (wWX9 cB cI cZ a0 r1.2.1 r1.2.2)) (wf := (wWX9 cB cI cZ a0 r1.2.1 r1.2.2)) hP hD [0, 1] [] [0, 1] rfl rfl (by decide) (by decide) (by decide) rfl hk1 hFc ht hB
  rw [hw]
  refine lv_if_ne (tgt := 11) hx hb dX9_takeNumber_6 (by decide) (fun hc => ?_) (fun hc => ?_)
  · replace hf := wb_f hc hf
    refine lv_aload_n hx hb dX9_takeNumber_11 rfl (lv_at hl 0 rfl) ?_
    obtain ⟨r2, hr2, hf⟩ := wb_b hf
    have hPc := hP.sub (ws' := (wWX9 cB cI cZ a0 r1.2.1 r1.2.2)) [0, 1] rfl
    have hDc := hD.sub (ws' := (wWX9 cB cI cZ a0 r1.2.1 r1.2.2)) [0, 1] (by decide) rfl
    have hFc := va_free (wc := (wWX9 cB cI cZ a0 r1.2.1 r1.2.2)) hD hS hA [0, 1] rfl
    refine va_callv (va_runV (As := []) (rest := []) ⟨hx, hb, hml, hown, hts⟩ (cn_X9_step l D cB cI cZ N a0 r1.2.1 r1.2.2 H.size r2 hr2) (cwV 0 hts gX9_takeNumber_X9_step rfl rfl rfl cdX9_step ⟨Nat.le_of_ble_eq_true rfl, Nat.le_of_ble_eq_true rfl⟩) (wb_preDV hPc hK hDc (va_recv hK hP (ci := 9) (q0 := 0) rfl rfl)) rfl rfl hl.1 rfl (lv_room (Nat.le_of_ble_eq_true rfl)) dX9_takeNumber_12 ⟨Nat.le_of_ble_eq_true rfl, Nat.le_of_ble_eq_true rfl⟩) hS (fun q _ h => hFc q h) hFc (fun u t H locs ht hvm hw hB hz1 hk1 hS => ?_)
    obtain ⟨hP, hD⟩ := wb_join (wc := (wWX9 cB cI cZ a0 r1.2.1 r1.2.2)) (w1 := (wWX9 cB cI cZ a0 r2.1 r2.2)) (wf := (wWX9 cB cI cZ a0 r2.1 r2.2)) hP hD [0, 1] [] [0, 1] rfl rfl (by decide) (by decide) (by decide) rfl hk1 hFc ht hB
    refine lv_iconst (v := (1 : Int32)) hx hb dX9_takeNumber_15 (by decide) ?_
    exact W.zret (v := (1 : Int32)) hx hb hr (by decide) (fun t ht hW => by rw [← Option.some.inj hf]; exact ⟨⟨(1 : Int32), (), rfl, rfl, by rw [ht]; exact hP, va_K.moved hW.alike hK, hD⟩, hS.F ht⟩) hS.2.2 dX9_takeNumber_16
  · replace hf := wb_t hc hf
    refine lv_iconst (v := (0 : Int32)) hx hb dX9_takeNumber_9 (by decide) ?_
    exact W.zret (v := (0 : Int32)) hx hb hr (by decide) (fun t ht hW => by rw [← Option.some.inj hf]; exact ⟨⟨(0 : Int32), (), rfl, rfl, by rw [ht]; exact hP, va_K.moved hW.alike hK, hD⟩, hS.F ht⟩) hS.2.2 dX9_takeNumber_10

set_option maxHeartbeats 4000000 in
set_option maxRecDepth 100000 in
theorem cn_X9_takeWord (l : Launch) (D : va_G) (cB cI cZ : ClassId) (N : Nat) (aK aV : Nat → Nat) (a0 : Nat → Nat) (I0 : Nat → Int32) (M0 : Nat → Nat → Int32) (w1 : Nat) (hw1 : w1 < 19) (sz : Nat) (R : Int32 × (Nat → Int32) × (Nat → Nat → Int32)) (hf : fX9_takeWord N I0 M0 w1 = some R) : Met l yX9_takeWord wsX9_takeWord ({ frames := 5, cells := 0, slots := 0, locals := 143 }) (va_Pc [.ref (a0 0), .ref (aK w1)] (wb_preDE D [(cB, .byte), (cI, .int), (cZ, .boolean)] (wWX9 cB cI cZ a0 I0 M0) sz aK aV)) (va_Qi (fun r (_ : Unit) => r = R.1) (fun _ t => wb_post D [(cB, .byte), (cI, .int), (cZ, .boolean)] (va_A (wWX9 cB cI cZ a0 I0 M0) sz) (wWX9 cB cI cZ a0 R.2.1 R.2.2) t) (va_A (wWX9 cB cI cZ a0 I0 M0) sz)) 0 0 (va_A (wWX9 cB cI cZ a0 I0 M0) sz) := by
  refine Met.ofW (cc := cX9_takeWord) (maxL := 2) (ret := (some .boolean)) (by decide) rfl ?_
  intro p e s m args below meth c s₁ B hml hv
  obtain ⟨rfl, ⟨hsz, hP, hK, hD0⟩, hZ⟩ := hv
  have hx := B.exec
  have hb := B.bytes
  have hr := B.returns
  have hts := atoms_spec (ws := wsX9_takeWord) B.pre
  have hown : s.vm.findClass RX9 = some m.cls := findClass_of_methodNamed B.named
  have hlocks := B.notSynchronized
  subst hsz
  have hD := hD0.self (sz := s.heap.size)
  generalize hAe : va_A (wWX9 cB cI cZ a0 I0 M0) s.heap.size = A at hD hZ ⊢
  have hA : ∀ q : Nat, s.heap.size ≤ q → A q := fun q h => by rw [← hAe]; exact Or.inr h
  have hS : va_S A s.heap s.heap [] := va_S.rf
  have hl := lv_entry ([.ref (a0 0), .ref (aK w1)]) (n := 2) (Nat.le_of_ble_eq_true rfl)
  rw [lg_entry_eq]
  generalize (lg_sl ([.ref (a0 0), .ref (aK w1)]) ++ List.replicate (2 - (lg_sl ([.ref (a0 0), .ref (aK w1)])).length) Slot.unset).toArray = ls at hl ⊢
  have hl : lv_has ls 2 [(0, .ref (a0 0)), (1, .ref (aK w1))] := hl
  unfold fX9_takeWord at hf
  obtain ⟨H, hHe⟩ : ∃ H : Heap, H = s.heap := ⟨_, rfl⟩
  obtain ⟨locs, hle⟩ : ∃ locs : List Loc, locs = [] := ⟨_, rfl⟩
  refine wb_start (H := H) (locs := locs) hHe hle ?_
  rw [← hHe] at hP
  have hS : va_S A s.heap H locs := by rw [hHe, hle]; exact va_S.rf
  refine lv_aload_n hx hb dX9_takeWord_0 rfl (lv_at hl 0 rfl) ?_
  refine lv_aload_n hx hb dX9_takeWord_1 rfl (lv_at hl 1 rfl) ?_
  obtain ⟨r1, hr1, hf⟩ := wb_b hf
  refine vp_callSi (W.runV (As := [.ref (aK w1)]) (rest := []) ⟨hx, hb, hml, hown, hts⟩ (cn_X9_isWord l D cB cI cZ N aK aV a0 I0 M0 w1 hw1 r1 hr1) (cwV 1 hts gX9_takeWord_X9_isWord rfl rfl rfl cdX9_isWord ⟨Nat.le_of_ble_eq_true rfl, Nat.le_of_ble_eq_true rfl⟩) (wb_preEV hP hK (va_recv hK hP (ci := 9) (q0 := 0) rfl rfl) hZ hS) rfl rfl hl.1 rfl (lv_room (Nat.le_of_ble_eq_true rfl)) dX9_takeWord_2 ⟨Nat.le_of_ble_eq_true rfl, Nat.le_of_ble_eq_true rfl⟩) (fun r9 e9 => ?_)
  rw [e9]
  refine lv_if_ne (tgt := 14) hx hb dX9_takeWord_5 (by decide) (fun hc => ?_) (fun hc => ?_)
  · replace hf := wb_f hc hf
    refine lv_aload_n hx hb dX9_takeWord_14 rfl (lv_at hl 0 rfl) ?_
    obtain ⟨r2, hr2, hf⟩ := wb_b hf
    have hPc := hP.sub (ws' := (wWX9 cB cI cZ a0 I0 M0)) [0, 1] rfl
    have hDc := hD.sub (ws' := (wWX9 cB cI cZ a0 I0 M0)) [0, 1] (by decide) rfl
    have hFc := va_free (wc := (wWX9 cB cI cZ a0 I0 M0)) hD hS hA [0, 1] rfl
    refine va_callv (va_runV (As := []) (rest := []) ⟨hx, hb, hml, hown, hts⟩ (cn_X9_step l D cB cI cZ N a0 I0 M0 H.size r2 hr2) (cwV 0 hts gX9_takeWord_X9_step rfl rfl rfl cdX9_step ⟨Nat.le_of_ble_eq_true rfl, Nat.le_of_ble_eq_true rfl⟩) (wb_preDV hPc hK hDc (va_recv hK hP (ci := 9) (q0 := 0) rfl rfl)) rfl rfl hl.1 rfl (lv_room (Nat.le_of_ble_eq_true rfl)) dX9_takeWord_15 ⟨Nat.le_of_ble_eq_true rfl, Nat.le_of_ble_eq_true rfl⟩) hS (fun q _ h => hFc q h) hFc (fun u t H locs ht hvm hw hB hz1 hk1 hS => ?_)
    obtain ⟨hP, hD⟩ := wb_join (wc := (wWX9 cB cI cZ a0 I0 M0)) (w1 := (wWX9 cB cI cZ a0 r2.1 r2.2)) (wf := (wWX9 cB cI cZ a0 r2.1 r2.2)) hP hD [0, 1] [] [0, 1] rfl rfl (by decide) (by decide) (by decide) rfl hk1 hFc ht hB
    refine lv_iconst (v := (1 : Int32)) hx hb dX9_takeWord_18 (by decide) ?_
    exact W.zret (v := (1 : Int32)) hx hb hr (by decide) (fun t ht hW => by rw [← Option.some.inj hf]; exact ⟨⟨(1 : Int32), (), rfl, rfl, by rw [ht]; exact hP, va_K.moved hW.alike hK, hD⟩, hS.F ht⟩) hS.2.2 dX9_takeWord_19
  · replace hf := wb_t hc hf
    refine lv_aload_n hx hb dX9_takeWord_8 rfl (lv_at hl 0 rfl) ?_
    refine lv_iconst (v := (1 : Int32)) hx hb dX9_takeWord_9 (by decide) ?_
    obtain ⟨r3, hr3, hf⟩ := wb_b hf
    have hPc := hP.sub (ws' := (wWX9 cB cI cZ a0 I0 M0)) [0, 1] rfl
    have hDc := hD.sub (ws' := (wWX9 cB cI cZ a0 I0 M0)) [0, 1] (by decide) rfl
    have hFc := va_free (wc := (wWX9 cB cI cZ a0 I0 M0)) hD hS hA [0, 1] rfl
    refine va_calli (va_runV (As := [.int (1 : Int32)]) (rest := []) ⟨hx, hb, hml, hown, hts⟩ (cn_X9_refuse l D cB cI cZ N a0 I0 M0 (1 : Int32) H.size r3 hr3) (cwV 1 hts gX9_takeWord_X9_refuse rfl rfl rfl cdX9_refuse ⟨Nat.le_of_ble_eq_true rfl, Nat.le_of_ble_eq_true rfl⟩) (wb_preDV hPc hK hDc (va_recv hK hP (ci := 9) (q0 := 0) rfl rfl)) rfl rfl hl.1 rfl (lv_room (Nat.le_of_ble_eq_true rfl)) dX9_takeWord_10 ⟨Nat.le_of_ble_eq_true rfl, Nat.le_of_ble_eq_true rfl⟩) hS (fun q _ h => hFc q h) hFc (fun r9 u t H locs ht hvm hw hB hz1 hk1 hS => ?_)
    obtain ⟨hP, hD⟩ := wb_join (wc := (wWX9 cB cI cZ a0 I0 M0)) (w1 := (wWX9 cB cI cZ a0 r3.2.1 r3.2.2)) (wf := (wWX9 cB cI cZ a0 r3.2.1 r3.2.2)) hP hD [0, 1] [] [0, 1] rfl rfl (by decide) (by decide) (by decide) rfl hk1 hFc ht hB
    rw [hw]
    obtain ⟨hz, hf⟩ := wb_y hf
    exact W.zret (v := r3.1) hx hb hr (congrArg Value.int hz) (fun t ht hW => by rw [← Option.some.inj hf]; exact ⟨⟨r3.1, (), rfl, rfl, by rw [ht]; exact hP, va_K.moved hW.alike hK, hD⟩, hS.F ht⟩) hS.2.2 dX9_takeWord_13

set_option maxHeartbeats 4000000 in
set_option maxRecDepth 100000 in
theorem cn_X9_takeStop (l : Launch) (D : va_G) (cB cI cZ : ClassId) (N : Nat) (a0 : Nat → Nat) (I0 : Nat → Int32) (M0 : Nat → Nat → Int32) (sz : Nat) (R : Int32 × (Nat → Int32) × (Nat → Nat → Int32)) (hf : fX9_takeStop N I0 M0 = some R) : Met l yX9_takeStop wsX9_takeStop ({ frames := 2, cells := 0, slots := 0, locals := 40 }) (va_Pc [.ref (a0 0)] (wb_preD D [(cB, .byte), (cI, .int), (cZ, .boolean)] (wWX9 cB cI cZ a0 I0 M0) sz)) (va_Qi (fun r (_ : Unit) => r = R.1) (fun _ t => wb_post D [(cB, .byte), (cI, .int), (cZ, .boolean)] (va_A (wWX9 cB cI cZ a0 I0 M0) sz) (wWX9 cB cI cZ a0 R.2.1 R.2.2) t) (va_A (wWX9 cB cI cZ a0 I0 M0) sz)) 0 0 (va_A (wWX9 cB cI cZ a0 I0 M0) sz) := by
  refine Met.ofW (cc := cX9_takeStop) (maxL := 1) (ret := (some .boolean)) (by decide) rfl ?_
  intro p e s m args below meth c s₁ B hml hv
  obtain ⟨rfl, hsz, hP, hK, hD0⟩ := hv
  have hx := B.exec
  have hb := B.bytes
  have hr := B.returns
  have hts := atoms_spec (ws := wsX9_takeStop) B.pre
  have hown : s.vm.findClass RX9 = some m.cls := findClass_of_methodNamed B.named
  have hlocks := B.notSynchronized
  have hinX9 : ∀ w ∈ u_ws RX9 TX9 10, w ∈ wsX9_takeStop := fun w h => List.mem_cons_of_mem _ (List.mem_append_right _ h)
  subst hsz
  have hD := hD0.self (sz := s.heap.size)
  generalize hAe : va_A (wWX9 cB cI cZ a0 I0 M0) s.heap.size = A at hD ⊢
  have hA : ∀ q : Nat, s.heap.size ≤ q → A q := fun q h => by rw [← hAe]; exact Or.inr h
  have hS : va_S A s.heap s.heap [] := va_S.rf
  have hl := lv_entry ([.ref (a0 0)]) (n := 1) (Nat.le_of_ble_eq_true rfl)
  rw [lg_entry_eq]
  generalize (lg_sl ([.ref (a0 0)]) ++ List.replicate (1 - (lg_sl ([.ref (a0 0)])).length) Slot.unset).toArray = ls at hl ⊢
  have hl : lv_has ls 1 [(0, .ref (a0 0))] := hl
  unfold fX9_takeStop at hf
  obtain ⟨H, hHe⟩ : ∃ H : Heap, H = s.heap := ⟨_, rfl⟩
  obtain ⟨locs, hle⟩ : ∃ locs : List Loc, locs = [] := ⟨_, rfl⟩
  refine wb_start (H := H) (locs := locs) hHe hle ?_
  rw [← hHe] at hP
  have hS : va_S A s.heap H locs := by rw [hHe, hle]; exact va_S.rf
  refine lv_aload_n hx hb dX9_takeStop_0 rfl (lv_at hl 0 rfl) ?_
  refine va_get (D := D) (ci := 9) (v := .int (I0 4)) (C := RX9) (T := TX9) (N := 10) hx hb hts hinX9 hown hK hP 0 rfl rfl 5 (by decide) (hts (.fieldLink RX9 40 "WheelBook$Text" "kind" "I") (List.mem_of_getElem? (i := 1) rfl)) (fun _ h9 => h9) rfl dX9_takeStop_1 ?_
  refine lv_iconst (v := (3 : Int32)) hx hb dX9_takeStop_4 (by decide) ?_
  refine lv_icmp_eq (tgt := 14) hx hb dX9_takeStop_5 (by decide) (fun hc => ?_) (fun hc => ?_)
  · replace hf := wb_t hc hf
    refine lv_aload_n hx hb dX9_takeStop_14 rfl (lv_at hl 0 rfl) ?_
    obtain ⟨r1, hr1, hf⟩ := wb_b hf
    have hPc := hP.sub (ws' := (wWX9 cB cI cZ a0 I0 M0)) [0, 1] rfl
    have hDc := hD.sub (ws' := (wWX9 cB cI cZ a0 I0 M0)) [0, 1] (by decide) rfl
    have hFc := va_free (wc := (wWX9 cB cI cZ a0 I0 M0)) hD hS hA [0, 1] rfl
    refine va_callv (va_runV (As := []) (rest := []) ⟨hx, hb, hml, hown, hts⟩ (cn_X9_step l D cB cI cZ N a0 I0 M0 H.size r1 hr1) (cwV 0 hts gX9_takeStop_X9_step rfl rfl rfl cdX9_step ⟨Nat.le_of_ble_eq_true rfl, Nat.le_of_ble_eq_true rfl⟩) (wb_preDV hPc hK hDc (va_recv hK hP (ci := 9) (q0 := 0) rfl rfl)) rfl rfl hl.1 rfl (lv_room (Nat.le_of_ble_eq_true rfl)) dX9_takeStop_15 ⟨Nat.le_of_ble_eq_true rfl, Nat.le_of_ble_eq_true rfl⟩) hS (fun q _ h => hFc q h) hFc (fun u t H locs ht hvm hw hB hz1 hk1 hS => ?_)
    obtain ⟨hP, hD⟩ := wb_join (wc := (wWX9 cB cI cZ a0 I0 M0)) (w1 := (wWX9 cB cI cZ a0 r1.1 r1.2)) (wf := (wWX9 cB cI cZ a0 r1.1 r1.2)) hP hD [0, 1] [] [0, 1] rfl rfl (by decide) (by decide) (by decide) rfl hk1 hFc ht hB
    refine lv_iconst (v := (1 : Int32)) hx hb dX9_takeStop_18 (by decide) ?_
    exact W.zret (v := (1 : Int32)) hx hb hr (by decide) (fun t ht hW => by rw [← Option.some.inj hf]; exact ⟨⟨(1 : Int32), (), rfl, rfl, by rw [ht]; exact hP, va_K.moved hW.alike hK, hD⟩, hS.F ht⟩) hS.2.2 dX9_takeStop_19
  · replace hf := wb_f hc hf
    refine lv_aload_n hx hb dX9_takeStop_8 rfl (lv_at hl 0 rfl) ?_
    refine lv_iconst (v := (1 : Int32)) hx hb dX9_takeStop_9 (by decide) ?_
    obtain ⟨r2, hr2, hf⟩ := wb_b hf
    have hPc := hP.sub (ws' := (wWX9 cB cI cZ a0 I0 M0)) [0, 1] rfl
    have hDc := hD.sub (ws' := (wWX9 cB cI cZ a0 I0 M0)) [0, 1] (by decide) rfl
    have hFc := va_free (wc := (wWX9 cB cI cZ a0 I0 M0)) hD hS hA [0, 1] rfl
    refine va_calli (va_runV (As := [.int (1 : Int32)]) (rest := []) ⟨hx, hb, hml, hown, hts⟩ (cn_X9_refuse l D cB cI cZ N a0 I0 M0 (1 : Int32) H.size r2 hr2) (cwV 1 hts gX9_takeStop_X9_refuse rfl rfl rfl cdX9_refuse ⟨Nat.le_of_ble_eq_true rfl, Nat.le_of_ble_eq_true rfl⟩) (wb_preDV hPc hK hDc (va_recv hK hP (ci := 9) (q0 := 0) rfl rfl)) rfl rfl hl.1 rfl (lv_room (Nat.le_of_ble_eq_true rfl)) dX9_takeStop_10 ⟨Nat.le_of_ble_eq_true rfl, Nat.le_of_ble_eq_true rfl⟩) hS (fun q _ h => hFc q h) hFc (fun r9 u t H locs ht hvm hw hB hz1 hk1 hS => ?_)
    obtain ⟨hP, hD⟩ := wb_join (wc := (wWX9 cB cI cZ a0 I0 M0)) (w1 := (wWX9 cB cI cZ a0 r2.2.1 r2.2.2)) (wf := (wWX9 cB cI cZ a0 r2.2.1 r2.2.2)) hP hD [0, 1] [] [0, 1] rfl rfl (by decide) (by decide) (by decide) rfl hk1 hFc ht hB
    rw [hw]
    obtain ⟨hz, hf⟩ := wb_y hf
    exact W.zret (v := r2.1) hx hb hr (congrArg Value.int hz) (fun t ht hW => by rw [← Option.some.inj hf]; exact ⟨⟨r2.1, (), rfl, rfl, by rw [ht]; exact hP, va_K.moved hW.alike hK, hD⟩, hS.F ht⟩) hS.2.2 dX9_takeStop_13

set_option maxHeartbeats 4000000 in
set_option maxRecDepth 100000 in
theorem cn_X4_readHand (l : Launch) (D : va_G) (cB cI cZ : ClassId) (N : Nat) (aK aV : Nat → Nat) (a0 : Nat → Nat) (I0 : Nat → Int32) (M0 : Nat → Nat → Int32) (a1 : Nat → Nat) (I1 : Nat → Int32) (M1 : Nat → Nat → Int32) (sz : Nat) (R : Int32 × (Nat → Int32) × (Nat → Nat → Int32) × (Nat → Int32) × (Nat → Nat → Int32)) (hf : fX4_readHand N I0 M0 I1 M1 = some R) : Met l yX4_readHand wsX4_readHand ({ frames := 6, cells := 0, slots := 0, locals := 164 }) (va_Pc [.ref (a0 0), .ref (a1 0)] (wb_preDE D [(cB, .byte), (cI, .int), (cZ, .boolean)] ((wWX4 cB cI cZ a0 I0 M0) ++ (wWX9 cB cI cZ a1 I1 M1)) sz aK aV)) (va_Qi (fun r (_ : Unit) => r = R.1) (fun _ t => wb_post D [(cB, .byte), (cI, .int), (cZ, .boolean)] (va_A ((wWX4 cB cI cZ a0 I0 M0) ++ (wWX9 cB cI cZ a1 I1 M1)) sz) ((wWX4 cB cI cZ a0 R.2.1 R.2.2.1) ++ (wWX9 cB cI cZ a1 R.2.2.2.1 R.2.2.2.2)) t) (va_A ((wWX4 cB cI cZ a0 I0 M0) ++ (wWX9 cB cI cZ a1 I1 M1)) sz)) 0 0 (va_A ((wWX4 cB cI cZ a0 I0 M0) ++ (wWX9 cB cI cZ a1 I1 M1)) sz) := by
  refine Met.ofW (cc := cX4_readHand) (maxL := 3) (ret := (some .boolean)) (by decide) rfl ?_
  intro p e s m args below meth c s₁ B hml hv
  obtain ⟨rfl, ⟨hsz, hP, hK, hD0⟩, hZ⟩ := hv
  have hx := B.exec
  have hb := B.bytes
  have hr := B.returns
  have hts := atoms_spec (ws := wsX4_readHand) B.pre
  have hown : s.vm.findClass RX4 = some m.cls := findClass_of_methodNamed B.named
  have hlocks := B.notSynchronized
  have hinX4 : ∀ w ∈ u_ws RX4 TX4 2, w ∈ wsX4_readHand := fun w h => List.mem_cons_of_mem _ (List.mem_append_left _ (List.mem_append_right _ h))
  have hinX9 : ∀ w ∈ u_ws RX9 TX9 10, w ∈ wsX4_readHand := fun w h => List.mem_cons_of_mem _ (List.mem_append_right _ h)
  subst hsz
  have hD := hD0.self (sz := s.heap.size)
  generalize hAe : va_A ((wWX4 cB cI cZ a0 I0 M0) ++ (wWX9 cB cI cZ a1 I1 M1)) s.heap.size = A at hD hZ ⊢
  have hA : ∀ q : Nat, s.heap.size ≤ q → A q := fun q h => by rw [← hAe]; exact Or.inr h
  have hS : va_S A s.heap s.heap [] := va_S.rf
  have hl := lv_entry ([.ref (a0 0), .ref (a1 0)]) (n := 3) (Nat.le_of_ble_eq_true rfl)
  rw [lg_entry_eq]
  generalize (lg_sl ([.ref (a0 0), .ref (a1 0)]) ++ List.replicate (3 - (lg_sl ([.ref (a0 0), .ref (a1 0)])).length) Slot.unset).toArray = ls at hl ⊢
  have hl : lv_has ls 3 [(0, .ref (a0 0)), (1, .ref (a1 0))] := hl
  unfold fX4_readHand at hf
  obtain ⟨H, hHe⟩ : ∃ H : Heap, H = s.heap := ⟨_, rfl⟩
  obtain ⟨locs, hle⟩ : ∃ locs : List Loc, locs = [] := ⟨_, rfl⟩
  refine wb_start (H := H) (locs := locs) hHe hle ?_
  rw [← hHe] at hP
  have hS : va_S A s.heap H locs := by rw [hHe, hle]; exact va_S.rf
  refine lv_aload_n hx hb dX4_readHand_0 rfl (lv_at hl 0 rfl) ?_
  refine va_get (D := D) (ci := 4) (v := .int (I0 0)) (C := RX4) (T := TX4) (N := 2) hx hb hts hinX4 hown hK hP 0 rfl rfl 1 (by decide) (hts (.fieldLink RX4 21 "WheelBook$Hands" "many" "I") (List.mem_of_getElem? (i := 1) rfl)) (fun _ h9 => h9) rfl dX4_readHand_1 ?_
  refine lv_bipush (v := (30 : Int32)) hx hb dX4_readHand_4 (by decide) ?_
  refine lv_icmp_lt (tgt := 15) hx hb dX4_readHand_6 (by decide) (fun hc => ?_) (fun hc => ?_)
  · replace hf := wb_t hc hf
    refine lv_aload_n hx hb dX4_readHand_15 rfl (lv_at hl 1 rfl) ?_
    obtain ⟨r1, hr1, hf⟩ := wb_b hf
    have hPc := hP.sub (ws' := (wWX9 cB cI cZ a1 I1 M1)) [2, 3] rfl
    have hDc := hD.sub (ws' := (wWX9 cB cI cZ a1 I1 M1)) [2, 3] (by decide) rfl
    have hFc := va_free (wc := (wWX9 cB cI cZ a1 I1 M1)) hD hS hA [2, 3] rfl
    refine va_callv (va_runV (As := []) (rest := []) ⟨hx, hb, hml, hown, hts⟩ (cn_X9_step l D cB cI cZ N a1 I1 M1 H.size r1 hr1) (cwV 0 hts gX4_readHand_X9_step rfl rfl rfl cdX9_step ⟨Nat.le_of_ble_eq_true rfl, Nat.le_of_ble_eq_true rfl⟩) (wb_preDV hPc hK hDc (va_recv hK hP (ci := 9) (q0 := 2) rfl rfl)) rfl rfl hl.1 rfl (lv_room (Nat.le_of_ble_eq_true rfl)) dX4_readHand_16 ⟨Nat.le_of_ble_eq_true rfl, Nat.le_of_ble_eq_true rfl⟩) hS (fun q _ h => hFc q h) hFc (fun u t H locs ht hvm hw hB hz1 hk1 hS => ?_)
    obtain ⟨hP, hD⟩ := wb_join (wc := (wWX9 cB cI cZ a1 I1 M1)) (w1 := (wWX9 cB cI cZ a1 r1.1 r1.2)) (wf := ((wWX4 cB cI cZ a0 I0 M0) ++ (wWX9 cB cI cZ a1 r1.1 r1.2))) hP hD [2, 3] [0, 1] [0, 1, 2, 3] rfl rfl (by decide) (by decide) (by decide) rfl hk1 hFc ht hB
    refine lv_aload_n hx hb dX4_readHand_19 rfl (lv_at hl 1 rfl) ?_
    refine lv_iconst (v := (0 : Int32)) hx hb dX4_readHand_20 (by decide) ?_
    refine lv_bipush (v := (29 : Int32)) hx hb dX4_readHand_21 (by decide) ?_
    obtain ⟨r2, hr2, hf⟩ := wb_b hf
    have hPc := hP.sub (ws' := (wWX9 cB cI cZ a1 r1.1 r1.2)) [2, 3] rfl
    have hDc := hD.sub (ws' := (wWX9 cB cI cZ a1 r1.1 r1.2)) [2, 3] (by decide) rfl
    have hFc := va_free (wc := (wWX9 cB cI cZ a1 r1.1 r1.2)) hD hS hA [2, 3] rfl
    refine va_calli (va_runV (As := [.int (0 : Int32), .int (29 : Int32)]) (rest := []) ⟨hx, hb, hml, hown, hts⟩ (cn_X9_takeNumber l D cB cI cZ N a1 r1.1 r1.2 (0 : Int32) (29 : Int32) H.size r2 hr2) (cwV 2 hts gX4_readHand_X9_takeNumber rfl rfl rfl cdX9_takeNumber ⟨Nat.le_of_ble_eq_true rfl, Nat.le_of_ble_eq_true rfl⟩) (wb_preDV hPc hK hDc (va_recv hK hP (ci := 9) (q0 := 2) rfl rfl)) rfl rfl hl.1 rfl (lv_room (Nat.le_of_ble_eq_true rfl)) dX4_readHand_23 ⟨Nat.le_of_ble_eq_true rfl, Nat.le_of_ble_eq_true rfl⟩) hS (fun q _ h => hFc q h) hFc (fun r9 u t H locs ht hvm hw hB hz1 hk1 hS => ?_)
    obtain ⟨hP, hD⟩ := wb_join (wc := (wWX9 cB cI cZ a1 r1.1 r1.2)) (w1 := (wWX9 cB cI cZ a1 r2.2.1 r2.2.2)) (wf := ((wWX4 cB cI cZ a0 I0 M0) ++ (wWX9 cB cI cZ a1 r2.2.1 r2.2.2))) hP hD [2, 3] [0, 1] [0, 1, 2, 3] rfl rfl (by decide) (by decide) (by decide) rfl hk1 hFc ht hB
    rw [hw]
    refine lv_if_ne (tgt := 31) hx hb dX4_readHand_26 (by decide) (fun hc => ?_) (fun hc => ?_)
    · replace hf := wb_f hc hf
      refine lv_aload_n hx hb dX4_readHand_31 rfl (lv_at hl 1 rfl) ?_
      refine va_get (D := D) (ci := 9) (v := .int (r2.2.1 6)) (C := RX9) (T := TX9) (N := 10) hx hb hts hinX9 hown hK hP 2 rfl rfl 7 (by decide) (hts (.fieldLink RX4 38 "WheelBook$Text" "number" "I") (List.mem_of_getElem? (i := 2) rfl)) (fun _ h9 => h9) rfl dX4_readHand_32 ?_
      obtain ⟨v3, ev3, hf⟩ := wb_v hf
      refine wb_topi ev3 ?_
      refine lv_istore_n (lv' := [(2, .int v3), (0, .ref (a0 0)), (1, .ref (a1 0))]) hx hb dX4_readHand_35 rfl hl (by decide) rfl (fun ls hl => ?_)
      refine lv_aload_n hx hb dX4_readHand_36 rfl (lv_at hl 2 rfl) ?_
      refine va_ldcS hx hb hown (hZ.2.1 2 (RX4, 41, "for") rfl) dX4_readHand_37 ?_
      obtain ⟨r4, hr4, hf⟩ := wb_b hf
      have hPc := hP.sub (ws' := (wWX9 cB cI cZ a1 r2.2.1 r2.2.2)) [2, 3] rfl
      have hDc := hD.sub (ws' := (wWX9 cB cI cZ a1 r2.2.1 r2.2.2)) [2, 3] (by decide) rfl
      have hFc := va_free (wc := (wWX9 cB cI cZ a1 r2.2.1 r2.2.2)) hD hS hA [2, 3] rfl
      refine va_calli (va_runV (As := [.ref (aK 2)]) (rest := []) ⟨hx, hb, hml, hown, hts⟩ (cn_X9_takeWord l D cB cI cZ N aK aV a1 r2.2.1 r2.2.2 2 (by decide) H.size r4 hr4) (cwV 1 hts gX4_readHand_X9_takeWord rfl rfl rfl cdX9_takeWord ⟨Nat.le_of_ble_eq_true rfl, Nat.le_of_ble_eq_true rfl⟩) (wb_preDEV hPc hK hDc (va_recv hK hP (ci := 9) (q0 := 2) rfl rfl) hZ hS hFc) rfl rfl hl.1 rfl (lv_room (Nat.le_of_ble_eq_true rfl)) dX4_readHand_39 ⟨Nat.le_of_ble_eq_true rfl, Nat.le_of_ble_eq_true rfl⟩) hS (fun q _ h => hFc q h) hFc (fun r9 u t H locs ht hvm hw hB hz1 hk1 hS => ?_)
      obtain ⟨hP, hD⟩ := wb_join (wc := (wWX9 cB cI cZ a1 r2.2.1 r2.2.2)) (w1 := (wWX9 cB cI cZ a1 r4.2.1 r4.2.2)) (wf := ((wWX4 cB cI cZ a0 I0 M0) ++ (wWX9 cB cI cZ a1 r4.2.1 r4.2.2))) hP hD [2, 3] [0, 1] [0, 1, 2, 3] rfl rfl (by decide) (by decide) (by decide) rfl hk1 hFc ht hB
      rw [hw]
      refine lv_if_eq (tgt := 55) hx hb dX4_readHand_42 (by decide) (fun hc => ?_) (fun hc => ?_)
      · replace hf := wb_t hc hf
        refine lv_iconst (v := (0 : Int32)) hx hb dX4_readHand_55 (by decide) ?_
        exact W.zret (v := (0 : Int32)) hx hb hr (by decide) (fun t ht hW => by rw [← Option.some.inj hf]; exact ⟨⟨(0 : Int32), (), rfl, rfl, by rw [ht]; exact hP, va_K.moved hW.alike hK, hD⟩, hS.F ht⟩) hS.2.2 dX4_readHand_56
      · replace hf := wb_f hc hf
        refine lv_aload_n hx hb dX4_readHand_45 rfl (lv_at hl 2 rfl) ?_
        refine lv_iconst (v := (0 : Int32)) hx hb dX4_readHand_46 (by decide) ?_
        refine lv_bipush (v := (29 : Int32)) hx hb dX4_readHand_47 (by decide) ?_
        obtain ⟨r5, hr5, hf⟩ := wb_b hf
        have hPc := hP.sub (ws' := (wWX9 cB cI cZ a1 r4.2.1 r4.2.2)) [2, 3] rfl
        have hDc := hD.sub (ws' := (wWX9 cB cI cZ a1 r4.2.1 r4.2.2)) [2, 3] (by decide) rfl
        have hFc := va_free (wc := (wWX9 cB cI cZ a1 r4.2.1 r4.2.2)) hD hS hA [2, 3] rfl
        refine va_calli (va_runV (As := [.int (0 : Int32), .int (29 : Int32)]) (rest := []) ⟨hx, hb, hml, hown, hts⟩ (cn_X9_takeNumber l D cB cI cZ N a1 r4.2.1 r4.2.2 (0 : Int32) (29 : Int32) H.size r5 hr5) (cwV 2 hts gX4_readHand_X9_takeNumber rfl rfl rfl cdX9_takeNumber ⟨Nat.le_of_ble_eq_true rfl, Nat.le_of_ble_eq_true rfl⟩) (wb_preDV hPc hK hDc (va_recv hK hP (ci := 9) (q0 := 2) rfl rfl)) rfl rfl hl.1 rfl (lv_room (Nat.le_of_ble_eq_true rfl)) dX4_readHand_49 ⟨Nat.le_of_ble_eq_true rfl, Nat.le_of_ble_eq_true rfl⟩) hS (fun q _ h => hFc q h) hFc (fun r9 u t H locs ht hvm hw hB hz1 hk1 hS => ?_)
        obtain ⟨hP, hD⟩ := wb_join (wc := (wWX9 cB cI cZ a1 r4.2.1 r4.2.2)) (w1 := (wWX9 cB cI cZ a1 r5.2.1 r5.2.2)) (wf := ((wWX4 cB cI cZ a0 I0 M0) ++ (wWX9 cB cI cZ a1 r5.2.1 r5.2.2))) hP hD [2, 3] [0, 1] [0, 1, 2, 3] rfl rfl (by decide) (by decide) (by decide) rfl hk1 hFc ht hB
        rw [hw]
        refine lv_if_ne (tgt := 57) hx hb dX4_readHand_52 (by decide) (fun hc => ?_) (fun hc => ?_)
        · replace hf := wb_f hc hf
          refine lv_aload_n hx hb dX4_readHand_57 rfl (lv_at hl 1 rfl) ?_
          refine va_get (D := D) (ci := 4) (v := .ref (a0 1)) (C := RX4) (T := TX4) (N := 2) hx hb hts hinX4 hown hK hP 0 rfl rfl 0 (by decide) (hts (.fieldLink RX4 9 "WheelBook$Hands" "stoodFor" "[I") (List.mem_of_getElem? (i := 3) rfl)) (fun _ h9 => h9) rfl dX4_readHand_58 ?_
          refine lv_iload_n hx hb dX4_readHand_61 rfl (lv_at hl 0 rfl) ?_
          refine lv_dup2_11 hx hb dX4_readHand_62 rfl rfl ?_
          obtain ⟨hin, hf⟩ := wb_n hf
          refine va_iald hx hb hK hP 1 1 rfl rfl hin dX4_readHand_63 ?_
          refine lv_iconst (v := (1 : Int32)) hx hb dX4_readHand_64 (by decide) ?_
          refine lv_aload_n hx hb dX4_readHand_65 rfl (lv_at hl 2 rfl) ?_
          refine va_get (D := D) (ci := 9) (v := .int (r5.2.1 6)) (C := RX9) (T := TX9) (N := 10) hx hb hts hinX9 hown hK hP 2 rfl rfl 7 (by decide) (hts (.fieldLink RX4 38 "WheelBook$Text" "number" "I") (List.mem_of_getElem? (i := 2) rfl)) (fun _ h9 => h9) rfl dX4_readHand_66 ?_
          refine lv_ishl hx hb dX4_readHand_69 ?_
          refine lv_ior hx hb dX4_readHand_70 ?_
          obtain ⟨hin, hf⟩ := wb_n hf
          refine va_iast hx hb hK hP hD hS 1 1 rfl rfl hin dX4_readHand_71 (fun H locs hP hD hS => ?_)
          have hP : va_P D vwCl ((wWX4 cB cI cZ a0 I0 (wb_um M0 0 (v3).toNatClampNeg ((M0 0 (v3).toNatClampNeg) ||| ((1 : Int32) <<< ((r5.2.1 6) &&& 31))))) ++ (wWX9 cB cI cZ a1 r5.2.1 r5.2.2)) H := hP
          have hD : va_D A ((wWX4 cB cI cZ a0 I0 (wb_um M0 0 (v3).toNatClampNeg ((M0 0 (v3).toNatClampNeg) ||| ((1 : Int32) <<< ((r5.2.1 6) &&& 31))))) ++ (wWX9 cB cI cZ a1 r5.2.1 r5.2.2)) := hD
          obtain ⟨M0_6, eM0_6, hf⟩ := wb_v hf
          rw [← eM0_6] at hP hD
          refine lv_aload_n hx hb dX4_readHand_72 rfl (lv_at hl 1 rfl) ?_
          refine lv_dup hx hb dX4_readHand_73 rfl ?_
          refine va_get (D := D) (ci := 4) (v := .int (I0 0)) (C := RX4) (T := TX4) (N := 2) hx hb hts hinX4 hown hK hP 0 rfl rfl 1 (by decide) (hts (.fieldLink RX4 21 "WheelBook$Hands" "many" "I") (List.mem_of_getElem? (i := 1) rfl)) (fun _ h9 => h9) rfl dX4_readHand_74 ?_
          refine lv_iconst (v := (1 : Int32)) hx hb dX4_readHand_77 (by decide) ?_
          refine lv_iadd hx hb dX4_readHand_78 ?_
          refine va_put (D := D) (ci := 4) (v := .int ((I0 0) + (1 : Int32))) (ty := .int) (C := RX4) (T := TX4) (N := 2) hx hb hts hinX4 tyX4 tyX4_ok nmX4 hown hK hP hD hS 0 rfl rfl 1 (by decide) (hts (.fieldLink RX4 21 "WheelBook$Hands" "many" "I") (List.mem_of_getElem? (i := 1) rfl)) (fun _ h9 => h9) rfl (by decide +kernel) rfl rfl (Nat.le_of_ble_eq_true rfl) dX4_readHand_79 (fun H locs hP hD hS => ?_)
          have hP : va_P D vwCl ((wWX4 cB cI cZ a0 (upd I0 0 ((I0 0) + (1 : Int32))) M0_6) ++ (wWX9 cB cI cZ a1 r5.2.1 r5.2.2)) H := hP
          have hD : va_D A ((wWX4 cB cI cZ a0 (upd I0 0 ((I0 0) + (1 : Int32))) M0_6) ++ (wWX9 cB cI cZ a1 r5.2.1 r5.2.2)) := hD
          obtain ⟨I0_7, eI0_7, hf⟩ := wb_v hf
          rw [← eI0_7] at hP hD
          refine lv_aload_n hx hb dX4_readHand_82 rfl (lv_at hl 2 rfl) ?_
          obtain ⟨r8, hr8, hf⟩ := wb_b hf
          have hPc := hP.sub (ws' := (wWX9 cB cI cZ a1 r5.2.1 r5.2.2)) [2, 3] rfl
          have hDc := hD.sub (ws' := (wWX9 cB cI cZ a1 r5.2.1 r5.2.2)) [2, 3] (by decide) rfl
          have hFc := va_free (wc := (wWX9 cB cI cZ a1 r5.2.1 r5.2.2)) hD hS hA [2, 3] rfl
          refine va_calli (va_runV (As := []) (rest := []) ⟨hx, hb, hml, hown, hts⟩ (cn_X9_takeStop l D cB cI cZ N a1 r5.2.1 r5.2.2 H.size r8 hr8) (cwV 0 hts gX4_readHand_X9_takeStop rfl rfl rfl cdX9_takeStop ⟨Nat.le_of_ble_eq_true rfl, Nat.le_of_ble_eq_true rfl⟩) (wb_preDV hPc hK hDc (va_recv hK hP (ci := 9) (q0 := 2) rfl rfl)) rfl rfl hl.1 rfl (lv_room (Nat.le_of_ble_eq_true rfl)) dX4_readHand_83 ⟨Nat.le_of_ble_eq_true rfl, Nat.le_of_ble_eq_true rfl⟩) hS (fun q _ h => hFc q h) hFc (fun r9 u t H locs ht hvm hw hB hz1 hk1 hS => ?_)
          obtain ⟨hP, hD⟩ := wb_join (wc := (wWX9 cB cI cZ a1 r5.2.1 r5.2.2)) (w1 := (wWX9 cB cI cZ a1 r8.2.1 r8.2.2)) (wf := ((wWX4 cB cI cZ a0 I0_7 M0_6) ++ (wWX9 cB cI cZ a1 r8.2.1 r8.2.2))) hP hD [2, 3] [0, 1] [0, 1, 2, 3] rfl rfl (by decide) (by decide) (by decide) rfl hk1 hFc ht hB
          rw [hw]
          obtain ⟨hz, hf⟩ := wb_y hf
          exact W.zret (v := r8.1) hx hb hr (congrArg Value.int hz) (fun t ht hW => by rw [← Option.some.inj hf]; exact ⟨⟨r8.1, (), rfl, rfl, by rw [ht]; exact hP, va_K.moved hW.alike hK, hD⟩, hS.F ht⟩) hS.2.2 dX4_readHand_86
        · replace hf := wb_t hc hf
          refine lv_iconst (v := (0 : Int32)) hx hb dX4_readHand_55 (by decide) ?_
          exact W.zret (v := (0 : Int32)) hx hb hr (by decide) (fun t ht hW => by rw [← Option.some.inj hf]; exact ⟨⟨(0 : Int32), (), rfl, rfl, by rw [ht]; exact hP, va_K.moved hW.alike hK, hD⟩, hS.F ht⟩) hS.2.2 dX4_readHand_56
    · replace hf := wb_t hc hf
      refine lv_iconst (v := (0 : Int32)) hx hb dX4_readHand_29 (by decide) ?_
      exact W.zret (v := (0 : Int32)) hx hb hr (by decide) (fun t ht hW => by rw [← Option.some.inj hf]; exact ⟨⟨(0 : Int32), (), rfl, rfl, by rw [ht]; exact hP, va_K.moved hW.alike hK, hD⟩, hS.F ht⟩) hS.2.2 dX4_readHand_30
  · replace hf := wb_f hc hf
    refine lv_aload_n hx hb dX4_readHand_9 rfl (lv_at hl 1 rfl) ?_
    refine lv_iconst (v := (2 : Int32)) hx hb dX4_readHand_10 (by decide) ?_
    obtain ⟨r9b, hr9b, hf⟩ := wb_b hf
    have hPc := hP.sub (ws' := (wWX9 cB cI cZ a1 I1 M1)) [2, 3] rfl
    have hDc := hD.sub (ws' := (wWX9 cB cI cZ a1 I1 M1)) [2, 3] (by decide) rfl
    have hFc := va_free (wc := (wWX9 cB cI cZ a1 I1 M1)) hD hS hA [2, 3] rfl
    refine va_calli (va_runV (As := [.int (2 : Int32)]) (rest := []) ⟨hx, hb, hml, hown, hts⟩ (cn_X9_refuse l D cB cI cZ N a1 I1 M1 (2 : Int32) H.size r9b hr9b) (cwV 1 hts gX4_readHand_X9_refuse rfl rfl rfl cdX9_refuse ⟨Nat.le_of_ble_eq_true rfl, Nat.le_of_ble_eq_true rfl⟩) (wb_preDV hPc hK hDc (va_recv hK hP (ci := 9) (q0 := 2) rfl rfl)) rfl rfl hl.1 rfl (lv_room (Nat.le_of_ble_eq_true rfl)) dX4_readHand_11 ⟨Nat.le_of_ble_eq_true rfl, Nat.le_of_ble_eq_true rfl⟩) hS (fun q _ h => hFc q h) hFc (fun r9 u t H locs ht hvm hw hB hz1 hk1 hS => ?_)
    obtain ⟨hP, hD⟩ := wb_join (wc := (wWX9 cB cI cZ a1 I1 M1)) (w1 := (wWX9 cB cI cZ a1 r9b.2.1 r9b.2.2)) (wf := ((wWX4 cB cI cZ a0 I0 M0) ++ (wWX9 cB cI cZ a1 r9b.2.1 r9b.2.2))) hP hD [2, 3] [0, 1] [0, 1, 2, 3] rfl rfl (by decide) (by decide) (by decide) rfl hk1 hFc ht hB
    rw [hw]
    obtain ⟨hz, hf⟩ := wb_y hf
    exact W.zret (v := r9b.1) hx hb hr (congrArg Value.int hz) (fun t ht hW => by rw [← Option.some.inj hf]; exact ⟨⟨r9b.1, (), rfl, rfl, by rw [ht]; exact hP, va_K.moved hW.alike hK, hD⟩, hS.F ht⟩) hS.2.2 dX4_readHand_14
