set_option maxHeartbeats 4000000 in
set_option maxRecDepth 100000 in
theorem cn_X11_births (l : Launch) (D : va_G) (cB cI cZ : ClassId) (N : Nat) (a0 : Nat → Nat) (I0 : Nat → Int32) (M0 : Nat → Nat → Int32) (x1 : Int32) (x2 : Int32) (sz : Nat) (R : Int32 × (Nat → Int32) × (Nat → Nat → Int32)) (hf : fX11_births N I0 M0 x1 x2 = some (.inr R)) : Met l yX11_births wyX11_births ({ frames := 7, cells := 0, slots := 0, locals := 140 }) (va_Pc [.ref (a0 0), .int x1, .int x2] (wb_preD D [(cB, .byte), (cI, .int), (cZ, .boolean)] (wWX11 cB cI cZ a0 I0 M0) sz)) (va_Qi (fun r (_ : Unit) => r = R.1) (fun _ t => wb_post D [(cB, .byte), (cI, .int), (cZ, .boolean)] (va_A (wWX11 cB cI cZ a0 I0 M0) sz) (wWX11 cB cI cZ a0 R.2.1 R.2.2) t) (va_A (wWX11 cB cI cZ a0 I0 M0) sz)) 0 0 (va_A (wWX11 cB cI cZ a0 I0 M0) sz) := by
  refine Met.ofW (cc := cX11_births) (maxL := 3) (ret := (some .int)) (by decide) rfl ?_
  intro p e s m args below meth c s₁ B hml hv
  obtain ⟨rfl, hsz, hP, hK, hD0⟩ := hv
  have hx := B.exec
  have hb := B.bytes
  have hr := B.returns
  have hts := atoms_spec (ws := wyX11_births) B.pre
  have hown : s.vm.findClass RX11 = some m.cls := findClass_of_methodNamed B.named
  have hlocks := B.notSynchronized
  have hinX11 : ∀ w ∈ u_ws RX11 TX11 13, w ∈ wyX11_births := fun w h => List.mem_cons_of_mem _ (List.mem_append_left _ (List.mem_append_left _ (List.mem_append_left _ (List.mem_append_left _ (List.mem_append_left _ (List.mem_append_right _ h))))))
  have hinX5 : ∀ w ∈ u_ws RX5 TX5 6, w ∈ wyX11_births := fun w h => List.mem_cons_of_mem _ (List.mem_append_left _ (List.mem_append_left _ (List.mem_append_left _ (List.mem_append_left _ (List.mem_append_right _ h)))))
  subst hsz
  have hD := hD0.self (sz := s.heap.size)
  generalize hAe : va_A (wWX11 cB cI cZ a0 I0 M0) s.heap.size = A at hD ⊢
  have hA : ∀ q : Nat, s.heap.size ≤ q → A q := fun q h => by rw [← hAe]; exact Or.inr h
  have hS : va_S A s.heap s.heap [] := va_S.rf
  have hl := lv_entry ([.ref (a0 0), .int x1, .int x2]) (n := 3) (Nat.le_of_ble_eq_true rfl)
  rw [lg_entry_eq]
  generalize (lg_sl ([.ref (a0 0), .int x1, .int x2]) ++ List.replicate (3 - (lg_sl ([.ref (a0 0), .int x1, .int x2])).length) Slot.unset).toArray = ls at hl ⊢
  have hl : lv_has ls 3 [(0, .ref (a0 0)), (1, .int x1), (2, .int x2)] := hl
  unfold fX11_births at hf
  obtain ⟨H, hHe⟩ : ∃ H : Heap, H = s.heap := ⟨_, rfl⟩
  obtain ⟨locs, hle⟩ : ∃ locs : List Loc, locs = [] := ⟨_, rfl⟩
  refine wb_start (H := H) (locs := locs) hHe hle ?_
  rw [← hHe] at hP
  have hS : va_S A s.heap H locs := by rw [hHe, hle]; exact va_S.rf
  have J27 : ∀ (I0_j27 : Nat → Int32) (M0_j27 : Nat → Nat → Int32) (z27_0 : Int32) (H : Heap) (locs : List Loc), va_P D vwCl (wWX11 cB cI cZ a0 I0_j27 M0_j27) H → va_D A (wWX11 cB cI cZ a0 I0_j27 M0_j27) → va_S A s.heap H locs → ∀ (ls : Array Slot), lv_has ls 3 [(0, .ref (a0 0)), (1, .int x1), (2, .int x2)] → fX11_births_J27 N x1 x2 I0_j27 M0_j27 z27_0 = some (.inr R) → W p l e (headSpec wyX11_births { frames := 7, cells := 0, slots := 0, locals := 140 }).room s m [.ref (a0 0), .int x1, .int x2].toArray below meth c H locs 0 0 (MQ below (va_Qi (fun r (_ : Unit) => r = R.1) (fun _ t => wb_post D [(cB, .byte), (cI, .int), (cZ, .boolean)] A (wWX11 cB cI cZ a0 R.2.1 R.2.2) t) A) [.ref (a0 0), .int x1, .int x2].toArray s 0 0 A) (F0 m 27 ls [.int z27_0]) := by
    intro I0_j27 M0_j27 z27_0 H locs hP hD hS ls hl hf
    unfold fX11_births_J27 at hf
    obtain ⟨r1, hr1, hf⟩ := wb_xr hf
    refine va_csv (W.runS (As := [.int z27_0]) (rest := []) ⟨hx, hb, hml, hown, hts⟩ (cn_X11_need l D cB cI cZ N z27_0 r1 hr1) (va_cwS 1 hts gyX11_births_X11_need rfl rfl rfl csX11_need ⟨Nat.le_of_ble_eq_true rfl, Nat.le_of_ble_eq_true rfl⟩) (wb_preS (hP.sub (ws' := ([] : va_W)) [] rfl) hK) rfl rfl hl.1 rfl (lv_room (Nat.le_of_ble_eq_true rfl)) dX11_births_27 ⟨Nat.le_of_ble_eq_true rfl, Nat.le_of_ble_eq_true rfl⟩) (fun _ => ?_)
    replace hf := wb_okr hf
    refine lv_aload_n hx hb dX11_births_30 rfl (lv_at hl 0 rfl) ?_
    refine va_get (D := D) (ci := 11) (v := .ref (a0 43)) (C := RX11) (T := TX11) (N := 13) hx hb hts hinX11 hown hK hP 0 rfl rfl 11 (by decide) (hts (.fieldLink RX11 73 "WheelBook" "parts" "LWheelBook$Births;") (List.mem_of_getElem? (i := 1) rfl)) (fun _ h9 => h9) rfl dX11_births_31 ?_
    refine lv_aload_n hx hb dX11_births_34 rfl (lv_at hl 0 rfl) ?_
    refine va_get (D := D) (ci := 11) (v := .ref (a0 3)) (C := RX11) (T := TX11) (N := 13) hx hb hts hinX11 hown hK hP 0 rfl rfl 1 (by decide) (hts (.fieldLink RX11 19 "WheelBook" "told" "LWheelBook$House;") (List.mem_of_getElem? (i := 2) rfl)) (fun _ h9 => h9) rfl dX11_births_35 ?_
    refine va_get (D := D) (ci := 5) (v := .ref (a0 10)) (C := RX5) (T := TX5) (N := 6) hx hb hts hinX5 hown hK hP 3 rfl rfl 5 (by decide) (hts (.fieldLink RX11 140 "WheelBook$House" "hands" "LWheelBook$Hands;") (List.mem_of_getElem? (i := 3) rfl)) (fun _ h9 => h9) rfl dX11_births_38 ?_
    refine lv_aload_n hx hb dX11_births_41 rfl (lv_at hl 0 rfl) ?_
    refine va_get (D := D) (ci := 11) (v := .ref (a0 21)) (C := RX11) (T := TX11) (N := 13) hx hb hts hinX11 hown hK hP 0 rfl rfl 3 (by decide) (hts (.fieldLink RX11 29 "WheelBook" "books" "LWheelBook$Books;") (List.mem_of_getElem? (i := 4) rfl)) (fun _ h9 => h9) rfl dX11_births_42 ?_
    refine lv_iload_n hx hb dX11_births_45 rfl (lv_at hl 2 rfl) ?_
    obtain ⟨r2, hr2, hf⟩ := wb_b hf
    have hPc := hP.sub (ws' := ((wWX0 cB cI cZ (wb_sh a0 43) (wb_sh I0_j27 43) (wb_sh M0_j27 27)) ++ ((wWX4 cB cI cZ (wb_sh a0 10) (wb_sh I0_j27 10) (wb_sh M0_j27 6)) ++ (wWX1 cB cI cZ (wb_sh a0 21) (wb_sh I0_j27 13) (wb_sh M0_j27 13))))) [43, 44, 10, 11, 21, 22, 23] rfl
    have hDc := hD.sub (ws' := ((wWX0 cB cI cZ (wb_sh a0 43) (wb_sh I0_j27 43) (wb_sh M0_j27 27)) ++ ((wWX4 cB cI cZ (wb_sh a0 10) (wb_sh I0_j27 10) (wb_sh M0_j27 6)) ++ (wWX1 cB cI cZ (wb_sh a0 21) (wb_sh I0_j27 13) (wb_sh M0_j27 13))))) [43, 44, 10, 11, 21, 22, 23] (by decide) rfl
    have hFc := va_free (wc := ((wWX0 cB cI cZ (wb_sh a0 43) (wb_sh I0_j27 43) (wb_sh M0_j27 27)) ++ ((wWX4 cB cI cZ (wb_sh a0 10) (wb_sh I0_j27 10) (wb_sh M0_j27 6)) ++ (wWX1 cB cI cZ (wb_sh a0 21) (wb_sh I0_j27 13) (wb_sh M0_j27 13))))) hD hS hA [43, 44, 10, 11, 21, 22, 23] rfl
    refine va_callv (va_runV (As := [.ref (a0 10), .ref (a0 21), .int x2]) (rest := []) ⟨hx, hb, hml, hown, hts⟩ (cn_X0_partBy l D cB cI cZ N (wb_sh a0 43) (wb_sh I0_j27 43) (wb_sh M0_j27 27) (wb_sh a0 10) (wb_sh I0_j27 10) (wb_sh M0_j27 6) (wb_sh a0 21) (wb_sh I0_j27 13) (wb_sh M0_j27 13) x2 H.size r2 hr2) (cwV 3 hts gyX11_births_X0_partBy rfl rfl rfl cdX0_partBy ⟨Nat.le_of_ble_eq_true rfl, Nat.le_of_ble_eq_true rfl⟩) (wb_preDV hPc hK hDc (va_recv hK hP (ci := 0) (q0 := 43) rfl rfl)) rfl rfl hl.1 rfl (lv_room (Nat.le_of_ble_eq_true rfl)) dX11_births_46 ⟨Nat.le_of_ble_eq_true rfl, Nat.le_of_ble_eq_true rfl⟩) hS (fun q _ h => hFc q h) hFc (fun u t H locs ht hvm hw hB hz1 hk1 hS => ?_)
    obtain ⟨hP, hD⟩ := wj_bca (a := (wWX0 cB cI cZ (wb_sh a0 43) (wb_sh I0_j27 43) (wb_sh M0_j27 27))) (b := (wWX4 cB cI cZ (wb_sh a0 10) (wb_sh I0_j27 10) (wb_sh M0_j27 6))) (c := (wWX1 cB cI cZ (wb_sh a0 21) (wb_sh I0_j27 13) (wb_sh M0_j27 13))) (a' := (wWX0 cB cI cZ (wb_sh a0 43) r2.1 r2.2)) (b' := (wWX4 cB cI cZ (wb_sh a0 10) (wb_sh I0_j27 10) (wb_sh M0_j27 6))) (c' := (wWX1 cB cI cZ (wb_sh a0 21) (wb_sh I0_j27 13) (wb_sh M0_j27 13))) (wf := (wWX11 cB cI cZ a0 (wb_in I0_j27 43 0 r2.1) (wb_in M0_j27 27 1 r2.2))) 10 12 9 24 19 45 hP hD rfl rfl hk1 hFc ht hB
    obtain ⟨I0_3, eI0_3, hf⟩ := wb_v hf
    rw [← eI0_3] at hP hD
    obtain ⟨M0_4, eM0_4, hf⟩ := wb_v hf
    rw [← eM0_4] at hP hD
    refine lv_iload_n hx hb dX11_births_49 rfl (lv_at hl 1 rfl) ?_
    refine lv_iconst (v := (-1 : Int32)) hx hb dX11_births_50 (by decide) ?_
    refine lv_icmp_ne (tgt := 68) hx hb dX11_births_51 (by decide) (fun hc => ?_) (fun hc => ?_)
    · replace hf := wb_f hc hf
      refine lv_aload_n hx hb dX11_births_68 rfl (lv_at hl 0 rfl) ?_
      refine va_get (D := D) (ci := 11) (v := .ref (a0 43)) (C := RX11) (T := TX11) (N := 13) hx hb hts hinX11 hown hK hP 0 rfl rfl 11 (by decide) (hts (.fieldLink RX11 73 "WheelBook" "parts" "LWheelBook$Births;") (List.mem_of_getElem? (i := 1) rfl)) (fun _ h9 => h9) rfl dX11_births_69 ?_
      refine lv_iload_n hx hb dX11_births_72 rfl (lv_at hl 1 rfl) ?_
      obtain ⟨r5, hr5, hf⟩ := wb_b hf
      refine vp_callSi (W.runV (As := [.int x1]) (rest := []) ⟨hx, hb, hml, hown, hts⟩ (cn_X0_leastOf l D cB cI cZ N (wb_sh a0 43) (wb_sh I0_3 43) (wb_sh M0_4 27) x1 r5 hr5) (cwV 1 hts gyX11_births_X0_leastOf rfl rfl rfl cdX0_leastOf ⟨Nat.le_of_ble_eq_true rfl, Nat.le_of_ble_eq_true rfl⟩) (wb_preV (hP.sub (ws' := (wWX0 cB cI cZ (wb_sh a0 43) (wb_sh I0_3 43) (wb_sh M0_4 27))) [43, 44] rfl) hK (va_recv hK hP (ci := 0) (q0 := 43) rfl rfl)) rfl rfl hl.1 rfl (lv_room (Nat.le_of_ble_eq_true rfl)) dX11_births_73 ⟨Nat.le_of_ble_eq_true rfl, Nat.le_of_ble_eq_true rfl⟩) (fun r9 e9 => ?_)
      rw [e9]
      exact W.iret (v := r5) hx hb hr (fun t ht hW => by rw [← Option.some.inj hf]; exact ⟨⟨r5, (), rfl, rfl, by rw [ht]; exact hP, va_K.moved hW.alike hK, hD⟩, hS.F ht⟩) hS.2.2 dX11_births_76
    · replace hf := wb_t hc hf
      refine lv_aload_n hx hb dX11_births_54 rfl (lv_at hl 0 rfl) ?_
      refine va_get (D := D) (ci := 11) (v := .ref (a0 43)) (C := RX11) (T := TX11) (N := 13) hx hb hts hinX11 hown hK hP 0 rfl rfl 11 (by decide) (hts (.fieldLink RX11 73 "WheelBook" "parts" "LWheelBook$Births;") (List.mem_of_getElem? (i := 1) rfl)) (fun _ h9 => h9) rfl dX11_births_55 ?_
      refine lv_aload_n hx hb dX11_births_58 rfl (lv_at hl 0 rfl) ?_
      refine va_get (D := D) (ci := 11) (v := .ref (a0 21)) (C := RX11) (T := TX11) (N := 13) hx hb hts hinX11 hown hK hP 0 rfl rfl 3 (by decide) (hts (.fieldLink RX11 29 "WheelBook" "books" "LWheelBook$Books;") (List.mem_of_getElem? (i := 4) rfl)) (fun _ h9 => h9) rfl dX11_births_59 ?_
      obtain ⟨r6, hr6, hf⟩ := wb_b hf
      refine vp_callSi (W.runV (As := [.ref (a0 21)]) (rest := []) ⟨hx, hb, hml, hown, hts⟩ (cn_X0_howManyParts l D cB cI cZ N (wb_sh a0 43) (wb_sh I0_3 43) (wb_sh M0_4 27) (wb_sh a0 21) (wb_sh I0_3 13) (wb_sh M0_4 13) r6 hr6) (cwV 1 hts gyX11_births_X0_howManyParts rfl rfl rfl cdX0_howManyParts ⟨Nat.le_of_ble_eq_true rfl, Nat.le_of_ble_eq_true rfl⟩) (wb_preV (hP.sub (ws' := ((wWX0 cB cI cZ (wb_sh a0 43) (wb_sh I0_3 43) (wb_sh M0_4 27)) ++ (wWX1 cB cI cZ (wb_sh a0 21) (wb_sh I0_3 13) (wb_sh M0_4 13)))) [43, 44, 21, 22, 23] rfl) hK (va_recv hK hP (ci := 0) (q0 := 43) rfl rfl)) rfl rfl hl.1 rfl (lv_room (Nat.le_of_ble_eq_true rfl)) dX11_births_62 ⟨Nat.le_of_ble_eq_true rfl, Nat.le_of_ble_eq_true rfl⟩) (fun r9 e9 => ?_)
      rw [e9]
      refine lv_goto (tgt := 76) hx hb dX11_births_65 (by decide) ?_
      exact W.iret (v := r6) hx hb hr (fun t ht hW => by rw [← Option.some.inj hf]; exact ⟨⟨r6, (), rfl, rfl, by rw [ht]; exact hP, va_K.moved hW.alike hK, hD⟩, hS.F ht⟩) hS.2.2 dX11_births_76
  have J26 : ∀ (I0_j26 : Nat → Int32) (M0_j26 : Nat → Nat → Int32) (H : Heap) (locs : List Loc), va_P D vwCl (wWX11 cB cI cZ a0 I0_j26 M0_j26) H → va_D A (wWX11 cB cI cZ a0 I0_j26 M0_j26) → va_S A s.heap H locs → ∀ (ls : Array Slot), lv_has ls 3 [(0, .ref (a0 0)), (1, .int x1), (2, .int x2)] → fX11_births_J26 N x1 x2 I0_j26 M0_j26 = some (.inr R) → W p l e (headSpec wyX11_births { frames := 7, cells := 0, slots := 0, locals := 140 }).room s m [.ref (a0 0), .int x1, .int x2].toArray below meth c H locs 0 0 (MQ below (va_Qi (fun r (_ : Unit) => r = R.1) (fun _ t => wb_post D [(cB, .byte), (cI, .int), (cZ, .boolean)] A (wWX11 cB cI cZ a0 R.2.1 R.2.2) t) A) [.ref (a0 0), .int x1, .int x2].toArray s 0 0 A) (F0 m 26 ls []) := by
    intro I0_j26 M0_j26 H locs hP hD hS ls hl hf
    unfold fX11_births_J26 at hf
    refine lv_iconst (v := (0 : Int32)) hx hb dX11_births_26 (by decide) ?_
    exact J27 I0_j26 M0_j26 (0 : Int32) H locs hP hD hS ls (lv_sub hl [0, 1, 2] rfl) hf
  have J12 : ∀ (I0_j12 : Nat → Int32) (M0_j12 : Nat → Nat → Int32) (H : Heap) (locs : List Loc), va_P D vwCl (wWX11 cB cI cZ a0 I0_j12 M0_j12) H → va_D A (wWX11 cB cI cZ a0 I0_j12 M0_j12) → va_S A s.heap H locs → ∀ (ls : Array Slot), lv_has ls 3 [(0, .ref (a0 0)), (1, .int x1), (2, .int x2)] → fX11_births_J12 N x1 x2 I0_j12 M0_j12 = some (.inr R) → W p l e (headSpec wyX11_births { frames := 7, cells := 0, slots := 0, locals := 140 }).room s m [.ref (a0 0), .int x1, .int x2].toArray below meth c H locs 0 0 (MQ below (va_Qi (fun r (_ : Unit) => r = R.1) (fun _ t => wb_post D [(cB, .byte), (cI, .int), (cZ, .boolean)] A (wWX11 cB cI cZ a0 R.2.1 R.2.2) t) A) [.ref (a0 0), .int x1, .int x2].toArray s 0 0 A) (F0 m 12 ls []) := by
    intro I0_j12 M0_j12 H locs hP hD hS ls hl hf
    unfold fX11_births_J12 at hf
    refine lv_iload_n hx hb dX11_births_12 rfl (lv_at hl 2 rfl) ?_
    refine lv_iconst (v := (1 : Int32)) hx hb dX11_births_13 (by decide) ?_
    refine lv_bipush (v := (7 : Int32)) hx hb dX11_births_14 (by decide) ?_
    obtain ⟨r7, hr7, hf⟩ := wb_b hf
    refine vp_callSi (W.runS (As := [.int x2, .int (1 : Int32), .int (7 : Int32)]) (rest := []) ⟨hx, hb, hml, hown, hts⟩ (cn_X11_within l D cB cI cZ N x2 (1 : Int32) (7 : Int32) r7 hr7) (va_cwS 3 hts gyX11_births_X11_within rfl rfl rfl csX11_within ⟨Nat.le_of_ble_eq_true rfl, Nat.le_of_ble_eq_true rfl⟩) (wb_preS (hP.sub (ws' := ([] : va_W)) [] rfl) hK) rfl rfl hl.1 rfl (lv_room (Nat.le_of_ble_eq_true rfl)) dX11_births_16 ⟨Nat.le_of_ble_eq_true rfl, Nat.le_of_ble_eq_true rfl⟩) (fun r9 e9 => ?_)
    rw [e9]
    refine lv_if_eq (tgt := 26) hx hb dX11_births_19 (by decide) (fun hc => ?_) (fun hc => ?_)
    · replace hf := wb_t hc hf
      exact J26 I0_j12 M0_j12 H locs hP hD hS ls (lv_sub hl [0, 1, 2] rfl) hf
    · replace hf := wb_f hc hf
      refine lv_iconst (v := (1 : Int32)) hx hb dX11_births_22 (by decide) ?_
      refine lv_goto (tgt := 27) hx hb dX11_births_23 (by decide) ?_
      exact J27 I0_j12 M0_j12 (1 : Int32) H locs hP hD hS ls (lv_sub hl [0, 1, 2] rfl) hf
  refine lv_iload_n hx hb dX11_births_0 rfl (lv_at hl 1 rfl) ?_
  refine lv_iconst (v := (-1 : Int32)) hx hb dX11_births_1 (by decide) ?_
  refine lv_icmp_eq (tgt := 12) hx hb dX11_births_2 (by decide) (fun hc => ?_) (fun hc => ?_)
  · replace hf := wb_t hc hf
    exact J12 I0 M0 H locs hP hD hS ls (lv_sub hl [0, 1, 2] rfl) hf
  · replace hf := wb_f hc hf
    refine lv_iload_n hx hb dX11_births_5 rfl (lv_at hl 1 rfl) ?_
    obtain ⟨r8, hr8, hf⟩ := wb_b hf
    refine vp_callSi (W.runS (As := [.int x1]) (rest := []) ⟨hx, hb, hml, hown, hts⟩ (cn_X11_isNumber l D cB cI cZ N x1 r8 hr8) (va_cwS 1 hts gyX11_births_X11_isNumber rfl rfl rfl csX11_isNumber ⟨Nat.le_of_ble_eq_true rfl, Nat.le_of_ble_eq_true rfl⟩) (wb_preS (hP.sub (ws' := ([] : va_W)) [] rfl) hK) rfl rfl hl.1 rfl (lv_room (Nat.le_of_ble_eq_true rfl)) dX11_births_6 ⟨Nat.le_of_ble_eq_true rfl, Nat.le_of_ble_eq_true rfl⟩) (fun r9 e9 => ?_)
    rw [e9]
    refine lv_if_eq (tgt := 26) hx hb dX11_births_9 (by decide) (fun hc => ?_) (fun hc => ?_)
    · replace hf := wb_t hc hf
      exact J26 I0 M0 H locs hP hD hS ls (lv_sub hl [0, 1, 2] rfl) hf
    · replace hf := wb_f hc hf
      exact J12 I0 M0 H locs hP hD hS ls (lv_sub hl [0, 1, 2] rfl) hf
