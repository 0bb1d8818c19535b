set_option maxHeartbeats 4000000 in
set_option maxRecDepth 100000 in
theorem cn_X11_births (l : Launch) (D : va_G) (cB cI cZ : ClassId) (N : Nat) (a0 : Nat → Nat) (I0 : Nat → Int32) (M0 : Nat → Nat → Int32) (x1 : Int32) (x2 : Int32) (sz : Nat) (R : Int32 × (Nat → Int32) × (Nat → Nat → Int32)) (hf : fX11_births N I0 M0 x1 x2 = some (.inr R)) : Met l yX11_births wyX11_births ({ frames := 7, cells := 0, slots := 0, locals := 140 }) (va_Pc [.ref (a0 0), .int x1, .int x2] (wb_preD D [(cB, .byte), (cI, .int), (cZ, .boolean)] (wWX11 cB cI cZ a0 I0 M0) sz)) (va_Qi (fun r (_ : Unit) => r = R.1) (fun _ t => wb_post D [(cB, .byte), (cI, .int), (cZ, .boolean)] (va_A (wWX11 cB cI cZ a0 I0 M0) sz) (wWX11 cB cI cZ a0 R.2.1 R.2.2) t) (va_A (wWX11 cB cI cZ a0 I0 M0) sz)) 0 0 (va_A (wWX11 cB cI cZ a0 I0 M0) sz) := by
  refine Met.ofW (cc := cX11_births) (maxL := 3) (ret := (some .int)) pn_X11 rfl ?_
  intro p e s m args below meth c s₁ B hml hv
  obtain ⟨rfl, hsz, hP, hK, hD0⟩ := hv
  have hx := B.exec
  have hb := B.bytes
  have hr := B.returns
  have hts := atoms_spec (ws := wyX11_births) B.pre
  have hown : s.vm.findClass RX11 = some m.cls := (findClass_of_methodNamed B.named :)
  have hlocks := B.notSynchronized
  have hinX11 : ∀ w ∈ u_ws RX11 TX11 13, w ∈ wyX11_births := fun w h => List.mem_cons_of_mem _ (List.mem_append_left _ (List.mem_append_left _ (List.mem_append_left _ (List.mem_append_left _ (List.mem_append_left _ (List.mem_append_right _ h))))))
  have hinX5 : ∀ w ∈ u_ws RX5 TX5 6, w ∈ wyX11_births := fun w h => List.mem_cons_of_mem _ (List.mem_append_left _ (List.mem_append_left _ (List.mem_append_left _ (List.mem_append_left _ (List.mem_append_right _ h)))))
  subst hsz
  have hD := hD0.self (sz := s.heap.size)
  generalize hAe : va_A (wWX11 cB cI cZ a0 I0 M0) s.heap.size = A at hD ⊢
  have hA : ∀ q : Nat, s.heap.size ≤ q → A q := fun q h => by rw [← hAe]; exact Or.inr h
  have hS : va_S A s.heap s.heap [] := va_S.rf
  have hl := lv_entry ([.ref (a0 0), .int x1, .int x2]) (n := 3) (Nat.le_of_ble_eq_true rfl)
  rw [lg_entry_eq]
  generalize (lg_sl ([.ref (a0 0), .int x1, .int x2]) ++ List.replicate (3 - (lg_sl ([.ref (a0 0), .int x1, .int x2])).length) Slot.unset).toArray = ls at hl ⊢
  have hl : lv_has ls 3 [(0, .ref (a0 0)), (1, .int x1), (2, .int x2)] := hl
  unfold fX11_births at hf
  obtain ⟨H, hHe⟩ : ∃ H : Heap, H = s.heap := ⟨_, rfl⟩
  obtain ⟨locs, hle⟩ : ∃ locs : List Loc, locs = [] := ⟨_, rfl⟩
  refine wb_start (H := H) (locs := locs) hHe hle ?_
  rw [← hHe] at hP
  have hS : va_S A s.heap H locs := by rw [hHe, hle]; exact va_S.rf
  have J27 : ∀ (I0_j27 : Nat → Int32) (M0_j27 : Nat → Nat → Int32) (z27_0 : Int32) (H : Heap) (locs : List Loc), va_P D vwCl (wWX11 cB cI cZ a0 I0_j27 M0_j27) H → va_D A (wWX11 cB cI cZ a0 I0_j27 M0_j27) → va_S A s.heap H locs → ∀ (ls : Array Slot), lv_has ls 3 [(0, .ref (a0 0)), (1, .int x1), (2, .int x2)] → fX11_births_J27 N x1 x2 I0_j27 M0_j27 z27_0 = some (.inr R) → W p l e (headSpec wyX11_births { frames := 7, cells := 0, slots := 0, locals := 140 }).room s m [.ref (a0 0), .int x1, .int x2].toArray below meth c H locs 0 0 (MQ below (va_Qi (fun r (_ : Unit) => r = R.1) (fun _ t => wb_post D [(cB, .byte), (cI, .int), (cZ, .boolean)] A (wWX11 cB cI cZ a0 R.2.1 R.2.2) t) A) [.ref (a0 0), .int x1, .int x2].toArray s 0 0 A) (F0 m 27 ls [.int z27_0]) := by
    intro I0_j27 M0_j27 z27_0 H locs hP hD hS ls hl hf
    unfold fX11_births_J27 at hf
    obtain ⟨r1, hr1, hf⟩ := wb_xr hf
    refine va_csv (W.runS (As := [.int z27_0]) (rest := []) ⟨hx, hb, hml, hown, hts⟩ (cn_X11_need l D cB cI cZ N z27_0 r1 hr1) (va_cwS 1 hts gyX11_births_X11_need rfl rfl rfl csX11_need ⟨Nat.le_of_ble_eq_true rfl, Nat.le_of_ble_eq_true rfl⟩) (wb_preS (hP.sub (ws' := ([] : va_W)) [] rfl) hK) rfl rfl hl.1 rfl (lv_room (Nat.le_of_ble_eq_true rfl)) dX11_births_27 ⟨Nat.le_of_ble_eq_true rfl, Nat.le_of_ble_eq_true rfl⟩) (fun _ => ?_)
    replace hf := wb_okr hf
    refine lv_aload_n hx hb dX11_births_30 rfl (lv_at hl 0 rfl) ?_
    refine va_get (D := D) (ci := 11) (v := .ref (a0 43)) (C := RX11) (T := TX11) (N := 13) hx hb hts hinX11 hown hK hP 0 rfl rfl 11 (by decide) (hts (.fieldLink RX11 73 "WheelBook" "parts" "LWheelBook$Births;") (List.mem_of_getElem? (i := 1) rfl)) (fun _ h9 => h9) rfl dX11_births_31 ?_
    refine lv_aload_n hx hb dX11_births_34 rfl (lv_at hl 0 rfl) ?_
    refine va_get (D := D) (ci := 11) (v := .ref (a0 3)) (C := RX11) (T := TX11) (N := 13) hx hb hts hinX11 hown hK hP 0 rfl rfl 1 (by decide) (hts (.fieldLink RX11 19 "WheelBook" "told" "LWheelBook$House;") (List.mem_of_getElem? (i := 2) rfl)) (fun _ h9 => h9) rfl dX11_births_35 ?_
    refine va_get (D := D) (ci := 5) (v := .ref (a0 10)) (C := RX5) (T := TX5) (N := 6) hx hb hts hinX5 hown hK hP 3 rfl rfl 5 (by decide) (hts (.fieldLink RX11 140 "WheelBook$House" "hands" "LWheelBook$Hands;") (List.mem_of_getElem? (i := 3) rfl)) (fun _ h9 => h9) rfl dX11_births_38 ?_
    refine lv_aload_n hx hb dX11_births_41 rfl (lv_at hl 0 rfl) ?_
    refine va_get (D := D) (ci := 11) (v := .ref (a0 21)) (C := RX11) (T := TX11) (N := 13) hx hb hts hinX11 hown hK hP 0 rfl rfl 3 (by decide) (hts (.fieldLink RX11 29 "WheelBook" "books" "LWheelBook$Books;") (List.mem_of_getElem? (i := 4) rfl)) (fun _ h9 => h9) rfl dX11_births_42 ?_
    refine lv_iload_n hx hb dX11_births_45 rfl (lv_at hl 2 rfl) ?_
    obtain ⟨r2, hr2, hf⟩ := wb_b hf
    have hPc := hP.sub (ws' := ((wWX0 cB cI cZ (wb_sh a0 43) (wb_sh I0_j27 43) (wb_sh M0_j27 27)) ++ ((wWX4 cB cI cZ (wb_sh a0 10) (wb_sh I0_j27 10) (wb_sh M0_j27 6)) ++ (wWX1 cB cI cZ (wb_sh a0 21) (wb_sh I0_j27 13) (wb_sh M0_j27 13))))) [43, 44, 10, 11, 21, 22, 23] rfl
    have hDc := hD.sub (ws' := ((wWX0 cB cI cZ (wb_sh a0 43) (wb_sh I0_j27 43) (wb_sh M0_j27 27)) ++ ((wWX4 cB cI cZ (wb_sh a0 10) (wb_sh I0_j27 10) (wb_sh M0_j27 6)) ++ (wWX1 cB cI cZ (wb_sh a0 21) (wb_sh I0_j27 13) (wb_sh M0_j27 13))))) [43, 44, 10, 11, 21, 22, 23] (by decide) rfl
    have hFc := va_free (wc := ((wWX0 cB cI cZ (wb_sh a0 43) (wb_sh I0_j27 43) (wb_sh M0_j27 27)) ++ ((wWX4 cB cI cZ (wb_sh a0 10) (wb_sh I0_j27 10) (wb_sh M0_j27 6)) ++ (wWX1 cB cI cZ (wb_sh a0 21) (wb_sh I0_j27 13) (wb_sh M0_j27 13))))) hD hS hA [43, 44, 10, 11, 21, 22, 23] rfl
    refine va_callv (va_runV (As := [.ref (a0 10), .ref (a0 21), .int x2]) (rest := []) ⟨hx, hb, hml, hown, hts⟩ (cn_X0_partBy l D cB cI cZ N (wb_sh a0 43) (wb_sh I0_j27 43) (wb_sh M0_j27 27) (wb_sh a0 10) (wb_sh I0_j27 10) (wb_sh M0_j27 6) (wb_sh a0 21) (wb_sh I0_j27 13) (wb_sh M0_j27 13) x2 H.size r2 hr2) (cwV 3 hts gyX11_births_X0_partBy rfl rfl rfl cdX0_partBy ⟨Nat.le_of_ble_eq_true rfl, Nat.le_of_ble_eq_true rfl⟩) (wb_preDV hPc hK hDc (wr_0 hK hP (q0 := 43) rfl)) rfl rfl hl.1 rfl (lv_room (Nat.le_of_ble_eq_true rfl)) dX11_births_46 ⟨Nat.le_of_ble_eq_true rfl, Nat.le_of_ble_eq_true rfl⟩) hS (fun q _ h => hFc q h) hFc (fun u t H locs ht hvm hw hB hz1 hk1 hS => ?_)
    obtain ⟨hP, hD⟩ := wj_bca (a := (wWX0 cB cI cZ (wb_sh a0 43) (wb_sh I0_j27 43) (wb_sh M0_j27 27))) (b := (wWX4 cB cI cZ (wb_sh a0 10) (wb_sh I0_j27 10) (wb_sh M0_j27 6))) (c := (wWX1 cB cI cZ (wb_sh a0 21) (wb_sh I0_j27 13) (wb_sh M0_j27 13))) (a' := (wWX0 cB cI cZ (wb_sh a0 43) r2.1 r2.2)) (b' := (wWX4 cB cI cZ (wb_sh a0 10) (wb_sh I0_j27 10) (wb_sh M0_j27 6))) (c' := (wWX1 cB cI cZ (wb_sh a0 21) (wb_sh I0_j27 13) (wb_sh M0_j27 13))) (wf := (wWX11 cB cI cZ a0 (wb_in I0_j27 43 0 r2.1) (wb_in M0_j27 27 1 r2.2))) 10 12 9 24 19 45 hP hD rfl rfl hk1 hFc ht hB
    obtain ⟨I0_3, eI0_3, hf⟩ := wb_v hf
    rw [← eI0_3] at hP hD
    obtain ⟨M0_4, eM0_4, hf⟩ := wb_v hf
    rw [← eM0_4] at hP hD
    refine lv_iload_n hx hb dX11_births_49 rfl (lv_at hl 1 rfl) ?_
    refine lv_iconst (v := (-1 : Int32)) hx hb dX11_births_50 (by decide) ?_
    refine lv_icmp_ne (tgt := 68) hx hb dX11_births_51 (by decide) (fun hc => ?_) (fun hc => ?_)
    · replace hf := wb_f hc hf
      refine lv_aload_n hx hb dX11_births_68 rfl (lv_at hl 0 rfl) ?_
      refine va_get (D := D) (ci := 11) (v := .ref (a0 43)) (C := RX11) (T := TX11) (N := 13) hx hb hts hinX11 hown hK hP 0 rfl rfl 11 (by decide) (hts (.fieldLink RX11 73 "WheelBook" "parts" "LWheelBook$Births;") (List.mem_of_getElem? (i := 1) rfl)) (fun _ h9 => h9) rfl dX11_births_69 ?_
      refine lv_iload_n hx hb dX11_births_72 rfl (lv_at hl 1 rfl) ?_
      obtain ⟨r5, hr5, hf⟩ := wb_b hf
      refine vp_callSi (W.runV (As := [.int x1]) (rest := []) ⟨hx, hb, hml, hown, hts⟩ (cn_X0_leastOf l D cB cI cZ N (wb_sh a0 43) (wb_sh I0_3 43) (wb_sh M0_4 27) x1 r5 hr5) (cwV 1 hts gyX11_births_X0_leastOf rfl rfl rfl cdX0_leastOf ⟨Nat.le_of_ble_eq_true rfl, Nat.le_of_ble_eq_true rfl⟩) (wb_preV (hP.sub (ws' := (wWX0 cB cI cZ (wb_sh a0 43) (wb_sh I0_3 43) (wb_sh M0_4 27))) [43, 44] rfl) hK (wr_0 hK hP (q0 := 43) rfl)) rfl rfl hl.1 rfl (lv_room (Nat.le_of_ble_eq_true rfl)) dX11_births_73 ⟨Nat.le_of_ble_eq_true rfl, Nat.le_of_ble_eq_true rfl⟩) (fun r9 e9 => ?_)
      rw [e9]
      exact W.iret (v := r5) hx hb hr (fun t ht hW => by rw [← Option.some.inj hf]; exact ⟨⟨r5, (), rfl, rfl, by rw [ht]; exact hP, va_K.moved hW.alike hK, hD⟩, hS.F ht⟩) hS.2.2 dX11_births_76
    · replace hf := wb_t hc hf
      refine lv_aload_n hx hb dX11_births_54 rfl (lv_at hl 0 rfl) ?_
      refine va_get (D := D) (ci := 11) (v := .ref (a0 43)) (C := RX11) (T := TX11) (N := 13) hx hb hts hinX11 hown hK hP 0 rfl rfl 11 (by decide) (hts (.fieldLink RX11 73 "WheelBook" "parts" "LWheelBook$Births;") (List.mem_of_getElem? (i := 1) rfl)) (fun _ h9 => h9) rfl dX11_births_55 ?_
      refine lv_aload_n hx hb dX11_births_58 rfl (lv_at hl 0 rfl) ?_
      refine va_get (D := D) (ci := 11) (v := .ref (a0 21)) (C := RX11) (T := TX11) (N := 13) hx hb hts hinX11 hown hK hP 0 rfl rfl 3 (by decide) (hts (.fieldLink RX11 29 "WheelBook" "books" "LWheelBook$Books;") (List.mem_of_getElem? (i := 4) rfl)) (fun _ h9 => h9) rfl dX11_births_59 ?_
      obtain ⟨r6, hr6, hf⟩ := wb_b hf
      refine vp_callSi (W.runV (As := [.ref (a0 21)]) (rest := []) ⟨hx, hb, hml, hown, hts⟩ (cn_X0_howManyParts l D cB cI cZ N (wb_sh a0 43) (wb_sh I0_3 43) (wb_sh M0_4 27) (wb_sh a0 21) (wb_sh I0_3 13) (wb_sh M0_4 13) r6 hr6) (cwV 1 hts gyX11_births_X0_howManyParts rfl rfl rfl cdX0_howManyParts ⟨Nat.le_of_ble_eq_true rfl, Nat.le_of_ble_eq_true rfl⟩) (wb_preV (hP.sub (ws' := ((wWX0 cB cI cZ (wb_sh a0 43) (wb_sh I0_3 43) (wb_sh M0_4 27)) ++ (wWX1 cB cI cZ (wb_sh a0 21) (wb_sh I0_3 13) (wb_sh M0_4 13)))) [43, 44, 21, 22, 23] rfl) hK (wr_0 hK hP (q0 := 43) rfl)) rfl rfl hl.1 rfl (lv_room (Nat.le_of_ble_eq_true rfl)) dX11_births_62 ⟨Nat.le_of_ble_eq_true rfl, Nat.le_of_ble_eq_true rfl⟩) (fun r9 e9 => ?_)
      rw [e9]
      refine lv_goto (tgt := 76) hx hb dX11_births_65 (by decide) ?_
      exact W.iret (v := r6) hx hb hr (fun t ht hW => by rw [← Option.some.inj hf]; exact ⟨⟨r6, (), rfl, rfl, by rw [ht]; exact hP, va_K.moved hW.alike hK, hD⟩, hS.F ht⟩) hS.2.2 dX11_births_76
  have J26 : ∀ (I0_j26 : Nat → Int32) (M0_j26 : Nat → Nat → Int32) (H : Heap) (locs : List Loc), va_P D vwCl (wWX11 cB cI cZ a0 I0_j26 M0_j26) H → va_D A (wWX11 cB cI cZ a0 I0_j26 M0_j26) → va_S A s.heap H locs → ∀ (ls : Array Slot), lv_has ls 3 [(0, .ref (a0 0)), (1, .int x1), (2, .int x2)] → fX11_births_J26 N x1 x2 I0_j26 M0_j26 = some (.inr R) → W p l e (headSpec wyX11_births { frames := 7, cells := 0, slots := 0, locals := 140 }).room s m [.ref (a0 0), .int x1, .int x2].toArray below meth c H locs 0 0 (MQ below (va_Qi (fun r (_ : Unit) => r = R.1) (fun _ t => wb_post D [(cB, .byte), (cI, .int), (cZ, .boolean)] A (wWX11 cB cI cZ a0 R.2.1 R.2.2) t) A) [.ref (a0 0), .int x1, .int x2].toArray s 0 0 A) (F0 m 26 ls []) := by
    intro I0_j26 M0_j26 H locs hP hD hS ls hl hf
    unfold fX11_births_J26 at hf
    refine lv_iconst (v := (0 : Int32)) hx hb dX11_births_26 (by decide) ?_
    exact J27 I0_j26 M0_j26 (0 : Int32) H locs hP hD hS ls (lv_sub hl [0, 1, 2] rfl) hf
  have J12 : ∀ (I0_j12 : Nat → Int32) (M0_j12 : Nat → Nat → Int32) (H : Heap) (locs : List Loc), va_P D vwCl (wWX11 cB cI cZ a0 I0_j12 M0_j12) H → va_D A (wWX11 cB cI cZ a0 I0_j12 M0_j12) → va_S A s.heap H locs → ∀ (ls : Array Slot), lv_has ls 3 [(0, .ref (a0 0)), (1, .int x1), (2, .int x2)] → fX11_births_J12 N x1 x2 I0_j12 M0_j12 = some (.inr R) → W p l e (headSpec wyX11_births { frames := 7, cells := 0, slots := 0, locals := 140 }).room s m [.ref (a0 0), .int x1, .int x2].toArray below meth c H locs 0 0 (MQ below (va_Qi (fun r (_ : Unit) => r = R.1) (fun _ t => wb_post D [(cB, .byte), (cI, .int), (cZ, .boolean)] A (wWX11 cB cI cZ a0 R.2.1 R.2.2) t) A) [.ref (a0 0), .int x1, .int x2].toArray s 0 0 A) (F0 m 12 ls []) := by
    intro I0_j12 M0_j12 H locs hP hD hS ls hl hf
    unfold fX11_births_J12 at hf
    refine lv_iload_n hx hb dX11_births_12 rfl (lv_at hl 2 rfl) ?_
    refine lv_iconst (v := (1 : Int32)) hx hb dX11_births_13 (by decide) ?_
    refine lv_bipush (v := (7 : Int32)) hx hb dX11_births_14 (by decide) ?_
    obtain ⟨r7, hr7, hf⟩ := wb_b hf
    refine vp_callSi (W.runS (As := [.int x2, .int (1 : Int32), .int (7 : Int32)]) (rest := []) ⟨hx, hb, hml, hown, hts⟩ (cn_X11_within l D cB cI cZ N x2 (1 : Int32) (7 : Int32) r7 hr7) (va_cwS 3 hts gyX11_births_X11_within rfl rfl rfl csX11_within ⟨Nat.le_of_ble_eq_true rfl, Nat.le_of_ble_eq_true rfl⟩) (wb_preS (hP.sub (ws' := ([] : va_W)) [] rfl) hK) rfl rfl hl.1 rfl (lv_room (Nat.le_of_ble_eq_true rfl)) dX11_births_16 ⟨Nat.le_of_ble_eq_true rfl, Nat.le_of_ble_eq_true rfl⟩) (fun r9 e9 => ?_)
    rw [e9]
    refine lv_if_eq (tgt := 26) hx hb dX11_births_19 (by decide) (fun hc => ?_) (fun hc => ?_)
    · replace hf := wb_t hc hf
      exact J26 I0_j12 M0_j12 H locs hP hD hS ls (lv_sub hl [0, 1, 2] rfl) hf
    · replace hf := wb_f hc hf
      refine lv_iconst (v := (1 : Int32)) hx hb dX11_births_22 (by decide) ?_
      refine lv_goto (tgt := 27) hx hb dX11_births_23 (by decide) ?_
      exact J27 I0_j12 M0_j12 (1 : Int32) H locs hP hD hS ls (lv_sub hl [0, 1, 2] rfl) hf
  refine lv_iload_n hx hb dX11_births_0 rfl (lv_at hl 1 rfl) ?_
  refine lv_iconst (v := (-1 : Int32)) hx hb dX11_births_1 (by decide) ?_
  refine lv_icmp_eq (tgt := 12) hx hb dX11_births_2 (by decide) (fun hc => ?_) (fun hc => ?_)
  · replace hf := wb_t hc hf
    exact J12 I0 M0 H locs hP hD hS ls (lv_sub hl [0, 1, 2] rfl) hf
  · replace hf := wb_f hc hf
    refine lv_iload_n hx hb dX11_births_5 rfl (lv_at hl 1 rfl) ?_
    obtain ⟨r8, hr8, hf⟩ := wb_b hf
    refine vp_callSi (W.runS (As := [.int x1]) (rest := []) ⟨hx, hb, hml, hown, hts⟩ (cn_X11_isNumber l D cB cI cZ N x1 r8 hr8) (va_cwS 1 hts gyX11_births_X11_isNumber rfl rfl rfl csX11_isNumber ⟨Nat.le_of_ble_eq_true rfl, Nat.le_of_ble_eq_true rfl⟩) (wb_preS (hP.sub (ws' := ([] : va_W)) [] rfl) hK) rfl rfl hl.1 rfl (lv_room (Nat.le_of_ble_eq_true rfl)) dX11_births_6 ⟨Nat.le_of_ble_eq_true rfl, Nat.le_of_ble_eq_true rfl⟩) (fun r9 e9 => ?_)
    rw [e9]
    refine lv_if_eq (tgt := 26) hx hb dX11_births_9 (by decide) (fun hc => ?_) (fun hc => ?_)
    · replace hf := wb_t hc hf
      exact J26 I0 M0 H locs hP hD hS ls (lv_sub hl [0, 1, 2] rfl) hf
    · replace hf := wb_f hc hf
      exact J12 I0 M0 H locs hP hD hS ls (lv_sub hl [0, 1, 2] rfl) hf
set_option maxHeartbeats 4000000 in
set_option maxRecDepth 100000 in
theorem ct_X11_births (l : Launch) (hlt : l.stackTraces = false) (D : va_G) (cB cI cZ : ClassId) (N : Nat) (a0 : Nat → Nat) (I0 : Nat → Int32) (M0 : Nat → Nat → Int32) (x1 : Int32) (x2 : Int32) (sz k : Nat) (hf : fX11_births N I0 M0 x1 x2 = some (.inl k)) : vx_Met l yX11_births wyX11_births ({ frames := 7, cells := 1, slots := 6, locals := 140 }) (va_Pc [.ref (a0 0), .int x1, .int x2] (wb_preX D [(cB, .byte), (cI, .int), (cZ, .boolean)] (wWX11 cB cI cZ a0 I0 M0) sz)) (va_Qi (fun _ (_ : Unit) => False) (fun _ _ => True) (fun q => sz ≤ q)) (vx_X (fun _ : Unit => True) (fun E _ _ => E = wb_ex k) (fun q => sz ≤ q)) 1 6 (fun q => sz ≤ q) := by
  refine vx_ofW (cc := cX11_births) (maxL := 3) (ret := (some .int)) (by decide) rfl ?_
  intro p e s m args below meth c s₁ B hml htab hv
  obtain ⟨rfl, hsz, hP, hK, hX⟩ := hv
  subst hsz
  have hx := B.exec
  have hb := B.bytes
  have hr := B.returns
  have hts := atoms_spec (ws := wyX11_births) B.pre
  have hown : s.vm.findClass RX11 = some m.cls := (findClass_of_methodNamed B.named :)
  have hlocks := B.notSynchronized
  have hS : va_S (fun q => s.heap.size ≤ q) s.heap s.heap [] := va_S.rf
  have hl := lv_entry ([.ref (a0 0), .int x1, .int x2]) (n := 3) (Nat.le_of_ble_eq_true rfl)
  rw [lg_entry_eq]
  generalize (lg_sl ([.ref (a0 0), .int x1, .int x2]) ++ List.replicate (3 - (lg_sl ([.ref (a0 0), .int x1, .int x2])).length) Slot.unset).toArray = ls at hl ⊢
  have hl : lv_has ls 3 [(0, .ref (a0 0)), (1, .int x1), (2, .int x2)] := hl
  unfold fX11_births at hf
  have J27 : ∀ (z27_0 : Int32), ∀ (ls : Array Slot), lv_has ls 3 [(0, .ref (a0 0)), (1, .int x1), (2, .int x2)] → fX11_births_J27 N x1 x2 I0 M0 z27_0 = some (.inl k) → W p l e (headSpec wyX11_births { frames := 7, cells := 1, slots := 6, locals := 140 }).room s m [.ref (a0 0), .int x1, .int x2].toArray below meth c s.heap [] 0 0 (vx_MQ below (va_Qi (fun _ (_ : Unit) => False) (fun _ _ => True) (fun q => s.heap.size ≤ q)) (vx_X (fun _ : Unit => True) (fun E _ _ => E = wb_ex k) (fun q => s.heap.size ≤ q)) [.ref (a0 0), .int x1, .int x2].toArray s 1 6 (fun q => s.heap.size ≤ q)) (F0 m 27 ls [.int z27_0]) := by
    intro z27_0 ls hl hf
    unfold fX11_births_J27 at hf
    rcases wb_xt hf with hrx | ⟨r1, hr1, hf⟩
    · refine vx_callv (vx_runS (As := [.int z27_0]) (rest := []) ⟨hx, hb, hml, hown, hts⟩ (ct_X11_need l hlt D cB cI cZ N z27_0 s.heap.size k hrx) (va_cwS 1 hts gyX11_births_X11_need rfl rfl rfl csX11_need ⟨Nat.le_of_ble_eq_true rfl, Nat.le_of_ble_eq_true rfl⟩) (wb_preXS (hP.sub (ws' := ([] : va_W)) [] rfl) hK hX) rfl rfl hl.1 rfl (lv_room (Nat.le_of_ble_eq_true rfl)) dX11_births_27 ⟨Nat.le_of_ble_eq_true rfl, Nat.le_of_ble_eq_true rfl⟩) hS (fun q _ h => h) (fun _ h => h) (fun q _ h => h) (fun E ce q9 u t H locs ht hvm hpx hB hz1 hk1 hS hq9 hv9 hc9 => ?_) (fun u t H locs ht hvm hw hB hz1 hk1 hS => hw.elim)
      exact vx_out (fun x hx9 => (htab x hx9).elim) hlocks hq9 hv9 hc9 (fun t9 ht9 hvm9 => ⟨(), trivial, hB, hS.F ht9⟩) hS.2.2 (Nat.le_of_ble_eq_true rfl) (Nat.le_of_ble_eq_true rfl)
    refine va_csv (W.runS (As := [.int z27_0]) (rest := []) ⟨hx, hb, hml, hown, hts⟩ (cn_X11_need l D cB cI cZ N z27_0 r1 hr1) (va_cwS 1 hts gyX11_births_X11_need rfl rfl rfl csX11_need ⟨Nat.le_of_ble_eq_true rfl, Nat.le_of_ble_eq_true rfl⟩) (wb_preS (hP.sub (ws' := ([] : va_W)) [] rfl) hK) rfl rfl hl.1 rfl (lv_room (Nat.le_of_ble_eq_true rfl)) dX11_births_27 ⟨Nat.le_of_ble_eq_true rfl, Nat.le_of_ble_eq_true rfl⟩) (fun _ => ?_)
    exact absurd hf wb_okn
  have J26 : ∀ (ls : Array Slot), lv_has ls 3 [(0, .ref (a0 0)), (1, .int x1), (2, .int x2)] → fX11_births_J26 N x1 x2 I0 M0 = some (.inl k) → W p l e (headSpec wyX11_births { frames := 7, cells := 1, slots := 6, locals := 140 }).room s m [.ref (a0 0), .int x1, .int x2].toArray below meth c s.heap [] 0 0 (vx_MQ below (va_Qi (fun _ (_ : Unit) => False) (fun _ _ => True) (fun q => s.heap.size ≤ q)) (vx_X (fun _ : Unit => True) (fun E _ _ => E = wb_ex k) (fun q => s.heap.size ≤ q)) [.ref (a0 0), .int x1, .int x2].toArray s 1 6 (fun q => s.heap.size ≤ q)) (F0 m 26 ls []) := by
    intro ls hl hf
    unfold fX11_births_J26 at hf
    refine lv_iconst (v := (0 : Int32)) hx hb dX11_births_26 (by decide) ?_
    exact J27 (0 : Int32) ls (lv_sub hl [0, 1, 2] rfl) hf
  have J12 : ∀ (ls : Array Slot), lv_has ls 3 [(0, .ref (a0 0)), (1, .int x1), (2, .int x2)] → fX11_births_J12 N x1 x2 I0 M0 = some (.inl k) → W p l e (headSpec wyX11_births { frames := 7, cells := 1, slots := 6, locals := 140 }).room s m [.ref (a0 0), .int x1, .int x2].toArray below meth c s.heap [] 0 0 (vx_MQ below (va_Qi (fun _ (_ : Unit) => False) (fun _ _ => True) (fun q => s.heap.size ≤ q)) (vx_X (fun _ : Unit => True) (fun E _ _ => E = wb_ex k) (fun q => s.heap.size ≤ q)) [.ref (a0 0), .int x1, .int x2].toArray s 1 6 (fun q => s.heap.size ≤ q)) (F0 m 12 ls []) := by
    intro ls hl hf
    unfold fX11_births_J12 at hf
    refine lv_iload_n hx hb dX11_births_12 rfl (lv_at hl 2 rfl) ?_
    refine lv_iconst (v := (1 : Int32)) hx hb dX11_births_13 (by decide) ?_
    refine lv_bipush (v := (7 : Int32)) hx hb dX11_births_14 (by decide) ?_
    obtain ⟨r2, hr2, hf⟩ := wb_b hf
    refine vp_callSi (W.runS (As := [.int x2, .int (1 : Int32), .int (7 : Int32)]) (rest := []) ⟨hx, hb, hml, hown, hts⟩ (cn_X11_within l D cB cI cZ N x2 (1 : Int32) (7 : Int32) r2 hr2) (va_cwS 3 hts gyX11_births_X11_within rfl rfl rfl csX11_within ⟨Nat.le_of_ble_eq_true rfl, Nat.le_of_ble_eq_true rfl⟩) (wb_preS (hP.sub (ws' := ([] : va_W)) [] rfl) hK) rfl rfl hl.1 rfl (lv_room (Nat.le_of_ble_eq_true rfl)) dX11_births_16 ⟨Nat.le_of_ble_eq_true rfl, Nat.le_of_ble_eq_true rfl⟩) (fun r9 e9 => ?_)
    rw [e9]
    refine lv_if_eq (tgt := 26) hx hb dX11_births_19 (by decide) (fun hc => ?_) (fun hc => ?_)
    · replace hf := wb_t hc hf
      exact J26 ls (lv_sub hl [0, 1, 2] rfl) hf
    · replace hf := wb_f hc hf
      refine lv_iconst (v := (1 : Int32)) hx hb dX11_births_22 (by decide) ?_
      refine lv_goto (tgt := 27) hx hb dX11_births_23 (by decide) ?_
      exact J27 (1 : Int32) ls (lv_sub hl [0, 1, 2] rfl) hf
  refine lv_iload_n hx hb dX11_births_0 rfl (lv_at hl 1 rfl) ?_
  refine lv_iconst (v := (-1 : Int32)) hx hb dX11_births_1 (by decide) ?_
  refine lv_icmp_eq (tgt := 12) hx hb dX11_births_2 (by decide) (fun hc => ?_) (fun hc => ?_)
  · replace hf := wb_t hc hf
    exact J12 ls (lv_sub hl [0, 1, 2] rfl) hf
  · replace hf := wb_f hc hf
    refine lv_iload_n hx hb dX11_births_5 rfl (lv_at hl 1 rfl) ?_
    obtain ⟨r3, hr3, hf⟩ := wb_b hf
    refine vp_callSi (W.runS (As := [.int x1]) (rest := []) ⟨hx, hb, hml, hown, hts⟩ (cn_X11_isNumber l D cB cI cZ N x1 r3 hr3) (va_cwS 1 hts gyX11_births_X11_isNumber rfl rfl rfl csX11_isNumber ⟨Nat.le_of_ble_eq_true rfl, Nat.le_of_ble_eq_true rfl⟩) (wb_preS (hP.sub (ws' := ([] : va_W)) [] rfl) hK) rfl rfl hl.1 rfl (lv_room (Nat.le_of_ble_eq_true rfl)) dX11_births_6 ⟨Nat.le_of_ble_eq_true rfl, Nat.le_of_ble_eq_true rfl⟩) (fun r9 e9 => ?_)
    rw [e9]
    refine lv_if_eq (tgt := 26) hx hb dX11_births_9 (by decide) (fun hc => ?_) (fun hc => ?_)
    · replace hf := wb_t hc hf
      exact J26 ls (lv_sub hl [0, 1, 2] rfl) hf
    · replace hf := wb_f hc hf
      exact J12 ls (lv_sub hl [0, 1, 2] rfl) hf

set_option maxHeartbeats 4000000 in
set_option maxRecDepth 100000 in
theorem cn_X11_tree (l : Launch) (D : va_G) (cB cI cZ : ClassId) (N : Nat) (a0 : Nat → Nat) (I0 : Nat → Int32) (M0 : Nat → Nat → Int32) (sz : Nat) (R : Int32 × (Nat → Int32) × (Nat → Nat → Int32)) (hf : fX11_tree N I0 M0 = some R) : Met l yX11_tree wsX11_tree ({ frames := 9, cells := 0, slots := 0, locals := 268 }) (va_Pc [.ref (a0 0)] (wb_preD D [(cB, .byte), (cI, .int), (cZ, .boolean)] (wWX11 cB cI cZ a0 I0 M0) sz)) (va_Qi (fun r (_ : Unit) => r = R.1) (fun _ t => wb_post D [(cB, .byte), (cI, .int), (cZ, .boolean)] (va_A (wWX11 cB cI cZ a0 I0 M0) sz) (wWX11 cB cI cZ a0 R.2.1 R.2.2) t) (va_A (wWX11 cB cI cZ a0 I0 M0) sz)) 0 0 (va_A (wWX11 cB cI cZ a0 I0 M0) sz) := by
  refine Met.ofW (cc := cX11_tree) (maxL := 1) (ret := (some .int)) pn_X11 rfl ?_
  intro p e s m args below meth c s₁ B hml hv
  obtain ⟨rfl, hsz, hP, hK, hD0⟩ := hv
  have hx := B.exec
  have hb := B.bytes
  have hr := B.returns
  have hts := atoms_spec (ws := wsX11_tree) B.pre
  have hown : s.vm.findClass RX11 = some m.cls := (findClass_of_methodNamed B.named :)
  have hlocks := B.notSynchronized
  have hinX11 : ∀ w ∈ u_ws RX11 TX11 13, w ∈ wsX11_tree := fun w h => List.mem_cons_of_mem _ (List.mem_append_left _ (List.mem_append_left _ (List.mem_append_left _ (List.mem_append_left _ (List.mem_append_right _ h)))))
  have hinX5 : ∀ w ∈ u_ws RX5 TX5 6, w ∈ wsX11_tree := fun w h => List.mem_cons_of_mem _ (List.mem_append_left _ (List.mem_append_left _ (List.mem_append_left _ (List.mem_append_right _ h))))
  subst hsz
  have hD := hD0.self (sz := s.heap.size)
  generalize hAe : va_A (wWX11 cB cI cZ a0 I0 M0) s.heap.size = A at hD ⊢
  have hA : ∀ q : Nat, s.heap.size ≤ q → A q := fun q h => by rw [← hAe]; exact Or.inr h
  have hS : va_S A s.heap s.heap [] := va_S.rf
  have hl := lv_entry ([.ref (a0 0)]) (n := 1) (Nat.le_of_ble_eq_true rfl)
  rw [lg_entry_eq]
  generalize (lg_sl ([.ref (a0 0)]) ++ List.replicate (1 - (lg_sl ([.ref (a0 0)])).length) Slot.unset).toArray = ls at hl ⊢
  have hl : lv_has ls 1 [(0, .ref (a0 0))] := hl
  unfold fX11_tree at hf
  obtain ⟨H, hHe⟩ : ∃ H : Heap, H = s.heap := ⟨_, rfl⟩
  obtain ⟨locs, hle⟩ : ∃ locs : List Loc, locs = [] := ⟨_, rfl⟩
  refine wb_start (H := H) (locs := locs) hHe hle ?_
  rw [← hHe] at hP
  have hS : va_S A s.heap H locs := by rw [hHe, hle]; exact va_S.rf
  refine lv_aload_n hx hb dX11_tree_0 rfl (lv_at hl 0 rfl) ?_
  refine va_get (D := D) (ci := 11) (v := .ref (a0 34)) (C := RX11) (T := TX11) (N := 13) hx hb hts hinX11 hown hK hP 0 rfl rfl 9 (by decide) (hts (.fieldLink RX11 59 "WheelBook" "copies" "LWheelBook$Tree;") (List.mem_of_getElem? (i := 1) rfl)) (fun _ h9 => h9) rfl dX11_tree_1 ?_
  refine lv_aload_n hx hb dX11_tree_4 rfl (lv_at hl 0 rfl) ?_
  refine va_get (D := D) (ci := 11) (v := .ref (a0 21)) (C := RX11) (T := TX11) (N := 13) hx hb hts hinX11 hown hK hP 0 rfl rfl 3 (by decide) (hts (.fieldLink RX11 29 "WheelBook" "books" "LWheelBook$Books;") (List.mem_of_getElem? (i := 2) rfl)) (fun _ h9 => h9) rfl dX11_tree_5 ?_
  obtain ⟨r1, hr1, hf⟩ := wb_b hf
  have hPc := hP.sub (ws' := ((wWX10 cB cI cZ (wb_sh a0 34) (wb_sh I0 41) (wb_sh M0 20)) ++ (wWX1 cB cI cZ (wb_sh a0 21) (wb_sh I0 13) (wb_sh M0 13)))) [34, 35, 36, 37, 21, 22, 23] rfl
  have hDc := hD.sub (ws' := ((wWX10 cB cI cZ (wb_sh a0 34) (wb_sh I0 41) (wb_sh M0 20)) ++ (wWX1 cB cI cZ (wb_sh a0 21) (wb_sh I0 13) (wb_sh M0 13)))) [34, 35, 36, 37, 21, 22, 23] (by decide) rfl
  have hFc := va_free (wc := ((wWX10 cB cI cZ (wb_sh a0 34) (wb_sh I0 41) (wb_sh M0 20)) ++ (wWX1 cB cI cZ (wb_sh a0 21) (wb_sh I0 13) (wb_sh M0 13)))) hD hS hA [34, 35, 36, 37, 21, 22, 23] rfl
  refine va_calli (va_runV (As := [.ref (a0 21)]) (rest := []) ⟨hx, hb, hml, hown, hts⟩ (cn_X10_setBooks l D cB cI cZ N (wb_sh a0 34) (wb_sh I0 41) (wb_sh M0 20) (wb_sh a0 21) (wb_sh I0 13) (wb_sh M0 13) H.size r1 hr1) (cwV 1 hts gX11_tree_X10_setBooks rfl rfl rfl cdX10_setBooks ⟨Nat.le_of_ble_eq_true rfl, Nat.le_of_ble_eq_true rfl⟩) (wb_preDV hPc hK hDc (wr_10 hK hP (q0 := 34) rfl)) rfl rfl hl.1 rfl (lv_room (Nat.le_of_ble_eq_true rfl)) dX11_tree_8 ⟨Nat.le_of_ble_eq_true rfl, Nat.le_of_ble_eq_true rfl⟩) hS (fun q _ h => hFc q h) hFc (fun r9 u t H locs ht hvm hw hB hz1 hk1 hS => ?_)
  obtain ⟨hP, hD⟩ := wj_ba (a := (wWX1 cB cI cZ (wb_sh a0 21) (wb_sh I0 13) (wb_sh M0 13))) (b := (wWX10 cB cI cZ (wb_sh a0 34) (wb_sh I0 41) (wb_sh M0 20))) (a' := (wWX1 cB cI cZ (wb_sh a0 21) (wb_sh I0 13) (wb_sh M0 13))) (b' := (wWX10 cB cI cZ (wb_sh a0 34) r1.2.1 r1.2.2)) (wf := (wWX11 cB cI cZ a0 (wb_in I0 41 2 r1.2.1) (wb_in M0 20 3 r1.2.2))) 21 24 10 38 hP hD rfl rfl hk1 hFc ht hB
  rw [hw]
  obtain ⟨I0_2, eI0_2, hf⟩ := wb_v hf
  rw [← eI0_2] at hP hD
  obtain ⟨M0_3, eM0_3, hf⟩ := wb_v hf
  rw [← eM0_3] at hP hD
  refine lv_if_ne (tgt := 16) hx hb dX11_tree_11 (by decide) (fun hc => ?_) (fun hc => ?_)
  · replace hf := wb_f hc hf
    refine lv_aload_n hx hb dX11_tree_16 rfl (lv_at hl 0 rfl) ?_
    refine va_get (D := D) (ci := 11) (v := .ref (a0 34)) (C := RX11) (T := TX11) (N := 13) hx hb hts hinX11 hown hK hP 0 rfl rfl 9 (by decide) (hts (.fieldLink RX11 59 "WheelBook" "copies" "LWheelBook$Tree;") (List.mem_of_getElem? (i := 1) rfl)) (fun _ h9 => h9) rfl dX11_tree_17 ?_
    refine lv_aload_n hx hb dX11_tree_20 rfl (lv_at hl 0 rfl) ?_
    refine va_get (D := D) (ci := 11) (v := .ref (a0 3)) (C := RX11) (T := TX11) (N := 13) hx hb hts hinX11 hown hK hP 0 rfl rfl 1 (by decide) (hts (.fieldLink RX11 19 "WheelBook" "told" "LWheelBook$House;") (List.mem_of_getElem? (i := 3) rfl)) (fun _ h9 => h9) rfl dX11_tree_21 ?_
    refine va_get (D := D) (ci := 5) (v := .ref (a0 10)) (C := RX5) (T := TX5) (N := 6) hx hb hts hinX5 hown hK hP 3 rfl rfl 5 (by decide) (hts (.fieldLink RX11 140 "WheelBook$House" "hands" "LWheelBook$Hands;") (List.mem_of_getElem? (i := 4) rfl)) (fun _ h9 => h9) rfl dX11_tree_24 ?_
    refine lv_aload_n hx hb dX11_tree_27 rfl (lv_at hl 0 rfl) ?_
    refine va_get (D := D) (ci := 11) (v := .ref (a0 21)) (C := RX11) (T := TX11) (N := 13) hx hb hts hinX11 hown hK hP 0 rfl rfl 3 (by decide) (hts (.fieldLink RX11 29 "WheelBook" "books" "LWheelBook$Books;") (List.mem_of_getElem? (i := 2) rfl)) (fun _ h9 => h9) rfl dX11_tree_28 ?_
    obtain ⟨r4, hr4, hf⟩ := wb_b hf
    have hPc := hP.sub (ws' := ((wWX10 cB cI cZ (wb_sh a0 34) (wb_sh I0_2 41) (wb_sh M0_3 20)) ++ ((wWX4 cB cI cZ (wb_sh a0 10) (wb_sh I0_2 10) (wb_sh M0_3 6)) ++ (wWX1 cB cI cZ (wb_sh a0 21) (wb_sh I0_2 13) (wb_sh M0_3 13))))) [34, 35, 36, 37, 10, 11, 21, 22, 23] rfl
    have hDc := hD.sub (ws' := ((wWX10 cB cI cZ (wb_sh a0 34) (wb_sh I0_2 41) (wb_sh M0_3 20)) ++ ((wWX4 cB cI cZ (wb_sh a0 10) (wb_sh I0_2 10) (wb_sh M0_3 6)) ++ (wWX1 cB cI cZ (wb_sh a0 21) (wb_sh I0_2 13) (wb_sh M0_3 13))))) [34, 35, 36, 37, 10, 11, 21, 22, 23] (by decide) rfl
    have hFc := va_free (wc := ((wWX10 cB cI cZ (wb_sh a0 34) (wb_sh I0_2 41) (wb_sh M0_3 20)) ++ ((wWX4 cB cI cZ (wb_sh a0 10) (wb_sh I0_2 10) (wb_sh M0_3 6)) ++ (wWX1 cB cI cZ (wb_sh a0 21) (wb_sh I0_2 13) (wb_sh M0_3 13))))) hD hS hA [34, 35, 36, 37, 10, 11, 21, 22, 23] rfl
    refine va_callv (va_runV (As := [.ref (a0 10), .ref (a0 21)]) (rest := []) ⟨hx, hb, hml, hown, hts⟩ (cn_X10_setPrices l D cB cI cZ N (wb_sh a0 34) (wb_sh I0_2 41) (wb_sh M0_3 20) (wb_sh a0 10) (wb_sh I0_2 10) (wb_sh M0_3 6) (wb_sh a0 21) (wb_sh I0_2 13) (wb_sh M0_3 13) H.size r4 hr4) (cwV 2 hts gX11_tree_X10_setPrices rfl rfl rfl cdX10_setPrices ⟨Nat.le_of_ble_eq_true rfl, Nat.le_of_ble_eq_true rfl⟩) (wb_preDV hPc hK hDc (wr_10 hK hP (q0 := 34) rfl)) rfl rfl hl.1 rfl (lv_room (Nat.le_of_ble_eq_true rfl)) dX11_tree_31 ⟨Nat.le_of_ble_eq_true rfl, Nat.le_of_ble_eq_true rfl⟩) hS (fun q _ h => hFc q h) hFc (fun u t H locs ht hvm hw hB hz1 hk1 hS => ?_)
    obtain ⟨hP, hD⟩ := wj_bca (a := (wWX10 cB cI cZ (wb_sh a0 34) (wb_sh I0_2 41) (wb_sh M0_3 20))) (b := (wWX4 cB cI cZ (wb_sh a0 10) (wb_sh I0_2 10) (wb_sh M0_3 6))) (c := (wWX1 cB cI cZ (wb_sh a0 21) (wb_sh I0_2 13) (wb_sh M0_3 13))) (a' := (wWX10 cB cI cZ (wb_sh a0 34) r4.1 r4.2)) (b' := (wWX4 cB cI cZ (wb_sh a0 10) (wb_sh I0_2 10) (wb_sh M0_3 6))) (c' := (wWX1 cB cI cZ (wb_sh a0 21) (wb_sh I0_2 13) (wb_sh M0_3 13))) (wf := (wWX11 cB cI cZ a0 (wb_in I0_2 41 2 r4.1) (wb_in M0_3 20 3 r4.2))) 10 12 9 24 10 38 hP hD rfl rfl hk1 hFc ht hB
    obtain ⟨I0_5, eI0_5, hf⟩ := wb_v hf
    rw [← eI0_5] at hP hD
    obtain ⟨M0_6, eM0_6, hf⟩ := wb_v hf
    rw [← eM0_6] at hP hD
    refine lv_aload_n hx hb dX11_tree_34 rfl (lv_at hl 0 rfl) ?_
    refine va_get (D := D) (ci := 11) (v := .ref (a0 34)) (C := RX11) (T := TX11) (N := 13) hx hb hts hinX11 hown hK hP 0 rfl rfl 9 (by decide) (hts (.fieldLink RX11 59 "WheelBook" "copies" "LWheelBook$Tree;") (List.mem_of_getElem? (i := 1) rfl)) (fun _ h9 => h9) rfl dX11_tree_35 ?_
    obtain ⟨r7, hr7, hf⟩ := wb_b hf
    have hPc := hP.sub (ws' := (wWX10 cB cI cZ (wb_sh a0 34) (wb_sh I0_5 41) (wb_sh M0_6 20))) [34, 35, 36, 37] rfl
    have hDc := hD.sub (ws' := (wWX10 cB cI cZ (wb_sh a0 34) (wb_sh I0_5 41) (wb_sh M0_6 20))) [34, 35, 36, 37] (by decide) rfl
    have hFc := va_free (wc := (wWX10 cB cI cZ (wb_sh a0 34) (wb_sh I0_5 41) (wb_sh M0_6 20))) hD hS hA [34, 35, 36, 37] rfl
    refine va_calli (va_runV (As := []) (rest := []) ⟨hx, hb, hml, hown, hts⟩ (cn_X10_grow l D cB cI cZ N (wb_sh a0 34) (wb_sh I0_5 41) (wb_sh M0_6 20) H.size r7 hr7) (cwV 0 hts gX11_tree_X10_grow rfl rfl rfl cdX10_grow ⟨Nat.le_of_ble_eq_true rfl, Nat.le_of_ble_eq_true rfl⟩) (wb_preDV hPc hK hDc (wr_10 hK hP (q0 := 34) rfl)) rfl rfl hl.1 rfl (lv_room (Nat.le_of_ble_eq_true rfl)) dX11_tree_38 ⟨Nat.le_of_ble_eq_true rfl, Nat.le_of_ble_eq_true rfl⟩) hS (fun q _ h => hFc q h) hFc (fun r9 u t H locs ht hvm hw hB hz1 hk1 hS => ?_)
    obtain ⟨hP, hD⟩ := wj_s (wc := (wWX10 cB cI cZ (wb_sh a0 34) (wb_sh I0_5 41) (wb_sh M0_6 20))) (w1 := (wWX10 cB cI cZ (wb_sh a0 34) r7.2.1 r7.2.2)) (wf := (wWX11 cB cI cZ a0 (wb_in I0_5 41 2 r7.2.1) (wb_in M0_6 20 3 r7.2.2))) 34 38 hP hD rfl rfl hk1 hFc ht hB
    rw [hw]
    obtain ⟨I0_8, eI0_8, hf⟩ := wb_v hf
    rw [← eI0_8] at hP hD
    obtain ⟨M0_9, eM0_9, hf⟩ := wb_v hf
    rw [← eM0_9] at hP hD
    exact W.iret (v := r7.1) hx hb hr (fun t ht hW => by rw [← Option.some.inj hf]; exact ⟨⟨r7.1, (), rfl, rfl, by rw [ht]; exact hP, va_K.moved hW.alike hK, hD⟩, hS.F ht⟩) hS.2.2 dX11_tree_41
  · replace hf := wb_t hc hf
    refine lv_iconst (v := (-1 : Int32)) hx hb dX11_tree_14 (by decide) ?_
    exact W.iret (v := (-1 : Int32)) hx hb hr (fun t ht hW => by rw [← Option.some.inj hf]; exact ⟨⟨(-1 : Int32), (), rfl, rfl, by rw [ht]; exact hP, va_K.moved hW.alike hK, hD⟩, hS.F ht⟩) hS.2.2 dX11_tree_15

set_option maxHeartbeats 4000000 in
set_option maxRecDepth 100000 in
theorem cn_X11_whence (l : Launch) (D : va_G) (cB cI cZ : ClassId) (N : Nat) (a0 : Nat → Nat) (I0 : Nat → Int32) (M0 : Nat → Nat → Int32) (x1 : Int32) (R : Int32) (hf : fX11_whence N I0 M0 x1 = some (.inr R)) : Met l yX11_whence wyX11_whence ({ frames := 7, cells := 0, slots := 0, locals := 140 }) (va_Pc [.ref (a0 0), .int x1] (wb_pre D [(cB, .byte), (cI, .int), (cZ, .boolean)] (wWX11 cB cI cZ a0 I0 M0))) (vp_Si (fun r => r = R)) 0 0 (fun _ => False) := by
  refine Met.ofW (cc := cX11_whence) (maxL := 2) (ret := (some .int)) pn_X11 rfl ?_
  intro p e s m args below meth c s₁ B hml hv
  obtain ⟨rfl, hP, hK⟩ := hv
  have hx := B.exec
  have hb := B.bytes
  have hr := B.returns
  have hts := atoms_spec (ws := wyX11_whence) B.pre
  have hown : s.vm.findClass RX11 = some m.cls := (findClass_of_methodNamed B.named :)
  have hlocks := B.notSynchronized
  have hinX10 : ∀ w ∈ u_ws RX10 TX10 5, w ∈ wyX11_whence := fun w h => List.mem_cons_of_mem _ (List.mem_append_left _ (List.mem_append_right _ h))
  have hinX11 : ∀ w ∈ u_ws RX11 TX11 13, w ∈ wyX11_whence := fun w h => List.mem_cons_of_mem _ (List.mem_append_left _ (List.mem_append_left _ (List.mem_append_right _ h)))
  have hl := lv_entry ([.ref (a0 0), .int x1]) (n := 2) (Nat.le_of_ble_eq_true rfl)
  rw [lg_entry_eq]
  generalize (lg_sl ([.ref (a0 0), .int x1]) ++ List.replicate (2 - (lg_sl ([.ref (a0 0), .int x1])).length) Slot.unset).toArray = ls at hl ⊢
  have hl : lv_has ls 2 [(0, .ref (a0 0)), (1, .int x1)] := hl
  unfold fX11_whence at hf
  refine lv_iload_n hx hb dX11_whence_0 rfl (lv_at hl 1 rfl) ?_
  obtain ⟨r1, hr1, hf⟩ := wb_b hf
  refine vp_callSi (W.runS (As := [.int x1]) (rest := []) ⟨hx, hb, hml, hown, hts⟩ (cn_X11_isBook l D cB cI cZ N x1 r1 hr1) (va_cwS 1 hts gyX11_whence_X11_isBook rfl rfl rfl csX11_isBook ⟨Nat.le_of_ble_eq_true rfl, Nat.le_of_ble_eq_true rfl⟩) (wb_preS (hP.sub (ws' := ([] : va_W)) [] rfl) hK) rfl rfl hl.1 rfl (lv_room (Nat.le_of_ble_eq_true rfl)) dX11_whence_1 ⟨Nat.le_of_ble_eq_true rfl, Nat.le_of_ble_eq_true rfl⟩) (fun r9 e9 => ?_)
  rw [e9]
  refine lv_if_eq (tgt := 32) hx hb dX11_whence_4 (by decide) (fun hc => ?_) (fun hc => ?_)
  · replace hf := wb_t hc hf
    refine lv_iconst (v := (0 : Int32)) hx hb dX11_whence_32 (by decide) ?_
    obtain ⟨r2, hr2, hf⟩ := wb_xr hf
    refine va_csv (W.runS (As := [.int (0 : Int32)]) (rest := []) ⟨hx, hb, hml, hown, hts⟩ (cn_X11_need l D cB cI cZ N (0 : Int32) r2 hr2) (va_cwS 1 hts gyX11_whence_X11_need rfl rfl rfl csX11_need ⟨Nat.le_of_ble_eq_true rfl, Nat.le_of_ble_eq_true rfl⟩) (wb_preS (hP.sub (ws' := ([] : va_W)) [] rfl) hK) rfl rfl hl.1 rfl (lv_room (Nat.le_of_ble_eq_true rfl)) dX11_whence_33 ⟨Nat.le_of_ble_eq_true rfl, Nat.le_of_ble_eq_true rfl⟩) (fun _ => ?_)
    replace hf := wb_okr hf
    refine lv_aload_n hx hb dX11_whence_36 rfl (lv_at hl 0 rfl) ?_
    refine va_get (D := D) (ci := 11) (v := .ref (a0 34)) (C := RX11) (T := TX11) (N := 13) hx hb hts hinX11 hown hK hP 0 rfl rfl 9 (by decide) (hts (.fieldLink RX11 59 "WheelBook" "copies" "LWheelBook$Tree;") (List.mem_of_getElem? (i := 1) rfl)) (fun _ h9 => h9) rfl dX11_whence_37 ?_
    refine lv_iload_n hx hb dX11_whence_40 rfl (lv_at hl 1 rfl) ?_
    obtain ⟨r3, hr3, hf⟩ := wb_b hf
    refine vp_callSi (W.runV (As := [.int x1]) (rest := []) ⟨hx, hb, hml, hown, hts⟩ (cn_X10_parentOf l D cB cI cZ N (wb_sh a0 34) (wb_sh I0 41) (wb_sh M0 20) x1 r3 hr3) (cwV 1 hts gyX11_whence_X10_parentOf rfl rfl rfl cdX10_parentOf ⟨Nat.le_of_ble_eq_true rfl, Nat.le_of_ble_eq_true rfl⟩) (wb_preV (hP.sub (ws' := (wWX10 cB cI cZ (wb_sh a0 34) (wb_sh I0 41) (wb_sh M0 20))) [34, 35, 36, 37] rfl) hK (wr_10 hK hP (q0 := 34) rfl)) rfl rfl hl.1 rfl (lv_room (Nat.le_of_ble_eq_true rfl)) dX11_whence_41 ⟨Nat.le_of_ble_eq_true rfl, Nat.le_of_ble_eq_true rfl⟩) (fun r9 e9 => ?_)
    rw [e9]
    exact W.iret (v := r3) hx hb hr (fun t ht hW => ⟨_, rfl, Option.some.inj hf, ht⟩) (fun _ h => nomatch h) dX11_whence_44
  · replace hf := wb_f hc hf
    refine lv_aload_n hx hb dX11_whence_7 rfl (lv_at hl 0 rfl) ?_
    refine va_get (D := D) (ci := 11) (v := .ref (a0 34)) (C := RX11) (T := TX11) (N := 13) hx hb hts hinX11 hown hK hP 0 rfl rfl 9 (by decide) (hts (.fieldLink RX11 59 "WheelBook" "copies" "LWheelBook$Tree;") (List.mem_of_getElem? (i := 1) rfl)) (fun _ h9 => h9) rfl dX11_whence_8 ?_
    refine va_get (D := D) (ci := 10) (v := .int (I0 42)) (C := RX10) (T := TX10) (N := 5) hx hb hts hinX10 hown hK hP 34 rfl rfl 4 (by decide) (hts (.fieldLink RX11 298 "WheelBook$Tree" "isKept" "Z") (List.mem_of_getElem? (i := 2) rfl)) (fun _ h9 => h9) rfl dX11_whence_11 ?_
    refine lv_if_eq (tgt := 32) hx hb dX11_whence_14 (by decide) (fun hc => ?_) (fun hc => ?_)
    · replace hf := wb_t hc hf
      refine lv_iconst (v := (0 : Int32)) hx hb dX11_whence_32 (by decide) ?_
      obtain ⟨r4, hr4, hf⟩ := wb_xr hf
      refine va_csv (W.runS (As := [.int (0 : Int32)]) (rest := []) ⟨hx, hb, hml, hown, hts⟩ (cn_X11_need l D cB cI cZ N (0 : Int32) r4 hr4) (va_cwS 1 hts gyX11_whence_X11_need rfl rfl rfl csX11_need ⟨Nat.le_of_ble_eq_true rfl, Nat.le_of_ble_eq_true rfl⟩) (wb_preS (hP.sub (ws' := ([] : va_W)) [] rfl) hK) rfl rfl hl.1 rfl (lv_room (Nat.le_of_ble_eq_true rfl)) dX11_whence_33 ⟨Nat.le_of_ble_eq_true rfl, Nat.le_of_ble_eq_true rfl⟩) (fun _ => ?_)
      replace hf := wb_okr hf
      refine lv_aload_n hx hb dX11_whence_36 rfl (lv_at hl 0 rfl) ?_
      refine va_get (D := D) (ci := 11) (v := .ref (a0 34)) (C := RX11) (T := TX11) (N := 13) hx hb hts hinX11 hown hK hP 0 rfl rfl 9 (by decide) (hts (.fieldLink RX11 59 "WheelBook" "copies" "LWheelBook$Tree;") (List.mem_of_getElem? (i := 1) rfl)) (fun _ h9 => h9) rfl dX11_whence_37 ?_
      refine lv_iload_n hx hb dX11_whence_40 rfl (lv_at hl 1 rfl) ?_
      obtain ⟨r5, hr5, hf⟩ := wb_b hf
      refine vp_callSi (W.runV (As := [.int x1]) (rest := []) ⟨hx, hb, hml, hown, hts⟩ (cn_X10_parentOf l D cB cI cZ N (wb_sh a0 34) (wb_sh I0 41) (wb_sh M0 20) x1 r5 hr5) (cwV 1 hts gyX11_whence_X10_parentOf rfl rfl rfl cdX10_parentOf ⟨Nat.le_of_ble_eq_true rfl, Nat.le_of_ble_eq_true rfl⟩) (wb_preV (hP.sub (ws' := (wWX10 cB cI cZ (wb_sh a0 34) (wb_sh I0 41) (wb_sh M0 20))) [34, 35, 36, 37] rfl) hK (wr_10 hK hP (q0 := 34) rfl)) rfl rfl hl.1 rfl (lv_room (Nat.le_of_ble_eq_true rfl)) dX11_whence_41 ⟨Nat.le_of_ble_eq_true rfl, Nat.le_of_ble_eq_true rfl⟩) (fun r9 e9 => ?_)
      rw [e9]
      exact W.iret (v := r5) hx hb hr (fun t ht hW => ⟨_, rfl, Option.some.inj hf, ht⟩) (fun _ h => nomatch h) dX11_whence_44
    · replace hf := wb_f hc hf
      refine lv_aload_n hx hb dX11_whence_17 rfl (lv_at hl 0 rfl) ?_
      refine va_get (D := D) (ci := 11) (v := .ref (a0 34)) (C := RX11) (T := TX11) (N := 13) hx hb hts hinX11 hown hK hP 0 rfl rfl 9 (by decide) (hts (.fieldLink RX11 59 "WheelBook" "copies" "LWheelBook$Tree;") (List.mem_of_getElem? (i := 1) rfl)) (fun _ h9 => h9) rfl dX11_whence_18 ?_
      refine lv_iload_n hx hb dX11_whence_21 rfl (lv_at hl 1 rfl) ?_
      obtain ⟨r6, hr6, hf⟩ := wb_b hf
      refine vp_callSi (W.runV (As := [.int x1]) (rest := []) ⟨hx, hb, hml, hown, hts⟩ (cn_X10_holds l D cB cI cZ N (wb_sh a0 34) (wb_sh I0 41) (wb_sh M0 20) x1 r6 hr6) (cwV 1 hts gyX11_whence_X10_holds rfl rfl rfl cdX10_holds ⟨Nat.le_of_ble_eq_true rfl, Nat.le_of_ble_eq_true rfl⟩) (wb_preV (hP.sub (ws' := (wWX10 cB cI cZ (wb_sh a0 34) (wb_sh I0 41) (wb_sh M0 20))) [34, 35, 36, 37] rfl) hK (wr_10 hK hP (q0 := 34) rfl)) rfl rfl hl.1 rfl (lv_room (Nat.le_of_ble_eq_true rfl)) dX11_whence_22 ⟨Nat.le_of_ble_eq_true rfl, Nat.le_of_ble_eq_true rfl⟩) (fun r9 e9 => ?_)
      rw [e9]
      refine lv_if_eq (tgt := 32) hx hb dX11_whence_25 (by decide) (fun hc => ?_) (fun hc => ?_)
      · replace hf := wb_t hc hf
        refine lv_iconst (v := (0 : Int32)) hx hb dX11_whence_32 (by decide) ?_
        obtain ⟨r7, hr7, hf⟩ := wb_xr hf
        refine va_csv (W.runS (As := [.int (0 : Int32)]) (rest := []) ⟨hx, hb, hml, hown, hts⟩ (cn_X11_need l D cB cI cZ N (0 : Int32) r7 hr7) (va_cwS 1 hts gyX11_whence_X11_need rfl rfl rfl csX11_need ⟨Nat.le_of_ble_eq_true rfl, Nat.le_of_ble_eq_true rfl⟩) (wb_preS (hP.sub (ws' := ([] : va_W)) [] rfl) hK) rfl rfl hl.1 rfl (lv_room (Nat.le_of_ble_eq_true rfl)) dX11_whence_33 ⟨Nat.le_of_ble_eq_true rfl, Nat.le_of_ble_eq_true rfl⟩) (fun _ => ?_)
        replace hf := wb_okr hf
        refine lv_aload_n hx hb dX11_whence_36 rfl (lv_at hl 0 rfl) ?_
        refine va_get (D := D) (ci := 11) (v := .ref (a0 34)) (C := RX11) (T := TX11) (N := 13) hx hb hts hinX11 hown hK hP 0 rfl rfl 9 (by decide) (hts (.fieldLink RX11 59 "WheelBook" "copies" "LWheelBook$Tree;") (List.mem_of_getElem? (i := 1) rfl)) (fun _ h9 => h9) rfl dX11_whence_37 ?_
        refine lv_iload_n hx hb dX11_whence_40 rfl (lv_at hl 1 rfl) ?_
        obtain ⟨r8, hr8, hf⟩ := wb_b hf
        refine vp_callSi (W.runV (As := [.int x1]) (rest := []) ⟨hx, hb, hml, hown, hts⟩ (cn_X10_parentOf l D cB cI cZ N (wb_sh a0 34) (wb_sh I0 41) (wb_sh M0 20) x1 r8 hr8) (cwV 1 hts gyX11_whence_X10_parentOf rfl rfl rfl cdX10_parentOf ⟨Nat.le_of_ble_eq_true rfl, Nat.le_of_ble_eq_true rfl⟩) (wb_preV (hP.sub (ws' := (wWX10 cB cI cZ (wb_sh a0 34) (wb_sh I0 41) (wb_sh M0 20))) [34, 35, 36, 37] rfl) hK (wr_10 hK hP (q0 := 34) rfl)) rfl rfl hl.1 rfl (lv_room (Nat.le_of_ble_eq_true rfl)) dX11_whence_41 ⟨Nat.le_of_ble_eq_true rfl, Nat.le_of_ble_eq_true rfl⟩) (fun r9 e9 => ?_)
        rw [e9]
        exact W.iret (v := r8) hx hb hr (fun t ht hW => ⟨_, rfl, Option.some.inj hf, ht⟩) (fun _ h => nomatch h) dX11_whence_44
      · replace hf := wb_f hc hf
        refine lv_iconst (v := (1 : Int32)) hx hb dX11_whence_28 (by decide) ?_
        refine lv_goto (tgt := 33) hx hb dX11_whence_29 (by decide) ?_
        obtain ⟨r9b, hr9b, hf⟩ := wb_xr hf
        refine va_csv (W.runS (As := [.int (1 : Int32)]) (rest := []) ⟨hx, hb, hml, hown, hts⟩ (cn_X11_need l D cB cI cZ N (1 : Int32) r9b hr9b) (va_cwS 1 hts gyX11_whence_X11_need rfl rfl rfl csX11_need ⟨Nat.le_of_ble_eq_true rfl, Nat.le_of_ble_eq_true rfl⟩) (wb_preS (hP.sub (ws' := ([] : va_W)) [] rfl) hK) rfl rfl hl.1 rfl (lv_room (Nat.le_of_ble_eq_true rfl)) dX11_whence_33 ⟨Nat.le_of_ble_eq_true rfl, Nat.le_of_ble_eq_true rfl⟩) (fun _ => ?_)
        replace hf := wb_okr hf
        refine lv_aload_n hx hb dX11_whence_36 rfl (lv_at hl 0 rfl) ?_
        refine va_get (D := D) (ci := 11) (v := .ref (a0 34)) (C := RX11) (T := TX11) (N := 13) hx hb hts hinX11 hown hK hP 0 rfl rfl 9 (by decide) (hts (.fieldLink RX11 59 "WheelBook" "copies" "LWheelBook$Tree;") (List.mem_of_getElem? (i := 1) rfl)) (fun _ h9 => h9) rfl dX11_whence_37 ?_
        refine lv_iload_n hx hb dX11_whence_40 rfl (lv_at hl 1 rfl) ?_
        obtain ⟨r10, hr10, hf⟩ := wb_b hf
        refine vp_callSi (W.runV (As := [.int x1]) (rest := []) ⟨hx, hb, hml, hown, hts⟩ (cn_X10_parentOf l D cB cI cZ N (wb_sh a0 34) (wb_sh I0 41) (wb_sh M0 20) x1 r10 hr10) (cwV 1 hts gyX11_whence_X10_parentOf rfl rfl rfl cdX10_parentOf ⟨Nat.le_of_ble_eq_true rfl, Nat.le_of_ble_eq_true rfl⟩) (wb_preV (hP.sub (ws' := (wWX10 cB cI cZ (wb_sh a0 34) (wb_sh I0 41) (wb_sh M0 20))) [34, 35, 36, 37] rfl) hK (wr_10 hK hP (q0 := 34) rfl)) rfl rfl hl.1 rfl (lv_room (Nat.le_of_ble_eq_true rfl)) dX11_whence_41 ⟨Nat.le_of_ble_eq_true rfl, Nat.le_of_ble_eq_true rfl⟩) (fun r9 e9 => ?_)
        rw [e9]
        exact W.iret (v := r10) hx hb hr (fun t ht hW => ⟨_, rfl, Option.some.inj hf, ht⟩) (fun _ h => nomatch h) dX11_whence_44
set_option maxHeartbeats 4000000 in
set_option maxRecDepth 100000 in
theorem ct_X11_whence (l : Launch) (hlt : l.stackTraces = false) (D : va_G) (cB cI cZ : ClassId) (N : Nat) (a0 : Nat → Nat) (I0 : Nat → Int32) (M0 : Nat → Nat → Int32) (x1 : Int32) (sz k : Nat) (hf : fX11_whence N I0 M0 x1 = some (.inl k)) : vx_Met l yX11_whence wyX11_whence ({ frames := 7, cells := 1, slots := 6, locals := 140 }) (va_Pc [.ref (a0 0), .int x1] (wb_preX D [(cB, .byte), (cI, .int), (cZ, .boolean)] (wWX11 cB cI cZ a0 I0 M0) sz)) (va_Qi (fun _ (_ : Unit) => False) (fun _ _ => True) (fun q => sz ≤ q)) (vx_X (fun _ : Unit => True) (fun E _ _ => E = wb_ex k) (fun q => sz ≤ q)) 1 6 (fun q => sz ≤ q) := by
  refine vx_ofW (cc := cX11_whence) (maxL := 2) (ret := (some .int)) (by decide) rfl ?_
  intro p e s m args below meth c s₁ B hml htab hv
  obtain ⟨rfl, hsz, hP, hK, hX⟩ := hv
  subst hsz
  have hx := B.exec
  have hb := B.bytes
  have hr := B.returns
  have hts := atoms_spec (ws := wyX11_whence) B.pre
  have hown : s.vm.findClass RX11 = some m.cls := (findClass_of_methodNamed B.named :)
  have hlocks := B.notSynchronized
  have hS : va_S (fun q => s.heap.size ≤ q) s.heap s.heap [] := va_S.rf
  have hinX10 : ∀ w ∈ u_ws RX10 TX10 5, w ∈ wyX11_whence := fun w h => List.mem_cons_of_mem _ (List.mem_append_left _ (List.mem_append_right _ h))
  have hinX11 : ∀ w ∈ u_ws RX11 TX11 13, w ∈ wyX11_whence := fun w h => List.mem_cons_of_mem _ (List.mem_append_left _ (List.mem_append_left _ (List.mem_append_right _ h)))
  have hl := lv_entry ([.ref (a0 0), .int x1]) (n := 2) (Nat.le_of_ble_eq_true rfl)
  rw [lg_entry_eq]
  generalize (lg_sl ([.ref (a0 0), .int x1]) ++ List.replicate (2 - (lg_sl ([.ref (a0 0), .int x1])).length) Slot.unset).toArray = ls at hl ⊢
  have hl : lv_has ls 2 [(0, .ref (a0 0)), (1, .int x1)] := hl
  unfold fX11_whence at hf
  refine lv_iload_n hx hb dX11_whence_0 rfl (lv_at hl 1 rfl) ?_
  obtain ⟨r1, hr1, hf⟩ := wb_b hf
  refine vp_callSi (W.runS (As := [.int x1]) (rest := []) ⟨hx, hb, hml, hown, hts⟩ (cn_X11_isBook l D cB cI cZ N x1 r1 hr1) (va_cwS 1 hts gyX11_whence_X11_isBook rfl rfl rfl csX11_isBook ⟨Nat.le_of_ble_eq_true rfl, Nat.le_of_ble_eq_true rfl⟩) (wb_preS (hP.sub (ws' := ([] : va_W)) [] rfl) hK) rfl rfl hl.1 rfl (lv_room (Nat.le_of_ble_eq_true rfl)) dX11_whence_1 ⟨Nat.le_of_ble_eq_true rfl, Nat.le_of_ble_eq_true rfl⟩) (fun r9 e9 => ?_)
  rw [e9]
  refine lv_if_eq (tgt := 32) hx hb dX11_whence_4 (by decide) (fun hc => ?_) (fun hc => ?_)
  · replace hf := wb_t hc hf
    refine lv_iconst (v := (0 : Int32)) hx hb dX11_whence_32 (by decide) ?_
    rcases wb_xt hf with hrx | ⟨r2, hr2, hf⟩
    · refine vx_callv (vx_runS (As := [.int (0 : Int32)]) (rest := []) ⟨hx, hb, hml, hown, hts⟩ (ct_X11_need l hlt D cB cI cZ N (0 : Int32) s.heap.size k hrx) (va_cwS 1 hts gyX11_whence_X11_need rfl rfl rfl csX11_need ⟨Nat.le_of_ble_eq_true rfl, Nat.le_of_ble_eq_true rfl⟩) (wb_preXS (hP.sub (ws' := ([] : va_W)) [] rfl) hK hX) rfl rfl hl.1 rfl (lv_room (Nat.le_of_ble_eq_true rfl)) dX11_whence_33 ⟨Nat.le_of_ble_eq_true rfl, Nat.le_of_ble_eq_true rfl⟩) hS (fun q _ h => h) (fun _ h => h) (fun q _ h => h) (fun E ce q9 u t H locs ht hvm hpx hB hz1 hk1 hS hq9 hv9 hc9 => ?_) (fun u t H locs ht hvm hw hB hz1 hk1 hS => hw.elim)
      exact vx_out (fun x hx9 => (htab x hx9).elim) hlocks hq9 hv9 hc9 (fun t9 ht9 hvm9 => ⟨(), trivial, hB, hS.F ht9⟩) hS.2.2 (Nat.le_of_ble_eq_true rfl) (Nat.le_of_ble_eq_true rfl)
    refine va_csv (W.runS (As := [.int (0 : Int32)]) (rest := []) ⟨hx, hb, hml, hown, hts⟩ (cn_X11_need l D cB cI cZ N (0 : Int32) r2 hr2) (va_cwS 1 hts gyX11_whence_X11_need rfl rfl rfl csX11_need ⟨Nat.le_of_ble_eq_true rfl, Nat.le_of_ble_eq_true rfl⟩) (wb_preS (hP.sub (ws' := ([] : va_W)) [] rfl) hK) rfl rfl hl.1 rfl (lv_room (Nat.le_of_ble_eq_true rfl)) dX11_whence_33 ⟨Nat.le_of_ble_eq_true rfl, Nat.le_of_ble_eq_true rfl⟩) (fun _ => ?_)
    exact absurd hf wb_okn
  · replace hf := wb_f hc hf
    refine lv_aload_n hx hb dX11_whence_7 rfl (lv_at hl 0 rfl) ?_
    refine va_get (D := D) (ci := 11) (v := .ref (a0 34)) (C := RX11) (T := TX11) (N := 13) hx hb hts hinX11 hown hK hP 0 rfl rfl 9 (by decide) (hts (.fieldLink RX11 59 "WheelBook" "copies" "LWheelBook$Tree;") (List.mem_of_getElem? (i := 1) rfl)) (fun _ h9 => h9) rfl dX11_whence_8 ?_
    refine va_get (D := D) (ci := 10) (v := .int (I0 42)) (C := RX10) (T := TX10) (N := 5) hx hb hts hinX10 hown hK hP 34 rfl rfl 4 (by decide) (hts (.fieldLink RX11 298 "WheelBook$Tree" "isKept" "Z") (List.mem_of_getElem? (i := 2) rfl)) (fun _ h9 => h9) rfl dX11_whence_11 ?_
    refine lv_if_eq (tgt := 32) hx hb dX11_whence_14 (by decide) (fun hc => ?_) (fun hc => ?_)
    · replace hf := wb_t hc hf
      refine lv_iconst (v := (0 : Int32)) hx hb dX11_whence_32 (by decide) ?_
      rcases wb_xt hf with hrx | ⟨r3, hr3, hf⟩
      · refine vx_callv (vx_runS (As := [.int (0 : Int32)]) (rest := []) ⟨hx, hb, hml, hown, hts⟩ (ct_X11_need l hlt D cB cI cZ N (0 : Int32) s.heap.size k hrx) (va_cwS 1 hts gyX11_whence_X11_need rfl rfl rfl csX11_need ⟨Nat.le_of_ble_eq_true rfl, Nat.le_of_ble_eq_true rfl⟩) (wb_preXS (hP.sub (ws' := ([] : va_W)) [] rfl) hK hX) rfl rfl hl.1 rfl (lv_room (Nat.le_of_ble_eq_true rfl)) dX11_whence_33 ⟨Nat.le_of_ble_eq_true rfl, Nat.le_of_ble_eq_true rfl⟩) hS (fun q _ h => h) (fun _ h => h) (fun q _ h => h) (fun E ce q9 u t H locs ht hvm hpx hB hz1 hk1 hS hq9 hv9 hc9 => ?_) (fun u t H locs ht hvm hw hB hz1 hk1 hS => hw.elim)
        exact vx_out (fun x hx9 => (htab x hx9).elim) hlocks hq9 hv9 hc9 (fun t9 ht9 hvm9 => ⟨(), trivial, hB, hS.F ht9⟩) hS.2.2 (Nat.le_of_ble_eq_true rfl) (Nat.le_of_ble_eq_true rfl)
      refine va_csv (W.runS (As := [.int (0 : Int32)]) (rest := []) ⟨hx, hb, hml, hown, hts⟩ (cn_X11_need l D cB cI cZ N (0 : Int32) r3 hr3) (va_cwS 1 hts gyX11_whence_X11_need rfl rfl rfl csX11_need ⟨Nat.le_of_ble_eq_true rfl, Nat.le_of_ble_eq_true rfl⟩) (wb_preS (hP.sub (ws' := ([] : va_W)) [] rfl) hK) rfl rfl hl.1 rfl (lv_room (Nat.le_of_ble_eq_true rfl)) dX11_whence_33 ⟨Nat.le_of_ble_eq_true rfl, Nat.le_of_ble_eq_true rfl⟩) (fun _ => ?_)
      exact absurd hf wb_okn
    · replace hf := wb_f hc hf
      refine lv_aload_n hx hb dX11_whence_17 rfl (lv_at hl 0 rfl) ?_
      refine va_get (D := D) (ci := 11) (v := .ref (a0 34)) (C := RX11) (T := TX11) (N := 13) hx hb hts hinX11 hown hK hP 0 rfl rfl 9 (by decide) (hts (.fieldLink RX11 59 "WheelBook" "copies" "LWheelBook$Tree;") (List.mem_of_getElem? (i := 1) rfl)) (fun _ h9 => h9) rfl dX11_whence_18 ?_
      refine lv_iload_n hx hb dX11_whence_21 rfl (lv_at hl 1 rfl) ?_
      obtain ⟨r4, hr4, hf⟩ := wb_b hf
      refine vp_callSi (W.runV (As := [.int x1]) (rest := []) ⟨hx, hb, hml, hown, hts⟩ (cn_X10_holds l D cB cI cZ N (wb_sh a0 34) (wb_sh I0 41) (wb_sh M0 20) x1 r4 hr4) (cwV 1 hts gyX11_whence_X10_holds rfl rfl rfl cdX10_holds ⟨Nat.le_of_ble_eq_true rfl, Nat.le_of_ble_eq_true rfl⟩) (wb_preV (hP.sub (ws' := (wWX10 cB cI cZ (wb_sh a0 34) (wb_sh I0 41) (wb_sh M0 20))) [34, 35, 36, 37] rfl) hK (wr_10 hK hP (q0 := 34) rfl)) rfl rfl hl.1 rfl (lv_room (Nat.le_of_ble_eq_true rfl)) dX11_whence_22 ⟨Nat.le_of_ble_eq_true rfl, Nat.le_of_ble_eq_true rfl⟩) (fun r9 e9 => ?_)
      rw [e9]
      refine lv_if_eq (tgt := 32) hx hb dX11_whence_25 (by decide) (fun hc => ?_) (fun hc => ?_)
      · replace hf := wb_t hc hf
        refine lv_iconst (v := (0 : Int32)) hx hb dX11_whence_32 (by decide) ?_
        rcases wb_xt hf with hrx | ⟨r5, hr5, hf⟩
        · refine vx_callv (vx_runS (As := [.int (0 : Int32)]) (rest := []) ⟨hx, hb, hml, hown, hts⟩ (ct_X11_need l hlt D cB cI cZ N (0 : Int32) s.heap.size k hrx) (va_cwS 1 hts gyX11_whence_X11_need rfl rfl rfl csX11_need ⟨Nat.le_of_ble_eq_true rfl, Nat.le_of_ble_eq_true rfl⟩) (wb_preXS (hP.sub (ws' := ([] : va_W)) [] rfl) hK hX) rfl rfl hl.1 rfl (lv_room (Nat.le_of_ble_eq_true rfl)) dX11_whence_33 ⟨Nat.le_of_ble_eq_true rfl, Nat.le_of_ble_eq_true rfl⟩) hS (fun q _ h => h) (fun _ h => h) (fun q _ h => h) (fun E ce q9 u t H locs ht hvm hpx hB hz1 hk1 hS hq9 hv9 hc9 => ?_) (fun u t H locs ht hvm hw hB hz1 hk1 hS => hw.elim)
          exact vx_out (fun x hx9 => (htab x hx9).elim) hlocks hq9 hv9 hc9 (fun t9 ht9 hvm9 => ⟨(), trivial, hB, hS.F ht9⟩) hS.2.2 (Nat.le_of_ble_eq_true rfl) (Nat.le_of_ble_eq_true rfl)
        refine va_csv (W.runS (As := [.int (0 : Int32)]) (rest := []) ⟨hx, hb, hml, hown, hts⟩ (cn_X11_need l D cB cI cZ N (0 : Int32) r5 hr5) (va_cwS 1 hts gyX11_whence_X11_need rfl rfl rfl csX11_need ⟨Nat.le_of_ble_eq_true rfl, Nat.le_of_ble_eq_true rfl⟩) (wb_preS (hP.sub (ws' := ([] : va_W)) [] rfl) hK) rfl rfl hl.1 rfl (lv_room (Nat.le_of_ble_eq_true rfl)) dX11_whence_33 ⟨Nat.le_of_ble_eq_true rfl, Nat.le_of_ble_eq_true rfl⟩) (fun _ => ?_)
        exact absurd hf wb_okn
      · replace hf := wb_f hc hf
        refine lv_iconst (v := (1 : Int32)) hx hb dX11_whence_28 (by decide) ?_
        refine lv_goto (tgt := 33) hx hb dX11_whence_29 (by decide) ?_
        rcases wb_xt hf with hrx | ⟨r6, hr6, hf⟩
        · refine vx_callv (vx_runS (As := [.int (1 : Int32)]) (rest := []) ⟨hx, hb, hml, hown, hts⟩ (ct_X11_need l hlt D cB cI cZ N (1 : Int32) s.heap.size k hrx) (va_cwS 1 hts gyX11_whence_X11_need rfl rfl rfl csX11_need ⟨Nat.le_of_ble_eq_true rfl, Nat.le_of_ble_eq_true rfl⟩) (wb_preXS (hP.sub (ws' := ([] : va_W)) [] rfl) hK hX) rfl rfl hl.1 rfl (lv_room (Nat.le_of_ble_eq_true rfl)) dX11_whence_33 ⟨Nat.le_of_ble_eq_true rfl, Nat.le_of_ble_eq_true rfl⟩) hS (fun q _ h => h) (fun _ h => h) (fun q _ h => h) (fun E ce q9 u t H locs ht hvm hpx hB hz1 hk1 hS hq9 hv9 hc9 => ?_) (fun u t H locs ht hvm hw hB hz1 hk1 hS => hw.elim)
          exact vx_out (fun x hx9 => (htab x hx9).elim) hlocks hq9 hv9 hc9 (fun t9 ht9 hvm9 => ⟨(), trivial, hB, hS.F ht9⟩) hS.2.2 (Nat.le_of_ble_eq_true rfl) (Nat.le_of_ble_eq_true rfl)
        refine va_csv (W.runS (As := [.int (1 : Int32)]) (rest := []) ⟨hx, hb, hml, hown, hts⟩ (cn_X11_need l D cB cI cZ N (1 : Int32) r6 hr6) (va_cwS 1 hts gyX11_whence_X11_need rfl rfl rfl csX11_need ⟨Nat.le_of_ble_eq_true rfl, Nat.le_of_ble_eq_true rfl⟩) (wb_preS (hP.sub (ws' := ([] : va_W)) [] rfl) hK) rfl rfl hl.1 rfl (lv_room (Nat.le_of_ble_eq_true rfl)) dX11_whence_33 ⟨Nat.le_of_ble_eq_true rfl, Nat.le_of_ble_eq_true rfl⟩) (fun _ => ?_)
        exact absurd hf wb_okn

set_option maxHeartbeats 4000000 in
set_option maxRecDepth 100000 in
theorem cn_X11_life (l : Launch) (D : va_G) (cB cI cZ : ClassId) (N : Nat) (a0 : Nat → Nat) (I0 : Nat → Int32) (M0 : Nat → Nat → Int32) (x1 : Int32) (x2 : Int32) (x3 : Int32) (sz : Nat) (R : Int32 × (Nat → Int32) × (Nat → Nat → Int32)) (hf : fX11_life N I0 M0 x1 x2 x3 = some (.inr R)) : Met l yX11_life wyX11_life ({ frames := 7, cells := 0, slots := 0, locals := 140 }) (va_Pc [.ref (a0 0), .int x1, .int x2, .int x3] (wb_preD D [(cB, .byte), (cI, .int), (cZ, .boolean)] (wWX11 cB cI cZ a0 I0 M0) sz)) (va_Qi (fun r (_ : Unit) => r = R.1) (fun _ t => wb_post D [(cB, .byte), (cI, .int), (cZ, .boolean)] (va_A (wWX11 cB cI cZ a0 I0 M0) sz) (wWX11 cB cI cZ a0 R.2.1 R.2.2) t) (va_A (wWX11 cB cI cZ a0 I0 M0) sz)) 0 0 (va_A (wWX11 cB cI cZ a0 I0 M0) sz) := by
  refine Met.ofW (cc := cX11_life) (maxL := 4) (ret := (some .boolean)) pn_X11 rfl ?_
  intro p e s m args below meth c s₁ B hml hv
  obtain ⟨rfl, hsz, hP, hK, hD0⟩ := hv
  have hx := B.exec
  have hb := B.bytes
  have hr := B.returns
  have hts := atoms_spec (ws := wyX11_life) B.pre
  have hown : s.vm.findClass RX11 = some m.cls := (findClass_of_methodNamed B.named :)
  have hlocks := B.notSynchronized
  have hinX11 : ∀ w ∈ u_ws RX11 TX11 13, w ∈ wyX11_life := fun w h => List.mem_cons_of_mem _ (List.mem_append_left _ (List.mem_append_left _ (List.mem_append_right _ h)))
  subst hsz
  have hD := hD0.self (sz := s.heap.size)
  generalize hAe : va_A (wWX11 cB cI cZ a0 I0 M0) s.heap.size = A at hD ⊢
  have hA : ∀ q : Nat, s.heap.size ≤ q → A q := fun q h => by rw [← hAe]; exact Or.inr h
  have hS : va_S A s.heap s.heap [] := va_S.rf
  have hl := lv_entry ([.ref (a0 0), .int x1, .int x2, .int x3]) (n := 4) (Nat.le_of_ble_eq_true rfl)
  rw [lg_entry_eq]
  generalize (lg_sl ([.ref (a0 0), .int x1, .int x2, .int x3]) ++ List.replicate (4 - (lg_sl ([.ref (a0 0), .int x1, .int x2, .int x3])).length) Slot.unset).toArray = ls at hl ⊢
  have hl : lv_has ls 4 [(0, .ref (a0 0)), (1, .int x1), (2, .int x2), (3, .int x3)] := hl
  unfold fX11_life at hf
  obtain ⟨H, hHe⟩ : ∃ H : Heap, H = s.heap := ⟨_, rfl⟩
  obtain ⟨locs, hle⟩ : ∃ locs : List Loc, locs = [] := ⟨_, rfl⟩
  refine wb_start (H := H) (locs := locs) hHe hle ?_
  rw [← hHe] at hP
  have hS : va_S A s.heap H locs := by rw [hHe, hle]; exact va_S.rf
  refine lv_iload_n hx hb dX11_life_0 rfl (lv_at hl 1 rfl) ?_
  refine lv_iconst (v := (0 : Int32)) hx hb dX11_life_1 (by decide) ?_
  refine lv_bipush (v := (19 : Int32)) hx hb dX11_life_2 (by decide) ?_
  obtain ⟨r1, hr1, hf⟩ := wb_b hf
  refine vp_callSi (W.runS (As := [.int x1, .int (0 : Int32), .int (19 : Int32)]) (rest := []) ⟨hx, hb, hml, hown, hts⟩ (cn_X11_within l D cB cI cZ N x1 (0 : Int32) (19 : Int32) r1 hr1) (va_cwS 3 hts gyX11_life_X11_within rfl rfl rfl csX11_within ⟨Nat.le_of_ble_eq_true rfl, Nat.le_of_ble_eq_true rfl⟩) (wb_preS (hP.sub (ws' := ([] : va_W)) [] rfl) hK) rfl rfl hl.1 rfl (lv_room (Nat.le_of_ble_eq_true rfl)) dX11_life_4 ⟨Nat.le_of_ble_eq_true rfl, Nat.le_of_ble_eq_true rfl⟩) (fun r9 e9 => ?_)
  rw [e9]
  obtain ⟨r2, hr2, hf⟩ := wb_xr hf
  refine va_csv (W.runS (As := [.int r1]) (rest := []) ⟨hx, hb, hml, hown, hts⟩ (cn_X11_need l D cB cI cZ N r1 r2 hr2) (va_cwS 1 hts gyX11_life_X11_need rfl rfl rfl csX11_need ⟨Nat.le_of_ble_eq_true rfl, Nat.le_of_ble_eq_true rfl⟩) (wb_preS (hP.sub (ws' := ([] : va_W)) [] rfl) hK) rfl rfl hl.1 rfl (lv_room (Nat.le_of_ble_eq_true rfl)) dX11_life_7 ⟨Nat.le_of_ble_eq_true rfl, Nat.le_of_ble_eq_true rfl⟩) (fun _ => ?_)
  replace hf := wb_okr hf
  refine lv_iload_n hx hb dX11_life_10 rfl (lv_at hl 2 rfl) ?_
  refine lv_iconst (v := (0 : Int32)) hx hb dX11_life_11 (by decide) ?_
  refine lv_bipush (v := (120 : Int32)) hx hb dX11_life_12 (by decide) ?_
  obtain ⟨r3, hr3, hf⟩ := wb_b hf
  refine vp_callSi (W.runS (As := [.int x2, .int (0 : Int32), .int (120 : Int32)]) (rest := []) ⟨hx, hb, hml, hown, hts⟩ (cn_X11_within l D cB cI cZ N x2 (0 : Int32) (120 : Int32) r3 hr3) (va_cwS 3 hts gyX11_life_X11_within rfl rfl rfl csX11_within ⟨Nat.le_of_ble_eq_true rfl, Nat.le_of_ble_eq_true rfl⟩) (wb_preS (hP.sub (ws' := ([] : va_W)) [] rfl) hK) rfl rfl hl.1 rfl (lv_room (Nat.le_of_ble_eq_true rfl)) dX11_life_14 ⟨Nat.le_of_ble_eq_true rfl, Nat.le_of_ble_eq_true rfl⟩) (fun r9 e9 => ?_)
  rw [e9]
  refine lv_if_eq (tgt := 30) hx hb dX11_life_17 (by decide) (fun hc => ?_) (fun hc => ?_)
  · replace hf := wb_t hc hf
    refine lv_iconst (v := (0 : Int32)) hx hb dX11_life_30 (by decide) ?_
    exact W.zret (v := (0 : Int32)) hx hb hr (by decide) (fun t ht hW => by rw [← Option.some.inj hf]; exact ⟨⟨(0 : Int32), (), rfl, rfl, by rw [ht]; exact hP, va_K.moved hW.alike hK, hD⟩, hS.F ht⟩) hS.2.2 dX11_life_31
  · replace hf := wb_f hc hf
    refine lv_iload_n hx hb dX11_life_20 rfl (lv_at hl 3 rfl) ?_
    refine lv_iconst (v := (0 : Int32)) hx hb dX11_life_21 (by decide) ?_
    refine lv_bipush (v := (120 : Int32)) hx hb dX11_life_22 (by decide) ?_
    obtain ⟨r4, hr4, hf⟩ := wb_b hf
    refine vp_callSi (W.runS (As := [.int x3, .int (0 : Int32), .int (120 : Int32)]) (rest := []) ⟨hx, hb, hml, hown, hts⟩ (cn_X11_within l D cB cI cZ N x3 (0 : Int32) (120 : Int32) r4 hr4) (va_cwS 3 hts gyX11_life_X11_within rfl rfl rfl csX11_within ⟨Nat.le_of_ble_eq_true rfl, Nat.le_of_ble_eq_true rfl⟩) (wb_preS (hP.sub (ws' := ([] : va_W)) [] rfl) hK) rfl rfl hl.1 rfl (lv_room (Nat.le_of_ble_eq_true rfl)) dX11_life_24 ⟨Nat.le_of_ble_eq_true rfl, Nat.le_of_ble_eq_true rfl⟩) (fun r9 e9 => ?_)
    rw [e9]
    refine lv_if_ne (tgt := 32) hx hb dX11_life_27 (by decide) (fun hc => ?_) (fun hc => ?_)
    · replace hf := wb_f hc hf
      refine lv_aload_n hx hb dX11_life_32 rfl (lv_at hl 0 rfl) ?_
      refine va_get (D := D) (ci := 11) (v := .ref (a0 45)) (C := RX11) (T := TX11) (N := 13) hx hb hts hinX11 hown hK hP 0 rfl rfl 12 (by decide) (hts (.fieldLink RX11 80 "WheelBook" "outcomes" "LWheelBook$Outcomes;") (List.mem_of_getElem? (i := 1) rfl)) (fun _ h9 => h9) rfl dX11_life_33 ?_
      refine lv_iload_n hx hb dX11_life_36 rfl (lv_at hl 1 rfl) ?_
      refine lv_iload_n hx hb dX11_life_37 rfl (lv_at hl 2 rfl) ?_
      refine lv_iload_n hx hb dX11_life_38 rfl (lv_at hl 3 rfl) ?_
      obtain ⟨r5, hr5, hf⟩ := wb_b hf
      have hPc := hP.sub (ws' := (wWX7 cB cI cZ (wb_sh a0 45) (wb_sh I0 43) (wb_sh M0 28))) [45, 46, 47, 48, 49, 50, 51] rfl
      have hDc := hD.sub (ws' := (wWX7 cB cI cZ (wb_sh a0 45) (wb_sh I0 43) (wb_sh M0 28))) [45, 46, 47, 48, 49, 50, 51] (by decide) rfl
      have hFc := va_free (wc := (wWX7 cB cI cZ (wb_sh a0 45) (wb_sh I0 43) (wb_sh M0 28))) hD hS hA [45, 46, 47, 48, 49, 50, 51] rfl
      refine va_callv (va_runV (As := [.int x1, .int x2, .int x3]) (rest := []) ⟨hx, hb, hml, hown, hts⟩ (cn_X7_tellLife l D cB cI cZ N (wb_sh a0 45) (wb_sh I0 43) (wb_sh M0 28) x1 x2 x3 H.size r5 hr5) (cwV 3 hts gyX11_life_X7_tellLife rfl rfl rfl cdX7_tellLife ⟨Nat.le_of_ble_eq_true rfl, Nat.le_of_ble_eq_true rfl⟩) (wb_preDV hPc hK hDc (wr_7 hK hP (q0 := 45) rfl)) rfl rfl hl.1 rfl (lv_room (Nat.le_of_ble_eq_true rfl)) dX11_life_39 ⟨Nat.le_of_ble_eq_true rfl, Nat.le_of_ble_eq_true rfl⟩) hS (fun q _ h => hFc q h) hFc (fun u t H locs ht hvm hw hB hz1 hk1 hS => ?_)
      obtain ⟨hP, hD⟩ := wj_s (wc := (wWX7 cB cI cZ (wb_sh a0 45) (wb_sh I0 43) (wb_sh M0 28))) (w1 := (wWX7 cB cI cZ (wb_sh a0 45) r5.1 r5.2)) (wf := (wWX11 cB cI cZ a0 (wb_in I0 43 0 r5.1) (wb_in M0 28 6 r5.2))) 45 52 hP hD rfl rfl hk1 hFc ht hB
      obtain ⟨I0_6, eI0_6, hf⟩ := wb_v hf
      rw [← eI0_6] at hP hD
      obtain ⟨M0_7, eM0_7, hf⟩ := wb_v hf
      rw [← eM0_7] at hP hD
      refine lv_iconst (v := (1 : Int32)) hx hb dX11_life_42 (by decide) ?_
      exact W.zret (v := (1 : Int32)) hx hb hr (by decide) (fun t ht hW => by rw [← Option.some.inj hf]; exact ⟨⟨(1 : Int32), (), rfl, rfl, by rw [ht]; exact hP, va_K.moved hW.alike hK, hD⟩, hS.F ht⟩) hS.2.2 dX11_life_43
    · replace hf := wb_t hc hf
      refine lv_iconst (v := (0 : Int32)) hx hb dX11_life_30 (by decide) ?_
      exact W.zret (v := (0 : Int32)) hx hb hr (by decide) (fun t ht hW => by rw [← Option.some.inj hf]; exact ⟨⟨(0 : Int32), (), rfl, rfl, by rw [ht]; exact hP, va_K.moved hW.alike hK, hD⟩, hS.F ht⟩) hS.2.2 dX11_life_31
set_option maxHeartbeats 4000000 in
set_option maxRecDepth 100000 in
theorem ct_X11_life (l : Launch) (hlt : l.stackTraces = false) (D : va_G) (cB cI cZ : ClassId) (N : Nat) (a0 : Nat → Nat) (I0 : Nat → Int32) (M0 : Nat → Nat → Int32) (x1 : Int32) (x2 : Int32) (x3 : Int32) (sz k : Nat) (hf : fX11_life N I0 M0 x1 x2 x3 = some (.inl k)) : vx_Met l yX11_life wyX11_life ({ frames := 7, cells := 1, slots := 6, locals := 140 }) (va_Pc [.ref (a0 0), .int x1, .int x2, .int x3] (wb_preX D [(cB, .byte), (cI, .int), (cZ, .boolean)] (wWX11 cB cI cZ a0 I0 M0) sz)) (va_Qi (fun _ (_ : Unit) => False) (fun _ _ => True) (fun q => sz ≤ q)) (vx_X (fun _ : Unit => True) (fun E _ _ => E = wb_ex k) (fun q => sz ≤ q)) 1 6 (fun q => sz ≤ q) := by
  refine vx_ofW (cc := cX11_life) (maxL := 4) (ret := (some .boolean)) (by decide) rfl ?_
  intro p e s m args below meth c s₁ B hml htab hv
  obtain ⟨rfl, hsz, hP, hK, hX⟩ := hv
  subst hsz
  have hx := B.exec
  have hb := B.bytes
  have hr := B.returns
  have hts := atoms_spec (ws := wyX11_life) B.pre
  have hown : s.vm.findClass RX11 = some m.cls := (findClass_of_methodNamed B.named :)
  have hlocks := B.notSynchronized
  have hS : va_S (fun q => s.heap.size ≤ q) s.heap s.heap [] := va_S.rf
  have hl := lv_entry ([.ref (a0 0), .int x1, .int x2, .int x3]) (n := 4) (Nat.le_of_ble_eq_true rfl)
  rw [lg_entry_eq]
  generalize (lg_sl ([.ref (a0 0), .int x1, .int x2, .int x3]) ++ List.replicate (4 - (lg_sl ([.ref (a0 0), .int x1, .int x2, .int x3])).length) Slot.unset).toArray = ls at hl ⊢
  have hl : lv_has ls 4 [(0, .ref (a0 0)), (1, .int x1), (2, .int x2), (3, .int x3)] := hl
  unfold fX11_life at hf
  refine lv_iload_n hx hb dX11_life_0 rfl (lv_at hl 1 rfl) ?_
  refine lv_iconst (v := (0 : Int32)) hx hb dX11_life_1 (by decide) ?_
  refine lv_bipush (v := (19 : Int32)) hx hb dX11_life_2 (by decide) ?_
  obtain ⟨r1, hr1, hf⟩ := wb_b hf
  refine vp_callSi (W.runS (As := [.int x1, .int (0 : Int32), .int (19 : Int32)]) (rest := []) ⟨hx, hb, hml, hown, hts⟩ (cn_X11_within l D cB cI cZ N x1 (0 : Int32) (19 : Int32) r1 hr1) (va_cwS 3 hts gyX11_life_X11_within rfl rfl rfl csX11_within ⟨Nat.le_of_ble_eq_true rfl, Nat.le_of_ble_eq_true rfl⟩) (wb_preS (hP.sub (ws' := ([] : va_W)) [] rfl) hK) rfl rfl hl.1 rfl (lv_room (Nat.le_of_ble_eq_true rfl)) dX11_life_4 ⟨Nat.le_of_ble_eq_true rfl, Nat.le_of_ble_eq_true rfl⟩) (fun r9 e9 => ?_)
  rw [e9]
  rcases wb_xt hf with hrx | ⟨r2, hr2, hf⟩
  · refine vx_callv (vx_runS (As := [.int r1]) (rest := []) ⟨hx, hb, hml, hown, hts⟩ (ct_X11_need l hlt D cB cI cZ N r1 s.heap.size k hrx) (va_cwS 1 hts gyX11_life_X11_need rfl rfl rfl csX11_need ⟨Nat.le_of_ble_eq_true rfl, Nat.le_of_ble_eq_true rfl⟩) (wb_preXS (hP.sub (ws' := ([] : va_W)) [] rfl) hK hX) rfl rfl hl.1 rfl (lv_room (Nat.le_of_ble_eq_true rfl)) dX11_life_7 ⟨Nat.le_of_ble_eq_true rfl, Nat.le_of_ble_eq_true rfl⟩) hS (fun q _ h => h) (fun _ h => h) (fun q _ h => h) (fun E ce q9 u t H locs ht hvm hpx hB hz1 hk1 hS hq9 hv9 hc9 => ?_) (fun u t H locs ht hvm hw hB hz1 hk1 hS => hw.elim)
    exact vx_out (fun x hx9 => (htab x hx9).elim) hlocks hq9 hv9 hc9 (fun t9 ht9 hvm9 => ⟨(), trivial, hB, hS.F ht9⟩) hS.2.2 (Nat.le_of_ble_eq_true rfl) (Nat.le_of_ble_eq_true rfl)
  refine va_csv (W.runS (As := [.int r1]) (rest := []) ⟨hx, hb, hml, hown, hts⟩ (cn_X11_need l D cB cI cZ N r1 r2 hr2) (va_cwS 1 hts gyX11_life_X11_need rfl rfl rfl csX11_need ⟨Nat.le_of_ble_eq_true rfl, Nat.le_of_ble_eq_true rfl⟩) (wb_preS (hP.sub (ws' := ([] : va_W)) [] rfl) hK) rfl rfl hl.1 rfl (lv_room (Nat.le_of_ble_eq_true rfl)) dX11_life_7 ⟨Nat.le_of_ble_eq_true rfl, Nat.le_of_ble_eq_true rfl⟩) (fun _ => ?_)
  exact absurd hf wb_okn

set_option maxHeartbeats 4000000 in
set_option maxRecDepth 100000 in
theorem cn_X11_fate (l : Launch) (D : va_G) (cB cI cZ : ClassId) (N : Nat) (a0 : Nat → Nat) (I0 : Nat → Int32) (M0 : Nat → Nat → Int32) (x1 : Int32) (x2 : Int32) (sz : Nat) (R : Int32 × (Nat → Int32) × (Nat → Nat → Int32)) (hf : fX11_fate N I0 M0 x1 x2 = some (.inr R)) : Met l yX11_fate wyX11_fate ({ frames := 7, cells := 0, slots := 0, locals := 140 }) (va_Pc [.ref (a0 0), .int x1, .int x2] (wb_preD D [(cB, .byte), (cI, .int), (cZ, .boolean)] (wWX11 cB cI cZ a0 I0 M0) sz)) (va_Qi (fun r (_ : Unit) => r = R.1) (fun _ t => wb_post D [(cB, .byte), (cI, .int), (cZ, .boolean)] (va_A (wWX11 cB cI cZ a0 I0 M0) sz) (wWX11 cB cI cZ a0 R.2.1 R.2.2) t) (va_A (wWX11 cB cI cZ a0 I0 M0) sz)) 0 0 (va_A (wWX11 cB cI cZ a0 I0 M0) sz) := by
  refine Met.ofW (cc := cX11_fate) (maxL := 3) (ret := (some .boolean)) pn_X11 rfl ?_
  intro p e s m args below meth c s₁ B hml hv
  obtain ⟨rfl, hsz, hP, hK, hD0⟩ := hv
  have hx := B.exec
  have hb := B.bytes
  have hr := B.returns
  have hts := atoms_spec (ws := wyX11_fate) B.pre
  have hown : s.vm.findClass RX11 = some m.cls := (findClass_of_methodNamed B.named :)
  have hlocks := B.notSynchronized
  have hinX11 : ∀ w ∈ u_ws RX11 TX11 13, w ∈ wyX11_fate := fun w h => List.mem_cons_of_mem _ (List.mem_append_left _ (List.mem_append_left _ (List.mem_append_right _ h)))
  subst hsz
  have hD := hD0.self (sz := s.heap.size)
  generalize hAe : va_A (wWX11 cB cI cZ a0 I0 M0) s.heap.size = A at hD ⊢
  have hA : ∀ q : Nat, s.heap.size ≤ q → A q := fun q h => by rw [← hAe]; exact Or.inr h
  have hS : va_S A s.heap s.heap [] := va_S.rf
  have hl := lv_entry ([.ref (a0 0), .int x1, .int x2]) (n := 3) (Nat.le_of_ble_eq_true rfl)
  rw [lg_entry_eq]
  generalize (lg_sl ([.ref (a0 0), .int x1, .int x2]) ++ List.replicate (3 - (lg_sl ([.ref (a0 0), .int x1, .int x2])).length) Slot.unset).toArray = ls at hl ⊢
  have hl : lv_has ls 3 [(0, .ref (a0 0)), (1, .int x1), (2, .int x2)] := hl
  unfold fX11_fate at hf
  obtain ⟨H, hHe⟩ : ∃ H : Heap, H = s.heap := ⟨_, rfl⟩
  obtain ⟨locs, hle⟩ : ∃ locs : List Loc, locs = [] := ⟨_, rfl⟩
  refine wb_start (H := H) (locs := locs) hHe hle ?_
  rw [← hHe] at hP
  have hS : va_S A s.heap H locs := by rw [hHe, hle]; exact va_S.rf
  refine lv_iload_n hx hb dX11_fate_0 rfl (lv_at hl 1 rfl) ?_
  refine lv_iconst (v := (0 : Int32)) hx hb dX11_fate_1 (by decide) ?_
  refine lv_bipush (v := (19 : Int32)) hx hb dX11_fate_2 (by decide) ?_
  obtain ⟨r1, hr1, hf⟩ := wb_b hf
  refine vp_callSi (W.runS (As := [.int x1, .int (0 : Int32), .int (19 : Int32)]) (rest := []) ⟨hx, hb, hml, hown, hts⟩ (cn_X11_within l D cB cI cZ N x1 (0 : Int32) (19 : Int32) r1 hr1) (va_cwS 3 hts gyX11_fate_X11_within rfl rfl rfl csX11_within ⟨Nat.le_of_ble_eq_true rfl, Nat.le_of_ble_eq_true rfl⟩) (wb_preS (hP.sub (ws' := ([] : va_W)) [] rfl) hK) rfl rfl hl.1 rfl (lv_room (Nat.le_of_ble_eq_true rfl)) dX11_fate_4 ⟨Nat.le_of_ble_eq_true rfl, Nat.le_of_ble_eq_true rfl⟩) (fun r9 e9 => ?_)
  rw [e9]
  obtain ⟨r2, hr2, hf⟩ := wb_xr hf
  refine va_csv (W.runS (As := [.int r1]) (rest := []) ⟨hx, hb, hml, hown, hts⟩ (cn_X11_need l D cB cI cZ N r1 r2 hr2) (va_cwS 1 hts gyX11_fate_X11_need rfl rfl rfl csX11_need ⟨Nat.le_of_ble_eq_true rfl, Nat.le_of_ble_eq_true rfl⟩) (wb_preS (hP.sub (ws' := ([] : va_W)) [] rfl) hK) rfl rfl hl.1 rfl (lv_room (Nat.le_of_ble_eq_true rfl)) dX11_fate_7 ⟨Nat.le_of_ble_eq_true rfl, Nat.le_of_ble_eq_true rfl⟩) (fun _ => ?_)
  replace hf := wb_okr hf
  refine lv_iload_n hx hb dX11_fate_10 rfl (lv_at hl 2 rfl) ?_
  refine lv_iconst (v := (1 : Int32)) hx hb dX11_fate_11 (by decide) ?_
  refine lv_bipush (v := (12 : Int32)) hx hb dX11_fate_12 (by decide) ?_
  obtain ⟨r3, hr3, hf⟩ := wb_b hf
  refine vp_callSi (W.runS (As := [.int x2, .int (1 : Int32), .int (12 : Int32)]) (rest := []) ⟨hx, hb, hml, hown, hts⟩ (cn_X11_within l D cB cI cZ N x2 (1 : Int32) (12 : Int32) r3 hr3) (va_cwS 3 hts gyX11_fate_X11_within rfl rfl rfl csX11_within ⟨Nat.le_of_ble_eq_true rfl, Nat.le_of_ble_eq_true rfl⟩) (wb_preS (hP.sub (ws' := ([] : va_W)) [] rfl) hK) rfl rfl hl.1 rfl (lv_room (Nat.le_of_ble_eq_true rfl)) dX11_fate_14 ⟨Nat.le_of_ble_eq_true rfl, Nat.le_of_ble_eq_true rfl⟩) (fun r9 e9 => ?_)
  rw [e9]
  refine lv_if_ne (tgt := 22) hx hb dX11_fate_17 (by decide) (fun hc => ?_) (fun hc => ?_)
  · replace hf := wb_f hc hf
    refine lv_aload_n hx hb dX11_fate_22 rfl (lv_at hl 0 rfl) ?_
    refine va_get (D := D) (ci := 11) (v := .ref (a0 45)) (C := RX11) (T := TX11) (N := 13) hx hb hts hinX11 hown hK hP 0 rfl rfl 12 (by decide) (hts (.fieldLink RX11 80 "WheelBook" "outcomes" "LWheelBook$Outcomes;") (List.mem_of_getElem? (i := 1) rfl)) (fun _ h9 => h9) rfl dX11_fate_23 ?_
    refine lv_iload_n hx hb dX11_fate_26 rfl (lv_at hl 1 rfl) ?_
    refine lv_iload_n hx hb dX11_fate_27 rfl (lv_at hl 2 rfl) ?_
    obtain ⟨r4, hr4, hf⟩ := wb_b hf
    have hPc := hP.sub (ws' := (wWX7 cB cI cZ (wb_sh a0 45) (wb_sh I0 43) (wb_sh M0 28))) [45, 46, 47, 48, 49, 50, 51] rfl
    have hDc := hD.sub (ws' := (wWX7 cB cI cZ (wb_sh a0 45) (wb_sh I0 43) (wb_sh M0 28))) [45, 46, 47, 48, 49, 50, 51] (by decide) rfl
    have hFc := va_free (wc := (wWX7 cB cI cZ (wb_sh a0 45) (wb_sh I0 43) (wb_sh M0 28))) hD hS hA [45, 46, 47, 48, 49, 50, 51] rfl
    refine va_callv (va_runV (As := [.int x1, .int x2]) (rest := []) ⟨hx, hb, hml, hown, hts⟩ (cn_X7_tellFate l D cB cI cZ N (wb_sh a0 45) (wb_sh I0 43) (wb_sh M0 28) x1 x2 H.size r4 hr4) (cwV 2 hts gyX11_fate_X7_tellFate rfl rfl rfl cdX7_tellFate ⟨Nat.le_of_ble_eq_true rfl, Nat.le_of_ble_eq_true rfl⟩) (wb_preDV hPc hK hDc (wr_7 hK hP (q0 := 45) rfl)) rfl rfl hl.1 rfl (lv_room (Nat.le_of_ble_eq_true rfl)) dX11_fate_28 ⟨Nat.le_of_ble_eq_true rfl, Nat.le_of_ble_eq_true rfl⟩) hS (fun q _ h => hFc q h) hFc (fun u t H locs ht hvm hw hB hz1 hk1 hS => ?_)
    obtain ⟨hP, hD⟩ := wj_s (wc := (wWX7 cB cI cZ (wb_sh a0 45) (wb_sh I0 43) (wb_sh M0 28))) (w1 := (wWX7 cB cI cZ (wb_sh a0 45) r4.1 r4.2)) (wf := (wWX11 cB cI cZ a0 (wb_in I0 43 0 r4.1) (wb_in M0 28 6 r4.2))) 45 52 hP hD rfl rfl hk1 hFc ht hB
    obtain ⟨I0_5, eI0_5, hf⟩ := wb_v hf
    rw [← eI0_5] at hP hD
    obtain ⟨M0_6, eM0_6, hf⟩ := wb_v hf
    rw [← eM0_6] at hP hD
    refine lv_iconst (v := (1 : Int32)) hx hb dX11_fate_31 (by decide) ?_
    exact W.zret (v := (1 : Int32)) hx hb hr (by decide) (fun t ht hW => by rw [← Option.some.inj hf]; exact ⟨⟨(1 : Int32), (), rfl, rfl, by rw [ht]; exact hP, va_K.moved hW.alike hK, hD⟩, hS.F ht⟩) hS.2.2 dX11_fate_32
  · replace hf := wb_t hc hf
    refine lv_iconst (v := (0 : Int32)) hx hb dX11_fate_20 (by decide) ?_
    exact W.zret (v := (0 : Int32)) hx hb hr (by decide) (fun t ht hW => by rw [← Option.some.inj hf]; exact ⟨⟨(0 : Int32), (), rfl, rfl, by rw [ht]; exact hP, va_K.moved hW.alike hK, hD⟩, hS.F ht⟩) hS.2.2 dX11_fate_21
set_option maxHeartbeats 4000000 in
set_option maxRecDepth 100000 in
theorem ct_X11_fate (l : Launch) (hlt : l.stackTraces = false) (D : va_G) (cB cI cZ : ClassId) (N : Nat) (a0 : Nat → Nat) (I0 : Nat → Int32) (M0 : Nat → Nat → Int32) (x1 : Int32) (x2 : Int32) (sz k : Nat) (hf : fX11_fate N I0 M0 x1 x2 = some (.inl k)) : vx_Met l yX11_fate wyX11_fate ({ frames := 7, cells := 1, slots := 6, locals := 140 }) (va_Pc [.ref (a0 0), .int x1, .int x2] (wb_preX D [(cB, .byte), (cI, .int), (cZ, .boolean)] (wWX11 cB cI cZ a0 I0 M0) sz)) (va_Qi (fun _ (_ : Unit) => False) (fun _ _ => True) (fun q => sz ≤ q)) (vx_X (fun _ : Unit => True) (fun E _ _ => E = wb_ex k) (fun q => sz ≤ q)) 1 6 (fun q => sz ≤ q) := by
  refine vx_ofW (cc := cX11_fate) (maxL := 3) (ret := (some .boolean)) (by decide) rfl ?_
  intro p e s m args below meth c s₁ B hml htab hv
  obtain ⟨rfl, hsz, hP, hK, hX⟩ := hv
  subst hsz
  have hx := B.exec
  have hb := B.bytes
  have hr := B.returns
  have hts := atoms_spec (ws := wyX11_fate) B.pre
  have hown : s.vm.findClass RX11 = some m.cls := (findClass_of_methodNamed B.named :)
  have hlocks := B.notSynchronized
  have hS : va_S (fun q => s.heap.size ≤ q) s.heap s.heap [] := va_S.rf
  have hl := lv_entry ([.ref (a0 0), .int x1, .int x2]) (n := 3) (Nat.le_of_ble_eq_true rfl)
  rw [lg_entry_eq]
  generalize (lg_sl ([.ref (a0 0), .int x1, .int x2]) ++ List.replicate (3 - (lg_sl ([.ref (a0 0), .int x1, .int x2])).length) Slot.unset).toArray = ls at hl ⊢
  have hl : lv_has ls 3 [(0, .ref (a0 0)), (1, .int x1), (2, .int x2)] := hl
  unfold fX11_fate at hf
  refine lv_iload_n hx hb dX11_fate_0 rfl (lv_at hl 1 rfl) ?_
  refine lv_iconst (v := (0 : Int32)) hx hb dX11_fate_1 (by decide) ?_
  refine lv_bipush (v := (19 : Int32)) hx hb dX11_fate_2 (by decide) ?_
  obtain ⟨r1, hr1, hf⟩ := wb_b hf
  refine vp_callSi (W.runS (As := [.int x1, .int (0 : Int32), .int (19 : Int32)]) (rest := []) ⟨hx, hb, hml, hown, hts⟩ (cn_X11_within l D cB cI cZ N x1 (0 : Int32) (19 : Int32) r1 hr1) (va_cwS 3 hts gyX11_fate_X11_within rfl rfl rfl csX11_within ⟨Nat.le_of_ble_eq_true rfl, Nat.le_of_ble_eq_true rfl⟩) (wb_preS (hP.sub (ws' := ([] : va_W)) [] rfl) hK) rfl rfl hl.1 rfl (lv_room (Nat.le_of_ble_eq_true rfl)) dX11_fate_4 ⟨Nat.le_of_ble_eq_true rfl, Nat.le_of_ble_eq_true rfl⟩) (fun r9 e9 => ?_)
  rw [e9]
  rcases wb_xt hf with hrx | ⟨r2, hr2, hf⟩
  · refine vx_callv (vx_runS (As := [.int r1]) (rest := []) ⟨hx, hb, hml, hown, hts⟩ (ct_X11_need l hlt D cB cI cZ N r1 s.heap.size k hrx) (va_cwS 1 hts gyX11_fate_X11_need rfl rfl rfl csX11_need ⟨Nat.le_of_ble_eq_true rfl, Nat.le_of_ble_eq_true rfl⟩) (wb_preXS (hP.sub (ws' := ([] : va_W)) [] rfl) hK hX) rfl rfl hl.1 rfl (lv_room (Nat.le_of_ble_eq_true rfl)) dX11_fate_7 ⟨Nat.le_of_ble_eq_true rfl, Nat.le_of_ble_eq_true rfl⟩) hS (fun q _ h => h) (fun _ h => h) (fun q _ h => h) (fun E ce q9 u t H locs ht hvm hpx hB hz1 hk1 hS hq9 hv9 hc9 => ?_) (fun u t H locs ht hvm hw hB hz1 hk1 hS => hw.elim)
    exact vx_out (fun x hx9 => (htab x hx9).elim) hlocks hq9 hv9 hc9 (fun t9 ht9 hvm9 => ⟨(), trivial, hB, hS.F ht9⟩) hS.2.2 (Nat.le_of_ble_eq_true rfl) (Nat.le_of_ble_eq_true rfl)
  refine va_csv (W.runS (As := [.int r1]) (rest := []) ⟨hx, hb, hml, hown, hts⟩ (cn_X11_need l D cB cI cZ N r1 r2 hr2) (va_cwS 1 hts gyX11_fate_X11_need rfl rfl rfl csX11_need ⟨Nat.le_of_ble_eq_true rfl, Nat.le_of_ble_eq_true rfl⟩) (wb_preS (hP.sub (ws' := ([] : va_W)) [] rfl) hK) rfl rfl hl.1 rfl (lv_room (Nat.le_of_ble_eq_true rfl)) dX11_fate_7 ⟨Nat.le_of_ble_eq_true rfl, Nat.le_of_ble_eq_true rfl⟩) (fun _ => ?_)
  exact absurd hf wb_okn

set_option maxHeartbeats 4000000 in
set_option maxRecDepth 100000 in
theorem cn_X11_fates (l : Launch) (D : va_G) (cB cI cZ : ClassId) (N : Nat) (a0 : Nat → Nat) (I0 : Nat → Int32) (M0 : Nat → Nat → Int32) (x1 : Int32) (sz : Nat) (R : Int32 × (Nat → Int32) × (Nat → Nat → Int32)) (hf : fX11_fates N I0 M0 x1 = some (.inr R)) : Met l yX11_fates wyX11_fates ({ frames := 7, cells := 0, slots := 0, locals := 140 }) (va_Pc [.ref (a0 0), .int x1] (wb_preD D [(cB, .byte), (cI, .int), (cZ, .boolean)] (wWX11 cB cI cZ a0 I0 M0) sz)) (va_Qi (fun r (_ : Unit) => r = R.1) (fun _ t => wb_post D [(cB, .byte), (cI, .int), (cZ, .boolean)] (va_A (wWX11 cB cI cZ a0 I0 M0) sz) (wWX11 cB cI cZ a0 R.2.1 R.2.2) t) (va_A (wWX11 cB cI cZ a0 I0 M0) sz)) 0 0 (va_A (wWX11 cB cI cZ a0 I0 M0) sz) := by
  refine Met.ofW (cc := cX11_fates) (maxL := 2) (ret := (some .int)) pn_X11 rfl ?_
  intro p e s m args below meth c s₁ B hml hv
  obtain ⟨rfl, hsz, hP, hK, hD0⟩ := hv
  have hx := B.exec
  have hb := B.bytes
  have hr := B.returns
  have hts := atoms_spec (ws := wyX11_fates) B.pre
  have hown : s.vm.findClass RX11 = some m.cls := (findClass_of_methodNamed B.named :)
  have hlocks := B.notSynchronized
  have hinX11 : ∀ w ∈ u_ws RX11 TX11 13, w ∈ wyX11_fates := fun w h => List.mem_cons_of_mem _ (List.mem_append_left _ (List.mem_append_left _ (List.mem_append_left _ (List.mem_append_right _ h))))
  subst hsz
  have hD := hD0.self (sz := s.heap.size)
  generalize hAe : va_A (wWX11 cB cI cZ a0 I0 M0) s.heap.size = A at hD ⊢
  have hA : ∀ q : Nat, s.heap.size ≤ q → A q := fun q h => by rw [← hAe]; exact Or.inr h
  have hS : va_S A s.heap s.heap [] := va_S.rf
  have hl := lv_entry ([.ref (a0 0), .int x1]) (n := 2) (Nat.le_of_ble_eq_true rfl)
  rw [lg_entry_eq]
  generalize (lg_sl ([.ref (a0 0), .int x1]) ++ List.replicate (2 - (lg_sl ([.ref (a0 0), .int x1])).length) Slot.unset).toArray = ls at hl ⊢
  have hl : lv_has ls 2 [(0, .ref (a0 0)), (1, .int x1)] := hl
  unfold fX11_fates at hf
  obtain ⟨H, hHe⟩ : ∃ H : Heap, H = s.heap := ⟨_, rfl⟩
  obtain ⟨locs, hle⟩ : ∃ locs : List Loc, locs = [] := ⟨_, rfl⟩
  refine wb_start (H := H) (locs := locs) hHe hle ?_
  rw [← hHe] at hP
  have hS : va_S A s.heap H locs := by rw [hHe, hle]; exact va_S.rf
  refine lv_iload_n hx hb dX11_fates_0 rfl (lv_at hl 1 rfl) ?_
  refine lv_iconst (v := (0 : Int32)) hx hb dX11_fates_1 (by decide) ?_
  refine lv_iconst (v := (1 : Int32)) hx hb dX11_fates_2 (by decide) ?_
  obtain ⟨r1, hr1, hf⟩ := wb_b hf
  refine vp_callSi (W.runS (As := [.int x1, .int (0 : Int32), .int (1 : Int32)]) (rest := []) ⟨hx, hb, hml, hown, hts⟩ (cn_X11_within l D cB cI cZ N x1 (0 : Int32) (1 : Int32) r1 hr1) (va_cwS 3 hts gyX11_fates_X11_within rfl rfl rfl csX11_within ⟨Nat.le_of_ble_eq_true rfl, Nat.le_of_ble_eq_true rfl⟩) (wb_preS (hP.sub (ws' := ([] : va_W)) [] rfl) hK) rfl rfl hl.1 rfl (lv_room (Nat.le_of_ble_eq_true rfl)) dX11_fates_3 ⟨Nat.le_of_ble_eq_true rfl, Nat.le_of_ble_eq_true rfl⟩) (fun r9 e9 => ?_)
  rw [e9]
  obtain ⟨r2, hr2, hf⟩ := wb_xr hf
  refine va_csv (W.runS (As := [.int r1]) (rest := []) ⟨hx, hb, hml, hown, hts⟩ (cn_X11_need l D cB cI cZ N r1 r2 hr2) (va_cwS 1 hts gyX11_fates_X11_need rfl rfl rfl csX11_need ⟨Nat.le_of_ble_eq_true rfl, Nat.le_of_ble_eq_true rfl⟩) (wb_preS (hP.sub (ws' := ([] : va_W)) [] rfl) hK) rfl rfl hl.1 rfl (lv_room (Nat.le_of_ble_eq_true rfl)) dX11_fates_6 ⟨Nat.le_of_ble_eq_true rfl, Nat.le_of_ble_eq_true rfl⟩) (fun _ => ?_)
  replace hf := wb_okr hf
  refine lv_iload_n hx hb dX11_fates_9 rfl (lv_at hl 1 rfl) ?_
  refine lv_if_ne (tgt := 27) hx hb dX11_fates_10 (by decide) (fun hc => ?_) (fun hc => ?_)
  · replace hf := wb_f hc hf
    refine lv_aload_n hx hb dX11_fates_27 rfl (lv_at hl 0 rfl) ?_
    refine va_get (D := D) (ci := 11) (v := .ref (a0 45)) (C := RX11) (T := TX11) (N := 13) hx hb hts hinX11 hown hK hP 0 rfl rfl 12 (by decide) (hts (.fieldLink RX11 80 "WheelBook" "outcomes" "LWheelBook$Outcomes;") (List.mem_of_getElem? (i := 1) rfl)) (fun _ h9 => h9) rfl dX11_fates_28 ?_
    refine lv_aload_n hx hb dX11_fates_31 rfl (lv_at hl 0 rfl) ?_
    refine va_get (D := D) (ci := 11) (v := .ref (a0 21)) (C := RX11) (T := TX11) (N := 13) hx hb hts hinX11 hown hK hP 0 rfl rfl 3 (by decide) (hts (.fieldLink RX11 29 "WheelBook" "books" "LWheelBook$Books;") (List.mem_of_getElem? (i := 2) rfl)) (fun _ h9 => h9) rfl dX11_fates_32 ?_
    obtain ⟨r3, hr3, hf⟩ := wb_b hf
    have hPc := hP.sub (ws' := ((wWX7 cB cI cZ (wb_sh a0 45) (wb_sh I0 43) (wb_sh M0 28)) ++ (wWX1 cB cI cZ (wb_sh a0 21) (wb_sh I0 13) (wb_sh M0 13)))) [45, 46, 47, 48, 49, 50, 51, 21, 22, 23] rfl
    have hDc := hD.sub (ws' := ((wWX7 cB cI cZ (wb_sh a0 45) (wb_sh I0 43) (wb_sh M0 28)) ++ (wWX1 cB cI cZ (wb_sh a0 21) (wb_sh I0 13) (wb_sh M0 13)))) [45, 46, 47, 48, 49, 50, 51, 21, 22, 23] (by decide) rfl
    have hFc := va_free (wc := ((wWX7 cB cI cZ (wb_sh a0 45) (wb_sh I0 43) (wb_sh M0 28)) ++ (wWX1 cB cI cZ (wb_sh a0 21) (wb_sh I0 13) (wb_sh M0 13)))) hD hS hA [45, 46, 47, 48, 49, 50, 51, 21, 22, 23] rfl
    refine va_calli (va_runV (As := [.ref (a0 21)]) (rest := []) ⟨hx, hb, hml, hown, hts⟩ (cn_X7_chanceOfFates l D cB cI cZ N (wb_sh a0 45) (wb_sh I0 43) (wb_sh M0 28) (wb_sh a0 21) (wb_sh I0 13) (wb_sh M0 13) H.size r3 hr3) (cwV 1 hts gyX11_fates_X7_chanceOfFates rfl rfl rfl cdX7_chanceOfFates ⟨Nat.le_of_ble_eq_true rfl, Nat.le_of_ble_eq_true rfl⟩) (wb_preDV hPc hK hDc (wr_7 hK hP (q0 := 45) rfl)) rfl rfl hl.1 rfl (lv_room (Nat.le_of_ble_eq_true rfl)) dX11_fates_35 ⟨Nat.le_of_ble_eq_true rfl, Nat.le_of_ble_eq_true rfl⟩) hS (fun q _ h => hFc q h) hFc (fun r9 u t H locs ht hvm hw hB hz1 hk1 hS => ?_)
    obtain ⟨hP, hD⟩ := wj_ba (a := (wWX1 cB cI cZ (wb_sh a0 21) (wb_sh I0 13) (wb_sh M0 13))) (b := (wWX7 cB cI cZ (wb_sh a0 45) (wb_sh I0 43) (wb_sh M0 28))) (a' := (wWX1 cB cI cZ (wb_sh a0 21) (wb_sh I0 13) (wb_sh M0 13))) (b' := (wWX7 cB cI cZ (wb_sh a0 45) r3.2.1 r3.2.2)) (wf := (wWX11 cB cI cZ a0 (wb_in I0 43 0 r3.2.1) (wb_in M0 28 6 r3.2.2))) 21 24 21 52 hP hD rfl rfl hk1 hFc ht hB
    rw [hw]
    obtain ⟨I0_4, eI0_4, hf⟩ := wb_v hf
    rw [← eI0_4] at hP hD
    obtain ⟨M0_5, eM0_5, hf⟩ := wb_v hf
    rw [← eM0_5] at hP hD
    exact W.iret (v := r3.1) hx hb hr (fun t ht hW => by rw [← Option.some.inj hf]; exact ⟨⟨r3.1, (), rfl, rfl, by rw [ht]; exact hP, va_K.moved hW.alike hK, hD⟩, hS.F ht⟩) hS.2.2 dX11_fates_38
  · replace hf := wb_t hc hf
    refine lv_aload_n hx hb dX11_fates_13 rfl (lv_at hl 0 rfl) ?_
    refine va_get (D := D) (ci := 11) (v := .ref (a0 45)) (C := RX11) (T := TX11) (N := 13) hx hb hts hinX11 hown hK hP 0 rfl rfl 12 (by decide) (hts (.fieldLink RX11 80 "WheelBook" "outcomes" "LWheelBook$Outcomes;") (List.mem_of_getElem? (i := 1) rfl)) (fun _ h9 => h9) rfl dX11_fates_14 ?_
    refine lv_aload_n hx hb dX11_fates_17 rfl (lv_at hl 0 rfl) ?_
    refine va_get (D := D) (ci := 11) (v := .ref (a0 21)) (C := RX11) (T := TX11) (N := 13) hx hb hts hinX11 hown hK hP 0 rfl rfl 3 (by decide) (hts (.fieldLink RX11 29 "WheelBook" "books" "LWheelBook$Books;") (List.mem_of_getElem? (i := 2) rfl)) (fun _ h9 => h9) rfl dX11_fates_18 ?_
    obtain ⟨r6, hr6, hf⟩ := wb_b hf
    have hPc := hP.sub (ws' := ((wWX7 cB cI cZ (wb_sh a0 45) (wb_sh I0 43) (wb_sh M0 28)) ++ (wWX1 cB cI cZ (wb_sh a0 21) (wb_sh I0 13) (wb_sh M0 13)))) [45, 46, 47, 48, 49, 50, 51, 21, 22, 23] rfl
    have hDc := hD.sub (ws' := ((wWX7 cB cI cZ (wb_sh a0 45) (wb_sh I0 43) (wb_sh M0 28)) ++ (wWX1 cB cI cZ (wb_sh a0 21) (wb_sh I0 13) (wb_sh M0 13)))) [45, 46, 47, 48, 49, 50, 51, 21, 22, 23] (by decide) rfl
    have hFc := va_free (wc := ((wWX7 cB cI cZ (wb_sh a0 45) (wb_sh I0 43) (wb_sh M0 28)) ++ (wWX1 cB cI cZ (wb_sh a0 21) (wb_sh I0 13) (wb_sh M0 13)))) hD hS hA [45, 46, 47, 48, 49, 50, 51, 21, 22, 23] rfl
    refine va_calli (va_runV (As := [.ref (a0 21)]) (rest := []) ⟨hx, hb, hml, hown, hts⟩ (cn_X7_howManyToldByLot l D cB cI cZ N (wb_sh a0 45) (wb_sh I0 43) (wb_sh M0 28) (wb_sh a0 21) (wb_sh I0 13) (wb_sh M0 13) H.size r6 hr6) (cwV 1 hts gyX11_fates_X7_howManyToldByLot rfl rfl rfl cdX7_howManyToldByLot ⟨Nat.le_of_ble_eq_true rfl, Nat.le_of_ble_eq_true rfl⟩) (wb_preDV hPc hK hDc (wr_7 hK hP (q0 := 45) rfl)) rfl rfl hl.1 rfl (lv_room (Nat.le_of_ble_eq_true rfl)) dX11_fates_21 ⟨Nat.le_of_ble_eq_true rfl, Nat.le_of_ble_eq_true rfl⟩) hS (fun q _ h => hFc q h) hFc (fun r9 u t H locs ht hvm hw hB hz1 hk1 hS => ?_)
    obtain ⟨hP, hD⟩ := wj_ba (a := (wWX1 cB cI cZ (wb_sh a0 21) (wb_sh I0 13) (wb_sh M0 13))) (b := (wWX7 cB cI cZ (wb_sh a0 45) (wb_sh I0 43) (wb_sh M0 28))) (a' := (wWX1 cB cI cZ (wb_sh a0 21) (wb_sh I0 13) (wb_sh M0 13))) (b' := (wWX7 cB cI cZ (wb_sh a0 45) r6.2.1 r6.2.2)) (wf := (wWX11 cB cI cZ a0 (wb_in I0 43 0 r6.2.1) (wb_in M0 28 6 r6.2.2))) 21 24 21 52 hP hD rfl rfl hk1 hFc ht hB
    rw [hw]
    obtain ⟨I0_7, eI0_7, hf⟩ := wb_v hf
    rw [← eI0_7] at hP hD
    obtain ⟨M0_8, eM0_8, hf⟩ := wb_v hf
    rw [← eM0_8] at hP hD
    refine lv_goto (tgt := 38) hx hb dX11_fates_24 (by decide) ?_
    exact W.iret (v := r6.1) hx hb hr (fun t ht hW => by rw [← Option.some.inj hf]; exact ⟨⟨r6.1, (), rfl, rfl, by rw [ht]; exact hP, va_K.moved hW.alike hK, hD⟩, hS.F ht⟩) hS.2.2 dX11_fates_38
set_option maxHeartbeats 4000000 in
set_option maxRecDepth 100000 in
theorem ct_X11_fates (l : Launch) (hlt : l.stackTraces = false) (D : va_G) (cB cI cZ : ClassId) (N : Nat) (a0 : Nat → Nat) (I0 : Nat → Int32) (M0 : Nat → Nat → Int32) (x1 : Int32) (sz k : Nat) (hf : fX11_fates N I0 M0 x1 = some (.inl k)) : vx_Met l yX11_fates wyX11_fates ({ frames := 7, cells := 1, slots := 6, locals := 140 }) (va_Pc [.ref (a0 0), .int x1] (wb_preX D [(cB, .byte), (cI, .int), (cZ, .boolean)] (wWX11 cB cI cZ a0 I0 M0) sz)) (va_Qi (fun _ (_ : Unit) => False) (fun _ _ => True) (fun q => sz ≤ q)) (vx_X (fun _ : Unit => True) (fun E _ _ => E = wb_ex k) (fun q => sz ≤ q)) 1 6 (fun q => sz ≤ q) := by
  refine vx_ofW (cc := cX11_fates) (maxL := 2) (ret := (some .int)) (by decide) rfl ?_
  intro p e s m args below meth c s₁ B hml htab hv
  obtain ⟨rfl, hsz, hP, hK, hX⟩ := hv
  subst hsz
  have hx := B.exec
  have hb := B.bytes
  have hr := B.returns
  have hts := atoms_spec (ws := wyX11_fates) B.pre
  have hown : s.vm.findClass RX11 = some m.cls := (findClass_of_methodNamed B.named :)
  have hlocks := B.notSynchronized
  have hS : va_S (fun q => s.heap.size ≤ q) s.heap s.heap [] := va_S.rf
  have hl := lv_entry ([.ref (a0 0), .int x1]) (n := 2) (Nat.le_of_ble_eq_true rfl)
  rw [lg_entry_eq]
  generalize (lg_sl ([.ref (a0 0), .int x1]) ++ List.replicate (2 - (lg_sl ([.ref (a0 0), .int x1])).length) Slot.unset).toArray = ls at hl ⊢
  have hl : lv_has ls 2 [(0, .ref (a0 0)), (1, .int x1)] := hl
  unfold fX11_fates at hf
  refine lv_iload_n hx hb dX11_fates_0 rfl (lv_at hl 1 rfl) ?_
  refine lv_iconst (v := (0 : Int32)) hx hb dX11_fates_1 (by decide) ?_
  refine lv_iconst (v := (1 : Int32)) hx hb dX11_fates_2 (by decide) ?_
  obtain ⟨r1, hr1, hf⟩ := wb_b hf
  refine vp_callSi (W.runS (As := [.int x1, .int (0 : Int32), .int (1 : Int32)]) (rest := []) ⟨hx, hb, hml, hown, hts⟩ (cn_X11_within l D cB cI cZ N x1 (0 : Int32) (1 : Int32) r1 hr1) (va_cwS 3 hts gyX11_fates_X11_within rfl rfl rfl csX11_within ⟨Nat.le_of_ble_eq_true rfl, Nat.le_of_ble_eq_true rfl⟩) (wb_preS (hP.sub (ws' := ([] : va_W)) [] rfl) hK) rfl rfl hl.1 rfl (lv_room (Nat.le_of_ble_eq_true rfl)) dX11_fates_3 ⟨Nat.le_of_ble_eq_true rfl, Nat.le_of_ble_eq_true rfl⟩) (fun r9 e9 => ?_)
  rw [e9]
  rcases wb_xt hf with hrx | ⟨r2, hr2, hf⟩
  · refine vx_callv (vx_runS (As := [.int r1]) (rest := []) ⟨hx, hb, hml, hown, hts⟩ (ct_X11_need l hlt D cB cI cZ N r1 s.heap.size k hrx) (va_cwS 1 hts gyX11_fates_X11_need rfl rfl rfl csX11_need ⟨Nat.le_of_ble_eq_true rfl, Nat.le_of_ble_eq_true rfl⟩) (wb_preXS (hP.sub (ws' := ([] : va_W)) [] rfl) hK hX) rfl rfl hl.1 rfl (lv_room (Nat.le_of_ble_eq_true rfl)) dX11_fates_6 ⟨Nat.le_of_ble_eq_true rfl, Nat.le_of_ble_eq_true rfl⟩) hS (fun q _ h => h) (fun _ h => h) (fun q _ h => h) (fun E ce q9 u t H locs ht hvm hpx hB hz1 hk1 hS hq9 hv9 hc9 => ?_) (fun u t H locs ht hvm hw hB hz1 hk1 hS => hw.elim)
    exact vx_out (fun x hx9 => (htab x hx9).elim) hlocks hq9 hv9 hc9 (fun t9 ht9 hvm9 => ⟨(), trivial, hB, hS.F ht9⟩) hS.2.2 (Nat.le_of_ble_eq_true rfl) (Nat.le_of_ble_eq_true rfl)
  refine va_csv (W.runS (As := [.int r1]) (rest := []) ⟨hx, hb, hml, hown, hts⟩ (cn_X11_need l D cB cI cZ N r1 r2 hr2) (va_cwS 1 hts gyX11_fates_X11_need rfl rfl rfl csX11_need ⟨Nat.le_of_ble_eq_true rfl, Nat.le_of_ble_eq_true rfl⟩) (wb_preS (hP.sub (ws' := ([] : va_W)) [] rfl) hK) rfl rfl hl.1 rfl (lv_room (Nat.le_of_ble_eq_true rfl)) dX11_fates_6 ⟨Nat.le_of_ble_eq_true rfl, Nat.le_of_ble_eq_true rfl⟩) (fun _ => ?_)
  exact absurd hf wb_okn

set_option maxHeartbeats 4000000 in
set_option maxRecDepth 100000 in
theorem cn_X11_hits (l : Launch) (D : va_G) (cB cI cZ : ClassId) (N : Nat) (a0 : Nat → Nat) (I0 : Nat → Int32) (M0 : Nat → Nat → Int32) (x1 : Int32) (x2 : Int32) (sz : Nat) (R : Int32 × (Nat → Int32) × (Nat → Nat → Int32)) (hf : fX11_hits N I0 M0 x1 x2 = some (.inr R)) : Met l yX11_hits wyX11_hits ({ frames := 7, cells := 0, slots := 0, locals := 140 }) (va_Pc [.ref (a0 0), .int x1, .int x2] (wb_preD D [(cB, .byte), (cI, .int), (cZ, .boolean)] (wWX11 cB cI cZ a0 I0 M0) sz)) (va_Qi (fun r (_ : Unit) => r = R.1) (fun _ t => wb_post D [(cB, .byte), (cI, .int), (cZ, .boolean)] (va_A (wWX11 cB cI cZ a0 I0 M0) sz) (wWX11 cB cI cZ a0 R.2.1 R.2.2) t) (va_A (wWX11 cB cI cZ a0 I0 M0) sz)) 0 0 (va_A (wWX11 cB cI cZ a0 I0 M0) sz) := by
  refine Met.ofW (cc := cX11_hits) (maxL := 3) (ret := (some .int)) pn_X11 rfl ?_
  intro p e s m args below meth c s₁ B hml hv
  obtain ⟨rfl, hsz, hP, hK, hD0⟩ := hv
  have hx := B.exec
  have hb := B.bytes
  have hr := B.returns
  have hts := atoms_spec (ws := wyX11_hits) B.pre
  have hown : s.vm.findClass RX11 = some m.cls := (findClass_of_methodNamed B.named :)
  have hlocks := B.notSynchronized
  have hinX11 : ∀ w ∈ u_ws RX11 TX11 13, w ∈ wyX11_hits := fun w h => List.mem_cons_of_mem _ (List.mem_append_left _ (List.mem_append_left _ (List.mem_append_right _ h)))
  subst hsz
  have hD := hD0.self (sz := s.heap.size)
  generalize hAe : va_A (wWX11 cB cI cZ a0 I0 M0) s.heap.size = A at hD ⊢
  have hA : ∀ q : Nat, s.heap.size ≤ q → A q := fun q h => by rw [← hAe]; exact Or.inr h
  have hS : va_S A s.heap s.heap [] := va_S.rf
  have hl := lv_entry ([.ref (a0 0), .int x1, .int x2]) (n := 3) (Nat.le_of_ble_eq_true rfl)
  rw [lg_entry_eq]
  generalize (lg_sl ([.ref (a0 0), .int x1, .int x2]) ++ List.replicate (3 - (lg_sl ([.ref (a0 0), .int x1, .int x2])).length) Slot.unset).toArray = ls at hl ⊢
  have hl : lv_has ls 3 [(0, .ref (a0 0)), (1, .int x1), (2, .int x2)] := hl
  unfold fX11_hits at hf
  obtain ⟨H, hHe⟩ : ∃ H : Heap, H = s.heap := ⟨_, rfl⟩
  obtain ⟨locs, hle⟩ : ∃ locs : List Loc, locs = [] := ⟨_, rfl⟩
  refine wb_start (H := H) (locs := locs) hHe hle ?_
  rw [← hHe] at hP
  have hS : va_S A s.heap H locs := by rw [hHe, hle]; exact va_S.rf
  have J24 : ∀ (I0_j24 : Nat → Int32) (M0_j24 : Nat → Nat → Int32) (z24_0 : Int32) (H : Heap) (locs : List Loc), va_P D vwCl (wWX11 cB cI cZ a0 I0_j24 M0_j24) H → va_D A (wWX11 cB cI cZ a0 I0_j24 M0_j24) → va_S A s.heap H locs → ∀ (ls : Array Slot), lv_has ls 3 [(0, .ref (a0 0)), (1, .int x1), (2, .int x2)] → fX11_hits_J24 N x1 x2 I0_j24 M0_j24 z24_0 = some (.inr R) → W p l e (headSpec wyX11_hits { frames := 7, cells := 0, slots := 0, locals := 140 }).room s m [.ref (a0 0), .int x1, .int x2].toArray below meth c H locs 0 0 (MQ below (va_Qi (fun r (_ : Unit) => r = R.1) (fun _ t => wb_post D [(cB, .byte), (cI, .int), (cZ, .boolean)] A (wWX11 cB cI cZ a0 R.2.1 R.2.2) t) A) [.ref (a0 0), .int x1, .int x2].toArray s 0 0 A) (F0 m 24 ls [.int z24_0]) := by
    intro I0_j24 M0_j24 z24_0 H locs hP hD hS ls hl hf
    unfold fX11_hits_J24 at hf
    obtain ⟨r1, hr1, hf⟩ := wb_xr hf
    refine va_csv (W.runS (As := [.int z24_0]) (rest := []) ⟨hx, hb, hml, hown, hts⟩ (cn_X11_need l D cB cI cZ N z24_0 r1 hr1) (va_cwS 1 hts gyX11_hits_X11_need rfl rfl rfl csX11_need ⟨Nat.le_of_ble_eq_true rfl, Nat.le_of_ble_eq_true rfl⟩) (wb_preS (hP.sub (ws' := ([] : va_W)) [] rfl) hK) rfl rfl hl.1 rfl (lv_room (Nat.le_of_ble_eq_true rfl)) dX11_hits_24 ⟨Nat.le_of_ble_eq_true rfl, Nat.le_of_ble_eq_true rfl⟩) (fun _ => ?_)
    replace hf := wb_okr hf
    refine lv_iload_n hx hb dX11_hits_27 rfl (lv_at hl 1 rfl) ?_
    refine lv_if_ne (tgt := 42) hx hb dX11_hits_28 (by decide) (fun hc => ?_) (fun hc => ?_)
    · replace hf := wb_f hc hf
      refine lv_aload_n hx hb dX11_hits_42 rfl (lv_at hl 0 rfl) ?_
      refine va_get (D := D) (ci := 11) (v := .ref (a0 45)) (C := RX11) (T := TX11) (N := 13) hx hb hts hinX11 hown hK hP 0 rfl rfl 12 (by decide) (hts (.fieldLink RX11 80 "WheelBook" "outcomes" "LWheelBook$Outcomes;") (List.mem_of_getElem? (i := 1) rfl)) (fun _ h9 => h9) rfl dX11_hits_43 ?_
      refine lv_iload_n hx hb dX11_hits_46 rfl (lv_at hl 2 rfl) ?_
      obtain ⟨r2, hr2, hf⟩ := wb_b hf
      have hPc := hP.sub (ws' := (wWX7 cB cI cZ (wb_sh a0 45) (wb_sh I0_j24 43) (wb_sh M0_j24 28))) [45, 46, 47, 48, 49, 50, 51] rfl
      have hDc := hD.sub (ws' := (wWX7 cB cI cZ (wb_sh a0 45) (wb_sh I0_j24 43) (wb_sh M0_j24 28))) [45, 46, 47, 48, 49, 50, 51] (by decide) rfl
      have hFc := va_free (wc := (wWX7 cB cI cZ (wb_sh a0 45) (wb_sh I0_j24 43) (wb_sh M0_j24 28))) hD hS hA [45, 46, 47, 48, 49, 50, 51] rfl
      refine va_calli (va_runV (As := [.int x2]) (rest := []) ⟨hx, hb, hml, hown, hts⟩ (cn_X7_chanceOfLives l D cB cI cZ N (wb_sh a0 45) (wb_sh I0_j24 43) (wb_sh M0_j24 28) x2 H.size r2 hr2) (cwV 1 hts gyX11_hits_X7_chanceOfLives rfl rfl rfl cdX7_chanceOfLives ⟨Nat.le_of_ble_eq_true rfl, Nat.le_of_ble_eq_true rfl⟩) (wb_preDV hPc hK hDc (wr_7 hK hP (q0 := 45) rfl)) rfl rfl hl.1 rfl (lv_room (Nat.le_of_ble_eq_true rfl)) dX11_hits_47 ⟨Nat.le_of_ble_eq_true rfl, Nat.le_of_ble_eq_true rfl⟩) hS (fun q _ h => hFc q h) hFc (fun r9 u t H locs ht hvm hw hB hz1 hk1 hS => ?_)
      obtain ⟨hP, hD⟩ := wj_s (wc := (wWX7 cB cI cZ (wb_sh a0 45) (wb_sh I0_j24 43) (wb_sh M0_j24 28))) (w1 := (wWX7 cB cI cZ (wb_sh a0 45) r2.2.1 r2.2.2)) (wf := (wWX11 cB cI cZ a0 (wb_in I0_j24 43 0 r2.2.1) (wb_in M0_j24 28 6 r2.2.2))) 45 52 hP hD rfl rfl hk1 hFc ht hB
      rw [hw]
      obtain ⟨I0_3, eI0_3, hf⟩ := wb_v hf
      rw [← eI0_3] at hP hD
      obtain ⟨M0_4, eM0_4, hf⟩ := wb_v hf
      rw [← eM0_4] at hP hD
      exact W.iret (v := r2.1) hx hb hr (fun t ht hW => by rw [← Option.some.inj hf]; exact ⟨⟨r2.1, (), rfl, rfl, by rw [ht]; exact hP, va_K.moved hW.alike hK, hD⟩, hS.F ht⟩) hS.2.2 dX11_hits_50
    · replace hf := wb_t hc hf
      refine lv_aload_n hx hb dX11_hits_31 rfl (lv_at hl 0 rfl) ?_
      refine va_get (D := D) (ci := 11) (v := .ref (a0 45)) (C := RX11) (T := TX11) (N := 13) hx hb hts hinX11 hown hK hP 0 rfl rfl 12 (by decide) (hts (.fieldLink RX11 80 "WheelBook" "outcomes" "LWheelBook$Outcomes;") (List.mem_of_getElem? (i := 1) rfl)) (fun _ h9 => h9) rfl dX11_hits_32 ?_
      refine lv_iload_n hx hb dX11_hits_35 rfl (lv_at hl 2 rfl) ?_
      obtain ⟨r5, hr5, hf⟩ := wb_b hf
      have hPc := hP.sub (ws' := (wWX7 cB cI cZ (wb_sh a0 45) (wb_sh I0_j24 43) (wb_sh M0_j24 28))) [45, 46, 47, 48, 49, 50, 51] rfl
      have hDc := hD.sub (ws' := (wWX7 cB cI cZ (wb_sh a0 45) (wb_sh I0_j24 43) (wb_sh M0_j24 28))) [45, 46, 47, 48, 49, 50, 51] (by decide) rfl
      have hFc := va_free (wc := (wWX7 cB cI cZ (wb_sh a0 45) (wb_sh I0_j24 43) (wb_sh M0_j24 28))) hD hS hA [45, 46, 47, 48, 49, 50, 51] rfl
      refine va_calli (va_runV (As := [.int x2]) (rest := []) ⟨hx, hb, hml, hown, hts⟩ (cn_X7_howManyHits l D cB cI cZ N (wb_sh a0 45) (wb_sh I0_j24 43) (wb_sh M0_j24 28) x2 H.size r5 hr5) (cwV 1 hts gyX11_hits_X7_howManyHits rfl rfl rfl cdX7_howManyHits ⟨Nat.le_of_ble_eq_true rfl, Nat.le_of_ble_eq_true rfl⟩) (wb_preDV hPc hK hDc (wr_7 hK hP (q0 := 45) rfl)) rfl rfl hl.1 rfl (lv_room (Nat.le_of_ble_eq_true rfl)) dX11_hits_36 ⟨Nat.le_of_ble_eq_true rfl, Nat.le_of_ble_eq_true rfl⟩) hS (fun q _ h => hFc q h) hFc (fun r9 u t H locs ht hvm hw hB hz1 hk1 hS => ?_)
      obtain ⟨hP, hD⟩ := wj_s (wc := (wWX7 cB cI cZ (wb_sh a0 45) (wb_sh I0_j24 43) (wb_sh M0_j24 28))) (w1 := (wWX7 cB cI cZ (wb_sh a0 45) r5.2.1 r5.2.2)) (wf := (wWX11 cB cI cZ a0 (wb_in I0_j24 43 0 r5.2.1) (wb_in M0_j24 28 6 r5.2.2))) 45 52 hP hD rfl rfl hk1 hFc ht hB
      rw [hw]
      obtain ⟨I0_6, eI0_6, hf⟩ := wb_v hf
      rw [← eI0_6] at hP hD
      obtain ⟨M0_7, eM0_7, hf⟩ := wb_v hf
      rw [← eM0_7] at hP hD
      refine lv_goto (tgt := 50) hx hb dX11_hits_39 (by decide) ?_
      exact W.iret (v := r5.1) hx hb hr (fun t ht hW => by rw [← Option.some.inj hf]; exact ⟨⟨r5.1, (), rfl, rfl, by rw [ht]; exact hP, va_K.moved hW.alike hK, hD⟩, hS.F ht⟩) hS.2.2 dX11_hits_50
  have J23 : ∀ (I0_j23 : Nat → Int32) (M0_j23 : Nat → Nat → Int32) (H : Heap) (locs : List Loc), va_P D vwCl (wWX11 cB cI cZ a0 I0_j23 M0_j23) H → va_D A (wWX11 cB cI cZ a0 I0_j23 M0_j23) → va_S A s.heap H locs → ∀ (ls : Array Slot), lv_has ls 3 [(0, .ref (a0 0)), (1, .int x1), (2, .int x2)] → fX11_hits_J23 N x1 x2 I0_j23 M0_j23 = some (.inr R) → W p l e (headSpec wyX11_hits { frames := 7, cells := 0, slots := 0, locals := 140 }).room s m [.ref (a0 0), .int x1, .int x2].toArray below meth c H locs 0 0 (MQ below (va_Qi (fun r (_ : Unit) => r = R.1) (fun _ t => wb_post D [(cB, .byte), (cI, .int), (cZ, .boolean)] A (wWX11 cB cI cZ a0 R.2.1 R.2.2) t) A) [.ref (a0 0), .int x1, .int x2].toArray s 0 0 A) (F0 m 23 ls []) := by
    intro I0_j23 M0_j23 H locs hP hD hS ls hl hf
    unfold fX11_hits_J23 at hf
    refine lv_iconst (v := (0 : Int32)) hx hb dX11_hits_23 (by decide) ?_
    exact J24 I0_j23 M0_j23 (0 : Int32) H locs hP hD hS ls (lv_sub hl [0, 1, 2] rfl) hf
  refine lv_iload_n hx hb dX11_hits_0 rfl (lv_at hl 1 rfl) ?_
  refine lv_iconst (v := (0 : Int32)) hx hb dX11_hits_1 (by decide) ?_
  refine lv_iconst (v := (1 : Int32)) hx hb dX11_hits_2 (by decide) ?_
  obtain ⟨r8, hr8, hf⟩ := wb_b hf
  refine vp_callSi (W.runS (As := [.int x1, .int (0 : Int32), .int (1 : Int32)]) (rest := []) ⟨hx, hb, hml, hown, hts⟩ (cn_X11_within l D cB cI cZ N x1 (0 : Int32) (1 : Int32) r8 hr8) (va_cwS 3 hts gyX11_hits_X11_within rfl rfl rfl csX11_within ⟨Nat.le_of_ble_eq_true rfl, Nat.le_of_ble_eq_true rfl⟩) (wb_preS (hP.sub (ws' := ([] : va_W)) [] rfl) hK) rfl rfl hl.1 rfl (lv_room (Nat.le_of_ble_eq_true rfl)) dX11_hits_3 ⟨Nat.le_of_ble_eq_true rfl, Nat.le_of_ble_eq_true rfl⟩) (fun r9 e9 => ?_)
  rw [e9]
  refine lv_if_eq (tgt := 23) hx hb dX11_hits_6 (by decide) (fun hc => ?_) (fun hc => ?_)
  · replace hf := wb_t hc hf
    exact J23 I0 M0 H locs hP hD hS ls (lv_sub hl [0, 1, 2] rfl) hf
  · replace hf := wb_f hc hf
    refine lv_iload_n hx hb dX11_hits_9 rfl (lv_at hl 2 rfl) ?_
    refine lv_iconst (v := (0 : Int32)) hx hb dX11_hits_10 (by decide) ?_
    refine lv_bipush (v := (120 : Int32)) hx hb dX11_hits_11 (by decide) ?_
    obtain ⟨r9b, hr9b, hf⟩ := wb_b hf
    refine vp_callSi (W.runS (As := [.int x2, .int (0 : Int32), .int (120 : Int32)]) (rest := []) ⟨hx, hb, hml, hown, hts⟩ (cn_X11_within l D cB cI cZ N x2 (0 : Int32) (120 : Int32) r9b hr9b) (va_cwS 3 hts gyX11_hits_X11_within rfl rfl rfl csX11_within ⟨Nat.le_of_ble_eq_true rfl, Nat.le_of_ble_eq_true rfl⟩) (wb_preS (hP.sub (ws' := ([] : va_W)) [] rfl) hK) rfl rfl hl.1 rfl (lv_room (Nat.le_of_ble_eq_true rfl)) dX11_hits_13 ⟨Nat.le_of_ble_eq_true rfl, Nat.le_of_ble_eq_true rfl⟩) (fun r9 e9 => ?_)
    rw [e9]
    refine lv_if_eq (tgt := 23) hx hb dX11_hits_16 (by decide) (fun hc => ?_) (fun hc => ?_)
    · replace hf := wb_t hc hf
      exact J23 I0 M0 H locs hP hD hS ls (lv_sub hl [0, 1, 2] rfl) hf
    · replace hf := wb_f hc hf
      refine lv_iconst (v := (1 : Int32)) hx hb dX11_hits_19 (by decide) ?_
      refine lv_goto (tgt := 24) hx hb dX11_hits_20 (by decide) ?_
      exact J24 I0 M0 (1 : Int32) H locs hP hD hS ls (lv_sub hl [0, 1, 2] rfl) hf
set_option maxHeartbeats 4000000 in
set_option maxRecDepth 100000 in
theorem ct_X11_hits (l : Launch) (hlt : l.stackTraces = false) (D : va_G) (cB cI cZ : ClassId) (N : Nat) (a0 : Nat → Nat) (I0 : Nat → Int32) (M0 : Nat → Nat → Int32) (x1 : Int32) (x2 : Int32) (sz k : Nat) (hf : fX11_hits N I0 M0 x1 x2 = some (.inl k)) : vx_Met l yX11_hits wyX11_hits ({ frames := 7, cells := 1, slots := 6, locals := 140 }) (va_Pc [.ref (a0 0), .int x1, .int x2] (wb_preX D [(cB, .byte), (cI, .int), (cZ, .boolean)] (wWX11 cB cI cZ a0 I0 M0) sz)) (va_Qi (fun _ (_ : Unit) => False) (fun _ _ => True) (fun q => sz ≤ q)) (vx_X (fun _ : Unit => True) (fun E _ _ => E = wb_ex k) (fun q => sz ≤ q)) 1 6 (fun q => sz ≤ q) := by
  refine vx_ofW (cc := cX11_hits) (maxL := 3) (ret := (some .int)) (by decide) rfl ?_
  intro p e s m args below meth c s₁ B hml htab hv
  obtain ⟨rfl, hsz, hP, hK, hX⟩ := hv
  subst hsz
  have hx := B.exec
  have hb := B.bytes
  have hr := B.returns
  have hts := atoms_spec (ws := wyX11_hits) B.pre
  have hown : s.vm.findClass RX11 = some m.cls := (findClass_of_methodNamed B.named :)
  have hlocks := B.notSynchronized
  have hS : va_S (fun q => s.heap.size ≤ q) s.heap s.heap [] := va_S.rf
  have hl := lv_entry ([.ref (a0 0), .int x1, .int x2]) (n := 3) (Nat.le_of_ble_eq_true rfl)
  rw [lg_entry_eq]
  generalize (lg_sl ([.ref (a0 0), .int x1, .int x2]) ++ List.replicate (3 - (lg_sl ([.ref (a0 0), .int x1, .int x2])).length) Slot.unset).toArray = ls at hl ⊢
  have hl : lv_has ls 3 [(0, .ref (a0 0)), (1, .int x1), (2, .int x2)] := hl
  unfold fX11_hits at hf
  have J24 : ∀ (z24_0 : Int32), ∀ (ls : Array Slot), lv_has ls 3 [(0, .ref (a0 0)), (1, .int x1), (2, .int x2)] → fX11_hits_J24 N x1 x2 I0 M0 z24_0 = some (.inl k) → W p l e (headSpec wyX11_hits { frames := 7, cells := 1, slots := 6, locals := 140 }).room s m [.ref (a0 0), .int x1, .int x2].toArray below meth c s.heap [] 0 0 (vx_MQ below (va_Qi (fun _ (_ : Unit) => False) (fun _ _ => True) (fun q => s.heap.size ≤ q)) (vx_X (fun _ : Unit => True) (fun E _ _ => E = wb_ex k) (fun q => s.heap.size ≤ q)) [.ref (a0 0), .int x1, .int x2].toArray s 1 6 (fun q => s.heap.size ≤ q)) (F0 m 24 ls [.int z24_0]) := by
    intro z24_0 ls hl hf
    unfold fX11_hits_J24 at hf
    rcases wb_xt hf with hrx | ⟨r1, hr1, hf⟩
    · refine vx_callv (vx_runS (As := [.int z24_0]) (rest := []) ⟨hx, hb, hml, hown, hts⟩ (ct_X11_need l hlt D cB cI cZ N z24_0 s.heap.size k hrx) (va_cwS 1 hts gyX11_hits_X11_need rfl rfl rfl csX11_need ⟨Nat.le_of_ble_eq_true rfl, Nat.le_of_ble_eq_true rfl⟩) (wb_preXS (hP.sub (ws' := ([] : va_W)) [] rfl) hK hX) rfl rfl hl.1 rfl (lv_room (Nat.le_of_ble_eq_true rfl)) dX11_hits_24 ⟨Nat.le_of_ble_eq_true rfl, Nat.le_of_ble_eq_true rfl⟩) hS (fun q _ h => h) (fun _ h => h) (fun q _ h => h) (fun E ce q9 u t H locs ht hvm hpx hB hz1 hk1 hS hq9 hv9 hc9 => ?_) (fun u t H locs ht hvm hw hB hz1 hk1 hS => hw.elim)
      exact vx_out (fun x hx9 => (htab x hx9).elim) hlocks hq9 hv9 hc9 (fun t9 ht9 hvm9 => ⟨(), trivial, hB, hS.F ht9⟩) hS.2.2 (Nat.le_of_ble_eq_true rfl) (Nat.le_of_ble_eq_true rfl)
    refine va_csv (W.runS (As := [.int z24_0]) (rest := []) ⟨hx, hb, hml, hown, hts⟩ (cn_X11_need l D cB cI cZ N z24_0 r1 hr1) (va_cwS 1 hts gyX11_hits_X11_need rfl rfl rfl csX11_need ⟨Nat.le_of_ble_eq_true rfl, Nat.le_of_ble_eq_true rfl⟩) (wb_preS (hP.sub (ws' := ([] : va_W)) [] rfl) hK) rfl rfl hl.1 rfl (lv_room (Nat.le_of_ble_eq_true rfl)) dX11_hits_24 ⟨Nat.le_of_ble_eq_true rfl, Nat.le_of_ble_eq_true rfl⟩) (fun _ => ?_)
    exact absurd hf wb_okn
  have J23 : ∀ (ls : Array Slot), lv_has ls 3 [(0, .ref (a0 0)), (1, .int x1), (2, .int x2)] → fX11_hits_J23 N x1 x2 I0 M0 = some (.inl k) → W p l e (headSpec wyX11_hits { frames := 7, cells := 1, slots := 6, locals := 140 }).room s m [.ref (a0 0), .int x1, .int x2].toArray below meth c s.heap [] 0 0 (vx_MQ below (va_Qi (fun _ (_ : Unit) => False) (fun _ _ => True) (fun q => s.heap.size ≤ q)) (vx_X (fun _ : Unit => True) (fun E _ _ => E = wb_ex k) (fun q => s.heap.size ≤ q)) [.ref (a0 0), .int x1, .int x2].toArray s 1 6 (fun q => s.heap.size ≤ q)) (F0 m 23 ls []) := by
    intro ls hl hf
    unfold fX11_hits_J23 at hf
    refine lv_iconst (v := (0 : Int32)) hx hb dX11_hits_23 (by decide) ?_
    exact J24 (0 : Int32) ls (lv_sub hl [0, 1, 2] rfl) hf
  refine lv_iload_n hx hb dX11_hits_0 rfl (lv_at hl 1 rfl) ?_
  refine lv_iconst (v := (0 : Int32)) hx hb dX11_hits_1 (by decide) ?_
  refine lv_iconst (v := (1 : Int32)) hx hb dX11_hits_2 (by decide) ?_
  obtain ⟨r2, hr2, hf⟩ := wb_b hf
  refine vp_callSi (W.runS (As := [.int x1, .int (0 : Int32), .int (1 : Int32)]) (rest := []) ⟨hx, hb, hml, hown, hts⟩ (cn_X11_within l D cB cI cZ N x1 (0 : Int32) (1 : Int32) r2 hr2) (va_cwS 3 hts gyX11_hits_X11_within rfl rfl rfl csX11_within ⟨Nat.le_of_ble_eq_true rfl, Nat.le_of_ble_eq_true rfl⟩) (wb_preS (hP.sub (ws' := ([] : va_W)) [] rfl) hK) rfl rfl hl.1 rfl (lv_room (Nat.le_of_ble_eq_true rfl)) dX11_hits_3 ⟨Nat.le_of_ble_eq_true rfl, Nat.le_of_ble_eq_true rfl⟩) (fun r9 e9 => ?_)
  rw [e9]
  refine lv_if_eq (tgt := 23) hx hb dX11_hits_6 (by decide) (fun hc => ?_) (fun hc => ?_)
  · replace hf := wb_t hc hf
    exact J23 ls (lv_sub hl [0, 1, 2] rfl) hf
  · replace hf := wb_f hc hf
    refine lv_iload_n hx hb dX11_hits_9 rfl (lv_at hl 2 rfl) ?_
    refine lv_iconst (v := (0 : Int32)) hx hb dX11_hits_10 (by decide) ?_
    refine lv_bipush (v := (120 : Int32)) hx hb dX11_hits_11 (by decide) ?_
    obtain ⟨r3, hr3, hf⟩ := wb_b hf
    refine vp_callSi (W.runS (As := [.int x2, .int (0 : Int32), .int (120 : Int32)]) (rest := []) ⟨hx, hb, hml, hown, hts⟩ (cn_X11_within l D cB cI cZ N x2 (0 : Int32) (120 : Int32) r3 hr3) (va_cwS 3 hts gyX11_hits_X11_within rfl rfl rfl csX11_within ⟨Nat.le_of_ble_eq_true rfl, Nat.le_of_ble_eq_true rfl⟩) (wb_preS (hP.sub (ws' := ([] : va_W)) [] rfl) hK) rfl rfl hl.1 rfl (lv_room (Nat.le_of_ble_eq_true rfl)) dX11_hits_13 ⟨Nat.le_of_ble_eq_true rfl, Nat.le_of_ble_eq_true rfl⟩) (fun r9 e9 => ?_)
    rw [e9]
    refine lv_if_eq (tgt := 23) hx hb dX11_hits_16 (by decide) (fun hc => ?_) (fun hc => ?_)
    · replace hf := wb_t hc hf
      exact J23 ls (lv_sub hl [0, 1, 2] rfl) hf
    · replace hf := wb_f hc hf
      refine lv_iconst (v := (1 : Int32)) hx hb dX11_hits_19 (by decide) ?_
      refine lv_goto (tgt := 24) hx hb dX11_hits_20 (by decide) ?_
      exact J24 (1 : Int32) ls (lv_sub hl [0, 1, 2] rfl) hf

set_option maxHeartbeats 4000000 in
set_option maxRecDepth 100000 in
theorem cn_X11_init (l : Launch) (D : va_G) (cB cI cZ : ClassId) (N : Nat) (h0 sz : Nat) (R : (Nat → Int32) × (Nat → Nat → Int32)) (hf : fX11_init N = some R) : Met l yX11_init wsX11_init ({ frames := 3, cells := 51, slots := 6678, locals := 52 }) (va_Pc [.ref h0] (wb_preN D [(cB, .byte), (cI, .int), (cZ, .boolean)] ([((h0, .inr (11, [.null, .null, .null, .null, .null, .null, .null, .null, .null, .null, .null, .null, .null])) : Nat × va_E)] : va_W) sz [("WheelBook", 9, yX9_init, "WheelBook"), ("WheelBook", 35, yX3_init, "WheelBook"), ("WheelBook", 42, yX8_init, "WheelBook"), ("WheelBook", 58, yX10_init, "WheelBook"), ("WheelBook", 65, yX6_init, "WheelBook"), ("WheelBook", 72, yX0_init, "WheelBook"), ("WheelBook$House", 26, yX2_init, "WheelBook"), ("WheelBook$House", 33, yX4_init, "WheelBook")])) (va_Qv (fun _ : Unit => True) (fun _ t => wb_postN D [(cB, .byte), (cI, .int), (cZ, .boolean)] (va_A ([((h0, .inr (11, [.null, .null, .null, .null, .null, .null, .null, .null, .null, .null, .null, .null, .null])) : Nat × va_E)] : va_W) sz) h0 (fun a => wWX11 cB cI cZ a R.1 R.2) t) (va_A ([((h0, .inr (11, [.null, .null, .null, .null, .null, .null, .null, .null, .null, .null, .null, .null, .null])) : Nat × va_E)] : va_W) sz)) 51 6678 (va_A ([((h0, .inr (11, [.null, .null, .null, .null, .null, .null, .null, .null, .null, .null, .null, .null, .null])) : Nat × va_E)] : va_W) sz) := by
  refine Met.ofW (cc := cX11_init) (maxL := 1) (ret := none) pn_X11 rfl ?_
  intro p e s m args below meth c s₁ B hml hv
  obtain ⟨rfl, ⟨hsz, hP, hK, hD0⟩, hN⟩ := hv
  have hx := B.exec
  have hb := B.bytes
  have hr := B.returns
  have hts := atoms_spec (ws := wsX11_init) B.pre
  have hown : s.vm.findClass RX11 = some m.cls := (findClass_of_methodNamed B.named :)
  have hlocks := B.notSynchronized
  have hin0 : meth.name = "<init>" := (name_of_methodNamed B.named B.method).1
  have hinX0 : ∀ w ∈ u_ws RX0 TX0 1, w ∈ wsX11_init := fun w h => List.mem_cons_of_mem _ (List.mem_append_left _ (List.mem_append_left _ (List.mem_append_left _ (List.mem_append_right _ h))))
  have hinX1 : ∀ w ∈ u_ws RX1 TX1 2, w ∈ wsX11_init := fun w h => List.mem_cons_of_mem _ (List.mem_append_left _ (List.mem_append_left _ (List.mem_append_left _ (List.mem_append_left _ (List.mem_append_left _ (List.mem_append_left _ (List.mem_append_left _ (List.mem_append_left _ (List.mem_append_right _ h)))))))))
  have hinX10 : ∀ w ∈ u_ws RX10 TX10 5, w ∈ wsX11_init := fun w h => List.mem_cons_of_mem _ (List.mem_append_left _ (List.mem_append_left _ (List.mem_append_left _ (List.mem_append_left _ (List.mem_append_left _ (List.mem_append_right _ h))))))
  have hinX11 : ∀ w ∈ u_ws RX11 TX11 13, w ∈ wsX11_init := fun w h => List.mem_cons_of_mem _ (List.mem_append_left _ (List.mem_append_left _ (List.mem_append_left _ (List.mem_append_left _ (List.mem_append_left _ (List.mem_append_left _ (List.mem_append_left _ (List.mem_append_left _ (List.mem_append_left _ (List.mem_append_left _ (List.mem_append_right _ h)))))))))))
  have hinX3 : ∀ w ∈ u_ws RX3 TX3 1, w ∈ wsX11_init := fun w h => List.mem_cons_of_mem _ (List.mem_append_left _ (List.mem_append_left _ (List.mem_append_left _ (List.mem_append_left _ (List.mem_append_left _ (List.mem_append_left _ (List.mem_append_left _ (List.mem_append_right _ h))))))))
  have hinX5 : ∀ w ∈ u_ws RX5 TX5 6, w ∈ wsX11_init := fun w h => List.mem_cons_of_mem _ (List.mem_append_left _ (List.mem_append_left _ (List.mem_append_left _ (List.mem_append_left _ (List.mem_append_left _ (List.mem_append_left _ (List.mem_append_left _ (List.mem_append_left _ (List.mem_append_left _ (List.mem_append_right _ h))))))))))
  have hinX6 : ∀ w ∈ u_ws RX6 TX6 4, w ∈ wsX11_init := fun w h => List.mem_cons_of_mem _ (List.mem_append_left _ (List.mem_append_left _ (List.mem_append_left _ (List.mem_append_left _ (List.mem_append_right _ h)))))
  have hinX7 : ∀ w ∈ u_ws RX7 TX7 6, w ∈ wsX11_init := fun w h => List.mem_cons_of_mem _ (List.mem_append_left _ (List.mem_append_left _ (List.mem_append_right _ h)))
  have hinX8 : ∀ w ∈ u_ws RX8 TX8 8, w ∈ wsX11_init := fun w h => List.mem_cons_of_mem _ (List.mem_append_left _ (List.mem_append_left _ (List.mem_append_left _ (List.mem_append_left _ (List.mem_append_left _ (List.mem_append_left _ (List.mem_append_right _ h)))))))
  have hinX9 : ∀ w ∈ u_ws RX9 TX9 10, w ∈ wsX11_init := fun w h => List.mem_cons_of_mem _ (List.mem_append_left _ (List.mem_append_left _ (List.mem_append_left _ (List.mem_append_left _ (List.mem_append_left _ (List.mem_append_left _ (List.mem_append_left _ (List.mem_append_left _ (List.mem_append_left _ (List.mem_append_left _ (List.mem_append_left _ (List.mem_append_right _ h))))))))))))
  subst hsz
  have hD := hD0.self (sz := s.heap.size)
  generalize hAe : va_A ([((h0, .inr (11, [.null, .null, .null, .null, .null, .null, .null, .null, .null, .null, .null, .null, .null])) : Nat × va_E)] : va_W) s.heap.size = A at hD ⊢
  have hA : ∀ q : Nat, s.heap.size ≤ q → A q := fun q h => by rw [← hAe]; exact Or.inr h
  have hl := lv_entry ([.ref h0]) (n := 1) (Nat.le_of_ble_eq_true rfl)
  rw [lg_entry_eq]
  generalize (lg_sl ([.ref h0]) ++ List.replicate (1 - (lg_sl ([.ref h0])).length) Slot.unset).toArray = ls at hl ⊢
  have hl : lv_has ls 1 [(0, .ref h0)] := hl
  unfold fX11_init at hf
  obtain ⟨H, hHe⟩ : ∃ H : Heap, H = s.heap := ⟨_, rfl⟩
  obtain ⟨locs, hle⟩ : ∃ locs : List Loc, locs = [] := ⟨_, rfl⟩
  refine wb_start (H := H) (locs := locs) hHe hle ?_
  rw [← hHe] at hP
  have hS : va_S A s.heap H locs := by rw [hHe, hle]; exact va_S.rf
  refine lv_aload_n hx hb dX11_init_0 rfl (lv_at hl 0 rfl) ?_
  refine W.objInit hx hb hown (hts (.methodLink RX11 1 objectInit) (List.mem_of_getElem? (i := 1) rfl)) (hts (.instanceMethod objectInit) (List.mem_of_getElem? (i := 2) rfl)) (hts (.code objectInit ⟨#[0xb1]⟩ 1 none) (List.mem_of_getElem? (i := 3) rfl)) rfl (by rw [hml]; exact hl.1) rfl dX11_init_1 (Nat.le_of_ble_eq_true rfl) (Nat.le_of_ble_eq_true rfl) ?_
  refine W.eq (g2 := F0 m 4 ls []) rfl ?_
  refine lv_aload_n hx hb dX11_init_4 rfl (lv_at hl 0 rfl) ?_
  refine va_new (ci := 9) (fs := [.null, .int 0, .int 0, .int 0, .int 0, .int 0, .int 0, .int 0, .int 0, .int 0]) (C := RX9) (T := TX9) (N := 10) hx hb hts hinX9 tyX9 tyX9_ok hown (hts (.classLink RX11 7 RX9) (List.mem_of_getElem? (i := 4) rfl)) (hts (.instantiable RX9 10) (List.mem_of_getElem? (i := 5) rfl)) (hts (.initialized RX9) (List.mem_of_getElem? (i := 6) rfl)) hK hP hD hS hA rfl (fun j hj => wb_df10 (f := fun j => defaultValue (tyX9 j)) (g := fun j => vp_V [.null, .int 0, .int 0, .int 0, .int 0, .int 0, .int 0, .int 0, .int 0, .int 0] j) rfl rfl rfl rfl rfl rfl rfl rfl rfl rfl j hj) (Nat.le_of_ble_eq_true rfl) (Nat.le_of_ble_eq_true rfl) dX11_init_5 (fun q5 H hP hD hS => ?_)
  have hP : va_P D vwCl ([((h0, .inr (11, [.null, .null, .null, .null, .null, .null, .null, .null, .null, .null, .null, .null, .null])) : Nat × va_E), ((q5, .inr (9, [.null, .int 0, .int 0, .int 0, .int 0, .int 0, .int 0, .int 0, .int 0, .int 0])) : Nat × va_E)] : va_W) H := hP
  have hD : va_D A ([((h0, .inr (11, [.null, .null, .null, .null, .null, .null, .null, .null, .null, .null, .null, .null, .null])) : Nat × va_E), ((q5, .inr (9, [.null, .int 0, .int 0, .int 0, .int 0, .int 0, .int 0, .int 0, .int 0, .int 0])) : Nat × va_E)] : va_W) := hD
  refine lv_dup hx hb dX11_init_8 rfl ?_
  obtain ⟨r1, hr1, hf⟩ := wb_b hf
  have hPc := hP.sub (ws' := ([((q5, .inr (9, [.null, .int 0, .int 0, .int 0, .int 0, .int 0, .int 0, .int 0, .int 0, .int 0])) : Nat × va_E)] : va_W)) [1] rfl
  have hDc := hD.sub (ws' := ([((q5, .inr (9, [.null, .int 0, .int 0, .int 0, .int 0, .int 0, .int 0, .int 0, .int 0, .int 0])) : Nat × va_E)] : va_W)) [1] (by decide) rfl
  have hFc := va_free (wc := ([((q5, .inr (9, [.null, .int 0, .int 0, .int 0, .int 0, .int 0, .int 0, .int 0, .int 0, .int 0])) : Nat × va_E)] : va_W)) hD hS hA [1] rfl
  refine va_callv (va_runIN (As := []) (rest := [.ref q5, .ref h0]) ⟨hx, hb, hml, hown, hts⟩ (cn_X9_init l D cB cI cZ N q5 H.size r1 hr1) ⟨va_cnB (host := "WheelBook") 0 hts gX11_init_X9_init_n9 rfl rfl rfl (hN ("WheelBook", 9, yX9_init, "WheelBook") (by decide +kernel)) (hts (.initialized RX9) (List.mem_of_getElem? (i := 6) rfl)) csX9_init ⟨Nat.le_of_ble_eq_true rfl, Nat.le_of_ble_eq_true rfl⟩, rfl, (hts (.instanceMethod yX9_init) (List.mem_of_getElem? (i := 44) rfl))⟩ (wb_preNS hPc hK hDc (NW := []) (fun w hw => nomatch hw)) rfl rfl hl.1 rfl (lv_room (Nat.le_of_ble_eq_true rfl)) dX11_init_9 ⟨Nat.le_of_ble_eq_true rfl, Nat.le_of_ble_eq_true rfl⟩) hS (fun q _ h => hFc q h) hFc (fun u t H locs ht hvm hw hB hz1 hk1 hS => ?_)
  obtain ⟨an9, han9, hB⟩ := hB
  obtain ⟨hP, hD⟩ := wj_s (wc := ([((q5, .inr (9, [.null, .int 0, .int 0, .int 0, .int 0, .int 0, .int 0, .int 0, .int 0, .int 0])) : Nat × va_E)] : va_W)) (w1 := wWX9 cB cI cZ an9 r1.1 r1.2) (wf := ([((h0, .inr (11, [.null, .null, .null, .null, .null, .null, .null, .null, .null, .null, .null, .null, .null])) : Nat × va_E)] ++ (wWX9 cB cI cZ an9 r1.1 r1.2))) 1 2 hP hD rfl rfl hk1 hFc ht hB
  rw [show (q5 : Nat) = an9 0 from han9.symm]
  refine va_putF (D := D) (ci := 11) (v := .ref (an9 0)) (ty := (.object "WheelBook$Text")) (C := RX11) (T := TX11) (N := 13) hx hb hts hinX11 tyX11 tyX11_ok nmX11 hown hK hP hD hS 0 rfl rfl 0 (by decide) (hts (.fieldLink RX11 10 "WheelBook" "text" "LWheelBook$Text;") (List.mem_of_getElem? (i := 7) rfl)) (fun _ h9 => h9) rfl hin0 rfl (by decide +kernel) rfl rfl (Nat.le_of_ble_eq_true rfl) dX11_init_12 (fun H locs hP hD hS => ?_)
  have hP : va_P D vwCl ([((h0, .inr (11, [.ref (an9 0), .null, .null, .null, .null, .null, .null, .null, .null, .null, .null, .null, .null])) : Nat × va_E)] ++ (wWX9 cB cI cZ an9 r1.1 r1.2)) H := hP
  have hD : va_D A ([((h0, .inr (11, [.ref (an9 0), .null, .null, .null, .null, .null, .null, .null, .null, .null, .null, .null, .null])) : Nat × va_E)] ++ (wWX9 cB cI cZ an9 r1.1 r1.2)) := hD
  refine lv_aload_n hx hb dX11_init_15 rfl (lv_at hl 0 rfl) ?_
  refine va_new (ci := 5) (fs := [.null, .null, .null, .null, .null, .null]) (C := RX5) (T := TX5) (N := 6) hx hb hts hinX5 tyX5 tyX5_ok hown (hts (.classLink RX11 16 RX5) (List.mem_of_getElem? (i := 8) rfl)) (hts (.instantiable RX5 6) (List.mem_of_getElem? (i := 9) rfl)) (hts (.initialized RX5) (List.mem_of_getElem? (i := 10) rfl)) hK hP hD hS hA rfl (fun j hj => wb_df6 (f := fun j => defaultValue (tyX5 j)) (g := fun j => vp_V [.null, .null, .null, .null, .null, .null] j) rfl rfl rfl rfl rfl rfl j hj) (Nat.le_of_ble_eq_true rfl) (Nat.le_of_ble_eq_true rfl) dX11_init_16 (fun q16 H hP hD hS => ?_)
  have hP : va_P D vwCl ([((h0, .inr (11, [.ref (an9 0), .null, .null, .null, .null, .null, .null, .null, .null, .null, .null, .null, .null])) : Nat × va_E)] ++ ((wWX9 cB cI cZ an9 r1.1 r1.2) ++ [((q16, .inr (5, [.null, .null, .null, .null, .null, .null])) : Nat × va_E)])) H := hP
  have hD : va_D A ([((h0, .inr (11, [.ref (an9 0), .null, .null, .null, .null, .null, .null, .null, .null, .null, .null, .null, .null])) : Nat × va_E)] ++ ((wWX9 cB cI cZ an9 r1.1 r1.2) ++ [((q16, .inr (5, [.null, .null, .null, .null, .null, .null])) : Nat × va_E)])) := hD
  refine lv_dup hx hb dX11_init_19 rfl ?_
  obtain ⟨r2, hr2, hf⟩ := wb_b hf
  have hPc := hP.sub (ws' := ([((q16, .inr (5, [.null, .null, .null, .null, .null, .null])) : Nat × va_E)] : va_W)) [3] rfl
  have hDc := hD.sub (ws' := ([((q16, .inr (5, [.null, .null, .null, .null, .null, .null])) : Nat × va_E)] : va_W)) [3] (by decide) rfl
  have hFc := va_free (wc := ([((q16, .inr (5, [.null, .null, .null, .null, .null, .null])) : Nat × va_E)] : va_W)) hD hS hA [3] rfl
  refine va_callv (va_runI (As := []) (rest := [.ref q16, .ref h0]) ⟨hx, hb, hml, hown, hts⟩ (cn_X5_init l D cB cI cZ N q16 H.size r2 hr2) (cwI 0 hts gX11_init_X5_init rfl rfl rfl (hts (.initialized RX5) (List.mem_of_getElem? (i := 10) rfl)) (hts (.methodLink RX11 18 yX5_init) (List.mem_of_getElem? (i := 50) rfl)) (hts (.instanceMethod yX5_init) (List.mem_of_getElem? (i := 51) rfl)) rfl csX5_init ⟨Nat.le_of_ble_eq_true rfl, Nat.le_of_ble_eq_true rfl⟩) (wb_preNS hPc hK hDc (NW := [("WheelBook$House", 26, yX2_init, "WheelBook"), ("WheelBook$House", 33, yX4_init, "WheelBook")]) (fun w hw => hN w (by revert hw; revert w; decide +kernel))) rfl rfl hl.1 rfl (lv_room (Nat.le_of_ble_eq_true rfl)) dX11_init_20 ⟨Nat.le_of_ble_eq_true rfl, Nat.le_of_ble_eq_true rfl⟩) hS (fun q _ h => hFc q h) hFc (fun u t H locs ht hvm hw hB hz1 hk1 hS => ?_)
  obtain ⟨an20, han20, hB⟩ := hB
  obtain ⟨hP, hD⟩ := wj_s (wc := ([((q16, .inr (5, [.null, .null, .null, .null, .null, .null])) : Nat × va_E)] : va_W)) (w1 := wWX5 cB cI cZ an20 r2.1 r2.2) (wf := ([((h0, .inr (11, [.ref (an9 0), .null, .null, .null, .null, .null, .null, .null, .null, .null, .null, .null, .null])) : Nat × va_E)] ++ ((wWX9 cB cI cZ an9 r1.1 r1.2) ++ (wWX5 cB cI cZ an20 r2.1 r2.2)))) 3 4 hP hD rfl rfl hk1 hFc ht hB
  rw [show (q16 : Nat) = an20 0 from han20.symm]
  refine va_putF (D := D) (ci := 11) (v := .ref (an20 0)) (ty := (.object "WheelBook$House")) (C := RX11) (T := TX11) (N := 13) hx hb hts hinX11 tyX11 tyX11_ok nmX11 hown hK hP hD hS 0 rfl rfl 1 (by decide) (hts (.fieldLink RX11 19 "WheelBook" "told" "LWheelBook$House;") (List.mem_of_getElem? (i := 11) rfl)) (fun _ h9 => h9) rfl hin0 rfl (by decide +kernel) rfl rfl (Nat.le_of_ble_eq_true rfl) dX11_init_23 (fun H locs hP hD hS => ?_)
  have hP : va_P D vwCl ([((h0, .inr (11, [.ref (an9 0), .ref (an20 0), .null, .null, .null, .null, .null, .null, .null, .null, .null, .null, .null])) : Nat × va_E)] ++ ((wWX9 cB cI cZ an9 r1.1 r1.2) ++ (wWX5 cB cI cZ an20 r2.1 r2.2))) H := hP
  have hD : va_D A ([((h0, .inr (11, [.ref (an9 0), .ref (an20 0), .null, .null, .null, .null, .null, .null, .null, .null, .null, .null, .null])) : Nat × va_E)] ++ ((wWX9 cB cI cZ an9 r1.1 r1.2) ++ (wWX5 cB cI cZ an20 r2.1 r2.2))) := hD
  refine lv_aload_n hx hb dX11_init_26 rfl (lv_at hl 0 rfl) ?_
  refine va_new (ci := 5) (fs := [.null, .null, .null, .null, .null, .null]) (C := RX5) (T := TX5) (N := 6) hx hb hts hinX5 tyX5 tyX5_ok hown (hts (.classLink RX11 16 RX5) (List.mem_of_getElem? (i := 8) rfl)) (hts (.instantiable RX5 6) (List.mem_of_getElem? (i := 9) rfl)) (hts (.initialized RX5) (List.mem_of_getElem? (i := 10) rfl)) hK hP hD hS hA rfl (fun j hj => wb_df6 (f := fun j => defaultValue (tyX5 j)) (g := fun j => vp_V [.null, .null, .null, .null, .null, .null] j) rfl rfl rfl rfl rfl rfl j hj) (Nat.le_of_ble_eq_true rfl) (Nat.le_of_ble_eq_true rfl) dX11_init_27 (fun q27 H hP hD hS => ?_)
  have hP : va_P D vwCl ([((h0, .inr (11, [.ref (an9 0), .ref (an20 0), .null, .null, .null, .null, .null, .null, .null, .null, .null, .null, .null])) : Nat × va_E)] ++ ((wWX9 cB cI cZ an9 r1.1 r1.2) ++ ((wWX5 cB cI cZ an20 r2.1 r2.2) ++ [((q27, .inr (5, [.null, .null, .null, .null, .null, .null])) : Nat × va_E)]))) H := hP
  have hD : va_D A ([((h0, .inr (11, [.ref (an9 0), .ref (an20 0), .null, .null, .null, .null, .null, .null, .null, .null, .null, .null, .null])) : Nat × va_E)] ++ ((wWX9 cB cI cZ an9 r1.1 r1.2) ++ ((wWX5 cB cI cZ an20 r2.1 r2.2) ++ [((q27, .inr (5, [.null, .null, .null, .null, .null, .null])) : Nat × va_E)]))) := hD
  refine lv_dup hx hb dX11_init_30 rfl ?_
  obtain ⟨r3, hr3, hf⟩ := wb_b hf
  have hPc := hP.sub (ws' := ([((q27, .inr (5, [.null, .null, .null, .null, .null, .null])) : Nat × va_E)] : va_W)) [12] rfl
  have hDc := hD.sub (ws' := ([((q27, .inr (5, [.null, .null, .null, .null, .null, .null])) : Nat × va_E)] : va_W)) [12] (by decide) rfl
  have hFc := va_free (wc := ([((q27, .inr (5, [.null, .null, .null, .null, .null, .null])) : Nat × va_E)] : va_W)) hD hS hA [12] rfl
  refine va_callv (va_runI (As := []) (rest := [.ref q27, .ref h0]) ⟨hx, hb, hml, hown, hts⟩ (cn_X5_init l D cB cI cZ N q27 H.size r3 hr3) (cwI 0 hts gX11_init_X5_init rfl rfl rfl (hts (.initialized RX5) (List.mem_of_getElem? (i := 10) rfl)) (hts (.methodLink RX11 18 yX5_init) (List.mem_of_getElem? (i := 50) rfl)) (hts (.instanceMethod yX5_init) (List.mem_of_getElem? (i := 51) rfl)) rfl csX5_init ⟨Nat.le_of_ble_eq_true rfl, Nat.le_of_ble_eq_true rfl⟩) (wb_preNS hPc hK hDc (NW := [("WheelBook$House", 26, yX2_init, "WheelBook"), ("WheelBook$House", 33, yX4_init, "WheelBook")]) (fun w hw => hN w (by revert hw; revert w; decide +kernel))) rfl rfl hl.1 rfl (lv_room (Nat.le_of_ble_eq_true rfl)) dX11_init_31 ⟨Nat.le_of_ble_eq_true rfl, Nat.le_of_ble_eq_true rfl⟩) hS (fun q _ h => hFc q h) hFc (fun u t H locs ht hvm hw hB hz1 hk1 hS => ?_)
  obtain ⟨an31, han31, hB⟩ := hB
  obtain ⟨hP, hD⟩ := wj_s (wc := ([((q27, .inr (5, [.null, .null, .null, .null, .null, .null])) : Nat × va_E)] : va_W)) (w1 := wWX5 cB cI cZ an31 r3.1 r3.2) (wf := ([((h0, .inr (11, [.ref (an9 0), .ref (an20 0), .null, .null, .null, .null, .null, .null, .null, .null, .null, .null, .null])) : Nat × va_E)] ++ ((wWX9 cB cI cZ an9 r1.1 r1.2) ++ ((wWX5 cB cI cZ an20 r2.1 r2.2) ++ (wWX5 cB cI cZ an31 r3.1 r3.2))))) 12 13 hP hD rfl rfl hk1 hFc ht hB
  rw [show (q27 : Nat) = an31 0 from han31.symm]
  refine va_putF (D := D) (ci := 11) (v := .ref (an31 0)) (ty := (.object "WheelBook$House")) (C := RX11) (T := TX11) (N := 13) hx hb hts hinX11 tyX11 tyX11_ok nmX11 hown hK hP hD hS 0 rfl rfl 2 (by decide) (hts (.fieldLink RX11 23 "WheelBook" "draft" "LWheelBook$House;") (List.mem_of_getElem? (i := 12) rfl)) (fun _ h9 => h9) rfl hin0 rfl (by decide +kernel) rfl rfl (Nat.le_of_ble_eq_true rfl) dX11_init_34 (fun H locs hP hD hS => ?_)
  have hP : va_P D vwCl ([((h0, .inr (11, [.ref (an9 0), .ref (an20 0), .ref (an31 0), .null, .null, .null, .null, .null, .null, .null, .null, .null, .null])) : Nat × va_E)] ++ ((wWX9 cB cI cZ an9 r1.1 r1.2) ++ ((wWX5 cB cI cZ an20 r2.1 r2.2) ++ (wWX5 cB cI cZ an31 r3.1 r3.2)))) H := hP
  have hD : va_D A ([((h0, .inr (11, [.ref (an9 0), .ref (an20 0), .ref (an31 0), .null, .null, .null, .null, .null, .null, .null, .null, .null, .null])) : Nat × va_E)] ++ ((wWX9 cB cI cZ an9 r1.1 r1.2) ++ ((wWX5 cB cI cZ an20 r2.1 r2.2) ++ (wWX5 cB cI cZ an31 r3.1 r3.2)))) := hD
  refine lv_aload_n hx hb dX11_init_37 rfl (lv_at hl 0 rfl) ?_
  refine va_new (ci := 1) (fs := [.null, .null]) (C := RX1) (T := TX1) (N := 2) hx hb hts hinX1 tyX1 tyX1_ok hown (hts (.classLink RX11 26 RX1) (List.mem_of_getElem? (i := 13) rfl)) (hts (.instantiable RX1 2) (List.mem_of_getElem? (i := 14) rfl)) (hts (.initialized RX1) (List.mem_of_getElem? (i := 15) rfl)) hK hP hD hS hA rfl (fun j hj => wb_df2 (f := fun j => defaultValue (tyX1 j)) (g := fun j => vp_V [.null, .null] j) rfl rfl j hj) (Nat.le_of_ble_eq_true rfl) (Nat.le_of_ble_eq_true rfl) dX11_init_38 (fun q38 H hP hD hS => ?_)
  have hP : va_P D vwCl ([((h0, .inr (11, [.ref (an9 0), .ref (an20 0), .ref (an31 0), .null, .null, .null, .null, .null, .null, .null, .null, .null, .null])) : Nat × va_E)] ++ ((wWX9 cB cI cZ an9 r1.1 r1.2) ++ ((wWX5 cB cI cZ an20 r2.1 r2.2) ++ ((wWX5 cB cI cZ an31 r3.1 r3.2) ++ [((q38, .inr (1, [.null, .null])) : Nat × va_E)])))) H := hP
  have hD : va_D A ([((h0, .inr (11, [.ref (an9 0), .ref (an20 0), .ref (an31 0), .null, .null, .null, .null, .null, .null, .null, .null, .null, .null])) : Nat × va_E)] ++ ((wWX9 cB cI cZ an9 r1.1 r1.2) ++ ((wWX5 cB cI cZ an20 r2.1 r2.2) ++ ((wWX5 cB cI cZ an31 r3.1 r3.2) ++ [((q38, .inr (1, [.null, .null])) : Nat × va_E)])))) := hD
  refine lv_dup hx hb dX11_init_41 rfl ?_
  obtain ⟨r4, hr4, hf⟩ := wb_b hf
  have hPc := hP.sub (ws' := ([((q38, .inr (1, [.null, .null])) : Nat × va_E)] : va_W)) [21] rfl
  have hDc := hD.sub (ws' := ([((q38, .inr (1, [.null, .null])) : Nat × va_E)] : va_W)) [21] (by decide) rfl
  have hFc := va_free (wc := ([((q38, .inr (1, [.null, .null])) : Nat × va_E)] : va_W)) hD hS hA [21] rfl
  refine va_callv (va_runI (As := []) (rest := [.ref q38, .ref h0]) ⟨hx, hb, hml, hown, hts⟩ (cn_X1_init l D cB cI cZ N q38 H.size r4 hr4) (cwI 0 hts gX11_init_X1_init rfl rfl rfl (hts (.initialized RX1) (List.mem_of_getElem? (i := 15) rfl)) (hts (.methodLink RX11 28 yX1_init) (List.mem_of_getElem? (i := 79) rfl)) (hts (.instanceMethod yX1_init) (List.mem_of_getElem? (i := 80) rfl)) rfl csX1_init ⟨Nat.le_of_ble_eq_true rfl, Nat.le_of_ble_eq_true rfl⟩) (wb_preNS hPc hK hDc (NW := []) (fun w hw => nomatch hw)) rfl rfl hl.1 rfl (lv_room (Nat.le_of_ble_eq_true rfl)) dX11_init_42 ⟨Nat.le_of_ble_eq_true rfl, Nat.le_of_ble_eq_true rfl⟩) hS (fun q _ h => hFc q h) hFc (fun u t H locs ht hvm hw hB hz1 hk1 hS => ?_)
  obtain ⟨an42, han42, hB⟩ := hB
  obtain ⟨hP, hD⟩ := wj_s (wc := ([((q38, .inr (1, [.null, .null])) : Nat × va_E)] : va_W)) (w1 := wWX1 cB cI cZ an42 r4.1 r4.2) (wf := ([((h0, .inr (11, [.ref (an9 0), .ref (an20 0), .ref (an31 0), .null, .null, .null, .null, .null, .null, .null, .null, .null, .null])) : Nat × va_E)] ++ ((wWX9 cB cI cZ an9 r1.1 r1.2) ++ ((wWX5 cB cI cZ an20 r2.1 r2.2) ++ ((wWX5 cB cI cZ an31 r3.1 r3.2) ++ (wWX1 cB cI cZ an42 r4.1 r4.2)))))) 21 22 hP hD rfl rfl hk1 hFc ht hB
  rw [show (q38 : Nat) = an42 0 from han42.symm]
  refine va_putF (D := D) (ci := 11) (v := .ref (an42 0)) (ty := (.object "WheelBook$Books")) (C := RX11) (T := TX11) (N := 13) hx hb hts hinX11 tyX11 tyX11_ok nmX11 hown hK hP hD hS 0 rfl rfl 3 (by decide) (hts (.fieldLink RX11 29 "WheelBook" "books" "LWheelBook$Books;") (List.mem_of_getElem? (i := 16) rfl)) (fun _ h9 => h9) rfl hin0 rfl (by decide +kernel) rfl rfl (Nat.le_of_ble_eq_true rfl) dX11_init_45 (fun H locs hP hD hS => ?_)
  have hP : va_P D vwCl ([((h0, .inr (11, [.ref (an9 0), .ref (an20 0), .ref (an31 0), .ref (an42 0), .null, .null, .null, .null, .null, .null, .null, .null, .null])) : Nat × va_E)] ++ ((wWX9 cB cI cZ an9 r1.1 r1.2) ++ ((wWX5 cB cI cZ an20 r2.1 r2.2) ++ ((wWX5 cB cI cZ an31 r3.1 r3.2) ++ (wWX1 cB cI cZ an42 r4.1 r4.2))))) H := hP
  have hD : va_D A ([((h0, .inr (11, [.ref (an9 0), .ref (an20 0), .ref (an31 0), .ref (an42 0), .null, .null, .null, .null, .null, .null, .null, .null, .null])) : Nat × va_E)] ++ ((wWX9 cB cI cZ an9 r1.1 r1.2) ++ ((wWX5 cB cI cZ an20 r2.1 r2.2) ++ ((wWX5 cB cI cZ an31 r3.1 r3.2) ++ (wWX1 cB cI cZ an42 r4.1 r4.2))))) := hD
  refine lv_aload_n hx hb dX11_init_48 rfl (lv_at hl 0 rfl) ?_
  refine va_new (ci := 3) (fs := [.null]) (C := RX3) (T := TX3) (N := 1) hx hb hts hinX3 tyX3 tyX3_ok hown (hts (.classLink RX11 33 RX3) (List.mem_of_getElem? (i := 17) rfl)) (hts (.instantiable RX3 1) (List.mem_of_getElem? (i := 18) rfl)) (hts (.initialized RX3) (List.mem_of_getElem? (i := 19) rfl)) hK hP hD hS hA rfl (fun j hj => wb_df1 (f := fun j => defaultValue (tyX3 j)) (g := fun j => vp_V [.null] j) rfl j hj) (Nat.le_of_ble_eq_true rfl) (Nat.le_of_ble_eq_true rfl) dX11_init_49 (fun q49 H hP hD hS => ?_)
  have hP : va_P D vwCl ([((h0, .inr (11, [.ref (an9 0), .ref (an20 0), .ref (an31 0), .ref (an42 0), .null, .null, .null, .null, .null, .null, .null, .null, .null])) : Nat × va_E)] ++ ((wWX9 cB cI cZ an9 r1.1 r1.2) ++ ((wWX5 cB cI cZ an20 r2.1 r2.2) ++ ((wWX5 cB cI cZ an31 r3.1 r3.2) ++ ((wWX1 cB cI cZ an42 r4.1 r4.2) ++ [((q49, .inr (3, [.null])) : Nat × va_E)]))))) H := hP
  have hD : va_D A ([((h0, .inr (11, [.ref (an9 0), .ref (an20 0), .ref (an31 0), .ref (an42 0), .null, .null, .null, .null, .null, .null, .null, .null, .null])) : Nat × va_E)] ++ ((wWX9 cB cI cZ an9 r1.1 r1.2) ++ ((wWX5 cB cI cZ an20 r2.1 r2.2) ++ ((wWX5 cB cI cZ an31 r3.1 r3.2) ++ ((wWX1 cB cI cZ an42 r4.1 r4.2) ++ [((q49, .inr (3, [.null])) : Nat × va_E)]))))) := hD
  refine lv_dup hx hb dX11_init_52 rfl ?_
  obtain ⟨r5, hr5, hf⟩ := wb_b hf
  have hPc := hP.sub (ws' := ([((q49, .inr (3, [.null])) : Nat × va_E)] : va_W)) [24] rfl
  have hDc := hD.sub (ws' := ([((q49, .inr (3, [.null])) : Nat × va_E)] : va_W)) [24] (by decide) rfl
  have hFc := va_free (wc := ([((q49, .inr (3, [.null])) : Nat × va_E)] : va_W)) hD hS hA [24] rfl
  refine va_callv (va_runIN (As := []) (rest := [.ref q49, .ref h0]) ⟨hx, hb, hml, hown, hts⟩ (cn_X3_init l D cB cI cZ N q49 H.size r5 hr5) ⟨va_cnB (host := "WheelBook") 0 hts gX11_init_X3_init_n35 rfl rfl rfl (hN ("WheelBook", 35, yX3_init, "WheelBook") (by decide +kernel)) (hts (.initialized RX3) (List.mem_of_getElem? (i := 19) rfl)) csX3_init ⟨Nat.le_of_ble_eq_true rfl, Nat.le_of_ble_eq_true rfl⟩, rfl, (hts (.instanceMethod yX3_init) (List.mem_of_getElem? (i := 86) rfl))⟩ (wb_preNS hPc hK hDc (NW := []) (fun w hw => nomatch hw)) rfl rfl hl.1 rfl (lv_room (Nat.le_of_ble_eq_true rfl)) dX11_init_53 ⟨Nat.le_of_ble_eq_true rfl, Nat.le_of_ble_eq_true rfl⟩) hS (fun q _ h => hFc q h) hFc (fun u t H locs ht hvm hw hB hz1 hk1 hS => ?_)
  obtain ⟨an53, han53, hB⟩ := hB
  obtain ⟨hP, hD⟩ := wj_s (wc := ([((q49, .inr (3, [.null])) : Nat × va_E)] : va_W)) (w1 := wWX3 cB cI cZ an53 r5.1 r5.2) (wf := ([((h0, .inr (11, [.ref (an9 0), .ref (an20 0), .ref (an31 0), .ref (an42 0), .null, .null, .null, .null, .null, .null, .null, .null, .null])) : Nat × va_E)] ++ ((wWX9 cB cI cZ an9 r1.1 r1.2) ++ ((wWX5 cB cI cZ an20 r2.1 r2.2) ++ ((wWX5 cB cI cZ an31 r3.1 r3.2) ++ ((wWX1 cB cI cZ an42 r4.1 r4.2) ++ (wWX3 cB cI cZ an53 r5.1 r5.2))))))) 24 25 hP hD rfl rfl hk1 hFc ht hB
  rw [show (q49 : Nat) = an53 0 from han53.symm]
  refine va_putF (D := D) (ci := 11) (v := .ref (an53 0)) (ty := (.object "WheelBook$Fit")) (C := RX11) (T := TX11) (N := 13) hx hb hts hinX11 tyX11 tyX11_ok nmX11 hown hK hP hD hS 0 rfl rfl 4 (by decide) (hts (.fieldLink RX11 36 "WheelBook" "fit" "LWheelBook$Fit;") (List.mem_of_getElem? (i := 20) rfl)) (fun _ h9 => h9) rfl hin0 rfl (by decide +kernel) rfl rfl (Nat.le_of_ble_eq_true rfl) dX11_init_56 (fun H locs hP hD hS => ?_)
  have hP : va_P D vwCl ([((h0, .inr (11, [.ref (an9 0), .ref (an20 0), .ref (an31 0), .ref (an42 0), .ref (an53 0), .null, .null, .null, .null, .null, .null, .null, .null])) : Nat × va_E)] ++ ((wWX9 cB cI cZ an9 r1.1 r1.2) ++ ((wWX5 cB cI cZ an20 r2.1 r2.2) ++ ((wWX5 cB cI cZ an31 r3.1 r3.2) ++ ((wWX1 cB cI cZ an42 r4.1 r4.2) ++ (wWX3 cB cI cZ an53 r5.1 r5.2)))))) H := hP
  have hD : va_D A ([((h0, .inr (11, [.ref (an9 0), .ref (an20 0), .ref (an31 0), .ref (an42 0), .ref (an53 0), .null, .null, .null, .null, .null, .null, .null, .null])) : Nat × va_E)] ++ ((wWX9 cB cI cZ an9 r1.1 r1.2) ++ ((wWX5 cB cI cZ an20 r2.1 r2.2) ++ ((wWX5 cB cI cZ an31 r3.1 r3.2) ++ ((wWX1 cB cI cZ an42 r4.1 r4.2) ++ (wWX3 cB cI cZ an53 r5.1 r5.2)))))) := hD
  refine lv_aload_n hx hb dX11_init_59 rfl (lv_at hl 0 rfl) ?_
  refine va_new (ci := 8) (fs := [.int 0, .int 0, .int 0, .int 0, .int 0, .int 0, .int 0, .null]) (C := RX8) (T := TX8) (N := 8) hx hb hts hinX8 tyX8 tyX8_ok hown (hts (.classLink RX11 40 RX8) (List.mem_of_getElem? (i := 21) rfl)) (hts (.instantiable RX8 8) (List.mem_of_getElem? (i := 22) rfl)) (hts (.initialized RX8) (List.mem_of_getElem? (i := 23) rfl)) hK hP hD hS hA rfl (fun j hj => wb_df8 (f := fun j => defaultValue (tyX8 j)) (g := fun j => vp_V [.int 0, .int 0, .int 0, .int 0, .int 0, .int 0, .int 0, .null] j) rfl rfl rfl rfl rfl rfl rfl rfl j hj) (Nat.le_of_ble_eq_true rfl) (Nat.le_of_ble_eq_true rfl) dX11_init_60 (fun q60 H hP hD hS => ?_)
  have hP : va_P D vwCl ([((h0, .inr (11, [.ref (an9 0), .ref (an20 0), .ref (an31 0), .ref (an42 0), .ref (an53 0), .null, .null, .null, .null, .null, .null, .null, .null])) : Nat × va_E)] ++ ((wWX9 cB cI cZ an9 r1.1 r1.2) ++ ((wWX5 cB cI cZ an20 r2.1 r2.2) ++ ((wWX5 cB cI cZ an31 r3.1 r3.2) ++ ((wWX1 cB cI cZ an42 r4.1 r4.2) ++ ((wWX3 cB cI cZ an53 r5.1 r5.2) ++ [((q60, .inr (8, [.int 0, .int 0, .int 0, .int 0, .int 0, .int 0, .int 0, .null])) : Nat × va_E)])))))) H := hP
  have hD : va_D A ([((h0, .inr (11, [.ref (an9 0), .ref (an20 0), .ref (an31 0), .ref (an42 0), .ref (an53 0), .null, .null, .null, .null, .null, .null, .null, .null])) : Nat × va_E)] ++ ((wWX9 cB cI cZ an9 r1.1 r1.2) ++ ((wWX5 cB cI cZ an20 r2.1 r2.2) ++ ((wWX5 cB cI cZ an31 r3.1 r3.2) ++ ((wWX1 cB cI cZ an42 r4.1 r4.2) ++ ((wWX3 cB cI cZ an53 r5.1 r5.2) ++ [((q60, .inr (8, [.int 0, .int 0, .int 0, .int 0, .int 0, .int 0, .int 0, .null])) : Nat × va_E)])))))) := hD
  refine lv_dup hx hb dX11_init_63 rfl ?_
  obtain ⟨r6, hr6, hf⟩ := wb_b hf
  have hPc := hP.sub (ws' := ([((q60, .inr (8, [.int 0, .int 0, .int 0, .int 0, .int 0, .int 0, .int 0, .null])) : Nat × va_E)] : va_W)) [26] rfl
  have hDc := hD.sub (ws' := ([((q60, .inr (8, [.int 0, .int 0, .int 0, .int 0, .int 0, .int 0, .int 0, .null])) : Nat × va_E)] : va_W)) [26] (by decide) rfl
  have hFc := va_free (wc := ([((q60, .inr (8, [.int 0, .int 0, .int 0, .int 0, .int 0, .int 0, .int 0, .null])) : Nat × va_E)] : va_W)) hD hS hA [26] rfl
  refine va_callv (va_runIN (As := []) (rest := [.ref q60, .ref h0]) ⟨hx, hb, hml, hown, hts⟩ (cn_X8_init l D cB cI cZ N q60 H.size r6 hr6) ⟨va_cnB (host := "WheelBook") 0 hts gX11_init_X8_init_n42 rfl rfl rfl (hN ("WheelBook", 42, yX8_init, "WheelBook") (by decide +kernel)) (hts (.initialized RX8) (List.mem_of_getElem? (i := 23) rfl)) csX8_init ⟨Nat.le_of_ble_eq_true rfl, Nat.le_of_ble_eq_true rfl⟩, rfl, (hts (.instanceMethod yX8_init) (List.mem_of_getElem? (i := 90) rfl))⟩ (wb_preNS hPc hK hDc (NW := []) (fun w hw => nomatch hw)) rfl rfl hl.1 rfl (lv_room (Nat.le_of_ble_eq_true rfl)) dX11_init_64 ⟨Nat.le_of_ble_eq_true rfl, Nat.le_of_ble_eq_true rfl⟩) hS (fun q _ h => hFc q h) hFc (fun u t H locs ht hvm hw hB hz1 hk1 hS => ?_)
  obtain ⟨an64, han64, hB⟩ := hB
  obtain ⟨hP, hD⟩ := wj_s (wc := ([((q60, .inr (8, [.int 0, .int 0, .int 0, .int 0, .int 0, .int 0, .int 0, .null])) : Nat × va_E)] : va_W)) (w1 := wWX8 cB cI cZ an64 r6.1 r6.2) (wf := ([((h0, .inr (11, [.ref (an9 0), .ref (an20 0), .ref (an31 0), .ref (an42 0), .ref (an53 0), .null, .null, .null, .null, .null, .null, .null, .null])) : Nat × va_E)] ++ ((wWX9 cB cI cZ an9 r1.1 r1.2) ++ ((wWX5 cB cI cZ an20 r2.1 r2.2) ++ ((wWX5 cB cI cZ an31 r3.1 r3.2) ++ ((wWX1 cB cI cZ an42 r4.1 r4.2) ++ ((wWX3 cB cI cZ an53 r5.1 r5.2) ++ (wWX8 cB cI cZ an64 r6.1 r6.2)))))))) 26 27 hP hD rfl rfl hk1 hFc ht hB
  rw [show (q60 : Nat) = an64 0 from han64.symm]
  refine va_putF (D := D) (ci := 11) (v := .ref (an64 0)) (ty := (.object "WheelBook$Search")) (C := RX11) (T := TX11) (N := 13) hx hb hts hinX11 tyX11 tyX11_ok nmX11 hown hK hP hD hS 0 rfl rfl 5 (by decide) (hts (.fieldLink RX11 43 "WheelBook" "latestBest" "LWheelBook$Search;") (List.mem_of_getElem? (i := 24) rfl)) (fun _ h9 => h9) rfl hin0 rfl (by decide +kernel) rfl rfl (Nat.le_of_ble_eq_true rfl) dX11_init_67 (fun H locs hP hD hS => ?_)
  have hP : va_P D vwCl ([((h0, .inr (11, [.ref (an9 0), .ref (an20 0), .ref (an31 0), .ref (an42 0), .ref (an53 0), .ref (an64 0), .null, .null, .null, .null, .null, .null, .null])) : Nat × va_E)] ++ ((wWX9 cB cI cZ an9 r1.1 r1.2) ++ ((wWX5 cB cI cZ an20 r2.1 r2.2) ++ ((wWX5 cB cI cZ an31 r3.1 r3.2) ++ ((wWX1 cB cI cZ an42 r4.1 r4.2) ++ ((wWX3 cB cI cZ an53 r5.1 r5.2) ++ (wWX8 cB cI cZ an64 r6.1 r6.2))))))) H := hP
  have hD : va_D A ([((h0, .inr (11, [.ref (an9 0), .ref (an20 0), .ref (an31 0), .ref (an42 0), .ref (an53 0), .ref (an64 0), .null, .null, .null, .null, .null, .null, .null])) : Nat × va_E)] ++ ((wWX9 cB cI cZ an9 r1.1 r1.2) ++ ((wWX5 cB cI cZ an20 r2.1 r2.2) ++ ((wWX5 cB cI cZ an31 r3.1 r3.2) ++ ((wWX1 cB cI cZ an42 r4.1 r4.2) ++ ((wWX3 cB cI cZ an53 r5.1 r5.2) ++ (wWX8 cB cI cZ an64 r6.1 r6.2))))))) := hD
  refine lv_aload_n hx hb dX11_init_70 rfl (lv_at hl 0 rfl) ?_
  refine va_new (ci := 8) (fs := [.int 0, .int 0, .int 0, .int 0, .int 0, .int 0, .int 0, .null]) (C := RX8) (T := TX8) (N := 8) hx hb hts hinX8 tyX8 tyX8_ok hown (hts (.classLink RX11 40 RX8) (List.mem_of_getElem? (i := 21) rfl)) (hts (.instantiable RX8 8) (List.mem_of_getElem? (i := 22) rfl)) (hts (.initialized RX8) (List.mem_of_getElem? (i := 23) rfl)) hK hP hD hS hA rfl (fun j hj => wb_df8 (f := fun j => defaultValue (tyX8 j)) (g := fun j => vp_V [.int 0, .int 0, .int 0, .int 0, .int 0, .int 0, .int 0, .null] j) rfl rfl rfl rfl rfl rfl rfl rfl j hj) (Nat.le_of_ble_eq_true rfl) (Nat.le_of_ble_eq_true rfl) dX11_init_71 (fun q71 H hP hD hS => ?_)
  have hP : va_P D vwCl ([((h0, .inr (11, [.ref (an9 0), .ref (an20 0), .ref (an31 0), .ref (an42 0), .ref (an53 0), .ref (an64 0), .null, .null, .null, .null, .null, .null, .null])) : Nat × va_E)] ++ ((wWX9 cB cI cZ an9 r1.1 r1.2) ++ ((wWX5 cB cI cZ an20 r2.1 r2.2) ++ ((wWX5 cB cI cZ an31 r3.1 r3.2) ++ ((wWX1 cB cI cZ an42 r4.1 r4.2) ++ ((wWX3 cB cI cZ an53 r5.1 r5.2) ++ ((wWX8 cB cI cZ an64 r6.1 r6.2) ++ [((q71, .inr (8, [.int 0, .int 0, .int 0, .int 0, .int 0, .int 0, .int 0, .null])) : Nat × va_E)]))))))) H := hP
  have hD : va_D A ([((h0, .inr (11, [.ref (an9 0), .ref (an20 0), .ref (an31 0), .ref (an42 0), .ref (an53 0), .ref (an64 0), .null, .null, .null, .null, .null, .null, .null])) : Nat × va_E)] ++ ((wWX9 cB cI cZ an9 r1.1 r1.2) ++ ((wWX5 cB cI cZ an20 r2.1 r2.2) ++ ((wWX5 cB cI cZ an31 r3.1 r3.2) ++ ((wWX1 cB cI cZ an42 r4.1 r4.2) ++ ((wWX3 cB cI cZ an53 r5.1 r5.2) ++ ((wWX8 cB cI cZ an64 r6.1 r6.2) ++ [((q71, .inr (8, [.int 0, .int 0, .int 0, .int 0, .int 0, .int 0, .int 0, .null])) : Nat × va_E)]))))))) := hD
  refine lv_dup hx hb dX11_init_74 rfl ?_
  obtain ⟨r7, hr7, hf⟩ := wb_b hf
  have hPc := hP.sub (ws' := ([((q71, .inr (8, [.int 0, .int 0, .int 0, .int 0, .int 0, .int 0, .int 0, .null])) : Nat × va_E)] : va_W)) [28] rfl
  have hDc := hD.sub (ws' := ([((q71, .inr (8, [.int 0, .int 0, .int 0, .int 0, .int 0, .int 0, .int 0, .null])) : Nat × va_E)] : va_W)) [28] (by decide) rfl
  have hFc := va_free (wc := ([((q71, .inr (8, [.int 0, .int 0, .int 0, .int 0, .int 0, .int 0, .int 0, .null])) : Nat × va_E)] : va_W)) hD hS hA [28] rfl
  refine va_callv (va_runIN (As := []) (rest := [.ref q71, .ref h0]) ⟨hx, hb, hml, hown, hts⟩ (cn_X8_init l D cB cI cZ N q71 H.size r7 hr7) ⟨va_cnB (host := "WheelBook") 0 hts gX11_init_X8_init_n42 rfl rfl rfl (hN ("WheelBook", 42, yX8_init, "WheelBook") (by decide +kernel)) (hts (.initialized RX8) (List.mem_of_getElem? (i := 23) rfl)) csX8_init ⟨Nat.le_of_ble_eq_true rfl, Nat.le_of_ble_eq_true rfl⟩, rfl, (hts (.instanceMethod yX8_init) (List.mem_of_getElem? (i := 90) rfl))⟩ (wb_preNS hPc hK hDc (NW := []) (fun w hw => nomatch hw)) rfl rfl hl.1 rfl (lv_room (Nat.le_of_ble_eq_true rfl)) dX11_init_75 ⟨Nat.le_of_ble_eq_true rfl, Nat.le_of_ble_eq_true rfl⟩) hS (fun q _ h => hFc q h) hFc (fun u t H locs ht hvm hw hB hz1 hk1 hS => ?_)
  obtain ⟨an75, han75, hB⟩ := hB
  obtain ⟨hP, hD⟩ := wj_s (wc := ([((q71, .inr (8, [.int 0, .int 0, .int 0, .int 0, .int 0, .int 0, .int 0, .null])) : Nat × va_E)] : va_W)) (w1 := wWX8 cB cI cZ an75 r7.1 r7.2) (wf := ([((h0, .inr (11, [.ref (an9 0), .ref (an20 0), .ref (an31 0), .ref (an42 0), .ref (an53 0), .ref (an64 0), .null, .null, .null, .null, .null, .null, .null])) : Nat × va_E)] ++ ((wWX9 cB cI cZ an9 r1.1 r1.2) ++ ((wWX5 cB cI cZ an20 r2.1 r2.2) ++ ((wWX5 cB cI cZ an31 r3.1 r3.2) ++ ((wWX1 cB cI cZ an42 r4.1 r4.2) ++ ((wWX3 cB cI cZ an53 r5.1 r5.2) ++ ((wWX8 cB cI cZ an64 r6.1 r6.2) ++ (wWX8 cB cI cZ an75 r7.1 r7.2))))))))) 28 29 hP hD rfl rfl hk1 hFc ht hB
  rw [show (q71 : Nat) = an75 0 from han75.symm]
  refine va_putF (D := D) (ci := 11) (v := .ref (an75 0)) (ty := (.object "WheelBook$Search")) (C := RX11) (T := TX11) (N := 13) hx hb hts hinX11 tyX11 tyX11_ok nmX11 hown hK hP hD hS 0 rfl rfl 6 (by decide) (hts (.fieldLink RX11 47 "WheelBook" "trial" "LWheelBook$Search;") (List.mem_of_getElem? (i := 25) rfl)) (fun _ h9 => h9) rfl hin0 rfl (by decide +kernel) rfl rfl (Nat.le_of_ble_eq_true rfl) dX11_init_78 (fun H locs hP hD hS => ?_)
  have hP : va_P D vwCl ([((h0, .inr (11, [.ref (an9 0), .ref (an20 0), .ref (an31 0), .ref (an42 0), .ref (an53 0), .ref (an64 0), .ref (an75 0), .null, .null, .null, .null, .null, .null])) : Nat × va_E)] ++ ((wWX9 cB cI cZ an9 r1.1 r1.2) ++ ((wWX5 cB cI cZ an20 r2.1 r2.2) ++ ((wWX5 cB cI cZ an31 r3.1 r3.2) ++ ((wWX1 cB cI cZ an42 r4.1 r4.2) ++ ((wWX3 cB cI cZ an53 r5.1 r5.2) ++ ((wWX8 cB cI cZ an64 r6.1 r6.2) ++ (wWX8 cB cI cZ an75 r7.1 r7.2)))))))) H := hP
  have hD : va_D A ([((h0, .inr (11, [.ref (an9 0), .ref (an20 0), .ref (an31 0), .ref (an42 0), .ref (an53 0), .ref (an64 0), .ref (an75 0), .null, .null, .null, .null, .null, .null])) : Nat × va_E)] ++ ((wWX9 cB cI cZ an9 r1.1 r1.2) ++ ((wWX5 cB cI cZ an20 r2.1 r2.2) ++ ((wWX5 cB cI cZ an31 r3.1 r3.2) ++ ((wWX1 cB cI cZ an42 r4.1 r4.2) ++ ((wWX3 cB cI cZ an53 r5.1 r5.2) ++ ((wWX8 cB cI cZ an64 r6.1 r6.2) ++ (wWX8 cB cI cZ an75 r7.1 r7.2)))))))) := hD
  refine lv_aload_n hx hb dX11_init_81 rfl (lv_at hl 0 rfl) ?_
  refine va_new (ci := 8) (fs := [.int 0, .int 0, .int 0, .int 0, .int 0, .int 0, .int 0, .null]) (C := RX8) (T := TX8) (N := 8) hx hb hts hinX8 tyX8 tyX8_ok hown (hts (.classLink RX11 40 RX8) (List.mem_of_getElem? (i := 21) rfl)) (hts (.instantiable RX8 8) (List.mem_of_getElem? (i := 22) rfl)) (hts (.initialized RX8) (List.mem_of_getElem? (i := 23) rfl)) hK hP hD hS hA rfl (fun j hj => wb_df8 (f := fun j => defaultValue (tyX8 j)) (g := fun j => vp_V [.int 0, .int 0, .int 0, .int 0, .int 0, .int 0, .int 0, .null] j) rfl rfl rfl rfl rfl rfl rfl rfl j hj) (Nat.le_of_ble_eq_true rfl) (Nat.le_of_ble_eq_true rfl) dX11_init_82 (fun q82 H hP hD hS => ?_)
  have hP : va_P D vwCl ([((h0, .inr (11, [.ref (an9 0), .ref (an20 0), .ref (an31 0), .ref (an42 0), .ref (an53 0), .ref (an64 0), .ref (an75 0), .null, .null, .null, .null, .null, .null])) : Nat × va_E)] ++ ((wWX9 cB cI cZ an9 r1.1 r1.2) ++ ((wWX5 cB cI cZ an20 r2.1 r2.2) ++ ((wWX5 cB cI cZ an31 r3.1 r3.2) ++ ((wWX1 cB cI cZ an42 r4.1 r4.2) ++ ((wWX3 cB cI cZ an53 r5.1 r5.2) ++ ((wWX8 cB cI cZ an64 r6.1 r6.2) ++ ((wWX8 cB cI cZ an75 r7.1 r7.2) ++ [((q82, .inr (8, [.int 0, .int 0, .int 0, .int 0, .int 0, .int 0, .int 0, .null])) : Nat × va_E)])))))))) H := hP
  have hD : va_D A ([((h0, .inr (11, [.ref (an9 0), .ref (an20 0), .ref (an31 0), .ref (an42 0), .ref (an53 0), .ref (an64 0), .ref (an75 0), .null, .null, .null, .null, .null, .null])) : Nat × va_E)] ++ ((wWX9 cB cI cZ an9 r1.1 r1.2) ++ ((wWX5 cB cI cZ an20 r2.1 r2.2) ++ ((wWX5 cB cI cZ an31 r3.1 r3.2) ++ ((wWX1 cB cI cZ an42 r4.1 r4.2) ++ ((wWX3 cB cI cZ an53 r5.1 r5.2) ++ ((wWX8 cB cI cZ an64 r6.1 r6.2) ++ ((wWX8 cB cI cZ an75 r7.1 r7.2) ++ [((q82, .inr (8, [.int 0, .int 0, .int 0, .int 0, .int 0, .int 0, .int 0, .null])) : Nat × va_E)])))))))) := hD
  refine lv_dup hx hb dX11_init_85 rfl ?_
  obtain ⟨r8, hr8, hf⟩ := wb_b hf
  have hPc := hP.sub (ws' := ([((q82, .inr (8, [.int 0, .int 0, .int 0, .int 0, .int 0, .int 0, .int 0, .null])) : Nat × va_E)] : va_W)) [30] rfl
  have hDc := hD.sub (ws' := ([((q82, .inr (8, [.int 0, .int 0, .int 0, .int 0, .int 0, .int 0, .int 0, .null])) : Nat × va_E)] : va_W)) [30] (by decide) rfl
  have hFc := va_free (wc := ([((q82, .inr (8, [.int 0, .int 0, .int 0, .int 0, .int 0, .int 0, .int 0, .null])) : Nat × va_E)] : va_W)) hD hS hA [30] rfl
  refine va_callv (va_runIN (As := []) (rest := [.ref q82, .ref h0]) ⟨hx, hb, hml, hown, hts⟩ (cn_X8_init l D cB cI cZ N q82 H.size r8 hr8) ⟨va_cnB (host := "WheelBook") 0 hts gX11_init_X8_init_n42 rfl rfl rfl (hN ("WheelBook", 42, yX8_init, "WheelBook") (by decide +kernel)) (hts (.initialized RX8) (List.mem_of_getElem? (i := 23) rfl)) csX8_init ⟨Nat.le_of_ble_eq_true rfl, Nat.le_of_ble_eq_true rfl⟩, rfl, (hts (.instanceMethod yX8_init) (List.mem_of_getElem? (i := 90) rfl))⟩ (wb_preNS hPc hK hDc (NW := []) (fun w hw => nomatch hw)) rfl rfl hl.1 rfl (lv_room (Nat.le_of_ble_eq_true rfl)) dX11_init_86 ⟨Nat.le_of_ble_eq_true rfl, Nat.le_of_ble_eq_true rfl⟩) hS (fun q _ h => hFc q h) hFc (fun u t H locs ht hvm hw hB hz1 hk1 hS => ?_)
  obtain ⟨an86, han86, hB⟩ := hB
  obtain ⟨hP, hD⟩ := wj_s (wc := ([((q82, .inr (8, [.int 0, .int 0, .int 0, .int 0, .int 0, .int 0, .int 0, .null])) : Nat × va_E)] : va_W)) (w1 := wWX8 cB cI cZ an86 r8.1 r8.2) (wf := ([((h0, .inr (11, [.ref (an9 0), .ref (an20 0), .ref (an31 0), .ref (an42 0), .ref (an53 0), .ref (an64 0), .ref (an75 0), .null, .null, .null, .null, .null, .null])) : Nat × va_E)] ++ ((wWX9 cB cI cZ an9 r1.1 r1.2) ++ ((wWX5 cB cI cZ an20 r2.1 r2.2) ++ ((wWX5 cB cI cZ an31 r3.1 r3.2) ++ ((wWX1 cB cI cZ an42 r4.1 r4.2) ++ ((wWX3 cB cI cZ an53 r5.1 r5.2) ++ ((wWX8 cB cI cZ an64 r6.1 r6.2) ++ ((wWX8 cB cI cZ an75 r7.1 r7.2) ++ (wWX8 cB cI cZ an86 r8.1 r8.2)))))))))) 30 31 hP hD rfl rfl hk1 hFc ht hB
  rw [show (q82 : Nat) = an86 0 from han86.symm]
  refine va_putF (D := D) (ci := 11) (v := .ref (an86 0)) (ty := (.object "WheelBook$Search")) (C := RX11) (T := TX11) (N := 13) hx hb hts hinX11 tyX11 tyX11_ok nmX11 hown hK hP hD hS 0 rfl rfl 7 (by decide) (hts (.fieldLink RX11 50 "WheelBook" "search" "LWheelBook$Search;") (List.mem_of_getElem? (i := 26) rfl)) (fun _ h9 => h9) rfl hin0 rfl (by decide +kernel) rfl rfl (Nat.le_of_ble_eq_true rfl) dX11_init_89 (fun H locs hP hD hS => ?_)
  have hP : va_P D vwCl ([((h0, .inr (11, [.ref (an9 0), .ref (an20 0), .ref (an31 0), .ref (an42 0), .ref (an53 0), .ref (an64 0), .ref (an75 0), .ref (an86 0), .null, .null, .null, .null, .null])) : Nat × va_E)] ++ ((wWX9 cB cI cZ an9 r1.1 r1.2) ++ ((wWX5 cB cI cZ an20 r2.1 r2.2) ++ ((wWX5 cB cI cZ an31 r3.1 r3.2) ++ ((wWX1 cB cI cZ an42 r4.1 r4.2) ++ ((wWX3 cB cI cZ an53 r5.1 r5.2) ++ ((wWX8 cB cI cZ an64 r6.1 r6.2) ++ ((wWX8 cB cI cZ an75 r7.1 r7.2) ++ (wWX8 cB cI cZ an86 r8.1 r8.2))))))))) H := hP
  have hD : va_D A ([((h0, .inr (11, [.ref (an9 0), .ref (an20 0), .ref (an31 0), .ref (an42 0), .ref (an53 0), .ref (an64 0), .ref (an75 0), .ref (an86 0), .null, .null, .null, .null, .null])) : Nat × va_E)] ++ ((wWX9 cB cI cZ an9 r1.1 r1.2) ++ ((wWX5 cB cI cZ an20 r2.1 r2.2) ++ ((wWX5 cB cI cZ an31 r3.1 r3.2) ++ ((wWX1 cB cI cZ an42 r4.1 r4.2) ++ ((wWX3 cB cI cZ an53 r5.1 r5.2) ++ ((wWX8 cB cI cZ an64 r6.1 r6.2) ++ ((wWX8 cB cI cZ an75 r7.1 r7.2) ++ (wWX8 cB cI cZ an86 r8.1 r8.2))))))))) := hD
  refine lv_aload_n hx hb dX11_init_92 rfl (lv_at hl 0 rfl) ?_
  refine va_new (ci := 8) (fs := [.int 0, .int 0, .int 0, .int 0, .int 0, .int 0, .int 0, .null]) (C := RX8) (T := TX8) (N := 8) hx hb hts hinX8 tyX8 tyX8_ok hown (hts (.classLink RX11 40 RX8) (List.mem_of_getElem? (i := 21) rfl)) (hts (.instantiable RX8 8) (List.mem_of_getElem? (i := 22) rfl)) (hts (.initialized RX8) (List.mem_of_getElem? (i := 23) rfl)) hK hP hD hS hA rfl (fun j hj => wb_df8 (f := fun j => defaultValue (tyX8 j)) (g := fun j => vp_V [.int 0, .int 0, .int 0, .int 0, .int 0, .int 0, .int 0, .null] j) rfl rfl rfl rfl rfl rfl rfl rfl j hj) (Nat.le_of_ble_eq_true rfl) (Nat.le_of_ble_eq_true rfl) dX11_init_93 (fun q93 H hP hD hS => ?_)
  have hP : va_P D vwCl ([((h0, .inr (11, [.ref (an9 0), .ref (an20 0), .ref (an31 0), .ref (an42 0), .ref (an53 0), .ref (an64 0), .ref (an75 0), .ref (an86 0), .null, .null, .null, .null, .null])) : Nat × va_E)] ++ ((wWX9 cB cI cZ an9 r1.1 r1.2) ++ ((wWX5 cB cI cZ an20 r2.1 r2.2) ++ ((wWX5 cB cI cZ an31 r3.1 r3.2) ++ ((wWX1 cB cI cZ an42 r4.1 r4.2) ++ ((wWX3 cB cI cZ an53 r5.1 r5.2) ++ ((wWX8 cB cI cZ an64 r6.1 r6.2) ++ ((wWX8 cB cI cZ an75 r7.1 r7.2) ++ ((wWX8 cB cI cZ an86 r8.1 r8.2) ++ [((q93, .inr (8, [.int 0, .int 0, .int 0, .int 0, .int 0, .int 0, .int 0, .null])) : Nat × va_E)]))))))))) H := hP
  have hD : va_D A ([((h0, .inr (11, [.ref (an9 0), .ref (an20 0), .ref (an31 0), .ref (an42 0), .ref (an53 0), .ref (an64 0), .ref (an75 0), .ref (an86 0), .null, .null, .null, .null, .null])) : Nat × va_E)] ++ ((wWX9 cB cI cZ an9 r1.1 r1.2) ++ ((wWX5 cB cI cZ an20 r2.1 r2.2) ++ ((wWX5 cB cI cZ an31 r3.1 r3.2) ++ ((wWX1 cB cI cZ an42 r4.1 r4.2) ++ ((wWX3 cB cI cZ an53 r5.1 r5.2) ++ ((wWX8 cB cI cZ an64 r6.1 r6.2) ++ ((wWX8 cB cI cZ an75 r7.1 r7.2) ++ ((wWX8 cB cI cZ an86 r8.1 r8.2) ++ [((q93, .inr (8, [.int 0, .int 0, .int 0, .int 0, .int 0, .int 0, .int 0, .null])) : Nat × va_E)]))))))))) := hD
  refine lv_dup hx hb dX11_init_96 rfl ?_
  obtain ⟨r9b, hr9b, hf⟩ := wb_b hf
  have hPc := hP.sub (ws' := ([((q93, .inr (8, [.int 0, .int 0, .int 0, .int 0, .int 0, .int 0, .int 0, .null])) : Nat × va_E)] : va_W)) [32] rfl
  have hDc := hD.sub (ws' := ([((q93, .inr (8, [.int 0, .int 0, .int 0, .int 0, .int 0, .int 0, .int 0, .null])) : Nat × va_E)] : va_W)) [32] (by decide) rfl
  have hFc := va_free (wc := ([((q93, .inr (8, [.int 0, .int 0, .int 0, .int 0, .int 0, .int 0, .int 0, .null])) : Nat × va_E)] : va_W)) hD hS hA [32] rfl
  refine va_callv (va_runIN (As := []) (rest := [.ref q93, .ref h0]) ⟨hx, hb, hml, hown, hts⟩ (cn_X8_init l D cB cI cZ N q93 H.size r9b hr9b) ⟨va_cnB (host := "WheelBook") 0 hts gX11_init_X8_init_n42 rfl rfl rfl (hN ("WheelBook", 42, yX8_init, "WheelBook") (by decide +kernel)) (hts (.initialized RX8) (List.mem_of_getElem? (i := 23) rfl)) csX8_init ⟨Nat.le_of_ble_eq_true rfl, Nat.le_of_ble_eq_true rfl⟩, rfl, (hts (.instanceMethod yX8_init) (List.mem_of_getElem? (i := 90) rfl))⟩ (wb_preNS hPc hK hDc (NW := []) (fun w hw => nomatch hw)) rfl rfl hl.1 rfl (lv_room (Nat.le_of_ble_eq_true rfl)) dX11_init_97 ⟨Nat.le_of_ble_eq_true rfl, Nat.le_of_ble_eq_true rfl⟩) hS (fun q _ h => hFc q h) hFc (fun u t H locs ht hvm hw hB hz1 hk1 hS => ?_)
  obtain ⟨an97, han97, hB⟩ := hB
  obtain ⟨hP, hD⟩ := wj_s (wc := ([((q93, .inr (8, [.int 0, .int 0, .int 0, .int 0, .int 0, .int 0, .int 0, .null])) : Nat × va_E)] : va_W)) (w1 := wWX8 cB cI cZ an97 r9b.1 r9b.2) (wf := ([((h0, .inr (11, [.ref (an9 0), .ref (an20 0), .ref (an31 0), .ref (an42 0), .ref (an53 0), .ref (an64 0), .ref (an75 0), .ref (an86 0), .null, .null, .null, .null, .null])) : Nat × va_E)] ++ ((wWX9 cB cI cZ an9 r1.1 r1.2) ++ ((wWX5 cB cI cZ an20 r2.1 r2.2) ++ ((wWX5 cB cI cZ an31 r3.1 r3.2) ++ ((wWX1 cB cI cZ an42 r4.1 r4.2) ++ ((wWX3 cB cI cZ an53 r5.1 r5.2) ++ ((wWX8 cB cI cZ an64 r6.1 r6.2) ++ ((wWX8 cB cI cZ an75 r7.1 r7.2) ++ ((wWX8 cB cI cZ an86 r8.1 r8.2) ++ (wWX8 cB cI cZ an97 r9b.1 r9b.2))))))))))) 32 33 hP hD rfl rfl hk1 hFc ht hB
  rw [show (q93 : Nat) = an97 0 from han97.symm]
  refine va_putF (D := D) (ci := 11) (v := .ref (an97 0)) (ty := (.object "WheelBook$Search")) (C := RX11) (T := TX11) (N := 13) hx hb hts hinX11 tyX11 tyX11_ok nmX11 hown hK hP hD hS 0 rfl rfl 8 (by decide) (hts (.fieldLink RX11 53 "WheelBook" "kept" "LWheelBook$Search;") (List.mem_of_getElem? (i := 27) rfl)) (fun _ h9 => h9) rfl hin0 rfl (by decide +kernel) rfl rfl (Nat.le_of_ble_eq_true rfl) dX11_init_100 (fun H locs hP hD hS => ?_)
  have hP : va_P D vwCl ([((h0, .inr (11, [.ref (an9 0), .ref (an20 0), .ref (an31 0), .ref (an42 0), .ref (an53 0), .ref (an64 0), .ref (an75 0), .ref (an86 0), .ref (an97 0), .null, .null, .null, .null])) : Nat × va_E)] ++ ((wWX9 cB cI cZ an9 r1.1 r1.2) ++ ((wWX5 cB cI cZ an20 r2.1 r2.2) ++ ((wWX5 cB cI cZ an31 r3.1 r3.2) ++ ((wWX1 cB cI cZ an42 r4.1 r4.2) ++ ((wWX3 cB cI cZ an53 r5.1 r5.2) ++ ((wWX8 cB cI cZ an64 r6.1 r6.2) ++ ((wWX8 cB cI cZ an75 r7.1 r7.2) ++ ((wWX8 cB cI cZ an86 r8.1 r8.2) ++ (wWX8 cB cI cZ an97 r9b.1 r9b.2)))))))))) H := hP
  have hD : va_D A ([((h0, .inr (11, [.ref (an9 0), .ref (an20 0), .ref (an31 0), .ref (an42 0), .ref (an53 0), .ref (an64 0), .ref (an75 0), .ref (an86 0), .ref (an97 0), .null, .null, .null, .null])) : Nat × va_E)] ++ ((wWX9 cB cI cZ an9 r1.1 r1.2) ++ ((wWX5 cB cI cZ an20 r2.1 r2.2) ++ ((wWX5 cB cI cZ an31 r3.1 r3.2) ++ ((wWX1 cB cI cZ an42 r4.1 r4.2) ++ ((wWX3 cB cI cZ an53 r5.1 r5.2) ++ ((wWX8 cB cI cZ an64 r6.1 r6.2) ++ ((wWX8 cB cI cZ an75 r7.1 r7.2) ++ ((wWX8 cB cI cZ an86 r8.1 r8.2) ++ (wWX8 cB cI cZ an97 r9b.1 r9b.2)))))))))) := hD
  refine lv_aload_n hx hb dX11_init_103 rfl (lv_at hl 0 rfl) ?_
  refine va_new (ci := 10) (fs := [.null, .null, .null, .int 0, .int 0]) (C := RX10) (T := TX10) (N := 5) hx hb hts hinX10 tyX10 tyX10_ok hown (hts (.classLink RX11 56 RX10) (List.mem_of_getElem? (i := 28) rfl)) (hts (.instantiable RX10 5) (List.mem_of_getElem? (i := 29) rfl)) (hts (.initialized RX10) (List.mem_of_getElem? (i := 30) rfl)) hK hP hD hS hA rfl (fun j hj => wb_df5 (f := fun j => defaultValue (tyX10 j)) (g := fun j => vp_V [.null, .null, .null, .int 0, .int 0] j) rfl rfl rfl rfl rfl j hj) (Nat.le_of_ble_eq_true rfl) (Nat.le_of_ble_eq_true rfl) dX11_init_104 (fun q104 H hP hD hS => ?_)
  have hP : va_P D vwCl ([((h0, .inr (11, [.ref (an9 0), .ref (an20 0), .ref (an31 0), .ref (an42 0), .ref (an53 0), .ref (an64 0), .ref (an75 0), .ref (an86 0), .ref (an97 0), .null, .null, .null, .null])) : Nat × va_E)] ++ ((wWX9 cB cI cZ an9 r1.1 r1.2) ++ ((wWX5 cB cI cZ an20 r2.1 r2.2) ++ ((wWX5 cB cI cZ an31 r3.1 r3.2) ++ ((wWX1 cB cI cZ an42 r4.1 r4.2) ++ ((wWX3 cB cI cZ an53 r5.1 r5.2) ++ ((wWX8 cB cI cZ an64 r6.1 r6.2) ++ ((wWX8 cB cI cZ an75 r7.1 r7.2) ++ ((wWX8 cB cI cZ an86 r8.1 r8.2) ++ ((wWX8 cB cI cZ an97 r9b.1 r9b.2) ++ [((q104, .inr (10, [.null, .null, .null, .int 0, .int 0])) : Nat × va_E)])))))))))) H := hP
  have hD : va_D A ([((h0, .inr (11, [.ref (an9 0), .ref (an20 0), .ref (an31 0), .ref (an42 0), .ref (an53 0), .ref (an64 0), .ref (an75 0), .ref (an86 0), .ref (an97 0), .null, .null, .null, .null])) : Nat × va_E)] ++ ((wWX9 cB cI cZ an9 r1.1 r1.2) ++ ((wWX5 cB cI cZ an20 r2.1 r2.2) ++ ((wWX5 cB cI cZ an31 r3.1 r3.2) ++ ((wWX1 cB cI cZ an42 r4.1 r4.2) ++ ((wWX3 cB cI cZ an53 r5.1 r5.2) ++ ((wWX8 cB cI cZ an64 r6.1 r6.2) ++ ((wWX8 cB cI cZ an75 r7.1 r7.2) ++ ((wWX8 cB cI cZ an86 r8.1 r8.2) ++ ((wWX8 cB cI cZ an97 r9b.1 r9b.2) ++ [((q104, .inr (10, [.null, .null, .null, .int 0, .int 0])) : Nat × va_E)])))))))))) := hD
  refine lv_dup hx hb dX11_init_107 rfl ?_
  obtain ⟨r10, hr10, hf⟩ := wb_b hf
  have hPc := hP.sub (ws' := ([((q104, .inr (10, [.null, .null, .null, .int 0, .int 0])) : Nat × va_E)] : va_W)) [34] rfl
  have hDc := hD.sub (ws' := ([((q104, .inr (10, [.null, .null, .null, .int 0, .int 0])) : Nat × va_E)] : va_W)) [34] (by decide) rfl
  have hFc := va_free (wc := ([((q104, .inr (10, [.null, .null, .null, .int 0, .int 0])) : Nat × va_E)] : va_W)) hD hS hA [34] rfl
  refine va_callv (va_runIN (As := []) (rest := [.ref q104, .ref h0]) ⟨hx, hb, hml, hown, hts⟩ (cn_X10_init l D cB cI cZ N q104 H.size r10 hr10) ⟨va_cnB (host := "WheelBook") 0 hts gX11_init_X10_init_n58 rfl rfl rfl (hN ("WheelBook", 58, yX10_init, "WheelBook") (by decide +kernel)) (hts (.initialized RX10) (List.mem_of_getElem? (i := 30) rfl)) csX10_init ⟨Nat.le_of_ble_eq_true rfl, Nat.le_of_ble_eq_true rfl⟩, rfl, (hts (.instanceMethod yX10_init) (List.mem_of_getElem? (i := 94) rfl))⟩ (wb_preNS hPc hK hDc (NW := []) (fun w hw => nomatch hw)) rfl rfl hl.1 rfl (lv_room (Nat.le_of_ble_eq_true rfl)) dX11_init_108 ⟨Nat.le_of_ble_eq_true rfl, Nat.le_of_ble_eq_true rfl⟩) hS (fun q _ h => hFc q h) hFc (fun u t H locs ht hvm hw hB hz1 hk1 hS => ?_)
  obtain ⟨an108, han108, hB⟩ := hB
  obtain ⟨hP, hD⟩ := wj_s (wc := ([((q104, .inr (10, [.null, .null, .null, .int 0, .int 0])) : Nat × va_E)] : va_W)) (w1 := wWX10 cB cI cZ an108 r10.1 r10.2) (wf := ([((h0, .inr (11, [.ref (an9 0), .ref (an20 0), .ref (an31 0), .ref (an42 0), .ref (an53 0), .ref (an64 0), .ref (an75 0), .ref (an86 0), .ref (an97 0), .null, .null, .null, .null])) : Nat × va_E)] ++ ((wWX9 cB cI cZ an9 r1.1 r1.2) ++ ((wWX5 cB cI cZ an20 r2.1 r2.2) ++ ((wWX5 cB cI cZ an31 r3.1 r3.2) ++ ((wWX1 cB cI cZ an42 r4.1 r4.2) ++ ((wWX3 cB cI cZ an53 r5.1 r5.2) ++ ((wWX8 cB cI cZ an64 r6.1 r6.2) ++ ((wWX8 cB cI cZ an75 r7.1 r7.2) ++ ((wWX8 cB cI cZ an86 r8.1 r8.2) ++ ((wWX8 cB cI cZ an97 r9b.1 r9b.2) ++ (wWX10 cB cI cZ an108 r10.1 r10.2)))))))))))) 34 35 hP hD rfl rfl hk1 hFc ht hB
  rw [show (q104 : Nat) = an108 0 from han108.symm]
  refine va_putF (D := D) (ci := 11) (v := .ref (an108 0)) (ty := (.object "WheelBook$Tree")) (C := RX11) (T := TX11) (N := 13) hx hb hts hinX11 tyX11 tyX11_ok nmX11 hown hK hP hD hS 0 rfl rfl 9 (by decide) (hts (.fieldLink RX11 59 "WheelBook" "copies" "LWheelBook$Tree;") (List.mem_of_getElem? (i := 31) rfl)) (fun _ h9 => h9) rfl hin0 rfl (by decide +kernel) rfl rfl (Nat.le_of_ble_eq_true rfl) dX11_init_111 (fun H locs hP hD hS => ?_)
  have hP : va_P D vwCl ([((h0, .inr (11, [.ref (an9 0), .ref (an20 0), .ref (an31 0), .ref (an42 0), .ref (an53 0), .ref (an64 0), .ref (an75 0), .ref (an86 0), .ref (an97 0), .ref (an108 0), .null, .null, .null])) : Nat × va_E)] ++ ((wWX9 cB cI cZ an9 r1.1 r1.2) ++ ((wWX5 cB cI cZ an20 r2.1 r2.2) ++ ((wWX5 cB cI cZ an31 r3.1 r3.2) ++ ((wWX1 cB cI cZ an42 r4.1 r4.2) ++ ((wWX3 cB cI cZ an53 r5.1 r5.2) ++ ((wWX8 cB cI cZ an64 r6.1 r6.2) ++ ((wWX8 cB cI cZ an75 r7.1 r7.2) ++ ((wWX8 cB cI cZ an86 r8.1 r8.2) ++ ((wWX8 cB cI cZ an97 r9b.1 r9b.2) ++ (wWX10 cB cI cZ an108 r10.1 r10.2))))))))))) H := hP
  have hD : va_D A ([((h0, .inr (11, [.ref (an9 0), .ref (an20 0), .ref (an31 0), .ref (an42 0), .ref (an53 0), .ref (an64 0), .ref (an75 0), .ref (an86 0), .ref (an97 0), .ref (an108 0), .null, .null, .null])) : Nat × va_E)] ++ ((wWX9 cB cI cZ an9 r1.1 r1.2) ++ ((wWX5 cB cI cZ an20 r2.1 r2.2) ++ ((wWX5 cB cI cZ an31 r3.1 r3.2) ++ ((wWX1 cB cI cZ an42 r4.1 r4.2) ++ ((wWX3 cB cI cZ an53 r5.1 r5.2) ++ ((wWX8 cB cI cZ an64 r6.1 r6.2) ++ ((wWX8 cB cI cZ an75 r7.1 r7.2) ++ ((wWX8 cB cI cZ an86 r8.1 r8.2) ++ ((wWX8 cB cI cZ an97 r9b.1 r9b.2) ++ (wWX10 cB cI cZ an108 r10.1 r10.2))))))))))) := hD
  refine lv_aload_n hx hb dX11_init_114 rfl (lv_at hl 0 rfl) ?_
  refine va_new (ci := 6) (fs := [.null, .null, .null, .null]) (C := RX6) (T := TX6) (N := 4) hx hb hts hinX6 tyX6 tyX6_ok hown (hts (.classLink RX11 63 RX6) (List.mem_of_getElem? (i := 32) rfl)) (hts (.instantiable RX6 4) (List.mem_of_getElem? (i := 33) rfl)) (hts (.initialized RX6) (List.mem_of_getElem? (i := 34) rfl)) hK hP hD hS hA rfl (fun j hj => wb_df4 (f := fun j => defaultValue (tyX6 j)) (g := fun j => vp_V [.null, .null, .null, .null] j) rfl rfl rfl rfl j hj) (Nat.le_of_ble_eq_true rfl) (Nat.le_of_ble_eq_true rfl) dX11_init_115 (fun q115 H hP hD hS => ?_)
  have hP : va_P D vwCl ([((h0, .inr (11, [.ref (an9 0), .ref (an20 0), .ref (an31 0), .ref (an42 0), .ref (an53 0), .ref (an64 0), .ref (an75 0), .ref (an86 0), .ref (an97 0), .ref (an108 0), .null, .null, .null])) : Nat × va_E)] ++ ((wWX9 cB cI cZ an9 r1.1 r1.2) ++ ((wWX5 cB cI cZ an20 r2.1 r2.2) ++ ((wWX5 cB cI cZ an31 r3.1 r3.2) ++ ((wWX1 cB cI cZ an42 r4.1 r4.2) ++ ((wWX3 cB cI cZ an53 r5.1 r5.2) ++ ((wWX8 cB cI cZ an64 r6.1 r6.2) ++ ((wWX8 cB cI cZ an75 r7.1 r7.2) ++ ((wWX8 cB cI cZ an86 r8.1 r8.2) ++ ((wWX8 cB cI cZ an97 r9b.1 r9b.2) ++ ((wWX10 cB cI cZ an108 r10.1 r10.2) ++ [((q115, .inr (6, [.null, .null, .null, .null])) : Nat × va_E)]))))))))))) H := hP
  have hD : va_D A ([((h0, .inr (11, [.ref (an9 0), .ref (an20 0), .ref (an31 0), .ref (an42 0), .ref (an53 0), .ref (an64 0), .ref (an75 0), .ref (an86 0), .ref (an97 0), .ref (an108 0), .null, .null, .null])) : Nat × va_E)] ++ ((wWX9 cB cI cZ an9 r1.1 r1.2) ++ ((wWX5 cB cI cZ an20 r2.1 r2.2) ++ ((wWX5 cB cI cZ an31 r3.1 r3.2) ++ ((wWX1 cB cI cZ an42 r4.1 r4.2) ++ ((wWX3 cB cI cZ an53 r5.1 r5.2) ++ ((wWX8 cB cI cZ an64 r6.1 r6.2) ++ ((wWX8 cB cI cZ an75 r7.1 r7.2) ++ ((wWX8 cB cI cZ an86 r8.1 r8.2) ++ ((wWX8 cB cI cZ an97 r9b.1 r9b.2) ++ ((wWX10 cB cI cZ an108 r10.1 r10.2) ++ [((q115, .inr (6, [.null, .null, .null, .null])) : Nat × va_E)]))))))))))) := hD
  refine lv_dup hx hb dX11_init_118 rfl ?_
  obtain ⟨r11, hr11, hf⟩ := wb_b hf
  have hPc := hP.sub (ws' := ([((q115, .inr (6, [.null, .null, .null, .null])) : Nat × va_E)] : va_W)) [38] rfl
  have hDc := hD.sub (ws' := ([((q115, .inr (6, [.null, .null, .null, .null])) : Nat × va_E)] : va_W)) [38] (by decide) rfl
  have hFc := va_free (wc := ([((q115, .inr (6, [.null, .null, .null, .null])) : Nat × va_E)] : va_W)) hD hS hA [38] rfl
  refine va_callv (va_runIN (As := []) (rest := [.ref q115, .ref h0]) ⟨hx, hb, hml, hown, hts⟩ (cn_X6_init l D cB cI cZ N q115 H.size r11 hr11) ⟨va_cnB (host := "WheelBook") 0 hts gX11_init_X6_init_n65 rfl rfl rfl (hN ("WheelBook", 65, yX6_init, "WheelBook") (by decide +kernel)) (hts (.initialized RX6) (List.mem_of_getElem? (i := 34) rfl)) csX6_init ⟨Nat.le_of_ble_eq_true rfl, Nat.le_of_ble_eq_true rfl⟩, rfl, (hts (.instanceMethod yX6_init) (List.mem_of_getElem? (i := 100) rfl))⟩ (wb_preNS hPc hK hDc (NW := []) (fun w hw => nomatch hw)) rfl rfl hl.1 rfl (lv_room (Nat.le_of_ble_eq_true rfl)) dX11_init_119 ⟨Nat.le_of_ble_eq_true rfl, Nat.le_of_ble_eq_true rfl⟩) hS (fun q _ h => hFc q h) hFc (fun u t H locs ht hvm hw hB hz1 hk1 hS => ?_)
  obtain ⟨an119, han119, hB⟩ := hB
  obtain ⟨hP, hD⟩ := wj_s (wc := ([((q115, .inr (6, [.null, .null, .null, .null])) : Nat × va_E)] : va_W)) (w1 := wWX6 cB cI cZ an119 r11.1 r11.2) (wf := ([((h0, .inr (11, [.ref (an9 0), .ref (an20 0), .ref (an31 0), .ref (an42 0), .ref (an53 0), .ref (an64 0), .ref (an75 0), .ref (an86 0), .ref (an97 0), .ref (an108 0), .null, .null, .null])) : Nat × va_E)] ++ ((wWX9 cB cI cZ an9 r1.1 r1.2) ++ ((wWX5 cB cI cZ an20 r2.1 r2.2) ++ ((wWX5 cB cI cZ an31 r3.1 r3.2) ++ ((wWX1 cB cI cZ an42 r4.1 r4.2) ++ ((wWX3 cB cI cZ an53 r5.1 r5.2) ++ ((wWX8 cB cI cZ an64 r6.1 r6.2) ++ ((wWX8 cB cI cZ an75 r7.1 r7.2) ++ ((wWX8 cB cI cZ an86 r8.1 r8.2) ++ ((wWX8 cB cI cZ an97 r9b.1 r9b.2) ++ ((wWX10 cB cI cZ an108 r10.1 r10.2) ++ (wWX6 cB cI cZ an119 r11.1 r11.2))))))))))))) 38 39 hP hD rfl rfl hk1 hFc ht hB
  rw [show (q115 : Nat) = an119 0 from han119.symm]
  refine va_putF (D := D) (ci := 11) (v := .ref (an119 0)) (ty := (.object "WheelBook$Leaves")) (C := RX11) (T := TX11) (N := 13) hx hb hts hinX11 tyX11 tyX11_ok nmX11 hown hK hP hD hS 0 rfl rfl 10 (by decide) (hts (.fieldLink RX11 66 "WheelBook" "leaves" "LWheelBook$Leaves;") (List.mem_of_getElem? (i := 35) rfl)) (fun _ h9 => h9) rfl hin0 rfl (by decide +kernel) rfl rfl (Nat.le_of_ble_eq_true rfl) dX11_init_122 (fun H locs hP hD hS => ?_)
  have hP : va_P D vwCl ([((h0, .inr (11, [.ref (an9 0), .ref (an20 0), .ref (an31 0), .ref (an42 0), .ref (an53 0), .ref (an64 0), .ref (an75 0), .ref (an86 0), .ref (an97 0), .ref (an108 0), .ref (an119 0), .null, .null])) : Nat × va_E)] ++ ((wWX9 cB cI cZ an9 r1.1 r1.2) ++ ((wWX5 cB cI cZ an20 r2.1 r2.2) ++ ((wWX5 cB cI cZ an31 r3.1 r3.2) ++ ((wWX1 cB cI cZ an42 r4.1 r4.2) ++ ((wWX3 cB cI cZ an53 r5.1 r5.2) ++ ((wWX8 cB cI cZ an64 r6.1 r6.2) ++ ((wWX8 cB cI cZ an75 r7.1 r7.2) ++ ((wWX8 cB cI cZ an86 r8.1 r8.2) ++ ((wWX8 cB cI cZ an97 r9b.1 r9b.2) ++ ((wWX10 cB cI cZ an108 r10.1 r10.2) ++ (wWX6 cB cI cZ an119 r11.1 r11.2)))))))))))) H := hP
  have hD : va_D A ([((h0, .inr (11, [.ref (an9 0), .ref (an20 0), .ref (an31 0), .ref (an42 0), .ref (an53 0), .ref (an64 0), .ref (an75 0), .ref (an86 0), .ref (an97 0), .ref (an108 0), .ref (an119 0), .null, .null])) : Nat × va_E)] ++ ((wWX9 cB cI cZ an9 r1.1 r1.2) ++ ((wWX5 cB cI cZ an20 r2.1 r2.2) ++ ((wWX5 cB cI cZ an31 r3.1 r3.2) ++ ((wWX1 cB cI cZ an42 r4.1 r4.2) ++ ((wWX3 cB cI cZ an53 r5.1 r5.2) ++ ((wWX8 cB cI cZ an64 r6.1 r6.2) ++ ((wWX8 cB cI cZ an75 r7.1 r7.2) ++ ((wWX8 cB cI cZ an86 r8.1 r8.2) ++ ((wWX8 cB cI cZ an97 r9b.1 r9b.2) ++ ((wWX10 cB cI cZ an108 r10.1 r10.2) ++ (wWX6 cB cI cZ an119 r11.1 r11.2)))))))))))) := hD
  refine lv_aload_n hx hb dX11_init_125 rfl (lv_at hl 0 rfl) ?_
  refine va_new (ci := 0) (fs := [.null]) (C := RX0) (T := TX0) (N := 1) hx hb hts hinX0 tyX0 tyX0_ok hown (hts (.classLink RX11 70 RX0) (List.mem_of_getElem? (i := 36) rfl)) (hts (.instantiable RX0 1) (List.mem_of_getElem? (i := 37) rfl)) (hts (.initialized RX0) (List.mem_of_getElem? (i := 38) rfl)) hK hP hD hS hA rfl (fun j hj => wb_df1 (f := fun j => defaultValue (tyX0 j)) (g := fun j => vp_V [.null] j) rfl j hj) (Nat.le_of_ble_eq_true rfl) (Nat.le_of_ble_eq_true rfl) dX11_init_126 (fun q126 H hP hD hS => ?_)
  have hP : va_P D vwCl ([((h0, .inr (11, [.ref (an9 0), .ref (an20 0), .ref (an31 0), .ref (an42 0), .ref (an53 0), .ref (an64 0), .ref (an75 0), .ref (an86 0), .ref (an97 0), .ref (an108 0), .ref (an119 0), .null, .null])) : Nat × va_E)] ++ ((wWX9 cB cI cZ an9 r1.1 r1.2) ++ ((wWX5 cB cI cZ an20 r2.1 r2.2) ++ ((wWX5 cB cI cZ an31 r3.1 r3.2) ++ ((wWX1 cB cI cZ an42 r4.1 r4.2) ++ ((wWX3 cB cI cZ an53 r5.1 r5.2) ++ ((wWX8 cB cI cZ an64 r6.1 r6.2) ++ ((wWX8 cB cI cZ an75 r7.1 r7.2) ++ ((wWX8 cB cI cZ an86 r8.1 r8.2) ++ ((wWX8 cB cI cZ an97 r9b.1 r9b.2) ++ ((wWX10 cB cI cZ an108 r10.1 r10.2) ++ ((wWX6 cB cI cZ an119 r11.1 r11.2) ++ [((q126, .inr (0, [.null])) : Nat × va_E)])))))))))))) H := hP
  have hD : va_D A ([((h0, .inr (11, [.ref (an9 0), .ref (an20 0), .ref (an31 0), .ref (an42 0), .ref (an53 0), .ref (an64 0), .ref (an75 0), .ref (an86 0), .ref (an97 0), .ref (an108 0), .ref (an119 0), .null, .null])) : Nat × va_E)] ++ ((wWX9 cB cI cZ an9 r1.1 r1.2) ++ ((wWX5 cB cI cZ an20 r2.1 r2.2) ++ ((wWX5 cB cI cZ an31 r3.1 r3.2) ++ ((wWX1 cB cI cZ an42 r4.1 r4.2) ++ ((wWX3 cB cI cZ an53 r5.1 r5.2) ++ ((wWX8 cB cI cZ an64 r6.1 r6.2) ++ ((wWX8 cB cI cZ an75 r7.1 r7.2) ++ ((wWX8 cB cI cZ an86 r8.1 r8.2) ++ ((wWX8 cB cI cZ an97 r9b.1 r9b.2) ++ ((wWX10 cB cI cZ an108 r10.1 r10.2) ++ ((wWX6 cB cI cZ an119 r11.1 r11.2) ++ [((q126, .inr (0, [.null])) : Nat × va_E)])))))))))))) := hD
  refine lv_dup hx hb dX11_init_129 rfl ?_
  obtain ⟨r12, hr12, hf⟩ := wb_b hf
  have hPc := hP.sub (ws' := ([((q126, .inr (0, [.null])) : Nat × va_E)] : va_W)) [43] rfl
  have hDc := hD.sub (ws' := ([((q126, .inr (0, [.null])) : Nat × va_E)] : va_W)) [43] (by decide) rfl
  have hFc := va_free (wc := ([((q126, .inr (0, [.null])) : Nat × va_E)] : va_W)) hD hS hA [43] rfl
  refine va_callv (va_runIN (As := []) (rest := [.ref q126, .ref h0]) ⟨hx, hb, hml, hown, hts⟩ (cn_X0_init l D cB cI cZ N q126 H.size r12 hr12) ⟨va_cnB (host := "WheelBook") 0 hts gX11_init_X0_init_n72 rfl rfl rfl (hN ("WheelBook", 72, yX0_init, "WheelBook") (by decide +kernel)) (hts (.initialized RX0) (List.mem_of_getElem? (i := 38) rfl)) csX0_init ⟨Nat.le_of_ble_eq_true rfl, Nat.le_of_ble_eq_true rfl⟩, rfl, (hts (.instanceMethod yX0_init) (List.mem_of_getElem? (i := 107) rfl))⟩ (wb_preNS hPc hK hDc (NW := []) (fun w hw => nomatch hw)) rfl rfl hl.1 rfl (lv_room (Nat.le_of_ble_eq_true rfl)) dX11_init_130 ⟨Nat.le_of_ble_eq_true rfl, Nat.le_of_ble_eq_true rfl⟩) hS (fun q _ h => hFc q h) hFc (fun u t H locs ht hvm hw hB hz1 hk1 hS => ?_)
  obtain ⟨an130, han130, hB⟩ := hB
  obtain ⟨hP, hD⟩ := wj_s (wc := ([((q126, .inr (0, [.null])) : Nat × va_E)] : va_W)) (w1 := wWX0 cB cI cZ an130 r12.1 r12.2) (wf := ([((h0, .inr (11, [.ref (an9 0), .ref (an20 0), .ref (an31 0), .ref (an42 0), .ref (an53 0), .ref (an64 0), .ref (an75 0), .ref (an86 0), .ref (an97 0), .ref (an108 0), .ref (an119 0), .null, .null])) : Nat × va_E)] ++ ((wWX9 cB cI cZ an9 r1.1 r1.2) ++ ((wWX5 cB cI cZ an20 r2.1 r2.2) ++ ((wWX5 cB cI cZ an31 r3.1 r3.2) ++ ((wWX1 cB cI cZ an42 r4.1 r4.2) ++ ((wWX3 cB cI cZ an53 r5.1 r5.2) ++ ((wWX8 cB cI cZ an64 r6.1 r6.2) ++ ((wWX8 cB cI cZ an75 r7.1 r7.2) ++ ((wWX8 cB cI cZ an86 r8.1 r8.2) ++ ((wWX8 cB cI cZ an97 r9b.1 r9b.2) ++ ((wWX10 cB cI cZ an108 r10.1 r10.2) ++ ((wWX6 cB cI cZ an119 r11.1 r11.2) ++ (wWX0 cB cI cZ an130 r12.1 r12.2)))))))))))))) 43 44 hP hD rfl rfl hk1 hFc ht hB
  rw [show (q126 : Nat) = an130 0 from han130.symm]
  refine va_putF (D := D) (ci := 11) (v := .ref (an130 0)) (ty := (.object "WheelBook$Births")) (C := RX11) (T := TX11) (N := 13) hx hb hts hinX11 tyX11 tyX11_ok nmX11 hown hK hP hD hS 0 rfl rfl 11 (by decide) (hts (.fieldLink RX11 73 "WheelBook" "parts" "LWheelBook$Births;") (List.mem_of_getElem? (i := 39) rfl)) (fun _ h9 => h9) rfl hin0 rfl (by decide +kernel) rfl rfl (Nat.le_of_ble_eq_true rfl) dX11_init_133 (fun H locs hP hD hS => ?_)
  have hP : va_P D vwCl ([((h0, .inr (11, [.ref (an9 0), .ref (an20 0), .ref (an31 0), .ref (an42 0), .ref (an53 0), .ref (an64 0), .ref (an75 0), .ref (an86 0), .ref (an97 0), .ref (an108 0), .ref (an119 0), .ref (an130 0), .null])) : Nat × va_E)] ++ ((wWX9 cB cI cZ an9 r1.1 r1.2) ++ ((wWX5 cB cI cZ an20 r2.1 r2.2) ++ ((wWX5 cB cI cZ an31 r3.1 r3.2) ++ ((wWX1 cB cI cZ an42 r4.1 r4.2) ++ ((wWX3 cB cI cZ an53 r5.1 r5.2) ++ ((wWX8 cB cI cZ an64 r6.1 r6.2) ++ ((wWX8 cB cI cZ an75 r7.1 r7.2) ++ ((wWX8 cB cI cZ an86 r8.1 r8.2) ++ ((wWX8 cB cI cZ an97 r9b.1 r9b.2) ++ ((wWX10 cB cI cZ an108 r10.1 r10.2) ++ ((wWX6 cB cI cZ an119 r11.1 r11.2) ++ (wWX0 cB cI cZ an130 r12.1 r12.2))))))))))))) H := hP
  have hD : va_D A ([((h0, .inr (11, [.ref (an9 0), .ref (an20 0), .ref (an31 0), .ref (an42 0), .ref (an53 0), .ref (an64 0), .ref (an75 0), .ref (an86 0), .ref (an97 0), .ref (an108 0), .ref (an119 0), .ref (an130 0), .null])) : Nat × va_E)] ++ ((wWX9 cB cI cZ an9 r1.1 r1.2) ++ ((wWX5 cB cI cZ an20 r2.1 r2.2) ++ ((wWX5 cB cI cZ an31 r3.1 r3.2) ++ ((wWX1 cB cI cZ an42 r4.1 r4.2) ++ ((wWX3 cB cI cZ an53 r5.1 r5.2) ++ ((wWX8 cB cI cZ an64 r6.1 r6.2) ++ ((wWX8 cB cI cZ an75 r7.1 r7.2) ++ ((wWX8 cB cI cZ an86 r8.1 r8.2) ++ ((wWX8 cB cI cZ an97 r9b.1 r9b.2) ++ ((wWX10 cB cI cZ an108 r10.1 r10.2) ++ ((wWX6 cB cI cZ an119 r11.1 r11.2) ++ (wWX0 cB cI cZ an130 r12.1 r12.2))))))))))))) := hD
  refine lv_aload_n hx hb dX11_init_136 rfl (lv_at hl 0 rfl) ?_
  refine va_new (ci := 7) (fs := [.null, .null, .null, .null, .null, .null]) (C := RX7) (T := TX7) (N := 6) hx hb hts hinX7 tyX7 tyX7_ok hown (hts (.classLink RX11 77 RX7) (List.mem_of_getElem? (i := 40) rfl)) (hts (.instantiable RX7 6) (List.mem_of_getElem? (i := 41) rfl)) (hts (.initialized RX7) (List.mem_of_getElem? (i := 42) rfl)) hK hP hD hS hA rfl (fun j hj => wb_df6 (f := fun j => defaultValue (tyX7 j)) (g := fun j => vp_V [.null, .null, .null, .null, .null, .null] j) rfl rfl rfl rfl rfl rfl j hj) (Nat.le_of_ble_eq_true rfl) (Nat.le_of_ble_eq_true rfl) dX11_init_137 (fun q137 H hP hD hS => ?_)
  have hP : va_P D vwCl ([((h0, .inr (11, [.ref (an9 0), .ref (an20 0), .ref (an31 0), .ref (an42 0), .ref (an53 0), .ref (an64 0), .ref (an75 0), .ref (an86 0), .ref (an97 0), .ref (an108 0), .ref (an119 0), .ref (an130 0), .null])) : Nat × va_E)] ++ ((wWX9 cB cI cZ an9 r1.1 r1.2) ++ ((wWX5 cB cI cZ an20 r2.1 r2.2) ++ ((wWX5 cB cI cZ an31 r3.1 r3.2) ++ ((wWX1 cB cI cZ an42 r4.1 r4.2) ++ ((wWX3 cB cI cZ an53 r5.1 r5.2) ++ ((wWX8 cB cI cZ an64 r6.1 r6.2) ++ ((wWX8 cB cI cZ an75 r7.1 r7.2) ++ ((wWX8 cB cI cZ an86 r8.1 r8.2) ++ ((wWX8 cB cI cZ an97 r9b.1 r9b.2) ++ ((wWX10 cB cI cZ an108 r10.1 r10.2) ++ ((wWX6 cB cI cZ an119 r11.1 r11.2) ++ ((wWX0 cB cI cZ an130 r12.1 r12.2) ++ [((q137, .inr (7, [.null, .null, .null, .null, .null, .null])) : Nat × va_E)]))))))))))))) H := hP
  have hD : va_D A ([((h0, .inr (11, [.ref (an9 0), .ref (an20 0), .ref (an31 0), .ref (an42 0), .ref (an53 0), .ref (an64 0), .ref (an75 0), .ref (an86 0), .ref (an97 0), .ref (an108 0), .ref (an119 0), .ref (an130 0), .null])) : Nat × va_E)] ++ ((wWX9 cB cI cZ an9 r1.1 r1.2) ++ ((wWX5 cB cI cZ an20 r2.1 r2.2) ++ ((wWX5 cB cI cZ an31 r3.1 r3.2) ++ ((wWX1 cB cI cZ an42 r4.1 r4.2) ++ ((wWX3 cB cI cZ an53 r5.1 r5.2) ++ ((wWX8 cB cI cZ an64 r6.1 r6.2) ++ ((wWX8 cB cI cZ an75 r7.1 r7.2) ++ ((wWX8 cB cI cZ an86 r8.1 r8.2) ++ ((wWX8 cB cI cZ an97 r9b.1 r9b.2) ++ ((wWX10 cB cI cZ an108 r10.1 r10.2) ++ ((wWX6 cB cI cZ an119 r11.1 r11.2) ++ ((wWX0 cB cI cZ an130 r12.1 r12.2) ++ [((q137, .inr (7, [.null, .null, .null, .null, .null, .null])) : Nat × va_E)]))))))))))))) := hD
  refine lv_dup hx hb dX11_init_140 rfl ?_
  obtain ⟨r13, hr13, hf⟩ := wb_b hf
  have hPc := hP.sub (ws' := ([((q137, .inr (7, [.null, .null, .null, .null, .null, .null])) : Nat × va_E)] : va_W)) [45] rfl
  have hDc := hD.sub (ws' := ([((q137, .inr (7, [.null, .null, .null, .null, .null, .null])) : Nat × va_E)] : va_W)) [45] (by decide) rfl
  have hFc := va_free (wc := ([((q137, .inr (7, [.null, .null, .null, .null, .null, .null])) : Nat × va_E)] : va_W)) hD hS hA [45] rfl
  refine va_callv (va_runI (As := []) (rest := [.ref q137, .ref h0]) ⟨hx, hb, hml, hown, hts⟩ (cn_X7_init l D cB cI cZ N q137 H.size r13 hr13) (cwI 0 hts gX11_init_X7_init rfl rfl rfl (hts (.initialized RX7) (List.mem_of_getElem? (i := 42) rfl)) (hts (.methodLink RX11 79 yX7_init) (List.mem_of_getElem? (i := 111) rfl)) (hts (.instanceMethod yX7_init) (List.mem_of_getElem? (i := 112) rfl)) rfl csX7_init ⟨Nat.le_of_ble_eq_true rfl, Nat.le_of_ble_eq_true rfl⟩) (wb_preNS hPc hK hDc (NW := []) (fun w hw => nomatch hw)) rfl rfl hl.1 rfl (lv_room (Nat.le_of_ble_eq_true rfl)) dX11_init_141 ⟨Nat.le_of_ble_eq_true rfl, Nat.le_of_ble_eq_true rfl⟩) hS (fun q _ h => hFc q h) hFc (fun u t H locs ht hvm hw hB hz1 hk1 hS => ?_)
  obtain ⟨an141, han141, hB⟩ := hB
  obtain ⟨hP, hD⟩ := wj_s (wc := ([((q137, .inr (7, [.null, .null, .null, .null, .null, .null])) : Nat × va_E)] : va_W)) (w1 := wWX7 cB cI cZ an141 r13.1 r13.2) (wf := ([((h0, .inr (11, [.ref (an9 0), .ref (an20 0), .ref (an31 0), .ref (an42 0), .ref (an53 0), .ref (an64 0), .ref (an75 0), .ref (an86 0), .ref (an97 0), .ref (an108 0), .ref (an119 0), .ref (an130 0), .null])) : Nat × va_E)] ++ ((wWX9 cB cI cZ an9 r1.1 r1.2) ++ ((wWX5 cB cI cZ an20 r2.1 r2.2) ++ ((wWX5 cB cI cZ an31 r3.1 r3.2) ++ ((wWX1 cB cI cZ an42 r4.1 r4.2) ++ ((wWX3 cB cI cZ an53 r5.1 r5.2) ++ ((wWX8 cB cI cZ an64 r6.1 r6.2) ++ ((wWX8 cB cI cZ an75 r7.1 r7.2) ++ ((wWX8 cB cI cZ an86 r8.1 r8.2) ++ ((wWX8 cB cI cZ an97 r9b.1 r9b.2) ++ ((wWX10 cB cI cZ an108 r10.1 r10.2) ++ ((wWX6 cB cI cZ an119 r11.1 r11.2) ++ ((wWX0 cB cI cZ an130 r12.1 r12.2) ++ (wWX7 cB cI cZ an141 r13.1 r13.2))))))))))))))) 45 46 hP hD rfl rfl hk1 hFc ht hB
  rw [show (q137 : Nat) = an141 0 from han141.symm]
  refine va_putF (D := D) (ci := 11) (v := .ref (an141 0)) (ty := (.object "WheelBook$Outcomes")) (C := RX11) (T := TX11) (N := 13) hx hb hts hinX11 tyX11 tyX11_ok nmX11 hown hK hP hD hS 0 rfl rfl 12 (by decide) (hts (.fieldLink RX11 80 "WheelBook" "outcomes" "LWheelBook$Outcomes;") (List.mem_of_getElem? (i := 43) rfl)) (fun _ h9 => h9) rfl hin0 rfl (by decide +kernel) rfl rfl (Nat.le_of_ble_eq_true rfl) dX11_init_144 (fun H locs hP hD hS => ?_)
  have hP : va_P D vwCl ([((h0, .inr (11, [.ref (an9 0), .ref (an20 0), .ref (an31 0), .ref (an42 0), .ref (an53 0), .ref (an64 0), .ref (an75 0), .ref (an86 0), .ref (an97 0), .ref (an108 0), .ref (an119 0), .ref (an130 0), .ref (an141 0)])) : Nat × va_E)] ++ ((wWX9 cB cI cZ an9 r1.1 r1.2) ++ ((wWX5 cB cI cZ an20 r2.1 r2.2) ++ ((wWX5 cB cI cZ an31 r3.1 r3.2) ++ ((wWX1 cB cI cZ an42 r4.1 r4.2) ++ ((wWX3 cB cI cZ an53 r5.1 r5.2) ++ ((wWX8 cB cI cZ an64 r6.1 r6.2) ++ ((wWX8 cB cI cZ an75 r7.1 r7.2) ++ ((wWX8 cB cI cZ an86 r8.1 r8.2) ++ ((wWX8 cB cI cZ an97 r9b.1 r9b.2) ++ ((wWX10 cB cI cZ an108 r10.1 r10.2) ++ ((wWX6 cB cI cZ an119 r11.1 r11.2) ++ ((wWX0 cB cI cZ an130 r12.1 r12.2) ++ (wWX7 cB cI cZ an141 r13.1 r13.2)))))))))))))) H := hP
  have hD : va_D A ([((h0, .inr (11, [.ref (an9 0), .ref (an20 0), .ref (an31 0), .ref (an42 0), .ref (an53 0), .ref (an64 0), .ref (an75 0), .ref (an86 0), .ref (an97 0), .ref (an108 0), .ref (an119 0), .ref (an130 0), .ref (an141 0)])) : Nat × va_E)] ++ ((wWX9 cB cI cZ an9 r1.1 r1.2) ++ ((wWX5 cB cI cZ an20 r2.1 r2.2) ++ ((wWX5 cB cI cZ an31 r3.1 r3.2) ++ ((wWX1 cB cI cZ an42 r4.1 r4.2) ++ ((wWX3 cB cI cZ an53 r5.1 r5.2) ++ ((wWX8 cB cI cZ an64 r6.1 r6.2) ++ ((wWX8 cB cI cZ an75 r7.1 r7.2) ++ ((wWX8 cB cI cZ an86 r8.1 r8.2) ++ ((wWX8 cB cI cZ an97 r9b.1 r9b.2) ++ ((wWX10 cB cI cZ an108 r10.1 r10.2) ++ ((wWX6 cB cI cZ an119 r11.1 r11.2) ++ ((wWX0 cB cI cZ an130 r12.1 r12.2) ++ (wWX7 cB cI cZ an141 r13.1 r13.2)))))))))))))) := hD
  obtain ⟨I0_0, eI0_0, hf⟩ := wb_v hf
  obtain ⟨M0_0, eM0_0, hf⟩ := wb_v hf
  obtain ⟨a0, ea0⟩ : ∃ a0 : Nat → Nat, a0 = (fun k => ([h0, an9 0, an9 1, an20 0, an20 1, an20 2, an20 3, an20 4, an20 5, an20 6, an20 7, an20 8, an31 0, an31 1, an31 2, an31 3, an31 4, an31 5, an31 6, an31 7, an31 8, an42 0, an42 1, an42 2, an53 0, an53 1, an64 0, an64 1, an75 0, an75 1, an86 0, an86 1, an97 0, an97 1, an108 0, an108 1, an108 2, an108 3, an119 0, an119 1, an119 2, an119 3, an119 4, an130 0, an130 1, an141 0, an141 1, an141 2, an141 3, an141 4, an141 5, an141 6] : List Nat).getD k 0) := ⟨_, rfl⟩
  have hP : va_P D vwCl (wWX11 cB cI cZ a0 I0_0 M0_0) H := by rw [eI0_0, eM0_0, ea0]; exact hP.sub [0, 1, 2, 3, 4, 5, 6, 7, 8, 9, 10, 11, 12, 13, 14, 15, 16, 17, 18, 19, 20, 21, 22, 23, 24, 25, 26, 27, 28, 29, 30, 31, 32, 33, 34, 35, 36, 37, 38, 39, 40, 41, 42, 43, 44, 45, 46, 47, 48, 49, 50, 51] rfl
  have hD : va_D A (wWX11 cB cI cZ a0 I0_0 M0_0) := by rw [eI0_0, eM0_0, ea0]; exact hD.sub [0, 1, 2, 3, 4, 5, 6, 7, 8, 9, 10, 11, 12, 13, 14, 15, 16, 17, 18, 19, 20, 21, 22, 23, 24, 25, 26, 27, 28, 29, 30, 31, 32, 33, 34, 35, 36, 37, 38, 39, 40, 41, 42, 43, 44, 45, 46, 47, 48, 49, 50, 51] (by decide) rfl
  have h00 : a0 0 = h0 := by rw [ea0]; rfl
  rw [← h00] at hl
  refine W.widen (k := 51) (n := 6678) (Nat.le_of_ble_eq_true rfl) (Nat.le_of_ble_eq_true rfl) ?_
  exact W.vret hx hb hr (fun t ht hW => by rw [← Option.some.inj hf]; exact ⟨⟨(), rfl, trivial, a0, h00, by rw [ht]; exact hP, va_K.moved hW.alike hK, hD⟩, hS.F ht⟩) hS.2.2 dX11_init_147
