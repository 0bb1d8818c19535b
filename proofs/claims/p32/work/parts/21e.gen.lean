set_option maxHeartbeats 4000000 in
set_option maxRecDepth 100000 in
theorem cn_X11_waysThatCanBe (l : Launch) (D : va_G) (cB cI cZ : ClassId) (N : Nat) (a0 : Nat → Nat) (I0 : Nat → Int32) (M0 : Nat → Nat → Int32) (x1 : Int32) (R : Int32) (hf : fX11_waysThatCanBe N I0 M0 x1 = some R) : Met l yX11_waysThatCanBe wsX11_waysThatCanBe ({ frames := 5, cells := 0, slots := 0, locals := 126 }) (va_Pc [.ref (a0 0), .int x1] (wb_pre D [(cB, .byte), (cI, .int), (cZ, .boolean)] (wWX11 cB cI cZ a0 I0 M0))) (vp_Si (fun r => r = R)) 0 0 (fun _ => False) := by
  refine Met.ofW (cc := cX11_waysThatCanBe) (maxL := 4) (ret := (some .int)) pn_X11 rfl ?_
  intro p e s m args below meth c s₁ B hml hv
  obtain ⟨rfl, hP, hK⟩ := hv
  have hx := B.exec
  have hb := B.bytes
  have hr := B.returns
  have hts := atoms_spec (ws := wsX11_waysThatCanBe) B.pre
  have hown : s.vm.findClass RX11 = some m.cls := (findClass_of_methodNamed B.named :)
  have hlocks := B.notSynchronized
  have hinX11 : ∀ w ∈ u_ws RX11 TX11 13, w ∈ wsX11_waysThatCanBe := fun w h => List.mem_cons_of_mem _ (List.mem_append_left _ (List.mem_append_left _ (List.mem_append_left _ (List.mem_append_right _ h))))
  have hinX2 : ∀ w ∈ u_ws RX2 TX2 2, w ∈ wsX11_waysThatCanBe := fun w h => List.mem_cons_of_mem _ (List.mem_append_left _ (List.mem_append_right _ h))
  have hinX5 : ∀ w ∈ u_ws RX5 TX5 6, w ∈ wsX11_waysThatCanBe := fun w h => List.mem_cons_of_mem _ (List.mem_append_left _ (List.mem_append_left _ (List.mem_append_right _ h)))
  have hl := lv_entry ([.ref (a0 0), .int x1]) (n := 4) (Nat.le_of_ble_eq_true rfl)
  rw [lg_entry_eq]
  generalize (lg_sl ([.ref (a0 0), .int x1]) ++ List.replicate (4 - (lg_sl ([.ref (a0 0), .int x1])).length) Slot.unset).toArray = ls at hl ⊢
  have hl : lv_has ls 4 [(0, .ref (a0 0)), (1, .int x1)] := hl
  unfold fX11_waysThatCanBe at hf
  have J50 : ∀ (y50_2 : Int32), ∀ (ls : Array Slot), lv_has ls 4 [(0, .ref (a0 0)), (1, .int x1), (2, .int y50_2)] → fX11_waysThatCanBe_J50 N I0 M0 x1 y50_2 = some R → W p l e (headSpec wsX11_waysThatCanBe { frames := 5, cells := 0, slots := 0, locals := 126 }).room s m [.ref (a0 0), .int x1].toArray below meth c s.heap [] 0 0 (MQ below (vp_Si (fun r => r = R)) [.ref (a0 0), .int x1].toArray s 0 0 (fun _ => False)) (F0 m 50 ls []) := by
    intro y50_2 ls hl hf
    unfold fX11_waysThatCanBe_J50 at hf
    refine lv_iconst (v := (0 : Int32)) hx hb dX11_waysThatCanBe_50 (by decide) ?_
    refine lv_istore_n (lv' := [(3, .int (0 : Int32)), (0, .ref (a0 0)), (1, .int x1), (2, .int y50_2)]) hx hb dX11_waysThatCanBe_51 rfl hl (by decide) rfl (fun ls hl => ?_)
    have L52 : ∀ (fu52 : Nat) (y52_2 : Int32) (y52_3 : Int32), ∀ (ls : Array Slot), lv_has ls 4 [(0, .ref (a0 0)), (1, .int x1), (2, .int y52_2), (3, .int y52_3)] → fX11_waysThatCanBe_L52 N I0 M0 x1 fu52 y52_2 y52_3 = some R → W p l e (headSpec wsX11_waysThatCanBe { frames := 5, cells := 0, slots := 0, locals := 126 }).room s m [.ref (a0 0), .int x1].toArray below meth c s.heap [] 0 0 (MQ below (vp_Si (fun r => r = R)) [.ref (a0 0), .int x1].toArray s 0 0 (fun _ => False)) (F0 m 52 ls []) := by
      intro fu52
      induction fu52 with
      | zero =>
        intro y52_2 y52_3 ls hl hf
        exact absurd hf (by rw [fX11_waysThatCanBe_L52.eq_1]; exact fun h => nomatch h)
      | succ fu52 ih52 =>
        intro y52_2 y52_3 ls hl hf
        rw [fX11_waysThatCanBe_L52.eq_2] at hf
        refine lv_iload_n hx hb dX11_waysThatCanBe_52 rfl (lv_at hl 3 rfl) ?_
        refine lv_aload_n hx hb dX11_waysThatCanBe_53 rfl (lv_at hl 0 rfl) ?_
        refine va_get (D := D) (ci := 11) (v := .ref (a0 3)) (C := RX11) (T := TX11) (N := 13) hx hb hts hinX11 hown hK hP 0 rfl rfl 1 (by decide) (hts (.fieldLink RX11 19 "WheelBook" "told" "LWheelBook$House;") (List.mem_of_getElem? (i := 2) rfl)) (fun _ h9 => h9) rfl dX11_waysThatCanBe_54 ?_
        refine va_get (D := D) (ci := 5) (v := .ref (a0 8)) (C := RX5) (T := TX5) (N := 6) hx hb hts hinX5 hown hK hP 3 rfl rfl 4 (by decide) (hts (.fieldLink RX11 131 "WheelBook$House" "climates" "LWheelBook$Climates;") (List.mem_of_getElem? (i := 3) rfl)) (fun _ h9 => h9) rfl dX11_waysThatCanBe_57 ?_
        refine va_get (D := D) (ci := 2) (v := .int (I0 9)) (C := RX2) (T := TX2) (N := 2) hx hb hts hinX2 hown hK hP 8 rfl rfl 1 (by decide) (hts (.fieldLink RX11 135 "WheelBook$Climates" "many" "I") (List.mem_of_getElem? (i := 4) rfl)) (fun _ h9 => h9) rfl dX11_waysThatCanBe_60 ?_
        refine lv_icmp_ge (tgt := 96) hx hb dX11_waysThatCanBe_63 (by decide) (fun hc => ?_) (fun hc => ?_)
        · replace hf := wb_t hc hf
          refine lv_iload_n hx hb dX11_waysThatCanBe_96 rfl (lv_at hl 2 rfl) ?_
          exact W.iret (v := y52_2) hx hb hr (fun t ht hW => ⟨_, rfl, Option.some.inj hf, ht⟩) (fun _ h => nomatch h) dX11_waysThatCanBe_97
        · replace hf := wb_f hc hf
          refine lv_aload_n hx hb dX11_waysThatCanBe_66 rfl (lv_at hl 0 rfl) ?_
          refine va_get (D := D) (ci := 11) (v := .ref (a0 21)) (C := RX11) (T := TX11) (N := 13) hx hb hts hinX11 hown hK hP 0 rfl rfl 3 (by decide) (hts (.fieldLink RX11 29 "WheelBook" "books" "LWheelBook$Books;") (List.mem_of_getElem? (i := 1) rfl)) (fun _ h9 => h9) rfl dX11_waysThatCanBe_67 ?_
          refine lv_aload_n hx hb dX11_waysThatCanBe_70 rfl (lv_at hl 0 rfl) ?_
          refine va_get (D := D) (ci := 11) (v := .ref (a0 3)) (C := RX11) (T := TX11) (N := 13) hx hb hts hinX11 hown hK hP 0 rfl rfl 1 (by decide) (hts (.fieldLink RX11 19 "WheelBook" "told" "LWheelBook$House;") (List.mem_of_getElem? (i := 2) rfl)) (fun _ h9 => h9) rfl dX11_waysThatCanBe_71 ?_
          refine va_get (D := D) (ci := 5) (v := .ref (a0 8)) (C := RX5) (T := TX5) (N := 6) hx hb hts hinX5 hown hK hP 3 rfl rfl 4 (by decide) (hts (.fieldLink RX11 131 "WheelBook$House" "climates" "LWheelBook$Climates;") (List.mem_of_getElem? (i := 3) rfl)) (fun _ h9 => h9) rfl dX11_waysThatCanBe_74 ?_
          refine lv_iload_n hx hb dX11_waysThatCanBe_77 rfl (lv_at hl 1 rfl) ?_
          refine lv_iconst (v := (2 : Int32)) hx hb dX11_waysThatCanBe_78 (by decide) ?_
          refine lv_iload_n hx hb dX11_waysThatCanBe_79 rfl (lv_at hl 3 rfl) ?_
          obtain ⟨r1, hr1, hf⟩ := wb_b hf
          refine vp_callSi (W.runV (As := [.ref (a0 8), .int x1, .int (2 : Int32), .int y52_3]) (rest := []) ⟨hx, hb, hml, hown, hts⟩ (cn_X1_howManyDiffer l D cB cI cZ N (wb_sh a0 21) (wb_sh I0 13) (wb_sh M0 13) (wb_sh a0 8) (wb_sh I0 9) (wb_sh M0 5) x1 (2 : Int32) y52_3 r1 hr1) (cwV 4 hts gX11_waysThatCanBe_X1_howManyDiffer rfl rfl rfl cdX1_howManyDiffer ⟨Nat.le_of_ble_eq_true rfl, Nat.le_of_ble_eq_true rfl⟩) (wb_preV (hP.sub (ws' := ((wWX1 cB cI cZ (wb_sh a0 21) (wb_sh I0 13) (wb_sh M0 13)) ++ (wWX2 cB cI cZ (wb_sh a0 8) (wb_sh I0 9) (wb_sh M0 5)))) [21, 22, 23, 8, 9] rfl) hK (wr_1 hK hP (q0 := 21) rfl)) rfl rfl hl.1 rfl (lv_room (Nat.le_of_ble_eq_true rfl)) dX11_waysThatCanBe_80 ⟨Nat.le_of_ble_eq_true rfl, Nat.le_of_ble_eq_true rfl⟩) (fun r9 e9 => ?_)
          rw [e9]
          refine lv_if_ne (tgt := 90) hx hb dX11_waysThatCanBe_83 (by decide) (fun hc => ?_) (fun hc => ?_)
          · replace hf := wb_f hc hf
            obtain ⟨v2, ev2, hf⟩ := wb_v hf
            refine lv_iinc (v := v2) (lv' := [(3, .int v2), (0, .ref (a0 0)), (1, .int x1), (2, .int y52_2)]) hx hb dX11_waysThatCanBe_90 hl (k := 3) rfl (by rw [ev2]; rfl) (by decide) rfl (fun ls hl => ?_)
            refine lv_goto (tgt := 52) hx hb dX11_waysThatCanBe_93 (by decide) ?_
            exact ih52 y52_2 v2 ls (lv_sub hl [1, 2, 3, 0] rfl) hf
          · replace hf := wb_t hc hf
            refine lv_iload_n hx hb dX11_waysThatCanBe_86 rfl (lv_at hl 2 rfl) ?_
            refine lv_iconst (v := (4 : Int32)) hx hb dX11_waysThatCanBe_87 (by decide) ?_
            refine lv_ior hx hb dX11_waysThatCanBe_88 ?_
            obtain ⟨v3, ev3, hf⟩ := wb_v hf
            refine wb_topi ev3 ?_
            refine lv_istore_n (lv' := [(2, .int v3), (0, .ref (a0 0)), (1, .int x1), (3, .int y52_3)]) hx hb dX11_waysThatCanBe_89 rfl hl (by decide) rfl (fun ls hl => ?_)
            obtain ⟨v4, ev4, hf⟩ := wb_v hf
            refine lv_iinc (v := v4) (lv' := [(3, .int v4), (2, .int v3), (0, .ref (a0 0)), (1, .int x1)]) hx hb dX11_waysThatCanBe_90 hl (k := 3) rfl (by rw [ev4]; rfl) (by decide) rfl (fun ls hl => ?_)
            refine lv_goto (tgt := 52) hx hb dX11_waysThatCanBe_93 (by decide) ?_
            exact ih52 v3 v4 ls (lv_sub hl [2, 3, 1, 0] rfl) hf
    exact L52 N y50_2 (0 : Int32) ls (lv_sub hl [1, 2, 3, 0] rfl) hf
  have J26 : ∀ (y26_2 : Int32), ∀ (ls : Array Slot), lv_has ls 4 [(0, .ref (a0 0)), (1, .int x1), (2, .int y26_2)] → fX11_waysThatCanBe_J26 N I0 M0 x1 y26_2 = some R → W p l e (headSpec wsX11_waysThatCanBe { frames := 5, cells := 0, slots := 0, locals := 126 }).room s m [.ref (a0 0), .int x1].toArray below meth c s.heap [] 0 0 (MQ below (vp_Si (fun r => r = R)) [.ref (a0 0), .int x1].toArray s 0 0 (fun _ => False)) (F0 m 26 ls []) := by
    intro y26_2 ls hl hf
    unfold fX11_waysThatCanBe_J26 at hf
    refine lv_aload_n hx hb dX11_waysThatCanBe_26 rfl (lv_at hl 0 rfl) ?_
    refine va_get (D := D) (ci := 11) (v := .ref (a0 21)) (C := RX11) (T := TX11) (N := 13) hx hb hts hinX11 hown hK hP 0 rfl rfl 3 (by decide) (hts (.fieldLink RX11 29 "WheelBook" "books" "LWheelBook$Books;") (List.mem_of_getElem? (i := 1) rfl)) (fun _ h9 => h9) rfl dX11_waysThatCanBe_27 ?_
    refine lv_aload_n hx hb dX11_waysThatCanBe_30 rfl (lv_at hl 0 rfl) ?_
    refine va_get (D := D) (ci := 11) (v := .ref (a0 3)) (C := RX11) (T := TX11) (N := 13) hx hb hts hinX11 hown hK hP 0 rfl rfl 1 (by decide) (hts (.fieldLink RX11 19 "WheelBook" "told" "LWheelBook$House;") (List.mem_of_getElem? (i := 2) rfl)) (fun _ h9 => h9) rfl dX11_waysThatCanBe_31 ?_
    refine va_get (D := D) (ci := 5) (v := .ref (a0 8)) (C := RX5) (T := TX5) (N := 6) hx hb hts hinX5 hown hK hP 3 rfl rfl 4 (by decide) (hts (.fieldLink RX11 131 "WheelBook$House" "climates" "LWheelBook$Climates;") (List.mem_of_getElem? (i := 3) rfl)) (fun _ h9 => h9) rfl dX11_waysThatCanBe_34 ?_
    refine lv_iload_n hx hb dX11_waysThatCanBe_37 rfl (lv_at hl 1 rfl) ?_
    refine lv_iconst (v := (1 : Int32)) hx hb dX11_waysThatCanBe_38 (by decide) ?_
    refine lv_iconst (v := (0 : Int32)) hx hb dX11_waysThatCanBe_39 (by decide) ?_
    obtain ⟨r5, hr5, hf⟩ := wb_b hf
    refine vp_callSi (W.runV (As := [.ref (a0 8), .int x1, .int (1 : Int32), .int (0 : Int32)]) (rest := []) ⟨hx, hb, hml, hown, hts⟩ (cn_X1_howManyDiffer l D cB cI cZ N (wb_sh a0 21) (wb_sh I0 13) (wb_sh M0 13) (wb_sh a0 8) (wb_sh I0 9) (wb_sh M0 5) x1 (1 : Int32) (0 : Int32) r5 hr5) (cwV 4 hts gX11_waysThatCanBe_X1_howManyDiffer rfl rfl rfl cdX1_howManyDiffer ⟨Nat.le_of_ble_eq_true rfl, Nat.le_of_ble_eq_true rfl⟩) (wb_preV (hP.sub (ws' := ((wWX1 cB cI cZ (wb_sh a0 21) (wb_sh I0 13) (wb_sh M0 13)) ++ (wWX2 cB cI cZ (wb_sh a0 8) (wb_sh I0 9) (wb_sh M0 5)))) [21, 22, 23, 8, 9] rfl) hK (wr_1 hK hP (q0 := 21) rfl)) rfl rfl hl.1 rfl (lv_room (Nat.le_of_ble_eq_true rfl)) dX11_waysThatCanBe_40 ⟨Nat.le_of_ble_eq_true rfl, Nat.le_of_ble_eq_true rfl⟩) (fun r9 e9 => ?_)
    rw [e9]
    refine lv_if_ne (tgt := 50) hx hb dX11_waysThatCanBe_43 (by decide) (fun hc => ?_) (fun hc => ?_)
    · replace hf := wb_f hc hf
      exact J50 y26_2 ls (lv_sub hl [0, 1, 2] rfl) hf
    · replace hf := wb_t hc hf
      refine lv_iload_n hx hb dX11_waysThatCanBe_46 rfl (lv_at hl 2 rfl) ?_
      refine lv_iconst (v := (2 : Int32)) hx hb dX11_waysThatCanBe_47 (by decide) ?_
      refine lv_ior hx hb dX11_waysThatCanBe_48 ?_
      obtain ⟨v6, ev6, hf⟩ := wb_v hf
      refine wb_topi ev6 ?_
      refine lv_istore_n (lv' := [(2, .int v6), (0, .ref (a0 0)), (1, .int x1)]) hx hb dX11_waysThatCanBe_49 rfl hl (by decide) rfl (fun ls hl => ?_)
      exact J50 v6 ls (lv_sub hl [1, 2, 0] rfl) hf
  refine lv_iconst (v := (0 : Int32)) hx hb dX11_waysThatCanBe_0 (by decide) ?_
  refine lv_istore_n (lv' := [(2, .int (0 : Int32)), (0, .ref (a0 0)), (1, .int x1)]) hx hb dX11_waysThatCanBe_1 rfl hl (by decide) rfl (fun ls hl => ?_)
  refine lv_aload_n hx hb dX11_waysThatCanBe_2 rfl (lv_at hl 1 rfl) ?_
  refine va_get (D := D) (ci := 11) (v := .ref (a0 21)) (C := RX11) (T := TX11) (N := 13) hx hb hts hinX11 hown hK hP 0 rfl rfl 3 (by decide) (hts (.fieldLink RX11 29 "WheelBook" "books" "LWheelBook$Books;") (List.mem_of_getElem? (i := 1) rfl)) (fun _ h9 => h9) rfl dX11_waysThatCanBe_3 ?_
  refine lv_aload_n hx hb dX11_waysThatCanBe_6 rfl (lv_at hl 1 rfl) ?_
  refine va_get (D := D) (ci := 11) (v := .ref (a0 3)) (C := RX11) (T := TX11) (N := 13) hx hb hts hinX11 hown hK hP 0 rfl rfl 1 (by decide) (hts (.fieldLink RX11 19 "WheelBook" "told" "LWheelBook$House;") (List.mem_of_getElem? (i := 2) rfl)) (fun _ h9 => h9) rfl dX11_waysThatCanBe_7 ?_
  refine va_get (D := D) (ci := 5) (v := .ref (a0 8)) (C := RX5) (T := TX5) (N := 6) hx hb hts hinX5 hown hK hP 3 rfl rfl 4 (by decide) (hts (.fieldLink RX11 131 "WheelBook$House" "climates" "LWheelBook$Climates;") (List.mem_of_getElem? (i := 3) rfl)) (fun _ h9 => h9) rfl dX11_waysThatCanBe_10 ?_
  refine lv_iload_n hx hb dX11_waysThatCanBe_13 rfl (lv_at hl 2 rfl) ?_
  refine lv_iconst (v := (0 : Int32)) hx hb dX11_waysThatCanBe_14 (by decide) ?_
  refine lv_iconst (v := (0 : Int32)) hx hb dX11_waysThatCanBe_15 (by decide) ?_
  obtain ⟨r7, hr7, hf⟩ := wb_b hf
  refine vp_callSi (W.runV (As := [.ref (a0 8), .int x1, .int (0 : Int32), .int (0 : Int32)]) (rest := []) ⟨hx, hb, hml, hown, hts⟩ (cn_X1_howManyDiffer l D cB cI cZ N (wb_sh a0 21) (wb_sh I0 13) (wb_sh M0 13) (wb_sh a0 8) (wb_sh I0 9) (wb_sh M0 5) x1 (0 : Int32) (0 : Int32) r7 hr7) (cwV 4 hts gX11_waysThatCanBe_X1_howManyDiffer rfl rfl rfl cdX1_howManyDiffer ⟨Nat.le_of_ble_eq_true rfl, Nat.le_of_ble_eq_true rfl⟩) (wb_preV (hP.sub (ws' := ((wWX1 cB cI cZ (wb_sh a0 21) (wb_sh I0 13) (wb_sh M0 13)) ++ (wWX2 cB cI cZ (wb_sh a0 8) (wb_sh I0 9) (wb_sh M0 5)))) [21, 22, 23, 8, 9] rfl) hK (wr_1 hK hP (q0 := 21) rfl)) rfl rfl hl.1 rfl (lv_room (Nat.le_of_ble_eq_true rfl)) dX11_waysThatCanBe_16 ⟨Nat.le_of_ble_eq_true rfl, Nat.le_of_ble_eq_true rfl⟩) (fun r9 e9 => ?_)
  rw [e9]
  refine lv_if_ne (tgt := 26) hx hb dX11_waysThatCanBe_19 (by decide) (fun hc => ?_) (fun hc => ?_)
  · replace hf := wb_f hc hf
    exact J26 (0 : Int32) ls (lv_sub hl [1, 2, 0] rfl) hf
  · replace hf := wb_t hc hf
    refine lv_iload_n hx hb dX11_waysThatCanBe_22 rfl (lv_at hl 0 rfl) ?_
    refine lv_iconst (v := (1 : Int32)) hx hb dX11_waysThatCanBe_23 (by decide) ?_
    refine lv_ior hx hb dX11_waysThatCanBe_24 ?_
    obtain ⟨v8, ev8, hf⟩ := wb_v hf
    refine wb_topi ev8 ?_
    refine lv_istore_n (lv' := [(2, .int v8), (0, .ref (a0 0)), (1, .int x1)]) hx hb dX11_waysThatCanBe_25 rfl hl (by decide) rfl (fun ls hl => ?_)
    exact J26 v8 ls (lv_sub hl [1, 2, 0] rfl) hf

set_option maxHeartbeats 4000000 in
set_option maxRecDepth 100000 in
theorem cn_X11_possible (l : Launch) (D : va_G) (cB cI cZ : ClassId) (N : Nat) (a0 : Nat → Nat) (I0 : Nat → Int32) (M0 : Nat → Nat → Int32) (x1 : Int32) (x2 : Int32) (x3 : Int32) (R : Int32) (hf : fX11_possible N I0 M0 x1 x2 x3 = some (.inr R)) : Met l yX11_possible wyX11_possible ({ frames := 8, cells := 0, slots := 0, locals := 161 }) (va_Pc [.ref (a0 0), .int x1, .int x2, .int x3] (wb_pre D [(cB, .byte), (cI, .int), (cZ, .boolean)] (wWX11 cB cI cZ a0 I0 M0))) (vp_Si (fun r => r = R)) 0 0 (fun _ => False) := by
  refine Met.ofW (cc := cX11_possible) (maxL := 5) (ret := (some .int)) pn_X11 rfl ?_
  intro p e s m args below meth c s₁ B hml hv
  obtain ⟨rfl, hP, hK⟩ := hv
  have hx := B.exec
  have hb := B.bytes
  have hr := B.returns
  have hts := atoms_spec (ws := wyX11_possible) B.pre
  have hown : s.vm.findClass RX11 = some m.cls := (findClass_of_methodNamed B.named :)
  have hlocks := B.notSynchronized
  have hinX11 : ∀ w ∈ u_ws RX11 TX11 13, w ∈ wyX11_possible := fun w h => List.mem_cons_of_mem _ (List.mem_append_left _ (List.mem_append_left _ (List.mem_append_left _ (List.mem_append_left _ (List.mem_append_right _ h)))))
  have hl := lv_entry ([.ref (a0 0), .int x1, .int x2, .int x3]) (n := 5) (Nat.le_of_ble_eq_true rfl)
  rw [lg_entry_eq]
  generalize (lg_sl ([.ref (a0 0), .int x1, .int x2, .int x3]) ++ List.replicate (5 - (lg_sl ([.ref (a0 0), .int x1, .int x2, .int x3])).length) Slot.unset).toArray = ls at hl ⊢
  have hl : lv_has ls 5 [(0, .ref (a0 0)), (1, .int x1), (2, .int x2), (3, .int x3)] := hl
  unfold fX11_possible at hf
  refine lv_iload_n hx hb dX11_possible_0 rfl (lv_at hl 1 rfl) ?_
  refine lv_iload_n hx hb dX11_possible_1 rfl (lv_at hl 2 rfl) ?_
  obtain ⟨r1, hr1, hf⟩ := wb_xr hf
  refine vp_callSi (W.runS (As := [.int x1, .int x2]) (rest := []) ⟨hx, hb, hml, hown, hts⟩ (cn_X11_numberOf l D cB cI cZ N x1 x2 r1 hr1) (va_cwS 2 hts gyX11_possible_X11_numberOf rfl rfl rfl csX11_numberOf ⟨Nat.le_of_ble_eq_true rfl, Nat.le_of_ble_eq_true rfl⟩) (wb_preS (hP.sub (ws' := ([] : va_W)) [] rfl) hK) rfl rfl hl.1 rfl (lv_room (Nat.le_of_ble_eq_true rfl)) dX11_possible_2 ⟨Nat.le_of_ble_eq_true rfl, Nat.le_of_ble_eq_true rfl⟩) (fun r9 e9 => ?_)
  rw [e9]
  refine lv_istore (lv' := [(4, .int r1), (0, .ref (a0 0)), (1, .int x1), (2, .int x2), (3, .int x3)]) hx hb dX11_possible_5 hl (by decide) rfl (fun ls hl => ?_)
  refine lv_iload_n hx hb dX11_possible_7 rfl (lv_at hl 4 rfl) ?_
  refine lv_iconst (v := (0 : Int32)) hx hb dX11_possible_8 (by decide) ?_
  refine lv_iconst (v := (1 : Int32)) hx hb dX11_possible_9 (by decide) ?_
  obtain ⟨r2, hr2, hf⟩ := wb_b hf
  refine vp_callSi (W.runS (As := [.int x3, .int (0 : Int32), .int (1 : Int32)]) (rest := []) ⟨hx, hb, hml, hown, hts⟩ (cn_X11_within l D cB cI cZ N x3 (0 : Int32) (1 : Int32) r2 hr2) (va_cwS 3 hts gyX11_possible_X11_within rfl rfl rfl csX11_within ⟨Nat.le_of_ble_eq_true rfl, Nat.le_of_ble_eq_true rfl⟩) (wb_preS (hP.sub (ws' := ([] : va_W)) [] rfl) hK) rfl rfl hl.1 rfl (lv_room (Nat.le_of_ble_eq_true rfl)) dX11_possible_10 ⟨Nat.le_of_ble_eq_true rfl, Nat.le_of_ble_eq_true rfl⟩) (fun r9 e9 => ?_)
  rw [e9]
  obtain ⟨r3, hr3, hf⟩ := wb_xr hf
  refine va_csv (W.runS (As := [.int r2]) (rest := []) ⟨hx, hb, hml, hown, hts⟩ (cn_X11_need l D cB cI cZ N r2 r3 hr3) (va_cwS 1 hts gyX11_possible_X11_need rfl rfl rfl csX11_need ⟨Nat.le_of_ble_eq_true rfl, Nat.le_of_ble_eq_true rfl⟩) (wb_preS (hP.sub (ws' := ([] : va_W)) [] rfl) hK) rfl rfl hl.1 rfl (lv_room (Nat.le_of_ble_eq_true rfl)) dX11_possible_13 ⟨Nat.le_of_ble_eq_true rfl, Nat.le_of_ble_eq_true rfl⟩) (fun _ => ?_)
  replace hf := wb_okr hf
  refine lv_aload_n hx hb dX11_possible_16 rfl (lv_at hl 1 rfl) ?_
  refine va_get (D := D) (ci := 11) (v := .ref (a0 21)) (C := RX11) (T := TX11) (N := 13) hx hb hts hinX11 hown hK hP 0 rfl rfl 3 (by decide) (hts (.fieldLink RX11 29 "WheelBook" "books" "LWheelBook$Books;") (List.mem_of_getElem? (i := 1) rfl)) (fun _ h9 => h9) rfl dX11_possible_17 ?_
  refine lv_iload hx hb dX11_possible_20 (lv_at hl 0 rfl) ?_
  refine lv_bipush (v := (7 : Int32)) hx hb dX11_possible_22 (by decide) ?_
  obtain ⟨r4, hr4, hf⟩ := wb_b hf
  refine vp_callSi (W.runV (As := [.int r1, .int (7 : Int32)]) (rest := []) ⟨hx, hb, hml, hown, hts⟩ (cn_X1_degreeOf l D cB cI cZ N (wb_sh a0 21) (wb_sh I0 13) (wb_sh M0 13) r1 (7 : Int32) r4 hr4) (cwV 2 hts gyX11_possible_X1_degreeOf rfl rfl rfl cdX1_degreeOf ⟨Nat.le_of_ble_eq_true rfl, Nat.le_of_ble_eq_true rfl⟩) (wb_preV (hP.sub (ws' := (wWX1 cB cI cZ (wb_sh a0 21) (wb_sh I0 13) (wb_sh M0 13))) [21, 22, 23] rfl) hK (wr_1 hK hP (q0 := 21) rfl)) rfl rfl hl.1 rfl (lv_room (Nat.le_of_ble_eq_true rfl)) dX11_possible_24 ⟨Nat.le_of_ble_eq_true rfl, Nat.le_of_ble_eq_true rfl⟩) (fun r9 e9 => ?_)
  rw [e9]
  refine lv_iconst (v := (-1 : Int32)) hx hb dX11_possible_27 (by decide) ?_
  refine lv_icmp_ne (tgt := 33) hx hb dX11_possible_28 (by decide) (fun hc => ?_) (fun hc => ?_)
  · replace hf := wb_f hc hf
    refine lv_iload_n hx hb dX11_possible_33 rfl (lv_at hl 4 rfl) ?_
    refine lv_if_ne (tgt := 44) hx hb dX11_possible_34 (by decide) (fun hc => ?_) (fun hc => ?_)
    · replace hf := wb_f hc hf
      refine lv_aload_n hx hb dX11_possible_44 rfl (lv_at hl 1 rfl) ?_
      refine va_get (D := D) (ci := 11) (v := .ref (a0 21)) (C := RX11) (T := TX11) (N := 13) hx hb hts hinX11 hown hK hP 0 rfl rfl 3 (by decide) (hts (.fieldLink RX11 29 "WheelBook" "books" "LWheelBook$Books;") (List.mem_of_getElem? (i := 1) rfl)) (fun _ h9 => h9) rfl dX11_possible_45 ?_
      refine lv_iload hx hb dX11_possible_48 (lv_at hl 0 rfl) ?_
      refine lv_iconst (v := (0 : Int32)) hx hb dX11_possible_50 (by decide) ?_
      obtain ⟨r5, hr5, hf⟩ := wb_b hf
      refine vp_callSi (W.runV (As := [.int r1, .int (0 : Int32)]) (rest := []) ⟨hx, hb, hml, hown, hts⟩ (cn_X1_degreeOf l D cB cI cZ N (wb_sh a0 21) (wb_sh I0 13) (wb_sh M0 13) r1 (0 : Int32) r5 hr5) (cwV 2 hts gyX11_possible_X1_degreeOf rfl rfl rfl cdX1_degreeOf ⟨Nat.le_of_ble_eq_true rfl, Nat.le_of_ble_eq_true rfl⟩) (wb_preV (hP.sub (ws' := (wWX1 cB cI cZ (wb_sh a0 21) (wb_sh I0 13) (wb_sh M0 13))) [21, 22, 23] rfl) hK (wr_1 hK hP (q0 := 21) rfl)) rfl rfl hl.1 rfl (lv_room (Nat.le_of_ble_eq_true rfl)) dX11_possible_51 ⟨Nat.le_of_ble_eq_true rfl, Nat.le_of_ble_eq_true rfl⟩) (fun r9 e9 => ?_)
      rw [e9]
      refine lv_iconst (v := (-1 : Int32)) hx hb dX11_possible_54 (by decide) ?_
      refine lv_icmp_ne (tgt := 62) hx hb dX11_possible_55 (by decide) (fun hc => ?_) (fun hc => ?_)
      · replace hf := wb_f hc hf
        refine lv_aload_n hx hb dX11_possible_62 rfl (lv_at hl 1 rfl) ?_
        refine lv_iload hx hb dX11_possible_63 (lv_at hl 0 rfl) ?_
        obtain ⟨r6, hr6, hf⟩ := wb_b hf
        refine vp_callSi (W.runV (As := [.int r1]) (rest := []) ⟨hx, hb, hml, hown, hts⟩ (cn_X11_climatesThatCanBe l D cB cI cZ N a0 I0 M0 r1 r6 hr6) (cwV 1 hts gyX11_possible_X11_climatesThatCanBe rfl rfl rfl cdX11_climatesThatCanBe ⟨Nat.le_of_ble_eq_true rfl, Nat.le_of_ble_eq_true rfl⟩) (wb_preV hP hK (wr_11 hK hP (q0 := 0) rfl)) rfl rfl hl.1 rfl (lv_room (Nat.le_of_ble_eq_true rfl)) dX11_possible_65 ⟨Nat.le_of_ble_eq_true rfl, Nat.le_of_ble_eq_true rfl⟩) (fun r9 e9 => ?_)
        rw [e9]
        exact W.iret (v := r6) hx hb hr (fun t ht hW => ⟨_, rfl, Option.some.inj hf, ht⟩) (fun _ h => nomatch h) dX11_possible_68
      · replace hf := wb_t hc hf
        refine lv_iconst (v := (-1 : Int32)) hx hb dX11_possible_58 (by decide) ?_
        refine lv_goto (tgt := 68) hx hb dX11_possible_59 (by decide) ?_
        exact W.iret (v := (-1 : Int32)) hx hb hr (fun t ht hW => ⟨_, rfl, Option.some.inj hf, ht⟩) (fun _ h => nomatch h) dX11_possible_68
    · replace hf := wb_t hc hf
      refine lv_aload_n hx hb dX11_possible_37 rfl (lv_at hl 1 rfl) ?_
      refine lv_iload hx hb dX11_possible_38 (lv_at hl 0 rfl) ?_
      obtain ⟨r7, hr7, hf⟩ := wb_b hf
      refine vp_callSi (W.runV (As := [.int r1]) (rest := []) ⟨hx, hb, hml, hown, hts⟩ (cn_X11_waysThatCanBe l D cB cI cZ N a0 I0 M0 r1 r7 hr7) (cwV 1 hts gyX11_possible_X11_waysThatCanBe rfl rfl rfl cdX11_waysThatCanBe ⟨Nat.le_of_ble_eq_true rfl, Nat.le_of_ble_eq_true rfl⟩) (wb_preV hP hK (wr_11 hK hP (q0 := 0) rfl)) rfl rfl hl.1 rfl (lv_room (Nat.le_of_ble_eq_true rfl)) dX11_possible_40 ⟨Nat.le_of_ble_eq_true rfl, Nat.le_of_ble_eq_true rfl⟩) (fun r9 e9 => ?_)
      rw [e9]
      exact W.iret (v := r7) hx hb hr (fun t ht hW => ⟨_, rfl, Option.some.inj hf, ht⟩) (fun _ h => nomatch h) dX11_possible_43
  · replace hf := wb_t hc hf
    refine lv_iconst (v := (-1 : Int32)) hx hb dX11_possible_31 (by decide) ?_
    exact W.iret (v := (-1 : Int32)) hx hb hr (fun t ht hW => ⟨_, rfl, Option.some.inj hf, ht⟩) (fun _ h => nomatch h) dX11_possible_32
set_option maxHeartbeats 4000000 in
set_option maxRecDepth 100000 in
theorem ct_X11_possible (l : Launch) (hlt : l.stackTraces = false) (D : va_G) (cB cI cZ : ClassId) (N : Nat) (a0 : Nat → Nat) (I0 : Nat → Int32) (M0 : Nat → Nat → Int32) (x1 : Int32) (x2 : Int32) (x3 : Int32) (sz k : Nat) (hf : fX11_possible N I0 M0 x1 x2 x3 = some (.inl k)) : vx_Met l yX11_possible wyX11_possible ({ frames := 8, cells := 1, slots := 6, locals := 161 }) (va_Pc [.ref (a0 0), .int x1, .int x2, .int x3] (wb_preX D [(cB, .byte), (cI, .int), (cZ, .boolean)] (wWX11 cB cI cZ a0 I0 M0) sz)) (va_Qi (fun _ (_ : Unit) => False) (fun _ _ => True) (fun q => sz ≤ q)) (vx_X (fun _ : Unit => True) (fun E _ _ => E = wb_ex k) (fun q => sz ≤ q)) 1 6 (fun q => sz ≤ q) := by
  refine vx_ofW (cc := cX11_possible) (maxL := 5) (ret := (some .int)) (by decide) rfl ?_
  intro p e s m args below meth c s₁ B hml htab hv
  obtain ⟨rfl, hsz, hP, hK, hX⟩ := hv
  subst hsz
  have hx := B.exec
  have hb := B.bytes
  have hr := B.returns
  have hts := atoms_spec (ws := wyX11_possible) B.pre
  have hown : s.vm.findClass RX11 = some m.cls := (findClass_of_methodNamed B.named :)
  have hlocks := B.notSynchronized
  have hS : va_S (fun q => s.heap.size ≤ q) s.heap s.heap [] := va_S.rf
  have hl := lv_entry ([.ref (a0 0), .int x1, .int x2, .int x3]) (n := 5) (Nat.le_of_ble_eq_true rfl)
  rw [lg_entry_eq]
  generalize (lg_sl ([.ref (a0 0), .int x1, .int x2, .int x3]) ++ List.replicate (5 - (lg_sl ([.ref (a0 0), .int x1, .int x2, .int x3])).length) Slot.unset).toArray = ls at hl ⊢
  have hl : lv_has ls 5 [(0, .ref (a0 0)), (1, .int x1), (2, .int x2), (3, .int x3)] := hl
  unfold fX11_possible at hf
  refine lv_iload_n hx hb dX11_possible_0 rfl (lv_at hl 1 rfl) ?_
  refine lv_iload_n hx hb dX11_possible_1 rfl (lv_at hl 2 rfl) ?_
  rcases wb_xt hf with hrx | ⟨r1, hr1, hf⟩
  · refine vx_calli (vx_runS (As := [.int x1, .int x2]) (rest := []) ⟨hx, hb, hml, hown, hts⟩ (ct_X11_numberOf l hlt D cB cI cZ N x1 x2 s.heap.size k hrx) (va_cwS 2 hts gyX11_possible_X11_numberOf rfl rfl rfl csX11_numberOf ⟨Nat.le_of_ble_eq_true rfl, Nat.le_of_ble_eq_true rfl⟩) (wb_preXS (hP.sub (ws' := ([] : va_W)) [] rfl) hK hX) rfl rfl hl.1 rfl (lv_room (Nat.le_of_ble_eq_true rfl)) dX11_possible_2 ⟨Nat.le_of_ble_eq_true rfl, Nat.le_of_ble_eq_true rfl⟩) hS (fun q _ h => h) (fun _ h => h) (fun q _ h => h) (fun E ce q9 u t H locs ht hvm hpx hB hz1 hk1 hS hq9 hv9 hc9 => ?_) (fun r9 u t H locs ht hvm hw hB hz1 hk1 hS => hw.elim)
    exact vx_out (fun x hx9 => (htab x hx9).elim) hlocks hq9 hv9 hc9 (fun t9 ht9 hvm9 => ⟨(), trivial, hB, hS.F ht9⟩) hS.2.2 (Nat.le_of_ble_eq_true rfl) (Nat.le_of_ble_eq_true rfl)
  refine vp_callSi (W.runS (As := [.int x1, .int x2]) (rest := []) ⟨hx, hb, hml, hown, hts⟩ (cn_X11_numberOf l D cB cI cZ N x1 x2 r1 hr1) (va_cwS 2 hts gyX11_possible_X11_numberOf rfl rfl rfl csX11_numberOf ⟨Nat.le_of_ble_eq_true rfl, Nat.le_of_ble_eq_true rfl⟩) (wb_preS (hP.sub (ws' := ([] : va_W)) [] rfl) hK) rfl rfl hl.1 rfl (lv_room (Nat.le_of_ble_eq_true rfl)) dX11_possible_2 ⟨Nat.le_of_ble_eq_true rfl, Nat.le_of_ble_eq_true rfl⟩) (fun r9 e9 => ?_)
  rw [e9]
  refine lv_istore (lv' := [(4, .int r1), (0, .ref (a0 0)), (1, .int x1), (2, .int x2), (3, .int x3)]) hx hb dX11_possible_5 hl (by decide) rfl (fun ls hl => ?_)
  refine lv_iload_n hx hb dX11_possible_7 rfl (lv_at hl 4 rfl) ?_
  refine lv_iconst (v := (0 : Int32)) hx hb dX11_possible_8 (by decide) ?_
  refine lv_iconst (v := (1 : Int32)) hx hb dX11_possible_9 (by decide) ?_
  obtain ⟨r2, hr2, hf⟩ := wb_b hf
  refine vp_callSi (W.runS (As := [.int x3, .int (0 : Int32), .int (1 : Int32)]) (rest := []) ⟨hx, hb, hml, hown, hts⟩ (cn_X11_within l D cB cI cZ N x3 (0 : Int32) (1 : Int32) r2 hr2) (va_cwS 3 hts gyX11_possible_X11_within rfl rfl rfl csX11_within ⟨Nat.le_of_ble_eq_true rfl, Nat.le_of_ble_eq_true rfl⟩) (wb_preS (hP.sub (ws' := ([] : va_W)) [] rfl) hK) rfl rfl hl.1 rfl (lv_room (Nat.le_of_ble_eq_true rfl)) dX11_possible_10 ⟨Nat.le_of_ble_eq_true rfl, Nat.le_of_ble_eq_true rfl⟩) (fun r9 e9 => ?_)
  rw [e9]
  rcases wb_xt hf with hrx | ⟨r3, hr3, hf⟩
  · refine vx_callv (vx_runS (As := [.int r2]) (rest := []) ⟨hx, hb, hml, hown, hts⟩ (ct_X11_need l hlt D cB cI cZ N r2 s.heap.size k hrx) (va_cwS 1 hts gyX11_possible_X11_need rfl rfl rfl csX11_need ⟨Nat.le_of_ble_eq_true rfl, Nat.le_of_ble_eq_true rfl⟩) (wb_preXS (hP.sub (ws' := ([] : va_W)) [] rfl) hK hX) rfl rfl hl.1 rfl (lv_room (Nat.le_of_ble_eq_true rfl)) dX11_possible_13 ⟨Nat.le_of_ble_eq_true rfl, Nat.le_of_ble_eq_true rfl⟩) hS (fun q _ h => h) (fun _ h => h) (fun q _ h => h) (fun E ce q9 u t H locs ht hvm hpx hB hz1 hk1 hS hq9 hv9 hc9 => ?_) (fun u t H locs ht hvm hw hB hz1 hk1 hS => hw.elim)
    exact vx_out (fun x hx9 => (htab x hx9).elim) hlocks hq9 hv9 hc9 (fun t9 ht9 hvm9 => ⟨(), trivial, hB, hS.F ht9⟩) hS.2.2 (Nat.le_of_ble_eq_true rfl) (Nat.le_of_ble_eq_true rfl)
  refine va_csv (W.runS (As := [.int r2]) (rest := []) ⟨hx, hb, hml, hown, hts⟩ (cn_X11_need l D cB cI cZ N r2 r3 hr3) (va_cwS 1 hts gyX11_possible_X11_need rfl rfl rfl csX11_need ⟨Nat.le_of_ble_eq_true rfl, Nat.le_of_ble_eq_true rfl⟩) (wb_preS (hP.sub (ws' := ([] : va_W)) [] rfl) hK) rfl rfl hl.1 rfl (lv_room (Nat.le_of_ble_eq_true rfl)) dX11_possible_13 ⟨Nat.le_of_ble_eq_true rfl, Nat.le_of_ble_eq_true rfl⟩) (fun _ => ?_)
  exact absurd hf wb_okn

set_option maxHeartbeats 4000000 in
set_option maxRecDepth 100000 in
theorem cn_X11_slips (l : Launch) (D : va_G) (cB cI cZ : ClassId) (N : Nat) (a0 : Nat → Nat) (I0 : Nat → Int32) (M0 : Nat → Nat → Int32) (x1 : Int32) (x2 : Int32) (R : Int32) (hf : fX11_slips N I0 M0 x1 x2 = some (.inr R)) : Met l yX11_slips wyX11_slips ({ frames := 7, cells := 0, slots := 0, locals := 140 }) (va_Pc [.ref (a0 0), .int x1, .int x2] (wb_pre D [(cB, .byte), (cI, .int), (cZ, .boolean)] (wWX11 cB cI cZ a0 I0 M0))) (vp_Si (fun r => r = R)) 0 0 (fun _ => False) := by
  refine Met.ofW (cc := cX11_slips) (maxL := 3) (ret := (some .int)) pn_X11 rfl ?_
  intro p e s m args below meth c s₁ B hml hv
  obtain ⟨rfl, hP, hK⟩ := hv
  have hx := B.exec
  have hb := B.bytes
  have hr := B.returns
  have hts := atoms_spec (ws := wyX11_slips) B.pre
  have hown : s.vm.findClass RX11 = some m.cls := (findClass_of_methodNamed B.named :)
  have hlocks := B.notSynchronized
  have hinX10 : ∀ w ∈ u_ws RX10 TX10 5, w ∈ wyX11_slips := fun w h => List.mem_cons_of_mem _ (List.mem_append_left _ (List.mem_append_left _ (List.mem_append_left _ (List.mem_append_left _ (List.mem_append_right _ h)))))
  have hinX11 : ∀ w ∈ u_ws RX11 TX11 13, w ∈ wyX11_slips := fun w h => List.mem_cons_of_mem _ (List.mem_append_left _ (List.mem_append_left _ (List.mem_append_left _ (List.mem_append_left _ (List.mem_append_left _ (List.mem_append_right _ h))))))
  have hinX5 : ∀ w ∈ u_ws RX5 TX5 6, w ∈ wyX11_slips := fun w h => List.mem_cons_of_mem _ (List.mem_append_left _ (List.mem_append_left _ (List.mem_append_left _ (List.mem_append_right _ h))))
  have hl := lv_entry ([.ref (a0 0), .int x1, .int x2]) (n := 3) (Nat.le_of_ble_eq_true rfl)
  rw [lg_entry_eq]
  generalize (lg_sl ([.ref (a0 0), .int x1, .int x2]) ++ List.replicate (3 - (lg_sl ([.ref (a0 0), .int x1, .int x2])).length) Slot.unset).toArray = ls at hl ⊢
  have hl : lv_has ls 3 [(0, .ref (a0 0)), (1, .int x1), (2, .int x2)] := hl
  unfold fX11_slips at hf
  have J35 : ∀ (z35_0 : Int32), ∀ (ls : Array Slot), lv_has ls 3 [(0, .ref (a0 0)), (1, .int x1), (2, .int x2)] → fX11_slips_J35 N I0 M0 x1 x2 z35_0 = some (.inr R) → W p l e (headSpec wyX11_slips { frames := 7, cells := 0, slots := 0, locals := 140 }).room s m [.ref (a0 0), .int x1, .int x2].toArray below meth c s.heap [] 0 0 (MQ below (vp_Si (fun r => r = R)) [.ref (a0 0), .int x1, .int x2].toArray s 0 0 (fun _ => False)) (F0 m 35 ls [.int z35_0]) := by
    intro z35_0 ls hl hf
    unfold fX11_slips_J35 at hf
    obtain ⟨r1, hr1, hf⟩ := wb_xr hf
    refine va_csv (W.runS (As := [.int z35_0]) (rest := []) ⟨hx, hb, hml, hown, hts⟩ (cn_X11_need l D cB cI cZ N z35_0 r1 hr1) (va_cwS 1 hts gyX11_slips_X11_need rfl rfl rfl csX11_need ⟨Nat.le_of_ble_eq_true rfl, Nat.le_of_ble_eq_true rfl⟩) (wb_preS (hP.sub (ws' := ([] : va_W)) [] rfl) hK) rfl rfl hl.1 rfl (lv_room (Nat.le_of_ble_eq_true rfl)) dX11_slips_35 ⟨Nat.le_of_ble_eq_true rfl, Nat.le_of_ble_eq_true rfl⟩) (fun _ => ?_)
    replace hf := wb_okr hf
    refine lv_aload_n hx hb dX11_slips_38 rfl (lv_at hl 0 rfl) ?_
    refine va_get (D := D) (ci := 11) (v := .ref (a0 34)) (C := RX11) (T := TX11) (N := 13) hx hb hts hinX11 hown hK hP 0 rfl rfl 9 (by decide) (hts (.fieldLink RX11 59 "WheelBook" "copies" "LWheelBook$Tree;") (List.mem_of_getElem? (i := 1) rfl)) (fun _ h9 => h9) rfl dX11_slips_39 ?_
    refine lv_aload_n hx hb dX11_slips_42 rfl (lv_at hl 0 rfl) ?_
    refine va_get (D := D) (ci := 11) (v := .ref (a0 3)) (C := RX11) (T := TX11) (N := 13) hx hb hts hinX11 hown hK hP 0 rfl rfl 1 (by decide) (hts (.fieldLink RX11 19 "WheelBook" "told" "LWheelBook$House;") (List.mem_of_getElem? (i := 3) rfl)) (fun _ h9 => h9) rfl dX11_slips_43 ?_
    refine va_get (D := D) (ci := 5) (v := .ref (a0 10)) (C := RX5) (T := TX5) (N := 6) hx hb hts hinX5 hown hK hP 3 rfl rfl 5 (by decide) (hts (.fieldLink RX11 140 "WheelBook$House" "hands" "LWheelBook$Hands;") (List.mem_of_getElem? (i := 4) rfl)) (fun _ h9 => h9) rfl dX11_slips_46 ?_
    refine lv_aload_n hx hb dX11_slips_49 rfl (lv_at hl 0 rfl) ?_
    refine va_get (D := D) (ci := 11) (v := .ref (a0 21)) (C := RX11) (T := TX11) (N := 13) hx hb hts hinX11 hown hK hP 0 rfl rfl 3 (by decide) (hts (.fieldLink RX11 29 "WheelBook" "books" "LWheelBook$Books;") (List.mem_of_getElem? (i := 5) rfl)) (fun _ h9 => h9) rfl dX11_slips_50 ?_
    refine lv_iload_n hx hb dX11_slips_53 rfl (lv_at hl 1 rfl) ?_
    refine lv_iload_n hx hb dX11_slips_54 rfl (lv_at hl 2 rfl) ?_
    obtain ⟨r2, hr2, hf⟩ := wb_b hf
    refine vp_callSi (W.runV (As := [.ref (a0 10), .ref (a0 21), .int x1, .int x2]) (rest := []) ⟨hx, hb, hml, hown, hts⟩ (cn_X10_howManySlips l D cB cI cZ N (wb_sh a0 34) (wb_sh I0 41) (wb_sh M0 20) (wb_sh a0 10) (wb_sh I0 10) (wb_sh M0 6) (wb_sh a0 21) (wb_sh I0 13) (wb_sh M0 13) x1 x2 r2 hr2) (cwV 4 hts gyX11_slips_X10_howManySlips rfl rfl rfl cdX10_howManySlips ⟨Nat.le_of_ble_eq_true rfl, Nat.le_of_ble_eq_true rfl⟩) (wb_preV (hP.sub (ws' := ((wWX10 cB cI cZ (wb_sh a0 34) (wb_sh I0 41) (wb_sh M0 20)) ++ ((wWX4 cB cI cZ (wb_sh a0 10) (wb_sh I0 10) (wb_sh M0 6)) ++ (wWX1 cB cI cZ (wb_sh a0 21) (wb_sh I0 13) (wb_sh M0 13))))) [34, 35, 36, 37, 10, 11, 21, 22, 23] rfl) hK (wr_10 hK hP (q0 := 34) rfl)) rfl rfl hl.1 rfl (lv_room (Nat.le_of_ble_eq_true rfl)) dX11_slips_55 ⟨Nat.le_of_ble_eq_true rfl, Nat.le_of_ble_eq_true rfl⟩) (fun r9 e9 => ?_)
    rw [e9]
    exact W.iret (v := r2) hx hb hr (fun t ht hW => ⟨_, rfl, Option.some.inj hf, ht⟩) (fun _ h => nomatch h) dX11_slips_58
  have J34 : ∀ (ls : Array Slot), lv_has ls 3 [(0, .ref (a0 0)), (1, .int x1), (2, .int x2)] → fX11_slips_J34 N I0 M0 x1 x2 = some (.inr R) → W p l e (headSpec wyX11_slips { frames := 7, cells := 0, slots := 0, locals := 140 }).room s m [.ref (a0 0), .int x1, .int x2].toArray below meth c s.heap [] 0 0 (MQ below (vp_Si (fun r => r = R)) [.ref (a0 0), .int x1, .int x2].toArray s 0 0 (fun _ => False)) (F0 m 34 ls []) := by
    intro ls hl hf
    unfold fX11_slips_J34 at hf
    refine lv_iconst (v := (0 : Int32)) hx hb dX11_slips_34 (by decide) ?_
    exact J35 (0 : Int32) ls (lv_sub hl [0, 1, 2] rfl) hf
  refine lv_iload_n hx hb dX11_slips_0 rfl (lv_at hl 1 rfl) ?_
  refine lv_iconst (v := (0 : Int32)) hx hb dX11_slips_1 (by decide) ?_
  refine lv_bipush (v := (29 : Int32)) hx hb dX11_slips_2 (by decide) ?_
  obtain ⟨r3, hr3, hf⟩ := wb_b hf
  refine vp_callSi (W.runS (As := [.int x1, .int (0 : Int32), .int (29 : Int32)]) (rest := []) ⟨hx, hb, hml, hown, hts⟩ (cn_X11_within l D cB cI cZ N x1 (0 : Int32) (29 : Int32) r3 hr3) (va_cwS 3 hts gyX11_slips_X11_within rfl rfl rfl csX11_within ⟨Nat.le_of_ble_eq_true rfl, Nat.le_of_ble_eq_true rfl⟩) (wb_preS (hP.sub (ws' := ([] : va_W)) [] rfl) hK) rfl rfl hl.1 rfl (lv_room (Nat.le_of_ble_eq_true rfl)) dX11_slips_4 ⟨Nat.le_of_ble_eq_true rfl, Nat.le_of_ble_eq_true rfl⟩) (fun r9 e9 => ?_)
  rw [e9]
  refine lv_if_eq (tgt := 34) hx hb dX11_slips_7 (by decide) (fun hc => ?_) (fun hc => ?_)
  · replace hf := wb_t hc hf
    exact J34 ls (lv_sub hl [0, 1, 2] rfl) hf
  · replace hf := wb_f hc hf
    refine lv_iload_n hx hb dX11_slips_10 rfl (lv_at hl 2 rfl) ?_
    refine lv_iconst (v := (0 : Int32)) hx hb dX11_slips_11 (by decide) ?_
    refine lv_bipush (v := (29 : Int32)) hx hb dX11_slips_12 (by decide) ?_
    obtain ⟨r4, hr4, hf⟩ := wb_b hf
    refine vp_callSi (W.runS (As := [.int x2, .int (0 : Int32), .int (29 : Int32)]) (rest := []) ⟨hx, hb, hml, hown, hts⟩ (cn_X11_within l D cB cI cZ N x2 (0 : Int32) (29 : Int32) r4 hr4) (va_cwS 3 hts gyX11_slips_X11_within rfl rfl rfl csX11_within ⟨Nat.le_of_ble_eq_true rfl, Nat.le_of_ble_eq_true rfl⟩) (wb_preS (hP.sub (ws' := ([] : va_W)) [] rfl) hK) rfl rfl hl.1 rfl (lv_room (Nat.le_of_ble_eq_true rfl)) dX11_slips_14 ⟨Nat.le_of_ble_eq_true rfl, Nat.le_of_ble_eq_true rfl⟩) (fun r9 e9 => ?_)
    rw [e9]
    refine lv_if_eq (tgt := 34) hx hb dX11_slips_17 (by decide) (fun hc => ?_) (fun hc => ?_)
    · replace hf := wb_t hc hf
      exact J34 ls (lv_sub hl [0, 1, 2] rfl) hf
    · replace hf := wb_f hc hf
      refine lv_aload_n hx hb dX11_slips_20 rfl (lv_at hl 0 rfl) ?_
      refine va_get (D := D) (ci := 11) (v := .ref (a0 34)) (C := RX11) (T := TX11) (N := 13) hx hb hts hinX11 hown hK hP 0 rfl rfl 9 (by decide) (hts (.fieldLink RX11 59 "WheelBook" "copies" "LWheelBook$Tree;") (List.mem_of_getElem? (i := 1) rfl)) (fun _ h9 => h9) rfl dX11_slips_21 ?_
      refine va_get (D := D) (ci := 10) (v := .int (I0 42)) (C := RX10) (T := TX10) (N := 5) hx hb hts hinX10 hown hK hP 34 rfl rfl 4 (by decide) (hts (.fieldLink RX11 298 "WheelBook$Tree" "isKept" "Z") (List.mem_of_getElem? (i := 2) rfl)) (fun _ h9 => h9) rfl dX11_slips_24 ?_
      refine lv_if_eq (tgt := 34) hx hb dX11_slips_27 (by decide) (fun hc => ?_) (fun hc => ?_)
      · replace hf := wb_t hc hf
        exact J34 ls (lv_sub hl [0, 1, 2] rfl) hf
      · replace hf := wb_f hc hf
        refine lv_iconst (v := (1 : Int32)) hx hb dX11_slips_30 (by decide) ?_
        refine lv_goto (tgt := 35) hx hb dX11_slips_31 (by decide) ?_
        exact J35 (1 : Int32) ls (lv_sub hl [0, 1, 2] rfl) hf
set_option maxHeartbeats 4000000 in
set_option maxRecDepth 100000 in
theorem ct_X11_slips (l : Launch) (hlt : l.stackTraces = false) (D : va_G) (cB cI cZ : ClassId) (N : Nat) (a0 : Nat → Nat) (I0 : Nat → Int32) (M0 : Nat → Nat → Int32) (x1 : Int32) (x2 : Int32) (sz k : Nat) (hf : fX11_slips N I0 M0 x1 x2 = some (.inl k)) : vx_Met l yX11_slips wyX11_slips ({ frames := 7, cells := 1, slots := 6, locals := 140 }) (va_Pc [.ref (a0 0), .int x1, .int x2] (wb_preX D [(cB, .byte), (cI, .int), (cZ, .boolean)] (wWX11 cB cI cZ a0 I0 M0) sz)) (va_Qi (fun _ (_ : Unit) => False) (fun _ _ => True) (fun q => sz ≤ q)) (vx_X (fun _ : Unit => True) (fun E _ _ => E = wb_ex k) (fun q => sz ≤ q)) 1 6 (fun q => sz ≤ q) := by
  refine vx_ofW (cc := cX11_slips) (maxL := 3) (ret := (some .int)) (by decide) rfl ?_
  intro p e s m args below meth c s₁ B hml htab hv
  obtain ⟨rfl, hsz, hP, hK, hX⟩ := hv
  subst hsz
  have hx := B.exec
  have hb := B.bytes
  have hr := B.returns
  have hts := atoms_spec (ws := wyX11_slips) B.pre
  have hown : s.vm.findClass RX11 = some m.cls := (findClass_of_methodNamed B.named :)
  have hlocks := B.notSynchronized
  have hS : va_S (fun q => s.heap.size ≤ q) s.heap s.heap [] := va_S.rf
  have hinX10 : ∀ w ∈ u_ws RX10 TX10 5, w ∈ wyX11_slips := fun w h => List.mem_cons_of_mem _ (List.mem_append_left _ (List.mem_append_left _ (List.mem_append_left _ (List.mem_append_left _ (List.mem_append_right _ h)))))
  have hinX11 : ∀ w ∈ u_ws RX11 TX11 13, w ∈ wyX11_slips := fun w h => List.mem_cons_of_mem _ (List.mem_append_left _ (List.mem_append_left _ (List.mem_append_left _ (List.mem_append_left _ (List.mem_append_left _ (List.mem_append_right _ h))))))
  have hl := lv_entry ([.ref (a0 0), .int x1, .int x2]) (n := 3) (Nat.le_of_ble_eq_true rfl)
  rw [lg_entry_eq]
  generalize (lg_sl ([.ref (a0 0), .int x1, .int x2]) ++ List.replicate (3 - (lg_sl ([.ref (a0 0), .int x1, .int x2])).length) Slot.unset).toArray = ls at hl ⊢
  have hl : lv_has ls 3 [(0, .ref (a0 0)), (1, .int x1), (2, .int x2)] := hl
  unfold fX11_slips at hf
  have J35 : ∀ (z35_0 : Int32), ∀ (ls : Array Slot), lv_has ls 3 [(0, .ref (a0 0)), (1, .int x1), (2, .int x2)] → fX11_slips_J35 N I0 M0 x1 x2 z35_0 = some (.inl k) → W p l e (headSpec wyX11_slips { frames := 7, cells := 1, slots := 6, locals := 140 }).room s m [.ref (a0 0), .int x1, .int x2].toArray below meth c s.heap [] 0 0 (vx_MQ below (va_Qi (fun _ (_ : Unit) => False) (fun _ _ => True) (fun q => s.heap.size ≤ q)) (vx_X (fun _ : Unit => True) (fun E _ _ => E = wb_ex k) (fun q => s.heap.size ≤ q)) [.ref (a0 0), .int x1, .int x2].toArray s 1 6 (fun q => s.heap.size ≤ q)) (F0 m 35 ls [.int z35_0]) := by
    intro z35_0 ls hl hf
    unfold fX11_slips_J35 at hf
    rcases wb_xt hf with hrx | ⟨r1, hr1, hf⟩
    · refine vx_callv (vx_runS (As := [.int z35_0]) (rest := []) ⟨hx, hb, hml, hown, hts⟩ (ct_X11_need l hlt D cB cI cZ N z35_0 s.heap.size k hrx) (va_cwS 1 hts gyX11_slips_X11_need rfl rfl rfl csX11_need ⟨Nat.le_of_ble_eq_true rfl, Nat.le_of_ble_eq_true rfl⟩) (wb_preXS (hP.sub (ws' := ([] : va_W)) [] rfl) hK hX) rfl rfl hl.1 rfl (lv_room (Nat.le_of_ble_eq_true rfl)) dX11_slips_35 ⟨Nat.le_of_ble_eq_true rfl, Nat.le_of_ble_eq_true rfl⟩) hS (fun q _ h => h) (fun _ h => h) (fun q _ h => h) (fun E ce q9 u t H locs ht hvm hpx hB hz1 hk1 hS hq9 hv9 hc9 => ?_) (fun u t H locs ht hvm hw hB hz1 hk1 hS => hw.elim)
      exact vx_out (fun x hx9 => (htab x hx9).elim) hlocks hq9 hv9 hc9 (fun t9 ht9 hvm9 => ⟨(), trivial, hB, hS.F ht9⟩) hS.2.2 (Nat.le_of_ble_eq_true rfl) (Nat.le_of_ble_eq_true rfl)
    refine va_csv (W.runS (As := [.int z35_0]) (rest := []) ⟨hx, hb, hml, hown, hts⟩ (cn_X11_need l D cB cI cZ N z35_0 r1 hr1) (va_cwS 1 hts gyX11_slips_X11_need rfl rfl rfl csX11_need ⟨Nat.le_of_ble_eq_true rfl, Nat.le_of_ble_eq_true rfl⟩) (wb_preS (hP.sub (ws' := ([] : va_W)) [] rfl) hK) rfl rfl hl.1 rfl (lv_room (Nat.le_of_ble_eq_true rfl)) dX11_slips_35 ⟨Nat.le_of_ble_eq_true rfl, Nat.le_of_ble_eq_true rfl⟩) (fun _ => ?_)
    exact absurd hf wb_okn
  have J34 : ∀ (ls : Array Slot), lv_has ls 3 [(0, .ref (a0 0)), (1, .int x1), (2, .int x2)] → fX11_slips_J34 N I0 M0 x1 x2 = some (.inl k) → W p l e (headSpec wyX11_slips { frames := 7, cells := 1, slots := 6, locals := 140 }).room s m [.ref (a0 0), .int x1, .int x2].toArray below meth c s.heap [] 0 0 (vx_MQ below (va_Qi (fun _ (_ : Unit) => False) (fun _ _ => True) (fun q => s.heap.size ≤ q)) (vx_X (fun _ : Unit => True) (fun E _ _ => E = wb_ex k) (fun q => s.heap.size ≤ q)) [.ref (a0 0), .int x1, .int x2].toArray s 1 6 (fun q => s.heap.size ≤ q)) (F0 m 34 ls []) := by
    intro ls hl hf
    unfold fX11_slips_J34 at hf
    refine lv_iconst (v := (0 : Int32)) hx hb dX11_slips_34 (by decide) ?_
    exact J35 (0 : Int32) ls (lv_sub hl [0, 1, 2] rfl) hf
  refine lv_iload_n hx hb dX11_slips_0 rfl (lv_at hl 1 rfl) ?_
  refine lv_iconst (v := (0 : Int32)) hx hb dX11_slips_1 (by decide) ?_
  refine lv_bipush (v := (29 : Int32)) hx hb dX11_slips_2 (by decide) ?_
  obtain ⟨r2, hr2, hf⟩ := wb_b hf
  refine vp_callSi (W.runS (As := [.int x1, .int (0 : Int32), .int (29 : Int32)]) (rest := []) ⟨hx, hb, hml, hown, hts⟩ (cn_X11_within l D cB cI cZ N x1 (0 : Int32) (29 : Int32) r2 hr2) (va_cwS 3 hts gyX11_slips_X11_within rfl rfl rfl csX11_within ⟨Nat.le_of_ble_eq_true rfl, Nat.le_of_ble_eq_true rfl⟩) (wb_preS (hP.sub (ws' := ([] : va_W)) [] rfl) hK) rfl rfl hl.1 rfl (lv_room (Nat.le_of_ble_eq_true rfl)) dX11_slips_4 ⟨Nat.le_of_ble_eq_true rfl, Nat.le_of_ble_eq_true rfl⟩) (fun r9 e9 => ?_)
  rw [e9]
  refine lv_if_eq (tgt := 34) hx hb dX11_slips_7 (by decide) (fun hc => ?_) (fun hc => ?_)
  · replace hf := wb_t hc hf
    exact J34 ls (lv_sub hl [0, 1, 2] rfl) hf
  · replace hf := wb_f hc hf
    refine lv_iload_n hx hb dX11_slips_10 rfl (lv_at hl 2 rfl) ?_
    refine lv_iconst (v := (0 : Int32)) hx hb dX11_slips_11 (by decide) ?_
    refine lv_bipush (v := (29 : Int32)) hx hb dX11_slips_12 (by decide) ?_
    obtain ⟨r3, hr3, hf⟩ := wb_b hf
    refine vp_callSi (W.runS (As := [.int x2, .int (0 : Int32), .int (29 : Int32)]) (rest := []) ⟨hx, hb, hml, hown, hts⟩ (cn_X11_within l D cB cI cZ N x2 (0 : Int32) (29 : Int32) r3 hr3) (va_cwS 3 hts gyX11_slips_X11_within rfl rfl rfl csX11_within ⟨Nat.le_of_ble_eq_true rfl, Nat.le_of_ble_eq_true rfl⟩) (wb_preS (hP.sub (ws' := ([] : va_W)) [] rfl) hK) rfl rfl hl.1 rfl (lv_room (Nat.le_of_ble_eq_true rfl)) dX11_slips_14 ⟨Nat.le_of_ble_eq_true rfl, Nat.le_of_ble_eq_true rfl⟩) (fun r9 e9 => ?_)
    rw [e9]
    refine lv_if_eq (tgt := 34) hx hb dX11_slips_17 (by decide) (fun hc => ?_) (fun hc => ?_)
    · replace hf := wb_t hc hf
      exact J34 ls (lv_sub hl [0, 1, 2] rfl) hf
    · replace hf := wb_f hc hf
      refine lv_aload_n hx hb dX11_slips_20 rfl (lv_at hl 0 rfl) ?_
      refine va_get (D := D) (ci := 11) (v := .ref (a0 34)) (C := RX11) (T := TX11) (N := 13) hx hb hts hinX11 hown hK hP 0 rfl rfl 9 (by decide) (hts (.fieldLink RX11 59 "WheelBook" "copies" "LWheelBook$Tree;") (List.mem_of_getElem? (i := 1) rfl)) (fun _ h9 => h9) rfl dX11_slips_21 ?_
      refine va_get (D := D) (ci := 10) (v := .int (I0 42)) (C := RX10) (T := TX10) (N := 5) hx hb hts hinX10 hown hK hP 34 rfl rfl 4 (by decide) (hts (.fieldLink RX11 298 "WheelBook$Tree" "isKept" "Z") (List.mem_of_getElem? (i := 2) rfl)) (fun _ h9 => h9) rfl dX11_slips_24 ?_
      refine lv_if_eq (tgt := 34) hx hb dX11_slips_27 (by decide) (fun hc => ?_) (fun hc => ?_)
      · replace hf := wb_t hc hf
        exact J34 ls (lv_sub hl [0, 1, 2] rfl) hf
      · replace hf := wb_f hc hf
        refine lv_iconst (v := (1 : Int32)) hx hb dX11_slips_30 (by decide) ?_
        refine lv_goto (tgt := 35) hx hb dX11_slips_31 (by decide) ?_
        exact J35 (1 : Int32) ls (lv_sub hl [0, 1, 2] rfl) hf

set_option maxHeartbeats 4000000 in
set_option maxRecDepth 100000 in
theorem cn_X11_handed (l : Launch) (D : va_G) (cB cI cZ : ClassId) (N : Nat) (a0 : Nat → Nat) (I0 : Nat → Int32) (M0 : Nat → Nat → Int32) (x1 : Int32) (x2 : Int32) (x3 : Int32) (R : Int32) (hf : fX11_handed N I0 M0 x1 x2 x3 = some (.inr R)) : Met l yX11_handed wyX11_handed ({ frames := 7, cells := 0, slots := 0, locals := 140 }) (va_Pc [.ref (a0 0), .int x1, .int x2, .int x3] (wb_pre D [(cB, .byte), (cI, .int), (cZ, .boolean)] (wWX11 cB cI cZ a0 I0 M0))) (vp_Si (fun r => r = R)) 0 0 (fun _ => False) := by
  refine Met.ofW (cc := cX11_handed) (maxL := 4) (ret := (some .int)) pn_X11 rfl ?_
  intro p e s m args below meth c s₁ B hml hv
  obtain ⟨rfl, hP, hK⟩ := hv
  have hx := B.exec
  have hb := B.bytes
  have hr := B.returns
  have hts := atoms_spec (ws := wyX11_handed) B.pre
  have hown : s.vm.findClass RX11 = some m.cls := (findClass_of_methodNamed B.named :)
  have hlocks := B.notSynchronized
  have hinX11 : ∀ w ∈ u_ws RX11 TX11 13, w ∈ wyX11_handed := fun w h => List.mem_cons_of_mem _ (List.mem_append_left _ (List.mem_append_left _ (List.mem_append_right _ h)))
  have hl := lv_entry ([.ref (a0 0), .int x1, .int x2, .int x3]) (n := 4) (Nat.le_of_ble_eq_true rfl)
  rw [lg_entry_eq]
  generalize (lg_sl ([.ref (a0 0), .int x1, .int x2, .int x3]) ++ List.replicate (4 - (lg_sl ([.ref (a0 0), .int x1, .int x2, .int x3])).length) Slot.unset).toArray = ls at hl ⊢
  have hl : lv_has ls 4 [(0, .ref (a0 0)), (1, .int x1), (2, .int x2), (3, .int x3)] := hl
  unfold fX11_handed at hf
  have J26 : ∀ (z26_0 : Int32), ∀ (ls : Array Slot), lv_has ls 4 [(0, .ref (a0 0)), (1, .int x1), (2, .int x2), (3, .int x3)] → fX11_handed_J26 N I0 M0 x1 x2 x3 z26_0 = some (.inr R) → W p l e (headSpec wyX11_handed { frames := 7, cells := 0, slots := 0, locals := 140 }).room s m [.ref (a0 0), .int x1, .int x2, .int x3].toArray below meth c s.heap [] 0 0 (MQ below (vp_Si (fun r => r = R)) [.ref (a0 0), .int x1, .int x2, .int x3].toArray s 0 0 (fun _ => False)) (F0 m 26 ls [.int z26_0]) := by
    intro z26_0 ls hl hf
    unfold fX11_handed_J26 at hf
    obtain ⟨r1, hr1, hf⟩ := wb_xr hf
    refine va_csv (W.runS (As := [.int z26_0]) (rest := []) ⟨hx, hb, hml, hown, hts⟩ (cn_X11_need l D cB cI cZ N z26_0 r1 hr1) (va_cwS 1 hts gyX11_handed_X11_need rfl rfl rfl csX11_need ⟨Nat.le_of_ble_eq_true rfl, Nat.le_of_ble_eq_true rfl⟩) (wb_preS (hP.sub (ws' := ([] : va_W)) [] rfl) hK) rfl rfl hl.1 rfl (lv_room (Nat.le_of_ble_eq_true rfl)) dX11_handed_26 ⟨Nat.le_of_ble_eq_true rfl, Nat.le_of_ble_eq_true rfl⟩) (fun _ => ?_)
    replace hf := wb_okr hf
    refine lv_aload_n hx hb dX11_handed_29 rfl (lv_at hl 0 rfl) ?_
    refine va_get (D := D) (ci := 11) (v := .ref (a0 21)) (C := RX11) (T := TX11) (N := 13) hx hb hts hinX11 hown hK hP 0 rfl rfl 3 (by decide) (hts (.fieldLink RX11 29 "WheelBook" "books" "LWheelBook$Books;") (List.mem_of_getElem? (i := 1) rfl)) (fun _ h9 => h9) rfl dX11_handed_30 ?_
    refine lv_iload_n hx hb dX11_handed_33 rfl (lv_at hl 1 rfl) ?_
    refine lv_iload_n hx hb dX11_handed_34 rfl (lv_at hl 2 rfl) ?_
    refine lv_iload_n hx hb dX11_handed_35 rfl (lv_at hl 3 rfl) ?_
    obtain ⟨r2, hr2, hf⟩ := wb_b hf
    refine vp_callSi (W.runV (As := [.int x1, .int x2, .int x3]) (rest := []) ⟨hx, hb, hml, hown, hts⟩ (cn_X1_howManyHanded l D cB cI cZ N (wb_sh a0 21) (wb_sh I0 13) (wb_sh M0 13) x1 x2 x3 r2 hr2) (cwV 3 hts gyX11_handed_X1_howManyHanded rfl rfl rfl cdX1_howManyHanded ⟨Nat.le_of_ble_eq_true rfl, Nat.le_of_ble_eq_true rfl⟩) (wb_preV (hP.sub (ws' := (wWX1 cB cI cZ (wb_sh a0 21) (wb_sh I0 13) (wb_sh M0 13))) [21, 22, 23] rfl) hK (wr_1 hK hP (q0 := 21) rfl)) rfl rfl hl.1 rfl (lv_room (Nat.le_of_ble_eq_true rfl)) dX11_handed_36 ⟨Nat.le_of_ble_eq_true rfl, Nat.le_of_ble_eq_true rfl⟩) (fun r9 e9 => ?_)
    rw [e9]
    exact W.iret (v := r2) hx hb hr (fun t ht hW => ⟨_, rfl, Option.some.inj hf, ht⟩) (fun _ h => nomatch h) dX11_handed_39
  have J25 : ∀ (ls : Array Slot), lv_has ls 4 [(0, .ref (a0 0)), (1, .int x1), (2, .int x2), (3, .int x3)] → fX11_handed_J25 N I0 M0 x1 x2 x3 = some (.inr R) → W p l e (headSpec wyX11_handed { frames := 7, cells := 0, slots := 0, locals := 140 }).room s m [.ref (a0 0), .int x1, .int x2, .int x3].toArray below meth c s.heap [] 0 0 (MQ below (vp_Si (fun r => r = R)) [.ref (a0 0), .int x1, .int x2, .int x3].toArray s 0 0 (fun _ => False)) (F0 m 25 ls []) := by
    intro ls hl hf
    unfold fX11_handed_J25 at hf
    refine lv_iconst (v := (0 : Int32)) hx hb dX11_handed_25 (by decide) ?_
    exact J26 (0 : Int32) ls (lv_sub hl [0, 1, 2, 3] rfl) hf
  refine lv_iload_n hx hb dX11_handed_0 rfl (lv_at hl 1 rfl) ?_
  obtain ⟨r3, hr3, hf⟩ := wb_b hf
  refine vp_callSi (W.runS (As := [.int x1]) (rest := []) ⟨hx, hb, hml, hown, hts⟩ (cn_X11_isBook l D cB cI cZ N x1 r3 hr3) (va_cwS 1 hts gyX11_handed_X11_isBook rfl rfl rfl csX11_isBook ⟨Nat.le_of_ble_eq_true rfl, Nat.le_of_ble_eq_true rfl⟩) (wb_preS (hP.sub (ws' := ([] : va_W)) [] rfl) hK) rfl rfl hl.1 rfl (lv_room (Nat.le_of_ble_eq_true rfl)) dX11_handed_1 ⟨Nat.le_of_ble_eq_true rfl, Nat.le_of_ble_eq_true rfl⟩) (fun r9 e9 => ?_)
  rw [e9]
  refine lv_if_eq (tgt := 25) hx hb dX11_handed_4 (by decide) (fun hc => ?_) (fun hc => ?_)
  · replace hf := wb_t hc hf
    exact J25 ls (lv_sub hl [0, 1, 2, 3] rfl) hf
  · replace hf := wb_f hc hf
    refine lv_iload_n hx hb dX11_handed_7 rfl (lv_at hl 2 rfl) ?_
    obtain ⟨r4, hr4, hf⟩ := wb_b hf
    refine vp_callSi (W.runS (As := [.int x2]) (rest := []) ⟨hx, hb, hml, hown, hts⟩ (cn_X11_isBook l D cB cI cZ N x2 r4 hr4) (va_cwS 1 hts gyX11_handed_X11_isBook rfl rfl rfl csX11_isBook ⟨Nat.le_of_ble_eq_true rfl, Nat.le_of_ble_eq_true rfl⟩) (wb_preS (hP.sub (ws' := ([] : va_W)) [] rfl) hK) rfl rfl hl.1 rfl (lv_room (Nat.le_of_ble_eq_true rfl)) dX11_handed_8 ⟨Nat.le_of_ble_eq_true rfl, Nat.le_of_ble_eq_true rfl⟩) (fun r9 e9 => ?_)
    rw [e9]
    refine lv_if_eq (tgt := 25) hx hb dX11_handed_11 (by decide) (fun hc => ?_) (fun hc => ?_)
    · replace hf := wb_t hc hf
      exact J25 ls (lv_sub hl [0, 1, 2, 3] rfl) hf
    · replace hf := wb_f hc hf
      refine lv_iload_n hx hb dX11_handed_14 rfl (lv_at hl 3 rfl) ?_
      obtain ⟨r5, hr5, hf⟩ := wb_b hf
      refine vp_callSi (W.runS (As := [.int x3]) (rest := []) ⟨hx, hb, hml, hown, hts⟩ (cn_X11_isBook l D cB cI cZ N x3 r5 hr5) (va_cwS 1 hts gyX11_handed_X11_isBook rfl rfl rfl csX11_isBook ⟨Nat.le_of_ble_eq_true rfl, Nat.le_of_ble_eq_true rfl⟩) (wb_preS (hP.sub (ws' := ([] : va_W)) [] rfl) hK) rfl rfl hl.1 rfl (lv_room (Nat.le_of_ble_eq_true rfl)) dX11_handed_15 ⟨Nat.le_of_ble_eq_true rfl, Nat.le_of_ble_eq_true rfl⟩) (fun r9 e9 => ?_)
      rw [e9]
      refine lv_if_eq (tgt := 25) hx hb dX11_handed_18 (by decide) (fun hc => ?_) (fun hc => ?_)
      · replace hf := wb_t hc hf
        exact J25 ls (lv_sub hl [0, 1, 2, 3] rfl) hf
      · replace hf := wb_f hc hf
        refine lv_iconst (v := (1 : Int32)) hx hb dX11_handed_21 (by decide) ?_
        refine lv_goto (tgt := 26) hx hb dX11_handed_22 (by decide) ?_
        exact J26 (1 : Int32) ls (lv_sub hl [0, 1, 2, 3] rfl) hf
set_option maxHeartbeats 4000000 in
set_option maxRecDepth 100000 in
theorem ct_X11_handed (l : Launch) (hlt : l.stackTraces = false) (D : va_G) (cB cI cZ : ClassId) (N : Nat) (a0 : Nat → Nat) (I0 : Nat → Int32) (M0 : Nat → Nat → Int32) (x1 : Int32) (x2 : Int32) (x3 : Int32) (sz k : Nat) (hf : fX11_handed N I0 M0 x1 x2 x3 = some (.inl k)) : vx_Met l yX11_handed wyX11_handed ({ frames := 7, cells := 1, slots := 6, locals := 140 }) (va_Pc [.ref (a0 0), .int x1, .int x2, .int x3] (wb_preX D [(cB, .byte), (cI, .int), (cZ, .boolean)] (wWX11 cB cI cZ a0 I0 M0) sz)) (va_Qi (fun _ (_ : Unit) => False) (fun _ _ => True) (fun q => sz ≤ q)) (vx_X (fun _ : Unit => True) (fun E _ _ => E = wb_ex k) (fun q => sz ≤ q)) 1 6 (fun q => sz ≤ q) := by
  refine vx_ofW (cc := cX11_handed) (maxL := 4) (ret := (some .int)) (by decide) rfl ?_
  intro p e s m args below meth c s₁ B hml htab hv
  obtain ⟨rfl, hsz, hP, hK, hX⟩ := hv
  subst hsz
  have hx := B.exec
  have hb := B.bytes
  have hr := B.returns
  have hts := atoms_spec (ws := wyX11_handed) B.pre
  have hown : s.vm.findClass RX11 = some m.cls := (findClass_of_methodNamed B.named :)
  have hlocks := B.notSynchronized
  have hS : va_S (fun q => s.heap.size ≤ q) s.heap s.heap [] := va_S.rf
  have hl := lv_entry ([.ref (a0 0), .int x1, .int x2, .int x3]) (n := 4) (Nat.le_of_ble_eq_true rfl)
  rw [lg_entry_eq]
  generalize (lg_sl ([.ref (a0 0), .int x1, .int x2, .int x3]) ++ List.replicate (4 - (lg_sl ([.ref (a0 0), .int x1, .int x2, .int x3])).length) Slot.unset).toArray = ls at hl ⊢
  have hl : lv_has ls 4 [(0, .ref (a0 0)), (1, .int x1), (2, .int x2), (3, .int x3)] := hl
  unfold fX11_handed at hf
  have J26 : ∀ (z26_0 : Int32), ∀ (ls : Array Slot), lv_has ls 4 [(0, .ref (a0 0)), (1, .int x1), (2, .int x2), (3, .int x3)] → fX11_handed_J26 N I0 M0 x1 x2 x3 z26_0 = some (.inl k) → W p l e (headSpec wyX11_handed { frames := 7, cells := 1, slots := 6, locals := 140 }).room s m [.ref (a0 0), .int x1, .int x2, .int x3].toArray below meth c s.heap [] 0 0 (vx_MQ below (va_Qi (fun _ (_ : Unit) => False) (fun _ _ => True) (fun q => s.heap.size ≤ q)) (vx_X (fun _ : Unit => True) (fun E _ _ => E = wb_ex k) (fun q => s.heap.size ≤ q)) [.ref (a0 0), .int x1, .int x2, .int x3].toArray s 1 6 (fun q => s.heap.size ≤ q)) (F0 m 26 ls [.int z26_0]) := by
    intro z26_0 ls hl hf
    unfold fX11_handed_J26 at hf
    rcases wb_xt hf with hrx | ⟨r1, hr1, hf⟩
    · refine vx_callv (vx_runS (As := [.int z26_0]) (rest := []) ⟨hx, hb, hml, hown, hts⟩ (ct_X11_need l hlt D cB cI cZ N z26_0 s.heap.size k hrx) (va_cwS 1 hts gyX11_handed_X11_need rfl rfl rfl csX11_need ⟨Nat.le_of_ble_eq_true rfl, Nat.le_of_ble_eq_true rfl⟩) (wb_preXS (hP.sub (ws' := ([] : va_W)) [] rfl) hK hX) rfl rfl hl.1 rfl (lv_room (Nat.le_of_ble_eq_true rfl)) dX11_handed_26 ⟨Nat.le_of_ble_eq_true rfl, Nat.le_of_ble_eq_true rfl⟩) hS (fun q _ h => h) (fun _ h => h) (fun q _ h => h) (fun E ce q9 u t H locs ht hvm hpx hB hz1 hk1 hS hq9 hv9 hc9 => ?_) (fun u t H locs ht hvm hw hB hz1 hk1 hS => hw.elim)
      exact vx_out (fun x hx9 => (htab x hx9).elim) hlocks hq9 hv9 hc9 (fun t9 ht9 hvm9 => ⟨(), trivial, hB, hS.F ht9⟩) hS.2.2 (Nat.le_of_ble_eq_true rfl) (Nat.le_of_ble_eq_true rfl)
    refine va_csv (W.runS (As := [.int z26_0]) (rest := []) ⟨hx, hb, hml, hown, hts⟩ (cn_X11_need l D cB cI cZ N z26_0 r1 hr1) (va_cwS 1 hts gyX11_handed_X11_need rfl rfl rfl csX11_need ⟨Nat.le_of_ble_eq_true rfl, Nat.le_of_ble_eq_true rfl⟩) (wb_preS (hP.sub (ws' := ([] : va_W)) [] rfl) hK) rfl rfl hl.1 rfl (lv_room (Nat.le_of_ble_eq_true rfl)) dX11_handed_26 ⟨Nat.le_of_ble_eq_true rfl, Nat.le_of_ble_eq_true rfl⟩) (fun _ => ?_)
    exact absurd hf wb_okn
  have J25 : ∀ (ls : Array Slot), lv_has ls 4 [(0, .ref (a0 0)), (1, .int x1), (2, .int x2), (3, .int x3)] → fX11_handed_J25 N I0 M0 x1 x2 x3 = some (.inl k) → W p l e (headSpec wyX11_handed { frames := 7, cells := 1, slots := 6, locals := 140 }).room s m [.ref (a0 0), .int x1, .int x2, .int x3].toArray below meth c s.heap [] 0 0 (vx_MQ below (va_Qi (fun _ (_ : Unit) => False) (fun _ _ => True) (fun q => s.heap.size ≤ q)) (vx_X (fun _ : Unit => True) (fun E _ _ => E = wb_ex k) (fun q => s.heap.size ≤ q)) [.ref (a0 0), .int x1, .int x2, .int x3].toArray s 1 6 (fun q => s.heap.size ≤ q)) (F0 m 25 ls []) := by
    intro ls hl hf
    unfold fX11_handed_J25 at hf
    refine lv_iconst (v := (0 : Int32)) hx hb dX11_handed_25 (by decide) ?_
    exact J26 (0 : Int32) ls (lv_sub hl [0, 1, 2, 3] rfl) hf
  refine lv_iload_n hx hb dX11_handed_0 rfl (lv_at hl 1 rfl) ?_
  obtain ⟨r2, hr2, hf⟩ := wb_b hf
  refine vp_callSi (W.runS (As := [.int x1]) (rest := []) ⟨hx, hb, hml, hown, hts⟩ (cn_X11_isBook l D cB cI cZ N x1 r2 hr2) (va_cwS 1 hts gyX11_handed_X11_isBook rfl rfl rfl csX11_isBook ⟨Nat.le_of_ble_eq_true rfl, Nat.le_of_ble_eq_true rfl⟩) (wb_preS (hP.sub (ws' := ([] : va_W)) [] rfl) hK) rfl rfl hl.1 rfl (lv_room (Nat.le_of_ble_eq_true rfl)) dX11_handed_1 ⟨Nat.le_of_ble_eq_true rfl, Nat.le_of_ble_eq_true rfl⟩) (fun r9 e9 => ?_)
  rw [e9]
  refine lv_if_eq (tgt := 25) hx hb dX11_handed_4 (by decide) (fun hc => ?_) (fun hc => ?_)
  · replace hf := wb_t hc hf
    exact J25 ls (lv_sub hl [0, 1, 2, 3] rfl) hf
  · replace hf := wb_f hc hf
    refine lv_iload_n hx hb dX11_handed_7 rfl (lv_at hl 2 rfl) ?_
    obtain ⟨r3, hr3, hf⟩ := wb_b hf
    refine vp_callSi (W.runS (As := [.int x2]) (rest := []) ⟨hx, hb, hml, hown, hts⟩ (cn_X11_isBook l D cB cI cZ N x2 r3 hr3) (va_cwS 1 hts gyX11_handed_X11_isBook rfl rfl rfl csX11_isBook ⟨Nat.le_of_ble_eq_true rfl, Nat.le_of_ble_eq_true rfl⟩) (wb_preS (hP.sub (ws' := ([] : va_W)) [] rfl) hK) rfl rfl hl.1 rfl (lv_room (Nat.le_of_ble_eq_true rfl)) dX11_handed_8 ⟨Nat.le_of_ble_eq_true rfl, Nat.le_of_ble_eq_true rfl⟩) (fun r9 e9 => ?_)
    rw [e9]
    refine lv_if_eq (tgt := 25) hx hb dX11_handed_11 (by decide) (fun hc => ?_) (fun hc => ?_)
    · replace hf := wb_t hc hf
      exact J25 ls (lv_sub hl [0, 1, 2, 3] rfl) hf
    · replace hf := wb_f hc hf
      refine lv_iload_n hx hb dX11_handed_14 rfl (lv_at hl 3 rfl) ?_
      obtain ⟨r4, hr4, hf⟩ := wb_b hf
      refine vp_callSi (W.runS (As := [.int x3]) (rest := []) ⟨hx, hb, hml, hown, hts⟩ (cn_X11_isBook l D cB cI cZ N x3 r4 hr4) (va_cwS 1 hts gyX11_handed_X11_isBook rfl rfl rfl csX11_isBook ⟨Nat.le_of_ble_eq_true rfl, Nat.le_of_ble_eq_true rfl⟩) (wb_preS (hP.sub (ws' := ([] : va_W)) [] rfl) hK) rfl rfl hl.1 rfl (lv_room (Nat.le_of_ble_eq_true rfl)) dX11_handed_15 ⟨Nat.le_of_ble_eq_true rfl, Nat.le_of_ble_eq_true rfl⟩) (fun r9 e9 => ?_)
      rw [e9]
      refine lv_if_eq (tgt := 25) hx hb dX11_handed_18 (by decide) (fun hc => ?_) (fun hc => ?_)
      · replace hf := wb_t hc hf
        exact J25 ls (lv_sub hl [0, 1, 2, 3] rfl) hf
      · replace hf := wb_f hc hf
        refine lv_iconst (v := (1 : Int32)) hx hb dX11_handed_21 (by decide) ?_
        refine lv_goto (tgt := 26) hx hb dX11_handed_22 (by decide) ?_
        exact J26 (1 : Int32) ls (lv_sub hl [0, 1, 2, 3] rfl) hf

set_option maxHeartbeats 4000000 in
set_option maxRecDepth 100000 in
theorem cn_X11_leaf (l : Launch) (D : va_G) (cB cI cZ : ClassId) (N : Nat) (a0 : Nat → Nat) (I0 : Nat → Int32) (M0 : Nat → Nat → Int32) (x1 : Int32) (x2 : Int32) (sz : Nat) (R : Int32 × (Nat → Int32) × (Nat → Nat → Int32)) (hf : fX11_leaf N I0 M0 x1 x2 = some (.inr R)) : Met l yX11_leaf wyX11_leaf ({ frames := 7, cells := 0, slots := 0, locals := 140 }) (va_Pc [.ref (a0 0), .int x1, .int x2] (wb_preD D [(cB, .byte), (cI, .int), (cZ, .boolean)] (wWX11 cB cI cZ a0 I0 M0) sz)) (va_Qi (fun r (_ : Unit) => r = R.1) (fun _ t => wb_post D [(cB, .byte), (cI, .int), (cZ, .boolean)] (va_A (wWX11 cB cI cZ a0 I0 M0) sz) (wWX11 cB cI cZ a0 R.2.1 R.2.2) t) (va_A (wWX11 cB cI cZ a0 I0 M0) sz)) 0 0 (va_A (wWX11 cB cI cZ a0 I0 M0) sz) := by
  refine Met.ofW (cc := cX11_leaf) (maxL := 3) (ret := (some .int)) pn_X11 rfl ?_
  intro p e s m args below meth c s₁ B hml hv
  obtain ⟨rfl, hsz, hP, hK, hD0⟩ := hv
  have hx := B.exec
  have hb := B.bytes
  have hr := B.returns
  have hts := atoms_spec (ws := wyX11_leaf) B.pre
  have hown : s.vm.findClass RX11 = some m.cls := (findClass_of_methodNamed B.named :)
  have hlocks := B.notSynchronized
  have hinX11 : ∀ w ∈ u_ws RX11 TX11 13, w ∈ wyX11_leaf := fun w h => List.mem_cons_of_mem _ (List.mem_append_left _ (List.mem_append_left _ (List.mem_append_right _ h)))
  subst hsz
  have hD := hD0.self (sz := s.heap.size)
  generalize hAe : va_A (wWX11 cB cI cZ a0 I0 M0) s.heap.size = A at hD ⊢
  have hA : ∀ q : Nat, s.heap.size ≤ q → A q := fun q h => by rw [← hAe]; exact Or.inr h
  have hS : va_S A s.heap s.heap [] := va_S.rf
  have hl := lv_entry ([.ref (a0 0), .int x1, .int x2]) (n := 3) (Nat.le_of_ble_eq_true rfl)
  rw [lg_entry_eq]
  generalize (lg_sl ([.ref (a0 0), .int x1, .int x2]) ++ List.replicate (3 - (lg_sl ([.ref (a0 0), .int x1, .int x2])).length) Slot.unset).toArray = ls at hl ⊢
  have hl : lv_has ls 3 [(0, .ref (a0 0)), (1, .int x1), (2, .int x2)] := hl
  unfold fX11_leaf at hf
  obtain ⟨H, hHe⟩ : ∃ H : Heap, H = s.heap := ⟨_, rfl⟩
  obtain ⟨locs, hle⟩ : ∃ locs : List Loc, locs = [] := ⟨_, rfl⟩
  refine wb_start (H := H) (locs := locs) hHe hle ?_
  rw [← hHe] at hP
  have hS : va_S A s.heap H locs := by rw [hHe, hle]; exact va_S.rf
  have J21 : ∀ (I0_j21 : Nat → Int32) (M0_j21 : Nat → Nat → Int32) (H : Heap) (locs : List Loc), va_P D vwCl (wWX11 cB cI cZ a0 I0_j21 M0_j21) H → va_D A (wWX11 cB cI cZ a0 I0_j21 M0_j21) → va_S A s.heap H locs → ∀ (ls : Array Slot), lv_has ls 3 [(0, .ref (a0 0)), (1, .int x1), (2, .int x2)] → fX11_leaf_J21 N x1 x2 I0_j21 M0_j21 = some (.inr R) → W p l e (headSpec wyX11_leaf { frames := 7, cells := 0, slots := 0, locals := 140 }).room s m [.ref (a0 0), .int x1, .int x2].toArray below meth c H locs 0 0 (MQ below (va_Qi (fun r (_ : Unit) => r = R.1) (fun _ t => wb_post D [(cB, .byte), (cI, .int), (cZ, .boolean)] A (wWX11 cB cI cZ a0 R.2.1 R.2.2) t) A) [.ref (a0 0), .int x1, .int x2].toArray s 0 0 A) (F0 m 21 ls []) := by
    intro I0_j21 M0_j21 H locs hP hD hS ls hl hf
    unfold fX11_leaf_J21 at hf
    refine lv_iconst (v := (0 : Int32)) hx hb dX11_leaf_21 (by decide) ?_
    obtain ⟨r1, hr1, hf⟩ := wb_xr hf
    refine va_csv (W.runS (As := [.int (0 : Int32)]) (rest := []) ⟨hx, hb, hml, hown, hts⟩ (cn_X11_need l D cB cI cZ N (0 : Int32) r1 hr1) (va_cwS 1 hts gyX11_leaf_X11_need rfl rfl rfl csX11_need ⟨Nat.le_of_ble_eq_true rfl, Nat.le_of_ble_eq_true rfl⟩) (wb_preS (hP.sub (ws' := ([] : va_W)) [] rfl) hK) rfl rfl hl.1 rfl (lv_room (Nat.le_of_ble_eq_true rfl)) dX11_leaf_22 ⟨Nat.le_of_ble_eq_true rfl, Nat.le_of_ble_eq_true rfl⟩) (fun _ => ?_)
    replace hf := wb_okr hf
    refine lv_aload_n hx hb dX11_leaf_25 rfl (lv_at hl 0 rfl) ?_
    refine va_get (D := D) (ci := 11) (v := .ref (a0 38)) (C := RX11) (T := TX11) (N := 13) hx hb hts hinX11 hown hK hP 0 rfl rfl 10 (by decide) (hts (.fieldLink RX11 66 "WheelBook" "leaves" "LWheelBook$Leaves;") (List.mem_of_getElem? (i := 1) rfl)) (fun _ h9 => h9) rfl dX11_leaf_26 ?_
    refine lv_iload_n hx hb dX11_leaf_29 rfl (lv_at hl 1 rfl) ?_
    refine lv_iload_n hx hb dX11_leaf_30 rfl (lv_at hl 2 rfl) ?_
    obtain ⟨r2, hr2, hf⟩ := wb_b hf
    have hPc := hP.sub (ws' := (wWX6 cB cI cZ (wb_sh a0 38) (wb_sh I0_j21 43) (wb_sh M0_j21 23))) [38, 39, 40, 41, 42] rfl
    have hDc := hD.sub (ws' := (wWX6 cB cI cZ (wb_sh a0 38) (wb_sh I0_j21 43) (wb_sh M0_j21 23))) [38, 39, 40, 41, 42] (by decide) rfl
    have hFc := va_free (wc := (wWX6 cB cI cZ (wb_sh a0 38) (wb_sh I0_j21 43) (wb_sh M0_j21 23))) hD hS hA [38, 39, 40, 41, 42] rfl
    refine va_calli (va_runV (As := [.int x1, .int x2]) (rest := []) ⟨hx, hb, hml, hown, hts⟩ (cn_X6_addTo l D cB cI cZ N (wb_sh a0 38) (wb_sh I0_j21 43) (wb_sh M0_j21 23) x1 x2 H.size r2 hr2) (cwV 2 hts gyX11_leaf_X6_addTo rfl rfl rfl cdX6_addTo ⟨Nat.le_of_ble_eq_true rfl, Nat.le_of_ble_eq_true rfl⟩) (wb_preDV hPc hK hDc (wr_6 hK hP (q0 := 38) rfl)) rfl rfl hl.1 rfl (lv_room (Nat.le_of_ble_eq_true rfl)) dX11_leaf_31 ⟨Nat.le_of_ble_eq_true rfl, Nat.le_of_ble_eq_true rfl⟩) hS (fun q _ h => hFc q h) hFc (fun r9 u t H locs ht hvm hw hB hz1 hk1 hS => ?_)
    obtain ⟨hP, hD⟩ := wj_s (wc := (wWX6 cB cI cZ (wb_sh a0 38) (wb_sh I0_j21 43) (wb_sh M0_j21 23))) (w1 := (wWX6 cB cI cZ (wb_sh a0 38) r2.2.1 r2.2.2)) (wf := (wWX11 cB cI cZ a0 (wb_in I0_j21 43 0 r2.2.1) (wb_in M0_j21 23 4 r2.2.2))) 38 43 hP hD rfl rfl hk1 hFc ht hB
    rw [hw]
    obtain ⟨I0_3, eI0_3, hf⟩ := wb_v hf
    rw [← eI0_3] at hP hD
    obtain ⟨M0_4, eM0_4, hf⟩ := wb_v hf
    rw [← eM0_4] at hP hD
    exact W.iret (v := r2.1) hx hb hr (fun t ht hW => by rw [← Option.some.inj hf]; exact ⟨⟨r2.1, (), rfl, rfl, by rw [ht]; exact hP, va_K.moved hW.alike hK, hD⟩, hS.F ht⟩) hS.2.2 dX11_leaf_34
  refine lv_iload_n hx hb dX11_leaf_0 rfl (lv_at hl 1 rfl) ?_
  obtain ⟨r5, hr5, hf⟩ := wb_b hf
  refine vp_callSi (W.runS (As := [.int x1]) (rest := []) ⟨hx, hb, hml, hown, hts⟩ (cn_X11_isBook l D cB cI cZ N x1 r5 hr5) (va_cwS 1 hts gyX11_leaf_X11_isBook rfl rfl rfl csX11_isBook ⟨Nat.le_of_ble_eq_true rfl, Nat.le_of_ble_eq_true rfl⟩) (wb_preS (hP.sub (ws' := ([] : va_W)) [] rfl) hK) rfl rfl hl.1 rfl (lv_room (Nat.le_of_ble_eq_true rfl)) dX11_leaf_1 ⟨Nat.le_of_ble_eq_true rfl, Nat.le_of_ble_eq_true rfl⟩) (fun r9 e9 => ?_)
  rw [e9]
  refine lv_if_eq (tgt := 21) hx hb dX11_leaf_4 (by decide) (fun hc => ?_) (fun hc => ?_)
  · replace hf := wb_t hc hf
    exact J21 I0 M0 H locs hP hD hS ls (lv_sub hl [0, 1, 2] rfl) hf
  · replace hf := wb_f hc hf
    refine lv_iload_n hx hb dX11_leaf_7 rfl (lv_at hl 2 rfl) ?_
    refine lv_iconst (v := (0 : Int32)) hx hb dX11_leaf_8 (by decide) ?_
    refine lv_bipush (v := (19 : Int32)) hx hb dX11_leaf_9 (by decide) ?_
    obtain ⟨r6, hr6, hf⟩ := wb_b hf
    refine vp_callSi (W.runS (As := [.int x2, .int (0 : Int32), .int (19 : Int32)]) (rest := []) ⟨hx, hb, hml, hown, hts⟩ (cn_X11_within l D cB cI cZ N x2 (0 : Int32) (19 : Int32) r6 hr6) (va_cwS 3 hts gyX11_leaf_X11_within rfl rfl rfl csX11_within ⟨Nat.le_of_ble_eq_true rfl, Nat.le_of_ble_eq_true rfl⟩) (wb_preS (hP.sub (ws' := ([] : va_W)) [] rfl) hK) rfl rfl hl.1 rfl (lv_room (Nat.le_of_ble_eq_true rfl)) dX11_leaf_11 ⟨Nat.le_of_ble_eq_true rfl, Nat.le_of_ble_eq_true rfl⟩) (fun r9 e9 => ?_)
    rw [e9]
    refine lv_if_eq (tgt := 21) hx hb dX11_leaf_14 (by decide) (fun hc => ?_) (fun hc => ?_)
    · replace hf := wb_t hc hf
      exact J21 I0 M0 H locs hP hD hS ls (lv_sub hl [0, 1, 2] rfl) hf
    · replace hf := wb_f hc hf
      refine lv_iconst (v := (1 : Int32)) hx hb dX11_leaf_17 (by decide) ?_
      refine lv_goto (tgt := 22) hx hb dX11_leaf_18 (by decide) ?_
      obtain ⟨r7, hr7, hf⟩ := wb_xr hf
      refine va_csv (W.runS (As := [.int (1 : Int32)]) (rest := []) ⟨hx, hb, hml, hown, hts⟩ (cn_X11_need l D cB cI cZ N (1 : Int32) r7 hr7) (va_cwS 1 hts gyX11_leaf_X11_need rfl rfl rfl csX11_need ⟨Nat.le_of_ble_eq_true rfl, Nat.le_of_ble_eq_true rfl⟩) (wb_preS (hP.sub (ws' := ([] : va_W)) [] rfl) hK) rfl rfl hl.1 rfl (lv_room (Nat.le_of_ble_eq_true rfl)) dX11_leaf_22 ⟨Nat.le_of_ble_eq_true rfl, Nat.le_of_ble_eq_true rfl⟩) (fun _ => ?_)
      replace hf := wb_okr hf
      refine lv_aload_n hx hb dX11_leaf_25 rfl (lv_at hl 0 rfl) ?_
      refine va_get (D := D) (ci := 11) (v := .ref (a0 38)) (C := RX11) (T := TX11) (N := 13) hx hb hts hinX11 hown hK hP 0 rfl rfl 10 (by decide) (hts (.fieldLink RX11 66 "WheelBook" "leaves" "LWheelBook$Leaves;") (List.mem_of_getElem? (i := 1) rfl)) (fun _ h9 => h9) rfl dX11_leaf_26 ?_
      refine lv_iload_n hx hb dX11_leaf_29 rfl (lv_at hl 1 rfl) ?_
      refine lv_iload_n hx hb dX11_leaf_30 rfl (lv_at hl 2 rfl) ?_
      obtain ⟨r8, hr8, hf⟩ := wb_b hf
      have hPc := hP.sub (ws' := (wWX6 cB cI cZ (wb_sh a0 38) (wb_sh I0 43) (wb_sh M0 23))) [38, 39, 40, 41, 42] rfl
      have hDc := hD.sub (ws' := (wWX6 cB cI cZ (wb_sh a0 38) (wb_sh I0 43) (wb_sh M0 23))) [38, 39, 40, 41, 42] (by decide) rfl
      have hFc := va_free (wc := (wWX6 cB cI cZ (wb_sh a0 38) (wb_sh I0 43) (wb_sh M0 23))) hD hS hA [38, 39, 40, 41, 42] rfl
      refine va_calli (va_runV (As := [.int x1, .int x2]) (rest := []) ⟨hx, hb, hml, hown, hts⟩ (cn_X6_addTo l D cB cI cZ N (wb_sh a0 38) (wb_sh I0 43) (wb_sh M0 23) x1 x2 H.size r8 hr8) (cwV 2 hts gyX11_leaf_X6_addTo rfl rfl rfl cdX6_addTo ⟨Nat.le_of_ble_eq_true rfl, Nat.le_of_ble_eq_true rfl⟩) (wb_preDV hPc hK hDc (wr_6 hK hP (q0 := 38) rfl)) rfl rfl hl.1 rfl (lv_room (Nat.le_of_ble_eq_true rfl)) dX11_leaf_31 ⟨Nat.le_of_ble_eq_true rfl, Nat.le_of_ble_eq_true rfl⟩) hS (fun q _ h => hFc q h) hFc (fun r9 u t H locs ht hvm hw hB hz1 hk1 hS => ?_)
      obtain ⟨hP, hD⟩ := wj_s (wc := (wWX6 cB cI cZ (wb_sh a0 38) (wb_sh I0 43) (wb_sh M0 23))) (w1 := (wWX6 cB cI cZ (wb_sh a0 38) r8.2.1 r8.2.2)) (wf := (wWX11 cB cI cZ a0 (wb_in I0 43 0 r8.2.1) (wb_in M0 23 4 r8.2.2))) 38 43 hP hD rfl rfl hk1 hFc ht hB
      rw [hw]
      obtain ⟨I0_9, eI0_9, hf⟩ := wb_v hf
      rw [← eI0_9] at hP hD
      obtain ⟨M0_10, eM0_10, hf⟩ := wb_v hf
      rw [← eM0_10] at hP hD
      exact W.iret (v := r8.1) hx hb hr (fun t ht hW => by rw [← Option.some.inj hf]; exact ⟨⟨r8.1, (), rfl, rfl, by rw [ht]; exact hP, va_K.moved hW.alike hK, hD⟩, hS.F ht⟩) hS.2.2 dX11_leaf_34
set_option maxHeartbeats 4000000 in
set_option maxRecDepth 100000 in
theorem ct_X11_leaf (l : Launch) (hlt : l.stackTraces = false) (D : va_G) (cB cI cZ : ClassId) (N : Nat) (a0 : Nat → Nat) (I0 : Nat → Int32) (M0 : Nat → Nat → Int32) (x1 : Int32) (x2 : Int32) (sz k : Nat) (hf : fX11_leaf N I0 M0 x1 x2 = some (.inl k)) : vx_Met l yX11_leaf wyX11_leaf ({ frames := 7, cells := 1, slots := 6, locals := 140 }) (va_Pc [.ref (a0 0), .int x1, .int x2] (wb_preX D [(cB, .byte), (cI, .int), (cZ, .boolean)] (wWX11 cB cI cZ a0 I0 M0) sz)) (va_Qi (fun _ (_ : Unit) => False) (fun _ _ => True) (fun q => sz ≤ q)) (vx_X (fun _ : Unit => True) (fun E _ _ => E = wb_ex k) (fun q => sz ≤ q)) 1 6 (fun q => sz ≤ q) := by
  refine vx_ofW (cc := cX11_leaf) (maxL := 3) (ret := (some .int)) (by decide) rfl ?_
  intro p e s m args below meth c s₁ B hml htab hv
  obtain ⟨rfl, hsz, hP, hK, hX⟩ := hv
  subst hsz
  have hx := B.exec
  have hb := B.bytes
  have hr := B.returns
  have hts := atoms_spec (ws := wyX11_leaf) B.pre
  have hown : s.vm.findClass RX11 = some m.cls := (findClass_of_methodNamed B.named :)
  have hlocks := B.notSynchronized
  have hS : va_S (fun q => s.heap.size ≤ q) s.heap s.heap [] := va_S.rf
  have hl := lv_entry ([.ref (a0 0), .int x1, .int x2]) (n := 3) (Nat.le_of_ble_eq_true rfl)
  rw [lg_entry_eq]
  generalize (lg_sl ([.ref (a0 0), .int x1, .int x2]) ++ List.replicate (3 - (lg_sl ([.ref (a0 0), .int x1, .int x2])).length) Slot.unset).toArray = ls at hl ⊢
  have hl : lv_has ls 3 [(0, .ref (a0 0)), (1, .int x1), (2, .int x2)] := hl
  unfold fX11_leaf at hf
  have J21 : ∀ (ls : Array Slot), lv_has ls 3 [(0, .ref (a0 0)), (1, .int x1), (2, .int x2)] → fX11_leaf_J21 N x1 x2 I0 M0 = some (.inl k) → W p l e (headSpec wyX11_leaf { frames := 7, cells := 1, slots := 6, locals := 140 }).room s m [.ref (a0 0), .int x1, .int x2].toArray below meth c s.heap [] 0 0 (vx_MQ below (va_Qi (fun _ (_ : Unit) => False) (fun _ _ => True) (fun q => s.heap.size ≤ q)) (vx_X (fun _ : Unit => True) (fun E _ _ => E = wb_ex k) (fun q => s.heap.size ≤ q)) [.ref (a0 0), .int x1, .int x2].toArray s 1 6 (fun q => s.heap.size ≤ q)) (F0 m 21 ls []) := by
    intro ls hl hf
    unfold fX11_leaf_J21 at hf
    refine lv_iconst (v := (0 : Int32)) hx hb dX11_leaf_21 (by decide) ?_
    rcases wb_xt hf with hrx | ⟨r1, hr1, hf⟩
    · refine vx_callv (vx_runS (As := [.int (0 : Int32)]) (rest := []) ⟨hx, hb, hml, hown, hts⟩ (ct_X11_need l hlt D cB cI cZ N (0 : Int32) s.heap.size k hrx) (va_cwS 1 hts gyX11_leaf_X11_need rfl rfl rfl csX11_need ⟨Nat.le_of_ble_eq_true rfl, Nat.le_of_ble_eq_true rfl⟩) (wb_preXS (hP.sub (ws' := ([] : va_W)) [] rfl) hK hX) rfl rfl hl.1 rfl (lv_room (Nat.le_of_ble_eq_true rfl)) dX11_leaf_22 ⟨Nat.le_of_ble_eq_true rfl, Nat.le_of_ble_eq_true rfl⟩) hS (fun q _ h => h) (fun _ h => h) (fun q _ h => h) (fun E ce q9 u t H locs ht hvm hpx hB hz1 hk1 hS hq9 hv9 hc9 => ?_) (fun u t H locs ht hvm hw hB hz1 hk1 hS => hw.elim)
      exact vx_out (fun x hx9 => (htab x hx9).elim) hlocks hq9 hv9 hc9 (fun t9 ht9 hvm9 => ⟨(), trivial, hB, hS.F ht9⟩) hS.2.2 (Nat.le_of_ble_eq_true rfl) (Nat.le_of_ble_eq_true rfl)
    refine va_csv (W.runS (As := [.int (0 : Int32)]) (rest := []) ⟨hx, hb, hml, hown, hts⟩ (cn_X11_need l D cB cI cZ N (0 : Int32) r1 hr1) (va_cwS 1 hts gyX11_leaf_X11_need rfl rfl rfl csX11_need ⟨Nat.le_of_ble_eq_true rfl, Nat.le_of_ble_eq_true rfl⟩) (wb_preS (hP.sub (ws' := ([] : va_W)) [] rfl) hK) rfl rfl hl.1 rfl (lv_room (Nat.le_of_ble_eq_true rfl)) dX11_leaf_22 ⟨Nat.le_of_ble_eq_true rfl, Nat.le_of_ble_eq_true rfl⟩) (fun _ => ?_)
    exact absurd hf wb_okn
  refine lv_iload_n hx hb dX11_leaf_0 rfl (lv_at hl 1 rfl) ?_
  obtain ⟨r2, hr2, hf⟩ := wb_b hf
  refine vp_callSi (W.runS (As := [.int x1]) (rest := []) ⟨hx, hb, hml, hown, hts⟩ (cn_X11_isBook l D cB cI cZ N x1 r2 hr2) (va_cwS 1 hts gyX11_leaf_X11_isBook rfl rfl rfl csX11_isBook ⟨Nat.le_of_ble_eq_true rfl, Nat.le_of_ble_eq_true rfl⟩) (wb_preS (hP.sub (ws' := ([] : va_W)) [] rfl) hK) rfl rfl hl.1 rfl (lv_room (Nat.le_of_ble_eq_true rfl)) dX11_leaf_1 ⟨Nat.le_of_ble_eq_true rfl, Nat.le_of_ble_eq_true rfl⟩) (fun r9 e9 => ?_)
  rw [e9]
  refine lv_if_eq (tgt := 21) hx hb dX11_leaf_4 (by decide) (fun hc => ?_) (fun hc => ?_)
  · replace hf := wb_t hc hf
    exact J21 ls (lv_sub hl [0, 1, 2] rfl) hf
  · replace hf := wb_f hc hf
    refine lv_iload_n hx hb dX11_leaf_7 rfl (lv_at hl 2 rfl) ?_
    refine lv_iconst (v := (0 : Int32)) hx hb dX11_leaf_8 (by decide) ?_
    refine lv_bipush (v := (19 : Int32)) hx hb dX11_leaf_9 (by decide) ?_
    obtain ⟨r3, hr3, hf⟩ := wb_b hf
    refine vp_callSi (W.runS (As := [.int x2, .int (0 : Int32), .int (19 : Int32)]) (rest := []) ⟨hx, hb, hml, hown, hts⟩ (cn_X11_within l D cB cI cZ N x2 (0 : Int32) (19 : Int32) r3 hr3) (va_cwS 3 hts gyX11_leaf_X11_within rfl rfl rfl csX11_within ⟨Nat.le_of_ble_eq_true rfl, Nat.le_of_ble_eq_true rfl⟩) (wb_preS (hP.sub (ws' := ([] : va_W)) [] rfl) hK) rfl rfl hl.1 rfl (lv_room (Nat.le_of_ble_eq_true rfl)) dX11_leaf_11 ⟨Nat.le_of_ble_eq_true rfl, Nat.le_of_ble_eq_true rfl⟩) (fun r9 e9 => ?_)
    rw [e9]
    refine lv_if_eq (tgt := 21) hx hb dX11_leaf_14 (by decide) (fun hc => ?_) (fun hc => ?_)
    · replace hf := wb_t hc hf
      exact J21 ls (lv_sub hl [0, 1, 2] rfl) hf
    · replace hf := wb_f hc hf
      refine lv_iconst (v := (1 : Int32)) hx hb dX11_leaf_17 (by decide) ?_
      refine lv_goto (tgt := 22) hx hb dX11_leaf_18 (by decide) ?_
      rcases wb_xt hf with hrx | ⟨r4, hr4, hf⟩
      · refine vx_callv (vx_runS (As := [.int (1 : Int32)]) (rest := []) ⟨hx, hb, hml, hown, hts⟩ (ct_X11_need l hlt D cB cI cZ N (1 : Int32) s.heap.size k hrx) (va_cwS 1 hts gyX11_leaf_X11_need rfl rfl rfl csX11_need ⟨Nat.le_of_ble_eq_true rfl, Nat.le_of_ble_eq_true rfl⟩) (wb_preXS (hP.sub (ws' := ([] : va_W)) [] rfl) hK hX) rfl rfl hl.1 rfl (lv_room (Nat.le_of_ble_eq_true rfl)) dX11_leaf_22 ⟨Nat.le_of_ble_eq_true rfl, Nat.le_of_ble_eq_true rfl⟩) hS (fun q _ h => h) (fun _ h => h) (fun q _ h => h) (fun E ce q9 u t H locs ht hvm hpx hB hz1 hk1 hS hq9 hv9 hc9 => ?_) (fun u t H locs ht hvm hw hB hz1 hk1 hS => hw.elim)
        exact vx_out (fun x hx9 => (htab x hx9).elim) hlocks hq9 hv9 hc9 (fun t9 ht9 hvm9 => ⟨(), trivial, hB, hS.F ht9⟩) hS.2.2 (Nat.le_of_ble_eq_true rfl) (Nat.le_of_ble_eq_true rfl)
      refine va_csv (W.runS (As := [.int (1 : Int32)]) (rest := []) ⟨hx, hb, hml, hown, hts⟩ (cn_X11_need l D cB cI cZ N (1 : Int32) r4 hr4) (va_cwS 1 hts gyX11_leaf_X11_need rfl rfl rfl csX11_need ⟨Nat.le_of_ble_eq_true rfl, Nat.le_of_ble_eq_true rfl⟩) (wb_preS (hP.sub (ws' := ([] : va_W)) [] rfl) hK) rfl rfl hl.1 rfl (lv_room (Nat.le_of_ble_eq_true rfl)) dX11_leaf_22 ⟨Nat.le_of_ble_eq_true rfl, Nat.le_of_ble_eq_true rfl⟩) (fun _ => ?_)
      exact absurd hf wb_okn

set_option maxHeartbeats 4000000 in
set_option maxRecDepth 100000 in
theorem cn_X11_order (l : Launch) (D : va_G) (cB cI cZ : ClassId) (N : Nat) (a0 : Nat → Nat) (I0 : Nat → Int32) (M0 : Nat → Nat → Int32) (x1 : Int32) (x2 : Int32) (x3 : Int32) (sz : Nat) (R : Int32 × (Nat → Int32) × (Nat → Nat → Int32)) (hf : fX11_order N I0 M0 x1 x2 x3 = some (.inr R)) : Met l yX11_order wyX11_order ({ frames := 7, cells := 0, slots := 0, locals := 140 }) (va_Pc [.ref (a0 0), .int x1, .int x2, .int x3] (wb_preD D [(cB, .byte), (cI, .int), (cZ, .boolean)] (wWX11 cB cI cZ a0 I0 M0) sz)) (va_Qi (fun r (_ : Unit) => r = R.1) (fun _ t => wb_post D [(cB, .byte), (cI, .int), (cZ, .boolean)] (va_A (wWX11 cB cI cZ a0 I0 M0) sz) (wWX11 cB cI cZ a0 R.2.1 R.2.2) t) (va_A (wWX11 cB cI cZ a0 I0 M0) sz)) 0 0 (va_A (wWX11 cB cI cZ a0 I0 M0) sz) := by
  refine Met.ofW (cc := cX11_order) (maxL := 4) (ret := (some .int)) pn_X11 rfl ?_
  intro p e s m args below meth c s₁ B hml hv
  obtain ⟨rfl, hsz, hP, hK, hD0⟩ := hv
  have hx := B.exec
  have hb := B.bytes
  have hr := B.returns
  have hts := atoms_spec (ws := wyX11_order) B.pre
  have hown : s.vm.findClass RX11 = some m.cls := (findClass_of_methodNamed B.named :)
  have hlocks := B.notSynchronized
  have hinX11 : ∀ w ∈ u_ws RX11 TX11 13, w ∈ wyX11_order := fun w h => List.mem_cons_of_mem _ (List.mem_append_left _ (List.mem_append_left _ (List.mem_append_right _ h)))
  subst hsz
  have hD := hD0.self (sz := s.heap.size)
  generalize hAe : va_A (wWX11 cB cI cZ a0 I0 M0) s.heap.size = A at hD ⊢
  have hA : ∀ q : Nat, s.heap.size ≤ q → A q := fun q h => by rw [← hAe]; exact Or.inr h
  have hS : va_S A s.heap s.heap [] := va_S.rf
  have hl := lv_entry ([.ref (a0 0), .int x1, .int x2, .int x3]) (n := 4) (Nat.le_of_ble_eq_true rfl)
  rw [lg_entry_eq]
  generalize (lg_sl ([.ref (a0 0), .int x1, .int x2, .int x3]) ++ List.replicate (4 - (lg_sl ([.ref (a0 0), .int x1, .int x2, .int x3])).length) Slot.unset).toArray = ls at hl ⊢
  have hl : lv_has ls 4 [(0, .ref (a0 0)), (1, .int x1), (2, .int x2), (3, .int x3)] := hl
  unfold fX11_order at hf
  obtain ⟨H, hHe⟩ : ∃ H : Heap, H = s.heap := ⟨_, rfl⟩
  obtain ⟨locs, hle⟩ : ∃ locs : List Loc, locs = [] := ⟨_, rfl⟩
  refine wb_start (H := H) (locs := locs) hHe hle ?_
  rw [← hHe] at hP
  have hS : va_S A s.heap H locs := by rw [hHe, hle]; exact va_S.rf
  have J28 : ∀ (I0_j28 : Nat → Int32) (M0_j28 : Nat → Nat → Int32) (z28_0 : Int32) (H : Heap) (locs : List Loc), va_P D vwCl (wWX11 cB cI cZ a0 I0_j28 M0_j28) H → va_D A (wWX11 cB cI cZ a0 I0_j28 M0_j28) → va_S A s.heap H locs → ∀ (ls : Array Slot), lv_has ls 4 [(0, .ref (a0 0)), (1, .int x1), (2, .int x2), (3, .int x3)] → fX11_order_J28 N x1 x2 x3 I0_j28 M0_j28 z28_0 = some (.inr R) → W p l e (headSpec wyX11_order { frames := 7, cells := 0, slots := 0, locals := 140 }).room s m [.ref (a0 0), .int x1, .int x2, .int x3].toArray below meth c H locs 0 0 (MQ below (va_Qi (fun r (_ : Unit) => r = R.1) (fun _ t => wb_post D [(cB, .byte), (cI, .int), (cZ, .boolean)] A (wWX11 cB cI cZ a0 R.2.1 R.2.2) t) A) [.ref (a0 0), .int x1, .int x2, .int x3].toArray s 0 0 A) (F0 m 28 ls [.int z28_0]) := by
    intro I0_j28 M0_j28 z28_0 H locs hP hD hS ls hl hf
    unfold fX11_order_J28 at hf
    obtain ⟨r1, hr1, hf⟩ := wb_xr hf
    refine va_csv (W.runS (As := [.int z28_0]) (rest := []) ⟨hx, hb, hml, hown, hts⟩ (cn_X11_need l D cB cI cZ N z28_0 r1 hr1) (va_cwS 1 hts gyX11_order_X11_need rfl rfl rfl csX11_need ⟨Nat.le_of_ble_eq_true rfl, Nat.le_of_ble_eq_true rfl⟩) (wb_preS (hP.sub (ws' := ([] : va_W)) [] rfl) hK) rfl rfl hl.1 rfl (lv_room (Nat.le_of_ble_eq_true rfl)) dX11_order_28 ⟨Nat.le_of_ble_eq_true rfl, Nat.le_of_ble_eq_true rfl⟩) (fun _ => ?_)
    replace hf := wb_okr hf
    refine lv_iload_n hx hb dX11_order_31 rfl (lv_at hl 3 rfl) ?_
    refine lv_if_ne (tgt := 47) hx hb dX11_order_32 (by decide) (fun hc => ?_) (fun hc => ?_)
    · replace hf := wb_f hc hf
      refine lv_aload_n hx hb dX11_order_47 rfl (lv_at hl 0 rfl) ?_
      refine va_get (D := D) (ci := 11) (v := .ref (a0 38)) (C := RX11) (T := TX11) (N := 13) hx hb hts hinX11 hown hK hP 0 rfl rfl 10 (by decide) (hts (.fieldLink RX11 66 "WheelBook" "leaves" "LWheelBook$Leaves;") (List.mem_of_getElem? (i := 1) rfl)) (fun _ h9 => h9) rfl dX11_order_48 ?_
      refine lv_iload_n hx hb dX11_order_51 rfl (lv_at hl 1 rfl) ?_
      refine lv_iload_n hx hb dX11_order_52 rfl (lv_at hl 2 rfl) ?_
      obtain ⟨r2, hr2, hf⟩ := wb_b hf
      have hPc := hP.sub (ws' := (wWX6 cB cI cZ (wb_sh a0 38) (wb_sh I0_j28 43) (wb_sh M0_j28 23))) [38, 39, 40, 41, 42] rfl
      have hDc := hD.sub (ws' := (wWX6 cB cI cZ (wb_sh a0 38) (wb_sh I0_j28 43) (wb_sh M0_j28 23))) [38, 39, 40, 41, 42] (by decide) rfl
      have hFc := va_free (wc := (wWX6 cB cI cZ (wb_sh a0 38) (wb_sh I0_j28 43) (wb_sh M0_j28 23))) hD hS hA [38, 39, 40, 41, 42] rfl
      refine va_calli (va_runV (As := [.int x1, .int x2]) (rest := []) ⟨hx, hb, hml, hown, hts⟩ (cn_X6_howManyTurned l D cB cI cZ N (wb_sh a0 38) (wb_sh I0_j28 43) (wb_sh M0_j28 23) x1 x2 H.size r2 hr2) (cwV 2 hts gyX11_order_X6_howManyTurned rfl rfl rfl cdX6_howManyTurned ⟨Nat.le_of_ble_eq_true rfl, Nat.le_of_ble_eq_true rfl⟩) (wb_preDV hPc hK hDc (wr_6 hK hP (q0 := 38) rfl)) rfl rfl hl.1 rfl (lv_room (Nat.le_of_ble_eq_true rfl)) dX11_order_53 ⟨Nat.le_of_ble_eq_true rfl, Nat.le_of_ble_eq_true rfl⟩) hS (fun q _ h => hFc q h) hFc (fun r9 u t H locs ht hvm hw hB hz1 hk1 hS => ?_)
      obtain ⟨hP, hD⟩ := wj_s (wc := (wWX6 cB cI cZ (wb_sh a0 38) (wb_sh I0_j28 43) (wb_sh M0_j28 23))) (w1 := (wWX6 cB cI cZ (wb_sh a0 38) r2.2.1 r2.2.2)) (wf := (wWX11 cB cI cZ a0 (wb_in I0_j28 43 0 r2.2.1) (wb_in M0_j28 23 4 r2.2.2))) 38 43 hP hD rfl rfl hk1 hFc ht hB
      rw [hw]
      obtain ⟨I0_3, eI0_3, hf⟩ := wb_v hf
      rw [← eI0_3] at hP hD
      obtain ⟨M0_4, eM0_4, hf⟩ := wb_v hf
      rw [← eM0_4] at hP hD
      exact W.iret (v := r2.1) hx hb hr (fun t ht hW => by rw [← Option.some.inj hf]; exact ⟨⟨r2.1, (), rfl, rfl, by rw [ht]; exact hP, va_K.moved hW.alike hK, hD⟩, hS.F ht⟩) hS.2.2 dX11_order_56
    · replace hf := wb_t hc hf
      refine lv_aload_n hx hb dX11_order_35 rfl (lv_at hl 0 rfl) ?_
      refine va_get (D := D) (ci := 11) (v := .ref (a0 38)) (C := RX11) (T := TX11) (N := 13) hx hb hts hinX11 hown hK hP 0 rfl rfl 10 (by decide) (hts (.fieldLink RX11 66 "WheelBook" "leaves" "LWheelBook$Leaves;") (List.mem_of_getElem? (i := 1) rfl)) (fun _ h9 => h9) rfl dX11_order_36 ?_
      refine lv_iload_n hx hb dX11_order_39 rfl (lv_at hl 1 rfl) ?_
      refine lv_iload_n hx hb dX11_order_40 rfl (lv_at hl 2 rfl) ?_
      obtain ⟨r5, hr5, hf⟩ := wb_b hf
      have hPc := hP.sub (ws' := (wWX6 cB cI cZ (wb_sh a0 38) (wb_sh I0_j28 43) (wb_sh M0_j28 23))) [38, 39, 40, 41, 42] rfl
      have hDc := hD.sub (ws' := (wWX6 cB cI cZ (wb_sh a0 38) (wb_sh I0_j28 43) (wb_sh M0_j28 23))) [38, 39, 40, 41, 42] (by decide) rfl
      have hFc := va_free (wc := (wWX6 cB cI cZ (wb_sh a0 38) (wb_sh I0_j28 43) (wb_sh M0_j28 23))) hD hS hA [38, 39, 40, 41, 42] rfl
      refine va_calli (va_runV (As := [.int x1, .int x2]) (rest := []) ⟨hx, hb, hml, hown, hts⟩ (cn_X6_howManyInOrder l D cB cI cZ N (wb_sh a0 38) (wb_sh I0_j28 43) (wb_sh M0_j28 23) x1 x2 H.size r5 hr5) (cwV 2 hts gyX11_order_X6_howManyInOrder rfl rfl rfl cdX6_howManyInOrder ⟨Nat.le_of_ble_eq_true rfl, Nat.le_of_ble_eq_true rfl⟩) (wb_preDV hPc hK hDc (wr_6 hK hP (q0 := 38) rfl)) rfl rfl hl.1 rfl (lv_room (Nat.le_of_ble_eq_true rfl)) dX11_order_41 ⟨Nat.le_of_ble_eq_true rfl, Nat.le_of_ble_eq_true rfl⟩) hS (fun q _ h => hFc q h) hFc (fun r9 u t H locs ht hvm hw hB hz1 hk1 hS => ?_)
      obtain ⟨hP, hD⟩ := wj_s (wc := (wWX6 cB cI cZ (wb_sh a0 38) (wb_sh I0_j28 43) (wb_sh M0_j28 23))) (w1 := (wWX6 cB cI cZ (wb_sh a0 38) r5.2.1 r5.2.2)) (wf := (wWX11 cB cI cZ a0 (wb_in I0_j28 43 0 r5.2.1) (wb_in M0_j28 23 4 r5.2.2))) 38 43 hP hD rfl rfl hk1 hFc ht hB
      rw [hw]
      obtain ⟨I0_6, eI0_6, hf⟩ := wb_v hf
      rw [← eI0_6] at hP hD
      obtain ⟨M0_7, eM0_7, hf⟩ := wb_v hf
      rw [← eM0_7] at hP hD
      refine lv_goto (tgt := 56) hx hb dX11_order_44 (by decide) ?_
      exact W.iret (v := r5.1) hx hb hr (fun t ht hW => by rw [← Option.some.inj hf]; exact ⟨⟨r5.1, (), rfl, rfl, by rw [ht]; exact hP, va_K.moved hW.alike hK, hD⟩, hS.F ht⟩) hS.2.2 dX11_order_56
  have J27 : ∀ (I0_j27 : Nat → Int32) (M0_j27 : Nat → Nat → Int32) (H : Heap) (locs : List Loc), va_P D vwCl (wWX11 cB cI cZ a0 I0_j27 M0_j27) H → va_D A (wWX11 cB cI cZ a0 I0_j27 M0_j27) → va_S A s.heap H locs → ∀ (ls : Array Slot), lv_has ls 4 [(0, .ref (a0 0)), (1, .int x1), (2, .int x2), (3, .int x3)] → fX11_order_J27 N x1 x2 x3 I0_j27 M0_j27 = some (.inr R) → W p l e (headSpec wyX11_order { frames := 7, cells := 0, slots := 0, locals := 140 }).room s m [.ref (a0 0), .int x1, .int x2, .int x3].toArray below meth c H locs 0 0 (MQ below (va_Qi (fun r (_ : Unit) => r = R.1) (fun _ t => wb_post D [(cB, .byte), (cI, .int), (cZ, .boolean)] A (wWX11 cB cI cZ a0 R.2.1 R.2.2) t) A) [.ref (a0 0), .int x1, .int x2, .int x3].toArray s 0 0 A) (F0 m 27 ls []) := by
    intro I0_j27 M0_j27 H locs hP hD hS ls hl hf
    unfold fX11_order_J27 at hf
    refine lv_iconst (v := (0 : Int32)) hx hb dX11_order_27 (by decide) ?_
    exact J28 I0_j27 M0_j27 (0 : Int32) H locs hP hD hS ls (lv_sub hl [0, 1, 2, 3] rfl) hf
  refine lv_iload_n hx hb dX11_order_0 rfl (lv_at hl 1 rfl) ?_
  obtain ⟨r8, hr8, hf⟩ := wb_b hf
  refine vp_callSi (W.runS (As := [.int x1]) (rest := []) ⟨hx, hb, hml, hown, hts⟩ (cn_X11_isBook l D cB cI cZ N x1 r8 hr8) (va_cwS 1 hts gyX11_order_X11_isBook rfl rfl rfl csX11_isBook ⟨Nat.le_of_ble_eq_true rfl, Nat.le_of_ble_eq_true rfl⟩) (wb_preS (hP.sub (ws' := ([] : va_W)) [] rfl) hK) rfl rfl hl.1 rfl (lv_room (Nat.le_of_ble_eq_true rfl)) dX11_order_1 ⟨Nat.le_of_ble_eq_true rfl, Nat.le_of_ble_eq_true rfl⟩) (fun r9 e9 => ?_)
  rw [e9]
  refine lv_if_eq (tgt := 27) hx hb dX11_order_4 (by decide) (fun hc => ?_) (fun hc => ?_)
  · replace hf := wb_t hc hf
    exact J27 I0 M0 H locs hP hD hS ls (lv_sub hl [0, 1, 2, 3] rfl) hf
  · replace hf := wb_f hc hf
    refine lv_iload_n hx hb dX11_order_7 rfl (lv_at hl 2 rfl) ?_
    obtain ⟨r9b, hr9b, hf⟩ := wb_b hf
    refine vp_callSi (W.runS (As := [.int x2]) (rest := []) ⟨hx, hb, hml, hown, hts⟩ (cn_X11_isBook l D cB cI cZ N x2 r9b hr9b) (va_cwS 1 hts gyX11_order_X11_isBook rfl rfl rfl csX11_isBook ⟨Nat.le_of_ble_eq_true rfl, Nat.le_of_ble_eq_true rfl⟩) (wb_preS (hP.sub (ws' := ([] : va_W)) [] rfl) hK) rfl rfl hl.1 rfl (lv_room (Nat.le_of_ble_eq_true rfl)) dX11_order_8 ⟨Nat.le_of_ble_eq_true rfl, Nat.le_of_ble_eq_true rfl⟩) (fun r9 e9 => ?_)
    rw [e9]
    refine lv_if_eq (tgt := 27) hx hb dX11_order_11 (by decide) (fun hc => ?_) (fun hc => ?_)
    · replace hf := wb_t hc hf
      exact J27 I0 M0 H locs hP hD hS ls (lv_sub hl [0, 1, 2, 3] rfl) hf
    · replace hf := wb_f hc hf
      refine lv_iload_n hx hb dX11_order_14 rfl (lv_at hl 3 rfl) ?_
      refine lv_iconst (v := (0 : Int32)) hx hb dX11_order_15 (by decide) ?_
      refine lv_iconst (v := (1 : Int32)) hx hb dX11_order_16 (by decide) ?_
      obtain ⟨r10, hr10, hf⟩ := wb_b hf
      refine vp_callSi (W.runS (As := [.int x3, .int (0 : Int32), .int (1 : Int32)]) (rest := []) ⟨hx, hb, hml, hown, hts⟩ (cn_X11_within l D cB cI cZ N x3 (0 : Int32) (1 : Int32) r10 hr10) (va_cwS 3 hts gyX11_order_X11_within rfl rfl rfl csX11_within ⟨Nat.le_of_ble_eq_true rfl, Nat.le_of_ble_eq_true rfl⟩) (wb_preS (hP.sub (ws' := ([] : va_W)) [] rfl) hK) rfl rfl hl.1 rfl (lv_room (Nat.le_of_ble_eq_true rfl)) dX11_order_17 ⟨Nat.le_of_ble_eq_true rfl, Nat.le_of_ble_eq_true rfl⟩) (fun r9 e9 => ?_)
      rw [e9]
      refine lv_if_eq (tgt := 27) hx hb dX11_order_20 (by decide) (fun hc => ?_) (fun hc => ?_)
      · replace hf := wb_t hc hf
        exact J27 I0 M0 H locs hP hD hS ls (lv_sub hl [0, 1, 2, 3] rfl) hf
      · replace hf := wb_f hc hf
        refine lv_iconst (v := (1 : Int32)) hx hb dX11_order_23 (by decide) ?_
        refine lv_goto (tgt := 28) hx hb dX11_order_24 (by decide) ?_
        exact J28 I0 M0 (1 : Int32) H locs hP hD hS ls (lv_sub hl [0, 1, 2, 3] rfl) hf
set_option maxHeartbeats 4000000 in
set_option maxRecDepth 100000 in
theorem ct_X11_order (l : Launch) (hlt : l.stackTraces = false) (D : va_G) (cB cI cZ : ClassId) (N : Nat) (a0 : Nat → Nat) (I0 : Nat → Int32) (M0 : Nat → Nat → Int32) (x1 : Int32) (x2 : Int32) (x3 : Int32) (sz k : Nat) (hf : fX11_order N I0 M0 x1 x2 x3 = some (.inl k)) : vx_Met l yX11_order wyX11_order ({ frames := 7, cells := 1, slots := 6, locals := 140 }) (va_Pc [.ref (a0 0), .int x1, .int x2, .int x3] (wb_preX D [(cB, .byte), (cI, .int), (cZ, .boolean)] (wWX11 cB cI cZ a0 I0 M0) sz)) (va_Qi (fun _ (_ : Unit) => False) (fun _ _ => True) (fun q => sz ≤ q)) (vx_X (fun _ : Unit => True) (fun E _ _ => E = wb_ex k) (fun q => sz ≤ q)) 1 6 (fun q => sz ≤ q) := by
  refine vx_ofW (cc := cX11_order) (maxL := 4) (ret := (some .int)) (by decide) rfl ?_
  intro p e s m args below meth c s₁ B hml htab hv
  obtain ⟨rfl, hsz, hP, hK, hX⟩ := hv
  subst hsz
  have hx := B.exec
  have hb := B.bytes
  have hr := B.returns
  have hts := atoms_spec (ws := wyX11_order) B.pre
  have hown : s.vm.findClass RX11 = some m.cls := (findClass_of_methodNamed B.named :)
  have hlocks := B.notSynchronized
  have hS : va_S (fun q => s.heap.size ≤ q) s.heap s.heap [] := va_S.rf
  have hl := lv_entry ([.ref (a0 0), .int x1, .int x2, .int x3]) (n := 4) (Nat.le_of_ble_eq_true rfl)
  rw [lg_entry_eq]
  generalize (lg_sl ([.ref (a0 0), .int x1, .int x2, .int x3]) ++ List.replicate (4 - (lg_sl ([.ref (a0 0), .int x1, .int x2, .int x3])).length) Slot.unset).toArray = ls at hl ⊢
  have hl : lv_has ls 4 [(0, .ref (a0 0)), (1, .int x1), (2, .int x2), (3, .int x3)] := hl
  unfold fX11_order at hf
  have J28 : ∀ (z28_0 : Int32), ∀ (ls : Array Slot), lv_has ls 4 [(0, .ref (a0 0)), (1, .int x1), (2, .int x2), (3, .int x3)] → fX11_order_J28 N x1 x2 x3 I0 M0 z28_0 = some (.inl k) → W p l e (headSpec wyX11_order { frames := 7, cells := 1, slots := 6, locals := 140 }).room s m [.ref (a0 0), .int x1, .int x2, .int x3].toArray below meth c s.heap [] 0 0 (vx_MQ below (va_Qi (fun _ (_ : Unit) => False) (fun _ _ => True) (fun q => s.heap.size ≤ q)) (vx_X (fun _ : Unit => True) (fun E _ _ => E = wb_ex k) (fun q => s.heap.size ≤ q)) [.ref (a0 0), .int x1, .int x2, .int x3].toArray s 1 6 (fun q => s.heap.size ≤ q)) (F0 m 28 ls [.int z28_0]) := by
    intro z28_0 ls hl hf
    unfold fX11_order_J28 at hf
    rcases wb_xt hf with hrx | ⟨r1, hr1, hf⟩
    · refine vx_callv (vx_runS (As := [.int z28_0]) (rest := []) ⟨hx, hb, hml, hown, hts⟩ (ct_X11_need l hlt D cB cI cZ N z28_0 s.heap.size k hrx) (va_cwS 1 hts gyX11_order_X11_need rfl rfl rfl csX11_need ⟨Nat.le_of_ble_eq_true rfl, Nat.le_of_ble_eq_true rfl⟩) (wb_preXS (hP.sub (ws' := ([] : va_W)) [] rfl) hK hX) rfl rfl hl.1 rfl (lv_room (Nat.le_of_ble_eq_true rfl)) dX11_order_28 ⟨Nat.le_of_ble_eq_true rfl, Nat.le_of_ble_eq_true rfl⟩) hS (fun q _ h => h) (fun _ h => h) (fun q _ h => h) (fun E ce q9 u t H locs ht hvm hpx hB hz1 hk1 hS hq9 hv9 hc9 => ?_) (fun u t H locs ht hvm hw hB hz1 hk1 hS => hw.elim)
      exact vx_out (fun x hx9 => (htab x hx9).elim) hlocks hq9 hv9 hc9 (fun t9 ht9 hvm9 => ⟨(), trivial, hB, hS.F ht9⟩) hS.2.2 (Nat.le_of_ble_eq_true rfl) (Nat.le_of_ble_eq_true rfl)
    refine va_csv (W.runS (As := [.int z28_0]) (rest := []) ⟨hx, hb, hml, hown, hts⟩ (cn_X11_need l D cB cI cZ N z28_0 r1 hr1) (va_cwS 1 hts gyX11_order_X11_need rfl rfl rfl csX11_need ⟨Nat.le_of_ble_eq_true rfl, Nat.le_of_ble_eq_true rfl⟩) (wb_preS (hP.sub (ws' := ([] : va_W)) [] rfl) hK) rfl rfl hl.1 rfl (lv_room (Nat.le_of_ble_eq_true rfl)) dX11_order_28 ⟨Nat.le_of_ble_eq_true rfl, Nat.le_of_ble_eq_true rfl⟩) (fun _ => ?_)
    exact absurd hf wb_okn
  have J27 : ∀ (ls : Array Slot), lv_has ls 4 [(0, .ref (a0 0)), (1, .int x1), (2, .int x2), (3, .int x3)] → fX11_order_J27 N x1 x2 x3 I0 M0 = some (.inl k) → W p l e (headSpec wyX11_order { frames := 7, cells := 1, slots := 6, locals := 140 }).room s m [.ref (a0 0), .int x1, .int x2, .int x3].toArray below meth c s.heap [] 0 0 (vx_MQ below (va_Qi (fun _ (_ : Unit) => False) (fun _ _ => True) (fun q => s.heap.size ≤ q)) (vx_X (fun _ : Unit => True) (fun E _ _ => E = wb_ex k) (fun q => s.heap.size ≤ q)) [.ref (a0 0), .int x1, .int x2, .int x3].toArray s 1 6 (fun q => s.heap.size ≤ q)) (F0 m 27 ls []) := by
    intro ls hl hf
    unfold fX11_order_J27 at hf
    refine lv_iconst (v := (0 : Int32)) hx hb dX11_order_27 (by decide) ?_
    exact J28 (0 : Int32) ls (lv_sub hl [0, 1, 2, 3] rfl) hf
  refine lv_iload_n hx hb dX11_order_0 rfl (lv_at hl 1 rfl) ?_
  obtain ⟨r2, hr2, hf⟩ := wb_b hf
  refine vp_callSi (W.runS (As := [.int x1]) (rest := []) ⟨hx, hb, hml, hown, hts⟩ (cn_X11_isBook l D cB cI cZ N x1 r2 hr2) (va_cwS 1 hts gyX11_order_X11_isBook rfl rfl rfl csX11_isBook ⟨Nat.le_of_ble_eq_true rfl, Nat.le_of_ble_eq_true rfl⟩) (wb_preS (hP.sub (ws' := ([] : va_W)) [] rfl) hK) rfl rfl hl.1 rfl (lv_room (Nat.le_of_ble_eq_true rfl)) dX11_order_1 ⟨Nat.le_of_ble_eq_true rfl, Nat.le_of_ble_eq_true rfl⟩) (fun r9 e9 => ?_)
  rw [e9]
  refine lv_if_eq (tgt := 27) hx hb dX11_order_4 (by decide) (fun hc => ?_) (fun hc => ?_)
  · replace hf := wb_t hc hf
    exact J27 ls (lv_sub hl [0, 1, 2, 3] rfl) hf
  · replace hf := wb_f hc hf
    refine lv_iload_n hx hb dX11_order_7 rfl (lv_at hl 2 rfl) ?_
    obtain ⟨r3, hr3, hf⟩ := wb_b hf
    refine vp_callSi (W.runS (As := [.int x2]) (rest := []) ⟨hx, hb, hml, hown, hts⟩ (cn_X11_isBook l D cB cI cZ N x2 r3 hr3) (va_cwS 1 hts gyX11_order_X11_isBook rfl rfl rfl csX11_isBook ⟨Nat.le_of_ble_eq_true rfl, Nat.le_of_ble_eq_true rfl⟩) (wb_preS (hP.sub (ws' := ([] : va_W)) [] rfl) hK) rfl rfl hl.1 rfl (lv_room (Nat.le_of_ble_eq_true rfl)) dX11_order_8 ⟨Nat.le_of_ble_eq_true rfl, Nat.le_of_ble_eq_true rfl⟩) (fun r9 e9 => ?_)
    rw [e9]
    refine lv_if_eq (tgt := 27) hx hb dX11_order_11 (by decide) (fun hc => ?_) (fun hc => ?_)
    · replace hf := wb_t hc hf
      exact J27 ls (lv_sub hl [0, 1, 2, 3] rfl) hf
    · replace hf := wb_f hc hf
      refine lv_iload_n hx hb dX11_order_14 rfl (lv_at hl 3 rfl) ?_
      refine lv_iconst (v := (0 : Int32)) hx hb dX11_order_15 (by decide) ?_
      refine lv_iconst (v := (1 : Int32)) hx hb dX11_order_16 (by decide) ?_
      obtain ⟨r4, hr4, hf⟩ := wb_b hf
      refine vp_callSi (W.runS (As := [.int x3, .int (0 : Int32), .int (1 : Int32)]) (rest := []) ⟨hx, hb, hml, hown, hts⟩ (cn_X11_within l D cB cI cZ N x3 (0 : Int32) (1 : Int32) r4 hr4) (va_cwS 3 hts gyX11_order_X11_within rfl rfl rfl csX11_within ⟨Nat.le_of_ble_eq_true rfl, Nat.le_of_ble_eq_true rfl⟩) (wb_preS (hP.sub (ws' := ([] : va_W)) [] rfl) hK) rfl rfl hl.1 rfl (lv_room (Nat.le_of_ble_eq_true rfl)) dX11_order_17 ⟨Nat.le_of_ble_eq_true rfl, Nat.le_of_ble_eq_true rfl⟩) (fun r9 e9 => ?_)
      rw [e9]
      refine lv_if_eq (tgt := 27) hx hb dX11_order_20 (by decide) (fun hc => ?_) (fun hc => ?_)
      · replace hf := wb_t hc hf
        exact J27 ls (lv_sub hl [0, 1, 2, 3] rfl) hf
      · replace hf := wb_f hc hf
        refine lv_iconst (v := (1 : Int32)) hx hb dX11_order_23 (by decide) ?_
        refine lv_goto (tgt := 28) hx hb dX11_order_24 (by decide) ?_
        exact J28 (1 : Int32) ls (lv_sub hl [0, 1, 2, 3] rfl) hf

set_option maxHeartbeats 4000000 in
set_option maxRecDepth 100000 in
theorem cn_X11_isNumber (l : Launch) (D : va_G) (cB cI cZ : ClassId) (N : Nat) (x0 : Int32) (R : Int32) (hf : fX11_isNumber N x0 = some R) : Met l yX11_isNumber wsX11_isNumber ({ frames := 1, cells := 0, slots := 0, locals := 22 }) (va_Pc [.int x0] (wb_pre D [(cB, .byte), (cI, .int), (cZ, .boolean)] ([] : va_W))) (vp_Si (fun r => r = R)) 0 0 (fun _ => False) := by
  refine Met.ofW (cc := cX11_isNumber) (maxL := 1) (ret := (some .boolean)) pn_X11 rfl ?_
  intro p e s m args below meth c s₁ B hml hv
  obtain ⟨rfl, hP, hK⟩ := hv
  have hx := B.exec
  have hb := B.bytes
  have hr := B.returns
  have hts := atoms_spec (ws := wsX11_isNumber) B.pre
  have hown : s.vm.findClass RX11 = some m.cls := (findClass_of_methodNamed B.named :)
  have hlocks := B.notSynchronized
  have hl := lv_entry ([.int x0]) (n := 1) (Nat.le_of_ble_eq_true rfl)
  rw [lg_entry_eq]
  generalize (lg_sl ([.int x0]) ++ List.replicate (1 - (lg_sl ([.int x0])).length) Slot.unset).toArray = ls at hl ⊢
  have hl : lv_has ls 1 [(0, .int x0)] := hl
  unfold fX11_isNumber at hf
  refine lv_iload_n hx hb dX11_isNumber_0 rfl (lv_at hl 0 rfl) ?_
  refine lv_iconst (v := (0 : Int32)) hx hb dX11_isNumber_1 (by decide) ?_
  refine lv_bipush (v := (119 : Int32)) hx hb dX11_isNumber_2 (by decide) ?_
  obtain ⟨r1, hr1, hf⟩ := wb_b hf
  refine vp_callSi (W.runS (As := [.int x0, .int (0 : Int32), .int (119 : Int32)]) (rest := []) ⟨hx, hb, hml, hown, hts⟩ (cn_X11_within l D cB cI cZ N x0 (0 : Int32) (119 : Int32) r1 hr1) (va_cwS 3 hts gX11_isNumber_X11_within rfl rfl rfl csX11_within ⟨Nat.le_of_ble_eq_true rfl, Nat.le_of_ble_eq_true rfl⟩) (wb_preS hP hK) rfl rfl hl.1 rfl (lv_room (Nat.le_of_ble_eq_true rfl)) dX11_isNumber_4 ⟨Nat.le_of_ble_eq_true rfl, Nat.le_of_ble_eq_true rfl⟩) (fun r9 e9 => ?_)
  rw [e9]
  obtain ⟨hz, hf⟩ := wb_y hf
  exact W.zret (v := r1) hx hb hr (congrArg Value.int hz) (fun t ht hW => ⟨_, rfl, Option.some.inj hf, ht⟩) (fun _ h => nomatch h) dX11_isNumber_7

set_option maxHeartbeats 4000000 in
set_option maxRecDepth 100000 in
theorem cn_X11_same (l : Launch) (D : va_G) (cB cI cZ : ClassId) (N : Nat) (a0 : Nat → Nat) (I0 : Nat → Int32) (M0 : Nat → Nat → Int32) (x1 : Int32) (x2 : Int32) (x3 : Int32) (R : Int32) (hf : fX11_same N I0 M0 x1 x2 x3 = some (.inr R)) : Met l yX11_same wyX11_same ({ frames := 7, cells := 0, slots := 0, locals := 140 }) (va_Pc [.ref (a0 0), .int x1, .int x2, .int x3] (wb_pre D [(cB, .byte), (cI, .int), (cZ, .boolean)] (wWX11 cB cI cZ a0 I0 M0))) (vp_Si (fun r => r = R)) 0 0 (fun _ => False) := by
  refine Met.ofW (cc := cX11_same) (maxL := 4) (ret := (some .boolean)) pn_X11 rfl ?_
  intro p e s m args below meth c s₁ B hml hv
  obtain ⟨rfl, hP, hK⟩ := hv
  have hx := B.exec
  have hb := B.bytes
  have hr := B.returns
  have hts := atoms_spec (ws := wyX11_same) B.pre
  have hown : s.vm.findClass RX11 = some m.cls := (findClass_of_methodNamed B.named :)
  have hlocks := B.notSynchronized
  have hinX11 : ∀ w ∈ u_ws RX11 TX11 13, w ∈ wyX11_same := fun w h => List.mem_cons_of_mem _ (List.mem_append_left _ (List.mem_append_left _ (List.mem_append_left _ (List.mem_append_left _ (List.mem_append_right _ h)))))
  have hinX5 : ∀ w ∈ u_ws RX5 TX5 6, w ∈ wyX11_same := fun w h => List.mem_cons_of_mem _ (List.mem_append_left _ (List.mem_append_left _ (List.mem_append_left _ (List.mem_append_right _ h))))
  have hl := lv_entry ([.ref (a0 0), .int x1, .int x2, .int x3]) (n := 4) (Nat.le_of_ble_eq_true rfl)
  rw [lg_entry_eq]
  generalize (lg_sl ([.ref (a0 0), .int x1, .int x2, .int x3]) ++ List.replicate (4 - (lg_sl ([.ref (a0 0), .int x1, .int x2, .int x3])).length) Slot.unset).toArray = ls at hl ⊢
  have hl : lv_has ls 4 [(0, .ref (a0 0)), (1, .int x1), (2, .int x2), (3, .int x3)] := hl
  unfold fX11_same at hf
  have J29 : ∀ (z29_0 : Int32), ∀ (ls : Array Slot), lv_has ls 4 [(0, .ref (a0 0)), (1, .int x1), (2, .int x2), (3, .int x3)] → fX11_same_J29 N I0 M0 x1 x2 x3 z29_0 = some (.inr R) → W p l e (headSpec wyX11_same { frames := 7, cells := 0, slots := 0, locals := 140 }).room s m [.ref (a0 0), .int x1, .int x2, .int x3].toArray below meth c s.heap [] 0 0 (MQ below (vp_Si (fun r => r = R)) [.ref (a0 0), .int x1, .int x2, .int x3].toArray s 0 0 (fun _ => False)) (F0 m 29 ls [.int z29_0]) := by
    intro z29_0 ls hl hf
    unfold fX11_same_J29 at hf
    obtain ⟨r1, hr1, hf⟩ := wb_xr hf
    refine va_csv (W.runS (As := [.int z29_0]) (rest := []) ⟨hx, hb, hml, hown, hts⟩ (cn_X11_need l D cB cI cZ N z29_0 r1 hr1) (va_cwS 1 hts gyX11_same_X11_need rfl rfl rfl csX11_need ⟨Nat.le_of_ble_eq_true rfl, Nat.le_of_ble_eq_true rfl⟩) (wb_preS (hP.sub (ws' := ([] : va_W)) [] rfl) hK) rfl rfl hl.1 rfl (lv_room (Nat.le_of_ble_eq_true rfl)) dX11_same_29 ⟨Nat.le_of_ble_eq_true rfl, Nat.le_of_ble_eq_true rfl⟩) (fun _ => ?_)
    replace hf := wb_okr hf
    refine lv_aload_n hx hb dX11_same_32 rfl (lv_at hl 0 rfl) ?_
    refine va_get (D := D) (ci := 11) (v := .ref (a0 3)) (C := RX11) (T := TX11) (N := 13) hx hb hts hinX11 hown hK hP 0 rfl rfl 1 (by decide) (hts (.fieldLink RX11 19 "WheelBook" "told" "LWheelBook$House;") (List.mem_of_getElem? (i := 1) rfl)) (fun _ h9 => h9) rfl dX11_same_33 ?_
    refine va_get (D := D) (ci := 5) (v := .ref (a0 10)) (C := RX5) (T := TX5) (N := 6) hx hb hts hinX5 hown hK hP 3 rfl rfl 5 (by decide) (hts (.fieldLink RX11 140 "WheelBook$House" "hands" "LWheelBook$Hands;") (List.mem_of_getElem? (i := 2) rfl)) (fun _ h9 => h9) rfl dX11_same_36 ?_
    refine lv_aload_n hx hb dX11_same_39 rfl (lv_at hl 0 rfl) ?_
    refine va_get (D := D) (ci := 11) (v := .ref (a0 21)) (C := RX11) (T := TX11) (N := 13) hx hb hts hinX11 hown hK hP 0 rfl rfl 3 (by decide) (hts (.fieldLink RX11 29 "WheelBook" "books" "LWheelBook$Books;") (List.mem_of_getElem? (i := 3) rfl)) (fun _ h9 => h9) rfl dX11_same_40 ?_
    refine lv_iload_n hx hb dX11_same_43 rfl (lv_at hl 1 rfl) ?_
    refine lv_iload_n hx hb dX11_same_44 rfl (lv_at hl 2 rfl) ?_
    refine lv_iload_n hx hb dX11_same_45 rfl (lv_at hl 3 rfl) ?_
    obtain ⟨r2, hr2, hf⟩ := wb_b hf
    refine vp_callSi (W.runS (As := [.ref (a0 10), .ref (a0 21), .int x1, .int x2, .int x3]) (rest := []) ⟨hx, hb, hml, hown, hts⟩ (cn_X0_areOne l D cB cI cZ N (wb_sh a0 10) (wb_sh I0 10) (wb_sh M0 6) (wb_sh a0 21) (wb_sh I0 13) (wb_sh M0 13) x1 x2 x3 r2 hr2) (va_cwS 5 hts gyX11_same_X0_areOne rfl rfl rfl csX0_areOne ⟨Nat.le_of_ble_eq_true rfl, Nat.le_of_ble_eq_true rfl⟩) (wb_preS (hP.sub (ws' := ((wWX4 cB cI cZ (wb_sh a0 10) (wb_sh I0 10) (wb_sh M0 6)) ++ (wWX1 cB cI cZ (wb_sh a0 21) (wb_sh I0 13) (wb_sh M0 13)))) [10, 11, 21, 22, 23] rfl) hK) rfl rfl hl.1 rfl (lv_room (Nat.le_of_ble_eq_true rfl)) dX11_same_46 ⟨Nat.le_of_ble_eq_true rfl, Nat.le_of_ble_eq_true rfl⟩) (fun r9 e9 => ?_)
    rw [e9]
    obtain ⟨hz, hf⟩ := wb_y hf
    exact W.zret (v := r2) hx hb hr (congrArg Value.int hz) (fun t ht hW => ⟨_, rfl, Option.some.inj hf, ht⟩) (fun _ h => nomatch h) dX11_same_49
  have J28 : ∀ (ls : Array Slot), lv_has ls 4 [(0, .ref (a0 0)), (1, .int x1), (2, .int x2), (3, .int x3)] → fX11_same_J28 N I0 M0 x1 x2 x3 = some (.inr R) → W p l e (headSpec wyX11_same { frames := 7, cells := 0, slots := 0, locals := 140 }).room s m [.ref (a0 0), .int x1, .int x2, .int x3].toArray below meth c s.heap [] 0 0 (MQ below (vp_Si (fun r => r = R)) [.ref (a0 0), .int x1, .int x2, .int x3].toArray s 0 0 (fun _ => False)) (F0 m 28 ls []) := by
    intro ls hl hf
    unfold fX11_same_J28 at hf
    refine lv_iconst (v := (0 : Int32)) hx hb dX11_same_28 (by decide) ?_
    exact J29 (0 : Int32) ls (lv_sub hl [0, 1, 2, 3] rfl) hf
  refine lv_iload_n hx hb dX11_same_0 rfl (lv_at hl 1 rfl) ?_
  obtain ⟨r3, hr3, hf⟩ := wb_b hf
  refine vp_callSi (W.runS (As := [.int x1]) (rest := []) ⟨hx, hb, hml, hown, hts⟩ (cn_X11_isNumber l D cB cI cZ N x1 r3 hr3) (va_cwS 1 hts gyX11_same_X11_isNumber rfl rfl rfl csX11_isNumber ⟨Nat.le_of_ble_eq_true rfl, Nat.le_of_ble_eq_true rfl⟩) (wb_preS (hP.sub (ws' := ([] : va_W)) [] rfl) hK) rfl rfl hl.1 rfl (lv_room (Nat.le_of_ble_eq_true rfl)) dX11_same_1 ⟨Nat.le_of_ble_eq_true rfl, Nat.le_of_ble_eq_true rfl⟩) (fun r9 e9 => ?_)
  rw [e9]
  refine lv_if_eq (tgt := 28) hx hb dX11_same_4 (by decide) (fun hc => ?_) (fun hc => ?_)
  · replace hf := wb_t hc hf
    exact J28 ls (lv_sub hl [0, 1, 2, 3] rfl) hf
  · replace hf := wb_f hc hf
    refine lv_iload_n hx hb dX11_same_7 rfl (lv_at hl 2 rfl) ?_
    obtain ⟨r4, hr4, hf⟩ := wb_b hf
    refine vp_callSi (W.runS (As := [.int x2]) (rest := []) ⟨hx, hb, hml, hown, hts⟩ (cn_X11_isNumber l D cB cI cZ N x2 r4 hr4) (va_cwS 1 hts gyX11_same_X11_isNumber rfl rfl rfl csX11_isNumber ⟨Nat.le_of_ble_eq_true rfl, Nat.le_of_ble_eq_true rfl⟩) (wb_preS (hP.sub (ws' := ([] : va_W)) [] rfl) hK) rfl rfl hl.1 rfl (lv_room (Nat.le_of_ble_eq_true rfl)) dX11_same_8 ⟨Nat.le_of_ble_eq_true rfl, Nat.le_of_ble_eq_true rfl⟩) (fun r9 e9 => ?_)
    rw [e9]
    refine lv_if_eq (tgt := 28) hx hb dX11_same_11 (by decide) (fun hc => ?_) (fun hc => ?_)
    · replace hf := wb_t hc hf
      exact J28 ls (lv_sub hl [0, 1, 2, 3] rfl) hf
    · replace hf := wb_f hc hf
      refine lv_iload_n hx hb dX11_same_14 rfl (lv_at hl 3 rfl) ?_
      refine lv_iconst (v := (1 : Int32)) hx hb dX11_same_15 (by decide) ?_
      refine lv_bipush (v := (7 : Int32)) hx hb dX11_same_16 (by decide) ?_
      obtain ⟨r5, hr5, hf⟩ := wb_b hf
      refine vp_callSi (W.runS (As := [.int x3, .int (1 : Int32), .int (7 : Int32)]) (rest := []) ⟨hx, hb, hml, hown, hts⟩ (cn_X11_within l D cB cI cZ N x3 (1 : Int32) (7 : Int32) r5 hr5) (va_cwS 3 hts gyX11_same_X11_within rfl rfl rfl csX11_within ⟨Nat.le_of_ble_eq_true rfl, Nat.le_of_ble_eq_true rfl⟩) (wb_preS (hP.sub (ws' := ([] : va_W)) [] rfl) hK) rfl rfl hl.1 rfl (lv_room (Nat.le_of_ble_eq_true rfl)) dX11_same_18 ⟨Nat.le_of_ble_eq_true rfl, Nat.le_of_ble_eq_true rfl⟩) (fun r9 e9 => ?_)
      rw [e9]
      refine lv_if_eq (tgt := 28) hx hb dX11_same_21 (by decide) (fun hc => ?_) (fun hc => ?_)
      · replace hf := wb_t hc hf
        exact J28 ls (lv_sub hl [0, 1, 2, 3] rfl) hf
      · replace hf := wb_f hc hf
        refine lv_iconst (v := (1 : Int32)) hx hb dX11_same_24 (by decide) ?_
        refine lv_goto (tgt := 29) hx hb dX11_same_25 (by decide) ?_
        exact J29 (1 : Int32) ls (lv_sub hl [0, 1, 2, 3] rfl) hf
set_option maxHeartbeats 4000000 in
set_option maxRecDepth 100000 in
theorem ct_X11_same (l : Launch) (hlt : l.stackTraces = false) (D : va_G) (cB cI cZ : ClassId) (N : Nat) (a0 : Nat → Nat) (I0 : Nat → Int32) (M0 : Nat → Nat → Int32) (x1 : Int32) (x2 : Int32) (x3 : Int32) (sz k : Nat) (hf : fX11_same N I0 M0 x1 x2 x3 = some (.inl k)) : vx_Met l yX11_same wyX11_same ({ frames := 7, cells := 1, slots := 6, locals := 140 }) (va_Pc [.ref (a0 0), .int x1, .int x2, .int x3] (wb_preX D [(cB, .byte), (cI, .int), (cZ, .boolean)] (wWX11 cB cI cZ a0 I0 M0) sz)) (va_Qi (fun _ (_ : Unit) => False) (fun _ _ => True) (fun q => sz ≤ q)) (vx_X (fun _ : Unit => True) (fun E _ _ => E = wb_ex k) (fun q => sz ≤ q)) 1 6 (fun q => sz ≤ q) := by
  refine vx_ofW (cc := cX11_same) (maxL := 4) (ret := (some .boolean)) (by decide) rfl ?_
  intro p e s m args below meth c s₁ B hml htab hv
  obtain ⟨rfl, hsz, hP, hK, hX⟩ := hv
  subst hsz
  have hx := B.exec
  have hb := B.bytes
  have hr := B.returns
  have hts := atoms_spec (ws := wyX11_same) B.pre
  have hown : s.vm.findClass RX11 = some m.cls := (findClass_of_methodNamed B.named :)
  have hlocks := B.notSynchronized
  have hS : va_S (fun q => s.heap.size ≤ q) s.heap s.heap [] := va_S.rf
  have hl := lv_entry ([.ref (a0 0), .int x1, .int x2, .int x3]) (n := 4) (Nat.le_of_ble_eq_true rfl)
  rw [lg_entry_eq]
  generalize (lg_sl ([.ref (a0 0), .int x1, .int x2, .int x3]) ++ List.replicate (4 - (lg_sl ([.ref (a0 0), .int x1, .int x2, .int x3])).length) Slot.unset).toArray = ls at hl ⊢
  have hl : lv_has ls 4 [(0, .ref (a0 0)), (1, .int x1), (2, .int x2), (3, .int x3)] := hl
  unfold fX11_same at hf
  have J29 : ∀ (z29_0 : Int32), ∀ (ls : Array Slot), lv_has ls 4 [(0, .ref (a0 0)), (1, .int x1), (2, .int x2), (3, .int x3)] → fX11_same_J29 N I0 M0 x1 x2 x3 z29_0 = some (.inl k) → W p l e (headSpec wyX11_same { frames := 7, cells := 1, slots := 6, locals := 140 }).room s m [.ref (a0 0), .int x1, .int x2, .int x3].toArray below meth c s.heap [] 0 0 (vx_MQ below (va_Qi (fun _ (_ : Unit) => False) (fun _ _ => True) (fun q => s.heap.size ≤ q)) (vx_X (fun _ : Unit => True) (fun E _ _ => E = wb_ex k) (fun q => s.heap.size ≤ q)) [.ref (a0 0), .int x1, .int x2, .int x3].toArray s 1 6 (fun q => s.heap.size ≤ q)) (F0 m 29 ls [.int z29_0]) := by
    intro z29_0 ls hl hf
    unfold fX11_same_J29 at hf
    rcases wb_xt hf with hrx | ⟨r1, hr1, hf⟩
    · refine vx_callv (vx_runS (As := [.int z29_0]) (rest := []) ⟨hx, hb, hml, hown, hts⟩ (ct_X11_need l hlt D cB cI cZ N z29_0 s.heap.size k hrx) (va_cwS 1 hts gyX11_same_X11_need rfl rfl rfl csX11_need ⟨Nat.le_of_ble_eq_true rfl, Nat.le_of_ble_eq_true rfl⟩) (wb_preXS (hP.sub (ws' := ([] : va_W)) [] rfl) hK hX) rfl rfl hl.1 rfl (lv_room (Nat.le_of_ble_eq_true rfl)) dX11_same_29 ⟨Nat.le_of_ble_eq_true rfl, Nat.le_of_ble_eq_true rfl⟩) hS (fun q _ h => h) (fun _ h => h) (fun q _ h => h) (fun E ce q9 u t H locs ht hvm hpx hB hz1 hk1 hS hq9 hv9 hc9 => ?_) (fun u t H locs ht hvm hw hB hz1 hk1 hS => hw.elim)
      exact vx_out (fun x hx9 => (htab x hx9).elim) hlocks hq9 hv9 hc9 (fun t9 ht9 hvm9 => ⟨(), trivial, hB, hS.F ht9⟩) hS.2.2 (Nat.le_of_ble_eq_true rfl) (Nat.le_of_ble_eq_true rfl)
    refine va_csv (W.runS (As := [.int z29_0]) (rest := []) ⟨hx, hb, hml, hown, hts⟩ (cn_X11_need l D cB cI cZ N z29_0 r1 hr1) (va_cwS 1 hts gyX11_same_X11_need rfl rfl rfl csX11_need ⟨Nat.le_of_ble_eq_true rfl, Nat.le_of_ble_eq_true rfl⟩) (wb_preS (hP.sub (ws' := ([] : va_W)) [] rfl) hK) rfl rfl hl.1 rfl (lv_room (Nat.le_of_ble_eq_true rfl)) dX11_same_29 ⟨Nat.le_of_ble_eq_true rfl, Nat.le_of_ble_eq_true rfl⟩) (fun _ => ?_)
    exact absurd hf wb_okn
  have J28 : ∀ (ls : Array Slot), lv_has ls 4 [(0, .ref (a0 0)), (1, .int x1), (2, .int x2), (3, .int x3)] → fX11_same_J28 N I0 M0 x1 x2 x3 = some (.inl k) → W p l e (headSpec wyX11_same { frames := 7, cells := 1, slots := 6, locals := 140 }).room s m [.ref (a0 0), .int x1, .int x2, .int x3].toArray below meth c s.heap [] 0 0 (vx_MQ below (va_Qi (fun _ (_ : Unit) => False) (fun _ _ => True) (fun q => s.heap.size ≤ q)) (vx_X (fun _ : Unit => True) (fun E _ _ => E = wb_ex k) (fun q => s.heap.size ≤ q)) [.ref (a0 0), .int x1, .int x2, .int x3].toArray s 1 6 (fun q => s.heap.size ≤ q)) (F0 m 28 ls []) := by
    intro ls hl hf
    unfold fX11_same_J28 at hf
    refine lv_iconst (v := (0 : Int32)) hx hb dX11_same_28 (by decide) ?_
    exact J29 (0 : Int32) ls (lv_sub hl [0, 1, 2, 3] rfl) hf
  refine lv_iload_n hx hb dX11_same_0 rfl (lv_at hl 1 rfl) ?_
  obtain ⟨r2, hr2, hf⟩ := wb_b hf
  refine vp_callSi (W.runS (As := [.int x1]) (rest := []) ⟨hx, hb, hml, hown, hts⟩ (cn_X11_isNumber l D cB cI cZ N x1 r2 hr2) (va_cwS 1 hts gyX11_same_X11_isNumber rfl rfl rfl csX11_isNumber ⟨Nat.le_of_ble_eq_true rfl, Nat.le_of_ble_eq_true rfl⟩) (wb_preS (hP.sub (ws' := ([] : va_W)) [] rfl) hK) rfl rfl hl.1 rfl (lv_room (Nat.le_of_ble_eq_true rfl)) dX11_same_1 ⟨Nat.le_of_ble_eq_true rfl, Nat.le_of_ble_eq_true rfl⟩) (fun r9 e9 => ?_)
  rw [e9]
  refine lv_if_eq (tgt := 28) hx hb dX11_same_4 (by decide) (fun hc => ?_) (fun hc => ?_)
  · replace hf := wb_t hc hf
    exact J28 ls (lv_sub hl [0, 1, 2, 3] rfl) hf
  · replace hf := wb_f hc hf
    refine lv_iload_n hx hb dX11_same_7 rfl (lv_at hl 2 rfl) ?_
    obtain ⟨r3, hr3, hf⟩ := wb_b hf
    refine vp_callSi (W.runS (As := [.int x2]) (rest := []) ⟨hx, hb, hml, hown, hts⟩ (cn_X11_isNumber l D cB cI cZ N x2 r3 hr3) (va_cwS 1 hts gyX11_same_X11_isNumber rfl rfl rfl csX11_isNumber ⟨Nat.le_of_ble_eq_true rfl, Nat.le_of_ble_eq_true rfl⟩) (wb_preS (hP.sub (ws' := ([] : va_W)) [] rfl) hK) rfl rfl hl.1 rfl (lv_room (Nat.le_of_ble_eq_true rfl)) dX11_same_8 ⟨Nat.le_of_ble_eq_true rfl, Nat.le_of_ble_eq_true rfl⟩) (fun r9 e9 => ?_)
    rw [e9]
    refine lv_if_eq (tgt := 28) hx hb dX11_same_11 (by decide) (fun hc => ?_) (fun hc => ?_)
    · replace hf := wb_t hc hf
      exact J28 ls (lv_sub hl [0, 1, 2, 3] rfl) hf
    · replace hf := wb_f hc hf
      refine lv_iload_n hx hb dX11_same_14 rfl (lv_at hl 3 rfl) ?_
      refine lv_iconst (v := (1 : Int32)) hx hb dX11_same_15 (by decide) ?_
      refine lv_bipush (v := (7 : Int32)) hx hb dX11_same_16 (by decide) ?_
      obtain ⟨r4, hr4, hf⟩ := wb_b hf
      refine vp_callSi (W.runS (As := [.int x3, .int (1 : Int32), .int (7 : Int32)]) (rest := []) ⟨hx, hb, hml, hown, hts⟩ (cn_X11_within l D cB cI cZ N x3 (1 : Int32) (7 : Int32) r4 hr4) (va_cwS 3 hts gyX11_same_X11_within rfl rfl rfl csX11_within ⟨Nat.le_of_ble_eq_true rfl, Nat.le_of_ble_eq_true rfl⟩) (wb_preS (hP.sub (ws' := ([] : va_W)) [] rfl) hK) rfl rfl hl.1 rfl (lv_room (Nat.le_of_ble_eq_true rfl)) dX11_same_18 ⟨Nat.le_of_ble_eq_true rfl, Nat.le_of_ble_eq_true rfl⟩) (fun r9 e9 => ?_)
      rw [e9]
      refine lv_if_eq (tgt := 28) hx hb dX11_same_21 (by decide) (fun hc => ?_) (fun hc => ?_)
      · replace hf := wb_t hc hf
        exact J28 ls (lv_sub hl [0, 1, 2, 3] rfl) hf
      · replace hf := wb_f hc hf
        refine lv_iconst (v := (1 : Int32)) hx hb dX11_same_24 (by decide) ?_
        refine lv_goto (tgt := 29) hx hb dX11_same_25 (by decide) ?_
        exact J29 (1 : Int32) ls (lv_sub hl [0, 1, 2, 3] rfl) hf
