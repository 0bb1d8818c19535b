set_option maxHeartbeats 4000000 in
set_option maxRecDepth 100000 in
theorem cn_X6_howManyTurned (l : Launch) (D : va_G) (cB cI cZ : ClassId) (N : Nat) (a0 : Nat → Nat) (I0 : Nat → Int32) (M0 : Nat → Nat → Int32) (x1 : Int32) (x2 : Int32) (sz : Nat) (R : Int32 × (Nat → Int32) × (Nat → Nat → Int32)) (hf : fX6_howManyTurned N I0 M0 x1 x2 = some R) : Met l yX6_howManyTurned wsX6_howManyTurned ({ frames := 2, cells := 0, slots := 0, locals := 48 }) (va_Pc [.ref (a0 0), .int x1, .int x2] (wb_preD D [(cB, .byte), (cI, .int), (cZ, .boolean)] (wWX6 cB cI cZ a0 I0 M0) sz)) (va_Qi (fun r (_ : Unit) => r = R.1) (fun _ t => wb_post D [(cB, .byte), (cI, .int), (cZ, .boolean)] (va_A (wWX6 cB cI cZ a0 I0 M0) sz) (wWX6 cB cI cZ a0 R.2.1 R.2.2) t) (va_A (wWX6 cB cI cZ a0 I0 M0) sz)) 0 0 (va_A (wWX6 cB cI cZ a0 I0 M0) sz) := by
  refine Met.ofW (cc := cX6_howManyTurned) (maxL := 7) (ret := (some .int)) pn_X6 rfl ?_
  intro p e s m args below meth c s₁ B hml hv
  obtain ⟨rfl, hsz, hP, hK, hD0⟩ := hv
  have hx := B.exec
  have hb := B.bytes
  have hr := B.returns
  have hts := atoms_spec (ws := wsX6_howManyTurned) B.pre
  have hown : s.vm.findClass RX6 = some m.cls := (findClass_of_methodNamed B.named :)
  have hlocks := B.notSynchronized
  have hinX6 : ∀ w ∈ u_ws RX6 TX6 4, w ∈ wsX6_howManyTurned := fun w h => List.mem_cons_of_mem _ (List.mem_append_right _ h)
  subst hsz
  have hD := hD0.self (sz := s.heap.size)
  generalize hAe : va_A (wWX6 cB cI cZ a0 I0 M0) s.heap.size = A at hD ⊢
  have hA : ∀ q : Nat, s.heap.size ≤ q → A q := fun q h => by rw [← hAe]; exact Or.inr h
  have hS : va_S A s.heap s.heap [] := va_S.rf
  have hl := lv_entry ([.ref (a0 0), .int x1, .int x2]) (n := 7) (Nat.le_of_ble_eq_true rfl)
  rw [lg_entry_eq]
  generalize (lg_sl ([.ref (a0 0), .int x1, .int x2]) ++ List.replicate (7 - (lg_sl ([.ref (a0 0), .int x1, .int x2])).length) Slot.unset).toArray = ls at hl ⊢
  have hl : lv_has ls 7 [(0, .ref (a0 0)), (1, .int x1), (2, .int x2)] := hl
  unfold fX6_howManyTurned at hf
  obtain ⟨H, hHe⟩ : ∃ H : Heap, H = s.heap := ⟨_, rfl⟩
  obtain ⟨locs, hle⟩ : ∃ locs : List Loc, locs = [] := ⟨_, rfl⟩
  refine wb_start (H := H) (locs := locs) hHe hle ?_
  rw [← hHe] at hP
  have hS : va_S A s.heap H locs := by rw [hHe, hle]; exact va_S.rf
  refine lv_aload_n hx hb dX6_howManyTurned_0 rfl (lv_at hl 0 rfl) ?_
  refine lv_iload_n hx hb dX6_howManyTurned_1 rfl (lv_at hl 1 rfl) ?_
  refine lv_iload_n hx hb dX6_howManyTurned_2 rfl (lv_at hl 2 rfl) ?_
  obtain ⟨r1, hr1, hf⟩ := wb_b hf
  have hPc := hP
  have hDc := hD
  have hFc := wj_F hDc hS hA
  refine va_calli (va_runV (As := [.int x1, .int x2]) (rest := []) ⟨hx, hb, hml, hown, hts⟩ (cn_X6_setPlaces l D cB cI cZ N a0 I0 M0 x1 x2 H.size r1 hr1) (cwV 2 hts gX6_howManyTurned_X6_setPlaces rfl rfl rfl cdX6_setPlaces ⟨Nat.le_of_ble_eq_true rfl, Nat.le_of_ble_eq_true rfl⟩) (wb_preDV hPc hK hDc (wr_6 hK hP (q0 := 0) rfl)) rfl rfl hl.1 rfl (lv_room (Nat.le_of_ble_eq_true rfl)) dX6_howManyTurned_3 ⟨Nat.le_of_ble_eq_true rfl, Nat.le_of_ble_eq_true rfl⟩) hS (fun q _ h => hFc q h) hFc (fun r9 u t H locs ht hvm hw hB hz1 hk1 hS => ?_)
  obtain ⟨hP, hD⟩ := wj_0 hFc ht hB
  rw [hw]
  obtain ⟨v2, ev2, hf⟩ := wb_v hf
  refine wb_topi ev2 ?_
  refine lv_istore_n (lv' := [(3, .int v2), (0, .ref (a0 0)), (1, .int x1), (2, .int x2)]) hx hb dX6_howManyTurned_6 rfl hl (by decide) rfl (fun ls hl => ?_)
  refine lv_iconst (v := (0 : Int32)) hx hb dX6_howManyTurned_7 (by decide) ?_
  refine lv_istore (lv' := [(4, .int (0 : Int32)), (3, .int v2), (0, .ref (a0 0)), (1, .int x1), (2, .int x2)]) hx hb dX6_howManyTurned_8 hl (by decide) rfl (fun ls hl => ?_)
  refine lv_iconst (v := (0 : Int32)) hx hb dX6_howManyTurned_10 (by decide) ?_
  refine lv_istore (lv' := [(5, .int (0 : Int32)), (4, .int (0 : Int32)), (3, .int v2), (0, .ref (a0 0)), (1, .int x1), (2, .int x2)]) hx hb dX6_howManyTurned_11 hl (by decide) rfl (fun ls hl => ?_)
  have L13 : ∀ (fu13 : Nat) (I0_l13 : Nat → Int32) (M0_l13 : Nat → Nat → Int32) (y13_4 : Int32) (y13_5 : Int32) (H : Heap) (locs : List Loc), va_P D vwCl (wWX6 cB cI cZ a0 I0_l13 M0_l13) H → va_D A (wWX6 cB cI cZ a0 I0_l13 M0_l13) → va_S A s.heap H locs → ∀ (ls : Array Slot), lv_has ls 7 [(0, .ref (a0 0)), (3, .int v2), (4, .int y13_4), (5, .int y13_5)] → fX6_howManyTurned_L13 N x1 x2 v2 fu13 I0_l13 M0_l13 y13_4 y13_5 = some R → W p l e (headSpec wsX6_howManyTurned { frames := 2, cells := 0, slots := 0, locals := 48 }).room s m [.ref (a0 0), .int x1, .int x2].toArray below meth c H locs 0 0 (MQ below (va_Qi (fun r (_ : Unit) => r = R.1) (fun _ t => wb_post D [(cB, .byte), (cI, .int), (cZ, .boolean)] A (wWX6 cB cI cZ a0 R.2.1 R.2.2) t) A) [.ref (a0 0), .int x1, .int x2].toArray s 0 0 A) (F0 m 13 ls []) := by
    intro fu13
    induction fu13 with
    | zero =>
      intro I0_l13 M0_l13 y13_4 y13_5 H locs hP hD hS ls hl hf
      exact absurd hf (by rw [fX6_howManyTurned_L13.eq_1]; exact fun h => nomatch h)
    | succ fu13 ih13 =>
      intro I0_l13 M0_l13 y13_4 y13_5 H locs hP hD hS ls hl hf
      rw [fX6_howManyTurned_L13.eq_2] at hf
      refine lv_iload hx hb dX6_howManyTurned_13 (lv_at hl 3 rfl) ?_
      refine lv_iload_n hx hb dX6_howManyTurned_15 rfl (lv_at hl 1 rfl) ?_
      refine lv_icmp_ge (tgt := 61) hx hb dX6_howManyTurned_16 (by decide) (fun hc => ?_) (fun hc => ?_)
      · replace hf := wb_t hc hf
        refine lv_iload hx hb dX6_howManyTurned_61 (lv_at hl 2 rfl) ?_
        exact W.iret (v := y13_4) hx hb hr (fun t ht hW => by rw [← Option.some.inj hf]; exact ⟨⟨y13_4, (), rfl, rfl, by rw [ht]; exact hP, va_K.moved hW.alike hK, hD⟩, hS.F ht⟩) hS.2.2 dX6_howManyTurned_63
      · replace hf := wb_f hc hf
        refine lv_iconst (v := (0 : Int32)) hx hb dX6_howManyTurned_19 (by decide) ?_
        refine lv_istore (lv' := [(6, .int (0 : Int32)), (0, .ref (a0 0)), (3, .int v2), (4, .int y13_4), (5, .int y13_5)]) hx hb dX6_howManyTurned_20 hl (by decide) rfl (fun ls hl => ?_)
        have L22 : ∀ (fu22 : Nat) (I0_l22 : Nat → Int32) (M0_l22 : Nat → Nat → Int32) (y22_4 : Int32) (y22_6 : Int32) (H : Heap) (locs : List Loc), va_P D vwCl (wWX6 cB cI cZ a0 I0_l22 M0_l22) H → va_D A (wWX6 cB cI cZ a0 I0_l22 M0_l22) → va_S A s.heap H locs → ∀ (ls : Array Slot), lv_has ls 7 [(0, .ref (a0 0)), (3, .int v2), (4, .int y22_4), (5, .int y13_5), (6, .int y22_6)] → fX6_howManyTurned_L22 N x1 x2 v2 y13_5 (fX6_howManyTurned_L13 N x1 x2 v2 fu13) fu22 I0_l22 M0_l22 y22_4 y22_6 = some R → W p l e (headSpec wsX6_howManyTurned { frames := 2, cells := 0, slots := 0, locals := 48 }).room s m [.ref (a0 0), .int x1, .int x2].toArray below meth c H locs 0 0 (MQ below (va_Qi (fun r (_ : Unit) => r = R.1) (fun _ t => wb_post D [(cB, .byte), (cI, .int), (cZ, .boolean)] A (wWX6 cB cI cZ a0 R.2.1 R.2.2) t) A) [.ref (a0 0), .int x1, .int x2].toArray s 0 0 A) (F0 m 22 ls []) := by
          intro fu22
          induction fu22 with
          | zero =>
            intro I0_l22 M0_l22 y22_4 y22_6 H locs hP hD hS ls hl hf
            exact absurd hf (by rw [fX6_howManyTurned_L22.eq_1]; exact fun h => nomatch h)
          | succ fu22 ih22 =>
            intro I0_l22 M0_l22 y22_4 y22_6 H locs hP hD hS ls hl hf
            rw [fX6_howManyTurned_L22.eq_2] at hf
            refine lv_iload hx hb dX6_howManyTurned_22 (lv_at hl 4 rfl) ?_
            refine lv_iload hx hb dX6_howManyTurned_24 (lv_at hl 3 rfl) ?_
            refine lv_icmp_ge (tgt := 55) hx hb dX6_howManyTurned_26 (by decide) (fun hc => ?_) (fun hc => ?_)
            · replace hf := wb_t hc hf
              obtain ⟨v3, ev3, hf⟩ := wb_v hf
              refine lv_iinc (v := v3) (lv' := [(5, .int v3), (0, .ref (a0 0)), (3, .int v2), (4, .int y22_4), (6, .int y22_6)]) hx hb dX6_howManyTurned_55 hl (k := 3) rfl (by rw [ev3]; rfl) (by decide) rfl (fun ls hl => ?_)
              refine lv_goto (tgt := 13) hx hb dX6_howManyTurned_58 (by decide) ?_
              exact ih13 I0_l22 M0_l22 y22_4 v3 H locs hP hD hS ls (lv_sub hl [1, 2, 3, 0] rfl) hf
            · replace hf := wb_f hc hf
              refine lv_aload_n hx hb dX6_howManyTurned_29 rfl (lv_at hl 0 rfl) ?_
              refine va_get (D := D) (ci := 6) (v := .ref (a0 3)) (C := RX6) (T := TX6) (N := 4) hx hb hts hinX6 hown hK hP 0 rfl rfl 2 (by decide) (hts (.fieldLink RX6 18 "WheelBook$Leaves" "places" "[I") (List.mem_of_getElem? (i := 1) rfl)) (fun _ h9 => h9) rfl dX6_howManyTurned_30 ?_
              refine lv_iload hx hb dX6_howManyTurned_33 (lv_at hl 4 rfl) ?_
              obtain ⟨hin, hf⟩ := wb_n hf
              refine va_iald hx hb hK hP 3 1 rfl rfl hin dX6_howManyTurned_35 ?_
              refine lv_aload_n hx hb dX6_howManyTurned_36 rfl (lv_at hl 0 rfl) ?_
              refine va_get (D := D) (ci := 6) (v := .ref (a0 3)) (C := RX6) (T := TX6) (N := 4) hx hb hts hinX6 hown hK hP 0 rfl rfl 2 (by decide) (hts (.fieldLink RX6 18 "WheelBook$Leaves" "places" "[I") (List.mem_of_getElem? (i := 1) rfl)) (fun _ h9 => h9) rfl dX6_howManyTurned_37 ?_
              refine lv_iload hx hb dX6_howManyTurned_40 (lv_at hl 3 rfl) ?_
              obtain ⟨hin, hf⟩ := wb_n hf
              refine va_iald hx hb hK hP 3 1 rfl rfl hin dX6_howManyTurned_42 ?_
              refine lv_icmp_le (tgt := 49) hx hb dX6_howManyTurned_43 (by decide) (fun hc => ?_) (fun hc => ?_)
              · replace hf := wb_t hc hf
                obtain ⟨v4, ev4, hf⟩ := wb_v hf
                refine lv_iinc (v := v4) (lv' := [(6, .int v4), (0, .ref (a0 0)), (3, .int v2), (4, .int y22_4), (5, .int y13_5)]) hx hb dX6_howManyTurned_49 hl (k := 4) rfl (by rw [ev4]; rfl) (by decide) rfl (fun ls hl => ?_)
                refine lv_goto (tgt := 22) hx hb dX6_howManyTurned_52 (by decide) ?_
                exact ih22 I0_l22 M0_l22 y22_4 v4 H locs hP hD hS ls (lv_sub hl [1, 2, 3, 4, 0] rfl) hf
              · replace hf := wb_f hc hf
                obtain ⟨v5, ev5, hf⟩ := wb_v hf
                refine lv_iinc (v := v5) (lv' := [(4, .int v5), (0, .ref (a0 0)), (3, .int v2), (5, .int y13_5), (6, .int y22_6)]) hx hb dX6_howManyTurned_46 hl (k := 2) rfl (by rw [ev5]; rfl) (by decide) rfl (fun ls hl => ?_)
                obtain ⟨v6, ev6, hf⟩ := wb_v hf
                refine lv_iinc (v := v6) (lv' := [(6, .int v6), (4, .int v5), (0, .ref (a0 0)), (3, .int v2), (5, .int y13_5)]) hx hb dX6_howManyTurned_49 hl (k := 4) rfl (by rw [ev6]; rfl) (by decide) rfl (fun ls hl => ?_)
                refine lv_goto (tgt := 22) hx hb dX6_howManyTurned_52 (by decide) ?_
                exact ih22 I0_l22 M0_l22 v5 v6 H locs hP hD hS ls (lv_sub hl [2, 3, 1, 4, 0] rfl) hf
        exact L22 N I0_l13 M0_l13 y13_4 (0 : Int32) H locs hP hD hS ls (lv_sub hl [1, 2, 3, 4, 0] rfl) hf
  exact L13 N r1.2.1 r1.2.2 (0 : Int32) (0 : Int32) H locs hP hD hS ls (lv_sub hl [3, 2, 1, 0] rfl) hf

set_option maxHeartbeats 4000000 in
set_option maxRecDepth 100000 in
theorem cn_X7_tellLife (l : Launch) (D : va_G) (cB cI cZ : ClassId) (N : Nat) (a0 : Nat → Nat) (I0 : Nat → Int32) (M0 : Nat → Nat → Int32) (x1 : Int32) (x2 : Int32) (x3 : Int32) (sz : Nat) (R : (Nat → Int32) × (Nat → Nat → Int32)) (hf : fX7_tellLife N I0 M0 x1 x2 x3 = some R) : Met l yX7_tellLife wsX7_tellLife ({ frames := 0, cells := 0, slots := 0, locals := 0 }) (va_Pc [.ref (a0 0), .int x1, .int x2, .int x3] (wb_preD D [(cB, .byte), (cI, .int), (cZ, .boolean)] (wWX7 cB cI cZ a0 I0 M0) sz)) (va_Qv (fun _ : Unit => True) (fun _ t => wb_post D [(cB, .byte), (cI, .int), (cZ, .boolean)] (va_A (wWX7 cB cI cZ a0 I0 M0) sz) (wWX7 cB cI cZ a0 R.1 R.2) t) (va_A (wWX7 cB cI cZ a0 I0 M0) sz)) 0 0 (va_A (wWX7 cB cI cZ a0 I0 M0) sz) := by
  refine Met.ofW (cc := cX7_tellLife) (maxL := 4) (ret := none) pn_X7 rfl ?_
  intro p e s m args below meth c s₁ B hml hv
  obtain ⟨rfl, hsz, hP, hK, hD0⟩ := hv
  have hx := B.exec
  have hb := B.bytes
  have hr := B.returns
  have hts := atoms_spec (ws := wsX7_tellLife) B.pre
  have hown : s.vm.findClass RX7 = some m.cls := (findClass_of_methodNamed B.named :)
  have hlocks := B.notSynchronized
  have hinX7 : ∀ w ∈ u_ws RX7 TX7 6, w ∈ wsX7_tellLife := fun w h => List.mem_cons_of_mem _ (List.mem_append_right _ h)
  subst hsz
  have hD := hD0.self (sz := s.heap.size)
  generalize hAe : va_A (wWX7 cB cI cZ a0 I0 M0) s.heap.size = A at hD ⊢
  have hA : ∀ q : Nat, s.heap.size ≤ q → A q := fun q h => by rw [← hAe]; exact Or.inr h
  have hS : va_S A s.heap s.heap [] := va_S.rf
  have hl := lv_entry ([.ref (a0 0), .int x1, .int x2, .int x3]) (n := 4) (Nat.le_of_ble_eq_true rfl)
  rw [lg_entry_eq]
  generalize (lg_sl ([.ref (a0 0), .int x1, .int x2, .int x3]) ++ List.replicate (4 - (lg_sl ([.ref (a0 0), .int x1, .int x2, .int x3])).length) Slot.unset).toArray = ls at hl ⊢
  have hl : lv_has ls 4 [(0, .ref (a0 0)), (1, .int x1), (2, .int x2), (3, .int x3)] := hl
  unfold fX7_tellLife at hf
  obtain ⟨H, hHe⟩ : ∃ H : Heap, H = s.heap := ⟨_, rfl⟩
  obtain ⟨locs, hle⟩ : ∃ locs : List Loc, locs = [] := ⟨_, rfl⟩
  refine wb_start (H := H) (locs := locs) hHe hle ?_
  rw [← hHe] at hP
  have hS : va_S A s.heap H locs := by rw [hHe, hle]; exact va_S.rf
  refine lv_aload_n hx hb dX7_tellLife_0 rfl (lv_at hl 0 rfl) ?_
  refine va_get (D := D) (ci := 7) (v := .ref (a0 1)) (C := RX7) (T := TX7) (N := 6) hx hb hts hinX7 hown hK hP 0 rfl rfl 0 (by decide) (hts (.fieldLink RX7 9 "WheelBook$Outcomes" "foretold" "[I") (List.mem_of_getElem? (i := 1) rfl)) (fun _ h9 => h9) rfl dX7_tellLife_1 ?_
  refine lv_iload_n hx hb dX7_tellLife_4 rfl (lv_at hl 1 rfl) ?_
  refine lv_iload_n hx hb dX7_tellLife_5 rfl (lv_at hl 2 rfl) ?_
  obtain ⟨hin, hf⟩ := wb_n hf
  refine va_iast hx hb hK hP hD hS 1 1 rfl rfl hin dX7_tellLife_6 (fun H locs hP hD hS => ?_)
  have hP : va_P D vwCl (wWX7 cB cI cZ a0 I0 (wb_um M0 0 (x1).toNatClampNeg x2)) H := hP
  have hD : va_D A (wWX7 cB cI cZ a0 I0 (wb_um M0 0 (x1).toNatClampNeg x2)) := hD
  obtain ⟨M0_1, eM0_1, hf⟩ := wb_v hf
  rw [← eM0_1] at hP hD
  refine lv_aload_n hx hb dX7_tellLife_7 rfl (lv_at hl 0 rfl) ?_
  refine va_get (D := D) (ci := 7) (v := .ref (a0 2)) (C := RX7) (T := TX7) (N := 6) hx hb hts hinX7 hown hK hP 0 rfl rfl 1 (by decide) (hts (.fieldLink RX7 15 "WheelBook$Outcomes" "came" "[I") (List.mem_of_getElem? (i := 2) rfl)) (fun _ h9 => h9) rfl dX7_tellLife_8 ?_
  refine lv_iload_n hx hb dX7_tellLife_11 rfl (lv_at hl 1 rfl) ?_
  refine lv_iload_n hx hb dX7_tellLife_12 rfl (lv_at hl 3 rfl) ?_
  obtain ⟨hin, hf⟩ := wb_n hf
  refine va_iast hx hb hK hP hD hS 2 1 rfl rfl hin dX7_tellLife_13 (fun H locs hP hD hS => ?_)
  have hP : va_P D vwCl (wWX7 cB cI cZ a0 I0 (wb_um M0_1 1 (x1).toNatClampNeg x3)) H := hP
  have hD : va_D A (wWX7 cB cI cZ a0 I0 (wb_um M0_1 1 (x1).toNatClampNeg x3)) := hD
  obtain ⟨M0_2, eM0_2, hf⟩ := wb_v hf
  rw [← eM0_2] at hP hD
  exact W.vret hx hb hr (fun t ht hW => by rw [← Option.some.inj hf]; exact ⟨⟨(), rfl, trivial, by rw [ht]; exact hP, va_K.moved hW.alike hK, hD⟩, hS.F ht⟩) hS.2.2 dX7_tellLife_14

set_option maxHeartbeats 4000000 in
set_option maxRecDepth 100000 in
theorem cn_X7_tellFate (l : Launch) (D : va_G) (cB cI cZ : ClassId) (N : Nat) (a0 : Nat → Nat) (I0 : Nat → Int32) (M0 : Nat → Nat → Int32) (x1 : Int32) (x2 : Int32) (sz : Nat) (R : (Nat → Int32) × (Nat → Nat → Int32)) (hf : fX7_tellFate N I0 M0 x1 x2 = some R) : Met l yX7_tellFate wsX7_tellFate ({ frames := 0, cells := 0, slots := 0, locals := 0 }) (va_Pc [.ref (a0 0), .int x1, .int x2] (wb_preD D [(cB, .byte), (cI, .int), (cZ, .boolean)] (wWX7 cB cI cZ a0 I0 M0) sz)) (va_Qv (fun _ : Unit => True) (fun _ t => wb_post D [(cB, .byte), (cI, .int), (cZ, .boolean)] (va_A (wWX7 cB cI cZ a0 I0 M0) sz) (wWX7 cB cI cZ a0 R.1 R.2) t) (va_A (wWX7 cB cI cZ a0 I0 M0) sz)) 0 0 (va_A (wWX7 cB cI cZ a0 I0 M0) sz) := by
  refine Met.ofW (cc := cX7_tellFate) (maxL := 3) (ret := none) pn_X7 rfl ?_
  intro p e s m args below meth c s₁ B hml hv
  obtain ⟨rfl, hsz, hP, hK, hD0⟩ := hv
  have hx := B.exec
  have hb := B.bytes
  have hr := B.returns
  have hts := atoms_spec (ws := wsX7_tellFate) B.pre
  have hown : s.vm.findClass RX7 = some m.cls := (findClass_of_methodNamed B.named :)
  have hlocks := B.notSynchronized
  have hinX7 : ∀ w ∈ u_ws RX7 TX7 6, w ∈ wsX7_tellFate := fun w h => List.mem_cons_of_mem _ (List.mem_append_right _ h)
  subst hsz
  have hD := hD0.self (sz := s.heap.size)
  generalize hAe : va_A (wWX7 cB cI cZ a0 I0 M0) s.heap.size = A at hD ⊢
  have hA : ∀ q : Nat, s.heap.size ≤ q → A q := fun q h => by rw [← hAe]; exact Or.inr h
  have hS : va_S A s.heap s.heap [] := va_S.rf
  have hl := lv_entry ([.ref (a0 0), .int x1, .int x2]) (n := 3) (Nat.le_of_ble_eq_true rfl)
  rw [lg_entry_eq]
  generalize (lg_sl ([.ref (a0 0), .int x1, .int x2]) ++ List.replicate (3 - (lg_sl ([.ref (a0 0), .int x1, .int x2])).length) Slot.unset).toArray = ls at hl ⊢
  have hl : lv_has ls 3 [(0, .ref (a0 0)), (1, .int x1), (2, .int x2)] := hl
  unfold fX7_tellFate at hf
  obtain ⟨H, hHe⟩ : ∃ H : Heap, H = s.heap := ⟨_, rfl⟩
  obtain ⟨locs, hle⟩ : ∃ locs : List Loc, locs = [] := ⟨_, rfl⟩
  refine wb_start (H := H) (locs := locs) hHe hle ?_
  rw [← hHe] at hP
  have hS : va_S A s.heap H locs := by rw [hHe, hle]; exact va_S.rf
  refine lv_aload_n hx hb dX7_tellFate_0 rfl (lv_at hl 0 rfl) ?_
  refine va_get (D := D) (ci := 7) (v := .ref (a0 3)) (C := RX7) (T := TX7) (N := 6) hx hb hts hinX7 hown hK hP 0 rfl rfl 2 (by decide) (hts (.fieldLink RX7 18 "WheelBook$Outcomes" "houses" "[I") (List.mem_of_getElem? (i := 1) rfl)) (fun _ h9 => h9) rfl dX7_tellFate_1 ?_
  refine lv_iload_n hx hb dX7_tellFate_4 rfl (lv_at hl 1 rfl) ?_
  refine lv_iload_n hx hb dX7_tellFate_5 rfl (lv_at hl 2 rfl) ?_
  obtain ⟨hin, hf⟩ := wb_n hf
  refine va_iast hx hb hK hP hD hS 3 1 rfl rfl hin dX7_tellFate_6 (fun H locs hP hD hS => ?_)
  have hP : va_P D vwCl (wWX7 cB cI cZ a0 I0 (wb_um M0 2 (x1).toNatClampNeg x2)) H := hP
  have hD : va_D A (wWX7 cB cI cZ a0 I0 (wb_um M0 2 (x1).toNatClampNeg x2)) := hD
  obtain ⟨M0_1, eM0_1, hf⟩ := wb_v hf
  rw [← eM0_1] at hP hD
  exact W.vret hx hb hr (fun t ht hW => by rw [← Option.some.inj hf]; exact ⟨⟨(), rfl, trivial, by rw [ht]; exact hP, va_K.moved hW.alike hK, hD⟩, hS.F ht⟩) hS.2.2 dX7_tellFate_7

set_option maxHeartbeats 4000000 in
set_option maxRecDepth 100000 in
theorem cn_X7_setRows (l : Launch) (D : va_G) (cB cI cZ : ClassId) (N : Nat) (a0 : Nat → Nat) (I0 : Nat → Int32) (M0 : Nat → Nat → Int32) (b1 : Nat) (n1 : Nat) (f1 : Nat → Int32) (sz : Nat) (R : Int32 × (Nat → Int32) × (Nat → Nat → Int32)) (hf : fX7_setRows N I0 M0 n1 f1 = some R) : Met l yX7_setRows wsX7_setRows ({ frames := 0, cells := 0, slots := 0, locals := 0 }) (va_Pc [.ref (a0 0), .ref b1] (wb_preD D [(cB, .byte), (cI, .int), (cZ, .boolean)] ((wWX7 cB cI cZ a0 I0 M0) ++ [((b1, .inl (cI, n1, .inl f1)) : Nat × va_E)]) sz)) (va_Qi (fun r (_ : Unit) => r = R.1) (fun _ t => wb_post D [(cB, .byte), (cI, .int), (cZ, .boolean)] (va_A ((wWX7 cB cI cZ a0 I0 M0) ++ [((b1, .inl (cI, n1, .inl f1)) : Nat × va_E)]) sz) ((wWX7 cB cI cZ a0 R.2.1 R.2.2) ++ [((b1, .inl (cI, n1, .inl f1)) : Nat × va_E)]) t) (va_A ((wWX7 cB cI cZ a0 I0 M0) ++ [((b1, .inl (cI, n1, .inl f1)) : Nat × va_E)]) sz)) 0 0 (va_A ((wWX7 cB cI cZ a0 I0 M0) ++ [((b1, .inl (cI, n1, .inl f1)) : Nat × va_E)]) sz) := by
  refine Met.ofW (cc := cX7_setRows) (maxL := 4) (ret := (some .int)) pn_X7 rfl ?_
  intro p e s m args below meth c s₁ B hml hv
  obtain ⟨rfl, hsz, hP, hK, hD0⟩ := hv
  have hx := B.exec
  have hb := B.bytes
  have hr := B.returns
  have hts := atoms_spec (ws := wsX7_setRows) B.pre
  have hown : s.vm.findClass RX7 = some m.cls := (findClass_of_methodNamed B.named :)
  have hlocks := B.notSynchronized
  have hinX7 : ∀ w ∈ u_ws RX7 TX7 6, w ∈ wsX7_setRows := fun w h => List.mem_cons_of_mem _ (List.mem_append_right _ h)
  subst hsz
  have hD := hD0.self (sz := s.heap.size)
  generalize hAe : va_A ((wWX7 cB cI cZ a0 I0 M0) ++ [((b1, .inl (cI, n1, .inl f1)) : Nat × va_E)]) s.heap.size = A at hD ⊢
  have hA : ∀ q : Nat, s.heap.size ≤ q → A q := fun q h => by rw [← hAe]; exact Or.inr h
  have hS : va_S A s.heap s.heap [] := va_S.rf
  have hl := lv_entry ([.ref (a0 0), .ref b1]) (n := 4) (Nat.le_of_ble_eq_true rfl)
  rw [lg_entry_eq]
  generalize (lg_sl ([.ref (a0 0), .ref b1]) ++ List.replicate (4 - (lg_sl ([.ref (a0 0), .ref b1])).length) Slot.unset).toArray = ls at hl ⊢
  have hl : lv_has ls 4 [(0, .ref (a0 0)), (1, .ref b1)] := hl
  unfold fX7_setRows at hf
  obtain ⟨H, hHe⟩ : ∃ H : Heap, H = s.heap := ⟨_, rfl⟩
  obtain ⟨locs, hle⟩ : ∃ locs : List Loc, locs = [] := ⟨_, rfl⟩
  refine wb_start (H := H) (locs := locs) hHe hle ?_
  rw [← hHe] at hP
  have hS : va_S A s.heap H locs := by rw [hHe, hle]; exact va_S.rf
  refine lv_iconst (v := (0 : Int32)) hx hb dX7_setRows_0 (by decide) ?_
  refine lv_istore_n (lv' := [(2, .int (0 : Int32)), (0, .ref (a0 0)), (1, .ref b1)]) hx hb dX7_setRows_1 rfl hl (by decide) rfl (fun ls hl => ?_)
  refine lv_iconst (v := (0 : Int32)) hx hb dX7_setRows_2 (by decide) ?_
  refine lv_istore_n (lv' := [(3, .int (0 : Int32)), (2, .int (0 : Int32)), (0, .ref (a0 0)), (1, .ref b1)]) hx hb dX7_setRows_3 rfl hl (by decide) rfl (fun ls hl => ?_)
  have L4 : ∀ (fu4 : Nat) (I0_l4 : Nat → Int32) (M0_l4 : Nat → Nat → Int32) (y4_2 : Int32) (y4_3 : Int32) (H : Heap) (locs : List Loc), va_P D vwCl ((wWX7 cB cI cZ a0 I0_l4 M0_l4) ++ [((b1, .inl (cI, n1, .inl f1)) : Nat × va_E)]) H → va_D A ((wWX7 cB cI cZ a0 I0_l4 M0_l4) ++ [((b1, .inl (cI, n1, .inl f1)) : Nat × va_E)]) → va_S A s.heap H locs → ∀ (ls : Array Slot), lv_has ls 4 [(0, .ref (a0 0)), (1, .ref b1), (2, .int y4_2), (3, .int y4_3)] → fX7_setRows_L4 N n1 f1 fu4 I0_l4 M0_l4 y4_2 y4_3 = some R → W p l e (headSpec wsX7_setRows { frames := 0, cells := 0, slots := 0, locals := 0 }).room s m [.ref (a0 0), .ref b1].toArray below meth c H locs 0 0 (MQ below (va_Qi (fun r (_ : Unit) => r = R.1) (fun _ t => wb_post D [(cB, .byte), (cI, .int), (cZ, .boolean)] A ((wWX7 cB cI cZ a0 R.2.1 R.2.2) ++ [((b1, .inl (cI, n1, .inl f1)) : Nat × va_E)]) t) A) [.ref (a0 0), .ref b1].toArray s 0 0 A) (F0 m 4 ls []) := by
    intro fu4
    induction fu4 with
    | zero =>
      intro I0_l4 M0_l4 y4_2 y4_3 H locs hP hD hS ls hl hf
      exact absurd hf (by rw [fX7_setRows_L4.eq_1]; exact fun h => nomatch h)
    | succ fu4 ih4 =>
      intro I0_l4 M0_l4 y4_2 y4_3 H locs hP hD hS ls hl hf
      rw [fX7_setRows_L4.eq_2] at hf
      refine lv_iload_n hx hb dX7_setRows_4 rfl (lv_at hl 3 rfl) ?_
      refine lv_bipush (v := (20 : Int32)) hx hb dX7_setRows_5 (by decide) ?_
      refine lv_icmp_ge (tgt := 33) hx hb dX7_setRows_7 (by decide) (fun hc => ?_) (fun hc => ?_)
      · replace hf := wb_t hc hf
        refine lv_iload_n hx hb dX7_setRows_33 rfl (lv_at hl 2 rfl) ?_
        exact W.iret (v := y4_2) hx hb hr (fun t ht hW => by rw [← Option.some.inj hf]; exact ⟨⟨y4_2, (), rfl, rfl, by rw [ht]; exact hP, va_K.moved hW.alike hK, hD⟩, hS.F ht⟩) hS.2.2 dX7_setRows_34
      · replace hf := wb_f hc hf
        refine lv_aload_n hx hb dX7_setRows_10 rfl (lv_at hl 1 rfl) ?_
        refine lv_iload_n hx hb dX7_setRows_11 rfl (lv_at hl 3 rfl) ?_
        obtain ⟨hin, hf⟩ := wb_n hf
        refine va_iald hx hb hK hP 7 1 rfl rfl hin dX7_setRows_12 ?_
        refine lv_iconst (v := (-1 : Int32)) hx hb dX7_setRows_13 (by decide) ?_
        refine lv_icmp_eq (tgt := 27) hx hb dX7_setRows_14 (by decide) (fun hc => ?_) (fun hc => ?_)
        · replace hf := wb_t hc hf
          obtain ⟨v1, ev1, hf⟩ := wb_v hf
          refine lv_iinc (v := v1) (lv' := [(3, .int v1), (0, .ref (a0 0)), (1, .ref b1), (2, .int y4_2)]) hx hb dX7_setRows_27 hl (k := 3) rfl (by rw [ev1]; rfl) (by decide) rfl (fun ls hl => ?_)
          refine lv_goto (tgt := 4) hx hb dX7_setRows_30 (by decide) ?_
          exact ih4 I0_l4 M0_l4 y4_2 v1 H locs hP hD hS ls (lv_sub hl [1, 2, 3, 0] rfl) hf
        · replace hf := wb_f hc hf
          refine lv_aload_n hx hb dX7_setRows_17 rfl (lv_at hl 0 rfl) ?_
          refine va_get (D := D) (ci := 7) (v := .ref (a0 4)) (C := RX7) (T := TX7) (N := 6) hx hb hts hinX7 hown hK hP 0 rfl rfl 3 (by decide) (hts (.fieldLink RX7 21 "WheelBook$Outcomes" "rows" "[I") (List.mem_of_getElem? (i := 1) rfl)) (fun _ h9 => h9) rfl dX7_setRows_18 ?_
          refine lv_iload_n hx hb dX7_setRows_21 rfl (lv_at hl 2 rfl) ?_
          refine lv_iload_n hx hb dX7_setRows_22 rfl (lv_at hl 3 rfl) ?_
          obtain ⟨hin, hf⟩ := wb_n hf
          refine va_iast hx hb hK hP hD hS 4 1 rfl rfl hin dX7_setRows_23 (fun H locs hP hD hS => ?_)
          have hP : va_P D vwCl ((wWX7 cB cI cZ a0 I0_l4 (wb_um M0_l4 3 (y4_2).toNatClampNeg y4_3)) ++ [((b1, .inl (cI, n1, .inl f1)) : Nat × va_E)]) H := hP
          have hD : va_D A ((wWX7 cB cI cZ a0 I0_l4 (wb_um M0_l4 3 (y4_2).toNatClampNeg y4_3)) ++ [((b1, .inl (cI, n1, .inl f1)) : Nat × va_E)]) := hD
          obtain ⟨M0_2, eM0_2, hf⟩ := wb_v hf
          rw [← eM0_2] at hP hD
          obtain ⟨v3, ev3, hf⟩ := wb_v hf
          refine lv_iinc (v := v3) (lv' := [(2, .int v3), (0, .ref (a0 0)), (1, .ref b1), (3, .int y4_3)]) hx hb dX7_setRows_24 hl (k := 2) rfl (by rw [ev3]; rfl) (by decide) rfl (fun ls hl => ?_)
          obtain ⟨v4, ev4, hf⟩ := wb_v hf
          refine lv_iinc (v := v4) (lv' := [(3, .int v4), (2, .int v3), (0, .ref (a0 0)), (1, .ref b1)]) hx hb dX7_setRows_27 hl (k := 3) rfl (by rw [ev4]; rfl) (by decide) rfl (fun ls hl => ?_)
          refine lv_goto (tgt := 4) hx hb dX7_setRows_30 (by decide) ?_
          exact ih4 I0_l4 M0_2 v3 v4 H locs hP hD hS ls (lv_sub hl [2, 3, 1, 0] rfl) hf
  exact L4 N I0 M0 (0 : Int32) (0 : Int32) H locs hP hD hS ls (lv_sub hl [2, 3, 1, 0] rfl) hf

set_option maxHeartbeats 4000000 in
set_option maxRecDepth 100000 in
theorem cn_X7_setRows_11 (l : Launch) (D : va_G) (cB cI cZ : ClassId) (N : Nat) (a0 : Nat → Nat) (I0 : Nat → Int32) (M0 : Nat → Nat → Int32) (sz : Nat) (R : Int32 × (Nat → Int32) × (Nat → Nat → Int32)) (hf : fX7_setRows_11 N I0 M0 = some R) : Met l yX7_setRows wsX7_setRows ({ frames := 0, cells := 0, slots := 0, locals := 0 }) (va_Pc [.ref (a0 0), .ref (a0 1)] (wb_preD D [(cB, .byte), (cI, .int), (cZ, .boolean)] (wWX7 cB cI cZ a0 I0 M0) sz)) (va_Qi (fun r (_ : Unit) => r = R.1) (fun _ t => wb_post D [(cB, .byte), (cI, .int), (cZ, .boolean)] (va_A (wWX7 cB cI cZ a0 I0 M0) sz) (wWX7 cB cI cZ a0 R.2.1 R.2.2) t) (va_A (wWX7 cB cI cZ a0 I0 M0) sz)) 0 0 (va_A (wWX7 cB cI cZ a0 I0 M0) sz) := by
  refine Met.ofW (cc := cX7_setRows) (maxL := 4) (ret := (some .int)) pn_X7 rfl ?_
  intro p e s m args below meth c s₁ B hml hv
  obtain ⟨rfl, hsz, hP, hK, hD0⟩ := hv
  have hx := B.exec
  have hb := B.bytes
  have hr := B.returns
  have hts := atoms_spec (ws := wsX7_setRows) B.pre
  have hown : s.vm.findClass RX7 = some m.cls := (findClass_of_methodNamed B.named :)
  have hlocks := B.notSynchronized
  have hinX7 : ∀ w ∈ u_ws RX7 TX7 6, w ∈ wsX7_setRows := fun w h => List.mem_cons_of_mem _ (List.mem_append_right _ h)
  subst hsz
  have hD := hD0.self (sz := s.heap.size)
  generalize hAe : va_A (wWX7 cB cI cZ a0 I0 M0) s.heap.size = A at hD ⊢
  have hA : ∀ q : Nat, s.heap.size ≤ q → A q := fun q h => by rw [← hAe]; exact Or.inr h
  have hS : va_S A s.heap s.heap [] := va_S.rf
  have hl := lv_entry ([.ref (a0 0), .ref (a0 1)]) (n := 4) (Nat.le_of_ble_eq_true rfl)
  rw [lg_entry_eq]
  generalize (lg_sl ([.ref (a0 0), .ref (a0 1)]) ++ List.replicate (4 - (lg_sl ([.ref (a0 0), .ref (a0 1)])).length) Slot.unset).toArray = ls at hl ⊢
  have hl : lv_has ls 4 [(0, .ref (a0 0)), (1, .ref (a0 1))] := hl
  unfold fX7_setRows_11 at hf
  obtain ⟨H, hHe⟩ : ∃ H : Heap, H = s.heap := ⟨_, rfl⟩
  obtain ⟨locs, hle⟩ : ∃ locs : List Loc, locs = [] := ⟨_, rfl⟩
  refine wb_start (H := H) (locs := locs) hHe hle ?_
  rw [← hHe] at hP
  have hS : va_S A s.heap H locs := by rw [hHe, hle]; exact va_S.rf
  refine lv_iconst (v := (0 : Int32)) hx hb dX7_setRows_0 (by decide) ?_
  refine lv_istore_n (lv' := [(2, .int (0 : Int32)), (0, .ref (a0 0)), (1, .ref (a0 1))]) hx hb dX7_setRows_1 rfl hl (by decide) rfl (fun ls hl => ?_)
  refine lv_iconst (v := (0 : Int32)) hx hb dX7_setRows_2 (by decide) ?_
  refine lv_istore_n (lv' := [(3, .int (0 : Int32)), (2, .int (0 : Int32)), (0, .ref (a0 0)), (1, .ref (a0 1))]) hx hb dX7_setRows_3 rfl hl (by decide) rfl (fun ls hl => ?_)
  have L4 : ∀ (fu4 : Nat) (I0_l4 : Nat → Int32) (M0_l4 : Nat → Nat → Int32) (y4_2 : Int32) (y4_3 : Int32) (H : Heap) (locs : List Loc), va_P D vwCl (wWX7 cB cI cZ a0 I0_l4 M0_l4) H → va_D A (wWX7 cB cI cZ a0 I0_l4 M0_l4) → va_S A s.heap H locs → ∀ (ls : Array Slot), lv_has ls 4 [(0, .ref (a0 0)), (1, .ref (a0 1)), (2, .int y4_2), (3, .int y4_3)] → fX7_setRows_11_L4 N fu4 I0_l4 M0_l4 y4_2 y4_3 = some R → W p l e (headSpec wsX7_setRows { frames := 0, cells := 0, slots := 0, locals := 0 }).room s m [.ref (a0 0), .ref (a0 1)].toArray below meth c H locs 0 0 (MQ below (va_Qi (fun r (_ : Unit) => r = R.1) (fun _ t => wb_post D [(cB, .byte), (cI, .int), (cZ, .boolean)] A (wWX7 cB cI cZ a0 R.2.1 R.2.2) t) A) [.ref (a0 0), .ref (a0 1)].toArray s 0 0 A) (F0 m 4 ls []) := by
    intro fu4
    induction fu4 with
    | zero =>
      intro I0_l4 M0_l4 y4_2 y4_3 H locs hP hD hS ls hl hf
      exact absurd hf (by rw [fX7_setRows_11_L4.eq_1]; exact fun h => nomatch h)
    | succ fu4 ih4 =>
      intro I0_l4 M0_l4 y4_2 y4_3 H locs hP hD hS ls hl hf
      rw [fX7_setRows_11_L4.eq_2] at hf
      refine lv_iload_n hx hb dX7_setRows_4 rfl (lv_at hl 3 rfl) ?_
      refine lv_bipush (v := (20 : Int32)) hx hb dX7_setRows_5 (by decide) ?_
      refine lv_icmp_ge (tgt := 33) hx hb dX7_setRows_7 (by decide) (fun hc => ?_) (fun hc => ?_)
      · replace hf := wb_t hc hf
        refine lv_iload_n hx hb dX7_setRows_33 rfl (lv_at hl 2 rfl) ?_
        exact W.iret (v := y4_2) hx hb hr (fun t ht hW => by rw [← Option.some.inj hf]; exact ⟨⟨y4_2, (), rfl, rfl, by rw [ht]; exact hP, va_K.moved hW.alike hK, hD⟩, hS.F ht⟩) hS.2.2 dX7_setRows_34
      · replace hf := wb_f hc hf
        refine lv_aload_n hx hb dX7_setRows_10 rfl (lv_at hl 1 rfl) ?_
        refine lv_iload_n hx hb dX7_setRows_11 rfl (lv_at hl 3 rfl) ?_
        obtain ⟨hin, hf⟩ := wb_n hf
        refine va_iald hx hb hK hP 1 1 rfl rfl hin dX7_setRows_12 ?_
        refine lv_iconst (v := (-1 : Int32)) hx hb dX7_setRows_13 (by decide) ?_
        refine lv_icmp_eq (tgt := 27) hx hb dX7_setRows_14 (by decide) (fun hc => ?_) (fun hc => ?_)
        · replace hf := wb_t hc hf
          obtain ⟨v1, ev1, hf⟩ := wb_v hf
          refine lv_iinc (v := v1) (lv' := [(3, .int v1), (0, .ref (a0 0)), (1, .ref (a0 1)), (2, .int y4_2)]) hx hb dX7_setRows_27 hl (k := 3) rfl (by rw [ev1]; rfl) (by decide) rfl (fun ls hl => ?_)
          refine lv_goto (tgt := 4) hx hb dX7_setRows_30 (by decide) ?_
          exact ih4 I0_l4 M0_l4 y4_2 v1 H locs hP hD hS ls (lv_sub hl [1, 2, 3, 0] rfl) hf
        · replace hf := wb_f hc hf
          refine lv_aload_n hx hb dX7_setRows_17 rfl (lv_at hl 0 rfl) ?_
          refine va_get (D := D) (ci := 7) (v := .ref (a0 4)) (C := RX7) (T := TX7) (N := 6) hx hb hts hinX7 hown hK hP 0 rfl rfl 3 (by decide) (hts (.fieldLink RX7 21 "WheelBook$Outcomes" "rows" "[I") (List.mem_of_getElem? (i := 1) rfl)) (fun _ h9 => h9) rfl dX7_setRows_18 ?_
          refine lv_iload_n hx hb dX7_setRows_21 rfl (lv_at hl 2 rfl) ?_
          refine lv_iload_n hx hb dX7_setRows_22 rfl (lv_at hl 3 rfl) ?_
          obtain ⟨hin, hf⟩ := wb_n hf
          refine va_iast hx hb hK hP hD hS 4 1 rfl rfl hin dX7_setRows_23 (fun H locs hP hD hS => ?_)
          have hP : va_P D vwCl (wWX7 cB cI cZ a0 I0_l4 (wb_um M0_l4 3 (y4_2).toNatClampNeg y4_3)) H := hP
          have hD : va_D A (wWX7 cB cI cZ a0 I0_l4 (wb_um M0_l4 3 (y4_2).toNatClampNeg y4_3)) := hD
          obtain ⟨M0_2, eM0_2, hf⟩ := wb_v hf
          rw [← eM0_2] at hP hD
          obtain ⟨v3, ev3, hf⟩ := wb_v hf
          refine lv_iinc (v := v3) (lv' := [(2, .int v3), (0, .ref (a0 0)), (1, .ref (a0 1)), (3, .int y4_3)]) hx hb dX7_setRows_24 hl (k := 2) rfl (by rw [ev3]; rfl) (by decide) rfl (fun ls hl => ?_)
          obtain ⟨v4, ev4, hf⟩ := wb_v hf
          refine lv_iinc (v := v4) (lv' := [(3, .int v4), (2, .int v3), (0, .ref (a0 0)), (1, .ref (a0 1))]) hx hb dX7_setRows_27 hl (k := 3) rfl (by rw [ev4]; rfl) (by decide) rfl (fun ls hl => ?_)
          refine lv_goto (tgt := 4) hx hb dX7_setRows_30 (by decide) ?_
          exact ih4 I0_l4 M0_2 v3 v4 H locs hP hD hS ls (lv_sub hl [2, 3, 1, 0] rfl) hf
  exact L4 N I0 M0 (0 : Int32) (0 : Int32) H locs hP hD hS ls (lv_sub hl [2, 3, 1, 0] rfl) hf

set_option maxHeartbeats 4000000 in
set_option maxRecDepth 100000 in
theorem cn_X7_howManyLives (l : Launch) (D : va_G) (cB cI cZ : ClassId) (N : Nat) (a0 : Nat → Nat) (I0 : Nat → Int32) (M0 : Nat → Nat → Int32) (sz : Nat) (R : Int32 × (Nat → Int32) × (Nat → Nat → Int32)) (hf : fX7_howManyLives N I0 M0 = some R) : Met l yX7_howManyLives wsX7_howManyLives ({ frames := 1, cells := 0, slots := 0, locals := 23 }) (va_Pc [.ref (a0 0)] (wb_preD D [(cB, .byte), (cI, .int), (cZ, .boolean)] (wWX7 cB cI cZ a0 I0 M0) sz)) (va_Qi (fun r (_ : Unit) => r = R.1) (fun _ t => wb_post D [(cB, .byte), (cI, .int), (cZ, .boolean)] (va_A (wWX7 cB cI cZ a0 I0 M0) sz) (wWX7 cB cI cZ a0 R.2.1 R.2.2) t) (va_A (wWX7 cB cI cZ a0 I0 M0) sz)) 0 0 (va_A (wWX7 cB cI cZ a0 I0 M0) sz) := by
  refine Met.ofW (cc := cX7_howManyLives) (maxL := 1) (ret := (some .int)) pn_X7 rfl ?_
  intro p e s m args below meth c s₁ B hml hv
  obtain ⟨rfl, hsz, hP, hK, hD0⟩ := hv
  have hx := B.exec
  have hb := B.bytes
  have hr := B.returns
  have hts := atoms_spec (ws := wsX7_howManyLives) B.pre
  have hown : s.vm.findClass RX7 = some m.cls := (findClass_of_methodNamed B.named :)
  have hlocks := B.notSynchronized
  have hinX7 : ∀ w ∈ u_ws RX7 TX7 6, w ∈ wsX7_howManyLives := fun w h => List.mem_cons_of_mem _ (List.mem_append_right _ h)
  subst hsz
  have hD := hD0.self (sz := s.heap.size)
  generalize hAe : va_A (wWX7 cB cI cZ a0 I0 M0) s.heap.size = A at hD ⊢
  have hA : ∀ q : Nat, s.heap.size ≤ q → A q := fun q h => by rw [← hAe]; exact Or.inr h
  have hS : va_S A s.heap s.heap [] := va_S.rf
  have hl := lv_entry ([.ref (a0 0)]) (n := 1) (Nat.le_of_ble_eq_true rfl)
  rw [lg_entry_eq]
  generalize (lg_sl ([.ref (a0 0)]) ++ List.replicate (1 - (lg_sl ([.ref (a0 0)])).length) Slot.unset).toArray = ls at hl ⊢
  have hl : lv_has ls 1 [(0, .ref (a0 0))] := hl
  unfold fX7_howManyLives at hf
  obtain ⟨H, hHe⟩ : ∃ H : Heap, H = s.heap := ⟨_, rfl⟩
  obtain ⟨locs, hle⟩ : ∃ locs : List Loc, locs = [] := ⟨_, rfl⟩
  refine wb_start (H := H) (locs := locs) hHe hle ?_
  rw [← hHe] at hP
  have hS : va_S A s.heap H locs := by rw [hHe, hle]; exact va_S.rf
  refine lv_aload_n hx hb dX7_howManyLives_0 rfl (lv_at hl 0 rfl) ?_
  refine lv_aload_n hx hb dX7_howManyLives_1 rfl (lv_at hl 0 rfl) ?_
  refine va_get (D := D) (ci := 7) (v := .ref (a0 1)) (C := RX7) (T := TX7) (N := 6) hx hb hts hinX7 hown hK hP 0 rfl rfl 0 (by decide) (hts (.fieldLink RX7 9 "WheelBook$Outcomes" "foretold" "[I") (List.mem_of_getElem? (i := 1) rfl)) (fun _ h9 => h9) rfl dX7_howManyLives_2 ?_
  obtain ⟨r1, hr1, hf⟩ := wb_b hf
  have hPc := hP
  have hDc := hD
  have hFc := wj_F hDc hS hA
  refine va_calli (va_runV (As := [.ref (a0 1)]) (rest := []) ⟨hx, hb, hml, hown, hts⟩ (cn_X7_setRows_11 l D cB cI cZ N a0 I0 M0 H.size r1 hr1) (cwV 1 hts gX7_howManyLives_X7_setRows rfl rfl rfl cdX7_setRows ⟨Nat.le_of_ble_eq_true rfl, Nat.le_of_ble_eq_true rfl⟩) (wb_preDV hPc hK hDc (wr_7 hK hP (q0 := 0) rfl)) rfl rfl hl.1 rfl (lv_room (Nat.le_of_ble_eq_true rfl)) dX7_howManyLives_5 ⟨Nat.le_of_ble_eq_true rfl, Nat.le_of_ble_eq_true rfl⟩) hS (fun q _ h => hFc q h) hFc (fun r9 u t H locs ht hvm hw hB hz1 hk1 hS => ?_)
  obtain ⟨hP, hD⟩ := wj_0 hFc ht hB
  rw [hw]
  exact W.iret (v := r1.1) hx hb hr (fun t ht hW => by rw [← Option.some.inj hf]; exact ⟨⟨r1.1, (), rfl, rfl, by rw [ht]; exact hP, va_K.moved hW.alike hK, hD⟩, hS.F ht⟩) hS.2.2 dX7_howManyLives_8

set_option maxHeartbeats 4000000 in
set_option maxRecDepth 100000 in
theorem cn_X7_setRows_13 (l : Launch) (D : va_G) (cB cI cZ : ClassId) (N : Nat) (a0 : Nat → Nat) (I0 : Nat → Int32) (M0 : Nat → Nat → Int32) (sz : Nat) (R : Int32 × (Nat → Int32) × (Nat → Nat → Int32)) (hf : fX7_setRows_13 N I0 M0 = some R) : Met l yX7_setRows wsX7_setRows ({ frames := 0, cells := 0, slots := 0, locals := 0 }) (va_Pc [.ref (a0 0), .ref (a0 3)] (wb_preD D [(cB, .byte), (cI, .int), (cZ, .boolean)] (wWX7 cB cI cZ a0 I0 M0) sz)) (va_Qi (fun r (_ : Unit) => r = R.1) (fun _ t => wb_post D [(cB, .byte), (cI, .int), (cZ, .boolean)] (va_A (wWX7 cB cI cZ a0 I0 M0) sz) (wWX7 cB cI cZ a0 R.2.1 R.2.2) t) (va_A (wWX7 cB cI cZ a0 I0 M0) sz)) 0 0 (va_A (wWX7 cB cI cZ a0 I0 M0) sz) := by
  refine Met.ofW (cc := cX7_setRows) (maxL := 4) (ret := (some .int)) pn_X7 rfl ?_
  intro p e s m args below meth c s₁ B hml hv
  obtain ⟨rfl, hsz, hP, hK, hD0⟩ := hv
  have hx := B.exec
  have hb := B.bytes
  have hr := B.returns
  have hts := atoms_spec (ws := wsX7_setRows) B.pre
  have hown : s.vm.findClass RX7 = some m.cls := (findClass_of_methodNamed B.named :)
  have hlocks := B.notSynchronized
  have hinX7 : ∀ w ∈ u_ws RX7 TX7 6, w ∈ wsX7_setRows := fun w h => List.mem_cons_of_mem _ (List.mem_append_right _ h)
  subst hsz
  have hD := hD0.self (sz := s.heap.size)
  generalize hAe : va_A (wWX7 cB cI cZ a0 I0 M0) s.heap.size = A at hD ⊢
  have hA : ∀ q : Nat, s.heap.size ≤ q → A q := fun q h => by rw [← hAe]; exact Or.inr h
  have hS : va_S A s.heap s.heap [] := va_S.rf
  have hl := lv_entry ([.ref (a0 0), .ref (a0 3)]) (n := 4) (Nat.le_of_ble_eq_true rfl)
  rw [lg_entry_eq]
  generalize (lg_sl ([.ref (a0 0), .ref (a0 3)]) ++ List.replicate (4 - (lg_sl ([.ref (a0 0), .ref (a0 3)])).length) Slot.unset).toArray = ls at hl ⊢
  have hl : lv_has ls 4 [(0, .ref (a0 0)), (1, .ref (a0 3))] := hl
  unfold fX7_setRows_13 at hf
  obtain ⟨H, hHe⟩ : ∃ H : Heap, H = s.heap := ⟨_, rfl⟩
  obtain ⟨locs, hle⟩ : ∃ locs : List Loc, locs = [] := ⟨_, rfl⟩
  refine wb_start (H := H) (locs := locs) hHe hle ?_
  rw [← hHe] at hP
  have hS : va_S A s.heap H locs := by rw [hHe, hle]; exact va_S.rf
  refine lv_iconst (v := (0 : Int32)) hx hb dX7_setRows_0 (by decide) ?_
  refine lv_istore_n (lv' := [(2, .int (0 : Int32)), (0, .ref (a0 0)), (1, .ref (a0 3))]) hx hb dX7_setRows_1 rfl hl (by decide) rfl (fun ls hl => ?_)
  refine lv_iconst (v := (0 : Int32)) hx hb dX7_setRows_2 (by decide) ?_
  refine lv_istore_n (lv' := [(3, .int (0 : Int32)), (2, .int (0 : Int32)), (0, .ref (a0 0)), (1, .ref (a0 3))]) hx hb dX7_setRows_3 rfl hl (by decide) rfl (fun ls hl => ?_)
  have L4 : ∀ (fu4 : Nat) (I0_l4 : Nat → Int32) (M0_l4 : Nat → Nat → Int32) (y4_2 : Int32) (y4_3 : Int32) (H : Heap) (locs : List Loc), va_P D vwCl (wWX7 cB cI cZ a0 I0_l4 M0_l4) H → va_D A (wWX7 cB cI cZ a0 I0_l4 M0_l4) → va_S A s.heap H locs → ∀ (ls : Array Slot), lv_has ls 4 [(0, .ref (a0 0)), (1, .ref (a0 3)), (2, .int y4_2), (3, .int y4_3)] → fX7_setRows_13_L4 N fu4 I0_l4 M0_l4 y4_2 y4_3 = some R → W p l e (headSpec wsX7_setRows { frames := 0, cells := 0, slots := 0, locals := 0 }).room s m [.ref (a0 0), .ref (a0 3)].toArray below meth c H locs 0 0 (MQ below (va_Qi (fun r (_ : Unit) => r = R.1) (fun _ t => wb_post D [(cB, .byte), (cI, .int), (cZ, .boolean)] A (wWX7 cB cI cZ a0 R.2.1 R.2.2) t) A) [.ref (a0 0), .ref (a0 3)].toArray s 0 0 A) (F0 m 4 ls []) := by
    intro fu4
    induction fu4 with
    | zero =>
      intro I0_l4 M0_l4 y4_2 y4_3 H locs hP hD hS ls hl hf
      exact absurd hf (by rw [fX7_setRows_13_L4.eq_1]; exact fun h => nomatch h)
    | succ fu4 ih4 =>
      intro I0_l4 M0_l4 y4_2 y4_3 H locs hP hD hS ls hl hf
      rw [fX7_setRows_13_L4.eq_2] at hf
      refine lv_iload_n hx hb dX7_setRows_4 rfl (lv_at hl 3 rfl) ?_
      refine lv_bipush (v := (20 : Int32)) hx hb dX7_setRows_5 (by decide) ?_
      refine lv_icmp_ge (tgt := 33) hx hb dX7_setRows_7 (by decide) (fun hc => ?_) (fun hc => ?_)
      · replace hf := wb_t hc hf
        refine lv_iload_n hx hb dX7_setRows_33 rfl (lv_at hl 2 rfl) ?_
        exact W.iret (v := y4_2) hx hb hr (fun t ht hW => by rw [← Option.some.inj hf]; exact ⟨⟨y4_2, (), rfl, rfl, by rw [ht]; exact hP, va_K.moved hW.alike hK, hD⟩, hS.F ht⟩) hS.2.2 dX7_setRows_34
      · replace hf := wb_f hc hf
        refine lv_aload_n hx hb dX7_setRows_10 rfl (lv_at hl 1 rfl) ?_
        refine lv_iload_n hx hb dX7_setRows_11 rfl (lv_at hl 3 rfl) ?_
        obtain ⟨hin, hf⟩ := wb_n hf
        refine va_iald hx hb hK hP 3 1 rfl rfl hin dX7_setRows_12 ?_
        refine lv_iconst (v := (-1 : Int32)) hx hb dX7_setRows_13 (by decide) ?_
        refine lv_icmp_eq (tgt := 27) hx hb dX7_setRows_14 (by decide) (fun hc => ?_) (fun hc => ?_)
        · replace hf := wb_t hc hf
          obtain ⟨v1, ev1, hf⟩ := wb_v hf
          refine lv_iinc (v := v1) (lv' := [(3, .int v1), (0, .ref (a0 0)), (1, .ref (a0 3)), (2, .int y4_2)]) hx hb dX7_setRows_27 hl (k := 3) rfl (by rw [ev1]; rfl) (by decide) rfl (fun ls hl => ?_)
          refine lv_goto (tgt := 4) hx hb dX7_setRows_30 (by decide) ?_
          exact ih4 I0_l4 M0_l4 y4_2 v1 H locs hP hD hS ls (lv_sub hl [1, 2, 3, 0] rfl) hf
        · replace hf := wb_f hc hf
          refine lv_aload_n hx hb dX7_setRows_17 rfl (lv_at hl 0 rfl) ?_
          refine va_get (D := D) (ci := 7) (v := .ref (a0 4)) (C := RX7) (T := TX7) (N := 6) hx hb hts hinX7 hown hK hP 0 rfl rfl 3 (by decide) (hts (.fieldLink RX7 21 "WheelBook$Outcomes" "rows" "[I") (List.mem_of_getElem? (i := 1) rfl)) (fun _ h9 => h9) rfl dX7_setRows_18 ?_
          refine lv_iload_n hx hb dX7_setRows_21 rfl (lv_at hl 2 rfl) ?_
          refine lv_iload_n hx hb dX7_setRows_22 rfl (lv_at hl 3 rfl) ?_
          obtain ⟨hin, hf⟩ := wb_n hf
          refine va_iast hx hb hK hP hD hS 4 1 rfl rfl hin dX7_setRows_23 (fun H locs hP hD hS => ?_)
          have hP : va_P D vwCl (wWX7 cB cI cZ a0 I0_l4 (wb_um M0_l4 3 (y4_2).toNatClampNeg y4_3)) H := hP
          have hD : va_D A (wWX7 cB cI cZ a0 I0_l4 (wb_um M0_l4 3 (y4_2).toNatClampNeg y4_3)) := hD
          obtain ⟨M0_2, eM0_2, hf⟩ := wb_v hf
          rw [← eM0_2] at hP hD
          obtain ⟨v3, ev3, hf⟩ := wb_v hf
          refine lv_iinc (v := v3) (lv' := [(2, .int v3), (0, .ref (a0 0)), (1, .ref (a0 3)), (3, .int y4_3)]) hx hb dX7_setRows_24 hl (k := 2) rfl (by rw [ev3]; rfl) (by decide) rfl (fun ls hl => ?_)
          obtain ⟨v4, ev4, hf⟩ := wb_v hf
          refine lv_iinc (v := v4) (lv' := [(3, .int v4), (2, .int v3), (0, .ref (a0 0)), (1, .ref (a0 3))]) hx hb dX7_setRows_27 hl (k := 3) rfl (by rw [ev4]; rfl) (by decide) rfl (fun ls hl => ?_)
          refine lv_goto (tgt := 4) hx hb dX7_setRows_30 (by decide) ?_
          exact ih4 I0_l4 M0_2 v3 v4 H locs hP hD hS ls (lv_sub hl [2, 3, 1, 0] rfl) hf
  exact L4 N I0 M0 (0 : Int32) (0 : Int32) H locs hP hD hS ls (lv_sub hl [2, 3, 1, 0] rfl) hf

set_option maxHeartbeats 4000000 in
set_option maxRecDepth 100000 in
theorem cn_X7_howManyFates (l : Launch) (D : va_G) (cB cI cZ : ClassId) (N : Nat) (a0 : Nat → Nat) (I0 : Nat → Int32) (M0 : Nat → Nat → Int32) (sz : Nat) (R : Int32 × (Nat → Int32) × (Nat → Nat → Int32)) (hf : fX7_howManyFates N I0 M0 = some R) : Met l yX7_howManyFates wsX7_howManyFates ({ frames := 1, cells := 0, slots := 0, locals := 23 }) (va_Pc [.ref (a0 0)] (wb_preD D [(cB, .byte), (cI, .int), (cZ, .boolean)] (wWX7 cB cI cZ a0 I0 M0) sz)) (va_Qi (fun r (_ : Unit) => r = R.1) (fun _ t => wb_post D [(cB, .byte), (cI, .int), (cZ, .boolean)] (va_A (wWX7 cB cI cZ a0 I0 M0) sz) (wWX7 cB cI cZ a0 R.2.1 R.2.2) t) (va_A (wWX7 cB cI cZ a0 I0 M0) sz)) 0 0 (va_A (wWX7 cB cI cZ a0 I0 M0) sz) := by
  refine Met.ofW (cc := cX7_howManyFates) (maxL := 1) (ret := (some .int)) pn_X7 rfl ?_
  intro p e s m args below meth c s₁ B hml hv
  obtain ⟨rfl, hsz, hP, hK, hD0⟩ := hv
  have hx := B.exec
  have hb := B.bytes
  have hr := B.returns
  have hts := atoms_spec (ws := wsX7_howManyFates) B.pre
  have hown : s.vm.findClass RX7 = some m.cls := (findClass_of_methodNamed B.named :)
  have hlocks := B.notSynchronized
  have hinX7 : ∀ w ∈ u_ws RX7 TX7 6, w ∈ wsX7_howManyFates := fun w h => List.mem_cons_of_mem _ (List.mem_append_right _ h)
  subst hsz
  have hD := hD0.self (sz := s.heap.size)
  generalize hAe : va_A (wWX7 cB cI cZ a0 I0 M0) s.heap.size = A at hD ⊢
  have hA : ∀ q : Nat, s.heap.size ≤ q → A q := fun q h => by rw [← hAe]; exact Or.inr h
  have hS : va_S A s.heap s.heap [] := va_S.rf
  have hl := lv_entry ([.ref (a0 0)]) (n := 1) (Nat.le_of_ble_eq_true rfl)
  rw [lg_entry_eq]
  generalize (lg_sl ([.ref (a0 0)]) ++ List.replicate (1 - (lg_sl ([.ref (a0 0)])).length) Slot.unset).toArray = ls at hl ⊢
  have hl : lv_has ls 1 [(0, .ref (a0 0))] := hl
  unfold fX7_howManyFates at hf
  obtain ⟨H, hHe⟩ : ∃ H : Heap, H = s.heap := ⟨_, rfl⟩
  obtain ⟨locs, hle⟩ : ∃ locs : List Loc, locs = [] := ⟨_, rfl⟩
  refine wb_start (H := H) (locs := locs) hHe hle ?_
  rw [← hHe] at hP
  have hS : va_S A s.heap H locs := by rw [hHe, hle]; exact va_S.rf
  refine lv_aload_n hx hb dX7_howManyFates_0 rfl (lv_at hl 0 rfl) ?_
  refine lv_aload_n hx hb dX7_howManyFates_1 rfl (lv_at hl 0 rfl) ?_
  refine va_get (D := D) (ci := 7) (v := .ref (a0 3)) (C := RX7) (T := TX7) (N := 6) hx hb hts hinX7 hown hK hP 0 rfl rfl 2 (by decide) (hts (.fieldLink RX7 18 "WheelBook$Outcomes" "houses" "[I") (List.mem_of_getElem? (i := 1) rfl)) (fun _ h9 => h9) rfl dX7_howManyFates_2 ?_
  obtain ⟨r1, hr1, hf⟩ := wb_b hf
  have hPc := hP
  have hDc := hD
  have hFc := wj_F hDc hS hA
  refine va_calli (va_runV (As := [.ref (a0 3)]) (rest := []) ⟨hx, hb, hml, hown, hts⟩ (cn_X7_setRows_13 l D cB cI cZ N a0 I0 M0 H.size r1 hr1) (cwV 1 hts gX7_howManyFates_X7_setRows rfl rfl rfl cdX7_setRows ⟨Nat.le_of_ble_eq_true rfl, Nat.le_of_ble_eq_true rfl⟩) (wb_preDV hPc hK hDc (wr_7 hK hP (q0 := 0) rfl)) rfl rfl hl.1 rfl (lv_room (Nat.le_of_ble_eq_true rfl)) dX7_howManyFates_5 ⟨Nat.le_of_ble_eq_true rfl, Nat.le_of_ble_eq_true rfl⟩) hS (fun q _ h => hFc q h) hFc (fun r9 u t H locs ht hvm hw hB hz1 hk1 hS => ?_)
  obtain ⟨hP, hD⟩ := wj_0 hFc ht hB
  rw [hw]
  exact W.iret (v := r1.1) hx hb hr (fun t ht hW => by rw [← Option.some.inj hf]; exact ⟨⟨r1.1, (), rfl, rfl, by rw [ht]; exact hP, va_K.moved hW.alike hK, hD⟩, hS.F ht⟩) hS.2.2 dX7_howManyFates_8

set_option maxHeartbeats 4000000 in
set_option maxRecDepth 100000 in
theorem cn_X7_isHit (l : Launch) (D : va_G) (cB cI cZ : ClassId) (N : Nat) (a0 : Nat → Nat) (I0 : Nat → Int32) (M0 : Nat → Nat → Int32) (x1 : Int32) (x2 : Int32) (x3 : Int32) (R : Int32) (hf : fX7_isHit N I0 M0 x1 x2 x3 = some R) : Met l yX7_isHit wsX7_isHit ({ frames := 1, cells := 0, slots := 0, locals := 40 }) (va_Pc [.ref (a0 0), .int x1, .int x2, .int x3] (wb_pre D [(cB, .byte), (cI, .int), (cZ, .boolean)] (wWX7 cB cI cZ a0 I0 M0))) (vp_Si (fun r => r = R)) 0 0 (fun _ => False) := by
  refine Met.ofW (cc := cX7_isHit) (maxL := 4) (ret := (some .boolean)) pn_X7 rfl ?_
  intro p e s m args below meth c s₁ B hml hv
  obtain ⟨rfl, hP, hK⟩ := hv
  have hx := B.exec
  have hb := B.bytes
  have hr := B.returns
  have hts := atoms_spec (ws := wsX7_isHit) B.pre
  have hown : s.vm.findClass RX7 = some m.cls := (findClass_of_methodNamed B.named :)
  have hlocks := B.notSynchronized
  have hinX7 : ∀ w ∈ u_ws RX7 TX7 6, w ∈ wsX7_isHit := fun w h => List.mem_cons_of_mem _ (List.mem_append_right _ h)
  have hl := lv_entry ([.ref (a0 0), .int x1, .int x2, .int x3]) (n := 4) (Nat.le_of_ble_eq_true rfl)
  rw [lg_entry_eq]
  generalize (lg_sl ([.ref (a0 0), .int x1, .int x2, .int x3]) ++ List.replicate (4 - (lg_sl ([.ref (a0 0), .int x1, .int x2, .int x3])).length) Slot.unset).toArray = ls at hl ⊢
  have hl : lv_has ls 4 [(0, .ref (a0 0)), (1, .int x1), (2, .int x2), (3, .int x3)] := hl
  unfold fX7_isHit at hf
  refine lv_aload_n hx hb dX7_isHit_0 rfl (lv_at hl 0 rfl) ?_
  refine va_get (D := D) (ci := 7) (v := .ref (a0 1)) (C := RX7) (T := TX7) (N := 6) hx hb hts hinX7 hown hK hP 0 rfl rfl 0 (by decide) (hts (.fieldLink RX7 9 "WheelBook$Outcomes" "foretold" "[I") (List.mem_of_getElem? (i := 1) rfl)) (fun _ h9 => h9) rfl dX7_isHit_1 ?_
  refine lv_iload_n hx hb dX7_isHit_4 rfl (lv_at hl 1 rfl) ?_
  obtain ⟨hin, hf⟩ := wb_n hf
  refine va_iald hx hb hK hP 1 1 rfl rfl hin dX7_isHit_5 ?_
  refine lv_iload_n hx hb dX7_isHit_6 rfl (lv_at hl 2 rfl) ?_
  refine lv_isub hx hb dX7_isHit_7 ?_
  refine va_mabs hx hb (hml.trans hl.1.symm) hown (hts (.methodLink RX7 41 Lib.Math.abs.name) (List.mem_of_getElem? (i := 2) rfl)) (hts (.static Lib.Math.abs.name) (List.mem_of_getElem? (i := 3) rfl)) (hts (.initialized "java/lang/Math") (List.mem_of_getElem? (i := 4) rfl)) (hts (.code Lib.Math.abs.name Lib.Math.abs.code 1 (some .int)) (List.mem_of_getElem? (i := 5) rfl)) (Nat.le_of_ble_eq_true rfl) (Nat.le_of_ble_eq_true rfl) (Nat.zero_le _) (Nat.zero_le _) dX7_isHit_8 ?_
  refine lv_iload_n hx hb dX7_isHit_11 rfl (lv_at hl 3 rfl) ?_
  refine lv_icmp_gt (tgt := 19) hx hb dX7_isHit_12 (by decide) (fun hc => ?_) (fun hc => ?_)
  · replace hf := wb_t hc hf
    refine lv_iconst (v := (0 : Int32)) hx hb dX7_isHit_19 (by decide) ?_
    exact W.zret (v := (0 : Int32)) hx hb hr (by decide) (fun t ht hW => ⟨_, rfl, Option.some.inj hf, ht⟩) (fun _ h => nomatch h) dX7_isHit_20
  · replace hf := wb_f hc hf
    refine lv_iconst (v := (1 : Int32)) hx hb dX7_isHit_15 (by decide) ?_
    refine lv_goto (tgt := 20) hx hb dX7_isHit_16 (by decide) ?_
    exact W.zret (v := (1 : Int32)) hx hb hr (by decide) (fun t ht hW => ⟨_, rfl, Option.some.inj hf, ht⟩) (fun _ h => nomatch h) dX7_isHit_20

set_option maxHeartbeats 4000000 in
set_option maxRecDepth 100000 in
theorem cn_X7_howManyHits (l : Launch) (D : va_G) (cB cI cZ : ClassId) (N : Nat) (a0 : Nat → Nat) (I0 : Nat → Int32) (M0 : Nat → Nat → Int32) (x1 : Int32) (sz : Nat) (R : Int32 × (Nat → Int32) × (Nat → Nat → Int32)) (hf : fX7_howManyHits N I0 M0 x1 = some R) : Met l yX7_howManyHits wsX7_howManyHits ({ frames := 2, cells := 0, slots := 0, locals := 63 }) (va_Pc [.ref (a0 0), .int x1] (wb_preD D [(cB, .byte), (cI, .int), (cZ, .boolean)] (wWX7 cB cI cZ a0 I0 M0) sz)) (va_Qi (fun r (_ : Unit) => r = R.1) (fun _ t => wb_post D [(cB, .byte), (cI, .int), (cZ, .boolean)] (va_A (wWX7 cB cI cZ a0 I0 M0) sz) (wWX7 cB cI cZ a0 R.2.1 R.2.2) t) (va_A (wWX7 cB cI cZ a0 I0 M0) sz)) 0 0 (va_A (wWX7 cB cI cZ a0 I0 M0) sz) := by
  refine Met.ofW (cc := cX7_howManyHits) (maxL := 5) (ret := (some .int)) pn_X7 rfl ?_
  intro p e s m args below meth c s₁ B hml hv
  obtain ⟨rfl, hsz, hP, hK, hD0⟩ := hv
  have hx := B.exec
  have hb := B.bytes
  have hr := B.returns
  have hts := atoms_spec (ws := wsX7_howManyHits) B.pre
  have hown : s.vm.findClass RX7 = some m.cls := (findClass_of_methodNamed B.named :)
  have hlocks := B.notSynchronized
  have hinX7 : ∀ w ∈ u_ws RX7 TX7 6, w ∈ wsX7_howManyHits := fun w h => List.mem_cons_of_mem _ (List.mem_append_right _ h)
  subst hsz
  have hD := hD0.self (sz := s.heap.size)
  generalize hAe : va_A (wWX7 cB cI cZ a0 I0 M0) s.heap.size = A at hD ⊢
  have hA : ∀ q : Nat, s.heap.size ≤ q → A q := fun q h => by rw [← hAe]; exact Or.inr h
  have hS : va_S A s.heap s.heap [] := va_S.rf
  have hl := lv_entry ([.ref (a0 0), .int x1]) (n := 5) (Nat.le_of_ble_eq_true rfl)
  rw [lg_entry_eq]
  generalize (lg_sl ([.ref (a0 0), .int x1]) ++ List.replicate (5 - (lg_sl ([.ref (a0 0), .int x1])).length) Slot.unset).toArray = ls at hl ⊢
  have hl : lv_has ls 5 [(0, .ref (a0 0)), (1, .int x1)] := hl
  unfold fX7_howManyHits at hf
  obtain ⟨H, hHe⟩ : ∃ H : Heap, H = s.heap := ⟨_, rfl⟩
  obtain ⟨locs, hle⟩ : ∃ locs : List Loc, locs = [] := ⟨_, rfl⟩
  refine wb_start (H := H) (locs := locs) hHe hle ?_
  rw [← hHe] at hP
  have hS : va_S A s.heap H locs := by rw [hHe, hle]; exact va_S.rf
  refine lv_aload_n hx hb dX7_howManyHits_0 rfl (lv_at hl 0 rfl) ?_
  refine lv_aload_n hx hb dX7_howManyHits_1 rfl (lv_at hl 0 rfl) ?_
  refine va_get (D := D) (ci := 7) (v := .ref (a0 1)) (C := RX7) (T := TX7) (N := 6) hx hb hts hinX7 hown hK hP 0 rfl rfl 0 (by decide) (hts (.fieldLink RX7 9 "WheelBook$Outcomes" "foretold" "[I") (List.mem_of_getElem? (i := 1) rfl)) (fun _ h9 => h9) rfl dX7_howManyHits_2 ?_
  obtain ⟨r1, hr1, hf⟩ := wb_b hf
  have hPc := hP
  have hDc := hD
  have hFc := wj_F hDc hS hA
  refine va_calli (va_runV (As := [.ref (a0 1)]) (rest := []) ⟨hx, hb, hml, hown, hts⟩ (cn_X7_setRows_11 l D cB cI cZ N a0 I0 M0 H.size r1 hr1) (cwV 1 hts gX7_howManyHits_X7_setRows rfl rfl rfl cdX7_setRows ⟨Nat.le_of_ble_eq_true rfl, Nat.le_of_ble_eq_true rfl⟩) (wb_preDV hPc hK hDc (wr_7 hK hP (q0 := 0) rfl)) rfl rfl hl.1 rfl (lv_room (Nat.le_of_ble_eq_true rfl)) dX7_howManyHits_5 ⟨Nat.le_of_ble_eq_true rfl, Nat.le_of_ble_eq_true rfl⟩) hS (fun q _ h => hFc q h) hFc (fun r9 u t H locs ht hvm hw hB hz1 hk1 hS => ?_)
  obtain ⟨hP, hD⟩ := wj_0 hFc ht hB
  rw [hw]
  obtain ⟨v2, ev2, hf⟩ := wb_v hf
  refine wb_topi ev2 ?_
  refine lv_istore_n (lv' := [(2, .int v2), (0, .ref (a0 0)), (1, .int x1)]) hx hb dX7_howManyHits_8 rfl hl (by decide) rfl (fun ls hl => ?_)
  refine lv_iconst (v := (0 : Int32)) hx hb dX7_howManyHits_9 (by decide) ?_
  refine lv_istore_n (lv' := [(3, .int (0 : Int32)), (2, .int v2), (0, .ref (a0 0)), (1, .int x1)]) hx hb dX7_howManyHits_10 rfl hl (by decide) rfl (fun ls hl => ?_)
  refine lv_iconst (v := (0 : Int32)) hx hb dX7_howManyHits_11 (by decide) ?_
  refine lv_istore (lv' := [(4, .int (0 : Int32)), (3, .int (0 : Int32)), (2, .int v2), (0, .ref (a0 0)), (1, .int x1)]) hx hb dX7_howManyHits_12 hl (by decide) rfl (fun ls hl => ?_)
  have L14 : ∀ (fu14 : Nat) (I0_l14 : Nat → Int32) (M0_l14 : Nat → Nat → Int32) (y14_3 : Int32) (y14_4 : Int32) (H : Heap) (locs : List Loc), va_P D vwCl (wWX7 cB cI cZ a0 I0_l14 M0_l14) H → va_D A (wWX7 cB cI cZ a0 I0_l14 M0_l14) → va_S A s.heap H locs → ∀ (ls : Array Slot), lv_has ls 5 [(0, .ref (a0 0)), (1, .int x1), (2, .int v2), (3, .int y14_3), (4, .int y14_4)] → fX7_howManyHits_L14 N x1 v2 fu14 I0_l14 M0_l14 y14_3 y14_4 = some R → W p l e (headSpec wsX7_howManyHits { frames := 2, cells := 0, slots := 0, locals := 63 }).room s m [.ref (a0 0), .int x1].toArray below meth c H locs 0 0 (MQ below (va_Qi (fun r (_ : Unit) => r = R.1) (fun _ t => wb_post D [(cB, .byte), (cI, .int), (cZ, .boolean)] A (wWX7 cB cI cZ a0 R.2.1 R.2.2) t) A) [.ref (a0 0), .int x1].toArray s 0 0 A) (F0 m 14 ls []) := by
    intro fu14
    induction fu14 with
    | zero =>
      intro I0_l14 M0_l14 y14_3 y14_4 H locs hP hD hS ls hl hf
      exact absurd hf (by rw [fX7_howManyHits_L14.eq_1]; exact fun h => nomatch h)
    | succ fu14 ih14 =>
      intro I0_l14 M0_l14 y14_3 y14_4 H locs hP hD hS ls hl hf
      rw [fX7_howManyHits_L14.eq_2] at hf
      refine lv_iload hx hb dX7_howManyHits_14 (lv_at hl 4 rfl) ?_
      refine lv_iload_n hx hb dX7_howManyHits_16 rfl (lv_at hl 2 rfl) ?_
      refine lv_icmp_ge (tgt := 56) hx hb dX7_howManyHits_17 (by decide) (fun hc => ?_) (fun hc => ?_)
      · replace hf := wb_t hc hf
        refine lv_iload_n hx hb dX7_howManyHits_56 rfl (lv_at hl 3 rfl) ?_
        exact W.iret (v := y14_3) hx hb hr (fun t ht hW => by rw [← Option.some.inj hf]; exact ⟨⟨y14_3, (), rfl, rfl, by rw [ht]; exact hP, va_K.moved hW.alike hK, hD⟩, hS.F ht⟩) hS.2.2 dX7_howManyHits_57
      · replace hf := wb_f hc hf
        refine lv_aload_n hx hb dX7_howManyHits_20 rfl (lv_at hl 0 rfl) ?_
        refine lv_aload_n hx hb dX7_howManyHits_21 rfl (lv_at hl 0 rfl) ?_
        refine va_get (D := D) (ci := 7) (v := .ref (a0 4)) (C := RX7) (T := TX7) (N := 6) hx hb hts hinX7 hown hK hP 0 rfl rfl 3 (by decide) (hts (.fieldLink RX7 21 "WheelBook$Outcomes" "rows" "[I") (List.mem_of_getElem? (i := 2) rfl)) (fun _ h9 => h9) rfl dX7_howManyHits_22 ?_
        refine lv_iload hx hb dX7_howManyHits_25 (lv_at hl 4 rfl) ?_
        obtain ⟨hin, hf⟩ := wb_n hf
        refine va_iald hx hb hK hP 4 1 rfl rfl hin dX7_howManyHits_27 ?_
        refine lv_aload_n hx hb dX7_howManyHits_28 rfl (lv_at hl 0 rfl) ?_
        refine va_get (D := D) (ci := 7) (v := .ref (a0 2)) (C := RX7) (T := TX7) (N := 6) hx hb hts hinX7 hown hK hP 0 rfl rfl 1 (by decide) (hts (.fieldLink RX7 15 "WheelBook$Outcomes" "came" "[I") (List.mem_of_getElem? (i := 3) rfl)) (fun _ h9 => h9) rfl dX7_howManyHits_29 ?_
        refine lv_aload_n hx hb dX7_howManyHits_32 rfl (lv_at hl 0 rfl) ?_
        refine va_get (D := D) (ci := 7) (v := .ref (a0 4)) (C := RX7) (T := TX7) (N := 6) hx hb hts hinX7 hown hK hP 0 rfl rfl 3 (by decide) (hts (.fieldLink RX7 21 "WheelBook$Outcomes" "rows" "[I") (List.mem_of_getElem? (i := 2) rfl)) (fun _ h9 => h9) rfl dX7_howManyHits_33 ?_
        refine lv_iload hx hb dX7_howManyHits_36 (lv_at hl 4 rfl) ?_
        obtain ⟨hin, hf⟩ := wb_n hf
        refine va_iald hx hb hK hP 4 1 rfl rfl hin dX7_howManyHits_38 ?_
        obtain ⟨hin, hf⟩ := wb_n hf
        refine va_iald hx hb hK hP 2 1 rfl rfl hin dX7_howManyHits_39 ?_
        refine lv_iload_n hx hb dX7_howManyHits_40 rfl (lv_at hl 1 rfl) ?_
        obtain ⟨r3, hr3, hf⟩ := wb_b hf
        refine vp_callSi (W.runV (As := [.int (M0_l14 3 (y14_4).toNatClampNeg), .int (M0_l14 1 ((M0_l14 3 (y14_4).toNatClampNeg)).toNatClampNeg), .int x1]) (rest := []) ⟨hx, hb, hml, hown, hts⟩ (cn_X7_isHit l D cB cI cZ N a0 I0_l14 M0_l14 (M0_l14 3 (y14_4).toNatClampNeg) (M0_l14 1 ((M0_l14 3 (y14_4).toNatClampNeg)).toNatClampNeg) x1 r3 hr3) (cwV 3 hts gX7_howManyHits_X7_isHit rfl rfl rfl cdX7_isHit ⟨Nat.le_of_ble_eq_true rfl, Nat.le_of_ble_eq_true rfl⟩) (wb_preV hP hK (wr_7 hK hP (q0 := 0) rfl)) rfl rfl hl.1 rfl (lv_room (Nat.le_of_ble_eq_true rfl)) dX7_howManyHits_41 ⟨Nat.le_of_ble_eq_true rfl, Nat.le_of_ble_eq_true rfl⟩) (fun r9 e9 => ?_)
        rw [e9]
        refine lv_if_eq (tgt := 50) hx hb dX7_howManyHits_44 (by decide) (fun hc => ?_) (fun hc => ?_)
        · replace hf := wb_t hc hf
          obtain ⟨v4, ev4, hf⟩ := wb_v hf
          refine lv_iinc (v := v4) (lv' := [(4, .int v4), (0, .ref (a0 0)), (1, .int x1), (2, .int v2), (3, .int y14_3)]) hx hb dX7_howManyHits_50 hl (k := 4) rfl (by rw [ev4]; rfl) (by decide) rfl (fun ls hl => ?_)
          refine lv_goto (tgt := 14) hx hb dX7_howManyHits_53 (by decide) ?_
          exact ih14 I0_l14 M0_l14 y14_3 v4 H locs hP hD hS ls (lv_sub hl [1, 2, 3, 4, 0] rfl) hf
        · replace hf := wb_f hc hf
          obtain ⟨v5, ev5, hf⟩ := wb_v hf
          refine lv_iinc (v := v5) (lv' := [(3, .int v5), (0, .ref (a0 0)), (1, .int x1), (2, .int v2), (4, .int y14_4)]) hx hb dX7_howManyHits_47 hl (k := 3) rfl (by rw [ev5]; rfl) (by decide) rfl (fun ls hl => ?_)
          obtain ⟨v6, ev6, hf⟩ := wb_v hf
          refine lv_iinc (v := v6) (lv' := [(4, .int v6), (3, .int v5), (0, .ref (a0 0)), (1, .int x1), (2, .int v2)]) hx hb dX7_howManyHits_50 hl (k := 4) rfl (by rw [ev6]; rfl) (by decide) rfl (fun ls hl => ?_)
          refine lv_goto (tgt := 14) hx hb dX7_howManyHits_53 (by decide) ?_
          exact ih14 I0_l14 M0_l14 v5 v6 H locs hP hD hS ls (lv_sub hl [2, 3, 4, 1, 0] rfl) hf
  exact L14 N r1.2.1 r1.2.2 (0 : Int32) (0 : Int32) H locs hP hD hS ls (lv_sub hl [3, 4, 2, 1, 0] rfl) hf

set_option maxHeartbeats 4000000 in
set_option maxRecDepth 100000 in
theorem cn_X7_layNext (l : Launch) (D : va_G) (cB cI cZ : ClassId) (N : Nat) (a0 : Nat → Nat) (I0 : Nat → Int32) (M0 : Nat → Nat → Int32) (x1 : Int32) (x2 : Int32) (sz : Nat) (R : (Nat → Int32) × (Nat → Nat → Int32)) (hf : fX7_layNext N I0 M0 x1 x2 = some R) : Met l yX7_layNext wsX7_layNext ({ frames := 1, cells := 0, slots := 0, locals := 20 }) (va_Pc [.ref (a0 0), .int x1, .int x2] (wb_preD D [(cB, .byte), (cI, .int), (cZ, .boolean)] (wWX7 cB cI cZ a0 I0 M0) sz)) (va_Qv (fun _ : Unit => True) (fun _ t => wb_post D [(cB, .byte), (cI, .int), (cZ, .boolean)] (va_A (wWX7 cB cI cZ a0 I0 M0) sz) (wWX7 cB cI cZ a0 R.1 R.2) t) (va_A (wWX7 cB cI cZ a0 I0 M0) sz)) 0 0 (va_A (wWX7 cB cI cZ a0 I0 M0) sz) := by
  refine Met.ofW (cc := cX7_layNext) (maxL := 8) (ret := none) pn_X7 rfl ?_
  intro p e s m args below meth c s₁ B hml hv
  obtain ⟨rfl, hsz, hP, hK, hD0⟩ := hv
  have hx := B.exec
  have hb := B.bytes
  have hr := B.returns
  have hts := atoms_spec (ws := wsX7_layNext) B.pre
  have hown : s.vm.findClass RX7 = some m.cls := (findClass_of_methodNamed B.named :)
  have hlocks := B.notSynchronized
  have hinX7 : ∀ w ∈ u_ws RX7 TX7 6, w ∈ wsX7_layNext := fun w h => List.mem_cons_of_mem _ (List.mem_append_right _ h)
  subst hsz
  have hD := hD0.self (sz := s.heap.size)
  generalize hAe : va_A (wWX7 cB cI cZ a0 I0 M0) s.heap.size = A at hD ⊢
  have hA : ∀ q : Nat, s.heap.size ≤ q → A q := fun q h => by rw [← hAe]; exact Or.inr h
  have hS : va_S A s.heap s.heap [] := va_S.rf
  have hl := lv_entry ([.ref (a0 0), .int x1, .int x2]) (n := 8) (Nat.le_of_ble_eq_true rfl)
  rw [lg_entry_eq]
  generalize (lg_sl ([.ref (a0 0), .int x1, .int x2]) ++ List.replicate (8 - (lg_sl ([.ref (a0 0), .int x1, .int x2])).length) Slot.unset).toArray = ls at hl ⊢
  have hl : lv_has ls 8 [(0, .ref (a0 0)), (1, .int x1), (2, .int x2)] := hl
  unfold fX7_layNext at hf
  obtain ⟨H, hHe⟩ : ∃ H : Heap, H = s.heap := ⟨_, rfl⟩
  obtain ⟨locs, hle⟩ : ∃ locs : List Loc, locs = [] := ⟨_, rfl⟩
  refine wb_start (H := H) (locs := locs) hHe hle ?_
  rw [← hHe] at hP
  have hS : va_S A s.heap H locs := by rw [hHe, hle]; exact va_S.rf
  refine lv_iload_n hx hb dX7_layNext_0 rfl (lv_at hl 1 rfl) ?_
  obtain ⟨r1, hr1, hf⟩ := wb_b hf
  refine vp_callSi (W.runS (As := [.int x1]) (rest := []) ⟨hx, hb, hml, hown, hts⟩ (cn_J6_bitCount_0f7a4 l D cB cI cZ N x1 r1 hr1) (va_cwS 1 hts gX7_layNext_J6_bitCount_0f7a4 rfl rfl rfl csJ6_bitCount_0f7a4 ⟨Nat.le_of_ble_eq_true rfl, Nat.le_of_ble_eq_true rfl⟩) (wb_preS (hP.sub (ws' := ([] : va_W)) [] rfl) hK) rfl rfl hl.1 rfl (lv_room (Nat.le_of_ble_eq_true rfl)) dX7_layNext_1 ⟨Nat.le_of_ble_eq_true rfl, Nat.le_of_ble_eq_true rfl⟩) (fun r9 e9 => ?_)
  rw [e9]
  refine lv_istore_n (lv' := [(3, .int r1), (0, .ref (a0 0)), (1, .int x1), (2, .int x2)]) hx hb dX7_layNext_4 rfl hl (by decide) rfl (fun ls hl => ?_)
  refine lv_iconst (v := (0 : Int32)) hx hb dX7_layNext_5 (by decide) ?_
  refine lv_istore (lv' := [(4, .int (0 : Int32)), (3, .int r1), (0, .ref (a0 0)), (1, .int x1), (2, .int x2)]) hx hb dX7_layNext_6 hl (by decide) rfl (fun ls hl => ?_)
  have L8 : ∀ (fu8 : Nat) (I0_l8 : Nat → Int32) (M0_l8 : Nat → Nat → Int32) (y8_4 : Int32) (H : Heap) (locs : List Loc), va_P D vwCl (wWX7 cB cI cZ a0 I0_l8 M0_l8) H → va_D A (wWX7 cB cI cZ a0 I0_l8 M0_l8) → va_S A s.heap H locs → ∀ (ls : Array Slot), lv_has ls 8 [(0, .ref (a0 0)), (1, .int x1), (2, .int x2), (3, .int r1), (4, .int y8_4)] → fX7_layNext_L8 N x1 x2 r1 fu8 I0_l8 M0_l8 y8_4 = some R → W p l e (headSpec wsX7_layNext { frames := 1, cells := 0, slots := 0, locals := 20 }).room s m [.ref (a0 0), .int x1, .int x2].toArray below meth c H locs 0 0 (MQ below (va_Qv (fun _ : Unit => True) (fun _ t => wb_post D [(cB, .byte), (cI, .int), (cZ, .boolean)] A (wWX7 cB cI cZ a0 R.1 R.2) t) A) [.ref (a0 0), .int x1, .int x2].toArray s 0 0 A) (F0 m 8 ls []) := by
    intro fu8
    induction fu8 with
    | zero =>
      intro I0_l8 M0_l8 y8_4 H locs hP hD hS ls hl hf
      exact absurd hf (by rw [fX7_layNext_L8.eq_1]; exact fun h => nomatch h)
    | succ fu8 ih8 =>
      have J43 : ∀ (I0_j43 : Nat → Int32) (M0_j43 : Nat → Nat → Int32) (y43_4 : Int32) (z43_0 : Int32) (H : Heap) (locs : List Loc), va_P D vwCl (wWX7 cB cI cZ a0 I0_j43 M0_j43) H → va_D A (wWX7 cB cI cZ a0 I0_j43 M0_j43) → va_S A s.heap H locs → ∀ (ls : Array Slot), lv_has ls 8 [(0, .ref (a0 0)), (1, .int x1), (2, .int x2), (3, .int r1), (4, .int y43_4)] → fX7_layNext_J43 N x1 x2 r1 (fX7_layNext_L8 N x1 x2 r1 fu8) I0_j43 M0_j43 y43_4 z43_0 = some R → W p l e (headSpec wsX7_layNext { frames := 1, cells := 0, slots := 0, locals := 20 }).room s m [.ref (a0 0), .int x1, .int x2].toArray below meth c H locs 0 0 (MQ below (va_Qv (fun _ : Unit => True) (fun _ t => wb_post D [(cB, .byte), (cI, .int), (cZ, .boolean)] A (wWX7 cB cI cZ a0 R.1 R.2) t) A) [.ref (a0 0), .int x1, .int x2].toArray s 0 0 A) (F0 m 43 ls [.int z43_0]) := by
        intro I0_j43 M0_j43 y43_4 z43_0 H locs hP hD hS ls hl hf
        unfold fX7_layNext_J43 at hf
        refine lv_istore (lv' := [(5, .int z43_0), (0, .ref (a0 0)), (1, .int x1), (2, .int x2), (3, .int r1), (4, .int y43_4)]) hx hb dX7_layNext_43 hl (by decide) rfl (fun ls hl => ?_)
        refine lv_iload_n hx hb dX7_layNext_45 rfl (lv_at hl 2 rfl) ?_
        refine lv_iconst (v := (1 : Int32)) hx hb dX7_layNext_46 (by decide) ?_
        refine lv_iload hx hb dX7_layNext_47 (lv_at hl 5 rfl) ?_
        refine lv_ishl hx hb dX7_layNext_49 ?_
        refine lv_ior hx hb dX7_layNext_50 ?_
        obtain ⟨v2, ev2, hf⟩ := wb_v hf
        refine wb_topi ev2 ?_
        refine lv_istore (lv' := [(6, .int v2), (5, .int z43_0), (0, .ref (a0 0)), (1, .int x1), (2, .int x2), (3, .int r1), (4, .int y43_4)]) hx hb dX7_layNext_51 hl (by decide) rfl (fun ls hl => ?_)
        refine lv_iconst (v := (0 : Int32)) hx hb dX7_layNext_53 (by decide) ?_
        refine lv_istore (lv' := [(7, .int (0 : Int32)), (6, .int v2), (5, .int z43_0), (0, .ref (a0 0)), (1, .int x1), (2, .int x2), (3, .int r1), (4, .int y43_4)]) hx hb dX7_layNext_54 hl (by decide) rfl (fun ls hl => ?_)
        have L56 : ∀ (fu56 : Nat) (I0_l56 : Nat → Int32) (M0_l56 : Nat → Nat → Int32) (y56_7 : Int32) (H : Heap) (locs : List Loc), va_P D vwCl (wWX7 cB cI cZ a0 I0_l56 M0_l56) H → va_D A (wWX7 cB cI cZ a0 I0_l56 M0_l56) → va_S A s.heap H locs → ∀ (ls : Array Slot), lv_has ls 8 [(0, .ref (a0 0)), (1, .int x1), (2, .int x2), (3, .int r1), (4, .int y43_4), (5, .int z43_0), (6, .int v2), (7, .int y56_7)] → fX7_layNext_L56 N x1 x2 r1 v2 y43_4 z43_0 (fX7_layNext_L8 N x1 x2 r1 fu8) fu56 I0_l56 M0_l56 y56_7 = some R → W p l e (headSpec wsX7_layNext { frames := 1, cells := 0, slots := 0, locals := 20 }).room s m [.ref (a0 0), .int x1, .int x2].toArray below meth c H locs 0 0 (MQ below (va_Qv (fun _ : Unit => True) (fun _ t => wb_post D [(cB, .byte), (cI, .int), (cZ, .boolean)] A (wWX7 cB cI cZ a0 R.1 R.2) t) A) [.ref (a0 0), .int x1, .int x2].toArray s 0 0 A) (F0 m 56 ls []) := by
          intro fu56
          induction fu56 with
          | zero =>
            intro I0_l56 M0_l56 y56_7 H locs hP hD hS ls hl hf
            exact absurd hf (by rw [fX7_layNext_L56.eq_1]; exact fun h => nomatch h)
          | succ fu56 ih56 =>
            intro I0_l56 M0_l56 y56_7 H locs hP hD hS ls hl hf
            rw [fX7_layNext_L56.eq_2] at hf
            refine lv_iload hx hb dX7_layNext_56 (lv_at hl 7 rfl) ?_
            refine lv_iload_n hx hb dX7_layNext_58 rfl (lv_at hl 3 rfl) ?_
            refine lv_icmp_gt (tgt := 99) hx hb dX7_layNext_59 (by decide) (fun hc => ?_) (fun hc => ?_)
            · replace hf := wb_t hc hf
              obtain ⟨v3, ev3, hf⟩ := wb_v hf
              refine lv_iinc (v := v3) (lv' := [(4, .int v3), (0, .ref (a0 0)), (1, .int x1), (2, .int x2), (3, .int r1), (5, .int z43_0), (6, .int v2), (7, .int y56_7)]) hx hb dX7_layNext_99 hl (k := 4) rfl (by rw [ev3]; rfl) (by decide) rfl (fun ls hl => ?_)
              refine lv_goto (tgt := 8) hx hb dX7_layNext_102 (by decide) ?_
              exact ih8 I0_l56 M0_l56 v3 H locs hP hD hS ls (lv_sub hl [1, 2, 3, 4, 0] rfl) hf
            · replace hf := wb_f hc hf
              refine lv_aload_n hx hb dX7_layNext_62 rfl (lv_at hl 0 rfl) ?_
              refine va_get (D := D) (ci := 7) (v := .ref (a0 6)) (C := RX7) (T := TX7) (N := 6) hx hb hts hinX7 hown hK hP 0 rfl rfl 5 (by decide) (hts (.fieldLink RX7 28 "WheelBook$Outcomes" "ways" "[I") (List.mem_of_getElem? (i := 2) rfl)) (fun _ h9 => h9) rfl dX7_layNext_63 ?_
              refine lv_bipush (v := (9 : Int32)) hx hb dX7_layNext_66 (by decide) ?_
              refine lv_iload hx hb dX7_layNext_68 (lv_at hl 6 rfl) ?_
              refine lv_imul hx hb dX7_layNext_70 ?_
              refine lv_iload hx hb dX7_layNext_71 (lv_at hl 7 rfl) ?_
              refine lv_iadd hx hb dX7_layNext_73 ?_
              refine lv_iload hx hb dX7_layNext_74 (lv_at hl 5 rfl) ?_
              refine lv_iadd hx hb dX7_layNext_76 ?_
              refine lv_dup2_11 hx hb dX7_layNext_77 rfl rfl ?_
              obtain ⟨hin, hf⟩ := wb_n hf
              refine va_iald hx hb hK hP 6 1 rfl rfl hin dX7_layNext_78 ?_
              refine lv_aload_n hx hb dX7_layNext_79 rfl (lv_at hl 0 rfl) ?_
              refine va_get (D := D) (ci := 7) (v := .ref (a0 6)) (C := RX7) (T := TX7) (N := 6) hx hb hts hinX7 hown hK hP 0 rfl rfl 5 (by decide) (hts (.fieldLink RX7 28 "WheelBook$Outcomes" "ways" "[I") (List.mem_of_getElem? (i := 2) rfl)) (fun _ h9 => h9) rfl dX7_layNext_80 ?_
              refine lv_bipush (v := (9 : Int32)) hx hb dX7_layNext_83 (by decide) ?_
              refine lv_iload_n hx hb dX7_layNext_85 rfl (lv_at hl 1 rfl) ?_
              refine lv_imul hx hb dX7_layNext_86 ?_
              refine lv_iload hx hb dX7_layNext_87 (lv_at hl 7 rfl) ?_
              refine lv_iadd hx hb dX7_layNext_89 ?_
              obtain ⟨hin, hf⟩ := wb_n hf
              refine va_iald hx hb hK hP 6 1 rfl rfl hin dX7_layNext_90 ?_
              refine lv_iadd hx hb dX7_layNext_91 ?_
              obtain ⟨hin, hf⟩ := wb_n hf
              refine va_iast hx hb hK hP hD hS 6 1 rfl rfl hin dX7_layNext_92 (fun H locs hP hD hS => ?_)
              have hP : va_P D vwCl (wWX7 cB cI cZ a0 I0_l56 (wb_um M0_l56 5 (((((9 : Int32) * v2) + y56_7) + z43_0)).toNatClampNeg ((M0_l56 5 (((((9 : Int32) * v2) + y56_7) + z43_0)).toNatClampNeg) + (M0_l56 5 ((((9 : Int32) * x1) + y56_7)).toNatClampNeg)))) H := hP
              have hD : va_D A (wWX7 cB cI cZ a0 I0_l56 (wb_um M0_l56 5 (((((9 : Int32) * v2) + y56_7) + z43_0)).toNatClampNeg ((M0_l56 5 (((((9 : Int32) * v2) + y56_7) + z43_0)).toNatClampNeg) + (M0_l56 5 ((((9 : Int32) * x1) + y56_7)).toNatClampNeg)))) := hD
              obtain ⟨M0_4, eM0_4, hf⟩ := wb_v hf
              rw [← eM0_4] at hP hD
              obtain ⟨v5, ev5, hf⟩ := wb_v hf
              refine lv_iinc (v := v5) (lv' := [(7, .int v5), (0, .ref (a0 0)), (1, .int x1), (2, .int x2), (3, .int r1), (4, .int y43_4), (5, .int z43_0), (6, .int v2)]) hx hb dX7_layNext_93 hl (k := 7) rfl (by rw [ev5]; rfl) (by decide) rfl (fun ls hl => ?_)
              refine lv_goto (tgt := 56) hx hb dX7_layNext_96 (by decide) ?_
              exact ih56 I0_l56 M0_4 v5 H locs hP hD hS ls (lv_sub hl [1, 2, 3, 4, 5, 6, 7, 0] rfl) hf
        exact L56 N I0_j43 M0_j43 (0 : Int32) H locs hP hD hS ls (lv_sub hl [3, 4, 5, 6, 7, 2, 1, 0] rfl) hf
      intro I0_l8 M0_l8 y8_4 H locs hP hD hS ls hl hf
      rw [fX7_layNext_L8.eq_2] at hf
      refine lv_iload hx hb dX7_layNext_8 (lv_at hl 4 rfl) ?_
      refine lv_iload_n hx hb dX7_layNext_10 rfl (lv_at hl 2 rfl) ?_
      refine lv_icmp_ge (tgt := 105) hx hb dX7_layNext_11 (by decide) (fun hc => ?_) (fun hc => ?_)
      · replace hf := wb_t hc hf
        exact W.vret hx hb hr (fun t ht hW => by rw [← Option.some.inj hf]; exact ⟨⟨(), rfl, trivial, by rw [ht]; exact hP, va_K.moved hW.alike hK, hD⟩, hS.F ht⟩) hS.2.2 dX7_layNext_105
      · replace hf := wb_f hc hf
        refine lv_iload_n hx hb dX7_layNext_14 rfl (lv_at hl 1 rfl) ?_
        refine lv_iload hx hb dX7_layNext_15 (lv_at hl 4 rfl) ?_
        refine lv_ishr hx hb dX7_layNext_17 ?_
        refine lv_iconst (v := (1 : Int32)) hx hb dX7_layNext_18 (by decide) ?_
        refine lv_iand hx hb dX7_layNext_19 ?_
        refine lv_if_ne (tgt := 99) hx hb dX7_layNext_20 (by decide) (fun hc => ?_) (fun hc => ?_)
        · replace hf := wb_f hc hf
          obtain ⟨v6, ev6, hf⟩ := wb_v hf
          refine lv_iinc (v := v6) (lv' := [(4, .int v6), (0, .ref (a0 0)), (1, .int x1), (2, .int x2), (3, .int r1)]) hx hb dX7_layNext_99 hl (k := 4) rfl (by rw [ev6]; rfl) (by decide) rfl (fun ls hl => ?_)
          refine lv_goto (tgt := 8) hx hb dX7_layNext_102 (by decide) ?_
          exact ih8 I0_l8 M0_l8 v6 H locs hP hD hS ls (lv_sub hl [1, 2, 3, 4, 0] rfl) hf
        · replace hf := wb_t hc hf
          refine lv_aload_n hx hb dX7_layNext_23 rfl (lv_at hl 0 rfl) ?_
          refine va_get (D := D) (ci := 7) (v := .ref (a0 5)) (C := RX7) (T := TX7) (N := 6) hx hb hts hinX7 hown hK hP 0 rfl rfl 4 (by decide) (hts (.fieldLink RX7 24 "WheelBook$Outcomes" "hit" "[Z") (List.mem_of_getElem? (i := 1) rfl)) (fun _ h9 => h9) rfl dX7_layNext_24 ?_
          refine lv_bipush (v := (8 : Int32)) hx hb dX7_layNext_27 (by decide) ?_
          refine lv_iload_n hx hb dX7_layNext_29 rfl (lv_at hl 3 rfl) ?_
          refine lv_imul hx hb dX7_layNext_30 ?_
          refine lv_iload hx hb dX7_layNext_31 (lv_at hl 4 rfl) ?_
          refine lv_iadd hx hb dX7_layNext_33 ?_
          obtain ⟨hin, hf⟩ := wb_n hf
          refine va_zald hx hb hK hP 5 2 rfl rfl hin dX7_layNext_34 ?_
          refine lv_if_eq (tgt := 42) hx hb dX7_layNext_35 (by decide) (fun hc => ?_) (fun hc => ?_)
          · replace hf := wb_t hc hf
            refine lv_iconst (v := (0 : Int32)) hx hb dX7_layNext_42 (by decide) ?_
            exact J43 I0_l8 M0_l8 y8_4 (0 : Int32) H locs hP hD hS ls (lv_sub hl [0, 1, 2, 3, 4] rfl) hf
          · replace hf := wb_f hc hf
            refine lv_iconst (v := (1 : Int32)) hx hb dX7_layNext_38 (by decide) ?_
            refine lv_goto (tgt := 43) hx hb dX7_layNext_39 (by decide) ?_
            exact J43 I0_l8 M0_l8 y8_4 (1 : Int32) H locs hP hD hS ls (lv_sub hl [0, 1, 2, 3, 4] rfl) hf
  exact L8 N I0 M0 (0 : Int32) H locs hP hD hS ls (lv_sub hl [2, 3, 4, 1, 0] rfl) hf

set_option maxHeartbeats 4000000 in
set_option maxRecDepth 100000 in
theorem cn_X7_waysToHit (l : Launch) (D : va_G) (cB cI cZ : ClassId) (N : Nat) (a0 : Nat → Nat) (I0 : Nat → Int32) (M0 : Nat → Nat → Int32) (x1 : Int32) (x2 : Int32) (sz : Nat) (R : Int32 × (Nat → Int32) × (Nat → Nat → Int32)) (hf : fX7_waysToHit N I0 M0 x1 x2 = some R) : Met l yX7_waysToHit wsX7_waysToHit ({ frames := 2, cells := 0, slots := 0, locals := 47 }) (va_Pc [.ref (a0 0), .int x1, .int x2] (wb_preD D [(cB, .byte), (cI, .int), (cZ, .boolean)] (wWX7 cB cI cZ a0 I0 M0) sz)) (va_Qi (fun r (_ : Unit) => r = R.1) (fun _ t => wb_post D [(cB, .byte), (cI, .int), (cZ, .boolean)] (va_A (wWX7 cB cI cZ a0 I0 M0) sz) (wWX7 cB cI cZ a0 R.2.1 R.2.2) t) (va_A (wWX7 cB cI cZ a0 I0 M0) sz)) 0 0 (va_A (wWX7 cB cI cZ a0 I0 M0) sz) := by
  refine Met.ofW (cc := cX7_waysToHit) (maxL := 6) (ret := (some .int)) pn_X7 rfl ?_
  intro p e s m args below meth c s₁ B hml hv
  obtain ⟨rfl, hsz, hP, hK, hD0⟩ := hv
  have hx := B.exec
  have hb := B.bytes
  have hr := B.returns
  have hts := atoms_spec (ws := wsX7_waysToHit) B.pre
  have hown : s.vm.findClass RX7 = some m.cls := (findClass_of_methodNamed B.named :)
  have hlocks := B.notSynchronized
  have hinX7 : ∀ w ∈ u_ws RX7 TX7 6, w ∈ wsX7_waysToHit := fun w h => List.mem_cons_of_mem _ (List.mem_append_right _ h)
  subst hsz
  have hD := hD0.self (sz := s.heap.size)
  generalize hAe : va_A (wWX7 cB cI cZ a0 I0 M0) s.heap.size = A at hD ⊢
  have hA : ∀ q : Nat, s.heap.size ≤ q → A q := fun q h => by rw [← hAe]; exact Or.inr h
  have hS : va_S A s.heap s.heap [] := va_S.rf
  have hl := lv_entry ([.ref (a0 0), .int x1, .int x2]) (n := 6) (Nat.le_of_ble_eq_true rfl)
  rw [lg_entry_eq]
  generalize (lg_sl ([.ref (a0 0), .int x1, .int x2]) ++ List.replicate (6 - (lg_sl ([.ref (a0 0), .int x1, .int x2])).length) Slot.unset).toArray = ls at hl ⊢
  have hl : lv_has ls 6 [(0, .ref (a0 0)), (1, .int x1), (2, .int x2)] := hl
  unfold fX7_waysToHit at hf
  obtain ⟨H, hHe⟩ : ∃ H : Heap, H = s.heap := ⟨_, rfl⟩
  obtain ⟨locs, hle⟩ : ∃ locs : List Loc, locs = [] := ⟨_, rfl⟩
  refine wb_start (H := H) (locs := locs) hHe hle ?_
  rw [← hHe] at hP
  have hS : va_S A s.heap H locs := by rw [hHe, hle]; exact va_S.rf
  refine lv_iconst (v := (1 : Int32)) hx hb dX7_waysToHit_0 (by decide) ?_
  refine lv_iload_n hx hb dX7_waysToHit_1 rfl (lv_at hl 1 rfl) ?_
  refine lv_ishl hx hb dX7_waysToHit_2 ?_
  refine lv_iconst (v := (1 : Int32)) hx hb dX7_waysToHit_3 (by decide) ?_
  refine lv_isub hx hb dX7_waysToHit_4 ?_
  obtain ⟨v1, ev1, hf⟩ := wb_v hf
  refine wb_topi ev1 ?_
  refine lv_istore_n (lv' := [(3, .int v1), (0, .ref (a0 0)), (1, .int x1), (2, .int x2)]) hx hb dX7_waysToHit_5 rfl hl (by decide) rfl (fun ls hl => ?_)
  refine lv_aload_n hx hb dX7_waysToHit_6 rfl (lv_at hl 1 rfl) ?_
  refine va_get (D := D) (ci := 7) (v := .ref (a0 6)) (C := RX7) (T := TX7) (N := 6) hx hb hts hinX7 hown hK hP 0 rfl rfl 5 (by decide) (hts (.fieldLink RX7 28 "WheelBook$Outcomes" "ways" "[I") (List.mem_of_getElem? (i := 1) rfl)) (fun _ h9 => h9) rfl dX7_waysToHit_7 ?_
  refine lv_iconst (v := (0 : Int32)) hx hb dX7_waysToHit_10 (by decide) ?_
  obtain ⟨r2, hr2, hf⟩ := wb_b hf
  have hPc := hP.sub (ws' := ([(((a0 6), .inl (cI, 2304, .inl (M0 5))) : Nat × va_E)] : va_W)) [6] rfl
  have hDc := hD.sub (ws' := ([(((a0 6), .inl (cI, 2304, .inl (M0 5))) : Nat × va_E)] : va_W)) [6] (by decide) rfl
  have hFc := va_free (wc := ([(((a0 6), .inl (cI, 2304, .inl (M0 5))) : Nat × va_E)] : va_W)) hD hS hA [6] rfl
  refine va_callv (va_runS (As := [.ref (a0 6), .int (0 : Int32)]) (rest := []) ⟨hx, hb, hml, hown, hts⟩ (cn_J7_fill_53178 l D cB cI cZ N (a0 6) 2304 (M0 5) (0 : Int32) H.size r2 hr2) (va_cwS 2 hts gX7_waysToHit_J7_fill_53178 rfl rfl rfl csJ7_fill_53178 ⟨Nat.le_of_ble_eq_true rfl, Nat.le_of_ble_eq_true rfl⟩) (wb_preDS hPc hK hDc) rfl rfl hl.1 rfl (lv_room (Nat.le_of_ble_eq_true rfl)) dX7_waysToHit_11 ⟨Nat.le_of_ble_eq_true rfl, Nat.le_of_ble_eq_true rfl⟩) hS (fun q _ h => hFc q h) hFc (fun u t H locs ht hvm hw hB hz1 hk1 hS => ?_)
  obtain ⟨hP, hD⟩ := wj_s (wc := ([(((a0 6), .inl (cI, 2304, .inl (M0 5))) : Nat × va_E)] : va_W)) (w1 := ([(((a0 6), .inl (cI, 2304, .inl r2)) : Nat × va_E)] : va_W)) (wf := (wWX7 cB cI cZ a0 I0 (wb_mm M0 5 r2))) 6 7 hP hD rfl rfl hk1 hFc ht hB
  obtain ⟨M0_3, eM0_3, hf⟩ := wb_v hf
  rw [← eM0_3] at hP hD
  refine lv_aload_n hx hb dX7_waysToHit_14 rfl (lv_at hl 1 rfl) ?_
  refine va_get (D := D) (ci := 7) (v := .ref (a0 6)) (C := RX7) (T := TX7) (N := 6) hx hb hts hinX7 hown hK hP 0 rfl rfl 5 (by decide) (hts (.fieldLink RX7 28 "WheelBook$Outcomes" "ways" "[I") (List.mem_of_getElem? (i := 1) rfl)) (fun _ h9 => h9) rfl dX7_waysToHit_15 ?_
  refine lv_iconst (v := (0 : Int32)) hx hb dX7_waysToHit_18 (by decide) ?_
  refine lv_iconst (v := (1 : Int32)) hx hb dX7_waysToHit_19 (by decide) ?_
  obtain ⟨hin, hf⟩ := wb_n hf
  refine va_iast hx hb hK hP hD hS 6 1 rfl rfl hin dX7_waysToHit_20 (fun H locs hP hD hS => ?_)
  have hP : va_P D vwCl (wWX7 cB cI cZ a0 I0 (wb_um M0_3 5 ((0 : Int32)).toNatClampNeg (1 : Int32))) H := hP
  have hD : va_D A (wWX7 cB cI cZ a0 I0 (wb_um M0_3 5 ((0 : Int32)).toNatClampNeg (1 : Int32))) := hD
  obtain ⟨M0_4, eM0_4, hf⟩ := wb_v hf
  rw [← eM0_4] at hP hD
  refine lv_iconst (v := (0 : Int32)) hx hb dX7_waysToHit_21 (by decide) ?_
  refine lv_istore (lv' := [(4, .int (0 : Int32)), (3, .int v1), (0, .ref (a0 0)), (1, .int x1), (2, .int x2)]) hx hb dX7_waysToHit_22 hl (by decide) rfl (fun ls hl => ?_)
  have L24 : ∀ (fu24 : Nat) (I0_l24 : Nat → Int32) (M0_l24 : Nat → Nat → Int32) (y24_4 : Int32) (H : Heap) (locs : List Loc), va_P D vwCl (wWX7 cB cI cZ a0 I0_l24 M0_l24) H → va_D A (wWX7 cB cI cZ a0 I0_l24 M0_l24) → va_S A s.heap H locs → ∀ (ls : Array Slot), lv_has ls 6 [(0, .ref (a0 0)), (1, .int x1), (2, .int x2), (3, .int v1), (4, .int y24_4)] → fX7_waysToHit_L24 N x1 x2 v1 fu24 I0_l24 M0_l24 y24_4 = some R → W p l e (headSpec wsX7_waysToHit { frames := 2, cells := 0, slots := 0, locals := 47 }).room s m [.ref (a0 0), .int x1, .int x2].toArray below meth c H locs 0 0 (MQ below (va_Qi (fun r (_ : Unit) => r = R.1) (fun _ t => wb_post D [(cB, .byte), (cI, .int), (cZ, .boolean)] A (wWX7 cB cI cZ a0 R.2.1 R.2.2) t) A) [.ref (a0 0), .int x1, .int x2].toArray s 0 0 A) (F0 m 24 ls []) := by
    intro fu24
    induction fu24 with
    | zero =>
      intro I0_l24 M0_l24 y24_4 H locs hP hD hS ls hl hf
      exact absurd hf (by rw [fX7_waysToHit_L24.eq_1]; exact fun h => nomatch h)
    | succ fu24 ih24 =>
      intro I0_l24 M0_l24 y24_4 H locs hP hD hS ls hl hf
      rw [fX7_waysToHit_L24.eq_2] at hf
      refine lv_iload hx hb dX7_waysToHit_24 (lv_at hl 4 rfl) ?_
      refine lv_iload_n hx hb dX7_waysToHit_26 rfl (lv_at hl 3 rfl) ?_
      refine lv_icmp_ge (tgt := 43) hx hb dX7_waysToHit_27 (by decide) (fun hc => ?_) (fun hc => ?_)
      · replace hf := wb_t hc hf
        refine lv_iconst (v := (0 : Int32)) hx hb dX7_waysToHit_43 (by decide) ?_
        refine lv_istore (lv' := [(4, .int (0 : Int32)), (0, .ref (a0 0)), (1, .int x1), (2, .int x2), (3, .int v1)]) hx hb dX7_waysToHit_44 hl (by decide) rfl (fun ls hl => ?_)
        refine lv_iload_n hx hb dX7_waysToHit_46 rfl (lv_at hl 3 rfl) ?_
        refine lv_istore (lv' := [(5, .int x2), (4, .int (0 : Int32)), (0, .ref (a0 0)), (1, .int x1), (2, .int x2), (3, .int v1)]) hx hb dX7_waysToHit_47 hl (by decide) rfl (fun ls hl => ?_)
        have L49 : ∀ (fu49 : Nat) (I0_l49 : Nat → Int32) (M0_l49 : Nat → Nat → Int32) (y49_4 : Int32) (y49_5 : Int32) (H : Heap) (locs : List Loc), va_P D vwCl (wWX7 cB cI cZ a0 I0_l49 M0_l49) H → va_D A (wWX7 cB cI cZ a0 I0_l49 M0_l49) → va_S A s.heap H locs → ∀ (ls : Array Slot), lv_has ls 6 [(0, .ref (a0 0)), (1, .int x1), (3, .int v1), (4, .int y49_4), (5, .int y49_5)] → fX7_waysToHit_L49 N x1 x2 v1 (fX7_waysToHit_L24 N x1 x2 v1 fu24) fu49 I0_l49 M0_l49 y49_4 y49_5 = some R → W p l e (headSpec wsX7_waysToHit { frames := 2, cells := 0, slots := 0, locals := 47 }).room s m [.ref (a0 0), .int x1, .int x2].toArray below meth c H locs 0 0 (MQ below (va_Qi (fun r (_ : Unit) => r = R.1) (fun _ t => wb_post D [(cB, .byte), (cI, .int), (cZ, .boolean)] A (wWX7 cB cI cZ a0 R.2.1 R.2.2) t) A) [.ref (a0 0), .int x1, .int x2].toArray s 0 0 A) (F0 m 49 ls []) := by
          intro fu49
          induction fu49 with
          | zero =>
            intro I0_l49 M0_l49 y49_4 y49_5 H locs hP hD hS ls hl hf
            exact absurd hf (by rw [fX7_waysToHit_L49.eq_1]; exact fun h => nomatch h)
          | succ fu49 ih49 =>
            intro I0_l49 M0_l49 y49_4 y49_5 H locs hP hD hS ls hl hf
            rw [fX7_waysToHit_L49.eq_2] at hf
            refine lv_iload hx hb dX7_waysToHit_49 (lv_at hl 4 rfl) ?_
            refine lv_iload_n hx hb dX7_waysToHit_51 rfl (lv_at hl 1 rfl) ?_
            refine lv_icmp_gt (tgt := 78) hx hb dX7_waysToHit_52 (by decide) (fun hc => ?_) (fun hc => ?_)
            · replace hf := wb_t hc hf
              refine lv_iload hx hb dX7_waysToHit_78 (lv_at hl 3 rfl) ?_
              exact W.iret (v := y49_4) hx hb hr (fun t ht hW => by rw [← Option.some.inj hf]; exact ⟨⟨y49_4, (), rfl, rfl, by rw [ht]; exact hP, va_K.moved hW.alike hK, hD⟩, hS.F ht⟩) hS.2.2 dX7_waysToHit_80
            · replace hf := wb_f hc hf
              refine lv_iload hx hb dX7_waysToHit_55 (lv_at hl 3 rfl) ?_
              refine lv_aload_n hx hb dX7_waysToHit_57 rfl (lv_at hl 0 rfl) ?_
              refine va_get (D := D) (ci := 7) (v := .ref (a0 6)) (C := RX7) (T := TX7) (N := 6) hx hb hts hinX7 hown hK hP 0 rfl rfl 5 (by decide) (hts (.fieldLink RX7 28 "WheelBook$Outcomes" "ways" "[I") (List.mem_of_getElem? (i := 1) rfl)) (fun _ h9 => h9) rfl dX7_waysToHit_58 ?_
              refine lv_bipush (v := (9 : Int32)) hx hb dX7_waysToHit_61 (by decide) ?_
              refine lv_iload_n hx hb dX7_waysToHit_63 rfl (lv_at hl 2 rfl) ?_
              refine lv_imul hx hb dX7_waysToHit_64 ?_
              refine lv_iload hx hb dX7_waysToHit_65 (lv_at hl 4 rfl) ?_
              refine lv_iadd hx hb dX7_waysToHit_67 ?_
              obtain ⟨hin, hf⟩ := wb_n hf
              refine va_iald hx hb hK hP 6 1 rfl rfl hin dX7_waysToHit_68 ?_
              refine lv_iadd hx hb dX7_waysToHit_69 ?_
              obtain ⟨v5, ev5, hf⟩ := wb_v hf
              refine wb_topi ev5 ?_
              refine lv_istore (lv' := [(4, .int v5), (0, .ref (a0 0)), (1, .int x1), (3, .int v1), (5, .int y49_5)]) hx hb dX7_waysToHit_70 hl (by decide) rfl (fun ls hl => ?_)
              obtain ⟨v6, ev6, hf⟩ := wb_v hf
              refine lv_iinc (v := v6) (lv' := [(5, .int v6), (4, .int v5), (0, .ref (a0 0)), (1, .int x1), (3, .int v1)]) hx hb dX7_waysToHit_72 hl (k := 4) rfl (by rw [ev6]; rfl) (by decide) rfl (fun ls hl => ?_)
              refine lv_goto (tgt := 49) hx hb dX7_waysToHit_75 (by decide) ?_
              exact ih49 I0_l49 M0_l49 v5 v6 H locs hP hD hS ls (lv_sub hl [2, 3, 4, 1, 0] rfl) hf
        exact L49 N I0_l24 M0_l24 (0 : Int32) x2 H locs hP hD hS ls (lv_sub hl [2, 3, 5, 1, 0] rfl) hf
      · replace hf := wb_f hc hf
        refine lv_aload_n hx hb dX7_waysToHit_30 rfl (lv_at hl 0 rfl) ?_
        refine lv_iload hx hb dX7_waysToHit_31 (lv_at hl 4 rfl) ?_
        refine lv_iload_n hx hb dX7_waysToHit_33 rfl (lv_at hl 1 rfl) ?_
        obtain ⟨r7, hr7, hf⟩ := wb_b hf
        have hPc := hP
        have hDc := hD
        have hFc := wj_F hDc hS hA
        refine va_callv (va_runV (As := [.int y24_4, .int x1]) (rest := []) ⟨hx, hb, hml, hown, hts⟩ (cn_X7_layNext l D cB cI cZ N a0 I0_l24 M0_l24 y24_4 x1 H.size r7 hr7) (cwV 2 hts gX7_waysToHit_X7_layNext rfl rfl rfl cdX7_layNext ⟨Nat.le_of_ble_eq_true rfl, Nat.le_of_ble_eq_true rfl⟩) (wb_preDV hPc hK hDc (wr_7 hK hP (q0 := 0) rfl)) rfl rfl hl.1 rfl (lv_room (Nat.le_of_ble_eq_true rfl)) dX7_waysToHit_34 ⟨Nat.le_of_ble_eq_true rfl, Nat.le_of_ble_eq_true rfl⟩) hS (fun q _ h => hFc q h) hFc (fun u t H locs ht hvm hw hB hz1 hk1 hS => ?_)
        obtain ⟨hP, hD⟩ := wj_0 hFc ht hB
        obtain ⟨v8, ev8, hf⟩ := wb_v hf
        refine lv_iinc (v := v8) (lv' := [(4, .int v8), (0, .ref (a0 0)), (1, .int x1), (2, .int x2), (3, .int v1)]) hx hb dX7_waysToHit_37 hl (k := 4) rfl (by rw [ev8]; rfl) (by decide) rfl (fun ls hl => ?_)
        refine lv_goto (tgt := 24) hx hb dX7_waysToHit_40 (by decide) ?_
        exact ih24 r7.1 r7.2 v8 H locs hP hD hS ls (lv_sub hl [1, 2, 3, 4, 0] rfl) hf
  exact L24 N I0 M0_4 (0 : Int32) H locs hP hD hS ls (lv_sub hl [2, 3, 4, 1, 0] rfl) hf

set_option maxHeartbeats 4000000 in
set_option maxRecDepth 100000 in
theorem cn_X7_chanceOfLives (l : Launch) (D : va_G) (cB cI cZ : ClassId) (N : Nat) (a0 : Nat → Nat) (I0 : Nat → Int32) (M0 : Nat → Nat → Int32) (x1 : Int32) (sz : Nat) (R : Int32 × (Nat → Int32) × (Nat → Nat → Int32)) (hf : fX7_chanceOfLives N I0 M0 x1 = some R) : Met l yX7_chanceOfLives wsX7_chanceOfLives ({ frames := 3, cells := 0, slots := 0, locals := 87 }) (va_Pc [.ref (a0 0), .int x1] (wb_preD D [(cB, .byte), (cI, .int), (cZ, .boolean)] (wWX7 cB cI cZ a0 I0 M0) sz)) (va_Qi (fun r (_ : Unit) => r = R.1) (fun _ t => wb_post D [(cB, .byte), (cI, .int), (cZ, .boolean)] (va_A (wWX7 cB cI cZ a0 I0 M0) sz) (wWX7 cB cI cZ a0 R.2.1 R.2.2) t) (va_A (wWX7 cB cI cZ a0 I0 M0) sz)) 0 0 (va_A (wWX7 cB cI cZ a0 I0 M0) sz) := by
  refine Met.ofW (cc := cX7_chanceOfLives) (maxL := 5) (ret := (some .int)) pn_X7 rfl ?_
  intro p e s m args below meth c s₁ B hml hv
  obtain ⟨rfl, hsz, hP, hK, hD0⟩ := hv
  have hx := B.exec
  have hb := B.bytes
  have hr := B.returns
  have hts := atoms_spec (ws := wsX7_chanceOfLives) B.pre
  have hown : s.vm.findClass RX7 = some m.cls := (findClass_of_methodNamed B.named :)
  have hlocks := B.notSynchronized
  have hinX7 : ∀ w ∈ u_ws RX7 TX7 6, w ∈ wsX7_chanceOfLives := fun w h => List.mem_cons_of_mem _ (List.mem_append_right _ h)
  subst hsz
  have hD := hD0.self (sz := s.heap.size)
  generalize hAe : va_A (wWX7 cB cI cZ a0 I0 M0) s.heap.size = A at hD ⊢
  have hA : ∀ q : Nat, s.heap.size ≤ q → A q := fun q h => by rw [← hAe]; exact Or.inr h
  have hS : va_S A s.heap s.heap [] := va_S.rf
  have hl := lv_entry ([.ref (a0 0), .int x1]) (n := 5) (Nat.le_of_ble_eq_true rfl)
  rw [lg_entry_eq]
  generalize (lg_sl ([.ref (a0 0), .int x1]) ++ List.replicate (5 - (lg_sl ([.ref (a0 0), .int x1])).length) Slot.unset).toArray = ls at hl ⊢
  have hl : lv_has ls 5 [(0, .ref (a0 0)), (1, .int x1)] := hl
  unfold fX7_chanceOfLives at hf
  obtain ⟨H, hHe⟩ : ∃ H : Heap, H = s.heap := ⟨_, rfl⟩
  obtain ⟨locs, hle⟩ : ∃ locs : List Loc, locs = [] := ⟨_, rfl⟩
  refine wb_start (H := H) (locs := locs) hHe hle ?_
  rw [← hHe] at hP
  have hS : va_S A s.heap H locs := by rw [hHe, hle]; exact va_S.rf
  refine lv_aload_n hx hb dX7_chanceOfLives_0 rfl (lv_at hl 0 rfl) ?_
  refine lv_aload_n hx hb dX7_chanceOfLives_1 rfl (lv_at hl 0 rfl) ?_
  refine va_get (D := D) (ci := 7) (v := .ref (a0 1)) (C := RX7) (T := TX7) (N := 6) hx hb hts hinX7 hown hK hP 0 rfl rfl 0 (by decide) (hts (.fieldLink RX7 9 "WheelBook$Outcomes" "foretold" "[I") (List.mem_of_getElem? (i := 1) rfl)) (fun _ h9 => h9) rfl dX7_chanceOfLives_2 ?_
  obtain ⟨r1, hr1, hf⟩ := wb_b hf
  have hPc := hP
  have hDc := hD
  have hFc := wj_F hDc hS hA
  refine va_calli (va_runV (As := [.ref (a0 1)]) (rest := []) ⟨hx, hb, hml, hown, hts⟩ (cn_X7_setRows_11 l D cB cI cZ N a0 I0 M0 H.size r1 hr1) (cwV 1 hts gX7_chanceOfLives_X7_setRows rfl rfl rfl cdX7_setRows ⟨Nat.le_of_ble_eq_true rfl, Nat.le_of_ble_eq_true rfl⟩) (wb_preDV hPc hK hDc (wr_7 hK hP (q0 := 0) rfl)) rfl rfl hl.1 rfl (lv_room (Nat.le_of_ble_eq_true rfl)) dX7_chanceOfLives_5 ⟨Nat.le_of_ble_eq_true rfl, Nat.le_of_ble_eq_true rfl⟩) hS (fun q _ h => hFc q h) hFc (fun r9 u t H locs ht hvm hw hB hz1 hk1 hS => ?_)
  obtain ⟨hP, hD⟩ := wj_0 hFc ht hB
  rw [hw]
  obtain ⟨v2, ev2, hf⟩ := wb_v hf
  refine wb_topi ev2 ?_
  refine lv_istore_n (lv' := [(2, .int v2), (0, .ref (a0 0)), (1, .int x1)]) hx hb dX7_chanceOfLives_8 rfl hl (by decide) rfl (fun ls hl => ?_)
  refine lv_iload_n hx hb dX7_chanceOfLives_9 rfl (lv_at hl 0 rfl) ?_
  refine lv_bipush (v := (8 : Int32)) hx hb dX7_chanceOfLives_10 (by decide) ?_
  refine lv_icmp_le (tgt := 17) hx hb dX7_chanceOfLives_12 (by decide) (fun hc => ?_) (fun hc => ?_)
  · replace hf := wb_t hc hf
    refine lv_iconst (v := (0 : Int32)) hx hb dX7_chanceOfLives_17 (by decide) ?_
    refine lv_istore_n (lv' := [(3, .int (0 : Int32)), (2, .int v2), (0, .ref (a0 0)), (1, .int x1)]) hx hb dX7_chanceOfLives_18 rfl hl (by decide) rfl (fun ls hl => ?_)
    have L19 : ∀ (fu19 : Nat) (I0_l19 : Nat → Int32) (M0_l19 : Nat → Nat → Int32) (y19_3 : Int32) (H : Heap) (locs : List Loc), va_P D vwCl (wWX7 cB cI cZ a0 I0_l19 M0_l19) H → va_D A (wWX7 cB cI cZ a0 I0_l19 M0_l19) → va_S A s.heap H locs → ∀ (ls : Array Slot), lv_has ls 5 [(0, .ref (a0 0)), (1, .int x1), (2, .int v2), (3, .int y19_3)] → fX7_chanceOfLives_L19 N x1 v2 fu19 I0_l19 M0_l19 y19_3 = some R → W p l e (headSpec wsX7_chanceOfLives { frames := 3, cells := 0, slots := 0, locals := 87 }).room s m [.ref (a0 0), .int x1].toArray below meth c H locs 0 0 (MQ below (va_Qi (fun r (_ : Unit) => r = R.1) (fun _ t => wb_post D [(cB, .byte), (cI, .int), (cZ, .boolean)] A (wWX7 cB cI cZ a0 R.2.1 R.2.2) t) A) [.ref (a0 0), .int x1].toArray s 0 0 A) (F0 m 19 ls []) := by
      intro fu19
      induction fu19 with
      | zero =>
        intro I0_l19 M0_l19 y19_3 H locs hP hD hS ls hl hf
        exact absurd hf (by rw [fX7_chanceOfLives_L19.eq_1]; exact fun h => nomatch h)
      | succ fu19 ih19 =>
        intro I0_l19 M0_l19 y19_3 H locs hP hD hS ls hl hf
        rw [fX7_chanceOfLives_L19.eq_2] at hf
        refine lv_iload_n hx hb dX7_chanceOfLives_19 rfl (lv_at hl 3 rfl) ?_
        refine lv_iload_n hx hb dX7_chanceOfLives_20 rfl (lv_at hl 2 rfl) ?_
        refine lv_icmp_ge (tgt := 80) hx hb dX7_chanceOfLives_21 (by decide) (fun hc => ?_) (fun hc => ?_)
        · replace hf := wb_t hc hf
          refine lv_aload_n hx hb dX7_chanceOfLives_80 rfl (lv_at hl 0 rfl) ?_
          refine lv_iload_n hx hb dX7_chanceOfLives_81 rfl (lv_at hl 2 rfl) ?_
          refine lv_aload_n hx hb dX7_chanceOfLives_82 rfl (lv_at hl 0 rfl) ?_
          refine lv_iload_n hx hb dX7_chanceOfLives_83 rfl (lv_at hl 1 rfl) ?_
          obtain ⟨r3, hr3, hf⟩ := wb_b hf
          have hPc := hP
          have hDc := hD
          have hFc := wj_F hDc hS hA
          refine va_calli (va_runV (As := [.int x1]) (rest := [.int v2, .ref (a0 0)]) ⟨hx, hb, hml, hown, hts⟩ (cn_X7_howManyHits l D cB cI cZ N a0 I0_l19 M0_l19 x1 H.size r3 hr3) (cwV 1 hts gX7_chanceOfLives_X7_howManyHits rfl rfl rfl cdX7_howManyHits ⟨Nat.le_of_ble_eq_true rfl, Nat.le_of_ble_eq_true rfl⟩) (wb_preDV hPc hK hDc (wr_7 hK hP (q0 := 0) rfl)) rfl rfl hl.1 rfl (lv_room (Nat.le_of_ble_eq_true rfl)) dX7_chanceOfLives_84 ⟨Nat.le_of_ble_eq_true rfl, Nat.le_of_ble_eq_true rfl⟩) hS (fun q _ h => hFc q h) hFc (fun r9 u t H locs ht hvm hw hB hz1 hk1 hS => ?_)
          obtain ⟨hP, hD⟩ := wj_0 hFc ht hB
          rw [hw]
          obtain ⟨r4, hr4, hf⟩ := wb_b hf
          have hPc := hP
          have hDc := hD
          have hFc := wj_F hDc hS hA
          refine va_calli (va_runV (As := [.int v2, .int r3.1]) (rest := []) ⟨hx, hb, hml, hown, hts⟩ (cn_X7_waysToHit l D cB cI cZ N a0 r3.2.1 r3.2.2 v2 r3.1 H.size r4 hr4) (cwV 2 hts gX7_chanceOfLives_X7_waysToHit rfl rfl rfl cdX7_waysToHit ⟨Nat.le_of_ble_eq_true rfl, Nat.le_of_ble_eq_true rfl⟩) (wb_preDV hPc hK hDc (wr_7 hK hP (q0 := 0) rfl)) rfl rfl hl.1 rfl (lv_room (Nat.le_of_ble_eq_true rfl)) dX7_chanceOfLives_87 ⟨Nat.le_of_ble_eq_true rfl, Nat.le_of_ble_eq_true rfl⟩) hS (fun q _ h => hFc q h) hFc (fun r9 u t H locs ht hvm hw hB hz1 hk1 hS => ?_)
          obtain ⟨hP, hD⟩ := wj_0 hFc ht hB
          rw [hw]
          exact W.iret (v := r4.1) hx hb hr (fun t ht hW => by rw [← Option.some.inj hf]; exact ⟨⟨r4.1, (), rfl, rfl, by rw [ht]; exact hP, va_K.moved hW.alike hK, hD⟩, hS.F ht⟩) hS.2.2 dX7_chanceOfLives_90
        · replace hf := wb_f hc hf
          refine lv_iconst (v := (0 : Int32)) hx hb dX7_chanceOfLives_24 (by decide) ?_
          refine lv_istore (lv' := [(4, .int (0 : Int32)), (0, .ref (a0 0)), (1, .int x1), (2, .int v2), (3, .int y19_3)]) hx hb dX7_chanceOfLives_25 hl (by decide) rfl (fun ls hl => ?_)
          have L27 : ∀ (fu27 : Nat) (I0_l27 : Nat → Int32) (M0_l27 : Nat → Nat → Int32) (y27_4 : Int32) (H : Heap) (locs : List Loc), va_P D vwCl (wWX7 cB cI cZ a0 I0_l27 M0_l27) H → va_D A (wWX7 cB cI cZ a0 I0_l27 M0_l27) → va_S A s.heap H locs → ∀ (ls : Array Slot), lv_has ls 5 [(0, .ref (a0 0)), (1, .int x1), (2, .int v2), (3, .int y19_3), (4, .int y27_4)] → fX7_chanceOfLives_L27 N x1 v2 y19_3 (fX7_chanceOfLives_L19 N x1 v2 fu19) fu27 I0_l27 M0_l27 y27_4 = some R → W p l e (headSpec wsX7_chanceOfLives { frames := 3, cells := 0, slots := 0, locals := 87 }).room s m [.ref (a0 0), .int x1].toArray below meth c H locs 0 0 (MQ below (va_Qi (fun r (_ : Unit) => r = R.1) (fun _ t => wb_post D [(cB, .byte), (cI, .int), (cZ, .boolean)] A (wWX7 cB cI cZ a0 R.2.1 R.2.2) t) A) [.ref (a0 0), .int x1].toArray s 0 0 A) (F0 m 27 ls []) := by
            intro fu27
            induction fu27 with
            | zero =>
              intro I0_l27 M0_l27 y27_4 H locs hP hD hS ls hl hf
              exact absurd hf (by rw [fX7_chanceOfLives_L27.eq_1]; exact fun h => nomatch h)
            | succ fu27 ih27 =>
              intro I0_l27 M0_l27 y27_4 H locs hP hD hS ls hl hf
              rw [fX7_chanceOfLives_L27.eq_2] at hf
              refine lv_iload hx hb dX7_chanceOfLives_27 (lv_at hl 4 rfl) ?_
              refine lv_iload_n hx hb dX7_chanceOfLives_29 rfl (lv_at hl 2 rfl) ?_
              refine lv_icmp_ge (tgt := 74) hx hb dX7_chanceOfLives_30 (by decide) (fun hc => ?_) (fun hc => ?_)
              · replace hf := wb_t hc hf
                obtain ⟨v5, ev5, hf⟩ := wb_v hf
                refine lv_iinc (v := v5) (lv' := [(3, .int v5), (0, .ref (a0 0)), (1, .int x1), (2, .int v2), (4, .int y27_4)]) hx hb dX7_chanceOfLives_74 hl (k := 3) rfl (by rw [ev5]; rfl) (by decide) rfl (fun ls hl => ?_)
                refine lv_goto (tgt := 19) hx hb dX7_chanceOfLives_77 (by decide) ?_
                exact ih19 I0_l27 M0_l27 v5 H locs hP hD hS ls (lv_sub hl [1, 2, 3, 0] rfl) hf
              · replace hf := wb_f hc hf
                refine lv_aload_n hx hb dX7_chanceOfLives_33 rfl (lv_at hl 0 rfl) ?_
                refine va_get (D := D) (ci := 7) (v := .ref (a0 5)) (C := RX7) (T := TX7) (N := 6) hx hb hts hinX7 hown hK hP 0 rfl rfl 4 (by decide) (hts (.fieldLink RX7 24 "WheelBook$Outcomes" "hit" "[Z") (List.mem_of_getElem? (i := 2) rfl)) (fun _ h9 => h9) rfl dX7_chanceOfLives_34 ?_
                refine lv_bipush (v := (8 : Int32)) hx hb dX7_chanceOfLives_37 (by decide) ?_
                refine lv_iload_n hx hb dX7_chanceOfLives_39 rfl (lv_at hl 3 rfl) ?_
                refine lv_imul hx hb dX7_chanceOfLives_40 ?_
                refine lv_iload hx hb dX7_chanceOfLives_41 (lv_at hl 4 rfl) ?_
                refine lv_iadd hx hb dX7_chanceOfLives_43 ?_
                refine lv_aload_n hx hb dX7_chanceOfLives_44 rfl (lv_at hl 0 rfl) ?_
                refine lv_aload_n hx hb dX7_chanceOfLives_45 rfl (lv_at hl 0 rfl) ?_
                refine va_get (D := D) (ci := 7) (v := .ref (a0 4)) (C := RX7) (T := TX7) (N := 6) hx hb hts hinX7 hown hK hP 0 rfl rfl 3 (by decide) (hts (.fieldLink RX7 21 "WheelBook$Outcomes" "rows" "[I") (List.mem_of_getElem? (i := 3) rfl)) (fun _ h9 => h9) rfl dX7_chanceOfLives_46 ?_
                refine lv_iload_n hx hb dX7_chanceOfLives_49 rfl (lv_at hl 3 rfl) ?_
                obtain ⟨hin, hf⟩ := wb_n hf
                refine va_iald hx hb hK hP 4 1 rfl rfl hin dX7_chanceOfLives_50 ?_
                refine lv_aload_n hx hb dX7_chanceOfLives_51 rfl (lv_at hl 0 rfl) ?_
                refine va_get (D := D) (ci := 7) (v := .ref (a0 2)) (C := RX7) (T := TX7) (N := 6) hx hb hts hinX7 hown hK hP 0 rfl rfl 1 (by decide) (hts (.fieldLink RX7 15 "WheelBook$Outcomes" "came" "[I") (List.mem_of_getElem? (i := 4) rfl)) (fun _ h9 => h9) rfl dX7_chanceOfLives_52 ?_
                refine lv_aload_n hx hb dX7_chanceOfLives_55 rfl (lv_at hl 0 rfl) ?_
                refine va_get (D := D) (ci := 7) (v := .ref (a0 4)) (C := RX7) (T := TX7) (N := 6) hx hb hts hinX7 hown hK hP 0 rfl rfl 3 (by decide) (hts (.fieldLink RX7 21 "WheelBook$Outcomes" "rows" "[I") (List.mem_of_getElem? (i := 3) rfl)) (fun _ h9 => h9) rfl dX7_chanceOfLives_56 ?_
                refine lv_iload hx hb dX7_chanceOfLives_59 (lv_at hl 4 rfl) ?_
                obtain ⟨hin, hf⟩ := wb_n hf
                refine va_iald hx hb hK hP 4 1 rfl rfl hin dX7_chanceOfLives_61 ?_
                obtain ⟨hin, hf⟩ := wb_n hf
                refine va_iald hx hb hK hP 2 1 rfl rfl hin dX7_chanceOfLives_62 ?_
                refine lv_iload_n hx hb dX7_chanceOfLives_63 rfl (lv_at hl 1 rfl) ?_
                obtain ⟨r6, hr6, hf⟩ := wb_b hf
                refine vp_callSi (W.runV (As := [.int (M0_l27 3 (y19_3).toNatClampNeg), .int (M0_l27 1 ((M0_l27 3 (y27_4).toNatClampNeg)).toNatClampNeg), .int x1]) (rest := [.int (((8 : Int32) * y19_3) + y27_4), .ref (a0 5)]) ⟨hx, hb, hml, hown, hts⟩ (cn_X7_isHit l D cB cI cZ N a0 I0_l27 M0_l27 (M0_l27 3 (y19_3).toNatClampNeg) (M0_l27 1 ((M0_l27 3 (y27_4).toNatClampNeg)).toNatClampNeg) x1 r6 hr6) (cwV 3 hts gX7_chanceOfLives_X7_isHit rfl rfl rfl cdX7_isHit ⟨Nat.le_of_ble_eq_true rfl, Nat.le_of_ble_eq_true rfl⟩) (wb_preV hP hK (wr_7 hK hP (q0 := 0) rfl)) rfl rfl hl.1 rfl (lv_room (Nat.le_of_ble_eq_true rfl)) dX7_chanceOfLives_64 ⟨Nat.le_of_ble_eq_true rfl, Nat.le_of_ble_eq_true rfl⟩) (fun r9 e9 => ?_)
                rw [e9]
                obtain ⟨hin, hf⟩ := wb_n hf
                refine va_zast hx hb hK hP hD hS 5 2 rfl rfl hin dX7_chanceOfLives_67 (fun H locs hP hD hS => ?_)
                have hP : va_P D vwCl (wWX7 cB cI cZ a0 I0_l27 (wb_um M0_l27 4 ((((8 : Int32) * y19_3) + y27_4)).toNatClampNeg (vp_nar .boolean r6))) H := hP
                have hD : va_D A (wWX7 cB cI cZ a0 I0_l27 (wb_um M0_l27 4 ((((8 : Int32) * y19_3) + y27_4)).toNatClampNeg (vp_nar .boolean r6))) := hD
                obtain ⟨M0_7, eM0_7, hf⟩ := wb_v hf
                rw [← eM0_7] at hP hD
                obtain ⟨v8, ev8, hf⟩ := wb_v hf
                refine lv_iinc (v := v8) (lv' := [(4, .int v8), (0, .ref (a0 0)), (1, .int x1), (2, .int v2), (3, .int y19_3)]) hx hb dX7_chanceOfLives_68 hl (k := 4) rfl (by rw [ev8]; rfl) (by decide) rfl (fun ls hl => ?_)
                refine lv_goto (tgt := 27) hx hb dX7_chanceOfLives_71 (by decide) ?_
                exact ih27 I0_l27 M0_7 v8 H locs hP hD hS ls (lv_sub hl [1, 2, 3, 4, 0] rfl) hf
          exact L27 N I0_l19 M0_l19 (0 : Int32) H locs hP hD hS ls (lv_sub hl [1, 2, 3, 4, 0] rfl) hf
    exact L19 N r1.2.1 r1.2.2 (0 : Int32) H locs hP hD hS ls (lv_sub hl [2, 3, 1, 0] rfl) hf
  · replace hf := wb_f hc hf
    refine lv_iconst (v := (-1 : Int32)) hx hb dX7_chanceOfLives_15 (by decide) ?_
    exact W.iret (v := (-1 : Int32)) hx hb hr (fun t ht hW => by rw [← Option.some.inj hf]; exact ⟨⟨(-1 : Int32), (), rfl, rfl, by rw [ht]; exact hP, va_K.moved hW.alike hK, hD⟩, hS.F ht⟩) hS.2.2 dX7_chanceOfLives_16

set_option maxHeartbeats 4000000 in
set_option maxRecDepth 100000 in
theorem cn_X7_isToldByLot (l : Launch) (D : va_G) (cB cI cZ : ClassId) (N : Nat) (a0 : Nat → Nat) (I0 : Nat → Int32) (M0 : Nat → Nat → Int32) (x1 : Int32) (x2 : Int32) (R : Int32) (hf : fX7_isToldByLot N I0 M0 x1 x2 = some R) : Met l yX7_isToldByLot wsX7_isToldByLot ({ frames := 1, cells := 0, slots := 0, locals := 22 }) (va_Pc [.ref (a0 0), .int x1, .int x2] (wb_pre D [(cB, .byte), (cI, .int), (cZ, .boolean)] (wWX1 cB cI cZ a0 I0 M0))) (vp_Si (fun r => r = R)) 0 0 (fun _ => False) := by
  refine Met.ofW (cc := cX7_isToldByLot) (maxL := 5) (ret := (some .boolean)) pn_X7 rfl ?_
  intro p e s m args below meth c s₁ B hml hv
  obtain ⟨rfl, hP, hK⟩ := hv
  have hx := B.exec
  have hb := B.bytes
  have hr := B.returns
  have hts := atoms_spec (ws := wsX7_isToldByLot) B.pre
  have hown : s.vm.findClass RX7 = some m.cls := (findClass_of_methodNamed B.named :)
  have hlocks := B.notSynchronized
  have hl := lv_entry ([.ref (a0 0), .int x1, .int x2]) (n := 5) (Nat.le_of_ble_eq_true rfl)
  rw [lg_entry_eq]
  generalize (lg_sl ([.ref (a0 0), .int x1, .int x2]) ++ List.replicate (5 - (lg_sl ([.ref (a0 0), .int x1, .int x2])).length) Slot.unset).toArray = ls at hl ⊢
  have hl : lv_has ls 5 [(0, .ref (a0 0)), (1, .int x1), (2, .int x2)] := hl
  unfold fX7_isToldByLot at hf
  refine lv_aload_n hx hb dX7_isToldByLot_0 rfl (lv_at hl 0 rfl) ?_
  refine lv_iload_n hx hb dX7_isToldByLot_1 rfl (lv_at hl 1 rfl) ?_
  refine lv_bipush (v := (8 : Int32)) hx hb dX7_isToldByLot_2 (by decide) ?_
  obtain ⟨r1, hr1, hf⟩ := wb_b hf
  refine vp_callSi (W.runV (As := [.int x1, .int (8 : Int32)]) (rest := []) ⟨hx, hb, hml, hown, hts⟩ (cn_X1_degreeOf l D cB cI cZ N a0 I0 M0 x1 (8 : Int32) r1 hr1) (cwV 2 hts gX7_isToldByLot_X1_degreeOf rfl rfl rfl cdX1_degreeOf ⟨Nat.le_of_ble_eq_true rfl, Nat.le_of_ble_eq_true rfl⟩) (wb_preV hP hK (wr_1 hK hP (q0 := 0) rfl)) rfl rfl hl.1 rfl (lv_room (Nat.le_of_ble_eq_true rfl)) dX7_isToldByLot_4 ⟨Nat.le_of_ble_eq_true rfl, Nat.le_of_ble_eq_true rfl⟩) (fun r9 e9 => ?_)
  rw [e9]
  refine lv_istore_n (lv' := [(3, .int r1), (0, .ref (a0 0)), (1, .int x1), (2, .int x2)]) hx hb dX7_isToldByLot_7 rfl hl (by decide) rfl (fun ls hl => ?_)
  refine lv_aload_n hx hb dX7_isToldByLot_8 rfl (lv_at hl 1 rfl) ?_
  refine lv_iload_n hx hb dX7_isToldByLot_9 rfl (lv_at hl 2 rfl) ?_
  refine lv_bipush (v := (7 : Int32)) hx hb dX7_isToldByLot_10 (by decide) ?_
  obtain ⟨r2, hr2, hf⟩ := wb_b hf
  refine vp_callSi (W.runV (As := [.int x1, .int (7 : Int32)]) (rest := []) ⟨hx, hb, hml, hown, hts⟩ (cn_X1_degreeOf l D cB cI cZ N a0 I0 M0 x1 (7 : Int32) r2 hr2) (cwV 2 hts gX7_isToldByLot_X1_degreeOf rfl rfl rfl cdX1_degreeOf ⟨Nat.le_of_ble_eq_true rfl, Nat.le_of_ble_eq_true rfl⟩) (wb_preV hP hK (wr_1 hK hP (q0 := 0) rfl)) rfl rfl hl.1 rfl (lv_room (Nat.le_of_ble_eq_true rfl)) dX7_isToldByLot_12 ⟨Nat.le_of_ble_eq_true rfl, Nat.le_of_ble_eq_true rfl⟩) (fun r9 e9 => ?_)
  rw [e9]
  refine lv_istore (lv' := [(4, .int r2), (3, .int r1), (0, .ref (a0 0)), (1, .int x1), (2, .int x2)]) hx hb dX7_isToldByLot_15 hl (by decide) rfl (fun ls hl => ?_)
  refine lv_iload_n hx hb dX7_isToldByLot_17 rfl (lv_at hl 1 rfl) ?_
  refine lv_iconst (v := (-1 : Int32)) hx hb dX7_isToldByLot_18 (by decide) ?_
  refine lv_icmp_eq (tgt := 51) hx hb dX7_isToldByLot_19 (by decide) (fun hc => ?_) (fun hc => ?_)
  · replace hf := wb_t hc hf
    refine lv_iconst (v := (0 : Int32)) hx hb dX7_isToldByLot_51 (by decide) ?_
    exact W.zret (v := (0 : Int32)) hx hb hr (by decide) (fun t ht hW => ⟨_, rfl, Option.some.inj hf, ht⟩) (fun _ h => nomatch h) dX7_isToldByLot_52
  · replace hf := wb_f hc hf
    refine lv_iload hx hb dX7_isToldByLot_22 (lv_at hl 0 rfl) ?_
    refine lv_iconst (v := (-1 : Int32)) hx hb dX7_isToldByLot_24 (by decide) ?_
    refine lv_icmp_eq (tgt := 51) hx hb dX7_isToldByLot_25 (by decide) (fun hc => ?_) (fun hc => ?_)
    · replace hf := wb_t hc hf
      refine lv_iconst (v := (0 : Int32)) hx hb dX7_isToldByLot_51 (by decide) ?_
      exact W.zret (v := (0 : Int32)) hx hb hr (by decide) (fun t ht hW => ⟨_, rfl, Option.some.inj hf, ht⟩) (fun _ h => nomatch h) dX7_isToldByLot_52
    · replace hf := wb_f hc hf
      refine lv_iload_n hx hb dX7_isToldByLot_28 rfl (lv_at hl 1 rfl) ?_
      refine lv_bipush (v := (30 : Int32)) hx hb dX7_isToldByLot_29 (by decide) ?_
      refine lv_idiv hx hb dX7_isToldByLot_31 (by decide) ?_
      refine lv_iload hx hb dX7_isToldByLot_32 (lv_at hl 0 rfl) ?_
      refine lv_bipush (v := (30 : Int32)) hx hb dX7_isToldByLot_34 (by decide) ?_
      refine lv_idiv hx hb dX7_isToldByLot_36 (by decide) ?_
      refine lv_iload_n hx hb dX7_isToldByLot_37 rfl (lv_at hl 4 rfl) ?_
      refine lv_iadd hx hb dX7_isToldByLot_38 ?_
      refine lv_iconst (v := (1 : Int32)) hx hb dX7_isToldByLot_39 (by decide) ?_
      refine lv_isub hx hb dX7_isToldByLot_40 ?_
      refine lv_bipush (v := (12 : Int32)) hx hb dX7_isToldByLot_41 (by decide) ?_
      refine lv_irem hx hb dX7_isToldByLot_43 (by decide) ?_
      refine lv_icmp_ne (tgt := 51) hx hb dX7_isToldByLot_44 (by decide) (fun hc => ?_) (fun hc => ?_)
      · replace hf := wb_f hc hf
        refine lv_iconst (v := (0 : Int32)) hx hb dX7_isToldByLot_51 (by decide) ?_
        exact W.zret (v := (0 : Int32)) hx hb hr (by decide) (fun t ht hW => ⟨_, rfl, Option.some.inj hf, ht⟩) (fun _ h => nomatch h) dX7_isToldByLot_52
      · replace hf := wb_t hc hf
        refine lv_iconst (v := (1 : Int32)) hx hb dX7_isToldByLot_47 (by decide) ?_
        refine lv_goto (tgt := 52) hx hb dX7_isToldByLot_48 (by decide) ?_
        exact W.zret (v := (1 : Int32)) hx hb hr (by decide) (fun t ht hW => ⟨_, rfl, Option.some.inj hf, ht⟩) (fun _ h => nomatch h) dX7_isToldByLot_52

set_option maxHeartbeats 4000000 in
set_option maxRecDepth 100000 in
theorem cn_X7_howManyToldByLot (l : Launch) (D : va_G) (cB cI cZ : ClassId) (N : Nat) (a0 : Nat → Nat) (I0 : Nat → Int32) (M0 : Nat → Nat → Int32) (a1 : Nat → Nat) (I1 : Nat → Int32) (M1 : Nat → Nat → Int32) (sz : Nat) (R : Int32 × (Nat → Int32) × (Nat → Nat → Int32)) (hf : fX7_howManyToldByLot N I0 M0 I1 M1 = some R) : Met l yX7_howManyToldByLot wsX7_howManyToldByLot ({ frames := 2, cells := 0, slots := 0, locals := 46 }) (va_Pc [.ref (a0 0), .ref (a1 0)] (wb_preD D [(cB, .byte), (cI, .int), (cZ, .boolean)] ((wWX7 cB cI cZ a0 I0 M0) ++ (wWX1 cB cI cZ a1 I1 M1)) sz)) (va_Qi (fun r (_ : Unit) => r = R.1) (fun _ t => wb_post D [(cB, .byte), (cI, .int), (cZ, .boolean)] (va_A ((wWX7 cB cI cZ a0 I0 M0) ++ (wWX1 cB cI cZ a1 I1 M1)) sz) ((wWX7 cB cI cZ a0 R.2.1 R.2.2) ++ (wWX1 cB cI cZ a1 I1 M1)) t) (va_A ((wWX7 cB cI cZ a0 I0 M0) ++ (wWX1 cB cI cZ a1 I1 M1)) sz)) 0 0 (va_A ((wWX7 cB cI cZ a0 I0 M0) ++ (wWX1 cB cI cZ a1 I1 M1)) sz) := by
  refine Met.ofW (cc := cX7_howManyToldByLot) (maxL := 5) (ret := (some .int)) pn_X7 rfl ?_
  intro p e s m args below meth c s₁ B hml hv
  obtain ⟨rfl, hsz, hP, hK, hD0⟩ := hv
  have hx := B.exec
  have hb := B.bytes
  have hr := B.returns
  have hts := atoms_spec (ws := wsX7_howManyToldByLot) B.pre
  have hown : s.vm.findClass RX7 = some m.cls := (findClass_of_methodNamed B.named :)
  have hlocks := B.notSynchronized
  have hinX7 : ∀ w ∈ u_ws RX7 TX7 6, w ∈ wsX7_howManyToldByLot := fun w h => List.mem_cons_of_mem _ (List.mem_append_left _ (List.mem_append_right _ h))
  subst hsz
  have hD := hD0.self (sz := s.heap.size)
  generalize hAe : va_A ((wWX7 cB cI cZ a0 I0 M0) ++ (wWX1 cB cI cZ a1 I1 M1)) s.heap.size = A at hD ⊢
  have hA : ∀ q : Nat, s.heap.size ≤ q → A q := fun q h => by rw [← hAe]; exact Or.inr h
  have hS : va_S A s.heap s.heap [] := va_S.rf
  have hl := lv_entry ([.ref (a0 0), .ref (a1 0)]) (n := 5) (Nat.le_of_ble_eq_true rfl)
  rw [lg_entry_eq]
  generalize (lg_sl ([.ref (a0 0), .ref (a1 0)]) ++ List.replicate (5 - (lg_sl ([.ref (a0 0), .ref (a1 0)])).length) Slot.unset).toArray = ls at hl ⊢
  have hl : lv_has ls 5 [(0, .ref (a0 0)), (1, .ref (a1 0))] := hl
  unfold fX7_howManyToldByLot at hf
  obtain ⟨H, hHe⟩ : ∃ H : Heap, H = s.heap := ⟨_, rfl⟩
  obtain ⟨locs, hle⟩ : ∃ locs : List Loc, locs = [] := ⟨_, rfl⟩
  refine wb_start (H := H) (locs := locs) hHe hle ?_
  rw [← hHe] at hP
  have hS : va_S A s.heap H locs := by rw [hHe, hle]; exact va_S.rf
  refine lv_aload_n hx hb dX7_howManyToldByLot_0 rfl (lv_at hl 0 rfl) ?_
  refine lv_aload_n hx hb dX7_howManyToldByLot_1 rfl (lv_at hl 0 rfl) ?_
  refine va_get (D := D) (ci := 7) (v := .ref (a0 3)) (C := RX7) (T := TX7) (N := 6) hx hb hts hinX7 hown hK hP 0 rfl rfl 2 (by decide) (hts (.fieldLink RX7 18 "WheelBook$Outcomes" "houses" "[I") (List.mem_of_getElem? (i := 1) rfl)) (fun _ h9 => h9) rfl dX7_howManyToldByLot_2 ?_
  obtain ⟨r1, hr1, hf⟩ := wb_b hf
  have hPc := hP.sub (ws' := (wWX7 cB cI cZ a0 I0 M0)) [0, 1, 2, 3, 4, 5, 6] rfl
  have hDc := hD.sub (ws' := (wWX7 cB cI cZ a0 I0 M0)) [0, 1, 2, 3, 4, 5, 6] (by decide) rfl
  have hFc := va_free (wc := (wWX7 cB cI cZ a0 I0 M0)) hD hS hA [0, 1, 2, 3, 4, 5, 6] rfl
  refine va_calli (va_runV (As := [.ref (a0 3)]) (rest := []) ⟨hx, hb, hml, hown, hts⟩ (cn_X7_setRows_13 l D cB cI cZ N a0 I0 M0 H.size r1 hr1) (cwV 1 hts gX7_howManyToldByLot_X7_setRows rfl rfl rfl cdX7_setRows ⟨Nat.le_of_ble_eq_true rfl, Nat.le_of_ble_eq_true rfl⟩) (wb_preDV hPc hK hDc (wr_7 hK hP (q0 := 0) rfl)) rfl rfl hl.1 rfl (lv_room (Nat.le_of_ble_eq_true rfl)) dX7_howManyToldByLot_5 ⟨Nat.le_of_ble_eq_true rfl, Nat.le_of_ble_eq_true rfl⟩) hS (fun q _ h => hFc q h) hFc (fun r9 u t H locs ht hvm hw hB hz1 hk1 hS => ?_)
  obtain ⟨hP, hD⟩ := wj_s (wc := (wWX7 cB cI cZ a0 I0 M0)) (w1 := (wWX7 cB cI cZ a0 r1.2.1 r1.2.2)) (wf := ((wWX7 cB cI cZ a0 r1.2.1 r1.2.2) ++ (wWX1 cB cI cZ a1 I1 M1))) 0 7 hP hD rfl rfl hk1 hFc ht hB
  rw [hw]
  obtain ⟨v2, ev2, hf⟩ := wb_v hf
  refine wb_topi ev2 ?_
  refine lv_istore_n (lv' := [(2, .int v2), (0, .ref (a0 0)), (1, .ref (a1 0))]) hx hb dX7_howManyToldByLot_8 rfl hl (by decide) rfl (fun ls hl => ?_)
  refine lv_iconst (v := (0 : Int32)) hx hb dX7_howManyToldByLot_9 (by decide) ?_
  refine lv_istore_n (lv' := [(3, .int (0 : Int32)), (2, .int v2), (0, .ref (a0 0)), (1, .ref (a1 0))]) hx hb dX7_howManyToldByLot_10 rfl hl (by decide) rfl (fun ls hl => ?_)
  refine lv_iconst (v := (0 : Int32)) hx hb dX7_howManyToldByLot_11 (by decide) ?_
  refine lv_istore (lv' := [(4, .int (0 : Int32)), (3, .int (0 : Int32)), (2, .int v2), (0, .ref (a0 0)), (1, .ref (a1 0))]) hx hb dX7_howManyToldByLot_12 hl (by decide) rfl (fun ls hl => ?_)
  have L14 : ∀ (fu14 : Nat) (I0_l14 : Nat → Int32) (M0_l14 : Nat → Nat → Int32) (y14_3 : Int32) (y14_4 : Int32) (H : Heap) (locs : List Loc), va_P D vwCl ((wWX7 cB cI cZ a0 I0_l14 M0_l14) ++ (wWX1 cB cI cZ a1 I1 M1)) H → va_D A ((wWX7 cB cI cZ a0 I0_l14 M0_l14) ++ (wWX1 cB cI cZ a1 I1 M1)) → va_S A s.heap H locs → ∀ (ls : Array Slot), lv_has ls 5 [(0, .ref (a0 0)), (1, .ref (a1 0)), (2, .int v2), (3, .int y14_3), (4, .int y14_4)] → fX7_howManyToldByLot_L14 N I1 M1 v2 fu14 I0_l14 M0_l14 y14_3 y14_4 = some R → W p l e (headSpec wsX7_howManyToldByLot { frames := 2, cells := 0, slots := 0, locals := 46 }).room s m [.ref (a0 0), .ref (a1 0)].toArray below meth c H locs 0 0 (MQ below (va_Qi (fun r (_ : Unit) => r = R.1) (fun _ t => wb_post D [(cB, .byte), (cI, .int), (cZ, .boolean)] A ((wWX7 cB cI cZ a0 R.2.1 R.2.2) ++ (wWX1 cB cI cZ a1 I1 M1)) t) A) [.ref (a0 0), .ref (a1 0)].toArray s 0 0 A) (F0 m 14 ls []) := by
    intro fu14
    induction fu14 with
    | zero =>
      intro I0_l14 M0_l14 y14_3 y14_4 H locs hP hD hS ls hl hf
      exact absurd hf (by rw [fX7_howManyToldByLot_L14.eq_1]; exact fun h => nomatch h)
    | succ fu14 ih14 =>
      intro I0_l14 M0_l14 y14_3 y14_4 H locs hP hD hS ls hl hf
      rw [fX7_howManyToldByLot_L14.eq_2] at hf
      refine lv_iload hx hb dX7_howManyToldByLot_14 (lv_at hl 4 rfl) ?_
      refine lv_iload_n hx hb dX7_howManyToldByLot_16 rfl (lv_at hl 2 rfl) ?_
      refine lv_icmp_ge (tgt := 55) hx hb dX7_howManyToldByLot_17 (by decide) (fun hc => ?_) (fun hc => ?_)
      · replace hf := wb_t hc hf
        refine lv_iload_n hx hb dX7_howManyToldByLot_55 rfl (lv_at hl 3 rfl) ?_
        exact W.iret (v := y14_3) hx hb hr (fun t ht hW => by rw [← Option.some.inj hf]; exact ⟨⟨y14_3, (), rfl, rfl, by rw [ht]; exact hP, va_K.moved hW.alike hK, hD⟩, hS.F ht⟩) hS.2.2 dX7_howManyToldByLot_56
      · replace hf := wb_f hc hf
        refine lv_aload_n hx hb dX7_howManyToldByLot_20 rfl (lv_at hl 1 rfl) ?_
        refine lv_aload_n hx hb dX7_howManyToldByLot_21 rfl (lv_at hl 0 rfl) ?_
        refine va_get (D := D) (ci := 7) (v := .ref (a0 4)) (C := RX7) (T := TX7) (N := 6) hx hb hts hinX7 hown hK hP 0 rfl rfl 3 (by decide) (hts (.fieldLink RX7 21 "WheelBook$Outcomes" "rows" "[I") (List.mem_of_getElem? (i := 2) rfl)) (fun _ h9 => h9) rfl dX7_howManyToldByLot_22 ?_
        refine lv_iload hx hb dX7_howManyToldByLot_25 (lv_at hl 4 rfl) ?_
        obtain ⟨hin, hf⟩ := wb_n hf
        refine va_iald hx hb hK hP 4 1 rfl rfl hin dX7_howManyToldByLot_27 ?_
        refine lv_aload_n hx hb dX7_howManyToldByLot_28 rfl (lv_at hl 0 rfl) ?_
        refine va_get (D := D) (ci := 7) (v := .ref (a0 3)) (C := RX7) (T := TX7) (N := 6) hx hb hts hinX7 hown hK hP 0 rfl rfl 2 (by decide) (hts (.fieldLink RX7 18 "WheelBook$Outcomes" "houses" "[I") (List.mem_of_getElem? (i := 1) rfl)) (fun _ h9 => h9) rfl dX7_howManyToldByLot_29 ?_
        refine lv_aload_n hx hb dX7_howManyToldByLot_32 rfl (lv_at hl 0 rfl) ?_
        refine va_get (D := D) (ci := 7) (v := .ref (a0 4)) (C := RX7) (T := TX7) (N := 6) hx hb hts hinX7 hown hK hP 0 rfl rfl 3 (by decide) (hts (.fieldLink RX7 21 "WheelBook$Outcomes" "rows" "[I") (List.mem_of_getElem? (i := 2) rfl)) (fun _ h9 => h9) rfl dX7_howManyToldByLot_33 ?_
        refine lv_iload hx hb dX7_howManyToldByLot_36 (lv_at hl 4 rfl) ?_
        obtain ⟨hin, hf⟩ := wb_n hf
        refine va_iald hx hb hK hP 4 1 rfl rfl hin dX7_howManyToldByLot_38 ?_
        obtain ⟨hin, hf⟩ := wb_n hf
        refine va_iald hx hb hK hP 3 1 rfl rfl hin dX7_howManyToldByLot_39 ?_
        obtain ⟨r3, hr3, hf⟩ := wb_b hf
        refine vp_callSi (W.runS (As := [.ref (a1 0), .int (M0_l14 3 (y14_4).toNatClampNeg), .int (M0_l14 2 ((M0_l14 3 (y14_4).toNatClampNeg)).toNatClampNeg)]) (rest := []) ⟨hx, hb, hml, hown, hts⟩ (cn_X7_isToldByLot l D cB cI cZ N a1 I1 M1 (M0_l14 3 (y14_4).toNatClampNeg) (M0_l14 2 ((M0_l14 3 (y14_4).toNatClampNeg)).toNatClampNeg) r3 hr3) (va_cwS 3 hts gX7_howManyToldByLot_X7_isToldByLot rfl rfl rfl csX7_isToldByLot ⟨Nat.le_of_ble_eq_true rfl, Nat.le_of_ble_eq_true rfl⟩) (wb_preS (hP.sub (ws' := (wWX1 cB cI cZ a1 I1 M1)) [7, 8, 9] rfl) hK) rfl rfl hl.1 rfl (lv_room (Nat.le_of_ble_eq_true rfl)) dX7_howManyToldByLot_40 ⟨Nat.le_of_ble_eq_true rfl, Nat.le_of_ble_eq_true rfl⟩) (fun r9 e9 => ?_)
        rw [e9]
        refine lv_if_eq (tgt := 49) hx hb dX7_howManyToldByLot_43 (by decide) (fun hc => ?_) (fun hc => ?_)
        · replace hf := wb_t hc hf
          obtain ⟨v4, ev4, hf⟩ := wb_v hf
          refine lv_iinc (v := v4) (lv' := [(4, .int v4), (0, .ref (a0 0)), (1, .ref (a1 0)), (2, .int v2), (3, .int y14_3)]) hx hb dX7_howManyToldByLot_49 hl (k := 4) rfl (by rw [ev4]; rfl) (by decide) rfl (fun ls hl => ?_)
          refine lv_goto (tgt := 14) hx hb dX7_howManyToldByLot_52 (by decide) ?_
          exact ih14 I0_l14 M0_l14 y14_3 v4 H locs hP hD hS ls (lv_sub hl [1, 2, 3, 4, 0] rfl) hf
        · replace hf := wb_f hc hf
          obtain ⟨v5, ev5, hf⟩ := wb_v hf
          refine lv_iinc (v := v5) (lv' := [(3, .int v5), (0, .ref (a0 0)), (1, .ref (a1 0)), (2, .int v2), (4, .int y14_4)]) hx hb dX7_howManyToldByLot_46 hl (k := 3) rfl (by rw [ev5]; rfl) (by decide) rfl (fun ls hl => ?_)
          obtain ⟨v6, ev6, hf⟩ := wb_v hf
          refine lv_iinc (v := v6) (lv' := [(4, .int v6), (3, .int v5), (0, .ref (a0 0)), (1, .ref (a1 0)), (2, .int v2)]) hx hb dX7_howManyToldByLot_49 hl (k := 4) rfl (by rw [ev6]; rfl) (by decide) rfl (fun ls hl => ?_)
          refine lv_goto (tgt := 14) hx hb dX7_howManyToldByLot_52 (by decide) ?_
          exact ih14 I0_l14 M0_l14 v5 v6 H locs hP hD hS ls (lv_sub hl [2, 3, 4, 1, 0] rfl) hf
  exact L14 N r1.2.1 r1.2.2 (0 : Int32) (0 : Int32) H locs hP hD hS ls (lv_sub hl [3, 4, 2, 1, 0] rfl) hf

set_option maxHeartbeats 4000000 in
set_option maxRecDepth 100000 in
theorem cn_X7_chanceOfFates (l : Launch) (D : va_G) (cB cI cZ : ClassId) (N : Nat) (a0 : Nat → Nat) (I0 : Nat → Int32) (M0 : Nat → Nat → Int32) (a1 : Nat → Nat) (I1 : Nat → Int32) (M1 : Nat → Nat → Int32) (sz : Nat) (R : Int32 × (Nat → Int32) × (Nat → Nat → Int32)) (hf : fX7_chanceOfFates N I0 M0 I1 M1 = some R) : Met l yX7_chanceOfFates wsX7_chanceOfFates ({ frames := 3, cells := 0, slots := 0, locals := 72 }) (va_Pc [.ref (a0 0), .ref (a1 0)] (wb_preD D [(cB, .byte), (cI, .int), (cZ, .boolean)] ((wWX7 cB cI cZ a0 I0 M0) ++ (wWX1 cB cI cZ a1 I1 M1)) sz)) (va_Qi (fun r (_ : Unit) => r = R.1) (fun _ t => wb_post D [(cB, .byte), (cI, .int), (cZ, .boolean)] (va_A ((wWX7 cB cI cZ a0 I0 M0) ++ (wWX1 cB cI cZ a1 I1 M1)) sz) ((wWX7 cB cI cZ a0 R.2.1 R.2.2) ++ (wWX1 cB cI cZ a1 I1 M1)) t) (va_A ((wWX7 cB cI cZ a0 I0 M0) ++ (wWX1 cB cI cZ a1 I1 M1)) sz)) 0 0 (va_A ((wWX7 cB cI cZ a0 I0 M0) ++ (wWX1 cB cI cZ a1 I1 M1)) sz) := by
  refine Met.ofW (cc := cX7_chanceOfFates) (maxL := 5) (ret := (some .int)) pn_X7 rfl ?_
  intro p e s m args below meth c s₁ B hml hv
  obtain ⟨rfl, hsz, hP, hK, hD0⟩ := hv
  have hx := B.exec
  have hb := B.bytes
  have hr := B.returns
  have hts := atoms_spec (ws := wsX7_chanceOfFates) B.pre
  have hown : s.vm.findClass RX7 = some m.cls := (findClass_of_methodNamed B.named :)
  have hlocks := B.notSynchronized
  have hinX7 : ∀ w ∈ u_ws RX7 TX7 6, w ∈ wsX7_chanceOfFates := fun w h => List.mem_cons_of_mem _ (List.mem_append_left _ (List.mem_append_right _ h))
  subst hsz
  have hD := hD0.self (sz := s.heap.size)
  generalize hAe : va_A ((wWX7 cB cI cZ a0 I0 M0) ++ (wWX1 cB cI cZ a1 I1 M1)) s.heap.size = A at hD ⊢
  have hA : ∀ q : Nat, s.heap.size ≤ q → A q := fun q h => by rw [← hAe]; exact Or.inr h
  have hS : va_S A s.heap s.heap [] := va_S.rf
  have hl := lv_entry ([.ref (a0 0), .ref (a1 0)]) (n := 5) (Nat.le_of_ble_eq_true rfl)
  rw [lg_entry_eq]
  generalize (lg_sl ([.ref (a0 0), .ref (a1 0)]) ++ List.replicate (5 - (lg_sl ([.ref (a0 0), .ref (a1 0)])).length) Slot.unset).toArray = ls at hl ⊢
  have hl : lv_has ls 5 [(0, .ref (a0 0)), (1, .ref (a1 0))] := hl
  unfold fX7_chanceOfFates at hf
  obtain ⟨H, hHe⟩ : ∃ H : Heap, H = s.heap := ⟨_, rfl⟩
  obtain ⟨locs, hle⟩ : ∃ locs : List Loc, locs = [] := ⟨_, rfl⟩
  refine wb_start (H := H) (locs := locs) hHe hle ?_
  rw [← hHe] at hP
  have hS : va_S A s.heap H locs := by rw [hHe, hle]; exact va_S.rf
  refine lv_aload_n hx hb dX7_chanceOfFates_0 rfl (lv_at hl 0 rfl) ?_
  refine lv_aload_n hx hb dX7_chanceOfFates_1 rfl (lv_at hl 0 rfl) ?_
  refine va_get (D := D) (ci := 7) (v := .ref (a0 3)) (C := RX7) (T := TX7) (N := 6) hx hb hts hinX7 hown hK hP 0 rfl rfl 2 (by decide) (hts (.fieldLink RX7 18 "WheelBook$Outcomes" "houses" "[I") (List.mem_of_getElem? (i := 1) rfl)) (fun _ h9 => h9) rfl dX7_chanceOfFates_2 ?_
  obtain ⟨r1, hr1, hf⟩ := wb_b hf
  have hPc := hP.sub (ws' := (wWX7 cB cI cZ a0 I0 M0)) [0, 1, 2, 3, 4, 5, 6] rfl
  have hDc := hD.sub (ws' := (wWX7 cB cI cZ a0 I0 M0)) [0, 1, 2, 3, 4, 5, 6] (by decide) rfl
  have hFc := va_free (wc := (wWX7 cB cI cZ a0 I0 M0)) hD hS hA [0, 1, 2, 3, 4, 5, 6] rfl
  refine va_calli (va_runV (As := [.ref (a0 3)]) (rest := []) ⟨hx, hb, hml, hown, hts⟩ (cn_X7_setRows_13 l D cB cI cZ N a0 I0 M0 H.size r1 hr1) (cwV 1 hts gX7_chanceOfFates_X7_setRows rfl rfl rfl cdX7_setRows ⟨Nat.le_of_ble_eq_true rfl, Nat.le_of_ble_eq_true rfl⟩) (wb_preDV hPc hK hDc (wr_7 hK hP (q0 := 0) rfl)) rfl rfl hl.1 rfl (lv_room (Nat.le_of_ble_eq_true rfl)) dX7_chanceOfFates_5 ⟨Nat.le_of_ble_eq_true rfl, Nat.le_of_ble_eq_true rfl⟩) hS (fun q _ h => hFc q h) hFc (fun r9 u t H locs ht hvm hw hB hz1 hk1 hS => ?_)
  obtain ⟨hP, hD⟩ := wj_s (wc := (wWX7 cB cI cZ a0 I0 M0)) (w1 := (wWX7 cB cI cZ a0 r1.2.1 r1.2.2)) (wf := ((wWX7 cB cI cZ a0 r1.2.1 r1.2.2) ++ (wWX1 cB cI cZ a1 I1 M1))) 0 7 hP hD rfl rfl hk1 hFc ht hB
  rw [hw]
  obtain ⟨v2, ev2, hf⟩ := wb_v hf
  refine wb_topi ev2 ?_
  refine lv_istore_n (lv' := [(2, .int v2), (0, .ref (a0 0)), (1, .ref (a1 0))]) hx hb dX7_chanceOfFates_8 rfl hl (by decide) rfl (fun ls hl => ?_)
  refine lv_iload_n hx hb dX7_chanceOfFates_9 rfl (lv_at hl 0 rfl) ?_
  refine lv_bipush (v := (8 : Int32)) hx hb dX7_chanceOfFates_10 (by decide) ?_
  refine lv_icmp_le (tgt := 17) hx hb dX7_chanceOfFates_12 (by decide) (fun hc => ?_) (fun hc => ?_)
  · replace hf := wb_t hc hf
    refine lv_iconst (v := (0 : Int32)) hx hb dX7_chanceOfFates_17 (by decide) ?_
    refine lv_istore_n (lv' := [(3, .int (0 : Int32)), (2, .int v2), (0, .ref (a0 0)), (1, .ref (a1 0))]) hx hb dX7_chanceOfFates_18 rfl hl (by decide) rfl (fun ls hl => ?_)
    have L19 : ∀ (fu19 : Nat) (I0_l19 : Nat → Int32) (M0_l19 : Nat → Nat → Int32) (y19_3 : Int32) (H : Heap) (locs : List Loc), va_P D vwCl ((wWX7 cB cI cZ a0 I0_l19 M0_l19) ++ (wWX1 cB cI cZ a1 I1 M1)) H → va_D A ((wWX7 cB cI cZ a0 I0_l19 M0_l19) ++ (wWX1 cB cI cZ a1 I1 M1)) → va_S A s.heap H locs → ∀ (ls : Array Slot), lv_has ls 5 [(0, .ref (a0 0)), (1, .ref (a1 0)), (2, .int v2), (3, .int y19_3)] → fX7_chanceOfFates_L19 N I1 M1 v2 fu19 I0_l19 M0_l19 y19_3 = some R → W p l e (headSpec wsX7_chanceOfFates { frames := 3, cells := 0, slots := 0, locals := 72 }).room s m [.ref (a0 0), .ref (a1 0)].toArray below meth c H locs 0 0 (MQ below (va_Qi (fun r (_ : Unit) => r = R.1) (fun _ t => wb_post D [(cB, .byte), (cI, .int), (cZ, .boolean)] A ((wWX7 cB cI cZ a0 R.2.1 R.2.2) ++ (wWX1 cB cI cZ a1 I1 M1)) t) A) [.ref (a0 0), .ref (a1 0)].toArray s 0 0 A) (F0 m 19 ls []) := by
      intro fu19
      induction fu19 with
      | zero =>
        intro I0_l19 M0_l19 y19_3 H locs hP hD hS ls hl hf
        exact absurd hf (by rw [fX7_chanceOfFates_L19.eq_1]; exact fun h => nomatch h)
      | succ fu19 ih19 =>
        intro I0_l19 M0_l19 y19_3 H locs hP hD hS ls hl hf
        rw [fX7_chanceOfFates_L19.eq_2] at hf
        refine lv_iload_n hx hb dX7_chanceOfFates_19 rfl (lv_at hl 3 rfl) ?_
        refine lv_iload_n hx hb dX7_chanceOfFates_20 rfl (lv_at hl 2 rfl) ?_
        refine lv_icmp_ge (tgt := 79) hx hb dX7_chanceOfFates_21 (by decide) (fun hc => ?_) (fun hc => ?_)
        · replace hf := wb_t hc hf
          refine lv_aload_n hx hb dX7_chanceOfFates_79 rfl (lv_at hl 0 rfl) ?_
          refine lv_iload_n hx hb dX7_chanceOfFates_80 rfl (lv_at hl 2 rfl) ?_
          refine lv_aload_n hx hb dX7_chanceOfFates_81 rfl (lv_at hl 0 rfl) ?_
          refine lv_aload_n hx hb dX7_chanceOfFates_82 rfl (lv_at hl 1 rfl) ?_
          obtain ⟨r3, hr3, hf⟩ := wb_b hf
          have hPc := hP
          have hDc := hD
          have hFc := wj_F hDc hS hA
          refine va_calli (va_runV (As := [.ref (a1 0)]) (rest := [.int v2, .ref (a0 0)]) ⟨hx, hb, hml, hown, hts⟩ (cn_X7_howManyToldByLot l D cB cI cZ N a0 I0_l19 M0_l19 a1 I1 M1 H.size r3 hr3) (cwV 1 hts gX7_chanceOfFates_X7_howManyToldByLot rfl rfl rfl cdX7_howManyToldByLot ⟨Nat.le_of_ble_eq_true rfl, Nat.le_of_ble_eq_true rfl⟩) (wb_preDV hPc hK hDc (wr_7 hK hP (q0 := 0) rfl)) rfl rfl hl.1 rfl (lv_room (Nat.le_of_ble_eq_true rfl)) dX7_chanceOfFates_83 ⟨Nat.le_of_ble_eq_true rfl, Nat.le_of_ble_eq_true rfl⟩) hS (fun q _ h => hFc q h) hFc (fun r9 u t H locs ht hvm hw hB hz1 hk1 hS => ?_)
          obtain ⟨hP, hD⟩ := wj_0 hFc ht hB
          rw [hw]
          obtain ⟨r4, hr4, hf⟩ := wb_b hf
          have hPc := hP.sub (ws' := (wWX7 cB cI cZ a0 r3.2.1 r3.2.2)) [0, 1, 2, 3, 4, 5, 6] rfl
          have hDc := hD.sub (ws' := (wWX7 cB cI cZ a0 r3.2.1 r3.2.2)) [0, 1, 2, 3, 4, 5, 6] (by decide) rfl
          have hFc := va_free (wc := (wWX7 cB cI cZ a0 r3.2.1 r3.2.2)) hD hS hA [0, 1, 2, 3, 4, 5, 6] rfl
          refine va_calli (va_runV (As := [.int v2, .int r3.1]) (rest := []) ⟨hx, hb, hml, hown, hts⟩ (cn_X7_waysToHit l D cB cI cZ N a0 r3.2.1 r3.2.2 v2 r3.1 H.size r4 hr4) (cwV 2 hts gX7_chanceOfFates_X7_waysToHit rfl rfl rfl cdX7_waysToHit ⟨Nat.le_of_ble_eq_true rfl, Nat.le_of_ble_eq_true rfl⟩) (wb_preDV hPc hK hDc (wr_7 hK hP (q0 := 0) rfl)) rfl rfl hl.1 rfl (lv_room (Nat.le_of_ble_eq_true rfl)) dX7_chanceOfFates_86 ⟨Nat.le_of_ble_eq_true rfl, Nat.le_of_ble_eq_true rfl⟩) hS (fun q _ h => hFc q h) hFc (fun r9 u t H locs ht hvm hw hB hz1 hk1 hS => ?_)
          obtain ⟨hP, hD⟩ := wj_s (wc := (wWX7 cB cI cZ a0 r3.2.1 r3.2.2)) (w1 := (wWX7 cB cI cZ a0 r4.2.1 r4.2.2)) (wf := ((wWX7 cB cI cZ a0 r4.2.1 r4.2.2) ++ (wWX1 cB cI cZ a1 I1 M1))) 0 7 hP hD rfl rfl hk1 hFc ht hB
          rw [hw]
          exact W.iret (v := r4.1) hx hb hr (fun t ht hW => by rw [← Option.some.inj hf]; exact ⟨⟨r4.1, (), rfl, rfl, by rw [ht]; exact hP, va_K.moved hW.alike hK, hD⟩, hS.F ht⟩) hS.2.2 dX7_chanceOfFates_89
        · replace hf := wb_f hc hf
          refine lv_iconst (v := (0 : Int32)) hx hb dX7_chanceOfFates_24 (by decide) ?_
          refine lv_istore (lv' := [(4, .int (0 : Int32)), (0, .ref (a0 0)), (1, .ref (a1 0)), (2, .int v2), (3, .int y19_3)]) hx hb dX7_chanceOfFates_25 hl (by decide) rfl (fun ls hl => ?_)
          have L27 : ∀ (fu27 : Nat) (I0_l27 : Nat → Int32) (M0_l27 : Nat → Nat → Int32) (y27_4 : Int32) (H : Heap) (locs : List Loc), va_P D vwCl ((wWX7 cB cI cZ a0 I0_l27 M0_l27) ++ (wWX1 cB cI cZ a1 I1 M1)) H → va_D A ((wWX7 cB cI cZ a0 I0_l27 M0_l27) ++ (wWX1 cB cI cZ a1 I1 M1)) → va_S A s.heap H locs → ∀ (ls : Array Slot), lv_has ls 5 [(0, .ref (a0 0)), (1, .ref (a1 0)), (2, .int v2), (3, .int y19_3), (4, .int y27_4)] → fX7_chanceOfFates_L27 N I1 M1 v2 y19_3 (fX7_chanceOfFates_L19 N I1 M1 v2 fu19) fu27 I0_l27 M0_l27 y27_4 = some R → W p l e (headSpec wsX7_chanceOfFates { frames := 3, cells := 0, slots := 0, locals := 72 }).room s m [.ref (a0 0), .ref (a1 0)].toArray below meth c H locs 0 0 (MQ below (va_Qi (fun r (_ : Unit) => r = R.1) (fun _ t => wb_post D [(cB, .byte), (cI, .int), (cZ, .boolean)] A ((wWX7 cB cI cZ a0 R.2.1 R.2.2) ++ (wWX1 cB cI cZ a1 I1 M1)) t) A) [.ref (a0 0), .ref (a1 0)].toArray s 0 0 A) (F0 m 27 ls []) := by
            intro fu27
            induction fu27 with
            | zero =>
              intro I0_l27 M0_l27 y27_4 H locs hP hD hS ls hl hf
              exact absurd hf (by rw [fX7_chanceOfFates_L27.eq_1]; exact fun h => nomatch h)
            | succ fu27 ih27 =>
              intro I0_l27 M0_l27 y27_4 H locs hP hD hS ls hl hf
              rw [fX7_chanceOfFates_L27.eq_2] at hf
              refine lv_iload hx hb dX7_chanceOfFates_27 (lv_at hl 4 rfl) ?_
              refine lv_iload_n hx hb dX7_chanceOfFates_29 rfl (lv_at hl 2 rfl) ?_
              refine lv_icmp_ge (tgt := 73) hx hb dX7_chanceOfFates_30 (by decide) (fun hc => ?_) (fun hc => ?_)
              · replace hf := wb_t hc hf
                obtain ⟨v5, ev5, hf⟩ := wb_v hf
                refine lv_iinc (v := v5) (lv' := [(3, .int v5), (0, .ref (a0 0)), (1, .ref (a1 0)), (2, .int v2), (4, .int y27_4)]) hx hb dX7_chanceOfFates_73 hl (k := 3) rfl (by rw [ev5]; rfl) (by decide) rfl (fun ls hl => ?_)
                refine lv_goto (tgt := 19) hx hb dX7_chanceOfFates_76 (by decide) ?_
                exact ih19 I0_l27 M0_l27 v5 H locs hP hD hS ls (lv_sub hl [1, 2, 3, 0] rfl) hf
              · replace hf := wb_f hc hf
                refine lv_aload_n hx hb dX7_chanceOfFates_33 rfl (lv_at hl 0 rfl) ?_
                refine va_get (D := D) (ci := 7) (v := .ref (a0 5)) (C := RX7) (T := TX7) (N := 6) hx hb hts hinX7 hown hK hP 0 rfl rfl 4 (by decide) (hts (.fieldLink RX7 24 "WheelBook$Outcomes" "hit" "[Z") (List.mem_of_getElem? (i := 2) rfl)) (fun _ h9 => h9) rfl dX7_chanceOfFates_34 ?_
                refine lv_bipush (v := (8 : Int32)) hx hb dX7_chanceOfFates_37 (by decide) ?_
                refine lv_iload_n hx hb dX7_chanceOfFates_39 rfl (lv_at hl 3 rfl) ?_
                refine lv_imul hx hb dX7_chanceOfFates_40 ?_
                refine lv_iload hx hb dX7_chanceOfFates_41 (lv_at hl 4 rfl) ?_
                refine lv_iadd hx hb dX7_chanceOfFates_43 ?_
                refine lv_aload_n hx hb dX7_chanceOfFates_44 rfl (lv_at hl 1 rfl) ?_
                refine lv_aload_n hx hb dX7_chanceOfFates_45 rfl (lv_at hl 0 rfl) ?_
                refine va_get (D := D) (ci := 7) (v := .ref (a0 4)) (C := RX7) (T := TX7) (N := 6) hx hb hts hinX7 hown hK hP 0 rfl rfl 3 (by decide) (hts (.fieldLink RX7 21 "WheelBook$Outcomes" "rows" "[I") (List.mem_of_getElem? (i := 3) rfl)) (fun _ h9 => h9) rfl dX7_chanceOfFates_46 ?_
                refine lv_iload_n hx hb dX7_chanceOfFates_49 rfl (lv_at hl 3 rfl) ?_
                obtain ⟨hin, hf⟩ := wb_n hf
                refine va_iald hx hb hK hP 4 1 rfl rfl hin dX7_chanceOfFates_50 ?_
                refine lv_aload_n hx hb dX7_chanceOfFates_51 rfl (lv_at hl 0 rfl) ?_
                refine va_get (D := D) (ci := 7) (v := .ref (a0 3)) (C := RX7) (T := TX7) (N := 6) hx hb hts hinX7 hown hK hP 0 rfl rfl 2 (by decide) (hts (.fieldLink RX7 18 "WheelBook$Outcomes" "houses" "[I") (List.mem_of_getElem? (i := 1) rfl)) (fun _ h9 => h9) rfl dX7_chanceOfFates_52 ?_
                refine lv_aload_n hx hb dX7_chanceOfFates_55 rfl (lv_at hl 0 rfl) ?_
                refine va_get (D := D) (ci := 7) (v := .ref (a0 4)) (C := RX7) (T := TX7) (N := 6) hx hb hts hinX7 hown hK hP 0 rfl rfl 3 (by decide) (hts (.fieldLink RX7 21 "WheelBook$Outcomes" "rows" "[I") (List.mem_of_getElem? (i := 3) rfl)) (fun _ h9 => h9) rfl dX7_chanceOfFates_56 ?_
                refine lv_iload hx hb dX7_chanceOfFates_59 (lv_at hl 4 rfl) ?_
                obtain ⟨hin, hf⟩ := wb_n hf
                refine va_iald hx hb hK hP 4 1 rfl rfl hin dX7_chanceOfFates_61 ?_
                obtain ⟨hin, hf⟩ := wb_n hf
                refine va_iald hx hb hK hP 3 1 rfl rfl hin dX7_chanceOfFates_62 ?_
                obtain ⟨r6, hr6, hf⟩ := wb_b hf
                refine vp_callSi (W.runS (As := [.ref (a1 0), .int (M0_l27 3 (y19_3).toNatClampNeg), .int (M0_l27 2 ((M0_l27 3 (y27_4).toNatClampNeg)).toNatClampNeg)]) (rest := [.int (((8 : Int32) * y19_3) + y27_4), .ref (a0 5)]) ⟨hx, hb, hml, hown, hts⟩ (cn_X7_isToldByLot l D cB cI cZ N a1 I1 M1 (M0_l27 3 (y19_3).toNatClampNeg) (M0_l27 2 ((M0_l27 3 (y27_4).toNatClampNeg)).toNatClampNeg) r6 hr6) (va_cwS 3 hts gX7_chanceOfFates_X7_isToldByLot rfl rfl rfl csX7_isToldByLot ⟨Nat.le_of_ble_eq_true rfl, Nat.le_of_ble_eq_true rfl⟩) (wb_preS (hP.sub (ws' := (wWX1 cB cI cZ a1 I1 M1)) [7, 8, 9] rfl) hK) rfl rfl hl.1 rfl (lv_room (Nat.le_of_ble_eq_true rfl)) dX7_chanceOfFates_63 ⟨Nat.le_of_ble_eq_true rfl, Nat.le_of_ble_eq_true rfl⟩) (fun r9 e9 => ?_)
                rw [e9]
                obtain ⟨hin, hf⟩ := wb_n hf
                refine va_zast hx hb hK hP hD hS 5 2 rfl rfl hin dX7_chanceOfFates_66 (fun H locs hP hD hS => ?_)
                have hP : va_P D vwCl ((wWX7 cB cI cZ a0 I0_l27 (wb_um M0_l27 4 ((((8 : Int32) * y19_3) + y27_4)).toNatClampNeg (vp_nar .boolean r6))) ++ (wWX1 cB cI cZ a1 I1 M1)) H := hP
                have hD : va_D A ((wWX7 cB cI cZ a0 I0_l27 (wb_um M0_l27 4 ((((8 : Int32) * y19_3) + y27_4)).toNatClampNeg (vp_nar .boolean r6))) ++ (wWX1 cB cI cZ a1 I1 M1)) := hD
                obtain ⟨M0_7, eM0_7, hf⟩ := wb_v hf
                rw [← eM0_7] at hP hD
                obtain ⟨v8, ev8, hf⟩ := wb_v hf
                refine lv_iinc (v := v8) (lv' := [(4, .int v8), (0, .ref (a0 0)), (1, .ref (a1 0)), (2, .int v2), (3, .int y19_3)]) hx hb dX7_chanceOfFates_67 hl (k := 4) rfl (by rw [ev8]; rfl) (by decide) rfl (fun ls hl => ?_)
                refine lv_goto (tgt := 27) hx hb dX7_chanceOfFates_70 (by decide) ?_
                exact ih27 I0_l27 M0_7 v8 H locs hP hD hS ls (lv_sub hl [1, 2, 3, 4, 0] rfl) hf
          exact L27 N I0_l19 M0_l19 (0 : Int32) H locs hP hD hS ls (lv_sub hl [1, 2, 3, 4, 0] rfl) hf
    exact L19 N r1.2.1 r1.2.2 (0 : Int32) H locs hP hD hS ls (lv_sub hl [2, 3, 1, 0] rfl) hf
  · replace hf := wb_f hc hf
    refine lv_iconst (v := (-1 : Int32)) hx hb dX7_chanceOfFates_15 (by decide) ?_
    exact W.iret (v := (-1 : Int32)) hx hb hr (fun t ht hW => by rw [← Option.some.inj hf]; exact ⟨⟨(-1 : Int32), (), rfl, rfl, by rw [ht]; exact hP, va_K.moved hW.alike hK, hD⟩, hS.F ht⟩) hS.2.2 dX7_chanceOfFates_16

set_option maxHeartbeats 4000000 in
set_option maxRecDepth 100000 in
theorem cn_X8_begin (l : Launch) (D : va_G) (cB cI cZ : ClassId) (N : Nat) (a0 : Nat → Nat) (I0 : Nat → Int32) (M0 : Nat → Nat → Int32) (x1 : Int32) (x2 : Int32) (x3 : Int32) (sz : Nat) (R : (Nat → Int32) × (Nat → Nat → Int32)) (hf : fX8_begin N I0 M0 x1 x2 x3 = some R) : Met l yX8_begin wsX8_begin ({ frames := 0, cells := 0, slots := 0, locals := 0 }) (va_Pc [.ref (a0 0), .int x1, .int x2, .int x3] (wb_preD D [(cB, .byte), (cI, .int), (cZ, .boolean)] (wWX8 cB cI cZ a0 I0 M0) sz)) (va_Qv (fun _ : Unit => True) (fun _ t => wb_post D [(cB, .byte), (cI, .int), (cZ, .boolean)] (va_A (wWX8 cB cI cZ a0 I0 M0) sz) (wWX8 cB cI cZ a0 R.1 R.2) t) (va_A (wWX8 cB cI cZ a0 I0 M0) sz)) 0 0 (va_A (wWX8 cB cI cZ a0 I0 M0) sz) := by
  refine Met.ofW (cc := cX8_begin) (maxL := 4) (ret := none) pn_X8 rfl ?_
  intro p e s m args below meth c s₁ B hml hv
  obtain ⟨rfl, hsz, hP, hK, hD0⟩ := hv
  have hx := B.exec
  have hb := B.bytes
  have hr := B.returns
  have hts := atoms_spec (ws := wsX8_begin) B.pre
  have hown : s.vm.findClass RX8 = some m.cls := (findClass_of_methodNamed B.named :)
  have hlocks := B.notSynchronized
  have hinX8 : ∀ w ∈ u_ws RX8 TX8 8, w ∈ wsX8_begin := fun w h => List.mem_cons_of_mem _ (List.mem_append_right _ h)
  subst hsz
  have hD := hD0.self (sz := s.heap.size)
  generalize hAe : va_A (wWX8 cB cI cZ a0 I0 M0) s.heap.size = A at hD ⊢
  have hA : ∀ q : Nat, s.heap.size ≤ q → A q := fun q h => by rw [← hAe]; exact Or.inr h
  have hS : va_S A s.heap s.heap [] := va_S.rf
  have hl := lv_entry ([.ref (a0 0), .int x1, .int x2, .int x3]) (n := 4) (Nat.le_of_ble_eq_true rfl)
  rw [lg_entry_eq]
  generalize (lg_sl ([.ref (a0 0), .int x1, .int x2, .int x3]) ++ List.replicate (4 - (lg_sl ([.ref (a0 0), .int x1, .int x2, .int x3])).length) Slot.unset).toArray = ls at hl ⊢
  have hl : lv_has ls 4 [(0, .ref (a0 0)), (1, .int x1), (2, .int x2), (3, .int x3)] := hl
  unfold fX8_begin at hf
  obtain ⟨H, hHe⟩ : ∃ H : Heap, H = s.heap := ⟨_, rfl⟩
  obtain ⟨locs, hle⟩ : ∃ locs : List Loc, locs = [] := ⟨_, rfl⟩
  refine wb_start (H := H) (locs := locs) hHe hle ?_
  rw [← hHe] at hP
  have hS : va_S A s.heap H locs := by rw [hHe, hle]; exact va_S.rf
  refine lv_aload_n hx hb dX8_begin_0 rfl (lv_at hl 0 rfl) ?_
  refine lv_iconst (v := (1 : Int32)) hx hb dX8_begin_1 (by decide) ?_
  refine va_put (D := D) (ci := 8) (v := .int (1 : Int32)) (ty := .boolean) (C := RX8) (T := TX8) (N := 8) hx hb hts hinX8 tyX8 tyX8_ok nmX8 hown hK hP hD hS 0 rfl rfl 0 (by decide) (hts (.fieldLink RX8 15 "WheelBook$Search" "begun" "Z") (List.mem_of_getElem? (i := 1) rfl)) (fun _ h9 => h9) rfl (by decide +kernel) (by decide) (by decide) (Nat.le_of_ble_eq_true rfl) dX8_begin_2 (fun H locs hP hD hS => ?_)
  have hP : va_P D vwCl (wWX8 cB cI cZ a0 (upd I0 0 (1 : Int32)) M0) H := hP
  have hD : va_D A (wWX8 cB cI cZ a0 (upd I0 0 (1 : Int32)) M0) := hD
  obtain ⟨I0_1, eI0_1, hf⟩ := wb_v hf
  rw [← eI0_1] at hP hD
  refine lv_aload_n hx hb dX8_begin_5 rfl (lv_at hl 0 rfl) ?_
  refine lv_iload_n hx hb dX8_begin_6 rfl (lv_at hl 1 rfl) ?_
  refine va_put (D := D) (ci := 8) (v := .int x1) (ty := .int) (C := RX8) (T := TX8) (N := 8) hx hb hts hinX8 tyX8 tyX8_ok nmX8 hown hK hP hD hS 0 rfl rfl 1 (by decide) (hts (.fieldLink RX8 19 "WheelBook$Search" "number" "I") (List.mem_of_getElem? (i := 2) rfl)) (fun _ h9 => h9) rfl (by decide +kernel) rfl rfl (Nat.le_of_ble_eq_true rfl) dX8_begin_7 (fun H locs hP hD hS => ?_)
  have hP : va_P D vwCl (wWX8 cB cI cZ a0 (upd I0_1 1 x1) M0) H := hP
  have hD : va_D A (wWX8 cB cI cZ a0 (upd I0_1 1 x1) M0) := hD
  obtain ⟨I0_2, eI0_2, hf⟩ := wb_v hf
  rw [← eI0_2] at hP hD
  refine lv_aload_n hx hb dX8_begin_10 rfl (lv_at hl 0 rfl) ?_
  refine lv_iload_n hx hb dX8_begin_11 rfl (lv_at hl 2 rfl) ?_
  refine va_put (D := D) (ci := 8) (v := .int x2) (ty := .int) (C := RX8) (T := TX8) (N := 8) hx hb hts hinX8 tyX8 tyX8_ok nmX8 hown hK hP hD hS 0 rfl rfl 2 (by decide) (hts (.fieldLink RX8 23 "WheelBook$Search" "set" "I") (List.mem_of_getElem? (i := 3) rfl)) (fun _ h9 => h9) rfl (by decide +kernel) rfl rfl (Nat.le_of_ble_eq_true rfl) dX8_begin_12 (fun H locs hP hD hS => ?_)
  have hP : va_P D vwCl (wWX8 cB cI cZ a0 (upd I0_2 2 x2) M0) H := hP
  have hD : va_D A (wWX8 cB cI cZ a0 (upd I0_2 2 x2) M0) := hD
  obtain ⟨I0_3, eI0_3, hf⟩ := wb_v hf
  rw [← eI0_3] at hP hD
  refine lv_aload_n hx hb dX8_begin_15 rfl (lv_at hl 0 rfl) ?_
  refine lv_iload_n hx hb dX8_begin_16 rfl (lv_at hl 3 rfl) ?_
  refine va_put (D := D) (ci := 8) (v := .int x3) (ty := .int) (C := RX8) (T := TX8) (N := 8) hx hb hts hinX8 tyX8 tyX8_ok nmX8 hown hK hP hD hS 0 rfl rfl 3 (by decide) (hts (.fieldLink RX8 26 "WheelBook$Search" "next" "I") (List.mem_of_getElem? (i := 4) rfl)) (fun _ h9 => h9) rfl (by decide +kernel) rfl rfl (Nat.le_of_ble_eq_true rfl) dX8_begin_17 (fun H locs hP hD hS => ?_)
  have hP : va_P D vwCl (wWX8 cB cI cZ a0 (upd I0_3 3 x3) M0) H := hP
  have hD : va_D A (wWX8 cB cI cZ a0 (upd I0_3 3 x3) M0) := hD
  obtain ⟨I0_4, eI0_4, hf⟩ := wb_v hf
  rw [← eI0_4] at hP hD
  refine lv_aload_n hx hb dX8_begin_20 rfl (lv_at hl 0 rfl) ?_
  refine lv_sipush (v := (1000 : Int32)) hx hb dX8_begin_21 (by decide) ?_
  refine va_put (D := D) (ci := 8) (v := .int (1000 : Int32)) (ty := .int) (C := RX8) (T := TX8) (N := 8) hx hb hts hinX8 tyX8 tyX8_ok nmX8 hown hK hP hD hS 0 rfl rfl 4 (by decide) (hts (.fieldLink RX8 31 "WheelBook$Search" "least" "I") (List.mem_of_getElem? (i := 5) rfl)) (fun _ h9 => h9) rfl (by decide +kernel) rfl rfl (Nat.le_of_ble_eq_true rfl) dX8_begin_24 (fun H locs hP hD hS => ?_)
  have hP : va_P D vwCl (wWX8 cB cI cZ a0 (upd I0_4 4 (1000 : Int32)) M0) H := hP
  have hD : va_D A (wWX8 cB cI cZ a0 (upd I0_4 4 (1000 : Int32)) M0) := hD
  obtain ⟨I0_5, eI0_5, hf⟩ := wb_v hf
  rw [← eI0_5] at hP hD
  refine lv_aload_n hx hb dX8_begin_27 rfl (lv_at hl 0 rfl) ?_
  refine lv_iconst (v := (0 : Int32)) hx hb dX8_begin_28 (by decide) ?_
  refine va_put (D := D) (ci := 8) (v := .int (0 : Int32)) (ty := .int) (C := RX8) (T := TX8) (N := 8) hx hb hts hinX8 tyX8 tyX8_ok nmX8 hown hK hP hD hS 0 rfl rfl 5 (by decide) (hts (.fieldLink RX8 34 "WheelBook$Search" "many" "I") (List.mem_of_getElem? (i := 6) rfl)) (fun _ h9 => h9) rfl (by decide +kernel) rfl rfl (Nat.le_of_ble_eq_true rfl) dX8_begin_29 (fun H locs hP hD hS => ?_)
  have hP : va_P D vwCl (wWX8 cB cI cZ a0 (upd I0_5 5 (0 : Int32)) M0) H := hP
  have hD : va_D A (wWX8 cB cI cZ a0 (upd I0_5 5 (0 : Int32)) M0) := hD
  obtain ⟨I0_6, eI0_6, hf⟩ := wb_v hf
  rw [← eI0_6] at hP hD
  refine lv_aload_n hx hb dX8_begin_32 rfl (lv_at hl 0 rfl) ?_
  refine lv_iconst (v := (-1 : Int32)) hx hb dX8_begin_33 (by decide) ?_
  refine va_put (D := D) (ci := 8) (v := .int (-1 : Int32)) (ty := .int) (C := RX8) (T := TX8) (N := 8) hx hb hts hinX8 tyX8 tyX8_ok nmX8 hown hK hP hD hS 0 rfl rfl 6 (by decide) (hts (.fieldLink RX8 37 "WheelBook$Search" "latest" "I") (List.mem_of_getElem? (i := 7) rfl)) (fun _ h9 => h9) rfl (by decide +kernel) rfl rfl (Nat.le_of_ble_eq_true rfl) dX8_begin_34 (fun H locs hP hD hS => ?_)
  have hP : va_P D vwCl (wWX8 cB cI cZ a0 (upd I0_6 6 (-1 : Int32)) M0) H := hP
  have hD : va_D A (wWX8 cB cI cZ a0 (upd I0_6 6 (-1 : Int32)) M0) := hD
  obtain ⟨I0_7, eI0_7, hf⟩ := wb_v hf
  rw [← eI0_7] at hP hD
  exact W.vret hx hb hr (fun t ht hW => by rw [← Option.some.inj hf]; exact ⟨⟨(), rfl, trivial, by rw [ht]; exact hP, va_K.moved hW.alike hK, hD⟩, hS.F ht⟩) hS.2.2 dX8_begin_37
