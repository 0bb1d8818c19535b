set_option maxHeartbeats 4000000 in
set_option maxRecDepth 100000 in
theorem cn_X1_howManyHanded (l : Launch) (D : va_G) (cB cI cZ : ClassId) (N : Nat) (a0 : Nat → Nat) (I0 : Nat → Int32) (M0 : Nat → Nat → Int32) (x1 : Int32) (x2 : Int32) (x3 : Int32) (R : Int32) (hf : fX1_howManyHanded N I0 M0 x1 x2 x3 = some R) : Met l yX1_howManyHanded wsX1_howManyHanded ({ frames := 0, cells := 0, slots := 0, locals := 0 }) (va_Pc [.ref (a0 0), .int x1, .int x2, .int x3] (wb_pre D [(cB, .byte), (cI, .int), (cZ, .boolean)] (wWX1 cB cI cZ a0 I0 M0))) (vp_Si (fun r => r = R)) 0 0 (fun _ => False) := by
  refine Met.ofW (cc := cX1_howManyHanded) (maxL := 9) (ret := (some .int)) pn_X1 rfl ?_
  intro p e s m args below meth c s₁ B hml hv
  obtain ⟨rfl, hP, hK⟩ := hv
  have hx := B.exec
  have hb := B.bytes
  have hr := B.returns
  have hts := atoms_spec (ws := wsX1_howManyHanded) B.pre
  have hown : s.vm.findClass RX1 = some m.cls := (findClass_of_methodNamed B.named :)
  have hlocks := B.notSynchronized
  have hinX1 : ∀ w ∈ u_ws RX1 TX1 2, w ∈ wsX1_howManyHanded := fun w h => List.mem_cons_of_mem _ (List.mem_append_right _ h)
  have hl := lv_entry ([.ref (a0 0), .int x1, .int x2, .int x3]) (n := 9) (Nat.le_of_ble_eq_true rfl)
  rw [lg_entry_eq]
  generalize (lg_sl ([.ref (a0 0), .int x1, .int x2, .int x3]) ++ List.replicate (9 - (lg_sl ([.ref (a0 0), .int x1, .int x2, .int x3])).length) Slot.unset).toArray = ls at hl ⊢
  have hl : lv_has ls 9 [(0, .ref (a0 0)), (1, .int x1), (2, .int x2), (3, .int x3)] := hl
  unfold fX1_howManyHanded at hf
  refine lv_iconst (v := (0 : Int32)) hx hb dX1_howManyHanded_0 (by decide) ?_
  refine lv_istore (lv' := [(4, .int (0 : Int32)), (0, .ref (a0 0)), (1, .int x1), (2, .int x2), (3, .int x3)]) hx hb dX1_howManyHanded_1 hl (by decide) rfl (fun ls hl => ?_)
  refine lv_iconst (v := (0 : Int32)) hx hb dX1_howManyHanded_3 (by decide) ?_
  refine lv_istore (lv' := [(5, .int (0 : Int32)), (4, .int (0 : Int32)), (0, .ref (a0 0)), (1, .int x1), (2, .int x2), (3, .int x3)]) hx hb dX1_howManyHanded_4 hl (by decide) rfl (fun ls hl => ?_)
  have L6 : ∀ (fu6 : Nat) (y6_4 : Int32) (y6_5 : Int32), ∀ (ls : Array Slot), lv_has ls 9 [(0, .ref (a0 0)), (1, .int x1), (2, .int x2), (3, .int x3), (4, .int y6_4), (5, .int y6_5)] → fX1_howManyHanded_L6 N I0 M0 x1 x2 x3 fu6 y6_4 y6_5 = some R → W p l e (headSpec wsX1_howManyHanded { frames := 0, cells := 0, slots := 0, locals := 0 }).room s m [.ref (a0 0), .int x1, .int x2, .int x3].toArray below meth c s.heap [] 0 0 (MQ below (vp_Si (fun r => r = R)) [.ref (a0 0), .int x1, .int x2, .int x3].toArray s 0 0 (fun _ => False)) (F0 m 6 ls []) := by
    intro fu6
    induction fu6 with
    | zero =>
      intro y6_4 y6_5 ls hl hf
      exact absurd hf (by rw [fX1_howManyHanded_L6.eq_1]; exact fun h => nomatch h)
    | succ fu6 ih6 =>
      intro y6_4 y6_5 ls hl hf
      rw [fX1_howManyHanded_L6.eq_2] at hf
      refine lv_iload hx hb dX1_howManyHanded_6 (lv_at hl 5 rfl) ?_
      refine lv_sipush (v := (440 : Int32)) hx hb dX1_howManyHanded_8 (by decide) ?_
      refine lv_icmp_ge (tgt := 94) hx hb dX1_howManyHanded_11 (by decide) (fun hc => ?_) (fun hc => ?_)
      · replace hf := wb_t hc hf
        refine lv_iload hx hb dX1_howManyHanded_94 (lv_at hl 4 rfl) ?_
        exact W.iret (v := y6_4) hx hb hr (fun t ht hW => ⟨_, rfl, Option.some.inj hf, ht⟩) (fun _ h => nomatch h) dX1_howManyHanded_96
      · replace hf := wb_f hc hf
        refine lv_aload_n hx hb dX1_howManyHanded_14 rfl (lv_at hl 0 rfl) ?_
        refine va_get (D := D) (ci := 1) (v := .ref (a0 1)) (C := RX1) (T := TX1) (N := 2) hx hb hts hinX1 hown hK hP 0 rfl rfl 0 (by decide) (hts (.fieldLink RX1 9 "WheelBook$Books" "degrees" "[I") (List.mem_of_getElem? (i := 1) rfl)) (fun _ h9 => h9) rfl dX1_howManyHanded_15 ?_
        refine lv_sipush (v := (440 : Int32)) hx hb dX1_howManyHanded_18 (by decide) ?_
        refine lv_iload_n hx hb dX1_howManyHanded_21 rfl (lv_at hl 1 rfl) ?_
        refine lv_imul hx hb dX1_howManyHanded_22 ?_
        refine lv_iload hx hb dX1_howManyHanded_23 (lv_at hl 5 rfl) ?_
        refine lv_iadd hx hb dX1_howManyHanded_25 ?_
        obtain ⟨hin, hf⟩ := wb_n hf
        refine va_iald hx hb hK hP 1 1 rfl rfl hin dX1_howManyHanded_26 ?_
        obtain ⟨v1, ev1, hf⟩ := wb_v hf
        refine wb_topi ev1 ?_
        refine lv_istore (lv' := [(6, .int v1), (0, .ref (a0 0)), (1, .int x1), (2, .int x2), (3, .int x3), (4, .int y6_4), (5, .int y6_5)]) hx hb dX1_howManyHanded_27 hl (by decide) rfl (fun ls hl => ?_)
        refine lv_aload_n hx hb dX1_howManyHanded_29 rfl (lv_at hl 1 rfl) ?_
        refine va_get (D := D) (ci := 1) (v := .ref (a0 1)) (C := RX1) (T := TX1) (N := 2) hx hb hts hinX1 hown hK hP 0 rfl rfl 0 (by decide) (hts (.fieldLink RX1 9 "WheelBook$Books" "degrees" "[I") (List.mem_of_getElem? (i := 1) rfl)) (fun _ h9 => h9) rfl dX1_howManyHanded_30 ?_
        refine lv_sipush (v := (440 : Int32)) hx hb dX1_howManyHanded_33 (by decide) ?_
        refine lv_iload_n hx hb dX1_howManyHanded_36 rfl (lv_at hl 3 rfl) ?_
        refine lv_imul hx hb dX1_howManyHanded_37 ?_
        refine lv_iload hx hb dX1_howManyHanded_38 (lv_at hl 6 rfl) ?_
        refine lv_iadd hx hb dX1_howManyHanded_40 ?_
        obtain ⟨hin, hf⟩ := wb_n hf
        refine va_iald hx hb hK hP 1 1 rfl rfl hin dX1_howManyHanded_41 ?_
        obtain ⟨v2, ev2, hf⟩ := wb_v hf
        refine wb_topi ev2 ?_
        refine lv_istore (lv' := [(7, .int v2), (6, .int v1), (0, .ref (a0 0)), (1, .int x1), (2, .int x2), (3, .int x3), (4, .int y6_4), (5, .int y6_5)]) hx hb dX1_howManyHanded_42 hl (by decide) rfl (fun ls hl => ?_)
        refine lv_aload_n hx hb dX1_howManyHanded_44 rfl (lv_at hl 2 rfl) ?_
        refine va_get (D := D) (ci := 1) (v := .ref (a0 1)) (C := RX1) (T := TX1) (N := 2) hx hb hts hinX1 hown hK hP 0 rfl rfl 0 (by decide) (hts (.fieldLink RX1 9 "WheelBook$Books" "degrees" "[I") (List.mem_of_getElem? (i := 1) rfl)) (fun _ h9 => h9) rfl dX1_howManyHanded_45 ?_
        refine lv_sipush (v := (440 : Int32)) hx hb dX1_howManyHanded_48 (by decide) ?_
        refine lv_iload_n hx hb dX1_howManyHanded_51 rfl (lv_at hl 5 rfl) ?_
        refine lv_imul hx hb dX1_howManyHanded_52 ?_
        refine lv_iload hx hb dX1_howManyHanded_53 (lv_at hl 7 rfl) ?_
        refine lv_iadd hx hb dX1_howManyHanded_55 ?_
        obtain ⟨hin, hf⟩ := wb_n hf
        refine va_iald hx hb hK hP 1 1 rfl rfl hin dX1_howManyHanded_56 ?_
        obtain ⟨v3, ev3, hf⟩ := wb_v hf
        refine wb_topi ev3 ?_
        refine lv_istore (lv' := [(8, .int v3), (7, .int v2), (6, .int v1), (0, .ref (a0 0)), (1, .int x1), (2, .int x2), (3, .int x3), (4, .int y6_4), (5, .int y6_5)]) hx hb dX1_howManyHanded_57 hl (by decide) rfl (fun ls hl => ?_)
        refine lv_iload hx hb dX1_howManyHanded_59 (lv_at hl 2 rfl) ?_
        refine lv_iconst (v := (-1 : Int32)) hx hb dX1_howManyHanded_61 (by decide) ?_
        refine lv_icmp_eq (tgt := 88) hx hb dX1_howManyHanded_62 (by decide) (fun hc => ?_) (fun hc => ?_)
        · replace hf := wb_t hc hf
          obtain ⟨v4, ev4, hf⟩ := wb_v hf
          refine lv_iinc (v := v4) (lv' := [(5, .int v4), (8, .int v3), (7, .int v2), (6, .int v1), (0, .ref (a0 0)), (1, .int x1), (2, .int x2), (3, .int x3), (4, .int y6_4)]) hx hb dX1_howManyHanded_88 hl (k := 8) rfl (by rw [ev4]; rfl) (by decide) rfl (fun ls hl => ?_)
          refine lv_goto (tgt := 6) hx hb dX1_howManyHanded_91 (by decide) ?_
          exact ih6 y6_4 v4 ls (lv_sub hl [4, 5, 6, 7, 8, 0] rfl) hf
        · replace hf := wb_f hc hf
          refine lv_iload hx hb dX1_howManyHanded_65 (lv_at hl 2 rfl) ?_
          refine lv_iload hx hb dX1_howManyHanded_67 (lv_at hl 1 rfl) ?_
          refine lv_icmp_ne (tgt := 88) hx hb dX1_howManyHanded_69 (by decide) (fun hc => ?_) (fun hc => ?_)
          · replace hf := wb_f hc hf
            obtain ⟨v5, ev5, hf⟩ := wb_v hf
            refine lv_iinc (v := v5) (lv' := [(5, .int v5), (8, .int v3), (7, .int v2), (6, .int v1), (0, .ref (a0 0)), (1, .int x1), (2, .int x2), (3, .int x3), (4, .int y6_4)]) hx hb dX1_howManyHanded_88 hl (k := 8) rfl (by rw [ev5]; rfl) (by decide) rfl (fun ls hl => ?_)
            refine lv_goto (tgt := 6) hx hb dX1_howManyHanded_91 (by decide) ?_
            exact ih6 y6_4 v5 ls (lv_sub hl [4, 5, 6, 7, 8, 0] rfl) hf
          · replace hf := wb_t hc hf
            refine lv_iload hx hb dX1_howManyHanded_72 (lv_at hl 0 rfl) ?_
            refine lv_iconst (v := (-1 : Int32)) hx hb dX1_howManyHanded_74 (by decide) ?_
            refine lv_icmp_eq (tgt := 88) hx hb dX1_howManyHanded_75 (by decide) (fun hc => ?_) (fun hc => ?_)
            · replace hf := wb_t hc hf
              obtain ⟨v6, ev6, hf⟩ := wb_v hf
              refine lv_iinc (v := v6) (lv' := [(5, .int v6), (8, .int v3), (7, .int v2), (6, .int v1), (0, .ref (a0 0)), (1, .int x1), (2, .int x2), (3, .int x3), (4, .int y6_4)]) hx hb dX1_howManyHanded_88 hl (k := 8) rfl (by rw [ev6]; rfl) (by decide) rfl (fun ls hl => ?_)
              refine lv_goto (tgt := 6) hx hb dX1_howManyHanded_91 (by decide) ?_
              exact ih6 y6_4 v6 ls (lv_sub hl [4, 5, 6, 7, 8, 0] rfl) hf
            · replace hf := wb_f hc hf
              refine lv_iload hx hb dX1_howManyHanded_78 (lv_at hl 0 rfl) ?_
              refine lv_iload hx hb dX1_howManyHanded_80 (lv_at hl 2 rfl) ?_
              refine lv_icmp_eq (tgt := 88) hx hb dX1_howManyHanded_82 (by decide) (fun hc => ?_) (fun hc => ?_)
              · replace hf := wb_t hc hf
                obtain ⟨v7, ev7, hf⟩ := wb_v hf
                refine lv_iinc (v := v7) (lv' := [(5, .int v7), (8, .int v3), (7, .int v2), (6, .int v1), (0, .ref (a0 0)), (1, .int x1), (2, .int x2), (3, .int x3), (4, .int y6_4)]) hx hb dX1_howManyHanded_88 hl (k := 8) rfl (by rw [ev7]; rfl) (by decide) rfl (fun ls hl => ?_)
                refine lv_goto (tgt := 6) hx hb dX1_howManyHanded_91 (by decide) ?_
                exact ih6 y6_4 v7 ls (lv_sub hl [4, 5, 6, 7, 8, 0] rfl) hf
              · replace hf := wb_f hc hf
                obtain ⟨v8, ev8, hf⟩ := wb_v hf
                refine lv_iinc (v := v8) (lv' := [(4, .int v8), (8, .int v3), (7, .int v2), (6, .int v1), (0, .ref (a0 0)), (1, .int x1), (2, .int x2), (3, .int x3), (5, .int y6_5)]) hx hb dX1_howManyHanded_85 hl (k := 7) rfl (by rw [ev8]; rfl) (by decide) rfl (fun ls hl => ?_)
                obtain ⟨v9, ev9, hf⟩ := wb_v hf
                refine lv_iinc (v := v9) (lv' := [(5, .int v9), (4, .int v8), (8, .int v3), (7, .int v2), (6, .int v1), (0, .ref (a0 0)), (1, .int x1), (2, .int x2), (3, .int x3)]) hx hb dX1_howManyHanded_88 hl (k := 8) rfl (by rw [ev9]; rfl) (by decide) rfl (fun ls hl => ?_)
                refine lv_goto (tgt := 6) hx hb dX1_howManyHanded_91 (by decide) ?_
                exact ih6 v8 v9 ls (lv_sub hl [5, 6, 7, 8, 1, 0] rfl) hf
  exact L6 N (0 : Int32) (0 : Int32) ls (lv_sub hl [2, 3, 4, 5, 1, 0] rfl) hf

set_option maxHeartbeats 4000000 in
set_option maxRecDepth 100000 in
theorem cn_X2_copyFrom (l : Launch) (D : va_G) (cB cI cZ : ClassId) (N : Nat) (a0 : Nat → Nat) (I0 : Nat → Int32) (M0 : Nat → Nat → Int32) (a1 : Nat → Nat) (I1 : Nat → Int32) (M1 : Nat → Nat → Int32) (sz : Nat) (R : (Nat → Int32) × (Nat → Nat → Int32)) (hf : fX2_copyFrom N I0 M0 I1 M1 = some R) : Met l yX2_copyFrom wsX2_copyFrom ({ frames := 1, cells := 0, slots := 0, locals := 80 }) (va_Pc [.ref (a0 0), .ref (a1 0)] (wb_preD D [(cB, .byte), (cI, .int), (cZ, .boolean)] ((wWX2 cB cI cZ a0 I0 M0) ++ (wWX2 cB cI cZ a1 I1 M1)) sz)) (va_Qv (fun _ : Unit => True) (fun _ t => wb_post D [(cB, .byte), (cI, .int), (cZ, .boolean)] (va_A ((wWX2 cB cI cZ a0 I0 M0) ++ (wWX2 cB cI cZ a1 I1 M1)) sz) ((wWX2 cB cI cZ a0 R.1 R.2) ++ (wWX2 cB cI cZ a1 I1 M1)) t) (va_A ((wWX2 cB cI cZ a0 I0 M0) ++ (wWX2 cB cI cZ a1 I1 M1)) sz)) 0 0 (va_A ((wWX2 cB cI cZ a0 I0 M0) ++ (wWX2 cB cI cZ a1 I1 M1)) sz) := by
  refine Met.ofW (cc := cX2_copyFrom) (maxL := 2) (ret := none) pn_X2 rfl ?_
  intro p e s m args below meth c s₁ B hml hv
  obtain ⟨rfl, hsz, hP, hK, hD0⟩ := hv
  have hx := B.exec
  have hb := B.bytes
  have hr := B.returns
  have hts := atoms_spec (ws := wsX2_copyFrom) B.pre
  have hown : s.vm.findClass RX2 = some m.cls := (findClass_of_methodNamed B.named :)
  have hlocks := B.notSynchronized
  have hinX2 : ∀ w ∈ u_ws RX2 TX2 2, w ∈ wsX2_copyFrom := fun w h => List.mem_cons_of_mem _ (List.mem_append_right _ h)
  subst hsz
  have hD := hD0.self (sz := s.heap.size)
  generalize hAe : va_A ((wWX2 cB cI cZ a0 I0 M0) ++ (wWX2 cB cI cZ a1 I1 M1)) s.heap.size = A at hD ⊢
  have hA : ∀ q : Nat, s.heap.size ≤ q → A q := fun q h => by rw [← hAe]; exact Or.inr h
  have hS : va_S A s.heap s.heap [] := va_S.rf
  have hl := lv_entry ([.ref (a0 0), .ref (a1 0)]) (n := 2) (Nat.le_of_ble_eq_true rfl)
  rw [lg_entry_eq]
  generalize (lg_sl ([.ref (a0 0), .ref (a1 0)]) ++ List.replicate (2 - (lg_sl ([.ref (a0 0), .ref (a1 0)])).length) Slot.unset).toArray = ls at hl ⊢
  have hl : lv_has ls 2 [(0, .ref (a0 0)), (1, .ref (a1 0))] := hl
  unfold fX2_copyFrom at hf
  obtain ⟨H, hHe⟩ : ∃ H : Heap, H = s.heap := ⟨_, rfl⟩
  obtain ⟨locs, hle⟩ : ∃ locs : List Loc, locs = [] := ⟨_, rfl⟩
  refine wb_start (H := H) (locs := locs) hHe hle ?_
  rw [← hHe] at hP
  have hS : va_S A s.heap H locs := by rw [hHe, hle]; exact va_S.rf
  refine lv_aload_n hx hb dX2_copyFrom_0 rfl (lv_at hl 1 rfl) ?_
  refine va_get (D := D) (ci := 2) (v := .ref (a1 1)) (C := RX2) (T := TX2) (N := 2) hx hb hts hinX2 hown hK hP 2 rfl rfl 0 (by decide) (hts (.fieldLink RX2 11 "WheelBook$Climates" "ahead" "[I") (List.mem_of_getElem? (i := 1) rfl)) (fun _ h9 => h9) rfl dX2_copyFrom_1 ?_
  refine lv_iconst (v := (0 : Int32)) hx hb dX2_copyFrom_4 (by decide) ?_
  refine lv_aload_n hx hb dX2_copyFrom_5 rfl (lv_at hl 0 rfl) ?_
  refine va_get (D := D) (ci := 2) (v := .ref (a0 1)) (C := RX2) (T := TX2) (N := 2) hx hb hts hinX2 hown hK hP 0 rfl rfl 0 (by decide) (hts (.fieldLink RX2 11 "WheelBook$Climates" "ahead" "[I") (List.mem_of_getElem? (i := 1) rfl)) (fun _ h9 => h9) rfl dX2_copyFrom_6 ?_
  refine lv_iconst (v := (0 : Int32)) hx hb dX2_copyFrom_9 (by decide) ?_
  refine lv_bipush (v := (91 : Int32)) hx hb dX2_copyFrom_10 (by decide) ?_
  obtain ⟨hcp, hf⟩ := wb_n hf
  obtain ⟨hcp1, hcp2, hcp3, hcp4, hcp5⟩ := wb_cp hcp
  refine va_copyi hx hb (hml.trans hl.1.symm) hown (hts (.methodLink RX2 15 arraycopyName) (List.mem_of_getElem? (i := 2) rfl)) (hts (.native arraycopyName) (List.mem_of_getElem? (i := 3) rfl)) (hts (.static arraycopyName) (List.mem_of_getElem? (i := 4) rfl)) (hts (.initialized "java/lang/System") (List.mem_of_getElem? (i := 5) rfl)) hK hP hD hS 3 1 1 1 rfl rfl rfl rfl rfl hcp1 hcp2 hcp3 hcp4 hcp5 (fun _ _ => rfl) (Nat.le_of_ble_eq_true rfl) (by decide +kernel) dX2_copyFrom_12 (fun H locs hP hD hS => ?_)
  have hP : va_P D vwCl ((wWX2 cB cI cZ a0 I0 (wb_mm M0 0 (va_cpy (M1 0) (M0 0) ((0 : Int32)).toNatClampNeg ((0 : Int32)).toNatClampNeg ((91 : Int32)).toNatClampNeg))) ++ (wWX2 cB cI cZ a1 I1 M1)) H := hP
  have hD : va_D A ((wWX2 cB cI cZ a0 I0 (wb_mm M0 0 (va_cpy (M1 0) (M0 0) ((0 : Int32)).toNatClampNeg ((0 : Int32)).toNatClampNeg ((91 : Int32)).toNatClampNeg))) ++ (wWX2 cB cI cZ a1 I1 M1)) := hD
  obtain ⟨M0_1, eM0_1, hf⟩ := wb_v hf
  rw [← eM0_1] at hP hD
  refine lv_aload_n hx hb dX2_copyFrom_15 rfl (lv_at hl 0 rfl) ?_
  refine lv_aload_n hx hb dX2_copyFrom_16 rfl (lv_at hl 1 rfl) ?_
  refine va_get (D := D) (ci := 2) (v := .int (I1 0)) (C := RX2) (T := TX2) (N := 2) hx hb hts hinX2 hown hK hP 2 rfl rfl 1 (by decide) (hts (.fieldLink RX2 21 "WheelBook$Climates" "many" "I") (List.mem_of_getElem? (i := 6) rfl)) (fun _ h9 => h9) rfl dX2_copyFrom_17 ?_
  refine va_put (D := D) (ci := 2) (v := .int (I1 0)) (ty := .int) (C := RX2) (T := TX2) (N := 2) hx hb hts hinX2 tyX2 tyX2_ok nmX2 hown hK hP hD hS 0 rfl rfl 1 (by decide) (hts (.fieldLink RX2 21 "WheelBook$Climates" "many" "I") (List.mem_of_getElem? (i := 6) rfl)) (fun _ h9 => h9) rfl (by decide +kernel) rfl rfl (Nat.le_of_ble_eq_true rfl) dX2_copyFrom_20 (fun H locs hP hD hS => ?_)
  have hP : va_P D vwCl ((wWX2 cB cI cZ a0 (upd I0 0 (I1 0)) M0_1) ++ (wWX2 cB cI cZ a1 I1 M1)) H := hP
  have hD : va_D A ((wWX2 cB cI cZ a0 (upd I0 0 (I1 0)) M0_1) ++ (wWX2 cB cI cZ a1 I1 M1)) := hD
  obtain ⟨I0_2, eI0_2, hf⟩ := wb_v hf
  rw [← eI0_2] at hP hD
  exact W.vret hx hb hr (fun t ht hW => by rw [← Option.some.inj hf]; exact ⟨⟨(), rfl, trivial, by rw [ht]; exact hP, va_K.moved hW.alike hK, hD⟩, hS.F ht⟩) hS.2.2 dX2_copyFrom_23

set_option maxHeartbeats 4000000 in
set_option maxRecDepth 100000 in
theorem cn_X2_readRising (l : Launch) (D : va_G) (cB cI cZ : ClassId) (N : Nat) (a0 : Nat → Nat) (I0 : Nat → Int32) (M0 : Nat → Nat → Int32) (a1 : Nat → Nat) (I1 : Nat → Int32) (M1 : Nat → Nat → Int32) (sz : Nat) (R : Int32 × (Nat → Int32) × (Nat → Nat → Int32) × (Nat → Int32) × (Nat → Nat → Int32)) (hf : fX2_readRising N I0 M0 I1 M1 = some R) : Met l yX2_readRising wsX2_readRising ({ frames := 3, cells := 0, slots := 0, locals := 65 }) (va_Pc [.ref (a0 0), .ref (a1 0)] (wb_preD D [(cB, .byte), (cI, .int), (cZ, .boolean)] ((wWX2 cB cI cZ a0 I0 M0) ++ (wWX9 cB cI cZ a1 I1 M1)) sz)) (va_Qi (fun r (_ : Unit) => r = R.1) (fun _ t => wb_post D [(cB, .byte), (cI, .int), (cZ, .boolean)] (va_A ((wWX2 cB cI cZ a0 I0 M0) ++ (wWX9 cB cI cZ a1 I1 M1)) sz) ((wWX2 cB cI cZ a0 R.2.1 R.2.2.1) ++ (wWX9 cB cI cZ a1 R.2.2.2.1 R.2.2.2.2)) t) (va_A ((wWX2 cB cI cZ a0 I0 M0) ++ (wWX9 cB cI cZ a1 I1 M1)) sz)) 0 0 (va_A ((wWX2 cB cI cZ a0 I0 M0) ++ (wWX9 cB cI cZ a1 I1 M1)) sz) := by
  refine Met.ofW (cc := cX2_readRising) (maxL := 6) (ret := (some .boolean)) pn_X2 rfl ?_
  intro p e s m args below meth c s₁ B hml hv
  obtain ⟨rfl, hsz, hP, hK, hD0⟩ := hv
  have hx := B.exec
  have hb := B.bytes
  have hr := B.returns
  have hts := atoms_spec (ws := wsX2_readRising) B.pre
  have hown : s.vm.findClass RX2 = some m.cls := (findClass_of_methodNamed B.named :)
  have hlocks := B.notSynchronized
  have hinX2 : ∀ w ∈ u_ws RX2 TX2 2, w ∈ wsX2_readRising := fun w h => List.mem_cons_of_mem _ (List.mem_append_right _ h)
  have hinX9 : ∀ w ∈ u_ws RX9 TX9 10, w ∈ wsX2_readRising := fun w h => List.mem_cons_of_mem _ (List.mem_append_left _ (List.mem_append_right _ h))
  subst hsz
  have hD := hD0.self (sz := s.heap.size)
  generalize hAe : va_A ((wWX2 cB cI cZ a0 I0 M0) ++ (wWX9 cB cI cZ a1 I1 M1)) s.heap.size = A at hD ⊢
  have hA : ∀ q : Nat, s.heap.size ≤ q → A q := fun q h => by rw [← hAe]; exact Or.inr h
  have hS : va_S A s.heap s.heap [] := va_S.rf
  have hl := lv_entry ([.ref (a0 0), .ref (a1 0)]) (n := 6) (Nat.le_of_ble_eq_true rfl)
  rw [lg_entry_eq]
  generalize (lg_sl ([.ref (a0 0), .ref (a1 0)]) ++ List.replicate (6 - (lg_sl ([.ref (a0 0), .ref (a1 0)])).length) Slot.unset).toArray = ls at hl ⊢
  have hl : lv_has ls 6 [(0, .ref (a0 0)), (1, .ref (a1 0))] := hl
  unfold fX2_readRising at hf
  obtain ⟨H, hHe⟩ : ∃ H : Heap, H = s.heap := ⟨_, rfl⟩
  obtain ⟨locs, hle⟩ : ∃ locs : List Loc, locs = [] := ⟨_, rfl⟩
  refine wb_start (H := H) (locs := locs) hHe hle ?_
  rw [← hHe] at hP
  have hS : va_S A s.heap H locs := by rw [hHe, hle]; exact va_S.rf
  refine lv_iconst (v := (0 : Int32)) hx hb dX2_readRising_0 (by decide) ?_
  refine lv_istore_n (lv' := [(2, .int (0 : Int32)), (0, .ref (a0 0)), (1, .ref (a1 0))]) hx hb dX2_readRising_1 rfl hl (by decide) rfl (fun ls hl => ?_)
  refine lv_iconst (v := (0 : Int32)) hx hb dX2_readRising_2 (by decide) ?_
  refine lv_istore_n (lv' := [(3, .int (0 : Int32)), (2, .int (0 : Int32)), (0, .ref (a0 0)), (1, .ref (a1 0))]) hx hb dX2_readRising_3 rfl hl (by decide) rfl (fun ls hl => ?_)
  have L4 : ∀ (fu4 : Nat) (I0_l4 : Nat → Int32) (M0_l4 : Nat → Nat → Int32) (I1_l4 : Nat → Int32) (M1_l4 : Nat → Nat → Int32) (y4_2 : Int32) (y4_3 : Int32) (H : Heap) (locs : List Loc), va_P D vwCl ((wWX2 cB cI cZ a0 I0_l4 M0_l4) ++ (wWX9 cB cI cZ a1 I1_l4 M1_l4)) H → va_D A ((wWX2 cB cI cZ a0 I0_l4 M0_l4) ++ (wWX9 cB cI cZ a1 I1_l4 M1_l4)) → va_S A s.heap H locs → ∀ (ls : Array Slot), lv_has ls 6 [(0, .ref (a0 0)), (1, .ref (a1 0)), (2, .int y4_2), (3, .int y4_3)] → fX2_readRising_L4 N fu4 I0_l4 M0_l4 I1_l4 M1_l4 y4_2 y4_3 = some R → W p l e (headSpec wsX2_readRising { frames := 3, cells := 0, slots := 0, locals := 65 }).room s m [.ref (a0 0), .ref (a1 0)].toArray below meth c H locs 0 0 (MQ below (va_Qi (fun r (_ : Unit) => r = R.1) (fun _ t => wb_post D [(cB, .byte), (cI, .int), (cZ, .boolean)] A ((wWX2 cB cI cZ a0 R.2.1 R.2.2.1) ++ (wWX9 cB cI cZ a1 R.2.2.2.1 R.2.2.2.2)) t) A) [.ref (a0 0), .ref (a1 0)].toArray s 0 0 A) (F0 m 4 ls []) := by
    intro fu4
    induction fu4 with
    | zero =>
      intro I0_l4 M0_l4 I1_l4 M1_l4 y4_2 y4_3 H locs hP hD hS ls hl hf
      exact absurd hf (by rw [fX2_readRising_L4.eq_1]; exact fun h => nomatch h)
    | succ fu4 ih4 =>
      have J58 : ∀ (I0_j58 : Nat → Int32) (M0_j58 : Nat → Nat → Int32) (I1_j58 : Nat → Int32) (M1_j58 : Nat → Nat → Int32) (y58_2 : Int32) (y58_3 : Int32) (z58_0 : Int32) (z58_1 : Int32) (H : Heap) (locs : List Loc), va_P D vwCl ((wWX2 cB cI cZ a0 I0_j58 M0_j58) ++ (wWX9 cB cI cZ a1 I1_j58 M1_j58)) H → va_D A ((wWX2 cB cI cZ a0 I0_j58 M0_j58) ++ (wWX9 cB cI cZ a1 I1_j58 M1_j58)) → va_S A s.heap H locs → ∀ (ls : Array Slot), lv_has ls 6 [(0, .ref (a0 0)), (1, .ref (a1 0)), (2, .int y58_2), (3, .int y58_3)] → fX2_readRising_J58 N (fX2_readRising_L4 N fu4) I0_j58 M0_j58 I1_j58 M1_j58 y58_2 y58_3 z58_0 z58_1 = some R → W p l e (headSpec wsX2_readRising { frames := 3, cells := 0, slots := 0, locals := 65 }).room s m [.ref (a0 0), .ref (a1 0)].toArray below meth c H locs 0 0 (MQ below (va_Qi (fun r (_ : Unit) => r = R.1) (fun _ t => wb_post D [(cB, .byte), (cI, .int), (cZ, .boolean)] A ((wWX2 cB cI cZ a0 R.2.1 R.2.2.1) ++ (wWX9 cB cI cZ a1 R.2.2.2.1 R.2.2.2.2)) t) A) [.ref (a0 0), .ref (a1 0)].toArray s 0 0 A) (F0 m 58 ls [.int z58_0, .int z58_1, .ref (a1 0)]) := by
        intro I0_j58 M0_j58 I1_j58 M1_j58 y58_2 y58_3 z58_0 z58_1 H locs hP hD hS ls hl hf
        unfold fX2_readRising_J58 at hf
        obtain ⟨r1, hr1, hf⟩ := wb_b hf
        have hPc := hP.sub (ws' := (wWX9 cB cI cZ a1 I1_j58 M1_j58)) [2, 3] rfl
        have hDc := hD.sub (ws' := (wWX9 cB cI cZ a1 I1_j58 M1_j58)) [2, 3] (by decide) rfl
        have hFc := va_free (wc := (wWX9 cB cI cZ a1 I1_j58 M1_j58)) hD hS hA [2, 3] rfl
        refine va_calli (va_runV (As := [.int z58_1, .int z58_0]) (rest := []) ⟨hx, hb, hml, hown, hts⟩ (cn_X9_takeNumber l D cB cI cZ N a1 I1_j58 M1_j58 z58_1 z58_0 H.size r1 hr1) (cwV 2 hts gX2_readRising_X9_takeNumber rfl rfl rfl cdX9_takeNumber ⟨Nat.le_of_ble_eq_true rfl, Nat.le_of_ble_eq_true rfl⟩) (wb_preDV hPc hK hDc (wr_9 hK hP (q0 := 2) rfl)) rfl rfl hl.1 rfl (lv_room (Nat.le_of_ble_eq_true rfl)) dX2_readRising_58 ⟨Nat.le_of_ble_eq_true rfl, Nat.le_of_ble_eq_true rfl⟩) hS (fun q _ h => hFc q h) hFc (fun r9 u t H locs ht hvm hw hB hz1 hk1 hS => ?_)
        obtain ⟨hP, hD⟩ := wj_s (wc := (wWX9 cB cI cZ a1 I1_j58 M1_j58)) (w1 := (wWX9 cB cI cZ a1 r1.2.1 r1.2.2)) (wf := ((wWX2 cB cI cZ a0 I0_j58 M0_j58) ++ (wWX9 cB cI cZ a1 r1.2.1 r1.2.2))) 2 4 hP hD rfl rfl hk1 hFc ht hB
        rw [hw]
        refine lv_if_ne (tgt := 66) hx hb dX2_readRising_61 (by decide) (fun hc => ?_) (fun hc => ?_)
        · replace hf := wb_f hc hf
          refine lv_iload_n hx hb dX2_readRising_66 rfl (lv_at hl 2 rfl) ?_
          refine lv_aload_n hx hb dX2_readRising_67 rfl (lv_at hl 1 rfl) ?_
          refine va_get (D := D) (ci := 9) (v := .int (r1.2.1 6)) (C := RX9) (T := TX9) (N := 10) hx hb hts hinX9 hown hK hP 2 rfl rfl 7 (by decide) (hts (.fieldLink RX2 53 "WheelBook$Text" "number" "I") (List.mem_of_getElem? (i := 6) rfl)) (fun _ h9 => h9) rfl dX2_readRising_68 ?_
          refine lv_iadd hx hb dX2_readRising_71 ?_
          obtain ⟨v2, ev2, hf⟩ := wb_v hf
          refine wb_topi ev2 ?_
          refine lv_istore_n (lv' := [(2, .int v2), (0, .ref (a0 0)), (1, .ref (a1 0)), (3, .int y58_3)]) hx hb dX2_readRising_72 rfl hl (by decide) rfl (fun ls hl => ?_)
          refine lv_aload_n hx hb dX2_readRising_73 rfl (lv_at hl 1 rfl) ?_
          refine va_get (D := D) (ci := 2) (v := .ref (a0 1)) (C := RX2) (T := TX2) (N := 2) hx hb hts hinX2 hown hK hP 0 rfl rfl 0 (by decide) (hts (.fieldLink RX2 11 "WheelBook$Climates" "ahead" "[I") (List.mem_of_getElem? (i := 7) rfl)) (fun _ h9 => h9) rfl dX2_readRising_74 ?_
          refine lv_bipush (v := (13 : Int32)) hx hb dX2_readRising_77 (by decide) ?_
          refine lv_aload_n hx hb dX2_readRising_79 rfl (lv_at hl 1 rfl) ?_
          refine va_get (D := D) (ci := 2) (v := .int (I0_j58 0)) (C := RX2) (T := TX2) (N := 2) hx hb hts hinX2 hown hK hP 0 rfl rfl 1 (by decide) (hts (.fieldLink RX2 21 "WheelBook$Climates" "many" "I") (List.mem_of_getElem? (i := 8) rfl)) (fun _ h9 => h9) rfl dX2_readRising_80 ?_
          refine lv_imul hx hb dX2_readRising_83 ?_
          refine lv_iload_n hx hb dX2_readRising_84 rfl (lv_at hl 3 rfl) ?_
          refine lv_iadd hx hb dX2_readRising_85 ?_
          refine lv_iconst (v := (1 : Int32)) hx hb dX2_readRising_86 (by decide) ?_
          refine lv_iadd hx hb dX2_readRising_87 ?_
          refine lv_iload_n hx hb dX2_readRising_88 rfl (lv_at hl 0 rfl) ?_
          obtain ⟨hin, hf⟩ := wb_n hf
          refine va_iast hx hb hK hP hD hS 1 1 rfl rfl hin dX2_readRising_89 (fun H locs hP hD hS => ?_)
          have hP : va_P D vwCl ((wWX2 cB cI cZ a0 I0_j58 (wb_um M0_j58 0 (((((13 : Int32) * (I0_j58 0)) + y58_3) + (1 : Int32))).toNatClampNeg v2)) ++ (wWX9 cB cI cZ a1 r1.2.1 r1.2.2)) H := hP
          have hD : va_D A ((wWX2 cB cI cZ a0 I0_j58 (wb_um M0_j58 0 (((((13 : Int32) * (I0_j58 0)) + y58_3) + (1 : Int32))).toNatClampNeg v2)) ++ (wWX9 cB cI cZ a1 r1.2.1 r1.2.2)) := hD
          obtain ⟨M0_3, eM0_3, hf⟩ := wb_v hf
          rw [← eM0_3] at hP hD
          obtain ⟨v4, ev4, hf⟩ := wb_v hf
          refine lv_iinc (v := v4) (lv' := [(3, .int v4), (2, .int v2), (0, .ref (a0 0)), (1, .ref (a1 0))]) hx hb dX2_readRising_90 hl (k := 3) rfl (by rw [ev4]; rfl) (by decide) rfl (fun ls hl => ?_)
          refine lv_goto (tgt := 4) hx hb dX2_readRising_93 (by decide) ?_
          exact ih4 I0_j58 M0_3 r1.2.1 r1.2.2 v2 v4 H locs hP hD hS ls (lv_sub hl [2, 3, 1, 0] rfl) hf
        · replace hf := wb_t hc hf
          refine lv_iconst (v := (0 : Int32)) hx hb dX2_readRising_64 (by decide) ?_
          exact W.zret (v := (0 : Int32)) hx hb hr (by decide) (fun t ht hW => by rw [← Option.some.inj hf]; exact ⟨⟨(0 : Int32), (), rfl, rfl, by rw [ht]; exact hP, va_K.moved hW.alike hK, hD⟩, hS.F ht⟩) hS.2.2 dX2_readRising_65
      have J46 : ∀ (I0_j46 : Nat → Int32) (M0_j46 : Nat → Nat → Int32) (I1_j46 : Nat → Int32) (M1_j46 : Nat → Nat → Int32) (y46_2 : Int32) (y46_3 : Int32) (y46_4 : Int32) (y46_5 : Int32) (z46_0 : Int32) (H : Heap) (locs : List Loc), va_P D vwCl ((wWX2 cB cI cZ a0 I0_j46 M0_j46) ++ (wWX9 cB cI cZ a1 I1_j46 M1_j46)) H → va_D A ((wWX2 cB cI cZ a0 I0_j46 M0_j46) ++ (wWX9 cB cI cZ a1 I1_j46 M1_j46)) → va_S A s.heap H locs → ∀ (ls : Array Slot), lv_has ls 6 [(0, .ref (a0 0)), (1, .ref (a1 0)), (2, .int y46_2), (3, .int y46_3), (4, .int y46_4), (5, .int y46_5)] → fX2_readRising_J46 N (fX2_readRising_L4 N fu4) I0_j46 M0_j46 I1_j46 M1_j46 y46_2 y46_3 y46_4 y46_5 z46_0 = some R → W p l e (headSpec wsX2_readRising { frames := 3, cells := 0, slots := 0, locals := 65 }).room s m [.ref (a0 0), .ref (a1 0)].toArray below meth c H locs 0 0 (MQ below (va_Qi (fun r (_ : Unit) => r = R.1) (fun _ t => wb_post D [(cB, .byte), (cI, .int), (cZ, .boolean)] A ((wWX2 cB cI cZ a0 R.2.1 R.2.2.1) ++ (wWX9 cB cI cZ a1 R.2.2.2.1 R.2.2.2.2)) t) A) [.ref (a0 0), .ref (a1 0)].toArray s 0 0 A) (F0 m 46 ls [.int z46_0, .ref (a1 0)]) := by
        intro I0_j46 M0_j46 I1_j46 M1_j46 y46_2 y46_3 y46_4 y46_5 z46_0 H locs hP hD hS ls hl hf
        unfold fX2_readRising_J46 at hf
        refine lv_iload hx hb dX2_readRising_46 (lv_at hl 5 rfl) ?_
        refine lv_if_eq (tgt := 56) hx hb dX2_readRising_48 (by decide) (fun hc => ?_) (fun hc => ?_)
        · replace hf := wb_t hc hf
          refine lv_ldc (v := (9999999 : Int32)) hx hb hown (hts (.constant RX2 52 (9999999)) (List.mem_of_getElem? (i := 5) rfl)) dX2_readRising_56 ?_
          exact J58 I0_j46 M0_j46 I1_j46 M1_j46 y46_2 y46_3 (9999999 : Int32) z46_0 H locs hP hD hS ls (lv_sub hl [0, 1, 2, 3] rfl) hf
        · replace hf := wb_f hc hf
          refine lv_iload hx hb dX2_readRising_51 (lv_at hl 4 rfl) ?_
          refine lv_goto (tgt := 58) hx hb dX2_readRising_53 (by decide) ?_
          exact J58 I0_j46 M0_j46 I1_j46 M1_j46 y46_2 y46_3 y46_4 z46_0 H locs hP hD hS ls (lv_sub hl [0, 1, 2, 3] rfl) hf
      have J28 : ∀ (I0_j28 : Nat → Int32) (M0_j28 : Nat → Nat → Int32) (I1_j28 : Nat → Int32) (M1_j28 : Nat → Nat → Int32) (y28_2 : Int32) (y28_3 : Int32) (y28_4 : Int32) (z28_0 : Int32) (H : Heap) (locs : List Loc), va_P D vwCl ((wWX2 cB cI cZ a0 I0_j28 M0_j28) ++ (wWX9 cB cI cZ a1 I1_j28 M1_j28)) H → va_D A ((wWX2 cB cI cZ a0 I0_j28 M0_j28) ++ (wWX9 cB cI cZ a1 I1_j28 M1_j28)) → va_S A s.heap H locs → ∀ (ls : Array Slot), lv_has ls 6 [(0, .ref (a0 0)), (1, .ref (a1 0)), (2, .int y28_2), (3, .int y28_3), (4, .int y28_4)] → fX2_readRising_J28 N (fX2_readRising_L4 N fu4) I0_j28 M0_j28 I1_j28 M1_j28 y28_2 y28_3 y28_4 z28_0 = some R → W p l e (headSpec wsX2_readRising { frames := 3, cells := 0, slots := 0, locals := 65 }).room s m [.ref (a0 0), .ref (a1 0)].toArray below meth c H locs 0 0 (MQ below (va_Qi (fun r (_ : Unit) => r = R.1) (fun _ t => wb_post D [(cB, .byte), (cI, .int), (cZ, .boolean)] A ((wWX2 cB cI cZ a0 R.2.1 R.2.2.1) ++ (wWX9 cB cI cZ a1 R.2.2.2.1 R.2.2.2.2)) t) A) [.ref (a0 0), .ref (a1 0)].toArray s 0 0 A) (F0 m 28 ls [.int z28_0]) := by
        intro I0_j28 M0_j28 I1_j28 M1_j28 y28_2 y28_3 y28_4 z28_0 H locs hP hD hS ls hl hf
        unfold fX2_readRising_J28 at hf
        refine lv_istore (lv' := [(5, .int z28_0), (0, .ref (a0 0)), (1, .ref (a1 0)), (2, .int y28_2), (3, .int y28_3), (4, .int y28_4)]) hx hb dX2_readRising_28 hl (by decide) rfl (fun ls hl => ?_)
        refine lv_aload_n hx hb dX2_readRising_30 rfl (lv_at hl 2 rfl) ?_
        refine lv_iload hx hb dX2_readRising_31 (lv_at hl 0 rfl) ?_
        refine lv_if_eq (tgt := 45) hx hb dX2_readRising_33 (by decide) (fun hc => ?_) (fun hc => ?_)
        · replace hf := wb_t hc hf
          refine lv_iconst (v := (1 : Int32)) hx hb dX2_readRising_45 (by decide) ?_
          exact J46 I0_j28 M0_j28 I1_j28 M1_j28 y28_2 y28_3 y28_4 z28_0 (1 : Int32) H locs hP hD hS ls (lv_sub hl [1, 2, 3, 4, 5, 0] rfl) hf
        · replace hf := wb_f hc hf
          refine lv_iconst (v := (1 : Int32)) hx hb dX2_readRising_36 (by decide) ?_
          refine lv_iload hx hb dX2_readRising_37 (lv_at hl 5 rfl) ?_
          refine va_mmax hx hb (hml.trans hl.1.symm) hown (hts (.methodLink RX2 46 Lib.Math.max.name) (List.mem_of_getElem? (i := 1) rfl)) (hts (.static Lib.Math.max.name) (List.mem_of_getElem? (i := 2) rfl)) (hts (.initialized "java/lang/Math") (List.mem_of_getElem? (i := 3) rfl)) (hts (.code Lib.Math.max.name Lib.Math.max.code 2 (some .int)) (List.mem_of_getElem? (i := 4) rfl)) (Nat.le_of_ble_eq_true rfl) (Nat.le_of_ble_eq_true rfl) (Nat.zero_le _) (Nat.zero_le _) dX2_readRising_39 ?_
          refine lv_goto (tgt := 46) hx hb dX2_readRising_42 (by decide) ?_
          exact J46 I0_j28 M0_j28 I1_j28 M1_j28 y28_2 y28_3 y28_4 z28_0 (if (1 : Int32) < y28_4 then y28_4 else (1 : Int32)) H locs hP hD hS ls (lv_sub hl [1, 2, 3, 4, 5, 0] rfl) hf
      intro I0_l4 M0_l4 I1_l4 M1_l4 y4_2 y4_3 H locs hP hD hS ls hl hf
      rw [fX2_readRising_L4.eq_2] at hf
      refine lv_iload_n hx hb dX2_readRising_4 rfl (lv_at hl 3 rfl) ?_
      refine lv_bipush (v := (12 : Int32)) hx hb dX2_readRising_5 (by decide) ?_
      refine lv_icmp_ge (tgt := 96) hx hb dX2_readRising_7 (by decide) (fun hc => ?_) (fun hc => ?_)
      · replace hf := wb_t hc hf
        refine lv_iconst (v := (1 : Int32)) hx hb dX2_readRising_96 (by decide) ?_
        exact W.zret (v := (1 : Int32)) hx hb hr (by decide) (fun t ht hW => by rw [← Option.some.inj hf]; exact ⟨⟨(1 : Int32), (), rfl, rfl, by rw [ht]; exact hP, va_K.moved hW.alike hK, hD⟩, hS.F ht⟩) hS.2.2 dX2_readRising_97
      · replace hf := wb_f hc hf
        refine lv_sipush (v := (3600 : Int32)) hx hb dX2_readRising_10 (by decide) ?_
        refine lv_iload_n hx hb dX2_readRising_13 rfl (lv_at hl 2 rfl) ?_
        refine lv_isub hx hb dX2_readRising_14 ?_
        obtain ⟨v5, ev5, hf⟩ := wb_v hf
        refine wb_topi ev5 ?_
        refine lv_istore (lv' := [(4, .int v5), (0, .ref (a0 0)), (1, .ref (a1 0)), (2, .int y4_2), (3, .int y4_3)]) hx hb dX2_readRising_15 hl (by decide) rfl (fun ls hl => ?_)
        refine lv_iload_n hx hb dX2_readRising_17 rfl (lv_at hl 4 rfl) ?_
        refine lv_bipush (v := (11 : Int32)) hx hb dX2_readRising_18 (by decide) ?_
        refine lv_icmp_ne (tgt := 27) hx hb dX2_readRising_20 (by decide) (fun hc => ?_) (fun hc => ?_)
        · replace hf := wb_f hc hf
          refine lv_iconst (v := (0 : Int32)) hx hb dX2_readRising_27 (by decide) ?_
          exact J28 I0_l4 M0_l4 I1_l4 M1_l4 y4_2 y4_3 v5 (0 : Int32) H locs hP hD hS ls (lv_sub hl [1, 2, 3, 4, 0] rfl) hf
        · replace hf := wb_t hc hf
          refine lv_iconst (v := (1 : Int32)) hx hb dX2_readRising_23 (by decide) ?_
          refine lv_goto (tgt := 28) hx hb dX2_readRising_24 (by decide) ?_
          exact J28 I0_l4 M0_l4 I1_l4 M1_l4 y4_2 y4_3 v5 (1 : Int32) H locs hP hD hS ls (lv_sub hl [1, 2, 3, 4, 0] rfl) hf
  exact L4 N I0 M0 I1 M1 (0 : Int32) (0 : Int32) H locs hP hD hS ls (lv_sub hl [2, 3, 1, 0] rfl) hf

set_option maxHeartbeats 4000000 in
set_option maxRecDepth 100000 in
theorem cn_X2_readClimate (l : Launch) (D : va_G) (cB cI cZ : ClassId) (N : Nat) (a0 : Nat → Nat) (I0 : Nat → Int32) (M0 : Nat → Nat → Int32) (a1 : Nat → Nat) (I1 : Nat → Int32) (M1 : Nat → Nat → Int32) (sz : Nat) (R : Int32 × (Nat → Int32) × (Nat → Nat → Int32) × (Nat → Int32) × (Nat → Nat → Int32)) (hf : fX2_readClimate N I0 M0 I1 M1 = some R) : Met l yX2_readClimate wsX2_readClimate ({ frames := 4, cells := 0, slots := 0, locals := 90 }) (va_Pc [.ref (a0 0), .ref (a1 0)] (wb_preD D [(cB, .byte), (cI, .int), (cZ, .boolean)] ((wWX2 cB cI cZ a0 I0 M0) ++ (wWX9 cB cI cZ a1 I1 M1)) sz)) (va_Qi (fun r (_ : Unit) => r = R.1) (fun _ t => wb_post D [(cB, .byte), (cI, .int), (cZ, .boolean)] (va_A ((wWX2 cB cI cZ a0 I0 M0) ++ (wWX9 cB cI cZ a1 I1 M1)) sz) ((wWX2 cB cI cZ a0 R.2.1 R.2.2.1) ++ (wWX9 cB cI cZ a1 R.2.2.2.1 R.2.2.2.2)) t) (va_A ((wWX2 cB cI cZ a0 I0 M0) ++ (wWX9 cB cI cZ a1 I1 M1)) sz)) 0 0 (va_A ((wWX2 cB cI cZ a0 I0 M0) ++ (wWX9 cB cI cZ a1 I1 M1)) sz) := by
  refine Met.ofW (cc := cX2_readClimate) (maxL := 2) (ret := (some .boolean)) pn_X2 rfl ?_
  intro p e s m args below meth c s₁ B hml hv
  obtain ⟨rfl, hsz, hP, hK, hD0⟩ := hv
  have hx := B.exec
  have hb := B.bytes
  have hr := B.returns
  have hts := atoms_spec (ws := wsX2_readClimate) B.pre
  have hown : s.vm.findClass RX2 = some m.cls := (findClass_of_methodNamed B.named :)
  have hlocks := B.notSynchronized
  have hinX2 : ∀ w ∈ u_ws RX2 TX2 2, w ∈ wsX2_readClimate := fun w h => List.mem_cons_of_mem _ (List.mem_append_left _ (List.mem_append_right _ h))
  subst hsz
  have hD := hD0.self (sz := s.heap.size)
  generalize hAe : va_A ((wWX2 cB cI cZ a0 I0 M0) ++ (wWX9 cB cI cZ a1 I1 M1)) s.heap.size = A at hD ⊢
  have hA : ∀ q : Nat, s.heap.size ≤ q → A q := fun q h => by rw [← hAe]; exact Or.inr h
  have hS : va_S A s.heap s.heap [] := va_S.rf
  have hl := lv_entry ([.ref (a0 0), .ref (a1 0)]) (n := 2) (Nat.le_of_ble_eq_true rfl)
  rw [lg_entry_eq]
  generalize (lg_sl ([.ref (a0 0), .ref (a1 0)]) ++ List.replicate (2 - (lg_sl ([.ref (a0 0), .ref (a1 0)])).length) Slot.unset).toArray = ls at hl ⊢
  have hl : lv_has ls 2 [(0, .ref (a0 0)), (1, .ref (a1 0))] := hl
  unfold fX2_readClimate at hf
  obtain ⟨H, hHe⟩ : ∃ H : Heap, H = s.heap := ⟨_, rfl⟩
  obtain ⟨locs, hle⟩ : ∃ locs : List Loc, locs = [] := ⟨_, rfl⟩
  refine wb_start (H := H) (locs := locs) hHe hle ?_
  rw [← hHe] at hP
  have hS : va_S A s.heap H locs := by rw [hHe, hle]; exact va_S.rf
  refine lv_aload_n hx hb dX2_readClimate_0 rfl (lv_at hl 0 rfl) ?_
  refine va_get (D := D) (ci := 2) (v := .int (I0 0)) (C := RX2) (T := TX2) (N := 2) hx hb hts hinX2 hown hK hP 0 rfl rfl 1 (by decide) (hts (.fieldLink RX2 21 "WheelBook$Climates" "many" "I") (List.mem_of_getElem? (i := 1) rfl)) (fun _ h9 => h9) rfl dX2_readClimate_1 ?_
  refine lv_bipush (v := (7 : Int32)) hx hb dX2_readClimate_4 (by decide) ?_
  refine lv_icmp_lt (tgt := 15) hx hb dX2_readClimate_6 (by decide) (fun hc => ?_) (fun hc => ?_)
  · replace hf := wb_t hc hf
    refine lv_aload_n hx hb dX2_readClimate_15 rfl (lv_at hl 1 rfl) ?_
    obtain ⟨r1, hr1, hf⟩ := wb_b hf
    have hPc := hP.sub (ws' := (wWX9 cB cI cZ a1 I1 M1)) [2, 3] rfl
    have hDc := hD.sub (ws' := (wWX9 cB cI cZ a1 I1 M1)) [2, 3] (by decide) rfl
    have hFc := va_free (wc := (wWX9 cB cI cZ a1 I1 M1)) hD hS hA [2, 3] rfl
    refine va_callv (va_runV (As := []) (rest := []) ⟨hx, hb, hml, hown, hts⟩ (cn_X9_step l D cB cI cZ N a1 I1 M1 H.size r1 hr1) (cwV 0 hts gX2_readClimate_X9_step rfl rfl rfl cdX9_step ⟨Nat.le_of_ble_eq_true rfl, Nat.le_of_ble_eq_true rfl⟩) (wb_preDV hPc hK hDc (wr_9 hK hP (q0 := 2) rfl)) rfl rfl hl.1 rfl (lv_room (Nat.le_of_ble_eq_true rfl)) dX2_readClimate_16 ⟨Nat.le_of_ble_eq_true rfl, Nat.le_of_ble_eq_true rfl⟩) hS (fun q _ h => hFc q h) hFc (fun u t H locs ht hvm hw hB hz1 hk1 hS => ?_)
    obtain ⟨hP, hD⟩ := wj_s (wc := (wWX9 cB cI cZ a1 I1 M1)) (w1 := (wWX9 cB cI cZ a1 r1.1 r1.2)) (wf := ((wWX2 cB cI cZ a0 I0 M0) ++ (wWX9 cB cI cZ a1 r1.1 r1.2))) 2 4 hP hD rfl rfl hk1 hFc ht hB
    refine lv_aload_n hx hb dX2_readClimate_19 rfl (lv_at hl 1 rfl) ?_
    refine lv_aload_n hx hb dX2_readClimate_20 rfl (lv_at hl 0 rfl) ?_
    refine va_get (D := D) (ci := 2) (v := .int (I0 0)) (C := RX2) (T := TX2) (N := 2) hx hb hts hinX2 hown hK hP 0 rfl rfl 1 (by decide) (hts (.fieldLink RX2 21 "WheelBook$Climates" "many" "I") (List.mem_of_getElem? (i := 1) rfl)) (fun _ h9 => h9) rfl dX2_readClimate_21 ?_
    refine lv_aload_n hx hb dX2_readClimate_24 rfl (lv_at hl 0 rfl) ?_
    refine va_get (D := D) (ci := 2) (v := .int (I0 0)) (C := RX2) (T := TX2) (N := 2) hx hb hts hinX2 hown hK hP 0 rfl rfl 1 (by decide) (hts (.fieldLink RX2 21 "WheelBook$Climates" "many" "I") (List.mem_of_getElem? (i := 1) rfl)) (fun _ h9 => h9) rfl dX2_readClimate_25 ?_
    obtain ⟨r2, hr2, hf⟩ := wb_b hf
    have hPc := hP.sub (ws' := (wWX9 cB cI cZ a1 r1.1 r1.2)) [2, 3] rfl
    have hDc := hD.sub (ws' := (wWX9 cB cI cZ a1 r1.1 r1.2)) [2, 3] (by decide) rfl
    have hFc := va_free (wc := (wWX9 cB cI cZ a1 r1.1 r1.2)) hD hS hA [2, 3] rfl
    refine va_calli (va_runV (As := [.int (I0 0), .int (I0 0)]) (rest := []) ⟨hx, hb, hml, hown, hts⟩ (cn_X9_takeNumber l D cB cI cZ N a1 r1.1 r1.2 (I0 0) (I0 0) H.size r2 hr2) (cwV 2 hts gX2_readClimate_X9_takeNumber rfl rfl rfl cdX9_takeNumber ⟨Nat.le_of_ble_eq_true rfl, Nat.le_of_ble_eq_true rfl⟩) (wb_preDV hPc hK hDc (wr_9 hK hP (q0 := 2) rfl)) rfl rfl hl.1 rfl (lv_room (Nat.le_of_ble_eq_true rfl)) dX2_readClimate_28 ⟨Nat.le_of_ble_eq_true rfl, Nat.le_of_ble_eq_true rfl⟩) hS (fun q _ h => hFc q h) hFc (fun r9 u t H locs ht hvm hw hB hz1 hk1 hS => ?_)
    obtain ⟨hP, hD⟩ := wj_s (wc := (wWX9 cB cI cZ a1 r1.1 r1.2)) (w1 := (wWX9 cB cI cZ a1 r2.2.1 r2.2.2)) (wf := ((wWX2 cB cI cZ a0 I0 M0) ++ (wWX9 cB cI cZ a1 r2.2.1 r2.2.2))) 2 4 hP hD rfl rfl hk1 hFc ht hB
    rw [hw]
    refine lv_if_eq (tgt := 42) hx hb dX2_readClimate_31 (by decide) (fun hc => ?_) (fun hc => ?_)
    · replace hf := wb_t hc hf
      refine lv_iconst (v := (0 : Int32)) hx hb dX2_readClimate_42 (by decide) ?_
      exact W.zret (v := (0 : Int32)) hx hb hr (by decide) (fun t ht hW => by rw [← Option.some.inj hf]; exact ⟨⟨(0 : Int32), (), rfl, rfl, by rw [ht]; exact hP, va_K.moved hW.alike hK, hD⟩, hS.F ht⟩) hS.2.2 dX2_readClimate_43
    · replace hf := wb_f hc hf
      refine lv_aload_n hx hb dX2_readClimate_34 rfl (lv_at hl 0 rfl) ?_
      refine lv_aload_n hx hb dX2_readClimate_35 rfl (lv_at hl 1 rfl) ?_
      obtain ⟨r3, hr3, hf⟩ := wb_b hf
      have hPc := hP
      have hDc := hD
      have hFc := wj_F hDc hS hA
      refine va_calli (va_runV (As := [.ref (a1 0)]) (rest := []) ⟨hx, hb, hml, hown, hts⟩ (cn_X2_readRising l D cB cI cZ N a0 I0 M0 a1 r2.2.1 r2.2.2 H.size r3 hr3) (cwV 1 hts gX2_readClimate_X2_readRising rfl rfl rfl cdX2_readRising ⟨Nat.le_of_ble_eq_true rfl, Nat.le_of_ble_eq_true rfl⟩) (wb_preDV hPc hK hDc (wr_2 hK hP (q0 := 0) rfl)) rfl rfl hl.1 rfl (lv_room (Nat.le_of_ble_eq_true rfl)) dX2_readClimate_36 ⟨Nat.le_of_ble_eq_true rfl, Nat.le_of_ble_eq_true rfl⟩) hS (fun q _ h => hFc q h) hFc (fun r9 u t H locs ht hvm hw hB hz1 hk1 hS => ?_)
      obtain ⟨hP, hD⟩ := wj_0 hFc ht hB
      rw [hw]
      refine lv_if_ne (tgt := 44) hx hb dX2_readClimate_39 (by decide) (fun hc => ?_) (fun hc => ?_)
      · replace hf := wb_f hc hf
        refine lv_aload_n hx hb dX2_readClimate_44 rfl (lv_at hl 0 rfl) ?_
        refine lv_dup hx hb dX2_readClimate_45 rfl ?_
        refine va_get (D := D) (ci := 2) (v := .int (r3.2.1 0)) (C := RX2) (T := TX2) (N := 2) hx hb hts hinX2 hown hK hP 0 rfl rfl 1 (by decide) (hts (.fieldLink RX2 21 "WheelBook$Climates" "many" "I") (List.mem_of_getElem? (i := 1) rfl)) (fun _ h9 => h9) rfl dX2_readClimate_46 ?_
        refine lv_iconst (v := (1 : Int32)) hx hb dX2_readClimate_49 (by decide) ?_
        refine lv_iadd hx hb dX2_readClimate_50 ?_
        refine va_put (D := D) (ci := 2) (v := .int ((r3.2.1 0) + (1 : Int32))) (ty := .int) (C := RX2) (T := TX2) (N := 2) hx hb hts hinX2 tyX2 tyX2_ok nmX2 hown hK hP hD hS 0 rfl rfl 1 (by decide) (hts (.fieldLink RX2 21 "WheelBook$Climates" "many" "I") (List.mem_of_getElem? (i := 1) rfl)) (fun _ h9 => h9) rfl (by decide +kernel) rfl rfl (Nat.le_of_ble_eq_true rfl) dX2_readClimate_51 (fun H locs hP hD hS => ?_)
        have hP : va_P D vwCl ((wWX2 cB cI cZ a0 (upd r3.2.1 0 ((r3.2.1 0) + (1 : Int32))) r3.2.2.1) ++ (wWX9 cB cI cZ a1 r3.2.2.2.1 r3.2.2.2.2)) H := hP
        have hD : va_D A ((wWX2 cB cI cZ a0 (upd r3.2.1 0 ((r3.2.1 0) + (1 : Int32))) r3.2.2.1) ++ (wWX9 cB cI cZ a1 r3.2.2.2.1 r3.2.2.2.2)) := hD
        obtain ⟨I0_4, eI0_4, hf⟩ := wb_v hf
        rw [← eI0_4] at hP hD
        refine lv_aload_n hx hb dX2_readClimate_54 rfl (lv_at hl 1 rfl) ?_
        obtain ⟨r5, hr5, hf⟩ := wb_b hf
        have hPc := hP.sub (ws' := (wWX9 cB cI cZ a1 r3.2.2.2.1 r3.2.2.2.2)) [2, 3] rfl
        have hDc := hD.sub (ws' := (wWX9 cB cI cZ a1 r3.2.2.2.1 r3.2.2.2.2)) [2, 3] (by decide) rfl
        have hFc := va_free (wc := (wWX9 cB cI cZ a1 r3.2.2.2.1 r3.2.2.2.2)) hD hS hA [2, 3] rfl
        refine va_calli (va_runV (As := []) (rest := []) ⟨hx, hb, hml, hown, hts⟩ (cn_X9_takeStop l D cB cI cZ N a1 r3.2.2.2.1 r3.2.2.2.2 H.size r5 hr5) (cwV 0 hts gX2_readClimate_X9_takeStop rfl rfl rfl cdX9_takeStop ⟨Nat.le_of_ble_eq_true rfl, Nat.le_of_ble_eq_true rfl⟩) (wb_preDV hPc hK hDc (wr_9 hK hP (q0 := 2) rfl)) rfl rfl hl.1 rfl (lv_room (Nat.le_of_ble_eq_true rfl)) dX2_readClimate_55 ⟨Nat.le_of_ble_eq_true rfl, Nat.le_of_ble_eq_true rfl⟩) hS (fun q _ h => hFc q h) hFc (fun r9 u t H locs ht hvm hw hB hz1 hk1 hS => ?_)
        obtain ⟨hP, hD⟩ := wj_s (wc := (wWX9 cB cI cZ a1 r3.2.2.2.1 r3.2.2.2.2)) (w1 := (wWX9 cB cI cZ a1 r5.2.1 r5.2.2)) (wf := ((wWX2 cB cI cZ a0 I0_4 r3.2.2.1) ++ (wWX9 cB cI cZ a1 r5.2.1 r5.2.2))) 2 4 hP hD rfl rfl hk1 hFc ht hB
        rw [hw]
        obtain ⟨hz, hf⟩ := wb_y hf
        exact W.zret (v := r5.1) hx hb hr (congrArg Value.int hz) (fun t ht hW => by rw [← Option.some.inj hf]; exact ⟨⟨r5.1, (), rfl, rfl, by rw [ht]; exact hP, va_K.moved hW.alike hK, hD⟩, hS.F ht⟩) hS.2.2 dX2_readClimate_58
      · replace hf := wb_t hc hf
        refine lv_iconst (v := (0 : Int32)) hx hb dX2_readClimate_42 (by decide) ?_
        exact W.zret (v := (0 : Int32)) hx hb hr (by decide) (fun t ht hW => by rw [← Option.some.inj hf]; exact ⟨⟨(0 : Int32), (), rfl, rfl, by rw [ht]; exact hP, va_K.moved hW.alike hK, hD⟩, hS.F ht⟩) hS.2.2 dX2_readClimate_43
  · replace hf := wb_f hc hf
    refine lv_aload_n hx hb dX2_readClimate_9 rfl (lv_at hl 1 rfl) ?_
    refine lv_iconst (v := (2 : Int32)) hx hb dX2_readClimate_10 (by decide) ?_
    obtain ⟨r6, hr6, hf⟩ := wb_b hf
    have hPc := hP.sub (ws' := (wWX9 cB cI cZ a1 I1 M1)) [2, 3] rfl
    have hDc := hD.sub (ws' := (wWX9 cB cI cZ a1 I1 M1)) [2, 3] (by decide) rfl
    have hFc := va_free (wc := (wWX9 cB cI cZ a1 I1 M1)) hD hS hA [2, 3] rfl
    refine va_calli (va_runV (As := [.int (2 : Int32)]) (rest := []) ⟨hx, hb, hml, hown, hts⟩ (cn_X9_refuse l D cB cI cZ N a1 I1 M1 (2 : Int32) H.size r6 hr6) (cwV 1 hts gX2_readClimate_X9_refuse rfl rfl rfl cdX9_refuse ⟨Nat.le_of_ble_eq_true rfl, Nat.le_of_ble_eq_true rfl⟩) (wb_preDV hPc hK hDc (wr_9 hK hP (q0 := 2) rfl)) rfl rfl hl.1 rfl (lv_room (Nat.le_of_ble_eq_true rfl)) dX2_readClimate_11 ⟨Nat.le_of_ble_eq_true rfl, Nat.le_of_ble_eq_true rfl⟩) hS (fun q _ h => hFc q h) hFc (fun r9 u t H locs ht hvm hw hB hz1 hk1 hS => ?_)
    obtain ⟨hP, hD⟩ := wj_s (wc := (wWX9 cB cI cZ a1 I1 M1)) (w1 := (wWX9 cB cI cZ a1 r6.2.1 r6.2.2)) (wf := ((wWX2 cB cI cZ a0 I0 M0) ++ (wWX9 cB cI cZ a1 r6.2.1 r6.2.2))) 2 4 hP hD rfl rfl hk1 hFc ht hB
    rw [hw]
    obtain ⟨hz, hf⟩ := wb_y hf
    exact W.zret (v := r6.1) hx hb hr (congrArg Value.int hz) (fun t ht hW => by rw [← Option.some.inj hf]; exact ⟨⟨r6.1, (), rfl, rfl, by rw [ht]; exact hP, va_K.moved hW.alike hK, hD⟩, hS.F ht⟩) hS.2.2 dX2_readClimate_14

set_option maxHeartbeats 4000000 in
set_option maxRecDepth 100000 in
theorem cn_X2_risingAt (l : Launch) (D : va_G) (cB cI cZ : ClassId) (N : Nat) (a0 : Nat → Nat) (I0 : Nat → Int32) (M0 : Nat → Nat → Int32) (x1 : Int32) (x2 : Int32) (x3 : Int32) (R : Int32) (hf : fX2_risingAt N I0 M0 x1 x2 x3 = some R) : Met l yX2_risingAt wsX2_risingAt ({ frames := 1, cells := 0, slots := 0, locals := 25 }) (va_Pc [.ref (a0 0), .int x1, .int x2, .int x3] (wb_pre D [(cB, .byte), (cI, .int), (cZ, .boolean)] (wWX2 cB cI cZ a0 I0 M0))) (vp_Si (fun r => r = R)) 0 0 (fun _ => False) := by
  refine Met.ofW (cc := cX2_risingAt) (maxL := 4) (ret := (some .int)) pn_X2 rfl ?_
  intro p e s m args below meth c s₁ B hml hv
  obtain ⟨rfl, hP, hK⟩ := hv
  have hx := B.exec
  have hb := B.bytes
  have hr := B.returns
  have hts := atoms_spec (ws := wsX2_risingAt) B.pre
  have hown : s.vm.findClass RX2 = some m.cls := (findClass_of_methodNamed B.named :)
  have hlocks := B.notSynchronized
  have hl := lv_entry ([.ref (a0 0), .int x1, .int x2, .int x3]) (n := 4) (Nat.le_of_ble_eq_true rfl)
  rw [lg_entry_eq]
  generalize (lg_sl ([.ref (a0 0), .int x1, .int x2, .int x3]) ++ List.replicate (4 - (lg_sl ([.ref (a0 0), .int x1, .int x2, .int x3])).length) Slot.unset).toArray = ls at hl ⊢
  have hl : lv_has ls 4 [(0, .ref (a0 0)), (1, .int x1), (2, .int x2), (3, .int x3)] := hl
  unfold fX2_risingAt at hf
  refine lv_aload_n hx hb dX2_risingAt_0 rfl (lv_at hl 0 rfl) ?_
  refine lv_iload_n hx hb dX2_risingAt_1 rfl (lv_at hl 1 rfl) ?_
  refine lv_aload_n hx hb dX2_risingAt_2 rfl (lv_at hl 0 rfl) ?_
  refine lv_iload_n hx hb dX2_risingAt_3 rfl (lv_at hl 1 rfl) ?_
  refine lv_iload_n hx hb dX2_risingAt_4 rfl (lv_at hl 2 rfl) ?_
  obtain ⟨r1, hr1, hf⟩ := wb_b hf
  refine vp_callSi (W.runV (As := [.int x1, .int x2]) (rest := [.int x1, .ref (a0 0)]) ⟨hx, hb, hml, hown, hts⟩ (cn_X2_climbOf l D cB cI cZ N a0 I0 M0 x1 x2 r1 hr1) (cwV 2 hts gX2_risingAt_X2_climbOf rfl rfl rfl cdX2_climbOf ⟨Nat.le_of_ble_eq_true rfl, Nat.le_of_ble_eq_true rfl⟩) (wb_preV hP hK (wr_2 hK hP (q0 := 0) rfl)) rfl rfl hl.1 rfl (lv_room (Nat.le_of_ble_eq_true rfl)) dX2_risingAt_5 ⟨Nat.le_of_ble_eq_true rfl, Nat.le_of_ble_eq_true rfl⟩) (fun r9 e9 => ?_)
  rw [e9]
  refine lv_sipush (v := (18000 : Int32)) hx hb dX2_risingAt_8 (by decide) ?_
  refine lv_iload_n hx hb dX2_risingAt_11 rfl (lv_at hl 3 rfl) ?_
  refine lv_imul hx hb dX2_risingAt_12 ?_
  refine lv_iadd hx hb dX2_risingAt_13 ?_
  refine lv_ldc (v := (6480000 : Int32)) hx hb hown (hts (.constant RX2 59 (6480000)) (List.mem_of_getElem? (i := 1) rfl)) dX2_risingAt_14 ?_
  refine lv_irem hx hb dX2_risingAt_16 (by decide) ?_
  obtain ⟨r2, hr2, hf⟩ := wb_b hf
  refine vp_callSi (W.runV (As := [.int x1, .int ((r1 + ((18000 : Int32) * x3)) - (r1 + ((18000 : Int32) * x3)) / (6480000 : Int32) * (6480000 : Int32))]) (rest := []) ⟨hx, hb, hml, hown, hts⟩ (cn_X2_placeOf l D cB cI cZ N a0 I0 M0 x1 ((r1 + ((18000 : Int32) * x3)) - (r1 + ((18000 : Int32) * x3)) / (6480000 : Int32) * (6480000 : Int32)) r2 hr2) (cwV 2 hts gX2_risingAt_X2_placeOf rfl rfl rfl cdX2_placeOf ⟨Nat.le_of_ble_eq_true rfl, Nat.le_of_ble_eq_true rfl⟩) (wb_preV hP hK (wr_2 hK hP (q0 := 0) rfl)) rfl rfl hl.1 rfl (lv_room (Nat.le_of_ble_eq_true rfl)) dX2_risingAt_17 ⟨Nat.le_of_ble_eq_true rfl, Nat.le_of_ble_eq_true rfl⟩) (fun r9 e9 => ?_)
  rw [e9]
  exact W.iret (v := r2) hx hb hr (fun t ht hW => ⟨_, rfl, Option.some.inj hf, ht⟩) (fun _ h => nomatch h) dX2_risingAt_20

set_option maxHeartbeats 4000000 in
set_option maxRecDepth 100000 in
theorem cn_X2_isHour (l : Launch) (D : va_G) (cB cI cZ : ClassId) (N : Nat) (a0 : Nat → Nat) (I0 : Nat → Int32) (M0 : Nat → Nat → Int32) (x1 : Int32) (x2 : Int32) (x3 : Int32) (x4 : Int32) (R : Int32) (hf : fX2_isHour N I0 M0 x1 x2 x3 x4 = some R) : Met l yX2_isHour wsX2_isHour ({ frames := 2, cells := 0, slots := 0, locals := 48 }) (va_Pc [.ref (a0 0), .int x1, .int x2, .int x3, .int x4] (wb_pre D [(cB, .byte), (cI, .int), (cZ, .boolean)] (wWX2 cB cI cZ a0 I0 M0))) (vp_Si (fun r => r = R)) 0 0 (fun _ => False) := by
  refine Met.ofW (cc := cX2_isHour) (maxL := 5) (ret := (some .boolean)) pn_X2 rfl ?_
  intro p e s m args below meth c s₁ B hml hv
  obtain ⟨rfl, hP, hK⟩ := hv
  have hx := B.exec
  have hb := B.bytes
  have hr := B.returns
  have hts := atoms_spec (ws := wsX2_isHour) B.pre
  have hown : s.vm.findClass RX2 = some m.cls := (findClass_of_methodNamed B.named :)
  have hlocks := B.notSynchronized
  have hl := lv_entry ([.ref (a0 0), .int x1, .int x2, .int x3, .int x4]) (n := 5) (Nat.le_of_ble_eq_true rfl)
  rw [lg_entry_eq]
  generalize (lg_sl ([.ref (a0 0), .int x1, .int x2, .int x3, .int x4]) ++ List.replicate (5 - (lg_sl ([.ref (a0 0), .int x1, .int x2, .int x3, .int x4])).length) Slot.unset).toArray = ls at hl ⊢
  have hl : lv_has ls 5 [(0, .ref (a0 0)), (1, .int x1), (2, .int x2), (3, .int x3), (4, .int x4)] := hl
  unfold fX2_isHour at hf
  refine lv_aload_n hx hb dX2_isHour_0 rfl (lv_at hl 0 rfl) ?_
  refine lv_iload_n hx hb dX2_isHour_1 rfl (lv_at hl 1 rfl) ?_
  refine lv_bipush (v := (60 : Int32)) hx hb dX2_isHour_2 (by decide) ?_
  refine lv_iload_n hx hb dX2_isHour_4 rfl (lv_at hl 3 rfl) ?_
  refine lv_imul hx hb dX2_isHour_5 ?_
  refine lv_iload_n hx hb dX2_isHour_6 rfl (lv_at hl 2 rfl) ?_
  obtain ⟨r1, hr1, hf⟩ := wb_b hf
  refine vp_callSi (W.runV (As := [.int x1, .int ((60 : Int32) * x3), .int x2]) (rest := []) ⟨hx, hb, hml, hown, hts⟩ (cn_X2_risingAt l D cB cI cZ N a0 I0 M0 x1 ((60 : Int32) * x3) x2 r1 hr1) (cwV 3 hts gX2_isHour_X2_risingAt rfl rfl rfl cdX2_risingAt ⟨Nat.le_of_ble_eq_true rfl, Nat.le_of_ble_eq_true rfl⟩) (wb_preV hP hK (wr_2 hK hP (q0 := 0) rfl)) rfl rfl hl.1 rfl (lv_room (Nat.le_of_ble_eq_true rfl)) dX2_isHour_7 ⟨Nat.le_of_ble_eq_true rfl, Nat.le_of_ble_eq_true rfl⟩) (fun r9 e9 => ?_)
  rw [e9]
  refine lv_bipush (v := (60 : Int32)) hx hb dX2_isHour_10 (by decide) ?_
  refine lv_idiv hx hb dX2_isHour_12 (by decide) ?_
  refine lv_iload hx hb dX2_isHour_13 (lv_at hl 4 rfl) ?_
  refine lv_icmp_ne (tgt := 22) hx hb dX2_isHour_15 (by decide) (fun hc => ?_) (fun hc => ?_)
  · replace hf := wb_f hc hf
    refine lv_iconst (v := (0 : Int32)) hx hb dX2_isHour_22 (by decide) ?_
    exact W.zret (v := (0 : Int32)) hx hb hr (by decide) (fun t ht hW => ⟨_, rfl, Option.some.inj hf, ht⟩) (fun _ h => nomatch h) dX2_isHour_23
  · replace hf := wb_t hc hf
    refine lv_iconst (v := (1 : Int32)) hx hb dX2_isHour_18 (by decide) ?_
    refine lv_goto (tgt := 23) hx hb dX2_isHour_19 (by decide) ?_
    exact W.zret (v := (1 : Int32)) hx hb hr (by decide) (fun t ht hW => ⟨_, rfl, Option.some.inj hf, ht⟩) (fun _ h => nomatch h) dX2_isHour_23

set_option maxHeartbeats 4000000 in
set_option maxRecDepth 100000 in
theorem cn_X2_hasHour (l : Launch) (D : va_G) (cB cI cZ : ClassId) (N : Nat) (a0 : Nat → Nat) (I0 : Nat → Int32) (M0 : Nat → Nat → Int32) (x1 : Int32) (x2 : Int32) (x3 : Int32) (R : Int32) (hf : fX2_hasHour N I0 M0 x1 x2 x3 = some R) : Met l yX2_hasHour wsX2_hasHour ({ frames := 3, cells := 0, slots := 0, locals := 72 }) (va_Pc [.ref (a0 0), .int x1, .int x2, .int x3] (wb_pre D [(cB, .byte), (cI, .int), (cZ, .boolean)] (wWX2 cB cI cZ a0 I0 M0))) (vp_Si (fun r => r = R)) 0 0 (fun _ => False) := by
  refine Met.ofW (cc := cX2_hasHour) (maxL := 5) (ret := (some .boolean)) pn_X2 rfl ?_
  intro p e s m args below meth c s₁ B hml hv
  obtain ⟨rfl, hP, hK⟩ := hv
  have hx := B.exec
  have hb := B.bytes
  have hr := B.returns
  have hts := atoms_spec (ws := wsX2_hasHour) B.pre
  have hown : s.vm.findClass RX2 = some m.cls := (findClass_of_methodNamed B.named :)
  have hlocks := B.notSynchronized
  have hl := lv_entry ([.ref (a0 0), .int x1, .int x2, .int x3]) (n := 5) (Nat.le_of_ble_eq_true rfl)
  rw [lg_entry_eq]
  generalize (lg_sl ([.ref (a0 0), .int x1, .int x2, .int x3]) ++ List.replicate (5 - (lg_sl ([.ref (a0 0), .int x1, .int x2, .int x3])).length) Slot.unset).toArray = ls at hl ⊢
  have hl : lv_has ls 5 [(0, .ref (a0 0)), (1, .int x1), (2, .int x2), (3, .int x3)] := hl
  unfold fX2_hasHour at hf
  refine lv_iconst (v := (0 : Int32)) hx hb dX2_hasHour_0 (by decide) ?_
  refine lv_istore (lv' := [(4, .int (0 : Int32)), (0, .ref (a0 0)), (1, .int x1), (2, .int x2), (3, .int x3)]) hx hb dX2_hasHour_1 hl (by decide) rfl (fun ls hl => ?_)
  have L3 : ∀ (fu3 : Nat) (y3_4 : Int32), ∀ (ls : Array Slot), lv_has ls 5 [(0, .ref (a0 0)), (1, .int x1), (2, .int x2), (3, .int x3), (4, .int y3_4)] → fX2_hasHour_L3 N I0 M0 x1 x2 x3 fu3 y3_4 = some R → W p l e (headSpec wsX2_hasHour { frames := 3, cells := 0, slots := 0, locals := 72 }).room s m [.ref (a0 0), .int x1, .int x2, .int x3].toArray below meth c s.heap [] 0 0 (MQ below (vp_Si (fun r => r = R)) [.ref (a0 0), .int x1, .int x2, .int x3].toArray s 0 0 (fun _ => False)) (F0 m 3 ls []) := by
    intro fu3
    induction fu3 with
    | zero =>
      intro y3_4 ls hl hf
      exact absurd hf (by rw [fX2_hasHour_L3.eq_1]; exact fun h => nomatch h)
    | succ fu3 ih3 =>
      intro y3_4 ls hl hf
      rw [fX2_hasHour_L3.eq_2] at hf
      refine lv_iload hx hb dX2_hasHour_3 (lv_at hl 4 rfl) ?_
      refine lv_sipush (v := (360 : Int32)) hx hb dX2_hasHour_5 (by decide) ?_
      refine lv_icmp_ge (tgt := 31) hx hb dX2_hasHour_8 (by decide) (fun hc => ?_) (fun hc => ?_)
      · replace hf := wb_t hc hf
        refine lv_iconst (v := (0 : Int32)) hx hb dX2_hasHour_31 (by decide) ?_
        exact W.zret (v := (0 : Int32)) hx hb hr (by decide) (fun t ht hW => ⟨_, rfl, Option.some.inj hf, ht⟩) (fun _ h => nomatch h) dX2_hasHour_32
      · replace hf := wb_f hc hf
        refine lv_aload_n hx hb dX2_hasHour_11 rfl (lv_at hl 0 rfl) ?_
        refine lv_iload_n hx hb dX2_hasHour_12 rfl (lv_at hl 1 rfl) ?_
        refine lv_iload hx hb dX2_hasHour_13 (lv_at hl 4 rfl) ?_
        refine lv_iload_n hx hb dX2_hasHour_15 rfl (lv_at hl 2 rfl) ?_
        refine lv_iload_n hx hb dX2_hasHour_16 rfl (lv_at hl 3 rfl) ?_
        obtain ⟨r1, hr1, hf⟩ := wb_b hf
        refine vp_callSi (W.runV (As := [.int x1, .int y3_4, .int x2, .int x3]) (rest := []) ⟨hx, hb, hml, hown, hts⟩ (cn_X2_isHour l D cB cI cZ N a0 I0 M0 x1 y3_4 x2 x3 r1 hr1) (cwV 4 hts gX2_hasHour_X2_isHour rfl rfl rfl cdX2_isHour ⟨Nat.le_of_ble_eq_true rfl, Nat.le_of_ble_eq_true rfl⟩) (wb_preV hP hK (wr_2 hK hP (q0 := 0) rfl)) rfl rfl hl.1 rfl (lv_room (Nat.le_of_ble_eq_true rfl)) dX2_hasHour_17 ⟨Nat.le_of_ble_eq_true rfl, Nat.le_of_ble_eq_true rfl⟩) (fun r9 e9 => ?_)
        rw [e9]
        refine lv_if_eq (tgt := 25) hx hb dX2_hasHour_20 (by decide) (fun hc => ?_) (fun hc => ?_)
        · replace hf := wb_t hc hf
          obtain ⟨v2, ev2, hf⟩ := wb_v hf
          refine lv_iinc (v := v2) (lv' := [(4, .int v2), (0, .ref (a0 0)), (1, .int x1), (2, .int x2), (3, .int x3)]) hx hb dX2_hasHour_25 hl (k := 4) rfl (by rw [ev2]; rfl) (by decide) rfl (fun ls hl => ?_)
          refine lv_goto (tgt := 3) hx hb dX2_hasHour_28 (by decide) ?_
          exact ih3 v2 ls (lv_sub hl [1, 2, 3, 4, 0] rfl) hf
        · replace hf := wb_f hc hf
          refine lv_iconst (v := (1 : Int32)) hx hb dX2_hasHour_23 (by decide) ?_
          exact W.zret (v := (1 : Int32)) hx hb hr (by decide) (fun t ht hW => ⟨_, rfl, Option.some.inj hf, ht⟩) (fun _ h => nomatch h) dX2_hasHour_24
  exact L3 N (0 : Int32) ls (lv_sub hl [1, 2, 3, 4, 0] rfl) hf

set_option maxHeartbeats 4000000 in
set_option maxRecDepth 100000 in
theorem cn_X2_howManyHours (l : Launch) (D : va_G) (cB cI cZ : ClassId) (N : Nat) (a0 : Nat → Nat) (I0 : Nat → Int32) (M0 : Nat → Nat → Int32) (x1 : Int32) (x2 : Int32) (R : Int32) (hf : fX2_howManyHours N I0 M0 x1 x2 = some R) : Met l yX2_howManyHours wsX2_howManyHours ({ frames := 3, cells := 0, slots := 0, locals := 72 }) (va_Pc [.ref (a0 0), .int x1, .int x2] (wb_pre D [(cB, .byte), (cI, .int), (cZ, .boolean)] (wWX2 cB cI cZ a0 I0 M0))) (vp_Si (fun r => r = R)) 0 0 (fun _ => False) := by
  refine Met.ofW (cc := cX2_howManyHours) (maxL := 5) (ret := (some .int)) pn_X2 rfl ?_
  intro p e s m args below meth c s₁ B hml hv
  obtain ⟨rfl, hP, hK⟩ := hv
  have hx := B.exec
  have hb := B.bytes
  have hr := B.returns
  have hts := atoms_spec (ws := wsX2_howManyHours) B.pre
  have hown : s.vm.findClass RX2 = some m.cls := (findClass_of_methodNamed B.named :)
  have hlocks := B.notSynchronized
  have hinX2 : ∀ w ∈ u_ws RX2 TX2 2, w ∈ wsX2_howManyHours := fun w h => List.mem_cons_of_mem _ (List.mem_append_right _ h)
  have hl := lv_entry ([.ref (a0 0), .int x1, .int x2]) (n := 5) (Nat.le_of_ble_eq_true rfl)
  rw [lg_entry_eq]
  generalize (lg_sl ([.ref (a0 0), .int x1, .int x2]) ++ List.replicate (5 - (lg_sl ([.ref (a0 0), .int x1, .int x2])).length) Slot.unset).toArray = ls at hl ⊢
  have hl : lv_has ls 5 [(0, .ref (a0 0)), (1, .int x1), (2, .int x2)] := hl
  unfold fX2_howManyHours at hf
  refine lv_iconst (v := (0 : Int32)) hx hb dX2_howManyHours_0 (by decide) ?_
  refine lv_istore_n (lv' := [(3, .int (0 : Int32)), (0, .ref (a0 0)), (1, .int x1), (2, .int x2)]) hx hb dX2_howManyHours_1 rfl hl (by decide) rfl (fun ls hl => ?_)
  refine lv_iconst (v := (0 : Int32)) hx hb dX2_howManyHours_2 (by decide) ?_
  refine lv_istore (lv' := [(4, .int (0 : Int32)), (3, .int (0 : Int32)), (0, .ref (a0 0)), (1, .int x1), (2, .int x2)]) hx hb dX2_howManyHours_3 hl (by decide) rfl (fun ls hl => ?_)
  have L5 : ∀ (fu5 : Nat) (y5_3 : Int32) (y5_4 : Int32), ∀ (ls : Array Slot), lv_has ls 5 [(0, .ref (a0 0)), (1, .int x1), (2, .int x2), (3, .int y5_3), (4, .int y5_4)] → fX2_howManyHours_L5 N I0 M0 x1 x2 fu5 y5_3 y5_4 = some R → W p l e (headSpec wsX2_howManyHours { frames := 3, cells := 0, slots := 0, locals := 72 }).room s m [.ref (a0 0), .int x1, .int x2].toArray below meth c s.heap [] 0 0 (MQ below (vp_Si (fun r => r = R)) [.ref (a0 0), .int x1, .int x2].toArray s 0 0 (fun _ => False)) (F0 m 5 ls []) := by
    intro fu5
    induction fu5 with
    | zero =>
      intro y5_3 y5_4 ls hl hf
      exact absurd hf (by rw [fX2_howManyHours_L5.eq_1]; exact fun h => nomatch h)
    | succ fu5 ih5 =>
      intro y5_3 y5_4 ls hl hf
      rw [fX2_howManyHours_L5.eq_2] at hf
      refine lv_iload hx hb dX2_howManyHours_5 (lv_at hl 4 rfl) ?_
      refine lv_sipush (v := (360 : Int32)) hx hb dX2_howManyHours_7 (by decide) ?_
      refine lv_aload_n hx hb dX2_howManyHours_10 rfl (lv_at hl 0 rfl) ?_
      refine va_get (D := D) (ci := 2) (v := .int (I0 0)) (C := RX2) (T := TX2) (N := 2) hx hb hts hinX2 hown hK hP 0 rfl rfl 1 (by decide) (hts (.fieldLink RX2 21 "WheelBook$Climates" "many" "I") (List.mem_of_getElem? (i := 1) rfl)) (fun _ h9 => h9) rfl dX2_howManyHours_11 ?_
      refine lv_imul hx hb dX2_howManyHours_14 ?_
      refine lv_icmp_ge (tgt := 48) hx hb dX2_howManyHours_15 (by decide) (fun hc => ?_) (fun hc => ?_)
      · replace hf := wb_t hc hf
        refine lv_iload_n hx hb dX2_howManyHours_48 rfl (lv_at hl 3 rfl) ?_
        exact W.iret (v := y5_3) hx hb hr (fun t ht hW => ⟨_, rfl, Option.some.inj hf, ht⟩) (fun _ h => nomatch h) dX2_howManyHours_49
      · replace hf := wb_f hc hf
        refine lv_aload_n hx hb dX2_howManyHours_18 rfl (lv_at hl 0 rfl) ?_
        refine lv_iload hx hb dX2_howManyHours_19 (lv_at hl 4 rfl) ?_
        refine lv_sipush (v := (360 : Int32)) hx hb dX2_howManyHours_21 (by decide) ?_
        refine lv_idiv hx hb dX2_howManyHours_24 (by decide) ?_
        refine lv_iload hx hb dX2_howManyHours_25 (lv_at hl 4 rfl) ?_
        refine lv_sipush (v := (360 : Int32)) hx hb dX2_howManyHours_27 (by decide) ?_
        refine lv_irem hx hb dX2_howManyHours_30 (by decide) ?_
        refine lv_iload_n hx hb dX2_howManyHours_31 rfl (lv_at hl 1 rfl) ?_
        refine lv_iload_n hx hb dX2_howManyHours_32 rfl (lv_at hl 2 rfl) ?_
        obtain ⟨r1, hr1, hf⟩ := wb_b hf
        refine vp_callSi (W.runV (As := [.int (y5_4 / (360 : Int32)), .int (y5_4 - y5_4 / (360 : Int32) * (360 : Int32)), .int x1, .int x2]) (rest := []) ⟨hx, hb, hml, hown, hts⟩ (cn_X2_isHour l D cB cI cZ N a0 I0 M0 (y5_4 / (360 : Int32)) (y5_4 - y5_4 / (360 : Int32) * (360 : Int32)) x1 x2 r1 hr1) (cwV 4 hts gX2_howManyHours_X2_isHour rfl rfl rfl cdX2_isHour ⟨Nat.le_of_ble_eq_true rfl, Nat.le_of_ble_eq_true rfl⟩) (wb_preV hP hK (wr_2 hK hP (q0 := 0) rfl)) rfl rfl hl.1 rfl (lv_room (Nat.le_of_ble_eq_true rfl)) dX2_howManyHours_33 ⟨Nat.le_of_ble_eq_true rfl, Nat.le_of_ble_eq_true rfl⟩) (fun r9 e9 => ?_)
        rw [e9]
        refine lv_if_eq (tgt := 42) hx hb dX2_howManyHours_36 (by decide) (fun hc => ?_) (fun hc => ?_)
        · replace hf := wb_t hc hf
          obtain ⟨v2, ev2, hf⟩ := wb_v hf
          refine lv_iinc (v := v2) (lv' := [(4, .int v2), (0, .ref (a0 0)), (1, .int x1), (2, .int x2), (3, .int y5_3)]) hx hb dX2_howManyHours_42 hl (k := 4) rfl (by rw [ev2]; rfl) (by decide) rfl (fun ls hl => ?_)
          refine lv_goto (tgt := 5) hx hb dX2_howManyHours_45 (by decide) ?_
          exact ih5 y5_3 v2 ls (lv_sub hl [1, 2, 3, 4, 0] rfl) hf
        · replace hf := wb_f hc hf
          obtain ⟨v3, ev3, hf⟩ := wb_v hf
          refine lv_iinc (v := v3) (lv' := [(3, .int v3), (0, .ref (a0 0)), (1, .int x1), (2, .int x2), (4, .int y5_4)]) hx hb dX2_howManyHours_39 hl (k := 3) rfl (by rw [ev3]; rfl) (by decide) rfl (fun ls hl => ?_)
          obtain ⟨v4, ev4, hf⟩ := wb_v hf
          refine lv_iinc (v := v4) (lv' := [(4, .int v4), (3, .int v3), (0, .ref (a0 0)), (1, .int x1), (2, .int x2)]) hx hb dX2_howManyHours_42 hl (k := 4) rfl (by rw [ev4]; rfl) (by decide) rfl (fun ls hl => ?_)
          refine lv_goto (tgt := 5) hx hb dX2_howManyHours_45 (by decide) ?_
          exact ih5 v3 v4 ls (lv_sub hl [2, 3, 4, 1, 0] rfl) hf
  exact L5 N (0 : Int32) (0 : Int32) ls (lv_sub hl [2, 3, 4, 1, 0] rfl) hf

set_option maxHeartbeats 4000000 in
set_option maxRecDepth 100000 in
theorem cn_X2_nthHour (l : Launch) (D : va_G) (cB cI cZ : ClassId) (N : Nat) (a0 : Nat → Nat) (I0 : Nat → Int32) (M0 : Nat → Nat → Int32) (x1 : Int32) (x2 : Int32) (x3 : Int32) (R : Int32) (hf : fX2_nthHour N I0 M0 x1 x2 x3 = some R) : Met l yX2_nthHour wsX2_nthHour ({ frames := 3, cells := 0, slots := 0, locals := 72 }) (va_Pc [.ref (a0 0), .int x1, .int x2, .int x3] (wb_pre D [(cB, .byte), (cI, .int), (cZ, .boolean)] (wWX2 cB cI cZ a0 I0 M0))) (vp_Si (fun r => r = R)) 0 0 (fun _ => False) := by
  refine Met.ofW (cc := cX2_nthHour) (maxL := 6) (ret := (some .int)) pn_X2 rfl ?_
  intro p e s m args below meth c s₁ B hml hv
  obtain ⟨rfl, hP, hK⟩ := hv
  have hx := B.exec
  have hb := B.bytes
  have hr := B.returns
  have hts := atoms_spec (ws := wsX2_nthHour) B.pre
  have hown : s.vm.findClass RX2 = some m.cls := (findClass_of_methodNamed B.named :)
  have hlocks := B.notSynchronized
  have hinX2 : ∀ w ∈ u_ws RX2 TX2 2, w ∈ wsX2_nthHour := fun w h => List.mem_cons_of_mem _ (List.mem_append_right _ h)
  have hl := lv_entry ([.ref (a0 0), .int x1, .int x2, .int x3]) (n := 6) (Nat.le_of_ble_eq_true rfl)
  rw [lg_entry_eq]
  generalize (lg_sl ([.ref (a0 0), .int x1, .int x2, .int x3]) ++ List.replicate (6 - (lg_sl ([.ref (a0 0), .int x1, .int x2, .int x3])).length) Slot.unset).toArray = ls at hl ⊢
  have hl : lv_has ls 6 [(0, .ref (a0 0)), (1, .int x1), (2, .int x2), (3, .int x3)] := hl
  unfold fX2_nthHour at hf
  refine lv_iload_n hx hb dX2_nthHour_0 rfl (lv_at hl 3 rfl) ?_
  refine lv_istore (lv' := [(4, .int x3), (0, .ref (a0 0)), (1, .int x1), (2, .int x2), (3, .int x3)]) hx hb dX2_nthHour_1 hl (by decide) rfl (fun ls hl => ?_)
  refine lv_iconst (v := (0 : Int32)) hx hb dX2_nthHour_3 (by decide) ?_
  refine lv_istore (lv' := [(5, .int (0 : Int32)), (4, .int x3), (0, .ref (a0 0)), (1, .int x1), (2, .int x2), (3, .int x3)]) hx hb dX2_nthHour_4 hl (by decide) rfl (fun ls hl => ?_)
  have L6 : ∀ (fu6 : Nat) (y6_4 : Int32) (y6_5 : Int32), ∀ (ls : Array Slot), lv_has ls 6 [(0, .ref (a0 0)), (1, .int x1), (2, .int x2), (4, .int y6_4), (5, .int y6_5)] → fX2_nthHour_L6 N I0 M0 x1 x2 x3 fu6 y6_4 y6_5 = some R → W p l e (headSpec wsX2_nthHour { frames := 3, cells := 0, slots := 0, locals := 72 }).room s m [.ref (a0 0), .int x1, .int x2, .int x3].toArray below meth c s.heap [] 0 0 (MQ below (vp_Si (fun r => r = R)) [.ref (a0 0), .int x1, .int x2, .int x3].toArray s 0 0 (fun _ => False)) (F0 m 6 ls []) := by
    intro fu6
    induction fu6 with
    | zero =>
      intro y6_4 y6_5 ls hl hf
      exact absurd hf (by rw [fX2_nthHour_L6.eq_1]; exact fun h => nomatch h)
    | succ fu6 ih6 =>
      intro y6_4 y6_5 ls hl hf
      rw [fX2_nthHour_L6.eq_2] at hf
      refine lv_iload hx hb dX2_nthHour_6 (lv_at hl 4 rfl) ?_
      refine lv_sipush (v := (360 : Int32)) hx hb dX2_nthHour_8 (by decide) ?_
      refine lv_aload_n hx hb dX2_nthHour_11 rfl (lv_at hl 0 rfl) ?_
      refine va_get (D := D) (ci := 2) (v := .int (I0 0)) (C := RX2) (T := TX2) (N := 2) hx hb hts hinX2 hown hK hP 0 rfl rfl 1 (by decide) (hts (.fieldLink RX2 21 "WheelBook$Climates" "many" "I") (List.mem_of_getElem? (i := 1) rfl)) (fun _ h9 => h9) rfl dX2_nthHour_12 ?_
      refine lv_imul hx hb dX2_nthHour_15 ?_
      refine lv_icmp_ge (tgt := 62) hx hb dX2_nthHour_16 (by decide) (fun hc => ?_) (fun hc => ?_)
      · replace hf := wb_t hc hf
        refine lv_iconst (v := (-1 : Int32)) hx hb dX2_nthHour_62 (by decide) ?_
        exact W.iret (v := (-1 : Int32)) hx hb hr (fun t ht hW => ⟨_, rfl, Option.some.inj hf, ht⟩) (fun _ h => nomatch h) dX2_nthHour_63
      · replace hf := wb_f hc hf
        refine lv_iload hx hb dX2_nthHour_19 (lv_at hl 3 rfl) ?_
        refine lv_if_lt (tgt := 62) hx hb dX2_nthHour_21 (by decide) (fun hc => ?_) (fun hc => ?_)
        · replace hf := wb_t hc hf
          refine lv_iconst (v := (-1 : Int32)) hx hb dX2_nthHour_62 (by decide) ?_
          exact W.iret (v := (-1 : Int32)) hx hb hr (fun t ht hW => ⟨_, rfl, Option.some.inj hf, ht⟩) (fun _ h => nomatch h) dX2_nthHour_63
        · replace hf := wb_f hc hf
          refine lv_aload_n hx hb dX2_nthHour_24 rfl (lv_at hl 0 rfl) ?_
          refine lv_iload hx hb dX2_nthHour_25 (lv_at hl 4 rfl) ?_
          refine lv_sipush (v := (360 : Int32)) hx hb dX2_nthHour_27 (by decide) ?_
          refine lv_idiv hx hb dX2_nthHour_30 (by decide) ?_
          refine lv_iload hx hb dX2_nthHour_31 (lv_at hl 4 rfl) ?_
          refine lv_sipush (v := (360 : Int32)) hx hb dX2_nthHour_33 (by decide) ?_
          refine lv_irem hx hb dX2_nthHour_36 (by decide) ?_
          refine lv_iload_n hx hb dX2_nthHour_37 rfl (lv_at hl 1 rfl) ?_
          refine lv_iload_n hx hb dX2_nthHour_38 rfl (lv_at hl 2 rfl) ?_
          obtain ⟨r1, hr1, hf⟩ := wb_b hf
          refine vp_callSi (W.runV (As := [.int (y6_5 / (360 : Int32)), .int (y6_5 - y6_5 / (360 : Int32) * (360 : Int32)), .int x1, .int x2]) (rest := []) ⟨hx, hb, hml, hown, hts⟩ (cn_X2_isHour l D cB cI cZ N a0 I0 M0 (y6_5 / (360 : Int32)) (y6_5 - y6_5 / (360 : Int32) * (360 : Int32)) x1 x2 r1 hr1) (cwV 4 hts gX2_nthHour_X2_isHour rfl rfl rfl cdX2_isHour ⟨Nat.le_of_ble_eq_true rfl, Nat.le_of_ble_eq_true rfl⟩) (wb_preV hP hK (wr_2 hK hP (q0 := 0) rfl)) rfl rfl hl.1 rfl (lv_room (Nat.le_of_ble_eq_true rfl)) dX2_nthHour_39 ⟨Nat.le_of_ble_eq_true rfl, Nat.le_of_ble_eq_true rfl⟩) (fun r9 e9 => ?_)
          rw [e9]
          refine lv_if_eq (tgt := 56) hx hb dX2_nthHour_42 (by decide) (fun hc => ?_) (fun hc => ?_)
          · replace hf := wb_t hc hf
            obtain ⟨v2, ev2, hf⟩ := wb_v hf
            refine lv_iinc (v := v2) (lv' := [(5, .int v2), (0, .ref (a0 0)), (1, .int x1), (2, .int x2), (4, .int y6_4)]) hx hb dX2_nthHour_56 hl (k := 4) rfl (by rw [ev2]; rfl) (by decide) rfl (fun ls hl => ?_)
            refine lv_goto (tgt := 6) hx hb dX2_nthHour_59 (by decide) ?_
            exact ih6 y6_4 v2 ls (lv_sub hl [1, 2, 3, 4, 0] rfl) hf
          · replace hf := wb_f hc hf
            refine lv_iload hx hb dX2_nthHour_45 (lv_at hl 3 rfl) ?_
            refine lv_if_ne (tgt := 53) hx hb dX2_nthHour_47 (by decide) (fun hc => ?_) (fun hc => ?_)
            · replace hf := wb_f hc hf
              obtain ⟨v3, ev3, hf⟩ := wb_v hf
              refine lv_iinc (v := v3) (lv' := [(4, .int v3), (0, .ref (a0 0)), (1, .int x1), (2, .int x2), (5, .int y6_5)]) hx hb dX2_nthHour_53 hl (k := 3) rfl (by rw [ev3]; rfl) (by decide) rfl (fun ls hl => ?_)
              obtain ⟨v4, ev4, hf⟩ := wb_v hf
              refine lv_iinc (v := v4) (lv' := [(5, .int v4), (4, .int v3), (0, .ref (a0 0)), (1, .int x1), (2, .int x2)]) hx hb dX2_nthHour_56 hl (k := 4) rfl (by rw [ev4]; rfl) (by decide) rfl (fun ls hl => ?_)
              refine lv_goto (tgt := 6) hx hb dX2_nthHour_59 (by decide) ?_
              exact ih6 v3 v4 ls (lv_sub hl [2, 3, 4, 1, 0] rfl) hf
            · replace hf := wb_t hc hf
              refine lv_iload hx hb dX2_nthHour_50 (lv_at hl 4 rfl) ?_
              exact W.iret (v := y6_5) hx hb hr (fun t ht hW => ⟨_, rfl, Option.some.inj hf, ht⟩) (fun _ h => nomatch h) dX2_nthHour_52
  exact L6 N x3 (0 : Int32) ls (lv_sub hl [2, 3, 4, 1, 0] rfl) hf

set_option maxHeartbeats 4000000 in
set_option maxRecDepth 100000 in
theorem cn_J9_floorDiv_f86c9 (l : Launch) (D : va_G) (cB cI cZ : ClassId) (N : Nat) (x0 : Int64) (x1 : Int64) (R : Int64) (hf : fJ9_floorDiv_f86c9 N x0 x1 = some R) : Met l yJ9_floorDiv_f86c9 wsJ9_floorDiv_f86c9 ({ frames := 0, cells := 0, slots := 0, locals := 0 }) (va_Pc [.long x0, .long x1] (wb_pre D [(cB, .byte), (cI, .int), (cZ, .boolean)] ([] : va_W))) (vp_Sl (fun r => r = R)) 0 0 (fun _ => False) := by
  refine va_MetF (cc := cJ9_floorDiv_f86c9) (maxL := 6) (ret := (some .long)) (pf_of (by decide +kernel)) rfl ?_
  intro p e s m args below meth c s₁ B hml hv
  obtain ⟨rfl, hP, hK⟩ := hv
  have hx := B.exec
  have hb := B.bytes
  have hr := B.returns
  have hts := atoms_spec (ws := wsJ9_floorDiv_f86c9) B.pre
  have hown : s.vm.findClass RJ9 = some m.cls := (findClass_of_methodNamed B.named :)
  have hlocks := B.notSynchronized
  have hl := lv_entry ([.long x0, .long x1]) (n := 6) (Nat.le_of_ble_eq_true rfl)
  rw [lg_entry_eq]
  generalize (lg_sl ([.long x0, .long x1]) ++ List.replicate (6 - (lg_sl ([.long x0, .long x1])).length) Slot.unset).toArray = ls at hl ⊢
  have hl : lv_has ls 6 [(0, .long x0), (2, .long x1)] := hl
  unfold fJ9_floorDiv_f86c9 at hf
  refine lv_lload_n hx hb dJ9_floorDiv_f86c9_0 rfl (lv_at hl 0 rfl) ?_
  refine lv_lload_n hx hb dJ9_floorDiv_f86c9_1 rfl (lv_at hl 1 rfl) ?_
  obtain ⟨hz, hf⟩ := wb_n hf
  refine lv_ldiv hx hb dJ9_floorDiv_f86c9_2 hz ?_
  obtain ⟨v1, ev1, hf⟩ := wb_v hf
  refine wb_topl ev1 ?_
  refine lv_lstore (lv' := [(4, .long v1), (0, .long x0), (2, .long x1)]) hx hb dJ9_floorDiv_f86c9_3 hl (by decide) rfl (fun ls hl => ?_)
  refine lv_lload_n hx hb dJ9_floorDiv_f86c9_5 rfl (lv_at hl 1 rfl) ?_
  refine lv_lload_n hx hb dJ9_floorDiv_f86c9_6 rfl (lv_at hl 2 rfl) ?_
  refine lv_lxor hx hb dJ9_floorDiv_f86c9_7 ?_
  refine lv_lconst (v := (0 : Int64)) hx hb dJ9_floorDiv_f86c9_8 (by decide) ?_
  refine W.lcmp hx hb dJ9_floorDiv_f86c9_9 ?_
  refine lv_if_ge (tgt := 27) hx hb dJ9_floorDiv_f86c9_10 (by decide) (fun hc => ?_) (fun hc => ?_)
  · replace hf := wb_t hc hf
    refine lv_lload hx hb dJ9_floorDiv_f86c9_27 (lv_at hl 0 rfl) ?_
    exact W.lret (v := v1) hx hb hr (fun t ht hW => ⟨_, rfl, Option.some.inj hf, ht⟩) (fun _ h => nomatch h) dJ9_floorDiv_f86c9_29
  · replace hf := wb_f hc hf
    refine lv_lload hx hb dJ9_floorDiv_f86c9_13 (lv_at hl 0 rfl) ?_
    refine lv_lload_n hx hb dJ9_floorDiv_f86c9_15 rfl (lv_at hl 2 rfl) ?_
    refine lv_lmul hx hb dJ9_floorDiv_f86c9_16 ?_
    refine lv_lload_n hx hb dJ9_floorDiv_f86c9_17 rfl (lv_at hl 1 rfl) ?_
    refine W.lcmp hx hb dJ9_floorDiv_f86c9_18 ?_
    refine lv_if_eq (tgt := 27) hx hb dJ9_floorDiv_f86c9_19 (by decide) (fun hc => ?_) (fun hc => ?_)
    · replace hf := wb_t hc hf
      refine lv_lload hx hb dJ9_floorDiv_f86c9_27 (lv_at hl 0 rfl) ?_
      exact W.lret (v := v1) hx hb hr (fun t ht hW => ⟨_, rfl, Option.some.inj hf, ht⟩) (fun _ h => nomatch h) dJ9_floorDiv_f86c9_29
    · replace hf := wb_f hc hf
      refine lv_lload hx hb dJ9_floorDiv_f86c9_22 (lv_at hl 0 rfl) ?_
      refine lv_lconst (v := (1 : Int64)) hx hb dJ9_floorDiv_f86c9_24 (by decide) ?_
      refine lv_lsub hx hb dJ9_floorDiv_f86c9_25 ?_
      exact W.lret (v := (v1 - (1 : Int64))) hx hb hr (fun t ht hW => ⟨_, rfl, Option.some.inj hf, ht⟩) (fun _ h => nomatch h) dJ9_floorDiv_f86c9_26

set_option maxHeartbeats 4000000 in
set_option maxRecDepth 100000 in
theorem cn_X5_swingOn (l : Launch) (D : va_G) (cB cI cZ : ClassId) (N : Nat) (a0 : Nat → Nat) (I0 : Nat → Int32) (M0 : Nat → Nat → Int32) (x1 : Int32) (x2 : Int32) (R : Int64) (hf : fX5_swingOn N I0 M0 x1 x2 = some R) : Met l yX5_swingOn wsX5_swingOn ({ frames := 1, cells := 0, slots := 0, locals := 40 }) (va_Pc [.ref (a0 0), .int x1, .int x2] (wb_pre D [(cB, .byte), (cI, .int), (cZ, .boolean)] (wWX5 cB cI cZ a0 I0 M0))) (vp_Sl (fun r => r = R)) 0 0 (fun _ => False) := by
  refine Met.ofW (cc := cX5_swingOn) (maxL := 7) (ret := (some .long)) pn_X5 rfl ?_
  intro p e s m args below meth c s₁ B hml hv
  obtain ⟨rfl, hP, hK⟩ := hv
  have hx := B.exec
  have hb := B.bytes
  have hr := B.returns
  have hts := atoms_spec (ws := wsX5_swingOn) B.pre
  have hown : s.vm.findClass RX5 = some m.cls := (findClass_of_methodNamed B.named :)
  have hlocks := B.notSynchronized
  have hinX5 : ∀ w ∈ u_ws RX5 TX5 6, w ∈ wsX5_swingOn := fun w h => List.mem_cons_of_mem _ (List.mem_append_right _ h)
  have hl := lv_entry ([.ref (a0 0), .int x1, .int x2]) (n := 7) (Nat.le_of_ble_eq_true rfl)
  rw [lg_entry_eq]
  generalize (lg_sl ([.ref (a0 0), .int x1, .int x2]) ++ List.replicate (7 - (lg_sl ([.ref (a0 0), .int x1, .int x2])).length) Slot.unset).toArray = ls at hl ⊢
  have hl : lv_has ls 7 [(0, .ref (a0 0)), (1, .int x1), (2, .int x2)] := hl
  unfold fX5_swingOn at hf
  refine lv_aload_n hx hb dX5_swingOn_0 rfl (lv_at hl 0 rfl) ?_
  refine va_get (D := D) (ci := 5) (v := .ref (a0 4)) (C := RX5) (T := TX5) (N := 6) hx hb hts hinX5 hown hK hP 0 rfl rfl 3 (by decide) (hts (.fieldLink RX5 21 "WheelBook$House" "period" "[I") (List.mem_of_getElem? (i := 1) rfl)) (fun _ h9 => h9) rfl dX5_swingOn_1 ?_
  refine lv_iload_n hx hb dX5_swingOn_4 rfl (lv_at hl 1 rfl) ?_
  obtain ⟨hin, hf⟩ := wb_n hf
  refine va_iald hx hb hK hP 4 1 rfl rfl hin dX5_swingOn_5 ?_
  obtain ⟨v1, ev1, hf⟩ := wb_v hf
  refine wb_topi ev1 ?_
  refine lv_istore_n (lv' := [(3, .int v1), (0, .ref (a0 0)), (1, .int x1), (2, .int x2)]) hx hb dX5_swingOn_6 rfl hl (by decide) rfl (fun ls hl => ?_)
  refine lv_aload_n hx hb dX5_swingOn_7 rfl (lv_at hl 1 rfl) ?_
  refine va_get (D := D) (ci := 5) (v := .ref (a0 3)) (C := RX5) (T := TX5) (N := 6) hx hb hts hinX5 hown hK hP 0 rfl rfl 2 (by decide) (hts (.fieldLink RX5 18 "WheelBook$House" "swing" "[I") (List.mem_of_getElem? (i := 2) rfl)) (fun _ h9 => h9) rfl dX5_swingOn_8 ?_
  refine lv_iload_n hx hb dX5_swingOn_11 rfl (lv_at hl 2 rfl) ?_
  obtain ⟨hin, hf⟩ := wb_n hf
  refine va_iald hx hb hK hP 3 1 rfl rfl hin dX5_swingOn_12 ?_
  refine lv_if_eq (tgt := 21) hx hb dX5_swingOn_13 (by decide) (fun hc => ?_) (fun hc => ?_)
  · replace hf := wb_t hc hf
    refine lv_lconst (v := (0 : Int64)) hx hb dX5_swingOn_21 (by decide) ?_
    exact W.lret (v := (0 : Int64)) hx hb hr (fun t ht hW => ⟨_, rfl, Option.some.inj hf, ht⟩) (fun _ h => nomatch h) dX5_swingOn_22
  · replace hf := wb_f hc hf
    refine lv_iload_n hx hb dX5_swingOn_16 rfl (lv_at hl 0 rfl) ?_
    refine lv_iconst (v := (1 : Int32)) hx hb dX5_swingOn_17 (by decide) ?_
    refine lv_icmp_ge (tgt := 23) hx hb dX5_swingOn_18 (by decide) (fun hc => ?_) (fun hc => ?_)
    · replace hf := wb_t hc hf
      refine lv_iload_n hx hb dX5_swingOn_23 rfl (lv_at hl 3 rfl) ?_
      refine lv_iload_n hx hb dX5_swingOn_24 rfl (lv_at hl 0 rfl) ?_
      obtain ⟨hz, hf⟩ := wb_n hf
      refine lv_irem hx hb dX5_swingOn_25 hz ?_
      obtain ⟨v2, ev2, hf⟩ := wb_v hf
      refine wb_topi ev2 ?_
      refine lv_istore (lv' := [(4, .int v2), (3, .int v1), (0, .ref (a0 0)), (1, .int x1), (2, .int x2)]) hx hb dX5_swingOn_26 hl (by decide) rfl (fun ls hl => ?_)
      refine lv_ldc2 (v := (2 : Int64)) hx hb hown (hts (.constantLong RX5 133 (2)) (List.mem_of_getElem? (i := 3) rfl)) dX5_swingOn_28 ?_
      refine lv_iconst (v := (2 : Int32)) hx hb dX5_swingOn_31 (by decide) ?_
      refine lv_iload hx hb dX5_swingOn_32 (lv_at hl 0 rfl) ?_
      refine lv_imul hx hb dX5_swingOn_34 ?_
      refine lv_iload_n hx hb dX5_swingOn_35 rfl (lv_at hl 1 rfl) ?_
      refine lv_isub hx hb dX5_swingOn_36 ?_
      refine va_mabs hx hb (hml.trans hl.1.symm) hown (hts (.methodLink RX5 135 Lib.Math.abs.name) (List.mem_of_getElem? (i := 4) rfl)) (hts (.static Lib.Math.abs.name) (List.mem_of_getElem? (i := 5) rfl)) (hts (.initialized "java/lang/Math") (List.mem_of_getElem? (i := 6) rfl)) (hts (.code Lib.Math.abs.name Lib.Math.abs.code 1 (some .int)) (List.mem_of_getElem? (i := 7) rfl)) (Nat.le_of_ble_eq_true rfl) (Nat.le_of_ble_eq_true rfl) (Nat.zero_le _) (Nat.zero_le _) dX5_swingOn_37 ?_
      refine lv_i2l hx hb dX5_swingOn_40 rfl ?_
      refine lv_lmul hx hb dX5_swingOn_41 ?_
      refine lv_iload_n hx hb dX5_swingOn_42 rfl (lv_at hl 1 rfl) ?_
      refine lv_i2l hx hb dX5_swingOn_43 rfl ?_
      refine lv_lsub hx hb dX5_swingOn_44 ?_
      obtain ⟨v3, ev3, hf⟩ := wb_v hf
      refine wb_topl ev3 ?_
      refine lv_lstore (lv' := [(5, .long v3), (4, .int v2), (3, .int v1), (0, .ref (a0 0)), (1, .int x1), (2, .int x2)]) hx hb dX5_swingOn_45 hl (by decide) rfl (fun ls hl => ?_)
      refine lv_lload hx hb dX5_swingOn_47 (lv_at hl 0 rfl) ?_
      refine lv_aload_n hx hb dX5_swingOn_49 rfl (lv_at hl 3 rfl) ?_
      refine va_get (D := D) (ci := 5) (v := .ref (a0 3)) (C := RX5) (T := TX5) (N := 6) hx hb hts hinX5 hown hK hP 0 rfl rfl 2 (by decide) (hts (.fieldLink RX5 18 "WheelBook$House" "swing" "[I") (List.mem_of_getElem? (i := 2) rfl)) (fun _ h9 => h9) rfl dX5_swingOn_50 ?_
      refine lv_iload_n hx hb dX5_swingOn_53 rfl (lv_at hl 4 rfl) ?_
      obtain ⟨hin, hf⟩ := wb_n hf
      refine va_iald hx hb hK hP 3 1 rfl rfl hin dX5_swingOn_54 ?_
      refine lv_i2l hx hb dX5_swingOn_55 rfl ?_
      refine lv_lmul hx hb dX5_swingOn_56 ?_
      refine lv_iload_n hx hb dX5_swingOn_57 rfl (lv_at hl 2 rfl) ?_
      refine lv_i2l hx hb dX5_swingOn_58 rfl ?_
      obtain ⟨r4, hr4, hf⟩ := wb_b hf
      refine vp_callSl (W.runS (As := [.long (v3 * (M0 2 (x1).toNatClampNeg).toInt64), .long v1.toInt64]) (rest := []) ⟨hx, hb, hml, hown, hts⟩ (cn_J9_floorDiv_f86c9 l D cB cI cZ N (v3 * (M0 2 (x1).toNatClampNeg).toInt64) v1.toInt64 r4 hr4) (va_cwS 2 hts gX5_swingOn_J9_floorDiv_f86c9 rfl rfl rfl csJ9_floorDiv_f86c9 ⟨Nat.le_of_ble_eq_true rfl, Nat.le_of_ble_eq_true rfl⟩) (wb_preS (hP.sub (ws' := ([] : va_W)) [] rfl) hK) rfl rfl hl.1 rfl (lv_room (Nat.le_of_ble_eq_true rfl)) dX5_swingOn_59 ⟨Nat.le_of_ble_eq_true rfl, Nat.le_of_ble_eq_true rfl⟩) (fun r9 e9 => ?_)
      rw [e9]
      exact W.lret (v := r4) hx hb hr (fun t ht hW => ⟨_, rfl, Option.some.inj hf, ht⟩) (fun _ h => nomatch h) dX5_swingOn_62
    · replace hf := wb_f hc hf
      refine lv_lconst (v := (0 : Int64)) hx hb dX5_swingOn_21 (by decide) ?_
      exact W.lret (v := (0 : Int64)) hx hb hr (fun t ht hW => ⟨_, rfl, Option.some.inj hf, ht⟩) (fun _ h => nomatch h) dX5_swingOn_22

set_option maxHeartbeats 4000000 in
set_option maxRecDepth 100000 in
theorem cn_J9_floorMod_f86c9 (l : Launch) (D : va_G) (cB cI cZ : ClassId) (N : Nat) (x0 : Int64) (x1 : Int64) (R : Int64) (hf : fJ9_floorMod_f86c9 N x0 x1 = some R) : Met l yJ9_floorMod_f86c9 wsJ9_floorMod_f86c9 ({ frames := 0, cells := 0, slots := 0, locals := 0 }) (va_Pc [.long x0, .long x1] (wb_pre D [(cB, .byte), (cI, .int), (cZ, .boolean)] ([] : va_W))) (vp_Sl (fun r => r = R)) 0 0 (fun _ => False) := by
  refine va_MetF (cc := cJ9_floorMod_f86c9) (maxL := 6) (ret := (some .long)) (pf_of (by decide +kernel)) rfl ?_
  intro p e s m args below meth c s₁ B hml hv
  obtain ⟨rfl, hP, hK⟩ := hv
  have hx := B.exec
  have hb := B.bytes
  have hr := B.returns
  have hts := atoms_spec (ws := wsJ9_floorMod_f86c9) B.pre
  have hown : s.vm.findClass RJ9 = some m.cls := (findClass_of_methodNamed B.named :)
  have hlocks := B.notSynchronized
  have hl := lv_entry ([.long x0, .long x1]) (n := 6) (Nat.le_of_ble_eq_true rfl)
  rw [lg_entry_eq]
  generalize (lg_sl ([.long x0, .long x1]) ++ List.replicate (6 - (lg_sl ([.long x0, .long x1])).length) Slot.unset).toArray = ls at hl ⊢
  have hl : lv_has ls 6 [(0, .long x0), (2, .long x1)] := hl
  unfold fJ9_floorMod_f86c9 at hf
  refine lv_lload_n hx hb dJ9_floorMod_f86c9_0 rfl (lv_at hl 0 rfl) ?_
  refine lv_lload_n hx hb dJ9_floorMod_f86c9_1 rfl (lv_at hl 1 rfl) ?_
  obtain ⟨hz, hf⟩ := wb_n hf
  refine lv_lrem hx hb dJ9_floorMod_f86c9_2 hz ?_
  obtain ⟨v1, ev1, hf⟩ := wb_v hf
  refine wb_topl ev1 ?_
  refine lv_lstore (lv' := [(4, .long v1), (0, .long x0), (2, .long x1)]) hx hb dJ9_floorMod_f86c9_3 hl (by decide) rfl (fun ls hl => ?_)
  refine lv_lload_n hx hb dJ9_floorMod_f86c9_5 rfl (lv_at hl 1 rfl) ?_
  refine lv_lload_n hx hb dJ9_floorMod_f86c9_6 rfl (lv_at hl 2 rfl) ?_
  refine lv_lxor hx hb dJ9_floorMod_f86c9_7 ?_
  refine lv_lconst (v := (0 : Int64)) hx hb dJ9_floorMod_f86c9_8 (by decide) ?_
  refine W.lcmp hx hb dJ9_floorMod_f86c9_9 ?_
  refine lv_if_ge (tgt := 25) hx hb dJ9_floorMod_f86c9_10 (by decide) (fun hc => ?_) (fun hc => ?_)
  · replace hf := wb_t hc hf
    refine lv_lload hx hb dJ9_floorMod_f86c9_25 (lv_at hl 0 rfl) ?_
    exact W.lret (v := v1) hx hb hr (fun t ht hW => ⟨_, rfl, Option.some.inj hf, ht⟩) (fun _ h => nomatch h) dJ9_floorMod_f86c9_27
  · replace hf := wb_f hc hf
    refine lv_lload hx hb dJ9_floorMod_f86c9_13 (lv_at hl 0 rfl) ?_
    refine lv_lconst (v := (0 : Int64)) hx hb dJ9_floorMod_f86c9_15 (by decide) ?_
    refine W.lcmp hx hb dJ9_floorMod_f86c9_16 ?_
    refine lv_if_eq (tgt := 25) hx hb dJ9_floorMod_f86c9_17 (by decide) (fun hc => ?_) (fun hc => ?_)
    · replace hf := wb_t hc hf
      refine lv_lload hx hb dJ9_floorMod_f86c9_25 (lv_at hl 0 rfl) ?_
      exact W.lret (v := v1) hx hb hr (fun t ht hW => ⟨_, rfl, Option.some.inj hf, ht⟩) (fun _ h => nomatch h) dJ9_floorMod_f86c9_27
    · replace hf := wb_f hc hf
      refine lv_lload hx hb dJ9_floorMod_f86c9_20 (lv_at hl 0 rfl) ?_
      refine lv_lload_n hx hb dJ9_floorMod_f86c9_22 rfl (lv_at hl 2 rfl) ?_
      refine lv_ladd hx hb dJ9_floorMod_f86c9_23 ?_
      exact W.lret (v := (v1 + x1)) hx hb hr (fun t ht hW => ⟨_, rfl, Option.some.inj hf, ht⟩) (fun _ h => nomatch h) dJ9_floorMod_f86c9_24

set_option maxHeartbeats 4000000 in
set_option maxRecDepth 100000 in
theorem cn_X5_placeOn (l : Launch) (D : va_G) (cB cI cZ : ClassId) (N : Nat) (a0 : Nat → Nat) (I0 : Nat → Int32) (M0 : Nat → Nat → Int32) (x1 : Int32) (x2 : Int32) (x3 : Int32) (R : Int32) (hf : fX5_placeOn N I0 M0 x1 x2 x3 = some R) : Met l yX5_placeOn wsX5_placeOn ({ frames := 2, cells := 0, slots := 0, locals := 66 }) (va_Pc [.ref (a0 0), .int x1, .int x2, .int x3] (wb_pre D [(cB, .byte), (cI, .int), (cZ, .boolean)] (wWX5 cB cI cZ a0 I0 M0))) (vp_Si (fun r => r = R)) 0 0 (fun _ => False) := by
  refine Met.ofW (cc := cX5_placeOn) (maxL := 7) (ret := (some .int)) pn_X5 rfl ?_
  intro p e s m args below meth c s₁ B hml hv
  obtain ⟨rfl, hP, hK⟩ := hv
  have hx := B.exec
  have hb := B.bytes
  have hr := B.returns
  have hts := atoms_spec (ws := wsX5_placeOn) B.pre
  have hown : s.vm.findClass RX5 = some m.cls := (findClass_of_methodNamed B.named :)
  have hlocks := B.notSynchronized
  have hinX5 : ∀ w ∈ u_ws RX5 TX5 6, w ∈ wsX5_placeOn := fun w h => List.mem_cons_of_mem _ (List.mem_append_right _ h)
  have hl := lv_entry ([.ref (a0 0), .int x1, .int x2, .int x3]) (n := 7) (Nat.le_of_ble_eq_true rfl)
  rw [lg_entry_eq]
  generalize (lg_sl ([.ref (a0 0), .int x1, .int x2, .int x3]) ++ List.replicate (7 - (lg_sl ([.ref (a0 0), .int x1, .int x2, .int x3])).length) Slot.unset).toArray = ls at hl ⊢
  have hl : lv_has ls 7 [(0, .ref (a0 0)), (1, .int x1), (2, .int x2), (3, .int x3)] := hl
  unfold fX5_placeOn at hf
  refine lv_bipush (v := (7 : Int32)) hx hb dX5_placeOn_0 (by decide) ?_
  refine lv_iload_n hx hb dX5_placeOn_2 rfl (lv_at hl 1 rfl) ?_
  refine lv_imul hx hb dX5_placeOn_3 ?_
  refine lv_iload_n hx hb dX5_placeOn_4 rfl (lv_at hl 2 rfl) ?_
  refine lv_iadd hx hb dX5_placeOn_5 ?_
  obtain ⟨v1, ev1, hf⟩ := wb_v hf
  refine wb_topi ev1 ?_
  refine lv_istore (lv' := [(4, .int v1), (0, .ref (a0 0)), (1, .int x1), (2, .int x2), (3, .int x3)]) hx hb dX5_placeOn_6 hl (by decide) rfl (fun ls hl => ?_)
  refine lv_aload_n hx hb dX5_placeOn_8 rfl (lv_at hl 1 rfl) ?_
  refine va_get (D := D) (ci := 5) (v := .ref (a0 2)) (C := RX5) (T := TX5) (N := 6) hx hb hts hinX5 hown hK hP 0 rfl rfl 1 (by decide) (hts (.fieldLink RX5 15 "WheelBook$House" "goes" "[I") (List.mem_of_getElem? (i := 1) rfl)) (fun _ h9 => h9) rfl dX5_placeOn_9 ?_
  refine lv_iload hx hb dX5_placeOn_12 (lv_at hl 0 rfl) ?_
  obtain ⟨hin, hf⟩ := wb_n hf
  refine va_iald hx hb hK hP 2 1 rfl rfl hin dX5_placeOn_14 ?_
  refine lv_i2l hx hb dX5_placeOn_15 rfl ?_
  refine lv_iload_n hx hb dX5_placeOn_16 rfl (lv_at hl 4 rfl) ?_
  refine lv_i2l hx hb dX5_placeOn_17 rfl ?_
  refine lv_lmul hx hb dX5_placeOn_18 ?_
  refine lv_ldc2 (v := (1000 : Int64)) hx hb hown (hts (.constantLong RX5 119 (1000)) (List.mem_of_getElem? (i := 2) rfl)) dX5_placeOn_19 ?_
  refine lv_ldiv hx hb dX5_placeOn_22 (by decide) ?_
  obtain ⟨v2, ev2, hf⟩ := wb_v hf
  refine wb_topl ev2 ?_
  refine lv_lstore (lv' := [(5, .long v2), (4, .int v1), (0, .ref (a0 0)), (1, .int x1), (2, .int x2), (3, .int x3)]) hx hb dX5_placeOn_23 hl (by decide) rfl (fun ls hl => ?_)
  refine lv_aload_n hx hb dX5_placeOn_25 rfl (lv_at hl 2 rfl) ?_
  refine va_get (D := D) (ci := 5) (v := .ref (a0 1)) (C := RX5) (T := TX5) (N := 6) hx hb hts hinX5 hown hK hP 0 rfl rfl 0 (by decide) (hts (.fieldLink RX5 11 "WheelBook$House" "at" "[I") (List.mem_of_getElem? (i := 3) rfl)) (fun _ h9 => h9) rfl dX5_placeOn_26 ?_
  refine lv_iload hx hb dX5_placeOn_29 (lv_at hl 1 rfl) ?_
  obtain ⟨hin, hf⟩ := wb_n hf
  refine va_iald hx hb hK hP 1 1 rfl rfl hin dX5_placeOn_31 ?_
  refine lv_i2l hx hb dX5_placeOn_32 rfl ?_
  refine lv_lload hx hb dX5_placeOn_33 (lv_at hl 0 rfl) ?_
  refine lv_ladd hx hb dX5_placeOn_35 ?_
  refine lv_aload_n hx hb dX5_placeOn_36 rfl (lv_at hl 2 rfl) ?_
  refine lv_iload hx hb dX5_placeOn_37 (lv_at hl 1 rfl) ?_
  refine lv_iload_n hx hb dX5_placeOn_39 rfl (lv_at hl 5 rfl) ?_
  obtain ⟨r3, hr3, hf⟩ := wb_b hf
  refine vp_callSl (W.runV (As := [.int v1, .int x3]) (rest := [.long ((M0 0 (v1).toNatClampNeg).toInt64 + v2)]) ⟨hx, hb, hml, hown, hts⟩ (cn_X5_swingOn l D cB cI cZ N a0 I0 M0 v1 x3 r3 hr3) (cwV 2 hts gX5_placeOn_X5_swingOn rfl rfl rfl cdX5_swingOn ⟨Nat.le_of_ble_eq_true rfl, Nat.le_of_ble_eq_true rfl⟩) (wb_preV hP hK (wr_5 hK hP (q0 := 0) rfl)) rfl rfl hl.1 rfl (lv_room (Nat.le_of_ble_eq_true rfl)) dX5_placeOn_40 ⟨Nat.le_of_ble_eq_true rfl, Nat.le_of_ble_eq_true rfl⟩) (fun r9 e9 => ?_)
  rw [e9]
  refine lv_ladd hx hb dX5_placeOn_43 ?_
  refine lv_ldc2 (v := (21600 : Int64)) hx hb hown (hts (.constantLong RX5 125 (21600)) (List.mem_of_getElem? (i := 4) rfl)) dX5_placeOn_44 ?_
  obtain ⟨r4, hr4, hf⟩ := wb_b hf
  refine vp_callSl (W.runS (As := [.long (((M0 0 (v1).toNatClampNeg).toInt64 + v2) + r3), .long (21600 : Int64)]) (rest := []) ⟨hx, hb, hml, hown, hts⟩ (cn_J9_floorMod_f86c9 l D cB cI cZ N (((M0 0 (v1).toNatClampNeg).toInt64 + v2) + r3) (21600 : Int64) r4 hr4) (va_cwS 2 hts gX5_placeOn_J9_floorMod_f86c9 rfl rfl rfl csJ9_floorMod_f86c9 ⟨Nat.le_of_ble_eq_true rfl, Nat.le_of_ble_eq_true rfl⟩) (wb_preS (hP.sub (ws' := ([] : va_W)) [] rfl) hK) rfl rfl hl.1 rfl (lv_room (Nat.le_of_ble_eq_true rfl)) dX5_placeOn_47 ⟨Nat.le_of_ble_eq_true rfl, Nat.le_of_ble_eq_true rfl⟩) (fun r9 e9 => ?_)
  rw [e9]
  refine lv_l2i hx hb dX5_placeOn_50 rfl ?_
  exact W.iret (v := r4.toInt32) hx hb hr (fun t ht hW => ⟨_, rfl, Option.some.inj hf, ht⟩) (fun _ h => nomatch h) dX5_placeOn_51

set_option maxHeartbeats 4000000 in
set_option maxRecDepth 100000 in
theorem cn_X5_degreeOn (l : Launch) (D : va_G) (cB cI cZ : ClassId) (N : Nat) (a0 : Nat → Nat) (I0 : Nat → Int32) (M0 : Nat → Nat → Int32) (x1 : Int32) (x2 : Int32) (x3 : Int32) (R : Int32) (hf : fX5_degreeOn N I0 M0 x1 x2 x3 = some R) : Met l yX5_degreeOn wsX5_degreeOn ({ frames := 3, cells := 0, slots := 0, locals := 92 }) (va_Pc [.ref (a0 0), .int x1, .int x2, .int x3] (wb_pre D [(cB, .byte), (cI, .int), (cZ, .boolean)] (wWX5 cB cI cZ a0 I0 M0))) (vp_Si (fun r => r = R)) 0 0 (fun _ => False) := by
  refine Met.ofW (cc := cX5_degreeOn) (maxL := 4) (ret := (some .int)) pn_X5 rfl ?_
  intro p e s m args below meth c s₁ B hml hv
  obtain ⟨rfl, hP, hK⟩ := hv
  have hx := B.exec
  have hb := B.bytes
  have hr := B.returns
  have hts := atoms_spec (ws := wsX5_degreeOn) B.pre
  have hown : s.vm.findClass RX5 = some m.cls := (findClass_of_methodNamed B.named :)
  have hlocks := B.notSynchronized
  have hl := lv_entry ([.ref (a0 0), .int x1, .int x2, .int x3]) (n := 4) (Nat.le_of_ble_eq_true rfl)
  rw [lg_entry_eq]
  generalize (lg_sl ([.ref (a0 0), .int x1, .int x2, .int x3]) ++ List.replicate (4 - (lg_sl ([.ref (a0 0), .int x1, .int x2, .int x3])).length) Slot.unset).toArray = ls at hl ⊢
  have hl : lv_has ls 4 [(0, .ref (a0 0)), (1, .int x1), (2, .int x2), (3, .int x3)] := hl
  unfold fX5_degreeOn at hf
  refine lv_aload_n hx hb dX5_degreeOn_0 rfl (lv_at hl 0 rfl) ?_
  refine lv_iload_n hx hb dX5_degreeOn_1 rfl (lv_at hl 1 rfl) ?_
  refine lv_iload_n hx hb dX5_degreeOn_2 rfl (lv_at hl 2 rfl) ?_
  refine lv_iload_n hx hb dX5_degreeOn_3 rfl (lv_at hl 3 rfl) ?_
  obtain ⟨r1, hr1, hf⟩ := wb_b hf
  refine vp_callSi (W.runV (As := [.int x1, .int x2, .int x3]) (rest := []) ⟨hx, hb, hml, hown, hts⟩ (cn_X5_placeOn l D cB cI cZ N a0 I0 M0 x1 x2 x3 r1 hr1) (cwV 3 hts gX5_degreeOn_X5_placeOn rfl rfl rfl cdX5_placeOn ⟨Nat.le_of_ble_eq_true rfl, Nat.le_of_ble_eq_true rfl⟩) (wb_preV hP hK (wr_5 hK hP (q0 := 0) rfl)) rfl rfl hl.1 rfl (lv_room (Nat.le_of_ble_eq_true rfl)) dX5_degreeOn_4 ⟨Nat.le_of_ble_eq_true rfl, Nat.le_of_ble_eq_true rfl⟩) (fun r9 e9 => ?_)
  rw [e9]
  refine lv_bipush (v := (60 : Int32)) hx hb dX5_degreeOn_7 (by decide) ?_
  refine lv_idiv hx hb dX5_degreeOn_9 (by decide) ?_
  exact W.iret (v := (r1 / (60 : Int32))) hx hb hr (fun t ht hW => ⟨_, rfl, Option.some.inj hf, ht⟩) (fun _ h => nomatch h) dX5_degreeOn_10

set_option maxHeartbeats 4000000 in
set_option maxRecDepth 100000 in
theorem cn_X3_costOn (l : Launch) (D : va_G) (cB cI cZ : ClassId) (N : Nat) (a0 : Nat → Nat) (I0 : Nat → Int32) (M0 : Nat → Nat → Int32) (a1 : Nat → Nat) (I1 : Nat → Int32) (M1 : Nat → Nat → Int32) (x2 : Int32) (x3 : Int32) (x4 : Int32) (x5 : Int32) (R : Int32) (hf : fX3_costOn N I0 M0 I1 M1 x2 x3 x4 x5 = some R) : Met l yX3_costOn wsX3_costOn ({ frames := 4, cells := 0, slots := 0, locals := 115 }) (va_Pc [.ref (a0 0), .ref (a1 0), .int x2, .int x3, .int x4, .int x5] (wb_pre D [(cB, .byte), (cI, .int), (cZ, .boolean)] ((wWX5 cB cI cZ a0 I0 M0) ++ (wWX1 cB cI cZ a1 I1 M1)))) (vp_Si (fun r => r = R)) 0 0 (fun _ => False) := by
  refine Met.ofW (cc := cX3_costOn) (maxL := 10) (ret := (some .int)) pn_X3 rfl ?_
  intro p e s m args below meth c s₁ B hml hv
  obtain ⟨rfl, hP, hK⟩ := hv
  have hx := B.exec
  have hb := B.bytes
  have hr := B.returns
  have hts := atoms_spec (ws := wsX3_costOn) B.pre
  have hown : s.vm.findClass RX3 = some m.cls := (findClass_of_methodNamed B.named :)
  have hlocks := B.notSynchronized
  have hinX5 : ∀ w ∈ u_ws RX5 TX5 6, w ∈ wsX3_costOn := fun w h => List.mem_cons_of_mem _ (List.mem_append_left _ (List.mem_append_left _ (List.mem_append_right _ h)))
  have hl := lv_entry ([.ref (a0 0), .ref (a1 0), .int x2, .int x3, .int x4, .int x5]) (n := 10) (Nat.le_of_ble_eq_true rfl)
  rw [lg_entry_eq]
  generalize (lg_sl ([.ref (a0 0), .ref (a1 0), .int x2, .int x3, .int x4, .int x5]) ++ List.replicate (10 - (lg_sl ([.ref (a0 0), .ref (a1 0), .int x2, .int x3, .int x4, .int x5])).length) Slot.unset).toArray = ls at hl ⊢
  have hl : lv_has ls 10 [(0, .ref (a0 0)), (1, .ref (a1 0)), (2, .int x2), (3, .int x3), (4, .int x4), (5, .int x5)] := hl
  unfold fX3_costOn at hf
  have J32 : ∀ (z32_0 : Int32), ∀ (ls : Array Slot), lv_has ls 10 [(0, .ref (a0 0)), (1, .ref (a1 0)), (2, .int x2), (3, .int x3), (4, .int x4), (5, .int x5)] → fX3_costOn_J32 N I0 M0 I1 M1 x2 x3 x4 x5 z32_0 = some R → W p l e (headSpec wsX3_costOn { frames := 4, cells := 0, slots := 0, locals := 115 }).room s m [.ref (a0 0), .ref (a1 0), .int x2, .int x3, .int x4, .int x5].toArray below meth c s.heap [] 0 0 (MQ below (vp_Si (fun r => r = R)) [.ref (a0 0), .ref (a1 0), .int x2, .int x3, .int x4, .int x5].toArray s 0 0 (fun _ => False)) (F0 m 32 ls [.int z32_0]) := by
    intro z32_0 ls hl hf
    unfold fX3_costOn_J32 at hf
    refine lv_istore (lv' := [(7, .int z32_0), (0, .ref (a0 0)), (1, .ref (a1 0)), (2, .int x2), (3, .int x3), (4, .int x4), (5, .int x5)]) hx hb dX3_costOn_32 hl (by decide) rfl (fun ls hl => ?_)
    refine lv_iconst (v := (0 : Int32)) hx hb dX3_costOn_34 (by decide) ?_
    refine lv_istore (lv' := [(8, .int (0 : Int32)), (7, .int z32_0), (0, .ref (a0 0)), (1, .ref (a1 0)), (2, .int x2), (3, .int x3), (4, .int x4), (5, .int x5)]) hx hb dX3_costOn_35 hl (by decide) rfl (fun ls hl => ?_)
    have L37 : ∀ (fu37 : Nat) (y37_7 : Int32) (y37_8 : Int32), ∀ (ls : Array Slot), lv_has ls 10 [(0, .ref (a0 0)), (1, .ref (a1 0)), (2, .int x2), (3, .int x3), (4, .int x4), (5, .int x5), (7, .int y37_7), (8, .int y37_8)] → fX3_costOn_L37 N I0 M0 I1 M1 x2 x3 x4 x5 fu37 y37_7 y37_8 = some R → W p l e (headSpec wsX3_costOn { frames := 4, cells := 0, slots := 0, locals := 115 }).room s m [.ref (a0 0), .ref (a1 0), .int x2, .int x3, .int x4, .int x5].toArray below meth c s.heap [] 0 0 (MQ below (vp_Si (fun r => r = R)) [.ref (a0 0), .ref (a1 0), .int x2, .int x3, .int x4, .int x5].toArray s 0 0 (fun _ => False)) (F0 m 37 ls []) := by
      intro fu37
      induction fu37 with
      | zero =>
        intro y37_7 y37_8 ls hl hf
        exact absurd hf (by rw [fX3_costOn_L37.eq_1]; exact fun h => nomatch h)
      | succ fu37 ih37 =>
        intro y37_7 y37_8 ls hl hf
        rw [fX3_costOn_L37.eq_2] at hf
        refine lv_iload hx hb dX3_costOn_37 (lv_at hl 7 rfl) ?_
        refine lv_bipush (v := (7 : Int32)) hx hb dX3_costOn_39 (by decide) ?_
        refine lv_icmp_ge (tgt := 95) hx hb dX3_costOn_41 (by decide) (fun hc => ?_) (fun hc => ?_)
        · replace hf := wb_t hc hf
          refine lv_iload hx hb dX3_costOn_95 (lv_at hl 6 rfl) ?_
          exact W.iret (v := y37_7) hx hb hr (fun t ht hW => ⟨_, rfl, Option.some.inj hf, ht⟩) (fun _ h => nomatch h) dX3_costOn_97
        · replace hf := wb_f hc hf
          refine lv_iload hx hb dX3_costOn_44 (lv_at hl 6 rfl) ?_
          refine lv_iload hx hb dX3_costOn_46 (lv_at hl 5 rfl) ?_
          refine lv_icmp_gt (tgt := 95) hx hb dX3_costOn_48 (by decide) (fun hc => ?_) (fun hc => ?_)
          · replace hf := wb_t hc hf
            refine lv_iload hx hb dX3_costOn_95 (lv_at hl 6 rfl) ?_
            exact W.iret (v := y37_7) hx hb hr (fun t ht hW => ⟨_, rfl, Option.some.inj hf, ht⟩) (fun _ h => nomatch h) dX3_costOn_97
          · replace hf := wb_f hc hf
            refine lv_aload_n hx hb dX3_costOn_51 rfl (lv_at hl 1 rfl) ?_
            refine lv_iload_n hx hb dX3_costOn_52 rfl (lv_at hl 2 rfl) ?_
            refine lv_iload hx hb dX3_costOn_53 (lv_at hl 7 rfl) ?_
            obtain ⟨r1, hr1, hf⟩ := wb_b hf
            refine vp_callSi (W.runV (As := [.int x2, .int y37_8]) (rest := []) ⟨hx, hb, hml, hown, hts⟩ (cn_X1_degreeOf l D cB cI cZ N a1 I1 M1 x2 y37_8 r1 hr1) (cwV 2 hts gX3_costOn_X1_degreeOf rfl rfl rfl cdX1_degreeOf ⟨Nat.le_of_ble_eq_true rfl, Nat.le_of_ble_eq_true rfl⟩) (wb_preV (hP.sub (ws' := (wWX1 cB cI cZ a1 I1 M1)) [9, 10, 11] rfl) hK (wr_1 hK hP (q0 := 9) rfl)) rfl rfl hl.1 rfl (lv_room (Nat.le_of_ble_eq_true rfl)) dX3_costOn_55 ⟨Nat.le_of_ble_eq_true rfl, Nat.le_of_ble_eq_true rfl⟩) (fun r9 e9 => ?_)
            rw [e9]
            refine lv_istore (lv' := [(9, .int r1), (0, .ref (a0 0)), (1, .ref (a1 0)), (2, .int x2), (3, .int x3), (4, .int x4), (5, .int x5), (7, .int y37_7), (8, .int y37_8)]) hx hb dX3_costOn_58 hl (by decide) rfl (fun ls hl => ?_)
            refine lv_iload hx hb dX3_costOn_60 (lv_at hl 0 rfl) ?_
            refine lv_iconst (v := (-1 : Int32)) hx hb dX3_costOn_62 (by decide) ?_
            refine lv_icmp_eq (tgt := 89) hx hb dX3_costOn_63 (by decide) (fun hc => ?_) (fun hc => ?_)
            · replace hf := wb_t hc hf
              obtain ⟨v2, ev2, hf⟩ := wb_v hf
              refine lv_iinc (v := v2) (lv' := [(8, .int v2), (9, .int r1), (0, .ref (a0 0)), (1, .ref (a1 0)), (2, .int x2), (3, .int x3), (4, .int x4), (5, .int x5), (7, .int y37_7)]) hx hb dX3_costOn_89 hl (k := 8) rfl (by rw [ev2]; rfl) (by decide) rfl (fun ls hl => ?_)
              refine lv_goto (tgt := 37) hx hb dX3_costOn_92 (by decide) ?_
              exact ih37 y37_7 v2 ls (lv_sub hl [2, 3, 4, 5, 6, 7, 8, 0] rfl) hf
            · replace hf := wb_f hc hf
              refine lv_iload hx hb dX3_costOn_66 (lv_at hl 7 rfl) ?_
              refine lv_aload_n hx hb dX3_costOn_68 rfl (lv_at hl 1 rfl) ?_
              refine va_get (D := D) (ci := 5) (v := .ref (a0 7)) (C := RX5) (T := TX5) (N := 6) hx hb hts hinX5 hown hK hP 0 rfl rfl 5 (by decide) (hts (.fieldLink RX3 21 "WheelBook$House" "hands" "LWheelBook$Hands;") (List.mem_of_getElem? (i := 1) rfl)) (fun _ h9 => h9) rfl dX3_costOn_69 ?_
              refine lv_iload hx hb dX3_costOn_72 (lv_at hl 0 rfl) ?_
              refine lv_aload_n hx hb dX3_costOn_74 rfl (lv_at hl 1 rfl) ?_
              refine lv_iload_n hx hb dX3_costOn_75 rfl (lv_at hl 4 rfl) ?_
              refine lv_iload hx hb dX3_costOn_76 (lv_at hl 8 rfl) ?_
              refine lv_iload hx hb dX3_costOn_78 (lv_at hl 5 rfl) ?_
              obtain ⟨r3, hr3, hf⟩ := wb_b hf
              refine vp_callSi (W.runV (As := [.int x3, .int y37_8, .int x4]) (rest := [.int r1, .ref (a0 7), .int y37_7]) ⟨hx, hb, hml, hown, hts⟩ (cn_X5_degreeOn l D cB cI cZ N a0 I0 M0 x3 y37_8 x4 r3 hr3) (cwV 3 hts gX3_costOn_X5_degreeOn rfl rfl rfl cdX5_degreeOn ⟨Nat.le_of_ble_eq_true rfl, Nat.le_of_ble_eq_true rfl⟩) (wb_preV (hP.sub (ws' := (wWX5 cB cI cZ a0 I0 M0)) [0, 1, 2, 3, 4, 5, 6, 7, 8] rfl) hK (wr_5 hK hP (q0 := 0) rfl)) rfl rfl hl.1 rfl (lv_room (Nat.le_of_ble_eq_true rfl)) dX3_costOn_80 ⟨Nat.le_of_ble_eq_true rfl, Nat.le_of_ble_eq_true rfl⟩) (fun r9 e9 => ?_)
              rw [e9]
              obtain ⟨r4, hr4, hf⟩ := wb_b hf
              refine vp_callSi (W.runV (As := [.int r1, .int r3]) (rest := [.int y37_7]) ⟨hx, hb, hml, hown, hts⟩ (cn_X4_costBeside l D cB cI cZ N (wb_sh a0 7) (wb_sh I0 1) (wb_sh M0 5) r1 r3 r4 hr4) (cwV 2 hts gX3_costOn_X4_costBeside rfl rfl rfl cdX4_costBeside ⟨Nat.le_of_ble_eq_true rfl, Nat.le_of_ble_eq_true rfl⟩) (wb_preV (hP.sub (ws' := (wWX4 cB cI cZ (wb_sh a0 7) (wb_sh I0 1) (wb_sh M0 5))) [7, 8] rfl) hK (wr_4 hK hP (q0 := 7) rfl)) rfl rfl hl.1 rfl (lv_room (Nat.le_of_ble_eq_true rfl)) dX3_costOn_83 ⟨Nat.le_of_ble_eq_true rfl, Nat.le_of_ble_eq_true rfl⟩) (fun r9 e9 => ?_)
              rw [e9]
              refine lv_iadd hx hb dX3_costOn_86 ?_
              obtain ⟨v5, ev5, hf⟩ := wb_v hf
              refine wb_topi ev5 ?_
              refine lv_istore (lv' := [(7, .int v5), (9, .int r1), (0, .ref (a0 0)), (1, .ref (a1 0)), (2, .int x2), (3, .int x3), (4, .int x4), (5, .int x5), (8, .int y37_8)]) hx hb dX3_costOn_87 hl (by decide) rfl (fun ls hl => ?_)
              obtain ⟨v6, ev6, hf⟩ := wb_v hf
              refine lv_iinc (v := v6) (lv' := [(8, .int v6), (7, .int v5), (9, .int r1), (0, .ref (a0 0)), (1, .ref (a1 0)), (2, .int x2), (3, .int x3), (4, .int x4), (5, .int x5)]) hx hb dX3_costOn_89 hl (k := 8) rfl (by rw [ev6]; rfl) (by decide) rfl (fun ls hl => ?_)
              refine lv_goto (tgt := 37) hx hb dX3_costOn_92 (by decide) ?_
              exact ih37 v5 v6 ls (lv_sub hl [3, 4, 5, 6, 7, 8, 1, 0] rfl) hf
    exact L37 N z32_0 (0 : Int32) ls (lv_sub hl [2, 3, 4, 5, 6, 7, 1, 0] rfl) hf
  have J31 : ∀ (ls : Array Slot), lv_has ls 10 [(0, .ref (a0 0)), (1, .ref (a1 0)), (2, .int x2), (3, .int x3), (4, .int x4), (5, .int x5)] → fX3_costOn_J31 N I0 M0 I1 M1 x2 x3 x4 x5 = some R → W p l e (headSpec wsX3_costOn { frames := 4, cells := 0, slots := 0, locals := 115 }).room s m [.ref (a0 0), .ref (a1 0), .int x2, .int x3, .int x4, .int x5].toArray below meth c s.heap [] 0 0 (MQ below (vp_Si (fun r => r = R)) [.ref (a0 0), .ref (a1 0), .int x2, .int x3, .int x4, .int x5].toArray s 0 0 (fun _ => False)) (F0 m 31 ls []) := by
    intro ls hl hf
    unfold fX3_costOn_J31 at hf
    refine lv_iconst (v := (0 : Int32)) hx hb dX3_costOn_31 (by decide) ?_
    exact J32 (0 : Int32) ls (lv_sub hl [0, 1, 2, 3, 4, 5] rfl) hf
  refine lv_aload_n hx hb dX3_costOn_0 rfl (lv_at hl 1 rfl) ?_
  refine lv_iload_n hx hb dX3_costOn_1 rfl (lv_at hl 2 rfl) ?_
  refine lv_bipush (v := (21 : Int32)) hx hb dX3_costOn_2 (by decide) ?_
  obtain ⟨r7, hr7, hf⟩ := wb_b hf
  refine vp_callSi (W.runV (As := [.int x2, .int (21 : Int32)]) (rest := []) ⟨hx, hb, hml, hown, hts⟩ (cn_X1_degreeOf l D cB cI cZ N a1 I1 M1 x2 (21 : Int32) r7 hr7) (cwV 2 hts gX3_costOn_X1_degreeOf rfl rfl rfl cdX1_degreeOf ⟨Nat.le_of_ble_eq_true rfl, Nat.le_of_ble_eq_true rfl⟩) (wb_preV (hP.sub (ws' := (wWX1 cB cI cZ a1 I1 M1)) [9, 10, 11] rfl) hK (wr_1 hK hP (q0 := 9) rfl)) rfl rfl hl.1 rfl (lv_room (Nat.le_of_ble_eq_true rfl)) dX3_costOn_4 ⟨Nat.le_of_ble_eq_true rfl, Nat.le_of_ble_eq_true rfl⟩) (fun r9 e9 => ?_)
  rw [e9]
  refine lv_istore (lv' := [(6, .int r7), (0, .ref (a0 0)), (1, .ref (a1 0)), (2, .int x2), (3, .int x3), (4, .int x4), (5, .int x5)]) hx hb dX3_costOn_7 hl (by decide) rfl (fun ls hl => ?_)
  refine lv_iload hx hb dX3_costOn_9 (lv_at hl 0 rfl) ?_
  refine lv_iconst (v := (-1 : Int32)) hx hb dX3_costOn_11 (by decide) ?_
  refine lv_icmp_eq (tgt := 31) hx hb dX3_costOn_12 (by decide) (fun hc => ?_) (fun hc => ?_)
  · replace hf := wb_t hc hf
    exact J31 ls (lv_sub hl [1, 2, 3, 4, 5, 6] rfl) hf
  · replace hf := wb_f hc hf
    refine lv_iload hx hb dX3_costOn_15 (lv_at hl 0 rfl) ?_
    refine lv_iload hx hb dX3_costOn_17 (lv_at hl 5 rfl) ?_
    refine lv_sipush (v := (365 : Int32)) hx hb dX3_costOn_19 (by decide) ?_
    refine lv_irem hx hb dX3_costOn_22 (by decide) ?_
    refine lv_icmp_eq (tgt := 31) hx hb dX3_costOn_23 (by decide) (fun hc => ?_) (fun hc => ?_)
    · replace hf := wb_t hc hf
      exact J31 ls (lv_sub hl [1, 2, 3, 4, 5, 6] rfl) hf
    · replace hf := wb_f hc hf
      refine lv_bipush (v := (30 : Int32)) hx hb dX3_costOn_26 (by decide) ?_
      refine lv_goto (tgt := 32) hx hb dX3_costOn_28 (by decide) ?_
      exact J32 (30 : Int32) ls (lv_sub hl [1, 2, 3, 4, 5, 6] rfl) hf

set_option maxHeartbeats 4000000 in
set_option maxRecDepth 100000 in
theorem cn_X3_setsAt (l : Launch) (D : va_G) (cB cI cZ : ClassId) (N : Nat) (a0 : Nat → Nat) (I0 : Nat → Int32) (M0 : Nat → Nat → Int32) (x1 : Int32) (x2 : Int32) (x3 : Int32) (R : Int32) (hf : fX3_setsAt N I0 M0 x1 x2 x3 = some R) : Met l yX3_setsAt wsX3_setsAt ({ frames := 4, cells := 0, slots := 0, locals := 115 }) (va_Pc [.ref (a0 0), .int x1, .int x2, .int x3] (wb_pre D [(cB, .byte), (cI, .int), (cZ, .boolean)] (wWX5 cB cI cZ a0 I0 M0))) (vp_Si (fun r => r = R)) 0 0 (fun _ => False) := by
  refine Met.ofW (cc := cX3_setsAt) (maxL := 6) (ret := (some .int)) pn_X3 rfl ?_
  intro p e s m args below meth c s₁ B hml hv
  obtain ⟨rfl, hP, hK⟩ := hv
  have hx := B.exec
  have hb := B.bytes
  have hr := B.returns
  have hts := atoms_spec (ws := wsX3_setsAt) B.pre
  have hown : s.vm.findClass RX3 = some m.cls := (findClass_of_methodNamed B.named :)
  have hlocks := B.notSynchronized
  have hl := lv_entry ([.ref (a0 0), .int x1, .int x2, .int x3]) (n := 6) (Nat.le_of_ble_eq_true rfl)
  rw [lg_entry_eq]
  generalize (lg_sl ([.ref (a0 0), .int x1, .int x2, .int x3]) ++ List.replicate (6 - (lg_sl ([.ref (a0 0), .int x1, .int x2, .int x3])).length) Slot.unset).toArray = ls at hl ⊢
  have hl : lv_has ls 6 [(0, .ref (a0 0)), (1, .int x1), (2, .int x2), (3, .int x3)] := hl
  unfold fX3_setsAt at hf
  refine lv_iconst (v := (0 : Int32)) hx hb dX3_setsAt_0 (by decide) ?_
  refine lv_istore (lv' := [(4, .int (0 : Int32)), (0, .ref (a0 0)), (1, .int x1), (2, .int x2), (3, .int x3)]) hx hb dX3_setsAt_1 hl (by decide) rfl (fun ls hl => ?_)
  refine lv_iconst (v := (0 : Int32)) hx hb dX3_setsAt_3 (by decide) ?_
  refine lv_istore (lv' := [(5, .int (0 : Int32)), (4, .int (0 : Int32)), (0, .ref (a0 0)), (1, .int x1), (2, .int x2), (3, .int x3)]) hx hb dX3_setsAt_4 hl (by decide) rfl (fun ls hl => ?_)
  have L6 : ∀ (fu6 : Nat) (y6_4 : Int32) (y6_5 : Int32), ∀ (ls : Array Slot), lv_has ls 6 [(0, .ref (a0 0)), (1, .int x1), (2, .int x2), (3, .int x3), (4, .int y6_4), (5, .int y6_5)] → fX3_setsAt_L6 N I0 M0 x1 x2 x3 fu6 y6_4 y6_5 = some R → W p l e (headSpec wsX3_setsAt { frames := 4, cells := 0, slots := 0, locals := 115 }).room s m [.ref (a0 0), .int x1, .int x2, .int x3].toArray below meth c s.heap [] 0 0 (MQ below (vp_Si (fun r => r = R)) [.ref (a0 0), .int x1, .int x2, .int x3].toArray s 0 0 (fun _ => False)) (F0 m 6 ls []) := by
    intro fu6
    induction fu6 with
    | zero =>
      intro y6_4 y6_5 ls hl hf
      exact absurd hf (by rw [fX3_setsAt_L6.eq_1]; exact fun h => nomatch h)
    | succ fu6 ih6 =>
      intro y6_4 y6_5 ls hl hf
      rw [fX3_setsAt_L6.eq_2] at hf
      refine lv_iload hx hb dX3_setsAt_6 (lv_at hl 5 rfl) ?_
      refine lv_iconst (v := (4 : Int32)) hx hb dX3_setsAt_8 (by decide) ?_
      refine lv_icmp_ge (tgt := 39) hx hb dX3_setsAt_9 (by decide) (fun hc => ?_) (fun hc => ?_)
      · replace hf := wb_t hc hf
        refine lv_iload hx hb dX3_setsAt_39 (lv_at hl 4 rfl) ?_
        exact W.iret (v := y6_4) hx hb hr (fun t ht hW => ⟨_, rfl, Option.some.inj hf, ht⟩) (fun _ h => nomatch h) dX3_setsAt_41
      · replace hf := wb_f hc hf
        refine lv_aload_n hx hb dX3_setsAt_12 rfl (lv_at hl 0 rfl) ?_
        refine lv_iload hx hb dX3_setsAt_13 (lv_at hl 5 rfl) ?_
        refine lv_iload_n hx hb dX3_setsAt_15 rfl (lv_at hl 2 rfl) ?_
        refine lv_iload_n hx hb dX3_setsAt_16 rfl (lv_at hl 3 rfl) ?_
        obtain ⟨r1, hr1, hf⟩ := wb_b hf
        refine vp_callSi (W.runV (As := [.int y6_5, .int x2, .int x3]) (rest := []) ⟨hx, hb, hml, hown, hts⟩ (cn_X5_degreeOn l D cB cI cZ N a0 I0 M0 y6_5 x2 x3 r1 hr1) (cwV 3 hts gX3_setsAt_X5_degreeOn rfl rfl rfl cdX5_degreeOn ⟨Nat.le_of_ble_eq_true rfl, Nat.le_of_ble_eq_true rfl⟩) (wb_preV hP hK (wr_5 hK hP (q0 := 0) rfl)) rfl rfl hl.1 rfl (lv_room (Nat.le_of_ble_eq_true rfl)) dX3_setsAt_17 ⟨Nat.le_of_ble_eq_true rfl, Nat.le_of_ble_eq_true rfl⟩) (fun r9 e9 => ?_)
        rw [e9]
        refine lv_iload_n hx hb dX3_setsAt_20 rfl (lv_at hl 1 rfl) ?_
        refine lv_icmp_ne (tgt := 33) hx hb dX3_setsAt_21 (by decide) (fun hc => ?_) (fun hc => ?_)
        · replace hf := wb_f hc hf
          obtain ⟨v2, ev2, hf⟩ := wb_v hf
          refine lv_iinc (v := v2) (lv' := [(5, .int v2), (0, .ref (a0 0)), (1, .int x1), (2, .int x2), (3, .int x3), (4, .int y6_4)]) hx hb dX3_setsAt_33 hl (k := 5) rfl (by rw [ev2]; rfl) (by decide) rfl (fun ls hl => ?_)
          refine lv_goto (tgt := 6) hx hb dX3_setsAt_36 (by decide) ?_
          exact ih6 y6_4 v2 ls (lv_sub hl [1, 2, 3, 4, 5, 0] rfl) hf
        · replace hf := wb_t hc hf
          refine lv_iload hx hb dX3_setsAt_24 (lv_at hl 4 rfl) ?_
          refine lv_iconst (v := (1 : Int32)) hx hb dX3_setsAt_26 (by decide) ?_
          refine lv_iload hx hb dX3_setsAt_27 (lv_at hl 5 rfl) ?_
          refine lv_ishl hx hb dX3_setsAt_29 ?_
          refine lv_ior hx hb dX3_setsAt_30 ?_
          obtain ⟨v3, ev3, hf⟩ := wb_v hf
          refine wb_topi ev3 ?_
          refine lv_istore (lv' := [(4, .int v3), (0, .ref (a0 0)), (1, .int x1), (2, .int x2), (3, .int x3), (5, .int y6_5)]) hx hb dX3_setsAt_31 hl (by decide) rfl (fun ls hl => ?_)
          obtain ⟨v4, ev4, hf⟩ := wb_v hf
          refine lv_iinc (v := v4) (lv' := [(5, .int v4), (4, .int v3), (0, .ref (a0 0)), (1, .int x1), (2, .int x2), (3, .int x3)]) hx hb dX3_setsAt_33 hl (k := 5) rfl (by rw [ev4]; rfl) (by decide) rfl (fun ls hl => ?_)
          refine lv_goto (tgt := 6) hx hb dX3_setsAt_36 (by decide) ?_
          exact ih6 v3 v4 ls (lv_sub hl [2, 3, 4, 5, 1, 0] rfl) hf
  exact L6 N (0 : Int32) (0 : Int32) ls (lv_sub hl [2, 3, 4, 5, 1, 0] rfl) hf

set_option maxHeartbeats 4000000 in
set_option maxRecDepth 100000 in
theorem cn_X3_isMixed (l : Launch) (D : va_G) (cB cI cZ : ClassId) (N : Nat) (a0 : Nat → Nat) (I0 : Nat → Int32) (M0 : Nat → Nat → Int32) (a1 : Nat → Nat) (I1 : Nat → Int32) (M1 : Nat → Nat → Int32) (x2 : Int32) (x3 : Int32) (R : Int32) (hf : fX3_isMixed N I0 M0 I1 M1 x2 x3 = some R) : Met l yX3_isMixed wsX3_isMixed ({ frames := 5, cells := 0, slots := 0, locals := 140 }) (va_Pc [.ref (a0 0), .ref (a1 0), .int x2, .int x3] (wb_pre D [(cB, .byte), (cI, .int), (cZ, .boolean)] ((wWX5 cB cI cZ a0 I0 M0) ++ (wWX1 cB cI cZ a1 I1 M1)))) (vp_Si (fun r => r = R)) 0 0 (fun _ => False) := by
  refine Met.ofW (cc := cX3_isMixed) (maxL := 8) (ret := (some .boolean)) pn_X3 rfl ?_
  intro p e s m args below meth c s₁ B hml hv
  obtain ⟨rfl, hP, hK⟩ := hv
  have hx := B.exec
  have hb := B.bytes
  have hr := B.returns
  have hts := atoms_spec (ws := wsX3_isMixed) B.pre
  have hown : s.vm.findClass RX3 = some m.cls := (findClass_of_methodNamed B.named :)
  have hlocks := B.notSynchronized
  have hl := lv_entry ([.ref (a0 0), .ref (a1 0), .int x2, .int x3]) (n := 8) (Nat.le_of_ble_eq_true rfl)
  rw [lg_entry_eq]
  generalize (lg_sl ([.ref (a0 0), .ref (a1 0), .int x2, .int x3]) ++ List.replicate (8 - (lg_sl ([.ref (a0 0), .ref (a1 0), .int x2, .int x3])).length) Slot.unset).toArray = ls at hl ⊢
  have hl : lv_has ls 8 [(0, .ref (a0 0)), (1, .ref (a1 0)), (2, .int x2), (3, .int x3)] := hl
  unfold fX3_isMixed at hf
  refine lv_bipush (v := (15 : Int32)) hx hb dX3_isMixed_0 (by decide) ?_
  refine lv_istore (lv' := [(4, .int (15 : Int32)), (0, .ref (a0 0)), (1, .ref (a1 0)), (2, .int x2), (3, .int x3)]) hx hb dX3_isMixed_2 hl (by decide) rfl (fun ls hl => ?_)
  refine lv_iconst (v := (0 : Int32)) hx hb dX3_isMixed_4 (by decide) ?_
  refine lv_istore (lv' := [(5, .int (0 : Int32)), (4, .int (15 : Int32)), (0, .ref (a0 0)), (1, .ref (a1 0)), (2, .int x2), (3, .int x3)]) hx hb dX3_isMixed_5 hl (by decide) rfl (fun ls hl => ?_)
  have L7 : ∀ (fu7 : Nat) (y7_4 : Int32) (y7_5 : Int32), ∀ (ls : Array Slot), lv_has ls 8 [(0, .ref (a0 0)), (1, .ref (a1 0)), (2, .int x2), (3, .int x3), (4, .int y7_4), (5, .int y7_5)] → fX3_isMixed_L7 N I0 M0 I1 M1 x2 x3 fu7 y7_4 y7_5 = some R → W p l e (headSpec wsX3_isMixed { frames := 5, cells := 0, slots := 0, locals := 140 }).room s m [.ref (a0 0), .ref (a1 0), .int x2, .int x3].toArray below meth c s.heap [] 0 0 (MQ below (vp_Si (fun r => r = R)) [.ref (a0 0), .ref (a1 0), .int x2, .int x3].toArray s 0 0 (fun _ => False)) (F0 m 7 ls []) := by
    intro fu7
    induction fu7 with
    | zero =>
      intro y7_4 y7_5 ls hl hf
      exact absurd hf (by rw [fX3_isMixed_L7.eq_1]; exact fun h => nomatch h)
    | succ fu7 ih7 =>
      intro y7_4 y7_5 ls hl hf
      rw [fX3_isMixed_L7.eq_2] at hf
      refine lv_iload hx hb dX3_isMixed_7 (lv_at hl 5 rfl) ?_
      refine lv_bipush (v := (7 : Int32)) hx hb dX3_isMixed_9 (by decide) ?_
      refine lv_icmp_ge (tgt := 60) hx hb dX3_isMixed_11 (by decide) (fun hc => ?_) (fun hc => ?_)
      · replace hf := wb_t hc hf
        refine lv_iload hx hb dX3_isMixed_60 (lv_at hl 4 rfl) ?_
        refine lv_if_ne (tgt := 69) hx hb dX3_isMixed_62 (by decide) (fun hc => ?_) (fun hc => ?_)
        · replace hf := wb_f hc hf
          refine lv_iconst (v := (0 : Int32)) hx hb dX3_isMixed_69 (by decide) ?_
          exact W.zret (v := (0 : Int32)) hx hb hr (by decide) (fun t ht hW => ⟨_, rfl, Option.some.inj hf, ht⟩) (fun _ h => nomatch h) dX3_isMixed_70
        · replace hf := wb_t hc hf
          refine lv_iconst (v := (1 : Int32)) hx hb dX3_isMixed_65 (by decide) ?_
          refine lv_goto (tgt := 70) hx hb dX3_isMixed_66 (by decide) ?_
          exact W.zret (v := (1 : Int32)) hx hb hr (by decide) (fun t ht hW => ⟨_, rfl, Option.some.inj hf, ht⟩) (fun _ h => nomatch h) dX3_isMixed_70
      · replace hf := wb_f hc hf
        refine lv_aload_n hx hb dX3_isMixed_14 rfl (lv_at hl 1 rfl) ?_
        refine lv_iload_n hx hb dX3_isMixed_15 rfl (lv_at hl 2 rfl) ?_
        refine lv_iload hx hb dX3_isMixed_16 (lv_at hl 5 rfl) ?_
        obtain ⟨r1, hr1, hf⟩ := wb_b hf
        refine vp_callSi (W.runV (As := [.int x2, .int y7_5]) (rest := []) ⟨hx, hb, hml, hown, hts⟩ (cn_X1_degreeOf l D cB cI cZ N a1 I1 M1 x2 y7_5 r1 hr1) (cwV 2 hts gX3_isMixed_X1_degreeOf rfl rfl rfl cdX1_degreeOf ⟨Nat.le_of_ble_eq_true rfl, Nat.le_of_ble_eq_true rfl⟩) (wb_preV (hP.sub (ws' := (wWX1 cB cI cZ a1 I1 M1)) [9, 10, 11] rfl) hK (wr_1 hK hP (q0 := 9) rfl)) rfl rfl hl.1 rfl (lv_room (Nat.le_of_ble_eq_true rfl)) dX3_isMixed_18 ⟨Nat.le_of_ble_eq_true rfl, Nat.le_of_ble_eq_true rfl⟩) (fun r9 e9 => ?_)
        rw [e9]
        refine lv_istore (lv' := [(6, .int r1), (0, .ref (a0 0)), (1, .ref (a1 0)), (2, .int x2), (3, .int x3), (4, .int y7_4), (5, .int y7_5)]) hx hb dX3_isMixed_21 hl (by decide) rfl (fun ls hl => ?_)
        refine lv_iload hx hb dX3_isMixed_23 (lv_at hl 0 rfl) ?_
        refine lv_iconst (v := (-1 : Int32)) hx hb dX3_isMixed_25 (by decide) ?_
        refine lv_icmp_eq (tgt := 54) hx hb dX3_isMixed_26 (by decide) (fun hc => ?_) (fun hc => ?_)
        · replace hf := wb_t hc hf
          obtain ⟨v2, ev2, hf⟩ := wb_v hf
          refine lv_iinc (v := v2) (lv' := [(5, .int v2), (6, .int r1), (0, .ref (a0 0)), (1, .ref (a1 0)), (2, .int x2), (3, .int x3), (4, .int y7_4)]) hx hb dX3_isMixed_54 hl (k := 6) rfl (by rw [ev2]; rfl) (by decide) rfl (fun ls hl => ?_)
          refine lv_goto (tgt := 7) hx hb dX3_isMixed_57 (by decide) ?_
          exact ih7 y7_4 v2 ls (lv_sub hl [2, 3, 4, 5, 6, 0] rfl) hf
        · replace hf := wb_f hc hf
          refine lv_aload_n hx hb dX3_isMixed_29 rfl (lv_at hl 1 rfl) ?_
          refine lv_iload hx hb dX3_isMixed_30 (lv_at hl 0 rfl) ?_
          refine lv_iload hx hb dX3_isMixed_32 (lv_at hl 6 rfl) ?_
          refine lv_iload_n hx hb dX3_isMixed_34 rfl (lv_at hl 4 rfl) ?_
          obtain ⟨r3, hr3, hf⟩ := wb_b hf
          refine vp_callSi (W.runS (As := [.ref (a0 0), .int r1, .int y7_5, .int x3]) (rest := []) ⟨hx, hb, hml, hown, hts⟩ (cn_X3_setsAt l D cB cI cZ N a0 I0 M0 r1 y7_5 x3 r3 hr3) (va_cwS 4 hts gX3_isMixed_X3_setsAt rfl rfl rfl csX3_setsAt ⟨Nat.le_of_ble_eq_true rfl, Nat.le_of_ble_eq_true rfl⟩) (wb_preS (hP.sub (ws' := (wWX5 cB cI cZ a0 I0 M0)) [0, 1, 2, 3, 4, 5, 6, 7, 8] rfl) hK) rfl rfl hl.1 rfl (lv_room (Nat.le_of_ble_eq_true rfl)) dX3_isMixed_35 ⟨Nat.le_of_ble_eq_true rfl, Nat.le_of_ble_eq_true rfl⟩) (fun r9 e9 => ?_)
          rw [e9]
          refine lv_istore (lv' := [(7, .int r3), (6, .int r1), (0, .ref (a0 0)), (1, .ref (a1 0)), (2, .int x2), (3, .int x3), (4, .int y7_4), (5, .int y7_5)]) hx hb dX3_isMixed_38 hl (by decide) rfl (fun ls hl => ?_)
          refine lv_iload hx hb dX3_isMixed_40 (lv_at hl 0 rfl) ?_
          refine lv_if_ne (tgt := 47) hx hb dX3_isMixed_42 (by decide) (fun hc => ?_) (fun hc => ?_)
          · replace hf := wb_f hc hf
            refine lv_iload hx hb dX3_isMixed_47 (lv_at hl 6 rfl) ?_
            refine lv_iload hx hb dX3_isMixed_49 (lv_at hl 0 rfl) ?_
            refine lv_iand hx hb dX3_isMixed_51 ?_
            obtain ⟨v4, ev4, hf⟩ := wb_v hf
            refine wb_topi ev4 ?_
            refine lv_istore (lv' := [(4, .int v4), (7, .int r3), (6, .int r1), (0, .ref (a0 0)), (1, .ref (a1 0)), (2, .int x2), (3, .int x3), (5, .int y7_5)]) hx hb dX3_isMixed_52 hl (by decide) rfl (fun ls hl => ?_)
            obtain ⟨v5, ev5, hf⟩ := wb_v hf
            refine lv_iinc (v := v5) (lv' := [(5, .int v5), (4, .int v4), (7, .int r3), (6, .int r1), (0, .ref (a0 0)), (1, .ref (a1 0)), (2, .int x2), (3, .int x3)]) hx hb dX3_isMixed_54 hl (k := 7) rfl (by rw [ev5]; rfl) (by decide) rfl (fun ls hl => ?_)
            refine lv_goto (tgt := 7) hx hb dX3_isMixed_57 (by decide) ?_
            exact ih7 v4 v5 ls (lv_sub hl [4, 5, 6, 7, 1, 0] rfl) hf
          · replace hf := wb_t hc hf
            refine lv_iconst (v := (0 : Int32)) hx hb dX3_isMixed_45 (by decide) ?_
            exact W.zret (v := (0 : Int32)) hx hb hr (by decide) (fun t ht hW => ⟨_, rfl, Option.some.inj hf, ht⟩) (fun _ h => nomatch h) dX3_isMixed_46
  exact L7 N (15 : Int32) (0 : Int32) ls (lv_sub hl [2, 3, 4, 5, 1, 0] rfl) hf

set_option maxHeartbeats 4000000 in
set_option maxRecDepth 100000 in
theorem cn_X3_setSharers (l : Launch) (D : va_G) (cB cI cZ : ClassId) (N : Nat) (a0 : Nat → Nat) (I0 : Nat → Int32) (M0 : Nat → Nat → Int32) (a1 : Nat → Nat) (I1 : Nat → Int32) (M1 : Nat → Nat → Int32) (a2 : Nat → Nat) (I2 : Nat → Int32) (M2 : Nat → Nat → Int32) (x3 : Int32) (x4 : Int32) (sz : Nat) (R : (Nat → Int32) × (Nat → Nat → Int32)) (hf : fX3_setSharers N I0 M0 I1 M1 I2 M2 x3 x4 = some R) : Met l yX3_setSharers wsX3_setSharers ({ frames := 5, cells := 0, slots := 0, locals := 140 }) (va_Pc [.ref (a0 0), .ref (a1 0), .ref (a2 0), .int x3, .int x4] (wb_preD D [(cB, .byte), (cI, .int), (cZ, .boolean)] ((wWX3 cB cI cZ a0 I0 M0) ++ ((wWX5 cB cI cZ a1 I1 M1) ++ (wWX1 cB cI cZ a2 I2 M2))) sz)) (va_Qv (fun _ : Unit => True) (fun _ t => wb_post D [(cB, .byte), (cI, .int), (cZ, .boolean)] (va_A ((wWX3 cB cI cZ a0 I0 M0) ++ ((wWX5 cB cI cZ a1 I1 M1) ++ (wWX1 cB cI cZ a2 I2 M2))) sz) ((wWX3 cB cI cZ a0 R.1 R.2) ++ ((wWX5 cB cI cZ a1 I1 M1) ++ (wWX1 cB cI cZ a2 I2 M2))) t) (va_A ((wWX3 cB cI cZ a0 I0 M0) ++ ((wWX5 cB cI cZ a1 I1 M1) ++ (wWX1 cB cI cZ a2 I2 M2))) sz)) 0 0 (va_A ((wWX3 cB cI cZ a0 I0 M0) ++ ((wWX5 cB cI cZ a1 I1 M1) ++ (wWX1 cB cI cZ a2 I2 M2))) sz) := by
  refine Met.ofW (cc := cX3_setSharers) (maxL := 8) (ret := none) pn_X3 rfl ?_
  intro p e s m args below meth c s₁ B hml hv
  obtain ⟨rfl, hsz, hP, hK, hD0⟩ := hv
  have hx := B.exec
  have hb := B.bytes
  have hr := B.returns
  have hts := atoms_spec (ws := wsX3_setSharers) B.pre
  have hown : s.vm.findClass RX3 = some m.cls := (findClass_of_methodNamed B.named :)
  have hlocks := B.notSynchronized
  have hinX3 : ∀ w ∈ u_ws RX3 TX3 1, w ∈ wsX3_setSharers := fun w h => List.mem_cons_of_mem _ (List.mem_append_left _ (List.mem_append_left _ (List.mem_append_right _ h)))
  subst hsz
  have hD := hD0.self (sz := s.heap.size)
  generalize hAe : va_A ((wWX3 cB cI cZ a0 I0 M0) ++ ((wWX5 cB cI cZ a1 I1 M1) ++ (wWX1 cB cI cZ a2 I2 M2))) s.heap.size = A at hD ⊢
  have hA : ∀ q : Nat, s.heap.size ≤ q → A q := fun q h => by rw [← hAe]; exact Or.inr h
  have hS : va_S A s.heap s.heap [] := va_S.rf
  have hl := lv_entry ([.ref (a0 0), .ref (a1 0), .ref (a2 0), .int x3, .int x4]) (n := 8) (Nat.le_of_ble_eq_true rfl)
  rw [lg_entry_eq]
  generalize (lg_sl ([.ref (a0 0), .ref (a1 0), .ref (a2 0), .int x3, .int x4]) ++ List.replicate (8 - (lg_sl ([.ref (a0 0), .ref (a1 0), .ref (a2 0), .int x3, .int x4])).length) Slot.unset).toArray = ls at hl ⊢
  have hl : lv_has ls 8 [(0, .ref (a0 0)), (1, .ref (a1 0)), (2, .ref (a2 0)), (3, .int x3), (4, .int x4)] := hl
  unfold fX3_setSharers at hf
  obtain ⟨H, hHe⟩ : ∃ H : Heap, H = s.heap := ⟨_, rfl⟩
  obtain ⟨locs, hle⟩ : ∃ locs : List Loc, locs = [] := ⟨_, rfl⟩
  refine wb_start (H := H) (locs := locs) hHe hle ?_
  rw [← hHe] at hP
  have hS : va_S A s.heap H locs := by rw [hHe, hle]; exact va_S.rf
  refine lv_iconst (v := (0 : Int32)) hx hb dX3_setSharers_0 (by decide) ?_
  refine lv_istore (lv' := [(5, .int (0 : Int32)), (0, .ref (a0 0)), (1, .ref (a1 0)), (2, .ref (a2 0)), (3, .int x3), (4, .int x4)]) hx hb dX3_setSharers_1 hl (by decide) rfl (fun ls hl => ?_)
  have L3 : ∀ (fu3 : Nat) (I0_l3 : Nat → Int32) (M0_l3 : Nat → Nat → Int32) (y3_5 : Int32) (H : Heap) (locs : List Loc), va_P D vwCl ((wWX3 cB cI cZ a0 I0_l3 M0_l3) ++ ((wWX5 cB cI cZ a1 I1 M1) ++ (wWX1 cB cI cZ a2 I2 M2))) H → va_D A ((wWX3 cB cI cZ a0 I0_l3 M0_l3) ++ ((wWX5 cB cI cZ a1 I1 M1) ++ (wWX1 cB cI cZ a2 I2 M2))) → va_S A s.heap H locs → ∀ (ls : Array Slot), lv_has ls 8 [(0, .ref (a0 0)), (1, .ref (a1 0)), (2, .ref (a2 0)), (3, .int x3), (4, .int x4), (5, .int y3_5)] → fX3_setSharers_L3 N I1 M1 I2 M2 x3 x4 fu3 I0_l3 M0_l3 y3_5 = some R → W p l e (headSpec wsX3_setSharers { frames := 5, cells := 0, slots := 0, locals := 140 }).room s m [.ref (a0 0), .ref (a1 0), .ref (a2 0), .int x3, .int x4].toArray below meth c H locs 0 0 (MQ below (va_Qv (fun _ : Unit => True) (fun _ t => wb_post D [(cB, .byte), (cI, .int), (cZ, .boolean)] A ((wWX3 cB cI cZ a0 R.1 R.2) ++ ((wWX5 cB cI cZ a1 I1 M1) ++ (wWX1 cB cI cZ a2 I2 M2))) t) A) [.ref (a0 0), .ref (a1 0), .ref (a2 0), .int x3, .int x4].toArray s 0 0 A) (F0 m 3 ls []) := by
    intro fu3
    induction fu3 with
    | zero =>
      intro I0_l3 M0_l3 y3_5 H locs hP hD hS ls hl hf
      exact absurd hf (by rw [fX3_setSharers_L3.eq_1]; exact fun h => nomatch h)
    | succ fu3 ih3 =>
      have J39 : ∀ (I0_j39 : Nat → Int32) (M0_j39 : Nat → Nat → Int32) (y39_5 : Int32) (z39_0 : Int32) (H : Heap) (locs : List Loc), va_P D vwCl ((wWX3 cB cI cZ a0 I0_j39 M0_j39) ++ ((wWX5 cB cI cZ a1 I1 M1) ++ (wWX1 cB cI cZ a2 I2 M2))) H → va_D A ((wWX3 cB cI cZ a0 I0_j39 M0_j39) ++ ((wWX5 cB cI cZ a1 I1 M1) ++ (wWX1 cB cI cZ a2 I2 M2))) → va_S A s.heap H locs → ∀ (ls : Array Slot), lv_has ls 8 [(0, .ref (a0 0)), (1, .ref (a1 0)), (2, .ref (a2 0)), (3, .int x3), (4, .int x4), (5, .int y39_5)] → fX3_setSharers_J39 N I1 M1 I2 M2 x3 x4 (fX3_setSharers_L3 N I1 M1 I2 M2 x3 x4 fu3) I0_j39 M0_j39 y39_5 z39_0 = some R → W p l e (headSpec wsX3_setSharers { frames := 5, cells := 0, slots := 0, locals := 140 }).room s m [.ref (a0 0), .ref (a1 0), .ref (a2 0), .int x3, .int x4].toArray below meth c H locs 0 0 (MQ below (va_Qv (fun _ : Unit => True) (fun _ t => wb_post D [(cB, .byte), (cI, .int), (cZ, .boolean)] A ((wWX3 cB cI cZ a0 R.1 R.2) ++ ((wWX5 cB cI cZ a1 I1 M1) ++ (wWX1 cB cI cZ a2 I2 M2))) t) A) [.ref (a0 0), .ref (a1 0), .ref (a2 0), .int x3, .int x4].toArray s 0 0 A) (F0 m 39 ls [.int z39_0]) := by
        intro I0_j39 M0_j39 y39_5 z39_0 H locs hP hD hS ls hl hf
        unfold fX3_setSharers_J39 at hf
        refine lv_istore (lv' := [(7, .int z39_0), (0, .ref (a0 0)), (1, .ref (a1 0)), (2, .ref (a2 0)), (3, .int x3), (4, .int x4), (5, .int y39_5)]) hx hb dX3_setSharers_39 hl (by decide) rfl (fun ls hl => ?_)
        refine lv_aload_n hx hb dX3_setSharers_41 rfl (lv_at hl 1 rfl) ?_
        refine va_get (D := D) (ci := 3) (v := .ref (a0 1)) (C := RX3) (T := TX3) (N := 1) hx hb hts hinX3 hown hK hP 0 rfl rfl 0 (by decide) (hts (.fieldLink RX3 9 "WheelBook$Fit" "sharers" "[I") (List.mem_of_getElem? (i := 1) rfl)) (fun _ h9 => h9) rfl dX3_setSharers_42 ?_
        refine lv_iload hx hb dX3_setSharers_45 (lv_at hl 6 rfl) ?_
        refine lv_iload hx hb dX3_setSharers_47 (lv_at hl 0 rfl) ?_
        refine lv_iconst (v := (1 : Int32)) hx hb dX3_setSharers_49 (by decide) ?_
        refine lv_iand hx hb dX3_setSharers_50 ?_
        refine lv_iconst (v := (1 : Int32)) hx hb dX3_setSharers_51 (by decide) ?_
        refine lv_icmp_ne (tgt := 59) hx hb dX3_setSharers_52 (by decide) (fun hc => ?_) (fun hc => ?_)
        · replace hf := wb_f hc hf
          refine lv_iload hx hb dX3_setSharers_59 (lv_at hl 0 rfl) ?_
          obtain ⟨hin, hf⟩ := wb_n hf
          refine va_iast hx hb hK hP hD hS 1 1 rfl rfl hin dX3_setSharers_61 (fun H locs hP hD hS => ?_)
          have hP : va_P D vwCl ((wWX3 cB cI cZ a0 I0_j39 (wb_um M0_j39 0 (y39_5).toNatClampNeg z39_0)) ++ ((wWX5 cB cI cZ a1 I1 M1) ++ (wWX1 cB cI cZ a2 I2 M2))) H := hP
          have hD : va_D A ((wWX3 cB cI cZ a0 I0_j39 (wb_um M0_j39 0 (y39_5).toNatClampNeg z39_0)) ++ ((wWX5 cB cI cZ a1 I1 M1) ++ (wWX1 cB cI cZ a2 I2 M2))) := hD
          obtain ⟨M0_1, eM0_1, hf⟩ := wb_v hf
          rw [← eM0_1] at hP hD
          obtain ⟨v2, ev2, hf⟩ := wb_v hf
          refine lv_iinc (v := v2) (lv' := [(5, .int v2), (7, .int z39_0), (0, .ref (a0 0)), (1, .ref (a1 0)), (2, .ref (a2 0)), (3, .int x3), (4, .int x4)]) hx hb dX3_setSharers_62 hl (k := 6) rfl (by rw [ev2]; rfl) (by decide) rfl (fun ls hl => ?_)
          refine lv_goto (tgt := 3) hx hb dX3_setSharers_65 (by decide) ?_
          exact ih3 I0_j39 M0_1 v2 H locs hP hD hS ls (lv_sub hl [2, 3, 4, 5, 6, 0] rfl) hf
        · replace hf := wb_t hc hf
          refine lv_iconst (v := (-1 : Int32)) hx hb dX3_setSharers_55 (by decide) ?_
          refine lv_goto (tgt := 61) hx hb dX3_setSharers_56 (by decide) ?_
          obtain ⟨hin, hf⟩ := wb_n hf
          refine va_iast hx hb hK hP hD hS 1 1 rfl rfl hin dX3_setSharers_61 (fun H locs hP hD hS => ?_)
          have hP : va_P D vwCl ((wWX3 cB cI cZ a0 I0_j39 (wb_um M0_j39 0 (y39_5).toNatClampNeg (-1 : Int32))) ++ ((wWX5 cB cI cZ a1 I1 M1) ++ (wWX1 cB cI cZ a2 I2 M2))) H := hP
          have hD : va_D A ((wWX3 cB cI cZ a0 I0_j39 (wb_um M0_j39 0 (y39_5).toNatClampNeg (-1 : Int32))) ++ ((wWX5 cB cI cZ a1 I1 M1) ++ (wWX1 cB cI cZ a2 I2 M2))) := hD
          obtain ⟨M0_3, eM0_3, hf⟩ := wb_v hf
          rw [← eM0_3] at hP hD
          obtain ⟨v4, ev4, hf⟩ := wb_v hf
          refine lv_iinc (v := v4) (lv' := [(5, .int v4), (7, .int z39_0), (0, .ref (a0 0)), (1, .ref (a1 0)), (2, .ref (a2 0)), (3, .int x3), (4, .int x4)]) hx hb dX3_setSharers_62 hl (k := 6) rfl (by rw [ev4]; rfl) (by decide) rfl (fun ls hl => ?_)
          refine lv_goto (tgt := 3) hx hb dX3_setSharers_65 (by decide) ?_
          exact ih3 I0_j39 M0_3 v4 H locs hP hD hS ls (lv_sub hl [2, 3, 4, 5, 6, 0] rfl) hf
      intro I0_l3 M0_l3 y3_5 H locs hP hD hS ls hl hf
      rw [fX3_setSharers_L3.eq_2] at hf
      refine lv_iload hx hb dX3_setSharers_3 (lv_at hl 5 rfl) ?_
      refine lv_bipush (v := (7 : Int32)) hx hb dX3_setSharers_5 (by decide) ?_
      refine lv_icmp_ge (tgt := 68) hx hb dX3_setSharers_7 (by decide) (fun hc => ?_) (fun hc => ?_)
      · replace hf := wb_t hc hf
        exact W.vret hx hb hr (fun t ht hW => by rw [← Option.some.inj hf]; exact ⟨⟨(), rfl, trivial, by rw [ht]; exact hP, va_K.moved hW.alike hK, hD⟩, hS.F ht⟩) hS.2.2 dX3_setSharers_68
      · replace hf := wb_f hc hf
        refine lv_aload_n hx hb dX3_setSharers_10 rfl (lv_at hl 2 rfl) ?_
        refine lv_iload_n hx hb dX3_setSharers_11 rfl (lv_at hl 3 rfl) ?_
        refine lv_iload hx hb dX3_setSharers_12 (lv_at hl 5 rfl) ?_
        obtain ⟨r5, hr5, hf⟩ := wb_b hf
        refine vp_callSi (W.runV (As := [.int x3, .int y3_5]) (rest := []) ⟨hx, hb, hml, hown, hts⟩ (cn_X1_degreeOf l D cB cI cZ N a2 I2 M2 x3 y3_5 r5 hr5) (cwV 2 hts gX3_setSharers_X1_degreeOf rfl rfl rfl cdX1_degreeOf ⟨Nat.le_of_ble_eq_true rfl, Nat.le_of_ble_eq_true rfl⟩) (wb_preV (hP.sub (ws' := (wWX1 cB cI cZ a2 I2 M2)) [11, 12, 13] rfl) hK (wr_1 hK hP (q0 := 11) rfl)) rfl rfl hl.1 rfl (lv_room (Nat.le_of_ble_eq_true rfl)) dX3_setSharers_14 ⟨Nat.le_of_ble_eq_true rfl, Nat.le_of_ble_eq_true rfl⟩) (fun r9 e9 => ?_)
        rw [e9]
        refine lv_istore (lv' := [(6, .int r5), (0, .ref (a0 0)), (1, .ref (a1 0)), (2, .ref (a2 0)), (3, .int x3), (4, .int x4), (5, .int y3_5)]) hx hb dX3_setSharers_17 hl (by decide) rfl (fun ls hl => ?_)
        refine lv_iload hx hb dX3_setSharers_19 (lv_at hl 0 rfl) ?_
        refine lv_iconst (v := (-1 : Int32)) hx hb dX3_setSharers_21 (by decide) ?_
        refine lv_icmp_ne (tgt := 29) hx hb dX3_setSharers_22 (by decide) (fun hc => ?_) (fun hc => ?_)
        · replace hf := wb_f hc hf
          refine lv_aload_n hx hb dX3_setSharers_29 rfl (lv_at hl 2 rfl) ?_
          refine lv_iload hx hb dX3_setSharers_30 (lv_at hl 0 rfl) ?_
          refine lv_iload hx hb dX3_setSharers_32 (lv_at hl 6 rfl) ?_
          refine lv_iload hx hb dX3_setSharers_34 (lv_at hl 5 rfl) ?_
          obtain ⟨r6, hr6, hf⟩ := wb_b hf
          refine vp_callSi (W.runS (As := [.ref (a1 0), .int r5, .int y3_5, .int x4]) (rest := []) ⟨hx, hb, hml, hown, hts⟩ (cn_X3_setsAt l D cB cI cZ N a1 I1 M1 r5 y3_5 x4 r6 hr6) (va_cwS 4 hts gX3_setSharers_X3_setsAt rfl rfl rfl csX3_setsAt ⟨Nat.le_of_ble_eq_true rfl, Nat.le_of_ble_eq_true rfl⟩) (wb_preS (hP.sub (ws' := (wWX5 cB cI cZ a1 I1 M1)) [2, 3, 4, 5, 6, 7, 8, 9, 10] rfl) hK) rfl rfl hl.1 rfl (lv_room (Nat.le_of_ble_eq_true rfl)) dX3_setSharers_36 ⟨Nat.le_of_ble_eq_true rfl, Nat.le_of_ble_eq_true rfl⟩) (fun r9 e9 => ?_)
          rw [e9]
          exact J39 I0_l3 M0_l3 y3_5 r6 H locs hP hD hS ls (lv_sub hl [1, 2, 3, 4, 5, 6] rfl) hf
        · replace hf := wb_t hc hf
          refine lv_iconst (v := (1 : Int32)) hx hb dX3_setSharers_25 (by decide) ?_
          refine lv_goto (tgt := 39) hx hb dX3_setSharers_26 (by decide) ?_
          exact J39 I0_l3 M0_l3 y3_5 (1 : Int32) H locs hP hD hS ls (lv_sub hl [1, 2, 3, 4, 5, 6] rfl) hf
  exact L3 N I0 M0 (0 : Int32) H locs hP hD hS ls (lv_sub hl [1, 2, 3, 4, 5, 0] rfl) hf

set_option maxHeartbeats 4000000 in
set_option maxRecDepth 100000 in
theorem cn_X3_isShared (l : Launch) (D : va_G) (cB cI cZ : ClassId) (N : Nat) (a0 : Nat → Nat) (I0 : Nat → Int32) (M0 : Nat → Nat → Int32) (x1 : Int32) (x2 : Int32) (R : Int32) (hf : fX3_isShared N I0 M0 x1 x2 = some R) : Met l yX3_isShared wsX3_isShared ({ frames := 0, cells := 0, slots := 0, locals := 0 }) (va_Pc [.ref (a0 0), .int x1, .int x2] (wb_pre D [(cB, .byte), (cI, .int), (cZ, .boolean)] (wWX3 cB cI cZ a0 I0 M0))) (vp_Si (fun r => r = R)) 0 0 (fun _ => False) := by
  refine Met.ofW (cc := cX3_isShared) (maxL := 3) (ret := (some .boolean)) pn_X3 rfl ?_
  intro p e s m args below meth c s₁ B hml hv
  obtain ⟨rfl, hP, hK⟩ := hv
  have hx := B.exec
  have hb := B.bytes
  have hr := B.returns
  have hts := atoms_spec (ws := wsX3_isShared) B.pre
  have hown : s.vm.findClass RX3 = some m.cls := (findClass_of_methodNamed B.named :)
  have hlocks := B.notSynchronized
  have hinX3 : ∀ w ∈ u_ws RX3 TX3 1, w ∈ wsX3_isShared := fun w h => List.mem_cons_of_mem _ (List.mem_append_right _ h)
  have hl := lv_entry ([.ref (a0 0), .int x1, .int x2]) (n := 3) (Nat.le_of_ble_eq_true rfl)
  rw [lg_entry_eq]
  generalize (lg_sl ([.ref (a0 0), .int x1, .int x2]) ++ List.replicate (3 - (lg_sl ([.ref (a0 0), .int x1, .int x2])).length) Slot.unset).toArray = ls at hl ⊢
  have hl : lv_has ls 3 [(0, .ref (a0 0)), (1, .int x1), (2, .int x2)] := hl
  unfold fX3_isShared at hf
  refine lv_aload_n hx hb dX3_isShared_0 rfl (lv_at hl 0 rfl) ?_
  refine va_get (D := D) (ci := 3) (v := .ref (a0 1)) (C := RX3) (T := TX3) (N := 1) hx hb hts hinX3 hown hK hP 0 rfl rfl 0 (by decide) (hts (.fieldLink RX3 9 "WheelBook$Fit" "sharers" "[I") (List.mem_of_getElem? (i := 1) rfl)) (fun _ h9 => h9) rfl dX3_isShared_1 ?_
  refine lv_iload_n hx hb dX3_isShared_4 rfl (lv_at hl 1 rfl) ?_
  obtain ⟨hin, hf⟩ := wb_n hf
  refine va_iald hx hb hK hP 1 1 rfl rfl hin dX3_isShared_5 ?_
  refine lv_iconst (v := (-1 : Int32)) hx hb dX3_isShared_6 (by decide) ?_
  refine lv_icmp_eq (tgt := 28) hx hb dX3_isShared_7 (by decide) (fun hc => ?_) (fun hc => ?_)
  · replace hf := wb_t hc hf
    refine lv_iconst (v := (0 : Int32)) hx hb dX3_isShared_28 (by decide) ?_
    exact W.zret (v := (0 : Int32)) hx hb hr (by decide) (fun t ht hW => ⟨_, rfl, Option.some.inj hf, ht⟩) (fun _ h => nomatch h) dX3_isShared_29
  · replace hf := wb_f hc hf
    refine lv_aload_n hx hb dX3_isShared_10 rfl (lv_at hl 0 rfl) ?_
    refine va_get (D := D) (ci := 3) (v := .ref (a0 1)) (C := RX3) (T := TX3) (N := 1) hx hb hts hinX3 hown hK hP 0 rfl rfl 0 (by decide) (hts (.fieldLink RX3 9 "WheelBook$Fit" "sharers" "[I") (List.mem_of_getElem? (i := 1) rfl)) (fun _ h9 => h9) rfl dX3_isShared_11 ?_
    refine lv_iload_n hx hb dX3_isShared_14 rfl (lv_at hl 1 rfl) ?_
    obtain ⟨hin, hf⟩ := wb_n hf
    refine va_iald hx hb hK hP 1 1 rfl rfl hin dX3_isShared_15 ?_
    refine lv_iload_n hx hb dX3_isShared_16 rfl (lv_at hl 2 rfl) ?_
    refine lv_ishr hx hb dX3_isShared_17 ?_
    refine lv_iconst (v := (1 : Int32)) hx hb dX3_isShared_18 (by decide) ?_
    refine lv_iand hx hb dX3_isShared_19 ?_
    refine lv_iconst (v := (1 : Int32)) hx hb dX3_isShared_20 (by decide) ?_
    refine lv_icmp_ne (tgt := 28) hx hb dX3_isShared_21 (by decide) (fun hc => ?_) (fun hc => ?_)
    · replace hf := wb_f hc hf
      refine lv_iconst (v := (0 : Int32)) hx hb dX3_isShared_28 (by decide) ?_
      exact W.zret (v := (0 : Int32)) hx hb hr (by decide) (fun t ht hW => ⟨_, rfl, Option.some.inj hf, ht⟩) (fun _ h => nomatch h) dX3_isShared_29
    · replace hf := wb_t hc hf
      refine lv_iconst (v := (1 : Int32)) hx hb dX3_isShared_24 (by decide) ?_
      refine lv_goto (tgt := 29) hx hb dX3_isShared_25 (by decide) ?_
      exact W.zret (v := (1 : Int32)) hx hb hr (by decide) (fun t ht hW => ⟨_, rfl, Option.some.inj hf, ht⟩) (fun _ h => nomatch h) dX3_isShared_29

set_option maxHeartbeats 4000000 in
set_option maxRecDepth 100000 in
theorem cn_X3_howManyErrors (l : Launch) (D : va_G) (cB cI cZ : ClassId) (N : Nat) (a0 : Nat → Nat) (I0 : Nat → Int32) (M0 : Nat → Nat → Int32) (R : Int32) (hf : fX3_howManyErrors N I0 M0 = some R) : Met l yX3_howManyErrors wsX3_howManyErrors ({ frames := 0, cells := 0, slots := 0, locals := 0 }) (va_Pc [.ref (a0 0)] (wb_pre D [(cB, .byte), (cI, .int), (cZ, .boolean)] (wWX3 cB cI cZ a0 I0 M0))) (vp_Si (fun r => r = R)) 0 0 (fun _ => False) := by
  refine Met.ofW (cc := cX3_howManyErrors) (maxL := 3) (ret := (some .int)) pn_X3 rfl ?_
  intro p e s m args below meth c s₁ B hml hv
  obtain ⟨rfl, hP, hK⟩ := hv
  have hx := B.exec
  have hb := B.bytes
  have hr := B.returns
  have hts := atoms_spec (ws := wsX3_howManyErrors) B.pre
  have hown : s.vm.findClass RX3 = some m.cls := (findClass_of_methodNamed B.named :)
  have hlocks := B.notSynchronized
  have hinX3 : ∀ w ∈ u_ws RX3 TX3 1, w ∈ wsX3_howManyErrors := fun w h => List.mem_cons_of_mem _ (List.mem_append_right _ h)
  have hl := lv_entry ([.ref (a0 0)]) (n := 3) (Nat.le_of_ble_eq_true rfl)
  rw [lg_entry_eq]
  generalize (lg_sl ([.ref (a0 0)]) ++ List.replicate (3 - (lg_sl ([.ref (a0 0)])).length) Slot.unset).toArray = ls at hl ⊢
  have hl : lv_has ls 3 [(0, .ref (a0 0))] := hl
  unfold fX3_howManyErrors at hf
  refine lv_iconst (v := (0 : Int32)) hx hb dX3_howManyErrors_0 (by decide) ?_
  refine lv_istore_n (lv' := [(1, .int (0 : Int32)), (0, .ref (a0 0))]) hx hb dX3_howManyErrors_1 rfl hl (by decide) rfl (fun ls hl => ?_)
  refine lv_iconst (v := (0 : Int32)) hx hb dX3_howManyErrors_2 (by decide) ?_
  refine lv_istore_n (lv' := [(2, .int (0 : Int32)), (1, .int (0 : Int32)), (0, .ref (a0 0))]) hx hb dX3_howManyErrors_3 rfl hl (by decide) rfl (fun ls hl => ?_)
  have L4 : ∀ (fu4 : Nat) (y4_1 : Int32) (y4_2 : Int32), ∀ (ls : Array Slot), lv_has ls 3 [(0, .ref (a0 0)), (1, .int y4_1), (2, .int y4_2)] → fX3_howManyErrors_L4 N I0 M0 fu4 y4_1 y4_2 = some R → W p l e (headSpec wsX3_howManyErrors { frames := 0, cells := 0, slots := 0, locals := 0 }).room s m [.ref (a0 0)].toArray below meth c s.heap [] 0 0 (MQ below (vp_Si (fun r => r = R)) [.ref (a0 0)].toArray s 0 0 (fun _ => False)) (F0 m 4 ls []) := by
    intro fu4
    induction fu4 with
    | zero =>
      intro y4_1 y4_2 ls hl hf
      exact absurd hf (by rw [fX3_howManyErrors_L4.eq_1]; exact fun h => nomatch h)
    | succ fu4 ih4 =>
      intro y4_1 y4_2 ls hl hf
      rw [fX3_howManyErrors_L4.eq_2] at hf
      refine lv_iload_n hx hb dX3_howManyErrors_4 rfl (lv_at hl 2 rfl) ?_
      refine lv_bipush (v := (7 : Int32)) hx hb dX3_howManyErrors_5 (by decide) ?_
      refine lv_icmp_ge (tgt := 29) hx hb dX3_howManyErrors_7 (by decide) (fun hc => ?_) (fun hc => ?_)
      · replace hf := wb_t hc hf
        refine lv_iload_n hx hb dX3_howManyErrors_29 rfl (lv_at hl 1 rfl) ?_
        exact W.iret (v := y4_1) hx hb hr (fun t ht hW => ⟨_, rfl, Option.some.inj hf, ht⟩) (fun _ h => nomatch h) dX3_howManyErrors_30
      · replace hf := wb_f hc hf
        refine lv_aload_n hx hb dX3_howManyErrors_10 rfl (lv_at hl 0 rfl) ?_
        refine va_get (D := D) (ci := 3) (v := .ref (a0 1)) (C := RX3) (T := TX3) (N := 1) hx hb hts hinX3 hown hK hP 0 rfl rfl 0 (by decide) (hts (.fieldLink RX3 9 "WheelBook$Fit" "sharers" "[I") (List.mem_of_getElem? (i := 1) rfl)) (fun _ h9 => h9) rfl dX3_howManyErrors_11 ?_
        refine lv_iload_n hx hb dX3_howManyErrors_14 rfl (lv_at hl 2 rfl) ?_
        obtain ⟨hin, hf⟩ := wb_n hf
        refine va_iald hx hb hK hP 1 1 rfl rfl hin dX3_howManyErrors_15 ?_
        refine lv_iconst (v := (-1 : Int32)) hx hb dX3_howManyErrors_16 (by decide) ?_
        refine lv_icmp_eq (tgt := 23) hx hb dX3_howManyErrors_17 (by decide) (fun hc => ?_) (fun hc => ?_)
        · replace hf := wb_t hc hf
          obtain ⟨v1, ev1, hf⟩ := wb_v hf
          refine lv_iinc (v := v1) (lv' := [(2, .int v1), (0, .ref (a0 0)), (1, .int y4_1)]) hx hb dX3_howManyErrors_23 hl (k := 2) rfl (by rw [ev1]; rfl) (by decide) rfl (fun ls hl => ?_)
          refine lv_goto (tgt := 4) hx hb dX3_howManyErrors_26 (by decide) ?_
          exact ih4 y4_1 v1 ls (lv_sub hl [1, 2, 0] rfl) hf
        · replace hf := wb_f hc hf
          obtain ⟨v2, ev2, hf⟩ := wb_v hf
          refine lv_iinc (v := v2) (lv' := [(1, .int v2), (0, .ref (a0 0)), (2, .int y4_2)]) hx hb dX3_howManyErrors_20 hl (k := 1) rfl (by rw [ev2]; rfl) (by decide) rfl (fun ls hl => ?_)
          obtain ⟨v3, ev3, hf⟩ := wb_v hf
          refine lv_iinc (v := v3) (lv' := [(2, .int v3), (1, .int v2), (0, .ref (a0 0))]) hx hb dX3_howManyErrors_23 hl (k := 2) rfl (by rw [ev3]; rfl) (by decide) rfl (fun ls hl => ?_)
          refine lv_goto (tgt := 4) hx hb dX3_howManyErrors_26 (by decide) ?_
          exact ih4 v2 v3 ls (lv_sub hl [2, 1, 0] rfl) hf
  exact L4 N (0 : Int32) (0 : Int32) ls (lv_sub hl [2, 1, 0] rfl) hf

set_option maxHeartbeats 4000000 in
set_option maxRecDepth 100000 in
theorem cn_X3_howManyShared (l : Launch) (D : va_G) (cB cI cZ : ClassId) (N : Nat) (a0 : Nat → Nat) (I0 : Nat → Int32) (M0 : Nat → Nat → Int32) (x1 : Int32) (R : Int32) (hf : fX3_howManyShared N I0 M0 x1 = some R) : Met l yX3_howManyShared wsX3_howManyShared ({ frames := 1, cells := 0, slots := 0, locals := 22 }) (va_Pc [.ref (a0 0), .int x1] (wb_pre D [(cB, .byte), (cI, .int), (cZ, .boolean)] (wWX3 cB cI cZ a0 I0 M0))) (vp_Si (fun r => r = R)) 0 0 (fun _ => False) := by
  refine Met.ofW (cc := cX3_howManyShared) (maxL := 4) (ret := (some .int)) pn_X3 rfl ?_
  intro p e s m args below meth c s₁ B hml hv
  obtain ⟨rfl, hP, hK⟩ := hv
  have hx := B.exec
  have hb := B.bytes
  have hr := B.returns
  have hts := atoms_spec (ws := wsX3_howManyShared) B.pre
  have hown : s.vm.findClass RX3 = some m.cls := (findClass_of_methodNamed B.named :)
  have hlocks := B.notSynchronized
  have hl := lv_entry ([.ref (a0 0), .int x1]) (n := 4) (Nat.le_of_ble_eq_true rfl)
  rw [lg_entry_eq]
  generalize (lg_sl ([.ref (a0 0), .int x1]) ++ List.replicate (4 - (lg_sl ([.ref (a0 0), .int x1])).length) Slot.unset).toArray = ls at hl ⊢
  have hl : lv_has ls 4 [(0, .ref (a0 0)), (1, .int x1)] := hl
  unfold fX3_howManyShared at hf
  refine lv_iconst (v := (0 : Int32)) hx hb dX3_howManyShared_0 (by decide) ?_
  refine lv_istore_n (lv' := [(2, .int (0 : Int32)), (0, .ref (a0 0)), (1, .int x1)]) hx hb dX3_howManyShared_1 rfl hl (by decide) rfl (fun ls hl => ?_)
  refine lv_iconst (v := (0 : Int32)) hx hb dX3_howManyShared_2 (by decide) ?_
  refine lv_istore_n (lv' := [(3, .int (0 : Int32)), (2, .int (0 : Int32)), (0, .ref (a0 0)), (1, .int x1)]) hx hb dX3_howManyShared_3 rfl hl (by decide) rfl (fun ls hl => ?_)
  have L4 : ∀ (fu4 : Nat) (y4_2 : Int32) (y4_3 : Int32), ∀ (ls : Array Slot), lv_has ls 4 [(0, .ref (a0 0)), (1, .int x1), (2, .int y4_2), (3, .int y4_3)] → fX3_howManyShared_L4 N I0 M0 x1 fu4 y4_2 y4_3 = some R → W p l e (headSpec wsX3_howManyShared { frames := 1, cells := 0, slots := 0, locals := 22 }).room s m [.ref (a0 0), .int x1].toArray below meth c s.heap [] 0 0 (MQ below (vp_Si (fun r => r = R)) [.ref (a0 0), .int x1].toArray s 0 0 (fun _ => False)) (F0 m 4 ls []) := by
    intro fu4
    induction fu4 with
    | zero =>
      intro y4_2 y4_3 ls hl hf
      exact absurd hf (by rw [fX3_howManyShared_L4.eq_1]; exact fun h => nomatch h)
    | succ fu4 ih4 =>
      intro y4_2 y4_3 ls hl hf
      rw [fX3_howManyShared_L4.eq_2] at hf
      refine lv_iload_n hx hb dX3_howManyShared_4 rfl (lv_at hl 3 rfl) ?_
      refine lv_bipush (v := (7 : Int32)) hx hb dX3_howManyShared_5 (by decide) ?_
      refine lv_icmp_ge (tgt := 28) hx hb dX3_howManyShared_7 (by decide) (fun hc => ?_) (fun hc => ?_)
      · replace hf := wb_t hc hf
        refine lv_iload_n hx hb dX3_howManyShared_28 rfl (lv_at hl 2 rfl) ?_
        exact W.iret (v := y4_2) hx hb hr (fun t ht hW => ⟨_, rfl, Option.some.inj hf, ht⟩) (fun _ h => nomatch h) dX3_howManyShared_29
      · replace hf := wb_f hc hf
        refine lv_aload_n hx hb dX3_howManyShared_10 rfl (lv_at hl 0 rfl) ?_
        refine lv_iload_n hx hb dX3_howManyShared_11 rfl (lv_at hl 3 rfl) ?_
        refine lv_iload_n hx hb dX3_howManyShared_12 rfl (lv_at hl 1 rfl) ?_
        obtain ⟨r1, hr1, hf⟩ := wb_b hf
        refine vp_callSi (W.runV (As := [.int y4_3, .int x1]) (rest := []) ⟨hx, hb, hml, hown, hts⟩ (cn_X3_isShared l D cB cI cZ N a0 I0 M0 y4_3 x1 r1 hr1) (cwV 2 hts gX3_howManyShared_X3_isShared rfl rfl rfl cdX3_isShared ⟨Nat.le_of_ble_eq_true rfl, Nat.le_of_ble_eq_true rfl⟩) (wb_preV hP hK (wr_3 hK hP (q0 := 0) rfl)) rfl rfl hl.1 rfl (lv_room (Nat.le_of_ble_eq_true rfl)) dX3_howManyShared_13 ⟨Nat.le_of_ble_eq_true rfl, Nat.le_of_ble_eq_true rfl⟩) (fun r9 e9 => ?_)
        rw [e9]
        refine lv_if_eq (tgt := 22) hx hb dX3_howManyShared_16 (by decide) (fun hc => ?_) (fun hc => ?_)
        · replace hf := wb_t hc hf
          obtain ⟨v2, ev2, hf⟩ := wb_v hf
          refine lv_iinc (v := v2) (lv' := [(3, .int v2), (0, .ref (a0 0)), (1, .int x1), (2, .int y4_2)]) hx hb dX3_howManyShared_22 hl (k := 3) rfl (by rw [ev2]; rfl) (by decide) rfl (fun ls hl => ?_)
          refine lv_goto (tgt := 4) hx hb dX3_howManyShared_25 (by decide) ?_
          exact ih4 y4_2 v2 ls (lv_sub hl [1, 2, 3, 0] rfl) hf
        · replace hf := wb_f hc hf
          obtain ⟨v3, ev3, hf⟩ := wb_v hf
          refine lv_iinc (v := v3) (lv' := [(2, .int v3), (0, .ref (a0 0)), (1, .int x1), (3, .int y4_3)]) hx hb dX3_howManyShared_19 hl (k := 2) rfl (by rw [ev3]; rfl) (by decide) rfl (fun ls hl => ?_)
          obtain ⟨v4, ev4, hf⟩ := wb_v hf
          refine lv_iinc (v := v4) (lv' := [(3, .int v4), (2, .int v3), (0, .ref (a0 0)), (1, .int x1)]) hx hb dX3_howManyShared_22 hl (k := 3) rfl (by rw [ev4]; rfl) (by decide) rfl (fun ls hl => ?_)
          refine lv_goto (tgt := 4) hx hb dX3_howManyShared_25 (by decide) ?_
          exact ih4 v3 v4 ls (lv_sub hl [2, 3, 1, 0] rfl) hf
  exact L4 N (0 : Int32) (0 : Int32) ls (lv_sub hl [2, 3, 1, 0] rfl) hf
