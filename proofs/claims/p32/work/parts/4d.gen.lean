set_option maxHeartbeats 4000000 in
set_option maxRecDepth 100000 in
theorem cn_X12_wheel (l : Launch) (D : va_G) (cB cI cZ : ClassId) (N : Nat) (a0 : Nat → Nat) (I0 : Nat → Int32) (L0 : Int64) (M0 : Nat → Nat → Int32) (x1 : Int32) (x2 : Int32) (x3 : Int32) (sz : Nat) (R : Int32 × (Nat → Int32) × Int64 × (Nat → Nat → Int32)) (hf : fX12_wheel N I0 L0 M0 x1 x2 x3 = some R) : Met l yX12_wheel wsX12_wheel ({ frames := 4, cells := 0, slots := 0, locals := 93 }) (va_Pc [.ref (a0 0), .int x1, .int x2, .int x3] (wb_preD D [(cB, .byte), (cI, .int), (cZ, .boolean)] (wWX12 cB cI cZ a0 I0 L0 M0) sz)) (va_Qi (fun r (_ : Unit) => r = R.1) (fun _ t => wb_post D [(cB, .byte), (cI, .int), (cZ, .boolean)] (va_A (wWX12 cB cI cZ a0 I0 L0 M0) sz) (wWX12 cB cI cZ a0 R.2.1 R.2.2.1 R.2.2.2) t) (va_A (wWX12 cB cI cZ a0 I0 L0 M0) sz)) 0 0 (va_A (wWX12 cB cI cZ a0 I0 L0 M0) sz) := by
  refine Met.ofW (cc := cX12_wheel) (maxL := 5) (ret := (some .int)) pn_X12 rfl ?_
  intro p e s m args below meth c s₁ B hml hv
  obtain ⟨rfl, hsz, hP, hK, hD0⟩ := hv
  have hx := B.exec
  have hb := B.bytes
  have hr := B.returns
  have hts := atoms_spec (ws := wsX12_wheel) B.pre
  have hown : s.vm.findClass RX12 = some m.cls := (findClass_of_methodNamed B.named :)
  have hlocks := B.notSynchronized
  have hinX12 : ∀ w ∈ u_ws RX12 TX12 58, w ∈ wsX12_wheel := fun w h => List.mem_cons_of_mem _ (List.mem_append_right _ h)
  subst hsz
  have hD := hD0.self (sz := s.heap.size)
  generalize hAe : va_A (wWX12 cB cI cZ a0 I0 L0 M0) s.heap.size = A at hD ⊢
  have hA : ∀ q : Nat, s.heap.size ≤ q → A q := fun q h => by rw [← hAe]; exact Or.inr h
  have hS : va_S A s.heap s.heap [] := va_S.rf
  have hl := lv_entry ([.ref (a0 0), .int x1, .int x2, .int x3]) (n := 5) (Nat.le_of_ble_eq_true rfl)
  rw [lg_entry_eq]
  generalize (lg_sl ([.ref (a0 0), .int x1, .int x2, .int x3]) ++ List.replicate (5 - (lg_sl ([.ref (a0 0), .int x1, .int x2, .int x3])).length) Slot.unset).toArray = ls at hl ⊢
  have hl : lv_has ls 5 [(0, .ref (a0 0)), (1, .int x1), (2, .int x2), (3, .int x3)] := hl
  unfold fX12_wheel at hf
  obtain ⟨H, hHe⟩ : ∃ H : Heap, H = s.heap := ⟨_, rfl⟩
  obtain ⟨locs, hle⟩ : ∃ locs : List Loc, locs = [] := ⟨_, rfl⟩
  refine wb_start (H := H) (locs := locs) hHe hle ?_
  rw [← hHe] at hP
  have hS : va_S A s.heap H locs := by rw [hHe, hle]; exact va_S.rf
  have J71 : ∀ (I0_j71 : Nat → Int32) (L0_j71 : Int64) (M0_j71 : Nat → Nat → Int32) (H : Heap) (locs : List Loc), va_P D vwCl (wWX12 cB cI cZ a0 I0_j71 L0_j71 M0_j71) H → va_D A (wWX12 cB cI cZ a0 I0_j71 L0_j71 M0_j71) → va_S A s.heap H locs → ∀ (ls : Array Slot), lv_has ls 5 [(0, .ref (a0 0)), (1, .int x1), (2, .int x2)] → fX12_wheel_J71 N x1 x2 x3 I0_j71 L0_j71 M0_j71 = some R → W p l e (headSpec wsX12_wheel { frames := 4, cells := 0, slots := 0, locals := 93 }).room s m [.ref (a0 0), .int x1, .int x2, .int x3].toArray below meth c H locs 0 0 (MQ below (va_Qi (fun r (_ : Unit) => r = R.1) (fun _ t => wb_post D [(cB, .byte), (cI, .int), (cZ, .boolean)] A (wWX12 cB cI cZ a0 R.2.1 R.2.2.1 R.2.2.2) t) A) [.ref (a0 0), .int x1, .int x2, .int x3].toArray s 0 0 A) (F0 m 71 ls []) := by
    intro I0_j71 L0_j71 M0_j71 H locs hP hD hS ls hl hf
    unfold fX12_wheel_J71 at hf
    refine lv_aload_n hx hb dX12_wheel_71 rfl (lv_at hl 0 rfl) ?_
    obtain ⟨r1, hr1, hf⟩ := wb_b hf
    refine vp_callSi (W.runV (As := []) (rest := []) ⟨hx, hb, hml, hown, hts⟩ (cn_X12_isGood l D cB cI cZ N a0 I0_j71 L0_j71 M0_j71 r1 hr1) (cwV 0 hts gX12_wheel_X12_isGood rfl rfl rfl cdX12_isGood ⟨Nat.le_of_ble_eq_true rfl, Nat.le_of_ble_eq_true rfl⟩) (wb_preV hP hK (wr_12 hK hP (q0 := 0) rfl)) rfl rfl hl.1 rfl (lv_room (Nat.le_of_ble_eq_true rfl)) dX12_wheel_72 ⟨Nat.le_of_ble_eq_true rfl, Nat.le_of_ble_eq_true rfl⟩) (fun r9 e9 => ?_)
    rw [e9]
    refine lv_if_ne (tgt := 83) hx hb dX12_wheel_75 (by decide) (fun hc => ?_) (fun hc => ?_)
    · replace hf := wb_f hc hf
      refine lv_iconst (v := (0 : Int32)) hx hb dX12_wheel_83 (by decide) ?_
      refine lv_istore (lv' := [(4, .int (0 : Int32)), (0, .ref (a0 0)), (1, .int x1), (2, .int x2)]) hx hb dX12_wheel_84 hl (by decide) rfl (fun ls hl => ?_)
      have Lh86 : ∀ (fu86 : Nat) (I0_l86 : Nat → Int32) (L0_l86 : Int64) (M0_l86 : Nat → Nat → Int32) (y86_4 : Int32) (H : Heap) (locs : List Loc), va_P D vwCl (wWX12 cB cI cZ a0 I0_l86 L0_l86 M0_l86) H → va_D A (wWX12 cB cI cZ a0 I0_l86 L0_l86 M0_l86) → va_S A s.heap H locs → ∀ (ls : Array Slot), lv_has ls 5 [(0, .ref (a0 0)), (1, .int x1), (2, .int x2), (4, .int y86_4)] → fX12_wheel_L86 N x1 x2 x3 fu86 I0_l86 L0_l86 M0_l86 y86_4 = some R → W p l e (headSpec wsX12_wheel { frames := 4, cells := 0, slots := 0, locals := 93 }).room s m [.ref (a0 0), .int x1, .int x2, .int x3].toArray below meth c H locs 0 0 (MQ below (va_Qi (fun r (_ : Unit) => r = R.1) (fun _ t => wb_post D [(cB, .byte), (cI, .int), (cZ, .boolean)] A (wWX12 cB cI cZ a0 R.2.1 R.2.2.1 R.2.2.2) t) A) [.ref (a0 0), .int x1, .int x2, .int x3].toArray s 0 0 A) (F0 m 86 ls []) := by
        intro fu86
        induction fu86 with
        | zero =>
          intro I0_l86 L0_l86 M0_l86 y86_4 H locs hP hD hS ls hl hf
          exact absurd hf (by rw [fX12_wheel_L86.eq_1]; exact fun h => nomatch h)
        | succ fu86 ih86 =>
          intro I0_l86 L0_l86 M0_l86 y86_4 H locs hP hD hS ls hl hf
          rw [fX12_wheel_L86.eq_2] at hf
          refine lv_iload hx hb dX12_wheel_86 (lv_at hl 3 rfl) ?_
          refine lv_bipush (v := (22 : Int32)) hx hb dX12_wheel_88 (by decide) ?_
          refine lv_icmp_ge (tgt := 123) hx hb dX12_wheel_90 (by decide) (fun hc => ?_) (fun hc => ?_)
          · replace hf := wb_t hc hf
            refine lv_iconst (v := (0 : Int32)) hx hb dX12_wheel_123 (by decide) ?_
            exact W.iret (v := (0 : Int32)) hx hb hr (fun t ht hW => by rw [← Option.some.inj hf]; exact ⟨⟨(0 : Int32), (), rfl, rfl, by rw [ht]; exact hP, va_K.moved hW.alike hK, hD⟩, hS.F ht⟩) hS.2.2 dX12_wheel_124
          · replace hf := wb_f hc hf
            refine lv_aload_n hx hb dX12_wheel_93 rfl (lv_at hl 0 rfl) ?_
            refine va_get (D := D) (ci := 12) (v := .ref (a0 8)) (C := RX12) (T := TX12) (N := 58) hx hb hts hinX12 hown hK hP 0 rfl rfl 10 (by decide) (hts (.fieldLink RX12 31 "WheelBookModel" "entries" "[I") (List.mem_of_getElem? (i := 5) rfl)) (fun _ h9 => h9) rfl dX12_wheel_94 ?_
            refine lv_bipush (v := (22 : Int32)) hx hb dX12_wheel_97 (by decide) ?_
            refine lv_bipush (v := (20 : Int32)) hx hb dX12_wheel_99 (by decide) ?_
            refine lv_iload_n hx hb dX12_wheel_101 rfl (lv_at hl 1 rfl) ?_
            refine lv_imul hx hb dX12_wheel_102 ?_
            refine lv_iload_n hx hb dX12_wheel_103 rfl (lv_at hl 2 rfl) ?_
            refine lv_iadd hx hb dX12_wheel_104 ?_
            refine lv_imul hx hb dX12_wheel_105 ?_
            refine lv_iload hx hb dX12_wheel_106 (lv_at hl 3 rfl) ?_
            refine lv_iadd hx hb dX12_wheel_108 ?_
            refine lv_aload_n hx hb dX12_wheel_109 rfl (lv_at hl 0 rfl) ?_
            refine va_get (D := D) (ci := 12) (v := .ref (a0 17)) (C := RX12) (T := TX12) (N := 58) hx hb hts hinX12 hown hK hP 0 rfl rfl 32 (by decide) (hts (.fieldLink RX12 62 "WheelBookModel" "newEntries" "[I") (List.mem_of_getElem? (i := 2) rfl)) (fun _ h9 => h9) rfl dX12_wheel_110 ?_
            refine lv_iload hx hb dX12_wheel_113 (lv_at hl 3 rfl) ?_
            obtain ⟨hin, hf⟩ := wb_n hf
            refine va_iald hx hb hK hP 17 1 rfl rfl hin dX12_wheel_115 ?_
            obtain ⟨hin, hf⟩ := wb_n hf
            refine va_iast hx hb hK hP hD hS 8 1 rfl rfl hin dX12_wheel_116 (fun H locs hP hD hS => ?_)
            have hP : va_P D vwCl (wWX12 cB cI cZ a0 I0_l86 L0_l86 (wb_um M0_l86 7 ((((22 : Int32) * (((20 : Int32) * x1) + x2)) + y86_4)).toNatClampNeg (M0_l86 16 (y86_4).toNatClampNeg))) H := hP
            have hD : va_D A (wWX12 cB cI cZ a0 I0_l86 L0_l86 (wb_um M0_l86 7 ((((22 : Int32) * (((20 : Int32) * x1) + x2)) + y86_4)).toNatClampNeg (M0_l86 16 (y86_4).toNatClampNeg))) := hD
            obtain ⟨M0_2, eM0_2, hf⟩ := wb_v hf
            rw [← eM0_2] at hP hD
            obtain ⟨v3, ev3, hf⟩ := wb_v hf
            refine lv_iinc (v := v3) (lv' := [(4, .int v3), (0, .ref (a0 0)), (1, .int x1), (2, .int x2)]) hx hb dX12_wheel_117 hl (k := 3) rfl (by rw [ev3]; rfl) (by decide) rfl (fun ls hl => ?_)
            refine lv_goto (tgt := 86) hx hb dX12_wheel_120 (by decide) ?_
            exact ih86 I0_l86 L0_l86 M0_2 v3 H locs hP hD hS ls (lv_sub hl [1, 2, 3, 0] rfl) hf
      exact Lh86 N I0_j71 L0_j71 M0_j71 (0 : Int32) H locs hP hD hS ls (lv_sub hl [1, 2, 3, 0] rfl) hf
    · replace hf := wb_t hc hf
      refine lv_aload_n hx hb dX12_wheel_78 rfl (lv_at hl 0 rfl) ?_
      refine va_get (D := D) (ci := 12) (v := .int (I0_j71 4)) (C := RX12) (T := TX12) (N := 58) hx hb hts hinX12 hown hK hP 0 rfl rfl 13 (by decide) (hts (.fieldLink RX12 180 "WheelBookModel" "faultKind" "I") (List.mem_of_getElem? (i := 4) rfl)) (fun _ h9 => h9) rfl dX12_wheel_79 ?_
      exact W.iret (v := (I0_j71 4)) hx hb hr (fun t ht hW => by rw [← Option.some.inj hf]; exact ⟨⟨(I0_j71 4), (), rfl, rfl, by rw [ht]; exact hP, va_K.moved hW.alike hK, hD⟩, hS.F ht⟩) hS.2.2 dX12_wheel_82
  refine lv_aload_n hx hb dX12_wheel_0 rfl (lv_at hl 0 rfl) ?_
  refine lv_iload_n hx hb dX12_wheel_1 rfl (lv_at hl 1 rfl) ?_
  refine lv_iload_n hx hb dX12_wheel_2 rfl (lv_at hl 2 rfl) ?_
  obtain ⟨r4, hr4, hf⟩ := wb_b hf
  have hPc := hP
  have hDc := hD
  have hFc := wj_F hDc hS hA
  refine va_calli (va_runV (As := [.int x1, .int x2]) (rest := []) ⟨hx, hb, hml, hown, hts⟩ (cn_X12_isWheel l D cB cI cZ N a0 I0 L0 M0 x1 x2 H.size r4 hr4) (cwV 2 hts gX12_wheel_X12_isWheel rfl rfl rfl cdX12_isWheel ⟨Nat.le_of_ble_eq_true rfl, Nat.le_of_ble_eq_true rfl⟩) (wb_preDV hPc hK hDc (wr_12 hK hP (q0 := 0) rfl)) rfl rfl hl.1 rfl (lv_room (Nat.le_of_ble_eq_true rfl)) dX12_wheel_3 ⟨Nat.le_of_ble_eq_true rfl, Nat.le_of_ble_eq_true rfl⟩) hS (fun q _ h => hFc q h) hFc (fun r9 u t H locs ht hvm hw hB hz1 hk1 hS => ?_)
  obtain ⟨hP, hD⟩ := wj_0 hFc ht hB
  rw [hw]
  refine lv_if_ne (tgt := 11) hx hb dX12_wheel_6 (by decide) (fun hc => ?_) (fun hc => ?_)
  · replace hf := wb_f hc hf
    refine lv_aload_n hx hb dX12_wheel_11 rfl (lv_at hl 0 rfl) ?_
    refine lv_iconst (v := (1 : Int32)) hx hb dX12_wheel_12 (by decide) ?_
    refine va_put (D := D) (ci := 12) (v := .int (1 : Int32)) (ty := .boolean) (C := RX12) (T := TX12) (N := 58) hx hb hts hinX12 tyX12 tyX12_ok nmX12 hown hK hP hD hS 0 rfl rfl 22 (by decide) (hts (.fieldLink RX12 205 "WheelBookModel" "asksWheel" "Z") (List.mem_of_getElem? (i := 1) rfl)) (fun _ h9 => h9) rfl (by decide +kernel) (by decide) (by decide) (Nat.le_of_ble_eq_true rfl) dX12_wheel_13 (fun H locs hP hD hS => ?_)
    have hP : va_P D vwCl (wWX12 cB cI cZ a0 (upd r4.2.1 12 (1 : Int32)) r4.2.2.1 r4.2.2.2) H := hP
    have hD : va_D A (wWX12 cB cI cZ a0 (upd r4.2.1 12 (1 : Int32)) r4.2.2.1 r4.2.2.2) := hD
    obtain ⟨I0_5, eI0_5, hf⟩ := wb_v hf
    rw [← eI0_5] at hP hD
    refine lv_aload_n hx hb dX12_wheel_16 rfl (lv_at hl 0 rfl) ?_
    refine lv_iload_n hx hb dX12_wheel_17 rfl (lv_at hl 3 rfl) ?_
    obtain ⟨r6, hr6, hf⟩ := wb_b hf
    have hPc := hP
    have hDc := hD
    have hFc := wj_F hDc hS hA
    refine va_calli (va_runV (As := [.int x3]) (rest := []) ⟨hx, hb, hml, hown, hts⟩ (cn_X12_begins l D cB cI cZ N a0 I0_5 r4.2.2.1 r4.2.2.2 x3 H.size r6 hr6) (cwV 1 hts gX12_wheel_X12_begins rfl rfl rfl cdX12_begins ⟨Nat.le_of_ble_eq_true rfl, Nat.le_of_ble_eq_true rfl⟩) (wb_preDV hPc hK hDc (wr_12 hK hP (q0 := 0) rfl)) rfl rfl hl.1 rfl (lv_room (Nat.le_of_ble_eq_true rfl)) dX12_wheel_18 ⟨Nat.le_of_ble_eq_true rfl, Nat.le_of_ble_eq_true rfl⟩) hS (fun q _ h => hFc q h) hFc (fun r9 u t H locs ht hvm hw hB hz1 hk1 hS => ?_)
    obtain ⟨hP, hD⟩ := wj_0 hFc ht hB
    rw [hw]
    refine lv_if_ne (tgt := 26) hx hb dX12_wheel_21 (by decide) (fun hc => ?_) (fun hc => ?_)
    · replace hf := wb_f hc hf
      refine lv_iconst (v := (0 : Int32)) hx hb dX12_wheel_26 (by decide) ?_
      refine lv_istore (lv' := [(4, .int (0 : Int32)), (0, .ref (a0 0)), (1, .int x1), (2, .int x2), (3, .int x3)]) hx hb dX12_wheel_27 hl (by decide) rfl (fun ls hl => ?_)
      have Lh29 : ∀ (fu29 : Nat) (I0_l29 : Nat → Int32) (L0_l29 : Int64) (M0_l29 : Nat → Nat → Int32) (y29_4 : Int32) (H : Heap) (locs : List Loc), va_P D vwCl (wWX12 cB cI cZ a0 I0_l29 L0_l29 M0_l29) H → va_D A (wWX12 cB cI cZ a0 I0_l29 L0_l29 M0_l29) → va_S A s.heap H locs → ∀ (ls : Array Slot), lv_has ls 5 [(0, .ref (a0 0)), (1, .int x1), (2, .int x2), (4, .int y29_4)] → fX12_wheel_L29 N x1 x2 x3 fu29 I0_l29 L0_l29 M0_l29 y29_4 = some R → W p l e (headSpec wsX12_wheel { frames := 4, cells := 0, slots := 0, locals := 93 }).room s m [.ref (a0 0), .int x1, .int x2, .int x3].toArray below meth c H locs 0 0 (MQ below (va_Qi (fun r (_ : Unit) => r = R.1) (fun _ t => wb_post D [(cB, .byte), (cI, .int), (cZ, .boolean)] A (wWX12 cB cI cZ a0 R.2.1 R.2.2.1 R.2.2.2) t) A) [.ref (a0 0), .int x1, .int x2, .int x3].toArray s 0 0 A) (F0 m 29 ls []) := by
        intro fu29
        induction fu29 with
        | zero =>
          intro I0_l29 L0_l29 M0_l29 y29_4 H locs hP hD hS ls hl hf
          exact absurd hf (by rw [fX12_wheel_L29.eq_1]; exact fun h => nomatch h)
        | succ fu29 ih29 =>
          intro I0_l29 L0_l29 M0_l29 y29_4 H locs hP hD hS ls hl hf
          rw [fX12_wheel_L29.eq_2] at hf
          refine lv_iload hx hb dX12_wheel_29 (lv_at hl 3 rfl) ?_
          refine lv_bipush (v := (22 : Int32)) hx hb dX12_wheel_31 (by decide) ?_
          refine lv_icmp_ge (tgt := 50) hx hb dX12_wheel_33 (by decide) (fun hc => ?_) (fun hc => ?_)
          · replace hf := wb_t hc hf
            have Lh50 : ∀ (fu50 : Nat) (I0_l50 : Nat → Int32) (L0_l50 : Int64) (M0_l50 : Nat → Nat → Int32) (H : Heap) (locs : List Loc), va_P D vwCl (wWX12 cB cI cZ a0 I0_l50 L0_l50 M0_l50) H → va_D A (wWX12 cB cI cZ a0 I0_l50 L0_l50 M0_l50) → va_S A s.heap H locs → ∀ (ls : Array Slot), lv_has ls 5 [(0, .ref (a0 0)), (1, .int x1), (2, .int x2)] → fX12_wheel_L50 N x1 x2 x3 (fX12_wheel_L29 N x1 x2 x3 fu29) fu50 I0_l50 L0_l50 M0_l50 = some R → W p l e (headSpec wsX12_wheel { frames := 4, cells := 0, slots := 0, locals := 93 }).room s m [.ref (a0 0), .int x1, .int x2, .int x3].toArray below meth c H locs 0 0 (MQ below (va_Qi (fun r (_ : Unit) => r = R.1) (fun _ t => wb_post D [(cB, .byte), (cI, .int), (cZ, .boolean)] A (wWX12 cB cI cZ a0 R.2.1 R.2.2.1 R.2.2.2) t) A) [.ref (a0 0), .int x1, .int x2, .int x3].toArray s 0 0 A) (F0 m 50 ls []) := by
              intro fu50
              induction fu50 with
              | zero =>
                intro I0_l50 L0_l50 M0_l50 H locs hP hD hS ls hl hf
                exact absurd hf (by rw [fX12_wheel_L50.eq_1]; exact fun h => nomatch h)
              | succ fu50 ih50 =>
                intro I0_l50 L0_l50 M0_l50 H locs hP hD hS ls hl hf
                rw [fX12_wheel_L50.eq_2] at hf
                refine lv_aload_n hx hb dX12_wheel_50 rfl (lv_at hl 0 rfl) ?_
                obtain ⟨r7, hr7, hf⟩ := wb_b hf
                refine vp_callSi (W.runV (As := []) (rest := []) ⟨hx, hb, hml, hown, hts⟩ (cn_X12_isGood l D cB cI cZ N a0 I0_l50 L0_l50 M0_l50 r7 hr7) (cwV 0 hts gX12_wheel_X12_isGood rfl rfl rfl cdX12_isGood ⟨Nat.le_of_ble_eq_true rfl, Nat.le_of_ble_eq_true rfl⟩) (wb_preV hP hK (wr_12 hK hP (q0 := 0) rfl)) rfl rfl hl.1 rfl (lv_room (Nat.le_of_ble_eq_true rfl)) dX12_wheel_51 ⟨Nat.le_of_ble_eq_true rfl, Nat.le_of_ble_eq_true rfl⟩) (fun r9 e9 => ?_)
                rw [e9]
                refine lv_if_eq (tgt := 71) hx hb dX12_wheel_54 (by decide) (fun hc => ?_) (fun hc => ?_)
                · replace hf := wb_t hc hf
                  exact J71 I0_l50 L0_l50 M0_l50 H locs hP hD hS ls (lv_sub hl [0, 1, 2] rfl) hf
                · replace hf := wb_f hc hf
                  refine lv_aload_n hx hb dX12_wheel_57 rfl (lv_at hl 0 rfl) ?_
                  refine va_get (D := D) (ci := 12) (v := .int (I0_l50 8)) (C := RX12) (T := TX12) (N := 58) hx hb hts hinX12 hown hK hP 0 rfl rfl 17 (by decide) (hts (.fieldLink RX12 159 "WheelBookModel" "sort" "I") (List.mem_of_getElem? (i := 3) rfl)) (fun _ h9 => h9) rfl dX12_wheel_58 ?_
                  refine lv_if_eq (tgt := 71) hx hb dX12_wheel_61 (by decide) (fun hc => ?_) (fun hc => ?_)
                  · replace hf := wb_t hc hf
                    exact J71 I0_l50 L0_l50 M0_l50 H locs hP hD hS ls (lv_sub hl [0, 1, 2] rfl) hf
                  · replace hf := wb_f hc hf
                    refine lv_aload_n hx hb dX12_wheel_64 rfl (lv_at hl 0 rfl) ?_
                    obtain ⟨r8, hr8, hf⟩ := wb_b hf
                    have hPc := hP
                    have hDc := hD
                    have hFc := wj_F hDc hS hA
                    refine va_callv (va_runV (As := []) (rest := []) ⟨hx, hb, hml, hown, hts⟩ (cn_X12_readsEntry l D cB cI cZ N a0 I0_l50 L0_l50 M0_l50 H.size r8 hr8) (cwV 0 hts gX12_wheel_X12_readsEntry rfl rfl rfl cdX12_readsEntry ⟨Nat.le_of_ble_eq_true rfl, Nat.le_of_ble_eq_true rfl⟩) (wb_preDV hPc hK hDc (wr_12 hK hP (q0 := 0) rfl)) rfl rfl hl.1 rfl (lv_room (Nat.le_of_ble_eq_true rfl)) dX12_wheel_65 ⟨Nat.le_of_ble_eq_true rfl, Nat.le_of_ble_eq_true rfl⟩) hS (fun q _ h => hFc q h) hFc (fun u t H locs ht hvm hw hB hz1 hk1 hS => ?_)
                    obtain ⟨hP, hD⟩ := wj_0 hFc ht hB
                    refine lv_goto (tgt := 50) hx hb dX12_wheel_68 (by decide) ?_
                    exact ih50 r8.1 r8.2.1 r8.2.2 H locs hP hD hS ls (lv_sub hl [0, 1, 2] rfl) hf
            exact Lh50 N I0_l29 L0_l29 M0_l29 H locs hP hD hS ls (lv_sub hl [0, 1, 2] rfl) hf
          · replace hf := wb_f hc hf
            refine lv_aload_n hx hb dX12_wheel_36 rfl (lv_at hl 0 rfl) ?_
            refine va_get (D := D) (ci := 12) (v := .ref (a0 17)) (C := RX12) (T := TX12) (N := 58) hx hb hts hinX12 hown hK hP 0 rfl rfl 32 (by decide) (hts (.fieldLink RX12 62 "WheelBookModel" "newEntries" "[I") (List.mem_of_getElem? (i := 2) rfl)) (fun _ h9 => h9) rfl dX12_wheel_37 ?_
            refine lv_iload hx hb dX12_wheel_40 (lv_at hl 3 rfl) ?_
            refine lv_iconst (v := (-1 : Int32)) hx hb dX12_wheel_42 (by decide) ?_
            obtain ⟨hin, hf⟩ := wb_n hf
            refine va_iast hx hb hK hP hD hS 17 1 rfl rfl hin dX12_wheel_43 (fun H locs hP hD hS => ?_)
            have hP : va_P D vwCl (wWX12 cB cI cZ a0 I0_l29 L0_l29 (wb_um M0_l29 16 (y29_4).toNatClampNeg (-1 : Int32))) H := hP
            have hD : va_D A (wWX12 cB cI cZ a0 I0_l29 L0_l29 (wb_um M0_l29 16 (y29_4).toNatClampNeg (-1 : Int32))) := hD
            obtain ⟨M0_9, eM0_9, hf⟩ := wb_v hf
            rw [← eM0_9] at hP hD
            obtain ⟨v10, ev10, hf⟩ := wb_v hf
            refine lv_iinc (v := v10) (lv' := [(4, .int v10), (0, .ref (a0 0)), (1, .int x1), (2, .int x2)]) hx hb dX12_wheel_44 hl (k := 3) rfl (by rw [ev10]; rfl) (by decide) rfl (fun ls hl => ?_)
            refine lv_goto (tgt := 29) hx hb dX12_wheel_47 (by decide) ?_
            exact ih29 I0_l29 L0_l29 M0_9 v10 H locs hP hD hS ls (lv_sub hl [1, 2, 3, 0] rfl) hf
      exact Lh29 N r6.2.1 r6.2.2.1 r6.2.2.2 (0 : Int32) H locs hP hD hS ls (lv_sub hl [1, 2, 3, 0] rfl) hf
    · replace hf := wb_t hc hf
      refine lv_iconst (v := (0 : Int32)) hx hb dX12_wheel_24 (by decide) ?_
      exact W.iret (v := (0 : Int32)) hx hb hr (fun t ht hW => by rw [← Option.some.inj hf]; exact ⟨⟨(0 : Int32), (), rfl, rfl, by rw [ht]; exact hP, va_K.moved hW.alike hK, hD⟩, hS.F ht⟩) hS.2.2 dX12_wheel_25
  · replace hf := wb_t hc hf
    refine lv_iconst (v := (0 : Int32)) hx hb dX12_wheel_9 (by decide) ?_
    exact W.iret (v := (0 : Int32)) hx hb hr (fun t ht hW => by rw [← Option.some.inj hf]; exact ⟨⟨(0 : Int32), (), rfl, rfl, by rw [ht]; exact hP, va_K.moved hW.alike hK, hD⟩, hS.F ht⟩) hS.2.2 dX12_wheel_10

set_option maxHeartbeats 4000000 in
set_option maxRecDepth 100000 in
theorem cn_X12_fault (l : Launch) (D : va_G) (cB cI cZ : ClassId) (N : Nat) (a0 : Nat → Nat) (I0 : Nat → Int32) (L0 : Int64) (M0 : Nat → Nat → Int32) (sz : Nat) (R : Int32 × (Nat → Int32) × Int64 × (Nat → Nat → Int32)) (hf : fX12_fault N I0 L0 M0 = some R) : Met l yX12_fault wsX12_fault ({ frames := 0, cells := 0, slots := 0, locals := 0 }) (va_Pc [.ref (a0 0)] (wb_preD D [(cB, .byte), (cI, .int), (cZ, .boolean)] (wWX12 cB cI cZ a0 I0 L0 M0) sz)) (va_Qi (fun r (_ : Unit) => r = R.1) (fun _ t => wb_post D [(cB, .byte), (cI, .int), (cZ, .boolean)] (va_A (wWX12 cB cI cZ a0 I0 L0 M0) sz) (wWX12 cB cI cZ a0 R.2.1 R.2.2.1 R.2.2.2) t) (va_A (wWX12 cB cI cZ a0 I0 L0 M0) sz)) 0 0 (va_A (wWX12 cB cI cZ a0 I0 L0 M0) sz) := by
  refine Met.ofW (cc := cX12_fault) (maxL := 1) (ret := (some .int)) pn_X12 rfl ?_
  intro p e s m args below meth c s₁ B hml hv
  obtain ⟨rfl, hsz, hP, hK, hD0⟩ := hv
  have hx := B.exec
  have hb := B.bytes
  have hr := B.returns
  have hts := atoms_spec (ws := wsX12_fault) B.pre
  have hown : s.vm.findClass RX12 = some m.cls := (findClass_of_methodNamed B.named :)
  have hlocks := B.notSynchronized
  have hinX12 : ∀ w ∈ u_ws RX12 TX12 58, w ∈ wsX12_fault := fun w h => List.mem_cons_of_mem _ (List.mem_append_right _ h)
  subst hsz
  have hD := hD0.self (sz := s.heap.size)
  generalize hAe : va_A (wWX12 cB cI cZ a0 I0 L0 M0) s.heap.size = A at hD ⊢
  have hA : ∀ q : Nat, s.heap.size ≤ q → A q := fun q h => by rw [← hAe]; exact Or.inr h
  have hS : va_S A s.heap s.heap [] := va_S.rf
  have hl := lv_entry ([.ref (a0 0)]) (n := 1) (Nat.le_of_ble_eq_true rfl)
  rw [lg_entry_eq]
  generalize (lg_sl ([.ref (a0 0)]) ++ List.replicate (1 - (lg_sl ([.ref (a0 0)])).length) Slot.unset).toArray = ls at hl ⊢
  have hl : lv_has ls 1 [(0, .ref (a0 0))] := hl
  unfold fX12_fault at hf
  obtain ⟨H, hHe⟩ : ∃ H : Heap, H = s.heap := ⟨_, rfl⟩
  obtain ⟨locs, hle⟩ : ∃ locs : List Loc, locs = [] := ⟨_, rfl⟩
  refine wb_start (H := H) (locs := locs) hHe hle ?_
  rw [← hHe] at hP
  have hS : va_S A s.heap H locs := by rw [hHe, hle]; exact va_S.rf
  refine lv_aload_n hx hb dX12_fault_0 rfl (lv_at hl 0 rfl) ?_
  refine lv_iconst (v := (0 : Int32)) hx hb dX12_fault_1 (by decide) ?_
  refine va_put (D := D) (ci := 12) (v := .int (0 : Int32)) (ty := .int) (C := RX12) (T := TX12) (N := 58) hx hb hts hinX12 tyX12 tyX12_ok nmX12 hown hK hP hD hS 0 rfl rfl 0 (by decide) (hts (.fieldLink RX12 129 "WheelBookModel" "thrown" "I") (List.mem_of_getElem? (i := 1) rfl)) (fun _ h9 => h9) rfl (by decide +kernel) rfl rfl (Nat.le_of_ble_eq_true rfl) dX12_fault_2 (fun H locs hP hD hS => ?_)
  have hP : va_P D vwCl (wWX12 cB cI cZ a0 (upd I0 0 (0 : Int32)) L0 M0) H := hP
  have hD : va_D A (wWX12 cB cI cZ a0 (upd I0 0 (0 : Int32)) L0 M0) := hD
  obtain ⟨I0_1, eI0_1, hf⟩ := wb_v hf
  rw [← eI0_1] at hP hD
  refine lv_aload_n hx hb dX12_fault_5 rfl (lv_at hl 0 rfl) ?_
  refine va_get (D := D) (ci := 12) (v := .int (I0_1 5)) (C := RX12) (T := TX12) (N := 58) hx hb hts hinX12 hown hK hP 0 rfl rfl 14 (by decide) (hts (.fieldLink RX12 37 "WheelBookModel" "faultPlace" "I") (List.mem_of_getElem? (i := 2) rfl)) (fun _ h9 => h9) rfl dX12_fault_6 ?_
  exact W.iret (v := (I0_1 5)) hx hb hr (fun t ht hW => by rw [← Option.some.inj hf]; exact ⟨⟨(I0_1 5), (), rfl, rfl, by rw [ht]; exact hP, va_K.moved hW.alike hK, hD⟩, hS.F ht⟩) hS.2.2 dX12_fault_9

set_option maxHeartbeats 4000000 in
set_option maxRecDepth 100000 in
theorem cn_X12_at (l : Launch) (D : va_G) (cB cI cZ : ClassId) (N : Nat) (a0 : Nat → Nat) (I0 : Nat → Int32) (L0 : Int64) (M0 : Nat → Nat → Int32) (x1 : Int32) (x2 : Int32) (R : Int32) (hf : fX12_at N I0 L0 M0 x1 x2 = some R) : Met l yX12_at wsX12_at ({ frames := 0, cells := 0, slots := 0, locals := 0 }) (va_Pc [.ref (a0 0), .int x1, .int x2] (wb_pre D [(cB, .byte), (cI, .int), (cZ, .boolean)] (wWX12 cB cI cZ a0 I0 L0 M0))) (vp_Si (fun r => r = R)) 0 0 (fun _ => False) := by
  refine Met.ofW (cc := cX12_at) (maxL := 3) (ret := (some .int)) pn_X12 rfl ?_
  intro p e s m args below meth c s₁ B hml hv
  obtain ⟨rfl, hP, hK⟩ := hv
  have hx := B.exec
  have hb := B.bytes
  have hr := B.returns
  have hts := atoms_spec (ws := wsX12_at) B.pre
  have hown : s.vm.findClass RX12 = some m.cls := (findClass_of_methodNamed B.named :)
  have hlocks := B.notSynchronized
  have hinX12 : ∀ w ∈ u_ws RX12 TX12 58, w ∈ wsX12_at := fun w h => List.mem_cons_of_mem _ (List.mem_append_right _ h)
  have hl := lv_entry ([.ref (a0 0), .int x1, .int x2]) (n := 3) (Nat.le_of_ble_eq_true rfl)
  rw [lg_entry_eq]
  generalize (lg_sl ([.ref (a0 0), .int x1, .int x2]) ++ List.replicate (3 - (lg_sl ([.ref (a0 0), .int x1, .int x2])).length) Slot.unset).toArray = ls at hl ⊢
  have hl : lv_has ls 3 [(0, .ref (a0 0)), (1, .int x1), (2, .int x2)] := hl
  unfold fX12_at at hf
  refine lv_aload_n hx hb dX12_at_0 rfl (lv_at hl 0 rfl) ?_
  refine va_get (D := D) (ci := 12) (v := .ref (a0 8)) (C := RX12) (T := TX12) (N := 58) hx hb hts hinX12 hown hK hP 0 rfl rfl 10 (by decide) (hts (.fieldLink RX12 31 "WheelBookModel" "entries" "[I") (List.mem_of_getElem? (i := 1) rfl)) (fun _ h9 => h9) rfl dX12_at_1 ?_
  refine lv_bipush (v := (22 : Int32)) hx hb dX12_at_4 (by decide) ?_
  refine lv_iload_n hx hb dX12_at_6 rfl (lv_at hl 1 rfl) ?_
  refine lv_imul hx hb dX12_at_7 ?_
  refine lv_iload_n hx hb dX12_at_8 rfl (lv_at hl 2 rfl) ?_
  refine lv_iadd hx hb dX12_at_9 ?_
  obtain ⟨hin, hf⟩ := wb_n hf
  refine va_iald hx hb hK hP 8 1 rfl rfl hin dX12_at_10 ?_
  exact W.iret (v := (M0 7 ((((22 : Int32) * x1) + x2)).toNatClampNeg)) hx hb hr (fun t ht hW => ⟨_, rfl, Option.some.inj hf, ht⟩) (fun _ h => nomatch h) dX12_at_11

set_option maxHeartbeats 4000000 in
set_option maxRecDepth 100000 in
theorem cn_X12_tells (l : Launch) (D : va_G) (cB cI cZ : ClassId) (N : Nat) (a0 : Nat → Nat) (I0 : Nat → Int32) (L0 : Int64) (M0 : Nat → Nat → Int32) (x1 : Int32) (R : Int32) (hf : fX12_tells N I0 L0 M0 x1 = some R) : Met l yX12_tells wsX12_tells ({ frames := 1, cells := 0, slots := 0, locals := 22 }) (va_Pc [.ref (a0 0), .int x1] (wb_pre D [(cB, .byte), (cI, .int), (cZ, .boolean)] (wWX12 cB cI cZ a0 I0 L0 M0))) (vp_Si (fun r => r = R)) 0 0 (fun _ => False) := by
  refine Met.ofW (cc := cX12_tells) (maxL := 4) (ret := (some .boolean)) pn_X12 rfl ?_
  intro p e s m args below meth c s₁ B hml hv
  obtain ⟨rfl, hP, hK⟩ := hv
  have hx := B.exec
  have hb := B.bytes
  have hr := B.returns
  have hts := atoms_spec (ws := wsX12_tells) B.pre
  have hown : s.vm.findClass RX12 = some m.cls := (findClass_of_methodNamed B.named :)
  have hlocks := B.notSynchronized
  have hl := lv_entry ([.ref (a0 0), .int x1]) (n := 4) (Nat.le_of_ble_eq_true rfl)
  rw [lg_entry_eq]
  generalize (lg_sl ([.ref (a0 0), .int x1]) ++ List.replicate (4 - (lg_sl ([.ref (a0 0), .int x1])).length) Slot.unset).toArray = ls at hl ⊢
  have hl : lv_has ls 4 [(0, .ref (a0 0)), (1, .int x1)] := hl
  unfold fX12_tells at hf
  refine lv_iconst (v := (0 : Int32)) hx hb dX12_tells_0 (by decide) ?_
  refine lv_istore_n (lv' := [(2, .int (0 : Int32)), (0, .ref (a0 0)), (1, .int x1)]) hx hb dX12_tells_1 rfl hl (by decide) rfl (fun ls hl => ?_)
  refine lv_iconst (v := (0 : Int32)) hx hb dX12_tells_2 (by decide) ?_
  refine lv_istore_n (lv' := [(3, .int (0 : Int32)), (2, .int (0 : Int32)), (0, .ref (a0 0)), (1, .int x1)]) hx hb dX12_tells_3 rfl hl (by decide) rfl (fun ls hl => ?_)
  have Lh4 : ∀ (fu4 : Nat) (y4_2 : Int32) (y4_3 : Int32), ∀ (ls : Array Slot), lv_has ls 4 [(0, .ref (a0 0)), (1, .int x1), (2, .int y4_2), (3, .int y4_3)] → fX12_tells_L4 N I0 L0 M0 x1 fu4 y4_2 y4_3 = some R → W p l e (headSpec wsX12_tells { frames := 1, cells := 0, slots := 0, locals := 22 }).room s m [.ref (a0 0), .int x1].toArray below meth c s.heap [] 0 0 (MQ below (vp_Si (fun r => r = R)) [.ref (a0 0), .int x1].toArray s 0 0 (fun _ => False)) (F0 m 4 ls []) := by
    intro fu4
    induction fu4 with
    | zero =>
      intro y4_2 y4_3 ls hl hf
      exact absurd hf (by rw [fX12_tells_L4.eq_1]; exact fun h => nomatch h)
    | succ fu4 ih4 =>
      intro y4_2 y4_3 ls hl hf
      rw [fX12_tells_L4.eq_2] at hf
      refine lv_iload_n hx hb dX12_tells_4 rfl (lv_at hl 3 rfl) ?_
      refine lv_bipush (v := (22 : Int32)) hx hb dX12_tells_5 (by decide) ?_
      refine lv_icmp_ge (tgt := 36) hx hb dX12_tells_7 (by decide) (fun hc => ?_) (fun hc => ?_)
      · replace hf := wb_t hc hf
        refine lv_iload_n hx hb dX12_tells_36 rfl (lv_at hl 2 rfl) ?_
        obtain ⟨hz, hf⟩ := wb_y hf
        exact W.zret (v := y4_2) hx hb hr (congrArg Value.int hz) (fun t ht hW => ⟨_, rfl, Option.some.inj hf, ht⟩) (fun _ h => nomatch h) dX12_tells_37
      · replace hf := wb_f hc hf
        refine lv_iload_n hx hb dX12_tells_10 rfl (lv_at hl 2 rfl) ?_
        refine lv_if_ne (tgt := 24) hx hb dX12_tells_11 (by decide) (fun hc => ?_) (fun hc => ?_)
        · replace hf := wb_f hc hf
          refine lv_iconst (v := (1 : Int32)) hx hb dX12_tells_24 (by decide) ?_
          refine lv_goto (tgt := 29) hx hb dX12_tells_25 (by decide) ?_
          refine lv_istore_n (lv' := [(2, .int (1 : Int32)), (0, .ref (a0 0)), (1, .int x1), (3, .int y4_3)]) hx hb dX12_tells_29 rfl hl (by decide) rfl (fun ls hl => ?_)
          obtain ⟨v1, ev1, hf⟩ := wb_v hf
          refine lv_iinc (v := v1) (lv' := [(3, .int v1), (2, .int (1 : Int32)), (0, .ref (a0 0)), (1, .int x1)]) hx hb dX12_tells_30 hl (k := 3) rfl (by rw [ev1]; rfl) (by decide) rfl (fun ls hl => ?_)
          refine lv_goto (tgt := 4) hx hb dX12_tells_33 (by decide) ?_
          exact ih4 (1 : Int32) v1 ls (lv_sub hl [2, 3, 1, 0] rfl) hf
        · replace hf := wb_t hc hf
          refine lv_aload_n hx hb dX12_tells_14 rfl (lv_at hl 0 rfl) ?_
          refine lv_iload_n hx hb dX12_tells_15 rfl (lv_at hl 1 rfl) ?_
          refine lv_iload_n hx hb dX12_tells_16 rfl (lv_at hl 3 rfl) ?_
          obtain ⟨r2, hr2, hf⟩ := wb_b hf
          refine vp_callSi (W.runV (As := [.int x1, .int y4_3]) (rest := []) ⟨hx, hb, hml, hown, hts⟩ (cn_X12_at l D cB cI cZ N a0 I0 L0 M0 x1 y4_3 r2 hr2) (cwV 2 hts gX12_tells_X12_at rfl rfl rfl cdX12_at ⟨Nat.le_of_ble_eq_true rfl, Nat.le_of_ble_eq_true rfl⟩) (wb_preV hP hK (wr_12 hK hP (q0 := 0) rfl)) rfl rfl hl.1 rfl (lv_room (Nat.le_of_ble_eq_true rfl)) dX12_tells_17 ⟨Nat.le_of_ble_eq_true rfl, Nat.le_of_ble_eq_true rfl⟩) (fun r9 e9 => ?_)
          rw [e9]
          refine lv_iconst (v := (-1 : Int32)) hx hb dX12_tells_20 (by decide) ?_
          refine lv_icmp_eq (tgt := 28) hx hb dX12_tells_21 (by decide) (fun hc => ?_) (fun hc => ?_)
          · replace hf := wb_t hc hf
            refine lv_iconst (v := (0 : Int32)) hx hb dX12_tells_28 (by decide) ?_
            refine lv_istore_n (lv' := [(2, .int (0 : Int32)), (0, .ref (a0 0)), (1, .int x1), (3, .int y4_3)]) hx hb dX12_tells_29 rfl hl (by decide) rfl (fun ls hl => ?_)
            obtain ⟨v3, ev3, hf⟩ := wb_v hf
            refine lv_iinc (v := v3) (lv' := [(3, .int v3), (2, .int (0 : Int32)), (0, .ref (a0 0)), (1, .int x1)]) hx hb dX12_tells_30 hl (k := 3) rfl (by rw [ev3]; rfl) (by decide) rfl (fun ls hl => ?_)
            refine lv_goto (tgt := 4) hx hb dX12_tells_33 (by decide) ?_
            exact ih4 (0 : Int32) v3 ls (lv_sub hl [2, 3, 1, 0] rfl) hf
          · replace hf := wb_f hc hf
            refine lv_iconst (v := (1 : Int32)) hx hb dX12_tells_24 (by decide) ?_
            refine lv_goto (tgt := 29) hx hb dX12_tells_25 (by decide) ?_
            refine lv_istore_n (lv' := [(2, .int (1 : Int32)), (0, .ref (a0 0)), (1, .int x1), (3, .int y4_3)]) hx hb dX12_tells_29 rfl hl (by decide) rfl (fun ls hl => ?_)
            obtain ⟨v4, ev4, hf⟩ := wb_v hf
            refine lv_iinc (v := v4) (lv' := [(3, .int v4), (2, .int (1 : Int32)), (0, .ref (a0 0)), (1, .int x1)]) hx hb dX12_tells_30 hl (k := 3) rfl (by rw [ev4]; rfl) (by decide) rfl (fun ls hl => ?_)
            refine lv_goto (tgt := 4) hx hb dX12_tells_33 (by decide) ?_
            exact ih4 (1 : Int32) v4 ls (lv_sub hl [2, 3, 1, 0] rfl) hf
  exact Lh4 N (0 : Int32) (0 : Int32) ls (lv_sub hl [2, 3, 1, 0] rfl) hf

set_option maxHeartbeats 4000000 in
set_option maxRecDepth 100000 in
theorem cn_X12_bookTells (l : Launch) (D : va_G) (cB cI cZ : ClassId) (N : Nat) (a0 : Nat → Nat) (I0 : Nat → Int32) (L0 : Int64) (M0 : Nat → Nat → Int32) (x1 : Int32) (R : Int32) (hf : fX12_bookTells N I0 L0 M0 x1 = some R) : Met l yX12_bookTells wsX12_bookTells ({ frames := 2, cells := 0, slots := 0, locals := 45 }) (va_Pc [.ref (a0 0), .int x1] (wb_pre D [(cB, .byte), (cI, .int), (cZ, .boolean)] (wWX12 cB cI cZ a0 I0 L0 M0))) (vp_Si (fun r => r = R)) 0 0 (fun _ => False) := by
  refine Met.ofW (cc := cX12_bookTells) (maxL := 4) (ret := (some .boolean)) pn_X12 rfl ?_
  intro p e s m args below meth c s₁ B hml hv
  obtain ⟨rfl, hP, hK⟩ := hv
  have hx := B.exec
  have hb := B.bytes
  have hr := B.returns
  have hts := atoms_spec (ws := wsX12_bookTells) B.pre
  have hown : s.vm.findClass RX12 = some m.cls := (findClass_of_methodNamed B.named :)
  have hlocks := B.notSynchronized
  have hl := lv_entry ([.ref (a0 0), .int x1]) (n := 4) (Nat.le_of_ble_eq_true rfl)
  rw [lg_entry_eq]
  generalize (lg_sl ([.ref (a0 0), .int x1]) ++ List.replicate (4 - (lg_sl ([.ref (a0 0), .int x1])).length) Slot.unset).toArray = ls at hl ⊢
  have hl : lv_has ls 4 [(0, .ref (a0 0)), (1, .int x1)] := hl
  unfold fX12_bookTells at hf
  refine lv_iconst (v := (0 : Int32)) hx hb dX12_bookTells_0 (by decide) ?_
  refine lv_istore_n (lv' := [(2, .int (0 : Int32)), (0, .ref (a0 0)), (1, .int x1)]) hx hb dX12_bookTells_1 rfl hl (by decide) rfl (fun ls hl => ?_)
  refine lv_iconst (v := (0 : Int32)) hx hb dX12_bookTells_2 (by decide) ?_
  refine lv_istore_n (lv' := [(3, .int (0 : Int32)), (2, .int (0 : Int32)), (0, .ref (a0 0)), (1, .int x1)]) hx hb dX12_bookTells_3 rfl hl (by decide) rfl (fun ls hl => ?_)
  have Lh4 : ∀ (fu4 : Nat) (y4_2 : Int32) (y4_3 : Int32), ∀ (ls : Array Slot), lv_has ls 4 [(0, .ref (a0 0)), (1, .int x1), (2, .int y4_2), (3, .int y4_3)] → fX12_bookTells_L4 N I0 L0 M0 x1 fu4 y4_2 y4_3 = some R → W p l e (headSpec wsX12_bookTells { frames := 2, cells := 0, slots := 0, locals := 45 }).room s m [.ref (a0 0), .int x1].toArray below meth c s.heap [] 0 0 (MQ below (vp_Si (fun r => r = R)) [.ref (a0 0), .int x1].toArray s 0 0 (fun _ => False)) (F0 m 4 ls []) := by
    intro fu4
    induction fu4 with
    | zero =>
      intro y4_2 y4_3 ls hl hf
      exact absurd hf (by rw [fX12_bookTells_L4.eq_1]; exact fun h => nomatch h)
    | succ fu4 ih4 =>
      intro y4_2 y4_3 ls hl hf
      rw [fX12_bookTells_L4.eq_2] at hf
      refine lv_iload_n hx hb dX12_bookTells_4 rfl (lv_at hl 3 rfl) ?_
      refine lv_bipush (v := (20 : Int32)) hx hb dX12_bookTells_5 (by decide) ?_
      refine lv_icmp_ge (tgt := 39) hx hb dX12_bookTells_7 (by decide) (fun hc => ?_) (fun hc => ?_)
      · replace hf := wb_t hc hf
        refine lv_iload_n hx hb dX12_bookTells_39 rfl (lv_at hl 2 rfl) ?_
        obtain ⟨hz, hf⟩ := wb_y hf
        exact W.zret (v := y4_2) hx hb hr (congrArg Value.int hz) (fun t ht hW => ⟨_, rfl, Option.some.inj hf, ht⟩) (fun _ h => nomatch h) dX12_bookTells_40
      · replace hf := wb_f hc hf
        refine lv_iload_n hx hb dX12_bookTells_10 rfl (lv_at hl 2 rfl) ?_
        refine lv_if_ne (tgt := 27) hx hb dX12_bookTells_11 (by decide) (fun hc => ?_) (fun hc => ?_)
        · replace hf := wb_f hc hf
          refine lv_iconst (v := (1 : Int32)) hx hb dX12_bookTells_27 (by decide) ?_
          refine lv_goto (tgt := 32) hx hb dX12_bookTells_28 (by decide) ?_
          refine lv_istore_n (lv' := [(2, .int (1 : Int32)), (0, .ref (a0 0)), (1, .int x1), (3, .int y4_3)]) hx hb dX12_bookTells_32 rfl hl (by decide) rfl (fun ls hl => ?_)
          obtain ⟨v1, ev1, hf⟩ := wb_v hf
          refine lv_iinc (v := v1) (lv' := [(3, .int v1), (2, .int (1 : Int32)), (0, .ref (a0 0)), (1, .int x1)]) hx hb dX12_bookTells_33 hl (k := 3) rfl (by rw [ev1]; rfl) (by decide) rfl (fun ls hl => ?_)
          refine lv_goto (tgt := 4) hx hb dX12_bookTells_36 (by decide) ?_
          exact ih4 (1 : Int32) v1 ls (lv_sub hl [2, 3, 1, 0] rfl) hf
        · replace hf := wb_t hc hf
          refine lv_aload_n hx hb dX12_bookTells_14 rfl (lv_at hl 0 rfl) ?_
          refine lv_bipush (v := (20 : Int32)) hx hb dX12_bookTells_15 (by decide) ?_
          refine lv_iload_n hx hb dX12_bookTells_17 rfl (lv_at hl 1 rfl) ?_
          refine lv_imul hx hb dX12_bookTells_18 ?_
          refine lv_iload_n hx hb dX12_bookTells_19 rfl (lv_at hl 3 rfl) ?_
          refine lv_iadd hx hb dX12_bookTells_20 ?_
          obtain ⟨r2, hr2, hf⟩ := wb_b hf
          refine vp_callSi (W.runV (As := [.int (((20 : Int32) * x1) + y4_3)]) (rest := []) ⟨hx, hb, hml, hown, hts⟩ (cn_X12_tells l D cB cI cZ N a0 I0 L0 M0 (((20 : Int32) * x1) + y4_3) r2 hr2) (cwV 1 hts gX12_bookTells_X12_tells rfl rfl rfl cdX12_tells ⟨Nat.le_of_ble_eq_true rfl, Nat.le_of_ble_eq_true rfl⟩) (wb_preV hP hK (wr_12 hK hP (q0 := 0) rfl)) rfl rfl hl.1 rfl (lv_room (Nat.le_of_ble_eq_true rfl)) dX12_bookTells_21 ⟨Nat.le_of_ble_eq_true rfl, Nat.le_of_ble_eq_true rfl⟩) (fun r9 e9 => ?_)
          rw [e9]
          refine lv_if_eq (tgt := 31) hx hb dX12_bookTells_24 (by decide) (fun hc => ?_) (fun hc => ?_)
          · replace hf := wb_t hc hf
            refine lv_iconst (v := (0 : Int32)) hx hb dX12_bookTells_31 (by decide) ?_
            refine lv_istore_n (lv' := [(2, .int (0 : Int32)), (0, .ref (a0 0)), (1, .int x1), (3, .int y4_3)]) hx hb dX12_bookTells_32 rfl hl (by decide) rfl (fun ls hl => ?_)
            obtain ⟨v3, ev3, hf⟩ := wb_v hf
            refine lv_iinc (v := v3) (lv' := [(3, .int v3), (2, .int (0 : Int32)), (0, .ref (a0 0)), (1, .int x1)]) hx hb dX12_bookTells_33 hl (k := 3) rfl (by rw [ev3]; rfl) (by decide) rfl (fun ls hl => ?_)
            refine lv_goto (tgt := 4) hx hb dX12_bookTells_36 (by decide) ?_
            exact ih4 (0 : Int32) v3 ls (lv_sub hl [2, 3, 1, 0] rfl) hf
          · replace hf := wb_f hc hf
            refine lv_iconst (v := (1 : Int32)) hx hb dX12_bookTells_27 (by decide) ?_
            refine lv_goto (tgt := 32) hx hb dX12_bookTells_28 (by decide) ?_
            refine lv_istore_n (lv' := [(2, .int (1 : Int32)), (0, .ref (a0 0)), (1, .int x1), (3, .int y4_3)]) hx hb dX12_bookTells_32 rfl hl (by decide) rfl (fun ls hl => ?_)
            obtain ⟨v4, ev4, hf⟩ := wb_v hf
            refine lv_iinc (v := v4) (lv' := [(3, .int v4), (2, .int (1 : Int32)), (0, .ref (a0 0)), (1, .int x1)]) hx hb dX12_bookTells_33 hl (k := 3) rfl (by rw [ev4]; rfl) (by decide) rfl (fun ls hl => ?_)
            refine lv_goto (tgt := 4) hx hb dX12_bookTells_36 (by decide) ?_
            exact ih4 (1 : Int32) v4 ls (lv_sub hl [2, 3, 1, 0] rfl) hf
  exact Lh4 N (0 : Int32) (0 : Int32) ls (lv_sub hl [2, 3, 1, 0] rfl) hf

set_option maxHeartbeats 4000000 in
set_option maxRecDepth 100000 in
theorem cn_X12_floor (l : Launch) (D : va_G) (cB cI cZ : ClassId) (N : Nat) (x0 : Int64) (x1 : Int64) (R : Int64) (hf : fX12_floor N x0 x1 = some R) : Met l yX12_floor wsX12_floor ({ frames := 0, cells := 0, slots := 0, locals := 0 }) (va_Pc [.long x0, .long x1] (wb_pre D [(cB, .byte), (cI, .int), (cZ, .boolean)] ([] : va_W))) (vp_Sl (fun r => r = R)) 0 0 (fun _ => False) := by
  refine Met.ofW (cc := cX12_floor) (maxL := 6) (ret := (some .long)) pn_X12 rfl ?_
  intro p e s m args below meth c s₁ B hml hv
  obtain ⟨rfl, hP, hK⟩ := hv
  have hx := B.exec
  have hb := B.bytes
  have hr := B.returns
  have hts := atoms_spec (ws := wsX12_floor) B.pre
  have hown : s.vm.findClass RX12 = some m.cls := (findClass_of_methodNamed B.named :)
  have hlocks := B.notSynchronized
  have hl := lv_entry ([.long x0, .long x1]) (n := 6) (Nat.le_of_ble_eq_true rfl)
  rw [lg_entry_eq]
  generalize (lg_sl ([.long x0, .long x1]) ++ List.replicate (6 - (lg_sl ([.long x0, .long x1])).length) Slot.unset).toArray = ls at hl ⊢
  have hl : lv_has ls 6 [(0, .long x0), (2, .long x1)] := hl
  unfold fX12_floor at hf
  refine lv_lload_n hx hb dX12_floor_0 rfl (lv_at hl 0 rfl) ?_
  refine lv_lload_n hx hb dX12_floor_1 rfl (lv_at hl 1 rfl) ?_
  obtain ⟨hz, hf⟩ := wb_n hf
  refine lv_ldiv hx hb dX12_floor_2 hz ?_
  obtain ⟨v1, ev1, hf⟩ := wb_v hf
  refine wb_topl ev1 ?_
  refine lv_lstore (lv' := [(4, .long v1), (0, .long x0), (2, .long x1)]) hx hb dX12_floor_3 hl (by decide) rfl (fun ls hl => ?_)
  refine lv_lload_n hx hb dX12_floor_5 rfl (lv_at hl 1 rfl) ?_
  refine lv_lload_n hx hb dX12_floor_6 rfl (lv_at hl 2 rfl) ?_
  obtain ⟨hz, hf⟩ := wb_n hf
  refine lv_lrem hx hb dX12_floor_7 hz ?_
  refine lv_lconst (v := (0 : Int64)) hx hb dX12_floor_8 (by decide) ?_
  refine W.lcmp hx hb dX12_floor_9 ?_
  refine lv_if_eq (tgt := 26) hx hb dX12_floor_10 (by decide) (fun hc => ?_) (fun hc => ?_)
  · replace hf := wb_t hc hf
    refine lv_lload hx hb dX12_floor_26 (lv_at hl 0 rfl) ?_
    exact W.lret (v := v1) hx hb hr (fun t ht hW => ⟨_, rfl, Option.some.inj hf, ht⟩) (fun _ h => nomatch h) dX12_floor_28
  · replace hf := wb_f hc hf
    refine lv_lload_n hx hb dX12_floor_13 rfl (lv_at hl 1 rfl) ?_
    refine lv_lconst (v := (0 : Int64)) hx hb dX12_floor_14 (by decide) ?_
    refine W.lcmp hx hb dX12_floor_15 ?_
    refine lv_if_ge (tgt := 26) hx hb dX12_floor_16 (by decide) (fun hc => ?_) (fun hc => ?_)
    · replace hf := wb_t hc hf
      refine lv_lload hx hb dX12_floor_26 (lv_at hl 0 rfl) ?_
      exact W.lret (v := v1) hx hb hr (fun t ht hW => ⟨_, rfl, Option.some.inj hf, ht⟩) (fun _ h => nomatch h) dX12_floor_28
    · replace hf := wb_f hc hf
      refine lv_lload hx hb dX12_floor_19 (lv_at hl 0 rfl) ?_
      refine lv_lconst (v := (1 : Int64)) hx hb dX12_floor_21 (by decide) ?_
      refine lv_lsub hx hb dX12_floor_22 ?_
      refine lv_goto (tgt := 28) hx hb dX12_floor_23 (by decide) ?_
      exact W.lret (v := (v1 - (1 : Int64))) hx hb hr (fun t ht hW => ⟨_, rfl, Option.some.inj hf, ht⟩) (fun _ h => nomatch h) dX12_floor_28

set_option maxHeartbeats 4000000 in
set_option maxRecDepth 100000 in
theorem cn_X12_placeOn (l : Launch) (D : va_G) (cB cI cZ : ClassId) (N : Nat) (a0 : Nat → Nat) (I0 : Nat → Int32) (L0 : Int64) (M0 : Nat → Nat → Int32) (x1 : Int32) (x2 : Int32) (x3 : Int32) (R : Int32) (hf : fX12_placeOn N I0 L0 M0 x1 x2 x3 = some R) : Met l yX12_placeOn wsX12_placeOn ({ frames := 1, cells := 0, slots := 0, locals := 25 }) (va_Pc [.ref (a0 0), .int x1, .int x2, .int x3] (wb_pre D [(cB, .byte), (cI, .int), (cZ, .boolean)] (wWX12 cB cI cZ a0 I0 L0 M0))) (vp_Si (fun r => r = R)) 0 0 (fun _ => False) := by
  refine Met.ofW (cc := cX12_placeOn) (maxL := 12) (ret := (some .int)) pn_X12 rfl ?_
  intro p e s m args below meth c s₁ B hml hv
  obtain ⟨rfl, hP, hK⟩ := hv
  have hx := B.exec
  have hb := B.bytes
  have hr := B.returns
  have hts := atoms_spec (ws := wsX12_placeOn) B.pre
  have hown : s.vm.findClass RX12 = some m.cls := (findClass_of_methodNamed B.named :)
  have hlocks := B.notSynchronized
  have hinX12 : ∀ w ∈ u_ws RX12 TX12 58, w ∈ wsX12_placeOn := fun w h => List.mem_cons_of_mem _ (List.mem_append_right _ h)
  have hl := lv_entry ([.ref (a0 0), .int x1, .int x2, .int x3]) (n := 12) (Nat.le_of_ble_eq_true rfl)
  rw [lg_entry_eq]
  generalize (lg_sl ([.ref (a0 0), .int x1, .int x2, .int x3]) ++ List.replicate (12 - (lg_sl ([.ref (a0 0), .int x1, .int x2, .int x3])).length) Slot.unset).toArray = ls at hl ⊢
  have hl : lv_has ls 12 [(0, .ref (a0 0)), (1, .int x1), (2, .int x2), (3, .int x3)] := hl
  unfold fX12_placeOn at hf
  have J79 : ∀ (y79_4 : Int32) (z79_0 : Int64) (z79_1 : Int64) (z79_2 : Int64), ∀ (ls : Array Slot), lv_has ls 12 [(0, .ref (a0 0)), (4, .int y79_4)] → fX12_placeOn_J79 N I0 L0 M0 x1 x2 x3 y79_4 z79_0 z79_1 z79_2 = some R → W p l e (headSpec wsX12_placeOn { frames := 1, cells := 0, slots := 0, locals := 25 }).room s m [.ref (a0 0), .int x1, .int x2, .int x3].toArray below meth c s.heap [] 0 0 (MQ below (vp_Si (fun r => r = R)) [.ref (a0 0), .int x1, .int x2, .int x3].toArray s 0 0 (fun _ => False)) (F0 m 79 ls [.long z79_0, .long z79_1, .long z79_2]) := by
    intro y79_4 z79_0 z79_1 z79_2 ls hl hf
    unfold fX12_placeOn_J79 at hf
    refine lv_lmul hx hb dX12_placeOn_79 ?_
    refine lv_aload_n hx hb dX12_placeOn_80 rfl (lv_at hl 0 rfl) ?_
    refine va_get (D := D) (ci := 12) (v := .ref (a0 4)) (C := RX12) (T := TX12) (N := 58) hx hb hts hinX12 hown hK hP 0 rfl rfl 4 (by decide) (hts (.fieldLink RX12 19 "WheelBookModel" "period" "[I") (List.mem_of_getElem? (i := 1) rfl)) (fun _ h9 => h9) rfl dX12_placeOn_81 ?_
    refine lv_iload hx hb dX12_placeOn_84 (lv_at hl 1 rfl) ?_
    obtain ⟨hin, hf⟩ := wb_n hf
    refine va_iald hx hb hK hP 4 1 rfl rfl hin dX12_placeOn_86 ?_
    refine lv_i2l hx hb dX12_placeOn_87 rfl ?_
    refine lv_lsub hx hb dX12_placeOn_88 ?_
    refine lv_aload_n hx hb dX12_placeOn_89 rfl (lv_at hl 0 rfl) ?_
    refine va_get (D := D) (ci := 12) (v := .ref (a0 3)) (C := RX12) (T := TX12) (N := 58) hx hb hts hinX12 hown hK hP 0 rfl rfl 3 (by decide) (hts (.fieldLink RX12 16 "WheelBookModel" "swing" "[I") (List.mem_of_getElem? (i := 6) rfl)) (fun _ h9 => h9) rfl dX12_placeOn_90 ?_
    refine lv_iload hx hb dX12_placeOn_93 (lv_at hl 1 rfl) ?_
    obtain ⟨hin, hf⟩ := wb_n hf
    refine va_iald hx hb hK hP 3 1 rfl rfl hin dX12_placeOn_95 ?_
    refine lv_i2l hx hb dX12_placeOn_96 rfl ?_
    refine lv_lmul hx hb dX12_placeOn_97 ?_
    refine lv_aload_n hx hb dX12_placeOn_98 rfl (lv_at hl 0 rfl) ?_
    refine va_get (D := D) (ci := 12) (v := .ref (a0 4)) (C := RX12) (T := TX12) (N := 58) hx hb hts hinX12 hown hK hP 0 rfl rfl 4 (by decide) (hts (.fieldLink RX12 19 "WheelBookModel" "period" "[I") (List.mem_of_getElem? (i := 1) rfl)) (fun _ h9 => h9) rfl dX12_placeOn_99 ?_
    refine lv_iload hx hb dX12_placeOn_102 (lv_at hl 1 rfl) ?_
    obtain ⟨hin, hf⟩ := wb_n hf
    refine va_iald hx hb hK hP 4 1 rfl rfl hin dX12_placeOn_104 ?_
    refine lv_i2l hx hb dX12_placeOn_105 rfl ?_
    obtain ⟨r1, hr1, hf⟩ := wb_b hf
    refine vp_callSl (W.runS (As := [.long (((z79_1 * z79_0) - (M0 3 (y79_4).toNatClampNeg).toInt64) * (M0 2 (y79_4).toNatClampNeg).toInt64), .long (M0 3 (y79_4).toNatClampNeg).toInt64]) (rest := [.long z79_2]) ⟨hx, hb, hml, hown, hts⟩ (cn_X12_floor l D cB cI cZ N (((z79_1 * z79_0) - (M0 3 (y79_4).toNatClampNeg).toInt64) * (M0 2 (y79_4).toNatClampNeg).toInt64) ((M0 3 (y79_4).toNatClampNeg).toInt64) r1 hr1) (va_cwS 2 hts gX12_placeOn_X12_floor rfl rfl rfl csX12_floor ⟨Nat.le_of_ble_eq_true rfl, Nat.le_of_ble_eq_true rfl⟩) (wb_preS (hP.sub (ws' := ([] : va_W)) [] rfl) hK) rfl rfl hl.1 rfl (lv_room (Nat.le_of_ble_eq_true rfl)) dX12_placeOn_106 ⟨Nat.le_of_ble_eq_true rfl, Nat.le_of_ble_eq_true rfl⟩) (fun r9 e9 => ?_)
    rw [e9]
    refine lv_ladd hx hb dX12_placeOn_109 ?_
    obtain ⟨v2, ev2, hf⟩ := wb_v hf
    refine wb_topl ev2 ?_
    refine lv_lstore (lv' := [(9, .long v2), (0, .ref (a0 0)), (4, .int y79_4)]) hx hb dX12_placeOn_110 hl (by decide) rfl (fun ls hl => ?_)
    refine lv_lload hx hb dX12_placeOn_112 (lv_at hl 0 rfl) ?_
    refine lv_ldc2 (v := (21600 : Int64)) hx hb hown (hts (.constantLong RX12 268 (21600)) (List.mem_of_getElem? (i := 7) rfl)) dX12_placeOn_114 ?_
    refine lv_lrem hx hb dX12_placeOn_117 (by decide) ?_
    refine lv_l2i hx hb dX12_placeOn_118 rfl ?_
    obtain ⟨v3, ev3, hf⟩ := wb_v hf
    refine wb_topi ev3 ?_
    refine lv_istore (lv' := [(11, .int v3), (9, .long v2), (0, .ref (a0 0)), (4, .int y79_4)]) hx hb dX12_placeOn_119 hl (by decide) rfl (fun ls hl => ?_)
    refine lv_iload hx hb dX12_placeOn_121 (lv_at hl 0 rfl) ?_
    refine lv_if_ge (tgt := 135) hx hb dX12_placeOn_123 (by decide) (fun hc => ?_) (fun hc => ?_)
    · replace hf := wb_t hc hf
      refine lv_iload hx hb dX12_placeOn_135 (lv_at hl 0 rfl) ?_
      exact W.iret (v := v3) hx hb hr (fun t ht hW => ⟨_, rfl, Option.some.inj hf, ht⟩) (fun _ h => nomatch h) dX12_placeOn_137
    · replace hf := wb_f hc hf
      refine lv_iload hx hb dX12_placeOn_126 (lv_at hl 0 rfl) ?_
      refine lv_sipush (v := (21600 : Int32)) hx hb dX12_placeOn_128 (by decide) ?_
      refine lv_iadd hx hb dX12_placeOn_131 ?_
      refine lv_goto (tgt := 137) hx hb dX12_placeOn_132 (by decide) ?_
      exact W.iret (v := (v3 + (21600 : Int32))) hx hb hr (fun t ht hW => ⟨_, rfl, Option.some.inj hf, ht⟩) (fun _ h => nomatch h) dX12_placeOn_137
  refine lv_bipush (v := (7 : Int32)) hx hb dX12_placeOn_0 (by decide) ?_
  refine lv_iload_n hx hb dX12_placeOn_2 rfl (lv_at hl 1 rfl) ?_
  refine lv_imul hx hb dX12_placeOn_3 ?_
  refine lv_iload_n hx hb dX12_placeOn_4 rfl (lv_at hl 2 rfl) ?_
  refine lv_iadd hx hb dX12_placeOn_5 ?_
  obtain ⟨v4, ev4, hf⟩ := wb_v hf
  refine wb_topi ev4 ?_
  refine lv_istore (lv' := [(4, .int v4), (0, .ref (a0 0)), (1, .int x1), (2, .int x2), (3, .int x3)]) hx hb dX12_placeOn_6 hl (by decide) rfl (fun ls hl => ?_)
  refine lv_iload_n hx hb dX12_placeOn_8 rfl (lv_at hl 4 rfl) ?_
  refine lv_aload_n hx hb dX12_placeOn_9 rfl (lv_at hl 1 rfl) ?_
  refine va_get (D := D) (ci := 12) (v := .ref (a0 4)) (C := RX12) (T := TX12) (N := 58) hx hb hts hinX12 hown hK hP 0 rfl rfl 4 (by decide) (hts (.fieldLink RX12 19 "WheelBookModel" "period" "[I") (List.mem_of_getElem? (i := 1) rfl)) (fun _ h9 => h9) rfl dX12_placeOn_10 ?_
  refine lv_iload hx hb dX12_placeOn_13 (lv_at hl 0 rfl) ?_
  obtain ⟨hin, hf⟩ := wb_n hf
  refine va_iald hx hb hK hP 4 1 rfl rfl hin dX12_placeOn_15 ?_
  obtain ⟨hz, hf⟩ := wb_n hf
  refine lv_irem hx hb dX12_placeOn_16 hz ?_
  refine lv_i2l hx hb dX12_placeOn_17 rfl ?_
  obtain ⟨v5, ev5, hf⟩ := wb_v hf
  refine wb_topl ev5 ?_
  refine lv_lstore (lv' := [(5, .long v5), (4, .int v4), (0, .ref (a0 0)), (1, .int x1), (2, .int x2), (3, .int x3)]) hx hb dX12_placeOn_18 hl (by decide) rfl (fun ls hl => ?_)
  refine lv_ldc2 (v := (2 : Int64)) hx hb hown (hts (.constantLong RX12 260 (2)) (List.mem_of_getElem? (i := 2) rfl)) dX12_placeOn_20 ?_
  refine lv_lload hx hb dX12_placeOn_23 (lv_at hl 0 rfl) ?_
  refine lv_lmul hx hb dX12_placeOn_25 ?_
  refine lv_aload_n hx hb dX12_placeOn_26 rfl (lv_at hl 2 rfl) ?_
  refine va_get (D := D) (ci := 12) (v := .ref (a0 4)) (C := RX12) (T := TX12) (N := 58) hx hb hts hinX12 hown hK hP 0 rfl rfl 4 (by decide) (hts (.fieldLink RX12 19 "WheelBookModel" "period" "[I") (List.mem_of_getElem? (i := 1) rfl)) (fun _ h9 => h9) rfl dX12_placeOn_27 ?_
  refine lv_iload hx hb dX12_placeOn_30 (lv_at hl 1 rfl) ?_
  obtain ⟨hin, hf⟩ := wb_n hf
  refine va_iald hx hb hK hP 4 1 rfl rfl hin dX12_placeOn_32 ?_
  refine lv_i2l hx hb dX12_placeOn_33 rfl ?_
  refine lv_lsub hx hb dX12_placeOn_34 ?_
  obtain ⟨v6, ev6, hf⟩ := wb_v hf
  refine wb_topl ev6 ?_
  refine lv_lstore (lv' := [(7, .long v6), (5, .long v5), (4, .int v4), (0, .ref (a0 0)), (1, .int x1), (2, .int x2), (3, .int x3)]) hx hb dX12_placeOn_35 hl (by decide) rfl (fun ls hl => ?_)
  refine lv_aload_n hx hb dX12_placeOn_37 rfl (lv_at hl 3 rfl) ?_
  refine va_get (D := D) (ci := 12) (v := .ref (a0 1)) (C := RX12) (T := TX12) (N := 58) hx hb hts hinX12 hown hK hP 0 rfl rfl 1 (by decide) (hts (.fieldLink RX12 7 "WheelBookModel" "starts" "[I") (List.mem_of_getElem? (i := 3) rfl)) (fun _ h9 => h9) rfl dX12_placeOn_38 ?_
  refine lv_iload hx hb dX12_placeOn_41 (lv_at hl 2 rfl) ?_
  obtain ⟨hin, hf⟩ := wb_n hf
  refine va_iald hx hb hK hP 1 1 rfl rfl hin dX12_placeOn_43 ?_
  refine lv_i2l hx hb dX12_placeOn_44 rfl ?_
  refine lv_aload_n hx hb dX12_placeOn_45 rfl (lv_at hl 3 rfl) ?_
  refine va_get (D := D) (ci := 12) (v := .ref (a0 2)) (C := RX12) (T := TX12) (N := 58) hx hb hts hinX12 hown hK hP 0 rfl rfl 2 (by decide) (hts (.fieldLink RX12 13 "WheelBookModel" "goes" "[I") (List.mem_of_getElem? (i := 4) rfl)) (fun _ h9 => h9) rfl dX12_placeOn_46 ?_
  refine lv_iload hx hb dX12_placeOn_49 (lv_at hl 2 rfl) ?_
  obtain ⟨hin, hf⟩ := wb_n hf
  refine va_iald hx hb hK hP 2 1 rfl rfl hin dX12_placeOn_51 ?_
  refine lv_i2l hx hb dX12_placeOn_52 rfl ?_
  refine lv_iload_n hx hb dX12_placeOn_53 rfl (lv_at hl 6 rfl) ?_
  refine lv_i2l hx hb dX12_placeOn_54 rfl ?_
  refine lv_lmul hx hb dX12_placeOn_55 ?_
  refine lv_ldc2 (v := (1000 : Int64)) hx hb hown (hts (.constantLong RX12 262 (1000)) (List.mem_of_getElem? (i := 5) rfl)) dX12_placeOn_56 ?_
  refine lv_ldiv hx hb dX12_placeOn_59 (by decide) ?_
  refine lv_ladd hx hb dX12_placeOn_60 ?_
  refine lv_ldc2 (v := (2 : Int64)) hx hb hown (hts (.constantLong RX12 260 (2)) (List.mem_of_getElem? (i := 2) rfl)) dX12_placeOn_61 ?_
  refine lv_lload hx hb dX12_placeOn_64 (lv_at hl 0 rfl) ?_
  refine lv_lconst (v := (0 : Int64)) hx hb dX12_placeOn_66 (by decide) ?_
  refine W.lcmp hx hb dX12_placeOn_67 ?_
  refine lv_if_ge (tgt := 77) hx hb dX12_placeOn_68 (by decide) (fun hc => ?_) (fun hc => ?_)
  · replace hf := wb_t hc hf
    refine lv_lload hx hb dX12_placeOn_77 (lv_at hl 0 rfl) ?_
    exact J79 v4 v6 (2 : Int64) ((M0 0 (v4).toNatClampNeg).toInt64 + (((M0 1 (v4).toNatClampNeg).toInt64 * x3.toInt64) / (1000 : Int64))) ls (lv_sub hl [3, 2] rfl) hf
  · replace hf := wb_f hc hf
    refine lv_lload hx hb dX12_placeOn_71 (lv_at hl 0 rfl) ?_
    refine lv_lneg hx hb dX12_placeOn_73 ?_
    refine lv_goto (tgt := 79) hx hb dX12_placeOn_74 (by decide) ?_
    exact J79 v4 (-v6) (2 : Int64) ((M0 0 (v4).toNatClampNeg).toInt64 + (((M0 1 (v4).toNatClampNeg).toInt64 * x3.toInt64) / (1000 : Int64))) ls (lv_sub hl [3, 2] rfl) hf

set_option maxHeartbeats 4000000 in
set_option maxRecDepth 100000 in
theorem cn_X12_place (l : Launch) (D : va_G) (cB cI cZ : ClassId) (N : Nat) (a0 : Nat → Nat) (I0 : Nat → Int32) (L0 : Int64) (M0 : Nat → Nat → Int32) (x1 : Int32) (x2 : Int32) (x3 : Int32) (sz : Nat) (R : Int32 × (Nat → Int32) × Int64 × (Nat → Nat → Int32)) (hf : fX12_place N I0 L0 M0 x1 x2 x3 = some R) : Met l yX12_place wsX12_place ({ frames := 2, cells := 0, slots := 0, locals := 56 }) (va_Pc [.ref (a0 0), .int x1, .int x2, .int x3] (wb_preD D [(cB, .byte), (cI, .int), (cZ, .boolean)] (wWX12 cB cI cZ a0 I0 L0 M0) sz)) (va_Qi (fun r (_ : Unit) => r = R.1) (fun _ t => wb_post D [(cB, .byte), (cI, .int), (cZ, .boolean)] (va_A (wWX12 cB cI cZ a0 I0 L0 M0) sz) (wWX12 cB cI cZ a0 R.2.1 R.2.2.1 R.2.2.2) t) (va_A (wWX12 cB cI cZ a0 I0 L0 M0) sz)) 0 0 (va_A (wWX12 cB cI cZ a0 I0 L0 M0) sz) := by
  refine Met.ofW (cc := cX12_place) (maxL := 4) (ret := (some .int)) pn_X12 rfl ?_
  intro p e s m args below meth c s₁ B hml hv
  obtain ⟨rfl, hsz, hP, hK, hD0⟩ := hv
  have hx := B.exec
  have hb := B.bytes
  have hr := B.returns
  have hts := atoms_spec (ws := wsX12_place) B.pre
  have hown : s.vm.findClass RX12 = some m.cls := (findClass_of_methodNamed B.named :)
  have hlocks := B.notSynchronized
  have hinX12 : ∀ w ∈ u_ws RX12 TX12 58, w ∈ wsX12_place := fun w h => List.mem_cons_of_mem _ (List.mem_append_right _ h)
  subst hsz
  have hD := hD0.self (sz := s.heap.size)
  generalize hAe : va_A (wWX12 cB cI cZ a0 I0 L0 M0) s.heap.size = A at hD ⊢
  have hA : ∀ q : Nat, s.heap.size ≤ q → A q := fun q h => by rw [← hAe]; exact Or.inr h
  have hS : va_S A s.heap s.heap [] := va_S.rf
  have hl := lv_entry ([.ref (a0 0), .int x1, .int x2, .int x3]) (n := 4) (Nat.le_of_ble_eq_true rfl)
  rw [lg_entry_eq]
  generalize (lg_sl ([.ref (a0 0), .int x1, .int x2, .int x3]) ++ List.replicate (4 - (lg_sl ([.ref (a0 0), .int x1, .int x2, .int x3])).length) Slot.unset).toArray = ls at hl ⊢
  have hl : lv_has ls 4 [(0, .ref (a0 0)), (1, .int x1), (2, .int x2), (3, .int x3)] := hl
  unfold fX12_place at hf
  obtain ⟨H, hHe⟩ : ∃ H : Heap, H = s.heap := ⟨_, rfl⟩
  obtain ⟨locs, hle⟩ : ∃ locs : List Loc, locs = [] := ⟨_, rfl⟩
  refine wb_start (H := H) (locs := locs) hHe hle ?_
  rw [← hHe] at hP
  have hS : va_S A s.heap H locs := by rw [hHe, hle]; exact va_S.rf
  have J40 : ∀ (I0_j40 : Nat → Int32) (L0_j40 : Int64) (M0_j40 : Nat → Nat → Int32) (z40_0 : Int32) (H : Heap) (locs : List Loc), va_P D vwCl (wWX12 cB cI cZ a0 I0_j40 L0_j40 M0_j40) H → va_D A (wWX12 cB cI cZ a0 I0_j40 L0_j40 M0_j40) → va_S A s.heap H locs → ∀ (ls : Array Slot), lv_has ls 4 [(0, .ref (a0 0)), (1, .int x1), (2, .int x2), (3, .int x3)] → fX12_place_J40 N x1 x2 x3 I0_j40 L0_j40 M0_j40 z40_0 = some R → W p l e (headSpec wsX12_place { frames := 2, cells := 0, slots := 0, locals := 56 }).room s m [.ref (a0 0), .int x1, .int x2, .int x3].toArray below meth c H locs 0 0 (MQ below (va_Qi (fun r (_ : Unit) => r = R.1) (fun _ t => wb_post D [(cB, .byte), (cI, .int), (cZ, .boolean)] A (wWX12 cB cI cZ a0 R.2.1 R.2.2.1 R.2.2.2) t) A) [.ref (a0 0), .int x1, .int x2, .int x3].toArray s 0 0 A) (F0 m 40 ls [.int z40_0, .ref (a0 0)]) := by
    intro I0_j40 L0_j40 M0_j40 z40_0 H locs hP hD hS ls hl hf
    unfold fX12_place_J40 at hf
    refine lv_iconst (v := (1 : Int32)) hx hb dX12_place_40 (by decide) ?_
    obtain ⟨r1, hr1, hf⟩ := wb_b hf
    have hPc := hP
    have hDc := hD
    have hFc := wj_F hDc hS hA
    refine va_calli (va_runV (As := [.int z40_0, .int (1 : Int32)]) (rest := []) ⟨hx, hb, hml, hown, hts⟩ (cn_X12_right l D cB cI cZ N a0 I0_j40 L0_j40 M0_j40 z40_0 (1 : Int32) H.size r1 hr1) (cwV 2 hts gX12_place_X12_right rfl rfl rfl cdX12_right ⟨Nat.le_of_ble_eq_true rfl, Nat.le_of_ble_eq_true rfl⟩) (wb_preDV hPc hK hDc (wr_12 hK hP (q0 := 0) rfl)) rfl rfl hl.1 rfl (lv_room (Nat.le_of_ble_eq_true rfl)) dX12_place_41 ⟨Nat.le_of_ble_eq_true rfl, Nat.le_of_ble_eq_true rfl⟩) hS (fun q _ h => hFc q h) hFc (fun r9 u t H locs ht hvm hw hB hz1 hk1 hS => ?_)
    obtain ⟨hP, hD⟩ := wj_0 hFc ht hB
    rw [hw]
    refine lv_if_ne (tgt := 49) hx hb dX12_place_44 (by decide) (fun hc => ?_) (fun hc => ?_)
    · replace hf := wb_f hc hf
      refine lv_aload_n hx hb dX12_place_49 rfl (lv_at hl 0 rfl) ?_
      refine lv_iload_n hx hb dX12_place_50 rfl (lv_at hl 1 rfl) ?_
      refine lv_iload_n hx hb dX12_place_51 rfl (lv_at hl 2 rfl) ?_
      refine lv_iload_n hx hb dX12_place_52 rfl (lv_at hl 3 rfl) ?_
      obtain ⟨r2, hr2, hf⟩ := wb_b hf
      refine vp_callSi (W.runV (As := [.int x1, .int x2, .int x3]) (rest := []) ⟨hx, hb, hml, hown, hts⟩ (cn_X12_placeOn l D cB cI cZ N a0 r1.2.1 r1.2.2.1 r1.2.2.2 x1 x2 x3 r2 hr2) (cwV 3 hts gX12_place_X12_placeOn rfl rfl rfl cdX12_placeOn ⟨Nat.le_of_ble_eq_true rfl, Nat.le_of_ble_eq_true rfl⟩) (wb_preV hP hK (wr_12 hK hP (q0 := 0) rfl)) rfl rfl hl.1 rfl (lv_room (Nat.le_of_ble_eq_true rfl)) dX12_place_53 ⟨Nat.le_of_ble_eq_true rfl, Nat.le_of_ble_eq_true rfl⟩) (fun r9 e9 => ?_)
      rw [e9]
      exact W.iret (v := r2) hx hb hr (fun t ht hW => by rw [← Option.some.inj hf]; exact ⟨⟨r2, (), rfl, rfl, by rw [ht]; exact hP, va_K.moved hW.alike hK, hD⟩, hS.F ht⟩) hS.2.2 dX12_place_56
    · replace hf := wb_t hc hf
      refine lv_iconst (v := (0 : Int32)) hx hb dX12_place_47 (by decide) ?_
      exact W.iret (v := (0 : Int32)) hx hb hr (fun t ht hW => by rw [← Option.some.inj hf]; exact ⟨⟨(0 : Int32), (), rfl, rfl, by rw [ht]; exact hP, va_K.moved hW.alike hK, hD⟩, hS.F ht⟩) hS.2.2 dX12_place_48
  have J39 : ∀ (I0_j39 : Nat → Int32) (L0_j39 : Int64) (M0_j39 : Nat → Nat → Int32) (H : Heap) (locs : List Loc), va_P D vwCl (wWX12 cB cI cZ a0 I0_j39 L0_j39 M0_j39) H → va_D A (wWX12 cB cI cZ a0 I0_j39 L0_j39 M0_j39) → va_S A s.heap H locs → ∀ (ls : Array Slot), lv_has ls 4 [(0, .ref (a0 0)), (1, .int x1), (2, .int x2), (3, .int x3)] → fX12_place_J39 N x1 x2 x3 I0_j39 L0_j39 M0_j39 = some R → W p l e (headSpec wsX12_place { frames := 2, cells := 0, slots := 0, locals := 56 }).room s m [.ref (a0 0), .int x1, .int x2, .int x3].toArray below meth c H locs 0 0 (MQ below (va_Qi (fun r (_ : Unit) => r = R.1) (fun _ t => wb_post D [(cB, .byte), (cI, .int), (cZ, .boolean)] A (wWX12 cB cI cZ a0 R.2.1 R.2.2.1 R.2.2.2) t) A) [.ref (a0 0), .int x1, .int x2, .int x3].toArray s 0 0 A) (F0 m 39 ls [.ref (a0 0)]) := by
    intro I0_j39 L0_j39 M0_j39 H locs hP hD hS ls hl hf
    unfold fX12_place_J39 at hf
    refine lv_iconst (v := (0 : Int32)) hx hb dX12_place_39 (by decide) ?_
    exact J40 I0_j39 L0_j39 M0_j39 (0 : Int32) H locs hP hD hS ls (lv_sub hl [0, 1, 2, 3] rfl) hf
  refine lv_aload_n hx hb dX12_place_0 rfl (lv_at hl 0 rfl) ?_
  refine lv_iconst (v := (0 : Int32)) hx hb dX12_place_1 (by decide) ?_
  refine va_put (D := D) (ci := 12) (v := .int (0 : Int32)) (ty := .int) (C := RX12) (T := TX12) (N := 58) hx hb hts hinX12 tyX12 tyX12_ok nmX12 hown hK hP hD hS 0 rfl rfl 0 (by decide) (hts (.fieldLink RX12 129 "WheelBookModel" "thrown" "I") (List.mem_of_getElem? (i := 1) rfl)) (fun _ h9 => h9) rfl (by decide +kernel) rfl rfl (Nat.le_of_ble_eq_true rfl) dX12_place_2 (fun H locs hP hD hS => ?_)
  have hP : va_P D vwCl (wWX12 cB cI cZ a0 (upd I0 0 (0 : Int32)) L0 M0) H := hP
  have hD : va_D A (wWX12 cB cI cZ a0 (upd I0 0 (0 : Int32)) L0 M0) := hD
  obtain ⟨I0_3, eI0_3, hf⟩ := wb_v hf
  rw [← eI0_3] at hP hD
  refine lv_aload_n hx hb dX12_place_5 rfl (lv_at hl 0 rfl) ?_
  refine lv_iload_n hx hb dX12_place_6 rfl (lv_at hl 1 rfl) ?_
  refine lv_iconst (v := (0 : Int32)) hx hb dX12_place_7 (by decide) ?_
  refine lv_iconst (v := (3 : Int32)) hx hb dX12_place_8 (by decide) ?_
  obtain ⟨r4, hr4, hf⟩ := wb_b hf
  refine vp_callSi (W.runS (As := [.int x1, .int (0 : Int32), .int (3 : Int32)]) (rest := [.ref (a0 0)]) ⟨hx, hb, hml, hown, hts⟩ (cn_X12_within l D cB cI cZ N x1 (0 : Int32) (3 : Int32) r4 hr4) (va_cwS 3 hts gX12_place_X12_within rfl rfl rfl csX12_within ⟨Nat.le_of_ble_eq_true rfl, Nat.le_of_ble_eq_true rfl⟩) (wb_preS (hP.sub (ws' := ([] : va_W)) [] rfl) hK) rfl rfl hl.1 rfl (lv_room (Nat.le_of_ble_eq_true rfl)) dX12_place_9 ⟨Nat.le_of_ble_eq_true rfl, Nat.le_of_ble_eq_true rfl⟩) (fun r9 e9 => ?_)
  rw [e9]
  refine lv_if_eq (tgt := 39) hx hb dX12_place_12 (by decide) (fun hc => ?_) (fun hc => ?_)
  · replace hf := wb_t hc hf
    exact J39 I0_3 L0 M0 H locs hP hD hS ls (lv_sub hl [0, 1, 2, 3] rfl) hf
  · replace hf := wb_f hc hf
    refine lv_iload_n hx hb dX12_place_15 rfl (lv_at hl 2 rfl) ?_
    refine lv_iconst (v := (0 : Int32)) hx hb dX12_place_16 (by decide) ?_
    refine lv_bipush (v := (6 : Int32)) hx hb dX12_place_17 (by decide) ?_
    obtain ⟨r5, hr5, hf⟩ := wb_b hf
    refine vp_callSi (W.runS (As := [.int x2, .int (0 : Int32), .int (6 : Int32)]) (rest := [.ref (a0 0)]) ⟨hx, hb, hml, hown, hts⟩ (cn_X12_within l D cB cI cZ N x2 (0 : Int32) (6 : Int32) r5 hr5) (va_cwS 3 hts gX12_place_X12_within rfl rfl rfl csX12_within ⟨Nat.le_of_ble_eq_true rfl, Nat.le_of_ble_eq_true rfl⟩) (wb_preS (hP.sub (ws' := ([] : va_W)) [] rfl) hK) rfl rfl hl.1 rfl (lv_room (Nat.le_of_ble_eq_true rfl)) dX12_place_19 ⟨Nat.le_of_ble_eq_true rfl, Nat.le_of_ble_eq_true rfl⟩) (fun r9 e9 => ?_)
    rw [e9]
    refine lv_if_eq (tgt := 39) hx hb dX12_place_22 (by decide) (fun hc => ?_) (fun hc => ?_)
    · replace hf := wb_t hc hf
      exact J39 I0_3 L0 M0 H locs hP hD hS ls (lv_sub hl [0, 1, 2, 3] rfl) hf
    · replace hf := wb_f hc hf
      refine lv_iload_n hx hb dX12_place_25 rfl (lv_at hl 3 rfl) ?_
      refine lv_iconst (v := (0 : Int32)) hx hb dX12_place_26 (by decide) ?_
      refine lv_ldc (v := (1000000 : Int32)) hx hb hown (hts (.constant RX12 218 (1000000)) (List.mem_of_getElem? (i := 2) rfl)) dX12_place_27 ?_
      obtain ⟨r6, hr6, hf⟩ := wb_b hf
      refine vp_callSi (W.runS (As := [.int x3, .int (0 : Int32), .int (1000000 : Int32)]) (rest := [.ref (a0 0)]) ⟨hx, hb, hml, hown, hts⟩ (cn_X12_within l D cB cI cZ N x3 (0 : Int32) (1000000 : Int32) r6 hr6) (va_cwS 3 hts gX12_place_X12_within rfl rfl rfl csX12_within ⟨Nat.le_of_ble_eq_true rfl, Nat.le_of_ble_eq_true rfl⟩) (wb_preS (hP.sub (ws' := ([] : va_W)) [] rfl) hK) rfl rfl hl.1 rfl (lv_room (Nat.le_of_ble_eq_true rfl)) dX12_place_29 ⟨Nat.le_of_ble_eq_true rfl, Nat.le_of_ble_eq_true rfl⟩) (fun r9 e9 => ?_)
      rw [e9]
      refine lv_if_eq (tgt := 39) hx hb dX12_place_32 (by decide) (fun hc => ?_) (fun hc => ?_)
      · replace hf := wb_t hc hf
        exact J39 I0_3 L0 M0 H locs hP hD hS ls (lv_sub hl [0, 1, 2, 3] rfl) hf
      · replace hf := wb_f hc hf
        refine lv_iconst (v := (1 : Int32)) hx hb dX12_place_35 (by decide) ?_
        refine lv_goto (tgt := 40) hx hb dX12_place_36 (by decide) ?_
        exact J40 I0_3 L0 M0 (1 : Int32) H locs hP hD hS ls (lv_sub hl [0, 1, 2, 3] rfl) hf

set_option maxHeartbeats 4000000 in
set_option maxRecDepth 100000 in
theorem cn_X12_entry (l : Launch) (D : va_G) (cB cI cZ : ClassId) (N : Nat) (a0 : Nat → Nat) (I0 : Nat → Int32) (L0 : Int64) (M0 : Nat → Nat → Int32) (x1 : Int32) (x2 : Int32) (x3 : Int32) (sz : Nat) (R : Int32 × (Nat → Int32) × Int64 × (Nat → Nat → Int32)) (hf : fX12_entry N I0 L0 M0 x1 x2 x3 = some R) : Met l yX12_entry wsX12_entry ({ frames := 2, cells := 0, slots := 0, locals := 44 }) (va_Pc [.ref (a0 0), .int x1, .int x2, .int x3] (wb_preD D [(cB, .byte), (cI, .int), (cZ, .boolean)] (wWX12 cB cI cZ a0 I0 L0 M0) sz)) (va_Qi (fun r (_ : Unit) => r = R.1) (fun _ t => wb_post D [(cB, .byte), (cI, .int), (cZ, .boolean)] (va_A (wWX12 cB cI cZ a0 I0 L0 M0) sz) (wWX12 cB cI cZ a0 R.2.1 R.2.2.1 R.2.2.2) t) (va_A (wWX12 cB cI cZ a0 I0 L0 M0) sz)) 0 0 (va_A (wWX12 cB cI cZ a0 I0 L0 M0) sz) := by
  refine Met.ofW (cc := cX12_entry) (maxL := 4) (ret := (some .int)) pn_X12 rfl ?_
  intro p e s m args below meth c s₁ B hml hv
  obtain ⟨rfl, hsz, hP, hK, hD0⟩ := hv
  have hx := B.exec
  have hb := B.bytes
  have hr := B.returns
  have hts := atoms_spec (ws := wsX12_entry) B.pre
  have hown : s.vm.findClass RX12 = some m.cls := (findClass_of_methodNamed B.named :)
  have hlocks := B.notSynchronized
  subst hsz
  have hD := hD0.self (sz := s.heap.size)
  generalize hAe : va_A (wWX12 cB cI cZ a0 I0 L0 M0) s.heap.size = A at hD ⊢
  have hA : ∀ q : Nat, s.heap.size ≤ q → A q := fun q h => by rw [← hAe]; exact Or.inr h
  have hS : va_S A s.heap s.heap [] := va_S.rf
  have hl := lv_entry ([.ref (a0 0), .int x1, .int x2, .int x3]) (n := 4) (Nat.le_of_ble_eq_true rfl)
  rw [lg_entry_eq]
  generalize (lg_sl ([.ref (a0 0), .int x1, .int x2, .int x3]) ++ List.replicate (4 - (lg_sl ([.ref (a0 0), .int x1, .int x2, .int x3])).length) Slot.unset).toArray = ls at hl ⊢
  have hl : lv_has ls 4 [(0, .ref (a0 0)), (1, .int x1), (2, .int x2), (3, .int x3)] := hl
  unfold fX12_entry at hf
  obtain ⟨H, hHe⟩ : ∃ H : Heap, H = s.heap := ⟨_, rfl⟩
  obtain ⟨locs, hle⟩ : ∃ locs : List Loc, locs = [] := ⟨_, rfl⟩
  refine wb_start (H := H) (locs := locs) hHe hle ?_
  rw [← hHe] at hP
  have hS : va_S A s.heap H locs := by rw [hHe, hle]; exact va_S.rf
  refine lv_aload_n hx hb dX12_entry_0 rfl (lv_at hl 0 rfl) ?_
  refine lv_iload_n hx hb dX12_entry_1 rfl (lv_at hl 1 rfl) ?_
  refine lv_iload_n hx hb dX12_entry_2 rfl (lv_at hl 2 rfl) ?_
  obtain ⟨r1, hr1, hf⟩ := wb_b hf
  have hPc := hP
  have hDc := hD
  have hFc := wj_F hDc hS hA
  refine va_calli (va_runV (As := [.int x1, .int x2]) (rest := []) ⟨hx, hb, hml, hown, hts⟩ (cn_X12_isWheel l D cB cI cZ N a0 I0 L0 M0 x1 x2 H.size r1 hr1) (cwV 2 hts gX12_entry_X12_isWheel rfl rfl rfl cdX12_isWheel ⟨Nat.le_of_ble_eq_true rfl, Nat.le_of_ble_eq_true rfl⟩) (wb_preDV hPc hK hDc (wr_12 hK hP (q0 := 0) rfl)) rfl rfl hl.1 rfl (lv_room (Nat.le_of_ble_eq_true rfl)) dX12_entry_3 ⟨Nat.le_of_ble_eq_true rfl, Nat.le_of_ble_eq_true rfl⟩) hS (fun q _ h => hFc q h) hFc (fun r9 u t H locs ht hvm hw hB hz1 hk1 hS => ?_)
  obtain ⟨hP, hD⟩ := wj_0 hFc ht hB
  rw [hw]
  refine lv_if_eq (tgt := 24) hx hb dX12_entry_6 (by decide) (fun hc => ?_) (fun hc => ?_)
  · replace hf := wb_t hc hf
    refine lv_iconst (v := (0 : Int32)) hx hb dX12_entry_24 (by decide) ?_
    exact W.iret (v := (0 : Int32)) hx hb hr (fun t ht hW => by rw [← Option.some.inj hf]; exact ⟨⟨(0 : Int32), (), rfl, rfl, by rw [ht]; exact hP, va_K.moved hW.alike hK, hD⟩, hS.F ht⟩) hS.2.2 dX12_entry_25
  · replace hf := wb_f hc hf
    refine lv_aload_n hx hb dX12_entry_9 rfl (lv_at hl 0 rfl) ?_
    refine lv_iload_n hx hb dX12_entry_10 rfl (lv_at hl 3 rfl) ?_
    refine lv_iconst (v := (0 : Int32)) hx hb dX12_entry_11 (by decide) ?_
    refine lv_bipush (v := (21 : Int32)) hx hb dX12_entry_12 (by decide) ?_
    obtain ⟨r2, hr2, hf⟩ := wb_b hf
    refine vp_callSi (W.runS (As := [.int x3, .int (0 : Int32), .int (21 : Int32)]) (rest := [.ref (a0 0)]) ⟨hx, hb, hml, hown, hts⟩ (cn_X12_within l D cB cI cZ N x3 (0 : Int32) (21 : Int32) r2 hr2) (va_cwS 3 hts gX12_entry_X12_within rfl rfl rfl csX12_within ⟨Nat.le_of_ble_eq_true rfl, Nat.le_of_ble_eq_true rfl⟩) (wb_preS (hP.sub (ws' := ([] : va_W)) [] rfl) hK) rfl rfl hl.1 rfl (lv_room (Nat.le_of_ble_eq_true rfl)) dX12_entry_14 ⟨Nat.le_of_ble_eq_true rfl, Nat.le_of_ble_eq_true rfl⟩) (fun r9 e9 => ?_)
    rw [e9]
    refine lv_iconst (v := (1 : Int32)) hx hb dX12_entry_17 (by decide) ?_
    obtain ⟨r3, hr3, hf⟩ := wb_b hf
    have hPc := hP
    have hDc := hD
    have hFc := wj_F hDc hS hA
    refine va_calli (va_runV (As := [.int r2, .int (1 : Int32)]) (rest := []) ⟨hx, hb, hml, hown, hts⟩ (cn_X12_right l D cB cI cZ N a0 r1.2.1 r1.2.2.1 r1.2.2.2 r2 (1 : Int32) H.size r3 hr3) (cwV 2 hts gX12_entry_X12_right rfl rfl rfl cdX12_right ⟨Nat.le_of_ble_eq_true rfl, Nat.le_of_ble_eq_true rfl⟩) (wb_preDV hPc hK hDc (wr_12 hK hP (q0 := 0) rfl)) rfl rfl hl.1 rfl (lv_room (Nat.le_of_ble_eq_true rfl)) dX12_entry_18 ⟨Nat.le_of_ble_eq_true rfl, Nat.le_of_ble_eq_true rfl⟩) hS (fun q _ h => hFc q h) hFc (fun r9 u t H locs ht hvm hw hB hz1 hk1 hS => ?_)
    obtain ⟨hP, hD⟩ := wj_0 hFc ht hB
    rw [hw]
    refine lv_if_ne (tgt := 26) hx hb dX12_entry_21 (by decide) (fun hc => ?_) (fun hc => ?_)
    · replace hf := wb_f hc hf
      refine lv_aload_n hx hb dX12_entry_26 rfl (lv_at hl 0 rfl) ?_
      refine lv_bipush (v := (20 : Int32)) hx hb dX12_entry_27 (by decide) ?_
      refine lv_iload_n hx hb dX12_entry_29 rfl (lv_at hl 1 rfl) ?_
      refine lv_imul hx hb dX12_entry_30 ?_
      refine lv_iload_n hx hb dX12_entry_31 rfl (lv_at hl 2 rfl) ?_
      refine lv_iadd hx hb dX12_entry_32 ?_
      refine lv_iload_n hx hb dX12_entry_33 rfl (lv_at hl 3 rfl) ?_
      obtain ⟨r4, hr4, hf⟩ := wb_b hf
      refine vp_callSi (W.runV (As := [.int (((20 : Int32) * x1) + x2), .int x3]) (rest := []) ⟨hx, hb, hml, hown, hts⟩ (cn_X12_at l D cB cI cZ N a0 r3.2.1 r3.2.2.1 r3.2.2.2 (((20 : Int32) * x1) + x2) x3 r4 hr4) (cwV 2 hts gX12_entry_X12_at rfl rfl rfl cdX12_at ⟨Nat.le_of_ble_eq_true rfl, Nat.le_of_ble_eq_true rfl⟩) (wb_preV hP hK (wr_12 hK hP (q0 := 0) rfl)) rfl rfl hl.1 rfl (lv_room (Nat.le_of_ble_eq_true rfl)) dX12_entry_34 ⟨Nat.le_of_ble_eq_true rfl, Nat.le_of_ble_eq_true rfl⟩) (fun r9 e9 => ?_)
      rw [e9]
      exact W.iret (v := r4) hx hb hr (fun t ht hW => by rw [← Option.some.inj hf]; exact ⟨⟨r4, (), rfl, rfl, by rw [ht]; exact hP, va_K.moved hW.alike hK, hD⟩, hS.F ht⟩) hS.2.2 dX12_entry_37
    · replace hf := wb_t hc hf
      refine lv_iconst (v := (0 : Int32)) hx hb dX12_entry_24 (by decide) ?_
      exact W.iret (v := (0 : Int32)) hx hb hr (fun t ht hW => by rw [← Option.some.inj hf]; exact ⟨⟨(0 : Int32), (), rfl, rfl, by rw [ht]; exact hP, va_K.moved hW.alike hK, hD⟩, hS.F ht⟩) hS.2.2 dX12_entry_25

set_option maxHeartbeats 4000000 in
set_option maxRecDepth 100000 in
theorem cn_X12_isHand (l : Launch) (D : va_G) (cB cI cZ : ClassId) (N : Nat) (a0 : Nat → Nat) (I0 : Nat → Int32) (L0 : Int64) (M0 : Nat → Nat → Int32) (x1 : Int32) (x2 : Int32) (R : Int32) (hf : fX12_isHand N I0 L0 M0 x1 x2 = some R) : Met l yX12_isHand wsX12_isHand ({ frames := 0, cells := 0, slots := 0, locals := 0 }) (va_Pc [.ref (a0 0), .int x1, .int x2] (wb_pre D [(cB, .byte), (cI, .int), (cZ, .boolean)] (wWX12 cB cI cZ a0 I0 L0 M0))) (vp_Si (fun r => r = R)) 0 0 (fun _ => False) := by
  refine Met.ofW (cc := cX12_isHand) (maxL := 5) (ret := (some .boolean)) pn_X12 rfl ?_
  intro p e s m args below meth c s₁ B hml hv
  obtain ⟨rfl, hP, hK⟩ := hv
  have hx := B.exec
  have hb := B.bytes
  have hr := B.returns
  have hts := atoms_spec (ws := wsX12_isHand) B.pre
  have hown : s.vm.findClass RX12 = some m.cls := (findClass_of_methodNamed B.named :)
  have hlocks := B.notSynchronized
  have hinX12 : ∀ w ∈ u_ws RX12 TX12 58, w ∈ wsX12_isHand := fun w h => List.mem_cons_of_mem _ (List.mem_append_right _ h)
  have hl := lv_entry ([.ref (a0 0), .int x1, .int x2]) (n := 5) (Nat.le_of_ble_eq_true rfl)
  rw [lg_entry_eq]
  generalize (lg_sl ([.ref (a0 0), .int x1, .int x2]) ++ List.replicate (5 - (lg_sl ([.ref (a0 0), .int x1, .int x2])).length) Slot.unset).toArray = ls at hl ⊢
  have hl : lv_has ls 5 [(0, .ref (a0 0)), (1, .int x1), (2, .int x2)] := hl
  unfold fX12_isHand at hf
  refine lv_iconst (v := (0 : Int32)) hx hb dX12_isHand_0 (by decide) ?_
  refine lv_istore_n (lv' := [(3, .int (0 : Int32)), (0, .ref (a0 0)), (1, .int x1), (2, .int x2)]) hx hb dX12_isHand_1 rfl hl (by decide) rfl (fun ls hl => ?_)
  refine lv_iconst (v := (0 : Int32)) hx hb dX12_isHand_2 (by decide) ?_
  refine lv_istore (lv' := [(4, .int (0 : Int32)), (3, .int (0 : Int32)), (0, .ref (a0 0)), (1, .int x1), (2, .int x2)]) hx hb dX12_isHand_3 hl (by decide) rfl (fun ls hl => ?_)
  have Lh5 : ∀ (fu5 : Nat) (y5_3 : Int32) (y5_4 : Int32), ∀ (ls : Array Slot), lv_has ls 5 [(0, .ref (a0 0)), (1, .int x1), (2, .int x2), (3, .int y5_3), (4, .int y5_4)] → fX12_isHand_L5 N I0 L0 M0 x1 x2 fu5 y5_3 y5_4 = some R → W p l e (headSpec wsX12_isHand { frames := 0, cells := 0, slots := 0, locals := 0 }).room s m [.ref (a0 0), .int x1, .int x2].toArray below meth c s.heap [] 0 0 (MQ below (vp_Si (fun r => r = R)) [.ref (a0 0), .int x1, .int x2].toArray s 0 0 (fun _ => False)) (F0 m 5 ls []) := by
    intro fu5
    induction fu5 with
    | zero =>
      intro y5_3 y5_4 ls hl hf
      exact absurd hf (by rw [fX12_isHand_L5.eq_1]; exact fun h => nomatch h)
    | succ fu5 ih5 =>
      intro y5_3 y5_4 ls hl hf
      rw [fX12_isHand_L5.eq_2] at hf
      refine lv_iload hx hb dX12_isHand_5 (lv_at hl 4 rfl) ?_
      refine lv_aload_n hx hb dX12_isHand_7 rfl (lv_at hl 0 rfl) ?_
      refine va_get (D := D) (ci := 12) (v := .int (I0 2)) (C := RX12) (T := TX12) (N := 58) hx hb hts hinX12 hown hK hP 0 rfl rfl 6 (by decide) (hts (.fieldLink RX12 231 "WheelBookModel" "hands" "I") (List.mem_of_getElem? (i := 1) rfl)) (fun _ h9 => h9) rfl dX12_isHand_8 ?_
      refine lv_icmp_ge (tgt := 52) hx hb dX12_isHand_11 (by decide) (fun hc => ?_) (fun hc => ?_)
      · replace hf := wb_t hc hf
        refine lv_iload_n hx hb dX12_isHand_52 rfl (lv_at hl 3 rfl) ?_
        obtain ⟨hz, hf⟩ := wb_y hf
        exact W.zret (v := y5_3) hx hb hr (congrArg Value.int hz) (fun t ht hW => ⟨_, rfl, Option.some.inj hf, ht⟩) (fun _ h => nomatch h) dX12_isHand_53
      · replace hf := wb_f hc hf
        refine lv_iload_n hx hb dX12_isHand_14 rfl (lv_at hl 3 rfl) ?_
        refine lv_if_ne (tgt := 40) hx hb dX12_isHand_15 (by decide) (fun hc => ?_) (fun hc => ?_)
        · replace hf := wb_f hc hf
          refine lv_iconst (v := (1 : Int32)) hx hb dX12_isHand_40 (by decide) ?_
          refine lv_goto (tgt := 45) hx hb dX12_isHand_41 (by decide) ?_
          refine lv_istore_n (lv' := [(3, .int (1 : Int32)), (0, .ref (a0 0)), (1, .int x1), (2, .int x2), (4, .int y5_4)]) hx hb dX12_isHand_45 rfl hl (by decide) rfl (fun ls hl => ?_)
          obtain ⟨v1, ev1, hf⟩ := wb_v hf
          refine lv_iinc (v := v1) (lv' := [(4, .int v1), (3, .int (1 : Int32)), (0, .ref (a0 0)), (1, .int x1), (2, .int x2)]) hx hb dX12_isHand_46 hl (k := 4) rfl (by rw [ev1]; rfl) (by decide) rfl (fun ls hl => ?_)
          refine lv_goto (tgt := 5) hx hb dX12_isHand_49 (by decide) ?_
          exact ih5 (1 : Int32) v1 ls (lv_sub hl [2, 3, 4, 1, 0] rfl) hf
        · replace hf := wb_t hc hf
          refine lv_aload_n hx hb dX12_isHand_18 rfl (lv_at hl 0 rfl) ?_
          refine va_get (D := D) (ci := 12) (v := .ref (a0 7)) (C := RX12) (T := TX12) (N := 58) hx hb hts hinX12 hown hK hP 0 rfl rfl 9 (by decide) (hts (.fieldLink RX12 28 "WheelBookModel" "read" "[I") (List.mem_of_getElem? (i := 2) rfl)) (fun _ h9 => h9) rfl dX12_isHand_19 ?_
          refine lv_iload hx hb dX12_isHand_22 (lv_at hl 4 rfl) ?_
          obtain ⟨hin, hf⟩ := wb_n hf
          refine va_iald hx hb hK hP 7 1 rfl rfl hin dX12_isHand_24 ?_
          refine lv_iload_n hx hb dX12_isHand_25 rfl (lv_at hl 1 rfl) ?_
          refine lv_icmp_ne (tgt := 44) hx hb dX12_isHand_26 (by decide) (fun hc => ?_) (fun hc => ?_)
          · replace hf := wb_f hc hf
            refine lv_iconst (v := (0 : Int32)) hx hb dX12_isHand_44 (by decide) ?_
            refine lv_istore_n (lv' := [(3, .int (0 : Int32)), (0, .ref (a0 0)), (1, .int x1), (2, .int x2), (4, .int y5_4)]) hx hb dX12_isHand_45 rfl hl (by decide) rfl (fun ls hl => ?_)
            obtain ⟨v2, ev2, hf⟩ := wb_v hf
            refine lv_iinc (v := v2) (lv' := [(4, .int v2), (3, .int (0 : Int32)), (0, .ref (a0 0)), (1, .int x1), (2, .int x2)]) hx hb dX12_isHand_46 hl (k := 4) rfl (by rw [ev2]; rfl) (by decide) rfl (fun ls hl => ?_)
            refine lv_goto (tgt := 5) hx hb dX12_isHand_49 (by decide) ?_
            exact ih5 (0 : Int32) v2 ls (lv_sub hl [2, 3, 4, 1, 0] rfl) hf
          · replace hf := wb_t hc hf
            refine lv_aload_n hx hb dX12_isHand_29 rfl (lv_at hl 0 rfl) ?_
            refine va_get (D := D) (ci := 12) (v := .ref (a0 6)) (C := RX12) (T := TX12) (N := 58) hx hb hts hinX12 hown hK hP 0 rfl rfl 8 (by decide) (hts (.fieldLink RX12 25 "WheelBookModel" "stood" "[I") (List.mem_of_getElem? (i := 3) rfl)) (fun _ h9 => h9) rfl dX12_isHand_30 ?_
            refine lv_iload hx hb dX12_isHand_33 (lv_at hl 4 rfl) ?_
            obtain ⟨hin, hf⟩ := wb_n hf
            refine va_iald hx hb hK hP 6 1 rfl rfl hin dX12_isHand_35 ?_
            refine lv_iload_n hx hb dX12_isHand_36 rfl (lv_at hl 2 rfl) ?_
            refine lv_icmp_ne (tgt := 44) hx hb dX12_isHand_37 (by decide) (fun hc => ?_) (fun hc => ?_)
            · replace hf := wb_f hc hf
              refine lv_iconst (v := (0 : Int32)) hx hb dX12_isHand_44 (by decide) ?_
              refine lv_istore_n (lv' := [(3, .int (0 : Int32)), (0, .ref (a0 0)), (1, .int x1), (2, .int x2), (4, .int y5_4)]) hx hb dX12_isHand_45 rfl hl (by decide) rfl (fun ls hl => ?_)
              obtain ⟨v3, ev3, hf⟩ := wb_v hf
              refine lv_iinc (v := v3) (lv' := [(4, .int v3), (3, .int (0 : Int32)), (0, .ref (a0 0)), (1, .int x1), (2, .int x2)]) hx hb dX12_isHand_46 hl (k := 4) rfl (by rw [ev3]; rfl) (by decide) rfl (fun ls hl => ?_)
              refine lv_goto (tgt := 5) hx hb dX12_isHand_49 (by decide) ?_
              exact ih5 (0 : Int32) v3 ls (lv_sub hl [2, 3, 4, 1, 0] rfl) hf
            · replace hf := wb_t hc hf
              refine lv_iconst (v := (1 : Int32)) hx hb dX12_isHand_40 (by decide) ?_
              refine lv_goto (tgt := 45) hx hb dX12_isHand_41 (by decide) ?_
              refine lv_istore_n (lv' := [(3, .int (1 : Int32)), (0, .ref (a0 0)), (1, .int x1), (2, .int x2), (4, .int y5_4)]) hx hb dX12_isHand_45 rfl hl (by decide) rfl (fun ls hl => ?_)
              obtain ⟨v4, ev4, hf⟩ := wb_v hf
              refine lv_iinc (v := v4) (lv' := [(4, .int v4), (3, .int (1 : Int32)), (0, .ref (a0 0)), (1, .int x1), (2, .int x2)]) hx hb dX12_isHand_46 hl (k := 4) rfl (by rw [ev4]; rfl) (by decide) rfl (fun ls hl => ?_)
              refine lv_goto (tgt := 5) hx hb dX12_isHand_49 (by decide) ?_
              exact ih5 (1 : Int32) v4 ls (lv_sub hl [2, 3, 4, 1, 0] rfl) hf
  exact Lh5 N (0 : Int32) (0 : Int32) ls (lv_sub hl [2, 3, 4, 1, 0] rfl) hf

set_option maxHeartbeats 4000000 in
set_option maxRecDepth 100000 in
theorem cn_X12_beside (l : Launch) (D : va_G) (cB cI cZ : ClassId) (N : Nat) (a0 : Nat → Nat) (I0 : Nat → Int32) (L0 : Int64) (M0 : Nat → Nat → Int32) (x1 : Int32) (x2 : Int32) (R : Int32) (hf : fX12_beside N I0 L0 M0 x1 x2 = some R) : Met l yX12_beside wsX12_beside ({ frames := 1, cells := 0, slots := 0, locals := 24 }) (va_Pc [.ref (a0 0), .int x1, .int x2] (wb_pre D [(cB, .byte), (cI, .int), (cZ, .boolean)] (wWX12 cB cI cZ a0 I0 L0 M0))) (vp_Si (fun r => r = R)) 0 0 (fun _ => False) := by
  refine Met.ofW (cc := cX12_beside) (maxL := 3) (ret := (some .int)) pn_X12 rfl ?_
  intro p e s m args below meth c s₁ B hml hv
  obtain ⟨rfl, hP, hK⟩ := hv
  have hx := B.exec
  have hb := B.bytes
  have hr := B.returns
  have hts := atoms_spec (ws := wsX12_beside) B.pre
  have hown : s.vm.findClass RX12 = some m.cls := (findClass_of_methodNamed B.named :)
  have hlocks := B.notSynchronized
  have hl := lv_entry ([.ref (a0 0), .int x1, .int x2]) (n := 3) (Nat.le_of_ble_eq_true rfl)
  rw [lg_entry_eq]
  generalize (lg_sl ([.ref (a0 0), .int x1, .int x2]) ++ List.replicate (3 - (lg_sl ([.ref (a0 0), .int x1, .int x2])).length) Slot.unset).toArray = ls at hl ⊢
  have hl : lv_has ls 3 [(0, .ref (a0 0)), (1, .int x1), (2, .int x2)] := hl
  unfold fX12_beside at hf
  refine lv_iload_n hx hb dX12_beside_0 rfl (lv_at hl 1 rfl) ?_
  refine lv_iload_n hx hb dX12_beside_1 rfl (lv_at hl 2 rfl) ?_
  refine lv_icmp_ne (tgt := 7) hx hb dX12_beside_2 (by decide) (fun hc => ?_) (fun hc => ?_)
  · replace hf := wb_f hc hf
    refine lv_iload_n hx hb dX12_beside_7 rfl (lv_at hl 1 rfl) ?_
    refine lv_bipush (v := (30 : Int32)) hx hb dX12_beside_8 (by decide) ?_
    refine lv_idiv hx hb dX12_beside_10 (by decide) ?_
    refine lv_iload_n hx hb dX12_beside_11 rfl (lv_at hl 2 rfl) ?_
    refine lv_bipush (v := (30 : Int32)) hx hb dX12_beside_12 (by decide) ?_
    refine lv_idiv hx hb dX12_beside_14 (by decide) ?_
    refine lv_icmp_ne (tgt := 40) hx hb dX12_beside_15 (by decide) (fun hc => ?_) (fun hc => ?_)
    · replace hf := wb_f hc hf
      refine lv_iload_n hx hb dX12_beside_40 rfl (lv_at hl 1 rfl) ?_
      refine lv_bipush (v := (30 : Int32)) hx hb dX12_beside_41 (by decide) ?_
      refine lv_irem hx hb dX12_beside_43 (by decide) ?_
      refine lv_iload_n hx hb dX12_beside_44 rfl (lv_at hl 2 rfl) ?_
      refine lv_bipush (v := (30 : Int32)) hx hb dX12_beside_45 (by decide) ?_
      refine lv_irem hx hb dX12_beside_47 (by decide) ?_
      refine lv_icmp_ne (tgt := 70) hx hb dX12_beside_48 (by decide) (fun hc => ?_) (fun hc => ?_)
      · replace hf := wb_f hc hf
        refine lv_bipush (v := (9 : Int32)) hx hb dX12_beside_70 (by decide) ?_
        exact W.iret (v := (9 : Int32)) hx hb hr (fun t ht hW => ⟨_, rfl, Option.some.inj hf, ht⟩) (fun _ h => nomatch h) dX12_beside_72
      · replace hf := wb_t hc hf
        refine lv_aload_n hx hb dX12_beside_51 rfl (lv_at hl 0 rfl) ?_
        refine lv_iload_n hx hb dX12_beside_52 rfl (lv_at hl 1 rfl) ?_
        refine lv_bipush (v := (30 : Int32)) hx hb dX12_beside_53 (by decide) ?_
        refine lv_idiv hx hb dX12_beside_55 (by decide) ?_
        refine lv_iload_n hx hb dX12_beside_56 rfl (lv_at hl 2 rfl) ?_
        refine lv_bipush (v := (30 : Int32)) hx hb dX12_beside_57 (by decide) ?_
        refine lv_idiv hx hb dX12_beside_59 (by decide) ?_
        obtain ⟨r1, hr1, hf⟩ := wb_b hf
        refine vp_callSi (W.runV (As := [.int (x1 / (30 : Int32)), .int (x2 / (30 : Int32))]) (rest := []) ⟨hx, hb, hml, hown, hts⟩ (cn_X12_isHand l D cB cI cZ N a0 I0 L0 M0 (x1 / (30 : Int32)) (x2 / (30 : Int32)) r1 hr1) (cwV 2 hts gX12_beside_X12_isHand rfl rfl rfl cdX12_isHand ⟨Nat.le_of_ble_eq_true rfl, Nat.le_of_ble_eq_true rfl⟩) (wb_preV hP hK (wr_12 hK hP (q0 := 0) rfl)) rfl rfl hl.1 rfl (lv_room (Nat.le_of_ble_eq_true rfl)) dX12_beside_60 ⟨Nat.le_of_ble_eq_true rfl, Nat.le_of_ble_eq_true rfl⟩) (fun r9 e9 => ?_)
        rw [e9]
        refine lv_if_eq (tgt := 70) hx hb dX12_beside_63 (by decide) (fun hc => ?_) (fun hc => ?_)
        · replace hf := wb_t hc hf
          refine lv_bipush (v := (9 : Int32)) hx hb dX12_beside_70 (by decide) ?_
          exact W.iret (v := (9 : Int32)) hx hb hr (fun t ht hW => ⟨_, rfl, Option.some.inj hf, ht⟩) (fun _ h => nomatch h) dX12_beside_72
        · replace hf := wb_f hc hf
          refine lv_iconst (v := (2 : Int32)) hx hb dX12_beside_66 (by decide) ?_
          refine lv_goto (tgt := 72) hx hb dX12_beside_67 (by decide) ?_
          exact W.iret (v := (2 : Int32)) hx hb hr (fun t ht hW => ⟨_, rfl, Option.some.inj hf, ht⟩) (fun _ h => nomatch h) dX12_beside_72
    · replace hf := wb_t hc hf
      refine lv_aload_n hx hb dX12_beside_18 rfl (lv_at hl 0 rfl) ?_
      refine lv_iload_n hx hb dX12_beside_19 rfl (lv_at hl 1 rfl) ?_
      refine lv_bipush (v := (30 : Int32)) hx hb dX12_beside_20 (by decide) ?_
      refine lv_irem hx hb dX12_beside_22 (by decide) ?_
      refine lv_iload_n hx hb dX12_beside_23 rfl (lv_at hl 2 rfl) ?_
      refine lv_bipush (v := (30 : Int32)) hx hb dX12_beside_24 (by decide) ?_
      refine lv_irem hx hb dX12_beside_26 (by decide) ?_
      obtain ⟨r2, hr2, hf⟩ := wb_b hf
      refine vp_callSi (W.runV (As := [.int (x1 - x1 / (30 : Int32) * (30 : Int32)), .int (x2 - x2 / (30 : Int32) * (30 : Int32))]) (rest := []) ⟨hx, hb, hml, hown, hts⟩ (cn_X12_isHand l D cB cI cZ N a0 I0 L0 M0 (x1 - x1 / (30 : Int32) * (30 : Int32)) (x2 - x2 / (30 : Int32) * (30 : Int32)) r2 hr2) (cwV 2 hts gX12_beside_X12_isHand rfl rfl rfl cdX12_isHand ⟨Nat.le_of_ble_eq_true rfl, Nat.le_of_ble_eq_true rfl⟩) (wb_preV hP hK (wr_12 hK hP (q0 := 0) rfl)) rfl rfl hl.1 rfl (lv_room (Nat.le_of_ble_eq_true rfl)) dX12_beside_27 ⟨Nat.le_of_ble_eq_true rfl, Nat.le_of_ble_eq_true rfl⟩) (fun r9 e9 => ?_)
      rw [e9]
      refine lv_if_eq (tgt := 37) hx hb dX12_beside_30 (by decide) (fun hc => ?_) (fun hc => ?_)
      · replace hf := wb_t hc hf
        refine lv_bipush (v := (9 : Int32)) hx hb dX12_beside_37 (by decide) ?_
        exact W.iret (v := (9 : Int32)) hx hb hr (fun t ht hW => ⟨_, rfl, Option.some.inj hf, ht⟩) (fun _ h => nomatch h) dX12_beside_39
      · replace hf := wb_f hc hf
        refine lv_iconst (v := (1 : Int32)) hx hb dX12_beside_33 (by decide) ?_
        refine lv_goto (tgt := 39) hx hb dX12_beside_34 (by decide) ?_
        exact W.iret (v := (1 : Int32)) hx hb hr (fun t ht hW => ⟨_, rfl, Option.some.inj hf, ht⟩) (fun _ h => nomatch h) dX12_beside_39
  · replace hf := wb_t hc hf
    refine lv_iconst (v := (0 : Int32)) hx hb dX12_beside_5 (by decide) ?_
    exact W.iret (v := (0 : Int32)) hx hb hr (fun t ht hW => ⟨_, rfl, Option.some.inj hf, ht⟩) (fun _ h => nomatch h) dX12_beside_6

set_option maxHeartbeats 4000000 in
set_option maxRecDepth 100000 in
theorem cn_X12_costOf (l : Launch) (D : va_G) (cB cI cZ : ClassId) (N : Nat) (a0 : Nat → Nat) (I0 : Nat → Int32) (L0 : Int64) (M0 : Nat → Nat → Int32) (x1 : Int32) (x2 : Int32) (R : Int32) (hf : fX12_costOf N I0 L0 M0 x1 x2 = some R) : Met l yX12_costOf wsX12_costOf ({ frames := 2, cells := 0, slots := 0, locals := 46 }) (va_Pc [.ref (a0 0), .int x1, .int x2] (wb_pre D [(cB, .byte), (cI, .int), (cZ, .boolean)] (wWX12 cB cI cZ a0 I0 L0 M0))) (vp_Si (fun r => r = R)) 0 0 (fun _ => False) := by
  refine Met.ofW (cc := cX12_costOf) (maxL := 4) (ret := (some .int)) pn_X12 rfl ?_
  intro p e s m args below meth c s₁ B hml hv
  obtain ⟨rfl, hP, hK⟩ := hv
  have hx := B.exec
  have hb := B.bytes
  have hr := B.returns
  have hts := atoms_spec (ws := wsX12_costOf) B.pre
  have hown : s.vm.findClass RX12 = some m.cls := (findClass_of_methodNamed B.named :)
  have hlocks := B.notSynchronized
  have hl := lv_entry ([.ref (a0 0), .int x1, .int x2]) (n := 4) (Nat.le_of_ble_eq_true rfl)
  rw [lg_entry_eq]
  generalize (lg_sl ([.ref (a0 0), .int x1, .int x2]) ++ List.replicate (4 - (lg_sl ([.ref (a0 0), .int x1, .int x2])).length) Slot.unset).toArray = ls at hl ⊢
  have hl : lv_has ls 4 [(0, .ref (a0 0)), (1, .int x1), (2, .int x2)] := hl
  unfold fX12_costOf at hf
  refine lv_aload_n hx hb dX12_costOf_0 rfl (lv_at hl 0 rfl) ?_
  refine lv_iload_n hx hb dX12_costOf_1 rfl (lv_at hl 1 rfl) ?_
  refine lv_iload_n hx hb dX12_costOf_2 rfl (lv_at hl 2 rfl) ?_
  obtain ⟨r1, hr1, hf⟩ := wb_b hf
  refine vp_callSi (W.runV (As := [.int x1, .int x2]) (rest := []) ⟨hx, hb, hml, hown, hts⟩ (cn_X12_beside l D cB cI cZ N a0 I0 L0 M0 x1 x2 r1 hr1) (cwV 2 hts gX12_costOf_X12_beside rfl rfl rfl cdX12_beside ⟨Nat.le_of_ble_eq_true rfl, Nat.le_of_ble_eq_true rfl⟩) (wb_preV hP hK (wr_12 hK hP (q0 := 0) rfl)) rfl rfl hl.1 rfl (lv_room (Nat.le_of_ble_eq_true rfl)) dX12_costOf_3 ⟨Nat.le_of_ble_eq_true rfl, Nat.le_of_ble_eq_true rfl⟩) (fun r9 e9 => ?_)
  rw [e9]
  refine lv_istore_n (lv' := [(3, .int r1), (0, .ref (a0 0)), (1, .int x1), (2, .int x2)]) hx hb dX12_costOf_6 rfl hl (by decide) rfl (fun ls hl => ?_)
  refine lv_iload_n hx hb dX12_costOf_7 rfl (lv_at hl 0 rfl) ?_
  refine lv_iconst (v := (2 : Int32)) hx hb dX12_costOf_8 (by decide) ?_
  refine lv_icmp_ne (tgt := 16) hx hb dX12_costOf_9 (by decide) (fun hc => ?_) (fun hc => ?_)
  · replace hf := wb_f hc hf
    refine lv_iload_n hx hb dX12_costOf_16 rfl (lv_at hl 0 rfl) ?_
    exact W.iret (v := r1) hx hb hr (fun t ht hW => ⟨_, rfl, Option.some.inj hf, ht⟩) (fun _ h => nomatch h) dX12_costOf_17
  · replace hf := wb_t hc hf
    refine lv_iconst (v := (1 : Int32)) hx hb dX12_costOf_12 (by decide) ?_
    refine lv_goto (tgt := 17) hx hb dX12_costOf_13 (by decide) ?_
    exact W.iret (v := (1 : Int32)) hx hb hr (fun t ht hW => ⟨_, rfl, Option.some.inj hf, ht⟩) (fun _ h => nomatch h) dX12_costOf_17
