set_option maxHeartbeats 4000000 in
set_option maxRecDepth 100000 in
theorem cn_X10_choose_d4 (l : Launch) (D : va_G) (cB cI cZ : ClassId) (N : Nat) (a0 : Nat → Nat) (I0 : Nat → Int32) (M0 : Nat → Nat → Int32) (x1 : Int32) (x2 : Int32) (x3 : Int32) (sz : Nat) (R : (Nat → Int32) × (Nat → Nat → Int32)) (hf : fX10_choose_d4 N I0 M0 x1 x2 x3 = some R) : Met l yX10_choose wsX10_choose ({ frames := 4, cells := 0, slots := 0, locals := 152 }) (va_Pc [.ref (a0 0), .int x1, .int x2, .int x3] (wb_preD D [(cB, .byte), (cI, .int), (cZ, .boolean)] (wWX10 cB cI cZ a0 I0 M0) sz)) (va_Qv (fun _ : Unit => True) (fun _ t => wb_post D [(cB, .byte), (cI, .int), (cZ, .boolean)] (va_A (wWX10 cB cI cZ a0 I0 M0) sz) (wWX10 cB cI cZ a0 R.1 R.2) t) (va_A (wWX10 cB cI cZ a0 I0 M0) sz)) 0 0 (va_A (wWX10 cB cI cZ a0 I0 M0) sz) := by
  refine Met.ofW (cc := cX10_choose) (maxL := 5) (ret := none) pn_X10 rfl ?_
  intro p e s m args below meth c s₁ B hml hv
  obtain ⟨rfl, hsz, hP, hK, hD0⟩ := hv
  have hx := B.exec
  have hb := B.bytes
  have hr := B.returns
  have hts := atoms_spec (ws := wsX10_choose) B.pre
  have hown : s.vm.findClass RX10 = some m.cls := (findClass_of_methodNamed B.named :)
  have hlocks := B.notSynchronized
  have hinX10 : ∀ w ∈ u_ws RX10 TX10 5, w ∈ wsX10_choose := fun w h => List.mem_cons_of_mem _ (List.mem_append_right _ h)
  subst hsz
  have hD := hD0.self (sz := s.heap.size)
  generalize hAe : va_A (wWX10 cB cI cZ a0 I0 M0) s.heap.size = A at hD ⊢
  have hA : ∀ q : Nat, s.heap.size ≤ q → A q := fun q h => by rw [← hAe]; exact Or.inr h
  have hS : va_S A s.heap s.heap [] := va_S.rf
  have hl := lv_entry ([.ref (a0 0), .int x1, .int x2, .int x3]) (n := 5) (Nat.le_of_ble_eq_true rfl)
  rw [lg_entry_eq]
  generalize (lg_sl ([.ref (a0 0), .int x1, .int x2, .int x3]) ++ List.replicate (5 - (lg_sl ([.ref (a0 0), .int x1, .int x2, .int x3])).length) Slot.unset).toArray = ls at hl ⊢
  have hl : lv_has ls 5 [(0, .ref (a0 0)), (1, .int x1), (2, .int x2), (3, .int x3)] := hl
  unfold fX10_choose_d4 at hf
  obtain ⟨H, hHe⟩ : ∃ H : Heap, H = s.heap := ⟨_, rfl⟩
  obtain ⟨locs, hle⟩ : ∃ locs : List Loc, locs = [] := ⟨_, rfl⟩
  refine wb_start (H := H) (locs := locs) hHe hle ?_
  rw [← hHe] at hP
  have hS : va_S A s.heap H locs := by rw [hHe, hle]; exact va_S.rf
  have J77 : ∀ (I0_j77 : Nat → Int32) (M0_j77 : Nat → Nat → Int32) (H : Heap) (locs : List Loc), va_P D vwCl (wWX10 cB cI cZ a0 I0_j77 M0_j77) H → va_D A (wWX10 cB cI cZ a0 I0_j77 M0_j77) → va_S A s.heap H locs → ∀ (ls : Array Slot), lv_has ls 5 [(0, .ref (a0 0)), (1, .int x1), (2, .int x2), (3, .int x3)] → fX10_choose_d4_J77 N x1 x2 x3 I0_j77 M0_j77 = some R → W p l e (headSpec wsX10_choose { frames := 4, cells := 0, slots := 0, locals := 152 }).room s m [.ref (a0 0), .int x1, .int x2, .int x3].toArray below meth c H locs 0 0 (MQ below (va_Qv (fun _ : Unit => True) (fun _ t => wb_post D [(cB, .byte), (cI, .int), (cZ, .boolean)] A (wWX10 cB cI cZ a0 R.1 R.2) t) A) [.ref (a0 0), .int x1, .int x2, .int x3].toArray s 0 0 A) (F0 m 77 ls []) := by
    intro I0_j77 M0_j77 H locs hP hD hS ls hl hf
    unfold fX10_choose_d4_J77 at hf
    refine lv_iconst (v := (0 : Int32)) hx hb dX10_choose_77 (by decide) ?_
    refine lv_istore (lv' := [(4, .int (0 : Int32)), (0, .ref (a0 0)), (1, .int x1), (2, .int x2), (3, .int x3)]) hx hb dX10_choose_78 hl (by decide) rfl (fun ls hl => ?_)
    have L80 : ∀ (fu80 : Nat) (I0_l80 : Nat → Int32) (M0_l80 : Nat → Nat → Int32) (y80_4 : Int32) (H : Heap) (locs : List Loc), va_P D vwCl (wWX10 cB cI cZ a0 I0_l80 M0_l80) H → va_D A (wWX10 cB cI cZ a0 I0_l80 M0_l80) → va_S A s.heap H locs → ∀ (ls : Array Slot), lv_has ls 5 [(0, .ref (a0 0)), (1, .int x1), (2, .int x2), (3, .int x3), (4, .int y80_4)] → fX10_choose_d4_L80 N x1 x2 x3 fu80 I0_l80 M0_l80 y80_4 = some R → W p l e (headSpec wsX10_choose { frames := 4, cells := 0, slots := 0, locals := 152 }).room s m [.ref (a0 0), .int x1, .int x2, .int x3].toArray below meth c H locs 0 0 (MQ below (va_Qv (fun _ : Unit => True) (fun _ t => wb_post D [(cB, .byte), (cI, .int), (cZ, .boolean)] A (wWX10 cB cI cZ a0 R.1 R.2) t) A) [.ref (a0 0), .int x1, .int x2, .int x3].toArray s 0 0 A) (F0 m 80 ls []) := by
      intro fu80
      induction fu80 with
      | zero =>
        intro I0_l80 M0_l80 y80_4 H locs hP hD hS ls hl hf
        exact absurd hf (by rw [fX10_choose_d4_L80.eq_1]; exact fun h => nomatch h)
      | succ fu80 ih80 =>
        intro I0_l80 M0_l80 y80_4 H locs hP hD hS ls hl hf
        rw [fX10_choose_d4_L80.eq_2] at hf
        refine lv_iload hx hb dX10_choose_80 (lv_at hl 4 rfl) ?_
        refine lv_bipush (v := (6 : Int32)) hx hb dX10_choose_82 (by decide) ?_
        refine lv_icmp_ge (tgt := 153) hx hb dX10_choose_84 (by decide) (fun hc => ?_) (fun hc => ?_)
        · replace hf := wb_t hc hf
          refine lv_aload_n hx hb dX10_choose_153 rfl (lv_at hl 0 rfl) ?_
          refine va_get (D := D) (ci := 10) (v := .ref (a0 2)) (C := RX10) (T := TX10) (N := 5) hx hb hts hinX10 hown hK hP 0 rfl rfl 1 (by decide) (hts (.fieldLink RX10 15 "WheelBook$Tree" "row" "[I") (List.mem_of_getElem? (i := 2) rfl)) (fun _ h9 => h9) rfl dX10_choose_154 ?_
          refine lv_iload_n hx hb dX10_choose_157 rfl (lv_at hl 1 rfl) ?_
          refine lv_bipush (v := (-3 : Int32)) hx hb dX10_choose_158 (by decide) ?_
          obtain ⟨hin, hf⟩ := wb_n hf
          refine va_iast hx hb hK hP hD hS 2 1 rfl rfl hin dX10_choose_160 (fun H locs hP hD hS => ?_)
          have hP : va_P D vwCl (wWX10 cB cI cZ a0 I0_l80 (wb_um M0_l80 1 (x1).toNatClampNeg (-3 : Int32))) H := hP
          have hD : va_D A (wWX10 cB cI cZ a0 I0_l80 (wb_um M0_l80 1 (x1).toNatClampNeg (-3 : Int32))) := hD
          obtain ⟨M0_1, eM0_1, hf⟩ := wb_v hf
          rw [← eM0_1] at hP hD
          exact W.vret hx hb hr (fun t ht hW => by rw [← Option.some.inj hf]; exact ⟨⟨(), rfl, trivial, by rw [ht]; exact hP, va_K.moved hW.alike hK, hD⟩, hS.F ht⟩) hS.2.2 dX10_choose_161
        · replace hf := wb_f hc hf
          refine lv_aload_n hx hb dX10_choose_87 rfl (lv_at hl 0 rfl) ?_
          refine va_get (D := D) (ci := 10) (v := .ref (a0 2)) (C := RX10) (T := TX10) (N := 5) hx hb hts hinX10 hown hK hP 0 rfl rfl 1 (by decide) (hts (.fieldLink RX10 15 "WheelBook$Tree" "row" "[I") (List.mem_of_getElem? (i := 2) rfl)) (fun _ h9 => h9) rfl dX10_choose_88 ?_
          refine lv_iload_n hx hb dX10_choose_91 rfl (lv_at hl 1 rfl) ?_
          refine lv_bipush (v := (-3 : Int32)) hx hb dX10_choose_92 (by decide) ?_
          obtain ⟨hin, hf⟩ := wb_n hf
          refine va_iast hx hb hK hP hD hS 2 1 rfl rfl hin dX10_choose_94 (fun H locs hP hD hS => ?_)
          have hP : va_P D vwCl (wWX10 cB cI cZ a0 I0_l80 (wb_um M0_l80 1 (x1).toNatClampNeg (-3 : Int32))) H := hP
          have hD : va_D A (wWX10 cB cI cZ a0 I0_l80 (wb_um M0_l80 1 (x1).toNatClampNeg (-3 : Int32))) := hD
          obtain ⟨M0_2, eM0_2, hf⟩ := wb_v hf
          rw [← eM0_2] at hP hD
          refine lv_aload_n hx hb dX10_choose_95 rfl (lv_at hl 0 rfl) ?_
          refine va_get (D := D) (ci := 10) (v := .ref (a0 2)) (C := RX10) (T := TX10) (N := 5) hx hb hts hinX10 hown hK hP 0 rfl rfl 1 (by decide) (hts (.fieldLink RX10 15 "WheelBook$Tree" "row" "[I") (List.mem_of_getElem? (i := 2) rfl)) (fun _ h9 => h9) rfl dX10_choose_96 ?_
          refine lv_iload hx hb dX10_choose_99 (lv_at hl 4 rfl) ?_
          obtain ⟨hin, hf⟩ := wb_n hf
          refine va_iald hx hb hK hP 2 1 rfl rfl hin dX10_choose_101 ?_
          refine lv_bipush (v := (-2 : Int32)) hx hb dX10_choose_102 (by decide) ?_
          refine lv_icmp_eq (tgt := 147) hx hb dX10_choose_104 (by decide) (fun hc => ?_) (fun hc => ?_)
          · replace hf := wb_t hc hf
            obtain ⟨v3, ev3, hf⟩ := wb_v hf
            refine lv_iinc (v := v3) (lv' := [(4, .int v3), (0, .ref (a0 0)), (1, .int x1), (2, .int x2), (3, .int x3)]) hx hb dX10_choose_147 hl (k := 4) rfl (by rw [ev3]; rfl) (by decide) rfl (fun ls hl => ?_)
            refine lv_goto (tgt := 80) hx hb dX10_choose_150 (by decide) ?_
            exact ih80 I0_l80 M0_2 v3 H locs hP hD hS ls (lv_sub hl [1, 2, 3, 4, 0] rfl) hf
          · replace hf := wb_f hc hf
            refine lv_aload_n hx hb dX10_choose_107 rfl (lv_at hl 0 rfl) ?_
            refine lv_iload hx hb dX10_choose_108 (lv_at hl 4 rfl) ?_
            refine lv_iload_n hx hb dX10_choose_110 rfl (lv_at hl 1 rfl) ?_
            obtain ⟨r4, hr4, hf⟩ := wb_b hf
            refine vp_callSi (W.runV (As := [.int y80_4, .int x1]) (rest := []) ⟨hx, hb, hml, hown, hts⟩ (cn_X10_comesFrom l D cB cI cZ N a0 I0_l80 M0_2 y80_4 x1 r4 hr4) (cwV 2 hts gX10_choose_X10_comesFrom rfl rfl rfl cdX10_comesFrom ⟨Nat.le_of_ble_eq_true rfl, Nat.le_of_ble_eq_true rfl⟩) (wb_preV hP hK (wr_10 hK hP (q0 := 0) rfl)) rfl rfl hl.1 rfl (lv_room (Nat.le_of_ble_eq_true rfl)) dX10_choose_111 ⟨Nat.le_of_ble_eq_true rfl, Nat.le_of_ble_eq_true rfl⟩) (fun r9 e9 => ?_)
            rw [e9]
            refine lv_if_ne (tgt := 147) hx hb dX10_choose_114 (by decide) (fun hc => ?_) (fun hc => ?_)
            · replace hf := wb_f hc hf
              obtain ⟨v5, ev5, hf⟩ := wb_v hf
              refine lv_iinc (v := v5) (lv' := [(4, .int v5), (0, .ref (a0 0)), (1, .int x1), (2, .int x2), (3, .int x3)]) hx hb dX10_choose_147 hl (k := 4) rfl (by rw [ev5]; rfl) (by decide) rfl (fun ls hl => ?_)
              refine lv_goto (tgt := 80) hx hb dX10_choose_150 (by decide) ?_
              exact ih80 I0_l80 M0_2 v5 H locs hP hD hS ls (lv_sub hl [1, 2, 3, 4, 0] rfl) hf
            · replace hf := wb_t hc hf
              refine lv_aload_n hx hb dX10_choose_117 rfl (lv_at hl 0 rfl) ?_
              refine va_get (D := D) (ci := 10) (v := .ref (a0 2)) (C := RX10) (T := TX10) (N := 5) hx hb hts hinX10 hown hK hP 0 rfl rfl 1 (by decide) (hts (.fieldLink RX10 15 "WheelBook$Tree" "row" "[I") (List.mem_of_getElem? (i := 2) rfl)) (fun _ h9 => h9) rfl dX10_choose_118 ?_
              refine lv_iload_n hx hb dX10_choose_121 rfl (lv_at hl 1 rfl) ?_
              refine lv_iload hx hb dX10_choose_122 (lv_at hl 4 rfl) ?_
              obtain ⟨hin, hf⟩ := wb_n hf
              refine va_iast hx hb hK hP hD hS 2 1 rfl rfl hin dX10_choose_124 (fun H locs hP hD hS => ?_)
              have hP : va_P D vwCl (wWX10 cB cI cZ a0 I0_l80 (wb_um M0_2 1 (x1).toNatClampNeg y80_4)) H := hP
              have hD : va_D A (wWX10 cB cI cZ a0 I0_l80 (wb_um M0_2 1 (x1).toNatClampNeg y80_4)) := hD
              obtain ⟨M0_6, eM0_6, hf⟩ := wb_v hf
              rw [← eM0_6] at hP hD
              refine lv_aload_n hx hb dX10_choose_125 rfl (lv_at hl 0 rfl) ?_
              refine lv_iload_n hx hb dX10_choose_126 rfl (lv_at hl 1 rfl) ?_
              refine lv_iconst (v := (1 : Int32)) hx hb dX10_choose_127 (by decide) ?_
              refine lv_iadd hx hb dX10_choose_128 ?_
              refine lv_iload_n hx hb dX10_choose_129 rfl (lv_at hl 2 rfl) ?_
              refine lv_aload_n hx hb dX10_choose_130 rfl (lv_at hl 0 rfl) ?_
              refine va_get (D := D) (ci := 10) (v := .ref (a0 1)) (C := RX10) (T := TX10) (N := 5) hx hb hts hinX10 hown hK hP 0 rfl rfl 0 (by decide) (hts (.fieldLink RX10 9 "WheelBook$Tree" "prices" "[I") (List.mem_of_getElem? (i := 8) rfl)) (fun _ h9 => h9) rfl dX10_choose_131 ?_
              refine lv_bipush (v := (6 : Int32)) hx hb dX10_choose_134 (by decide) ?_
              refine lv_iload hx hb dX10_choose_136 (lv_at hl 4 rfl) ?_
              refine lv_imul hx hb dX10_choose_138 ?_
              refine lv_iload_n hx hb dX10_choose_139 rfl (lv_at hl 1 rfl) ?_
              refine lv_iadd hx hb dX10_choose_140 ?_
              obtain ⟨hin, hf⟩ := wb_n hf
              refine va_iald hx hb hK hP 1 1 rfl rfl hin dX10_choose_141 ?_
              refine lv_iadd hx hb dX10_choose_142 ?_
              refine lv_iload_n hx hb dX10_choose_143 rfl (lv_at hl 3 rfl) ?_
              obtain ⟨r7, hr7, hf⟩ := wb_b hf
              have hPc := hP
              have hDc := hD
              have hFc := wj_F hDc hS hA
              refine va_callv (va_runV (As := [.int (x1 + (1 : Int32)), .int (x2 + (M0_6 0 ((((6 : Int32) * y80_4) + x1)).toNatClampNeg)), .int x3]) (rest := []) ⟨hx, hb, hml, hown, hts⟩ (cn_X10_choose_d3 l D cB cI cZ N a0 I0_l80 M0_6 (x1 + (1 : Int32)) (x2 + (M0_6 0 ((((6 : Int32) * y80_4) + x1)).toNatClampNeg)) x3 H.size r7 hr7) (cwV 3 hts gX10_choose_X10_choose rfl rfl rfl cdX10_choose ⟨Nat.le_of_ble_eq_true rfl, Nat.le_of_ble_eq_true rfl⟩) (wb_preDV hPc hK hDc (wr_10 hK hP (q0 := 0) rfl)) rfl rfl hl.1 rfl (lv_room (Nat.le_of_ble_eq_true rfl)) dX10_choose_144 ⟨Nat.le_of_ble_eq_true rfl, Nat.le_of_ble_eq_true rfl⟩) hS (fun q _ h => hFc q h) hFc (fun u t H locs ht hvm hw hB hz1 hk1 hS => ?_)
              obtain ⟨hP, hD⟩ := wj_0 hFc ht hB
              obtain ⟨v8, ev8, hf⟩ := wb_v hf
              refine lv_iinc (v := v8) (lv' := [(4, .int v8), (0, .ref (a0 0)), (1, .int x1), (2, .int x2), (3, .int x3)]) hx hb dX10_choose_147 hl (k := 4) rfl (by rw [ev8]; rfl) (by decide) rfl (fun ls hl => ?_)
              refine lv_goto (tgt := 80) hx hb dX10_choose_150 (by decide) ?_
              exact ih80 r7.1 r7.2 v8 H locs hP hD hS ls (lv_sub hl [1, 2, 3, 4, 0] rfl) hf
    exact L80 N I0_j77 M0_j77 (0 : Int32) H locs hP hD hS ls (lv_sub hl [1, 2, 3, 4, 0] rfl) hf
  refine lv_iload_n hx hb dX10_choose_0 rfl (lv_at hl 2 rfl) ?_
  refine lv_aload_n hx hb dX10_choose_1 rfl (lv_at hl 0 rfl) ?_
  refine va_get (D := D) (ci := 10) (v := .int (I0 0)) (C := RX10) (T := TX10) (N := 5) hx hb hts hinX10 hown hK hP 0 rfl rfl 3 (by decide) (hts (.fieldLink RX10 45 "WheelBook$Tree" "least" "I") (List.mem_of_getElem? (i := 1) rfl)) (fun _ h9 => h9) rfl dX10_choose_2 ?_
  refine lv_icmp_lt (tgt := 9) hx hb dX10_choose_5 (by decide) (fun hc => ?_) (fun hc => ?_)
  · replace hf := wb_t hc hf
    refine lv_iload_n hx hb dX10_choose_9 rfl (lv_at hl 1 rfl) ?_
    refine lv_bipush (v := (6 : Int32)) hx hb dX10_choose_10 (by decide) ?_
    refine lv_icmp_lt (tgt := 36) hx hb dX10_choose_12 (by decide) (fun hc => ?_) (fun hc => ?_)
    · replace hf := wb_t hc hf
      refine lv_aload_n hx hb dX10_choose_36 rfl (lv_at hl 0 rfl) ?_
      refine va_get (D := D) (ci := 10) (v := .ref (a0 2)) (C := RX10) (T := TX10) (N := 5) hx hb hts hinX10 hown hK hP 0 rfl rfl 1 (by decide) (hts (.fieldLink RX10 15 "WheelBook$Tree" "row" "[I") (List.mem_of_getElem? (i := 2) rfl)) (fun _ h9 => h9) rfl dX10_choose_37 ?_
      refine lv_iload_n hx hb dX10_choose_40 rfl (lv_at hl 1 rfl) ?_
      obtain ⟨hin, hf⟩ := wb_n hf
      refine va_iald hx hb hK hP 2 1 rfl rfl hin dX10_choose_41 ?_
      refine lv_bipush (v := (-2 : Int32)) hx hb dX10_choose_42 (by decide) ?_
      refine lv_icmp_ne (tgt := 57) hx hb dX10_choose_44 (by decide) (fun hc => ?_) (fun hc => ?_)
      · replace hf := wb_f hc hf
        refine lv_iload_n hx hb dX10_choose_57 rfl (lv_at hl 3 rfl) ?_
        refine lv_if_ne (tgt := 77) hx hb dX10_choose_58 (by decide) (fun hc => ?_) (fun hc => ?_)
        · replace hf := wb_f hc hf
          exact J77 I0 M0 H locs hP hD hS ls (lv_sub hl [0, 1, 2, 3] rfl) hf
        · replace hf := wb_t hc hf
          refine lv_aload_n hx hb dX10_choose_61 rfl (lv_at hl 0 rfl) ?_
          refine va_get (D := D) (ci := 10) (v := .ref (a0 2)) (C := RX10) (T := TX10) (N := 5) hx hb hts hinX10 hown hK hP 0 rfl rfl 1 (by decide) (hts (.fieldLink RX10 15 "WheelBook$Tree" "row" "[I") (List.mem_of_getElem? (i := 2) rfl)) (fun _ h9 => h9) rfl dX10_choose_62 ?_
          refine lv_iload_n hx hb dX10_choose_65 rfl (lv_at hl 1 rfl) ?_
          refine lv_iconst (v := (-1 : Int32)) hx hb dX10_choose_66 (by decide) ?_
          obtain ⟨hin, hf⟩ := wb_n hf
          refine va_iast hx hb hK hP hD hS 2 1 rfl rfl hin dX10_choose_67 (fun H locs hP hD hS => ?_)
          have hP : va_P D vwCl (wWX10 cB cI cZ a0 I0 (wb_um M0 1 (x1).toNatClampNeg (-1 : Int32))) H := hP
          have hD : va_D A (wWX10 cB cI cZ a0 I0 (wb_um M0 1 (x1).toNatClampNeg (-1 : Int32))) := hD
          obtain ⟨M0_9, eM0_9, hf⟩ := wb_v hf
          rw [← eM0_9] at hP hD
          refine lv_aload_n hx hb dX10_choose_68 rfl (lv_at hl 0 rfl) ?_
          refine lv_iload_n hx hb dX10_choose_69 rfl (lv_at hl 1 rfl) ?_
          refine lv_iconst (v := (1 : Int32)) hx hb dX10_choose_70 (by decide) ?_
          refine lv_iadd hx hb dX10_choose_71 ?_
          refine lv_iload_n hx hb dX10_choose_72 rfl (lv_at hl 2 rfl) ?_
          refine lv_iconst (v := (1 : Int32)) hx hb dX10_choose_73 (by decide) ?_
          obtain ⟨r10, hr10, hf⟩ := wb_b hf
          have hPc := hP
          have hDc := hD
          have hFc := wj_F hDc hS hA
          refine va_callv (va_runV (As := [.int (x1 + (1 : Int32)), .int x2, .int (1 : Int32)]) (rest := []) ⟨hx, hb, hml, hown, hts⟩ (cn_X10_choose_d3 l D cB cI cZ N a0 I0 M0_9 (x1 + (1 : Int32)) x2 (1 : Int32) H.size r10 hr10) (cwV 3 hts gX10_choose_X10_choose rfl rfl rfl cdX10_choose ⟨Nat.le_of_ble_eq_true rfl, Nat.le_of_ble_eq_true rfl⟩) (wb_preDV hPc hK hDc (wr_10 hK hP (q0 := 0) rfl)) rfl rfl hl.1 rfl (lv_room (Nat.le_of_ble_eq_true rfl)) dX10_choose_74 ⟨Nat.le_of_ble_eq_true rfl, Nat.le_of_ble_eq_true rfl⟩) hS (fun q _ h => hFc q h) hFc (fun u t H locs ht hvm hw hB hz1 hk1 hS => ?_)
          obtain ⟨hP, hD⟩ := wj_0 hFc ht hB
          exact J77 r10.1 r10.2 H locs hP hD hS ls (lv_sub hl [0, 1, 2, 3] rfl) hf
      · replace hf := wb_t hc hf
        refine lv_aload_n hx hb dX10_choose_47 rfl (lv_at hl 0 rfl) ?_
        refine lv_iload_n hx hb dX10_choose_48 rfl (lv_at hl 1 rfl) ?_
        refine lv_iconst (v := (1 : Int32)) hx hb dX10_choose_49 (by decide) ?_
        refine lv_iadd hx hb dX10_choose_50 ?_
        refine lv_iload_n hx hb dX10_choose_51 rfl (lv_at hl 2 rfl) ?_
        refine lv_iload_n hx hb dX10_choose_52 rfl (lv_at hl 3 rfl) ?_
        obtain ⟨r11, hr11, hf⟩ := wb_b hf
        have hPc := hP
        have hDc := hD
        have hFc := wj_F hDc hS hA
        refine va_callv (va_runV (As := [.int (x1 + (1 : Int32)), .int x2, .int x3]) (rest := []) ⟨hx, hb, hml, hown, hts⟩ (cn_X10_choose_d3 l D cB cI cZ N a0 I0 M0 (x1 + (1 : Int32)) x2 x3 H.size r11 hr11) (cwV 3 hts gX10_choose_X10_choose rfl rfl rfl cdX10_choose ⟨Nat.le_of_ble_eq_true rfl, Nat.le_of_ble_eq_true rfl⟩) (wb_preDV hPc hK hDc (wr_10 hK hP (q0 := 0) rfl)) rfl rfl hl.1 rfl (lv_room (Nat.le_of_ble_eq_true rfl)) dX10_choose_53 ⟨Nat.le_of_ble_eq_true rfl, Nat.le_of_ble_eq_true rfl⟩) hS (fun q _ h => hFc q h) hFc (fun u t H locs ht hvm hw hB hz1 hk1 hS => ?_)
        obtain ⟨hP, hD⟩ := wj_0 hFc ht hB
        exact W.vret hx hb hr (fun t ht hW => by rw [← Option.some.inj hf]; exact ⟨⟨(), rfl, trivial, by rw [ht]; exact hP, va_K.moved hW.alike hK, hD⟩, hS.F ht⟩) hS.2.2 dX10_choose_56
    · replace hf := wb_f hc hf
      refine lv_aload_n hx hb dX10_choose_15 rfl (lv_at hl 0 rfl) ?_
      refine lv_iload_n hx hb dX10_choose_16 rfl (lv_at hl 2 rfl) ?_
      refine va_put (D := D) (ci := 10) (v := .int x2) (ty := .int) (C := RX10) (T := TX10) (N := 5) hx hb hts hinX10 tyX10 tyX10_ok nmX10 hown hK hP hD hS 0 rfl rfl 3 (by decide) (hts (.fieldLink RX10 45 "WheelBook$Tree" "least" "I") (List.mem_of_getElem? (i := 1) rfl)) (fun _ h9 => h9) rfl (by decide +kernel) rfl rfl (Nat.le_of_ble_eq_true rfl) dX10_choose_17 (fun H locs hP hD hS => ?_)
      have hP : va_P D vwCl (wWX10 cB cI cZ a0 (upd I0 0 x2) M0) H := hP
      have hD : va_D A (wWX10 cB cI cZ a0 (upd I0 0 x2) M0) := hD
      obtain ⟨I0_12, eI0_12, hf⟩ := wb_v hf
      rw [← eI0_12] at hP hD
      refine lv_aload_n hx hb dX10_choose_20 rfl (lv_at hl 0 rfl) ?_
      refine va_get (D := D) (ci := 10) (v := .ref (a0 2)) (C := RX10) (T := TX10) (N := 5) hx hb hts hinX10 hown hK hP 0 rfl rfl 1 (by decide) (hts (.fieldLink RX10 15 "WheelBook$Tree" "row" "[I") (List.mem_of_getElem? (i := 2) rfl)) (fun _ h9 => h9) rfl dX10_choose_21 ?_
      refine lv_iconst (v := (0 : Int32)) hx hb dX10_choose_24 (by decide) ?_
      refine lv_aload_n hx hb dX10_choose_25 rfl (lv_at hl 0 rfl) ?_
      refine va_get (D := D) (ci := 10) (v := .ref (a0 3)) (C := RX10) (T := TX10) (N := 5) hx hb hts hinX10 hown hK hP 0 rfl rfl 2 (by decide) (hts (.fieldLink RX10 18 "WheelBook$Tree" "bestRow" "[I") (List.mem_of_getElem? (i := 3) rfl)) (fun _ h9 => h9) rfl dX10_choose_26 ?_
      refine lv_iconst (v := (0 : Int32)) hx hb dX10_choose_29 (by decide) ?_
      refine lv_bipush (v := (6 : Int32)) hx hb dX10_choose_30 (by decide) ?_
      obtain ⟨hcp, hf⟩ := wb_n hf
      obtain ⟨hcp1, hcp2, hcp3, hcp4, hcp5⟩ := wb_cp hcp
      refine va_copyi hx hb (hml.trans hl.1.symm) hown (hts (.methodLink RX10 57 arraycopyName) (List.mem_of_getElem? (i := 4) rfl)) (hts (.native arraycopyName) (List.mem_of_getElem? (i := 5) rfl)) (hts (.static arraycopyName) (List.mem_of_getElem? (i := 6) rfl)) (hts (.initialized "java/lang/System") (List.mem_of_getElem? (i := 7) rfl)) hK hP hD hS 2 3 1 1 rfl rfl rfl rfl rfl hcp1 hcp2 hcp3 hcp4 hcp5 (fun _ _ => rfl) (Nat.le_of_ble_eq_true rfl) (by decide +kernel) dX10_choose_32 (fun H locs hP hD hS => ?_)
      have hP : va_P D vwCl (wWX10 cB cI cZ a0 I0_12 (wb_mm M0 2 (va_cpy (M0 1) (M0 2) ((0 : Int32)).toNatClampNeg ((0 : Int32)).toNatClampNeg ((6 : Int32)).toNatClampNeg))) H := hP
      have hD : va_D A (wWX10 cB cI cZ a0 I0_12 (wb_mm M0 2 (va_cpy (M0 1) (M0 2) ((0 : Int32)).toNatClampNeg ((0 : Int32)).toNatClampNeg ((6 : Int32)).toNatClampNeg))) := hD
      obtain ⟨M0_13, eM0_13, hf⟩ := wb_v hf
      rw [← eM0_13] at hP hD
      exact W.vret hx hb hr (fun t ht hW => by rw [← Option.some.inj hf]; exact ⟨⟨(), rfl, trivial, by rw [ht]; exact hP, va_K.moved hW.alike hK, hD⟩, hS.F ht⟩) hS.2.2 dX10_choose_35
  · replace hf := wb_f hc hf
    exact W.vret hx hb hr (fun t ht hW => by rw [← Option.some.inj hf]; exact ⟨⟨(), rfl, trivial, by rw [ht]; exact hP, va_K.moved hW.alike hK, hD⟩, hS.F ht⟩) hS.2.2 dX10_choose_8

set_option maxHeartbeats 4000000 in
set_option maxRecDepth 100000 in
theorem cn_X10_choose_d5 (l : Launch) (D : va_G) (cB cI cZ : ClassId) (N : Nat) (a0 : Nat → Nat) (I0 : Nat → Int32) (M0 : Nat → Nat → Int32) (x1 : Int32) (x2 : Int32) (x3 : Int32) (sz : Nat) (R : (Nat → Int32) × (Nat → Nat → Int32)) (hf : fX10_choose_d5 N I0 M0 x1 x2 x3 = some R) : Met l yX10_choose wsX10_choose ({ frames := 5, cells := 0, slots := 0, locals := 176 }) (va_Pc [.ref (a0 0), .int x1, .int x2, .int x3] (wb_preD D [(cB, .byte), (cI, .int), (cZ, .boolean)] (wWX10 cB cI cZ a0 I0 M0) sz)) (va_Qv (fun _ : Unit => True) (fun _ t => wb_post D [(cB, .byte), (cI, .int), (cZ, .boolean)] (va_A (wWX10 cB cI cZ a0 I0 M0) sz) (wWX10 cB cI cZ a0 R.1 R.2) t) (va_A (wWX10 cB cI cZ a0 I0 M0) sz)) 0 0 (va_A (wWX10 cB cI cZ a0 I0 M0) sz) := by
  refine Met.ofW (cc := cX10_choose) (maxL := 5) (ret := none) pn_X10 rfl ?_
  intro p e s m args below meth c s₁ B hml hv
  obtain ⟨rfl, hsz, hP, hK, hD0⟩ := hv
  have hx := B.exec
  have hb := B.bytes
  have hr := B.returns
  have hts := atoms_spec (ws := wsX10_choose) B.pre
  have hown : s.vm.findClass RX10 = some m.cls := (findClass_of_methodNamed B.named :)
  have hlocks := B.notSynchronized
  have hinX10 : ∀ w ∈ u_ws RX10 TX10 5, w ∈ wsX10_choose := fun w h => List.mem_cons_of_mem _ (List.mem_append_right _ h)
  subst hsz
  have hD := hD0.self (sz := s.heap.size)
  generalize hAe : va_A (wWX10 cB cI cZ a0 I0 M0) s.heap.size = A at hD ⊢
  have hA : ∀ q : Nat, s.heap.size ≤ q → A q := fun q h => by rw [← hAe]; exact Or.inr h
  have hS : va_S A s.heap s.heap [] := va_S.rf
  have hl := lv_entry ([.ref (a0 0), .int x1, .int x2, .int x3]) (n := 5) (Nat.le_of_ble_eq_true rfl)
  rw [lg_entry_eq]
  generalize (lg_sl ([.ref (a0 0), .int x1, .int x2, .int x3]) ++ List.replicate (5 - (lg_sl ([.ref (a0 0), .int x1, .int x2, .int x3])).length) Slot.unset).toArray = ls at hl ⊢
  have hl : lv_has ls 5 [(0, .ref (a0 0)), (1, .int x1), (2, .int x2), (3, .int x3)] := hl
  unfold fX10_choose_d5 at hf
  obtain ⟨H, hHe⟩ : ∃ H : Heap, H = s.heap := ⟨_, rfl⟩
  obtain ⟨locs, hle⟩ : ∃ locs : List Loc, locs = [] := ⟨_, rfl⟩
  refine wb_start (H := H) (locs := locs) hHe hle ?_
  rw [← hHe] at hP
  have hS : va_S A s.heap H locs := by rw [hHe, hle]; exact va_S.rf
  have J77 : ∀ (I0_j77 : Nat → Int32) (M0_j77 : Nat → Nat → Int32) (H : Heap) (locs : List Loc), va_P D vwCl (wWX10 cB cI cZ a0 I0_j77 M0_j77) H → va_D A (wWX10 cB cI cZ a0 I0_j77 M0_j77) → va_S A s.heap H locs → ∀ (ls : Array Slot), lv_has ls 5 [(0, .ref (a0 0)), (1, .int x1), (2, .int x2), (3, .int x3)] → fX10_choose_d5_J77 N x1 x2 x3 I0_j77 M0_j77 = some R → W p l e (headSpec wsX10_choose { frames := 5, cells := 0, slots := 0, locals := 176 }).room s m [.ref (a0 0), .int x1, .int x2, .int x3].toArray below meth c H locs 0 0 (MQ below (va_Qv (fun _ : Unit => True) (fun _ t => wb_post D [(cB, .byte), (cI, .int), (cZ, .boolean)] A (wWX10 cB cI cZ a0 R.1 R.2) t) A) [.ref (a0 0), .int x1, .int x2, .int x3].toArray s 0 0 A) (F0 m 77 ls []) := by
    intro I0_j77 M0_j77 H locs hP hD hS ls hl hf
    unfold fX10_choose_d5_J77 at hf
    refine lv_iconst (v := (0 : Int32)) hx hb dX10_choose_77 (by decide) ?_
    refine lv_istore (lv' := [(4, .int (0 : Int32)), (0, .ref (a0 0)), (1, .int x1), (2, .int x2), (3, .int x3)]) hx hb dX10_choose_78 hl (by decide) rfl (fun ls hl => ?_)
    have L80 : ∀ (fu80 : Nat) (I0_l80 : Nat → Int32) (M0_l80 : Nat → Nat → Int32) (y80_4 : Int32) (H : Heap) (locs : List Loc), va_P D vwCl (wWX10 cB cI cZ a0 I0_l80 M0_l80) H → va_D A (wWX10 cB cI cZ a0 I0_l80 M0_l80) → va_S A s.heap H locs → ∀ (ls : Array Slot), lv_has ls 5 [(0, .ref (a0 0)), (1, .int x1), (2, .int x2), (3, .int x3), (4, .int y80_4)] → fX10_choose_d5_L80 N x1 x2 x3 fu80 I0_l80 M0_l80 y80_4 = some R → W p l e (headSpec wsX10_choose { frames := 5, cells := 0, slots := 0, locals := 176 }).room s m [.ref (a0 0), .int x1, .int x2, .int x3].toArray below meth c H locs 0 0 (MQ below (va_Qv (fun _ : Unit => True) (fun _ t => wb_post D [(cB, .byte), (cI, .int), (cZ, .boolean)] A (wWX10 cB cI cZ a0 R.1 R.2) t) A) [.ref (a0 0), .int x1, .int x2, .int x3].toArray s 0 0 A) (F0 m 80 ls []) := by
      intro fu80
      induction fu80 with
      | zero =>
        intro I0_l80 M0_l80 y80_4 H locs hP hD hS ls hl hf
        exact absurd hf (by rw [fX10_choose_d5_L80.eq_1]; exact fun h => nomatch h)
      | succ fu80 ih80 =>
        intro I0_l80 M0_l80 y80_4 H locs hP hD hS ls hl hf
        rw [fX10_choose_d5_L80.eq_2] at hf
        refine lv_iload hx hb dX10_choose_80 (lv_at hl 4 rfl) ?_
        refine lv_bipush (v := (6 : Int32)) hx hb dX10_choose_82 (by decide) ?_
        refine lv_icmp_ge (tgt := 153) hx hb dX10_choose_84 (by decide) (fun hc => ?_) (fun hc => ?_)
        · replace hf := wb_t hc hf
          refine lv_aload_n hx hb dX10_choose_153 rfl (lv_at hl 0 rfl) ?_
          refine va_get (D := D) (ci := 10) (v := .ref (a0 2)) (C := RX10) (T := TX10) (N := 5) hx hb hts hinX10 hown hK hP 0 rfl rfl 1 (by decide) (hts (.fieldLink RX10 15 "WheelBook$Tree" "row" "[I") (List.mem_of_getElem? (i := 2) rfl)) (fun _ h9 => h9) rfl dX10_choose_154 ?_
          refine lv_iload_n hx hb dX10_choose_157 rfl (lv_at hl 1 rfl) ?_
          refine lv_bipush (v := (-3 : Int32)) hx hb dX10_choose_158 (by decide) ?_
          obtain ⟨hin, hf⟩ := wb_n hf
          refine va_iast hx hb hK hP hD hS 2 1 rfl rfl hin dX10_choose_160 (fun H locs hP hD hS => ?_)
          have hP : va_P D vwCl (wWX10 cB cI cZ a0 I0_l80 (wb_um M0_l80 1 (x1).toNatClampNeg (-3 : Int32))) H := hP
          have hD : va_D A (wWX10 cB cI cZ a0 I0_l80 (wb_um M0_l80 1 (x1).toNatClampNeg (-3 : Int32))) := hD
          obtain ⟨M0_1, eM0_1, hf⟩ := wb_v hf
          rw [← eM0_1] at hP hD
          exact W.vret hx hb hr (fun t ht hW => by rw [← Option.some.inj hf]; exact ⟨⟨(), rfl, trivial, by rw [ht]; exact hP, va_K.moved hW.alike hK, hD⟩, hS.F ht⟩) hS.2.2 dX10_choose_161
        · replace hf := wb_f hc hf
          refine lv_aload_n hx hb dX10_choose_87 rfl (lv_at hl 0 rfl) ?_
          refine va_get (D := D) (ci := 10) (v := .ref (a0 2)) (C := RX10) (T := TX10) (N := 5) hx hb hts hinX10 hown hK hP 0 rfl rfl 1 (by decide) (hts (.fieldLink RX10 15 "WheelBook$Tree" "row" "[I") (List.mem_of_getElem? (i := 2) rfl)) (fun _ h9 => h9) rfl dX10_choose_88 ?_
          refine lv_iload_n hx hb dX10_choose_91 rfl (lv_at hl 1 rfl) ?_
          refine lv_bipush (v := (-3 : Int32)) hx hb dX10_choose_92 (by decide) ?_
          obtain ⟨hin, hf⟩ := wb_n hf
          refine va_iast hx hb hK hP hD hS 2 1 rfl rfl hin dX10_choose_94 (fun H locs hP hD hS => ?_)
          have hP : va_P D vwCl (wWX10 cB cI cZ a0 I0_l80 (wb_um M0_l80 1 (x1).toNatClampNeg (-3 : Int32))) H := hP
          have hD : va_D A (wWX10 cB cI cZ a0 I0_l80 (wb_um M0_l80 1 (x1).toNatClampNeg (-3 : Int32))) := hD
          obtain ⟨M0_2, eM0_2, hf⟩ := wb_v hf
          rw [← eM0_2] at hP hD
          refine lv_aload_n hx hb dX10_choose_95 rfl (lv_at hl 0 rfl) ?_
          refine va_get (D := D) (ci := 10) (v := .ref (a0 2)) (C := RX10) (T := TX10) (N := 5) hx hb hts hinX10 hown hK hP 0 rfl rfl 1 (by decide) (hts (.fieldLink RX10 15 "WheelBook$Tree" "row" "[I") (List.mem_of_getElem? (i := 2) rfl)) (fun _ h9 => h9) rfl dX10_choose_96 ?_
          refine lv_iload hx hb dX10_choose_99 (lv_at hl 4 rfl) ?_
          obtain ⟨hin, hf⟩ := wb_n hf
          refine va_iald hx hb hK hP 2 1 rfl rfl hin dX10_choose_101 ?_
          refine lv_bipush (v := (-2 : Int32)) hx hb dX10_choose_102 (by decide) ?_
          refine lv_icmp_eq (tgt := 147) hx hb dX10_choose_104 (by decide) (fun hc => ?_) (fun hc => ?_)
          · replace hf := wb_t hc hf
            obtain ⟨v3, ev3, hf⟩ := wb_v hf
            refine lv_iinc (v := v3) (lv' := [(4, .int v3), (0, .ref (a0 0)), (1, .int x1), (2, .int x2), (3, .int x3)]) hx hb dX10_choose_147 hl (k := 4) rfl (by rw [ev3]; rfl) (by decide) rfl (fun ls hl => ?_)
            refine lv_goto (tgt := 80) hx hb dX10_choose_150 (by decide) ?_
            exact ih80 I0_l80 M0_2 v3 H locs hP hD hS ls (lv_sub hl [1, 2, 3, 4, 0] rfl) hf
          · replace hf := wb_f hc hf
            refine lv_aload_n hx hb dX10_choose_107 rfl (lv_at hl 0 rfl) ?_
            refine lv_iload hx hb dX10_choose_108 (lv_at hl 4 rfl) ?_
            refine lv_iload_n hx hb dX10_choose_110 rfl (lv_at hl 1 rfl) ?_
            obtain ⟨r4, hr4, hf⟩ := wb_b hf
            refine vp_callSi (W.runV (As := [.int y80_4, .int x1]) (rest := []) ⟨hx, hb, hml, hown, hts⟩ (cn_X10_comesFrom l D cB cI cZ N a0 I0_l80 M0_2 y80_4 x1 r4 hr4) (cwV 2 hts gX10_choose_X10_comesFrom rfl rfl rfl cdX10_comesFrom ⟨Nat.le_of_ble_eq_true rfl, Nat.le_of_ble_eq_true rfl⟩) (wb_preV hP hK (wr_10 hK hP (q0 := 0) rfl)) rfl rfl hl.1 rfl (lv_room (Nat.le_of_ble_eq_true rfl)) dX10_choose_111 ⟨Nat.le_of_ble_eq_true rfl, Nat.le_of_ble_eq_true rfl⟩) (fun r9 e9 => ?_)
            rw [e9]
            refine lv_if_ne (tgt := 147) hx hb dX10_choose_114 (by decide) (fun hc => ?_) (fun hc => ?_)
            · replace hf := wb_f hc hf
              obtain ⟨v5, ev5, hf⟩ := wb_v hf
              refine lv_iinc (v := v5) (lv' := [(4, .int v5), (0, .ref (a0 0)), (1, .int x1), (2, .int x2), (3, .int x3)]) hx hb dX10_choose_147 hl (k := 4) rfl (by rw [ev5]; rfl) (by decide) rfl (fun ls hl => ?_)
              refine lv_goto (tgt := 80) hx hb dX10_choose_150 (by decide) ?_
              exact ih80 I0_l80 M0_2 v5 H locs hP hD hS ls (lv_sub hl [1, 2, 3, 4, 0] rfl) hf
            · replace hf := wb_t hc hf
              refine lv_aload_n hx hb dX10_choose_117 rfl (lv_at hl 0 rfl) ?_
              refine va_get (D := D) (ci := 10) (v := .ref (a0 2)) (C := RX10) (T := TX10) (N := 5) hx hb hts hinX10 hown hK hP 0 rfl rfl 1 (by decide) (hts (.fieldLink RX10 15 "WheelBook$Tree" "row" "[I") (List.mem_of_getElem? (i := 2) rfl)) (fun _ h9 => h9) rfl dX10_choose_118 ?_
              refine lv_iload_n hx hb dX10_choose_121 rfl (lv_at hl 1 rfl) ?_
              refine lv_iload hx hb dX10_choose_122 (lv_at hl 4 rfl) ?_
              obtain ⟨hin, hf⟩ := wb_n hf
              refine va_iast hx hb hK hP hD hS 2 1 rfl rfl hin dX10_choose_124 (fun H locs hP hD hS => ?_)
              have hP : va_P D vwCl (wWX10 cB cI cZ a0 I0_l80 (wb_um M0_2 1 (x1).toNatClampNeg y80_4)) H := hP
              have hD : va_D A (wWX10 cB cI cZ a0 I0_l80 (wb_um M0_2 1 (x1).toNatClampNeg y80_4)) := hD
              obtain ⟨M0_6, eM0_6, hf⟩ := wb_v hf
              rw [← eM0_6] at hP hD
              refine lv_aload_n hx hb dX10_choose_125 rfl (lv_at hl 0 rfl) ?_
              refine lv_iload_n hx hb dX10_choose_126 rfl (lv_at hl 1 rfl) ?_
              refine lv_iconst (v := (1 : Int32)) hx hb dX10_choose_127 (by decide) ?_
              refine lv_iadd hx hb dX10_choose_128 ?_
              refine lv_iload_n hx hb dX10_choose_129 rfl (lv_at hl 2 rfl) ?_
              refine lv_aload_n hx hb dX10_choose_130 rfl (lv_at hl 0 rfl) ?_
              refine va_get (D := D) (ci := 10) (v := .ref (a0 1)) (C := RX10) (T := TX10) (N := 5) hx hb hts hinX10 hown hK hP 0 rfl rfl 0 (by decide) (hts (.fieldLink RX10 9 "WheelBook$Tree" "prices" "[I") (List.mem_of_getElem? (i := 8) rfl)) (fun _ h9 => h9) rfl dX10_choose_131 ?_
              refine lv_bipush (v := (6 : Int32)) hx hb dX10_choose_134 (by decide) ?_
              refine lv_iload hx hb dX10_choose_136 (lv_at hl 4 rfl) ?_
              refine lv_imul hx hb dX10_choose_138 ?_
              refine lv_iload_n hx hb dX10_choose_139 rfl (lv_at hl 1 rfl) ?_
              refine lv_iadd hx hb dX10_choose_140 ?_
              obtain ⟨hin, hf⟩ := wb_n hf
              refine va_iald hx hb hK hP 1 1 rfl rfl hin dX10_choose_141 ?_
              refine lv_iadd hx hb dX10_choose_142 ?_
              refine lv_iload_n hx hb dX10_choose_143 rfl (lv_at hl 3 rfl) ?_
              obtain ⟨r7, hr7, hf⟩ := wb_b hf
              have hPc := hP
              have hDc := hD
              have hFc := wj_F hDc hS hA
              refine va_callv (va_runV (As := [.int (x1 + (1 : Int32)), .int (x2 + (M0_6 0 ((((6 : Int32) * y80_4) + x1)).toNatClampNeg)), .int x3]) (rest := []) ⟨hx, hb, hml, hown, hts⟩ (cn_X10_choose_d4 l D cB cI cZ N a0 I0_l80 M0_6 (x1 + (1 : Int32)) (x2 + (M0_6 0 ((((6 : Int32) * y80_4) + x1)).toNatClampNeg)) x3 H.size r7 hr7) (cwV 3 hts gX10_choose_X10_choose rfl rfl rfl cdX10_choose ⟨Nat.le_of_ble_eq_true rfl, Nat.le_of_ble_eq_true rfl⟩) (wb_preDV hPc hK hDc (wr_10 hK hP (q0 := 0) rfl)) rfl rfl hl.1 rfl (lv_room (Nat.le_of_ble_eq_true rfl)) dX10_choose_144 ⟨Nat.le_of_ble_eq_true rfl, Nat.le_of_ble_eq_true rfl⟩) hS (fun q _ h => hFc q h) hFc (fun u t H locs ht hvm hw hB hz1 hk1 hS => ?_)
              obtain ⟨hP, hD⟩ := wj_0 hFc ht hB
              obtain ⟨v8, ev8, hf⟩ := wb_v hf
              refine lv_iinc (v := v8) (lv' := [(4, .int v8), (0, .ref (a0 0)), (1, .int x1), (2, .int x2), (3, .int x3)]) hx hb dX10_choose_147 hl (k := 4) rfl (by rw [ev8]; rfl) (by decide) rfl (fun ls hl => ?_)
              refine lv_goto (tgt := 80) hx hb dX10_choose_150 (by decide) ?_
              exact ih80 r7.1 r7.2 v8 H locs hP hD hS ls (lv_sub hl [1, 2, 3, 4, 0] rfl) hf
    exact L80 N I0_j77 M0_j77 (0 : Int32) H locs hP hD hS ls (lv_sub hl [1, 2, 3, 4, 0] rfl) hf
  refine lv_iload_n hx hb dX10_choose_0 rfl (lv_at hl 2 rfl) ?_
  refine lv_aload_n hx hb dX10_choose_1 rfl (lv_at hl 0 rfl) ?_
  refine va_get (D := D) (ci := 10) (v := .int (I0 0)) (C := RX10) (T := TX10) (N := 5) hx hb hts hinX10 hown hK hP 0 rfl rfl 3 (by decide) (hts (.fieldLink RX10 45 "WheelBook$Tree" "least" "I") (List.mem_of_getElem? (i := 1) rfl)) (fun _ h9 => h9) rfl dX10_choose_2 ?_
  refine lv_icmp_lt (tgt := 9) hx hb dX10_choose_5 (by decide) (fun hc => ?_) (fun hc => ?_)
  · replace hf := wb_t hc hf
    refine lv_iload_n hx hb dX10_choose_9 rfl (lv_at hl 1 rfl) ?_
    refine lv_bipush (v := (6 : Int32)) hx hb dX10_choose_10 (by decide) ?_
    refine lv_icmp_lt (tgt := 36) hx hb dX10_choose_12 (by decide) (fun hc => ?_) (fun hc => ?_)
    · replace hf := wb_t hc hf
      refine lv_aload_n hx hb dX10_choose_36 rfl (lv_at hl 0 rfl) ?_
      refine va_get (D := D) (ci := 10) (v := .ref (a0 2)) (C := RX10) (T := TX10) (N := 5) hx hb hts hinX10 hown hK hP 0 rfl rfl 1 (by decide) (hts (.fieldLink RX10 15 "WheelBook$Tree" "row" "[I") (List.mem_of_getElem? (i := 2) rfl)) (fun _ h9 => h9) rfl dX10_choose_37 ?_
      refine lv_iload_n hx hb dX10_choose_40 rfl (lv_at hl 1 rfl) ?_
      obtain ⟨hin, hf⟩ := wb_n hf
      refine va_iald hx hb hK hP 2 1 rfl rfl hin dX10_choose_41 ?_
      refine lv_bipush (v := (-2 : Int32)) hx hb dX10_choose_42 (by decide) ?_
      refine lv_icmp_ne (tgt := 57) hx hb dX10_choose_44 (by decide) (fun hc => ?_) (fun hc => ?_)
      · replace hf := wb_f hc hf
        refine lv_iload_n hx hb dX10_choose_57 rfl (lv_at hl 3 rfl) ?_
        refine lv_if_ne (tgt := 77) hx hb dX10_choose_58 (by decide) (fun hc => ?_) (fun hc => ?_)
        · replace hf := wb_f hc hf
          exact J77 I0 M0 H locs hP hD hS ls (lv_sub hl [0, 1, 2, 3] rfl) hf
        · replace hf := wb_t hc hf
          refine lv_aload_n hx hb dX10_choose_61 rfl (lv_at hl 0 rfl) ?_
          refine va_get (D := D) (ci := 10) (v := .ref (a0 2)) (C := RX10) (T := TX10) (N := 5) hx hb hts hinX10 hown hK hP 0 rfl rfl 1 (by decide) (hts (.fieldLink RX10 15 "WheelBook$Tree" "row" "[I") (List.mem_of_getElem? (i := 2) rfl)) (fun _ h9 => h9) rfl dX10_choose_62 ?_
          refine lv_iload_n hx hb dX10_choose_65 rfl (lv_at hl 1 rfl) ?_
          refine lv_iconst (v := (-1 : Int32)) hx hb dX10_choose_66 (by decide) ?_
          obtain ⟨hin, hf⟩ := wb_n hf
          refine va_iast hx hb hK hP hD hS 2 1 rfl rfl hin dX10_choose_67 (fun H locs hP hD hS => ?_)
          have hP : va_P D vwCl (wWX10 cB cI cZ a0 I0 (wb_um M0 1 (x1).toNatClampNeg (-1 : Int32))) H := hP
          have hD : va_D A (wWX10 cB cI cZ a0 I0 (wb_um M0 1 (x1).toNatClampNeg (-1 : Int32))) := hD
          obtain ⟨M0_9, eM0_9, hf⟩ := wb_v hf
          rw [← eM0_9] at hP hD
          refine lv_aload_n hx hb dX10_choose_68 rfl (lv_at hl 0 rfl) ?_
          refine lv_iload_n hx hb dX10_choose_69 rfl (lv_at hl 1 rfl) ?_
          refine lv_iconst (v := (1 : Int32)) hx hb dX10_choose_70 (by decide) ?_
          refine lv_iadd hx hb dX10_choose_71 ?_
          refine lv_iload_n hx hb dX10_choose_72 rfl (lv_at hl 2 rfl) ?_
          refine lv_iconst (v := (1 : Int32)) hx hb dX10_choose_73 (by decide) ?_
          obtain ⟨r10, hr10, hf⟩ := wb_b hf
          have hPc := hP
          have hDc := hD
          have hFc := wj_F hDc hS hA
          refine va_callv (va_runV (As := [.int (x1 + (1 : Int32)), .int x2, .int (1 : Int32)]) (rest := []) ⟨hx, hb, hml, hown, hts⟩ (cn_X10_choose_d4 l D cB cI cZ N a0 I0 M0_9 (x1 + (1 : Int32)) x2 (1 : Int32) H.size r10 hr10) (cwV 3 hts gX10_choose_X10_choose rfl rfl rfl cdX10_choose ⟨Nat.le_of_ble_eq_true rfl, Nat.le_of_ble_eq_true rfl⟩) (wb_preDV hPc hK hDc (wr_10 hK hP (q0 := 0) rfl)) rfl rfl hl.1 rfl (lv_room (Nat.le_of_ble_eq_true rfl)) dX10_choose_74 ⟨Nat.le_of_ble_eq_true rfl, Nat.le_of_ble_eq_true rfl⟩) hS (fun q _ h => hFc q h) hFc (fun u t H locs ht hvm hw hB hz1 hk1 hS => ?_)
          obtain ⟨hP, hD⟩ := wj_0 hFc ht hB
          exact J77 r10.1 r10.2 H locs hP hD hS ls (lv_sub hl [0, 1, 2, 3] rfl) hf
      · replace hf := wb_t hc hf
        refine lv_aload_n hx hb dX10_choose_47 rfl (lv_at hl 0 rfl) ?_
        refine lv_iload_n hx hb dX10_choose_48 rfl (lv_at hl 1 rfl) ?_
        refine lv_iconst (v := (1 : Int32)) hx hb dX10_choose_49 (by decide) ?_
        refine lv_iadd hx hb dX10_choose_50 ?_
        refine lv_iload_n hx hb dX10_choose_51 rfl (lv_at hl 2 rfl) ?_
        refine lv_iload_n hx hb dX10_choose_52 rfl (lv_at hl 3 rfl) ?_
        obtain ⟨r11, hr11, hf⟩ := wb_b hf
        have hPc := hP
        have hDc := hD
        have hFc := wj_F hDc hS hA
        refine va_callv (va_runV (As := [.int (x1 + (1 : Int32)), .int x2, .int x3]) (rest := []) ⟨hx, hb, hml, hown, hts⟩ (cn_X10_choose_d4 l D cB cI cZ N a0 I0 M0 (x1 + (1 : Int32)) x2 x3 H.size r11 hr11) (cwV 3 hts gX10_choose_X10_choose rfl rfl rfl cdX10_choose ⟨Nat.le_of_ble_eq_true rfl, Nat.le_of_ble_eq_true rfl⟩) (wb_preDV hPc hK hDc (wr_10 hK hP (q0 := 0) rfl)) rfl rfl hl.1 rfl (lv_room (Nat.le_of_ble_eq_true rfl)) dX10_choose_53 ⟨Nat.le_of_ble_eq_true rfl, Nat.le_of_ble_eq_true rfl⟩) hS (fun q _ h => hFc q h) hFc (fun u t H locs ht hvm hw hB hz1 hk1 hS => ?_)
        obtain ⟨hP, hD⟩ := wj_0 hFc ht hB
        exact W.vret hx hb hr (fun t ht hW => by rw [← Option.some.inj hf]; exact ⟨⟨(), rfl, trivial, by rw [ht]; exact hP, va_K.moved hW.alike hK, hD⟩, hS.F ht⟩) hS.2.2 dX10_choose_56
    · replace hf := wb_f hc hf
      refine lv_aload_n hx hb dX10_choose_15 rfl (lv_at hl 0 rfl) ?_
      refine lv_iload_n hx hb dX10_choose_16 rfl (lv_at hl 2 rfl) ?_
      refine va_put (D := D) (ci := 10) (v := .int x2) (ty := .int) (C := RX10) (T := TX10) (N := 5) hx hb hts hinX10 tyX10 tyX10_ok nmX10 hown hK hP hD hS 0 rfl rfl 3 (by decide) (hts (.fieldLink RX10 45 "WheelBook$Tree" "least" "I") (List.mem_of_getElem? (i := 1) rfl)) (fun _ h9 => h9) rfl (by decide +kernel) rfl rfl (Nat.le_of_ble_eq_true rfl) dX10_choose_17 (fun H locs hP hD hS => ?_)
      have hP : va_P D vwCl (wWX10 cB cI cZ a0 (upd I0 0 x2) M0) H := hP
      have hD : va_D A (wWX10 cB cI cZ a0 (upd I0 0 x2) M0) := hD
      obtain ⟨I0_12, eI0_12, hf⟩ := wb_v hf
      rw [← eI0_12] at hP hD
      refine lv_aload_n hx hb dX10_choose_20 rfl (lv_at hl 0 rfl) ?_
      refine va_get (D := D) (ci := 10) (v := .ref (a0 2)) (C := RX10) (T := TX10) (N := 5) hx hb hts hinX10 hown hK hP 0 rfl rfl 1 (by decide) (hts (.fieldLink RX10 15 "WheelBook$Tree" "row" "[I") (List.mem_of_getElem? (i := 2) rfl)) (fun _ h9 => h9) rfl dX10_choose_21 ?_
      refine lv_iconst (v := (0 : Int32)) hx hb dX10_choose_24 (by decide) ?_
      refine lv_aload_n hx hb dX10_choose_25 rfl (lv_at hl 0 rfl) ?_
      refine va_get (D := D) (ci := 10) (v := .ref (a0 3)) (C := RX10) (T := TX10) (N := 5) hx hb hts hinX10 hown hK hP 0 rfl rfl 2 (by decide) (hts (.fieldLink RX10 18 "WheelBook$Tree" "bestRow" "[I") (List.mem_of_getElem? (i := 3) rfl)) (fun _ h9 => h9) rfl dX10_choose_26 ?_
      refine lv_iconst (v := (0 : Int32)) hx hb dX10_choose_29 (by decide) ?_
      refine lv_bipush (v := (6 : Int32)) hx hb dX10_choose_30 (by decide) ?_
      obtain ⟨hcp, hf⟩ := wb_n hf
      obtain ⟨hcp1, hcp2, hcp3, hcp4, hcp5⟩ := wb_cp hcp
      refine va_copyi hx hb (hml.trans hl.1.symm) hown (hts (.methodLink RX10 57 arraycopyName) (List.mem_of_getElem? (i := 4) rfl)) (hts (.native arraycopyName) (List.mem_of_getElem? (i := 5) rfl)) (hts (.static arraycopyName) (List.mem_of_getElem? (i := 6) rfl)) (hts (.initialized "java/lang/System") (List.mem_of_getElem? (i := 7) rfl)) hK hP hD hS 2 3 1 1 rfl rfl rfl rfl rfl hcp1 hcp2 hcp3 hcp4 hcp5 (fun _ _ => rfl) (Nat.le_of_ble_eq_true rfl) (by decide +kernel) dX10_choose_32 (fun H locs hP hD hS => ?_)
      have hP : va_P D vwCl (wWX10 cB cI cZ a0 I0_12 (wb_mm M0 2 (va_cpy (M0 1) (M0 2) ((0 : Int32)).toNatClampNeg ((0 : Int32)).toNatClampNeg ((6 : Int32)).toNatClampNeg))) H := hP
      have hD : va_D A (wWX10 cB cI cZ a0 I0_12 (wb_mm M0 2 (va_cpy (M0 1) (M0 2) ((0 : Int32)).toNatClampNeg ((0 : Int32)).toNatClampNeg ((6 : Int32)).toNatClampNeg))) := hD
      obtain ⟨M0_13, eM0_13, hf⟩ := wb_v hf
      rw [← eM0_13] at hP hD
      exact W.vret hx hb hr (fun t ht hW => by rw [← Option.some.inj hf]; exact ⟨⟨(), rfl, trivial, by rw [ht]; exact hP, va_K.moved hW.alike hK, hD⟩, hS.F ht⟩) hS.2.2 dX10_choose_35
  · replace hf := wb_f hc hf
    exact W.vret hx hb hr (fun t ht hW => by rw [← Option.some.inj hf]; exact ⟨⟨(), rfl, trivial, by rw [ht]; exact hP, va_K.moved hW.alike hK, hD⟩, hS.F ht⟩) hS.2.2 dX10_choose_8

set_option maxHeartbeats 4000000 in
set_option maxRecDepth 100000 in
theorem cn_X10_choose_d6 (l : Launch) (D : va_G) (cB cI cZ : ClassId) (N : Nat) (a0 : Nat → Nat) (I0 : Nat → Int32) (M0 : Nat → Nat → Int32) (x1 : Int32) (x2 : Int32) (x3 : Int32) (sz : Nat) (R : (Nat → Int32) × (Nat → Nat → Int32)) (hf : fX10_choose_d6 N I0 M0 x1 x2 x3 = some R) : Met l yX10_choose wsX10_choose ({ frames := 6, cells := 0, slots := 0, locals := 200 }) (va_Pc [.ref (a0 0), .int x1, .int x2, .int x3] (wb_preD D [(cB, .byte), (cI, .int), (cZ, .boolean)] (wWX10 cB cI cZ a0 I0 M0) sz)) (va_Qv (fun _ : Unit => True) (fun _ t => wb_post D [(cB, .byte), (cI, .int), (cZ, .boolean)] (va_A (wWX10 cB cI cZ a0 I0 M0) sz) (wWX10 cB cI cZ a0 R.1 R.2) t) (va_A (wWX10 cB cI cZ a0 I0 M0) sz)) 0 0 (va_A (wWX10 cB cI cZ a0 I0 M0) sz) := by
  refine Met.ofW (cc := cX10_choose) (maxL := 5) (ret := none) pn_X10 rfl ?_
  intro p e s m args below meth c s₁ B hml hv
  obtain ⟨rfl, hsz, hP, hK, hD0⟩ := hv
  have hx := B.exec
  have hb := B.bytes
  have hr := B.returns
  have hts := atoms_spec (ws := wsX10_choose) B.pre
  have hown : s.vm.findClass RX10 = some m.cls := (findClass_of_methodNamed B.named :)
  have hlocks := B.notSynchronized
  have hinX10 : ∀ w ∈ u_ws RX10 TX10 5, w ∈ wsX10_choose := fun w h => List.mem_cons_of_mem _ (List.mem_append_right _ h)
  subst hsz
  have hD := hD0.self (sz := s.heap.size)
  generalize hAe : va_A (wWX10 cB cI cZ a0 I0 M0) s.heap.size = A at hD ⊢
  have hA : ∀ q : Nat, s.heap.size ≤ q → A q := fun q h => by rw [← hAe]; exact Or.inr h
  have hS : va_S A s.heap s.heap [] := va_S.rf
  have hl := lv_entry ([.ref (a0 0), .int x1, .int x2, .int x3]) (n := 5) (Nat.le_of_ble_eq_true rfl)
  rw [lg_entry_eq]
  generalize (lg_sl ([.ref (a0 0), .int x1, .int x2, .int x3]) ++ List.replicate (5 - (lg_sl ([.ref (a0 0), .int x1, .int x2, .int x3])).length) Slot.unset).toArray = ls at hl ⊢
  have hl : lv_has ls 5 [(0, .ref (a0 0)), (1, .int x1), (2, .int x2), (3, .int x3)] := hl
  unfold fX10_choose_d6 at hf
  obtain ⟨H, hHe⟩ : ∃ H : Heap, H = s.heap := ⟨_, rfl⟩
  obtain ⟨locs, hle⟩ : ∃ locs : List Loc, locs = [] := ⟨_, rfl⟩
  refine wb_start (H := H) (locs := locs) hHe hle ?_
  rw [← hHe] at hP
  have hS : va_S A s.heap H locs := by rw [hHe, hle]; exact va_S.rf
  have J77 : ∀ (I0_j77 : Nat → Int32) (M0_j77 : Nat → Nat → Int32) (H : Heap) (locs : List Loc), va_P D vwCl (wWX10 cB cI cZ a0 I0_j77 M0_j77) H → va_D A (wWX10 cB cI cZ a0 I0_j77 M0_j77) → va_S A s.heap H locs → ∀ (ls : Array Slot), lv_has ls 5 [(0, .ref (a0 0)), (1, .int x1), (2, .int x2), (3, .int x3)] → fX10_choose_d6_J77 N x1 x2 x3 I0_j77 M0_j77 = some R → W p l e (headSpec wsX10_choose { frames := 6, cells := 0, slots := 0, locals := 200 }).room s m [.ref (a0 0), .int x1, .int x2, .int x3].toArray below meth c H locs 0 0 (MQ below (va_Qv (fun _ : Unit => True) (fun _ t => wb_post D [(cB, .byte), (cI, .int), (cZ, .boolean)] A (wWX10 cB cI cZ a0 R.1 R.2) t) A) [.ref (a0 0), .int x1, .int x2, .int x3].toArray s 0 0 A) (F0 m 77 ls []) := by
    intro I0_j77 M0_j77 H locs hP hD hS ls hl hf
    unfold fX10_choose_d6_J77 at hf
    refine lv_iconst (v := (0 : Int32)) hx hb dX10_choose_77 (by decide) ?_
    refine lv_istore (lv' := [(4, .int (0 : Int32)), (0, .ref (a0 0)), (1, .int x1), (2, .int x2), (3, .int x3)]) hx hb dX10_choose_78 hl (by decide) rfl (fun ls hl => ?_)
    have L80 : ∀ (fu80 : Nat) (I0_l80 : Nat → Int32) (M0_l80 : Nat → Nat → Int32) (y80_4 : Int32) (H : Heap) (locs : List Loc), va_P D vwCl (wWX10 cB cI cZ a0 I0_l80 M0_l80) H → va_D A (wWX10 cB cI cZ a0 I0_l80 M0_l80) → va_S A s.heap H locs → ∀ (ls : Array Slot), lv_has ls 5 [(0, .ref (a0 0)), (1, .int x1), (2, .int x2), (3, .int x3), (4, .int y80_4)] → fX10_choose_d6_L80 N x1 x2 x3 fu80 I0_l80 M0_l80 y80_4 = some R → W p l e (headSpec wsX10_choose { frames := 6, cells := 0, slots := 0, locals := 200 }).room s m [.ref (a0 0), .int x1, .int x2, .int x3].toArray below meth c H locs 0 0 (MQ below (va_Qv (fun _ : Unit => True) (fun _ t => wb_post D [(cB, .byte), (cI, .int), (cZ, .boolean)] A (wWX10 cB cI cZ a0 R.1 R.2) t) A) [.ref (a0 0), .int x1, .int x2, .int x3].toArray s 0 0 A) (F0 m 80 ls []) := by
      intro fu80
      induction fu80 with
      | zero =>
        intro I0_l80 M0_l80 y80_4 H locs hP hD hS ls hl hf
        exact absurd hf (by rw [fX10_choose_d6_L80.eq_1]; exact fun h => nomatch h)
      | succ fu80 ih80 =>
        intro I0_l80 M0_l80 y80_4 H locs hP hD hS ls hl hf
        rw [fX10_choose_d6_L80.eq_2] at hf
        refine lv_iload hx hb dX10_choose_80 (lv_at hl 4 rfl) ?_
        refine lv_bipush (v := (6 : Int32)) hx hb dX10_choose_82 (by decide) ?_
        refine lv_icmp_ge (tgt := 153) hx hb dX10_choose_84 (by decide) (fun hc => ?_) (fun hc => ?_)
        · replace hf := wb_t hc hf
          refine lv_aload_n hx hb dX10_choose_153 rfl (lv_at hl 0 rfl) ?_
          refine va_get (D := D) (ci := 10) (v := .ref (a0 2)) (C := RX10) (T := TX10) (N := 5) hx hb hts hinX10 hown hK hP 0 rfl rfl 1 (by decide) (hts (.fieldLink RX10 15 "WheelBook$Tree" "row" "[I") (List.mem_of_getElem? (i := 2) rfl)) (fun _ h9 => h9) rfl dX10_choose_154 ?_
          refine lv_iload_n hx hb dX10_choose_157 rfl (lv_at hl 1 rfl) ?_
          refine lv_bipush (v := (-3 : Int32)) hx hb dX10_choose_158 (by decide) ?_
          obtain ⟨hin, hf⟩ := wb_n hf
          refine va_iast hx hb hK hP hD hS 2 1 rfl rfl hin dX10_choose_160 (fun H locs hP hD hS => ?_)
          have hP : va_P D vwCl (wWX10 cB cI cZ a0 I0_l80 (wb_um M0_l80 1 (x1).toNatClampNeg (-3 : Int32))) H := hP
          have hD : va_D A (wWX10 cB cI cZ a0 I0_l80 (wb_um M0_l80 1 (x1).toNatClampNeg (-3 : Int32))) := hD
          obtain ⟨M0_1, eM0_1, hf⟩ := wb_v hf
          rw [← eM0_1] at hP hD
          exact W.vret hx hb hr (fun t ht hW => by rw [← Option.some.inj hf]; exact ⟨⟨(), rfl, trivial, by rw [ht]; exact hP, va_K.moved hW.alike hK, hD⟩, hS.F ht⟩) hS.2.2 dX10_choose_161
        · replace hf := wb_f hc hf
          refine lv_aload_n hx hb dX10_choose_87 rfl (lv_at hl 0 rfl) ?_
          refine va_get (D := D) (ci := 10) (v := .ref (a0 2)) (C := RX10) (T := TX10) (N := 5) hx hb hts hinX10 hown hK hP 0 rfl rfl 1 (by decide) (hts (.fieldLink RX10 15 "WheelBook$Tree" "row" "[I") (List.mem_of_getElem? (i := 2) rfl)) (fun _ h9 => h9) rfl dX10_choose_88 ?_
          refine lv_iload_n hx hb dX10_choose_91 rfl (lv_at hl 1 rfl) ?_
          refine lv_bipush (v := (-3 : Int32)) hx hb dX10_choose_92 (by decide) ?_
          obtain ⟨hin, hf⟩ := wb_n hf
          refine va_iast hx hb hK hP hD hS 2 1 rfl rfl hin dX10_choose_94 (fun H locs hP hD hS => ?_)
          have hP : va_P D vwCl (wWX10 cB cI cZ a0 I0_l80 (wb_um M0_l80 1 (x1).toNatClampNeg (-3 : Int32))) H := hP
          have hD : va_D A (wWX10 cB cI cZ a0 I0_l80 (wb_um M0_l80 1 (x1).toNatClampNeg (-3 : Int32))) := hD
          obtain ⟨M0_2, eM0_2, hf⟩ := wb_v hf
          rw [← eM0_2] at hP hD
          refine lv_aload_n hx hb dX10_choose_95 rfl (lv_at hl 0 rfl) ?_
          refine va_get (D := D) (ci := 10) (v := .ref (a0 2)) (C := RX10) (T := TX10) (N := 5) hx hb hts hinX10 hown hK hP 0 rfl rfl 1 (by decide) (hts (.fieldLink RX10 15 "WheelBook$Tree" "row" "[I") (List.mem_of_getElem? (i := 2) rfl)) (fun _ h9 => h9) rfl dX10_choose_96 ?_
          refine lv_iload hx hb dX10_choose_99 (lv_at hl 4 rfl) ?_
          obtain ⟨hin, hf⟩ := wb_n hf
          refine va_iald hx hb hK hP 2 1 rfl rfl hin dX10_choose_101 ?_
          refine lv_bipush (v := (-2 : Int32)) hx hb dX10_choose_102 (by decide) ?_
          refine lv_icmp_eq (tgt := 147) hx hb dX10_choose_104 (by decide) (fun hc => ?_) (fun hc => ?_)
          · replace hf := wb_t hc hf
            obtain ⟨v3, ev3, hf⟩ := wb_v hf
            refine lv_iinc (v := v3) (lv' := [(4, .int v3), (0, .ref (a0 0)), (1, .int x1), (2, .int x2), (3, .int x3)]) hx hb dX10_choose_147 hl (k := 4) rfl (by rw [ev3]; rfl) (by decide) rfl (fun ls hl => ?_)
            refine lv_goto (tgt := 80) hx hb dX10_choose_150 (by decide) ?_
            exact ih80 I0_l80 M0_2 v3 H locs hP hD hS ls (lv_sub hl [1, 2, 3, 4, 0] rfl) hf
          · replace hf := wb_f hc hf
            refine lv_aload_n hx hb dX10_choose_107 rfl (lv_at hl 0 rfl) ?_
            refine lv_iload hx hb dX10_choose_108 (lv_at hl 4 rfl) ?_
            refine lv_iload_n hx hb dX10_choose_110 rfl (lv_at hl 1 rfl) ?_
            obtain ⟨r4, hr4, hf⟩ := wb_b hf
            refine vp_callSi (W.runV (As := [.int y80_4, .int x1]) (rest := []) ⟨hx, hb, hml, hown, hts⟩ (cn_X10_comesFrom l D cB cI cZ N a0 I0_l80 M0_2 y80_4 x1 r4 hr4) (cwV 2 hts gX10_choose_X10_comesFrom rfl rfl rfl cdX10_comesFrom ⟨Nat.le_of_ble_eq_true rfl, Nat.le_of_ble_eq_true rfl⟩) (wb_preV hP hK (wr_10 hK hP (q0 := 0) rfl)) rfl rfl hl.1 rfl (lv_room (Nat.le_of_ble_eq_true rfl)) dX10_choose_111 ⟨Nat.le_of_ble_eq_true rfl, Nat.le_of_ble_eq_true rfl⟩) (fun r9 e9 => ?_)
            rw [e9]
            refine lv_if_ne (tgt := 147) hx hb dX10_choose_114 (by decide) (fun hc => ?_) (fun hc => ?_)
            · replace hf := wb_f hc hf
              obtain ⟨v5, ev5, hf⟩ := wb_v hf
              refine lv_iinc (v := v5) (lv' := [(4, .int v5), (0, .ref (a0 0)), (1, .int x1), (2, .int x2), (3, .int x3)]) hx hb dX10_choose_147 hl (k := 4) rfl (by rw [ev5]; rfl) (by decide) rfl (fun ls hl => ?_)
              refine lv_goto (tgt := 80) hx hb dX10_choose_150 (by decide) ?_
              exact ih80 I0_l80 M0_2 v5 H locs hP hD hS ls (lv_sub hl [1, 2, 3, 4, 0] rfl) hf
            · replace hf := wb_t hc hf
              refine lv_aload_n hx hb dX10_choose_117 rfl (lv_at hl 0 rfl) ?_
              refine va_get (D := D) (ci := 10) (v := .ref (a0 2)) (C := RX10) (T := TX10) (N := 5) hx hb hts hinX10 hown hK hP 0 rfl rfl 1 (by decide) (hts (.fieldLink RX10 15 "WheelBook$Tree" "row" "[I") (List.mem_of_getElem? (i := 2) rfl)) (fun _ h9 => h9) rfl dX10_choose_118 ?_
              refine lv_iload_n hx hb dX10_choose_121 rfl (lv_at hl 1 rfl) ?_
              refine lv_iload hx hb dX10_choose_122 (lv_at hl 4 rfl) ?_
              obtain ⟨hin, hf⟩ := wb_n hf
              refine va_iast hx hb hK hP hD hS 2 1 rfl rfl hin dX10_choose_124 (fun H locs hP hD hS => ?_)
              have hP : va_P D vwCl (wWX10 cB cI cZ a0 I0_l80 (wb_um M0_2 1 (x1).toNatClampNeg y80_4)) H := hP
              have hD : va_D A (wWX10 cB cI cZ a0 I0_l80 (wb_um M0_2 1 (x1).toNatClampNeg y80_4)) := hD
              obtain ⟨M0_6, eM0_6, hf⟩ := wb_v hf
              rw [← eM0_6] at hP hD
              refine lv_aload_n hx hb dX10_choose_125 rfl (lv_at hl 0 rfl) ?_
              refine lv_iload_n hx hb dX10_choose_126 rfl (lv_at hl 1 rfl) ?_
              refine lv_iconst (v := (1 : Int32)) hx hb dX10_choose_127 (by decide) ?_
              refine lv_iadd hx hb dX10_choose_128 ?_
              refine lv_iload_n hx hb dX10_choose_129 rfl (lv_at hl 2 rfl) ?_
              refine lv_aload_n hx hb dX10_choose_130 rfl (lv_at hl 0 rfl) ?_
              refine va_get (D := D) (ci := 10) (v := .ref (a0 1)) (C := RX10) (T := TX10) (N := 5) hx hb hts hinX10 hown hK hP 0 rfl rfl 0 (by decide) (hts (.fieldLink RX10 9 "WheelBook$Tree" "prices" "[I") (List.mem_of_getElem? (i := 8) rfl)) (fun _ h9 => h9) rfl dX10_choose_131 ?_
              refine lv_bipush (v := (6 : Int32)) hx hb dX10_choose_134 (by decide) ?_
              refine lv_iload hx hb dX10_choose_136 (lv_at hl 4 rfl) ?_
              refine lv_imul hx hb dX10_choose_138 ?_
              refine lv_iload_n hx hb dX10_choose_139 rfl (lv_at hl 1 rfl) ?_
              refine lv_iadd hx hb dX10_choose_140 ?_
              obtain ⟨hin, hf⟩ := wb_n hf
              refine va_iald hx hb hK hP 1 1 rfl rfl hin dX10_choose_141 ?_
              refine lv_iadd hx hb dX10_choose_142 ?_
              refine lv_iload_n hx hb dX10_choose_143 rfl (lv_at hl 3 rfl) ?_
              obtain ⟨r7, hr7, hf⟩ := wb_b hf
              have hPc := hP
              have hDc := hD
              have hFc := wj_F hDc hS hA
              refine va_callv (va_runV (As := [.int (x1 + (1 : Int32)), .int (x2 + (M0_6 0 ((((6 : Int32) * y80_4) + x1)).toNatClampNeg)), .int x3]) (rest := []) ⟨hx, hb, hml, hown, hts⟩ (cn_X10_choose_d5 l D cB cI cZ N a0 I0_l80 M0_6 (x1 + (1 : Int32)) (x2 + (M0_6 0 ((((6 : Int32) * y80_4) + x1)).toNatClampNeg)) x3 H.size r7 hr7) (cwV 3 hts gX10_choose_X10_choose rfl rfl rfl cdX10_choose ⟨Nat.le_of_ble_eq_true rfl, Nat.le_of_ble_eq_true rfl⟩) (wb_preDV hPc hK hDc (wr_10 hK hP (q0 := 0) rfl)) rfl rfl hl.1 rfl (lv_room (Nat.le_of_ble_eq_true rfl)) dX10_choose_144 ⟨Nat.le_of_ble_eq_true rfl, Nat.le_of_ble_eq_true rfl⟩) hS (fun q _ h => hFc q h) hFc (fun u t H locs ht hvm hw hB hz1 hk1 hS => ?_)
              obtain ⟨hP, hD⟩ := wj_0 hFc ht hB
              obtain ⟨v8, ev8, hf⟩ := wb_v hf
              refine lv_iinc (v := v8) (lv' := [(4, .int v8), (0, .ref (a0 0)), (1, .int x1), (2, .int x2), (3, .int x3)]) hx hb dX10_choose_147 hl (k := 4) rfl (by rw [ev8]; rfl) (by decide) rfl (fun ls hl => ?_)
              refine lv_goto (tgt := 80) hx hb dX10_choose_150 (by decide) ?_
              exact ih80 r7.1 r7.2 v8 H locs hP hD hS ls (lv_sub hl [1, 2, 3, 4, 0] rfl) hf
    exact L80 N I0_j77 M0_j77 (0 : Int32) H locs hP hD hS ls (lv_sub hl [1, 2, 3, 4, 0] rfl) hf
  refine lv_iload_n hx hb dX10_choose_0 rfl (lv_at hl 2 rfl) ?_
  refine lv_aload_n hx hb dX10_choose_1 rfl (lv_at hl 0 rfl) ?_
  refine va_get (D := D) (ci := 10) (v := .int (I0 0)) (C := RX10) (T := TX10) (N := 5) hx hb hts hinX10 hown hK hP 0 rfl rfl 3 (by decide) (hts (.fieldLink RX10 45 "WheelBook$Tree" "least" "I") (List.mem_of_getElem? (i := 1) rfl)) (fun _ h9 => h9) rfl dX10_choose_2 ?_
  refine lv_icmp_lt (tgt := 9) hx hb dX10_choose_5 (by decide) (fun hc => ?_) (fun hc => ?_)
  · replace hf := wb_t hc hf
    refine lv_iload_n hx hb dX10_choose_9 rfl (lv_at hl 1 rfl) ?_
    refine lv_bipush (v := (6 : Int32)) hx hb dX10_choose_10 (by decide) ?_
    refine lv_icmp_lt (tgt := 36) hx hb dX10_choose_12 (by decide) (fun hc => ?_) (fun hc => ?_)
    · replace hf := wb_t hc hf
      refine lv_aload_n hx hb dX10_choose_36 rfl (lv_at hl 0 rfl) ?_
      refine va_get (D := D) (ci := 10) (v := .ref (a0 2)) (C := RX10) (T := TX10) (N := 5) hx hb hts hinX10 hown hK hP 0 rfl rfl 1 (by decide) (hts (.fieldLink RX10 15 "WheelBook$Tree" "row" "[I") (List.mem_of_getElem? (i := 2) rfl)) (fun _ h9 => h9) rfl dX10_choose_37 ?_
      refine lv_iload_n hx hb dX10_choose_40 rfl (lv_at hl 1 rfl) ?_
      obtain ⟨hin, hf⟩ := wb_n hf
      refine va_iald hx hb hK hP 2 1 rfl rfl hin dX10_choose_41 ?_
      refine lv_bipush (v := (-2 : Int32)) hx hb dX10_choose_42 (by decide) ?_
      refine lv_icmp_ne (tgt := 57) hx hb dX10_choose_44 (by decide) (fun hc => ?_) (fun hc => ?_)
      · replace hf := wb_f hc hf
        refine lv_iload_n hx hb dX10_choose_57 rfl (lv_at hl 3 rfl) ?_
        refine lv_if_ne (tgt := 77) hx hb dX10_choose_58 (by decide) (fun hc => ?_) (fun hc => ?_)
        · replace hf := wb_f hc hf
          exact J77 I0 M0 H locs hP hD hS ls (lv_sub hl [0, 1, 2, 3] rfl) hf
        · replace hf := wb_t hc hf
          refine lv_aload_n hx hb dX10_choose_61 rfl (lv_at hl 0 rfl) ?_
          refine va_get (D := D) (ci := 10) (v := .ref (a0 2)) (C := RX10) (T := TX10) (N := 5) hx hb hts hinX10 hown hK hP 0 rfl rfl 1 (by decide) (hts (.fieldLink RX10 15 "WheelBook$Tree" "row" "[I") (List.mem_of_getElem? (i := 2) rfl)) (fun _ h9 => h9) rfl dX10_choose_62 ?_
          refine lv_iload_n hx hb dX10_choose_65 rfl (lv_at hl 1 rfl) ?_
          refine lv_iconst (v := (-1 : Int32)) hx hb dX10_choose_66 (by decide) ?_
          obtain ⟨hin, hf⟩ := wb_n hf
          refine va_iast hx hb hK hP hD hS 2 1 rfl rfl hin dX10_choose_67 (fun H locs hP hD hS => ?_)
          have hP : va_P D vwCl (wWX10 cB cI cZ a0 I0 (wb_um M0 1 (x1).toNatClampNeg (-1 : Int32))) H := hP
          have hD : va_D A (wWX10 cB cI cZ a0 I0 (wb_um M0 1 (x1).toNatClampNeg (-1 : Int32))) := hD
          obtain ⟨M0_9, eM0_9, hf⟩ := wb_v hf
          rw [← eM0_9] at hP hD
          refine lv_aload_n hx hb dX10_choose_68 rfl (lv_at hl 0 rfl) ?_
          refine lv_iload_n hx hb dX10_choose_69 rfl (lv_at hl 1 rfl) ?_
          refine lv_iconst (v := (1 : Int32)) hx hb dX10_choose_70 (by decide) ?_
          refine lv_iadd hx hb dX10_choose_71 ?_
          refine lv_iload_n hx hb dX10_choose_72 rfl (lv_at hl 2 rfl) ?_
          refine lv_iconst (v := (1 : Int32)) hx hb dX10_choose_73 (by decide) ?_
          obtain ⟨r10, hr10, hf⟩ := wb_b hf
          have hPc := hP
          have hDc := hD
          have hFc := wj_F hDc hS hA
          refine va_callv (va_runV (As := [.int (x1 + (1 : Int32)), .int x2, .int (1 : Int32)]) (rest := []) ⟨hx, hb, hml, hown, hts⟩ (cn_X10_choose_d5 l D cB cI cZ N a0 I0 M0_9 (x1 + (1 : Int32)) x2 (1 : Int32) H.size r10 hr10) (cwV 3 hts gX10_choose_X10_choose rfl rfl rfl cdX10_choose ⟨Nat.le_of_ble_eq_true rfl, Nat.le_of_ble_eq_true rfl⟩) (wb_preDV hPc hK hDc (wr_10 hK hP (q0 := 0) rfl)) rfl rfl hl.1 rfl (lv_room (Nat.le_of_ble_eq_true rfl)) dX10_choose_74 ⟨Nat.le_of_ble_eq_true rfl, Nat.le_of_ble_eq_true rfl⟩) hS (fun q _ h => hFc q h) hFc (fun u t H locs ht hvm hw hB hz1 hk1 hS => ?_)
          obtain ⟨hP, hD⟩ := wj_0 hFc ht hB
          exact J77 r10.1 r10.2 H locs hP hD hS ls (lv_sub hl [0, 1, 2, 3] rfl) hf
      · replace hf := wb_t hc hf
        refine lv_aload_n hx hb dX10_choose_47 rfl (lv_at hl 0 rfl) ?_
        refine lv_iload_n hx hb dX10_choose_48 rfl (lv_at hl 1 rfl) ?_
        refine lv_iconst (v := (1 : Int32)) hx hb dX10_choose_49 (by decide) ?_
        refine lv_iadd hx hb dX10_choose_50 ?_
        refine lv_iload_n hx hb dX10_choose_51 rfl (lv_at hl 2 rfl) ?_
        refine lv_iload_n hx hb dX10_choose_52 rfl (lv_at hl 3 rfl) ?_
        obtain ⟨r11, hr11, hf⟩ := wb_b hf
        have hPc := hP
        have hDc := hD
        have hFc := wj_F hDc hS hA
        refine va_callv (va_runV (As := [.int (x1 + (1 : Int32)), .int x2, .int x3]) (rest := []) ⟨hx, hb, hml, hown, hts⟩ (cn_X10_choose_d5 l D cB cI cZ N a0 I0 M0 (x1 + (1 : Int32)) x2 x3 H.size r11 hr11) (cwV 3 hts gX10_choose_X10_choose rfl rfl rfl cdX10_choose ⟨Nat.le_of_ble_eq_true rfl, Nat.le_of_ble_eq_true rfl⟩) (wb_preDV hPc hK hDc (wr_10 hK hP (q0 := 0) rfl)) rfl rfl hl.1 rfl (lv_room (Nat.le_of_ble_eq_true rfl)) dX10_choose_53 ⟨Nat.le_of_ble_eq_true rfl, Nat.le_of_ble_eq_true rfl⟩) hS (fun q _ h => hFc q h) hFc (fun u t H locs ht hvm hw hB hz1 hk1 hS => ?_)
        obtain ⟨hP, hD⟩ := wj_0 hFc ht hB
        exact W.vret hx hb hr (fun t ht hW => by rw [← Option.some.inj hf]; exact ⟨⟨(), rfl, trivial, by rw [ht]; exact hP, va_K.moved hW.alike hK, hD⟩, hS.F ht⟩) hS.2.2 dX10_choose_56
    · replace hf := wb_f hc hf
      refine lv_aload_n hx hb dX10_choose_15 rfl (lv_at hl 0 rfl) ?_
      refine lv_iload_n hx hb dX10_choose_16 rfl (lv_at hl 2 rfl) ?_
      refine va_put (D := D) (ci := 10) (v := .int x2) (ty := .int) (C := RX10) (T := TX10) (N := 5) hx hb hts hinX10 tyX10 tyX10_ok nmX10 hown hK hP hD hS 0 rfl rfl 3 (by decide) (hts (.fieldLink RX10 45 "WheelBook$Tree" "least" "I") (List.mem_of_getElem? (i := 1) rfl)) (fun _ h9 => h9) rfl (by decide +kernel) rfl rfl (Nat.le_of_ble_eq_true rfl) dX10_choose_17 (fun H locs hP hD hS => ?_)
      have hP : va_P D vwCl (wWX10 cB cI cZ a0 (upd I0 0 x2) M0) H := hP
      have hD : va_D A (wWX10 cB cI cZ a0 (upd I0 0 x2) M0) := hD
      obtain ⟨I0_12, eI0_12, hf⟩ := wb_v hf
      rw [← eI0_12] at hP hD
      refine lv_aload_n hx hb dX10_choose_20 rfl (lv_at hl 0 rfl) ?_
      refine va_get (D := D) (ci := 10) (v := .ref (a0 2)) (C := RX10) (T := TX10) (N := 5) hx hb hts hinX10 hown hK hP 0 rfl rfl 1 (by decide) (hts (.fieldLink RX10 15 "WheelBook$Tree" "row" "[I") (List.mem_of_getElem? (i := 2) rfl)) (fun _ h9 => h9) rfl dX10_choose_21 ?_
      refine lv_iconst (v := (0 : Int32)) hx hb dX10_choose_24 (by decide) ?_
      refine lv_aload_n hx hb dX10_choose_25 rfl (lv_at hl 0 rfl) ?_
      refine va_get (D := D) (ci := 10) (v := .ref (a0 3)) (C := RX10) (T := TX10) (N := 5) hx hb hts hinX10 hown hK hP 0 rfl rfl 2 (by decide) (hts (.fieldLink RX10 18 "WheelBook$Tree" "bestRow" "[I") (List.mem_of_getElem? (i := 3) rfl)) (fun _ h9 => h9) rfl dX10_choose_26 ?_
      refine lv_iconst (v := (0 : Int32)) hx hb dX10_choose_29 (by decide) ?_
      refine lv_bipush (v := (6 : Int32)) hx hb dX10_choose_30 (by decide) ?_
      obtain ⟨hcp, hf⟩ := wb_n hf
      obtain ⟨hcp1, hcp2, hcp3, hcp4, hcp5⟩ := wb_cp hcp
      refine va_copyi hx hb (hml.trans hl.1.symm) hown (hts (.methodLink RX10 57 arraycopyName) (List.mem_of_getElem? (i := 4) rfl)) (hts (.native arraycopyName) (List.mem_of_getElem? (i := 5) rfl)) (hts (.static arraycopyName) (List.mem_of_getElem? (i := 6) rfl)) (hts (.initialized "java/lang/System") (List.mem_of_getElem? (i := 7) rfl)) hK hP hD hS 2 3 1 1 rfl rfl rfl rfl rfl hcp1 hcp2 hcp3 hcp4 hcp5 (fun _ _ => rfl) (Nat.le_of_ble_eq_true rfl) (by decide +kernel) dX10_choose_32 (fun H locs hP hD hS => ?_)
      have hP : va_P D vwCl (wWX10 cB cI cZ a0 I0_12 (wb_mm M0 2 (va_cpy (M0 1) (M0 2) ((0 : Int32)).toNatClampNeg ((0 : Int32)).toNatClampNeg ((6 : Int32)).toNatClampNeg))) H := hP
      have hD : va_D A (wWX10 cB cI cZ a0 I0_12 (wb_mm M0 2 (va_cpy (M0 1) (M0 2) ((0 : Int32)).toNatClampNeg ((0 : Int32)).toNatClampNeg ((6 : Int32)).toNatClampNeg))) := hD
      obtain ⟨M0_13, eM0_13, hf⟩ := wb_v hf
      rw [← eM0_13] at hP hD
      exact W.vret hx hb hr (fun t ht hW => by rw [← Option.some.inj hf]; exact ⟨⟨(), rfl, trivial, by rw [ht]; exact hP, va_K.moved hW.alike hK, hD⟩, hS.F ht⟩) hS.2.2 dX10_choose_35
  · replace hf := wb_f hc hf
    exact W.vret hx hb hr (fun t ht hW => by rw [← Option.some.inj hf]; exact ⟨⟨(), rfl, trivial, by rw [ht]; exact hP, va_K.moved hW.alike hK, hD⟩, hS.F ht⟩) hS.2.2 dX10_choose_8

set_option maxHeartbeats 4000000 in
set_option maxRecDepth 100000 in
theorem cn_X10_choose_d7 (l : Launch) (D : va_G) (cB cI cZ : ClassId) (N : Nat) (a0 : Nat → Nat) (I0 : Nat → Int32) (M0 : Nat → Nat → Int32) (x1 : Int32) (x2 : Int32) (x3 : Int32) (sz : Nat) (R : (Nat → Int32) × (Nat → Nat → Int32)) (hf : fX10_choose_d7 N I0 M0 x1 x2 x3 = some R) : Met l yX10_choose wsX10_choose ({ frames := 7, cells := 0, slots := 0, locals := 224 }) (va_Pc [.ref (a0 0), .int x1, .int x2, .int x3] (wb_preD D [(cB, .byte), (cI, .int), (cZ, .boolean)] (wWX10 cB cI cZ a0 I0 M0) sz)) (va_Qv (fun _ : Unit => True) (fun _ t => wb_post D [(cB, .byte), (cI, .int), (cZ, .boolean)] (va_A (wWX10 cB cI cZ a0 I0 M0) sz) (wWX10 cB cI cZ a0 R.1 R.2) t) (va_A (wWX10 cB cI cZ a0 I0 M0) sz)) 0 0 (va_A (wWX10 cB cI cZ a0 I0 M0) sz) := by
  refine Met.ofW (cc := cX10_choose) (maxL := 5) (ret := none) pn_X10 rfl ?_
  intro p e s m args below meth c s₁ B hml hv
  obtain ⟨rfl, hsz, hP, hK, hD0⟩ := hv
  have hx := B.exec
  have hb := B.bytes
  have hr := B.returns
  have hts := atoms_spec (ws := wsX10_choose) B.pre
  have hown : s.vm.findClass RX10 = some m.cls := (findClass_of_methodNamed B.named :)
  have hlocks := B.notSynchronized
  have hinX10 : ∀ w ∈ u_ws RX10 TX10 5, w ∈ wsX10_choose := fun w h => List.mem_cons_of_mem _ (List.mem_append_right _ h)
  subst hsz
  have hD := hD0.self (sz := s.heap.size)
  generalize hAe : va_A (wWX10 cB cI cZ a0 I0 M0) s.heap.size = A at hD ⊢
  have hA : ∀ q : Nat, s.heap.size ≤ q → A q := fun q h => by rw [← hAe]; exact Or.inr h
  have hS : va_S A s.heap s.heap [] := va_S.rf
  have hl := lv_entry ([.ref (a0 0), .int x1, .int x2, .int x3]) (n := 5) (Nat.le_of_ble_eq_true rfl)
  rw [lg_entry_eq]
  generalize (lg_sl ([.ref (a0 0), .int x1, .int x2, .int x3]) ++ List.replicate (5 - (lg_sl ([.ref (a0 0), .int x1, .int x2, .int x3])).length) Slot.unset).toArray = ls at hl ⊢
  have hl : lv_has ls 5 [(0, .ref (a0 0)), (1, .int x1), (2, .int x2), (3, .int x3)] := hl
  unfold fX10_choose_d7 at hf
  obtain ⟨H, hHe⟩ : ∃ H : Heap, H = s.heap := ⟨_, rfl⟩
  obtain ⟨locs, hle⟩ : ∃ locs : List Loc, locs = [] := ⟨_, rfl⟩
  refine wb_start (H := H) (locs := locs) hHe hle ?_
  rw [← hHe] at hP
  have hS : va_S A s.heap H locs := by rw [hHe, hle]; exact va_S.rf
  have J77 : ∀ (I0_j77 : Nat → Int32) (M0_j77 : Nat → Nat → Int32) (H : Heap) (locs : List Loc), va_P D vwCl (wWX10 cB cI cZ a0 I0_j77 M0_j77) H → va_D A (wWX10 cB cI cZ a0 I0_j77 M0_j77) → va_S A s.heap H locs → ∀ (ls : Array Slot), lv_has ls 5 [(0, .ref (a0 0)), (1, .int x1), (2, .int x2), (3, .int x3)] → fX10_choose_d7_J77 N x1 x2 x3 I0_j77 M0_j77 = some R → W p l e (headSpec wsX10_choose { frames := 7, cells := 0, slots := 0, locals := 224 }).room s m [.ref (a0 0), .int x1, .int x2, .int x3].toArray below meth c H locs 0 0 (MQ below (va_Qv (fun _ : Unit => True) (fun _ t => wb_post D [(cB, .byte), (cI, .int), (cZ, .boolean)] A (wWX10 cB cI cZ a0 R.1 R.2) t) A) [.ref (a0 0), .int x1, .int x2, .int x3].toArray s 0 0 A) (F0 m 77 ls []) := by
    intro I0_j77 M0_j77 H locs hP hD hS ls hl hf
    unfold fX10_choose_d7_J77 at hf
    refine lv_iconst (v := (0 : Int32)) hx hb dX10_choose_77 (by decide) ?_
    refine lv_istore (lv' := [(4, .int (0 : Int32)), (0, .ref (a0 0)), (1, .int x1), (2, .int x2), (3, .int x3)]) hx hb dX10_choose_78 hl (by decide) rfl (fun ls hl => ?_)
    have L80 : ∀ (fu80 : Nat) (I0_l80 : Nat → Int32) (M0_l80 : Nat → Nat → Int32) (y80_4 : Int32) (H : Heap) (locs : List Loc), va_P D vwCl (wWX10 cB cI cZ a0 I0_l80 M0_l80) H → va_D A (wWX10 cB cI cZ a0 I0_l80 M0_l80) → va_S A s.heap H locs → ∀ (ls : Array Slot), lv_has ls 5 [(0, .ref (a0 0)), (1, .int x1), (2, .int x2), (3, .int x3), (4, .int y80_4)] → fX10_choose_d7_L80 N x1 x2 x3 fu80 I0_l80 M0_l80 y80_4 = some R → W p l e (headSpec wsX10_choose { frames := 7, cells := 0, slots := 0, locals := 224 }).room s m [.ref (a0 0), .int x1, .int x2, .int x3].toArray below meth c H locs 0 0 (MQ below (va_Qv (fun _ : Unit => True) (fun _ t => wb_post D [(cB, .byte), (cI, .int), (cZ, .boolean)] A (wWX10 cB cI cZ a0 R.1 R.2) t) A) [.ref (a0 0), .int x1, .int x2, .int x3].toArray s 0 0 A) (F0 m 80 ls []) := by
      intro fu80
      induction fu80 with
      | zero =>
        intro I0_l80 M0_l80 y80_4 H locs hP hD hS ls hl hf
        exact absurd hf (by rw [fX10_choose_d7_L80.eq_1]; exact fun h => nomatch h)
      | succ fu80 ih80 =>
        intro I0_l80 M0_l80 y80_4 H locs hP hD hS ls hl hf
        rw [fX10_choose_d7_L80.eq_2] at hf
        refine lv_iload hx hb dX10_choose_80 (lv_at hl 4 rfl) ?_
        refine lv_bipush (v := (6 : Int32)) hx hb dX10_choose_82 (by decide) ?_
        refine lv_icmp_ge (tgt := 153) hx hb dX10_choose_84 (by decide) (fun hc => ?_) (fun hc => ?_)
        · replace hf := wb_t hc hf
          refine lv_aload_n hx hb dX10_choose_153 rfl (lv_at hl 0 rfl) ?_
          refine va_get (D := D) (ci := 10) (v := .ref (a0 2)) (C := RX10) (T := TX10) (N := 5) hx hb hts hinX10 hown hK hP 0 rfl rfl 1 (by decide) (hts (.fieldLink RX10 15 "WheelBook$Tree" "row" "[I") (List.mem_of_getElem? (i := 2) rfl)) (fun _ h9 => h9) rfl dX10_choose_154 ?_
          refine lv_iload_n hx hb dX10_choose_157 rfl (lv_at hl 1 rfl) ?_
          refine lv_bipush (v := (-3 : Int32)) hx hb dX10_choose_158 (by decide) ?_
          obtain ⟨hin, hf⟩ := wb_n hf
          refine va_iast hx hb hK hP hD hS 2 1 rfl rfl hin dX10_choose_160 (fun H locs hP hD hS => ?_)
          have hP : va_P D vwCl (wWX10 cB cI cZ a0 I0_l80 (wb_um M0_l80 1 (x1).toNatClampNeg (-3 : Int32))) H := hP
          have hD : va_D A (wWX10 cB cI cZ a0 I0_l80 (wb_um M0_l80 1 (x1).toNatClampNeg (-3 : Int32))) := hD
          obtain ⟨M0_1, eM0_1, hf⟩ := wb_v hf
          rw [← eM0_1] at hP hD
          exact W.vret hx hb hr (fun t ht hW => by rw [← Option.some.inj hf]; exact ⟨⟨(), rfl, trivial, by rw [ht]; exact hP, va_K.moved hW.alike hK, hD⟩, hS.F ht⟩) hS.2.2 dX10_choose_161
        · replace hf := wb_f hc hf
          refine lv_aload_n hx hb dX10_choose_87 rfl (lv_at hl 0 rfl) ?_
          refine va_get (D := D) (ci := 10) (v := .ref (a0 2)) (C := RX10) (T := TX10) (N := 5) hx hb hts hinX10 hown hK hP 0 rfl rfl 1 (by decide) (hts (.fieldLink RX10 15 "WheelBook$Tree" "row" "[I") (List.mem_of_getElem? (i := 2) rfl)) (fun _ h9 => h9) rfl dX10_choose_88 ?_
          refine lv_iload_n hx hb dX10_choose_91 rfl (lv_at hl 1 rfl) ?_
          refine lv_bipush (v := (-3 : Int32)) hx hb dX10_choose_92 (by decide) ?_
          obtain ⟨hin, hf⟩ := wb_n hf
          refine va_iast hx hb hK hP hD hS 2 1 rfl rfl hin dX10_choose_94 (fun H locs hP hD hS => ?_)
          have hP : va_P D vwCl (wWX10 cB cI cZ a0 I0_l80 (wb_um M0_l80 1 (x1).toNatClampNeg (-3 : Int32))) H := hP
          have hD : va_D A (wWX10 cB cI cZ a0 I0_l80 (wb_um M0_l80 1 (x1).toNatClampNeg (-3 : Int32))) := hD
          obtain ⟨M0_2, eM0_2, hf⟩ := wb_v hf
          rw [← eM0_2] at hP hD
          refine lv_aload_n hx hb dX10_choose_95 rfl (lv_at hl 0 rfl) ?_
          refine va_get (D := D) (ci := 10) (v := .ref (a0 2)) (C := RX10) (T := TX10) (N := 5) hx hb hts hinX10 hown hK hP 0 rfl rfl 1 (by decide) (hts (.fieldLink RX10 15 "WheelBook$Tree" "row" "[I") (List.mem_of_getElem? (i := 2) rfl)) (fun _ h9 => h9) rfl dX10_choose_96 ?_
          refine lv_iload hx hb dX10_choose_99 (lv_at hl 4 rfl) ?_
          obtain ⟨hin, hf⟩ := wb_n hf
          refine va_iald hx hb hK hP 2 1 rfl rfl hin dX10_choose_101 ?_
          refine lv_bipush (v := (-2 : Int32)) hx hb dX10_choose_102 (by decide) ?_
          refine lv_icmp_eq (tgt := 147) hx hb dX10_choose_104 (by decide) (fun hc => ?_) (fun hc => ?_)
          · replace hf := wb_t hc hf
            obtain ⟨v3, ev3, hf⟩ := wb_v hf
            refine lv_iinc (v := v3) (lv' := [(4, .int v3), (0, .ref (a0 0)), (1, .int x1), (2, .int x2), (3, .int x3)]) hx hb dX10_choose_147 hl (k := 4) rfl (by rw [ev3]; rfl) (by decide) rfl (fun ls hl => ?_)
            refine lv_goto (tgt := 80) hx hb dX10_choose_150 (by decide) ?_
            exact ih80 I0_l80 M0_2 v3 H locs hP hD hS ls (lv_sub hl [1, 2, 3, 4, 0] rfl) hf
          · replace hf := wb_f hc hf
            refine lv_aload_n hx hb dX10_choose_107 rfl (lv_at hl 0 rfl) ?_
            refine lv_iload hx hb dX10_choose_108 (lv_at hl 4 rfl) ?_
            refine lv_iload_n hx hb dX10_choose_110 rfl (lv_at hl 1 rfl) ?_
            obtain ⟨r4, hr4, hf⟩ := wb_b hf
            refine vp_callSi (W.runV (As := [.int y80_4, .int x1]) (rest := []) ⟨hx, hb, hml, hown, hts⟩ (cn_X10_comesFrom l D cB cI cZ N a0 I0_l80 M0_2 y80_4 x1 r4 hr4) (cwV 2 hts gX10_choose_X10_comesFrom rfl rfl rfl cdX10_comesFrom ⟨Nat.le_of_ble_eq_true rfl, Nat.le_of_ble_eq_true rfl⟩) (wb_preV hP hK (wr_10 hK hP (q0 := 0) rfl)) rfl rfl hl.1 rfl (lv_room (Nat.le_of_ble_eq_true rfl)) dX10_choose_111 ⟨Nat.le_of_ble_eq_true rfl, Nat.le_of_ble_eq_true rfl⟩) (fun r9 e9 => ?_)
            rw [e9]
            refine lv_if_ne (tgt := 147) hx hb dX10_choose_114 (by decide) (fun hc => ?_) (fun hc => ?_)
            · replace hf := wb_f hc hf
              obtain ⟨v5, ev5, hf⟩ := wb_v hf
              refine lv_iinc (v := v5) (lv' := [(4, .int v5), (0, .ref (a0 0)), (1, .int x1), (2, .int x2), (3, .int x3)]) hx hb dX10_choose_147 hl (k := 4) rfl (by rw [ev5]; rfl) (by decide) rfl (fun ls hl => ?_)
              refine lv_goto (tgt := 80) hx hb dX10_choose_150 (by decide) ?_
              exact ih80 I0_l80 M0_2 v5 H locs hP hD hS ls (lv_sub hl [1, 2, 3, 4, 0] rfl) hf
            · replace hf := wb_t hc hf
              refine lv_aload_n hx hb dX10_choose_117 rfl (lv_at hl 0 rfl) ?_
              refine va_get (D := D) (ci := 10) (v := .ref (a0 2)) (C := RX10) (T := TX10) (N := 5) hx hb hts hinX10 hown hK hP 0 rfl rfl 1 (by decide) (hts (.fieldLink RX10 15 "WheelBook$Tree" "row" "[I") (List.mem_of_getElem? (i := 2) rfl)) (fun _ h9 => h9) rfl dX10_choose_118 ?_
              refine lv_iload_n hx hb dX10_choose_121 rfl (lv_at hl 1 rfl) ?_
              refine lv_iload hx hb dX10_choose_122 (lv_at hl 4 rfl) ?_
              obtain ⟨hin, hf⟩ := wb_n hf
              refine va_iast hx hb hK hP hD hS 2 1 rfl rfl hin dX10_choose_124 (fun H locs hP hD hS => ?_)
              have hP : va_P D vwCl (wWX10 cB cI cZ a0 I0_l80 (wb_um M0_2 1 (x1).toNatClampNeg y80_4)) H := hP
              have hD : va_D A (wWX10 cB cI cZ a0 I0_l80 (wb_um M0_2 1 (x1).toNatClampNeg y80_4)) := hD
              obtain ⟨M0_6, eM0_6, hf⟩ := wb_v hf
              rw [← eM0_6] at hP hD
              refine lv_aload_n hx hb dX10_choose_125 rfl (lv_at hl 0 rfl) ?_
              refine lv_iload_n hx hb dX10_choose_126 rfl (lv_at hl 1 rfl) ?_
              refine lv_iconst (v := (1 : Int32)) hx hb dX10_choose_127 (by decide) ?_
              refine lv_iadd hx hb dX10_choose_128 ?_
              refine lv_iload_n hx hb dX10_choose_129 rfl (lv_at hl 2 rfl) ?_
              refine lv_aload_n hx hb dX10_choose_130 rfl (lv_at hl 0 rfl) ?_
              refine va_get (D := D) (ci := 10) (v := .ref (a0 1)) (C := RX10) (T := TX10) (N := 5) hx hb hts hinX10 hown hK hP 0 rfl rfl 0 (by decide) (hts (.fieldLink RX10 9 "WheelBook$Tree" "prices" "[I") (List.mem_of_getElem? (i := 8) rfl)) (fun _ h9 => h9) rfl dX10_choose_131 ?_
              refine lv_bipush (v := (6 : Int32)) hx hb dX10_choose_134 (by decide) ?_
              refine lv_iload hx hb dX10_choose_136 (lv_at hl 4 rfl) ?_
              refine lv_imul hx hb dX10_choose_138 ?_
              refine lv_iload_n hx hb dX10_choose_139 rfl (lv_at hl 1 rfl) ?_
              refine lv_iadd hx hb dX10_choose_140 ?_
              obtain ⟨hin, hf⟩ := wb_n hf
              refine va_iald hx hb hK hP 1 1 rfl rfl hin dX10_choose_141 ?_
              refine lv_iadd hx hb dX10_choose_142 ?_
              refine lv_iload_n hx hb dX10_choose_143 rfl (lv_at hl 3 rfl) ?_
              obtain ⟨r7, hr7, hf⟩ := wb_b hf
              have hPc := hP
              have hDc := hD
              have hFc := wj_F hDc hS hA
              refine va_callv (va_runV (As := [.int (x1 + (1 : Int32)), .int (x2 + (M0_6 0 ((((6 : Int32) * y80_4) + x1)).toNatClampNeg)), .int x3]) (rest := []) ⟨hx, hb, hml, hown, hts⟩ (cn_X10_choose_d6 l D cB cI cZ N a0 I0_l80 M0_6 (x1 + (1 : Int32)) (x2 + (M0_6 0 ((((6 : Int32) * y80_4) + x1)).toNatClampNeg)) x3 H.size r7 hr7) (cwV 3 hts gX10_choose_X10_choose rfl rfl rfl cdX10_choose ⟨Nat.le_of_ble_eq_true rfl, Nat.le_of_ble_eq_true rfl⟩) (wb_preDV hPc hK hDc (wr_10 hK hP (q0 := 0) rfl)) rfl rfl hl.1 rfl (lv_room (Nat.le_of_ble_eq_true rfl)) dX10_choose_144 ⟨Nat.le_of_ble_eq_true rfl, Nat.le_of_ble_eq_true rfl⟩) hS (fun q _ h => hFc q h) hFc (fun u t H locs ht hvm hw hB hz1 hk1 hS => ?_)
              obtain ⟨hP, hD⟩ := wj_0 hFc ht hB
              obtain ⟨v8, ev8, hf⟩ := wb_v hf
              refine lv_iinc (v := v8) (lv' := [(4, .int v8), (0, .ref (a0 0)), (1, .int x1), (2, .int x2), (3, .int x3)]) hx hb dX10_choose_147 hl (k := 4) rfl (by rw [ev8]; rfl) (by decide) rfl (fun ls hl => ?_)
              refine lv_goto (tgt := 80) hx hb dX10_choose_150 (by decide) ?_
              exact ih80 r7.1 r7.2 v8 H locs hP hD hS ls (lv_sub hl [1, 2, 3, 4, 0] rfl) hf
    exact L80 N I0_j77 M0_j77 (0 : Int32) H locs hP hD hS ls (lv_sub hl [1, 2, 3, 4, 0] rfl) hf
  refine lv_iload_n hx hb dX10_choose_0 rfl (lv_at hl 2 rfl) ?_
  refine lv_aload_n hx hb dX10_choose_1 rfl (lv_at hl 0 rfl) ?_
  refine va_get (D := D) (ci := 10) (v := .int (I0 0)) (C := RX10) (T := TX10) (N := 5) hx hb hts hinX10 hown hK hP 0 rfl rfl 3 (by decide) (hts (.fieldLink RX10 45 "WheelBook$Tree" "least" "I") (List.mem_of_getElem? (i := 1) rfl)) (fun _ h9 => h9) rfl dX10_choose_2 ?_
  refine lv_icmp_lt (tgt := 9) hx hb dX10_choose_5 (by decide) (fun hc => ?_) (fun hc => ?_)
  · replace hf := wb_t hc hf
    refine lv_iload_n hx hb dX10_choose_9 rfl (lv_at hl 1 rfl) ?_
    refine lv_bipush (v := (6 : Int32)) hx hb dX10_choose_10 (by decide) ?_
    refine lv_icmp_lt (tgt := 36) hx hb dX10_choose_12 (by decide) (fun hc => ?_) (fun hc => ?_)
    · replace hf := wb_t hc hf
      refine lv_aload_n hx hb dX10_choose_36 rfl (lv_at hl 0 rfl) ?_
      refine va_get (D := D) (ci := 10) (v := .ref (a0 2)) (C := RX10) (T := TX10) (N := 5) hx hb hts hinX10 hown hK hP 0 rfl rfl 1 (by decide) (hts (.fieldLink RX10 15 "WheelBook$Tree" "row" "[I") (List.mem_of_getElem? (i := 2) rfl)) (fun _ h9 => h9) rfl dX10_choose_37 ?_
      refine lv_iload_n hx hb dX10_choose_40 rfl (lv_at hl 1 rfl) ?_
      obtain ⟨hin, hf⟩ := wb_n hf
      refine va_iald hx hb hK hP 2 1 rfl rfl hin dX10_choose_41 ?_
      refine lv_bipush (v := (-2 : Int32)) hx hb dX10_choose_42 (by decide) ?_
      refine lv_icmp_ne (tgt := 57) hx hb dX10_choose_44 (by decide) (fun hc => ?_) (fun hc => ?_)
      · replace hf := wb_f hc hf
        refine lv_iload_n hx hb dX10_choose_57 rfl (lv_at hl 3 rfl) ?_
        refine lv_if_ne (tgt := 77) hx hb dX10_choose_58 (by decide) (fun hc => ?_) (fun hc => ?_)
        · replace hf := wb_f hc hf
          exact J77 I0 M0 H locs hP hD hS ls (lv_sub hl [0, 1, 2, 3] rfl) hf
        · replace hf := wb_t hc hf
          refine lv_aload_n hx hb dX10_choose_61 rfl (lv_at hl 0 rfl) ?_
          refine va_get (D := D) (ci := 10) (v := .ref (a0 2)) (C := RX10) (T := TX10) (N := 5) hx hb hts hinX10 hown hK hP 0 rfl rfl 1 (by decide) (hts (.fieldLink RX10 15 "WheelBook$Tree" "row" "[I") (List.mem_of_getElem? (i := 2) rfl)) (fun _ h9 => h9) rfl dX10_choose_62 ?_
          refine lv_iload_n hx hb dX10_choose_65 rfl (lv_at hl 1 rfl) ?_
          refine lv_iconst (v := (-1 : Int32)) hx hb dX10_choose_66 (by decide) ?_
          obtain ⟨hin, hf⟩ := wb_n hf
          refine va_iast hx hb hK hP hD hS 2 1 rfl rfl hin dX10_choose_67 (fun H locs hP hD hS => ?_)
          have hP : va_P D vwCl (wWX10 cB cI cZ a0 I0 (wb_um M0 1 (x1).toNatClampNeg (-1 : Int32))) H := hP
          have hD : va_D A (wWX10 cB cI cZ a0 I0 (wb_um M0 1 (x1).toNatClampNeg (-1 : Int32))) := hD
          obtain ⟨M0_9, eM0_9, hf⟩ := wb_v hf
          rw [← eM0_9] at hP hD
          refine lv_aload_n hx hb dX10_choose_68 rfl (lv_at hl 0 rfl) ?_
          refine lv_iload_n hx hb dX10_choose_69 rfl (lv_at hl 1 rfl) ?_
          refine lv_iconst (v := (1 : Int32)) hx hb dX10_choose_70 (by decide) ?_
          refine lv_iadd hx hb dX10_choose_71 ?_
          refine lv_iload_n hx hb dX10_choose_72 rfl (lv_at hl 2 rfl) ?_
          refine lv_iconst (v := (1 : Int32)) hx hb dX10_choose_73 (by decide) ?_
          obtain ⟨r10, hr10, hf⟩ := wb_b hf
          have hPc := hP
          have hDc := hD
          have hFc := wj_F hDc hS hA
          refine va_callv (va_runV (As := [.int (x1 + (1 : Int32)), .int x2, .int (1 : Int32)]) (rest := []) ⟨hx, hb, hml, hown, hts⟩ (cn_X10_choose_d6 l D cB cI cZ N a0 I0 M0_9 (x1 + (1 : Int32)) x2 (1 : Int32) H.size r10 hr10) (cwV 3 hts gX10_choose_X10_choose rfl rfl rfl cdX10_choose ⟨Nat.le_of_ble_eq_true rfl, Nat.le_of_ble_eq_true rfl⟩) (wb_preDV hPc hK hDc (wr_10 hK hP (q0 := 0) rfl)) rfl rfl hl.1 rfl (lv_room (Nat.le_of_ble_eq_true rfl)) dX10_choose_74 ⟨Nat.le_of_ble_eq_true rfl, Nat.le_of_ble_eq_true rfl⟩) hS (fun q _ h => hFc q h) hFc (fun u t H locs ht hvm hw hB hz1 hk1 hS => ?_)
          obtain ⟨hP, hD⟩ := wj_0 hFc ht hB
          exact J77 r10.1 r10.2 H locs hP hD hS ls (lv_sub hl [0, 1, 2, 3] rfl) hf
      · replace hf := wb_t hc hf
        refine lv_aload_n hx hb dX10_choose_47 rfl (lv_at hl 0 rfl) ?_
        refine lv_iload_n hx hb dX10_choose_48 rfl (lv_at hl 1 rfl) ?_
        refine lv_iconst (v := (1 : Int32)) hx hb dX10_choose_49 (by decide) ?_
        refine lv_iadd hx hb dX10_choose_50 ?_
        refine lv_iload_n hx hb dX10_choose_51 rfl (lv_at hl 2 rfl) ?_
        refine lv_iload_n hx hb dX10_choose_52 rfl (lv_at hl 3 rfl) ?_
        obtain ⟨r11, hr11, hf⟩ := wb_b hf
        have hPc := hP
        have hDc := hD
        have hFc := wj_F hDc hS hA
        refine va_callv (va_runV (As := [.int (x1 + (1 : Int32)), .int x2, .int x3]) (rest := []) ⟨hx, hb, hml, hown, hts⟩ (cn_X10_choose_d6 l D cB cI cZ N a0 I0 M0 (x1 + (1 : Int32)) x2 x3 H.size r11 hr11) (cwV 3 hts gX10_choose_X10_choose rfl rfl rfl cdX10_choose ⟨Nat.le_of_ble_eq_true rfl, Nat.le_of_ble_eq_true rfl⟩) (wb_preDV hPc hK hDc (wr_10 hK hP (q0 := 0) rfl)) rfl rfl hl.1 rfl (lv_room (Nat.le_of_ble_eq_true rfl)) dX10_choose_53 ⟨Nat.le_of_ble_eq_true rfl, Nat.le_of_ble_eq_true rfl⟩) hS (fun q _ h => hFc q h) hFc (fun u t H locs ht hvm hw hB hz1 hk1 hS => ?_)
        obtain ⟨hP, hD⟩ := wj_0 hFc ht hB
        exact W.vret hx hb hr (fun t ht hW => by rw [← Option.some.inj hf]; exact ⟨⟨(), rfl, trivial, by rw [ht]; exact hP, va_K.moved hW.alike hK, hD⟩, hS.F ht⟩) hS.2.2 dX10_choose_56
    · replace hf := wb_f hc hf
      refine lv_aload_n hx hb dX10_choose_15 rfl (lv_at hl 0 rfl) ?_
      refine lv_iload_n hx hb dX10_choose_16 rfl (lv_at hl 2 rfl) ?_
      refine va_put (D := D) (ci := 10) (v := .int x2) (ty := .int) (C := RX10) (T := TX10) (N := 5) hx hb hts hinX10 tyX10 tyX10_ok nmX10 hown hK hP hD hS 0 rfl rfl 3 (by decide) (hts (.fieldLink RX10 45 "WheelBook$Tree" "least" "I") (List.mem_of_getElem? (i := 1) rfl)) (fun _ h9 => h9) rfl (by decide +kernel) rfl rfl (Nat.le_of_ble_eq_true rfl) dX10_choose_17 (fun H locs hP hD hS => ?_)
      have hP : va_P D vwCl (wWX10 cB cI cZ a0 (upd I0 0 x2) M0) H := hP
      have hD : va_D A (wWX10 cB cI cZ a0 (upd I0 0 x2) M0) := hD
      obtain ⟨I0_12, eI0_12, hf⟩ := wb_v hf
      rw [← eI0_12] at hP hD
      refine lv_aload_n hx hb dX10_choose_20 rfl (lv_at hl 0 rfl) ?_
      refine va_get (D := D) (ci := 10) (v := .ref (a0 2)) (C := RX10) (T := TX10) (N := 5) hx hb hts hinX10 hown hK hP 0 rfl rfl 1 (by decide) (hts (.fieldLink RX10 15 "WheelBook$Tree" "row" "[I") (List.mem_of_getElem? (i := 2) rfl)) (fun _ h9 => h9) rfl dX10_choose_21 ?_
      refine lv_iconst (v := (0 : Int32)) hx hb dX10_choose_24 (by decide) ?_
      refine lv_aload_n hx hb dX10_choose_25 rfl (lv_at hl 0 rfl) ?_
      refine va_get (D := D) (ci := 10) (v := .ref (a0 3)) (C := RX10) (T := TX10) (N := 5) hx hb hts hinX10 hown hK hP 0 rfl rfl 2 (by decide) (hts (.fieldLink RX10 18 "WheelBook$Tree" "bestRow" "[I") (List.mem_of_getElem? (i := 3) rfl)) (fun _ h9 => h9) rfl dX10_choose_26 ?_
      refine lv_iconst (v := (0 : Int32)) hx hb dX10_choose_29 (by decide) ?_
      refine lv_bipush (v := (6 : Int32)) hx hb dX10_choose_30 (by decide) ?_
      obtain ⟨hcp, hf⟩ := wb_n hf
      obtain ⟨hcp1, hcp2, hcp3, hcp4, hcp5⟩ := wb_cp hcp
      refine va_copyi hx hb (hml.trans hl.1.symm) hown (hts (.methodLink RX10 57 arraycopyName) (List.mem_of_getElem? (i := 4) rfl)) (hts (.native arraycopyName) (List.mem_of_getElem? (i := 5) rfl)) (hts (.static arraycopyName) (List.mem_of_getElem? (i := 6) rfl)) (hts (.initialized "java/lang/System") (List.mem_of_getElem? (i := 7) rfl)) hK hP hD hS 2 3 1 1 rfl rfl rfl rfl rfl hcp1 hcp2 hcp3 hcp4 hcp5 (fun _ _ => rfl) (Nat.le_of_ble_eq_true rfl) (by decide +kernel) dX10_choose_32 (fun H locs hP hD hS => ?_)
      have hP : va_P D vwCl (wWX10 cB cI cZ a0 I0_12 (wb_mm M0 2 (va_cpy (M0 1) (M0 2) ((0 : Int32)).toNatClampNeg ((0 : Int32)).toNatClampNeg ((6 : Int32)).toNatClampNeg))) H := hP
      have hD : va_D A (wWX10 cB cI cZ a0 I0_12 (wb_mm M0 2 (va_cpy (M0 1) (M0 2) ((0 : Int32)).toNatClampNeg ((0 : Int32)).toNatClampNeg ((6 : Int32)).toNatClampNeg))) := hD
      obtain ⟨M0_13, eM0_13, hf⟩ := wb_v hf
      rw [← eM0_13] at hP hD
      exact W.vret hx hb hr (fun t ht hW => by rw [← Option.some.inj hf]; exact ⟨⟨(), rfl, trivial, by rw [ht]; exact hP, va_K.moved hW.alike hK, hD⟩, hS.F ht⟩) hS.2.2 dX10_choose_35
  · replace hf := wb_f hc hf
    exact W.vret hx hb hr (fun t ht hW => by rw [← Option.some.inj hf]; exact ⟨⟨(), rfl, trivial, by rw [ht]; exact hP, va_K.moved hW.alike hK, hD⟩, hS.F ht⟩) hS.2.2 dX10_choose_8

set_option maxHeartbeats 4000000 in
set_option maxRecDepth 100000 in
theorem cn_X10_grow (l : Launch) (D : va_G) (cB cI cZ : ClassId) (N : Nat) (a0 : Nat → Nat) (I0 : Nat → Int32) (M0 : Nat → Nat → Int32) (sz : Nat) (R : Int32 × (Nat → Int32) × (Nat → Nat → Int32)) (hf : fX10_grow N I0 M0 = some R) : Met l yX10_grow wsX10_grow ({ frames := 8, cells := 0, slots := 0, locals := 248 }) (va_Pc [.ref (a0 0)] (wb_preD D [(cB, .byte), (cI, .int), (cZ, .boolean)] (wWX10 cB cI cZ a0 I0 M0) sz)) (va_Qi (fun r (_ : Unit) => r = R.1) (fun _ t => wb_post D [(cB, .byte), (cI, .int), (cZ, .boolean)] (va_A (wWX10 cB cI cZ a0 I0 M0) sz) (wWX10 cB cI cZ a0 R.2.1 R.2.2) t) (va_A (wWX10 cB cI cZ a0 I0 M0) sz)) 0 0 (va_A (wWX10 cB cI cZ a0 I0 M0) sz) := by
  refine Met.ofW (cc := cX10_grow) (maxL := 1) (ret := (some .int)) pn_X10 rfl ?_
  intro p e s m args below meth c s₁ B hml hv
  obtain ⟨rfl, hsz, hP, hK, hD0⟩ := hv
  have hx := B.exec
  have hb := B.bytes
  have hr := B.returns
  have hts := atoms_spec (ws := wsX10_grow) B.pre
  have hown : s.vm.findClass RX10 = some m.cls := (findClass_of_methodNamed B.named :)
  have hlocks := B.notSynchronized
  have hinX10 : ∀ w ∈ u_ws RX10 TX10 5, w ∈ wsX10_grow := fun w h => List.mem_cons_of_mem _ (List.mem_append_right _ h)
  subst hsz
  have hD := hD0.self (sz := s.heap.size)
  generalize hAe : va_A (wWX10 cB cI cZ a0 I0 M0) s.heap.size = A at hD ⊢
  have hA : ∀ q : Nat, s.heap.size ≤ q → A q := fun q h => by rw [← hAe]; exact Or.inr h
  have hS : va_S A s.heap s.heap [] := va_S.rf
  have hl := lv_entry ([.ref (a0 0)]) (n := 1) (Nat.le_of_ble_eq_true rfl)
  rw [lg_entry_eq]
  generalize (lg_sl ([.ref (a0 0)]) ++ List.replicate (1 - (lg_sl ([.ref (a0 0)])).length) Slot.unset).toArray = ls at hl ⊢
  have hl : lv_has ls 1 [(0, .ref (a0 0))] := hl
  unfold fX10_grow at hf
  obtain ⟨H, hHe⟩ : ∃ H : Heap, H = s.heap := ⟨_, rfl⟩
  obtain ⟨locs, hle⟩ : ∃ locs : List Loc, locs = [] := ⟨_, rfl⟩
  refine wb_start (H := H) (locs := locs) hHe hle ?_
  rw [← hHe] at hP
  have hS : va_S A s.heap H locs := by rw [hHe, hle]; exact va_S.rf
  refine lv_aload_n hx hb dX10_grow_0 rfl (lv_at hl 0 rfl) ?_
  refine lv_ldc (v := (1000000 : Int32)) hx hb hown (hts (.constant RX10 44 (1000000)) (List.mem_of_getElem? (i := 1) rfl)) dX10_grow_1 ?_
  refine va_put (D := D) (ci := 10) (v := .int (1000000 : Int32)) (ty := .int) (C := RX10) (T := TX10) (N := 5) hx hb hts hinX10 tyX10 tyX10_ok nmX10 hown hK hP hD hS 0 rfl rfl 3 (by decide) (hts (.fieldLink RX10 45 "WheelBook$Tree" "least" "I") (List.mem_of_getElem? (i := 2) rfl)) (fun _ h9 => h9) rfl (by decide +kernel) rfl rfl (Nat.le_of_ble_eq_true rfl) dX10_grow_3 (fun H locs hP hD hS => ?_)
  have hP : va_P D vwCl (wWX10 cB cI cZ a0 (upd I0 0 (1000000 : Int32)) M0) H := hP
  have hD : va_D A (wWX10 cB cI cZ a0 (upd I0 0 (1000000 : Int32)) M0) := hD
  obtain ⟨I0_1, eI0_1, hf⟩ := wb_v hf
  rw [← eI0_1] at hP hD
  refine lv_aload_n hx hb dX10_grow_6 rfl (lv_at hl 0 rfl) ?_
  refine lv_iconst (v := (0 : Int32)) hx hb dX10_grow_7 (by decide) ?_
  refine lv_iconst (v := (0 : Int32)) hx hb dX10_grow_8 (by decide) ?_
  refine lv_iconst (v := (0 : Int32)) hx hb dX10_grow_9 (by decide) ?_
  obtain ⟨r2, hr2, hf⟩ := wb_b hf
  have hPc := hP
  have hDc := hD
  have hFc := wj_F hDc hS hA
  refine va_callv (va_runV (As := [.int (0 : Int32), .int (0 : Int32), .int (0 : Int32)]) (rest := []) ⟨hx, hb, hml, hown, hts⟩ (cn_X10_choose_d7 l D cB cI cZ N a0 I0_1 M0 (0 : Int32) (0 : Int32) (0 : Int32) H.size r2 hr2) (cwV 3 hts gX10_grow_X10_choose rfl rfl rfl cdX10_choose ⟨Nat.le_of_ble_eq_true rfl, Nat.le_of_ble_eq_true rfl⟩) (wb_preDV hPc hK hDc (wr_10 hK hP (q0 := 0) rfl)) rfl rfl hl.1 rfl (lv_room (Nat.le_of_ble_eq_true rfl)) dX10_grow_10 ⟨Nat.le_of_ble_eq_true rfl, Nat.le_of_ble_eq_true rfl⟩) hS (fun q _ h => hFc q h) hFc (fun u t H locs ht hvm hw hB hz1 hk1 hS => ?_)
  obtain ⟨hP, hD⟩ := wj_0 hFc ht hB
  refine lv_aload_n hx hb dX10_grow_13 rfl (lv_at hl 0 rfl) ?_
  refine lv_iconst (v := (1 : Int32)) hx hb dX10_grow_14 (by decide) ?_
  refine va_put (D := D) (ci := 10) (v := .int (1 : Int32)) (ty := .boolean) (C := RX10) (T := TX10) (N := 5) hx hb hts hinX10 tyX10 tyX10_ok nmX10 hown hK hP hD hS 0 rfl rfl 4 (by decide) (hts (.fieldLink RX10 53 "WheelBook$Tree" "isKept" "Z") (List.mem_of_getElem? (i := 3) rfl)) (fun _ h9 => h9) rfl (by decide +kernel) (by decide) (by decide) (Nat.le_of_ble_eq_true rfl) dX10_grow_15 (fun H locs hP hD hS => ?_)
  have hP : va_P D vwCl (wWX10 cB cI cZ a0 (upd r2.1 1 (1 : Int32)) r2.2) H := hP
  have hD : va_D A (wWX10 cB cI cZ a0 (upd r2.1 1 (1 : Int32)) r2.2) := hD
  obtain ⟨I0_3, eI0_3, hf⟩ := wb_v hf
  rw [← eI0_3] at hP hD
  refine lv_aload_n hx hb dX10_grow_18 rfl (lv_at hl 0 rfl) ?_
  refine va_get (D := D) (ci := 10) (v := .int (I0_3 0)) (C := RX10) (T := TX10) (N := 5) hx hb hts hinX10 hown hK hP 0 rfl rfl 3 (by decide) (hts (.fieldLink RX10 45 "WheelBook$Tree" "least" "I") (List.mem_of_getElem? (i := 2) rfl)) (fun _ h9 => h9) rfl dX10_grow_19 ?_
  exact W.iret (v := (I0_3 0)) hx hb hr (fun t ht hW => by rw [← Option.some.inj hf]; exact ⟨⟨(I0_3 0), (), rfl, rfl, by rw [ht]; exact hP, va_K.moved hW.alike hK, hD⟩, hS.F ht⟩) hS.2.2 dX10_grow_22

set_option maxHeartbeats 4000000 in
set_option maxRecDepth 100000 in
theorem cn_X10_holds (l : Launch) (D : va_G) (cB cI cZ : ClassId) (N : Nat) (a0 : Nat → Nat) (I0 : Nat → Int32) (M0 : Nat → Nat → Int32) (x1 : Int32) (R : Int32) (hf : fX10_holds N I0 M0 x1 = some R) : Met l yX10_holds wsX10_holds ({ frames := 0, cells := 0, slots := 0, locals := 0 }) (va_Pc [.ref (a0 0), .int x1] (wb_pre D [(cB, .byte), (cI, .int), (cZ, .boolean)] (wWX10 cB cI cZ a0 I0 M0))) (vp_Si (fun r => r = R)) 0 0 (fun _ => False) := by
  refine Met.ofW (cc := cX10_holds) (maxL := 2) (ret := (some .boolean)) pn_X10 rfl ?_
  intro p e s m args below meth c s₁ B hml hv
  obtain ⟨rfl, hP, hK⟩ := hv
  have hx := B.exec
  have hb := B.bytes
  have hr := B.returns
  have hts := atoms_spec (ws := wsX10_holds) B.pre
  have hown : s.vm.findClass RX10 = some m.cls := (findClass_of_methodNamed B.named :)
  have hlocks := B.notSynchronized
  have hinX10 : ∀ w ∈ u_ws RX10 TX10 5, w ∈ wsX10_holds := fun w h => List.mem_cons_of_mem _ (List.mem_append_right _ h)
  have hl := lv_entry ([.ref (a0 0), .int x1]) (n := 2) (Nat.le_of_ble_eq_true rfl)
  rw [lg_entry_eq]
  generalize (lg_sl ([.ref (a0 0), .int x1]) ++ List.replicate (2 - (lg_sl ([.ref (a0 0), .int x1])).length) Slot.unset).toArray = ls at hl ⊢
  have hl : lv_has ls 2 [(0, .ref (a0 0)), (1, .int x1)] := hl
  unfold fX10_holds at hf
  refine lv_aload_n hx hb dX10_holds_0 rfl (lv_at hl 0 rfl) ?_
  refine va_get (D := D) (ci := 10) (v := .ref (a0 3)) (C := RX10) (T := TX10) (N := 5) hx hb hts hinX10 hown hK hP 0 rfl rfl 2 (by decide) (hts (.fieldLink RX10 18 "WheelBook$Tree" "bestRow" "[I") (List.mem_of_getElem? (i := 1) rfl)) (fun _ h9 => h9) rfl dX10_holds_1 ?_
  refine lv_iload_n hx hb dX10_holds_4 rfl (lv_at hl 1 rfl) ?_
  obtain ⟨hin, hf⟩ := wb_n hf
  refine va_iald hx hb hK hP 3 1 rfl rfl hin dX10_holds_5 ?_
  refine lv_bipush (v := (-2 : Int32)) hx hb dX10_holds_6 (by decide) ?_
  refine lv_icmp_eq (tgt := 15) hx hb dX10_holds_8 (by decide) (fun hc => ?_) (fun hc => ?_)
  · replace hf := wb_t hc hf
    refine lv_iconst (v := (0 : Int32)) hx hb dX10_holds_15 (by decide) ?_
    exact W.zret (v := (0 : Int32)) hx hb hr (by decide) (fun t ht hW => ⟨_, rfl, Option.some.inj hf, ht⟩) (fun _ h => nomatch h) dX10_holds_16
  · replace hf := wb_f hc hf
    refine lv_iconst (v := (1 : Int32)) hx hb dX10_holds_11 (by decide) ?_
    refine lv_goto (tgt := 16) hx hb dX10_holds_12 (by decide) ?_
    exact W.zret (v := (1 : Int32)) hx hb hr (by decide) (fun t ht hW => ⟨_, rfl, Option.some.inj hf, ht⟩) (fun _ h => nomatch h) dX10_holds_16

set_option maxHeartbeats 4000000 in
set_option maxRecDepth 100000 in
theorem cn_X10_parentOf (l : Launch) (D : va_G) (cB cI cZ : ClassId) (N : Nat) (a0 : Nat → Nat) (I0 : Nat → Int32) (M0 : Nat → Nat → Int32) (x1 : Int32) (R : Int32) (hf : fX10_parentOf N I0 M0 x1 = some R) : Met l yX10_parentOf wsX10_parentOf ({ frames := 0, cells := 0, slots := 0, locals := 0 }) (va_Pc [.ref (a0 0), .int x1] (wb_pre D [(cB, .byte), (cI, .int), (cZ, .boolean)] (wWX10 cB cI cZ a0 I0 M0))) (vp_Si (fun r => r = R)) 0 0 (fun _ => False) := by
  refine Met.ofW (cc := cX10_parentOf) (maxL := 2) (ret := (some .int)) pn_X10 rfl ?_
  intro p e s m args below meth c s₁ B hml hv
  obtain ⟨rfl, hP, hK⟩ := hv
  have hx := B.exec
  have hb := B.bytes
  have hr := B.returns
  have hts := atoms_spec (ws := wsX10_parentOf) B.pre
  have hown : s.vm.findClass RX10 = some m.cls := (findClass_of_methodNamed B.named :)
  have hlocks := B.notSynchronized
  have hinX10 : ∀ w ∈ u_ws RX10 TX10 5, w ∈ wsX10_parentOf := fun w h => List.mem_cons_of_mem _ (List.mem_append_right _ h)
  have hl := lv_entry ([.ref (a0 0), .int x1]) (n := 2) (Nat.le_of_ble_eq_true rfl)
  rw [lg_entry_eq]
  generalize (lg_sl ([.ref (a0 0), .int x1]) ++ List.replicate (2 - (lg_sl ([.ref (a0 0), .int x1])).length) Slot.unset).toArray = ls at hl ⊢
  have hl : lv_has ls 2 [(0, .ref (a0 0)), (1, .int x1)] := hl
  unfold fX10_parentOf at hf
  refine lv_aload_n hx hb dX10_parentOf_0 rfl (lv_at hl 0 rfl) ?_
  refine va_get (D := D) (ci := 10) (v := .ref (a0 3)) (C := RX10) (T := TX10) (N := 5) hx hb hts hinX10 hown hK hP 0 rfl rfl 2 (by decide) (hts (.fieldLink RX10 18 "WheelBook$Tree" "bestRow" "[I") (List.mem_of_getElem? (i := 1) rfl)) (fun _ h9 => h9) rfl dX10_parentOf_1 ?_
  refine lv_iload_n hx hb dX10_parentOf_4 rfl (lv_at hl 1 rfl) ?_
  obtain ⟨hin, hf⟩ := wb_n hf
  refine va_iald hx hb hK hP 3 1 rfl rfl hin dX10_parentOf_5 ?_
  exact W.iret (v := (M0 2 (x1).toNatClampNeg)) hx hb hr (fun t ht hW => ⟨_, rfl, Option.some.inj hf, ht⟩) (fun _ h => nomatch h) dX10_parentOf_6

set_option maxHeartbeats 4000000 in
set_option maxRecDepth 100000 in
theorem cn_X10_isSlip (l : Launch) (D : va_G) (cB cI cZ : ClassId) (N : Nat) (a0 : Nat → Nat) (I0 : Nat → Int32) (M0 : Nat → Nat → Int32) (x1 : Int32) (x2 : Int32) (x3 : Int32) (x4 : Int32) (R : Int32) (hf : fX10_isSlip N I0 M0 x1 x2 x3 x4 = some R) : Met l yX10_isSlip wsX10_isSlip ({ frames := 2, cells := 0, slots := 0, locals := 45 }) (va_Pc [.ref (a0 0), .int x1, .int x2, .int x3, .int x4] (wb_pre D [(cB, .byte), (cI, .int), (cZ, .boolean)] (wWX4 cB cI cZ a0 I0 M0))) (vp_Si (fun r => r = R)) 0 0 (fun _ => False) := by
  refine Met.ofW (cc := cX10_isSlip) (maxL := 6) (ret := (some .boolean)) pn_X10 rfl ?_
  intro p e s m args below meth c s₁ B hml hv
  obtain ⟨rfl, hP, hK⟩ := hv
  have hx := B.exec
  have hb := B.bytes
  have hr := B.returns
  have hts := atoms_spec (ws := wsX10_isSlip) B.pre
  have hown : s.vm.findClass RX10 = some m.cls := (findClass_of_methodNamed B.named :)
  have hlocks := B.notSynchronized
  have hl := lv_entry ([.ref (a0 0), .int x1, .int x2, .int x3, .int x4]) (n := 6) (Nat.le_of_ble_eq_true rfl)
  rw [lg_entry_eq]
  generalize (lg_sl ([.ref (a0 0), .int x1, .int x2, .int x3, .int x4]) ++ List.replicate (6 - (lg_sl ([.ref (a0 0), .int x1, .int x2, .int x3, .int x4])).length) Slot.unset).toArray = ls at hl ⊢
  have hl : lv_has ls 6 [(0, .ref (a0 0)), (1, .int x1), (2, .int x2), (3, .int x3), (4, .int x4)] := hl
  unfold fX10_isSlip at hf
  refine lv_aload_n hx hb dX10_isSlip_0 rfl (lv_at hl 0 rfl) ?_
  refine lv_iload_n hx hb dX10_isSlip_1 rfl (lv_at hl 1 rfl) ?_
  refine lv_iload_n hx hb dX10_isSlip_2 rfl (lv_at hl 2 rfl) ?_
  obtain ⟨r1, hr1, hf⟩ := wb_b hf
  refine vp_callSi (W.runV (As := [.int x1, .int x2]) (rest := []) ⟨hx, hb, hml, hown, hts⟩ (cn_X4_misreading l D cB cI cZ N a0 I0 M0 x1 x2 r1 hr1) (cwV 2 hts gX10_isSlip_X4_misreading rfl rfl rfl cdX4_misreading ⟨Nat.le_of_ble_eq_true rfl, Nat.le_of_ble_eq_true rfl⟩) (wb_preV hP hK (wr_4 hK hP (q0 := 0) rfl)) rfl rfl hl.1 rfl (lv_room (Nat.le_of_ble_eq_true rfl)) dX10_isSlip_3 ⟨Nat.le_of_ble_eq_true rfl, Nat.le_of_ble_eq_true rfl⟩) (fun r9 e9 => ?_)
  rw [e9]
  refine lv_istore (lv' := [(5, .int r1), (0, .ref (a0 0)), (1, .int x1), (2, .int x2), (3, .int x3), (4, .int x4)]) hx hb dX10_isSlip_6 hl (by decide) rfl (fun ls hl => ?_)
  refine lv_iload hx hb dX10_isSlip_8 (lv_at hl 0 rfl) ?_
  refine lv_iconst (v := (1 : Int32)) hx hb dX10_isSlip_10 (by decide) ?_
  refine lv_icmp_ne (tgt := 37) hx hb dX10_isSlip_11 (by decide) (fun hc => ?_) (fun hc => ?_)
  · replace hf := wb_f hc hf
    refine lv_iload hx hb dX10_isSlip_37 (lv_at hl 0 rfl) ?_
    refine lv_iconst (v := (2 : Int32)) hx hb dX10_isSlip_39 (by decide) ?_
    refine lv_icmp_ne (tgt := 64) hx hb dX10_isSlip_40 (by decide) (fun hc => ?_) (fun hc => ?_)
    · replace hf := wb_f hc hf
      refine lv_iconst (v := (0 : Int32)) hx hb dX10_isSlip_64 (by decide) ?_
      exact W.zret (v := (0 : Int32)) hx hb hr (by decide) (fun t ht hW => ⟨_, rfl, Option.some.inj hf, ht⟩) (fun _ h => nomatch h) dX10_isSlip_65
    · replace hf := wb_t hc hf
      refine lv_iload_n hx hb dX10_isSlip_43 rfl (lv_at hl 2 rfl) ?_
      refine lv_bipush (v := (30 : Int32)) hx hb dX10_isSlip_44 (by decide) ?_
      refine lv_idiv hx hb dX10_isSlip_46 (by decide) ?_
      refine lv_iload_n hx hb dX10_isSlip_47 rfl (lv_at hl 4 rfl) ?_
      refine lv_icmp_ne (tgt := 64) hx hb dX10_isSlip_48 (by decide) (fun hc => ?_) (fun hc => ?_)
      · replace hf := wb_f hc hf
        refine lv_iconst (v := (0 : Int32)) hx hb dX10_isSlip_64 (by decide) ?_
        exact W.zret (v := (0 : Int32)) hx hb hr (by decide) (fun t ht hW => ⟨_, rfl, Option.some.inj hf, ht⟩) (fun _ h => nomatch h) dX10_isSlip_65
      · replace hf := wb_t hc hf
        refine lv_iload_n hx hb dX10_isSlip_51 rfl (lv_at hl 3 rfl) ?_
        refine lv_bipush (v := (30 : Int32)) hx hb dX10_isSlip_52 (by decide) ?_
        refine lv_idiv hx hb dX10_isSlip_54 (by decide) ?_
        refine lv_iload hx hb dX10_isSlip_55 (lv_at hl 5 rfl) ?_
        refine lv_icmp_ne (tgt := 64) hx hb dX10_isSlip_57 (by decide) (fun hc => ?_) (fun hc => ?_)
        · replace hf := wb_f hc hf
          refine lv_iconst (v := (0 : Int32)) hx hb dX10_isSlip_64 (by decide) ?_
          exact W.zret (v := (0 : Int32)) hx hb hr (by decide) (fun t ht hW => ⟨_, rfl, Option.some.inj hf, ht⟩) (fun _ h => nomatch h) dX10_isSlip_65
        · replace hf := wb_t hc hf
          refine lv_iconst (v := (1 : Int32)) hx hb dX10_isSlip_60 (by decide) ?_
          refine lv_goto (tgt := 65) hx hb dX10_isSlip_61 (by decide) ?_
          exact W.zret (v := (1 : Int32)) hx hb hr (by decide) (fun t ht hW => ⟨_, rfl, Option.some.inj hf, ht⟩) (fun _ h => nomatch h) dX10_isSlip_65
  · replace hf := wb_t hc hf
    refine lv_iload_n hx hb dX10_isSlip_14 rfl (lv_at hl 2 rfl) ?_
    refine lv_bipush (v := (30 : Int32)) hx hb dX10_isSlip_15 (by decide) ?_
    refine lv_irem hx hb dX10_isSlip_17 (by decide) ?_
    refine lv_iload_n hx hb dX10_isSlip_18 rfl (lv_at hl 4 rfl) ?_
    refine lv_icmp_ne (tgt := 35) hx hb dX10_isSlip_19 (by decide) (fun hc => ?_) (fun hc => ?_)
    · replace hf := wb_f hc hf
      refine lv_iconst (v := (0 : Int32)) hx hb dX10_isSlip_35 (by decide) ?_
      exact W.zret (v := (0 : Int32)) hx hb hr (by decide) (fun t ht hW => ⟨_, rfl, Option.some.inj hf, ht⟩) (fun _ h => nomatch h) dX10_isSlip_36
    · replace hf := wb_t hc hf
      refine lv_iload_n hx hb dX10_isSlip_22 rfl (lv_at hl 3 rfl) ?_
      refine lv_bipush (v := (30 : Int32)) hx hb dX10_isSlip_23 (by decide) ?_
      refine lv_irem hx hb dX10_isSlip_25 (by decide) ?_
      refine lv_iload hx hb dX10_isSlip_26 (lv_at hl 5 rfl) ?_
      refine lv_icmp_ne (tgt := 35) hx hb dX10_isSlip_28 (by decide) (fun hc => ?_) (fun hc => ?_)
      · replace hf := wb_f hc hf
        refine lv_iconst (v := (0 : Int32)) hx hb dX10_isSlip_35 (by decide) ?_
        exact W.zret (v := (0 : Int32)) hx hb hr (by decide) (fun t ht hW => ⟨_, rfl, Option.some.inj hf, ht⟩) (fun _ h => nomatch h) dX10_isSlip_36
      · replace hf := wb_t hc hf
        refine lv_iconst (v := (1 : Int32)) hx hb dX10_isSlip_31 (by decide) ?_
        refine lv_goto (tgt := 36) hx hb dX10_isSlip_32 (by decide) ?_
        exact W.zret (v := (1 : Int32)) hx hb hr (by decide) (fun t ht hW => ⟨_, rfl, Option.some.inj hf, ht⟩) (fun _ h => nomatch h) dX10_isSlip_36

set_option maxHeartbeats 4000000 in
set_option maxRecDepth 100000 in
theorem cn_X10_slipsOf (l : Launch) (D : va_G) (cB cI cZ : ClassId) (N : Nat) (a0 : Nat → Nat) (I0 : Nat → Int32) (M0 : Nat → Nat → Int32) (a1 : Nat → Nat) (I1 : Nat → Int32) (M1 : Nat → Nat → Int32) (a2 : Nat → Nat) (I2 : Nat → Int32) (M2 : Nat → Nat → Int32) (x3 : Int32) (x4 : Int32) (x5 : Int32) (R : Int32) (hf : fX10_slipsOf N I0 M0 I1 M1 I2 M2 x3 x4 x5 = some R) : Met l yX10_slipsOf wsX10_slipsOf ({ frames := 3, cells := 0, slots := 0, locals := 70 }) (va_Pc [.ref (a0 0), .ref (a1 0), .ref (a2 0), .int x3, .int x4, .int x5] (wb_pre D [(cB, .byte), (cI, .int), (cZ, .boolean)] ((wWX10 cB cI cZ a0 I0 M0) ++ ((wWX4 cB cI cZ a1 I1 M1) ++ (wWX1 cB cI cZ a2 I2 M2))))) (vp_Si (fun r => r = R)) 0 0 (fun _ => False) := by
  refine Met.ofW (cc := cX10_slipsOf) (maxL := 11) (ret := (some .int)) pn_X10 rfl ?_
  intro p e s m args below meth c s₁ B hml hv
  obtain ⟨rfl, hP, hK⟩ := hv
  have hx := B.exec
  have hb := B.bytes
  have hr := B.returns
  have hts := atoms_spec (ws := wsX10_slipsOf) B.pre
  have hown : s.vm.findClass RX10 = some m.cls := (findClass_of_methodNamed B.named :)
  have hlocks := B.notSynchronized
  have hinX10 : ∀ w ∈ u_ws RX10 TX10 5, w ∈ wsX10_slipsOf := fun w h => List.mem_cons_of_mem _ (List.mem_append_left _ (List.mem_append_left _ (List.mem_append_right _ h)))
  have hl := lv_entry ([.ref (a0 0), .ref (a1 0), .ref (a2 0), .int x3, .int x4, .int x5]) (n := 11) (Nat.le_of_ble_eq_true rfl)
  rw [lg_entry_eq]
  generalize (lg_sl ([.ref (a0 0), .ref (a1 0), .ref (a2 0), .int x3, .int x4, .int x5]) ++ List.replicate (11 - (lg_sl ([.ref (a0 0), .ref (a1 0), .ref (a2 0), .int x3, .int x4, .int x5])).length) Slot.unset).toArray = ls at hl ⊢
  have hl : lv_has ls 11 [(0, .ref (a0 0)), (1, .ref (a1 0)), (2, .ref (a2 0)), (3, .int x3), (4, .int x4), (5, .int x5)] := hl
  unfold fX10_slipsOf at hf
  refine lv_iconst (v := (0 : Int32)) hx hb dX10_slipsOf_0 (by decide) ?_
  refine lv_istore (lv' := [(6, .int (0 : Int32)), (0, .ref (a0 0)), (1, .ref (a1 0)), (2, .ref (a2 0)), (3, .int x3), (4, .int x4), (5, .int x5)]) hx hb dX10_slipsOf_1 hl (by decide) rfl (fun ls hl => ?_)
  refine lv_iconst (v := (0 : Int32)) hx hb dX10_slipsOf_3 (by decide) ?_
  refine lv_istore (lv' := [(7, .int (0 : Int32)), (6, .int (0 : Int32)), (0, .ref (a0 0)), (1, .ref (a1 0)), (2, .ref (a2 0)), (3, .int x3), (4, .int x4), (5, .int x5)]) hx hb dX10_slipsOf_4 hl (by decide) rfl (fun ls hl => ?_)
  have L6 : ∀ (fu6 : Nat) (y6_6 : Int32) (y6_7 : Int32), ∀ (ls : Array Slot), lv_has ls 11 [(0, .ref (a0 0)), (1, .ref (a1 0)), (2, .ref (a2 0)), (3, .int x3), (4, .int x4), (5, .int x5), (6, .int y6_6), (7, .int y6_7)] → fX10_slipsOf_L6 N I0 M0 I1 M1 I2 M2 x3 x4 x5 fu6 y6_6 y6_7 = some R → W p l e (headSpec wsX10_slipsOf { frames := 3, cells := 0, slots := 0, locals := 70 }).room s m [.ref (a0 0), .ref (a1 0), .ref (a2 0), .int x3, .int x4, .int x5].toArray below meth c s.heap [] 0 0 (MQ below (vp_Si (fun r => r = R)) [.ref (a0 0), .ref (a1 0), .ref (a2 0), .int x3, .int x4, .int x5].toArray s 0 0 (fun _ => False)) (F0 m 6 ls []) := by
    intro fu6
    induction fu6 with
    | zero =>
      intro y6_6 y6_7 ls hl hf
      exact absurd hf (by rw [fX10_slipsOf_L6.eq_1]; exact fun h => nomatch h)
    | succ fu6 ih6 =>
      intro y6_6 y6_7 ls hl hf
      rw [fX10_slipsOf_L6.eq_2] at hf
      refine lv_iload hx hb dX10_slipsOf_6 (lv_at hl 7 rfl) ?_
      refine lv_bipush (v := (20 : Int32)) hx hb dX10_slipsOf_8 (by decide) ?_
      refine lv_icmp_ge (tgt := 100) hx hb dX10_slipsOf_10 (by decide) (fun hc => ?_) (fun hc => ?_)
      · replace hf := wb_t hc hf
        refine lv_iload hx hb dX10_slipsOf_100 (lv_at hl 6 rfl) ?_
        exact W.iret (v := y6_6) hx hb hr (fun t ht hW => ⟨_, rfl, Option.some.inj hf, ht⟩) (fun _ h => nomatch h) dX10_slipsOf_102
      · replace hf := wb_f hc hf
        refine lv_iconst (v := (0 : Int32)) hx hb dX10_slipsOf_13 (by decide) ?_
        refine lv_istore (lv' := [(8, .int (0 : Int32)), (0, .ref (a0 0)), (1, .ref (a1 0)), (2, .ref (a2 0)), (3, .int x3), (4, .int x4), (5, .int x5), (6, .int y6_6), (7, .int y6_7)]) hx hb dX10_slipsOf_14 hl (by decide) rfl (fun ls hl => ?_)
        have L16 : ∀ (fu16 : Nat) (y16_6 : Int32) (y16_8 : Int32), ∀ (ls : Array Slot), lv_has ls 11 [(0, .ref (a0 0)), (1, .ref (a1 0)), (2, .ref (a2 0)), (3, .int x3), (4, .int x4), (5, .int x5), (6, .int y16_6), (7, .int y6_7), (8, .int y16_8)] → fX10_slipsOf_L16 N I0 M0 I1 M1 I2 M2 x3 x4 x5 y6_7 (fX10_slipsOf_L6 N I0 M0 I1 M1 I2 M2 x3 x4 x5 fu6) fu16 y16_6 y16_8 = some R → W p l e (headSpec wsX10_slipsOf { frames := 3, cells := 0, slots := 0, locals := 70 }).room s m [.ref (a0 0), .ref (a1 0), .ref (a2 0), .int x3, .int x4, .int x5].toArray below meth c s.heap [] 0 0 (MQ below (vp_Si (fun r => r = R)) [.ref (a0 0), .ref (a1 0), .ref (a2 0), .int x3, .int x4, .int x5].toArray s 0 0 (fun _ => False)) (F0 m 16 ls []) := by
          intro fu16
          induction fu16 with
          | zero =>
            intro y16_6 y16_8 ls hl hf
            exact absurd hf (by rw [fX10_slipsOf_L16.eq_1]; exact fun h => nomatch h)
          | succ fu16 ih16 =>
            intro y16_6 y16_8 ls hl hf
            rw [fX10_slipsOf_L16.eq_2] at hf
            refine lv_iload hx hb dX10_slipsOf_16 (lv_at hl 8 rfl) ?_
            refine lv_bipush (v := (21 : Int32)) hx hb dX10_slipsOf_18 (by decide) ?_
            refine lv_icmp_ge (tgt := 94) hx hb dX10_slipsOf_20 (by decide) (fun hc => ?_) (fun hc => ?_)
            · replace hf := wb_t hc hf
              obtain ⟨v1, ev1, hf⟩ := wb_v hf
              refine lv_iinc (v := v1) (lv' := [(7, .int v1), (0, .ref (a0 0)), (1, .ref (a1 0)), (2, .ref (a2 0)), (3, .int x3), (4, .int x4), (5, .int x5), (6, .int y16_6), (8, .int y16_8)]) hx hb dX10_slipsOf_94 hl (k := 7) rfl (by rw [ev1]; rfl) (by decide) rfl (fun ls hl => ?_)
              refine lv_goto (tgt := 6) hx hb dX10_slipsOf_97 (by decide) ?_
              exact ih6 y16_6 v1 ls (lv_sub hl [1, 2, 3, 4, 5, 6, 7, 0] rfl) hf
            · replace hf := wb_f hc hf
              refine lv_aload_n hx hb dX10_slipsOf_23 rfl (lv_at hl 2 rfl) ?_
              refine lv_bipush (v := (20 : Int32)) hx hb dX10_slipsOf_24 (by decide) ?_
              refine lv_iload_n hx hb dX10_slipsOf_26 rfl (lv_at hl 3 rfl) ?_
              refine lv_imul hx hb dX10_slipsOf_27 ?_
              refine lv_iload hx hb dX10_slipsOf_28 (lv_at hl 7 rfl) ?_
              refine lv_iadd hx hb dX10_slipsOf_30 ?_
              refine lv_iload hx hb dX10_slipsOf_31 (lv_at hl 8 rfl) ?_
              obtain ⟨r2, hr2, hf⟩ := wb_b hf
              refine vp_callSi (W.runV (As := [.int (((20 : Int32) * x3) + y6_7), .int y16_8]) (rest := []) ⟨hx, hb, hml, hown, hts⟩ (cn_X1_degreeOf l D cB cI cZ N a2 I2 M2 (((20 : Int32) * x3) + y6_7) y16_8 r2 hr2) (cwV 2 hts gX10_slipsOf_X1_degreeOf rfl rfl rfl cdX1_degreeOf ⟨Nat.le_of_ble_eq_true rfl, Nat.le_of_ble_eq_true rfl⟩) (wb_preV (hP.sub (ws' := (wWX1 cB cI cZ a2 I2 M2)) [6, 7, 8] rfl) hK (wr_1 hK hP (q0 := 6) rfl)) rfl rfl hl.1 rfl (lv_room (Nat.le_of_ble_eq_true rfl)) dX10_slipsOf_33 ⟨Nat.le_of_ble_eq_true rfl, Nat.le_of_ble_eq_true rfl⟩) (fun r9 e9 => ?_)
              rw [e9]
              refine lv_istore (lv' := [(9, .int r2), (0, .ref (a0 0)), (1, .ref (a1 0)), (2, .ref (a2 0)), (3, .int x3), (4, .int x4), (5, .int x5), (6, .int y16_6), (7, .int y6_7), (8, .int y16_8)]) hx hb dX10_slipsOf_36 hl (by decide) rfl (fun ls hl => ?_)
              refine lv_aload_n hx hb dX10_slipsOf_38 rfl (lv_at hl 3 rfl) ?_
              refine lv_bipush (v := (20 : Int32)) hx hb dX10_slipsOf_39 (by decide) ?_
              refine lv_aload_n hx hb dX10_slipsOf_41 rfl (lv_at hl 1 rfl) ?_
              refine va_get (D := D) (ci := 10) (v := .ref (a0 3)) (C := RX10) (T := TX10) (N := 5) hx hb hts hinX10 hown hK hP 0 rfl rfl 2 (by decide) (hts (.fieldLink RX10 18 "WheelBook$Tree" "bestRow" "[I") (List.mem_of_getElem? (i := 1) rfl)) (fun _ h9 => h9) rfl dX10_slipsOf_42 ?_
              refine lv_iload_n hx hb dX10_slipsOf_45 rfl (lv_at hl 4 rfl) ?_
              obtain ⟨hin, hf⟩ := wb_n hf
              refine va_iald hx hb hK hP 3 1 rfl rfl hin dX10_slipsOf_46 ?_
              refine lv_imul hx hb dX10_slipsOf_47 ?_
              refine lv_iload hx hb dX10_slipsOf_48 (lv_at hl 8 rfl) ?_
              refine lv_iadd hx hb dX10_slipsOf_50 ?_
              refine lv_iload hx hb dX10_slipsOf_51 (lv_at hl 9 rfl) ?_
              obtain ⟨r3, hr3, hf⟩ := wb_b hf
              refine vp_callSi (W.runV (As := [.int (((20 : Int32) * (M0 2 (x3).toNatClampNeg)) + y6_7), .int y16_8]) (rest := []) ⟨hx, hb, hml, hown, hts⟩ (cn_X1_degreeOf l D cB cI cZ N a2 I2 M2 (((20 : Int32) * (M0 2 (x3).toNatClampNeg)) + y6_7) y16_8 r3 hr3) (cwV 2 hts gX10_slipsOf_X1_degreeOf rfl rfl rfl cdX1_degreeOf ⟨Nat.le_of_ble_eq_true rfl, Nat.le_of_ble_eq_true rfl⟩) (wb_preV (hP.sub (ws' := (wWX1 cB cI cZ a2 I2 M2)) [6, 7, 8] rfl) hK (wr_1 hK hP (q0 := 6) rfl)) rfl rfl hl.1 rfl (lv_room (Nat.le_of_ble_eq_true rfl)) dX10_slipsOf_53 ⟨Nat.le_of_ble_eq_true rfl, Nat.le_of_ble_eq_true rfl⟩) (fun r9 e9 => ?_)
              rw [e9]
              refine lv_istore (lv' := [(10, .int r3), (9, .int r2), (0, .ref (a0 0)), (1, .ref (a1 0)), (2, .ref (a2 0)), (3, .int x3), (4, .int x4), (5, .int x5), (6, .int y16_6), (7, .int y6_7), (8, .int y16_8)]) hx hb dX10_slipsOf_56 hl (by decide) rfl (fun ls hl => ?_)
              refine lv_iload hx hb dX10_slipsOf_58 (lv_at hl 1 rfl) ?_
              refine lv_iconst (v := (-1 : Int32)) hx hb dX10_slipsOf_60 (by decide) ?_
              refine lv_icmp_eq (tgt := 88) hx hb dX10_slipsOf_61 (by decide) (fun hc => ?_) (fun hc => ?_)
              · replace hf := wb_t hc hf
                obtain ⟨v4, ev4, hf⟩ := wb_v hf
                refine lv_iinc (v := v4) (lv' := [(8, .int v4), (10, .int r3), (9, .int r2), (0, .ref (a0 0)), (1, .ref (a1 0)), (2, .ref (a2 0)), (3, .int x3), (4, .int x4), (5, .int x5), (6, .int y16_6), (7, .int y6_7)]) hx hb dX10_slipsOf_88 hl (k := 10) rfl (by rw [ev4]; rfl) (by decide) rfl (fun ls hl => ?_)
                refine lv_goto (tgt := 16) hx hb dX10_slipsOf_91 (by decide) ?_
                exact ih16 y16_6 v4 ls (lv_sub hl [3, 4, 5, 6, 7, 8, 9, 10, 0] rfl) hf
              · replace hf := wb_f hc hf
                refine lv_iload hx hb dX10_slipsOf_64 (lv_at hl 0 rfl) ?_
                refine lv_iconst (v := (-1 : Int32)) hx hb dX10_slipsOf_66 (by decide) ?_
                refine lv_icmp_eq (tgt := 88) hx hb dX10_slipsOf_67 (by decide) (fun hc => ?_) (fun hc => ?_)
                · replace hf := wb_t hc hf
                  obtain ⟨v5, ev5, hf⟩ := wb_v hf
                  refine lv_iinc (v := v5) (lv' := [(8, .int v5), (10, .int r3), (9, .int r2), (0, .ref (a0 0)), (1, .ref (a1 0)), (2, .ref (a2 0)), (3, .int x3), (4, .int x4), (5, .int x5), (6, .int y16_6), (7, .int y6_7)]) hx hb dX10_slipsOf_88 hl (k := 10) rfl (by rw [ev5]; rfl) (by decide) rfl (fun ls hl => ?_)
                  refine lv_goto (tgt := 16) hx hb dX10_slipsOf_91 (by decide) ?_
                  exact ih16 y16_6 v5 ls (lv_sub hl [3, 4, 5, 6, 7, 8, 9, 10, 0] rfl) hf
                · replace hf := wb_f hc hf
                  refine lv_aload_n hx hb dX10_slipsOf_70 rfl (lv_at hl 3 rfl) ?_
                  refine lv_iload hx hb dX10_slipsOf_71 (lv_at hl 1 rfl) ?_
                  refine lv_iload hx hb dX10_slipsOf_73 (lv_at hl 0 rfl) ?_
                  refine lv_iload hx hb dX10_slipsOf_75 (lv_at hl 6 rfl) ?_
                  refine lv_iload hx hb dX10_slipsOf_77 (lv_at hl 7 rfl) ?_
                  obtain ⟨r6, hr6, hf⟩ := wb_b hf
                  refine vp_callSi (W.runS (As := [.ref (a1 0), .int r2, .int r3, .int x4, .int x5]) (rest := []) ⟨hx, hb, hml, hown, hts⟩ (cn_X10_isSlip l D cB cI cZ N a1 I1 M1 r2 r3 x4 x5 r6 hr6) (va_cwS 5 hts gX10_slipsOf_X10_isSlip rfl rfl rfl csX10_isSlip ⟨Nat.le_of_ble_eq_true rfl, Nat.le_of_ble_eq_true rfl⟩) (wb_preS (hP.sub (ws' := (wWX4 cB cI cZ a1 I1 M1)) [4, 5] rfl) hK) rfl rfl hl.1 rfl (lv_room (Nat.le_of_ble_eq_true rfl)) dX10_slipsOf_79 ⟨Nat.le_of_ble_eq_true rfl, Nat.le_of_ble_eq_true rfl⟩) (fun r9 e9 => ?_)
                  rw [e9]
                  refine lv_if_eq (tgt := 88) hx hb dX10_slipsOf_82 (by decide) (fun hc => ?_) (fun hc => ?_)
                  · replace hf := wb_t hc hf
                    obtain ⟨v7, ev7, hf⟩ := wb_v hf
                    refine lv_iinc (v := v7) (lv' := [(8, .int v7), (10, .int r3), (9, .int r2), (0, .ref (a0 0)), (1, .ref (a1 0)), (2, .ref (a2 0)), (3, .int x3), (4, .int x4), (5, .int x5), (6, .int y16_6), (7, .int y6_7)]) hx hb dX10_slipsOf_88 hl (k := 10) rfl (by rw [ev7]; rfl) (by decide) rfl (fun ls hl => ?_)
                    refine lv_goto (tgt := 16) hx hb dX10_slipsOf_91 (by decide) ?_
                    exact ih16 y16_6 v7 ls (lv_sub hl [3, 4, 5, 6, 7, 8, 9, 10, 0] rfl) hf
                  · replace hf := wb_f hc hf
                    obtain ⟨v8, ev8, hf⟩ := wb_v hf
                    refine lv_iinc (v := v8) (lv' := [(6, .int v8), (10, .int r3), (9, .int r2), (0, .ref (a0 0)), (1, .ref (a1 0)), (2, .ref (a2 0)), (3, .int x3), (4, .int x4), (5, .int x5), (7, .int y6_7), (8, .int y16_8)]) hx hb dX10_slipsOf_85 hl (k := 8) rfl (by rw [ev8]; rfl) (by decide) rfl (fun ls hl => ?_)
                    obtain ⟨v9, ev9, hf⟩ := wb_v hf
                    refine lv_iinc (v := v9) (lv' := [(8, .int v9), (6, .int v8), (10, .int r3), (9, .int r2), (0, .ref (a0 0)), (1, .ref (a1 0)), (2, .ref (a2 0)), (3, .int x3), (4, .int x4), (5, .int x5), (7, .int y6_7)]) hx hb dX10_slipsOf_88 hl (k := 10) rfl (by rw [ev9]; rfl) (by decide) rfl (fun ls hl => ?_)
                    refine lv_goto (tgt := 16) hx hb dX10_slipsOf_91 (by decide) ?_
                    exact ih16 v8 v9 ls (lv_sub hl [4, 5, 6, 7, 8, 9, 1, 10, 0] rfl) hf
        exact L16 N y6_6 (0 : Int32) ls (lv_sub hl [1, 2, 3, 4, 5, 6, 7, 8, 0] rfl) hf
  exact L6 N (0 : Int32) (0 : Int32) ls (lv_sub hl [2, 3, 4, 5, 6, 7, 1, 0] rfl) hf

set_option maxHeartbeats 4000000 in
set_option maxRecDepth 100000 in
theorem cn_X10_howManySlips (l : Launch) (D : va_G) (cB cI cZ : ClassId) (N : Nat) (a0 : Nat → Nat) (I0 : Nat → Int32) (M0 : Nat → Nat → Int32) (a1 : Nat → Nat) (I1 : Nat → Int32) (M1 : Nat → Nat → Int32) (a2 : Nat → Nat) (I2 : Nat → Int32) (M2 : Nat → Nat → Int32) (x3 : Int32) (x4 : Int32) (R : Int32) (hf : fX10_howManySlips N I0 M0 I1 M1 I2 M2 x3 x4 = some R) : Met l yX10_howManySlips wsX10_howManySlips ({ frames := 4, cells := 0, slots := 0, locals := 100 }) (va_Pc [.ref (a0 0), .ref (a1 0), .ref (a2 0), .int x3, .int x4] (wb_pre D [(cB, .byte), (cI, .int), (cZ, .boolean)] ((wWX10 cB cI cZ a0 I0 M0) ++ ((wWX4 cB cI cZ a1 I1 M1) ++ (wWX1 cB cI cZ a2 I2 M2))))) (vp_Si (fun r => r = R)) 0 0 (fun _ => False) := by
  refine Met.ofW (cc := cX10_howManySlips) (maxL := 7) (ret := (some .int)) pn_X10 rfl ?_
  intro p e s m args below meth c s₁ B hml hv
  obtain ⟨rfl, hP, hK⟩ := hv
  have hx := B.exec
  have hb := B.bytes
  have hr := B.returns
  have hts := atoms_spec (ws := wsX10_howManySlips) B.pre
  have hown : s.vm.findClass RX10 = some m.cls := (findClass_of_methodNamed B.named :)
  have hlocks := B.notSynchronized
  have hinX10 : ∀ w ∈ u_ws RX10 TX10 5, w ∈ wsX10_howManySlips := fun w h => List.mem_cons_of_mem _ (List.mem_append_left _ (List.mem_append_left _ (List.mem_append_right _ h)))
  have hl := lv_entry ([.ref (a0 0), .ref (a1 0), .ref (a2 0), .int x3, .int x4]) (n := 7) (Nat.le_of_ble_eq_true rfl)
  rw [lg_entry_eq]
  generalize (lg_sl ([.ref (a0 0), .ref (a1 0), .ref (a2 0), .int x3, .int x4]) ++ List.replicate (7 - (lg_sl ([.ref (a0 0), .ref (a1 0), .ref (a2 0), .int x3, .int x4])).length) Slot.unset).toArray = ls at hl ⊢
  have hl : lv_has ls 7 [(0, .ref (a0 0)), (1, .ref (a1 0)), (2, .ref (a2 0)), (3, .int x3), (4, .int x4)] := hl
  unfold fX10_howManySlips at hf
  refine lv_iconst (v := (0 : Int32)) hx hb dX10_howManySlips_0 (by decide) ?_
  refine lv_istore (lv' := [(5, .int (0 : Int32)), (0, .ref (a0 0)), (1, .ref (a1 0)), (2, .ref (a2 0)), (3, .int x3), (4, .int x4)]) hx hb dX10_howManySlips_1 hl (by decide) rfl (fun ls hl => ?_)
  refine lv_iconst (v := (0 : Int32)) hx hb dX10_howManySlips_3 (by decide) ?_
  refine lv_istore (lv' := [(6, .int (0 : Int32)), (5, .int (0 : Int32)), (0, .ref (a0 0)), (1, .ref (a1 0)), (2, .ref (a2 0)), (3, .int x3), (4, .int x4)]) hx hb dX10_howManySlips_4 hl (by decide) rfl (fun ls hl => ?_)
  have L6 : ∀ (fu6 : Nat) (y6_5 : Int32) (y6_6 : Int32), ∀ (ls : Array Slot), lv_has ls 7 [(0, .ref (a0 0)), (1, .ref (a1 0)), (2, .ref (a2 0)), (3, .int x3), (4, .int x4), (5, .int y6_5), (6, .int y6_6)] → fX10_howManySlips_L6 N I0 M0 I1 M1 I2 M2 x3 x4 fu6 y6_5 y6_6 = some R → W p l e (headSpec wsX10_howManySlips { frames := 4, cells := 0, slots := 0, locals := 100 }).room s m [.ref (a0 0), .ref (a1 0), .ref (a2 0), .int x3, .int x4].toArray below meth c s.heap [] 0 0 (MQ below (vp_Si (fun r => r = R)) [.ref (a0 0), .ref (a1 0), .ref (a2 0), .int x3, .int x4].toArray s 0 0 (fun _ => False)) (F0 m 6 ls []) := by
    intro fu6
    induction fu6 with
    | zero =>
      intro y6_5 y6_6 ls hl hf
      exact absurd hf (by rw [fX10_howManySlips_L6.eq_1]; exact fun h => nomatch h)
    | succ fu6 ih6 =>
      intro y6_5 y6_6 ls hl hf
      rw [fX10_howManySlips_L6.eq_2] at hf
      refine lv_iload hx hb dX10_howManySlips_6 (lv_at hl 6 rfl) ?_
      refine lv_bipush (v := (6 : Int32)) hx hb dX10_howManySlips_8 (by decide) ?_
      refine lv_icmp_ge (tgt := 45) hx hb dX10_howManySlips_10 (by decide) (fun hc => ?_) (fun hc => ?_)
      · replace hf := wb_t hc hf
        refine lv_iload hx hb dX10_howManySlips_45 (lv_at hl 5 rfl) ?_
        exact W.iret (v := y6_5) hx hb hr (fun t ht hW => ⟨_, rfl, Option.some.inj hf, ht⟩) (fun _ h => nomatch h) dX10_howManySlips_47
      · replace hf := wb_f hc hf
        refine lv_aload_n hx hb dX10_howManySlips_13 rfl (lv_at hl 0 rfl) ?_
        refine va_get (D := D) (ci := 10) (v := .ref (a0 3)) (C := RX10) (T := TX10) (N := 5) hx hb hts hinX10 hown hK hP 0 rfl rfl 2 (by decide) (hts (.fieldLink RX10 18 "WheelBook$Tree" "bestRow" "[I") (List.mem_of_getElem? (i := 1) rfl)) (fun _ h9 => h9) rfl dX10_howManySlips_14 ?_
        refine lv_iload hx hb dX10_howManySlips_17 (lv_at hl 6 rfl) ?_
        obtain ⟨hin, hf⟩ := wb_n hf
        refine va_iald hx hb hK hP 3 1 rfl rfl hin dX10_howManySlips_19 ?_
        refine lv_if_lt (tgt := 39) hx hb dX10_howManySlips_20 (by decide) (fun hc => ?_) (fun hc => ?_)
        · replace hf := wb_t hc hf
          obtain ⟨v1, ev1, hf⟩ := wb_v hf
          refine lv_iinc (v := v1) (lv' := [(6, .int v1), (0, .ref (a0 0)), (1, .ref (a1 0)), (2, .ref (a2 0)), (3, .int x3), (4, .int x4), (5, .int y6_5)]) hx hb dX10_howManySlips_39 hl (k := 6) rfl (by rw [ev1]; rfl) (by decide) rfl (fun ls hl => ?_)
          refine lv_goto (tgt := 6) hx hb dX10_howManySlips_42 (by decide) ?_
          exact ih6 y6_5 v1 ls (lv_sub hl [1, 2, 3, 4, 5, 6, 0] rfl) hf
        · replace hf := wb_f hc hf
          refine lv_iload hx hb dX10_howManySlips_23 (lv_at hl 5 rfl) ?_
          refine lv_aload_n hx hb dX10_howManySlips_25 rfl (lv_at hl 0 rfl) ?_
          refine lv_aload_n hx hb dX10_howManySlips_26 rfl (lv_at hl 1 rfl) ?_
          refine lv_aload_n hx hb dX10_howManySlips_27 rfl (lv_at hl 2 rfl) ?_
          refine lv_iload hx hb dX10_howManySlips_28 (lv_at hl 6 rfl) ?_
          refine lv_iload_n hx hb dX10_howManySlips_30 rfl (lv_at hl 3 rfl) ?_
          refine lv_iload hx hb dX10_howManySlips_31 (lv_at hl 4 rfl) ?_
          obtain ⟨r2, hr2, hf⟩ := wb_b hf
          refine vp_callSi (W.runV (As := [.ref (a1 0), .ref (a2 0), .int y6_6, .int x3, .int x4]) (rest := [.int y6_5]) ⟨hx, hb, hml, hown, hts⟩ (cn_X10_slipsOf l D cB cI cZ N a0 I0 M0 a1 I1 M1 a2 I2 M2 y6_6 x3 x4 r2 hr2) (cwV 5 hts gX10_howManySlips_X10_slipsOf rfl rfl rfl cdX10_slipsOf ⟨Nat.le_of_ble_eq_true rfl, Nat.le_of_ble_eq_true rfl⟩) (wb_preV hP hK (wr_10 hK hP (q0 := 0) rfl)) rfl rfl hl.1 rfl (lv_room (Nat.le_of_ble_eq_true rfl)) dX10_howManySlips_33 ⟨Nat.le_of_ble_eq_true rfl, Nat.le_of_ble_eq_true rfl⟩) (fun r9 e9 => ?_)
          rw [e9]
          refine lv_iadd hx hb dX10_howManySlips_36 ?_
          obtain ⟨v3, ev3, hf⟩ := wb_v hf
          refine wb_topi ev3 ?_
          refine lv_istore (lv' := [(5, .int v3), (0, .ref (a0 0)), (1, .ref (a1 0)), (2, .ref (a2 0)), (3, .int x3), (4, .int x4), (6, .int y6_6)]) hx hb dX10_howManySlips_37 hl (by decide) rfl (fun ls hl => ?_)
          obtain ⟨v4, ev4, hf⟩ := wb_v hf
          refine lv_iinc (v := v4) (lv' := [(6, .int v4), (5, .int v3), (0, .ref (a0 0)), (1, .ref (a1 0)), (2, .ref (a2 0)), (3, .int x3), (4, .int x4)]) hx hb dX10_howManySlips_39 hl (k := 6) rfl (by rw [ev4]; rfl) (by decide) rfl (fun ls hl => ?_)
          refine lv_goto (tgt := 6) hx hb dX10_howManySlips_42 (by decide) ?_
          exact ih6 v3 v4 ls (lv_sub hl [2, 3, 4, 5, 6, 1, 0] rfl) hf
  exact L6 N (0 : Int32) (0 : Int32) ls (lv_sub hl [2, 3, 4, 5, 6, 1, 0] rfl) hf

set_option maxHeartbeats 4000000 in
set_option maxRecDepth 100000 in
theorem cn_X0_init (l : Launch) (D : va_G) (cB cI cZ : ClassId) (N : Nat) (h0 sz : Nat) (R : (Nat → Int32) × (Nat → Nat → Int32)) (hf : fX0_init N = some R) : Met l yX0_init wsX0_init ({ frames := 1, cells := 1, slots := 120, locals := 12 }) (va_Pc [.ref h0] (wb_preN D [(cB, .byte), (cI, .int), (cZ, .boolean)] ([((h0, .inr (0, [.null])) : Nat × va_E)] : va_W) sz [])) (va_Qv (fun _ : Unit => True) (fun _ t => wb_postN D [(cB, .byte), (cI, .int), (cZ, .boolean)] (va_A ([((h0, .inr (0, [.null])) : Nat × va_E)] : va_W) sz) h0 (fun a => wWX0 cB cI cZ a R.1 R.2) t) (va_A ([((h0, .inr (0, [.null])) : Nat × va_E)] : va_W) sz)) 1 120 (va_A ([((h0, .inr (0, [.null])) : Nat × va_E)] : va_W) sz) := by
  refine Met.ofW (cc := cX0_init) (maxL := 1) (ret := none) pn_X0 rfl ?_
  intro p e s m args below meth c s₁ B hml hv
  obtain ⟨rfl, ⟨hsz, hP, hK, hD0⟩, hN⟩ := hv
  have hx := B.exec
  have hb := B.bytes
  have hr := B.returns
  have hts := atoms_spec (ws := wsX0_init) B.pre
  have hown : s.vm.findClass RX0 = some m.cls := (findClass_of_methodNamed B.named :)
  have hlocks := B.notSynchronized
  have hin0 : meth.name = "<init>" := (name_of_methodNamed B.named B.method).1
  have hinX0 : ∀ w ∈ u_ws RX0 TX0 1, w ∈ wsX0_init := fun w h => List.mem_cons_of_mem _ (List.mem_append_right _ h)
  subst hsz
  have hD := hD0.self (sz := s.heap.size)
  generalize hAe : va_A ([((h0, .inr (0, [.null])) : Nat × va_E)] : va_W) s.heap.size = A at hD ⊢
  have hA : ∀ q : Nat, s.heap.size ≤ q → A q := fun q h => by rw [← hAe]; exact Or.inr h
  have hl := lv_entry ([.ref h0]) (n := 1) (Nat.le_of_ble_eq_true rfl)
  rw [lg_entry_eq]
  generalize (lg_sl ([.ref h0]) ++ List.replicate (1 - (lg_sl ([.ref h0])).length) Slot.unset).toArray = ls at hl ⊢
  have hl : lv_has ls 1 [(0, .ref h0)] := hl
  unfold fX0_init at hf
  obtain ⟨H, hHe⟩ : ∃ H : Heap, H = s.heap := ⟨_, rfl⟩
  obtain ⟨locs, hle⟩ : ∃ locs : List Loc, locs = [] := ⟨_, rfl⟩
  refine wb_start (H := H) (locs := locs) hHe hle ?_
  rw [← hHe] at hP
  have hS : va_S A s.heap H locs := by rw [hHe, hle]; exact va_S.rf
  refine lv_aload_n hx hb dX0_init_0 rfl (lv_at hl 0 rfl) ?_
  refine W.objInit hx hb hown (hts (.methodLink RX0 3 objectInit) (List.mem_of_getElem? (i := 1) rfl)) (hts (.instanceMethod objectInit) (List.mem_of_getElem? (i := 2) rfl)) (hts (.code objectInit ⟨#[0xb1]⟩ 1 none) (List.mem_of_getElem? (i := 3) rfl)) rfl (by rw [hml]; exact hl.1) rfl dX0_init_1 (Nat.le_of_ble_eq_true rfl) (Nat.le_of_ble_eq_true rfl) ?_
  refine W.eq (g2 := F0 m 4 ls []) rfl ?_
  refine lv_aload_n hx hb dX0_init_4 rfl (lv_at hl 0 rfl) ?_
  refine lv_bipush (v := (120 : Int32)) hx hb dX0_init_5 (by decide) ?_
  refine wb_newa (atype := .int) (ty := .int) (cT := cI) (N' := 120) hx hb (hts (.arrayClass .int) (List.mem_of_getElem? (i := 4) rfl)) rfl hK hP hD hS hA 1 rfl wb_raI (fun _ => rfl) (by decide +kernel) (by decide +kernel) (by decide +kernel) (Nat.le_of_ble_eq_true rfl) (Nat.le_of_ble_eq_true rfl) dX0_init_7 (fun q7 H hP hD hS => ?_)
  have hP : va_P D vwCl ([((h0, .inr (0, [.null])) : Nat × va_E), ((q7, .inl (cI, 120, .inl (fun _ => (0 : Int32)))) : Nat × va_E)] : va_W) H := hP
  have hD : va_D A ([((h0, .inr (0, [.null])) : Nat × va_E), ((q7, .inl (cI, 120, .inl (fun _ => (0 : Int32)))) : Nat × va_E)] : va_W) := hD
  refine va_putF (D := D) (ci := 0) (v := .ref q7) (ty := (.array .int)) (C := RX0) (T := TX0) (N := 1) hx hb hts hinX0 tyX0 tyX0_ok nmX0 hown hK hP hD hS 0 rfl rfl 0 (by decide) (hts (.fieldLink RX0 9 "WheelBook$Births" "part" "[I") (List.mem_of_getElem? (i := 5) rfl)) (fun _ h9 => h9) rfl hin0 rfl (by decide +kernel) rfl rfl (Nat.le_of_ble_eq_true rfl) dX0_init_9 (fun H locs hP hD hS => ?_)
  have hP : va_P D vwCl ([((h0, .inr (0, [.ref q7])) : Nat × va_E), ((q7, .inl (cI, 120, .inl (fun _ => (0 : Int32)))) : Nat × va_E)] : va_W) H := hP
  have hD : va_D A ([((h0, .inr (0, [.ref q7])) : Nat × va_E), ((q7, .inl (cI, 120, .inl (fun _ => (0 : Int32)))) : Nat × va_E)] : va_W) := hD
  obtain ⟨I0_0, eI0_0, hf⟩ := wb_v hf
  obtain ⟨M0_0, eM0_0, hf⟩ := wb_v hf
  obtain ⟨a0, ea0⟩ : ∃ a0 : Nat → Nat, a0 = (fun k => ([h0, q7] : List Nat).getD k 0) := ⟨_, rfl⟩
  have hP : va_P D vwCl (wWX0 cB cI cZ a0 I0_0 M0_0) H := by rw [eI0_0, eM0_0, ea0]; exact hP.sub [0, 1] rfl
  have hD : va_D A (wWX0 cB cI cZ a0 I0_0 M0_0) := by rw [eI0_0, eM0_0, ea0]; exact hD.sub [0, 1] (by decide) rfl
  have h00 : a0 0 = h0 := by rw [ea0]; rfl
  rw [← h00] at hl
  refine W.widen (k := 1) (n := 120) (Nat.le_of_ble_eq_true rfl) (Nat.le_of_ble_eq_true rfl) ?_
  exact W.vret hx hb hr (fun t ht hW => by rw [← Option.some.inj hf]; exact ⟨⟨(), rfl, trivial, a0, h00, by rw [ht]; exact hP, va_K.moved hW.alike hK, hD⟩, hS.F ht⟩) hS.2.2 dX0_init_12

set_option maxHeartbeats 4000000 in
set_option maxRecDepth 100000 in
theorem cn_X1_init (l : Launch) (D : va_G) (cB cI cZ : ClassId) (N : Nat) (h0 sz : Nat) (R : (Nat → Int32) × (Nat → Nat → Int32)) (hf : fX1_init N = some R) : Met l yX1_init wsX1_init ({ frames := 1, cells := 2, slots := 2662, locals := 23 }) (va_Pc [.ref h0] (wb_preN D [(cB, .byte), (cI, .int), (cZ, .boolean)] ([((h0, .inr (1, [.null, .null])) : Nat × va_E)] : va_W) sz [])) (va_Qv (fun _ : Unit => True) (fun _ t => wb_postN D [(cB, .byte), (cI, .int), (cZ, .boolean)] (va_A ([((h0, .inr (1, [.null, .null])) : Nat × va_E)] : va_W) sz) h0 (fun a => wWX1 cB cI cZ a R.1 R.2) t) (va_A ([((h0, .inr (1, [.null, .null])) : Nat × va_E)] : va_W) sz)) 2 2662 (va_A ([((h0, .inr (1, [.null, .null])) : Nat × va_E)] : va_W) sz) := by
  refine Met.ofW (cc := cX1_init) (maxL := 1) (ret := none) pn_X1 rfl ?_
  intro p e s m args below meth c s₁ B hml hv
  obtain ⟨rfl, ⟨hsz, hP, hK, hD0⟩, hN⟩ := hv
  have hx := B.exec
  have hb := B.bytes
  have hr := B.returns
  have hts := atoms_spec (ws := wsX1_init) B.pre
  have hown : s.vm.findClass RX1 = some m.cls := (findClass_of_methodNamed B.named :)
  have hlocks := B.notSynchronized
  have hin0 : meth.name = "<init>" := (name_of_methodNamed B.named B.method).1
  have hinX1 : ∀ w ∈ u_ws RX1 TX1 2, w ∈ wsX1_init := fun w h => List.mem_cons_of_mem _ (List.mem_append_right _ h)
  subst hsz
  have hD := hD0.self (sz := s.heap.size)
  generalize hAe : va_A ([((h0, .inr (1, [.null, .null])) : Nat × va_E)] : va_W) s.heap.size = A at hD ⊢
  have hA : ∀ q : Nat, s.heap.size ≤ q → A q := fun q h => by rw [← hAe]; exact Or.inr h
  have hl := lv_entry ([.ref h0]) (n := 1) (Nat.le_of_ble_eq_true rfl)
  rw [lg_entry_eq]
  generalize (lg_sl ([.ref h0]) ++ List.replicate (1 - (lg_sl ([.ref h0])).length) Slot.unset).toArray = ls at hl ⊢
  have hl : lv_has ls 1 [(0, .ref h0)] := hl
  unfold fX1_init at hf
  obtain ⟨H, hHe⟩ : ∃ H : Heap, H = s.heap := ⟨_, rfl⟩
  obtain ⟨locs, hle⟩ : ∃ locs : List Loc, locs = [] := ⟨_, rfl⟩
  refine wb_start (H := H) (locs := locs) hHe hle ?_
  rw [← hHe] at hP
  have hS : va_S A s.heap H locs := by rw [hHe, hle]; exact va_S.rf
  refine lv_aload_n hx hb dX1_init_0 rfl (lv_at hl 0 rfl) ?_
  refine W.objInit hx hb hown (hts (.methodLink RX1 3 objectInit) (List.mem_of_getElem? (i := 1) rfl)) (hts (.instanceMethod objectInit) (List.mem_of_getElem? (i := 2) rfl)) (hts (.code objectInit ⟨#[0xb1]⟩ 1 none) (List.mem_of_getElem? (i := 3) rfl)) rfl (by rw [hml]; exact hl.1) rfl dX1_init_1 (Nat.le_of_ble_eq_true rfl) (Nat.le_of_ble_eq_true rfl) ?_
  refine W.eq (g2 := F0 m 4 ls []) rfl ?_
  refine lv_aload_n hx hb dX1_init_4 rfl (lv_at hl 0 rfl) ?_
  refine lv_sipush (v := (2640 : Int32)) hx hb dX1_init_5 (by decide) ?_
  refine wb_newa (atype := .int) (ty := .int) (cT := cI) (N' := 2640) hx hb (hts (.arrayClass .int) (List.mem_of_getElem? (i := 4) rfl)) rfl hK hP hD hS hA 1 rfl wb_raI (fun _ => rfl) (by decide +kernel) (by decide +kernel) (by decide +kernel) (Nat.le_of_ble_eq_true rfl) (Nat.le_of_ble_eq_true rfl) dX1_init_8 (fun q8 H hP hD hS => ?_)
  have hP : va_P D vwCl ([((h0, .inr (1, [.null, .null])) : Nat × va_E), ((q8, .inl (cI, 2640, .inl (fun _ => (0 : Int32)))) : Nat × va_E)] : va_W) H := hP
  have hD : va_D A ([((h0, .inr (1, [.null, .null])) : Nat × va_E), ((q8, .inl (cI, 2640, .inl (fun _ => (0 : Int32)))) : Nat × va_E)] : va_W) := hD
  refine va_putF (D := D) (ci := 1) (v := .ref q8) (ty := (.array .int)) (C := RX1) (T := TX1) (N := 2) hx hb hts hinX1 tyX1 tyX1_ok nmX1 hown hK hP hD hS 0 rfl rfl 0 (by decide) (hts (.fieldLink RX1 9 "WheelBook$Books" "degrees" "[I") (List.mem_of_getElem? (i := 5) rfl)) (fun _ h9 => h9) rfl hin0 rfl (by decide +kernel) rfl rfl (Nat.le_of_ble_eq_true rfl) dX1_init_10 (fun H locs hP hD hS => ?_)
  have hP : va_P D vwCl ([((h0, .inr (1, [.ref q8, .null])) : Nat × va_E), ((q8, .inl (cI, 2640, .inl (fun _ => (0 : Int32)))) : Nat × va_E)] : va_W) H := hP
  have hD : va_D A ([((h0, .inr (1, [.ref q8, .null])) : Nat × va_E), ((q8, .inl (cI, 2640, .inl (fun _ => (0 : Int32)))) : Nat × va_E)] : va_W) := hD
  refine lv_aload_n hx hb dX1_init_13 rfl (lv_at hl 0 rfl) ?_
  refine lv_bipush (v := (22 : Int32)) hx hb dX1_init_14 (by decide) ?_
  refine wb_newa (atype := .int) (ty := .int) (cT := cI) (N' := 22) hx hb (hts (.arrayClass .int) (List.mem_of_getElem? (i := 4) rfl)) rfl hK hP hD hS hA 1 rfl wb_raI (fun _ => rfl) (by decide +kernel) (by decide +kernel) (by decide +kernel) (Nat.le_of_ble_eq_true rfl) (Nat.le_of_ble_eq_true rfl) dX1_init_16 (fun q16 H hP hD hS => ?_)
  have hP : va_P D vwCl ([((h0, .inr (1, [.ref q8, .null])) : Nat × va_E), ((q8, .inl (cI, 2640, .inl (fun _ => (0 : Int32)))) : Nat × va_E), ((q16, .inl (cI, 22, .inl (fun _ => (0 : Int32)))) : Nat × va_E)] : va_W) H := hP
  have hD : va_D A ([((h0, .inr (1, [.ref q8, .null])) : Nat × va_E), ((q8, .inl (cI, 2640, .inl (fun _ => (0 : Int32)))) : Nat × va_E), ((q16, .inl (cI, 22, .inl (fun _ => (0 : Int32)))) : Nat × va_E)] : va_W) := hD
  refine va_putF (D := D) (ci := 1) (v := .ref q16) (ty := (.array .int)) (C := RX1) (T := TX1) (N := 2) hx hb hts hinX1 tyX1 tyX1_ok nmX1 hown hK hP hD hS 0 rfl rfl 1 (by decide) (hts (.fieldLink RX1 15 "WheelBook$Books" "draft" "[I") (List.mem_of_getElem? (i := 6) rfl)) (fun _ h9 => h9) rfl hin0 rfl (by decide +kernel) rfl rfl (Nat.le_of_ble_eq_true rfl) dX1_init_18 (fun H locs hP hD hS => ?_)
  have hP : va_P D vwCl ([((h0, .inr (1, [.ref q8, .ref q16])) : Nat × va_E), ((q8, .inl (cI, 2640, .inl (fun _ => (0 : Int32)))) : Nat × va_E), ((q16, .inl (cI, 22, .inl (fun _ => (0 : Int32)))) : Nat × va_E)] : va_W) H := hP
  have hD : va_D A ([((h0, .inr (1, [.ref q8, .ref q16])) : Nat × va_E), ((q8, .inl (cI, 2640, .inl (fun _ => (0 : Int32)))) : Nat × va_E), ((q16, .inl (cI, 22, .inl (fun _ => (0 : Int32)))) : Nat × va_E)] : va_W) := hD
  obtain ⟨I0_0, eI0_0, hf⟩ := wb_v hf
  obtain ⟨M0_0, eM0_0, hf⟩ := wb_v hf
  obtain ⟨a0, ea0⟩ : ∃ a0 : Nat → Nat, a0 = (fun k => ([h0, q8, q16] : List Nat).getD k 0) := ⟨_, rfl⟩
  have hP : va_P D vwCl (wWX1 cB cI cZ a0 I0_0 M0_0) H := by rw [eI0_0, eM0_0, ea0]; exact hP.sub [0, 1, 2] rfl
  have hD : va_D A (wWX1 cB cI cZ a0 I0_0 M0_0) := by rw [eI0_0, eM0_0, ea0]; exact hD.sub [0, 1, 2] (by decide) rfl
  have h00 : a0 0 = h0 := by rw [ea0]; rfl
  rw [← h00] at hl
  refine W.widen (k := 2) (n := 2662) (Nat.le_of_ble_eq_true rfl) (Nat.le_of_ble_eq_true rfl) ?_
  refine lv_aload_n hx hb dX1_init_21 rfl (lv_at hl 0 rfl) ?_
  refine va_get (D := D) (ci := 1) (v := .ref (a0 1)) (C := RX1) (T := TX1) (N := 2) hx hb hts hinX1 hown hK hP 0 rfl rfl 0 (by decide) (hts (.fieldLink RX1 9 "WheelBook$Books" "degrees" "[I") (List.mem_of_getElem? (i := 5) rfl)) (fun _ h9 => h9) rfl dX1_init_22 ?_
  refine lv_iconst (v := (-1 : Int32)) hx hb dX1_init_25 (by decide) ?_
  obtain ⟨r1, hr1, hf⟩ := wb_b hf
  have hPc := hP.sub (ws' := ([(((a0 1), .inl (cI, 2640, .inl (M0_0 0))) : Nat × va_E)] : va_W)) [1] rfl
  have hDc := hD.sub (ws' := ([(((a0 1), .inl (cI, 2640, .inl (M0_0 0))) : Nat × va_E)] : va_W)) [1] (by decide) rfl
  have hFc := va_free (wc := ([(((a0 1), .inl (cI, 2640, .inl (M0_0 0))) : Nat × va_E)] : va_W)) hD hS hA [1] rfl
  refine va_callv (va_runS (As := [.ref (a0 1), .int (-1 : Int32)]) (rest := []) ⟨hx, hb, hml, hown, hts⟩ (cn_J7_fill_53178 l D cB cI cZ N (a0 1) 2640 (M0_0 0) (-1 : Int32) H.size r1 hr1) (va_cwS 2 hts gX1_init_J7_fill_53178 rfl rfl rfl csJ7_fill_53178 ⟨Nat.le_of_ble_eq_true rfl, Nat.le_of_ble_eq_true rfl⟩) (wb_preDS hPc hK hDc) rfl rfl hl.1 rfl (lv_room (Nat.le_of_ble_eq_true rfl)) dX1_init_26 ⟨Nat.le_of_ble_eq_true rfl, Nat.le_of_ble_eq_true rfl⟩) hS (fun q _ h => hFc q h) hFc (fun u t H locs ht hvm hw hB hz1 hk1 hS => ?_)
  obtain ⟨hP, hD⟩ := wj_s (wc := ([(((a0 1), .inl (cI, 2640, .inl (M0_0 0))) : Nat × va_E)] : va_W)) (w1 := ([(((a0 1), .inl (cI, 2640, .inl r1)) : Nat × va_E)] : va_W)) (wf := (wWX1 cB cI cZ a0 I0_0 (wb_mm M0_0 0 r1))) 1 2 hP hD rfl rfl hk1 hFc ht hB
  obtain ⟨M0_2, eM0_2, hf⟩ := wb_v hf
  rw [← eM0_2] at hP hD
  exact W.vret hx hb hr (fun t ht hW => by rw [← Option.some.inj hf]; exact ⟨⟨(), rfl, trivial, a0, h00, by rw [ht]; exact hP, va_K.moved hW.alike hK, hD⟩, hS.F ht⟩) hS.2.2 dX1_init_29

set_option maxHeartbeats 4000000 in
set_option maxRecDepth 100000 in
theorem cn_X2_init (l : Launch) (D : va_G) (cB cI cZ : ClassId) (N : Nat) (h0 sz : Nat) (R : (Nat → Int32) × (Nat → Nat → Int32)) (hf : fX2_init N = some R) : Met l yX2_init wsX2_init ({ frames := 1, cells := 1, slots := 91, locals := 12 }) (va_Pc [.ref h0] (wb_preN D [(cB, .byte), (cI, .int), (cZ, .boolean)] ([((h0, .inr (2, [.null, .int 0])) : Nat × va_E)] : va_W) sz [])) (va_Qv (fun _ : Unit => True) (fun _ t => wb_postN D [(cB, .byte), (cI, .int), (cZ, .boolean)] (va_A ([((h0, .inr (2, [.null, .int 0])) : Nat × va_E)] : va_W) sz) h0 (fun a => wWX2 cB cI cZ a R.1 R.2) t) (va_A ([((h0, .inr (2, [.null, .int 0])) : Nat × va_E)] : va_W) sz)) 1 91 (va_A ([((h0, .inr (2, [.null, .int 0])) : Nat × va_E)] : va_W) sz) := by
  refine Met.ofW (cc := cX2_init) (maxL := 1) (ret := none) pn_X2 rfl ?_
  intro p e s m args below meth c s₁ B hml hv
  obtain ⟨rfl, ⟨hsz, hP, hK, hD0⟩, hN⟩ := hv
  have hx := B.exec
  have hb := B.bytes
  have hr := B.returns
  have hts := atoms_spec (ws := wsX2_init) B.pre
  have hown : s.vm.findClass RX2 = some m.cls := (findClass_of_methodNamed B.named :)
  have hlocks := B.notSynchronized
  have hin0 : meth.name = "<init>" := (name_of_methodNamed B.named B.method).1
  have hinX2 : ∀ w ∈ u_ws RX2 TX2 2, w ∈ wsX2_init := fun w h => List.mem_cons_of_mem _ (List.mem_append_right _ h)
  subst hsz
  have hD := hD0.self (sz := s.heap.size)
  generalize hAe : va_A ([((h0, .inr (2, [.null, .int 0])) : Nat × va_E)] : va_W) s.heap.size = A at hD ⊢
  have hA : ∀ q : Nat, s.heap.size ≤ q → A q := fun q h => by rw [← hAe]; exact Or.inr h
  have hl := lv_entry ([.ref h0]) (n := 1) (Nat.le_of_ble_eq_true rfl)
  rw [lg_entry_eq]
  generalize (lg_sl ([.ref h0]) ++ List.replicate (1 - (lg_sl ([.ref h0])).length) Slot.unset).toArray = ls at hl ⊢
  have hl : lv_has ls 1 [(0, .ref h0)] := hl
  unfold fX2_init at hf
  obtain ⟨H, hHe⟩ : ∃ H : Heap, H = s.heap := ⟨_, rfl⟩
  obtain ⟨locs, hle⟩ : ∃ locs : List Loc, locs = [] := ⟨_, rfl⟩
  refine wb_start (H := H) (locs := locs) hHe hle ?_
  rw [← hHe] at hP
  have hS : va_S A s.heap H locs := by rw [hHe, hle]; exact va_S.rf
  refine lv_aload_n hx hb dX2_init_0 rfl (lv_at hl 0 rfl) ?_
  refine W.objInit hx hb hown (hts (.methodLink RX2 3 objectInit) (List.mem_of_getElem? (i := 1) rfl)) (hts (.instanceMethod objectInit) (List.mem_of_getElem? (i := 2) rfl)) (hts (.code objectInit ⟨#[0xb1]⟩ 1 none) (List.mem_of_getElem? (i := 3) rfl)) rfl (by rw [hml]; exact hl.1) rfl dX2_init_1 (Nat.le_of_ble_eq_true rfl) (Nat.le_of_ble_eq_true rfl) ?_
  refine W.eq (g2 := F0 m 4 ls []) rfl ?_
  refine lv_aload_n hx hb dX2_init_4 rfl (lv_at hl 0 rfl) ?_
  refine lv_bipush (v := (91 : Int32)) hx hb dX2_init_5 (by decide) ?_
  refine wb_newa (atype := .int) (ty := .int) (cT := cI) (N' := 91) hx hb (hts (.arrayClass .int) (List.mem_of_getElem? (i := 4) rfl)) rfl hK hP hD hS hA 1 rfl wb_raI (fun _ => rfl) (by decide +kernel) (by decide +kernel) (by decide +kernel) (Nat.le_of_ble_eq_true rfl) (Nat.le_of_ble_eq_true rfl) dX2_init_7 (fun q7 H hP hD hS => ?_)
  have hP : va_P D vwCl ([((h0, .inr (2, [.null, .int 0])) : Nat × va_E), ((q7, .inl (cI, 91, .inl (fun _ => (0 : Int32)))) : Nat × va_E)] : va_W) H := hP
  have hD : va_D A ([((h0, .inr (2, [.null, .int 0])) : Nat × va_E), ((q7, .inl (cI, 91, .inl (fun _ => (0 : Int32)))) : Nat × va_E)] : va_W) := hD
  refine va_putF (D := D) (ci := 2) (v := .ref q7) (ty := (.array .int)) (C := RX2) (T := TX2) (N := 2) hx hb hts hinX2 tyX2 tyX2_ok nmX2 hown hK hP hD hS 0 rfl rfl 0 (by decide) (hts (.fieldLink RX2 11 "WheelBook$Climates" "ahead" "[I") (List.mem_of_getElem? (i := 5) rfl)) (fun _ h9 => h9) rfl hin0 rfl (by decide +kernel) rfl rfl (Nat.le_of_ble_eq_true rfl) dX2_init_9 (fun H locs hP hD hS => ?_)
  have hP : va_P D vwCl ([((h0, .inr (2, [.ref q7, .int 0])) : Nat × va_E), ((q7, .inl (cI, 91, .inl (fun _ => (0 : Int32)))) : Nat × va_E)] : va_W) H := hP
  have hD : va_D A ([((h0, .inr (2, [.ref q7, .int 0])) : Nat × va_E), ((q7, .inl (cI, 91, .inl (fun _ => (0 : Int32)))) : Nat × va_E)] : va_W) := hD
  obtain ⟨I0_0, eI0_0, hf⟩ := wb_v hf
  obtain ⟨M0_0, eM0_0, hf⟩ := wb_v hf
  obtain ⟨a0, ea0⟩ : ∃ a0 : Nat → Nat, a0 = (fun k => ([h0, q7] : List Nat).getD k 0) := ⟨_, rfl⟩
  have hP : va_P D vwCl (wWX2 cB cI cZ a0 I0_0 M0_0) H := by rw [eI0_0, eM0_0, ea0]; exact hP.sub [0, 1] rfl
  have hD : va_D A (wWX2 cB cI cZ a0 I0_0 M0_0) := by rw [eI0_0, eM0_0, ea0]; exact hD.sub [0, 1] (by decide) rfl
  have h00 : a0 0 = h0 := by rw [ea0]; rfl
  rw [← h00] at hl
  refine W.widen (k := 1) (n := 91) (Nat.le_of_ble_eq_true rfl) (Nat.le_of_ble_eq_true rfl) ?_
  exact W.vret hx hb hr (fun t ht hW => by rw [← Option.some.inj hf]; exact ⟨⟨(), rfl, trivial, a0, h00, by rw [ht]; exact hP, va_K.moved hW.alike hK, hD⟩, hS.F ht⟩) hS.2.2 dX2_init_12

set_option maxHeartbeats 4000000 in
set_option maxRecDepth 100000 in
theorem cn_X3_init (l : Launch) (D : va_G) (cB cI cZ : ClassId) (N : Nat) (h0 sz : Nat) (R : (Nat → Int32) × (Nat → Nat → Int32)) (hf : fX3_init N = some R) : Met l yX3_init wsX3_init ({ frames := 1, cells := 1, slots := 7, locals := 12 }) (va_Pc [.ref h0] (wb_preN D [(cB, .byte), (cI, .int), (cZ, .boolean)] ([((h0, .inr (3, [.null])) : Nat × va_E)] : va_W) sz [])) (va_Qv (fun _ : Unit => True) (fun _ t => wb_postN D [(cB, .byte), (cI, .int), (cZ, .boolean)] (va_A ([((h0, .inr (3, [.null])) : Nat × va_E)] : va_W) sz) h0 (fun a => wWX3 cB cI cZ a R.1 R.2) t) (va_A ([((h0, .inr (3, [.null])) : Nat × va_E)] : va_W) sz)) 1 7 (va_A ([((h0, .inr (3, [.null])) : Nat × va_E)] : va_W) sz) := by
  refine Met.ofW (cc := cX3_init) (maxL := 1) (ret := none) pn_X3 rfl ?_
  intro p e s m args below meth c s₁ B hml hv
  obtain ⟨rfl, ⟨hsz, hP, hK, hD0⟩, hN⟩ := hv
  have hx := B.exec
  have hb := B.bytes
  have hr := B.returns
  have hts := atoms_spec (ws := wsX3_init) B.pre
  have hown : s.vm.findClass RX3 = some m.cls := (findClass_of_methodNamed B.named :)
  have hlocks := B.notSynchronized
  have hin0 : meth.name = "<init>" := (name_of_methodNamed B.named B.method).1
  have hinX3 : ∀ w ∈ u_ws RX3 TX3 1, w ∈ wsX3_init := fun w h => List.mem_cons_of_mem _ (List.mem_append_right _ h)
  subst hsz
  have hD := hD0.self (sz := s.heap.size)
  generalize hAe : va_A ([((h0, .inr (3, [.null])) : Nat × va_E)] : va_W) s.heap.size = A at hD ⊢
  have hA : ∀ q : Nat, s.heap.size ≤ q → A q := fun q h => by rw [← hAe]; exact Or.inr h
  have hl := lv_entry ([.ref h0]) (n := 1) (Nat.le_of_ble_eq_true rfl)
  rw [lg_entry_eq]
  generalize (lg_sl ([.ref h0]) ++ List.replicate (1 - (lg_sl ([.ref h0])).length) Slot.unset).toArray = ls at hl ⊢
  have hl : lv_has ls 1 [(0, .ref h0)] := hl
  unfold fX3_init at hf
  obtain ⟨H, hHe⟩ : ∃ H : Heap, H = s.heap := ⟨_, rfl⟩
  obtain ⟨locs, hle⟩ : ∃ locs : List Loc, locs = [] := ⟨_, rfl⟩
  refine wb_start (H := H) (locs := locs) hHe hle ?_
  rw [← hHe] at hP
  have hS : va_S A s.heap H locs := by rw [hHe, hle]; exact va_S.rf
  refine lv_aload_n hx hb dX3_init_0 rfl (lv_at hl 0 rfl) ?_
  refine W.objInit hx hb hown (hts (.methodLink RX3 3 objectInit) (List.mem_of_getElem? (i := 1) rfl)) (hts (.instanceMethod objectInit) (List.mem_of_getElem? (i := 2) rfl)) (hts (.code objectInit ⟨#[0xb1]⟩ 1 none) (List.mem_of_getElem? (i := 3) rfl)) rfl (by rw [hml]; exact hl.1) rfl dX3_init_1 (Nat.le_of_ble_eq_true rfl) (Nat.le_of_ble_eq_true rfl) ?_
  refine W.eq (g2 := F0 m 4 ls []) rfl ?_
  refine lv_aload_n hx hb dX3_init_4 rfl (lv_at hl 0 rfl) ?_
  refine lv_bipush (v := (7 : Int32)) hx hb dX3_init_5 (by decide) ?_
  refine wb_newa (atype := .int) (ty := .int) (cT := cI) (N' := 7) hx hb (hts (.arrayClass .int) (List.mem_of_getElem? (i := 4) rfl)) rfl hK hP hD hS hA 1 rfl wb_raI (fun _ => rfl) (by decide +kernel) (by decide +kernel) (by decide +kernel) (Nat.le_of_ble_eq_true rfl) (Nat.le_of_ble_eq_true rfl) dX3_init_7 (fun q7 H hP hD hS => ?_)
  have hP : va_P D vwCl ([((h0, .inr (3, [.null])) : Nat × va_E), ((q7, .inl (cI, 7, .inl (fun _ => (0 : Int32)))) : Nat × va_E)] : va_W) H := hP
  have hD : va_D A ([((h0, .inr (3, [.null])) : Nat × va_E), ((q7, .inl (cI, 7, .inl (fun _ => (0 : Int32)))) : Nat × va_E)] : va_W) := hD
  refine va_putF (D := D) (ci := 3) (v := .ref q7) (ty := (.array .int)) (C := RX3) (T := TX3) (N := 1) hx hb hts hinX3 tyX3 tyX3_ok nmX3 hown hK hP hD hS 0 rfl rfl 0 (by decide) (hts (.fieldLink RX3 9 "WheelBook$Fit" "sharers" "[I") (List.mem_of_getElem? (i := 5) rfl)) (fun _ h9 => h9) rfl hin0 rfl (by decide +kernel) rfl rfl (Nat.le_of_ble_eq_true rfl) dX3_init_9 (fun H locs hP hD hS => ?_)
  have hP : va_P D vwCl ([((h0, .inr (3, [.ref q7])) : Nat × va_E), ((q7, .inl (cI, 7, .inl (fun _ => (0 : Int32)))) : Nat × va_E)] : va_W) H := hP
  have hD : va_D A ([((h0, .inr (3, [.ref q7])) : Nat × va_E), ((q7, .inl (cI, 7, .inl (fun _ => (0 : Int32)))) : Nat × va_E)] : va_W) := hD
  obtain ⟨I0_0, eI0_0, hf⟩ := wb_v hf
  obtain ⟨M0_0, eM0_0, hf⟩ := wb_v hf
  obtain ⟨a0, ea0⟩ : ∃ a0 : Nat → Nat, a0 = (fun k => ([h0, q7] : List Nat).getD k 0) := ⟨_, rfl⟩
  have hP : va_P D vwCl (wWX3 cB cI cZ a0 I0_0 M0_0) H := by rw [eI0_0, eM0_0, ea0]; exact hP.sub [0, 1] rfl
  have hD : va_D A (wWX3 cB cI cZ a0 I0_0 M0_0) := by rw [eI0_0, eM0_0, ea0]; exact hD.sub [0, 1] (by decide) rfl
  have h00 : a0 0 = h0 := by rw [ea0]; rfl
  rw [← h00] at hl
  refine W.widen (k := 1) (n := 7) (Nat.le_of_ble_eq_true rfl) (Nat.le_of_ble_eq_true rfl) ?_
  exact W.vret hx hb hr (fun t ht hW => by rw [← Option.some.inj hf]; exact ⟨⟨(), rfl, trivial, a0, h00, by rw [ht]; exact hP, va_K.moved hW.alike hK, hD⟩, hS.F ht⟩) hS.2.2 dX3_init_12
