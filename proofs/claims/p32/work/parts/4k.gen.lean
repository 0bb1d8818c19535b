set_option maxHeartbeats 4000000 in
set_option maxRecDepth 100000 in
theorem cn_X12_count (l : Launch) (D : va_G) (cB cI cZ : ClassId) (N : Nat) (a0 : Nat → Nat) (I0 : Nat → Int32) (L0 : Int64) (M0 : Nat → Nat → Int32) (x1 : Int32) (sz : Nat) (R : Int32 × (Nat → Int32) × Int64 × (Nat → Nat → Int32)) (hf : fX12_count N I0 L0 M0 x1 = some R) : Met l yX12_count wsX12_count ({ frames := 2, cells := 0, slots := 0, locals := 45 }) (va_Pc [.ref (a0 0), .int x1] (wb_preD D [(cB, .byte), (cI, .int), (cZ, .boolean)] (wWX12 cB cI cZ a0 I0 L0 M0) sz)) (va_Qi (fun r (_ : Unit) => r = R.1) (fun _ t => wb_post D [(cB, .byte), (cI, .int), (cZ, .boolean)] (va_A (wWX12 cB cI cZ a0 I0 L0 M0) sz) (wWX12 cB cI cZ a0 R.2.1 R.2.2.1 R.2.2.2) t) (va_A (wWX12 cB cI cZ a0 I0 L0 M0) sz)) 0 0 (va_A (wWX12 cB cI cZ a0 I0 L0 M0) sz) := by
  refine Met.ofW (cc := cX12_count) (maxL := 4) (ret := (some .int)) pn_X12 rfl ?_
  intro p e s m args below meth c s₁ B hml hv
  obtain ⟨rfl, hsz, hP, hK, hD0⟩ := hv
  have hx := B.exec
  have hb := B.bytes
  have hr := B.returns
  have hts := atoms_spec (ws := wsX12_count) B.pre
  have hown : s.vm.findClass RX12 = some m.cls := (findClass_of_methodNamed B.named :)
  have hlocks := B.notSynchronized
  have hinX12 : ∀ w ∈ u_ws RX12 TX12 58, w ∈ wsX12_count := fun w h => List.mem_cons_of_mem _ (List.mem_append_right _ h)
  subst hsz
  have hD := hD0.self (sz := s.heap.size)
  generalize hAe : va_A (wWX12 cB cI cZ a0 I0 L0 M0) s.heap.size = A at hD ⊢
  have hA : ∀ q : Nat, s.heap.size ≤ q → A q := fun q h => by rw [← hAe]; exact Or.inr h
  have hS : va_S A s.heap s.heap [] := va_S.rf
  have hl := lv_entry ([.ref (a0 0), .int x1]) (n := 4) (Nat.le_of_ble_eq_true rfl)
  rw [lg_entry_eq]
  generalize (lg_sl ([.ref (a0 0), .int x1]) ++ List.replicate (4 - (lg_sl ([.ref (a0 0), .int x1])).length) Slot.unset).toArray = ls at hl ⊢
  have hl : lv_has ls 4 [(0, .ref (a0 0)), (1, .int x1)] := hl
  unfold fX12_count at hf
  obtain ⟨H, hHe⟩ : ∃ H : Heap, H = s.heap := ⟨_, rfl⟩
  obtain ⟨locs, hle⟩ : ∃ locs : List Loc, locs = [] := ⟨_, rfl⟩
  refine wb_start (H := H) (locs := locs) hHe hle ?_
  rw [← hHe] at hP
  have hS : va_S A s.heap H locs := by rw [hHe, hle]; exact va_S.rf
  have J79 : ∀ (I0_j79 : Nat → Int32) (L0_j79 : Int64) (M0_j79 : Nat → Nat → Int32) (y79_2 : Int32) (H : Heap) (locs : List Loc), va_P D vwCl (wWX12 cB cI cZ a0 I0_j79 L0_j79 M0_j79) H → va_D A (wWX12 cB cI cZ a0 I0_j79 L0_j79 M0_j79) → va_S A s.heap H locs → ∀ (ls : Array Slot), lv_has ls 4 [(0, .ref (a0 0)), (1, .int x1), (2, .int y79_2)] → fX12_count_J79 N x1 I0_j79 L0_j79 M0_j79 y79_2 = some R → W p l e (headSpec wsX12_count { frames := 2, cells := 0, slots := 0, locals := 45 }).room s m [.ref (a0 0), .int x1].toArray below meth c H locs 0 0 (MQ below (va_Qi (fun r (_ : Unit) => r = R.1) (fun _ t => wb_post D [(cB, .byte), (cI, .int), (cZ, .boolean)] A (wWX12 cB cI cZ a0 R.2.1 R.2.2.1 R.2.2.2) t) A) [.ref (a0 0), .int x1].toArray s 0 0 A) (F0 m 79 ls []) := by
    intro I0_j79 L0_j79 M0_j79 y79_2 H locs hP hD hS ls hl hf
    unfold fX12_count_J79 at hf
    refine lv_iconst (v := (0 : Int32)) hx hb dX12_count_79 (by decide) ?_
    refine lv_istore_n (lv' := [(3, .int (0 : Int32)), (0, .ref (a0 0)), (1, .int x1), (2, .int y79_2)]) hx hb dX12_count_80 rfl hl (by decide) rfl (fun ls hl => ?_)
    have Lh81 : ∀ (fu81 : Nat) (I0_l81 : Nat → Int32) (L0_l81 : Int64) (M0_l81 : Nat → Nat → Int32) (y81_2 : Int32) (y81_3 : Int32) (H : Heap) (locs : List Loc), va_P D vwCl (wWX12 cB cI cZ a0 I0_l81 L0_l81 M0_l81) H → va_D A (wWX12 cB cI cZ a0 I0_l81 L0_l81 M0_l81) → va_S A s.heap H locs → ∀ (ls : Array Slot), lv_has ls 4 [(0, .ref (a0 0)), (1, .int x1), (2, .int y81_2), (3, .int y81_3)] → fX12_count_L81 N x1 fu81 I0_l81 L0_l81 M0_l81 y81_2 y81_3 = some R → W p l e (headSpec wsX12_count { frames := 2, cells := 0, slots := 0, locals := 45 }).room s m [.ref (a0 0), .int x1].toArray below meth c H locs 0 0 (MQ below (va_Qi (fun r (_ : Unit) => r = R.1) (fun _ t => wb_post D [(cB, .byte), (cI, .int), (cZ, .boolean)] A (wWX12 cB cI cZ a0 R.2.1 R.2.2.1 R.2.2.2) t) A) [.ref (a0 0), .int x1].toArray s 0 0 A) (F0 m 81 ls []) := by
      intro fu81
      induction fu81 with
      | zero =>
        intro I0_l81 L0_l81 M0_l81 y81_2 y81_3 H locs hP hD hS ls hl hf
        exact absurd hf (by rw [fX12_count_L81.eq_1]; exact fun h => nomatch h)
      | succ fu81 ih81 =>
        have J103 : ∀ (I0_j103 : Nat → Int32) (L0_j103 : Int64) (M0_j103 : Nat → Nat → Int32) (y103_3 : Int32) (z103_0 : Int32) (H : Heap) (locs : List Loc), va_P D vwCl (wWX12 cB cI cZ a0 I0_j103 L0_j103 M0_j103) H → va_D A (wWX12 cB cI cZ a0 I0_j103 L0_j103 M0_j103) → va_S A s.heap H locs → ∀ (ls : Array Slot), lv_has ls 4 [(0, .ref (a0 0)), (1, .int x1), (3, .int y103_3)] → fX12_count_J103 N x1 (fX12_count_L81 N x1 fu81) I0_j103 L0_j103 M0_j103 y103_3 z103_0 = some R → W p l e (headSpec wsX12_count { frames := 2, cells := 0, slots := 0, locals := 45 }).room s m [.ref (a0 0), .int x1].toArray below meth c H locs 0 0 (MQ below (va_Qi (fun r (_ : Unit) => r = R.1) (fun _ t => wb_post D [(cB, .byte), (cI, .int), (cZ, .boolean)] A (wWX12 cB cI cZ a0 R.2.1 R.2.2.1 R.2.2.2) t) A) [.ref (a0 0), .int x1].toArray s 0 0 A) (F0 m 103 ls [.int z103_0]) := by
          intro I0_j103 L0_j103 M0_j103 y103_3 z103_0 H locs hP hD hS ls hl hf
          unfold fX12_count_J103 at hf
          refine lv_iload_n hx hb dX12_count_103 rfl (lv_at hl 1 rfl) ?_
          refine lv_iconst (v := (5 : Int32)) hx hb dX12_count_104 (by decide) ?_
          refine lv_icmp_ne (tgt := 122) hx hb dX12_count_105 (by decide) (fun hc => ?_) (fun hc => ?_)
          · replace hf := wb_f hc hf
            refine lv_iconst (v := (0 : Int32)) hx hb dX12_count_122 (by decide) ?_
            refine lv_iadd hx hb dX12_count_123 ?_
            obtain ⟨v1, ev1, hf⟩ := wb_v hf
            refine wb_topi ev1 ?_
            refine lv_istore_n (lv' := [(2, .int v1), (0, .ref (a0 0)), (1, .int x1), (3, .int y103_3)]) hx hb dX12_count_124 rfl hl (by decide) rfl (fun ls hl => ?_)
            obtain ⟨v2, ev2, hf⟩ := wb_v hf
            refine lv_iinc (v := v2) (lv' := [(3, .int v2), (2, .int v1), (0, .ref (a0 0)), (1, .int x1)]) hx hb dX12_count_125 hl (k := 3) rfl (by rw [ev2]; rfl) (by decide) rfl (fun ls hl => ?_)
            refine lv_goto (tgt := 81) hx hb dX12_count_128 (by decide) ?_
            exact ih81 I0_j103 L0_j103 M0_j103 v1 v2 H locs hP hD hS ls (lv_sub hl [2, 3, 1, 0] rfl) hf
          · replace hf := wb_t hc hf
            refine lv_aload_n hx hb dX12_count_108 rfl (lv_at hl 0 rfl) ?_
            refine va_get (D := D) (ci := 12) (v := .ref (a0 35)) (C := RX12) (T := TX12) (N := 58) hx hb hts hinX12 hown hK hP 0 rfl rfl 54 (by decide) (hts (.fieldLink RX12 120 "WheelBookModel" "fate" "[I") (List.mem_of_getElem? (i := 5) rfl)) (fun _ h9 => h9) rfl dX12_count_109 ?_
            refine lv_iload_n hx hb dX12_count_112 rfl (lv_at hl 2 rfl) ?_
            obtain ⟨hin, hf⟩ := wb_n hf
            refine va_iald hx hb hK hP 35 1 rfl rfl hin dX12_count_113 ?_
            refine lv_iconst (v := (-1 : Int32)) hx hb dX12_count_114 (by decide) ?_
            refine lv_icmp_eq (tgt := 122) hx hb dX12_count_115 (by decide) (fun hc => ?_) (fun hc => ?_)
            · replace hf := wb_t hc hf
              refine lv_iconst (v := (0 : Int32)) hx hb dX12_count_122 (by decide) ?_
              refine lv_iadd hx hb dX12_count_123 ?_
              obtain ⟨v3, ev3, hf⟩ := wb_v hf
              refine wb_topi ev3 ?_
              refine lv_istore_n (lv' := [(2, .int v3), (0, .ref (a0 0)), (1, .int x1), (3, .int y103_3)]) hx hb dX12_count_124 rfl hl (by decide) rfl (fun ls hl => ?_)
              obtain ⟨v4, ev4, hf⟩ := wb_v hf
              refine lv_iinc (v := v4) (lv' := [(3, .int v4), (2, .int v3), (0, .ref (a0 0)), (1, .int x1)]) hx hb dX12_count_125 hl (k := 3) rfl (by rw [ev4]; rfl) (by decide) rfl (fun ls hl => ?_)
              refine lv_goto (tgt := 81) hx hb dX12_count_128 (by decide) ?_
              exact ih81 I0_j103 L0_j103 M0_j103 v3 v4 H locs hP hD hS ls (lv_sub hl [2, 3, 1, 0] rfl) hf
            · replace hf := wb_f hc hf
              refine lv_iconst (v := (1 : Int32)) hx hb dX12_count_118 (by decide) ?_
              refine lv_goto (tgt := 123) hx hb dX12_count_119 (by decide) ?_
              refine lv_iadd hx hb dX12_count_123 ?_
              obtain ⟨v5, ev5, hf⟩ := wb_v hf
              refine wb_topi ev5 ?_
              refine lv_istore_n (lv' := [(2, .int v5), (0, .ref (a0 0)), (1, .int x1), (3, .int y103_3)]) hx hb dX12_count_124 rfl hl (by decide) rfl (fun ls hl => ?_)
              obtain ⟨v6, ev6, hf⟩ := wb_v hf
              refine lv_iinc (v := v6) (lv' := [(3, .int v6), (2, .int v5), (0, .ref (a0 0)), (1, .int x1)]) hx hb dX12_count_125 hl (k := 3) rfl (by rw [ev6]; rfl) (by decide) rfl (fun ls hl => ?_)
              refine lv_goto (tgt := 81) hx hb dX12_count_128 (by decide) ?_
              exact ih81 I0_j103 L0_j103 M0_j103 v5 v6 H locs hP hD hS ls (lv_sub hl [2, 3, 1, 0] rfl) hf
        intro I0_l81 L0_l81 M0_l81 y81_2 y81_3 H locs hP hD hS ls hl hf
        rw [fX12_count_L81.eq_2] at hf
        refine lv_iload_n hx hb dX12_count_81 rfl (lv_at hl 3 rfl) ?_
        refine lv_bipush (v := (20 : Int32)) hx hb dX12_count_82 (by decide) ?_
        refine lv_icmp_ge (tgt := 131) hx hb dX12_count_84 (by decide) (fun hc => ?_) (fun hc => ?_)
        · replace hf := wb_t hc hf
          refine lv_iload_n hx hb dX12_count_131 rfl (lv_at hl 1 rfl) ?_
          refine lv_iconst (v := (4 : Int32)) hx hb dX12_count_132 (by decide) ?_
          refine lv_icmp_ne (tgt := 143) hx hb dX12_count_133 (by decide) (fun hc => ?_) (fun hc => ?_)
          · replace hf := wb_f hc hf
            refine lv_iload_n hx hb dX12_count_143 rfl (lv_at hl 2 rfl) ?_
            exact W.iret (v := y81_2) hx hb hr (fun t ht hW => by rw [← Option.some.inj hf]; exact ⟨⟨y81_2, (), rfl, rfl, by rw [ht]; exact hP, va_K.moved hW.alike hK, hD⟩, hS.F ht⟩) hS.2.2 dX12_count_144
          · replace hf := wb_t hc hf
            refine lv_aload_n hx hb dX12_count_136 rfl (lv_at hl 0 rfl) ?_
            refine va_get (D := D) (ci := 12) (v := .int (I0_l81 3)) (C := RX12) (T := TX12) (N := 58) hx hb hts hinX12 hown hK hP 0 rfl rfl 12 (by decide) (hts (.fieldLink RX12 132 "WheelBookModel" "taped" "I") (List.mem_of_getElem? (i := 6) rfl)) (fun _ h9 => h9) rfl dX12_count_137 ?_
            refine lv_goto (tgt := 144) hx hb dX12_count_140 (by decide) ?_
            exact W.iret (v := (I0_l81 3)) hx hb hr (fun t ht hW => by rw [← Option.some.inj hf]; exact ⟨⟨(I0_l81 3), (), rfl, rfl, by rw [ht]; exact hP, va_K.moved hW.alike hK, hD⟩, hS.F ht⟩) hS.2.2 dX12_count_144
        · replace hf := wb_f hc hf
          refine lv_iload_n hx hb dX12_count_87 rfl (lv_at hl 2 rfl) ?_
          refine lv_iload_n hx hb dX12_count_88 rfl (lv_at hl 1 rfl) ?_
          refine lv_iconst (v := (3 : Int32)) hx hb dX12_count_89 (by decide) ?_
          refine lv_icmp_ne (tgt := 103) hx hb dX12_count_90 (by decide) (fun hc => ?_) (fun hc => ?_)
          · replace hf := wb_f hc hf
            exact J103 I0_l81 L0_l81 M0_l81 y81_3 y81_2 H locs hP hD hS ls (lv_sub hl [0, 1, 3] rfl) hf
          · replace hf := wb_t hc hf
            refine lv_aload_n hx hb dX12_count_93 rfl (lv_at hl 0 rfl) ?_
            refine va_get (D := D) (ci := 12) (v := .ref (a0 33)) (C := RX12) (T := TX12) (N := 58) hx hb hts hinX12 hown hK hP 0 rfl rfl 52 (by decide) (hts (.fieldLink RX12 114 "WheelBookModel" "foretold" "[I") (List.mem_of_getElem? (i := 4) rfl)) (fun _ h9 => h9) rfl dX12_count_94 ?_
            refine lv_iload_n hx hb dX12_count_97 rfl (lv_at hl 3 rfl) ?_
            obtain ⟨hin, hf⟩ := wb_n hf
            refine va_iald hx hb hK hP 33 1 rfl rfl hin dX12_count_98 ?_
            refine lv_iconst (v := (-1 : Int32)) hx hb dX12_count_99 (by decide) ?_
            refine lv_icmp_ne (tgt := 118) hx hb dX12_count_100 (by decide) (fun hc => ?_) (fun hc => ?_)
            · replace hf := wb_f hc hf
              refine lv_iconst (v := (1 : Int32)) hx hb dX12_count_118 (by decide) ?_
              refine lv_goto (tgt := 123) hx hb dX12_count_119 (by decide) ?_
              refine lv_iadd hx hb dX12_count_123 ?_
              obtain ⟨v7, ev7, hf⟩ := wb_v hf
              refine wb_topi ev7 ?_
              refine lv_istore_n (lv' := [(2, .int v7), (0, .ref (a0 0)), (1, .int x1), (3, .int y81_3)]) hx hb dX12_count_124 rfl hl (by decide) rfl (fun ls hl => ?_)
              obtain ⟨v8, ev8, hf⟩ := wb_v hf
              refine lv_iinc (v := v8) (lv' := [(3, .int v8), (2, .int v7), (0, .ref (a0 0)), (1, .int x1)]) hx hb dX12_count_125 hl (k := 3) rfl (by rw [ev8]; rfl) (by decide) rfl (fun ls hl => ?_)
              refine lv_goto (tgt := 81) hx hb dX12_count_128 (by decide) ?_
              exact ih81 I0_l81 L0_l81 M0_l81 v7 v8 H locs hP hD hS ls (lv_sub hl [2, 3, 1, 0] rfl) hf
            · replace hf := wb_t hc hf
              exact J103 I0_l81 L0_l81 M0_l81 y81_3 y81_2 H locs hP hD hS ls (lv_sub hl [0, 1, 3] rfl) hf
    exact Lh81 N I0_j79 L0_j79 M0_j79 y79_2 (0 : Int32) H locs hP hD hS ls (lv_sub hl [1, 2, 3, 0] rfl) hf
  refine lv_aload_n hx hb dX12_count_0 rfl (lv_at hl 0 rfl) ?_
  refine lv_iconst (v := (0 : Int32)) hx hb dX12_count_1 (by decide) ?_
  refine va_put (D := D) (ci := 12) (v := .int (0 : Int32)) (ty := .int) (C := RX12) (T := TX12) (N := 58) hx hb hts hinX12 tyX12 tyX12_ok nmX12 hown hK hP hD hS 0 rfl rfl 0 (by decide) (hts (.fieldLink RX12 129 "WheelBookModel" "thrown" "I") (List.mem_of_getElem? (i := 1) rfl)) (fun _ h9 => h9) rfl (by decide +kernel) rfl rfl (Nat.le_of_ble_eq_true rfl) dX12_count_2 (fun H locs hP hD hS => ?_)
  have hP : va_P D vwCl (wWX12 cB cI cZ a0 (upd I0 0 (0 : Int32)) L0 M0) H := hP
  have hD : va_D A (wWX12 cB cI cZ a0 (upd I0 0 (0 : Int32)) L0 M0) := hD
  obtain ⟨I0_9, eI0_9, hf⟩ := wb_v hf
  rw [← eI0_9] at hP hD
  refine lv_aload_n hx hb dX12_count_5 rfl (lv_at hl 0 rfl) ?_
  refine lv_iload_n hx hb dX12_count_6 rfl (lv_at hl 1 rfl) ?_
  refine lv_iconst (v := (0 : Int32)) hx hb dX12_count_7 (by decide) ?_
  refine lv_iconst (v := (5 : Int32)) hx hb dX12_count_8 (by decide) ?_
  obtain ⟨r10, hr10, hf⟩ := wb_b hf
  refine vp_callSi (W.runS (As := [.int x1, .int (0 : Int32), .int (5 : Int32)]) (rest := [.ref (a0 0)]) ⟨hx, hb, hml, hown, hts⟩ (cn_X12_within l D cB cI cZ N x1 (0 : Int32) (5 : Int32) r10 hr10) (va_cwS 3 hts gX12_count_X12_within rfl rfl rfl csX12_within ⟨Nat.le_of_ble_eq_true rfl, Nat.le_of_ble_eq_true rfl⟩) (wb_preS (hP.sub (ws' := ([] : va_W)) [] rfl) hK) rfl rfl hl.1 rfl (lv_room (Nat.le_of_ble_eq_true rfl)) dX12_count_9 ⟨Nat.le_of_ble_eq_true rfl, Nat.le_of_ble_eq_true rfl⟩) (fun r9 e9 => ?_)
  rw [e9]
  refine lv_iconst (v := (1 : Int32)) hx hb dX12_count_12 (by decide) ?_
  obtain ⟨r11, hr11, hf⟩ := wb_b hf
  have hPc := hP
  have hDc := hD
  have hFc := wj_F hDc hS hA
  refine va_calli (va_runV (As := [.int r10, .int (1 : Int32)]) (rest := []) ⟨hx, hb, hml, hown, hts⟩ (cn_X12_right l D cB cI cZ N a0 I0_9 L0 M0 r10 (1 : Int32) H.size r11 hr11) (cwV 2 hts gX12_count_X12_right rfl rfl rfl cdX12_right ⟨Nat.le_of_ble_eq_true rfl, Nat.le_of_ble_eq_true rfl⟩) (wb_preDV hPc hK hDc (wr_12 hK hP (q0 := 0) rfl)) rfl rfl hl.1 rfl (lv_room (Nat.le_of_ble_eq_true rfl)) dX12_count_13 ⟨Nat.le_of_ble_eq_true rfl, Nat.le_of_ble_eq_true rfl⟩) hS (fun q _ h => hFc q h) hFc (fun r9 u t H locs ht hvm hw hB hz1 hk1 hS => ?_)
  obtain ⟨hP, hD⟩ := wj_0 hFc ht hB
  rw [hw]
  refine lv_if_ne (tgt := 21) hx hb dX12_count_16 (by decide) (fun hc => ?_) (fun hc => ?_)
  · replace hf := wb_f hc hf
    refine lv_iload_n hx hb dX12_count_21 rfl (lv_at hl 1 rfl) ?_
    refine lv_iconst (v := (2 : Int32)) hx hb dX12_count_22 (by decide) ?_
    refine lv_icmp_ge (tgt := 42) hx hb dX12_count_23 (by decide) (fun hc => ?_) (fun hc => ?_)
    · replace hf := wb_t hc hf
      refine lv_iconst (v := (0 : Int32)) hx hb dX12_count_42 (by decide) ?_
      refine lv_istore_n (lv' := [(2, .int (0 : Int32)), (0, .ref (a0 0)), (1, .int x1)]) hx hb dX12_count_43 rfl hl (by decide) rfl (fun ls hl => ?_)
      refine lv_iconst (v := (0 : Int32)) hx hb dX12_count_44 (by decide) ?_
      refine lv_istore_n (lv' := [(3, .int (0 : Int32)), (2, .int (0 : Int32)), (0, .ref (a0 0)), (1, .int x1)]) hx hb dX12_count_45 rfl hl (by decide) rfl (fun ls hl => ?_)
      have Lh46 : ∀ (fu46 : Nat) (I0_l46 : Nat → Int32) (L0_l46 : Int64) (M0_l46 : Nat → Nat → Int32) (y46_2 : Int32) (y46_3 : Int32) (H : Heap) (locs : List Loc), va_P D vwCl (wWX12 cB cI cZ a0 I0_l46 L0_l46 M0_l46) H → va_D A (wWX12 cB cI cZ a0 I0_l46 L0_l46 M0_l46) → va_S A s.heap H locs → ∀ (ls : Array Slot), lv_has ls 4 [(0, .ref (a0 0)), (1, .int x1), (2, .int y46_2), (3, .int y46_3)] → fX12_count_L46 N x1 fu46 I0_l46 L0_l46 M0_l46 y46_2 y46_3 = some R → W p l e (headSpec wsX12_count { frames := 2, cells := 0, slots := 0, locals := 45 }).room s m [.ref (a0 0), .int x1].toArray below meth c H locs 0 0 (MQ below (va_Qi (fun r (_ : Unit) => r = R.1) (fun _ t => wb_post D [(cB, .byte), (cI, .int), (cZ, .boolean)] A (wWX12 cB cI cZ a0 R.2.1 R.2.2.1 R.2.2.2) t) A) [.ref (a0 0), .int x1].toArray s 0 0 A) (F0 m 46 ls []) := by
        intro fu46
        induction fu46 with
        | zero =>
          intro I0_l46 L0_l46 M0_l46 y46_2 y46_3 H locs hP hD hS ls hl hf
          exact absurd hf (by rw [fX12_count_L46.eq_1]; exact fun h => nomatch h)
        | succ fu46 ih46 =>
          intro I0_l46 L0_l46 M0_l46 y46_2 y46_3 H locs hP hD hS ls hl hf
          rw [fX12_count_L46.eq_2] at hf
          refine lv_iload_n hx hb dX12_count_46 rfl (lv_at hl 3 rfl) ?_
          refine lv_bipush (v := (120 : Int32)) hx hb dX12_count_47 (by decide) ?_
          refine lv_icmp_ge (tgt := 79) hx hb dX12_count_49 (by decide) (fun hc => ?_) (fun hc => ?_)
          · replace hf := wb_t hc hf
            exact J79 I0_l46 L0_l46 M0_l46 y46_2 H locs hP hD hS ls (lv_sub hl [0, 1, 2] rfl) hf
          · replace hf := wb_f hc hf
            refine lv_iload_n hx hb dX12_count_52 rfl (lv_at hl 1 rfl) ?_
            refine lv_iconst (v := (2 : Int32)) hx hb dX12_count_53 (by decide) ?_
            refine lv_icmp_ne (tgt := 79) hx hb dX12_count_54 (by decide) (fun hc => ?_) (fun hc => ?_)
            · replace hf := wb_f hc hf
              exact J79 I0_l46 L0_l46 M0_l46 y46_2 H locs hP hD hS ls (lv_sub hl [0, 1, 2] rfl) hf
            · replace hf := wb_t hc hf
              refine lv_iload_n hx hb dX12_count_57 rfl (lv_at hl 2 rfl) ?_
              refine lv_aload_n hx hb dX12_count_58 rfl (lv_at hl 0 rfl) ?_
              refine lv_iload_n hx hb dX12_count_59 rfl (lv_at hl 3 rfl) ?_
              obtain ⟨r12, hr12, hf⟩ := wb_b hf
              refine vp_callSi (W.runV (As := [.int y46_3]) (rest := [.int y46_2]) ⟨hx, hb, hml, hown, hts⟩ (cn_X12_tells l D cB cI cZ N a0 I0_l46 L0_l46 M0_l46 y46_3 r12 hr12) (cwV 1 hts gX12_count_X12_tells rfl rfl rfl cdX12_tells ⟨Nat.le_of_ble_eq_true rfl, Nat.le_of_ble_eq_true rfl⟩) (wb_preV hP hK (wr_12 hK hP (q0 := 0) rfl)) rfl rfl hl.1 rfl (lv_room (Nat.le_of_ble_eq_true rfl)) dX12_count_60 ⟨Nat.le_of_ble_eq_true rfl, Nat.le_of_ble_eq_true rfl⟩) (fun r9 e9 => ?_)
              rw [e9]
              refine lv_if_eq (tgt := 70) hx hb dX12_count_63 (by decide) (fun hc => ?_) (fun hc => ?_)
              · replace hf := wb_t hc hf
                refine lv_iconst (v := (0 : Int32)) hx hb dX12_count_70 (by decide) ?_
                refine lv_iadd hx hb dX12_count_71 ?_
                obtain ⟨v13, ev13, hf⟩ := wb_v hf
                refine wb_topi ev13 ?_
                refine lv_istore_n (lv' := [(2, .int v13), (0, .ref (a0 0)), (1, .int x1), (3, .int y46_3)]) hx hb dX12_count_72 rfl hl (by decide) rfl (fun ls hl => ?_)
                obtain ⟨v14, ev14, hf⟩ := wb_v hf
                refine lv_iinc (v := v14) (lv' := [(3, .int v14), (2, .int v13), (0, .ref (a0 0)), (1, .int x1)]) hx hb dX12_count_73 hl (k := 3) rfl (by rw [ev14]; rfl) (by decide) rfl (fun ls hl => ?_)
                refine lv_goto (tgt := 46) hx hb dX12_count_76 (by decide) ?_
                exact ih46 I0_l46 L0_l46 M0_l46 v13 v14 H locs hP hD hS ls (lv_sub hl [2, 3, 1, 0] rfl) hf
              · replace hf := wb_f hc hf
                refine lv_iconst (v := (1 : Int32)) hx hb dX12_count_66 (by decide) ?_
                refine lv_goto (tgt := 71) hx hb dX12_count_67 (by decide) ?_
                refine lv_iadd hx hb dX12_count_71 ?_
                obtain ⟨v15, ev15, hf⟩ := wb_v hf
                refine wb_topi ev15 ?_
                refine lv_istore_n (lv' := [(2, .int v15), (0, .ref (a0 0)), (1, .int x1), (3, .int y46_3)]) hx hb dX12_count_72 rfl hl (by decide) rfl (fun ls hl => ?_)
                obtain ⟨v16, ev16, hf⟩ := wb_v hf
                refine lv_iinc (v := v16) (lv' := [(3, .int v16), (2, .int v15), (0, .ref (a0 0)), (1, .int x1)]) hx hb dX12_count_73 hl (k := 3) rfl (by rw [ev16]; rfl) (by decide) rfl (fun ls hl => ?_)
                refine lv_goto (tgt := 46) hx hb dX12_count_76 (by decide) ?_
                exact ih46 I0_l46 L0_l46 M0_l46 v15 v16 H locs hP hD hS ls (lv_sub hl [2, 3, 1, 0] rfl) hf
      exact Lh46 N r11.2.1 r11.2.2.1 r11.2.2.2 (0 : Int32) (0 : Int32) H locs hP hD hS ls (lv_sub hl [2, 3, 1, 0] rfl) hf
    · replace hf := wb_f hc hf
      refine lv_iload_n hx hb dX12_count_26 rfl (lv_at hl 1 rfl) ?_
      refine lv_if_ne (tgt := 37) hx hb dX12_count_27 (by decide) (fun hc => ?_) (fun hc => ?_)
      · replace hf := wb_f hc hf
        refine lv_aload_n hx hb dX12_count_37 rfl (lv_at hl 0 rfl) ?_
        refine va_get (D := D) (ci := 12) (v := .int (r11.2.1 2)) (C := RX12) (T := TX12) (N := 58) hx hb hts hinX12 hown hK hP 0 rfl rfl 6 (by decide) (hts (.fieldLink RX12 231 "WheelBookModel" "hands" "I") (List.mem_of_getElem? (i := 3) rfl)) (fun _ h9 => h9) rfl dX12_count_38 ?_
        exact W.iret (v := (r11.2.1 2)) hx hb hr (fun t ht hW => by rw [← Option.some.inj hf]; exact ⟨⟨(r11.2.1 2), (), rfl, rfl, by rw [ht]; exact hP, va_K.moved hW.alike hK, hD⟩, hS.F ht⟩) hS.2.2 dX12_count_41
      · replace hf := wb_t hc hf
        refine lv_aload_n hx hb dX12_count_30 rfl (lv_at hl 0 rfl) ?_
        refine va_get (D := D) (ci := 12) (v := .int (r11.2.1 1)) (C := RX12) (T := TX12) (N := 58) hx hb hts hinX12 hown hK hP 0 rfl rfl 5 (by decide) (hts (.fieldLink RX12 228 "WheelBookModel" "climates" "I") (List.mem_of_getElem? (i := 2) rfl)) (fun _ h9 => h9) rfl dX12_count_31 ?_
        refine lv_goto (tgt := 41) hx hb dX12_count_34 (by decide) ?_
        exact W.iret (v := (r11.2.1 1)) hx hb hr (fun t ht hW => by rw [← Option.some.inj hf]; exact ⟨⟨(r11.2.1 1), (), rfl, rfl, by rw [ht]; exact hP, va_K.moved hW.alike hK, hD⟩, hS.F ht⟩) hS.2.2 dX12_count_41
  · replace hf := wb_t hc hf
    refine lv_iconst (v := (0 : Int32)) hx hb dX12_count_19 (by decide) ?_
    exact W.iret (v := (0 : Int32)) hx hb hr (fun t ht hW => by rw [← Option.some.inj hf]; exact ⟨⟨(0 : Int32), (), rfl, rfl, by rw [ht]; exact hP, va_K.moved hW.alike hK, hD⟩, hS.F ht⟩) hS.2.2 dX12_count_20

set_option maxHeartbeats 4000000 in
set_option maxRecDepth 100000 in
theorem cn_X12_life (l : Launch) (D : va_G) (cB cI cZ : ClassId) (N : Nat) (a0 : Nat → Nat) (I0 : Nat → Int32) (L0 : Int64) (M0 : Nat → Nat → Int32) (x1 : Int32) (x2 : Int32) (x3 : Int32) (sz : Nat) (R : Int32 × (Nat → Int32) × Int64 × (Nat → Nat → Int32)) (hf : fX12_life N I0 L0 M0 x1 x2 x3 = some R) : Met l yX12_life wsX12_life ({ frames := 1, cells := 0, slots := 0, locals := 22 }) (va_Pc [.ref (a0 0), .int x1, .int x2, .int x3] (wb_preD D [(cB, .byte), (cI, .int), (cZ, .boolean)] (wWX12 cB cI cZ a0 I0 L0 M0) sz)) (va_Qi (fun r (_ : Unit) => r = R.1) (fun _ t => wb_post D [(cB, .byte), (cI, .int), (cZ, .boolean)] (va_A (wWX12 cB cI cZ a0 I0 L0 M0) sz) (wWX12 cB cI cZ a0 R.2.1 R.2.2.1 R.2.2.2) t) (va_A (wWX12 cB cI cZ a0 I0 L0 M0) sz)) 0 0 (va_A (wWX12 cB cI cZ a0 I0 L0 M0) sz) := by
  refine Met.ofW (cc := cX12_life) (maxL := 4) (ret := (some .boolean)) pn_X12 rfl ?_
  intro p e s m args below meth c s₁ B hml hv
  obtain ⟨rfl, hsz, hP, hK, hD0⟩ := hv
  have hx := B.exec
  have hb := B.bytes
  have hr := B.returns
  have hts := atoms_spec (ws := wsX12_life) B.pre
  have hown : s.vm.findClass RX12 = some m.cls := (findClass_of_methodNamed B.named :)
  have hlocks := B.notSynchronized
  have hinX12 : ∀ w ∈ u_ws RX12 TX12 58, w ∈ wsX12_life := fun w h => List.mem_cons_of_mem _ (List.mem_append_right _ h)
  subst hsz
  have hD := hD0.self (sz := s.heap.size)
  generalize hAe : va_A (wWX12 cB cI cZ a0 I0 L0 M0) s.heap.size = A at hD ⊢
  have hA : ∀ q : Nat, s.heap.size ≤ q → A q := fun q h => by rw [← hAe]; exact Or.inr h
  have hS : va_S A s.heap s.heap [] := va_S.rf
  have hl := lv_entry ([.ref (a0 0), .int x1, .int x2, .int x3]) (n := 4) (Nat.le_of_ble_eq_true rfl)
  rw [lg_entry_eq]
  generalize (lg_sl ([.ref (a0 0), .int x1, .int x2, .int x3]) ++ List.replicate (4 - (lg_sl ([.ref (a0 0), .int x1, .int x2, .int x3])).length) Slot.unset).toArray = ls at hl ⊢
  have hl : lv_has ls 4 [(0, .ref (a0 0)), (1, .int x1), (2, .int x2), (3, .int x3)] := hl
  unfold fX12_life at hf
  obtain ⟨H, hHe⟩ : ∃ H : Heap, H = s.heap := ⟨_, rfl⟩
  obtain ⟨locs, hle⟩ : ∃ locs : List Loc, locs = [] := ⟨_, rfl⟩
  refine wb_start (H := H) (locs := locs) hHe hle ?_
  rw [← hHe] at hP
  have hS : va_S A s.heap H locs := by rw [hHe, hle]; exact va_S.rf
  refine lv_aload_n hx hb dX12_life_0 rfl (lv_at hl 0 rfl) ?_
  refine lv_iconst (v := (0 : Int32)) hx hb dX12_life_1 (by decide) ?_
  refine va_put (D := D) (ci := 12) (v := .int (0 : Int32)) (ty := .int) (C := RX12) (T := TX12) (N := 58) hx hb hts hinX12 tyX12 tyX12_ok nmX12 hown hK hP hD hS 0 rfl rfl 0 (by decide) (hts (.fieldLink RX12 129 "WheelBookModel" "thrown" "I") (List.mem_of_getElem? (i := 1) rfl)) (fun _ h9 => h9) rfl (by decide +kernel) rfl rfl (Nat.le_of_ble_eq_true rfl) dX12_life_2 (fun H locs hP hD hS => ?_)
  have hP : va_P D vwCl (wWX12 cB cI cZ a0 (upd I0 0 (0 : Int32)) L0 M0) H := hP
  have hD : va_D A (wWX12 cB cI cZ a0 (upd I0 0 (0 : Int32)) L0 M0) := hD
  obtain ⟨I0_1, eI0_1, hf⟩ := wb_v hf
  rw [← eI0_1] at hP hD
  refine lv_aload_n hx hb dX12_life_5 rfl (lv_at hl 0 rfl) ?_
  refine lv_iload_n hx hb dX12_life_6 rfl (lv_at hl 1 rfl) ?_
  refine lv_iconst (v := (0 : Int32)) hx hb dX12_life_7 (by decide) ?_
  refine lv_bipush (v := (19 : Int32)) hx hb dX12_life_8 (by decide) ?_
  obtain ⟨r2, hr2, hf⟩ := wb_b hf
  refine vp_callSi (W.runS (As := [.int x1, .int (0 : Int32), .int (19 : Int32)]) (rest := [.ref (a0 0)]) ⟨hx, hb, hml, hown, hts⟩ (cn_X12_within l D cB cI cZ N x1 (0 : Int32) (19 : Int32) r2 hr2) (va_cwS 3 hts gX12_life_X12_within rfl rfl rfl csX12_within ⟨Nat.le_of_ble_eq_true rfl, Nat.le_of_ble_eq_true rfl⟩) (wb_preS (hP.sub (ws' := ([] : va_W)) [] rfl) hK) rfl rfl hl.1 rfl (lv_room (Nat.le_of_ble_eq_true rfl)) dX12_life_10 ⟨Nat.le_of_ble_eq_true rfl, Nat.le_of_ble_eq_true rfl⟩) (fun r9 e9 => ?_)
  rw [e9]
  refine lv_iconst (v := (1 : Int32)) hx hb dX12_life_13 (by decide) ?_
  obtain ⟨r3, hr3, hf⟩ := wb_b hf
  have hPc := hP
  have hDc := hD
  have hFc := wj_F hDc hS hA
  refine va_calli (va_runV (As := [.int r2, .int (1 : Int32)]) (rest := []) ⟨hx, hb, hml, hown, hts⟩ (cn_X12_right l D cB cI cZ N a0 I0_1 L0 M0 r2 (1 : Int32) H.size r3 hr3) (cwV 2 hts gX12_life_X12_right rfl rfl rfl cdX12_right ⟨Nat.le_of_ble_eq_true rfl, Nat.le_of_ble_eq_true rfl⟩) (wb_preDV hPc hK hDc (wr_12 hK hP (q0 := 0) rfl)) rfl rfl hl.1 rfl (lv_room (Nat.le_of_ble_eq_true rfl)) dX12_life_14 ⟨Nat.le_of_ble_eq_true rfl, Nat.le_of_ble_eq_true rfl⟩) hS (fun q _ h => hFc q h) hFc (fun r9 u t H locs ht hvm hw hB hz1 hk1 hS => ?_)
  obtain ⟨hP, hD⟩ := wj_0 hFc ht hB
  rw [hw]
  refine lv_if_ne (tgt := 22) hx hb dX12_life_17 (by decide) (fun hc => ?_) (fun hc => ?_)
  · replace hf := wb_f hc hf
    refine lv_iload_n hx hb dX12_life_22 rfl (lv_at hl 2 rfl) ?_
    refine lv_iconst (v := (0 : Int32)) hx hb dX12_life_23 (by decide) ?_
    refine lv_bipush (v := (120 : Int32)) hx hb dX12_life_24 (by decide) ?_
    obtain ⟨r4, hr4, hf⟩ := wb_b hf
    refine vp_callSi (W.runS (As := [.int x2, .int (0 : Int32), .int (120 : Int32)]) (rest := []) ⟨hx, hb, hml, hown, hts⟩ (cn_X12_within l D cB cI cZ N x2 (0 : Int32) (120 : Int32) r4 hr4) (va_cwS 3 hts gX12_life_X12_within rfl rfl rfl csX12_within ⟨Nat.le_of_ble_eq_true rfl, Nat.le_of_ble_eq_true rfl⟩) (wb_preS (hP.sub (ws' := ([] : va_W)) [] rfl) hK) rfl rfl hl.1 rfl (lv_room (Nat.le_of_ble_eq_true rfl)) dX12_life_26 ⟨Nat.le_of_ble_eq_true rfl, Nat.le_of_ble_eq_true rfl⟩) (fun r9 e9 => ?_)
    rw [e9]
    refine lv_if_eq (tgt := 42) hx hb dX12_life_29 (by decide) (fun hc => ?_) (fun hc => ?_)
    · replace hf := wb_t hc hf
      refine lv_iconst (v := (0 : Int32)) hx hb dX12_life_42 (by decide) ?_
      exact W.zret (v := (0 : Int32)) hx hb hr (by decide) (fun t ht hW => by rw [← Option.some.inj hf]; exact ⟨⟨(0 : Int32), (), rfl, rfl, by rw [ht]; exact hP, va_K.moved hW.alike hK, hD⟩, hS.F ht⟩) hS.2.2 dX12_life_43
    · replace hf := wb_f hc hf
      refine lv_iload_n hx hb dX12_life_32 rfl (lv_at hl 3 rfl) ?_
      refine lv_iconst (v := (0 : Int32)) hx hb dX12_life_33 (by decide) ?_
      refine lv_bipush (v := (120 : Int32)) hx hb dX12_life_34 (by decide) ?_
      obtain ⟨r5, hr5, hf⟩ := wb_b hf
      refine vp_callSi (W.runS (As := [.int x3, .int (0 : Int32), .int (120 : Int32)]) (rest := []) ⟨hx, hb, hml, hown, hts⟩ (cn_X12_within l D cB cI cZ N x3 (0 : Int32) (120 : Int32) r5 hr5) (va_cwS 3 hts gX12_life_X12_within rfl rfl rfl csX12_within ⟨Nat.le_of_ble_eq_true rfl, Nat.le_of_ble_eq_true rfl⟩) (wb_preS (hP.sub (ws' := ([] : va_W)) [] rfl) hK) rfl rfl hl.1 rfl (lv_room (Nat.le_of_ble_eq_true rfl)) dX12_life_36 ⟨Nat.le_of_ble_eq_true rfl, Nat.le_of_ble_eq_true rfl⟩) (fun r9 e9 => ?_)
      rw [e9]
      refine lv_if_ne (tgt := 44) hx hb dX12_life_39 (by decide) (fun hc => ?_) (fun hc => ?_)
      · replace hf := wb_f hc hf
        refine lv_aload_n hx hb dX12_life_44 rfl (lv_at hl 0 rfl) ?_
        refine va_get (D := D) (ci := 12) (v := .ref (a0 33)) (C := RX12) (T := TX12) (N := 58) hx hb hts hinX12 hown hK hP 0 rfl rfl 52 (by decide) (hts (.fieldLink RX12 114 "WheelBookModel" "foretold" "[I") (List.mem_of_getElem? (i := 2) rfl)) (fun _ h9 => h9) rfl dX12_life_45 ?_
        refine lv_iload_n hx hb dX12_life_48 rfl (lv_at hl 1 rfl) ?_
        refine lv_iload_n hx hb dX12_life_49 rfl (lv_at hl 2 rfl) ?_
        obtain ⟨hin, hf⟩ := wb_n hf
        refine va_iast hx hb hK hP hD hS 33 1 rfl rfl hin dX12_life_50 (fun H locs hP hD hS => ?_)
        have hP : va_P D vwCl (wWX12 cB cI cZ a0 r3.2.1 r3.2.2.1 (wb_um r3.2.2.2 32 (x1).toNatClampNeg x2)) H := hP
        have hD : va_D A (wWX12 cB cI cZ a0 r3.2.1 r3.2.2.1 (wb_um r3.2.2.2 32 (x1).toNatClampNeg x2)) := hD
        obtain ⟨M0_6, eM0_6, hf⟩ := wb_v hf
        rw [← eM0_6] at hP hD
        refine lv_aload_n hx hb dX12_life_51 rfl (lv_at hl 0 rfl) ?_
        refine va_get (D := D) (ci := 12) (v := .ref (a0 34)) (C := RX12) (T := TX12) (N := 58) hx hb hts hinX12 hown hK hP 0 rfl rfl 53 (by decide) (hts (.fieldLink RX12 117 "WheelBookModel" "came" "[I") (List.mem_of_getElem? (i := 3) rfl)) (fun _ h9 => h9) rfl dX12_life_52 ?_
        refine lv_iload_n hx hb dX12_life_55 rfl (lv_at hl 1 rfl) ?_
        refine lv_iload_n hx hb dX12_life_56 rfl (lv_at hl 3 rfl) ?_
        obtain ⟨hin, hf⟩ := wb_n hf
        refine va_iast hx hb hK hP hD hS 34 1 rfl rfl hin dX12_life_57 (fun H locs hP hD hS => ?_)
        have hP : va_P D vwCl (wWX12 cB cI cZ a0 r3.2.1 r3.2.2.1 (wb_um M0_6 33 (x1).toNatClampNeg x3)) H := hP
        have hD : va_D A (wWX12 cB cI cZ a0 r3.2.1 r3.2.2.1 (wb_um M0_6 33 (x1).toNatClampNeg x3)) := hD
        obtain ⟨M0_7, eM0_7, hf⟩ := wb_v hf
        rw [← eM0_7] at hP hD
        refine lv_iconst (v := (1 : Int32)) hx hb dX12_life_58 (by decide) ?_
        exact W.zret (v := (1 : Int32)) hx hb hr (by decide) (fun t ht hW => by rw [← Option.some.inj hf]; exact ⟨⟨(1 : Int32), (), rfl, rfl, by rw [ht]; exact hP, va_K.moved hW.alike hK, hD⟩, hS.F ht⟩) hS.2.2 dX12_life_59
      · replace hf := wb_t hc hf
        refine lv_iconst (v := (0 : Int32)) hx hb dX12_life_42 (by decide) ?_
        exact W.zret (v := (0 : Int32)) hx hb hr (by decide) (fun t ht hW => by rw [← Option.some.inj hf]; exact ⟨⟨(0 : Int32), (), rfl, rfl, by rw [ht]; exact hP, va_K.moved hW.alike hK, hD⟩, hS.F ht⟩) hS.2.2 dX12_life_43
  · replace hf := wb_t hc hf
    refine lv_iconst (v := (0 : Int32)) hx hb dX12_life_20 (by decide) ?_
    exact W.zret (v := (0 : Int32)) hx hb hr (by decide) (fun t ht hW => by rw [← Option.some.inj hf]; exact ⟨⟨(0 : Int32), (), rfl, rfl, by rw [ht]; exact hP, va_K.moved hW.alike hK, hD⟩, hS.F ht⟩) hS.2.2 dX12_life_21

set_option maxHeartbeats 4000000 in
set_option maxRecDepth 100000 in
theorem cn_X12_fate (l : Launch) (D : va_G) (cB cI cZ : ClassId) (N : Nat) (a0 : Nat → Nat) (I0 : Nat → Int32) (L0 : Int64) (M0 : Nat → Nat → Int32) (x1 : Int32) (x2 : Int32) (sz : Nat) (R : Int32 × (Nat → Int32) × Int64 × (Nat → Nat → Int32)) (hf : fX12_fate N I0 L0 M0 x1 x2 = some R) : Met l yX12_fate wsX12_fate ({ frames := 1, cells := 0, slots := 0, locals := 22 }) (va_Pc [.ref (a0 0), .int x1, .int x2] (wb_preD D [(cB, .byte), (cI, .int), (cZ, .boolean)] (wWX12 cB cI cZ a0 I0 L0 M0) sz)) (va_Qi (fun r (_ : Unit) => r = R.1) (fun _ t => wb_post D [(cB, .byte), (cI, .int), (cZ, .boolean)] (va_A (wWX12 cB cI cZ a0 I0 L0 M0) sz) (wWX12 cB cI cZ a0 R.2.1 R.2.2.1 R.2.2.2) t) (va_A (wWX12 cB cI cZ a0 I0 L0 M0) sz)) 0 0 (va_A (wWX12 cB cI cZ a0 I0 L0 M0) sz) := by
  refine Met.ofW (cc := cX12_fate) (maxL := 3) (ret := (some .boolean)) pn_X12 rfl ?_
  intro p e s m args below meth c s₁ B hml hv
  obtain ⟨rfl, hsz, hP, hK, hD0⟩ := hv
  have hx := B.exec
  have hb := B.bytes
  have hr := B.returns
  have hts := atoms_spec (ws := wsX12_fate) B.pre
  have hown : s.vm.findClass RX12 = some m.cls := (findClass_of_methodNamed B.named :)
  have hlocks := B.notSynchronized
  have hinX12 : ∀ w ∈ u_ws RX12 TX12 58, w ∈ wsX12_fate := fun w h => List.mem_cons_of_mem _ (List.mem_append_right _ h)
  subst hsz
  have hD := hD0.self (sz := s.heap.size)
  generalize hAe : va_A (wWX12 cB cI cZ a0 I0 L0 M0) s.heap.size = A at hD ⊢
  have hA : ∀ q : Nat, s.heap.size ≤ q → A q := fun q h => by rw [← hAe]; exact Or.inr h
  have hS : va_S A s.heap s.heap [] := va_S.rf
  have hl := lv_entry ([.ref (a0 0), .int x1, .int x2]) (n := 3) (Nat.le_of_ble_eq_true rfl)
  rw [lg_entry_eq]
  generalize (lg_sl ([.ref (a0 0), .int x1, .int x2]) ++ List.replicate (3 - (lg_sl ([.ref (a0 0), .int x1, .int x2])).length) Slot.unset).toArray = ls at hl ⊢
  have hl : lv_has ls 3 [(0, .ref (a0 0)), (1, .int x1), (2, .int x2)] := hl
  unfold fX12_fate at hf
  obtain ⟨H, hHe⟩ : ∃ H : Heap, H = s.heap := ⟨_, rfl⟩
  obtain ⟨locs, hle⟩ : ∃ locs : List Loc, locs = [] := ⟨_, rfl⟩
  refine wb_start (H := H) (locs := locs) hHe hle ?_
  rw [← hHe] at hP
  have hS : va_S A s.heap H locs := by rw [hHe, hle]; exact va_S.rf
  refine lv_aload_n hx hb dX12_fate_0 rfl (lv_at hl 0 rfl) ?_
  refine lv_iconst (v := (0 : Int32)) hx hb dX12_fate_1 (by decide) ?_
  refine va_put (D := D) (ci := 12) (v := .int (0 : Int32)) (ty := .int) (C := RX12) (T := TX12) (N := 58) hx hb hts hinX12 tyX12 tyX12_ok nmX12 hown hK hP hD hS 0 rfl rfl 0 (by decide) (hts (.fieldLink RX12 129 "WheelBookModel" "thrown" "I") (List.mem_of_getElem? (i := 1) rfl)) (fun _ h9 => h9) rfl (by decide +kernel) rfl rfl (Nat.le_of_ble_eq_true rfl) dX12_fate_2 (fun H locs hP hD hS => ?_)
  have hP : va_P D vwCl (wWX12 cB cI cZ a0 (upd I0 0 (0 : Int32)) L0 M0) H := hP
  have hD : va_D A (wWX12 cB cI cZ a0 (upd I0 0 (0 : Int32)) L0 M0) := hD
  obtain ⟨I0_1, eI0_1, hf⟩ := wb_v hf
  rw [← eI0_1] at hP hD
  refine lv_aload_n hx hb dX12_fate_5 rfl (lv_at hl 0 rfl) ?_
  refine lv_iload_n hx hb dX12_fate_6 rfl (lv_at hl 1 rfl) ?_
  refine lv_iconst (v := (0 : Int32)) hx hb dX12_fate_7 (by decide) ?_
  refine lv_bipush (v := (19 : Int32)) hx hb dX12_fate_8 (by decide) ?_
  obtain ⟨r2, hr2, hf⟩ := wb_b hf
  refine vp_callSi (W.runS (As := [.int x1, .int (0 : Int32), .int (19 : Int32)]) (rest := [.ref (a0 0)]) ⟨hx, hb, hml, hown, hts⟩ (cn_X12_within l D cB cI cZ N x1 (0 : Int32) (19 : Int32) r2 hr2) (va_cwS 3 hts gX12_fate_X12_within rfl rfl rfl csX12_within ⟨Nat.le_of_ble_eq_true rfl, Nat.le_of_ble_eq_true rfl⟩) (wb_preS (hP.sub (ws' := ([] : va_W)) [] rfl) hK) rfl rfl hl.1 rfl (lv_room (Nat.le_of_ble_eq_true rfl)) dX12_fate_10 ⟨Nat.le_of_ble_eq_true rfl, Nat.le_of_ble_eq_true rfl⟩) (fun r9 e9 => ?_)
  rw [e9]
  refine lv_iconst (v := (1 : Int32)) hx hb dX12_fate_13 (by decide) ?_
  obtain ⟨r3, hr3, hf⟩ := wb_b hf
  have hPc := hP
  have hDc := hD
  have hFc := wj_F hDc hS hA
  refine va_calli (va_runV (As := [.int r2, .int (1 : Int32)]) (rest := []) ⟨hx, hb, hml, hown, hts⟩ (cn_X12_right l D cB cI cZ N a0 I0_1 L0 M0 r2 (1 : Int32) H.size r3 hr3) (cwV 2 hts gX12_fate_X12_right rfl rfl rfl cdX12_right ⟨Nat.le_of_ble_eq_true rfl, Nat.le_of_ble_eq_true rfl⟩) (wb_preDV hPc hK hDc (wr_12 hK hP (q0 := 0) rfl)) rfl rfl hl.1 rfl (lv_room (Nat.le_of_ble_eq_true rfl)) dX12_fate_14 ⟨Nat.le_of_ble_eq_true rfl, Nat.le_of_ble_eq_true rfl⟩) hS (fun q _ h => hFc q h) hFc (fun r9 u t H locs ht hvm hw hB hz1 hk1 hS => ?_)
  obtain ⟨hP, hD⟩ := wj_0 hFc ht hB
  rw [hw]
  refine lv_if_ne (tgt := 22) hx hb dX12_fate_17 (by decide) (fun hc => ?_) (fun hc => ?_)
  · replace hf := wb_f hc hf
    refine lv_iload_n hx hb dX12_fate_22 rfl (lv_at hl 2 rfl) ?_
    refine lv_iconst (v := (1 : Int32)) hx hb dX12_fate_23 (by decide) ?_
    refine lv_bipush (v := (12 : Int32)) hx hb dX12_fate_24 (by decide) ?_
    obtain ⟨r4, hr4, hf⟩ := wb_b hf
    refine vp_callSi (W.runS (As := [.int x2, .int (1 : Int32), .int (12 : Int32)]) (rest := []) ⟨hx, hb, hml, hown, hts⟩ (cn_X12_within l D cB cI cZ N x2 (1 : Int32) (12 : Int32) r4 hr4) (va_cwS 3 hts gX12_fate_X12_within rfl rfl rfl csX12_within ⟨Nat.le_of_ble_eq_true rfl, Nat.le_of_ble_eq_true rfl⟩) (wb_preS (hP.sub (ws' := ([] : va_W)) [] rfl) hK) rfl rfl hl.1 rfl (lv_room (Nat.le_of_ble_eq_true rfl)) dX12_fate_26 ⟨Nat.le_of_ble_eq_true rfl, Nat.le_of_ble_eq_true rfl⟩) (fun r9 e9 => ?_)
    rw [e9]
    refine lv_if_ne (tgt := 34) hx hb dX12_fate_29 (by decide) (fun hc => ?_) (fun hc => ?_)
    · replace hf := wb_f hc hf
      refine lv_aload_n hx hb dX12_fate_34 rfl (lv_at hl 0 rfl) ?_
      refine va_get (D := D) (ci := 12) (v := .ref (a0 35)) (C := RX12) (T := TX12) (N := 58) hx hb hts hinX12 hown hK hP 0 rfl rfl 54 (by decide) (hts (.fieldLink RX12 120 "WheelBookModel" "fate" "[I") (List.mem_of_getElem? (i := 2) rfl)) (fun _ h9 => h9) rfl dX12_fate_35 ?_
      refine lv_iload_n hx hb dX12_fate_38 rfl (lv_at hl 1 rfl) ?_
      refine lv_iload_n hx hb dX12_fate_39 rfl (lv_at hl 2 rfl) ?_
      obtain ⟨hin, hf⟩ := wb_n hf
      refine va_iast hx hb hK hP hD hS 35 1 rfl rfl hin dX12_fate_40 (fun H locs hP hD hS => ?_)
      have hP : va_P D vwCl (wWX12 cB cI cZ a0 r3.2.1 r3.2.2.1 (wb_um r3.2.2.2 34 (x1).toNatClampNeg x2)) H := hP
      have hD : va_D A (wWX12 cB cI cZ a0 r3.2.1 r3.2.2.1 (wb_um r3.2.2.2 34 (x1).toNatClampNeg x2)) := hD
      obtain ⟨M0_5, eM0_5, hf⟩ := wb_v hf
      rw [← eM0_5] at hP hD
      refine lv_iconst (v := (1 : Int32)) hx hb dX12_fate_41 (by decide) ?_
      exact W.zret (v := (1 : Int32)) hx hb hr (by decide) (fun t ht hW => by rw [← Option.some.inj hf]; exact ⟨⟨(1 : Int32), (), rfl, rfl, by rw [ht]; exact hP, va_K.moved hW.alike hK, hD⟩, hS.F ht⟩) hS.2.2 dX12_fate_42
    · replace hf := wb_t hc hf
      refine lv_iconst (v := (0 : Int32)) hx hb dX12_fate_32 (by decide) ?_
      exact W.zret (v := (0 : Int32)) hx hb hr (by decide) (fun t ht hW => by rw [← Option.some.inj hf]; exact ⟨⟨(0 : Int32), (), rfl, rfl, by rw [ht]; exact hP, va_K.moved hW.alike hK, hD⟩, hS.F ht⟩) hS.2.2 dX12_fate_33
  · replace hf := wb_t hc hf
    refine lv_iconst (v := (0 : Int32)) hx hb dX12_fate_20 (by decide) ?_
    exact W.zret (v := (0 : Int32)) hx hb hr (by decide) (fun t ht hW => by rw [← Option.some.inj hf]; exact ⟨⟨(0 : Int32), (), rfl, rfl, by rw [ht]; exact hP, va_K.moved hW.alike hK, hD⟩, hS.F ht⟩) hS.2.2 dX12_fate_21

set_option maxHeartbeats 4000000 in
set_option maxRecDepth 100000 in
theorem cn_X12_isHit (l : Launch) (D : va_G) (cB cI cZ : ClassId) (N : Nat) (a0 : Nat → Nat) (I0 : Nat → Int32) (L0 : Int64) (M0 : Nat → Nat → Int32) (x1 : Int32) (x2 : Int32) (x3 : Int32) (R : Int32) (hf : fX12_isHit N I0 L0 M0 x1 x2 x3 = some R) : Met l yX12_isHit wsX12_isHit ({ frames := 0, cells := 0, slots := 0, locals := 0 }) (va_Pc [.ref (a0 0), .int x1, .int x2, .int x3] (wb_pre D [(cB, .byte), (cI, .int), (cZ, .boolean)] (wWX12 cB cI cZ a0 I0 L0 M0))) (vp_Si (fun r => r = R)) 0 0 (fun _ => False) := by
  refine Met.ofW (cc := cX12_isHit) (maxL := 5) (ret := (some .boolean)) pn_X12 rfl ?_
  intro p e s m args below meth c s₁ B hml hv
  obtain ⟨rfl, hP, hK⟩ := hv
  have hx := B.exec
  have hb := B.bytes
  have hr := B.returns
  have hts := atoms_spec (ws := wsX12_isHit) B.pre
  have hown : s.vm.findClass RX12 = some m.cls := (findClass_of_methodNamed B.named :)
  have hlocks := B.notSynchronized
  have hinX12 : ∀ w ∈ u_ws RX12 TX12 58, w ∈ wsX12_isHit := fun w h => List.mem_cons_of_mem _ (List.mem_append_right _ h)
  have hl := lv_entry ([.ref (a0 0), .int x1, .int x2, .int x3]) (n := 5) (Nat.le_of_ble_eq_true rfl)
  rw [lg_entry_eq]
  generalize (lg_sl ([.ref (a0 0), .int x1, .int x2, .int x3]) ++ List.replicate (5 - (lg_sl ([.ref (a0 0), .int x1, .int x2, .int x3])).length) Slot.unset).toArray = ls at hl ⊢
  have hl : lv_has ls 5 [(0, .ref (a0 0)), (1, .int x1), (2, .int x2), (3, .int x3)] := hl
  unfold fX12_isHit at hf
  refine lv_aload_n hx hb dX12_isHit_0 rfl (lv_at hl 0 rfl) ?_
  refine va_get (D := D) (ci := 12) (v := .ref (a0 33)) (C := RX12) (T := TX12) (N := 58) hx hb hts hinX12 hown hK hP 0 rfl rfl 52 (by decide) (hts (.fieldLink RX12 114 "WheelBookModel" "foretold" "[I") (List.mem_of_getElem? (i := 1) rfl)) (fun _ h9 => h9) rfl dX12_isHit_1 ?_
  refine lv_iload_n hx hb dX12_isHit_4 rfl (lv_at hl 1 rfl) ?_
  obtain ⟨hin, hf⟩ := wb_n hf
  refine va_iald hx hb hK hP 33 1 rfl rfl hin dX12_isHit_5 ?_
  refine lv_aload_n hx hb dX12_isHit_6 rfl (lv_at hl 0 rfl) ?_
  refine va_get (D := D) (ci := 12) (v := .ref (a0 34)) (C := RX12) (T := TX12) (N := 58) hx hb hts hinX12 hown hK hP 0 rfl rfl 53 (by decide) (hts (.fieldLink RX12 117 "WheelBookModel" "came" "[I") (List.mem_of_getElem? (i := 2) rfl)) (fun _ h9 => h9) rfl dX12_isHit_7 ?_
  refine lv_iload_n hx hb dX12_isHit_10 rfl (lv_at hl 2 rfl) ?_
  obtain ⟨hin, hf⟩ := wb_n hf
  refine va_iald hx hb hK hP 34 1 rfl rfl hin dX12_isHit_11 ?_
  refine lv_isub hx hb dX12_isHit_12 ?_
  obtain ⟨v1, ev1, hf⟩ := wb_v hf
  refine wb_topi ev1 ?_
  refine lv_istore (lv' := [(4, .int v1), (0, .ref (a0 0)), (1, .int x1), (2, .int x2), (3, .int x3)]) hx hb dX12_isHit_13 hl (by decide) rfl (fun ls hl => ?_)
  refine lv_iload hx hb dX12_isHit_15 (lv_at hl 0 rfl) ?_
  refine lv_iload_n hx hb dX12_isHit_17 rfl (lv_at hl 4 rfl) ?_
  refine lv_icmp_gt (tgt := 32) hx hb dX12_isHit_18 (by decide) (fun hc => ?_) (fun hc => ?_)
  · replace hf := wb_t hc hf
    refine lv_iconst (v := (0 : Int32)) hx hb dX12_isHit_32 (by decide) ?_
    exact W.zret (v := (0 : Int32)) hx hb hr (by decide) (fun t ht hW => ⟨_, rfl, Option.some.inj hf, ht⟩) (fun _ h => nomatch h) dX12_isHit_33
  · replace hf := wb_f hc hf
    refine lv_iload hx hb dX12_isHit_21 (lv_at hl 0 rfl) ?_
    refine lv_iload_n hx hb dX12_isHit_23 rfl (lv_at hl 4 rfl) ?_
    refine lv_ineg hx hb dX12_isHit_24 ?_
    refine lv_icmp_lt (tgt := 32) hx hb dX12_isHit_25 (by decide) (fun hc => ?_) (fun hc => ?_)
    · replace hf := wb_t hc hf
      refine lv_iconst (v := (0 : Int32)) hx hb dX12_isHit_32 (by decide) ?_
      exact W.zret (v := (0 : Int32)) hx hb hr (by decide) (fun t ht hW => ⟨_, rfl, Option.some.inj hf, ht⟩) (fun _ h => nomatch h) dX12_isHit_33
    · replace hf := wb_f hc hf
      refine lv_iconst (v := (1 : Int32)) hx hb dX12_isHit_28 (by decide) ?_
      refine lv_goto (tgt := 33) hx hb dX12_isHit_29 (by decide) ?_
      exact W.zret (v := (1 : Int32)) hx hb hr (by decide) (fun t ht hW => ⟨_, rfl, Option.some.inj hf, ht⟩) (fun _ h => nomatch h) dX12_isHit_33

set_option maxHeartbeats 4000000 in
set_option maxRecDepth 100000 in
theorem cn_X12_isTold (l : Launch) (D : va_G) (cB cI cZ : ClassId) (N : Nat) (a0 : Nat → Nat) (I0 : Nat → Int32) (L0 : Int64) (M0 : Nat → Nat → Int32) (x1 : Int32) (x2 : Int32) (R : Int32) (hf : fX12_isTold N I0 L0 M0 x1 x2 = some R) : Met l yX12_isTold wsX12_isTold ({ frames := 1, cells := 0, slots := 0, locals := 22 }) (va_Pc [.ref (a0 0), .int x1, .int x2] (wb_pre D [(cB, .byte), (cI, .int), (cZ, .boolean)] (wWX12 cB cI cZ a0 I0 L0 M0))) (vp_Si (fun r => r = R)) 0 0 (fun _ => False) := by
  refine Met.ofW (cc := cX12_isTold) (maxL := 5) (ret := (some .boolean)) pn_X12 rfl ?_
  intro p e s m args below meth c s₁ B hml hv
  obtain ⟨rfl, hP, hK⟩ := hv
  have hx := B.exec
  have hb := B.bytes
  have hr := B.returns
  have hts := atoms_spec (ws := wsX12_isTold) B.pre
  have hown : s.vm.findClass RX12 = some m.cls := (findClass_of_methodNamed B.named :)
  have hlocks := B.notSynchronized
  have hinX12 : ∀ w ∈ u_ws RX12 TX12 58, w ∈ wsX12_isTold := fun w h => List.mem_cons_of_mem _ (List.mem_append_right _ h)
  have hl := lv_entry ([.ref (a0 0), .int x1, .int x2]) (n := 5) (Nat.le_of_ble_eq_true rfl)
  rw [lg_entry_eq]
  generalize (lg_sl ([.ref (a0 0), .int x1, .int x2]) ++ List.replicate (5 - (lg_sl ([.ref (a0 0), .int x1, .int x2])).length) Slot.unset).toArray = ls at hl ⊢
  have hl : lv_has ls 5 [(0, .ref (a0 0)), (1, .int x1), (2, .int x2)] := hl
  unfold fX12_isTold at hf
  refine lv_aload_n hx hb dX12_isTold_0 rfl (lv_at hl 0 rfl) ?_
  refine lv_iload_n hx hb dX12_isTold_1 rfl (lv_at hl 1 rfl) ?_
  refine lv_bipush (v := (7 : Int32)) hx hb dX12_isTold_2 (by decide) ?_
  obtain ⟨r1, hr1, hf⟩ := wb_b hf
  refine vp_callSi (W.runV (As := [.int x1, .int (7 : Int32)]) (rest := []) ⟨hx, hb, hml, hown, hts⟩ (cn_X12_at l D cB cI cZ N a0 I0 L0 M0 x1 (7 : Int32) r1 hr1) (cwV 2 hts gX12_isTold_X12_at rfl rfl rfl cdX12_at ⟨Nat.le_of_ble_eq_true rfl, Nat.le_of_ble_eq_true rfl⟩) (wb_preV hP hK (wr_12 hK hP (q0 := 0) rfl)) rfl rfl hl.1 rfl (lv_room (Nat.le_of_ble_eq_true rfl)) dX12_isTold_4 ⟨Nat.le_of_ble_eq_true rfl, Nat.le_of_ble_eq_true rfl⟩) (fun r9 e9 => ?_)
  rw [e9]
  refine lv_istore_n (lv' := [(3, .int r1), (0, .ref (a0 0)), (1, .int x1), (2, .int x2)]) hx hb dX12_isTold_7 rfl hl (by decide) rfl (fun ls hl => ?_)
  refine lv_aload_n hx hb dX12_isTold_8 rfl (lv_at hl 1 rfl) ?_
  refine lv_iload_n hx hb dX12_isTold_9 rfl (lv_at hl 2 rfl) ?_
  refine lv_bipush (v := (8 : Int32)) hx hb dX12_isTold_10 (by decide) ?_
  obtain ⟨r2, hr2, hf⟩ := wb_b hf
  refine vp_callSi (W.runV (As := [.int x1, .int (8 : Int32)]) (rest := []) ⟨hx, hb, hml, hown, hts⟩ (cn_X12_at l D cB cI cZ N a0 I0 L0 M0 x1 (8 : Int32) r2 hr2) (cwV 2 hts gX12_isTold_X12_at rfl rfl rfl cdX12_at ⟨Nat.le_of_ble_eq_true rfl, Nat.le_of_ble_eq_true rfl⟩) (wb_preV hP hK (wr_12 hK hP (q0 := 0) rfl)) rfl rfl hl.1 rfl (lv_room (Nat.le_of_ble_eq_true rfl)) dX12_isTold_12 ⟨Nat.le_of_ble_eq_true rfl, Nat.le_of_ble_eq_true rfl⟩) (fun r9 e9 => ?_)
  rw [e9]
  refine lv_istore (lv' := [(4, .int r2), (3, .int r1), (0, .ref (a0 0)), (1, .int x1), (2, .int x2)]) hx hb dX12_isTold_15 hl (by decide) rfl (fun ls hl => ?_)
  refine lv_iload_n hx hb dX12_isTold_17 rfl (lv_at hl 1 rfl) ?_
  refine lv_iconst (v := (-1 : Int32)) hx hb dX12_isTold_18 (by decide) ?_
  refine lv_icmp_eq (tgt := 56) hx hb dX12_isTold_19 (by decide) (fun hc => ?_) (fun hc => ?_)
  · replace hf := wb_t hc hf
    refine lv_iconst (v := (0 : Int32)) hx hb dX12_isTold_56 (by decide) ?_
    exact W.zret (v := (0 : Int32)) hx hb hr (by decide) (fun t ht hW => ⟨_, rfl, Option.some.inj hf, ht⟩) (fun _ h => nomatch h) dX12_isTold_57
  · replace hf := wb_f hc hf
    refine lv_iload hx hb dX12_isTold_22 (lv_at hl 0 rfl) ?_
    refine lv_iconst (v := (-1 : Int32)) hx hb dX12_isTold_24 (by decide) ?_
    refine lv_icmp_eq (tgt := 56) hx hb dX12_isTold_25 (by decide) (fun hc => ?_) (fun hc => ?_)
    · replace hf := wb_t hc hf
      refine lv_iconst (v := (0 : Int32)) hx hb dX12_isTold_56 (by decide) ?_
      exact W.zret (v := (0 : Int32)) hx hb hr (by decide) (fun t ht hW => ⟨_, rfl, Option.some.inj hf, ht⟩) (fun _ h => nomatch h) dX12_isTold_57
    · replace hf := wb_f hc hf
      refine lv_iload hx hb dX12_isTold_28 (lv_at hl 0 rfl) ?_
      refine lv_bipush (v := (30 : Int32)) hx hb dX12_isTold_30 (by decide) ?_
      refine lv_idiv hx hb dX12_isTold_32 (by decide) ?_
      refine lv_iload_n hx hb dX12_isTold_33 rfl (lv_at hl 1 rfl) ?_
      refine lv_bipush (v := (30 : Int32)) hx hb dX12_isTold_34 (by decide) ?_
      refine lv_idiv hx hb dX12_isTold_36 (by decide) ?_
      refine lv_aload_n hx hb dX12_isTold_37 rfl (lv_at hl 2 rfl) ?_
      refine va_get (D := D) (ci := 12) (v := .ref (a0 35)) (C := RX12) (T := TX12) (N := 58) hx hb hts hinX12 hown hK hP 0 rfl rfl 54 (by decide) (hts (.fieldLink RX12 120 "WheelBookModel" "fate" "[I") (List.mem_of_getElem? (i := 1) rfl)) (fun _ h9 => h9) rfl dX12_isTold_38 ?_
      refine lv_iload_n hx hb dX12_isTold_41 rfl (lv_at hl 4 rfl) ?_
      obtain ⟨hin, hf⟩ := wb_n hf
      refine va_iald hx hb hK hP 35 1 rfl rfl hin dX12_isTold_42 ?_
      refine lv_iadd hx hb dX12_isTold_43 ?_
      refine lv_iconst (v := (1 : Int32)) hx hb dX12_isTold_44 (by decide) ?_
      refine lv_isub hx hb dX12_isTold_45 ?_
      refine lv_bipush (v := (12 : Int32)) hx hb dX12_isTold_46 (by decide) ?_
      refine lv_irem hx hb dX12_isTold_48 (by decide) ?_
      refine lv_icmp_ne (tgt := 56) hx hb dX12_isTold_49 (by decide) (fun hc => ?_) (fun hc => ?_)
      · replace hf := wb_f hc hf
        refine lv_iconst (v := (0 : Int32)) hx hb dX12_isTold_56 (by decide) ?_
        exact W.zret (v := (0 : Int32)) hx hb hr (by decide) (fun t ht hW => ⟨_, rfl, Option.some.inj hf, ht⟩) (fun _ h => nomatch h) dX12_isTold_57
      · replace hf := wb_t hc hf
        refine lv_iconst (v := (1 : Int32)) hx hb dX12_isTold_52 (by decide) ?_
        refine lv_goto (tgt := 57) hx hb dX12_isTold_53 (by decide) ?_
        exact W.zret (v := (1 : Int32)) hx hb hr (by decide) (fun t ht hW => ⟨_, rfl, Option.some.inj hf, ht⟩) (fun _ h => nomatch h) dX12_isTold_57

set_option maxHeartbeats 4000000 in
set_option maxRecDepth 100000 in
theorem cn_X12_hitsBy (l : Launch) (D : va_G) (cB cI cZ : ClassId) (N : Nat) (a0 : Nat → Nat) (I0 : Nat → Int32) (L0 : Int64) (M0 : Nat → Nat → Int32) (x1 : Int32) (R : Int32) (hf : fX12_hitsBy N I0 L0 M0 x1 = some R) : Met l yX12_hitsBy wsX12_hitsBy ({ frames := 2, cells := 0, slots := 0, locals := 46 }) (va_Pc [.ref (a0 0), .int x1] (wb_pre D [(cB, .byte), (cI, .int), (cZ, .boolean)] (wWX12 cB cI cZ a0 I0 L0 M0))) (vp_Si (fun r => r = R)) 0 0 (fun _ => False) := by
  refine Met.ofW (cc := cX12_hitsBy) (maxL := 4) (ret := (some .int)) pn_X12 rfl ?_
  intro p e s m args below meth c s₁ B hml hv
  obtain ⟨rfl, hP, hK⟩ := hv
  have hx := B.exec
  have hb := B.bytes
  have hr := B.returns
  have hts := atoms_spec (ws := wsX12_hitsBy) B.pre
  have hown : s.vm.findClass RX12 = some m.cls := (findClass_of_methodNamed B.named :)
  have hlocks := B.notSynchronized
  have hinX12 : ∀ w ∈ u_ws RX12 TX12 58, w ∈ wsX12_hitsBy := fun w h => List.mem_cons_of_mem _ (List.mem_append_right _ h)
  have hl := lv_entry ([.ref (a0 0), .int x1]) (n := 4) (Nat.le_of_ble_eq_true rfl)
  rw [lg_entry_eq]
  generalize (lg_sl ([.ref (a0 0), .int x1]) ++ List.replicate (4 - (lg_sl ([.ref (a0 0), .int x1])).length) Slot.unset).toArray = ls at hl ⊢
  have hl : lv_has ls 4 [(0, .ref (a0 0)), (1, .int x1)] := hl
  unfold fX12_hitsBy at hf
  refine lv_iconst (v := (0 : Int32)) hx hb dX12_hitsBy_0 (by decide) ?_
  refine lv_istore_n (lv' := [(2, .int (0 : Int32)), (0, .ref (a0 0)), (1, .int x1)]) hx hb dX12_hitsBy_1 rfl hl (by decide) rfl (fun ls hl => ?_)
  refine lv_iconst (v := (0 : Int32)) hx hb dX12_hitsBy_2 (by decide) ?_
  refine lv_istore_n (lv' := [(3, .int (0 : Int32)), (2, .int (0 : Int32)), (0, .ref (a0 0)), (1, .int x1)]) hx hb dX12_hitsBy_3 rfl hl (by decide) rfl (fun ls hl => ?_)
  have Lh4 : ∀ (fu4 : Nat) (y4_2 : Int32) (y4_3 : Int32), ∀ (ls : Array Slot), lv_has ls 4 [(0, .ref (a0 0)), (1, .int x1), (2, .int y4_2), (3, .int y4_3)] → fX12_hitsBy_L4 N I0 L0 M0 x1 fu4 y4_2 y4_3 = some R → W p l e (headSpec wsX12_hitsBy { frames := 2, cells := 0, slots := 0, locals := 46 }).room s m [.ref (a0 0), .int x1].toArray below meth c s.heap [] 0 0 (MQ below (vp_Si (fun r => r = R)) [.ref (a0 0), .int x1].toArray s 0 0 (fun _ => False)) (F0 m 4 ls []) := by
    intro fu4
    induction fu4 with
    | zero =>
      intro y4_2 y4_3 ls hl hf
      exact absurd hf (by rw [fX12_hitsBy_L4.eq_1]; exact fun h => nomatch h)
    | succ fu4 ih4 =>
      intro y4_2 y4_3 ls hl hf
      rw [fX12_hitsBy_L4.eq_2] at hf
      refine lv_iload_n hx hb dX12_hitsBy_4 rfl (lv_at hl 3 rfl) ?_
      refine lv_aload_n hx hb dX12_hitsBy_5 rfl (lv_at hl 0 rfl) ?_
      refine va_get (D := D) (ci := 12) (v := .int (I0 19)) (C := RX12) (T := TX12) (N := 58) hx hb hts hinX12 hown hK hP 0 rfl rfl 55 (by decide) (hts (.fieldLink RX12 362 "WheelBookModel" "asked" "I") (List.mem_of_getElem? (i := 1) rfl)) (fun _ h9 => h9) rfl dX12_hitsBy_6 ?_
      refine lv_icmp_ge (tgt := 87) hx hb dX12_hitsBy_9 (by decide) (fun hc => ?_) (fun hc => ?_)
      · replace hf := wb_t hc hf
        refine lv_iload_n hx hb dX12_hitsBy_87 rfl (lv_at hl 2 rfl) ?_
        exact W.iret (v := y4_2) hx hb hr (fun t ht hW => ⟨_, rfl, Option.some.inj hf, ht⟩) (fun _ h => nomatch h) dX12_hitsBy_88
      · replace hf := wb_f hc hf
        refine lv_iload_n hx hb dX12_hitsBy_12 rfl (lv_at hl 2 rfl) ?_
        refine lv_iload_n hx hb dX12_hitsBy_13 rfl (lv_at hl 1 rfl) ?_
        refine lv_if_ge (tgt := 49) hx hb dX12_hitsBy_14 (by decide) (fun hc => ?_) (fun hc => ?_)
        · replace hf := wb_t hc hf
          refine lv_aload_n hx hb dX12_hitsBy_49 rfl (lv_at hl 0 rfl) ?_
          refine lv_aload_n hx hb dX12_hitsBy_50 rfl (lv_at hl 0 rfl) ?_
          refine va_get (D := D) (ci := 12) (v := .ref (a0 36)) (C := RX12) (T := TX12) (N := 58) hx hb hts hinX12 hown hK hP 0 rfl rfl 56 (by decide) (hts (.fieldLink RX12 123 "WheelBookModel" "who" "[I") (List.mem_of_getElem? (i := 2) rfl)) (fun _ h9 => h9) rfl dX12_hitsBy_51 ?_
          refine lv_iload_n hx hb dX12_hitsBy_54 rfl (lv_at hl 3 rfl) ?_
          obtain ⟨hin, hf⟩ := wb_n hf
          refine va_iald hx hb hK hP 36 1 rfl rfl hin dX12_hitsBy_55 ?_
          refine lv_aload_n hx hb dX12_hitsBy_56 rfl (lv_at hl 0 rfl) ?_
          refine va_get (D := D) (ci := 12) (v := .ref (a0 36)) (C := RX12) (T := TX12) (N := 58) hx hb hts hinX12 hown hK hP 0 rfl rfl 56 (by decide) (hts (.fieldLink RX12 123 "WheelBookModel" "who" "[I") (List.mem_of_getElem? (i := 2) rfl)) (fun _ h9 => h9) rfl dX12_hitsBy_57 ?_
          refine lv_aload_n hx hb dX12_hitsBy_60 rfl (lv_at hl 0 rfl) ?_
          refine va_get (D := D) (ci := 12) (v := .ref (a0 37)) (C := RX12) (T := TX12) (N := 58) hx hb hts hinX12 hown hK hP 0 rfl rfl 57 (by decide) (hts (.fieldLink RX12 126 "WheelBookModel" "turn" "[I") (List.mem_of_getElem? (i := 3) rfl)) (fun _ h9 => h9) rfl dX12_hitsBy_61 ?_
          refine lv_iload_n hx hb dX12_hitsBy_64 rfl (lv_at hl 3 rfl) ?_
          obtain ⟨hin, hf⟩ := wb_n hf
          refine va_iald hx hb hK hP 37 1 rfl rfl hin dX12_hitsBy_65 ?_
          obtain ⟨hin, hf⟩ := wb_n hf
          refine va_iald hx hb hK hP 36 1 rfl rfl hin dX12_hitsBy_66 ?_
          refine lv_iload_n hx hb dX12_hitsBy_67 rfl (lv_at hl 1 rfl) ?_
          obtain ⟨r1, hr1, hf⟩ := wb_b hf
          refine vp_callSi (W.runV (As := [.int (M0 35 (y4_3).toNatClampNeg), .int (M0 35 ((M0 36 (y4_3).toNatClampNeg)).toNatClampNeg), .int x1]) (rest := [.int y4_2]) ⟨hx, hb, hml, hown, hts⟩ (cn_X12_isHit l D cB cI cZ N a0 I0 L0 M0 (M0 35 (y4_3).toNatClampNeg) (M0 35 ((M0 36 (y4_3).toNatClampNeg)).toNatClampNeg) x1 r1 hr1) (cwV 3 hts gX12_hitsBy_X12_isHit rfl rfl rfl cdX12_isHit ⟨Nat.le_of_ble_eq_true rfl, Nat.le_of_ble_eq_true rfl⟩) (wb_preV hP hK (wr_12 hK hP (q0 := 0) rfl)) rfl rfl hl.1 rfl (lv_room (Nat.le_of_ble_eq_true rfl)) dX12_hitsBy_68 ⟨Nat.le_of_ble_eq_true rfl, Nat.le_of_ble_eq_true rfl⟩) (fun r9 e9 => ?_)
          rw [e9]
          refine lv_if_eq (tgt := 78) hx hb dX12_hitsBy_71 (by decide) (fun hc => ?_) (fun hc => ?_)
          · replace hf := wb_t hc hf
            refine lv_iconst (v := (0 : Int32)) hx hb dX12_hitsBy_78 (by decide) ?_
            refine lv_iadd hx hb dX12_hitsBy_79 ?_
            obtain ⟨v2, ev2, hf⟩ := wb_v hf
            refine wb_topi ev2 ?_
            refine lv_istore_n (lv' := [(2, .int v2), (0, .ref (a0 0)), (1, .int x1), (3, .int y4_3)]) hx hb dX12_hitsBy_80 rfl hl (by decide) rfl (fun ls hl => ?_)
            obtain ⟨v3, ev3, hf⟩ := wb_v hf
            refine lv_iinc (v := v3) (lv' := [(3, .int v3), (2, .int v2), (0, .ref (a0 0)), (1, .int x1)]) hx hb dX12_hitsBy_81 hl (k := 3) rfl (by rw [ev3]; rfl) (by decide) rfl (fun ls hl => ?_)
            refine lv_goto (tgt := 4) hx hb dX12_hitsBy_84 (by decide) ?_
            exact ih4 v2 v3 ls (lv_sub hl [2, 3, 1, 0] rfl) hf
          · replace hf := wb_f hc hf
            refine lv_iconst (v := (1 : Int32)) hx hb dX12_hitsBy_74 (by decide) ?_
            refine lv_goto (tgt := 79) hx hb dX12_hitsBy_75 (by decide) ?_
            refine lv_iadd hx hb dX12_hitsBy_79 ?_
            obtain ⟨v4, ev4, hf⟩ := wb_v hf
            refine wb_topi ev4 ?_
            refine lv_istore_n (lv' := [(2, .int v4), (0, .ref (a0 0)), (1, .int x1), (3, .int y4_3)]) hx hb dX12_hitsBy_80 rfl hl (by decide) rfl (fun ls hl => ?_)
            obtain ⟨v5, ev5, hf⟩ := wb_v hf
            refine lv_iinc (v := v5) (lv' := [(3, .int v5), (2, .int v4), (0, .ref (a0 0)), (1, .int x1)]) hx hb dX12_hitsBy_81 hl (k := 3) rfl (by rw [ev5]; rfl) (by decide) rfl (fun ls hl => ?_)
            refine lv_goto (tgt := 4) hx hb dX12_hitsBy_84 (by decide) ?_
            exact ih4 v4 v5 ls (lv_sub hl [2, 3, 1, 0] rfl) hf
        · replace hf := wb_f hc hf
          refine lv_aload_n hx hb dX12_hitsBy_17 rfl (lv_at hl 0 rfl) ?_
          refine lv_aload_n hx hb dX12_hitsBy_18 rfl (lv_at hl 0 rfl) ?_
          refine va_get (D := D) (ci := 12) (v := .ref (a0 36)) (C := RX12) (T := TX12) (N := 58) hx hb hts hinX12 hown hK hP 0 rfl rfl 56 (by decide) (hts (.fieldLink RX12 123 "WheelBookModel" "who" "[I") (List.mem_of_getElem? (i := 2) rfl)) (fun _ h9 => h9) rfl dX12_hitsBy_19 ?_
          refine lv_iload_n hx hb dX12_hitsBy_22 rfl (lv_at hl 3 rfl) ?_
          obtain ⟨hin, hf⟩ := wb_n hf
          refine va_iald hx hb hK hP 36 1 rfl rfl hin dX12_hitsBy_23 ?_
          refine lv_aload_n hx hb dX12_hitsBy_24 rfl (lv_at hl 0 rfl) ?_
          refine va_get (D := D) (ci := 12) (v := .ref (a0 36)) (C := RX12) (T := TX12) (N := 58) hx hb hts hinX12 hown hK hP 0 rfl rfl 56 (by decide) (hts (.fieldLink RX12 123 "WheelBookModel" "who" "[I") (List.mem_of_getElem? (i := 2) rfl)) (fun _ h9 => h9) rfl dX12_hitsBy_25 ?_
          refine lv_aload_n hx hb dX12_hitsBy_28 rfl (lv_at hl 0 rfl) ?_
          refine va_get (D := D) (ci := 12) (v := .ref (a0 37)) (C := RX12) (T := TX12) (N := 58) hx hb hts hinX12 hown hK hP 0 rfl rfl 57 (by decide) (hts (.fieldLink RX12 126 "WheelBookModel" "turn" "[I") (List.mem_of_getElem? (i := 3) rfl)) (fun _ h9 => h9) rfl dX12_hitsBy_29 ?_
          refine lv_iload_n hx hb dX12_hitsBy_32 rfl (lv_at hl 3 rfl) ?_
          obtain ⟨hin, hf⟩ := wb_n hf
          refine va_iald hx hb hK hP 37 1 rfl rfl hin dX12_hitsBy_33 ?_
          obtain ⟨hin, hf⟩ := wb_n hf
          refine va_iald hx hb hK hP 36 1 rfl rfl hin dX12_hitsBy_34 ?_
          obtain ⟨r6, hr6, hf⟩ := wb_b hf
          refine vp_callSi (W.runV (As := [.int (M0 35 (y4_3).toNatClampNeg), .int (M0 35 ((M0 36 (y4_3).toNatClampNeg)).toNatClampNeg)]) (rest := [.int y4_2]) ⟨hx, hb, hml, hown, hts⟩ (cn_X12_isTold l D cB cI cZ N a0 I0 L0 M0 (M0 35 (y4_3).toNatClampNeg) (M0 35 ((M0 36 (y4_3).toNatClampNeg)).toNatClampNeg) r6 hr6) (cwV 2 hts gX12_hitsBy_X12_isTold rfl rfl rfl cdX12_isTold ⟨Nat.le_of_ble_eq_true rfl, Nat.le_of_ble_eq_true rfl⟩) (wb_preV hP hK (wr_12 hK hP (q0 := 0) rfl)) rfl rfl hl.1 rfl (lv_room (Nat.le_of_ble_eq_true rfl)) dX12_hitsBy_35 ⟨Nat.le_of_ble_eq_true rfl, Nat.le_of_ble_eq_true rfl⟩) (fun r9 e9 => ?_)
          rw [e9]
          refine lv_if_eq (tgt := 45) hx hb dX12_hitsBy_38 (by decide) (fun hc => ?_) (fun hc => ?_)
          · replace hf := wb_t hc hf
            refine lv_iconst (v := (0 : Int32)) hx hb dX12_hitsBy_45 (by decide) ?_
            refine lv_goto (tgt := 79) hx hb dX12_hitsBy_46 (by decide) ?_
            refine lv_iadd hx hb dX12_hitsBy_79 ?_
            obtain ⟨v7, ev7, hf⟩ := wb_v hf
            refine wb_topi ev7 ?_
            refine lv_istore_n (lv' := [(2, .int v7), (0, .ref (a0 0)), (1, .int x1), (3, .int y4_3)]) hx hb dX12_hitsBy_80 rfl hl (by decide) rfl (fun ls hl => ?_)
            obtain ⟨v8, ev8, hf⟩ := wb_v hf
            refine lv_iinc (v := v8) (lv' := [(3, .int v8), (2, .int v7), (0, .ref (a0 0)), (1, .int x1)]) hx hb dX12_hitsBy_81 hl (k := 3) rfl (by rw [ev8]; rfl) (by decide) rfl (fun ls hl => ?_)
            refine lv_goto (tgt := 4) hx hb dX12_hitsBy_84 (by decide) ?_
            exact ih4 v7 v8 ls (lv_sub hl [2, 3, 1, 0] rfl) hf
          · replace hf := wb_f hc hf
            refine lv_iconst (v := (1 : Int32)) hx hb dX12_hitsBy_41 (by decide) ?_
            refine lv_goto (tgt := 79) hx hb dX12_hitsBy_42 (by decide) ?_
            refine lv_iadd hx hb dX12_hitsBy_79 ?_
            obtain ⟨v9, ev9, hf⟩ := wb_v hf
            refine wb_topi ev9 ?_
            refine lv_istore_n (lv' := [(2, .int v9), (0, .ref (a0 0)), (1, .int x1), (3, .int y4_3)]) hx hb dX12_hitsBy_80 rfl hl (by decide) rfl (fun ls hl => ?_)
            obtain ⟨v10, ev10, hf⟩ := wb_v hf
            refine lv_iinc (v := v10) (lv' := [(3, .int v10), (2, .int v9), (0, .ref (a0 0)), (1, .int x1)]) hx hb dX12_hitsBy_81 hl (k := 3) rfl (by rw [ev10]; rfl) (by decide) rfl (fun ls hl => ?_)
            refine lv_goto (tgt := 4) hx hb dX12_hitsBy_84 (by decide) ?_
            exact ih4 v9 v10 ls (lv_sub hl [2, 3, 1, 0] rfl) hf
  exact Lh4 N (0 : Int32) (0 : Int32) ls (lv_sub hl [2, 3, 1, 0] rfl) hf

set_option maxHeartbeats 4000000 in
set_option maxRecDepth 100000 in
theorem cn_X12_swaps (l : Launch) (D : va_G) (cB cI cZ : ClassId) (N : Nat) (a0 : Nat → Nat) (I0 : Nat → Int32) (L0 : Int64) (M0 : Nat → Nat → Int32) (x1 : Int32) (x2 : Int32) (sz : Nat) (R : (Nat → Int32) × Int64 × (Nat → Nat → Int32)) (hf : fX12_swaps N I0 L0 M0 x1 x2 = some R) : Met l yX12_swaps wsX12_swaps ({ frames := 0, cells := 0, slots := 0, locals := 0 }) (va_Pc [.ref (a0 0), .int x1, .int x2] (wb_preD D [(cB, .byte), (cI, .int), (cZ, .boolean)] (wWX12 cB cI cZ a0 I0 L0 M0) sz)) (va_Qv (fun _ : Unit => True) (fun _ t => wb_post D [(cB, .byte), (cI, .int), (cZ, .boolean)] (va_A (wWX12 cB cI cZ a0 I0 L0 M0) sz) (wWX12 cB cI cZ a0 R.1 R.2.1 R.2.2) t) (va_A (wWX12 cB cI cZ a0 I0 L0 M0) sz)) 0 0 (va_A (wWX12 cB cI cZ a0 I0 L0 M0) sz) := by
  refine Met.ofW (cc := cX12_swaps) (maxL := 4) (ret := none) pn_X12 rfl ?_
  intro p e s m args below meth c s₁ B hml hv
  obtain ⟨rfl, hsz, hP, hK, hD0⟩ := hv
  have hx := B.exec
  have hb := B.bytes
  have hr := B.returns
  have hts := atoms_spec (ws := wsX12_swaps) B.pre
  have hown : s.vm.findClass RX12 = some m.cls := (findClass_of_methodNamed B.named :)
  have hlocks := B.notSynchronized
  have hinX12 : ∀ w ∈ u_ws RX12 TX12 58, w ∈ wsX12_swaps := fun w h => List.mem_cons_of_mem _ (List.mem_append_right _ h)
  subst hsz
  have hD := hD0.self (sz := s.heap.size)
  generalize hAe : va_A (wWX12 cB cI cZ a0 I0 L0 M0) s.heap.size = A at hD ⊢
  have hA : ∀ q : Nat, s.heap.size ≤ q → A q := fun q h => by rw [← hAe]; exact Or.inr h
  have hS : va_S A s.heap s.heap [] := va_S.rf
  have hl := lv_entry ([.ref (a0 0), .int x1, .int x2]) (n := 4) (Nat.le_of_ble_eq_true rfl)
  rw [lg_entry_eq]
  generalize (lg_sl ([.ref (a0 0), .int x1, .int x2]) ++ List.replicate (4 - (lg_sl ([.ref (a0 0), .int x1, .int x2])).length) Slot.unset).toArray = ls at hl ⊢
  have hl : lv_has ls 4 [(0, .ref (a0 0)), (1, .int x1), (2, .int x2)] := hl
  unfold fX12_swaps at hf
  obtain ⟨H, hHe⟩ : ∃ H : Heap, H = s.heap := ⟨_, rfl⟩
  obtain ⟨locs, hle⟩ : ∃ locs : List Loc, locs = [] := ⟨_, rfl⟩
  refine wb_start (H := H) (locs := locs) hHe hle ?_
  rw [← hHe] at hP
  have hS : va_S A s.heap H locs := by rw [hHe, hle]; exact va_S.rf
  refine lv_aload_n hx hb dX12_swaps_0 rfl (lv_at hl 0 rfl) ?_
  refine va_get (D := D) (ci := 12) (v := .ref (a0 37)) (C := RX12) (T := TX12) (N := 58) hx hb hts hinX12 hown hK hP 0 rfl rfl 57 (by decide) (hts (.fieldLink RX12 126 "WheelBookModel" "turn" "[I") (List.mem_of_getElem? (i := 1) rfl)) (fun _ h9 => h9) rfl dX12_swaps_1 ?_
  refine lv_iload_n hx hb dX12_swaps_4 rfl (lv_at hl 1 rfl) ?_
  obtain ⟨hin, hf⟩ := wb_n hf
  refine va_iald hx hb hK hP 37 1 rfl rfl hin dX12_swaps_5 ?_
  obtain ⟨v1, ev1, hf⟩ := wb_v hf
  refine wb_topi ev1 ?_
  refine lv_istore_n (lv' := [(3, .int v1), (0, .ref (a0 0)), (1, .int x1), (2, .int x2)]) hx hb dX12_swaps_6 rfl hl (by decide) rfl (fun ls hl => ?_)
  refine lv_aload_n hx hb dX12_swaps_7 rfl (lv_at hl 1 rfl) ?_
  refine va_get (D := D) (ci := 12) (v := .ref (a0 37)) (C := RX12) (T := TX12) (N := 58) hx hb hts hinX12 hown hK hP 0 rfl rfl 57 (by decide) (hts (.fieldLink RX12 126 "WheelBookModel" "turn" "[I") (List.mem_of_getElem? (i := 1) rfl)) (fun _ h9 => h9) rfl dX12_swaps_8 ?_
  refine lv_iload_n hx hb dX12_swaps_11 rfl (lv_at hl 2 rfl) ?_
  refine lv_aload_n hx hb dX12_swaps_12 rfl (lv_at hl 1 rfl) ?_
  refine va_get (D := D) (ci := 12) (v := .ref (a0 37)) (C := RX12) (T := TX12) (N := 58) hx hb hts hinX12 hown hK hP 0 rfl rfl 57 (by decide) (hts (.fieldLink RX12 126 "WheelBookModel" "turn" "[I") (List.mem_of_getElem? (i := 1) rfl)) (fun _ h9 => h9) rfl dX12_swaps_13 ?_
  refine lv_iload_n hx hb dX12_swaps_16 rfl (lv_at hl 3 rfl) ?_
  obtain ⟨hin, hf⟩ := wb_n hf
  refine va_iald hx hb hK hP 37 1 rfl rfl hin dX12_swaps_17 ?_
  obtain ⟨hin, hf⟩ := wb_n hf
  refine va_iast hx hb hK hP hD hS 37 1 rfl rfl hin dX12_swaps_18 (fun H locs hP hD hS => ?_)
  have hP : va_P D vwCl (wWX12 cB cI cZ a0 I0 L0 (wb_um M0 36 (x1).toNatClampNeg (M0 36 (x2).toNatClampNeg))) H := hP
  have hD : va_D A (wWX12 cB cI cZ a0 I0 L0 (wb_um M0 36 (x1).toNatClampNeg (M0 36 (x2).toNatClampNeg))) := hD
  obtain ⟨M0_2, eM0_2, hf⟩ := wb_v hf
  rw [← eM0_2] at hP hD
  refine lv_aload_n hx hb dX12_swaps_19 rfl (lv_at hl 1 rfl) ?_
  refine va_get (D := D) (ci := 12) (v := .ref (a0 37)) (C := RX12) (T := TX12) (N := 58) hx hb hts hinX12 hown hK hP 0 rfl rfl 57 (by decide) (hts (.fieldLink RX12 126 "WheelBookModel" "turn" "[I") (List.mem_of_getElem? (i := 1) rfl)) (fun _ h9 => h9) rfl dX12_swaps_20 ?_
  refine lv_iload_n hx hb dX12_swaps_23 rfl (lv_at hl 3 rfl) ?_
  refine lv_iload_n hx hb dX12_swaps_24 rfl (lv_at hl 0 rfl) ?_
  obtain ⟨hin, hf⟩ := wb_n hf
  refine va_iast hx hb hK hP hD hS 37 1 rfl rfl hin dX12_swaps_25 (fun H locs hP hD hS => ?_)
  have hP : va_P D vwCl (wWX12 cB cI cZ a0 I0 L0 (wb_um M0_2 36 (x2).toNatClampNeg v1)) H := hP
  have hD : va_D A (wWX12 cB cI cZ a0 I0 L0 (wb_um M0_2 36 (x2).toNatClampNeg v1)) := hD
  obtain ⟨M0_3, eM0_3, hf⟩ := wb_v hf
  rw [← eM0_3] at hP hD
  exact W.vret hx hb hr (fun t ht hW => by rw [← Option.some.inj hf]; exact ⟨⟨(), rfl, trivial, by rw [ht]; exact hP, va_K.moved hW.alike hK, hD⟩, hS.F ht⟩) hS.2.2 dX12_swaps_26

set_option maxHeartbeats 4000000 in
set_option maxRecDepth 100000 in
theorem cn_X12_turns (l : Launch) (D : va_G) (cB cI cZ : ClassId) (N : Nat) (a0 : Nat → Nat) (I0 : Nat → Int32) (L0 : Int64) (M0 : Nat → Nat → Int32) (sz : Nat) (R : Int32 × (Nat → Int32) × Int64 × (Nat → Nat → Int32)) (hf : fX12_turns N I0 L0 M0 = some R) : Met l yX12_turns wsX12_turns ({ frames := 1, cells := 0, slots := 0, locals := 23 }) (va_Pc [.ref (a0 0)] (wb_preD D [(cB, .byte), (cI, .int), (cZ, .boolean)] (wWX12 cB cI cZ a0 I0 L0 M0) sz)) (va_Qi (fun r (_ : Unit) => r = R.1) (fun _ t => wb_post D [(cB, .byte), (cI, .int), (cZ, .boolean)] (va_A (wWX12 cB cI cZ a0 I0 L0 M0) sz) (wWX12 cB cI cZ a0 R.2.1 R.2.2.1 R.2.2.2) t) (va_A (wWX12 cB cI cZ a0 I0 L0 M0) sz)) 0 0 (va_A (wWX12 cB cI cZ a0 I0 L0 M0) sz) := by
  refine Met.ofW (cc := cX12_turns) (maxL := 5) (ret := (some .boolean)) pn_X12 rfl ?_
  intro p e s m args below meth c s₁ B hml hv
  obtain ⟨rfl, hsz, hP, hK, hD0⟩ := hv
  have hx := B.exec
  have hb := B.bytes
  have hr := B.returns
  have hts := atoms_spec (ws := wsX12_turns) B.pre
  have hown : s.vm.findClass RX12 = some m.cls := (findClass_of_methodNamed B.named :)
  have hlocks := B.notSynchronized
  have hinX12 : ∀ w ∈ u_ws RX12 TX12 58, w ∈ wsX12_turns := fun w h => List.mem_cons_of_mem _ (List.mem_append_right _ h)
  subst hsz
  have hD := hD0.self (sz := s.heap.size)
  generalize hAe : va_A (wWX12 cB cI cZ a0 I0 L0 M0) s.heap.size = A at hD ⊢
  have hA : ∀ q : Nat, s.heap.size ≤ q → A q := fun q h => by rw [← hAe]; exact Or.inr h
  have hS : va_S A s.heap s.heap [] := va_S.rf
  have hl := lv_entry ([.ref (a0 0)]) (n := 5) (Nat.le_of_ble_eq_true rfl)
  rw [lg_entry_eq]
  generalize (lg_sl ([.ref (a0 0)]) ++ List.replicate (5 - (lg_sl ([.ref (a0 0)])).length) Slot.unset).toArray = ls at hl ⊢
  have hl : lv_has ls 5 [(0, .ref (a0 0))] := hl
  unfold fX12_turns at hf
  obtain ⟨H, hHe⟩ : ∃ H : Heap, H = s.heap := ⟨_, rfl⟩
  obtain ⟨locs, hle⟩ : ∃ locs : List Loc, locs = [] := ⟨_, rfl⟩
  refine wb_start (H := H) (locs := locs) hHe hle ?_
  rw [← hHe] at hP
  have hS : va_S A s.heap H locs := by rw [hHe, hle]; exact va_S.rf
  have J34 : ∀ (I0_j34 : Nat → Int32) (L0_j34 : Int64) (M0_j34 : Nat → Nat → Int32) (y34_1 : Int32) (H : Heap) (locs : List Loc), va_P D vwCl (wWX12 cB cI cZ a0 I0_j34 L0_j34 M0_j34) H → va_D A (wWX12 cB cI cZ a0 I0_j34 L0_j34 M0_j34) → va_S A s.heap H locs → ∀ (ls : Array Slot), lv_has ls 5 [(0, .ref (a0 0)), (1, .int y34_1)] → fX12_turns_J34 N I0_j34 L0_j34 M0_j34 y34_1 = some R → W p l e (headSpec wsX12_turns { frames := 1, cells := 0, slots := 0, locals := 23 }).room s m [.ref (a0 0)].toArray below meth c H locs 0 0 (MQ below (va_Qi (fun r (_ : Unit) => r = R.1) (fun _ t => wb_post D [(cB, .byte), (cI, .int), (cZ, .boolean)] A (wWX12 cB cI cZ a0 R.2.1 R.2.2.1 R.2.2.2) t) A) [.ref (a0 0)].toArray s 0 0 A) (F0 m 34 ls []) := by
    intro I0_j34 L0_j34 M0_j34 y34_1 H locs hP hD hS ls hl hf
    unfold fX12_turns_J34 at hf
    refine lv_iload_n hx hb dX12_turns_34 rfl (lv_at hl 1 rfl) ?_
    refine lv_if_ge (tgt := 40) hx hb dX12_turns_35 (by decide) (fun hc => ?_) (fun hc => ?_)
    · replace hf := wb_t hc hf
      refine lv_aload_n hx hb dX12_turns_40 rfl (lv_at hl 0 rfl) ?_
      refine va_get (D := D) (ci := 12) (v := .int (I0_j34 19)) (C := RX12) (T := TX12) (N := 58) hx hb hts hinX12 hown hK hP 0 rfl rfl 55 (by decide) (hts (.fieldLink RX12 362 "WheelBookModel" "asked" "I") (List.mem_of_getElem? (i := 1) rfl)) (fun _ h9 => h9) rfl dX12_turns_41 ?_
      refine lv_iconst (v := (1 : Int32)) hx hb dX12_turns_44 (by decide) ?_
      refine lv_isub hx hb dX12_turns_45 ?_
      obtain ⟨v1, ev1, hf⟩ := wb_v hf
      refine wb_topi ev1 ?_
      refine lv_istore_n (lv' := [(2, .int v1), (0, .ref (a0 0)), (1, .int y34_1)]) hx hb dX12_turns_46 rfl hl (by decide) rfl (fun ls hl => ?_)
      have Lh47 : ∀ (fu47 : Nat) (I0_l47 : Nat → Int32) (L0_l47 : Int64) (M0_l47 : Nat → Nat → Int32) (y47_2 : Int32) (H : Heap) (locs : List Loc), va_P D vwCl (wWX12 cB cI cZ a0 I0_l47 L0_l47 M0_l47) H → va_D A (wWX12 cB cI cZ a0 I0_l47 L0_l47 M0_l47) → va_S A s.heap H locs → ∀ (ls : Array Slot), lv_has ls 5 [(0, .ref (a0 0)), (1, .int y34_1), (2, .int y47_2)] → fX12_turns_L47 N y34_1 fu47 I0_l47 L0_l47 M0_l47 y47_2 = some R → W p l e (headSpec wsX12_turns { frames := 1, cells := 0, slots := 0, locals := 23 }).room s m [.ref (a0 0)].toArray below meth c H locs 0 0 (MQ below (va_Qi (fun r (_ : Unit) => r = R.1) (fun _ t => wb_post D [(cB, .byte), (cI, .int), (cZ, .boolean)] A (wWX12 cB cI cZ a0 R.2.1 R.2.2.1 R.2.2.2) t) A) [.ref (a0 0)].toArray s 0 0 A) (F0 m 47 ls []) := by
        intro fu47
        induction fu47 with
        | zero =>
          intro I0_l47 L0_l47 M0_l47 y47_2 H locs hP hD hS ls hl hf
          exact absurd hf (by rw [fX12_turns_L47.eq_1]; exact fun h => nomatch h)
        | succ fu47 ih47 =>
          intro I0_l47 L0_l47 M0_l47 y47_2 H locs hP hD hS ls hl hf
          rw [fX12_turns_L47.eq_2] at hf
          refine lv_aload_n hx hb dX12_turns_47 rfl (lv_at hl 0 rfl) ?_
          refine va_get (D := D) (ci := 12) (v := .ref (a0 37)) (C := RX12) (T := TX12) (N := 58) hx hb hts hinX12 hown hK hP 0 rfl rfl 57 (by decide) (hts (.fieldLink RX12 126 "WheelBookModel" "turn" "[I") (List.mem_of_getElem? (i := 2) rfl)) (fun _ h9 => h9) rfl dX12_turns_48 ?_
          refine lv_iload_n hx hb dX12_turns_51 rfl (lv_at hl 2 rfl) ?_
          obtain ⟨hin, hf⟩ := wb_n hf
          refine va_iald hx hb hK hP 37 1 rfl rfl hin dX12_turns_52 ?_
          refine lv_aload_n hx hb dX12_turns_53 rfl (lv_at hl 0 rfl) ?_
          refine va_get (D := D) (ci := 12) (v := .ref (a0 37)) (C := RX12) (T := TX12) (N := 58) hx hb hts hinX12 hown hK hP 0 rfl rfl 57 (by decide) (hts (.fieldLink RX12 126 "WheelBookModel" "turn" "[I") (List.mem_of_getElem? (i := 2) rfl)) (fun _ h9 => h9) rfl dX12_turns_54 ?_
          refine lv_iload_n hx hb dX12_turns_57 rfl (lv_at hl 1 rfl) ?_
          obtain ⟨hin, hf⟩ := wb_n hf
          refine va_iald hx hb hK hP 37 1 rfl rfl hin dX12_turns_58 ?_
          refine lv_icmp_ge (tgt := 68) hx hb dX12_turns_59 (by decide) (fun hc => ?_) (fun hc => ?_)
          · replace hf := wb_t hc hf
            refine lv_aload_n hx hb dX12_turns_68 rfl (lv_at hl 0 rfl) ?_
            refine lv_iload_n hx hb dX12_turns_69 rfl (lv_at hl 1 rfl) ?_
            refine lv_iload_n hx hb dX12_turns_70 rfl (lv_at hl 2 rfl) ?_
            obtain ⟨r2, hr2, hf⟩ := wb_b hf
            have hPc := hP
            have hDc := hD
            have hFc := wj_F hDc hS hA
            refine va_callv (va_runV (As := [.int y34_1, .int y47_2]) (rest := []) ⟨hx, hb, hml, hown, hts⟩ (cn_X12_swaps l D cB cI cZ N a0 I0_l47 L0_l47 M0_l47 y34_1 y47_2 H.size r2 hr2) (cwV 2 hts gX12_turns_X12_swaps rfl rfl rfl cdX12_swaps ⟨Nat.le_of_ble_eq_true rfl, Nat.le_of_ble_eq_true rfl⟩) (wb_preDV hPc hK hDc (wr_12 hK hP (q0 := 0) rfl)) rfl rfl hl.1 rfl (lv_room (Nat.le_of_ble_eq_true rfl)) dX12_turns_71 ⟨Nat.le_of_ble_eq_true rfl, Nat.le_of_ble_eq_true rfl⟩) hS (fun q _ h => hFc q h) hFc (fun u t H locs ht hvm hw hB hz1 hk1 hS => ?_)
            obtain ⟨hP, hD⟩ := wj_0 hFc ht hB
            refine lv_iload_n hx hb dX12_turns_74 rfl (lv_at hl 1 rfl) ?_
            refine lv_iconst (v := (1 : Int32)) hx hb dX12_turns_75 (by decide) ?_
            refine lv_iadd hx hb dX12_turns_76 ?_
            obtain ⟨v3, ev3, hf⟩ := wb_v hf
            refine wb_topi ev3 ?_
            refine lv_istore_n (lv' := [(3, .int v3), (0, .ref (a0 0)), (1, .int y34_1), (2, .int y47_2)]) hx hb dX12_turns_77 rfl hl (by decide) rfl (fun ls hl => ?_)
            refine lv_aload_n hx hb dX12_turns_78 rfl (lv_at hl 1 rfl) ?_
            refine va_get (D := D) (ci := 12) (v := .int (r2.1 19)) (C := RX12) (T := TX12) (N := 58) hx hb hts hinX12 hown hK hP 0 rfl rfl 55 (by decide) (hts (.fieldLink RX12 362 "WheelBookModel" "asked" "I") (List.mem_of_getElem? (i := 1) rfl)) (fun _ h9 => h9) rfl dX12_turns_79 ?_
            refine lv_iconst (v := (1 : Int32)) hx hb dX12_turns_82 (by decide) ?_
            refine lv_isub hx hb dX12_turns_83 ?_
            obtain ⟨v4, ev4, hf⟩ := wb_v hf
            refine wb_topi ev4 ?_
            refine lv_istore (lv' := [(4, .int v4), (3, .int v3), (0, .ref (a0 0)), (1, .int y34_1), (2, .int y47_2)]) hx hb dX12_turns_84 hl (by decide) rfl (fun ls hl => ?_)
            have Lh86 : ∀ (fu86 : Nat) (I0_l86 : Nat → Int32) (L0_l86 : Int64) (M0_l86 : Nat → Nat → Int32) (y86_3 : Int32) (y86_4 : Int32) (H : Heap) (locs : List Loc), va_P D vwCl (wWX12 cB cI cZ a0 I0_l86 L0_l86 M0_l86) H → va_D A (wWX12 cB cI cZ a0 I0_l86 L0_l86 M0_l86) → va_S A s.heap H locs → ∀ (ls : Array Slot), lv_has ls 5 [(0, .ref (a0 0)), (3, .int y86_3), (4, .int y86_4)] → fX12_turns_L86 N (fX12_turns_L47 N y34_1 fu47) fu86 I0_l86 L0_l86 M0_l86 y86_3 y86_4 = some R → W p l e (headSpec wsX12_turns { frames := 1, cells := 0, slots := 0, locals := 23 }).room s m [.ref (a0 0)].toArray below meth c H locs 0 0 (MQ below (va_Qi (fun r (_ : Unit) => r = R.1) (fun _ t => wb_post D [(cB, .byte), (cI, .int), (cZ, .boolean)] A (wWX12 cB cI cZ a0 R.2.1 R.2.2.1 R.2.2.2) t) A) [.ref (a0 0)].toArray s 0 0 A) (F0 m 86 ls []) := by
              intro fu86
              induction fu86 with
              | zero =>
                intro I0_l86 L0_l86 M0_l86 y86_3 y86_4 H locs hP hD hS ls hl hf
                exact absurd hf (by rw [fX12_turns_L86.eq_1]; exact fun h => nomatch h)
              | succ fu86 ih86 =>
                intro I0_l86 L0_l86 M0_l86 y86_3 y86_4 H locs hP hD hS ls hl hf
                rw [fX12_turns_L86.eq_2] at hf
                refine lv_iload_n hx hb dX12_turns_86 rfl (lv_at hl 1 rfl) ?_
                refine lv_iload hx hb dX12_turns_87 (lv_at hl 2 rfl) ?_
                refine lv_icmp_ge (tgt := 108) hx hb dX12_turns_89 (by decide) (fun hc => ?_) (fun hc => ?_)
                · replace hf := wb_t hc hf
                  refine lv_iconst (v := (1 : Int32)) hx hb dX12_turns_108 (by decide) ?_
                  exact W.zret (v := (1 : Int32)) hx hb hr (by decide) (fun t ht hW => by rw [← Option.some.inj hf]; exact ⟨⟨(1 : Int32), (), rfl, rfl, by rw [ht]; exact hP, va_K.moved hW.alike hK, hD⟩, hS.F ht⟩) hS.2.2 dX12_turns_109
                · replace hf := wb_f hc hf
                  refine lv_aload_n hx hb dX12_turns_92 rfl (lv_at hl 0 rfl) ?_
                  refine lv_iload_n hx hb dX12_turns_93 rfl (lv_at hl 1 rfl) ?_
                  refine lv_iload hx hb dX12_turns_94 (lv_at hl 2 rfl) ?_
                  obtain ⟨r5, hr5, hf⟩ := wb_b hf
                  have hPc := hP
                  have hDc := hD
                  have hFc := wj_F hDc hS hA
                  refine va_callv (va_runV (As := [.int y86_3, .int y86_4]) (rest := []) ⟨hx, hb, hml, hown, hts⟩ (cn_X12_swaps l D cB cI cZ N a0 I0_l86 L0_l86 M0_l86 y86_3 y86_4 H.size r5 hr5) (cwV 2 hts gX12_turns_X12_swaps rfl rfl rfl cdX12_swaps ⟨Nat.le_of_ble_eq_true rfl, Nat.le_of_ble_eq_true rfl⟩) (wb_preDV hPc hK hDc (wr_12 hK hP (q0 := 0) rfl)) rfl rfl hl.1 rfl (lv_room (Nat.le_of_ble_eq_true rfl)) dX12_turns_96 ⟨Nat.le_of_ble_eq_true rfl, Nat.le_of_ble_eq_true rfl⟩) hS (fun q _ h => hFc q h) hFc (fun u t H locs ht hvm hw hB hz1 hk1 hS => ?_)
                  obtain ⟨hP, hD⟩ := wj_0 hFc ht hB
                  obtain ⟨v6, ev6, hf⟩ := wb_v hf
                  refine lv_iinc (v := v6) (lv' := [(3, .int v6), (0, .ref (a0 0)), (4, .int y86_4)]) hx hb dX12_turns_99 hl (k := 1) rfl (by rw [ev6]; rfl) (by decide) rfl (fun ls hl => ?_)
                  obtain ⟨v7, ev7, hf⟩ := wb_v hf
                  refine lv_iinc (v := v7) (lv' := [(4, .int v7), (3, .int v6), (0, .ref (a0 0))]) hx hb dX12_turns_102 hl (k := 2) rfl (by rw [ev7]; rfl) (by decide) rfl (fun ls hl => ?_)
                  refine lv_goto (tgt := 86) hx hb dX12_turns_105 (by decide) ?_
                  exact ih86 r5.1 r5.2.1 r5.2.2 v6 v7 H locs hP hD hS ls (lv_sub hl [2, 1, 0] rfl) hf
            exact Lh86 N r2.1 r2.2.1 r2.2.2 v3 v4 H locs hP hD hS ls (lv_sub hl [2, 1, 0] rfl) hf
          · replace hf := wb_f hc hf
            obtain ⟨v8, ev8, hf⟩ := wb_v hf
            refine lv_iinc (v := v8) (lv' := [(2, .int v8), (0, .ref (a0 0)), (1, .int y34_1)]) hx hb dX12_turns_62 hl (k := 2) rfl (by rw [ev8]; rfl) (by decide) rfl (fun ls hl => ?_)
            refine lv_goto (tgt := 47) hx hb dX12_turns_65 (by decide) ?_
            exact ih47 I0_l47 L0_l47 M0_l47 v8 H locs hP hD hS ls (lv_sub hl [1, 2, 0] rfl) hf
      exact Lh47 N I0_j34 L0_j34 M0_j34 v1 H locs hP hD hS ls (lv_sub hl [1, 2, 0] rfl) hf
    · replace hf := wb_f hc hf
      refine lv_iconst (v := (0 : Int32)) hx hb dX12_turns_38 (by decide) ?_
      exact W.zret (v := (0 : Int32)) hx hb hr (by decide) (fun t ht hW => by rw [← Option.some.inj hf]; exact ⟨⟨(0 : Int32), (), rfl, rfl, by rw [ht]; exact hP, va_K.moved hW.alike hK, hD⟩, hS.F ht⟩) hS.2.2 dX12_turns_39
  refine lv_aload_n hx hb dX12_turns_0 rfl (lv_at hl 0 rfl) ?_
  refine va_get (D := D) (ci := 12) (v := .int (I0 19)) (C := RX12) (T := TX12) (N := 58) hx hb hts hinX12 hown hK hP 0 rfl rfl 55 (by decide) (hts (.fieldLink RX12 362 "WheelBookModel" "asked" "I") (List.mem_of_getElem? (i := 1) rfl)) (fun _ h9 => h9) rfl dX12_turns_1 ?_
  refine lv_iconst (v := (2 : Int32)) hx hb dX12_turns_4 (by decide) ?_
  refine lv_isub hx hb dX12_turns_5 ?_
  obtain ⟨v9, ev9, hf⟩ := wb_v hf
  refine wb_topi ev9 ?_
  refine lv_istore_n (lv' := [(1, .int v9), (0, .ref (a0 0))]) hx hb dX12_turns_6 rfl hl (by decide) rfl (fun ls hl => ?_)
  have Lh7 : ∀ (fu7 : Nat) (I0_l7 : Nat → Int32) (L0_l7 : Int64) (M0_l7 : Nat → Nat → Int32) (y7_1 : Int32) (H : Heap) (locs : List Loc), va_P D vwCl (wWX12 cB cI cZ a0 I0_l7 L0_l7 M0_l7) H → va_D A (wWX12 cB cI cZ a0 I0_l7 L0_l7 M0_l7) → va_S A s.heap H locs → ∀ (ls : Array Slot), lv_has ls 5 [(0, .ref (a0 0)), (1, .int y7_1)] → fX12_turns_L7 N fu7 I0_l7 L0_l7 M0_l7 y7_1 = some R → W p l e (headSpec wsX12_turns { frames := 1, cells := 0, slots := 0, locals := 23 }).room s m [.ref (a0 0)].toArray below meth c H locs 0 0 (MQ below (va_Qi (fun r (_ : Unit) => r = R.1) (fun _ t => wb_post D [(cB, .byte), (cI, .int), (cZ, .boolean)] A (wWX12 cB cI cZ a0 R.2.1 R.2.2.1 R.2.2.2) t) A) [.ref (a0 0)].toArray s 0 0 A) (F0 m 7 ls []) := by
    intro fu7
    induction fu7 with
    | zero =>
      intro I0_l7 L0_l7 M0_l7 y7_1 H locs hP hD hS ls hl hf
      exact absurd hf (by rw [fX12_turns_L7.eq_1]; exact fun h => nomatch h)
    | succ fu7 ih7 =>
      intro I0_l7 L0_l7 M0_l7 y7_1 H locs hP hD hS ls hl hf
      rw [fX12_turns_L7.eq_2] at hf
      refine lv_iload_n hx hb dX12_turns_7 rfl (lv_at hl 1 rfl) ?_
      refine lv_if_lt (tgt := 34) hx hb dX12_turns_8 (by decide) (fun hc => ?_) (fun hc => ?_)
      · replace hf := wb_t hc hf
        exact J34 I0_l7 L0_l7 M0_l7 y7_1 H locs hP hD hS ls (lv_sub hl [0, 1] rfl) hf
      · replace hf := wb_f hc hf
        refine lv_aload_n hx hb dX12_turns_11 rfl (lv_at hl 0 rfl) ?_
        refine va_get (D := D) (ci := 12) (v := .ref (a0 37)) (C := RX12) (T := TX12) (N := 58) hx hb hts hinX12 hown hK hP 0 rfl rfl 57 (by decide) (hts (.fieldLink RX12 126 "WheelBookModel" "turn" "[I") (List.mem_of_getElem? (i := 2) rfl)) (fun _ h9 => h9) rfl dX12_turns_12 ?_
        refine lv_iload_n hx hb dX12_turns_15 rfl (lv_at hl 1 rfl) ?_
        obtain ⟨hin, hf⟩ := wb_n hf
        refine va_iald hx hb hK hP 37 1 rfl rfl hin dX12_turns_16 ?_
        refine lv_aload_n hx hb dX12_turns_17 rfl (lv_at hl 0 rfl) ?_
        refine va_get (D := D) (ci := 12) (v := .ref (a0 37)) (C := RX12) (T := TX12) (N := 58) hx hb hts hinX12 hown hK hP 0 rfl rfl 57 (by decide) (hts (.fieldLink RX12 126 "WheelBookModel" "turn" "[I") (List.mem_of_getElem? (i := 2) rfl)) (fun _ h9 => h9) rfl dX12_turns_18 ?_
        refine lv_iload_n hx hb dX12_turns_21 rfl (lv_at hl 1 rfl) ?_
        refine lv_iconst (v := (1 : Int32)) hx hb dX12_turns_22 (by decide) ?_
        refine lv_iadd hx hb dX12_turns_23 ?_
        obtain ⟨hin, hf⟩ := wb_n hf
        refine va_iald hx hb hK hP 37 1 rfl rfl hin dX12_turns_24 ?_
        refine lv_icmp_le (tgt := 34) hx hb dX12_turns_25 (by decide) (fun hc => ?_) (fun hc => ?_)
        · replace hf := wb_t hc hf
          exact J34 I0_l7 L0_l7 M0_l7 y7_1 H locs hP hD hS ls (lv_sub hl [0, 1] rfl) hf
        · replace hf := wb_f hc hf
          obtain ⟨v10, ev10, hf⟩ := wb_v hf
          refine lv_iinc (v := v10) (lv' := [(1, .int v10), (0, .ref (a0 0))]) hx hb dX12_turns_28 hl (k := 1) rfl (by rw [ev10]; rfl) (by decide) rfl (fun ls hl => ?_)
          refine lv_goto (tgt := 7) hx hb dX12_turns_31 (by decide) ?_
          exact ih7 I0_l7 L0_l7 M0_l7 v10 H locs hP hD hS ls (lv_sub hl [1, 0] rfl) hf
  exact Lh7 N I0 L0 M0 v9 H locs hP hD hS ls (lv_sub hl [1, 0] rfl) hf

set_option maxHeartbeats 4000000 in
set_option maxRecDepth 100000 in
theorem cn_X12_asks (l : Launch) (D : va_G) (cB cI cZ : ClassId) (N : Nat) (a0 : Nat → Nat) (I0 : Nat → Int32) (L0 : Int64) (M0 : Nat → Nat → Int32) (b1 : Nat) (n1 : Nat) (f1 : Nat → Int32) (x2 : Int32) (x3 : Int32) (sz : Nat) (R : Int32 × (Nat → Int32) × Int64 × (Nat → Nat → Int32)) (hf : fX12_asks N I0 L0 M0 n1 f1 x2 x3 = some R) : Met l yX12_asks wsX12_asks ({ frames := 3, cells := 0, slots := 0, locals := 69 }) (va_Pc [.ref (a0 0), .ref b1, .int x2, .int x3] (wb_preD D [(cB, .byte), (cI, .int), (cZ, .boolean)] ((wWX12 cB cI cZ a0 I0 L0 M0) ++ [((b1, .inl (cI, n1, .inl f1)) : Nat × va_E)]) sz)) (va_Qi (fun r (_ : Unit) => r = R.1) (fun _ t => wb_post D [(cB, .byte), (cI, .int), (cZ, .boolean)] (va_A ((wWX12 cB cI cZ a0 I0 L0 M0) ++ [((b1, .inl (cI, n1, .inl f1)) : Nat × va_E)]) sz) ((wWX12 cB cI cZ a0 R.2.1 R.2.2.1 R.2.2.2) ++ [((b1, .inl (cI, n1, .inl f1)) : Nat × va_E)]) t) (va_A ((wWX12 cB cI cZ a0 I0 L0 M0) ++ [((b1, .inl (cI, n1, .inl f1)) : Nat × va_E)]) sz)) 0 0 (va_A ((wWX12 cB cI cZ a0 I0 L0 M0) ++ [((b1, .inl (cI, n1, .inl f1)) : Nat × va_E)]) sz) := by
  refine Met.ofW (cc := cX12_asks) (maxL := 7) (ret := (some .int)) pn_X12 rfl ?_
  intro p e s m args below meth c s₁ B hml hv
  obtain ⟨rfl, hsz, hP, hK, hD0⟩ := hv
  have hx := B.exec
  have hb := B.bytes
  have hr := B.returns
  have hts := atoms_spec (ws := wsX12_asks) B.pre
  have hown : s.vm.findClass RX12 = some m.cls := (findClass_of_methodNamed B.named :)
  have hlocks := B.notSynchronized
  have hinX12 : ∀ w ∈ u_ws RX12 TX12 58, w ∈ wsX12_asks := fun w h => List.mem_cons_of_mem _ (List.mem_append_right _ h)
  subst hsz
  have hD := hD0.self (sz := s.heap.size)
  generalize hAe : va_A ((wWX12 cB cI cZ a0 I0 L0 M0) ++ [((b1, .inl (cI, n1, .inl f1)) : Nat × va_E)]) s.heap.size = A at hD ⊢
  have hA : ∀ q : Nat, s.heap.size ≤ q → A q := fun q h => by rw [← hAe]; exact Or.inr h
  have hS : va_S A s.heap s.heap [] := va_S.rf
  have hl := lv_entry ([.ref (a0 0), .ref b1, .int x2, .int x3]) (n := 7) (Nat.le_of_ble_eq_true rfl)
  rw [lg_entry_eq]
  generalize (lg_sl ([.ref (a0 0), .ref b1, .int x2, .int x3]) ++ List.replicate (7 - (lg_sl ([.ref (a0 0), .ref b1, .int x2, .int x3])).length) Slot.unset).toArray = ls at hl ⊢
  have hl : lv_has ls 7 [(0, .ref (a0 0)), (1, .ref b1), (2, .int x2), (3, .int x3)] := hl
  unfold fX12_asks at hf
  obtain ⟨H, hHe⟩ : ∃ H : Heap, H = s.heap := ⟨_, rfl⟩
  obtain ⟨locs, hle⟩ : ∃ locs : List Loc, locs = [] := ⟨_, rfl⟩
  refine wb_start (H := H) (locs := locs) hHe hle ?_
  rw [← hHe] at hP
  have hS : va_S A s.heap H locs := by rw [hHe, hle]; exact va_S.rf
  refine lv_aload_n hx hb dX12_asks_0 rfl (lv_at hl 0 rfl) ?_
  refine lv_iconst (v := (0 : Int32)) hx hb dX12_asks_1 (by decide) ?_
  refine va_put (D := D) (ci := 12) (v := .int (0 : Int32)) (ty := .int) (C := RX12) (T := TX12) (N := 58) hx hb hts hinX12 tyX12 tyX12_ok nmX12 hown hK hP hD hS 0 rfl rfl 55 (by decide) (hts (.fieldLink RX12 362 "WheelBookModel" "asked" "I") (List.mem_of_getElem? (i := 1) rfl)) (fun _ h9 => h9) rfl (by decide +kernel) rfl rfl (Nat.le_of_ble_eq_true rfl) dX12_asks_2 (fun H locs hP hD hS => ?_)
  have hP : va_P D vwCl ((wWX12 cB cI cZ a0 (upd I0 19 (0 : Int32)) L0 M0) ++ [((b1, .inl (cI, n1, .inl f1)) : Nat × va_E)]) H := hP
  have hD : va_D A ((wWX12 cB cI cZ a0 (upd I0 19 (0 : Int32)) L0 M0) ++ [((b1, .inl (cI, n1, .inl f1)) : Nat × va_E)]) := hD
  obtain ⟨I0_1, eI0_1, hf⟩ := wb_v hf
  rw [← eI0_1] at hP hD
  refine lv_iconst (v := (0 : Int32)) hx hb dX12_asks_5 (by decide) ?_
  refine lv_istore (lv' := [(4, .int (0 : Int32)), (0, .ref (a0 0)), (1, .ref b1), (2, .int x2), (3, .int x3)]) hx hb dX12_asks_6 hl (by decide) rfl (fun ls hl => ?_)
  have Lh8 : ∀ (fu8 : Nat) (I0_l8 : Nat → Int32) (L0_l8 : Int64) (M0_l8 : Nat → Nat → Int32) (y8_4 : Int32) (H : Heap) (locs : List Loc), va_P D vwCl ((wWX12 cB cI cZ a0 I0_l8 L0_l8 M0_l8) ++ [((b1, .inl (cI, n1, .inl f1)) : Nat × va_E)]) H → va_D A ((wWX12 cB cI cZ a0 I0_l8 L0_l8 M0_l8) ++ [((b1, .inl (cI, n1, .inl f1)) : Nat × va_E)]) → va_S A s.heap H locs → ∀ (ls : Array Slot), lv_has ls 7 [(0, .ref (a0 0)), (1, .ref b1), (2, .int x2), (3, .int x3), (4, .int y8_4)] → fX12_asks_L8 N n1 f1 x2 x3 fu8 I0_l8 L0_l8 M0_l8 y8_4 = some R → W p l e (headSpec wsX12_asks { frames := 3, cells := 0, slots := 0, locals := 69 }).room s m [.ref (a0 0), .ref b1, .int x2, .int x3].toArray below meth c H locs 0 0 (MQ below (va_Qi (fun r (_ : Unit) => r = R.1) (fun _ t => wb_post D [(cB, .byte), (cI, .int), (cZ, .boolean)] A ((wWX12 cB cI cZ a0 R.2.1 R.2.2.1 R.2.2.2) ++ [((b1, .inl (cI, n1, .inl f1)) : Nat × va_E)]) t) A) [.ref (a0 0), .ref b1, .int x2, .int x3].toArray s 0 0 A) (F0 m 8 ls []) := by
    intro fu8
    induction fu8 with
    | zero =>
      intro I0_l8 L0_l8 M0_l8 y8_4 H locs hP hD hS ls hl hf
      exact absurd hf (by rw [fX12_asks_L8.eq_1]; exact fun h => nomatch h)
    | succ fu8 ih8 =>
      intro I0_l8 L0_l8 M0_l8 y8_4 H locs hP hD hS ls hl hf
      rw [fX12_asks_L8.eq_2] at hf
      refine lv_iload hx hb dX12_asks_8 (lv_at hl 4 rfl) ?_
      refine lv_bipush (v := (20 : Int32)) hx hb dX12_asks_10 (by decide) ?_
      refine lv_icmp_ge (tgt := 66) hx hb dX12_asks_12 (by decide) (fun hc => ?_) (fun hc => ?_)
      · replace hf := wb_t hc hf
        refine lv_aload_n hx hb dX12_asks_66 rfl (lv_at hl 0 rfl) ?_
        refine lv_iload_n hx hb dX12_asks_67 rfl (lv_at hl 3 rfl) ?_
        obtain ⟨r2, hr2, hf⟩ := wb_b hf
        refine vp_callSi (W.runV (As := [.int x3]) (rest := []) ⟨hx, hb, hml, hown, hts⟩ (cn_X12_hitsBy l D cB cI cZ N a0 I0_l8 L0_l8 M0_l8 x3 r2 hr2) (cwV 1 hts gX12_asks_X12_hitsBy rfl rfl rfl cdX12_hitsBy ⟨Nat.le_of_ble_eq_true rfl, Nat.le_of_ble_eq_true rfl⟩) (wb_preV (hP.sub (ws' := (wWX12 cB cI cZ a0 I0_l8 L0_l8 M0_l8)) [0, 1, 2, 3, 4, 5, 6, 7, 8, 9, 10, 11, 12, 13, 14, 15, 16, 17, 18, 19, 20, 21, 22, 23, 24, 25, 26, 27, 28, 29, 30, 31, 32, 33, 34, 35, 36, 37] rfl) hK (wr_12 hK hP (q0 := 0) rfl)) rfl rfl hl.1 rfl (lv_room (Nat.le_of_ble_eq_true rfl)) dX12_asks_68 ⟨Nat.le_of_ble_eq_true rfl, Nat.le_of_ble_eq_true rfl⟩) (fun r9 e9 => ?_)
        rw [e9]
        refine lv_istore (lv' := [(4, .int r2), (0, .ref (a0 0)), (1, .ref b1), (2, .int x2), (3, .int x3)]) hx hb dX12_asks_71 hl (by decide) rfl (fun ls hl => ?_)
        refine lv_iload_n hx hb dX12_asks_73 rfl (lv_at hl 3 rfl) ?_
        refine lv_if_ne (tgt := 80) hx hb dX12_asks_74 (by decide) (fun hc => ?_) (fun hc => ?_)
        · replace hf := wb_f hc hf
          refine lv_aload_n hx hb dX12_asks_80 rfl (lv_at hl 1 rfl) ?_
          refine va_get (D := D) (ci := 12) (v := .int (I0_l8 19)) (C := RX12) (T := TX12) (N := 58) hx hb hts hinX12 hown hK hP 0 rfl rfl 55 (by decide) (hts (.fieldLink RX12 362 "WheelBookModel" "asked" "I") (List.mem_of_getElem? (i := 1) rfl)) (fun _ h9 => h9) rfl dX12_asks_81 ?_
          refine lv_bipush (v := (8 : Int32)) hx hb dX12_asks_84 (by decide) ?_
          refine lv_icmp_le (tgt := 91) hx hb dX12_asks_86 (by decide) (fun hc => ?_) (fun hc => ?_)
          · replace hf := wb_t hc hf
            refine lv_iconst (v := (0 : Int32)) hx hb dX12_asks_91 (by decide) ?_
            refine lv_istore (lv' := [(5, .int (0 : Int32)), (4, .int r2), (0, .ref (a0 0)), (1, .ref b1), (2, .int x2), (3, .int x3)]) hx hb dX12_asks_92 hl (by decide) rfl (fun ls hl => ?_)
            refine lv_iconst (v := (1 : Int32)) hx hb dX12_asks_94 (by decide) ?_
            refine lv_istore (lv' := [(6, .int (1 : Int32)), (5, .int (0 : Int32)), (4, .int r2), (0, .ref (a0 0)), (1, .ref b1), (2, .int x2), (3, .int x3)]) hx hb dX12_asks_95 hl (by decide) rfl (fun ls hl => ?_)
            have Lh97 : ∀ (fu97 : Nat) (I0_l97 : Nat → Int32) (L0_l97 : Int64) (M0_l97 : Nat → Nat → Int32) (y97_5 : Int32) (y97_6 : Int32) (H : Heap) (locs : List Loc), va_P D vwCl ((wWX12 cB cI cZ a0 I0_l97 L0_l97 M0_l97) ++ [((b1, .inl (cI, n1, .inl f1)) : Nat × va_E)]) H → va_D A ((wWX12 cB cI cZ a0 I0_l97 L0_l97 M0_l97) ++ [((b1, .inl (cI, n1, .inl f1)) : Nat × va_E)]) → va_S A s.heap H locs → ∀ (ls : Array Slot), lv_has ls 7 [(0, .ref (a0 0)), (3, .int x3), (4, .int r2), (5, .int y97_5), (6, .int y97_6)] → fX12_asks_L97 N n1 f1 x2 x3 r2 (fX12_asks_L8 N n1 f1 x2 x3 fu8) fu97 I0_l97 L0_l97 M0_l97 y97_5 y97_6 = some R → W p l e (headSpec wsX12_asks { frames := 3, cells := 0, slots := 0, locals := 69 }).room s m [.ref (a0 0), .ref b1, .int x2, .int x3].toArray below meth c H locs 0 0 (MQ below (va_Qi (fun r (_ : Unit) => r = R.1) (fun _ t => wb_post D [(cB, .byte), (cI, .int), (cZ, .boolean)] A ((wWX12 cB cI cZ a0 R.2.1 R.2.2.1 R.2.2.2) ++ [((b1, .inl (cI, n1, .inl f1)) : Nat × va_E)]) t) A) [.ref (a0 0), .ref b1, .int x2, .int x3].toArray s 0 0 A) (F0 m 97 ls []) := by
              intro fu97
              induction fu97 with
              | zero =>
                intro I0_l97 L0_l97 M0_l97 y97_5 y97_6 H locs hP hD hS ls hl hf
                exact absurd hf (by rw [fX12_asks_L97.eq_1]; exact fun h => nomatch h)
              | succ fu97 ih97 =>
                intro I0_l97 L0_l97 M0_l97 y97_5 y97_6 H locs hP hD hS ls hl hf
                rw [fX12_asks_L97.eq_2] at hf
                refine lv_iload hx hb dX12_asks_97 (lv_at hl 4 rfl) ?_
                refine lv_if_eq (tgt := 124) hx hb dX12_asks_99 (by decide) (fun hc => ?_) (fun hc => ?_)
                · replace hf := wb_t hc hf
                  refine lv_iload hx hb dX12_asks_124 (lv_at hl 3 rfl) ?_
                  exact W.iret (v := y97_5) hx hb hr (fun t ht hW => by rw [← Option.some.inj hf]; exact ⟨⟨y97_5, (), rfl, rfl, by rw [ht]; exact hP, va_K.moved hW.alike hK, hD⟩, hS.F ht⟩) hS.2.2 dX12_asks_126
                · replace hf := wb_f hc hf
                  refine lv_aload_n hx hb dX12_asks_102 rfl (lv_at hl 0 rfl) ?_
                  refine lv_iload_n hx hb dX12_asks_103 rfl (lv_at hl 1 rfl) ?_
                  obtain ⟨r3, hr3, hf⟩ := wb_b hf
                  refine vp_callSi (W.runV (As := [.int x3]) (rest := []) ⟨hx, hb, hml, hown, hts⟩ (cn_X12_hitsBy l D cB cI cZ N a0 I0_l97 L0_l97 M0_l97 x3 r3 hr3) (cwV 1 hts gX12_asks_X12_hitsBy rfl rfl rfl cdX12_hitsBy ⟨Nat.le_of_ble_eq_true rfl, Nat.le_of_ble_eq_true rfl⟩) (wb_preV (hP.sub (ws' := (wWX12 cB cI cZ a0 I0_l97 L0_l97 M0_l97)) [0, 1, 2, 3, 4, 5, 6, 7, 8, 9, 10, 11, 12, 13, 14, 15, 16, 17, 18, 19, 20, 21, 22, 23, 24, 25, 26, 27, 28, 29, 30, 31, 32, 33, 34, 35, 36, 37] rfl) hK (wr_12 hK hP (q0 := 0) rfl)) rfl rfl hl.1 rfl (lv_room (Nat.le_of_ble_eq_true rfl)) dX12_asks_104 ⟨Nat.le_of_ble_eq_true rfl, Nat.le_of_ble_eq_true rfl⟩) (fun r9 e9 => ?_)
                  rw [e9]
                  refine lv_iload hx hb dX12_asks_107 (lv_at hl 2 rfl) ?_
                  refine lv_icmp_lt (tgt := 115) hx hb dX12_asks_109 (by decide) (fun hc => ?_) (fun hc => ?_)
                  · replace hf := wb_t hc hf
                    refine lv_aload_n hx hb dX12_asks_115 rfl (lv_at hl 0 rfl) ?_
                    obtain ⟨r4, hr4, hf⟩ := wb_b hf
                    have hPc := wj_P1 hP
                    have hDc := wj_D1 hD
                    have hFc := wj_F hDc hS hA
                    refine va_calli (va_runV (As := []) (rest := []) ⟨hx, hb, hml, hown, hts⟩ (cn_X12_turns l D cB cI cZ N a0 I0_l97 L0_l97 M0_l97 H.size r4 hr4) (cwV 0 hts gX12_asks_X12_turns rfl rfl rfl cdX12_turns ⟨Nat.le_of_ble_eq_true rfl, Nat.le_of_ble_eq_true rfl⟩) (wb_preDV hPc hK hDc (wr_12 hK hP (q0 := 0) rfl)) rfl rfl hl.1 rfl (lv_room (Nat.le_of_ble_eq_true rfl)) dX12_asks_116 ⟨Nat.le_of_ble_eq_true rfl, Nat.le_of_ble_eq_true rfl⟩) hS (fun q _ h => hFc q h) hFc (fun r9 u t H locs ht hvm hw hB hz1 hk1 hS => ?_)
                    obtain ⟨hP, hD⟩ := wj_1 hP hD hk1 hFc ht hB
                    rw [hw]
                    obtain ⟨v5, ev5, hf⟩ := wb_v hf
                    refine wb_topi ev5 ?_
                    refine lv_istore (lv' := [(6, .int v5), (0, .ref (a0 0)), (3, .int x3), (4, .int r2), (5, .int y97_5)]) hx hb dX12_asks_119 hl (by decide) rfl (fun ls hl => ?_)
                    refine lv_goto (tgt := 97) hx hb dX12_asks_121 (by decide) ?_
                    exact ih97 r4.2.1 r4.2.2.1 r4.2.2.2 y97_5 v5 H locs hP hD hS ls (lv_sub hl [1, 2, 3, 4, 0] rfl) hf
                  · replace hf := wb_f hc hf
                    obtain ⟨v6, ev6, hf⟩ := wb_v hf
                    refine lv_iinc (v := v6) (lv' := [(5, .int v6), (0, .ref (a0 0)), (3, .int x3), (4, .int r2), (6, .int y97_6)]) hx hb dX12_asks_112 hl (k := 3) rfl (by rw [ev6]; rfl) (by decide) rfl (fun ls hl => ?_)
                    refine lv_aload_n hx hb dX12_asks_115 rfl (lv_at hl 1 rfl) ?_
                    obtain ⟨r7, hr7, hf⟩ := wb_b hf
                    have hPc := wj_P1 hP
                    have hDc := wj_D1 hD
                    have hFc := wj_F hDc hS hA
                    refine va_calli (va_runV (As := []) (rest := []) ⟨hx, hb, hml, hown, hts⟩ (cn_X12_turns l D cB cI cZ N a0 I0_l97 L0_l97 M0_l97 H.size r7 hr7) (cwV 0 hts gX12_asks_X12_turns rfl rfl rfl cdX12_turns ⟨Nat.le_of_ble_eq_true rfl, Nat.le_of_ble_eq_true rfl⟩) (wb_preDV hPc hK hDc (wr_12 hK hP (q0 := 0) rfl)) rfl rfl hl.1 rfl (lv_room (Nat.le_of_ble_eq_true rfl)) dX12_asks_116 ⟨Nat.le_of_ble_eq_true rfl, Nat.le_of_ble_eq_true rfl⟩) hS (fun q _ h => hFc q h) hFc (fun r9 u t H locs ht hvm hw hB hz1 hk1 hS => ?_)
                    obtain ⟨hP, hD⟩ := wj_1 hP hD hk1 hFc ht hB
                    rw [hw]
                    obtain ⟨v8, ev8, hf⟩ := wb_v hf
                    refine wb_topi ev8 ?_
                    refine lv_istore (lv' := [(6, .int v8), (5, .int v6), (0, .ref (a0 0)), (3, .int x3), (4, .int r2)]) hx hb dX12_asks_119 hl (by decide) rfl (fun ls hl => ?_)
                    refine lv_goto (tgt := 97) hx hb dX12_asks_121 (by decide) ?_
                    exact ih97 r7.2.1 r7.2.2.1 r7.2.2.2 v6 v8 H locs hP hD hS ls (lv_sub hl [2, 3, 4, 1, 0] rfl) hf
            exact Lh97 N I0_l8 L0_l8 M0_l8 (0 : Int32) (1 : Int32) H locs hP hD hS ls (lv_sub hl [3, 6, 2, 1, 0] rfl) hf
          · replace hf := wb_f hc hf
            refine lv_iconst (v := (-1 : Int32)) hx hb dX12_asks_89 (by decide) ?_
            exact W.iret (v := (-1 : Int32)) hx hb hr (fun t ht hW => by rw [← Option.some.inj hf]; exact ⟨⟨(-1 : Int32), (), rfl, rfl, by rw [ht]; exact hP, va_K.moved hW.alike hK, hD⟩, hS.F ht⟩) hS.2.2 dX12_asks_90
        · replace hf := wb_t hc hf
          refine lv_iload hx hb dX12_asks_77 (lv_at hl 0 rfl) ?_
          exact W.iret (v := r2) hx hb hr (fun t ht hW => by rw [← Option.some.inj hf]; exact ⟨⟨r2, (), rfl, rfl, by rw [ht]; exact hP, va_K.moved hW.alike hK, hD⟩, hS.F ht⟩) hS.2.2 dX12_asks_79
      · replace hf := wb_f hc hf
        refine lv_aload_n hx hb dX12_asks_15 rfl (lv_at hl 1 rfl) ?_
        refine lv_iload hx hb dX12_asks_16 (lv_at hl 4 rfl) ?_
        obtain ⟨hin, hf⟩ := wb_n hf
        refine va_iald hx hb hK hP 38 1 rfl rfl hin dX12_asks_18 ?_
        refine lv_iconst (v := (-1 : Int32)) hx hb dX12_asks_19 (by decide) ?_
        refine lv_icmp_ne (tgt := 26) hx hb dX12_asks_20 (by decide) (fun hc => ?_) (fun hc => ?_)
        · replace hf := wb_f hc hf
          refine lv_aload_n hx hb dX12_asks_26 rfl (lv_at hl 0 rfl) ?_
          refine va_get (D := D) (ci := 12) (v := .ref (a0 36)) (C := RX12) (T := TX12) (N := 58) hx hb hts hinX12 hown hK hP 0 rfl rfl 56 (by decide) (hts (.fieldLink RX12 123 "WheelBookModel" "who" "[I") (List.mem_of_getElem? (i := 2) rfl)) (fun _ h9 => h9) rfl dX12_asks_27 ?_
          refine lv_aload_n hx hb dX12_asks_30 rfl (lv_at hl 0 rfl) ?_
          refine va_get (D := D) (ci := 12) (v := .int (I0_l8 19)) (C := RX12) (T := TX12) (N := 58) hx hb hts hinX12 hown hK hP 0 rfl rfl 55 (by decide) (hts (.fieldLink RX12 362 "WheelBookModel" "asked" "I") (List.mem_of_getElem? (i := 1) rfl)) (fun _ h9 => h9) rfl dX12_asks_31 ?_
          refine lv_iload hx hb dX12_asks_34 (lv_at hl 4 rfl) ?_
          obtain ⟨hin, hf⟩ := wb_n hf
          refine va_iast hx hb hK hP hD hS 36 1 rfl rfl hin dX12_asks_36 (fun H locs hP hD hS => ?_)
          have hP : va_P D vwCl ((wWX12 cB cI cZ a0 I0_l8 L0_l8 (wb_um M0_l8 35 ((I0_l8 19)).toNatClampNeg y8_4)) ++ [((b1, .inl (cI, n1, .inl f1)) : Nat × va_E)]) H := hP
          have hD : va_D A ((wWX12 cB cI cZ a0 I0_l8 L0_l8 (wb_um M0_l8 35 ((I0_l8 19)).toNatClampNeg y8_4)) ++ [((b1, .inl (cI, n1, .inl f1)) : Nat × va_E)]) := hD
          obtain ⟨M0_9, eM0_9, hf⟩ := wb_v hf
          rw [← eM0_9] at hP hD
          refine lv_aload_n hx hb dX12_asks_37 rfl (lv_at hl 0 rfl) ?_
          refine va_get (D := D) (ci := 12) (v := .ref (a0 37)) (C := RX12) (T := TX12) (N := 58) hx hb hts hinX12 hown hK hP 0 rfl rfl 57 (by decide) (hts (.fieldLink RX12 126 "WheelBookModel" "turn" "[I") (List.mem_of_getElem? (i := 3) rfl)) (fun _ h9 => h9) rfl dX12_asks_38 ?_
          refine lv_aload_n hx hb dX12_asks_41 rfl (lv_at hl 0 rfl) ?_
          refine va_get (D := D) (ci := 12) (v := .int (I0_l8 19)) (C := RX12) (T := TX12) (N := 58) hx hb hts hinX12 hown hK hP 0 rfl rfl 55 (by decide) (hts (.fieldLink RX12 362 "WheelBookModel" "asked" "I") (List.mem_of_getElem? (i := 1) rfl)) (fun _ h9 => h9) rfl dX12_asks_42 ?_
          refine lv_aload_n hx hb dX12_asks_45 rfl (lv_at hl 0 rfl) ?_
          refine va_get (D := D) (ci := 12) (v := .int (I0_l8 19)) (C := RX12) (T := TX12) (N := 58) hx hb hts hinX12 hown hK hP 0 rfl rfl 55 (by decide) (hts (.fieldLink RX12 362 "WheelBookModel" "asked" "I") (List.mem_of_getElem? (i := 1) rfl)) (fun _ h9 => h9) rfl dX12_asks_46 ?_
          obtain ⟨hin, hf⟩ := wb_n hf
          refine va_iast hx hb hK hP hD hS 37 1 rfl rfl hin dX12_asks_49 (fun H locs hP hD hS => ?_)
          have hP : va_P D vwCl ((wWX12 cB cI cZ a0 I0_l8 L0_l8 (wb_um M0_9 36 ((I0_l8 19)).toNatClampNeg (I0_l8 19))) ++ [((b1, .inl (cI, n1, .inl f1)) : Nat × va_E)]) H := hP
          have hD : va_D A ((wWX12 cB cI cZ a0 I0_l8 L0_l8 (wb_um M0_9 36 ((I0_l8 19)).toNatClampNeg (I0_l8 19))) ++ [((b1, .inl (cI, n1, .inl f1)) : Nat × va_E)]) := hD
          obtain ⟨M0_10, eM0_10, hf⟩ := wb_v hf
          rw [← eM0_10] at hP hD
          refine lv_aload_n hx hb dX12_asks_50 rfl (lv_at hl 0 rfl) ?_
          refine lv_dup hx hb dX12_asks_51 rfl ?_
          refine va_get (D := D) (ci := 12) (v := .int (I0_l8 19)) (C := RX12) (T := TX12) (N := 58) hx hb hts hinX12 hown hK hP 0 rfl rfl 55 (by decide) (hts (.fieldLink RX12 362 "WheelBookModel" "asked" "I") (List.mem_of_getElem? (i := 1) rfl)) (fun _ h9 => h9) rfl dX12_asks_52 ?_
          refine lv_iconst (v := (1 : Int32)) hx hb dX12_asks_55 (by decide) ?_
          refine lv_iadd hx hb dX12_asks_56 ?_
          refine va_put (D := D) (ci := 12) (v := .int ((I0_l8 19) + (1 : Int32))) (ty := .int) (C := RX12) (T := TX12) (N := 58) hx hb hts hinX12 tyX12 tyX12_ok nmX12 hown hK hP hD hS 0 rfl rfl 55 (by decide) (hts (.fieldLink RX12 362 "WheelBookModel" "asked" "I") (List.mem_of_getElem? (i := 1) rfl)) (fun _ h9 => h9) rfl (by decide +kernel) rfl rfl (Nat.le_of_ble_eq_true rfl) dX12_asks_57 (fun H locs hP hD hS => ?_)
          have hP : va_P D vwCl ((wWX12 cB cI cZ a0 (upd I0_l8 19 ((I0_l8 19) + (1 : Int32))) L0_l8 M0_10) ++ [((b1, .inl (cI, n1, .inl f1)) : Nat × va_E)]) H := hP
          have hD : va_D A ((wWX12 cB cI cZ a0 (upd I0_l8 19 ((I0_l8 19) + (1 : Int32))) L0_l8 M0_10) ++ [((b1, .inl (cI, n1, .inl f1)) : Nat × va_E)]) := hD
          obtain ⟨I0_11, eI0_11, hf⟩ := wb_v hf
          rw [← eI0_11] at hP hD
          obtain ⟨v12, ev12, hf⟩ := wb_v hf
          refine lv_iinc (v := v12) (lv' := [(4, .int v12), (0, .ref (a0 0)), (1, .ref b1), (2, .int x2), (3, .int x3)]) hx hb dX12_asks_60 hl (k := 4) rfl (by rw [ev12]; rfl) (by decide) rfl (fun ls hl => ?_)
          refine lv_goto (tgt := 8) hx hb dX12_asks_63 (by decide) ?_
          exact ih8 I0_11 L0_l8 M0_10 v12 H locs hP hD hS ls (lv_sub hl [1, 2, 3, 4, 0] rfl) hf
        · replace hf := wb_t hc hf
          refine lv_goto (tgt := 60) hx hb dX12_asks_23 (by decide) ?_
          obtain ⟨v13, ev13, hf⟩ := wb_v hf
          refine lv_iinc (v := v13) (lv' := [(4, .int v13), (0, .ref (a0 0)), (1, .ref b1), (2, .int x2), (3, .int x3)]) hx hb dX12_asks_60 hl (k := 4) rfl (by rw [ev13]; rfl) (by decide) rfl (fun ls hl => ?_)
          refine lv_goto (tgt := 8) hx hb dX12_asks_63 (by decide) ?_
          exact ih8 I0_l8 L0_l8 M0_l8 v13 H locs hP hD hS ls (lv_sub hl [1, 2, 3, 4, 0] rfl) hf
  exact Lh8 N I0_1 L0 M0 (0 : Int32) H locs hP hD hS ls (lv_sub hl [1, 2, 3, 4, 0] rfl) hf
