set_option maxHeartbeats 4000000 in
set_option maxRecDepth 100000 in
theorem cn_X12_asks_133 (l : Launch) (D : va_G) (cB cI cZ : ClassId) (N : Nat) (a0 : Nat → Nat) (I0 : Nat → Int32) (L0 : Int64) (M0 : Nat → Nat → Int32) (x2 : Int32) (x3 : Int32) (sz : Nat) (R : Int32 × (Nat → Int32) × Int64 × (Nat → Nat → Int32)) (hf : fX12_asks_133 N I0 L0 M0 x2 x3 = some R) : Met l yX12_asks wsX12_asks ({ frames := 3, cells := 0, slots := 0, locals := 69 }) (va_Pc [.ref (a0 0), .ref (a0 33), .int x2, .int x3] (wb_preD D [(cB, .byte), (cI, .int), (cZ, .boolean)] (wWX12 cB cI cZ a0 I0 L0 M0) sz)) (va_Qi (fun r (_ : Unit) => r = R.1) (fun _ t => wb_post D [(cB, .byte), (cI, .int), (cZ, .boolean)] (va_A (wWX12 cB cI cZ a0 I0 L0 M0) sz) (wWX12 cB cI cZ a0 R.2.1 R.2.2.1 R.2.2.2) t) (va_A (wWX12 cB cI cZ a0 I0 L0 M0) sz)) 0 0 (va_A (wWX12 cB cI cZ a0 I0 L0 M0) sz) := by
  refine Met.ofW (cc := cX12_asks) (maxL := 7) (ret := (some .int)) (by decide) rfl ?_
  intro p e s m args below meth c s₁ B hml hv
  obtain ⟨rfl, hsz, hP, hK, hD0⟩ := hv
  have hx := B.exec
  have hb := B.bytes
  have hr := B.returns
  have hts := atoms_spec (ws := wsX12_asks) B.pre
  have hown : s.vm.findClass RX12 = some m.cls := (findClass_of_methodNamed B.named :)
  have hlocks := B.notSynchronized
  have hinX12 : ∀ w ∈ u_ws RX12 TX12 58, w ∈ wsX12_asks := fun w h => List.mem_cons_of_mem _ (List.mem_append_right _ h)
  subst hsz
  have hD := hD0.self (sz := s.heap.size)
  generalize hAe : va_A (wWX12 cB cI cZ a0 I0 L0 M0) s.heap.size = A at hD ⊢
  have hA : ∀ q : Nat, s.heap.size ≤ q → A q := fun q h => by rw [← hAe]; exact Or.inr h
  have hS : va_S A s.heap s.heap [] := va_S.rf
  have hl := lv_entry ([.ref (a0 0), .ref (a0 33), .int x2, .int x3]) (n := 7) (Nat.le_of_ble_eq_true rfl)
  rw [lg_entry_eq]
  generalize (lg_sl ([.ref (a0 0), .ref (a0 33), .int x2, .int x3]) ++ List.replicate (7 - (lg_sl ([.ref (a0 0), .ref (a0 33), .int x2, .int x3])).length) Slot.unset).toArray = ls at hl ⊢
  have hl : lv_has ls 7 [(0, .ref (a0 0)), (1, .ref (a0 33)), (2, .int x2), (3, .int x3)] := hl
  unfold fX12_asks_133 at hf
  obtain ⟨H, hHe⟩ : ∃ H : Heap, H = s.heap := ⟨_, rfl⟩
  obtain ⟨locs, hle⟩ : ∃ locs : List Loc, locs = [] := ⟨_, rfl⟩
  refine wb_start (H := H) (locs := locs) hHe hle ?_
  rw [← hHe] at hP
  have hS : va_S A s.heap H locs := by rw [hHe, hle]; exact va_S.rf
  refine lv_aload_n hx hb dX12_asks_0 rfl (lv_at hl 0 rfl) ?_
  refine lv_iconst (v := (0 : Int32)) hx hb dX12_asks_1 (by decide) ?_
  refine va_put (D := D) (ci := 12) (v := .int (0 : Int32)) (ty := .int) (C := RX12) (T := TX12) (N := 58) hx hb hts hinX12 tyX12 tyX12_ok nmX12 hown hK hP hD hS 0 rfl rfl 55 (by decide) (hts (.fieldLink RX12 362 "WheelBookModel" "asked" "I") (List.mem_of_getElem? (i := 1) rfl)) (fun _ h9 => h9) rfl (by decide +kernel) rfl rfl (Nat.le_of_ble_eq_true rfl) dX12_asks_2 (fun H locs hP hD hS => ?_)
  have hP : va_P D vwCl (wWX12 cB cI cZ a0 (upd I0 19 (0 : Int32)) L0 M0) H := hP
  have hD : va_D A (wWX12 cB cI cZ a0 (upd I0 19 (0 : Int32)) L0 M0) := hD
  obtain ⟨I0_1, eI0_1, hf⟩ := wb_v hf
  rw [← eI0_1] at hP hD
  refine lv_iconst (v := (0 : Int32)) hx hb dX12_asks_5 (by decide) ?_
  refine lv_istore (lv' := [(4, .int (0 : Int32)), (0, .ref (a0 0)), (1, .ref (a0 33)), (2, .int x2), (3, .int x3)]) hx hb dX12_asks_6 hl (by decide) rfl (fun ls hl => ?_)
  have Lh8 : ∀ (fu8 : Nat) (I0_l8 : Nat → Int32) (L0_l8 : Int64) (M0_l8 : Nat → Nat → Int32) (y8_4 : Int32) (H : Heap) (locs : List Loc), va_P D vwCl (wWX12 cB cI cZ a0 I0_l8 L0_l8 M0_l8) H → va_D A (wWX12 cB cI cZ a0 I0_l8 L0_l8 M0_l8) → va_S A s.heap H locs → ∀ (ls : Array Slot), lv_has ls 7 [(0, .ref (a0 0)), (1, .ref (a0 33)), (2, .int x2), (3, .int x3), (4, .int y8_4)] → fX12_asks_133_L8 N x2 x3 fu8 I0_l8 L0_l8 M0_l8 y8_4 = some R → W p l e (headSpec wsX12_asks { frames := 3, cells := 0, slots := 0, locals := 69 }).room s m [.ref (a0 0), .ref (a0 33), .int x2, .int x3].toArray below meth c H locs 0 0 (MQ below (va_Qi (fun r (_ : Unit) => r = R.1) (fun _ t => wb_post D [(cB, .byte), (cI, .int), (cZ, .boolean)] A (wWX12 cB cI cZ a0 R.2.1 R.2.2.1 R.2.2.2) t) A) [.ref (a0 0), .ref (a0 33), .int x2, .int x3].toArray s 0 0 A) (F0 m 8 ls []) := by
    intro fu8
    induction fu8 with
    | zero =>
      intro I0_l8 L0_l8 M0_l8 y8_4 H locs hP hD hS ls hl hf
      exact absurd hf (by rw [fX12_asks_133_L8.eq_1]; exact fun h => nomatch h)
    | succ fu8 ih8 =>
      intro I0_l8 L0_l8 M0_l8 y8_4 H locs hP hD hS ls hl hf
      rw [fX12_asks_133_L8.eq_2] at hf
      refine lv_iload hx hb dX12_asks_8 (lv_at hl 4 rfl) ?_
      refine lv_bipush (v := (20 : Int32)) hx hb dX12_asks_10 (by decide) ?_
      refine lv_icmp_ge (tgt := 66) hx hb dX12_asks_12 (by decide) (fun hc => ?_) (fun hc => ?_)
      · replace hf := wb_t hc hf
        refine lv_aload_n hx hb dX12_asks_66 rfl (lv_at hl 0 rfl) ?_
        refine lv_iload_n hx hb dX12_asks_67 rfl (lv_at hl 3 rfl) ?_
        obtain ⟨r2, hr2, hf⟩ := wb_b hf
        refine vp_callSi (W.runV (As := [.int x3]) (rest := []) ⟨hx, hb, hml, hown, hts⟩ (cn_X12_hitsBy l D cB cI cZ N a0 I0_l8 L0_l8 M0_l8 x3 r2 hr2) (cwV 1 hts gX12_asks_X12_hitsBy rfl rfl rfl cdX12_hitsBy ⟨Nat.le_of_ble_eq_true rfl, Nat.le_of_ble_eq_true rfl⟩) (wb_preV hP hK (wr_12 hK hP (q0 := 0) rfl)) rfl rfl hl.1 rfl (lv_room (Nat.le_of_ble_eq_true rfl)) dX12_asks_68 ⟨Nat.le_of_ble_eq_true rfl, Nat.le_of_ble_eq_true rfl⟩) (fun r9 e9 => ?_)
        rw [e9]
        refine lv_istore (lv' := [(4, .int r2), (0, .ref (a0 0)), (1, .ref (a0 33)), (2, .int x2), (3, .int x3)]) hx hb dX12_asks_71 hl (by decide) rfl (fun ls hl => ?_)
        refine lv_iload_n hx hb dX12_asks_73 rfl (lv_at hl 3 rfl) ?_
        refine lv_if_ne (tgt := 80) hx hb dX12_asks_74 (by decide) (fun hc => ?_) (fun hc => ?_)
        · replace hf := wb_f hc hf
          refine lv_aload_n hx hb dX12_asks_80 rfl (lv_at hl 1 rfl) ?_
          refine va_get (D := D) (ci := 12) (v := .int (I0_l8 19)) (C := RX12) (T := TX12) (N := 58) hx hb hts hinX12 hown hK hP 0 rfl rfl 55 (by decide) (hts (.fieldLink RX12 362 "WheelBookModel" "asked" "I") (List.mem_of_getElem? (i := 1) rfl)) (fun _ h9 => h9) rfl dX12_asks_81 ?_
          refine lv_bipush (v := (8 : Int32)) hx hb dX12_asks_84 (by decide) ?_
          refine lv_icmp_le (tgt := 91) hx hb dX12_asks_86 (by decide) (fun hc => ?_) (fun hc => ?_)
          · replace hf := wb_t hc hf
            refine lv_iconst (v := (0 : Int32)) hx hb dX12_asks_91 (by decide) ?_
            refine lv_istore (lv' := [(5, .int (0 : Int32)), (4, .int r2), (0, .ref (a0 0)), (1, .ref (a0 33)), (2, .int x2), (3, .int x3)]) hx hb dX12_asks_92 hl (by decide) rfl (fun ls hl => ?_)
            refine lv_iconst (v := (1 : Int32)) hx hb dX12_asks_94 (by decide) ?_
            refine lv_istore (lv' := [(6, .int (1 : Int32)), (5, .int (0 : Int32)), (4, .int r2), (0, .ref (a0 0)), (1, .ref (a0 33)), (2, .int x2), (3, .int x3)]) hx hb dX12_asks_95 hl (by decide) rfl (fun ls hl => ?_)
            have Lh97 : ∀ (fu97 : Nat) (I0_l97 : Nat → Int32) (L0_l97 : Int64) (M0_l97 : Nat → Nat → Int32) (y97_5 : Int32) (y97_6 : Int32) (H : Heap) (locs : List Loc), va_P D vwCl (wWX12 cB cI cZ a0 I0_l97 L0_l97 M0_l97) H → va_D A (wWX12 cB cI cZ a0 I0_l97 L0_l97 M0_l97) → va_S A s.heap H locs → ∀ (ls : Array Slot), lv_has ls 7 [(0, .ref (a0 0)), (3, .int x3), (4, .int r2), (5, .int y97_5), (6, .int y97_6)] → fX12_asks_133_L97 N x2 x3 r2 (fX12_asks_133_L8 N x2 x3 fu8) fu97 I0_l97 L0_l97 M0_l97 y97_5 y97_6 = some R → W p l e (headSpec wsX12_asks { frames := 3, cells := 0, slots := 0, locals := 69 }).room s m [.ref (a0 0), .ref (a0 33), .int x2, .int x3].toArray below meth c H locs 0 0 (MQ below (va_Qi (fun r (_ : Unit) => r = R.1) (fun _ t => wb_post D [(cB, .byte), (cI, .int), (cZ, .boolean)] A (wWX12 cB cI cZ a0 R.2.1 R.2.2.1 R.2.2.2) t) A) [.ref (a0 0), .ref (a0 33), .int x2, .int x3].toArray s 0 0 A) (F0 m 97 ls []) := by
              intro fu97
              induction fu97 with
              | zero =>
                intro I0_l97 L0_l97 M0_l97 y97_5 y97_6 H locs hP hD hS ls hl hf
                exact absurd hf (by rw [fX12_asks_133_L97.eq_1]; exact fun h => nomatch h)
              | succ fu97 ih97 =>
                intro I0_l97 L0_l97 M0_l97 y97_5 y97_6 H locs hP hD hS ls hl hf
                rw [fX12_asks_133_L97.eq_2] at hf
                refine lv_iload hx hb dX12_asks_97 (lv_at hl 4 rfl) ?_
                refine lv_if_eq (tgt := 124) hx hb dX12_asks_99 (by decide) (fun hc => ?_) (fun hc => ?_)
                · replace hf := wb_t hc hf
                  refine lv_iload hx hb dX12_asks_124 (lv_at hl 3 rfl) ?_
                  exact W.iret (v := y97_5) hx hb hr (fun t ht hW => by rw [← Option.some.inj hf]; exact ⟨⟨y97_5, (), rfl, rfl, by rw [ht]; exact hP, va_K.moved hW.alike hK, hD⟩, hS.F ht⟩) hS.2.2 dX12_asks_126
                · replace hf := wb_f hc hf
                  refine lv_aload_n hx hb dX12_asks_102 rfl (lv_at hl 0 rfl) ?_
                  refine lv_iload_n hx hb dX12_asks_103 rfl (lv_at hl 1 rfl) ?_
                  obtain ⟨r3, hr3, hf⟩ := wb_b hf
                  refine vp_callSi (W.runV (As := [.int x3]) (rest := []) ⟨hx, hb, hml, hown, hts⟩ (cn_X12_hitsBy l D cB cI cZ N a0 I0_l97 L0_l97 M0_l97 x3 r3 hr3) (cwV 1 hts gX12_asks_X12_hitsBy rfl rfl rfl cdX12_hitsBy ⟨Nat.le_of_ble_eq_true rfl, Nat.le_of_ble_eq_true rfl⟩) (wb_preV hP hK (wr_12 hK hP (q0 := 0) rfl)) rfl rfl hl.1 rfl (lv_room (Nat.le_of_ble_eq_true rfl)) dX12_asks_104 ⟨Nat.le_of_ble_eq_true rfl, Nat.le_of_ble_eq_true rfl⟩) (fun r9 e9 => ?_)
                  rw [e9]
                  refine lv_iload hx hb dX12_asks_107 (lv_at hl 2 rfl) ?_
                  refine lv_icmp_lt (tgt := 115) hx hb dX12_asks_109 (by decide) (fun hc => ?_) (fun hc => ?_)
                  · replace hf := wb_t hc hf
                    refine lv_aload_n hx hb dX12_asks_115 rfl (lv_at hl 0 rfl) ?_
                    obtain ⟨r4, hr4, hf⟩ := wb_b hf
                    have hPc := hP
                    have hDc := hD
                    have hFc := wj_F hDc hS hA
                    refine va_calli (va_runV (As := []) (rest := []) ⟨hx, hb, hml, hown, hts⟩ (cn_X12_turns l D cB cI cZ N a0 I0_l97 L0_l97 M0_l97 H.size r4 hr4) (cwV 0 hts gX12_asks_X12_turns rfl rfl rfl cdX12_turns ⟨Nat.le_of_ble_eq_true rfl, Nat.le_of_ble_eq_true rfl⟩) (wb_preDV hPc hK hDc (wr_12 hK hP (q0 := 0) rfl)) rfl rfl hl.1 rfl (lv_room (Nat.le_of_ble_eq_true rfl)) dX12_asks_116 ⟨Nat.le_of_ble_eq_true rfl, Nat.le_of_ble_eq_true rfl⟩) hS (fun q _ h => hFc q h) hFc (fun r9 u t H locs ht hvm hw hB hz1 hk1 hS => ?_)
                    obtain ⟨hP, hD⟩ := wj_0 hFc ht hB
                    rw [hw]
                    obtain ⟨v5, ev5, hf⟩ := wb_v hf
                    refine wb_topi ev5 ?_
                    refine lv_istore (lv' := [(6, .int v5), (0, .ref (a0 0)), (3, .int x3), (4, .int r2), (5, .int y97_5)]) hx hb dX12_asks_119 hl (by decide) rfl (fun ls hl => ?_)
                    refine lv_goto (tgt := 97) hx hb dX12_asks_121 (by decide) ?_
                    exact ih97 r4.2.1 r4.2.2.1 r4.2.2.2 y97_5 v5 H locs hP hD hS ls (lv_sub hl [1, 2, 3, 4, 0] rfl) hf
                  · replace hf := wb_f hc hf
                    obtain ⟨v6, ev6, hf⟩ := wb_v hf
                    refine lv_iinc (v := v6) (lv' := [(5, .int v6), (0, .ref (a0 0)), (3, .int x3), (4, .int r2), (6, .int y97_6)]) hx hb dX12_asks_112 hl (k := 3) rfl (by rw [ev6]; rfl) (by decide) rfl (fun ls hl => ?_)
                    refine lv_aload_n hx hb dX12_asks_115 rfl (lv_at hl 1 rfl) ?_
                    obtain ⟨r7, hr7, hf⟩ := wb_b hf
                    have hPc := hP
                    have hDc := hD
                    have hFc := wj_F hDc hS hA
                    refine va_calli (va_runV (As := []) (rest := []) ⟨hx, hb, hml, hown, hts⟩ (cn_X12_turns l D cB cI cZ N a0 I0_l97 L0_l97 M0_l97 H.size r7 hr7) (cwV 0 hts gX12_asks_X12_turns rfl rfl rfl cdX12_turns ⟨Nat.le_of_ble_eq_true rfl, Nat.le_of_ble_eq_true rfl⟩) (wb_preDV hPc hK hDc (wr_12 hK hP (q0 := 0) rfl)) rfl rfl hl.1 rfl (lv_room (Nat.le_of_ble_eq_true rfl)) dX12_asks_116 ⟨Nat.le_of_ble_eq_true rfl, Nat.le_of_ble_eq_true rfl⟩) hS (fun q _ h => hFc q h) hFc (fun r9 u t H locs ht hvm hw hB hz1 hk1 hS => ?_)
                    obtain ⟨hP, hD⟩ := wj_0 hFc ht hB
                    rw [hw]
                    obtain ⟨v8, ev8, hf⟩ := wb_v hf
                    refine wb_topi ev8 ?_
                    refine lv_istore (lv' := [(6, .int v8), (5, .int v6), (0, .ref (a0 0)), (3, .int x3), (4, .int r2)]) hx hb dX12_asks_119 hl (by decide) rfl (fun ls hl => ?_)
                    refine lv_goto (tgt := 97) hx hb dX12_asks_121 (by decide) ?_
                    exact ih97 r7.2.1 r7.2.2.1 r7.2.2.2 v6 v8 H locs hP hD hS ls (lv_sub hl [2, 3, 4, 1, 0] rfl) hf
            exact Lh97 N I0_l8 L0_l8 M0_l8 (0 : Int32) (1 : Int32) H locs hP hD hS ls (lv_sub hl [3, 6, 2, 1, 0] rfl) hf
          · replace hf := wb_f hc hf
            refine lv_iconst (v := (-1 : Int32)) hx hb dX12_asks_89 (by decide) ?_
            exact W.iret (v := (-1 : Int32)) hx hb hr (fun t ht hW => by rw [← Option.some.inj hf]; exact ⟨⟨(-1 : Int32), (), rfl, rfl, by rw [ht]; exact hP, va_K.moved hW.alike hK, hD⟩, hS.F ht⟩) hS.2.2 dX12_asks_90
        · replace hf := wb_t hc hf
          refine lv_iload hx hb dX12_asks_77 (lv_at hl 0 rfl) ?_
          exact W.iret (v := r2) hx hb hr (fun t ht hW => by rw [← Option.some.inj hf]; exact ⟨⟨r2, (), rfl, rfl, by rw [ht]; exact hP, va_K.moved hW.alike hK, hD⟩, hS.F ht⟩) hS.2.2 dX12_asks_79
      · replace hf := wb_f hc hf
        refine lv_aload_n hx hb dX12_asks_15 rfl (lv_at hl 1 rfl) ?_
        refine lv_iload hx hb dX12_asks_16 (lv_at hl 4 rfl) ?_
        obtain ⟨hin, hf⟩ := wb_n hf
        refine va_iald hx hb hK hP 33 1 rfl rfl hin dX12_asks_18 ?_
        refine lv_iconst (v := (-1 : Int32)) hx hb dX12_asks_19 (by decide) ?_
        refine lv_icmp_ne (tgt := 26) hx hb dX12_asks_20 (by decide) (fun hc => ?_) (fun hc => ?_)
        · replace hf := wb_f hc hf
          refine lv_aload_n hx hb dX12_asks_26 rfl (lv_at hl 0 rfl) ?_
          refine va_get (D := D) (ci := 12) (v := .ref (a0 36)) (C := RX12) (T := TX12) (N := 58) hx hb hts hinX12 hown hK hP 0 rfl rfl 56 (by decide) (hts (.fieldLink RX12 123 "WheelBookModel" "who" "[I") (List.mem_of_getElem? (i := 2) rfl)) (fun _ h9 => h9) rfl dX12_asks_27 ?_
          refine lv_aload_n hx hb dX12_asks_30 rfl (lv_at hl 0 rfl) ?_
          refine va_get (D := D) (ci := 12) (v := .int (I0_l8 19)) (C := RX12) (T := TX12) (N := 58) hx hb hts hinX12 hown hK hP 0 rfl rfl 55 (by decide) (hts (.fieldLink RX12 362 "WheelBookModel" "asked" "I") (List.mem_of_getElem? (i := 1) rfl)) (fun _ h9 => h9) rfl dX12_asks_31 ?_
          refine lv_iload hx hb dX12_asks_34 (lv_at hl 4 rfl) ?_
          obtain ⟨hin, hf⟩ := wb_n hf
          refine va_iast hx hb hK hP hD hS 36 1 rfl rfl hin dX12_asks_36 (fun H locs hP hD hS => ?_)
          have hP : va_P D vwCl (wWX12 cB cI cZ a0 I0_l8 L0_l8 (wb_um M0_l8 35 ((I0_l8 19)).toNatClampNeg y8_4)) H := hP
          have hD : va_D A (wWX12 cB cI cZ a0 I0_l8 L0_l8 (wb_um M0_l8 35 ((I0_l8 19)).toNatClampNeg y8_4)) := hD
          obtain ⟨M0_9, eM0_9, hf⟩ := wb_v hf
          rw [← eM0_9] at hP hD
          refine lv_aload_n hx hb dX12_asks_37 rfl (lv_at hl 0 rfl) ?_
          refine va_get (D := D) (ci := 12) (v := .ref (a0 37)) (C := RX12) (T := TX12) (N := 58) hx hb hts hinX12 hown hK hP 0 rfl rfl 57 (by decide) (hts (.fieldLink RX12 126 "WheelBookModel" "turn" "[I") (List.mem_of_getElem? (i := 3) rfl)) (fun _ h9 => h9) rfl dX12_asks_38 ?_
          refine lv_aload_n hx hb dX12_asks_41 rfl (lv_at hl 0 rfl) ?_
          refine va_get (D := D) (ci := 12) (v := .int (I0_l8 19)) (C := RX12) (T := TX12) (N := 58) hx hb hts hinX12 hown hK hP 0 rfl rfl 55 (by decide) (hts (.fieldLink RX12 362 "WheelBookModel" "asked" "I") (List.mem_of_getElem? (i := 1) rfl)) (fun _ h9 => h9) rfl dX12_asks_42 ?_
          refine lv_aload_n hx hb dX12_asks_45 rfl (lv_at hl 0 rfl) ?_
          refine va_get (D := D) (ci := 12) (v := .int (I0_l8 19)) (C := RX12) (T := TX12) (N := 58) hx hb hts hinX12 hown hK hP 0 rfl rfl 55 (by decide) (hts (.fieldLink RX12 362 "WheelBookModel" "asked" "I") (List.mem_of_getElem? (i := 1) rfl)) (fun _ h9 => h9) rfl dX12_asks_46 ?_
          obtain ⟨hin, hf⟩ := wb_n hf
          refine va_iast hx hb hK hP hD hS 37 1 rfl rfl hin dX12_asks_49 (fun H locs hP hD hS => ?_)
          have hP : va_P D vwCl (wWX12 cB cI cZ a0 I0_l8 L0_l8 (wb_um M0_9 36 ((I0_l8 19)).toNatClampNeg (I0_l8 19))) H := hP
          have hD : va_D A (wWX12 cB cI cZ a0 I0_l8 L0_l8 (wb_um M0_9 36 ((I0_l8 19)).toNatClampNeg (I0_l8 19))) := hD
          obtain ⟨M0_10, eM0_10, hf⟩ := wb_v hf
          rw [← eM0_10] at hP hD
          refine lv_aload_n hx hb dX12_asks_50 rfl (lv_at hl 0 rfl) ?_
          refine lv_dup hx hb dX12_asks_51 rfl ?_
          refine va_get (D := D) (ci := 12) (v := .int (I0_l8 19)) (C := RX12) (T := TX12) (N := 58) hx hb hts hinX12 hown hK hP 0 rfl rfl 55 (by decide) (hts (.fieldLink RX12 362 "WheelBookModel" "asked" "I") (List.mem_of_getElem? (i := 1) rfl)) (fun _ h9 => h9) rfl dX12_asks_52 ?_
          refine lv_iconst (v := (1 : Int32)) hx hb dX12_asks_55 (by decide) ?_
          refine lv_iadd hx hb dX12_asks_56 ?_
          refine va_put (D := D) (ci := 12) (v := .int ((I0_l8 19) + (1 : Int32))) (ty := .int) (C := RX12) (T := TX12) (N := 58) hx hb hts hinX12 tyX12 tyX12_ok nmX12 hown hK hP hD hS 0 rfl rfl 55 (by decide) (hts (.fieldLink RX12 362 "WheelBookModel" "asked" "I") (List.mem_of_getElem? (i := 1) rfl)) (fun _ h9 => h9) rfl (by decide +kernel) rfl rfl (Nat.le_of_ble_eq_true rfl) dX12_asks_57 (fun H locs hP hD hS => ?_)
          have hP : va_P D vwCl (wWX12 cB cI cZ a0 (upd I0_l8 19 ((I0_l8 19) + (1 : Int32))) L0_l8 M0_10) H := hP
          have hD : va_D A (wWX12 cB cI cZ a0 (upd I0_l8 19 ((I0_l8 19) + (1 : Int32))) L0_l8 M0_10) := hD
          obtain ⟨I0_11, eI0_11, hf⟩ := wb_v hf
          rw [← eI0_11] at hP hD
          obtain ⟨v12, ev12, hf⟩ := wb_v hf
          refine lv_iinc (v := v12) (lv' := [(4, .int v12), (0, .ref (a0 0)), (1, .ref (a0 33)), (2, .int x2), (3, .int x3)]) hx hb dX12_asks_60 hl (k := 4) rfl (by rw [ev12]; rfl) (by decide) rfl (fun ls hl => ?_)
          refine lv_goto (tgt := 8) hx hb dX12_asks_63 (by decide) ?_
          exact ih8 I0_11 L0_l8 M0_10 v12 H locs hP hD hS ls (lv_sub hl [1, 2, 3, 4, 0] rfl) hf
        · replace hf := wb_t hc hf
          refine lv_goto (tgt := 60) hx hb dX12_asks_23 (by decide) ?_
          obtain ⟨v13, ev13, hf⟩ := wb_v hf
          refine lv_iinc (v := v13) (lv' := [(4, .int v13), (0, .ref (a0 0)), (1, .ref (a0 33)), (2, .int x2), (3, .int x3)]) hx hb dX12_asks_60 hl (k := 4) rfl (by rw [ev13]; rfl) (by decide) rfl (fun ls hl => ?_)
          refine lv_goto (tgt := 8) hx hb dX12_asks_63 (by decide) ?_
          exact ih8 I0_l8 L0_l8 M0_l8 v13 H locs hP hD hS ls (lv_sub hl [1, 2, 3, 4, 0] rfl) hf
  exact Lh8 N I0_1 L0 M0 (0 : Int32) H locs hP hD hS ls (lv_sub hl [1, 2, 3, 4, 0] rfl) hf

set_option maxHeartbeats 4000000 in
set_option maxRecDepth 100000 in
theorem cn_X12_hits (l : Launch) (D : va_G) (cB cI cZ : ClassId) (N : Nat) (a0 : Nat → Nat) (I0 : Nat → Int32) (L0 : Int64) (M0 : Nat → Nat → Int32) (x1 : Int32) (x2 : Int32) (sz : Nat) (R : Int32 × (Nat → Int32) × Int64 × (Nat → Nat → Int32)) (hf : fX12_hits N I0 L0 M0 x1 x2 = some R) : Met l yX12_hits wsX12_hits ({ frames := 4, cells := 0, slots := 0, locals := 95 }) (va_Pc [.ref (a0 0), .int x1, .int x2] (wb_preD D [(cB, .byte), (cI, .int), (cZ, .boolean)] (wWX12 cB cI cZ a0 I0 L0 M0) sz)) (va_Qi (fun r (_ : Unit) => r = R.1) (fun _ t => wb_post D [(cB, .byte), (cI, .int), (cZ, .boolean)] (va_A (wWX12 cB cI cZ a0 I0 L0 M0) sz) (wWX12 cB cI cZ a0 R.2.1 R.2.2.1 R.2.2.2) t) (va_A (wWX12 cB cI cZ a0 I0 L0 M0) sz)) 0 0 (va_A (wWX12 cB cI cZ a0 I0 L0 M0) sz) := by
  refine Met.ofW (cc := cX12_hits) (maxL := 3) (ret := (some .int)) (by decide) rfl ?_
  intro p e s m args below meth c s₁ B hml hv
  obtain ⟨rfl, hsz, hP, hK, hD0⟩ := hv
  have hx := B.exec
  have hb := B.bytes
  have hr := B.returns
  have hts := atoms_spec (ws := wsX12_hits) B.pre
  have hown : s.vm.findClass RX12 = some m.cls := (findClass_of_methodNamed B.named :)
  have hlocks := B.notSynchronized
  have hinX12 : ∀ w ∈ u_ws RX12 TX12 58, w ∈ wsX12_hits := fun w h => List.mem_cons_of_mem _ (List.mem_append_right _ h)
  subst hsz
  have hD := hD0.self (sz := s.heap.size)
  generalize hAe : va_A (wWX12 cB cI cZ a0 I0 L0 M0) s.heap.size = A at hD ⊢
  have hA : ∀ q : Nat, s.heap.size ≤ q → A q := fun q h => by rw [← hAe]; exact Or.inr h
  have hS : va_S A s.heap s.heap [] := va_S.rf
  have hl := lv_entry ([.ref (a0 0), .int x1, .int x2]) (n := 3) (Nat.le_of_ble_eq_true rfl)
  rw [lg_entry_eq]
  generalize (lg_sl ([.ref (a0 0), .int x1, .int x2]) ++ List.replicate (3 - (lg_sl ([.ref (a0 0), .int x1, .int x2])).length) Slot.unset).toArray = ls at hl ⊢
  have hl : lv_has ls 3 [(0, .ref (a0 0)), (1, .int x1), (2, .int x2)] := hl
  unfold fX12_hits at hf
  obtain ⟨H, hHe⟩ : ∃ H : Heap, H = s.heap := ⟨_, rfl⟩
  obtain ⟨locs, hle⟩ : ∃ locs : List Loc, locs = [] := ⟨_, rfl⟩
  refine wb_start (H := H) (locs := locs) hHe hle ?_
  rw [← hHe] at hP
  have hS : va_S A s.heap H locs := by rw [hHe, hle]; exact va_S.rf
  have J30 : ∀ (I0_j30 : Nat → Int32) (L0_j30 : Int64) (M0_j30 : Nat → Nat → Int32) (z30_0 : Int32) (H : Heap) (locs : List Loc), va_P D vwCl (wWX12 cB cI cZ a0 I0_j30 L0_j30 M0_j30) H → va_D A (wWX12 cB cI cZ a0 I0_j30 L0_j30 M0_j30) → va_S A s.heap H locs → ∀ (ls : Array Slot), lv_has ls 3 [(0, .ref (a0 0)), (1, .int x1), (2, .int x2)] → fX12_hits_J30 N x1 x2 I0_j30 L0_j30 M0_j30 z30_0 = some R → W p l e (headSpec wsX12_hits { frames := 4, cells := 0, slots := 0, locals := 95 }).room s m [.ref (a0 0), .int x1, .int x2].toArray below meth c H locs 0 0 (MQ below (va_Qi (fun r (_ : Unit) => r = R.1) (fun _ t => wb_post D [(cB, .byte), (cI, .int), (cZ, .boolean)] A (wWX12 cB cI cZ a0 R.2.1 R.2.2.1 R.2.2.2) t) A) [.ref (a0 0), .int x1, .int x2].toArray s 0 0 A) (F0 m 30 ls [.int z30_0, .ref (a0 0)]) := by
    intro I0_j30 L0_j30 M0_j30 z30_0 H locs hP hD hS ls hl hf
    unfold fX12_hits_J30 at hf
    refine lv_iconst (v := (1 : Int32)) hx hb dX12_hits_30 (by decide) ?_
    obtain ⟨r1, hr1, hf⟩ := wb_b hf
    have hPc := hP
    have hDc := hD
    have hFc := wj_F hDc hS hA
    refine va_calli (va_runV (As := [.int z30_0, .int (1 : Int32)]) (rest := []) ⟨hx, hb, hml, hown, hts⟩ (cn_X12_right l D cB cI cZ N a0 I0_j30 L0_j30 M0_j30 z30_0 (1 : Int32) H.size r1 hr1) (cwV 2 hts gX12_hits_X12_right rfl rfl rfl cdX12_right ⟨Nat.le_of_ble_eq_true rfl, Nat.le_of_ble_eq_true rfl⟩) (wb_preDV hPc hK hDc (wr_12 hK hP (q0 := 0) rfl)) rfl rfl hl.1 rfl (lv_room (Nat.le_of_ble_eq_true rfl)) dX12_hits_31 ⟨Nat.le_of_ble_eq_true rfl, Nat.le_of_ble_eq_true rfl⟩) hS (fun q _ h => hFc q h) hFc (fun r9 u t H locs ht hvm hw hB hz1 hk1 hS => ?_)
    obtain ⟨hP, hD⟩ := wj_0 hFc ht hB
    rw [hw]
    refine lv_if_ne (tgt := 39) hx hb dX12_hits_34 (by decide) (fun hc => ?_) (fun hc => ?_)
    · replace hf := wb_f hc hf
      refine lv_aload_n hx hb dX12_hits_39 rfl (lv_at hl 0 rfl) ?_
      refine lv_aload_n hx hb dX12_hits_40 rfl (lv_at hl 0 rfl) ?_
      refine va_get (D := D) (ci := 12) (v := .ref (a0 33)) (C := RX12) (T := TX12) (N := 58) hx hb hts hinX12 hown hK hP 0 rfl rfl 52 (by decide) (hts (.fieldLink RX12 114 "WheelBookModel" "foretold" "[I") (List.mem_of_getElem? (i := 2) rfl)) (fun _ h9 => h9) rfl dX12_hits_41 ?_
      refine lv_iload_n hx hb dX12_hits_44 rfl (lv_at hl 1 rfl) ?_
      refine lv_iload_n hx hb dX12_hits_45 rfl (lv_at hl 2 rfl) ?_
      obtain ⟨r2, hr2, hf⟩ := wb_b hf
      have hPc := hP
      have hDc := hD
      have hFc := wj_F hDc hS hA
      refine va_calli (va_runV (As := [.ref (a0 33), .int x1, .int x2]) (rest := []) ⟨hx, hb, hml, hown, hts⟩ (cn_X12_asks_133 l D cB cI cZ N a0 r1.2.1 r1.2.2.1 r1.2.2.2 x1 x2 H.size r2 hr2) (cwV 3 hts gX12_hits_X12_asks rfl rfl rfl cdX12_asks ⟨Nat.le_of_ble_eq_true rfl, Nat.le_of_ble_eq_true rfl⟩) (wb_preDV hPc hK hDc (wr_12 hK hP (q0 := 0) rfl)) rfl rfl hl.1 rfl (lv_room (Nat.le_of_ble_eq_true rfl)) dX12_hits_46 ⟨Nat.le_of_ble_eq_true rfl, Nat.le_of_ble_eq_true rfl⟩) hS (fun q _ h => hFc q h) hFc (fun r9 u t H locs ht hvm hw hB hz1 hk1 hS => ?_)
      obtain ⟨hP, hD⟩ := wj_0 hFc ht hB
      rw [hw]
      exact W.iret (v := r2.1) hx hb hr (fun t ht hW => by rw [← Option.some.inj hf]; exact ⟨⟨r2.1, (), rfl, rfl, by rw [ht]; exact hP, va_K.moved hW.alike hK, hD⟩, hS.F ht⟩) hS.2.2 dX12_hits_49
    · replace hf := wb_t hc hf
      refine lv_iconst (v := (0 : Int32)) hx hb dX12_hits_37 (by decide) ?_
      exact W.iret (v := (0 : Int32)) hx hb hr (fun t ht hW => by rw [← Option.some.inj hf]; exact ⟨⟨(0 : Int32), (), rfl, rfl, by rw [ht]; exact hP, va_K.moved hW.alike hK, hD⟩, hS.F ht⟩) hS.2.2 dX12_hits_38
  have J29 : ∀ (I0_j29 : Nat → Int32) (L0_j29 : Int64) (M0_j29 : Nat → Nat → Int32) (H : Heap) (locs : List Loc), va_P D vwCl (wWX12 cB cI cZ a0 I0_j29 L0_j29 M0_j29) H → va_D A (wWX12 cB cI cZ a0 I0_j29 L0_j29 M0_j29) → va_S A s.heap H locs → ∀ (ls : Array Slot), lv_has ls 3 [(0, .ref (a0 0)), (1, .int x1), (2, .int x2)] → fX12_hits_J29 N x1 x2 I0_j29 L0_j29 M0_j29 = some R → W p l e (headSpec wsX12_hits { frames := 4, cells := 0, slots := 0, locals := 95 }).room s m [.ref (a0 0), .int x1, .int x2].toArray below meth c H locs 0 0 (MQ below (va_Qi (fun r (_ : Unit) => r = R.1) (fun _ t => wb_post D [(cB, .byte), (cI, .int), (cZ, .boolean)] A (wWX12 cB cI cZ a0 R.2.1 R.2.2.1 R.2.2.2) t) A) [.ref (a0 0), .int x1, .int x2].toArray s 0 0 A) (F0 m 29 ls [.ref (a0 0)]) := by
    intro I0_j29 L0_j29 M0_j29 H locs hP hD hS ls hl hf
    unfold fX12_hits_J29 at hf
    refine lv_iconst (v := (0 : Int32)) hx hb dX12_hits_29 (by decide) ?_
    exact J30 I0_j29 L0_j29 M0_j29 (0 : Int32) H locs hP hD hS ls (lv_sub hl [0, 1, 2] rfl) hf
  have J15 : ∀ (I0_j15 : Nat → Int32) (L0_j15 : Int64) (M0_j15 : Nat → Nat → Int32) (H : Heap) (locs : List Loc), va_P D vwCl (wWX12 cB cI cZ a0 I0_j15 L0_j15 M0_j15) H → va_D A (wWX12 cB cI cZ a0 I0_j15 L0_j15 M0_j15) → va_S A s.heap H locs → ∀ (ls : Array Slot), lv_has ls 3 [(0, .ref (a0 0)), (1, .int x1), (2, .int x2)] → fX12_hits_J15 N x1 x2 I0_j15 L0_j15 M0_j15 = some R → W p l e (headSpec wsX12_hits { frames := 4, cells := 0, slots := 0, locals := 95 }).room s m [.ref (a0 0), .int x1, .int x2].toArray below meth c H locs 0 0 (MQ below (va_Qi (fun r (_ : Unit) => r = R.1) (fun _ t => wb_post D [(cB, .byte), (cI, .int), (cZ, .boolean)] A (wWX12 cB cI cZ a0 R.2.1 R.2.2.1 R.2.2.2) t) A) [.ref (a0 0), .int x1, .int x2].toArray s 0 0 A) (F0 m 15 ls [.ref (a0 0)]) := by
    intro I0_j15 L0_j15 M0_j15 H locs hP hD hS ls hl hf
    unfold fX12_hits_J15 at hf
    refine lv_iload_n hx hb dX12_hits_15 rfl (lv_at hl 2 rfl) ?_
    refine lv_iconst (v := (0 : Int32)) hx hb dX12_hits_16 (by decide) ?_
    refine lv_bipush (v := (120 : Int32)) hx hb dX12_hits_17 (by decide) ?_
    obtain ⟨r3, hr3, hf⟩ := wb_b hf
    refine vp_callSi (W.runS (As := [.int x2, .int (0 : Int32), .int (120 : Int32)]) (rest := [.ref (a0 0)]) ⟨hx, hb, hml, hown, hts⟩ (cn_X12_within l D cB cI cZ N x2 (0 : Int32) (120 : Int32) r3 hr3) (va_cwS 3 hts gX12_hits_X12_within rfl rfl rfl csX12_within ⟨Nat.le_of_ble_eq_true rfl, Nat.le_of_ble_eq_true rfl⟩) (wb_preS (hP.sub (ws' := ([] : va_W)) [] rfl) hK) rfl rfl hl.1 rfl (lv_room (Nat.le_of_ble_eq_true rfl)) dX12_hits_19 ⟨Nat.le_of_ble_eq_true rfl, Nat.le_of_ble_eq_true rfl⟩) (fun r9 e9 => ?_)
    rw [e9]
    refine lv_if_eq (tgt := 29) hx hb dX12_hits_22 (by decide) (fun hc => ?_) (fun hc => ?_)
    · replace hf := wb_t hc hf
      exact J29 I0_j15 L0_j15 M0_j15 H locs hP hD hS ls (lv_sub hl [0, 1, 2] rfl) hf
    · replace hf := wb_f hc hf
      refine lv_iconst (v := (1 : Int32)) hx hb dX12_hits_25 (by decide) ?_
      refine lv_goto (tgt := 30) hx hb dX12_hits_26 (by decide) ?_
      exact J30 I0_j15 L0_j15 M0_j15 (1 : Int32) H locs hP hD hS ls (lv_sub hl [0, 1, 2] rfl) hf
  refine lv_aload_n hx hb dX12_hits_0 rfl (lv_at hl 0 rfl) ?_
  refine lv_iconst (v := (0 : Int32)) hx hb dX12_hits_1 (by decide) ?_
  refine va_put (D := D) (ci := 12) (v := .int (0 : Int32)) (ty := .int) (C := RX12) (T := TX12) (N := 58) hx hb hts hinX12 tyX12 tyX12_ok nmX12 hown hK hP hD hS 0 rfl rfl 0 (by decide) (hts (.fieldLink RX12 129 "WheelBookModel" "thrown" "I") (List.mem_of_getElem? (i := 1) rfl)) (fun _ h9 => h9) rfl (by decide +kernel) rfl rfl (Nat.le_of_ble_eq_true rfl) dX12_hits_2 (fun H locs hP hD hS => ?_)
  have hP : va_P D vwCl (wWX12 cB cI cZ a0 (upd I0 0 (0 : Int32)) L0 M0) H := hP
  have hD : va_D A (wWX12 cB cI cZ a0 (upd I0 0 (0 : Int32)) L0 M0) := hD
  obtain ⟨I0_4, eI0_4, hf⟩ := wb_v hf
  rw [← eI0_4] at hP hD
  refine lv_aload_n hx hb dX12_hits_5 rfl (lv_at hl 0 rfl) ?_
  refine lv_iload_n hx hb dX12_hits_6 rfl (lv_at hl 1 rfl) ?_
  refine lv_if_eq (tgt := 15) hx hb dX12_hits_7 (by decide) (fun hc => ?_) (fun hc => ?_)
  · replace hf := wb_t hc hf
    exact J15 I0_4 L0 M0 H locs hP hD hS ls (lv_sub hl [0, 1, 2] rfl) hf
  · replace hf := wb_f hc hf
    refine lv_iload_n hx hb dX12_hits_10 rfl (lv_at hl 1 rfl) ?_
    refine lv_iconst (v := (1 : Int32)) hx hb dX12_hits_11 (by decide) ?_
    refine lv_icmp_ne (tgt := 29) hx hb dX12_hits_12 (by decide) (fun hc => ?_) (fun hc => ?_)
    · replace hf := wb_f hc hf
      exact J29 I0_4 L0 M0 H locs hP hD hS ls (lv_sub hl [0, 1, 2] rfl) hf
    · replace hf := wb_t hc hf
      exact J15 I0_4 L0 M0 H locs hP hD hS ls (lv_sub hl [0, 1, 2] rfl) hf

set_option maxHeartbeats 4000000 in
set_option maxRecDepth 100000 in
theorem cn_X12_asks_135 (l : Launch) (D : va_G) (cB cI cZ : ClassId) (N : Nat) (a0 : Nat → Nat) (I0 : Nat → Int32) (L0 : Int64) (M0 : Nat → Nat → Int32) (x2 : Int32) (x3 : Int32) (sz : Nat) (R : Int32 × (Nat → Int32) × Int64 × (Nat → Nat → Int32)) (hf : fX12_asks_135 N I0 L0 M0 x2 x3 = some R) : Met l yX12_asks wsX12_asks ({ frames := 3, cells := 0, slots := 0, locals := 69 }) (va_Pc [.ref (a0 0), .ref (a0 35), .int x2, .int x3] (wb_preD D [(cB, .byte), (cI, .int), (cZ, .boolean)] (wWX12 cB cI cZ a0 I0 L0 M0) sz)) (va_Qi (fun r (_ : Unit) => r = R.1) (fun _ t => wb_post D [(cB, .byte), (cI, .int), (cZ, .boolean)] (va_A (wWX12 cB cI cZ a0 I0 L0 M0) sz) (wWX12 cB cI cZ a0 R.2.1 R.2.2.1 R.2.2.2) t) (va_A (wWX12 cB cI cZ a0 I0 L0 M0) sz)) 0 0 (va_A (wWX12 cB cI cZ a0 I0 L0 M0) sz) := by
  refine Met.ofW (cc := cX12_asks) (maxL := 7) (ret := (some .int)) (by decide) rfl ?_
  intro p e s m args below meth c s₁ B hml hv
  obtain ⟨rfl, hsz, hP, hK, hD0⟩ := hv
  have hx := B.exec
  have hb := B.bytes
  have hr := B.returns
  have hts := atoms_spec (ws := wsX12_asks) B.pre
  have hown : s.vm.findClass RX12 = some m.cls := (findClass_of_methodNamed B.named :)
  have hlocks := B.notSynchronized
  have hinX12 : ∀ w ∈ u_ws RX12 TX12 58, w ∈ wsX12_asks := fun w h => List.mem_cons_of_mem _ (List.mem_append_right _ h)
  subst hsz
  have hD := hD0.self (sz := s.heap.size)
  generalize hAe : va_A (wWX12 cB cI cZ a0 I0 L0 M0) s.heap.size = A at hD ⊢
  have hA : ∀ q : Nat, s.heap.size ≤ q → A q := fun q h => by rw [← hAe]; exact Or.inr h
  have hS : va_S A s.heap s.heap [] := va_S.rf
  have hl := lv_entry ([.ref (a0 0), .ref (a0 35), .int x2, .int x3]) (n := 7) (Nat.le_of_ble_eq_true rfl)
  rw [lg_entry_eq]
  generalize (lg_sl ([.ref (a0 0), .ref (a0 35), .int x2, .int x3]) ++ List.replicate (7 - (lg_sl ([.ref (a0 0), .ref (a0 35), .int x2, .int x3])).length) Slot.unset).toArray = ls at hl ⊢
  have hl : lv_has ls 7 [(0, .ref (a0 0)), (1, .ref (a0 35)), (2, .int x2), (3, .int x3)] := hl
  unfold fX12_asks_135 at hf
  obtain ⟨H, hHe⟩ : ∃ H : Heap, H = s.heap := ⟨_, rfl⟩
  obtain ⟨locs, hle⟩ : ∃ locs : List Loc, locs = [] := ⟨_, rfl⟩
  refine wb_start (H := H) (locs := locs) hHe hle ?_
  rw [← hHe] at hP
  have hS : va_S A s.heap H locs := by rw [hHe, hle]; exact va_S.rf
  refine lv_aload_n hx hb dX12_asks_0 rfl (lv_at hl 0 rfl) ?_
  refine lv_iconst (v := (0 : Int32)) hx hb dX12_asks_1 (by decide) ?_
  refine va_put (D := D) (ci := 12) (v := .int (0 : Int32)) (ty := .int) (C := RX12) (T := TX12) (N := 58) hx hb hts hinX12 tyX12 tyX12_ok nmX12 hown hK hP hD hS 0 rfl rfl 55 (by decide) (hts (.fieldLink RX12 362 "WheelBookModel" "asked" "I") (List.mem_of_getElem? (i := 1) rfl)) (fun _ h9 => h9) rfl (by decide +kernel) rfl rfl (Nat.le_of_ble_eq_true rfl) dX12_asks_2 (fun H locs hP hD hS => ?_)
  have hP : va_P D vwCl (wWX12 cB cI cZ a0 (upd I0 19 (0 : Int32)) L0 M0) H := hP
  have hD : va_D A (wWX12 cB cI cZ a0 (upd I0 19 (0 : Int32)) L0 M0) := hD
  obtain ⟨I0_1, eI0_1, hf⟩ := wb_v hf
  rw [← eI0_1] at hP hD
  refine lv_iconst (v := (0 : Int32)) hx hb dX12_asks_5 (by decide) ?_
  refine lv_istore (lv' := [(4, .int (0 : Int32)), (0, .ref (a0 0)), (1, .ref (a0 35)), (2, .int x2), (3, .int x3)]) hx hb dX12_asks_6 hl (by decide) rfl (fun ls hl => ?_)
  have Lh8 : ∀ (fu8 : Nat) (I0_l8 : Nat → Int32) (L0_l8 : Int64) (M0_l8 : Nat → Nat → Int32) (y8_4 : Int32) (H : Heap) (locs : List Loc), va_P D vwCl (wWX12 cB cI cZ a0 I0_l8 L0_l8 M0_l8) H → va_D A (wWX12 cB cI cZ a0 I0_l8 L0_l8 M0_l8) → va_S A s.heap H locs → ∀ (ls : Array Slot), lv_has ls 7 [(0, .ref (a0 0)), (1, .ref (a0 35)), (2, .int x2), (3, .int x3), (4, .int y8_4)] → fX12_asks_135_L8 N x2 x3 fu8 I0_l8 L0_l8 M0_l8 y8_4 = some R → W p l e (headSpec wsX12_asks { frames := 3, cells := 0, slots := 0, locals := 69 }).room s m [.ref (a0 0), .ref (a0 35), .int x2, .int x3].toArray below meth c H locs 0 0 (MQ below (va_Qi (fun r (_ : Unit) => r = R.1) (fun _ t => wb_post D [(cB, .byte), (cI, .int), (cZ, .boolean)] A (wWX12 cB cI cZ a0 R.2.1 R.2.2.1 R.2.2.2) t) A) [.ref (a0 0), .ref (a0 35), .int x2, .int x3].toArray s 0 0 A) (F0 m 8 ls []) := by
    intro fu8
    induction fu8 with
    | zero =>
      intro I0_l8 L0_l8 M0_l8 y8_4 H locs hP hD hS ls hl hf
      exact absurd hf (by rw [fX12_asks_135_L8.eq_1]; exact fun h => nomatch h)
    | succ fu8 ih8 =>
      intro I0_l8 L0_l8 M0_l8 y8_4 H locs hP hD hS ls hl hf
      rw [fX12_asks_135_L8.eq_2] at hf
      refine lv_iload hx hb dX12_asks_8 (lv_at hl 4 rfl) ?_
      refine lv_bipush (v := (20 : Int32)) hx hb dX12_asks_10 (by decide) ?_
      refine lv_icmp_ge (tgt := 66) hx hb dX12_asks_12 (by decide) (fun hc => ?_) (fun hc => ?_)
      · replace hf := wb_t hc hf
        refine lv_aload_n hx hb dX12_asks_66 rfl (lv_at hl 0 rfl) ?_
        refine lv_iload_n hx hb dX12_asks_67 rfl (lv_at hl 3 rfl) ?_
        obtain ⟨r2, hr2, hf⟩ := wb_b hf
        refine vp_callSi (W.runV (As := [.int x3]) (rest := []) ⟨hx, hb, hml, hown, hts⟩ (cn_X12_hitsBy l D cB cI cZ N a0 I0_l8 L0_l8 M0_l8 x3 r2 hr2) (cwV 1 hts gX12_asks_X12_hitsBy rfl rfl rfl cdX12_hitsBy ⟨Nat.le_of_ble_eq_true rfl, Nat.le_of_ble_eq_true rfl⟩) (wb_preV hP hK (wr_12 hK hP (q0 := 0) rfl)) rfl rfl hl.1 rfl (lv_room (Nat.le_of_ble_eq_true rfl)) dX12_asks_68 ⟨Nat.le_of_ble_eq_true rfl, Nat.le_of_ble_eq_true rfl⟩) (fun r9 e9 => ?_)
        rw [e9]
        refine lv_istore (lv' := [(4, .int r2), (0, .ref (a0 0)), (1, .ref (a0 35)), (2, .int x2), (3, .int x3)]) hx hb dX12_asks_71 hl (by decide) rfl (fun ls hl => ?_)
        refine lv_iload_n hx hb dX12_asks_73 rfl (lv_at hl 3 rfl) ?_
        refine lv_if_ne (tgt := 80) hx hb dX12_asks_74 (by decide) (fun hc => ?_) (fun hc => ?_)
        · replace hf := wb_f hc hf
          refine lv_aload_n hx hb dX12_asks_80 rfl (lv_at hl 1 rfl) ?_
          refine va_get (D := D) (ci := 12) (v := .int (I0_l8 19)) (C := RX12) (T := TX12) (N := 58) hx hb hts hinX12 hown hK hP 0 rfl rfl 55 (by decide) (hts (.fieldLink RX12 362 "WheelBookModel" "asked" "I") (List.mem_of_getElem? (i := 1) rfl)) (fun _ h9 => h9) rfl dX12_asks_81 ?_
          refine lv_bipush (v := (8 : Int32)) hx hb dX12_asks_84 (by decide) ?_
          refine lv_icmp_le (tgt := 91) hx hb dX12_asks_86 (by decide) (fun hc => ?_) (fun hc => ?_)
          · replace hf := wb_t hc hf
            refine lv_iconst (v := (0 : Int32)) hx hb dX12_asks_91 (by decide) ?_
            refine lv_istore (lv' := [(5, .int (0 : Int32)), (4, .int r2), (0, .ref (a0 0)), (1, .ref (a0 35)), (2, .int x2), (3, .int x3)]) hx hb dX12_asks_92 hl (by decide) rfl (fun ls hl => ?_)
            refine lv_iconst (v := (1 : Int32)) hx hb dX12_asks_94 (by decide) ?_
            refine lv_istore (lv' := [(6, .int (1 : Int32)), (5, .int (0 : Int32)), (4, .int r2), (0, .ref (a0 0)), (1, .ref (a0 35)), (2, .int x2), (3, .int x3)]) hx hb dX12_asks_95 hl (by decide) rfl (fun ls hl => ?_)
            have Lh97 : ∀ (fu97 : Nat) (I0_l97 : Nat → Int32) (L0_l97 : Int64) (M0_l97 : Nat → Nat → Int32) (y97_5 : Int32) (y97_6 : Int32) (H : Heap) (locs : List Loc), va_P D vwCl (wWX12 cB cI cZ a0 I0_l97 L0_l97 M0_l97) H → va_D A (wWX12 cB cI cZ a0 I0_l97 L0_l97 M0_l97) → va_S A s.heap H locs → ∀ (ls : Array Slot), lv_has ls 7 [(0, .ref (a0 0)), (3, .int x3), (4, .int r2), (5, .int y97_5), (6, .int y97_6)] → fX12_asks_135_L97 N x2 x3 r2 (fX12_asks_135_L8 N x2 x3 fu8) fu97 I0_l97 L0_l97 M0_l97 y97_5 y97_6 = some R → W p l e (headSpec wsX12_asks { frames := 3, cells := 0, slots := 0, locals := 69 }).room s m [.ref (a0 0), .ref (a0 35), .int x2, .int x3].toArray below meth c H locs 0 0 (MQ below (va_Qi (fun r (_ : Unit) => r = R.1) (fun _ t => wb_post D [(cB, .byte), (cI, .int), (cZ, .boolean)] A (wWX12 cB cI cZ a0 R.2.1 R.2.2.1 R.2.2.2) t) A) [.ref (a0 0), .ref (a0 35), .int x2, .int x3].toArray s 0 0 A) (F0 m 97 ls []) := by
              intro fu97
              induction fu97 with
              | zero =>
                intro I0_l97 L0_l97 M0_l97 y97_5 y97_6 H locs hP hD hS ls hl hf
                exact absurd hf (by rw [fX12_asks_135_L97.eq_1]; exact fun h => nomatch h)
              | succ fu97 ih97 =>
                intro I0_l97 L0_l97 M0_l97 y97_5 y97_6 H locs hP hD hS ls hl hf
                rw [fX12_asks_135_L97.eq_2] at hf
                refine lv_iload hx hb dX12_asks_97 (lv_at hl 4 rfl) ?_
                refine lv_if_eq (tgt := 124) hx hb dX12_asks_99 (by decide) (fun hc => ?_) (fun hc => ?_)
                · replace hf := wb_t hc hf
                  refine lv_iload hx hb dX12_asks_124 (lv_at hl 3 rfl) ?_
                  exact W.iret (v := y97_5) hx hb hr (fun t ht hW => by rw [← Option.some.inj hf]; exact ⟨⟨y97_5, (), rfl, rfl, by rw [ht]; exact hP, va_K.moved hW.alike hK, hD⟩, hS.F ht⟩) hS.2.2 dX12_asks_126
                · replace hf := wb_f hc hf
                  refine lv_aload_n hx hb dX12_asks_102 rfl (lv_at hl 0 rfl) ?_
                  refine lv_iload_n hx hb dX12_asks_103 rfl (lv_at hl 1 rfl) ?_
                  obtain ⟨r3, hr3, hf⟩ := wb_b hf
                  refine vp_callSi (W.runV (As := [.int x3]) (rest := []) ⟨hx, hb, hml, hown, hts⟩ (cn_X12_hitsBy l D cB cI cZ N a0 I0_l97 L0_l97 M0_l97 x3 r3 hr3) (cwV 1 hts gX12_asks_X12_hitsBy rfl rfl rfl cdX12_hitsBy ⟨Nat.le_of_ble_eq_true rfl, Nat.le_of_ble_eq_true rfl⟩) (wb_preV hP hK (wr_12 hK hP (q0 := 0) rfl)) rfl rfl hl.1 rfl (lv_room (Nat.le_of_ble_eq_true rfl)) dX12_asks_104 ⟨Nat.le_of_ble_eq_true rfl, Nat.le_of_ble_eq_true rfl⟩) (fun r9 e9 => ?_)
                  rw [e9]
                  refine lv_iload hx hb dX12_asks_107 (lv_at hl 2 rfl) ?_
                  refine lv_icmp_lt (tgt := 115) hx hb dX12_asks_109 (by decide) (fun hc => ?_) (fun hc => ?_)
                  · replace hf := wb_t hc hf
                    refine lv_aload_n hx hb dX12_asks_115 rfl (lv_at hl 0 rfl) ?_
                    obtain ⟨r4, hr4, hf⟩ := wb_b hf
                    have hPc := hP
                    have hDc := hD
                    have hFc := wj_F hDc hS hA
                    refine va_calli (va_runV (As := []) (rest := []) ⟨hx, hb, hml, hown, hts⟩ (cn_X12_turns l D cB cI cZ N a0 I0_l97 L0_l97 M0_l97 H.size r4 hr4) (cwV 0 hts gX12_asks_X12_turns rfl rfl rfl cdX12_turns ⟨Nat.le_of_ble_eq_true rfl, Nat.le_of_ble_eq_true rfl⟩) (wb_preDV hPc hK hDc (wr_12 hK hP (q0 := 0) rfl)) rfl rfl hl.1 rfl (lv_room (Nat.le_of_ble_eq_true rfl)) dX12_asks_116 ⟨Nat.le_of_ble_eq_true rfl, Nat.le_of_ble_eq_true rfl⟩) hS (fun q _ h => hFc q h) hFc (fun r9 u t H locs ht hvm hw hB hz1 hk1 hS => ?_)
                    obtain ⟨hP, hD⟩ := wj_0 hFc ht hB
                    rw [hw]
                    obtain ⟨v5, ev5, hf⟩ := wb_v hf
                    refine wb_topi ev5 ?_
                    refine lv_istore (lv' := [(6, .int v5), (0, .ref (a0 0)), (3, .int x3), (4, .int r2), (5, .int y97_5)]) hx hb dX12_asks_119 hl (by decide) rfl (fun ls hl => ?_)
                    refine lv_goto (tgt := 97) hx hb dX12_asks_121 (by decide) ?_
                    exact ih97 r4.2.1 r4.2.2.1 r4.2.2.2 y97_5 v5 H locs hP hD hS ls (lv_sub hl [1, 2, 3, 4, 0] rfl) hf
                  · replace hf := wb_f hc hf
                    obtain ⟨v6, ev6, hf⟩ := wb_v hf
                    refine lv_iinc (v := v6) (lv' := [(5, .int v6), (0, .ref (a0 0)), (3, .int x3), (4, .int r2), (6, .int y97_6)]) hx hb dX12_asks_112 hl (k := 3) rfl (by rw [ev6]; rfl) (by decide) rfl (fun ls hl => ?_)
                    refine lv_aload_n hx hb dX12_asks_115 rfl (lv_at hl 1 rfl) ?_
                    obtain ⟨r7, hr7, hf⟩ := wb_b hf
                    have hPc := hP
                    have hDc := hD
                    have hFc := wj_F hDc hS hA
                    refine va_calli (va_runV (As := []) (rest := []) ⟨hx, hb, hml, hown, hts⟩ (cn_X12_turns l D cB cI cZ N a0 I0_l97 L0_l97 M0_l97 H.size r7 hr7) (cwV 0 hts gX12_asks_X12_turns rfl rfl rfl cdX12_turns ⟨Nat.le_of_ble_eq_true rfl, Nat.le_of_ble_eq_true rfl⟩) (wb_preDV hPc hK hDc (wr_12 hK hP (q0 := 0) rfl)) rfl rfl hl.1 rfl (lv_room (Nat.le_of_ble_eq_true rfl)) dX12_asks_116 ⟨Nat.le_of_ble_eq_true rfl, Nat.le_of_ble_eq_true rfl⟩) hS (fun q _ h => hFc q h) hFc (fun r9 u t H locs ht hvm hw hB hz1 hk1 hS => ?_)
                    obtain ⟨hP, hD⟩ := wj_0 hFc ht hB
                    rw [hw]
                    obtain ⟨v8, ev8, hf⟩ := wb_v hf
                    refine wb_topi ev8 ?_
                    refine lv_istore (lv' := [(6, .int v8), (5, .int v6), (0, .ref (a0 0)), (3, .int x3), (4, .int r2)]) hx hb dX12_asks_119 hl (by decide) rfl (fun ls hl => ?_)
                    refine lv_goto (tgt := 97) hx hb dX12_asks_121 (by decide) ?_
                    exact ih97 r7.2.1 r7.2.2.1 r7.2.2.2 v6 v8 H locs hP hD hS ls (lv_sub hl [2, 3, 4, 1, 0] rfl) hf
            exact Lh97 N I0_l8 L0_l8 M0_l8 (0 : Int32) (1 : Int32) H locs hP hD hS ls (lv_sub hl [3, 6, 2, 1, 0] rfl) hf
          · replace hf := wb_f hc hf
            refine lv_iconst (v := (-1 : Int32)) hx hb dX12_asks_89 (by decide) ?_
            exact W.iret (v := (-1 : Int32)) hx hb hr (fun t ht hW => by rw [← Option.some.inj hf]; exact ⟨⟨(-1 : Int32), (), rfl, rfl, by rw [ht]; exact hP, va_K.moved hW.alike hK, hD⟩, hS.F ht⟩) hS.2.2 dX12_asks_90
        · replace hf := wb_t hc hf
          refine lv_iload hx hb dX12_asks_77 (lv_at hl 0 rfl) ?_
          exact W.iret (v := r2) hx hb hr (fun t ht hW => by rw [← Option.some.inj hf]; exact ⟨⟨r2, (), rfl, rfl, by rw [ht]; exact hP, va_K.moved hW.alike hK, hD⟩, hS.F ht⟩) hS.2.2 dX12_asks_79
      · replace hf := wb_f hc hf
        refine lv_aload_n hx hb dX12_asks_15 rfl (lv_at hl 1 rfl) ?_
        refine lv_iload hx hb dX12_asks_16 (lv_at hl 4 rfl) ?_
        obtain ⟨hin, hf⟩ := wb_n hf
        refine va_iald hx hb hK hP 35 1 rfl rfl hin dX12_asks_18 ?_
        refine lv_iconst (v := (-1 : Int32)) hx hb dX12_asks_19 (by decide) ?_
        refine lv_icmp_ne (tgt := 26) hx hb dX12_asks_20 (by decide) (fun hc => ?_) (fun hc => ?_)
        · replace hf := wb_f hc hf
          refine lv_aload_n hx hb dX12_asks_26 rfl (lv_at hl 0 rfl) ?_
          refine va_get (D := D) (ci := 12) (v := .ref (a0 36)) (C := RX12) (T := TX12) (N := 58) hx hb hts hinX12 hown hK hP 0 rfl rfl 56 (by decide) (hts (.fieldLink RX12 123 "WheelBookModel" "who" "[I") (List.mem_of_getElem? (i := 2) rfl)) (fun _ h9 => h9) rfl dX12_asks_27 ?_
          refine lv_aload_n hx hb dX12_asks_30 rfl (lv_at hl 0 rfl) ?_
          refine va_get (D := D) (ci := 12) (v := .int (I0_l8 19)) (C := RX12) (T := TX12) (N := 58) hx hb hts hinX12 hown hK hP 0 rfl rfl 55 (by decide) (hts (.fieldLink RX12 362 "WheelBookModel" "asked" "I") (List.mem_of_getElem? (i := 1) rfl)) (fun _ h9 => h9) rfl dX12_asks_31 ?_
          refine lv_iload hx hb dX12_asks_34 (lv_at hl 4 rfl) ?_
          obtain ⟨hin, hf⟩ := wb_n hf
          refine va_iast hx hb hK hP hD hS 36 1 rfl rfl hin dX12_asks_36 (fun H locs hP hD hS => ?_)
          have hP : va_P D vwCl (wWX12 cB cI cZ a0 I0_l8 L0_l8 (wb_um M0_l8 35 ((I0_l8 19)).toNatClampNeg y8_4)) H := hP
          have hD : va_D A (wWX12 cB cI cZ a0 I0_l8 L0_l8 (wb_um M0_l8 35 ((I0_l8 19)).toNatClampNeg y8_4)) := hD
          obtain ⟨M0_9, eM0_9, hf⟩ := wb_v hf
          rw [← eM0_9] at hP hD
          refine lv_aload_n hx hb dX12_asks_37 rfl (lv_at hl 0 rfl) ?_
          refine va_get (D := D) (ci := 12) (v := .ref (a0 37)) (C := RX12) (T := TX12) (N := 58) hx hb hts hinX12 hown hK hP 0 rfl rfl 57 (by decide) (hts (.fieldLink RX12 126 "WheelBookModel" "turn" "[I") (List.mem_of_getElem? (i := 3) rfl)) (fun _ h9 => h9) rfl dX12_asks_38 ?_
          refine lv_aload_n hx hb dX12_asks_41 rfl (lv_at hl 0 rfl) ?_
          refine va_get (D := D) (ci := 12) (v := .int (I0_l8 19)) (C := RX12) (T := TX12) (N := 58) hx hb hts hinX12 hown hK hP 0 rfl rfl 55 (by decide) (hts (.fieldLink RX12 362 "WheelBookModel" "asked" "I") (List.mem_of_getElem? (i := 1) rfl)) (fun _ h9 => h9) rfl dX12_asks_42 ?_
          refine lv_aload_n hx hb dX12_asks_45 rfl (lv_at hl 0 rfl) ?_
          refine va_get (D := D) (ci := 12) (v := .int (I0_l8 19)) (C := RX12) (T := TX12) (N := 58) hx hb hts hinX12 hown hK hP 0 rfl rfl 55 (by decide) (hts (.fieldLink RX12 362 "WheelBookModel" "asked" "I") (List.mem_of_getElem? (i := 1) rfl)) (fun _ h9 => h9) rfl dX12_asks_46 ?_
          obtain ⟨hin, hf⟩ := wb_n hf
          refine va_iast hx hb hK hP hD hS 37 1 rfl rfl hin dX12_asks_49 (fun H locs hP hD hS => ?_)
          have hP : va_P D vwCl (wWX12 cB cI cZ a0 I0_l8 L0_l8 (wb_um M0_9 36 ((I0_l8 19)).toNatClampNeg (I0_l8 19))) H := hP
          have hD : va_D A (wWX12 cB cI cZ a0 I0_l8 L0_l8 (wb_um M0_9 36 ((I0_l8 19)).toNatClampNeg (I0_l8 19))) := hD
          obtain ⟨M0_10, eM0_10, hf⟩ := wb_v hf
          rw [← eM0_10] at hP hD
          refine lv_aload_n hx hb dX12_asks_50 rfl (lv_at hl 0 rfl) ?_
          refine lv_dup hx hb dX12_asks_51 rfl ?_
          refine va_get (D := D) (ci := 12) (v := .int (I0_l8 19)) (C := RX12) (T := TX12) (N := 58) hx hb hts hinX12 hown hK hP 0 rfl rfl 55 (by decide) (hts (.fieldLink RX12 362 "WheelBookModel" "asked" "I") (List.mem_of_getElem? (i := 1) rfl)) (fun _ h9 => h9) rfl dX12_asks_52 ?_
          refine lv_iconst (v := (1 : Int32)) hx hb dX12_asks_55 (by decide) ?_
          refine lv_iadd hx hb dX12_asks_56 ?_
          refine va_put (D := D) (ci := 12) (v := .int ((I0_l8 19) + (1 : Int32))) (ty := .int) (C := RX12) (T := TX12) (N := 58) hx hb hts hinX12 tyX12 tyX12_ok nmX12 hown hK hP hD hS 0 rfl rfl 55 (by decide) (hts (.fieldLink RX12 362 "WheelBookModel" "asked" "I") (List.mem_of_getElem? (i := 1) rfl)) (fun _ h9 => h9) rfl (by decide +kernel) rfl rfl (Nat.le_of_ble_eq_true rfl) dX12_asks_57 (fun H locs hP hD hS => ?_)
          have hP : va_P D vwCl (wWX12 cB cI cZ a0 (upd I0_l8 19 ((I0_l8 19) + (1 : Int32))) L0_l8 M0_10) H := hP
          have hD : va_D A (wWX12 cB cI cZ a0 (upd I0_l8 19 ((I0_l8 19) + (1 : Int32))) L0_l8 M0_10) := hD
          obtain ⟨I0_11, eI0_11, hf⟩ := wb_v hf
          rw [← eI0_11] at hP hD
          obtain ⟨v12, ev12, hf⟩ := wb_v hf
          refine lv_iinc (v := v12) (lv' := [(4, .int v12), (0, .ref (a0 0)), (1, .ref (a0 35)), (2, .int x2), (3, .int x3)]) hx hb dX12_asks_60 hl (k := 4) rfl (by rw [ev12]; rfl) (by decide) rfl (fun ls hl => ?_)
          refine lv_goto (tgt := 8) hx hb dX12_asks_63 (by decide) ?_
          exact ih8 I0_11 L0_l8 M0_10 v12 H locs hP hD hS ls (lv_sub hl [1, 2, 3, 4, 0] rfl) hf
        · replace hf := wb_t hc hf
          refine lv_goto (tgt := 60) hx hb dX12_asks_23 (by decide) ?_
          obtain ⟨v13, ev13, hf⟩ := wb_v hf
          refine lv_iinc (v := v13) (lv' := [(4, .int v13), (0, .ref (a0 0)), (1, .ref (a0 35)), (2, .int x2), (3, .int x3)]) hx hb dX12_asks_60 hl (k := 4) rfl (by rw [ev13]; rfl) (by decide) rfl (fun ls hl => ?_)
          refine lv_goto (tgt := 8) hx hb dX12_asks_63 (by decide) ?_
          exact ih8 I0_l8 L0_l8 M0_l8 v13 H locs hP hD hS ls (lv_sub hl [1, 2, 3, 4, 0] rfl) hf
  exact Lh8 N I0_1 L0 M0 (0 : Int32) H locs hP hD hS ls (lv_sub hl [1, 2, 3, 4, 0] rfl) hf

set_option maxHeartbeats 4000000 in
set_option maxRecDepth 100000 in
theorem cn_X12_fates (l : Launch) (D : va_G) (cB cI cZ : ClassId) (N : Nat) (a0 : Nat → Nat) (I0 : Nat → Int32) (L0 : Int64) (M0 : Nat → Nat → Int32) (x1 : Int32) (sz : Nat) (R : Int32 × (Nat → Int32) × Int64 × (Nat → Nat → Int32)) (hf : fX12_fates N I0 L0 M0 x1 = some R) : Met l yX12_fates wsX12_fates ({ frames := 4, cells := 0, slots := 0, locals := 95 }) (va_Pc [.ref (a0 0), .int x1] (wb_preD D [(cB, .byte), (cI, .int), (cZ, .boolean)] (wWX12 cB cI cZ a0 I0 L0 M0) sz)) (va_Qi (fun r (_ : Unit) => r = R.1) (fun _ t => wb_post D [(cB, .byte), (cI, .int), (cZ, .boolean)] (va_A (wWX12 cB cI cZ a0 I0 L0 M0) sz) (wWX12 cB cI cZ a0 R.2.1 R.2.2.1 R.2.2.2) t) (va_A (wWX12 cB cI cZ a0 I0 L0 M0) sz)) 0 0 (va_A (wWX12 cB cI cZ a0 I0 L0 M0) sz) := by
  refine Met.ofW (cc := cX12_fates) (maxL := 2) (ret := (some .int)) (by decide) rfl ?_
  intro p e s m args below meth c s₁ B hml hv
  obtain ⟨rfl, hsz, hP, hK, hD0⟩ := hv
  have hx := B.exec
  have hb := B.bytes
  have hr := B.returns
  have hts := atoms_spec (ws := wsX12_fates) B.pre
  have hown : s.vm.findClass RX12 = some m.cls := (findClass_of_methodNamed B.named :)
  have hlocks := B.notSynchronized
  have hinX12 : ∀ w ∈ u_ws RX12 TX12 58, w ∈ wsX12_fates := fun w h => List.mem_cons_of_mem _ (List.mem_append_right _ h)
  subst hsz
  have hD := hD0.self (sz := s.heap.size)
  generalize hAe : va_A (wWX12 cB cI cZ a0 I0 L0 M0) s.heap.size = A at hD ⊢
  have hA : ∀ q : Nat, s.heap.size ≤ q → A q := fun q h => by rw [← hAe]; exact Or.inr h
  have hS : va_S A s.heap s.heap [] := va_S.rf
  have hl := lv_entry ([.ref (a0 0), .int x1]) (n := 2) (Nat.le_of_ble_eq_true rfl)
  rw [lg_entry_eq]
  generalize (lg_sl ([.ref (a0 0), .int x1]) ++ List.replicate (2 - (lg_sl ([.ref (a0 0), .int x1])).length) Slot.unset).toArray = ls at hl ⊢
  have hl : lv_has ls 2 [(0, .ref (a0 0)), (1, .int x1)] := hl
  unfold fX12_fates at hf
  obtain ⟨H, hHe⟩ : ∃ H : Heap, H = s.heap := ⟨_, rfl⟩
  obtain ⟨locs, hle⟩ : ∃ locs : List Loc, locs = [] := ⟨_, rfl⟩
  refine wb_start (H := H) (locs := locs) hHe hle ?_
  rw [← hHe] at hP
  have hS : va_S A s.heap H locs := by rw [hHe, hle]; exact va_S.rf
  have J20 : ∀ (I0_j20 : Nat → Int32) (L0_j20 : Int64) (M0_j20 : Nat → Nat → Int32) (z20_0 : Int32) (H : Heap) (locs : List Loc), va_P D vwCl (wWX12 cB cI cZ a0 I0_j20 L0_j20 M0_j20) H → va_D A (wWX12 cB cI cZ a0 I0_j20 L0_j20 M0_j20) → va_S A s.heap H locs → ∀ (ls : Array Slot), lv_has ls 2 [(0, .ref (a0 0)), (1, .int x1)] → fX12_fates_J20 N x1 I0_j20 L0_j20 M0_j20 z20_0 = some R → W p l e (headSpec wsX12_fates { frames := 4, cells := 0, slots := 0, locals := 95 }).room s m [.ref (a0 0), .int x1].toArray below meth c H locs 0 0 (MQ below (va_Qi (fun r (_ : Unit) => r = R.1) (fun _ t => wb_post D [(cB, .byte), (cI, .int), (cZ, .boolean)] A (wWX12 cB cI cZ a0 R.2.1 R.2.2.1 R.2.2.2) t) A) [.ref (a0 0), .int x1].toArray s 0 0 A) (F0 m 20 ls [.int z20_0, .ref (a0 0)]) := by
    intro I0_j20 L0_j20 M0_j20 z20_0 H locs hP hD hS ls hl hf
    unfold fX12_fates_J20 at hf
    refine lv_iconst (v := (1 : Int32)) hx hb dX12_fates_20 (by decide) ?_
    obtain ⟨r1, hr1, hf⟩ := wb_b hf
    have hPc := hP
    have hDc := hD
    have hFc := wj_F hDc hS hA
    refine va_calli (va_runV (As := [.int z20_0, .int (1 : Int32)]) (rest := []) ⟨hx, hb, hml, hown, hts⟩ (cn_X12_right l D cB cI cZ N a0 I0_j20 L0_j20 M0_j20 z20_0 (1 : Int32) H.size r1 hr1) (cwV 2 hts gX12_fates_X12_right rfl rfl rfl cdX12_right ⟨Nat.le_of_ble_eq_true rfl, Nat.le_of_ble_eq_true rfl⟩) (wb_preDV hPc hK hDc (wr_12 hK hP (q0 := 0) rfl)) rfl rfl hl.1 rfl (lv_room (Nat.le_of_ble_eq_true rfl)) dX12_fates_21 ⟨Nat.le_of_ble_eq_true rfl, Nat.le_of_ble_eq_true rfl⟩) hS (fun q _ h => hFc q h) hFc (fun r9 u t H locs ht hvm hw hB hz1 hk1 hS => ?_)
    obtain ⟨hP, hD⟩ := wj_0 hFc ht hB
    rw [hw]
    refine lv_if_ne (tgt := 29) hx hb dX12_fates_24 (by decide) (fun hc => ?_) (fun hc => ?_)
    · replace hf := wb_f hc hf
      refine lv_aload_n hx hb dX12_fates_29 rfl (lv_at hl 0 rfl) ?_
      refine lv_aload_n hx hb dX12_fates_30 rfl (lv_at hl 0 rfl) ?_
      refine va_get (D := D) (ci := 12) (v := .ref (a0 35)) (C := RX12) (T := TX12) (N := 58) hx hb hts hinX12 hown hK hP 0 rfl rfl 54 (by decide) (hts (.fieldLink RX12 120 "WheelBookModel" "fate" "[I") (List.mem_of_getElem? (i := 2) rfl)) (fun _ h9 => h9) rfl dX12_fates_31 ?_
      refine lv_iload_n hx hb dX12_fates_34 rfl (lv_at hl 1 rfl) ?_
      refine lv_iconst (v := (-1 : Int32)) hx hb dX12_fates_35 (by decide) ?_
      obtain ⟨r2, hr2, hf⟩ := wb_b hf
      have hPc := hP
      have hDc := hD
      have hFc := wj_F hDc hS hA
      refine va_calli (va_runV (As := [.ref (a0 35), .int x1, .int (-1 : Int32)]) (rest := []) ⟨hx, hb, hml, hown, hts⟩ (cn_X12_asks_135 l D cB cI cZ N a0 r1.2.1 r1.2.2.1 r1.2.2.2 x1 (-1 : Int32) H.size r2 hr2) (cwV 3 hts gX12_fates_X12_asks rfl rfl rfl cdX12_asks ⟨Nat.le_of_ble_eq_true rfl, Nat.le_of_ble_eq_true rfl⟩) (wb_preDV hPc hK hDc (wr_12 hK hP (q0 := 0) rfl)) rfl rfl hl.1 rfl (lv_room (Nat.le_of_ble_eq_true rfl)) dX12_fates_36 ⟨Nat.le_of_ble_eq_true rfl, Nat.le_of_ble_eq_true rfl⟩) hS (fun q _ h => hFc q h) hFc (fun r9 u t H locs ht hvm hw hB hz1 hk1 hS => ?_)
      obtain ⟨hP, hD⟩ := wj_0 hFc ht hB
      rw [hw]
      exact W.iret (v := r2.1) hx hb hr (fun t ht hW => by rw [← Option.some.inj hf]; exact ⟨⟨r2.1, (), rfl, rfl, by rw [ht]; exact hP, va_K.moved hW.alike hK, hD⟩, hS.F ht⟩) hS.2.2 dX12_fates_39
    · replace hf := wb_t hc hf
      refine lv_iconst (v := (0 : Int32)) hx hb dX12_fates_27 (by decide) ?_
      exact W.iret (v := (0 : Int32)) hx hb hr (fun t ht hW => by rw [← Option.some.inj hf]; exact ⟨⟨(0 : Int32), (), rfl, rfl, by rw [ht]; exact hP, va_K.moved hW.alike hK, hD⟩, hS.F ht⟩) hS.2.2 dX12_fates_28
  have J15 : ∀ (I0_j15 : Nat → Int32) (L0_j15 : Int64) (M0_j15 : Nat → Nat → Int32) (H : Heap) (locs : List Loc), va_P D vwCl (wWX12 cB cI cZ a0 I0_j15 L0_j15 M0_j15) H → va_D A (wWX12 cB cI cZ a0 I0_j15 L0_j15 M0_j15) → va_S A s.heap H locs → ∀ (ls : Array Slot), lv_has ls 2 [(0, .ref (a0 0)), (1, .int x1)] → fX12_fates_J15 N x1 I0_j15 L0_j15 M0_j15 = some R → W p l e (headSpec wsX12_fates { frames := 4, cells := 0, slots := 0, locals := 95 }).room s m [.ref (a0 0), .int x1].toArray below meth c H locs 0 0 (MQ below (va_Qi (fun r (_ : Unit) => r = R.1) (fun _ t => wb_post D [(cB, .byte), (cI, .int), (cZ, .boolean)] A (wWX12 cB cI cZ a0 R.2.1 R.2.2.1 R.2.2.2) t) A) [.ref (a0 0), .int x1].toArray s 0 0 A) (F0 m 15 ls [.ref (a0 0)]) := by
    intro I0_j15 L0_j15 M0_j15 H locs hP hD hS ls hl hf
    unfold fX12_fates_J15 at hf
    refine lv_iconst (v := (1 : Int32)) hx hb dX12_fates_15 (by decide) ?_
    refine lv_goto (tgt := 20) hx hb dX12_fates_16 (by decide) ?_
    exact J20 I0_j15 L0_j15 M0_j15 (1 : Int32) H locs hP hD hS ls (lv_sub hl [0, 1] rfl) hf
  refine lv_aload_n hx hb dX12_fates_0 rfl (lv_at hl 0 rfl) ?_
  refine lv_iconst (v := (0 : Int32)) hx hb dX12_fates_1 (by decide) ?_
  refine va_put (D := D) (ci := 12) (v := .int (0 : Int32)) (ty := .int) (C := RX12) (T := TX12) (N := 58) hx hb hts hinX12 tyX12 tyX12_ok nmX12 hown hK hP hD hS 0 rfl rfl 0 (by decide) (hts (.fieldLink RX12 129 "WheelBookModel" "thrown" "I") (List.mem_of_getElem? (i := 1) rfl)) (fun _ h9 => h9) rfl (by decide +kernel) rfl rfl (Nat.le_of_ble_eq_true rfl) dX12_fates_2 (fun H locs hP hD hS => ?_)
  have hP : va_P D vwCl (wWX12 cB cI cZ a0 (upd I0 0 (0 : Int32)) L0 M0) H := hP
  have hD : va_D A (wWX12 cB cI cZ a0 (upd I0 0 (0 : Int32)) L0 M0) := hD
  obtain ⟨I0_3, eI0_3, hf⟩ := wb_v hf
  rw [← eI0_3] at hP hD
  refine lv_aload_n hx hb dX12_fates_5 rfl (lv_at hl 0 rfl) ?_
  refine lv_iload_n hx hb dX12_fates_6 rfl (lv_at hl 1 rfl) ?_
  refine lv_if_eq (tgt := 15) hx hb dX12_fates_7 (by decide) (fun hc => ?_) (fun hc => ?_)
  · replace hf := wb_t hc hf
    exact J15 I0_3 L0 M0 H locs hP hD hS ls (lv_sub hl [0, 1] rfl) hf
  · replace hf := wb_f hc hf
    refine lv_iload_n hx hb dX12_fates_10 rfl (lv_at hl 1 rfl) ?_
    refine lv_iconst (v := (1 : Int32)) hx hb dX12_fates_11 (by decide) ?_
    refine lv_icmp_ne (tgt := 19) hx hb dX12_fates_12 (by decide) (fun hc => ?_) (fun hc => ?_)
    · replace hf := wb_f hc hf
      refine lv_iconst (v := (0 : Int32)) hx hb dX12_fates_19 (by decide) ?_
      exact J20 I0_3 L0 M0 (0 : Int32) H locs hP hD hS ls (lv_sub hl [0, 1] rfl) hf
    · replace hf := wb_t hc hf
      exact J15 I0_3 L0 M0 H locs hP hD hS ls (lv_sub hl [0, 1] rfl) hf

set_option maxHeartbeats 4000000 in
set_option maxRecDepth 100000 in
theorem cn_X12_init (l : Launch) (D : va_G) (cB cI cZ : ClassId) (N : Nat) (h0 sz : Nat) (R : (Nat → Int32) × Int64 × (Nat → Nat → Int32)) (hf : fX12_init N = some R) : Met l yX12_init wsX12_init ({ frames := 1, cells := 37, slots := 4260, locals := 12 }) (va_Pc [.ref h0] (wb_preN D [(cB, .byte), (cI, .int), (cZ, .boolean)] ([(h0, .inr (12, [.int 0, .null, .null, .null, .null, .int 0, .int 0, .null, .null, .null, .null, .null, .int 0, .int 0, .int 0, .int 0, .int 0, .int 0, .int 0, .int 0, .int 0, .long 0, .int 0, .int 0, .int 0, .null, .null, .null, .null, .null, .null, .null, .null, .int 0, .null, .int 0, .int 0, .null, .null, .null, .null, .null, .int 0, .null, .null, .null, .null, .null, .null, .null, .null, .null, .null, .null, .null, .int 0, .null, .null]))] : va_W) sz [])) (va_Qv (fun _ : Unit => True) (fun _ t => wb_postN D [(cB, .byte), (cI, .int), (cZ, .boolean)] (va_A ([(h0, .inr (12, [.int 0, .null, .null, .null, .null, .int 0, .int 0, .null, .null, .null, .null, .null, .int 0, .int 0, .int 0, .int 0, .int 0, .int 0, .int 0, .int 0, .int 0, .long 0, .int 0, .int 0, .int 0, .null, .null, .null, .null, .null, .null, .null, .null, .int 0, .null, .int 0, .int 0, .null, .null, .null, .null, .null, .int 0, .null, .null, .null, .null, .null, .null, .null, .null, .null, .null, .null, .null, .int 0, .null, .null]))] : va_W) sz) h0 (fun a => wWX12 cB cI cZ a R.1 R.2.1 R.2.2) t) (va_A ([(h0, .inr (12, [.int 0, .null, .null, .null, .null, .int 0, .int 0, .null, .null, .null, .null, .null, .int 0, .int 0, .int 0, .int 0, .int 0, .int 0, .int 0, .int 0, .int 0, .long 0, .int 0, .int 0, .int 0, .null, .null, .null, .null, .null, .null, .null, .null, .int 0, .null, .int 0, .int 0, .null, .null, .null, .null, .null, .int 0, .null, .null, .null, .null, .null, .null, .null, .null, .null, .null, .null, .null, .int 0, .null, .null]))] : va_W) sz)) 37 4260 (va_A ([(h0, .inr (12, [.int 0, .null, .null, .null, .null, .int 0, .int 0, .null, .null, .null, .null, .null, .int 0, .int 0, .int 0, .int 0, .int 0, .int 0, .int 0, .int 0, .int 0, .long 0, .int 0, .int 0, .int 0, .null, .null, .null, .null, .null, .null, .null, .null, .int 0, .null, .int 0, .int 0, .null, .null, .null, .null, .null, .int 0, .null, .null, .null, .null, .null, .null, .null, .null, .null, .null, .null, .null, .int 0, .null, .null]))] : va_W) sz) := by
  refine Met.ofW (cc := cX12_init) (maxL := 2) (ret := none) (by decide) rfl ?_
  intro p e s m args below meth c s₁ B hml hv
  obtain ⟨rfl, ⟨hsz, hP, hK, hD0⟩, hN⟩ := hv
  have hx := B.exec
  have hb := B.bytes
  have hr := B.returns
  have hts := atoms_spec (ws := wsX12_init) B.pre
  have hown : s.vm.findClass RX12 = some m.cls := (findClass_of_methodNamed B.named :)
  have hlocks := B.notSynchronized
  have hin0 : meth.name = "<init>" := (name_of_methodNamed B.named B.method).1
  have hinX12 : ∀ w ∈ u_ws RX12 TX12 58, w ∈ wsX12_init := fun w h => List.mem_cons_of_mem _ (List.mem_append_right _ h)
  subst hsz
  have hD := hD0.self (sz := s.heap.size)
  generalize hAe : va_A ([(h0, .inr (12, [.int 0, .null, .null, .null, .null, .int 0, .int 0, .null, .null, .null, .null, .null, .int 0, .int 0, .int 0, .int 0, .int 0, .int 0, .int 0, .int 0, .int 0, .long 0, .int 0, .int 0, .int 0, .null, .null, .null, .null, .null, .null, .null, .null, .int 0, .null, .int 0, .int 0, .null, .null, .null, .null, .null, .int 0, .null, .null, .null, .null, .null, .null, .null, .null, .null, .null, .null, .null, .int 0, .null, .null]))] : va_W) s.heap.size = A at hD ⊢
  have hA : ∀ q : Nat, s.heap.size ≤ q → A q := fun q h => by rw [← hAe]; exact Or.inr h
  have hl := lv_entry ([.ref h0]) (n := 2) (Nat.le_of_ble_eq_true rfl)
  rw [lg_entry_eq]
  generalize (lg_sl ([.ref h0]) ++ List.replicate (2 - (lg_sl ([.ref h0])).length) Slot.unset).toArray = ls at hl ⊢
  have hl : lv_has ls 2 [(0, .ref h0)] := hl
  unfold fX12_init at hf
  obtain ⟨H, hHe⟩ : ∃ H : Heap, H = s.heap := ⟨_, rfl⟩
  obtain ⟨locs, hle⟩ : ∃ locs : List Loc, locs = [] := ⟨_, rfl⟩
  refine wb_start (H := H) (locs := locs) hHe hle ?_
  rw [← hHe] at hP
  have hS : va_S A s.heap H locs := by rw [hHe, hle]; exact va_S.rf
  refine lv_aload_n hx hb dX12_init_0 rfl (lv_at hl 0 rfl) ?_
  refine W.objInit hx hb hown (hts (.methodLink RX12 1 objectInit) (List.mem_of_getElem? (i := 1) rfl)) (hts (.instanceMethod objectInit) (List.mem_of_getElem? (i := 2) rfl)) (hts (.code objectInit ⟨#[0xb1]⟩ 1 none) (List.mem_of_getElem? (i := 3) rfl)) rfl (by rw [hml]; exact hl.1) rfl dX12_init_1 (Nat.le_of_ble_eq_true rfl) (Nat.le_of_ble_eq_true rfl) ?_
  refine W.eq (g2 := F0 m 4 ls []) rfl ?_
  refine lv_aload_n hx hb dX12_init_4 rfl (lv_at hl 0 rfl) ?_
  refine lv_bipush (v := (28 : Int32)) hx hb dX12_init_5 (by decide) ?_
  refine wb_newa (atype := .int) (ty := .int) (cT := cI) (N' := 28) hx hb (hts (.arrayClass .int) (List.mem_of_getElem? (i := 4) rfl)) rfl hK hP hD hS hA 1 rfl wb_raI (fun _ => rfl) (by decide +kernel) (by decide +kernel) (by decide +kernel) (Nat.le_of_ble_eq_true rfl) (Nat.le_of_ble_eq_true rfl) dX12_init_7 (fun q7 H hP hD hS => ?_)
  refine va_putF (D := D) (ci := 12) (v := .ref q7) (ty := (.array .int)) (C := RX12) (T := TX12) (N := 58) hx hb hts hinX12 tyX12 tyX12_ok nmX12 hown hK hP hD hS 0 rfl rfl 1 (by decide) (hts (.fieldLink RX12 7 "WheelBookModel" "starts" "[I") (List.mem_of_getElem? (i := 5) rfl)) (fun _ h9 => h9) rfl hin0 rfl (by decide +kernel) rfl rfl (Nat.le_of_ble_eq_true rfl) dX12_init_9 (fun H locs hP hD hS => ?_)
  have hP : va_P D vwCl ([(h0, .inr (12, [.int 0, .ref q7, .null, .null, .null, .int 0, .int 0, .null, .null, .null, .null, .null, .int 0, .int 0, .int 0, .int 0, .int 0, .int 0, .int 0, .int 0, .int 0, .long 0, .int 0, .int 0, .int 0, .null, .null, .null, .null, .null, .null, .null, .null, .int 0, .null, .int 0, .int 0, .null, .null, .null, .null, .null, .int 0, .null, .null, .null, .null, .null, .null, .null, .null, .null, .null, .null, .null, .int 0, .null, .null])), (q7, .inl (cI, 28, .inl (fun _ => (0 : Int32))))] : va_W) H := hP
  refine lv_aload_n hx hb dX12_init_12 rfl (lv_at hl 0 rfl) ?_
  refine lv_bipush (v := (28 : Int32)) hx hb dX12_init_13 (by decide) ?_
  refine wb_newa (atype := .int) (ty := .int) (cT := cI) (N' := 28) hx hb (hts (.arrayClass .int) (List.mem_of_getElem? (i := 4) rfl)) rfl hK hP hD hS hA 1 rfl wb_raI (fun _ => rfl) (by decide +kernel) (by decide +kernel) (by decide +kernel) (Nat.le_of_ble_eq_true rfl) (Nat.le_of_ble_eq_true rfl) dX12_init_15 (fun q15 H hP hD hS => ?_)
  refine va_putF (D := D) (ci := 12) (v := .ref q15) (ty := (.array .int)) (C := RX12) (T := TX12) (N := 58) hx hb hts hinX12 tyX12 tyX12_ok nmX12 hown hK hP hD hS 0 rfl rfl 2 (by decide) (hts (.fieldLink RX12 13 "WheelBookModel" "goes" "[I") (List.mem_of_getElem? (i := 6) rfl)) (fun _ h9 => h9) rfl hin0 rfl (by decide +kernel) rfl rfl (Nat.le_of_ble_eq_true rfl) dX12_init_17 (fun H locs hP hD hS => ?_)
  have hP : va_P D vwCl ([(h0, .inr (12, [.int 0, .ref q7, .ref q15, .null, .null, .int 0, .int 0, .null, .null, .null, .null, .null, .int 0, .int 0, .int 0, .int 0, .int 0, .int 0, .int 0, .int 0, .int 0, .long 0, .int 0, .int 0, .int 0, .null, .null, .null, .null, .null, .null, .null, .null, .int 0, .null, .int 0, .int 0, .null, .null, .null, .null, .null, .int 0, .null, .null, .null, .null, .null, .null, .null, .null, .null, .null, .null, .null, .int 0, .null, .null])), (q7, .inl (cI, 28, .inl (fun _ => (0 : Int32)))), (q15, .inl (cI, 28, .inl (fun _ => (0 : Int32))))] : va_W) H := hP
  refine lv_aload_n hx hb dX12_init_20 rfl (lv_at hl 0 rfl) ?_
  refine lv_bipush (v := (28 : Int32)) hx hb dX12_init_21 (by decide) ?_
  refine wb_newa (atype := .int) (ty := .int) (cT := cI) (N' := 28) hx hb (hts (.arrayClass .int) (List.mem_of_getElem? (i := 4) rfl)) rfl hK hP hD hS hA 1 rfl wb_raI (fun _ => rfl) (by decide +kernel) (by decide +kernel) (by decide +kernel) (Nat.le_of_ble_eq_true rfl) (Nat.le_of_ble_eq_true rfl) dX12_init_23 (fun q23 H hP hD hS => ?_)
  refine va_putF (D := D) (ci := 12) (v := .ref q23) (ty := (.array .int)) (C := RX12) (T := TX12) (N := 58) hx hb hts hinX12 tyX12 tyX12_ok nmX12 hown hK hP hD hS 0 rfl rfl 3 (by decide) (hts (.fieldLink RX12 16 "WheelBookModel" "swing" "[I") (List.mem_of_getElem? (i := 7) rfl)) (fun _ h9 => h9) rfl hin0 rfl (by decide +kernel) rfl rfl (Nat.le_of_ble_eq_true rfl) dX12_init_25 (fun H locs hP hD hS => ?_)
  have hP : va_P D vwCl ([(h0, .inr (12, [.int 0, .ref q7, .ref q15, .ref q23, .null, .int 0, .int 0, .null, .null, .null, .null, .null, .int 0, .int 0, .int 0, .int 0, .int 0, .int 0, .int 0, .int 0, .int 0, .long 0, .int 0, .int 0, .int 0, .null, .null, .null, .null, .null, .null, .null, .null, .int 0, .null, .int 0, .int 0, .null, .null, .null, .null, .null, .int 0, .null, .null, .null, .null, .null, .null, .null, .null, .null, .null, .null, .null, .int 0, .null, .null])), (q7, .inl (cI, 28, .inl (fun _ => (0 : Int32)))), (q15, .inl (cI, 28, .inl (fun _ => (0 : Int32)))), (q23, .inl (cI, 28, .inl (fun _ => (0 : Int32))))] : va_W) H := hP
  refine lv_aload_n hx hb dX12_init_28 rfl (lv_at hl 0 rfl) ?_
  refine lv_bipush (v := (28 : Int32)) hx hb dX12_init_29 (by decide) ?_
  refine wb_newa (atype := .int) (ty := .int) (cT := cI) (N' := 28) hx hb (hts (.arrayClass .int) (List.mem_of_getElem? (i := 4) rfl)) rfl hK hP hD hS hA 1 rfl wb_raI (fun _ => rfl) (by decide +kernel) (by decide +kernel) (by decide +kernel) (Nat.le_of_ble_eq_true rfl) (Nat.le_of_ble_eq_true rfl) dX12_init_31 (fun q31 H hP hD hS => ?_)
  refine va_putF (D := D) (ci := 12) (v := .ref q31) (ty := (.array .int)) (C := RX12) (T := TX12) (N := 58) hx hb hts hinX12 tyX12 tyX12_ok nmX12 hown hK hP hD hS 0 rfl rfl 4 (by decide) (hts (.fieldLink RX12 19 "WheelBookModel" "period" "[I") (List.mem_of_getElem? (i := 8) rfl)) (fun _ h9 => h9) rfl hin0 rfl (by decide +kernel) rfl rfl (Nat.le_of_ble_eq_true rfl) dX12_init_33 (fun H locs hP hD hS => ?_)
  have hP : va_P D vwCl ([(h0, .inr (12, [.int 0, .ref q7, .ref q15, .ref q23, .ref q31, .int 0, .int 0, .null, .null, .null, .null, .null, .int 0, .int 0, .int 0, .int 0, .int 0, .int 0, .int 0, .int 0, .int 0, .long 0, .int 0, .int 0, .int 0, .null, .null, .null, .null, .null, .null, .null, .null, .int 0, .null, .int 0, .int 0, .null, .null, .null, .null, .null, .int 0, .null, .null, .null, .null, .null, .null, .null, .null, .null, .null, .null, .null, .int 0, .null, .null])), (q7, .inl (cI, 28, .inl (fun _ => (0 : Int32)))), (q15, .inl (cI, 28, .inl (fun _ => (0 : Int32)))), (q23, .inl (cI, 28, .inl (fun _ => (0 : Int32)))), (q31, .inl (cI, 28, .inl (fun _ => (0 : Int32))))] : va_W) H := hP
  refine lv_aload_n hx hb dX12_init_36 rfl (lv_at hl 0 rfl) ?_
  refine lv_bipush (v := (84 : Int32)) hx hb dX12_init_37 (by decide) ?_
  refine wb_newa (atype := .int) (ty := .int) (cT := cI) (N' := 84) hx hb (hts (.arrayClass .int) (List.mem_of_getElem? (i := 4) rfl)) rfl hK hP hD hS hA 1 rfl wb_raI (fun _ => rfl) (by decide +kernel) (by decide +kernel) (by decide +kernel) (Nat.le_of_ble_eq_true rfl) (Nat.le_of_ble_eq_true rfl) dX12_init_39 (fun q39 H hP hD hS => ?_)
  refine va_putF (D := D) (ci := 12) (v := .ref q39) (ty := (.array .int)) (C := RX12) (T := TX12) (N := 58) hx hb hts hinX12 tyX12 tyX12_ok nmX12 hown hK hP hD hS 0 rfl rfl 7 (by decide) (hts (.fieldLink RX12 22 "WheelBookModel" "rising" "[I") (List.mem_of_getElem? (i := 9) rfl)) (fun _ h9 => h9) rfl hin0 rfl (by decide +kernel) rfl rfl (Nat.le_of_ble_eq_true rfl) dX12_init_41 (fun H locs hP hD hS => ?_)
  have hP : va_P D vwCl ([(h0, .inr (12, [.int 0, .ref q7, .ref q15, .ref q23, .ref q31, .int 0, .int 0, .ref q39, .null, .null, .null, .null, .int 0, .int 0, .int 0, .int 0, .int 0, .int 0, .int 0, .int 0, .int 0, .long 0, .int 0, .int 0, .int 0, .null, .null, .null, .null, .null, .null, .null, .null, .int 0, .null, .int 0, .int 0, .null, .null, .null, .null, .null, .int 0, .null, .null, .null, .null, .null, .null, .null, .null, .null, .null, .null, .null, .int 0, .null, .null])), (q7, .inl (cI, 28, .inl (fun _ => (0 : Int32)))), (q15, .inl (cI, 28, .inl (fun _ => (0 : Int32)))), (q23, .inl (cI, 28, .inl (fun _ => (0 : Int32)))), (q31, .inl (cI, 28, .inl (fun _ => (0 : Int32)))), (q39, .inl (cI, 84, .inl (fun _ => (0 : Int32))))] : va_W) H := hP
  refine lv_aload_n hx hb dX12_init_44 rfl (lv_at hl 0 rfl) ?_
  refine lv_bipush (v := (30 : Int32)) hx hb dX12_init_45 (by decide) ?_
  refine wb_newa (atype := .int) (ty := .int) (cT := cI) (N' := 30) hx hb (hts (.arrayClass .int) (List.mem_of_getElem? (i := 4) rfl)) rfl hK hP hD hS hA 1 rfl wb_raI (fun _ => rfl) (by decide +kernel) (by decide +kernel) (by decide +kernel) (Nat.le_of_ble_eq_true rfl) (Nat.le_of_ble_eq_true rfl) dX12_init_47 (fun q47 H hP hD hS => ?_)
  refine va_putF (D := D) (ci := 12) (v := .ref q47) (ty := (.array .int)) (C := RX12) (T := TX12) (N := 58) hx hb hts hinX12 tyX12 tyX12_ok nmX12 hown hK hP hD hS 0 rfl rfl 8 (by decide) (hts (.fieldLink RX12 25 "WheelBookModel" "stood" "[I") (List.mem_of_getElem? (i := 10) rfl)) (fun _ h9 => h9) rfl hin0 rfl (by decide +kernel) rfl rfl (Nat.le_of_ble_eq_true rfl) dX12_init_49 (fun H locs hP hD hS => ?_)
  have hP : va_P D vwCl ([(h0, .inr (12, [.int 0, .ref q7, .ref q15, .ref q23, .ref q31, .int 0, .int 0, .ref q39, .ref q47, .null, .null, .null, .int 0, .int 0, .int 0, .int 0, .int 0, .int 0, .int 0, .int 0, .int 0, .long 0, .int 0, .int 0, .int 0, .null, .null, .null, .null, .null, .null, .null, .null, .int 0, .null, .int 0, .int 0, .null, .null, .null, .null, .null, .int 0, .null, .null, .null, .null, .null, .null, .null, .null, .null, .null, .null, .null, .int 0, .null, .null])), (q7, .inl (cI, 28, .inl (fun _ => (0 : Int32)))), (q15, .inl (cI, 28, .inl (fun _ => (0 : Int32)))), (q23, .inl (cI, 28, .inl (fun _ => (0 : Int32)))), (q31, .inl (cI, 28, .inl (fun _ => (0 : Int32)))), (q39, .inl (cI, 84, .inl (fun _ => (0 : Int32)))), (q47, .inl (cI, 30, .inl (fun _ => (0 : Int32))))] : va_W) H := hP
  refine lv_aload_n hx hb dX12_init_52 rfl (lv_at hl 0 rfl) ?_
  refine lv_bipush (v := (30 : Int32)) hx hb dX12_init_53 (by decide) ?_
  refine wb_newa (atype := .int) (ty := .int) (cT := cI) (N' := 30) hx hb (hts (.arrayClass .int) (List.mem_of_getElem? (i := 4) rfl)) rfl hK hP hD hS hA 1 rfl wb_raI (fun _ => rfl) (by decide +kernel) (by decide +kernel) (by decide +kernel) (Nat.le_of_ble_eq_true rfl) (Nat.le_of_ble_eq_true rfl) dX12_init_55 (fun q55 H hP hD hS => ?_)
  refine va_putF (D := D) (ci := 12) (v := .ref q55) (ty := (.array .int)) (C := RX12) (T := TX12) (N := 58) hx hb hts hinX12 tyX12 tyX12_ok nmX12 hown hK hP hD hS 0 rfl rfl 9 (by decide) (hts (.fieldLink RX12 28 "WheelBookModel" "read" "[I") (List.mem_of_getElem? (i := 11) rfl)) (fun _ h9 => h9) rfl hin0 rfl (by decide +kernel) rfl rfl (Nat.le_of_ble_eq_true rfl) dX12_init_57 (fun H locs hP hD hS => ?_)
  have hP : va_P D vwCl ([(h0, .inr (12, [.int 0, .ref q7, .ref q15, .ref q23, .ref q31, .int 0, .int 0, .ref q39, .ref q47, .ref q55, .null, .null, .int 0, .int 0, .int 0, .int 0, .int 0, .int 0, .int 0, .int 0, .int 0, .long 0, .int 0, .int 0, .int 0, .null, .null, .null, .null, .null, .null, .null, .null, .int 0, .null, .int 0, .int 0, .null, .null, .null, .null, .null, .int 0, .null, .null, .null, .null, .null, .null, .null, .null, .null, .null, .null, .null, .int 0, .null, .null])), (q7, .inl (cI, 28, .inl (fun _ => (0 : Int32)))), (q15, .inl (cI, 28, .inl (fun _ => (0 : Int32)))), (q23, .inl (cI, 28, .inl (fun _ => (0 : Int32)))), (q31, .inl (cI, 28, .inl (fun _ => (0 : Int32)))), (q39, .inl (cI, 84, .inl (fun _ => (0 : Int32)))), (q47, .inl (cI, 30, .inl (fun _ => (0 : Int32)))), (q55, .inl (cI, 30, .inl (fun _ => (0 : Int32))))] : va_W) H := hP
  refine lv_aload_n hx hb dX12_init_60 rfl (lv_at hl 0 rfl) ?_
  refine lv_sipush (v := (2640 : Int32)) hx hb dX12_init_61 (by decide) ?_
  refine wb_newa (atype := .int) (ty := .int) (cT := cI) (N' := 2640) hx hb (hts (.arrayClass .int) (List.mem_of_getElem? (i := 4) rfl)) rfl hK hP hD hS hA 1 rfl wb_raI (fun _ => rfl) (by decide +kernel) (by decide +kernel) (by decide +kernel) (Nat.le_of_ble_eq_true rfl) (Nat.le_of_ble_eq_true rfl) dX12_init_64 (fun q64 H hP hD hS => ?_)
  refine va_putF (D := D) (ci := 12) (v := .ref q64) (ty := (.array .int)) (C := RX12) (T := TX12) (N := 58) hx hb hts hinX12 tyX12 tyX12_ok nmX12 hown hK hP hD hS 0 rfl rfl 10 (by decide) (hts (.fieldLink RX12 31 "WheelBookModel" "entries" "[I") (List.mem_of_getElem? (i := 12) rfl)) (fun _ h9 => h9) rfl hin0 rfl (by decide +kernel) rfl rfl (Nat.le_of_ble_eq_true rfl) dX12_init_66 (fun H locs hP hD hS => ?_)
  have hP : va_P D vwCl ([(h0, .inr (12, [.int 0, .ref q7, .ref q15, .ref q23, .ref q31, .int 0, .int 0, .ref q39, .ref q47, .ref q55, .ref q64, .null, .int 0, .int 0, .int 0, .int 0, .int 0, .int 0, .int 0, .int 0, .int 0, .long 0, .int 0, .int 0, .int 0, .null, .null, .null, .null, .null, .null, .null, .null, .int 0, .null, .int 0, .int 0, .null, .null, .null, .null, .null, .int 0, .null, .null, .null, .null, .null, .null, .null, .null, .null, .null, .null, .null, .int 0, .null, .null])), (q7, .inl (cI, 28, .inl (fun _ => (0 : Int32)))), (q15, .inl (cI, 28, .inl (fun _ => (0 : Int32)))), (q23, .inl (cI, 28, .inl (fun _ => (0 : Int32)))), (q31, .inl (cI, 28, .inl (fun _ => (0 : Int32)))), (q39, .inl (cI, 84, .inl (fun _ => (0 : Int32)))), (q47, .inl (cI, 30, .inl (fun _ => (0 : Int32)))), (q55, .inl (cI, 30, .inl (fun _ => (0 : Int32)))), (q64, .inl (cI, 2640, .inl (fun _ => (0 : Int32))))] : va_W) H := hP
  refine lv_aload_n hx hb dX12_init_69 rfl (lv_at hl 0 rfl) ?_
  refine lv_sipush (v := (600 : Int32)) hx hb dX12_init_70 (by decide) ?_
  refine wb_newa (atype := .int) (ty := .int) (cT := cI) (N' := 600) hx hb (hts (.arrayClass .int) (List.mem_of_getElem? (i := 4) rfl)) rfl hK hP hD hS hA 1 rfl wb_raI (fun _ => rfl) (by decide +kernel) (by decide +kernel) (by decide +kernel) (Nat.le_of_ble_eq_true rfl) (Nat.le_of_ble_eq_true rfl) dX12_init_73 (fun q73 H hP hD hS => ?_)
  refine va_putF (D := D) (ci := 12) (v := .ref q73) (ty := (.array .int)) (C := RX12) (T := TX12) (N := 58) hx hb hts hinX12 tyX12 tyX12_ok nmX12 hown hK hP hD hS 0 rfl rfl 11 (by decide) (hts (.fieldLink RX12 34 "WheelBookModel" "tape" "[I") (List.mem_of_getElem? (i := 13) rfl)) (fun _ h9 => h9) rfl hin0 rfl (by decide +kernel) rfl rfl (Nat.le_of_ble_eq_true rfl) dX12_init_75 (fun H locs hP hD hS => ?_)
  have hP : va_P D vwCl ([(h0, .inr (12, [.int 0, .ref q7, .ref q15, .ref q23, .ref q31, .int 0, .int 0, .ref q39, .ref q47, .ref q55, .ref q64, .ref q73, .int 0, .int 0, .int 0, .int 0, .int 0, .int 0, .int 0, .int 0, .int 0, .long 0, .int 0, .int 0, .int 0, .null, .null, .null, .null, .null, .null, .null, .null, .int 0, .null, .int 0, .int 0, .null, .null, .null, .null, .null, .int 0, .null, .null, .null, .null, .null, .null, .null, .null, .null, .null, .null, .null, .int 0, .null, .null])), (q7, .inl (cI, 28, .inl (fun _ => (0 : Int32)))), (q15, .inl (cI, 28, .inl (fun _ => (0 : Int32)))), (q23, .inl (cI, 28, .inl (fun _ => (0 : Int32)))), (q31, .inl (cI, 28, .inl (fun _ => (0 : Int32)))), (q39, .inl (cI, 84, .inl (fun _ => (0 : Int32)))), (q47, .inl (cI, 30, .inl (fun _ => (0 : Int32)))), (q55, .inl (cI, 30, .inl (fun _ => (0 : Int32)))), (q64, .inl (cI, 2640, .inl (fun _ => (0 : Int32)))), (q73, .inl (cI, 600, .inl (fun _ => (0 : Int32))))] : va_W) H := hP
  refine lv_aload_n hx hb dX12_init_78 rfl (lv_at hl 0 rfl) ?_
  refine lv_iconst (v := (-1 : Int32)) hx hb dX12_init_79 (by decide) ?_
  refine va_put (D := D) (ci := 12) (v := .int (-1 : Int32)) (ty := .int) (C := RX12) (T := TX12) (N := 58) hx hb hts hinX12 tyX12 tyX12_ok nmX12 hown hK hP hD hS 0 rfl rfl 14 (by decide) (hts (.fieldLink RX12 37 "WheelBookModel" "faultPlace" "I") (List.mem_of_getElem? (i := 14) rfl)) (fun _ h9 => h9) rfl (by decide +kernel) rfl rfl (Nat.le_of_ble_eq_true rfl) dX12_init_80 (fun H locs hP hD hS => ?_)
  have hP : va_P D vwCl ([(h0, .inr (12, [.int 0, .ref q7, .ref q15, .ref q23, .ref q31, .int 0, .int 0, .ref q39, .ref q47, .ref q55, .ref q64, .ref q73, .int 0, .int 0, .int (-1 : Int32), .int 0, .int 0, .int 0, .int 0, .int 0, .int 0, .long 0, .int 0, .int 0, .int 0, .null, .null, .null, .null, .null, .null, .null, .null, .int 0, .null, .int 0, .int 0, .null, .null, .null, .null, .null, .int 0, .null, .null, .null, .null, .null, .null, .null, .null, .null, .null, .null, .null, .int 0, .null, .null])), (q7, .inl (cI, 28, .inl (fun _ => (0 : Int32)))), (q15, .inl (cI, 28, .inl (fun _ => (0 : Int32)))), (q23, .inl (cI, 28, .inl (fun _ => (0 : Int32)))), (q31, .inl (cI, 28, .inl (fun _ => (0 : Int32)))), (q39, .inl (cI, 84, .inl (fun _ => (0 : Int32)))), (q47, .inl (cI, 30, .inl (fun _ => (0 : Int32)))), (q55, .inl (cI, 30, .inl (fun _ => (0 : Int32)))), (q64, .inl (cI, 2640, .inl (fun _ => (0 : Int32)))), (q73, .inl (cI, 600, .inl (fun _ => (0 : Int32))))] : va_W) H := hP
  refine lv_aload_n hx hb dX12_init_83 rfl (lv_at hl 0 rfl) ?_
  refine lv_bipush (v := (28 : Int32)) hx hb dX12_init_84 (by decide) ?_
  refine wb_newa (atype := .int) (ty := .int) (cT := cI) (N' := 28) hx hb (hts (.arrayClass .int) (List.mem_of_getElem? (i := 4) rfl)) rfl hK hP hD hS hA 1 rfl wb_raI (fun _ => rfl) (by decide +kernel) (by decide +kernel) (by decide +kernel) (Nat.le_of_ble_eq_true rfl) (Nat.le_of_ble_eq_true rfl) dX12_init_86 (fun q86 H hP hD hS => ?_)
  refine va_putF (D := D) (ci := 12) (v := .ref q86) (ty := (.array .int)) (C := RX12) (T := TX12) (N := 58) hx hb hts hinX12 tyX12 tyX12_ok nmX12 hown hK hP hD hS 0 rfl rfl 25 (by decide) (hts (.fieldLink RX12 41 "WheelBookModel" "newStarts" "[I") (List.mem_of_getElem? (i := 15) rfl)) (fun _ h9 => h9) rfl hin0 rfl (by decide +kernel) rfl rfl (Nat.le_of_ble_eq_true rfl) dX12_init_88 (fun H locs hP hD hS => ?_)
  have hP : va_P D vwCl ([(h0, .inr (12, [.int 0, .ref q7, .ref q15, .ref q23, .ref q31, .int 0, .int 0, .ref q39, .ref q47, .ref q55, .ref q64, .ref q73, .int 0, .int 0, .int (-1 : Int32), .int 0, .int 0, .int 0, .int 0, .int 0, .int 0, .long 0, .int 0, .int 0, .int 0, .ref q86, .null, .null, .null, .null, .null, .null, .null, .int 0, .null, .int 0, .int 0, .null, .null, .null, .null, .null, .int 0, .null, .null, .null, .null, .null, .null, .null, .null, .null, .null, .null, .null, .int 0, .null, .null])), (q7, .inl (cI, 28, .inl (fun _ => (0 : Int32)))), (q15, .inl (cI, 28, .inl (fun _ => (0 : Int32)))), (q23, .inl (cI, 28, .inl (fun _ => (0 : Int32)))), (q31, .inl (cI, 28, .inl (fun _ => (0 : Int32)))), (q39, .inl (cI, 84, .inl (fun _ => (0 : Int32)))), (q47, .inl (cI, 30, .inl (fun _ => (0 : Int32)))), (q55, .inl (cI, 30, .inl (fun _ => (0 : Int32)))), (q64, .inl (cI, 2640, .inl (fun _ => (0 : Int32)))), (q73, .inl (cI, 600, .inl (fun _ => (0 : Int32)))), (q86, .inl (cI, 28, .inl (fun _ => (0 : Int32))))] : va_W) H := hP
  refine lv_aload_n hx hb dX12_init_91 rfl (lv_at hl 0 rfl) ?_
  refine lv_bipush (v := (28 : Int32)) hx hb dX12_init_92 (by decide) ?_
  refine wb_newa (atype := .int) (ty := .int) (cT := cI) (N' := 28) hx hb (hts (.arrayClass .int) (List.mem_of_getElem? (i := 4) rfl)) rfl hK hP hD hS hA 1 rfl wb_raI (fun _ => rfl) (by decide +kernel) (by decide +kernel) (by decide +kernel) (Nat.le_of_ble_eq_true rfl) (Nat.le_of_ble_eq_true rfl) dX12_init_94 (fun q94 H hP hD hS => ?_)
  refine va_putF (D := D) (ci := 12) (v := .ref q94) (ty := (.array .int)) (C := RX12) (T := TX12) (N := 58) hx hb hts hinX12 tyX12 tyX12_ok nmX12 hown hK hP hD hS 0 rfl rfl 26 (by decide) (hts (.fieldLink RX12 44 "WheelBookModel" "newGoes" "[I") (List.mem_of_getElem? (i := 16) rfl)) (fun _ h9 => h9) rfl hin0 rfl (by decide +kernel) rfl rfl (Nat.le_of_ble_eq_true rfl) dX12_init_96 (fun H locs hP hD hS => ?_)
  have hP : va_P D vwCl ([(h0, .inr (12, [.int 0, .ref q7, .ref q15, .ref q23, .ref q31, .int 0, .int 0, .ref q39, .ref q47, .ref q55, .ref q64, .ref q73, .int 0, .int 0, .int (-1 : Int32), .int 0, .int 0, .int 0, .int 0, .int 0, .int 0, .long 0, .int 0, .int 0, .int 0, .ref q86, .ref q94, .null, .null, .null, .null, .null, .null, .int 0, .null, .int 0, .int 0, .null, .null, .null, .null, .null, .int 0, .null, .null, .null, .null, .null, .null, .null, .null, .null, .null, .null, .null, .int 0, .null, .null])), (q7, .inl (cI, 28, .inl (fun _ => (0 : Int32)))), (q15, .inl (cI, 28, .inl (fun _ => (0 : Int32)))), (q23, .inl (cI, 28, .inl (fun _ => (0 : Int32)))), (q31, .inl (cI, 28, .inl (fun _ => (0 : Int32)))), (q39, .inl (cI, 84, .inl (fun _ => (0 : Int32)))), (q47, .inl (cI, 30, .inl (fun _ => (0 : Int32)))), (q55, .inl (cI, 30, .inl (fun _ => (0 : Int32)))), (q64, .inl (cI, 2640, .inl (fun _ => (0 : Int32)))), (q73, .inl (cI, 600, .inl (fun _ => (0 : Int32)))), (q86, .inl (cI, 28, .inl (fun _ => (0 : Int32)))), (q94, .inl (cI, 28, .inl (fun _ => (0 : Int32))))] : va_W) H := hP
  refine lv_aload_n hx hb dX12_init_99 rfl (lv_at hl 0 rfl) ?_
  refine lv_bipush (v := (28 : Int32)) hx hb dX12_init_100 (by decide) ?_
  refine wb_newa (atype := .int) (ty := .int) (cT := cI) (N' := 28) hx hb (hts (.arrayClass .int) (List.mem_of_getElem? (i := 4) rfl)) rfl hK hP hD hS hA 1 rfl wb_raI (fun _ => rfl) (by decide +kernel) (by decide +kernel) (by decide +kernel) (Nat.le_of_ble_eq_true rfl) (Nat.le_of_ble_eq_true rfl) dX12_init_102 (fun q102 H hP hD hS => ?_)
  refine va_putF (D := D) (ci := 12) (v := .ref q102) (ty := (.array .int)) (C := RX12) (T := TX12) (N := 58) hx hb hts hinX12 tyX12 tyX12_ok nmX12 hown hK hP hD hS 0 rfl rfl 27 (by decide) (hts (.fieldLink RX12 47 "WheelBookModel" "newSwing" "[I") (List.mem_of_getElem? (i := 17) rfl)) (fun _ h9 => h9) rfl hin0 rfl (by decide +kernel) rfl rfl (Nat.le_of_ble_eq_true rfl) dX12_init_104 (fun H locs hP hD hS => ?_)
  have hP : va_P D vwCl ([(h0, .inr (12, [.int 0, .ref q7, .ref q15, .ref q23, .ref q31, .int 0, .int 0, .ref q39, .ref q47, .ref q55, .ref q64, .ref q73, .int 0, .int 0, .int (-1 : Int32), .int 0, .int 0, .int 0, .int 0, .int 0, .int 0, .long 0, .int 0, .int 0, .int 0, .ref q86, .ref q94, .ref q102, .null, .null, .null, .null, .null, .int 0, .null, .int 0, .int 0, .null, .null, .null, .null, .null, .int 0, .null, .null, .null, .null, .null, .null, .null, .null, .null, .null, .null, .null, .int 0, .null, .null])), (q7, .inl (cI, 28, .inl (fun _ => (0 : Int32)))), (q15, .inl (cI, 28, .inl (fun _ => (0 : Int32)))), (q23, .inl (cI, 28, .inl (fun _ => (0 : Int32)))), (q31, .inl (cI, 28, .inl (fun _ => (0 : Int32)))), (q39, .inl (cI, 84, .inl (fun _ => (0 : Int32)))), (q47, .inl (cI, 30, .inl (fun _ => (0 : Int32)))), (q55, .inl (cI, 30, .inl (fun _ => (0 : Int32)))), (q64, .inl (cI, 2640, .inl (fun _ => (0 : Int32)))), (q73, .inl (cI, 600, .inl (fun _ => (0 : Int32)))), (q86, .inl (cI, 28, .inl (fun _ => (0 : Int32)))), (q94, .inl (cI, 28, .inl (fun _ => (0 : Int32)))), (q102, .inl (cI, 28, .inl (fun _ => (0 : Int32))))] : va_W) H := hP
  refine lv_aload_n hx hb dX12_init_107 rfl (lv_at hl 0 rfl) ?_
  refine lv_bipush (v := (28 : Int32)) hx hb dX12_init_108 (by decide) ?_
  refine wb_newa (atype := .int) (ty := .int) (cT := cI) (N' := 28) hx hb (hts (.arrayClass .int) (List.mem_of_getElem? (i := 4) rfl)) rfl hK hP hD hS hA 1 rfl wb_raI (fun _ => rfl) (by decide +kernel) (by decide +kernel) (by decide +kernel) (Nat.le_of_ble_eq_true rfl) (Nat.le_of_ble_eq_true rfl) dX12_init_110 (fun q110 H hP hD hS => ?_)
  refine va_putF (D := D) (ci := 12) (v := .ref q110) (ty := (.array .int)) (C := RX12) (T := TX12) (N := 58) hx hb hts hinX12 tyX12 tyX12_ok nmX12 hown hK hP hD hS 0 rfl rfl 28 (by decide) (hts (.fieldLink RX12 50 "WheelBookModel" "newPeriod" "[I") (List.mem_of_getElem? (i := 18) rfl)) (fun _ h9 => h9) rfl hin0 rfl (by decide +kernel) rfl rfl (Nat.le_of_ble_eq_true rfl) dX12_init_112 (fun H locs hP hD hS => ?_)
  have hP : va_P D vwCl ([(h0, .inr (12, [.int 0, .ref q7, .ref q15, .ref q23, .ref q31, .int 0, .int 0, .ref q39, .ref q47, .ref q55, .ref q64, .ref q73, .int 0, .int 0, .int (-1 : Int32), .int 0, .int 0, .int 0, .int 0, .int 0, .int 0, .long 0, .int 0, .int 0, .int 0, .ref q86, .ref q94, .ref q102, .ref q110, .null, .null, .null, .null, .int 0, .null, .int 0, .int 0, .null, .null, .null, .null, .null, .int 0, .null, .null, .null, .null, .null, .null, .null, .null, .null, .null, .null, .null, .int 0, .null, .null])), (q7, .inl (cI, 28, .inl (fun _ => (0 : Int32)))), (q15, .inl (cI, 28, .inl (fun _ => (0 : Int32)))), (q23, .inl (cI, 28, .inl (fun _ => (0 : Int32)))), (q31, .inl (cI, 28, .inl (fun _ => (0 : Int32)))), (q39, .inl (cI, 84, .inl (fun _ => (0 : Int32)))), (q47, .inl (cI, 30, .inl (fun _ => (0 : Int32)))), (q55, .inl (cI, 30, .inl (fun _ => (0 : Int32)))), (q64, .inl (cI, 2640, .inl (fun _ => (0 : Int32)))), (q73, .inl (cI, 600, .inl (fun _ => (0 : Int32)))), (q86, .inl (cI, 28, .inl (fun _ => (0 : Int32)))), (q94, .inl (cI, 28, .inl (fun _ => (0 : Int32)))), (q102, .inl (cI, 28, .inl (fun _ => (0 : Int32)))), (q110, .inl (cI, 28, .inl (fun _ => (0 : Int32))))] : va_W) H := hP
  refine lv_aload_n hx hb dX12_init_115 rfl (lv_at hl 0 rfl) ?_
  refine lv_bipush (v := (84 : Int32)) hx hb dX12_init_116 (by decide) ?_
  refine wb_newa (atype := .int) (ty := .int) (cT := cI) (N' := 84) hx hb (hts (.arrayClass .int) (List.mem_of_getElem? (i := 4) rfl)) rfl hK hP hD hS hA 1 rfl wb_raI (fun _ => rfl) (by decide +kernel) (by decide +kernel) (by decide +kernel) (Nat.le_of_ble_eq_true rfl) (Nat.le_of_ble_eq_true rfl) dX12_init_118 (fun q118 H hP hD hS => ?_)
  refine va_putF (D := D) (ci := 12) (v := .ref q118) (ty := (.array .int)) (C := RX12) (T := TX12) (N := 58) hx hb hts hinX12 tyX12 tyX12_ok nmX12 hown hK hP hD hS 0 rfl rfl 29 (by decide) (hts (.fieldLink RX12 53 "WheelBookModel" "newRising" "[I") (List.mem_of_getElem? (i := 19) rfl)) (fun _ h9 => h9) rfl hin0 rfl (by decide +kernel) rfl rfl (Nat.le_of_ble_eq_true rfl) dX12_init_120 (fun H locs hP hD hS => ?_)
  have hP : va_P D vwCl ([(h0, .inr (12, [.int 0, .ref q7, .ref q15, .ref q23, .ref q31, .int 0, .int 0, .ref q39, .ref q47, .ref q55, .ref q64, .ref q73, .int 0, .int 0, .int (-1 : Int32), .int 0, .int 0, .int 0, .int 0, .int 0, .int 0, .long 0, .int 0, .int 0, .int 0, .ref q86, .ref q94, .ref q102, .ref q110, .ref q118, .null, .null, .null, .int 0, .null, .int 0, .int 0, .null, .null, .null, .null, .null, .int 0, .null, .null, .null, .null, .null, .null, .null, .null, .null, .null, .null, .null, .int 0, .null, .null])), (q7, .inl (cI, 28, .inl (fun _ => (0 : Int32)))), (q15, .inl (cI, 28, .inl (fun _ => (0 : Int32)))), (q23, .inl (cI, 28, .inl (fun _ => (0 : Int32)))), (q31, .inl (cI, 28, .inl (fun _ => (0 : Int32)))), (q39, .inl (cI, 84, .inl (fun _ => (0 : Int32)))), (q47, .inl (cI, 30, .inl (fun _ => (0 : Int32)))), (q55, .inl (cI, 30, .inl (fun _ => (0 : Int32)))), (q64, .inl (cI, 2640, .inl (fun _ => (0 : Int32)))), (q73, .inl (cI, 600, .inl (fun _ => (0 : Int32)))), (q86, .inl (cI, 28, .inl (fun _ => (0 : Int32)))), (q94, .inl (cI, 28, .inl (fun _ => (0 : Int32)))), (q102, .inl (cI, 28, .inl (fun _ => (0 : Int32)))), (q110, .inl (cI, 28, .inl (fun _ => (0 : Int32)))), (q118, .inl (cI, 84, .inl (fun _ => (0 : Int32))))] : va_W) H := hP
  refine lv_aload_n hx hb dX12_init_123 rfl (lv_at hl 0 rfl) ?_
  refine lv_bipush (v := (30 : Int32)) hx hb dX12_init_124 (by decide) ?_
  refine wb_newa (atype := .int) (ty := .int) (cT := cI) (N' := 30) hx hb (hts (.arrayClass .int) (List.mem_of_getElem? (i := 4) rfl)) rfl hK hP hD hS hA 1 rfl wb_raI (fun _ => rfl) (by decide +kernel) (by decide +kernel) (by decide +kernel) (Nat.le_of_ble_eq_true rfl) (Nat.le_of_ble_eq_true rfl) dX12_init_126 (fun q126 H hP hD hS => ?_)
  refine va_putF (D := D) (ci := 12) (v := .ref q126) (ty := (.array .int)) (C := RX12) (T := TX12) (N := 58) hx hb hts hinX12 tyX12 tyX12_ok nmX12 hown hK hP hD hS 0 rfl rfl 30 (by decide) (hts (.fieldLink RX12 56 "WheelBookModel" "newStood" "[I") (List.mem_of_getElem? (i := 20) rfl)) (fun _ h9 => h9) rfl hin0 rfl (by decide +kernel) rfl rfl (Nat.le_of_ble_eq_true rfl) dX12_init_128 (fun H locs hP hD hS => ?_)
  have hP : va_P D vwCl ([(h0, .inr (12, [.int 0, .ref q7, .ref q15, .ref q23, .ref q31, .int 0, .int 0, .ref q39, .ref q47, .ref q55, .ref q64, .ref q73, .int 0, .int 0, .int (-1 : Int32), .int 0, .int 0, .int 0, .int 0, .int 0, .int 0, .long 0, .int 0, .int 0, .int 0, .ref q86, .ref q94, .ref q102, .ref q110, .ref q118, .ref q126, .null, .null, .int 0, .null, .int 0, .int 0, .null, .null, .null, .null, .null, .int 0, .null, .null, .null, .null, .null, .null, .null, .null, .null, .null, .null, .null, .int 0, .null, .null])), (q7, .inl (cI, 28, .inl (fun _ => (0 : Int32)))), (q15, .inl (cI, 28, .inl (fun _ => (0 : Int32)))), (q23, .inl (cI, 28, .inl (fun _ => (0 : Int32)))), (q31, .inl (cI, 28, .inl (fun _ => (0 : Int32)))), (q39, .inl (cI, 84, .inl (fun _ => (0 : Int32)))), (q47, .inl (cI, 30, .inl (fun _ => (0 : Int32)))), (q55, .inl (cI, 30, .inl (fun _ => (0 : Int32)))), (q64, .inl (cI, 2640, .inl (fun _ => (0 : Int32)))), (q73, .inl (cI, 600, .inl (fun _ => (0 : Int32)))), (q86, .inl (cI, 28, .inl (fun _ => (0 : Int32)))), (q94, .inl (cI, 28, .inl (fun _ => (0 : Int32)))), (q102, .inl (cI, 28, .inl (fun _ => (0 : Int32)))), (q110, .inl (cI, 28, .inl (fun _ => (0 : Int32)))), (q118, .inl (cI, 84, .inl (fun _ => (0 : Int32)))), (q126, .inl (cI, 30, .inl (fun _ => (0 : Int32))))] : va_W) H := hP
  refine lv_aload_n hx hb dX12_init_131 rfl (lv_at hl 0 rfl) ?_
  refine lv_bipush (v := (30 : Int32)) hx hb dX12_init_132 (by decide) ?_
  refine wb_newa (atype := .int) (ty := .int) (cT := cI) (N' := 30) hx hb (hts (.arrayClass .int) (List.mem_of_getElem? (i := 4) rfl)) rfl hK hP hD hS hA 1 rfl wb_raI (fun _ => rfl) (by decide +kernel) (by decide +kernel) (by decide +kernel) (Nat.le_of_ble_eq_true rfl) (Nat.le_of_ble_eq_true rfl) dX12_init_134 (fun q134 H hP hD hS => ?_)
  refine va_putF (D := D) (ci := 12) (v := .ref q134) (ty := (.array .int)) (C := RX12) (T := TX12) (N := 58) hx hb hts hinX12 tyX12 tyX12_ok nmX12 hown hK hP hD hS 0 rfl rfl 31 (by decide) (hts (.fieldLink RX12 59 "WheelBookModel" "newRead" "[I") (List.mem_of_getElem? (i := 21) rfl)) (fun _ h9 => h9) rfl hin0 rfl (by decide +kernel) rfl rfl (Nat.le_of_ble_eq_true rfl) dX12_init_136 (fun H locs hP hD hS => ?_)
  have hP : va_P D vwCl ([(h0, .inr (12, [.int 0, .ref q7, .ref q15, .ref q23, .ref q31, .int 0, .int 0, .ref q39, .ref q47, .ref q55, .ref q64, .ref q73, .int 0, .int 0, .int (-1 : Int32), .int 0, .int 0, .int 0, .int 0, .int 0, .int 0, .long 0, .int 0, .int 0, .int 0, .ref q86, .ref q94, .ref q102, .ref q110, .ref q118, .ref q126, .ref q134, .null, .int 0, .null, .int 0, .int 0, .null, .null, .null, .null, .null, .int 0, .null, .null, .null, .null, .null, .null, .null, .null, .null, .null, .null, .null, .int 0, .null, .null])), (q7, .inl (cI, 28, .inl (fun _ => (0 : Int32)))), (q15, .inl (cI, 28, .inl (fun _ => (0 : Int32)))), (q23, .inl (cI, 28, .inl (fun _ => (0 : Int32)))), (q31, .inl (cI, 28, .inl (fun _ => (0 : Int32)))), (q39, .inl (cI, 84, .inl (fun _ => (0 : Int32)))), (q47, .inl (cI, 30, .inl (fun _ => (0 : Int32)))), (q55, .inl (cI, 30, .inl (fun _ => (0 : Int32)))), (q64, .inl (cI, 2640, .inl (fun _ => (0 : Int32)))), (q73, .inl (cI, 600, .inl (fun _ => (0 : Int32)))), (q86, .inl (cI, 28, .inl (fun _ => (0 : Int32)))), (q94, .inl (cI, 28, .inl (fun _ => (0 : Int32)))), (q102, .inl (cI, 28, .inl (fun _ => (0 : Int32)))), (q110, .inl (cI, 28, .inl (fun _ => (0 : Int32)))), (q118, .inl (cI, 84, .inl (fun _ => (0 : Int32)))), (q126, .inl (cI, 30, .inl (fun _ => (0 : Int32)))), (q134, .inl (cI, 30, .inl (fun _ => (0 : Int32))))] : va_W) H := hP
  refine lv_aload_n hx hb dX12_init_139 rfl (lv_at hl 0 rfl) ?_
  refine lv_bipush (v := (22 : Int32)) hx hb dX12_init_140 (by decide) ?_
  refine wb_newa (atype := .int) (ty := .int) (cT := cI) (N' := 22) hx hb (hts (.arrayClass .int) (List.mem_of_getElem? (i := 4) rfl)) rfl hK hP hD hS hA 1 rfl wb_raI (fun _ => rfl) (by decide +kernel) (by decide +kernel) (by decide +kernel) (Nat.le_of_ble_eq_true rfl) (Nat.le_of_ble_eq_true rfl) dX12_init_142 (fun q142 H hP hD hS => ?_)
  refine va_putF (D := D) (ci := 12) (v := .ref q142) (ty := (.array .int)) (C := RX12) (T := TX12) (N := 58) hx hb hts hinX12 tyX12 tyX12_ok nmX12 hown hK hP hD hS 0 rfl rfl 32 (by decide) (hts (.fieldLink RX12 62 "WheelBookModel" "newEntries" "[I") (List.mem_of_getElem? (i := 22) rfl)) (fun _ h9 => h9) rfl hin0 rfl (by decide +kernel) rfl rfl (Nat.le_of_ble_eq_true rfl) dX12_init_144 (fun H locs hP hD hS => ?_)
  have hP : va_P D vwCl ([(h0, .inr (12, [.int 0, .ref q7, .ref q15, .ref q23, .ref q31, .int 0, .int 0, .ref q39, .ref q47, .ref q55, .ref q64, .ref q73, .int 0, .int 0, .int (-1 : Int32), .int 0, .int 0, .int 0, .int 0, .int 0, .int 0, .long 0, .int 0, .int 0, .int 0, .ref q86, .ref q94, .ref q102, .ref q110, .ref q118, .ref q126, .ref q134, .ref q142, .int 0, .null, .int 0, .int 0, .null, .null, .null, .null, .null, .int 0, .null, .null, .null, .null, .null, .null, .null, .null, .null, .null, .null, .null, .int 0, .null, .null])), (q7, .inl (cI, 28, .inl (fun _ => (0 : Int32)))), (q15, .inl (cI, 28, .inl (fun _ => (0 : Int32)))), (q23, .inl (cI, 28, .inl (fun _ => (0 : Int32)))), (q31, .inl (cI, 28, .inl (fun _ => (0 : Int32)))), (q39, .inl (cI, 84, .inl (fun _ => (0 : Int32)))), (q47, .inl (cI, 30, .inl (fun _ => (0 : Int32)))), (q55, .inl (cI, 30, .inl (fun _ => (0 : Int32)))), (q64, .inl (cI, 2640, .inl (fun _ => (0 : Int32)))), (q73, .inl (cI, 600, .inl (fun _ => (0 : Int32)))), (q86, .inl (cI, 28, .inl (fun _ => (0 : Int32)))), (q94, .inl (cI, 28, .inl (fun _ => (0 : Int32)))), (q102, .inl (cI, 28, .inl (fun _ => (0 : Int32)))), (q110, .inl (cI, 28, .inl (fun _ => (0 : Int32)))), (q118, .inl (cI, 84, .inl (fun _ => (0 : Int32)))), (q126, .inl (cI, 30, .inl (fun _ => (0 : Int32)))), (q134, .inl (cI, 30, .inl (fun _ => (0 : Int32)))), (q142, .inl (cI, 22, .inl (fun _ => (0 : Int32))))] : va_W) H := hP
  refine lv_aload_n hx hb dX12_init_147 rfl (lv_at hl 0 rfl) ?_
  refine lv_iconst (v := (-1 : Int32)) hx hb dX12_init_148 (by decide) ?_
  refine va_put (D := D) (ci := 12) (v := .int (-1 : Int32)) (ty := .int) (C := RX12) (T := TX12) (N := 58) hx hb hts hinX12 tyX12 tyX12_ok nmX12 hown hK hP hD hS 0 rfl rfl 33 (by decide) (hts (.fieldLink RX12 65 "WheelBookModel" "bestMany" "I") (List.mem_of_getElem? (i := 23) rfl)) (fun _ h9 => h9) rfl (by decide +kernel) rfl rfl (Nat.le_of_ble_eq_true rfl) dX12_init_149 (fun H locs hP hD hS => ?_)
  have hP : va_P D vwCl ([(h0, .inr (12, [.int 0, .ref q7, .ref q15, .ref q23, .ref q31, .int 0, .int 0, .ref q39, .ref q47, .ref q55, .ref q64, .ref q73, .int 0, .int 0, .int (-1 : Int32), .int 0, .int 0, .int 0, .int 0, .int 0, .int 0, .long 0, .int 0, .int 0, .int 0, .ref q86, .ref q94, .ref q102, .ref q110, .ref q118, .ref q126, .ref q134, .ref q142, .int (-1 : Int32), .null, .int 0, .int 0, .null, .null, .null, .null, .null, .int 0, .null, .null, .null, .null, .null, .null, .null, .null, .null, .null, .null, .null, .int 0, .null, .null])), (q7, .inl (cI, 28, .inl (fun _ => (0 : Int32)))), (q15, .inl (cI, 28, .inl (fun _ => (0 : Int32)))), (q23, .inl (cI, 28, .inl (fun _ => (0 : Int32)))), (q31, .inl (cI, 28, .inl (fun _ => (0 : Int32)))), (q39, .inl (cI, 84, .inl (fun _ => (0 : Int32)))), (q47, .inl (cI, 30, .inl (fun _ => (0 : Int32)))), (q55, .inl (cI, 30, .inl (fun _ => (0 : Int32)))), (q64, .inl (cI, 2640, .inl (fun _ => (0 : Int32)))), (q73, .inl (cI, 600, .inl (fun _ => (0 : Int32)))), (q86, .inl (cI, 28, .inl (fun _ => (0 : Int32)))), (q94, .inl (cI, 28, .inl (fun _ => (0 : Int32)))), (q102, .inl (cI, 28, .inl (fun _ => (0 : Int32)))), (q110, .inl (cI, 28, .inl (fun _ => (0 : Int32)))), (q118, .inl (cI, 84, .inl (fun _ => (0 : Int32)))), (q126, .inl (cI, 30, .inl (fun _ => (0 : Int32)))), (q134, .inl (cI, 30, .inl (fun _ => (0 : Int32)))), (q142, .inl (cI, 22, .inl (fun _ => (0 : Int32))))] : va_W) H := hP
  refine lv_aload_n hx hb dX12_init_152 rfl (lv_at hl 0 rfl) ?_
  refine lv_bipush (v := (20 : Int32)) hx hb dX12_init_153 (by decide) ?_
  refine wb_newa (atype := .int) (ty := .int) (cT := cI) (N' := 20) hx hb (hts (.arrayClass .int) (List.mem_of_getElem? (i := 4) rfl)) rfl hK hP hD hS hA 1 rfl wb_raI (fun _ => rfl) (by decide +kernel) (by decide +kernel) (by decide +kernel) (Nat.le_of_ble_eq_true rfl) (Nat.le_of_ble_eq_true rfl) dX12_init_155 (fun q155 H hP hD hS => ?_)
  refine va_putF (D := D) (ci := 12) (v := .ref q155) (ty := (.array .int)) (C := RX12) (T := TX12) (N := 58) hx hb hts hinX12 tyX12 tyX12_ok nmX12 hown hK hP hD hS 0 rfl rfl 34 (by decide) (hts (.fieldLink RX12 68 "WheelBookModel" "bestDay" "[I") (List.mem_of_getElem? (i := 24) rfl)) (fun _ h9 => h9) rfl hin0 rfl (by decide +kernel) rfl rfl (Nat.le_of_ble_eq_true rfl) dX12_init_157 (fun H locs hP hD hS => ?_)
  have hP : va_P D vwCl ([(h0, .inr (12, [.int 0, .ref q7, .ref q15, .ref q23, .ref q31, .int 0, .int 0, .ref q39, .ref q47, .ref q55, .ref q64, .ref q73, .int 0, .int 0, .int (-1 : Int32), .int 0, .int 0, .int 0, .int 0, .int 0, .int 0, .long 0, .int 0, .int 0, .int 0, .ref q86, .ref q94, .ref q102, .ref q110, .ref q118, .ref q126, .ref q134, .ref q142, .int (-1 : Int32), .ref q155, .int 0, .int 0, .null, .null, .null, .null, .null, .int 0, .null, .null, .null, .null, .null, .null, .null, .null, .null, .null, .null, .null, .int 0, .null, .null])), (q7, .inl (cI, 28, .inl (fun _ => (0 : Int32)))), (q15, .inl (cI, 28, .inl (fun _ => (0 : Int32)))), (q23, .inl (cI, 28, .inl (fun _ => (0 : Int32)))), (q31, .inl (cI, 28, .inl (fun _ => (0 : Int32)))), (q39, .inl (cI, 84, .inl (fun _ => (0 : Int32)))), (q47, .inl (cI, 30, .inl (fun _ => (0 : Int32)))), (q55, .inl (cI, 30, .inl (fun _ => (0 : Int32)))), (q64, .inl (cI, 2640, .inl (fun _ => (0 : Int32)))), (q73, .inl (cI, 600, .inl (fun _ => (0 : Int32)))), (q86, .inl (cI, 28, .inl (fun _ => (0 : Int32)))), (q94, .inl (cI, 28, .inl (fun _ => (0 : Int32)))), (q102, .inl (cI, 28, .inl (fun _ => (0 : Int32)))), (q110, .inl (cI, 28, .inl (fun _ => (0 : Int32)))), (q118, .inl (cI, 84, .inl (fun _ => (0 : Int32)))), (q126, .inl (cI, 30, .inl (fun _ => (0 : Int32)))), (q134, .inl (cI, 30, .inl (fun _ => (0 : Int32)))), (q142, .inl (cI, 22, .inl (fun _ => (0 : Int32)))), (q155, .inl (cI, 20, .inl (fun _ => (0 : Int32))))] : va_W) H := hP
  refine lv_aload_n hx hb dX12_init_160 rfl (lv_at hl 0 rfl) ?_
  refine lv_bipush (v := (7 : Int32)) hx hb dX12_init_161 (by decide) ?_
  refine wb_newa (atype := .int) (ty := .int) (cT := cI) (N' := 7) hx hb (hts (.arrayClass .int) (List.mem_of_getElem? (i := 4) rfl)) rfl hK hP hD hS hA 1 rfl wb_raI (fun _ => rfl) (by decide +kernel) (by decide +kernel) (by decide +kernel) (Nat.le_of_ble_eq_true rfl) (Nat.le_of_ble_eq_true rfl) dX12_init_163 (fun q163 H hP hD hS => ?_)
  refine va_putF (D := D) (ci := 12) (v := .ref q163) (ty := (.array .int)) (C := RX12) (T := TX12) (N := 58) hx hb hts hinX12 tyX12 tyX12_ok nmX12 hown hK hP hD hS 0 rfl rfl 37 (by decide) (hts (.fieldLink RX12 71 "WheelBookModel" "search" "[I") (List.mem_of_getElem? (i := 25) rfl)) (fun _ h9 => h9) rfl hin0 rfl (by decide +kernel) rfl rfl (Nat.le_of_ble_eq_true rfl) dX12_init_165 (fun H locs hP hD hS => ?_)
  have hP : va_P D vwCl ([(h0, .inr (12, [.int 0, .ref q7, .ref q15, .ref q23, .ref q31, .int 0, .int 0, .ref q39, .ref q47, .ref q55, .ref q64, .ref q73, .int 0, .int 0, .int (-1 : Int32), .int 0, .int 0, .int 0, .int 0, .int 0, .int 0, .long 0, .int 0, .int 0, .int 0, .ref q86, .ref q94, .ref q102, .ref q110, .ref q118, .ref q126, .ref q134, .ref q142, .int (-1 : Int32), .ref q155, .int 0, .int 0, .ref q163, .null, .null, .null, .null, .int 0, .null, .null, .null, .null, .null, .null, .null, .null, .null, .null, .null, .null, .int 0, .null, .null])), (q7, .inl (cI, 28, .inl (fun _ => (0 : Int32)))), (q15, .inl (cI, 28, .inl (fun _ => (0 : Int32)))), (q23, .inl (cI, 28, .inl (fun _ => (0 : Int32)))), (q31, .inl (cI, 28, .inl (fun _ => (0 : Int32)))), (q39, .inl (cI, 84, .inl (fun _ => (0 : Int32)))), (q47, .inl (cI, 30, .inl (fun _ => (0 : Int32)))), (q55, .inl (cI, 30, .inl (fun _ => (0 : Int32)))), (q64, .inl (cI, 2640, .inl (fun _ => (0 : Int32)))), (q73, .inl (cI, 600, .inl (fun _ => (0 : Int32)))), (q86, .inl (cI, 28, .inl (fun _ => (0 : Int32)))), (q94, .inl (cI, 28, .inl (fun _ => (0 : Int32)))), (q102, .inl (cI, 28, .inl (fun _ => (0 : Int32)))), (q110, .inl (cI, 28, .inl (fun _ => (0 : Int32)))), (q118, .inl (cI, 84, .inl (fun _ => (0 : Int32)))), (q126, .inl (cI, 30, .inl (fun _ => (0 : Int32)))), (q134, .inl (cI, 30, .inl (fun _ => (0 : Int32)))), (q142, .inl (cI, 22, .inl (fun _ => (0 : Int32)))), (q155, .inl (cI, 20, .inl (fun _ => (0 : Int32)))), (q163, .inl (cI, 7, .inl (fun _ => (0 : Int32))))] : va_W) H := hP
  refine lv_aload_n hx hb dX12_init_168 rfl (lv_at hl 0 rfl) ?_
  refine lv_bipush (v := (7 : Int32)) hx hb dX12_init_169 (by decide) ?_
  refine wb_newa (atype := .int) (ty := .int) (cT := cI) (N' := 7) hx hb (hts (.arrayClass .int) (List.mem_of_getElem? (i := 4) rfl)) rfl hK hP hD hS hA 1 rfl wb_raI (fun _ => rfl) (by decide +kernel) (by decide +kernel) (by decide +kernel) (Nat.le_of_ble_eq_true rfl) (Nat.le_of_ble_eq_true rfl) dX12_init_171 (fun q171 H hP hD hS => ?_)
  refine va_putF (D := D) (ci := 12) (v := .ref q171) (ty := (.array .int)) (C := RX12) (T := TX12) (N := 58) hx hb hts hinX12 tyX12 tyX12_ok nmX12 hown hK hP hD hS 0 rfl rfl 38 (by decide) (hts (.fieldLink RX12 74 "WheelBookModel" "image" "[I") (List.mem_of_getElem? (i := 26) rfl)) (fun _ h9 => h9) rfl hin0 rfl (by decide +kernel) rfl rfl (Nat.le_of_ble_eq_true rfl) dX12_init_173 (fun H locs hP hD hS => ?_)
  have hP : va_P D vwCl ([(h0, .inr (12, [.int 0, .ref q7, .ref q15, .ref q23, .ref q31, .int 0, .int 0, .ref q39, .ref q47, .ref q55, .ref q64, .ref q73, .int 0, .int 0, .int (-1 : Int32), .int 0, .int 0, .int 0, .int 0, .int 0, .int 0, .long 0, .int 0, .int 0, .int 0, .ref q86, .ref q94, .ref q102, .ref q110, .ref q118, .ref q126, .ref q134, .ref q142, .int (-1 : Int32), .ref q155, .int 0, .int 0, .ref q163, .ref q171, .null, .null, .null, .int 0, .null, .null, .null, .null, .null, .null, .null, .null, .null, .null, .null, .null, .int 0, .null, .null])), (q7, .inl (cI, 28, .inl (fun _ => (0 : Int32)))), (q15, .inl (cI, 28, .inl (fun _ => (0 : Int32)))), (q23, .inl (cI, 28, .inl (fun _ => (0 : Int32)))), (q31, .inl (cI, 28, .inl (fun _ => (0 : Int32)))), (q39, .inl (cI, 84, .inl (fun _ => (0 : Int32)))), (q47, .inl (cI, 30, .inl (fun _ => (0 : Int32)))), (q55, .inl (cI, 30, .inl (fun _ => (0 : Int32)))), (q64, .inl (cI, 2640, .inl (fun _ => (0 : Int32)))), (q73, .inl (cI, 600, .inl (fun _ => (0 : Int32)))), (q86, .inl (cI, 28, .inl (fun _ => (0 : Int32)))), (q94, .inl (cI, 28, .inl (fun _ => (0 : Int32)))), (q102, .inl (cI, 28, .inl (fun _ => (0 : Int32)))), (q110, .inl (cI, 28, .inl (fun _ => (0 : Int32)))), (q118, .inl (cI, 84, .inl (fun _ => (0 : Int32)))), (q126, .inl (cI, 30, .inl (fun _ => (0 : Int32)))), (q134, .inl (cI, 30, .inl (fun _ => (0 : Int32)))), (q142, .inl (cI, 22, .inl (fun _ => (0 : Int32)))), (q155, .inl (cI, 20, .inl (fun _ => (0 : Int32)))), (q163, .inl (cI, 7, .inl (fun _ => (0 : Int32)))), (q171, .inl (cI, 7, .inl (fun _ => (0 : Int32))))] : va_W) H := hP
  refine lv_aload_n hx hb dX12_init_176 rfl (lv_at hl 0 rfl) ?_
  refine lv_iconst (v := (4 : Int32)) hx hb dX12_init_177 (by decide) ?_
  refine wb_newa (atype := .int) (ty := .int) (cT := cI) (N' := 4) hx hb (hts (.arrayClass .int) (List.mem_of_getElem? (i := 4) rfl)) rfl hK hP hD hS hA 1 rfl wb_raI (fun _ => rfl) (by decide +kernel) (by decide +kernel) (by decide +kernel) (Nat.le_of_ble_eq_true rfl) (Nat.le_of_ble_eq_true rfl) dX12_init_178 (fun q178 H hP hD hS => ?_)
  refine va_putF (D := D) (ci := 12) (v := .ref q178) (ty := (.array .int)) (C := RX12) (T := TX12) (N := 58) hx hb hts hinX12 tyX12 tyX12_ok nmX12 hown hK hP hD hS 0 rfl rfl 39 (by decide) (hts (.fieldLink RX12 77 "WheelBookModel" "shared" "[I") (List.mem_of_getElem? (i := 27) rfl)) (fun _ h9 => h9) rfl hin0 rfl (by decide +kernel) rfl rfl (Nat.le_of_ble_eq_true rfl) dX12_init_180 (fun H locs hP hD hS => ?_)
  have hP : va_P D vwCl ([(h0, .inr (12, [.int 0, .ref q7, .ref q15, .ref q23, .ref q31, .int 0, .int 0, .ref q39, .ref q47, .ref q55, .ref q64, .ref q73, .int 0, .int 0, .int (-1 : Int32), .int 0, .int 0, .int 0, .int 0, .int 0, .int 0, .long 0, .int 0, .int 0, .int 0, .ref q86, .ref q94, .ref q102, .ref q110, .ref q118, .ref q126, .ref q134, .ref q142, .int (-1 : Int32), .ref q155, .int 0, .int 0, .ref q163, .ref q171, .ref q178, .null, .null, .int 0, .null, .null, .null, .null, .null, .null, .null, .null, .null, .null, .null, .null, .int 0, .null, .null])), (q7, .inl (cI, 28, .inl (fun _ => (0 : Int32)))), (q15, .inl (cI, 28, .inl (fun _ => (0 : Int32)))), (q23, .inl (cI, 28, .inl (fun _ => (0 : Int32)))), (q31, .inl (cI, 28, .inl (fun _ => (0 : Int32)))), (q39, .inl (cI, 84, .inl (fun _ => (0 : Int32)))), (q47, .inl (cI, 30, .inl (fun _ => (0 : Int32)))), (q55, .inl (cI, 30, .inl (fun _ => (0 : Int32)))), (q64, .inl (cI, 2640, .inl (fun _ => (0 : Int32)))), (q73, .inl (cI, 600, .inl (fun _ => (0 : Int32)))), (q86, .inl (cI, 28, .inl (fun _ => (0 : Int32)))), (q94, .inl (cI, 28, .inl (fun _ => (0 : Int32)))), (q102, .inl (cI, 28, .inl (fun _ => (0 : Int32)))), (q110, .inl (cI, 28, .inl (fun _ => (0 : Int32)))), (q118, .inl (cI, 84, .inl (fun _ => (0 : Int32)))), (q126, .inl (cI, 30, .inl (fun _ => (0 : Int32)))), (q134, .inl (cI, 30, .inl (fun _ => (0 : Int32)))), (q142, .inl (cI, 22, .inl (fun _ => (0 : Int32)))), (q155, .inl (cI, 20, .inl (fun _ => (0 : Int32)))), (q163, .inl (cI, 7, .inl (fun _ => (0 : Int32)))), (q171, .inl (cI, 7, .inl (fun _ => (0 : Int32)))), (q178, .inl (cI, 4, .inl (fun _ => (0 : Int32))))] : va_W) H := hP
  refine lv_aload_n hx hb dX12_init_183 rfl (lv_at hl 0 rfl) ?_
  refine lv_iconst (v := (4 : Int32)) hx hb dX12_init_184 (by decide) ?_
  refine wb_newa (atype := .int) (ty := .int) (cT := cI) (N' := 4) hx hb (hts (.arrayClass .int) (List.mem_of_getElem? (i := 4) rfl)) rfl hK hP hD hS hA 1 rfl wb_raI (fun _ => rfl) (by decide +kernel) (by decide +kernel) (by decide +kernel) (Nat.le_of_ble_eq_true rfl) (Nat.le_of_ble_eq_true rfl) dX12_init_185 (fun q185 H hP hD hS => ?_)
  refine va_putF (D := D) (ci := 12) (v := .ref q185) (ty := (.array .int)) (C := RX12) (T := TX12) (N := 58) hx hb hts hinX12 tyX12 tyX12_ok nmX12 hown hK hP hD hS 0 rfl rfl 40 (by decide) (hts (.fieldLink RX12 80 "WheelBookModel" "alone" "[I") (List.mem_of_getElem? (i := 28) rfl)) (fun _ h9 => h9) rfl hin0 rfl (by decide +kernel) rfl rfl (Nat.le_of_ble_eq_true rfl) dX12_init_187 (fun H locs hP hD hS => ?_)
  have hP : va_P D vwCl ([(h0, .inr (12, [.int 0, .ref q7, .ref q15, .ref q23, .ref q31, .int 0, .int 0, .ref q39, .ref q47, .ref q55, .ref q64, .ref q73, .int 0, .int 0, .int (-1 : Int32), .int 0, .int 0, .int 0, .int 0, .int 0, .int 0, .long 0, .int 0, .int 0, .int 0, .ref q86, .ref q94, .ref q102, .ref q110, .ref q118, .ref q126, .ref q134, .ref q142, .int (-1 : Int32), .ref q155, .int 0, .int 0, .ref q163, .ref q171, .ref q178, .ref q185, .null, .int 0, .null, .null, .null, .null, .null, .null, .null, .null, .null, .null, .null, .null, .int 0, .null, .null])), (q7, .inl (cI, 28, .inl (fun _ => (0 : Int32)))), (q15, .inl (cI, 28, .inl (fun _ => (0 : Int32)))), (q23, .inl (cI, 28, .inl (fun _ => (0 : Int32)))), (q31, .inl (cI, 28, .inl (fun _ => (0 : Int32)))), (q39, .inl (cI, 84, .inl (fun _ => (0 : Int32)))), (q47, .inl (cI, 30, .inl (fun _ => (0 : Int32)))), (q55, .inl (cI, 30, .inl (fun _ => (0 : Int32)))), (q64, .inl (cI, 2640, .inl (fun _ => (0 : Int32)))), (q73, .inl (cI, 600, .inl (fun _ => (0 : Int32)))), (q86, .inl (cI, 28, .inl (fun _ => (0 : Int32)))), (q94, .inl (cI, 28, .inl (fun _ => (0 : Int32)))), (q102, .inl (cI, 28, .inl (fun _ => (0 : Int32)))), (q110, .inl (cI, 28, .inl (fun _ => (0 : Int32)))), (q118, .inl (cI, 84, .inl (fun _ => (0 : Int32)))), (q126, .inl (cI, 30, .inl (fun _ => (0 : Int32)))), (q134, .inl (cI, 30, .inl (fun _ => (0 : Int32)))), (q142, .inl (cI, 22, .inl (fun _ => (0 : Int32)))), (q155, .inl (cI, 20, .inl (fun _ => (0 : Int32)))), (q163, .inl (cI, 7, .inl (fun _ => (0 : Int32)))), (q171, .inl (cI, 7, .inl (fun _ => (0 : Int32)))), (q178, .inl (cI, 4, .inl (fun _ => (0 : Int32)))), (q185, .inl (cI, 4, .inl (fun _ => (0 : Int32))))] : va_W) H := hP
  refine lv_aload_n hx hb dX12_init_190 rfl (lv_at hl 0 rfl) ?_
  refine lv_iconst (v := (4 : Int32)) hx hb dX12_init_191 (by decide) ?_
  refine wb_newa (atype := .int) (ty := .int) (cT := cI) (N' := 4) hx hb (hts (.arrayClass .int) (List.mem_of_getElem? (i := 4) rfl)) rfl hK hP hD hS hA 1 rfl wb_raI (fun _ => rfl) (by decide +kernel) (by decide +kernel) (by decide +kernel) (Nat.le_of_ble_eq_true rfl) (Nat.le_of_ble_eq_true rfl) dX12_init_192 (fun q192 H hP hD hS => ?_)
  refine va_putF (D := D) (ci := 12) (v := .ref q192) (ty := (.array .int)) (C := RX12) (T := TX12) (N := 58) hx hb hts hinX12 tyX12 tyX12_ok nmX12 hown hK hP hD hS 0 rfl rfl 41 (by decide) (hts (.fieldLink RX12 83 "WheelBookModel" "weigh" "[I") (List.mem_of_getElem? (i := 29) rfl)) (fun _ h9 => h9) rfl hin0 rfl (by decide +kernel) rfl rfl (Nat.le_of_ble_eq_true rfl) dX12_init_194 (fun H locs hP hD hS => ?_)
  have hP : va_P D vwCl ([(h0, .inr (12, [.int 0, .ref q7, .ref q15, .ref q23, .ref q31, .int 0, .int 0, .ref q39, .ref q47, .ref q55, .ref q64, .ref q73, .int 0, .int 0, .int (-1 : Int32), .int 0, .int 0, .int 0, .int 0, .int 0, .int 0, .long 0, .int 0, .int 0, .int 0, .ref q86, .ref q94, .ref q102, .ref q110, .ref q118, .ref q126, .ref q134, .ref q142, .int (-1 : Int32), .ref q155, .int 0, .int 0, .ref q163, .ref q171, .ref q178, .ref q185, .ref q192, .int 0, .null, .null, .null, .null, .null, .null, .null, .null, .null, .null, .null, .null, .int 0, .null, .null])), (q7, .inl (cI, 28, .inl (fun _ => (0 : Int32)))), (q15, .inl (cI, 28, .inl (fun _ => (0 : Int32)))), (q23, .inl (cI, 28, .inl (fun _ => (0 : Int32)))), (q31, .inl (cI, 28, .inl (fun _ => (0 : Int32)))), (q39, .inl (cI, 84, .inl (fun _ => (0 : Int32)))), (q47, .inl (cI, 30, .inl (fun _ => (0 : Int32)))), (q55, .inl (cI, 30, .inl (fun _ => (0 : Int32)))), (q64, .inl (cI, 2640, .inl (fun _ => (0 : Int32)))), (q73, .inl (cI, 600, .inl (fun _ => (0 : Int32)))), (q86, .inl (cI, 28, .inl (fun _ => (0 : Int32)))), (q94, .inl (cI, 28, .inl (fun _ => (0 : Int32)))), (q102, .inl (cI, 28, .inl (fun _ => (0 : Int32)))), (q110, .inl (cI, 28, .inl (fun _ => (0 : Int32)))), (q118, .inl (cI, 84, .inl (fun _ => (0 : Int32)))), (q126, .inl (cI, 30, .inl (fun _ => (0 : Int32)))), (q134, .inl (cI, 30, .inl (fun _ => (0 : Int32)))), (q142, .inl (cI, 22, .inl (fun _ => (0 : Int32)))), (q155, .inl (cI, 20, .inl (fun _ => (0 : Int32)))), (q163, .inl (cI, 7, .inl (fun _ => (0 : Int32)))), (q171, .inl (cI, 7, .inl (fun _ => (0 : Int32)))), (q178, .inl (cI, 4, .inl (fun _ => (0 : Int32)))), (q185, .inl (cI, 4, .inl (fun _ => (0 : Int32)))), (q192, .inl (cI, 4, .inl (fun _ => (0 : Int32))))] : va_W) H := hP
  refine lv_aload_n hx hb dX12_init_197 rfl (lv_at hl 0 rfl) ?_
  refine lv_bipush (v := (6 : Int32)) hx hb dX12_init_198 (by decide) ?_
  refine wb_newa (atype := .int) (ty := .int) (cT := cI) (N' := 6) hx hb (hts (.arrayClass .int) (List.mem_of_getElem? (i := 4) rfl)) rfl hK hP hD hS hA 1 rfl wb_raI (fun _ => rfl) (by decide +kernel) (by decide +kernel) (by decide +kernel) (Nat.le_of_ble_eq_true rfl) (Nat.le_of_ble_eq_true rfl) dX12_init_200 (fun q200 H hP hD hS => ?_)
  refine va_putF (D := D) (ci := 12) (v := .ref q200) (ty := (.array .int)) (C := RX12) (T := TX12) (N := 58) hx hb hts hinX12 tyX12 tyX12_ok nmX12 hown hK hP hD hS 0 rfl rfl 43 (by decide) (hts (.fieldLink RX12 86 "WheelBookModel" "whence" "[I") (List.mem_of_getElem? (i := 30) rfl)) (fun _ h9 => h9) rfl hin0 rfl (by decide +kernel) rfl rfl (Nat.le_of_ble_eq_true rfl) dX12_init_202 (fun H locs hP hD hS => ?_)
  have hP : va_P D vwCl ([(h0, .inr (12, [.int 0, .ref q7, .ref q15, .ref q23, .ref q31, .int 0, .int 0, .ref q39, .ref q47, .ref q55, .ref q64, .ref q73, .int 0, .int 0, .int (-1 : Int32), .int 0, .int 0, .int 0, .int 0, .int 0, .int 0, .long 0, .int 0, .int 0, .int 0, .ref q86, .ref q94, .ref q102, .ref q110, .ref q118, .ref q126, .ref q134, .ref q142, .int (-1 : Int32), .ref q155, .int 0, .int 0, .ref q163, .ref q171, .ref q178, .ref q185, .ref q192, .int 0, .ref q200, .null, .null, .null, .null, .null, .null, .null, .null, .null, .null, .null, .int 0, .null, .null])), (q7, .inl (cI, 28, .inl (fun _ => (0 : Int32)))), (q15, .inl (cI, 28, .inl (fun _ => (0 : Int32)))), (q23, .inl (cI, 28, .inl (fun _ => (0 : Int32)))), (q31, .inl (cI, 28, .inl (fun _ => (0 : Int32)))), (q39, .inl (cI, 84, .inl (fun _ => (0 : Int32)))), (q47, .inl (cI, 30, .inl (fun _ => (0 : Int32)))), (q55, .inl (cI, 30, .inl (fun _ => (0 : Int32)))), (q64, .inl (cI, 2640, .inl (fun _ => (0 : Int32)))), (q73, .inl (cI, 600, .inl (fun _ => (0 : Int32)))), (q86, .inl (cI, 28, .inl (fun _ => (0 : Int32)))), (q94, .inl (cI, 28, .inl (fun _ => (0 : Int32)))), (q102, .inl (cI, 28, .inl (fun _ => (0 : Int32)))), (q110, .inl (cI, 28, .inl (fun _ => (0 : Int32)))), (q118, .inl (cI, 84, .inl (fun _ => (0 : Int32)))), (q126, .inl (cI, 30, .inl (fun _ => (0 : Int32)))), (q134, .inl (cI, 30, .inl (fun _ => (0 : Int32)))), (q142, .inl (cI, 22, .inl (fun _ => (0 : Int32)))), (q155, .inl (cI, 20, .inl (fun _ => (0 : Int32)))), (q163, .inl (cI, 7, .inl (fun _ => (0 : Int32)))), (q171, .inl (cI, 7, .inl (fun _ => (0 : Int32)))), (q178, .inl (cI, 4, .inl (fun _ => (0 : Int32)))), (q185, .inl (cI, 4, .inl (fun _ => (0 : Int32)))), (q192, .inl (cI, 4, .inl (fun _ => (0 : Int32)))), (q200, .inl (cI, 6, .inl (fun _ => (0 : Int32))))] : va_W) H := hP
  refine lv_aload_n hx hb dX12_init_205 rfl (lv_at hl 0 rfl) ?_
  refine lv_bipush (v := (6 : Int32)) hx hb dX12_init_206 (by decide) ?_
  refine wb_newa (atype := .int) (ty := .int) (cT := cI) (N' := 6) hx hb (hts (.arrayClass .int) (List.mem_of_getElem? (i := 4) rfl)) rfl hK hP hD hS hA 1 rfl wb_raI (fun _ => rfl) (by decide +kernel) (by decide +kernel) (by decide +kernel) (Nat.le_of_ble_eq_true rfl) (Nat.le_of_ble_eq_true rfl) dX12_init_208 (fun q208 H hP hD hS => ?_)
  refine va_putF (D := D) (ci := 12) (v := .ref q208) (ty := (.array .int)) (C := RX12) (T := TX12) (N := 58) hx hb hts hinX12 tyX12 tyX12_ok nmX12 hown hK hP hD hS 0 rfl rfl 44 (by decide) (hts (.fieldLink RX12 89 "WheelBookModel" "row" "[I") (List.mem_of_getElem? (i := 31) rfl)) (fun _ h9 => h9) rfl hin0 rfl (by decide +kernel) rfl rfl (Nat.le_of_ble_eq_true rfl) dX12_init_210 (fun H locs hP hD hS => ?_)
  have hP : va_P D vwCl ([(h0, .inr (12, [.int 0, .ref q7, .ref q15, .ref q23, .ref q31, .int 0, .int 0, .ref q39, .ref q47, .ref q55, .ref q64, .ref q73, .int 0, .int 0, .int (-1 : Int32), .int 0, .int 0, .int 0, .int 0, .int 0, .int 0, .long 0, .int 0, .int 0, .int 0, .ref q86, .ref q94, .ref q102, .ref q110, .ref q118, .ref q126, .ref q134, .ref q142, .int (-1 : Int32), .ref q155, .int 0, .int 0, .ref q163, .ref q171, .ref q178, .ref q185, .ref q192, .int 0, .ref q200, .ref q208, .null, .null, .null, .null, .null, .null, .null, .null, .null, .null, .int 0, .null, .null])), (q7, .inl (cI, 28, .inl (fun _ => (0 : Int32)))), (q15, .inl (cI, 28, .inl (fun _ => (0 : Int32)))), (q23, .inl (cI, 28, .inl (fun _ => (0 : Int32)))), (q31, .inl (cI, 28, .inl (fun _ => (0 : Int32)))), (q39, .inl (cI, 84, .inl (fun _ => (0 : Int32)))), (q47, .inl (cI, 30, .inl (fun _ => (0 : Int32)))), (q55, .inl (cI, 30, .inl (fun _ => (0 : Int32)))), (q64, .inl (cI, 2640, .inl (fun _ => (0 : Int32)))), (q73, .inl (cI, 600, .inl (fun _ => (0 : Int32)))), (q86, .inl (cI, 28, .inl (fun _ => (0 : Int32)))), (q94, .inl (cI, 28, .inl (fun _ => (0 : Int32)))), (q102, .inl (cI, 28, .inl (fun _ => (0 : Int32)))), (q110, .inl (cI, 28, .inl (fun _ => (0 : Int32)))), (q118, .inl (cI, 84, .inl (fun _ => (0 : Int32)))), (q126, .inl (cI, 30, .inl (fun _ => (0 : Int32)))), (q134, .inl (cI, 30, .inl (fun _ => (0 : Int32)))), (q142, .inl (cI, 22, .inl (fun _ => (0 : Int32)))), (q155, .inl (cI, 20, .inl (fun _ => (0 : Int32)))), (q163, .inl (cI, 7, .inl (fun _ => (0 : Int32)))), (q171, .inl (cI, 7, .inl (fun _ => (0 : Int32)))), (q178, .inl (cI, 4, .inl (fun _ => (0 : Int32)))), (q185, .inl (cI, 4, .inl (fun _ => (0 : Int32)))), (q192, .inl (cI, 4, .inl (fun _ => (0 : Int32)))), (q200, .inl (cI, 6, .inl (fun _ => (0 : Int32)))), (q208, .inl (cI, 6, .inl (fun _ => (0 : Int32))))] : va_W) H := hP
  refine lv_aload_n hx hb dX12_init_213 rfl (lv_at hl 0 rfl) ?_
  refine lv_bipush (v := (36 : Int32)) hx hb dX12_init_214 (by decide) ?_
  refine wb_newa (atype := .int) (ty := .int) (cT := cI) (N' := 36) hx hb (hts (.arrayClass .int) (List.mem_of_getElem? (i := 4) rfl)) rfl hK hP hD hS hA 1 rfl wb_raI (fun _ => rfl) (by decide +kernel) (by decide +kernel) (by decide +kernel) (Nat.le_of_ble_eq_true rfl) (Nat.le_of_ble_eq_true rfl) dX12_init_216 (fun q216 H hP hD hS => ?_)
  refine va_putF (D := D) (ci := 12) (v := .ref q216) (ty := (.array .int)) (C := RX12) (T := TX12) (N := 58) hx hb hts hinX12 tyX12 tyX12_ok nmX12 hown hK hP hD hS 0 rfl rfl 45 (by decide) (hts (.fieldLink RX12 92 "WheelBookModel" "prices" "[I") (List.mem_of_getElem? (i := 32) rfl)) (fun _ h9 => h9) rfl hin0 rfl (by decide +kernel) rfl rfl (Nat.le_of_ble_eq_true rfl) dX12_init_218 (fun H locs hP hD hS => ?_)
  have hP : va_P D vwCl ([(h0, .inr (12, [.int 0, .ref q7, .ref q15, .ref q23, .ref q31, .int 0, .int 0, .ref q39, .ref q47, .ref q55, .ref q64, .ref q73, .int 0, .int 0, .int (-1 : Int32), .int 0, .int 0, .int 0, .int 0, .int 0, .int 0, .long 0, .int 0, .int 0, .int 0, .ref q86, .ref q94, .ref q102, .ref q110, .ref q118, .ref q126, .ref q134, .ref q142, .int (-1 : Int32), .ref q155, .int 0, .int 0, .ref q163, .ref q171, .ref q178, .ref q185, .ref q192, .int 0, .ref q200, .ref q208, .ref q216, .null, .null, .null, .null, .null, .null, .null, .null, .null, .int 0, .null, .null])), (q7, .inl (cI, 28, .inl (fun _ => (0 : Int32)))), (q15, .inl (cI, 28, .inl (fun _ => (0 : Int32)))), (q23, .inl (cI, 28, .inl (fun _ => (0 : Int32)))), (q31, .inl (cI, 28, .inl (fun _ => (0 : Int32)))), (q39, .inl (cI, 84, .inl (fun _ => (0 : Int32)))), (q47, .inl (cI, 30, .inl (fun _ => (0 : Int32)))), (q55, .inl (cI, 30, .inl (fun _ => (0 : Int32)))), (q64, .inl (cI, 2640, .inl (fun _ => (0 : Int32)))), (q73, .inl (cI, 600, .inl (fun _ => (0 : Int32)))), (q86, .inl (cI, 28, .inl (fun _ => (0 : Int32)))), (q94, .inl (cI, 28, .inl (fun _ => (0 : Int32)))), (q102, .inl (cI, 28, .inl (fun _ => (0 : Int32)))), (q110, .inl (cI, 28, .inl (fun _ => (0 : Int32)))), (q118, .inl (cI, 84, .inl (fun _ => (0 : Int32)))), (q126, .inl (cI, 30, .inl (fun _ => (0 : Int32)))), (q134, .inl (cI, 30, .inl (fun _ => (0 : Int32)))), (q142, .inl (cI, 22, .inl (fun _ => (0 : Int32)))), (q155, .inl (cI, 20, .inl (fun _ => (0 : Int32)))), (q163, .inl (cI, 7, .inl (fun _ => (0 : Int32)))), (q171, .inl (cI, 7, .inl (fun _ => (0 : Int32)))), (q178, .inl (cI, 4, .inl (fun _ => (0 : Int32)))), (q185, .inl (cI, 4, .inl (fun _ => (0 : Int32)))), (q192, .inl (cI, 4, .inl (fun _ => (0 : Int32)))), (q200, .inl (cI, 6, .inl (fun _ => (0 : Int32)))), (q208, .inl (cI, 6, .inl (fun _ => (0 : Int32)))), (q216, .inl (cI, 36, .inl (fun _ => (0 : Int32))))] : va_W) H := hP
  refine lv_aload_n hx hb dX12_init_221 rfl (lv_at hl 0 rfl) ?_
  refine lv_bipush (v := (6 : Int32)) hx hb dX12_init_222 (by decide) ?_
  refine wb_newa (atype := .boolean) (ty := .boolean) (cT := cZ) (N' := 6) hx hb (hts (.arrayClass .boolean) (List.mem_of_getElem? (i := 33) rfl)) rfl hK hP hD hS hA 2 rfl wb_raZ (fun _ => rfl) (by decide +kernel) (by decide +kernel) (by decide +kernel) (Nat.le_of_ble_eq_true rfl) (Nat.le_of_ble_eq_true rfl) dX12_init_224 (fun q224 H hP hD hS => ?_)
  refine va_putF (D := D) (ci := 12) (v := .ref q224) (ty := (.array .boolean)) (C := RX12) (T := TX12) (N := 58) hx hb hts hinX12 tyX12 tyX12_ok nmX12 hown hK hP hD hS 0 rfl rfl 46 (by decide) (hts (.fieldLink RX12 95 "WheelBookModel" "inTree" "[Z") (List.mem_of_getElem? (i := 34) rfl)) (fun _ h9 => h9) rfl hin0 rfl (by decide +kernel) rfl rfl (Nat.le_of_ble_eq_true rfl) dX12_init_226 (fun H locs hP hD hS => ?_)
  have hP : va_P D vwCl ([(h0, .inr (12, [.int 0, .ref q7, .ref q15, .ref q23, .ref q31, .int 0, .int 0, .ref q39, .ref q47, .ref q55, .ref q64, .ref q73, .int 0, .int 0, .int (-1 : Int32), .int 0, .int 0, .int 0, .int 0, .int 0, .int 0, .long 0, .int 0, .int 0, .int 0, .ref q86, .ref q94, .ref q102, .ref q110, .ref q118, .ref q126, .ref q134, .ref q142, .int (-1 : Int32), .ref q155, .int 0, .int 0, .ref q163, .ref q171, .ref q178, .ref q185, .ref q192, .int 0, .ref q200, .ref q208, .ref q216, .ref q224, .null, .null, .null, .null, .null, .null, .null, .null, .int 0, .null, .null])), (q7, .inl (cI, 28, .inl (fun _ => (0 : Int32)))), (q15, .inl (cI, 28, .inl (fun _ => (0 : Int32)))), (q23, .inl (cI, 28, .inl (fun _ => (0 : Int32)))), (q31, .inl (cI, 28, .inl (fun _ => (0 : Int32)))), (q39, .inl (cI, 84, .inl (fun _ => (0 : Int32)))), (q47, .inl (cI, 30, .inl (fun _ => (0 : Int32)))), (q55, .inl (cI, 30, .inl (fun _ => (0 : Int32)))), (q64, .inl (cI, 2640, .inl (fun _ => (0 : Int32)))), (q73, .inl (cI, 600, .inl (fun _ => (0 : Int32)))), (q86, .inl (cI, 28, .inl (fun _ => (0 : Int32)))), (q94, .inl (cI, 28, .inl (fun _ => (0 : Int32)))), (q102, .inl (cI, 28, .inl (fun _ => (0 : Int32)))), (q110, .inl (cI, 28, .inl (fun _ => (0 : Int32)))), (q118, .inl (cI, 84, .inl (fun _ => (0 : Int32)))), (q126, .inl (cI, 30, .inl (fun _ => (0 : Int32)))), (q134, .inl (cI, 30, .inl (fun _ => (0 : Int32)))), (q142, .inl (cI, 22, .inl (fun _ => (0 : Int32)))), (q155, .inl (cI, 20, .inl (fun _ => (0 : Int32)))), (q163, .inl (cI, 7, .inl (fun _ => (0 : Int32)))), (q171, .inl (cI, 7, .inl (fun _ => (0 : Int32)))), (q178, .inl (cI, 4, .inl (fun _ => (0 : Int32)))), (q185, .inl (cI, 4, .inl (fun _ => (0 : Int32)))), (q192, .inl (cI, 4, .inl (fun _ => (0 : Int32)))), (q200, .inl (cI, 6, .inl (fun _ => (0 : Int32)))), (q208, .inl (cI, 6, .inl (fun _ => (0 : Int32)))), (q216, .inl (cI, 36, .inl (fun _ => (0 : Int32)))), (q224, .inl (cZ, 6, .inl (fun _ => (0 : Int32))))] : va_W) H := hP
  refine lv_aload_n hx hb dX12_init_229 rfl (lv_at hl 0 rfl) ?_
  refine lv_bipush (v := (6 : Int32)) hx hb dX12_init_230 (by decide) ?_
  refine wb_newa (atype := .int) (ty := .int) (cT := cI) (N' := 6) hx hb (hts (.arrayClass .int) (List.mem_of_getElem? (i := 4) rfl)) rfl hK hP hD hS hA 1 rfl wb_raI (fun _ => rfl) (by decide +kernel) (by decide +kernel) (by decide +kernel) (Nat.le_of_ble_eq_true rfl) (Nat.le_of_ble_eq_true rfl) dX12_init_232 (fun q232 H hP hD hS => ?_)
  refine va_putF (D := D) (ci := 12) (v := .ref q232) (ty := (.array .int)) (C := RX12) (T := TX12) (N := 58) hx hb hts hinX12 tyX12 tyX12_ok nmX12 hown hK hP hD hS 0 rfl rfl 47 (by decide) (hts (.fieldLink RX12 99 "WheelBookModel" "leaves" "[I") (List.mem_of_getElem? (i := 35) rfl)) (fun _ h9 => h9) rfl hin0 rfl (by decide +kernel) rfl rfl (Nat.le_of_ble_eq_true rfl) dX12_init_234 (fun H locs hP hD hS => ?_)
  have hP : va_P D vwCl ([(h0, .inr (12, [.int 0, .ref q7, .ref q15, .ref q23, .ref q31, .int 0, .int 0, .ref q39, .ref q47, .ref q55, .ref q64, .ref q73, .int 0, .int 0, .int (-1 : Int32), .int 0, .int 0, .int 0, .int 0, .int 0, .int 0, .long 0, .int 0, .int 0, .int 0, .ref q86, .ref q94, .ref q102, .ref q110, .ref q118, .ref q126, .ref q134, .ref q142, .int (-1 : Int32), .ref q155, .int 0, .int 0, .ref q163, .ref q171, .ref q178, .ref q185, .ref q192, .int 0, .ref q200, .ref q208, .ref q216, .ref q224, .ref q232, .null, .null, .null, .null, .null, .null, .null, .int 0, .null, .null])), (q7, .inl (cI, 28, .inl (fun _ => (0 : Int32)))), (q15, .inl (cI, 28, .inl (fun _ => (0 : Int32)))), (q23, .inl (cI, 28, .inl (fun _ => (0 : Int32)))), (q31, .inl (cI, 28, .inl (fun _ => (0 : Int32)))), (q39, .inl (cI, 84, .inl (fun _ => (0 : Int32)))), (q47, .inl (cI, 30, .inl (fun _ => (0 : Int32)))), (q55, .inl (cI, 30, .inl (fun _ => (0 : Int32)))), (q64, .inl (cI, 2640, .inl (fun _ => (0 : Int32)))), (q73, .inl (cI, 600, .inl (fun _ => (0 : Int32)))), (q86, .inl (cI, 28, .inl (fun _ => (0 : Int32)))), (q94, .inl (cI, 28, .inl (fun _ => (0 : Int32)))), (q102, .inl (cI, 28, .inl (fun _ => (0 : Int32)))), (q110, .inl (cI, 28, .inl (fun _ => (0 : Int32)))), (q118, .inl (cI, 84, .inl (fun _ => (0 : Int32)))), (q126, .inl (cI, 30, .inl (fun _ => (0 : Int32)))), (q134, .inl (cI, 30, .inl (fun _ => (0 : Int32)))), (q142, .inl (cI, 22, .inl (fun _ => (0 : Int32)))), (q155, .inl (cI, 20, .inl (fun _ => (0 : Int32)))), (q163, .inl (cI, 7, .inl (fun _ => (0 : Int32)))), (q171, .inl (cI, 7, .inl (fun _ => (0 : Int32)))), (q178, .inl (cI, 4, .inl (fun _ => (0 : Int32)))), (q185, .inl (cI, 4, .inl (fun _ => (0 : Int32)))), (q192, .inl (cI, 4, .inl (fun _ => (0 : Int32)))), (q200, .inl (cI, 6, .inl (fun _ => (0 : Int32)))), (q208, .inl (cI, 6, .inl (fun _ => (0 : Int32)))), (q216, .inl (cI, 36, .inl (fun _ => (0 : Int32)))), (q224, .inl (cZ, 6, .inl (fun _ => (0 : Int32)))), (q232, .inl (cI, 6, .inl (fun _ => (0 : Int32))))] : va_W) H := hP
  refine lv_aload_n hx hb dX12_init_237 rfl (lv_at hl 0 rfl) ?_
  refine lv_bipush (v := (120 : Int32)) hx hb dX12_init_238 (by decide) ?_
  refine wb_newa (atype := .int) (ty := .int) (cT := cI) (N' := 120) hx hb (hts (.arrayClass .int) (List.mem_of_getElem? (i := 4) rfl)) rfl hK hP hD hS hA 1 rfl wb_raI (fun _ => rfl) (by decide +kernel) (by decide +kernel) (by decide +kernel) (Nat.le_of_ble_eq_true rfl) (Nat.le_of_ble_eq_true rfl) dX12_init_240 (fun q240 H hP hD hS => ?_)
  refine va_putF (D := D) (ci := 12) (v := .ref q240) (ty := (.array .int)) (C := RX12) (T := TX12) (N := 58) hx hb hts hinX12 tyX12 tyX12_ok nmX12 hown hK hP hD hS 0 rfl rfl 48 (by decide) (hts (.fieldLink RX12 102 "WheelBookModel" "leaf" "[I") (List.mem_of_getElem? (i := 36) rfl)) (fun _ h9 => h9) rfl hin0 rfl (by decide +kernel) rfl rfl (Nat.le_of_ble_eq_true rfl) dX12_init_242 (fun H locs hP hD hS => ?_)
  have hP : va_P D vwCl ([(h0, .inr (12, [.int 0, .ref q7, .ref q15, .ref q23, .ref q31, .int 0, .int 0, .ref q39, .ref q47, .ref q55, .ref q64, .ref q73, .int 0, .int 0, .int (-1 : Int32), .int 0, .int 0, .int 0, .int 0, .int 0, .int 0, .long 0, .int 0, .int 0, .int 0, .ref q86, .ref q94, .ref q102, .ref q110, .ref q118, .ref q126, .ref q134, .ref q142, .int (-1 : Int32), .ref q155, .int 0, .int 0, .ref q163, .ref q171, .ref q178, .ref q185, .ref q192, .int 0, .ref q200, .ref q208, .ref q216, .ref q224, .ref q232, .ref q240, .null, .null, .null, .null, .null, .null, .int 0, .null, .null])), (q7, .inl (cI, 28, .inl (fun _ => (0 : Int32)))), (q15, .inl (cI, 28, .inl (fun _ => (0 : Int32)))), (q23, .inl (cI, 28, .inl (fun _ => (0 : Int32)))), (q31, .inl (cI, 28, .inl (fun _ => (0 : Int32)))), (q39, .inl (cI, 84, .inl (fun _ => (0 : Int32)))), (q47, .inl (cI, 30, .inl (fun _ => (0 : Int32)))), (q55, .inl (cI, 30, .inl (fun _ => (0 : Int32)))), (q64, .inl (cI, 2640, .inl (fun _ => (0 : Int32)))), (q73, .inl (cI, 600, .inl (fun _ => (0 : Int32)))), (q86, .inl (cI, 28, .inl (fun _ => (0 : Int32)))), (q94, .inl (cI, 28, .inl (fun _ => (0 : Int32)))), (q102, .inl (cI, 28, .inl (fun _ => (0 : Int32)))), (q110, .inl (cI, 28, .inl (fun _ => (0 : Int32)))), (q118, .inl (cI, 84, .inl (fun _ => (0 : Int32)))), (q126, .inl (cI, 30, .inl (fun _ => (0 : Int32)))), (q134, .inl (cI, 30, .inl (fun _ => (0 : Int32)))), (q142, .inl (cI, 22, .inl (fun _ => (0 : Int32)))), (q155, .inl (cI, 20, .inl (fun _ => (0 : Int32)))), (q163, .inl (cI, 7, .inl (fun _ => (0 : Int32)))), (q171, .inl (cI, 7, .inl (fun _ => (0 : Int32)))), (q178, .inl (cI, 4, .inl (fun _ => (0 : Int32)))), (q185, .inl (cI, 4, .inl (fun _ => (0 : Int32)))), (q192, .inl (cI, 4, .inl (fun _ => (0 : Int32)))), (q200, .inl (cI, 6, .inl (fun _ => (0 : Int32)))), (q208, .inl (cI, 6, .inl (fun _ => (0 : Int32)))), (q216, .inl (cI, 36, .inl (fun _ => (0 : Int32)))), (q224, .inl (cZ, 6, .inl (fun _ => (0 : Int32)))), (q232, .inl (cI, 6, .inl (fun _ => (0 : Int32)))), (q240, .inl (cI, 120, .inl (fun _ => (0 : Int32))))] : va_W) H := hP
  refine lv_aload_n hx hb dX12_init_245 rfl (lv_at hl 0 rfl) ?_
  refine lv_bipush (v := (20 : Int32)) hx hb dX12_init_246 (by decide) ?_
  refine wb_newa (atype := .int) (ty := .int) (cT := cI) (N' := 20) hx hb (hts (.arrayClass .int) (List.mem_of_getElem? (i := 4) rfl)) rfl hK hP hD hS hA 1 rfl wb_raI (fun _ => rfl) (by decide +kernel) (by decide +kernel) (by decide +kernel) (Nat.le_of_ble_eq_true rfl) (Nat.le_of_ble_eq_true rfl) dX12_init_248 (fun q248 H hP hD hS => ?_)
  refine va_putF (D := D) (ci := 12) (v := .ref q248) (ty := (.array .int)) (C := RX12) (T := TX12) (N := 58) hx hb hts hinX12 tyX12 tyX12_ok nmX12 hown hK hP hD hS 0 rfl rfl 49 (by decide) (hts (.fieldLink RX12 105 "WheelBookModel" "inOther" "[I") (List.mem_of_getElem? (i := 37) rfl)) (fun _ h9 => h9) rfl hin0 rfl (by decide +kernel) rfl rfl (Nat.le_of_ble_eq_true rfl) dX12_init_250 (fun H locs hP hD hS => ?_)
  have hP : va_P D vwCl ([(h0, .inr (12, [.int 0, .ref q7, .ref q15, .ref q23, .ref q31, .int 0, .int 0, .ref q39, .ref q47, .ref q55, .ref q64, .ref q73, .int 0, .int 0, .int (-1 : Int32), .int 0, .int 0, .int 0, .int 0, .int 0, .int 0, .long 0, .int 0, .int 0, .int 0, .ref q86, .ref q94, .ref q102, .ref q110, .ref q118, .ref q126, .ref q134, .ref q142, .int (-1 : Int32), .ref q155, .int 0, .int 0, .ref q163, .ref q171, .ref q178, .ref q185, .ref q192, .int 0, .ref q200, .ref q208, .ref q216, .ref q224, .ref q232, .ref q240, .ref q248, .null, .null, .null, .null, .null, .int 0, .null, .null])), (q7, .inl (cI, 28, .inl (fun _ => (0 : Int32)))), (q15, .inl (cI, 28, .inl (fun _ => (0 : Int32)))), (q23, .inl (cI, 28, .inl (fun _ => (0 : Int32)))), (q31, .inl (cI, 28, .inl (fun _ => (0 : Int32)))), (q39, .inl (cI, 84, .inl (fun _ => (0 : Int32)))), (q47, .inl (cI, 30, .inl (fun _ => (0 : Int32)))), (q55, .inl (cI, 30, .inl (fun _ => (0 : Int32)))), (q64, .inl (cI, 2640, .inl (fun _ => (0 : Int32)))), (q73, .inl (cI, 600, .inl (fun _ => (0 : Int32)))), (q86, .inl (cI, 28, .inl (fun _ => (0 : Int32)))), (q94, .inl (cI, 28, .inl (fun _ => (0 : Int32)))), (q102, .inl (cI, 28, .inl (fun _ => (0 : Int32)))), (q110, .inl (cI, 28, .inl (fun _ => (0 : Int32)))), (q118, .inl (cI, 84, .inl (fun _ => (0 : Int32)))), (q126, .inl (cI, 30, .inl (fun _ => (0 : Int32)))), (q134, .inl (cI, 30, .inl (fun _ => (0 : Int32)))), (q142, .inl (cI, 22, .inl (fun _ => (0 : Int32)))), (q155, .inl (cI, 20, .inl (fun _ => (0 : Int32)))), (q163, .inl (cI, 7, .inl (fun _ => (0 : Int32)))), (q171, .inl (cI, 7, .inl (fun _ => (0 : Int32)))), (q178, .inl (cI, 4, .inl (fun _ => (0 : Int32)))), (q185, .inl (cI, 4, .inl (fun _ => (0 : Int32)))), (q192, .inl (cI, 4, .inl (fun _ => (0 : Int32)))), (q200, .inl (cI, 6, .inl (fun _ => (0 : Int32)))), (q208, .inl (cI, 6, .inl (fun _ => (0 : Int32)))), (q216, .inl (cI, 36, .inl (fun _ => (0 : Int32)))), (q224, .inl (cZ, 6, .inl (fun _ => (0 : Int32)))), (q232, .inl (cI, 6, .inl (fun _ => (0 : Int32)))), (q240, .inl (cI, 120, .inl (fun _ => (0 : Int32)))), (q248, .inl (cI, 20, .inl (fun _ => (0 : Int32))))] : va_W) H := hP
  refine lv_aload_n hx hb dX12_init_253 rfl (lv_at hl 0 rfl) ?_
  refine lv_bipush (v := (20 : Int32)) hx hb dX12_init_254 (by decide) ?_
  refine wb_newa (atype := .int) (ty := .int) (cT := cI) (N' := 20) hx hb (hts (.arrayClass .int) (List.mem_of_getElem? (i := 4) rfl)) rfl hK hP hD hS hA 1 rfl wb_raI (fun _ => rfl) (by decide +kernel) (by decide +kernel) (by decide +kernel) (Nat.le_of_ble_eq_true rfl) (Nat.le_of_ble_eq_true rfl) dX12_init_256 (fun q256 H hP hD hS => ?_)
  refine va_putF (D := D) (ci := 12) (v := .ref q256) (ty := (.array .int)) (C := RX12) (T := TX12) (N := 58) hx hb hts hinX12 tyX12 tyX12_ok nmX12 hown hK hP hD hS 0 rfl rfl 50 (by decide) (hts (.fieldLink RX12 108 "WheelBookModel" "longest" "[I") (List.mem_of_getElem? (i := 38) rfl)) (fun _ h9 => h9) rfl hin0 rfl (by decide +kernel) rfl rfl (Nat.le_of_ble_eq_true rfl) dX12_init_258 (fun H locs hP hD hS => ?_)
  have hP : va_P D vwCl ([(h0, .inr (12, [.int 0, .ref q7, .ref q15, .ref q23, .ref q31, .int 0, .int 0, .ref q39, .ref q47, .ref q55, .ref q64, .ref q73, .int 0, .int 0, .int (-1 : Int32), .int 0, .int 0, .int 0, .int 0, .int 0, .int 0, .long 0, .int 0, .int 0, .int 0, .ref q86, .ref q94, .ref q102, .ref q110, .ref q118, .ref q126, .ref q134, .ref q142, .int (-1 : Int32), .ref q155, .int 0, .int 0, .ref q163, .ref q171, .ref q178, .ref q185, .ref q192, .int 0, .ref q200, .ref q208, .ref q216, .ref q224, .ref q232, .ref q240, .ref q248, .ref q256, .null, .null, .null, .null, .int 0, .null, .null])), (q7, .inl (cI, 28, .inl (fun _ => (0 : Int32)))), (q15, .inl (cI, 28, .inl (fun _ => (0 : Int32)))), (q23, .inl (cI, 28, .inl (fun _ => (0 : Int32)))), (q31, .inl (cI, 28, .inl (fun _ => (0 : Int32)))), (q39, .inl (cI, 84, .inl (fun _ => (0 : Int32)))), (q47, .inl (cI, 30, .inl (fun _ => (0 : Int32)))), (q55, .inl (cI, 30, .inl (fun _ => (0 : Int32)))), (q64, .inl (cI, 2640, .inl (fun _ => (0 : Int32)))), (q73, .inl (cI, 600, .inl (fun _ => (0 : Int32)))), (q86, .inl (cI, 28, .inl (fun _ => (0 : Int32)))), (q94, .inl (cI, 28, .inl (fun _ => (0 : Int32)))), (q102, .inl (cI, 28, .inl (fun _ => (0 : Int32)))), (q110, .inl (cI, 28, .inl (fun _ => (0 : Int32)))), (q118, .inl (cI, 84, .inl (fun _ => (0 : Int32)))), (q126, .inl (cI, 30, .inl (fun _ => (0 : Int32)))), (q134, .inl (cI, 30, .inl (fun _ => (0 : Int32)))), (q142, .inl (cI, 22, .inl (fun _ => (0 : Int32)))), (q155, .inl (cI, 20, .inl (fun _ => (0 : Int32)))), (q163, .inl (cI, 7, .inl (fun _ => (0 : Int32)))), (q171, .inl (cI, 7, .inl (fun _ => (0 : Int32)))), (q178, .inl (cI, 4, .inl (fun _ => (0 : Int32)))), (q185, .inl (cI, 4, .inl (fun _ => (0 : Int32)))), (q192, .inl (cI, 4, .inl (fun _ => (0 : Int32)))), (q200, .inl (cI, 6, .inl (fun _ => (0 : Int32)))), (q208, .inl (cI, 6, .inl (fun _ => (0 : Int32)))), (q216, .inl (cI, 36, .inl (fun _ => (0 : Int32)))), (q224, .inl (cZ, 6, .inl (fun _ => (0 : Int32)))), (q232, .inl (cI, 6, .inl (fun _ => (0 : Int32)))), (q240, .inl (cI, 120, .inl (fun _ => (0 : Int32)))), (q248, .inl (cI, 20, .inl (fun _ => (0 : Int32)))), (q256, .inl (cI, 20, .inl (fun _ => (0 : Int32))))] : va_W) H := hP
  refine lv_aload_n hx hb dX12_init_261 rfl (lv_at hl 0 rfl) ?_
  refine lv_bipush (v := (120 : Int32)) hx hb dX12_init_262 (by decide) ?_
  refine wb_newa (atype := .int) (ty := .int) (cT := cI) (N' := 120) hx hb (hts (.arrayClass .int) (List.mem_of_getElem? (i := 4) rfl)) rfl hK hP hD hS hA 1 rfl wb_raI (fun _ => rfl) (by decide +kernel) (by decide +kernel) (by decide +kernel) (Nat.le_of_ble_eq_true rfl) (Nat.le_of_ble_eq_true rfl) dX12_init_264 (fun q264 H hP hD hS => ?_)
  refine va_putF (D := D) (ci := 12) (v := .ref q264) (ty := (.array .int)) (C := RX12) (T := TX12) (N := 58) hx hb hts hinX12 tyX12 tyX12_ok nmX12 hown hK hP hD hS 0 rfl rfl 51 (by decide) (hts (.fieldLink RX12 111 "WheelBookModel" "part" "[I") (List.mem_of_getElem? (i := 39) rfl)) (fun _ h9 => h9) rfl hin0 rfl (by decide +kernel) rfl rfl (Nat.le_of_ble_eq_true rfl) dX12_init_266 (fun H locs hP hD hS => ?_)
  have hP : va_P D vwCl ([(h0, .inr (12, [.int 0, .ref q7, .ref q15, .ref q23, .ref q31, .int 0, .int 0, .ref q39, .ref q47, .ref q55, .ref q64, .ref q73, .int 0, .int 0, .int (-1 : Int32), .int 0, .int 0, .int 0, .int 0, .int 0, .int 0, .long 0, .int 0, .int 0, .int 0, .ref q86, .ref q94, .ref q102, .ref q110, .ref q118, .ref q126, .ref q134, .ref q142, .int (-1 : Int32), .ref q155, .int 0, .int 0, .ref q163, .ref q171, .ref q178, .ref q185, .ref q192, .int 0, .ref q200, .ref q208, .ref q216, .ref q224, .ref q232, .ref q240, .ref q248, .ref q256, .ref q264, .null, .null, .null, .int 0, .null, .null])), (q7, .inl (cI, 28, .inl (fun _ => (0 : Int32)))), (q15, .inl (cI, 28, .inl (fun _ => (0 : Int32)))), (q23, .inl (cI, 28, .inl (fun _ => (0 : Int32)))), (q31, .inl (cI, 28, .inl (fun _ => (0 : Int32)))), (q39, .inl (cI, 84, .inl (fun _ => (0 : Int32)))), (q47, .inl (cI, 30, .inl (fun _ => (0 : Int32)))), (q55, .inl (cI, 30, .inl (fun _ => (0 : Int32)))), (q64, .inl (cI, 2640, .inl (fun _ => (0 : Int32)))), (q73, .inl (cI, 600, .inl (fun _ => (0 : Int32)))), (q86, .inl (cI, 28, .inl (fun _ => (0 : Int32)))), (q94, .inl (cI, 28, .inl (fun _ => (0 : Int32)))), (q102, .inl (cI, 28, .inl (fun _ => (0 : Int32)))), (q110, .inl (cI, 28, .inl (fun _ => (0 : Int32)))), (q118, .inl (cI, 84, .inl (fun _ => (0 : Int32)))), (q126, .inl (cI, 30, .inl (fun _ => (0 : Int32)))), (q134, .inl (cI, 30, .inl (fun _ => (0 : Int32)))), (q142, .inl (cI, 22, .inl (fun _ => (0 : Int32)))), (q155, .inl (cI, 20, .inl (fun _ => (0 : Int32)))), (q163, .inl (cI, 7, .inl (fun _ => (0 : Int32)))), (q171, .inl (cI, 7, .inl (fun _ => (0 : Int32)))), (q178, .inl (cI, 4, .inl (fun _ => (0 : Int32)))), (q185, .inl (cI, 4, .inl (fun _ => (0 : Int32)))), (q192, .inl (cI, 4, .inl (fun _ => (0 : Int32)))), (q200, .inl (cI, 6, .inl (fun _ => (0 : Int32)))), (q208, .inl (cI, 6, .inl (fun _ => (0 : Int32)))), (q216, .inl (cI, 36, .inl (fun _ => (0 : Int32)))), (q224, .inl (cZ, 6, .inl (fun _ => (0 : Int32)))), (q232, .inl (cI, 6, .inl (fun _ => (0 : Int32)))), (q240, .inl (cI, 120, .inl (fun _ => (0 : Int32)))), (q248, .inl (cI, 20, .inl (fun _ => (0 : Int32)))), (q256, .inl (cI, 20, .inl (fun _ => (0 : Int32)))), (q264, .inl (cI, 120, .inl (fun _ => (0 : Int32))))] : va_W) H := hP
  refine lv_aload_n hx hb dX12_init_269 rfl (lv_at hl 0 rfl) ?_
  refine lv_bipush (v := (20 : Int32)) hx hb dX12_init_270 (by decide) ?_
  refine wb_newa (atype := .int) (ty := .int) (cT := cI) (N' := 20) hx hb (hts (.arrayClass .int) (List.mem_of_getElem? (i := 4) rfl)) rfl hK hP hD hS hA 1 rfl wb_raI (fun _ => rfl) (by decide +kernel) (by decide +kernel) (by decide +kernel) (Nat.le_of_ble_eq_true rfl) (Nat.le_of_ble_eq_true rfl) dX12_init_272 (fun q272 H hP hD hS => ?_)
  refine va_putF (D := D) (ci := 12) (v := .ref q272) (ty := (.array .int)) (C := RX12) (T := TX12) (N := 58) hx hb hts hinX12 tyX12 tyX12_ok nmX12 hown hK hP hD hS 0 rfl rfl 52 (by decide) (hts (.fieldLink RX12 114 "WheelBookModel" "foretold" "[I") (List.mem_of_getElem? (i := 40) rfl)) (fun _ h9 => h9) rfl hin0 rfl (by decide +kernel) rfl rfl (Nat.le_of_ble_eq_true rfl) dX12_init_274 (fun H locs hP hD hS => ?_)
  have hP : va_P D vwCl ([(h0, .inr (12, [.int 0, .ref q7, .ref q15, .ref q23, .ref q31, .int 0, .int 0, .ref q39, .ref q47, .ref q55, .ref q64, .ref q73, .int 0, .int 0, .int (-1 : Int32), .int 0, .int 0, .int 0, .int 0, .int 0, .int 0, .long 0, .int 0, .int 0, .int 0, .ref q86, .ref q94, .ref q102, .ref q110, .ref q118, .ref q126, .ref q134, .ref q142, .int (-1 : Int32), .ref q155, .int 0, .int 0, .ref q163, .ref q171, .ref q178, .ref q185, .ref q192, .int 0, .ref q200, .ref q208, .ref q216, .ref q224, .ref q232, .ref q240, .ref q248, .ref q256, .ref q264, .ref q272, .null, .null, .int 0, .null, .null])), (q7, .inl (cI, 28, .inl (fun _ => (0 : Int32)))), (q15, .inl (cI, 28, .inl (fun _ => (0 : Int32)))), (q23, .inl (cI, 28, .inl (fun _ => (0 : Int32)))), (q31, .inl (cI, 28, .inl (fun _ => (0 : Int32)))), (q39, .inl (cI, 84, .inl (fun _ => (0 : Int32)))), (q47, .inl (cI, 30, .inl (fun _ => (0 : Int32)))), (q55, .inl (cI, 30, .inl (fun _ => (0 : Int32)))), (q64, .inl (cI, 2640, .inl (fun _ => (0 : Int32)))), (q73, .inl (cI, 600, .inl (fun _ => (0 : Int32)))), (q86, .inl (cI, 28, .inl (fun _ => (0 : Int32)))), (q94, .inl (cI, 28, .inl (fun _ => (0 : Int32)))), (q102, .inl (cI, 28, .inl (fun _ => (0 : Int32)))), (q110, .inl (cI, 28, .inl (fun _ => (0 : Int32)))), (q118, .inl (cI, 84, .inl (fun _ => (0 : Int32)))), (q126, .inl (cI, 30, .inl (fun _ => (0 : Int32)))), (q134, .inl (cI, 30, .inl (fun _ => (0 : Int32)))), (q142, .inl (cI, 22, .inl (fun _ => (0 : Int32)))), (q155, .inl (cI, 20, .inl (fun _ => (0 : Int32)))), (q163, .inl (cI, 7, .inl (fun _ => (0 : Int32)))), (q171, .inl (cI, 7, .inl (fun _ => (0 : Int32)))), (q178, .inl (cI, 4, .inl (fun _ => (0 : Int32)))), (q185, .inl (cI, 4, .inl (fun _ => (0 : Int32)))), (q192, .inl (cI, 4, .inl (fun _ => (0 : Int32)))), (q200, .inl (cI, 6, .inl (fun _ => (0 : Int32)))), (q208, .inl (cI, 6, .inl (fun _ => (0 : Int32)))), (q216, .inl (cI, 36, .inl (fun _ => (0 : Int32)))), (q224, .inl (cZ, 6, .inl (fun _ => (0 : Int32)))), (q232, .inl (cI, 6, .inl (fun _ => (0 : Int32)))), (q240, .inl (cI, 120, .inl (fun _ => (0 : Int32)))), (q248, .inl (cI, 20, .inl (fun _ => (0 : Int32)))), (q256, .inl (cI, 20, .inl (fun _ => (0 : Int32)))), (q264, .inl (cI, 120, .inl (fun _ => (0 : Int32)))), (q272, .inl (cI, 20, .inl (fun _ => (0 : Int32))))] : va_W) H := hP
  refine lv_aload_n hx hb dX12_init_277 rfl (lv_at hl 0 rfl) ?_
  refine lv_bipush (v := (20 : Int32)) hx hb dX12_init_278 (by decide) ?_
  refine wb_newa (atype := .int) (ty := .int) (cT := cI) (N' := 20) hx hb (hts (.arrayClass .int) (List.mem_of_getElem? (i := 4) rfl)) rfl hK hP hD hS hA 1 rfl wb_raI (fun _ => rfl) (by decide +kernel) (by decide +kernel) (by decide +kernel) (Nat.le_of_ble_eq_true rfl) (Nat.le_of_ble_eq_true rfl) dX12_init_280 (fun q280 H hP hD hS => ?_)
  refine va_putF (D := D) (ci := 12) (v := .ref q280) (ty := (.array .int)) (C := RX12) (T := TX12) (N := 58) hx hb hts hinX12 tyX12 tyX12_ok nmX12 hown hK hP hD hS 0 rfl rfl 53 (by decide) (hts (.fieldLink RX12 117 "WheelBookModel" "came" "[I") (List.mem_of_getElem? (i := 41) rfl)) (fun _ h9 => h9) rfl hin0 rfl (by decide +kernel) rfl rfl (Nat.le_of_ble_eq_true rfl) dX12_init_282 (fun H locs hP hD hS => ?_)
  have hP : va_P D vwCl ([(h0, .inr (12, [.int 0, .ref q7, .ref q15, .ref q23, .ref q31, .int 0, .int 0, .ref q39, .ref q47, .ref q55, .ref q64, .ref q73, .int 0, .int 0, .int (-1 : Int32), .int 0, .int 0, .int 0, .int 0, .int 0, .int 0, .long 0, .int 0, .int 0, .int 0, .ref q86, .ref q94, .ref q102, .ref q110, .ref q118, .ref q126, .ref q134, .ref q142, .int (-1 : Int32), .ref q155, .int 0, .int 0, .ref q163, .ref q171, .ref q178, .ref q185, .ref q192, .int 0, .ref q200, .ref q208, .ref q216, .ref q224, .ref q232, .ref q240, .ref q248, .ref q256, .ref q264, .ref q272, .ref q280, .null, .int 0, .null, .null])), (q7, .inl (cI, 28, .inl (fun _ => (0 : Int32)))), (q15, .inl (cI, 28, .inl (fun _ => (0 : Int32)))), (q23, .inl (cI, 28, .inl (fun _ => (0 : Int32)))), (q31, .inl (cI, 28, .inl (fun _ => (0 : Int32)))), (q39, .inl (cI, 84, .inl (fun _ => (0 : Int32)))), (q47, .inl (cI, 30, .inl (fun _ => (0 : Int32)))), (q55, .inl (cI, 30, .inl (fun _ => (0 : Int32)))), (q64, .inl (cI, 2640, .inl (fun _ => (0 : Int32)))), (q73, .inl (cI, 600, .inl (fun _ => (0 : Int32)))), (q86, .inl (cI, 28, .inl (fun _ => (0 : Int32)))), (q94, .inl (cI, 28, .inl (fun _ => (0 : Int32)))), (q102, .inl (cI, 28, .inl (fun _ => (0 : Int32)))), (q110, .inl (cI, 28, .inl (fun _ => (0 : Int32)))), (q118, .inl (cI, 84, .inl (fun _ => (0 : Int32)))), (q126, .inl (cI, 30, .inl (fun _ => (0 : Int32)))), (q134, .inl (cI, 30, .inl (fun _ => (0 : Int32)))), (q142, .inl (cI, 22, .inl (fun _ => (0 : Int32)))), (q155, .inl (cI, 20, .inl (fun _ => (0 : Int32)))), (q163, .inl (cI, 7, .inl (fun _ => (0 : Int32)))), (q171, .inl (cI, 7, .inl (fun _ => (0 : Int32)))), (q178, .inl (cI, 4, .inl (fun _ => (0 : Int32)))), (q185, .inl (cI, 4, .inl (fun _ => (0 : Int32)))), (q192, .inl (cI, 4, .inl (fun _ => (0 : Int32)))), (q200, .inl (cI, 6, .inl (fun _ => (0 : Int32)))), (q208, .inl (cI, 6, .inl (fun _ => (0 : Int32)))), (q216, .inl (cI, 36, .inl (fun _ => (0 : Int32)))), (q224, .inl (cZ, 6, .inl (fun _ => (0 : Int32)))), (q232, .inl (cI, 6, .inl (fun _ => (0 : Int32)))), (q240, .inl (cI, 120, .inl (fun _ => (0 : Int32)))), (q248, .inl (cI, 20, .inl (fun _ => (0 : Int32)))), (q256, .inl (cI, 20, .inl (fun _ => (0 : Int32)))), (q264, .inl (cI, 120, .inl (fun _ => (0 : Int32)))), (q272, .inl (cI, 20, .inl (fun _ => (0 : Int32)))), (q280, .inl (cI, 20, .inl (fun _ => (0 : Int32))))] : va_W) H := hP
  refine lv_aload_n hx hb dX12_init_285 rfl (lv_at hl 0 rfl) ?_
  refine lv_bipush (v := (20 : Int32)) hx hb dX12_init_286 (by decide) ?_
  refine wb_newa (atype := .int) (ty := .int) (cT := cI) (N' := 20) hx hb (hts (.arrayClass .int) (List.mem_of_getElem? (i := 4) rfl)) rfl hK hP hD hS hA 1 rfl wb_raI (fun _ => rfl) (by decide +kernel) (by decide +kernel) (by decide +kernel) (Nat.le_of_ble_eq_true rfl) (Nat.le_of_ble_eq_true rfl) dX12_init_288 (fun q288 H hP hD hS => ?_)
  refine va_putF (D := D) (ci := 12) (v := .ref q288) (ty := (.array .int)) (C := RX12) (T := TX12) (N := 58) hx hb hts hinX12 tyX12 tyX12_ok nmX12 hown hK hP hD hS 0 rfl rfl 54 (by decide) (hts (.fieldLink RX12 120 "WheelBookModel" "fate" "[I") (List.mem_of_getElem? (i := 42) rfl)) (fun _ h9 => h9) rfl hin0 rfl (by decide +kernel) rfl rfl (Nat.le_of_ble_eq_true rfl) dX12_init_290 (fun H locs hP hD hS => ?_)
  have hP : va_P D vwCl ([(h0, .inr (12, [.int 0, .ref q7, .ref q15, .ref q23, .ref q31, .int 0, .int 0, .ref q39, .ref q47, .ref q55, .ref q64, .ref q73, .int 0, .int 0, .int (-1 : Int32), .int 0, .int 0, .int 0, .int 0, .int 0, .int 0, .long 0, .int 0, .int 0, .int 0, .ref q86, .ref q94, .ref q102, .ref q110, .ref q118, .ref q126, .ref q134, .ref q142, .int (-1 : Int32), .ref q155, .int 0, .int 0, .ref q163, .ref q171, .ref q178, .ref q185, .ref q192, .int 0, .ref q200, .ref q208, .ref q216, .ref q224, .ref q232, .ref q240, .ref q248, .ref q256, .ref q264, .ref q272, .ref q280, .ref q288, .int 0, .null, .null])), (q7, .inl (cI, 28, .inl (fun _ => (0 : Int32)))), (q15, .inl (cI, 28, .inl (fun _ => (0 : Int32)))), (q23, .inl (cI, 28, .inl (fun _ => (0 : Int32)))), (q31, .inl (cI, 28, .inl (fun _ => (0 : Int32)))), (q39, .inl (cI, 84, .inl (fun _ => (0 : Int32)))), (q47, .inl (cI, 30, .inl (fun _ => (0 : Int32)))), (q55, .inl (cI, 30, .inl (fun _ => (0 : Int32)))), (q64, .inl (cI, 2640, .inl (fun _ => (0 : Int32)))), (q73, .inl (cI, 600, .inl (fun _ => (0 : Int32)))), (q86, .inl (cI, 28, .inl (fun _ => (0 : Int32)))), (q94, .inl (cI, 28, .inl (fun _ => (0 : Int32)))), (q102, .inl (cI, 28, .inl (fun _ => (0 : Int32)))), (q110, .inl (cI, 28, .inl (fun _ => (0 : Int32)))), (q118, .inl (cI, 84, .inl (fun _ => (0 : Int32)))), (q126, .inl (cI, 30, .inl (fun _ => (0 : Int32)))), (q134, .inl (cI, 30, .inl (fun _ => (0 : Int32)))), (q142, .inl (cI, 22, .inl (fun _ => (0 : Int32)))), (q155, .inl (cI, 20, .inl (fun _ => (0 : Int32)))), (q163, .inl (cI, 7, .inl (fun _ => (0 : Int32)))), (q171, .inl (cI, 7, .inl (fun _ => (0 : Int32)))), (q178, .inl (cI, 4, .inl (fun _ => (0 : Int32)))), (q185, .inl (cI, 4, .inl (fun _ => (0 : Int32)))), (q192, .inl (cI, 4, .inl (fun _ => (0 : Int32)))), (q200, .inl (cI, 6, .inl (fun _ => (0 : Int32)))), (q208, .inl (cI, 6, .inl (fun _ => (0 : Int32)))), (q216, .inl (cI, 36, .inl (fun _ => (0 : Int32)))), (q224, .inl (cZ, 6, .inl (fun _ => (0 : Int32)))), (q232, .inl (cI, 6, .inl (fun _ => (0 : Int32)))), (q240, .inl (cI, 120, .inl (fun _ => (0 : Int32)))), (q248, .inl (cI, 20, .inl (fun _ => (0 : Int32)))), (q256, .inl (cI, 20, .inl (fun _ => (0 : Int32)))), (q264, .inl (cI, 120, .inl (fun _ => (0 : Int32)))), (q272, .inl (cI, 20, .inl (fun _ => (0 : Int32)))), (q280, .inl (cI, 20, .inl (fun _ => (0 : Int32)))), (q288, .inl (cI, 20, .inl (fun _ => (0 : Int32))))] : va_W) H := hP
  refine lv_aload_n hx hb dX12_init_293 rfl (lv_at hl 0 rfl) ?_
  refine lv_bipush (v := (20 : Int32)) hx hb dX12_init_294 (by decide) ?_
  refine wb_newa (atype := .int) (ty := .int) (cT := cI) (N' := 20) hx hb (hts (.arrayClass .int) (List.mem_of_getElem? (i := 4) rfl)) rfl hK hP hD hS hA 1 rfl wb_raI (fun _ => rfl) (by decide +kernel) (by decide +kernel) (by decide +kernel) (Nat.le_of_ble_eq_true rfl) (Nat.le_of_ble_eq_true rfl) dX12_init_296 (fun q296 H hP hD hS => ?_)
  refine va_putF (D := D) (ci := 12) (v := .ref q296) (ty := (.array .int)) (C := RX12) (T := TX12) (N := 58) hx hb hts hinX12 tyX12 tyX12_ok nmX12 hown hK hP hD hS 0 rfl rfl 56 (by decide) (hts (.fieldLink RX12 123 "WheelBookModel" "who" "[I") (List.mem_of_getElem? (i := 43) rfl)) (fun _ h9 => h9) rfl hin0 rfl (by decide +kernel) rfl rfl (Nat.le_of_ble_eq_true rfl) dX12_init_298 (fun H locs hP hD hS => ?_)
  have hP : va_P D vwCl ([(h0, .inr (12, [.int 0, .ref q7, .ref q15, .ref q23, .ref q31, .int 0, .int 0, .ref q39, .ref q47, .ref q55, .ref q64, .ref q73, .int 0, .int 0, .int (-1 : Int32), .int 0, .int 0, .int 0, .int 0, .int 0, .int 0, .long 0, .int 0, .int 0, .int 0, .ref q86, .ref q94, .ref q102, .ref q110, .ref q118, .ref q126, .ref q134, .ref q142, .int (-1 : Int32), .ref q155, .int 0, .int 0, .ref q163, .ref q171, .ref q178, .ref q185, .ref q192, .int 0, .ref q200, .ref q208, .ref q216, .ref q224, .ref q232, .ref q240, .ref q248, .ref q256, .ref q264, .ref q272, .ref q280, .ref q288, .int 0, .ref q296, .null])), (q7, .inl (cI, 28, .inl (fun _ => (0 : Int32)))), (q15, .inl (cI, 28, .inl (fun _ => (0 : Int32)))), (q23, .inl (cI, 28, .inl (fun _ => (0 : Int32)))), (q31, .inl (cI, 28, .inl (fun _ => (0 : Int32)))), (q39, .inl (cI, 84, .inl (fun _ => (0 : Int32)))), (q47, .inl (cI, 30, .inl (fun _ => (0 : Int32)))), (q55, .inl (cI, 30, .inl (fun _ => (0 : Int32)))), (q64, .inl (cI, 2640, .inl (fun _ => (0 : Int32)))), (q73, .inl (cI, 600, .inl (fun _ => (0 : Int32)))), (q86, .inl (cI, 28, .inl (fun _ => (0 : Int32)))), (q94, .inl (cI, 28, .inl (fun _ => (0 : Int32)))), (q102, .inl (cI, 28, .inl (fun _ => (0 : Int32)))), (q110, .inl (cI, 28, .inl (fun _ => (0 : Int32)))), (q118, .inl (cI, 84, .inl (fun _ => (0 : Int32)))), (q126, .inl (cI, 30, .inl (fun _ => (0 : Int32)))), (q134, .inl (cI, 30, .inl (fun _ => (0 : Int32)))), (q142, .inl (cI, 22, .inl (fun _ => (0 : Int32)))), (q155, .inl (cI, 20, .inl (fun _ => (0 : Int32)))), (q163, .inl (cI, 7, .inl (fun _ => (0 : Int32)))), (q171, .inl (cI, 7, .inl (fun _ => (0 : Int32)))), (q178, .inl (cI, 4, .inl (fun _ => (0 : Int32)))), (q185, .inl (cI, 4, .inl (fun _ => (0 : Int32)))), (q192, .inl (cI, 4, .inl (fun _ => (0 : Int32)))), (q200, .inl (cI, 6, .inl (fun _ => (0 : Int32)))), (q208, .inl (cI, 6, .inl (fun _ => (0 : Int32)))), (q216, .inl (cI, 36, .inl (fun _ => (0 : Int32)))), (q224, .inl (cZ, 6, .inl (fun _ => (0 : Int32)))), (q232, .inl (cI, 6, .inl (fun _ => (0 : Int32)))), (q240, .inl (cI, 120, .inl (fun _ => (0 : Int32)))), (q248, .inl (cI, 20, .inl (fun _ => (0 : Int32)))), (q256, .inl (cI, 20, .inl (fun _ => (0 : Int32)))), (q264, .inl (cI, 120, .inl (fun _ => (0 : Int32)))), (q272, .inl (cI, 20, .inl (fun _ => (0 : Int32)))), (q280, .inl (cI, 20, .inl (fun _ => (0 : Int32)))), (q288, .inl (cI, 20, .inl (fun _ => (0 : Int32)))), (q296, .inl (cI, 20, .inl (fun _ => (0 : Int32))))] : va_W) H := hP
  refine lv_aload_n hx hb dX12_init_301 rfl (lv_at hl 0 rfl) ?_
  refine lv_bipush (v := (20 : Int32)) hx hb dX12_init_302 (by decide) ?_
  refine wb_newa (atype := .int) (ty := .int) (cT := cI) (N' := 20) hx hb (hts (.arrayClass .int) (List.mem_of_getElem? (i := 4) rfl)) rfl hK hP hD hS hA 1 rfl wb_raI (fun _ => rfl) (by decide +kernel) (by decide +kernel) (by decide +kernel) (Nat.le_of_ble_eq_true rfl) (Nat.le_of_ble_eq_true rfl) dX12_init_304 (fun q304 H hP hD hS => ?_)
  refine va_putF (D := D) (ci := 12) (v := .ref q304) (ty := (.array .int)) (C := RX12) (T := TX12) (N := 58) hx hb hts hinX12 tyX12 tyX12_ok nmX12 hown hK hP hD hS 0 rfl rfl 57 (by decide) (hts (.fieldLink RX12 126 "WheelBookModel" "turn" "[I") (List.mem_of_getElem? (i := 44) rfl)) (fun _ h9 => h9) rfl hin0 rfl (by decide +kernel) rfl rfl (Nat.le_of_ble_eq_true rfl) dX12_init_306 (fun H locs hP hD hS => ?_)
  have hP : va_P D vwCl ([(h0, .inr (12, [.int 0, .ref q7, .ref q15, .ref q23, .ref q31, .int 0, .int 0, .ref q39, .ref q47, .ref q55, .ref q64, .ref q73, .int 0, .int 0, .int (-1 : Int32), .int 0, .int 0, .int 0, .int 0, .int 0, .int 0, .long 0, .int 0, .int 0, .int 0, .ref q86, .ref q94, .ref q102, .ref q110, .ref q118, .ref q126, .ref q134, .ref q142, .int (-1 : Int32), .ref q155, .int 0, .int 0, .ref q163, .ref q171, .ref q178, .ref q185, .ref q192, .int 0, .ref q200, .ref q208, .ref q216, .ref q224, .ref q232, .ref q240, .ref q248, .ref q256, .ref q264, .ref q272, .ref q280, .ref q288, .int 0, .ref q296, .ref q304])), (q7, .inl (cI, 28, .inl (fun _ => (0 : Int32)))), (q15, .inl (cI, 28, .inl (fun _ => (0 : Int32)))), (q23, .inl (cI, 28, .inl (fun _ => (0 : Int32)))), (q31, .inl (cI, 28, .inl (fun _ => (0 : Int32)))), (q39, .inl (cI, 84, .inl (fun _ => (0 : Int32)))), (q47, .inl (cI, 30, .inl (fun _ => (0 : Int32)))), (q55, .inl (cI, 30, .inl (fun _ => (0 : Int32)))), (q64, .inl (cI, 2640, .inl (fun _ => (0 : Int32)))), (q73, .inl (cI, 600, .inl (fun _ => (0 : Int32)))), (q86, .inl (cI, 28, .inl (fun _ => (0 : Int32)))), (q94, .inl (cI, 28, .inl (fun _ => (0 : Int32)))), (q102, .inl (cI, 28, .inl (fun _ => (0 : Int32)))), (q110, .inl (cI, 28, .inl (fun _ => (0 : Int32)))), (q118, .inl (cI, 84, .inl (fun _ => (0 : Int32)))), (q126, .inl (cI, 30, .inl (fun _ => (0 : Int32)))), (q134, .inl (cI, 30, .inl (fun _ => (0 : Int32)))), (q142, .inl (cI, 22, .inl (fun _ => (0 : Int32)))), (q155, .inl (cI, 20, .inl (fun _ => (0 : Int32)))), (q163, .inl (cI, 7, .inl (fun _ => (0 : Int32)))), (q171, .inl (cI, 7, .inl (fun _ => (0 : Int32)))), (q178, .inl (cI, 4, .inl (fun _ => (0 : Int32)))), (q185, .inl (cI, 4, .inl (fun _ => (0 : Int32)))), (q192, .inl (cI, 4, .inl (fun _ => (0 : Int32)))), (q200, .inl (cI, 6, .inl (fun _ => (0 : Int32)))), (q208, .inl (cI, 6, .inl (fun _ => (0 : Int32)))), (q216, .inl (cI, 36, .inl (fun _ => (0 : Int32)))), (q224, .inl (cZ, 6, .inl (fun _ => (0 : Int32)))), (q232, .inl (cI, 6, .inl (fun _ => (0 : Int32)))), (q240, .inl (cI, 120, .inl (fun _ => (0 : Int32)))), (q248, .inl (cI, 20, .inl (fun _ => (0 : Int32)))), (q256, .inl (cI, 20, .inl (fun _ => (0 : Int32)))), (q264, .inl (cI, 120, .inl (fun _ => (0 : Int32)))), (q272, .inl (cI, 20, .inl (fun _ => (0 : Int32)))), (q280, .inl (cI, 20, .inl (fun _ => (0 : Int32)))), (q288, .inl (cI, 20, .inl (fun _ => (0 : Int32)))), (q296, .inl (cI, 20, .inl (fun _ => (0 : Int32)))), (q304, .inl (cI, 20, .inl (fun _ => (0 : Int32))))] : va_W) H := hP
  have hD : va_D A ([(h0, .inr (12, [.int 0, .ref q7, .ref q15, .ref q23, .ref q31, .int 0, .int 0, .ref q39, .ref q47, .ref q55, .ref q64, .ref q73, .int 0, .int 0, .int (-1 : Int32), .int 0, .int 0, .int 0, .int 0, .int 0, .int 0, .long 0, .int 0, .int 0, .int 0, .ref q86, .ref q94, .ref q102, .ref q110, .ref q118, .ref q126, .ref q134, .ref q142, .int (-1 : Int32), .ref q155, .int 0, .int 0, .ref q163, .ref q171, .ref q178, .ref q185, .ref q192, .int 0, .ref q200, .ref q208, .ref q216, .ref q224, .ref q232, .ref q240, .ref q248, .ref q256, .ref q264, .ref q272, .ref q280, .ref q288, .int 0, .ref q296, .ref q304])), (q7, .inl (cI, 28, .inl (fun _ => (0 : Int32)))), (q15, .inl (cI, 28, .inl (fun _ => (0 : Int32)))), (q23, .inl (cI, 28, .inl (fun _ => (0 : Int32)))), (q31, .inl (cI, 28, .inl (fun _ => (0 : Int32)))), (q39, .inl (cI, 84, .inl (fun _ => (0 : Int32)))), (q47, .inl (cI, 30, .inl (fun _ => (0 : Int32)))), (q55, .inl (cI, 30, .inl (fun _ => (0 : Int32)))), (q64, .inl (cI, 2640, .inl (fun _ => (0 : Int32)))), (q73, .inl (cI, 600, .inl (fun _ => (0 : Int32)))), (q86, .inl (cI, 28, .inl (fun _ => (0 : Int32)))), (q94, .inl (cI, 28, .inl (fun _ => (0 : Int32)))), (q102, .inl (cI, 28, .inl (fun _ => (0 : Int32)))), (q110, .inl (cI, 28, .inl (fun _ => (0 : Int32)))), (q118, .inl (cI, 84, .inl (fun _ => (0 : Int32)))), (q126, .inl (cI, 30, .inl (fun _ => (0 : Int32)))), (q134, .inl (cI, 30, .inl (fun _ => (0 : Int32)))), (q142, .inl (cI, 22, .inl (fun _ => (0 : Int32)))), (q155, .inl (cI, 20, .inl (fun _ => (0 : Int32)))), (q163, .inl (cI, 7, .inl (fun _ => (0 : Int32)))), (q171, .inl (cI, 7, .inl (fun _ => (0 : Int32)))), (q178, .inl (cI, 4, .inl (fun _ => (0 : Int32)))), (q185, .inl (cI, 4, .inl (fun _ => (0 : Int32)))), (q192, .inl (cI, 4, .inl (fun _ => (0 : Int32)))), (q200, .inl (cI, 6, .inl (fun _ => (0 : Int32)))), (q208, .inl (cI, 6, .inl (fun _ => (0 : Int32)))), (q216, .inl (cI, 36, .inl (fun _ => (0 : Int32)))), (q224, .inl (cZ, 6, .inl (fun _ => (0 : Int32)))), (q232, .inl (cI, 6, .inl (fun _ => (0 : Int32)))), (q240, .inl (cI, 120, .inl (fun _ => (0 : Int32)))), (q248, .inl (cI, 20, .inl (fun _ => (0 : Int32)))), (q256, .inl (cI, 20, .inl (fun _ => (0 : Int32)))), (q264, .inl (cI, 120, .inl (fun _ => (0 : Int32)))), (q272, .inl (cI, 20, .inl (fun _ => (0 : Int32)))), (q280, .inl (cI, 20, .inl (fun _ => (0 : Int32)))), (q288, .inl (cI, 20, .inl (fun _ => (0 : Int32)))), (q296, .inl (cI, 20, .inl (fun _ => (0 : Int32)))), (q304, .inl (cI, 20, .inl (fun _ => (0 : Int32))))] : va_W) := hD
  obtain ⟨I0_0, eI0_0, hf⟩ := wb_v hf
  obtain ⟨M0_0, eM0_0, hf⟩ := wb_v hf
  obtain ⟨a0, ea0⟩ : ∃ a0 : Nat → Nat, a0 = (fun k => ([h0, q7, q15, q23, q31, q39, q47, q55, q64, q73, q86, q94, q102, q110, q118, q126, q134, q142, q155, q163, q171, q178, q185, q192, q200, q208, q216, q224, q232, q240, q248, q256, q264, q272, q280, q288, q296, q304] : List Nat).getD k 0) := ⟨_, rfl⟩
  have hP : va_P D vwCl (wWX12 cB cI cZ a0 I0_0 (0 : Int64) M0_0) H := by rw [eI0_0, eM0_0, ea0]; exact hP.sub [0, 1, 2, 3, 4, 5, 6, 7, 8, 9, 10, 11, 12, 13, 14, 15, 16, 17, 18, 19, 20, 21, 22, 23, 24, 25, 26, 27, 28, 29, 30, 31, 32, 33, 34, 35, 36, 37] rfl
  have hD : va_D A (wWX12 cB cI cZ a0 I0_0 (0 : Int64) M0_0) := by rw [eI0_0, eM0_0, ea0]; exact hD.sub [0, 1, 2, 3, 4, 5, 6, 7, 8, 9, 10, 11, 12, 13, 14, 15, 16, 17, 18, 19, 20, 21, 22, 23, 24, 25, 26, 27, 28, 29, 30, 31, 32, 33, 34, 35, 36, 37] (by decide) rfl
  have h00 : a0 0 = h0 := by rw [ea0]; rfl
  rw [← h00] at hl
  refine W.widen (k := 37) (n := 4260) (Nat.le_of_ble_eq_true rfl) (Nat.le_of_ble_eq_true rfl) ?_
  refine lv_iconst (v := (0 : Int32)) hx hb dX12_init_309 (by decide) ?_
  refine lv_istore_n (lv' := [(1, .int (0 : Int32)), (0, .ref (a0 0))]) hx hb dX12_init_310 rfl hl (by decide) rfl (fun ls hl => ?_)
  have Lh311 : ∀ (fu311 : Nat) (I0_l311 : Nat → Int32) (L0_l311 : Int64) (M0_l311 : Nat → Nat → Int32) (y311_1 : Int32) (H : Heap) (locs : List Loc), va_P D vwCl (wWX12 cB cI cZ a0 I0_l311 L0_l311 M0_l311) H → va_D A (wWX12 cB cI cZ a0 I0_l311 L0_l311 M0_l311) → va_S A s.heap H locs → ∀ (ls : Array Slot), lv_has ls 2 [(0, .ref (a0 0)), (1, .int y311_1)] → fX12_init_L311 N fu311 I0_l311 L0_l311 M0_l311 y311_1 = some R → W p l e (headSpec wsX12_init { frames := 1, cells := 37, slots := 4260, locals := 12 }).room s m [.ref h0].toArray below meth c H locs 37 4260 (MQ below (va_Qv (fun _ : Unit => True) (fun _ t => wb_postN D [(cB, .byte), (cI, .int), (cZ, .boolean)] A h0 (fun a => wWX12 cB cI cZ a R.1 R.2.1 R.2.2) t) A) [.ref h0].toArray s 37 4260 A) (F0 m 311 ls []) := by
    intro fu311
    induction fu311 with
    | zero =>
      intro I0_l311 L0_l311 M0_l311 y311_1 H locs hP hD hS ls hl hf
      exact absurd hf (by rw [fX12_init_L311.eq_1]; exact fun h => nomatch h)
    | succ fu311 ih311 =>
      intro I0_l311 L0_l311 M0_l311 y311_1 H locs hP hD hS ls hl hf
      rw [fX12_init_L311.eq_2] at hf
      refine lv_iload_n hx hb dX12_init_311 rfl (lv_at hl 1 rfl) ?_
      refine lv_bipush (v := (28 : Int32)) hx hb dX12_init_312 (by decide) ?_
      refine lv_icmp_ge (tgt := 330) hx hb dX12_init_314 (by decide) (fun hc => ?_) (fun hc => ?_)
      · replace hf := wb_t hc hf
        refine lv_iconst (v := (0 : Int32)) hx hb dX12_init_330 (by decide) ?_
        refine lv_istore_n (lv' := [(1, .int (0 : Int32)), (0, .ref (a0 0))]) hx hb dX12_init_331 rfl hl (by decide) rfl (fun ls hl => ?_)
        have Lh332 : ∀ (fu332 : Nat) (I0_l332 : Nat → Int32) (L0_l332 : Int64) (M0_l332 : Nat → Nat → Int32) (y332_1 : Int32) (H : Heap) (locs : List Loc), va_P D vwCl (wWX12 cB cI cZ a0 I0_l332 L0_l332 M0_l332) H → va_D A (wWX12 cB cI cZ a0 I0_l332 L0_l332 M0_l332) → va_S A s.heap H locs → ∀ (ls : Array Slot), lv_has ls 2 [(0, .ref (a0 0)), (1, .int y332_1)] → fX12_init_L332 N (fX12_init_L311 N fu311) fu332 I0_l332 L0_l332 M0_l332 y332_1 = some R → W p l e (headSpec wsX12_init { frames := 1, cells := 37, slots := 4260, locals := 12 }).room s m [.ref h0].toArray below meth c H locs 37 4260 (MQ below (va_Qv (fun _ : Unit => True) (fun _ t => wb_postN D [(cB, .byte), (cI, .int), (cZ, .boolean)] A h0 (fun a => wWX12 cB cI cZ a R.1 R.2.1 R.2.2) t) A) [.ref h0].toArray s 37 4260 A) (F0 m 332 ls []) := by
          intro fu332
          induction fu332 with
          | zero =>
            intro I0_l332 L0_l332 M0_l332 y332_1 H locs hP hD hS ls hl hf
            exact absurd hf (by rw [fX12_init_L332.eq_1]; exact fun h => nomatch h)
          | succ fu332 ih332 =>
            intro I0_l332 L0_l332 M0_l332 y332_1 H locs hP hD hS ls hl hf
            rw [fX12_init_L332.eq_2] at hf
            refine lv_iload_n hx hb dX12_init_332 rfl (lv_at hl 1 rfl) ?_
            refine lv_sipush (v := (2640 : Int32)) hx hb dX12_init_333 (by decide) ?_
            refine lv_icmp_ge (tgt := 352) hx hb dX12_init_336 (by decide) (fun hc => ?_) (fun hc => ?_)
            · replace hf := wb_t hc hf
              refine lv_iconst (v := (0 : Int32)) hx hb dX12_init_352 (by decide) ?_
              refine lv_istore_n (lv' := [(1, .int (0 : Int32)), (0, .ref (a0 0))]) hx hb dX12_init_353 rfl hl (by decide) rfl (fun ls hl => ?_)
              have Lh354 : ∀ (fu354 : Nat) (I0_l354 : Nat → Int32) (L0_l354 : Int64) (M0_l354 : Nat → Nat → Int32) (y354_1 : Int32) (H : Heap) (locs : List Loc), va_P D vwCl (wWX12 cB cI cZ a0 I0_l354 L0_l354 M0_l354) H → va_D A (wWX12 cB cI cZ a0 I0_l354 L0_l354 M0_l354) → va_S A s.heap H locs → ∀ (ls : Array Slot), lv_has ls 2 [(0, .ref (a0 0)), (1, .int y354_1)] → fX12_init_L354 N (fX12_init_L311 N fu311) (fX12_init_L332 N (fX12_init_L311 N fu311) fu332) fu354 I0_l354 L0_l354 M0_l354 y354_1 = some R → W p l e (headSpec wsX12_init { frames := 1, cells := 37, slots := 4260, locals := 12 }).room s m [.ref h0].toArray below meth c H locs 37 4260 (MQ below (va_Qv (fun _ : Unit => True) (fun _ t => wb_postN D [(cB, .byte), (cI, .int), (cZ, .boolean)] A h0 (fun a => wWX12 cB cI cZ a R.1 R.2.1 R.2.2) t) A) [.ref h0].toArray s 37 4260 A) (F0 m 354 ls []) := by
                intro fu354
                induction fu354 with
                | zero =>
                  intro I0_l354 L0_l354 M0_l354 y354_1 H locs hP hD hS ls hl hf
                  exact absurd hf (by rw [fX12_init_L354.eq_1]; exact fun h => nomatch h)
                | succ fu354 ih354 =>
                  intro I0_l354 L0_l354 M0_l354 y354_1 H locs hP hD hS ls hl hf
                  rw [fX12_init_L354.eq_2] at hf
                  refine lv_iload_n hx hb dX12_init_354 rfl (lv_at hl 1 rfl) ?_
                  refine lv_bipush (v := (20 : Int32)) hx hb dX12_init_355 (by decide) ?_
                  refine lv_icmp_ge (tgt := 380) hx hb dX12_init_357 (by decide) (fun hc => ?_) (fun hc => ?_)
                  · replace hf := wb_t hc hf
                    exact W.vret hx hb hr (fun t ht hW => by rw [← Option.some.inj hf]; exact ⟨⟨(), rfl, trivial, a0, h00, by rw [ht]; exact hP, va_K.moved hW.alike hK, hD⟩, hS.F ht⟩) hS.2.2 dX12_init_380
                  · replace hf := wb_f hc hf
                    refine lv_aload_n hx hb dX12_init_360 rfl (lv_at hl 0 rfl) ?_
                    refine va_get (D := D) (ci := 12) (v := .ref (a0 33)) (C := RX12) (T := TX12) (N := 58) hx hb hts hinX12 hown hK hP 0 rfl rfl 52 (by decide) (hts (.fieldLink RX12 114 "WheelBookModel" "foretold" "[I") (List.mem_of_getElem? (i := 40) rfl)) (fun _ h9 => h9) rfl dX12_init_361 ?_
                    refine lv_iload_n hx hb dX12_init_364 rfl (lv_at hl 1 rfl) ?_
                    refine lv_iconst (v := (-1 : Int32)) hx hb dX12_init_365 (by decide) ?_
                    obtain ⟨hin, hf⟩ := wb_n hf
                    refine va_iast hx hb hK hP hD hS 33 1 rfl rfl hin dX12_init_366 (fun H locs hP hD hS => ?_)
                    have hP : va_P D vwCl (wWX12 cB cI cZ a0 I0_l354 L0_l354 (wb_um M0_l354 32 (y354_1).toNatClampNeg (-1 : Int32))) H := hP
                    have hD : va_D A (wWX12 cB cI cZ a0 I0_l354 L0_l354 (wb_um M0_l354 32 (y354_1).toNatClampNeg (-1 : Int32))) := hD
                    obtain ⟨M0_1, eM0_1, hf⟩ := wb_v hf
                    rw [← eM0_1] at hP hD
                    refine lv_aload_n hx hb dX12_init_367 rfl (lv_at hl 0 rfl) ?_
                    refine va_get (D := D) (ci := 12) (v := .ref (a0 35)) (C := RX12) (T := TX12) (N := 58) hx hb hts hinX12 hown hK hP 0 rfl rfl 54 (by decide) (hts (.fieldLink RX12 120 "WheelBookModel" "fate" "[I") (List.mem_of_getElem? (i := 42) rfl)) (fun _ h9 => h9) rfl dX12_init_368 ?_
                    refine lv_iload_n hx hb dX12_init_371 rfl (lv_at hl 1 rfl) ?_
                    refine lv_iconst (v := (-1 : Int32)) hx hb dX12_init_372 (by decide) ?_
                    obtain ⟨hin, hf⟩ := wb_n hf
                    refine va_iast hx hb hK hP hD hS 35 1 rfl rfl hin dX12_init_373 (fun H locs hP hD hS => ?_)
                    have hP : va_P D vwCl (wWX12 cB cI cZ a0 I0_l354 L0_l354 (wb_um M0_1 34 (y354_1).toNatClampNeg (-1 : Int32))) H := hP
                    have hD : va_D A (wWX12 cB cI cZ a0 I0_l354 L0_l354 (wb_um M0_1 34 (y354_1).toNatClampNeg (-1 : Int32))) := hD
                    obtain ⟨M0_2, eM0_2, hf⟩ := wb_v hf
                    rw [← eM0_2] at hP hD
                    obtain ⟨v3, ev3, hf⟩ := wb_v hf
                    refine lv_iinc (v := v3) (lv' := [(1, .int v3), (0, .ref (a0 0))]) hx hb dX12_init_374 hl (k := 1) rfl (by rw [ev3]; rfl) (by decide) rfl (fun ls hl => ?_)
                    refine lv_goto (tgt := 354) hx hb dX12_init_377 (by decide) ?_
                    exact ih354 I0_l354 L0_l354 M0_2 v3 H locs hP hD hS ls (lv_sub hl [1, 0] rfl) hf
              exact Lh354 N I0_l332 L0_l332 M0_l332 (0 : Int32) H locs hP hD hS ls (lv_sub hl [1, 0] rfl) hf
            · replace hf := wb_f hc hf
              refine lv_aload_n hx hb dX12_init_339 rfl (lv_at hl 0 rfl) ?_
              refine va_get (D := D) (ci := 12) (v := .ref (a0 8)) (C := RX12) (T := TX12) (N := 58) hx hb hts hinX12 hown hK hP 0 rfl rfl 10 (by decide) (hts (.fieldLink RX12 31 "WheelBookModel" "entries" "[I") (List.mem_of_getElem? (i := 12) rfl)) (fun _ h9 => h9) rfl dX12_init_340 ?_
              refine lv_iload_n hx hb dX12_init_343 rfl (lv_at hl 1 rfl) ?_
              refine lv_iconst (v := (-1 : Int32)) hx hb dX12_init_344 (by decide) ?_
              obtain ⟨hin, hf⟩ := wb_n hf
              refine va_iast hx hb hK hP hD hS 8 1 rfl rfl hin dX12_init_345 (fun H locs hP hD hS => ?_)
              have hP : va_P D vwCl (wWX12 cB cI cZ a0 I0_l332 L0_l332 (wb_um M0_l332 7 (y332_1).toNatClampNeg (-1 : Int32))) H := hP
              have hD : va_D A (wWX12 cB cI cZ a0 I0_l332 L0_l332 (wb_um M0_l332 7 (y332_1).toNatClampNeg (-1 : Int32))) := hD
              obtain ⟨M0_4, eM0_4, hf⟩ := wb_v hf
              rw [← eM0_4] at hP hD
              obtain ⟨v5, ev5, hf⟩ := wb_v hf
              refine lv_iinc (v := v5) (lv' := [(1, .int v5), (0, .ref (a0 0))]) hx hb dX12_init_346 hl (k := 1) rfl (by rw [ev5]; rfl) (by decide) rfl (fun ls hl => ?_)
              refine lv_goto (tgt := 332) hx hb dX12_init_349 (by decide) ?_
              exact ih332 I0_l332 L0_l332 M0_4 v5 H locs hP hD hS ls (lv_sub hl [1, 0] rfl) hf
        exact Lh332 N I0_l311 L0_l311 M0_l311 (0 : Int32) H locs hP hD hS ls (lv_sub hl [1, 0] rfl) hf
      · replace hf := wb_f hc hf
        refine lv_aload_n hx hb dX12_init_317 rfl (lv_at hl 0 rfl) ?_
        refine va_get (D := D) (ci := 12) (v := .ref (a0 4)) (C := RX12) (T := TX12) (N := 58) hx hb hts hinX12 hown hK hP 0 rfl rfl 4 (by decide) (hts (.fieldLink RX12 19 "WheelBookModel" "period" "[I") (List.mem_of_getElem? (i := 8) rfl)) (fun _ h9 => h9) rfl dX12_init_318 ?_
        refine lv_iload_n hx hb dX12_init_321 rfl (lv_at hl 1 rfl) ?_
        refine lv_iconst (v := (1 : Int32)) hx hb dX12_init_322 (by decide) ?_
        obtain ⟨hin, hf⟩ := wb_n hf
        refine va_iast hx hb hK hP hD hS 4 1 rfl rfl hin dX12_init_323 (fun H locs hP hD hS => ?_)
        have hP : va_P D vwCl (wWX12 cB cI cZ a0 I0_l311 L0_l311 (wb_um M0_l311 3 (y311_1).toNatClampNeg (1 : Int32))) H := hP
        have hD : va_D A (wWX12 cB cI cZ a0 I0_l311 L0_l311 (wb_um M0_l311 3 (y311_1).toNatClampNeg (1 : Int32))) := hD
        obtain ⟨M0_6, eM0_6, hf⟩ := wb_v hf
        rw [← eM0_6] at hP hD
        obtain ⟨v7, ev7, hf⟩ := wb_v hf
        refine lv_iinc (v := v7) (lv' := [(1, .int v7), (0, .ref (a0 0))]) hx hb dX12_init_324 hl (k := 1) rfl (by rw [ev7]; rfl) (by decide) rfl (fun ls hl => ?_)
        refine lv_goto (tgt := 311) hx hb dX12_init_327 (by decide) ?_
        exact ih311 I0_l311 L0_l311 M0_6 v7 H locs hP hD hS ls (lv_sub hl [1, 0] rfl) hf
  exact Lh311 N I0_0 (0 : Int64) M0_0 (0 : Int32) H locs hP hD hS ls (lv_sub hl [1, 0] rfl) hf
