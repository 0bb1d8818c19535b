set_option maxHeartbeats 4000000 in
set_option maxRecDepth 100000 in
theorem cn_X12_handed (l : Launch) (D : va_G) (cB cI cZ : ClassId) (N : Nat) (a0 : Nat → Nat) (I0 : Nat → Int32) (L0 : Int64) (M0 : Nat → Nat → Int32) (x1 : Int32) (x2 : Int32) (x3 : Int32) (sz : Nat) (R : Int32 × (Nat → Int32) × Int64 × (Nat → Nat → Int32)) (hf : fX12_handed N I0 L0 M0 x1 x2 x3 = some R) : Met l yX12_handed wsX12_handed ({ frames := 2, cells := 0, slots := 0, locals := 43 }) (va_Pc [.ref (a0 0), .int x1, .int x2, .int x3] (wb_preD D [(cB, .byte), (cI, .int), (cZ, .boolean)] (wWX12 cB cI cZ a0 I0 L0 M0) sz)) (va_Qi (fun r (_ : Unit) => r = R.1) (fun _ t => wb_post D [(cB, .byte), (cI, .int), (cZ, .boolean)] (va_A (wWX12 cB cI cZ a0 I0 L0 M0) sz) (wWX12 cB cI cZ a0 R.2.1 R.2.2.1 R.2.2.2) t) (va_A (wWX12 cB cI cZ a0 I0 L0 M0) sz)) 0 0 (va_A (wWX12 cB cI cZ a0 I0 L0 M0) sz) := by
  refine Met.ofW (cc := cX12_handed) (maxL := 9) (ret := (some .int)) pn_X12 rfl ?_
  intro p e s m args below meth c s₁ B hml hv
  obtain ⟨rfl, hsz, hP, hK, hD0⟩ := hv
  have hx := B.exec
  have hb := B.bytes
  have hr := B.returns
  have hts := atoms_spec (ws := wsX12_handed) B.pre
  have hown : s.vm.findClass RX12 = some m.cls := (findClass_of_methodNamed B.named :)
  have hlocks := B.notSynchronized
  have hinX12 : ∀ w ∈ u_ws RX12 TX12 58, w ∈ wsX12_handed := fun w h => List.mem_cons_of_mem _ (List.mem_append_right _ h)
  subst hsz
  have hD := hD0.self (sz := s.heap.size)
  generalize hAe : va_A (wWX12 cB cI cZ a0 I0 L0 M0) s.heap.size = A at hD ⊢
  have hA : ∀ q : Nat, s.heap.size ≤ q → A q := fun q h => by rw [← hAe]; exact Or.inr h
  have hS : va_S A s.heap s.heap [] := va_S.rf
  have hl := lv_entry ([.ref (a0 0), .int x1, .int x2, .int x3]) (n := 9) (Nat.le_of_ble_eq_true rfl)
  rw [lg_entry_eq]
  generalize (lg_sl ([.ref (a0 0), .int x1, .int x2, .int x3]) ++ List.replicate (9 - (lg_sl ([.ref (a0 0), .int x1, .int x2, .int x3])).length) Slot.unset).toArray = ls at hl ⊢
  have hl : lv_has ls 9 [(0, .ref (a0 0)), (1, .int x1), (2, .int x2), (3, .int x3)] := hl
  unfold fX12_handed at hf
  obtain ⟨H, hHe⟩ : ∃ H : Heap, H = s.heap := ⟨_, rfl⟩
  obtain ⟨locs, hle⟩ : ∃ locs : List Loc, locs = [] := ⟨_, rfl⟩
  refine wb_start (H := H) (locs := locs) hHe hle ?_
  rw [← hHe] at hP
  have hS : va_S A s.heap H locs := by rw [hHe, hle]; exact va_S.rf
  refine lv_aload_n hx hb dX12_handed_0 rfl (lv_at hl 0 rfl) ?_
  refine lv_iconst (v := (0 : Int32)) hx hb dX12_handed_1 (by decide) ?_
  refine va_put (D := D) (ci := 12) (v := .int (0 : Int32)) (ty := .int) (C := RX12) (T := TX12) (N := 58) hx hb hts hinX12 tyX12 tyX12_ok nmX12 hown hK hP hD hS 0 rfl rfl 0 (by decide) (hts (.fieldLink RX12 129 "WheelBookModel" "thrown" "I") (List.mem_of_getElem? (i := 1) rfl)) (fun _ h9 => h9) rfl (by decide +kernel) rfl rfl (Nat.le_of_ble_eq_true rfl) dX12_handed_2 (fun H locs hP hD hS => ?_)
  have hP : va_P D vwCl (wWX12 cB cI cZ a0 (upd I0 0 (0 : Int32)) L0 M0) H := hP
  have hD : va_D A (wWX12 cB cI cZ a0 (upd I0 0 (0 : Int32)) L0 M0) := hD
  obtain ⟨I0_1, eI0_1, hf⟩ := wb_v hf
  rw [← eI0_1] at hP hD
  refine lv_aload_n hx hb dX12_handed_5 rfl (lv_at hl 0 rfl) ?_
  refine lv_iload_n hx hb dX12_handed_6 rfl (lv_at hl 1 rfl) ?_
  obtain ⟨r2, hr2, hf⟩ := wb_b hf
  have hPc := hP
  have hDc := hD
  have hFc := wj_F hDc hS hA
  refine va_calli (va_runV (As := [.int x1]) (rest := []) ⟨hx, hb, hml, hown, hts⟩ (cn_X12_isBook l D cB cI cZ N a0 I0_1 L0 M0 x1 H.size r2 hr2) (cwV 1 hts gX12_handed_X12_isBook rfl rfl rfl cdX12_isBook ⟨Nat.le_of_ble_eq_true rfl, Nat.le_of_ble_eq_true rfl⟩) (wb_preDV hPc hK hDc (wr_12 hK hP (q0 := 0) rfl)) rfl rfl hl.1 rfl (lv_room (Nat.le_of_ble_eq_true rfl)) dX12_handed_7 ⟨Nat.le_of_ble_eq_true rfl, Nat.le_of_ble_eq_true rfl⟩) hS (fun q _ h => hFc q h) hFc (fun r9 u t H locs ht hvm hw hB hz1 hk1 hS => ?_)
  obtain ⟨hP, hD⟩ := wj_0 hFc ht hB
  rw [hw]
  refine lv_if_eq (tgt := 29) hx hb dX12_handed_10 (by decide) (fun hc => ?_) (fun hc => ?_)
  · replace hf := wb_t hc hf
    refine lv_iconst (v := (0 : Int32)) hx hb dX12_handed_29 (by decide) ?_
    exact W.iret (v := (0 : Int32)) hx hb hr (fun t ht hW => by rw [← Option.some.inj hf]; exact ⟨⟨(0 : Int32), (), rfl, rfl, by rw [ht]; exact hP, va_K.moved hW.alike hK, hD⟩, hS.F ht⟩) hS.2.2 dX12_handed_30
  · replace hf := wb_f hc hf
    refine lv_aload_n hx hb dX12_handed_13 rfl (lv_at hl 0 rfl) ?_
    refine lv_iload_n hx hb dX12_handed_14 rfl (lv_at hl 2 rfl) ?_
    obtain ⟨r3, hr3, hf⟩ := wb_b hf
    have hPc := hP
    have hDc := hD
    have hFc := wj_F hDc hS hA
    refine va_calli (va_runV (As := [.int x2]) (rest := []) ⟨hx, hb, hml, hown, hts⟩ (cn_X12_isBook l D cB cI cZ N a0 r2.2.1 r2.2.2.1 r2.2.2.2 x2 H.size r3 hr3) (cwV 1 hts gX12_handed_X12_isBook rfl rfl rfl cdX12_isBook ⟨Nat.le_of_ble_eq_true rfl, Nat.le_of_ble_eq_true rfl⟩) (wb_preDV hPc hK hDc (wr_12 hK hP (q0 := 0) rfl)) rfl rfl hl.1 rfl (lv_room (Nat.le_of_ble_eq_true rfl)) dX12_handed_15 ⟨Nat.le_of_ble_eq_true rfl, Nat.le_of_ble_eq_true rfl⟩) hS (fun q _ h => hFc q h) hFc (fun r9 u t H locs ht hvm hw hB hz1 hk1 hS => ?_)
    obtain ⟨hP, hD⟩ := wj_0 hFc ht hB
    rw [hw]
    refine lv_if_eq (tgt := 29) hx hb dX12_handed_18 (by decide) (fun hc => ?_) (fun hc => ?_)
    · replace hf := wb_t hc hf
      refine lv_iconst (v := (0 : Int32)) hx hb dX12_handed_29 (by decide) ?_
      exact W.iret (v := (0 : Int32)) hx hb hr (fun t ht hW => by rw [← Option.some.inj hf]; exact ⟨⟨(0 : Int32), (), rfl, rfl, by rw [ht]; exact hP, va_K.moved hW.alike hK, hD⟩, hS.F ht⟩) hS.2.2 dX12_handed_30
    · replace hf := wb_f hc hf
      refine lv_aload_n hx hb dX12_handed_21 rfl (lv_at hl 0 rfl) ?_
      refine lv_iload_n hx hb dX12_handed_22 rfl (lv_at hl 3 rfl) ?_
      obtain ⟨r4, hr4, hf⟩ := wb_b hf
      have hPc := hP
      have hDc := hD
      have hFc := wj_F hDc hS hA
      refine va_calli (va_runV (As := [.int x3]) (rest := []) ⟨hx, hb, hml, hown, hts⟩ (cn_X12_isBook l D cB cI cZ N a0 r3.2.1 r3.2.2.1 r3.2.2.2 x3 H.size r4 hr4) (cwV 1 hts gX12_handed_X12_isBook rfl rfl rfl cdX12_isBook ⟨Nat.le_of_ble_eq_true rfl, Nat.le_of_ble_eq_true rfl⟩) (wb_preDV hPc hK hDc (wr_12 hK hP (q0 := 0) rfl)) rfl rfl hl.1 rfl (lv_room (Nat.le_of_ble_eq_true rfl)) dX12_handed_23 ⟨Nat.le_of_ble_eq_true rfl, Nat.le_of_ble_eq_true rfl⟩) hS (fun q _ h => hFc q h) hFc (fun r9 u t H locs ht hvm hw hB hz1 hk1 hS => ?_)
      obtain ⟨hP, hD⟩ := wj_0 hFc ht hB
      rw [hw]
      refine lv_if_ne (tgt := 31) hx hb dX12_handed_26 (by decide) (fun hc => ?_) (fun hc => ?_)
      · replace hf := wb_f hc hf
        refine lv_iconst (v := (0 : Int32)) hx hb dX12_handed_31 (by decide) ?_
        refine lv_istore (lv' := [(4, .int (0 : Int32)), (0, .ref (a0 0)), (1, .int x1), (2, .int x2), (3, .int x3)]) hx hb dX12_handed_32 hl (by decide) rfl (fun ls hl => ?_)
        refine lv_iconst (v := (0 : Int32)) hx hb dX12_handed_34 (by decide) ?_
        refine lv_istore (lv' := [(5, .int (0 : Int32)), (4, .int (0 : Int32)), (0, .ref (a0 0)), (1, .int x1), (2, .int x2), (3, .int x3)]) hx hb dX12_handed_35 hl (by decide) rfl (fun ls hl => ?_)
        have Lh37 : ∀ (fu37 : Nat) (I0_l37 : Nat → Int32) (L0_l37 : Int64) (M0_l37 : Nat → Nat → Int32) (y37_4 : Int32) (y37_5 : Int32) (H : Heap) (locs : List Loc), va_P D vwCl (wWX12 cB cI cZ a0 I0_l37 L0_l37 M0_l37) H → va_D A (wWX12 cB cI cZ a0 I0_l37 L0_l37 M0_l37) → va_S A s.heap H locs → ∀ (ls : Array Slot), lv_has ls 9 [(0, .ref (a0 0)), (1, .int x1), (2, .int x2), (3, .int x3), (4, .int y37_4), (5, .int y37_5)] → fX12_handed_L37 N x1 x2 x3 fu37 I0_l37 L0_l37 M0_l37 y37_4 y37_5 = some R → W p l e (headSpec wsX12_handed { frames := 2, cells := 0, slots := 0, locals := 43 }).room s m [.ref (a0 0), .int x1, .int x2, .int x3].toArray below meth c H locs 0 0 (MQ below (va_Qi (fun r (_ : Unit) => r = R.1) (fun _ t => wb_post D [(cB, .byte), (cI, .int), (cZ, .boolean)] A (wWX12 cB cI cZ a0 R.2.1 R.2.2.1 R.2.2.2) t) A) [.ref (a0 0), .int x1, .int x2, .int x3].toArray s 0 0 A) (F0 m 37 ls []) := by
          intro fu37
          induction fu37 with
          | zero =>
            intro I0_l37 L0_l37 M0_l37 y37_4 y37_5 H locs hP hD hS ls hl hf
            exact absurd hf (by rw [fX12_handed_L37.eq_1]; exact fun h => nomatch h)
          | succ fu37 ih37 =>
            intro I0_l37 L0_l37 M0_l37 y37_4 y37_5 H locs hP hD hS ls hl hf
            rw [fX12_handed_L37.eq_2] at hf
            refine lv_iload hx hb dX12_handed_37 (lv_at hl 5 rfl) ?_
            refine lv_sipush (v := (440 : Int32)) hx hb dX12_handed_39 (by decide) ?_
            refine lv_icmp_ge (tgt := 125) hx hb dX12_handed_42 (by decide) (fun hc => ?_) (fun hc => ?_)
            · replace hf := wb_t hc hf
              refine lv_iload hx hb dX12_handed_125 (lv_at hl 4 rfl) ?_
              exact W.iret (v := y37_4) hx hb hr (fun t ht hW => by rw [← Option.some.inj hf]; exact ⟨⟨y37_4, (), rfl, rfl, by rw [ht]; exact hP, va_K.moved hW.alike hK, hD⟩, hS.F ht⟩) hS.2.2 dX12_handed_127
            · replace hf := wb_f hc hf
              refine lv_aload_n hx hb dX12_handed_45 rfl (lv_at hl 0 rfl) ?_
              refine va_get (D := D) (ci := 12) (v := .ref (a0 8)) (C := RX12) (T := TX12) (N := 58) hx hb hts hinX12 hown hK hP 0 rfl rfl 10 (by decide) (hts (.fieldLink RX12 31 "WheelBookModel" "entries" "[I") (List.mem_of_getElem? (i := 2) rfl)) (fun _ h9 => h9) rfl dX12_handed_46 ?_
              refine lv_sipush (v := (440 : Int32)) hx hb dX12_handed_49 (by decide) ?_
              refine lv_iload_n hx hb dX12_handed_52 rfl (lv_at hl 1 rfl) ?_
              refine lv_imul hx hb dX12_handed_53 ?_
              refine lv_iload hx hb dX12_handed_54 (lv_at hl 5 rfl) ?_
              refine lv_iadd hx hb dX12_handed_56 ?_
              obtain ⟨hin, hf⟩ := wb_n hf
              refine va_iald hx hb hK hP 8 1 rfl rfl hin dX12_handed_57 ?_
              obtain ⟨v5, ev5, hf⟩ := wb_v hf
              refine wb_topi ev5 ?_
              refine lv_istore (lv' := [(6, .int v5), (0, .ref (a0 0)), (1, .int x1), (2, .int x2), (3, .int x3), (4, .int y37_4), (5, .int y37_5)]) hx hb dX12_handed_58 hl (by decide) rfl (fun ls hl => ?_)
              refine lv_aload_n hx hb dX12_handed_60 rfl (lv_at hl 1 rfl) ?_
              refine va_get (D := D) (ci := 12) (v := .ref (a0 8)) (C := RX12) (T := TX12) (N := 58) hx hb hts hinX12 hown hK hP 0 rfl rfl 10 (by decide) (hts (.fieldLink RX12 31 "WheelBookModel" "entries" "[I") (List.mem_of_getElem? (i := 2) rfl)) (fun _ h9 => h9) rfl dX12_handed_61 ?_
              refine lv_sipush (v := (440 : Int32)) hx hb dX12_handed_64 (by decide) ?_
              refine lv_iload_n hx hb dX12_handed_67 rfl (lv_at hl 3 rfl) ?_
              refine lv_imul hx hb dX12_handed_68 ?_
              refine lv_iload hx hb dX12_handed_69 (lv_at hl 6 rfl) ?_
              refine lv_iadd hx hb dX12_handed_71 ?_
              obtain ⟨hin, hf⟩ := wb_n hf
              refine va_iald hx hb hK hP 8 1 rfl rfl hin dX12_handed_72 ?_
              obtain ⟨v6, ev6, hf⟩ := wb_v hf
              refine wb_topi ev6 ?_
              refine lv_istore (lv' := [(7, .int v6), (6, .int v5), (0, .ref (a0 0)), (1, .int x1), (2, .int x2), (3, .int x3), (4, .int y37_4), (5, .int y37_5)]) hx hb dX12_handed_73 hl (by decide) rfl (fun ls hl => ?_)
              refine lv_aload_n hx hb dX12_handed_75 rfl (lv_at hl 2 rfl) ?_
              refine va_get (D := D) (ci := 12) (v := .ref (a0 8)) (C := RX12) (T := TX12) (N := 58) hx hb hts hinX12 hown hK hP 0 rfl rfl 10 (by decide) (hts (.fieldLink RX12 31 "WheelBookModel" "entries" "[I") (List.mem_of_getElem? (i := 2) rfl)) (fun _ h9 => h9) rfl dX12_handed_76 ?_
              refine lv_sipush (v := (440 : Int32)) hx hb dX12_handed_79 (by decide) ?_
              refine lv_iload_n hx hb dX12_handed_82 rfl (lv_at hl 5 rfl) ?_
              refine lv_imul hx hb dX12_handed_83 ?_
              refine lv_iload hx hb dX12_handed_84 (lv_at hl 7 rfl) ?_
              refine lv_iadd hx hb dX12_handed_86 ?_
              obtain ⟨hin, hf⟩ := wb_n hf
              refine va_iald hx hb hK hP 8 1 rfl rfl hin dX12_handed_87 ?_
              obtain ⟨v7, ev7, hf⟩ := wb_v hf
              refine wb_topi ev7 ?_
              refine lv_istore (lv' := [(8, .int v7), (7, .int v6), (6, .int v5), (0, .ref (a0 0)), (1, .int x1), (2, .int x2), (3, .int x3), (4, .int y37_4), (5, .int y37_5)]) hx hb dX12_handed_88 hl (by decide) rfl (fun ls hl => ?_)
              refine lv_iload hx hb dX12_handed_90 (lv_at hl 2 rfl) ?_
              refine lv_iconst (v := (-1 : Int32)) hx hb dX12_handed_92 (by decide) ?_
              refine lv_icmp_eq (tgt := 119) hx hb dX12_handed_93 (by decide) (fun hc => ?_) (fun hc => ?_)
              · replace hf := wb_t hc hf
                obtain ⟨v8, ev8, hf⟩ := wb_v hf
                refine lv_iinc (v := v8) (lv' := [(5, .int v8), (8, .int v7), (7, .int v6), (6, .int v5), (0, .ref (a0 0)), (1, .int x1), (2, .int x2), (3, .int x3), (4, .int y37_4)]) hx hb dX12_handed_119 hl (k := 8) rfl (by rw [ev8]; rfl) (by decide) rfl (fun ls hl => ?_)
                refine lv_goto (tgt := 37) hx hb dX12_handed_122 (by decide) ?_
                exact ih37 I0_l37 L0_l37 M0_l37 y37_4 v8 H locs hP hD hS ls (lv_sub hl [4, 5, 6, 7, 8, 0] rfl) hf
              · replace hf := wb_f hc hf
                refine lv_iload hx hb dX12_handed_96 (lv_at hl 2 rfl) ?_
                refine lv_iload hx hb dX12_handed_98 (lv_at hl 1 rfl) ?_
                refine lv_icmp_ne (tgt := 119) hx hb dX12_handed_100 (by decide) (fun hc => ?_) (fun hc => ?_)
                · replace hf := wb_f hc hf
                  obtain ⟨v9, ev9, hf⟩ := wb_v hf
                  refine lv_iinc (v := v9) (lv' := [(5, .int v9), (8, .int v7), (7, .int v6), (6, .int v5), (0, .ref (a0 0)), (1, .int x1), (2, .int x2), (3, .int x3), (4, .int y37_4)]) hx hb dX12_handed_119 hl (k := 8) rfl (by rw [ev9]; rfl) (by decide) rfl (fun ls hl => ?_)
                  refine lv_goto (tgt := 37) hx hb dX12_handed_122 (by decide) ?_
                  exact ih37 I0_l37 L0_l37 M0_l37 y37_4 v9 H locs hP hD hS ls (lv_sub hl [4, 5, 6, 7, 8, 0] rfl) hf
                · replace hf := wb_t hc hf
                  refine lv_iload hx hb dX12_handed_103 (lv_at hl 0 rfl) ?_
                  refine lv_iconst (v := (-1 : Int32)) hx hb dX12_handed_105 (by decide) ?_
                  refine lv_icmp_eq (tgt := 119) hx hb dX12_handed_106 (by decide) (fun hc => ?_) (fun hc => ?_)
                  · replace hf := wb_t hc hf
                    obtain ⟨v10, ev10, hf⟩ := wb_v hf
                    refine lv_iinc (v := v10) (lv' := [(5, .int v10), (8, .int v7), (7, .int v6), (6, .int v5), (0, .ref (a0 0)), (1, .int x1), (2, .int x2), (3, .int x3), (4, .int y37_4)]) hx hb dX12_handed_119 hl (k := 8) rfl (by rw [ev10]; rfl) (by decide) rfl (fun ls hl => ?_)
                    refine lv_goto (tgt := 37) hx hb dX12_handed_122 (by decide) ?_
                    exact ih37 I0_l37 L0_l37 M0_l37 y37_4 v10 H locs hP hD hS ls (lv_sub hl [4, 5, 6, 7, 8, 0] rfl) hf
                  · replace hf := wb_f hc hf
                    refine lv_iload hx hb dX12_handed_109 (lv_at hl 0 rfl) ?_
                    refine lv_iload hx hb dX12_handed_111 (lv_at hl 2 rfl) ?_
                    refine lv_icmp_eq (tgt := 119) hx hb dX12_handed_113 (by decide) (fun hc => ?_) (fun hc => ?_)
                    · replace hf := wb_t hc hf
                      obtain ⟨v11, ev11, hf⟩ := wb_v hf
                      refine lv_iinc (v := v11) (lv' := [(5, .int v11), (8, .int v7), (7, .int v6), (6, .int v5), (0, .ref (a0 0)), (1, .int x1), (2, .int x2), (3, .int x3), (4, .int y37_4)]) hx hb dX12_handed_119 hl (k := 8) rfl (by rw [ev11]; rfl) (by decide) rfl (fun ls hl => ?_)
                      refine lv_goto (tgt := 37) hx hb dX12_handed_122 (by decide) ?_
                      exact ih37 I0_l37 L0_l37 M0_l37 y37_4 v11 H locs hP hD hS ls (lv_sub hl [4, 5, 6, 7, 8, 0] rfl) hf
                    · replace hf := wb_f hc hf
                      obtain ⟨v12, ev12, hf⟩ := wb_v hf
                      refine lv_iinc (v := v12) (lv' := [(4, .int v12), (8, .int v7), (7, .int v6), (6, .int v5), (0, .ref (a0 0)), (1, .int x1), (2, .int x2), (3, .int x3), (5, .int y37_5)]) hx hb dX12_handed_116 hl (k := 7) rfl (by rw [ev12]; rfl) (by decide) rfl (fun ls hl => ?_)
                      obtain ⟨v13, ev13, hf⟩ := wb_v hf
                      refine lv_iinc (v := v13) (lv' := [(5, .int v13), (4, .int v12), (8, .int v7), (7, .int v6), (6, .int v5), (0, .ref (a0 0)), (1, .int x1), (2, .int x2), (3, .int x3)]) hx hb dX12_handed_119 hl (k := 8) rfl (by rw [ev13]; rfl) (by decide) rfl (fun ls hl => ?_)
                      refine lv_goto (tgt := 37) hx hb dX12_handed_122 (by decide) ?_
                      exact ih37 I0_l37 L0_l37 M0_l37 v12 v13 H locs hP hD hS ls (lv_sub hl [5, 6, 7, 8, 1, 0] rfl) hf
        exact Lh37 N r4.2.1 r4.2.2.1 r4.2.2.2 (0 : Int32) (0 : Int32) H locs hP hD hS ls (lv_sub hl [2, 3, 4, 5, 1, 0] rfl) hf
      · replace hf := wb_t hc hf
        refine lv_iconst (v := (0 : Int32)) hx hb dX12_handed_29 (by decide) ?_
        exact W.iret (v := (0 : Int32)) hx hb hr (fun t ht hW => by rw [← Option.some.inj hf]; exact ⟨⟨(0 : Int32), (), rfl, rfl, by rw [ht]; exact hP, va_K.moved hW.alike hK, hD⟩, hS.F ht⟩) hS.2.2 dX12_handed_30

set_option maxHeartbeats 4000000 in
set_option maxRecDepth 100000 in
theorem cn_X12_leafAt (l : Launch) (D : va_G) (cB cI cZ : ClassId) (N : Nat) (a0 : Nat → Nat) (I0 : Nat → Int32) (L0 : Int64) (M0 : Nat → Nat → Int32) (x1 : Int32) (x2 : Int32) (R : Int32) (hf : fX12_leafAt N I0 L0 M0 x1 x2 = some R) : Met l yX12_leafAt wsX12_leafAt ({ frames := 0, cells := 0, slots := 0, locals := 0 }) (va_Pc [.ref (a0 0), .int x1, .int x2] (wb_pre D [(cB, .byte), (cI, .int), (cZ, .boolean)] (wWX12 cB cI cZ a0 I0 L0 M0))) (vp_Si (fun r => r = R)) 0 0 (fun _ => False) := by
  refine Met.ofW (cc := cX12_leafAt) (maxL := 4) (ret := (some .int)) pn_X12 rfl ?_
  intro p e s m args below meth c s₁ B hml hv
  obtain ⟨rfl, hP, hK⟩ := hv
  have hx := B.exec
  have hb := B.bytes
  have hr := B.returns
  have hts := atoms_spec (ws := wsX12_leafAt) B.pre
  have hown : s.vm.findClass RX12 = some m.cls := (findClass_of_methodNamed B.named :)
  have hlocks := B.notSynchronized
  have hinX12 : ∀ w ∈ u_ws RX12 TX12 58, w ∈ wsX12_leafAt := fun w h => List.mem_cons_of_mem _ (List.mem_append_right _ h)
  have hl := lv_entry ([.ref (a0 0), .int x1, .int x2]) (n := 4) (Nat.le_of_ble_eq_true rfl)
  rw [lg_entry_eq]
  generalize (lg_sl ([.ref (a0 0), .int x1, .int x2]) ++ List.replicate (4 - (lg_sl ([.ref (a0 0), .int x1, .int x2])).length) Slot.unset).toArray = ls at hl ⊢
  have hl : lv_has ls 4 [(0, .ref (a0 0)), (1, .int x1), (2, .int x2)] := hl
  unfold fX12_leafAt at hf
  refine lv_iconst (v := (0 : Int32)) hx hb dX12_leafAt_0 (by decide) ?_
  refine lv_istore_n (lv' := [(3, .int (0 : Int32)), (0, .ref (a0 0)), (1, .int x1), (2, .int x2)]) hx hb dX12_leafAt_1 rfl hl (by decide) rfl (fun ls hl => ?_)
  have Lh2 : ∀ (fu2 : Nat) (y2_3 : Int32), ∀ (ls : Array Slot), lv_has ls 4 [(0, .ref (a0 0)), (1, .int x1), (2, .int x2), (3, .int y2_3)] → fX12_leafAt_L2 N I0 L0 M0 x1 x2 fu2 y2_3 = some R → W p l e (headSpec wsX12_leafAt { frames := 0, cells := 0, slots := 0, locals := 0 }).room s m [.ref (a0 0), .int x1, .int x2].toArray below meth c s.heap [] 0 0 (MQ below (vp_Si (fun r => r = R)) [.ref (a0 0), .int x1, .int x2].toArray s 0 0 (fun _ => False)) (F0 m 2 ls []) := by
    intro fu2
    induction fu2 with
    | zero =>
      intro y2_3 ls hl hf
      exact absurd hf (by rw [fX12_leafAt_L2.eq_1]; exact fun h => nomatch h)
    | succ fu2 ih2 =>
      intro y2_3 ls hl hf
      rw [fX12_leafAt_L2.eq_2] at hf
      refine lv_iload_n hx hb dX12_leafAt_2 rfl (lv_at hl 3 rfl) ?_
      refine lv_aload_n hx hb dX12_leafAt_3 rfl (lv_at hl 0 rfl) ?_
      refine va_get (D := D) (ci := 12) (v := .ref (a0 28)) (C := RX12) (T := TX12) (N := 58) hx hb hts hinX12 hown hK hP 0 rfl rfl 47 (by decide) (hts (.fieldLink RX12 99 "WheelBookModel" "leaves" "[I") (List.mem_of_getElem? (i := 1) rfl)) (fun _ h9 => h9) rfl dX12_leafAt_4 ?_
      refine lv_iload_n hx hb dX12_leafAt_7 rfl (lv_at hl 1 rfl) ?_
      obtain ⟨hin, hf⟩ := wb_n hf
      refine va_iald hx hb hK hP 28 1 rfl rfl hin dX12_leafAt_8 ?_
      refine lv_icmp_ge (tgt := 35) hx hb dX12_leafAt_9 (by decide) (fun hc => ?_) (fun hc => ?_)
      · replace hf := wb_t hc hf
        refine lv_iconst (v := (-1 : Int32)) hx hb dX12_leafAt_35 (by decide) ?_
        exact W.iret (v := (-1 : Int32)) hx hb hr (fun t ht hW => ⟨_, rfl, Option.some.inj hf, ht⟩) (fun _ h => nomatch h) dX12_leafAt_36
      · replace hf := wb_f hc hf
        refine lv_aload_n hx hb dX12_leafAt_12 rfl (lv_at hl 0 rfl) ?_
        refine va_get (D := D) (ci := 12) (v := .ref (a0 29)) (C := RX12) (T := TX12) (N := 58) hx hb hts hinX12 hown hK hP 0 rfl rfl 48 (by decide) (hts (.fieldLink RX12 102 "WheelBookModel" "leaf" "[I") (List.mem_of_getElem? (i := 2) rfl)) (fun _ h9 => h9) rfl dX12_leafAt_13 ?_
        refine lv_bipush (v := (20 : Int32)) hx hb dX12_leafAt_16 (by decide) ?_
        refine lv_iload_n hx hb dX12_leafAt_18 rfl (lv_at hl 1 rfl) ?_
        refine lv_imul hx hb dX12_leafAt_19 ?_
        refine lv_iload_n hx hb dX12_leafAt_20 rfl (lv_at hl 3 rfl) ?_
        refine lv_iadd hx hb dX12_leafAt_21 ?_
        obtain ⟨hin, hf⟩ := wb_n hf
        refine va_iald hx hb hK hP 29 1 rfl rfl hin dX12_leafAt_22 ?_
        refine lv_iload_n hx hb dX12_leafAt_23 rfl (lv_at hl 2 rfl) ?_
        refine lv_icmp_ne (tgt := 29) hx hb dX12_leafAt_24 (by decide) (fun hc => ?_) (fun hc => ?_)
        · replace hf := wb_f hc hf
          obtain ⟨v1, ev1, hf⟩ := wb_v hf
          refine lv_iinc (v := v1) (lv' := [(3, .int v1), (0, .ref (a0 0)), (1, .int x1), (2, .int x2)]) hx hb dX12_leafAt_29 hl (k := 3) rfl (by rw [ev1]; rfl) (by decide) rfl (fun ls hl => ?_)
          refine lv_goto (tgt := 2) hx hb dX12_leafAt_32 (by decide) ?_
          exact ih2 v1 ls (lv_sub hl [1, 2, 3, 0] rfl) hf
        · replace hf := wb_t hc hf
          refine lv_iload_n hx hb dX12_leafAt_27 rfl (lv_at hl 3 rfl) ?_
          exact W.iret (v := y2_3) hx hb hr (fun t ht hW => ⟨_, rfl, Option.some.inj hf, ht⟩) (fun _ h => nomatch h) dX12_leafAt_28
  exact Lh2 N (0 : Int32) ls (lv_sub hl [1, 2, 3, 0] rfl) hf

set_option maxHeartbeats 4000000 in
set_option maxRecDepth 100000 in
theorem cn_X12_leaf (l : Launch) (D : va_G) (cB cI cZ : ClassId) (N : Nat) (a0 : Nat → Nat) (I0 : Nat → Int32) (L0 : Int64) (M0 : Nat → Nat → Int32) (x1 : Int32) (x2 : Int32) (sz : Nat) (R : Int32 × (Nat → Int32) × Int64 × (Nat → Nat → Int32)) (hf : fX12_leaf N I0 L0 M0 x1 x2 = some R) : Met l yX12_leaf wsX12_leaf ({ frames := 2, cells := 0, slots := 0, locals := 44 }) (va_Pc [.ref (a0 0), .int x1, .int x2] (wb_preD D [(cB, .byte), (cI, .int), (cZ, .boolean)] (wWX12 cB cI cZ a0 I0 L0 M0) sz)) (va_Qi (fun r (_ : Unit) => r = R.1) (fun _ t => wb_post D [(cB, .byte), (cI, .int), (cZ, .boolean)] (va_A (wWX12 cB cI cZ a0 I0 L0 M0) sz) (wWX12 cB cI cZ a0 R.2.1 R.2.2.1 R.2.2.2) t) (va_A (wWX12 cB cI cZ a0 I0 L0 M0) sz)) 0 0 (va_A (wWX12 cB cI cZ a0 I0 L0 M0) sz) := by
  refine Met.ofW (cc := cX12_leaf) (maxL := 3) (ret := (some .int)) pn_X12 rfl ?_
  intro p e s m args below meth c s₁ B hml hv
  obtain ⟨rfl, hsz, hP, hK, hD0⟩ := hv
  have hx := B.exec
  have hb := B.bytes
  have hr := B.returns
  have hts := atoms_spec (ws := wsX12_leaf) B.pre
  have hown : s.vm.findClass RX12 = some m.cls := (findClass_of_methodNamed B.named :)
  have hlocks := B.notSynchronized
  have hinX12 : ∀ w ∈ u_ws RX12 TX12 58, w ∈ wsX12_leaf := fun w h => List.mem_cons_of_mem _ (List.mem_append_right _ h)
  subst hsz
  have hD := hD0.self (sz := s.heap.size)
  generalize hAe : va_A (wWX12 cB cI cZ a0 I0 L0 M0) s.heap.size = A at hD ⊢
  have hA : ∀ q : Nat, s.heap.size ≤ q → A q := fun q h => by rw [← hAe]; exact Or.inr h
  have hS : va_S A s.heap s.heap [] := va_S.rf
  have hl := lv_entry ([.ref (a0 0), .int x1, .int x2]) (n := 3) (Nat.le_of_ble_eq_true rfl)
  rw [lg_entry_eq]
  generalize (lg_sl ([.ref (a0 0), .int x1, .int x2]) ++ List.replicate (3 - (lg_sl ([.ref (a0 0), .int x1, .int x2])).length) Slot.unset).toArray = ls at hl ⊢
  have hl : lv_has ls 3 [(0, .ref (a0 0)), (1, .int x1), (2, .int x2)] := hl
  unfold fX12_leaf at hf
  obtain ⟨H, hHe⟩ : ∃ H : Heap, H = s.heap := ⟨_, rfl⟩
  obtain ⟨locs, hle⟩ : ∃ locs : List Loc, locs = [] := ⟨_, rfl⟩
  refine wb_start (H := H) (locs := locs) hHe hle ?_
  rw [← hHe] at hP
  have hS : va_S A s.heap H locs := by rw [hHe, hle]; exact va_S.rf
  refine lv_aload_n hx hb dX12_leaf_0 rfl (lv_at hl 0 rfl) ?_
  refine lv_iload_n hx hb dX12_leaf_1 rfl (lv_at hl 1 rfl) ?_
  refine lv_iload_n hx hb dX12_leaf_2 rfl (lv_at hl 2 rfl) ?_
  obtain ⟨r1, hr1, hf⟩ := wb_b hf
  have hPc := hP
  have hDc := hD
  have hFc := wj_F hDc hS hA
  refine va_calli (va_runV (As := [.int x1, .int x2]) (rest := []) ⟨hx, hb, hml, hown, hts⟩ (cn_X12_isWheel l D cB cI cZ N a0 I0 L0 M0 x1 x2 H.size r1 hr1) (cwV 2 hts gX12_leaf_X12_isWheel rfl rfl rfl cdX12_isWheel ⟨Nat.le_of_ble_eq_true rfl, Nat.le_of_ble_eq_true rfl⟩) (wb_preDV hPc hK hDc (wr_12 hK hP (q0 := 0) rfl)) rfl rfl hl.1 rfl (lv_room (Nat.le_of_ble_eq_true rfl)) dX12_leaf_3 ⟨Nat.le_of_ble_eq_true rfl, Nat.le_of_ble_eq_true rfl⟩) hS (fun q _ h => hFc q h) hFc (fun r9 u t H locs ht hvm hw hB hz1 hk1 hS => ?_)
  obtain ⟨hP, hD⟩ := wj_0 hFc ht hB
  rw [hw]
  refine lv_if_ne (tgt := 11) hx hb dX12_leaf_6 (by decide) (fun hc => ?_) (fun hc => ?_)
  · replace hf := wb_f hc hf
    refine lv_aload_n hx hb dX12_leaf_11 rfl (lv_at hl 0 rfl) ?_
    refine lv_iload_n hx hb dX12_leaf_12 rfl (lv_at hl 1 rfl) ?_
    refine lv_iload_n hx hb dX12_leaf_13 rfl (lv_at hl 2 rfl) ?_
    obtain ⟨r2, hr2, hf⟩ := wb_b hf
    refine vp_callSi (W.runV (As := [.int x1, .int x2]) (rest := []) ⟨hx, hb, hml, hown, hts⟩ (cn_X12_leafAt l D cB cI cZ N a0 r1.2.1 r1.2.2.1 r1.2.2.2 x1 x2 r2 hr2) (cwV 2 hts gX12_leaf_X12_leafAt rfl rfl rfl cdX12_leafAt ⟨Nat.le_of_ble_eq_true rfl, Nat.le_of_ble_eq_true rfl⟩) (wb_preV hP hK (wr_12 hK hP (q0 := 0) rfl)) rfl rfl hl.1 rfl (lv_room (Nat.le_of_ble_eq_true rfl)) dX12_leaf_14 ⟨Nat.le_of_ble_eq_true rfl, Nat.le_of_ble_eq_true rfl⟩) (fun r9 e9 => ?_)
    rw [e9]
    refine lv_iconst (v := (-1 : Int32)) hx hb dX12_leaf_17 (by decide) ?_
    refine lv_icmp_eq (tgt := 23) hx hb dX12_leaf_18 (by decide) (fun hc => ?_) (fun hc => ?_)
    · replace hf := wb_t hc hf
      refine lv_aload_n hx hb dX12_leaf_23 rfl (lv_at hl 0 rfl) ?_
      refine va_get (D := D) (ci := 12) (v := .ref (a0 29)) (C := RX12) (T := TX12) (N := 58) hx hb hts hinX12 hown hK hP 0 rfl rfl 48 (by decide) (hts (.fieldLink RX12 102 "WheelBookModel" "leaf" "[I") (List.mem_of_getElem? (i := 1) rfl)) (fun _ h9 => h9) rfl dX12_leaf_24 ?_
      refine lv_bipush (v := (20 : Int32)) hx hb dX12_leaf_27 (by decide) ?_
      refine lv_iload_n hx hb dX12_leaf_29 rfl (lv_at hl 1 rfl) ?_
      refine lv_imul hx hb dX12_leaf_30 ?_
      refine lv_aload_n hx hb dX12_leaf_31 rfl (lv_at hl 0 rfl) ?_
      refine va_get (D := D) (ci := 12) (v := .ref (a0 28)) (C := RX12) (T := TX12) (N := 58) hx hb hts hinX12 hown hK hP 0 rfl rfl 47 (by decide) (hts (.fieldLink RX12 99 "WheelBookModel" "leaves" "[I") (List.mem_of_getElem? (i := 2) rfl)) (fun _ h9 => h9) rfl dX12_leaf_32 ?_
      refine lv_iload_n hx hb dX12_leaf_35 rfl (lv_at hl 1 rfl) ?_
      obtain ⟨hin, hf⟩ := wb_n hf
      refine va_iald hx hb hK hP 28 1 rfl rfl hin dX12_leaf_36 ?_
      refine lv_iadd hx hb dX12_leaf_37 ?_
      refine lv_iload_n hx hb dX12_leaf_38 rfl (lv_at hl 2 rfl) ?_
      obtain ⟨hin, hf⟩ := wb_n hf
      refine va_iast hx hb hK hP hD hS 29 1 rfl rfl hin dX12_leaf_39 (fun H locs hP hD hS => ?_)
      have hP : va_P D vwCl (wWX12 cB cI cZ a0 r1.2.1 r1.2.2.1 (wb_um r1.2.2.2 28 ((((20 : Int32) * x1) + (r1.2.2.2 27 (x1).toNatClampNeg))).toNatClampNeg x2)) H := hP
      have hD : va_D A (wWX12 cB cI cZ a0 r1.2.1 r1.2.2.1 (wb_um r1.2.2.2 28 ((((20 : Int32) * x1) + (r1.2.2.2 27 (x1).toNatClampNeg))).toNatClampNeg x2)) := hD
      obtain ⟨M0_3, eM0_3, hf⟩ := wb_v hf
      rw [← eM0_3] at hP hD
      refine lv_aload_n hx hb dX12_leaf_40 rfl (lv_at hl 0 rfl) ?_
      refine va_get (D := D) (ci := 12) (v := .ref (a0 28)) (C := RX12) (T := TX12) (N := 58) hx hb hts hinX12 hown hK hP 0 rfl rfl 47 (by decide) (hts (.fieldLink RX12 99 "WheelBookModel" "leaves" "[I") (List.mem_of_getElem? (i := 2) rfl)) (fun _ h9 => h9) rfl dX12_leaf_41 ?_
      refine lv_iload_n hx hb dX12_leaf_44 rfl (lv_at hl 1 rfl) ?_
      refine lv_dup2_11 hx hb dX12_leaf_45 rfl rfl ?_
      obtain ⟨hin, hf⟩ := wb_n hf
      refine va_iald hx hb hK hP 28 1 rfl rfl hin dX12_leaf_46 ?_
      refine lv_iconst (v := (1 : Int32)) hx hb dX12_leaf_47 (by decide) ?_
      refine lv_iadd hx hb dX12_leaf_48 ?_
      obtain ⟨hin, hf⟩ := wb_n hf
      refine va_iast hx hb hK hP hD hS 28 1 rfl rfl hin dX12_leaf_49 (fun H locs hP hD hS => ?_)
      have hP : va_P D vwCl (wWX12 cB cI cZ a0 r1.2.1 r1.2.2.1 (wb_um M0_3 27 (x1).toNatClampNeg ((M0_3 27 (x1).toNatClampNeg) + (1 : Int32)))) H := hP
      have hD : va_D A (wWX12 cB cI cZ a0 r1.2.1 r1.2.2.1 (wb_um M0_3 27 (x1).toNatClampNeg ((M0_3 27 (x1).toNatClampNeg) + (1 : Int32)))) := hD
      obtain ⟨M0_4, eM0_4, hf⟩ := wb_v hf
      rw [← eM0_4] at hP hD
      refine lv_aload_n hx hb dX12_leaf_50 rfl (lv_at hl 0 rfl) ?_
      refine va_get (D := D) (ci := 12) (v := .ref (a0 28)) (C := RX12) (T := TX12) (N := 58) hx hb hts hinX12 hown hK hP 0 rfl rfl 47 (by decide) (hts (.fieldLink RX12 99 "WheelBookModel" "leaves" "[I") (List.mem_of_getElem? (i := 2) rfl)) (fun _ h9 => h9) rfl dX12_leaf_51 ?_
      refine lv_iload_n hx hb dX12_leaf_54 rfl (lv_at hl 1 rfl) ?_
      obtain ⟨hin, hf⟩ := wb_n hf
      refine va_iald hx hb hK hP 28 1 rfl rfl hin dX12_leaf_55 ?_
      exact W.iret (v := (M0_4 27 (x1).toNatClampNeg)) hx hb hr (fun t ht hW => by rw [← Option.some.inj hf]; exact ⟨⟨(M0_4 27 (x1).toNatClampNeg), (), rfl, rfl, by rw [ht]; exact hP, va_K.moved hW.alike hK, hD⟩, hS.F ht⟩) hS.2.2 dX12_leaf_56
    · replace hf := wb_f hc hf
      refine lv_iconst (v := (-1 : Int32)) hx hb dX12_leaf_21 (by decide) ?_
      exact W.iret (v := (-1 : Int32)) hx hb hr (fun t ht hW => by rw [← Option.some.inj hf]; exact ⟨⟨(-1 : Int32), (), rfl, rfl, by rw [ht]; exact hP, va_K.moved hW.alike hK, hD⟩, hS.F ht⟩) hS.2.2 dX12_leaf_22
  · replace hf := wb_t hc hf
    refine lv_iconst (v := (0 : Int32)) hx hb dX12_leaf_9 (by decide) ?_
    exact W.iret (v := (0 : Int32)) hx hb hr (fun t ht hW => by rw [← Option.some.inj hf]; exact ⟨⟨(0 : Int32), (), rfl, rfl, by rw [ht]; exact hP, va_K.moved hW.alike hK, hD⟩, hS.F ht⟩) hS.2.2 dX12_leaf_10

set_option maxHeartbeats 4000000 in
set_option maxRecDepth 100000 in
theorem cn_X12_order (l : Launch) (D : va_G) (cB cI cZ : ClassId) (N : Nat) (a0 : Nat → Nat) (I0 : Nat → Int32) (L0 : Int64) (M0 : Nat → Nat → Int32) (x1 : Int32) (x2 : Int32) (x3 : Int32) (sz : Nat) (R : Int32 × (Nat → Int32) × Int64 × (Nat → Nat → Int32)) (hf : fX12_order N I0 L0 M0 x1 x2 x3 = some R) : Met l yX12_order wsX12_order ({ frames := 2, cells := 0, slots := 0, locals := 43 }) (va_Pc [.ref (a0 0), .int x1, .int x2, .int x3] (wb_preD D [(cB, .byte), (cI, .int), (cZ, .boolean)] (wWX12 cB cI cZ a0 I0 L0 M0) sz)) (va_Qi (fun r (_ : Unit) => r = R.1) (fun _ t => wb_post D [(cB, .byte), (cI, .int), (cZ, .boolean)] (va_A (wWX12 cB cI cZ a0 I0 L0 M0) sz) (wWX12 cB cI cZ a0 R.2.1 R.2.2.1 R.2.2.2) t) (va_A (wWX12 cB cI cZ a0 I0 L0 M0) sz)) 0 0 (va_A (wWX12 cB cI cZ a0 I0 L0 M0) sz) := by
  refine Met.ofW (cc := cX12_order) (maxL := 9) (ret := (some .int)) pn_X12 rfl ?_
  intro p e s m args below meth c s₁ B hml hv
  obtain ⟨rfl, hsz, hP, hK, hD0⟩ := hv
  have hx := B.exec
  have hb := B.bytes
  have hr := B.returns
  have hts := atoms_spec (ws := wsX12_order) B.pre
  have hown : s.vm.findClass RX12 = some m.cls := (findClass_of_methodNamed B.named :)
  have hlocks := B.notSynchronized
  have hinX12 : ∀ w ∈ u_ws RX12 TX12 58, w ∈ wsX12_order := fun w h => List.mem_cons_of_mem _ (List.mem_append_right _ h)
  subst hsz
  have hD := hD0.self (sz := s.heap.size)
  generalize hAe : va_A (wWX12 cB cI cZ a0 I0 L0 M0) s.heap.size = A at hD ⊢
  have hA : ∀ q : Nat, s.heap.size ≤ q → A q := fun q h => by rw [← hAe]; exact Or.inr h
  have hS : va_S A s.heap s.heap [] := va_S.rf
  have hl := lv_entry ([.ref (a0 0), .int x1, .int x2, .int x3]) (n := 9) (Nat.le_of_ble_eq_true rfl)
  rw [lg_entry_eq]
  generalize (lg_sl ([.ref (a0 0), .int x1, .int x2, .int x3]) ++ List.replicate (9 - (lg_sl ([.ref (a0 0), .int x1, .int x2, .int x3])).length) Slot.unset).toArray = ls at hl ⊢
  have hl : lv_has ls 9 [(0, .ref (a0 0)), (1, .int x1), (2, .int x2), (3, .int x3)] := hl
  unfold fX12_order at hf
  obtain ⟨H, hHe⟩ : ∃ H : Heap, H = s.heap := ⟨_, rfl⟩
  obtain ⟨locs, hle⟩ : ∃ locs : List Loc, locs = [] := ⟨_, rfl⟩
  refine wb_start (H := H) (locs := locs) hHe hle ?_
  rw [← hHe] at hP
  have hS : va_S A s.heap H locs := by rw [hHe, hle]; exact va_S.rf
  have J36 : ∀ (I0_j36 : Nat → Int32) (L0_j36 : Int64) (M0_j36 : Nat → Nat → Int32) (z36_0 : Int32) (H : Heap) (locs : List Loc), va_P D vwCl (wWX12 cB cI cZ a0 I0_j36 L0_j36 M0_j36) H → va_D A (wWX12 cB cI cZ a0 I0_j36 L0_j36 M0_j36) → va_S A s.heap H locs → ∀ (ls : Array Slot), lv_has ls 9 [(0, .ref (a0 0)), (1, .int x1), (2, .int x2), (3, .int x3)] → fX12_order_J36 N x1 x2 x3 I0_j36 L0_j36 M0_j36 z36_0 = some R → W p l e (headSpec wsX12_order { frames := 2, cells := 0, slots := 0, locals := 43 }).room s m [.ref (a0 0), .int x1, .int x2, .int x3].toArray below meth c H locs 0 0 (MQ below (va_Qi (fun r (_ : Unit) => r = R.1) (fun _ t => wb_post D [(cB, .byte), (cI, .int), (cZ, .boolean)] A (wWX12 cB cI cZ a0 R.2.1 R.2.2.1 R.2.2.2) t) A) [.ref (a0 0), .int x1, .int x2, .int x3].toArray s 0 0 A) (F0 m 36 ls [.int z36_0, .ref (a0 0)]) := by
    intro I0_j36 L0_j36 M0_j36 z36_0 H locs hP hD hS ls hl hf
    unfold fX12_order_J36 at hf
    refine lv_iconst (v := (1 : Int32)) hx hb dX12_order_36 (by decide) ?_
    obtain ⟨r1, hr1, hf⟩ := wb_b hf
    have hPc := hP
    have hDc := hD
    have hFc := wj_F hDc hS hA
    refine va_calli (va_runV (As := [.int z36_0, .int (1 : Int32)]) (rest := []) ⟨hx, hb, hml, hown, hts⟩ (cn_X12_right l D cB cI cZ N a0 I0_j36 L0_j36 M0_j36 z36_0 (1 : Int32) H.size r1 hr1) (cwV 2 hts gX12_order_X12_right rfl rfl rfl cdX12_right ⟨Nat.le_of_ble_eq_true rfl, Nat.le_of_ble_eq_true rfl⟩) (wb_preDV hPc hK hDc (wr_12 hK hP (q0 := 0) rfl)) rfl rfl hl.1 rfl (lv_room (Nat.le_of_ble_eq_true rfl)) dX12_order_37 ⟨Nat.le_of_ble_eq_true rfl, Nat.le_of_ble_eq_true rfl⟩) hS (fun q _ h => hFc q h) hFc (fun r9 u t H locs ht hvm hw hB hz1 hk1 hS => ?_)
    obtain ⟨hP, hD⟩ := wj_0 hFc ht hB
    rw [hw]
    refine lv_if_ne (tgt := 45) hx hb dX12_order_40 (by decide) (fun hc => ?_) (fun hc => ?_)
    · replace hf := wb_f hc hf
      refine lv_iconst (v := (0 : Int32)) hx hb dX12_order_45 (by decide) ?_
      refine lv_istore (lv' := [(4, .int (0 : Int32)), (0, .ref (a0 0)), (1, .int x1), (2, .int x2), (3, .int x3)]) hx hb dX12_order_46 hl (by decide) rfl (fun ls hl => ?_)
      refine lv_iconst (v := (0 : Int32)) hx hb dX12_order_48 (by decide) ?_
      refine lv_istore (lv' := [(5, .int (0 : Int32)), (4, .int (0 : Int32)), (0, .ref (a0 0)), (1, .int x1), (2, .int x2), (3, .int x3)]) hx hb dX12_order_49 hl (by decide) rfl (fun ls hl => ?_)
      have Lh51 : ∀ (fu51 : Nat) (I0_l51 : Nat → Int32) (L0_l51 : Int64) (M0_l51 : Nat → Nat → Int32) (y51_4 : Int32) (y51_5 : Int32) (H : Heap) (locs : List Loc), va_P D vwCl (wWX12 cB cI cZ a0 I0_l51 L0_l51 M0_l51) H → va_D A (wWX12 cB cI cZ a0 I0_l51 L0_l51 M0_l51) → va_S A s.heap H locs → ∀ (ls : Array Slot), lv_has ls 9 [(0, .ref (a0 0)), (1, .int x1), (2, .int x2), (3, .int x3), (4, .int y51_4), (5, .int y51_5)] → fX12_order_L51 N x1 x2 x3 fu51 I0_l51 L0_l51 M0_l51 y51_4 y51_5 = some R → W p l e (headSpec wsX12_order { frames := 2, cells := 0, slots := 0, locals := 43 }).room s m [.ref (a0 0), .int x1, .int x2, .int x3].toArray below meth c H locs 0 0 (MQ below (va_Qi (fun r (_ : Unit) => r = R.1) (fun _ t => wb_post D [(cB, .byte), (cI, .int), (cZ, .boolean)] A (wWX12 cB cI cZ a0 R.2.1 R.2.2.1 R.2.2.2) t) A) [.ref (a0 0), .int x1, .int x2, .int x3].toArray s 0 0 A) (F0 m 51 ls []) := by
        intro fu51
        induction fu51 with
        | zero =>
          intro I0_l51 L0_l51 M0_l51 y51_4 y51_5 H locs hP hD hS ls hl hf
          exact absurd hf (by rw [fX12_order_L51.eq_1]; exact fun h => nomatch h)
        | succ fu51 ih51 =>
          intro I0_l51 L0_l51 M0_l51 y51_4 y51_5 H locs hP hD hS ls hl hf
          rw [fX12_order_L51.eq_2] at hf
          refine lv_iload hx hb dX12_order_51 (lv_at hl 5 rfl) ?_
          refine lv_aload_n hx hb dX12_order_53 rfl (lv_at hl 0 rfl) ?_
          refine va_get (D := D) (ci := 12) (v := .ref (a0 28)) (C := RX12) (T := TX12) (N := 58) hx hb hts hinX12 hown hK hP 0 rfl rfl 47 (by decide) (hts (.fieldLink RX12 99 "WheelBookModel" "leaves" "[I") (List.mem_of_getElem? (i := 2) rfl)) (fun _ h9 => h9) rfl dX12_order_54 ?_
          refine lv_iload_n hx hb dX12_order_57 rfl (lv_at hl 1 rfl) ?_
          obtain ⟨hin, hf⟩ := wb_n hf
          refine va_iald hx hb hK hP 28 1 rfl rfl hin dX12_order_58 ?_
          refine lv_icmp_ge (tgt := 108) hx hb dX12_order_59 (by decide) (fun hc => ?_) (fun hc => ?_)
          · replace hf := wb_t hc hf
            refine lv_iconst (v := (0 : Int32)) hx hb dX12_order_108 (by decide) ?_
            refine lv_istore (lv' := [(5, .int (0 : Int32)), (0, .ref (a0 0)), (1, .int x1), (2, .int x2), (3, .int x3), (4, .int y51_4)]) hx hb dX12_order_109 hl (by decide) rfl (fun ls hl => ?_)
            refine lv_iconst (v := (0 : Int32)) hx hb dX12_order_111 (by decide) ?_
            refine lv_istore (lv' := [(6, .int (0 : Int32)), (5, .int (0 : Int32)), (0, .ref (a0 0)), (1, .int x1), (2, .int x2), (3, .int x3), (4, .int y51_4)]) hx hb dX12_order_112 hl (by decide) rfl (fun ls hl => ?_)
            refine lv_iconst (v := (0 : Int32)) hx hb dX12_order_114 (by decide) ?_
            refine lv_istore (lv' := [(7, .int (0 : Int32)), (6, .int (0 : Int32)), (5, .int (0 : Int32)), (0, .ref (a0 0)), (1, .int x1), (2, .int x2), (3, .int x3), (4, .int y51_4)]) hx hb dX12_order_115 hl (by decide) rfl (fun ls hl => ?_)
            have Lh117 : ∀ (fu117 : Nat) (I0_l117 : Nat → Int32) (L0_l117 : Int64) (M0_l117 : Nat → Nat → Int32) (y117_5 : Int32) (y117_6 : Int32) (y117_7 : Int32) (H : Heap) (locs : List Loc), va_P D vwCl (wWX12 cB cI cZ a0 I0_l117 L0_l117 M0_l117) H → va_D A (wWX12 cB cI cZ a0 I0_l117 L0_l117 M0_l117) → va_S A s.heap H locs → ∀ (ls : Array Slot), lv_has ls 9 [(0, .ref (a0 0)), (3, .int x3), (4, .int y51_4), (5, .int y117_5), (6, .int y117_6), (7, .int y117_7)] → fX12_order_L117 N x1 x2 x3 y51_4 (fX12_order_L51 N x1 x2 x3 fu51) fu117 I0_l117 L0_l117 M0_l117 y117_5 y117_6 y117_7 = some R → W p l e (headSpec wsX12_order { frames := 2, cells := 0, slots := 0, locals := 43 }).room s m [.ref (a0 0), .int x1, .int x2, .int x3].toArray below meth c H locs 0 0 (MQ below (va_Qi (fun r (_ : Unit) => r = R.1) (fun _ t => wb_post D [(cB, .byte), (cI, .int), (cZ, .boolean)] A (wWX12 cB cI cZ a0 R.2.1 R.2.2.1 R.2.2.2) t) A) [.ref (a0 0), .int x1, .int x2, .int x3].toArray s 0 0 A) (F0 m 117 ls []) := by
              intro fu117
              induction fu117 with
              | zero =>
                intro I0_l117 L0_l117 M0_l117 y117_5 y117_6 y117_7 H locs hP hD hS ls hl hf
                exact absurd hf (by rw [fX12_order_L117.eq_1]; exact fun h => nomatch h)
              | succ fu117 ih117 =>
                intro I0_l117 L0_l117 M0_l117 y117_5 y117_6 y117_7 H locs hP hD hS ls hl hf
                rw [fX12_order_L117.eq_2] at hf
                refine lv_iload hx hb dX12_order_117 (lv_at hl 5 rfl) ?_
                refine lv_iload hx hb dX12_order_119 (lv_at hl 2 rfl) ?_
                refine lv_icmp_ge (tgt := 238) hx hb dX12_order_121 (by decide) (fun hc => ?_) (fun hc => ?_)
                · replace hf := wb_t hc hf
                  refine lv_iload_n hx hb dX12_order_238 rfl (lv_at hl 1 rfl) ?_
                  refine lv_if_ne (tgt := 247) hx hb dX12_order_239 (by decide) (fun hc => ?_) (fun hc => ?_)
                  · replace hf := wb_f hc hf
                    refine lv_iload hx hb dX12_order_247 (lv_at hl 4 rfl) ?_
                    exact W.iret (v := y117_6) hx hb hr (fun t ht hW => by rw [← Option.some.inj hf]; exact ⟨⟨y117_6, (), rfl, rfl, by rw [ht]; exact hP, va_K.moved hW.alike hK, hD⟩, hS.F ht⟩) hS.2.2 dX12_order_249
                  · replace hf := wb_t hc hf
                    refine lv_iload hx hb dX12_order_242 (lv_at hl 3 rfl) ?_
                    refine lv_goto (tgt := 249) hx hb dX12_order_244 (by decide) ?_
                    exact W.iret (v := y117_5) hx hb hr (fun t ht hW => by rw [← Option.some.inj hf]; exact ⟨⟨y117_5, (), rfl, rfl, by rw [ht]; exact hP, va_K.moved hW.alike hK, hD⟩, hS.F ht⟩) hS.2.2 dX12_order_249
                · replace hf := wb_f hc hf
                  refine lv_aload_n hx hb dX12_order_124 rfl (lv_at hl 0 rfl) ?_
                  refine va_get (D := D) (ci := 12) (v := .ref (a0 31)) (C := RX12) (T := TX12) (N := 58) hx hb hts hinX12 hown hK hP 0 rfl rfl 50 (by decide) (hts (.fieldLink RX12 108 "WheelBookModel" "longest" "[I") (List.mem_of_getElem? (i := 5) rfl)) (fun _ h9 => h9) rfl dX12_order_125 ?_
                  refine lv_iload hx hb dX12_order_128 (lv_at hl 5 rfl) ?_
                  refine lv_iconst (v := (1 : Int32)) hx hb dX12_order_130 (by decide) ?_
                  obtain ⟨hin, hf⟩ := wb_n hf
                  refine va_iast hx hb hK hP hD hS 31 1 rfl rfl hin dX12_order_131 (fun H locs hP hD hS => ?_)
                  have hP : va_P D vwCl (wWX12 cB cI cZ a0 I0_l117 L0_l117 (wb_um M0_l117 30 (y117_7).toNatClampNeg (1 : Int32))) H := hP
                  have hD : va_D A (wWX12 cB cI cZ a0 I0_l117 L0_l117 (wb_um M0_l117 30 (y117_7).toNatClampNeg (1 : Int32))) := hD
                  obtain ⟨M0_2, eM0_2, hf⟩ := wb_v hf
                  rw [← eM0_2] at hP hD
                  refine lv_iconst (v := (0 : Int32)) hx hb dX12_order_132 (by decide) ?_
                  refine lv_istore (lv' := [(8, .int (0 : Int32)), (0, .ref (a0 0)), (3, .int x3), (4, .int y51_4), (5, .int y117_5), (6, .int y117_6), (7, .int y117_7)]) hx hb dX12_order_133 hl (by decide) rfl (fun ls hl => ?_)
                  have Lh135 : ∀ (fu135 : Nat) (I0_l135 : Nat → Int32) (L0_l135 : Int64) (M0_l135 : Nat → Nat → Int32) (y135_6 : Int32) (y135_8 : Int32) (H : Heap) (locs : List Loc), va_P D vwCl (wWX12 cB cI cZ a0 I0_l135 L0_l135 M0_l135) H → va_D A (wWX12 cB cI cZ a0 I0_l135 L0_l135 M0_l135) → va_S A s.heap H locs → ∀ (ls : Array Slot), lv_has ls 9 [(0, .ref (a0 0)), (3, .int x3), (4, .int y51_4), (5, .int y117_5), (6, .int y135_6), (7, .int y117_7), (8, .int y135_8)] → fX12_order_L135 N x1 x2 x3 y117_5 y117_7 y51_4 (fX12_order_L51 N x1 x2 x3 fu51) (fX12_order_L117 N x1 x2 x3 y51_4 (fX12_order_L51 N x1 x2 x3 fu51) fu117) fu135 I0_l135 L0_l135 M0_l135 y135_6 y135_8 = some R → W p l e (headSpec wsX12_order { frames := 2, cells := 0, slots := 0, locals := 43 }).room s m [.ref (a0 0), .int x1, .int x2, .int x3].toArray below meth c H locs 0 0 (MQ below (va_Qi (fun r (_ : Unit) => r = R.1) (fun _ t => wb_post D [(cB, .byte), (cI, .int), (cZ, .boolean)] A (wWX12 cB cI cZ a0 R.2.1 R.2.2.1 R.2.2.2) t) A) [.ref (a0 0), .int x1, .int x2, .int x3].toArray s 0 0 A) (F0 m 135 ls []) := by
                    intro fu135
                    induction fu135 with
                    | zero =>
                      intro I0_l135 L0_l135 M0_l135 y135_6 y135_8 H locs hP hD hS ls hl hf
                      exact absurd hf (by rw [fX12_order_L135.eq_1]; exact fun h => nomatch h)
                    | succ fu135 ih135 =>
                      intro I0_l135 L0_l135 M0_l135 y135_6 y135_8 H locs hP hD hS ls hl hf
                      rw [fX12_order_L135.eq_2] at hf
                      refine lv_iload hx hb dX12_order_135 (lv_at hl 6 rfl) ?_
                      refine lv_iload hx hb dX12_order_137 (lv_at hl 5 rfl) ?_
                      refine lv_icmp_ge (tgt := 206) hx hb dX12_order_139 (by decide) (fun hc => ?_) (fun hc => ?_)
                      · replace hf := wb_t hc hf
                        refine lv_aload_n hx hb dX12_order_206 rfl (lv_at hl 0 rfl) ?_
                        refine va_get (D := D) (ci := 12) (v := .ref (a0 31)) (C := RX12) (T := TX12) (N := 58) hx hb hts hinX12 hown hK hP 0 rfl rfl 50 (by decide) (hts (.fieldLink RX12 108 "WheelBookModel" "longest" "[I") (List.mem_of_getElem? (i := 5) rfl)) (fun _ h9 => h9) rfl dX12_order_207 ?_
                        refine lv_iload hx hb dX12_order_210 (lv_at hl 5 rfl) ?_
                        obtain ⟨hin, hf⟩ := wb_n hf
                        refine va_iald hx hb hK hP 31 1 rfl rfl hin dX12_order_212 ?_
                        refine lv_iload hx hb dX12_order_213 (lv_at hl 3 rfl) ?_
                        refine lv_icmp_le (tgt := 228) hx hb dX12_order_215 (by decide) (fun hc => ?_) (fun hc => ?_)
                        · replace hf := wb_t hc hf
                          refine lv_iload hx hb dX12_order_228 (lv_at hl 3 rfl) ?_
                          refine lv_istore (lv' := [(5, .int y117_5), (0, .ref (a0 0)), (3, .int x3), (4, .int y51_4), (6, .int y135_6), (7, .int y117_7), (8, .int y135_8)]) hx hb dX12_order_230 hl (by decide) rfl (fun ls hl => ?_)
                          obtain ⟨v3, ev3, hf⟩ := wb_v hf
                          refine lv_iinc (v := v3) (lv' := [(7, .int v3), (5, .int y117_5), (0, .ref (a0 0)), (3, .int x3), (4, .int y51_4), (6, .int y135_6), (8, .int y135_8)]) hx hb dX12_order_232 hl (k := 5) rfl (by rw [ev3]; rfl) (by decide) rfl (fun ls hl => ?_)
                          refine lv_goto (tgt := 117) hx hb dX12_order_235 (by decide) ?_
                          exact ih117 I0_l135 L0_l135 M0_l135 y117_5 y135_6 v3 H locs hP hD hS ls (lv_sub hl [2, 3, 4, 1, 5, 0] rfl) hf
                        · replace hf := wb_f hc hf
                          refine lv_aload_n hx hb dX12_order_218 rfl (lv_at hl 0 rfl) ?_
                          refine va_get (D := D) (ci := 12) (v := .ref (a0 31)) (C := RX12) (T := TX12) (N := 58) hx hb hts hinX12 hown hK hP 0 rfl rfl 50 (by decide) (hts (.fieldLink RX12 108 "WheelBookModel" "longest" "[I") (List.mem_of_getElem? (i := 5) rfl)) (fun _ h9 => h9) rfl dX12_order_219 ?_
                          refine lv_iload hx hb dX12_order_222 (lv_at hl 5 rfl) ?_
                          obtain ⟨hin, hf⟩ := wb_n hf
                          refine va_iald hx hb hK hP 31 1 rfl rfl hin dX12_order_224 ?_
                          refine lv_goto (tgt := 230) hx hb dX12_order_225 (by decide) ?_
                          obtain ⟨v4, ev4, hf⟩ := wb_v hf
                          refine wb_topi ev4 ?_
                          refine lv_istore (lv' := [(5, .int v4), (0, .ref (a0 0)), (3, .int x3), (4, .int y51_4), (6, .int y135_6), (7, .int y117_7), (8, .int y135_8)]) hx hb dX12_order_230 hl (by decide) rfl (fun ls hl => ?_)
                          obtain ⟨v5, ev5, hf⟩ := wb_v hf
                          refine lv_iinc (v := v5) (lv' := [(7, .int v5), (5, .int v4), (0, .ref (a0 0)), (3, .int x3), (4, .int y51_4), (6, .int y135_6), (8, .int y135_8)]) hx hb dX12_order_232 hl (k := 5) rfl (by rw [ev5]; rfl) (by decide) rfl (fun ls hl => ?_)
                          refine lv_goto (tgt := 117) hx hb dX12_order_235 (by decide) ?_
                          exact ih117 I0_l135 L0_l135 M0_l135 v4 y135_6 v5 H locs hP hD hS ls (lv_sub hl [2, 3, 4, 1, 5, 0] rfl) hf
                      · replace hf := wb_f hc hf
                        refine lv_aload_n hx hb dX12_order_142 rfl (lv_at hl 0 rfl) ?_
                        refine va_get (D := D) (ci := 12) (v := .ref (a0 30)) (C := RX12) (T := TX12) (N := 58) hx hb hts hinX12 hown hK hP 0 rfl rfl 49 (by decide) (hts (.fieldLink RX12 105 "WheelBookModel" "inOther" "[I") (List.mem_of_getElem? (i := 4) rfl)) (fun _ h9 => h9) rfl dX12_order_143 ?_
                        refine lv_iload hx hb dX12_order_146 (lv_at hl 6 rfl) ?_
                        obtain ⟨hin, hf⟩ := wb_n hf
                        refine va_iald hx hb hK hP 30 1 rfl rfl hin dX12_order_148 ?_
                        refine lv_aload_n hx hb dX12_order_149 rfl (lv_at hl 0 rfl) ?_
                        refine va_get (D := D) (ci := 12) (v := .ref (a0 30)) (C := RX12) (T := TX12) (N := 58) hx hb hts hinX12 hown hK hP 0 rfl rfl 49 (by decide) (hts (.fieldLink RX12 105 "WheelBookModel" "inOther" "[I") (List.mem_of_getElem? (i := 4) rfl)) (fun _ h9 => h9) rfl dX12_order_150 ?_
                        refine lv_iload hx hb dX12_order_153 (lv_at hl 5 rfl) ?_
                        obtain ⟨hin, hf⟩ := wb_n hf
                        refine va_iald hx hb hK hP 30 1 rfl rfl hin dX12_order_155 ?_
                        refine lv_icmp_le (tgt := 165) hx hb dX12_order_156 (by decide) (fun hc => ?_) (fun hc => ?_)
                        · replace hf := wb_t hc hf
                          refine lv_aload_n hx hb dX12_order_165 rfl (lv_at hl 0 rfl) ?_
                          refine va_get (D := D) (ci := 12) (v := .ref (a0 31)) (C := RX12) (T := TX12) (N := 58) hx hb hts hinX12 hown hK hP 0 rfl rfl 50 (by decide) (hts (.fieldLink RX12 108 "WheelBookModel" "longest" "[I") (List.mem_of_getElem? (i := 5) rfl)) (fun _ h9 => h9) rfl dX12_order_166 ?_
                          refine lv_iload hx hb dX12_order_169 (lv_at hl 6 rfl) ?_
                          obtain ⟨hin, hf⟩ := wb_n hf
                          refine va_iald hx hb hK hP 31 1 rfl rfl hin dX12_order_171 ?_
                          refine lv_iconst (v := (1 : Int32)) hx hb dX12_order_172 (by decide) ?_
                          refine lv_iadd hx hb dX12_order_173 ?_
                          refine lv_aload_n hx hb dX12_order_174 rfl (lv_at hl 0 rfl) ?_
                          refine va_get (D := D) (ci := 12) (v := .ref (a0 31)) (C := RX12) (T := TX12) (N := 58) hx hb hts hinX12 hown hK hP 0 rfl rfl 50 (by decide) (hts (.fieldLink RX12 108 "WheelBookModel" "longest" "[I") (List.mem_of_getElem? (i := 5) rfl)) (fun _ h9 => h9) rfl dX12_order_175 ?_
                          refine lv_iload hx hb dX12_order_178 (lv_at hl 5 rfl) ?_
                          obtain ⟨hin, hf⟩ := wb_n hf
                          refine va_iald hx hb hK hP 31 1 rfl rfl hin dX12_order_180 ?_
                          refine lv_icmp_le (tgt := 200) hx hb dX12_order_181 (by decide) (fun hc => ?_) (fun hc => ?_)
                          · replace hf := wb_t hc hf
                            obtain ⟨v6, ev6, hf⟩ := wb_v hf
                            refine lv_iinc (v := v6) (lv' := [(8, .int v6), (0, .ref (a0 0)), (3, .int x3), (4, .int y51_4), (5, .int y117_5), (6, .int y135_6), (7, .int y117_7)]) hx hb dX12_order_200 hl (k := 6) rfl (by rw [ev6]; rfl) (by decide) rfl (fun ls hl => ?_)
                            refine lv_goto (tgt := 135) hx hb dX12_order_203 (by decide) ?_
                            exact ih135 I0_l135 L0_l135 M0_l135 y135_6 v6 H locs hP hD hS ls (lv_sub hl [1, 2, 3, 4, 5, 6, 0] rfl) hf
                          · replace hf := wb_f hc hf
                            refine lv_aload_n hx hb dX12_order_184 rfl (lv_at hl 0 rfl) ?_
                            refine va_get (D := D) (ci := 12) (v := .ref (a0 31)) (C := RX12) (T := TX12) (N := 58) hx hb hts hinX12 hown hK hP 0 rfl rfl 50 (by decide) (hts (.fieldLink RX12 108 "WheelBookModel" "longest" "[I") (List.mem_of_getElem? (i := 5) rfl)) (fun _ h9 => h9) rfl dX12_order_185 ?_
                            refine lv_iload hx hb dX12_order_188 (lv_at hl 5 rfl) ?_
                            refine lv_aload_n hx hb dX12_order_190 rfl (lv_at hl 0 rfl) ?_
                            refine va_get (D := D) (ci := 12) (v := .ref (a0 31)) (C := RX12) (T := TX12) (N := 58) hx hb hts hinX12 hown hK hP 0 rfl rfl 50 (by decide) (hts (.fieldLink RX12 108 "WheelBookModel" "longest" "[I") (List.mem_of_getElem? (i := 5) rfl)) (fun _ h9 => h9) rfl dX12_order_191 ?_
                            refine lv_iload hx hb dX12_order_194 (lv_at hl 6 rfl) ?_
                            obtain ⟨hin, hf⟩ := wb_n hf
                            refine va_iald hx hb hK hP 31 1 rfl rfl hin dX12_order_196 ?_
                            refine lv_iconst (v := (1 : Int32)) hx hb dX12_order_197 (by decide) ?_
                            refine lv_iadd hx hb dX12_order_198 ?_
                            obtain ⟨hin, hf⟩ := wb_n hf
                            refine va_iast hx hb hK hP hD hS 31 1 rfl rfl hin dX12_order_199 (fun H locs hP hD hS => ?_)
                            have hP : va_P D vwCl (wWX12 cB cI cZ a0 I0_l135 L0_l135 (wb_um M0_l135 30 (y117_7).toNatClampNeg ((M0_l135 30 (y135_8).toNatClampNeg) + (1 : Int32)))) H := hP
                            have hD : va_D A (wWX12 cB cI cZ a0 I0_l135 L0_l135 (wb_um M0_l135 30 (y117_7).toNatClampNeg ((M0_l135 30 (y135_8).toNatClampNeg) + (1 : Int32)))) := hD
                            obtain ⟨M0_7, eM0_7, hf⟩ := wb_v hf
                            rw [← eM0_7] at hP hD
                            obtain ⟨v8, ev8, hf⟩ := wb_v hf
                            refine lv_iinc (v := v8) (lv' := [(8, .int v8), (0, .ref (a0 0)), (3, .int x3), (4, .int y51_4), (5, .int y117_5), (6, .int y135_6), (7, .int y117_7)]) hx hb dX12_order_200 hl (k := 6) rfl (by rw [ev8]; rfl) (by decide) rfl (fun ls hl => ?_)
                            refine lv_goto (tgt := 135) hx hb dX12_order_203 (by decide) ?_
                            exact ih135 I0_l135 L0_l135 M0_7 y135_6 v8 H locs hP hD hS ls (lv_sub hl [1, 2, 3, 4, 5, 6, 0] rfl) hf
                        · replace hf := wb_f hc hf
                          obtain ⟨v9, ev9, hf⟩ := wb_v hf
                          refine lv_iinc (v := v9) (lv' := [(6, .int v9), (0, .ref (a0 0)), (3, .int x3), (4, .int y51_4), (5, .int y117_5), (7, .int y117_7), (8, .int y135_8)]) hx hb dX12_order_159 hl (k := 4) rfl (by rw [ev9]; rfl) (by decide) rfl (fun ls hl => ?_)
                          refine lv_goto (tgt := 200) hx hb dX12_order_162 (by decide) ?_
                          obtain ⟨v10, ev10, hf⟩ := wb_v hf
                          refine lv_iinc (v := v10) (lv' := [(8, .int v10), (6, .int v9), (0, .ref (a0 0)), (3, .int x3), (4, .int y51_4), (5, .int y117_5), (7, .int y117_7)]) hx hb dX12_order_200 hl (k := 6) rfl (by rw [ev10]; rfl) (by decide) rfl (fun ls hl => ?_)
                          refine lv_goto (tgt := 135) hx hb dX12_order_203 (by decide) ?_
                          exact ih135 I0_l135 L0_l135 M0_l135 v9 v10 H locs hP hD hS ls (lv_sub hl [2, 3, 4, 5, 1, 6, 0] rfl) hf
                  exact Lh135 N I0_l117 L0_l117 M0_2 y117_6 (0 : Int32) H locs hP hD hS ls (lv_sub hl [1, 2, 3, 4, 5, 6, 0] rfl) hf
            exact Lh117 N I0_l51 L0_l51 M0_l51 (0 : Int32) (0 : Int32) (0 : Int32) H locs hP hD hS ls (lv_sub hl [3, 6, 7, 2, 1, 0] rfl) hf
          · replace hf := wb_f hc hf
            refine lv_aload_n hx hb dX12_order_62 rfl (lv_at hl 0 rfl) ?_
            refine lv_iload_n hx hb dX12_order_63 rfl (lv_at hl 2 rfl) ?_
            refine lv_aload_n hx hb dX12_order_64 rfl (lv_at hl 0 rfl) ?_
            refine va_get (D := D) (ci := 12) (v := .ref (a0 29)) (C := RX12) (T := TX12) (N := 58) hx hb hts hinX12 hown hK hP 0 rfl rfl 48 (by decide) (hts (.fieldLink RX12 102 "WheelBookModel" "leaf" "[I") (List.mem_of_getElem? (i := 3) rfl)) (fun _ h9 => h9) rfl dX12_order_65 ?_
            refine lv_bipush (v := (20 : Int32)) hx hb dX12_order_68 (by decide) ?_
            refine lv_iload_n hx hb dX12_order_70 rfl (lv_at hl 1 rfl) ?_
            refine lv_imul hx hb dX12_order_71 ?_
            refine lv_iload hx hb dX12_order_72 (lv_at hl 5 rfl) ?_
            refine lv_iadd hx hb dX12_order_74 ?_
            obtain ⟨hin, hf⟩ := wb_n hf
            refine va_iald hx hb hK hP 29 1 rfl rfl hin dX12_order_75 ?_
            obtain ⟨r11, hr11, hf⟩ := wb_b hf
            refine vp_callSi (W.runV (As := [.int x2, .int (M0_l51 28 ((((20 : Int32) * x1) + y51_5)).toNatClampNeg)]) (rest := []) ⟨hx, hb, hml, hown, hts⟩ (cn_X12_leafAt l D cB cI cZ N a0 I0_l51 L0_l51 M0_l51 x2 (M0_l51 28 ((((20 : Int32) * x1) + y51_5)).toNatClampNeg) r11 hr11) (cwV 2 hts gX12_order_X12_leafAt rfl rfl rfl cdX12_leafAt ⟨Nat.le_of_ble_eq_true rfl, Nat.le_of_ble_eq_true rfl⟩) (wb_preV hP hK (wr_12 hK hP (q0 := 0) rfl)) rfl rfl hl.1 rfl (lv_room (Nat.le_of_ble_eq_true rfl)) dX12_order_76 ⟨Nat.le_of_ble_eq_true rfl, Nat.le_of_ble_eq_true rfl⟩) (fun r9 e9 => ?_)
            rw [e9]
            refine lv_istore (lv' := [(6, .int r11), (0, .ref (a0 0)), (1, .int x1), (2, .int x2), (3, .int x3), (4, .int y51_4), (5, .int y51_5)]) hx hb dX12_order_79 hl (by decide) rfl (fun ls hl => ?_)
            refine lv_iload hx hb dX12_order_81 (lv_at hl 0 rfl) ?_
            refine lv_iconst (v := (-1 : Int32)) hx hb dX12_order_83 (by decide) ?_
            refine lv_icmp_ne (tgt := 90) hx hb dX12_order_84 (by decide) (fun hc => ?_) (fun hc => ?_)
            · replace hf := wb_f hc hf
              refine lv_aload_n hx hb dX12_order_90 rfl (lv_at hl 1 rfl) ?_
              refine va_get (D := D) (ci := 12) (v := .ref (a0 30)) (C := RX12) (T := TX12) (N := 58) hx hb hts hinX12 hown hK hP 0 rfl rfl 49 (by decide) (hts (.fieldLink RX12 105 "WheelBookModel" "inOther" "[I") (List.mem_of_getElem? (i := 4) rfl)) (fun _ h9 => h9) rfl dX12_order_91 ?_
              refine lv_iload hx hb dX12_order_94 (lv_at hl 5 rfl) ?_
              refine lv_iload hx hb dX12_order_96 (lv_at hl 0 rfl) ?_
              obtain ⟨hin, hf⟩ := wb_n hf
              refine va_iast hx hb hK hP hD hS 30 1 rfl rfl hin dX12_order_98 (fun H locs hP hD hS => ?_)
              have hP : va_P D vwCl (wWX12 cB cI cZ a0 I0_l51 L0_l51 (wb_um M0_l51 29 (y51_4).toNatClampNeg r11)) H := hP
              have hD : va_D A (wWX12 cB cI cZ a0 I0_l51 L0_l51 (wb_um M0_l51 29 (y51_4).toNatClampNeg r11)) := hD
              obtain ⟨M0_12, eM0_12, hf⟩ := wb_v hf
              rw [← eM0_12] at hP hD
              obtain ⟨v13, ev13, hf⟩ := wb_v hf
              refine lv_iinc (v := v13) (lv' := [(4, .int v13), (6, .int r11), (0, .ref (a0 0)), (1, .int x1), (2, .int x2), (3, .int x3), (5, .int y51_5)]) hx hb dX12_order_99 hl (k := 5) rfl (by rw [ev13]; rfl) (by decide) rfl (fun ls hl => ?_)
              obtain ⟨v14, ev14, hf⟩ := wb_v hf
              refine lv_iinc (v := v14) (lv' := [(5, .int v14), (4, .int v13), (6, .int r11), (0, .ref (a0 0)), (1, .int x1), (2, .int x2), (3, .int x3)]) hx hb dX12_order_102 hl (k := 6) rfl (by rw [ev14]; rfl) (by decide) rfl (fun ls hl => ?_)
              refine lv_goto (tgt := 51) hx hb dX12_order_105 (by decide) ?_
              exact ih51 I0_l51 L0_l51 M0_12 v13 v14 H locs hP hD hS ls (lv_sub hl [3, 4, 5, 6, 1, 0] rfl) hf
            · replace hf := wb_t hc hf
              refine lv_goto (tgt := 102) hx hb dX12_order_87 (by decide) ?_
              obtain ⟨v15, ev15, hf⟩ := wb_v hf
              refine lv_iinc (v := v15) (lv' := [(5, .int v15), (6, .int r11), (0, .ref (a0 0)), (1, .int x1), (2, .int x2), (3, .int x3), (4, .int y51_4)]) hx hb dX12_order_102 hl (k := 6) rfl (by rw [ev15]; rfl) (by decide) rfl (fun ls hl => ?_)
              refine lv_goto (tgt := 51) hx hb dX12_order_105 (by decide) ?_
              exact ih51 I0_l51 L0_l51 M0_l51 y51_4 v15 H locs hP hD hS ls (lv_sub hl [2, 3, 4, 5, 6, 0] rfl) hf
      exact Lh51 N r1.2.1 r1.2.2.1 r1.2.2.2 (0 : Int32) (0 : Int32) H locs hP hD hS ls (lv_sub hl [2, 3, 4, 5, 1, 0] rfl) hf
    · replace hf := wb_t hc hf
      refine lv_iconst (v := (0 : Int32)) hx hb dX12_order_43 (by decide) ?_
      exact W.iret (v := (0 : Int32)) hx hb hr (fun t ht hW => by rw [← Option.some.inj hf]; exact ⟨⟨(0 : Int32), (), rfl, rfl, by rw [ht]; exact hP, va_K.moved hW.alike hK, hD⟩, hS.F ht⟩) hS.2.2 dX12_order_44
  have J31 : ∀ (I0_j31 : Nat → Int32) (L0_j31 : Int64) (M0_j31 : Nat → Nat → Int32) (H : Heap) (locs : List Loc), va_P D vwCl (wWX12 cB cI cZ a0 I0_j31 L0_j31 M0_j31) H → va_D A (wWX12 cB cI cZ a0 I0_j31 L0_j31 M0_j31) → va_S A s.heap H locs → ∀ (ls : Array Slot), lv_has ls 9 [(0, .ref (a0 0)), (1, .int x1), (2, .int x2), (3, .int x3)] → fX12_order_J31 N x1 x2 x3 I0_j31 L0_j31 M0_j31 = some R → W p l e (headSpec wsX12_order { frames := 2, cells := 0, slots := 0, locals := 43 }).room s m [.ref (a0 0), .int x1, .int x2, .int x3].toArray below meth c H locs 0 0 (MQ below (va_Qi (fun r (_ : Unit) => r = R.1) (fun _ t => wb_post D [(cB, .byte), (cI, .int), (cZ, .boolean)] A (wWX12 cB cI cZ a0 R.2.1 R.2.2.1 R.2.2.2) t) A) [.ref (a0 0), .int x1, .int x2, .int x3].toArray s 0 0 A) (F0 m 31 ls [.ref (a0 0)]) := by
    intro I0_j31 L0_j31 M0_j31 H locs hP hD hS ls hl hf
    unfold fX12_order_J31 at hf
    refine lv_iconst (v := (1 : Int32)) hx hb dX12_order_31 (by decide) ?_
    refine lv_goto (tgt := 36) hx hb dX12_order_32 (by decide) ?_
    exact J36 I0_j31 L0_j31 M0_j31 (1 : Int32) H locs hP hD hS ls (lv_sub hl [0, 1, 2, 3] rfl) hf
  refine lv_aload_n hx hb dX12_order_0 rfl (lv_at hl 0 rfl) ?_
  refine lv_iconst (v := (0 : Int32)) hx hb dX12_order_1 (by decide) ?_
  refine va_put (D := D) (ci := 12) (v := .int (0 : Int32)) (ty := .int) (C := RX12) (T := TX12) (N := 58) hx hb hts hinX12 tyX12 tyX12_ok nmX12 hown hK hP hD hS 0 rfl rfl 0 (by decide) (hts (.fieldLink RX12 129 "WheelBookModel" "thrown" "I") (List.mem_of_getElem? (i := 1) rfl)) (fun _ h9 => h9) rfl (by decide +kernel) rfl rfl (Nat.le_of_ble_eq_true rfl) dX12_order_2 (fun H locs hP hD hS => ?_)
  have hP : va_P D vwCl (wWX12 cB cI cZ a0 (upd I0 0 (0 : Int32)) L0 M0) H := hP
  have hD : va_D A (wWX12 cB cI cZ a0 (upd I0 0 (0 : Int32)) L0 M0) := hD
  obtain ⟨I0_16, eI0_16, hf⟩ := wb_v hf
  rw [← eI0_16] at hP hD
  refine lv_aload_n hx hb dX12_order_5 rfl (lv_at hl 0 rfl) ?_
  refine lv_iload_n hx hb dX12_order_6 rfl (lv_at hl 1 rfl) ?_
  obtain ⟨r17, hr17, hf⟩ := wb_b hf
  have hPc := hP
  have hDc := hD
  have hFc := wj_F hDc hS hA
  refine va_calli (va_runV (As := [.int x1]) (rest := []) ⟨hx, hb, hml, hown, hts⟩ (cn_X12_isBook l D cB cI cZ N a0 I0_16 L0 M0 x1 H.size r17 hr17) (cwV 1 hts gX12_order_X12_isBook rfl rfl rfl cdX12_isBook ⟨Nat.le_of_ble_eq_true rfl, Nat.le_of_ble_eq_true rfl⟩) (wb_preDV hPc hK hDc (wr_12 hK hP (q0 := 0) rfl)) rfl rfl hl.1 rfl (lv_room (Nat.le_of_ble_eq_true rfl)) dX12_order_7 ⟨Nat.le_of_ble_eq_true rfl, Nat.le_of_ble_eq_true rfl⟩) hS (fun q _ h => hFc q h) hFc (fun r9 u t H locs ht hvm hw hB hz1 hk1 hS => ?_)
  obtain ⟨hP, hD⟩ := wj_0 hFc ht hB
  rw [hw]
  refine lv_if_eq (tgt := 43) hx hb dX12_order_10 (by decide) (fun hc => ?_) (fun hc => ?_)
  · replace hf := wb_t hc hf
    refine lv_iconst (v := (0 : Int32)) hx hb dX12_order_43 (by decide) ?_
    exact W.iret (v := (0 : Int32)) hx hb hr (fun t ht hW => by rw [← Option.some.inj hf]; exact ⟨⟨(0 : Int32), (), rfl, rfl, by rw [ht]; exact hP, va_K.moved hW.alike hK, hD⟩, hS.F ht⟩) hS.2.2 dX12_order_44
  · replace hf := wb_f hc hf
    refine lv_aload_n hx hb dX12_order_13 rfl (lv_at hl 0 rfl) ?_
    refine lv_iload_n hx hb dX12_order_14 rfl (lv_at hl 2 rfl) ?_
    obtain ⟨r18, hr18, hf⟩ := wb_b hf
    have hPc := hP
    have hDc := hD
    have hFc := wj_F hDc hS hA
    refine va_calli (va_runV (As := [.int x2]) (rest := []) ⟨hx, hb, hml, hown, hts⟩ (cn_X12_isBook l D cB cI cZ N a0 r17.2.1 r17.2.2.1 r17.2.2.2 x2 H.size r18 hr18) (cwV 1 hts gX12_order_X12_isBook rfl rfl rfl cdX12_isBook ⟨Nat.le_of_ble_eq_true rfl, Nat.le_of_ble_eq_true rfl⟩) (wb_preDV hPc hK hDc (wr_12 hK hP (q0 := 0) rfl)) rfl rfl hl.1 rfl (lv_room (Nat.le_of_ble_eq_true rfl)) dX12_order_15 ⟨Nat.le_of_ble_eq_true rfl, Nat.le_of_ble_eq_true rfl⟩) hS (fun q _ h => hFc q h) hFc (fun r9 u t H locs ht hvm hw hB hz1 hk1 hS => ?_)
    obtain ⟨hP, hD⟩ := wj_0 hFc ht hB
    rw [hw]
    refine lv_if_eq (tgt := 43) hx hb dX12_order_18 (by decide) (fun hc => ?_) (fun hc => ?_)
    · replace hf := wb_t hc hf
      refine lv_iconst (v := (0 : Int32)) hx hb dX12_order_43 (by decide) ?_
      exact W.iret (v := (0 : Int32)) hx hb hr (fun t ht hW => by rw [← Option.some.inj hf]; exact ⟨⟨(0 : Int32), (), rfl, rfl, by rw [ht]; exact hP, va_K.moved hW.alike hK, hD⟩, hS.F ht⟩) hS.2.2 dX12_order_44
    · replace hf := wb_f hc hf
      refine lv_aload_n hx hb dX12_order_21 rfl (lv_at hl 0 rfl) ?_
      refine lv_iload_n hx hb dX12_order_22 rfl (lv_at hl 3 rfl) ?_
      refine lv_if_eq (tgt := 31) hx hb dX12_order_23 (by decide) (fun hc => ?_) (fun hc => ?_)
      · replace hf := wb_t hc hf
        exact J31 r18.2.1 r18.2.2.1 r18.2.2.2 H locs hP hD hS ls (lv_sub hl [0, 1, 2, 3] rfl) hf
      · replace hf := wb_f hc hf
        refine lv_iload_n hx hb dX12_order_26 rfl (lv_at hl 3 rfl) ?_
        refine lv_iconst (v := (1 : Int32)) hx hb dX12_order_27 (by decide) ?_
        refine lv_icmp_ne (tgt := 35) hx hb dX12_order_28 (by decide) (fun hc => ?_) (fun hc => ?_)
        · replace hf := wb_f hc hf
          refine lv_iconst (v := (0 : Int32)) hx hb dX12_order_35 (by decide) ?_
          exact J36 r18.2.1 r18.2.2.1 r18.2.2.2 (0 : Int32) H locs hP hD hS ls (lv_sub hl [0, 1, 2, 3] rfl) hf
        · replace hf := wb_t hc hf
          exact J31 r18.2.1 r18.2.2.1 r18.2.2.2 H locs hP hD hS ls (lv_sub hl [0, 1, 2, 3] rfl) hf

set_option maxHeartbeats 4000000 in
set_option maxRecDepth 100000 in
theorem cn_X12_areSame (l : Launch) (D : va_G) (cB cI cZ : ClassId) (N : Nat) (a0 : Nat → Nat) (I0 : Nat → Int32) (L0 : Int64) (M0 : Nat → Nat → Int32) (x1 : Int32) (x2 : Int32) (x3 : Int32) (R : Int32) (hf : fX12_areSame N I0 L0 M0 x1 x2 x3 = some R) : Met l yX12_areSame wsX12_areSame ({ frames := 3, cells := 0, slots := 0, locals := 69 }) (va_Pc [.ref (a0 0), .int x1, .int x2, .int x3] (wb_pre D [(cB, .byte), (cI, .int), (cZ, .boolean)] (wWX12 cB cI cZ a0 I0 L0 M0))) (vp_Si (fun r => r = R)) 0 0 (fun _ => False) := by
  refine Met.ofW (cc := cX12_areSame) (maxL := 8) (ret := (some .boolean)) pn_X12 rfl ?_
  intro p e s m args below meth c s₁ B hml hv
  obtain ⟨rfl, hP, hK⟩ := hv
  have hx := B.exec
  have hb := B.bytes
  have hr := B.returns
  have hts := atoms_spec (ws := wsX12_areSame) B.pre
  have hown : s.vm.findClass RX12 = some m.cls := (findClass_of_methodNamed B.named :)
  have hlocks := B.notSynchronized
  have hl := lv_entry ([.ref (a0 0), .int x1, .int x2, .int x3]) (n := 8) (Nat.le_of_ble_eq_true rfl)
  rw [lg_entry_eq]
  generalize (lg_sl ([.ref (a0 0), .int x1, .int x2, .int x3]) ++ List.replicate (8 - (lg_sl ([.ref (a0 0), .int x1, .int x2, .int x3])).length) Slot.unset).toArray = ls at hl ⊢
  have hl : lv_has ls 8 [(0, .ref (a0 0)), (1, .int x1), (2, .int x2), (3, .int x3)] := hl
  unfold fX12_areSame at hf
  refine lv_iconst (v := (0 : Int32)) hx hb dX12_areSame_0 (by decide) ?_
  refine lv_istore (lv' := [(4, .int (0 : Int32)), (0, .ref (a0 0)), (1, .int x1), (2, .int x2), (3, .int x3)]) hx hb dX12_areSame_1 hl (by decide) rfl (fun ls hl => ?_)
  refine lv_iconst (v := (0 : Int32)) hx hb dX12_areSame_3 (by decide) ?_
  refine lv_istore (lv' := [(5, .int (0 : Int32)), (4, .int (0 : Int32)), (0, .ref (a0 0)), (1, .int x1), (2, .int x2), (3, .int x3)]) hx hb dX12_areSame_4 hl (by decide) rfl (fun ls hl => ?_)
  have Lh6 : ∀ (fu6 : Nat) (y6_4 : Int32) (y6_5 : Int32), ∀ (ls : Array Slot), lv_has ls 8 [(0, .ref (a0 0)), (1, .int x1), (2, .int x2), (3, .int x3), (4, .int y6_4), (5, .int y6_5)] → fX12_areSame_L6 N I0 L0 M0 x1 x2 x3 fu6 y6_4 y6_5 = some R → W p l e (headSpec wsX12_areSame { frames := 3, cells := 0, slots := 0, locals := 69 }).room s m [.ref (a0 0), .int x1, .int x2, .int x3].toArray below meth c s.heap [] 0 0 (MQ below (vp_Si (fun r => r = R)) [.ref (a0 0), .int x1, .int x2, .int x3].toArray s 0 0 (fun _ => False)) (F0 m 6 ls []) := by
    intro fu6
    induction fu6 with
    | zero =>
      intro y6_4 y6_5 ls hl hf
      exact absurd hf (by rw [fX12_areSame_L6.eq_1]; exact fun h => nomatch h)
    | succ fu6 ih6 =>
      intro y6_4 y6_5 ls hl hf
      rw [fX12_areSame_L6.eq_2] at hf
      refine lv_iload hx hb dX12_areSame_6 (lv_at hl 5 rfl) ?_
      refine lv_bipush (v := (7 : Int32)) hx hb dX12_areSame_8 (by decide) ?_
      refine lv_icmp_ge (tgt := 81) hx hb dX12_areSame_10 (by decide) (fun hc => ?_) (fun hc => ?_)
      · replace hf := wb_t hc hf
        refine lv_iload hx hb dX12_areSame_81 (lv_at hl 4 rfl) ?_
        refine lv_iload_n hx hb dX12_areSame_83 rfl (lv_at hl 3 rfl) ?_
        refine lv_icmp_lt (tgt := 91) hx hb dX12_areSame_84 (by decide) (fun hc => ?_) (fun hc => ?_)
        · replace hf := wb_t hc hf
          refine lv_iconst (v := (0 : Int32)) hx hb dX12_areSame_91 (by decide) ?_
          exact W.zret (v := (0 : Int32)) hx hb hr (by decide) (fun t ht hW => ⟨_, rfl, Option.some.inj hf, ht⟩) (fun _ h => nomatch h) dX12_areSame_92
        · replace hf := wb_f hc hf
          refine lv_iconst (v := (1 : Int32)) hx hb dX12_areSame_87 (by decide) ?_
          refine lv_goto (tgt := 92) hx hb dX12_areSame_88 (by decide) ?_
          exact W.zret (v := (1 : Int32)) hx hb hr (by decide) (fun t ht hW => ⟨_, rfl, Option.some.inj hf, ht⟩) (fun _ h => nomatch h) dX12_areSame_92
      · replace hf := wb_f hc hf
        refine lv_aload_n hx hb dX12_areSame_13 rfl (lv_at hl 0 rfl) ?_
        refine lv_iload_n hx hb dX12_areSame_14 rfl (lv_at hl 1 rfl) ?_
        refine lv_iload hx hb dX12_areSame_15 (lv_at hl 5 rfl) ?_
        obtain ⟨r1, hr1, hf⟩ := wb_b hf
        refine vp_callSi (W.runV (As := [.int x1, .int y6_5]) (rest := []) ⟨hx, hb, hml, hown, hts⟩ (cn_X12_at l D cB cI cZ N a0 I0 L0 M0 x1 y6_5 r1 hr1) (cwV 2 hts gX12_areSame_X12_at rfl rfl rfl cdX12_at ⟨Nat.le_of_ble_eq_true rfl, Nat.le_of_ble_eq_true rfl⟩) (wb_preV hP hK (wr_12 hK hP (q0 := 0) rfl)) rfl rfl hl.1 rfl (lv_room (Nat.le_of_ble_eq_true rfl)) dX12_areSame_17 ⟨Nat.le_of_ble_eq_true rfl, Nat.le_of_ble_eq_true rfl⟩) (fun r9 e9 => ?_)
        rw [e9]
        refine lv_istore (lv' := [(6, .int r1), (0, .ref (a0 0)), (1, .int x1), (2, .int x2), (3, .int x3), (4, .int y6_4), (5, .int y6_5)]) hx hb dX12_areSame_20 hl (by decide) rfl (fun ls hl => ?_)
        refine lv_aload_n hx hb dX12_areSame_22 rfl (lv_at hl 1 rfl) ?_
        refine lv_iload_n hx hb dX12_areSame_23 rfl (lv_at hl 3 rfl) ?_
        refine lv_iload hx hb dX12_areSame_24 (lv_at hl 6 rfl) ?_
        obtain ⟨r2, hr2, hf⟩ := wb_b hf
        refine vp_callSi (W.runV (As := [.int x2, .int y6_5]) (rest := []) ⟨hx, hb, hml, hown, hts⟩ (cn_X12_at l D cB cI cZ N a0 I0 L0 M0 x2 y6_5 r2 hr2) (cwV 2 hts gX12_areSame_X12_at rfl rfl rfl cdX12_at ⟨Nat.le_of_ble_eq_true rfl, Nat.le_of_ble_eq_true rfl⟩) (wb_preV hP hK (wr_12 hK hP (q0 := 0) rfl)) rfl rfl hl.1 rfl (lv_room (Nat.le_of_ble_eq_true rfl)) dX12_areSame_26 ⟨Nat.le_of_ble_eq_true rfl, Nat.le_of_ble_eq_true rfl⟩) (fun r9 e9 => ?_)
        rw [e9]
        refine lv_istore (lv' := [(7, .int r2), (6, .int r1), (0, .ref (a0 0)), (1, .int x1), (2, .int x2), (3, .int x3), (4, .int y6_4), (5, .int y6_5)]) hx hb dX12_areSame_29 hl (by decide) rfl (fun ls hl => ?_)
        refine lv_iload hx hb dX12_areSame_31 (lv_at hl 1 rfl) ?_
        refine lv_iconst (v := (-1 : Int32)) hx hb dX12_areSame_33 (by decide) ?_
        refine lv_icmp_eq (tgt := 75) hx hb dX12_areSame_34 (by decide) (fun hc => ?_) (fun hc => ?_)
        · replace hf := wb_t hc hf
          obtain ⟨v3, ev3, hf⟩ := wb_v hf
          refine lv_iinc (v := v3) (lv' := [(5, .int v3), (7, .int r2), (6, .int r1), (0, .ref (a0 0)), (1, .int x1), (2, .int x2), (3, .int x3), (4, .int y6_4)]) hx hb dX12_areSame_75 hl (k := 7) rfl (by rw [ev3]; rfl) (by decide) rfl (fun ls hl => ?_)
          refine lv_goto (tgt := 6) hx hb dX12_areSame_78 (by decide) ?_
          exact ih6 y6_4 v3 ls (lv_sub hl [3, 4, 5, 6, 7, 0] rfl) hf
        · replace hf := wb_f hc hf
          refine lv_iload hx hb dX12_areSame_37 (lv_at hl 0 rfl) ?_
          refine lv_iconst (v := (-1 : Int32)) hx hb dX12_areSame_39 (by decide) ?_
          refine lv_icmp_ne (tgt := 46) hx hb dX12_areSame_40 (by decide) (fun hc => ?_) (fun hc => ?_)
          · replace hf := wb_f hc hf
            refine lv_aload_n hx hb dX12_areSame_46 rfl (lv_at hl 2 rfl) ?_
            refine lv_iload hx hb dX12_areSame_47 (lv_at hl 1 rfl) ?_
            refine lv_iload hx hb dX12_areSame_49 (lv_at hl 0 rfl) ?_
            obtain ⟨r4, hr4, hf⟩ := wb_b hf
            refine vp_callSi (W.runV (As := [.int r1, .int r2]) (rest := []) ⟨hx, hb, hml, hown, hts⟩ (cn_X12_costOf l D cB cI cZ N a0 I0 L0 M0 r1 r2 r4 hr4) (cwV 2 hts gX12_areSame_X12_costOf rfl rfl rfl cdX12_costOf ⟨Nat.le_of_ble_eq_true rfl, Nat.le_of_ble_eq_true rfl⟩) (wb_preV hP hK (wr_12 hK hP (q0 := 0) rfl)) rfl rfl hl.1 rfl (lv_room (Nat.le_of_ble_eq_true rfl)) dX12_areSame_51 ⟨Nat.le_of_ble_eq_true rfl, Nat.le_of_ble_eq_true rfl⟩) (fun r9 e9 => ?_)
            rw [e9]
            refine lv_iconst (v := (1 : Int32)) hx hb dX12_areSame_54 (by decide) ?_
            refine lv_icmp_le (tgt := 72) hx hb dX12_areSame_55 (by decide) (fun hc => ?_) (fun hc => ?_)
            · replace hf := wb_t hc hf
              obtain ⟨v5, ev5, hf⟩ := wb_v hf
              refine lv_iinc (v := v5) (lv' := [(4, .int v5), (7, .int r2), (6, .int r1), (0, .ref (a0 0)), (1, .int x1), (2, .int x2), (3, .int x3), (5, .int y6_5)]) hx hb dX12_areSame_72 hl (k := 6) rfl (by rw [ev5]; rfl) (by decide) rfl (fun ls hl => ?_)
              obtain ⟨v6, ev6, hf⟩ := wb_v hf
              refine lv_iinc (v := v6) (lv' := [(5, .int v6), (4, .int v5), (7, .int r2), (6, .int r1), (0, .ref (a0 0)), (1, .int x1), (2, .int x2), (3, .int x3)]) hx hb dX12_areSame_75 hl (k := 7) rfl (by rw [ev6]; rfl) (by decide) rfl (fun ls hl => ?_)
              refine lv_goto (tgt := 6) hx hb dX12_areSame_78 (by decide) ?_
              exact ih6 v5 v6 ls (lv_sub hl [4, 5, 6, 7, 1, 0] rfl) hf
            · replace hf := wb_f hc hf
              refine lv_aload_n hx hb dX12_areSame_58 rfl (lv_at hl 2 rfl) ?_
              refine lv_iload hx hb dX12_areSame_59 (lv_at hl 0 rfl) ?_
              refine lv_iload hx hb dX12_areSame_61 (lv_at hl 1 rfl) ?_
              obtain ⟨r7, hr7, hf⟩ := wb_b hf
              refine vp_callSi (W.runV (As := [.int r2, .int r1]) (rest := []) ⟨hx, hb, hml, hown, hts⟩ (cn_X12_costOf l D cB cI cZ N a0 I0 L0 M0 r2 r1 r7 hr7) (cwV 2 hts gX12_areSame_X12_costOf rfl rfl rfl cdX12_costOf ⟨Nat.le_of_ble_eq_true rfl, Nat.le_of_ble_eq_true rfl⟩) (wb_preV hP hK (wr_12 hK hP (q0 := 0) rfl)) rfl rfl hl.1 rfl (lv_room (Nat.le_of_ble_eq_true rfl)) dX12_areSame_63 ⟨Nat.le_of_ble_eq_true rfl, Nat.le_of_ble_eq_true rfl⟩) (fun r9 e9 => ?_)
              rw [e9]
              refine lv_iconst (v := (1 : Int32)) hx hb dX12_areSame_66 (by decide) ?_
              refine lv_icmp_le (tgt := 72) hx hb dX12_areSame_67 (by decide) (fun hc => ?_) (fun hc => ?_)
              · replace hf := wb_t hc hf
                obtain ⟨v8, ev8, hf⟩ := wb_v hf
                refine lv_iinc (v := v8) (lv' := [(4, .int v8), (7, .int r2), (6, .int r1), (0, .ref (a0 0)), (1, .int x1), (2, .int x2), (3, .int x3), (5, .int y6_5)]) hx hb dX12_areSame_72 hl (k := 6) rfl (by rw [ev8]; rfl) (by decide) rfl (fun ls hl => ?_)
                obtain ⟨v9, ev9, hf⟩ := wb_v hf
                refine lv_iinc (v := v9) (lv' := [(5, .int v9), (4, .int v8), (7, .int r2), (6, .int r1), (0, .ref (a0 0)), (1, .int x1), (2, .int x2), (3, .int x3)]) hx hb dX12_areSame_75 hl (k := 7) rfl (by rw [ev9]; rfl) (by decide) rfl (fun ls hl => ?_)
                refine lv_goto (tgt := 6) hx hb dX12_areSame_78 (by decide) ?_
                exact ih6 v8 v9 ls (lv_sub hl [4, 5, 6, 7, 1, 0] rfl) hf
              · replace hf := wb_f hc hf
                refine lv_iconst (v := (0 : Int32)) hx hb dX12_areSame_70 (by decide) ?_
                exact W.zret (v := (0 : Int32)) hx hb hr (by decide) (fun t ht hW => ⟨_, rfl, Option.some.inj hf, ht⟩) (fun _ h => nomatch h) dX12_areSame_71
          · replace hf := wb_t hc hf
            refine lv_goto (tgt := 75) hx hb dX12_areSame_43 (by decide) ?_
            obtain ⟨v10, ev10, hf⟩ := wb_v hf
            refine lv_iinc (v := v10) (lv' := [(5, .int v10), (7, .int r2), (6, .int r1), (0, .ref (a0 0)), (1, .int x1), (2, .int x2), (3, .int x3), (4, .int y6_4)]) hx hb dX12_areSame_75 hl (k := 7) rfl (by rw [ev10]; rfl) (by decide) rfl (fun ls hl => ?_)
            refine lv_goto (tgt := 6) hx hb dX12_areSame_78 (by decide) ?_
            exact ih6 y6_4 v10 ls (lv_sub hl [3, 4, 5, 6, 7, 0] rfl) hf
  exact Lh6 N (0 : Int32) (0 : Int32) ls (lv_sub hl [2, 3, 4, 5, 1, 0] rfl) hf

set_option maxHeartbeats 4000000 in
set_option maxRecDepth 100000 in
theorem cn_X12_isNumber (l : Launch) (D : va_G) (cB cI cZ : ClassId) (N : Nat) (a0 : Nat → Nat) (I0 : Nat → Int32) (L0 : Int64) (M0 : Nat → Nat → Int32) (x1 : Int32) (sz : Nat) (R : Int32 × (Nat → Int32) × Int64 × (Nat → Nat → Int32)) (hf : fX12_isNumber N I0 L0 M0 x1 = some R) : Met l yX12_isNumber wsX12_isNumber ({ frames := 1, cells := 0, slots := 0, locals := 22 }) (va_Pc [.ref (a0 0), .int x1] (wb_preD D [(cB, .byte), (cI, .int), (cZ, .boolean)] (wWX12 cB cI cZ a0 I0 L0 M0) sz)) (va_Qi (fun r (_ : Unit) => r = R.1) (fun _ t => wb_post D [(cB, .byte), (cI, .int), (cZ, .boolean)] (va_A (wWX12 cB cI cZ a0 I0 L0 M0) sz) (wWX12 cB cI cZ a0 R.2.1 R.2.2.1 R.2.2.2) t) (va_A (wWX12 cB cI cZ a0 I0 L0 M0) sz)) 0 0 (va_A (wWX12 cB cI cZ a0 I0 L0 M0) sz) := by
  refine Met.ofW (cc := cX12_isNumber) (maxL := 2) (ret := (some .boolean)) pn_X12 rfl ?_
  intro p e s m args below meth c s₁ B hml hv
  obtain ⟨rfl, hsz, hP, hK, hD0⟩ := hv
  have hx := B.exec
  have hb := B.bytes
  have hr := B.returns
  have hts := atoms_spec (ws := wsX12_isNumber) B.pre
  have hown : s.vm.findClass RX12 = some m.cls := (findClass_of_methodNamed B.named :)
  have hlocks := B.notSynchronized
  subst hsz
  have hD := hD0.self (sz := s.heap.size)
  generalize hAe : va_A (wWX12 cB cI cZ a0 I0 L0 M0) s.heap.size = A at hD ⊢
  have hA : ∀ q : Nat, s.heap.size ≤ q → A q := fun q h => by rw [← hAe]; exact Or.inr h
  have hS : va_S A s.heap s.heap [] := va_S.rf
  have hl := lv_entry ([.ref (a0 0), .int x1]) (n := 2) (Nat.le_of_ble_eq_true rfl)
  rw [lg_entry_eq]
  generalize (lg_sl ([.ref (a0 0), .int x1]) ++ List.replicate (2 - (lg_sl ([.ref (a0 0), .int x1])).length) Slot.unset).toArray = ls at hl ⊢
  have hl : lv_has ls 2 [(0, .ref (a0 0)), (1, .int x1)] := hl
  unfold fX12_isNumber at hf
  obtain ⟨H, hHe⟩ : ∃ H : Heap, H = s.heap := ⟨_, rfl⟩
  obtain ⟨locs, hle⟩ : ∃ locs : List Loc, locs = [] := ⟨_, rfl⟩
  refine wb_start (H := H) (locs := locs) hHe hle ?_
  rw [← hHe] at hP
  have hS : va_S A s.heap H locs := by rw [hHe, hle]; exact va_S.rf
  refine lv_aload_n hx hb dX12_isNumber_0 rfl (lv_at hl 0 rfl) ?_
  refine lv_iload_n hx hb dX12_isNumber_1 rfl (lv_at hl 1 rfl) ?_
  refine lv_if_lt (tgt := 15) hx hb dX12_isNumber_2 (by decide) (fun hc => ?_) (fun hc => ?_)
  · replace hf := wb_t hc hf
    refine lv_iconst (v := (0 : Int32)) hx hb dX12_isNumber_15 (by decide) ?_
    refine lv_iconst (v := (1 : Int32)) hx hb dX12_isNumber_16 (by decide) ?_
    obtain ⟨r1, hr1, hf⟩ := wb_b hf
    have hPc := hP
    have hDc := hD
    have hFc := wj_F hDc hS hA
    refine va_calli (va_runV (As := [.int (0 : Int32), .int (1 : Int32)]) (rest := []) ⟨hx, hb, hml, hown, hts⟩ (cn_X12_right l D cB cI cZ N a0 I0 L0 M0 (0 : Int32) (1 : Int32) H.size r1 hr1) (cwV 2 hts gX12_isNumber_X12_right rfl rfl rfl cdX12_right ⟨Nat.le_of_ble_eq_true rfl, Nat.le_of_ble_eq_true rfl⟩) (wb_preDV hPc hK hDc (wr_12 hK hP (q0 := 0) rfl)) rfl rfl hl.1 rfl (lv_room (Nat.le_of_ble_eq_true rfl)) dX12_isNumber_17 ⟨Nat.le_of_ble_eq_true rfl, Nat.le_of_ble_eq_true rfl⟩) hS (fun q _ h => hFc q h) hFc (fun r9 u t H locs ht hvm hw hB hz1 hk1 hS => ?_)
    obtain ⟨hP, hD⟩ := wj_0 hFc ht hB
    rw [hw]
    obtain ⟨hz, hf⟩ := wb_y hf
    exact W.zret (v := r1.1) hx hb hr (congrArg Value.int hz) (fun t ht hW => by rw [← Option.some.inj hf]; exact ⟨⟨r1.1, (), rfl, rfl, by rw [ht]; exact hP, va_K.moved hW.alike hK, hD⟩, hS.F ht⟩) hS.2.2 dX12_isNumber_20
  · replace hf := wb_f hc hf
    refine lv_iload_n hx hb dX12_isNumber_5 rfl (lv_at hl 1 rfl) ?_
    refine lv_bipush (v := (120 : Int32)) hx hb dX12_isNumber_6 (by decide) ?_
    refine lv_icmp_ge (tgt := 15) hx hb dX12_isNumber_8 (by decide) (fun hc => ?_) (fun hc => ?_)
    · replace hf := wb_t hc hf
      refine lv_iconst (v := (0 : Int32)) hx hb dX12_isNumber_15 (by decide) ?_
      refine lv_iconst (v := (1 : Int32)) hx hb dX12_isNumber_16 (by decide) ?_
      obtain ⟨r2, hr2, hf⟩ := wb_b hf
      have hPc := hP
      have hDc := hD
      have hFc := wj_F hDc hS hA
      refine va_calli (va_runV (As := [.int (0 : Int32), .int (1 : Int32)]) (rest := []) ⟨hx, hb, hml, hown, hts⟩ (cn_X12_right l D cB cI cZ N a0 I0 L0 M0 (0 : Int32) (1 : Int32) H.size r2 hr2) (cwV 2 hts gX12_isNumber_X12_right rfl rfl rfl cdX12_right ⟨Nat.le_of_ble_eq_true rfl, Nat.le_of_ble_eq_true rfl⟩) (wb_preDV hPc hK hDc (wr_12 hK hP (q0 := 0) rfl)) rfl rfl hl.1 rfl (lv_room (Nat.le_of_ble_eq_true rfl)) dX12_isNumber_17 ⟨Nat.le_of_ble_eq_true rfl, Nat.le_of_ble_eq_true rfl⟩) hS (fun q _ h => hFc q h) hFc (fun r9 u t H locs ht hvm hw hB hz1 hk1 hS => ?_)
      obtain ⟨hP, hD⟩ := wj_0 hFc ht hB
      rw [hw]
      obtain ⟨hz, hf⟩ := wb_y hf
      exact W.zret (v := r2.1) hx hb hr (congrArg Value.int hz) (fun t ht hW => by rw [← Option.some.inj hf]; exact ⟨⟨r2.1, (), rfl, rfl, by rw [ht]; exact hP, va_K.moved hW.alike hK, hD⟩, hS.F ht⟩) hS.2.2 dX12_isNumber_20
    · replace hf := wb_f hc hf
      refine lv_iconst (v := (1 : Int32)) hx hb dX12_isNumber_11 (by decide) ?_
      refine lv_goto (tgt := 16) hx hb dX12_isNumber_12 (by decide) ?_
      refine lv_iconst (v := (1 : Int32)) hx hb dX12_isNumber_16 (by decide) ?_
      obtain ⟨r3, hr3, hf⟩ := wb_b hf
      have hPc := hP
      have hDc := hD
      have hFc := wj_F hDc hS hA
      refine va_calli (va_runV (As := [.int (1 : Int32), .int (1 : Int32)]) (rest := []) ⟨hx, hb, hml, hown, hts⟩ (cn_X12_right l D cB cI cZ N a0 I0 L0 M0 (1 : Int32) (1 : Int32) H.size r3 hr3) (cwV 2 hts gX12_isNumber_X12_right rfl rfl rfl cdX12_right ⟨Nat.le_of_ble_eq_true rfl, Nat.le_of_ble_eq_true rfl⟩) (wb_preDV hPc hK hDc (wr_12 hK hP (q0 := 0) rfl)) rfl rfl hl.1 rfl (lv_room (Nat.le_of_ble_eq_true rfl)) dX12_isNumber_17 ⟨Nat.le_of_ble_eq_true rfl, Nat.le_of_ble_eq_true rfl⟩) hS (fun q _ h => hFc q h) hFc (fun r9 u t H locs ht hvm hw hB hz1 hk1 hS => ?_)
      obtain ⟨hP, hD⟩ := wj_0 hFc ht hB
      rw [hw]
      obtain ⟨hz, hf⟩ := wb_y hf
      exact W.zret (v := r3.1) hx hb hr (congrArg Value.int hz) (fun t ht hW => by rw [← Option.some.inj hf]; exact ⟨⟨r3.1, (), rfl, rfl, by rw [ht]; exact hP, va_K.moved hW.alike hK, hD⟩, hS.F ht⟩) hS.2.2 dX12_isNumber_20

set_option maxHeartbeats 4000000 in
set_option maxRecDepth 100000 in
theorem cn_X12_same (l : Launch) (D : va_G) (cB cI cZ : ClassId) (N : Nat) (a0 : Nat → Nat) (I0 : Nat → Int32) (L0 : Int64) (M0 : Nat → Nat → Int32) (x1 : Int32) (x2 : Int32) (x3 : Int32) (sz : Nat) (R : Int32 × (Nat → Int32) × Int64 × (Nat → Nat → Int32)) (hf : fX12_same N I0 L0 M0 x1 x2 x3 = some R) : Met l yX12_same wsX12_same ({ frames := 4, cells := 0, slots := 0, locals := 96 }) (va_Pc [.ref (a0 0), .int x1, .int x2, .int x3] (wb_preD D [(cB, .byte), (cI, .int), (cZ, .boolean)] (wWX12 cB cI cZ a0 I0 L0 M0) sz)) (va_Qi (fun r (_ : Unit) => r = R.1) (fun _ t => wb_post D [(cB, .byte), (cI, .int), (cZ, .boolean)] (va_A (wWX12 cB cI cZ a0 I0 L0 M0) sz) (wWX12 cB cI cZ a0 R.2.1 R.2.2.1 R.2.2.2) t) (va_A (wWX12 cB cI cZ a0 I0 L0 M0) sz)) 0 0 (va_A (wWX12 cB cI cZ a0 I0 L0 M0) sz) := by
  refine Met.ofW (cc := cX12_same) (maxL := 4) (ret := (some .boolean)) pn_X12 rfl ?_
  intro p e s m args below meth c s₁ B hml hv
  obtain ⟨rfl, hsz, hP, hK, hD0⟩ := hv
  have hx := B.exec
  have hb := B.bytes
  have hr := B.returns
  have hts := atoms_spec (ws := wsX12_same) B.pre
  have hown : s.vm.findClass RX12 = some m.cls := (findClass_of_methodNamed B.named :)
  have hlocks := B.notSynchronized
  have hinX12 : ∀ w ∈ u_ws RX12 TX12 58, w ∈ wsX12_same := fun w h => List.mem_cons_of_mem _ (List.mem_append_right _ h)
  subst hsz
  have hD := hD0.self (sz := s.heap.size)
  generalize hAe : va_A (wWX12 cB cI cZ a0 I0 L0 M0) s.heap.size = A at hD ⊢
  have hA : ∀ q : Nat, s.heap.size ≤ q → A q := fun q h => by rw [← hAe]; exact Or.inr h
  have hS : va_S A s.heap s.heap [] := va_S.rf
  have hl := lv_entry ([.ref (a0 0), .int x1, .int x2, .int x3]) (n := 4) (Nat.le_of_ble_eq_true rfl)
  rw [lg_entry_eq]
  generalize (lg_sl ([.ref (a0 0), .int x1, .int x2, .int x3]) ++ List.replicate (4 - (lg_sl ([.ref (a0 0), .int x1, .int x2, .int x3])).length) Slot.unset).toArray = ls at hl ⊢
  have hl : lv_has ls 4 [(0, .ref (a0 0)), (1, .int x1), (2, .int x2), (3, .int x3)] := hl
  unfold fX12_same at hf
  obtain ⟨H, hHe⟩ : ∃ H : Heap, H = s.heap := ⟨_, rfl⟩
  obtain ⟨locs, hle⟩ : ∃ locs : List Loc, locs = [] := ⟨_, rfl⟩
  refine wb_start (H := H) (locs := locs) hHe hle ?_
  rw [← hHe] at hP
  have hS : va_S A s.heap H locs := by rw [hHe, hle]; exact va_S.rf
  refine lv_aload_n hx hb dX12_same_0 rfl (lv_at hl 0 rfl) ?_
  refine lv_iconst (v := (0 : Int32)) hx hb dX12_same_1 (by decide) ?_
  refine va_put (D := D) (ci := 12) (v := .int (0 : Int32)) (ty := .int) (C := RX12) (T := TX12) (N := 58) hx hb hts hinX12 tyX12 tyX12_ok nmX12 hown hK hP hD hS 0 rfl rfl 0 (by decide) (hts (.fieldLink RX12 129 "WheelBookModel" "thrown" "I") (List.mem_of_getElem? (i := 1) rfl)) (fun _ h9 => h9) rfl (by decide +kernel) rfl rfl (Nat.le_of_ble_eq_true rfl) dX12_same_2 (fun H locs hP hD hS => ?_)
  have hP : va_P D vwCl (wWX12 cB cI cZ a0 (upd I0 0 (0 : Int32)) L0 M0) H := hP
  have hD : va_D A (wWX12 cB cI cZ a0 (upd I0 0 (0 : Int32)) L0 M0) := hD
  obtain ⟨I0_1, eI0_1, hf⟩ := wb_v hf
  rw [← eI0_1] at hP hD
  refine lv_aload_n hx hb dX12_same_5 rfl (lv_at hl 0 rfl) ?_
  refine lv_iload_n hx hb dX12_same_6 rfl (lv_at hl 3 rfl) ?_
  refine lv_iconst (v := (1 : Int32)) hx hb dX12_same_7 (by decide) ?_
  refine lv_bipush (v := (7 : Int32)) hx hb dX12_same_8 (by decide) ?_
  obtain ⟨r2, hr2, hf⟩ := wb_b hf
  refine vp_callSi (W.runS (As := [.int x3, .int (1 : Int32), .int (7 : Int32)]) (rest := [.ref (a0 0)]) ⟨hx, hb, hml, hown, hts⟩ (cn_X12_within l D cB cI cZ N x3 (1 : Int32) (7 : Int32) r2 hr2) (va_cwS 3 hts gX12_same_X12_within rfl rfl rfl csX12_within ⟨Nat.le_of_ble_eq_true rfl, Nat.le_of_ble_eq_true rfl⟩) (wb_preS (hP.sub (ws' := ([] : va_W)) [] rfl) hK) rfl rfl hl.1 rfl (lv_room (Nat.le_of_ble_eq_true rfl)) dX12_same_10 ⟨Nat.le_of_ble_eq_true rfl, Nat.le_of_ble_eq_true rfl⟩) (fun r9 e9 => ?_)
  rw [e9]
  refine lv_iconst (v := (1 : Int32)) hx hb dX12_same_13 (by decide) ?_
  obtain ⟨r3, hr3, hf⟩ := wb_b hf
  have hPc := hP
  have hDc := hD
  have hFc := wj_F hDc hS hA
  refine va_calli (va_runV (As := [.int r2, .int (1 : Int32)]) (rest := []) ⟨hx, hb, hml, hown, hts⟩ (cn_X12_right l D cB cI cZ N a0 I0_1 L0 M0 r2 (1 : Int32) H.size r3 hr3) (cwV 2 hts gX12_same_X12_right rfl rfl rfl cdX12_right ⟨Nat.le_of_ble_eq_true rfl, Nat.le_of_ble_eq_true rfl⟩) (wb_preDV hPc hK hDc (wr_12 hK hP (q0 := 0) rfl)) rfl rfl hl.1 rfl (lv_room (Nat.le_of_ble_eq_true rfl)) dX12_same_14 ⟨Nat.le_of_ble_eq_true rfl, Nat.le_of_ble_eq_true rfl⟩) hS (fun q _ h => hFc q h) hFc (fun r9 u t H locs ht hvm hw hB hz1 hk1 hS => ?_)
  obtain ⟨hP, hD⟩ := wj_0 hFc ht hB
  rw [hw]
  refine lv_if_eq (tgt := 36) hx hb dX12_same_17 (by decide) (fun hc => ?_) (fun hc => ?_)
  · replace hf := wb_t hc hf
    refine lv_iconst (v := (0 : Int32)) hx hb dX12_same_36 (by decide) ?_
    exact W.zret (v := (0 : Int32)) hx hb hr (by decide) (fun t ht hW => by rw [← Option.some.inj hf]; exact ⟨⟨(0 : Int32), (), rfl, rfl, by rw [ht]; exact hP, va_K.moved hW.alike hK, hD⟩, hS.F ht⟩) hS.2.2 dX12_same_37
  · replace hf := wb_f hc hf
    refine lv_aload_n hx hb dX12_same_20 rfl (lv_at hl 0 rfl) ?_
    refine lv_iload_n hx hb dX12_same_21 rfl (lv_at hl 1 rfl) ?_
    obtain ⟨r4, hr4, hf⟩ := wb_b hf
    have hPc := hP
    have hDc := hD
    have hFc := wj_F hDc hS hA
    refine va_calli (va_runV (As := [.int x1]) (rest := []) ⟨hx, hb, hml, hown, hts⟩ (cn_X12_isNumber l D cB cI cZ N a0 r3.2.1 r3.2.2.1 r3.2.2.2 x1 H.size r4 hr4) (cwV 1 hts gX12_same_X12_isNumber rfl rfl rfl cdX12_isNumber ⟨Nat.le_of_ble_eq_true rfl, Nat.le_of_ble_eq_true rfl⟩) (wb_preDV hPc hK hDc (wr_12 hK hP (q0 := 0) rfl)) rfl rfl hl.1 rfl (lv_room (Nat.le_of_ble_eq_true rfl)) dX12_same_22 ⟨Nat.le_of_ble_eq_true rfl, Nat.le_of_ble_eq_true rfl⟩) hS (fun q _ h => hFc q h) hFc (fun r9 u t H locs ht hvm hw hB hz1 hk1 hS => ?_)
    obtain ⟨hP, hD⟩ := wj_0 hFc ht hB
    rw [hw]
    refine lv_if_eq (tgt := 36) hx hb dX12_same_25 (by decide) (fun hc => ?_) (fun hc => ?_)
    · replace hf := wb_t hc hf
      refine lv_iconst (v := (0 : Int32)) hx hb dX12_same_36 (by decide) ?_
      exact W.zret (v := (0 : Int32)) hx hb hr (by decide) (fun t ht hW => by rw [← Option.some.inj hf]; exact ⟨⟨(0 : Int32), (), rfl, rfl, by rw [ht]; exact hP, va_K.moved hW.alike hK, hD⟩, hS.F ht⟩) hS.2.2 dX12_same_37
    · replace hf := wb_f hc hf
      refine lv_aload_n hx hb dX12_same_28 rfl (lv_at hl 0 rfl) ?_
      refine lv_iload_n hx hb dX12_same_29 rfl (lv_at hl 2 rfl) ?_
      obtain ⟨r5, hr5, hf⟩ := wb_b hf
      have hPc := hP
      have hDc := hD
      have hFc := wj_F hDc hS hA
      refine va_calli (va_runV (As := [.int x2]) (rest := []) ⟨hx, hb, hml, hown, hts⟩ (cn_X12_isNumber l D cB cI cZ N a0 r4.2.1 r4.2.2.1 r4.2.2.2 x2 H.size r5 hr5) (cwV 1 hts gX12_same_X12_isNumber rfl rfl rfl cdX12_isNumber ⟨Nat.le_of_ble_eq_true rfl, Nat.le_of_ble_eq_true rfl⟩) (wb_preDV hPc hK hDc (wr_12 hK hP (q0 := 0) rfl)) rfl rfl hl.1 rfl (lv_room (Nat.le_of_ble_eq_true rfl)) dX12_same_30 ⟨Nat.le_of_ble_eq_true rfl, Nat.le_of_ble_eq_true rfl⟩) hS (fun q _ h => hFc q h) hFc (fun r9 u t H locs ht hvm hw hB hz1 hk1 hS => ?_)
      obtain ⟨hP, hD⟩ := wj_0 hFc ht hB
      rw [hw]
      refine lv_if_ne (tgt := 38) hx hb dX12_same_33 (by decide) (fun hc => ?_) (fun hc => ?_)
      · replace hf := wb_f hc hf
        refine lv_aload_n hx hb dX12_same_38 rfl (lv_at hl 0 rfl) ?_
        refine lv_iload_n hx hb dX12_same_39 rfl (lv_at hl 1 rfl) ?_
        refine lv_iload_n hx hb dX12_same_40 rfl (lv_at hl 2 rfl) ?_
        refine lv_iload_n hx hb dX12_same_41 rfl (lv_at hl 3 rfl) ?_
        obtain ⟨r6, hr6, hf⟩ := wb_b hf
        refine vp_callSi (W.runV (As := [.int x1, .int x2, .int x3]) (rest := []) ⟨hx, hb, hml, hown, hts⟩ (cn_X12_areSame l D cB cI cZ N a0 r5.2.1 r5.2.2.1 r5.2.2.2 x1 x2 x3 r6 hr6) (cwV 3 hts gX12_same_X12_areSame rfl rfl rfl cdX12_areSame ⟨Nat.le_of_ble_eq_true rfl, Nat.le_of_ble_eq_true rfl⟩) (wb_preV hP hK (wr_12 hK hP (q0 := 0) rfl)) rfl rfl hl.1 rfl (lv_room (Nat.le_of_ble_eq_true rfl)) dX12_same_42 ⟨Nat.le_of_ble_eq_true rfl, Nat.le_of_ble_eq_true rfl⟩) (fun r9 e9 => ?_)
        rw [e9]
        obtain ⟨hz, hf⟩ := wb_y hf
        exact W.zret (v := r6) hx hb hr (congrArg Value.int hz) (fun t ht hW => by rw [← Option.some.inj hf]; exact ⟨⟨r6, (), rfl, rfl, by rw [ht]; exact hP, va_K.moved hW.alike hK, hD⟩, hS.F ht⟩) hS.2.2 dX12_same_45
      · replace hf := wb_t hc hf
        refine lv_iconst (v := (0 : Int32)) hx hb dX12_same_36 (by decide) ?_
        exact W.zret (v := (0 : Int32)) hx hb hr (by decide) (fun t ht hW => by rw [← Option.some.inj hf]; exact ⟨⟨(0 : Int32), (), rfl, rfl, by rw [ht]; exact hP, va_K.moved hW.alike hK, hD⟩, hS.F ht⟩) hS.2.2 dX12_same_37

set_option maxHeartbeats 4000000 in
set_option maxRecDepth 100000 in
theorem cn_X12_births (l : Launch) (D : va_G) (cB cI cZ : ClassId) (N : Nat) (a0 : Nat → Nat) (I0 : Nat → Int32) (L0 : Int64) (M0 : Nat → Nat → Int32) (x1 : Int32) (x2 : Int32) (sz : Nat) (R : Int32 × (Nat → Int32) × Int64 × (Nat → Nat → Int32)) (hf : fX12_births N I0 L0 M0 x1 x2 = some R) : Met l yX12_births wsX12_births ({ frames := 4, cells := 0, slots := 0, locals := 96 }) (va_Pc [.ref (a0 0), .int x1, .int x2] (wb_preD D [(cB, .byte), (cI, .int), (cZ, .boolean)] (wWX12 cB cI cZ a0 I0 L0 M0) sz)) (va_Qi (fun r (_ : Unit) => r = R.1) (fun _ t => wb_post D [(cB, .byte), (cI, .int), (cZ, .boolean)] (va_A (wWX12 cB cI cZ a0 I0 L0 M0) sz) (wWX12 cB cI cZ a0 R.2.1 R.2.2.1 R.2.2.2) t) (va_A (wWX12 cB cI cZ a0 I0 L0 M0) sz)) 0 0 (va_A (wWX12 cB cI cZ a0 I0 L0 M0) sz) := by
  refine Met.ofW (cc := cX12_births) (maxL := 7) (ret := (some .int)) pn_X12 rfl ?_
  intro p e s m args below meth c s₁ B hml hv
  obtain ⟨rfl, hsz, hP, hK, hD0⟩ := hv
  have hx := B.exec
  have hb := B.bytes
  have hr := B.returns
  have hts := atoms_spec (ws := wsX12_births) B.pre
  have hown : s.vm.findClass RX12 = some m.cls := (findClass_of_methodNamed B.named :)
  have hlocks := B.notSynchronized
  have hinX12 : ∀ w ∈ u_ws RX12 TX12 58, w ∈ wsX12_births := fun w h => List.mem_cons_of_mem _ (List.mem_append_right _ h)
  subst hsz
  have hD := hD0.self (sz := s.heap.size)
  generalize hAe : va_A (wWX12 cB cI cZ a0 I0 L0 M0) s.heap.size = A at hD ⊢
  have hA : ∀ q : Nat, s.heap.size ≤ q → A q := fun q h => by rw [← hAe]; exact Or.inr h
  have hS : va_S A s.heap s.heap [] := va_S.rf
  have hl := lv_entry ([.ref (a0 0), .int x1, .int x2]) (n := 7) (Nat.le_of_ble_eq_true rfl)
  rw [lg_entry_eq]
  generalize (lg_sl ([.ref (a0 0), .int x1, .int x2]) ++ List.replicate (7 - (lg_sl ([.ref (a0 0), .int x1, .int x2])).length) Slot.unset).toArray = ls at hl ⊢
  have hl : lv_has ls 7 [(0, .ref (a0 0)), (1, .int x1), (2, .int x2)] := hl
  unfold fX12_births at hf
  obtain ⟨H, hHe⟩ : ∃ H : Heap, H = s.heap := ⟨_, rfl⟩
  obtain ⟨locs, hle⟩ : ∃ locs : List Loc, locs = [] := ⟨_, rfl⟩
  refine wb_start (H := H) (locs := locs) hHe hle ?_
  rw [← hHe] at hP
  have hS : va_S A s.heap H locs := by rw [hHe, hle]; exact va_S.rf
  have J32 : ∀ (I0_j32 : Nat → Int32) (L0_j32 : Int64) (M0_j32 : Nat → Nat → Int32) (z32_0 : Int32) (H : Heap) (locs : List Loc), va_P D vwCl (wWX12 cB cI cZ a0 I0_j32 L0_j32 M0_j32) H → va_D A (wWX12 cB cI cZ a0 I0_j32 L0_j32 M0_j32) → va_S A s.heap H locs → ∀ (ls : Array Slot), lv_has ls 7 [(0, .ref (a0 0)), (1, .int x1), (2, .int x2)] → fX12_births_J32 N x1 x2 I0_j32 L0_j32 M0_j32 z32_0 = some R → W p l e (headSpec wsX12_births { frames := 4, cells := 0, slots := 0, locals := 96 }).room s m [.ref (a0 0), .int x1, .int x2].toArray below meth c H locs 0 0 (MQ below (va_Qi (fun r (_ : Unit) => r = R.1) (fun _ t => wb_post D [(cB, .byte), (cI, .int), (cZ, .boolean)] A (wWX12 cB cI cZ a0 R.2.1 R.2.2.1 R.2.2.2) t) A) [.ref (a0 0), .int x1, .int x2].toArray s 0 0 A) (F0 m 32 ls [.int z32_0, .ref (a0 0)]) := by
    intro I0_j32 L0_j32 M0_j32 z32_0 H locs hP hD hS ls hl hf
    unfold fX12_births_J32 at hf
    refine lv_iconst (v := (1 : Int32)) hx hb dX12_births_32 (by decide) ?_
    obtain ⟨r1, hr1, hf⟩ := wb_b hf
    have hPc := hP
    have hDc := hD
    have hFc := wj_F hDc hS hA
    refine va_calli (va_runV (As := [.int z32_0, .int (1 : Int32)]) (rest := []) ⟨hx, hb, hml, hown, hts⟩ (cn_X12_right l D cB cI cZ N a0 I0_j32 L0_j32 M0_j32 z32_0 (1 : Int32) H.size r1 hr1) (cwV 2 hts gX12_births_X12_right rfl rfl rfl cdX12_right ⟨Nat.le_of_ble_eq_true rfl, Nat.le_of_ble_eq_true rfl⟩) (wb_preDV hPc hK hDc (wr_12 hK hP (q0 := 0) rfl)) rfl rfl hl.1 rfl (lv_room (Nat.le_of_ble_eq_true rfl)) dX12_births_33 ⟨Nat.le_of_ble_eq_true rfl, Nat.le_of_ble_eq_true rfl⟩) hS (fun q _ h => hFc q h) hFc (fun r9 u t H locs ht hvm hw hB hz1 hk1 hS => ?_)
    obtain ⟨hP, hD⟩ := wj_0 hFc ht hB
    rw [hw]
    refine lv_if_ne (tgt := 41) hx hb dX12_births_36 (by decide) (fun hc => ?_) (fun hc => ?_)
    · replace hf := wb_f hc hf
      refine lv_iconst (v := (0 : Int32)) hx hb dX12_births_41 (by decide) ?_
      refine lv_istore_n (lv' := [(3, .int (0 : Int32)), (0, .ref (a0 0)), (1, .int x1), (2, .int x2)]) hx hb dX12_births_42 rfl hl (by decide) rfl (fun ls hl => ?_)
      have Lh43 : ∀ (fu43 : Nat) (I0_l43 : Nat → Int32) (L0_l43 : Int64) (M0_l43 : Nat → Nat → Int32) (y43_3 : Int32) (H : Heap) (locs : List Loc), va_P D vwCl (wWX12 cB cI cZ a0 I0_l43 L0_l43 M0_l43) H → va_D A (wWX12 cB cI cZ a0 I0_l43 L0_l43 M0_l43) → va_S A s.heap H locs → ∀ (ls : Array Slot), lv_has ls 7 [(0, .ref (a0 0)), (1, .int x1), (2, .int x2), (3, .int y43_3)] → fX12_births_L43 N x1 x2 fu43 I0_l43 L0_l43 M0_l43 y43_3 = some R → W p l e (headSpec wsX12_births { frames := 4, cells := 0, slots := 0, locals := 96 }).room s m [.ref (a0 0), .int x1, .int x2].toArray below meth c H locs 0 0 (MQ below (va_Qi (fun r (_ : Unit) => r = R.1) (fun _ t => wb_post D [(cB, .byte), (cI, .int), (cZ, .boolean)] A (wWX12 cB cI cZ a0 R.2.1 R.2.2.1 R.2.2.2) t) A) [.ref (a0 0), .int x1, .int x2].toArray s 0 0 A) (F0 m 43 ls []) := by
        intro fu43
        induction fu43 with
        | zero =>
          intro I0_l43 L0_l43 M0_l43 y43_3 H locs hP hD hS ls hl hf
          exact absurd hf (by rw [fX12_births_L43.eq_1]; exact fun h => nomatch h)
        | succ fu43 ih43 =>
          intro I0_l43 L0_l43 M0_l43 y43_3 H locs hP hD hS ls hl hf
          rw [fX12_births_L43.eq_2] at hf
          refine lv_iload_n hx hb dX12_births_43 rfl (lv_at hl 3 rfl) ?_
          refine lv_bipush (v := (120 : Int32)) hx hb dX12_births_44 (by decide) ?_
          refine lv_icmp_ge (tgt := 62) hx hb dX12_births_46 (by decide) (fun hc => ?_) (fun hc => ?_)
          · replace hf := wb_t hc hf
            refine lv_iconst (v := (1 : Int32)) hx hb dX12_births_62 (by decide) ?_
            refine lv_istore_n (lv' := [(3, .int (1 : Int32)), (0, .ref (a0 0)), (1, .int x1), (2, .int x2)]) hx hb dX12_births_63 rfl hl (by decide) rfl (fun ls hl => ?_)
            have Lh64 : ∀ (fu64 : Nat) (I0_l64 : Nat → Int32) (L0_l64 : Int64) (M0_l64 : Nat → Nat → Int32) (y64_3 : Int32) (H : Heap) (locs : List Loc), va_P D vwCl (wWX12 cB cI cZ a0 I0_l64 L0_l64 M0_l64) H → va_D A (wWX12 cB cI cZ a0 I0_l64 L0_l64 M0_l64) → va_S A s.heap H locs → ∀ (ls : Array Slot), lv_has ls 7 [(0, .ref (a0 0)), (1, .int x1), (2, .int x2), (3, .int y64_3)] → fX12_births_L64 N x1 x2 (fX12_births_L43 N x1 x2 fu43) fu64 I0_l64 L0_l64 M0_l64 y64_3 = some R → W p l e (headSpec wsX12_births { frames := 4, cells := 0, slots := 0, locals := 96 }).room s m [.ref (a0 0), .int x1, .int x2].toArray below meth c H locs 0 0 (MQ below (va_Qi (fun r (_ : Unit) => r = R.1) (fun _ t => wb_post D [(cB, .byte), (cI, .int), (cZ, .boolean)] A (wWX12 cB cI cZ a0 R.2.1 R.2.2.1 R.2.2.2) t) A) [.ref (a0 0), .int x1, .int x2].toArray s 0 0 A) (F0 m 64 ls []) := by
              intro fu64
              induction fu64 with
              | zero =>
                intro I0_l64 L0_l64 M0_l64 y64_3 H locs hP hD hS ls hl hf
                exact absurd hf (by rw [fX12_births_L64.eq_1]; exact fun h => nomatch h)
              | succ fu64 ih64 =>
                intro I0_l64 L0_l64 M0_l64 y64_3 H locs hP hD hS ls hl hf
                rw [fX12_births_L64.eq_2] at hf
                refine lv_iload_n hx hb dX12_births_64 rfl (lv_at hl 3 rfl) ?_
                refine lv_if_eq (tgt := 193) hx hb dX12_births_65 (by decide) (fun hc => ?_) (fun hc => ?_)
                · replace hf := wb_t hc hf
                  refine lv_iload_n hx hb dX12_births_193 rfl (lv_at hl 1 rfl) ?_
                  refine lv_iconst (v := (-1 : Int32)) hx hb dX12_births_194 (by decide) ?_
                  refine lv_icmp_eq (tgt := 205) hx hb dX12_births_195 (by decide) (fun hc => ?_) (fun hc => ?_)
                  · replace hf := wb_t hc hf
                    refine lv_iconst (v := (0 : Int32)) hx hb dX12_births_205 (by decide) ?_
                    refine lv_istore (lv' := [(4, .int (0 : Int32)), (0, .ref (a0 0)), (1, .int x1), (2, .int x2), (3, .int y64_3)]) hx hb dX12_births_206 hl (by decide) rfl (fun ls hl => ?_)
                    refine lv_iconst (v := (0 : Int32)) hx hb dX12_births_208 (by decide) ?_
                    refine lv_istore (lv' := [(5, .int (0 : Int32)), (4, .int (0 : Int32)), (0, .ref (a0 0)), (1, .int x1), (2, .int x2), (3, .int y64_3)]) hx hb dX12_births_209 hl (by decide) rfl (fun ls hl => ?_)
                    have Lh211 : ∀ (fu211 : Nat) (I0_l211 : Nat → Int32) (L0_l211 : Int64) (M0_l211 : Nat → Nat → Int32) (y211_4 : Int32) (y211_5 : Int32) (H : Heap) (locs : List Loc), va_P D vwCl (wWX12 cB cI cZ a0 I0_l211 L0_l211 M0_l211) H → va_D A (wWX12 cB cI cZ a0 I0_l211 L0_l211 M0_l211) → va_S A s.heap H locs → ∀ (ls : Array Slot), lv_has ls 7 [(0, .ref (a0 0)), (4, .int y211_4), (5, .int y211_5)] → fX12_births_L211 N x1 x2 (fX12_births_L43 N x1 x2 fu43) (fX12_births_L64 N x1 x2 (fX12_births_L43 N x1 x2 fu43) fu64) fu211 I0_l211 L0_l211 M0_l211 y211_4 y211_5 = some R → W p l e (headSpec wsX12_births { frames := 4, cells := 0, slots := 0, locals := 96 }).room s m [.ref (a0 0), .int x1, .int x2].toArray below meth c H locs 0 0 (MQ below (va_Qi (fun r (_ : Unit) => r = R.1) (fun _ t => wb_post D [(cB, .byte), (cI, .int), (cZ, .boolean)] A (wWX12 cB cI cZ a0 R.2.1 R.2.2.1 R.2.2.2) t) A) [.ref (a0 0), .int x1, .int x2].toArray s 0 0 A) (F0 m 211 ls []) := by
                      intro fu211
                      induction fu211 with
                      | zero =>
                        intro I0_l211 L0_l211 M0_l211 y211_4 y211_5 H locs hP hD hS ls hl hf
                        exact absurd hf (by rw [fX12_births_L211.eq_1]; exact fun h => nomatch h)
                      | succ fu211 ih211 =>
                        intro I0_l211 L0_l211 M0_l211 y211_4 y211_5 H locs hP hD hS ls hl hf
                        rw [fX12_births_L211.eq_2] at hf
                        refine lv_iload hx hb dX12_births_211 (lv_at hl 2 rfl) ?_
                        refine lv_bipush (v := (120 : Int32)) hx hb dX12_births_213 (by decide) ?_
                        refine lv_icmp_ge (tgt := 255) hx hb dX12_births_215 (by decide) (fun hc => ?_) (fun hc => ?_)
                        · replace hf := wb_t hc hf
                          refine lv_iload hx hb dX12_births_255 (lv_at hl 1 rfl) ?_
                          exact W.iret (v := y211_4) hx hb hr (fun t ht hW => by rw [← Option.some.inj hf]; exact ⟨⟨y211_4, (), rfl, rfl, by rw [ht]; exact hP, va_K.moved hW.alike hK, hD⟩, hS.F ht⟩) hS.2.2 dX12_births_257
                        · replace hf := wb_f hc hf
                          refine lv_iload hx hb dX12_births_218 (lv_at hl 1 rfl) ?_
                          refine lv_aload_n hx hb dX12_births_220 rfl (lv_at hl 0 rfl) ?_
                          refine va_get (D := D) (ci := 12) (v := .ref (a0 32)) (C := RX12) (T := TX12) (N := 58) hx hb hts hinX12 hown hK hP 0 rfl rfl 51 (by decide) (hts (.fieldLink RX12 111 "WheelBookModel" "part" "[I") (List.mem_of_getElem? (i := 2) rfl)) (fun _ h9 => h9) rfl dX12_births_221 ?_
                          refine lv_iload hx hb dX12_births_224 (lv_at hl 2 rfl) ?_
                          obtain ⟨hin, hf⟩ := wb_n hf
                          refine va_iald hx hb hK hP 32 1 rfl rfl hin dX12_births_226 ?_
                          refine lv_iload hx hb dX12_births_227 (lv_at hl 2 rfl) ?_
                          refine lv_icmp_ne (tgt := 245) hx hb dX12_births_229 (by decide) (fun hc => ?_) (fun hc => ?_)
                          · replace hf := wb_f hc hf
                            refine lv_iconst (v := (0 : Int32)) hx hb dX12_births_245 (by decide) ?_
                            refine lv_iadd hx hb dX12_births_246 ?_
                            obtain ⟨v2, ev2, hf⟩ := wb_v hf
                            refine wb_topi ev2 ?_
                            refine lv_istore (lv' := [(4, .int v2), (0, .ref (a0 0)), (5, .int y211_5)]) hx hb dX12_births_247 hl (by decide) rfl (fun ls hl => ?_)
                            obtain ⟨v3, ev3, hf⟩ := wb_v hf
                            refine lv_iinc (v := v3) (lv' := [(5, .int v3), (4, .int v2), (0, .ref (a0 0))]) hx hb dX12_births_249 hl (k := 2) rfl (by rw [ev3]; rfl) (by decide) rfl (fun ls hl => ?_)
                            refine lv_goto (tgt := 211) hx hb dX12_births_252 (by decide) ?_
                            exact ih211 I0_l211 L0_l211 M0_l211 v2 v3 H locs hP hD hS ls (lv_sub hl [2, 1, 0] rfl) hf
                          · replace hf := wb_t hc hf
                            refine lv_aload_n hx hb dX12_births_232 rfl (lv_at hl 0 rfl) ?_
                            refine lv_iload hx hb dX12_births_233 (lv_at hl 2 rfl) ?_
                            obtain ⟨r4, hr4, hf⟩ := wb_b hf
                            refine vp_callSi (W.runV (As := [.int y211_5]) (rest := [.int y211_4]) ⟨hx, hb, hml, hown, hts⟩ (cn_X12_tells l D cB cI cZ N a0 I0_l211 L0_l211 M0_l211 y211_5 r4 hr4) (cwV 1 hts gX12_births_X12_tells rfl rfl rfl cdX12_tells ⟨Nat.le_of_ble_eq_true rfl, Nat.le_of_ble_eq_true rfl⟩) (wb_preV hP hK (wr_12 hK hP (q0 := 0) rfl)) rfl rfl hl.1 rfl (lv_room (Nat.le_of_ble_eq_true rfl)) dX12_births_235 ⟨Nat.le_of_ble_eq_true rfl, Nat.le_of_ble_eq_true rfl⟩) (fun r9 e9 => ?_)
                            rw [e9]
                            refine lv_if_eq (tgt := 245) hx hb dX12_births_238 (by decide) (fun hc => ?_) (fun hc => ?_)
                            · replace hf := wb_t hc hf
                              refine lv_iconst (v := (0 : Int32)) hx hb dX12_births_245 (by decide) ?_
                              refine lv_iadd hx hb dX12_births_246 ?_
                              obtain ⟨v5, ev5, hf⟩ := wb_v hf
                              refine wb_topi ev5 ?_
                              refine lv_istore (lv' := [(4, .int v5), (0, .ref (a0 0)), (5, .int y211_5)]) hx hb dX12_births_247 hl (by decide) rfl (fun ls hl => ?_)
                              obtain ⟨v6, ev6, hf⟩ := wb_v hf
                              refine lv_iinc (v := v6) (lv' := [(5, .int v6), (4, .int v5), (0, .ref (a0 0))]) hx hb dX12_births_249 hl (k := 2) rfl (by rw [ev6]; rfl) (by decide) rfl (fun ls hl => ?_)
                              refine lv_goto (tgt := 211) hx hb dX12_births_252 (by decide) ?_
                              exact ih211 I0_l211 L0_l211 M0_l211 v5 v6 H locs hP hD hS ls (lv_sub hl [2, 1, 0] rfl) hf
                            · replace hf := wb_f hc hf
                              refine lv_iconst (v := (1 : Int32)) hx hb dX12_births_241 (by decide) ?_
                              refine lv_goto (tgt := 246) hx hb dX12_births_242 (by decide) ?_
                              refine lv_iadd hx hb dX12_births_246 ?_
                              obtain ⟨v7, ev7, hf⟩ := wb_v hf
                              refine wb_topi ev7 ?_
                              refine lv_istore (lv' := [(4, .int v7), (0, .ref (a0 0)), (5, .int y211_5)]) hx hb dX12_births_247 hl (by decide) rfl (fun ls hl => ?_)
                              obtain ⟨v8, ev8, hf⟩ := wb_v hf
                              refine lv_iinc (v := v8) (lv' := [(5, .int v8), (4, .int v7), (0, .ref (a0 0))]) hx hb dX12_births_249 hl (k := 2) rfl (by rw [ev8]; rfl) (by decide) rfl (fun ls hl => ?_)
                              refine lv_goto (tgt := 211) hx hb dX12_births_252 (by decide) ?_
                              exact ih211 I0_l211 L0_l211 M0_l211 v7 v8 H locs hP hD hS ls (lv_sub hl [2, 1, 0] rfl) hf
                    exact Lh211 N I0_l64 L0_l64 M0_l64 (0 : Int32) (0 : Int32) H locs hP hD hS ls (lv_sub hl [2, 1, 0] rfl) hf
                  · replace hf := wb_f hc hf
                    refine lv_aload_n hx hb dX12_births_198 rfl (lv_at hl 0 rfl) ?_
                    refine va_get (D := D) (ci := 12) (v := .ref (a0 32)) (C := RX12) (T := TX12) (N := 58) hx hb hts hinX12 hown hK hP 0 rfl rfl 51 (by decide) (hts (.fieldLink RX12 111 "WheelBookModel" "part" "[I") (List.mem_of_getElem? (i := 2) rfl)) (fun _ h9 => h9) rfl dX12_births_199 ?_
                    refine lv_iload_n hx hb dX12_births_202 rfl (lv_at hl 1 rfl) ?_
                    obtain ⟨hin, hf⟩ := wb_n hf
                    refine va_iald hx hb hK hP 32 1 rfl rfl hin dX12_births_203 ?_
                    exact W.iret (v := (M0_l64 31 (x1).toNatClampNeg)) hx hb hr (fun t ht hW => by rw [← Option.some.inj hf]; exact ⟨⟨(M0_l64 31 (x1).toNatClampNeg), (), rfl, rfl, by rw [ht]; exact hP, va_K.moved hW.alike hK, hD⟩, hS.F ht⟩) hS.2.2 dX12_births_204
                · replace hf := wb_f hc hf
                  refine lv_iconst (v := (0 : Int32)) hx hb dX12_births_68 (by decide) ?_
                  refine lv_istore_n (lv' := [(3, .int (0 : Int32)), (0, .ref (a0 0)), (1, .int x1), (2, .int x2)]) hx hb dX12_births_69 rfl hl (by decide) rfl (fun ls hl => ?_)
                  refine lv_iconst (v := (0 : Int32)) hx hb dX12_births_70 (by decide) ?_
                  refine lv_istore (lv' := [(4, .int (0 : Int32)), (3, .int (0 : Int32)), (0, .ref (a0 0)), (1, .int x1), (2, .int x2)]) hx hb dX12_births_71 hl (by decide) rfl (fun ls hl => ?_)
                  have Lh73 : ∀ (fu73 : Nat) (I0_l73 : Nat → Int32) (L0_l73 : Int64) (M0_l73 : Nat → Nat → Int32) (y73_3 : Int32) (y73_4 : Int32) (H : Heap) (locs : List Loc), va_P D vwCl (wWX12 cB cI cZ a0 I0_l73 L0_l73 M0_l73) H → va_D A (wWX12 cB cI cZ a0 I0_l73 L0_l73 M0_l73) → va_S A s.heap H locs → ∀ (ls : Array Slot), lv_has ls 7 [(0, .ref (a0 0)), (1, .int x1), (2, .int x2), (3, .int y73_3), (4, .int y73_4)] → fX12_births_L73 N x1 x2 (fX12_births_L43 N x1 x2 fu43) (fX12_births_L64 N x1 x2 (fX12_births_L43 N x1 x2 fu43) fu64) fu73 I0_l73 L0_l73 M0_l73 y73_3 y73_4 = some R → W p l e (headSpec wsX12_births { frames := 4, cells := 0, slots := 0, locals := 96 }).room s m [.ref (a0 0), .int x1, .int x2].toArray below meth c H locs 0 0 (MQ below (va_Qi (fun r (_ : Unit) => r = R.1) (fun _ t => wb_post D [(cB, .byte), (cI, .int), (cZ, .boolean)] A (wWX12 cB cI cZ a0 R.2.1 R.2.2.1 R.2.2.2) t) A) [.ref (a0 0), .int x1, .int x2].toArray s 0 0 A) (F0 m 73 ls []) := by
                    intro fu73
                    induction fu73 with
                    | zero =>
                      intro I0_l73 L0_l73 M0_l73 y73_3 y73_4 H locs hP hD hS ls hl hf
                      exact absurd hf (by rw [fX12_births_L73.eq_1]; exact fun h => nomatch h)
                    | succ fu73 ih73 =>
                      intro I0_l73 L0_l73 M0_l73 y73_3 y73_4 H locs hP hD hS ls hl hf
                      rw [fX12_births_L73.eq_2] at hf
                      refine lv_iload hx hb dX12_births_73 (lv_at hl 4 rfl) ?_
                      refine lv_bipush (v := (120 : Int32)) hx hb dX12_births_75 (by decide) ?_
                      refine lv_icmp_ge (tgt := 190) hx hb dX12_births_77 (by decide) (fun hc => ?_) (fun hc => ?_)
                      · replace hf := wb_t hc hf
                        refine lv_goto (tgt := 64) hx hb dX12_births_190 (by decide) ?_
                        exact ih64 I0_l73 L0_l73 M0_l73 y73_3 H locs hP hD hS ls (lv_sub hl [0, 1, 2, 3] rfl) hf
                      · replace hf := wb_f hc hf
                        refine lv_iconst (v := (0 : Int32)) hx hb dX12_births_80 (by decide) ?_
                        refine lv_istore (lv' := [(5, .int (0 : Int32)), (0, .ref (a0 0)), (1, .int x1), (2, .int x2), (3, .int y73_3), (4, .int y73_4)]) hx hb dX12_births_81 hl (by decide) rfl (fun ls hl => ?_)
                        have Lh83 : ∀ (fu83 : Nat) (I0_l83 : Nat → Int32) (L0_l83 : Int64) (M0_l83 : Nat → Nat → Int32) (y83_3 : Int32) (y83_5 : Int32) (H : Heap) (locs : List Loc), va_P D vwCl (wWX12 cB cI cZ a0 I0_l83 L0_l83 M0_l83) H → va_D A (wWX12 cB cI cZ a0 I0_l83 L0_l83 M0_l83) → va_S A s.heap H locs → ∀ (ls : Array Slot), lv_has ls 7 [(0, .ref (a0 0)), (1, .int x1), (2, .int x2), (3, .int y83_3), (4, .int y73_4), (5, .int y83_5)] → fX12_births_L83 N x1 x2 y73_4 (fX12_births_L43 N x1 x2 fu43) (fX12_births_L64 N x1 x2 (fX12_births_L43 N x1 x2 fu43) fu64) (fX12_births_L73 N x1 x2 (fX12_births_L43 N x1 x2 fu43) (fX12_births_L64 N x1 x2 (fX12_births_L43 N x1 x2 fu43) fu64) fu73) fu83 I0_l83 L0_l83 M0_l83 y83_3 y83_5 = some R → W p l e (headSpec wsX12_births { frames := 4, cells := 0, slots := 0, locals := 96 }).room s m [.ref (a0 0), .int x1, .int x2].toArray below meth c H locs 0 0 (MQ below (va_Qi (fun r (_ : Unit) => r = R.1) (fun _ t => wb_post D [(cB, .byte), (cI, .int), (cZ, .boolean)] A (wWX12 cB cI cZ a0 R.2.1 R.2.2.1 R.2.2.2) t) A) [.ref (a0 0), .int x1, .int x2].toArray s 0 0 A) (F0 m 83 ls []) := by
                          intro fu83
                          induction fu83 with
                          | zero =>
                            intro I0_l83 L0_l83 M0_l83 y83_3 y83_5 H locs hP hD hS ls hl hf
                            exact absurd hf (by rw [fX12_births_L83.eq_1]; exact fun h => nomatch h)
                          | succ fu83 ih83 =>
                            have J156 : ∀ (I0_j156 : Nat → Int32) (L0_j156 : Int64) (M0_j156 : Nat → Nat → Int32) (y156_5 : Int32) (z156_0 : Int32) (H : Heap) (locs : List Loc), va_P D vwCl (wWX12 cB cI cZ a0 I0_j156 L0_j156 M0_j156) H → va_D A (wWX12 cB cI cZ a0 I0_j156 L0_j156 M0_j156) → va_S A s.heap H locs → ∀ (ls : Array Slot), lv_has ls 7 [(0, .ref (a0 0)), (1, .int x1), (2, .int x2), (4, .int y73_4), (5, .int y156_5)] → fX12_births_J156 N x1 x2 y73_4 (fX12_births_L43 N x1 x2 fu43) (fX12_births_L64 N x1 x2 (fX12_births_L43 N x1 x2 fu43) fu64) (fX12_births_L73 N x1 x2 (fX12_births_L43 N x1 x2 fu43) (fX12_births_L64 N x1 x2 (fX12_births_L43 N x1 x2 fu43) fu64) fu73) (fX12_births_L83 N x1 x2 y73_4 (fX12_births_L43 N x1 x2 fu43) (fX12_births_L64 N x1 x2 (fX12_births_L43 N x1 x2 fu43) fu64) (fX12_births_L73 N x1 x2 (fX12_births_L43 N x1 x2 fu43) (fX12_births_L64 N x1 x2 (fX12_births_L43 N x1 x2 fu43) fu64) fu73) fu83) I0_j156 L0_j156 M0_j156 y156_5 z156_0 = some R → W p l e (headSpec wsX12_births { frames := 4, cells := 0, slots := 0, locals := 96 }).room s m [.ref (a0 0), .int x1, .int x2].toArray below meth c H locs 0 0 (MQ below (va_Qi (fun r (_ : Unit) => r = R.1) (fun _ t => wb_post D [(cB, .byte), (cI, .int), (cZ, .boolean)] A (wWX12 cB cI cZ a0 R.2.1 R.2.2.1 R.2.2.2) t) A) [.ref (a0 0), .int x1, .int x2].toArray s 0 0 A) (F0 m 156 ls [.int z156_0]) := by
                              intro I0_j156 L0_j156 M0_j156 y156_5 z156_0 H locs hP hD hS ls hl hf
                              unfold fX12_births_J156 at hf
                              refine lv_istore (lv' := [(6, .int z156_0), (0, .ref (a0 0)), (1, .int x1), (2, .int x2), (4, .int y73_4), (5, .int y156_5)]) hx hb dX12_births_156 hl (by decide) rfl (fun ls hl => ?_)
                              refine lv_aload_n hx hb dX12_births_158 rfl (lv_at hl 1 rfl) ?_
                              refine va_get (D := D) (ci := 12) (v := .ref (a0 32)) (C := RX12) (T := TX12) (N := 58) hx hb hts hinX12 hown hK hP 0 rfl rfl 51 (by decide) (hts (.fieldLink RX12 111 "WheelBookModel" "part" "[I") (List.mem_of_getElem? (i := 2) rfl)) (fun _ h9 => h9) rfl dX12_births_159 ?_
                              refine lv_iload hx hb dX12_births_162 (lv_at hl 4 rfl) ?_
                              refine lv_iload hx hb dX12_births_164 (lv_at hl 0 rfl) ?_
                              obtain ⟨hin, hf⟩ := wb_n hf
                              refine va_iast hx hb hK hP hD hS 32 1 rfl rfl hin dX12_births_166 (fun H locs hP hD hS => ?_)
                              have hP : va_P D vwCl (wWX12 cB cI cZ a0 I0_j156 L0_j156 (wb_um M0_j156 31 (y73_4).toNatClampNeg z156_0)) H := hP
                              have hD : va_D A (wWX12 cB cI cZ a0 I0_j156 L0_j156 (wb_um M0_j156 31 (y73_4).toNatClampNeg z156_0)) := hD
                              obtain ⟨M0_9, eM0_9, hf⟩ := wb_v hf
                              rw [← eM0_9] at hP hD
                              refine lv_aload_n hx hb dX12_births_167 rfl (lv_at hl 1 rfl) ?_
                              refine va_get (D := D) (ci := 12) (v := .ref (a0 32)) (C := RX12) (T := TX12) (N := 58) hx hb hts hinX12 hown hK hP 0 rfl rfl 51 (by decide) (hts (.fieldLink RX12 111 "WheelBookModel" "part" "[I") (List.mem_of_getElem? (i := 2) rfl)) (fun _ h9 => h9) rfl dX12_births_168 ?_
                              refine lv_iload hx hb dX12_births_171 (lv_at hl 5 rfl) ?_
                              refine lv_iload hx hb dX12_births_173 (lv_at hl 0 rfl) ?_
                              obtain ⟨hin, hf⟩ := wb_n hf
                              refine va_iast hx hb hK hP hD hS 32 1 rfl rfl hin dX12_births_175 (fun H locs hP hD hS => ?_)
                              have hP : va_P D vwCl (wWX12 cB cI cZ a0 I0_j156 L0_j156 (wb_um M0_9 31 (y156_5).toNatClampNeg z156_0)) H := hP
                              have hD : va_D A (wWX12 cB cI cZ a0 I0_j156 L0_j156 (wb_um M0_9 31 (y156_5).toNatClampNeg z156_0)) := hD
                              obtain ⟨M0_10, eM0_10, hf⟩ := wb_v hf
                              rw [← eM0_10] at hP hD
                              refine lv_iconst (v := (1 : Int32)) hx hb dX12_births_176 (by decide) ?_
                              refine lv_istore_n (lv' := [(3, .int (1 : Int32)), (6, .int z156_0), (0, .ref (a0 0)), (1, .int x1), (2, .int x2), (4, .int y73_4), (5, .int y156_5)]) hx hb dX12_births_177 rfl hl (by decide) rfl (fun ls hl => ?_)
                              obtain ⟨v11, ev11, hf⟩ := wb_v hf
                              refine lv_iinc (v := v11) (lv' := [(5, .int v11), (3, .int (1 : Int32)), (6, .int z156_0), (0, .ref (a0 0)), (1, .int x1), (2, .int x2), (4, .int y73_4)]) hx hb dX12_births_178 hl (k := 6) rfl (by rw [ev11]; rfl) (by decide) rfl (fun ls hl => ?_)
                              refine lv_goto (tgt := 83) hx hb dX12_births_181 (by decide) ?_
                              exact ih83 I0_j156 L0_j156 M0_10 (1 : Int32) v11 H locs hP hD hS ls (lv_sub hl [3, 4, 5, 1, 6, 0] rfl) hf
                            intro I0_l83 L0_l83 M0_l83 y83_3 y83_5 H locs hP hD hS ls hl hf
                            rw [fX12_births_L83.eq_2] at hf
                            refine lv_iload hx hb dX12_births_83 (lv_at hl 5 rfl) ?_
                            refine lv_iload hx hb dX12_births_85 (lv_at hl 4 rfl) ?_
                            refine lv_icmp_ge (tgt := 184) hx hb dX12_births_87 (by decide) (fun hc => ?_) (fun hc => ?_)
                            · replace hf := wb_t hc hf
                              obtain ⟨v12, ev12, hf⟩ := wb_v hf
                              refine lv_iinc (v := v12) (lv' := [(4, .int v12), (0, .ref (a0 0)), (1, .int x1), (2, .int x2), (3, .int y83_3), (5, .int y83_5)]) hx hb dX12_births_184 hl (k := 4) rfl (by rw [ev12]; rfl) (by decide) rfl (fun ls hl => ?_)
                              refine lv_goto (tgt := 73) hx hb dX12_births_187 (by decide) ?_
                              exact ih73 I0_l83 L0_l83 M0_l83 y83_3 v12 H locs hP hD hS ls (lv_sub hl [1, 2, 3, 4, 0] rfl) hf
                            · replace hf := wb_f hc hf
                              refine lv_aload_n hx hb dX12_births_90 rfl (lv_at hl 0 rfl) ?_
                              refine va_get (D := D) (ci := 12) (v := .ref (a0 32)) (C := RX12) (T := TX12) (N := 58) hx hb hts hinX12 hown hK hP 0 rfl rfl 51 (by decide) (hts (.fieldLink RX12 111 "WheelBookModel" "part" "[I") (List.mem_of_getElem? (i := 2) rfl)) (fun _ h9 => h9) rfl dX12_births_91 ?_
                              refine lv_iload hx hb dX12_births_94 (lv_at hl 4 rfl) ?_
                              obtain ⟨hin, hf⟩ := wb_n hf
                              refine va_iald hx hb hK hP 32 1 rfl rfl hin dX12_births_96 ?_
                              refine lv_aload_n hx hb dX12_births_97 rfl (lv_at hl 0 rfl) ?_
                              refine va_get (D := D) (ci := 12) (v := .ref (a0 32)) (C := RX12) (T := TX12) (N := 58) hx hb hts hinX12 hown hK hP 0 rfl rfl 51 (by decide) (hts (.fieldLink RX12 111 "WheelBookModel" "part" "[I") (List.mem_of_getElem? (i := 2) rfl)) (fun _ h9 => h9) rfl dX12_births_98 ?_
                              refine lv_iload hx hb dX12_births_101 (lv_at hl 5 rfl) ?_
                              obtain ⟨hin, hf⟩ := wb_n hf
                              refine va_iald hx hb hK hP 32 1 rfl rfl hin dX12_births_103 ?_
                              refine lv_icmp_eq (tgt := 178) hx hb dX12_births_104 (by decide) (fun hc => ?_) (fun hc => ?_)
                              · replace hf := wb_t hc hf
                                obtain ⟨v13, ev13, hf⟩ := wb_v hf
                                refine lv_iinc (v := v13) (lv' := [(5, .int v13), (0, .ref (a0 0)), (1, .int x1), (2, .int x2), (3, .int y83_3), (4, .int y73_4)]) hx hb dX12_births_178 hl (k := 5) rfl (by rw [ev13]; rfl) (by decide) rfl (fun ls hl => ?_)
                                refine lv_goto (tgt := 83) hx hb dX12_births_181 (by decide) ?_
                                exact ih83 I0_l83 L0_l83 M0_l83 y83_3 v13 H locs hP hD hS ls (lv_sub hl [1, 2, 3, 4, 5, 0] rfl) hf
                              · replace hf := wb_f hc hf
                                refine lv_aload_n hx hb dX12_births_107 rfl (lv_at hl 0 rfl) ?_
                                refine lv_iload hx hb dX12_births_108 (lv_at hl 4 rfl) ?_
                                refine lv_iload hx hb dX12_births_110 (lv_at hl 5 rfl) ?_
                                refine lv_iload_n hx hb dX12_births_112 rfl (lv_at hl 2 rfl) ?_
                                obtain ⟨r14, hr14, hf⟩ := wb_b hf
                                refine vp_callSi (W.runV (As := [.int y73_4, .int y83_5, .int x2]) (rest := []) ⟨hx, hb, hml, hown, hts⟩ (cn_X12_areSame l D cB cI cZ N a0 I0_l83 L0_l83 M0_l83 y73_4 y83_5 x2 r14 hr14) (cwV 3 hts gX12_births_X12_areSame rfl rfl rfl cdX12_areSame ⟨Nat.le_of_ble_eq_true rfl, Nat.le_of_ble_eq_true rfl⟩) (wb_preV hP hK (wr_12 hK hP (q0 := 0) rfl)) rfl rfl hl.1 rfl (lv_room (Nat.le_of_ble_eq_true rfl)) dX12_births_113 ⟨Nat.le_of_ble_eq_true rfl, Nat.le_of_ble_eq_true rfl⟩) (fun r9 e9 => ?_)
                                rw [e9]
                                refine lv_if_ne (tgt := 122) hx hb dX12_births_116 (by decide) (fun hc => ?_) (fun hc => ?_)
                                · replace hf := wb_f hc hf
                                  refine lv_aload_n hx hb dX12_births_122 rfl (lv_at hl 0 rfl) ?_
                                  refine va_get (D := D) (ci := 12) (v := .ref (a0 32)) (C := RX12) (T := TX12) (N := 58) hx hb hts hinX12 hown hK hP 0 rfl rfl 51 (by decide) (hts (.fieldLink RX12 111 "WheelBookModel" "part" "[I") (List.mem_of_getElem? (i := 2) rfl)) (fun _ h9 => h9) rfl dX12_births_123 ?_
                                  refine lv_iload hx hb dX12_births_126 (lv_at hl 4 rfl) ?_
                                  obtain ⟨hin, hf⟩ := wb_n hf
                                  refine va_iald hx hb hK hP 32 1 rfl rfl hin dX12_births_128 ?_
                                  refine lv_aload_n hx hb dX12_births_129 rfl (lv_at hl 0 rfl) ?_
                                  refine va_get (D := D) (ci := 12) (v := .ref (a0 32)) (C := RX12) (T := TX12) (N := 58) hx hb hts hinX12 hown hK hP 0 rfl rfl 51 (by decide) (hts (.fieldLink RX12 111 "WheelBookModel" "part" "[I") (List.mem_of_getElem? (i := 2) rfl)) (fun _ h9 => h9) rfl dX12_births_130 ?_
                                  refine lv_iload hx hb dX12_births_133 (lv_at hl 5 rfl) ?_
                                  obtain ⟨hin, hf⟩ := wb_n hf
                                  refine va_iald hx hb hK hP 32 1 rfl rfl hin dX12_births_135 ?_
                                  refine lv_icmp_ge (tgt := 149) hx hb dX12_births_136 (by decide) (fun hc => ?_) (fun hc => ?_)
                                  · replace hf := wb_t hc hf
                                    refine lv_aload_n hx hb dX12_births_149 rfl (lv_at hl 0 rfl) ?_
                                    refine va_get (D := D) (ci := 12) (v := .ref (a0 32)) (C := RX12) (T := TX12) (N := 58) hx hb hts hinX12 hown hK hP 0 rfl rfl 51 (by decide) (hts (.fieldLink RX12 111 "WheelBookModel" "part" "[I") (List.mem_of_getElem? (i := 2) rfl)) (fun _ h9 => h9) rfl dX12_births_150 ?_
                                    refine lv_iload hx hb dX12_births_153 (lv_at hl 5 rfl) ?_
                                    obtain ⟨hin, hf⟩ := wb_n hf
                                    refine va_iald hx hb hK hP 32 1 rfl rfl hin dX12_births_155 ?_
                                    exact J156 I0_l83 L0_l83 M0_l83 y83_5 (M0_l83 31 (y83_5).toNatClampNeg) H locs hP hD hS ls (lv_sub hl [0, 1, 2, 4, 5] rfl) hf
                                  · replace hf := wb_f hc hf
                                    refine lv_aload_n hx hb dX12_births_139 rfl (lv_at hl 0 rfl) ?_
                                    refine va_get (D := D) (ci := 12) (v := .ref (a0 32)) (C := RX12) (T := TX12) (N := 58) hx hb hts hinX12 hown hK hP 0 rfl rfl 51 (by decide) (hts (.fieldLink RX12 111 "WheelBookModel" "part" "[I") (List.mem_of_getElem? (i := 2) rfl)) (fun _ h9 => h9) rfl dX12_births_140 ?_
                                    refine lv_iload hx hb dX12_births_143 (lv_at hl 4 rfl) ?_
                                    obtain ⟨hin, hf⟩ := wb_n hf
                                    refine va_iald hx hb hK hP 32 1 rfl rfl hin dX12_births_145 ?_
                                    refine lv_goto (tgt := 156) hx hb dX12_births_146 (by decide) ?_
                                    exact J156 I0_l83 L0_l83 M0_l83 y83_5 (M0_l83 31 (y73_4).toNatClampNeg) H locs hP hD hS ls (lv_sub hl [0, 1, 2, 4, 5] rfl) hf
                                · replace hf := wb_t hc hf
                                  refine lv_goto (tgt := 178) hx hb dX12_births_119 (by decide) ?_
                                  obtain ⟨v15, ev15, hf⟩ := wb_v hf
                                  refine lv_iinc (v := v15) (lv' := [(5, .int v15), (0, .ref (a0 0)), (1, .int x1), (2, .int x2), (3, .int y83_3), (4, .int y73_4)]) hx hb dX12_births_178 hl (k := 5) rfl (by rw [ev15]; rfl) (by decide) rfl (fun ls hl => ?_)
                                  refine lv_goto (tgt := 83) hx hb dX12_births_181 (by decide) ?_
                                  exact ih83 I0_l83 L0_l83 M0_l83 y83_3 v15 H locs hP hD hS ls (lv_sub hl [1, 2, 3, 4, 5, 0] rfl) hf
                        exact Lh83 N I0_l73 L0_l73 M0_l73 y73_3 (0 : Int32) H locs hP hD hS ls (lv_sub hl [1, 2, 3, 4, 5, 0] rfl) hf
                  exact Lh73 N I0_l64 L0_l64 M0_l64 (0 : Int32) (0 : Int32) H locs hP hD hS ls (lv_sub hl [2, 3, 4, 1, 0] rfl) hf
            exact Lh64 N I0_l43 L0_l43 M0_l43 (1 : Int32) H locs hP hD hS ls (lv_sub hl [1, 2, 3, 0] rfl) hf
          · replace hf := wb_f hc hf
            refine lv_aload_n hx hb dX12_births_49 rfl (lv_at hl 0 rfl) ?_
            refine va_get (D := D) (ci := 12) (v := .ref (a0 32)) (C := RX12) (T := TX12) (N := 58) hx hb hts hinX12 hown hK hP 0 rfl rfl 51 (by decide) (hts (.fieldLink RX12 111 "WheelBookModel" "part" "[I") (List.mem_of_getElem? (i := 2) rfl)) (fun _ h9 => h9) rfl dX12_births_50 ?_
            refine lv_iload_n hx hb dX12_births_53 rfl (lv_at hl 3 rfl) ?_
            refine lv_iload_n hx hb dX12_births_54 rfl (lv_at hl 3 rfl) ?_
            obtain ⟨hin, hf⟩ := wb_n hf
            refine va_iast hx hb hK hP hD hS 32 1 rfl rfl hin dX12_births_55 (fun H locs hP hD hS => ?_)
            have hP : va_P D vwCl (wWX12 cB cI cZ a0 I0_l43 L0_l43 (wb_um M0_l43 31 (y43_3).toNatClampNeg y43_3)) H := hP
            have hD : va_D A (wWX12 cB cI cZ a0 I0_l43 L0_l43 (wb_um M0_l43 31 (y43_3).toNatClampNeg y43_3)) := hD
            obtain ⟨M0_16, eM0_16, hf⟩ := wb_v hf
            rw [← eM0_16] at hP hD
            obtain ⟨v17, ev17, hf⟩ := wb_v hf
            refine lv_iinc (v := v17) (lv' := [(3, .int v17), (0, .ref (a0 0)), (1, .int x1), (2, .int x2)]) hx hb dX12_births_56 hl (k := 3) rfl (by rw [ev17]; rfl) (by decide) rfl (fun ls hl => ?_)
            refine lv_goto (tgt := 43) hx hb dX12_births_59 (by decide) ?_
            exact ih43 I0_l43 L0_l43 M0_16 v17 H locs hP hD hS ls (lv_sub hl [1, 2, 3, 0] rfl) hf
      exact Lh43 N r1.2.1 r1.2.2.1 r1.2.2.2 (0 : Int32) H locs hP hD hS ls (lv_sub hl [1, 2, 3, 0] rfl) hf
    · replace hf := wb_t hc hf
      refine lv_iconst (v := (0 : Int32)) hx hb dX12_births_39 (by decide) ?_
      exact W.iret (v := (0 : Int32)) hx hb hr (fun t ht hW => by rw [← Option.some.inj hf]; exact ⟨⟨(0 : Int32), (), rfl, rfl, by rw [ht]; exact hP, va_K.moved hW.alike hK, hD⟩, hS.F ht⟩) hS.2.2 dX12_births_40
  have J31 : ∀ (I0_j31 : Nat → Int32) (L0_j31 : Int64) (M0_j31 : Nat → Nat → Int32) (H : Heap) (locs : List Loc), va_P D vwCl (wWX12 cB cI cZ a0 I0_j31 L0_j31 M0_j31) H → va_D A (wWX12 cB cI cZ a0 I0_j31 L0_j31 M0_j31) → va_S A s.heap H locs → ∀ (ls : Array Slot), lv_has ls 7 [(0, .ref (a0 0)), (1, .int x1), (2, .int x2)] → fX12_births_J31 N x1 x2 I0_j31 L0_j31 M0_j31 = some R → W p l e (headSpec wsX12_births { frames := 4, cells := 0, slots := 0, locals := 96 }).room s m [.ref (a0 0), .int x1, .int x2].toArray below meth c H locs 0 0 (MQ below (va_Qi (fun r (_ : Unit) => r = R.1) (fun _ t => wb_post D [(cB, .byte), (cI, .int), (cZ, .boolean)] A (wWX12 cB cI cZ a0 R.2.1 R.2.2.1 R.2.2.2) t) A) [.ref (a0 0), .int x1, .int x2].toArray s 0 0 A) (F0 m 31 ls [.ref (a0 0)]) := by
    intro I0_j31 L0_j31 M0_j31 H locs hP hD hS ls hl hf
    unfold fX12_births_J31 at hf
    refine lv_iconst (v := (0 : Int32)) hx hb dX12_births_31 (by decide) ?_
    exact J32 I0_j31 L0_j31 M0_j31 (0 : Int32) H locs hP hD hS ls (lv_sub hl [0, 1, 2] rfl) hf
  refine lv_aload_n hx hb dX12_births_0 rfl (lv_at hl 0 rfl) ?_
  refine lv_iconst (v := (0 : Int32)) hx hb dX12_births_1 (by decide) ?_
  refine va_put (D := D) (ci := 12) (v := .int (0 : Int32)) (ty := .int) (C := RX12) (T := TX12) (N := 58) hx hb hts hinX12 tyX12 tyX12_ok nmX12 hown hK hP hD hS 0 rfl rfl 0 (by decide) (hts (.fieldLink RX12 129 "WheelBookModel" "thrown" "I") (List.mem_of_getElem? (i := 1) rfl)) (fun _ h9 => h9) rfl (by decide +kernel) rfl rfl (Nat.le_of_ble_eq_true rfl) dX12_births_2 (fun H locs hP hD hS => ?_)
  have hP : va_P D vwCl (wWX12 cB cI cZ a0 (upd I0 0 (0 : Int32)) L0 M0) H := hP
  have hD : va_D A (wWX12 cB cI cZ a0 (upd I0 0 (0 : Int32)) L0 M0) := hD
  obtain ⟨I0_18, eI0_18, hf⟩ := wb_v hf
  rw [← eI0_18] at hP hD
  refine lv_aload_n hx hb dX12_births_5 rfl (lv_at hl 0 rfl) ?_
  refine lv_iload_n hx hb dX12_births_6 rfl (lv_at hl 2 rfl) ?_
  refine lv_iconst (v := (1 : Int32)) hx hb dX12_births_7 (by decide) ?_
  refine lv_bipush (v := (7 : Int32)) hx hb dX12_births_8 (by decide) ?_
  obtain ⟨r19, hr19, hf⟩ := wb_b hf
  refine vp_callSi (W.runS (As := [.int x2, .int (1 : Int32), .int (7 : Int32)]) (rest := [.ref (a0 0)]) ⟨hx, hb, hml, hown, hts⟩ (cn_X12_within l D cB cI cZ N x2 (1 : Int32) (7 : Int32) r19 hr19) (va_cwS 3 hts gX12_births_X12_within rfl rfl rfl csX12_within ⟨Nat.le_of_ble_eq_true rfl, Nat.le_of_ble_eq_true rfl⟩) (wb_preS (hP.sub (ws' := ([] : va_W)) [] rfl) hK) rfl rfl hl.1 rfl (lv_room (Nat.le_of_ble_eq_true rfl)) dX12_births_10 ⟨Nat.le_of_ble_eq_true rfl, Nat.le_of_ble_eq_true rfl⟩) (fun r9 e9 => ?_)
  rw [e9]
  refine lv_if_eq (tgt := 31) hx hb dX12_births_13 (by decide) (fun hc => ?_) (fun hc => ?_)
  · replace hf := wb_t hc hf
    exact J31 I0_18 L0 M0 H locs hP hD hS ls (lv_sub hl [0, 1, 2] rfl) hf
  · replace hf := wb_f hc hf
    refine lv_iload_n hx hb dX12_births_16 rfl (lv_at hl 1 rfl) ?_
    refine lv_iconst (v := (-1 : Int32)) hx hb dX12_births_17 (by decide) ?_
    refine lv_icmp_lt (tgt := 31) hx hb dX12_births_18 (by decide) (fun hc => ?_) (fun hc => ?_)
    · replace hf := wb_t hc hf
      exact J31 I0_18 L0 M0 H locs hP hD hS ls (lv_sub hl [0, 1, 2] rfl) hf
    · replace hf := wb_f hc hf
      refine lv_iload_n hx hb dX12_births_21 rfl (lv_at hl 1 rfl) ?_
      refine lv_bipush (v := (120 : Int32)) hx hb dX12_births_22 (by decide) ?_
      refine lv_icmp_ge (tgt := 31) hx hb dX12_births_24 (by decide) (fun hc => ?_) (fun hc => ?_)
      · replace hf := wb_t hc hf
        exact J31 I0_18 L0 M0 H locs hP hD hS ls (lv_sub hl [0, 1, 2] rfl) hf
      · replace hf := wb_f hc hf
        refine lv_iconst (v := (1 : Int32)) hx hb dX12_births_27 (by decide) ?_
        refine lv_goto (tgt := 32) hx hb dX12_births_28 (by decide) ?_
        exact J32 I0_18 L0 M0 (1 : Int32) H locs hP hD hS ls (lv_sub hl [0, 1, 2] rfl) hf
