set_option maxHeartbeats 4000000 in
set_option maxRecDepth 100000 in
theorem cn_X12_mixed (l : Launch) (D : va_G) (cB cI cZ : ClassId) (N : Nat) (a0 : Nat → Nat) (I0 : Nat → Int32) (L0 : Int64) (M0 : Nat → Nat → Int32) (x1 : Int32) (x2 : Int32) (x3 : Int32) (x4 : Int32) (sz : Nat) (R : Int32 × (Nat → Int32) × Int64 × (Nat → Nat → Int32)) (hf : fX12_mixed N I0 L0 M0 x1 x2 x3 x4 = some R) : Met l yX12_mixed wsX12_mixed ({ frames := 3, cells := 0, slots := 0, locals := 83 }) (va_Pc [.ref (a0 0), .int x1, .int x2, .int x3, .int x4] (wb_preD D [(cB, .byte), (cI, .int), (cZ, .boolean)] (wWX12 cB cI cZ a0 I0 L0 M0) sz)) (va_Qi (fun r (_ : Unit) => r = R.1) (fun _ t => wb_post D [(cB, .byte), (cI, .int), (cZ, .boolean)] (va_A (wWX12 cB cI cZ a0 I0 L0 M0) sz) (wWX12 cB cI cZ a0 R.2.1 R.2.2.1 R.2.2.2) t) (va_A (wWX12 cB cI cZ a0 I0 L0 M0) sz)) 0 0 (va_A (wWX12 cB cI cZ a0 I0 L0 M0) sz) := by
  refine Met.ofW (cc := cX12_mixed) (maxL := 7) (ret := (some .int)) pn_X12 rfl ?_
  intro p e s m args below meth c s₁ B hml hv
  obtain ⟨rfl, hsz, hP, hK, hD0⟩ := hv
  have hx := B.exec
  have hb := B.bytes
  have hr := B.returns
  have hts := atoms_spec (ws := wsX12_mixed) B.pre
  have hown : s.vm.findClass RX12 = some m.cls := (findClass_of_methodNamed B.named :)
  have hlocks := B.notSynchronized
  subst hsz
  have hD := hD0.self (sz := s.heap.size)
  generalize hAe : va_A (wWX12 cB cI cZ a0 I0 L0 M0) s.heap.size = A at hD ⊢
  have hA : ∀ q : Nat, s.heap.size ≤ q → A q := fun q h => by rw [← hAe]; exact Or.inr h
  have hS : va_S A s.heap s.heap [] := va_S.rf
  have hl := lv_entry ([.ref (a0 0), .int x1, .int x2, .int x3, .int x4]) (n := 7) (Nat.le_of_ble_eq_true rfl)
  rw [lg_entry_eq]
  generalize (lg_sl ([.ref (a0 0), .int x1, .int x2, .int x3, .int x4]) ++ List.replicate (7 - (lg_sl ([.ref (a0 0), .int x1, .int x2, .int x3, .int x4])).length) Slot.unset).toArray = ls at hl ⊢
  have hl : lv_has ls 7 [(0, .ref (a0 0)), (1, .int x1), (2, .int x2), (3, .int x3), (4, .int x4)] := hl
  unfold fX12_mixed at hf
  obtain ⟨H, hHe⟩ : ∃ H : Heap, H = s.heap := ⟨_, rfl⟩
  obtain ⟨locs, hle⟩ : ∃ locs : List Loc, locs = [] := ⟨_, rfl⟩
  refine wb_start (H := H) (locs := locs) hHe hle ?_
  rw [← hHe] at hP
  have hS : va_S A s.heap H locs := by rw [hHe, hle]; exact va_S.rf
  refine lv_aload_n hx hb dX12_mixed_0 rfl (lv_at hl 0 rfl) ?_
  refine lv_iload_n hx hb dX12_mixed_1 rfl (lv_at hl 1 rfl) ?_
  refine lv_iload_n hx hb dX12_mixed_2 rfl (lv_at hl 2 rfl) ?_
  obtain ⟨r1, hr1, hf⟩ := wb_b hf
  have hPc := hP
  have hDc := hD
  have hFc := wj_F hDc hS hA
  refine va_calli (va_runV (As := [.int x1, .int x2]) (rest := []) ⟨hx, hb, hml, hown, hts⟩ (cn_X12_isWheel l D cB cI cZ N a0 I0 L0 M0 x1 x2 H.size r1 hr1) (cwV 2 hts gX12_mixed_X12_isWheel rfl rfl rfl cdX12_isWheel ⟨Nat.le_of_ble_eq_true rfl, Nat.le_of_ble_eq_true rfl⟩) (wb_preDV hPc hK hDc (wr_12 hK hP (q0 := 0) rfl)) rfl rfl hl.1 rfl (lv_room (Nat.le_of_ble_eq_true rfl)) dX12_mixed_3 ⟨Nat.le_of_ble_eq_true rfl, Nat.le_of_ble_eq_true rfl⟩) hS (fun q _ h => hFc q h) hFc (fun r9 u t H locs ht hvm hw hB hz1 hk1 hS => ?_)
  obtain ⟨hP, hD⟩ := wj_0 hFc ht hB
  rw [hw]
  refine lv_if_eq (tgt := 19) hx hb dX12_mixed_6 (by decide) (fun hc => ?_) (fun hc => ?_)
  · replace hf := wb_t hc hf
    refine lv_iconst (v := (0 : Int32)) hx hb dX12_mixed_19 (by decide) ?_
    exact W.iret (v := (0 : Int32)) hx hb hr (fun t ht hW => by rw [← Option.some.inj hf]; exact ⟨⟨(0 : Int32), (), rfl, rfl, by rw [ht]; exact hP, va_K.moved hW.alike hK, hD⟩, hS.F ht⟩) hS.2.2 dX12_mixed_20
  · replace hf := wb_f hc hf
    refine lv_aload_n hx hb dX12_mixed_9 rfl (lv_at hl 0 rfl) ?_
    refine lv_iload_n hx hb dX12_mixed_10 rfl (lv_at hl 3 rfl) ?_
    refine lv_iload hx hb dX12_mixed_11 (lv_at hl 4 rfl) ?_
    obtain ⟨r2, hr2, hf⟩ := wb_b hf
    have hPc := hP
    have hDc := hD
    have hFc := wj_F hDc hS hA
    refine va_calli (va_runV (As := [.int x3, .int x4]) (rest := []) ⟨hx, hb, hml, hown, hts⟩ (cn_X12_isSpan l D cB cI cZ N a0 r1.2.1 r1.2.2.1 r1.2.2.2 x3 x4 H.size r2 hr2) (cwV 2 hts gX12_mixed_X12_isSpan rfl rfl rfl cdX12_isSpan ⟨Nat.le_of_ble_eq_true rfl, Nat.le_of_ble_eq_true rfl⟩) (wb_preDV hPc hK hDc (wr_12 hK hP (q0 := 0) rfl)) rfl rfl hl.1 rfl (lv_room (Nat.le_of_ble_eq_true rfl)) dX12_mixed_13 ⟨Nat.le_of_ble_eq_true rfl, Nat.le_of_ble_eq_true rfl⟩) hS (fun q _ h => hFc q h) hFc (fun r9 u t H locs ht hvm hw hB hz1 hk1 hS => ?_)
    obtain ⟨hP, hD⟩ := wj_0 hFc ht hB
    rw [hw]
    refine lv_if_ne (tgt := 21) hx hb dX12_mixed_16 (by decide) (fun hc => ?_) (fun hc => ?_)
    · replace hf := wb_f hc hf
      refine lv_iconst (v := (0 : Int32)) hx hb dX12_mixed_21 (by decide) ?_
      refine lv_istore (lv' := [(5, .int (0 : Int32)), (0, .ref (a0 0)), (1, .int x1), (2, .int x2), (3, .int x3), (4, .int x4)]) hx hb dX12_mixed_22 hl (by decide) rfl (fun ls hl => ?_)
      refine lv_iload_n hx hb dX12_mixed_24 rfl (lv_at hl 4 rfl) ?_
      refine lv_istore (lv' := [(6, .int x3), (5, .int (0 : Int32)), (0, .ref (a0 0)), (1, .int x1), (2, .int x2), (3, .int x3), (4, .int x4)]) hx hb dX12_mixed_25 hl (by decide) rfl (fun ls hl => ?_)
      have Lh27 : ∀ (fu27 : Nat) (I0_l27 : Nat → Int32) (L0_l27 : Int64) (M0_l27 : Nat → Nat → Int32) (y27_5 : Int32) (y27_6 : Int32) (H : Heap) (locs : List Loc), va_P D vwCl (wWX12 cB cI cZ a0 I0_l27 L0_l27 M0_l27) H → va_D A (wWX12 cB cI cZ a0 I0_l27 L0_l27 M0_l27) → va_S A s.heap H locs → ∀ (ls : Array Slot), lv_has ls 7 [(0, .ref (a0 0)), (1, .int x1), (2, .int x2), (3, .int x3), (4, .int x4), (5, .int y27_5), (6, .int y27_6)] → fX12_mixed_L27 N x1 x2 x3 x4 fu27 I0_l27 L0_l27 M0_l27 y27_5 y27_6 = some R → W p l e (headSpec wsX12_mixed { frames := 3, cells := 0, slots := 0, locals := 83 }).room s m [.ref (a0 0), .int x1, .int x2, .int x3, .int x4].toArray below meth c H locs 0 0 (MQ below (va_Qi (fun r (_ : Unit) => r = R.1) (fun _ t => wb_post D [(cB, .byte), (cI, .int), (cZ, .boolean)] A (wWX12 cB cI cZ a0 R.2.1 R.2.2.1 R.2.2.2) t) A) [.ref (a0 0), .int x1, .int x2, .int x3, .int x4].toArray s 0 0 A) (F0 m 27 ls []) := by
        intro fu27
        induction fu27 with
        | zero =>
          intro I0_l27 L0_l27 M0_l27 y27_5 y27_6 H locs hP hD hS ls hl hf
          exact absurd hf (by rw [fX12_mixed_L27.eq_1]; exact fun h => nomatch h)
        | succ fu27 ih27 =>
          intro I0_l27 L0_l27 M0_l27 y27_5 y27_6 H locs hP hD hS ls hl hf
          rw [fX12_mixed_L27.eq_2] at hf
          refine lv_iload hx hb dX12_mixed_27 (lv_at hl 6 rfl) ?_
          refine lv_iload_n hx hb dX12_mixed_29 rfl (lv_at hl 3 rfl) ?_
          refine lv_iload hx hb dX12_mixed_30 (lv_at hl 4 rfl) ?_
          refine lv_iadd hx hb dX12_mixed_32 ?_
          refine lv_icmp_gt (tgt := 60) hx hb dX12_mixed_33 (by decide) (fun hc => ?_) (fun hc => ?_)
          · replace hf := wb_t hc hf
            refine lv_iload hx hb dX12_mixed_60 (lv_at hl 5 rfl) ?_
            exact W.iret (v := y27_5) hx hb hr (fun t ht hW => by rw [← Option.some.inj hf]; exact ⟨⟨y27_5, (), rfl, rfl, by rw [ht]; exact hP, va_K.moved hW.alike hK, hD⟩, hS.F ht⟩) hS.2.2 dX12_mixed_62
          · replace hf := wb_f hc hf
            refine lv_aload_n hx hb dX12_mixed_36 rfl (lv_at hl 0 rfl) ?_
            refine lv_bipush (v := (20 : Int32)) hx hb dX12_mixed_37 (by decide) ?_
            refine lv_iload_n hx hb dX12_mixed_39 rfl (lv_at hl 1 rfl) ?_
            refine lv_imul hx hb dX12_mixed_40 ?_
            refine lv_iload_n hx hb dX12_mixed_41 rfl (lv_at hl 2 rfl) ?_
            refine lv_iadd hx hb dX12_mixed_42 ?_
            refine lv_iload hx hb dX12_mixed_43 (lv_at hl 6 rfl) ?_
            obtain ⟨r3, hr3, hf⟩ := wb_b hf
            refine vp_callSi (W.runV (As := [.int (((20 : Int32) * x1) + x2), .int y27_6]) (rest := []) ⟨hx, hb, hml, hown, hts⟩ (cn_X12_isMixed l D cB cI cZ N a0 I0_l27 L0_l27 M0_l27 (((20 : Int32) * x1) + x2) y27_6 r3 hr3) (cwV 2 hts gX12_mixed_X12_isMixed rfl rfl rfl cdX12_isMixed ⟨Nat.le_of_ble_eq_true rfl, Nat.le_of_ble_eq_true rfl⟩) (wb_preV hP hK (wr_12 hK hP (q0 := 0) rfl)) rfl rfl hl.1 rfl (lv_room (Nat.le_of_ble_eq_true rfl)) dX12_mixed_45 ⟨Nat.le_of_ble_eq_true rfl, Nat.le_of_ble_eq_true rfl⟩) (fun r9 e9 => ?_)
            rw [e9]
            refine lv_if_eq (tgt := 54) hx hb dX12_mixed_48 (by decide) (fun hc => ?_) (fun hc => ?_)
            · replace hf := wb_t hc hf
              obtain ⟨v4, ev4, hf⟩ := wb_v hf
              refine lv_iinc (v := v4) (lv' := [(6, .int v4), (0, .ref (a0 0)), (1, .int x1), (2, .int x2), (3, .int x3), (4, .int x4), (5, .int y27_5)]) hx hb dX12_mixed_54 hl (k := 6) rfl (by rw [ev4]; rfl) (by decide) rfl (fun ls hl => ?_)
              refine lv_goto (tgt := 27) hx hb dX12_mixed_57 (by decide) ?_
              exact ih27 I0_l27 L0_l27 M0_l27 y27_5 v4 H locs hP hD hS ls (lv_sub hl [1, 2, 3, 4, 5, 6, 0] rfl) hf
            · replace hf := wb_f hc hf
              obtain ⟨v5, ev5, hf⟩ := wb_v hf
              refine lv_iinc (v := v5) (lv' := [(5, .int v5), (0, .ref (a0 0)), (1, .int x1), (2, .int x2), (3, .int x3), (4, .int x4), (6, .int y27_6)]) hx hb dX12_mixed_51 hl (k := 5) rfl (by rw [ev5]; rfl) (by decide) rfl (fun ls hl => ?_)
              obtain ⟨v6, ev6, hf⟩ := wb_v hf
              refine lv_iinc (v := v6) (lv' := [(6, .int v6), (5, .int v5), (0, .ref (a0 0)), (1, .int x1), (2, .int x2), (3, .int x3), (4, .int x4)]) hx hb dX12_mixed_54 hl (k := 6) rfl (by rw [ev6]; rfl) (by decide) rfl (fun ls hl => ?_)
              refine lv_goto (tgt := 27) hx hb dX12_mixed_57 (by decide) ?_
              exact ih27 I0_l27 L0_l27 M0_l27 v5 v6 H locs hP hD hS ls (lv_sub hl [2, 3, 4, 5, 6, 1, 0] rfl) hf
      exact Lh27 N r2.2.1 r2.2.2.1 r2.2.2.2 (0 : Int32) x3 H locs hP hD hS ls (lv_sub hl [2, 3, 4, 5, 6, 1, 0] rfl) hf
    · replace hf := wb_t hc hf
      refine lv_iconst (v := (0 : Int32)) hx hb dX12_mixed_19 (by decide) ?_
      exact W.iret (v := (0 : Int32)) hx hb hr (fun t ht hW => by rw [← Option.some.inj hf]; exact ⟨⟨(0 : Int32), (), rfl, rfl, by rw [ht]; exact hP, va_K.moved hW.alike hK, hD⟩, hS.F ht⟩) hS.2.2 dX12_mixed_20

set_option maxHeartbeats 4000000 in
set_option maxRecDepth 100000 in
theorem cn_X12_seek (l : Launch) (D : va_G) (cB cI cZ : ClassId) (N : Nat) (a0 : Nat → Nat) (I0 : Nat → Int32) (L0 : Int64) (M0 : Nat → Nat → Int32) (x1 : Int32) (x2 : Int32) (x3 : Int32) (x4 : Int32) (sz : Nat) (R : (Nat → Int32) × Int64 × (Nat → Nat → Int32)) (hf : fX12_seek N I0 L0 M0 x1 x2 x3 x4 = some R) : Met l yX12_seek wsX12_seek ({ frames := 2, cells := 0, slots := 0, locals := 44 }) (va_Pc [.ref (a0 0), .int x1, .int x2, .int x3, .int x4] (wb_preD D [(cB, .byte), (cI, .int), (cZ, .boolean)] (wWX12 cB cI cZ a0 I0 L0 M0) sz)) (va_Qv (fun _ : Unit => True) (fun _ t => wb_post D [(cB, .byte), (cI, .int), (cZ, .boolean)] (va_A (wWX12 cB cI cZ a0 I0 L0 M0) sz) (wWX12 cB cI cZ a0 R.1 R.2.1 R.2.2) t) (va_A (wWX12 cB cI cZ a0 I0 L0 M0) sz)) 0 0 (va_A (wWX12 cB cI cZ a0 I0 L0 M0) sz) := by
  refine Met.ofW (cc := cX12_seek) (maxL := 5) (ret := none) pn_X12 rfl ?_
  intro p e s m args below meth c s₁ B hml hv
  obtain ⟨rfl, hsz, hP, hK, hD0⟩ := hv
  have hx := B.exec
  have hb := B.bytes
  have hr := B.returns
  have hts := atoms_spec (ws := wsX12_seek) B.pre
  have hown : s.vm.findClass RX12 = some m.cls := (findClass_of_methodNamed B.named :)
  have hlocks := B.notSynchronized
  have hinX12 : ∀ w ∈ u_ws RX12 TX12 58, w ∈ wsX12_seek := fun w h => List.mem_cons_of_mem _ (List.mem_append_right _ h)
  subst hsz
  have hD := hD0.self (sz := s.heap.size)
  generalize hAe : va_A (wWX12 cB cI cZ a0 I0 L0 M0) s.heap.size = A at hD ⊢
  have hA : ∀ q : Nat, s.heap.size ≤ q → A q := fun q h => by rw [← hAe]; exact Or.inr h
  have hS : va_S A s.heap s.heap [] := va_S.rf
  have hl := lv_entry ([.ref (a0 0), .int x1, .int x2, .int x3, .int x4]) (n := 5) (Nat.le_of_ble_eq_true rfl)
  rw [lg_entry_eq]
  generalize (lg_sl ([.ref (a0 0), .int x1, .int x2, .int x3, .int x4]) ++ List.replicate (5 - (lg_sl ([.ref (a0 0), .int x1, .int x2, .int x3, .int x4])).length) Slot.unset).toArray = ls at hl ⊢
  have hl : lv_has ls 5 [(0, .ref (a0 0)), (1, .int x1), (2, .int x2), (3, .int x3), (4, .int x4)] := hl
  unfold fX12_seek at hf
  obtain ⟨H, hHe⟩ : ∃ H : Heap, H = s.heap := ⟨_, rfl⟩
  obtain ⟨locs, hle⟩ : ∃ locs : List Loc, locs = [] := ⟨_, rfl⟩
  refine wb_start (H := H) (locs := locs) hHe hle ?_
  rw [← hHe] at hP
  have hS : va_S A s.heap H locs := by rw [hHe, hle]; exact va_S.rf
  have J35 : ∀ (I0_j35 : Nat → Int32) (L0_j35 : Int64) (M0_j35 : Nat → Nat → Int32) (z35_0 : Int32) (H : Heap) (locs : List Loc), va_P D vwCl (wWX12 cB cI cZ a0 I0_j35 L0_j35 M0_j35) H → va_D A (wWX12 cB cI cZ a0 I0_j35 L0_j35 M0_j35) → va_S A s.heap H locs → ∀ (ls : Array Slot), lv_has ls 5 [(0, .ref (a0 0)), (1, .int x1), (2, .int x2), (3, .int x3), (4, .int x4)] → fX12_seek_J35 N x1 x2 x3 x4 I0_j35 L0_j35 M0_j35 z35_0 = some R → W p l e (headSpec wsX12_seek { frames := 2, cells := 0, slots := 0, locals := 44 }).room s m [.ref (a0 0), .int x1, .int x2, .int x3, .int x4].toArray below meth c H locs 0 0 (MQ below (va_Qv (fun _ : Unit => True) (fun _ t => wb_post D [(cB, .byte), (cI, .int), (cZ, .boolean)] A (wWX12 cB cI cZ a0 R.1 R.2.1 R.2.2) t) A) [.ref (a0 0), .int x1, .int x2, .int x3, .int x4].toArray s 0 0 A) (F0 m 35 ls [.int z35_0, .ref (a0 0)]) := by
    intro I0_j35 L0_j35 M0_j35 z35_0 H locs hP hD hS ls hl hf
    unfold fX12_seek_J35 at hf
    refine lv_iconst (v := (1 : Int32)) hx hb dX12_seek_35 (by decide) ?_
    obtain ⟨r1, hr1, hf⟩ := wb_b hf
    have hPc := hP
    have hDc := hD
    have hFc := wj_F hDc hS hA
    refine va_calli (va_runV (As := [.int z35_0, .int (1 : Int32)]) (rest := []) ⟨hx, hb, hml, hown, hts⟩ (cn_X12_right l D cB cI cZ N a0 I0_j35 L0_j35 M0_j35 z35_0 (1 : Int32) H.size r1 hr1) (cwV 2 hts gX12_seek_X12_right rfl rfl rfl cdX12_right ⟨Nat.le_of_ble_eq_true rfl, Nat.le_of_ble_eq_true rfl⟩) (wb_preDV hPc hK hDc (wr_12 hK hP (q0 := 0) rfl)) rfl rfl hl.1 rfl (lv_room (Nat.le_of_ble_eq_true rfl)) dX12_seek_36 ⟨Nat.le_of_ble_eq_true rfl, Nat.le_of_ble_eq_true rfl⟩) hS (fun q _ h => hFc q h) hFc (fun r9 u t H locs ht hvm hw hB hz1 hk1 hS => ?_)
    obtain ⟨hP, hD⟩ := wj_0 hFc ht hB
    rw [hw]
    refine lv_if_ne (tgt := 43) hx hb dX12_seek_39 (by decide) (fun hc => ?_) (fun hc => ?_)
    · replace hf := wb_f hc hf
      refine lv_aload_n hx hb dX12_seek_43 rfl (lv_at hl 0 rfl) ?_
      refine lv_iconst (v := (1 : Int32)) hx hb dX12_seek_44 (by decide) ?_
      refine va_put (D := D) (ci := 12) (v := .int (1 : Int32)) (ty := .boolean) (C := RX12) (T := TX12) (N := 58) hx hb hts hinX12 tyX12 tyX12_ok nmX12 hown hK hP hD hS 0 rfl rfl 35 (by decide) (hts (.fieldLink RX12 297 "WheelBookModel" "seeks" "Z") (List.mem_of_getElem? (i := 2) rfl)) (fun _ h9 => h9) rfl (by decide +kernel) (by decide) (by decide) (Nat.le_of_ble_eq_true rfl) dX12_seek_45 (fun H locs hP hD hS => ?_)
      have hP : va_P D vwCl (wWX12 cB cI cZ a0 (upd r1.2.1 16 (1 : Int32)) r1.2.2.1 r1.2.2.2) H := hP
      have hD : va_D A (wWX12 cB cI cZ a0 (upd r1.2.1 16 (1 : Int32)) r1.2.2.1 r1.2.2.2) := hD
      obtain ⟨I0_2, eI0_2, hf⟩ := wb_v hf
      rw [← eI0_2] at hP hD
      refine lv_aload_n hx hb dX12_seek_48 rfl (lv_at hl 0 rfl) ?_
      refine va_get (D := D) (ci := 12) (v := .ref (a0 19)) (C := RX12) (T := TX12) (N := 58) hx hb hts hinX12 hown hK hP 0 rfl rfl 37 (by decide) (hts (.fieldLink RX12 71 "WheelBookModel" "search" "[I") (List.mem_of_getElem? (i := 3) rfl)) (fun _ h9 => h9) rfl dX12_seek_49 ?_
      refine lv_iconst (v := (0 : Int32)) hx hb dX12_seek_52 (by decide) ?_
      refine lv_bipush (v := (20 : Int32)) hx hb dX12_seek_53 (by decide) ?_
      refine lv_iload_n hx hb dX12_seek_55 rfl (lv_at hl 1 rfl) ?_
      refine lv_imul hx hb dX12_seek_56 ?_
      refine lv_iload_n hx hb dX12_seek_57 rfl (lv_at hl 2 rfl) ?_
      refine lv_iadd hx hb dX12_seek_58 ?_
      obtain ⟨hin, hf⟩ := wb_n hf
      refine va_iast hx hb hK hP hD hS 19 1 rfl rfl hin dX12_seek_59 (fun H locs hP hD hS => ?_)
      have hP : va_P D vwCl (wWX12 cB cI cZ a0 I0_2 r1.2.2.1 (wb_um r1.2.2.2 18 ((0 : Int32)).toNatClampNeg (((20 : Int32) * x1) + x2))) H := hP
      have hD : va_D A (wWX12 cB cI cZ a0 I0_2 r1.2.2.1 (wb_um r1.2.2.2 18 ((0 : Int32)).toNatClampNeg (((20 : Int32) * x1) + x2))) := hD
      obtain ⟨M0_3, eM0_3, hf⟩ := wb_v hf
      rw [← eM0_3] at hP hD
      refine lv_aload_n hx hb dX12_seek_60 rfl (lv_at hl 0 rfl) ?_
      refine va_get (D := D) (ci := 12) (v := .ref (a0 19)) (C := RX12) (T := TX12) (N := 58) hx hb hts hinX12 hown hK hP 0 rfl rfl 37 (by decide) (hts (.fieldLink RX12 71 "WheelBookModel" "search" "[I") (List.mem_of_getElem? (i := 3) rfl)) (fun _ h9 => h9) rfl dX12_seek_61 ?_
      refine lv_iconst (v := (1 : Int32)) hx hb dX12_seek_64 (by decide) ?_
      refine lv_iload_n hx hb dX12_seek_65 rfl (lv_at hl 3 rfl) ?_
      obtain ⟨hin, hf⟩ := wb_n hf
      refine va_iast hx hb hK hP hD hS 19 1 rfl rfl hin dX12_seek_66 (fun H locs hP hD hS => ?_)
      have hP : va_P D vwCl (wWX12 cB cI cZ a0 I0_2 r1.2.2.1 (wb_um M0_3 18 ((1 : Int32)).toNatClampNeg x3)) H := hP
      have hD : va_D A (wWX12 cB cI cZ a0 I0_2 r1.2.2.1 (wb_um M0_3 18 ((1 : Int32)).toNatClampNeg x3)) := hD
      obtain ⟨M0_4, eM0_4, hf⟩ := wb_v hf
      rw [← eM0_4] at hP hD
      refine lv_aload_n hx hb dX12_seek_67 rfl (lv_at hl 0 rfl) ?_
      refine va_get (D := D) (ci := 12) (v := .ref (a0 19)) (C := RX12) (T := TX12) (N := 58) hx hb hts hinX12 hown hK hP 0 rfl rfl 37 (by decide) (hts (.fieldLink RX12 71 "WheelBookModel" "search" "[I") (List.mem_of_getElem? (i := 3) rfl)) (fun _ h9 => h9) rfl dX12_seek_68 ?_
      refine lv_iconst (v := (2 : Int32)) hx hb dX12_seek_71 (by decide) ?_
      refine lv_iload hx hb dX12_seek_72 (lv_at hl 4 rfl) ?_
      obtain ⟨hin, hf⟩ := wb_n hf
      refine va_iast hx hb hK hP hD hS 19 1 rfl rfl hin dX12_seek_74 (fun H locs hP hD hS => ?_)
      have hP : va_P D vwCl (wWX12 cB cI cZ a0 I0_2 r1.2.2.1 (wb_um M0_4 18 ((2 : Int32)).toNatClampNeg x4)) H := hP
      have hD : va_D A (wWX12 cB cI cZ a0 I0_2 r1.2.2.1 (wb_um M0_4 18 ((2 : Int32)).toNatClampNeg x4)) := hD
      obtain ⟨M0_5, eM0_5, hf⟩ := wb_v hf
      rw [← eM0_5] at hP hD
      refine lv_aload_n hx hb dX12_seek_75 rfl (lv_at hl 0 rfl) ?_
      refine va_get (D := D) (ci := 12) (v := .ref (a0 19)) (C := RX12) (T := TX12) (N := 58) hx hb hts hinX12 hown hK hP 0 rfl rfl 37 (by decide) (hts (.fieldLink RX12 71 "WheelBookModel" "search" "[I") (List.mem_of_getElem? (i := 3) rfl)) (fun _ h9 => h9) rfl dX12_seek_76 ?_
      refine lv_iconst (v := (3 : Int32)) hx hb dX12_seek_79 (by decide) ?_
      refine lv_iconst (v := (-1 : Int32)) hx hb dX12_seek_80 (by decide) ?_
      obtain ⟨hin, hf⟩ := wb_n hf
      refine va_iast hx hb hK hP hD hS 19 1 rfl rfl hin dX12_seek_81 (fun H locs hP hD hS => ?_)
      have hP : va_P D vwCl (wWX12 cB cI cZ a0 I0_2 r1.2.2.1 (wb_um M0_5 18 ((3 : Int32)).toNatClampNeg (-1 : Int32))) H := hP
      have hD : va_D A (wWX12 cB cI cZ a0 I0_2 r1.2.2.1 (wb_um M0_5 18 ((3 : Int32)).toNatClampNeg (-1 : Int32))) := hD
      obtain ⟨M0_6, eM0_6, hf⟩ := wb_v hf
      rw [← eM0_6] at hP hD
      refine lv_aload_n hx hb dX12_seek_82 rfl (lv_at hl 0 rfl) ?_
      refine va_get (D := D) (ci := 12) (v := .ref (a0 19)) (C := RX12) (T := TX12) (N := 58) hx hb hts hinX12 hown hK hP 0 rfl rfl 37 (by decide) (hts (.fieldLink RX12 71 "WheelBookModel" "search" "[I") (List.mem_of_getElem? (i := 3) rfl)) (fun _ h9 => h9) rfl dX12_seek_83 ?_
      refine lv_iconst (v := (4 : Int32)) hx hb dX12_seek_86 (by decide) ?_
      refine lv_iconst (v := (0 : Int32)) hx hb dX12_seek_87 (by decide) ?_
      obtain ⟨hin, hf⟩ := wb_n hf
      refine va_iast hx hb hK hP hD hS 19 1 rfl rfl hin dX12_seek_88 (fun H locs hP hD hS => ?_)
      have hP : va_P D vwCl (wWX12 cB cI cZ a0 I0_2 r1.2.2.1 (wb_um M0_6 18 ((4 : Int32)).toNatClampNeg (0 : Int32))) H := hP
      have hD : va_D A (wWX12 cB cI cZ a0 I0_2 r1.2.2.1 (wb_um M0_6 18 ((4 : Int32)).toNatClampNeg (0 : Int32))) := hD
      obtain ⟨M0_7, eM0_7, hf⟩ := wb_v hf
      rw [← eM0_7] at hP hD
      refine lv_aload_n hx hb dX12_seek_89 rfl (lv_at hl 0 rfl) ?_
      refine va_get (D := D) (ci := 12) (v := .ref (a0 19)) (C := RX12) (T := TX12) (N := 58) hx hb hts hinX12 hown hK hP 0 rfl rfl 37 (by decide) (hts (.fieldLink RX12 71 "WheelBookModel" "search" "[I") (List.mem_of_getElem? (i := 3) rfl)) (fun _ h9 => h9) rfl dX12_seek_90 ?_
      refine lv_iconst (v := (5 : Int32)) hx hb dX12_seek_93 (by decide) ?_
      refine lv_iconst (v := (-1 : Int32)) hx hb dX12_seek_94 (by decide) ?_
      obtain ⟨hin, hf⟩ := wb_n hf
      refine va_iast hx hb hK hP hD hS 19 1 rfl rfl hin dX12_seek_95 (fun H locs hP hD hS => ?_)
      have hP : va_P D vwCl (wWX12 cB cI cZ a0 I0_2 r1.2.2.1 (wb_um M0_7 18 ((5 : Int32)).toNatClampNeg (-1 : Int32))) H := hP
      have hD : va_D A (wWX12 cB cI cZ a0 I0_2 r1.2.2.1 (wb_um M0_7 18 ((5 : Int32)).toNatClampNeg (-1 : Int32))) := hD
      obtain ⟨M0_8, eM0_8, hf⟩ := wb_v hf
      rw [← eM0_8] at hP hD
      refine lv_aload_n hx hb dX12_seek_96 rfl (lv_at hl 0 rfl) ?_
      refine va_get (D := D) (ci := 12) (v := .ref (a0 19)) (C := RX12) (T := TX12) (N := 58) hx hb hts hinX12 hown hK hP 0 rfl rfl 37 (by decide) (hts (.fieldLink RX12 71 "WheelBookModel" "search" "[I") (List.mem_of_getElem? (i := 3) rfl)) (fun _ h9 => h9) rfl dX12_seek_97 ?_
      refine lv_bipush (v := (6 : Int32)) hx hb dX12_seek_100 (by decide) ?_
      refine lv_iconst (v := (-1 : Int32)) hx hb dX12_seek_102 (by decide) ?_
      obtain ⟨hin, hf⟩ := wb_n hf
      refine va_iast hx hb hK hP hD hS 19 1 rfl rfl hin dX12_seek_103 (fun H locs hP hD hS => ?_)
      have hP : va_P D vwCl (wWX12 cB cI cZ a0 I0_2 r1.2.2.1 (wb_um M0_8 18 ((6 : Int32)).toNatClampNeg (-1 : Int32))) H := hP
      have hD : va_D A (wWX12 cB cI cZ a0 I0_2 r1.2.2.1 (wb_um M0_8 18 ((6 : Int32)).toNatClampNeg (-1 : Int32))) := hD
      obtain ⟨M0_9, eM0_9, hf⟩ := wb_v hf
      rw [← eM0_9] at hP hD
      exact W.vret hx hb hr (fun t ht hW => by rw [← Option.some.inj hf]; exact ⟨⟨(), rfl, trivial, by rw [ht]; exact hP, va_K.moved hW.alike hK, hD⟩, hS.F ht⟩) hS.2.2 dX12_seek_104
    · replace hf := wb_t hc hf
      exact W.vret hx hb hr (fun t ht hW => by rw [← Option.some.inj hf]; exact ⟨⟨(), rfl, trivial, by rw [ht]; exact hP, va_K.moved hW.alike hK, hD⟩, hS.F ht⟩) hS.2.2 dX12_seek_42
  have J34 : ∀ (I0_j34 : Nat → Int32) (L0_j34 : Int64) (M0_j34 : Nat → Nat → Int32) (H : Heap) (locs : List Loc), va_P D vwCl (wWX12 cB cI cZ a0 I0_j34 L0_j34 M0_j34) H → va_D A (wWX12 cB cI cZ a0 I0_j34 L0_j34 M0_j34) → va_S A s.heap H locs → ∀ (ls : Array Slot), lv_has ls 5 [(0, .ref (a0 0)), (1, .int x1), (2, .int x2), (3, .int x3), (4, .int x4)] → fX12_seek_J34 N x1 x2 x3 x4 I0_j34 L0_j34 M0_j34 = some R → W p l e (headSpec wsX12_seek { frames := 2, cells := 0, slots := 0, locals := 44 }).room s m [.ref (a0 0), .int x1, .int x2, .int x3, .int x4].toArray below meth c H locs 0 0 (MQ below (va_Qv (fun _ : Unit => True) (fun _ t => wb_post D [(cB, .byte), (cI, .int), (cZ, .boolean)] A (wWX12 cB cI cZ a0 R.1 R.2.1 R.2.2) t) A) [.ref (a0 0), .int x1, .int x2, .int x3, .int x4].toArray s 0 0 A) (F0 m 34 ls [.ref (a0 0)]) := by
    intro I0_j34 L0_j34 M0_j34 H locs hP hD hS ls hl hf
    unfold fX12_seek_J34 at hf
    refine lv_iconst (v := (0 : Int32)) hx hb dX12_seek_34 (by decide) ?_
    exact J35 I0_j34 L0_j34 M0_j34 (0 : Int32) H locs hP hD hS ls (lv_sub hl [0, 1, 2, 3, 4] rfl) hf
  refine lv_aload_n hx hb dX12_seek_0 rfl (lv_at hl 0 rfl) ?_
  refine lv_iload_n hx hb dX12_seek_1 rfl (lv_at hl 1 rfl) ?_
  refine lv_iload_n hx hb dX12_seek_2 rfl (lv_at hl 2 rfl) ?_
  obtain ⟨r10, hr10, hf⟩ := wb_b hf
  have hPc := hP
  have hDc := hD
  have hFc := wj_F hDc hS hA
  refine va_calli (va_runV (As := [.int x1, .int x2]) (rest := []) ⟨hx, hb, hml, hown, hts⟩ (cn_X12_isWheel l D cB cI cZ N a0 I0 L0 M0 x1 x2 H.size r10 hr10) (cwV 2 hts gX12_seek_X12_isWheel rfl rfl rfl cdX12_isWheel ⟨Nat.le_of_ble_eq_true rfl, Nat.le_of_ble_eq_true rfl⟩) (wb_preDV hPc hK hDc (wr_12 hK hP (q0 := 0) rfl)) rfl rfl hl.1 rfl (lv_room (Nat.le_of_ble_eq_true rfl)) dX12_seek_3 ⟨Nat.le_of_ble_eq_true rfl, Nat.le_of_ble_eq_true rfl⟩) hS (fun q _ h => hFc q h) hFc (fun r9 u t H locs ht hvm hw hB hz1 hk1 hS => ?_)
  obtain ⟨hP, hD⟩ := wj_0 hFc ht hB
  rw [hw]
  refine lv_if_eq (tgt := 42) hx hb dX12_seek_6 (by decide) (fun hc => ?_) (fun hc => ?_)
  · replace hf := wb_t hc hf
    exact W.vret hx hb hr (fun t ht hW => by rw [← Option.some.inj hf]; exact ⟨⟨(), rfl, trivial, by rw [ht]; exact hP, va_K.moved hW.alike hK, hD⟩, hS.F ht⟩) hS.2.2 dX12_seek_42
  · replace hf := wb_f hc hf
    refine lv_aload_n hx hb dX12_seek_9 rfl (lv_at hl 0 rfl) ?_
    refine lv_iload_n hx hb dX12_seek_10 rfl (lv_at hl 3 rfl) ?_
    refine lv_iconst (v := (0 : Int32)) hx hb dX12_seek_11 (by decide) ?_
    refine lv_iconst (v := (3 : Int32)) hx hb dX12_seek_12 (by decide) ?_
    obtain ⟨r11, hr11, hf⟩ := wb_b hf
    refine vp_callSi (W.runS (As := [.int x3, .int (0 : Int32), .int (3 : Int32)]) (rest := [.ref (a0 0)]) ⟨hx, hb, hml, hown, hts⟩ (cn_X12_within l D cB cI cZ N x3 (0 : Int32) (3 : Int32) r11 hr11) (va_cwS 3 hts gX12_seek_X12_within rfl rfl rfl csX12_within ⟨Nat.le_of_ble_eq_true rfl, Nat.le_of_ble_eq_true rfl⟩) (wb_preS (hP.sub (ws' := ([] : va_W)) [] rfl) hK) rfl rfl hl.1 rfl (lv_room (Nat.le_of_ble_eq_true rfl)) dX12_seek_13 ⟨Nat.le_of_ble_eq_true rfl, Nat.le_of_ble_eq_true rfl⟩) (fun r9 e9 => ?_)
    rw [e9]
    refine lv_if_eq (tgt := 34) hx hb dX12_seek_16 (by decide) (fun hc => ?_) (fun hc => ?_)
    · replace hf := wb_t hc hf
      exact J34 r10.2.1 r10.2.2.1 r10.2.2.2 H locs hP hD hS ls (lv_sub hl [0, 1, 2, 3, 4] rfl) hf
    · replace hf := wb_f hc hf
      refine lv_iload hx hb dX12_seek_19 (lv_at hl 4 rfl) ?_
      refine lv_iconst (v := (0 : Int32)) hx hb dX12_seek_21 (by decide) ?_
      refine lv_ldc (v := (1000000 : Int32)) hx hb hown (hts (.constant RX12 218 (1000000)) (List.mem_of_getElem? (i := 1) rfl)) dX12_seek_22 ?_
      obtain ⟨r12, hr12, hf⟩ := wb_b hf
      refine vp_callSi (W.runS (As := [.int x4, .int (0 : Int32), .int (1000000 : Int32)]) (rest := [.ref (a0 0)]) ⟨hx, hb, hml, hown, hts⟩ (cn_X12_within l D cB cI cZ N x4 (0 : Int32) (1000000 : Int32) r12 hr12) (va_cwS 3 hts gX12_seek_X12_within rfl rfl rfl csX12_within ⟨Nat.le_of_ble_eq_true rfl, Nat.le_of_ble_eq_true rfl⟩) (wb_preS (hP.sub (ws' := ([] : va_W)) [] rfl) hK) rfl rfl hl.1 rfl (lv_room (Nat.le_of_ble_eq_true rfl)) dX12_seek_24 ⟨Nat.le_of_ble_eq_true rfl, Nat.le_of_ble_eq_true rfl⟩) (fun r9 e9 => ?_)
      rw [e9]
      refine lv_if_eq (tgt := 34) hx hb dX12_seek_27 (by decide) (fun hc => ?_) (fun hc => ?_)
      · replace hf := wb_t hc hf
        exact J34 r10.2.1 r10.2.2.1 r10.2.2.2 H locs hP hD hS ls (lv_sub hl [0, 1, 2, 3, 4] rfl) hf
      · replace hf := wb_f hc hf
        refine lv_iconst (v := (1 : Int32)) hx hb dX12_seek_30 (by decide) ?_
        refine lv_goto (tgt := 35) hx hb dX12_seek_31 (by decide) ?_
        exact J35 r10.2.1 r10.2.2.1 r10.2.2.2 (1 : Int32) H locs hP hD hS ls (lv_sub hl [0, 1, 2, 3, 4] rfl) hf

set_option maxHeartbeats 4000000 in
set_option maxRecDepth 100000 in
theorem cn_X12_on (l : Launch) (D : va_G) (cB cI cZ : ClassId) (N : Nat) (a0 : Nat → Nat) (I0 : Nat → Int32) (L0 : Int64) (M0 : Nat → Nat → Int32) (x1 : Int32) (sz : Nat) (R : Int32 × (Nat → Int32) × Int64 × (Nat → Nat → Int32)) (hf : fX12_on N I0 L0 M0 x1 = some R) : Met l yX12_on wsX12_on ({ frames := 4, cells := 0, slots := 0, locals := 95 }) (va_Pc [.ref (a0 0), .int x1] (wb_preD D [(cB, .byte), (cI, .int), (cZ, .boolean)] (wWX12 cB cI cZ a0 I0 L0 M0) sz)) (va_Qi (fun r (_ : Unit) => r = R.1) (fun _ t => wb_post D [(cB, .byte), (cI, .int), (cZ, .boolean)] (va_A (wWX12 cB cI cZ a0 I0 L0 M0) sz) (wWX12 cB cI cZ a0 R.2.1 R.2.2.1 R.2.2.2) t) (va_A (wWX12 cB cI cZ a0 I0 L0 M0) sz)) 0 0 (va_A (wWX12 cB cI cZ a0 I0 L0 M0) sz) := by
  refine Met.ofW (cc := cX12_on) (maxL := 5) (ret := (some .int)) pn_X12 rfl ?_
  intro p e s m args below meth c s₁ B hml hv
  obtain ⟨rfl, hsz, hP, hK, hD0⟩ := hv
  have hx := B.exec
  have hb := B.bytes
  have hr := B.returns
  have hts := atoms_spec (ws := wsX12_on) B.pre
  have hown : s.vm.findClass RX12 = some m.cls := (findClass_of_methodNamed B.named :)
  have hlocks := B.notSynchronized
  have hinX12 : ∀ w ∈ u_ws RX12 TX12 58, w ∈ wsX12_on := fun w h => List.mem_cons_of_mem _ (List.mem_append_right _ h)
  subst hsz
  have hD := hD0.self (sz := s.heap.size)
  generalize hAe : va_A (wWX12 cB cI cZ a0 I0 L0 M0) s.heap.size = A at hD ⊢
  have hA : ∀ q : Nat, s.heap.size ≤ q → A q := fun q h => by rw [← hAe]; exact Or.inr h
  have hS : va_S A s.heap s.heap [] := va_S.rf
  have hl := lv_entry ([.ref (a0 0), .int x1]) (n := 5) (Nat.le_of_ble_eq_true rfl)
  rw [lg_entry_eq]
  generalize (lg_sl ([.ref (a0 0), .int x1]) ++ List.replicate (5 - (lg_sl ([.ref (a0 0), .int x1])).length) Slot.unset).toArray = ls at hl ⊢
  have hl : lv_has ls 5 [(0, .ref (a0 0)), (1, .int x1)] := hl
  unfold fX12_on at hf
  obtain ⟨H, hHe⟩ : ∃ H : Heap, H = s.heap := ⟨_, rfl⟩
  obtain ⟨locs, hle⟩ : ∃ locs : List Loc, locs = [] := ⟨_, rfl⟩
  refine wb_start (H := H) (locs := locs) hHe hle ?_
  rw [← hHe] at hP
  have hS : va_S A s.heap H locs := by rw [hHe, hle]; exact va_S.rf
  refine lv_aload_n hx hb dX12_on_0 rfl (lv_at hl 0 rfl) ?_
  refine lv_iconst (v := (0 : Int32)) hx hb dX12_on_1 (by decide) ?_
  refine va_put (D := D) (ci := 12) (v := .int (0 : Int32)) (ty := .int) (C := RX12) (T := TX12) (N := 58) hx hb hts hinX12 tyX12 tyX12_ok nmX12 hown hK hP hD hS 0 rfl rfl 0 (by decide) (hts (.fieldLink RX12 129 "WheelBookModel" "thrown" "I") (List.mem_of_getElem? (i := 1) rfl)) (fun _ h9 => h9) rfl (by decide +kernel) rfl rfl (Nat.le_of_ble_eq_true rfl) dX12_on_2 (fun H locs hP hD hS => ?_)
  have hP : va_P D vwCl (wWX12 cB cI cZ a0 (upd I0 0 (0 : Int32)) L0 M0) H := hP
  have hD : va_D A (wWX12 cB cI cZ a0 (upd I0 0 (0 : Int32)) L0 M0) := hD
  obtain ⟨I0_1, eI0_1, hf⟩ := wb_v hf
  rw [← eI0_1] at hP hD
  refine lv_aload_n hx hb dX12_on_5 rfl (lv_at hl 0 rfl) ?_
  refine lv_aload_n hx hb dX12_on_6 rfl (lv_at hl 0 rfl) ?_
  refine va_get (D := D) (ci := 12) (v := .int (I0_1 16)) (C := RX12) (T := TX12) (N := 58) hx hb hts hinX12 hown hK hP 0 rfl rfl 35 (by decide) (hts (.fieldLink RX12 297 "WheelBookModel" "seeks" "Z") (List.mem_of_getElem? (i := 2) rfl)) (fun _ h9 => h9) rfl dX12_on_7 ?_
  refine lv_iconst (v := (1 : Int32)) hx hb dX12_on_10 (by decide) ?_
  obtain ⟨r2, hr2, hf⟩ := wb_b hf
  have hPc := hP
  have hDc := hD
  have hFc := wj_F hDc hS hA
  refine va_calli (va_runV (As := [.int (I0_1 16), .int (1 : Int32)]) (rest := []) ⟨hx, hb, hml, hown, hts⟩ (cn_X12_right l D cB cI cZ N a0 I0_1 L0 M0 (I0_1 16) (1 : Int32) H.size r2 hr2) (cwV 2 hts gX12_on_X12_right rfl rfl rfl cdX12_right ⟨Nat.le_of_ble_eq_true rfl, Nat.le_of_ble_eq_true rfl⟩) (wb_preDV hPc hK hDc (wr_12 hK hP (q0 := 0) rfl)) rfl rfl hl.1 rfl (lv_room (Nat.le_of_ble_eq_true rfl)) dX12_on_11 ⟨Nat.le_of_ble_eq_true rfl, Nat.le_of_ble_eq_true rfl⟩) hS (fun q _ h => hFc q h) hFc (fun r9 u t H locs ht hvm hw hB hz1 hk1 hS => ?_)
  obtain ⟨hP, hD⟩ := wj_0 hFc ht hB
  rw [hw]
  refine lv_if_eq (tgt := 33) hx hb dX12_on_14 (by decide) (fun hc => ?_) (fun hc => ?_)
  · replace hf := wb_t hc hf
    refine lv_iconst (v := (0 : Int32)) hx hb dX12_on_33 (by decide) ?_
    exact W.iret (v := (0 : Int32)) hx hb hr (fun t ht hW => by rw [← Option.some.inj hf]; exact ⟨⟨(0 : Int32), (), rfl, rfl, by rw [ht]; exact hP, va_K.moved hW.alike hK, hD⟩, hS.F ht⟩) hS.2.2 dX12_on_34
  · replace hf := wb_f hc hf
    refine lv_aload_n hx hb dX12_on_17 rfl (lv_at hl 0 rfl) ?_
    refine lv_iload_n hx hb dX12_on_18 rfl (lv_at hl 1 rfl) ?_
    refine lv_iconst (v := (0 : Int32)) hx hb dX12_on_19 (by decide) ?_
    refine lv_ldcw (v := (50000 : Int32)) hx hb hown (hts (.constant RX12 290 (50000)) (List.mem_of_getElem? (i := 3) rfl)) dX12_on_20 ?_
    obtain ⟨r3, hr3, hf⟩ := wb_b hf
    refine vp_callSi (W.runS (As := [.int x1, .int (0 : Int32), .int (50000 : Int32)]) (rest := [.ref (a0 0)]) ⟨hx, hb, hml, hown, hts⟩ (cn_X12_within l D cB cI cZ N x1 (0 : Int32) (50000 : Int32) r3 hr3) (va_cwS 3 hts gX12_on_X12_within rfl rfl rfl csX12_within ⟨Nat.le_of_ble_eq_true rfl, Nat.le_of_ble_eq_true rfl⟩) (wb_preS (hP.sub (ws' := ([] : va_W)) [] rfl) hK) rfl rfl hl.1 rfl (lv_room (Nat.le_of_ble_eq_true rfl)) dX12_on_23 ⟨Nat.le_of_ble_eq_true rfl, Nat.le_of_ble_eq_true rfl⟩) (fun r9 e9 => ?_)
    rw [e9]
    refine lv_iconst (v := (2 : Int32)) hx hb dX12_on_26 (by decide) ?_
    obtain ⟨r4, hr4, hf⟩ := wb_b hf
    have hPc := hP
    have hDc := hD
    have hFc := wj_F hDc hS hA
    refine va_calli (va_runV (As := [.int r3, .int (2 : Int32)]) (rest := []) ⟨hx, hb, hml, hown, hts⟩ (cn_X12_right l D cB cI cZ N a0 r2.2.1 r2.2.2.1 r2.2.2.2 r3 (2 : Int32) H.size r4 hr4) (cwV 2 hts gX12_on_X12_right rfl rfl rfl cdX12_right ⟨Nat.le_of_ble_eq_true rfl, Nat.le_of_ble_eq_true rfl⟩) (wb_preDV hPc hK hDc (wr_12 hK hP (q0 := 0) rfl)) rfl rfl hl.1 rfl (lv_room (Nat.le_of_ble_eq_true rfl)) dX12_on_27 ⟨Nat.le_of_ble_eq_true rfl, Nat.le_of_ble_eq_true rfl⟩) hS (fun q _ h => hFc q h) hFc (fun r9 u t H locs ht hvm hw hB hz1 hk1 hS => ?_)
    obtain ⟨hP, hD⟩ := wj_0 hFc ht hB
    rw [hw]
    refine lv_if_ne (tgt := 35) hx hb dX12_on_30 (by decide) (fun hc => ?_) (fun hc => ?_)
    · replace hf := wb_f hc hf
      refine lv_iconst (v := (0 : Int32)) hx hb dX12_on_35 (by decide) ?_
      refine lv_istore_n (lv' := [(2, .int (0 : Int32)), (0, .ref (a0 0)), (1, .int x1)]) hx hb dX12_on_36 rfl hl (by decide) rfl (fun ls hl => ?_)
      have Lh37 : ∀ (fu37 : Nat) (I0_l37 : Nat → Int32) (L0_l37 : Int64) (M0_l37 : Nat → Nat → Int32) (y37_2 : Int32) (H : Heap) (locs : List Loc), va_P D vwCl (wWX12 cB cI cZ a0 I0_l37 L0_l37 M0_l37) H → va_D A (wWX12 cB cI cZ a0 I0_l37 L0_l37 M0_l37) → va_S A s.heap H locs → ∀ (ls : Array Slot), lv_has ls 5 [(0, .ref (a0 0)), (1, .int x1), (2, .int y37_2)] → fX12_on_L37 N x1 fu37 I0_l37 L0_l37 M0_l37 y37_2 = some R → W p l e (headSpec wsX12_on { frames := 4, cells := 0, slots := 0, locals := 95 }).room s m [.ref (a0 0), .int x1].toArray below meth c H locs 0 0 (MQ below (va_Qi (fun r (_ : Unit) => r = R.1) (fun _ t => wb_post D [(cB, .byte), (cI, .int), (cZ, .boolean)] A (wWX12 cB cI cZ a0 R.2.1 R.2.2.1 R.2.2.2) t) A) [.ref (a0 0), .int x1].toArray s 0 0 A) (F0 m 37 ls []) := by
        intro fu37
        induction fu37 with
        | zero =>
          intro I0_l37 L0_l37 M0_l37 y37_2 H locs hP hD hS ls hl hf
          exact absurd hf (by rw [fX12_on_L37.eq_1]; exact fun h => nomatch h)
        | succ fu37 ih37 =>
          have J173 : ∀ (I0_j173 : Nat → Int32) (L0_j173 : Int64) (M0_j173 : Nat → Nat → Int32) (y173_2 : Int32) (H : Heap) (locs : List Loc), va_P D vwCl (wWX12 cB cI cZ a0 I0_j173 L0_j173 M0_j173) H → va_D A (wWX12 cB cI cZ a0 I0_j173 L0_j173 M0_j173) → va_S A s.heap H locs → ∀ (ls : Array Slot), lv_has ls 5 [(0, .ref (a0 0)), (1, .int x1), (2, .int y173_2)] → fX12_on_J173 N x1 (fX12_on_L37 N x1 fu37) I0_j173 L0_j173 M0_j173 y173_2 = some R → W p l e (headSpec wsX12_on { frames := 4, cells := 0, slots := 0, locals := 95 }).room s m [.ref (a0 0), .int x1].toArray below meth c H locs 0 0 (MQ below (va_Qi (fun r (_ : Unit) => r = R.1) (fun _ t => wb_post D [(cB, .byte), (cI, .int), (cZ, .boolean)] A (wWX12 cB cI cZ a0 R.2.1 R.2.2.1 R.2.2.2) t) A) [.ref (a0 0), .int x1].toArray s 0 0 A) (F0 m 173 ls []) := by
            intro I0_j173 L0_j173 M0_j173 y173_2 H locs hP hD hS ls hl hf
            unfold fX12_on_J173 at hf
            refine lv_aload_n hx hb dX12_on_173 rfl (lv_at hl 0 rfl) ?_
            refine va_get (D := D) (ci := 12) (v := .ref (a0 19)) (C := RX12) (T := TX12) (N := 58) hx hb hts hinX12 hown hK hP 0 rfl rfl 37 (by decide) (hts (.fieldLink RX12 71 "WheelBookModel" "search" "[I") (List.mem_of_getElem? (i := 4) rfl)) (fun _ h9 => h9) rfl dX12_on_174 ?_
            refine lv_iconst (v := (2 : Int32)) hx hb dX12_on_177 (by decide) ?_
            refine lv_dup2_11 hx hb dX12_on_178 rfl rfl ?_
            obtain ⟨hin, hf⟩ := wb_n hf
            refine va_iald hx hb hK hP 19 1 rfl rfl hin dX12_on_179 ?_
            refine lv_iconst (v := (1 : Int32)) hx hb dX12_on_180 (by decide) ?_
            refine lv_iadd hx hb dX12_on_181 ?_
            obtain ⟨hin, hf⟩ := wb_n hf
            refine va_iast hx hb hK hP hD hS 19 1 rfl rfl hin dX12_on_182 (fun H locs hP hD hS => ?_)
            have hP : va_P D vwCl (wWX12 cB cI cZ a0 I0_j173 L0_j173 (wb_um M0_j173 18 ((2 : Int32)).toNatClampNeg ((M0_j173 18 ((2 : Int32)).toNatClampNeg) + (1 : Int32)))) H := hP
            have hD : va_D A (wWX12 cB cI cZ a0 I0_j173 L0_j173 (wb_um M0_j173 18 ((2 : Int32)).toNatClampNeg ((M0_j173 18 ((2 : Int32)).toNatClampNeg) + (1 : Int32)))) := hD
            obtain ⟨M0_5, eM0_5, hf⟩ := wb_v hf
            rw [← eM0_5] at hP hD
            obtain ⟨v6, ev6, hf⟩ := wb_v hf
            refine lv_iinc (v := v6) (lv' := [(2, .int v6), (0, .ref (a0 0)), (1, .int x1)]) hx hb dX12_on_183 hl (k := 2) rfl (by rw [ev6]; rfl) (by decide) rfl (fun ls hl => ?_)
            refine lv_goto (tgt := 37) hx hb dX12_on_186 (by decide) ?_
            exact ih37 I0_j173 L0_j173 M0_5 v6 H locs hP hD hS ls (lv_sub hl [1, 2, 0] rfl) hf
          have J144 : ∀ (I0_j144 : Nat → Int32) (L0_j144 : Int64) (M0_j144 : Nat → Nat → Int32) (y144_2 : Int32) (y144_3 : Int32) (y144_4 : Int32) (H : Heap) (locs : List Loc), va_P D vwCl (wWX12 cB cI cZ a0 I0_j144 L0_j144 M0_j144) H → va_D A (wWX12 cB cI cZ a0 I0_j144 L0_j144 M0_j144) → va_S A s.heap H locs → ∀ (ls : Array Slot), lv_has ls 5 [(0, .ref (a0 0)), (1, .int x1), (2, .int y144_2), (3, .int y144_3), (4, .int y144_4)] → fX12_on_J144 N x1 (fX12_on_L37 N x1 fu37) I0_j144 L0_j144 M0_j144 y144_2 y144_3 y144_4 = some R → W p l e (headSpec wsX12_on { frames := 4, cells := 0, slots := 0, locals := 95 }).room s m [.ref (a0 0), .int x1].toArray below meth c H locs 0 0 (MQ below (va_Qi (fun r (_ : Unit) => r = R.1) (fun _ t => wb_post D [(cB, .byte), (cI, .int), (cZ, .boolean)] A (wWX12 cB cI cZ a0 R.2.1 R.2.2.1 R.2.2.2) t) A) [.ref (a0 0), .int x1].toArray s 0 0 A) (F0 m 144 ls []) := by
            intro I0_j144 L0_j144 M0_j144 y144_2 y144_3 y144_4 H locs hP hD hS ls hl hf
            unfold fX12_on_J144 at hf
            refine lv_iload hx hb dX12_on_144 (lv_at hl 4 rfl) ?_
            refine lv_aload_n hx hb dX12_on_146 rfl (lv_at hl 0 rfl) ?_
            refine va_get (D := D) (ci := 12) (v := .ref (a0 19)) (C := RX12) (T := TX12) (N := 58) hx hb hts hinX12 hown hK hP 0 rfl rfl 37 (by decide) (hts (.fieldLink RX12 71 "WheelBookModel" "search" "[I") (List.mem_of_getElem? (i := 4) rfl)) (fun _ h9 => h9) rfl dX12_on_147 ?_
            refine lv_iconst (v := (3 : Int32)) hx hb dX12_on_150 (by decide) ?_
            obtain ⟨hin, hf⟩ := wb_n hf
            refine va_iald hx hb hK hP 19 1 rfl rfl hin dX12_on_151 ?_
            refine lv_icmp_ne (tgt := 173) hx hb dX12_on_152 (by decide) (fun hc => ?_) (fun hc => ?_)
            · replace hf := wb_f hc hf
              exact J173 I0_j144 L0_j144 M0_j144 y144_2 H locs hP hD hS ls (lv_sub hl [0, 1, 2] rfl) hf
            · replace hf := wb_t hc hf
              refine lv_aload_n hx hb dX12_on_155 rfl (lv_at hl 0 rfl) ?_
              refine va_get (D := D) (ci := 12) (v := .ref (a0 19)) (C := RX12) (T := TX12) (N := 58) hx hb hts hinX12 hown hK hP 0 rfl rfl 37 (by decide) (hts (.fieldLink RX12 71 "WheelBookModel" "search" "[I") (List.mem_of_getElem? (i := 4) rfl)) (fun _ h9 => h9) rfl dX12_on_156 ?_
              refine lv_iconst (v := (4 : Int32)) hx hb dX12_on_159 (by decide) ?_
              refine lv_dup2_11 hx hb dX12_on_160 rfl rfl ?_
              obtain ⟨hin, hf⟩ := wb_n hf
              refine va_iald hx hb hK hP 19 1 rfl rfl hin dX12_on_161 ?_
              refine lv_iconst (v := (1 : Int32)) hx hb dX12_on_162 (by decide) ?_
              refine lv_iadd hx hb dX12_on_163 ?_
              obtain ⟨hin, hf⟩ := wb_n hf
              refine va_iast hx hb hK hP hD hS 19 1 rfl rfl hin dX12_on_164 (fun H locs hP hD hS => ?_)
              have hP : va_P D vwCl (wWX12 cB cI cZ a0 I0_j144 L0_j144 (wb_um M0_j144 18 ((4 : Int32)).toNatClampNeg ((M0_j144 18 ((4 : Int32)).toNatClampNeg) + (1 : Int32)))) H := hP
              have hD : va_D A (wWX12 cB cI cZ a0 I0_j144 L0_j144 (wb_um M0_j144 18 ((4 : Int32)).toNatClampNeg ((M0_j144 18 ((4 : Int32)).toNatClampNeg) + (1 : Int32)))) := hD
              obtain ⟨M0_7, eM0_7, hf⟩ := wb_v hf
              rw [← eM0_7] at hP hD
              refine lv_aload_n hx hb dX12_on_165 rfl (lv_at hl 0 rfl) ?_
              refine va_get (D := D) (ci := 12) (v := .ref (a0 19)) (C := RX12) (T := TX12) (N := 58) hx hb hts hinX12 hown hK hP 0 rfl rfl 37 (by decide) (hts (.fieldLink RX12 71 "WheelBookModel" "search" "[I") (List.mem_of_getElem? (i := 4) rfl)) (fun _ h9 => h9) rfl dX12_on_166 ?_
              refine lv_bipush (v := (6 : Int32)) hx hb dX12_on_169 (by decide) ?_
              refine lv_iload_n hx hb dX12_on_171 rfl (lv_at hl 3 rfl) ?_
              obtain ⟨hin, hf⟩ := wb_n hf
              refine va_iast hx hb hK hP hD hS 19 1 rfl rfl hin dX12_on_172 (fun H locs hP hD hS => ?_)
              have hP : va_P D vwCl (wWX12 cB cI cZ a0 I0_j144 L0_j144 (wb_um M0_7 18 ((6 : Int32)).toNatClampNeg y144_3)) H := hP
              have hD : va_D A (wWX12 cB cI cZ a0 I0_j144 L0_j144 (wb_um M0_7 18 ((6 : Int32)).toNatClampNeg y144_3)) := hD
              obtain ⟨M0_8, eM0_8, hf⟩ := wb_v hf
              rw [← eM0_8] at hP hD
              exact J173 I0_j144 L0_j144 M0_8 y144_2 H locs hP hD hS ls (lv_sub hl [0, 1, 2] rfl) hf
          have J122 : ∀ (I0_j122 : Nat → Int32) (L0_j122 : Int64) (M0_j122 : Nat → Nat → Int32) (y122_2 : Int32) (y122_3 : Int32) (y122_4 : Int32) (H : Heap) (locs : List Loc), va_P D vwCl (wWX12 cB cI cZ a0 I0_j122 L0_j122 M0_j122) H → va_D A (wWX12 cB cI cZ a0 I0_j122 L0_j122 M0_j122) → va_S A s.heap H locs → ∀ (ls : Array Slot), lv_has ls 5 [(0, .ref (a0 0)), (1, .int x1), (2, .int y122_2), (3, .int y122_3), (4, .int y122_4)] → fX12_on_J122 N x1 (fX12_on_L37 N x1 fu37) I0_j122 L0_j122 M0_j122 y122_2 y122_3 y122_4 = some R → W p l e (headSpec wsX12_on { frames := 4, cells := 0, slots := 0, locals := 95 }).room s m [.ref (a0 0), .int x1].toArray below meth c H locs 0 0 (MQ below (va_Qi (fun r (_ : Unit) => r = R.1) (fun _ t => wb_post D [(cB, .byte), (cI, .int), (cZ, .boolean)] A (wWX12 cB cI cZ a0 R.2.1 R.2.2.1 R.2.2.2) t) A) [.ref (a0 0), .int x1].toArray s 0 0 A) (F0 m 122 ls []) := by
            intro I0_j122 L0_j122 M0_j122 y122_2 y122_3 y122_4 H locs hP hD hS ls hl hf
            unfold fX12_on_J122 at hf
            refine lv_aload_n hx hb dX12_on_122 rfl (lv_at hl 0 rfl) ?_
            refine va_get (D := D) (ci := 12) (v := .ref (a0 19)) (C := RX12) (T := TX12) (N := 58) hx hb hts hinX12 hown hK hP 0 rfl rfl 37 (by decide) (hts (.fieldLink RX12 71 "WheelBookModel" "search" "[I") (List.mem_of_getElem? (i := 4) rfl)) (fun _ h9 => h9) rfl dX12_on_123 ?_
            refine lv_iconst (v := (3 : Int32)) hx hb dX12_on_126 (by decide) ?_
            refine lv_iload hx hb dX12_on_127 (lv_at hl 4 rfl) ?_
            obtain ⟨hin, hf⟩ := wb_n hf
            refine va_iast hx hb hK hP hD hS 19 1 rfl rfl hin dX12_on_129 (fun H locs hP hD hS => ?_)
            have hP : va_P D vwCl (wWX12 cB cI cZ a0 I0_j122 L0_j122 (wb_um M0_j122 18 ((3 : Int32)).toNatClampNeg y122_4)) H := hP
            have hD : va_D A (wWX12 cB cI cZ a0 I0_j122 L0_j122 (wb_um M0_j122 18 ((3 : Int32)).toNatClampNeg y122_4)) := hD
            obtain ⟨M0_9, eM0_9, hf⟩ := wb_v hf
            rw [← eM0_9] at hP hD
            refine lv_aload_n hx hb dX12_on_130 rfl (lv_at hl 0 rfl) ?_
            refine va_get (D := D) (ci := 12) (v := .ref (a0 19)) (C := RX12) (T := TX12) (N := 58) hx hb hts hinX12 hown hK hP 0 rfl rfl 37 (by decide) (hts (.fieldLink RX12 71 "WheelBookModel" "search" "[I") (List.mem_of_getElem? (i := 4) rfl)) (fun _ h9 => h9) rfl dX12_on_131 ?_
            refine lv_iconst (v := (4 : Int32)) hx hb dX12_on_134 (by decide) ?_
            refine lv_iconst (v := (0 : Int32)) hx hb dX12_on_135 (by decide) ?_
            obtain ⟨hin, hf⟩ := wb_n hf
            refine va_iast hx hb hK hP hD hS 19 1 rfl rfl hin dX12_on_136 (fun H locs hP hD hS => ?_)
            have hP : va_P D vwCl (wWX12 cB cI cZ a0 I0_j122 L0_j122 (wb_um M0_9 18 ((4 : Int32)).toNatClampNeg (0 : Int32))) H := hP
            have hD : va_D A (wWX12 cB cI cZ a0 I0_j122 L0_j122 (wb_um M0_9 18 ((4 : Int32)).toNatClampNeg (0 : Int32))) := hD
            obtain ⟨M0_10, eM0_10, hf⟩ := wb_v hf
            rw [← eM0_10] at hP hD
            refine lv_aload_n hx hb dX12_on_137 rfl (lv_at hl 0 rfl) ?_
            refine va_get (D := D) (ci := 12) (v := .ref (a0 19)) (C := RX12) (T := TX12) (N := 58) hx hb hts hinX12 hown hK hP 0 rfl rfl 37 (by decide) (hts (.fieldLink RX12 71 "WheelBookModel" "search" "[I") (List.mem_of_getElem? (i := 4) rfl)) (fun _ h9 => h9) rfl dX12_on_138 ?_
            refine lv_iconst (v := (5 : Int32)) hx hb dX12_on_141 (by decide) ?_
            refine lv_iload_n hx hb dX12_on_142 rfl (lv_at hl 3 rfl) ?_
            obtain ⟨hin, hf⟩ := wb_n hf
            refine va_iast hx hb hK hP hD hS 19 1 rfl rfl hin dX12_on_143 (fun H locs hP hD hS => ?_)
            have hP : va_P D vwCl (wWX12 cB cI cZ a0 I0_j122 L0_j122 (wb_um M0_10 18 ((5 : Int32)).toNatClampNeg y122_3)) H := hP
            have hD : va_D A (wWX12 cB cI cZ a0 I0_j122 L0_j122 (wb_um M0_10 18 ((5 : Int32)).toNatClampNeg y122_3)) := hD
            obtain ⟨M0_11, eM0_11, hf⟩ := wb_v hf
            rw [← eM0_11] at hP hD
            exact J144 I0_j122 L0_j122 M0_11 y122_2 y122_3 y122_4 H locs hP hD hS ls (lv_sub hl [0, 1, 2, 3, 4] rfl) hf
          have J96 : ∀ (I0_j96 : Nat → Int32) (L0_j96 : Int64) (M0_j96 : Nat → Nat → Int32) (y96_2 : Int32) (y96_3 : Int32) (z96_0 : Int32) (z96_1 : Int32) (z96_2 : Int32) (z96_3 : Int32) (H : Heap) (locs : List Loc), va_P D vwCl (wWX12 cB cI cZ a0 I0_j96 L0_j96 M0_j96) H → va_D A (wWX12 cB cI cZ a0 I0_j96 L0_j96 M0_j96) → va_S A s.heap H locs → ∀ (ls : Array Slot), lv_has ls 5 [(0, .ref (a0 0)), (1, .int x1), (2, .int y96_2), (3, .int y96_3)] → fX12_on_J96 N x1 (fX12_on_L37 N x1 fu37) I0_j96 L0_j96 M0_j96 y96_2 y96_3 z96_0 z96_1 z96_2 z96_3 = some R → W p l e (headSpec wsX12_on { frames := 4, cells := 0, slots := 0, locals := 95 }).room s m [.ref (a0 0), .int x1].toArray below meth c H locs 0 0 (MQ below (va_Qi (fun r (_ : Unit) => r = R.1) (fun _ t => wb_post D [(cB, .byte), (cI, .int), (cZ, .boolean)] A (wWX12 cB cI cZ a0 R.2.1 R.2.2.1 R.2.2.2) t) A) [.ref (a0 0), .int x1].toArray s 0 0 A) (F0 m 96 ls [.int z96_0, .int z96_1, .int z96_2, .int z96_3, .ref (a0 0)]) := by
            intro I0_j96 L0_j96 M0_j96 y96_2 y96_3 z96_0 z96_1 z96_2 z96_3 H locs hP hD hS ls hl hf
            unfold fX12_on_J96 at hf
            obtain ⟨r12, hr12, hf⟩ := wb_b hf
            refine vp_callSi (W.runV (As := [.int z96_3, .int z96_2, .int z96_1, .int z96_0]) (rest := []) ⟨hx, hb, hml, hown, hts⟩ (cn_X12_costOn l D cB cI cZ N a0 I0_j96 L0_j96 M0_j96 z96_3 z96_2 z96_1 z96_0 r12 hr12) (cwV 4 hts gX12_on_X12_costOn rfl rfl rfl cdX12_costOn ⟨Nat.le_of_ble_eq_true rfl, Nat.le_of_ble_eq_true rfl⟩) (wb_preV hP hK (wr_12 hK hP (q0 := 0) rfl)) rfl rfl hl.1 rfl (lv_room (Nat.le_of_ble_eq_true rfl)) dX12_on_96 ⟨Nat.le_of_ble_eq_true rfl, Nat.le_of_ble_eq_true rfl⟩) (fun r9 e9 => ?_)
            rw [e9]
            refine lv_istore (lv' := [(4, .int r12), (0, .ref (a0 0)), (1, .int x1), (2, .int y96_2), (3, .int y96_3)]) hx hb dX12_on_99 hl (by decide) rfl (fun ls hl => ?_)
            refine lv_aload_n hx hb dX12_on_101 rfl (lv_at hl 1 rfl) ?_
            refine va_get (D := D) (ci := 12) (v := .ref (a0 19)) (C := RX12) (T := TX12) (N := 58) hx hb hts hinX12 hown hK hP 0 rfl rfl 37 (by decide) (hts (.fieldLink RX12 71 "WheelBookModel" "search" "[I") (List.mem_of_getElem? (i := 4) rfl)) (fun _ h9 => h9) rfl dX12_on_102 ?_
            refine lv_iconst (v := (3 : Int32)) hx hb dX12_on_105 (by decide) ?_
            obtain ⟨hin, hf⟩ := wb_n hf
            refine va_iald hx hb hK hP 19 1 rfl rfl hin dX12_on_106 ?_
            refine lv_iconst (v := (-1 : Int32)) hx hb dX12_on_107 (by decide) ?_
            refine lv_icmp_eq (tgt := 122) hx hb dX12_on_108 (by decide) (fun hc => ?_) (fun hc => ?_)
            · replace hf := wb_t hc hf
              exact J122 I0_j96 L0_j96 M0_j96 y96_2 y96_3 r12 H locs hP hD hS ls (lv_sub hl [1, 2, 3, 4, 0] rfl) hf
            · replace hf := wb_f hc hf
              refine lv_iload hx hb dX12_on_111 (lv_at hl 0 rfl) ?_
              refine lv_aload_n hx hb dX12_on_113 rfl (lv_at hl 1 rfl) ?_
              refine va_get (D := D) (ci := 12) (v := .ref (a0 19)) (C := RX12) (T := TX12) (N := 58) hx hb hts hinX12 hown hK hP 0 rfl rfl 37 (by decide) (hts (.fieldLink RX12 71 "WheelBookModel" "search" "[I") (List.mem_of_getElem? (i := 4) rfl)) (fun _ h9 => h9) rfl dX12_on_114 ?_
              refine lv_iconst (v := (3 : Int32)) hx hb dX12_on_117 (by decide) ?_
              obtain ⟨hin, hf⟩ := wb_n hf
              refine va_iald hx hb hK hP 19 1 rfl rfl hin dX12_on_118 ?_
              refine lv_icmp_ge (tgt := 144) hx hb dX12_on_119 (by decide) (fun hc => ?_) (fun hc => ?_)
              · replace hf := wb_t hc hf
                exact J144 I0_j96 L0_j96 M0_j96 y96_2 y96_3 r12 H locs hP hD hS ls (lv_sub hl [1, 2, 3, 4, 0] rfl) hf
              · replace hf := wb_f hc hf
                exact J122 I0_j96 L0_j96 M0_j96 y96_2 y96_3 r12 H locs hP hD hS ls (lv_sub hl [1, 2, 3, 4, 0] rfl) hf
          intro I0_l37 L0_l37 M0_l37 y37_2 H locs hP hD hS ls hl hf
          rw [fX12_on_L37.eq_2] at hf
          refine lv_iload_n hx hb dX12_on_37 rfl (lv_at hl 2 rfl) ?_
          refine lv_iload_n hx hb dX12_on_38 rfl (lv_at hl 1 rfl) ?_
          refine lv_icmp_ge (tgt := 189) hx hb dX12_on_39 (by decide) (fun hc => ?_) (fun hc => ?_)
          · replace hf := wb_t hc hf
            refine lv_iload_n hx hb dX12_on_189 rfl (lv_at hl 2 rfl) ?_
            exact W.iret (v := y37_2) hx hb hr (fun t ht hW => by rw [← Option.some.inj hf]; exact ⟨⟨y37_2, (), rfl, rfl, by rw [ht]; exact hP, va_K.moved hW.alike hK, hD⟩, hS.F ht⟩) hS.2.2 dX12_on_190
          · replace hf := wb_f hc hf
            refine lv_aload_n hx hb dX12_on_42 rfl (lv_at hl 0 rfl) ?_
            refine va_get (D := D) (ci := 12) (v := .ref (a0 19)) (C := RX12) (T := TX12) (N := 58) hx hb hts hinX12 hown hK hP 0 rfl rfl 37 (by decide) (hts (.fieldLink RX12 71 "WheelBookModel" "search" "[I") (List.mem_of_getElem? (i := 4) rfl)) (fun _ h9 => h9) rfl dX12_on_43 ?_
            refine lv_iconst (v := (2 : Int32)) hx hb dX12_on_46 (by decide) ?_
            obtain ⟨hin, hf⟩ := wb_n hf
            refine va_iald hx hb hK hP 19 1 rfl rfl hin dX12_on_47 ?_
            refine lv_ldc (v := (1000000 : Int32)) hx hb hown (hts (.constant RX12 218 (1000000)) (List.mem_of_getElem? (i := 5) rfl)) dX12_on_48 ?_
            refine lv_icmp_gt (tgt := 189) hx hb dX12_on_50 (by decide) (fun hc => ?_) (fun hc => ?_)
            · replace hf := wb_t hc hf
              refine lv_iload_n hx hb dX12_on_189 rfl (lv_at hl 2 rfl) ?_
              exact W.iret (v := y37_2) hx hb hr (fun t ht hW => by rw [← Option.some.inj hf]; exact ⟨⟨y37_2, (), rfl, rfl, by rw [ht]; exact hP, va_K.moved hW.alike hK, hD⟩, hS.F ht⟩) hS.2.2 dX12_on_190
            · replace hf := wb_f hc hf
              refine lv_aload_n hx hb dX12_on_53 rfl (lv_at hl 0 rfl) ?_
              refine va_get (D := D) (ci := 12) (v := .ref (a0 19)) (C := RX12) (T := TX12) (N := 58) hx hb hts hinX12 hown hK hP 0 rfl rfl 37 (by decide) (hts (.fieldLink RX12 71 "WheelBookModel" "search" "[I") (List.mem_of_getElem? (i := 4) rfl)) (fun _ h9 => h9) rfl dX12_on_54 ?_
              refine lv_iconst (v := (2 : Int32)) hx hb dX12_on_57 (by decide) ?_
              obtain ⟨hin, hf⟩ := wb_n hf
              refine va_iald hx hb hK hP 19 1 rfl rfl hin dX12_on_58 ?_
              obtain ⟨v13, ev13, hf⟩ := wb_v hf
              refine wb_topi ev13 ?_
              refine lv_istore_n (lv' := [(3, .int v13), (0, .ref (a0 0)), (1, .int x1), (2, .int y37_2)]) hx hb dX12_on_59 rfl hl (by decide) rfl (fun ls hl => ?_)
              refine lv_aload_n hx hb dX12_on_60 rfl (lv_at hl 1 rfl) ?_
              refine lv_aload_n hx hb dX12_on_61 rfl (lv_at hl 1 rfl) ?_
              refine va_get (D := D) (ci := 12) (v := .ref (a0 19)) (C := RX12) (T := TX12) (N := 58) hx hb hts hinX12 hown hK hP 0 rfl rfl 37 (by decide) (hts (.fieldLink RX12 71 "WheelBookModel" "search" "[I") (List.mem_of_getElem? (i := 4) rfl)) (fun _ h9 => h9) rfl dX12_on_62 ?_
              refine lv_iconst (v := (0 : Int32)) hx hb dX12_on_65 (by decide) ?_
              obtain ⟨hin, hf⟩ := wb_n hf
              refine va_iald hx hb hK hP 19 1 rfl rfl hin dX12_on_66 ?_
              refine lv_aload_n hx hb dX12_on_67 rfl (lv_at hl 1 rfl) ?_
              refine va_get (D := D) (ci := 12) (v := .ref (a0 19)) (C := RX12) (T := TX12) (N := 58) hx hb hts hinX12 hown hK hP 0 rfl rfl 37 (by decide) (hts (.fieldLink RX12 71 "WheelBookModel" "search" "[I") (List.mem_of_getElem? (i := 4) rfl)) (fun _ h9 => h9) rfl dX12_on_68 ?_
              refine lv_iconst (v := (1 : Int32)) hx hb dX12_on_71 (by decide) ?_
              obtain ⟨hin, hf⟩ := wb_n hf
              refine va_iald hx hb hK hP 19 1 rfl rfl hin dX12_on_72 ?_
              refine lv_iload_n hx hb dX12_on_73 rfl (lv_at hl 0 rfl) ?_
              refine lv_aload_n hx hb dX12_on_74 rfl (lv_at hl 1 rfl) ?_
              refine va_get (D := D) (ci := 12) (v := .ref (a0 19)) (C := RX12) (T := TX12) (N := 58) hx hb hts hinX12 hown hK hP 0 rfl rfl 37 (by decide) (hts (.fieldLink RX12 71 "WheelBookModel" "search" "[I") (List.mem_of_getElem? (i := 4) rfl)) (fun _ h9 => h9) rfl dX12_on_75 ?_
              refine lv_iconst (v := (3 : Int32)) hx hb dX12_on_78 (by decide) ?_
              obtain ⟨hin, hf⟩ := wb_n hf
              refine va_iald hx hb hK hP 19 1 rfl rfl hin dX12_on_79 ?_
              refine lv_iconst (v := (-1 : Int32)) hx hb dX12_on_80 (by decide) ?_
              refine lv_icmp_ne (tgt := 90) hx hb dX12_on_81 (by decide) (fun hc => ?_) (fun hc => ?_)
              · replace hf := wb_f hc hf
                refine lv_aload_n hx hb dX12_on_90 rfl (lv_at hl 1 rfl) ?_
                refine va_get (D := D) (ci := 12) (v := .ref (a0 19)) (C := RX12) (T := TX12) (N := 58) hx hb hts hinX12 hown hK hP 0 rfl rfl 37 (by decide) (hts (.fieldLink RX12 71 "WheelBookModel" "search" "[I") (List.mem_of_getElem? (i := 4) rfl)) (fun _ h9 => h9) rfl dX12_on_91 ?_
                refine lv_iconst (v := (3 : Int32)) hx hb dX12_on_94 (by decide) ?_
                obtain ⟨hin, hf⟩ := wb_n hf
                refine va_iald hx hb hK hP 19 1 rfl rfl hin dX12_on_95 ?_
                exact J96 I0_l37 L0_l37 M0_l37 y37_2 v13 (M0_l37 18 ((3 : Int32)).toNatClampNeg) v13 (M0_l37 18 ((1 : Int32)).toNatClampNeg) (M0_l37 18 ((0 : Int32)).toNatClampNeg) H locs hP hD hS ls (lv_sub hl [1, 2, 3, 0] rfl) hf
              · replace hf := wb_t hc hf
                refine lv_sipush (v := (999 : Int32)) hx hb dX12_on_84 (by decide) ?_
                refine lv_goto (tgt := 96) hx hb dX12_on_87 (by decide) ?_
                exact J96 I0_l37 L0_l37 M0_l37 y37_2 v13 (999 : Int32) v13 (M0_l37 18 ((1 : Int32)).toNatClampNeg) (M0_l37 18 ((0 : Int32)).toNatClampNeg) H locs hP hD hS ls (lv_sub hl [1, 2, 3, 0] rfl) hf
      exact Lh37 N r4.2.1 r4.2.2.1 r4.2.2.2 (0 : Int32) H locs hP hD hS ls (lv_sub hl [1, 2, 0] rfl) hf
    · replace hf := wb_t hc hf
      refine lv_iconst (v := (0 : Int32)) hx hb dX12_on_33 (by decide) ?_
      exact W.iret (v := (0 : Int32)) hx hb hr (fun t ht hW => by rw [← Option.some.inj hf]; exact ⟨⟨(0 : Int32), (), rfl, rfl, by rw [ht]; exact hP, va_K.moved hW.alike hK, hD⟩, hS.F ht⟩) hS.2.2 dX12_on_34

set_option maxHeartbeats 4000000 in
set_option maxRecDepth 100000 in
theorem cn_X12_held (l : Launch) (D : va_G) (cB cI cZ : ClassId) (N : Nat) (a0 : Nat → Nat) (I0 : Nat → Int32) (L0 : Int64) (M0 : Nat → Nat → Int32) (x1 : Int32) (sz : Nat) (R : Int32 × (Nat → Int32) × Int64 × (Nat → Nat → Int32)) (hf : fX12_held N I0 L0 M0 x1 = some R) : Met l yX12_held wsX12_held ({ frames := 1, cells := 0, slots := 0, locals := 22 }) (va_Pc [.ref (a0 0), .int x1] (wb_preD D [(cB, .byte), (cI, .int), (cZ, .boolean)] (wWX12 cB cI cZ a0 I0 L0 M0) sz)) (va_Qi (fun r (_ : Unit) => r = R.1) (fun _ t => wb_post D [(cB, .byte), (cI, .int), (cZ, .boolean)] (va_A (wWX12 cB cI cZ a0 I0 L0 M0) sz) (wWX12 cB cI cZ a0 R.2.1 R.2.2.1 R.2.2.2) t) (va_A (wWX12 cB cI cZ a0 I0 L0 M0) sz)) 0 0 (va_A (wWX12 cB cI cZ a0 I0 L0 M0) sz) := by
  refine Met.ofW (cc := cX12_held) (maxL := 2) (ret := (some .int)) pn_X12 rfl ?_
  intro p e s m args below meth c s₁ B hml hv
  obtain ⟨rfl, hsz, hP, hK, hD0⟩ := hv
  have hx := B.exec
  have hb := B.bytes
  have hr := B.returns
  have hts := atoms_spec (ws := wsX12_held) B.pre
  have hown : s.vm.findClass RX12 = some m.cls := (findClass_of_methodNamed B.named :)
  have hlocks := B.notSynchronized
  have hinX12 : ∀ w ∈ u_ws RX12 TX12 58, w ∈ wsX12_held := fun w h => List.mem_cons_of_mem _ (List.mem_append_right _ h)
  subst hsz
  have hD := hD0.self (sz := s.heap.size)
  generalize hAe : va_A (wWX12 cB cI cZ a0 I0 L0 M0) s.heap.size = A at hD ⊢
  have hA : ∀ q : Nat, s.heap.size ≤ q → A q := fun q h => by rw [← hAe]; exact Or.inr h
  have hS : va_S A s.heap s.heap [] := va_S.rf
  have hl := lv_entry ([.ref (a0 0), .int x1]) (n := 2) (Nat.le_of_ble_eq_true rfl)
  rw [lg_entry_eq]
  generalize (lg_sl ([.ref (a0 0), .int x1]) ++ List.replicate (2 - (lg_sl ([.ref (a0 0), .int x1])).length) Slot.unset).toArray = ls at hl ⊢
  have hl : lv_has ls 2 [(0, .ref (a0 0)), (1, .int x1)] := hl
  unfold fX12_held at hf
  obtain ⟨H, hHe⟩ : ∃ H : Heap, H = s.heap := ⟨_, rfl⟩
  obtain ⟨locs, hle⟩ : ∃ locs : List Loc, locs = [] := ⟨_, rfl⟩
  refine wb_start (H := H) (locs := locs) hHe hle ?_
  rw [← hHe] at hP
  have hS : va_S A s.heap H locs := by rw [hHe, hle]; exact va_S.rf
  have J27 : ∀ (I0_j27 : Nat → Int32) (L0_j27 : Int64) (M0_j27 : Nat → Nat → Int32) (z27_0 : Int32) (H : Heap) (locs : List Loc), va_P D vwCl (wWX12 cB cI cZ a0 I0_j27 L0_j27 M0_j27) H → va_D A (wWX12 cB cI cZ a0 I0_j27 L0_j27 M0_j27) → va_S A s.heap H locs → ∀ (ls : Array Slot), lv_has ls 2 [(0, .ref (a0 0)), (1, .int x1)] → fX12_held_J27 N x1 I0_j27 L0_j27 M0_j27 z27_0 = some R → W p l e (headSpec wsX12_held { frames := 1, cells := 0, slots := 0, locals := 22 }).room s m [.ref (a0 0), .int x1].toArray below meth c H locs 0 0 (MQ below (va_Qi (fun r (_ : Unit) => r = R.1) (fun _ t => wb_post D [(cB, .byte), (cI, .int), (cZ, .boolean)] A (wWX12 cB cI cZ a0 R.2.1 R.2.2.1 R.2.2.2) t) A) [.ref (a0 0), .int x1].toArray s 0 0 A) (F0 m 27 ls [.int z27_0, .ref (a0 0)]) := by
    intro I0_j27 L0_j27 M0_j27 z27_0 H locs hP hD hS ls hl hf
    unfold fX12_held_J27 at hf
    refine lv_iconst (v := (1 : Int32)) hx hb dX12_held_27 (by decide) ?_
    obtain ⟨r1, hr1, hf⟩ := wb_b hf
    have hPc := hP
    have hDc := hD
    have hFc := wj_F hDc hS hA
    refine va_calli (va_runV (As := [.int z27_0, .int (1 : Int32)]) (rest := []) ⟨hx, hb, hml, hown, hts⟩ (cn_X12_right l D cB cI cZ N a0 I0_j27 L0_j27 M0_j27 z27_0 (1 : Int32) H.size r1 hr1) (cwV 2 hts gX12_held_X12_right rfl rfl rfl cdX12_right ⟨Nat.le_of_ble_eq_true rfl, Nat.le_of_ble_eq_true rfl⟩) (wb_preDV hPc hK hDc (wr_12 hK hP (q0 := 0) rfl)) rfl rfl hl.1 rfl (lv_room (Nat.le_of_ble_eq_true rfl)) dX12_held_28 ⟨Nat.le_of_ble_eq_true rfl, Nat.le_of_ble_eq_true rfl⟩) hS (fun q _ h => hFc q h) hFc (fun r9 u t H locs ht hvm hw hB hz1 hk1 hS => ?_)
    obtain ⟨hP, hD⟩ := wj_0 hFc ht hB
    rw [hw]
    refine lv_if_eq (tgt := 45) hx hb dX12_held_31 (by decide) (fun hc => ?_) (fun hc => ?_)
    · replace hf := wb_t hc hf
      refine lv_iconst (v := (0 : Int32)) hx hb dX12_held_45 (by decide) ?_
      exact W.iret (v := (0 : Int32)) hx hb hr (fun t ht hW => by rw [← Option.some.inj hf]; exact ⟨⟨(0 : Int32), (), rfl, rfl, by rw [ht]; exact hP, va_K.moved hW.alike hK, hD⟩, hS.F ht⟩) hS.2.2 dX12_held_46
    · replace hf := wb_f hc hf
      refine lv_aload_n hx hb dX12_held_34 rfl (lv_at hl 0 rfl) ?_
      refine va_get (D := D) (ci := 12) (v := .ref (a0 19)) (C := RX12) (T := TX12) (N := 58) hx hb hts hinX12 hown hK hP 0 rfl rfl 37 (by decide) (hts (.fieldLink RX12 71 "WheelBookModel" "search" "[I") (List.mem_of_getElem? (i := 3) rfl)) (fun _ h9 => h9) rfl dX12_held_35 ?_
      refine lv_iconst (v := (2 : Int32)) hx hb dX12_held_38 (by decide) ?_
      refine lv_iload_n hx hb dX12_held_39 rfl (lv_at hl 1 rfl) ?_
      refine lv_iadd hx hb dX12_held_40 ?_
      obtain ⟨hin, hf⟩ := wb_n hf
      refine va_iald hx hb hK hP 19 1 rfl rfl hin dX12_held_41 ?_
      refine lv_goto (tgt := 46) hx hb dX12_held_42 (by decide) ?_
      exact W.iret (v := (r1.2.2.2 18 (((2 : Int32) + x1)).toNatClampNeg)) hx hb hr (fun t ht hW => by rw [← Option.some.inj hf]; exact ⟨⟨(r1.2.2.2 18 (((2 : Int32) + x1)).toNatClampNeg), (), rfl, rfl, by rw [ht]; exact hP, va_K.moved hW.alike hK, hD⟩, hS.F ht⟩) hS.2.2 dX12_held_46
  have J26 : ∀ (I0_j26 : Nat → Int32) (L0_j26 : Int64) (M0_j26 : Nat → Nat → Int32) (H : Heap) (locs : List Loc), va_P D vwCl (wWX12 cB cI cZ a0 I0_j26 L0_j26 M0_j26) H → va_D A (wWX12 cB cI cZ a0 I0_j26 L0_j26 M0_j26) → va_S A s.heap H locs → ∀ (ls : Array Slot), lv_has ls 2 [(0, .ref (a0 0)), (1, .int x1)] → fX12_held_J26 N x1 I0_j26 L0_j26 M0_j26 = some R → W p l e (headSpec wsX12_held { frames := 1, cells := 0, slots := 0, locals := 22 }).room s m [.ref (a0 0), .int x1].toArray below meth c H locs 0 0 (MQ below (va_Qi (fun r (_ : Unit) => r = R.1) (fun _ t => wb_post D [(cB, .byte), (cI, .int), (cZ, .boolean)] A (wWX12 cB cI cZ a0 R.2.1 R.2.2.1 R.2.2.2) t) A) [.ref (a0 0), .int x1].toArray s 0 0 A) (F0 m 26 ls [.ref (a0 0)]) := by
    intro I0_j26 L0_j26 M0_j26 H locs hP hD hS ls hl hf
    unfold fX12_held_J26 at hf
    refine lv_iconst (v := (0 : Int32)) hx hb dX12_held_26 (by decide) ?_
    exact J27 I0_j26 L0_j26 M0_j26 (0 : Int32) H locs hP hD hS ls (lv_sub hl [0, 1] rfl) hf
  refine lv_aload_n hx hb dX12_held_0 rfl (lv_at hl 0 rfl) ?_
  refine lv_iconst (v := (0 : Int32)) hx hb dX12_held_1 (by decide) ?_
  refine va_put (D := D) (ci := 12) (v := .int (0 : Int32)) (ty := .int) (C := RX12) (T := TX12) (N := 58) hx hb hts hinX12 tyX12 tyX12_ok nmX12 hown hK hP hD hS 0 rfl rfl 0 (by decide) (hts (.fieldLink RX12 129 "WheelBookModel" "thrown" "I") (List.mem_of_getElem? (i := 1) rfl)) (fun _ h9 => h9) rfl (by decide +kernel) rfl rfl (Nat.le_of_ble_eq_true rfl) dX12_held_2 (fun H locs hP hD hS => ?_)
  have hP : va_P D vwCl (wWX12 cB cI cZ a0 (upd I0 0 (0 : Int32)) L0 M0) H := hP
  have hD : va_D A (wWX12 cB cI cZ a0 (upd I0 0 (0 : Int32)) L0 M0) := hD
  obtain ⟨I0_2, eI0_2, hf⟩ := wb_v hf
  rw [← eI0_2] at hP hD
  refine lv_aload_n hx hb dX12_held_5 rfl (lv_at hl 0 rfl) ?_
  refine lv_aload_n hx hb dX12_held_6 rfl (lv_at hl 0 rfl) ?_
  refine va_get (D := D) (ci := 12) (v := .int (I0_2 16)) (C := RX12) (T := TX12) (N := 58) hx hb hts hinX12 hown hK hP 0 rfl rfl 35 (by decide) (hts (.fieldLink RX12 297 "WheelBookModel" "seeks" "Z") (List.mem_of_getElem? (i := 2) rfl)) (fun _ h9 => h9) rfl dX12_held_7 ?_
  refine lv_if_eq (tgt := 26) hx hb dX12_held_10 (by decide) (fun hc => ?_) (fun hc => ?_)
  · replace hf := wb_t hc hf
    exact J26 I0_2 L0 M0 H locs hP hD hS ls (lv_sub hl [0, 1] rfl) hf
  · replace hf := wb_f hc hf
    refine lv_iload_n hx hb dX12_held_13 rfl (lv_at hl 1 rfl) ?_
    refine lv_iconst (v := (0 : Int32)) hx hb dX12_held_14 (by decide) ?_
    refine lv_iconst (v := (4 : Int32)) hx hb dX12_held_15 (by decide) ?_
    obtain ⟨r3, hr3, hf⟩ := wb_b hf
    refine vp_callSi (W.runS (As := [.int x1, .int (0 : Int32), .int (4 : Int32)]) (rest := [.ref (a0 0)]) ⟨hx, hb, hml, hown, hts⟩ (cn_X12_within l D cB cI cZ N x1 (0 : Int32) (4 : Int32) r3 hr3) (va_cwS 3 hts gX12_held_X12_within rfl rfl rfl csX12_within ⟨Nat.le_of_ble_eq_true rfl, Nat.le_of_ble_eq_true rfl⟩) (wb_preS (hP.sub (ws' := ([] : va_W)) [] rfl) hK) rfl rfl hl.1 rfl (lv_room (Nat.le_of_ble_eq_true rfl)) dX12_held_16 ⟨Nat.le_of_ble_eq_true rfl, Nat.le_of_ble_eq_true rfl⟩) (fun r9 e9 => ?_)
    rw [e9]
    refine lv_if_eq (tgt := 26) hx hb dX12_held_19 (by decide) (fun hc => ?_) (fun hc => ?_)
    · replace hf := wb_t hc hf
      exact J26 I0_2 L0 M0 H locs hP hD hS ls (lv_sub hl [0, 1] rfl) hf
    · replace hf := wb_f hc hf
      refine lv_iconst (v := (1 : Int32)) hx hb dX12_held_22 (by decide) ?_
      refine lv_goto (tgt := 27) hx hb dX12_held_23 (by decide) ?_
      exact J27 I0_2 L0 M0 (1 : Int32) H locs hP hD hS ls (lv_sub hl [0, 1] rfl) hf

set_option maxHeartbeats 4000000 in
set_option maxRecDepth 100000 in
theorem cn_X12_image (l : Launch) (D : va_G) (cB cI cZ : ClassId) (N : Nat) (a0 : Nat → Nat) (I0 : Nat → Int32) (L0 : Int64) (M0 : Nat → Nat → Int32) (sz : Nat) (R : Int32 × (Nat → Int32) × Int64 × (Nat → Nat → Int32)) (hf : fX12_image N I0 L0 M0 = some R) : Met l yX12_image wsX12_image ({ frames := 1, cells := 0, slots := 0, locals := 23 }) (va_Pc [.ref (a0 0)] (wb_preD D [(cB, .byte), (cI, .int), (cZ, .boolean)] (wWX12 cB cI cZ a0 I0 L0 M0) sz)) (va_Qi (fun r (_ : Unit) => r = R.1) (fun _ t => wb_post D [(cB, .byte), (cI, .int), (cZ, .boolean)] (va_A (wWX12 cB cI cZ a0 I0 L0 M0) sz) (wWX12 cB cI cZ a0 R.2.1 R.2.2.1 R.2.2.2) t) (va_A (wWX12 cB cI cZ a0 I0 L0 M0) sz)) 0 0 (va_A (wWX12 cB cI cZ a0 I0 L0 M0) sz) := by
  refine Met.ofW (cc := cX12_image) (maxL := 1) (ret := (some .boolean)) pn_X12 rfl ?_
  intro p e s m args below meth c s₁ B hml hv
  obtain ⟨rfl, hsz, hP, hK, hD0⟩ := hv
  have hx := B.exec
  have hb := B.bytes
  have hr := B.returns
  have hts := atoms_spec (ws := wsX12_image) B.pre
  have hown : s.vm.findClass RX12 = some m.cls := (findClass_of_methodNamed B.named :)
  have hlocks := B.notSynchronized
  have hinX12 : ∀ w ∈ u_ws RX12 TX12 58, w ∈ wsX12_image := fun w h => List.mem_cons_of_mem _ (List.mem_append_right _ h)
  subst hsz
  have hD := hD0.self (sz := s.heap.size)
  generalize hAe : va_A (wWX12 cB cI cZ a0 I0 L0 M0) s.heap.size = A at hD ⊢
  have hA : ∀ q : Nat, s.heap.size ≤ q → A q := fun q h => by rw [← hAe]; exact Or.inr h
  have hS : va_S A s.heap s.heap [] := va_S.rf
  have hl := lv_entry ([.ref (a0 0)]) (n := 1) (Nat.le_of_ble_eq_true rfl)
  rw [lg_entry_eq]
  generalize (lg_sl ([.ref (a0 0)]) ++ List.replicate (1 - (lg_sl ([.ref (a0 0)])).length) Slot.unset).toArray = ls at hl ⊢
  have hl : lv_has ls 1 [(0, .ref (a0 0))] := hl
  unfold fX12_image at hf
  obtain ⟨H, hHe⟩ : ∃ H : Heap, H = s.heap := ⟨_, rfl⟩
  obtain ⟨locs, hle⟩ : ∃ locs : List Loc, locs = [] := ⟨_, rfl⟩
  refine wb_start (H := H) (locs := locs) hHe hle ?_
  rw [← hHe] at hP
  have hS : va_S A s.heap H locs := by rw [hHe, hle]; exact va_S.rf
  refine lv_aload_n hx hb dX12_image_0 rfl (lv_at hl 0 rfl) ?_
  refine lv_iconst (v := (0 : Int32)) hx hb dX12_image_1 (by decide) ?_
  refine va_put (D := D) (ci := 12) (v := .int (0 : Int32)) (ty := .int) (C := RX12) (T := TX12) (N := 58) hx hb hts hinX12 tyX12 tyX12_ok nmX12 hown hK hP hD hS 0 rfl rfl 0 (by decide) (hts (.fieldLink RX12 129 "WheelBookModel" "thrown" "I") (List.mem_of_getElem? (i := 1) rfl)) (fun _ h9 => h9) rfl (by decide +kernel) rfl rfl (Nat.le_of_ble_eq_true rfl) dX12_image_2 (fun H locs hP hD hS => ?_)
  have hP : va_P D vwCl (wWX12 cB cI cZ a0 (upd I0 0 (0 : Int32)) L0 M0) H := hP
  have hD : va_D A (wWX12 cB cI cZ a0 (upd I0 0 (0 : Int32)) L0 M0) := hD
  obtain ⟨I0_1, eI0_1, hf⟩ := wb_v hf
  rw [← eI0_1] at hP hD
  refine lv_aload_n hx hb dX12_image_5 rfl (lv_at hl 0 rfl) ?_
  refine va_get (D := D) (ci := 12) (v := .int (I0_1 16)) (C := RX12) (T := TX12) (N := 58) hx hb hts hinX12 hown hK hP 0 rfl rfl 35 (by decide) (hts (.fieldLink RX12 297 "WheelBookModel" "seeks" "Z") (List.mem_of_getElem? (i := 2) rfl)) (fun _ h9 => h9) rfl dX12_image_6 ?_
  refine lv_if_ne (tgt := 14) hx hb dX12_image_9 (by decide) (fun hc => ?_) (fun hc => ?_)
  · replace hf := wb_f hc hf
    refine lv_aload_n hx hb dX12_image_14 rfl (lv_at hl 0 rfl) ?_
    refine lv_iconst (v := (1 : Int32)) hx hb dX12_image_15 (by decide) ?_
    refine va_put (D := D) (ci := 12) (v := .int (1 : Int32)) (ty := .boolean) (C := RX12) (T := TX12) (N := 58) hx hb hts hinX12 tyX12 tyX12_ok nmX12 hown hK hP hD hS 0 rfl rfl 36 (by decide) (hts (.fieldLink RX12 300 "WheelBookModel" "hasImage" "Z") (List.mem_of_getElem? (i := 3) rfl)) (fun _ h9 => h9) rfl (by decide +kernel) (by decide) (by decide) (Nat.le_of_ble_eq_true rfl) dX12_image_16 (fun H locs hP hD hS => ?_)
    have hP : va_P D vwCl (wWX12 cB cI cZ a0 (upd I0_1 17 (1 : Int32)) L0 M0) H := hP
    have hD : va_D A (wWX12 cB cI cZ a0 (upd I0_1 17 (1 : Int32)) L0 M0) := hD
    obtain ⟨I0_2, eI0_2, hf⟩ := wb_v hf
    rw [← eI0_2] at hP hD
    refine lv_aload_n hx hb dX12_image_19 rfl (lv_at hl 0 rfl) ?_
    refine lv_aload_n hx hb dX12_image_20 rfl (lv_at hl 0 rfl) ?_
    refine va_get (D := D) (ci := 12) (v := .ref (a0 19)) (C := RX12) (T := TX12) (N := 58) hx hb hts hinX12 hown hK hP 0 rfl rfl 37 (by decide) (hts (.fieldLink RX12 71 "WheelBookModel" "search" "[I") (List.mem_of_getElem? (i := 4) rfl)) (fun _ h9 => h9) rfl dX12_image_21 ?_
    refine lv_aload_n hx hb dX12_image_24 rfl (lv_at hl 0 rfl) ?_
    refine va_get (D := D) (ci := 12) (v := .ref (a0 20)) (C := RX12) (T := TX12) (N := 58) hx hb hts hinX12 hown hK hP 0 rfl rfl 38 (by decide) (hts (.fieldLink RX12 74 "WheelBookModel" "image" "[I") (List.mem_of_getElem? (i := 5) rfl)) (fun _ h9 => h9) rfl dX12_image_25 ?_
    obtain ⟨r3, hr3, hf⟩ := wb_b hf
    have hPc := hP.sub (ws' := ([(((a0 19), .inl (cI, 7, .inl (M0 18))) : Nat × va_E)] ++ [(((a0 20), .inl (cI, 7, .inl (M0 19))) : Nat × va_E)])) [19, 20] rfl
    have hDc := hD.sub (ws' := ([(((a0 19), .inl (cI, 7, .inl (M0 18))) : Nat × va_E)] ++ [(((a0 20), .inl (cI, 7, .inl (M0 19))) : Nat × va_E)])) [19, 20] (by decide) rfl
    have hFc := va_free (wc := ([(((a0 19), .inl (cI, 7, .inl (M0 18))) : Nat × va_E)] ++ [(((a0 20), .inl (cI, 7, .inl (M0 19))) : Nat × va_E)])) hD hS hA [19, 20] rfl
    refine va_callv (va_runV (As := [.ref (a0 19), .ref (a0 20)]) (rest := []) ⟨hx, hb, hml, hown, hts⟩ (cn_X12_copies l D cB cI cZ N (a0 0) (a0 19) 7 (M0 18) (a0 20) 7 (M0 19) H.size r3 hr3) (cwV 2 hts gX12_image_X12_copies rfl rfl rfl cdX12_copies ⟨Nat.le_of_ble_eq_true rfl, Nat.le_of_ble_eq_true rfl⟩) (wb_preDV hPc hK hDc (wr_12 hK hP (q0 := 0) rfl)) rfl rfl hl.1 rfl (lv_room (Nat.le_of_ble_eq_true rfl)) dX12_image_28 ⟨Nat.le_of_ble_eq_true rfl, Nat.le_of_ble_eq_true rfl⟩) hS (fun q _ h => hFc q h) hFc (fun u t H locs ht hvm hw hB hz1 hk1 hS => ?_)
    obtain ⟨hP, hD⟩ := wj_s (wc := ([(((a0 19), .inl (cI, 7, .inl (M0 18))) : Nat × va_E)] ++ [(((a0 20), .inl (cI, 7, .inl (M0 19))) : Nat × va_E)])) (w1 := ([(((a0 19), .inl (cI, 7, .inl (M0 18))) : Nat × va_E)] ++ [(((a0 20), .inl (cI, 7, .inl r3)) : Nat × va_E)])) (wf := (wWX12 cB cI cZ a0 I0_2 L0 (wb_mm M0 19 r3))) 19 21 hP hD rfl rfl hk1 hFc ht hB
    obtain ⟨M0_4, eM0_4, hf⟩ := wb_v hf
    rw [← eM0_4] at hP hD
    refine lv_iconst (v := (1 : Int32)) hx hb dX12_image_31 (by decide) ?_
    exact W.zret (v := (1 : Int32)) hx hb hr (by decide) (fun t ht hW => by rw [← Option.some.inj hf]; exact ⟨⟨(1 : Int32), (), rfl, rfl, by rw [ht]; exact hP, va_K.moved hW.alike hK, hD⟩, hS.F ht⟩) hS.2.2 dX12_image_32
  · replace hf := wb_t hc hf
    refine lv_iconst (v := (0 : Int32)) hx hb dX12_image_12 (by decide) ?_
    exact W.zret (v := (0 : Int32)) hx hb hr (by decide) (fun t ht hW => by rw [← Option.some.inj hf]; exact ⟨⟨(0 : Int32), (), rfl, rfl, by rw [ht]; exact hP, va_K.moved hW.alike hK, hD⟩, hS.F ht⟩) hS.2.2 dX12_image_13

set_option maxHeartbeats 4000000 in
set_option maxRecDepth 100000 in
theorem cn_X12_restore (l : Launch) (D : va_G) (cB cI cZ : ClassId) (N : Nat) (a0 : Nat → Nat) (I0 : Nat → Int32) (L0 : Int64) (M0 : Nat → Nat → Int32) (sz : Nat) (R : Int32 × (Nat → Int32) × Int64 × (Nat → Nat → Int32)) (hf : fX12_restore N I0 L0 M0 = some R) : Met l yX12_restore wsX12_restore ({ frames := 1, cells := 0, slots := 0, locals := 23 }) (va_Pc [.ref (a0 0)] (wb_preD D [(cB, .byte), (cI, .int), (cZ, .boolean)] (wWX12 cB cI cZ a0 I0 L0 M0) sz)) (va_Qi (fun r (_ : Unit) => r = R.1) (fun _ t => wb_post D [(cB, .byte), (cI, .int), (cZ, .boolean)] (va_A (wWX12 cB cI cZ a0 I0 L0 M0) sz) (wWX12 cB cI cZ a0 R.2.1 R.2.2.1 R.2.2.2) t) (va_A (wWX12 cB cI cZ a0 I0 L0 M0) sz)) 0 0 (va_A (wWX12 cB cI cZ a0 I0 L0 M0) sz) := by
  refine Met.ofW (cc := cX12_restore) (maxL := 1) (ret := (some .boolean)) pn_X12 rfl ?_
  intro p e s m args below meth c s₁ B hml hv
  obtain ⟨rfl, hsz, hP, hK, hD0⟩ := hv
  have hx := B.exec
  have hb := B.bytes
  have hr := B.returns
  have hts := atoms_spec (ws := wsX12_restore) B.pre
  have hown : s.vm.findClass RX12 = some m.cls := (findClass_of_methodNamed B.named :)
  have hlocks := B.notSynchronized
  have hinX12 : ∀ w ∈ u_ws RX12 TX12 58, w ∈ wsX12_restore := fun w h => List.mem_cons_of_mem _ (List.mem_append_right _ h)
  subst hsz
  have hD := hD0.self (sz := s.heap.size)
  generalize hAe : va_A (wWX12 cB cI cZ a0 I0 L0 M0) s.heap.size = A at hD ⊢
  have hA : ∀ q : Nat, s.heap.size ≤ q → A q := fun q h => by rw [← hAe]; exact Or.inr h
  have hS : va_S A s.heap s.heap [] := va_S.rf
  have hl := lv_entry ([.ref (a0 0)]) (n := 1) (Nat.le_of_ble_eq_true rfl)
  rw [lg_entry_eq]
  generalize (lg_sl ([.ref (a0 0)]) ++ List.replicate (1 - (lg_sl ([.ref (a0 0)])).length) Slot.unset).toArray = ls at hl ⊢
  have hl : lv_has ls 1 [(0, .ref (a0 0))] := hl
  unfold fX12_restore at hf
  obtain ⟨H, hHe⟩ : ∃ H : Heap, H = s.heap := ⟨_, rfl⟩
  obtain ⟨locs, hle⟩ : ∃ locs : List Loc, locs = [] := ⟨_, rfl⟩
  refine wb_start (H := H) (locs := locs) hHe hle ?_
  rw [← hHe] at hP
  have hS : va_S A s.heap H locs := by rw [hHe, hle]; exact va_S.rf
  refine lv_aload_n hx hb dX12_restore_0 rfl (lv_at hl 0 rfl) ?_
  refine lv_iconst (v := (0 : Int32)) hx hb dX12_restore_1 (by decide) ?_
  refine va_put (D := D) (ci := 12) (v := .int (0 : Int32)) (ty := .int) (C := RX12) (T := TX12) (N := 58) hx hb hts hinX12 tyX12 tyX12_ok nmX12 hown hK hP hD hS 0 rfl rfl 0 (by decide) (hts (.fieldLink RX12 129 "WheelBookModel" "thrown" "I") (List.mem_of_getElem? (i := 1) rfl)) (fun _ h9 => h9) rfl (by decide +kernel) rfl rfl (Nat.le_of_ble_eq_true rfl) dX12_restore_2 (fun H locs hP hD hS => ?_)
  have hP : va_P D vwCl (wWX12 cB cI cZ a0 (upd I0 0 (0 : Int32)) L0 M0) H := hP
  have hD : va_D A (wWX12 cB cI cZ a0 (upd I0 0 (0 : Int32)) L0 M0) := hD
  obtain ⟨I0_1, eI0_1, hf⟩ := wb_v hf
  rw [← eI0_1] at hP hD
  refine lv_aload_n hx hb dX12_restore_5 rfl (lv_at hl 0 rfl) ?_
  refine va_get (D := D) (ci := 12) (v := .int (I0_1 17)) (C := RX12) (T := TX12) (N := 58) hx hb hts hinX12 hown hK hP 0 rfl rfl 36 (by decide) (hts (.fieldLink RX12 300 "WheelBookModel" "hasImage" "Z") (List.mem_of_getElem? (i := 2) rfl)) (fun _ h9 => h9) rfl dX12_restore_6 ?_
  refine lv_if_ne (tgt := 14) hx hb dX12_restore_9 (by decide) (fun hc => ?_) (fun hc => ?_)
  · replace hf := wb_f hc hf
    refine lv_aload_n hx hb dX12_restore_14 rfl (lv_at hl 0 rfl) ?_
    refine lv_iconst (v := (1 : Int32)) hx hb dX12_restore_15 (by decide) ?_
    refine va_put (D := D) (ci := 12) (v := .int (1 : Int32)) (ty := .boolean) (C := RX12) (T := TX12) (N := 58) hx hb hts hinX12 tyX12 tyX12_ok nmX12 hown hK hP hD hS 0 rfl rfl 35 (by decide) (hts (.fieldLink RX12 297 "WheelBookModel" "seeks" "Z") (List.mem_of_getElem? (i := 3) rfl)) (fun _ h9 => h9) rfl (by decide +kernel) (by decide) (by decide) (Nat.le_of_ble_eq_true rfl) dX12_restore_16 (fun H locs hP hD hS => ?_)
    have hP : va_P D vwCl (wWX12 cB cI cZ a0 (upd I0_1 16 (1 : Int32)) L0 M0) H := hP
    have hD : va_D A (wWX12 cB cI cZ a0 (upd I0_1 16 (1 : Int32)) L0 M0) := hD
    obtain ⟨I0_2, eI0_2, hf⟩ := wb_v hf
    rw [← eI0_2] at hP hD
    refine lv_aload_n hx hb dX12_restore_19 rfl (lv_at hl 0 rfl) ?_
    refine lv_aload_n hx hb dX12_restore_20 rfl (lv_at hl 0 rfl) ?_
    refine va_get (D := D) (ci := 12) (v := .ref (a0 20)) (C := RX12) (T := TX12) (N := 58) hx hb hts hinX12 hown hK hP 0 rfl rfl 38 (by decide) (hts (.fieldLink RX12 74 "WheelBookModel" "image" "[I") (List.mem_of_getElem? (i := 4) rfl)) (fun _ h9 => h9) rfl dX12_restore_21 ?_
    refine lv_aload_n hx hb dX12_restore_24 rfl (lv_at hl 0 rfl) ?_
    refine va_get (D := D) (ci := 12) (v := .ref (a0 19)) (C := RX12) (T := TX12) (N := 58) hx hb hts hinX12 hown hK hP 0 rfl rfl 37 (by decide) (hts (.fieldLink RX12 71 "WheelBookModel" "search" "[I") (List.mem_of_getElem? (i := 5) rfl)) (fun _ h9 => h9) rfl dX12_restore_25 ?_
    obtain ⟨r3, hr3, hf⟩ := wb_b hf
    have hPc := hP.sub (ws' := ([(((a0 20), .inl (cI, 7, .inl (M0 19))) : Nat × va_E)] ++ [(((a0 19), .inl (cI, 7, .inl (M0 18))) : Nat × va_E)])) [20, 19] rfl
    have hDc := hD.sub (ws' := ([(((a0 20), .inl (cI, 7, .inl (M0 19))) : Nat × va_E)] ++ [(((a0 19), .inl (cI, 7, .inl (M0 18))) : Nat × va_E)])) [20, 19] (by decide) rfl
    have hFc := va_free (wc := ([(((a0 20), .inl (cI, 7, .inl (M0 19))) : Nat × va_E)] ++ [(((a0 19), .inl (cI, 7, .inl (M0 18))) : Nat × va_E)])) hD hS hA [20, 19] rfl
    refine va_callv (va_runV (As := [.ref (a0 20), .ref (a0 19)]) (rest := []) ⟨hx, hb, hml, hown, hts⟩ (cn_X12_copies l D cB cI cZ N (a0 0) (a0 20) 7 (M0 19) (a0 19) 7 (M0 18) H.size r3 hr3) (cwV 2 hts gX12_restore_X12_copies rfl rfl rfl cdX12_copies ⟨Nat.le_of_ble_eq_true rfl, Nat.le_of_ble_eq_true rfl⟩) (wb_preDV hPc hK hDc (wr_12 hK hP (q0 := 0) rfl)) rfl rfl hl.1 rfl (lv_room (Nat.le_of_ble_eq_true rfl)) dX12_restore_28 ⟨Nat.le_of_ble_eq_true rfl, Nat.le_of_ble_eq_true rfl⟩) hS (fun q _ h => hFc q h) hFc (fun u t H locs ht hvm hw hB hz1 hk1 hS => ?_)
    obtain ⟨hP, hD⟩ := wj_ba (a := [(((a0 19), .inl (cI, 7, .inl (M0 18))) : Nat × va_E)]) (b := [(((a0 20), .inl (cI, 7, .inl (M0 19))) : Nat × va_E)]) (a' := [(((a0 19), .inl (cI, 7, .inl r3)) : Nat × va_E)]) (b' := [(((a0 20), .inl (cI, 7, .inl (M0 19))) : Nat × va_E)]) (wf := (wWX12 cB cI cZ a0 I0_2 L0 (wb_mm M0 18 r3))) 19 20 0 21 hP hD rfl rfl hk1 hFc ht hB
    obtain ⟨M0_4, eM0_4, hf⟩ := wb_v hf
    rw [← eM0_4] at hP hD
    refine lv_iconst (v := (1 : Int32)) hx hb dX12_restore_31 (by decide) ?_
    exact W.zret (v := (1 : Int32)) hx hb hr (by decide) (fun t ht hW => by rw [← Option.some.inj hf]; exact ⟨⟨(1 : Int32), (), rfl, rfl, by rw [ht]; exact hP, va_K.moved hW.alike hK, hD⟩, hS.F ht⟩) hS.2.2 dX12_restore_32
  · replace hf := wb_t hc hf
    refine lv_iconst (v := (0 : Int32)) hx hb dX12_restore_12 (by decide) ?_
    exact W.zret (v := (0 : Int32)) hx hb hr (by decide) (fun t ht hW => by rw [← Option.some.inj hf]; exact ⟨⟨(0 : Int32), (), rfl, rfl, by rw [ht]; exact hP, va_K.moved hW.alike hK, hD⟩, hS.F ht⟩) hS.2.2 dX12_restore_13

set_option maxHeartbeats 4000000 in
set_option maxRecDepth 100000 in
theorem cn_X12_misread (l : Launch) (D : va_G) (cB cI cZ : ClassId) (N : Nat) (a0 : Nat → Nat) (I0 : Nat → Int32) (L0 : Int64) (M0 : Nat → Nat → Int32) (x1 : Int32) (x2 : Int32) (x3 : Int32) (x4 : Int32) (x5 : Int32) (sz : Nat) (R : Int32 × (Nat → Int32) × Int64 × (Nat → Nat → Int32)) (hf : fX12_misread N I0 L0 M0 x1 x2 x3 x4 x5 = some R) : Met l yX12_misread wsX12_misread ({ frames := 2, cells := 0, slots := 0, locals := 56 }) (va_Pc [.ref (a0 0), .int x1, .int x2, .int x3, .int x4, .int x5] (wb_preD D [(cB, .byte), (cI, .int), (cZ, .boolean)] (wWX12 cB cI cZ a0 I0 L0 M0) sz)) (va_Qi (fun r (_ : Unit) => r = R.1) (fun _ t => wb_post D [(cB, .byte), (cI, .int), (cZ, .boolean)] (va_A (wWX12 cB cI cZ a0 I0 L0 M0) sz) (wWX12 cB cI cZ a0 R.2.1 R.2.2.1 R.2.2.2) t) (va_A (wWX12 cB cI cZ a0 I0 L0 M0) sz)) 0 0 (va_A (wWX12 cB cI cZ a0 I0 L0 M0) sz) := by
  refine Met.ofW (cc := cX12_misread) (maxL := 7) (ret := (some .int)) pn_X12 rfl ?_
  intro p e s m args below meth c s₁ B hml hv
  obtain ⟨rfl, hsz, hP, hK, hD0⟩ := hv
  have hx := B.exec
  have hb := B.bytes
  have hr := B.returns
  have hts := atoms_spec (ws := wsX12_misread) B.pre
  have hown : s.vm.findClass RX12 = some m.cls := (findClass_of_methodNamed B.named :)
  have hlocks := B.notSynchronized
  subst hsz
  have hD := hD0.self (sz := s.heap.size)
  generalize hAe : va_A (wWX12 cB cI cZ a0 I0 L0 M0) s.heap.size = A at hD ⊢
  have hA : ∀ q : Nat, s.heap.size ≤ q → A q := fun q h => by rw [← hAe]; exact Or.inr h
  have hS : va_S A s.heap s.heap [] := va_S.rf
  have hl := lv_entry ([.ref (a0 0), .int x1, .int x2, .int x3, .int x4, .int x5]) (n := 7) (Nat.le_of_ble_eq_true rfl)
  rw [lg_entry_eq]
  generalize (lg_sl ([.ref (a0 0), .int x1, .int x2, .int x3, .int x4, .int x5]) ++ List.replicate (7 - (lg_sl ([.ref (a0 0), .int x1, .int x2, .int x3, .int x4, .int x5])).length) Slot.unset).toArray = ls at hl ⊢
  have hl : lv_has ls 7 [(0, .ref (a0 0)), (1, .int x1), (2, .int x2), (3, .int x3), (4, .int x4), (5, .int x5)] := hl
  unfold fX12_misread at hf
  obtain ⟨H, hHe⟩ : ∃ H : Heap, H = s.heap := ⟨_, rfl⟩
  obtain ⟨locs, hle⟩ : ∃ locs : List Loc, locs = [] := ⟨_, rfl⟩
  refine wb_start (H := H) (locs := locs) hHe hle ?_
  rw [← hHe] at hP
  have hS : va_S A s.heap H locs := by rw [hHe, hle]; exact va_S.rf
  have J46 : ∀ (I0_j46 : Nat → Int32) (L0_j46 : Int64) (M0_j46 : Nat → Nat → Int32) (z46_0 : Int32) (H : Heap) (locs : List Loc), va_P D vwCl (wWX12 cB cI cZ a0 I0_j46 L0_j46 M0_j46) H → va_D A (wWX12 cB cI cZ a0 I0_j46 L0_j46 M0_j46) → va_S A s.heap H locs → ∀ (ls : Array Slot), lv_has ls 7 [(0, .ref (a0 0)), (1, .int x1), (2, .int x2), (3, .int x3), (4, .int x4), (5, .int x5)] → fX12_misread_J46 N x1 x2 x3 x4 x5 I0_j46 L0_j46 M0_j46 z46_0 = some R → W p l e (headSpec wsX12_misread { frames := 2, cells := 0, slots := 0, locals := 56 }).room s m [.ref (a0 0), .int x1, .int x2, .int x3, .int x4, .int x5].toArray below meth c H locs 0 0 (MQ below (va_Qi (fun r (_ : Unit) => r = R.1) (fun _ t => wb_post D [(cB, .byte), (cI, .int), (cZ, .boolean)] A (wWX12 cB cI cZ a0 R.2.1 R.2.2.1 R.2.2.2) t) A) [.ref (a0 0), .int x1, .int x2, .int x3, .int x4, .int x5].toArray s 0 0 A) (F0 m 46 ls [.int z46_0, .ref (a0 0)]) := by
    intro I0_j46 L0_j46 M0_j46 z46_0 H locs hP hD hS ls hl hf
    unfold fX12_misread_J46 at hf
    refine lv_iconst (v := (1 : Int32)) hx hb dX12_misread_46 (by decide) ?_
    obtain ⟨r1, hr1, hf⟩ := wb_b hf
    have hPc := hP
    have hDc := hD
    have hFc := wj_F hDc hS hA
    refine va_calli (va_runV (As := [.int z46_0, .int (1 : Int32)]) (rest := []) ⟨hx, hb, hml, hown, hts⟩ (cn_X12_right l D cB cI cZ N a0 I0_j46 L0_j46 M0_j46 z46_0 (1 : Int32) H.size r1 hr1) (cwV 2 hts gX12_misread_X12_right rfl rfl rfl cdX12_right ⟨Nat.le_of_ble_eq_true rfl, Nat.le_of_ble_eq_true rfl⟩) (wb_preDV hPc hK hDc (wr_12 hK hP (q0 := 0) rfl)) rfl rfl hl.1 rfl (lv_room (Nat.le_of_ble_eq_true rfl)) dX12_misread_47 ⟨Nat.le_of_ble_eq_true rfl, Nat.le_of_ble_eq_true rfl⟩) hS (fun q _ h => hFc q h) hFc (fun r9 u t H locs ht hvm hw hB hz1 hk1 hS => ?_)
    obtain ⟨hP, hD⟩ := wj_0 hFc ht hB
    rw [hw]
    refine lv_if_ne (tgt := 55) hx hb dX12_misread_50 (by decide) (fun hc => ?_) (fun hc => ?_)
    · replace hf := wb_f hc hf
      refine lv_aload_n hx hb dX12_misread_55 rfl (lv_at hl 0 rfl) ?_
      refine lv_bipush (v := (20 : Int32)) hx hb dX12_misread_56 (by decide) ?_
      refine lv_iload_n hx hb dX12_misread_58 rfl (lv_at hl 1 rfl) ?_
      refine lv_imul hx hb dX12_misread_59 ?_
      refine lv_iload_n hx hb dX12_misread_60 rfl (lv_at hl 2 rfl) ?_
      refine lv_iadd hx hb dX12_misread_61 ?_
      refine lv_iload hx hb dX12_misread_62 (lv_at hl 5 rfl) ?_
      obtain ⟨r2, hr2, hf⟩ := wb_b hf
      refine vp_callSi (W.runV (As := [.int (((20 : Int32) * x1) + x2), .int x5]) (rest := []) ⟨hx, hb, hml, hown, hts⟩ (cn_X12_at l D cB cI cZ N a0 r1.2.1 r1.2.2.1 r1.2.2.2 (((20 : Int32) * x1) + x2) x5 r2 hr2) (cwV 2 hts gX12_misread_X12_at rfl rfl rfl cdX12_at ⟨Nat.le_of_ble_eq_true rfl, Nat.le_of_ble_eq_true rfl⟩) (wb_preV hP hK (wr_12 hK hP (q0 := 0) rfl)) rfl rfl hl.1 rfl (lv_room (Nat.le_of_ble_eq_true rfl)) dX12_misread_64 ⟨Nat.le_of_ble_eq_true rfl, Nat.le_of_ble_eq_true rfl⟩) (fun r9 e9 => ?_)
      rw [e9]
      refine lv_istore (lv' := [(6, .int r2), (0, .ref (a0 0)), (1, .int x1), (2, .int x2), (3, .int x3), (4, .int x4), (5, .int x5)]) hx hb dX12_misread_67 hl (by decide) rfl (fun ls hl => ?_)
      refine lv_iload hx hb dX12_misread_69 (lv_at hl 0 rfl) ?_
      refine lv_iconst (v := (-1 : Int32)) hx hb dX12_misread_71 (by decide) ?_
      refine lv_icmp_ne (tgt := 79) hx hb dX12_misread_72 (by decide) (fun hc => ?_) (fun hc => ?_)
      · replace hf := wb_f hc hf
        refine lv_aload_n hx hb dX12_misread_79 rfl (lv_at hl 1 rfl) ?_
        refine lv_iload hx hb dX12_misread_80 (lv_at hl 0 rfl) ?_
        refine lv_aload_n hx hb dX12_misread_82 rfl (lv_at hl 1 rfl) ?_
        refine lv_iload_n hx hb dX12_misread_83 rfl (lv_at hl 4 rfl) ?_
        refine lv_iload hx hb dX12_misread_84 (lv_at hl 6 rfl) ?_
        refine lv_iload hx hb dX12_misread_86 (lv_at hl 5 rfl) ?_
        obtain ⟨r3, hr3, hf⟩ := wb_b hf
        refine vp_callSi (W.runV (As := [.int x3, .int x5, .int x4]) (rest := [.int r2, .ref (a0 0)]) ⟨hx, hb, hml, hown, hts⟩ (cn_X12_placeOn l D cB cI cZ N a0 r1.2.1 r1.2.2.1 r1.2.2.2 x3 x5 x4 r3 hr3) (cwV 3 hts gX12_misread_X12_placeOn rfl rfl rfl cdX12_placeOn ⟨Nat.le_of_ble_eq_true rfl, Nat.le_of_ble_eq_true rfl⟩) (wb_preV hP hK (wr_12 hK hP (q0 := 0) rfl)) rfl rfl hl.1 rfl (lv_room (Nat.le_of_ble_eq_true rfl)) dX12_misread_88 ⟨Nat.le_of_ble_eq_true rfl, Nat.le_of_ble_eq_true rfl⟩) (fun r9 e9 => ?_)
        rw [e9]
        refine lv_bipush (v := (60 : Int32)) hx hb dX12_misread_91 (by decide) ?_
        refine lv_idiv hx hb dX12_misread_93 (by decide) ?_
        obtain ⟨r4, hr4, hf⟩ := wb_b hf
        refine vp_callSi (W.runV (As := [.int r2, .int (r3 / (60 : Int32))]) (rest := []) ⟨hx, hb, hml, hown, hts⟩ (cn_X12_beside l D cB cI cZ N a0 r1.2.1 r1.2.2.1 r1.2.2.2 r2 (r3 / (60 : Int32)) r4 hr4) (cwV 2 hts gX12_misread_X12_beside rfl rfl rfl cdX12_beside ⟨Nat.le_of_ble_eq_true rfl, Nat.le_of_ble_eq_true rfl⟩) (wb_preV hP hK (wr_12 hK hP (q0 := 0) rfl)) rfl rfl hl.1 rfl (lv_room (Nat.le_of_ble_eq_true rfl)) dX12_misread_94 ⟨Nat.le_of_ble_eq_true rfl, Nat.le_of_ble_eq_true rfl⟩) (fun r9 e9 => ?_)
        rw [e9]
        exact W.iret (v := r4) hx hb hr (fun t ht hW => by rw [← Option.some.inj hf]; exact ⟨⟨r4, (), rfl, rfl, by rw [ht]; exact hP, va_K.moved hW.alike hK, hD⟩, hS.F ht⟩) hS.2.2 dX12_misread_97
      · replace hf := wb_t hc hf
        refine lv_iconst (v := (-1 : Int32)) hx hb dX12_misread_75 (by decide) ?_
        refine lv_goto (tgt := 97) hx hb dX12_misread_76 (by decide) ?_
        exact W.iret (v := (-1 : Int32)) hx hb hr (fun t ht hW => by rw [← Option.some.inj hf]; exact ⟨⟨(-1 : Int32), (), rfl, rfl, by rw [ht]; exact hP, va_K.moved hW.alike hK, hD⟩, hS.F ht⟩) hS.2.2 dX12_misread_97
    · replace hf := wb_t hc hf
      refine lv_iconst (v := (0 : Int32)) hx hb dX12_misread_53 (by decide) ?_
      exact W.iret (v := (0 : Int32)) hx hb hr (fun t ht hW => by rw [← Option.some.inj hf]; exact ⟨⟨(0 : Int32), (), rfl, rfl, by rw [ht]; exact hP, va_K.moved hW.alike hK, hD⟩, hS.F ht⟩) hS.2.2 dX12_misread_54
  have J45 : ∀ (I0_j45 : Nat → Int32) (L0_j45 : Int64) (M0_j45 : Nat → Nat → Int32) (H : Heap) (locs : List Loc), va_P D vwCl (wWX12 cB cI cZ a0 I0_j45 L0_j45 M0_j45) H → va_D A (wWX12 cB cI cZ a0 I0_j45 L0_j45 M0_j45) → va_S A s.heap H locs → ∀ (ls : Array Slot), lv_has ls 7 [(0, .ref (a0 0)), (1, .int x1), (2, .int x2), (3, .int x3), (4, .int x4), (5, .int x5)] → fX12_misread_J45 N x1 x2 x3 x4 x5 I0_j45 L0_j45 M0_j45 = some R → W p l e (headSpec wsX12_misread { frames := 2, cells := 0, slots := 0, locals := 56 }).room s m [.ref (a0 0), .int x1, .int x2, .int x3, .int x4, .int x5].toArray below meth c H locs 0 0 (MQ below (va_Qi (fun r (_ : Unit) => r = R.1) (fun _ t => wb_post D [(cB, .byte), (cI, .int), (cZ, .boolean)] A (wWX12 cB cI cZ a0 R.2.1 R.2.2.1 R.2.2.2) t) A) [.ref (a0 0), .int x1, .int x2, .int x3, .int x4, .int x5].toArray s 0 0 A) (F0 m 45 ls [.ref (a0 0)]) := by
    intro I0_j45 L0_j45 M0_j45 H locs hP hD hS ls hl hf
    unfold fX12_misread_J45 at hf
    refine lv_iconst (v := (0 : Int32)) hx hb dX12_misread_45 (by decide) ?_
    exact J46 I0_j45 L0_j45 M0_j45 (0 : Int32) H locs hP hD hS ls (lv_sub hl [0, 1, 2, 3, 4, 5] rfl) hf
  refine lv_aload_n hx hb dX12_misread_0 rfl (lv_at hl 0 rfl) ?_
  refine lv_iload_n hx hb dX12_misread_1 rfl (lv_at hl 1 rfl) ?_
  refine lv_iload_n hx hb dX12_misread_2 rfl (lv_at hl 2 rfl) ?_
  obtain ⟨r5, hr5, hf⟩ := wb_b hf
  have hPc := hP
  have hDc := hD
  have hFc := wj_F hDc hS hA
  refine va_calli (va_runV (As := [.int x1, .int x2]) (rest := []) ⟨hx, hb, hml, hown, hts⟩ (cn_X12_isWheel l D cB cI cZ N a0 I0 L0 M0 x1 x2 H.size r5 hr5) (cwV 2 hts gX12_misread_X12_isWheel rfl rfl rfl cdX12_isWheel ⟨Nat.le_of_ble_eq_true rfl, Nat.le_of_ble_eq_true rfl⟩) (wb_preDV hPc hK hDc (wr_12 hK hP (q0 := 0) rfl)) rfl rfl hl.1 rfl (lv_room (Nat.le_of_ble_eq_true rfl)) dX12_misread_3 ⟨Nat.le_of_ble_eq_true rfl, Nat.le_of_ble_eq_true rfl⟩) hS (fun q _ h => hFc q h) hFc (fun r9 u t H locs ht hvm hw hB hz1 hk1 hS => ?_)
  obtain ⟨hP, hD⟩ := wj_0 hFc ht hB
  rw [hw]
  refine lv_if_eq (tgt := 53) hx hb dX12_misread_6 (by decide) (fun hc => ?_) (fun hc => ?_)
  · replace hf := wb_t hc hf
    refine lv_iconst (v := (0 : Int32)) hx hb dX12_misread_53 (by decide) ?_
    exact W.iret (v := (0 : Int32)) hx hb hr (fun t ht hW => by rw [← Option.some.inj hf]; exact ⟨⟨(0 : Int32), (), rfl, rfl, by rw [ht]; exact hP, va_K.moved hW.alike hK, hD⟩, hS.F ht⟩) hS.2.2 dX12_misread_54
  · replace hf := wb_f hc hf
    refine lv_aload_n hx hb dX12_misread_9 rfl (lv_at hl 0 rfl) ?_
    refine lv_iload_n hx hb dX12_misread_10 rfl (lv_at hl 3 rfl) ?_
    refine lv_iconst (v := (0 : Int32)) hx hb dX12_misread_11 (by decide) ?_
    refine lv_iconst (v := (3 : Int32)) hx hb dX12_misread_12 (by decide) ?_
    obtain ⟨r6, hr6, hf⟩ := wb_b hf
    refine vp_callSi (W.runS (As := [.int x3, .int (0 : Int32), .int (3 : Int32)]) (rest := [.ref (a0 0)]) ⟨hx, hb, hml, hown, hts⟩ (cn_X12_within l D cB cI cZ N x3 (0 : Int32) (3 : Int32) r6 hr6) (va_cwS 3 hts gX12_misread_X12_within rfl rfl rfl csX12_within ⟨Nat.le_of_ble_eq_true rfl, Nat.le_of_ble_eq_true rfl⟩) (wb_preS (hP.sub (ws' := ([] : va_W)) [] rfl) hK) rfl rfl hl.1 rfl (lv_room (Nat.le_of_ble_eq_true rfl)) dX12_misread_13 ⟨Nat.le_of_ble_eq_true rfl, Nat.le_of_ble_eq_true rfl⟩) (fun r9 e9 => ?_)
    rw [e9]
    refine lv_if_eq (tgt := 45) hx hb dX12_misread_16 (by decide) (fun hc => ?_) (fun hc => ?_)
    · replace hf := wb_t hc hf
      exact J45 r5.2.1 r5.2.2.1 r5.2.2.2 H locs hP hD hS ls (lv_sub hl [0, 1, 2, 3, 4, 5] rfl) hf
    · replace hf := wb_f hc hf
      refine lv_iload hx hb dX12_misread_19 (lv_at hl 4 rfl) ?_
      refine lv_iconst (v := (0 : Int32)) hx hb dX12_misread_21 (by decide) ?_
      refine lv_ldc (v := (1000000 : Int32)) hx hb hown (hts (.constant RX12 218 (1000000)) (List.mem_of_getElem? (i := 1) rfl)) dX12_misread_22 ?_
      obtain ⟨r7, hr7, hf⟩ := wb_b hf
      refine vp_callSi (W.runS (As := [.int x4, .int (0 : Int32), .int (1000000 : Int32)]) (rest := [.ref (a0 0)]) ⟨hx, hb, hml, hown, hts⟩ (cn_X12_within l D cB cI cZ N x4 (0 : Int32) (1000000 : Int32) r7 hr7) (va_cwS 3 hts gX12_misread_X12_within rfl rfl rfl csX12_within ⟨Nat.le_of_ble_eq_true rfl, Nat.le_of_ble_eq_true rfl⟩) (wb_preS (hP.sub (ws' := ([] : va_W)) [] rfl) hK) rfl rfl hl.1 rfl (lv_room (Nat.le_of_ble_eq_true rfl)) dX12_misread_24 ⟨Nat.le_of_ble_eq_true rfl, Nat.le_of_ble_eq_true rfl⟩) (fun r9 e9 => ?_)
      rw [e9]
      refine lv_if_eq (tgt := 45) hx hb dX12_misread_27 (by decide) (fun hc => ?_) (fun hc => ?_)
      · replace hf := wb_t hc hf
        exact J45 r5.2.1 r5.2.2.1 r5.2.2.2 H locs hP hD hS ls (lv_sub hl [0, 1, 2, 3, 4, 5] rfl) hf
      · replace hf := wb_f hc hf
        refine lv_iload hx hb dX12_misread_30 (lv_at hl 5 rfl) ?_
        refine lv_iconst (v := (0 : Int32)) hx hb dX12_misread_32 (by decide) ?_
        refine lv_bipush (v := (6 : Int32)) hx hb dX12_misread_33 (by decide) ?_
        obtain ⟨r8, hr8, hf⟩ := wb_b hf
        refine vp_callSi (W.runS (As := [.int x5, .int (0 : Int32), .int (6 : Int32)]) (rest := [.ref (a0 0)]) ⟨hx, hb, hml, hown, hts⟩ (cn_X12_within l D cB cI cZ N x5 (0 : Int32) (6 : Int32) r8 hr8) (va_cwS 3 hts gX12_misread_X12_within rfl rfl rfl csX12_within ⟨Nat.le_of_ble_eq_true rfl, Nat.le_of_ble_eq_true rfl⟩) (wb_preS (hP.sub (ws' := ([] : va_W)) [] rfl) hK) rfl rfl hl.1 rfl (lv_room (Nat.le_of_ble_eq_true rfl)) dX12_misread_35 ⟨Nat.le_of_ble_eq_true rfl, Nat.le_of_ble_eq_true rfl⟩) (fun r9 e9 => ?_)
        rw [e9]
        refine lv_if_eq (tgt := 45) hx hb dX12_misread_38 (by decide) (fun hc => ?_) (fun hc => ?_)
        · replace hf := wb_t hc hf
          exact J45 r5.2.1 r5.2.2.1 r5.2.2.2 H locs hP hD hS ls (lv_sub hl [0, 1, 2, 3, 4, 5] rfl) hf
        · replace hf := wb_f hc hf
          refine lv_iconst (v := (1 : Int32)) hx hb dX12_misread_41 (by decide) ?_
          refine lv_goto (tgt := 46) hx hb dX12_misread_42 (by decide) ?_
          exact J46 r5.2.1 r5.2.2.1 r5.2.2.2 (1 : Int32) H locs hP hD hS ls (lv_sub hl [0, 1, 2, 3, 4, 5] rfl) hf

set_option maxHeartbeats 4000000 in
set_option maxRecDepth 100000 in
theorem cn_X12_errors (l : Launch) (D : va_G) (cB cI cZ : ClassId) (N : Nat) (a0 : Nat → Nat) (I0 : Nat → Int32) (L0 : Int64) (M0 : Nat → Nat → Int32) (x1 : Int32) (x2 : Int32) (x3 : Int32) (x4 : Int32) (sz : Nat) (R : Int32 × (Nat → Int32) × Int64 × (Nat → Nat → Int32)) (hf : fX12_errors N I0 L0 M0 x1 x2 x3 x4 = some R) : Met l yX12_errors wsX12_errors ({ frames := 2, cells := 0, slots := 0, locals := 56 }) (va_Pc [.ref (a0 0), .int x1, .int x2, .int x3, .int x4] (wb_preD D [(cB, .byte), (cI, .int), (cZ, .boolean)] (wWX12 cB cI cZ a0 I0 L0 M0) sz)) (va_Qi (fun r (_ : Unit) => r = R.1) (fun _ t => wb_post D [(cB, .byte), (cI, .int), (cZ, .boolean)] (va_A (wWX12 cB cI cZ a0 I0 L0 M0) sz) (wWX12 cB cI cZ a0 R.2.1 R.2.2.1 R.2.2.2) t) (va_A (wWX12 cB cI cZ a0 I0 L0 M0) sz)) 0 0 (va_A (wWX12 cB cI cZ a0 I0 L0 M0) sz) := by
  refine Met.ofW (cc := cX12_errors) (maxL := 10) (ret := (some .int)) pn_X12 rfl ?_
  intro p e s m args below meth c s₁ B hml hv
  obtain ⟨rfl, hsz, hP, hK, hD0⟩ := hv
  have hx := B.exec
  have hb := B.bytes
  have hr := B.returns
  have hts := atoms_spec (ws := wsX12_errors) B.pre
  have hown : s.vm.findClass RX12 = some m.cls := (findClass_of_methodNamed B.named :)
  have hlocks := B.notSynchronized
  have hinX12 : ∀ w ∈ u_ws RX12 TX12 58, w ∈ wsX12_errors := fun w h => List.mem_cons_of_mem _ (List.mem_append_right _ h)
  subst hsz
  have hD := hD0.self (sz := s.heap.size)
  generalize hAe : va_A (wWX12 cB cI cZ a0 I0 L0 M0) s.heap.size = A at hD ⊢
  have hA : ∀ q : Nat, s.heap.size ≤ q → A q := fun q h => by rw [← hAe]; exact Or.inr h
  have hS : va_S A s.heap s.heap [] := va_S.rf
  have hl := lv_entry ([.ref (a0 0), .int x1, .int x2, .int x3, .int x4]) (n := 10) (Nat.le_of_ble_eq_true rfl)
  rw [lg_entry_eq]
  generalize (lg_sl ([.ref (a0 0), .int x1, .int x2, .int x3, .int x4]) ++ List.replicate (10 - (lg_sl ([.ref (a0 0), .int x1, .int x2, .int x3, .int x4])).length) Slot.unset).toArray = ls at hl ⊢
  have hl : lv_has ls 10 [(0, .ref (a0 0)), (1, .int x1), (2, .int x2), (3, .int x3), (4, .int x4)] := hl
  unfold fX12_errors at hf
  obtain ⟨H, hHe⟩ : ∃ H : Heap, H = s.heap := ⟨_, rfl⟩
  obtain ⟨locs, hle⟩ : ∃ locs : List Loc, locs = [] := ⟨_, rfl⟩
  refine wb_start (H := H) (locs := locs) hHe hle ?_
  rw [← hHe] at hP
  have hS : va_S A s.heap H locs := by rw [hHe, hle]; exact va_S.rf
  have J36 : ∀ (I0_j36 : Nat → Int32) (L0_j36 : Int64) (M0_j36 : Nat → Nat → Int32) (z36_0 : Int32) (H : Heap) (locs : List Loc), va_P D vwCl (wWX12 cB cI cZ a0 I0_j36 L0_j36 M0_j36) H → va_D A (wWX12 cB cI cZ a0 I0_j36 L0_j36 M0_j36) → va_S A s.heap H locs → ∀ (ls : Array Slot), lv_has ls 10 [(0, .ref (a0 0)), (1, .int x1), (2, .int x2), (3, .int x3), (4, .int x4)] → fX12_errors_J36 N x1 x2 x3 x4 I0_j36 L0_j36 M0_j36 z36_0 = some R → W p l e (headSpec wsX12_errors { frames := 2, cells := 0, slots := 0, locals := 56 }).room s m [.ref (a0 0), .int x1, .int x2, .int x3, .int x4].toArray below meth c H locs 0 0 (MQ below (va_Qi (fun r (_ : Unit) => r = R.1) (fun _ t => wb_post D [(cB, .byte), (cI, .int), (cZ, .boolean)] A (wWX12 cB cI cZ a0 R.2.1 R.2.2.1 R.2.2.2) t) A) [.ref (a0 0), .int x1, .int x2, .int x3, .int x4].toArray s 0 0 A) (F0 m 36 ls [.int z36_0, .ref (a0 0)]) := by
    intro I0_j36 L0_j36 M0_j36 z36_0 H locs hP hD hS ls hl hf
    unfold fX12_errors_J36 at hf
    refine lv_iconst (v := (1 : Int32)) hx hb dX12_errors_36 (by decide) ?_
    obtain ⟨r1, hr1, hf⟩ := wb_b hf
    have hPc := hP
    have hDc := hD
    have hFc := wj_F hDc hS hA
    refine va_calli (va_runV (As := [.int z36_0, .int (1 : Int32)]) (rest := []) ⟨hx, hb, hml, hown, hts⟩ (cn_X12_right l D cB cI cZ N a0 I0_j36 L0_j36 M0_j36 z36_0 (1 : Int32) H.size r1 hr1) (cwV 2 hts gX12_errors_X12_right rfl rfl rfl cdX12_right ⟨Nat.le_of_ble_eq_true rfl, Nat.le_of_ble_eq_true rfl⟩) (wb_preDV hPc hK hDc (wr_12 hK hP (q0 := 0) rfl)) rfl rfl hl.1 rfl (lv_room (Nat.le_of_ble_eq_true rfl)) dX12_errors_37 ⟨Nat.le_of_ble_eq_true rfl, Nat.le_of_ble_eq_true rfl⟩) hS (fun q _ h => hFc q h) hFc (fun r9 u t H locs ht hvm hw hB hz1 hk1 hS => ?_)
    obtain ⟨hP, hD⟩ := wj_0 hFc ht hB
    rw [hw]
    refine lv_if_ne (tgt := 45) hx hb dX12_errors_40 (by decide) (fun hc => ?_) (fun hc => ?_)
    · replace hf := wb_f hc hf
      refine lv_iconst (v := (0 : Int32)) hx hb dX12_errors_45 (by decide) ?_
      refine lv_istore (lv' := [(5, .int (0 : Int32)), (0, .ref (a0 0)), (1, .int x1), (2, .int x2), (3, .int x3), (4, .int x4)]) hx hb dX12_errors_46 hl (by decide) rfl (fun ls hl => ?_)
      refine lv_iconst (v := (1 : Int32)) hx hb dX12_errors_48 (by decide) ?_
      refine lv_istore (lv' := [(6, .int (1 : Int32)), (5, .int (0 : Int32)), (0, .ref (a0 0)), (1, .int x1), (2, .int x2), (3, .int x3), (4, .int x4)]) hx hb dX12_errors_49 hl (by decide) rfl (fun ls hl => ?_)
      have Lh51 : ∀ (fu51 : Nat) (I0_l51 : Nat → Int32) (L0_l51 : Int64) (M0_l51 : Nat → Nat → Int32) (y51_6 : Int32) (H : Heap) (locs : List Loc), va_P D vwCl (wWX12 cB cI cZ a0 I0_l51 L0_l51 M0_l51) H → va_D A (wWX12 cB cI cZ a0 I0_l51 L0_l51 M0_l51) → va_S A s.heap H locs → ∀ (ls : Array Slot), lv_has ls 10 [(0, .ref (a0 0)), (1, .int x1), (2, .int x2), (3, .int x3), (4, .int x4), (5, .int (0 : Int32)), (6, .int y51_6)] → fX12_errors_L51 N x1 x2 x3 x4 fu51 I0_l51 L0_l51 M0_l51 y51_6 = some R → W p l e (headSpec wsX12_errors { frames := 2, cells := 0, slots := 0, locals := 56 }).room s m [.ref (a0 0), .int x1, .int x2, .int x3, .int x4].toArray below meth c H locs 0 0 (MQ below (va_Qi (fun r (_ : Unit) => r = R.1) (fun _ t => wb_post D [(cB, .byte), (cI, .int), (cZ, .boolean)] A (wWX12 cB cI cZ a0 R.2.1 R.2.2.1 R.2.2.2) t) A) [.ref (a0 0), .int x1, .int x2, .int x3, .int x4].toArray s 0 0 A) (F0 m 51 ls []) := by
        intro fu51
        induction fu51 with
        | zero =>
          intro I0_l51 L0_l51 M0_l51 y51_6 H locs hP hD hS ls hl hf
          exact absurd hf (by rw [fX12_errors_L51.eq_1]; exact fun h => nomatch h)
        | succ fu51 ih51 =>
          intro I0_l51 L0_l51 M0_l51 y51_6 H locs hP hD hS ls hl hf
          rw [fX12_errors_L51.eq_2] at hf
          refine lv_iload hx hb dX12_errors_51 (lv_at hl 6 rfl) ?_
          refine lv_iconst (v := (4 : Int32)) hx hb dX12_errors_53 (by decide) ?_
          refine lv_icmp_ge (tgt := 87) hx hb dX12_errors_54 (by decide) (fun hc => ?_) (fun hc => ?_)
          · replace hf := wb_t hc hf
            refine lv_iconst (v := (0 : Int32)) hx hb dX12_errors_87 (by decide) ?_
            refine lv_istore (lv' := [(6, .int (0 : Int32)), (0, .ref (a0 0)), (1, .int x1), (2, .int x2), (3, .int x3), (4, .int x4), (5, .int (0 : Int32))]) hx hb dX12_errors_88 hl (by decide) rfl (fun ls hl => ?_)
            have Lh90 : ∀ (fu90 : Nat) (I0_l90 : Nat → Int32) (L0_l90 : Int64) (M0_l90 : Nat → Nat → Int32) (y90_5 : Int32) (y90_6 : Int32) (H : Heap) (locs : List Loc), va_P D vwCl (wWX12 cB cI cZ a0 I0_l90 L0_l90 M0_l90) H → va_D A (wWX12 cB cI cZ a0 I0_l90 L0_l90 M0_l90) → va_S A s.heap H locs → ∀ (ls : Array Slot), lv_has ls 10 [(0, .ref (a0 0)), (1, .int x1), (2, .int x2), (3, .int x3), (4, .int x4), (5, .int y90_5), (6, .int y90_6)] → fX12_errors_L90 N x1 x2 x3 x4 (fX12_errors_L51 N x1 x2 x3 x4 fu51) fu90 I0_l90 L0_l90 M0_l90 y90_5 y90_6 = some R → W p l e (headSpec wsX12_errors { frames := 2, cells := 0, slots := 0, locals := 56 }).room s m [.ref (a0 0), .int x1, .int x2, .int x3, .int x4].toArray below meth c H locs 0 0 (MQ below (va_Qi (fun r (_ : Unit) => r = R.1) (fun _ t => wb_post D [(cB, .byte), (cI, .int), (cZ, .boolean)] A (wWX12 cB cI cZ a0 R.2.1 R.2.2.1 R.2.2.2) t) A) [.ref (a0 0), .int x1, .int x2, .int x3, .int x4].toArray s 0 0 A) (F0 m 90 ls []) := by
              intro fu90
              induction fu90 with
              | zero =>
                intro I0_l90 L0_l90 M0_l90 y90_5 y90_6 H locs hP hD hS ls hl hf
                exact absurd hf (by rw [fX12_errors_L90.eq_1]; exact fun h => nomatch h)
              | succ fu90 ih90 =>
                intro I0_l90 L0_l90 M0_l90 y90_5 y90_6 H locs hP hD hS ls hl hf
                rw [fX12_errors_L90.eq_2] at hf
                refine lv_iload hx hb dX12_errors_90 (lv_at hl 6 rfl) ?_
                refine lv_bipush (v := (7 : Int32)) hx hb dX12_errors_92 (by decide) ?_
                refine lv_icmp_ge (tgt := 272) hx hb dX12_errors_94 (by decide) (fun hc => ?_) (fun hc => ?_)
                · replace hf := wb_t hc hf
                  refine lv_iload hx hb dX12_errors_272 (lv_at hl 4 rfl) ?_
                  refine lv_if_ne (tgt := 280) hx hb dX12_errors_274 (by decide) (fun hc => ?_) (fun hc => ?_)
                  · replace hf := wb_f hc hf
                    refine lv_iload hx hb dX12_errors_280 (lv_at hl 4 rfl) ?_
                    refine lv_iconst (v := (1 : Int32)) hx hb dX12_errors_282 (by decide) ?_
                    refine lv_icmp_le (tgt := 334) hx hb dX12_errors_283 (by decide) (fun hc => ?_) (fun hc => ?_)
                    · replace hf := wb_t hc hf
                      refine lv_iconst (v := (1 : Int32)) hx hb dX12_errors_334 (by decide) ?_
                      refine lv_istore (lv' := [(6, .int (1 : Int32)), (0, .ref (a0 0)), (1, .int x1), (2, .int x2), (3, .int x3), (4, .int x4), (5, .int y90_5)]) hx hb dX12_errors_335 hl (by decide) rfl (fun ls hl => ?_)
                      refine lv_iconst (v := (2 : Int32)) hx hb dX12_errors_337 (by decide) ?_
                      refine lv_istore (lv' := [(7, .int (2 : Int32)), (6, .int (1 : Int32)), (0, .ref (a0 0)), (1, .int x1), (2, .int x2), (3, .int x3), (4, .int x4), (5, .int y90_5)]) hx hb dX12_errors_338 hl (by decide) rfl (fun ls hl => ?_)
                      have Lh340 : ∀ (fu340 : Nat) (I0_l340 : Nat → Int32) (L0_l340 : Int64) (M0_l340 : Nat → Nat → Int32) (y340_6 : Int32) (y340_7 : Int32) (H : Heap) (locs : List Loc), va_P D vwCl (wWX12 cB cI cZ a0 I0_l340 L0_l340 M0_l340) H → va_D A (wWX12 cB cI cZ a0 I0_l340 L0_l340 M0_l340) → va_S A s.heap H locs → ∀ (ls : Array Slot), lv_has ls 10 [(0, .ref (a0 0)), (6, .int y340_6), (7, .int y340_7)] → fX12_errors_L340 N x1 x2 x3 x4 (fX12_errors_L51 N x1 x2 x3 x4 fu51) (fX12_errors_L90 N x1 x2 x3 x4 (fX12_errors_L51 N x1 x2 x3 x4 fu51) fu90) fu340 I0_l340 L0_l340 M0_l340 y340_6 y340_7 = some R → W p l e (headSpec wsX12_errors { frames := 2, cells := 0, slots := 0, locals := 56 }).room s m [.ref (a0 0), .int x1, .int x2, .int x3, .int x4].toArray below meth c H locs 0 0 (MQ below (va_Qi (fun r (_ : Unit) => r = R.1) (fun _ t => wb_post D [(cB, .byte), (cI, .int), (cZ, .boolean)] A (wWX12 cB cI cZ a0 R.2.1 R.2.2.1 R.2.2.2) t) A) [.ref (a0 0), .int x1, .int x2, .int x3, .int x4].toArray s 0 0 A) (F0 m 340 ls []) := by
                        intro fu340
                        induction fu340 with
                        | zero =>
                          intro I0_l340 L0_l340 M0_l340 y340_6 y340_7 H locs hP hD hS ls hl hf
                          exact absurd hf (by rw [fX12_errors_L340.eq_1]; exact fun h => nomatch h)
                        | succ fu340 ih340 =>
                          intro I0_l340 L0_l340 M0_l340 y340_6 y340_7 H locs hP hD hS ls hl hf
                          rw [fX12_errors_L340.eq_2] at hf
                          refine lv_iload hx hb dX12_errors_340 (lv_at hl 2 rfl) ?_
                          refine lv_iconst (v := (4 : Int32)) hx hb dX12_errors_342 (by decide) ?_
                          refine lv_icmp_ge (tgt := 378) hx hb dX12_errors_343 (by decide) (fun hc => ?_) (fun hc => ?_)
                          · replace hf := wb_t hc hf
                            refine lv_aload_n hx hb dX12_errors_378 rfl (lv_at hl 0 rfl) ?_
                            refine va_get (D := D) (ci := 12) (v := .ref (a0 23)) (C := RX12) (T := TX12) (N := 58) hx hb hts hinX12 hown hK hP 0 rfl rfl 41 (by decide) (hts (.fieldLink RX12 83 "WheelBookModel" "weigh" "[I") (List.mem_of_getElem? (i := 4) rfl)) (fun _ h9 => h9) rfl dX12_errors_379 ?_
                            refine lv_iload hx hb dX12_errors_382 (lv_at hl 1 rfl) ?_
                            obtain ⟨hin, hf⟩ := wb_n hf
                            refine va_iald hx hb hK hP 23 1 rfl rfl hin dX12_errors_384 ?_
                            refine lv_if_ne (tgt := 392) hx hb dX12_errors_385 (by decide) (fun hc => ?_) (fun hc => ?_)
                            · replace hf := wb_f hc hf
                              refine lv_iload hx hb dX12_errors_392 (lv_at hl 1 rfl) ?_
                              exact W.iret (v := y340_6) hx hb hr (fun t ht hW => by rw [← Option.some.inj hf]; exact ⟨⟨y340_6, (), rfl, rfl, by rw [ht]; exact hP, va_K.moved hW.alike hK, hD⟩, hS.F ht⟩) hS.2.2 dX12_errors_394
                            · replace hf := wb_t hc hf
                              refine lv_iconst (v := (-1 : Int32)) hx hb dX12_errors_388 (by decide) ?_
                              refine lv_goto (tgt := 394) hx hb dX12_errors_389 (by decide) ?_
                              exact W.iret (v := (-1 : Int32)) hx hb hr (fun t ht hW => by rw [← Option.some.inj hf]; exact ⟨⟨(-1 : Int32), (), rfl, rfl, by rw [ht]; exact hP, va_K.moved hW.alike hK, hD⟩, hS.F ht⟩) hS.2.2 dX12_errors_394
                          · replace hf := wb_f hc hf
                            refine lv_aload_n hx hb dX12_errors_346 rfl (lv_at hl 0 rfl) ?_
                            refine va_get (D := D) (ci := 12) (v := .ref (a0 23)) (C := RX12) (T := TX12) (N := 58) hx hb hts hinX12 hown hK hP 0 rfl rfl 41 (by decide) (hts (.fieldLink RX12 83 "WheelBookModel" "weigh" "[I") (List.mem_of_getElem? (i := 4) rfl)) (fun _ h9 => h9) rfl dX12_errors_347 ?_
                            refine lv_iload hx hb dX12_errors_350 (lv_at hl 2 rfl) ?_
                            obtain ⟨hin, hf⟩ := wb_n hf
                            refine va_iald hx hb hK hP 23 1 rfl rfl hin dX12_errors_352 ?_
                            refine lv_aload_n hx hb dX12_errors_353 rfl (lv_at hl 0 rfl) ?_
                            refine va_get (D := D) (ci := 12) (v := .ref (a0 23)) (C := RX12) (T := TX12) (N := 58) hx hb hts hinX12 hown hK hP 0 rfl rfl 41 (by decide) (hts (.fieldLink RX12 83 "WheelBookModel" "weigh" "[I") (List.mem_of_getElem? (i := 4) rfl)) (fun _ h9 => h9) rfl dX12_errors_354 ?_
                            refine lv_iload hx hb dX12_errors_357 (lv_at hl 1 rfl) ?_
                            obtain ⟨hin, hf⟩ := wb_n hf
                            refine va_iald hx hb hK hP 23 1 rfl rfl hin dX12_errors_359 ?_
                            refine lv_icmp_le (tgt := 368) hx hb dX12_errors_360 (by decide) (fun hc => ?_) (fun hc => ?_)
                            · replace hf := wb_t hc hf
                              refine lv_iload hx hb dX12_errors_368 (lv_at hl 1 rfl) ?_
                              refine lv_istore (lv' := [(6, .int y340_6), (0, .ref (a0 0)), (7, .int y340_7)]) hx hb dX12_errors_370 hl (by decide) rfl (fun ls hl => ?_)
                              obtain ⟨v2, ev2, hf⟩ := wb_v hf
                              refine lv_iinc (v := v2) (lv' := [(7, .int v2), (6, .int y340_6), (0, .ref (a0 0))]) hx hb dX12_errors_372 hl (k := 2) rfl (by rw [ev2]; rfl) (by decide) rfl (fun ls hl => ?_)
                              refine lv_goto (tgt := 340) hx hb dX12_errors_375 (by decide) ?_
                              exact ih340 I0_l340 L0_l340 M0_l340 y340_6 v2 H locs hP hD hS ls (lv_sub hl [2, 1, 0] rfl) hf
                            · replace hf := wb_f hc hf
                              refine lv_iload hx hb dX12_errors_363 (lv_at hl 2 rfl) ?_
                              refine lv_goto (tgt := 370) hx hb dX12_errors_365 (by decide) ?_
                              refine lv_istore (lv' := [(6, .int y340_7), (0, .ref (a0 0)), (7, .int y340_7)]) hx hb dX12_errors_370 hl (by decide) rfl (fun ls hl => ?_)
                              obtain ⟨v3, ev3, hf⟩ := wb_v hf
                              refine lv_iinc (v := v3) (lv' := [(7, .int v3), (6, .int y340_7), (0, .ref (a0 0))]) hx hb dX12_errors_372 hl (k := 2) rfl (by rw [ev3]; rfl) (by decide) rfl (fun ls hl => ?_)
                              refine lv_goto (tgt := 340) hx hb dX12_errors_375 (by decide) ?_
                              exact ih340 I0_l340 L0_l340 M0_l340 y340_7 v3 H locs hP hD hS ls (lv_sub hl [2, 1, 0] rfl) hf
                      exact Lh340 N I0_l90 L0_l90 M0_l90 (1 : Int32) (2 : Int32) H locs hP hD hS ls (lv_sub hl [2, 1, 0] rfl) hf
                    · replace hf := wb_f hc hf
                      refine lv_iload hx hb dX12_errors_286 (lv_at hl 4 rfl) ?_
                      refine lv_iconst (v := (5 : Int32)) hx hb dX12_errors_288 (by decide) ?_
                      refine lv_icmp_ge (tgt := 304) hx hb dX12_errors_289 (by decide) (fun hc => ?_) (fun hc => ?_)
                      · replace hf := wb_t hc hf
                        refine lv_iload hx hb dX12_errors_304 (lv_at hl 4 rfl) ?_
                        refine lv_bipush (v := (8 : Int32)) hx hb dX12_errors_306 (by decide) ?_
                        refine lv_icmp_ge (tgt := 323) hx hb dX12_errors_308 (by decide) (fun hc => ?_) (fun hc => ?_)
                        · replace hf := wb_t hc hf
                          refine lv_aload_n hx hb dX12_errors_323 rfl (lv_at hl 0 rfl) ?_
                          refine va_get (D := D) (ci := 12) (v := .ref (a0 23)) (C := RX12) (T := TX12) (N := 58) hx hb hts hinX12 hown hK hP 0 rfl rfl 41 (by decide) (hts (.fieldLink RX12 83 "WheelBookModel" "weigh" "[I") (List.mem_of_getElem? (i := 4) rfl)) (fun _ h9 => h9) rfl dX12_errors_324 ?_
                          refine lv_iload hx hb dX12_errors_327 (lv_at hl 4 rfl) ?_
                          refine lv_bipush (v := (7 : Int32)) hx hb dX12_errors_329 (by decide) ?_
                          refine lv_isub hx hb dX12_errors_331 ?_
                          obtain ⟨hin, hf⟩ := wb_n hf
                          refine va_iald hx hb hK hP 23 1 rfl rfl hin dX12_errors_332 ?_
                          exact W.iret (v := (M0_l90 22 ((x4 - (7 : Int32))).toNatClampNeg)) hx hb hr (fun t ht hW => by rw [← Option.some.inj hf]; exact ⟨⟨(M0_l90 22 ((x4 - (7 : Int32))).toNatClampNeg), (), rfl, rfl, by rw [ht]; exact hP, va_K.moved hW.alike hK, hD⟩, hS.F ht⟩) hS.2.2 dX12_errors_333
                        · replace hf := wb_f hc hf
                          refine lv_aload_n hx hb dX12_errors_311 rfl (lv_at hl 0 rfl) ?_
                          refine va_get (D := D) (ci := 12) (v := .ref (a0 22)) (C := RX12) (T := TX12) (N := 58) hx hb hts hinX12 hown hK hP 0 rfl rfl 40 (by decide) (hts (.fieldLink RX12 80 "WheelBookModel" "alone" "[I") (List.mem_of_getElem? (i := 3) rfl)) (fun _ h9 => h9) rfl dX12_errors_312 ?_
                          refine lv_iload hx hb dX12_errors_315 (lv_at hl 4 rfl) ?_
                          refine lv_iconst (v := (4 : Int32)) hx hb dX12_errors_317 (by decide) ?_
                          refine lv_isub hx hb dX12_errors_318 ?_
                          obtain ⟨hin, hf⟩ := wb_n hf
                          refine va_iald hx hb hK hP 22 1 rfl rfl hin dX12_errors_319 ?_
                          refine lv_goto (tgt := 333) hx hb dX12_errors_320 (by decide) ?_
                          exact W.iret (v := (M0_l90 21 ((x4 - (4 : Int32))).toNatClampNeg)) hx hb hr (fun t ht hW => by rw [← Option.some.inj hf]; exact ⟨⟨(M0_l90 21 ((x4 - (4 : Int32))).toNatClampNeg), (), rfl, rfl, by rw [ht]; exact hP, va_K.moved hW.alike hK, hD⟩, hS.F ht⟩) hS.2.2 dX12_errors_333
                      · replace hf := wb_f hc hf
                        refine lv_aload_n hx hb dX12_errors_292 rfl (lv_at hl 0 rfl) ?_
                        refine va_get (D := D) (ci := 12) (v := .ref (a0 21)) (C := RX12) (T := TX12) (N := 58) hx hb hts hinX12 hown hK hP 0 rfl rfl 39 (by decide) (hts (.fieldLink RX12 77 "WheelBookModel" "shared" "[I") (List.mem_of_getElem? (i := 2) rfl)) (fun _ h9 => h9) rfl dX12_errors_293 ?_
                        refine lv_iload hx hb dX12_errors_296 (lv_at hl 4 rfl) ?_
                        refine lv_iconst (v := (1 : Int32)) hx hb dX12_errors_298 (by decide) ?_
                        refine lv_isub hx hb dX12_errors_299 ?_
                        obtain ⟨hin, hf⟩ := wb_n hf
                        refine va_iald hx hb hK hP 21 1 rfl rfl hin dX12_errors_300 ?_
                        refine lv_goto (tgt := 333) hx hb dX12_errors_301 (by decide) ?_
                        exact W.iret (v := (M0_l90 20 ((x4 - (1 : Int32))).toNatClampNeg)) hx hb hr (fun t ht hW => by rw [← Option.some.inj hf]; exact ⟨⟨(M0_l90 20 ((x4 - (1 : Int32))).toNatClampNeg), (), rfl, rfl, by rw [ht]; exact hP, va_K.moved hW.alike hK, hD⟩, hS.F ht⟩) hS.2.2 dX12_errors_333
                  · replace hf := wb_t hc hf
                    refine lv_iload hx hb dX12_errors_277 (lv_at hl 5 rfl) ?_
                    exact W.iret (v := y90_5) hx hb hr (fun t ht hW => by rw [← Option.some.inj hf]; exact ⟨⟨y90_5, (), rfl, rfl, by rw [ht]; exact hP, va_K.moved hW.alike hK, hD⟩, hS.F ht⟩) hS.2.2 dX12_errors_279
                · replace hf := wb_f hc hf
                  refine lv_aload_n hx hb dX12_errors_97 rfl (lv_at hl 0 rfl) ?_
                  refine lv_bipush (v := (20 : Int32)) hx hb dX12_errors_98 (by decide) ?_
                  refine lv_iload_n hx hb dX12_errors_100 rfl (lv_at hl 1 rfl) ?_
                  refine lv_imul hx hb dX12_errors_101 ?_
                  refine lv_iload_n hx hb dX12_errors_102 rfl (lv_at hl 2 rfl) ?_
                  refine lv_iadd hx hb dX12_errors_103 ?_
                  refine lv_iload hx hb dX12_errors_104 (lv_at hl 6 rfl) ?_
                  obtain ⟨r4, hr4, hf⟩ := wb_b hf
                  refine vp_callSi (W.runV (As := [.int (((20 : Int32) * x1) + x2), .int y90_6]) (rest := []) ⟨hx, hb, hml, hown, hts⟩ (cn_X12_at l D cB cI cZ N a0 I0_l90 L0_l90 M0_l90 (((20 : Int32) * x1) + x2) y90_6 r4 hr4) (cwV 2 hts gX12_errors_X12_at rfl rfl rfl cdX12_at ⟨Nat.le_of_ble_eq_true rfl, Nat.le_of_ble_eq_true rfl⟩) (wb_preV hP hK (wr_12 hK hP (q0 := 0) rfl)) rfl rfl hl.1 rfl (lv_room (Nat.le_of_ble_eq_true rfl)) dX12_errors_106 ⟨Nat.le_of_ble_eq_true rfl, Nat.le_of_ble_eq_true rfl⟩) (fun r9 e9 => ?_)
                  rw [e9]
                  refine lv_istore (lv' := [(7, .int r4), (0, .ref (a0 0)), (1, .int x1), (2, .int x2), (3, .int x3), (4, .int x4), (5, .int y90_5), (6, .int y90_6)]) hx hb dX12_errors_109 hl (by decide) rfl (fun ls hl => ?_)
                  refine lv_iload hx hb dX12_errors_111 (lv_at hl 0 rfl) ?_
                  refine lv_iconst (v := (-1 : Int32)) hx hb dX12_errors_113 (by decide) ?_
                  refine lv_icmp_eq (tgt := 266) hx hb dX12_errors_114 (by decide) (fun hc => ?_) (fun hc => ?_)
                  · replace hf := wb_t hc hf
                    obtain ⟨v5, ev5, hf⟩ := wb_v hf
                    refine lv_iinc (v := v5) (lv' := [(6, .int v5), (7, .int r4), (0, .ref (a0 0)), (1, .int x1), (2, .int x2), (3, .int x3), (4, .int x4), (5, .int y90_5)]) hx hb dX12_errors_266 hl (k := 7) rfl (by rw [ev5]; rfl) (by decide) rfl (fun ls hl => ?_)
                    refine lv_goto (tgt := 90) hx hb dX12_errors_269 (by decide) ?_
                    exact ih90 I0_l90 L0_l90 M0_l90 y90_5 v5 H locs hP hD hS ls (lv_sub hl [2, 3, 4, 5, 6, 7, 0] rfl) hf
                  · replace hf := wb_f hc hf
                    refine lv_aload_n hx hb dX12_errors_117 rfl (lv_at hl 1 rfl) ?_
                    refine lv_iconst (v := (0 : Int32)) hx hb dX12_errors_118 (by decide) ?_
                    refine lv_iload hx hb dX12_errors_119 (lv_at hl 7 rfl) ?_
                    refine lv_iload_n hx hb dX12_errors_121 rfl (lv_at hl 4 rfl) ?_
                    obtain ⟨r6, hr6, hf⟩ := wb_b hf
                    refine vp_callSi (W.runV (As := [.int (0 : Int32), .int y90_6, .int x3]) (rest := []) ⟨hx, hb, hml, hown, hts⟩ (cn_X12_placeOn l D cB cI cZ N a0 I0_l90 L0_l90 M0_l90 (0 : Int32) y90_6 x3 r6 hr6) (cwV 3 hts gX12_errors_X12_placeOn rfl rfl rfl cdX12_placeOn ⟨Nat.le_of_ble_eq_true rfl, Nat.le_of_ble_eq_true rfl⟩) (wb_preV hP hK (wr_12 hK hP (q0 := 0) rfl)) rfl rfl hl.1 rfl (lv_room (Nat.le_of_ble_eq_true rfl)) dX12_errors_122 ⟨Nat.le_of_ble_eq_true rfl, Nat.le_of_ble_eq_true rfl⟩) (fun r9 e9 => ?_)
                    rw [e9]
                    refine lv_bipush (v := (60 : Int32)) hx hb dX12_errors_125 (by decide) ?_
                    refine lv_idiv hx hb dX12_errors_127 (by decide) ?_
                    refine lv_iload hx hb dX12_errors_128 (lv_at hl 0 rfl) ?_
                    refine lv_icmp_ne (tgt := 136) hx hb dX12_errors_130 (by decide) (fun hc => ?_) (fun hc => ?_)
                    · replace hf := wb_f hc hf
                      obtain ⟨v7, ev7, hf⟩ := wb_v hf
                      refine lv_iinc (v := v7) (lv' := [(5, .int v7), (7, .int r4), (0, .ref (a0 0)), (1, .int x1), (2, .int x2), (3, .int x3), (4, .int x4), (6, .int y90_6)]) hx hb dX12_errors_136 hl (k := 6) rfl (by rw [ev7]; rfl) (by decide) rfl (fun ls hl => ?_)
                      refine lv_iconst (v := (0 : Int32)) hx hb dX12_errors_139 (by decide) ?_
                      refine lv_istore (lv' := [(8, .int (0 : Int32)), (5, .int v7), (7, .int r4), (0, .ref (a0 0)), (1, .int x1), (2, .int x2), (3, .int x3), (4, .int x4), (6, .int y90_6)]) hx hb dX12_errors_140 hl (by decide) rfl (fun ls hl => ?_)
                      refine lv_iconst (v := (1 : Int32)) hx hb dX12_errors_142 (by decide) ?_
                      refine lv_istore (lv' := [(9, .int (1 : Int32)), (8, .int (0 : Int32)), (5, .int v7), (7, .int r4), (0, .ref (a0 0)), (1, .int x1), (2, .int x2), (3, .int x3), (4, .int x4), (6, .int y90_6)]) hx hb dX12_errors_143 hl (by decide) rfl (fun ls hl => ?_)
                      have Lh145 : ∀ (fu145 : Nat) (I0_l145 : Nat → Int32) (L0_l145 : Int64) (M0_l145 : Nat → Nat → Int32) (y145_8 : Int32) (y145_9 : Int32) (H : Heap) (locs : List Loc), va_P D vwCl (wWX12 cB cI cZ a0 I0_l145 L0_l145 M0_l145) H → va_D A (wWX12 cB cI cZ a0 I0_l145 L0_l145 M0_l145) → va_S A s.heap H locs → ∀ (ls : Array Slot), lv_has ls 10 [(0, .ref (a0 0)), (1, .int x1), (2, .int x2), (3, .int x3), (4, .int x4), (5, .int v7), (6, .int y90_6), (7, .int r4), (8, .int y145_8), (9, .int y145_9)] → fX12_errors_L145 N x1 x2 x3 x4 r4 v7 y90_6 (fX12_errors_L51 N x1 x2 x3 x4 fu51) (fX12_errors_L90 N x1 x2 x3 x4 (fX12_errors_L51 N x1 x2 x3 x4 fu51) fu90) fu145 I0_l145 L0_l145 M0_l145 y145_8 y145_9 = some R → W p l e (headSpec wsX12_errors { frames := 2, cells := 0, slots := 0, locals := 56 }).room s m [.ref (a0 0), .int x1, .int x2, .int x3, .int x4].toArray below meth c H locs 0 0 (MQ below (va_Qi (fun r (_ : Unit) => r = R.1) (fun _ t => wb_post D [(cB, .byte), (cI, .int), (cZ, .boolean)] A (wWX12 cB cI cZ a0 R.2.1 R.2.2.1 R.2.2.2) t) A) [.ref (a0 0), .int x1, .int x2, .int x3, .int x4].toArray s 0 0 A) (F0 m 145 ls []) := by
                        intro fu145
                        induction fu145 with
                        | zero =>
                          intro I0_l145 L0_l145 M0_l145 y145_8 y145_9 H locs hP hD hS ls hl hf
                          exact absurd hf (by rw [fX12_errors_L145.eq_1]; exact fun h => nomatch h)
                        | succ fu145 ih145 =>
                          intro I0_l145 L0_l145 M0_l145 y145_8 y145_9 H locs hP hD hS ls hl hf
                          rw [fX12_errors_L145.eq_2] at hf
                          refine lv_iload hx hb dX12_errors_145 (lv_at hl 9 rfl) ?_
                          refine lv_iconst (v := (4 : Int32)) hx hb dX12_errors_147 (by decide) ?_
                          refine lv_icmp_ge (tgt := 184) hx hb dX12_errors_148 (by decide) (fun hc => ?_) (fun hc => ?_)
                          · replace hf := wb_t hc hf
                            refine lv_iconst (v := (1 : Int32)) hx hb dX12_errors_184 (by decide) ?_
                            refine lv_istore (lv' := [(9, .int (1 : Int32)), (0, .ref (a0 0)), (1, .int x1), (2, .int x2), (3, .int x3), (4, .int x4), (5, .int v7), (6, .int y90_6), (7, .int r4), (8, .int y145_8)]) hx hb dX12_errors_185 hl (by decide) rfl (fun ls hl => ?_)
                            have Lh187 : ∀ (fu187 : Nat) (I0_l187 : Nat → Int32) (L0_l187 : Int64) (M0_l187 : Nat → Nat → Int32) (y187_9 : Int32) (H : Heap) (locs : List Loc), va_P D vwCl (wWX12 cB cI cZ a0 I0_l187 L0_l187 M0_l187) H → va_D A (wWX12 cB cI cZ a0 I0_l187 L0_l187 M0_l187) → va_S A s.heap H locs → ∀ (ls : Array Slot), lv_has ls 10 [(0, .ref (a0 0)), (1, .int x1), (2, .int x2), (3, .int x3), (4, .int x4), (5, .int v7), (6, .int y90_6), (7, .int r4), (8, .int y145_8), (9, .int y187_9)] → fX12_errors_L187 N x1 x2 x3 x4 r4 v7 y145_8 y90_6 (fX12_errors_L51 N x1 x2 x3 x4 fu51) (fX12_errors_L90 N x1 x2 x3 x4 (fX12_errors_L51 N x1 x2 x3 x4 fu51) fu90) (fX12_errors_L145 N x1 x2 x3 x4 r4 v7 y90_6 (fX12_errors_L51 N x1 x2 x3 x4 fu51) (fX12_errors_L90 N x1 x2 x3 x4 (fX12_errors_L51 N x1 x2 x3 x4 fu51) fu90) fu145) fu187 I0_l187 L0_l187 M0_l187 y187_9 = some R → W p l e (headSpec wsX12_errors { frames := 2, cells := 0, slots := 0, locals := 56 }).room s m [.ref (a0 0), .int x1, .int x2, .int x3, .int x4].toArray below meth c H locs 0 0 (MQ below (va_Qi (fun r (_ : Unit) => r = R.1) (fun _ t => wb_post D [(cB, .byte), (cI, .int), (cZ, .boolean)] A (wWX12 cB cI cZ a0 R.2.1 R.2.2.1 R.2.2.2) t) A) [.ref (a0 0), .int x1, .int x2, .int x3, .int x4].toArray s 0 0 A) (F0 m 187 ls []) := by
                              intro fu187
                              induction fu187 with
                              | zero =>
                                intro I0_l187 L0_l187 M0_l187 y187_9 H locs hP hD hS ls hl hf
                                exact absurd hf (by rw [fX12_errors_L187.eq_1]; exact fun h => nomatch h)
                              | succ fu187 ih187 =>
                                have J243 : ∀ (I0_j243 : Nat → Int32) (L0_j243 : Int64) (M0_j243 : Nat → Nat → Int32) (y243_9 : Int32) (z243_0 : Int32) (z243_1 : Int32) (z243_2 : Int32) (H : Heap) (locs : List Loc), va_P D vwCl (wWX12 cB cI cZ a0 I0_j243 L0_j243 M0_j243) H → va_D A (wWX12 cB cI cZ a0 I0_j243 L0_j243 M0_j243) → va_S A s.heap H locs → ∀ (ls : Array Slot), lv_has ls 10 [(0, .ref (a0 0)), (1, .int x1), (2, .int x2), (3, .int x3), (4, .int x4), (5, .int v7), (6, .int y90_6), (7, .int r4), (8, .int y145_8), (9, .int y243_9)] → fX12_errors_J243 N x1 x2 x3 x4 r4 v7 y145_8 y90_6 (fX12_errors_L51 N x1 x2 x3 x4 fu51) (fX12_errors_L90 N x1 x2 x3 x4 (fX12_errors_L51 N x1 x2 x3 x4 fu51) fu90) (fX12_errors_L145 N x1 x2 x3 x4 r4 v7 y90_6 (fX12_errors_L51 N x1 x2 x3 x4 fu51) (fX12_errors_L90 N x1 x2 x3 x4 (fX12_errors_L51 N x1 x2 x3 x4 fu51) fu90) fu145) (fX12_errors_L187 N x1 x2 x3 x4 r4 v7 y145_8 y90_6 (fX12_errors_L51 N x1 x2 x3 x4 fu51) (fX12_errors_L90 N x1 x2 x3 x4 (fX12_errors_L51 N x1 x2 x3 x4 fu51) fu90) (fX12_errors_L145 N x1 x2 x3 x4 r4 v7 y90_6 (fX12_errors_L51 N x1 x2 x3 x4 fu51) (fX12_errors_L90 N x1 x2 x3 x4 (fX12_errors_L51 N x1 x2 x3 x4 fu51) fu90) fu145) fu187) I0_j243 L0_j243 M0_j243 y243_9 z243_0 z243_1 z243_2 = some R → W p l e (headSpec wsX12_errors { frames := 2, cells := 0, slots := 0, locals := 56 }).room s m [.ref (a0 0), .int x1, .int x2, .int x3, .int x4].toArray below meth c H locs 0 0 (MQ below (va_Qi (fun r (_ : Unit) => r = R.1) (fun _ t => wb_post D [(cB, .byte), (cI, .int), (cZ, .boolean)] A (wWX12 cB cI cZ a0 R.2.1 R.2.2.1 R.2.2.2) t) A) [.ref (a0 0), .int x1, .int x2, .int x3, .int x4].toArray s 0 0 A) (F0 m 243 ls [.int z243_0, .int z243_1, .int z243_2, .ref (a0 22)]) := by
                                  intro I0_j243 L0_j243 M0_j243 y243_9 z243_0 z243_1 z243_2 H locs hP hD hS ls hl hf
                                  unfold fX12_errors_J243 at hf
                                  refine lv_iadd hx hb dX12_errors_243 ?_
                                  obtain ⟨hin, hf⟩ := wb_n hf
                                  refine va_iast hx hb hK hP hD hS 22 1 rfl rfl hin dX12_errors_244 (fun H locs hP hD hS => ?_)
                                  have hP : va_P D vwCl (wWX12 cB cI cZ a0 I0_j243 L0_j243 (wb_um M0_j243 21 (z243_2).toNatClampNeg (z243_1 + z243_0))) H := hP
                                  have hD : va_D A (wWX12 cB cI cZ a0 I0_j243 L0_j243 (wb_um M0_j243 21 (z243_2).toNatClampNeg (z243_1 + z243_0))) := hD
                                  obtain ⟨M0_8, eM0_8, hf⟩ := wb_v hf
                                  rw [← eM0_8] at hP hD
                                  refine lv_aload_n hx hb dX12_errors_245 rfl (lv_at hl 0 rfl) ?_
                                  refine va_get (D := D) (ci := 12) (v := .ref (a0 23)) (C := RX12) (T := TX12) (N := 58) hx hb hts hinX12 hown hK hP 0 rfl rfl 41 (by decide) (hts (.fieldLink RX12 83 "WheelBookModel" "weigh" "[I") (List.mem_of_getElem? (i := 4) rfl)) (fun _ h9 => h9) rfl dX12_errors_246 ?_
                                  refine lv_iload hx hb dX12_errors_249 (lv_at hl 9 rfl) ?_
                                  refine lv_dup2_11 hx hb dX12_errors_251 rfl rfl ?_
                                  obtain ⟨hin, hf⟩ := wb_n hf
                                  refine va_iald hx hb hK hP 23 1 rfl rfl hin dX12_errors_252 ?_
                                  refine lv_bipush (v := (6 : Int32)) hx hb dX12_errors_253 (by decide) ?_
                                  refine lv_iload hx hb dX12_errors_255 (lv_at hl 8 rfl) ?_
                                  obtain ⟨hz, hf⟩ := wb_n hf
                                  refine lv_idiv hx hb dX12_errors_257 hz ?_
                                  refine lv_iadd hx hb dX12_errors_258 ?_
                                  obtain ⟨hin, hf⟩ := wb_n hf
                                  refine va_iast hx hb hK hP hD hS 23 1 rfl rfl hin dX12_errors_259 (fun H locs hP hD hS => ?_)
                                  have hP : va_P D vwCl (wWX12 cB cI cZ a0 I0_j243 L0_j243 (wb_um M0_8 22 (y243_9).toNatClampNeg ((M0_8 22 (y243_9).toNatClampNeg) + ((6 : Int32) / y145_8)))) H := hP
                                  have hD : va_D A (wWX12 cB cI cZ a0 I0_j243 L0_j243 (wb_um M0_8 22 (y243_9).toNatClampNeg ((M0_8 22 (y243_9).toNatClampNeg) + ((6 : Int32) / y145_8)))) := hD
                                  obtain ⟨M0_9, eM0_9, hf⟩ := wb_v hf
                                  rw [← eM0_9] at hP hD
                                  obtain ⟨v10, ev10, hf⟩ := wb_v hf
                                  refine lv_iinc (v := v10) (lv' := [(9, .int v10), (0, .ref (a0 0)), (1, .int x1), (2, .int x2), (3, .int x3), (4, .int x4), (5, .int v7), (6, .int y90_6), (7, .int r4), (8, .int y145_8)]) hx hb dX12_errors_260 hl (k := 9) rfl (by rw [ev10]; rfl) (by decide) rfl (fun ls hl => ?_)
                                  refine lv_goto (tgt := 187) hx hb dX12_errors_263 (by decide) ?_
                                  exact ih187 I0_j243 L0_j243 M0_9 v10 H locs hP hD hS ls (lv_sub hl [1, 2, 3, 4, 5, 6, 7, 8, 9, 0] rfl) hf
                                intro I0_l187 L0_l187 M0_l187 y187_9 H locs hP hD hS ls hl hf
                                rw [fX12_errors_L187.eq_2] at hf
                                refine lv_iload hx hb dX12_errors_187 (lv_at hl 9 rfl) ?_
                                refine lv_iconst (v := (4 : Int32)) hx hb dX12_errors_189 (by decide) ?_
                                refine lv_icmp_ge (tgt := 266) hx hb dX12_errors_190 (by decide) (fun hc => ?_) (fun hc => ?_)
                                · replace hf := wb_t hc hf
                                  obtain ⟨v11, ev11, hf⟩ := wb_v hf
                                  refine lv_iinc (v := v11) (lv' := [(6, .int v11), (0, .ref (a0 0)), (1, .int x1), (2, .int x2), (3, .int x3), (4, .int x4), (5, .int v7), (7, .int r4), (8, .int y145_8), (9, .int y187_9)]) hx hb dX12_errors_266 hl (k := 6) rfl (by rw [ev11]; rfl) (by decide) rfl (fun ls hl => ?_)
                                  refine lv_goto (tgt := 90) hx hb dX12_errors_269 (by decide) ?_
                                  exact ih90 I0_l187 L0_l187 M0_l187 v7 v11 H locs hP hD hS ls (lv_sub hl [1, 2, 3, 4, 5, 6, 0] rfl) hf
                                · replace hf := wb_f hc hf
                                  refine lv_aload_n hx hb dX12_errors_193 rfl (lv_at hl 0 rfl) ?_
                                  refine lv_iload hx hb dX12_errors_194 (lv_at hl 9 rfl) ?_
                                  refine lv_iload hx hb dX12_errors_196 (lv_at hl 6 rfl) ?_
                                  refine lv_iload_n hx hb dX12_errors_198 rfl (lv_at hl 3 rfl) ?_
                                  obtain ⟨r12, hr12, hf⟩ := wb_b hf
                                  refine vp_callSi (W.runV (As := [.int y187_9, .int y90_6, .int x3]) (rest := []) ⟨hx, hb, hml, hown, hts⟩ (cn_X12_placeOn l D cB cI cZ N a0 I0_l187 L0_l187 M0_l187 y187_9 y90_6 x3 r12 hr12) (cwV 3 hts gX12_errors_X12_placeOn rfl rfl rfl cdX12_placeOn ⟨Nat.le_of_ble_eq_true rfl, Nat.le_of_ble_eq_true rfl⟩) (wb_preV hP hK (wr_12 hK hP (q0 := 0) rfl)) rfl rfl hl.1 rfl (lv_room (Nat.le_of_ble_eq_true rfl)) dX12_errors_199 ⟨Nat.le_of_ble_eq_true rfl, Nat.le_of_ble_eq_true rfl⟩) (fun r9 e9 => ?_)
                                  rw [e9]
                                  refine lv_bipush (v := (60 : Int32)) hx hb dX12_errors_202 (by decide) ?_
                                  refine lv_idiv hx hb dX12_errors_204 (by decide) ?_
                                  refine lv_iload hx hb dX12_errors_205 (lv_at hl 7 rfl) ?_
                                  refine lv_icmp_eq (tgt := 213) hx hb dX12_errors_207 (by decide) (fun hc => ?_) (fun hc => ?_)
                                  · replace hf := wb_t hc hf
                                    refine lv_aload_n hx hb dX12_errors_213 rfl (lv_at hl 0 rfl) ?_
                                    refine va_get (D := D) (ci := 12) (v := .ref (a0 21)) (C := RX12) (T := TX12) (N := 58) hx hb hts hinX12 hown hK hP 0 rfl rfl 39 (by decide) (hts (.fieldLink RX12 77 "WheelBookModel" "shared" "[I") (List.mem_of_getElem? (i := 2) rfl)) (fun _ h9 => h9) rfl dX12_errors_214 ?_
                                    refine lv_iload hx hb dX12_errors_217 (lv_at hl 9 rfl) ?_
                                    refine lv_dup2_11 hx hb dX12_errors_219 rfl rfl ?_
                                    obtain ⟨hin, hf⟩ := wb_n hf
                                    refine va_iald hx hb hK hP 21 1 rfl rfl hin dX12_errors_220 ?_
                                    refine lv_iconst (v := (1 : Int32)) hx hb dX12_errors_221 (by decide) ?_
                                    refine lv_iadd hx hb dX12_errors_222 ?_
                                    obtain ⟨hin, hf⟩ := wb_n hf
                                    refine va_iast hx hb hK hP hD hS 21 1 rfl rfl hin dX12_errors_223 (fun H locs hP hD hS => ?_)
                                    have hP : va_P D vwCl (wWX12 cB cI cZ a0 I0_l187 L0_l187 (wb_um M0_l187 20 (y187_9).toNatClampNeg ((M0_l187 20 (y187_9).toNatClampNeg) + (1 : Int32)))) H := hP
                                    have hD : va_D A (wWX12 cB cI cZ a0 I0_l187 L0_l187 (wb_um M0_l187 20 (y187_9).toNatClampNeg ((M0_l187 20 (y187_9).toNatClampNeg) + (1 : Int32)))) := hD
                                    obtain ⟨M0_13, eM0_13, hf⟩ := wb_v hf
                                    rw [← eM0_13] at hP hD
                                    refine lv_aload_n hx hb dX12_errors_224 rfl (lv_at hl 0 rfl) ?_
                                    refine va_get (D := D) (ci := 12) (v := .ref (a0 22)) (C := RX12) (T := TX12) (N := 58) hx hb hts hinX12 hown hK hP 0 rfl rfl 40 (by decide) (hts (.fieldLink RX12 80 "WheelBookModel" "alone" "[I") (List.mem_of_getElem? (i := 3) rfl)) (fun _ h9 => h9) rfl dX12_errors_225 ?_
                                    refine lv_iload hx hb dX12_errors_228 (lv_at hl 9 rfl) ?_
                                    refine lv_dup2_11 hx hb dX12_errors_230 rfl rfl ?_
                                    obtain ⟨hin, hf⟩ := wb_n hf
                                    refine va_iald hx hb hK hP 22 1 rfl rfl hin dX12_errors_231 ?_
                                    refine lv_iload hx hb dX12_errors_232 (lv_at hl 8 rfl) ?_
                                    refine lv_iconst (v := (1 : Int32)) hx hb dX12_errors_234 (by decide) ?_
                                    refine lv_icmp_ne (tgt := 242) hx hb dX12_errors_235 (by decide) (fun hc => ?_) (fun hc => ?_)
                                    · replace hf := wb_f hc hf
                                      refine lv_iconst (v := (0 : Int32)) hx hb dX12_errors_242 (by decide) ?_
                                      exact J243 I0_l187 L0_l187 M0_13 y187_9 (0 : Int32) (M0_13 21 (y187_9).toNatClampNeg) y187_9 H locs hP hD hS ls (lv_sub hl [0, 1, 2, 3, 4, 5, 6, 7, 8, 9] rfl) hf
                                    · replace hf := wb_t hc hf
                                      refine lv_iconst (v := (1 : Int32)) hx hb dX12_errors_238 (by decide) ?_
                                      refine lv_goto (tgt := 243) hx hb dX12_errors_239 (by decide) ?_
                                      exact J243 I0_l187 L0_l187 M0_13 y187_9 (1 : Int32) (M0_13 21 (y187_9).toNatClampNeg) y187_9 H locs hP hD hS ls (lv_sub hl [0, 1, 2, 3, 4, 5, 6, 7, 8, 9] rfl) hf
                                  · replace hf := wb_f hc hf
                                    refine lv_goto (tgt := 260) hx hb dX12_errors_210 (by decide) ?_
                                    obtain ⟨v14, ev14, hf⟩ := wb_v hf
                                    refine lv_iinc (v := v14) (lv' := [(9, .int v14), (0, .ref (a0 0)), (1, .int x1), (2, .int x2), (3, .int x3), (4, .int x4), (5, .int v7), (6, .int y90_6), (7, .int r4), (8, .int y145_8)]) hx hb dX12_errors_260 hl (k := 9) rfl (by rw [ev14]; rfl) (by decide) rfl (fun ls hl => ?_)
                                    refine lv_goto (tgt := 187) hx hb dX12_errors_263 (by decide) ?_
                                    exact ih187 I0_l187 L0_l187 M0_l187 v14 H locs hP hD hS ls (lv_sub hl [1, 2, 3, 4, 5, 6, 7, 8, 9, 0] rfl) hf
                            exact Lh187 N I0_l145 L0_l145 M0_l145 (1 : Int32) H locs hP hD hS ls (lv_sub hl [1, 2, 3, 4, 5, 6, 7, 8, 9, 0] rfl) hf
                          · replace hf := wb_f hc hf
                            refine lv_iload hx hb dX12_errors_151 (lv_at hl 8 rfl) ?_
                            refine lv_aload_n hx hb dX12_errors_153 rfl (lv_at hl 0 rfl) ?_
                            refine lv_iload hx hb dX12_errors_154 (lv_at hl 9 rfl) ?_
                            refine lv_iload hx hb dX12_errors_156 (lv_at hl 6 rfl) ?_
                            refine lv_iload_n hx hb dX12_errors_158 rfl (lv_at hl 3 rfl) ?_
                            obtain ⟨r15, hr15, hf⟩ := wb_b hf
                            refine vp_callSi (W.runV (As := [.int y145_9, .int y90_6, .int x3]) (rest := [.int y145_8]) ⟨hx, hb, hml, hown, hts⟩ (cn_X12_placeOn l D cB cI cZ N a0 I0_l145 L0_l145 M0_l145 y145_9 y90_6 x3 r15 hr15) (cwV 3 hts gX12_errors_X12_placeOn rfl rfl rfl cdX12_placeOn ⟨Nat.le_of_ble_eq_true rfl, Nat.le_of_ble_eq_true rfl⟩) (wb_preV hP hK (wr_12 hK hP (q0 := 0) rfl)) rfl rfl hl.1 rfl (lv_room (Nat.le_of_ble_eq_true rfl)) dX12_errors_159 ⟨Nat.le_of_ble_eq_true rfl, Nat.le_of_ble_eq_true rfl⟩) (fun r9 e9 => ?_)
                            rw [e9]
                            refine lv_bipush (v := (60 : Int32)) hx hb dX12_errors_162 (by decide) ?_
                            refine lv_idiv hx hb dX12_errors_164 (by decide) ?_
                            refine lv_iload hx hb dX12_errors_165 (lv_at hl 7 rfl) ?_
                            refine lv_icmp_ne (tgt := 174) hx hb dX12_errors_167 (by decide) (fun hc => ?_) (fun hc => ?_)
                            · replace hf := wb_f hc hf
                              refine lv_iconst (v := (0 : Int32)) hx hb dX12_errors_174 (by decide) ?_
                              refine lv_iadd hx hb dX12_errors_175 ?_
                              obtain ⟨v16, ev16, hf⟩ := wb_v hf
                              refine wb_topi ev16 ?_
                              refine lv_istore (lv' := [(8, .int v16), (0, .ref (a0 0)), (1, .int x1), (2, .int x2), (3, .int x3), (4, .int x4), (5, .int v7), (6, .int y90_6), (7, .int r4), (9, .int y145_9)]) hx hb dX12_errors_176 hl (by decide) rfl (fun ls hl => ?_)
                              obtain ⟨v17, ev17, hf⟩ := wb_v hf
                              refine lv_iinc (v := v17) (lv' := [(9, .int v17), (8, .int v16), (0, .ref (a0 0)), (1, .int x1), (2, .int x2), (3, .int x3), (4, .int x4), (5, .int v7), (6, .int y90_6), (7, .int r4)]) hx hb dX12_errors_178 hl (k := 9) rfl (by rw [ev17]; rfl) (by decide) rfl (fun ls hl => ?_)
                              refine lv_goto (tgt := 145) hx hb dX12_errors_181 (by decide) ?_
                              exact ih145 I0_l145 L0_l145 M0_l145 v16 v17 H locs hP hD hS ls (lv_sub hl [2, 3, 4, 5, 6, 7, 8, 9, 1, 0] rfl) hf
                            · replace hf := wb_t hc hf
                              refine lv_iconst (v := (1 : Int32)) hx hb dX12_errors_170 (by decide) ?_
                              refine lv_goto (tgt := 175) hx hb dX12_errors_171 (by decide) ?_
                              refine lv_iadd hx hb dX12_errors_175 ?_
                              obtain ⟨v18, ev18, hf⟩ := wb_v hf
                              refine wb_topi ev18 ?_
                              refine lv_istore (lv' := [(8, .int v18), (0, .ref (a0 0)), (1, .int x1), (2, .int x2), (3, .int x3), (4, .int x4), (5, .int v7), (6, .int y90_6), (7, .int r4), (9, .int y145_9)]) hx hb dX12_errors_176 hl (by decide) rfl (fun ls hl => ?_)
                              obtain ⟨v19, ev19, hf⟩ := wb_v hf
                              refine lv_iinc (v := v19) (lv' := [(9, .int v19), (8, .int v18), (0, .ref (a0 0)), (1, .int x1), (2, .int x2), (3, .int x3), (4, .int x4), (5, .int v7), (6, .int y90_6), (7, .int r4)]) hx hb dX12_errors_178 hl (k := 9) rfl (by rw [ev19]; rfl) (by decide) rfl (fun ls hl => ?_)
                              refine lv_goto (tgt := 145) hx hb dX12_errors_181 (by decide) ?_
                              exact ih145 I0_l145 L0_l145 M0_l145 v18 v19 H locs hP hD hS ls (lv_sub hl [2, 3, 4, 5, 6, 7, 8, 9, 1, 0] rfl) hf
                      exact Lh145 N I0_l90 L0_l90 M0_l90 (0 : Int32) (1 : Int32) H locs hP hD hS ls (lv_sub hl [4, 5, 6, 7, 8, 2, 9, 3, 1, 0] rfl) hf
                    · replace hf := wb_t hc hf
                      refine lv_goto (tgt := 266) hx hb dX12_errors_133 (by decide) ?_
                      obtain ⟨v20, ev20, hf⟩ := wb_v hf
                      refine lv_iinc (v := v20) (lv' := [(6, .int v20), (7, .int r4), (0, .ref (a0 0)), (1, .int x1), (2, .int x2), (3, .int x3), (4, .int x4), (5, .int y90_5)]) hx hb dX12_errors_266 hl (k := 7) rfl (by rw [ev20]; rfl) (by decide) rfl (fun ls hl => ?_)
                      refine lv_goto (tgt := 90) hx hb dX12_errors_269 (by decide) ?_
                      exact ih90 I0_l90 L0_l90 M0_l90 y90_5 v20 H locs hP hD hS ls (lv_sub hl [2, 3, 4, 5, 6, 7, 0] rfl) hf
            exact Lh90 N I0_l51 L0_l51 M0_l51 (0 : Int32) (0 : Int32) H locs hP hD hS ls (lv_sub hl [1, 2, 3, 4, 5, 6, 0] rfl) hf
          · replace hf := wb_f hc hf
            refine lv_aload_n hx hb dX12_errors_57 rfl (lv_at hl 0 rfl) ?_
            refine va_get (D := D) (ci := 12) (v := .ref (a0 21)) (C := RX12) (T := TX12) (N := 58) hx hb hts hinX12 hown hK hP 0 rfl rfl 39 (by decide) (hts (.fieldLink RX12 77 "WheelBookModel" "shared" "[I") (List.mem_of_getElem? (i := 2) rfl)) (fun _ h9 => h9) rfl dX12_errors_58 ?_
            refine lv_iload hx hb dX12_errors_61 (lv_at hl 6 rfl) ?_
            refine lv_iconst (v := (0 : Int32)) hx hb dX12_errors_63 (by decide) ?_
            obtain ⟨hin, hf⟩ := wb_n hf
            refine va_iast hx hb hK hP hD hS 21 1 rfl rfl hin dX12_errors_64 (fun H locs hP hD hS => ?_)
            have hP : va_P D vwCl (wWX12 cB cI cZ a0 I0_l51 L0_l51 (wb_um M0_l51 20 (y51_6).toNatClampNeg (0 : Int32))) H := hP
            have hD : va_D A (wWX12 cB cI cZ a0 I0_l51 L0_l51 (wb_um M0_l51 20 (y51_6).toNatClampNeg (0 : Int32))) := hD
            obtain ⟨M0_21, eM0_21, hf⟩ := wb_v hf
            rw [← eM0_21] at hP hD
            refine lv_aload_n hx hb dX12_errors_65 rfl (lv_at hl 0 rfl) ?_
            refine va_get (D := D) (ci := 12) (v := .ref (a0 22)) (C := RX12) (T := TX12) (N := 58) hx hb hts hinX12 hown hK hP 0 rfl rfl 40 (by decide) (hts (.fieldLink RX12 80 "WheelBookModel" "alone" "[I") (List.mem_of_getElem? (i := 3) rfl)) (fun _ h9 => h9) rfl dX12_errors_66 ?_
            refine lv_iload hx hb dX12_errors_69 (lv_at hl 6 rfl) ?_
            refine lv_iconst (v := (0 : Int32)) hx hb dX12_errors_71 (by decide) ?_
            obtain ⟨hin, hf⟩ := wb_n hf
            refine va_iast hx hb hK hP hD hS 22 1 rfl rfl hin dX12_errors_72 (fun H locs hP hD hS => ?_)
            have hP : va_P D vwCl (wWX12 cB cI cZ a0 I0_l51 L0_l51 (wb_um M0_21 21 (y51_6).toNatClampNeg (0 : Int32))) H := hP
            have hD : va_D A (wWX12 cB cI cZ a0 I0_l51 L0_l51 (wb_um M0_21 21 (y51_6).toNatClampNeg (0 : Int32))) := hD
            obtain ⟨M0_22, eM0_22, hf⟩ := wb_v hf
            rw [← eM0_22] at hP hD
            refine lv_aload_n hx hb dX12_errors_73 rfl (lv_at hl 0 rfl) ?_
            refine va_get (D := D) (ci := 12) (v := .ref (a0 23)) (C := RX12) (T := TX12) (N := 58) hx hb hts hinX12 hown hK hP 0 rfl rfl 41 (by decide) (hts (.fieldLink RX12 83 "WheelBookModel" "weigh" "[I") (List.mem_of_getElem? (i := 4) rfl)) (fun _ h9 => h9) rfl dX12_errors_74 ?_
            refine lv_iload hx hb dX12_errors_77 (lv_at hl 6 rfl) ?_
            refine lv_iconst (v := (0 : Int32)) hx hb dX12_errors_79 (by decide) ?_
            obtain ⟨hin, hf⟩ := wb_n hf
            refine va_iast hx hb hK hP hD hS 23 1 rfl rfl hin dX12_errors_80 (fun H locs hP hD hS => ?_)
            have hP : va_P D vwCl (wWX12 cB cI cZ a0 I0_l51 L0_l51 (wb_um M0_22 22 (y51_6).toNatClampNeg (0 : Int32))) H := hP
            have hD : va_D A (wWX12 cB cI cZ a0 I0_l51 L0_l51 (wb_um M0_22 22 (y51_6).toNatClampNeg (0 : Int32))) := hD
            obtain ⟨M0_23, eM0_23, hf⟩ := wb_v hf
            rw [← eM0_23] at hP hD
            obtain ⟨v24, ev24, hf⟩ := wb_v hf
            refine lv_iinc (v := v24) (lv' := [(6, .int v24), (0, .ref (a0 0)), (1, .int x1), (2, .int x2), (3, .int x3), (4, .int x4), (5, .int (0 : Int32))]) hx hb dX12_errors_81 hl (k := 6) rfl (by rw [ev24]; rfl) (by decide) rfl (fun ls hl => ?_)
            refine lv_goto (tgt := 51) hx hb dX12_errors_84 (by decide) ?_
            exact ih51 I0_l51 L0_l51 M0_23 v24 H locs hP hD hS ls (lv_sub hl [1, 2, 3, 4, 5, 6, 0] rfl) hf
      exact Lh51 N r1.2.1 r1.2.2.1 r1.2.2.2 (1 : Int32) H locs hP hD hS ls (lv_sub hl [2, 3, 4, 5, 6, 1, 0] rfl) hf
    · replace hf := wb_t hc hf
      refine lv_iconst (v := (0 : Int32)) hx hb dX12_errors_43 (by decide) ?_
      exact W.iret (v := (0 : Int32)) hx hb hr (fun t ht hW => by rw [← Option.some.inj hf]; exact ⟨⟨(0 : Int32), (), rfl, rfl, by rw [ht]; exact hP, va_K.moved hW.alike hK, hD⟩, hS.F ht⟩) hS.2.2 dX12_errors_44
  have J35 : ∀ (I0_j35 : Nat → Int32) (L0_j35 : Int64) (M0_j35 : Nat → Nat → Int32) (H : Heap) (locs : List Loc), va_P D vwCl (wWX12 cB cI cZ a0 I0_j35 L0_j35 M0_j35) H → va_D A (wWX12 cB cI cZ a0 I0_j35 L0_j35 M0_j35) → va_S A s.heap H locs → ∀ (ls : Array Slot), lv_has ls 10 [(0, .ref (a0 0)), (1, .int x1), (2, .int x2), (3, .int x3), (4, .int x4)] → fX12_errors_J35 N x1 x2 x3 x4 I0_j35 L0_j35 M0_j35 = some R → W p l e (headSpec wsX12_errors { frames := 2, cells := 0, slots := 0, locals := 56 }).room s m [.ref (a0 0), .int x1, .int x2, .int x3, .int x4].toArray below meth c H locs 0 0 (MQ below (va_Qi (fun r (_ : Unit) => r = R.1) (fun _ t => wb_post D [(cB, .byte), (cI, .int), (cZ, .boolean)] A (wWX12 cB cI cZ a0 R.2.1 R.2.2.1 R.2.2.2) t) A) [.ref (a0 0), .int x1, .int x2, .int x3, .int x4].toArray s 0 0 A) (F0 m 35 ls [.ref (a0 0)]) := by
    intro I0_j35 L0_j35 M0_j35 H locs hP hD hS ls hl hf
    unfold fX12_errors_J35 at hf
    refine lv_iconst (v := (0 : Int32)) hx hb dX12_errors_35 (by decide) ?_
    exact J36 I0_j35 L0_j35 M0_j35 (0 : Int32) H locs hP hD hS ls (lv_sub hl [0, 1, 2, 3, 4] rfl) hf
  refine lv_aload_n hx hb dX12_errors_0 rfl (lv_at hl 0 rfl) ?_
  refine lv_iload_n hx hb dX12_errors_1 rfl (lv_at hl 1 rfl) ?_
  refine lv_iload_n hx hb dX12_errors_2 rfl (lv_at hl 2 rfl) ?_
  obtain ⟨r25, hr25, hf⟩ := wb_b hf
  have hPc := hP
  have hDc := hD
  have hFc := wj_F hDc hS hA
  refine va_calli (va_runV (As := [.int x1, .int x2]) (rest := []) ⟨hx, hb, hml, hown, hts⟩ (cn_X12_isWheel l D cB cI cZ N a0 I0 L0 M0 x1 x2 H.size r25 hr25) (cwV 2 hts gX12_errors_X12_isWheel rfl rfl rfl cdX12_isWheel ⟨Nat.le_of_ble_eq_true rfl, Nat.le_of_ble_eq_true rfl⟩) (wb_preDV hPc hK hDc (wr_12 hK hP (q0 := 0) rfl)) rfl rfl hl.1 rfl (lv_room (Nat.le_of_ble_eq_true rfl)) dX12_errors_3 ⟨Nat.le_of_ble_eq_true rfl, Nat.le_of_ble_eq_true rfl⟩) hS (fun q _ h => hFc q h) hFc (fun r9 u t H locs ht hvm hw hB hz1 hk1 hS => ?_)
  obtain ⟨hP, hD⟩ := wj_0 hFc ht hB
  rw [hw]
  refine lv_if_eq (tgt := 43) hx hb dX12_errors_6 (by decide) (fun hc => ?_) (fun hc => ?_)
  · replace hf := wb_t hc hf
    refine lv_iconst (v := (0 : Int32)) hx hb dX12_errors_43 (by decide) ?_
    exact W.iret (v := (0 : Int32)) hx hb hr (fun t ht hW => by rw [← Option.some.inj hf]; exact ⟨⟨(0 : Int32), (), rfl, rfl, by rw [ht]; exact hP, va_K.moved hW.alike hK, hD⟩, hS.F ht⟩) hS.2.2 dX12_errors_44
  · replace hf := wb_f hc hf
    refine lv_aload_n hx hb dX12_errors_9 rfl (lv_at hl 0 rfl) ?_
    refine lv_iload_n hx hb dX12_errors_10 rfl (lv_at hl 3 rfl) ?_
    refine lv_iconst (v := (0 : Int32)) hx hb dX12_errors_11 (by decide) ?_
    refine lv_ldc (v := (1000000 : Int32)) hx hb hown (hts (.constant RX12 218 (1000000)) (List.mem_of_getElem? (i := 1) rfl)) dX12_errors_12 ?_
    obtain ⟨r26, hr26, hf⟩ := wb_b hf
    refine vp_callSi (W.runS (As := [.int x3, .int (0 : Int32), .int (1000000 : Int32)]) (rest := [.ref (a0 0)]) ⟨hx, hb, hml, hown, hts⟩ (cn_X12_within l D cB cI cZ N x3 (0 : Int32) (1000000 : Int32) r26 hr26) (va_cwS 3 hts gX12_errors_X12_within rfl rfl rfl csX12_within ⟨Nat.le_of_ble_eq_true rfl, Nat.le_of_ble_eq_true rfl⟩) (wb_preS (hP.sub (ws' := ([] : va_W)) [] rfl) hK) rfl rfl hl.1 rfl (lv_room (Nat.le_of_ble_eq_true rfl)) dX12_errors_14 ⟨Nat.le_of_ble_eq_true rfl, Nat.le_of_ble_eq_true rfl⟩) (fun r9 e9 => ?_)
    rw [e9]
    refine lv_if_eq (tgt := 35) hx hb dX12_errors_17 (by decide) (fun hc => ?_) (fun hc => ?_)
    · replace hf := wb_t hc hf
      exact J35 r25.2.1 r25.2.2.1 r25.2.2.2 H locs hP hD hS ls (lv_sub hl [0, 1, 2, 3, 4] rfl) hf
    · replace hf := wb_f hc hf
      refine lv_iload hx hb dX12_errors_20 (lv_at hl 4 rfl) ?_
      refine lv_iconst (v := (0 : Int32)) hx hb dX12_errors_22 (by decide) ?_
      refine lv_bipush (v := (10 : Int32)) hx hb dX12_errors_23 (by decide) ?_
      obtain ⟨r27, hr27, hf⟩ := wb_b hf
      refine vp_callSi (W.runS (As := [.int x4, .int (0 : Int32), .int (10 : Int32)]) (rest := [.ref (a0 0)]) ⟨hx, hb, hml, hown, hts⟩ (cn_X12_within l D cB cI cZ N x4 (0 : Int32) (10 : Int32) r27 hr27) (va_cwS 3 hts gX12_errors_X12_within rfl rfl rfl csX12_within ⟨Nat.le_of_ble_eq_true rfl, Nat.le_of_ble_eq_true rfl⟩) (wb_preS (hP.sub (ws' := ([] : va_W)) [] rfl) hK) rfl rfl hl.1 rfl (lv_room (Nat.le_of_ble_eq_true rfl)) dX12_errors_25 ⟨Nat.le_of_ble_eq_true rfl, Nat.le_of_ble_eq_true rfl⟩) (fun r9 e9 => ?_)
      rw [e9]
      refine lv_if_eq (tgt := 35) hx hb dX12_errors_28 (by decide) (fun hc => ?_) (fun hc => ?_)
      · replace hf := wb_t hc hf
        exact J35 r25.2.1 r25.2.2.1 r25.2.2.2 H locs hP hD hS ls (lv_sub hl [0, 1, 2, 3, 4] rfl) hf
      · replace hf := wb_f hc hf
        refine lv_iconst (v := (1 : Int32)) hx hb dX12_errors_31 (by decide) ?_
        refine lv_goto (tgt := 36) hx hb dX12_errors_32 (by decide) ?_
        exact J36 r25.2.1 r25.2.2.1 r25.2.2.2 (1 : Int32) H locs hP hD hS ls (lv_sub hl [0, 1, 2, 3, 4] rfl) hf
