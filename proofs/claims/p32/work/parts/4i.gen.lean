set_option maxHeartbeats 4000000 in
set_option maxRecDepth 100000 in
theorem cn_X12_priceOf (l : Launch) (D : va_G) (cB cI cZ : ClassId) (N : Nat) (a0 : Nat → Nat) (I0 : Nat → Int32) (L0 : Int64) (M0 : Nat → Nat → Int32) (x1 : Int32) (x2 : Int32) (x3 : Int32) (R : Int32) (hf : fX12_priceOf N I0 L0 M0 x1 x2 x3 = some R) : Met l yX12_priceOf wsX12_priceOf ({ frames := 3, cells := 0, slots := 0, locals := 69 }) (va_Pc [.ref (a0 0), .int x1, .int x2, .int x3] (wb_pre D [(cB, .byte), (cI, .int), (cZ, .boolean)] (wWX12 cB cI cZ a0 I0 L0 M0))) (vp_Si (fun r => r = R)) 0 0 (fun _ => False) := by
  refine Met.ofW (cc := cX12_priceOf) (maxL := 4) (ret := (some .int)) pn_X12 rfl ?_
  intro p e s m args below meth c s₁ B hml hv
  obtain ⟨rfl, hP, hK⟩ := hv
  have hx := B.exec
  have hb := B.bytes
  have hr := B.returns
  have hts := atoms_spec (ws := wsX12_priceOf) B.pre
  have hown : s.vm.findClass RX12 = some m.cls := (findClass_of_methodNamed B.named :)
  have hlocks := B.notSynchronized
  have hl := lv_entry ([.ref (a0 0), .int x1, .int x2, .int x3]) (n := 4) (Nat.le_of_ble_eq_true rfl)
  rw [lg_entry_eq]
  generalize (lg_sl ([.ref (a0 0), .int x1, .int x2, .int x3]) ++ List.replicate (4 - (lg_sl ([.ref (a0 0), .int x1, .int x2, .int x3])).length) Slot.unset).toArray = ls at hl ⊢
  have hl : lv_has ls 4 [(0, .ref (a0 0)), (1, .int x1), (2, .int x2), (3, .int x3)] := hl
  unfold fX12_priceOf at hf
  refine lv_iload_n hx hb dX12_priceOf_0 rfl (lv_at hl 1 rfl) ?_
  refine lv_iload_n hx hb dX12_priceOf_1 rfl (lv_at hl 2 rfl) ?_
  refine lv_icmp_ne (tgt := 7) hx hb dX12_priceOf_2 (by decide) (fun hc => ?_) (fun hc => ?_)
  · replace hf := wb_f hc hf
    refine lv_iload_n hx hb dX12_priceOf_7 rfl (lv_at hl 2 rfl) ?_
    refine lv_iconst (v := (-1 : Int32)) hx hb dX12_priceOf_8 (by decide) ?_
    refine lv_icmp_ne (tgt := 14) hx hb dX12_priceOf_9 (by decide) (fun hc => ?_) (fun hc => ?_)
    · replace hf := wb_f hc hf
      refine lv_iload_n hx hb dX12_priceOf_14 rfl (lv_at hl 1 rfl) ?_
      refine lv_iconst (v := (-1 : Int32)) hx hb dX12_priceOf_15 (by decide) ?_
      refine lv_icmp_ne (tgt := 21) hx hb dX12_priceOf_16 (by decide) (fun hc => ?_) (fun hc => ?_)
      · replace hf := wb_f hc hf
        refine lv_iload_n hx hb dX12_priceOf_21 rfl (lv_at hl 3 rfl) ?_
        refine lv_bipush (v := (21 : Int32)) hx hb dX12_priceOf_22 (by decide) ?_
        refine lv_icmp_eq (tgt := 41) hx hb dX12_priceOf_24 (by decide) (fun hc => ?_) (fun hc => ?_)
        · replace hf := wb_t hc hf
          refine lv_iconst (v := (3 : Int32)) hx hb dX12_priceOf_41 (by decide) ?_
          exact W.iret (v := (3 : Int32)) hx hb hr (fun t ht hW => ⟨_, rfl, Option.some.inj hf, ht⟩) (fun _ h => nomatch h) dX12_priceOf_42
        · replace hf := wb_f hc hf
          refine lv_aload_n hx hb dX12_priceOf_27 rfl (lv_at hl 0 rfl) ?_
          refine lv_iload_n hx hb dX12_priceOf_28 rfl (lv_at hl 2 rfl) ?_
          refine lv_iload_n hx hb dX12_priceOf_29 rfl (lv_at hl 1 rfl) ?_
          obtain ⟨r1, hr1, hf⟩ := wb_b hf
          refine vp_callSi (W.runV (As := [.int x2, .int x1]) (rest := []) ⟨hx, hb, hml, hown, hts⟩ (cn_X12_costOf l D cB cI cZ N a0 I0 L0 M0 x2 x1 r1 hr1) (cwV 2 hts gX12_priceOf_X12_costOf rfl rfl rfl cdX12_costOf ⟨Nat.le_of_ble_eq_true rfl, Nat.le_of_ble_eq_true rfl⟩) (wb_preV hP hK (wr_12 hK hP (q0 := 0) rfl)) rfl rfl hl.1 rfl (lv_room (Nat.le_of_ble_eq_true rfl)) dX12_priceOf_30 ⟨Nat.le_of_ble_eq_true rfl, Nat.le_of_ble_eq_true rfl⟩) (fun r9 e9 => ?_)
          rw [e9]
          refine lv_iconst (v := (1 : Int32)) hx hb dX12_priceOf_33 (by decide) ?_
          refine lv_icmp_ne (tgt := 41) hx hb dX12_priceOf_34 (by decide) (fun hc => ?_) (fun hc => ?_)
          · replace hf := wb_f hc hf
            refine lv_iconst (v := (3 : Int32)) hx hb dX12_priceOf_41 (by decide) ?_
            exact W.iret (v := (3 : Int32)) hx hb hr (fun t ht hW => ⟨_, rfl, Option.some.inj hf, ht⟩) (fun _ h => nomatch h) dX12_priceOf_42
          · replace hf := wb_t hc hf
            refine lv_iconst (v := (1 : Int32)) hx hb dX12_priceOf_37 (by decide) ?_
            refine lv_goto (tgt := 42) hx hb dX12_priceOf_38 (by decide) ?_
            exact W.iret (v := (1 : Int32)) hx hb hr (fun t ht hW => ⟨_, rfl, Option.some.inj hf, ht⟩) (fun _ h => nomatch h) dX12_priceOf_42
      · replace hf := wb_t hc hf
        refine lv_iconst (v := (4 : Int32)) hx hb dX12_priceOf_19 (by decide) ?_
        exact W.iret (v := (4 : Int32)) hx hb hr (fun t ht hW => ⟨_, rfl, Option.some.inj hf, ht⟩) (fun _ h => nomatch h) dX12_priceOf_20
    · replace hf := wb_t hc hf
      refine lv_iconst (v := (1 : Int32)) hx hb dX12_priceOf_12 (by decide) ?_
      exact W.iret (v := (1 : Int32)) hx hb hr (fun t ht hW => ⟨_, rfl, Option.some.inj hf, ht⟩) (fun _ h => nomatch h) dX12_priceOf_13
  · replace hf := wb_t hc hf
    refine lv_iconst (v := (0 : Int32)) hx hb dX12_priceOf_5 (by decide) ?_
    exact W.iret (v := (0 : Int32)) hx hb hr (fun t ht hW => ⟨_, rfl, Option.some.inj hf, ht⟩) (fun _ h => nomatch h) dX12_priceOf_6

set_option maxHeartbeats 4000000 in
set_option maxRecDepth 100000 in
theorem cn_X12_priceAll (l : Launch) (D : va_G) (cB cI cZ : ClassId) (N : Nat) (a0 : Nat → Nat) (I0 : Nat → Int32) (L0 : Int64) (M0 : Nat → Nat → Int32) (x1 : Int32) (x2 : Int32) (R : Int32) (hf : fX12_priceAll N I0 L0 M0 x1 x2 = some R) : Met l yX12_priceAll wsX12_priceAll ({ frames := 4, cells := 0, slots := 0, locals := 92 }) (va_Pc [.ref (a0 0), .int x1, .int x2] (wb_pre D [(cB, .byte), (cI, .int), (cZ, .boolean)] (wWX12 cB cI cZ a0 I0 L0 M0))) (vp_Si (fun r => r = R)) 0 0 (fun _ => False) := by
  refine Met.ofW (cc := cX12_priceAll) (maxL := 6) (ret := (some .int)) pn_X12 rfl ?_
  intro p e s m args below meth c s₁ B hml hv
  obtain ⟨rfl, hP, hK⟩ := hv
  have hx := B.exec
  have hb := B.bytes
  have hr := B.returns
  have hts := atoms_spec (ws := wsX12_priceAll) B.pre
  have hown : s.vm.findClass RX12 = some m.cls := (findClass_of_methodNamed B.named :)
  have hlocks := B.notSynchronized
  have hl := lv_entry ([.ref (a0 0), .int x1, .int x2]) (n := 6) (Nat.le_of_ble_eq_true rfl)
  rw [lg_entry_eq]
  generalize (lg_sl ([.ref (a0 0), .int x1, .int x2]) ++ List.replicate (6 - (lg_sl ([.ref (a0 0), .int x1, .int x2])).length) Slot.unset).toArray = ls at hl ⊢
  have hl : lv_has ls 6 [(0, .ref (a0 0)), (1, .int x1), (2, .int x2)] := hl
  unfold fX12_priceAll at hf
  refine lv_iconst (v := (0 : Int32)) hx hb dX12_priceAll_0 (by decide) ?_
  refine lv_istore_n (lv' := [(3, .int (0 : Int32)), (0, .ref (a0 0)), (1, .int x1), (2, .int x2)]) hx hb dX12_priceAll_1 rfl hl (by decide) rfl (fun ls hl => ?_)
  refine lv_iconst (v := (0 : Int32)) hx hb dX12_priceAll_2 (by decide) ?_
  refine lv_istore (lv' := [(4, .int (0 : Int32)), (3, .int (0 : Int32)), (0, .ref (a0 0)), (1, .int x1), (2, .int x2)]) hx hb dX12_priceAll_3 hl (by decide) rfl (fun ls hl => ?_)
  have Lh5 : ∀ (fu5 : Nat) (y5_3 : Int32) (y5_4 : Int32), ∀ (ls : Array Slot), lv_has ls 6 [(0, .ref (a0 0)), (1, .int x1), (2, .int x2), (3, .int y5_3), (4, .int y5_4)] → fX12_priceAll_L5 N I0 L0 M0 x1 x2 fu5 y5_3 y5_4 = some R → W p l e (headSpec wsX12_priceAll { frames := 4, cells := 0, slots := 0, locals := 92 }).room s m [.ref (a0 0), .int x1, .int x2].toArray below meth c s.heap [] 0 0 (MQ below (vp_Si (fun r => r = R)) [.ref (a0 0), .int x1, .int x2].toArray s 0 0 (fun _ => False)) (F0 m 5 ls []) := by
    intro fu5
    induction fu5 with
    | zero =>
      intro y5_3 y5_4 ls hl hf
      exact absurd hf (by rw [fX12_priceAll_L5.eq_1]; exact fun h => nomatch h)
    | succ fu5 ih5 =>
      intro y5_3 y5_4 ls hl hf
      rw [fX12_priceAll_L5.eq_2] at hf
      refine lv_iload hx hb dX12_priceAll_5 (lv_at hl 4 rfl) ?_
      refine lv_bipush (v := (20 : Int32)) hx hb dX12_priceAll_7 (by decide) ?_
      refine lv_icmp_ge (tgt := 69) hx hb dX12_priceAll_9 (by decide) (fun hc => ?_) (fun hc => ?_)
      · replace hf := wb_t hc hf
        refine lv_iload_n hx hb dX12_priceAll_69 rfl (lv_at hl 3 rfl) ?_
        exact W.iret (v := y5_3) hx hb hr (fun t ht hW => ⟨_, rfl, Option.some.inj hf, ht⟩) (fun _ h => nomatch h) dX12_priceAll_70
      · replace hf := wb_f hc hf
        refine lv_iconst (v := (0 : Int32)) hx hb dX12_priceAll_12 (by decide) ?_
        refine lv_istore (lv' := [(5, .int (0 : Int32)), (0, .ref (a0 0)), (1, .int x1), (2, .int x2), (3, .int y5_3), (4, .int y5_4)]) hx hb dX12_priceAll_13 hl (by decide) rfl (fun ls hl => ?_)
        have Lh15 : ∀ (fu15 : Nat) (y15_3 : Int32) (y15_5 : Int32), ∀ (ls : Array Slot), lv_has ls 6 [(0, .ref (a0 0)), (1, .int x1), (2, .int x2), (3, .int y15_3), (4, .int y5_4), (5, .int y15_5)] → fX12_priceAll_L15 N I0 L0 M0 x1 x2 y5_4 (fX12_priceAll_L5 N I0 L0 M0 x1 x2 fu5) fu15 y15_3 y15_5 = some R → W p l e (headSpec wsX12_priceAll { frames := 4, cells := 0, slots := 0, locals := 92 }).room s m [.ref (a0 0), .int x1, .int x2].toArray below meth c s.heap [] 0 0 (MQ below (vp_Si (fun r => r = R)) [.ref (a0 0), .int x1, .int x2].toArray s 0 0 (fun _ => False)) (F0 m 15 ls []) := by
          intro fu15
          induction fu15 with
          | zero =>
            intro y15_3 y15_5 ls hl hf
            exact absurd hf (by rw [fX12_priceAll_L15.eq_1]; exact fun h => nomatch h)
          | succ fu15 ih15 =>
            intro y15_3 y15_5 ls hl hf
            rw [fX12_priceAll_L15.eq_2] at hf
            refine lv_iload hx hb dX12_priceAll_15 (lv_at hl 5 rfl) ?_
            refine lv_bipush (v := (22 : Int32)) hx hb dX12_priceAll_17 (by decide) ?_
            refine lv_icmp_ge (tgt := 63) hx hb dX12_priceAll_19 (by decide) (fun hc => ?_) (fun hc => ?_)
            · replace hf := wb_t hc hf
              obtain ⟨v1, ev1, hf⟩ := wb_v hf
              refine lv_iinc (v := v1) (lv' := [(4, .int v1), (0, .ref (a0 0)), (1, .int x1), (2, .int x2), (3, .int y15_3), (5, .int y15_5)]) hx hb dX12_priceAll_63 hl (k := 4) rfl (by rw [ev1]; rfl) (by decide) rfl (fun ls hl => ?_)
              refine lv_goto (tgt := 5) hx hb dX12_priceAll_66 (by decide) ?_
              exact ih5 y15_3 v1 ls (lv_sub hl [1, 2, 3, 4, 0] rfl) hf
            · replace hf := wb_f hc hf
              refine lv_iload_n hx hb dX12_priceAll_22 rfl (lv_at hl 3 rfl) ?_
              refine lv_aload_n hx hb dX12_priceAll_23 rfl (lv_at hl 0 rfl) ?_
              refine lv_aload_n hx hb dX12_priceAll_24 rfl (lv_at hl 0 rfl) ?_
              refine lv_bipush (v := (20 : Int32)) hx hb dX12_priceAll_25 (by decide) ?_
              refine lv_iload_n hx hb dX12_priceAll_27 rfl (lv_at hl 1 rfl) ?_
              refine lv_imul hx hb dX12_priceAll_28 ?_
              refine lv_iload hx hb dX12_priceAll_29 (lv_at hl 4 rfl) ?_
              refine lv_iadd hx hb dX12_priceAll_31 ?_
              refine lv_iload hx hb dX12_priceAll_32 (lv_at hl 5 rfl) ?_
              obtain ⟨r2, hr2, hf⟩ := wb_b hf
              refine vp_callSi (W.runV (As := [.int (((20 : Int32) * x1) + y5_4), .int y15_5]) (rest := [.ref (a0 0), .int y15_3]) ⟨hx, hb, hml, hown, hts⟩ (cn_X12_at l D cB cI cZ N a0 I0 L0 M0 (((20 : Int32) * x1) + y5_4) y15_5 r2 hr2) (cwV 2 hts gX12_priceAll_X12_at rfl rfl rfl cdX12_at ⟨Nat.le_of_ble_eq_true rfl, Nat.le_of_ble_eq_true rfl⟩) (wb_preV hP hK (wr_12 hK hP (q0 := 0) rfl)) rfl rfl hl.1 rfl (lv_room (Nat.le_of_ble_eq_true rfl)) dX12_priceAll_34 ⟨Nat.le_of_ble_eq_true rfl, Nat.le_of_ble_eq_true rfl⟩) (fun r9 e9 => ?_)
              rw [e9]
              refine lv_aload_n hx hb dX12_priceAll_37 rfl (lv_at hl 0 rfl) ?_
              refine lv_bipush (v := (20 : Int32)) hx hb dX12_priceAll_38 (by decide) ?_
              refine lv_iload_n hx hb dX12_priceAll_40 rfl (lv_at hl 2 rfl) ?_
              refine lv_imul hx hb dX12_priceAll_41 ?_
              refine lv_iload hx hb dX12_priceAll_42 (lv_at hl 4 rfl) ?_
              refine lv_iadd hx hb dX12_priceAll_44 ?_
              refine lv_iload hx hb dX12_priceAll_45 (lv_at hl 5 rfl) ?_
              obtain ⟨r3, hr3, hf⟩ := wb_b hf
              refine vp_callSi (W.runV (As := [.int (((20 : Int32) * x2) + y5_4), .int y15_5]) (rest := [.int r2, .ref (a0 0), .int y15_3]) ⟨hx, hb, hml, hown, hts⟩ (cn_X12_at l D cB cI cZ N a0 I0 L0 M0 (((20 : Int32) * x2) + y5_4) y15_5 r3 hr3) (cwV 2 hts gX12_priceAll_X12_at rfl rfl rfl cdX12_at ⟨Nat.le_of_ble_eq_true rfl, Nat.le_of_ble_eq_true rfl⟩) (wb_preV hP hK (wr_12 hK hP (q0 := 0) rfl)) rfl rfl hl.1 rfl (lv_room (Nat.le_of_ble_eq_true rfl)) dX12_priceAll_47 ⟨Nat.le_of_ble_eq_true rfl, Nat.le_of_ble_eq_true rfl⟩) (fun r9 e9 => ?_)
              rw [e9]
              refine lv_iload hx hb dX12_priceAll_50 (lv_at hl 5 rfl) ?_
              obtain ⟨r4, hr4, hf⟩ := wb_b hf
              refine vp_callSi (W.runV (As := [.int r2, .int r3, .int y15_5]) (rest := [.int y15_3]) ⟨hx, hb, hml, hown, hts⟩ (cn_X12_priceOf l D cB cI cZ N a0 I0 L0 M0 r2 r3 y15_5 r4 hr4) (cwV 3 hts gX12_priceAll_X12_priceOf rfl rfl rfl cdX12_priceOf ⟨Nat.le_of_ble_eq_true rfl, Nat.le_of_ble_eq_true rfl⟩) (wb_preV hP hK (wr_12 hK hP (q0 := 0) rfl)) rfl rfl hl.1 rfl (lv_room (Nat.le_of_ble_eq_true rfl)) dX12_priceAll_52 ⟨Nat.le_of_ble_eq_true rfl, Nat.le_of_ble_eq_true rfl⟩) (fun r9 e9 => ?_)
              rw [e9]
              refine lv_iadd hx hb dX12_priceAll_55 ?_
              obtain ⟨v5, ev5, hf⟩ := wb_v hf
              refine wb_topi ev5 ?_
              refine lv_istore_n (lv' := [(3, .int v5), (0, .ref (a0 0)), (1, .int x1), (2, .int x2), (4, .int y5_4), (5, .int y15_5)]) hx hb dX12_priceAll_56 rfl hl (by decide) rfl (fun ls hl => ?_)
              obtain ⟨v6, ev6, hf⟩ := wb_v hf
              refine lv_iinc (v := v6) (lv' := [(5, .int v6), (3, .int v5), (0, .ref (a0 0)), (1, .int x1), (2, .int x2), (4, .int y5_4)]) hx hb dX12_priceAll_57 hl (k := 5) rfl (by rw [ev6]; rfl) (by decide) rfl (fun ls hl => ?_)
              refine lv_goto (tgt := 15) hx hb dX12_priceAll_60 (by decide) ?_
              exact ih15 v5 v6 ls (lv_sub hl [2, 3, 4, 1, 5, 0] rfl) hf
        exact Lh15 N y5_3 (0 : Int32) ls (lv_sub hl [1, 2, 3, 4, 5, 0] rfl) hf
  exact Lh5 N (0 : Int32) (0 : Int32) ls (lv_sub hl [2, 3, 4, 1, 0] rfl) hf

set_option maxHeartbeats 4000000 in
set_option maxRecDepth 100000 in
theorem cn_X12_price (l : Launch) (D : va_G) (cB cI cZ : ClassId) (N : Nat) (a0 : Nat → Nat) (I0 : Nat → Int32) (L0 : Int64) (M0 : Nat → Nat → Int32) (x1 : Int32) (x2 : Int32) (sz : Nat) (R : Int32 × (Nat → Int32) × Int64 × (Nat → Nat → Int32)) (hf : fX12_price N I0 L0 M0 x1 x2 = some R) : Met l yX12_price wsX12_price ({ frames := 5, cells := 0, slots := 0, locals := 117 }) (va_Pc [.ref (a0 0), .int x1, .int x2] (wb_preD D [(cB, .byte), (cI, .int), (cZ, .boolean)] (wWX12 cB cI cZ a0 I0 L0 M0) sz)) (va_Qi (fun r (_ : Unit) => r = R.1) (fun _ t => wb_post D [(cB, .byte), (cI, .int), (cZ, .boolean)] (va_A (wWX12 cB cI cZ a0 I0 L0 M0) sz) (wWX12 cB cI cZ a0 R.2.1 R.2.2.1 R.2.2.2) t) (va_A (wWX12 cB cI cZ a0 I0 L0 M0) sz)) 0 0 (va_A (wWX12 cB cI cZ a0 I0 L0 M0) sz) := by
  refine Met.ofW (cc := cX12_price) (maxL := 3) (ret := (some .int)) pn_X12 rfl ?_
  intro p e s m args below meth c s₁ B hml hv
  obtain ⟨rfl, hsz, hP, hK, hD0⟩ := hv
  have hx := B.exec
  have hb := B.bytes
  have hr := B.returns
  have hts := atoms_spec (ws := wsX12_price) B.pre
  have hown : s.vm.findClass RX12 = some m.cls := (findClass_of_methodNamed B.named :)
  have hlocks := B.notSynchronized
  have hinX12 : ∀ w ∈ u_ws RX12 TX12 58, w ∈ wsX12_price := fun w h => List.mem_cons_of_mem _ (List.mem_append_right _ h)
  subst hsz
  have hD := hD0.self (sz := s.heap.size)
  generalize hAe : va_A (wWX12 cB cI cZ a0 I0 L0 M0) s.heap.size = A at hD ⊢
  have hA : ∀ q : Nat, s.heap.size ≤ q → A q := fun q h => by rw [← hAe]; exact Or.inr h
  have hS : va_S A s.heap s.heap [] := va_S.rf
  have hl := lv_entry ([.ref (a0 0), .int x1, .int x2]) (n := 3) (Nat.le_of_ble_eq_true rfl)
  rw [lg_entry_eq]
  generalize (lg_sl ([.ref (a0 0), .int x1, .int x2]) ++ List.replicate (3 - (lg_sl ([.ref (a0 0), .int x1, .int x2])).length) Slot.unset).toArray = ls at hl ⊢
  have hl : lv_has ls 3 [(0, .ref (a0 0)), (1, .int x1), (2, .int x2)] := hl
  unfold fX12_price at hf
  obtain ⟨H, hHe⟩ : ∃ H : Heap, H = s.heap := ⟨_, rfl⟩
  obtain ⟨locs, hle⟩ : ∃ locs : List Loc, locs = [] := ⟨_, rfl⟩
  refine wb_start (H := H) (locs := locs) hHe hle ?_
  rw [← hHe] at hP
  have hS : va_S A s.heap H locs := by rw [hHe, hle]; exact va_S.rf
  refine lv_aload_n hx hb dX12_price_0 rfl (lv_at hl 0 rfl) ?_
  refine lv_iconst (v := (0 : Int32)) hx hb dX12_price_1 (by decide) ?_
  refine va_put (D := D) (ci := 12) (v := .int (0 : Int32)) (ty := .int) (C := RX12) (T := TX12) (N := 58) hx hb hts hinX12 tyX12 tyX12_ok nmX12 hown hK hP hD hS 0 rfl rfl 0 (by decide) (hts (.fieldLink RX12 129 "WheelBookModel" "thrown" "I") (List.mem_of_getElem? (i := 1) rfl)) (fun _ h9 => h9) rfl (by decide +kernel) rfl rfl (Nat.le_of_ble_eq_true rfl) dX12_price_2 (fun H locs hP hD hS => ?_)
  have hP : va_P D vwCl (wWX12 cB cI cZ a0 (upd I0 0 (0 : Int32)) L0 M0) H := hP
  have hD : va_D A (wWX12 cB cI cZ a0 (upd I0 0 (0 : Int32)) L0 M0) := hD
  obtain ⟨I0_1, eI0_1, hf⟩ := wb_v hf
  rw [← eI0_1] at hP hD
  refine lv_aload_n hx hb dX12_price_5 rfl (lv_at hl 0 rfl) ?_
  refine lv_iload_n hx hb dX12_price_6 rfl (lv_at hl 1 rfl) ?_
  obtain ⟨r2, hr2, hf⟩ := wb_b hf
  have hPc := hP
  have hDc := hD
  have hFc := wj_F hDc hS hA
  refine va_calli (va_runV (As := [.int x1]) (rest := []) ⟨hx, hb, hml, hown, hts⟩ (cn_X12_isBook l D cB cI cZ N a0 I0_1 L0 M0 x1 H.size r2 hr2) (cwV 1 hts gX12_price_X12_isBook rfl rfl rfl cdX12_isBook ⟨Nat.le_of_ble_eq_true rfl, Nat.le_of_ble_eq_true rfl⟩) (wb_preDV hPc hK hDc (wr_12 hK hP (q0 := 0) rfl)) rfl rfl hl.1 rfl (lv_room (Nat.le_of_ble_eq_true rfl)) dX12_price_7 ⟨Nat.le_of_ble_eq_true rfl, Nat.le_of_ble_eq_true rfl⟩) hS (fun q _ h => hFc q h) hFc (fun r9 u t H locs ht hvm hw hB hz1 hk1 hS => ?_)
  obtain ⟨hP, hD⟩ := wj_0 hFc ht hB
  rw [hw]
  refine lv_if_eq (tgt := 21) hx hb dX12_price_10 (by decide) (fun hc => ?_) (fun hc => ?_)
  · replace hf := wb_t hc hf
    refine lv_iconst (v := (0 : Int32)) hx hb dX12_price_21 (by decide) ?_
    exact W.iret (v := (0 : Int32)) hx hb hr (fun t ht hW => by rw [← Option.some.inj hf]; exact ⟨⟨(0 : Int32), (), rfl, rfl, by rw [ht]; exact hP, va_K.moved hW.alike hK, hD⟩, hS.F ht⟩) hS.2.2 dX12_price_22
  · replace hf := wb_f hc hf
    refine lv_aload_n hx hb dX12_price_13 rfl (lv_at hl 0 rfl) ?_
    refine lv_iload_n hx hb dX12_price_14 rfl (lv_at hl 2 rfl) ?_
    obtain ⟨r3, hr3, hf⟩ := wb_b hf
    have hPc := hP
    have hDc := hD
    have hFc := wj_F hDc hS hA
    refine va_calli (va_runV (As := [.int x2]) (rest := []) ⟨hx, hb, hml, hown, hts⟩ (cn_X12_isBook l D cB cI cZ N a0 r2.2.1 r2.2.2.1 r2.2.2.2 x2 H.size r3 hr3) (cwV 1 hts gX12_price_X12_isBook rfl rfl rfl cdX12_isBook ⟨Nat.le_of_ble_eq_true rfl, Nat.le_of_ble_eq_true rfl⟩) (wb_preDV hPc hK hDc (wr_12 hK hP (q0 := 0) rfl)) rfl rfl hl.1 rfl (lv_room (Nat.le_of_ble_eq_true rfl)) dX12_price_15 ⟨Nat.le_of_ble_eq_true rfl, Nat.le_of_ble_eq_true rfl⟩) hS (fun q _ h => hFc q h) hFc (fun r9 u t H locs ht hvm hw hB hz1 hk1 hS => ?_)
    obtain ⟨hP, hD⟩ := wj_0 hFc ht hB
    rw [hw]
    refine lv_if_ne (tgt := 23) hx hb dX12_price_18 (by decide) (fun hc => ?_) (fun hc => ?_)
    · replace hf := wb_f hc hf
      refine lv_aload_n hx hb dX12_price_23 rfl (lv_at hl 0 rfl) ?_
      refine lv_iload_n hx hb dX12_price_24 rfl (lv_at hl 1 rfl) ?_
      refine lv_iload_n hx hb dX12_price_25 rfl (lv_at hl 2 rfl) ?_
      obtain ⟨r4, hr4, hf⟩ := wb_b hf
      refine vp_callSi (W.runV (As := [.int x1, .int x2]) (rest := []) ⟨hx, hb, hml, hown, hts⟩ (cn_X12_priceAll l D cB cI cZ N a0 r3.2.1 r3.2.2.1 r3.2.2.2 x1 x2 r4 hr4) (cwV 2 hts gX12_price_X12_priceAll rfl rfl rfl cdX12_priceAll ⟨Nat.le_of_ble_eq_true rfl, Nat.le_of_ble_eq_true rfl⟩) (wb_preV hP hK (wr_12 hK hP (q0 := 0) rfl)) rfl rfl hl.1 rfl (lv_room (Nat.le_of_ble_eq_true rfl)) dX12_price_26 ⟨Nat.le_of_ble_eq_true rfl, Nat.le_of_ble_eq_true rfl⟩) (fun r9 e9 => ?_)
      rw [e9]
      exact W.iret (v := r4) hx hb hr (fun t ht hW => by rw [← Option.some.inj hf]; exact ⟨⟨r4, (), rfl, rfl, by rw [ht]; exact hP, va_K.moved hW.alike hK, hD⟩, hS.F ht⟩) hS.2.2 dX12_price_29
    · replace hf := wb_t hc hf
      refine lv_iconst (v := (0 : Int32)) hx hb dX12_price_21 (by decide) ?_
      exact W.iret (v := (0 : Int32)) hx hb hr (fun t ht hW => by rw [← Option.some.inj hf]; exact ⟨⟨(0 : Int32), (), rfl, rfl, by rw [ht]; exact hP, va_K.moved hW.alike hK, hD⟩, hS.F ht⟩) hS.2.2 dX12_price_22

set_option maxHeartbeats 4000000 in
set_option maxRecDepth 100000 in
theorem cn_X12_isTree (l : Launch) (D : va_G) (cB cI cZ : ClassId) (N : Nat) (a0 : Nat → Nat) (I0 : Nat → Int32) (L0 : Int64) (M0 : Nat → Nat → Int32) (R : Int32) (hf : fX12_isTree N I0 L0 M0 = some R) : Met l yX12_isTree wsX12_isTree ({ frames := 0, cells := 0, slots := 0, locals := 0 }) (va_Pc [.ref (a0 0)] (wb_pre D [(cB, .byte), (cI, .int), (cZ, .boolean)] (wWX12 cB cI cZ a0 I0 L0 M0))) (vp_Si (fun r => r = R)) 0 0 (fun _ => False) := by
  refine Met.ofW (cc := cX12_isTree) (maxL := 5) (ret := (some .boolean)) pn_X12 rfl ?_
  intro p e s m args below meth c s₁ B hml hv
  obtain ⟨rfl, hP, hK⟩ := hv
  have hx := B.exec
  have hb := B.bytes
  have hr := B.returns
  have hts := atoms_spec (ws := wsX12_isTree) B.pre
  have hown : s.vm.findClass RX12 = some m.cls := (findClass_of_methodNamed B.named :)
  have hlocks := B.notSynchronized
  have hinX12 : ∀ w ∈ u_ws RX12 TX12 58, w ∈ wsX12_isTree := fun w h => List.mem_cons_of_mem _ (List.mem_append_right _ h)
  have hl := lv_entry ([.ref (a0 0)]) (n := 5) (Nat.le_of_ble_eq_true rfl)
  rw [lg_entry_eq]
  generalize (lg_sl ([.ref (a0 0)]) ++ List.replicate (5 - (lg_sl ([.ref (a0 0)])).length) Slot.unset).toArray = ls at hl ⊢
  have hl : lv_has ls 5 [(0, .ref (a0 0))] := hl
  unfold fX12_isTree at hf
  refine lv_iconst (v := (0 : Int32)) hx hb dX12_isTree_0 (by decide) ?_
  refine lv_istore_n (lv' := [(1, .int (0 : Int32)), (0, .ref (a0 0))]) hx hb dX12_isTree_1 rfl hl (by decide) rfl (fun ls hl => ?_)
  refine lv_iconst (v := (0 : Int32)) hx hb dX12_isTree_2 (by decide) ?_
  refine lv_istore_n (lv' := [(2, .int (0 : Int32)), (1, .int (0 : Int32)), (0, .ref (a0 0))]) hx hb dX12_isTree_3 rfl hl (by decide) rfl (fun ls hl => ?_)
  have Lh4 : ∀ (fu4 : Nat) (y4_1 : Int32) (y4_2 : Int32), ∀ (ls : Array Slot), lv_has ls 5 [(0, .ref (a0 0)), (1, .int y4_1), (2, .int y4_2)] → fX12_isTree_L4 N I0 L0 M0 fu4 y4_1 y4_2 = some R → W p l e (headSpec wsX12_isTree { frames := 0, cells := 0, slots := 0, locals := 0 }).room s m [.ref (a0 0)].toArray below meth c s.heap [] 0 0 (MQ below (vp_Si (fun r => r = R)) [.ref (a0 0)].toArray s 0 0 (fun _ => False)) (F0 m 4 ls []) := by
    intro fu4
    induction fu4 with
    | zero =>
      intro y4_1 y4_2 ls hl hf
      exact absurd hf (by rw [fX12_isTree_L4.eq_1]; exact fun h => nomatch h)
    | succ fu4 ih4 =>
      have J114 : ∀ (y114_1 : Int32) (y114_2 : Int32) (y114_3 : Int32), ∀ (ls : Array Slot), lv_has ls 5 [(0, .ref (a0 0)), (1, .int y114_1), (2, .int y114_2), (3, .int y114_3)] → fX12_isTree_J114 N I0 L0 M0 (fX12_isTree_L4 N I0 L0 M0 fu4) y114_1 y114_2 y114_3 = some R → W p l e (headSpec wsX12_isTree { frames := 0, cells := 0, slots := 0, locals := 0 }).room s m [.ref (a0 0)].toArray below meth c s.heap [] 0 0 (MQ below (vp_Si (fun r => r = R)) [.ref (a0 0)].toArray s 0 0 (fun _ => False)) (F0 m 114 ls []) := by
        intro y114_1 y114_2 y114_3 ls hl hf
        unfold fX12_isTree_J114 at hf
        refine lv_aload_n hx hb dX12_isTree_114 rfl (lv_at hl 0 rfl) ?_
        refine va_get (D := D) (ci := 12) (v := .ref (a0 25)) (C := RX12) (T := TX12) (N := 58) hx hb hts hinX12 hown hK hP 0 rfl rfl 44 (by decide) (hts (.fieldLink RX12 89 "WheelBookModel" "row" "[I") (List.mem_of_getElem? (i := 2) rfl)) (fun _ h9 => h9) rfl dX12_isTree_115 ?_
        refine lv_iload_n hx hb dX12_isTree_118 rfl (lv_at hl 3 rfl) ?_
        obtain ⟨hin, hf⟩ := wb_n hf
        refine va_iald hx hb hK hP 25 1 rfl rfl hin dX12_isTree_119 ?_
        refine lv_iconst (v := (-1 : Int32)) hx hb dX12_isTree_120 (by decide) ?_
        refine lv_icmp_eq (tgt := 126) hx hb dX12_isTree_121 (by decide) (fun hc => ?_) (fun hc => ?_)
        · replace hf := wb_t hc hf
          obtain ⟨v1, ev1, hf⟩ := wb_v hf
          refine lv_iinc (v := v1) (lv' := [(2, .int v1), (0, .ref (a0 0)), (1, .int y114_1), (3, .int y114_3)]) hx hb dX12_isTree_126 hl (k := 2) rfl (by rw [ev1]; rfl) (by decide) rfl (fun ls hl => ?_)
          refine lv_goto (tgt := 4) hx hb dX12_isTree_129 (by decide) ?_
          exact ih4 y114_1 v1 ls (lv_sub hl [1, 2, 0] rfl) hf
        · replace hf := wb_f hc hf
          refine lv_iconst (v := (0 : Int32)) hx hb dX12_isTree_124 (by decide) ?_
          exact W.zret (v := (0 : Int32)) hx hb hr (by decide) (fun t ht hW => ⟨_, rfl, Option.some.inj hf, ht⟩) (fun _ h => nomatch h) dX12_isTree_125
      have J71 : ∀ (y71_1 : Int32) (y71_2 : Int32), ∀ (ls : Array Slot), lv_has ls 5 [(0, .ref (a0 0)), (1, .int y71_1), (2, .int y71_2)] → fX12_isTree_J71 N I0 L0 M0 (fX12_isTree_L4 N I0 L0 M0 fu4) y71_1 y71_2 = some R → W p l e (headSpec wsX12_isTree { frames := 0, cells := 0, slots := 0, locals := 0 }).room s m [.ref (a0 0)].toArray below meth c s.heap [] 0 0 (MQ below (vp_Si (fun r => r = R)) [.ref (a0 0)].toArray s 0 0 (fun _ => False)) (F0 m 71 ls []) := by
        intro y71_1 y71_2 ls hl hf
        unfold fX12_isTree_J71 at hf
        refine lv_iload_n hx hb dX12_isTree_71 rfl (lv_at hl 2 rfl) ?_
        refine lv_istore_n (lv' := [(3, .int y71_2), (0, .ref (a0 0)), (1, .int y71_1), (2, .int y71_2)]) hx hb dX12_isTree_72 rfl hl (by decide) rfl (fun ls hl => ?_)
        refine lv_iconst (v := (0 : Int32)) hx hb dX12_isTree_73 (by decide) ?_
        refine lv_istore (lv' := [(4, .int (0 : Int32)), (3, .int y71_2), (0, .ref (a0 0)), (1, .int y71_1), (2, .int y71_2)]) hx hb dX12_isTree_74 hl (by decide) rfl (fun ls hl => ?_)
        have Lh76 : ∀ (fu76 : Nat) (y76_3 : Int32) (y76_4 : Int32), ∀ (ls : Array Slot), lv_has ls 5 [(0, .ref (a0 0)), (1, .int y71_1), (2, .int y71_2), (3, .int y76_3), (4, .int y76_4)] → fX12_isTree_L76 N I0 L0 M0 y71_1 y71_2 (fX12_isTree_L4 N I0 L0 M0 fu4) fu76 y76_3 y76_4 = some R → W p l e (headSpec wsX12_isTree { frames := 0, cells := 0, slots := 0, locals := 0 }).room s m [.ref (a0 0)].toArray below meth c s.heap [] 0 0 (MQ below (vp_Si (fun r => r = R)) [.ref (a0 0)].toArray s 0 0 (fun _ => False)) (F0 m 76 ls []) := by
          intro fu76
          induction fu76 with
          | zero =>
            intro y76_3 y76_4 ls hl hf
            exact absurd hf (by rw [fX12_isTree_L76.eq_1]; exact fun h => nomatch h)
          | succ fu76 ih76 =>
            intro y76_3 y76_4 ls hl hf
            rw [fX12_isTree_L76.eq_2] at hf
            refine lv_aload_n hx hb dX12_isTree_76 rfl (lv_at hl 0 rfl) ?_
            refine va_get (D := D) (ci := 12) (v := .ref (a0 25)) (C := RX12) (T := TX12) (N := 58) hx hb hts hinX12 hown hK hP 0 rfl rfl 44 (by decide) (hts (.fieldLink RX12 89 "WheelBookModel" "row" "[I") (List.mem_of_getElem? (i := 2) rfl)) (fun _ h9 => h9) rfl dX12_isTree_77 ?_
            refine lv_iload_n hx hb dX12_isTree_80 rfl (lv_at hl 3 rfl) ?_
            obtain ⟨hin, hf⟩ := wb_n hf
            refine va_iald hx hb hK hP 25 1 rfl rfl hin dX12_isTree_81 ?_
            refine lv_iconst (v := (-1 : Int32)) hx hb dX12_isTree_82 (by decide) ?_
            refine lv_icmp_eq (tgt := 114) hx hb dX12_isTree_83 (by decide) (fun hc => ?_) (fun hc => ?_)
            · replace hf := wb_t hc hf
              exact J114 y71_1 y71_2 y76_3 ls (lv_sub hl [0, 1, 2, 3] rfl) hf
            · replace hf := wb_f hc hf
              refine lv_iload hx hb dX12_isTree_86 (lv_at hl 4 rfl) ?_
              refine lv_bipush (v := (6 : Int32)) hx hb dX12_isTree_88 (by decide) ?_
              refine lv_icmp_ge (tgt := 114) hx hb dX12_isTree_90 (by decide) (fun hc => ?_) (fun hc => ?_)
              · replace hf := wb_t hc hf
                exact J114 y71_1 y71_2 y76_3 ls (lv_sub hl [0, 1, 2, 3] rfl) hf
              · replace hf := wb_f hc hf
                refine lv_aload_n hx hb dX12_isTree_93 rfl (lv_at hl 0 rfl) ?_
                refine va_get (D := D) (ci := 12) (v := .ref (a0 25)) (C := RX12) (T := TX12) (N := 58) hx hb hts hinX12 hown hK hP 0 rfl rfl 44 (by decide) (hts (.fieldLink RX12 89 "WheelBookModel" "row" "[I") (List.mem_of_getElem? (i := 2) rfl)) (fun _ h9 => h9) rfl dX12_isTree_94 ?_
                refine lv_iload_n hx hb dX12_isTree_97 rfl (lv_at hl 3 rfl) ?_
                obtain ⟨hin, hf⟩ := wb_n hf
                refine va_iald hx hb hK hP 25 1 rfl rfl hin dX12_isTree_98 ?_
                obtain ⟨v2, ev2, hf⟩ := wb_v hf
                refine wb_topi ev2 ?_
                refine lv_istore_n (lv' := [(3, .int v2), (0, .ref (a0 0)), (1, .int y71_1), (2, .int y71_2), (4, .int y76_4)]) hx hb dX12_isTree_99 rfl hl (by decide) rfl (fun ls hl => ?_)
                obtain ⟨v3, ev3, hf⟩ := wb_v hf
                refine lv_iinc (v := v3) (lv' := [(4, .int v3), (3, .int v2), (0, .ref (a0 0)), (1, .int y71_1), (2, .int y71_2)]) hx hb dX12_isTree_100 hl (k := 4) rfl (by rw [ev3]; rfl) (by decide) rfl (fun ls hl => ?_)
                refine lv_aload_n hx hb dX12_isTree_103 rfl (lv_at hl 2 rfl) ?_
                refine va_get (D := D) (ci := 12) (v := .ref (a0 27)) (C := RX12) (T := TX12) (N := 58) hx hb hts hinX12 hown hK hP 0 rfl rfl 46 (by decide) (hts (.fieldLink RX12 95 "WheelBookModel" "inTree" "[Z") (List.mem_of_getElem? (i := 1) rfl)) (fun _ h9 => h9) rfl dX12_isTree_104 ?_
                refine lv_iload_n hx hb dX12_isTree_107 rfl (lv_at hl 1 rfl) ?_
                obtain ⟨hin, hf⟩ := wb_n hf
                refine va_zald hx hb hK hP 27 2 rfl rfl hin dX12_isTree_108 ?_
                refine lv_if_ne (tgt := 76) hx hb dX12_isTree_109 (by decide) (fun hc => ?_) (fun hc => ?_)
                · replace hf := wb_f hc hf
                  exact ih76 v2 v3 ls (lv_sub hl [2, 3, 4, 1, 0] rfl) hf
                · replace hf := wb_t hc hf
                  refine lv_iconst (v := (0 : Int32)) hx hb dX12_isTree_112 (by decide) ?_
                  exact W.zret (v := (0 : Int32)) hx hb hr (by decide) (fun t ht hW => ⟨_, rfl, Option.some.inj hf, ht⟩) (fun _ h => nomatch h) dX12_isTree_113
        exact Lh76 N y71_2 (0 : Int32) ls (lv_sub hl [2, 3, 4, 1, 0] rfl) hf
      have J35 : ∀ (y35_1 : Int32) (y35_2 : Int32), ∀ (ls : Array Slot), lv_has ls 5 [(0, .ref (a0 0)), (1, .int y35_1), (2, .int y35_2)] → fX12_isTree_J35 N I0 L0 M0 (fX12_isTree_L4 N I0 L0 M0 fu4) y35_1 y35_2 = some R → W p l e (headSpec wsX12_isTree { frames := 0, cells := 0, slots := 0, locals := 0 }).room s m [.ref (a0 0)].toArray below meth c s.heap [] 0 0 (MQ below (vp_Si (fun r => r = R)) [.ref (a0 0)].toArray s 0 0 (fun _ => False)) (F0 m 35 ls []) := by
        intro y35_1 y35_2 ls hl hf
        unfold fX12_isTree_J35 at hf
        refine lv_aload_n hx hb dX12_isTree_35 rfl (lv_at hl 0 rfl) ?_
        refine va_get (D := D) (ci := 12) (v := .ref (a0 25)) (C := RX12) (T := TX12) (N := 58) hx hb hts hinX12 hown hK hP 0 rfl rfl 44 (by decide) (hts (.fieldLink RX12 89 "WheelBookModel" "row" "[I") (List.mem_of_getElem? (i := 2) rfl)) (fun _ h9 => h9) rfl dX12_isTree_36 ?_
        refine lv_iload_n hx hb dX12_isTree_39 rfl (lv_at hl 2 rfl) ?_
        obtain ⟨hin, hf⟩ := wb_n hf
        refine va_iald hx hb hK hP 25 1 rfl rfl hin dX12_isTree_40 ?_
        refine lv_iconst (v := (-1 : Int32)) hx hb dX12_isTree_41 (by decide) ?_
        refine lv_icmp_eq (tgt := 71) hx hb dX12_isTree_42 (by decide) (fun hc => ?_) (fun hc => ?_)
        · replace hf := wb_t hc hf
          exact J71 y35_1 y35_2 ls (lv_sub hl [0, 1, 2] rfl) hf
        · replace hf := wb_f hc hf
          refine lv_aload_n hx hb dX12_isTree_45 rfl (lv_at hl 0 rfl) ?_
          refine va_get (D := D) (ci := 12) (v := .ref (a0 27)) (C := RX12) (T := TX12) (N := 58) hx hb hts hinX12 hown hK hP 0 rfl rfl 46 (by decide) (hts (.fieldLink RX12 95 "WheelBookModel" "inTree" "[Z") (List.mem_of_getElem? (i := 1) rfl)) (fun _ h9 => h9) rfl dX12_isTree_46 ?_
          refine lv_aload_n hx hb dX12_isTree_49 rfl (lv_at hl 0 rfl) ?_
          refine va_get (D := D) (ci := 12) (v := .ref (a0 25)) (C := RX12) (T := TX12) (N := 58) hx hb hts hinX12 hown hK hP 0 rfl rfl 44 (by decide) (hts (.fieldLink RX12 89 "WheelBookModel" "row" "[I") (List.mem_of_getElem? (i := 2) rfl)) (fun _ h9 => h9) rfl dX12_isTree_50 ?_
          refine lv_iload_n hx hb dX12_isTree_53 rfl (lv_at hl 2 rfl) ?_
          obtain ⟨hin, hf⟩ := wb_n hf
          refine va_iald hx hb hK hP 25 1 rfl rfl hin dX12_isTree_54 ?_
          obtain ⟨hin, hf⟩ := wb_n hf
          refine va_zald hx hb hK hP 27 2 rfl rfl hin dX12_isTree_55 ?_
          refine lv_if_eq (tgt := 69) hx hb dX12_isTree_56 (by decide) (fun hc => ?_) (fun hc => ?_)
          · replace hf := wb_t hc hf
            refine lv_iconst (v := (0 : Int32)) hx hb dX12_isTree_69 (by decide) ?_
            exact W.zret (v := (0 : Int32)) hx hb hr (by decide) (fun t ht hW => ⟨_, rfl, Option.some.inj hf, ht⟩) (fun _ h => nomatch h) dX12_isTree_70
          · replace hf := wb_f hc hf
            refine lv_aload_n hx hb dX12_isTree_59 rfl (lv_at hl 0 rfl) ?_
            refine va_get (D := D) (ci := 12) (v := .ref (a0 25)) (C := RX12) (T := TX12) (N := 58) hx hb hts hinX12 hown hK hP 0 rfl rfl 44 (by decide) (hts (.fieldLink RX12 89 "WheelBookModel" "row" "[I") (List.mem_of_getElem? (i := 2) rfl)) (fun _ h9 => h9) rfl dX12_isTree_60 ?_
            refine lv_iload_n hx hb dX12_isTree_63 rfl (lv_at hl 2 rfl) ?_
            obtain ⟨hin, hf⟩ := wb_n hf
            refine va_iald hx hb hK hP 25 1 rfl rfl hin dX12_isTree_64 ?_
            refine lv_iload_n hx hb dX12_isTree_65 rfl (lv_at hl 2 rfl) ?_
            refine lv_icmp_ne (tgt := 71) hx hb dX12_isTree_66 (by decide) (fun hc => ?_) (fun hc => ?_)
            · replace hf := wb_f hc hf
              exact J71 y35_1 y35_2 ls (lv_sub hl [0, 1, 2] rfl) hf
            · replace hf := wb_t hc hf
              refine lv_iconst (v := (0 : Int32)) hx hb dX12_isTree_69 (by decide) ?_
              exact W.zret (v := (0 : Int32)) hx hb hr (by decide) (fun t ht hW => ⟨_, rfl, Option.some.inj hf, ht⟩) (fun _ h => nomatch h) dX12_isTree_70
      intro y4_1 y4_2 ls hl hf
      rw [fX12_isTree_L4.eq_2] at hf
      refine lv_iload_n hx hb dX12_isTree_4 rfl (lv_at hl 2 rfl) ?_
      refine lv_bipush (v := (6 : Int32)) hx hb dX12_isTree_5 (by decide) ?_
      refine lv_icmp_ge (tgt := 132) hx hb dX12_isTree_7 (by decide) (fun hc => ?_) (fun hc => ?_)
      · replace hf := wb_t hc hf
        refine lv_iload_n hx hb dX12_isTree_132 rfl (lv_at hl 1 rfl) ?_
        refine lv_iconst (v := (1 : Int32)) hx hb dX12_isTree_133 (by decide) ?_
        refine lv_icmp_ne (tgt := 141) hx hb dX12_isTree_134 (by decide) (fun hc => ?_) (fun hc => ?_)
        · replace hf := wb_f hc hf
          refine lv_iconst (v := (0 : Int32)) hx hb dX12_isTree_141 (by decide) ?_
          exact W.zret (v := (0 : Int32)) hx hb hr (by decide) (fun t ht hW => ⟨_, rfl, Option.some.inj hf, ht⟩) (fun _ h => nomatch h) dX12_isTree_142
        · replace hf := wb_t hc hf
          refine lv_iconst (v := (1 : Int32)) hx hb dX12_isTree_137 (by decide) ?_
          refine lv_goto (tgt := 142) hx hb dX12_isTree_138 (by decide) ?_
          exact W.zret (v := (1 : Int32)) hx hb hr (by decide) (fun t ht hW => ⟨_, rfl, Option.some.inj hf, ht⟩) (fun _ h => nomatch h) dX12_isTree_142
      · replace hf := wb_f hc hf
        refine lv_aload_n hx hb dX12_isTree_10 rfl (lv_at hl 0 rfl) ?_
        refine va_get (D := D) (ci := 12) (v := .ref (a0 27)) (C := RX12) (T := TX12) (N := 58) hx hb hts hinX12 hown hK hP 0 rfl rfl 46 (by decide) (hts (.fieldLink RX12 95 "WheelBookModel" "inTree" "[Z") (List.mem_of_getElem? (i := 1) rfl)) (fun _ h9 => h9) rfl dX12_isTree_11 ?_
        refine lv_iload_n hx hb dX12_isTree_14 rfl (lv_at hl 2 rfl) ?_
        obtain ⟨hin, hf⟩ := wb_n hf
        refine va_zald hx hb hK hP 27 2 rfl rfl hin dX12_isTree_15 ?_
        refine lv_if_ne (tgt := 22) hx hb dX12_isTree_16 (by decide) (fun hc => ?_) (fun hc => ?_)
        · replace hf := wb_f hc hf
          refine lv_aload_n hx hb dX12_isTree_22 rfl (lv_at hl 0 rfl) ?_
          refine va_get (D := D) (ci := 12) (v := .ref (a0 25)) (C := RX12) (T := TX12) (N := 58) hx hb hts hinX12 hown hK hP 0 rfl rfl 44 (by decide) (hts (.fieldLink RX12 89 "WheelBookModel" "row" "[I") (List.mem_of_getElem? (i := 2) rfl)) (fun _ h9 => h9) rfl dX12_isTree_23 ?_
          refine lv_iload_n hx hb dX12_isTree_26 rfl (lv_at hl 2 rfl) ?_
          obtain ⟨hin, hf⟩ := wb_n hf
          refine va_iald hx hb hK hP 25 1 rfl rfl hin dX12_isTree_27 ?_
          refine lv_iconst (v := (-1 : Int32)) hx hb dX12_isTree_28 (by decide) ?_
          refine lv_icmp_ne (tgt := 35) hx hb dX12_isTree_29 (by decide) (fun hc => ?_) (fun hc => ?_)
          · replace hf := wb_f hc hf
            exact J35 y4_1 y4_2 ls (lv_sub hl [0, 1, 2] rfl) hf
          · replace hf := wb_t hc hf
            obtain ⟨v4, ev4, hf⟩ := wb_v hf
            refine lv_iinc (v := v4) (lv' := [(1, .int v4), (0, .ref (a0 0)), (2, .int y4_2)]) hx hb dX12_isTree_32 hl (k := 1) rfl (by rw [ev4]; rfl) (by decide) rfl (fun ls hl => ?_)
            exact J35 v4 y4_2 ls (lv_sub hl [1, 0, 2] rfl) hf
        · replace hf := wb_t hc hf
          refine lv_goto (tgt := 126) hx hb dX12_isTree_19 (by decide) ?_
          obtain ⟨v5, ev5, hf⟩ := wb_v hf
          refine lv_iinc (v := v5) (lv' := [(2, .int v5), (0, .ref (a0 0)), (1, .int y4_1)]) hx hb dX12_isTree_126 hl (k := 2) rfl (by rw [ev5]; rfl) (by decide) rfl (fun ls hl => ?_)
          refine lv_goto (tgt := 4) hx hb dX12_isTree_129 (by decide) ?_
          exact ih4 y4_1 v5 ls (lv_sub hl [1, 2, 0] rfl) hf
  exact Lh4 N (0 : Int32) (0 : Int32) ls (lv_sub hl [2, 1, 0] rfl) hf

set_option maxHeartbeats 4000000 in
set_option maxRecDepth 100000 in
theorem cn_X12_tree (l : Launch) (D : va_G) (cB cI cZ : ClassId) (N : Nat) (a0 : Nat → Nat) (I0 : Nat → Int32) (L0 : Int64) (M0 : Nat → Nat → Int32) (sz : Nat) (R : Int32 × (Nat → Int32) × Int64 × (Nat → Nat → Int32)) (hf : fX12_tree N I0 L0 M0 = some R) : Met l yX12_tree wsX12_tree ({ frames := 5, cells := 0, slots := 0, locals := 117 }) (va_Pc [.ref (a0 0)] (wb_preD D [(cB, .byte), (cI, .int), (cZ, .boolean)] (wWX12 cB cI cZ a0 I0 L0 M0) sz)) (va_Qi (fun r (_ : Unit) => r = R.1) (fun _ t => wb_post D [(cB, .byte), (cI, .int), (cZ, .boolean)] (va_A (wWX12 cB cI cZ a0 I0 L0 M0) sz) (wWX12 cB cI cZ a0 R.2.1 R.2.2.1 R.2.2.2) t) (va_A (wWX12 cB cI cZ a0 I0 L0 M0) sz)) 0 0 (va_A (wWX12 cB cI cZ a0 I0 L0 M0) sz) := by
  refine Met.ofW (cc := cX12_tree) (maxL := 9) (ret := (some .int)) pn_X12 rfl ?_
  intro p e s m args below meth c s₁ B hml hv
  obtain ⟨rfl, hsz, hP, hK, hD0⟩ := hv
  have hx := B.exec
  have hb := B.bytes
  have hr := B.returns
  have hts := atoms_spec (ws := wsX12_tree) B.pre
  have hown : s.vm.findClass RX12 = some m.cls := (findClass_of_methodNamed B.named :)
  have hlocks := B.notSynchronized
  have hinX12 : ∀ w ∈ u_ws RX12 TX12 58, w ∈ wsX12_tree := fun w h => List.mem_cons_of_mem _ (List.mem_append_right _ h)
  subst hsz
  have hD := hD0.self (sz := s.heap.size)
  generalize hAe : va_A (wWX12 cB cI cZ a0 I0 L0 M0) s.heap.size = A at hD ⊢
  have hA : ∀ q : Nat, s.heap.size ≤ q → A q := fun q h => by rw [← hAe]; exact Or.inr h
  have hS : va_S A s.heap s.heap [] := va_S.rf
  have hl := lv_entry ([.ref (a0 0)]) (n := 9) (Nat.le_of_ble_eq_true rfl)
  rw [lg_entry_eq]
  generalize (lg_sl ([.ref (a0 0)]) ++ List.replicate (9 - (lg_sl ([.ref (a0 0)])).length) Slot.unset).toArray = ls at hl ⊢
  have hl : lv_has ls 9 [(0, .ref (a0 0))] := hl
  unfold fX12_tree at hf
  obtain ⟨H, hHe⟩ : ∃ H : Heap, H = s.heap := ⟨_, rfl⟩
  obtain ⟨locs, hle⟩ : ∃ locs : List Loc, locs = [] := ⟨_, rfl⟩
  refine wb_start (H := H) (locs := locs) hHe hle ?_
  rw [← hHe] at hP
  have hS : va_S A s.heap H locs := by rw [hHe, hle]; exact va_S.rf
  refine lv_aload_n hx hb dX12_tree_0 rfl (lv_at hl 0 rfl) ?_
  refine lv_iconst (v := (0 : Int32)) hx hb dX12_tree_1 (by decide) ?_
  refine va_put (D := D) (ci := 12) (v := .int (0 : Int32)) (ty := .int) (C := RX12) (T := TX12) (N := 58) hx hb hts hinX12 tyX12 tyX12_ok nmX12 hown hK hP hD hS 0 rfl rfl 0 (by decide) (hts (.fieldLink RX12 129 "WheelBookModel" "thrown" "I") (List.mem_of_getElem? (i := 1) rfl)) (fun _ h9 => h9) rfl (by decide +kernel) rfl rfl (Nat.le_of_ble_eq_true rfl) dX12_tree_2 (fun H locs hP hD hS => ?_)
  have hP : va_P D vwCl (wWX12 cB cI cZ a0 (upd I0 0 (0 : Int32)) L0 M0) H := hP
  have hD : va_D A (wWX12 cB cI cZ a0 (upd I0 0 (0 : Int32)) L0 M0) := hD
  obtain ⟨I0_1, eI0_1, hf⟩ := wb_v hf
  rw [← eI0_1] at hP hD
  refine lv_iconst (v := (0 : Int32)) hx hb dX12_tree_5 (by decide) ?_
  refine lv_istore_n (lv' := [(1, .int (0 : Int32)), (0, .ref (a0 0))]) hx hb dX12_tree_6 rfl hl (by decide) rfl (fun ls hl => ?_)
  refine lv_iconst (v := (0 : Int32)) hx hb dX12_tree_7 (by decide) ?_
  refine lv_istore_n (lv' := [(2, .int (0 : Int32)), (1, .int (0 : Int32)), (0, .ref (a0 0))]) hx hb dX12_tree_8 rfl hl (by decide) rfl (fun ls hl => ?_)
  have Lh9 : ∀ (fu9 : Nat) (I0_l9 : Nat → Int32) (L0_l9 : Int64) (M0_l9 : Nat → Nat → Int32) (y9_1 : Int32) (y9_2 : Int32) (H : Heap) (locs : List Loc), va_P D vwCl (wWX12 cB cI cZ a0 I0_l9 L0_l9 M0_l9) H → va_D A (wWX12 cB cI cZ a0 I0_l9 L0_l9 M0_l9) → va_S A s.heap H locs → ∀ (ls : Array Slot), lv_has ls 9 [(0, .ref (a0 0)), (1, .int y9_1), (2, .int y9_2)] → fX12_tree_L9 N fu9 I0_l9 L0_l9 M0_l9 y9_1 y9_2 = some R → W p l e (headSpec wsX12_tree { frames := 5, cells := 0, slots := 0, locals := 117 }).room s m [.ref (a0 0)].toArray below meth c H locs 0 0 (MQ below (va_Qi (fun r (_ : Unit) => r = R.1) (fun _ t => wb_post D [(cB, .byte), (cI, .int), (cZ, .boolean)] A (wWX12 cB cI cZ a0 R.2.1 R.2.2.1 R.2.2.2) t) A) [.ref (a0 0)].toArray s 0 0 A) (F0 m 9 ls []) := by
    intro fu9
    induction fu9 with
    | zero =>
      intro I0_l9 L0_l9 M0_l9 y9_1 y9_2 H locs hP hD hS ls hl hf
      exact absurd hf (by rw [fX12_tree_L9.eq_1]; exact fun h => nomatch h)
    | succ fu9 ih9 =>
      intro I0_l9 L0_l9 M0_l9 y9_1 y9_2 H locs hP hD hS ls hl hf
      rw [fX12_tree_L9.eq_2] at hf
      refine lv_iload_n hx hb dX12_tree_9 rfl (lv_at hl 2 rfl) ?_
      refine lv_bipush (v := (6 : Int32)) hx hb dX12_tree_10 (by decide) ?_
      refine lv_icmp_ge (tgt := 49) hx hb dX12_tree_12 (by decide) (fun hc => ?_) (fun hc => ?_)
      · replace hf := wb_t hc hf
        refine lv_iload_n hx hb dX12_tree_49 rfl (lv_at hl 1 rfl) ?_
        refine lv_if_ne (tgt := 55) hx hb dX12_tree_50 (by decide) (fun hc => ?_) (fun hc => ?_)
        · replace hf := wb_f hc hf
          refine lv_iconst (v := (0 : Int32)) hx hb dX12_tree_55 (by decide) ?_
          refine lv_istore_n (lv' := [(2, .int (0 : Int32)), (0, .ref (a0 0)), (1, .int y9_1)]) hx hb dX12_tree_56 rfl hl (by decide) rfl (fun ls hl => ?_)
          have Lh57 : ∀ (fu57 : Nat) (I0_l57 : Nat → Int32) (L0_l57 : Int64) (M0_l57 : Nat → Nat → Int32) (y57_2 : Int32) (H : Heap) (locs : List Loc), va_P D vwCl (wWX12 cB cI cZ a0 I0_l57 L0_l57 M0_l57) H → va_D A (wWX12 cB cI cZ a0 I0_l57 L0_l57 M0_l57) → va_S A s.heap H locs → ∀ (ls : Array Slot), lv_has ls 9 [(0, .ref (a0 0)), (2, .int y57_2)] → fX12_tree_L57 N (fX12_tree_L9 N fu9) fu57 I0_l57 L0_l57 M0_l57 y57_2 = some R → W p l e (headSpec wsX12_tree { frames := 5, cells := 0, slots := 0, locals := 117 }).room s m [.ref (a0 0)].toArray below meth c H locs 0 0 (MQ below (va_Qi (fun r (_ : Unit) => r = R.1) (fun _ t => wb_post D [(cB, .byte), (cI, .int), (cZ, .boolean)] A (wWX12 cB cI cZ a0 R.2.1 R.2.2.1 R.2.2.2) t) A) [.ref (a0 0)].toArray s 0 0 A) (F0 m 57 ls []) := by
            intro fu57
            induction fu57 with
            | zero =>
              intro I0_l57 L0_l57 M0_l57 y57_2 H locs hP hD hS ls hl hf
              exact absurd hf (by rw [fX12_tree_L57.eq_1]; exact fun h => nomatch h)
            | succ fu57 ih57 =>
              intro I0_l57 L0_l57 M0_l57 y57_2 H locs hP hD hS ls hl hf
              rw [fX12_tree_L57.eq_2] at hf
              refine lv_iload_n hx hb dX12_tree_57 rfl (lv_at hl 1 rfl) ?_
              refine lv_bipush (v := (36 : Int32)) hx hb dX12_tree_58 (by decide) ?_
              refine lv_icmp_ge (tgt := 87) hx hb dX12_tree_60 (by decide) (fun hc => ?_) (fun hc => ?_)
              · replace hf := wb_t hc hf
                refine lv_iconst (v := (-1 : Int32)) hx hb dX12_tree_87 (by decide) ?_
                refine lv_istore_n (lv' := [(2, .int (-1 : Int32)), (0, .ref (a0 0))]) hx hb dX12_tree_88 rfl hl (by decide) rfl (fun ls hl => ?_)
                refine lv_iconst (v := (1 : Int32)) hx hb dX12_tree_89 (by decide) ?_
                refine lv_istore_n (lv' := [(3, .int (1 : Int32)), (2, .int (-1 : Int32)), (0, .ref (a0 0))]) hx hb dX12_tree_90 rfl hl (by decide) rfl (fun ls hl => ?_)
                refine lv_iconst (v := (0 : Int32)) hx hb dX12_tree_91 (by decide) ?_
                refine lv_istore (lv' := [(4, .int (0 : Int32)), (3, .int (1 : Int32)), (2, .int (-1 : Int32)), (0, .ref (a0 0))]) hx hb dX12_tree_92 hl (by decide) rfl (fun ls hl => ?_)
                have Lh94 : ∀ (fu94 : Nat) (I0_l94 : Nat → Int32) (L0_l94 : Int64) (M0_l94 : Nat → Nat → Int32) (y94_3 : Int32) (y94_4 : Int32) (H : Heap) (locs : List Loc), va_P D vwCl (wWX12 cB cI cZ a0 I0_l94 L0_l94 M0_l94) H → va_D A (wWX12 cB cI cZ a0 I0_l94 L0_l94 M0_l94) → va_S A s.heap H locs → ∀ (ls : Array Slot), lv_has ls 9 [(0, .ref (a0 0)), (2, .int (-1 : Int32)), (3, .int y94_3), (4, .int y94_4)] → fX12_tree_L94 N (fX12_tree_L9 N fu9) (fX12_tree_L57 N (fX12_tree_L9 N fu9) fu57) fu94 I0_l94 L0_l94 M0_l94 y94_3 y94_4 = some R → W p l e (headSpec wsX12_tree { frames := 5, cells := 0, slots := 0, locals := 117 }).room s m [.ref (a0 0)].toArray below meth c H locs 0 0 (MQ below (va_Qi (fun r (_ : Unit) => r = R.1) (fun _ t => wb_post D [(cB, .byte), (cI, .int), (cZ, .boolean)] A (wWX12 cB cI cZ a0 R.2.1 R.2.2.1 R.2.2.2) t) A) [.ref (a0 0)].toArray s 0 0 A) (F0 m 94 ls []) := by
                  intro fu94
                  induction fu94 with
                  | zero =>
                    intro I0_l94 L0_l94 M0_l94 y94_3 y94_4 H locs hP hD hS ls hl hf
                    exact absurd hf (by rw [fX12_tree_L94.eq_1]; exact fun h => nomatch h)
                  | succ fu94 ih94 =>
                    intro I0_l94 L0_l94 M0_l94 y94_3 y94_4 H locs hP hD hS ls hl hf
                    rw [fX12_tree_L94.eq_2] at hf
                    refine lv_iload hx hb dX12_tree_94 (lv_at hl 3 rfl) ?_
                    refine lv_bipush (v := (6 : Int32)) hx hb dX12_tree_96 (by decide) ?_
                    refine lv_icmp_ge (tgt := 112) hx hb dX12_tree_98 (by decide) (fun hc => ?_) (fun hc => ?_)
                    · replace hf := wb_t hc hf
                      refine lv_iconst (v := (0 : Int32)) hx hb dX12_tree_112 (by decide) ?_
                      refine lv_istore (lv' := [(4, .int (0 : Int32)), (0, .ref (a0 0)), (2, .int (-1 : Int32)), (3, .int y94_3)]) hx hb dX12_tree_113 hl (by decide) rfl (fun ls hl => ?_)
                      have Lh115 : ∀ (fu115 : Nat) (I0_l115 : Nat → Int32) (L0_l115 : Int64) (M0_l115 : Nat → Nat → Int32) (y115_2 : Int32) (y115_4 : Int32) (H : Heap) (locs : List Loc), va_P D vwCl (wWX12 cB cI cZ a0 I0_l115 L0_l115 M0_l115) H → va_D A (wWX12 cB cI cZ a0 I0_l115 L0_l115 M0_l115) → va_S A s.heap H locs → ∀ (ls : Array Slot), lv_has ls 9 [(0, .ref (a0 0)), (2, .int y115_2), (3, .int y94_3), (4, .int y115_4)] → fX12_tree_L115 N y94_3 (fX12_tree_L9 N fu9) (fX12_tree_L57 N (fX12_tree_L9 N fu9) fu57) (fX12_tree_L94 N (fX12_tree_L9 N fu9) (fX12_tree_L57 N (fX12_tree_L9 N fu9) fu57) fu94) fu115 I0_l115 L0_l115 M0_l115 y115_2 y115_4 = some R → W p l e (headSpec wsX12_tree { frames := 5, cells := 0, slots := 0, locals := 117 }).room s m [.ref (a0 0)].toArray below meth c H locs 0 0 (MQ below (va_Qi (fun r (_ : Unit) => r = R.1) (fun _ t => wb_post D [(cB, .byte), (cI, .int), (cZ, .boolean)] A (wWX12 cB cI cZ a0 R.2.1 R.2.2.1 R.2.2.2) t) A) [.ref (a0 0)].toArray s 0 0 A) (F0 m 115 ls []) := by
                        intro fu115
                        induction fu115 with
                        | zero =>
                          intro I0_l115 L0_l115 M0_l115 y115_2 y115_4 H locs hP hD hS ls hl hf
                          exact absurd hf (by rw [fX12_tree_L115.eq_1]; exact fun h => nomatch h)
                        | succ fu115 ih115 =>
                          have J258 : ∀ (I0_j258 : Nat → Int32) (L0_j258 : Int64) (M0_j258 : Nat → Nat → Int32) (y258_2 : Int32) (y258_4 : Int32) (y258_7 : Int32) (H : Heap) (locs : List Loc), va_P D vwCl (wWX12 cB cI cZ a0 I0_j258 L0_j258 M0_j258) H → va_D A (wWX12 cB cI cZ a0 I0_j258 L0_j258 M0_j258) → va_S A s.heap H locs → ∀ (ls : Array Slot), lv_has ls 9 [(0, .ref (a0 0)), (2, .int y258_2), (3, .int y94_3), (4, .int y258_4), (7, .int y258_7)] → fX12_tree_J258 N y94_3 (fX12_tree_L9 N fu9) (fX12_tree_L57 N (fX12_tree_L9 N fu9) fu57) (fX12_tree_L94 N (fX12_tree_L9 N fu9) (fX12_tree_L57 N (fX12_tree_L9 N fu9) fu57) fu94) (fX12_tree_L115 N y94_3 (fX12_tree_L9 N fu9) (fX12_tree_L57 N (fX12_tree_L9 N fu9) fu57) (fX12_tree_L94 N (fX12_tree_L9 N fu9) (fX12_tree_L57 N (fX12_tree_L9 N fu9) fu57) fu94) fu115) I0_j258 L0_j258 M0_j258 y258_2 y258_4 y258_7 = some R → W p l e (headSpec wsX12_tree { frames := 5, cells := 0, slots := 0, locals := 117 }).room s m [.ref (a0 0)].toArray below meth c H locs 0 0 (MQ below (va_Qi (fun r (_ : Unit) => r = R.1) (fun _ t => wb_post D [(cB, .byte), (cI, .int), (cZ, .boolean)] A (wWX12 cB cI cZ a0 R.2.1 R.2.2.1 R.2.2.2) t) A) [.ref (a0 0)].toArray s 0 0 A) (F0 m 258 ls []) := by
                            intro I0_j258 L0_j258 M0_j258 y258_2 y258_4 y258_7 H locs hP hD hS ls hl hf
                            unfold fX12_tree_J258 at hf
                            refine lv_aload_n hx hb dX12_tree_258 rfl (lv_at hl 0 rfl) ?_
                            obtain ⟨r2, hr2, hf⟩ := wb_b hf
                            refine vp_callSi (W.runV (As := []) (rest := []) ⟨hx, hb, hml, hown, hts⟩ (cn_X12_isTree l D cB cI cZ N a0 I0_j258 L0_j258 M0_j258 r2 hr2) (cwV 0 hts gX12_tree_X12_isTree rfl rfl rfl cdX12_isTree ⟨Nat.le_of_ble_eq_true rfl, Nat.le_of_ble_eq_true rfl⟩) (wb_preV hP hK (wr_12 hK hP (q0 := 0) rfl)) rfl rfl hl.1 rfl (lv_room (Nat.le_of_ble_eq_true rfl)) dX12_tree_259 ⟨Nat.le_of_ble_eq_true rfl, Nat.le_of_ble_eq_true rfl⟩) (fun r9 e9 => ?_)
                            rw [e9]
                            refine lv_if_ne (tgt := 268) hx hb dX12_tree_262 (by decide) (fun hc => ?_) (fun hc => ?_)
                            · replace hf := wb_f hc hf
                              refine lv_iload hx hb dX12_tree_268 (lv_at hl 4 rfl) ?_
                              refine lv_istore_n (lv' := [(2, .int y258_7), (0, .ref (a0 0)), (3, .int y94_3), (4, .int y258_4), (7, .int y258_7)]) hx hb dX12_tree_270 rfl hl (by decide) rfl (fun ls hl => ?_)
                              refine lv_iconst (v := (0 : Int32)) hx hb dX12_tree_271 (by decide) ?_
                              refine lv_istore (lv' := [(8, .int (0 : Int32)), (2, .int y258_7), (0, .ref (a0 0)), (3, .int y94_3), (4, .int y258_4), (7, .int y258_7)]) hx hb dX12_tree_272 hl (by decide) rfl (fun ls hl => ?_)
                              have Lh274 : ∀ (fu274 : Nat) (I0_l274 : Nat → Int32) (L0_l274 : Int64) (M0_l274 : Nat → Nat → Int32) (y274_8 : Int32) (H : Heap) (locs : List Loc), va_P D vwCl (wWX12 cB cI cZ a0 I0_l274 L0_l274 M0_l274) H → va_D A (wWX12 cB cI cZ a0 I0_l274 L0_l274 M0_l274) → va_S A s.heap H locs → ∀ (ls : Array Slot), lv_has ls 9 [(0, .ref (a0 0)), (2, .int y258_7), (3, .int y94_3), (4, .int y258_4), (8, .int y274_8)] → fX12_tree_L274 N y258_4 y258_7 y94_3 (fX12_tree_L9 N fu9) (fX12_tree_L57 N (fX12_tree_L9 N fu9) fu57) (fX12_tree_L94 N (fX12_tree_L9 N fu9) (fX12_tree_L57 N (fX12_tree_L9 N fu9) fu57) fu94) (fX12_tree_L115 N y94_3 (fX12_tree_L9 N fu9) (fX12_tree_L57 N (fX12_tree_L9 N fu9) fu57) (fX12_tree_L94 N (fX12_tree_L9 N fu9) (fX12_tree_L57 N (fX12_tree_L9 N fu9) fu57) fu94) fu115) fu274 I0_l274 L0_l274 M0_l274 y274_8 = some R → W p l e (headSpec wsX12_tree { frames := 5, cells := 0, slots := 0, locals := 117 }).room s m [.ref (a0 0)].toArray below meth c H locs 0 0 (MQ below (va_Qi (fun r (_ : Unit) => r = R.1) (fun _ t => wb_post D [(cB, .byte), (cI, .int), (cZ, .boolean)] A (wWX12 cB cI cZ a0 R.2.1 R.2.2.1 R.2.2.2) t) A) [.ref (a0 0)].toArray s 0 0 A) (F0 m 274 ls []) := by
                                intro fu274
                                induction fu274 with
                                | zero =>
                                  intro I0_l274 L0_l274 M0_l274 y274_8 H locs hP hD hS ls hl hf
                                  exact absurd hf (by rw [fX12_tree_L274.eq_1]; exact fun h => nomatch h)
                                | succ fu274 ih274 =>
                                  intro I0_l274 L0_l274 M0_l274 y274_8 H locs hP hD hS ls hl hf
                                  rw [fX12_tree_L274.eq_2] at hf
                                  refine lv_iload hx hb dX12_tree_274 (lv_at hl 4 rfl) ?_
                                  refine lv_bipush (v := (6 : Int32)) hx hb dX12_tree_276 (by decide) ?_
                                  refine lv_icmp_ge (tgt := 316) hx hb dX12_tree_278 (by decide) (fun hc => ?_) (fun hc => ?_)
                                  · replace hf := wb_t hc hf
                                    obtain ⟨v3, ev3, hf⟩ := wb_v hf
                                    refine lv_iinc (v := v3) (lv' := [(4, .int v3), (0, .ref (a0 0)), (2, .int y258_7), (3, .int y94_3), (8, .int y274_8)]) hx hb dX12_tree_316 hl (k := 3) rfl (by rw [ev3]; rfl) (by decide) rfl (fun ls hl => ?_)
                                    refine lv_goto (tgt := 115) hx hb dX12_tree_319 (by decide) ?_
                                    exact ih115 I0_l274 L0_l274 M0_l274 y258_7 v3 H locs hP hD hS ls (lv_sub hl [1, 2, 3, 0] rfl) hf
                                  · replace hf := wb_f hc hf
                                    refine lv_aload_n hx hb dX12_tree_281 rfl (lv_at hl 0 rfl) ?_
                                    refine va_get (D := D) (ci := 12) (v := .ref (a0 24)) (C := RX12) (T := TX12) (N := 58) hx hb hts hinX12 hown hK hP 0 rfl rfl 43 (by decide) (hts (.fieldLink RX12 86 "WheelBookModel" "whence" "[I") (List.mem_of_getElem? (i := 5) rfl)) (fun _ h9 => h9) rfl dX12_tree_282 ?_
                                    refine lv_iload hx hb dX12_tree_285 (lv_at hl 4 rfl) ?_
                                    refine lv_aload_n hx hb dX12_tree_287 rfl (lv_at hl 0 rfl) ?_
                                    refine va_get (D := D) (ci := 12) (v := .ref (a0 27)) (C := RX12) (T := TX12) (N := 58) hx hb hts hinX12 hown hK hP 0 rfl rfl 46 (by decide) (hts (.fieldLink RX12 95 "WheelBookModel" "inTree" "[Z") (List.mem_of_getElem? (i := 2) rfl)) (fun _ h9 => h9) rfl dX12_tree_288 ?_
                                    refine lv_iload hx hb dX12_tree_291 (lv_at hl 4 rfl) ?_
                                    obtain ⟨hin, hf⟩ := wb_n hf
                                    refine va_zald hx hb hK hP 27 2 rfl rfl hin dX12_tree_293 ?_
                                    refine lv_if_eq (tgt := 307) hx hb dX12_tree_294 (by decide) (fun hc => ?_) (fun hc => ?_)
                                    · replace hf := wb_t hc hf
                                      refine lv_bipush (v := (-2 : Int32)) hx hb dX12_tree_307 (by decide) ?_
                                      obtain ⟨hin, hf⟩ := wb_n hf
                                      refine va_iast hx hb hK hP hD hS 24 1 rfl rfl hin dX12_tree_309 (fun H locs hP hD hS => ?_)
                                      have hP : va_P D vwCl (wWX12 cB cI cZ a0 I0_l274 L0_l274 (wb_um M0_l274 23 (y274_8).toNatClampNeg (-2 : Int32))) H := hP
                                      have hD : va_D A (wWX12 cB cI cZ a0 I0_l274 L0_l274 (wb_um M0_l274 23 (y274_8).toNatClampNeg (-2 : Int32))) := hD
                                      obtain ⟨M0_4, eM0_4, hf⟩ := wb_v hf
                                      rw [← eM0_4] at hP hD
                                      obtain ⟨v5, ev5, hf⟩ := wb_v hf
                                      refine lv_iinc (v := v5) (lv' := [(8, .int v5), (0, .ref (a0 0)), (2, .int y258_7), (3, .int y94_3), (4, .int y258_4)]) hx hb dX12_tree_310 hl (k := 4) rfl (by rw [ev5]; rfl) (by decide) rfl (fun ls hl => ?_)
                                      refine lv_goto (tgt := 274) hx hb dX12_tree_313 (by decide) ?_
                                      exact ih274 I0_l274 L0_l274 M0_4 v5 H locs hP hD hS ls (lv_sub hl [1, 2, 3, 4, 0] rfl) hf
                                    · replace hf := wb_f hc hf
                                      refine lv_aload_n hx hb dX12_tree_297 rfl (lv_at hl 0 rfl) ?_
                                      refine va_get (D := D) (ci := 12) (v := .ref (a0 25)) (C := RX12) (T := TX12) (N := 58) hx hb hts hinX12 hown hK hP 0 rfl rfl 44 (by decide) (hts (.fieldLink RX12 89 "WheelBookModel" "row" "[I") (List.mem_of_getElem? (i := 4) rfl)) (fun _ h9 => h9) rfl dX12_tree_298 ?_
                                      refine lv_iload hx hb dX12_tree_301 (lv_at hl 4 rfl) ?_
                                      obtain ⟨hin, hf⟩ := wb_n hf
                                      refine va_iald hx hb hK hP 25 1 rfl rfl hin dX12_tree_303 ?_
                                      refine lv_goto (tgt := 309) hx hb dX12_tree_304 (by decide) ?_
                                      obtain ⟨hin, hf⟩ := wb_n hf
                                      refine va_iast hx hb hK hP hD hS 24 1 rfl rfl hin dX12_tree_309 (fun H locs hP hD hS => ?_)
                                      have hP : va_P D vwCl (wWX12 cB cI cZ a0 I0_l274 L0_l274 (wb_um M0_l274 23 (y274_8).toNatClampNeg (M0_l274 24 (y274_8).toNatClampNeg))) H := hP
                                      have hD : va_D A (wWX12 cB cI cZ a0 I0_l274 L0_l274 (wb_um M0_l274 23 (y274_8).toNatClampNeg (M0_l274 24 (y274_8).toNatClampNeg))) := hD
                                      obtain ⟨M0_6, eM0_6, hf⟩ := wb_v hf
                                      rw [← eM0_6] at hP hD
                                      obtain ⟨v7, ev7, hf⟩ := wb_v hf
                                      refine lv_iinc (v := v7) (lv' := [(8, .int v7), (0, .ref (a0 0)), (2, .int y258_7), (3, .int y94_3), (4, .int y258_4)]) hx hb dX12_tree_310 hl (k := 4) rfl (by rw [ev7]; rfl) (by decide) rfl (fun ls hl => ?_)
                                      refine lv_goto (tgt := 274) hx hb dX12_tree_313 (by decide) ?_
                                      exact ih274 I0_l274 L0_l274 M0_6 v7 H locs hP hD hS ls (lv_sub hl [1, 2, 3, 4, 0] rfl) hf
                              exact Lh274 N I0_j258 L0_j258 M0_j258 (0 : Int32) H locs hP hD hS ls (lv_sub hl [2, 1, 3, 4, 0] rfl) hf
                            · replace hf := wb_t hc hf
                              refine lv_goto (tgt := 316) hx hb dX12_tree_265 (by decide) ?_
                              obtain ⟨v8, ev8, hf⟩ := wb_v hf
                              refine lv_iinc (v := v8) (lv' := [(4, .int v8), (0, .ref (a0 0)), (2, .int y258_2), (3, .int y94_3), (7, .int y258_7)]) hx hb dX12_tree_316 hl (k := 3) rfl (by rw [ev8]; rfl) (by decide) rfl (fun ls hl => ?_)
                              refine lv_goto (tgt := 115) hx hb dX12_tree_319 (by decide) ?_
                              exact ih115 I0_j258 L0_j258 M0_j258 y258_2 v8 H locs hP hD hS ls (lv_sub hl [1, 2, 3, 0] rfl) hf
                          intro I0_l115 L0_l115 M0_l115 y115_2 y115_4 H locs hP hD hS ls hl hf
                          rw [fX12_tree_L115.eq_2] at hf
                          refine lv_iload hx hb dX12_tree_115 (lv_at hl 3 rfl) ?_
                          refine lv_iload_n hx hb dX12_tree_117 rfl (lv_at hl 2 rfl) ?_
                          refine lv_icmp_ge (tgt := 322) hx hb dX12_tree_118 (by decide) (fun hc => ?_) (fun hc => ?_)
                          · replace hf := wb_t hc hf
                            refine lv_aload_n hx hb dX12_tree_322 rfl (lv_at hl 0 rfl) ?_
                            refine lv_iconst (v := (1 : Int32)) hx hb dX12_tree_323 (by decide) ?_
                            refine va_put (D := D) (ci := 12) (v := .int (1 : Int32)) (ty := .boolean) (C := RX12) (T := TX12) (N := 58) hx hb hts hinX12 tyX12 tyX12_ok nmX12 hown hK hP hD hS 0 rfl rfl 42 (by decide) (hts (.fieldLink RX12 350 "WheelBookModel" "hasTree" "Z") (List.mem_of_getElem? (i := 6) rfl)) (fun _ h9 => h9) rfl (by decide +kernel) (by decide) (by decide) (Nat.le_of_ble_eq_true rfl) dX12_tree_324 (fun H locs hP hD hS => ?_)
                            have hP : va_P D vwCl (wWX12 cB cI cZ a0 (upd I0_l115 18 (1 : Int32)) L0_l115 M0_l115) H := hP
                            have hD : va_D A (wWX12 cB cI cZ a0 (upd I0_l115 18 (1 : Int32)) L0_l115 M0_l115) := hD
                            obtain ⟨I0_9, eI0_9, hf⟩ := wb_v hf
                            rw [← eI0_9] at hP hD
                            refine lv_iload_n hx hb dX12_tree_327 rfl (lv_at hl 1 rfl) ?_
                            exact W.iret (v := y115_2) hx hb hr (fun t ht hW => by rw [← Option.some.inj hf]; exact ⟨⟨y115_2, (), rfl, rfl, by rw [ht]; exact hP, va_K.moved hW.alike hK, hD⟩, hS.F ht⟩) hS.2.2 dX12_tree_328
                          · replace hf := wb_f hc hf
                            refine lv_iload hx hb dX12_tree_121 (lv_at hl 3 rfl) ?_
                            refine lv_istore (lv' := [(5, .int y115_4), (0, .ref (a0 0)), (2, .int y115_2), (3, .int y94_3), (4, .int y115_4)]) hx hb dX12_tree_123 hl (by decide) rfl (fun ls hl => ?_)
                            refine lv_iconst (v := (1 : Int32)) hx hb dX12_tree_125 (by decide) ?_
                            refine lv_istore (lv' := [(6, .int (1 : Int32)), (5, .int y115_4), (0, .ref (a0 0)), (2, .int y115_2), (3, .int y94_3), (4, .int y115_4)]) hx hb dX12_tree_126 hl (by decide) rfl (fun ls hl => ?_)
                            refine lv_iconst (v := (0 : Int32)) hx hb dX12_tree_128 (by decide) ?_
                            refine lv_istore (lv' := [(7, .int (0 : Int32)), (6, .int (1 : Int32)), (5, .int y115_4), (0, .ref (a0 0)), (2, .int y115_2), (3, .int y94_3), (4, .int y115_4)]) hx hb dX12_tree_129 hl (by decide) rfl (fun ls hl => ?_)
                            refine lv_iconst (v := (5 : Int32)) hx hb dX12_tree_131 (by decide) ?_
                            refine lv_istore (lv' := [(8, .int (5 : Int32)), (7, .int (0 : Int32)), (6, .int (1 : Int32)), (5, .int y115_4), (0, .ref (a0 0)), (2, .int y115_2), (3, .int y94_3), (4, .int y115_4)]) hx hb dX12_tree_132 hl (by decide) rfl (fun ls hl => ?_)
                            have Lh134 : ∀ (fu134 : Nat) (I0_l134 : Nat → Int32) (L0_l134 : Int64) (M0_l134 : Nat → Nat → Int32) (y134_5 : Int32) (y134_6 : Int32) (y134_7 : Int32) (y134_8 : Int32) (H : Heap) (locs : List Loc), va_P D vwCl (wWX12 cB cI cZ a0 I0_l134 L0_l134 M0_l134) H → va_D A (wWX12 cB cI cZ a0 I0_l134 L0_l134 M0_l134) → va_S A s.heap H locs → ∀ (ls : Array Slot), lv_has ls 9 [(0, .ref (a0 0)), (2, .int y115_2), (3, .int y94_3), (4, .int y115_4), (5, .int y134_5), (6, .int y134_6), (7, .int y134_7), (8, .int y134_8)] → fX12_tree_L134 N y115_2 y115_4 y94_3 (fX12_tree_L9 N fu9) (fX12_tree_L57 N (fX12_tree_L9 N fu9) fu57) (fX12_tree_L94 N (fX12_tree_L9 N fu9) (fX12_tree_L57 N (fX12_tree_L9 N fu9) fu57) fu94) (fX12_tree_L115 N y94_3 (fX12_tree_L9 N fu9) (fX12_tree_L57 N (fX12_tree_L9 N fu9) fu57) (fX12_tree_L94 N (fX12_tree_L9 N fu9) (fX12_tree_L57 N (fX12_tree_L9 N fu9) fu57) fu94) fu115) fu134 I0_l134 L0_l134 M0_l134 y134_5 y134_6 y134_7 y134_8 = some R → W p l e (headSpec wsX12_tree { frames := 5, cells := 0, slots := 0, locals := 117 }).room s m [.ref (a0 0)].toArray below meth c H locs 0 0 (MQ below (va_Qi (fun r (_ : Unit) => r = R.1) (fun _ t => wb_post D [(cB, .byte), (cI, .int), (cZ, .boolean)] A (wWX12 cB cI cZ a0 R.2.1 R.2.2.1 R.2.2.2) t) A) [.ref (a0 0)].toArray s 0 0 A) (F0 m 134 ls []) := by
                              intro fu134
                              induction fu134 with
                              | zero =>
                                intro I0_l134 L0_l134 M0_l134 y134_5 y134_6 y134_7 y134_8 H locs hP hD hS ls hl hf
                                exact absurd hf (by rw [fX12_tree_L134.eq_1]; exact fun h => nomatch h)
                              | succ fu134 ih134 =>
                                have J191 : ∀ (I0_j191 : Nat → Int32) (L0_j191 : Int64) (M0_j191 : Nat → Nat → Int32) (y191_5 : Int32) (y191_7 : Int32) (y191_8 : Int32) (z191_0 : Int32) (H : Heap) (locs : List Loc), va_P D vwCl (wWX12 cB cI cZ a0 I0_j191 L0_j191 M0_j191) H → va_D A (wWX12 cB cI cZ a0 I0_j191 L0_j191 M0_j191) → va_S A s.heap H locs → ∀ (ls : Array Slot), lv_has ls 9 [(0, .ref (a0 0)), (2, .int y115_2), (3, .int y94_3), (4, .int y115_4), (5, .int y191_5), (7, .int y191_7), (8, .int y191_8)] → fX12_tree_J191 N y115_2 y115_4 y94_3 (fX12_tree_L9 N fu9) (fX12_tree_L57 N (fX12_tree_L9 N fu9) fu57) (fX12_tree_L94 N (fX12_tree_L9 N fu9) (fX12_tree_L57 N (fX12_tree_L9 N fu9) fu57) fu94) (fX12_tree_L115 N y94_3 (fX12_tree_L9 N fu9) (fX12_tree_L57 N (fX12_tree_L9 N fu9) fu57) (fX12_tree_L94 N (fX12_tree_L9 N fu9) (fX12_tree_L57 N (fX12_tree_L9 N fu9) fu57) fu94) fu115) (fX12_tree_L134 N y115_2 y115_4 y94_3 (fX12_tree_L9 N fu9) (fX12_tree_L57 N (fX12_tree_L9 N fu9) fu57) (fX12_tree_L94 N (fX12_tree_L9 N fu9) (fX12_tree_L57 N (fX12_tree_L9 N fu9) fu57) fu94) (fX12_tree_L115 N y94_3 (fX12_tree_L9 N fu9) (fX12_tree_L57 N (fX12_tree_L9 N fu9) fu57) (fX12_tree_L94 N (fX12_tree_L9 N fu9) (fX12_tree_L57 N (fX12_tree_L9 N fu9) fu57) fu94) fu115) fu134) I0_j191 L0_j191 M0_j191 y191_5 y191_7 y191_8 z191_0 = some R → W p l e (headSpec wsX12_tree { frames := 5, cells := 0, slots := 0, locals := 117 }).room s m [.ref (a0 0)].toArray below meth c H locs 0 0 (MQ below (va_Qi (fun r (_ : Unit) => r = R.1) (fun _ t => wb_post D [(cB, .byte), (cI, .int), (cZ, .boolean)] A (wWX12 cB cI cZ a0 R.2.1 R.2.2.1 R.2.2.2) t) A) [.ref (a0 0)].toArray s 0 0 A) (F0 m 191 ls [.int z191_0]) := by
                                  intro I0_j191 L0_j191 M0_j191 y191_5 y191_7 y191_8 z191_0 H locs hP hD hS ls hl hf
                                  unfold fX12_tree_J191 at hf
                                  refine lv_istore (lv' := [(6, .int z191_0), (0, .ref (a0 0)), (2, .int y115_2), (3, .int y94_3), (4, .int y115_4), (5, .int y191_5), (7, .int y191_7), (8, .int y191_8)]) hx hb dX12_tree_191 hl (by decide) rfl (fun ls hl => ?_)
                                  refine lv_iload hx hb dX12_tree_193 (lv_at hl 6 rfl) ?_
                                  refine lv_aload_n hx hb dX12_tree_195 rfl (lv_at hl 1 rfl) ?_
                                  refine va_get (D := D) (ci := 12) (v := .ref (a0 25)) (C := RX12) (T := TX12) (N := 58) hx hb hts hinX12 hown hK hP 0 rfl rfl 44 (by decide) (hts (.fieldLink RX12 89 "WheelBookModel" "row" "[I") (List.mem_of_getElem? (i := 4) rfl)) (fun _ h9 => h9) rfl dX12_tree_196 ?_
                                  refine lv_iload hx hb dX12_tree_199 (lv_at hl 7 rfl) ?_
                                  obtain ⟨hin, hf⟩ := wb_n hf
                                  refine va_iald hx hb hK hP 25 1 rfl rfl hin dX12_tree_201 ?_
                                  refine lv_iconst (v := (-1 : Int32)) hx hb dX12_tree_202 (by decide) ?_
                                  refine lv_icmp_eq (tgt := 211) hx hb dX12_tree_203 (by decide) (fun hc => ?_) (fun hc => ?_)
                                  · replace hf := wb_t hc hf
                                    refine lv_iconst (v := (0 : Int32)) hx hb dX12_tree_211 (by decide) ?_
                                    refine lv_goto (tgt := 233) hx hb dX12_tree_212 (by decide) ?_
                                    refine lv_iadd hx hb dX12_tree_233 ?_
                                    obtain ⟨v10, ev10, hf⟩ := wb_v hf
                                    refine wb_topi ev10 ?_
                                    refine lv_istore (lv' := [(7, .int v10), (6, .int z191_0), (0, .ref (a0 0)), (2, .int y115_2), (3, .int y94_3), (4, .int y115_4), (5, .int y191_5), (8, .int y191_8)]) hx hb dX12_tree_234 hl (by decide) rfl (fun ls hl => ?_)
                                    obtain ⟨v11, ev11, hf⟩ := wb_v hf
                                    refine lv_iinc (v := v11) (lv' := [(8, .int v11), (7, .int v10), (6, .int z191_0), (0, .ref (a0 0)), (2, .int y115_2), (3, .int y94_3), (4, .int y115_4), (5, .int y191_5)]) hx hb dX12_tree_236 hl (k := 7) rfl (by rw [ev11]; rfl) (by decide) rfl (fun ls hl => ?_)
                                    refine lv_goto (tgt := 134) hx hb dX12_tree_239 (by decide) ?_
                                    exact ih134 I0_j191 L0_j191 M0_j191 y191_5 z191_0 v10 v11 H locs hP hD hS ls (lv_sub hl [3, 4, 5, 6, 7, 2, 1, 0] rfl) hf
                                  · replace hf := wb_f hc hf
                                    refine lv_iload hx hb dX12_tree_206 (lv_at hl 0 rfl) ?_
                                    refine lv_if_ne (tgt := 215) hx hb dX12_tree_208 (by decide) (fun hc => ?_) (fun hc => ?_)
                                    · replace hf := wb_f hc hf
                                      refine lv_aload_n hx hb dX12_tree_215 rfl (lv_at hl 1 rfl) ?_
                                      refine va_get (D := D) (ci := 12) (v := .ref (a0 26)) (C := RX12) (T := TX12) (N := 58) hx hb hts hinX12 hown hK hP 0 rfl rfl 45 (by decide) (hts (.fieldLink RX12 92 "WheelBookModel" "prices" "[I") (List.mem_of_getElem? (i := 3) rfl)) (fun _ h9 => h9) rfl dX12_tree_216 ?_
                                      refine lv_bipush (v := (6 : Int32)) hx hb dX12_tree_219 (by decide) ?_
                                      refine lv_aload_n hx hb dX12_tree_221 rfl (lv_at hl 1 rfl) ?_
                                      refine va_get (D := D) (ci := 12) (v := .ref (a0 25)) (C := RX12) (T := TX12) (N := 58) hx hb hts hinX12 hown hK hP 0 rfl rfl 44 (by decide) (hts (.fieldLink RX12 89 "WheelBookModel" "row" "[I") (List.mem_of_getElem? (i := 4) rfl)) (fun _ h9 => h9) rfl dX12_tree_222 ?_
                                      refine lv_iload hx hb dX12_tree_225 (lv_at hl 7 rfl) ?_
                                      obtain ⟨hin, hf⟩ := wb_n hf
                                      refine va_iald hx hb hK hP 25 1 rfl rfl hin dX12_tree_227 ?_
                                      refine lv_imul hx hb dX12_tree_228 ?_
                                      refine lv_iload hx hb dX12_tree_229 (lv_at hl 7 rfl) ?_
                                      refine lv_iadd hx hb dX12_tree_231 ?_
                                      obtain ⟨hin, hf⟩ := wb_n hf
                                      refine va_iald hx hb hK hP 26 1 rfl rfl hin dX12_tree_232 ?_
                                      refine lv_iadd hx hb dX12_tree_233 ?_
                                      obtain ⟨v12, ev12, hf⟩ := wb_v hf
                                      refine wb_topi ev12 ?_
                                      refine lv_istore (lv' := [(7, .int v12), (6, .int z191_0), (0, .ref (a0 0)), (2, .int y115_2), (3, .int y94_3), (4, .int y115_4), (5, .int y191_5), (8, .int y191_8)]) hx hb dX12_tree_234 hl (by decide) rfl (fun ls hl => ?_)
                                      obtain ⟨v13, ev13, hf⟩ := wb_v hf
                                      refine lv_iinc (v := v13) (lv' := [(8, .int v13), (7, .int v12), (6, .int z191_0), (0, .ref (a0 0)), (2, .int y115_2), (3, .int y94_3), (4, .int y115_4), (5, .int y191_5)]) hx hb dX12_tree_236 hl (k := 7) rfl (by rw [ev13]; rfl) (by decide) rfl (fun ls hl => ?_)
                                      refine lv_goto (tgt := 134) hx hb dX12_tree_239 (by decide) ?_
                                      exact ih134 I0_j191 L0_j191 M0_j191 y191_5 z191_0 v12 v13 H locs hP hD hS ls (lv_sub hl [3, 4, 5, 6, 7, 2, 1, 0] rfl) hf
                                    · replace hf := wb_t hc hf
                                      refine lv_iconst (v := (0 : Int32)) hx hb dX12_tree_211 (by decide) ?_
                                      refine lv_goto (tgt := 233) hx hb dX12_tree_212 (by decide) ?_
                                      refine lv_iadd hx hb dX12_tree_233 ?_
                                      obtain ⟨v14, ev14, hf⟩ := wb_v hf
                                      refine wb_topi ev14 ?_
                                      refine lv_istore (lv' := [(7, .int v14), (6, .int z191_0), (0, .ref (a0 0)), (2, .int y115_2), (3, .int y94_3), (4, .int y115_4), (5, .int y191_5), (8, .int y191_8)]) hx hb dX12_tree_234 hl (by decide) rfl (fun ls hl => ?_)
                                      obtain ⟨v15, ev15, hf⟩ := wb_v hf
                                      refine lv_iinc (v := v15) (lv' := [(8, .int v15), (7, .int v14), (6, .int z191_0), (0, .ref (a0 0)), (2, .int y115_2), (3, .int y94_3), (4, .int y115_4), (5, .int y191_5)]) hx hb dX12_tree_236 hl (k := 7) rfl (by rw [ev15]; rfl) (by decide) rfl (fun ls hl => ?_)
                                      refine lv_goto (tgt := 134) hx hb dX12_tree_239 (by decide) ?_
                                      exact ih134 I0_j191 L0_j191 M0_j191 y191_5 z191_0 v14 v15 H locs hP hD hS ls (lv_sub hl [3, 4, 5, 6, 7, 2, 1, 0] rfl) hf
                                have J190 : ∀ (I0_j190 : Nat → Int32) (L0_j190 : Int64) (M0_j190 : Nat → Nat → Int32) (y190_5 : Int32) (y190_7 : Int32) (y190_8 : Int32) (H : Heap) (locs : List Loc), va_P D vwCl (wWX12 cB cI cZ a0 I0_j190 L0_j190 M0_j190) H → va_D A (wWX12 cB cI cZ a0 I0_j190 L0_j190 M0_j190) → va_S A s.heap H locs → ∀ (ls : Array Slot), lv_has ls 9 [(0, .ref (a0 0)), (2, .int y115_2), (3, .int y94_3), (4, .int y115_4), (5, .int y190_5), (7, .int y190_7), (8, .int y190_8)] → fX12_tree_J190 N y115_2 y115_4 y94_3 (fX12_tree_L9 N fu9) (fX12_tree_L57 N (fX12_tree_L9 N fu9) fu57) (fX12_tree_L94 N (fX12_tree_L9 N fu9) (fX12_tree_L57 N (fX12_tree_L9 N fu9) fu57) fu94) (fX12_tree_L115 N y94_3 (fX12_tree_L9 N fu9) (fX12_tree_L57 N (fX12_tree_L9 N fu9) fu57) (fX12_tree_L94 N (fX12_tree_L9 N fu9) (fX12_tree_L57 N (fX12_tree_L9 N fu9) fu57) fu94) fu115) (fX12_tree_L134 N y115_2 y115_4 y94_3 (fX12_tree_L9 N fu9) (fX12_tree_L57 N (fX12_tree_L9 N fu9) fu57) (fX12_tree_L94 N (fX12_tree_L9 N fu9) (fX12_tree_L57 N (fX12_tree_L9 N fu9) fu57) fu94) (fX12_tree_L115 N y94_3 (fX12_tree_L9 N fu9) (fX12_tree_L57 N (fX12_tree_L9 N fu9) fu57) (fX12_tree_L94 N (fX12_tree_L9 N fu9) (fX12_tree_L57 N (fX12_tree_L9 N fu9) fu57) fu94) fu115) fu134) I0_j190 L0_j190 M0_j190 y190_5 y190_7 y190_8 = some R → W p l e (headSpec wsX12_tree { frames := 5, cells := 0, slots := 0, locals := 117 }).room s m [.ref (a0 0)].toArray below meth c H locs 0 0 (MQ below (va_Qi (fun r (_ : Unit) => r = R.1) (fun _ t => wb_post D [(cB, .byte), (cI, .int), (cZ, .boolean)] A (wWX12 cB cI cZ a0 R.2.1 R.2.2.1 R.2.2.2) t) A) [.ref (a0 0)].toArray s 0 0 A) (F0 m 190 ls []) := by
                                  intro I0_j190 L0_j190 M0_j190 y190_5 y190_7 y190_8 H locs hP hD hS ls hl hf
                                  unfold fX12_tree_J190 at hf
                                  refine lv_iconst (v := (0 : Int32)) hx hb dX12_tree_190 (by decide) ?_
                                  exact J191 I0_j190 L0_j190 M0_j190 y190_5 y190_7 y190_8 (0 : Int32) H locs hP hD hS ls (lv_sub hl [0, 1, 2, 3, 4, 5, 6] rfl) hf
                                have J186 : ∀ (I0_j186 : Nat → Int32) (L0_j186 : Int64) (M0_j186 : Nat → Nat → Int32) (y186_5 : Int32) (y186_7 : Int32) (y186_8 : Int32) (H : Heap) (locs : List Loc), va_P D vwCl (wWX12 cB cI cZ a0 I0_j186 L0_j186 M0_j186) H → va_D A (wWX12 cB cI cZ a0 I0_j186 L0_j186 M0_j186) → va_S A s.heap H locs → ∀ (ls : Array Slot), lv_has ls 9 [(0, .ref (a0 0)), (2, .int y115_2), (3, .int y94_3), (4, .int y115_4), (5, .int y186_5), (7, .int y186_7), (8, .int y186_8)] → fX12_tree_J186 N y115_2 y115_4 y94_3 (fX12_tree_L9 N fu9) (fX12_tree_L57 N (fX12_tree_L9 N fu9) fu57) (fX12_tree_L94 N (fX12_tree_L9 N fu9) (fX12_tree_L57 N (fX12_tree_L9 N fu9) fu57) fu94) (fX12_tree_L115 N y94_3 (fX12_tree_L9 N fu9) (fX12_tree_L57 N (fX12_tree_L9 N fu9) fu57) (fX12_tree_L94 N (fX12_tree_L9 N fu9) (fX12_tree_L57 N (fX12_tree_L9 N fu9) fu57) fu94) fu115) (fX12_tree_L134 N y115_2 y115_4 y94_3 (fX12_tree_L9 N fu9) (fX12_tree_L57 N (fX12_tree_L9 N fu9) fu57) (fX12_tree_L94 N (fX12_tree_L9 N fu9) (fX12_tree_L57 N (fX12_tree_L9 N fu9) fu57) fu94) (fX12_tree_L115 N y94_3 (fX12_tree_L9 N fu9) (fX12_tree_L57 N (fX12_tree_L9 N fu9) fu57) (fX12_tree_L94 N (fX12_tree_L9 N fu9) (fX12_tree_L57 N (fX12_tree_L9 N fu9) fu57) fu94) fu115) fu134) I0_j186 L0_j186 M0_j186 y186_5 y186_7 y186_8 = some R → W p l e (headSpec wsX12_tree { frames := 5, cells := 0, slots := 0, locals := 117 }).room s m [.ref (a0 0)].toArray below meth c H locs 0 0 (MQ below (va_Qi (fun r (_ : Unit) => r = R.1) (fun _ t => wb_post D [(cB, .byte), (cI, .int), (cZ, .boolean)] A (wWX12 cB cI cZ a0 R.2.1 R.2.2.1 R.2.2.2) t) A) [.ref (a0 0)].toArray s 0 0 A) (F0 m 186 ls []) := by
                                  intro I0_j186 L0_j186 M0_j186 y186_5 y186_7 y186_8 H locs hP hD hS ls hl hf
                                  unfold fX12_tree_J186 at hf
                                  refine lv_iconst (v := (1 : Int32)) hx hb dX12_tree_186 (by decide) ?_
                                  refine lv_goto (tgt := 191) hx hb dX12_tree_187 (by decide) ?_
                                  exact J191 I0_j186 L0_j186 M0_j186 y186_5 y186_7 y186_8 (1 : Int32) H locs hP hD hS ls (lv_sub hl [0, 1, 2, 3, 4, 5, 6] rfl) hf
                                intro I0_l134 L0_l134 M0_l134 y134_5 y134_6 y134_7 y134_8 H locs hP hD hS ls hl hf
                                rw [fX12_tree_L134.eq_2] at hf
                                refine lv_iload hx hb dX12_tree_134 (lv_at hl 7 rfl) ?_
                                refine lv_if_lt (tgt := 242) hx hb dX12_tree_136 (by decide) (fun hc => ?_) (fun hc => ?_)
                                · replace hf := wb_t hc hf
                                  refine lv_iload hx hb dX12_tree_242 (lv_at hl 5 rfl) ?_
                                  refine lv_if_eq (tgt := 316) hx hb dX12_tree_244 (by decide) (fun hc => ?_) (fun hc => ?_)
                                  · replace hf := wb_t hc hf
                                    obtain ⟨v16, ev16, hf⟩ := wb_v hf
                                    refine lv_iinc (v := v16) (lv' := [(4, .int v16), (0, .ref (a0 0)), (2, .int y115_2), (3, .int y94_3), (5, .int y134_5), (6, .int y134_6), (7, .int y134_7), (8, .int y134_8)]) hx hb dX12_tree_316 hl (k := 3) rfl (by rw [ev16]; rfl) (by decide) rfl (fun ls hl => ?_)
                                    refine lv_goto (tgt := 115) hx hb dX12_tree_319 (by decide) ?_
                                    exact ih115 I0_l134 L0_l134 M0_l134 y115_2 v16 H locs hP hD hS ls (lv_sub hl [1, 2, 3, 0] rfl) hf
                                  · replace hf := wb_f hc hf
                                    refine lv_iload_n hx hb dX12_tree_247 rfl (lv_at hl 1 rfl) ?_
                                    refine lv_iconst (v := (-1 : Int32)) hx hb dX12_tree_248 (by decide) ?_
                                    refine lv_icmp_eq (tgt := 258) hx hb dX12_tree_249 (by decide) (fun hc => ?_) (fun hc => ?_)
                                    · replace hf := wb_t hc hf
                                      exact J258 I0_l134 L0_l134 M0_l134 y115_2 y115_4 y134_7 H locs hP hD hS ls (lv_sub hl [0, 1, 2, 3, 6] rfl) hf
                                    · replace hf := wb_f hc hf
                                      refine lv_iload hx hb dX12_tree_252 (lv_at hl 6 rfl) ?_
                                      refine lv_iload_n hx hb dX12_tree_254 rfl (lv_at hl 1 rfl) ?_
                                      refine lv_icmp_ge (tgt := 316) hx hb dX12_tree_255 (by decide) (fun hc => ?_) (fun hc => ?_)
                                      · replace hf := wb_t hc hf
                                        obtain ⟨v17, ev17, hf⟩ := wb_v hf
                                        refine lv_iinc (v := v17) (lv' := [(4, .int v17), (0, .ref (a0 0)), (2, .int y115_2), (3, .int y94_3), (5, .int y134_5), (6, .int y134_6), (7, .int y134_7), (8, .int y134_8)]) hx hb dX12_tree_316 hl (k := 3) rfl (by rw [ev17]; rfl) (by decide) rfl (fun ls hl => ?_)
                                        refine lv_goto (tgt := 115) hx hb dX12_tree_319 (by decide) ?_
                                        exact ih115 I0_l134 L0_l134 M0_l134 y115_2 v17 H locs hP hD hS ls (lv_sub hl [1, 2, 3, 0] rfl) hf
                                      · replace hf := wb_f hc hf
                                        exact J258 I0_l134 L0_l134 M0_l134 y115_2 y115_4 y134_7 H locs hP hD hS ls (lv_sub hl [0, 1, 2, 3, 6] rfl) hf
                                · replace hf := wb_f hc hf
                                  refine lv_aload_n hx hb dX12_tree_139 rfl (lv_at hl 0 rfl) ?_
                                  refine va_get (D := D) (ci := 12) (v := .ref (a0 25)) (C := RX12) (T := TX12) (N := 58) hx hb hts hinX12 hown hK hP 0 rfl rfl 44 (by decide) (hts (.fieldLink RX12 89 "WheelBookModel" "row" "[I") (List.mem_of_getElem? (i := 4) rfl)) (fun _ h9 => h9) rfl dX12_tree_140 ?_
                                  refine lv_iload hx hb dX12_tree_143 (lv_at hl 7 rfl) ?_
                                  refine lv_iload hx hb dX12_tree_145 (lv_at hl 4 rfl) ?_
                                  refine lv_bipush (v := (7 : Int32)) hx hb dX12_tree_147 (by decide) ?_
                                  refine lv_irem hx hb dX12_tree_149 (by decide) ?_
                                  refine lv_iconst (v := (1 : Int32)) hx hb dX12_tree_150 (by decide) ?_
                                  refine lv_isub hx hb dX12_tree_151 ?_
                                  obtain ⟨hin, hf⟩ := wb_n hf
                                  refine va_iast hx hb hK hP hD hS 25 1 rfl rfl hin dX12_tree_152 (fun H locs hP hD hS => ?_)
                                  have hP : va_P D vwCl (wWX12 cB cI cZ a0 I0_l134 L0_l134 (wb_um M0_l134 24 (y134_8).toNatClampNeg ((y134_5 - y134_5 / (7 : Int32) * (7 : Int32)) - (1 : Int32)))) H := hP
                                  have hD : va_D A (wWX12 cB cI cZ a0 I0_l134 L0_l134 (wb_um M0_l134 24 (y134_8).toNatClampNeg ((y134_5 - y134_5 / (7 : Int32) * (7 : Int32)) - (1 : Int32)))) := hD
                                  obtain ⟨M0_18, eM0_18, hf⟩ := wb_v hf
                                  rw [← eM0_18] at hP hD
                                  refine lv_iload hx hb dX12_tree_153 (lv_at hl 4 rfl) ?_
                                  refine lv_bipush (v := (7 : Int32)) hx hb dX12_tree_155 (by decide) ?_
                                  refine lv_idiv hx hb dX12_tree_157 (by decide) ?_
                                  obtain ⟨v19, ev19, hf⟩ := wb_v hf
                                  refine wb_topi ev19 ?_
                                  refine lv_istore (lv' := [(5, .int v19), (0, .ref (a0 0)), (2, .int y115_2), (3, .int y94_3), (4, .int y115_4), (6, .int y134_6), (7, .int y134_7), (8, .int y134_8)]) hx hb dX12_tree_158 hl (by decide) rfl (fun ls hl => ?_)
                                  refine lv_iload hx hb dX12_tree_160 (lv_at hl 5 rfl) ?_
                                  refine lv_if_eq (tgt := 190) hx hb dX12_tree_162 (by decide) (fun hc => ?_) (fun hc => ?_)
                                  · replace hf := wb_t hc hf
                                    exact J190 I0_l134 L0_l134 M0_18 v19 y134_7 y134_8 H locs hP hD hS ls (lv_sub hl [1, 2, 3, 4, 0, 6, 7] rfl) hf
                                  · replace hf := wb_f hc hf
                                    refine lv_aload_n hx hb dX12_tree_165 rfl (lv_at hl 1 rfl) ?_
                                    refine va_get (D := D) (ci := 12) (v := .ref (a0 27)) (C := RX12) (T := TX12) (N := 58) hx hb hts hinX12 hown hK hP 0 rfl rfl 46 (by decide) (hts (.fieldLink RX12 95 "WheelBookModel" "inTree" "[Z") (List.mem_of_getElem? (i := 2) rfl)) (fun _ h9 => h9) rfl dX12_tree_166 ?_
                                    refine lv_iload hx hb dX12_tree_169 (lv_at hl 7 rfl) ?_
                                    obtain ⟨hin, hf⟩ := wb_n hf
                                    refine va_zald hx hb hK hP 27 2 rfl rfl hin dX12_tree_171 ?_
                                    refine lv_if_ne (tgt := 186) hx hb dX12_tree_172 (by decide) (fun hc => ?_) (fun hc => ?_)
                                    · replace hf := wb_f hc hf
                                      exact J186 I0_l134 L0_l134 M0_18 v19 y134_7 y134_8 H locs hP hD hS ls (lv_sub hl [1, 2, 3, 4, 0, 6, 7] rfl) hf
                                    · replace hf := wb_t hc hf
                                      refine lv_aload_n hx hb dX12_tree_175 rfl (lv_at hl 1 rfl) ?_
                                      refine va_get (D := D) (ci := 12) (v := .ref (a0 25)) (C := RX12) (T := TX12) (N := 58) hx hb hts hinX12 hown hK hP 0 rfl rfl 44 (by decide) (hts (.fieldLink RX12 89 "WheelBookModel" "row" "[I") (List.mem_of_getElem? (i := 4) rfl)) (fun _ h9 => h9) rfl dX12_tree_176 ?_
                                      refine lv_iload hx hb dX12_tree_179 (lv_at hl 7 rfl) ?_
                                      obtain ⟨hin, hf⟩ := wb_n hf
                                      refine va_iald hx hb hK hP 25 1 rfl rfl hin dX12_tree_181 ?_
                                      refine lv_iconst (v := (-1 : Int32)) hx hb dX12_tree_182 (by decide) ?_
                                      refine lv_icmp_ne (tgt := 190) hx hb dX12_tree_183 (by decide) (fun hc => ?_) (fun hc => ?_)
                                      · replace hf := wb_f hc hf
                                        exact J190 I0_l134 L0_l134 M0_18 v19 y134_7 y134_8 H locs hP hD hS ls (lv_sub hl [1, 2, 3, 4, 0, 6, 7] rfl) hf
                                      · replace hf := wb_t hc hf
                                        exact J186 I0_l134 L0_l134 M0_18 v19 y134_7 y134_8 H locs hP hD hS ls (lv_sub hl [1, 2, 3, 4, 0, 6, 7] rfl) hf
                            exact Lh134 N I0_l115 L0_l115 M0_l115 y115_4 (1 : Int32) (0 : Int32) (5 : Int32) H locs hP hD hS ls (lv_sub hl [4, 5, 6, 7, 3, 2, 1, 0] rfl) hf
                      exact Lh115 N I0_l94 L0_l94 M0_l94 (-1 : Int32) (0 : Int32) H locs hP hD hS ls (lv_sub hl [1, 2, 3, 0] rfl) hf
                    · replace hf := wb_f hc hf
                      refine lv_iload_n hx hb dX12_tree_101 rfl (lv_at hl 2 rfl) ?_
                      refine lv_bipush (v := (7 : Int32)) hx hb dX12_tree_102 (by decide) ?_
                      refine lv_imul hx hb dX12_tree_104 ?_
                      obtain ⟨v20, ev20, hf⟩ := wb_v hf
                      refine wb_topi ev20 ?_
                      refine lv_istore_n (lv' := [(3, .int v20), (0, .ref (a0 0)), (2, .int (-1 : Int32)), (4, .int y94_4)]) hx hb dX12_tree_105 rfl hl (by decide) rfl (fun ls hl => ?_)
                      obtain ⟨v21, ev21, hf⟩ := wb_v hf
                      refine lv_iinc (v := v21) (lv' := [(4, .int v21), (3, .int v20), (0, .ref (a0 0)), (2, .int (-1 : Int32))]) hx hb dX12_tree_106 hl (k := 3) rfl (by rw [ev21]; rfl) (by decide) rfl (fun ls hl => ?_)
                      refine lv_goto (tgt := 94) hx hb dX12_tree_109 (by decide) ?_
                      exact ih94 I0_l94 L0_l94 M0_l94 v20 v21 H locs hP hD hS ls (lv_sub hl [2, 3, 1, 0] rfl) hf
                exact Lh94 N I0_l57 L0_l57 M0_l57 (1 : Int32) (0 : Int32) H locs hP hD hS ls (lv_sub hl [3, 2, 1, 0] rfl) hf
              · replace hf := wb_f hc hf
                refine lv_aload_n hx hb dX12_tree_63 rfl (lv_at hl 0 rfl) ?_
                refine va_get (D := D) (ci := 12) (v := .ref (a0 26)) (C := RX12) (T := TX12) (N := 58) hx hb hts hinX12 hown hK hP 0 rfl rfl 45 (by decide) (hts (.fieldLink RX12 92 "WheelBookModel" "prices" "[I") (List.mem_of_getElem? (i := 3) rfl)) (fun _ h9 => h9) rfl dX12_tree_64 ?_
                refine lv_iload_n hx hb dX12_tree_67 rfl (lv_at hl 1 rfl) ?_
                refine lv_aload_n hx hb dX12_tree_68 rfl (lv_at hl 0 rfl) ?_
                refine lv_iload_n hx hb dX12_tree_69 rfl (lv_at hl 1 rfl) ?_
                refine lv_bipush (v := (6 : Int32)) hx hb dX12_tree_70 (by decide) ?_
                refine lv_idiv hx hb dX12_tree_72 (by decide) ?_
                refine lv_iload_n hx hb dX12_tree_73 rfl (lv_at hl 1 rfl) ?_
                refine lv_bipush (v := (6 : Int32)) hx hb dX12_tree_74 (by decide) ?_
                refine lv_irem hx hb dX12_tree_76 (by decide) ?_
                obtain ⟨r22, hr22, hf⟩ := wb_b hf
                refine vp_callSi (W.runV (As := [.int (y57_2 / (6 : Int32)), .int (y57_2 - y57_2 / (6 : Int32) * (6 : Int32))]) (rest := [.int y57_2, .ref (a0 26)]) ⟨hx, hb, hml, hown, hts⟩ (cn_X12_priceAll l D cB cI cZ N a0 I0_l57 L0_l57 M0_l57 (y57_2 / (6 : Int32)) (y57_2 - y57_2 / (6 : Int32) * (6 : Int32)) r22 hr22) (cwV 2 hts gX12_tree_X12_priceAll rfl rfl rfl cdX12_priceAll ⟨Nat.le_of_ble_eq_true rfl, Nat.le_of_ble_eq_true rfl⟩) (wb_preV hP hK (wr_12 hK hP (q0 := 0) rfl)) rfl rfl hl.1 rfl (lv_room (Nat.le_of_ble_eq_true rfl)) dX12_tree_77 ⟨Nat.le_of_ble_eq_true rfl, Nat.le_of_ble_eq_true rfl⟩) (fun r9 e9 => ?_)
                rw [e9]
                obtain ⟨hin, hf⟩ := wb_n hf
                refine va_iast hx hb hK hP hD hS 26 1 rfl rfl hin dX12_tree_80 (fun H locs hP hD hS => ?_)
                have hP : va_P D vwCl (wWX12 cB cI cZ a0 I0_l57 L0_l57 (wb_um M0_l57 25 (y57_2).toNatClampNeg r22)) H := hP
                have hD : va_D A (wWX12 cB cI cZ a0 I0_l57 L0_l57 (wb_um M0_l57 25 (y57_2).toNatClampNeg r22)) := hD
                obtain ⟨M0_23, eM0_23, hf⟩ := wb_v hf
                rw [← eM0_23] at hP hD
                obtain ⟨v24, ev24, hf⟩ := wb_v hf
                refine lv_iinc (v := v24) (lv' := [(2, .int v24), (0, .ref (a0 0))]) hx hb dX12_tree_81 hl (k := 1) rfl (by rw [ev24]; rfl) (by decide) rfl (fun ls hl => ?_)
                refine lv_goto (tgt := 57) hx hb dX12_tree_84 (by decide) ?_
                exact ih57 I0_l57 L0_l57 M0_23 v24 H locs hP hD hS ls (lv_sub hl [1, 0] rfl) hf
          exact Lh57 N I0_l9 L0_l9 M0_l9 (0 : Int32) H locs hP hD hS ls (lv_sub hl [1, 0] rfl) hf
        · replace hf := wb_t hc hf
          refine lv_iconst (v := (-1 : Int32)) hx hb dX12_tree_53 (by decide) ?_
          exact W.iret (v := (-1 : Int32)) hx hb hr (fun t ht hW => by rw [← Option.some.inj hf]; exact ⟨⟨(-1 : Int32), (), rfl, rfl, by rw [ht]; exact hP, va_K.moved hW.alike hK, hD⟩, hS.F ht⟩) hS.2.2 dX12_tree_54
      · replace hf := wb_f hc hf
        refine lv_aload_n hx hb dX12_tree_15 rfl (lv_at hl 0 rfl) ?_
        refine va_get (D := D) (ci := 12) (v := .ref (a0 27)) (C := RX12) (T := TX12) (N := 58) hx hb hts hinX12 hown hK hP 0 rfl rfl 46 (by decide) (hts (.fieldLink RX12 95 "WheelBookModel" "inTree" "[Z") (List.mem_of_getElem? (i := 2) rfl)) (fun _ h9 => h9) rfl dX12_tree_16 ?_
        refine lv_iload_n hx hb dX12_tree_19 rfl (lv_at hl 2 rfl) ?_
        refine lv_aload_n hx hb dX12_tree_20 rfl (lv_at hl 0 rfl) ?_
        refine lv_iload_n hx hb dX12_tree_21 rfl (lv_at hl 2 rfl) ?_
        obtain ⟨r25, hr25, hf⟩ := wb_b hf
        refine vp_callSi (W.runV (As := [.int y9_2]) (rest := [.int y9_2, .ref (a0 27)]) ⟨hx, hb, hml, hown, hts⟩ (cn_X12_bookTells l D cB cI cZ N a0 I0_l9 L0_l9 M0_l9 y9_2 r25 hr25) (cwV 1 hts gX12_tree_X12_bookTells rfl rfl rfl cdX12_bookTells ⟨Nat.le_of_ble_eq_true rfl, Nat.le_of_ble_eq_true rfl⟩) (wb_preV hP hK (wr_12 hK hP (q0 := 0) rfl)) rfl rfl hl.1 rfl (lv_room (Nat.le_of_ble_eq_true rfl)) dX12_tree_22 ⟨Nat.le_of_ble_eq_true rfl, Nat.le_of_ble_eq_true rfl⟩) (fun r9 e9 => ?_)
        rw [e9]
        obtain ⟨hin, hf⟩ := wb_n hf
        refine va_zast hx hb hK hP hD hS 27 2 rfl rfl hin dX12_tree_25 (fun H locs hP hD hS => ?_)
        have hP : va_P D vwCl (wWX12 cB cI cZ a0 I0_l9 L0_l9 (wb_um M0_l9 26 (y9_2).toNatClampNeg (vp_nar .boolean r25))) H := hP
        have hD : va_D A (wWX12 cB cI cZ a0 I0_l9 L0_l9 (wb_um M0_l9 26 (y9_2).toNatClampNeg (vp_nar .boolean r25))) := hD
        obtain ⟨M0_26, eM0_26, hf⟩ := wb_v hf
        rw [← eM0_26] at hP hD
        refine lv_iload_n hx hb dX12_tree_26 rfl (lv_at hl 1 rfl) ?_
        refine lv_aload_n hx hb dX12_tree_27 rfl (lv_at hl 0 rfl) ?_
        refine va_get (D := D) (ci := 12) (v := .ref (a0 27)) (C := RX12) (T := TX12) (N := 58) hx hb hts hinX12 hown hK hP 0 rfl rfl 46 (by decide) (hts (.fieldLink RX12 95 "WheelBookModel" "inTree" "[Z") (List.mem_of_getElem? (i := 2) rfl)) (fun _ h9 => h9) rfl dX12_tree_28 ?_
        refine lv_iload_n hx hb dX12_tree_31 rfl (lv_at hl 2 rfl) ?_
        obtain ⟨hin, hf⟩ := wb_n hf
        refine va_zald hx hb hK hP 27 2 rfl rfl hin dX12_tree_32 ?_
        refine lv_if_eq (tgt := 40) hx hb dX12_tree_33 (by decide) (fun hc => ?_) (fun hc => ?_)
        · replace hf := wb_t hc hf
          refine lv_iconst (v := (0 : Int32)) hx hb dX12_tree_40 (by decide) ?_
          refine lv_iadd hx hb dX12_tree_41 ?_
          obtain ⟨v27, ev27, hf⟩ := wb_v hf
          refine wb_topi ev27 ?_
          refine lv_istore_n (lv' := [(1, .int v27), (0, .ref (a0 0)), (2, .int y9_2)]) hx hb dX12_tree_42 rfl hl (by decide) rfl (fun ls hl => ?_)
          obtain ⟨v28, ev28, hf⟩ := wb_v hf
          refine lv_iinc (v := v28) (lv' := [(2, .int v28), (1, .int v27), (0, .ref (a0 0))]) hx hb dX12_tree_43 hl (k := 2) rfl (by rw [ev28]; rfl) (by decide) rfl (fun ls hl => ?_)
          refine lv_goto (tgt := 9) hx hb dX12_tree_46 (by decide) ?_
          exact ih9 I0_l9 L0_l9 M0_26 v27 v28 H locs hP hD hS ls (lv_sub hl [2, 1, 0] rfl) hf
        · replace hf := wb_f hc hf
          refine lv_iconst (v := (1 : Int32)) hx hb dX12_tree_36 (by decide) ?_
          refine lv_goto (tgt := 41) hx hb dX12_tree_37 (by decide) ?_
          refine lv_iadd hx hb dX12_tree_41 ?_
          obtain ⟨v29, ev29, hf⟩ := wb_v hf
          refine wb_topi ev29 ?_
          refine lv_istore_n (lv' := [(1, .int v29), (0, .ref (a0 0)), (2, .int y9_2)]) hx hb dX12_tree_42 rfl hl (by decide) rfl (fun ls hl => ?_)
          obtain ⟨v30, ev30, hf⟩ := wb_v hf
          refine lv_iinc (v := v30) (lv' := [(2, .int v30), (1, .int v29), (0, .ref (a0 0))]) hx hb dX12_tree_43 hl (k := 2) rfl (by rw [ev30]; rfl) (by decide) rfl (fun ls hl => ?_)
          refine lv_goto (tgt := 9) hx hb dX12_tree_46 (by decide) ?_
          exact ih9 I0_l9 L0_l9 M0_26 v29 v30 H locs hP hD hS ls (lv_sub hl [2, 1, 0] rfl) hf
  exact Lh9 N I0_1 L0 M0 (0 : Int32) (0 : Int32) H locs hP hD hS ls (lv_sub hl [2, 1, 0] rfl) hf

set_option maxHeartbeats 4000000 in
set_option maxRecDepth 100000 in
theorem cn_X12_whence (l : Launch) (D : va_G) (cB cI cZ : ClassId) (N : Nat) (a0 : Nat → Nat) (I0 : Nat → Int32) (L0 : Int64) (M0 : Nat → Nat → Int32) (x1 : Int32) (sz : Nat) (R : Int32 × (Nat → Int32) × Int64 × (Nat → Nat → Int32)) (hf : fX12_whence N I0 L0 M0 x1 = some R) : Met l yX12_whence wsX12_whence ({ frames := 2, cells := 0, slots := 0, locals := 43 }) (va_Pc [.ref (a0 0), .int x1] (wb_preD D [(cB, .byte), (cI, .int), (cZ, .boolean)] (wWX12 cB cI cZ a0 I0 L0 M0) sz)) (va_Qi (fun r (_ : Unit) => r = R.1) (fun _ t => wb_post D [(cB, .byte), (cI, .int), (cZ, .boolean)] (va_A (wWX12 cB cI cZ a0 I0 L0 M0) sz) (wWX12 cB cI cZ a0 R.2.1 R.2.2.1 R.2.2.2) t) (va_A (wWX12 cB cI cZ a0 I0 L0 M0) sz)) 0 0 (va_A (wWX12 cB cI cZ a0 I0 L0 M0) sz) := by
  refine Met.ofW (cc := cX12_whence) (maxL := 2) (ret := (some .int)) pn_X12 rfl ?_
  intro p e s m args below meth c s₁ B hml hv
  obtain ⟨rfl, hsz, hP, hK, hD0⟩ := hv
  have hx := B.exec
  have hb := B.bytes
  have hr := B.returns
  have hts := atoms_spec (ws := wsX12_whence) B.pre
  have hown : s.vm.findClass RX12 = some m.cls := (findClass_of_methodNamed B.named :)
  have hlocks := B.notSynchronized
  have hinX12 : ∀ w ∈ u_ws RX12 TX12 58, w ∈ wsX12_whence := fun w h => List.mem_cons_of_mem _ (List.mem_append_right _ h)
  subst hsz
  have hD := hD0.self (sz := s.heap.size)
  generalize hAe : va_A (wWX12 cB cI cZ a0 I0 L0 M0) s.heap.size = A at hD ⊢
  have hA : ∀ q : Nat, s.heap.size ≤ q → A q := fun q h => by rw [← hAe]; exact Or.inr h
  have hS : va_S A s.heap s.heap [] := va_S.rf
  have hl := lv_entry ([.ref (a0 0), .int x1]) (n := 2) (Nat.le_of_ble_eq_true rfl)
  rw [lg_entry_eq]
  generalize (lg_sl ([.ref (a0 0), .int x1]) ++ List.replicate (2 - (lg_sl ([.ref (a0 0), .int x1])).length) Slot.unset).toArray = ls at hl ⊢
  have hl : lv_has ls 2 [(0, .ref (a0 0)), (1, .int x1)] := hl
  unfold fX12_whence at hf
  obtain ⟨H, hHe⟩ : ∃ H : Heap, H = s.heap := ⟨_, rfl⟩
  obtain ⟨locs, hle⟩ : ∃ locs : List Loc, locs = [] := ⟨_, rfl⟩
  refine wb_start (H := H) (locs := locs) hHe hle ?_
  rw [← hHe] at hP
  have hS : va_S A s.heap H locs := by rw [hHe, hle]; exact va_S.rf
  have J37 : ∀ (I0_j37 : Nat → Int32) (L0_j37 : Int64) (M0_j37 : Nat → Nat → Int32) (z37_0 : Int32) (H : Heap) (locs : List Loc), va_P D vwCl (wWX12 cB cI cZ a0 I0_j37 L0_j37 M0_j37) H → va_D A (wWX12 cB cI cZ a0 I0_j37 L0_j37 M0_j37) → va_S A s.heap H locs → ∀ (ls : Array Slot), lv_has ls 2 [(0, .ref (a0 0)), (1, .int x1)] → fX12_whence_J37 N x1 I0_j37 L0_j37 M0_j37 z37_0 = some R → W p l e (headSpec wsX12_whence { frames := 2, cells := 0, slots := 0, locals := 43 }).room s m [.ref (a0 0), .int x1].toArray below meth c H locs 0 0 (MQ below (va_Qi (fun r (_ : Unit) => r = R.1) (fun _ t => wb_post D [(cB, .byte), (cI, .int), (cZ, .boolean)] A (wWX12 cB cI cZ a0 R.2.1 R.2.2.1 R.2.2.2) t) A) [.ref (a0 0), .int x1].toArray s 0 0 A) (F0 m 37 ls [.int z37_0, .ref (a0 0)]) := by
    intro I0_j37 L0_j37 M0_j37 z37_0 H locs hP hD hS ls hl hf
    unfold fX12_whence_J37 at hf
    refine lv_iconst (v := (1 : Int32)) hx hb dX12_whence_37 (by decide) ?_
    obtain ⟨r1, hr1, hf⟩ := wb_b hf
    have hPc := hP
    have hDc := hD
    have hFc := wj_F hDc hS hA
    refine va_calli (va_runV (As := [.int z37_0, .int (1 : Int32)]) (rest := []) ⟨hx, hb, hml, hown, hts⟩ (cn_X12_right l D cB cI cZ N a0 I0_j37 L0_j37 M0_j37 z37_0 (1 : Int32) H.size r1 hr1) (cwV 2 hts gX12_whence_X12_right rfl rfl rfl cdX12_right ⟨Nat.le_of_ble_eq_true rfl, Nat.le_of_ble_eq_true rfl⟩) (wb_preDV hPc hK hDc (wr_12 hK hP (q0 := 0) rfl)) rfl rfl hl.1 rfl (lv_room (Nat.le_of_ble_eq_true rfl)) dX12_whence_38 ⟨Nat.le_of_ble_eq_true rfl, Nat.le_of_ble_eq_true rfl⟩) hS (fun q _ h => hFc q h) hFc (fun r9 u t H locs ht hvm hw hB hz1 hk1 hS => ?_)
    obtain ⟨hP, hD⟩ := wj_0 hFc ht hB
    rw [hw]
    refine lv_if_ne (tgt := 46) hx hb dX12_whence_41 (by decide) (fun hc => ?_) (fun hc => ?_)
    · replace hf := wb_f hc hf
      refine lv_aload_n hx hb dX12_whence_46 rfl (lv_at hl 0 rfl) ?_
      refine va_get (D := D) (ci := 12) (v := .ref (a0 24)) (C := RX12) (T := TX12) (N := 58) hx hb hts hinX12 hown hK hP 0 rfl rfl 43 (by decide) (hts (.fieldLink RX12 86 "WheelBookModel" "whence" "[I") (List.mem_of_getElem? (i := 3) rfl)) (fun _ h9 => h9) rfl dX12_whence_47 ?_
      refine lv_iload_n hx hb dX12_whence_50 rfl (lv_at hl 1 rfl) ?_
      obtain ⟨hin, hf⟩ := wb_n hf
      refine va_iald hx hb hK hP 24 1 rfl rfl hin dX12_whence_51 ?_
      exact W.iret (v := (r1.2.2.2 23 (x1).toNatClampNeg)) hx hb hr (fun t ht hW => by rw [← Option.some.inj hf]; exact ⟨⟨(r1.2.2.2 23 (x1).toNatClampNeg), (), rfl, rfl, by rw [ht]; exact hP, va_K.moved hW.alike hK, hD⟩, hS.F ht⟩) hS.2.2 dX12_whence_52
    · replace hf := wb_t hc hf
      refine lv_iconst (v := (0 : Int32)) hx hb dX12_whence_44 (by decide) ?_
      exact W.iret (v := (0 : Int32)) hx hb hr (fun t ht hW => by rw [← Option.some.inj hf]; exact ⟨⟨(0 : Int32), (), rfl, rfl, by rw [ht]; exact hP, va_K.moved hW.alike hK, hD⟩, hS.F ht⟩) hS.2.2 dX12_whence_45
  have J36 : ∀ (I0_j36 : Nat → Int32) (L0_j36 : Int64) (M0_j36 : Nat → Nat → Int32) (H : Heap) (locs : List Loc), va_P D vwCl (wWX12 cB cI cZ a0 I0_j36 L0_j36 M0_j36) H → va_D A (wWX12 cB cI cZ a0 I0_j36 L0_j36 M0_j36) → va_S A s.heap H locs → ∀ (ls : Array Slot), lv_has ls 2 [(0, .ref (a0 0)), (1, .int x1)] → fX12_whence_J36 N x1 I0_j36 L0_j36 M0_j36 = some R → W p l e (headSpec wsX12_whence { frames := 2, cells := 0, slots := 0, locals := 43 }).room s m [.ref (a0 0), .int x1].toArray below meth c H locs 0 0 (MQ below (va_Qi (fun r (_ : Unit) => r = R.1) (fun _ t => wb_post D [(cB, .byte), (cI, .int), (cZ, .boolean)] A (wWX12 cB cI cZ a0 R.2.1 R.2.2.1 R.2.2.2) t) A) [.ref (a0 0), .int x1].toArray s 0 0 A) (F0 m 36 ls [.ref (a0 0)]) := by
    intro I0_j36 L0_j36 M0_j36 H locs hP hD hS ls hl hf
    unfold fX12_whence_J36 at hf
    refine lv_iconst (v := (0 : Int32)) hx hb dX12_whence_36 (by decide) ?_
    exact J37 I0_j36 L0_j36 M0_j36 (0 : Int32) H locs hP hD hS ls (lv_sub hl [0, 1] rfl) hf
  refine lv_aload_n hx hb dX12_whence_0 rfl (lv_at hl 0 rfl) ?_
  refine lv_iconst (v := (0 : Int32)) hx hb dX12_whence_1 (by decide) ?_
  refine va_put (D := D) (ci := 12) (v := .int (0 : Int32)) (ty := .int) (C := RX12) (T := TX12) (N := 58) hx hb hts hinX12 tyX12 tyX12_ok nmX12 hown hK hP hD hS 0 rfl rfl 0 (by decide) (hts (.fieldLink RX12 129 "WheelBookModel" "thrown" "I") (List.mem_of_getElem? (i := 1) rfl)) (fun _ h9 => h9) rfl (by decide +kernel) rfl rfl (Nat.le_of_ble_eq_true rfl) dX12_whence_2 (fun H locs hP hD hS => ?_)
  have hP : va_P D vwCl (wWX12 cB cI cZ a0 (upd I0 0 (0 : Int32)) L0 M0) H := hP
  have hD : va_D A (wWX12 cB cI cZ a0 (upd I0 0 (0 : Int32)) L0 M0) := hD
  obtain ⟨I0_2, eI0_2, hf⟩ := wb_v hf
  rw [← eI0_2] at hP hD
  refine lv_aload_n hx hb dX12_whence_5 rfl (lv_at hl 0 rfl) ?_
  refine lv_iload_n hx hb dX12_whence_6 rfl (lv_at hl 1 rfl) ?_
  obtain ⟨r3, hr3, hf⟩ := wb_b hf
  have hPc := hP
  have hDc := hD
  have hFc := wj_F hDc hS hA
  refine va_calli (va_runV (As := [.int x1]) (rest := []) ⟨hx, hb, hml, hown, hts⟩ (cn_X12_isBook l D cB cI cZ N a0 I0_2 L0 M0 x1 H.size r3 hr3) (cwV 1 hts gX12_whence_X12_isBook rfl rfl rfl cdX12_isBook ⟨Nat.le_of_ble_eq_true rfl, Nat.le_of_ble_eq_true rfl⟩) (wb_preDV hPc hK hDc (wr_12 hK hP (q0 := 0) rfl)) rfl rfl hl.1 rfl (lv_room (Nat.le_of_ble_eq_true rfl)) dX12_whence_7 ⟨Nat.le_of_ble_eq_true rfl, Nat.le_of_ble_eq_true rfl⟩) hS (fun q _ h => hFc q h) hFc (fun r9 u t H locs ht hvm hw hB hz1 hk1 hS => ?_)
  obtain ⟨hP, hD⟩ := wj_0 hFc ht hB
  rw [hw]
  refine lv_if_eq (tgt := 44) hx hb dX12_whence_10 (by decide) (fun hc => ?_) (fun hc => ?_)
  · replace hf := wb_t hc hf
    refine lv_iconst (v := (0 : Int32)) hx hb dX12_whence_44 (by decide) ?_
    exact W.iret (v := (0 : Int32)) hx hb hr (fun t ht hW => by rw [← Option.some.inj hf]; exact ⟨⟨(0 : Int32), (), rfl, rfl, by rw [ht]; exact hP, va_K.moved hW.alike hK, hD⟩, hS.F ht⟩) hS.2.2 dX12_whence_45
  · replace hf := wb_f hc hf
    refine lv_aload_n hx hb dX12_whence_13 rfl (lv_at hl 0 rfl) ?_
    refine lv_aload_n hx hb dX12_whence_14 rfl (lv_at hl 0 rfl) ?_
    refine va_get (D := D) (ci := 12) (v := .int (r3.2.1 18)) (C := RX12) (T := TX12) (N := 58) hx hb hts hinX12 hown hK hP 0 rfl rfl 42 (by decide) (hts (.fieldLink RX12 350 "WheelBookModel" "hasTree" "Z") (List.mem_of_getElem? (i := 2) rfl)) (fun _ h9 => h9) rfl dX12_whence_15 ?_
    refine lv_if_eq (tgt := 36) hx hb dX12_whence_18 (by decide) (fun hc => ?_) (fun hc => ?_)
    · replace hf := wb_t hc hf
      exact J36 r3.2.1 r3.2.2.1 r3.2.2.2 H locs hP hD hS ls (lv_sub hl [0, 1] rfl) hf
    · replace hf := wb_f hc hf
      refine lv_aload_n hx hb dX12_whence_21 rfl (lv_at hl 0 rfl) ?_
      refine va_get (D := D) (ci := 12) (v := .ref (a0 24)) (C := RX12) (T := TX12) (N := 58) hx hb hts hinX12 hown hK hP 0 rfl rfl 43 (by decide) (hts (.fieldLink RX12 86 "WheelBookModel" "whence" "[I") (List.mem_of_getElem? (i := 3) rfl)) (fun _ h9 => h9) rfl dX12_whence_22 ?_
      refine lv_iload_n hx hb dX12_whence_25 rfl (lv_at hl 1 rfl) ?_
      obtain ⟨hin, hf⟩ := wb_n hf
      refine va_iald hx hb hK hP 24 1 rfl rfl hin dX12_whence_26 ?_
      refine lv_bipush (v := (-2 : Int32)) hx hb dX12_whence_27 (by decide) ?_
      refine lv_icmp_eq (tgt := 36) hx hb dX12_whence_29 (by decide) (fun hc => ?_) (fun hc => ?_)
      · replace hf := wb_t hc hf
        exact J36 r3.2.1 r3.2.2.1 r3.2.2.2 H locs hP hD hS ls (lv_sub hl [0, 1] rfl) hf
      · replace hf := wb_f hc hf
        refine lv_iconst (v := (1 : Int32)) hx hb dX12_whence_32 (by decide) ?_
        refine lv_goto (tgt := 37) hx hb dX12_whence_33 (by decide) ?_
        exact J37 r3.2.1 r3.2.2.1 r3.2.2.2 (1 : Int32) H locs hP hD hS ls (lv_sub hl [0, 1] rfl) hf

set_option maxHeartbeats 4000000 in
set_option maxRecDepth 100000 in
theorem cn_X12_slips (l : Launch) (D : va_G) (cB cI cZ : ClassId) (N : Nat) (a0 : Nat → Nat) (I0 : Nat → Int32) (L0 : Int64) (M0 : Nat → Nat → Int32) (x1 : Int32) (x2 : Int32) (sz : Nat) (R : Int32 × (Nat → Int32) × Int64 × (Nat → Nat → Int32)) (hf : fX12_slips N I0 L0 M0 x1 x2 = some R) : Met l yX12_slips wsX12_slips ({ frames := 2, cells := 0, slots := 0, locals := 46 }) (va_Pc [.ref (a0 0), .int x1, .int x2] (wb_preD D [(cB, .byte), (cI, .int), (cZ, .boolean)] (wWX12 cB cI cZ a0 I0 L0 M0) sz)) (va_Qi (fun r (_ : Unit) => r = R.1) (fun _ t => wb_post D [(cB, .byte), (cI, .int), (cZ, .boolean)] (va_A (wWX12 cB cI cZ a0 I0 L0 M0) sz) (wWX12 cB cI cZ a0 R.2.1 R.2.2.1 R.2.2.2) t) (va_A (wWX12 cB cI cZ a0 I0 L0 M0) sz)) 0 0 (va_A (wWX12 cB cI cZ a0 I0 L0 M0) sz) := by
  refine Met.ofW (cc := cX12_slips) (maxL := 9) (ret := (some .int)) pn_X12 rfl ?_
  intro p e s m args below meth c s₁ B hml hv
  obtain ⟨rfl, hsz, hP, hK, hD0⟩ := hv
  have hx := B.exec
  have hb := B.bytes
  have hr := B.returns
  have hts := atoms_spec (ws := wsX12_slips) B.pre
  have hown : s.vm.findClass RX12 = some m.cls := (findClass_of_methodNamed B.named :)
  have hlocks := B.notSynchronized
  have hinX12 : ∀ w ∈ u_ws RX12 TX12 58, w ∈ wsX12_slips := fun w h => List.mem_cons_of_mem _ (List.mem_append_right _ h)
  subst hsz
  have hD := hD0.self (sz := s.heap.size)
  generalize hAe : va_A (wWX12 cB cI cZ a0 I0 L0 M0) s.heap.size = A at hD ⊢
  have hA : ∀ q : Nat, s.heap.size ≤ q → A q := fun q h => by rw [← hAe]; exact Or.inr h
  have hS : va_S A s.heap s.heap [] := va_S.rf
  have hl := lv_entry ([.ref (a0 0), .int x1, .int x2]) (n := 9) (Nat.le_of_ble_eq_true rfl)
  rw [lg_entry_eq]
  generalize (lg_sl ([.ref (a0 0), .int x1, .int x2]) ++ List.replicate (9 - (lg_sl ([.ref (a0 0), .int x1, .int x2])).length) Slot.unset).toArray = ls at hl ⊢
  have hl : lv_has ls 9 [(0, .ref (a0 0)), (1, .int x1), (2, .int x2)] := hl
  unfold fX12_slips at hf
  obtain ⟨H, hHe⟩ : ∃ H : Heap, H = s.heap := ⟨_, rfl⟩
  obtain ⟨locs, hle⟩ : ∃ locs : List Loc, locs = [] := ⟨_, rfl⟩
  refine wb_start (H := H) (locs := locs) hHe hle ?_
  rw [← hHe] at hP
  have hS : va_S A s.heap H locs := by rw [hHe, hle]; exact va_S.rf
  have J38 : ∀ (I0_j38 : Nat → Int32) (L0_j38 : Int64) (M0_j38 : Nat → Nat → Int32) (z38_0 : Int32) (H : Heap) (locs : List Loc), va_P D vwCl (wWX12 cB cI cZ a0 I0_j38 L0_j38 M0_j38) H → va_D A (wWX12 cB cI cZ a0 I0_j38 L0_j38 M0_j38) → va_S A s.heap H locs → ∀ (ls : Array Slot), lv_has ls 9 [(0, .ref (a0 0)), (1, .int x1), (2, .int x2)] → fX12_slips_J38 N x1 x2 I0_j38 L0_j38 M0_j38 z38_0 = some R → W p l e (headSpec wsX12_slips { frames := 2, cells := 0, slots := 0, locals := 46 }).room s m [.ref (a0 0), .int x1, .int x2].toArray below meth c H locs 0 0 (MQ below (va_Qi (fun r (_ : Unit) => r = R.1) (fun _ t => wb_post D [(cB, .byte), (cI, .int), (cZ, .boolean)] A (wWX12 cB cI cZ a0 R.2.1 R.2.2.1 R.2.2.2) t) A) [.ref (a0 0), .int x1, .int x2].toArray s 0 0 A) (F0 m 38 ls [.int z38_0, .ref (a0 0)]) := by
    intro I0_j38 L0_j38 M0_j38 z38_0 H locs hP hD hS ls hl hf
    unfold fX12_slips_J38 at hf
    refine lv_iconst (v := (1 : Int32)) hx hb dX12_slips_38 (by decide) ?_
    obtain ⟨r1, hr1, hf⟩ := wb_b hf
    have hPc := hP
    have hDc := hD
    have hFc := wj_F hDc hS hA
    refine va_calli (va_runV (As := [.int z38_0, .int (1 : Int32)]) (rest := []) ⟨hx, hb, hml, hown, hts⟩ (cn_X12_right l D cB cI cZ N a0 I0_j38 L0_j38 M0_j38 z38_0 (1 : Int32) H.size r1 hr1) (cwV 2 hts gX12_slips_X12_right rfl rfl rfl cdX12_right ⟨Nat.le_of_ble_eq_true rfl, Nat.le_of_ble_eq_true rfl⟩) (wb_preDV hPc hK hDc (wr_12 hK hP (q0 := 0) rfl)) rfl rfl hl.1 rfl (lv_room (Nat.le_of_ble_eq_true rfl)) dX12_slips_39 ⟨Nat.le_of_ble_eq_true rfl, Nat.le_of_ble_eq_true rfl⟩) hS (fun q _ h => hFc q h) hFc (fun r9 u t H locs ht hvm hw hB hz1 hk1 hS => ?_)
    obtain ⟨hP, hD⟩ := wj_0 hFc ht hB
    rw [hw]
    refine lv_if_ne (tgt := 47) hx hb dX12_slips_42 (by decide) (fun hc => ?_) (fun hc => ?_)
    · replace hf := wb_f hc hf
      refine lv_iconst (v := (0 : Int32)) hx hb dX12_slips_47 (by decide) ?_
      refine lv_istore_n (lv' := [(3, .int (0 : Int32)), (0, .ref (a0 0)), (1, .int x1), (2, .int x2)]) hx hb dX12_slips_48 rfl hl (by decide) rfl (fun ls hl => ?_)
      refine lv_iconst (v := (0 : Int32)) hx hb dX12_slips_49 (by decide) ?_
      refine lv_istore (lv' := [(4, .int (0 : Int32)), (3, .int (0 : Int32)), (0, .ref (a0 0)), (1, .int x1), (2, .int x2)]) hx hb dX12_slips_50 hl (by decide) rfl (fun ls hl => ?_)
      have Lh52 : ∀ (fu52 : Nat) (I0_l52 : Nat → Int32) (L0_l52 : Int64) (M0_l52 : Nat → Nat → Int32) (y52_3 : Int32) (y52_4 : Int32) (H : Heap) (locs : List Loc), va_P D vwCl (wWX12 cB cI cZ a0 I0_l52 L0_l52 M0_l52) H → va_D A (wWX12 cB cI cZ a0 I0_l52 L0_l52 M0_l52) → va_S A s.heap H locs → ∀ (ls : Array Slot), lv_has ls 9 [(0, .ref (a0 0)), (1, .int x1), (2, .int x2), (3, .int y52_3), (4, .int y52_4)] → fX12_slips_L52 N x1 x2 fu52 I0_l52 L0_l52 M0_l52 y52_3 y52_4 = some R → W p l e (headSpec wsX12_slips { frames := 2, cells := 0, slots := 0, locals := 46 }).room s m [.ref (a0 0), .int x1, .int x2].toArray below meth c H locs 0 0 (MQ below (va_Qi (fun r (_ : Unit) => r = R.1) (fun _ t => wb_post D [(cB, .byte), (cI, .int), (cZ, .boolean)] A (wWX12 cB cI cZ a0 R.2.1 R.2.2.1 R.2.2.2) t) A) [.ref (a0 0), .int x1, .int x2].toArray s 0 0 A) (F0 m 52 ls []) := by
        intro fu52
        induction fu52 with
        | zero =>
          intro I0_l52 L0_l52 M0_l52 y52_3 y52_4 H locs hP hD hS ls hl hf
          exact absurd hf (by rw [fX12_slips_L52.eq_1]; exact fun h => nomatch h)
        | succ fu52 ih52 =>
          intro I0_l52 L0_l52 M0_l52 y52_3 y52_4 H locs hP hD hS ls hl hf
          rw [fX12_slips_L52.eq_2] at hf
          refine lv_iload hx hb dX12_slips_52 (lv_at hl 4 rfl) ?_
          refine lv_bipush (v := (6 : Int32)) hx hb dX12_slips_54 (by decide) ?_
          refine lv_icmp_ge (tgt := 217) hx hb dX12_slips_56 (by decide) (fun hc => ?_) (fun hc => ?_)
          · replace hf := wb_t hc hf
            refine lv_iload_n hx hb dX12_slips_217 rfl (lv_at hl 3 rfl) ?_
            exact W.iret (v := y52_3) hx hb hr (fun t ht hW => by rw [← Option.some.inj hf]; exact ⟨⟨y52_3, (), rfl, rfl, by rw [ht]; exact hP, va_K.moved hW.alike hK, hD⟩, hS.F ht⟩) hS.2.2 dX12_slips_218
          · replace hf := wb_f hc hf
            refine lv_iconst (v := (0 : Int32)) hx hb dX12_slips_59 (by decide) ?_
            refine lv_istore (lv' := [(5, .int (0 : Int32)), (0, .ref (a0 0)), (1, .int x1), (2, .int x2), (3, .int y52_3), (4, .int y52_4)]) hx hb dX12_slips_60 hl (by decide) rfl (fun ls hl => ?_)
            have Lh62 : ∀ (fu62 : Nat) (I0_l62 : Nat → Int32) (L0_l62 : Int64) (M0_l62 : Nat → Nat → Int32) (y62_3 : Int32) (y62_5 : Int32) (H : Heap) (locs : List Loc), va_P D vwCl (wWX12 cB cI cZ a0 I0_l62 L0_l62 M0_l62) H → va_D A (wWX12 cB cI cZ a0 I0_l62 L0_l62 M0_l62) → va_S A s.heap H locs → ∀ (ls : Array Slot), lv_has ls 9 [(0, .ref (a0 0)), (1, .int x1), (2, .int x2), (3, .int y62_3), (4, .int y52_4), (5, .int y62_5)] → fX12_slips_L62 N x1 x2 y52_4 (fX12_slips_L52 N x1 x2 fu52) fu62 I0_l62 L0_l62 M0_l62 y62_3 y62_5 = some R → W p l e (headSpec wsX12_slips { frames := 2, cells := 0, slots := 0, locals := 46 }).room s m [.ref (a0 0), .int x1, .int x2].toArray below meth c H locs 0 0 (MQ below (va_Qi (fun r (_ : Unit) => r = R.1) (fun _ t => wb_post D [(cB, .byte), (cI, .int), (cZ, .boolean)] A (wWX12 cB cI cZ a0 R.2.1 R.2.2.1 R.2.2.2) t) A) [.ref (a0 0), .int x1, .int x2].toArray s 0 0 A) (F0 m 62 ls []) := by
              intro fu62
              induction fu62 with
              | zero =>
                intro I0_l62 L0_l62 M0_l62 y62_3 y62_5 H locs hP hD hS ls hl hf
                exact absurd hf (by rw [fX12_slips_L62.eq_1]; exact fun h => nomatch h)
              | succ fu62 ih62 =>
                have J178 : ∀ (I0_j178 : Nat → Int32) (L0_j178 : Int64) (M0_j178 : Nat → Nat → Int32) (y178_3 : Int32) (y178_5 : Int32) (y178_6 : Int32) (y178_7 : Int32) (y178_8 : Int32) (H : Heap) (locs : List Loc), va_P D vwCl (wWX12 cB cI cZ a0 I0_j178 L0_j178 M0_j178) H → va_D A (wWX12 cB cI cZ a0 I0_j178 L0_j178 M0_j178) → va_S A s.heap H locs → ∀ (ls : Array Slot), lv_has ls 9 [(0, .ref (a0 0)), (1, .int x1), (2, .int x2), (3, .int y178_3), (4, .int y52_4), (5, .int y178_5), (6, .int y178_6), (7, .int y178_7), (8, .int y178_8)] → fX12_slips_J178 N x1 x2 y52_4 (fX12_slips_L52 N x1 x2 fu52) (fX12_slips_L62 N x1 x2 y52_4 (fX12_slips_L52 N x1 x2 fu52) fu62) I0_j178 L0_j178 M0_j178 y178_3 y178_5 y178_6 y178_7 y178_8 = some R → W p l e (headSpec wsX12_slips { frames := 2, cells := 0, slots := 0, locals := 46 }).room s m [.ref (a0 0), .int x1, .int x2].toArray below meth c H locs 0 0 (MQ below (va_Qi (fun r (_ : Unit) => r = R.1) (fun _ t => wb_post D [(cB, .byte), (cI, .int), (cZ, .boolean)] A (wWX12 cB cI cZ a0 R.2.1 R.2.2.1 R.2.2.2) t) A) [.ref (a0 0), .int x1, .int x2].toArray s 0 0 A) (F0 m 178 ls []) := by
                  intro I0_j178 L0_j178 M0_j178 y178_3 y178_5 y178_6 y178_7 y178_8 H locs hP hD hS ls hl hf
                  unfold fX12_slips_J178 at hf
                  refine lv_iload hx hb dX12_slips_178 (lv_at hl 8 rfl) ?_
                  refine lv_iconst (v := (2 : Int32)) hx hb dX12_slips_180 (by decide) ?_
                  refine lv_icmp_ne (tgt := 205) hx hb dX12_slips_181 (by decide) (fun hc => ?_) (fun hc => ?_)
                  · replace hf := wb_f hc hf
                    obtain ⟨v2, ev2, hf⟩ := wb_v hf
                    refine lv_iinc (v := v2) (lv' := [(5, .int v2), (0, .ref (a0 0)), (1, .int x1), (2, .int x2), (3, .int y178_3), (4, .int y52_4), (6, .int y178_6), (7, .int y178_7), (8, .int y178_8)]) hx hb dX12_slips_205 hl (k := 5) rfl (by rw [ev2]; rfl) (by decide) rfl (fun ls hl => ?_)
                    refine lv_goto (tgt := 62) hx hb dX12_slips_208 (by decide) ?_
                    exact ih62 I0_j178 L0_j178 M0_j178 y178_3 v2 H locs hP hD hS ls (lv_sub hl [1, 2, 3, 4, 5, 0] rfl) hf
                  · replace hf := wb_t hc hf
                    refine lv_iload hx hb dX12_slips_184 (lv_at hl 6 rfl) ?_
                    refine lv_bipush (v := (30 : Int32)) hx hb dX12_slips_186 (by decide) ?_
                    refine lv_idiv hx hb dX12_slips_188 (by decide) ?_
                    refine lv_iload_n hx hb dX12_slips_189 rfl (lv_at hl 1 rfl) ?_
                    refine lv_icmp_ne (tgt := 205) hx hb dX12_slips_190 (by decide) (fun hc => ?_) (fun hc => ?_)
                    · replace hf := wb_f hc hf
                      obtain ⟨v3, ev3, hf⟩ := wb_v hf
                      refine lv_iinc (v := v3) (lv' := [(5, .int v3), (0, .ref (a0 0)), (1, .int x1), (2, .int x2), (3, .int y178_3), (4, .int y52_4), (6, .int y178_6), (7, .int y178_7), (8, .int y178_8)]) hx hb dX12_slips_205 hl (k := 5) rfl (by rw [ev3]; rfl) (by decide) rfl (fun ls hl => ?_)
                      refine lv_goto (tgt := 62) hx hb dX12_slips_208 (by decide) ?_
                      exact ih62 I0_j178 L0_j178 M0_j178 y178_3 v3 H locs hP hD hS ls (lv_sub hl [1, 2, 3, 4, 5, 0] rfl) hf
                    · replace hf := wb_t hc hf
                      refine lv_iload hx hb dX12_slips_193 (lv_at hl 7 rfl) ?_
                      refine lv_bipush (v := (30 : Int32)) hx hb dX12_slips_195 (by decide) ?_
                      refine lv_idiv hx hb dX12_slips_197 (by decide) ?_
                      refine lv_iload_n hx hb dX12_slips_198 rfl (lv_at hl 2 rfl) ?_
                      refine lv_icmp_ne (tgt := 205) hx hb dX12_slips_199 (by decide) (fun hc => ?_) (fun hc => ?_)
                      · replace hf := wb_f hc hf
                        obtain ⟨v4, ev4, hf⟩ := wb_v hf
                        refine lv_iinc (v := v4) (lv' := [(5, .int v4), (0, .ref (a0 0)), (1, .int x1), (2, .int x2), (3, .int y178_3), (4, .int y52_4), (6, .int y178_6), (7, .int y178_7), (8, .int y178_8)]) hx hb dX12_slips_205 hl (k := 5) rfl (by rw [ev4]; rfl) (by decide) rfl (fun ls hl => ?_)
                        refine lv_goto (tgt := 62) hx hb dX12_slips_208 (by decide) ?_
                        exact ih62 I0_j178 L0_j178 M0_j178 y178_3 v4 H locs hP hD hS ls (lv_sub hl [1, 2, 3, 4, 5, 0] rfl) hf
                      · replace hf := wb_t hc hf
                        obtain ⟨v5, ev5, hf⟩ := wb_v hf
                        refine lv_iinc (v := v5) (lv' := [(3, .int v5), (0, .ref (a0 0)), (1, .int x1), (2, .int x2), (4, .int y52_4), (5, .int y178_5), (6, .int y178_6), (7, .int y178_7), (8, .int y178_8)]) hx hb dX12_slips_202 hl (k := 3) rfl (by rw [ev5]; rfl) (by decide) rfl (fun ls hl => ?_)
                        obtain ⟨v6, ev6, hf⟩ := wb_v hf
                        refine lv_iinc (v := v6) (lv' := [(5, .int v6), (3, .int v5), (0, .ref (a0 0)), (1, .int x1), (2, .int x2), (4, .int y52_4), (6, .int y178_6), (7, .int y178_7), (8, .int y178_8)]) hx hb dX12_slips_205 hl (k := 5) rfl (by rw [ev6]; rfl) (by decide) rfl (fun ls hl => ?_)
                        refine lv_goto (tgt := 62) hx hb dX12_slips_208 (by decide) ?_
                        exact ih62 I0_j178 L0_j178 M0_j178 v5 v6 H locs hP hD hS ls (lv_sub hl [2, 3, 4, 1, 5, 0] rfl) hf
                intro I0_l62 L0_l62 M0_l62 y62_3 y62_5 H locs hP hD hS ls hl hf
                rw [fX12_slips_L62.eq_2] at hf
                refine lv_iload hx hb dX12_slips_62 (lv_at hl 5 rfl) ?_
                refine lv_sipush (v := (420 : Int32)) hx hb dX12_slips_64 (by decide) ?_
                refine lv_icmp_ge (tgt := 211) hx hb dX12_slips_67 (by decide) (fun hc => ?_) (fun hc => ?_)
                · replace hf := wb_t hc hf
                  obtain ⟨v7, ev7, hf⟩ := wb_v hf
                  refine lv_iinc (v := v7) (lv' := [(4, .int v7), (0, .ref (a0 0)), (1, .int x1), (2, .int x2), (3, .int y62_3), (5, .int y62_5)]) hx hb dX12_slips_211 hl (k := 4) rfl (by rw [ev7]; rfl) (by decide) rfl (fun ls hl => ?_)
                  refine lv_goto (tgt := 52) hx hb dX12_slips_214 (by decide) ?_
                  exact ih52 I0_l62 L0_l62 M0_l62 y62_3 v7 H locs hP hD hS ls (lv_sub hl [1, 2, 3, 4, 0] rfl) hf
                · replace hf := wb_f hc hf
                  refine lv_aload_n hx hb dX12_slips_70 rfl (lv_at hl 0 rfl) ?_
                  refine va_get (D := D) (ci := 12) (v := .ref (a0 24)) (C := RX12) (T := TX12) (N := 58) hx hb hts hinX12 hown hK hP 0 rfl rfl 43 (by decide) (hts (.fieldLink RX12 86 "WheelBookModel" "whence" "[I") (List.mem_of_getElem? (i := 3) rfl)) (fun _ h9 => h9) rfl dX12_slips_71 ?_
                  refine lv_iload hx hb dX12_slips_74 (lv_at hl 4 rfl) ?_
                  obtain ⟨hin, hf⟩ := wb_n hf
                  refine va_iald hx hb hK hP 24 1 rfl rfl hin dX12_slips_76 ?_
                  refine lv_if_lt (tgt := 211) hx hb dX12_slips_77 (by decide) (fun hc => ?_) (fun hc => ?_)
                  · replace hf := wb_t hc hf
                    obtain ⟨v8, ev8, hf⟩ := wb_v hf
                    refine lv_iinc (v := v8) (lv' := [(4, .int v8), (0, .ref (a0 0)), (1, .int x1), (2, .int x2), (3, .int y62_3), (5, .int y62_5)]) hx hb dX12_slips_211 hl (k := 4) rfl (by rw [ev8]; rfl) (by decide) rfl (fun ls hl => ?_)
                    refine lv_goto (tgt := 52) hx hb dX12_slips_214 (by decide) ?_
                    exact ih52 I0_l62 L0_l62 M0_l62 y62_3 v8 H locs hP hD hS ls (lv_sub hl [1, 2, 3, 4, 0] rfl) hf
                  · replace hf := wb_f hc hf
                    refine lv_aload_n hx hb dX12_slips_80 rfl (lv_at hl 0 rfl) ?_
                    refine lv_bipush (v := (20 : Int32)) hx hb dX12_slips_81 (by decide) ?_
                    refine lv_iload hx hb dX12_slips_83 (lv_at hl 4 rfl) ?_
                    refine lv_imul hx hb dX12_slips_85 ?_
                    refine lv_iload hx hb dX12_slips_86 (lv_at hl 5 rfl) ?_
                    refine lv_bipush (v := (21 : Int32)) hx hb dX12_slips_88 (by decide) ?_
                    refine lv_idiv hx hb dX12_slips_90 (by decide) ?_
                    refine lv_iadd hx hb dX12_slips_91 ?_
                    refine lv_iload hx hb dX12_slips_92 (lv_at hl 5 rfl) ?_
                    refine lv_bipush (v := (21 : Int32)) hx hb dX12_slips_94 (by decide) ?_
                    refine lv_irem hx hb dX12_slips_96 (by decide) ?_
                    obtain ⟨r9b, hr9b, hf⟩ := wb_b hf
                    refine vp_callSi (W.runV (As := [.int (((20 : Int32) * y52_4) + (y62_5 / (21 : Int32))), .int (y62_5 - y62_5 / (21 : Int32) * (21 : Int32))]) (rest := []) ⟨hx, hb, hml, hown, hts⟩ (cn_X12_at l D cB cI cZ N a0 I0_l62 L0_l62 M0_l62 (((20 : Int32) * y52_4) + (y62_5 / (21 : Int32))) (y62_5 - y62_5 / (21 : Int32) * (21 : Int32)) r9b hr9b) (cwV 2 hts gX12_slips_X12_at rfl rfl rfl cdX12_at ⟨Nat.le_of_ble_eq_true rfl, Nat.le_of_ble_eq_true rfl⟩) (wb_preV hP hK (wr_12 hK hP (q0 := 0) rfl)) rfl rfl hl.1 rfl (lv_room (Nat.le_of_ble_eq_true rfl)) dX12_slips_97 ⟨Nat.le_of_ble_eq_true rfl, Nat.le_of_ble_eq_true rfl⟩) (fun r9 e9 => ?_)
                    rw [e9]
                    refine lv_istore (lv' := [(6, .int r9b), (0, .ref (a0 0)), (1, .int x1), (2, .int x2), (3, .int y62_3), (4, .int y52_4), (5, .int y62_5)]) hx hb dX12_slips_100 hl (by decide) rfl (fun ls hl => ?_)
                    refine lv_aload_n hx hb dX12_slips_102 rfl (lv_at hl 1 rfl) ?_
                    refine lv_bipush (v := (20 : Int32)) hx hb dX12_slips_103 (by decide) ?_
                    refine lv_aload_n hx hb dX12_slips_105 rfl (lv_at hl 1 rfl) ?_
                    refine va_get (D := D) (ci := 12) (v := .ref (a0 24)) (C := RX12) (T := TX12) (N := 58) hx hb hts hinX12 hown hK hP 0 rfl rfl 43 (by decide) (hts (.fieldLink RX12 86 "WheelBookModel" "whence" "[I") (List.mem_of_getElem? (i := 3) rfl)) (fun _ h9 => h9) rfl dX12_slips_106 ?_
                    refine lv_iload hx hb dX12_slips_109 (lv_at hl 5 rfl) ?_
                    obtain ⟨hin, hf⟩ := wb_n hf
                    refine va_iald hx hb hK hP 24 1 rfl rfl hin dX12_slips_111 ?_
                    refine lv_imul hx hb dX12_slips_112 ?_
                    refine lv_iload hx hb dX12_slips_113 (lv_at hl 6 rfl) ?_
                    refine lv_bipush (v := (21 : Int32)) hx hb dX12_slips_115 (by decide) ?_
                    refine lv_idiv hx hb dX12_slips_117 (by decide) ?_
                    refine lv_iadd hx hb dX12_slips_118 ?_
                    refine lv_iload hx hb dX12_slips_119 (lv_at hl 6 rfl) ?_
                    refine lv_bipush (v := (21 : Int32)) hx hb dX12_slips_121 (by decide) ?_
                    refine lv_irem hx hb dX12_slips_123 (by decide) ?_
                    obtain ⟨r10, hr10, hf⟩ := wb_b hf
                    refine vp_callSi (W.runV (As := [.int (((20 : Int32) * (M0_l62 23 (y52_4).toNatClampNeg)) + (y62_5 / (21 : Int32))), .int (y62_5 - y62_5 / (21 : Int32) * (21 : Int32))]) (rest := []) ⟨hx, hb, hml, hown, hts⟩ (cn_X12_at l D cB cI cZ N a0 I0_l62 L0_l62 M0_l62 (((20 : Int32) * (M0_l62 23 (y52_4).toNatClampNeg)) + (y62_5 / (21 : Int32))) (y62_5 - y62_5 / (21 : Int32) * (21 : Int32)) r10 hr10) (cwV 2 hts gX12_slips_X12_at rfl rfl rfl cdX12_at ⟨Nat.le_of_ble_eq_true rfl, Nat.le_of_ble_eq_true rfl⟩) (wb_preV hP hK (wr_12 hK hP (q0 := 0) rfl)) rfl rfl hl.1 rfl (lv_room (Nat.le_of_ble_eq_true rfl)) dX12_slips_124 ⟨Nat.le_of_ble_eq_true rfl, Nat.le_of_ble_eq_true rfl⟩) (fun r9 e9 => ?_)
                    rw [e9]
                    refine lv_istore (lv' := [(7, .int r10), (6, .int r9b), (0, .ref (a0 0)), (1, .int x1), (2, .int x2), (3, .int y62_3), (4, .int y52_4), (5, .int y62_5)]) hx hb dX12_slips_127 hl (by decide) rfl (fun ls hl => ?_)
                    refine lv_iload hx hb dX12_slips_129 (lv_at hl 1 rfl) ?_
                    refine lv_iconst (v := (-1 : Int32)) hx hb dX12_slips_131 (by decide) ?_
                    refine lv_icmp_eq (tgt := 205) hx hb dX12_slips_132 (by decide) (fun hc => ?_) (fun hc => ?_)
                    · replace hf := wb_t hc hf
                      obtain ⟨v11, ev11, hf⟩ := wb_v hf
                      refine lv_iinc (v := v11) (lv' := [(5, .int v11), (7, .int r10), (6, .int r9b), (0, .ref (a0 0)), (1, .int x1), (2, .int x2), (3, .int y62_3), (4, .int y52_4)]) hx hb dX12_slips_205 hl (k := 7) rfl (by rw [ev11]; rfl) (by decide) rfl (fun ls hl => ?_)
                      refine lv_goto (tgt := 62) hx hb dX12_slips_208 (by decide) ?_
                      exact ih62 I0_l62 L0_l62 M0_l62 y62_3 v11 H locs hP hD hS ls (lv_sub hl [3, 4, 5, 6, 7, 0] rfl) hf
                    · replace hf := wb_f hc hf
                      refine lv_iload hx hb dX12_slips_135 (lv_at hl 0 rfl) ?_
                      refine lv_iconst (v := (-1 : Int32)) hx hb dX12_slips_137 (by decide) ?_
                      refine lv_icmp_ne (tgt := 144) hx hb dX12_slips_138 (by decide) (fun hc => ?_) (fun hc => ?_)
                      · replace hf := wb_f hc hf
                        refine lv_aload_n hx hb dX12_slips_144 rfl (lv_at hl 2 rfl) ?_
                        refine lv_iload hx hb dX12_slips_145 (lv_at hl 1 rfl) ?_
                        refine lv_iload hx hb dX12_slips_147 (lv_at hl 0 rfl) ?_
                        obtain ⟨r12, hr12, hf⟩ := wb_b hf
                        refine vp_callSi (W.runV (As := [.int r9b, .int r10]) (rest := []) ⟨hx, hb, hml, hown, hts⟩ (cn_X12_beside l D cB cI cZ N a0 I0_l62 L0_l62 M0_l62 r9b r10 r12 hr12) (cwV 2 hts gX12_slips_X12_beside rfl rfl rfl cdX12_beside ⟨Nat.le_of_ble_eq_true rfl, Nat.le_of_ble_eq_true rfl⟩) (wb_preV hP hK (wr_12 hK hP (q0 := 0) rfl)) rfl rfl hl.1 rfl (lv_room (Nat.le_of_ble_eq_true rfl)) dX12_slips_149 ⟨Nat.le_of_ble_eq_true rfl, Nat.le_of_ble_eq_true rfl⟩) (fun r9 e9 => ?_)
                        rw [e9]
                        refine lv_istore (lv' := [(8, .int r12), (7, .int r10), (6, .int r9b), (0, .ref (a0 0)), (1, .int x1), (2, .int x2), (3, .int y62_3), (4, .int y52_4), (5, .int y62_5)]) hx hb dX12_slips_152 hl (by decide) rfl (fun ls hl => ?_)
                        refine lv_iload hx hb dX12_slips_154 (lv_at hl 0 rfl) ?_
                        refine lv_iconst (v := (1 : Int32)) hx hb dX12_slips_156 (by decide) ?_
                        refine lv_icmp_ne (tgt := 178) hx hb dX12_slips_157 (by decide) (fun hc => ?_) (fun hc => ?_)
                        · replace hf := wb_f hc hf
                          exact J178 I0_l62 L0_l62 M0_l62 y62_3 y62_5 r9b r10 r12 H locs hP hD hS ls (lv_sub hl [3, 4, 5, 6, 7, 8, 2, 1, 0] rfl) hf
                        · replace hf := wb_t hc hf
                          refine lv_iload hx hb dX12_slips_160 (lv_at hl 2 rfl) ?_
                          refine lv_bipush (v := (30 : Int32)) hx hb dX12_slips_162 (by decide) ?_
                          refine lv_irem hx hb dX12_slips_164 (by decide) ?_
                          refine lv_iload_n hx hb dX12_slips_165 rfl (lv_at hl 4 rfl) ?_
                          refine lv_icmp_ne (tgt := 178) hx hb dX12_slips_166 (by decide) (fun hc => ?_) (fun hc => ?_)
                          · replace hf := wb_f hc hf
                            exact J178 I0_l62 L0_l62 M0_l62 y62_3 y62_5 r9b r10 r12 H locs hP hD hS ls (lv_sub hl [3, 4, 5, 6, 7, 8, 2, 1, 0] rfl) hf
                          · replace hf := wb_t hc hf
                            refine lv_iload hx hb dX12_slips_169 (lv_at hl 1 rfl) ?_
                            refine lv_bipush (v := (30 : Int32)) hx hb dX12_slips_171 (by decide) ?_
                            refine lv_irem hx hb dX12_slips_173 (by decide) ?_
                            refine lv_iload_n hx hb dX12_slips_174 rfl (lv_at hl 5 rfl) ?_
                            refine lv_icmp_eq (tgt := 202) hx hb dX12_slips_175 (by decide) (fun hc => ?_) (fun hc => ?_)
                            · replace hf := wb_t hc hf
                              obtain ⟨v13, ev13, hf⟩ := wb_v hf
                              refine lv_iinc (v := v13) (lv' := [(3, .int v13), (8, .int r12), (7, .int r10), (6, .int r9b), (0, .ref (a0 0)), (1, .int x1), (2, .int x2), (4, .int y52_4), (5, .int y62_5)]) hx hb dX12_slips_202 hl (k := 6) rfl (by rw [ev13]; rfl) (by decide) rfl (fun ls hl => ?_)
                              obtain ⟨v14, ev14, hf⟩ := wb_v hf
                              refine lv_iinc (v := v14) (lv' := [(5, .int v14), (3, .int v13), (8, .int r12), (7, .int r10), (6, .int r9b), (0, .ref (a0 0)), (1, .int x1), (2, .int x2), (4, .int y52_4)]) hx hb dX12_slips_205 hl (k := 8) rfl (by rw [ev14]; rfl) (by decide) rfl (fun ls hl => ?_)
                              refine lv_goto (tgt := 62) hx hb dX12_slips_208 (by decide) ?_
                              exact ih62 I0_l62 L0_l62 M0_l62 v13 v14 H locs hP hD hS ls (lv_sub hl [5, 6, 7, 1, 8, 0] rfl) hf
                            · replace hf := wb_f hc hf
                              exact J178 I0_l62 L0_l62 M0_l62 y62_3 y62_5 r9b r10 r12 H locs hP hD hS ls (lv_sub hl [3, 4, 5, 6, 7, 8, 2, 1, 0] rfl) hf
                      · replace hf := wb_t hc hf
                        refine lv_goto (tgt := 205) hx hb dX12_slips_141 (by decide) ?_
                        obtain ⟨v15, ev15, hf⟩ := wb_v hf
                        refine lv_iinc (v := v15) (lv' := [(5, .int v15), (7, .int r10), (6, .int r9b), (0, .ref (a0 0)), (1, .int x1), (2, .int x2), (3, .int y62_3), (4, .int y52_4)]) hx hb dX12_slips_205 hl (k := 7) rfl (by rw [ev15]; rfl) (by decide) rfl (fun ls hl => ?_)
                        refine lv_goto (tgt := 62) hx hb dX12_slips_208 (by decide) ?_
                        exact ih62 I0_l62 L0_l62 M0_l62 y62_3 v15 H locs hP hD hS ls (lv_sub hl [3, 4, 5, 6, 7, 0] rfl) hf
            exact Lh62 N I0_l52 L0_l52 M0_l52 y52_3 (0 : Int32) H locs hP hD hS ls (lv_sub hl [1, 2, 3, 4, 5, 0] rfl) hf
      exact Lh52 N r1.2.1 r1.2.2.1 r1.2.2.2 (0 : Int32) (0 : Int32) H locs hP hD hS ls (lv_sub hl [2, 3, 4, 1, 0] rfl) hf
    · replace hf := wb_t hc hf
      refine lv_iconst (v := (0 : Int32)) hx hb dX12_slips_45 (by decide) ?_
      exact W.iret (v := (0 : Int32)) hx hb hr (fun t ht hW => by rw [← Option.some.inj hf]; exact ⟨⟨(0 : Int32), (), rfl, rfl, by rw [ht]; exact hP, va_K.moved hW.alike hK, hD⟩, hS.F ht⟩) hS.2.2 dX12_slips_46
  have J37 : ∀ (I0_j37 : Nat → Int32) (L0_j37 : Int64) (M0_j37 : Nat → Nat → Int32) (H : Heap) (locs : List Loc), va_P D vwCl (wWX12 cB cI cZ a0 I0_j37 L0_j37 M0_j37) H → va_D A (wWX12 cB cI cZ a0 I0_j37 L0_j37 M0_j37) → va_S A s.heap H locs → ∀ (ls : Array Slot), lv_has ls 9 [(0, .ref (a0 0)), (1, .int x1), (2, .int x2)] → fX12_slips_J37 N x1 x2 I0_j37 L0_j37 M0_j37 = some R → W p l e (headSpec wsX12_slips { frames := 2, cells := 0, slots := 0, locals := 46 }).room s m [.ref (a0 0), .int x1, .int x2].toArray below meth c H locs 0 0 (MQ below (va_Qi (fun r (_ : Unit) => r = R.1) (fun _ t => wb_post D [(cB, .byte), (cI, .int), (cZ, .boolean)] A (wWX12 cB cI cZ a0 R.2.1 R.2.2.1 R.2.2.2) t) A) [.ref (a0 0), .int x1, .int x2].toArray s 0 0 A) (F0 m 37 ls [.ref (a0 0)]) := by
    intro I0_j37 L0_j37 M0_j37 H locs hP hD hS ls hl hf
    unfold fX12_slips_J37 at hf
    refine lv_iconst (v := (0 : Int32)) hx hb dX12_slips_37 (by decide) ?_
    exact J38 I0_j37 L0_j37 M0_j37 (0 : Int32) H locs hP hD hS ls (lv_sub hl [0, 1, 2] rfl) hf
  refine lv_aload_n hx hb dX12_slips_0 rfl (lv_at hl 0 rfl) ?_
  refine lv_iconst (v := (0 : Int32)) hx hb dX12_slips_1 (by decide) ?_
  refine va_put (D := D) (ci := 12) (v := .int (0 : Int32)) (ty := .int) (C := RX12) (T := TX12) (N := 58) hx hb hts hinX12 tyX12 tyX12_ok nmX12 hown hK hP hD hS 0 rfl rfl 0 (by decide) (hts (.fieldLink RX12 129 "WheelBookModel" "thrown" "I") (List.mem_of_getElem? (i := 1) rfl)) (fun _ h9 => h9) rfl (by decide +kernel) rfl rfl (Nat.le_of_ble_eq_true rfl) dX12_slips_2 (fun H locs hP hD hS => ?_)
  have hP : va_P D vwCl (wWX12 cB cI cZ a0 (upd I0 0 (0 : Int32)) L0 M0) H := hP
  have hD : va_D A (wWX12 cB cI cZ a0 (upd I0 0 (0 : Int32)) L0 M0) := hD
  obtain ⟨I0_16, eI0_16, hf⟩ := wb_v hf
  rw [← eI0_16] at hP hD
  refine lv_aload_n hx hb dX12_slips_5 rfl (lv_at hl 0 rfl) ?_
  refine lv_iload_n hx hb dX12_slips_6 rfl (lv_at hl 1 rfl) ?_
  refine lv_iconst (v := (0 : Int32)) hx hb dX12_slips_7 (by decide) ?_
  refine lv_bipush (v := (29 : Int32)) hx hb dX12_slips_8 (by decide) ?_
  obtain ⟨r17, hr17, hf⟩ := wb_b hf
  refine vp_callSi (W.runS (As := [.int x1, .int (0 : Int32), .int (29 : Int32)]) (rest := [.ref (a0 0)]) ⟨hx, hb, hml, hown, hts⟩ (cn_X12_within l D cB cI cZ N x1 (0 : Int32) (29 : Int32) r17 hr17) (va_cwS 3 hts gX12_slips_X12_within rfl rfl rfl csX12_within ⟨Nat.le_of_ble_eq_true rfl, Nat.le_of_ble_eq_true rfl⟩) (wb_preS (hP.sub (ws' := ([] : va_W)) [] rfl) hK) rfl rfl hl.1 rfl (lv_room (Nat.le_of_ble_eq_true rfl)) dX12_slips_10 ⟨Nat.le_of_ble_eq_true rfl, Nat.le_of_ble_eq_true rfl⟩) (fun r9 e9 => ?_)
  rw [e9]
  refine lv_if_eq (tgt := 37) hx hb dX12_slips_13 (by decide) (fun hc => ?_) (fun hc => ?_)
  · replace hf := wb_t hc hf
    exact J37 I0_16 L0 M0 H locs hP hD hS ls (lv_sub hl [0, 1, 2] rfl) hf
  · replace hf := wb_f hc hf
    refine lv_iload_n hx hb dX12_slips_16 rfl (lv_at hl 2 rfl) ?_
    refine lv_iconst (v := (0 : Int32)) hx hb dX12_slips_17 (by decide) ?_
    refine lv_bipush (v := (29 : Int32)) hx hb dX12_slips_18 (by decide) ?_
    obtain ⟨r18, hr18, hf⟩ := wb_b hf
    refine vp_callSi (W.runS (As := [.int x2, .int (0 : Int32), .int (29 : Int32)]) (rest := [.ref (a0 0)]) ⟨hx, hb, hml, hown, hts⟩ (cn_X12_within l D cB cI cZ N x2 (0 : Int32) (29 : Int32) r18 hr18) (va_cwS 3 hts gX12_slips_X12_within rfl rfl rfl csX12_within ⟨Nat.le_of_ble_eq_true rfl, Nat.le_of_ble_eq_true rfl⟩) (wb_preS (hP.sub (ws' := ([] : va_W)) [] rfl) hK) rfl rfl hl.1 rfl (lv_room (Nat.le_of_ble_eq_true rfl)) dX12_slips_20 ⟨Nat.le_of_ble_eq_true rfl, Nat.le_of_ble_eq_true rfl⟩) (fun r9 e9 => ?_)
    rw [e9]
    refine lv_if_eq (tgt := 37) hx hb dX12_slips_23 (by decide) (fun hc => ?_) (fun hc => ?_)
    · replace hf := wb_t hc hf
      exact J37 I0_16 L0 M0 H locs hP hD hS ls (lv_sub hl [0, 1, 2] rfl) hf
    · replace hf := wb_f hc hf
      refine lv_aload_n hx hb dX12_slips_26 rfl (lv_at hl 0 rfl) ?_
      refine va_get (D := D) (ci := 12) (v := .int (I0_16 18)) (C := RX12) (T := TX12) (N := 58) hx hb hts hinX12 hown hK hP 0 rfl rfl 42 (by decide) (hts (.fieldLink RX12 350 "WheelBookModel" "hasTree" "Z") (List.mem_of_getElem? (i := 2) rfl)) (fun _ h9 => h9) rfl dX12_slips_27 ?_
      refine lv_if_eq (tgt := 37) hx hb dX12_slips_30 (by decide) (fun hc => ?_) (fun hc => ?_)
      · replace hf := wb_t hc hf
        exact J37 I0_16 L0 M0 H locs hP hD hS ls (lv_sub hl [0, 1, 2] rfl) hf
      · replace hf := wb_f hc hf
        refine lv_iconst (v := (1 : Int32)) hx hb dX12_slips_33 (by decide) ?_
        refine lv_goto (tgt := 38) hx hb dX12_slips_34 (by decide) ?_
        exact J38 I0_16 L0 M0 (1 : Int32) H locs hP hD hS ls (lv_sub hl [0, 1, 2] rfl) hf
