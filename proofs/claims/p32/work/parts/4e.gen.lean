set_option maxHeartbeats 4000000 in
set_option maxRecDepth 100000 in
theorem cn_X12_costOn (l : Launch) (D : va_G) (cB cI cZ : ClassId) (N : Nat) (a0 : Nat → Nat) (I0 : Nat → Int32) (L0 : Int64) (M0 : Nat → Nat → Int32) (x1 : Int32) (x2 : Int32) (x3 : Int32) (x4 : Int32) (R : Int32) (hf : fX12_costOn N I0 L0 M0 x1 x2 x3 x4 = some R) : Met l yX12_costOn wsX12_costOn ({ frames := 3, cells := 0, slots := 0, locals := 69 }) (va_Pc [.ref (a0 0), .int x1, .int x2, .int x3, .int x4] (wb_pre D [(cB, .byte), (cI, .int), (cZ, .boolean)] (wWX12 cB cI cZ a0 I0 L0 M0))) (vp_Si (fun r => r = R)) 0 0 (fun _ => False) := by
  refine Met.ofW (cc := cX12_costOn) (maxL := 7) (ret := (some .int)) pn_X12 rfl ?_
  intro p e s m args below meth c s₁ B hml hv
  obtain ⟨rfl, hP, hK⟩ := hv
  have hx := B.exec
  have hb := B.bytes
  have hr := B.returns
  have hts := atoms_spec (ws := wsX12_costOn) B.pre
  have hown : s.vm.findClass RX12 = some m.cls := (findClass_of_methodNamed B.named :)
  have hlocks := B.notSynchronized
  have hl := lv_entry ([.ref (a0 0), .int x1, .int x2, .int x3, .int x4]) (n := 7) (Nat.le_of_ble_eq_true rfl)
  rw [lg_entry_eq]
  generalize (lg_sl ([.ref (a0 0), .int x1, .int x2, .int x3, .int x4]) ++ List.replicate (7 - (lg_sl ([.ref (a0 0), .int x1, .int x2, .int x3, .int x4])).length) Slot.unset).toArray = ls at hl ⊢
  have hl : lv_has ls 7 [(0, .ref (a0 0)), (1, .int x1), (2, .int x2), (3, .int x3), (4, .int x4)] := hl
  unfold fX12_costOn at hf
  have J32 : ∀ (z32_0 : Int32), ∀ (ls : Array Slot), lv_has ls 7 [(0, .ref (a0 0)), (1, .int x1), (2, .int x2), (3, .int x3), (4, .int x4)] → fX12_costOn_J32 N I0 L0 M0 x1 x2 x3 x4 z32_0 = some R → W p l e (headSpec wsX12_costOn { frames := 3, cells := 0, slots := 0, locals := 69 }).room s m [.ref (a0 0), .int x1, .int x2, .int x3, .int x4].toArray below meth c s.heap [] 0 0 (MQ below (vp_Si (fun r => r = R)) [.ref (a0 0), .int x1, .int x2, .int x3, .int x4].toArray s 0 0 (fun _ => False)) (F0 m 32 ls [.int z32_0]) := by
    intro z32_0 ls hl hf
    unfold fX12_costOn_J32 at hf
    refine lv_istore (lv' := [(5, .int z32_0), (0, .ref (a0 0)), (1, .int x1), (2, .int x2), (3, .int x3), (4, .int x4)]) hx hb dX12_costOn_32 hl (by decide) rfl (fun ls hl => ?_)
    refine lv_iconst (v := (0 : Int32)) hx hb dX12_costOn_34 (by decide) ?_
    refine lv_istore (lv' := [(6, .int (0 : Int32)), (5, .int z32_0), (0, .ref (a0 0)), (1, .int x1), (2, .int x2), (3, .int x3), (4, .int x4)]) hx hb dX12_costOn_35 hl (by decide) rfl (fun ls hl => ?_)
    have Lh37 : ∀ (fu37 : Nat) (y37_5 : Int32) (y37_6 : Int32), ∀ (ls : Array Slot), lv_has ls 7 [(0, .ref (a0 0)), (1, .int x1), (2, .int x2), (3, .int x3), (4, .int x4), (5, .int y37_5), (6, .int y37_6)] → fX12_costOn_L37 N I0 L0 M0 x1 x2 x3 x4 fu37 y37_5 y37_6 = some R → W p l e (headSpec wsX12_costOn { frames := 3, cells := 0, slots := 0, locals := 69 }).room s m [.ref (a0 0), .int x1, .int x2, .int x3, .int x4].toArray below meth c s.heap [] 0 0 (MQ below (vp_Si (fun r => r = R)) [.ref (a0 0), .int x1, .int x2, .int x3, .int x4].toArray s 0 0 (fun _ => False)) (F0 m 37 ls []) := by
      intro fu37
      induction fu37 with
      | zero =>
        intro y37_5 y37_6 ls hl hf
        exact absurd hf (by rw [fX12_costOn_L37.eq_1]; exact fun h => nomatch h)
      | succ fu37 ih37 =>
        intro y37_5 y37_6 ls hl hf
        rw [fX12_costOn_L37.eq_2] at hf
        refine lv_iload hx hb dX12_costOn_37 (lv_at hl 6 rfl) ?_
        refine lv_bipush (v := (7 : Int32)) hx hb dX12_costOn_39 (by decide) ?_
        refine lv_icmp_ge (tgt := 95) hx hb dX12_costOn_41 (by decide) (fun hc => ?_) (fun hc => ?_)
        · replace hf := wb_t hc hf
          refine lv_iload hx hb dX12_costOn_95 (lv_at hl 5 rfl) ?_
          exact W.iret (v := y37_5) hx hb hr (fun t ht hW => ⟨_, rfl, Option.some.inj hf, ht⟩) (fun _ h => nomatch h) dX12_costOn_97
        · replace hf := wb_f hc hf
          refine lv_iload hx hb dX12_costOn_44 (lv_at hl 5 rfl) ?_
          refine lv_iload hx hb dX12_costOn_46 (lv_at hl 4 rfl) ?_
          refine lv_icmp_gt (tgt := 95) hx hb dX12_costOn_48 (by decide) (fun hc => ?_) (fun hc => ?_)
          · replace hf := wb_t hc hf
            refine lv_iload hx hb dX12_costOn_95 (lv_at hl 5 rfl) ?_
            exact W.iret (v := y37_5) hx hb hr (fun t ht hW => ⟨_, rfl, Option.some.inj hf, ht⟩) (fun _ h => nomatch h) dX12_costOn_97
          · replace hf := wb_f hc hf
            refine lv_aload_n hx hb dX12_costOn_51 rfl (lv_at hl 0 rfl) ?_
            refine lv_iload_n hx hb dX12_costOn_52 rfl (lv_at hl 1 rfl) ?_
            refine lv_iload hx hb dX12_costOn_53 (lv_at hl 6 rfl) ?_
            obtain ⟨r1, hr1, hf⟩ := wb_b hf
            refine vp_callSi (W.runV (As := [.int x1, .int y37_6]) (rest := []) ⟨hx, hb, hml, hown, hts⟩ (cn_X12_at l D cB cI cZ N a0 I0 L0 M0 x1 y37_6 r1 hr1) (cwV 2 hts gX12_costOn_X12_at rfl rfl rfl cdX12_at ⟨Nat.le_of_ble_eq_true rfl, Nat.le_of_ble_eq_true rfl⟩) (wb_preV hP hK (wr_12 hK hP (q0 := 0) rfl)) rfl rfl hl.1 rfl (lv_room (Nat.le_of_ble_eq_true rfl)) dX12_costOn_55 ⟨Nat.le_of_ble_eq_true rfl, Nat.le_of_ble_eq_true rfl⟩) (fun r9 e9 => ?_)
            rw [e9]
            refine lv_iconst (v := (-1 : Int32)) hx hb dX12_costOn_58 (by decide) ?_
            refine lv_icmp_eq (tgt := 89) hx hb dX12_costOn_59 (by decide) (fun hc => ?_) (fun hc => ?_)
            · replace hf := wb_t hc hf
              obtain ⟨v2, ev2, hf⟩ := wb_v hf
              refine lv_iinc (v := v2) (lv' := [(6, .int v2), (0, .ref (a0 0)), (1, .int x1), (2, .int x2), (3, .int x3), (4, .int x4), (5, .int y37_5)]) hx hb dX12_costOn_89 hl (k := 6) rfl (by rw [ev2]; rfl) (by decide) rfl (fun ls hl => ?_)
              refine lv_goto (tgt := 37) hx hb dX12_costOn_92 (by decide) ?_
              exact ih37 y37_5 v2 ls (lv_sub hl [1, 2, 3, 4, 5, 6, 0] rfl) hf
            · replace hf := wb_f hc hf
              refine lv_iload hx hb dX12_costOn_62 (lv_at hl 5 rfl) ?_
              refine lv_aload_n hx hb dX12_costOn_64 rfl (lv_at hl 0 rfl) ?_
              refine lv_aload_n hx hb dX12_costOn_65 rfl (lv_at hl 0 rfl) ?_
              refine lv_iload_n hx hb dX12_costOn_66 rfl (lv_at hl 1 rfl) ?_
              refine lv_iload hx hb dX12_costOn_67 (lv_at hl 6 rfl) ?_
              obtain ⟨r3, hr3, hf⟩ := wb_b hf
              refine vp_callSi (W.runV (As := [.int x1, .int y37_6]) (rest := [.ref (a0 0), .int y37_5]) ⟨hx, hb, hml, hown, hts⟩ (cn_X12_at l D cB cI cZ N a0 I0 L0 M0 x1 y37_6 r3 hr3) (cwV 2 hts gX12_costOn_X12_at rfl rfl rfl cdX12_at ⟨Nat.le_of_ble_eq_true rfl, Nat.le_of_ble_eq_true rfl⟩) (wb_preV hP hK (wr_12 hK hP (q0 := 0) rfl)) rfl rfl hl.1 rfl (lv_room (Nat.le_of_ble_eq_true rfl)) dX12_costOn_69 ⟨Nat.le_of_ble_eq_true rfl, Nat.le_of_ble_eq_true rfl⟩) (fun r9 e9 => ?_)
              rw [e9]
              refine lv_aload_n hx hb dX12_costOn_72 rfl (lv_at hl 0 rfl) ?_
              refine lv_iload_n hx hb dX12_costOn_73 rfl (lv_at hl 2 rfl) ?_
              refine lv_iload hx hb dX12_costOn_74 (lv_at hl 6 rfl) ?_
              refine lv_iload_n hx hb dX12_costOn_76 rfl (lv_at hl 3 rfl) ?_
              obtain ⟨r4, hr4, hf⟩ := wb_b hf
              refine vp_callSi (W.runV (As := [.int x2, .int y37_6, .int x3]) (rest := [.int r3, .ref (a0 0), .int y37_5]) ⟨hx, hb, hml, hown, hts⟩ (cn_X12_placeOn l D cB cI cZ N a0 I0 L0 M0 x2 y37_6 x3 r4 hr4) (cwV 3 hts gX12_costOn_X12_placeOn rfl rfl rfl cdX12_placeOn ⟨Nat.le_of_ble_eq_true rfl, Nat.le_of_ble_eq_true rfl⟩) (wb_preV hP hK (wr_12 hK hP (q0 := 0) rfl)) rfl rfl hl.1 rfl (lv_room (Nat.le_of_ble_eq_true rfl)) dX12_costOn_77 ⟨Nat.le_of_ble_eq_true rfl, Nat.le_of_ble_eq_true rfl⟩) (fun r9 e9 => ?_)
              rw [e9]
              refine lv_bipush (v := (60 : Int32)) hx hb dX12_costOn_80 (by decide) ?_
              refine lv_idiv hx hb dX12_costOn_82 (by decide) ?_
              obtain ⟨r5, hr5, hf⟩ := wb_b hf
              refine vp_callSi (W.runV (As := [.int r3, .int (r4 / (60 : Int32))]) (rest := [.int y37_5]) ⟨hx, hb, hml, hown, hts⟩ (cn_X12_costOf l D cB cI cZ N a0 I0 L0 M0 r3 (r4 / (60 : Int32)) r5 hr5) (cwV 2 hts gX12_costOn_X12_costOf rfl rfl rfl cdX12_costOf ⟨Nat.le_of_ble_eq_true rfl, Nat.le_of_ble_eq_true rfl⟩) (wb_preV hP hK (wr_12 hK hP (q0 := 0) rfl)) rfl rfl hl.1 rfl (lv_room (Nat.le_of_ble_eq_true rfl)) dX12_costOn_83 ⟨Nat.le_of_ble_eq_true rfl, Nat.le_of_ble_eq_true rfl⟩) (fun r9 e9 => ?_)
              rw [e9]
              refine lv_iadd hx hb dX12_costOn_86 ?_
              obtain ⟨v6, ev6, hf⟩ := wb_v hf
              refine wb_topi ev6 ?_
              refine lv_istore (lv' := [(5, .int v6), (0, .ref (a0 0)), (1, .int x1), (2, .int x2), (3, .int x3), (4, .int x4), (6, .int y37_6)]) hx hb dX12_costOn_87 hl (by decide) rfl (fun ls hl => ?_)
              obtain ⟨v7, ev7, hf⟩ := wb_v hf
              refine lv_iinc (v := v7) (lv' := [(6, .int v7), (5, .int v6), (0, .ref (a0 0)), (1, .int x1), (2, .int x2), (3, .int x3), (4, .int x4)]) hx hb dX12_costOn_89 hl (k := 6) rfl (by rw [ev7]; rfl) (by decide) rfl (fun ls hl => ?_)
              refine lv_goto (tgt := 37) hx hb dX12_costOn_92 (by decide) ?_
              exact ih37 v6 v7 ls (lv_sub hl [2, 3, 4, 5, 6, 1, 0] rfl) hf
    exact Lh37 N z32_0 (0 : Int32) ls (lv_sub hl [2, 3, 4, 5, 6, 1, 0] rfl) hf
  have J31 : ∀ (ls : Array Slot), lv_has ls 7 [(0, .ref (a0 0)), (1, .int x1), (2, .int x2), (3, .int x3), (4, .int x4)] → fX12_costOn_J31 N I0 L0 M0 x1 x2 x3 x4 = some R → W p l e (headSpec wsX12_costOn { frames := 3, cells := 0, slots := 0, locals := 69 }).room s m [.ref (a0 0), .int x1, .int x2, .int x3, .int x4].toArray below meth c s.heap [] 0 0 (MQ below (vp_Si (fun r => r = R)) [.ref (a0 0), .int x1, .int x2, .int x3, .int x4].toArray s 0 0 (fun _ => False)) (F0 m 31 ls []) := by
    intro ls hl hf
    unfold fX12_costOn_J31 at hf
    refine lv_iconst (v := (0 : Int32)) hx hb dX12_costOn_31 (by decide) ?_
    exact J32 (0 : Int32) ls (lv_sub hl [0, 1, 2, 3, 4] rfl) hf
  refine lv_aload_n hx hb dX12_costOn_0 rfl (lv_at hl 0 rfl) ?_
  refine lv_iload_n hx hb dX12_costOn_1 rfl (lv_at hl 1 rfl) ?_
  refine lv_bipush (v := (21 : Int32)) hx hb dX12_costOn_2 (by decide) ?_
  obtain ⟨r8, hr8, hf⟩ := wb_b hf
  refine vp_callSi (W.runV (As := [.int x1, .int (21 : Int32)]) (rest := []) ⟨hx, hb, hml, hown, hts⟩ (cn_X12_at l D cB cI cZ N a0 I0 L0 M0 x1 (21 : Int32) r8 hr8) (cwV 2 hts gX12_costOn_X12_at rfl rfl rfl cdX12_at ⟨Nat.le_of_ble_eq_true rfl, Nat.le_of_ble_eq_true rfl⟩) (wb_preV hP hK (wr_12 hK hP (q0 := 0) rfl)) rfl rfl hl.1 rfl (lv_room (Nat.le_of_ble_eq_true rfl)) dX12_costOn_4 ⟨Nat.le_of_ble_eq_true rfl, Nat.le_of_ble_eq_true rfl⟩) (fun r9 e9 => ?_)
  rw [e9]
  refine lv_iconst (v := (-1 : Int32)) hx hb dX12_costOn_7 (by decide) ?_
  refine lv_icmp_eq (tgt := 31) hx hb dX12_costOn_8 (by decide) (fun hc => ?_) (fun hc => ?_)
  · replace hf := wb_t hc hf
    exact J31 ls (lv_sub hl [0, 1, 2, 3, 4] rfl) hf
  · replace hf := wb_f hc hf
    refine lv_aload_n hx hb dX12_costOn_11 rfl (lv_at hl 0 rfl) ?_
    refine lv_iload_n hx hb dX12_costOn_12 rfl (lv_at hl 1 rfl) ?_
    refine lv_bipush (v := (21 : Int32)) hx hb dX12_costOn_13 (by decide) ?_
    obtain ⟨r9b, hr9b, hf⟩ := wb_b hf
    refine vp_callSi (W.runV (As := [.int x1, .int (21 : Int32)]) (rest := []) ⟨hx, hb, hml, hown, hts⟩ (cn_X12_at l D cB cI cZ N a0 I0 L0 M0 x1 (21 : Int32) r9b hr9b) (cwV 2 hts gX12_costOn_X12_at rfl rfl rfl cdX12_at ⟨Nat.le_of_ble_eq_true rfl, Nat.le_of_ble_eq_true rfl⟩) (wb_preV hP hK (wr_12 hK hP (q0 := 0) rfl)) rfl rfl hl.1 rfl (lv_room (Nat.le_of_ble_eq_true rfl)) dX12_costOn_15 ⟨Nat.le_of_ble_eq_true rfl, Nat.le_of_ble_eq_true rfl⟩) (fun r9 e9 => ?_)
    rw [e9]
    refine lv_iload_n hx hb dX12_costOn_18 rfl (lv_at hl 3 rfl) ?_
    refine lv_sipush (v := (365 : Int32)) hx hb dX12_costOn_19 (by decide) ?_
    refine lv_irem hx hb dX12_costOn_22 (by decide) ?_
    refine lv_icmp_eq (tgt := 31) hx hb dX12_costOn_23 (by decide) (fun hc => ?_) (fun hc => ?_)
    · replace hf := wb_t hc hf
      exact J31 ls (lv_sub hl [0, 1, 2, 3, 4] rfl) hf
    · replace hf := wb_f hc hf
      refine lv_bipush (v := (30 : Int32)) hx hb dX12_costOn_26 (by decide) ?_
      refine lv_goto (tgt := 32) hx hb dX12_costOn_28 (by decide) ?_
      exact J32 (30 : Int32) ls (lv_sub hl [0, 1, 2, 3, 4] rfl) hf

set_option maxHeartbeats 4000000 in
set_option maxRecDepth 100000 in
theorem cn_X12_cost (l : Launch) (D : va_G) (cB cI cZ : ClassId) (N : Nat) (a0 : Nat → Nat) (I0 : Nat → Int32) (L0 : Int64) (M0 : Nat → Nat → Int32) (x1 : Int32) (x2 : Int32) (x3 : Int32) (x4 : Int32) (sz : Nat) (R : Int32 × (Nat → Int32) × Int64 × (Nat → Nat → Int32)) (hf : fX12_cost N I0 L0 M0 x1 x2 x3 x4 = some R) : Met l yX12_cost wsX12_cost ({ frames := 4, cells := 0, slots := 0, locals := 95 }) (va_Pc [.ref (a0 0), .int x1, .int x2, .int x3, .int x4] (wb_preD D [(cB, .byte), (cI, .int), (cZ, .boolean)] (wWX12 cB cI cZ a0 I0 L0 M0) sz)) (va_Qi (fun r (_ : Unit) => r = R.1) (fun _ t => wb_post D [(cB, .byte), (cI, .int), (cZ, .boolean)] (va_A (wWX12 cB cI cZ a0 I0 L0 M0) sz) (wWX12 cB cI cZ a0 R.2.1 R.2.2.1 R.2.2.2) t) (va_A (wWX12 cB cI cZ a0 I0 L0 M0) sz)) 0 0 (va_A (wWX12 cB cI cZ a0 I0 L0 M0) sz) := by
  refine Met.ofW (cc := cX12_cost) (maxL := 5) (ret := (some .int)) pn_X12 rfl ?_
  intro p e s m args below meth c s₁ B hml hv
  obtain ⟨rfl, hsz, hP, hK, hD0⟩ := hv
  have hx := B.exec
  have hb := B.bytes
  have hr := B.returns
  have hts := atoms_spec (ws := wsX12_cost) B.pre
  have hown : s.vm.findClass RX12 = some m.cls := (findClass_of_methodNamed B.named :)
  have hlocks := B.notSynchronized
  subst hsz
  have hD := hD0.self (sz := s.heap.size)
  generalize hAe : va_A (wWX12 cB cI cZ a0 I0 L0 M0) s.heap.size = A at hD ⊢
  have hA : ∀ q : Nat, s.heap.size ≤ q → A q := fun q h => by rw [← hAe]; exact Or.inr h
  have hS : va_S A s.heap s.heap [] := va_S.rf
  have hl := lv_entry ([.ref (a0 0), .int x1, .int x2, .int x3, .int x4]) (n := 5) (Nat.le_of_ble_eq_true rfl)
  rw [lg_entry_eq]
  generalize (lg_sl ([.ref (a0 0), .int x1, .int x2, .int x3, .int x4]) ++ List.replicate (5 - (lg_sl ([.ref (a0 0), .int x1, .int x2, .int x3, .int x4])).length) Slot.unset).toArray = ls at hl ⊢
  have hl : lv_has ls 5 [(0, .ref (a0 0)), (1, .int x1), (2, .int x2), (3, .int x3), (4, .int x4)] := hl
  unfold fX12_cost at hf
  obtain ⟨H, hHe⟩ : ∃ H : Heap, H = s.heap := ⟨_, rfl⟩
  obtain ⟨locs, hle⟩ : ∃ locs : List Loc, locs = [] := ⟨_, rfl⟩
  refine wb_start (H := H) (locs := locs) hHe hle ?_
  rw [← hHe] at hP
  have hS : va_S A s.heap H locs := by rw [hHe, hle]; exact va_S.rf
  have J35 : ∀ (I0_j35 : Nat → Int32) (L0_j35 : Int64) (M0_j35 : Nat → Nat → Int32) (z35_0 : Int32) (H : Heap) (locs : List Loc), va_P D vwCl (wWX12 cB cI cZ a0 I0_j35 L0_j35 M0_j35) H → va_D A (wWX12 cB cI cZ a0 I0_j35 L0_j35 M0_j35) → va_S A s.heap H locs → ∀ (ls : Array Slot), lv_has ls 5 [(0, .ref (a0 0)), (1, .int x1), (2, .int x2), (3, .int x3), (4, .int x4)] → fX12_cost_J35 N x1 x2 x3 x4 I0_j35 L0_j35 M0_j35 z35_0 = some R → W p l e (headSpec wsX12_cost { frames := 4, cells := 0, slots := 0, locals := 95 }).room s m [.ref (a0 0), .int x1, .int x2, .int x3, .int x4].toArray below meth c H locs 0 0 (MQ below (va_Qi (fun r (_ : Unit) => r = R.1) (fun _ t => wb_post D [(cB, .byte), (cI, .int), (cZ, .boolean)] A (wWX12 cB cI cZ a0 R.2.1 R.2.2.1 R.2.2.2) t) A) [.ref (a0 0), .int x1, .int x2, .int x3, .int x4].toArray s 0 0 A) (F0 m 35 ls [.int z35_0, .ref (a0 0)]) := by
    intro I0_j35 L0_j35 M0_j35 z35_0 H locs hP hD hS ls hl hf
    unfold fX12_cost_J35 at hf
    refine lv_iconst (v := (1 : Int32)) hx hb dX12_cost_35 (by decide) ?_
    obtain ⟨r1, hr1, hf⟩ := wb_b hf
    have hPc := hP
    have hDc := hD
    have hFc := wj_F hDc hS hA
    refine va_calli (va_runV (As := [.int z35_0, .int (1 : Int32)]) (rest := []) ⟨hx, hb, hml, hown, hts⟩ (cn_X12_right l D cB cI cZ N a0 I0_j35 L0_j35 M0_j35 z35_0 (1 : Int32) H.size r1 hr1) (cwV 2 hts gX12_cost_X12_right rfl rfl rfl cdX12_right ⟨Nat.le_of_ble_eq_true rfl, Nat.le_of_ble_eq_true rfl⟩) (wb_preDV hPc hK hDc (wr_12 hK hP (q0 := 0) rfl)) rfl rfl hl.1 rfl (lv_room (Nat.le_of_ble_eq_true rfl)) dX12_cost_36 ⟨Nat.le_of_ble_eq_true rfl, Nat.le_of_ble_eq_true rfl⟩) hS (fun q _ h => hFc q h) hFc (fun r9 u t H locs ht hvm hw hB hz1 hk1 hS => ?_)
    obtain ⟨hP, hD⟩ := wj_0 hFc ht hB
    rw [hw]
    refine lv_if_ne (tgt := 44) hx hb dX12_cost_39 (by decide) (fun hc => ?_) (fun hc => ?_)
    · replace hf := wb_f hc hf
      refine lv_aload_n hx hb dX12_cost_44 rfl (lv_at hl 0 rfl) ?_
      refine lv_bipush (v := (20 : Int32)) hx hb dX12_cost_45 (by decide) ?_
      refine lv_iload_n hx hb dX12_cost_47 rfl (lv_at hl 1 rfl) ?_
      refine lv_imul hx hb dX12_cost_48 ?_
      refine lv_iload_n hx hb dX12_cost_49 rfl (lv_at hl 2 rfl) ?_
      refine lv_iadd hx hb dX12_cost_50 ?_
      refine lv_iload_n hx hb dX12_cost_51 rfl (lv_at hl 3 rfl) ?_
      refine lv_iload hx hb dX12_cost_52 (lv_at hl 4 rfl) ?_
      refine lv_sipush (v := (999 : Int32)) hx hb dX12_cost_54 (by decide) ?_
      obtain ⟨r2, hr2, hf⟩ := wb_b hf
      refine vp_callSi (W.runV (As := [.int (((20 : Int32) * x1) + x2), .int x3, .int x4, .int (999 : Int32)]) (rest := []) ⟨hx, hb, hml, hown, hts⟩ (cn_X12_costOn l D cB cI cZ N a0 r1.2.1 r1.2.2.1 r1.2.2.2 (((20 : Int32) * x1) + x2) x3 x4 (999 : Int32) r2 hr2) (cwV 4 hts gX12_cost_X12_costOn rfl rfl rfl cdX12_costOn ⟨Nat.le_of_ble_eq_true rfl, Nat.le_of_ble_eq_true rfl⟩) (wb_preV hP hK (wr_12 hK hP (q0 := 0) rfl)) rfl rfl hl.1 rfl (lv_room (Nat.le_of_ble_eq_true rfl)) dX12_cost_57 ⟨Nat.le_of_ble_eq_true rfl, Nat.le_of_ble_eq_true rfl⟩) (fun r9 e9 => ?_)
      rw [e9]
      exact W.iret (v := r2) hx hb hr (fun t ht hW => by rw [← Option.some.inj hf]; exact ⟨⟨r2, (), rfl, rfl, by rw [ht]; exact hP, va_K.moved hW.alike hK, hD⟩, hS.F ht⟩) hS.2.2 dX12_cost_60
    · replace hf := wb_t hc hf
      refine lv_iconst (v := (0 : Int32)) hx hb dX12_cost_42 (by decide) ?_
      exact W.iret (v := (0 : Int32)) hx hb hr (fun t ht hW => by rw [← Option.some.inj hf]; exact ⟨⟨(0 : Int32), (), rfl, rfl, by rw [ht]; exact hP, va_K.moved hW.alike hK, hD⟩, hS.F ht⟩) hS.2.2 dX12_cost_43
  have J34 : ∀ (I0_j34 : Nat → Int32) (L0_j34 : Int64) (M0_j34 : Nat → Nat → Int32) (H : Heap) (locs : List Loc), va_P D vwCl (wWX12 cB cI cZ a0 I0_j34 L0_j34 M0_j34) H → va_D A (wWX12 cB cI cZ a0 I0_j34 L0_j34 M0_j34) → va_S A s.heap H locs → ∀ (ls : Array Slot), lv_has ls 5 [(0, .ref (a0 0)), (1, .int x1), (2, .int x2), (3, .int x3), (4, .int x4)] → fX12_cost_J34 N x1 x2 x3 x4 I0_j34 L0_j34 M0_j34 = some R → W p l e (headSpec wsX12_cost { frames := 4, cells := 0, slots := 0, locals := 95 }).room s m [.ref (a0 0), .int x1, .int x2, .int x3, .int x4].toArray below meth c H locs 0 0 (MQ below (va_Qi (fun r (_ : Unit) => r = R.1) (fun _ t => wb_post D [(cB, .byte), (cI, .int), (cZ, .boolean)] A (wWX12 cB cI cZ a0 R.2.1 R.2.2.1 R.2.2.2) t) A) [.ref (a0 0), .int x1, .int x2, .int x3, .int x4].toArray s 0 0 A) (F0 m 34 ls [.ref (a0 0)]) := by
    intro I0_j34 L0_j34 M0_j34 H locs hP hD hS ls hl hf
    unfold fX12_cost_J34 at hf
    refine lv_iconst (v := (0 : Int32)) hx hb dX12_cost_34 (by decide) ?_
    exact J35 I0_j34 L0_j34 M0_j34 (0 : Int32) H locs hP hD hS ls (lv_sub hl [0, 1, 2, 3, 4] rfl) hf
  refine lv_aload_n hx hb dX12_cost_0 rfl (lv_at hl 0 rfl) ?_
  refine lv_iload_n hx hb dX12_cost_1 rfl (lv_at hl 1 rfl) ?_
  refine lv_iload_n hx hb dX12_cost_2 rfl (lv_at hl 2 rfl) ?_
  obtain ⟨r3, hr3, hf⟩ := wb_b hf
  have hPc := hP
  have hDc := hD
  have hFc := wj_F hDc hS hA
  refine va_calli (va_runV (As := [.int x1, .int x2]) (rest := []) ⟨hx, hb, hml, hown, hts⟩ (cn_X12_isWheel l D cB cI cZ N a0 I0 L0 M0 x1 x2 H.size r3 hr3) (cwV 2 hts gX12_cost_X12_isWheel rfl rfl rfl cdX12_isWheel ⟨Nat.le_of_ble_eq_true rfl, Nat.le_of_ble_eq_true rfl⟩) (wb_preDV hPc hK hDc (wr_12 hK hP (q0 := 0) rfl)) rfl rfl hl.1 rfl (lv_room (Nat.le_of_ble_eq_true rfl)) dX12_cost_3 ⟨Nat.le_of_ble_eq_true rfl, Nat.le_of_ble_eq_true rfl⟩) hS (fun q _ h => hFc q h) hFc (fun r9 u t H locs ht hvm hw hB hz1 hk1 hS => ?_)
  obtain ⟨hP, hD⟩ := wj_0 hFc ht hB
  rw [hw]
  refine lv_if_eq (tgt := 42) hx hb dX12_cost_6 (by decide) (fun hc => ?_) (fun hc => ?_)
  · replace hf := wb_t hc hf
    refine lv_iconst (v := (0 : Int32)) hx hb dX12_cost_42 (by decide) ?_
    exact W.iret (v := (0 : Int32)) hx hb hr (fun t ht hW => by rw [← Option.some.inj hf]; exact ⟨⟨(0 : Int32), (), rfl, rfl, by rw [ht]; exact hP, va_K.moved hW.alike hK, hD⟩, hS.F ht⟩) hS.2.2 dX12_cost_43
  · replace hf := wb_f hc hf
    refine lv_aload_n hx hb dX12_cost_9 rfl (lv_at hl 0 rfl) ?_
    refine lv_iload_n hx hb dX12_cost_10 rfl (lv_at hl 3 rfl) ?_
    refine lv_iconst (v := (0 : Int32)) hx hb dX12_cost_11 (by decide) ?_
    refine lv_iconst (v := (3 : Int32)) hx hb dX12_cost_12 (by decide) ?_
    obtain ⟨r4, hr4, hf⟩ := wb_b hf
    refine vp_callSi (W.runS (As := [.int x3, .int (0 : Int32), .int (3 : Int32)]) (rest := [.ref (a0 0)]) ⟨hx, hb, hml, hown, hts⟩ (cn_X12_within l D cB cI cZ N x3 (0 : Int32) (3 : Int32) r4 hr4) (va_cwS 3 hts gX12_cost_X12_within rfl rfl rfl csX12_within ⟨Nat.le_of_ble_eq_true rfl, Nat.le_of_ble_eq_true rfl⟩) (wb_preS (hP.sub (ws' := ([] : va_W)) [] rfl) hK) rfl rfl hl.1 rfl (lv_room (Nat.le_of_ble_eq_true rfl)) dX12_cost_13 ⟨Nat.le_of_ble_eq_true rfl, Nat.le_of_ble_eq_true rfl⟩) (fun r9 e9 => ?_)
    rw [e9]
    refine lv_if_eq (tgt := 34) hx hb dX12_cost_16 (by decide) (fun hc => ?_) (fun hc => ?_)
    · replace hf := wb_t hc hf
      exact J34 r3.2.1 r3.2.2.1 r3.2.2.2 H locs hP hD hS ls (lv_sub hl [0, 1, 2, 3, 4] rfl) hf
    · replace hf := wb_f hc hf
      refine lv_iload hx hb dX12_cost_19 (lv_at hl 4 rfl) ?_
      refine lv_iconst (v := (0 : Int32)) hx hb dX12_cost_21 (by decide) ?_
      refine lv_ldc (v := (1000000 : Int32)) hx hb hown (hts (.constant RX12 218 (1000000)) (List.mem_of_getElem? (i := 1) rfl)) dX12_cost_22 ?_
      obtain ⟨r5, hr5, hf⟩ := wb_b hf
      refine vp_callSi (W.runS (As := [.int x4, .int (0 : Int32), .int (1000000 : Int32)]) (rest := [.ref (a0 0)]) ⟨hx, hb, hml, hown, hts⟩ (cn_X12_within l D cB cI cZ N x4 (0 : Int32) (1000000 : Int32) r5 hr5) (va_cwS 3 hts gX12_cost_X12_within rfl rfl rfl csX12_within ⟨Nat.le_of_ble_eq_true rfl, Nat.le_of_ble_eq_true rfl⟩) (wb_preS (hP.sub (ws' := ([] : va_W)) [] rfl) hK) rfl rfl hl.1 rfl (lv_room (Nat.le_of_ble_eq_true rfl)) dX12_cost_24 ⟨Nat.le_of_ble_eq_true rfl, Nat.le_of_ble_eq_true rfl⟩) (fun r9 e9 => ?_)
      rw [e9]
      refine lv_if_eq (tgt := 34) hx hb dX12_cost_27 (by decide) (fun hc => ?_) (fun hc => ?_)
      · replace hf := wb_t hc hf
        exact J34 r3.2.1 r3.2.2.1 r3.2.2.2 H locs hP hD hS ls (lv_sub hl [0, 1, 2, 3, 4] rfl) hf
      · replace hf := wb_f hc hf
        refine lv_iconst (v := (1 : Int32)) hx hb dX12_cost_30 (by decide) ?_
        refine lv_goto (tgt := 35) hx hb dX12_cost_31 (by decide) ?_
        exact J35 r3.2.1 r3.2.2.1 r3.2.2.2 (1 : Int32) H locs hP hD hS ls (lv_sub hl [0, 1, 2, 3, 4] rfl) hf

set_option maxHeartbeats 4000000 in
set_option maxRecDepth 100000 in
theorem cn_X12_isSpan (l : Launch) (D : va_G) (cB cI cZ : ClassId) (N : Nat) (a0 : Nat → Nat) (I0 : Nat → Int32) (L0 : Int64) (M0 : Nat → Nat → Int32) (x1 : Int32) (x2 : Int32) (sz : Nat) (R : Int32 × (Nat → Int32) × Int64 × (Nat → Nat → Int32)) (hf : fX12_isSpan N I0 L0 M0 x1 x2 = some R) : Met l yX12_isSpan wsX12_isSpan ({ frames := 1, cells := 0, slots := 0, locals := 22 }) (va_Pc [.ref (a0 0), .int x1, .int x2] (wb_preD D [(cB, .byte), (cI, .int), (cZ, .boolean)] (wWX12 cB cI cZ a0 I0 L0 M0) sz)) (va_Qi (fun r (_ : Unit) => r = R.1) (fun _ t => wb_post D [(cB, .byte), (cI, .int), (cZ, .boolean)] (va_A (wWX12 cB cI cZ a0 I0 L0 M0) sz) (wWX12 cB cI cZ a0 R.2.1 R.2.2.1 R.2.2.2) t) (va_A (wWX12 cB cI cZ a0 I0 L0 M0) sz)) 0 0 (va_A (wWX12 cB cI cZ a0 I0 L0 M0) sz) := by
  refine Met.ofW (cc := cX12_isSpan) (maxL := 3) (ret := (some .boolean)) pn_X12 rfl ?_
  intro p e s m args below meth c s₁ B hml hv
  obtain ⟨rfl, hsz, hP, hK, hD0⟩ := hv
  have hx := B.exec
  have hb := B.bytes
  have hr := B.returns
  have hts := atoms_spec (ws := wsX12_isSpan) B.pre
  have hown : s.vm.findClass RX12 = some m.cls := (findClass_of_methodNamed B.named :)
  have hlocks := B.notSynchronized
  subst hsz
  have hD := hD0.self (sz := s.heap.size)
  generalize hAe : va_A (wWX12 cB cI cZ a0 I0 L0 M0) s.heap.size = A at hD ⊢
  have hA : ∀ q : Nat, s.heap.size ≤ q → A q := fun q h => by rw [← hAe]; exact Or.inr h
  have hS : va_S A s.heap s.heap [] := va_S.rf
  have hl := lv_entry ([.ref (a0 0), .int x1, .int x2]) (n := 3) (Nat.le_of_ble_eq_true rfl)
  rw [lg_entry_eq]
  generalize (lg_sl ([.ref (a0 0), .int x1, .int x2]) ++ List.replicate (3 - (lg_sl ([.ref (a0 0), .int x1, .int x2])).length) Slot.unset).toArray = ls at hl ⊢
  have hl : lv_has ls 3 [(0, .ref (a0 0)), (1, .int x1), (2, .int x2)] := hl
  unfold fX12_isSpan at hf
  obtain ⟨H, hHe⟩ : ∃ H : Heap, H = s.heap := ⟨_, rfl⟩
  obtain ⟨locs, hle⟩ : ∃ locs : List Loc, locs = [] := ⟨_, rfl⟩
  refine wb_start (H := H) (locs := locs) hHe hle ?_
  rw [← hHe] at hP
  have hS : va_S A s.heap H locs := by rw [hHe, hle]; exact va_S.rf
  have J39 : ∀ (I0_j39 : Nat → Int32) (L0_j39 : Int64) (M0_j39 : Nat → Nat → Int32) (H : Heap) (locs : List Loc), va_P D vwCl (wWX12 cB cI cZ a0 I0_j39 L0_j39 M0_j39) H → va_D A (wWX12 cB cI cZ a0 I0_j39 L0_j39 M0_j39) → va_S A s.heap H locs → ∀ (ls : Array Slot), lv_has ls 3 [] → fX12_isSpan_J39 N x1 x2 I0_j39 L0_j39 M0_j39 = some R → W p l e (headSpec wsX12_isSpan { frames := 1, cells := 0, slots := 0, locals := 22 }).room s m [.ref (a0 0), .int x1, .int x2].toArray below meth c H locs 0 0 (MQ below (va_Qi (fun r (_ : Unit) => r = R.1) (fun _ t => wb_post D [(cB, .byte), (cI, .int), (cZ, .boolean)] A (wWX12 cB cI cZ a0 R.2.1 R.2.2.1 R.2.2.2) t) A) [.ref (a0 0), .int x1, .int x2].toArray s 0 0 A) (F0 m 39 ls [.ref (a0 0)]) := by
    intro I0_j39 L0_j39 M0_j39 H locs hP hD hS ls hl hf
    unfold fX12_isSpan_J39 at hf
    refine lv_iconst (v := (0 : Int32)) hx hb dX12_isSpan_39 (by decide) ?_
    refine lv_iconst (v := (2 : Int32)) hx hb dX12_isSpan_40 (by decide) ?_
    obtain ⟨r1, hr1, hf⟩ := wb_b hf
    have hPc := hP
    have hDc := hD
    have hFc := wj_F hDc hS hA
    refine va_calli (va_runV (As := [.int (0 : Int32), .int (2 : Int32)]) (rest := []) ⟨hx, hb, hml, hown, hts⟩ (cn_X12_right l D cB cI cZ N a0 I0_j39 L0_j39 M0_j39 (0 : Int32) (2 : Int32) H.size r1 hr1) (cwV 2 hts gX12_isSpan_X12_right rfl rfl rfl cdX12_right ⟨Nat.le_of_ble_eq_true rfl, Nat.le_of_ble_eq_true rfl⟩) (wb_preDV hPc hK hDc (wr_12 hK hP (q0 := 0) rfl)) rfl rfl hl.1 rfl (lv_room (Nat.le_of_ble_eq_true rfl)) dX12_isSpan_41 ⟨Nat.le_of_ble_eq_true rfl, Nat.le_of_ble_eq_true rfl⟩) hS (fun q _ h => hFc q h) hFc (fun r9 u t H locs ht hvm hw hB hz1 hk1 hS => ?_)
    obtain ⟨hP, hD⟩ := wj_0 hFc ht hB
    rw [hw]
    refine lv_if_eq (tgt := 51) hx hb dX12_isSpan_44 (by decide) (fun hc => ?_) (fun hc => ?_)
    · replace hf := wb_t hc hf
      refine lv_iconst (v := (0 : Int32)) hx hb dX12_isSpan_51 (by decide) ?_
      exact W.zret (v := (0 : Int32)) hx hb hr (by decide) (fun t ht hW => by rw [← Option.some.inj hf]; exact ⟨⟨(0 : Int32), (), rfl, rfl, by rw [ht]; exact hP, va_K.moved hW.alike hK, hD⟩, hS.F ht⟩) hS.2.2 dX12_isSpan_52
    · replace hf := wb_f hc hf
      refine lv_iconst (v := (1 : Int32)) hx hb dX12_isSpan_47 (by decide) ?_
      refine lv_goto (tgt := 52) hx hb dX12_isSpan_48 (by decide) ?_
      exact W.zret (v := (1 : Int32)) hx hb hr (by decide) (fun t ht hW => by rw [← Option.some.inj hf]; exact ⟨⟨(1 : Int32), (), rfl, rfl, by rw [ht]; exact hP, va_K.moved hW.alike hK, hD⟩, hS.F ht⟩) hS.2.2 dX12_isSpan_52
  refine lv_aload_n hx hb dX12_isSpan_0 rfl (lv_at hl 0 rfl) ?_
  refine lv_iload_n hx hb dX12_isSpan_1 rfl (lv_at hl 1 rfl) ?_
  refine lv_iconst (v := (0 : Int32)) hx hb dX12_isSpan_2 (by decide) ?_
  refine lv_ldc (v := (1000000 : Int32)) hx hb hown (hts (.constant RX12 218 (1000000)) (List.mem_of_getElem? (i := 1) rfl)) dX12_isSpan_3 ?_
  obtain ⟨r2, hr2, hf⟩ := wb_b hf
  refine vp_callSi (W.runS (As := [.int x1, .int (0 : Int32), .int (1000000 : Int32)]) (rest := [.ref (a0 0)]) ⟨hx, hb, hml, hown, hts⟩ (cn_X12_within l D cB cI cZ N x1 (0 : Int32) (1000000 : Int32) r2 hr2) (va_cwS 3 hts gX12_isSpan_X12_within rfl rfl rfl csX12_within ⟨Nat.le_of_ble_eq_true rfl, Nat.le_of_ble_eq_true rfl⟩) (wb_preS (hP.sub (ws' := ([] : va_W)) [] rfl) hK) rfl rfl hl.1 rfl (lv_room (Nat.le_of_ble_eq_true rfl)) dX12_isSpan_5 ⟨Nat.le_of_ble_eq_true rfl, Nat.le_of_ble_eq_true rfl⟩) (fun r9 e9 => ?_)
  rw [e9]
  refine lv_iconst (v := (1 : Int32)) hx hb dX12_isSpan_8 (by decide) ?_
  obtain ⟨r3, hr3, hf⟩ := wb_b hf
  have hPc := hP
  have hDc := hD
  have hFc := wj_F hDc hS hA
  refine va_calli (va_runV (As := [.int r2, .int (1 : Int32)]) (rest := []) ⟨hx, hb, hml, hown, hts⟩ (cn_X12_right l D cB cI cZ N a0 I0 L0 M0 r2 (1 : Int32) H.size r3 hr3) (cwV 2 hts gX12_isSpan_X12_right rfl rfl rfl cdX12_right ⟨Nat.le_of_ble_eq_true rfl, Nat.le_of_ble_eq_true rfl⟩) (wb_preDV hPc hK hDc (wr_12 hK hP (q0 := 0) rfl)) rfl rfl hl.1 rfl (lv_room (Nat.le_of_ble_eq_true rfl)) dX12_isSpan_9 ⟨Nat.le_of_ble_eq_true rfl, Nat.le_of_ble_eq_true rfl⟩) hS (fun q _ h => hFc q h) hFc (fun r9 u t H locs ht hvm hw hB hz1 hk1 hS => ?_)
  obtain ⟨hP, hD⟩ := wj_0 hFc ht hB
  rw [hw]
  refine lv_if_eq (tgt := 51) hx hb dX12_isSpan_12 (by decide) (fun hc => ?_) (fun hc => ?_)
  · replace hf := wb_t hc hf
    refine lv_iconst (v := (0 : Int32)) hx hb dX12_isSpan_51 (by decide) ?_
    exact W.zret (v := (0 : Int32)) hx hb hr (by decide) (fun t ht hW => by rw [← Option.some.inj hf]; exact ⟨⟨(0 : Int32), (), rfl, rfl, by rw [ht]; exact hP, va_K.moved hW.alike hK, hD⟩, hS.F ht⟩) hS.2.2 dX12_isSpan_52
  · replace hf := wb_f hc hf
    refine lv_aload_n hx hb dX12_isSpan_15 rfl (lv_at hl 0 rfl) ?_
    refine lv_iload_n hx hb dX12_isSpan_16 rfl (lv_at hl 2 rfl) ?_
    refine lv_iconst (v := (0 : Int32)) hx hb dX12_isSpan_17 (by decide) ?_
    refine lv_ldcw (v := (50000 : Int32)) hx hb hown (hts (.constant RX12 290 (50000)) (List.mem_of_getElem? (i := 2) rfl)) dX12_isSpan_18 ?_
    obtain ⟨r4, hr4, hf⟩ := wb_b hf
    refine vp_callSi (W.runS (As := [.int x2, .int (0 : Int32), .int (50000 : Int32)]) (rest := [.ref (a0 0)]) ⟨hx, hb, hml, hown, hts⟩ (cn_X12_within l D cB cI cZ N x2 (0 : Int32) (50000 : Int32) r4 hr4) (va_cwS 3 hts gX12_isSpan_X12_within rfl rfl rfl csX12_within ⟨Nat.le_of_ble_eq_true rfl, Nat.le_of_ble_eq_true rfl⟩) (wb_preS (hP.sub (ws' := ([] : va_W)) [] rfl) hK) rfl rfl hl.1 rfl (lv_room (Nat.le_of_ble_eq_true rfl)) dX12_isSpan_21 ⟨Nat.le_of_ble_eq_true rfl, Nat.le_of_ble_eq_true rfl⟩) (fun r9 e9 => ?_)
    rw [e9]
    refine lv_if_eq (tgt := 39) hx hb dX12_isSpan_24 (by decide) (fun hc => ?_) (fun hc => ?_)
    · replace hf := wb_t hc hf
      exact J39 r3.2.1 r3.2.2.1 r3.2.2.2 H locs hP hD hS ls (lv_sub hl [] rfl) hf
    · replace hf := wb_f hc hf
      refine lv_iload_n hx hb dX12_isSpan_27 rfl (lv_at hl 1 rfl) ?_
      refine lv_iload_n hx hb dX12_isSpan_28 rfl (lv_at hl 2 rfl) ?_
      refine lv_iadd hx hb dX12_isSpan_29 ?_
      refine lv_ldc (v := (1000000 : Int32)) hx hb hown (hts (.constant RX12 218 (1000000)) (List.mem_of_getElem? (i := 1) rfl)) dX12_isSpan_30 ?_
      refine lv_icmp_gt (tgt := 39) hx hb dX12_isSpan_32 (by decide) (fun hc => ?_) (fun hc => ?_)
      · replace hf := wb_t hc hf
        exact J39 r3.2.1 r3.2.2.1 r3.2.2.2 H locs hP hD hS ls (lv_sub hl [] rfl) hf
      · replace hf := wb_f hc hf
        refine lv_iconst (v := (1 : Int32)) hx hb dX12_isSpan_35 (by decide) ?_
        refine lv_goto (tgt := 40) hx hb dX12_isSpan_36 (by decide) ?_
        refine lv_iconst (v := (2 : Int32)) hx hb dX12_isSpan_40 (by decide) ?_
        obtain ⟨r5, hr5, hf⟩ := wb_b hf
        have hPc := hP
        have hDc := hD
        have hFc := wj_F hDc hS hA
        refine va_calli (va_runV (As := [.int (1 : Int32), .int (2 : Int32)]) (rest := []) ⟨hx, hb, hml, hown, hts⟩ (cn_X12_right l D cB cI cZ N a0 r3.2.1 r3.2.2.1 r3.2.2.2 (1 : Int32) (2 : Int32) H.size r5 hr5) (cwV 2 hts gX12_isSpan_X12_right rfl rfl rfl cdX12_right ⟨Nat.le_of_ble_eq_true rfl, Nat.le_of_ble_eq_true rfl⟩) (wb_preDV hPc hK hDc (wr_12 hK hP (q0 := 0) rfl)) rfl rfl hl.1 rfl (lv_room (Nat.le_of_ble_eq_true rfl)) dX12_isSpan_41 ⟨Nat.le_of_ble_eq_true rfl, Nat.le_of_ble_eq_true rfl⟩) hS (fun q _ h => hFc q h) hFc (fun r9 u t H locs ht hvm hw hB hz1 hk1 hS => ?_)
        obtain ⟨hP, hD⟩ := wj_0 hFc ht hB
        rw [hw]
        refine lv_if_eq (tgt := 51) hx hb dX12_isSpan_44 (by decide) (fun hc => ?_) (fun hc => ?_)
        · replace hf := wb_t hc hf
          refine lv_iconst (v := (0 : Int32)) hx hb dX12_isSpan_51 (by decide) ?_
          exact W.zret (v := (0 : Int32)) hx hb hr (by decide) (fun t ht hW => by rw [← Option.some.inj hf]; exact ⟨⟨(0 : Int32), (), rfl, rfl, by rw [ht]; exact hP, va_K.moved hW.alike hK, hD⟩, hS.F ht⟩) hS.2.2 dX12_isSpan_52
        · replace hf := wb_f hc hf
          refine lv_iconst (v := (1 : Int32)) hx hb dX12_isSpan_47 (by decide) ?_
          refine lv_goto (tgt := 52) hx hb dX12_isSpan_48 (by decide) ?_
          exact W.zret (v := (1 : Int32)) hx hb hr (by decide) (fun t ht hW => by rw [← Option.some.inj hf]; exact ⟨⟨(1 : Int32), (), rfl, rfl, by rw [ht]; exact hP, va_K.moved hW.alike hK, hD⟩, hS.F ht⟩) hS.2.2 dX12_isSpan_52

set_option maxHeartbeats 4000000 in
set_option maxRecDepth 100000 in
theorem cn_X12_best (l : Launch) (D : va_G) (cB cI cZ : ClassId) (N : Nat) (a0 : Nat → Nat) (I0 : Nat → Int32) (L0 : Int64) (M0 : Nat → Nat → Int32) (x1 : Int32) (x2 : Int32) (x3 : Int32) (x4 : Int32) (x5 : Int32) (sz : Nat) (R : Int32 × (Nat → Int32) × Int64 × (Nat → Nat → Int32)) (hf : fX12_best N I0 L0 M0 x1 x2 x3 x4 x5 = some R) : Met l yX12_best wsX12_best ({ frames := 4, cells := 0, slots := 0, locals := 95 }) (va_Pc [.ref (a0 0), .int x1, .int x2, .int x3, .int x4, .int x5] (wb_preD D [(cB, .byte), (cI, .int), (cZ, .boolean)] (wWX12 cB cI cZ a0 I0 L0 M0) sz)) (va_Qi (fun r (_ : Unit) => r = R.1) (fun _ t => wb_post D [(cB, .byte), (cI, .int), (cZ, .boolean)] (va_A (wWX12 cB cI cZ a0 I0 L0 M0) sz) (wWX12 cB cI cZ a0 R.2.1 R.2.2.1 R.2.2.2) t) (va_A (wWX12 cB cI cZ a0 I0 L0 M0) sz)) 0 0 (va_A (wWX12 cB cI cZ a0 I0 L0 M0) sz) := by
  refine Met.ofW (cc := cX12_best) (maxL := 9) (ret := (some .int)) pn_X12 rfl ?_
  intro p e s m args below meth c s₁ B hml hv
  obtain ⟨rfl, hsz, hP, hK, hD0⟩ := hv
  have hx := B.exec
  have hb := B.bytes
  have hr := B.returns
  have hts := atoms_spec (ws := wsX12_best) B.pre
  have hown : s.vm.findClass RX12 = some m.cls := (findClass_of_methodNamed B.named :)
  have hlocks := B.notSynchronized
  have hinX12 : ∀ w ∈ u_ws RX12 TX12 58, w ∈ wsX12_best := fun w h => List.mem_cons_of_mem _ (List.mem_append_right _ h)
  subst hsz
  have hD := hD0.self (sz := s.heap.size)
  generalize hAe : va_A (wWX12 cB cI cZ a0 I0 L0 M0) s.heap.size = A at hD ⊢
  have hA : ∀ q : Nat, s.heap.size ≤ q → A q := fun q h => by rw [← hAe]; exact Or.inr h
  have hS : va_S A s.heap s.heap [] := va_S.rf
  have hl := lv_entry ([.ref (a0 0), .int x1, .int x2, .int x3, .int x4, .int x5]) (n := 9) (Nat.le_of_ble_eq_true rfl)
  rw [lg_entry_eq]
  generalize (lg_sl ([.ref (a0 0), .int x1, .int x2, .int x3, .int x4, .int x5]) ++ List.replicate (9 - (lg_sl ([.ref (a0 0), .int x1, .int x2, .int x3, .int x4, .int x5])).length) Slot.unset).toArray = ls at hl ⊢
  have hl : lv_has ls 9 [(0, .ref (a0 0)), (1, .int x1), (2, .int x2), (3, .int x3), (4, .int x4), (5, .int x5)] := hl
  unfold fX12_best at hf
  obtain ⟨H, hHe⟩ : ∃ H : Heap, H = s.heap := ⟨_, rfl⟩
  obtain ⟨locs, hle⟩ : ∃ locs : List Loc, locs = [] := ⟨_, rfl⟩
  refine wb_start (H := H) (locs := locs) hHe hle ?_
  rw [← hHe] at hP
  have hS : va_S A s.heap H locs := by rw [hHe, hle]; exact va_S.rf
  refine lv_aload_n hx hb dX12_best_0 rfl (lv_at hl 0 rfl) ?_
  refine lv_iload_n hx hb dX12_best_1 rfl (lv_at hl 1 rfl) ?_
  refine lv_iload_n hx hb dX12_best_2 rfl (lv_at hl 2 rfl) ?_
  obtain ⟨r1, hr1, hf⟩ := wb_b hf
  have hPc := hP
  have hDc := hD
  have hFc := wj_F hDc hS hA
  refine va_calli (va_runV (As := [.int x1, .int x2]) (rest := []) ⟨hx, hb, hml, hown, hts⟩ (cn_X12_isWheel l D cB cI cZ N a0 I0 L0 M0 x1 x2 H.size r1 hr1) (cwV 2 hts gX12_best_X12_isWheel rfl rfl rfl cdX12_isWheel ⟨Nat.le_of_ble_eq_true rfl, Nat.le_of_ble_eq_true rfl⟩) (wb_preDV hPc hK hDc (wr_12 hK hP (q0 := 0) rfl)) rfl rfl hl.1 rfl (lv_room (Nat.le_of_ble_eq_true rfl)) dX12_best_3 ⟨Nat.le_of_ble_eq_true rfl, Nat.le_of_ble_eq_true rfl⟩) hS (fun q _ h => hFc q h) hFc (fun r9 u t H locs ht hvm hw hB hz1 hk1 hS => ?_)
  obtain ⟨hP, hD⟩ := wj_0 hFc ht hB
  rw [hw]
  refine lv_if_eq (tgt := 34) hx hb dX12_best_6 (by decide) (fun hc => ?_) (fun hc => ?_)
  · replace hf := wb_t hc hf
    refine lv_iconst (v := (0 : Int32)) hx hb dX12_best_34 (by decide) ?_
    exact W.iret (v := (0 : Int32)) hx hb hr (fun t ht hW => by rw [← Option.some.inj hf]; exact ⟨⟨(0 : Int32), (), rfl, rfl, by rw [ht]; exact hP, va_K.moved hW.alike hK, hD⟩, hS.F ht⟩) hS.2.2 dX12_best_35
  · replace hf := wb_f hc hf
    refine lv_aload_n hx hb dX12_best_9 rfl (lv_at hl 0 rfl) ?_
    refine lv_iload_n hx hb dX12_best_10 rfl (lv_at hl 3 rfl) ?_
    refine lv_iconst (v := (0 : Int32)) hx hb dX12_best_11 (by decide) ?_
    refine lv_iconst (v := (3 : Int32)) hx hb dX12_best_12 (by decide) ?_
    obtain ⟨r2, hr2, hf⟩ := wb_b hf
    refine vp_callSi (W.runS (As := [.int x3, .int (0 : Int32), .int (3 : Int32)]) (rest := [.ref (a0 0)]) ⟨hx, hb, hml, hown, hts⟩ (cn_X12_within l D cB cI cZ N x3 (0 : Int32) (3 : Int32) r2 hr2) (va_cwS 3 hts gX12_best_X12_within rfl rfl rfl csX12_within ⟨Nat.le_of_ble_eq_true rfl, Nat.le_of_ble_eq_true rfl⟩) (wb_preS (hP.sub (ws' := ([] : va_W)) [] rfl) hK) rfl rfl hl.1 rfl (lv_room (Nat.le_of_ble_eq_true rfl)) dX12_best_13 ⟨Nat.le_of_ble_eq_true rfl, Nat.le_of_ble_eq_true rfl⟩) (fun r9 e9 => ?_)
    rw [e9]
    refine lv_iconst (v := (1 : Int32)) hx hb dX12_best_16 (by decide) ?_
    obtain ⟨r3, hr3, hf⟩ := wb_b hf
    have hPc := hP
    have hDc := hD
    have hFc := wj_F hDc hS hA
    refine va_calli (va_runV (As := [.int r2, .int (1 : Int32)]) (rest := []) ⟨hx, hb, hml, hown, hts⟩ (cn_X12_right l D cB cI cZ N a0 r1.2.1 r1.2.2.1 r1.2.2.2 r2 (1 : Int32) H.size r3 hr3) (cwV 2 hts gX12_best_X12_right rfl rfl rfl cdX12_right ⟨Nat.le_of_ble_eq_true rfl, Nat.le_of_ble_eq_true rfl⟩) (wb_preDV hPc hK hDc (wr_12 hK hP (q0 := 0) rfl)) rfl rfl hl.1 rfl (lv_room (Nat.le_of_ble_eq_true rfl)) dX12_best_17 ⟨Nat.le_of_ble_eq_true rfl, Nat.le_of_ble_eq_true rfl⟩) hS (fun q _ h => hFc q h) hFc (fun r9 u t H locs ht hvm hw hB hz1 hk1 hS => ?_)
    obtain ⟨hP, hD⟩ := wj_0 hFc ht hB
    rw [hw]
    refine lv_if_eq (tgt := 34) hx hb dX12_best_20 (by decide) (fun hc => ?_) (fun hc => ?_)
    · replace hf := wb_t hc hf
      refine lv_iconst (v := (0 : Int32)) hx hb dX12_best_34 (by decide) ?_
      exact W.iret (v := (0 : Int32)) hx hb hr (fun t ht hW => by rw [← Option.some.inj hf]; exact ⟨⟨(0 : Int32), (), rfl, rfl, by rw [ht]; exact hP, va_K.moved hW.alike hK, hD⟩, hS.F ht⟩) hS.2.2 dX12_best_35
    · replace hf := wb_f hc hf
      refine lv_aload_n hx hb dX12_best_23 rfl (lv_at hl 0 rfl) ?_
      refine lv_iload hx hb dX12_best_24 (lv_at hl 4 rfl) ?_
      refine lv_iload hx hb dX12_best_26 (lv_at hl 5 rfl) ?_
      obtain ⟨r4, hr4, hf⟩ := wb_b hf
      have hPc := hP
      have hDc := hD
      have hFc := wj_F hDc hS hA
      refine va_calli (va_runV (As := [.int x4, .int x5]) (rest := []) ⟨hx, hb, hml, hown, hts⟩ (cn_X12_isSpan l D cB cI cZ N a0 r3.2.1 r3.2.2.1 r3.2.2.2 x4 x5 H.size r4 hr4) (cwV 2 hts gX12_best_X12_isSpan rfl rfl rfl cdX12_isSpan ⟨Nat.le_of_ble_eq_true rfl, Nat.le_of_ble_eq_true rfl⟩) (wb_preDV hPc hK hDc (wr_12 hK hP (q0 := 0) rfl)) rfl rfl hl.1 rfl (lv_room (Nat.le_of_ble_eq_true rfl)) dX12_best_28 ⟨Nat.le_of_ble_eq_true rfl, Nat.le_of_ble_eq_true rfl⟩) hS (fun q _ h => hFc q h) hFc (fun r9 u t H locs ht hvm hw hB hz1 hk1 hS => ?_)
      obtain ⟨hP, hD⟩ := wj_0 hFc ht hB
      rw [hw]
      refine lv_if_ne (tgt := 36) hx hb dX12_best_31 (by decide) (fun hc => ?_) (fun hc => ?_)
      · replace hf := wb_f hc hf
        refine lv_sipush (v := (999 : Int32)) hx hb dX12_best_36 (by decide) ?_
        refine lv_istore (lv' := [(6, .int (999 : Int32)), (0, .ref (a0 0)), (1, .int x1), (2, .int x2), (3, .int x3), (4, .int x4), (5, .int x5)]) hx hb dX12_best_39 hl (by decide) rfl (fun ls hl => ?_)
        refine lv_iload hx hb dX12_best_41 (lv_at hl 5 rfl) ?_
        refine lv_istore (lv' := [(7, .int x4), (6, .int (999 : Int32)), (0, .ref (a0 0)), (1, .int x1), (2, .int x2), (3, .int x3), (4, .int x4), (5, .int x5)]) hx hb dX12_best_43 hl (by decide) rfl (fun ls hl => ?_)
        have Lh45 : ∀ (fu45 : Nat) (I0_l45 : Nat → Int32) (L0_l45 : Int64) (M0_l45 : Nat → Nat → Int32) (y45_6 : Int32) (y45_7 : Int32) (H : Heap) (locs : List Loc), va_P D vwCl (wWX12 cB cI cZ a0 I0_l45 L0_l45 M0_l45) H → va_D A (wWX12 cB cI cZ a0 I0_l45 L0_l45 M0_l45) → va_S A s.heap H locs → ∀ (ls : Array Slot), lv_has ls 9 [(0, .ref (a0 0)), (1, .int x1), (2, .int x2), (3, .int x3), (4, .int x4), (5, .int x5), (6, .int y45_6), (7, .int y45_7)] → fX12_best_L45 N x1 x2 x3 x4 x5 fu45 I0_l45 L0_l45 M0_l45 y45_6 y45_7 = some R → W p l e (headSpec wsX12_best { frames := 4, cells := 0, slots := 0, locals := 95 }).room s m [.ref (a0 0), .int x1, .int x2, .int x3, .int x4, .int x5].toArray below meth c H locs 0 0 (MQ below (va_Qi (fun r (_ : Unit) => r = R.1) (fun _ t => wb_post D [(cB, .byte), (cI, .int), (cZ, .boolean)] A (wWX12 cB cI cZ a0 R.2.1 R.2.2.1 R.2.2.2) t) A) [.ref (a0 0), .int x1, .int x2, .int x3, .int x4, .int x5].toArray s 0 0 A) (F0 m 45 ls []) := by
          intro fu45
          induction fu45 with
          | zero =>
            intro I0_l45 L0_l45 M0_l45 y45_6 y45_7 H locs hP hD hS ls hl hf
            exact absurd hf (by rw [fX12_best_L45.eq_1]; exact fun h => nomatch h)
          | succ fu45 ih45 =>
            have J118 : ∀ (I0_j118 : Nat → Int32) (L0_j118 : Int64) (M0_j118 : Nat → Nat → Int32) (y118_6 : Int32) (y118_7 : Int32) (H : Heap) (locs : List Loc), va_P D vwCl (wWX12 cB cI cZ a0 I0_j118 L0_j118 M0_j118) H → va_D A (wWX12 cB cI cZ a0 I0_j118 L0_j118 M0_j118) → va_S A s.heap H locs → ∀ (ls : Array Slot), lv_has ls 9 [(0, .ref (a0 0)), (1, .int x1), (2, .int x2), (3, .int x3), (4, .int x4), (5, .int x5), (6, .int y118_6), (7, .int y118_7)] → fX12_best_J118 N x1 x2 x3 x4 x5 (fX12_best_L45 N x1 x2 x3 x4 x5 fu45) I0_j118 L0_j118 M0_j118 y118_6 y118_7 = some R → W p l e (headSpec wsX12_best { frames := 4, cells := 0, slots := 0, locals := 95 }).room s m [.ref (a0 0), .int x1, .int x2, .int x3, .int x4, .int x5].toArray below meth c H locs 0 0 (MQ below (va_Qi (fun r (_ : Unit) => r = R.1) (fun _ t => wb_post D [(cB, .byte), (cI, .int), (cZ, .boolean)] A (wWX12 cB cI cZ a0 R.2.1 R.2.2.1 R.2.2.2) t) A) [.ref (a0 0), .int x1, .int x2, .int x3, .int x4, .int x5].toArray s 0 0 A) (F0 m 118 ls []) := by
              intro I0_j118 L0_j118 M0_j118 y118_6 y118_7 H locs hP hD hS ls hl hf
              unfold fX12_best_J118 at hf
              refine lv_aload_n hx hb dX12_best_118 rfl (lv_at hl 0 rfl) ?_
              refine lv_dup hx hb dX12_best_119 rfl ?_
              refine va_get (D := D) (ci := 12) (v := .int (I0_j118 15)) (C := RX12) (T := TX12) (N := 58) hx hb hts hinX12 hown hK hP 0 rfl rfl 33 (by decide) (hts (.fieldLink RX12 65 "WheelBookModel" "bestMany" "I") (List.mem_of_getElem? (i := 1) rfl)) (fun _ h9 => h9) rfl dX12_best_120 ?_
              refine lv_iconst (v := (1 : Int32)) hx hb dX12_best_123 (by decide) ?_
              refine lv_iadd hx hb dX12_best_124 ?_
              refine va_put (D := D) (ci := 12) (v := .int ((I0_j118 15) + (1 : Int32))) (ty := .int) (C := RX12) (T := TX12) (N := 58) hx hb hts hinX12 tyX12 tyX12_ok nmX12 hown hK hP hD hS 0 rfl rfl 33 (by decide) (hts (.fieldLink RX12 65 "WheelBookModel" "bestMany" "I") (List.mem_of_getElem? (i := 1) rfl)) (fun _ h9 => h9) rfl (by decide +kernel) rfl rfl (Nat.le_of_ble_eq_true rfl) dX12_best_125 (fun H locs hP hD hS => ?_)
              have hP : va_P D vwCl (wWX12 cB cI cZ a0 (upd I0_j118 15 ((I0_j118 15) + (1 : Int32))) L0_j118 M0_j118) H := hP
              have hD : va_D A (wWX12 cB cI cZ a0 (upd I0_j118 15 ((I0_j118 15) + (1 : Int32))) L0_j118 M0_j118) := hD
              obtain ⟨I0_5, eI0_5, hf⟩ := wb_v hf
              rw [← eI0_5] at hP hD
              obtain ⟨v6, ev6, hf⟩ := wb_v hf
              refine lv_iinc (v := v6) (lv' := [(7, .int v6), (0, .ref (a0 0)), (1, .int x1), (2, .int x2), (3, .int x3), (4, .int x4), (5, .int x5), (6, .int y118_6)]) hx hb dX12_best_128 hl (k := 7) rfl (by rw [ev6]; rfl) (by decide) rfl (fun ls hl => ?_)
              refine lv_goto (tgt := 45) hx hb dX12_best_131 (by decide) ?_
              exact ih45 I0_5 L0_j118 M0_j118 y118_6 v6 H locs hP hD hS ls (lv_sub hl [1, 2, 3, 4, 5, 6, 7, 0] rfl) hf
            have J94 : ∀ (I0_j94 : Nat → Int32) (L0_j94 : Int64) (M0_j94 : Nat → Nat → Int32) (y94_7 : Int32) (y94_8 : Int32) (H : Heap) (locs : List Loc), va_P D vwCl (wWX12 cB cI cZ a0 I0_j94 L0_j94 M0_j94) H → va_D A (wWX12 cB cI cZ a0 I0_j94 L0_j94 M0_j94) → va_S A s.heap H locs → ∀ (ls : Array Slot), lv_has ls 9 [(0, .ref (a0 0)), (1, .int x1), (2, .int x2), (3, .int x3), (4, .int x4), (5, .int x5), (7, .int y94_7), (8, .int y94_8)] → fX12_best_J94 N x1 x2 x3 x4 x5 (fX12_best_L45 N x1 x2 x3 x4 x5 fu45) I0_j94 L0_j94 M0_j94 y94_7 y94_8 = some R → W p l e (headSpec wsX12_best { frames := 4, cells := 0, slots := 0, locals := 95 }).room s m [.ref (a0 0), .int x1, .int x2, .int x3, .int x4, .int x5].toArray below meth c H locs 0 0 (MQ below (va_Qi (fun r (_ : Unit) => r = R.1) (fun _ t => wb_post D [(cB, .byte), (cI, .int), (cZ, .boolean)] A (wWX12 cB cI cZ a0 R.2.1 R.2.2.1 R.2.2.2) t) A) [.ref (a0 0), .int x1, .int x2, .int x3, .int x4, .int x5].toArray s 0 0 A) (F0 m 94 ls []) := by
              intro I0_j94 L0_j94 M0_j94 y94_7 y94_8 H locs hP hD hS ls hl hf
              unfold fX12_best_J94 at hf
              refine lv_iload hx hb dX12_best_94 (lv_at hl 7 rfl) ?_
              refine lv_istore (lv' := [(6, .int y94_8), (0, .ref (a0 0)), (1, .int x1), (2, .int x2), (3, .int x3), (4, .int x4), (5, .int x5), (7, .int y94_7), (8, .int y94_8)]) hx hb dX12_best_96 hl (by decide) rfl (fun ls hl => ?_)
              refine lv_aload_n hx hb dX12_best_98 rfl (lv_at hl 1 rfl) ?_
              refine va_get (D := D) (ci := 12) (v := .int (I0_j94 15)) (C := RX12) (T := TX12) (N := 58) hx hb hts hinX12 hown hK hP 0 rfl rfl 33 (by decide) (hts (.fieldLink RX12 65 "WheelBookModel" "bestMany" "I") (List.mem_of_getElem? (i := 1) rfl)) (fun _ h9 => h9) rfl dX12_best_99 ?_
              refine lv_bipush (v := (20 : Int32)) hx hb dX12_best_102 (by decide) ?_
              refine lv_icmp_ge (tgt := 118) hx hb dX12_best_104 (by decide) (fun hc => ?_) (fun hc => ?_)
              · replace hf := wb_t hc hf
                exact J118 I0_j94 L0_j94 M0_j94 y94_8 y94_7 H locs hP hD hS ls (lv_sub hl [1, 2, 3, 4, 5, 6, 0, 7] rfl) hf
              · replace hf := wb_f hc hf
                refine lv_aload_n hx hb dX12_best_107 rfl (lv_at hl 1 rfl) ?_
                refine va_get (D := D) (ci := 12) (v := .ref (a0 18)) (C := RX12) (T := TX12) (N := 58) hx hb hts hinX12 hown hK hP 0 rfl rfl 34 (by decide) (hts (.fieldLink RX12 68 "WheelBookModel" "bestDay" "[I") (List.mem_of_getElem? (i := 2) rfl)) (fun _ h9 => h9) rfl dX12_best_108 ?_
                refine lv_aload_n hx hb dX12_best_111 rfl (lv_at hl 1 rfl) ?_
                refine va_get (D := D) (ci := 12) (v := .int (I0_j94 15)) (C := RX12) (T := TX12) (N := 58) hx hb hts hinX12 hown hK hP 0 rfl rfl 33 (by decide) (hts (.fieldLink RX12 65 "WheelBookModel" "bestMany" "I") (List.mem_of_getElem? (i := 1) rfl)) (fun _ h9 => h9) rfl dX12_best_112 ?_
                refine lv_iload hx hb dX12_best_115 (lv_at hl 7 rfl) ?_
                obtain ⟨hin, hf⟩ := wb_n hf
                refine va_iast hx hb hK hP hD hS 18 1 rfl rfl hin dX12_best_117 (fun H locs hP hD hS => ?_)
                have hP : va_P D vwCl (wWX12 cB cI cZ a0 I0_j94 L0_j94 (wb_um M0_j94 17 ((I0_j94 15)).toNatClampNeg y94_7)) H := hP
                have hD : va_D A (wWX12 cB cI cZ a0 I0_j94 L0_j94 (wb_um M0_j94 17 ((I0_j94 15)).toNatClampNeg y94_7)) := hD
                obtain ⟨M0_7, eM0_7, hf⟩ := wb_v hf
                rw [← eM0_7] at hP hD
                exact J118 I0_j94 L0_j94 M0_7 y94_8 y94_7 H locs hP hD hS ls (lv_sub hl [1, 2, 3, 4, 5, 6, 0, 7] rfl) hf
            intro I0_l45 L0_l45 M0_l45 y45_6 y45_7 H locs hP hD hS ls hl hf
            rw [fX12_best_L45.eq_2] at hf
            refine lv_iload hx hb dX12_best_45 (lv_at hl 7 rfl) ?_
            refine lv_iload hx hb dX12_best_47 (lv_at hl 4 rfl) ?_
            refine lv_iload hx hb dX12_best_49 (lv_at hl 5 rfl) ?_
            refine lv_iadd hx hb dX12_best_51 ?_
            refine lv_icmp_gt (tgt := 134) hx hb dX12_best_52 (by decide) (fun hc => ?_) (fun hc => ?_)
            · replace hf := wb_t hc hf
              refine lv_iload hx hb dX12_best_134 (lv_at hl 6 rfl) ?_
              exact W.iret (v := y45_6) hx hb hr (fun t ht hW => by rw [← Option.some.inj hf]; exact ⟨⟨y45_6, (), rfl, rfl, by rw [ht]; exact hP, va_K.moved hW.alike hK, hD⟩, hS.F ht⟩) hS.2.2 dX12_best_136
            · replace hf := wb_f hc hf
              refine lv_aload_n hx hb dX12_best_55 rfl (lv_at hl 0 rfl) ?_
              refine lv_bipush (v := (20 : Int32)) hx hb dX12_best_56 (by decide) ?_
              refine lv_iload_n hx hb dX12_best_58 rfl (lv_at hl 1 rfl) ?_
              refine lv_imul hx hb dX12_best_59 ?_
              refine lv_iload_n hx hb dX12_best_60 rfl (lv_at hl 2 rfl) ?_
              refine lv_iadd hx hb dX12_best_61 ?_
              refine lv_iload_n hx hb dX12_best_62 rfl (lv_at hl 3 rfl) ?_
              refine lv_iload hx hb dX12_best_63 (lv_at hl 7 rfl) ?_
              refine lv_iload hx hb dX12_best_65 (lv_at hl 6 rfl) ?_
              obtain ⟨r8, hr8, hf⟩ := wb_b hf
              refine vp_callSi (W.runV (As := [.int (((20 : Int32) * x1) + x2), .int x3, .int y45_7, .int y45_6]) (rest := []) ⟨hx, hb, hml, hown, hts⟩ (cn_X12_costOn l D cB cI cZ N a0 I0_l45 L0_l45 M0_l45 (((20 : Int32) * x1) + x2) x3 y45_7 y45_6 r8 hr8) (cwV 4 hts gX12_best_X12_costOn rfl rfl rfl cdX12_costOn ⟨Nat.le_of_ble_eq_true rfl, Nat.le_of_ble_eq_true rfl⟩) (wb_preV hP hK (wr_12 hK hP (q0 := 0) rfl)) rfl rfl hl.1 rfl (lv_room (Nat.le_of_ble_eq_true rfl)) dX12_best_67 ⟨Nat.le_of_ble_eq_true rfl, Nat.le_of_ble_eq_true rfl⟩) (fun r9 e9 => ?_)
              rw [e9]
              refine lv_istore (lv' := [(8, .int r8), (0, .ref (a0 0)), (1, .int x1), (2, .int x2), (3, .int x3), (4, .int x4), (5, .int x5), (6, .int y45_6), (7, .int y45_7)]) hx hb dX12_best_70 hl (by decide) rfl (fun ls hl => ?_)
              refine lv_iload hx hb dX12_best_72 (lv_at hl 0 rfl) ?_
              refine lv_iload hx hb dX12_best_74 (lv_at hl 7 rfl) ?_
              refine lv_icmp_le (tgt := 82) hx hb dX12_best_76 (by decide) (fun hc => ?_) (fun hc => ?_)
              · replace hf := wb_t hc hf
                refine lv_iload hx hb dX12_best_82 (lv_at hl 0 rfl) ?_
                refine lv_iload hx hb dX12_best_84 (lv_at hl 7 rfl) ?_
                refine lv_icmp_ge (tgt := 94) hx hb dX12_best_86 (by decide) (fun hc => ?_) (fun hc => ?_)
                · replace hf := wb_t hc hf
                  exact J94 I0_l45 L0_l45 M0_l45 y45_7 r8 H locs hP hD hS ls (lv_sub hl [1, 2, 3, 4, 5, 6, 8, 0] rfl) hf
                · replace hf := wb_f hc hf
                  refine lv_aload_n hx hb dX12_best_89 rfl (lv_at hl 1 rfl) ?_
                  refine lv_iconst (v := (0 : Int32)) hx hb dX12_best_90 (by decide) ?_
                  refine va_put (D := D) (ci := 12) (v := .int (0 : Int32)) (ty := .int) (C := RX12) (T := TX12) (N := 58) hx hb hts hinX12 tyX12 tyX12_ok nmX12 hown hK hP hD hS 0 rfl rfl 33 (by decide) (hts (.fieldLink RX12 65 "WheelBookModel" "bestMany" "I") (List.mem_of_getElem? (i := 1) rfl)) (fun _ h9 => h9) rfl (by decide +kernel) rfl rfl (Nat.le_of_ble_eq_true rfl) dX12_best_91 (fun H locs hP hD hS => ?_)
                  have hP : va_P D vwCl (wWX12 cB cI cZ a0 (upd I0_l45 15 (0 : Int32)) L0_l45 M0_l45) H := hP
                  have hD : va_D A (wWX12 cB cI cZ a0 (upd I0_l45 15 (0 : Int32)) L0_l45 M0_l45) := hD
                  obtain ⟨I0_9, eI0_9, hf⟩ := wb_v hf
                  rw [← eI0_9] at hP hD
                  exact J94 I0_9 L0_l45 M0_l45 y45_7 r8 H locs hP hD hS ls (lv_sub hl [1, 2, 3, 4, 5, 6, 8, 0] rfl) hf
              · replace hf := wb_f hc hf
                refine lv_goto (tgt := 128) hx hb dX12_best_79 (by decide) ?_
                obtain ⟨v10, ev10, hf⟩ := wb_v hf
                refine lv_iinc (v := v10) (lv' := [(7, .int v10), (8, .int r8), (0, .ref (a0 0)), (1, .int x1), (2, .int x2), (3, .int x3), (4, .int x4), (5, .int x5), (6, .int y45_6)]) hx hb dX12_best_128 hl (k := 8) rfl (by rw [ev10]; rfl) (by decide) rfl (fun ls hl => ?_)
                refine lv_goto (tgt := 45) hx hb dX12_best_131 (by decide) ?_
                exact ih45 I0_l45 L0_l45 M0_l45 y45_6 v10 H locs hP hD hS ls (lv_sub hl [2, 3, 4, 5, 6, 7, 8, 0] rfl) hf
        exact Lh45 N r4.2.1 r4.2.2.1 r4.2.2.2 (999 : Int32) x4 H locs hP hD hS ls (lv_sub hl [2, 3, 4, 5, 6, 7, 1, 0] rfl) hf
      · replace hf := wb_t hc hf
        refine lv_iconst (v := (0 : Int32)) hx hb dX12_best_34 (by decide) ?_
        exact W.iret (v := (0 : Int32)) hx hb hr (fun t ht hW => by rw [← Option.some.inj hf]; exact ⟨⟨(0 : Int32), (), rfl, rfl, by rw [ht]; exact hP, va_K.moved hW.alike hK, hD⟩, hS.F ht⟩) hS.2.2 dX12_best_35

set_option maxHeartbeats 4000000 in
set_option maxRecDepth 100000 in
theorem cn_X12_day (l : Launch) (D : va_G) (cB cI cZ : ClassId) (N : Nat) (a0 : Nat → Nat) (I0 : Nat → Int32) (L0 : Int64) (M0 : Nat → Nat → Int32) (x1 : Int32) (sz : Nat) (R : Int32 × (Nat → Int32) × Int64 × (Nat → Nat → Int32)) (hf : fX12_day N I0 L0 M0 x1 = some R) : Met l yX12_day wsX12_day ({ frames := 1, cells := 0, slots := 0, locals := 22 }) (va_Pc [.ref (a0 0), .int x1] (wb_preD D [(cB, .byte), (cI, .int), (cZ, .boolean)] (wWX12 cB cI cZ a0 I0 L0 M0) sz)) (va_Qi (fun r (_ : Unit) => r = R.1) (fun _ t => wb_post D [(cB, .byte), (cI, .int), (cZ, .boolean)] (va_A (wWX12 cB cI cZ a0 I0 L0 M0) sz) (wWX12 cB cI cZ a0 R.2.1 R.2.2.1 R.2.2.2) t) (va_A (wWX12 cB cI cZ a0 I0 L0 M0) sz)) 0 0 (va_A (wWX12 cB cI cZ a0 I0 L0 M0) sz) := by
  refine Met.ofW (cc := cX12_day) (maxL := 2) (ret := (some .int)) pn_X12 rfl ?_
  intro p e s m args below meth c s₁ B hml hv
  obtain ⟨rfl, hsz, hP, hK, hD0⟩ := hv
  have hx := B.exec
  have hb := B.bytes
  have hr := B.returns
  have hts := atoms_spec (ws := wsX12_day) B.pre
  have hown : s.vm.findClass RX12 = some m.cls := (findClass_of_methodNamed B.named :)
  have hlocks := B.notSynchronized
  have hinX12 : ∀ w ∈ u_ws RX12 TX12 58, w ∈ wsX12_day := fun w h => List.mem_cons_of_mem _ (List.mem_append_right _ h)
  subst hsz
  have hD := hD0.self (sz := s.heap.size)
  generalize hAe : va_A (wWX12 cB cI cZ a0 I0 L0 M0) s.heap.size = A at hD ⊢
  have hA : ∀ q : Nat, s.heap.size ≤ q → A q := fun q h => by rw [← hAe]; exact Or.inr h
  have hS : va_S A s.heap s.heap [] := va_S.rf
  have hl := lv_entry ([.ref (a0 0), .int x1]) (n := 2) (Nat.le_of_ble_eq_true rfl)
  rw [lg_entry_eq]
  generalize (lg_sl ([.ref (a0 0), .int x1]) ++ List.replicate (2 - (lg_sl ([.ref (a0 0), .int x1])).length) Slot.unset).toArray = ls at hl ⊢
  have hl : lv_has ls 2 [(0, .ref (a0 0)), (1, .int x1)] := hl
  unfold fX12_day at hf
  obtain ⟨H, hHe⟩ : ∃ H : Heap, H = s.heap := ⟨_, rfl⟩
  obtain ⟨locs, hle⟩ : ∃ locs : List Loc, locs = [] := ⟨_, rfl⟩
  refine wb_start (H := H) (locs := locs) hHe hle ?_
  rw [← hHe] at hP
  have hS : va_S A s.heap H locs := by rw [hHe, hle]; exact va_S.rf
  have J38 : ∀ (I0_j38 : Nat → Int32) (L0_j38 : Int64) (M0_j38 : Nat → Nat → Int32) (z38_0 : Int32) (H : Heap) (locs : List Loc), va_P D vwCl (wWX12 cB cI cZ a0 I0_j38 L0_j38 M0_j38) H → va_D A (wWX12 cB cI cZ a0 I0_j38 L0_j38 M0_j38) → va_S A s.heap H locs → ∀ (ls : Array Slot), lv_has ls 2 [(0, .ref (a0 0)), (1, .int x1)] → fX12_day_J38 N x1 I0_j38 L0_j38 M0_j38 z38_0 = some R → W p l e (headSpec wsX12_day { frames := 1, cells := 0, slots := 0, locals := 22 }).room s m [.ref (a0 0), .int x1].toArray below meth c H locs 0 0 (MQ below (va_Qi (fun r (_ : Unit) => r = R.1) (fun _ t => wb_post D [(cB, .byte), (cI, .int), (cZ, .boolean)] A (wWX12 cB cI cZ a0 R.2.1 R.2.2.1 R.2.2.2) t) A) [.ref (a0 0), .int x1].toArray s 0 0 A) (F0 m 38 ls [.int z38_0, .ref (a0 0)]) := by
    intro I0_j38 L0_j38 M0_j38 z38_0 H locs hP hD hS ls hl hf
    unfold fX12_day_J38 at hf
    refine lv_iconst (v := (1 : Int32)) hx hb dX12_day_38 (by decide) ?_
    obtain ⟨r1, hr1, hf⟩ := wb_b hf
    have hPc := hP
    have hDc := hD
    have hFc := wj_F hDc hS hA
    refine va_calli (va_runV (As := [.int z38_0, .int (1 : Int32)]) (rest := []) ⟨hx, hb, hml, hown, hts⟩ (cn_X12_right l D cB cI cZ N a0 I0_j38 L0_j38 M0_j38 z38_0 (1 : Int32) H.size r1 hr1) (cwV 2 hts gX12_day_X12_right rfl rfl rfl cdX12_right ⟨Nat.le_of_ble_eq_true rfl, Nat.le_of_ble_eq_true rfl⟩) (wb_preDV hPc hK hDc (wr_12 hK hP (q0 := 0) rfl)) rfl rfl hl.1 rfl (lv_room (Nat.le_of_ble_eq_true rfl)) dX12_day_39 ⟨Nat.le_of_ble_eq_true rfl, Nat.le_of_ble_eq_true rfl⟩) hS (fun q _ h => hFc q h) hFc (fun r9 u t H locs ht hvm hw hB hz1 hk1 hS => ?_)
    obtain ⟨hP, hD⟩ := wj_0 hFc ht hB
    rw [hw]
    refine lv_if_ne (tgt := 47) hx hb dX12_day_42 (by decide) (fun hc => ?_) (fun hc => ?_)
    · replace hf := wb_f hc hf
      refine lv_iload_n hx hb dX12_day_47 rfl (lv_at hl 1 rfl) ?_
      refine lv_iconst (v := (-1 : Int32)) hx hb dX12_day_48 (by decide) ?_
      refine lv_icmp_ne (tgt := 59) hx hb dX12_day_49 (by decide) (fun hc => ?_) (fun hc => ?_)
      · replace hf := wb_f hc hf
        refine lv_aload_n hx hb dX12_day_59 rfl (lv_at hl 0 rfl) ?_
        refine va_get (D := D) (ci := 12) (v := .ref (a0 18)) (C := RX12) (T := TX12) (N := 58) hx hb hts hinX12 hown hK hP 0 rfl rfl 34 (by decide) (hts (.fieldLink RX12 68 "WheelBookModel" "bestDay" "[I") (List.mem_of_getElem? (i := 3) rfl)) (fun _ h9 => h9) rfl dX12_day_60 ?_
        refine lv_iload_n hx hb dX12_day_63 rfl (lv_at hl 1 rfl) ?_
        obtain ⟨hin, hf⟩ := wb_n hf
        refine va_iald hx hb hK hP 18 1 rfl rfl hin dX12_day_64 ?_
        exact W.iret (v := (r1.2.2.2 17 (x1).toNatClampNeg)) hx hb hr (fun t ht hW => by rw [← Option.some.inj hf]; exact ⟨⟨(r1.2.2.2 17 (x1).toNatClampNeg), (), rfl, rfl, by rw [ht]; exact hP, va_K.moved hW.alike hK, hD⟩, hS.F ht⟩) hS.2.2 dX12_day_65
      · replace hf := wb_t hc hf
        refine lv_aload_n hx hb dX12_day_52 rfl (lv_at hl 0 rfl) ?_
        refine va_get (D := D) (ci := 12) (v := .int (r1.2.1 15)) (C := RX12) (T := TX12) (N := 58) hx hb hts hinX12 hown hK hP 0 rfl rfl 33 (by decide) (hts (.fieldLink RX12 65 "WheelBookModel" "bestMany" "I") (List.mem_of_getElem? (i := 2) rfl)) (fun _ h9 => h9) rfl dX12_day_53 ?_
        refine lv_goto (tgt := 65) hx hb dX12_day_56 (by decide) ?_
        exact W.iret (v := (r1.2.1 15)) hx hb hr (fun t ht hW => by rw [← Option.some.inj hf]; exact ⟨⟨(r1.2.1 15), (), rfl, rfl, by rw [ht]; exact hP, va_K.moved hW.alike hK, hD⟩, hS.F ht⟩) hS.2.2 dX12_day_65
    · replace hf := wb_t hc hf
      refine lv_iconst (v := (0 : Int32)) hx hb dX12_day_45 (by decide) ?_
      exact W.iret (v := (0 : Int32)) hx hb hr (fun t ht hW => by rw [← Option.some.inj hf]; exact ⟨⟨(0 : Int32), (), rfl, rfl, by rw [ht]; exact hP, va_K.moved hW.alike hK, hD⟩, hS.F ht⟩) hS.2.2 dX12_day_46
  have J37 : ∀ (I0_j37 : Nat → Int32) (L0_j37 : Int64) (M0_j37 : Nat → Nat → Int32) (H : Heap) (locs : List Loc), va_P D vwCl (wWX12 cB cI cZ a0 I0_j37 L0_j37 M0_j37) H → va_D A (wWX12 cB cI cZ a0 I0_j37 L0_j37 M0_j37) → va_S A s.heap H locs → ∀ (ls : Array Slot), lv_has ls 2 [(0, .ref (a0 0)), (1, .int x1)] → fX12_day_J37 N x1 I0_j37 L0_j37 M0_j37 = some R → W p l e (headSpec wsX12_day { frames := 1, cells := 0, slots := 0, locals := 22 }).room s m [.ref (a0 0), .int x1].toArray below meth c H locs 0 0 (MQ below (va_Qi (fun r (_ : Unit) => r = R.1) (fun _ t => wb_post D [(cB, .byte), (cI, .int), (cZ, .boolean)] A (wWX12 cB cI cZ a0 R.2.1 R.2.2.1 R.2.2.2) t) A) [.ref (a0 0), .int x1].toArray s 0 0 A) (F0 m 37 ls [.ref (a0 0)]) := by
    intro I0_j37 L0_j37 M0_j37 H locs hP hD hS ls hl hf
    unfold fX12_day_J37 at hf
    refine lv_iconst (v := (0 : Int32)) hx hb dX12_day_37 (by decide) ?_
    exact J38 I0_j37 L0_j37 M0_j37 (0 : Int32) H locs hP hD hS ls (lv_sub hl [0, 1] rfl) hf
  refine lv_aload_n hx hb dX12_day_0 rfl (lv_at hl 0 rfl) ?_
  refine lv_iconst (v := (0 : Int32)) hx hb dX12_day_1 (by decide) ?_
  refine va_put (D := D) (ci := 12) (v := .int (0 : Int32)) (ty := .int) (C := RX12) (T := TX12) (N := 58) hx hb hts hinX12 tyX12 tyX12_ok nmX12 hown hK hP hD hS 0 rfl rfl 0 (by decide) (hts (.fieldLink RX12 129 "WheelBookModel" "thrown" "I") (List.mem_of_getElem? (i := 1) rfl)) (fun _ h9 => h9) rfl (by decide +kernel) rfl rfl (Nat.le_of_ble_eq_true rfl) dX12_day_2 (fun H locs hP hD hS => ?_)
  have hP : va_P D vwCl (wWX12 cB cI cZ a0 (upd I0 0 (0 : Int32)) L0 M0) H := hP
  have hD : va_D A (wWX12 cB cI cZ a0 (upd I0 0 (0 : Int32)) L0 M0) := hD
  obtain ⟨I0_2, eI0_2, hf⟩ := wb_v hf
  rw [← eI0_2] at hP hD
  refine lv_aload_n hx hb dX12_day_5 rfl (lv_at hl 0 rfl) ?_
  refine lv_aload_n hx hb dX12_day_6 rfl (lv_at hl 0 rfl) ?_
  refine va_get (D := D) (ci := 12) (v := .int (I0_2 15)) (C := RX12) (T := TX12) (N := 58) hx hb hts hinX12 hown hK hP 0 rfl rfl 33 (by decide) (hts (.fieldLink RX12 65 "WheelBookModel" "bestMany" "I") (List.mem_of_getElem? (i := 2) rfl)) (fun _ h9 => h9) rfl dX12_day_7 ?_
  refine lv_iconst (v := (-1 : Int32)) hx hb dX12_day_10 (by decide) ?_
  refine lv_icmp_eq (tgt := 37) hx hb dX12_day_11 (by decide) (fun hc => ?_) (fun hc => ?_)
  · replace hf := wb_t hc hf
    exact J37 I0_2 L0 M0 H locs hP hD hS ls (lv_sub hl [0, 1] rfl) hf
  · replace hf := wb_f hc hf
    refine lv_iload_n hx hb dX12_day_14 rfl (lv_at hl 1 rfl) ?_
    refine lv_iconst (v := (-1 : Int32)) hx hb dX12_day_15 (by decide) ?_
    refine lv_icmp_lt (tgt := 37) hx hb dX12_day_16 (by decide) (fun hc => ?_) (fun hc => ?_)
    · replace hf := wb_t hc hf
      exact J37 I0_2 L0 M0 H locs hP hD hS ls (lv_sub hl [0, 1] rfl) hf
    · replace hf := wb_f hc hf
      refine lv_iload_n hx hb dX12_day_19 rfl (lv_at hl 1 rfl) ?_
      refine lv_aload_n hx hb dX12_day_20 rfl (lv_at hl 0 rfl) ?_
      refine va_get (D := D) (ci := 12) (v := .int (I0_2 15)) (C := RX12) (T := TX12) (N := 58) hx hb hts hinX12 hown hK hP 0 rfl rfl 33 (by decide) (hts (.fieldLink RX12 65 "WheelBookModel" "bestMany" "I") (List.mem_of_getElem? (i := 2) rfl)) (fun _ h9 => h9) rfl dX12_day_21 ?_
      refine lv_icmp_ge (tgt := 37) hx hb dX12_day_24 (by decide) (fun hc => ?_) (fun hc => ?_)
      · replace hf := wb_t hc hf
        exact J37 I0_2 L0 M0 H locs hP hD hS ls (lv_sub hl [0, 1] rfl) hf
      · replace hf := wb_f hc hf
        refine lv_iload_n hx hb dX12_day_27 rfl (lv_at hl 1 rfl) ?_
        refine lv_bipush (v := (20 : Int32)) hx hb dX12_day_28 (by decide) ?_
        refine lv_icmp_ge (tgt := 37) hx hb dX12_day_30 (by decide) (fun hc => ?_) (fun hc => ?_)
        · replace hf := wb_t hc hf
          exact J37 I0_2 L0 M0 H locs hP hD hS ls (lv_sub hl [0, 1] rfl) hf
        · replace hf := wb_f hc hf
          refine lv_iconst (v := (1 : Int32)) hx hb dX12_day_33 (by decide) ?_
          refine lv_goto (tgt := 38) hx hb dX12_day_34 (by decide) ?_
          exact J38 I0_2 L0 M0 (1 : Int32) H locs hP hD hS ls (lv_sub hl [0, 1] rfl) hf

set_option maxHeartbeats 4000000 in
set_option maxRecDepth 100000 in
theorem cn_X12_whose (l : Launch) (D : va_G) (cB cI cZ : ClassId) (N : Nat) (a0 : Nat → Nat) (I0 : Nat → Int32) (L0 : Int64) (M0 : Nat → Nat → Int32) (x1 : Int32) (x2 : Int32) (x3 : Int32) (x4 : Int32) (x5 : Int32) (sz : Nat) (R : Int32 × (Nat → Int32) × Int64 × (Nat → Nat → Int32)) (hf : fX12_whose N I0 L0 M0 x1 x2 x3 x4 x5 = some R) : Met l yX12_whose wsX12_whose ({ frames := 4, cells := 0, slots := 0, locals := 95 }) (va_Pc [.ref (a0 0), .int x1, .int x2, .int x3, .int x4, .int x5] (wb_preD D [(cB, .byte), (cI, .int), (cZ, .boolean)] (wWX12 cB cI cZ a0 I0 L0 M0) sz)) (va_Qi (fun r (_ : Unit) => r = R.1) (fun _ t => wb_post D [(cB, .byte), (cI, .int), (cZ, .boolean)] (va_A (wWX12 cB cI cZ a0 I0 L0 M0) sz) (wWX12 cB cI cZ a0 R.2.1 R.2.2.1 R.2.2.2) t) (va_A (wWX12 cB cI cZ a0 I0 L0 M0) sz)) 0 0 (va_A (wWX12 cB cI cZ a0 I0 L0 M0) sz) := by
  refine Met.ofW (cc := cX12_whose) (maxL := 13) (ret := (some .int)) pn_X12 rfl ?_
  intro p e s m args below meth c s₁ B hml hv
  obtain ⟨rfl, hsz, hP, hK, hD0⟩ := hv
  have hx := B.exec
  have hb := B.bytes
  have hr := B.returns
  have hts := atoms_spec (ws := wsX12_whose) B.pre
  have hown : s.vm.findClass RX12 = some m.cls := (findClass_of_methodNamed B.named :)
  have hlocks := B.notSynchronized
  subst hsz
  have hD := hD0.self (sz := s.heap.size)
  generalize hAe : va_A (wWX12 cB cI cZ a0 I0 L0 M0) s.heap.size = A at hD ⊢
  have hA : ∀ q : Nat, s.heap.size ≤ q → A q := fun q h => by rw [← hAe]; exact Or.inr h
  have hS : va_S A s.heap s.heap [] := va_S.rf
  have hl := lv_entry ([.ref (a0 0), .int x1, .int x2, .int x3, .int x4, .int x5]) (n := 13) (Nat.le_of_ble_eq_true rfl)
  rw [lg_entry_eq]
  generalize (lg_sl ([.ref (a0 0), .int x1, .int x2, .int x3, .int x4, .int x5]) ++ List.replicate (13 - (lg_sl ([.ref (a0 0), .int x1, .int x2, .int x3, .int x4, .int x5])).length) Slot.unset).toArray = ls at hl ⊢
  have hl : lv_has ls 13 [(0, .ref (a0 0)), (1, .int x1), (2, .int x2), (3, .int x3), (4, .int x4), (5, .int x5)] := hl
  unfold fX12_whose at hf
  obtain ⟨H, hHe⟩ : ∃ H : Heap, H = s.heap := ⟨_, rfl⟩
  obtain ⟨locs, hle⟩ : ∃ locs : List Loc, locs = [] := ⟨_, rfl⟩
  refine wb_start (H := H) (locs := locs) hHe hle ?_
  rw [← hHe] at hP
  have hS : va_S A s.heap H locs := by rw [hHe, hle]; exact va_S.rf
  refine lv_aload_n hx hb dX12_whose_0 rfl (lv_at hl 0 rfl) ?_
  refine lv_iload_n hx hb dX12_whose_1 rfl (lv_at hl 1 rfl) ?_
  refine lv_iload_n hx hb dX12_whose_2 rfl (lv_at hl 2 rfl) ?_
  obtain ⟨r1, hr1, hf⟩ := wb_b hf
  have hPc := hP
  have hDc := hD
  have hFc := wj_F hDc hS hA
  refine va_calli (va_runV (As := [.int x1, .int x2]) (rest := []) ⟨hx, hb, hml, hown, hts⟩ (cn_X12_isWheel l D cB cI cZ N a0 I0 L0 M0 x1 x2 H.size r1 hr1) (cwV 2 hts gX12_whose_X12_isWheel rfl rfl rfl cdX12_isWheel ⟨Nat.le_of_ble_eq_true rfl, Nat.le_of_ble_eq_true rfl⟩) (wb_preDV hPc hK hDc (wr_12 hK hP (q0 := 0) rfl)) rfl rfl hl.1 rfl (lv_room (Nat.le_of_ble_eq_true rfl)) dX12_whose_3 ⟨Nat.le_of_ble_eq_true rfl, Nat.le_of_ble_eq_true rfl⟩) hS (fun q _ h => hFc q h) hFc (fun r9 u t H locs ht hvm hw hB hz1 hk1 hS => ?_)
  obtain ⟨hP, hD⟩ := wj_0 hFc ht hB
  rw [hw]
  refine lv_if_eq (tgt := 34) hx hb dX12_whose_6 (by decide) (fun hc => ?_) (fun hc => ?_)
  · replace hf := wb_t hc hf
    refine lv_iconst (v := (0 : Int32)) hx hb dX12_whose_34 (by decide) ?_
    exact W.iret (v := (0 : Int32)) hx hb hr (fun t ht hW => by rw [← Option.some.inj hf]; exact ⟨⟨(0 : Int32), (), rfl, rfl, by rw [ht]; exact hP, va_K.moved hW.alike hK, hD⟩, hS.F ht⟩) hS.2.2 dX12_whose_35
  · replace hf := wb_f hc hf
    refine lv_aload_n hx hb dX12_whose_9 rfl (lv_at hl 0 rfl) ?_
    refine lv_iload hx hb dX12_whose_10 (lv_at hl 5 rfl) ?_
    refine lv_iconst (v := (0 : Int32)) hx hb dX12_whose_12 (by decide) ?_
    refine lv_iconst (v := (2 : Int32)) hx hb dX12_whose_13 (by decide) ?_
    obtain ⟨r2, hr2, hf⟩ := wb_b hf
    refine vp_callSi (W.runS (As := [.int x5, .int (0 : Int32), .int (2 : Int32)]) (rest := [.ref (a0 0)]) ⟨hx, hb, hml, hown, hts⟩ (cn_X12_within l D cB cI cZ N x5 (0 : Int32) (2 : Int32) r2 hr2) (va_cwS 3 hts gX12_whose_X12_within rfl rfl rfl csX12_within ⟨Nat.le_of_ble_eq_true rfl, Nat.le_of_ble_eq_true rfl⟩) (wb_preS (hP.sub (ws' := ([] : va_W)) [] rfl) hK) rfl rfl hl.1 rfl (lv_room (Nat.le_of_ble_eq_true rfl)) dX12_whose_14 ⟨Nat.le_of_ble_eq_true rfl, Nat.le_of_ble_eq_true rfl⟩) (fun r9 e9 => ?_)
    rw [e9]
    refine lv_iconst (v := (1 : Int32)) hx hb dX12_whose_17 (by decide) ?_
    obtain ⟨r3, hr3, hf⟩ := wb_b hf
    have hPc := hP
    have hDc := hD
    have hFc := wj_F hDc hS hA
    refine va_calli (va_runV (As := [.int r2, .int (1 : Int32)]) (rest := []) ⟨hx, hb, hml, hown, hts⟩ (cn_X12_right l D cB cI cZ N a0 r1.2.1 r1.2.2.1 r1.2.2.2 r2 (1 : Int32) H.size r3 hr3) (cwV 2 hts gX12_whose_X12_right rfl rfl rfl cdX12_right ⟨Nat.le_of_ble_eq_true rfl, Nat.le_of_ble_eq_true rfl⟩) (wb_preDV hPc hK hDc (wr_12 hK hP (q0 := 0) rfl)) rfl rfl hl.1 rfl (lv_room (Nat.le_of_ble_eq_true rfl)) dX12_whose_18 ⟨Nat.le_of_ble_eq_true rfl, Nat.le_of_ble_eq_true rfl⟩) hS (fun q _ h => hFc q h) hFc (fun r9 u t H locs ht hvm hw hB hz1 hk1 hS => ?_)
    obtain ⟨hP, hD⟩ := wj_0 hFc ht hB
    rw [hw]
    refine lv_if_eq (tgt := 34) hx hb dX12_whose_21 (by decide) (fun hc => ?_) (fun hc => ?_)
    · replace hf := wb_t hc hf
      refine lv_iconst (v := (0 : Int32)) hx hb dX12_whose_34 (by decide) ?_
      exact W.iret (v := (0 : Int32)) hx hb hr (fun t ht hW => by rw [← Option.some.inj hf]; exact ⟨⟨(0 : Int32), (), rfl, rfl, by rw [ht]; exact hP, va_K.moved hW.alike hK, hD⟩, hS.F ht⟩) hS.2.2 dX12_whose_35
    · replace hf := wb_f hc hf
      refine lv_aload_n hx hb dX12_whose_24 rfl (lv_at hl 0 rfl) ?_
      refine lv_iload_n hx hb dX12_whose_25 rfl (lv_at hl 3 rfl) ?_
      refine lv_iload hx hb dX12_whose_26 (lv_at hl 4 rfl) ?_
      obtain ⟨r4, hr4, hf⟩ := wb_b hf
      have hPc := hP
      have hDc := hD
      have hFc := wj_F hDc hS hA
      refine va_calli (va_runV (As := [.int x3, .int x4]) (rest := []) ⟨hx, hb, hml, hown, hts⟩ (cn_X12_isSpan l D cB cI cZ N a0 r3.2.1 r3.2.2.1 r3.2.2.2 x3 x4 H.size r4 hr4) (cwV 2 hts gX12_whose_X12_isSpan rfl rfl rfl cdX12_isSpan ⟨Nat.le_of_ble_eq_true rfl, Nat.le_of_ble_eq_true rfl⟩) (wb_preDV hPc hK hDc (wr_12 hK hP (q0 := 0) rfl)) rfl rfl hl.1 rfl (lv_room (Nat.le_of_ble_eq_true rfl)) dX12_whose_28 ⟨Nat.le_of_ble_eq_true rfl, Nat.le_of_ble_eq_true rfl⟩) hS (fun q _ h => hFc q h) hFc (fun r9 u t H locs ht hvm hw hB hz1 hk1 hS => ?_)
      obtain ⟨hP, hD⟩ := wj_0 hFc ht hB
      rw [hw]
      refine lv_if_ne (tgt := 36) hx hb dX12_whose_31 (by decide) (fun hc => ?_) (fun hc => ?_)
      · replace hf := wb_f hc hf
        refine lv_sipush (v := (999 : Int32)) hx hb dX12_whose_36 (by decide) ?_
        refine lv_istore (lv' := [(6, .int (999 : Int32)), (0, .ref (a0 0)), (1, .int x1), (2, .int x2), (3, .int x3), (4, .int x4), (5, .int x5)]) hx hb dX12_whose_39 hl (by decide) rfl (fun ls hl => ?_)
        refine lv_iconst (v := (-1 : Int32)) hx hb dX12_whose_41 (by decide) ?_
        refine lv_istore (lv' := [(7, .int (-1 : Int32)), (6, .int (999 : Int32)), (0, .ref (a0 0)), (1, .int x1), (2, .int x2), (3, .int x3), (4, .int x4), (5, .int x5)]) hx hb dX12_whose_42 hl (by decide) rfl (fun ls hl => ?_)
        refine lv_iconst (v := (0 : Int32)) hx hb dX12_whose_44 (by decide) ?_
        refine lv_istore (lv' := [(8, .int (0 : Int32)), (7, .int (-1 : Int32)), (6, .int (999 : Int32)), (0, .ref (a0 0)), (1, .int x1), (2, .int x2), (3, .int x3), (4, .int x4), (5, .int x5)]) hx hb dX12_whose_45 hl (by decide) rfl (fun ls hl => ?_)
        refine lv_iconst (v := (0 : Int32)) hx hb dX12_whose_47 (by decide) ?_
        refine lv_istore (lv' := [(9, .int (0 : Int32)), (8, .int (0 : Int32)), (7, .int (-1 : Int32)), (6, .int (999 : Int32)), (0, .ref (a0 0)), (1, .int x1), (2, .int x2), (3, .int x3), (4, .int x4), (5, .int x5)]) hx hb dX12_whose_48 hl (by decide) rfl (fun ls hl => ?_)
        have Lh50 : ∀ (fu50 : Nat) (I0_l50 : Nat → Int32) (L0_l50 : Int64) (M0_l50 : Nat → Nat → Int32) (y50_6 : Int32) (y50_7 : Int32) (y50_8 : Int32) (y50_9 : Int32) (H : Heap) (locs : List Loc), va_P D vwCl (wWX12 cB cI cZ a0 I0_l50 L0_l50 M0_l50) H → va_D A (wWX12 cB cI cZ a0 I0_l50 L0_l50 M0_l50) → va_S A s.heap H locs → ∀ (ls : Array Slot), lv_has ls 13 [(0, .ref (a0 0)), (1, .int x1), (2, .int x2), (3, .int x3), (4, .int x4), (5, .int x5), (6, .int y50_6), (7, .int y50_7), (8, .int y50_8), (9, .int y50_9)] → fX12_whose_L50 N x1 x2 x3 x4 x5 fu50 I0_l50 L0_l50 M0_l50 y50_6 y50_7 y50_8 y50_9 = some R → W p l e (headSpec wsX12_whose { frames := 4, cells := 0, slots := 0, locals := 95 }).room s m [.ref (a0 0), .int x1, .int x2, .int x3, .int x4, .int x5].toArray below meth c H locs 0 0 (MQ below (va_Qi (fun r (_ : Unit) => r = R.1) (fun _ t => wb_post D [(cB, .byte), (cI, .int), (cZ, .boolean)] A (wWX12 cB cI cZ a0 R.2.1 R.2.2.1 R.2.2.2) t) A) [.ref (a0 0), .int x1, .int x2, .int x3, .int x4, .int x5].toArray s 0 0 A) (F0 m 50 ls []) := by
          intro fu50
          induction fu50 with
          | zero =>
            intro I0_l50 L0_l50 M0_l50 y50_6 y50_7 y50_8 y50_9 H locs hP hD hS ls hl hf
            exact absurd hf (by rw [fX12_whose_L50.eq_1]; exact fun h => nomatch h)
          | succ fu50 ih50 =>
            have J138 : ∀ (I0_j138 : Nat → Int32) (L0_j138 : Int64) (M0_j138 : Nat → Nat → Int32) (y138_6 : Int32) (y138_7 : Int32) (y138_9 : Int32) (y138_10 : Int32) (z138_0 : Int32) (H : Heap) (locs : List Loc), va_P D vwCl (wWX12 cB cI cZ a0 I0_j138 L0_j138 M0_j138) H → va_D A (wWX12 cB cI cZ a0 I0_j138 L0_j138 M0_j138) → va_S A s.heap H locs → ∀ (ls : Array Slot), lv_has ls 13 [(0, .ref (a0 0)), (1, .int x1), (2, .int x2), (3, .int x3), (4, .int x4), (5, .int x5), (6, .int y138_6), (7, .int y138_7), (9, .int y138_9), (10, .int y138_10)] → fX12_whose_J138 N x1 x2 x3 x4 x5 (fX12_whose_L50 N x1 x2 x3 x4 x5 fu50) I0_j138 L0_j138 M0_j138 y138_6 y138_7 y138_9 y138_10 z138_0 = some R → W p l e (headSpec wsX12_whose { frames := 4, cells := 0, slots := 0, locals := 95 }).room s m [.ref (a0 0), .int x1, .int x2, .int x3, .int x4, .int x5].toArray below meth c H locs 0 0 (MQ below (va_Qi (fun r (_ : Unit) => r = R.1) (fun _ t => wb_post D [(cB, .byte), (cI, .int), (cZ, .boolean)] A (wWX12 cB cI cZ a0 R.2.1 R.2.2.1 R.2.2.2) t) A) [.ref (a0 0), .int x1, .int x2, .int x3, .int x4, .int x5].toArray s 0 0 A) (F0 m 138 ls [.int z138_0]) := by
              intro I0_j138 L0_j138 M0_j138 y138_6 y138_7 y138_9 y138_10 z138_0 H locs hP hD hS ls hl hf
              unfold fX12_whose_J138 at hf
              refine lv_istore (lv' := [(8, .int z138_0), (0, .ref (a0 0)), (1, .int x1), (2, .int x2), (3, .int x3), (4, .int x4), (5, .int x5), (6, .int y138_6), (7, .int y138_7), (9, .int y138_9), (10, .int y138_10)]) hx hb dX12_whose_138 hl (by decide) rfl (fun ls hl => ?_)
              refine lv_iload hx hb dX12_whose_140 (lv_at hl 10 rfl) ?_
              refine lv_iload hx hb dX12_whose_142 (lv_at hl 7 rfl) ?_
              refine lv_icmp_ge (tgt := 152) hx hb dX12_whose_144 (by decide) (fun hc => ?_) (fun hc => ?_)
              · replace hf := wb_t hc hf
                refine lv_iload hx hb dX12_whose_152 (lv_at hl 8 rfl) ?_
                refine lv_istore (lv' := [(7, .int y138_7), (8, .int z138_0), (0, .ref (a0 0)), (1, .int x1), (2, .int x2), (3, .int x3), (4, .int x4), (5, .int x5), (6, .int y138_6), (9, .int y138_9), (10, .int y138_10)]) hx hb dX12_whose_154 hl (by decide) rfl (fun ls hl => ?_)
                refine lv_iload hx hb dX12_whose_156 (lv_at hl 10 rfl) ?_
                refine lv_istore (lv' := [(6, .int y138_10), (7, .int y138_7), (8, .int z138_0), (0, .ref (a0 0)), (1, .int x1), (2, .int x2), (3, .int x3), (4, .int x4), (5, .int x5), (9, .int y138_9), (10, .int y138_10)]) hx hb dX12_whose_158 hl (by decide) rfl (fun ls hl => ?_)
                obtain ⟨v5, ev5, hf⟩ := wb_v hf
                refine lv_iinc (v := v5) (lv' := [(9, .int v5), (6, .int y138_10), (7, .int y138_7), (8, .int z138_0), (0, .ref (a0 0)), (1, .int x1), (2, .int x2), (3, .int x3), (4, .int x4), (5, .int x5), (10, .int y138_10)]) hx hb dX12_whose_160 hl (k := 9) rfl (by rw [ev5]; rfl) (by decide) rfl (fun ls hl => ?_)
                refine lv_goto (tgt := 50) hx hb dX12_whose_163 (by decide) ?_
                exact ih50 I0_j138 L0_j138 M0_j138 y138_10 y138_7 z138_0 v5 H locs hP hD hS ls (lv_sub hl [4, 5, 6, 7, 8, 9, 1, 2, 3, 0] rfl) hf
              · replace hf := wb_f hc hf
                refine lv_iload hx hb dX12_whose_147 (lv_at hl 9 rfl) ?_
                refine lv_goto (tgt := 154) hx hb dX12_whose_149 (by decide) ?_
                refine lv_istore (lv' := [(7, .int y138_9), (8, .int z138_0), (0, .ref (a0 0)), (1, .int x1), (2, .int x2), (3, .int x3), (4, .int x4), (5, .int x5), (6, .int y138_6), (9, .int y138_9), (10, .int y138_10)]) hx hb dX12_whose_154 hl (by decide) rfl (fun ls hl => ?_)
                refine lv_iload hx hb dX12_whose_156 (lv_at hl 10 rfl) ?_
                refine lv_istore (lv' := [(6, .int y138_10), (7, .int y138_9), (8, .int z138_0), (0, .ref (a0 0)), (1, .int x1), (2, .int x2), (3, .int x3), (4, .int x4), (5, .int x5), (9, .int y138_9), (10, .int y138_10)]) hx hb dX12_whose_158 hl (by decide) rfl (fun ls hl => ?_)
                obtain ⟨v6, ev6, hf⟩ := wb_v hf
                refine lv_iinc (v := v6) (lv' := [(9, .int v6), (6, .int y138_10), (7, .int y138_9), (8, .int z138_0), (0, .ref (a0 0)), (1, .int x1), (2, .int x2), (3, .int x3), (4, .int x4), (5, .int x5), (10, .int y138_10)]) hx hb dX12_whose_160 hl (k := 9) rfl (by rw [ev6]; rfl) (by decide) rfl (fun ls hl => ?_)
                refine lv_goto (tgt := 50) hx hb dX12_whose_163 (by decide) ?_
                exact ih50 I0_j138 L0_j138 M0_j138 y138_10 y138_9 z138_0 v6 H locs hP hD hS ls (lv_sub hl [4, 5, 6, 7, 8, 9, 1, 2, 3, 0] rfl) hf
            intro I0_l50 L0_l50 M0_l50 y50_6 y50_7 y50_8 y50_9 H locs hP hD hS ls hl hf
            rw [fX12_whose_L50.eq_2] at hf
            refine lv_iload hx hb dX12_whose_50 (lv_at hl 9 rfl) ?_
            refine lv_iconst (v := (4 : Int32)) hx hb dX12_whose_52 (by decide) ?_
            refine lv_icmp_ge (tgt := 166) hx hb dX12_whose_53 (by decide) (fun hc => ?_) (fun hc => ?_)
            · replace hf := wb_t hc hf
              refine lv_iload hx hb dX12_whose_166 (lv_at hl 5 rfl) ?_
              refine lv_if_ne (tgt := 176) hx hb dX12_whose_168 (by decide) (fun hc => ?_) (fun hc => ?_)
              · replace hf := wb_f hc hf
                refine lv_iload hx hb dX12_whose_176 (lv_at hl 5 rfl) ?_
                refine lv_iconst (v := (1 : Int32)) hx hb dX12_whose_178 (by decide) ?_
                refine lv_icmp_ne (tgt := 187) hx hb dX12_whose_179 (by decide) (fun hc => ?_) (fun hc => ?_)
                · replace hf := wb_f hc hf
                  refine lv_iload hx hb dX12_whose_187 (lv_at hl 8 rfl) ?_
                  exact W.iret (v := y50_8) hx hb hr (fun t ht hW => by rw [← Option.some.inj hf]; exact ⟨⟨y50_8, (), rfl, rfl, by rw [ht]; exact hP, va_K.moved hW.alike hK, hD⟩, hS.F ht⟩) hS.2.2 dX12_whose_189
                · replace hf := wb_t hc hf
                  refine lv_iload hx hb dX12_whose_182 (lv_at hl 6 rfl) ?_
                  refine lv_goto (tgt := 189) hx hb dX12_whose_184 (by decide) ?_
                  exact W.iret (v := y50_6) hx hb hr (fun t ht hW => by rw [← Option.some.inj hf]; exact ⟨⟨y50_6, (), rfl, rfl, by rw [ht]; exact hP, va_K.moved hW.alike hK, hD⟩, hS.F ht⟩) hS.2.2 dX12_whose_189
              · replace hf := wb_t hc hf
                refine lv_iload hx hb dX12_whose_171 (lv_at hl 7 rfl) ?_
                refine lv_goto (tgt := 189) hx hb dX12_whose_173 (by decide) ?_
                exact W.iret (v := y50_7) hx hb hr (fun t ht hW => by rw [← Option.some.inj hf]; exact ⟨⟨y50_7, (), rfl, rfl, by rw [ht]; exact hP, va_K.moved hW.alike hK, hD⟩, hS.F ht⟩) hS.2.2 dX12_whose_189
            · replace hf := wb_f hc hf
              refine lv_sipush (v := (999 : Int32)) hx hb dX12_whose_56 (by decide) ?_
              refine lv_istore (lv' := [(10, .int (999 : Int32)), (0, .ref (a0 0)), (1, .int x1), (2, .int x2), (3, .int x3), (4, .int x4), (5, .int x5), (6, .int y50_6), (7, .int y50_7), (8, .int y50_8), (9, .int y50_9)]) hx hb dX12_whose_59 hl (by decide) rfl (fun ls hl => ?_)
              refine lv_iload_n hx hb dX12_whose_61 rfl (lv_at hl 4 rfl) ?_
              refine lv_istore (lv' := [(11, .int x3), (10, .int (999 : Int32)), (0, .ref (a0 0)), (1, .int x1), (2, .int x2), (3, .int x3), (4, .int x4), (5, .int x5), (6, .int y50_6), (7, .int y50_7), (8, .int y50_8), (9, .int y50_9)]) hx hb dX12_whose_62 hl (by decide) rfl (fun ls hl => ?_)
              have Lh64 : ∀ (fu64 : Nat) (I0_l64 : Nat → Int32) (L0_l64 : Int64) (M0_l64 : Nat → Nat → Int32) (y64_10 : Int32) (y64_11 : Int32) (H : Heap) (locs : List Loc), va_P D vwCl (wWX12 cB cI cZ a0 I0_l64 L0_l64 M0_l64) H → va_D A (wWX12 cB cI cZ a0 I0_l64 L0_l64 M0_l64) → va_S A s.heap H locs → ∀ (ls : Array Slot), lv_has ls 13 [(0, .ref (a0 0)), (1, .int x1), (2, .int x2), (3, .int x3), (4, .int x4), (5, .int x5), (6, .int y50_6), (7, .int y50_7), (8, .int y50_8), (9, .int y50_9), (10, .int y64_10), (11, .int y64_11)] → fX12_whose_L64 N x1 x2 x3 x4 x5 y50_6 y50_7 y50_8 y50_9 (fX12_whose_L50 N x1 x2 x3 x4 x5 fu50) fu64 I0_l64 L0_l64 M0_l64 y64_10 y64_11 = some R → W p l e (headSpec wsX12_whose { frames := 4, cells := 0, slots := 0, locals := 95 }).room s m [.ref (a0 0), .int x1, .int x2, .int x3, .int x4, .int x5].toArray below meth c H locs 0 0 (MQ below (va_Qi (fun r (_ : Unit) => r = R.1) (fun _ t => wb_post D [(cB, .byte), (cI, .int), (cZ, .boolean)] A (wWX12 cB cI cZ a0 R.2.1 R.2.2.1 R.2.2.2) t) A) [.ref (a0 0), .int x1, .int x2, .int x3, .int x4, .int x5].toArray s 0 0 A) (F0 m 64 ls []) := by
                intro fu64
                induction fu64 with
                | zero =>
                  intro I0_l64 L0_l64 M0_l64 y64_10 y64_11 H locs hP hD hS ls hl hf
                  exact absurd hf (by rw [fX12_whose_L64.eq_1]; exact fun h => nomatch h)
                | succ fu64 ih64 =>
                  intro I0_l64 L0_l64 M0_l64 y64_10 y64_11 H locs hP hD hS ls hl hf
                  rw [fX12_whose_L64.eq_2] at hf
                  refine lv_iload hx hb dX12_whose_64 (lv_at hl 11 rfl) ?_
                  refine lv_iload_n hx hb dX12_whose_66 rfl (lv_at hl 3 rfl) ?_
                  refine lv_iload hx hb dX12_whose_67 (lv_at hl 4 rfl) ?_
                  refine lv_iadd hx hb dX12_whose_69 ?_
                  refine lv_icmp_gt (tgt := 113) hx hb dX12_whose_70 (by decide) (fun hc => ?_) (fun hc => ?_)
                  · replace hf := wb_t hc hf
                    refine lv_iload hx hb dX12_whose_113 (lv_at hl 10 rfl) ?_
                    refine lv_iload hx hb dX12_whose_115 (lv_at hl 6 rfl) ?_
                    refine lv_icmp_le (tgt := 123) hx hb dX12_whose_117 (by decide) (fun hc => ?_) (fun hc => ?_)
                    · replace hf := wb_t hc hf
                      refine lv_iload hx hb dX12_whose_123 (lv_at hl 10 rfl) ?_
                      refine lv_iload hx hb dX12_whose_125 (lv_at hl 6 rfl) ?_
                      refine lv_icmp_ge (tgt := 134) hx hb dX12_whose_127 (by decide) (fun hc => ?_) (fun hc => ?_)
                      · replace hf := wb_t hc hf
                        refine lv_iload hx hb dX12_whose_134 (lv_at hl 8 rfl) ?_
                        refine lv_iconst (v := (1 : Int32)) hx hb dX12_whose_136 (by decide) ?_
                        refine lv_iadd hx hb dX12_whose_137 ?_
                        exact J138 I0_l64 L0_l64 M0_l64 y50_6 y50_7 y50_9 y64_10 (y50_8 + (1 : Int32)) H locs hP hD hS ls (lv_sub hl [0, 1, 2, 3, 4, 5, 6, 7, 9, 10] rfl) hf
                      · replace hf := wb_f hc hf
                        refine lv_iconst (v := (1 : Int32)) hx hb dX12_whose_130 (by decide) ?_
                        refine lv_goto (tgt := 138) hx hb dX12_whose_131 (by decide) ?_
                        exact J138 I0_l64 L0_l64 M0_l64 y50_6 y50_7 y50_9 y64_10 (1 : Int32) H locs hP hD hS ls (lv_sub hl [0, 1, 2, 3, 4, 5, 6, 7, 9, 10] rfl) hf
                    · replace hf := wb_f hc hf
                      refine lv_goto (tgt := 160) hx hb dX12_whose_120 (by decide) ?_
                      obtain ⟨v7, ev7, hf⟩ := wb_v hf
                      refine lv_iinc (v := v7) (lv' := [(9, .int v7), (0, .ref (a0 0)), (1, .int x1), (2, .int x2), (3, .int x3), (4, .int x4), (5, .int x5), (6, .int y50_6), (7, .int y50_7), (8, .int y50_8), (10, .int y64_10), (11, .int y64_11)]) hx hb dX12_whose_160 hl (k := 9) rfl (by rw [ev7]; rfl) (by decide) rfl (fun ls hl => ?_)
                      refine lv_goto (tgt := 50) hx hb dX12_whose_163 (by decide) ?_
                      exact ih50 I0_l64 L0_l64 M0_l64 y50_6 y50_7 y50_8 v7 H locs hP hD hS ls (lv_sub hl [1, 2, 3, 4, 5, 6, 7, 8, 9, 0] rfl) hf
                  · replace hf := wb_f hc hf
                    refine lv_aload_n hx hb dX12_whose_73 rfl (lv_at hl 0 rfl) ?_
                    refine lv_bipush (v := (20 : Int32)) hx hb dX12_whose_74 (by decide) ?_
                    refine lv_iload_n hx hb dX12_whose_76 rfl (lv_at hl 1 rfl) ?_
                    refine lv_imul hx hb dX12_whose_77 ?_
                    refine lv_iload_n hx hb dX12_whose_78 rfl (lv_at hl 2 rfl) ?_
                    refine lv_iadd hx hb dX12_whose_79 ?_
                    refine lv_iload hx hb dX12_whose_80 (lv_at hl 9 rfl) ?_
                    refine lv_iload hx hb dX12_whose_82 (lv_at hl 11 rfl) ?_
                    refine lv_iload hx hb dX12_whose_84 (lv_at hl 10 rfl) ?_
                    obtain ⟨r8, hr8, hf⟩ := wb_b hf
                    refine vp_callSi (W.runV (As := [.int (((20 : Int32) * x1) + x2), .int y50_9, .int y64_11, .int y64_10]) (rest := []) ⟨hx, hb, hml, hown, hts⟩ (cn_X12_costOn l D cB cI cZ N a0 I0_l64 L0_l64 M0_l64 (((20 : Int32) * x1) + x2) y50_9 y64_11 y64_10 r8 hr8) (cwV 4 hts gX12_whose_X12_costOn rfl rfl rfl cdX12_costOn ⟨Nat.le_of_ble_eq_true rfl, Nat.le_of_ble_eq_true rfl⟩) (wb_preV hP hK (wr_12 hK hP (q0 := 0) rfl)) rfl rfl hl.1 rfl (lv_room (Nat.le_of_ble_eq_true rfl)) dX12_whose_86 ⟨Nat.le_of_ble_eq_true rfl, Nat.le_of_ble_eq_true rfl⟩) (fun r9 e9 => ?_)
                    rw [e9]
                    refine lv_istore (lv' := [(12, .int r8), (0, .ref (a0 0)), (1, .int x1), (2, .int x2), (3, .int x3), (4, .int x4), (5, .int x5), (6, .int y50_6), (7, .int y50_7), (8, .int y50_8), (9, .int y50_9), (10, .int y64_10), (11, .int y64_11)]) hx hb dX12_whose_89 hl (by decide) rfl (fun ls hl => ?_)
                    refine lv_iload hx hb dX12_whose_91 (lv_at hl 0 rfl) ?_
                    refine lv_iload hx hb dX12_whose_93 (lv_at hl 11 rfl) ?_
                    refine lv_icmp_ge (tgt := 103) hx hb dX12_whose_95 (by decide) (fun hc => ?_) (fun hc => ?_)
                    · replace hf := wb_t hc hf
                      refine lv_iload hx hb dX12_whose_103 (lv_at hl 11 rfl) ?_
                      refine lv_istore (lv' := [(10, .int y64_10), (12, .int r8), (0, .ref (a0 0)), (1, .int x1), (2, .int x2), (3, .int x3), (4, .int x4), (5, .int x5), (6, .int y50_6), (7, .int y50_7), (8, .int y50_8), (9, .int y50_9), (11, .int y64_11)]) hx hb dX12_whose_105 hl (by decide) rfl (fun ls hl => ?_)
                      obtain ⟨v9, ev9, hf⟩ := wb_v hf
                      refine lv_iinc (v := v9) (lv' := [(11, .int v9), (10, .int y64_10), (12, .int r8), (0, .ref (a0 0)), (1, .int x1), (2, .int x2), (3, .int x3), (4, .int x4), (5, .int x5), (6, .int y50_6), (7, .int y50_7), (8, .int y50_8), (9, .int y50_9)]) hx hb dX12_whose_107 hl (k := 12) rfl (by rw [ev9]; rfl) (by decide) rfl (fun ls hl => ?_)
                      refine lv_goto (tgt := 64) hx hb dX12_whose_110 (by decide) ?_
                      exact ih64 I0_l64 L0_l64 M0_l64 y64_10 v9 H locs hP hD hS ls (lv_sub hl [3, 4, 5, 6, 7, 8, 9, 10, 11, 12, 1, 0] rfl) hf
                    · replace hf := wb_f hc hf
                      refine lv_iload hx hb dX12_whose_98 (lv_at hl 0 rfl) ?_
                      refine lv_goto (tgt := 105) hx hb dX12_whose_100 (by decide) ?_
                      refine lv_istore (lv' := [(10, .int r8), (12, .int r8), (0, .ref (a0 0)), (1, .int x1), (2, .int x2), (3, .int x3), (4, .int x4), (5, .int x5), (6, .int y50_6), (7, .int y50_7), (8, .int y50_8), (9, .int y50_9), (11, .int y64_11)]) hx hb dX12_whose_105 hl (by decide) rfl (fun ls hl => ?_)
                      obtain ⟨v10, ev10, hf⟩ := wb_v hf
                      refine lv_iinc (v := v10) (lv' := [(11, .int v10), (10, .int r8), (12, .int r8), (0, .ref (a0 0)), (1, .int x1), (2, .int x2), (3, .int x3), (4, .int x4), (5, .int x5), (6, .int y50_6), (7, .int y50_7), (8, .int y50_8), (9, .int y50_9)]) hx hb dX12_whose_107 hl (k := 12) rfl (by rw [ev10]; rfl) (by decide) rfl (fun ls hl => ?_)
                      refine lv_goto (tgt := 64) hx hb dX12_whose_110 (by decide) ?_
                      exact ih64 I0_l64 L0_l64 M0_l64 r8 v10 H locs hP hD hS ls (lv_sub hl [3, 4, 5, 6, 7, 8, 9, 10, 11, 12, 1, 0] rfl) hf
              exact Lh64 N I0_l50 L0_l50 M0_l50 (999 : Int32) x3 H locs hP hD hS ls (lv_sub hl [2, 3, 4, 5, 6, 7, 8, 9, 10, 11, 1, 0] rfl) hf
        exact Lh50 N r4.2.1 r4.2.2.1 r4.2.2.2 (999 : Int32) (-1 : Int32) (0 : Int32) (0 : Int32) H locs hP hD hS ls (lv_sub hl [4, 5, 6, 7, 8, 9, 3, 2, 1, 0] rfl) hf
      · replace hf := wb_t hc hf
        refine lv_iconst (v := (0 : Int32)) hx hb dX12_whose_34 (by decide) ?_
        exact W.iret (v := (0 : Int32)) hx hb hr (fun t ht hW => by rw [← Option.some.inj hf]; exact ⟨⟨(0 : Int32), (), rfl, rfl, by rw [ht]; exact hP, va_K.moved hW.alike hK, hD⟩, hS.F ht⟩) hS.2.2 dX12_whose_35

set_option maxHeartbeats 4000000 in
set_option maxRecDepth 100000 in
theorem cn_X12_isMixed (l : Launch) (D : va_G) (cB cI cZ : ClassId) (N : Nat) (a0 : Nat → Nat) (I0 : Nat → Int32) (L0 : Int64) (M0 : Nat → Nat → Int32) (x1 : Int32) (x2 : Int32) (R : Int32) (hf : fX12_isMixed N I0 L0 M0 x1 x2 = some R) : Met l yX12_isMixed wsX12_isMixed ({ frames := 2, cells := 0, slots := 0, locals := 56 }) (va_Pc [.ref (a0 0), .int x1, .int x2] (wb_pre D [(cB, .byte), (cI, .int), (cZ, .boolean)] (wWX12 cB cI cZ a0 I0 L0 M0))) (vp_Si (fun r => r = R)) 0 0 (fun _ => False) := by
  refine Met.ofW (cc := cX12_isMixed) (maxL := 8) (ret := (some .boolean)) pn_X12 rfl ?_
  intro p e s m args below meth c s₁ B hml hv
  obtain ⟨rfl, hP, hK⟩ := hv
  have hx := B.exec
  have hb := B.bytes
  have hr := B.returns
  have hts := atoms_spec (ws := wsX12_isMixed) B.pre
  have hown : s.vm.findClass RX12 = some m.cls := (findClass_of_methodNamed B.named :)
  have hlocks := B.notSynchronized
  have hl := lv_entry ([.ref (a0 0), .int x1, .int x2]) (n := 8) (Nat.le_of_ble_eq_true rfl)
  rw [lg_entry_eq]
  generalize (lg_sl ([.ref (a0 0), .int x1, .int x2]) ++ List.replicate (8 - (lg_sl ([.ref (a0 0), .int x1, .int x2])).length) Slot.unset).toArray = ls at hl ⊢
  have hl : lv_has ls 8 [(0, .ref (a0 0)), (1, .int x1), (2, .int x2)] := hl
  unfold fX12_isMixed at hf
  have J107 : ∀ (y107_3 : Int32) (y107_4 : Int32), ∀ (ls : Array Slot), lv_has ls 8 [(3, .int y107_3), (4, .int y107_4)] → fX12_isMixed_J107 N I0 L0 M0 x1 x2 y107_3 y107_4 = some R → W p l e (headSpec wsX12_isMixed { frames := 2, cells := 0, slots := 0, locals := 56 }).room s m [.ref (a0 0), .int x1, .int x2].toArray below meth c s.heap [] 0 0 (MQ below (vp_Si (fun r => r = R)) [.ref (a0 0), .int x1, .int x2].toArray s 0 0 (fun _ => False)) (F0 m 107 ls []) := by
    intro y107_3 y107_4 ls hl hf
    unfold fX12_isMixed_J107 at hf
    refine lv_iload hx hb dX12_isMixed_107 (lv_at hl 1 rfl) ?_
    refine lv_if_eq (tgt := 120) hx hb dX12_isMixed_109 (by decide) (fun hc => ?_) (fun hc => ?_)
    · replace hf := wb_t hc hf
      refine lv_iconst (v := (0 : Int32)) hx hb dX12_isMixed_120 (by decide) ?_
      exact W.zret (v := (0 : Int32)) hx hb hr (by decide) (fun t ht hW => ⟨_, rfl, Option.some.inj hf, ht⟩) (fun _ h => nomatch h) dX12_isMixed_121
    · replace hf := wb_f hc hf
      refine lv_iload_n hx hb dX12_isMixed_112 rfl (lv_at hl 0 rfl) ?_
      refine lv_if_ne (tgt := 120) hx hb dX12_isMixed_113 (by decide) (fun hc => ?_) (fun hc => ?_)
      · replace hf := wb_f hc hf
        refine lv_iconst (v := (0 : Int32)) hx hb dX12_isMixed_120 (by decide) ?_
        exact W.zret (v := (0 : Int32)) hx hb hr (by decide) (fun t ht hW => ⟨_, rfl, Option.some.inj hf, ht⟩) (fun _ h => nomatch h) dX12_isMixed_121
      · replace hf := wb_t hc hf
        refine lv_iconst (v := (1 : Int32)) hx hb dX12_isMixed_116 (by decide) ?_
        refine lv_goto (tgt := 121) hx hb dX12_isMixed_117 (by decide) ?_
        exact W.zret (v := (1 : Int32)) hx hb hr (by decide) (fun t ht hW => ⟨_, rfl, Option.some.inj hf, ht⟩) (fun _ h => nomatch h) dX12_isMixed_121
  refine lv_bipush (v := (15 : Int32)) hx hb dX12_isMixed_0 (by decide) ?_
  refine lv_istore_n (lv' := [(3, .int (15 : Int32)), (0, .ref (a0 0)), (1, .int x1), (2, .int x2)]) hx hb dX12_isMixed_2 rfl hl (by decide) rfl (fun ls hl => ?_)
  refine lv_iconst (v := (1 : Int32)) hx hb dX12_isMixed_3 (by decide) ?_
  refine lv_istore (lv' := [(4, .int (1 : Int32)), (3, .int (15 : Int32)), (0, .ref (a0 0)), (1, .int x1), (2, .int x2)]) hx hb dX12_isMixed_4 hl (by decide) rfl (fun ls hl => ?_)
  refine lv_iconst (v := (0 : Int32)) hx hb dX12_isMixed_6 (by decide) ?_
  refine lv_istore (lv' := [(5, .int (0 : Int32)), (4, .int (1 : Int32)), (3, .int (15 : Int32)), (0, .ref (a0 0)), (1, .int x1), (2, .int x2)]) hx hb dX12_isMixed_7 hl (by decide) rfl (fun ls hl => ?_)
  have Lh9 : ∀ (fu9 : Nat) (y9_3 : Int32) (y9_4 : Int32) (y9_5 : Int32), ∀ (ls : Array Slot), lv_has ls 8 [(0, .ref (a0 0)), (1, .int x1), (2, .int x2), (3, .int y9_3), (4, .int y9_4), (5, .int y9_5)] → fX12_isMixed_L9 N I0 L0 M0 x1 x2 fu9 y9_3 y9_4 y9_5 = some R → W p l e (headSpec wsX12_isMixed { frames := 2, cells := 0, slots := 0, locals := 56 }).room s m [.ref (a0 0), .int x1, .int x2].toArray below meth c s.heap [] 0 0 (MQ below (vp_Si (fun r => r = R)) [.ref (a0 0), .int x1, .int x2].toArray s 0 0 (fun _ => False)) (F0 m 9 ls []) := by
    intro fu9
    induction fu9 with
    | zero =>
      intro y9_3 y9_4 y9_5 ls hl hf
      exact absurd hf (by rw [fX12_isMixed_L9.eq_1]; exact fun h => nomatch h)
    | succ fu9 ih9 =>
      intro y9_3 y9_4 y9_5 ls hl hf
      rw [fX12_isMixed_L9.eq_2] at hf
      refine lv_iload hx hb dX12_isMixed_9 (lv_at hl 5 rfl) ?_
      refine lv_bipush (v := (7 : Int32)) hx hb dX12_isMixed_11 (by decide) ?_
      refine lv_icmp_ge (tgt := 107) hx hb dX12_isMixed_13 (by decide) (fun hc => ?_) (fun hc => ?_)
      · replace hf := wb_t hc hf
        exact J107 y9_3 y9_4 ls (lv_sub hl [3, 4] rfl) hf
      · replace hf := wb_f hc hf
        refine lv_iload hx hb dX12_isMixed_16 (lv_at hl 4 rfl) ?_
        refine lv_if_eq (tgt := 107) hx hb dX12_isMixed_18 (by decide) (fun hc => ?_) (fun hc => ?_)
        · replace hf := wb_t hc hf
          exact J107 y9_3 y9_4 ls (lv_sub hl [3, 4] rfl) hf
        · replace hf := wb_f hc hf
          refine lv_aload_n hx hb dX12_isMixed_21 rfl (lv_at hl 0 rfl) ?_
          refine lv_iload_n hx hb dX12_isMixed_22 rfl (lv_at hl 1 rfl) ?_
          refine lv_iload hx hb dX12_isMixed_23 (lv_at hl 5 rfl) ?_
          obtain ⟨r1, hr1, hf⟩ := wb_b hf
          refine vp_callSi (W.runV (As := [.int x1, .int y9_5]) (rest := []) ⟨hx, hb, hml, hown, hts⟩ (cn_X12_at l D cB cI cZ N a0 I0 L0 M0 x1 y9_5 r1 hr1) (cwV 2 hts gX12_isMixed_X12_at rfl rfl rfl cdX12_at ⟨Nat.le_of_ble_eq_true rfl, Nat.le_of_ble_eq_true rfl⟩) (wb_preV hP hK (wr_12 hK hP (q0 := 0) rfl)) rfl rfl hl.1 rfl (lv_room (Nat.le_of_ble_eq_true rfl)) dX12_isMixed_25 ⟨Nat.le_of_ble_eq_true rfl, Nat.le_of_ble_eq_true rfl⟩) (fun r9 e9 => ?_)
          rw [e9]
          refine lv_iconst (v := (-1 : Int32)) hx hb dX12_isMixed_28 (by decide) ?_
          refine lv_icmp_ne (tgt := 35) hx hb dX12_isMixed_29 (by decide) (fun hc => ?_) (fun hc => ?_)
          · replace hf := wb_f hc hf
            refine lv_iconst (v := (0 : Int32)) hx hb dX12_isMixed_35 (by decide) ?_
            refine lv_istore (lv' := [(6, .int (0 : Int32)), (0, .ref (a0 0)), (1, .int x1), (2, .int x2), (3, .int y9_3), (4, .int y9_4), (5, .int y9_5)]) hx hb dX12_isMixed_36 hl (by decide) rfl (fun ls hl => ?_)
            refine lv_iconst (v := (0 : Int32)) hx hb dX12_isMixed_38 (by decide) ?_
            refine lv_istore (lv' := [(7, .int (0 : Int32)), (6, .int (0 : Int32)), (0, .ref (a0 0)), (1, .int x1), (2, .int x2), (3, .int y9_3), (4, .int y9_4), (5, .int y9_5)]) hx hb dX12_isMixed_39 hl (by decide) rfl (fun ls hl => ?_)
            have Lh41 : ∀ (fu41 : Nat) (y41_6 : Int32) (y41_7 : Int32), ∀ (ls : Array Slot), lv_has ls 8 [(0, .ref (a0 0)), (1, .int x1), (2, .int x2), (3, .int y9_3), (5, .int y9_5), (6, .int y41_6), (7, .int y41_7)] → fX12_isMixed_L41 N I0 L0 M0 x1 x2 y9_3 y9_5 (fX12_isMixed_L9 N I0 L0 M0 x1 x2 fu9) fu41 y41_6 y41_7 = some R → W p l e (headSpec wsX12_isMixed { frames := 2, cells := 0, slots := 0, locals := 56 }).room s m [.ref (a0 0), .int x1, .int x2].toArray below meth c s.heap [] 0 0 (MQ below (vp_Si (fun r => r = R)) [.ref (a0 0), .int x1, .int x2].toArray s 0 0 (fun _ => False)) (F0 m 41 ls []) := by
              intro fu41
              induction fu41 with
              | zero =>
                intro y41_6 y41_7 ls hl hf
                exact absurd hf (by rw [fX12_isMixed_L41.eq_1]; exact fun h => nomatch h)
              | succ fu41 ih41 =>
                intro y41_6 y41_7 ls hl hf
                rw [fX12_isMixed_L41.eq_2] at hf
                refine lv_iload hx hb dX12_isMixed_41 (lv_at hl 6 rfl) ?_
                refine lv_iconst (v := (4 : Int32)) hx hb dX12_isMixed_43 (by decide) ?_
                refine lv_icmp_ge (tgt := 84) hx hb dX12_isMixed_44 (by decide) (fun hc => ?_) (fun hc => ?_)
                · replace hf := wb_t hc hf
                  refine lv_iload_n hx hb dX12_isMixed_84 rfl (lv_at hl 3 rfl) ?_
                  refine lv_iload hx hb dX12_isMixed_85 (lv_at hl 5 rfl) ?_
                  refine lv_iand hx hb dX12_isMixed_87 ?_
                  obtain ⟨v2, ev2, hf⟩ := wb_v hf
                  refine wb_topi ev2 ?_
                  refine lv_istore_n (lv' := [(3, .int v2), (0, .ref (a0 0)), (1, .int x1), (2, .int x2), (5, .int y9_5), (6, .int y41_6), (7, .int y41_7)]) hx hb dX12_isMixed_88 rfl hl (by decide) rfl (fun ls hl => ?_)
                  refine lv_iload hx hb dX12_isMixed_89 (lv_at hl 5 rfl) ?_
                  refine lv_if_eq (tgt := 98) hx hb dX12_isMixed_91 (by decide) (fun hc => ?_) (fun hc => ?_)
                  · replace hf := wb_t hc hf
                    refine lv_iconst (v := (0 : Int32)) hx hb dX12_isMixed_98 (by decide) ?_
                    refine lv_istore (lv' := [(4, .int (0 : Int32)), (3, .int v2), (0, .ref (a0 0)), (1, .int x1), (2, .int x2), (5, .int y9_5), (6, .int y41_6), (7, .int y41_7)]) hx hb dX12_isMixed_99 hl (by decide) rfl (fun ls hl => ?_)
                    obtain ⟨v3, ev3, hf⟩ := wb_v hf
                    refine lv_iinc (v := v3) (lv' := [(5, .int v3), (4, .int (0 : Int32)), (3, .int v2), (0, .ref (a0 0)), (1, .int x1), (2, .int x2), (6, .int y41_6), (7, .int y41_7)]) hx hb dX12_isMixed_101 hl (k := 5) rfl (by rw [ev3]; rfl) (by decide) rfl (fun ls hl => ?_)
                    refine lv_goto (tgt := 9) hx hb dX12_isMixed_104 (by decide) ?_
                    exact ih9 v2 (0 : Int32) v3 ls (lv_sub hl [3, 4, 5, 2, 1, 0] rfl) hf
                  · replace hf := wb_f hc hf
                    refine lv_iconst (v := (1 : Int32)) hx hb dX12_isMixed_94 (by decide) ?_
                    refine lv_goto (tgt := 99) hx hb dX12_isMixed_95 (by decide) ?_
                    refine lv_istore (lv' := [(4, .int (1 : Int32)), (3, .int v2), (0, .ref (a0 0)), (1, .int x1), (2, .int x2), (5, .int y9_5), (6, .int y41_6), (7, .int y41_7)]) hx hb dX12_isMixed_99 hl (by decide) rfl (fun ls hl => ?_)
                    obtain ⟨v4, ev4, hf⟩ := wb_v hf
                    refine lv_iinc (v := v4) (lv' := [(5, .int v4), (4, .int (1 : Int32)), (3, .int v2), (0, .ref (a0 0)), (1, .int x1), (2, .int x2), (6, .int y41_6), (7, .int y41_7)]) hx hb dX12_isMixed_101 hl (k := 5) rfl (by rw [ev4]; rfl) (by decide) rfl (fun ls hl => ?_)
                    refine lv_goto (tgt := 9) hx hb dX12_isMixed_104 (by decide) ?_
                    exact ih9 v2 (1 : Int32) v4 ls (lv_sub hl [3, 4, 5, 2, 1, 0] rfl) hf
                · replace hf := wb_f hc hf
                  refine lv_aload_n hx hb dX12_isMixed_47 rfl (lv_at hl 0 rfl) ?_
                  refine lv_iload hx hb dX12_isMixed_48 (lv_at hl 6 rfl) ?_
                  refine lv_iload hx hb dX12_isMixed_50 (lv_at hl 4 rfl) ?_
                  refine lv_iload_n hx hb dX12_isMixed_52 rfl (lv_at hl 2 rfl) ?_
                  obtain ⟨r5, hr5, hf⟩ := wb_b hf
                  refine vp_callSi (W.runV (As := [.int y41_7, .int y9_5, .int x2]) (rest := []) ⟨hx, hb, hml, hown, hts⟩ (cn_X12_placeOn l D cB cI cZ N a0 I0 L0 M0 y41_7 y9_5 x2 r5 hr5) (cwV 3 hts gX12_isMixed_X12_placeOn rfl rfl rfl cdX12_placeOn ⟨Nat.le_of_ble_eq_true rfl, Nat.le_of_ble_eq_true rfl⟩) (wb_preV hP hK (wr_12 hK hP (q0 := 0) rfl)) rfl rfl hl.1 rfl (lv_room (Nat.le_of_ble_eq_true rfl)) dX12_isMixed_53 ⟨Nat.le_of_ble_eq_true rfl, Nat.le_of_ble_eq_true rfl⟩) (fun r9 e9 => ?_)
                  rw [e9]
                  refine lv_bipush (v := (60 : Int32)) hx hb dX12_isMixed_56 (by decide) ?_
                  refine lv_idiv hx hb dX12_isMixed_58 (by decide) ?_
                  refine lv_aload_n hx hb dX12_isMixed_59 rfl (lv_at hl 0 rfl) ?_
                  refine lv_iload_n hx hb dX12_isMixed_60 rfl (lv_at hl 1 rfl) ?_
                  refine lv_iload hx hb dX12_isMixed_61 (lv_at hl 4 rfl) ?_
                  obtain ⟨r6, hr6, hf⟩ := wb_b hf
                  refine vp_callSi (W.runV (As := [.int x1, .int y9_5]) (rest := [.int (r5 / (60 : Int32))]) ⟨hx, hb, hml, hown, hts⟩ (cn_X12_at l D cB cI cZ N a0 I0 L0 M0 x1 y9_5 r6 hr6) (cwV 2 hts gX12_isMixed_X12_at rfl rfl rfl cdX12_at ⟨Nat.le_of_ble_eq_true rfl, Nat.le_of_ble_eq_true rfl⟩) (wb_preV hP hK (wr_12 hK hP (q0 := 0) rfl)) rfl rfl hl.1 rfl (lv_room (Nat.le_of_ble_eq_true rfl)) dX12_isMixed_63 ⟨Nat.le_of_ble_eq_true rfl, Nat.le_of_ble_eq_true rfl⟩) (fun r9 e9 => ?_)
                  rw [e9]
                  refine lv_icmp_ne (tgt := 78) hx hb dX12_isMixed_66 (by decide) (fun hc => ?_) (fun hc => ?_)
                  · replace hf := wb_f hc hf
                    obtain ⟨v7, ev7, hf⟩ := wb_v hf
                    refine lv_iinc (v := v7) (lv' := [(7, .int v7), (0, .ref (a0 0)), (1, .int x1), (2, .int x2), (3, .int y9_3), (5, .int y9_5), (6, .int y41_6)]) hx hb dX12_isMixed_78 hl (k := 6) rfl (by rw [ev7]; rfl) (by decide) rfl (fun ls hl => ?_)
                    refine lv_goto (tgt := 41) hx hb dX12_isMixed_81 (by decide) ?_
                    exact ih41 y41_6 v7 ls (lv_sub hl [1, 2, 3, 4, 5, 6, 0] rfl) hf
                  · replace hf := wb_t hc hf
                    refine lv_iload hx hb dX12_isMixed_69 (lv_at hl 5 rfl) ?_
                    refine lv_iconst (v := (1 : Int32)) hx hb dX12_isMixed_71 (by decide) ?_
                    refine lv_iload hx hb dX12_isMixed_72 (lv_at hl 6 rfl) ?_
                    refine lv_ishl hx hb dX12_isMixed_74 ?_
                    refine lv_ior hx hb dX12_isMixed_75 ?_
                    obtain ⟨v8, ev8, hf⟩ := wb_v hf
                    refine wb_topi ev8 ?_
                    refine lv_istore (lv' := [(6, .int v8), (0, .ref (a0 0)), (1, .int x1), (2, .int x2), (3, .int y9_3), (5, .int y9_5), (7, .int y41_7)]) hx hb dX12_isMixed_76 hl (by decide) rfl (fun ls hl => ?_)
                    obtain ⟨v9, ev9, hf⟩ := wb_v hf
                    refine lv_iinc (v := v9) (lv' := [(7, .int v9), (6, .int v8), (0, .ref (a0 0)), (1, .int x1), (2, .int x2), (3, .int y9_3), (5, .int y9_5)]) hx hb dX12_isMixed_78 hl (k := 6) rfl (by rw [ev9]; rfl) (by decide) rfl (fun ls hl => ?_)
                    refine lv_goto (tgt := 41) hx hb dX12_isMixed_81 (by decide) ?_
                    exact ih41 v8 v9 ls (lv_sub hl [2, 3, 4, 5, 6, 1, 0] rfl) hf
            exact Lh41 N (0 : Int32) (0 : Int32) ls (lv_sub hl [2, 3, 4, 5, 7, 1, 0] rfl) hf
          · replace hf := wb_t hc hf
            refine lv_goto (tgt := 101) hx hb dX12_isMixed_32 (by decide) ?_
            obtain ⟨v10, ev10, hf⟩ := wb_v hf
            refine lv_iinc (v := v10) (lv' := [(5, .int v10), (0, .ref (a0 0)), (1, .int x1), (2, .int x2), (3, .int y9_3), (4, .int y9_4)]) hx hb dX12_isMixed_101 hl (k := 5) rfl (by rw [ev10]; rfl) (by decide) rfl (fun ls hl => ?_)
            refine lv_goto (tgt := 9) hx hb dX12_isMixed_104 (by decide) ?_
            exact ih9 y9_3 y9_4 v10 ls (lv_sub hl [1, 2, 3, 4, 5, 0] rfl) hf
  exact Lh9 N (15 : Int32) (1 : Int32) (0 : Int32) ls (lv_sub hl [3, 4, 5, 2, 1, 0] rfl) hf
