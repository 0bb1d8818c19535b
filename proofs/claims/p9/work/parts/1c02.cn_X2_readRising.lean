set_option maxHeartbeats 4000000 in
set_option maxRecDepth 100000 in
theorem cn_X2_readRising (l : Launch) (D : va_G) (cB cI cZ : ClassId) (N : Nat) (a0 : Nat → Nat) (I0 : Nat → Int32) (M0 : Nat → Nat → Int32) (a1 : Nat → Nat) (I1 : Nat → Int32) (M1 : Nat → Nat → Int32) (sz : Nat) (R : Int32 × (Nat → Int32) × (Nat → Nat → Int32) × (Nat → Int32) × (Nat → Nat → Int32)) (hf : fX2_readRising N I0 M0 I1 M1 = some R) : Met l yX2_readRising wsX2_readRising ({ frames := 3, cells := 0, slots := 0, locals := 65 }) (va_Pc [.ref (a0 0), .ref (a1 0)] (wb_preD D [(cB, .byte), (cI, .int), (cZ, .boolean)] ((wWX2 cB cI cZ a0 I0 M0) ++ (wWX9 cB cI cZ a1 I1 M1)) sz)) (va_Qi (fun r (_ : Unit) => r = R.1) (fun _ t => wb_post D [(cB, .byte), (cI, .int), (cZ, .boolean)] (va_A ((wWX2 cB cI cZ a0 I0 M0) ++ (wWX9 cB cI cZ a1 I1 M1)) sz) ((wWX2 cB cI cZ a0 R.2.1 R.2.2.1) ++ (wWX9 cB cI cZ a1 R.2.2.2.1 R.2.2.2.2)) t) (va_A ((wWX2 cB cI cZ a0 I0 M0) ++ (wWX9 cB cI cZ a1 I1 M1)) sz)) 0 0 (va_A ((wWX2 cB cI cZ a0 I0 M0) ++ (wWX9 cB cI cZ a1 I1 M1)) sz) := by
  refine Met.ofW (cc := cX2_readRising) (maxL := 6) (ret := (some .boolean)) (by decide) rfl ?_
  intro p e s m args below meth c s₁ B hml hv
  obtain ⟨rfl, hsz, hP, hK, hD0⟩ := hv
  have hx := B.exec
  have hb := B.bytes
  have hr := B.returns
  have hts := atoms_spec (ws := wsX2_readRising) B.pre
  have hown : s.vm.findClass RX2 = some m.cls := findClass_of_methodNamed B.named
  have hlocks := B.notSynchronized
  have hinX2 : ∀ w ∈ u_ws RX2 TX2 2, w ∈ wsX2_readRising := fun w h => List.mem_cons_of_mem _ (List.mem_append_right _ h)
  have hinX9 : ∀ w ∈ u_ws RX9 TX9 10, w ∈ wsX2_readRising := fun w h => List.mem_cons_of_mem _ (List.mem_append_left _ (List.mem_append_right _ h))
  subst hsz
  have hD := hD0.self (sz := s.heap.size)
  generalize hAe : va_A ((wWX2 cB cI cZ a0 I0 M0) ++ (wWX9 cB cI cZ a1 I1 M1)) s.heap.size = A at hD ⊢
  have hA : ∀ q : Nat, s.heap.size ≤ q → A q := fun q h => by rw [← hAe]; exact Or.inr h
  have hS : va_S A s.heap s.heap [] := va_S.rf
  have hl := lv_entry ([.ref (a0 0), .ref (a1 0)]) (n := 6) (Nat.le_of_ble_eq_true rfl)
  rw [lg_entry_eq]
  generalize (lg_sl ([.ref (a0 0), .ref (a1 0)]) ++ List.replicate (6 - (lg_sl ([.ref (a0 0), .ref (a1 0)])).length) Slot.unset).toArray = ls at hl ⊢
  have hl : lv_has ls 6 [(0, .ref (a0 0)), (1, .ref (a1 0))] := hl
  unfold fX2_readRising at hf
  obtain ⟨H, hHe⟩ : ∃ H : Heap, H = s.heap := ⟨_, rfl⟩
  obtain ⟨locs, hle⟩ : ∃ locs : List Loc, locs = [] := ⟨_, rfl⟩
  refine wb_start (H := H) (locs := locs) hHe hle ?_
  rw [← hHe] at hP
  have hS : va_S A s.heap H locs := by rw [hHe, hle]; exact va_S.rf
  refine lv_iconst (v := (0 : Int32)) hx hb dX2_readRising_0 (by decide) ?_
  refine lv_istore_n (lv' := [(2, .int (0 : Int32)), (0, .ref (a0 0)), (1, .ref (a1 0))]) hx hb dX2_readRising_1 rfl hl (by decide) rfl (fun ls hl => ?_)
  refine lv_iconst (v := (0 : Int32)) hx hb dX2_readRising_2 (by decide) ?_
  refine lv_istore_n (lv' := [(3, .int (0 : Int32)), (2, .int (0 : Int32)), (0, .ref (a0 0)), (1, .ref (a1 0))]) hx hb dX2_readRising_3 rfl hl (by decide) rfl (fun ls hl => ?_)
  have L4 : ∀ (fu4 : Nat) (I0_l4 : Nat → Int32) (M0_l4 : Nat → Nat → Int32) (I1_l4 : Nat → Int32) (M1_l4 : Nat → Nat → Int32) (y4_2 : Int32) (y4_3 : Int32) (H : Heap) (locs : List Loc), va_P D vwCl ((wWX2 cB cI cZ a0 I0_l4 M0_l4) ++ (wWX9 cB cI cZ a1 I1_l4 M1_l4)) H → va_D A ((wWX2 cB cI cZ a0 I0_l4 M0_l4) ++ (wWX9 cB cI cZ a1 I1_l4 M1_l4)) → va_S A s.heap H locs → ∀ (ls : Array Slot), lv_has ls 6 [(0, .ref (a0 0)), (1, .ref (a1 0)), (2, .int y4_2), (3, .int y4_3)] → fX2_readRising_L4 N fu4 I0_l4 M0_l4 I1_l4 M1_l4 y4_2 y4_3 = some R → W p l e (headSpec wsX2_readRising { frames := 3, cells := 0, slots := 0, locals := 65 }).room s m [.ref (a0 0), .ref (a1 0)].toArray below meth c H locs 0 0 (MQ below (va_Qi (fun r (_ : Unit) => r = R.1) (fun _ t => wb_post D [(cB, .byte), (cI, .int), (cZ, .boolean)] A ((wWX2 cB cI cZ a0 R.2.1 R.2.2.1) ++ (wWX9 cB cI cZ a1 R.2.2.2.1 R.2.2.2.2)) t) A) [.ref (a0 0), .ref (a1 0)].toArray s 0 0 A) (F0 m 4 ls []) := by
    intro fu4
    induction fu4 with
    | zero =>
      intro I0_l4 M0_l4 I1_l4 M1_l4 y4_2 y4_3 H locs hP hD hS ls hl hf
      exact absurd hf (by rw [fX2_readRising_L4.eq_1]; exact fun h => nomatch h)
    | succ fu4 ih4 =>
      have J58 : ∀ (I0_j58 : Nat → Int32) (M0_j58 : Nat → Nat → Int32) (I1_j58 : Nat → Int32) (M1_j58 : Nat → Nat → Int32) (y58_2 : Int32) (y58_3 : Int32) (z58_0 : Int32) (z58_1 : Int32) (H : Heap) (locs : List Loc), va_P D vwCl ((wWX2 cB cI cZ a0 I0_j58 M0_j58) ++ (wWX9 cB cI cZ a1 I1_j58 M1_j58)) H → va_D A ((wWX2 cB cI cZ a0 I0_j58 M0_j58) ++ (wWX9 cB cI cZ a1 I1_j58 M1_j58)) → va_S A s.heap H locs → ∀ (ls : Array Slot), lv_has ls 6 [(0, .ref (a0 0)), (1, .ref (a1 0)), (2, .int y58_2), (3, .int y58_3)] → fX2_readRising_J58 N (fX2_readRising_L4 N fu4) I0_j58 M0_j58 I1_j58 M1_j58 y58_2 y58_3 z58_0 z58_1 = some R → W p l e (headSpec wsX2_readRising { frames := 3, cells := 0, slots := 0, locals := 65 }).room s m [.ref (a0 0), .ref (a1 0)].toArray below meth c H locs 0 0 (MQ below (va_Qi (fun r (_ : Unit) => r = R.1) (fun _ t => wb_post D [(cB, .byte), (cI, .int), (cZ, .boolean)] A ((wWX2 cB cI cZ a0 R.2.1 R.2.2.1) ++ (wWX9 cB cI cZ a1 R.2.2.2.1 R.2.2.2.2)) t) A) [.ref (a0 0), .ref (a1 0)].toArray s 0 0 A) (F0 m 58 ls [.int z58_0, .int z58_1, .ref (a1 0)]) := by
        intro I0_j58 M0_j58 I1_j58 M1_j58 y58_2 y58_3 z58_0 z58_1 H locs hP hD hS ls hl hf
        unfold fX2_readRising_J58 at hf
        obtain ⟨r1, hr1, hf⟩ := wb_b hf
        have hPc := hP.sub (ws' := (wWX9 cB cI cZ a1 I1_j58 M1_j58)) [2, 3] rfl
        have hDc := hD.sub (ws' := (wWX9 cB cI cZ a1 I1_j58 M1_j58)) [2, 3] (by decide) rfl
        have hFc := va_free (wc := (wWX9 cB cI cZ a1 I1_j58 M1_j58)) hD hS hA [2, 3] rfl
        refine va_calli (va_runV (As := [.int z58_1, .int z58_0]) (rest := []) ⟨hx, hb, hml, hown, hts⟩ (cn_X9_takeNumber l D cB cI cZ N a1 I1_j58 M1_j58 z58_1 z58_0 H.size r1 hr1) (cwV 2 hts gX2_readRising_X9_takeNumber rfl rfl rfl cdX9_takeNumber ⟨Nat.le_of_ble_eq_true rfl, Nat.le_of_ble_eq_true rfl⟩) (wb_preDV hPc hK hDc (va_recv hK hP (ci := 9) (q0 := 2) rfl rfl)) rfl rfl hl.1 rfl (lv_room (Nat.le_of_ble_eq_true rfl)) dX2_readRising_58 ⟨Nat.le_of_ble_eq_true rfl, Nat.le_of_ble_eq_true rfl⟩) hS (fun q _ h => hFc q h) hFc (fun r9 u t H locs ht hvm hw hB hz1 hk1 hS => ?_)
        obtain ⟨hP, hD⟩ := wj_s (wc := (wWX9 cB cI cZ a1 I1_j58 M1_j58)) (w1 := (wWX9 cB cI cZ a1 r1.2.1 r1.2.2)) (wf := ((wWX2 cB cI cZ a0 I0_j58 M0_j58) ++ (wWX9 cB cI cZ a1 r1.2.1 r1.2.2))) 2 4 hP hD rfl rfl hk1 hFc ht hB
        rw [hw]
        refine lv_if_ne (tgt := 66) hx hb dX2_readRising_61 (by decide) (fun hc => ?_) (fun hc => ?_)
        · replace hf := wb_f hc hf
          refine lv_iload_n hx hb dX2_readRising_66 rfl (lv_at hl 2 rfl) ?_
          refine lv_aload_n hx hb dX2_readRising_67 rfl (lv_at hl 1 rfl) ?_
          refine va_get (D := D) (ci := 9) (v := .int (r1.2.1 6)) (C := RX9) (T := TX9) (N := 10) hx hb hts hinX9 hown hK hP 2 rfl rfl 7 (by decide) (hts (.fieldLink RX2 53 "WheelBook$Text" "number" "I") (List.mem_of_getElem? (i := 6) rfl)) (fun _ h9 => h9) rfl dX2_readRising_68 ?_
          refine lv_iadd hx hb dX2_readRising_71 ?_
          obtain ⟨v2, ev2, hf⟩ := wb_v hf
          refine wb_topi ev2 ?_
          refine lv_istore_n (lv' := [(2, .int v2), (0, .ref (a0 0)), (1, .ref (a1 0)), (3, .int y58_3)]) hx hb dX2_readRising_72 rfl hl (by decide) rfl (fun ls hl => ?_)
          refine lv_aload_n hx hb dX2_readRising_73 rfl (lv_at hl 1 rfl) ?_
          refine va_get (D := D) (ci := 2) (v := .ref (a0 1)) (C := RX2) (T := TX2) (N := 2) hx hb hts hinX2 hown hK hP 0 rfl rfl 0 (by decide) (hts (.fieldLink RX2 11 "WheelBook$Climates" "ahead" "[I") (List.mem_of_getElem? (i := 7) rfl)) (fun _ h9 => h9) rfl dX2_readRising_74 ?_
          refine lv_bipush (v := (13 : Int32)) hx hb dX2_readRising_77 (by decide) ?_
          refine lv_aload_n hx hb dX2_readRising_79 rfl (lv_at hl 1 rfl) ?_
          refine va_get (D := D) (ci := 2) (v := .int (I0_j58 0)) (C := RX2) (T := TX2) (N := 2) hx hb hts hinX2 hown hK hP 0 rfl rfl 1 (by decide) (hts (.fieldLink RX2 21 "WheelBook$Climates" "many" "I") (List.mem_of_getElem? (i := 8) rfl)) (fun _ h9 => h9) rfl dX2_readRising_80 ?_
          refine lv_imul hx hb dX2_readRising_83 ?_
          refine lv_iload_n hx hb dX2_readRising_84 rfl (lv_at hl 3 rfl) ?_
          refine lv_iadd hx hb dX2_readRising_85 ?_
          refine lv_iconst (v := (1 : Int32)) hx hb dX2_readRising_86 (by decide) ?_
          refine lv_iadd hx hb dX2_readRising_87 ?_
          refine lv_iload_n hx hb dX2_readRising_88 rfl (lv_at hl 0 rfl) ?_
          obtain ⟨hin, hf⟩ := wb_n hf
          refine va_iast hx hb hK hP hD hS 1 1 rfl rfl hin dX2_readRising_89 (fun H locs hP hD hS => ?_)
          have hP : va_P D vwCl ((wWX2 cB cI cZ a0 I0_j58 (wb_um M0_j58 0 (((((13 : Int32) * (I0_j58 0)) + y58_3) + (1 : Int32))).toNatClampNeg v2)) ++ (wWX9 cB cI cZ a1 r1.2.1 r1.2.2)) H := hP
          have hD : va_D A ((wWX2 cB cI cZ a0 I0_j58 (wb_um M0_j58 0 (((((13 : Int32) * (I0_j58 0)) + y58_3) + (1 : Int32))).toNatClampNeg v2)) ++ (wWX9 cB cI cZ a1 r1.2.1 r1.2.2)) := hD
          obtain ⟨M0_3, eM0_3, hf⟩ := wb_v hf
          rw [← eM0_3] at hP hD
          obtain ⟨v4, ev4, hf⟩ := wb_v hf
          refine lv_iinc (v := v4) (lv' := [(3, .int v4), (2, .int v2), (0, .ref (a0 0)), (1, .ref (a1 0))]) hx hb dX2_readRising_90 hl (k := 3) rfl (by rw [ev4]; rfl) (by decide) rfl (fun ls hl => ?_)
          refine lv_goto (tgt := 4) hx hb dX2_readRising_93 (by decide) ?_
          exact ih4 I0_j58 M0_3 r1.2.1 r1.2.2 v2 v4 H locs hP hD hS ls (lv_sub hl [2, 3, 1, 0] rfl) hf
        · replace hf := wb_t hc hf
          refine lv_iconst (v := (0 : Int32)) hx hb dX2_readRising_64 (by decide) ?_
          exact W.zret (v := (0 : Int32)) hx hb hr (by decide) (fun t ht hW => by rw [← Option.some.inj hf]; exact ⟨⟨(0 : Int32), (), rfl, rfl, by rw [ht]; exact hP, va_K.moved hW.alike hK, hD⟩, hS.F ht⟩) hS.2.2 dX2_readRising_65
      have J46 : ∀ (I0_j46 : Nat → Int32) (M0_j46 : Nat → Nat → Int32) (I1_j46 : Nat → Int32) (M1_j46 : Nat → Nat → Int32) (y46_2 : Int32) (y46_3 : Int32) (y46_4 : Int32) (y46_5 : Int32) (z46_0 : Int32) (H : Heap) (locs : List Loc), va_P D vwCl ((wWX2 cB cI cZ a0 I0_j46 M0_j46) ++ (wWX9 cB cI cZ a1 I1_j46 M1_j46)) H → va_D A ((wWX2 cB cI cZ a0 I0_j46 M0_j46) ++ (wWX9 cB cI cZ a1 I1_j46 M1_j46)) → va_S A s.heap H locs → ∀ (ls : Array Slot), lv_has ls 6 [(0, .ref (a0 0)), (1, .ref (a1 0)), (2, .int y46_2), (3, .int y46_3), (4, .int y46_4), (5, .int y46_5)] → fX2_readRising_J46 N (fX2_readRising_L4 N fu4) I0_j46 M0_j46 I1_j46 M1_j46 y46_2 y46_3 y46_4 y46_5 z46_0 = some R → W p l e (headSpec wsX2_readRising { frames := 3, cells := 0, slots := 0, locals := 65 }).room s m [.ref (a0 0), .ref (a1 0)].toArray below meth c H locs 0 0 (MQ below (va_Qi (fun r (_ : Unit) => r = R.1) (fun _ t => wb_post D [(cB, .byte), (cI, .int), (cZ, .boolean)] A ((wWX2 cB cI cZ a0 R.2.1 R.2.2.1) ++ (wWX9 cB cI cZ a1 R.2.2.2.1 R.2.2.2.2)) t) A) [.ref (a0 0), .ref (a1 0)].toArray s 0 0 A) (F0 m 46 ls [.int z46_0, .ref (a1 0)]) := by
        intro I0_j46 M0_j46 I1_j46 M1_j46 y46_2 y46_3 y46_4 y46_5 z46_0 H locs hP hD hS ls hl hf
        unfold fX2_readRising_J46 at hf
        refine lv_iload hx hb dX2_readRising_46 (lv_at hl 5 rfl) ?_
        refine lv_if_eq (tgt := 56) hx hb dX2_readRising_48 (by decide) (fun hc => ?_) (fun hc => ?_)
        · replace hf := wb_t hc hf
          refine lv_ldc (v := (9999999 : Int32)) hx hb hown (hts (.constant RX2 52 (9999999)) (List.mem_of_getElem? (i := 5) rfl)) dX2_readRising_56 ?_
          exact J58 I0_j46 M0_j46 I1_j46 M1_j46 y46_2 y46_3 (9999999 : Int32) z46_0 H locs hP hD hS ls (lv_sub hl [0, 1, 2, 3] rfl) hf
        · replace hf := wb_f hc hf
          refine lv_iload hx hb dX2_readRising_51 (lv_at hl 4 rfl) ?_
          refine lv_goto (tgt := 58) hx hb dX2_readRising_53 (by decide) ?_
          exact J58 I0_j46 M0_j46 I1_j46 M1_j46 y46_2 y46_3 y46_4 z46_0 H locs hP hD hS ls (lv_sub hl [0, 1, 2, 3] rfl) hf
      have J28 : ∀ (I0_j28 : Nat → Int32) (M0_j28 : Nat → Nat → Int32) (I1_j28 : Nat → Int32) (M1_j28 : Nat → Nat → Int32) (y28_2 : Int32) (y28_3 : Int32) (y28_4 : Int32) (z28_0 : Int32) (H : Heap) (locs : List Loc), va_P D vwCl ((wWX2 cB cI cZ a0 I0_j28 M0_j28) ++ (wWX9 cB cI cZ a1 I1_j28 M1_j28)) H → va_D A ((wWX2 cB cI cZ a0 I0_j28 M0_j28) ++ (wWX9 cB cI cZ a1 I1_j28 M1_j28)) → va_S A s.heap H locs → ∀ (ls : Array Slot), lv_has ls 6 [(0, .ref (a0 0)), (1, .ref (a1 0)), (2, .int y28_2), (3, .int y28_3), (4, .int y28_4)] → fX2_readRising_J28 N (fX2_readRising_L4 N fu4) I0_j28 M0_j28 I1_j28 M1_j28 y28_2 y28_3 y28_4 z28_0 = some R → W p l e (headSpec wsX2_readRising { frames := 3, cells := 0, slots := 0, locals := 65 }).room s m [.ref (a0 0), .ref (a1 0)].toArray below meth c H locs 0 0 (MQ below (va_Qi (fun r (_ : Unit) => r = R.1) (fun _ t => wb_post D [(cB, .byte), (cI, .int), (cZ, .boolean)] A ((wWX2 cB cI cZ a0 R.2.1 R.2.2.1) ++ (wWX9 cB cI cZ a1 R.2.2.2.1 R.2.2.2.2)) t) A) [.ref (a0 0), .ref (a1 0)].toArray s 0 0 A) (F0 m 28 ls [.int z28_0]) := by
        intro I0_j28 M0_j28 I1_j28 M1_j28 y28_2 y28_3 y28_4 z28_0 H locs hP hD hS ls hl hf
        unfold fX2_readRising_J28 at hf
        refine lv_istore (lv' := [(5, .int z28_0), (0, .ref (a0 0)), (1, .ref (a1 0)), (2, .int y28_2), (3, .int y28_3), (4, .int y28_4)]) hx hb dX2_readRising_28 hl (by decide) rfl (fun ls hl => ?_)
        refine lv_aload_n hx hb dX2_readRising_30 rfl (lv_at hl 2 rfl) ?_
        refine lv_iload hx hb dX2_readRising_31 (lv_at hl 0 rfl) ?_
        refine lv_if_eq (tgt := 45) hx hb dX2_readRising_33 (by decide) (fun hc => ?_) (fun hc => ?_)
        · replace hf := wb_t hc hf
          refine lv_iconst (v := (1 : Int32)) hx hb dX2_readRising_45 (by decide) ?_
          exact J46 I0_j28 M0_j28 I1_j28 M1_j28 y28_2 y28_3 y28_4 z28_0 (1 : Int32) H locs hP hD hS ls (lv_sub hl [1, 2, 3, 4, 5, 0] rfl) hf
        · replace hf := wb_f hc hf
          refine lv_iconst (v := (1 : Int32)) hx hb dX2_readRising_36 (by decide) ?_
          refine lv_iload hx hb dX2_readRising_37 (lv_at hl 5 rfl) ?_
          refine va_mmax hx hb (hml.trans hl.1.symm) hown (hts (.methodLink RX2 46 Lib.Math.max.name) (List.mem_of_getElem? (i := 1) rfl)) (hts (.static Lib.Math.max.name) (List.mem_of_getElem? (i := 2) rfl)) (hts (.initialized "java/lang/Math") (List.mem_of_getElem? (i := 3) rfl)) (hts (.code Lib.Math.max.name Lib.Math.max.code 2 (some .int)) (List.mem_of_getElem? (i := 4) rfl)) (Nat.le_of_ble_eq_true rfl) (Nat.le_of_ble_eq_true rfl) (Nat.zero_le _) (Nat.zero_le _) dX2_readRising_39 ?_
          refine lv_goto (tgt := 46) hx hb dX2_readRising_42 (by decide) ?_
          exact J46 I0_j28 M0_j28 I1_j28 M1_j28 y28_2 y28_3 y28_4 z28_0 (if (1 : Int32) < y28_4 then y28_4 else (1 : Int32)) H locs hP hD hS ls (lv_sub hl [1, 2, 3, 4, 5, 0] rfl) hf
      intro I0_l4 M0_l4 I1_l4 M1_l4 y4_2 y4_3 H locs hP hD hS ls hl hf
      rw [fX2_readRising_L4.eq_2] at hf
      refine lv_iload_n hx hb dX2_readRising_4 rfl (lv_at hl 3 rfl) ?_
      refine lv_bipush (v := (12 : Int32)) hx hb dX2_readRising_5 (by decide) ?_
      refine lv_icmp_ge (tgt := 96) hx hb dX2_readRising_7 (by decide) (fun hc => ?_) (fun hc => ?_)
      · replace hf := wb_t hc hf
        refine lv_iconst (v := (1 : Int32)) hx hb dX2_readRising_96 (by decide) ?_
        exact W.zret (v := (1 : Int32)) hx hb hr (by decide) (fun t ht hW => by rw [← Option.some.inj hf]; exact ⟨⟨(1 : Int32), (), rfl, rfl, by rw [ht]; exact hP, va_K.moved hW.alike hK, hD⟩, hS.F ht⟩) hS.2.2 dX2_readRising_97
      · replace hf := wb_f hc hf
        refine lv_sipush (v := (3600 : Int32)) hx hb dX2_readRising_10 (by decide) ?_
        refine lv_iload_n hx hb dX2_readRising_13 rfl (lv_at hl 2 rfl) ?_
        refine lv_isub hx hb dX2_readRising_14 ?_
        obtain ⟨v5, ev5, hf⟩ := wb_v hf
        refine wb_topi ev5 ?_
        refine lv_istore (lv' := [(4, .int v5), (0, .ref (a0 0)), (1, .ref (a1 0)), (2, .int y4_2), (3, .int y4_3)]) hx hb dX2_readRising_15 hl (by decide) rfl (fun ls hl => ?_)
        refine lv_iload_n hx hb dX2_readRising_17 rfl (lv_at hl 4 rfl) ?_
        refine lv_bipush (v := (11 : Int32)) hx hb dX2_readRising_18 (by decide) ?_
        refine lv_icmp_ne (tgt := 27) hx hb dX2_readRising_20 (by decide) (fun hc => ?_) (fun hc => ?_)
        · replace hf := wb_f hc hf
          refine lv_iconst (v := (0 : Int32)) hx hb dX2_readRising_27 (by decide) ?_
          exact J28 I0_l4 M0_l4 I1_l4 M1_l4 y4_2 y4_3 v5 (0 : Int32) H locs hP hD hS ls (lv_sub hl [1, 2, 3, 4, 0] rfl) hf
        · replace hf := wb_t hc hf
          refine lv_iconst (v := (1 : Int32)) hx hb dX2_readRising_23 (by decide) ?_
          refine lv_goto (tgt := 28) hx hb dX2_readRising_24 (by decide) ?_
          exact J28 I0_l4 M0_l4 I1_l4 M1_l4 y4_2 y4_3 v5 (1 : Int32) H locs hP hD hS ls (lv_sub hl [1, 2, 3, 4, 0] rfl) hf
  exact L4 N I0 M0 I1 M1 (0 : Int32) (0 : Int32) H locs hP hD hS ls (lv_sub hl [2, 3, 1, 0] rfl) hf

