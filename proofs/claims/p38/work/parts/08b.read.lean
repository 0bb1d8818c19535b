set_option maxHeartbeats 4000000 in
set_option maxRecDepth 100000 in
theorem cn_X2_readRising (l : Launch) (D : va_G) (cB cI cZ : ClassId) (N : Nat) (a0 : Nat → Nat) (I0 : Nat → Int32) (M0 : Nat → Nat → Int32) (a1 : Nat → Nat) (I1 : Nat → Int32) (M1 : Nat → Nat → Int32) (sz : Nat) (R : Int32 × (Nat → Int32) × (Nat → Nat → Int32) × (Nat → Int32) × (Nat → Nat → Int32)) (hf : fX2_readRising N I0 M0 I1 M1 = some R) : Met l yX2_readRising wsX2_readRising ({ frames := 3, cells := 0, slots := 0, locals := 65 }) (va_Pc [.ref (a0 0), .ref (a1 0)] (wb_preD D [(cB, .byte), (cI, .int), (cZ, .boolean)] ((wWX2 cB cI cZ a0 I0 M0) ++ (wWX9 cB cI cZ a1 I1 M1)) sz)) (va_Qi (fun r (_ : Unit) => r = R.1) (fun _ t => wb_post D [(cB, .byte), (cI, .int), (cZ, .boolean)] (va_A ((wWX2 cB cI cZ a0 I0 M0) ++ (wWX9 cB cI cZ a1 I1 M1)) sz) ((wWX2 cB cI cZ a0 R.2.1 R.2.2.1) ++ (wWX9 cB cI cZ a1 R.2.2.2.1 R.2.2.2.2)) t) (va_A ((wWX2 cB cI cZ a0 I0 M0) ++ (wWX9 cB cI cZ a1 I1 M1)) sz)) 0 0 (va_A ((wWX2 cB cI cZ a0 I0 M0) ++ (wWX9 cB cI cZ a1 I1 M1)) sz) := by
  refine Met.ofW (cc := cX2_readRising) (maxL := 6) (ret := (some .boolean)) (by decide) rfl ?_
  intro p e s m args below meth c s₁ B hml hv
  obtain ⟨rfl, hsz, hP, hK, hD0⟩ := hv
  have hx := B.exec
  have hb := B.bytes
  have hr := B.returns
  have hts := atoms_spec (ws := wsX2_readRising) B.pre
  have hown : s.vm.findClass RX2 = some m.cls := findClass_of_methodNamed B.named
  have hlocks := B.notSynchronized
  have hinX2 : ∀ w ∈ u_ws RX2 TX2 2, w ∈ wsX2_readRising := fun w h => List.mem_cons_of_mem _ (List.mem_append_right _ h)
  have hinX9 : ∀ w ∈ u_ws RX9 TX9 10, w ∈ wsX2_readRising := fun w h => List.mem_cons_of_mem _ (List.mem_append_left _ (List.mem_append_right _ h))
  subst hsz
  have hD := hD0.self (sz := s.heap.size)
  generalize hAe : va_A ((wWX2 cB cI cZ a0 I0 M0) ++ (wWX9 cB cI cZ a1 I1 M1)) s.heap.size = A at hD ⊢
  have hA : ∀ q : Nat, s.heap.size ≤ q → A q := fun q h => by rw [← hAe]; exact Or.inr h
  have hS : va_S A s.heap s.heap [] := va_S.rf
  have hl := lv_entry ([.ref (a0 0), .ref (a1 0)]) (n := 6) (Nat.le_of_ble_eq_true rfl)
  rw [lg_entry_eq]
  generalize (lg_sl ([.ref (a0 0), .ref (a1 0)]) ++ List.replicate (6 - (lg_sl ([.ref (a0 0), .ref (a1 0)])).length) Slot.unset).toArray = ls at hl ⊢
  have hl : lv_has ls 6 [(0, .ref (a0 0)), (1, .ref (a1 0))] := hl
  unfold fX2_readRising at hf
  obtain ⟨H, hHe⟩ : ∃ H : Heap, H = s.heap := ⟨_, rfl⟩
  obtain ⟨locs, hle⟩ : ∃ locs : List Loc, locs = [] := ⟨_, rfl⟩
  refine wb_start (H := H) (locs := locs) hHe hle ?_
  rw [← hHe] at hP
  have hS : va_S A s.heap H locs := by rw [hHe, hle]; exact va_S.rf
  refine lv_iconst (v := (0 : Int32)) hx hb dX2_readRising_0 (by decide) ?_
  refine lv_istore_n (lv' := [(2, .int (0 : Int32)), (0, .ref (a0 0)), (1, .ref (a1 0))]) hx hb dX2_readRising_1 rfl hl (by decide) rfl (fun ls hl => ?_)
  refine lv_iconst (v := (0 : Int32)) hx hb dX2_readRising_2 (by decide) ?_
  refine lv_istore_n (lv' := [(3, .int (0 : Int32)), (2, .int (0 : Int32)), (0, .ref (a0 0)), (1, .ref (a1 0))]) hx hb dX2_readRising_3 rfl hl (by decide) rfl (fun ls hl => ?_)
  have L4 : ∀ (fu4 : Nat) (I0_l4 : Nat → Int32) (M0_l4 : Nat → Nat → Int32) (I1_l4 : Nat → Int32) (M1_l4 : Nat → Nat → Int32) (y4_2 : Int32) (y4_3 : Int32) (H : Heap) (locs : List Loc), va_P D vwCl ((wWX2 cB cI cZ a0 I0_l4 M0_l4) ++ (wWX9 cB cI cZ a1 I1_l4 M1_l4)) H → va_D A ((wWX2 cB cI cZ a0 I0_l4 M0_l4) ++ (wWX9 cB cI cZ a1 I1_l4 M1_l4)) → va_S A s.heap H locs → ∀ (ls : Array Slot), lv_has ls 6 [(0, .ref (a0 0)), (1, .ref (a1 0)), (2, .int y4_2), (3, .int y4_3)] → fX2_readRising_L4 N fu4 I0_l4 M0_l4 I1_l4 M1_l4 y4_2 y4_3 = some R → W p l e (headSpec wsX2_readRising { frames := 3, cells := 0, slots := 0, locals := 65 }).room s m [.ref (a0 0), .ref (a1 0)].toArray below meth c H locs 0 0 (MQ below (va_Qi (fun r (_ : Unit) => r = R.1) (fun _ t => wb_post D [(cB, .byte), (cI, .int), (cZ, .boolean)] A ((wWX2 cB cI cZ a0 R.2.1 R.2.2.1) ++ (wWX9 cB cI cZ a1 R.2.2.2.1 R.2.2.2.2)) t) A) [.ref (a0 0), .ref (a1 0)].toArray s 0 0 A) (F0 m 4 ls []) := by
    intro fu4
    induction fu4 with
    | zero =>
      intro I0_l4 M0_l4 I1_l4 M1_l4 y4_2 y4_3 H locs hP hD hS ls hl hf
      exact absurd hf (by rw [fX2_readRising_L4.eq_1]; exact fun h => nomatch h)
    | succ fu4 ih4 =>
      have J58 : ∀ (I0_j58 : Nat → Int32) (M0_j58 : Nat → Nat → Int32) (I1_j58 : Nat → Int32) (M1_j58 : Nat → Nat → Int32) (y58_2 : Int32) (y58_3 : Int32) (z58_0 : Int32) (z58_1 : Int32) (H : Heap) (locs : List Loc), va_P D vwCl ((wWX2 cB cI cZ a0 I0_j58 M0_j58) ++ (wWX9 cB cI cZ a1 I1_j58 M1_j58)) H → va_D A ((wWX2 cB cI cZ a0 I0_j58 M0_j58) ++ (wWX9 cB cI cZ a1 I1_j58 M1_j58)) → va_S A s.heap H locs → ∀ (ls : Array Slot), lv_has ls 6 [(0, .ref (a0 0)), (1, .ref (a1 0)), (2, .int y58_2), (3, .int y58_3)] → fX2_readRising_J58 N (fX2_readRising_L4 N fu4) I0_j58 M0_j58 I1_j58 M1_j58 y58_2 y58_3 z58_0 z58_1 = some R → W p l e (headSpec wsX2_readRising { frames := 3, cells := 0, slots := 0, locals := 65 }).room s m [.ref (a0 0), .ref (a1 0)].toArray below meth c H locs 0 0 (MQ below (va_Qi (fun r (_ : Unit) => r = R.1) (fun _ t => wb_post D [(cB, .byte), (cI, .int), (cZ, .boolean)] A ((wWX2 cB cI cZ a0 R.2.1 R.2.2.1) ++ (wWX9 cB cI cZ a1 R.2.2.2.1 R.2.2.2.2)) t) A) [.ref (a0 0), .ref (a1 0)].toArray s 0 0 A) (F0 m 58 ls [.int z58_0, .int z58_1, .ref (a1 0)]) := by
        intro I0_j58 M0_j58 I1_j58 M1_j58 y58_2 y58_3 z58_0 z58_1 H locs hP hD hS ls hl hf
        unfold fX2_readRising_J58 at hf
        obtain ⟨r1, hr1, hf⟩ := wb_b hf
        have hPc := hP.sub (ws' := (wWX9 cB cI cZ a1 I1_j58 M1_j58)) [2, 3] rfl
        have hDc := hD.sub (ws' := (wWX9 cB cI cZ a1 I1_j58 M1_j58)) [2, 3] (by decide) rfl
        have hFc := va_free (wc := (wWX9 cB cI cZ a1 I1_j58 M1_j58)) hD hS hA [2, 3] rfl
        refine va_calli (va_runV (As := [.int z58_1, .int z58_0]) (rest := []) ⟨hx, hb, hml, hown, hts⟩ (cn_X9_takeNumber l D cB cI cZ N a1 I1_j58 M1_j58 z58_1 z58_0 H.size r1 hr1) (cwV 2 hts gX2_readRising_X9_takeNumber rfl rfl rfl cdX9_takeNumber ⟨Nat.le_of_ble_eq_true rfl, Nat.le_of_ble_eq_true rfl⟩) (wb_preDV hPc hK hDc (va_recv hK hP (ci := 9) (q0 := 2) rfl rfl)) rfl rfl hl.1 rfl (lv_room (Nat.le_of_ble_eq_true rfl)) dX2_readRising_58 ⟨Nat.le_of_ble_eq_true rfl, Nat.le_of_ble_eq_true rfl⟩) hS (fun q _ h => hFc q h) hFc (fun r9 u t H locs ht hvm hw hB hz1 hk1 hS => ?_)
        obtain ⟨hP, hD⟩ := wb_join (wc := (wWX9 cB cI cZ a1 I1_j58 M1_j58)) (w1 := (wWX9 cB cI cZ a1 r1.2.1 r1.2.2)) (wf := ((wWX2 cB cI cZ a0 I0_j58 M0_j58) ++ (wWX9 cB cI cZ a1 r1.2.1 r1.2.2))) hP hD [2, 3] [0, 1] [0, 1, 2, 3] rfl rfl (by decide) (by decide) (by decide) rfl hk1 hFc ht hB
        rw [hw]
        refine lv_if_ne (tgt := 66) hx hb dX2_readRising_61 (by decide) (fun hc => ?_) (fun hc => ?_)
        · replace hf := wb_f hc hf
          refine lv_iload_n hx hb dX2_readRising_66 rfl (lv_at hl 2 rfl) ?_
          refine lv_aload_n hx hb dX2_readRising_67 rfl (lv_at hl 1 rfl) ?_
          refine va_get (D := D) (ci := 9) (v := .int (r1.2.1 6)) (C := RX9) (T := TX9) (N := 10) hx hb hts hinX9 hown hK hP 2 rfl rfl 7 (by decide) (hts (.fieldLink RX2 53 "WheelBook$Text" "number" "I") (List.mem_of_getElem? (i := 6) rfl)) (fun _ h9 => h9) rfl dX2_readRising_68 ?_
          refine lv_iadd hx hb dX2_readRising_71 ?_
          obtain ⟨v2, ev2, hf⟩ := wb_v hf
          refine wb_topi ev2 ?_
          refine lv_istore_n (lv' := [(2, .int v2), (0, .ref (a0 0)), (1, .ref (a1 0)), (3, .int y58_3)]) hx hb dX2_readRising_72 rfl hl (by decide) rfl (fun ls hl => ?_)
          refine lv_aload_n hx hb dX2_readRising_73 rfl (lv_at hl 1 rfl) ?_
          refine va_get (D := D) (ci := 2) (v := .ref (a0 1)) (C := RX2) (T := TX2) (N := 2) hx hb hts hinX2 hown hK hP 0 rfl rfl 0 (by decide) (hts (.fieldLink RX2 11 "WheelBook$Climates" "ahead" "[I") (List.mem_of_getElem? (i := 7) rfl)) (fun _ h9 => h9) rfl dX2_readRising_74 ?_
          refine lv_bipush (v := (13 : Int32)) hx hb dX2_readRising_77 (by decide) ?_
          refine lv_aload_n hx hb dX2_readRising_79 rfl (lv_at hl 1 rfl) ?_
          refine va_get (D := D) (ci := 2) (v := .int (I0_j58 0)) (C := RX2) (T := TX2) (N := 2) hx hb hts hinX2 hown hK hP 0 rfl rfl 1 (by decide) (hts (.fieldLink RX2 21 "WheelBook$Climates" "many" "I") (List.mem_of_getElem? (i := 8) rfl)) (fun _ h9 => h9) rfl dX2_readRising_80 ?_
          refine lv_imul hx hb dX2_readRising_83 ?_
          refine lv_iload_n hx hb dX2_readRising_84 rfl (lv_at hl 3 rfl) ?_
          refine lv_iadd hx hb dX2_readRising_85 ?_
          refine lv_iconst (v := (1 : Int32)) hx hb dX2_readRising_86 (by decide) ?_
          refine lv_iadd hx hb dX2_readRising_87 ?_
          refine lv_iload_n hx hb dX2_readRising_88 rfl (lv_at hl 0 rfl) ?_
          obtain ⟨hin, hf⟩ := wb_n hf
          refine va_iast hx hb hK hP hD hS 1 1 rfl rfl hin dX2_readRising_89 (fun H locs hP hD hS => ?_)
          have hP : va_P D vwCl ((wWX2 cB cI cZ a0 I0_j58 (wb_um M0_j58 0 (((((13 : Int32) * (I0_j58 0)) + y58_3) + (1 : Int32))).toNatClampNeg v2)) ++ (wWX9 cB cI cZ a1 r1.2.1 r1.2.2)) H := hP
          have hD : va_D A ((wWX2 cB cI cZ a0 I0_j58 (wb_um M0_j58 0 (((((13 : Int32) * (I0_j58 0)) + y58_3) + (1 : Int32))).toNatClampNeg v2)) ++ (wWX9 cB cI cZ a1 r1.2.1 r1.2.2)) := hD
          obtain ⟨M0_3, eM0_3, hf⟩ := wb_v hf
          rw [← eM0_3] at hP hD
          obtain ⟨v4, ev4, hf⟩ := wb_v hf
          refine lv_iinc (v := v4) (lv' := [(3, .int v4), (2, .int v2), (0, .ref (a0 0)), (1, .ref (a1 0))]) hx hb dX2_readRising_90 hl (k := 3) rfl (by rw [ev4]; rfl) (by decide) rfl (fun ls hl => ?_)
          refine lv_goto (tgt := 4) hx hb dX2_readRising_93 (by decide) ?_
          exact ih4 I0_j58 M0_3 r1.2.1 r1.2.2 v2 v4 H locs hP hD hS ls (lv_sub hl [2, 3, 1, 0] rfl) hf
        · replace hf := wb_t hc hf
          refine lv_iconst (v := (0 : Int32)) hx hb dX2_readRising_64 (by decide) ?_
          exact W.zret (v := (0 : Int32)) hx hb hr (by decide) (fun t ht hW => by rw [← Option.some.inj hf]; exact ⟨⟨(0 : Int32), (), rfl, rfl, by rw [ht]; exact hP, va_K.moved hW.alike hK, hD⟩, hS.F ht⟩) hS.2.2 dX2_readRising_65
      have J46 : ∀ (I0_j46 : Nat → Int32) (M0_j46 : Nat → Nat → Int32) (I1_j46 : Nat → Int32) (M1_j46 : Nat → Nat → Int32) (y46_2 : Int32) (y46_3 : Int32) (y46_4 : Int32) (y46_5 : Int32) (z46_0 : Int32) (H : Heap) (locs : List Loc), va_P D vwCl ((wWX2 cB cI cZ a0 I0_j46 M0_j46) ++ (wWX9 cB cI cZ a1 I1_j46 M1_j46)) H → va_D A ((wWX2 cB cI cZ a0 I0_j46 M0_j46) ++ (wWX9 cB cI cZ a1 I1_j46 M1_j46)) → va_S A s.heap H locs → ∀ (ls : Array Slot), lv_has ls 6 [(0, .ref (a0 0)), (1, .ref (a1 0)), (2, .int y46_2), (3, .int y46_3), (4, .int y46_4), (5, .int y46_5)] → fX2_readRising_J46 N (fX2_readRising_L4 N fu4) I0_j46 M0_j46 I1_j46 M1_j46 y46_2 y46_3 y46_4 y46_5 z46_0 = some R → W p l e (headSpec wsX2_readRising { frames := 3, cells := 0, slots := 0, locals := 65 }).room s m [.ref (a0 0), .ref (a1 0)].toArray below meth c H locs 0 0 (MQ below (va_Qi (fun r (_ : Unit) => r = R.1) (fun _ t => wb_post D [(cB, .byte), (cI, .int), (cZ, .boolean)] A ((wWX2 cB cI cZ a0 R.2.1 R.2.2.1) ++ (wWX9 cB cI cZ a1 R.2.2.2.1 R.2.2.2.2)) t) A) [.ref (a0 0), .ref (a1 0)].toArray s 0 0 A) (F0 m 46 ls [.int z46_0, .ref (a1 0)]) := by
        intro I0_j46 M0_j46 I1_j46 M1_j46 y46_2 y46_3 y46_4 y46_5 z46_0 H locs hP hD hS ls hl hf
        unfold fX2_readRising_J46 at hf
        refine lv_iload hx hb dX2_readRising_46 (lv_at hl 5 rfl) ?_
        refine lv_if_eq (tgt := 56) hx hb dX2_readRising_48 (by decide) (fun hc => ?_) (fun hc => ?_)
        · replace hf := wb_t hc hf
          refine lv_ldc (v := (9999999 : Int32)) hx hb hown (hts (.constant RX2 52 (9999999)) (List.mem_of_getElem? (i := 5) rfl)) dX2_readRising_56 ?_
          exact J58 I0_j46 M0_j46 I1_j46 M1_j46 y46_2 y46_3 (9999999 : Int32) z46_0 H locs hP hD hS ls (lv_sub hl [0, 1, 2, 3] rfl) hf
        · replace hf := wb_f hc hf
          refine lv_iload hx hb dX2_readRising_51 (lv_at hl 4 rfl) ?_
          refine lv_goto (tgt := 58) hx hb dX2_readRising_53 (by decide) ?_
          exact J58 I0_j46 M0_j46 I1_j46 M1_j46 y46_2 y46_3 y46_4 z46_0 H locs hP hD hS ls (lv_sub hl [0, 1, 2, 3] rfl) hf
      have J28 : ∀ (I0_j28 : Nat → Int32) (M0_j28 : Nat → Nat → Int32) (I1_j28 : Nat → Int32) (M1_j28 : Nat → Nat → Int32) (y28_2 : Int32) (y28_3 : Int32) (y28_4 : Int32) (z28_0 : Int32) (H : Heap) (locs : List Loc), va_P D vwCl ((wWX2 cB cI cZ a0 I0_j28 M0_j28) ++ (wWX9 cB cI cZ a1 I1_j28 M1_j28)) H → va_D A ((wWX2 cB cI cZ a0 I0_j28 M0_j28) ++ (wWX9 cB cI cZ a1 I1_j28 M1_j28)) → va_S A s.heap H locs → ∀ (ls : Array Slot), lv_has ls 6 [(0, .ref (a0 0)), (1, .ref (a1 0)), (2, .int y28_2), (3, .int y28_3), (4, .int y28_4)] → fX2_readRising_J28 N (fX2_readRising_L4 N fu4) I0_j28 M0_j28 I1_j28 M1_j28 y28_2 y28_3 y28_4 z28_0 = some R → W p l e (headSpec wsX2_readRising { frames := 3, cells := 0, slots := 0, locals := 65 }).room s m [.ref (a0 0), .ref (a1 0)].toArray below meth c H locs 0 0 (MQ below (va_Qi (fun r (_ : Unit) => r = R.1) (fun _ t => wb_post D [(cB, .byte), (cI, .int), (cZ, .boolean)] A ((wWX2 cB cI cZ a0 R.2.1 R.2.2.1) ++ (wWX9 cB cI cZ a1 R.2.2.2.1 R.2.2.2.2)) t) A) [.ref (a0 0), .ref (a1 0)].toArray s 0 0 A) (F0 m 28 ls [.int z28_0]) := by
        intro I0_j28 M0_j28 I1_j28 M1_j28 y28_2 y28_3 y28_4 z28_0 H locs hP hD hS ls hl hf
        unfold fX2_readRising_J28 at hf
        refine lv_istore (lv' := [(5, .int z28_0), (0, .ref (a0 0)), (1, .ref (a1 0)), (2, .int y28_2), (3, .int y28_3), (4, .int y28_4)]) hx hb dX2_readRising_28 hl (by decide) rfl (fun ls hl => ?_)
        refine lv_aload_n hx hb dX2_readRising_30 rfl (lv_at hl 2 rfl) ?_
        refine lv_iload hx hb dX2_readRising_31 (lv_at hl 0 rfl) ?_
        refine lv_if_eq (tgt := 45) hx hb dX2_readRising_33 (by decide) (fun hc => ?_) (fun hc => ?_)
        · replace hf := wb_t hc hf
          refine lv_iconst (v := (1 : Int32)) hx hb dX2_readRising_45 (by decide) ?_
          exact J46 I0_j28 M0_j28 I1_j28 M1_j28 y28_2 y28_3 y28_4 z28_0 (1 : Int32) H locs hP hD hS ls (lv_sub hl [1, 2, 3, 4, 5, 0] rfl) hf
        · replace hf := wb_f hc hf
          refine lv_iconst (v := (1 : Int32)) hx hb dX2_readRising_36 (by decide) ?_
          refine lv_iload hx hb dX2_readRising_37 (lv_at hl 5 rfl) ?_
          refine va_mmax hx hb (hml.trans hl.1.symm) hown (hts (.methodLink RX2 46 Lib.Math.max.name) (List.mem_of_getElem? (i := 1) rfl)) (hts (.static Lib.Math.max.name) (List.mem_of_getElem? (i := 2) rfl)) (hts (.initialized "java/lang/Math") (List.mem_of_getElem? (i := 3) rfl)) (hts (.code Lib.Math.max.name Lib.Math.max.code 2 (some .int)) (List.mem_of_getElem? (i := 4) rfl)) (Nat.le_of_ble_eq_true rfl) (Nat.le_of_ble_eq_true rfl) (Nat.zero_le _) (Nat.zero_le _) dX2_readRising_39 ?_
          refine lv_goto (tgt := 46) hx hb dX2_readRising_42 (by decide) ?_
          exact J46 I0_j28 M0_j28 I1_j28 M1_j28 y28_2 y28_3 y28_4 z28_0 (if (1 : Int32) < y28_4 then y28_4 else (1 : Int32)) H locs hP hD hS ls (lv_sub hl [1, 2, 3, 4, 5, 0] rfl) hf
      intro I0_l4 M0_l4 I1_l4 M1_l4 y4_2 y4_3 H locs hP hD hS ls hl hf
      rw [fX2_readRising_L4.eq_2] at hf
      refine lv_iload_n hx hb dX2_readRising_4 rfl (lv_at hl 3 rfl) ?_
      refine lv_bipush (v := (12 : Int32)) hx hb dX2_readRising_5 (by decide) ?_
      refine lv_icmp_ge (tgt := 96) hx hb dX2_readRising_7 (by decide) (fun hc => ?_) (fun hc => ?_)
      · replace hf := wb_t hc hf
        refine lv_iconst (v := (1 : Int32)) hx hb dX2_readRising_96 (by decide) ?_
        exact W.zret (v := (1 : Int32)) hx hb hr (by decide) (fun t ht hW => by rw [← Option.some.inj hf]; exact ⟨⟨(1 : Int32), (), rfl, rfl, by rw [ht]; exact hP, va_K.moved hW.alike hK, hD⟩, hS.F ht⟩) hS.2.2 dX2_readRising_97
      · replace hf := wb_f hc hf
        refine lv_sipush (v := (3600 : Int32)) hx hb dX2_readRising_10 (by decide) ?_
        refine lv_iload_n hx hb dX2_readRising_13 rfl (lv_at hl 2 rfl) ?_
        refine lv_isub hx hb dX2_readRising_14 ?_
        obtain ⟨v5, ev5, hf⟩ := wb_v hf
        refine wb_topi ev5 ?_
        refine lv_istore (lv' := [(4, .int v5), (0, .ref (a0 0)), (1, .ref (a1 0)), (2, .int y4_2), (3, .int y4_3)]) hx hb dX2_readRising_15 hl (by decide) rfl (fun ls hl => ?_)
        refine lv_iload_n hx hb dX2_readRising_17 rfl (lv_at hl 4 rfl) ?_
        refine lv_bipush (v := (11 : Int32)) hx hb dX2_readRising_18 (by decide) ?_
        refine lv_icmp_ne (tgt := 27) hx hb dX2_readRising_20 (by decide) (fun hc => ?_) (fun hc => ?_)
        · replace hf := wb_f hc hf
          refine lv_iconst (v := (0 : Int32)) hx hb dX2_readRising_27 (by decide) ?_
          exact J28 I0_l4 M0_l4 I1_l4 M1_l4 y4_2 y4_3 v5 (0 : Int32) H locs hP hD hS ls (lv_sub hl [1, 2, 3, 4, 0] rfl) hf
        · replace hf := wb_t hc hf
          refine lv_iconst (v := (1 : Int32)) hx hb dX2_readRising_23 (by decide) ?_
          refine lv_goto (tgt := 28) hx hb dX2_readRising_24 (by decide) ?_
          exact J28 I0_l4 M0_l4 I1_l4 M1_l4 y4_2 y4_3 v5 (1 : Int32) H locs hP hD hS ls (lv_sub hl [1, 2, 3, 4, 0] rfl) hf
  exact L4 N I0 M0 I1 M1 (0 : Int32) (0 : Int32) H locs hP hD hS ls (lv_sub hl [2, 3, 1, 0] rfl) hf

set_option maxHeartbeats 4000000 in
set_option maxRecDepth 100000 in
theorem cn_X2_readClimate (l : Launch) (D : va_G) (cB cI cZ : ClassId) (N : Nat) (a0 : Nat → Nat) (I0 : Nat → Int32) (M0 : Nat → Nat → Int32) (a1 : Nat → Nat) (I1 : Nat → Int32) (M1 : Nat → Nat → Int32) (sz : Nat) (R : Int32 × (Nat → Int32) × (Nat → Nat → Int32) × (Nat → Int32) × (Nat → Nat → Int32)) (hf : fX2_readClimate N I0 M0 I1 M1 = some R) : Met l yX2_readClimate wsX2_readClimate ({ frames := 4, cells := 0, slots := 0, locals := 90 }) (va_Pc [.ref (a0 0), .ref (a1 0)] (wb_preD D [(cB, .byte), (cI, .int), (cZ, .boolean)] ((wWX2 cB cI cZ a0 I0 M0) ++ (wWX9 cB cI cZ a1 I1 M1)) sz)) (va_Qi (fun r (_ : Unit) => r = R.1) (fun _ t => wb_post D [(cB, .byte), (cI, .int), (cZ, .boolean)] (va_A ((wWX2 cB cI cZ a0 I0 M0) ++ (wWX9 cB cI cZ a1 I1 M1)) sz) ((wWX2 cB cI cZ a0 R.2.1 R.2.2.1) ++ (wWX9 cB cI cZ a1 R.2.2.2.1 R.2.2.2.2)) t) (va_A ((wWX2 cB cI cZ a0 I0 M0) ++ (wWX9 cB cI cZ a1 I1 M1)) sz)) 0 0 (va_A ((wWX2 cB cI cZ a0 I0 M0) ++ (wWX9 cB cI cZ a1 I1 M1)) sz) := by
  refine Met.ofW (cc := cX2_readClimate) (maxL := 2) (ret := (some .boolean)) (by decide) rfl ?_
  intro p e s m args below meth c s₁ B hml hv
  obtain ⟨rfl, hsz, hP, hK, hD0⟩ := hv
  have hx := B.exec
  have hb := B.bytes
  have hr := B.returns
  have hts := atoms_spec (ws := wsX2_readClimate) B.pre
  have hown : s.vm.findClass RX2 = some m.cls := findClass_of_methodNamed B.named
  have hlocks := B.notSynchronized
  have hinX2 : ∀ w ∈ u_ws RX2 TX2 2, w ∈ wsX2_readClimate := fun w h => List.mem_cons_of_mem _ (List.mem_append_left _ (List.mem_append_right _ h))
  subst hsz
  have hD := hD0.self (sz := s.heap.size)
  generalize hAe : va_A ((wWX2 cB cI cZ a0 I0 M0) ++ (wWX9 cB cI cZ a1 I1 M1)) s.heap.size = A at hD ⊢
  have hA : ∀ q : Nat, s.heap.size ≤ q → A q := fun q h => by rw [← hAe]; exact Or.inr h
  have hS : va_S A s.heap s.heap [] := va_S.rf
  have hl := lv_entry ([.ref (a0 0), .ref (a1 0)]) (n := 2) (Nat.le_of_ble_eq_true rfl)
  rw [lg_entry_eq]
  generalize (lg_sl ([.ref (a0 0), .ref (a1 0)]) ++ List.replicate (2 - (lg_sl ([.ref (a0 0), .ref (a1 0)])).length) Slot.unset).toArray = ls at hl ⊢
  have hl : lv_has ls 2 [(0, .ref (a0 0)), (1, .ref (a1 0))] := hl
  unfold fX2_readClimate at hf
  obtain ⟨H, hHe⟩ : ∃ H : Heap, H = s.heap := ⟨_, rfl⟩
  obtain ⟨locs, hle⟩ : ∃ locs : List Loc, locs = [] := ⟨_, rfl⟩
  refine wb_start (H := H) (locs := locs) hHe hle ?_
  rw [← hHe] at hP
  have hS : va_S A s.heap H locs := by rw [hHe, hle]; exact va_S.rf
  refine lv_aload_n hx hb dX2_readClimate_0 rfl (lv_at hl 0 rfl) ?_
  refine va_get (D := D) (ci := 2) (v := .int (I0 0)) (C := RX2) (T := TX2) (N := 2) hx hb hts hinX2 hown hK hP 0 rfl rfl 1 (by decide) (hts (.fieldLink RX2 21 "WheelBook$Climates" "many" "I") (List.mem_of_getElem? (i := 1) rfl)) (fun _ h9 => h9) rfl dX2_readClimate_1 ?_
  refine lv_bipush (v := (7 : Int32)) hx hb dX2_readClimate_4 (by decide) ?_
  refine lv_icmp_lt (tgt := 15) hx hb dX2_readClimate_6 (by decide) (fun hc => ?_) (fun hc => ?_)
  · replace hf := wb_t hc hf
    refine lv_aload_n hx hb dX2_readClimate_15 rfl (lv_at hl 1 rfl) ?_
    obtain ⟨r1, hr1, hf⟩ := wb_b hf
    have hPc := hP.sub (ws' := (wWX9 cB cI cZ a1 I1 M1)) [2, 3] rfl
    have hDc := hD.sub (ws' := (wWX9 cB cI cZ a1 I1 M1)) [2, 3] (by decide) rfl
    have hFc := va_free (wc := (wWX9 cB cI cZ a1 I1 M1)) hD hS hA [2, 3] rfl
    refine va_callv (va_runV (As := []) (rest := []) ⟨hx, hb, hml, hown, hts⟩ (cn_X9_step l D cB cI cZ N a1 I1 M1 H.size r1 hr1) (cwV 0 hts gX2_readClimate_X9_step rfl rfl rfl cdX9_step ⟨Nat.le_of_ble_eq_true rfl, Nat.le_of_ble_eq_true rfl⟩) (wb_preDV hPc hK hDc (va_recv hK hP (ci := 9) (q0 := 2) rfl rfl)) rfl rfl hl.1 rfl (lv_room (Nat.le_of_ble_eq_true rfl)) dX2_readClimate_16 ⟨Nat.le_of_ble_eq_true rfl, Nat.le_of_ble_eq_true rfl⟩) hS (fun q _ h => hFc q h) hFc (fun u t H locs ht hvm hw hB hz1 hk1 hS => ?_)
    obtain ⟨hP, hD⟩ := wb_join (wc := (wWX9 cB cI cZ a1 I1 M1)) (w1 := (wWX9 cB cI cZ a1 r1.1 r1.2)) (wf := ((wWX2 cB cI cZ a0 I0 M0) ++ (wWX9 cB cI cZ a1 r1.1 r1.2))) hP hD [2, 3] [0, 1] [0, 1, 2, 3] rfl rfl (by decide) (by decide) (by decide) rfl hk1 hFc ht hB
    refine lv_aload_n hx hb dX2_readClimate_19 rfl (lv_at hl 1 rfl) ?_
    refine lv_aload_n hx hb dX2_readClimate_20 rfl (lv_at hl 0 rfl) ?_
    refine va_get (D := D) (ci := 2) (v := .int (I0 0)) (C := RX2) (T := TX2) (N := 2) hx hb hts hinX2 hown hK hP 0 rfl rfl 1 (by decide) (hts (.fieldLink RX2 21 "WheelBook$Climates" "many" "I") (List.mem_of_getElem? (i := 1) rfl)) (fun _ h9 => h9) rfl dX2_readClimate_21 ?_
    refine lv_aload_n hx hb dX2_readClimate_24 rfl (lv_at hl 0 rfl) ?_
    refine va_get (D := D) (ci := 2) (v := .int (I0 0)) (C := RX2) (T := TX2) (N := 2) hx hb hts hinX2 hown hK hP 0 rfl rfl 1 (by decide) (hts (.fieldLink RX2 21 "WheelBook$Climates" "many" "I") (List.mem_of_getElem? (i := 1) rfl)) (fun _ h9 => h9) rfl dX2_readClimate_25 ?_
    obtain ⟨r2, hr2, hf⟩ := wb_b hf
    have hPc := hP.sub (ws' := (wWX9 cB cI cZ a1 r1.1 r1.2)) [2, 3] rfl
    have hDc := hD.sub (ws' := (wWX9 cB cI cZ a1 r1.1 r1.2)) [2, 3] (by decide) rfl
    have hFc := va_free (wc := (wWX9 cB cI cZ a1 r1.1 r1.2)) hD hS hA [2, 3] rfl
    refine va_calli (va_runV (As := [.int (I0 0), .int (I0 0)]) (rest := []) ⟨hx, hb, hml, hown, hts⟩ (cn_X9_takeNumber l D cB cI cZ N a1 r1.1 r1.2 (I0 0) (I0 0) H.size r2 hr2) (cwV 2 hts gX2_readClimate_X9_takeNumber rfl rfl rfl cdX9_takeNumber ⟨Nat.le_of_ble_eq_true rfl, Nat.le_of_ble_eq_true rfl⟩) (wb_preDV hPc hK hDc (va_recv hK hP (ci := 9) (q0 := 2) rfl rfl)) rfl rfl hl.1 rfl (lv_room (Nat.le_of_ble_eq_true rfl)) dX2_readClimate_28 ⟨Nat.le_of_ble_eq_true rfl, Nat.le_of_ble_eq_true rfl⟩) hS (fun q _ h => hFc q h) hFc (fun r9 u t H locs ht hvm hw hB hz1 hk1 hS => ?_)
    obtain ⟨hP, hD⟩ := wb_join (wc := (wWX9 cB cI cZ a1 r1.1 r1.2)) (w1 := (wWX9 cB cI cZ a1 r2.2.1 r2.2.2)) (wf := ((wWX2 cB cI cZ a0 I0 M0) ++ (wWX9 cB cI cZ a1 r2.2.1 r2.2.2))) hP hD [2, 3] [0, 1] [0, 1, 2, 3] rfl rfl (by decide) (by decide) (by decide) rfl hk1 hFc ht hB
    rw [hw]
    refine lv_if_eq (tgt := 42) hx hb dX2_readClimate_31 (by decide) (fun hc => ?_) (fun hc => ?_)
    · replace hf := wb_t hc hf
      refine lv_iconst (v := (0 : Int32)) hx hb dX2_readClimate_42 (by decide) ?_
      exact W.zret (v := (0 : Int32)) hx hb hr (by decide) (fun t ht hW => by rw [← Option.some.inj hf]; exact ⟨⟨(0 : Int32), (), rfl, rfl, by rw [ht]; exact hP, va_K.moved hW.alike hK, hD⟩, hS.F ht⟩) hS.2.2 dX2_readClimate_43
    · replace hf := wb_f hc hf
      refine lv_aload_n hx hb dX2_readClimate_34 rfl (lv_at hl 0 rfl) ?_
      refine lv_aload_n hx hb dX2_readClimate_35 rfl (lv_at hl 1 rfl) ?_
      obtain ⟨r3, hr3, hf⟩ := wb_b hf
      have hPc := hP.sub (ws' := ((wWX2 cB cI cZ a0 I0 M0) ++ (wWX9 cB cI cZ a1 r2.2.1 r2.2.2))) [0, 1, 2, 3] rfl
      have hDc := hD.sub (ws' := ((wWX2 cB cI cZ a0 I0 M0) ++ (wWX9 cB cI cZ a1 r2.2.1 r2.2.2))) [0, 1, 2, 3] (by decide) rfl
      have hFc := va_free (wc := ((wWX2 cB cI cZ a0 I0 M0) ++ (wWX9 cB cI cZ a1 r2.2.1 r2.2.2))) hD hS hA [0, 1, 2, 3] rfl
      refine va_calli (va_runV (As := [.ref (a1 0)]) (rest := []) ⟨hx, hb, hml, hown, hts⟩ (cn_X2_readRising l D cB cI cZ N a0 I0 M0 a1 r2.2.1 r2.2.2 H.size r3 hr3) (cwV 1 hts gX2_readClimate_X2_readRising rfl rfl rfl cdX2_readRising ⟨Nat.le_of_ble_eq_true rfl, Nat.le_of_ble_eq_true rfl⟩) (wb_preDV hPc hK hDc (va_recv hK hP (ci := 2) (q0 := 0) rfl rfl)) rfl rfl hl.1 rfl (lv_room (Nat.le_of_ble_eq_true rfl)) dX2_readClimate_36 ⟨Nat.le_of_ble_eq_true rfl, Nat.le_of_ble_eq_true rfl⟩) hS (fun q _ h => hFc q h) hFc (fun r9 u t H locs ht hvm hw hB hz1 hk1 hS => ?_)
      obtain ⟨hP, hD⟩ := wb_join (wc := ((wWX2 cB cI cZ a0 I0 M0) ++ (wWX9 cB cI cZ a1 r2.2.1 r2.2.2))) (w1 := ((wWX2 cB cI cZ a0 r3.2.1 r3.2.2.1) ++ (wWX9 cB cI cZ a1 r3.2.2.2.1 r3.2.2.2.2))) (wf := ((wWX2 cB cI cZ a0 r3.2.1 r3.2.2.1) ++ (wWX9 cB cI cZ a1 r3.2.2.2.1 r3.2.2.2.2))) hP hD [0, 1, 2, 3] [] [0, 1, 2, 3] rfl rfl (by decide) (by decide) (by decide) rfl hk1 hFc ht hB
      rw [hw]
      refine lv_if_ne (tgt := 44) hx hb dX2_readClimate_39 (by decide) (fun hc => ?_) (fun hc => ?_)
      · replace hf := wb_f hc hf
        refine lv_aload_n hx hb dX2_readClimate_44 rfl (lv_at hl 0 rfl) ?_
        refine lv_dup hx hb dX2_readClimate_45 rfl ?_
        refine va_get (D := D) (ci := 2) (v := .int (r3.2.1 0)) (C := RX2) (T := TX2) (N := 2) hx hb hts hinX2 hown hK hP 0 rfl rfl 1 (by decide) (hts (.fieldLink RX2 21 "WheelBook$Climates" "many" "I") (List.mem_of_getElem? (i := 1) rfl)) (fun _ h9 => h9) rfl dX2_readClimate_46 ?_
        refine lv_iconst (v := (1 : Int32)) hx hb dX2_readClimate_49 (by decide) ?_
        refine lv_iadd hx hb dX2_readClimate_50 ?_
        refine va_put (D := D) (ci := 2) (v := .int ((r3.2.1 0) + (1 : Int32))) (ty := .int) (C := RX2) (T := TX2) (N := 2) hx hb hts hinX2 tyX2 tyX2_ok nmX2 hown hK hP hD hS 0 rfl rfl 1 (by decide) (hts (.fieldLink RX2 21 "WheelBook$Climates" "many" "I") (List.mem_of_getElem? (i := 1) rfl)) (fun _ h9 => h9) rfl (by decide +kernel) rfl rfl (Nat.le_of_ble_eq_true rfl) dX2_readClimate_51 (fun H locs hP hD hS => ?_)
        have hP : va_P D vwCl ((wWX2 cB cI cZ a0 (upd r3.2.1 0 ((r3.2.1 0) + (1 : Int32))) r3.2.2.1) ++ (wWX9 cB cI cZ a1 r3.2.2.2.1 r3.2.2.2.2)) H := hP
        have hD : va_D A ((wWX2 cB cI cZ a0 (upd r3.2.1 0 ((r3.2.1 0) + (1 : Int32))) r3.2.2.1) ++ (wWX9 cB cI cZ a1 r3.2.2.2.1 r3.2.2.2.2)) := hD
        obtain ⟨I0_4, eI0_4, hf⟩ := wb_v hf
        rw [← eI0_4] at hP hD
        refine lv_aload_n hx hb dX2_readClimate_54 rfl (lv_at hl 1 rfl) ?_
        obtain ⟨r5, hr5, hf⟩ := wb_b hf
        have hPc := hP.sub (ws' := (wWX9 cB cI cZ a1 r3.2.2.2.1 r3.2.2.2.2)) [2, 3] rfl
        have hDc := hD.sub (ws' := (wWX9 cB cI cZ a1 r3.2.2.2.1 r3.2.2.2.2)) [2, 3] (by decide) rfl
        have hFc := va_free (wc := (wWX9 cB cI cZ a1 r3.2.2.2.1 r3.2.2.2.2)) hD hS hA [2, 3] rfl
        refine va_calli (va_runV (As := []) (rest := []) ⟨hx, hb, hml, hown, hts⟩ (cn_X9_takeStop l D cB cI cZ N a1 r3.2.2.2.1 r3.2.2.2.2 H.size r5 hr5) (cwV 0 hts gX2_readClimate_X9_takeStop rfl rfl rfl cdX9_takeStop ⟨Nat.le_of_ble_eq_true rfl, Nat.le_of_ble_eq_true rfl⟩) (wb_preDV hPc hK hDc (va_recv hK hP (ci := 9) (q0 := 2) rfl rfl)) rfl rfl hl.1 rfl (lv_room (Nat.le_of_ble_eq_true rfl)) dX2_readClimate_55 ⟨Nat.le_of_ble_eq_true rfl, Nat.le_of_ble_eq_true rfl⟩) hS (fun q _ h => hFc q h) hFc (fun r9 u t H locs ht hvm hw hB hz1 hk1 hS => ?_)
        obtain ⟨hP, hD⟩ := wb_join (wc := (wWX9 cB cI cZ a1 r3.2.2.2.1 r3.2.2.2.2)) (w1 := (wWX9 cB cI cZ a1 r5.2.1 r5.2.2)) (wf := ((wWX2 cB cI cZ a0 I0_4 r3.2.2.1) ++ (wWX9 cB cI cZ a1 r5.2.1 r5.2.2))) hP hD [2, 3] [0, 1] [0, 1, 2, 3] rfl rfl (by decide) (by decide) (by decide) rfl hk1 hFc ht hB
        rw [hw]
        obtain ⟨hz, hf⟩ := wb_y hf
        exact W.zret (v := r5.1) hx hb hr (congrArg Value.int hz) (fun t ht hW => by rw [← Option.some.inj hf]; exact ⟨⟨r5.1, (), rfl, rfl, by rw [ht]; exact hP, va_K.moved hW.alike hK, hD⟩, hS.F ht⟩) hS.2.2 dX2_readClimate_58
      · replace hf := wb_t hc hf
        refine lv_iconst (v := (0 : Int32)) hx hb dX2_readClimate_42 (by decide) ?_
        exact W.zret (v := (0 : Int32)) hx hb hr (by decide) (fun t ht hW => by rw [← Option.some.inj hf]; exact ⟨⟨(0 : Int32), (), rfl, rfl, by rw [ht]; exact hP, va_K.moved hW.alike hK, hD⟩, hS.F ht⟩) hS.2.2 dX2_readClimate_43
  · replace hf := wb_f hc hf
    refine lv_aload_n hx hb dX2_readClimate_9 rfl (lv_at hl 1 rfl) ?_
    refine lv_iconst (v := (2 : Int32)) hx hb dX2_readClimate_10 (by decide) ?_
    obtain ⟨r6, hr6, hf⟩ := wb_b hf
    have hPc := hP.sub (ws' := (wWX9 cB cI cZ a1 I1 M1)) [2, 3] rfl
    have hDc := hD.sub (ws' := (wWX9 cB cI cZ a1 I1 M1)) [2, 3] (by decide) rfl
    have hFc := va_free (wc := (wWX9 cB cI cZ a1 I1 M1)) hD hS hA [2, 3] rfl
    refine va_calli (va_runV (As := [.int (2 : Int32)]) (rest := []) ⟨hx, hb, hml, hown, hts⟩ (cn_X9_refuse l D cB cI cZ N a1 I1 M1 (2 : Int32) H.size r6 hr6) (cwV 1 hts gX2_readClimate_X9_refuse rfl rfl rfl cdX9_refuse ⟨Nat.le_of_ble_eq_true rfl, Nat.le_of_ble_eq_true rfl⟩) (wb_preDV hPc hK hDc (va_recv hK hP (ci := 9) (q0 := 2) rfl rfl)) rfl rfl hl.1 rfl (lv_room (Nat.le_of_ble_eq_true rfl)) dX2_readClimate_11 ⟨Nat.le_of_ble_eq_true rfl, Nat.le_of_ble_eq_true rfl⟩) hS (fun q _ h => hFc q h) hFc (fun r9 u t H locs ht hvm hw hB hz1 hk1 hS => ?_)
    obtain ⟨hP, hD⟩ := wb_join (wc := (wWX9 cB cI cZ a1 I1 M1)) (w1 := (wWX9 cB cI cZ a1 r6.2.1 r6.2.2)) (wf := ((wWX2 cB cI cZ a0 I0 M0) ++ (wWX9 cB cI cZ a1 r6.2.1 r6.2.2))) hP hD [2, 3] [0, 1] [0, 1, 2, 3] rfl rfl (by decide) (by decide) (by decide) rfl hk1 hFc ht hB
    rw [hw]
    obtain ⟨hz, hf⟩ := wb_y hf
    exact W.zret (v := r6.1) hx hb hr (congrArg Value.int hz) (fun t ht hW => by rw [← Option.some.inj hf]; exact ⟨⟨r6.1, (), rfl, rfl, by rw [ht]; exact hP, va_K.moved hW.alike hK, hD⟩, hS.F ht⟩) hS.2.2 dX2_readClimate_14

set_option maxHeartbeats 4000000 in
set_option maxRecDepth 100000 in
theorem cn_X9_namedOf (l : Launch) (D : va_G) (cB cI cZ : ClassId) (N : Nat) (aK aV : Nat → Nat) (a0 : Nat → Nat) (I0 : Nat → Int32) (M0 : Nat → Nat → Int32) (x1 : Int32) (R : Int32) (hf : fX9_namedOf N I0 M0 x1 = some R) : Met l yX9_namedOf wsX9_namedOf ({ frames := 5, cells := 0, slots := 0, locals := 143 }) (va_Pc [.ref (a0 0), .int x1] (wb_preE D [(cB, .byte), (cI, .int), (cZ, .boolean)] (wWX9 cB cI cZ a0 I0 M0) aK aV)) (vp_Si (fun r => r = R)) 0 0 (fun _ => False) := by
  refine Met.ofW (cc := cX9_namedOf) (maxL := 3) (ret := (some .int)) (by decide) rfl ?_
  intro p e s m args below meth c s₁ B hml hv
  obtain ⟨rfl, ⟨hP, hK⟩, hZ⟩ := hv
  have hZ : wb_Z aK aV (fun _ => False) s s.heap := hZ
  have hSZ : va_S (fun _ : Nat => False) s.heap s.heap [] := va_S.rf
  have hx := B.exec
  have hb := B.bytes
  have hr := B.returns
  have hts := atoms_spec (ws := wsX9_namedOf) B.pre
  have hown : s.vm.findClass RX9 = some m.cls := findClass_of_methodNamed B.named
  have hlocks := B.notSynchronized
  have hl := lv_entry ([.ref (a0 0), .int x1]) (n := 3) (Nat.le_of_ble_eq_true rfl)
  rw [lg_entry_eq]
  generalize (lg_sl ([.ref (a0 0), .int x1]) ++ List.replicate (3 - (lg_sl ([.ref (a0 0), .int x1])).length) Slot.unset).toArray = ls at hl ⊢
  have hl : lv_has ls 3 [(0, .ref (a0 0)), (1, .int x1)] := hl
  unfold fX9_namedOf at hf
  refine lv_iconst (v := (0 : Int32)) hx hb dX9_namedOf_0 (by decide) ?_
  refine lv_istore_n (lv' := [(2, .int (0 : Int32)), (0, .ref (a0 0)), (1, .int x1)]) hx hb dX9_namedOf_1 rfl hl (by decide) rfl (fun ls hl => ?_)
  have L2 : ∀ (fu2 : Nat) (y2_2 : Int32), ∀ (ls : Array Slot), lv_has ls 3 [(0, .ref (a0 0)), (1, .int x1), (2, .int y2_2)] → fX9_namedOf_L2 N I0 M0 x1 fu2 y2_2 = some R → W p l e (headSpec wsX9_namedOf { frames := 5, cells := 0, slots := 0, locals := 143 }).room s m [.ref (a0 0), .int x1].toArray below meth c s.heap [] 0 0 (MQ below (vp_Si (fun r => r = R)) [.ref (a0 0), .int x1].toArray s 0 0 (fun _ => False)) (F0 m 2 ls []) := by
    intro fu2
    induction fu2 with
    | zero =>
      intro y2_2 ls hl hf
      exact absurd hf (by rw [fX9_namedOf_L2.eq_1]; exact fun h => nomatch h)
    | succ fu2 ih2 =>
      intro y2_2 ls hl hf
      rw [fX9_namedOf_L2.eq_2] at hf
      refine lv_iload_n hx hb dX9_namedOf_2 rfl (lv_at hl 2 rfl) ?_
      refine lv_iload_n hx hb dX9_namedOf_3 rfl (lv_at hl 1 rfl) ?_
      refine lv_icmp_ge (tgt := 26) hx hb dX9_namedOf_4 (by decide) (fun hc => ?_) (fun hc => ?_)
      · replace hf := wb_t hc hf
        refine lv_iconst (v := (-1 : Int32)) hx hb dX9_namedOf_26 (by decide) ?_
        exact W.iret (v := (-1 : Int32)) hx hb hr (fun t ht hW => ⟨_, rfl, Option.some.inj hf, ht⟩) (fun _ h => nomatch h) dX9_namedOf_27
      · replace hf := wb_f hc hf
        refine lv_aload_n hx hb dX9_namedOf_7 rfl (lv_at hl 0 rfl) ?_
        refine lv_iload_n hx hb dX9_namedOf_8 rfl (lv_at hl 2 rfl) ?_
        refine va_csr (W.runS (As := [.int y2_2]) (rest := [.ref (a0 0)]) ⟨hx, hb, hml, hown, hts⟩ (cz_X9_nameOf l aK aV y2_2) (va_cwS 1 hts gX9_namedOf_X9_nameOf rfl rfl rfl csX9_nameOf ⟨Nat.le_of_ble_eq_true rfl, Nat.le_of_ble_eq_true rfl⟩) (wb_preZS hZ hSZ) rfl rfl hl.1 rfl (lv_room (Nat.le_of_ble_eq_true rfl)) dX9_namedOf_9 ⟨Nat.le_of_ble_eq_true rfl, Nat.le_of_ble_eq_true rfl⟩) (fun k9 e9 => ?_)
        rw [e9]
        obtain ⟨r1, hr1, hf⟩ := wb_b hf
        refine vp_callSi (W.runV (As := [.ref (aK (zN y2_2))]) (rest := []) ⟨hx, hb, hml, hown, hts⟩ (cn_X9_isWord l D cB cI cZ N aK aV a0 I0 M0 (zN y2_2) (zN_lt _) r1 hr1) (cwV 1 hts gX9_namedOf_X9_isWord rfl rfl rfl cdX9_isWord ⟨Nat.le_of_ble_eq_true rfl, Nat.le_of_ble_eq_true rfl⟩) (wb_preEV hP hK (va_recv hK hP (ci := 9) (q0 := 0) rfl rfl) hZ hSZ) rfl rfl hl.1 rfl (lv_room (Nat.le_of_ble_eq_true rfl)) dX9_namedOf_12 ⟨Nat.le_of_ble_eq_true rfl, Nat.le_of_ble_eq_true rfl⟩) (fun r9 e9 => ?_)
        rw [e9]
        refine lv_if_eq (tgt := 20) hx hb dX9_namedOf_15 (by decide) (fun hc => ?_) (fun hc => ?_)
        · replace hf := wb_t hc hf
          obtain ⟨v2, ev2, hf⟩ := wb_v hf
          refine lv_iinc (v := v2) (lv' := [(2, .int v2), (0, .ref (a0 0)), (1, .int x1)]) hx hb dX9_namedOf_20 hl (k := 2) rfl (by rw [ev2]; rfl) (by decide) rfl (fun ls hl => ?_)
          refine lv_goto (tgt := 2) hx hb dX9_namedOf_23 (by decide) ?_
          exact ih2 v2 ls (lv_sub hl [1, 2, 0] rfl) hf
        · replace hf := wb_f hc hf
          refine lv_iload_n hx hb dX9_namedOf_18 rfl (lv_at hl 2 rfl) ?_
          exact W.iret (v := y2_2) hx hb hr (fun t ht hW => ⟨_, rfl, Option.some.inj hf, ht⟩) (fun _ h => nomatch h) dX9_namedOf_19
  exact L2 N (0 : Int32) ls (lv_sub hl [1, 2, 0] rfl) hf

set_option maxHeartbeats 4000000 in
set_option maxRecDepth 100000 in
theorem cn_X5_readTable (l : Launch) (D : va_G) (cB cI cZ : ClassId) (N : Nat) (aK aV : Nat → Nat) (a0 : Nat → Nat) (I0 : Nat → Int32) (M0 : Nat → Nat → Int32) (a1 : Nat → Nat) (I1 : Nat → Int32) (M1 : Nat → Nat → Int32) (x2 : Int32) (sz : Nat) (R : Int32 × (Nat → Int32) × (Nat → Nat → Int32) × (Nat → Int32) × (Nat → Nat → Int32)) (hf : fX5_readTable N I0 M0 I1 M1 x2 = some R) : Met l yX5_readTable wsX5_readTable ({ frames := 6, cells := 0, slots := 0, locals := 164 }) (va_Pc [.ref (a0 0), .ref (a1 0), .int x2] (wb_preDE D [(cB, .byte), (cI, .int), (cZ, .boolean)] ((wWX5 cB cI cZ a0 I0 M0) ++ (wWX9 cB cI cZ a1 I1 M1)) sz aK aV)) (va_Qi (fun r (_ : Unit) => r = R.1) (fun _ t => wb_post D [(cB, .byte), (cI, .int), (cZ, .boolean)] (va_A ((wWX5 cB cI cZ a0 I0 M0) ++ (wWX9 cB cI cZ a1 I1 M1)) sz) ((wWX5 cB cI cZ a0 R.2.1 R.2.2.1) ++ (wWX9 cB cI cZ a1 R.2.2.2.1 R.2.2.2.2)) t) (va_A ((wWX5 cB cI cZ a0 I0 M0) ++ (wWX9 cB cI cZ a1 I1 M1)) sz)) 0 0 (va_A ((wWX5 cB cI cZ a0 I0 M0) ++ (wWX9 cB cI cZ a1 I1 M1)) sz) := by
  refine Met.ofW (cc := cX5_readTable) (maxL := 3) (ret := (some .boolean)) (by decide) rfl ?_
  intro p e s m args below meth c s₁ B hml hv
  obtain ⟨rfl, ⟨hsz, hP, hK, hD0⟩, hZ⟩ := hv
  have hx := B.exec
  have hb := B.bytes
  have hr := B.returns
  have hts := atoms_spec (ws := wsX5_readTable) B.pre
  have hown : s.vm.findClass RX5 = some m.cls := findClass_of_methodNamed B.named
  have hlocks := B.notSynchronized
  have hinX5 : ∀ w ∈ u_ws RX5 TX5 6, w ∈ wsX5_readTable := fun w h => List.mem_cons_of_mem _ (List.mem_append_left _ (List.mem_append_right _ h))
  have hinX9 : ∀ w ∈ u_ws RX9 TX9 10, w ∈ wsX5_readTable := fun w h => List.mem_cons_of_mem _ (List.mem_append_right _ h)
  subst hsz
  have hD := hD0.self (sz := s.heap.size)
  generalize hAe : va_A ((wWX5 cB cI cZ a0 I0 M0) ++ (wWX9 cB cI cZ a1 I1 M1)) s.heap.size = A at hD hZ ⊢
  have hA : ∀ q : Nat, s.heap.size ≤ q → A q := fun q h => by rw [← hAe]; exact Or.inr h
  have hS : va_S A s.heap s.heap [] := va_S.rf
  have hl := lv_entry ([.ref (a0 0), .ref (a1 0), .int x2]) (n := 3) (Nat.le_of_ble_eq_true rfl)
  rw [lg_entry_eq]
  generalize (lg_sl ([.ref (a0 0), .ref (a1 0), .int x2]) ++ List.replicate (3 - (lg_sl ([.ref (a0 0), .ref (a1 0), .int x2])).length) Slot.unset).toArray = ls at hl ⊢
  have hl : lv_has ls 3 [(0, .ref (a0 0)), (1, .ref (a1 0)), (2, .int x2)] := hl
  unfold fX5_readTable at hf
  obtain ⟨H, hHe⟩ : ∃ H : Heap, H = s.heap := ⟨_, rfl⟩
  obtain ⟨locs, hle⟩ : ∃ locs : List Loc, locs = [] := ⟨_, rfl⟩
  refine wb_start (H := H) (locs := locs) hHe hle ?_
  rw [← hHe] at hP
  have hS : va_S A s.heap H locs := by rw [hHe, hle]; exact va_S.rf
  refine lv_aload_n hx hb dX5_readTable_0 rfl (lv_at hl 1 rfl) ?_
  refine va_ldcS hx hb hown (hZ.2.1 6 (RX5, 109, "at") rfl) dX5_readTable_1 ?_
  obtain ⟨r1, hr1, hf⟩ := wb_b hf
  have hPc := hP.sub (ws' := (wWX9 cB cI cZ a1 I1 M1)) [9, 10] rfl
  have hDc := hD.sub (ws' := (wWX9 cB cI cZ a1 I1 M1)) [9, 10] (by decide) rfl
  have hFc := va_free (wc := (wWX9 cB cI cZ a1 I1 M1)) hD hS hA [9, 10] rfl
  refine va_calli (va_runV (As := [.ref (aK 6)]) (rest := []) ⟨hx, hb, hml, hown, hts⟩ (cn_X9_takeWord l D cB cI cZ N aK aV a1 I1 M1 6 (by decide) H.size r1 hr1) (cwV 1 hts gX5_readTable_X9_takeWord rfl rfl rfl cdX9_takeWord ⟨Nat.le_of_ble_eq_true rfl, Nat.le_of_ble_eq_true rfl⟩) (wb_preDEV hPc hK hDc (va_recv hK hP (ci := 9) (q0 := 9) rfl rfl) hZ hS hFc) rfl rfl hl.1 rfl (lv_room (Nat.le_of_ble_eq_true rfl)) dX5_readTable_3 ⟨Nat.le_of_ble_eq_true rfl, Nat.le_of_ble_eq_true rfl⟩) hS (fun q _ h => hFc q h) hFc (fun r9 u t H locs ht hvm hw hB hz1 hk1 hS => ?_)
  obtain ⟨hP, hD⟩ := wb_join (wc := (wWX9 cB cI cZ a1 I1 M1)) (w1 := (wWX9 cB cI cZ a1 r1.2.1 r1.2.2)) (wf := ((wWX5 cB cI cZ a0 I0 M0) ++ (wWX9 cB cI cZ a1 r1.2.1 r1.2.2))) hP hD [9, 10] [0, 1, 2, 3, 4, 5, 6, 7, 8] [0, 1, 2, 3, 4, 5, 6, 7, 8, 9, 10] rfl rfl (by decide) (by decide) (by decide) rfl hk1 hFc ht hB
  rw [hw]
  refine lv_if_eq (tgt := 20) hx hb dX5_readTable_6 (by decide) (fun hc => ?_) (fun hc => ?_)
  · replace hf := wb_t hc hf
    refine lv_iconst (v := (0 : Int32)) hx hb dX5_readTable_20 (by decide) ?_
    exact W.zret (v := (0 : Int32)) hx hb hr (by decide) (fun t ht hW => by rw [← Option.some.inj hf]; exact ⟨⟨(0 : Int32), (), rfl, rfl, by rw [ht]; exact hP, va_K.moved hW.alike hK, hD⟩, hS.F ht⟩) hS.2.2 dX5_readTable_21
  · replace hf := wb_f hc hf
    refine lv_aload_n hx hb dX5_readTable_9 rfl (lv_at hl 1 rfl) ?_
    refine lv_iconst (v := (0 : Int32)) hx hb dX5_readTable_10 (by decide) ?_
    refine lv_sipush (v := (21599 : Int32)) hx hb dX5_readTable_11 (by decide) ?_
    obtain ⟨r2, hr2, hf⟩ := wb_b hf
    have hPc := hP.sub (ws' := (wWX9 cB cI cZ a1 r1.2.1 r1.2.2)) [9, 10] rfl
    have hDc := hD.sub (ws' := (wWX9 cB cI cZ a1 r1.2.1 r1.2.2)) [9, 10] (by decide) rfl
    have hFc := va_free (wc := (wWX9 cB cI cZ a1 r1.2.1 r1.2.2)) hD hS hA [9, 10] rfl
    refine va_calli (va_runV (As := [.int (0 : Int32), .int (21599 : Int32)]) (rest := []) ⟨hx, hb, hml, hown, hts⟩ (cn_X9_takeNumber l D cB cI cZ N a1 r1.2.1 r1.2.2 (0 : Int32) (21599 : Int32) H.size r2 hr2) (cwV 2 hts gX5_readTable_X9_takeNumber rfl rfl rfl cdX9_takeNumber ⟨Nat.le_of_ble_eq_true rfl, Nat.le_of_ble_eq_true rfl⟩) (wb_preDV hPc hK hDc (va_recv hK hP (ci := 9) (q0 := 9) rfl rfl)) rfl rfl hl.1 rfl (lv_room (Nat.le_of_ble_eq_true rfl)) dX5_readTable_14 ⟨Nat.le_of_ble_eq_true rfl, Nat.le_of_ble_eq_true rfl⟩) hS (fun q _ h => hFc q h) hFc (fun r9 u t H locs ht hvm hw hB hz1 hk1 hS => ?_)
    obtain ⟨hP, hD⟩ := wb_join (wc := (wWX9 cB cI cZ a1 r1.2.1 r1.2.2)) (w1 := (wWX9 cB cI cZ a1 r2.2.1 r2.2.2)) (wf := ((wWX5 cB cI cZ a0 I0 M0) ++ (wWX9 cB cI cZ a1 r2.2.1 r2.2.2))) hP hD [9, 10] [0, 1, 2, 3, 4, 5, 6, 7, 8] [0, 1, 2, 3, 4, 5, 6, 7, 8, 9, 10] rfl rfl (by decide) (by decide) (by decide) rfl hk1 hFc ht hB
    rw [hw]
    refine lv_if_ne (tgt := 22) hx hb dX5_readTable_17 (by decide) (fun hc => ?_) (fun hc => ?_)
    · replace hf := wb_f hc hf
      refine lv_aload_n hx hb dX5_readTable_22 rfl (lv_at hl 0 rfl) ?_
      refine va_get (D := D) (ci := 5) (v := .ref (a0 1)) (C := RX5) (T := TX5) (N := 6) hx hb hts hinX5 hown hK hP 0 rfl rfl 0 (by decide) (hts (.fieldLink RX5 11 "WheelBook$House" "at" "[I") (List.mem_of_getElem? (i := 1) rfl)) (fun _ h9 => h9) rfl dX5_readTable_23 ?_
      refine lv_iload_n hx hb dX5_readTable_26 rfl (lv_at hl 2 rfl) ?_
      refine lv_aload_n hx hb dX5_readTable_27 rfl (lv_at hl 1 rfl) ?_
      refine va_get (D := D) (ci := 9) (v := .int (r2.2.1 6)) (C := RX9) (T := TX9) (N := 10) hx hb hts hinX9 hown hK hP 9 rfl rfl 7 (by decide) (hts (.fieldLink RX5 94 "WheelBook$Text" "number" "I") (List.mem_of_getElem? (i := 2) rfl)) (fun _ h9 => h9) rfl dX5_readTable_28 ?_
      obtain ⟨hin, hf⟩ := wb_n hf
      refine va_iast hx hb hK hP hD hS 1 1 rfl rfl hin dX5_readTable_31 (fun H locs hP hD hS => ?_)
      have hP : va_P D vwCl ((wWX5 cB cI cZ a0 I0 (wb_um M0 0 (x2).toNatClampNeg (r2.2.1 6))) ++ (wWX9 cB cI cZ a1 r2.2.1 r2.2.2)) H := hP
      have hD : va_D A ((wWX5 cB cI cZ a0 I0 (wb_um M0 0 (x2).toNatClampNeg (r2.2.1 6))) ++ (wWX9 cB cI cZ a1 r2.2.1 r2.2.2)) := hD
      obtain ⟨M0_3, eM0_3, hf⟩ := wb_v hf
      rw [← eM0_3] at hP hD
      refine lv_aload_n hx hb dX5_readTable_32 rfl (lv_at hl 1 rfl) ?_
      refine va_ldcS hx hb hown (hZ.2.1 7 (RX5, 113, "goes") rfl) dX5_readTable_33 ?_
      obtain ⟨r4, hr4, hf⟩ := wb_b hf
      have hPc := hP.sub (ws' := (wWX9 cB cI cZ a1 r2.2.1 r2.2.2)) [9, 10] rfl
      have hDc := hD.sub (ws' := (wWX9 cB cI cZ a1 r2.2.1 r2.2.2)) [9, 10] (by decide) rfl
      have hFc := va_free (wc := (wWX9 cB cI cZ a1 r2.2.1 r2.2.2)) hD hS hA [9, 10] rfl
      refine va_calli (va_runV (As := [.ref (aK 7)]) (rest := []) ⟨hx, hb, hml, hown, hts⟩ (cn_X9_takeWord l D cB cI cZ N aK aV a1 r2.2.1 r2.2.2 7 (by decide) H.size r4 hr4) (cwV 1 hts gX5_readTable_X9_takeWord rfl rfl rfl cdX9_takeWord ⟨Nat.le_of_ble_eq_true rfl, Nat.le_of_ble_eq_true rfl⟩) (wb_preDEV hPc hK hDc (va_recv hK hP (ci := 9) (q0 := 9) rfl rfl) hZ hS hFc) rfl rfl hl.1 rfl (lv_room (Nat.le_of_ble_eq_true rfl)) dX5_readTable_35 ⟨Nat.le_of_ble_eq_true rfl, Nat.le_of_ble_eq_true rfl⟩) hS (fun q _ h => hFc q h) hFc (fun r9 u t H locs ht hvm hw hB hz1 hk1 hS => ?_)
      obtain ⟨hP, hD⟩ := wb_join (wc := (wWX9 cB cI cZ a1 r2.2.1 r2.2.2)) (w1 := (wWX9 cB cI cZ a1 r4.2.1 r4.2.2)) (wf := ((wWX5 cB cI cZ a0 I0 M0_3) ++ (wWX9 cB cI cZ a1 r4.2.1 r4.2.2))) hP hD [9, 10] [0, 1, 2, 3, 4, 5, 6, 7, 8] [0, 1, 2, 3, 4, 5, 6, 7, 8, 9, 10] rfl rfl (by decide) (by decide) (by decide) rfl hk1 hFc ht hB
      rw [hw]
      refine lv_if_eq (tgt := 51) hx hb dX5_readTable_38 (by decide) (fun hc => ?_) (fun hc => ?_)
      · replace hf := wb_t hc hf
        refine lv_iconst (v := (0 : Int32)) hx hb dX5_readTable_51 (by decide) ?_
        exact W.zret (v := (0 : Int32)) hx hb hr (by decide) (fun t ht hW => by rw [← Option.some.inj hf]; exact ⟨⟨(0 : Int32), (), rfl, rfl, by rw [ht]; exact hP, va_K.moved hW.alike hK, hD⟩, hS.F ht⟩) hS.2.2 dX5_readTable_52
      · replace hf := wb_f hc hf
        refine lv_aload_n hx hb dX5_readTable_41 rfl (lv_at hl 1 rfl) ?_
        refine lv_iconst (v := (0 : Int32)) hx hb dX5_readTable_42 (by decide) ?_
        refine lv_ldc (v := (2000000 : Int32)) hx hb hown (hts (.constant RX5 114 (2000000)) (List.mem_of_getElem? (i := 3) rfl)) dX5_readTable_43 ?_
        obtain ⟨r5, hr5, hf⟩ := wb_b hf
        have hPc := hP.sub (ws' := (wWX9 cB cI cZ a1 r4.2.1 r4.2.2)) [9, 10] rfl
        have hDc := hD.sub (ws' := (wWX9 cB cI cZ a1 r4.2.1 r4.2.2)) [9, 10] (by decide) rfl
        have hFc := va_free (wc := (wWX9 cB cI cZ a1 r4.2.1 r4.2.2)) hD hS hA [9, 10] rfl
        refine va_calli (va_runV (As := [.int (0 : Int32), .int (2000000 : Int32)]) (rest := []) ⟨hx, hb, hml, hown, hts⟩ (cn_X9_takeNumber l D cB cI cZ N a1 r4.2.1 r4.2.2 (0 : Int32) (2000000 : Int32) H.size r5 hr5) (cwV 2 hts gX5_readTable_X9_takeNumber rfl rfl rfl cdX9_takeNumber ⟨Nat.le_of_ble_eq_true rfl, Nat.le_of_ble_eq_true rfl⟩) (wb_preDV hPc hK hDc (va_recv hK hP (ci := 9) (q0 := 9) rfl rfl)) rfl rfl hl.1 rfl (lv_room (Nat.le_of_ble_eq_true rfl)) dX5_readTable_45 ⟨Nat.le_of_ble_eq_true rfl, Nat.le_of_ble_eq_true rfl⟩) hS (fun q _ h => hFc q h) hFc (fun r9 u t H locs ht hvm hw hB hz1 hk1 hS => ?_)
        obtain ⟨hP, hD⟩ := wb_join (wc := (wWX9 cB cI cZ a1 r4.2.1 r4.2.2)) (w1 := (wWX9 cB cI cZ a1 r5.2.1 r5.2.2)) (wf := ((wWX5 cB cI cZ a0 I0 M0_3) ++ (wWX9 cB cI cZ a1 r5.2.1 r5.2.2))) hP hD [9, 10] [0, 1, 2, 3, 4, 5, 6, 7, 8] [0, 1, 2, 3, 4, 5, 6, 7, 8, 9, 10] rfl rfl (by decide) (by decide) (by decide) rfl hk1 hFc ht hB
        rw [hw]
        refine lv_if_ne (tgt := 53) hx hb dX5_readTable_48 (by decide) (fun hc => ?_) (fun hc => ?_)
        · replace hf := wb_f hc hf
          refine lv_aload_n hx hb dX5_readTable_53 rfl (lv_at hl 0 rfl) ?_
          refine va_get (D := D) (ci := 5) (v := .ref (a0 2)) (C := RX5) (T := TX5) (N := 6) hx hb hts hinX5 hown hK hP 0 rfl rfl 1 (by decide) (hts (.fieldLink RX5 15 "WheelBook$House" "goes" "[I") (List.mem_of_getElem? (i := 4) rfl)) (fun _ h9 => h9) rfl dX5_readTable_54 ?_
          refine lv_iload_n hx hb dX5_readTable_57 rfl (lv_at hl 2 rfl) ?_
          refine lv_aload_n hx hb dX5_readTable_58 rfl (lv_at hl 1 rfl) ?_
          refine va_get (D := D) (ci := 9) (v := .int (r5.2.1 6)) (C := RX9) (T := TX9) (N := 10) hx hb hts hinX9 hown hK hP 9 rfl rfl 7 (by decide) (hts (.fieldLink RX5 94 "WheelBook$Text" "number" "I") (List.mem_of_getElem? (i := 2) rfl)) (fun _ h9 => h9) rfl dX5_readTable_59 ?_
          obtain ⟨hin, hf⟩ := wb_n hf
          refine va_iast hx hb hK hP hD hS 2 1 rfl rfl hin dX5_readTable_62 (fun H locs hP hD hS => ?_)
          have hP : va_P D vwCl ((wWX5 cB cI cZ a0 I0 (wb_um M0_3 1 (x2).toNatClampNeg (r5.2.1 6))) ++ (wWX9 cB cI cZ a1 r5.2.1 r5.2.2)) H := hP
          have hD : va_D A ((wWX5 cB cI cZ a0 I0 (wb_um M0_3 1 (x2).toNatClampNeg (r5.2.1 6))) ++ (wWX9 cB cI cZ a1 r5.2.1 r5.2.2)) := hD
          obtain ⟨M0_6, eM0_6, hf⟩ := wb_v hf
          rw [← eM0_6] at hP hD
          refine lv_aload_n hx hb dX5_readTable_63 rfl (lv_at hl 0 rfl) ?_
          refine va_get (D := D) (ci := 5) (v := .ref (a0 3)) (C := RX5) (T := TX5) (N := 6) hx hb hts hinX5 hown hK hP 0 rfl rfl 2 (by decide) (hts (.fieldLink RX5 18 "WheelBook$House" "swing" "[I") (List.mem_of_getElem? (i := 5) rfl)) (fun _ h9 => h9) rfl dX5_readTable_64 ?_
          refine lv_iload_n hx hb dX5_readTable_67 rfl (lv_at hl 2 rfl) ?_
          refine lv_iconst (v := (0 : Int32)) hx hb dX5_readTable_68 (by decide) ?_
          obtain ⟨hin, hf⟩ := wb_n hf
          refine va_iast hx hb hK hP hD hS 3 1 rfl rfl hin dX5_readTable_69 (fun H locs hP hD hS => ?_)
          have hP : va_P D vwCl ((wWX5 cB cI cZ a0 I0 (wb_um M0_6 2 (x2).toNatClampNeg (0 : Int32))) ++ (wWX9 cB cI cZ a1 r5.2.1 r5.2.2)) H := hP
          have hD : va_D A ((wWX5 cB cI cZ a0 I0 (wb_um M0_6 2 (x2).toNatClampNeg (0 : Int32))) ++ (wWX9 cB cI cZ a1 r5.2.1 r5.2.2)) := hD
          obtain ⟨M0_7, eM0_7, hf⟩ := wb_v hf
          rw [← eM0_7] at hP hD
          refine lv_aload_n hx hb dX5_readTable_70 rfl (lv_at hl 0 rfl) ?_
          refine va_get (D := D) (ci := 5) (v := .ref (a0 4)) (C := RX5) (T := TX5) (N := 6) hx hb hts hinX5 hown hK hP 0 rfl rfl 3 (by decide) (hts (.fieldLink RX5 21 "WheelBook$House" "period" "[I") (List.mem_of_getElem? (i := 6) rfl)) (fun _ h9 => h9) rfl dX5_readTable_71 ?_
          refine lv_iload_n hx hb dX5_readTable_74 rfl (lv_at hl 2 rfl) ?_
          refine lv_iconst (v := (1 : Int32)) hx hb dX5_readTable_75 (by decide) ?_
          obtain ⟨hin, hf⟩ := wb_n hf
          refine va_iast hx hb hK hP hD hS 4 1 rfl rfl hin dX5_readTable_76 (fun H locs hP hD hS => ?_)
          have hP : va_P D vwCl ((wWX5 cB cI cZ a0 I0 (wb_um M0_7 3 (x2).toNatClampNeg (1 : Int32))) ++ (wWX9 cB cI cZ a1 r5.2.1 r5.2.2)) H := hP
          have hD : va_D A ((wWX5 cB cI cZ a0 I0 (wb_um M0_7 3 (x2).toNatClampNeg (1 : Int32))) ++ (wWX9 cB cI cZ a1 r5.2.1 r5.2.2)) := hD
          obtain ⟨M0_8, eM0_8, hf⟩ := wb_v hf
          rw [← eM0_8] at hP hD
          refine lv_aload_n hx hb dX5_readTable_77 rfl (lv_at hl 1 rfl) ?_
          refine va_ldcS hx hb hown (hZ.2.1 8 (RX5, 115, "swing") rfl) dX5_readTable_78 ?_
          obtain ⟨r9b, hr9b, hf⟩ := wb_b hf
          refine vp_callSi (W.runV (As := [.ref (aK 8)]) (rest := []) ⟨hx, hb, hml, hown, hts⟩ (cn_X9_isWord l D cB cI cZ N aK aV a1 r5.2.1 r5.2.2 8 (by decide) r9b hr9b) (cwV 1 hts gX5_readTable_X9_isWord rfl rfl rfl cdX9_isWord ⟨Nat.le_of_ble_eq_true rfl, Nat.le_of_ble_eq_true rfl⟩) (wb_preEV (hP.sub (ws' := (wWX9 cB cI cZ a1 r5.2.1 r5.2.2)) [9, 10] rfl) hK (va_recv hK hP (ci := 9) (q0 := 9) rfl rfl) hZ hS) rfl rfl hl.1 rfl (lv_room (Nat.le_of_ble_eq_true rfl)) dX5_readTable_80 ⟨Nat.le_of_ble_eq_true rfl, Nat.le_of_ble_eq_true rfl⟩) (fun r9 e9 => ?_)
          rw [e9]
          refine lv_if_ne (tgt := 88) hx hb dX5_readTable_83 (by decide) (fun hc => ?_) (fun hc => ?_)
          · replace hf := wb_f hc hf
            refine lv_aload_n hx hb dX5_readTable_88 rfl (lv_at hl 1 rfl) ?_
            obtain ⟨r10, hr10, hf⟩ := wb_b hf
            have hPc := hP.sub (ws' := (wWX9 cB cI cZ a1 r5.2.1 r5.2.2)) [9, 10] rfl
            have hDc := hD.sub (ws' := (wWX9 cB cI cZ a1 r5.2.1 r5.2.2)) [9, 10] (by decide) rfl
            have hFc := va_free (wc := (wWX9 cB cI cZ a1 r5.2.1 r5.2.2)) hD hS hA [9, 10] rfl
            refine va_callv (va_runV (As := []) (rest := []) ⟨hx, hb, hml, hown, hts⟩ (cn_X9_step l D cB cI cZ N a1 r5.2.1 r5.2.2 H.size r10 hr10) (cwV 0 hts gX5_readTable_X9_step rfl rfl rfl cdX9_step ⟨Nat.le_of_ble_eq_true rfl, Nat.le_of_ble_eq_true rfl⟩) (wb_preDV hPc hK hDc (va_recv hK hP (ci := 9) (q0 := 9) rfl rfl)) rfl rfl hl.1 rfl (lv_room (Nat.le_of_ble_eq_true rfl)) dX5_readTable_89 ⟨Nat.le_of_ble_eq_true rfl, Nat.le_of_ble_eq_true rfl⟩) hS (fun q _ h => hFc q h) hFc (fun u t H locs ht hvm hw hB hz1 hk1 hS => ?_)
            obtain ⟨hP, hD⟩ := wb_join (wc := (wWX9 cB cI cZ a1 r5.2.1 r5.2.2)) (w1 := (wWX9 cB cI cZ a1 r10.1 r10.2)) (wf := ((wWX5 cB cI cZ a0 I0 M0_8) ++ (wWX9 cB cI cZ a1 r10.1 r10.2))) hP hD [9, 10] [0, 1, 2, 3, 4, 5, 6, 7, 8] [0, 1, 2, 3, 4, 5, 6, 7, 8, 9, 10] rfl rfl (by decide) (by decide) (by decide) rfl hk1 hFc ht hB
            refine lv_aload_n hx hb dX5_readTable_92 rfl (lv_at hl 1 rfl) ?_
            refine lv_iconst (v := (0 : Int32)) hx hb dX5_readTable_93 (by decide) ?_
            refine lv_sipush (v := (10800 : Int32)) hx hb dX5_readTable_94 (by decide) ?_
            obtain ⟨r11, hr11, hf⟩ := wb_b hf
            have hPc := hP.sub (ws' := (wWX9 cB cI cZ a1 r10.1 r10.2)) [9, 10] rfl
            have hDc := hD.sub (ws' := (wWX9 cB cI cZ a1 r10.1 r10.2)) [9, 10] (by decide) rfl
            have hFc := va_free (wc := (wWX9 cB cI cZ a1 r10.1 r10.2)) hD hS hA [9, 10] rfl
            refine va_calli (va_runV (As := [.int (0 : Int32), .int (10800 : Int32)]) (rest := []) ⟨hx, hb, hml, hown, hts⟩ (cn_X9_takeNumber l D cB cI cZ N a1 r10.1 r10.2 (0 : Int32) (10800 : Int32) H.size r11 hr11) (cwV 2 hts gX5_readTable_X9_takeNumber rfl rfl rfl cdX9_takeNumber ⟨Nat.le_of_ble_eq_true rfl, Nat.le_of_ble_eq_true rfl⟩) (wb_preDV hPc hK hDc (va_recv hK hP (ci := 9) (q0 := 9) rfl rfl)) rfl rfl hl.1 rfl (lv_room (Nat.le_of_ble_eq_true rfl)) dX5_readTable_97 ⟨Nat.le_of_ble_eq_true rfl, Nat.le_of_ble_eq_true rfl⟩) hS (fun q _ h => hFc q h) hFc (fun r9 u t H locs ht hvm hw hB hz1 hk1 hS => ?_)
            obtain ⟨hP, hD⟩ := wb_join (wc := (wWX9 cB cI cZ a1 r10.1 r10.2)) (w1 := (wWX9 cB cI cZ a1 r11.2.1 r11.2.2)) (wf := ((wWX5 cB cI cZ a0 I0 M0_8) ++ (wWX9 cB cI cZ a1 r11.2.1 r11.2.2))) hP hD [9, 10] [0, 1, 2, 3, 4, 5, 6, 7, 8] [0, 1, 2, 3, 4, 5, 6, 7, 8, 9, 10] rfl rfl (by decide) (by decide) (by decide) rfl hk1 hFc ht hB
            rw [hw]
            refine lv_if_ne (tgt := 105) hx hb dX5_readTable_100 (by decide) (fun hc => ?_) (fun hc => ?_)
            · replace hf := wb_f hc hf
              refine lv_aload_n hx hb dX5_readTable_105 rfl (lv_at hl 0 rfl) ?_
              refine va_get (D := D) (ci := 5) (v := .ref (a0 3)) (C := RX5) (T := TX5) (N := 6) hx hb hts hinX5 hown hK hP 0 rfl rfl 2 (by decide) (hts (.fieldLink RX5 18 "WheelBook$House" "swing" "[I") (List.mem_of_getElem? (i := 5) rfl)) (fun _ h9 => h9) rfl dX5_readTable_106 ?_
              refine lv_iload_n hx hb dX5_readTable_109 rfl (lv_at hl 2 rfl) ?_
              refine lv_aload_n hx hb dX5_readTable_110 rfl (lv_at hl 1 rfl) ?_
              refine va_get (D := D) (ci := 9) (v := .int (r11.2.1 6)) (C := RX9) (T := TX9) (N := 10) hx hb hts hinX9 hown hK hP 9 rfl rfl 7 (by decide) (hts (.fieldLink RX5 94 "WheelBook$Text" "number" "I") (List.mem_of_getElem? (i := 2) rfl)) (fun _ h9 => h9) rfl dX5_readTable_111 ?_
              obtain ⟨hin, hf⟩ := wb_n hf
              refine va_iast hx hb hK hP hD hS 3 1 rfl rfl hin dX5_readTable_114 (fun H locs hP hD hS => ?_)
              have hP : va_P D vwCl ((wWX5 cB cI cZ a0 I0 (wb_um M0_8 2 (x2).toNatClampNeg (r11.2.1 6))) ++ (wWX9 cB cI cZ a1 r11.2.1 r11.2.2)) H := hP
              have hD : va_D A ((wWX5 cB cI cZ a0 I0 (wb_um M0_8 2 (x2).toNatClampNeg (r11.2.1 6))) ++ (wWX9 cB cI cZ a1 r11.2.1 r11.2.2)) := hD
              obtain ⟨M0_12, eM0_12, hf⟩ := wb_v hf
              rw [← eM0_12] at hP hD
              refine lv_aload_n hx hb dX5_readTable_115 rfl (lv_at hl 1 rfl) ?_
              refine va_ldcS hx hb hown (hZ.2.1 9 (RX5, 116, "in") rfl) dX5_readTable_116 ?_
              obtain ⟨r13, hr13, hf⟩ := wb_b hf
              have hPc := hP.sub (ws' := (wWX9 cB cI cZ a1 r11.2.1 r11.2.2)) [9, 10] rfl
              have hDc := hD.sub (ws' := (wWX9 cB cI cZ a1 r11.2.1 r11.2.2)) [9, 10] (by decide) rfl
              have hFc := va_free (wc := (wWX9 cB cI cZ a1 r11.2.1 r11.2.2)) hD hS hA [9, 10] rfl
              refine va_calli (va_runV (As := [.ref (aK 9)]) (rest := []) ⟨hx, hb, hml, hown, hts⟩ (cn_X9_takeWord l D cB cI cZ N aK aV a1 r11.2.1 r11.2.2 9 (by decide) H.size r13 hr13) (cwV 1 hts gX5_readTable_X9_takeWord rfl rfl rfl cdX9_takeWord ⟨Nat.le_of_ble_eq_true rfl, Nat.le_of_ble_eq_true rfl⟩) (wb_preDEV hPc hK hDc (va_recv hK hP (ci := 9) (q0 := 9) rfl rfl) hZ hS hFc) rfl rfl hl.1 rfl (lv_room (Nat.le_of_ble_eq_true rfl)) dX5_readTable_118 ⟨Nat.le_of_ble_eq_true rfl, Nat.le_of_ble_eq_true rfl⟩) hS (fun q _ h => hFc q h) hFc (fun r9 u t H locs ht hvm hw hB hz1 hk1 hS => ?_)
              obtain ⟨hP, hD⟩ := wb_join (wc := (wWX9 cB cI cZ a1 r11.2.1 r11.2.2)) (w1 := (wWX9 cB cI cZ a1 r13.2.1 r13.2.2)) (wf := ((wWX5 cB cI cZ a0 I0 M0_12) ++ (wWX9 cB cI cZ a1 r13.2.1 r13.2.2))) hP hD [9, 10] [0, 1, 2, 3, 4, 5, 6, 7, 8] [0, 1, 2, 3, 4, 5, 6, 7, 8, 9, 10] rfl rfl (by decide) (by decide) (by decide) rfl hk1 hFc ht hB
              rw [hw]
              refine lv_if_eq (tgt := 134) hx hb dX5_readTable_121 (by decide) (fun hc => ?_) (fun hc => ?_)
              · replace hf := wb_t hc hf
                refine lv_iconst (v := (0 : Int32)) hx hb dX5_readTable_134 (by decide) ?_
                exact W.zret (v := (0 : Int32)) hx hb hr (by decide) (fun t ht hW => by rw [← Option.some.inj hf]; exact ⟨⟨(0 : Int32), (), rfl, rfl, by rw [ht]; exact hP, va_K.moved hW.alike hK, hD⟩, hS.F ht⟩) hS.2.2 dX5_readTable_135
              · replace hf := wb_f hc hf
                refine lv_aload_n hx hb dX5_readTable_124 rfl (lv_at hl 1 rfl) ?_
                refine lv_iconst (v := (2 : Int32)) hx hb dX5_readTable_125 (by decide) ?_
                refine lv_ldc (v := (1000000 : Int32)) hx hb hown (hts (.constant RX5 118 (1000000)) (List.mem_of_getElem? (i := 7) rfl)) dX5_readTable_126 ?_
                obtain ⟨r14, hr14, hf⟩ := wb_b hf
                have hPc := hP.sub (ws' := (wWX9 cB cI cZ a1 r13.2.1 r13.2.2)) [9, 10] rfl
                have hDc := hD.sub (ws' := (wWX9 cB cI cZ a1 r13.2.1 r13.2.2)) [9, 10] (by decide) rfl
                have hFc := va_free (wc := (wWX9 cB cI cZ a1 r13.2.1 r13.2.2)) hD hS hA [9, 10] rfl
                refine va_calli (va_runV (As := [.int (2 : Int32), .int (1000000 : Int32)]) (rest := []) ⟨hx, hb, hml, hown, hts⟩ (cn_X9_takeNumber l D cB cI cZ N a1 r13.2.1 r13.2.2 (2 : Int32) (1000000 : Int32) H.size r14 hr14) (cwV 2 hts gX5_readTable_X9_takeNumber rfl rfl rfl cdX9_takeNumber ⟨Nat.le_of_ble_eq_true rfl, Nat.le_of_ble_eq_true rfl⟩) (wb_preDV hPc hK hDc (va_recv hK hP (ci := 9) (q0 := 9) rfl rfl)) rfl rfl hl.1 rfl (lv_room (Nat.le_of_ble_eq_true rfl)) dX5_readTable_128 ⟨Nat.le_of_ble_eq_true rfl, Nat.le_of_ble_eq_true rfl⟩) hS (fun q _ h => hFc q h) hFc (fun r9 u t H locs ht hvm hw hB hz1 hk1 hS => ?_)
                obtain ⟨hP, hD⟩ := wb_join (wc := (wWX9 cB cI cZ a1 r13.2.1 r13.2.2)) (w1 := (wWX9 cB cI cZ a1 r14.2.1 r14.2.2)) (wf := ((wWX5 cB cI cZ a0 I0 M0_12) ++ (wWX9 cB cI cZ a1 r14.2.1 r14.2.2))) hP hD [9, 10] [0, 1, 2, 3, 4, 5, 6, 7, 8] [0, 1, 2, 3, 4, 5, 6, 7, 8, 9, 10] rfl rfl (by decide) (by decide) (by decide) rfl hk1 hFc ht hB
                rw [hw]
                refine lv_if_ne (tgt := 136) hx hb dX5_readTable_131 (by decide) (fun hc => ?_) (fun hc => ?_)
                · replace hf := wb_f hc hf
                  refine lv_aload_n hx hb dX5_readTable_136 rfl (lv_at hl 0 rfl) ?_
                  refine va_get (D := D) (ci := 5) (v := .ref (a0 4)) (C := RX5) (T := TX5) (N := 6) hx hb hts hinX5 hown hK hP 0 rfl rfl 3 (by decide) (hts (.fieldLink RX5 21 "WheelBook$House" "period" "[I") (List.mem_of_getElem? (i := 6) rfl)) (fun _ h9 => h9) rfl dX5_readTable_137 ?_
                  refine lv_iload_n hx hb dX5_readTable_140 rfl (lv_at hl 2 rfl) ?_
                  refine lv_aload_n hx hb dX5_readTable_141 rfl (lv_at hl 1 rfl) ?_
                  refine va_get (D := D) (ci := 9) (v := .int (r14.2.1 6)) (C := RX9) (T := TX9) (N := 10) hx hb hts hinX9 hown hK hP 9 rfl rfl 7 (by decide) (hts (.fieldLink RX5 94 "WheelBook$Text" "number" "I") (List.mem_of_getElem? (i := 2) rfl)) (fun _ h9 => h9) rfl dX5_readTable_142 ?_
                  obtain ⟨hin, hf⟩ := wb_n hf
                  refine va_iast hx hb hK hP hD hS 4 1 rfl rfl hin dX5_readTable_145 (fun H locs hP hD hS => ?_)
                  have hP : va_P D vwCl ((wWX5 cB cI cZ a0 I0 (wb_um M0_12 3 (x2).toNatClampNeg (r14.2.1 6))) ++ (wWX9 cB cI cZ a1 r14.2.1 r14.2.2)) H := hP
                  have hD : va_D A ((wWX5 cB cI cZ a0 I0 (wb_um M0_12 3 (x2).toNatClampNeg (r14.2.1 6))) ++ (wWX9 cB cI cZ a1 r14.2.1 r14.2.2)) := hD
                  obtain ⟨M0_15, eM0_15, hf⟩ := wb_v hf
                  rw [← eM0_15] at hP hD
                  refine lv_iconst (v := (1 : Int32)) hx hb dX5_readTable_146 (by decide) ?_
                  exact W.zret (v := (1 : Int32)) hx hb hr (by decide) (fun t ht hW => by rw [← Option.some.inj hf]; exact ⟨⟨(1 : Int32), (), rfl, rfl, by rw [ht]; exact hP, va_K.moved hW.alike hK, hD⟩, hS.F ht⟩) hS.2.2 dX5_readTable_147
                · replace hf := wb_t hc hf
                  refine lv_iconst (v := (0 : Int32)) hx hb dX5_readTable_134 (by decide) ?_
                  exact W.zret (v := (0 : Int32)) hx hb hr (by decide) (fun t ht hW => by rw [← Option.some.inj hf]; exact ⟨⟨(0 : Int32), (), rfl, rfl, by rw [ht]; exact hP, va_K.moved hW.alike hK, hD⟩, hS.F ht⟩) hS.2.2 dX5_readTable_135
            · replace hf := wb_t hc hf
              refine lv_iconst (v := (0 : Int32)) hx hb dX5_readTable_103 (by decide) ?_
              exact W.zret (v := (0 : Int32)) hx hb hr (by decide) (fun t ht hW => by rw [← Option.some.inj hf]; exact ⟨⟨(0 : Int32), (), rfl, rfl, by rw [ht]; exact hP, va_K.moved hW.alike hK, hD⟩, hS.F ht⟩) hS.2.2 dX5_readTable_104
          · replace hf := wb_t hc hf
            refine lv_iconst (v := (1 : Int32)) hx hb dX5_readTable_86 (by decide) ?_
            exact W.zret (v := (1 : Int32)) hx hb hr (by decide) (fun t ht hW => by rw [← Option.some.inj hf]; exact ⟨⟨(1 : Int32), (), rfl, rfl, by rw [ht]; exact hP, va_K.moved hW.alike hK, hD⟩, hS.F ht⟩) hS.2.2 dX5_readTable_87
        · replace hf := wb_t hc hf
          refine lv_iconst (v := (0 : Int32)) hx hb dX5_readTable_51 (by decide) ?_
          exact W.zret (v := (0 : Int32)) hx hb hr (by decide) (fun t ht hW => by rw [← Option.some.inj hf]; exact ⟨⟨(0 : Int32), (), rfl, rfl, by rw [ht]; exact hP, va_K.moved hW.alike hK, hD⟩, hS.F ht⟩) hS.2.2 dX5_readTable_52
    · replace hf := wb_t hc hf
      refine lv_iconst (v := (0 : Int32)) hx hb dX5_readTable_20 (by decide) ?_
      exact W.zret (v := (0 : Int32)) hx hb hr (by decide) (fun t ht hW => by rw [← Option.some.inj hf]; exact ⟨⟨(0 : Int32), (), rfl, rfl, by rw [ht]; exact hP, va_K.moved hW.alike hK, hD⟩, hS.F ht⟩) hS.2.2 dX5_readTable_21

set_option maxHeartbeats 4000000 in
set_option maxRecDepth 100000 in
theorem cn_X5_readSet (l : Launch) (D : va_G) (cB cI cZ : ClassId) (N : Nat) (aK aV : Nat → Nat) (a0 : Nat → Nat) (I0 : Nat → Int32) (M0 : Nat → Nat → Int32) (a1 : Nat → Nat) (I1 : Nat → Int32) (M1 : Nat → Nat → Int32) (sz : Nat) (R : Int32 × (Nat → Int32) × (Nat → Nat → Int32) × (Nat → Int32) × (Nat → Nat → Int32)) (hf : fX5_readSet N I0 M0 I1 M1 = some R) : Met l yX5_readSet wsX5_readSet ({ frames := 7, cells := 0, slots := 0, locals := 186 }) (va_Pc [.ref (a0 0), .ref (a1 0)] (wb_preDE D [(cB, .byte), (cI, .int), (cZ, .boolean)] ((wWX5 cB cI cZ a0 I0 M0) ++ (wWX9 cB cI cZ a1 I1 M1)) sz aK aV)) (va_Qi (fun r (_ : Unit) => r = R.1) (fun _ t => wb_post D [(cB, .byte), (cI, .int), (cZ, .boolean)] (va_A ((wWX5 cB cI cZ a0 I0 M0) ++ (wWX9 cB cI cZ a1 I1 M1)) sz) ((wWX5 cB cI cZ a0 R.2.1 R.2.2.1) ++ (wWX9 cB cI cZ a1 R.2.2.2.1 R.2.2.2.2)) t) (va_A ((wWX5 cB cI cZ a0 I0 M0) ++ (wWX9 cB cI cZ a1 I1 M1)) sz)) 0 0 (va_A ((wWX5 cB cI cZ a0 I0 M0) ++ (wWX9 cB cI cZ a1 I1 M1)) sz) := by
  refine Met.ofW (cc := cX5_readSet) (maxL := 4) (ret := (some .boolean)) (by decide) rfl ?_
  intro p e s m args below meth c s₁ B hml hv
  obtain ⟨rfl, ⟨hsz, hP, hK, hD0⟩, hZ⟩ := hv
  have hx := B.exec
  have hb := B.bytes
  have hr := B.returns
  have hts := atoms_spec (ws := wsX5_readSet) B.pre
  have hown : s.vm.findClass RX5 = some m.cls := findClass_of_methodNamed B.named
  have hlocks := B.notSynchronized
  have hinX9 : ∀ w ∈ u_ws RX9 TX9 10, w ∈ wsX5_readSet := fun w h => List.mem_cons_of_mem _ (List.mem_append_left _ (List.mem_append_right _ h))
  subst hsz
  have hD := hD0.self (sz := s.heap.size)
  generalize hAe : va_A ((wWX5 cB cI cZ a0 I0 M0) ++ (wWX9 cB cI cZ a1 I1 M1)) s.heap.size = A at hD hZ ⊢
  have hA : ∀ q : Nat, s.heap.size ≤ q → A q := fun q h => by rw [← hAe]; exact Or.inr h
  have hS : va_S A s.heap s.heap [] := va_S.rf
  have hl := lv_entry ([.ref (a0 0), .ref (a1 0)]) (n := 4) (Nat.le_of_ble_eq_true rfl)
  rw [lg_entry_eq]
  generalize (lg_sl ([.ref (a0 0), .ref (a1 0)]) ++ List.replicate (4 - (lg_sl ([.ref (a0 0), .ref (a1 0)])).length) Slot.unset).toArray = ls at hl ⊢
  have hl : lv_has ls 4 [(0, .ref (a0 0)), (1, .ref (a1 0))] := hl
  unfold fX5_readSet at hf
  obtain ⟨H, hHe⟩ : ∃ H : Heap, H = s.heap := ⟨_, rfl⟩
  obtain ⟨locs, hle⟩ : ∃ locs : List Loc, locs = [] := ⟨_, rfl⟩
  refine wb_start (H := H) (locs := locs) hHe hle ?_
  rw [← hHe] at hP
  have hS : va_S A s.heap H locs := by rw [hHe, hle]; exact va_S.rf
  refine lv_aload_n hx hb dX5_readSet_0 rfl (lv_at hl 1 rfl) ?_
  obtain ⟨r1, hr1, hf⟩ := wb_b hf
  have hPc := hP.sub (ws' := (wWX9 cB cI cZ a1 I1 M1)) [9, 10] rfl
  have hDc := hD.sub (ws' := (wWX9 cB cI cZ a1 I1 M1)) [9, 10] (by decide) rfl
  have hFc := va_free (wc := (wWX9 cB cI cZ a1 I1 M1)) hD hS hA [9, 10] rfl
  refine va_callv (va_runV (As := []) (rest := []) ⟨hx, hb, hml, hown, hts⟩ (cn_X9_step l D cB cI cZ N a1 I1 M1 H.size r1 hr1) (cwV 0 hts gX5_readSet_X9_step rfl rfl rfl cdX9_step ⟨Nat.le_of_ble_eq_true rfl, Nat.le_of_ble_eq_true rfl⟩) (wb_preDV hPc hK hDc (va_recv hK hP (ci := 9) (q0 := 9) rfl rfl)) rfl rfl hl.1 rfl (lv_room (Nat.le_of_ble_eq_true rfl)) dX5_readSet_1 ⟨Nat.le_of_ble_eq_true rfl, Nat.le_of_ble_eq_true rfl⟩) hS (fun q _ h => hFc q h) hFc (fun u t H locs ht hvm hw hB hz1 hk1 hS => ?_)
  obtain ⟨hP, hD⟩ := wb_join (wc := (wWX9 cB cI cZ a1 I1 M1)) (w1 := (wWX9 cB cI cZ a1 r1.1 r1.2)) (wf := ((wWX5 cB cI cZ a0 I0 M0) ++ (wWX9 cB cI cZ a1 r1.1 r1.2))) hP hD [9, 10] [0, 1, 2, 3, 4, 5, 6, 7, 8] [0, 1, 2, 3, 4, 5, 6, 7, 8, 9, 10] rfl rfl (by decide) (by decide) (by decide) rfl hk1 hFc ht hB
  refine lv_aload_n hx hb dX5_readSet_4 rfl (lv_at hl 1 rfl) ?_
  refine lv_iconst (v := (0 : Int32)) hx hb dX5_readSet_5 (by decide) ?_
  refine lv_iconst (v := (3 : Int32)) hx hb dX5_readSet_6 (by decide) ?_
  obtain ⟨r2, hr2, hf⟩ := wb_b hf
  have hPc := hP.sub (ws' := (wWX9 cB cI cZ a1 r1.1 r1.2)) [9, 10] rfl
  have hDc := hD.sub (ws' := (wWX9 cB cI cZ a1 r1.1 r1.2)) [9, 10] (by decide) rfl
  have hFc := va_free (wc := (wWX9 cB cI cZ a1 r1.1 r1.2)) hD hS hA [9, 10] rfl
  refine va_calli (va_runV (As := [.int (0 : Int32), .int (3 : Int32)]) (rest := []) ⟨hx, hb, hml, hown, hts⟩ (cn_X9_takeNumber l D cB cI cZ N a1 r1.1 r1.2 (0 : Int32) (3 : Int32) H.size r2 hr2) (cwV 2 hts gX5_readSet_X9_takeNumber rfl rfl rfl cdX9_takeNumber ⟨Nat.le_of_ble_eq_true rfl, Nat.le_of_ble_eq_true rfl⟩) (wb_preDV hPc hK hDc (va_recv hK hP (ci := 9) (q0 := 9) rfl rfl)) rfl rfl hl.1 rfl (lv_room (Nat.le_of_ble_eq_true rfl)) dX5_readSet_7 ⟨Nat.le_of_ble_eq_true rfl, Nat.le_of_ble_eq_true rfl⟩) hS (fun q _ h => hFc q h) hFc (fun r9 u t H locs ht hvm hw hB hz1 hk1 hS => ?_)
  obtain ⟨hP, hD⟩ := wb_join (wc := (wWX9 cB cI cZ a1 r1.1 r1.2)) (w1 := (wWX9 cB cI cZ a1 r2.2.1 r2.2.2)) (wf := ((wWX5 cB cI cZ a0 I0 M0) ++ (wWX9 cB cI cZ a1 r2.2.1 r2.2.2))) hP hD [9, 10] [0, 1, 2, 3, 4, 5, 6, 7, 8] [0, 1, 2, 3, 4, 5, 6, 7, 8, 9, 10] rfl rfl (by decide) (by decide) (by decide) rfl hk1 hFc ht hB
  rw [hw]
  refine lv_if_ne (tgt := 15) hx hb dX5_readSet_10 (by decide) (fun hc => ?_) (fun hc => ?_)
  · replace hf := wb_f hc hf
    refine lv_aload_n hx hb dX5_readSet_15 rfl (lv_at hl 1 rfl) ?_
    refine va_get (D := D) (ci := 9) (v := .int (r2.2.1 6)) (C := RX9) (T := TX9) (N := 10) hx hb hts hinX9 hown hK hP 9 rfl rfl 7 (by decide) (hts (.fieldLink RX5 94 "WheelBook$Text" "number" "I") (List.mem_of_getElem? (i := 1) rfl)) (fun _ h9 => h9) rfl dX5_readSet_16 ?_
    obtain ⟨v3, ev3, hf⟩ := wb_v hf
    refine wb_topi ev3 ?_
    refine lv_istore_n (lv' := [(2, .int v3), (0, .ref (a0 0)), (1, .ref (a1 0))]) hx hb dX5_readSet_19 rfl hl (by decide) rfl (fun ls hl => ?_)
    refine lv_aload_n hx hb dX5_readSet_20 rfl (lv_at hl 2 rfl) ?_
    refine lv_bipush (v := (7 : Int32)) hx hb dX5_readSet_21 (by decide) ?_
    obtain ⟨r4, hr4, hf⟩ := wb_b hf
    refine vp_callSi (W.runV (As := [.int (7 : Int32)]) (rest := []) ⟨hx, hb, hml, hown, hts⟩ (cn_X9_namedOf l D cB cI cZ N aK aV a1 r2.2.1 r2.2.2 (7 : Int32) r4 hr4) (cwV 1 hts gX5_readSet_X9_namedOf rfl rfl rfl cdX9_namedOf ⟨Nat.le_of_ble_eq_true rfl, Nat.le_of_ble_eq_true rfl⟩) (wb_preEV (hP.sub (ws' := (wWX9 cB cI cZ a1 r2.2.1 r2.2.2)) [9, 10] rfl) hK (va_recv hK hP (ci := 9) (q0 := 9) rfl rfl) hZ hS) rfl rfl hl.1 rfl (lv_room (Nat.le_of_ble_eq_true rfl)) dX5_readSet_23 ⟨Nat.le_of_ble_eq_true rfl, Nat.le_of_ble_eq_true rfl⟩) (fun r9 e9 => ?_)
    rw [e9]
    refine lv_istore_n (lv' := [(3, .int r4), (2, .int v3), (0, .ref (a0 0)), (1, .ref (a1 0))]) hx hb dX5_readSet_26 rfl hl (by decide) rfl (fun ls hl => ?_)
    refine lv_iload_n hx hb dX5_readSet_27 rfl (lv_at hl 0 rfl) ?_
    refine lv_iconst (v := (-1 : Int32)) hx hb dX5_readSet_28 (by decide) ?_
    refine lv_icmp_ne (tgt := 38) hx hb dX5_readSet_29 (by decide) (fun hc => ?_) (fun hc => ?_)
    · replace hf := wb_f hc hf
      refine lv_aload_n hx hb dX5_readSet_38 rfl (lv_at hl 3 rfl) ?_
      obtain ⟨r5, hr5, hf⟩ := wb_b hf
      have hPc := hP.sub (ws' := (wWX9 cB cI cZ a1 r2.2.1 r2.2.2)) [9, 10] rfl
      have hDc := hD.sub (ws' := (wWX9 cB cI cZ a1 r2.2.1 r2.2.2)) [9, 10] (by decide) rfl
      have hFc := va_free (wc := (wWX9 cB cI cZ a1 r2.2.1 r2.2.2)) hD hS hA [9, 10] rfl
      refine va_callv (va_runV (As := []) (rest := []) ⟨hx, hb, hml, hown, hts⟩ (cn_X9_step l D cB cI cZ N a1 r2.2.1 r2.2.2 H.size r5 hr5) (cwV 0 hts gX5_readSet_X9_step rfl rfl rfl cdX9_step ⟨Nat.le_of_ble_eq_true rfl, Nat.le_of_ble_eq_true rfl⟩) (wb_preDV hPc hK hDc (va_recv hK hP (ci := 9) (q0 := 9) rfl rfl)) rfl rfl hl.1 rfl (lv_room (Nat.le_of_ble_eq_true rfl)) dX5_readSet_39 ⟨Nat.le_of_ble_eq_true rfl, Nat.le_of_ble_eq_true rfl⟩) hS (fun q _ h => hFc q h) hFc (fun u t H locs ht hvm hw hB hz1 hk1 hS => ?_)
      obtain ⟨hP, hD⟩ := wb_join (wc := (wWX9 cB cI cZ a1 r2.2.1 r2.2.2)) (w1 := (wWX9 cB cI cZ a1 r5.1 r5.2)) (wf := ((wWX5 cB cI cZ a0 I0 M0) ++ (wWX9 cB cI cZ a1 r5.1 r5.2))) hP hD [9, 10] [0, 1, 2, 3, 4, 5, 6, 7, 8] [0, 1, 2, 3, 4, 5, 6, 7, 8, 9, 10] rfl rfl (by decide) (by decide) (by decide) rfl hk1 hFc ht hB
      refine lv_aload_n hx hb dX5_readSet_42 rfl (lv_at hl 2 rfl) ?_
      refine lv_aload_n hx hb dX5_readSet_43 rfl (lv_at hl 3 rfl) ?_
      refine lv_bipush (v := (7 : Int32)) hx hb dX5_readSet_44 (by decide) ?_
      refine lv_iload_n hx hb dX5_readSet_46 rfl (lv_at hl 1 rfl) ?_
      refine lv_imul hx hb dX5_readSet_47 ?_
      refine lv_iload_n hx hb dX5_readSet_48 rfl (lv_at hl 0 rfl) ?_
      refine lv_iadd hx hb dX5_readSet_49 ?_
      obtain ⟨r6, hr6, hf⟩ := wb_b hf
      have hPc := hP.sub (ws' := ((wWX5 cB cI cZ a0 I0 M0) ++ (wWX9 cB cI cZ a1 r5.1 r5.2))) [0, 1, 2, 3, 4, 5, 6, 7, 8, 9, 10] rfl
      have hDc := hD.sub (ws' := ((wWX5 cB cI cZ a0 I0 M0) ++ (wWX9 cB cI cZ a1 r5.1 r5.2))) [0, 1, 2, 3, 4, 5, 6, 7, 8, 9, 10] (by decide) rfl
      have hFc := va_free (wc := ((wWX5 cB cI cZ a0 I0 M0) ++ (wWX9 cB cI cZ a1 r5.1 r5.2))) hD hS hA [0, 1, 2, 3, 4, 5, 6, 7, 8, 9, 10] rfl
      refine va_calli (va_runV (As := [.ref (a1 0), .int (((7 : Int32) * v3) + r4)]) (rest := []) ⟨hx, hb, hml, hown, hts⟩ (cn_X5_readTable l D cB cI cZ N aK aV a0 I0 M0 a1 r5.1 r5.2 (((7 : Int32) * v3) + r4) H.size r6 hr6) (cwV 2 hts gX5_readSet_X5_readTable rfl rfl rfl cdX5_readTable ⟨Nat.le_of_ble_eq_true rfl, Nat.le_of_ble_eq_true rfl⟩) (wb_preDEV hPc hK hDc (va_recv hK hP (ci := 5) (q0 := 0) rfl rfl) hZ hS hFc) rfl rfl hl.1 rfl (lv_room (Nat.le_of_ble_eq_true rfl)) dX5_readSet_50 ⟨Nat.le_of_ble_eq_true rfl, Nat.le_of_ble_eq_true rfl⟩) hS (fun q _ h => hFc q h) hFc (fun r9 u t H locs ht hvm hw hB hz1 hk1 hS => ?_)
      obtain ⟨hP, hD⟩ := wb_join (wc := ((wWX5 cB cI cZ a0 I0 M0) ++ (wWX9 cB cI cZ a1 r5.1 r5.2))) (w1 := ((wWX5 cB cI cZ a0 r6.2.1 r6.2.2.1) ++ (wWX9 cB cI cZ a1 r6.2.2.2.1 r6.2.2.2.2))) (wf := ((wWX5 cB cI cZ a0 r6.2.1 r6.2.2.1) ++ (wWX9 cB cI cZ a1 r6.2.2.2.1 r6.2.2.2.2))) hP hD [0, 1, 2, 3, 4, 5, 6, 7, 8, 9, 10] [] [0, 1, 2, 3, 4, 5, 6, 7, 8, 9, 10] rfl rfl (by decide) (by decide) (by decide) rfl hk1 hFc ht hB
      rw [hw]
      refine lv_if_eq (tgt := 67) hx hb dX5_readSet_53 (by decide) (fun hc => ?_) (fun hc => ?_)
      · replace hf := wb_t hc hf
        refine lv_iconst (v := (0 : Int32)) hx hb dX5_readSet_67 (by decide) ?_
        exact W.zret (v := (0 : Int32)) hx hb hr (by decide) (fun t ht hW => by rw [← Option.some.inj hf]; exact ⟨⟨(0 : Int32), (), rfl, rfl, by rw [ht]; exact hP, va_K.moved hW.alike hK, hD⟩, hS.F ht⟩) hS.2.2 dX5_readSet_68
      · replace hf := wb_f hc hf
        refine lv_aload_n hx hb dX5_readSet_56 rfl (lv_at hl 3 rfl) ?_
        obtain ⟨r7, hr7, hf⟩ := wb_b hf
        have hPc := hP.sub (ws' := (wWX9 cB cI cZ a1 r6.2.2.2.1 r6.2.2.2.2)) [9, 10] rfl
        have hDc := hD.sub (ws' := (wWX9 cB cI cZ a1 r6.2.2.2.1 r6.2.2.2.2)) [9, 10] (by decide) rfl
        have hFc := va_free (wc := (wWX9 cB cI cZ a1 r6.2.2.2.1 r6.2.2.2.2)) hD hS hA [9, 10] rfl
        refine va_calli (va_runV (As := []) (rest := []) ⟨hx, hb, hml, hown, hts⟩ (cn_X9_takeStop l D cB cI cZ N a1 r6.2.2.2.1 r6.2.2.2.2 H.size r7 hr7) (cwV 0 hts gX5_readSet_X9_takeStop rfl rfl rfl cdX9_takeStop ⟨Nat.le_of_ble_eq_true rfl, Nat.le_of_ble_eq_true rfl⟩) (wb_preDV hPc hK hDc (va_recv hK hP (ci := 9) (q0 := 9) rfl rfl)) rfl rfl hl.1 rfl (lv_room (Nat.le_of_ble_eq_true rfl)) dX5_readSet_57 ⟨Nat.le_of_ble_eq_true rfl, Nat.le_of_ble_eq_true rfl⟩) hS (fun q _ h => hFc q h) hFc (fun r9 u t H locs ht hvm hw hB hz1 hk1 hS => ?_)
        obtain ⟨hP, hD⟩ := wb_join (wc := (wWX9 cB cI cZ a1 r6.2.2.2.1 r6.2.2.2.2)) (w1 := (wWX9 cB cI cZ a1 r7.2.1 r7.2.2)) (wf := ((wWX5 cB cI cZ a0 r6.2.1 r6.2.2.1) ++ (wWX9 cB cI cZ a1 r7.2.1 r7.2.2))) hP hD [9, 10] [0, 1, 2, 3, 4, 5, 6, 7, 8] [0, 1, 2, 3, 4, 5, 6, 7, 8, 9, 10] rfl rfl (by decide) (by decide) (by decide) rfl hk1 hFc ht hB
        rw [hw]
        refine lv_if_eq (tgt := 67) hx hb dX5_readSet_60 (by decide) (fun hc => ?_) (fun hc => ?_)
        · replace hf := wb_t hc hf
          refine lv_iconst (v := (0 : Int32)) hx hb dX5_readSet_67 (by decide) ?_
          exact W.zret (v := (0 : Int32)) hx hb hr (by decide) (fun t ht hW => by rw [← Option.some.inj hf]; exact ⟨⟨(0 : Int32), (), rfl, rfl, by rw [ht]; exact hP, va_K.moved hW.alike hK, hD⟩, hS.F ht⟩) hS.2.2 dX5_readSet_68
        · replace hf := wb_f hc hf
          refine lv_iconst (v := (1 : Int32)) hx hb dX5_readSet_63 (by decide) ?_
          refine lv_goto (tgt := 68) hx hb dX5_readSet_64 (by decide) ?_
          exact W.zret (v := (1 : Int32)) hx hb hr (by decide) (fun t ht hW => by rw [← Option.some.inj hf]; exact ⟨⟨(1 : Int32), (), rfl, rfl, by rw [ht]; exact hP, va_K.moved hW.alike hK, hD⟩, hS.F ht⟩) hS.2.2 dX5_readSet_68
    · replace hf := wb_t hc hf
      refine lv_aload_n hx hb dX5_readSet_32 rfl (lv_at hl 3 rfl) ?_
      refine lv_iconst (v := (1 : Int32)) hx hb dX5_readSet_33 (by decide) ?_
      obtain ⟨r8, hr8, hf⟩ := wb_b hf
      have hPc := hP.sub (ws' := (wWX9 cB cI cZ a1 r2.2.1 r2.2.2)) [9, 10] rfl
      have hDc := hD.sub (ws' := (wWX9 cB cI cZ a1 r2.2.1 r2.2.2)) [9, 10] (by decide) rfl
      have hFc := va_free (wc := (wWX9 cB cI cZ a1 r2.2.1 r2.2.2)) hD hS hA [9, 10] rfl
      refine va_calli (va_runV (As := [.int (1 : Int32)]) (rest := []) ⟨hx, hb, hml, hown, hts⟩ (cn_X9_refuse l D cB cI cZ N a1 r2.2.1 r2.2.2 (1 : Int32) H.size r8 hr8) (cwV 1 hts gX5_readSet_X9_refuse rfl rfl rfl cdX9_refuse ⟨Nat.le_of_ble_eq_true rfl, Nat.le_of_ble_eq_true rfl⟩) (wb_preDV hPc hK hDc (va_recv hK hP (ci := 9) (q0 := 9) rfl rfl)) rfl rfl hl.1 rfl (lv_room (Nat.le_of_ble_eq_true rfl)) dX5_readSet_34 ⟨Nat.le_of_ble_eq_true rfl, Nat.le_of_ble_eq_true rfl⟩) hS (fun q _ h => hFc q h) hFc (fun r9 u t H locs ht hvm hw hB hz1 hk1 hS => ?_)
      obtain ⟨hP, hD⟩ := wb_join (wc := (wWX9 cB cI cZ a1 r2.2.1 r2.2.2)) (w1 := (wWX9 cB cI cZ a1 r8.2.1 r8.2.2)) (wf := ((wWX5 cB cI cZ a0 I0 M0) ++ (wWX9 cB cI cZ a1 r8.2.1 r8.2.2))) hP hD [9, 10] [0, 1, 2, 3, 4, 5, 6, 7, 8] [0, 1, 2, 3, 4, 5, 6, 7, 8, 9, 10] rfl rfl (by decide) (by decide) (by decide) rfl hk1 hFc ht hB
      rw [hw]
      obtain ⟨hz, hf⟩ := wb_y hf
      exact W.zret (v := r8.1) hx hb hr (congrArg Value.int hz) (fun t ht hW => by rw [← Option.some.inj hf]; exact ⟨⟨r8.1, (), rfl, rfl, by rw [ht]; exact hP, va_K.moved hW.alike hK, hD⟩, hS.F ht⟩) hS.2.2 dX5_readSet_37
  · replace hf := wb_t hc hf
    refine lv_iconst (v := (0 : Int32)) hx hb dX5_readSet_13 (by decide) ?_
    exact W.zret (v := (0 : Int32)) hx hb hr (by decide) (fun t ht hW => by rw [← Option.some.inj hf]; exact ⟨⟨(0 : Int32), (), rfl, rfl, by rw [ht]; exact hP, va_K.moved hW.alike hK, hD⟩, hS.F ht⟩) hS.2.2 dX5_readSet_14

set_option maxHeartbeats 4000000 in
set_option maxRecDepth 100000 in
theorem cn_X5_readLines (l : Launch) (D : va_G) (cB cI cZ : ClassId) (N : Nat) (aK aV : Nat → Nat) (a0 : Nat → Nat) (I0 : Nat → Int32) (M0 : Nat → Nat → Int32) (a1 : Nat → Nat) (I1 : Nat → Int32) (M1 : Nat → Nat → Int32) (sz : Nat) (R : Int32 × (Nat → Int32) × (Nat → Nat → Int32) × (Nat → Int32) × (Nat → Nat → Int32)) (hf : fX5_readLines N I0 M0 I1 M1 = some R) : Met l yX5_readLines wsX5_readLines ({ frames := 8, cells := 0, slots := 0, locals := 209 }) (va_Pc [.ref (a0 0), .ref (a1 0)] (wb_preDE D [(cB, .byte), (cI, .int), (cZ, .boolean)] ((wWX5 cB cI cZ a0 I0 M0) ++ (wWX9 cB cI cZ a1 I1 M1)) sz aK aV)) (va_Qi (fun r (_ : Unit) => r = R.1) (fun _ t => wb_post D [(cB, .byte), (cI, .int), (cZ, .boolean)] (va_A ((wWX5 cB cI cZ a0 I0 M0) ++ (wWX9 cB cI cZ a1 I1 M1)) sz) ((wWX5 cB cI cZ a0 R.2.1 R.2.2.1) ++ (wWX9 cB cI cZ a1 R.2.2.2.1 R.2.2.2.2)) t) (va_A ((wWX5 cB cI cZ a0 I0 M0) ++ (wWX9 cB cI cZ a1 I1 M1)) sz)) 0 0 (va_A ((wWX5 cB cI cZ a0 I0 M0) ++ (wWX9 cB cI cZ a1 I1 M1)) sz) := by
  refine Met.ofW (cc := cX5_readLines) (maxL := 4) (ret := (some .boolean)) (by decide) rfl ?_
  intro p e s m args below meth c s₁ B hml hv
  obtain ⟨rfl, ⟨hsz, hP, hK, hD0⟩, hZ⟩ := hv
  have hx := B.exec
  have hb := B.bytes
  have hr := B.returns
  have hts := atoms_spec (ws := wsX5_readLines) B.pre
  have hown : s.vm.findClass RX5 = some m.cls := findClass_of_methodNamed B.named
  have hlocks := B.notSynchronized
  have hinX5 : ∀ w ∈ u_ws RX5 TX5 6, w ∈ wsX5_readLines := fun w h => List.mem_cons_of_mem _ (List.mem_append_left _ (List.mem_append_left _ (List.mem_append_left _ (List.mem_append_right _ h))))
  subst hsz
  have hD := hD0.self (sz := s.heap.size)
  generalize hAe : va_A ((wWX5 cB cI cZ a0 I0 M0) ++ (wWX9 cB cI cZ a1 I1 M1)) s.heap.size = A at hD hZ ⊢
  have hA : ∀ q : Nat, s.heap.size ≤ q → A q := fun q h => by rw [← hAe]; exact Or.inr h
  have hS : va_S A s.heap s.heap [] := va_S.rf
  have hl := lv_entry ([.ref (a0 0), .ref (a1 0)]) (n := 4) (Nat.le_of_ble_eq_true rfl)
  rw [lg_entry_eq]
  generalize (lg_sl ([.ref (a0 0), .ref (a1 0)]) ++ List.replicate (4 - (lg_sl ([.ref (a0 0), .ref (a1 0)])).length) Slot.unset).toArray = ls at hl ⊢
  have hl : lv_has ls 4 [(0, .ref (a0 0)), (1, .ref (a1 0))] := hl
  unfold fX5_readLines at hf
  obtain ⟨H, hHe⟩ : ∃ H : Heap, H = s.heap := ⟨_, rfl⟩
  obtain ⟨locs, hle⟩ : ∃ locs : List Loc, locs = [] := ⟨_, rfl⟩
  refine wb_start (H := H) (locs := locs) hHe hle ?_
  rw [← hHe] at hP
  have hS : va_S A s.heap H locs := by rw [hHe, hle]; exact va_S.rf
  refine lv_iconst (v := (1 : Int32)) hx hb dX5_readLines_0 (by decide) ?_
  refine lv_istore_n (lv' := [(2, .int (1 : Int32)), (0, .ref (a0 0)), (1, .ref (a1 0))]) hx hb dX5_readLines_1 rfl hl (by decide) rfl (fun ls hl => ?_)
  refine lv_iconst (v := (0 : Int32)) hx hb dX5_readLines_2 (by decide) ?_
  refine lv_istore_n (lv' := [(3, .int (0 : Int32)), (2, .int (1 : Int32)), (0, .ref (a0 0)), (1, .ref (a1 0))]) hx hb dX5_readLines_3 rfl hl (by decide) rfl (fun ls hl => ?_)
  have L4 : ∀ (fu4 : Nat) (I0_l4 : Nat → Int32) (M0_l4 : Nat → Nat → Int32) (I1_l4 : Nat → Int32) (M1_l4 : Nat → Nat → Int32) (y4_2 : Int32) (y4_3 : Int32) (H : Heap) (locs : List Loc), va_P D vwCl ((wWX5 cB cI cZ a0 I0_l4 M0_l4) ++ (wWX9 cB cI cZ a1 I1_l4 M1_l4)) H → va_D A ((wWX5 cB cI cZ a0 I0_l4 M0_l4) ++ (wWX9 cB cI cZ a1 I1_l4 M1_l4)) → va_S A s.heap H locs → ∀ (ls : Array Slot), lv_has ls 4 [(0, .ref (a0 0)), (1, .ref (a1 0)), (2, .int y4_2), (3, .int y4_3)] → fX5_readLines_L4 N fu4 I0_l4 M0_l4 I1_l4 M1_l4 y4_2 y4_3 = some R → W p l e (headSpec wsX5_readLines { frames := 8, cells := 0, slots := 0, locals := 209 }).room s m [.ref (a0 0), .ref (a1 0)].toArray below meth c H locs 0 0 (MQ below (va_Qi (fun r (_ : Unit) => r = R.1) (fun _ t => wb_post D [(cB, .byte), (cI, .int), (cZ, .boolean)] A ((wWX5 cB cI cZ a0 R.2.1 R.2.2.1) ++ (wWX9 cB cI cZ a1 R.2.2.2.1 R.2.2.2.2)) t) A) [.ref (a0 0), .ref (a1 0)].toArray s 0 0 A) (F0 m 4 ls []) := by
    intro fu4
    induction fu4 with
    | zero =>
      intro I0_l4 M0_l4 I1_l4 M1_l4 y4_2 y4_3 H locs hP hD hS ls hl hf
      exact absurd hf (by rw [fX5_readLines_L4.eq_1]; exact fun h => nomatch h)
    | succ fu4 ih4 =>
      intro I0_l4 M0_l4 I1_l4 M1_l4 y4_2 y4_3 H locs hP hD hS ls hl hf
      rw [fX5_readLines_L4.eq_2] at hf
      refine lv_iload_n hx hb dX5_readLines_4 rfl (lv_at hl 3 rfl) ?_
      refine lv_sipush (v := (600 : Int32)) hx hb dX5_readLines_5 (by decide) ?_
      refine lv_icmp_ge (tgt := 94) hx hb dX5_readLines_8 (by decide) (fun hc => ?_) (fun hc => ?_)
      · replace hf := wb_t hc hf
        refine lv_iload_n hx hb dX5_readLines_94 rfl (lv_at hl 2 rfl) ?_
        obtain ⟨hz, hf⟩ := wb_y hf
        exact W.zret (v := y4_2) hx hb hr (congrArg Value.int hz) (fun t ht hW => by rw [← Option.some.inj hf]; exact ⟨⟨y4_2, (), rfl, rfl, by rw [ht]; exact hP, va_K.moved hW.alike hK, hD⟩, hS.F ht⟩) hS.2.2 dX5_readLines_95
      · replace hf := wb_f hc hf
        refine lv_iload_n hx hb dX5_readLines_11 rfl (lv_at hl 2 rfl) ?_
        refine lv_if_eq (tgt := 94) hx hb dX5_readLines_12 (by decide) (fun hc => ?_) (fun hc => ?_)
        · replace hf := wb_t hc hf
          refine lv_iload_n hx hb dX5_readLines_94 rfl (lv_at hl 2 rfl) ?_
          obtain ⟨hz, hf⟩ := wb_y hf
          exact W.zret (v := y4_2) hx hb hr (congrArg Value.int hz) (fun t ht hW => by rw [← Option.some.inj hf]; exact ⟨⟨y4_2, (), rfl, rfl, by rw [ht]; exact hP, va_K.moved hW.alike hK, hD⟩, hS.F ht⟩) hS.2.2 dX5_readLines_95
        · replace hf := wb_f hc hf
          refine lv_aload_n hx hb dX5_readLines_15 rfl (lv_at hl 1 rfl) ?_
          obtain ⟨r1, hr1, hf⟩ := wb_b hf
          refine vp_callSi (W.runV (As := []) (rest := []) ⟨hx, hb, hml, hown, hts⟩ (cn_X9_isAtEnd l D cB cI cZ N a1 I1_l4 M1_l4 r1 hr1) (cwV 0 hts gX5_readLines_X9_isAtEnd rfl rfl rfl cdX9_isAtEnd ⟨Nat.le_of_ble_eq_true rfl, Nat.le_of_ble_eq_true rfl⟩) (wb_preV (hP.sub (ws' := (wWX9 cB cI cZ a1 I1_l4 M1_l4)) [9, 10] rfl) hK (va_recv hK hP (ci := 9) (q0 := 9) rfl rfl)) rfl rfl hl.1 rfl (lv_room (Nat.le_of_ble_eq_true rfl)) dX5_readLines_16 ⟨Nat.le_of_ble_eq_true rfl, Nat.le_of_ble_eq_true rfl⟩) (fun r9 e9 => ?_)
          rw [e9]
          refine lv_if_ne (tgt := 94) hx hb dX5_readLines_19 (by decide) (fun hc => ?_) (fun hc => ?_)
          · replace hf := wb_f hc hf
            refine lv_iload_n hx hb dX5_readLines_94 rfl (lv_at hl 2 rfl) ?_
            obtain ⟨hz, hf⟩ := wb_y hf
            exact W.zret (v := y4_2) hx hb hr (congrArg Value.int hz) (fun t ht hW => by rw [← Option.some.inj hf]; exact ⟨⟨y4_2, (), rfl, rfl, by rw [ht]; exact hP, va_K.moved hW.alike hK, hD⟩, hS.F ht⟩) hS.2.2 dX5_readLines_95
          · replace hf := wb_t hc hf
            refine lv_aload_n hx hb dX5_readLines_22 rfl (lv_at hl 1 rfl) ?_
            refine va_ldcS hx hb hown (hZ.2.1 3 (RX5, 63, "set") rfl) dX5_readLines_23 ?_
            obtain ⟨r2, hr2, hf⟩ := wb_b hf
            refine vp_callSi (W.runV (As := [.ref (aK 3)]) (rest := []) ⟨hx, hb, hml, hown, hts⟩ (cn_X9_isWord l D cB cI cZ N aK aV a1 I1_l4 M1_l4 3 (by decide) r2 hr2) (cwV 1 hts gX5_readLines_X9_isWord rfl rfl rfl cdX9_isWord ⟨Nat.le_of_ble_eq_true rfl, Nat.le_of_ble_eq_true rfl⟩) (wb_preEV (hP.sub (ws' := (wWX9 cB cI cZ a1 I1_l4 M1_l4)) [9, 10] rfl) hK (va_recv hK hP (ci := 9) (q0 := 9) rfl rfl) hZ hS) rfl rfl hl.1 rfl (lv_room (Nat.le_of_ble_eq_true rfl)) dX5_readLines_25 ⟨Nat.le_of_ble_eq_true rfl, Nat.le_of_ble_eq_true rfl⟩) (fun r9 e9 => ?_)
            rw [e9]
            refine lv_if_eq (tgt := 40) hx hb dX5_readLines_28 (by decide) (fun hc => ?_) (fun hc => ?_)
            · replace hf := wb_t hc hf
              refine lv_aload_n hx hb dX5_readLines_40 rfl (lv_at hl 1 rfl) ?_
              refine va_ldcS hx hb hown (hZ.2.1 4 (RX5, 73, "climate") rfl) dX5_readLines_41 ?_
              obtain ⟨r3, hr3, hf⟩ := wb_b hf
              refine vp_callSi (W.runV (As := [.ref (aK 4)]) (rest := []) ⟨hx, hb, hml, hown, hts⟩ (cn_X9_isWord l D cB cI cZ N aK aV a1 I1_l4 M1_l4 4 (by decide) r3 hr3) (cwV 1 hts gX5_readLines_X9_isWord rfl rfl rfl cdX9_isWord ⟨Nat.le_of_ble_eq_true rfl, Nat.le_of_ble_eq_true rfl⟩) (wb_preEV (hP.sub (ws' := (wWX9 cB cI cZ a1 I1_l4 M1_l4)) [9, 10] rfl) hK (va_recv hK hP (ci := 9) (q0 := 9) rfl rfl) hZ hS) rfl rfl hl.1 rfl (lv_room (Nat.le_of_ble_eq_true rfl)) dX5_readLines_43 ⟨Nat.le_of_ble_eq_true rfl, Nat.le_of_ble_eq_true rfl⟩) (fun r9 e9 => ?_)
              rw [e9]
              refine lv_if_eq (tgt := 61) hx hb dX5_readLines_46 (by decide) (fun hc => ?_) (fun hc => ?_)
              · replace hf := wb_t hc hf
                refine lv_aload_n hx hb dX5_readLines_61 rfl (lv_at hl 1 rfl) ?_
                refine va_ldcS hx hb hown (hZ.2.1 5 (RX5, 78, "hand") rfl) dX5_readLines_62 ?_
                obtain ⟨r4, hr4, hf⟩ := wb_b hf
                refine vp_callSi (W.runV (As := [.ref (aK 5)]) (rest := []) ⟨hx, hb, hml, hown, hts⟩ (cn_X9_isWord l D cB cI cZ N aK aV a1 I1_l4 M1_l4 5 (by decide) r4 hr4) (cwV 1 hts gX5_readLines_X9_isWord rfl rfl rfl cdX9_isWord ⟨Nat.le_of_ble_eq_true rfl, Nat.le_of_ble_eq_true rfl⟩) (wb_preEV (hP.sub (ws' := (wWX9 cB cI cZ a1 I1_l4 M1_l4)) [9, 10] rfl) hK (va_recv hK hP (ci := 9) (q0 := 9) rfl rfl) hZ hS) rfl rfl hl.1 rfl (lv_room (Nat.le_of_ble_eq_true rfl)) dX5_readLines_64 ⟨Nat.le_of_ble_eq_true rfl, Nat.le_of_ble_eq_true rfl⟩) (fun r9 e9 => ?_)
                rw [e9]
                refine lv_if_eq (tgt := 82) hx hb dX5_readLines_67 (by decide) (fun hc => ?_) (fun hc => ?_)
                · replace hf := wb_t hc hf
                  refine lv_aload_n hx hb dX5_readLines_82 rfl (lv_at hl 1 rfl) ?_
                  refine lv_iconst (v := (1 : Int32)) hx hb dX5_readLines_83 (by decide) ?_
                  obtain ⟨r5, hr5, hf⟩ := wb_b hf
                  have hPc := hP.sub (ws' := (wWX9 cB cI cZ a1 I1_l4 M1_l4)) [9, 10] rfl
                  have hDc := hD.sub (ws' := (wWX9 cB cI cZ a1 I1_l4 M1_l4)) [9, 10] (by decide) rfl
                  have hFc := va_free (wc := (wWX9 cB cI cZ a1 I1_l4 M1_l4)) hD hS hA [9, 10] rfl
                  refine va_calli (va_runV (As := [.int (1 : Int32)]) (rest := []) ⟨hx, hb, hml, hown, hts⟩ (cn_X9_refuse l D cB cI cZ N a1 I1_l4 M1_l4 (1 : Int32) H.size r5 hr5) (cwV 1 hts gX5_readLines_X9_refuse rfl rfl rfl cdX9_refuse ⟨Nat.le_of_ble_eq_true rfl, Nat.le_of_ble_eq_true rfl⟩) (wb_preDV hPc hK hDc (va_recv hK hP (ci := 9) (q0 := 9) rfl rfl)) rfl rfl hl.1 rfl (lv_room (Nat.le_of_ble_eq_true rfl)) dX5_readLines_84 ⟨Nat.le_of_ble_eq_true rfl, Nat.le_of_ble_eq_true rfl⟩) hS (fun q _ h => hFc q h) hFc (fun r9 u t H locs ht hvm hw hB hz1 hk1 hS => ?_)
                  obtain ⟨hP, hD⟩ := wb_join (wc := (wWX9 cB cI cZ a1 I1_l4 M1_l4)) (w1 := (wWX9 cB cI cZ a1 r5.2.1 r5.2.2)) (wf := ((wWX5 cB cI cZ a0 I0_l4 M0_l4) ++ (wWX9 cB cI cZ a1 r5.2.1 r5.2.2))) hP hD [9, 10] [0, 1, 2, 3, 4, 5, 6, 7, 8] [0, 1, 2, 3, 4, 5, 6, 7, 8, 9, 10] rfl rfl (by decide) (by decide) (by decide) rfl hk1 hFc ht hB
                  rw [hw]
                  obtain ⟨v6, ev6, hf⟩ := wb_v hf
                  refine wb_topi ev6 ?_
                  refine lv_istore_n (lv' := [(2, .int v6), (0, .ref (a0 0)), (1, .ref (a1 0)), (3, .int y4_3)]) hx hb dX5_readLines_87 rfl hl (by decide) rfl (fun ls hl => ?_)
                  obtain ⟨v7, ev7, hf⟩ := wb_v hf
                  refine lv_iinc (v := v7) (lv' := [(3, .int v7), (2, .int v6), (0, .ref (a0 0)), (1, .ref (a1 0))]) hx hb dX5_readLines_88 hl (k := 3) rfl (by rw [ev7]; rfl) (by decide) rfl (fun ls hl => ?_)
                  refine lv_goto (tgt := 4) hx hb dX5_readLines_91 (by decide) ?_
                  exact ih4 I0_l4 M0_l4 r5.2.1 r5.2.2 v6 v7 H locs hP hD hS ls (lv_sub hl [2, 3, 1, 0] rfl) hf
                · replace hf := wb_f hc hf
                  refine lv_aload_n hx hb dX5_readLines_70 rfl (lv_at hl 0 rfl) ?_
                  refine va_get (D := D) (ci := 5) (v := .ref (a0 7)) (C := RX5) (T := TX5) (N := 6) hx hb hts hinX5 hown hK hP 0 rfl rfl 5 (by decide) (hts (.fieldLink RX5 34 "WheelBook$House" "hands" "LWheelBook$Hands;") (List.mem_of_getElem? (i := 2) rfl)) (fun _ h9 => h9) rfl dX5_readLines_71 ?_
                  refine lv_aload_n hx hb dX5_readLines_74 rfl (lv_at hl 1 rfl) ?_
                  obtain ⟨r8, hr8, hf⟩ := wb_b hf
                  have hPc := hP.sub (ws' := ((wWX4 cB cI cZ (wb_sh a0 7) (wb_sh I0_l4 1) (wb_sh M0_l4 5)) ++ (wWX9 cB cI cZ a1 I1_l4 M1_l4))) [7, 8, 9, 10] rfl
                  have hDc := hD.sub (ws' := ((wWX4 cB cI cZ (wb_sh a0 7) (wb_sh I0_l4 1) (wb_sh M0_l4 5)) ++ (wWX9 cB cI cZ a1 I1_l4 M1_l4))) [7, 8, 9, 10] (by decide) rfl
                  have hFc := va_free (wc := ((wWX4 cB cI cZ (wb_sh a0 7) (wb_sh I0_l4 1) (wb_sh M0_l4 5)) ++ (wWX9 cB cI cZ a1 I1_l4 M1_l4))) hD hS hA [7, 8, 9, 10] rfl
                  refine va_calli (va_runV (As := [.ref (a1 0)]) (rest := []) ⟨hx, hb, hml, hown, hts⟩ (cn_X4_readHand l D cB cI cZ N aK aV (wb_sh a0 7) (wb_sh I0_l4 1) (wb_sh M0_l4 5) a1 I1_l4 M1_l4 H.size r8 hr8) (cwV 1 hts gX5_readLines_X4_readHand rfl rfl rfl cdX4_readHand ⟨Nat.le_of_ble_eq_true rfl, Nat.le_of_ble_eq_true rfl⟩) (wb_preDEV hPc hK hDc (va_recv hK hP (ci := 4) (q0 := 7) rfl rfl) hZ hS hFc) rfl rfl hl.1 rfl (lv_room (Nat.le_of_ble_eq_true rfl)) dX5_readLines_75 ⟨Nat.le_of_ble_eq_true rfl, Nat.le_of_ble_eq_true rfl⟩) hS (fun q _ h => hFc q h) hFc (fun r9 u t H locs ht hvm hw hB hz1 hk1 hS => ?_)
                  obtain ⟨hP, hD⟩ := wb_join (wc := ((wWX4 cB cI cZ (wb_sh a0 7) (wb_sh I0_l4 1) (wb_sh M0_l4 5)) ++ (wWX9 cB cI cZ a1 I1_l4 M1_l4))) (w1 := ((wWX4 cB cI cZ (wb_sh a0 7) r8.2.1 r8.2.2.1) ++ (wWX9 cB cI cZ a1 r8.2.2.2.1 r8.2.2.2.2))) (wf := ((wWX5 cB cI cZ a0 (wb_in I0_l4 1 1 r8.2.1) (wb_in M0_l4 5 1 r8.2.2.1)) ++ (wWX9 cB cI cZ a1 r8.2.2.2.1 r8.2.2.2.2))) hP hD [7, 8, 9, 10] [0, 1, 2, 3, 4, 5, 6] [0, 1, 2, 3, 4, 5, 6, 7, 8, 9, 10] rfl rfl (by decide) (by decide) (by decide) rfl hk1 hFc ht hB
                  rw [hw]
                  obtain ⟨I0_9, eI0_9, hf⟩ := wb_v hf
                  rw [← eI0_9] at hP hD
                  obtain ⟨M0_10, eM0_10, hf⟩ := wb_v hf
                  rw [← eM0_10] at hP hD
                  obtain ⟨v11, ev11, hf⟩ := wb_v hf
                  refine wb_topi ev11 ?_
                  refine lv_istore_n (lv' := [(2, .int v11), (0, .ref (a0 0)), (1, .ref (a1 0)), (3, .int y4_3)]) hx hb dX5_readLines_78 rfl hl (by decide) rfl (fun ls hl => ?_)
                  refine lv_goto (tgt := 88) hx hb dX5_readLines_79 (by decide) ?_
                  obtain ⟨v12, ev12, hf⟩ := wb_v hf
                  refine lv_iinc (v := v12) (lv' := [(3, .int v12), (2, .int v11), (0, .ref (a0 0)), (1, .ref (a1 0))]) hx hb dX5_readLines_88 hl (k := 3) rfl (by rw [ev12]; rfl) (by decide) rfl (fun ls hl => ?_)
                  refine lv_goto (tgt := 4) hx hb dX5_readLines_91 (by decide) ?_
                  exact ih4 I0_9 M0_10 r8.2.2.2.1 r8.2.2.2.2 v11 v12 H locs hP hD hS ls (lv_sub hl [2, 3, 1, 0] rfl) hf
              · replace hf := wb_f hc hf
                refine lv_aload_n hx hb dX5_readLines_49 rfl (lv_at hl 0 rfl) ?_
                refine va_get (D := D) (ci := 5) (v := .ref (a0 5)) (C := RX5) (T := TX5) (N := 6) hx hb hts hinX5 hown hK hP 0 rfl rfl 4 (by decide) (hts (.fieldLink RX5 27 "WheelBook$House" "climates" "LWheelBook$Climates;") (List.mem_of_getElem? (i := 1) rfl)) (fun _ h9 => h9) rfl dX5_readLines_50 ?_
                refine lv_aload_n hx hb dX5_readLines_53 rfl (lv_at hl 1 rfl) ?_
                obtain ⟨r13, hr13, hf⟩ := wb_b hf
                have hPc := hP.sub (ws' := ((wWX2 cB cI cZ (wb_sh a0 5) I0_l4 (wb_sh M0_l4 4)) ++ (wWX9 cB cI cZ a1 I1_l4 M1_l4))) [5, 6, 9, 10] rfl
                have hDc := hD.sub (ws' := ((wWX2 cB cI cZ (wb_sh a0 5) I0_l4 (wb_sh M0_l4 4)) ++ (wWX9 cB cI cZ a1 I1_l4 M1_l4))) [5, 6, 9, 10] (by decide) rfl
                have hFc := va_free (wc := ((wWX2 cB cI cZ (wb_sh a0 5) I0_l4 (wb_sh M0_l4 4)) ++ (wWX9 cB cI cZ a1 I1_l4 M1_l4))) hD hS hA [5, 6, 9, 10] rfl
                refine va_calli (va_runV (As := [.ref (a1 0)]) (rest := []) ⟨hx, hb, hml, hown, hts⟩ (cn_X2_readClimate l D cB cI cZ N (wb_sh a0 5) I0_l4 (wb_sh M0_l4 4) a1 I1_l4 M1_l4 H.size r13 hr13) (cwV 1 hts gX5_readLines_X2_readClimate rfl rfl rfl cdX2_readClimate ⟨Nat.le_of_ble_eq_true rfl, Nat.le_of_ble_eq_true rfl⟩) (wb_preDV hPc hK hDc (va_recv hK hP (ci := 2) (q0 := 5) rfl rfl)) rfl rfl hl.1 rfl (lv_room (Nat.le_of_ble_eq_true rfl)) dX5_readLines_54 ⟨Nat.le_of_ble_eq_true rfl, Nat.le_of_ble_eq_true rfl⟩) hS (fun q _ h => hFc q h) hFc (fun r9 u t H locs ht hvm hw hB hz1 hk1 hS => ?_)
                obtain ⟨hP, hD⟩ := wb_join (wc := ((wWX2 cB cI cZ (wb_sh a0 5) I0_l4 (wb_sh M0_l4 4)) ++ (wWX9 cB cI cZ a1 I1_l4 M1_l4))) (w1 := ((wWX2 cB cI cZ (wb_sh a0 5) r13.2.1 r13.2.2.1) ++ (wWX9 cB cI cZ a1 r13.2.2.2.1 r13.2.2.2.2))) (wf := ((wWX5 cB cI cZ a0 (wb_in I0_l4 0 1 r13.2.1) (wb_in M0_l4 4 1 r13.2.2.1)) ++ (wWX9 cB cI cZ a1 r13.2.2.2.1 r13.2.2.2.2))) hP hD [5, 6, 9, 10] [0, 1, 2, 3, 4, 7, 8] [0, 1, 2, 3, 4, 7, 8, 5, 6, 9, 10] rfl rfl (by decide) (by decide) (by decide) rfl hk1 hFc ht hB
                rw [hw]
                obtain ⟨I0_14, eI0_14, hf⟩ := wb_v hf
                rw [← eI0_14] at hP hD
                obtain ⟨M0_15, eM0_15, hf⟩ := wb_v hf
                rw [← eM0_15] at hP hD
                obtain ⟨v16, ev16, hf⟩ := wb_v hf
                refine wb_topi ev16 ?_
                refine lv_istore_n (lv' := [(2, .int v16), (0, .ref (a0 0)), (1, .ref (a1 0)), (3, .int y4_3)]) hx hb dX5_readLines_57 rfl hl (by decide) rfl (fun ls hl => ?_)
                refine lv_goto (tgt := 88) hx hb dX5_readLines_58 (by decide) ?_
                obtain ⟨v17, ev17, hf⟩ := wb_v hf
                refine lv_iinc (v := v17) (lv' := [(3, .int v17), (2, .int v16), (0, .ref (a0 0)), (1, .ref (a1 0))]) hx hb dX5_readLines_88 hl (k := 3) rfl (by rw [ev17]; rfl) (by decide) rfl (fun ls hl => ?_)
                refine lv_goto (tgt := 4) hx hb dX5_readLines_91 (by decide) ?_
                exact ih4 I0_14 M0_15 r13.2.2.2.1 r13.2.2.2.2 v16 v17 H locs hP hD hS ls (lv_sub hl [2, 3, 1, 0] rfl) hf
            · replace hf := wb_f hc hf
              refine lv_aload_n hx hb dX5_readLines_31 rfl (lv_at hl 0 rfl) ?_
              refine lv_aload_n hx hb dX5_readLines_32 rfl (lv_at hl 1 rfl) ?_
              obtain ⟨r18, hr18, hf⟩ := wb_b hf
              have hPc := hP.sub (ws' := ((wWX5 cB cI cZ a0 I0_l4 M0_l4) ++ (wWX9 cB cI cZ a1 I1_l4 M1_l4))) [0, 1, 2, 3, 4, 5, 6, 7, 8, 9, 10] rfl
              have hDc := hD.sub (ws' := ((wWX5 cB cI cZ a0 I0_l4 M0_l4) ++ (wWX9 cB cI cZ a1 I1_l4 M1_l4))) [0, 1, 2, 3, 4, 5, 6, 7, 8, 9, 10] (by decide) rfl
              have hFc := va_free (wc := ((wWX5 cB cI cZ a0 I0_l4 M0_l4) ++ (wWX9 cB cI cZ a1 I1_l4 M1_l4))) hD hS hA [0, 1, 2, 3, 4, 5, 6, 7, 8, 9, 10] rfl
              refine va_calli (va_runV (As := [.ref (a1 0)]) (rest := []) ⟨hx, hb, hml, hown, hts⟩ (cn_X5_readSet l D cB cI cZ N aK aV a0 I0_l4 M0_l4 a1 I1_l4 M1_l4 H.size r18 hr18) (cwV 1 hts gX5_readLines_X5_readSet rfl rfl rfl cdX5_readSet ⟨Nat.le_of_ble_eq_true rfl, Nat.le_of_ble_eq_true rfl⟩) (wb_preDEV hPc hK hDc (va_recv hK hP (ci := 5) (q0 := 0) rfl rfl) hZ hS hFc) rfl rfl hl.1 rfl (lv_room (Nat.le_of_ble_eq_true rfl)) dX5_readLines_33 ⟨Nat.le_of_ble_eq_true rfl, Nat.le_of_ble_eq_true rfl⟩) hS (fun q _ h => hFc q h) hFc (fun r9 u t H locs ht hvm hw hB hz1 hk1 hS => ?_)
              obtain ⟨hP, hD⟩ := wb_join (wc := ((wWX5 cB cI cZ a0 I0_l4 M0_l4) ++ (wWX9 cB cI cZ a1 I1_l4 M1_l4))) (w1 := ((wWX5 cB cI cZ a0 r18.2.1 r18.2.2.1) ++ (wWX9 cB cI cZ a1 r18.2.2.2.1 r18.2.2.2.2))) (wf := ((wWX5 cB cI cZ a0 r18.2.1 r18.2.2.1) ++ (wWX9 cB cI cZ a1 r18.2.2.2.1 r18.2.2.2.2))) hP hD [0, 1, 2, 3, 4, 5, 6, 7, 8, 9, 10] [] [0, 1, 2, 3, 4, 5, 6, 7, 8, 9, 10] rfl rfl (by decide) (by decide) (by decide) rfl hk1 hFc ht hB
              rw [hw]
              obtain ⟨v19, ev19, hf⟩ := wb_v hf
              refine wb_topi ev19 ?_
              refine lv_istore_n (lv' := [(2, .int v19), (0, .ref (a0 0)), (1, .ref (a1 0)), (3, .int y4_3)]) hx hb dX5_readLines_36 rfl hl (by decide) rfl (fun ls hl => ?_)
              refine lv_goto (tgt := 88) hx hb dX5_readLines_37 (by decide) ?_
              obtain ⟨v20, ev20, hf⟩ := wb_v hf
              refine lv_iinc (v := v20) (lv' := [(3, .int v20), (2, .int v19), (0, .ref (a0 0)), (1, .ref (a1 0))]) hx hb dX5_readLines_88 hl (k := 3) rfl (by rw [ev20]; rfl) (by decide) rfl (fun ls hl => ?_)
              refine lv_goto (tgt := 4) hx hb dX5_readLines_91 (by decide) ?_
              exact ih4 r18.2.1 r18.2.2.1 r18.2.2.2.1 r18.2.2.2.2 v19 v20 H locs hP hD hS ls (lv_sub hl [2, 3, 1, 0] rfl) hf
  exact L4 N I0 M0 I1 M1 (1 : Int32) (0 : Int32) H locs hP hD hS ls (lv_sub hl [2, 3, 1, 0] rfl) hf

set_option maxHeartbeats 4000000 in
set_option maxRecDepth 100000 in
theorem cn_J7_fill_53178 (l : Launch) (D : va_G) (cB cI cZ : ClassId) (N : Nat) (b0 : Nat) (n0 : Nat) (f0 : Nat → Int32) (x1 : Int32) (sz : Nat) (R : (Nat → Int32)) (hf : fJ7_fill_53178 N n0 f0 x1 = some R) : Met l yJ7_fill_53178 wsJ7_fill_53178 ({ frames := 0, cells := 0, slots := 0, locals := 0 }) (va_Pc [.ref b0, .int x1] (wb_preD D [(cB, .byte), (cI, .int), (cZ, .boolean)] ([(b0, .inl (cI, n0, .inl f0))] : va_W) sz)) (va_Qv (fun _ : Unit => True) (fun _ t => wb_post D [(cB, .byte), (cI, .int), (cZ, .boolean)] (va_A ([(b0, .inl (cI, n0, .inl f0))] : va_W) sz) ([(b0, .inl (cI, n0, .inl R))] : va_W) t) (va_A ([(b0, .inl (cI, n0, .inl f0))] : va_W) sz)) 0 0 (va_A ([(b0, .inl (cI, n0, .inl f0))] : va_W) sz) := by
  refine va_MetF (cc := cJ7_fill_53178) (maxL := 4) (ret := none) (by decide +kernel) rfl ?_
  intro p e s m args below meth c s₁ B hml hv
  obtain ⟨rfl, hsz, hP, hK, hD0⟩ := hv
  have hx := B.exec
  have hb := B.bytes
  have hr := B.returns
  have hts := atoms_spec (ws := wsJ7_fill_53178) B.pre
  have hown : s.vm.findClass RJ7 = some m.cls := findClass_of_methodNamed B.named
  have hlocks := B.notSynchronized
  subst hsz
  have hD := hD0.self (sz := s.heap.size)
  generalize hAe : va_A ([(b0, .inl (cI, n0, .inl f0))] : va_W) s.heap.size = A at hD ⊢
  have hA : ∀ q : Nat, s.heap.size ≤ q → A q := fun q h => by rw [← hAe]; exact Or.inr h
  have hS : va_S A s.heap s.heap [] := va_S.rf
  have hl := lv_entry ([.ref b0, .int x1]) (n := 4) (Nat.le_of_ble_eq_true rfl)
  rw [lg_entry_eq]
  generalize (lg_sl ([.ref b0, .int x1]) ++ List.replicate (4 - (lg_sl ([.ref b0, .int x1])).length) Slot.unset).toArray = ls at hl ⊢
  have hl : lv_has ls 4 [(0, .ref b0), (1, .int x1)] := hl
  unfold fJ7_fill_53178 at hf
  obtain ⟨H, hHe⟩ : ∃ H : Heap, H = s.heap := ⟨_, rfl⟩
  obtain ⟨locs, hle⟩ : ∃ locs : List Loc, locs = [] := ⟨_, rfl⟩
  refine wb_start (H := H) (locs := locs) hHe hle ?_
  rw [← hHe] at hP
  have hS : va_S A s.heap H locs := by rw [hHe, hle]; exact va_S.rf
  refine lv_iconst (v := (0 : Int32)) hx hb dJ7_fill_53178_0 (by decide) ?_
  refine lv_istore_n (lv' := [(2, .int (0 : Int32)), (0, .ref b0), (1, .int x1)]) hx hb dJ7_fill_53178_1 rfl hl (by decide) rfl (fun ls hl => ?_)
  refine lv_aload_n hx hb dJ7_fill_53178_2 rfl (lv_at hl 1 rfl) ?_
  refine va_alen (v := (Int32.ofNat n0)) hx hb hK hP 0 1 rfl rfl (by rfl) dJ7_fill_53178_3 ?_
  obtain ⟨v1, ev1, hf⟩ := wb_v hf
  refine wb_topi ev1 ?_
  refine lv_istore_n (lv' := [(3, .int v1), (2, .int (0 : Int32)), (0, .ref b0), (1, .int x1)]) hx hb dJ7_fill_53178_4 rfl hl (by decide) rfl (fun ls hl => ?_)
  have L5 : ∀ (fu5 : Nat) (f0_l5 : Nat → Int32) (y5_2 : Int32) (H : Heap) (locs : List Loc), va_P D vwCl ([(b0, .inl (cI, n0, .inl f0_l5))] : va_W) H → va_D A ([(b0, .inl (cI, n0, .inl f0_l5))] : va_W) → va_S A s.heap H locs → ∀ (ls : Array Slot), lv_has ls 4 [(0, .ref b0), (1, .int x1), (2, .int y5_2), (3, .int v1)] → fJ7_fill_53178_L5 N n0 x1 v1 fu5 f0_l5 y5_2 = some R → W p l e (headSpec wsJ7_fill_53178 { frames := 0, cells := 0, slots := 0, locals := 0 }).room s m [.ref b0, .int x1].toArray below meth c H locs 0 0 (MQ below (va_Qv (fun _ : Unit => True) (fun _ t => wb_post D [(cB, .byte), (cI, .int), (cZ, .boolean)] A ([(b0, .inl (cI, n0, .inl R))] : va_W) t) A) [.ref b0, .int x1].toArray s 0 0 A) (F0 m 5 ls []) := by
    intro fu5
    induction fu5 with
    | zero =>
      intro f0_l5 y5_2 H locs hP hD hS ls hl hf
      exact absurd hf (by rw [fJ7_fill_53178_L5.eq_1]; exact fun h => nomatch h)
    | succ fu5 ih5 =>
      intro f0_l5 y5_2 H locs hP hD hS ls hl hf
      rw [fJ7_fill_53178_L5.eq_2] at hf
      refine lv_iload_n hx hb dJ7_fill_53178_5 rfl (lv_at hl 2 rfl) ?_
      refine lv_iload_n hx hb dJ7_fill_53178_6 rfl (lv_at hl 3 rfl) ?_
      refine lv_icmp_ge (tgt := 20) hx hb dJ7_fill_53178_7 (by decide) (fun hc => ?_) (fun hc => ?_)
      · replace hf := wb_t hc hf
        exact W.vret hx hb hr (fun t ht hW => by rw [← Option.some.inj hf]; exact ⟨⟨(), rfl, trivial, by rw [ht]; exact hP, va_K.moved hW.alike hK, hD⟩, hS.F ht⟩) hS.2.2 dJ7_fill_53178_20
      · replace hf := wb_f hc hf
        refine lv_aload_n hx hb dJ7_fill_53178_10 rfl (lv_at hl 0 rfl) ?_
        refine lv_iload_n hx hb dJ7_fill_53178_11 rfl (lv_at hl 2 rfl) ?_
        refine lv_iload_n hx hb dJ7_fill_53178_12 rfl (lv_at hl 1 rfl) ?_
        obtain ⟨hin, hf⟩ := wb_n hf
        refine va_iast hx hb hK hP hD hS 0 1 rfl rfl hin dJ7_fill_53178_13 (fun H locs hP hD hS => ?_)
        have hP : va_P D vwCl ([(b0, .inl (cI, n0, .inl (upd f0_l5 (y5_2).toNatClampNeg x1)))] : va_W) H := hP
        have hD : va_D A ([(b0, .inl (cI, n0, .inl (upd f0_l5 (y5_2).toNatClampNeg x1)))] : va_W) := hD
        obtain ⟨f0_2, ef0_2, hf⟩ := wb_v hf
        rw [← ef0_2] at hP hD
        obtain ⟨v3, ev3, hf⟩ := wb_v hf
        refine lv_iinc (v := v3) (lv' := [(2, .int v3), (0, .ref b0), (1, .int x1), (3, .int v1)]) hx hb dJ7_fill_53178_14 hl (k := 2) rfl (by rw [ev3]; rfl) (by decide) rfl (fun ls hl => ?_)
        refine lv_goto (tgt := 5) hx hb dJ7_fill_53178_17 (by decide) ?_
        exact ih5 f0_2 v3 H locs hP hD hS ls (lv_sub hl [1, 2, 0, 3] rfl) hf
  exact L5 N f0 (0 : Int32) H locs hP hD hS ls (lv_sub hl [2, 3, 1, 0] rfl) hf

set_option maxHeartbeats 4000000 in
set_option maxRecDepth 100000 in
theorem cn_X1_isNew (l : Launch) (D : va_G) (cB cI cZ : ClassId) (N : Nat) (a0 : Nat → Nat) (I0 : Nat → Int32) (M0 : Nat → Nat → Int32) (a1 : Nat → Nat) (I1 : Nat → Int32) (M1 : Nat → Nat → Int32) (x2 : Int32) (sz : Nat) (R : Int32 × (Nat → Int32) × (Nat → Nat → Int32)) (hf : fX1_isNew N I0 M0 I1 M1 x2 = some R) : Met l yX1_isNew wsX1_isNew ({ frames := 2, cells := 0, slots := 0, locals := 40 }) (va_Pc [.ref (a0 0), .ref (a1 0), .int x2] (wb_preD D [(cB, .byte), (cI, .int), (cZ, .boolean)] ((wWX1 cB cI cZ a0 I0 M0) ++ (wWX9 cB cI cZ a1 I1 M1)) sz)) (va_Qi (fun r (_ : Unit) => r = R.1) (fun _ t => wb_post D [(cB, .byte), (cI, .int), (cZ, .boolean)] (va_A ((wWX1 cB cI cZ a0 I0 M0) ++ (wWX9 cB cI cZ a1 I1 M1)) sz) ((wWX1 cB cI cZ a0 I0 M0) ++ (wWX9 cB cI cZ a1 R.2.1 R.2.2)) t) (va_A ((wWX1 cB cI cZ a0 I0 M0) ++ (wWX9 cB cI cZ a1 I1 M1)) sz)) 0 0 (va_A ((wWX1 cB cI cZ a0 I0 M0) ++ (wWX9 cB cI cZ a1 I1 M1)) sz) := by
  refine Met.ofW (cc := cX1_isNew) (maxL := 3) (ret := (some .boolean)) (by decide) rfl ?_
  intro p e s m args below meth c s₁ B hml hv
  obtain ⟨rfl, hsz, hP, hK, hD0⟩ := hv
  have hx := B.exec
  have hb := B.bytes
  have hr := B.returns
  have hts := atoms_spec (ws := wsX1_isNew) B.pre
  have hown : s.vm.findClass RX1 = some m.cls := findClass_of_methodNamed B.named
  have hlocks := B.notSynchronized
  have hinX1 : ∀ w ∈ u_ws RX1 TX1 2, w ∈ wsX1_isNew := fun w h => List.mem_cons_of_mem _ (List.mem_append_left _ (List.mem_append_right _ h))
  subst hsz
  have hD := hD0.self (sz := s.heap.size)
  generalize hAe : va_A ((wWX1 cB cI cZ a0 I0 M0) ++ (wWX9 cB cI cZ a1 I1 M1)) s.heap.size = A at hD ⊢
  have hA : ∀ q : Nat, s.heap.size ≤ q → A q := fun q h => by rw [← hAe]; exact Or.inr h
  have hS : va_S A s.heap s.heap [] := va_S.rf
  have hl := lv_entry ([.ref (a0 0), .ref (a1 0), .int x2]) (n := 3) (Nat.le_of_ble_eq_true rfl)
  rw [lg_entry_eq]
  generalize (lg_sl ([.ref (a0 0), .ref (a1 0), .int x2]) ++ List.replicate (3 - (lg_sl ([.ref (a0 0), .ref (a1 0), .int x2])).length) Slot.unset).toArray = ls at hl ⊢
  have hl : lv_has ls 3 [(0, .ref (a0 0)), (1, .ref (a1 0)), (2, .int x2)] := hl
  unfold fX1_isNew at hf
  obtain ⟨H, hHe⟩ : ∃ H : Heap, H = s.heap := ⟨_, rfl⟩
  obtain ⟨locs, hle⟩ : ∃ locs : List Loc, locs = [] := ⟨_, rfl⟩
  refine wb_start (H := H) (locs := locs) hHe hle ?_
  rw [← hHe] at hP
  have hS : va_S A s.heap H locs := by rw [hHe, hle]; exact va_S.rf
  refine lv_aload_n hx hb dX1_isNew_0 rfl (lv_at hl 0 rfl) ?_
  refine va_get (D := D) (ci := 1) (v := .ref (a0 2)) (C := RX1) (T := TX1) (N := 2) hx hb hts hinX1 hown hK hP 0 rfl rfl 1 (by decide) (hts (.fieldLink RX1 15 "WheelBook$Books" "draft" "[I") (List.mem_of_getElem? (i := 1) rfl)) (fun _ h9 => h9) rfl dX1_isNew_1 ?_
  refine lv_iload_n hx hb dX1_isNew_4 rfl (lv_at hl 2 rfl) ?_
  obtain ⟨hin, hf⟩ := wb_n hf
  refine va_iald hx hb hK hP 2 1 rfl rfl hin dX1_isNew_5 ?_
  refine lv_iconst (v := (-1 : Int32)) hx hb dX1_isNew_6 (by decide) ?_
  refine lv_icmp_eq (tgt := 16) hx hb dX1_isNew_7 (by decide) (fun hc => ?_) (fun hc => ?_)
  · replace hf := wb_t hc hf
    refine lv_aload_n hx hb dX1_isNew_16 rfl (lv_at hl 1 rfl) ?_
    obtain ⟨r1, hr1, hf⟩ := wb_b hf
    have hPc := hP.sub (ws' := (wWX9 cB cI cZ a1 I1 M1)) [3, 4] rfl
    have hDc := hD.sub (ws' := (wWX9 cB cI cZ a1 I1 M1)) [3, 4] (by decide) rfl
    have hFc := va_free (wc := (wWX9 cB cI cZ a1 I1 M1)) hD hS hA [3, 4] rfl
    refine va_callv (va_runV (As := []) (rest := []) ⟨hx, hb, hml, hown, hts⟩ (cn_X9_step l D cB cI cZ N a1 I1 M1 H.size r1 hr1) (cwV 0 hts gX1_isNew_X9_step rfl rfl rfl cdX9_step ⟨Nat.le_of_ble_eq_true rfl, Nat.le_of_ble_eq_true rfl⟩) (wb_preDV hPc hK hDc (va_recv hK hP (ci := 9) (q0 := 3) rfl rfl)) rfl rfl hl.1 rfl (lv_room (Nat.le_of_ble_eq_true rfl)) dX1_isNew_17 ⟨Nat.le_of_ble_eq_true rfl, Nat.le_of_ble_eq_true rfl⟩) hS (fun q _ h => hFc q h) hFc (fun u t H locs ht hvm hw hB hz1 hk1 hS => ?_)
    obtain ⟨hP, hD⟩ := wb_join (wc := (wWX9 cB cI cZ a1 I1 M1)) (w1 := (wWX9 cB cI cZ a1 r1.1 r1.2)) (wf := ((wWX1 cB cI cZ a0 I0 M0) ++ (wWX9 cB cI cZ a1 r1.1 r1.2))) hP hD [3, 4] [0, 1, 2] [0, 1, 2, 3, 4] rfl rfl (by decide) (by decide) (by decide) rfl hk1 hFc ht hB
    refine lv_iconst (v := (1 : Int32)) hx hb dX1_isNew_20 (by decide) ?_
    exact W.zret (v := (1 : Int32)) hx hb hr (by decide) (fun t ht hW => by rw [← Option.some.inj hf]; exact ⟨⟨(1 : Int32), (), rfl, rfl, by rw [ht]; exact hP, va_K.moved hW.alike hK, hD⟩, hS.F ht⟩) hS.2.2 dX1_isNew_21
  · replace hf := wb_f hc hf
    refine lv_aload_n hx hb dX1_isNew_10 rfl (lv_at hl 1 rfl) ?_
    refine lv_iconst (v := (3 : Int32)) hx hb dX1_isNew_11 (by decide) ?_
    obtain ⟨r2, hr2, hf⟩ := wb_b hf
    have hPc := hP.sub (ws' := (wWX9 cB cI cZ a1 I1 M1)) [3, 4] rfl
    have hDc := hD.sub (ws' := (wWX9 cB cI cZ a1 I1 M1)) [3, 4] (by decide) rfl
    have hFc := va_free (wc := (wWX9 cB cI cZ a1 I1 M1)) hD hS hA [3, 4] rfl
    refine va_calli (va_runV (As := [.int (3 : Int32)]) (rest := []) ⟨hx, hb, hml, hown, hts⟩ (cn_X9_refuse l D cB cI cZ N a1 I1 M1 (3 : Int32) H.size r2 hr2) (cwV 1 hts gX1_isNew_X9_refuse rfl rfl rfl cdX9_refuse ⟨Nat.le_of_ble_eq_true rfl, Nat.le_of_ble_eq_true rfl⟩) (wb_preDV hPc hK hDc (va_recv hK hP (ci := 9) (q0 := 3) rfl rfl)) rfl rfl hl.1 rfl (lv_room (Nat.le_of_ble_eq_true rfl)) dX1_isNew_12 ⟨Nat.le_of_ble_eq_true rfl, Nat.le_of_ble_eq_true rfl⟩) hS (fun q _ h => hFc q h) hFc (fun r9 u t H locs ht hvm hw hB hz1 hk1 hS => ?_)
    obtain ⟨hP, hD⟩ := wb_join (wc := (wWX9 cB cI cZ a1 I1 M1)) (w1 := (wWX9 cB cI cZ a1 r2.2.1 r2.2.2)) (wf := ((wWX1 cB cI cZ a0 I0 M0) ++ (wWX9 cB cI cZ a1 r2.2.1 r2.2.2))) hP hD [3, 4] [0, 1, 2] [0, 1, 2, 3, 4] rfl rfl (by decide) (by decide) (by decide) rfl hk1 hFc ht hB
    rw [hw]
    obtain ⟨hz, hf⟩ := wb_y hf
    exact W.zret (v := r2.1) hx hb hr (congrArg Value.int hz) (fun t ht hW => by rw [← Option.some.inj hf]; exact ⟨⟨r2.1, (), rfl, rfl, by rw [ht]; exact hP, va_K.moved hW.alike hK, hD⟩, hS.F ht⟩) hS.2.2 dX1_isNew_15
