set_option maxHeartbeats 4000000 in
set_option maxRecDepth 100000 in
theorem cn_X3_costOn (l : Launch) (D : va_G) (cB cI cZ : ClassId) (N : Nat) (a0 : Nat → Nat) (I0 : Nat → Int32) (M0 : Nat → Nat → Int32) (a1 : Nat → Nat) (I1 : Nat → Int32) (M1 : Nat → Nat → Int32) (x2 : Int32) (x3 : Int32) (x4 : Int32) (x5 : Int32) (R : Int32) (hf : fX3_costOn N I0 M0 I1 M1 x2 x3 x4 x5 = some R) : Met l yX3_costOn wsX3_costOn ({ frames := 4, cells := 0, slots := 0, locals := 115 }) (va_Pc [.ref (a0 0), .ref (a1 0), .int x2, .int x3, .int x4, .int x5] (wb_pre D [(cB, .byte), (cI, .int), (cZ, .boolean)] ((wWX5 cB cI cZ a0 I0 M0) ++ (wWX1 cB cI cZ a1 I1 M1)))) (vp_Si (fun r => r = R)) 0 0 (fun _ => False) := by
  refine Met.ofW (cc := cX3_costOn) (maxL := 10) (ret := (some .int)) (by decide) rfl ?_
  intro p e s m args below meth c s₁ B hml hv
  obtain ⟨rfl, hP, hK⟩ := hv
  have hx := B.exec
  have hb := B.bytes
  have hr := B.returns
  have hts := atoms_spec (ws := wsX3_costOn) B.pre
  have hown : s.vm.findClass RX3 = some m.cls := findClass_of_methodNamed B.named
  have hlocks := B.notSynchronized
  have hinX5 : ∀ w ∈ u_ws RX5 TX5 6, w ∈ wsX3_costOn := fun w h => List.mem_cons_of_mem _ (List.mem_append_left _ (List.mem_append_left _ (List.mem_append_right _ h)))
  have hl := lv_entry ([.ref (a0 0), .ref (a1 0), .int x2, .int x3, .int x4, .int x5]) (n := 10) (Nat.le_of_ble_eq_true rfl)
  rw [lg_entry_eq]
  generalize (lg_sl ([.ref (a0 0), .ref (a1 0), .int x2, .int x3, .int x4, .int x5]) ++ List.replicate (10 - (lg_sl ([.ref (a0 0), .ref (a1 0), .int x2, .int x3, .int x4, .int x5])).length) Slot.unset).toArray = ls at hl ⊢
  have hl : lv_has ls 10 [(0, .ref (a0 0)), (1, .ref (a1 0)), (2, .int x2), (3, .int x3), (4, .int x4), (5, .int x5)] := hl
  unfold fX3_costOn at hf
  have J32 : ∀ (z32_0 : Int32), ∀ (ls : Array Slot), lv_has ls 10 [(0, .ref (a0 0)), (1, .ref (a1 0)), (2, .int x2), (3, .int x3), (4, .int x4), (5, .int x5)] → fX3_costOn_J32 N I0 M0 I1 M1 x2 x3 x4 x5 z32_0 = some R → W p l e (headSpec wsX3_costOn { frames := 4, cells := 0, slots := 0, locals := 115 }).room s m [.ref (a0 0), .ref (a1 0), .int x2, .int x3, .int x4, .int x5].toArray below meth c s.heap [] 0 0 (MQ below (vp_Si (fun r => r = R)) [.ref (a0 0), .ref (a1 0), .int x2, .int x3, .int x4, .int x5].toArray s 0 0 (fun _ => False)) (F0 m 32 ls [.int z32_0]) := by
    intro z32_0 ls hl hf
    unfold fX3_costOn_J32 at hf
    refine lv_istore (lv' := [(7, .int z32_0), (0, .ref (a0 0)), (1, .ref (a1 0)), (2, .int x2), (3, .int x3), (4, .int x4), (5, .int x5)]) hx hb dX3_costOn_32 hl (by decide) rfl (fun ls hl => ?_)
    refine lv_iconst (v := (0 : Int32)) hx hb dX3_costOn_34 (by decide) ?_
    refine lv_istore (lv' := [(8, .int (0 : Int32)), (7, .int z32_0), (0, .ref (a0 0)), (1, .ref (a1 0)), (2, .int x2), (3, .int x3), (4, .int x4), (5, .int x5)]) hx hb dX3_costOn_35 hl (by decide) rfl (fun ls hl => ?_)
    have L37 : ∀ (fu37 : Nat) (y37_7 : Int32) (y37_8 : Int32), ∀ (ls : Array Slot), lv_has ls 10 [(0, .ref (a0 0)), (1, .ref (a1 0)), (2, .int x2), (3, .int x3), (4, .int x4), (5, .int x5), (7, .int y37_7), (8, .int y37_8)] → fX3_costOn_L37 N I0 M0 I1 M1 x2 x3 x4 x5 fu37 y37_7 y37_8 = some R → W p l e (headSpec wsX3_costOn { frames := 4, cells := 0, slots := 0, locals := 115 }).room s m [.ref (a0 0), .ref (a1 0), .int x2, .int x3, .int x4, .int x5].toArray below meth c s.heap [] 0 0 (MQ below (vp_Si (fun r => r = R)) [.ref (a0 0), .ref (a1 0), .int x2, .int x3, .int x4, .int x5].toArray s 0 0 (fun _ => False)) (F0 m 37 ls []) := by
      intro fu37
      induction fu37 with
      | zero =>
        intro y37_7 y37_8 ls hl hf
        exact absurd hf (by rw [fX3_costOn_L37.eq_1]; exact fun h => nomatch h)
      | succ fu37 ih37 =>
        intro y37_7 y37_8 ls hl hf
        rw [fX3_costOn_L37.eq_2] at hf
        refine lv_iload hx hb dX3_costOn_37 (lv_at hl 7 rfl) ?_
        refine lv_bipush (v := (7 : Int32)) hx hb dX3_costOn_39 (by decide) ?_
        refine lv_icmp_ge (tgt := 95) hx hb dX3_costOn_41 (by decide) (fun hc => ?_) (fun hc => ?_)
        · replace hf := wb_t hc hf
          refine lv_iload hx hb dX3_costOn_95 (lv_at hl 6 rfl) ?_
          exact W.iret (v := y37_7) hx hb hr (fun t ht hW => ⟨_, rfl, Option.some.inj hf, ht⟩) (fun _ h => nomatch h) dX3_costOn_97
        · replace hf := wb_f hc hf
          refine lv_iload hx hb dX3_costOn_44 (lv_at hl 6 rfl) ?_
          refine lv_iload hx hb dX3_costOn_46 (lv_at hl 5 rfl) ?_
          refine lv_icmp_gt (tgt := 95) hx hb dX3_costOn_48 (by decide) (fun hc => ?_) (fun hc => ?_)
          · replace hf := wb_t hc hf
            refine lv_iload hx hb dX3_costOn_95 (lv_at hl 6 rfl) ?_
            exact W.iret (v := y37_7) hx hb hr (fun t ht hW => ⟨_, rfl, Option.some.inj hf, ht⟩) (fun _ h => nomatch h) dX3_costOn_97
          · replace hf := wb_f hc hf
            refine lv_aload_n hx hb dX3_costOn_51 rfl (lv_at hl 1 rfl) ?_
            refine lv_iload_n hx hb dX3_costOn_52 rfl (lv_at hl 2 rfl) ?_
            refine lv_iload hx hb dX3_costOn_53 (lv_at hl 7 rfl) ?_
            obtain ⟨r1, hr1, hf⟩ := wb_b hf
            refine vp_callSi (W.runV (As := [.int x2, .int y37_8]) (rest := []) ⟨hx, hb, hml, hown, hts⟩ (cn_X1_degreeOf l D cB cI cZ N a1 I1 M1 x2 y37_8 r1 hr1) (cwV 2 hts gX3_costOn_X1_degreeOf rfl rfl rfl cdX1_degreeOf ⟨Nat.le_of_ble_eq_true rfl, Nat.le_of_ble_eq_true rfl⟩) (wb_preV (hP.sub (ws' := (wWX1 cB cI cZ a1 I1 M1)) [9, 10, 11] rfl) hK (va_recv hK hP (ci := 1) (q0 := 9) rfl rfl)) rfl rfl hl.1 rfl (lv_room (Nat.le_of_ble_eq_true rfl)) dX3_costOn_55 ⟨Nat.le_of_ble_eq_true rfl, Nat.le_of_ble_eq_true rfl⟩) (fun r9 e9 => ?_)
            rw [e9]
            refine lv_istore (lv' := [(9, .int r1), (0, .ref (a0 0)), (1, .ref (a1 0)), (2, .int x2), (3, .int x3), (4, .int x4), (5, .int x5), (7, .int y37_7), (8, .int y37_8)]) hx hb dX3_costOn_58 hl (by decide) rfl (fun ls hl => ?_)
            refine lv_iload hx hb dX3_costOn_60 (lv_at hl 0 rfl) ?_
            refine lv_iconst (v := (-1 : Int32)) hx hb dX3_costOn_62 (by decide) ?_
            refine lv_icmp_eq (tgt := 89) hx hb dX3_costOn_63 (by decide) (fun hc => ?_) (fun hc => ?_)
            · replace hf := wb_t hc hf
              obtain ⟨v2, ev2, hf⟩ := wb_v hf
              refine lv_iinc (v := v2) (lv' := [(8, .int v2), (9, .int r1), (0, .ref (a0 0)), (1, .ref (a1 0)), (2, .int x2), (3, .int x3), (4, .int x4), (5, .int x5), (7, .int y37_7)]) hx hb dX3_costOn_89 hl (k := 8) rfl (by rw [ev2]; rfl) (by decide) rfl (fun ls hl => ?_)
              refine lv_goto (tgt := 37) hx hb dX3_costOn_92 (by decide) ?_
              exact ih37 y37_7 v2 ls (lv_sub hl [2, 3, 4, 5, 6, 7, 8, 0] rfl) hf
            · replace hf := wb_f hc hf
              refine lv_iload hx hb dX3_costOn_66 (lv_at hl 7 rfl) ?_
              refine lv_aload_n hx hb dX3_costOn_68 rfl (lv_at hl 1 rfl) ?_
              refine va_get (D := D) (ci := 5) (v := .ref (a0 7)) (C := RX5) (T := TX5) (N := 6) hx hb hts hinX5 hown hK hP 0 rfl rfl 5 (by decide) (hts (.fieldLink RX3 21 "WheelBook$House" "hands" "LWheelBook$Hands;") (List.mem_of_getElem? (i := 1) rfl)) (fun _ h9 => h9) rfl dX3_costOn_69 ?_
              refine lv_iload hx hb dX3_costOn_72 (lv_at hl 0 rfl) ?_
              refine lv_aload_n hx hb dX3_costOn_74 rfl (lv_at hl 1 rfl) ?_
              refine lv_iload_n hx hb dX3_costOn_75 rfl (lv_at hl 4 rfl) ?_
              refine lv_iload hx hb dX3_costOn_76 (lv_at hl 8 rfl) ?_
              refine lv_iload hx hb dX3_costOn_78 (lv_at hl 5 rfl) ?_
              obtain ⟨r3, hr3, hf⟩ := wb_b hf
              refine vp_callSi (W.runV (As := [.int x3, .int y37_8, .int x4]) (rest := [.int r1, .ref (a0 7), .int y37_7]) ⟨hx, hb, hml, hown, hts⟩ (cn_X5_degreeOn l D cB cI cZ N a0 I0 M0 x3 y37_8 x4 r3 hr3) (cwV 3 hts gX3_costOn_X5_degreeOn rfl rfl rfl cdX5_degreeOn ⟨Nat.le_of_ble_eq_true rfl, Nat.le_of_ble_eq_true rfl⟩) (wb_preV (hP.sub (ws' := (wWX5 cB cI cZ a0 I0 M0)) [0, 1, 2, 3, 4, 5, 6, 7, 8] rfl) hK (va_recv hK hP (ci := 5) (q0 := 0) rfl rfl)) rfl rfl hl.1 rfl (lv_room (Nat.le_of_ble_eq_true rfl)) dX3_costOn_80 ⟨Nat.le_of_ble_eq_true rfl, Nat.le_of_ble_eq_true rfl⟩) (fun r9 e9 => ?_)
              rw [e9]
              obtain ⟨r4, hr4, hf⟩ := wb_b hf
              refine vp_callSi (W.runV (As := [.int r1, .int r3]) (rest := [.int y37_7]) ⟨hx, hb, hml, hown, hts⟩ (cn_X4_costBeside l D cB cI cZ N (wb_sh a0 7) (wb_sh I0 1) (wb_sh M0 5) r1 r3 r4 hr4) (cwV 2 hts gX3_costOn_X4_costBeside rfl rfl rfl cdX4_costBeside ⟨Nat.le_of_ble_eq_true rfl, Nat.le_of_ble_eq_true rfl⟩) (wb_preV (hP.sub (ws' := (wWX4 cB cI cZ (wb_sh a0 7) (wb_sh I0 1) (wb_sh M0 5))) [7, 8] rfl) hK (va_recv hK hP (ci := 4) (q0 := 7) rfl rfl)) rfl rfl hl.1 rfl (lv_room (Nat.le_of_ble_eq_true rfl)) dX3_costOn_83 ⟨Nat.le_of_ble_eq_true rfl, Nat.le_of_ble_eq_true rfl⟩) (fun r9 e9 => ?_)
              rw [e9]
              refine lv_iadd hx hb dX3_costOn_86 ?_
              obtain ⟨v5, ev5, hf⟩ := wb_v hf
              refine wb_topi ev5 ?_
              refine lv_istore (lv' := [(7, .int v5), (9, .int r1), (0, .ref (a0 0)), (1, .ref (a1 0)), (2, .int x2), (3, .int x3), (4, .int x4), (5, .int x5), (8, .int y37_8)]) hx hb dX3_costOn_87 hl (by decide) rfl (fun ls hl => ?_)
              obtain ⟨v6, ev6, hf⟩ := wb_v hf
              refine lv_iinc (v := v6) (lv' := [(8, .int v6), (7, .int v5), (9, .int r1), (0, .ref (a0 0)), (1, .ref (a1 0)), (2, .int x2), (3, .int x3), (4, .int x4), (5, .int x5)]) hx hb dX3_costOn_89 hl (k := 8) rfl (by rw [ev6]; rfl) (by decide) rfl (fun ls hl => ?_)
              refine lv_goto (tgt := 37) hx hb dX3_costOn_92 (by decide) ?_
              exact ih37 v5 v6 ls (lv_sub hl [3, 4, 5, 6, 7, 8, 1, 0] rfl) hf
    exact L37 N z32_0 (0 : Int32) ls (lv_sub hl [2, 3, 4, 5, 6, 7, 1, 0] rfl) hf
  have J31 : ∀ (ls : Array Slot), lv_has ls 10 [(0, .ref (a0 0)), (1, .ref (a1 0)), (2, .int x2), (3, .int x3), (4, .int x4), (5, .int x5)] → fX3_costOn_J31 N I0 M0 I1 M1 x2 x3 x4 x5 = some R → W p l e (headSpec wsX3_costOn { frames := 4, cells := 0, slots := 0, locals := 115 }).room s m [.ref (a0 0), .ref (a1 0), .int x2, .int x3, .int x4, .int x5].toArray below meth c s.heap [] 0 0 (MQ below (vp_Si (fun r => r = R)) [.ref (a0 0), .ref (a1 0), .int x2, .int x3, .int x4, .int x5].toArray s 0 0 (fun _ => False)) (F0 m 31 ls []) := by
    intro ls hl hf
    unfold fX3_costOn_J31 at hf
    refine lv_iconst (v := (0 : Int32)) hx hb dX3_costOn_31 (by decide) ?_
    exact J32 (0 : Int32) ls (lv_sub hl [0, 1, 2, 3, 4, 5] rfl) hf
  refine lv_aload_n hx hb dX3_costOn_0 rfl (lv_at hl 1 rfl) ?_
  refine lv_iload_n hx hb dX3_costOn_1 rfl (lv_at hl 2 rfl) ?_
  refine lv_bipush (v := (21 : Int32)) hx hb dX3_costOn_2 (by decide) ?_
  obtain ⟨r7, hr7, hf⟩ := wb_b hf
  refine vp_callSi (W.runV (As := [.int x2, .int (21 : Int32)]) (rest := []) ⟨hx, hb, hml, hown, hts⟩ (cn_X1_degreeOf l D cB cI cZ N a1 I1 M1 x2 (21 : Int32) r7 hr7) (cwV 2 hts gX3_costOn_X1_degreeOf rfl rfl rfl cdX1_degreeOf ⟨Nat.le_of_ble_eq_true rfl, Nat.le_of_ble_eq_true rfl⟩) (wb_preV (hP.sub (ws' := (wWX1 cB cI cZ a1 I1 M1)) [9, 10, 11] rfl) hK (va_recv hK hP (ci := 1) (q0 := 9) rfl rfl)) rfl rfl hl.1 rfl (lv_room (Nat.le_of_ble_eq_true rfl)) dX3_costOn_4 ⟨Nat.le_of_ble_eq_true rfl, Nat.le_of_ble_eq_true rfl⟩) (fun r9 e9 => ?_)
  rw [e9]
  refine lv_istore (lv' := [(6, .int r7), (0, .ref (a0 0)), (1, .ref (a1 0)), (2, .int x2), (3, .int x3), (4, .int x4), (5, .int x5)]) hx hb dX3_costOn_7 hl (by decide) rfl (fun ls hl => ?_)
  refine lv_iload hx hb dX3_costOn_9 (lv_at hl 0 rfl) ?_
  refine lv_iconst (v := (-1 : Int32)) hx hb dX3_costOn_11 (by decide) ?_
  refine lv_icmp_eq (tgt := 31) hx hb dX3_costOn_12 (by decide) (fun hc => ?_) (fun hc => ?_)
  · replace hf := wb_t hc hf
    exact J31 ls (lv_sub hl [1, 2, 3, 4, 5, 6] rfl) hf
  · replace hf := wb_f hc hf
    refine lv_iload hx hb dX3_costOn_15 (lv_at hl 0 rfl) ?_
    refine lv_iload hx hb dX3_costOn_17 (lv_at hl 5 rfl) ?_
    refine lv_sipush (v := (365 : Int32)) hx hb dX3_costOn_19 (by decide) ?_
    refine lv_irem hx hb dX3_costOn_22 (by decide) ?_
    refine lv_icmp_eq (tgt := 31) hx hb dX3_costOn_23 (by decide) (fun hc => ?_) (fun hc => ?_)
    · replace hf := wb_t hc hf
      exact J31 ls (lv_sub hl [1, 2, 3, 4, 5, 6] rfl) hf
    · replace hf := wb_f hc hf
      refine lv_bipush (v := (30 : Int32)) hx hb dX3_costOn_26 (by decide) ?_
      refine lv_goto (tgt := 32) hx hb dX3_costOn_28 (by decide) ?_
      exact J32 (30 : Int32) ls (lv_sub hl [1, 2, 3, 4, 5, 6] rfl) hf

