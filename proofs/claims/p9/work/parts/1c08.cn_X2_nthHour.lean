set_option maxHeartbeats 4000000 in
set_option maxRecDepth 100000 in
theorem cn_X2_nthHour (l : Launch) (D : va_G) (cB cI cZ : ClassId) (N : Nat) (a0 : Nat → Nat) (I0 : Nat → Int32) (M0 : Nat → Nat → Int32) (x1 : Int32) (x2 : Int32) (x3 : Int32) (R : Int32) (hf : fX2_nthHour N I0 M0 x1 x2 x3 = some R) : Met l yX2_nthHour wsX2_nthHour ({ frames := 3, cells := 0, slots := 0, locals := 72 }) (va_Pc [.ref (a0 0), .int x1, .int x2, .int x3] (wb_pre D [(cB, .byte), (cI, .int), (cZ, .boolean)] (wWX2 cB cI cZ a0 I0 M0))) (vp_Si (fun r => r = R)) 0 0 (fun _ => False) := by
  refine Met.ofW (cc := cX2_nthHour) (maxL := 6) (ret := (some .int)) (by decide) rfl ?_
  intro p e s m args below meth c s₁ B hml hv
  obtain ⟨rfl, hP, hK⟩ := hv
  have hx := B.exec
  have hb := B.bytes
  have hr := B.returns
  have hts := atoms_spec (ws := wsX2_nthHour) B.pre
  have hown : s.vm.findClass RX2 = some m.cls := findClass_of_methodNamed B.named
  have hlocks := B.notSynchronized
  have hinX2 : ∀ w ∈ u_ws RX2 TX2 2, w ∈ wsX2_nthHour := fun w h => List.mem_cons_of_mem _ (List.mem_append_right _ h)
  have hl := lv_entry ([.ref (a0 0), .int x1, .int x2, .int x3]) (n := 6) (Nat.le_of_ble_eq_true rfl)
  rw [lg_entry_eq]
  generalize (lg_sl ([.ref (a0 0), .int x1, .int x2, .int x3]) ++ List.replicate (6 - (lg_sl ([.ref (a0 0), .int x1, .int x2, .int x3])).length) Slot.unset).toArray = ls at hl ⊢
  have hl : lv_has ls 6 [(0, .ref (a0 0)), (1, .int x1), (2, .int x2), (3, .int x3)] := hl
  unfold fX2_nthHour at hf
  refine lv_iload_n hx hb dX2_nthHour_0 rfl (lv_at hl 3 rfl) ?_
  refine lv_istore (lv' := [(4, .int x3), (0, .ref (a0 0)), (1, .int x1), (2, .int x2), (3, .int x3)]) hx hb dX2_nthHour_1 hl (by decide) rfl (fun ls hl => ?_)
  refine lv_iconst (v := (0 : Int32)) hx hb dX2_nthHour_3 (by decide) ?_
  refine lv_istore (lv' := [(5, .int (0 : Int32)), (4, .int x3), (0, .ref (a0 0)), (1, .int x1), (2, .int x2), (3, .int x3)]) hx hb dX2_nthHour_4 hl (by decide) rfl (fun ls hl => ?_)
  have L6 : ∀ (fu6 : Nat) (y6_4 : Int32) (y6_5 : Int32), ∀ (ls : Array Slot), lv_has ls 6 [(0, .ref (a0 0)), (1, .int x1), (2, .int x2), (4, .int y6_4), (5, .int y6_5)] → fX2_nthHour_L6 N I0 M0 x1 x2 x3 fu6 y6_4 y6_5 = some R → W p l e (headSpec wsX2_nthHour { frames := 3, cells := 0, slots := 0, locals := 72 }).room s m [.ref (a0 0), .int x1, .int x2, .int x3].toArray below meth c s.heap [] 0 0 (MQ below (vp_Si (fun r => r = R)) [.ref (a0 0), .int x1, .int x2, .int x3].toArray s 0 0 (fun _ => False)) (F0 m 6 ls []) := by
    intro fu6
    induction fu6 with
    | zero =>
      intro y6_4 y6_5 ls hl hf
      exact absurd hf (by rw [fX2_nthHour_L6.eq_1]; exact fun h => nomatch h)
    | succ fu6 ih6 =>
      intro y6_4 y6_5 ls hl hf
      rw [fX2_nthHour_L6.eq_2] at hf
      refine lv_iload hx hb dX2_nthHour_6 (lv_at hl 4 rfl) ?_
      refine lv_sipush (v := (360 : Int32)) hx hb dX2_nthHour_8 (by decide) ?_
      refine lv_aload_n hx hb dX2_nthHour_11 rfl (lv_at hl 0 rfl) ?_
      refine va_get (D := D) (ci := 2) (v := .int (I0 0)) (C := RX2) (T := TX2) (N := 2) hx hb hts hinX2 hown hK hP 0 rfl rfl 1 (by decide) (hts (.fieldLink RX2 21 "WheelBook$Climates" "many" "I") (List.mem_of_getElem? (i := 1) rfl)) (fun _ h9 => h9) rfl dX2_nthHour_12 ?_
      refine lv_imul hx hb dX2_nthHour_15 ?_
      refine lv_icmp_ge (tgt := 62) hx hb dX2_nthHour_16 (by decide) (fun hc => ?_) (fun hc => ?_)
      · replace hf := wb_t hc hf
        refine lv_iconst (v := (-1 : Int32)) hx hb dX2_nthHour_62 (by decide) ?_
        exact W.iret (v := (-1 : Int32)) hx hb hr (fun t ht hW => ⟨_, rfl, Option.some.inj hf, ht⟩) (fun _ h => nomatch h) dX2_nthHour_63
      · replace hf := wb_f hc hf
        refine lv_iload hx hb dX2_nthHour_19 (lv_at hl 3 rfl) ?_
        refine lv_if_lt (tgt := 62) hx hb dX2_nthHour_21 (by decide) (fun hc => ?_) (fun hc => ?_)
        · replace hf := wb_t hc hf
          refine lv_iconst (v := (-1 : Int32)) hx hb dX2_nthHour_62 (by decide) ?_
          exact W.iret (v := (-1 : Int32)) hx hb hr (fun t ht hW => ⟨_, rfl, Option.some.inj hf, ht⟩) (fun _ h => nomatch h) dX2_nthHour_63
        · replace hf := wb_f hc hf
          refine lv_aload_n hx hb dX2_nthHour_24 rfl (lv_at hl 0 rfl) ?_
          refine lv_iload hx hb dX2_nthHour_25 (lv_at hl 4 rfl) ?_
          refine lv_sipush (v := (360 : Int32)) hx hb dX2_nthHour_27 (by decide) ?_
          refine lv_idiv hx hb dX2_nthHour_30 (by decide) ?_
          refine lv_iload hx hb dX2_nthHour_31 (lv_at hl 4 rfl) ?_
          refine lv_sipush (v := (360 : Int32)) hx hb dX2_nthHour_33 (by decide) ?_
          refine lv_irem hx hb dX2_nthHour_36 (by decide) ?_
          refine lv_iload_n hx hb dX2_nthHour_37 rfl (lv_at hl 1 rfl) ?_
          refine lv_iload_n hx hb dX2_nthHour_38 rfl (lv_at hl 2 rfl) ?_
          obtain ⟨r1, hr1, hf⟩ := wb_b hf
          refine vp_callSi (W.runV (As := [.int (y6_5 / (360 : Int32)), .int (y6_5 - y6_5 / (360 : Int32) * (360 : Int32)), .int x1, .int x2]) (rest := []) ⟨hx, hb, hml, hown, hts⟩ (cn_X2_isHour l D cB cI cZ N a0 I0 M0 (y6_5 / (360 : Int32)) (y6_5 - y6_5 / (360 : Int32) * (360 : Int32)) x1 x2 r1 hr1) (cwV 4 hts gX2_nthHour_X2_isHour rfl rfl rfl cdX2_isHour ⟨Nat.le_of_ble_eq_true rfl, Nat.le_of_ble_eq_true rfl⟩) (wb_preV hP hK (va_recv hK hP (ci := 2) (q0 := 0) rfl rfl)) rfl rfl hl.1 rfl (lv_room (Nat.le_of_ble_eq_true rfl)) dX2_nthHour_39 ⟨Nat.le_of_ble_eq_true rfl, Nat.le_of_ble_eq_true rfl⟩) (fun r9 e9 => ?_)
          rw [e9]
          refine lv_if_eq (tgt := 56) hx hb dX2_nthHour_42 (by decide) (fun hc => ?_) (fun hc => ?_)
          · replace hf := wb_t hc hf
            obtain ⟨v2, ev2, hf⟩ := wb_v hf
            refine lv_iinc (v := v2) (lv' := [(5, .int v2), (0, .ref (a0 0)), (1, .int x1), (2, .int x2), (4, .int y6_4)]) hx hb dX2_nthHour_56 hl (k := 4) rfl (by rw [ev2]; rfl) (by decide) rfl (fun ls hl => ?_)
            refine lv_goto (tgt := 6) hx hb dX2_nthHour_59 (by decide) ?_
            exact ih6 y6_4 v2 ls (lv_sub hl [1, 2, 3, 4, 0] rfl) hf
          · replace hf := wb_f hc hf
            refine lv_iload hx hb dX2_nthHour_45 (lv_at hl 3 rfl) ?_
            refine lv_if_ne (tgt := 53) hx hb dX2_nthHour_47 (by decide) (fun hc => ?_) (fun hc => ?_)
            · replace hf := wb_f hc hf
              obtain ⟨v3, ev3, hf⟩ := wb_v hf
              refine lv_iinc (v := v3) (lv' := [(4, .int v3), (0, .ref (a0 0)), (1, .int x1), (2, .int x2), (5, .int y6_5)]) hx hb dX2_nthHour_53 hl (k := 3) rfl (by rw [ev3]; rfl) (by decide) rfl (fun ls hl => ?_)
              obtain ⟨v4, ev4, hf⟩ := wb_v hf
              refine lv_iinc (v := v4) (lv' := [(5, .int v4), (4, .int v3), (0, .ref (a0 0)), (1, .int x1), (2, .int x2)]) hx hb dX2_nthHour_56 hl (k := 4) rfl (by rw [ev4]; rfl) (by decide) rfl (fun ls hl => ?_)
              refine lv_goto (tgt := 6) hx hb dX2_nthHour_59 (by decide) ?_
              exact ih6 v3 v4 ls (lv_sub hl [2, 3, 4, 1, 0] rfl) hf
            · replace hf := wb_t hc hf
              refine lv_iload hx hb dX2_nthHour_50 (lv_at hl 4 rfl) ?_
              exact W.iret (v := y6_5) hx hb hr (fun t ht hW => ⟨_, rfl, Option.some.inj hf, ht⟩) (fun _ h => nomatch h) dX2_nthHour_52
  exact L6 N x3 (0 : Int32) ls (lv_sub hl [2, 3, 4, 1, 0] rfl) hf

