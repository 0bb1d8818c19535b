set_option maxHeartbeats 4000000 in
set_option maxRecDepth 100000 in
theorem cn_X2_howManyHours (l : Launch) (D : va_G) (cB cI cZ : ClassId) (N : Nat) (a0 : Nat → Nat) (I0 : Nat → Int32) (M0 : Nat → Nat → Int32) (x1 : Int32) (x2 : Int32) (R : Int32) (hf : fX2_howManyHours N I0 M0 x1 x2 = some R) : Met l yX2_howManyHours wsX2_howManyHours ({ frames := 3, cells := 0, slots := 0, locals := 72 }) (va_Pc [.ref (a0 0), .int x1, .int x2] (wb_pre D [(cB, .byte), (cI, .int), (cZ, .boolean)] (wWX2 cB cI cZ a0 I0 M0))) (vp_Si (fun r => r = R)) 0 0 (fun _ => False) := by
  refine Met.ofW (cc := cX2_howManyHours) (maxL := 5) (ret := (some .int)) (by decide) rfl ?_
  intro p e s m args below meth c s₁ B hml hv
  obtain ⟨rfl, hP, hK⟩ := hv
  have hx := B.exec
  have hb := B.bytes
  have hr := B.returns
  have hts := atoms_spec (ws := wsX2_howManyHours) B.pre
  have hown : s.vm.findClass RX2 = some m.cls := findClass_of_methodNamed B.named
  have hlocks := B.notSynchronized
  have hinX2 : ∀ w ∈ u_ws RX2 TX2 2, w ∈ wsX2_howManyHours := fun w h => List.mem_cons_of_mem _ (List.mem_append_right _ h)
  have hl := lv_entry ([.ref (a0 0), .int x1, .int x2]) (n := 5) (Nat.le_of_ble_eq_true rfl)
  rw [lg_entry_eq]
  generalize (lg_sl ([.ref (a0 0), .int x1, .int x2]) ++ List.replicate (5 - (lg_sl ([.ref (a0 0), .int x1, .int x2])).length) Slot.unset).toArray = ls at hl ⊢
  have hl : lv_has ls 5 [(0, .ref (a0 0)), (1, .int x1), (2, .int x2)] := hl
  unfold fX2_howManyHours at hf
  refine lv_iconst (v := (0 : Int32)) hx hb dX2_howManyHours_0 (by decide) ?_
  refine lv_istore_n (lv' := [(3, .int (0 : Int32)), (0, .ref (a0 0)), (1, .int x1), (2, .int x2)]) hx hb dX2_howManyHours_1 rfl hl (by decide) rfl (fun ls hl => ?_)
  refine lv_iconst (v := (0 : Int32)) hx hb dX2_howManyHours_2 (by decide) ?_
  refine lv_istore (lv' := [(4, .int (0 : Int32)), (3, .int (0 : Int32)), (0, .ref (a0 0)), (1, .int x1), (2, .int x2)]) hx hb dX2_howManyHours_3 hl (by decide) rfl (fun ls hl => ?_)
  have L5 : ∀ (fu5 : Nat) (y5_3 : Int32) (y5_4 : Int32), ∀ (ls : Array Slot), lv_has ls 5 [(0, .ref (a0 0)), (1, .int x1), (2, .int x2), (3, .int y5_3), (4, .int y5_4)] → fX2_howManyHours_L5 N I0 M0 x1 x2 fu5 y5_3 y5_4 = some R → W p l e (headSpec wsX2_howManyHours { frames := 3, cells := 0, slots := 0, locals := 72 }).room s m [.ref (a0 0), .int x1, .int x2].toArray below meth c s.heap [] 0 0 (MQ below (vp_Si (fun r => r = R)) [.ref (a0 0), .int x1, .int x2].toArray s 0 0 (fun _ => False)) (F0 m 5 ls []) := by
    intro fu5
    induction fu5 with
    | zero =>
      intro y5_3 y5_4 ls hl hf
      exact absurd hf (by rw [fX2_howManyHours_L5.eq_1]; exact fun h => nomatch h)
    | succ fu5 ih5 =>
      intro y5_3 y5_4 ls hl hf
      rw [fX2_howManyHours_L5.eq_2] at hf
      refine lv_iload hx hb dX2_howManyHours_5 (lv_at hl 4 rfl) ?_
      refine lv_sipush (v := (360 : Int32)) hx hb dX2_howManyHours_7 (by decide) ?_
      refine lv_aload_n hx hb dX2_howManyHours_10 rfl (lv_at hl 0 rfl) ?_
      refine va_get (D := D) (ci := 2) (v := .int (I0 0)) (C := RX2) (T := TX2) (N := 2) hx hb hts hinX2 hown hK hP 0 rfl rfl 1 (by decide) (hts (.fieldLink RX2 21 "WheelBook$Climates" "many" "I") (List.mem_of_getElem? (i := 1) rfl)) (fun _ h9 => h9) rfl dX2_howManyHours_11 ?_
      refine lv_imul hx hb dX2_howManyHours_14 ?_
      refine lv_icmp_ge (tgt := 48) hx hb dX2_howManyHours_15 (by decide) (fun hc => ?_) (fun hc => ?_)
      · replace hf := wb_t hc hf
        refine lv_iload_n hx hb dX2_howManyHours_48 rfl (lv_at hl 3 rfl) ?_
        exact W.iret (v := y5_3) hx hb hr (fun t ht hW => ⟨_, rfl, Option.some.inj hf, ht⟩) (fun _ h => nomatch h) dX2_howManyHours_49
      · replace hf := wb_f hc hf
        refine lv_aload_n hx hb dX2_howManyHours_18 rfl (lv_at hl 0 rfl) ?_
        refine lv_iload hx hb dX2_howManyHours_19 (lv_at hl 4 rfl) ?_
        refine lv_sipush (v := (360 : Int32)) hx hb dX2_howManyHours_21 (by decide) ?_
        refine lv_idiv hx hb dX2_howManyHours_24 (by decide) ?_
        refine lv_iload hx hb dX2_howManyHours_25 (lv_at hl 4 rfl) ?_
        refine lv_sipush (v := (360 : Int32)) hx hb dX2_howManyHours_27 (by decide) ?_
        refine lv_irem hx hb dX2_howManyHours_30 (by decide) ?_
        refine lv_iload_n hx hb dX2_howManyHours_31 rfl (lv_at hl 1 rfl) ?_
        refine lv_iload_n hx hb dX2_howManyHours_32 rfl (lv_at hl 2 rfl) ?_
        obtain ⟨r1, hr1, hf⟩ := wb_b hf
        refine vp_callSi (W.runV (As := [.int (y5_4 / (360 : Int32)), .int (y5_4 - y5_4 / (360 : Int32) * (360 : Int32)), .int x1, .int x2]) (rest := []) ⟨hx, hb, hml, hown, hts⟩ (cn_X2_isHour l D cB cI cZ N a0 I0 M0 (y5_4 / (360 : Int32)) (y5_4 - y5_4 / (360 : Int32) * (360 : Int32)) x1 x2 r1 hr1) (cwV 4 hts gX2_howManyHours_X2_isHour rfl rfl rfl cdX2_isHour ⟨Nat.le_of_ble_eq_true rfl, Nat.le_of_ble_eq_true rfl⟩) (wb_preV hP hK (va_recv hK hP (ci := 2) (q0 := 0) rfl rfl)) rfl rfl hl.1 rfl (lv_room (Nat.le_of_ble_eq_true rfl)) dX2_howManyHours_33 ⟨Nat.le_of_ble_eq_true rfl, Nat.le_of_ble_eq_true rfl⟩) (fun r9 e9 => ?_)
        rw [e9]
        refine lv_if_eq (tgt := 42) hx hb dX2_howManyHours_36 (by decide) (fun hc => ?_) (fun hc => ?_)
        · replace hf := wb_t hc hf
          obtain ⟨v2, ev2, hf⟩ := wb_v hf
          refine lv_iinc (v := v2) (lv' := [(4, .int v2), (0, .ref (a0 0)), (1, .int x1), (2, .int x2), (3, .int y5_3)]) hx hb dX2_howManyHours_42 hl (k := 4) rfl (by rw [ev2]; rfl) (by decide) rfl (fun ls hl => ?_)
          refine lv_goto (tgt := 5) hx hb dX2_howManyHours_45 (by decide) ?_
          exact ih5 y5_3 v2 ls (lv_sub hl [1, 2, 3, 4, 0] rfl) hf
        · replace hf := wb_f hc hf
          obtain ⟨v3, ev3, hf⟩ := wb_v hf
          refine lv_iinc (v := v3) (lv' := [(3, .int v3), (0, .ref (a0 0)), (1, .int x1), (2, .int x2), (4, .int y5_4)]) hx hb dX2_howManyHours_39 hl (k := 3) rfl (by rw [ev3]; rfl) (by decide) rfl (fun ls hl => ?_)
          obtain ⟨v4, ev4, hf⟩ := wb_v hf
          refine lv_iinc (v := v4) (lv' := [(4, .int v4), (3, .int v3), (0, .ref (a0 0)), (1, .int x1), (2, .int x2)]) hx hb dX2_howManyHours_42 hl (k := 4) rfl (by rw [ev4]; rfl) (by decide) rfl (fun ls hl => ?_)
          refine lv_goto (tgt := 5) hx hb dX2_howManyHours_45 (by decide) ?_
          exact ih5 v3 v4 ls (lv_sub hl [2, 3, 4, 1, 0] rfl) hf
  exact L5 N (0 : Int32) (0 : Int32) ls (lv_sub hl [2, 3, 4, 1, 0] rfl) hf

