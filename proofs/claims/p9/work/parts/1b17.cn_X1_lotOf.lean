set_option maxHeartbeats 4000000 in
set_option maxRecDepth 100000 in
theorem cn_X1_lotOf (l : Launch) (D : va_G) (cB cI cZ : ClassId) (N : Nat) (a0 : Nat → Nat) (I0 : Nat → Int32) (M0 : Nat → Nat → Int32) (x1 : Int32) (R : Int32) (hf : fX1_lotOf N I0 M0 x1 = some R) : Met l yX1_lotOf wsX1_lotOf ({ frames := 1, cells := 0, slots := 0, locals := 22 }) (va_Pc [.ref (a0 0), .int x1] (wb_pre D [(cB, .byte), (cI, .int), (cZ, .boolean)] (wWX1 cB cI cZ a0 I0 M0))) (vp_Si (fun r => r = R)) 0 0 (fun _ => False) := by
  refine Met.ofW (cc := cX1_lotOf) (maxL := 6) (ret := (some .int)) (by decide) rfl ?_
  intro p e s m args below meth c s₁ B hml hv
  obtain ⟨rfl, hP, hK⟩ := hv
  have hx := B.exec
  have hb := B.bytes
  have hr := B.returns
  have hts := atoms_spec (ws := wsX1_lotOf) B.pre
  have hown : s.vm.findClass RX1 = some m.cls := findClass_of_methodNamed B.named
  have hlocks := B.notSynchronized
  have hl := lv_entry ([.ref (a0 0), .int x1]) (n := 6) (Nat.le_of_ble_eq_true rfl)
  rw [lg_entry_eq]
  generalize (lg_sl ([.ref (a0 0), .int x1]) ++ List.replicate (6 - (lg_sl ([.ref (a0 0), .int x1])).length) Slot.unset).toArray = ls at hl ⊢
  have hl : lv_has ls 6 [(0, .ref (a0 0)), (1, .int x1)] := hl
  unfold fX1_lotOf at hf
  have J62 : ∀ (y62_2 : Int32) (y62_3 : Int32) (y62_4 : Int32) (z62_0 : Int32), ∀ (ls : Array Slot), lv_has ls 6 [(2, .int y62_2), (3, .int y62_3), (4, .int y62_4)] → fX1_lotOf_J62 N I0 M0 x1 y62_2 y62_3 y62_4 z62_0 = some R → W p l e (headSpec wsX1_lotOf { frames := 1, cells := 0, slots := 0, locals := 22 }).room s m [.ref (a0 0), .int x1].toArray below meth c s.heap [] 0 0 (MQ below (vp_Si (fun r => r = R)) [.ref (a0 0), .int x1].toArray s 0 0 (fun _ => False)) (F0 m 62 ls [.int z62_0]) := by
    intro y62_2 y62_3 y62_4 z62_0 ls hl hf
    unfold fX1_lotOf_J62 at hf
    refine lv_istore (lv' := [(5, .int z62_0), (2, .int y62_2), (3, .int y62_3), (4, .int y62_4)]) hx hb dX1_lotOf_62 hl (by decide) rfl (fun ls hl => ?_)
    refine lv_iload hx hb dX1_lotOf_64 (lv_at hl 0 rfl) ?_
    refine lv_if_eq (tgt := 78) hx hb dX1_lotOf_66 (by decide) (fun hc => ?_) (fun hc => ?_)
    · replace hf := wb_t hc hf
      refine lv_iload hx hb dX1_lotOf_78 (lv_at hl 3 rfl) ?_
      refine lv_iload_n hx hb dX1_lotOf_80 rfl (lv_at hl 1 rfl) ?_
      refine lv_iadd hx hb dX1_lotOf_81 ?_
      refine lv_iload_n hx hb dX1_lotOf_82 rfl (lv_at hl 2 rfl) ?_
      refine lv_isub hx hb dX1_lotOf_83 ?_
      refine lv_sipush (v := (360 : Int32)) hx hb dX1_lotOf_84 (by decide) ?_
      obtain ⟨r1, hr1, hf⟩ := wb_b hf
      refine vp_callSi (W.runS (As := [.int ((y62_4 + y62_2) - y62_3), .int (360 : Int32)]) (rest := []) ⟨hx, hb, hml, hown, hts⟩ (cn_J9_floorMod_7cf53 l D cB cI cZ N ((y62_4 + y62_2) - y62_3) (360 : Int32) r1 hr1) (va_cwS 2 hts gX1_lotOf_J9_floorMod_7cf53 rfl rfl rfl csJ9_floorMod_7cf53 ⟨Nat.le_of_ble_eq_true rfl, Nat.le_of_ble_eq_true rfl⟩) (wb_preS (hP.sub (ws' := ([] : va_W)) [] rfl) hK) rfl rfl hl.1 rfl (lv_room (Nat.le_of_ble_eq_true rfl)) dX1_lotOf_87 ⟨Nat.le_of_ble_eq_true rfl, Nat.le_of_ble_eq_true rfl⟩) (fun r9 e9 => ?_)
      rw [e9]
      exact W.iret (v := r1) hx hb hr (fun t ht hW => ⟨_, rfl, Option.some.inj hf, ht⟩) (fun _ h => nomatch h) dX1_lotOf_90
    · replace hf := wb_f hc hf
      refine lv_iload hx hb dX1_lotOf_69 (lv_at hl 3 rfl) ?_
      refine lv_iload_n hx hb dX1_lotOf_71 rfl (lv_at hl 2 rfl) ?_
      refine lv_iadd hx hb dX1_lotOf_72 ?_
      refine lv_iload_n hx hb dX1_lotOf_73 rfl (lv_at hl 1 rfl) ?_
      refine lv_isub hx hb dX1_lotOf_74 ?_
      refine lv_goto (tgt := 84) hx hb dX1_lotOf_75 (by decide) ?_
      refine lv_sipush (v := (360 : Int32)) hx hb dX1_lotOf_84 (by decide) ?_
      obtain ⟨r2, hr2, hf⟩ := wb_b hf
      refine vp_callSi (W.runS (As := [.int ((y62_4 + y62_3) - y62_2), .int (360 : Int32)]) (rest := []) ⟨hx, hb, hml, hown, hts⟩ (cn_J9_floorMod_7cf53 l D cB cI cZ N ((y62_4 + y62_3) - y62_2) (360 : Int32) r2 hr2) (va_cwS 2 hts gX1_lotOf_J9_floorMod_7cf53 rfl rfl rfl csJ9_floorMod_7cf53 ⟨Nat.le_of_ble_eq_true rfl, Nat.le_of_ble_eq_true rfl⟩) (wb_preS (hP.sub (ws' := ([] : va_W)) [] rfl) hK) rfl rfl hl.1 rfl (lv_room (Nat.le_of_ble_eq_true rfl)) dX1_lotOf_87 ⟨Nat.le_of_ble_eq_true rfl, Nat.le_of_ble_eq_true rfl⟩) (fun r9 e9 => ?_)
      rw [e9]
      exact W.iret (v := r2) hx hb hr (fun t ht hW => ⟨_, rfl, Option.some.inj hf, ht⟩) (fun _ h => nomatch h) dX1_lotOf_90
  refine lv_aload_n hx hb dX1_lotOf_0 rfl (lv_at hl 0 rfl) ?_
  refine lv_iload_n hx hb dX1_lotOf_1 rfl (lv_at hl 1 rfl) ?_
  refine lv_iconst (v := (0 : Int32)) hx hb dX1_lotOf_2 (by decide) ?_
  obtain ⟨r3, hr3, hf⟩ := wb_b hf
  refine vp_callSi (W.runV (As := [.int x1, .int (0 : Int32)]) (rest := []) ⟨hx, hb, hml, hown, hts⟩ (cn_X1_degreeOf l D cB cI cZ N a0 I0 M0 x1 (0 : Int32) r3 hr3) (cwV 2 hts gX1_lotOf_X1_degreeOf rfl rfl rfl cdX1_degreeOf ⟨Nat.le_of_ble_eq_true rfl, Nat.le_of_ble_eq_true rfl⟩) (wb_preV hP hK (va_recv hK hP (ci := 1) (q0 := 0) rfl rfl)) rfl rfl hl.1 rfl (lv_room (Nat.le_of_ble_eq_true rfl)) dX1_lotOf_3 ⟨Nat.le_of_ble_eq_true rfl, Nat.le_of_ble_eq_true rfl⟩) (fun r9 e9 => ?_)
  rw [e9]
  refine lv_istore_n (lv' := [(2, .int r3), (0, .ref (a0 0)), (1, .int x1)]) hx hb dX1_lotOf_6 rfl hl (by decide) rfl (fun ls hl => ?_)
  refine lv_aload_n hx hb dX1_lotOf_7 rfl (lv_at hl 1 rfl) ?_
  refine lv_iload_n hx hb dX1_lotOf_8 rfl (lv_at hl 2 rfl) ?_
  refine lv_iconst (v := (1 : Int32)) hx hb dX1_lotOf_9 (by decide) ?_
  obtain ⟨r4, hr4, hf⟩ := wb_b hf
  refine vp_callSi (W.runV (As := [.int x1, .int (1 : Int32)]) (rest := []) ⟨hx, hb, hml, hown, hts⟩ (cn_X1_degreeOf l D cB cI cZ N a0 I0 M0 x1 (1 : Int32) r4 hr4) (cwV 2 hts gX1_lotOf_X1_degreeOf rfl rfl rfl cdX1_degreeOf ⟨Nat.le_of_ble_eq_true rfl, Nat.le_of_ble_eq_true rfl⟩) (wb_preV hP hK (va_recv hK hP (ci := 1) (q0 := 0) rfl rfl)) rfl rfl hl.1 rfl (lv_room (Nat.le_of_ble_eq_true rfl)) dX1_lotOf_10 ⟨Nat.le_of_ble_eq_true rfl, Nat.le_of_ble_eq_true rfl⟩) (fun r9 e9 => ?_)
  rw [e9]
  refine lv_istore_n (lv' := [(3, .int r4), (2, .int r3), (0, .ref (a0 0)), (1, .int x1)]) hx hb dX1_lotOf_13 rfl hl (by decide) rfl (fun ls hl => ?_)
  refine lv_aload_n hx hb dX1_lotOf_14 rfl (lv_at hl 2 rfl) ?_
  refine lv_iload_n hx hb dX1_lotOf_15 rfl (lv_at hl 3 rfl) ?_
  refine lv_bipush (v := (7 : Int32)) hx hb dX1_lotOf_16 (by decide) ?_
  obtain ⟨r5, hr5, hf⟩ := wb_b hf
  refine vp_callSi (W.runV (As := [.int x1, .int (7 : Int32)]) (rest := []) ⟨hx, hb, hml, hown, hts⟩ (cn_X1_degreeOf l D cB cI cZ N a0 I0 M0 x1 (7 : Int32) r5 hr5) (cwV 2 hts gX1_lotOf_X1_degreeOf rfl rfl rfl cdX1_degreeOf ⟨Nat.le_of_ble_eq_true rfl, Nat.le_of_ble_eq_true rfl⟩) (wb_preV hP hK (va_recv hK hP (ci := 1) (q0 := 0) rfl rfl)) rfl rfl hl.1 rfl (lv_room (Nat.le_of_ble_eq_true rfl)) dX1_lotOf_18 ⟨Nat.le_of_ble_eq_true rfl, Nat.le_of_ble_eq_true rfl⟩) (fun r9 e9 => ?_)
  rw [e9]
  refine lv_istore (lv' := [(4, .int r5), (3, .int r4), (2, .int r3), (0, .ref (a0 0)), (1, .int x1)]) hx hb dX1_lotOf_21 hl (by decide) rfl (fun ls hl => ?_)
  refine lv_iload_n hx hb dX1_lotOf_23 rfl (lv_at hl 2 rfl) ?_
  refine lv_iconst (v := (-1 : Int32)) hx hb dX1_lotOf_24 (by decide) ?_
  refine lv_icmp_eq (tgt := 39) hx hb dX1_lotOf_25 (by decide) (fun hc => ?_) (fun hc => ?_)
  · replace hf := wb_t hc hf
    refine lv_iconst (v := (-1 : Int32)) hx hb dX1_lotOf_39 (by decide) ?_
    exact W.iret (v := (-1 : Int32)) hx hb hr (fun t ht hW => ⟨_, rfl, Option.some.inj hf, ht⟩) (fun _ h => nomatch h) dX1_lotOf_40
  · replace hf := wb_f hc hf
    refine lv_iload_n hx hb dX1_lotOf_28 rfl (lv_at hl 1 rfl) ?_
    refine lv_iconst (v := (-1 : Int32)) hx hb dX1_lotOf_29 (by decide) ?_
    refine lv_icmp_eq (tgt := 39) hx hb dX1_lotOf_30 (by decide) (fun hc => ?_) (fun hc => ?_)
    · replace hf := wb_t hc hf
      refine lv_iconst (v := (-1 : Int32)) hx hb dX1_lotOf_39 (by decide) ?_
      exact W.iret (v := (-1 : Int32)) hx hb hr (fun t ht hW => ⟨_, rfl, Option.some.inj hf, ht⟩) (fun _ h => nomatch h) dX1_lotOf_40
    · replace hf := wb_f hc hf
      refine lv_iload hx hb dX1_lotOf_33 (lv_at hl 0 rfl) ?_
      refine lv_iconst (v := (-1 : Int32)) hx hb dX1_lotOf_35 (by decide) ?_
      refine lv_icmp_ne (tgt := 41) hx hb dX1_lotOf_36 (by decide) (fun hc => ?_) (fun hc => ?_)
      · replace hf := wb_f hc hf
        refine lv_iload hx hb dX1_lotOf_41 (lv_at hl 0 rfl) ?_
        refine lv_iload_n hx hb dX1_lotOf_43 rfl (lv_at hl 2 rfl) ?_
        refine lv_isub hx hb dX1_lotOf_44 ?_
        refine lv_sipush (v := (360 : Int32)) hx hb dX1_lotOf_45 (by decide) ?_
        obtain ⟨r6, hr6, hf⟩ := wb_b hf
        refine vp_callSi (W.runS (As := [.int (r5 - r3), .int (360 : Int32)]) (rest := []) ⟨hx, hb, hml, hown, hts⟩ (cn_J9_floorMod_7cf53 l D cB cI cZ N (r5 - r3) (360 : Int32) r6 hr6) (va_cwS 2 hts gX1_lotOf_J9_floorMod_7cf53 rfl rfl rfl csJ9_floorMod_7cf53 ⟨Nat.le_of_ble_eq_true rfl, Nat.le_of_ble_eq_true rfl⟩) (wb_preS (hP.sub (ws' := ([] : va_W)) [] rfl) hK) rfl rfl hl.1 rfl (lv_room (Nat.le_of_ble_eq_true rfl)) dX1_lotOf_48 ⟨Nat.le_of_ble_eq_true rfl, Nat.le_of_ble_eq_true rfl⟩) (fun r9 e9 => ?_)
        rw [e9]
        refine lv_sipush (v := (180 : Int32)) hx hb dX1_lotOf_51 (by decide) ?_
        refine lv_icmp_ge (tgt := 61) hx hb dX1_lotOf_54 (by decide) (fun hc => ?_) (fun hc => ?_)
        · replace hf := wb_t hc hf
          refine lv_iconst (v := (0 : Int32)) hx hb dX1_lotOf_61 (by decide) ?_
          exact J62 r3 r4 r5 (0 : Int32) ls (lv_sub hl [2, 1, 0] rfl) hf
        · replace hf := wb_f hc hf
          refine lv_iconst (v := (1 : Int32)) hx hb dX1_lotOf_57 (by decide) ?_
          refine lv_goto (tgt := 62) hx hb dX1_lotOf_58 (by decide) ?_
          exact J62 r3 r4 r5 (1 : Int32) ls (lv_sub hl [2, 1, 0] rfl) hf
      · replace hf := wb_t hc hf
        refine lv_iconst (v := (-1 : Int32)) hx hb dX1_lotOf_39 (by decide) ?_
        exact W.iret (v := (-1 : Int32)) hx hb hr (fun t ht hW => ⟨_, rfl, Option.some.inj hf, ht⟩) (fun _ h => nomatch h) dX1_lotOf_40
