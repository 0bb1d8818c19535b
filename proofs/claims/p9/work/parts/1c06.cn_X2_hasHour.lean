set_option maxHeartbeats 4000000 in
set_option maxRecDepth 100000 in
theorem cn_X2_hasHour (l : Launch) (D : va_G) (cB cI cZ : ClassId) (N : Nat) (a0 : Nat → Nat) (I0 : Nat → Int32) (M0 : Nat → Nat → Int32) (x1 : Int32) (x2 : Int32) (x3 : Int32) (R : Int32) (hf : fX2_hasHour N I0 M0 x1 x2 x3 = some R) : Met l yX2_hasHour wsX2_hasHour ({ frames := 3, cells := 0, slots := 0, locals := 72 }) (va_Pc [.ref (a0 0), .int x1, .int x2, .int x3] (wb_pre D [(cB, .byte), (cI, .int), (cZ, .boolean)] (wWX2 cB cI cZ a0 I0 M0))) (vp_Si (fun r => r = R)) 0 0 (fun _ => False) := by
  refine Met.ofW (cc := cX2_hasHour) (maxL := 5) (ret := (some .boolean)) (by decide) rfl ?_
  intro p e s m args below meth c s₁ B hml hv
  obtain ⟨rfl, hP, hK⟩ := hv
  have hx := B.exec
  have hb := B.bytes
  have hr := B.returns
  have hts := atoms_spec (ws := wsX2_hasHour) B.pre
  have hown : s.vm.findClass RX2 = some m.cls := findClass_of_methodNamed B.named
  have hlocks := B.notSynchronized
  have hl := lv_entry ([.ref (a0 0), .int x1, .int x2, .int x3]) (n := 5) (Nat.le_of_ble_eq_true rfl)
  rw [lg_entry_eq]
  generalize (lg_sl ([.ref (a0 0), .int x1, .int x2, .int x3]) ++ List.replicate (5 - (lg_sl ([.ref (a0 0), .int x1, .int x2, .int x3])).length) Slot.unset).toArray = ls at hl ⊢
  have hl : lv_has ls 5 [(0, .ref (a0 0)), (1, .int x1), (2, .int x2), (3, .int x3)] := hl
  unfold fX2_hasHour at hf
  refine lv_iconst (v := (0 : Int32)) hx hb dX2_hasHour_0 (by decide) ?_
  refine lv_istore (lv' := [(4, .int (0 : Int32)), (0, .ref (a0 0)), (1, .int x1), (2, .int x2), (3, .int x3)]) hx hb dX2_hasHour_1 hl (by decide) rfl (fun ls hl => ?_)
  have L3 : ∀ (fu3 : Nat) (y3_4 : Int32), ∀ (ls : Array Slot), lv_has ls 5 [(0, .ref (a0 0)), (1, .int x1), (2, .int x2), (3, .int x3), (4, .int y3_4)] → fX2_hasHour_L3 N I0 M0 x1 x2 x3 fu3 y3_4 = some R → W p l e (headSpec wsX2_hasHour { frames := 3, cells := 0, slots := 0, locals := 72 }).room s m [.ref (a0 0), .int x1, .int x2, .int x3].toArray below meth c s.heap [] 0 0 (MQ below (vp_Si (fun r => r = R)) [.ref (a0 0), .int x1, .int x2, .int x3].toArray s 0 0 (fun _ => False)) (F0 m 3 ls []) := by
    intro fu3
    induction fu3 with
    | zero =>
      intro y3_4 ls hl hf
      exact absurd hf (by rw [fX2_hasHour_L3.eq_1]; exact fun h => nomatch h)
    | succ fu3 ih3 =>
      intro y3_4 ls hl hf
      rw [fX2_hasHour_L3.eq_2] at hf
      refine lv_iload hx hb dX2_hasHour_3 (lv_at hl 4 rfl) ?_
      refine lv_sipush (v := (360 : Int32)) hx hb dX2_hasHour_5 (by decide) ?_
      refine lv_icmp_ge (tgt := 31) hx hb dX2_hasHour_8 (by decide) (fun hc => ?_) (fun hc => ?_)
      · replace hf := wb_t hc hf
        refine lv_iconst (v := (0 : Int32)) hx hb dX2_hasHour_31 (by decide) ?_
        exact W.zret (v := (0 : Int32)) hx hb hr (by decide) (fun t ht hW => ⟨_, rfl, Option.some.inj hf, ht⟩) (fun _ h => nomatch h) dX2_hasHour_32
      · replace hf := wb_f hc hf
        refine lv_aload_n hx hb dX2_hasHour_11 rfl (lv_at hl 0 rfl) ?_
        refine lv_iload_n hx hb dX2_hasHour_12 rfl (lv_at hl 1 rfl) ?_
        refine lv_iload hx hb dX2_hasHour_13 (lv_at hl 4 rfl) ?_
        refine lv_iload_n hx hb dX2_hasHour_15 rfl (lv_at hl 2 rfl) ?_
        refine lv_iload_n hx hb dX2_hasHour_16 rfl (lv_at hl 3 rfl) ?_
        obtain ⟨r1, hr1, hf⟩ := wb_b hf
        refine vp_callSi (W.runV (As := [.int x1, .int y3_4, .int x2, .int x3]) (rest := []) ⟨hx, hb, hml, hown, hts⟩ (cn_X2_isHour l D cB cI cZ N a0 I0 M0 x1 y3_4 x2 x3 r1 hr1) (cwV 4 hts gX2_hasHour_X2_isHour rfl rfl rfl cdX2_isHour ⟨Nat.le_of_ble_eq_true rfl, Nat.le_of_ble_eq_true rfl⟩) (wb_preV hP hK (va_recv hK hP (ci := 2) (q0 := 0) rfl rfl)) rfl rfl hl.1 rfl (lv_room (Nat.le_of_ble_eq_true rfl)) dX2_hasHour_17 ⟨Nat.le_of_ble_eq_true rfl, Nat.le_of_ble_eq_true rfl⟩) (fun r9 e9 => ?_)
        rw [e9]
        refine lv_if_eq (tgt := 25) hx hb dX2_hasHour_20 (by decide) (fun hc => ?_) (fun hc => ?_)
        · replace hf := wb_t hc hf
          obtain ⟨v2, ev2, hf⟩ := wb_v hf
          refine lv_iinc (v := v2) (lv' := [(4, .int v2), (0, .ref (a0 0)), (1, .int x1), (2, .int x2), (3, .int x3)]) hx hb dX2_hasHour_25 hl (k := 4) rfl (by rw [ev2]; rfl) (by decide) rfl (fun ls hl => ?_)
          refine lv_goto (tgt := 3) hx hb dX2_hasHour_28 (by decide) ?_
          exact ih3 v2 ls (lv_sub hl [1, 2, 3, 4, 0] rfl) hf
        · replace hf := wb_f hc hf
          refine lv_iconst (v := (1 : Int32)) hx hb dX2_hasHour_23 (by decide) ?_
          exact W.zret (v := (1 : Int32)) hx hb hr (by decide) (fun t ht hW => ⟨_, rfl, Option.some.inj hf, ht⟩) (fun _ h => nomatch h) dX2_hasHour_24
  exact L3 N (0 : Int32) ls (lv_sub hl [1, 2, 3, 4, 0] rfl) hf

