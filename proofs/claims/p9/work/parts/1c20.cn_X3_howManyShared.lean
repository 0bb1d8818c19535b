set_option maxHeartbeats 4000000 in
set_option maxRecDepth 100000 in
theorem cn_X3_howManyShared (l : Launch) (D : va_G) (cB cI cZ : ClassId) (N : Nat) (a0 : Nat → Nat) (I0 : Nat → Int32) (M0 : Nat → Nat → Int32) (x1 : Int32) (R : Int32) (hf : fX3_howManyShared N I0 M0 x1 = some R) : Met l yX3_howManyShared wsX3_howManyShared ({ frames := 1, cells := 0, slots := 0, locals := 22 }) (va_Pc [.ref (a0 0), .int x1] (wb_pre D [(cB, .byte), (cI, .int), (cZ, .boolean)] (wWX3 cB cI cZ a0 I0 M0))) (vp_Si (fun r => r = R)) 0 0 (fun _ => False) := by
  refine Met.ofW (cc := cX3_howManyShared) (maxL := 4) (ret := (some .int)) (by decide) rfl ?_
  intro p e s m args below meth c s₁ B hml hv
  obtain ⟨rfl, hP, hK⟩ := hv
  have hx := B.exec
  have hb := B.bytes
  have hr := B.returns
  have hts := atoms_spec (ws := wsX3_howManyShared) B.pre
  have hown : s.vm.findClass RX3 = some m.cls := findClass_of_methodNamed B.named
  have hlocks := B.notSynchronized
  have hl := lv_entry ([.ref (a0 0), .int x1]) (n := 4) (Nat.le_of_ble_eq_true rfl)
  rw [lg_entry_eq]
  generalize (lg_sl ([.ref (a0 0), .int x1]) ++ List.replicate (4 - (lg_sl ([.ref (a0 0), .int x1])).length) Slot.unset).toArray = ls at hl ⊢
  have hl : lv_has ls 4 [(0, .ref (a0 0)), (1, .int x1)] := hl
  unfold fX3_howManyShared at hf
  refine lv_iconst (v := (0 : Int32)) hx hb dX3_howManyShared_0 (by decide) ?_
  refine lv_istore_n (lv' := [(2, .int (0 : Int32)), (0, .ref (a0 0)), (1, .int x1)]) hx hb dX3_howManyShared_1 rfl hl (by decide) rfl (fun ls hl => ?_)
  refine lv_iconst (v := (0 : Int32)) hx hb dX3_howManyShared_2 (by decide) ?_
  refine lv_istore_n (lv' := [(3, .int (0 : Int32)), (2, .int (0 : Int32)), (0, .ref (a0 0)), (1, .int x1)]) hx hb dX3_howManyShared_3 rfl hl (by decide) rfl (fun ls hl => ?_)
  have L4 : ∀ (fu4 : Nat) (y4_2 : Int32) (y4_3 : Int32), ∀ (ls : Array Slot), lv_has ls 4 [(0, .ref (a0 0)), (1, .int x1), (2, .int y4_2), (3, .int y4_3)] → fX3_howManyShared_L4 N I0 M0 x1 fu4 y4_2 y4_3 = some R → W p l e (headSpec wsX3_howManyShared { frames := 1, cells := 0, slots := 0, locals := 22 }).room s m [.ref (a0 0), .int x1].toArray below meth c s.heap [] 0 0 (MQ below (vp_Si (fun r => r = R)) [.ref (a0 0), .int x1].toArray s 0 0 (fun _ => False)) (F0 m 4 ls []) := by
    intro fu4
    induction fu4 with
    | zero =>
      intro y4_2 y4_3 ls hl hf
      exact absurd hf (by rw [fX3_howManyShared_L4.eq_1]; exact fun h => nomatch h)
    | succ fu4 ih4 =>
      intro y4_2 y4_3 ls hl hf
      rw [fX3_howManyShared_L4.eq_2] at hf
      refine lv_iload_n hx hb dX3_howManyShared_4 rfl (lv_at hl 3 rfl) ?_
      refine lv_bipush (v := (7 : Int32)) hx hb dX3_howManyShared_5 (by decide) ?_
      refine lv_icmp_ge (tgt := 28) hx hb dX3_howManyShared_7 (by decide) (fun hc => ?_) (fun hc => ?_)
      · replace hf := wb_t hc hf
        refine lv_iload_n hx hb dX3_howManyShared_28 rfl (lv_at hl 2 rfl) ?_
        exact W.iret (v := y4_2) hx hb hr (fun t ht hW => ⟨_, rfl, Option.some.inj hf, ht⟩) (fun _ h => nomatch h) dX3_howManyShared_29
      · replace hf := wb_f hc hf
        refine lv_aload_n hx hb dX3_howManyShared_10 rfl (lv_at hl 0 rfl) ?_
        refine lv_iload_n hx hb dX3_howManyShared_11 rfl (lv_at hl 3 rfl) ?_
        refine lv_iload_n hx hb dX3_howManyShared_12 rfl (lv_at hl 1 rfl) ?_
        obtain ⟨r1, hr1, hf⟩ := wb_b hf
        refine vp_callSi (W.runV (As := [.int y4_3, .int x1]) (rest := []) ⟨hx, hb, hml, hown, hts⟩ (cn_X3_isShared l D cB cI cZ N a0 I0 M0 y4_3 x1 r1 hr1) (cwV 2 hts gX3_howManyShared_X3_isShared rfl rfl rfl cdX3_isShared ⟨Nat.le_of_ble_eq_true rfl, Nat.le_of_ble_eq_true rfl⟩) (wb_preV hP hK (va_recv hK hP (ci := 3) (q0 := 0) rfl rfl)) rfl rfl hl.1 rfl (lv_room (Nat.le_of_ble_eq_true rfl)) dX3_howManyShared_13 ⟨Nat.le_of_ble_eq_true rfl, Nat.le_of_ble_eq_true rfl⟩) (fun r9 e9 => ?_)
        rw [e9]
        refine lv_if_eq (tgt := 22) hx hb dX3_howManyShared_16 (by decide) (fun hc => ?_) (fun hc => ?_)
        · replace hf := wb_t hc hf
          obtain ⟨v2, ev2, hf⟩ := wb_v hf
          refine lv_iinc (v := v2) (lv' := [(3, .int v2), (0, .ref (a0 0)), (1, .int x1), (2, .int y4_2)]) hx hb dX3_howManyShared_22 hl (k := 3) rfl (by rw [ev2]; rfl) (by decide) rfl (fun ls hl => ?_)
          refine lv_goto (tgt := 4) hx hb dX3_howManyShared_25 (by decide) ?_
          exact ih4 y4_2 v2 ls (lv_sub hl [1, 2, 3, 0] rfl) hf
        · replace hf := wb_f hc hf
          obtain ⟨v3, ev3, hf⟩ := wb_v hf
          refine lv_iinc (v := v3) (lv' := [(2, .int v3), (0, .ref (a0 0)), (1, .int x1), (3, .int y4_3)]) hx hb dX3_howManyShared_19 hl (k := 2) rfl (by rw [ev3]; rfl) (by decide) rfl (fun ls hl => ?_)
          obtain ⟨v4, ev4, hf⟩ := wb_v hf
          refine lv_iinc (v := v4) (lv' := [(3, .int v4), (2, .int v3), (0, .ref (a0 0)), (1, .int x1)]) hx hb dX3_howManyShared_22 hl (k := 3) rfl (by rw [ev4]; rfl) (by decide) rfl (fun ls hl => ?_)
          refine lv_goto (tgt := 4) hx hb dX3_howManyShared_25 (by decide) ?_
          exact ih4 v3 v4 ls (lv_sub hl [2, 3, 1, 0] rfl) hf
  exact L4 N (0 : Int32) (0 : Int32) ls (lv_sub hl [2, 3, 1, 0] rfl) hf
