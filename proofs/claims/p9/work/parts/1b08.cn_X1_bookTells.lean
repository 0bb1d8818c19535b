set_option maxHeartbeats 4000000 in
set_option maxRecDepth 100000 in
theorem cn_X1_bookTells (l : Launch) (D : va_G) (cB cI cZ : ClassId) (N : Nat) (a0 : Nat → Nat) (I0 : Nat → Int32) (M0 : Nat → Nat → Int32) (x1 : Int32) (R : Int32) (hf : fX1_bookTells N I0 M0 x1 = some R) : Met l yX1_bookTells wsX1_bookTells ({ frames := 2, cells := 0, slots := 0, locals := 44 }) (va_Pc [.ref (a0 0), .int x1] (wb_pre D [(cB, .byte), (cI, .int), (cZ, .boolean)] (wWX1 cB cI cZ a0 I0 M0))) (vp_Si (fun r => r = R)) 0 0 (fun _ => False) := by
  refine Met.ofW (cc := cX1_bookTells) (maxL := 3) (ret := (some .boolean)) (by decide) rfl ?_
  intro p e s m args below meth c s₁ B hml hv
  obtain ⟨rfl, hP, hK⟩ := hv
  have hx := B.exec
  have hb := B.bytes
  have hr := B.returns
  have hts := atoms_spec (ws := wsX1_bookTells) B.pre
  have hown : s.vm.findClass RX1 = some m.cls := findClass_of_methodNamed B.named
  have hlocks := B.notSynchronized
  have hl := lv_entry ([.ref (a0 0), .int x1]) (n := 3) (Nat.le_of_ble_eq_true rfl)
  rw [lg_entry_eq]
  generalize (lg_sl ([.ref (a0 0), .int x1]) ++ List.replicate (3 - (lg_sl ([.ref (a0 0), .int x1])).length) Slot.unset).toArray = ls at hl ⊢
  have hl : lv_has ls 3 [(0, .ref (a0 0)), (1, .int x1)] := hl
  unfold fX1_bookTells at hf
  refine lv_iconst (v := (0 : Int32)) hx hb dX1_bookTells_0 (by decide) ?_
  refine lv_istore_n (lv' := [(2, .int (0 : Int32)), (0, .ref (a0 0)), (1, .int x1)]) hx hb dX1_bookTells_1 rfl hl (by decide) rfl (fun ls hl => ?_)
  have L2 : ∀ (fu2 : Nat) (y2_2 : Int32), ∀ (ls : Array Slot), lv_has ls 3 [(0, .ref (a0 0)), (1, .int x1), (2, .int y2_2)] → fX1_bookTells_L2 N I0 M0 x1 fu2 y2_2 = some R → W p l e (headSpec wsX1_bookTells { frames := 2, cells := 0, slots := 0, locals := 44 }).room s m [.ref (a0 0), .int x1].toArray below meth c s.heap [] 0 0 (MQ below (vp_Si (fun r => r = R)) [.ref (a0 0), .int x1].toArray s 0 0 (fun _ => False)) (F0 m 2 ls []) := by
    intro fu2
    induction fu2 with
    | zero =>
      intro y2_2 ls hl hf
      exact absurd hf (by rw [fX1_bookTells_L2.eq_1]; exact fun h => nomatch h)
    | succ fu2 ih2 =>
      intro y2_2 ls hl hf
      rw [fX1_bookTells_L2.eq_2] at hf
      refine lv_iload_n hx hb dX1_bookTells_2 rfl (lv_at hl 2 rfl) ?_
      refine lv_bipush (v := (20 : Int32)) hx hb dX1_bookTells_3 (by decide) ?_
      refine lv_icmp_ge (tgt := 29) hx hb dX1_bookTells_5 (by decide) (fun hc => ?_) (fun hc => ?_)
      · replace hf := wb_t hc hf
        refine lv_iconst (v := (0 : Int32)) hx hb dX1_bookTells_29 (by decide) ?_
        exact W.zret (v := (0 : Int32)) hx hb hr (by decide) (fun t ht hW => ⟨_, rfl, Option.some.inj hf, ht⟩) (fun _ h => nomatch h) dX1_bookTells_30
      · replace hf := wb_f hc hf
        refine lv_aload_n hx hb dX1_bookTells_8 rfl (lv_at hl 0 rfl) ?_
        refine lv_bipush (v := (20 : Int32)) hx hb dX1_bookTells_9 (by decide) ?_
        refine lv_iload_n hx hb dX1_bookTells_11 rfl (lv_at hl 1 rfl) ?_
        refine lv_imul hx hb dX1_bookTells_12 ?_
        refine lv_iload_n hx hb dX1_bookTells_13 rfl (lv_at hl 2 rfl) ?_
        refine lv_iadd hx hb dX1_bookTells_14 ?_
        obtain ⟨r1, hr1, hf⟩ := wb_b hf
        refine vp_callSi (W.runV (As := [.int (((20 : Int32) * x1) + y2_2)]) (rest := []) ⟨hx, hb, hml, hown, hts⟩ (cn_X1_tellsSomething l D cB cI cZ N a0 I0 M0 (((20 : Int32) * x1) + y2_2) r1 hr1) (cwV 1 hts gX1_bookTells_X1_tellsSomething rfl rfl rfl cdX1_tellsSomething ⟨Nat.le_of_ble_eq_true rfl, Nat.le_of_ble_eq_true rfl⟩) (wb_preV hP hK (va_recv hK hP (ci := 1) (q0 := 0) rfl rfl)) rfl rfl hl.1 rfl (lv_room (Nat.le_of_ble_eq_true rfl)) dX1_bookTells_15 ⟨Nat.le_of_ble_eq_true rfl, Nat.le_of_ble_eq_true rfl⟩) (fun r9 e9 => ?_)
        rw [e9]
        refine lv_if_eq (tgt := 23) hx hb dX1_bookTells_18 (by decide) (fun hc => ?_) (fun hc => ?_)
        · replace hf := wb_t hc hf
          obtain ⟨v2, ev2, hf⟩ := wb_v hf
          refine lv_iinc (v := v2) (lv' := [(2, .int v2), (0, .ref (a0 0)), (1, .int x1)]) hx hb dX1_bookTells_23 hl (k := 2) rfl (by rw [ev2]; rfl) (by decide) rfl (fun ls hl => ?_)
          refine lv_goto (tgt := 2) hx hb dX1_bookTells_26 (by decide) ?_
          exact ih2 v2 ls (lv_sub hl [1, 2, 0] rfl) hf
        · replace hf := wb_f hc hf
          refine lv_iconst (v := (1 : Int32)) hx hb dX1_bookTells_21 (by decide) ?_
          exact W.zret (v := (1 : Int32)) hx hb hr (by decide) (fun t ht hW => ⟨_, rfl, Option.some.inj hf, ht⟩) (fun _ h => nomatch h) dX1_bookTells_22
  exact L2 N (0 : Int32) ls (lv_sub hl [1, 2, 0] rfl) hf

