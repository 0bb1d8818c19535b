set_option maxHeartbeats 4000000 in
set_option maxRecDepth 100000 in
theorem cn_X3_howManyErrors (l : Launch) (D : va_G) (cB cI cZ : ClassId) (N : Nat) (a0 : Nat → Nat) (I0 : Nat → Int32) (M0 : Nat → Nat → Int32) (R : Int32) (hf : fX3_howManyErrors N I0 M0 = some R) : Met l yX3_howManyErrors wsX3_howManyErrors ({ frames := 0, cells := 0, slots := 0, locals := 0 }) (va_Pc [.ref (a0 0)] (wb_pre D [(cB, .byte), (cI, .int), (cZ, .boolean)] (wWX3 cB cI cZ a0 I0 M0))) (vp_Si (fun r => r = R)) 0 0 (fun _ => False) := by
  refine Met.ofW (cc := cX3_howManyErrors) (maxL := 3) (ret := (some .int)) (by decide) rfl ?_
  intro p e s m args below meth c s₁ B hml hv
  obtain ⟨rfl, hP, hK⟩ := hv
  have hx := B.exec
  have hb := B.bytes
  have hr := B.returns
  have hts := atoms_spec (ws := wsX3_howManyErrors) B.pre
  have hown : s.vm.findClass RX3 = some m.cls := findClass_of_methodNamed B.named
  have hlocks := B.notSynchronized
  have hinX3 : ∀ w ∈ u_ws RX3 TX3 1, w ∈ wsX3_howManyErrors := fun w h => List.mem_cons_of_mem _ (List.mem_append_right _ h)
  have hl := lv_entry ([.ref (a0 0)]) (n := 3) (Nat.le_of_ble_eq_true rfl)
  rw [lg_entry_eq]
  generalize (lg_sl ([.ref (a0 0)]) ++ List.replicate (3 - (lg_sl ([.ref (a0 0)])).length) Slot.unset).toArray = ls at hl ⊢
  have hl : lv_has ls 3 [(0, .ref (a0 0))] := hl
  unfold fX3_howManyErrors at hf
  refine lv_iconst (v := (0 : Int32)) hx hb dX3_howManyErrors_0 (by decide) ?_
  refine lv_istore_n (lv' := [(1, .int (0 : Int32)), (0, .ref (a0 0))]) hx hb dX3_howManyErrors_1 rfl hl (by decide) rfl (fun ls hl => ?_)
  refine lv_iconst (v := (0 : Int32)) hx hb dX3_howManyErrors_2 (by decide) ?_
  refine lv_istore_n (lv' := [(2, .int (0 : Int32)), (1, .int (0 : Int32)), (0, .ref (a0 0))]) hx hb dX3_howManyErrors_3 rfl hl (by decide) rfl (fun ls hl => ?_)
  have L4 : ∀ (fu4 : Nat) (y4_1 : Int32) (y4_2 : Int32), ∀ (ls : Array Slot), lv_has ls 3 [(0, .ref (a0 0)), (1, .int y4_1), (2, .int y4_2)] → fX3_howManyErrors_L4 N I0 M0 fu4 y4_1 y4_2 = some R → W p l e (headSpec wsX3_howManyErrors { frames := 0, cells := 0, slots := 0, locals := 0 }).room s m [.ref (a0 0)].toArray below meth c s.heap [] 0 0 (MQ below (vp_Si (fun r => r = R)) [.ref (a0 0)].toArray s 0 0 (fun _ => False)) (F0 m 4 ls []) := by
    intro fu4
    induction fu4 with
    | zero =>
      intro y4_1 y4_2 ls hl hf
      exact absurd hf (by rw [fX3_howManyErrors_L4.eq_1]; exact fun h => nomatch h)
    | succ fu4 ih4 =>
      intro y4_1 y4_2 ls hl hf
      rw [fX3_howManyErrors_L4.eq_2] at hf
      refine lv_iload_n hx hb dX3_howManyErrors_4 rfl (lv_at hl 2 rfl) ?_
      refine lv_bipush (v := (7 : Int32)) hx hb dX3_howManyErrors_5 (by decide) ?_
      refine lv_icmp_ge (tgt := 29) hx hb dX3_howManyErrors_7 (by decide) (fun hc => ?_) (fun hc => ?_)
      · replace hf := wb_t hc hf
        refine lv_iload_n hx hb dX3_howManyErrors_29 rfl (lv_at hl 1 rfl) ?_
        exact W.iret (v := y4_1) hx hb hr (fun t ht hW => ⟨_, rfl, Option.some.inj hf, ht⟩) (fun _ h => nomatch h) dX3_howManyErrors_30
      · replace hf := wb_f hc hf
        refine lv_aload_n hx hb dX3_howManyErrors_10 rfl (lv_at hl 0 rfl) ?_
        refine va_get (D := D) (ci := 3) (v := .ref (a0 1)) (C := RX3) (T := TX3) (N := 1) hx hb hts hinX3 hown hK hP 0 rfl rfl 0 (by decide) (hts (.fieldLink RX3 9 "WheelBook$Fit" "sharers" "[I") (List.mem_of_getElem? (i := 1) rfl)) (fun _ h9 => h9) rfl dX3_howManyErrors_11 ?_
        refine lv_iload_n hx hb dX3_howManyErrors_14 rfl (lv_at hl 2 rfl) ?_
        obtain ⟨hin, hf⟩ := wb_n hf
        refine va_iald hx hb hK hP 1 1 rfl rfl hin dX3_howManyErrors_15 ?_
        refine lv_iconst (v := (-1 : Int32)) hx hb dX3_howManyErrors_16 (by decide) ?_
        refine lv_icmp_eq (tgt := 23) hx hb dX3_howManyErrors_17 (by decide) (fun hc => ?_) (fun hc => ?_)
        · replace hf := wb_t hc hf
          obtain ⟨v1, ev1, hf⟩ := wb_v hf
          refine lv_iinc (v := v1) (lv' := [(2, .int v1), (0, .ref (a0 0)), (1, .int y4_1)]) hx hb dX3_howManyErrors_23 hl (k := 2) rfl (by rw [ev1]; rfl) (by decide) rfl (fun ls hl => ?_)
          refine lv_goto (tgt := 4) hx hb dX3_howManyErrors_26 (by decide) ?_
          exact ih4 y4_1 v1 ls (lv_sub hl [1, 2, 0] rfl) hf
        · replace hf := wb_f hc hf
          obtain ⟨v2, ev2, hf⟩ := wb_v hf
          refine lv_iinc (v := v2) (lv' := [(1, .int v2), (0, .ref (a0 0)), (2, .int y4_2)]) hx hb dX3_howManyErrors_20 hl (k := 1) rfl (by rw [ev2]; rfl) (by decide) rfl (fun ls hl => ?_)
          obtain ⟨v3, ev3, hf⟩ := wb_v hf
          refine lv_iinc (v := v3) (lv' := [(2, .int v3), (1, .int v2), (0, .ref (a0 0))]) hx hb dX3_howManyErrors_23 hl (k := 2) rfl (by rw [ev3]; rfl) (by decide) rfl (fun ls hl => ?_)
          refine lv_goto (tgt := 4) hx hb dX3_howManyErrors_26 (by decide) ?_
          exact ih4 v2 v3 ls (lv_sub hl [2, 1, 0] rfl) hf
  exact L4 N (0 : Int32) (0 : Int32) ls (lv_sub hl [2, 1, 0] rfl) hf

