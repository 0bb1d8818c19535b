/-! the texts of the class: 19 words, by their places; the JDK methods that are asked of them -/
def zW : List (String × Nat × String) := [(RX1, 40, "house"), (RX1, 61, "date"), (RX4, 41, "for"), (RX5, 63, "set"), (RX5, 73, "climate"), (RX5, 78, "hand"), (RX5, 109, "at"), (RX5, 113, "goes"), (RX5, 115, "swing"), (RX5, 116, "in"), (RX9, 76, "sun"), (RX9, 78, "moon"), (RX9, 80, "mercury"), (RX9, 82, "venus"), (RX9, 84, "mars"), (RX9, 86, "jupiter"), (RX9, 88, "saturn"), (RX9, 90, "rise"), (RX9, 92, "lot")]
def wb_Z (aK aV : Nat → Nat) (A : Nat → Prop) (U : State) (H : Heap) : Prop := vk_S 19 zLen zByt aK aV A U H ∧ (∀ (i : Nat) (w : String × Nat × String), zW[i]? = some w → vk_R w.1 w.2.1 w.2.2 (aK i) U) ∧ va_Z RJ0 "COMPACT_STRINGS" "Z" (.int 1) A U H ∧ va_Zq "jdk/internal/util/Preconditions" "SIOOBE_FORMATTER" "Ljava/util/function/BiFunction;" A U H
theorem wb_Z.at {aK aV : Nat → Nat} {A B : Nat → Prop} {s U : State} {H H1 : Heap} (h : wb_Z aK aV A s H) (hq : ∀ a : Nat, a < H.size → ¬ A a → H1[a]? = H[a]?) (hn : ∀ q, B q → A q) (hW : s.WarmedH U.vm) : wb_Z aK aV B U H1 :=
  ⟨vk_S.moved hW.alike ((h.1.kept hq).narrow hn), fun i w hw => (h.2.1 i w hw).warm hW, va_Z.moved hW.alike ((h.2.2.1.kept hq).narrow hn), va_Zq.moved hW.alike ((h.2.2.2.kept hq).narrow hn)⟩
theorem wb_Z.same {aK aV : Nat → Nat} {A : Nat → Prop} {u U : State} {H : Heap} (e : u.vm = U.vm) (h : wb_Z aK aV A u H) : wb_Z aK aV A U H := by
  have hal : u.vm.Alike U.vm := by rw [e]; exact Vm.Alike.refl U.vm
  exact ⟨vk_S.moved hal h.1, fun i w hw => (h.2.1 i w hw).same e.symm, va_Z.moved hal h.2.2.1, va_Zq.moved hal h.2.2.2⟩
def wb_preZ (aK aV : Nat → Nat) : State → Prop := fun U => wb_Z aK aV (fun _ => False) U U.heap
theorem wb_blindZ {av : List Value} {aK aV : Nat → Nat} : FrameBlind (va_Pc av (wb_preZ aK aV)) := by
  intro a U g mk q
  obtain ⟨q0, q1⟩ := q
  exact ⟨q0, wb_Z.same (u := U) (U := U.calling g mk a) rfl q1⟩
theorem wb_preZV {aK aV : Nat → Nat} {A : Nat → Prop} {s : State} {H : Heap} {locs : List Loc} {C : String} {b : Addr} {As : List Value} (hZ : wb_Z aK aV A s s.heap) (hS : va_S A s.heap H locs) (hr : ∃ cellB : Cell, H[b]? = some cellB ∧ cellB.vm.isStatics = false ∧ s.vm.findClass C = some cellB.cls) : PreV s H C b (va_Pc (.ref b :: As) (wb_preZ aK aV)) As :=
  ⟨wb_blindZ, hr, fun U hU hW => ⟨rfl, by unfold wb_preZ; rw [hU]; exact hZ.at hS.2.1 (fun _ h => h.elim) hW⟩⟩
theorem wb_preZS {aK aV : Nat → Nat} {A : Nat → Prop} {s : State} {H : Heap} {locs : List Loc} {As : List Value} (hZ : wb_Z aK aV A s s.heap) (hS : va_S A s.heap H locs) : PreS s H (va_Pc As (wb_preZ aK aV)) As :=
  ⟨wb_blindZ, fun U hU hW => ⟨rfl, by unfold wb_preZ; rw [hU]; exact hZ.at hS.2.1 (fun _ h => h.elim) hW⟩⟩
def wb_any : State → Prop := fun _ => True
theorem wb_preA {s : State} {H : Heap} {As : List Value} : PreS s H (va_Pc As wb_any) As := ⟨fun a U g mk q => ⟨q.1, trivial⟩, fun U hU hW => ⟨rfl, trivial⟩⟩

set_option maxHeartbeats 4000000 in
set_option maxRecDepth 100000 in
theorem cz_J0_coder_7d493 (l : Launch) (aK aV : Nat → Nat) (i : Nat) (hi : i < 19) : Met l yJ0_coder_7d493 wsJ0_coder_7d493 ({ frames := 0, cells := 0, slots := 0, locals := 0 }) (va_Pc [.ref (aK i)] (wb_preZ aK aV)) (vp_Si (fun r => r = 0)) 0 0 (fun _ => False) := by
  refine va_MetF (cc := cJ0_coder_7d493) (maxL := 1) (ret := (some .byte)) (by decide +kernel) rfl ?_
  intro p e s m args below meth c s₁ B hml hv
  obtain ⟨rfl, hZ⟩ := hv
  have hx := B.exec
  have hb := B.bytes
  have hr := B.returns
  have hts := atoms_spec (ws := wsJ0_coder_7d493) B.pre
  have hown : s.vm.findClass RJ0 = some m.cls := (findClass_of_methodNamed B.named :)
  have hlocks := B.notSynchronized
  have hS : va_S (fun _ : Nat => False) s.heap s.heap [] := va_S.rf
  have hl := lv_entry ([.ref (aK i)]) (n := 1) (Nat.le_of_ble_eq_true rfl)
  rw [lg_entry_eq]
  generalize (lg_sl ([.ref (aK i)]) ++ List.replicate (1 - (lg_sl ([.ref (aK i)])).length) Slot.unset).toArray = ls at hl ⊢
  have hl : lv_has ls 1 [(0, .ref (aK i))] := hl
  refine va_gets hx hb hZ.2.2.1 hS hown (hts (.fieldLink RJ0 38 "java/lang/String" "COMPACT_STRINGS" "Z") (by decide +kernel)) (fun _ h9 => h9) dJ0_coder_7d493_0 ?_
  refine lv_if_eq (tgt := 13) hx hb dJ0_coder_7d493_3 (by decide) (fun hc => absurd hc (by decide)) (fun hc => ?_)
  refine lv_aload_n hx hb dJ0_coder_7d493_6 rfl (lv_at hl 0 rfl) ?_
  refine vk_getf hx hb (hZ.1.1 i hi).2.1 hS hown (hts (.fieldLink RJ0 15 "java/lang/String" "coder" "B") (by decide +kernel)) (fun _ h9 => h9) dJ0_coder_7d493_7 ?_
  refine lv_goto (tgt := 14) hx hb dJ0_coder_7d493_10 (by decide) ?_
  exact W.zret (v := (0 : Int32)) hx hb hr (by decide) (fun t ht hW => ⟨_, rfl, rfl, ht⟩) (fun _ h => nomatch h) dJ0_coder_7d493_14
set_option maxHeartbeats 4000000 in
set_option maxRecDepth 100000 in
theorem cz_J0_isLatin1_aae02 (l : Launch) (aK aV : Nat → Nat) (i : Nat) (hi : i < 19) : Met l yJ0_isLatin1_aae02 wsJ0_isLatin1_aae02 ({ frames := 0, cells := 0, slots := 0, locals := 0 }) (va_Pc [.ref (aK i)] (wb_preZ aK aV)) (vp_Si (fun r => r = 1)) 0 0 (fun _ => False) := by
  refine va_MetF (cc := cJ0_isLatin1_aae02) (maxL := 1) (ret := (some .boolean)) (by decide +kernel) rfl ?_
  intro p e s m args below meth c s₁ B hml hv
  obtain ⟨rfl, hZ⟩ := hv
  have hx := B.exec
  have hb := B.bytes
  have hr := B.returns
  have hts := atoms_spec (ws := wsJ0_isLatin1_aae02) B.pre
  have hown : s.vm.findClass RJ0 = some m.cls := (findClass_of_methodNamed B.named :)
  have hlocks := B.notSynchronized
  have hS : va_S (fun _ : Nat => False) s.heap s.heap [] := va_S.rf
  have hl := lv_entry ([.ref (aK i)]) (n := 1) (Nat.le_of_ble_eq_true rfl)
  rw [lg_entry_eq]
  generalize (lg_sl ([.ref (aK i)]) ++ List.replicate (1 - (lg_sl ([.ref (aK i)])).length) Slot.unset).toArray = ls at hl ⊢
  have hl : lv_has ls 1 [(0, .ref (aK i))] := hl
  refine va_gets hx hb hZ.2.2.1 hS hown (hts (.fieldLink RJ0 38 "java/lang/String" "COMPACT_STRINGS" "Z") (by decide +kernel)) (fun _ h9 => h9) dJ0_isLatin1_aae02_0 ?_
  refine lv_if_eq (tgt := 17) hx hb dJ0_isLatin1_aae02_3 (by decide) (fun hc => absurd hc (by decide)) (fun hc => ?_)
  refine lv_aload_n hx hb dJ0_isLatin1_aae02_6 rfl (lv_at hl 0 rfl) ?_
  refine vk_getf hx hb (hZ.1.1 i hi).2.1 hS hown (hts (.fieldLink RJ0 15 "java/lang/String" "coder" "B") (by decide +kernel)) (fun _ h9 => h9) dJ0_isLatin1_aae02_7 ?_
  refine lv_if_ne (tgt := 17) hx hb dJ0_isLatin1_aae02_10 (by decide) (fun hc => absurd rfl hc) (fun hc => ?_)
  refine lv_iconst (v := (1 : Int32)) hx hb dJ0_isLatin1_aae02_13 (by decide) ?_
  refine lv_goto (tgt := 18) hx hb dJ0_isLatin1_aae02_14 (by decide) ?_
  exact W.zret (v := (1 : Int32)) hx hb hr (by decide) (fun t ht hW => ⟨_, rfl, rfl, ht⟩) (fun _ h => nomatch h) dJ0_isLatin1_aae02_18
theorem cdJ0_coder_7d493 : yJ0_coder_7d493.cls = RJ0 ∧ yJ0_coder_7d493.cls ≠ "java/lang/invoke/MethodHandle" ∧ yJ0_coder_7d493.cls ≠ "java/lang/invoke/VarHandle" ∧ (parseMethodDescriptor yJ0_coder_7d493.desc).map (fun d => d.parameters.length) = some 0 := by decide +kernel
theorem cdJ0_isLatin1_aae02 : yJ0_isLatin1_aae02.cls = RJ0 ∧ yJ0_isLatin1_aae02.cls ≠ "java/lang/invoke/MethodHandle" ∧ yJ0_isLatin1_aae02.cls ≠ "java/lang/invoke/VarHandle" ∧ (parseMethodDescriptor yJ0_isLatin1_aae02.desc).map (fun d => d.parameters.length) = some 0 := by decide +kernel
theorem csJ3_checkIndex_8e157 : yJ3_checkIndex_8e157.cls ≠ "java/lang/invoke/MethodHandle" ∧ yJ3_checkIndex_8e157.cls ≠ "java/lang/invoke/VarHandle" ∧ (parseMethodDescriptor yJ3_checkIndex_8e157.desc).map (fun d => d.parameters.length) = some 3 := by decide +kernel
theorem csJ0_checkIndex_df160 : yJ0_checkIndex_df160.cls ≠ "java/lang/invoke/MethodHandle" ∧ yJ0_checkIndex_df160.cls ≠ "java/lang/invoke/VarHandle" ∧ (parseMethodDescriptor yJ0_checkIndex_df160.desc).map (fun d => d.parameters.length) = some 2 := by decide +kernel
theorem csJ1_charAt_3b067 : yJ1_charAt_3b067.cls ≠ "java/lang/invoke/MethodHandle" ∧ yJ1_charAt_3b067.cls ≠ "java/lang/invoke/VarHandle" ∧ (parseMethodDescriptor yJ1_charAt_3b067.desc).map (fun d => d.parameters.length) = some 2 := by decide +kernel
set_option maxHeartbeats 4000000 in
set_option maxRecDepth 100000 in
theorem cz_J0_length_8abf5 (l : Launch) (aK aV : Nat → Nat) (i : Nat) (hi : i < 19) : Met l yJ0_length_8abf5 wsJ0_length_8abf5 ({ frames := 1, cells := 0, slots := 0, locals := 23 }) (va_Pc [.ref (aK i)] (wb_preZ aK aV)) (vp_Si (fun r => r = zL i)) 0 0 (fun _ => False) := by
  refine va_MetF (cc := cJ0_length_8abf5) (maxL := 1) (ret := (some .int)) (by decide +kernel) rfl ?_
  intro p e s m args below meth c s₁ B hml hv
  obtain ⟨rfl, hZ⟩ := hv
  have hx := B.exec
  have hb := B.bytes
  have hr := B.returns
  have hts := atoms_spec (ws := wsJ0_length_8abf5) B.pre
  have hown : s.vm.findClass RJ0 = some m.cls := (findClass_of_methodNamed B.named :)
  have hlocks := B.notSynchronized
  have hS : va_S (fun _ : Nat => False) s.heap s.heap [] := va_S.rf
  have hl := lv_entry ([.ref (aK i)]) (n := 1) (Nat.le_of_ble_eq_true rfl)
  rw [lg_entry_eq]
  generalize (lg_sl ([.ref (aK i)]) ++ List.replicate (1 - (lg_sl ([.ref (aK i)])).length) Slot.unset).toArray = ls at hl ⊢
  have hl : lv_has ls 1 [(0, .ref (aK i))] := hl
  refine lv_aload_n hx hb dJ0_length_8abf5_0 rfl (lv_at hl 0 rfl) ?_
  refine vk_getf hx hb (hZ.1.1 i hi).2.2.1 hS hown (hts (.fieldLink RJ0 9 "java/lang/String" "value" "[B") (by decide +kernel)) (fun _ h9 => h9) dJ0_length_8abf5_1 ?_
  refine va_tlen hx hb (hZ.1.1 i hi).2.2.2 hS rfl dJ0_length_8abf5_4 ?_
  refine lv_aload_n hx hb dJ0_length_8abf5_5 rfl (lv_at hl 0 rfl) ?_
  refine vp_callSi (W.runV (As := []) (rest := [.int (Int32.ofNat (zLen.getD i 0))]) ⟨hx, hb, hml, hown, hts⟩ (cz_J0_coder_7d493 l aK aV i hi) (cwV 0 hts gJ0_length_8abf5_J0_coder_7d493 rfl rfl rfl cdJ0_coder_7d493 ⟨Nat.le_of_ble_eq_true rfl, Nat.le_of_ble_eq_true rfl⟩) (wb_preZV hZ hS (vk_recv hZ.1 hi hS)) rfl rfl hl.1 rfl (lv_room (Nat.le_of_ble_eq_true rfl)) dJ0_length_8abf5_6 ⟨Nat.le_of_ble_eq_true rfl, Nat.le_of_ble_eq_true rfl⟩) (fun r9 e9 => ?_)
  rw [e9]
  refine lv_ishr hx hb dJ0_length_8abf5_9 ?_
  exact W.iret (v := zL i) hx hb hr (fun t ht hW => ⟨_, rfl, rfl, ht⟩) (fun _ h => nomatch h) dJ0_length_8abf5_10
set_option maxHeartbeats 4000000 in
set_option maxRecDepth 100000 in
theorem cz_J3_checkIndex_8e157n (l : Launch) (x0 x1 : Int32) (h0 : ¬ x0 < 0) (h1 : x0 < x1) : Met l yJ3_checkIndex_8e157 wsJ3_checkIndex_8e157 ({ frames := 0, cells := 0, slots := 0, locals := 0 }) (va_Pc [.int x0, .int x1, .null] (wb_any)) (vp_Si (fun r => r = x0)) 0 0 (fun _ => False) := by
  refine va_MetF (cc := cJ3_checkIndex_8e157) (maxL := 3) (ret := (some .int)) (by decide +kernel) rfl ?_
  intro p e s m args below meth c s₁ B hml hv
  obtain ⟨rfl, -⟩ := hv
  have hx := B.exec
  have hb := B.bytes
  have hr := B.returns
  have hts := atoms_spec (ws := wsJ3_checkIndex_8e157) B.pre
  have hown : s.vm.findClass RJ3 = some m.cls := (findClass_of_methodNamed B.named :)
  have hlocks := B.notSynchronized
  have hS : va_S (fun _ : Nat => False) s.heap s.heap [] := va_S.rf
  have hl := lv_entry ([.int x0, .int x1, .null]) (n := 3) (Nat.le_of_ble_eq_true rfl)
  rw [lg_entry_eq]
  generalize (lg_sl ([.int x0, .int x1, .null]) ++ List.replicate (3 - (lg_sl ([.int x0, .int x1, .null])).length) Slot.unset).toArray = ls at hl ⊢
  have hl : lv_has ls 3 [(0, .int x0), (1, .int x1), (2, .null)] := hl
  refine lv_iload_n hx hb dJ3_checkIndex_8e157_0 rfl (lv_at hl 0 rfl) ?_
  refine lv_if_lt (tgt := 9) hx hb dJ3_checkIndex_8e157_1 (by decide) (fun hc => absurd hc h0) (fun hc => ?_)
  refine lv_iload_n hx hb dJ3_checkIndex_8e157_4 rfl (lv_at hl 0 rfl) ?_
  refine lv_iload_n hx hb dJ3_checkIndex_8e157_5 rfl (lv_at hl 1 rfl) ?_
  refine lv_icmp_lt (tgt := 16) hx hb dJ3_checkIndex_8e157_6 (by decide) (fun hc => ?_) (fun hc => absurd h1 hc)
  refine lv_iload_n hx hb dJ3_checkIndex_8e157_16 rfl (lv_at hl 0 rfl) ?_
  exact W.iret (v := x0) hx hb hr (fun t ht hW => ⟨_, rfl, rfl, ht⟩) (fun _ h => nomatch h) dJ3_checkIndex_8e157_17
set_option maxHeartbeats 4000000 in
set_option maxRecDepth 100000 in
theorem cz_J3_checkIndex_8e157r (l : Launch) (x0 x1 : Int32) (t0 : Nat) (h0 : ¬ x0 < 0) (h1 : x0 < x1) : Met l yJ3_checkIndex_8e157 wsJ3_checkIndex_8e157 ({ frames := 0, cells := 0, slots := 0, locals := 0 }) (va_Pc [.int x0, .int x1, .ref t0] (wb_any)) (vp_Si (fun r => r = x0)) 0 0 (fun _ => False) := by
  refine va_MetF (cc := cJ3_checkIndex_8e157) (maxL := 3) (ret := (some .int)) (by decide +kernel) rfl ?_
  intro p e s m args below meth c s₁ B hml hv
  obtain ⟨rfl, -⟩ := hv
  have hx := B.exec
  have hb := B.bytes
  have hr := B.returns
  have hts := atoms_spec (ws := wsJ3_checkIndex_8e157) B.pre
  have hown : s.vm.findClass RJ3 = some m.cls := (findClass_of_methodNamed B.named :)
  have hlocks := B.notSynchronized
  have hS : va_S (fun _ : Nat => False) s.heap s.heap [] := va_S.rf
  have hl := lv_entry ([.int x0, .int x1, .ref t0]) (n := 3) (Nat.le_of_ble_eq_true rfl)
  rw [lg_entry_eq]
  generalize (lg_sl ([.int x0, .int x1, .ref t0]) ++ List.replicate (3 - (lg_sl ([.int x0, .int x1, .ref t0])).length) Slot.unset).toArray = ls at hl ⊢
  have hl : lv_has ls 3 [(0, .int x0), (1, .int x1), (2, .ref t0)] := hl
  refine lv_iload_n hx hb dJ3_checkIndex_8e157_0 rfl (lv_at hl 0 rfl) ?_
  refine lv_if_lt (tgt := 9) hx hb dJ3_checkIndex_8e157_1 (by decide) (fun hc => absurd hc h0) (fun hc => ?_)
  refine lv_iload_n hx hb dJ3_checkIndex_8e157_4 rfl (lv_at hl 0 rfl) ?_
  refine lv_iload_n hx hb dJ3_checkIndex_8e157_5 rfl (lv_at hl 1 rfl) ?_
  refine lv_icmp_lt (tgt := 16) hx hb dJ3_checkIndex_8e157_6 (by decide) (fun hc => ?_) (fun hc => absurd h1 hc)
  refine lv_iload_n hx hb dJ3_checkIndex_8e157_16 rfl (lv_at hl 0 rfl) ?_
  exact W.iret (v := x0) hx hb hr (fun t ht hW => ⟨_, rfl, rfl, ht⟩) (fun _ h => nomatch h) dJ3_checkIndex_8e157_17
set_option maxHeartbeats 4000000 in
set_option maxRecDepth 100000 in
theorem cz_J0_checkIndex_df160 (l : Launch) (aK aV : Nat → Nat) (x0 x1 : Int32) (h0 : ¬ x0 < 0) (h1 : x0 < x1) : Met l yJ0_checkIndex_df160 wsJ0_checkIndex_df160 ({ frames := 1, cells := 0, slots := 0, locals := 25 }) (va_Pc [.int x0, .int x1] (wb_preZ aK aV)) (va_Sv (fun _ => True)) 0 0 (fun _ => False) := by
  refine va_MetF (cc := cJ0_checkIndex_df160) (maxL := 2) (ret := none) (by decide +kernel) rfl ?_
  intro p e s m args below meth c s₁ B hml hv
  obtain ⟨rfl, hZ⟩ := hv
  have hx := B.exec
  have hb := B.bytes
  have hr := B.returns
  have hts := atoms_spec (ws := wsJ0_checkIndex_df160) B.pre
  have hown : s.vm.findClass RJ0 = some m.cls := (findClass_of_methodNamed B.named :)
  have hlocks := B.notSynchronized
  have hS : va_S (fun _ : Nat => False) s.heap s.heap [] := va_S.rf
  have hl := lv_entry ([.int x0, .int x1]) (n := 2) (Nat.le_of_ble_eq_true rfl)
  rw [lg_entry_eq]
  generalize (lg_sl ([.int x0, .int x1]) ++ List.replicate (2 - (lg_sl ([.int x0, .int x1])).length) Slot.unset).toArray = ls at hl ⊢
  have hl : lv_has ls 2 [(0, .int x0), (1, .int x1)] := hl
  refine lv_iload_n hx hb dJ0_checkIndex_df160_0 rfl (lv_at hl 0 rfl) ?_
  refine lv_iload_n hx hb dJ0_checkIndex_df160_1 rfl (lv_at hl 1 rfl) ?_
  rcases hZ.2.2.2 with hz | ⟨t0, hz⟩
  · refine va_gets hx hb hz hS hown (hts (.fieldLink RJ0 1053 "jdk/internal/util/Preconditions" "SIOOBE_FORMATTER" "Ljava/util/function/BiFunction;") (by decide +kernel)) (fun _ h9 => h9) dJ0_checkIndex_df160_2 ?_
    refine vp_callSi (W.runS (As := [.int x0, .int x1, .null]) (rest := []) ⟨hx, hb, hml, hown, hts⟩ (cz_J3_checkIndex_8e157n l x0 x1 h0 h1) (va_cwS 3 hts gJ0_checkIndex_df160_J3_checkIndex_8e157 rfl rfl rfl csJ3_checkIndex_8e157 ⟨Nat.le_of_ble_eq_true rfl, Nat.le_of_ble_eq_true rfl⟩) wb_preA rfl rfl hl.1 rfl (lv_room (Nat.le_of_ble_eq_true rfl)) dJ0_checkIndex_df160_5 ⟨Nat.le_of_ble_eq_true rfl, Nat.le_of_ble_eq_true rfl⟩) (fun r9 e9 => ?_)
    refine lv_pop hx hb dJ0_checkIndex_df160_8 rfl ?_
    exact W.vret hx hb hr (fun t ht hW => ⟨rfl, trivial, ht⟩) (fun _ h => nomatch h) dJ0_checkIndex_df160_9
  · refine va_gets hx hb hz hS hown (hts (.fieldLink RJ0 1053 "jdk/internal/util/Preconditions" "SIOOBE_FORMATTER" "Ljava/util/function/BiFunction;") (by decide +kernel)) (fun _ h9 => h9) dJ0_checkIndex_df160_2 ?_
    refine vp_callSi (W.runS (As := [.int x0, .int x1, .ref t0]) (rest := []) ⟨hx, hb, hml, hown, hts⟩ (cz_J3_checkIndex_8e157r l x0 x1 t0 h0 h1) (va_cwS 3 hts gJ0_checkIndex_df160_J3_checkIndex_8e157 rfl rfl rfl csJ3_checkIndex_8e157 ⟨Nat.le_of_ble_eq_true rfl, Nat.le_of_ble_eq_true rfl⟩) wb_preA rfl rfl hl.1 rfl (lv_room (Nat.le_of_ble_eq_true rfl)) dJ0_checkIndex_df160_5 ⟨Nat.le_of_ble_eq_true rfl, Nat.le_of_ble_eq_true rfl⟩) (fun r9 e9 => ?_)
    refine lv_pop hx hb dJ0_checkIndex_df160_8 rfl ?_
    exact W.vret hx hb hr (fun t ht hW => ⟨rfl, trivial, ht⟩) (fun _ h => nomatch h) dJ0_checkIndex_df160_9
theorem zlen_lt : ∀ i : Nat, i < 19 → zLen.getD i 0 < 100 := by decide
theorem zin {n : Nat} {k : Int32} (hn : n < 100) (h : vp_in k n) : ¬ k < 0 ∧ k < Int32.ofNat n := by
  have a : ¬ k < 0 := fun q => h (Or.inl q)
  have b : k.toNatClampNeg < n := Nat.not_le.mp fun q => h (Or.inr q)
  refine ⟨a, Int32.lt_iff_toInt_lt.mpr ?_⟩
  have e : k.toNatClampNeg = k.toInt.toNat := rfl
  have e2 : (Int32.ofNat n).toInt = n := nI_toInt (by omega)
  omega
set_option maxHeartbeats 4000000 in
set_option maxRecDepth 100000 in
theorem cz_J1_charAt_3b067 (l : Launch) (aK aV : Nat → Nat) (i : Nat) (hi : i < 19) (k : Int32) (hk : vp_in k (zLen.getD i 0)) : Met l yJ1_charAt_3b067 wsJ1_charAt_3b067 ({ frames := 2, cells := 0, slots := 0, locals := 60 }) (va_Pc [.ref (aV i), .int k] (wb_preZ aK aV)) (vp_Si (fun r => r = zC i k)) 0 0 (fun _ => False) := by
  refine va_MetF (cc := cJ1_charAt_3b067) (maxL := 2) (ret := (some .char)) (by decide +kernel) rfl ?_
  intro p e s m args below meth c s₁ B hml hv
  obtain ⟨rfl, hZ⟩ := hv
  have hx := B.exec
  have hb := B.bytes
  have hr := B.returns
  have hts := atoms_spec (ws := wsJ1_charAt_3b067) B.pre
  have hown : s.vm.findClass RJ1 = some m.cls := (findClass_of_methodNamed B.named :)
  have hlocks := B.notSynchronized
  have hS : va_S (fun _ : Nat => False) s.heap s.heap [] := va_S.rf
  have hl := lv_entry ([.ref (aV i), .int k]) (n := 2) (Nat.le_of_ble_eq_true rfl)
  rw [lg_entry_eq]
  generalize (lg_sl ([.ref (aV i), .int k]) ++ List.replicate (2 - (lg_sl ([.ref (aV i), .int k])).length) Slot.unset).toArray = ls at hl ⊢
  have hl : lv_has ls 2 [(0, .ref (aV i)), (1, .int k)] := hl
  obtain ⟨h0, h1⟩ := zin (zlen_lt i hi) hk
  refine lv_iload_n hx hb dJ1_charAt_3b067_0 rfl (lv_at hl 1 rfl) ?_
  refine lv_aload_n hx hb dJ1_charAt_3b067_1 rfl (lv_at hl 0 rfl) ?_
  refine va_tlen hx hb (hZ.1.1 i hi).2.2.2 hS rfl dJ1_charAt_3b067_2 ?_
  refine va_csv (W.runS (As := [.int k, .int (Int32.ofNat (zLen.getD i 0))]) (rest := []) ⟨hx, hb, hml, hown, hts⟩ (cz_J0_checkIndex_df160 l aK aV k (Int32.ofNat (zLen.getD i 0)) h0 h1) (va_cwS 2 hts gJ1_charAt_3b067_J0_checkIndex_df160 rfl rfl rfl csJ0_checkIndex_df160 ⟨Nat.le_of_ble_eq_true rfl, Nat.le_of_ble_eq_true rfl⟩) (wb_preZS hZ hS) rfl rfl hl.1 rfl (lv_room (Nat.le_of_ble_eq_true rfl)) dJ1_charAt_3b067_3 ⟨Nat.le_of_ble_eq_true rfl, Nat.le_of_ble_eq_true rfl⟩) (fun _ => ?_)
  refine lv_aload_n hx hb dJ1_charAt_3b067_6 rfl (lv_at hl 0 rfl) ?_
  refine lv_iload_n hx hb dJ1_charAt_3b067_7 rfl (lv_at hl 1 rfl) ?_
  refine va_tb hx hb (hZ.1.1 i hi).2.2.2 hS hk rfl dJ1_charAt_3b067_8 ?_
  refine lv_sipush (v := (255 : Int32)) hx hb dJ1_charAt_3b067_9 (by decide) ?_
  refine lv_iand hx hb dJ1_charAt_3b067_12 ?_
  refine lv_i2c hx hb dJ1_charAt_3b067_13 (sc_c2 _) ?_
  exact W.zret (v := zC i k) hx hb hr (sc_nar _) (fun t ht hW => ⟨_, rfl, rfl, ht⟩) (fun _ h => nomatch h) dJ1_charAt_3b067_14
set_option maxHeartbeats 4000000 in
set_option maxRecDepth 100000 in
theorem cz_J0_charAt_5068e (l : Launch) (aK aV : Nat → Nat) (i : Nat) (hi : i < 19) (k : Int32) (hk : vp_in k (zLen.getD i 0)) : Met l yJ0_charAt_5068e wsJ0_charAt_5068e ({ frames := 3, cells := 0, slots := 0, locals := 100 }) (va_Pc [.ref (aK i), .int k] (wb_preZ aK aV)) (vp_Si (fun r => r = zC i k)) 0 0 (fun _ => False) := by
  refine va_MetF (cc := cJ0_charAt_5068e) (maxL := 2) (ret := (some .char)) (by decide +kernel) rfl ?_
  intro p e s m args below meth c s₁ B hml hv
  obtain ⟨rfl, hZ⟩ := hv
  have hx := B.exec
  have hb := B.bytes
  have hr := B.returns
  have hts := atoms_spec (ws := wsJ0_charAt_5068e) B.pre
  have hown : s.vm.findClass RJ0 = some m.cls := (findClass_of_methodNamed B.named :)
  have hlocks := B.notSynchronized
  have hS : va_S (fun _ : Nat => False) s.heap s.heap [] := va_S.rf
  have hl := lv_entry ([.ref (aK i), .int k]) (n := 2) (Nat.le_of_ble_eq_true rfl)
  rw [lg_entry_eq]
  generalize (lg_sl ([.ref (aK i), .int k]) ++ List.replicate (2 - (lg_sl ([.ref (aK i), .int k])).length) Slot.unset).toArray = ls at hl ⊢
  have hl : lv_has ls 2 [(0, .ref (aK i)), (1, .int k)] := hl
  refine lv_aload_n hx hb dJ0_charAt_5068e_0 rfl (lv_at hl 0 rfl) ?_
  refine vp_callSi (W.runV (As := []) (rest := []) ⟨hx, hb, hml, hown, hts⟩ (cz_J0_isLatin1_aae02 l aK aV i hi) (cwV 0 hts gJ0_charAt_5068e_J0_isLatin1_aae02 rfl rfl rfl cdJ0_isLatin1_aae02 ⟨Nat.le_of_ble_eq_true rfl, Nat.le_of_ble_eq_true rfl⟩) (wb_preZV hZ hS (vk_recv hZ.1 hi hS)) rfl rfl hl.1 rfl (lv_room (Nat.le_of_ble_eq_true rfl)) dJ0_charAt_5068e_1 ⟨Nat.le_of_ble_eq_true rfl, Nat.le_of_ble_eq_true rfl⟩) (fun r9 e9 => ?_)
  rw [e9]
  refine lv_if_eq (tgt := 16) hx hb dJ0_charAt_5068e_4 (by decide) (fun hc => absurd hc (by decide)) (fun hc => ?_)
  refine lv_aload_n hx hb dJ0_charAt_5068e_7 rfl (lv_at hl 0 rfl) ?_
  refine vk_getf hx hb (hZ.1.1 i hi).2.2.1 hS hown (hts (.fieldLink RJ0 9 "java/lang/String" "value" "[B") (by decide +kernel)) (fun _ h9 => h9) dJ0_charAt_5068e_8 ?_
  refine lv_iload_n hx hb dJ0_charAt_5068e_11 rfl (lv_at hl 1 rfl) ?_
  refine vp_callSi (W.runS (As := [.ref (aV i), .int k]) (rest := []) ⟨hx, hb, hml, hown, hts⟩ (cz_J1_charAt_3b067 l aK aV i hi k hk) (va_cwS 2 hts gJ0_charAt_5068e_J1_charAt_3b067 rfl rfl rfl csJ1_charAt_3b067 ⟨Nat.le_of_ble_eq_true rfl, Nat.le_of_ble_eq_true rfl⟩) (wb_preZS hZ hS) rfl rfl hl.1 rfl (lv_room (Nat.le_of_ble_eq_true rfl)) dJ0_charAt_5068e_12 ⟨Nat.le_of_ble_eq_true rfl, Nat.le_of_ble_eq_true rfl⟩) (fun r9 e9 => ?_)
  rw [e9]
  exact W.zret (v := zC i k) hx hb hr (sc_nar _) (fun t ht hW => ⟨_, rfl, rfl, ht⟩) (fun _ h => nomatch h) dJ0_charAt_5068e_15
/-! methods that are handed texts, or come to such -/
theorem zN_lt (x : Int32) : zN x < 19 := by
  unfold zN
  repeat (first | (split; decide) | decide)
def wb_preE (D : va_G) (ty : List (ClassId × FieldType)) (ws : va_W) (aK aV : Nat → Nat) : State → Prop := fun U => wb_pre D ty ws U ∧ wb_preZ aK aV U
def wb_preDE (D : va_G) (ty : List (ClassId × FieldType)) (ws : va_W) (sz : Nat) (aK aV : Nat → Nat) : State → Prop := fun U => wb_preD D ty ws sz U ∧ wb_Z aK aV (va_A ws sz) U U.heap
theorem wb_blindE {av : List Value} {D : va_G} {ty : List (ClassId × FieldType)} {ws : va_W} {aK aV : Nat → Nat} : FrameBlind (va_Pc av (wb_preE D ty ws aK aV)) := by
  intro a U g mk q
  obtain ⟨q0, q1, q2⟩ := q
  exact ⟨q0, (wb_blind (av := av) a U g mk ⟨q0, q1⟩).2, (wb_blindZ (av := av) a U g mk ⟨q0, q2⟩).2⟩
theorem wb_blindDE {av : List Value} {D : va_G} {ty : List (ClassId × FieldType)} {ws : va_W} {sz : Nat} {aK aV : Nat → Nat} : FrameBlind (va_Pc av (wb_preDE D ty ws sz aK aV)) := by
  intro a U g mk q
  obtain ⟨q0, q1, q2⟩ := q
  exact ⟨q0, (wb_blindD (av := av) a U g mk ⟨q0, q1⟩).2, wb_Z.same (u := U) (U := U.calling g mk a) rfl q2⟩
theorem wb_preEV {aK aV : Nat → Nat} {A : Nat → Prop} {s : State} {H : Heap} {locs : List Loc} {C : String} {b : Addr} {As : List Value} {D : va_G} {ty : List (ClassId × FieldType)} {ws : va_W} (hP : va_P D vwCl ws H) (hK : va_K D vwCl ty s) (hr : ∃ cellB : Cell, H[b]? = some cellB ∧ cellB.vm.isStatics = false ∧ s.vm.findClass C = some cellB.cls) (hZ : wb_Z aK aV A s s.heap) (hS : va_S A s.heap H locs) : PreV s H C b (va_Pc (.ref b :: As) (wb_preE D ty ws aK aV)) As := by
  obtain ⟨-, -, a3⟩ := wb_preV (As := As) hP hK hr
  obtain ⟨-, -, b3⟩ := wb_preZV (As := As) hZ hS hr
  exact ⟨wb_blindE, hr, fun U hU hW => ⟨rfl, (a3 U hU hW).2, (b3 U hU hW).2⟩⟩
theorem wb_preES {aK aV : Nat → Nat} {A : Nat → Prop} {s : State} {H : Heap} {locs : List Loc} {As : List Value} {D : va_G} {ty : List (ClassId × FieldType)} {ws : va_W} (hP : va_P D vwCl ws H) (hK : va_K D vwCl ty s) (hZ : wb_Z aK aV A s s.heap) (hS : va_S A s.heap H locs) : PreS s H (va_Pc As (wb_preE D ty ws aK aV)) As := by
  obtain ⟨-, a3⟩ := wb_preS (As := As) hP hK
  obtain ⟨-, b3⟩ := wb_preZS (As := As) hZ hS
  exact ⟨wb_blindE, fun U hU hW => ⟨rfl, (a3 U hU hW).2, (b3 U hU hW).2⟩⟩
theorem wb_preDEV {aK aV : Nat → Nat} {A A0 : Nat → Prop} {s : State} {H : Heap} {locs : List Loc} {C : String} {b : Addr} {As : List Value} {D : va_G} {ty : List (ClassId × FieldType)} {ws : va_W} (hP : va_P D vwCl ws H) (hK : va_K D vwCl ty s) (hD : va_D A0 ws) (hr : ∃ cellB : Cell, H[b]? = some cellB ∧ cellB.vm.isStatics = false ∧ s.vm.findClass C = some cellB.cls) (hZ : wb_Z aK aV A s s.heap) (hS : va_S A s.heap H locs) (hF : ∀ q, va_A ws H.size q → A q) : PreV s H C b (va_Pc (.ref b :: As) (wb_preDE D ty ws H.size aK aV)) As := by
  obtain ⟨-, -, a3⟩ := wb_preDV (As := As) hP hK hD hr
  exact ⟨wb_blindDE, hr, fun U hU hW => ⟨rfl, (a3 U hU hW).2, by rw [hU]; exact hZ.at hS.2.1 hF hW⟩⟩
theorem wb_preDES {aK aV : Nat → Nat} {A A0 : Nat → Prop} {s : State} {H : Heap} {locs : List Loc} {As : List Value} {D : va_G} {ty : List (ClassId × FieldType)} {ws : va_W} (hP : va_P D vwCl ws H) (hK : va_K D vwCl ty s) (hD : va_D A0 ws) (hZ : wb_Z aK aV A s s.heap) (hS : va_S A s.heap H locs) (hF : ∀ q, va_A ws H.size q → A q) : PreS s H (va_Pc As (wb_preDE D ty ws H.size aK aV)) As := by
  obtain ⟨-, a3⟩ := wb_preDS (As := As) hP hK hD
  exact ⟨wb_blindDE, fun U hU hW => ⟨rfl, (a3 U hU hW).2, by rw [hU]; exact hZ.at hS.2.1 hF hW⟩⟩
set_option maxHeartbeats 4000000 in
set_option maxRecDepth 100000 in
theorem cz_X9_nameOf (l : Launch) (aK aV : Nat → Nat) (x : Int32) : Met l yX9_nameOf wsX9_nameOf ({ frames := 0, cells := 0, slots := 0, locals := 0 }) (va_Pc [.int x] (wb_preZ aK aV)) (va_Sr (fun k => k = zN x) (fun k => .ref (aK k))) 0 0 (fun _ => False) := by
  refine Met.ofW (cc := cX9_nameOf) (maxL := 1) (ret := (some (.object "java/lang/String"))) (by decide) rfl ?_
  intro p e s m args below meth c s₁ B hml hv
  obtain ⟨rfl, hZ⟩ := hv
  have hx := B.exec
  have hb := B.bytes
  have hr := B.returns
  have hown : s.vm.findClass RX9 = some m.cls := (findClass_of_methodNamed B.named :)
  have hlocks := B.notSynchronized
  have hl := lv_entry ([.int x]) (n := 1) (Nat.le_of_ble_eq_true rfl)
  rw [lg_entry_eq]
  generalize (lg_sl ([.int x]) ++ List.replicate (1 - (lg_sl ([.int x])).length) Slot.unset).toArray = ls at hl ⊢
  have hl : lv_has ls 1 [(0, .int x)] := hl
  refine lv_iload_n hx hb dX9_nameOf_0 rfl (lv_at hl 0 rfl) ?_
  unfold zN
  by_cases hc0 : x = (0 : Int32)
  · rw [if_pos hc0]
    refine lv_tableIn (off := 47) (tgt := 48) hx hb dX9_nameOf_1 (by rw [hc0]; decide) (by rw [hc0]; decide) (by rw [hc0]; rfl) (by decide) ?_
    refine va_ldcS hx hb hown (hZ.2.1 10 (RX9, 76, "sun") rfl) dX9_nameOf_48 ?_
    exact W.aret hx hb hr (Or.inl ⟨_, rfl⟩) (Or.inr ⟨_, rfl⟩) (fun t ht hW => ⟨10, rfl, rfl, ht⟩) (fun _ h => nomatch h) dX9_nameOf_50
  rw [if_neg hc0]
  by_cases hc1 : x = (1 : Int32)
  · rw [if_pos hc1]
    refine lv_tableIn (off := 50) (tgt := 51) hx hb dX9_nameOf_1 (by rw [hc1]; decide) (by rw [hc1]; decide) (by rw [hc1]; rfl) (by decide) ?_
    refine va_ldcS hx hb hown (hZ.2.1 11 (RX9, 78, "moon") rfl) dX9_nameOf_51 ?_
    exact W.aret hx hb hr (Or.inl ⟨_, rfl⟩) (Or.inr ⟨_, rfl⟩) (fun t ht hW => ⟨11, rfl, rfl, ht⟩) (fun _ h => nomatch h) dX9_nameOf_53
  rw [if_neg hc1]
  by_cases hc2 : x = (2 : Int32)
  · rw [if_pos hc2]
    refine lv_tableIn (off := 53) (tgt := 54) hx hb dX9_nameOf_1 (by rw [hc2]; decide) (by rw [hc2]; decide) (by rw [hc2]; rfl) (by decide) ?_
    refine va_ldcS hx hb hown (hZ.2.1 12 (RX9, 80, "mercury") rfl) dX9_nameOf_54 ?_
    exact W.aret hx hb hr (Or.inl ⟨_, rfl⟩) (Or.inr ⟨_, rfl⟩) (fun t ht hW => ⟨12, rfl, rfl, ht⟩) (fun _ h => nomatch h) dX9_nameOf_56
  rw [if_neg hc2]
  by_cases hc3 : x = (3 : Int32)
  · rw [if_pos hc3]
    refine lv_tableIn (off := 56) (tgt := 57) hx hb dX9_nameOf_1 (by rw [hc3]; decide) (by rw [hc3]; decide) (by rw [hc3]; rfl) (by decide) ?_
    refine va_ldcS hx hb hown (hZ.2.1 13 (RX9, 82, "venus") rfl) dX9_nameOf_57 ?_
    exact W.aret hx hb hr (Or.inl ⟨_, rfl⟩) (Or.inr ⟨_, rfl⟩) (fun t ht hW => ⟨13, rfl, rfl, ht⟩) (fun _ h => nomatch h) dX9_nameOf_59
  rw [if_neg hc3]
  by_cases hc4 : x = (4 : Int32)
  · rw [if_pos hc4]
    refine lv_tableIn (off := 59) (tgt := 60) hx hb dX9_nameOf_1 (by rw [hc4]; decide) (by rw [hc4]; decide) (by rw [hc4]; rfl) (by decide) ?_
    refine va_ldcS hx hb hown (hZ.2.1 14 (RX9, 84, "mars") rfl) dX9_nameOf_60 ?_
    exact W.aret hx hb hr (Or.inl ⟨_, rfl⟩) (Or.inr ⟨_, rfl⟩) (fun t ht hW => ⟨14, rfl, rfl, ht⟩) (fun _ h => nomatch h) dX9_nameOf_62
  rw [if_neg hc4]
  by_cases hc5 : x = (5 : Int32)
  · rw [if_pos hc5]
    refine lv_tableIn (off := 62) (tgt := 63) hx hb dX9_nameOf_1 (by rw [hc5]; decide) (by rw [hc5]; decide) (by rw [hc5]; rfl) (by decide) ?_
    refine va_ldcS hx hb hown (hZ.2.1 15 (RX9, 86, "jupiter") rfl) dX9_nameOf_63 ?_
    exact W.aret hx hb hr (Or.inl ⟨_, rfl⟩) (Or.inr ⟨_, rfl⟩) (fun t ht hW => ⟨15, rfl, rfl, ht⟩) (fun _ h => nomatch h) dX9_nameOf_65
  rw [if_neg hc5]
  by_cases hc6 : x = (6 : Int32)
  · rw [if_pos hc6]
    refine lv_tableIn (off := 65) (tgt := 66) hx hb dX9_nameOf_1 (by rw [hc6]; decide) (by rw [hc6]; decide) (by rw [hc6]; rfl) (by decide) ?_
    refine va_ldcS hx hb hown (hZ.2.1 16 (RX9, 88, "saturn") rfl) dX9_nameOf_66 ?_
    exact W.aret hx hb hr (Or.inl ⟨_, rfl⟩) (Or.inr ⟨_, rfl⟩) (fun t ht hW => ⟨16, rfl, rfl, ht⟩) (fun _ h => nomatch h) dX9_nameOf_68
  rw [if_neg hc6]
  by_cases hc7 : x = (7 : Int32)
  · rw [if_pos hc7]
    refine lv_tableIn (off := 68) (tgt := 69) hx hb dX9_nameOf_1 (by rw [hc7]; decide) (by rw [hc7]; decide) (by rw [hc7]; rfl) (by decide) ?_
    refine va_ldcS hx hb hown (hZ.2.1 17 (RX9, 90, "rise") rfl) dX9_nameOf_69 ?_
    exact W.aret hx hb hr (Or.inl ⟨_, rfl⟩) (Or.inr ⟨_, rfl⟩) (fun t ht hW => ⟨17, rfl, rfl, ht⟩) (fun _ h => nomatch h) dX9_nameOf_71
  rw [if_neg hc7]
  refine lv_tableOut (tgt := 72) hx hb dX9_nameOf_1 (wb_sw8 hc0 hc1 hc2 hc3 hc4 hc5 hc6 hc7) (by decide) ?_
  refine va_ldcS hx hb hown (hZ.2.1 18 (RX9, 92, "lot") rfl) dX9_nameOf_72 ?_
  exact W.aret hx hb hr (Or.inl ⟨_, rfl⟩) (Or.inr ⟨_, rfl⟩) (fun t ht hW => ⟨18, rfl, rfl, ht⟩) (fun _ h => nomatch h) dX9_nameOf_74
