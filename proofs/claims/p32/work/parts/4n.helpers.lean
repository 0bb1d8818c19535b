theorem cdX11_agree : yX11_agree.cls = RX11 ∧ yX11_agree.cls ≠ "java/lang/invoke/MethodHandle" ∧ yX11_agree.cls ≠ "java/lang/invoke/VarHandle" ∧ (parseMethodDescriptor yX11_agree.desc).map (fun d => d.parameters.length) = some 4 := by decide +kernel
theorem cdX11_best : yX11_best.cls = RX11 ∧ yX11_best.cls ≠ "java/lang/invoke/MethodHandle" ∧ yX11_best.cls ≠ "java/lang/invoke/VarHandle" ∧ (parseMethodDescriptor yX11_best.desc).map (fun d => d.parameters.length) = some 5 := by decide +kernel
theorem cdX11_births : yX11_births.cls = RX11 ∧ yX11_births.cls ≠ "java/lang/invoke/MethodHandle" ∧ yX11_births.cls ≠ "java/lang/invoke/VarHandle" ∧ (parseMethodDescriptor yX11_births.desc).map (fun d => d.parameters.length) = some 2 := by decide +kernel
theorem cdX11_climb : yX11_climb.cls = RX11 ∧ yX11_climb.cls ≠ "java/lang/invoke/MethodHandle" ∧ yX11_climb.cls ≠ "java/lang/invoke/VarHandle" ∧ (parseMethodDescriptor yX11_climb.desc).map (fun d => d.parameters.length) = some 2 := by decide +kernel
theorem cdX11_cost : yX11_cost.cls = RX11 ∧ yX11_cost.cls ≠ "java/lang/invoke/MethodHandle" ∧ yX11_cost.cls ≠ "java/lang/invoke/VarHandle" ∧ (parseMethodDescriptor yX11_cost.desc).map (fun d => d.parameters.length) = some 4 := by decide +kernel
theorem cdX11_count : yX11_count.cls = RX11 ∧ yX11_count.cls ≠ "java/lang/invoke/MethodHandle" ∧ yX11_count.cls ≠ "java/lang/invoke/VarHandle" ∧ (parseMethodDescriptor yX11_count.desc).map (fun d => d.parameters.length) = some 1 := by decide +kernel
theorem cdX11_day : yX11_day.cls = RX11 ∧ yX11_day.cls ≠ "java/lang/invoke/MethodHandle" ∧ yX11_day.cls ≠ "java/lang/invoke/VarHandle" ∧ (parseMethodDescriptor yX11_day.desc).map (fun d => d.parameters.length) = some 1 := by decide +kernel
theorem cdX11_entry : yX11_entry.cls = RX11 ∧ yX11_entry.cls ≠ "java/lang/invoke/MethodHandle" ∧ yX11_entry.cls ≠ "java/lang/invoke/VarHandle" ∧ (parseMethodDescriptor yX11_entry.desc).map (fun d => d.parameters.length) = some 3 := by decide +kernel
theorem cdX11_errors : yX11_errors.cls = RX11 ∧ yX11_errors.cls ≠ "java/lang/invoke/MethodHandle" ∧ yX11_errors.cls ≠ "java/lang/invoke/VarHandle" ∧ (parseMethodDescriptor yX11_errors.desc).map (fun d => d.parameters.length) = some 4 := by decide +kernel
theorem cdX11_fate : yX11_fate.cls = RX11 ∧ yX11_fate.cls ≠ "java/lang/invoke/MethodHandle" ∧ yX11_fate.cls ≠ "java/lang/invoke/VarHandle" ∧ (parseMethodDescriptor yX11_fate.desc).map (fun d => d.parameters.length) = some 2 := by decide +kernel
theorem cdX11_fates : yX11_fates.cls = RX11 ∧ yX11_fates.cls ≠ "java/lang/invoke/MethodHandle" ∧ yX11_fates.cls ≠ "java/lang/invoke/VarHandle" ∧ (parseMethodDescriptor yX11_fates.desc).map (fun d => d.parameters.length) = some 1 := by decide +kernel
theorem cdX11_handed : yX11_handed.cls = RX11 ∧ yX11_handed.cls ≠ "java/lang/invoke/MethodHandle" ∧ yX11_handed.cls ≠ "java/lang/invoke/VarHandle" ∧ (parseMethodDescriptor yX11_handed.desc).map (fun d => d.parameters.length) = some 3 := by decide +kernel
theorem cdX11_held : yX11_held.cls = RX11 ∧ yX11_held.cls ≠ "java/lang/invoke/MethodHandle" ∧ yX11_held.cls ≠ "java/lang/invoke/VarHandle" ∧ (parseMethodDescriptor yX11_held.desc).map (fun d => d.parameters.length) = some 1 := by decide +kernel
theorem cdX11_hits : yX11_hits.cls = RX11 ∧ yX11_hits.cls ≠ "java/lang/invoke/MethodHandle" ∧ yX11_hits.cls ≠ "java/lang/invoke/VarHandle" ∧ (parseMethodDescriptor yX11_hits.desc).map (fun d => d.parameters.length) = some 2 := by decide +kernel
theorem cdX11_hour : yX11_hour.cls = RX11 ∧ yX11_hour.cls ≠ "java/lang/invoke/MethodHandle" ∧ yX11_hour.cls ≠ "java/lang/invoke/VarHandle" ∧ (parseMethodDescriptor yX11_hour.desc).map (fun d => d.parameters.length) = some 3 := by decide +kernel
theorem cdX11_house : yX11_house.cls = RX11 ∧ yX11_house.cls ≠ "java/lang/invoke/MethodHandle" ∧ yX11_house.cls ≠ "java/lang/invoke/VarHandle" ∧ (parseMethodDescriptor yX11_house.desc).map (fun d => d.parameters.length) = some 1 := by decide +kernel
theorem cdX11_houseOf : yX11_houseOf.cls = RX11 ∧ yX11_houseOf.cls ≠ "java/lang/invoke/MethodHandle" ∧ yX11_houseOf.cls ≠ "java/lang/invoke/VarHandle" ∧ (parseMethodDescriptor yX11_houseOf.desc).map (fun d => d.parameters.length) = some 4 := by decide +kernel
theorem cdX11_leaf : yX11_leaf.cls = RX11 ∧ yX11_leaf.cls ≠ "java/lang/invoke/MethodHandle" ∧ yX11_leaf.cls ≠ "java/lang/invoke/VarHandle" ∧ (parseMethodDescriptor yX11_leaf.desc).map (fun d => d.parameters.length) = some 2 := by decide +kernel
theorem cdX11_life : yX11_life.cls = RX11 ∧ yX11_life.cls ≠ "java/lang/invoke/MethodHandle" ∧ yX11_life.cls ≠ "java/lang/invoke/VarHandle" ∧ (parseMethodDescriptor yX11_life.desc).map (fun d => d.parameters.length) = some 3 := by decide +kernel
theorem cdX11_lot : yX11_lot.cls = RX11 ∧ yX11_lot.cls ≠ "java/lang/invoke/MethodHandle" ∧ yX11_lot.cls ≠ "java/lang/invoke/VarHandle" ∧ (parseMethodDescriptor yX11_lot.desc).map (fun d => d.parameters.length) = some 3 := by decide +kernel
theorem cdX11_middle : yX11_middle.cls = RX11 ∧ yX11_middle.cls ≠ "java/lang/invoke/MethodHandle" ∧ yX11_middle.cls ≠ "java/lang/invoke/VarHandle" ∧ (parseMethodDescriptor yX11_middle.desc).map (fun d => d.parameters.length) = some 2 := by decide +kernel
theorem cdX11_misread : yX11_misread.cls = RX11 ∧ yX11_misread.cls ≠ "java/lang/invoke/MethodHandle" ∧ yX11_misread.cls ≠ "java/lang/invoke/VarHandle" ∧ (parseMethodDescriptor yX11_misread.desc).map (fun d => d.parameters.length) = some 5 := by decide +kernel
theorem cdX11_mixed : yX11_mixed.cls = RX11 ∧ yX11_mixed.cls ≠ "java/lang/invoke/MethodHandle" ∧ yX11_mixed.cls ≠ "java/lang/invoke/VarHandle" ∧ (parseMethodDescriptor yX11_mixed.desc).map (fun d => d.parameters.length) = some 4 := by decide +kernel
theorem cdX11_on : yX11_on.cls = RX11 ∧ yX11_on.cls ≠ "java/lang/invoke/MethodHandle" ∧ yX11_on.cls ≠ "java/lang/invoke/VarHandle" ∧ (parseMethodDescriptor yX11_on.desc).map (fun d => d.parameters.length) = some 1 := by decide +kernel
theorem cdX11_order : yX11_order.cls = RX11 ∧ yX11_order.cls ≠ "java/lang/invoke/MethodHandle" ∧ yX11_order.cls ≠ "java/lang/invoke/VarHandle" ∧ (parseMethodDescriptor yX11_order.desc).map (fun d => d.parameters.length) = some 3 := by decide +kernel
theorem cdX11_place : yX11_place.cls = RX11 ∧ yX11_place.cls ≠ "java/lang/invoke/MethodHandle" ∧ yX11_place.cls ≠ "java/lang/invoke/VarHandle" ∧ (parseMethodDescriptor yX11_place.desc).map (fun d => d.parameters.length) = some 3 := by decide +kernel
theorem cdX11_possible : yX11_possible.cls = RX11 ∧ yX11_possible.cls ≠ "java/lang/invoke/MethodHandle" ∧ yX11_possible.cls ≠ "java/lang/invoke/VarHandle" ∧ (parseMethodDescriptor yX11_possible.desc).map (fun d => d.parameters.length) = some 3 := by decide +kernel
theorem cdX11_price : yX11_price.cls = RX11 ∧ yX11_price.cls ≠ "java/lang/invoke/MethodHandle" ∧ yX11_price.cls ≠ "java/lang/invoke/VarHandle" ∧ (parseMethodDescriptor yX11_price.desc).map (fun d => d.parameters.length) = some 2 := by decide +kernel
theorem cdX11_rise : yX11_rise.cls = RX11 ∧ yX11_rise.cls ≠ "java/lang/invoke/MethodHandle" ∧ yX11_rise.cls ≠ "java/lang/invoke/VarHandle" ∧ (parseMethodDescriptor yX11_rise.desc).map (fun d => d.parameters.length) = some 3 := by decide +kernel
theorem cdX11_same : yX11_same.cls = RX11 ∧ yX11_same.cls ≠ "java/lang/invoke/MethodHandle" ∧ yX11_same.cls ≠ "java/lang/invoke/VarHandle" ∧ (parseMethodDescriptor yX11_same.desc).map (fun d => d.parameters.length) = some 3 := by decide +kernel
theorem cdX11_seek : yX11_seek.cls = RX11 ∧ yX11_seek.cls ≠ "java/lang/invoke/MethodHandle" ∧ yX11_seek.cls ≠ "java/lang/invoke/VarHandle" ∧ (parseMethodDescriptor yX11_seek.desc).map (fun d => d.parameters.length) = some 4 := by decide +kernel
theorem cdX11_slips : yX11_slips.cls = RX11 ∧ yX11_slips.cls ≠ "java/lang/invoke/MethodHandle" ∧ yX11_slips.cls ≠ "java/lang/invoke/VarHandle" ∧ (parseMethodDescriptor yX11_slips.desc).map (fun d => d.parameters.length) = some 2 := by decide +kernel
theorem cdX11_wheel : yX11_wheel.cls = RX11 ∧ yX11_wheel.cls ≠ "java/lang/invoke/MethodHandle" ∧ yX11_wheel.cls ≠ "java/lang/invoke/VarHandle" ∧ (parseMethodDescriptor yX11_wheel.desc).map (fun d => d.parameters.length) = some 3 := by decide +kernel
theorem cdX11_whence : yX11_whence.cls = RX11 ∧ yX11_whence.cls ≠ "java/lang/invoke/MethodHandle" ∧ yX11_whence.cls ≠ "java/lang/invoke/VarHandle" ∧ (parseMethodDescriptor yX11_whence.desc).map (fun d => d.parameters.length) = some 1 := by decide +kernel
theorem cdX11_whose : yX11_whose.cls = RX11 ∧ yX11_whose.cls ≠ "java/lang/invoke/MethodHandle" ∧ yX11_whose.cls ≠ "java/lang/invoke/VarHandle" ∧ (parseMethodDescriptor yX11_whose.desc).map (fun d => d.parameters.length) = some 5 := by decide +kernel
theorem wb_hpi {α β : Type} {x : Option (Nat ⊕ α)} {g : Nat → Option β} {f : α → Option β} {R : β} (h : wb_hp x g f = some R) : (∃ k, x = some (.inl k) ∧ g k = some R) ∨ ∃ r, x = some (.inr r) ∧ f r = some R := by
  match x, h with
  | none, h => cases h
  | some (.inl k), h => exact Or.inl ⟨k, rfl, h⟩
  | some (.inr a), h => exact Or.inr ⟨a, rfl, h⟩
def wb_preL (D : va_G) (ty : List (ClassId × FieldType)) (ws : va_W) (sz : Nat) : State → Prop := fun U => U.heap.size = sz ∧ va_P D vwCl ws U.heap ∧ va_K D vwCl ty U ∧ va_D (fun _ => True) ws ∧ wb_XH U.heap U ∧ va_Nc wb_E2 wb_E1 U
theorem wb_preLS {A : Nat → Prop} {s : State} {H : Heap} {As : List Value} {D : va_G} {ty : List (ClassId × FieldType)} {ws : va_W} (hP : va_P D vwCl ws H) (hK : va_K D vwCl ty s) (hD : va_D A ws) (hX : wb_XH H s) (hN : va_Nc wb_E2 wb_E1 s) : PreS s H (va_Pc As (wb_preL D ty ws H.size)) As := by
  refine ⟨fun a U g mk q => ?_, fun U hU hW => ⟨rfl, by rw [hU], by rw [hU]; exact hP, va_K.moved hW.alike hK, hD.weaken (fun _ _ _ _ => trivial), by rw [hU]; exact hX.warm hW, va_Nc.moved hW.alike hN⟩⟩
  obtain ⟨q0, q1, qP, qK, qD, qX, qN⟩ := q
  exact ⟨q0, q1, qP, va_K.moved (u := U) (U := U.calling g mk a) (Vm.Alike.refl U.vm) qK, qD, wb_XH.same (u := U) rfl qX, va_Nc.moved (u := U) (U := U.calling g mk a) (Vm.Alike.refl U.vm) qN⟩
def wb_preLE (D : va_G) (ty : List (ClassId × FieldType)) (ws : va_W) (sz : Nat) (aK aV : Nat → Nat) : State → Prop := fun U => wb_preL D ty ws sz U ∧ wb_Z aK aV (va_A ws sz) U U.heap
theorem wb_preLES {aK aV : Nat → Nat} {A A0 : Nat → Prop} {s : State} {H : Heap} {locs : List Loc} {As : List Value} {D : va_G} {ty : List (ClassId × FieldType)} {ws : va_W} (hP : va_P D vwCl ws H) (hK : va_K D vwCl ty s) (hD : va_D A0 ws) (hX : wb_XH H s) (hN : va_Nc wb_E2 wb_E1 s) (hZ : wb_Z aK aV A s s.heap) (hS : va_S A s.heap H locs) (hF : ∀ q, va_A ws H.size q → A q) : PreS s H (va_Pc As (wb_preLE D ty ws H.size aK aV)) As := by
  obtain ⟨a2, a3⟩ := wb_preLS (As := As) hP hK hD hX hN
  refine ⟨fun a U g mk q => ?_, fun U hU hW => ⟨rfl, (a3 U hU hW).2, by rw [hU]; exact hZ.at hS.2.1 hF hW⟩⟩
  obtain ⟨q0, q1, q2⟩ := q
  exact ⟨q0, (a2 a U g mk ⟨q0, q1⟩).2, wb_Z.same (u := U) (U := U.calling g mk a) rfl q2⟩
set_option maxHeartbeats 4000000 in
set_option maxRecDepth 100000 in
theorem cn_L_house (l : Launch) (hlt : l.stackTraces = false) (D : va_G) (cB cI cZ cJ : ClassId) (N : Nat) (aK aV : Nat → Nat) (a0 : Nat → Nat) (I0 : Nat → Int32) (M0 : Nat → Nat → Int32) (x1 : Int32) (b2 : Nat) (o2 : Nat → Int64) (sz : Nat) (R : Int32 × (Nat → Int32) × (Nat → Nat → Int32) × (Nat → Int64)) (hf : fL_house N I0 M0 x1 o2 = some R) : Met l yL_house wsL_house ({ frames := 10, cells := 1, slots := 6, locals := 253 }) (va_Pc [.ref (a0 0), .int x1, .ref b2] (wb_preLE D [(cB, .byte), (cI, .int), (cZ, .boolean), (cJ, .long)] ((wWX11 cB cI cZ a0 I0 M0) ++ [((b2, .inl (cJ, 1, .inr (.inl o2))) : Nat × va_E)]) sz aK aV)) (va_Qi (fun r (_ : Unit) => r = R.1) (fun _ t => wb_post D [(cB, .byte), (cI, .int), (cZ, .boolean), (cJ, .long)] (va_A ((wWX11 cB cI cZ a0 I0 M0) ++ [((b2, .inl (cJ, 1, .inr (.inl o2))) : Nat × va_E)]) sz) ((wWX11 cB cI cZ a0 R.2.1 R.2.2.1) ++ [((b2, .inl (cJ, 1, .inr (.inl R.2.2.2))) : Nat × va_E)]) t) (va_A ((wWX11 cB cI cZ a0 I0 M0) ++ [((b2, .inl (cJ, 1, .inr (.inl o2))) : Nat × va_E)]) sz)) 1 6 (va_A ((wWX11 cB cI cZ a0 I0 M0) ++ [((b2, .inl (cJ, 1, .inr (.inl o2))) : Nat × va_E)]) sz) := by
  refine va_MetW (cc := cL_house) (maxL := 4) (ret := (some .int)) (hh := [(0, 9, 12, 13)]) pn_L rfl ?_
  intro p e s m args below meth c s₁ B hml hv
  obtain ⟨rfl, ⟨hsz, hP, hK, hD0, hX, hNc⟩, hZ⟩ := hv
  have hx := B.exec
  have hb := B.bytes
  have hr := B.returns
  have hts := atoms_spec (ws := wsL_house) B.pre
  have hown : s.vm.findClass RL = some m.cls := (findClass_of_methodNamed B.named :)
  have hlocks := B.notSynchronized
  have htb := vx_table (x := yL_house) (hh := [(0, 9, 12, 13)]) B (hts (.codeWith yL_house cL_house 4 (some .int) [(0, 9, 12, 13)]) List.mem_cons_self)
  have hK3 : va_K D vwCl [(cB, .byte), (cI, .int), (cZ, .boolean)] s := hK.sub [0, 1, 2] rfl
  subst hsz
  have hD := hD0.self (sz := s.heap.size)
  generalize hAe : va_A ((wWX11 cB cI cZ a0 I0 M0) ++ [((b2, .inl (cJ, 1, .inr (.inl o2))) : Nat × va_E)]) s.heap.size = A at hD hZ ⊢
  have hA : ∀ q : Nat, s.heap.size ≤ q → A q := fun q h => by rw [← hAe]; exact Or.inr h
  have hl := lv_entry ([.ref (a0 0), .int x1, .ref b2]) (n := 4) (Nat.le_of_ble_eq_true rfl)
  rw [lg_entry_eq]
  generalize (lg_sl ([.ref (a0 0), .int x1, .ref b2]) ++ List.replicate (4 - (lg_sl ([.ref (a0 0), .int x1, .ref b2])).length) Slot.unset).toArray = ls at hl ⊢
  have hl : lv_has ls 4 [(0, .ref (a0 0)), (1, .int x1), (2, .ref b2)] := hl
  unfold fL_house at hf
  obtain ⟨H, hHe⟩ : ∃ H : Heap, H = s.heap := ⟨_, rfl⟩
  obtain ⟨locs, hle⟩ : ∃ locs : List Loc, locs = [] := ⟨_, rfl⟩
  refine wb_start (H := H) (locs := locs) hHe hle ?_
  rw [← hHe] at hP hX
  have hS : va_S A s.heap H locs := by rw [hHe, hle]; exact va_S.rf
  rcases wb_hpi hf with ⟨k, hrx, hf⟩ | ⟨r, hr9, hf⟩
  · refine lv_aload_n hx hb dL_house_0 rfl (lv_at hl 2 rfl) ?_
    refine lv_iconst (v := (0 : Int32)) hx hb dL_house_1 (by decide) ?_
    refine lv_aload_n hx hb dL_house_2 rfl (lv_at hl 0 rfl) ?_
    refine lv_iload_n hx hb dL_house_3 rfl (lv_at hl 1 rfl) ?_
    refine vx_calli (vx_runV (As := [.int x1]) (rest := [.int (0 : Int32), .ref b2]) ⟨hx, hb, hml, hown, hts⟩ (ct_X11_house l hlt D cB cI cZ N a0 I0 M0 x1 H.size k hrx) (cwV 1 hts gL_house_X11_house rfl rfl rfl cdX11_house ⟨Nat.le_of_ble_eq_true rfl, Nat.le_of_ble_eq_true rfl⟩) (wb_preXV (wj_P1 (X := (wWX11 cB cI cZ a0 I0 M0)) hP) hK3 hX (wr_11 hK hP (q0 := 0) rfl)) rfl rfl hl.1 rfl (lv_room (Nat.le_of_ble_eq_true rfl)) dL_house_4 ⟨Nat.le_of_ble_eq_true rfl, Nat.le_of_ble_eq_true rfl⟩) hS (fun q h1 h2 => absurd h1 (Nat.not_lt.mpr h2)) (fun q h => hA q (Nat.le_trans hS.1 h)) (fun q h1 h2 => absurd h1 (Nat.not_lt.mpr h2)) (fun E ce q9 u t H locs ht hvm hpx hB hz1 hk1 hS hq9 hv9 hc9 => ?_) (fun r9 u t H locs ht hvm hw hB hz1 hk1 hS => hw.elim)
    have hP : va_P D vwCl ((wWX11 cB cI cZ a0 I0 M0) ++ [((b2, .inl (cJ, 1, .inr (.inl o2))) : Nat × va_E)]) H := hP.kept (fun k q hq => hk1 q.1 (hP k q hq).lt (Nat.not_le.mpr (hP k q hq).lt))
    by_cases hk2 : k = 2
    · subst hk2
      have hE : E = wb_E2 := hB.trans rfl
      subst hE
      refine vx_catch hown [] ⟨0, 9, 12, 13⟩ [] (htb.trans rfl) (fun z hz => nomatch hz) (by decide) (by decide) (hts (.classLink RL 13 "java/lang/IllegalArgumentException") (List.mem_of_getElem? (i := 1) rfl)) (va_Nw.use rfl hX.2.2.2.2.1) hq9 hv9 hc9 ?_
      refine lv_astore_n (lv' := [(3, .ref q9), (0, .ref (a0 0)), (1, .int x1), (2, .ref b2)]) hx hb dL_house_12 rfl hl (by decide) rfl (fun ls hl => ?_)
      refine lv_iconst (v := (1 : Int32)) hx hb dL_house_13 (by decide) ?_
      replace hf := wb_t rfl hf
      refine W.widen (k := 1) (n := 6) (Nat.le_of_ble_eq_true rfl) (Nat.le_of_ble_eq_true rfl) ?_
      exact W.iret (v := (1 : Int32)) hx hb hr (fun t ht hW => by rw [← Option.some.inj hf]; exact ⟨⟨(1 : Int32), (), rfl, rfl, by rw [ht]; exact hP, va_K.moved hW.alike hK, hD⟩, hS.F ht⟩) hS.2.2 dL_house_14
    replace hf := wb_f hk2 hf
    exact absurd hf (fun h => nomatch h)
  · refine lv_aload_n hx hb dL_house_0 rfl (lv_at hl 2 rfl) ?_
    refine lv_iconst (v := (0 : Int32)) hx hb dL_house_1 (by decide) ?_
    refine lv_aload_n hx hb dL_house_2 rfl (lv_at hl 0 rfl) ?_
    refine lv_iload_n hx hb dL_house_3 rfl (lv_at hl 1 rfl) ?_
    have hPc := wj_P1 hP
    have hDc := wj_D1 hD
    have hFc := wj_F hDc hS hA
    refine va_calli (va_runV (As := [.int x1]) (rest := [.int (0 : Int32), .ref b2]) ⟨hx, hb, hml, hown, hts⟩ (cn_X11_house l D cB cI cZ N aK aV a0 I0 M0 x1 H.size r hr9) (cwV 1 hts gL_house_X11_house rfl rfl rfl cdX11_house ⟨Nat.le_of_ble_eq_true rfl, Nat.le_of_ble_eq_true rfl⟩) (wb_preDEV hPc hK3 hDc (wr_11 hK hP (q0 := 0) rfl) hZ hS hFc) rfl rfl hl.1 rfl (lv_room (Nat.le_of_ble_eq_true rfl)) dL_house_4 ⟨Nat.le_of_ble_eq_true rfl, Nat.le_of_ble_eq_true rfl⟩) hS (fun q _ h => hFc q h) hFc (fun r9 u t H locs ht hvm hw hB hz1 hk1 hS => ?_)
    obtain ⟨hP, hD⟩ := wj_1 hP hD hk1 hFc ht hB
    rw [hw]
    refine lv_i2l hx hb dL_house_7 rfl ?_
    refine va_last hx hb hK hP hD hS 52 3 rfl rfl (show ¬ ((0 : Int32) < 0 ∨ 1 ≤ (0 : Int32).toNatClampNeg) from by decide) dL_house_8 (fun H locs hP hD hS => ?_)
    have hP : va_P D vwCl ((wWX11 cB cI cZ a0 r.2.1 r.2.2) ++ [((b2, .inl (cJ, 1, .inr (.inl (vp_updL o2 ((0 : Int32)).toNatClampNeg r.1.toInt64)))) : Nat × va_E)]) H := hP
    have hD : va_D A ((wWX11 cB cI cZ a0 r.2.1 r.2.2) ++ [((b2, .inl (cJ, 1, .inr (.inl (vp_updL o2 ((0 : Int32)).toNatClampNeg r.1.toInt64)))) : Nat × va_E)]) := hD
    obtain ⟨o2_1, eo2_1, hf⟩ := wb_v hf
    rw [← eo2_1] at hP hD
    refine lv_goto (tgt := 15) hx hb dL_house_9 (by decide) ?_
    refine lv_iconst (v := (0 : Int32)) hx hb dL_house_15 (by decide) ?_
    refine W.widen (k := 1) (n := 6) (Nat.le_of_ble_eq_true rfl) (Nat.le_of_ble_eq_true rfl) ?_
    exact W.iret (v := (0 : Int32)) hx hb hr (fun t ht hW => by rw [← Option.some.inj hf]; exact ⟨⟨(0 : Int32), (), rfl, rfl, by rw [ht]; exact hP, va_K.moved hW.alike hK, hD⟩, hS.F ht⟩) hS.2.2 dL_house_16

set_option maxHeartbeats 4000000 in
set_option maxRecDepth 100000 in
theorem cn_L_wheel (l : Launch) (hlt : l.stackTraces = false) (D : va_G) (cB cI cZ cJ : ClassId) (N : Nat) (aK aV : Nat → Nat) (a0 : Nat → Nat) (I0 : Nat → Int32) (M0 : Nat → Nat → Int32) (x1 : Int32) (x2 : Int32) (x3 : Int32) (b4 : Nat) (o4 : Nat → Int64) (sz : Nat) (R : Int32 × (Nat → Int32) × (Nat → Nat → Int32) × (Nat → Int64)) (hf : fL_wheel N I0 M0 x1 x2 x3 o4 = some R) : Met l yL_wheel wyL_wheel ({ frames := 9, cells := 1, slots := 6, locals := 233 }) (va_Pc [.ref (a0 0), .int x1, .int x2, .int x3, .ref b4] (wb_preLE D [(cB, .byte), (cI, .int), (cZ, .boolean), (cJ, .long)] ((wWX11 cB cI cZ a0 I0 M0) ++ [((b4, .inl (cJ, 1, .inr (.inl o4))) : Nat × va_E)]) sz aK aV)) (va_Qi (fun r (_ : Unit) => r = R.1) (fun _ t => wb_post D [(cB, .byte), (cI, .int), (cZ, .boolean), (cJ, .long)] (va_A ((wWX11 cB cI cZ a0 I0 M0) ++ [((b4, .inl (cJ, 1, .inr (.inl o4))) : Nat × va_E)]) sz) ((wWX11 cB cI cZ a0 R.2.1 R.2.2.1) ++ [((b4, .inl (cJ, 1, .inr (.inl R.2.2.2))) : Nat × va_E)]) t) (va_A ((wWX11 cB cI cZ a0 I0 M0) ++ [((b4, .inl (cJ, 1, .inr (.inl o4))) : Nat × va_E)]) sz)) 1 6 (va_A ((wWX11 cB cI cZ a0 I0 M0) ++ [((b4, .inl (cJ, 1, .inr (.inl o4))) : Nat × va_E)]) sz) := by
  refine va_MetW (cc := cL_wheel) (maxL := 6) (ret := (some .int)) (hh := [(0, 12, 15, 19), (0, 12, 19, 13)]) pn_L rfl ?_
  intro p e s m args below meth c s₁ B hml hv
  obtain ⟨rfl, ⟨hsz, hP, hK, hD0, hX, hNc⟩, hZ⟩ := hv
  have hx := B.exec
  have hb := B.bytes
  have hr := B.returns
  have hts := atoms_spec (ws := wyL_wheel) B.pre
  have hown : s.vm.findClass RL = some m.cls := (findClass_of_methodNamed B.named :)
  have hlocks := B.notSynchronized
  have htb := vx_table (x := yL_wheel) (hh := [(0, 12, 15, 19), (0, 12, 19, 13)]) B (hts (.codeWith yL_wheel cL_wheel 6 (some .int) [(0, 12, 15, 19), (0, 12, 19, 13)]) List.mem_cons_self)
  have hK3 : va_K D vwCl [(cB, .byte), (cI, .int), (cZ, .boolean)] s := hK.sub [0, 1, 2] rfl
  subst hsz
  have hD := hD0.self (sz := s.heap.size)
  generalize hAe : va_A ((wWX11 cB cI cZ a0 I0 M0) ++ [((b4, .inl (cJ, 1, .inr (.inl o4))) : Nat × va_E)]) s.heap.size = A at hD hZ ⊢
  have hA : ∀ q : Nat, s.heap.size ≤ q → A q := fun q h => by rw [← hAe]; exact Or.inr h
  have hl := lv_entry ([.ref (a0 0), .int x1, .int x2, .int x3, .ref b4]) (n := 6) (Nat.le_of_ble_eq_true rfl)
  rw [lg_entry_eq]
  generalize (lg_sl ([.ref (a0 0), .int x1, .int x2, .int x3, .ref b4]) ++ List.replicate (6 - (lg_sl ([.ref (a0 0), .int x1, .int x2, .int x3, .ref b4])).length) Slot.unset).toArray = ls at hl ⊢
  have hl : lv_has ls 6 [(0, .ref (a0 0)), (1, .int x1), (2, .int x2), (3, .int x3), (4, .ref b4)] := hl
  unfold fL_wheel at hf
  obtain ⟨H, hHe⟩ : ∃ H : Heap, H = s.heap := ⟨_, rfl⟩
  obtain ⟨locs, hle⟩ : ∃ locs : List Loc, locs = [] := ⟨_, rfl⟩
  refine wb_start (H := H) (locs := locs) hHe hle ?_
  rw [← hHe] at hP hX
  have hS : va_S A s.heap H locs := by rw [hHe, hle]; exact va_S.rf
  rcases wb_hpi hf with ⟨k, hrx, hf⟩ | ⟨r, hr9, hf⟩
  · refine lv_aload hx hb dL_wheel_0 (lv_at hl 4 rfl) ?_
    refine lv_iconst (v := (0 : Int32)) hx hb dL_wheel_2 (by decide) ?_
    refine lv_aload_n hx hb dL_wheel_3 rfl (lv_at hl 0 rfl) ?_
    refine lv_iload_n hx hb dL_wheel_4 rfl (lv_at hl 1 rfl) ?_
    refine lv_iload_n hx hb dL_wheel_5 rfl (lv_at hl 2 rfl) ?_
    refine lv_iload_n hx hb dL_wheel_6 rfl (lv_at hl 3 rfl) ?_
    refine vx_calli (vx_runV (As := [.int x1, .int x2, .int x3]) (rest := [.int (0 : Int32), .ref b4]) ⟨hx, hb, hml, hown, hts⟩ (ct_X11_wheel l hlt D cB cI cZ N a0 I0 M0 x1 x2 x3 H.size k hrx) (cwV 3 hts gyL_wheel_X11_wheel rfl rfl rfl cdX11_wheel ⟨Nat.le_of_ble_eq_true rfl, Nat.le_of_ble_eq_true rfl⟩) (wb_preXV (wj_P1 (X := (wWX11 cB cI cZ a0 I0 M0)) hP) hK3 hX (wr_11 hK hP (q0 := 0) rfl)) rfl rfl hl.1 rfl (lv_room (Nat.le_of_ble_eq_true rfl)) dL_wheel_7 ⟨Nat.le_of_ble_eq_true rfl, Nat.le_of_ble_eq_true rfl⟩) hS (fun q h1 h2 => absurd h1 (Nat.not_lt.mpr h2)) (fun q h => hA q (Nat.le_trans hS.1 h)) (fun q h1 h2 => absurd h1 (Nat.not_lt.mpr h2)) (fun E ce q9 u t H locs ht hvm hpx hB hz1 hk1 hS hq9 hv9 hc9 => ?_) (fun r9 u t H locs ht hvm hw hB hz1 hk1 hS => hw.elim)
    have hP : va_P D vwCl ((wWX11 cB cI cZ a0 I0 M0) ++ [((b4, .inl (cJ, 1, .inr (.inl o4))) : Nat × va_E)]) H := hP.kept (fun k q hq => hk1 q.1 (hP k q hq).lt (Nat.not_le.mpr (hP k q hq).lt))
    by_cases hk1 : k = 1
    · subst hk1
      have hE : E = wb_E1 := hB.trans rfl
      subst hE
      refine vx_catch hown [] ⟨0, 12, 15, 19⟩ [⟨0, 12, 19, 13⟩] (htb.trans rfl) (fun z hz => nomatch hz) (by decide) (by decide) (hts (.classLink RL 19 "java/util/NoSuchElementException") (List.mem_of_getElem? (i := 1) rfl)) (va_Nw.use rfl hX.2.2.2.1) hq9 hv9 hc9 ?_
      refine lv_astore (lv' := [(5, .ref q9), (0, .ref (a0 0)), (1, .int x1), (2, .int x2), (3, .int x3), (4, .ref b4)]) hx hb dL_wheel_15 hl (by decide) rfl (fun ls hl => ?_)
      refine lv_iconst (v := (1 : Int32)) hx hb dL_wheel_17 (by decide) ?_
      replace hf := wb_t rfl hf
      refine W.widen (k := 1) (n := 6) (Nat.le_of_ble_eq_true rfl) (Nat.le_of_ble_eq_true rfl) ?_
      exact W.iret (v := (1 : Int32)) hx hb hr (fun t ht hW => by rw [← Option.some.inj hf]; exact ⟨⟨(1 : Int32), (), rfl, rfl, by rw [ht]; exact hP, va_K.moved hW.alike hK, hD⟩, hS.F ht⟩) hS.2.2 dL_wheel_18
    replace hf := wb_f hk1 hf
    by_cases hk2 : k = 2
    · subst hk2
      have hE : E = wb_E2 := hB.trans rfl
      subst hE
      refine vx_catch hown [⟨0, 12, 15, 19⟩] ⟨0, 12, 19, 13⟩ [] (htb.trans rfl) (fun z hz => by rw [List.mem_singleton.mp hz]; exact Or.inr ⟨by decide, "java/util/NoSuchElementException", (hts (.classLink RL 19 "java/util/NoSuchElementException") (List.mem_of_getElem? (i := 1) rfl)), hNc⟩) (by decide) (by decide) (hts (.classLink RL 13 "java/lang/IllegalArgumentException") (List.mem_of_getElem? (i := 2) rfl)) (va_Nw.use rfl hX.2.2.2.2.1) hq9 hv9 hc9 ?_
      refine lv_astore (lv' := [(5, .ref q9), (0, .ref (a0 0)), (1, .int x1), (2, .int x2), (3, .int x3), (4, .ref b4)]) hx hb dL_wheel_19 hl (by decide) rfl (fun ls hl => ?_)
      refine lv_iconst (v := (2 : Int32)) hx hb dL_wheel_21 (by decide) ?_
      replace hf := wb_t rfl hf
      refine W.widen (k := 1) (n := 6) (Nat.le_of_ble_eq_true rfl) (Nat.le_of_ble_eq_true rfl) ?_
      exact W.iret (v := (2 : Int32)) hx hb hr (fun t ht hW => by rw [← Option.some.inj hf]; exact ⟨⟨(2 : Int32), (), rfl, rfl, by rw [ht]; exact hP, va_K.moved hW.alike hK, hD⟩, hS.F ht⟩) hS.2.2 dL_wheel_22
    replace hf := wb_f hk2 hf
    exact absurd hf (fun h => nomatch h)
  · refine lv_aload hx hb dL_wheel_0 (lv_at hl 4 rfl) ?_
    refine lv_iconst (v := (0 : Int32)) hx hb dL_wheel_2 (by decide) ?_
    refine lv_aload_n hx hb dL_wheel_3 rfl (lv_at hl 0 rfl) ?_
    refine lv_iload_n hx hb dL_wheel_4 rfl (lv_at hl 1 rfl) ?_
    refine lv_iload_n hx hb dL_wheel_5 rfl (lv_at hl 2 rfl) ?_
    refine lv_iload_n hx hb dL_wheel_6 rfl (lv_at hl 3 rfl) ?_
    have hPc := wj_P1 hP
    have hDc := wj_D1 hD
    have hFc := wj_F hDc hS hA
    refine va_calli (va_runV (As := [.int x1, .int x2, .int x3]) (rest := [.int (0 : Int32), .ref b4]) ⟨hx, hb, hml, hown, hts⟩ (cn_X11_wheel l D cB cI cZ N aK aV a0 I0 M0 x1 x2 x3 H.size r hr9) (cwV 3 hts gyL_wheel_X11_wheel rfl rfl rfl cdX11_wheel ⟨Nat.le_of_ble_eq_true rfl, Nat.le_of_ble_eq_true rfl⟩) (wb_preDEV hPc hK3 hDc (wr_11 hK hP (q0 := 0) rfl) hZ hS hFc) rfl rfl hl.1 rfl (lv_room (Nat.le_of_ble_eq_true rfl)) dL_wheel_7 ⟨Nat.le_of_ble_eq_true rfl, Nat.le_of_ble_eq_true rfl⟩) hS (fun q _ h => hFc q h) hFc (fun r9 u t H locs ht hvm hw hB hz1 hk1 hS => ?_)
    obtain ⟨hP, hD⟩ := wj_1 hP hD hk1 hFc ht hB
    rw [hw]
    refine lv_i2l hx hb dL_wheel_10 rfl ?_
    refine va_last hx hb hK hP hD hS 52 3 rfl rfl (show ¬ ((0 : Int32) < 0 ∨ 1 ≤ (0 : Int32).toNatClampNeg) from by decide) dL_wheel_11 (fun H locs hP hD hS => ?_)
    have hP : va_P D vwCl ((wWX11 cB cI cZ a0 r.2.1 r.2.2) ++ [((b4, .inl (cJ, 1, .inr (.inl (vp_updL o4 ((0 : Int32)).toNatClampNeg r.1.toInt64)))) : Nat × va_E)]) H := hP
    have hD : va_D A ((wWX11 cB cI cZ a0 r.2.1 r.2.2) ++ [((b4, .inl (cJ, 1, .inr (.inl (vp_updL o4 ((0 : Int32)).toNatClampNeg r.1.toInt64)))) : Nat × va_E)]) := hD
    obtain ⟨o4_1, eo4_1, hf⟩ := wb_v hf
    rw [← eo4_1] at hP hD
    refine lv_goto (tgt := 23) hx hb dL_wheel_12 (by decide) ?_
    refine lv_iconst (v := (0 : Int32)) hx hb dL_wheel_23 (by decide) ?_
    refine W.widen (k := 1) (n := 6) (Nat.le_of_ble_eq_true rfl) (Nat.le_of_ble_eq_true rfl) ?_
    exact W.iret (v := (0 : Int32)) hx hb hr (fun t ht hW => by rw [← Option.some.inj hf]; exact ⟨⟨(0 : Int32), (), rfl, rfl, by rw [ht]; exact hP, va_K.moved hW.alike hK, hD⟩, hS.F ht⟩) hS.2.2 dL_wheel_24

set_option maxHeartbeats 4000000 in
set_option maxRecDepth 100000 in
theorem cn_L_count (l : Launch) (hlt : l.stackTraces = false) (D : va_G) (cB cI cZ cJ : ClassId) (N : Nat) (a0 : Nat → Nat) (I0 : Nat → Int32) (M0 : Nat → Nat → Int32) (x1 : Int32) (b2 : Nat) (o2 : Nat → Int64) (sz : Nat) (R : Int32 × (Nat → Int32) × (Nat → Nat → Int32) × (Nat → Int64)) (hf : fL_count N I0 M0 x1 o2 = some R) : Met l yL_count wyL_count ({ frames := 8, cells := 1, slots := 6, locals := 160 }) (va_Pc [.ref (a0 0), .int x1, .ref b2] (wb_preL D [(cB, .byte), (cI, .int), (cZ, .boolean), (cJ, .long)] ((wWX11 cB cI cZ a0 I0 M0) ++ [((b2, .inl (cJ, 1, .inr (.inl o2))) : Nat × va_E)]) sz)) (va_Qi (fun r (_ : Unit) => r = R.1) (fun _ t => wb_post D [(cB, .byte), (cI, .int), (cZ, .boolean), (cJ, .long)] (va_A ((wWX11 cB cI cZ a0 I0 M0) ++ [((b2, .inl (cJ, 1, .inr (.inl o2))) : Nat × va_E)]) sz) ((wWX11 cB cI cZ a0 R.2.1 R.2.2.1) ++ [((b2, .inl (cJ, 1, .inr (.inl R.2.2.2))) : Nat × va_E)]) t) (va_A ((wWX11 cB cI cZ a0 I0 M0) ++ [((b2, .inl (cJ, 1, .inr (.inl o2))) : Nat × va_E)]) sz)) 1 6 (va_A ((wWX11 cB cI cZ a0 I0 M0) ++ [((b2, .inl (cJ, 1, .inr (.inl o2))) : Nat × va_E)]) sz) := by
  refine va_MetW (cc := cL_count) (maxL := 4) (ret := (some .int)) (hh := [(0, 9, 12, 19)]) pn_L rfl ?_
  intro p e s m args below meth c s₁ B hml hv
  obtain ⟨rfl, hsz, hP, hK, hD0, hX, hNc⟩ := hv
  have hx := B.exec
  have hb := B.bytes
  have hr := B.returns
  have hts := atoms_spec (ws := wyL_count) B.pre
  have hown : s.vm.findClass RL = some m.cls := (findClass_of_methodNamed B.named :)
  have hlocks := B.notSynchronized
  have htb := vx_table (x := yL_count) (hh := [(0, 9, 12, 19)]) B (hts (.codeWith yL_count cL_count 4 (some .int) [(0, 9, 12, 19)]) List.mem_cons_self)
  have hK3 : va_K D vwCl [(cB, .byte), (cI, .int), (cZ, .boolean)] s := hK.sub [0, 1, 2] rfl
  subst hsz
  have hD := hD0.self (sz := s.heap.size)
  generalize hAe : va_A ((wWX11 cB cI cZ a0 I0 M0) ++ [((b2, .inl (cJ, 1, .inr (.inl o2))) : Nat × va_E)]) s.heap.size = A at hD ⊢
  have hA : ∀ q : Nat, s.heap.size ≤ q → A q := fun q h => by rw [← hAe]; exact Or.inr h
  have hl := lv_entry ([.ref (a0 0), .int x1, .ref b2]) (n := 4) (Nat.le_of_ble_eq_true rfl)
  rw [lg_entry_eq]
  generalize (lg_sl ([.ref (a0 0), .int x1, .ref b2]) ++ List.replicate (4 - (lg_sl ([.ref (a0 0), .int x1, .ref b2])).length) Slot.unset).toArray = ls at hl ⊢
  have hl : lv_has ls 4 [(0, .ref (a0 0)), (1, .int x1), (2, .ref b2)] := hl
  unfold fL_count at hf
  obtain ⟨H, hHe⟩ : ∃ H : Heap, H = s.heap := ⟨_, rfl⟩
  obtain ⟨locs, hle⟩ : ∃ locs : List Loc, locs = [] := ⟨_, rfl⟩
  refine wb_start (H := H) (locs := locs) hHe hle ?_
  rw [← hHe] at hP hX
  have hS : va_S A s.heap H locs := by rw [hHe, hle]; exact va_S.rf
  rcases wb_hpi hf with ⟨k, hrx, hf⟩ | ⟨r, hr9, hf⟩
  · refine lv_aload_n hx hb dL_count_0 rfl (lv_at hl 2 rfl) ?_
    refine lv_iconst (v := (0 : Int32)) hx hb dL_count_1 (by decide) ?_
    refine lv_aload_n hx hb dL_count_2 rfl (lv_at hl 0 rfl) ?_
    refine lv_iload_n hx hb dL_count_3 rfl (lv_at hl 1 rfl) ?_
    refine vx_calli (vx_runV (As := [.int x1]) (rest := [.int (0 : Int32), .ref b2]) ⟨hx, hb, hml, hown, hts⟩ (ct_X11_count l hlt D cB cI cZ N a0 I0 M0 x1 H.size k hrx) (cwV 1 hts gyL_count_X11_count rfl rfl rfl cdX11_count ⟨Nat.le_of_ble_eq_true rfl, Nat.le_of_ble_eq_true rfl⟩) (wb_preXV (wj_P1 (X := (wWX11 cB cI cZ a0 I0 M0)) hP) hK3 hX (wr_11 hK hP (q0 := 0) rfl)) rfl rfl hl.1 rfl (lv_room (Nat.le_of_ble_eq_true rfl)) dL_count_4 ⟨Nat.le_of_ble_eq_true rfl, Nat.le_of_ble_eq_true rfl⟩) hS (fun q h1 h2 => absurd h1 (Nat.not_lt.mpr h2)) (fun q h => hA q (Nat.le_trans hS.1 h)) (fun q h1 h2 => absurd h1 (Nat.not_lt.mpr h2)) (fun E ce q9 u t H locs ht hvm hpx hB hz1 hk1 hS hq9 hv9 hc9 => ?_) (fun r9 u t H locs ht hvm hw hB hz1 hk1 hS => hw.elim)
    have hP : va_P D vwCl ((wWX11 cB cI cZ a0 I0 M0) ++ [((b2, .inl (cJ, 1, .inr (.inl o2))) : Nat × va_E)]) H := hP.kept (fun k q hq => hk1 q.1 (hP k q hq).lt (Nat.not_le.mpr (hP k q hq).lt))
    by_cases hk1 : k = 1
    · subst hk1
      have hE : E = wb_E1 := hB.trans rfl
      subst hE
      refine vx_catch hown [] ⟨0, 9, 12, 19⟩ [] (htb.trans rfl) (fun z hz => nomatch hz) (by decide) (by decide) (hts (.classLink RL 19 "java/util/NoSuchElementException") (List.mem_of_getElem? (i := 1) rfl)) (va_Nw.use rfl hX.2.2.2.1) hq9 hv9 hc9 ?_
      refine lv_astore_n (lv' := [(3, .ref q9), (0, .ref (a0 0)), (1, .int x1), (2, .ref b2)]) hx hb dL_count_12 rfl hl (by decide) rfl (fun ls hl => ?_)
      refine lv_iconst (v := (1 : Int32)) hx hb dL_count_13 (by decide) ?_
      replace hf := wb_t rfl hf
      refine W.widen (k := 1) (n := 6) (Nat.le_of_ble_eq_true rfl) (Nat.le_of_ble_eq_true rfl) ?_
      exact W.iret (v := (1 : Int32)) hx hb hr (fun t ht hW => by rw [← Option.some.inj hf]; exact ⟨⟨(1 : Int32), (), rfl, rfl, by rw [ht]; exact hP, va_K.moved hW.alike hK, hD⟩, hS.F ht⟩) hS.2.2 dL_count_14
    replace hf := wb_f hk1 hf
    exact absurd hf (fun h => nomatch h)
  · refine lv_aload_n hx hb dL_count_0 rfl (lv_at hl 2 rfl) ?_
    refine lv_iconst (v := (0 : Int32)) hx hb dL_count_1 (by decide) ?_
    refine lv_aload_n hx hb dL_count_2 rfl (lv_at hl 0 rfl) ?_
    refine lv_iload_n hx hb dL_count_3 rfl (lv_at hl 1 rfl) ?_
    have hPc := wj_P1 hP
    have hDc := wj_D1 hD
    have hFc := wj_F hDc hS hA
    refine va_calli (va_runV (As := [.int x1]) (rest := [.int (0 : Int32), .ref b2]) ⟨hx, hb, hml, hown, hts⟩ (cn_X11_count l D cB cI cZ N a0 I0 M0 x1 H.size r hr9) (cwV 1 hts gyL_count_X11_count rfl rfl rfl cdX11_count ⟨Nat.le_of_ble_eq_true rfl, Nat.le_of_ble_eq_true rfl⟩) (wb_preDV hPc hK3 hDc (wr_11 hK hP (q0 := 0) rfl)) rfl rfl hl.1 rfl (lv_room (Nat.le_of_ble_eq_true rfl)) dL_count_4 ⟨Nat.le_of_ble_eq_true rfl, Nat.le_of_ble_eq_true rfl⟩) hS (fun q _ h => hFc q h) hFc (fun r9 u t H locs ht hvm hw hB hz1 hk1 hS => ?_)
    obtain ⟨hP, hD⟩ := wj_1 hP hD hk1 hFc ht hB
    rw [hw]
    refine lv_i2l hx hb dL_count_7 rfl ?_
    refine va_last hx hb hK hP hD hS 52 3 rfl rfl (show ¬ ((0 : Int32) < 0 ∨ 1 ≤ (0 : Int32).toNatClampNeg) from by decide) dL_count_8 (fun H locs hP hD hS => ?_)
    have hP : va_P D vwCl ((wWX11 cB cI cZ a0 r.2.1 r.2.2) ++ [((b2, .inl (cJ, 1, .inr (.inl (vp_updL o2 ((0 : Int32)).toNatClampNeg r.1.toInt64)))) : Nat × va_E)]) H := hP
    have hD : va_D A ((wWX11 cB cI cZ a0 r.2.1 r.2.2) ++ [((b2, .inl (cJ, 1, .inr (.inl (vp_updL o2 ((0 : Int32)).toNatClampNeg r.1.toInt64)))) : Nat × va_E)]) := hD
    obtain ⟨o2_1, eo2_1, hf⟩ := wb_v hf
    rw [← eo2_1] at hP hD
    refine lv_goto (tgt := 15) hx hb dL_count_9 (by decide) ?_
    refine lv_iconst (v := (0 : Int32)) hx hb dL_count_15 (by decide) ?_
    refine W.widen (k := 1) (n := 6) (Nat.le_of_ble_eq_true rfl) (Nat.le_of_ble_eq_true rfl) ?_
    exact W.iret (v := (0 : Int32)) hx hb hr (fun t ht hW => by rw [← Option.some.inj hf]; exact ⟨⟨(0 : Int32), (), rfl, rfl, by rw [ht]; exact hP, va_K.moved hW.alike hK, hD⟩, hS.F ht⟩) hS.2.2 dL_count_16

set_option maxHeartbeats 4000000 in
set_option maxRecDepth 100000 in
theorem cn_L_place (l : Launch) (hlt : l.stackTraces = false) (D : va_G) (cB cI cZ cJ : ClassId) (N : Nat) (a0 : Nat → Nat) (I0 : Nat → Int32) (M0 : Nat → Nat → Int32) (x1 : Int32) (x2 : Int32) (x3 : Int32) (b4 : Nat) (o4 : Nat → Int64) (sz : Nat) (R : Int32 × (Nat → Int32) × (Nat → Nat → Int32) × (Nat → Int64)) (hf : fL_place N I0 M0 x1 x2 x3 o4 = some R) : Met l yL_place wyL_place ({ frames := 8, cells := 1, slots := 6, locals := 163 }) (va_Pc [.ref (a0 0), .int x1, .int x2, .int x3, .ref b4] (wb_preL D [(cB, .byte), (cI, .int), (cZ, .boolean), (cJ, .long)] ((wWX11 cB cI cZ a0 I0 M0) ++ [((b4, .inl (cJ, 1, .inr (.inl o4))) : Nat × va_E)]) sz)) (va_Qi (fun r (_ : Unit) => r = R.1) (fun _ t => wb_post D [(cB, .byte), (cI, .int), (cZ, .boolean), (cJ, .long)] (va_A ((wWX11 cB cI cZ a0 I0 M0) ++ [((b4, .inl (cJ, 1, .inr (.inl o4))) : Nat × va_E)]) sz) ((wWX11 cB cI cZ a0 R.2.1 R.2.2.1) ++ [((b4, .inl (cJ, 1, .inr (.inl R.2.2.2))) : Nat × va_E)]) t) (va_A ((wWX11 cB cI cZ a0 I0 M0) ++ [((b4, .inl (cJ, 1, .inr (.inl o4))) : Nat × va_E)]) sz)) 1 6 (va_A ((wWX11 cB cI cZ a0 I0 M0) ++ [((b4, .inl (cJ, 1, .inr (.inl o4))) : Nat × va_E)]) sz) := by
  refine va_MetW (cc := cL_place) (maxL := 6) (ret := (some .int)) (hh := [(0, 12, 15, 19)]) pn_L rfl ?_
  intro p e s m args below meth c s₁ B hml hv
  obtain ⟨rfl, hsz, hP, hK, hD0, hX, hNc⟩ := hv
  have hx := B.exec
  have hb := B.bytes
  have hr := B.returns
  have hts := atoms_spec (ws := wyL_place) B.pre
  have hown : s.vm.findClass RL = some m.cls := (findClass_of_methodNamed B.named :)
  have hlocks := B.notSynchronized
  have htb := vx_table (x := yL_place) (hh := [(0, 12, 15, 19)]) B (hts (.codeWith yL_place cL_place 6 (some .int) [(0, 12, 15, 19)]) List.mem_cons_self)
  have hK3 : va_K D vwCl [(cB, .byte), (cI, .int), (cZ, .boolean)] s := hK.sub [0, 1, 2] rfl
  subst hsz
  have hD := hD0.self (sz := s.heap.size)
  generalize hAe : va_A ((wWX11 cB cI cZ a0 I0 M0) ++ [((b4, .inl (cJ, 1, .inr (.inl o4))) : Nat × va_E)]) s.heap.size = A at hD ⊢
  have hA : ∀ q : Nat, s.heap.size ≤ q → A q := fun q h => by rw [← hAe]; exact Or.inr h
  have hl := lv_entry ([.ref (a0 0), .int x1, .int x2, .int x3, .ref b4]) (n := 6) (Nat.le_of_ble_eq_true rfl)
  rw [lg_entry_eq]
  generalize (lg_sl ([.ref (a0 0), .int x1, .int x2, .int x3, .ref b4]) ++ List.replicate (6 - (lg_sl ([.ref (a0 0), .int x1, .int x2, .int x3, .ref b4])).length) Slot.unset).toArray = ls at hl ⊢
  have hl : lv_has ls 6 [(0, .ref (a0 0)), (1, .int x1), (2, .int x2), (3, .int x3), (4, .ref b4)] := hl
  unfold fL_place at hf
  obtain ⟨H, hHe⟩ : ∃ H : Heap, H = s.heap := ⟨_, rfl⟩
  obtain ⟨locs, hle⟩ : ∃ locs : List Loc, locs = [] := ⟨_, rfl⟩
  refine wb_start (H := H) (locs := locs) hHe hle ?_
  rw [← hHe] at hP hX
  have hS : va_S A s.heap H locs := by rw [hHe, hle]; exact va_S.rf
  rcases wb_hpi hf with ⟨k, hrx, hf⟩ | ⟨r, hr9, hf⟩
  · refine lv_aload hx hb dL_place_0 (lv_at hl 4 rfl) ?_
    refine lv_iconst (v := (0 : Int32)) hx hb dL_place_2 (by decide) ?_
    refine lv_aload_n hx hb dL_place_3 rfl (lv_at hl 0 rfl) ?_
    refine lv_iload_n hx hb dL_place_4 rfl (lv_at hl 1 rfl) ?_
    refine lv_iload_n hx hb dL_place_5 rfl (lv_at hl 2 rfl) ?_
    refine lv_iload_n hx hb dL_place_6 rfl (lv_at hl 3 rfl) ?_
    refine vx_calli (vx_runV (As := [.int x1, .int x2, .int x3]) (rest := [.int (0 : Int32), .ref b4]) ⟨hx, hb, hml, hown, hts⟩ (ct_X11_place l hlt D cB cI cZ N a0 I0 M0 x1 x2 x3 H.size k hrx) (cwV 3 hts gyL_place_X11_place rfl rfl rfl cdX11_place ⟨Nat.le_of_ble_eq_true rfl, Nat.le_of_ble_eq_true rfl⟩) (wb_preXV (wj_P1 (X := (wWX11 cB cI cZ a0 I0 M0)) hP) hK3 hX (wr_11 hK hP (q0 := 0) rfl)) rfl rfl hl.1 rfl (lv_room (Nat.le_of_ble_eq_true rfl)) dL_place_7 ⟨Nat.le_of_ble_eq_true rfl, Nat.le_of_ble_eq_true rfl⟩) hS (fun q h1 h2 => absurd h1 (Nat.not_lt.mpr h2)) (fun q h => hA q (Nat.le_trans hS.1 h)) (fun q h1 h2 => absurd h1 (Nat.not_lt.mpr h2)) (fun E ce q9 u t H locs ht hvm hpx hB hz1 hk1 hS hq9 hv9 hc9 => ?_) (fun r9 u t H locs ht hvm hw hB hz1 hk1 hS => hw.elim)
    have hP : va_P D vwCl ((wWX11 cB cI cZ a0 I0 M0) ++ [((b4, .inl (cJ, 1, .inr (.inl o4))) : Nat × va_E)]) H := hP.kept (fun k q hq => hk1 q.1 (hP k q hq).lt (Nat.not_le.mpr (hP k q hq).lt))
    by_cases hk1 : k = 1
    · subst hk1
      have hE : E = wb_E1 := hB.trans rfl
      subst hE
      refine vx_catch hown [] ⟨0, 12, 15, 19⟩ [] (htb.trans rfl) (fun z hz => nomatch hz) (by decide) (by decide) (hts (.classLink RL 19 "java/util/NoSuchElementException") (List.mem_of_getElem? (i := 1) rfl)) (va_Nw.use rfl hX.2.2.2.1) hq9 hv9 hc9 ?_
      refine lv_astore (lv' := [(5, .ref q9), (0, .ref (a0 0)), (1, .int x1), (2, .int x2), (3, .int x3), (4, .ref b4)]) hx hb dL_place_15 hl (by decide) rfl (fun ls hl => ?_)
      refine lv_iconst (v := (1 : Int32)) hx hb dL_place_17 (by decide) ?_
      replace hf := wb_t rfl hf
      refine W.widen (k := 1) (n := 6) (Nat.le_of_ble_eq_true rfl) (Nat.le_of_ble_eq_true rfl) ?_
      exact W.iret (v := (1 : Int32)) hx hb hr (fun t ht hW => by rw [← Option.some.inj hf]; exact ⟨⟨(1 : Int32), (), rfl, rfl, by rw [ht]; exact hP, va_K.moved hW.alike hK, hD⟩, hS.F ht⟩) hS.2.2 dL_place_18
    replace hf := wb_f hk1 hf
    exact absurd hf (fun h => nomatch h)
  · refine lv_aload hx hb dL_place_0 (lv_at hl 4 rfl) ?_
    refine lv_iconst (v := (0 : Int32)) hx hb dL_place_2 (by decide) ?_
    refine lv_aload_n hx hb dL_place_3 rfl (lv_at hl 0 rfl) ?_
    refine lv_iload_n hx hb dL_place_4 rfl (lv_at hl 1 rfl) ?_
    refine lv_iload_n hx hb dL_place_5 rfl (lv_at hl 2 rfl) ?_
    refine lv_iload_n hx hb dL_place_6 rfl (lv_at hl 3 rfl) ?_
    refine vp_callSi (W.runV (As := [.int x1, .int x2, .int x3]) (rest := [.int (0 : Int32), .ref b4]) ⟨hx, hb, hml, hown, hts⟩ (cn_X11_place l D cB cI cZ N a0 I0 M0 x1 x2 x3 r hr9) (cwV 3 hts gyL_place_X11_place rfl rfl rfl cdX11_place ⟨Nat.le_of_ble_eq_true rfl, Nat.le_of_ble_eq_true rfl⟩) (wb_preV (wj_P1 (X := (wWX11 cB cI cZ a0 I0 M0)) hP) hK3 (wr_11 hK hP (q0 := 0) rfl)) rfl rfl hl.1 rfl (lv_room (Nat.le_of_ble_eq_true rfl)) dL_place_7 ⟨Nat.le_of_ble_eq_true rfl, Nat.le_of_ble_eq_true rfl⟩) (fun r9 e9 => ?_)
    rw [e9]
    refine lv_i2l hx hb dL_place_10 rfl ?_
    refine va_last hx hb hK hP hD hS 52 3 rfl rfl (show ¬ ((0 : Int32) < 0 ∨ 1 ≤ (0 : Int32).toNatClampNeg) from by decide) dL_place_11 (fun H locs hP hD hS => ?_)
    have hP : va_P D vwCl ((wWX11 cB cI cZ a0 I0 M0) ++ [((b4, .inl (cJ, 1, .inr (.inl (vp_updL o4 ((0 : Int32)).toNatClampNeg r.toInt64)))) : Nat × va_E)]) H := hP
    have hD : va_D A ((wWX11 cB cI cZ a0 I0 M0) ++ [((b4, .inl (cJ, 1, .inr (.inl (vp_updL o4 ((0 : Int32)).toNatClampNeg r.toInt64)))) : Nat × va_E)]) := hD
    obtain ⟨o4_1, eo4_1, hf⟩ := wb_v hf
    rw [← eo4_1] at hP hD
    refine lv_goto (tgt := 19) hx hb dL_place_12 (by decide) ?_
    refine lv_iconst (v := (0 : Int32)) hx hb dL_place_19 (by decide) ?_
    refine W.widen (k := 1) (n := 6) (Nat.le_of_ble_eq_true rfl) (Nat.le_of_ble_eq_true rfl) ?_
    exact W.iret (v := (0 : Int32)) hx hb hr (fun t ht hW => by rw [← Option.some.inj hf]; exact ⟨⟨(0 : Int32), (), rfl, rfl, by rw [ht]; exact hP, va_K.moved hW.alike hK, hD⟩, hS.F ht⟩) hS.2.2 dL_place_20

set_option maxHeartbeats 4000000 in
set_option maxRecDepth 100000 in
theorem cn_L_entry (l : Launch) (hlt : l.stackTraces = false) (D : va_G) (cB cI cZ cJ : ClassId) (N : Nat) (a0 : Nat → Nat) (I0 : Nat → Int32) (M0 : Nat → Nat → Int32) (x1 : Int32) (x2 : Int32) (x3 : Int32) (b4 : Nat) (o4 : Nat → Int64) (sz : Nat) (R : Int32 × (Nat → Int32) × (Nat → Nat → Int32) × (Nat → Int64)) (hf : fL_entry N I0 M0 x1 x2 x3 o4 = some R) : Met l yL_entry wyL_entry ({ frames := 9, cells := 1, slots := 6, locals := 185 }) (va_Pc [.ref (a0 0), .int x1, .int x2, .int x3, .ref b4] (wb_preL D [(cB, .byte), (cI, .int), (cZ, .boolean), (cJ, .long)] ((wWX11 cB cI cZ a0 I0 M0) ++ [((b4, .inl (cJ, 1, .inr (.inl o4))) : Nat × va_E)]) sz)) (va_Qi (fun r (_ : Unit) => r = R.1) (fun _ t => wb_post D [(cB, .byte), (cI, .int), (cZ, .boolean), (cJ, .long)] (va_A ((wWX11 cB cI cZ a0 I0 M0) ++ [((b4, .inl (cJ, 1, .inr (.inl o4))) : Nat × va_E)]) sz) ((wWX11 cB cI cZ a0 R.2.1 R.2.2.1) ++ [((b4, .inl (cJ, 1, .inr (.inl R.2.2.2))) : Nat × va_E)]) t) (va_A ((wWX11 cB cI cZ a0 I0 M0) ++ [((b4, .inl (cJ, 1, .inr (.inl o4))) : Nat × va_E)]) sz)) 1 6 (va_A ((wWX11 cB cI cZ a0 I0 M0) ++ [((b4, .inl (cJ, 1, .inr (.inl o4))) : Nat × va_E)]) sz) := by
  refine va_MetW (cc := cL_entry) (maxL := 6) (ret := (some .int)) (hh := [(0, 12, 15, 19)]) pn_L rfl ?_
  intro p e s m args below meth c s₁ B hml hv
  obtain ⟨rfl, hsz, hP, hK, hD0, hX, hNc⟩ := hv
  have hx := B.exec
  have hb := B.bytes
  have hr := B.returns
  have hts := atoms_spec (ws := wyL_entry) B.pre
  have hown : s.vm.findClass RL = some m.cls := (findClass_of_methodNamed B.named :)
  have hlocks := B.notSynchronized
  have htb := vx_table (x := yL_entry) (hh := [(0, 12, 15, 19)]) B (hts (.codeWith yL_entry cL_entry 6 (some .int) [(0, 12, 15, 19)]) List.mem_cons_self)
  have hK3 : va_K D vwCl [(cB, .byte), (cI, .int), (cZ, .boolean)] s := hK.sub [0, 1, 2] rfl
  subst hsz
  have hD := hD0.self (sz := s.heap.size)
  generalize hAe : va_A ((wWX11 cB cI cZ a0 I0 M0) ++ [((b4, .inl (cJ, 1, .inr (.inl o4))) : Nat × va_E)]) s.heap.size = A at hD ⊢
  have hA : ∀ q : Nat, s.heap.size ≤ q → A q := fun q h => by rw [← hAe]; exact Or.inr h
  have hl := lv_entry ([.ref (a0 0), .int x1, .int x2, .int x3, .ref b4]) (n := 6) (Nat.le_of_ble_eq_true rfl)
  rw [lg_entry_eq]
  generalize (lg_sl ([.ref (a0 0), .int x1, .int x2, .int x3, .ref b4]) ++ List.replicate (6 - (lg_sl ([.ref (a0 0), .int x1, .int x2, .int x3, .ref b4])).length) Slot.unset).toArray = ls at hl ⊢
  have hl : lv_has ls 6 [(0, .ref (a0 0)), (1, .int x1), (2, .int x2), (3, .int x3), (4, .ref b4)] := hl
  unfold fL_entry at hf
  obtain ⟨H, hHe⟩ : ∃ H : Heap, H = s.heap := ⟨_, rfl⟩
  obtain ⟨locs, hle⟩ : ∃ locs : List Loc, locs = [] := ⟨_, rfl⟩
  refine wb_start (H := H) (locs := locs) hHe hle ?_
  rw [← hHe] at hP hX
  have hS : va_S A s.heap H locs := by rw [hHe, hle]; exact va_S.rf
  rcases wb_hpi hf with ⟨k, hrx, hf⟩ | ⟨r, hr9, hf⟩
  · refine lv_aload hx hb dL_entry_0 (lv_at hl 4 rfl) ?_
    refine lv_iconst (v := (0 : Int32)) hx hb dL_entry_2 (by decide) ?_
    refine lv_aload_n hx hb dL_entry_3 rfl (lv_at hl 0 rfl) ?_
    refine lv_iload_n hx hb dL_entry_4 rfl (lv_at hl 1 rfl) ?_
    refine lv_iload_n hx hb dL_entry_5 rfl (lv_at hl 2 rfl) ?_
    refine lv_iload_n hx hb dL_entry_6 rfl (lv_at hl 3 rfl) ?_
    refine vx_calli (vx_runV (As := [.int x1, .int x2, .int x3]) (rest := [.int (0 : Int32), .ref b4]) ⟨hx, hb, hml, hown, hts⟩ (ct_X11_entry l hlt D cB cI cZ N a0 I0 M0 x1 x2 x3 H.size k hrx) (cwV 3 hts gyL_entry_X11_entry rfl rfl rfl cdX11_entry ⟨Nat.le_of_ble_eq_true rfl, Nat.le_of_ble_eq_true rfl⟩) (wb_preXV (wj_P1 (X := (wWX11 cB cI cZ a0 I0 M0)) hP) hK3 hX (wr_11 hK hP (q0 := 0) rfl)) rfl rfl hl.1 rfl (lv_room (Nat.le_of_ble_eq_true rfl)) dL_entry_7 ⟨Nat.le_of_ble_eq_true rfl, Nat.le_of_ble_eq_true rfl⟩) hS (fun q h1 h2 => absurd h1 (Nat.not_lt.mpr h2)) (fun q h => hA q (Nat.le_trans hS.1 h)) (fun q h1 h2 => absurd h1 (Nat.not_lt.mpr h2)) (fun E ce q9 u t H locs ht hvm hpx hB hz1 hk1 hS hq9 hv9 hc9 => ?_) (fun r9 u t H locs ht hvm hw hB hz1 hk1 hS => hw.elim)
    have hP : va_P D vwCl ((wWX11 cB cI cZ a0 I0 M0) ++ [((b4, .inl (cJ, 1, .inr (.inl o4))) : Nat × va_E)]) H := hP.kept (fun k q hq => hk1 q.1 (hP k q hq).lt (Nat.not_le.mpr (hP k q hq).lt))
    by_cases hk1 : k = 1
    · subst hk1
      have hE : E = wb_E1 := hB.trans rfl
      subst hE
      refine vx_catch hown [] ⟨0, 12, 15, 19⟩ [] (htb.trans rfl) (fun z hz => nomatch hz) (by decide) (by decide) (hts (.classLink RL 19 "java/util/NoSuchElementException") (List.mem_of_getElem? (i := 1) rfl)) (va_Nw.use rfl hX.2.2.2.1) hq9 hv9 hc9 ?_
      refine lv_astore (lv' := [(5, .ref q9), (0, .ref (a0 0)), (1, .int x1), (2, .int x2), (3, .int x3), (4, .ref b4)]) hx hb dL_entry_15 hl (by decide) rfl (fun ls hl => ?_)
      refine lv_iconst (v := (1 : Int32)) hx hb dL_entry_17 (by decide) ?_
      replace hf := wb_t rfl hf
      refine W.widen (k := 1) (n := 6) (Nat.le_of_ble_eq_true rfl) (Nat.le_of_ble_eq_true rfl) ?_
      exact W.iret (v := (1 : Int32)) hx hb hr (fun t ht hW => by rw [← Option.some.inj hf]; exact ⟨⟨(1 : Int32), (), rfl, rfl, by rw [ht]; exact hP, va_K.moved hW.alike hK, hD⟩, hS.F ht⟩) hS.2.2 dL_entry_18
    replace hf := wb_f hk1 hf
    exact absurd hf (fun h => nomatch h)
  · refine lv_aload hx hb dL_entry_0 (lv_at hl 4 rfl) ?_
    refine lv_iconst (v := (0 : Int32)) hx hb dL_entry_2 (by decide) ?_
    refine lv_aload_n hx hb dL_entry_3 rfl (lv_at hl 0 rfl) ?_
    refine lv_iload_n hx hb dL_entry_4 rfl (lv_at hl 1 rfl) ?_
    refine lv_iload_n hx hb dL_entry_5 rfl (lv_at hl 2 rfl) ?_
    refine lv_iload_n hx hb dL_entry_6 rfl (lv_at hl 3 rfl) ?_
    refine vp_callSi (W.runV (As := [.int x1, .int x2, .int x3]) (rest := [.int (0 : Int32), .ref b4]) ⟨hx, hb, hml, hown, hts⟩ (cn_X11_entry l D cB cI cZ N a0 I0 M0 x1 x2 x3 r hr9) (cwV 3 hts gyL_entry_X11_entry rfl rfl rfl cdX11_entry ⟨Nat.le_of_ble_eq_true rfl, Nat.le_of_ble_eq_true rfl⟩) (wb_preV (wj_P1 (X := (wWX11 cB cI cZ a0 I0 M0)) hP) hK3 (wr_11 hK hP (q0 := 0) rfl)) rfl rfl hl.1 rfl (lv_room (Nat.le_of_ble_eq_true rfl)) dL_entry_7 ⟨Nat.le_of_ble_eq_true rfl, Nat.le_of_ble_eq_true rfl⟩) (fun r9 e9 => ?_)
    rw [e9]
    refine lv_i2l hx hb dL_entry_10 rfl ?_
    refine va_last hx hb hK hP hD hS 52 3 rfl rfl (show ¬ ((0 : Int32) < 0 ∨ 1 ≤ (0 : Int32).toNatClampNeg) from by decide) dL_entry_11 (fun H locs hP hD hS => ?_)
    have hP : va_P D vwCl ((wWX11 cB cI cZ a0 I0 M0) ++ [((b4, .inl (cJ, 1, .inr (.inl (vp_updL o4 ((0 : Int32)).toNatClampNeg r.toInt64)))) : Nat × va_E)]) H := hP
    have hD : va_D A ((wWX11 cB cI cZ a0 I0 M0) ++ [((b4, .inl (cJ, 1, .inr (.inl (vp_updL o4 ((0 : Int32)).toNatClampNeg r.toInt64)))) : Nat × va_E)]) := hD
    obtain ⟨o4_1, eo4_1, hf⟩ := wb_v hf
    rw [← eo4_1] at hP hD
    refine lv_goto (tgt := 19) hx hb dL_entry_12 (by decide) ?_
    refine lv_iconst (v := (0 : Int32)) hx hb dL_entry_19 (by decide) ?_
    refine W.widen (k := 1) (n := 6) (Nat.le_of_ble_eq_true rfl) (Nat.le_of_ble_eq_true rfl) ?_
    exact W.iret (v := (0 : Int32)) hx hb hr (fun t ht hW => by rw [← Option.some.inj hf]; exact ⟨⟨(0 : Int32), (), rfl, rfl, by rw [ht]; exact hP, va_K.moved hW.alike hK, hD⟩, hS.F ht⟩) hS.2.2 dL_entry_20

set_option maxHeartbeats 4000000 in
set_option maxRecDepth 100000 in
theorem cn_L_cost (l : Launch) (hlt : l.stackTraces = false) (D : va_G) (cB cI cZ cJ : ClassId) (N : Nat) (a0 : Nat → Nat) (I0 : Nat → Int32) (M0 : Nat → Nat → Int32) (x1 : Int32) (x2 : Int32) (x3 : Int32) (x4 : Int32) (b5 : Nat) (o5 : Nat → Int64) (sz : Nat) (R : Int32 × (Nat → Int32) × (Nat → Nat → Int32) × (Nat → Int64)) (hf : fL_cost N I0 M0 x1 x2 x3 x4 o5 = some R) : Met l yL_cost wyL_cost ({ frames := 9, cells := 1, slots := 6, locals := 186 }) (va_Pc [.ref (a0 0), .int x1, .int x2, .int x3, .int x4, .ref b5] (wb_preL D [(cB, .byte), (cI, .int), (cZ, .boolean), (cJ, .long)] ((wWX11 cB cI cZ a0 I0 M0) ++ [((b5, .inl (cJ, 1, .inr (.inl o5))) : Nat × va_E)]) sz)) (va_Qi (fun r (_ : Unit) => r = R.1) (fun _ t => wb_post D [(cB, .byte), (cI, .int), (cZ, .boolean), (cJ, .long)] (va_A ((wWX11 cB cI cZ a0 I0 M0) ++ [((b5, .inl (cJ, 1, .inr (.inl o5))) : Nat × va_E)]) sz) ((wWX11 cB cI cZ a0 R.2.1 R.2.2.1) ++ [((b5, .inl (cJ, 1, .inr (.inl R.2.2.2))) : Nat × va_E)]) t) (va_A ((wWX11 cB cI cZ a0 I0 M0) ++ [((b5, .inl (cJ, 1, .inr (.inl o5))) : Nat × va_E)]) sz)) 1 6 (va_A ((wWX11 cB cI cZ a0 I0 M0) ++ [((b5, .inl (cJ, 1, .inr (.inl o5))) : Nat × va_E)]) sz) := by
  refine va_MetW (cc := cL_cost) (maxL := 7) (ret := (some .int)) (hh := [(0, 14, 17, 19)]) pn_L rfl ?_
  intro p e s m args below meth c s₁ B hml hv
  obtain ⟨rfl, hsz, hP, hK, hD0, hX, hNc⟩ := hv
  have hx := B.exec
  have hb := B.bytes
  have hr := B.returns
  have hts := atoms_spec (ws := wyL_cost) B.pre
  have hown : s.vm.findClass RL = some m.cls := (findClass_of_methodNamed B.named :)
  have hlocks := B.notSynchronized
  have htb := vx_table (x := yL_cost) (hh := [(0, 14, 17, 19)]) B (hts (.codeWith yL_cost cL_cost 7 (some .int) [(0, 14, 17, 19)]) List.mem_cons_self)
  have hK3 : va_K D vwCl [(cB, .byte), (cI, .int), (cZ, .boolean)] s := hK.sub [0, 1, 2] rfl
  subst hsz
  have hD := hD0.self (sz := s.heap.size)
  generalize hAe : va_A ((wWX11 cB cI cZ a0 I0 M0) ++ [((b5, .inl (cJ, 1, .inr (.inl o5))) : Nat × va_E)]) s.heap.size = A at hD ⊢
  have hA : ∀ q : Nat, s.heap.size ≤ q → A q := fun q h => by rw [← hAe]; exact Or.inr h
  have hl := lv_entry ([.ref (a0 0), .int x1, .int x2, .int x3, .int x4, .ref b5]) (n := 7) (Nat.le_of_ble_eq_true rfl)
  rw [lg_entry_eq]
  generalize (lg_sl ([.ref (a0 0), .int x1, .int x2, .int x3, .int x4, .ref b5]) ++ List.replicate (7 - (lg_sl ([.ref (a0 0), .int x1, .int x2, .int x3, .int x4, .ref b5])).length) Slot.unset).toArray = ls at hl ⊢
  have hl : lv_has ls 7 [(0, .ref (a0 0)), (1, .int x1), (2, .int x2), (3, .int x3), (4, .int x4), (5, .ref b5)] := hl
  unfold fL_cost at hf
  obtain ⟨H, hHe⟩ : ∃ H : Heap, H = s.heap := ⟨_, rfl⟩
  obtain ⟨locs, hle⟩ : ∃ locs : List Loc, locs = [] := ⟨_, rfl⟩
  refine wb_start (H := H) (locs := locs) hHe hle ?_
  rw [← hHe] at hP hX
  have hS : va_S A s.heap H locs := by rw [hHe, hle]; exact va_S.rf
  rcases wb_hpi hf with ⟨k, hrx, hf⟩ | ⟨r, hr9, hf⟩
  · refine lv_aload hx hb dL_cost_0 (lv_at hl 5 rfl) ?_
    refine lv_iconst (v := (0 : Int32)) hx hb dL_cost_2 (by decide) ?_
    refine lv_aload_n hx hb dL_cost_3 rfl (lv_at hl 0 rfl) ?_
    refine lv_iload_n hx hb dL_cost_4 rfl (lv_at hl 1 rfl) ?_
    refine lv_iload_n hx hb dL_cost_5 rfl (lv_at hl 2 rfl) ?_
    refine lv_iload_n hx hb dL_cost_6 rfl (lv_at hl 3 rfl) ?_
    refine lv_iload hx hb dL_cost_7 (lv_at hl 4 rfl) ?_
    refine vx_calli (vx_runV (As := [.int x1, .int x2, .int x3, .int x4]) (rest := [.int (0 : Int32), .ref b5]) ⟨hx, hb, hml, hown, hts⟩ (ct_X11_cost l hlt D cB cI cZ N a0 I0 M0 x1 x2 x3 x4 H.size k hrx) (cwV 4 hts gyL_cost_X11_cost rfl rfl rfl cdX11_cost ⟨Nat.le_of_ble_eq_true rfl, Nat.le_of_ble_eq_true rfl⟩) (wb_preXV (wj_P1 (X := (wWX11 cB cI cZ a0 I0 M0)) hP) hK3 hX (wr_11 hK hP (q0 := 0) rfl)) rfl rfl hl.1 rfl (lv_room (Nat.le_of_ble_eq_true rfl)) dL_cost_9 ⟨Nat.le_of_ble_eq_true rfl, Nat.le_of_ble_eq_true rfl⟩) hS (fun q h1 h2 => absurd h1 (Nat.not_lt.mpr h2)) (fun q h => hA q (Nat.le_trans hS.1 h)) (fun q h1 h2 => absurd h1 (Nat.not_lt.mpr h2)) (fun E ce q9 u t H locs ht hvm hpx hB hz1 hk1 hS hq9 hv9 hc9 => ?_) (fun r9 u t H locs ht hvm hw hB hz1 hk1 hS => hw.elim)
    have hP : va_P D vwCl ((wWX11 cB cI cZ a0 I0 M0) ++ [((b5, .inl (cJ, 1, .inr (.inl o5))) : Nat × va_E)]) H := hP.kept (fun k q hq => hk1 q.1 (hP k q hq).lt (Nat.not_le.mpr (hP k q hq).lt))
    by_cases hk1 : k = 1
    · subst hk1
      have hE : E = wb_E1 := hB.trans rfl
      subst hE
      refine vx_catch hown [] ⟨0, 14, 17, 19⟩ [] (htb.trans rfl) (fun z hz => nomatch hz) (by decide) (by decide) (hts (.classLink RL 19 "java/util/NoSuchElementException") (List.mem_of_getElem? (i := 1) rfl)) (va_Nw.use rfl hX.2.2.2.1) hq9 hv9 hc9 ?_
      refine lv_astore (lv' := [(6, .ref q9), (0, .ref (a0 0)), (1, .int x1), (2, .int x2), (3, .int x3), (4, .int x4), (5, .ref b5)]) hx hb dL_cost_17 hl (by decide) rfl (fun ls hl => ?_)
      refine lv_iconst (v := (1 : Int32)) hx hb dL_cost_19 (by decide) ?_
      replace hf := wb_t rfl hf
      refine W.widen (k := 1) (n := 6) (Nat.le_of_ble_eq_true rfl) (Nat.le_of_ble_eq_true rfl) ?_
      exact W.iret (v := (1 : Int32)) hx hb hr (fun t ht hW => by rw [← Option.some.inj hf]; exact ⟨⟨(1 : Int32), (), rfl, rfl, by rw [ht]; exact hP, va_K.moved hW.alike hK, hD⟩, hS.F ht⟩) hS.2.2 dL_cost_20
    replace hf := wb_f hk1 hf
    exact absurd hf (fun h => nomatch h)
  · refine lv_aload hx hb dL_cost_0 (lv_at hl 5 rfl) ?_
    refine lv_iconst (v := (0 : Int32)) hx hb dL_cost_2 (by decide) ?_
    refine lv_aload_n hx hb dL_cost_3 rfl (lv_at hl 0 rfl) ?_
    refine lv_iload_n hx hb dL_cost_4 rfl (lv_at hl 1 rfl) ?_
    refine lv_iload_n hx hb dL_cost_5 rfl (lv_at hl 2 rfl) ?_
    refine lv_iload_n hx hb dL_cost_6 rfl (lv_at hl 3 rfl) ?_
    refine lv_iload hx hb dL_cost_7 (lv_at hl 4 rfl) ?_
    refine vp_callSi (W.runV (As := [.int x1, .int x2, .int x3, .int x4]) (rest := [.int (0 : Int32), .ref b5]) ⟨hx, hb, hml, hown, hts⟩ (cn_X11_cost l D cB cI cZ N a0 I0 M0 x1 x2 x3 x4 r hr9) (cwV 4 hts gyL_cost_X11_cost rfl rfl rfl cdX11_cost ⟨Nat.le_of_ble_eq_true rfl, Nat.le_of_ble_eq_true rfl⟩) (wb_preV (wj_P1 (X := (wWX11 cB cI cZ a0 I0 M0)) hP) hK3 (wr_11 hK hP (q0 := 0) rfl)) rfl rfl hl.1 rfl (lv_room (Nat.le_of_ble_eq_true rfl)) dL_cost_9 ⟨Nat.le_of_ble_eq_true rfl, Nat.le_of_ble_eq_true rfl⟩) (fun r9 e9 => ?_)
    rw [e9]
    refine lv_i2l hx hb dL_cost_12 rfl ?_
    refine va_last hx hb hK hP hD hS 52 3 rfl rfl (show ¬ ((0 : Int32) < 0 ∨ 1 ≤ (0 : Int32).toNatClampNeg) from by decide) dL_cost_13 (fun H locs hP hD hS => ?_)
    have hP : va_P D vwCl ((wWX11 cB cI cZ a0 I0 M0) ++ [((b5, .inl (cJ, 1, .inr (.inl (vp_updL o5 ((0 : Int32)).toNatClampNeg r.toInt64)))) : Nat × va_E)]) H := hP
    have hD : va_D A ((wWX11 cB cI cZ a0 I0 M0) ++ [((b5, .inl (cJ, 1, .inr (.inl (vp_updL o5 ((0 : Int32)).toNatClampNeg r.toInt64)))) : Nat × va_E)]) := hD
    obtain ⟨o5_1, eo5_1, hf⟩ := wb_v hf
    rw [← eo5_1] at hP hD
    refine lv_goto (tgt := 21) hx hb dL_cost_14 (by decide) ?_
    refine lv_iconst (v := (0 : Int32)) hx hb dL_cost_21 (by decide) ?_
    refine W.widen (k := 1) (n := 6) (Nat.le_of_ble_eq_true rfl) (Nat.le_of_ble_eq_true rfl) ?_
    exact W.iret (v := (0 : Int32)) hx hb hr (fun t ht hW => by rw [← Option.some.inj hf]; exact ⟨⟨(0 : Int32), (), rfl, rfl, by rw [ht]; exact hP, va_K.moved hW.alike hK, hD⟩, hS.F ht⟩) hS.2.2 dL_cost_22

set_option maxHeartbeats 4000000 in
set_option maxRecDepth 100000 in
theorem cn_L_best (l : Launch) (hlt : l.stackTraces = false) (D : va_G) (cB cI cZ cJ : ClassId) (N : Nat) (a0 : Nat → Nat) (I0 : Nat → Int32) (M0 : Nat → Nat → Int32) (x1 : Int32) (x2 : Int32) (x3 : Int32) (x4 : Int32) (x5 : Int32) (b6 : Nat) (o6 : Nat → Int64) (sz : Nat) (R : Int32 × (Nat → Int32) × (Nat → Nat → Int32) × (Nat → Int64)) (hf : fL_best N I0 M0 x1 x2 x3 x4 x5 o6 = some R) : Met l yL_best wyL_best ({ frames := 9, cells := 1, slots := 6, locals := 194 }) (va_Pc [.ref (a0 0), .int x1, .int x2, .int x3, .int x4, .int x5, .ref b6] (wb_preL D [(cB, .byte), (cI, .int), (cZ, .boolean), (cJ, .long)] ((wWX11 cB cI cZ a0 I0 M0) ++ [((b6, .inl (cJ, 1, .inr (.inl o6))) : Nat × va_E)]) sz)) (va_Qi (fun r (_ : Unit) => r = R.1) (fun _ t => wb_post D [(cB, .byte), (cI, .int), (cZ, .boolean), (cJ, .long)] (va_A ((wWX11 cB cI cZ a0 I0 M0) ++ [((b6, .inl (cJ, 1, .inr (.inl o6))) : Nat × va_E)]) sz) ((wWX11 cB cI cZ a0 R.2.1 R.2.2.1) ++ [((b6, .inl (cJ, 1, .inr (.inl R.2.2.2))) : Nat × va_E)]) t) (va_A ((wWX11 cB cI cZ a0 I0 M0) ++ [((b6, .inl (cJ, 1, .inr (.inl o6))) : Nat × va_E)]) sz)) 1 6 (va_A ((wWX11 cB cI cZ a0 I0 M0) ++ [((b6, .inl (cJ, 1, .inr (.inl o6))) : Nat × va_E)]) sz) := by
  refine va_MetW (cc := cL_best) (maxL := 8) (ret := (some .int)) (hh := [(0, 16, 19, 19), (0, 16, 23, 13)]) pn_L rfl ?_
  intro p e s m args below meth c s₁ B hml hv
  obtain ⟨rfl, hsz, hP, hK, hD0, hX, hNc⟩ := hv
  have hx := B.exec
  have hb := B.bytes
  have hr := B.returns
  have hts := atoms_spec (ws := wyL_best) B.pre
  have hown : s.vm.findClass RL = some m.cls := (findClass_of_methodNamed B.named :)
  have hlocks := B.notSynchronized
  have htb := vx_table (x := yL_best) (hh := [(0, 16, 19, 19), (0, 16, 23, 13)]) B (hts (.codeWith yL_best cL_best 8 (some .int) [(0, 16, 19, 19), (0, 16, 23, 13)]) List.mem_cons_self)
  have hK3 : va_K D vwCl [(cB, .byte), (cI, .int), (cZ, .boolean)] s := hK.sub [0, 1, 2] rfl
  subst hsz
  have hD := hD0.self (sz := s.heap.size)
  generalize hAe : va_A ((wWX11 cB cI cZ a0 I0 M0) ++ [((b6, .inl (cJ, 1, .inr (.inl o6))) : Nat × va_E)]) s.heap.size = A at hD ⊢
  have hA : ∀ q : Nat, s.heap.size ≤ q → A q := fun q h => by rw [← hAe]; exact Or.inr h
  have hl := lv_entry ([.ref (a0 0), .int x1, .int x2, .int x3, .int x4, .int x5, .ref b6]) (n := 8) (Nat.le_of_ble_eq_true rfl)
  rw [lg_entry_eq]
  generalize (lg_sl ([.ref (a0 0), .int x1, .int x2, .int x3, .int x4, .int x5, .ref b6]) ++ List.replicate (8 - (lg_sl ([.ref (a0 0), .int x1, .int x2, .int x3, .int x4, .int x5, .ref b6])).length) Slot.unset).toArray = ls at hl ⊢
  have hl : lv_has ls 8 [(0, .ref (a0 0)), (1, .int x1), (2, .int x2), (3, .int x3), (4, .int x4), (5, .int x5), (6, .ref b6)] := hl
  unfold fL_best at hf
  obtain ⟨H, hHe⟩ : ∃ H : Heap, H = s.heap := ⟨_, rfl⟩
  obtain ⟨locs, hle⟩ : ∃ locs : List Loc, locs = [] := ⟨_, rfl⟩
  refine wb_start (H := H) (locs := locs) hHe hle ?_
  rw [← hHe] at hP hX
  have hS : va_S A s.heap H locs := by rw [hHe, hle]; exact va_S.rf
  rcases wb_hpi hf with ⟨k, hrx, hf⟩ | ⟨r, hr9, hf⟩
  · refine lv_aload hx hb dL_best_0 (lv_at hl 6 rfl) ?_
    refine lv_iconst (v := (0 : Int32)) hx hb dL_best_2 (by decide) ?_
    refine lv_aload_n hx hb dL_best_3 rfl (lv_at hl 0 rfl) ?_
    refine lv_iload_n hx hb dL_best_4 rfl (lv_at hl 1 rfl) ?_
    refine lv_iload_n hx hb dL_best_5 rfl (lv_at hl 2 rfl) ?_
    refine lv_iload_n hx hb dL_best_6 rfl (lv_at hl 3 rfl) ?_
    refine lv_iload hx hb dL_best_7 (lv_at hl 4 rfl) ?_
    refine lv_iload hx hb dL_best_9 (lv_at hl 5 rfl) ?_
    refine vx_calli (vx_runV (As := [.int x1, .int x2, .int x3, .int x4, .int x5]) (rest := [.int (0 : Int32), .ref b6]) ⟨hx, hb, hml, hown, hts⟩ (ct_X11_best l hlt D cB cI cZ N a0 I0 M0 x1 x2 x3 x4 x5 H.size k hrx) (cwV 5 hts gyL_best_X11_best rfl rfl rfl cdX11_best ⟨Nat.le_of_ble_eq_true rfl, Nat.le_of_ble_eq_true rfl⟩) (wb_preXV (wj_P1 (X := (wWX11 cB cI cZ a0 I0 M0)) hP) hK3 hX (wr_11 hK hP (q0 := 0) rfl)) rfl rfl hl.1 rfl (lv_room (Nat.le_of_ble_eq_true rfl)) dL_best_11 ⟨Nat.le_of_ble_eq_true rfl, Nat.le_of_ble_eq_true rfl⟩) hS (fun q h1 h2 => absurd h1 (Nat.not_lt.mpr h2)) (fun q h => hA q (Nat.le_trans hS.1 h)) (fun q h1 h2 => absurd h1 (Nat.not_lt.mpr h2)) (fun E ce q9 u t H locs ht hvm hpx hB hz1 hk1 hS hq9 hv9 hc9 => ?_) (fun r9 u t H locs ht hvm hw hB hz1 hk1 hS => hw.elim)
    have hP : va_P D vwCl ((wWX11 cB cI cZ a0 I0 M0) ++ [((b6, .inl (cJ, 1, .inr (.inl o6))) : Nat × va_E)]) H := hP.kept (fun k q hq => hk1 q.1 (hP k q hq).lt (Nat.not_le.mpr (hP k q hq).lt))
    by_cases hk1 : k = 1
    · subst hk1
      have hE : E = wb_E1 := hB.trans rfl
      subst hE
      refine vx_catch hown [] ⟨0, 16, 19, 19⟩ [⟨0, 16, 23, 13⟩] (htb.trans rfl) (fun z hz => nomatch hz) (by decide) (by decide) (hts (.classLink RL 19 "java/util/NoSuchElementException") (List.mem_of_getElem? (i := 1) rfl)) (va_Nw.use rfl hX.2.2.2.1) hq9 hv9 hc9 ?_
      refine lv_astore (lv' := [(7, .ref q9), (0, .ref (a0 0)), (1, .int x1), (2, .int x2), (3, .int x3), (4, .int x4), (5, .int x5), (6, .ref b6)]) hx hb dL_best_19 hl (by decide) rfl (fun ls hl => ?_)
      refine lv_iconst (v := (1 : Int32)) hx hb dL_best_21 (by decide) ?_
      replace hf := wb_t rfl hf
      refine W.widen (k := 1) (n := 6) (Nat.le_of_ble_eq_true rfl) (Nat.le_of_ble_eq_true rfl) ?_
      exact W.iret (v := (1 : Int32)) hx hb hr (fun t ht hW => by rw [← Option.some.inj hf]; exact ⟨⟨(1 : Int32), (), rfl, rfl, by rw [ht]; exact hP, va_K.moved hW.alike hK, hD⟩, hS.F ht⟩) hS.2.2 dL_best_22
    replace hf := wb_f hk1 hf
    by_cases hk2 : k = 2
    · subst hk2
      have hE : E = wb_E2 := hB.trans rfl
      subst hE
      refine vx_catch hown [⟨0, 16, 19, 19⟩] ⟨0, 16, 23, 13⟩ [] (htb.trans rfl) (fun z hz => by rw [List.mem_singleton.mp hz]; exact Or.inr ⟨by decide, "java/util/NoSuchElementException", (hts (.classLink RL 19 "java/util/NoSuchElementException") (List.mem_of_getElem? (i := 1) rfl)), hNc⟩) (by decide) (by decide) (hts (.classLink RL 13 "java/lang/IllegalArgumentException") (List.mem_of_getElem? (i := 2) rfl)) (va_Nw.use rfl hX.2.2.2.2.1) hq9 hv9 hc9 ?_
      refine lv_astore (lv' := [(7, .ref q9), (0, .ref (a0 0)), (1, .int x1), (2, .int x2), (3, .int x3), (4, .int x4), (5, .int x5), (6, .ref b6)]) hx hb dL_best_23 hl (by decide) rfl (fun ls hl => ?_)
      refine lv_iconst (v := (2 : Int32)) hx hb dL_best_25 (by decide) ?_
      replace hf := wb_t rfl hf
      refine W.widen (k := 1) (n := 6) (Nat.le_of_ble_eq_true rfl) (Nat.le_of_ble_eq_true rfl) ?_
      exact W.iret (v := (2 : Int32)) hx hb hr (fun t ht hW => by rw [← Option.some.inj hf]; exact ⟨⟨(2 : Int32), (), rfl, rfl, by rw [ht]; exact hP, va_K.moved hW.alike hK, hD⟩, hS.F ht⟩) hS.2.2 dL_best_26
    replace hf := wb_f hk2 hf
    exact absurd hf (fun h => nomatch h)
  · refine lv_aload hx hb dL_best_0 (lv_at hl 6 rfl) ?_
    refine lv_iconst (v := (0 : Int32)) hx hb dL_best_2 (by decide) ?_
    refine lv_aload_n hx hb dL_best_3 rfl (lv_at hl 0 rfl) ?_
    refine lv_iload_n hx hb dL_best_4 rfl (lv_at hl 1 rfl) ?_
    refine lv_iload_n hx hb dL_best_5 rfl (lv_at hl 2 rfl) ?_
    refine lv_iload_n hx hb dL_best_6 rfl (lv_at hl 3 rfl) ?_
    refine lv_iload hx hb dL_best_7 (lv_at hl 4 rfl) ?_
    refine lv_iload hx hb dL_best_9 (lv_at hl 5 rfl) ?_
    have hPc := wj_P1 hP
    have hDc := wj_D1 hD
    have hFc := wj_F hDc hS hA
    refine va_calli (va_runV (As := [.int x1, .int x2, .int x3, .int x4, .int x5]) (rest := [.int (0 : Int32), .ref b6]) ⟨hx, hb, hml, hown, hts⟩ (cn_X11_best l D cB cI cZ N a0 I0 M0 x1 x2 x3 x4 x5 H.size r hr9) (cwV 5 hts gyL_best_X11_best rfl rfl rfl cdX11_best ⟨Nat.le_of_ble_eq_true rfl, Nat.le_of_ble_eq_true rfl⟩) (wb_preDV hPc hK3 hDc (wr_11 hK hP (q0 := 0) rfl)) rfl rfl hl.1 rfl (lv_room (Nat.le_of_ble_eq_true rfl)) dL_best_11 ⟨Nat.le_of_ble_eq_true rfl, Nat.le_of_ble_eq_true rfl⟩) hS (fun q _ h => hFc q h) hFc (fun r9 u t H locs ht hvm hw hB hz1 hk1 hS => ?_)
    obtain ⟨hP, hD⟩ := wj_1 hP hD hk1 hFc ht hB
    rw [hw]
    refine lv_i2l hx hb dL_best_14 rfl ?_
    refine va_last hx hb hK hP hD hS 52 3 rfl rfl (show ¬ ((0 : Int32) < 0 ∨ 1 ≤ (0 : Int32).toNatClampNeg) from by decide) dL_best_15 (fun H locs hP hD hS => ?_)
    have hP : va_P D vwCl ((wWX11 cB cI cZ a0 r.2.1 r.2.2) ++ [((b6, .inl (cJ, 1, .inr (.inl (vp_updL o6 ((0 : Int32)).toNatClampNeg r.1.toInt64)))) : Nat × va_E)]) H := hP
    have hD : va_D A ((wWX11 cB cI cZ a0 r.2.1 r.2.2) ++ [((b6, .inl (cJ, 1, .inr (.inl (vp_updL o6 ((0 : Int32)).toNatClampNeg r.1.toInt64)))) : Nat × va_E)]) := hD
    obtain ⟨o6_1, eo6_1, hf⟩ := wb_v hf
    rw [← eo6_1] at hP hD
    refine lv_goto (tgt := 27) hx hb dL_best_16 (by decide) ?_
    refine lv_iconst (v := (0 : Int32)) hx hb dL_best_27 (by decide) ?_
    refine W.widen (k := 1) (n := 6) (Nat.le_of_ble_eq_true rfl) (Nat.le_of_ble_eq_true rfl) ?_
    exact W.iret (v := (0 : Int32)) hx hb hr (fun t ht hW => by rw [← Option.some.inj hf]; exact ⟨⟨(0 : Int32), (), rfl, rfl, by rw [ht]; exact hP, va_K.moved hW.alike hK, hD⟩, hS.F ht⟩) hS.2.2 dL_best_28

set_option maxHeartbeats 4000000 in
set_option maxRecDepth 100000 in
theorem cn_L_day (l : Launch) (hlt : l.stackTraces = false) (D : va_G) (cB cI cZ cJ : ClassId) (N : Nat) (a0 : Nat → Nat) (I0 : Nat → Int32) (M0 : Nat → Nat → Int32) (x1 : Int32) (b2 : Nat) (o2 : Nat → Int64) (sz : Nat) (R : Int32 × (Nat → Int32) × (Nat → Nat → Int32) × (Nat → Int64)) (hf : fL_day N I0 M0 x1 o2 = some R) : Met l yL_day wyL_day ({ frames := 8, cells := 1, slots := 6, locals := 161 }) (va_Pc [.ref (a0 0), .int x1, .ref b2] (wb_preL D [(cB, .byte), (cI, .int), (cZ, .boolean), (cJ, .long)] ((wWX11 cB cI cZ a0 I0 M0) ++ [((b2, .inl (cJ, 1, .inr (.inl o2))) : Nat × va_E)]) sz)) (va_Qi (fun r (_ : Unit) => r = R.1) (fun _ t => wb_post D [(cB, .byte), (cI, .int), (cZ, .boolean), (cJ, .long)] (va_A ((wWX11 cB cI cZ a0 I0 M0) ++ [((b2, .inl (cJ, 1, .inr (.inl o2))) : Nat × va_E)]) sz) ((wWX11 cB cI cZ a0 R.2.1 R.2.2.1) ++ [((b2, .inl (cJ, 1, .inr (.inl R.2.2.2))) : Nat × va_E)]) t) (va_A ((wWX11 cB cI cZ a0 I0 M0) ++ [((b2, .inl (cJ, 1, .inr (.inl o2))) : Nat × va_E)]) sz)) 1 6 (va_A ((wWX11 cB cI cZ a0 I0 M0) ++ [((b2, .inl (cJ, 1, .inr (.inl o2))) : Nat × va_E)]) sz) := by
  refine va_MetW (cc := cL_day) (maxL := 4) (ret := (some .int)) (hh := [(0, 9, 12, 19)]) pn_L rfl ?_
  intro p e s m args below meth c s₁ B hml hv
  obtain ⟨rfl, hsz, hP, hK, hD0, hX, hNc⟩ := hv
  have hx := B.exec
  have hb := B.bytes
  have hr := B.returns
  have hts := atoms_spec (ws := wyL_day) B.pre
  have hown : s.vm.findClass RL = some m.cls := (findClass_of_methodNamed B.named :)
  have hlocks := B.notSynchronized
  have htb := vx_table (x := yL_day) (hh := [(0, 9, 12, 19)]) B (hts (.codeWith yL_day cL_day 4 (some .int) [(0, 9, 12, 19)]) List.mem_cons_self)
  have hK3 : va_K D vwCl [(cB, .byte), (cI, .int), (cZ, .boolean)] s := hK.sub [0, 1, 2] rfl
  subst hsz
  have hD := hD0.self (sz := s.heap.size)
  generalize hAe : va_A ((wWX11 cB cI cZ a0 I0 M0) ++ [((b2, .inl (cJ, 1, .inr (.inl o2))) : Nat × va_E)]) s.heap.size = A at hD ⊢
  have hA : ∀ q : Nat, s.heap.size ≤ q → A q := fun q h => by rw [← hAe]; exact Or.inr h
  have hl := lv_entry ([.ref (a0 0), .int x1, .ref b2]) (n := 4) (Nat.le_of_ble_eq_true rfl)
  rw [lg_entry_eq]
  generalize (lg_sl ([.ref (a0 0), .int x1, .ref b2]) ++ List.replicate (4 - (lg_sl ([.ref (a0 0), .int x1, .ref b2])).length) Slot.unset).toArray = ls at hl ⊢
  have hl : lv_has ls 4 [(0, .ref (a0 0)), (1, .int x1), (2, .ref b2)] := hl
  unfold fL_day at hf
  obtain ⟨H, hHe⟩ : ∃ H : Heap, H = s.heap := ⟨_, rfl⟩
  obtain ⟨locs, hle⟩ : ∃ locs : List Loc, locs = [] := ⟨_, rfl⟩
  refine wb_start (H := H) (locs := locs) hHe hle ?_
  rw [← hHe] at hP hX
  have hS : va_S A s.heap H locs := by rw [hHe, hle]; exact va_S.rf
  rcases wb_hpi hf with ⟨k, hrx, hf⟩ | ⟨r, hr9, hf⟩
  · refine lv_aload_n hx hb dL_day_0 rfl (lv_at hl 2 rfl) ?_
    refine lv_iconst (v := (0 : Int32)) hx hb dL_day_1 (by decide) ?_
    refine lv_aload_n hx hb dL_day_2 rfl (lv_at hl 0 rfl) ?_
    refine lv_iload_n hx hb dL_day_3 rfl (lv_at hl 1 rfl) ?_
    refine vx_calli (vx_runV (As := [.int x1]) (rest := [.int (0 : Int32), .ref b2]) ⟨hx, hb, hml, hown, hts⟩ (ct_X11_day l hlt D cB cI cZ N a0 I0 M0 x1 H.size k hrx) (cwV 1 hts gyL_day_X11_day rfl rfl rfl cdX11_day ⟨Nat.le_of_ble_eq_true rfl, Nat.le_of_ble_eq_true rfl⟩) (wb_preXV (wj_P1 (X := (wWX11 cB cI cZ a0 I0 M0)) hP) hK3 hX (wr_11 hK hP (q0 := 0) rfl)) rfl rfl hl.1 rfl (lv_room (Nat.le_of_ble_eq_true rfl)) dL_day_4 ⟨Nat.le_of_ble_eq_true rfl, Nat.le_of_ble_eq_true rfl⟩) hS (fun q h1 h2 => absurd h1 (Nat.not_lt.mpr h2)) (fun q h => hA q (Nat.le_trans hS.1 h)) (fun q h1 h2 => absurd h1 (Nat.not_lt.mpr h2)) (fun E ce q9 u t H locs ht hvm hpx hB hz1 hk1 hS hq9 hv9 hc9 => ?_) (fun r9 u t H locs ht hvm hw hB hz1 hk1 hS => hw.elim)
    have hP : va_P D vwCl ((wWX11 cB cI cZ a0 I0 M0) ++ [((b2, .inl (cJ, 1, .inr (.inl o2))) : Nat × va_E)]) H := hP.kept (fun k q hq => hk1 q.1 (hP k q hq).lt (Nat.not_le.mpr (hP k q hq).lt))
    by_cases hk1 : k = 1
    · subst hk1
      have hE : E = wb_E1 := hB.trans rfl
      subst hE
      refine vx_catch hown [] ⟨0, 9, 12, 19⟩ [] (htb.trans rfl) (fun z hz => nomatch hz) (by decide) (by decide) (hts (.classLink RL 19 "java/util/NoSuchElementException") (List.mem_of_getElem? (i := 1) rfl)) (va_Nw.use rfl hX.2.2.2.1) hq9 hv9 hc9 ?_
      refine lv_astore_n (lv' := [(3, .ref q9), (0, .ref (a0 0)), (1, .int x1), (2, .ref b2)]) hx hb dL_day_12 rfl hl (by decide) rfl (fun ls hl => ?_)
      refine lv_iconst (v := (1 : Int32)) hx hb dL_day_13 (by decide) ?_
      replace hf := wb_t rfl hf
      refine W.widen (k := 1) (n := 6) (Nat.le_of_ble_eq_true rfl) (Nat.le_of_ble_eq_true rfl) ?_
      exact W.iret (v := (1 : Int32)) hx hb hr (fun t ht hW => by rw [← Option.some.inj hf]; exact ⟨⟨(1 : Int32), (), rfl, rfl, by rw [ht]; exact hP, va_K.moved hW.alike hK, hD⟩, hS.F ht⟩) hS.2.2 dL_day_14
    replace hf := wb_f hk1 hf
    exact absurd hf (fun h => nomatch h)
  · refine lv_aload_n hx hb dL_day_0 rfl (lv_at hl 2 rfl) ?_
    refine lv_iconst (v := (0 : Int32)) hx hb dL_day_1 (by decide) ?_
    refine lv_aload_n hx hb dL_day_2 rfl (lv_at hl 0 rfl) ?_
    refine lv_iload_n hx hb dL_day_3 rfl (lv_at hl 1 rfl) ?_
    refine vp_callSi (W.runV (As := [.int x1]) (rest := [.int (0 : Int32), .ref b2]) ⟨hx, hb, hml, hown, hts⟩ (cn_X11_day l D cB cI cZ N a0 I0 M0 x1 r hr9) (cwV 1 hts gyL_day_X11_day rfl rfl rfl cdX11_day ⟨Nat.le_of_ble_eq_true rfl, Nat.le_of_ble_eq_true rfl⟩) (wb_preV (wj_P1 (X := (wWX11 cB cI cZ a0 I0 M0)) hP) hK3 (wr_11 hK hP (q0 := 0) rfl)) rfl rfl hl.1 rfl (lv_room (Nat.le_of_ble_eq_true rfl)) dL_day_4 ⟨Nat.le_of_ble_eq_true rfl, Nat.le_of_ble_eq_true rfl⟩) (fun r9 e9 => ?_)
    rw [e9]
    refine lv_i2l hx hb dL_day_7 rfl ?_
    refine va_last hx hb hK hP hD hS 52 3 rfl rfl (show ¬ ((0 : Int32) < 0 ∨ 1 ≤ (0 : Int32).toNatClampNeg) from by decide) dL_day_8 (fun H locs hP hD hS => ?_)
    have hP : va_P D vwCl ((wWX11 cB cI cZ a0 I0 M0) ++ [((b2, .inl (cJ, 1, .inr (.inl (vp_updL o2 ((0 : Int32)).toNatClampNeg r.toInt64)))) : Nat × va_E)]) H := hP
    have hD : va_D A ((wWX11 cB cI cZ a0 I0 M0) ++ [((b2, .inl (cJ, 1, .inr (.inl (vp_updL o2 ((0 : Int32)).toNatClampNeg r.toInt64)))) : Nat × va_E)]) := hD
    obtain ⟨o2_1, eo2_1, hf⟩ := wb_v hf
    rw [← eo2_1] at hP hD
    refine lv_goto (tgt := 15) hx hb dL_day_9 (by decide) ?_
    refine lv_iconst (v := (0 : Int32)) hx hb dL_day_15 (by decide) ?_
    refine W.widen (k := 1) (n := 6) (Nat.le_of_ble_eq_true rfl) (Nat.le_of_ble_eq_true rfl) ?_
    exact W.iret (v := (0 : Int32)) hx hb hr (fun t ht hW => by rw [← Option.some.inj hf]; exact ⟨⟨(0 : Int32), (), rfl, rfl, by rw [ht]; exact hP, va_K.moved hW.alike hK, hD⟩, hS.F ht⟩) hS.2.2 dL_day_16

set_option maxHeartbeats 4000000 in
set_option maxRecDepth 100000 in
theorem cn_L_whose (l : Launch) (hlt : l.stackTraces = false) (D : va_G) (cB cI cZ cJ : ClassId) (N : Nat) (a0 : Nat → Nat) (I0 : Nat → Int32) (M0 : Nat → Nat → Int32) (x1 : Int32) (x2 : Int32) (x3 : Int32) (x4 : Int32) (x5 : Int32) (b6 : Nat) (o6 : Nat → Int64) (sz : Nat) (R : Int32 × (Nat → Int32) × (Nat → Nat → Int32) × (Nat → Int64)) (hf : fL_whose N I0 M0 x1 x2 x3 x4 x5 o6 = some R) : Met l yL_whose wyL_whose ({ frames := 9, cells := 1, slots := 6, locals := 198 }) (va_Pc [.ref (a0 0), .int x1, .int x2, .int x3, .int x4, .int x5, .ref b6] (wb_preL D [(cB, .byte), (cI, .int), (cZ, .boolean), (cJ, .long)] ((wWX11 cB cI cZ a0 I0 M0) ++ [((b6, .inl (cJ, 1, .inr (.inl o6))) : Nat × va_E)]) sz)) (va_Qi (fun r (_ : Unit) => r = R.1) (fun _ t => wb_post D [(cB, .byte), (cI, .int), (cZ, .boolean), (cJ, .long)] (va_A ((wWX11 cB cI cZ a0 I0 M0) ++ [((b6, .inl (cJ, 1, .inr (.inl o6))) : Nat × va_E)]) sz) ((wWX11 cB cI cZ a0 R.2.1 R.2.2.1) ++ [((b6, .inl (cJ, 1, .inr (.inl R.2.2.2))) : Nat × va_E)]) t) (va_A ((wWX11 cB cI cZ a0 I0 M0) ++ [((b6, .inl (cJ, 1, .inr (.inl o6))) : Nat × va_E)]) sz)) 1 6 (va_A ((wWX11 cB cI cZ a0 I0 M0) ++ [((b6, .inl (cJ, 1, .inr (.inl o6))) : Nat × va_E)]) sz) := by
  refine va_MetW (cc := cL_whose) (maxL := 8) (ret := (some .int)) (hh := [(0, 16, 19, 19), (0, 16, 23, 13)]) pn_L rfl ?_
  intro p e s m args below meth c s₁ B hml hv
  obtain ⟨rfl, hsz, hP, hK, hD0, hX, hNc⟩ := hv
  have hx := B.exec
  have hb := B.bytes
  have hr := B.returns
  have hts := atoms_spec (ws := wyL_whose) B.pre
  have hown : s.vm.findClass RL = some m.cls := (findClass_of_methodNamed B.named :)
  have hlocks := B.notSynchronized
  have htb := vx_table (x := yL_whose) (hh := [(0, 16, 19, 19), (0, 16, 23, 13)]) B (hts (.codeWith yL_whose cL_whose 8 (some .int) [(0, 16, 19, 19), (0, 16, 23, 13)]) List.mem_cons_self)
  have hK3 : va_K D vwCl [(cB, .byte), (cI, .int), (cZ, .boolean)] s := hK.sub [0, 1, 2] rfl
  subst hsz
  have hD := hD0.self (sz := s.heap.size)
  generalize hAe : va_A ((wWX11 cB cI cZ a0 I0 M0) ++ [((b6, .inl (cJ, 1, .inr (.inl o6))) : Nat × va_E)]) s.heap.size = A at hD ⊢
  have hA : ∀ q : Nat, s.heap.size ≤ q → A q := fun q h => by rw [← hAe]; exact Or.inr h
  have hl := lv_entry ([.ref (a0 0), .int x1, .int x2, .int x3, .int x4, .int x5, .ref b6]) (n := 8) (Nat.le_of_ble_eq_true rfl)
  rw [lg_entry_eq]
  generalize (lg_sl ([.ref (a0 0), .int x1, .int x2, .int x3, .int x4, .int x5, .ref b6]) ++ List.replicate (8 - (lg_sl ([.ref (a0 0), .int x1, .int x2, .int x3, .int x4, .int x5, .ref b6])).length) Slot.unset).toArray = ls at hl ⊢
  have hl : lv_has ls 8 [(0, .ref (a0 0)), (1, .int x1), (2, .int x2), (3, .int x3), (4, .int x4), (5, .int x5), (6, .ref b6)] := hl
  unfold fL_whose at hf
  obtain ⟨H, hHe⟩ : ∃ H : Heap, H = s.heap := ⟨_, rfl⟩
  obtain ⟨locs, hle⟩ : ∃ locs : List Loc, locs = [] := ⟨_, rfl⟩
  refine wb_start (H := H) (locs := locs) hHe hle ?_
  rw [← hHe] at hP hX
  have hS : va_S A s.heap H locs := by rw [hHe, hle]; exact va_S.rf
  rcases wb_hpi hf with ⟨k, hrx, hf⟩ | ⟨r, hr9, hf⟩
  · refine lv_aload hx hb dL_whose_0 (lv_at hl 6 rfl) ?_
    refine lv_iconst (v := (0 : Int32)) hx hb dL_whose_2 (by decide) ?_
    refine lv_aload_n hx hb dL_whose_3 rfl (lv_at hl 0 rfl) ?_
    refine lv_iload_n hx hb dL_whose_4 rfl (lv_at hl 1 rfl) ?_
    refine lv_iload_n hx hb dL_whose_5 rfl (lv_at hl 2 rfl) ?_
    refine lv_iload_n hx hb dL_whose_6 rfl (lv_at hl 3 rfl) ?_
    refine lv_iload hx hb dL_whose_7 (lv_at hl 4 rfl) ?_
    refine lv_iload hx hb dL_whose_9 (lv_at hl 5 rfl) ?_
    refine vx_calli (vx_runV (As := [.int x1, .int x2, .int x3, .int x4, .int x5]) (rest := [.int (0 : Int32), .ref b6]) ⟨hx, hb, hml, hown, hts⟩ (ct_X11_whose l hlt D cB cI cZ N a0 I0 M0 x1 x2 x3 x4 x5 H.size k hrx) (cwV 5 hts gyL_whose_X11_whose rfl rfl rfl cdX11_whose ⟨Nat.le_of_ble_eq_true rfl, Nat.le_of_ble_eq_true rfl⟩) (wb_preXV (wj_P1 (X := (wWX11 cB cI cZ a0 I0 M0)) hP) hK3 hX (wr_11 hK hP (q0 := 0) rfl)) rfl rfl hl.1 rfl (lv_room (Nat.le_of_ble_eq_true rfl)) dL_whose_11 ⟨Nat.le_of_ble_eq_true rfl, Nat.le_of_ble_eq_true rfl⟩) hS (fun q h1 h2 => absurd h1 (Nat.not_lt.mpr h2)) (fun q h => hA q (Nat.le_trans hS.1 h)) (fun q h1 h2 => absurd h1 (Nat.not_lt.mpr h2)) (fun E ce q9 u t H locs ht hvm hpx hB hz1 hk1 hS hq9 hv9 hc9 => ?_) (fun r9 u t H locs ht hvm hw hB hz1 hk1 hS => hw.elim)
    have hP : va_P D vwCl ((wWX11 cB cI cZ a0 I0 M0) ++ [((b6, .inl (cJ, 1, .inr (.inl o6))) : Nat × va_E)]) H := hP.kept (fun k q hq => hk1 q.1 (hP k q hq).lt (Nat.not_le.mpr (hP k q hq).lt))
    by_cases hk1 : k = 1
    · subst hk1
      have hE : E = wb_E1 := hB.trans rfl
      subst hE
      refine vx_catch hown [] ⟨0, 16, 19, 19⟩ [⟨0, 16, 23, 13⟩] (htb.trans rfl) (fun z hz => nomatch hz) (by decide) (by decide) (hts (.classLink RL 19 "java/util/NoSuchElementException") (List.mem_of_getElem? (i := 1) rfl)) (va_Nw.use rfl hX.2.2.2.1) hq9 hv9 hc9 ?_
      refine lv_astore (lv' := [(7, .ref q9), (0, .ref (a0 0)), (1, .int x1), (2, .int x2), (3, .int x3), (4, .int x4), (5, .int x5), (6, .ref b6)]) hx hb dL_whose_19 hl (by decide) rfl (fun ls hl => ?_)
      refine lv_iconst (v := (1 : Int32)) hx hb dL_whose_21 (by decide) ?_
      replace hf := wb_t rfl hf
      refine W.widen (k := 1) (n := 6) (Nat.le_of_ble_eq_true rfl) (Nat.le_of_ble_eq_true rfl) ?_
      exact W.iret (v := (1 : Int32)) hx hb hr (fun t ht hW => by rw [← Option.some.inj hf]; exact ⟨⟨(1 : Int32), (), rfl, rfl, by rw [ht]; exact hP, va_K.moved hW.alike hK, hD⟩, hS.F ht⟩) hS.2.2 dL_whose_22
    replace hf := wb_f hk1 hf
    by_cases hk2 : k = 2
    · subst hk2
      have hE : E = wb_E2 := hB.trans rfl
      subst hE
      refine vx_catch hown [⟨0, 16, 19, 19⟩] ⟨0, 16, 23, 13⟩ [] (htb.trans rfl) (fun z hz => by rw [List.mem_singleton.mp hz]; exact Or.inr ⟨by decide, "java/util/NoSuchElementException", (hts (.classLink RL 19 "java/util/NoSuchElementException") (List.mem_of_getElem? (i := 1) rfl)), hNc⟩) (by decide) (by decide) (hts (.classLink RL 13 "java/lang/IllegalArgumentException") (List.mem_of_getElem? (i := 2) rfl)) (va_Nw.use rfl hX.2.2.2.2.1) hq9 hv9 hc9 ?_
      refine lv_astore (lv' := [(7, .ref q9), (0, .ref (a0 0)), (1, .int x1), (2, .int x2), (3, .int x3), (4, .int x4), (5, .int x5), (6, .ref b6)]) hx hb dL_whose_23 hl (by decide) rfl (fun ls hl => ?_)
      refine lv_iconst (v := (2 : Int32)) hx hb dL_whose_25 (by decide) ?_
      replace hf := wb_t rfl hf
      refine W.widen (k := 1) (n := 6) (Nat.le_of_ble_eq_true rfl) (Nat.le_of_ble_eq_true rfl) ?_
      exact W.iret (v := (2 : Int32)) hx hb hr (fun t ht hW => by rw [← Option.some.inj hf]; exact ⟨⟨(2 : Int32), (), rfl, rfl, by rw [ht]; exact hP, va_K.moved hW.alike hK, hD⟩, hS.F ht⟩) hS.2.2 dL_whose_26
    replace hf := wb_f hk2 hf
    exact absurd hf (fun h => nomatch h)
  · refine lv_aload hx hb dL_whose_0 (lv_at hl 6 rfl) ?_
    refine lv_iconst (v := (0 : Int32)) hx hb dL_whose_2 (by decide) ?_
    refine lv_aload_n hx hb dL_whose_3 rfl (lv_at hl 0 rfl) ?_
    refine lv_iload_n hx hb dL_whose_4 rfl (lv_at hl 1 rfl) ?_
    refine lv_iload_n hx hb dL_whose_5 rfl (lv_at hl 2 rfl) ?_
    refine lv_iload_n hx hb dL_whose_6 rfl (lv_at hl 3 rfl) ?_
    refine lv_iload hx hb dL_whose_7 (lv_at hl 4 rfl) ?_
    refine lv_iload hx hb dL_whose_9 (lv_at hl 5 rfl) ?_
    have hPc := wj_P1 hP
    have hDc := wj_D1 hD
    have hFc := wj_F hDc hS hA
    refine va_calli (va_runV (As := [.int x1, .int x2, .int x3, .int x4, .int x5]) (rest := [.int (0 : Int32), .ref b6]) ⟨hx, hb, hml, hown, hts⟩ (cn_X11_whose l D cB cI cZ N a0 I0 M0 x1 x2 x3 x4 x5 H.size r hr9) (cwV 5 hts gyL_whose_X11_whose rfl rfl rfl cdX11_whose ⟨Nat.le_of_ble_eq_true rfl, Nat.le_of_ble_eq_true rfl⟩) (wb_preDV hPc hK3 hDc (wr_11 hK hP (q0 := 0) rfl)) rfl rfl hl.1 rfl (lv_room (Nat.le_of_ble_eq_true rfl)) dL_whose_11 ⟨Nat.le_of_ble_eq_true rfl, Nat.le_of_ble_eq_true rfl⟩) hS (fun q _ h => hFc q h) hFc (fun r9 u t H locs ht hvm hw hB hz1 hk1 hS => ?_)
    obtain ⟨hP, hD⟩ := wj_1 hP hD hk1 hFc ht hB
    rw [hw]
    refine lv_i2l hx hb dL_whose_14 rfl ?_
    refine va_last hx hb hK hP hD hS 52 3 rfl rfl (show ¬ ((0 : Int32) < 0 ∨ 1 ≤ (0 : Int32).toNatClampNeg) from by decide) dL_whose_15 (fun H locs hP hD hS => ?_)
    have hP : va_P D vwCl ((wWX11 cB cI cZ a0 r.2.1 r.2.2) ++ [((b6, .inl (cJ, 1, .inr (.inl (vp_updL o6 ((0 : Int32)).toNatClampNeg r.1.toInt64)))) : Nat × va_E)]) H := hP
    have hD : va_D A ((wWX11 cB cI cZ a0 r.2.1 r.2.2) ++ [((b6, .inl (cJ, 1, .inr (.inl (vp_updL o6 ((0 : Int32)).toNatClampNeg r.1.toInt64)))) : Nat × va_E)]) := hD
    obtain ⟨o6_1, eo6_1, hf⟩ := wb_v hf
    rw [← eo6_1] at hP hD
    refine lv_goto (tgt := 27) hx hb dL_whose_16 (by decide) ?_
    refine lv_iconst (v := (0 : Int32)) hx hb dL_whose_27 (by decide) ?_
    refine W.widen (k := 1) (n := 6) (Nat.le_of_ble_eq_true rfl) (Nat.le_of_ble_eq_true rfl) ?_
    exact W.iret (v := (0 : Int32)) hx hb hr (fun t ht hW => by rw [← Option.some.inj hf]; exact ⟨⟨(0 : Int32), (), rfl, rfl, by rw [ht]; exact hP, va_K.moved hW.alike hK, hD⟩, hS.F ht⟩) hS.2.2 dL_whose_28

set_option maxHeartbeats 4000000 in
set_option maxRecDepth 100000 in
theorem cn_L_mixed (l : Launch) (hlt : l.stackTraces = false) (D : va_G) (cB cI cZ cJ : ClassId) (N : Nat) (a0 : Nat → Nat) (I0 : Nat → Int32) (M0 : Nat → Nat → Int32) (x1 : Int32) (x2 : Int32) (x3 : Int32) (x4 : Int32) (b5 : Nat) (o5 : Nat → Int64) (sz : Nat) (R : Int32 × (Nat → Int32) × (Nat → Nat → Int32) × (Nat → Int64)) (hf : fL_mixed N I0 M0 x1 x2 x3 x4 o5 = some R) : Met l yL_mixed wyL_mixed ({ frames := 9, cells := 1, slots := 6, locals := 194 }) (va_Pc [.ref (a0 0), .int x1, .int x2, .int x3, .int x4, .ref b5] (wb_preL D [(cB, .byte), (cI, .int), (cZ, .boolean), (cJ, .long)] ((wWX11 cB cI cZ a0 I0 M0) ++ [((b5, .inl (cJ, 1, .inr (.inl o5))) : Nat × va_E)]) sz)) (va_Qi (fun r (_ : Unit) => r = R.1) (fun _ t => wb_post D [(cB, .byte), (cI, .int), (cZ, .boolean), (cJ, .long)] (va_A ((wWX11 cB cI cZ a0 I0 M0) ++ [((b5, .inl (cJ, 1, .inr (.inl o5))) : Nat × va_E)]) sz) ((wWX11 cB cI cZ a0 R.2.1 R.2.2.1) ++ [((b5, .inl (cJ, 1, .inr (.inl R.2.2.2))) : Nat × va_E)]) t) (va_A ((wWX11 cB cI cZ a0 I0 M0) ++ [((b5, .inl (cJ, 1, .inr (.inl o5))) : Nat × va_E)]) sz)) 1 6 (va_A ((wWX11 cB cI cZ a0 I0 M0) ++ [((b5, .inl (cJ, 1, .inr (.inl o5))) : Nat × va_E)]) sz) := by
  refine va_MetW (cc := cL_mixed) (maxL := 7) (ret := (some .int)) (hh := [(0, 14, 17, 19), (0, 14, 21, 13)]) pn_L rfl ?_
  intro p e s m args below meth c s₁ B hml hv
  obtain ⟨rfl, hsz, hP, hK, hD0, hX, hNc⟩ := hv
  have hx := B.exec
  have hb := B.bytes
  have hr := B.returns
  have hts := atoms_spec (ws := wyL_mixed) B.pre
  have hown : s.vm.findClass RL = some m.cls := (findClass_of_methodNamed B.named :)
  have hlocks := B.notSynchronized
  have htb := vx_table (x := yL_mixed) (hh := [(0, 14, 17, 19), (0, 14, 21, 13)]) B (hts (.codeWith yL_mixed cL_mixed 7 (some .int) [(0, 14, 17, 19), (0, 14, 21, 13)]) List.mem_cons_self)
  have hK3 : va_K D vwCl [(cB, .byte), (cI, .int), (cZ, .boolean)] s := hK.sub [0, 1, 2] rfl
  subst hsz
  have hD := hD0.self (sz := s.heap.size)
  generalize hAe : va_A ((wWX11 cB cI cZ a0 I0 M0) ++ [((b5, .inl (cJ, 1, .inr (.inl o5))) : Nat × va_E)]) s.heap.size = A at hD ⊢
  have hA : ∀ q : Nat, s.heap.size ≤ q → A q := fun q h => by rw [← hAe]; exact Or.inr h
  have hl := lv_entry ([.ref (a0 0), .int x1, .int x2, .int x3, .int x4, .ref b5]) (n := 7) (Nat.le_of_ble_eq_true rfl)
  rw [lg_entry_eq]
  generalize (lg_sl ([.ref (a0 0), .int x1, .int x2, .int x3, .int x4, .ref b5]) ++ List.replicate (7 - (lg_sl ([.ref (a0 0), .int x1, .int x2, .int x3, .int x4, .ref b5])).length) Slot.unset).toArray = ls at hl ⊢
  have hl : lv_has ls 7 [(0, .ref (a0 0)), (1, .int x1), (2, .int x2), (3, .int x3), (4, .int x4), (5, .ref b5)] := hl
  unfold fL_mixed at hf
  obtain ⟨H, hHe⟩ : ∃ H : Heap, H = s.heap := ⟨_, rfl⟩
  obtain ⟨locs, hle⟩ : ∃ locs : List Loc, locs = [] := ⟨_, rfl⟩
  refine wb_start (H := H) (locs := locs) hHe hle ?_
  rw [← hHe] at hP hX
  have hS : va_S A s.heap H locs := by rw [hHe, hle]; exact va_S.rf
  rcases wb_hpi hf with ⟨k, hrx, hf⟩ | ⟨r, hr9, hf⟩
  · refine lv_aload hx hb dL_mixed_0 (lv_at hl 5 rfl) ?_
    refine lv_iconst (v := (0 : Int32)) hx hb dL_mixed_2 (by decide) ?_
    refine lv_aload_n hx hb dL_mixed_3 rfl (lv_at hl 0 rfl) ?_
    refine lv_iload_n hx hb dL_mixed_4 rfl (lv_at hl 1 rfl) ?_
    refine lv_iload_n hx hb dL_mixed_5 rfl (lv_at hl 2 rfl) ?_
    refine lv_iload_n hx hb dL_mixed_6 rfl (lv_at hl 3 rfl) ?_
    refine lv_iload hx hb dL_mixed_7 (lv_at hl 4 rfl) ?_
    refine vx_calli (vx_runV (As := [.int x1, .int x2, .int x3, .int x4]) (rest := [.int (0 : Int32), .ref b5]) ⟨hx, hb, hml, hown, hts⟩ (ct_X11_mixed l hlt D cB cI cZ N a0 I0 M0 x1 x2 x3 x4 H.size k hrx) (cwV 4 hts gyL_mixed_X11_mixed rfl rfl rfl cdX11_mixed ⟨Nat.le_of_ble_eq_true rfl, Nat.le_of_ble_eq_true rfl⟩) (wb_preXV (wj_P1 (X := (wWX11 cB cI cZ a0 I0 M0)) hP) hK3 hX (wr_11 hK hP (q0 := 0) rfl)) rfl rfl hl.1 rfl (lv_room (Nat.le_of_ble_eq_true rfl)) dL_mixed_9 ⟨Nat.le_of_ble_eq_true rfl, Nat.le_of_ble_eq_true rfl⟩) hS (fun q h1 h2 => absurd h1 (Nat.not_lt.mpr h2)) (fun q h => hA q (Nat.le_trans hS.1 h)) (fun q h1 h2 => absurd h1 (Nat.not_lt.mpr h2)) (fun E ce q9 u t H locs ht hvm hpx hB hz1 hk1 hS hq9 hv9 hc9 => ?_) (fun r9 u t H locs ht hvm hw hB hz1 hk1 hS => hw.elim)
    have hP : va_P D vwCl ((wWX11 cB cI cZ a0 I0 M0) ++ [((b5, .inl (cJ, 1, .inr (.inl o5))) : Nat × va_E)]) H := hP.kept (fun k q hq => hk1 q.1 (hP k q hq).lt (Nat.not_le.mpr (hP k q hq).lt))
    by_cases hk1 : k = 1
    · subst hk1
      have hE : E = wb_E1 := hB.trans rfl
      subst hE
      refine vx_catch hown [] ⟨0, 14, 17, 19⟩ [⟨0, 14, 21, 13⟩] (htb.trans rfl) (fun z hz => nomatch hz) (by decide) (by decide) (hts (.classLink RL 19 "java/util/NoSuchElementException") (List.mem_of_getElem? (i := 1) rfl)) (va_Nw.use rfl hX.2.2.2.1) hq9 hv9 hc9 ?_
      refine lv_astore (lv' := [(6, .ref q9), (0, .ref (a0 0)), (1, .int x1), (2, .int x2), (3, .int x3), (4, .int x4), (5, .ref b5)]) hx hb dL_mixed_17 hl (by decide) rfl (fun ls hl => ?_)
      refine lv_iconst (v := (1 : Int32)) hx hb dL_mixed_19 (by decide) ?_
      replace hf := wb_t rfl hf
      refine W.widen (k := 1) (n := 6) (Nat.le_of_ble_eq_true rfl) (Nat.le_of_ble_eq_true rfl) ?_
      exact W.iret (v := (1 : Int32)) hx hb hr (fun t ht hW => by rw [← Option.some.inj hf]; exact ⟨⟨(1 : Int32), (), rfl, rfl, by rw [ht]; exact hP, va_K.moved hW.alike hK, hD⟩, hS.F ht⟩) hS.2.2 dL_mixed_20
    replace hf := wb_f hk1 hf
    by_cases hk2 : k = 2
    · subst hk2
      have hE : E = wb_E2 := hB.trans rfl
      subst hE
      refine vx_catch hown [⟨0, 14, 17, 19⟩] ⟨0, 14, 21, 13⟩ [] (htb.trans rfl) (fun z hz => by rw [List.mem_singleton.mp hz]; exact Or.inr ⟨by decide, "java/util/NoSuchElementException", (hts (.classLink RL 19 "java/util/NoSuchElementException") (List.mem_of_getElem? (i := 1) rfl)), hNc⟩) (by decide) (by decide) (hts (.classLink RL 13 "java/lang/IllegalArgumentException") (List.mem_of_getElem? (i := 2) rfl)) (va_Nw.use rfl hX.2.2.2.2.1) hq9 hv9 hc9 ?_
      refine lv_astore (lv' := [(6, .ref q9), (0, .ref (a0 0)), (1, .int x1), (2, .int x2), (3, .int x3), (4, .int x4), (5, .ref b5)]) hx hb dL_mixed_21 hl (by decide) rfl (fun ls hl => ?_)
      refine lv_iconst (v := (2 : Int32)) hx hb dL_mixed_23 (by decide) ?_
      replace hf := wb_t rfl hf
      refine W.widen (k := 1) (n := 6) (Nat.le_of_ble_eq_true rfl) (Nat.le_of_ble_eq_true rfl) ?_
      exact W.iret (v := (2 : Int32)) hx hb hr (fun t ht hW => by rw [← Option.some.inj hf]; exact ⟨⟨(2 : Int32), (), rfl, rfl, by rw [ht]; exact hP, va_K.moved hW.alike hK, hD⟩, hS.F ht⟩) hS.2.2 dL_mixed_24
    replace hf := wb_f hk2 hf
    exact absurd hf (fun h => nomatch h)
  · refine lv_aload hx hb dL_mixed_0 (lv_at hl 5 rfl) ?_
    refine lv_iconst (v := (0 : Int32)) hx hb dL_mixed_2 (by decide) ?_
    refine lv_aload_n hx hb dL_mixed_3 rfl (lv_at hl 0 rfl) ?_
    refine lv_iload_n hx hb dL_mixed_4 rfl (lv_at hl 1 rfl) ?_
    refine lv_iload_n hx hb dL_mixed_5 rfl (lv_at hl 2 rfl) ?_
    refine lv_iload_n hx hb dL_mixed_6 rfl (lv_at hl 3 rfl) ?_
    refine lv_iload hx hb dL_mixed_7 (lv_at hl 4 rfl) ?_
    refine vp_callSi (W.runV (As := [.int x1, .int x2, .int x3, .int x4]) (rest := [.int (0 : Int32), .ref b5]) ⟨hx, hb, hml, hown, hts⟩ (cn_X11_mixed l D cB cI cZ N a0 I0 M0 x1 x2 x3 x4 r hr9) (cwV 4 hts gyL_mixed_X11_mixed rfl rfl rfl cdX11_mixed ⟨Nat.le_of_ble_eq_true rfl, Nat.le_of_ble_eq_true rfl⟩) (wb_preV (wj_P1 (X := (wWX11 cB cI cZ a0 I0 M0)) hP) hK3 (wr_11 hK hP (q0 := 0) rfl)) rfl rfl hl.1 rfl (lv_room (Nat.le_of_ble_eq_true rfl)) dL_mixed_9 ⟨Nat.le_of_ble_eq_true rfl, Nat.le_of_ble_eq_true rfl⟩) (fun r9 e9 => ?_)
    rw [e9]
    refine lv_i2l hx hb dL_mixed_12 rfl ?_
    refine va_last hx hb hK hP hD hS 52 3 rfl rfl (show ¬ ((0 : Int32) < 0 ∨ 1 ≤ (0 : Int32).toNatClampNeg) from by decide) dL_mixed_13 (fun H locs hP hD hS => ?_)
    have hP : va_P D vwCl ((wWX11 cB cI cZ a0 I0 M0) ++ [((b5, .inl (cJ, 1, .inr (.inl (vp_updL o5 ((0 : Int32)).toNatClampNeg r.toInt64)))) : Nat × va_E)]) H := hP
    have hD : va_D A ((wWX11 cB cI cZ a0 I0 M0) ++ [((b5, .inl (cJ, 1, .inr (.inl (vp_updL o5 ((0 : Int32)).toNatClampNeg r.toInt64)))) : Nat × va_E)]) := hD
    obtain ⟨o5_1, eo5_1, hf⟩ := wb_v hf
    rw [← eo5_1] at hP hD
    refine lv_goto (tgt := 25) hx hb dL_mixed_14 (by decide) ?_
    refine lv_iconst (v := (0 : Int32)) hx hb dL_mixed_25 (by decide) ?_
    refine W.widen (k := 1) (n := 6) (Nat.le_of_ble_eq_true rfl) (Nat.le_of_ble_eq_true rfl) ?_
    exact W.iret (v := (0 : Int32)) hx hb hr (fun t ht hW => by rw [← Option.some.inj hf]; exact ⟨⟨(0 : Int32), (), rfl, rfl, by rw [ht]; exact hP, va_K.moved hW.alike hK, hD⟩, hS.F ht⟩) hS.2.2 dL_mixed_26

set_option maxHeartbeats 4000000 in
set_option maxRecDepth 100000 in
theorem cn_L_climb (l : Launch) (hlt : l.stackTraces = false) (D : va_G) (cB cI cZ cJ : ClassId) (N : Nat) (a0 : Nat → Nat) (I0 : Nat → Int32) (M0 : Nat → Nat → Int32) (x1 : Int32) (x2 : Int32) (b3 : Nat) (o3 : Nat → Int64) (sz : Nat) (R : Int32 × (Nat → Int32) × (Nat → Nat → Int32) × (Nat → Int64)) (hf : fL_climb N I0 M0 x1 x2 o3 = some R) : Met l yL_climb wyL_climb ({ frames := 8, cells := 1, slots := 6, locals := 162 }) (va_Pc [.ref (a0 0), .int x1, .int x2, .ref b3] (wb_preL D [(cB, .byte), (cI, .int), (cZ, .boolean), (cJ, .long)] ((wWX11 cB cI cZ a0 I0 M0) ++ [((b3, .inl (cJ, 1, .inr (.inl o3))) : Nat × va_E)]) sz)) (va_Qi (fun r (_ : Unit) => r = R.1) (fun _ t => wb_post D [(cB, .byte), (cI, .int), (cZ, .boolean), (cJ, .long)] (va_A ((wWX11 cB cI cZ a0 I0 M0) ++ [((b3, .inl (cJ, 1, .inr (.inl o3))) : Nat × va_E)]) sz) ((wWX11 cB cI cZ a0 R.2.1 R.2.2.1) ++ [((b3, .inl (cJ, 1, .inr (.inl R.2.2.2))) : Nat × va_E)]) t) (va_A ((wWX11 cB cI cZ a0 I0 M0) ++ [((b3, .inl (cJ, 1, .inr (.inl o3))) : Nat × va_E)]) sz)) 1 6 (va_A ((wWX11 cB cI cZ a0 I0 M0) ++ [((b3, .inl (cJ, 1, .inr (.inl o3))) : Nat × va_E)]) sz) := by
  refine va_MetW (cc := cL_climb) (maxL := 5) (ret := (some .int)) (hh := [(0, 10, 13, 19)]) pn_L rfl ?_
  intro p e s m args below meth c s₁ B hml hv
  obtain ⟨rfl, hsz, hP, hK, hD0, hX, hNc⟩ := hv
  have hx := B.exec
  have hb := B.bytes
  have hr := B.returns
  have hts := atoms_spec (ws := wyL_climb) B.pre
  have hown : s.vm.findClass RL = some m.cls := (findClass_of_methodNamed B.named :)
  have hlocks := B.notSynchronized
  have htb := vx_table (x := yL_climb) (hh := [(0, 10, 13, 19)]) B (hts (.codeWith yL_climb cL_climb 5 (some .int) [(0, 10, 13, 19)]) List.mem_cons_self)
  have hK3 : va_K D vwCl [(cB, .byte), (cI, .int), (cZ, .boolean)] s := hK.sub [0, 1, 2] rfl
  subst hsz
  have hD := hD0.self (sz := s.heap.size)
  generalize hAe : va_A ((wWX11 cB cI cZ a0 I0 M0) ++ [((b3, .inl (cJ, 1, .inr (.inl o3))) : Nat × va_E)]) s.heap.size = A at hD ⊢
  have hA : ∀ q : Nat, s.heap.size ≤ q → A q := fun q h => by rw [← hAe]; exact Or.inr h
  have hl := lv_entry ([.ref (a0 0), .int x1, .int x2, .ref b3]) (n := 5) (Nat.le_of_ble_eq_true rfl)
  rw [lg_entry_eq]
  generalize (lg_sl ([.ref (a0 0), .int x1, .int x2, .ref b3]) ++ List.replicate (5 - (lg_sl ([.ref (a0 0), .int x1, .int x2, .ref b3])).length) Slot.unset).toArray = ls at hl ⊢
  have hl : lv_has ls 5 [(0, .ref (a0 0)), (1, .int x1), (2, .int x2), (3, .ref b3)] := hl
  unfold fL_climb at hf
  obtain ⟨H, hHe⟩ : ∃ H : Heap, H = s.heap := ⟨_, rfl⟩
  obtain ⟨locs, hle⟩ : ∃ locs : List Loc, locs = [] := ⟨_, rfl⟩
  refine wb_start (H := H) (locs := locs) hHe hle ?_
  rw [← hHe] at hP hX
  have hS : va_S A s.heap H locs := by rw [hHe, hle]; exact va_S.rf
  rcases wb_hpi hf with ⟨k, hrx, hf⟩ | ⟨r, hr9, hf⟩
  · refine lv_aload_n hx hb dL_climb_0 rfl (lv_at hl 3 rfl) ?_
    refine lv_iconst (v := (0 : Int32)) hx hb dL_climb_1 (by decide) ?_
    refine lv_aload_n hx hb dL_climb_2 rfl (lv_at hl 0 rfl) ?_
    refine lv_iload_n hx hb dL_climb_3 rfl (lv_at hl 1 rfl) ?_
    refine lv_iload_n hx hb dL_climb_4 rfl (lv_at hl 2 rfl) ?_
    refine vx_calli (vx_runV (As := [.int x1, .int x2]) (rest := [.int (0 : Int32), .ref b3]) ⟨hx, hb, hml, hown, hts⟩ (ct_X11_climb l hlt D cB cI cZ N a0 I0 M0 x1 x2 H.size k hrx) (cwV 2 hts gyL_climb_X11_climb rfl rfl rfl cdX11_climb ⟨Nat.le_of_ble_eq_true rfl, Nat.le_of_ble_eq_true rfl⟩) (wb_preXV (wj_P1 (X := (wWX11 cB cI cZ a0 I0 M0)) hP) hK3 hX (wr_11 hK hP (q0 := 0) rfl)) rfl rfl hl.1 rfl (lv_room (Nat.le_of_ble_eq_true rfl)) dL_climb_5 ⟨Nat.le_of_ble_eq_true rfl, Nat.le_of_ble_eq_true rfl⟩) hS (fun q h1 h2 => absurd h1 (Nat.not_lt.mpr h2)) (fun q h => hA q (Nat.le_trans hS.1 h)) (fun q h1 h2 => absurd h1 (Nat.not_lt.mpr h2)) (fun E ce q9 u t H locs ht hvm hpx hB hz1 hk1 hS hq9 hv9 hc9 => ?_) (fun r9 u t H locs ht hvm hw hB hz1 hk1 hS => hw.elim)
    have hP : va_P D vwCl ((wWX11 cB cI cZ a0 I0 M0) ++ [((b3, .inl (cJ, 1, .inr (.inl o3))) : Nat × va_E)]) H := hP.kept (fun k q hq => hk1 q.1 (hP k q hq).lt (Nat.not_le.mpr (hP k q hq).lt))
    by_cases hk1 : k = 1
    · subst hk1
      have hE : E = wb_E1 := hB.trans rfl
      subst hE
      refine vx_catch hown [] ⟨0, 10, 13, 19⟩ [] (htb.trans rfl) (fun z hz => nomatch hz) (by decide) (by decide) (hts (.classLink RL 19 "java/util/NoSuchElementException") (List.mem_of_getElem? (i := 1) rfl)) (va_Nw.use rfl hX.2.2.2.1) hq9 hv9 hc9 ?_
      refine lv_astore (lv' := [(4, .ref q9), (0, .ref (a0 0)), (1, .int x1), (2, .int x2), (3, .ref b3)]) hx hb dL_climb_13 hl (by decide) rfl (fun ls hl => ?_)
      refine lv_iconst (v := (1 : Int32)) hx hb dL_climb_15 (by decide) ?_
      replace hf := wb_t rfl hf
      refine W.widen (k := 1) (n := 6) (Nat.le_of_ble_eq_true rfl) (Nat.le_of_ble_eq_true rfl) ?_
      exact W.iret (v := (1 : Int32)) hx hb hr (fun t ht hW => by rw [← Option.some.inj hf]; exact ⟨⟨(1 : Int32), (), rfl, rfl, by rw [ht]; exact hP, va_K.moved hW.alike hK, hD⟩, hS.F ht⟩) hS.2.2 dL_climb_16
    replace hf := wb_f hk1 hf
    exact absurd hf (fun h => nomatch h)
  · refine lv_aload_n hx hb dL_climb_0 rfl (lv_at hl 3 rfl) ?_
    refine lv_iconst (v := (0 : Int32)) hx hb dL_climb_1 (by decide) ?_
    refine lv_aload_n hx hb dL_climb_2 rfl (lv_at hl 0 rfl) ?_
    refine lv_iload_n hx hb dL_climb_3 rfl (lv_at hl 1 rfl) ?_
    refine lv_iload_n hx hb dL_climb_4 rfl (lv_at hl 2 rfl) ?_
    refine vp_callSi (W.runV (As := [.int x1, .int x2]) (rest := [.int (0 : Int32), .ref b3]) ⟨hx, hb, hml, hown, hts⟩ (cn_X11_climb l D cB cI cZ N a0 I0 M0 x1 x2 r hr9) (cwV 2 hts gyL_climb_X11_climb rfl rfl rfl cdX11_climb ⟨Nat.le_of_ble_eq_true rfl, Nat.le_of_ble_eq_true rfl⟩) (wb_preV (wj_P1 (X := (wWX11 cB cI cZ a0 I0 M0)) hP) hK3 (wr_11 hK hP (q0 := 0) rfl)) rfl rfl hl.1 rfl (lv_room (Nat.le_of_ble_eq_true rfl)) dL_climb_5 ⟨Nat.le_of_ble_eq_true rfl, Nat.le_of_ble_eq_true rfl⟩) (fun r9 e9 => ?_)
    rw [e9]
    refine lv_i2l hx hb dL_climb_8 rfl ?_
    refine va_last hx hb hK hP hD hS 52 3 rfl rfl (show ¬ ((0 : Int32) < 0 ∨ 1 ≤ (0 : Int32).toNatClampNeg) from by decide) dL_climb_9 (fun H locs hP hD hS => ?_)
    have hP : va_P D vwCl ((wWX11 cB cI cZ a0 I0 M0) ++ [((b3, .inl (cJ, 1, .inr (.inl (vp_updL o3 ((0 : Int32)).toNatClampNeg r.toInt64)))) : Nat × va_E)]) H := hP
    have hD : va_D A ((wWX11 cB cI cZ a0 I0 M0) ++ [((b3, .inl (cJ, 1, .inr (.inl (vp_updL o3 ((0 : Int32)).toNatClampNeg r.toInt64)))) : Nat × va_E)]) := hD
    obtain ⟨o3_1, eo3_1, hf⟩ := wb_v hf
    rw [← eo3_1] at hP hD
    refine lv_goto (tgt := 17) hx hb dL_climb_10 (by decide) ?_
    refine lv_iconst (v := (0 : Int32)) hx hb dL_climb_17 (by decide) ?_
    refine W.widen (k := 1) (n := 6) (Nat.le_of_ble_eq_true rfl) (Nat.le_of_ble_eq_true rfl) ?_
    exact W.iret (v := (0 : Int32)) hx hb hr (fun t ht hW => by rw [← Option.some.inj hf]; exact ⟨⟨(0 : Int32), (), rfl, rfl, by rw [ht]; exact hP, va_K.moved hW.alike hK, hD⟩, hS.F ht⟩) hS.2.2 dL_climb_18

set_option maxHeartbeats 4000000 in
set_option maxRecDepth 100000 in
theorem cn_L_rise (l : Launch) (hlt : l.stackTraces = false) (D : va_G) (cB cI cZ cJ : ClassId) (N : Nat) (a0 : Nat → Nat) (I0 : Nat → Int32) (M0 : Nat → Nat → Int32) (x1 : Int32) (x2 : Int32) (x3 : Int32) (b4 : Nat) (o4 : Nat → Int64) (sz : Nat) (R : Int32 × (Nat → Int32) × (Nat → Nat → Int32) × (Nat → Int64)) (hf : fL_rise N I0 M0 x1 x2 x3 o4 = some R) : Met l yL_rise wyL_rise ({ frames := 8, cells := 1, slots := 6, locals := 163 }) (va_Pc [.ref (a0 0), .int x1, .int x2, .int x3, .ref b4] (wb_preL D [(cB, .byte), (cI, .int), (cZ, .boolean), (cJ, .long)] ((wWX11 cB cI cZ a0 I0 M0) ++ [((b4, .inl (cJ, 1, .inr (.inl o4))) : Nat × va_E)]) sz)) (va_Qi (fun r (_ : Unit) => r = R.1) (fun _ t => wb_post D [(cB, .byte), (cI, .int), (cZ, .boolean), (cJ, .long)] (va_A ((wWX11 cB cI cZ a0 I0 M0) ++ [((b4, .inl (cJ, 1, .inr (.inl o4))) : Nat × va_E)]) sz) ((wWX11 cB cI cZ a0 R.2.1 R.2.2.1) ++ [((b4, .inl (cJ, 1, .inr (.inl R.2.2.2))) : Nat × va_E)]) t) (va_A ((wWX11 cB cI cZ a0 I0 M0) ++ [((b4, .inl (cJ, 1, .inr (.inl o4))) : Nat × va_E)]) sz)) 1 6 (va_A ((wWX11 cB cI cZ a0 I0 M0) ++ [((b4, .inl (cJ, 1, .inr (.inl o4))) : Nat × va_E)]) sz) := by
  refine va_MetW (cc := cL_rise) (maxL := 6) (ret := (some .int)) (hh := [(0, 12, 15, 19)]) pn_L rfl ?_
  intro p e s m args below meth c s₁ B hml hv
  obtain ⟨rfl, hsz, hP, hK, hD0, hX, hNc⟩ := hv
  have hx := B.exec
  have hb := B.bytes
  have hr := B.returns
  have hts := atoms_spec (ws := wyL_rise) B.pre
  have hown : s.vm.findClass RL = some m.cls := (findClass_of_methodNamed B.named :)
  have hlocks := B.notSynchronized
  have htb := vx_table (x := yL_rise) (hh := [(0, 12, 15, 19)]) B (hts (.codeWith yL_rise cL_rise 6 (some .int) [(0, 12, 15, 19)]) List.mem_cons_self)
  have hK3 : va_K D vwCl [(cB, .byte), (cI, .int), (cZ, .boolean)] s := hK.sub [0, 1, 2] rfl
  subst hsz
  have hD := hD0.self (sz := s.heap.size)
  generalize hAe : va_A ((wWX11 cB cI cZ a0 I0 M0) ++ [((b4, .inl (cJ, 1, .inr (.inl o4))) : Nat × va_E)]) s.heap.size = A at hD ⊢
  have hA : ∀ q : Nat, s.heap.size ≤ q → A q := fun q h => by rw [← hAe]; exact Or.inr h
  have hl := lv_entry ([.ref (a0 0), .int x1, .int x2, .int x3, .ref b4]) (n := 6) (Nat.le_of_ble_eq_true rfl)
  rw [lg_entry_eq]
  generalize (lg_sl ([.ref (a0 0), .int x1, .int x2, .int x3, .ref b4]) ++ List.replicate (6 - (lg_sl ([.ref (a0 0), .int x1, .int x2, .int x3, .ref b4])).length) Slot.unset).toArray = ls at hl ⊢
  have hl : lv_has ls 6 [(0, .ref (a0 0)), (1, .int x1), (2, .int x2), (3, .int x3), (4, .ref b4)] := hl
  unfold fL_rise at hf
  obtain ⟨H, hHe⟩ : ∃ H : Heap, H = s.heap := ⟨_, rfl⟩
  obtain ⟨locs, hle⟩ : ∃ locs : List Loc, locs = [] := ⟨_, rfl⟩
  refine wb_start (H := H) (locs := locs) hHe hle ?_
  rw [← hHe] at hP hX
  have hS : va_S A s.heap H locs := by rw [hHe, hle]; exact va_S.rf
  rcases wb_hpi hf with ⟨k, hrx, hf⟩ | ⟨r, hr9, hf⟩
  · refine lv_aload hx hb dL_rise_0 (lv_at hl 4 rfl) ?_
    refine lv_iconst (v := (0 : Int32)) hx hb dL_rise_2 (by decide) ?_
    refine lv_aload_n hx hb dL_rise_3 rfl (lv_at hl 0 rfl) ?_
    refine lv_iload_n hx hb dL_rise_4 rfl (lv_at hl 1 rfl) ?_
    refine lv_iload_n hx hb dL_rise_5 rfl (lv_at hl 2 rfl) ?_
    refine lv_iload_n hx hb dL_rise_6 rfl (lv_at hl 3 rfl) ?_
    refine vx_calli (vx_runV (As := [.int x1, .int x2, .int x3]) (rest := [.int (0 : Int32), .ref b4]) ⟨hx, hb, hml, hown, hts⟩ (ct_X11_rise l hlt D cB cI cZ N a0 I0 M0 x1 x2 x3 H.size k hrx) (cwV 3 hts gyL_rise_X11_rise rfl rfl rfl cdX11_rise ⟨Nat.le_of_ble_eq_true rfl, Nat.le_of_ble_eq_true rfl⟩) (wb_preXV (wj_P1 (X := (wWX11 cB cI cZ a0 I0 M0)) hP) hK3 hX (wr_11 hK hP (q0 := 0) rfl)) rfl rfl hl.1 rfl (lv_room (Nat.le_of_ble_eq_true rfl)) dL_rise_7 ⟨Nat.le_of_ble_eq_true rfl, Nat.le_of_ble_eq_true rfl⟩) hS (fun q h1 h2 => absurd h1 (Nat.not_lt.mpr h2)) (fun q h => hA q (Nat.le_trans hS.1 h)) (fun q h1 h2 => absurd h1 (Nat.not_lt.mpr h2)) (fun E ce q9 u t H locs ht hvm hpx hB hz1 hk1 hS hq9 hv9 hc9 => ?_) (fun r9 u t H locs ht hvm hw hB hz1 hk1 hS => hw.elim)
    have hP : va_P D vwCl ((wWX11 cB cI cZ a0 I0 M0) ++ [((b4, .inl (cJ, 1, .inr (.inl o4))) : Nat × va_E)]) H := hP.kept (fun k q hq => hk1 q.1 (hP k q hq).lt (Nat.not_le.mpr (hP k q hq).lt))
    by_cases hk1 : k = 1
    · subst hk1
      have hE : E = wb_E1 := hB.trans rfl
      subst hE
      refine vx_catch hown [] ⟨0, 12, 15, 19⟩ [] (htb.trans rfl) (fun z hz => nomatch hz) (by decide) (by decide) (hts (.classLink RL 19 "java/util/NoSuchElementException") (List.mem_of_getElem? (i := 1) rfl)) (va_Nw.use rfl hX.2.2.2.1) hq9 hv9 hc9 ?_
      refine lv_astore (lv' := [(5, .ref q9), (0, .ref (a0 0)), (1, .int x1), (2, .int x2), (3, .int x3), (4, .ref b4)]) hx hb dL_rise_15 hl (by decide) rfl (fun ls hl => ?_)
      refine lv_iconst (v := (1 : Int32)) hx hb dL_rise_17 (by decide) ?_
      replace hf := wb_t rfl hf
      refine W.widen (k := 1) (n := 6) (Nat.le_of_ble_eq_true rfl) (Nat.le_of_ble_eq_true rfl) ?_
      exact W.iret (v := (1 : Int32)) hx hb hr (fun t ht hW => by rw [← Option.some.inj hf]; exact ⟨⟨(1 : Int32), (), rfl, rfl, by rw [ht]; exact hP, va_K.moved hW.alike hK, hD⟩, hS.F ht⟩) hS.2.2 dL_rise_18
    replace hf := wb_f hk1 hf
    exact absurd hf (fun h => nomatch h)
  · refine lv_aload hx hb dL_rise_0 (lv_at hl 4 rfl) ?_
    refine lv_iconst (v := (0 : Int32)) hx hb dL_rise_2 (by decide) ?_
    refine lv_aload_n hx hb dL_rise_3 rfl (lv_at hl 0 rfl) ?_
    refine lv_iload_n hx hb dL_rise_4 rfl (lv_at hl 1 rfl) ?_
    refine lv_iload_n hx hb dL_rise_5 rfl (lv_at hl 2 rfl) ?_
    refine lv_iload_n hx hb dL_rise_6 rfl (lv_at hl 3 rfl) ?_
    refine vp_callSi (W.runV (As := [.int x1, .int x2, .int x3]) (rest := [.int (0 : Int32), .ref b4]) ⟨hx, hb, hml, hown, hts⟩ (cn_X11_rise l D cB cI cZ N a0 I0 M0 x1 x2 x3 r hr9) (cwV 3 hts gyL_rise_X11_rise rfl rfl rfl cdX11_rise ⟨Nat.le_of_ble_eq_true rfl, Nat.le_of_ble_eq_true rfl⟩) (wb_preV (wj_P1 (X := (wWX11 cB cI cZ a0 I0 M0)) hP) hK3 (wr_11 hK hP (q0 := 0) rfl)) rfl rfl hl.1 rfl (lv_room (Nat.le_of_ble_eq_true rfl)) dL_rise_7 ⟨Nat.le_of_ble_eq_true rfl, Nat.le_of_ble_eq_true rfl⟩) (fun r9 e9 => ?_)
    rw [e9]
    refine lv_i2l hx hb dL_rise_10 rfl ?_
    refine va_last hx hb hK hP hD hS 52 3 rfl rfl (show ¬ ((0 : Int32) < 0 ∨ 1 ≤ (0 : Int32).toNatClampNeg) from by decide) dL_rise_11 (fun H locs hP hD hS => ?_)
    have hP : va_P D vwCl ((wWX11 cB cI cZ a0 I0 M0) ++ [((b4, .inl (cJ, 1, .inr (.inl (vp_updL o4 ((0 : Int32)).toNatClampNeg r.toInt64)))) : Nat × va_E)]) H := hP
    have hD : va_D A ((wWX11 cB cI cZ a0 I0 M0) ++ [((b4, .inl (cJ, 1, .inr (.inl (vp_updL o4 ((0 : Int32)).toNatClampNeg r.toInt64)))) : Nat × va_E)]) := hD
    obtain ⟨o4_1, eo4_1, hf⟩ := wb_v hf
    rw [← eo4_1] at hP hD
    refine lv_goto (tgt := 19) hx hb dL_rise_12 (by decide) ?_
    refine lv_iconst (v := (0 : Int32)) hx hb dL_rise_19 (by decide) ?_
    refine W.widen (k := 1) (n := 6) (Nat.le_of_ble_eq_true rfl) (Nat.le_of_ble_eq_true rfl) ?_
    exact W.iret (v := (0 : Int32)) hx hb hr (fun t ht hW => by rw [← Option.some.inj hf]; exact ⟨⟨(0 : Int32), (), rfl, rfl, by rw [ht]; exact hP, va_K.moved hW.alike hK, hD⟩, hS.F ht⟩) hS.2.2 dL_rise_20

set_option maxHeartbeats 4000000 in
set_option maxRecDepth 100000 in
theorem cn_L_middle (l : Launch) (hlt : l.stackTraces = false) (D : va_G) (cB cI cZ cJ : ClassId) (N : Nat) (a0 : Nat → Nat) (I0 : Nat → Int32) (M0 : Nat → Nat → Int32) (x1 : Int32) (x2 : Int32) (b3 : Nat) (o3 : Nat → Int64) (sz : Nat) (R : Int32 × (Nat → Int32) × (Nat → Nat → Int32) × (Nat → Int64)) (hf : fL_middle N I0 M0 x1 x2 o3 = some R) : Met l yL_middle wyL_middle ({ frames := 8, cells := 1, slots := 6, locals := 162 }) (va_Pc [.ref (a0 0), .int x1, .int x2, .ref b3] (wb_preL D [(cB, .byte), (cI, .int), (cZ, .boolean), (cJ, .long)] ((wWX11 cB cI cZ a0 I0 M0) ++ [((b3, .inl (cJ, 1, .inr (.inl o3))) : Nat × va_E)]) sz)) (va_Qi (fun r (_ : Unit) => r = R.1) (fun _ t => wb_post D [(cB, .byte), (cI, .int), (cZ, .boolean), (cJ, .long)] (va_A ((wWX11 cB cI cZ a0 I0 M0) ++ [((b3, .inl (cJ, 1, .inr (.inl o3))) : Nat × va_E)]) sz) ((wWX11 cB cI cZ a0 R.2.1 R.2.2.1) ++ [((b3, .inl (cJ, 1, .inr (.inl R.2.2.2))) : Nat × va_E)]) t) (va_A ((wWX11 cB cI cZ a0 I0 M0) ++ [((b3, .inl (cJ, 1, .inr (.inl o3))) : Nat × va_E)]) sz)) 1 6 (va_A ((wWX11 cB cI cZ a0 I0 M0) ++ [((b3, .inl (cJ, 1, .inr (.inl o3))) : Nat × va_E)]) sz) := by
  refine va_MetW (cc := cL_middle) (maxL := 5) (ret := (some .int)) (hh := [(0, 10, 13, 19)]) pn_L rfl ?_
  intro p e s m args below meth c s₁ B hml hv
  obtain ⟨rfl, hsz, hP, hK, hD0, hX, hNc⟩ := hv
  have hx := B.exec
  have hb := B.bytes
  have hr := B.returns
  have hts := atoms_spec (ws := wyL_middle) B.pre
  have hown : s.vm.findClass RL = some m.cls := (findClass_of_methodNamed B.named :)
  have hlocks := B.notSynchronized
  have htb := vx_table (x := yL_middle) (hh := [(0, 10, 13, 19)]) B (hts (.codeWith yL_middle cL_middle 5 (some .int) [(0, 10, 13, 19)]) List.mem_cons_self)
  have hK3 : va_K D vwCl [(cB, .byte), (cI, .int), (cZ, .boolean)] s := hK.sub [0, 1, 2] rfl
  subst hsz
  have hD := hD0.self (sz := s.heap.size)
  generalize hAe : va_A ((wWX11 cB cI cZ a0 I0 M0) ++ [((b3, .inl (cJ, 1, .inr (.inl o3))) : Nat × va_E)]) s.heap.size = A at hD ⊢
  have hA : ∀ q : Nat, s.heap.size ≤ q → A q := fun q h => by rw [← hAe]; exact Or.inr h
  have hl := lv_entry ([.ref (a0 0), .int x1, .int x2, .ref b3]) (n := 5) (Nat.le_of_ble_eq_true rfl)
  rw [lg_entry_eq]
  generalize (lg_sl ([.ref (a0 0), .int x1, .int x2, .ref b3]) ++ List.replicate (5 - (lg_sl ([.ref (a0 0), .int x1, .int x2, .ref b3])).length) Slot.unset).toArray = ls at hl ⊢
  have hl : lv_has ls 5 [(0, .ref (a0 0)), (1, .int x1), (2, .int x2), (3, .ref b3)] := hl
  unfold fL_middle at hf
  obtain ⟨H, hHe⟩ : ∃ H : Heap, H = s.heap := ⟨_, rfl⟩
  obtain ⟨locs, hle⟩ : ∃ locs : List Loc, locs = [] := ⟨_, rfl⟩
  refine wb_start (H := H) (locs := locs) hHe hle ?_
  rw [← hHe] at hP hX
  have hS : va_S A s.heap H locs := by rw [hHe, hle]; exact va_S.rf
  rcases wb_hpi hf with ⟨k, hrx, hf⟩ | ⟨r, hr9, hf⟩
  · refine lv_aload_n hx hb dL_middle_0 rfl (lv_at hl 3 rfl) ?_
    refine lv_iconst (v := (0 : Int32)) hx hb dL_middle_1 (by decide) ?_
    refine lv_aload_n hx hb dL_middle_2 rfl (lv_at hl 0 rfl) ?_
    refine lv_iload_n hx hb dL_middle_3 rfl (lv_at hl 1 rfl) ?_
    refine lv_iload_n hx hb dL_middle_4 rfl (lv_at hl 2 rfl) ?_
    refine vx_calli (vx_runV (As := [.int x1, .int x2]) (rest := [.int (0 : Int32), .ref b3]) ⟨hx, hb, hml, hown, hts⟩ (ct_X11_middle l hlt D cB cI cZ N a0 I0 M0 x1 x2 H.size k hrx) (cwV 2 hts gyL_middle_X11_middle rfl rfl rfl cdX11_middle ⟨Nat.le_of_ble_eq_true rfl, Nat.le_of_ble_eq_true rfl⟩) (wb_preXV (wj_P1 (X := (wWX11 cB cI cZ a0 I0 M0)) hP) hK3 hX (wr_11 hK hP (q0 := 0) rfl)) rfl rfl hl.1 rfl (lv_room (Nat.le_of_ble_eq_true rfl)) dL_middle_5 ⟨Nat.le_of_ble_eq_true rfl, Nat.le_of_ble_eq_true rfl⟩) hS (fun q h1 h2 => absurd h1 (Nat.not_lt.mpr h2)) (fun q h => hA q (Nat.le_trans hS.1 h)) (fun q h1 h2 => absurd h1 (Nat.not_lt.mpr h2)) (fun E ce q9 u t H locs ht hvm hpx hB hz1 hk1 hS hq9 hv9 hc9 => ?_) (fun r9 u t H locs ht hvm hw hB hz1 hk1 hS => hw.elim)
    have hP : va_P D vwCl ((wWX11 cB cI cZ a0 I0 M0) ++ [((b3, .inl (cJ, 1, .inr (.inl o3))) : Nat × va_E)]) H := hP.kept (fun k q hq => hk1 q.1 (hP k q hq).lt (Nat.not_le.mpr (hP k q hq).lt))
    by_cases hk1 : k = 1
    · subst hk1
      have hE : E = wb_E1 := hB.trans rfl
      subst hE
      refine vx_catch hown [] ⟨0, 10, 13, 19⟩ [] (htb.trans rfl) (fun z hz => nomatch hz) (by decide) (by decide) (hts (.classLink RL 19 "java/util/NoSuchElementException") (List.mem_of_getElem? (i := 1) rfl)) (va_Nw.use rfl hX.2.2.2.1) hq9 hv9 hc9 ?_
      refine lv_astore (lv' := [(4, .ref q9), (0, .ref (a0 0)), (1, .int x1), (2, .int x2), (3, .ref b3)]) hx hb dL_middle_13 hl (by decide) rfl (fun ls hl => ?_)
      refine lv_iconst (v := (1 : Int32)) hx hb dL_middle_15 (by decide) ?_
      replace hf := wb_t rfl hf
      refine W.widen (k := 1) (n := 6) (Nat.le_of_ble_eq_true rfl) (Nat.le_of_ble_eq_true rfl) ?_
      exact W.iret (v := (1 : Int32)) hx hb hr (fun t ht hW => by rw [← Option.some.inj hf]; exact ⟨⟨(1 : Int32), (), rfl, rfl, by rw [ht]; exact hP, va_K.moved hW.alike hK, hD⟩, hS.F ht⟩) hS.2.2 dL_middle_16
    replace hf := wb_f hk1 hf
    exact absurd hf (fun h => nomatch h)
  · refine lv_aload_n hx hb dL_middle_0 rfl (lv_at hl 3 rfl) ?_
    refine lv_iconst (v := (0 : Int32)) hx hb dL_middle_1 (by decide) ?_
    refine lv_aload_n hx hb dL_middle_2 rfl (lv_at hl 0 rfl) ?_
    refine lv_iload_n hx hb dL_middle_3 rfl (lv_at hl 1 rfl) ?_
    refine lv_iload_n hx hb dL_middle_4 rfl (lv_at hl 2 rfl) ?_
    refine vp_callSi (W.runV (As := [.int x1, .int x2]) (rest := [.int (0 : Int32), .ref b3]) ⟨hx, hb, hml, hown, hts⟩ (cn_X11_middle l D cB cI cZ N a0 I0 M0 x1 x2 r hr9) (cwV 2 hts gyL_middle_X11_middle rfl rfl rfl cdX11_middle ⟨Nat.le_of_ble_eq_true rfl, Nat.le_of_ble_eq_true rfl⟩) (wb_preV (wj_P1 (X := (wWX11 cB cI cZ a0 I0 M0)) hP) hK3 (wr_11 hK hP (q0 := 0) rfl)) rfl rfl hl.1 rfl (lv_room (Nat.le_of_ble_eq_true rfl)) dL_middle_5 ⟨Nat.le_of_ble_eq_true rfl, Nat.le_of_ble_eq_true rfl⟩) (fun r9 e9 => ?_)
    rw [e9]
    refine lv_i2l hx hb dL_middle_8 rfl ?_
    refine va_last hx hb hK hP hD hS 52 3 rfl rfl (show ¬ ((0 : Int32) < 0 ∨ 1 ≤ (0 : Int32).toNatClampNeg) from by decide) dL_middle_9 (fun H locs hP hD hS => ?_)
    have hP : va_P D vwCl ((wWX11 cB cI cZ a0 I0 M0) ++ [((b3, .inl (cJ, 1, .inr (.inl (vp_updL o3 ((0 : Int32)).toNatClampNeg r.toInt64)))) : Nat × va_E)]) H := hP
    have hD : va_D A ((wWX11 cB cI cZ a0 I0 M0) ++ [((b3, .inl (cJ, 1, .inr (.inl (vp_updL o3 ((0 : Int32)).toNatClampNeg r.toInt64)))) : Nat × va_E)]) := hD
    obtain ⟨o3_1, eo3_1, hf⟩ := wb_v hf
    rw [← eo3_1] at hP hD
    refine lv_goto (tgt := 17) hx hb dL_middle_10 (by decide) ?_
    refine lv_iconst (v := (0 : Int32)) hx hb dL_middle_17 (by decide) ?_
    refine W.widen (k := 1) (n := 6) (Nat.le_of_ble_eq_true rfl) (Nat.le_of_ble_eq_true rfl) ?_
    exact W.iret (v := (0 : Int32)) hx hb hr (fun t ht hW => by rw [← Option.some.inj hf]; exact ⟨⟨(0 : Int32), (), rfl, rfl, by rw [ht]; exact hP, va_K.moved hW.alike hK, hD⟩, hS.F ht⟩) hS.2.2 dL_middle_18

set_option maxHeartbeats 4000000 in
set_option maxRecDepth 100000 in
theorem cn_L_hour (l : Launch) (hlt : l.stackTraces = false) (D : va_G) (cB cI cZ cJ : ClassId) (N : Nat) (a0 : Nat → Nat) (I0 : Nat → Int32) (M0 : Nat → Nat → Int32) (x1 : Int32) (x2 : Int32) (x3 : Int32) (b4 : Nat) (o4 : Nat → Int64) (sz : Nat) (R : Int32 × (Nat → Int32) × (Nat → Nat → Int32) × (Nat → Int64)) (hf : fL_hour N I0 M0 x1 x2 x3 o4 = some R) : Met l yL_hour wyL_hour ({ frames := 9, cells := 1, slots := 6, locals := 189 }) (va_Pc [.ref (a0 0), .int x1, .int x2, .int x3, .ref b4] (wb_preL D [(cB, .byte), (cI, .int), (cZ, .boolean), (cJ, .long)] ((wWX11 cB cI cZ a0 I0 M0) ++ [((b4, .inl (cJ, 1, .inr (.inl o4))) : Nat × va_E)]) sz)) (va_Qi (fun r (_ : Unit) => r = R.1) (fun _ t => wb_post D [(cB, .byte), (cI, .int), (cZ, .boolean), (cJ, .long)] (va_A ((wWX11 cB cI cZ a0 I0 M0) ++ [((b4, .inl (cJ, 1, .inr (.inl o4))) : Nat × va_E)]) sz) ((wWX11 cB cI cZ a0 R.2.1 R.2.2.1) ++ [((b4, .inl (cJ, 1, .inr (.inl R.2.2.2))) : Nat × va_E)]) t) (va_A ((wWX11 cB cI cZ a0 I0 M0) ++ [((b4, .inl (cJ, 1, .inr (.inl o4))) : Nat × va_E)]) sz)) 1 6 (va_A ((wWX11 cB cI cZ a0 I0 M0) ++ [((b4, .inl (cJ, 1, .inr (.inl o4))) : Nat × va_E)]) sz) := by
  refine va_MetW (cc := cL_hour) (maxL := 6) (ret := (some .int)) (hh := [(0, 12, 15, 19)]) pn_L rfl ?_
  intro p e s m args below meth c s₁ B hml hv
  obtain ⟨rfl, hsz, hP, hK, hD0, hX, hNc⟩ := hv
  have hx := B.exec
  have hb := B.bytes
  have hr := B.returns
  have hts := atoms_spec (ws := wyL_hour) B.pre
  have hown : s.vm.findClass RL = some m.cls := (findClass_of_methodNamed B.named :)
  have hlocks := B.notSynchronized
  have htb := vx_table (x := yL_hour) (hh := [(0, 12, 15, 19)]) B (hts (.codeWith yL_hour cL_hour 6 (some .int) [(0, 12, 15, 19)]) List.mem_cons_self)
  have hK3 : va_K D vwCl [(cB, .byte), (cI, .int), (cZ, .boolean)] s := hK.sub [0, 1, 2] rfl
  subst hsz
  have hD := hD0.self (sz := s.heap.size)
  generalize hAe : va_A ((wWX11 cB cI cZ a0 I0 M0) ++ [((b4, .inl (cJ, 1, .inr (.inl o4))) : Nat × va_E)]) s.heap.size = A at hD ⊢
  have hA : ∀ q : Nat, s.heap.size ≤ q → A q := fun q h => by rw [← hAe]; exact Or.inr h
  have hl := lv_entry ([.ref (a0 0), .int x1, .int x2, .int x3, .ref b4]) (n := 6) (Nat.le_of_ble_eq_true rfl)
  rw [lg_entry_eq]
  generalize (lg_sl ([.ref (a0 0), .int x1, .int x2, .int x3, .ref b4]) ++ List.replicate (6 - (lg_sl ([.ref (a0 0), .int x1, .int x2, .int x3, .ref b4])).length) Slot.unset).toArray = ls at hl ⊢
  have hl : lv_has ls 6 [(0, .ref (a0 0)), (1, .int x1), (2, .int x2), (3, .int x3), (4, .ref b4)] := hl
  unfold fL_hour at hf
  obtain ⟨H, hHe⟩ : ∃ H : Heap, H = s.heap := ⟨_, rfl⟩
  obtain ⟨locs, hle⟩ : ∃ locs : List Loc, locs = [] := ⟨_, rfl⟩
  refine wb_start (H := H) (locs := locs) hHe hle ?_
  rw [← hHe] at hP hX
  have hS : va_S A s.heap H locs := by rw [hHe, hle]; exact va_S.rf
  rcases wb_hpi hf with ⟨k, hrx, hf⟩ | ⟨r, hr9, hf⟩
  · refine lv_aload hx hb dL_hour_0 (lv_at hl 4 rfl) ?_
    refine lv_iconst (v := (0 : Int32)) hx hb dL_hour_2 (by decide) ?_
    refine lv_aload_n hx hb dL_hour_3 rfl (lv_at hl 0 rfl) ?_
    refine lv_iload_n hx hb dL_hour_4 rfl (lv_at hl 1 rfl) ?_
    refine lv_iload_n hx hb dL_hour_5 rfl (lv_at hl 2 rfl) ?_
    refine lv_iload_n hx hb dL_hour_6 rfl (lv_at hl 3 rfl) ?_
    refine vx_calli (vx_runV (As := [.int x1, .int x2, .int x3]) (rest := [.int (0 : Int32), .ref b4]) ⟨hx, hb, hml, hown, hts⟩ (ct_X11_hour l hlt D cB cI cZ N a0 I0 M0 x1 x2 x3 H.size k hrx) (cwV 3 hts gyL_hour_X11_hour rfl rfl rfl cdX11_hour ⟨Nat.le_of_ble_eq_true rfl, Nat.le_of_ble_eq_true rfl⟩) (wb_preXV (wj_P1 (X := (wWX11 cB cI cZ a0 I0 M0)) hP) hK3 hX (wr_11 hK hP (q0 := 0) rfl)) rfl rfl hl.1 rfl (lv_room (Nat.le_of_ble_eq_true rfl)) dL_hour_7 ⟨Nat.le_of_ble_eq_true rfl, Nat.le_of_ble_eq_true rfl⟩) hS (fun q h1 h2 => absurd h1 (Nat.not_lt.mpr h2)) (fun q h => hA q (Nat.le_trans hS.1 h)) (fun q h1 h2 => absurd h1 (Nat.not_lt.mpr h2)) (fun E ce q9 u t H locs ht hvm hpx hB hz1 hk1 hS hq9 hv9 hc9 => ?_) (fun r9 u t H locs ht hvm hw hB hz1 hk1 hS => hw.elim)
    have hP : va_P D vwCl ((wWX11 cB cI cZ a0 I0 M0) ++ [((b4, .inl (cJ, 1, .inr (.inl o4))) : Nat × va_E)]) H := hP.kept (fun k q hq => hk1 q.1 (hP k q hq).lt (Nat.not_le.mpr (hP k q hq).lt))
    by_cases hk1 : k = 1
    · subst hk1
      have hE : E = wb_E1 := hB.trans rfl
      subst hE
      refine vx_catch hown [] ⟨0, 12, 15, 19⟩ [] (htb.trans rfl) (fun z hz => nomatch hz) (by decide) (by decide) (hts (.classLink RL 19 "java/util/NoSuchElementException") (List.mem_of_getElem? (i := 1) rfl)) (va_Nw.use rfl hX.2.2.2.1) hq9 hv9 hc9 ?_
      refine lv_astore (lv' := [(5, .ref q9), (0, .ref (a0 0)), (1, .int x1), (2, .int x2), (3, .int x3), (4, .ref b4)]) hx hb dL_hour_15 hl (by decide) rfl (fun ls hl => ?_)
      refine lv_iconst (v := (1 : Int32)) hx hb dL_hour_17 (by decide) ?_
      replace hf := wb_t rfl hf
      refine W.widen (k := 1) (n := 6) (Nat.le_of_ble_eq_true rfl) (Nat.le_of_ble_eq_true rfl) ?_
      exact W.iret (v := (1 : Int32)) hx hb hr (fun t ht hW => by rw [← Option.some.inj hf]; exact ⟨⟨(1 : Int32), (), rfl, rfl, by rw [ht]; exact hP, va_K.moved hW.alike hK, hD⟩, hS.F ht⟩) hS.2.2 dL_hour_18
    replace hf := wb_f hk1 hf
    exact absurd hf (fun h => nomatch h)
  · refine lv_aload hx hb dL_hour_0 (lv_at hl 4 rfl) ?_
    refine lv_iconst (v := (0 : Int32)) hx hb dL_hour_2 (by decide) ?_
    refine lv_aload_n hx hb dL_hour_3 rfl (lv_at hl 0 rfl) ?_
    refine lv_iload_n hx hb dL_hour_4 rfl (lv_at hl 1 rfl) ?_
    refine lv_iload_n hx hb dL_hour_5 rfl (lv_at hl 2 rfl) ?_
    refine lv_iload_n hx hb dL_hour_6 rfl (lv_at hl 3 rfl) ?_
    refine vp_callSi (W.runV (As := [.int x1, .int x2, .int x3]) (rest := [.int (0 : Int32), .ref b4]) ⟨hx, hb, hml, hown, hts⟩ (cn_X11_hour l D cB cI cZ N a0 I0 M0 x1 x2 x3 r hr9) (cwV 3 hts gyL_hour_X11_hour rfl rfl rfl cdX11_hour ⟨Nat.le_of_ble_eq_true rfl, Nat.le_of_ble_eq_true rfl⟩) (wb_preV (wj_P1 (X := (wWX11 cB cI cZ a0 I0 M0)) hP) hK3 (wr_11 hK hP (q0 := 0) rfl)) rfl rfl hl.1 rfl (lv_room (Nat.le_of_ble_eq_true rfl)) dL_hour_7 ⟨Nat.le_of_ble_eq_true rfl, Nat.le_of_ble_eq_true rfl⟩) (fun r9 e9 => ?_)
    rw [e9]
    refine lv_i2l hx hb dL_hour_10 rfl ?_
    refine va_last hx hb hK hP hD hS 52 3 rfl rfl (show ¬ ((0 : Int32) < 0 ∨ 1 ≤ (0 : Int32).toNatClampNeg) from by decide) dL_hour_11 (fun H locs hP hD hS => ?_)
    have hP : va_P D vwCl ((wWX11 cB cI cZ a0 I0 M0) ++ [((b4, .inl (cJ, 1, .inr (.inl (vp_updL o4 ((0 : Int32)).toNatClampNeg r.toInt64)))) : Nat × va_E)]) H := hP
    have hD : va_D A ((wWX11 cB cI cZ a0 I0 M0) ++ [((b4, .inl (cJ, 1, .inr (.inl (vp_updL o4 ((0 : Int32)).toNatClampNeg r.toInt64)))) : Nat × va_E)]) := hD
    obtain ⟨o4_1, eo4_1, hf⟩ := wb_v hf
    rw [← eo4_1] at hP hD
    refine lv_goto (tgt := 19) hx hb dL_hour_12 (by decide) ?_
    refine lv_iconst (v := (0 : Int32)) hx hb dL_hour_19 (by decide) ?_
    refine W.widen (k := 1) (n := 6) (Nat.le_of_ble_eq_true rfl) (Nat.le_of_ble_eq_true rfl) ?_
    exact W.iret (v := (0 : Int32)) hx hb hr (fun t ht hW => by rw [← Option.some.inj hf]; exact ⟨⟨(0 : Int32), (), rfl, rfl, by rw [ht]; exact hP, va_K.moved hW.alike hK, hD⟩, hS.F ht⟩) hS.2.2 dL_hour_20

set_option maxHeartbeats 4000000 in
set_option maxRecDepth 100000 in
theorem cn_L_houseOf (l : Launch) (hlt : l.stackTraces = false) (D : va_G) (cB cI cZ cJ : ClassId) (N : Nat) (a0 : Nat → Nat) (I0 : Nat → Int32) (M0 : Nat → Nat → Int32) (x1 : Int32) (x2 : Int32) (x3 : Int32) (x4 : Int32) (b5 : Nat) (o5 : Nat → Int64) (sz : Nat) (R : Int32 × (Nat → Int32) × (Nat → Nat → Int32) × (Nat → Int64)) (hf : fL_houseOf N I0 M0 x1 x2 x3 x4 o5 = some R) : Met l yL_houseOf wyL_houseOf ({ frames := 8, cells := 1, slots := 6, locals := 164 }) (va_Pc [.ref (a0 0), .int x1, .int x2, .int x3, .int x4, .ref b5] (wb_preL D [(cB, .byte), (cI, .int), (cZ, .boolean), (cJ, .long)] ((wWX11 cB cI cZ a0 I0 M0) ++ [((b5, .inl (cJ, 1, .inr (.inl o5))) : Nat × va_E)]) sz)) (va_Qi (fun r (_ : Unit) => r = R.1) (fun _ t => wb_post D [(cB, .byte), (cI, .int), (cZ, .boolean), (cJ, .long)] (va_A ((wWX11 cB cI cZ a0 I0 M0) ++ [((b5, .inl (cJ, 1, .inr (.inl o5))) : Nat × va_E)]) sz) ((wWX11 cB cI cZ a0 R.2.1 R.2.2.1) ++ [((b5, .inl (cJ, 1, .inr (.inl R.2.2.2))) : Nat × va_E)]) t) (va_A ((wWX11 cB cI cZ a0 I0 M0) ++ [((b5, .inl (cJ, 1, .inr (.inl o5))) : Nat × va_E)]) sz)) 1 6 (va_A ((wWX11 cB cI cZ a0 I0 M0) ++ [((b5, .inl (cJ, 1, .inr (.inl o5))) : Nat × va_E)]) sz) := by
  refine va_MetW (cc := cL_houseOf) (maxL := 7) (ret := (some .int)) (hh := [(0, 14, 17, 19)]) pn_L rfl ?_
  intro p e s m args below meth c s₁ B hml hv
  obtain ⟨rfl, hsz, hP, hK, hD0, hX, hNc⟩ := hv
  have hx := B.exec
  have hb := B.bytes
  have hr := B.returns
  have hts := atoms_spec (ws := wyL_houseOf) B.pre
  have hown : s.vm.findClass RL = some m.cls := (findClass_of_methodNamed B.named :)
  have hlocks := B.notSynchronized
  have htb := vx_table (x := yL_houseOf) (hh := [(0, 14, 17, 19)]) B (hts (.codeWith yL_houseOf cL_houseOf 7 (some .int) [(0, 14, 17, 19)]) List.mem_cons_self)
  have hK3 : va_K D vwCl [(cB, .byte), (cI, .int), (cZ, .boolean)] s := hK.sub [0, 1, 2] rfl
  subst hsz
  have hD := hD0.self (sz := s.heap.size)
  generalize hAe : va_A ((wWX11 cB cI cZ a0 I0 M0) ++ [((b5, .inl (cJ, 1, .inr (.inl o5))) : Nat × va_E)]) s.heap.size = A at hD ⊢
  have hA : ∀ q : Nat, s.heap.size ≤ q → A q := fun q h => by rw [← hAe]; exact Or.inr h
  have hl := lv_entry ([.ref (a0 0), .int x1, .int x2, .int x3, .int x4, .ref b5]) (n := 7) (Nat.le_of_ble_eq_true rfl)
  rw [lg_entry_eq]
  generalize (lg_sl ([.ref (a0 0), .int x1, .int x2, .int x3, .int x4, .ref b5]) ++ List.replicate (7 - (lg_sl ([.ref (a0 0), .int x1, .int x2, .int x3, .int x4, .ref b5])).length) Slot.unset).toArray = ls at hl ⊢
  have hl : lv_has ls 7 [(0, .ref (a0 0)), (1, .int x1), (2, .int x2), (3, .int x3), (4, .int x4), (5, .ref b5)] := hl
  unfold fL_houseOf at hf
  obtain ⟨H, hHe⟩ : ∃ H : Heap, H = s.heap := ⟨_, rfl⟩
  obtain ⟨locs, hle⟩ : ∃ locs : List Loc, locs = [] := ⟨_, rfl⟩
  refine wb_start (H := H) (locs := locs) hHe hle ?_
  rw [← hHe] at hP hX
  have hS : va_S A s.heap H locs := by rw [hHe, hle]; exact va_S.rf
  rcases wb_hpi hf with ⟨k, hrx, hf⟩ | ⟨r, hr9, hf⟩
  · refine lv_aload hx hb dL_houseOf_0 (lv_at hl 5 rfl) ?_
    refine lv_iconst (v := (0 : Int32)) hx hb dL_houseOf_2 (by decide) ?_
    refine lv_aload_n hx hb dL_houseOf_3 rfl (lv_at hl 0 rfl) ?_
    refine lv_iload_n hx hb dL_houseOf_4 rfl (lv_at hl 1 rfl) ?_
    refine lv_iload_n hx hb dL_houseOf_5 rfl (lv_at hl 2 rfl) ?_
    refine lv_iload_n hx hb dL_houseOf_6 rfl (lv_at hl 3 rfl) ?_
    refine lv_iload hx hb dL_houseOf_7 (lv_at hl 4 rfl) ?_
    refine vx_calli (vx_runV (As := [.int x1, .int x2, .int x3, .int x4]) (rest := [.int (0 : Int32), .ref b5]) ⟨hx, hb, hml, hown, hts⟩ (ct_X11_houseOf l hlt D cB cI cZ N a0 I0 M0 x1 x2 x3 x4 H.size k hrx) (cwV 4 hts gyL_houseOf_X11_houseOf rfl rfl rfl cdX11_houseOf ⟨Nat.le_of_ble_eq_true rfl, Nat.le_of_ble_eq_true rfl⟩) (wb_preXV (wj_P1 (X := (wWX11 cB cI cZ a0 I0 M0)) hP) hK3 hX (wr_11 hK hP (q0 := 0) rfl)) rfl rfl hl.1 rfl (lv_room (Nat.le_of_ble_eq_true rfl)) dL_houseOf_9 ⟨Nat.le_of_ble_eq_true rfl, Nat.le_of_ble_eq_true rfl⟩) hS (fun q h1 h2 => absurd h1 (Nat.not_lt.mpr h2)) (fun q h => hA q (Nat.le_trans hS.1 h)) (fun q h1 h2 => absurd h1 (Nat.not_lt.mpr h2)) (fun E ce q9 u t H locs ht hvm hpx hB hz1 hk1 hS hq9 hv9 hc9 => ?_) (fun r9 u t H locs ht hvm hw hB hz1 hk1 hS => hw.elim)
    have hP : va_P D vwCl ((wWX11 cB cI cZ a0 I0 M0) ++ [((b5, .inl (cJ, 1, .inr (.inl o5))) : Nat × va_E)]) H := hP.kept (fun k q hq => hk1 q.1 (hP k q hq).lt (Nat.not_le.mpr (hP k q hq).lt))
    by_cases hk1 : k = 1
    · subst hk1
      have hE : E = wb_E1 := hB.trans rfl
      subst hE
      refine vx_catch hown [] ⟨0, 14, 17, 19⟩ [] (htb.trans rfl) (fun z hz => nomatch hz) (by decide) (by decide) (hts (.classLink RL 19 "java/util/NoSuchElementException") (List.mem_of_getElem? (i := 1) rfl)) (va_Nw.use rfl hX.2.2.2.1) hq9 hv9 hc9 ?_
      refine lv_astore (lv' := [(6, .ref q9), (0, .ref (a0 0)), (1, .int x1), (2, .int x2), (3, .int x3), (4, .int x4), (5, .ref b5)]) hx hb dL_houseOf_17 hl (by decide) rfl (fun ls hl => ?_)
      refine lv_iconst (v := (1 : Int32)) hx hb dL_houseOf_19 (by decide) ?_
      replace hf := wb_t rfl hf
      refine W.widen (k := 1) (n := 6) (Nat.le_of_ble_eq_true rfl) (Nat.le_of_ble_eq_true rfl) ?_
      exact W.iret (v := (1 : Int32)) hx hb hr (fun t ht hW => by rw [← Option.some.inj hf]; exact ⟨⟨(1 : Int32), (), rfl, rfl, by rw [ht]; exact hP, va_K.moved hW.alike hK, hD⟩, hS.F ht⟩) hS.2.2 dL_houseOf_20
    replace hf := wb_f hk1 hf
    exact absurd hf (fun h => nomatch h)
  · refine lv_aload hx hb dL_houseOf_0 (lv_at hl 5 rfl) ?_
    refine lv_iconst (v := (0 : Int32)) hx hb dL_houseOf_2 (by decide) ?_
    refine lv_aload_n hx hb dL_houseOf_3 rfl (lv_at hl 0 rfl) ?_
    refine lv_iload_n hx hb dL_houseOf_4 rfl (lv_at hl 1 rfl) ?_
    refine lv_iload_n hx hb dL_houseOf_5 rfl (lv_at hl 2 rfl) ?_
    refine lv_iload_n hx hb dL_houseOf_6 rfl (lv_at hl 3 rfl) ?_
    refine lv_iload hx hb dL_houseOf_7 (lv_at hl 4 rfl) ?_
    refine vp_callSi (W.runV (As := [.int x1, .int x2, .int x3, .int x4]) (rest := [.int (0 : Int32), .ref b5]) ⟨hx, hb, hml, hown, hts⟩ (cn_X11_houseOf l D cB cI cZ N a0 I0 M0 x1 x2 x3 x4 r hr9) (cwV 4 hts gyL_houseOf_X11_houseOf rfl rfl rfl cdX11_houseOf ⟨Nat.le_of_ble_eq_true rfl, Nat.le_of_ble_eq_true rfl⟩) (wb_preV (wj_P1 (X := (wWX11 cB cI cZ a0 I0 M0)) hP) hK3 (wr_11 hK hP (q0 := 0) rfl)) rfl rfl hl.1 rfl (lv_room (Nat.le_of_ble_eq_true rfl)) dL_houseOf_9 ⟨Nat.le_of_ble_eq_true rfl, Nat.le_of_ble_eq_true rfl⟩) (fun r9 e9 => ?_)
    rw [e9]
    refine lv_i2l hx hb dL_houseOf_12 rfl ?_
    refine va_last hx hb hK hP hD hS 52 3 rfl rfl (show ¬ ((0 : Int32) < 0 ∨ 1 ≤ (0 : Int32).toNatClampNeg) from by decide) dL_houseOf_13 (fun H locs hP hD hS => ?_)
    have hP : va_P D vwCl ((wWX11 cB cI cZ a0 I0 M0) ++ [((b5, .inl (cJ, 1, .inr (.inl (vp_updL o5 ((0 : Int32)).toNatClampNeg r.toInt64)))) : Nat × va_E)]) H := hP
    have hD : va_D A ((wWX11 cB cI cZ a0 I0 M0) ++ [((b5, .inl (cJ, 1, .inr (.inl (vp_updL o5 ((0 : Int32)).toNatClampNeg r.toInt64)))) : Nat × va_E)]) := hD
    obtain ⟨o5_1, eo5_1, hf⟩ := wb_v hf
    rw [← eo5_1] at hP hD
    refine lv_goto (tgt := 21) hx hb dL_houseOf_14 (by decide) ?_
    refine lv_iconst (v := (0 : Int32)) hx hb dL_houseOf_21 (by decide) ?_
    refine W.widen (k := 1) (n := 6) (Nat.le_of_ble_eq_true rfl) (Nat.le_of_ble_eq_true rfl) ?_
    exact W.iret (v := (0 : Int32)) hx hb hr (fun t ht hW => by rw [← Option.some.inj hf]; exact ⟨⟨(0 : Int32), (), rfl, rfl, by rw [ht]; exact hP, va_K.moved hW.alike hK, hD⟩, hS.F ht⟩) hS.2.2 dL_houseOf_22

set_option maxHeartbeats 4000000 in
set_option maxRecDepth 100000 in
theorem cn_L_agree (l : Launch) (hlt : l.stackTraces = false) (D : va_G) (cB cI cZ cJ : ClassId) (N : Nat) (a0 : Nat → Nat) (I0 : Nat → Int32) (M0 : Nat → Nat → Int32) (x1 : Int32) (x2 : Int32) (x3 : Int32) (x4 : Int32) (b5 : Nat) (o5 : Nat → Int64) (sz : Nat) (R : Int32 × (Nat → Int32) × (Nat → Nat → Int32) × (Nat → Int64)) (hf : fL_agree N I0 M0 x1 x2 x3 x4 o5 = some R) : Met l yL_agree wyL_agree ({ frames := 9, cells := 1, slots := 6, locals := 186 }) (va_Pc [.ref (a0 0), .int x1, .int x2, .int x3, .int x4, .ref b5] (wb_preL D [(cB, .byte), (cI, .int), (cZ, .boolean), (cJ, .long)] ((wWX11 cB cI cZ a0 I0 M0) ++ [((b5, .inl (cJ, 1, .inr (.inl o5))) : Nat × va_E)]) sz)) (va_Qi (fun r (_ : Unit) => r = R.1) (fun _ t => wb_post D [(cB, .byte), (cI, .int), (cZ, .boolean), (cJ, .long)] (va_A ((wWX11 cB cI cZ a0 I0 M0) ++ [((b5, .inl (cJ, 1, .inr (.inl o5))) : Nat × va_E)]) sz) ((wWX11 cB cI cZ a0 R.2.1 R.2.2.1) ++ [((b5, .inl (cJ, 1, .inr (.inl R.2.2.2))) : Nat × va_E)]) t) (va_A ((wWX11 cB cI cZ a0 I0 M0) ++ [((b5, .inl (cJ, 1, .inr (.inl o5))) : Nat × va_E)]) sz)) 1 6 (va_A ((wWX11 cB cI cZ a0 I0 M0) ++ [((b5, .inl (cJ, 1, .inr (.inl o5))) : Nat × va_E)]) sz) := by
  refine va_MetW (cc := cL_agree) (maxL := 7) (ret := (some .int)) (hh := [(0, 14, 17, 19)]) pn_L rfl ?_
  intro p e s m args below meth c s₁ B hml hv
  obtain ⟨rfl, hsz, hP, hK, hD0, hX, hNc⟩ := hv
  have hx := B.exec
  have hb := B.bytes
  have hr := B.returns
  have hts := atoms_spec (ws := wyL_agree) B.pre
  have hown : s.vm.findClass RL = some m.cls := (findClass_of_methodNamed B.named :)
  have hlocks := B.notSynchronized
  have htb := vx_table (x := yL_agree) (hh := [(0, 14, 17, 19)]) B (hts (.codeWith yL_agree cL_agree 7 (some .int) [(0, 14, 17, 19)]) List.mem_cons_self)
  have hK3 : va_K D vwCl [(cB, .byte), (cI, .int), (cZ, .boolean)] s := hK.sub [0, 1, 2] rfl
  subst hsz
  have hD := hD0.self (sz := s.heap.size)
  generalize hAe : va_A ((wWX11 cB cI cZ a0 I0 M0) ++ [((b5, .inl (cJ, 1, .inr (.inl o5))) : Nat × va_E)]) s.heap.size = A at hD ⊢
  have hA : ∀ q : Nat, s.heap.size ≤ q → A q := fun q h => by rw [← hAe]; exact Or.inr h
  have hl := lv_entry ([.ref (a0 0), .int x1, .int x2, .int x3, .int x4, .ref b5]) (n := 7) (Nat.le_of_ble_eq_true rfl)
  rw [lg_entry_eq]
  generalize (lg_sl ([.ref (a0 0), .int x1, .int x2, .int x3, .int x4, .ref b5]) ++ List.replicate (7 - (lg_sl ([.ref (a0 0), .int x1, .int x2, .int x3, .int x4, .ref b5])).length) Slot.unset).toArray = ls at hl ⊢
  have hl : lv_has ls 7 [(0, .ref (a0 0)), (1, .int x1), (2, .int x2), (3, .int x3), (4, .int x4), (5, .ref b5)] := hl
  unfold fL_agree at hf
  obtain ⟨H, hHe⟩ : ∃ H : Heap, H = s.heap := ⟨_, rfl⟩
  obtain ⟨locs, hle⟩ : ∃ locs : List Loc, locs = [] := ⟨_, rfl⟩
  refine wb_start (H := H) (locs := locs) hHe hle ?_
  rw [← hHe] at hP hX
  have hS : va_S A s.heap H locs := by rw [hHe, hle]; exact va_S.rf
  rcases wb_hpi hf with ⟨k, hrx, hf⟩ | ⟨r, hr9, hf⟩
  · refine lv_aload hx hb dL_agree_0 (lv_at hl 5 rfl) ?_
    refine lv_iconst (v := (0 : Int32)) hx hb dL_agree_2 (by decide) ?_
    refine lv_aload_n hx hb dL_agree_3 rfl (lv_at hl 0 rfl) ?_
    refine lv_iload_n hx hb dL_agree_4 rfl (lv_at hl 1 rfl) ?_
    refine lv_iload_n hx hb dL_agree_5 rfl (lv_at hl 2 rfl) ?_
    refine lv_iload_n hx hb dL_agree_6 rfl (lv_at hl 3 rfl) ?_
    refine lv_iload hx hb dL_agree_7 (lv_at hl 4 rfl) ?_
    refine vx_calli (vx_runV (As := [.int x1, .int x2, .int x3, .int x4]) (rest := [.int (0 : Int32), .ref b5]) ⟨hx, hb, hml, hown, hts⟩ (ct_X11_agree l hlt D cB cI cZ N a0 I0 M0 x1 x2 x3 x4 H.size k hrx) (cwV 4 hts gyL_agree_X11_agree rfl rfl rfl cdX11_agree ⟨Nat.le_of_ble_eq_true rfl, Nat.le_of_ble_eq_true rfl⟩) (wb_preXV (wj_P1 (X := (wWX11 cB cI cZ a0 I0 M0)) hP) hK3 hX (wr_11 hK hP (q0 := 0) rfl)) rfl rfl hl.1 rfl (lv_room (Nat.le_of_ble_eq_true rfl)) dL_agree_9 ⟨Nat.le_of_ble_eq_true rfl, Nat.le_of_ble_eq_true rfl⟩) hS (fun q h1 h2 => absurd h1 (Nat.not_lt.mpr h2)) (fun q h => hA q (Nat.le_trans hS.1 h)) (fun q h1 h2 => absurd h1 (Nat.not_lt.mpr h2)) (fun E ce q9 u t H locs ht hvm hpx hB hz1 hk1 hS hq9 hv9 hc9 => ?_) (fun r9 u t H locs ht hvm hw hB hz1 hk1 hS => hw.elim)
    have hP : va_P D vwCl ((wWX11 cB cI cZ a0 I0 M0) ++ [((b5, .inl (cJ, 1, .inr (.inl o5))) : Nat × va_E)]) H := hP.kept (fun k q hq => hk1 q.1 (hP k q hq).lt (Nat.not_le.mpr (hP k q hq).lt))
    by_cases hk1 : k = 1
    · subst hk1
      have hE : E = wb_E1 := hB.trans rfl
      subst hE
      refine vx_catch hown [] ⟨0, 14, 17, 19⟩ [] (htb.trans rfl) (fun z hz => nomatch hz) (by decide) (by decide) (hts (.classLink RL 19 "java/util/NoSuchElementException") (List.mem_of_getElem? (i := 1) rfl)) (va_Nw.use rfl hX.2.2.2.1) hq9 hv9 hc9 ?_
      refine lv_astore (lv' := [(6, .ref q9), (0, .ref (a0 0)), (1, .int x1), (2, .int x2), (3, .int x3), (4, .int x4), (5, .ref b5)]) hx hb dL_agree_17 hl (by decide) rfl (fun ls hl => ?_)
      refine lv_iconst (v := (1 : Int32)) hx hb dL_agree_19 (by decide) ?_
      replace hf := wb_t rfl hf
      refine W.widen (k := 1) (n := 6) (Nat.le_of_ble_eq_true rfl) (Nat.le_of_ble_eq_true rfl) ?_
      exact W.iret (v := (1 : Int32)) hx hb hr (fun t ht hW => by rw [← Option.some.inj hf]; exact ⟨⟨(1 : Int32), (), rfl, rfl, by rw [ht]; exact hP, va_K.moved hW.alike hK, hD⟩, hS.F ht⟩) hS.2.2 dL_agree_20
    replace hf := wb_f hk1 hf
    exact absurd hf (fun h => nomatch h)
  · refine lv_aload hx hb dL_agree_0 (lv_at hl 5 rfl) ?_
    refine lv_iconst (v := (0 : Int32)) hx hb dL_agree_2 (by decide) ?_
    refine lv_aload_n hx hb dL_agree_3 rfl (lv_at hl 0 rfl) ?_
    refine lv_iload_n hx hb dL_agree_4 rfl (lv_at hl 1 rfl) ?_
    refine lv_iload_n hx hb dL_agree_5 rfl (lv_at hl 2 rfl) ?_
    refine lv_iload_n hx hb dL_agree_6 rfl (lv_at hl 3 rfl) ?_
    refine lv_iload hx hb dL_agree_7 (lv_at hl 4 rfl) ?_
    refine vp_callSi (W.runV (As := [.int x1, .int x2, .int x3, .int x4]) (rest := [.int (0 : Int32), .ref b5]) ⟨hx, hb, hml, hown, hts⟩ (cn_X11_agree l D cB cI cZ N a0 I0 M0 x1 x2 x3 x4 r hr9) (cwV 4 hts gyL_agree_X11_agree rfl rfl rfl cdX11_agree ⟨Nat.le_of_ble_eq_true rfl, Nat.le_of_ble_eq_true rfl⟩) (wb_preV (wj_P1 (X := (wWX11 cB cI cZ a0 I0 M0)) hP) hK3 (wr_11 hK hP (q0 := 0) rfl)) rfl rfl hl.1 rfl (lv_room (Nat.le_of_ble_eq_true rfl)) dL_agree_9 ⟨Nat.le_of_ble_eq_true rfl, Nat.le_of_ble_eq_true rfl⟩) (fun r9 e9 => ?_)
    rw [e9]
    refine lv_i2l hx hb dL_agree_12 rfl ?_
    refine va_last hx hb hK hP hD hS 52 3 rfl rfl (show ¬ ((0 : Int32) < 0 ∨ 1 ≤ (0 : Int32).toNatClampNeg) from by decide) dL_agree_13 (fun H locs hP hD hS => ?_)
    have hP : va_P D vwCl ((wWX11 cB cI cZ a0 I0 M0) ++ [((b5, .inl (cJ, 1, .inr (.inl (vp_updL o5 ((0 : Int32)).toNatClampNeg r.toInt64)))) : Nat × va_E)]) H := hP
    have hD : va_D A ((wWX11 cB cI cZ a0 I0 M0) ++ [((b5, .inl (cJ, 1, .inr (.inl (vp_updL o5 ((0 : Int32)).toNatClampNeg r.toInt64)))) : Nat × va_E)]) := hD
    obtain ⟨o5_1, eo5_1, hf⟩ := wb_v hf
    rw [← eo5_1] at hP hD
    refine lv_goto (tgt := 21) hx hb dL_agree_14 (by decide) ?_
    refine lv_iconst (v := (0 : Int32)) hx hb dL_agree_21 (by decide) ?_
    refine W.widen (k := 1) (n := 6) (Nat.le_of_ble_eq_true rfl) (Nat.le_of_ble_eq_true rfl) ?_
    exact W.iret (v := (0 : Int32)) hx hb hr (fun t ht hW => by rw [← Option.some.inj hf]; exact ⟨⟨(0 : Int32), (), rfl, rfl, by rw [ht]; exact hP, va_K.moved hW.alike hK, hD⟩, hS.F ht⟩) hS.2.2 dL_agree_22

set_option maxHeartbeats 4000000 in
set_option maxRecDepth 100000 in
theorem cn_L_lot (l : Launch) (hlt : l.stackTraces = false) (D : va_G) (cB cI cZ cJ : ClassId) (N : Nat) (a0 : Nat → Nat) (I0 : Nat → Int32) (M0 : Nat → Nat → Int32) (x1 : Int32) (x2 : Int32) (x3 : Int32) (b4 : Nat) (o4 : Nat → Int64) (sz : Nat) (R : Int32 × (Nat → Int32) × (Nat → Nat → Int32) × (Nat → Int64)) (hf : fL_lot N I0 M0 x1 x2 x3 o4 = some R) : Met l yL_lot wyL_lot ({ frames := 9, cells := 1, slots := 6, locals := 187 }) (va_Pc [.ref (a0 0), .int x1, .int x2, .int x3, .ref b4] (wb_preL D [(cB, .byte), (cI, .int), (cZ, .boolean), (cJ, .long)] ((wWX11 cB cI cZ a0 I0 M0) ++ [((b4, .inl (cJ, 1, .inr (.inl o4))) : Nat × va_E)]) sz)) (va_Qi (fun r (_ : Unit) => r = R.1) (fun _ t => wb_post D [(cB, .byte), (cI, .int), (cZ, .boolean), (cJ, .long)] (va_A ((wWX11 cB cI cZ a0 I0 M0) ++ [((b4, .inl (cJ, 1, .inr (.inl o4))) : Nat × va_E)]) sz) ((wWX11 cB cI cZ a0 R.2.1 R.2.2.1) ++ [((b4, .inl (cJ, 1, .inr (.inl R.2.2.2))) : Nat × va_E)]) t) (va_A ((wWX11 cB cI cZ a0 I0 M0) ++ [((b4, .inl (cJ, 1, .inr (.inl o4))) : Nat × va_E)]) sz)) 1 6 (va_A ((wWX11 cB cI cZ a0 I0 M0) ++ [((b4, .inl (cJ, 1, .inr (.inl o4))) : Nat × va_E)]) sz) := by
  refine va_MetW (cc := cL_lot) (maxL := 6) (ret := (some .int)) (hh := [(0, 12, 15, 19)]) pn_L rfl ?_
  intro p e s m args below meth c s₁ B hml hv
  obtain ⟨rfl, hsz, hP, hK, hD0, hX, hNc⟩ := hv
  have hx := B.exec
  have hb := B.bytes
  have hr := B.returns
  have hts := atoms_spec (ws := wyL_lot) B.pre
  have hown : s.vm.findClass RL = some m.cls := (findClass_of_methodNamed B.named :)
  have hlocks := B.notSynchronized
  have htb := vx_table (x := yL_lot) (hh := [(0, 12, 15, 19)]) B (hts (.codeWith yL_lot cL_lot 6 (some .int) [(0, 12, 15, 19)]) List.mem_cons_self)
  have hK3 : va_K D vwCl [(cB, .byte), (cI, .int), (cZ, .boolean)] s := hK.sub [0, 1, 2] rfl
  subst hsz
  have hD := hD0.self (sz := s.heap.size)
  generalize hAe : va_A ((wWX11 cB cI cZ a0 I0 M0) ++ [((b4, .inl (cJ, 1, .inr (.inl o4))) : Nat × va_E)]) s.heap.size = A at hD ⊢
  have hA : ∀ q : Nat, s.heap.size ≤ q → A q := fun q h => by rw [← hAe]; exact Or.inr h
  have hl := lv_entry ([.ref (a0 0), .int x1, .int x2, .int x3, .ref b4]) (n := 6) (Nat.le_of_ble_eq_true rfl)
  rw [lg_entry_eq]
  generalize (lg_sl ([.ref (a0 0), .int x1, .int x2, .int x3, .ref b4]) ++ List.replicate (6 - (lg_sl ([.ref (a0 0), .int x1, .int x2, .int x3, .ref b4])).length) Slot.unset).toArray = ls at hl ⊢
  have hl : lv_has ls 6 [(0, .ref (a0 0)), (1, .int x1), (2, .int x2), (3, .int x3), (4, .ref b4)] := hl
  unfold fL_lot at hf
  obtain ⟨H, hHe⟩ : ∃ H : Heap, H = s.heap := ⟨_, rfl⟩
  obtain ⟨locs, hle⟩ : ∃ locs : List Loc, locs = [] := ⟨_, rfl⟩
  refine wb_start (H := H) (locs := locs) hHe hle ?_
  rw [← hHe] at hP hX
  have hS : va_S A s.heap H locs := by rw [hHe, hle]; exact va_S.rf
  rcases wb_hpi hf with ⟨k, hrx, hf⟩ | ⟨r, hr9, hf⟩
  · refine lv_aload hx hb dL_lot_0 (lv_at hl 4 rfl) ?_
    refine lv_iconst (v := (0 : Int32)) hx hb dL_lot_2 (by decide) ?_
    refine lv_aload_n hx hb dL_lot_3 rfl (lv_at hl 0 rfl) ?_
    refine lv_iload_n hx hb dL_lot_4 rfl (lv_at hl 1 rfl) ?_
    refine lv_iload_n hx hb dL_lot_5 rfl (lv_at hl 2 rfl) ?_
    refine lv_iload_n hx hb dL_lot_6 rfl (lv_at hl 3 rfl) ?_
    refine vx_calli (vx_runV (As := [.int x1, .int x2, .int x3]) (rest := [.int (0 : Int32), .ref b4]) ⟨hx, hb, hml, hown, hts⟩ (ct_X11_lot l hlt D cB cI cZ N a0 I0 M0 x1 x2 x3 H.size k hrx) (cwV 3 hts gyL_lot_X11_lot rfl rfl rfl cdX11_lot ⟨Nat.le_of_ble_eq_true rfl, Nat.le_of_ble_eq_true rfl⟩) (wb_preXV (wj_P1 (X := (wWX11 cB cI cZ a0 I0 M0)) hP) hK3 hX (wr_11 hK hP (q0 := 0) rfl)) rfl rfl hl.1 rfl (lv_room (Nat.le_of_ble_eq_true rfl)) dL_lot_7 ⟨Nat.le_of_ble_eq_true rfl, Nat.le_of_ble_eq_true rfl⟩) hS (fun q h1 h2 => absurd h1 (Nat.not_lt.mpr h2)) (fun q h => hA q (Nat.le_trans hS.1 h)) (fun q h1 h2 => absurd h1 (Nat.not_lt.mpr h2)) (fun E ce q9 u t H locs ht hvm hpx hB hz1 hk1 hS hq9 hv9 hc9 => ?_) (fun r9 u t H locs ht hvm hw hB hz1 hk1 hS => hw.elim)
    have hP : va_P D vwCl ((wWX11 cB cI cZ a0 I0 M0) ++ [((b4, .inl (cJ, 1, .inr (.inl o4))) : Nat × va_E)]) H := hP.kept (fun k q hq => hk1 q.1 (hP k q hq).lt (Nat.not_le.mpr (hP k q hq).lt))
    by_cases hk1 : k = 1
    · subst hk1
      have hE : E = wb_E1 := hB.trans rfl
      subst hE
      refine vx_catch hown [] ⟨0, 12, 15, 19⟩ [] (htb.trans rfl) (fun z hz => nomatch hz) (by decide) (by decide) (hts (.classLink RL 19 "java/util/NoSuchElementException") (List.mem_of_getElem? (i := 1) rfl)) (va_Nw.use rfl hX.2.2.2.1) hq9 hv9 hc9 ?_
      refine lv_astore (lv' := [(5, .ref q9), (0, .ref (a0 0)), (1, .int x1), (2, .int x2), (3, .int x3), (4, .ref b4)]) hx hb dL_lot_15 hl (by decide) rfl (fun ls hl => ?_)
      refine lv_iconst (v := (1 : Int32)) hx hb dL_lot_17 (by decide) ?_
      replace hf := wb_t rfl hf
      refine W.widen (k := 1) (n := 6) (Nat.le_of_ble_eq_true rfl) (Nat.le_of_ble_eq_true rfl) ?_
      exact W.iret (v := (1 : Int32)) hx hb hr (fun t ht hW => by rw [← Option.some.inj hf]; exact ⟨⟨(1 : Int32), (), rfl, rfl, by rw [ht]; exact hP, va_K.moved hW.alike hK, hD⟩, hS.F ht⟩) hS.2.2 dL_lot_18
    replace hf := wb_f hk1 hf
    exact absurd hf (fun h => nomatch h)
  · refine lv_aload hx hb dL_lot_0 (lv_at hl 4 rfl) ?_
    refine lv_iconst (v := (0 : Int32)) hx hb dL_lot_2 (by decide) ?_
    refine lv_aload_n hx hb dL_lot_3 rfl (lv_at hl 0 rfl) ?_
    refine lv_iload_n hx hb dL_lot_4 rfl (lv_at hl 1 rfl) ?_
    refine lv_iload_n hx hb dL_lot_5 rfl (lv_at hl 2 rfl) ?_
    refine lv_iload_n hx hb dL_lot_6 rfl (lv_at hl 3 rfl) ?_
    refine vp_callSi (W.runV (As := [.int x1, .int x2, .int x3]) (rest := [.int (0 : Int32), .ref b4]) ⟨hx, hb, hml, hown, hts⟩ (cn_X11_lot l D cB cI cZ N a0 I0 M0 x1 x2 x3 r hr9) (cwV 3 hts gyL_lot_X11_lot rfl rfl rfl cdX11_lot ⟨Nat.le_of_ble_eq_true rfl, Nat.le_of_ble_eq_true rfl⟩) (wb_preV (wj_P1 (X := (wWX11 cB cI cZ a0 I0 M0)) hP) hK3 (wr_11 hK hP (q0 := 0) rfl)) rfl rfl hl.1 rfl (lv_room (Nat.le_of_ble_eq_true rfl)) dL_lot_7 ⟨Nat.le_of_ble_eq_true rfl, Nat.le_of_ble_eq_true rfl⟩) (fun r9 e9 => ?_)
    rw [e9]
    refine lv_i2l hx hb dL_lot_10 rfl ?_
    refine va_last hx hb hK hP hD hS 52 3 rfl rfl (show ¬ ((0 : Int32) < 0 ∨ 1 ≤ (0 : Int32).toNatClampNeg) from by decide) dL_lot_11 (fun H locs hP hD hS => ?_)
    have hP : va_P D vwCl ((wWX11 cB cI cZ a0 I0 M0) ++ [((b4, .inl (cJ, 1, .inr (.inl (vp_updL o4 ((0 : Int32)).toNatClampNeg r.toInt64)))) : Nat × va_E)]) H := hP
    have hD : va_D A ((wWX11 cB cI cZ a0 I0 M0) ++ [((b4, .inl (cJ, 1, .inr (.inl (vp_updL o4 ((0 : Int32)).toNatClampNeg r.toInt64)))) : Nat × va_E)]) := hD
    obtain ⟨o4_1, eo4_1, hf⟩ := wb_v hf
    rw [← eo4_1] at hP hD
    refine lv_goto (tgt := 19) hx hb dL_lot_12 (by decide) ?_
    refine lv_iconst (v := (0 : Int32)) hx hb dL_lot_19 (by decide) ?_
    refine W.widen (k := 1) (n := 6) (Nat.le_of_ble_eq_true rfl) (Nat.le_of_ble_eq_true rfl) ?_
    exact W.iret (v := (0 : Int32)) hx hb hr (fun t ht hW => by rw [← Option.some.inj hf]; exact ⟨⟨(0 : Int32), (), rfl, rfl, by rw [ht]; exact hP, va_K.moved hW.alike hK, hD⟩, hS.F ht⟩) hS.2.2 dL_lot_20

set_option maxHeartbeats 4000000 in
set_option maxRecDepth 100000 in
theorem cn_L_price (l : Launch) (hlt : l.stackTraces = false) (D : va_G) (cB cI cZ cJ : ClassId) (N : Nat) (a0 : Nat → Nat) (I0 : Nat → Int32) (M0 : Nat → Nat → Int32) (x1 : Int32) (x2 : Int32) (b3 : Nat) (o3 : Nat → Int64) (sz : Nat) (R : Int32 × (Nat → Int32) × (Nat → Nat → Int32) × (Nat → Int64)) (hf : fL_price N I0 M0 x1 x2 o3 = some R) : Met l yL_price wyL_price ({ frames := 8, cells := 1, slots := 6, locals := 162 }) (va_Pc [.ref (a0 0), .int x1, .int x2, .ref b3] (wb_preL D [(cB, .byte), (cI, .int), (cZ, .boolean), (cJ, .long)] ((wWX11 cB cI cZ a0 I0 M0) ++ [((b3, .inl (cJ, 1, .inr (.inl o3))) : Nat × va_E)]) sz)) (va_Qi (fun r (_ : Unit) => r = R.1) (fun _ t => wb_post D [(cB, .byte), (cI, .int), (cZ, .boolean), (cJ, .long)] (va_A ((wWX11 cB cI cZ a0 I0 M0) ++ [((b3, .inl (cJ, 1, .inr (.inl o3))) : Nat × va_E)]) sz) ((wWX11 cB cI cZ a0 R.2.1 R.2.2.1) ++ [((b3, .inl (cJ, 1, .inr (.inl R.2.2.2))) : Nat × va_E)]) t) (va_A ((wWX11 cB cI cZ a0 I0 M0) ++ [((b3, .inl (cJ, 1, .inr (.inl o3))) : Nat × va_E)]) sz)) 1 6 (va_A ((wWX11 cB cI cZ a0 I0 M0) ++ [((b3, .inl (cJ, 1, .inr (.inl o3))) : Nat × va_E)]) sz) := by
  refine va_MetW (cc := cL_price) (maxL := 5) (ret := (some .int)) (hh := [(0, 10, 13, 19)]) pn_L rfl ?_
  intro p e s m args below meth c s₁ B hml hv
  obtain ⟨rfl, hsz, hP, hK, hD0, hX, hNc⟩ := hv
  have hx := B.exec
  have hb := B.bytes
  have hr := B.returns
  have hts := atoms_spec (ws := wyL_price) B.pre
  have hown : s.vm.findClass RL = some m.cls := (findClass_of_methodNamed B.named :)
  have hlocks := B.notSynchronized
  have htb := vx_table (x := yL_price) (hh := [(0, 10, 13, 19)]) B (hts (.codeWith yL_price cL_price 5 (some .int) [(0, 10, 13, 19)]) List.mem_cons_self)
  have hK3 : va_K D vwCl [(cB, .byte), (cI, .int), (cZ, .boolean)] s := hK.sub [0, 1, 2] rfl
  subst hsz
  have hD := hD0.self (sz := s.heap.size)
  generalize hAe : va_A ((wWX11 cB cI cZ a0 I0 M0) ++ [((b3, .inl (cJ, 1, .inr (.inl o3))) : Nat × va_E)]) s.heap.size = A at hD ⊢
  have hA : ∀ q : Nat, s.heap.size ≤ q → A q := fun q h => by rw [← hAe]; exact Or.inr h
  have hl := lv_entry ([.ref (a0 0), .int x1, .int x2, .ref b3]) (n := 5) (Nat.le_of_ble_eq_true rfl)
  rw [lg_entry_eq]
  generalize (lg_sl ([.ref (a0 0), .int x1, .int x2, .ref b3]) ++ List.replicate (5 - (lg_sl ([.ref (a0 0), .int x1, .int x2, .ref b3])).length) Slot.unset).toArray = ls at hl ⊢
  have hl : lv_has ls 5 [(0, .ref (a0 0)), (1, .int x1), (2, .int x2), (3, .ref b3)] := hl
  unfold fL_price at hf
  obtain ⟨H, hHe⟩ : ∃ H : Heap, H = s.heap := ⟨_, rfl⟩
  obtain ⟨locs, hle⟩ : ∃ locs : List Loc, locs = [] := ⟨_, rfl⟩
  refine wb_start (H := H) (locs := locs) hHe hle ?_
  rw [← hHe] at hP hX
  have hS : va_S A s.heap H locs := by rw [hHe, hle]; exact va_S.rf
  rcases wb_hpi hf with ⟨k, hrx, hf⟩ | ⟨r, hr9, hf⟩
  · refine lv_aload_n hx hb dL_price_0 rfl (lv_at hl 3 rfl) ?_
    refine lv_iconst (v := (0 : Int32)) hx hb dL_price_1 (by decide) ?_
    refine lv_aload_n hx hb dL_price_2 rfl (lv_at hl 0 rfl) ?_
    refine lv_iload_n hx hb dL_price_3 rfl (lv_at hl 1 rfl) ?_
    refine lv_iload_n hx hb dL_price_4 rfl (lv_at hl 2 rfl) ?_
    refine vx_calli (vx_runV (As := [.int x1, .int x2]) (rest := [.int (0 : Int32), .ref b3]) ⟨hx, hb, hml, hown, hts⟩ (ct_X11_price l hlt D cB cI cZ N a0 I0 M0 x1 x2 H.size k hrx) (cwV 2 hts gyL_price_X11_price rfl rfl rfl cdX11_price ⟨Nat.le_of_ble_eq_true rfl, Nat.le_of_ble_eq_true rfl⟩) (wb_preXV (wj_P1 (X := (wWX11 cB cI cZ a0 I0 M0)) hP) hK3 hX (wr_11 hK hP (q0 := 0) rfl)) rfl rfl hl.1 rfl (lv_room (Nat.le_of_ble_eq_true rfl)) dL_price_5 ⟨Nat.le_of_ble_eq_true rfl, Nat.le_of_ble_eq_true rfl⟩) hS (fun q h1 h2 => absurd h1 (Nat.not_lt.mpr h2)) (fun q h => hA q (Nat.le_trans hS.1 h)) (fun q h1 h2 => absurd h1 (Nat.not_lt.mpr h2)) (fun E ce q9 u t H locs ht hvm hpx hB hz1 hk1 hS hq9 hv9 hc9 => ?_) (fun r9 u t H locs ht hvm hw hB hz1 hk1 hS => hw.elim)
    have hP : va_P D vwCl ((wWX11 cB cI cZ a0 I0 M0) ++ [((b3, .inl (cJ, 1, .inr (.inl o3))) : Nat × va_E)]) H := hP.kept (fun k q hq => hk1 q.1 (hP k q hq).lt (Nat.not_le.mpr (hP k q hq).lt))
    by_cases hk1 : k = 1
    · subst hk1
      have hE : E = wb_E1 := hB.trans rfl
      subst hE
      refine vx_catch hown [] ⟨0, 10, 13, 19⟩ [] (htb.trans rfl) (fun z hz => nomatch hz) (by decide) (by decide) (hts (.classLink RL 19 "java/util/NoSuchElementException") (List.mem_of_getElem? (i := 1) rfl)) (va_Nw.use rfl hX.2.2.2.1) hq9 hv9 hc9 ?_
      refine lv_astore (lv' := [(4, .ref q9), (0, .ref (a0 0)), (1, .int x1), (2, .int x2), (3, .ref b3)]) hx hb dL_price_13 hl (by decide) rfl (fun ls hl => ?_)
      refine lv_iconst (v := (1 : Int32)) hx hb dL_price_15 (by decide) ?_
      replace hf := wb_t rfl hf
      refine W.widen (k := 1) (n := 6) (Nat.le_of_ble_eq_true rfl) (Nat.le_of_ble_eq_true rfl) ?_
      exact W.iret (v := (1 : Int32)) hx hb hr (fun t ht hW => by rw [← Option.some.inj hf]; exact ⟨⟨(1 : Int32), (), rfl, rfl, by rw [ht]; exact hP, va_K.moved hW.alike hK, hD⟩, hS.F ht⟩) hS.2.2 dL_price_16
    replace hf := wb_f hk1 hf
    exact absurd hf (fun h => nomatch h)
  · refine lv_aload_n hx hb dL_price_0 rfl (lv_at hl 3 rfl) ?_
    refine lv_iconst (v := (0 : Int32)) hx hb dL_price_1 (by decide) ?_
    refine lv_aload_n hx hb dL_price_2 rfl (lv_at hl 0 rfl) ?_
    refine lv_iload_n hx hb dL_price_3 rfl (lv_at hl 1 rfl) ?_
    refine lv_iload_n hx hb dL_price_4 rfl (lv_at hl 2 rfl) ?_
    refine vp_callSi (W.runV (As := [.int x1, .int x2]) (rest := [.int (0 : Int32), .ref b3]) ⟨hx, hb, hml, hown, hts⟩ (cn_X11_price l D cB cI cZ N a0 I0 M0 x1 x2 r hr9) (cwV 2 hts gyL_price_X11_price rfl rfl rfl cdX11_price ⟨Nat.le_of_ble_eq_true rfl, Nat.le_of_ble_eq_true rfl⟩) (wb_preV (wj_P1 (X := (wWX11 cB cI cZ a0 I0 M0)) hP) hK3 (wr_11 hK hP (q0 := 0) rfl)) rfl rfl hl.1 rfl (lv_room (Nat.le_of_ble_eq_true rfl)) dL_price_5 ⟨Nat.le_of_ble_eq_true rfl, Nat.le_of_ble_eq_true rfl⟩) (fun r9 e9 => ?_)
    rw [e9]
    refine lv_i2l hx hb dL_price_8 rfl ?_
    refine va_last hx hb hK hP hD hS 52 3 rfl rfl (show ¬ ((0 : Int32) < 0 ∨ 1 ≤ (0 : Int32).toNatClampNeg) from by decide) dL_price_9 (fun H locs hP hD hS => ?_)
    have hP : va_P D vwCl ((wWX11 cB cI cZ a0 I0 M0) ++ [((b3, .inl (cJ, 1, .inr (.inl (vp_updL o3 ((0 : Int32)).toNatClampNeg r.toInt64)))) : Nat × va_E)]) H := hP
    have hD : va_D A ((wWX11 cB cI cZ a0 I0 M0) ++ [((b3, .inl (cJ, 1, .inr (.inl (vp_updL o3 ((0 : Int32)).toNatClampNeg r.toInt64)))) : Nat × va_E)]) := hD
    obtain ⟨o3_1, eo3_1, hf⟩ := wb_v hf
    rw [← eo3_1] at hP hD
    refine lv_goto (tgt := 17) hx hb dL_price_10 (by decide) ?_
    refine lv_iconst (v := (0 : Int32)) hx hb dL_price_17 (by decide) ?_
    refine W.widen (k := 1) (n := 6) (Nat.le_of_ble_eq_true rfl) (Nat.le_of_ble_eq_true rfl) ?_
    exact W.iret (v := (0 : Int32)) hx hb hr (fun t ht hW => by rw [← Option.some.inj hf]; exact ⟨⟨(0 : Int32), (), rfl, rfl, by rw [ht]; exact hP, va_K.moved hW.alike hK, hD⟩, hS.F ht⟩) hS.2.2 dL_price_18
