/-! methods that are handed texts, or come to such -/
theorem zN_lt (x : Int32) : zN x < 19 := by
  unfold zN
  repeat (first | (split; decide) | decide)
def wb_preE (D : va_G) (ty : List (ClassId × FieldType)) (ws : va_W) (aK aV : Nat → Nat) : State → Prop := fun U => wb_pre D ty ws U ∧ wb_preZ aK aV U
def wb_preDE (D : va_G) (ty : List (ClassId × FieldType)) (ws : va_W) (sz : Nat) (aK aV : Nat → Nat) : State → Prop := fun U => wb_preD D ty ws sz U ∧ wb_Z aK aV (va_A ws sz) U U.heap
theorem wb_blindE {av : List Value} {D : va_G} {ty : List (ClassId × FieldType)} {ws : va_W} {aK aV : Nat → Nat} : FrameBlind (va_Pc av (wb_preE D ty ws aK aV)) := by
  intro a U g mk q
  obtain ⟨q0, q1, q2⟩ := q
  exact ⟨q0, (wb_blind (av := av) a U g mk ⟨q0, q1⟩).2, (wb_blindZ (av := av) a U g mk ⟨q0, q2⟩).2⟩
theorem wb_blindDE {av : List Value} {D : va_G} {ty : List (ClassId × FieldType)} {ws : va_W} {sz : Nat} {aK aV : Nat → Nat} : FrameBlind (va_Pc av (wb_preDE D ty ws sz aK aV)) := by
  intro a U g mk q
  obtain ⟨q0, q1, q2⟩ := q
  exact ⟨q0, (wb_blindD (av := av) a U g mk ⟨q0, q1⟩).2, wb_Z.same (u := U) (U := U.calling g mk a) rfl q2⟩
theorem wb_preEV {aK aV : Nat → Nat} {A : Nat → Prop} {s : State} {H : Heap} {locs : List Loc} {C : String} {b : Addr} {As : List Value} {D : va_G} {ty : List (ClassId × FieldType)} {ws : va_W} (hP : va_P D vwCl ws H) (hK : va_K D vwCl ty s) (hr : ∃ cellB : Cell, H[b]? = some cellB ∧ cellB.vm.isStatics = false ∧ s.vm.findClass C = some cellB.cls) (hZ : wb_Z aK aV A s s.heap) (hS : va_S A s.heap H locs) : PreV s H C b (va_Pc (.ref b :: As) (wb_preE D ty ws aK aV)) As := by
  obtain ⟨-, -, a3⟩ := wb_preV (As := As) hP hK hr
  obtain ⟨-, -, b3⟩ := wb_preZV (As := As) hZ hS hr
  exact ⟨wb_blindE, hr, fun U hU hW => ⟨rfl, (a3 U hU hW).2, (b3 U hU hW).2⟩⟩
theorem wb_preES {aK aV : Nat → Nat} {A : Nat → Prop} {s : State} {H : Heap} {locs : List Loc} {As : List Value} {D : va_G} {ty : List (ClassId × FieldType)} {ws : va_W} (hP : va_P D vwCl ws H) (hK : va_K D vwCl ty s) (hZ : wb_Z aK aV A s s.heap) (hS : va_S A s.heap H locs) : PreS s H (va_Pc As (wb_preE D ty ws aK aV)) As := by
  obtain ⟨-, a3⟩ := wb_preS (As := As) hP hK
  obtain ⟨-, b3⟩ := wb_preZS (As := As) hZ hS
  exact ⟨wb_blindE, fun U hU hW => ⟨rfl, (a3 U hU hW).2, (b3 U hU hW).2⟩⟩
theorem wb_preDEV {aK aV : Nat → Nat} {A A0 : Nat → Prop} {s : State} {H : Heap} {locs : List Loc} {C : String} {b : Addr} {As : List Value} {D : va_G} {ty : List (ClassId × FieldType)} {ws : va_W} (hP : va_P D vwCl ws H) (hK : va_K D vwCl ty s) (hD : va_D A0 ws) (hr : ∃ cellB : Cell, H[b]? = some cellB ∧ cellB.vm.isStatics = false ∧ s.vm.findClass C = some cellB.cls) (hZ : wb_Z aK aV A s s.heap) (hS : va_S A s.heap H locs) (hF : ∀ q, va_A ws H.size q → A q) : PreV s H C b (va_Pc (.ref b :: As) (wb_preDE D ty ws H.size aK aV)) As := by
  obtain ⟨-, -, a3⟩ := wb_preDV (As := As) hP hK hD hr
  exact ⟨wb_blindDE, hr, fun U hU hW => ⟨rfl, (a3 U hU hW).2, by rw [hU]; exact hZ.at hS.2.1 hF hW⟩⟩
theorem wb_preDES {aK aV : Nat → Nat} {A A0 : Nat → Prop} {s : State} {H : Heap} {locs : List Loc} {As : List Value} {D : va_G} {ty : List (ClassId × FieldType)} {ws : va_W} (hP : va_P D vwCl ws H) (hK : va_K D vwCl ty s) (hD : va_D A0 ws) (hZ : wb_Z aK aV A s s.heap) (hS : va_S A s.heap H locs) (hF : ∀ q, va_A ws H.size q → A q) : PreS s H (va_Pc As (wb_preDE D ty ws H.size aK aV)) As := by
  obtain ⟨-, a3⟩ := wb_preDS (As := As) hP hK hD
  exact ⟨wb_blindDE, fun U hU hW => ⟨rfl, (a3 U hU hW).2, by rw [hU]; exact hZ.at hS.2.1 hF hW⟩⟩
set_option maxHeartbeats 4000000 in
set_option maxRecDepth 100000 in
theorem cz_X9_nameOf (l : Launch) (aK aV : Nat → Nat) (x : Int32) : Met l yX9_nameOf wsX9_nameOf ({ frames := 0, cells := 0, slots := 0, locals := 0 }) (va_Pc [.int x] (wb_preZ aK aV)) (va_Sr (fun k => k = zN x) (fun k => .ref (aK k))) 0 0 (fun _ => False) := by
  refine Met.ofW (cc := cX9_nameOf) (maxL := 1) (ret := (some (.object "java/lang/String"))) (by decide) rfl ?_
  intro p e s m args below meth c s₁ B hml hv
  obtain ⟨rfl, hZ⟩ := hv
  have hx := B.exec
  have hb := B.bytes
  have hr := B.returns
  have hown : s.vm.findClass RX9 = some m.cls := (findClass_of_methodNamed B.named :)
  have hlocks := B.notSynchronized
  have hl := lv_entry ([.int x]) (n := 1) (Nat.le_of_ble_eq_true rfl)
  rw [lg_entry_eq]
  generalize (lg_sl ([.int x]) ++ List.replicate (1 - (lg_sl ([.int x])).length) Slot.unset).toArray = ls at hl ⊢
  have hl : lv_has ls 1 [(0, .int x)] := hl
  refine lv_iload_n hx hb dX9_nameOf_0 rfl (lv_at hl 0 rfl) ?_
  unfold zN
  by_cases hc0 : x = (0 : Int32)
  · rw [if_pos hc0]
    refine lv_tableIn (off := 47) (tgt := 48) hx hb dX9_nameOf_1 (by rw [hc0]; decide) (by rw [hc0]; decide) (by rw [hc0]; rfl) (by decide) ?_
    refine va_ldcS hx hb hown (hZ.2.1 10 (RX9, 76, "sun") rfl) dX9_nameOf_48 ?_
    exact W.aret hx hb hr (Or.inl ⟨_, rfl⟩) (Or.inr ⟨_, rfl⟩) (fun t ht hW => ⟨10, rfl, rfl, ht⟩) (fun _ h => nomatch h) dX9_nameOf_50
  rw [if_neg hc0]
  by_cases hc1 : x = (1 : Int32)
  · rw [if_pos hc1]
    refine lv_tableIn (off := 50) (tgt := 51) hx hb dX9_nameOf_1 (by rw [hc1]; decide) (by rw [hc1]; decide) (by rw [hc1]; rfl) (by decide) ?_
    refine va_ldcS hx hb hown (hZ.2.1 11 (RX9, 78, "moon") rfl) dX9_nameOf_51 ?_
    exact W.aret hx hb hr (Or.inl ⟨_, rfl⟩) (Or.inr ⟨_, rfl⟩) (fun t ht hW => ⟨11, rfl, rfl, ht⟩) (fun _ h => nomatch h) dX9_nameOf_53
  rw [if_neg hc1]
  by_cases hc2 : x = (2 : Int32)
  · rw [if_pos hc2]
    refine lv_tableIn (off := 53) (tgt := 54) hx hb dX9_nameOf_1 (by rw [hc2]; decide) (by rw [hc2]; decide) (by rw [hc2]; rfl) (by decide) ?_
    refine va_ldcS hx hb hown (hZ.2.1 12 (RX9, 80, "mercury") rfl) dX9_nameOf_54 ?_
    exact W.aret hx hb hr (Or.inl ⟨_, rfl⟩) (Or.inr ⟨_, rfl⟩) (fun t ht hW => ⟨12, rfl, rfl, ht⟩) (fun _ h => nomatch h) dX9_nameOf_56
  rw [if_neg hc2]
  by_cases hc3 : x = (3 : Int32)
  · rw [if_pos hc3]
    refine lv_tableIn (off := 56) (tgt := 57) hx hb dX9_nameOf_1 (by rw [hc3]; decide) (by rw [hc3]; decide) (by rw [hc3]; rfl) (by decide) ?_
    refine va_ldcS hx hb hown (hZ.2.1 13 (RX9, 82, "venus") rfl) dX9_nameOf_57 ?_
    exact W.aret hx hb hr (Or.inl ⟨_, rfl⟩) (Or.inr ⟨_, rfl⟩) (fun t ht hW => ⟨13, rfl, rfl, ht⟩) (fun _ h => nomatch h) dX9_nameOf_59
  rw [if_neg hc3]
  by_cases hc4 : x = (4 : Int32)
  · rw [if_pos hc4]
    refine lv_tableIn (off := 59) (tgt := 60) hx hb dX9_nameOf_1 (by rw [hc4]; decide) (by rw [hc4]; decide) (by rw [hc4]; rfl) (by decide) ?_
    refine va_ldcS hx hb hown (hZ.2.1 14 (RX9, 84, "mars") rfl) dX9_nameOf_60 ?_
    exact W.aret hx hb hr (Or.inl ⟨_, rfl⟩) (Or.inr ⟨_, rfl⟩) (fun t ht hW => ⟨14, rfl, rfl, ht⟩) (fun _ h => nomatch h) dX9_nameOf_62
  rw [if_neg hc4]
  by_cases hc5 : x = (5 : Int32)
  · rw [if_pos hc5]
    refine lv_tableIn (off := 62) (tgt := 63) hx hb dX9_nameOf_1 (by rw [hc5]; decide) (by rw [hc5]; decide) (by rw [hc5]; rfl) (by decide) ?_
    refine va_ldcS hx hb hown (hZ.2.1 15 (RX9, 86, "jupiter") rfl) dX9_nameOf_63 ?_
    exact W.aret hx hb hr (Or.inl ⟨_, rfl⟩) (Or.inr ⟨_, rfl⟩) (fun t ht hW => ⟨15, rfl, rfl, ht⟩) (fun _ h => nomatch h) dX9_nameOf_65
  rw [if_neg hc5]
  by_cases hc6 : x = (6 : Int32)
  · rw [if_pos hc6]
    refine lv_tableIn (off := 65) (tgt := 66) hx hb dX9_nameOf_1 (by rw [hc6]; decide) (by rw [hc6]; decide) (by rw [hc6]; rfl) (by decide) ?_
    refine va_ldcS hx hb hown (hZ.2.1 16 (RX9, 88, "saturn") rfl) dX9_nameOf_66 ?_
    exact W.aret hx hb hr (Or.inl ⟨_, rfl⟩) (Or.inr ⟨_, rfl⟩) (fun t ht hW => ⟨16, rfl, rfl, ht⟩) (fun _ h => nomatch h) dX9_nameOf_68
  rw [if_neg hc6]
  by_cases hc7 : x = (7 : Int32)
  · rw [if_pos hc7]
    refine lv_tableIn (off := 68) (tgt := 69) hx hb dX9_nameOf_1 (by rw [hc7]; decide) (by rw [hc7]; decide) (by rw [hc7]; rfl) (by decide) ?_
    refine va_ldcS hx hb hown (hZ.2.1 17 (RX9, 90, "rise") rfl) dX9_nameOf_69 ?_
    exact W.aret hx hb hr (Or.inl ⟨_, rfl⟩) (Or.inr ⟨_, rfl⟩) (fun t ht hW => ⟨17, rfl, rfl, ht⟩) (fun _ h => nomatch h) dX9_nameOf_71
  rw [if_neg hc7]
  refine lv_tableOut (tgt := 72) hx hb dX9_nameOf_1 (wb_sw8 hc0 hc1 hc2 hc3 hc4 hc5 hc6 hc7) (by decide) ?_
  refine va_ldcS hx hb hown (hZ.2.1 18 (RX9, 92, "lot") rfl) dX9_nameOf_72 ?_
  exact W.aret hx hb hr (Or.inl ⟨_, rfl⟩) (Or.inr ⟨_, rfl⟩) (fun t ht hW => ⟨18, rfl, rfl, ht⟩) (fun _ h => nomatch h) dX9_nameOf_74
