/-! the base of the generated rows: what a function's answer says step by step, worlds, calls -/
theorem wb_cp {a b c : Prop} {n0 n1 x y : Nat} (h : ¬ (a ∨ b ∨ c ∨ n0 < x ∨ n1 < y)) : ¬ a ∧ ¬ b ∧ ¬ c ∧ x ≤ n0 ∧ y ≤ n1 := by
  refine ⟨fun q => h (Or.inl q), fun q => h (Or.inr (Or.inl q)), fun q => h (Or.inr (Or.inr (Or.inl q))), ?_, ?_⟩
  · exact Nat.not_lt.mp fun q => h (Or.inr (Or.inr (Or.inr (Or.inl q))))
  · exact Nat.not_lt.mp fun q => h (Or.inr (Or.inr (Or.inr (Or.inr q))))
section WB1
variable {p : Program} {l : Launch} {e : Env} {R : Room} {s : State} {m : MethodId} {args : Array Value} {below : List Frame} {meth : Method} {c : Code} {H : Heap} {locs : List Loc} {cells slots : Nat} {Q : State → Prop}
theorem wb_topi {pc : Nat} {ls : Array Slot} {rest : List Value} {x y : Int32} (h : y = x) (k : W p l e R s m args below meth c H locs cells slots Q (F0 m pc ls (.int y :: rest))) : W p l e R s m args below meth c H locs cells slots Q (F0 m pc ls (.int x :: rest)) := h ▸ k
theorem wb_topl {pc : Nat} {ls : Array Slot} {rest : List Value} {x y : Int64} (h : y = x) (k : W p l e R s m args below meth c H locs cells slots Q (F0 m pc ls (.long y :: rest))) : W p l e R s m args below meth c H locs cells slots Q (F0 m pc ls (.long x :: rest)) := h ▸ k
theorem wb_start {g : JFrame} (hH : H = s.heap) (hl : locs = []) (k : W p l e R s m args below meth c H locs cells slots Q g) : W p l e R s m args below meth c s.heap [] cells slots Q g := by
  rw [hH, hl] at k
  exact k
end WB1
def wb_pre (D : va_G) (ty : List (ClassId × FieldType)) (ws : va_W) : State → Prop := fun U => va_P D vwCl ws U.heap ∧ va_K D vwCl ty U
def wb_preD (D : va_G) (ty : List (ClassId × FieldType)) (ws : va_W) (sz : Nat) : State → Prop := fun U => U.heap.size = sz ∧ va_P D vwCl ws U.heap ∧ va_K D vwCl ty U ∧ va_D (fun _ => True) ws
def wb_post (D : va_G) (ty : List (ClassId × FieldType)) (A : Nat → Prop) (ws : va_W) (t : State) : Prop := va_P D vwCl ws t.heap ∧ va_K D vwCl ty t ∧ va_D A ws
theorem wb_blind {av : List Value} {D : va_G} {ty : List (ClassId × FieldType)} {ws : va_W} : FrameBlind (va_Pc av (wb_pre D ty ws)) := by
  intro a U g mk q
  obtain ⟨q0, qP, qK⟩ := q
  exact ⟨q0, qP, va_K.moved (u := U) (U := U.calling g mk a) (Vm.Alike.refl U.vm) qK⟩
theorem wb_blindD {av : List Value} {D : va_G} {ty : List (ClassId × FieldType)} {ws : va_W} {sz : Nat} : FrameBlind (va_Pc av (wb_preD D ty ws sz)) := by
  intro a U g mk q
  obtain ⟨q0, q1, qP, qK, qD⟩ := q
  exact ⟨q0, q1, qP, va_K.moved (u := U) (U := U.calling g mk a) (Vm.Alike.refl U.vm) qK, qD⟩
theorem wb_preV {s : State} {H : Heap} {C : String} {b : Addr} {As : List Value} {D : va_G} {ty : List (ClassId × FieldType)} {ws : va_W} (hP : va_P D vwCl ws H) (hK : va_K D vwCl ty s) (hr : ∃ cellB : Cell, H[b]? = some cellB ∧ cellB.vm.isStatics = false ∧ s.vm.findClass C = some cellB.cls) : PreV s H C b (va_Pc (.ref b :: As) (wb_pre D ty ws)) As :=
  ⟨wb_blind, hr, fun U hU hW => ⟨rfl, by rw [hU]; exact hP, va_K.moved hW.alike hK⟩⟩
theorem wb_preS {s : State} {H : Heap} {As : List Value} {D : va_G} {ty : List (ClassId × FieldType)} {ws : va_W} (hP : va_P D vwCl ws H) (hK : va_K D vwCl ty s) : PreS s H (va_Pc As (wb_pre D ty ws)) As :=
  ⟨wb_blind, fun U hU hW => ⟨rfl, by rw [hU]; exact hP, va_K.moved hW.alike hK⟩⟩
theorem wb_preDV {A : Nat → Prop} {s : State} {H : Heap} {C : String} {b : Addr} {As : List Value} {D : va_G} {ty : List (ClassId × FieldType)} {ws : va_W} (hP : va_P D vwCl ws H) (hK : va_K D vwCl ty s) (hD : va_D A ws) (hr : ∃ cellB : Cell, H[b]? = some cellB ∧ cellB.vm.isStatics = false ∧ s.vm.findClass C = some cellB.cls) : PreV s H C b (va_Pc (.ref b :: As) (wb_preD D ty ws H.size)) As :=
  ⟨wb_blindD, hr, fun U hU hW => ⟨rfl, by rw [hU], by rw [hU]; exact hP, va_K.moved hW.alike hK, hD.weaken (fun _ _ _ _ => trivial)⟩⟩
theorem wb_preDS {A : Nat → Prop} {s : State} {H : Heap} {As : List Value} {D : va_G} {ty : List (ClassId × FieldType)} {ws : va_W} (hP : va_P D vwCl ws H) (hK : va_K D vwCl ty s) (hD : va_D A ws) : PreS s H (va_Pc As (wb_preD D ty ws H.size)) As :=
  ⟨wb_blindD, fun U hU hW => ⟨rfl, by rw [hU], by rw [hU]; exact hP, va_K.moved hW.alike hK, hD.weaken (fun _ _ _ _ => trivial)⟩⟩
theorem wb_fm {α : Type} : ∀ (is : List Nat) (ws : List α), (is.all fun i => Nat.blt i ws.length) = true → is.map (fun i => ws[i]?) = (is.filterMap (fun i => ws[i]?)).map some
  | [], _, _ => rfl
  | i :: is, ws, h => by
    rw [List.all_cons, Bool.and_eq_true] at h
    have hi : i < ws.length := Nat.blt_eq.mp h.1
    rw [List.map_cons, List.filterMap_cons, List.getElem?_eq_getElem hi, List.map_cons, wb_fm is ws h.2]
theorem wb_join {A0 : Nat → Prop} {D : va_G} {ty : List (ClassId × FieldType)} {ws wc w1 wf : va_W} {H H1 : Heap} {t : State} (hP : va_P D vwCl ws H) (hD : va_D A0 ws) (isC isR perm : List Nat) (hC : isC.map (fun i => ws[i]?) = wc.map some) (hR : (isR.all fun i => Nat.blt i ws.length) = true) (hn : va_nd isR = true) (hdis : ∀ i ∈ isR, i ∉ isC) (hpn : va_nd perm = true)
    (hp : perm.map (fun i => (isR.filterMap (fun i => ws[i]?) ++ w1)[i]?) = wf.map some) (hk : ∀ q : Nat, q < H.size → ¬ va_A wc H.size q → H1[q]? = H[q]?) (hF : ∀ q, va_A wc H.size q → A0 q) (ht : t.heap = H1) (hB : wb_post D ty (va_A wc H.size) w1 t) : va_P D vwCl wf H1 ∧ va_D A0 wf := by
  obtain ⟨hP1, -, hD1⟩ := hB
  rw [ht] at hP1
  obtain ⟨a, b⟩ := va_join hP hD isC isR hC (wb_fm isR ws hR) hn hdis hk hF hP1 hD1
  refine ⟨a.sub perm ?_, b.sub perm hpn hp⟩
  have h2 : (perm.map (fun i => (isR.filterMap (fun i => ws[i]?) ++ w1)[i]?)).filterMap id = (wf.map some).filterMap id := by rw [hp]
  rw [List.filterMap_map, List.filterMap_map] at h2
  rw [show (wf.filterMap (id ∘ some)) = wf from by rw [show (id ∘ (some : _ → Option (Nat × va_E))) = some from rfl]; exact List.filterMap_some] at h2
  exact h2
theorem wb_fitZ {v : Int32} (h : v &&& 1 = v) : fits .boolean (.int v) = true := by
  have h3 := pk_and v (m := 1) 1 (by decide)
  rw [h] at h3
  rcases Nat.mod_two_eq_zero_or_one v.toBitVec.toNat with q | q
  · rw [show 2 ^ 1 = 2 from rfl, q] at h3
    rw [h3]; decide
  · rw [show 2 ^ 1 = 2 from rfl, q] at h3
    rw [h3]; decide
theorem wb_ne {x : Int32} (k : Int32) (h : ¬ x = k) : x.toInt ≠ k.toInt := fun e => h (Int32.toInt_inj.mp e)
/-! constructors -/
def wb_nest (NW : List (String × Nat × MethodName × String)) (U : State) : Prop := ∀ w ∈ NW, va_Nw (.methodLinkNest w.1 w.2.1 w.2.2.1 w.2.2.2) U
theorem wb_nest.warm {NW : List (String × Nat × MethodName × String)} {s U : State} (hW : s.WarmedH U.vm) (h : wb_nest NW s) : wb_nest NW U := fun w hw => va_Nw.warmM hW (h w hw)
theorem wb_nest.same {NW : List (String × Nat × MethodName × String)} {u U : State} (e : u.vm = U.vm) (h : wb_nest NW u) : wb_nest NW U := fun w hw => va_Nw.same rfl e (h w hw)
def wb_preN (D : va_G) (ty : List (ClassId × FieldType)) (ws : va_W) (sz : Nat) (NW : List (String × Nat × MethodName × String)) : State → Prop := fun U => wb_preD D ty ws sz U ∧ wb_nest NW U
theorem wb_preNS {A : Nat → Prop} {s : State} {H : Heap} {As : List Value} {D : va_G} {ty : List (ClassId × FieldType)} {ws : va_W} {NW : List (String × Nat × MethodName × String)} (hP : va_P D vwCl ws H) (hK : va_K D vwCl ty s) (hD : va_D A ws) (hN : wb_nest NW s) : PreS s H (va_Pc As (wb_preN D ty ws H.size NW)) As := by
  obtain ⟨h1, h2⟩ := wb_preDS (As := As) hP hK hD
  refine ⟨fun a U g mk q => ?_, fun U hU hW => ⟨(h2 U hU hW).1, (h2 U hU hW).2, hN.warm hW⟩⟩
  obtain ⟨q0, q1, q2⟩ := q
  obtain ⟨q3, q4⟩ := wb_blindD (av := As) a U g mk ⟨q0, q1⟩
  exact ⟨q3, q4, q2.same rfl⟩
def wb_postN (D : va_G) (ty : List (ClassId × FieldType)) (A : Nat → Prop) (h0 : Nat) (w : (Nat → Nat) → va_W) (t : State) : Prop := ∃ a : Nat → Nat, a 0 = h0 ∧ wb_post D ty A (w a) t
section WB2
variable {p : Program} {l : Launch} {e : Env} {R : Room} {s : State} {m : MethodId} {args : Array Value} {below : List Frame} {meth : Method} {c : Code} {H : Heap} {locs : List Loc} {cells slots : Nat} {Q : State → Prop}
theorem wb_newa {cc : ByteArray} {pc : Nat} {ls : Array Slot} {rest : List Value} {D : va_G} {tys : List (ClassId × FieldType)} {ws : va_W} {A : Nat → Prop} {H0 : Heap} (hexec : p.tables.exec = Jvm.exec) (hb : c.code = cc) {atype : ArrayType} (harr : (Cond.arrayClass (newarray.typeOf atype)).before args s = true) {ty : FieldType} (hty : newarray.typeOf atype = ty) (hK : va_K D vwCl tys s) (hP : va_P D vwCl ws H) (hD : va_D A ws) (hS : va_S A H0 H locs) (hA : ∀ q, H0.size ≤ q → A q)
    {cT : ClassId} (t0 : Nat) (ht : tys[t0]? = some (cT, ty)) (hRA : ∀ cA : ClassId, va_RA s cA ty → va_RA s cT ty → cA = cT) {n : Int32} {N' : Nat} (ha : ∀ cA : ClassId, vp_cell cA (N', .inl (fun _ => (0 : Int32))) = arrV cA N' (fun _ => defaultValue ty)) (hn : ¬ n < 0) (hN : n.toNatClampNeg = N') (hbytes : N' * componentBytes ty ≤ 536870912) (hcells : cells + 1 ≤ R.cells) (hslots : slots + N' ≤ R.slots) (hdg : decode cc pc = .ok (.newarray atype, 2))
    (kk : ∀ (q : Nat) (H1 : Heap), va_P D vwCl (ws ++ [(q, .inl (cT, N', .inl (fun _ => (0 : Int32))))]) H1 → va_D A (ws ++ [(q, .inl (cT, N', .inl (fun _ => (0 : Int32))))]) → va_S A H0 H1 locs →
      W p l e R s m args below meth c H1 locs (cells + 1) (slots + N') Q (F0 m (pc + 2) ls (.ref q :: rest))) : W p l e R s m args below meth c H locs cells slots Q (F0 m pc ls (.int n :: rest)) := by
  refine va_newa hexec hb harr hty hK hP hD hS hA ha hn hN hbytes hcells hslots hdg (fun q cA H1 hK1 hP1 hD1 hS1 => ?_)
  have h1 := (hK1.2 tys.length (cA, ty) (by simp)).2
  have h2 := (hK.2 t0 (cT, ty) ht).2
  have h3 := hRA cA h1 h2
  subst h3
  exact kk q H1 hP1 hD1 hS1
end WB2
theorem wb_raI {s : State} {cT : ClassId} (cA : ClassId) (h1 : va_RA s cA .int) (h2 : va_RA s cT .int) : cA = cT := Option.some.inj (Eq.trans (Eq.symm (show s.vm.findClass _ = some cA from h1)) (show s.vm.findClass _ = some cT from h2))
theorem wb_raB {s : State} {cT : ClassId} (cA : ClassId) (h1 : va_RA s cA .byte) (h2 : va_RA s cT .byte) : cA = cT := Option.some.inj (Eq.trans (Eq.symm (show s.vm.findClass _ = some cA from h1)) (show s.vm.findClass _ = some cT from h2))
theorem wb_raZ {s : State} {cT : ClassId} (cA : ClassId) (h1 : va_RA s cA .boolean) (h2 : va_RA s cT .boolean) : cA = cT := Option.some.inj (Eq.trans (Eq.symm (show s.vm.findClass _ = some cA from h1)) (show s.vm.findClass _ = some cT from h2))
/-! methods that may throw: .inl k says which exception, .inr what is returned -/
def wb_E1 : String := "java/util/NoSuchElementException"
def wb_E2 : String := "java/lang/IllegalArgumentException"
def wb_ex (k : Nat) : String := if k = 1 then wb_E1 else wb_E2
def wb_dc : List MethodName := [Bundle.initS "java/lang/RuntimeException", Bundle.initS "java/lang/Exception", Bundle.initS Bundle.tN]
def wb_XH (H : Heap) (U : State) : Prop := (∀ x ∈ wb_dc, va_Nw (.declares x) U) ∧ vx_Zq Bundle.tN "UNASSIGNED_STACK" Bundle.steD (fun q => H.size ≤ q) U H ∧ vx_Zq Bundle.tN "SUPPRESSED_SENTINEL" Bundle.listD (fun q => H.size ≤ q) U H ∧ va_Nw (.castable wb_E1 wb_E1) U ∧ va_Nw (.castable wb_E2 wb_E2) U ∧ (∃ sa, vk_R RX11 371 "there is none such" sa U) ∧ (∃ sa, vk_R RX11 375 "not as the document tells" sa U) ∧ ∃ sa, vk_R RX11 159 "no such count" sa U
def wb_preX (D : va_G) (ty : List (ClassId × FieldType)) (ws : va_W) (sz : Nat) : State → Prop := fun U => U.heap.size = sz ∧ va_P D vwCl ws U.heap ∧ va_K D vwCl ty U ∧ wb_XH U.heap U
theorem wb_XH.warm {H : Heap} {s U : State} (hW : s.WarmedH U.vm) (h : wb_XH H s) : wb_XH H U := by
  obtain ⟨h0, h1, h2, h3, h4, ⟨a5, h5⟩, ⟨a6, h6⟩, ⟨a7, h7⟩⟩ := h
  exact ⟨fun x hx => va_Nw.warmD hW (h0 x hx), vx_Zq.moved hW.alike h1, vx_Zq.moved hW.alike h2, va_Nw.warmC hW h3, va_Nw.warmC hW h4, ⟨a5, h5.warm hW⟩, ⟨a6, h6.warm hW⟩, ⟨a7, h7.warm hW⟩⟩
theorem wb_XH.same {H : Heap} {u U : State} (e : u.vm = U.vm) (h : wb_XH H u) : wb_XH H U := by
  obtain ⟨h0, h1, h2, h3, h4, ⟨a5, h5⟩, ⟨a6, h6⟩, ⟨a7, h7⟩⟩ := h
  have hal : u.vm.Alike U.vm := by rw [e]; exact Vm.Alike.refl U.vm
  exact ⟨fun x hx => va_Nw.same rfl e (h0 x hx), vx_Zq.moved hal h1, vx_Zq.moved hal h2, va_Nw.same rfl e h3, va_Nw.same rfl e h4, ⟨a5, h5.same e.symm⟩, ⟨a6, h6.same e.symm⟩, ⟨a7, h7.same e.symm⟩⟩
theorem wb_blindX {av : List Value} {D : va_G} {ty : List (ClassId × FieldType)} {ws : va_W} {sz : Nat} : FrameBlind (va_Pc av (wb_preX D ty ws sz)) := by
  intro a U g mk q
  obtain ⟨q0, q1, qP, qK, qX⟩ := q
  exact ⟨q0, q1, qP, va_K.moved (u := U) (U := U.calling g mk a) (Vm.Alike.refl U.vm) qK, wb_XH.same (u := U) rfl qX⟩
theorem wb_preXS {s : State} {H : Heap} {As : List Value} {D : va_G} {ty : List (ClassId × FieldType)} {ws : va_W} (hP : va_P D vwCl ws H) (hK : va_K D vwCl ty s) (hX : wb_XH H s) : PreS s H (va_Pc As (wb_preX D ty ws H.size)) As :=
  ⟨wb_blindX, fun U hU hW => ⟨rfl, by rw [hU], by rw [hU]; exact hP, va_K.moved hW.alike hK, by rw [hU]; exact hX.warm hW⟩⟩
theorem wb_preXV {s : State} {H : Heap} {C : String} {b : Addr} {As : List Value} {D : va_G} {ty : List (ClassId × FieldType)} {ws : va_W} (hP : va_P D vwCl ws H) (hK : va_K D vwCl ty s) (hX : wb_XH H s) (hr : ∃ cellB : Cell, H[b]? = some cellB ∧ cellB.vm.isStatics = false ∧ s.vm.findClass C = some cellB.cls) : PreV s H C b (va_Pc (.ref b :: As) (wb_preX D ty ws H.size)) As :=
  ⟨wb_blindX, hr, fun U hU hW => ⟨rfl, by rw [hU], by rw [hU]; exact hP, va_K.moved hW.alike hK, by rw [hU]; exact hX.warm hW⟩⟩
section WB3
variable {p : Program} {l : Launch} {e : Env} {R : Room} {s : State} {m : MethodId} {args : Array Value} {below : List Frame} {meth : Method} {c : Code} {H : Heap} {locs : List Loc} {Qc : Array Value → State → Outcome → State → Prop} {ls : Array Slot}
theorem wb_thF (hS : va_S (fun q => s.heap.size ≤ q) s.heap H locs) {t : State} (hz : H.size ≤ t.heap.size) (hk : ∀ q : Nat, q < H.size → t.heap[q]? = H[q]?) : va_F (fun q => s.heap.size ≤ q) s t :=
  ⟨Nat.le_trans hS.1 hz, fun q h1 h2 => (hk q (Nat.lt_of_lt_of_le h1 hS.1)).trans (hS.2.1 q h1 h2)⟩
theorem wb_throwW1 {cc : ByteArray} {pc : Nat} (hexec : p.tables.exec = Jvm.exec) (hb : c.code = cc) (hlt : l.stackTraces = false) (hown : s.vm.findClass RX11 = some m.cls) (hk : (Cond.classLink RX11 157 "java/util/NoSuchElementException").before args s = true) (hini : (Cond.initialized "java/util/NoSuchElementException").before args s = true) (hat : ∀ w ∈ (vx_atS RX11 161 "java/util/NoSuchElementException" ["java/lang/RuntimeException", "java/lang/Exception"]).filter goodWord, w.before args s = true) (hX : wb_XH s.heap s) (hS : va_S (fun q => s.heap.size ≤ q) s.heap H locs) (hsize : ls.size = c.maxLocals)
    (d0 : decode cc pc = .ok (.new 157, 3)) (d3 : decode cc (pc + 3) = .ok (.dup, 1)) (d4 : decode cc (pc + 4) = .ok (.ldc_w 371, 3)) (d7 : decode cc (pc + 7) = .ok (.invokespecial 161, 3)) (d10 : decode cc (pc + 10) = .ok (.athrow, 1)) (hout : ∀ x ∈ c.exceptionTable.toList, covers x (pc + 10) = false) (hlocks : meth.locks = false) (hRf : 5 < R.frames) (hRl : 82 ≤ R.locals) (hRc : 1 ≤ R.cells) (hRs : 6 ≤ R.slots) :
    W p l e R s m args below meth c H locs 0 0 (vx_MQ below Qc (vx_X (fun _ : Unit => True) (fun E _ _ => E = wb_ex 1) (fun q => s.heap.size ≤ q)) args s 1 6 (fun q => s.heap.size ≤ q)) (F0 m pc ls []) := by
  obtain ⟨h0, h1, h2, h3, h4, ⟨a5, h5⟩, ⟨a6, h6⟩, ⟨a7, h7⟩⟩ := hX
  exact vx_throwSW hexec hb hlt hown (by decide +kernel) (by decide +kernel) hk hini h5 (vx_hat hat (B := [.castable wb_E1 wb_E1, .declares (Bundle.initS "java/lang/RuntimeException"), .declares (Bundle.initS "java/lang/Exception"), .declares (Bundle.initS Bundle.tN)]) (by decide +kernel) (vx_c (va_Nw.use rfl h3) (vx_c (va_Nw.use rfl (h0 _ (by decide +kernel))) (vx_c (va_Nw.use rfl (h0 _ (by decide +kernel))) (vx_c (va_Nw.use rfl (h0 _ (by decide +kernel))) vx_n))))) (by decide +kernel) h1 h2 hS hsize d0 d3 d4 d7 d10 hout hRf hRl hRc hRs hlocks (fun t ha hz hk => ⟨(), trivial, rfl, wb_thF hS hz hk⟩) hS.2.2 (Nat.le_refl 1) (Nat.le_refl 6)
theorem wb_throw1 {cc : ByteArray} {pc : Nat} (hexec : p.tables.exec = Jvm.exec) (hb : c.code = cc) (hlt : l.stackTraces = false) (hown : s.vm.findClass RX11 = some m.cls) (hk : (Cond.classLink RX11 157 "java/util/NoSuchElementException").before args s = true) (hini : (Cond.initialized "java/util/NoSuchElementException").before args s = true) (hat : ∀ w ∈ (vx_atS RX11 161 "java/util/NoSuchElementException" ["java/lang/RuntimeException", "java/lang/Exception"]).filter goodWord, w.before args s = true) (hX : wb_XH s.heap s) (hS : va_S (fun q => s.heap.size ≤ q) s.heap H locs) (hsize : ls.size = c.maxLocals)
    (d0 : decode cc pc = .ok (.new 157, 3)) (d3 : decode cc (pc + 3) = .ok (.dup, 1)) (d4 : decode cc (pc + 4) = .ok (.ldc 159, 2)) (d7 : decode cc (pc + 6) = .ok (.invokespecial 161, 3)) (d10 : decode cc (pc + 9) = .ok (.athrow, 1)) (hout : ∀ x ∈ c.exceptionTable.toList, covers x (pc + 9) = false) (hlocks : meth.locks = false) (hRf : 5 < R.frames) (hRl : 82 ≤ R.locals) (hRc : 1 ≤ R.cells) (hRs : 6 ≤ R.slots) :
    W p l e R s m args below meth c H locs 0 0 (vx_MQ below Qc (vx_X (fun _ : Unit => True) (fun E _ _ => E = wb_ex 1) (fun q => s.heap.size ≤ q)) args s 1 6 (fun q => s.heap.size ≤ q)) (F0 m pc ls []) := by
  obtain ⟨h0, h1, h2, h3, h4, ⟨a5, h5⟩, ⟨a6, h6⟩, ⟨a7, h7⟩⟩ := hX
  exact vx_throwS hexec hb hlt hown (by decide +kernel) (by decide +kernel) hk hini h7 (vx_hat hat (B := [.castable wb_E1 wb_E1, .declares (Bundle.initS "java/lang/RuntimeException"), .declares (Bundle.initS "java/lang/Exception"), .declares (Bundle.initS Bundle.tN)]) (by decide +kernel) (vx_c (va_Nw.use rfl h3) (vx_c (va_Nw.use rfl (h0 _ (by decide +kernel))) (vx_c (va_Nw.use rfl (h0 _ (by decide +kernel))) (vx_c (va_Nw.use rfl (h0 _ (by decide +kernel))) vx_n))))) (by decide +kernel) h1 h2 hS hsize d0 d3 d4 d7 d10 hout hRf hRl hRc hRs hlocks (fun t ha hz hk => ⟨(), trivial, rfl, wb_thF hS hz hk⟩) hS.2.2 (Nat.le_refl 1) (Nat.le_refl 6)
theorem wb_throwW2 {cc : ByteArray} {pc : Nat} (hexec : p.tables.exec = Jvm.exec) (hb : c.code = cc) (hlt : l.stackTraces = false) (hown : s.vm.findClass RX11 = some m.cls) (hk : (Cond.classLink RX11 373 "java/lang/IllegalArgumentException").before args s = true) (hini : (Cond.initialized "java/lang/IllegalArgumentException").before args s = true) (hat : ∀ w ∈ (vx_atS RX11 377 "java/lang/IllegalArgumentException" ["java/lang/RuntimeException", "java/lang/Exception"]).filter goodWord, w.before args s = true) (hX : wb_XH s.heap s) (hS : va_S (fun q => s.heap.size ≤ q) s.heap H locs) (hsize : ls.size = c.maxLocals)
    (d0 : decode cc pc = .ok (.new 373, 3)) (d3 : decode cc (pc + 3) = .ok (.dup, 1)) (d4 : decode cc (pc + 4) = .ok (.ldc_w 375, 3)) (d7 : decode cc (pc + 7) = .ok (.invokespecial 377, 3)) (d10 : decode cc (pc + 10) = .ok (.athrow, 1)) (hout : ∀ x ∈ c.exceptionTable.toList, covers x (pc + 10) = false) (hlocks : meth.locks = false) (hRf : 5 < R.frames) (hRl : 82 ≤ R.locals) (hRc : 1 ≤ R.cells) (hRs : 6 ≤ R.slots) :
    W p l e R s m args below meth c H locs 0 0 (vx_MQ below Qc (vx_X (fun _ : Unit => True) (fun E _ _ => E = wb_ex 2) (fun q => s.heap.size ≤ q)) args s 1 6 (fun q => s.heap.size ≤ q)) (F0 m pc ls []) := by
  obtain ⟨h0, h1, h2, h3, h4, ⟨a5, h5⟩, ⟨a6, h6⟩, ⟨a7, h7⟩⟩ := hX
  exact vx_throwSW hexec hb hlt hown (by decide +kernel) (by decide +kernel) hk hini h6 (vx_hat hat (B := [.castable wb_E2 wb_E2, .declares (Bundle.initS "java/lang/RuntimeException"), .declares (Bundle.initS "java/lang/Exception"), .declares (Bundle.initS Bundle.tN)]) (by decide +kernel) (vx_c (va_Nw.use rfl h4) (vx_c (va_Nw.use rfl (h0 _ (by decide +kernel))) (vx_c (va_Nw.use rfl (h0 _ (by decide +kernel))) (vx_c (va_Nw.use rfl (h0 _ (by decide +kernel))) vx_n))))) (by decide +kernel) h1 h2 hS hsize d0 d3 d4 d7 d10 hout hRf hRl hRc hRs hlocks (fun t ha hz hk => ⟨(), trivial, rfl, wb_thF hS hz hk⟩) hS.2.2 (Nat.le_refl 1) (Nat.le_refl 6)
end WB3
theorem wr_0 {s : State} {H : Heap} {D : va_G} {a q0 : Nat} {fs : List Value} {ws : va_W} {tys : List (ClassId × FieldType)} (hK : va_K D vwCl tys s) (hP : va_P D vwCl ws H) (he : ws[q0]? = some (a, .inr (0, fs))) : ∃ cell : Cell, H[a]? = some cell ∧ cell.vm.isStatics = false ∧ s.vm.findClass RX0 = some cell.cls := va_recv hK hP (ci := 0) rfl he
theorem wr_1 {s : State} {H : Heap} {D : va_G} {a q0 : Nat} {fs : List Value} {ws : va_W} {tys : List (ClassId × FieldType)} (hK : va_K D vwCl tys s) (hP : va_P D vwCl ws H) (he : ws[q0]? = some (a, .inr (1, fs))) : ∃ cell : Cell, H[a]? = some cell ∧ cell.vm.isStatics = false ∧ s.vm.findClass RX1 = some cell.cls := va_recv hK hP (ci := 1) rfl he
theorem wr_2 {s : State} {H : Heap} {D : va_G} {a q0 : Nat} {fs : List Value} {ws : va_W} {tys : List (ClassId × FieldType)} (hK : va_K D vwCl tys s) (hP : va_P D vwCl ws H) (he : ws[q0]? = some (a, .inr (2, fs))) : ∃ cell : Cell, H[a]? = some cell ∧ cell.vm.isStatics = false ∧ s.vm.findClass RX2 = some cell.cls := va_recv hK hP (ci := 2) rfl he
theorem wr_3 {s : State} {H : Heap} {D : va_G} {a q0 : Nat} {fs : List Value} {ws : va_W} {tys : List (ClassId × FieldType)} (hK : va_K D vwCl tys s) (hP : va_P D vwCl ws H) (he : ws[q0]? = some (a, .inr (3, fs))) : ∃ cell : Cell, H[a]? = some cell ∧ cell.vm.isStatics = false ∧ s.vm.findClass RX3 = some cell.cls := va_recv hK hP (ci := 3) rfl he
theorem wr_4 {s : State} {H : Heap} {D : va_G} {a q0 : Nat} {fs : List Value} {ws : va_W} {tys : List (ClassId × FieldType)} (hK : va_K D vwCl tys s) (hP : va_P D vwCl ws H) (he : ws[q0]? = some (a, .inr (4, fs))) : ∃ cell : Cell, H[a]? = some cell ∧ cell.vm.isStatics = false ∧ s.vm.findClass RX4 = some cell.cls := va_recv hK hP (ci := 4) rfl he
theorem wr_5 {s : State} {H : Heap} {D : va_G} {a q0 : Nat} {fs : List Value} {ws : va_W} {tys : List (ClassId × FieldType)} (hK : va_K D vwCl tys s) (hP : va_P D vwCl ws H) (he : ws[q0]? = some (a, .inr (5, fs))) : ∃ cell : Cell, H[a]? = some cell ∧ cell.vm.isStatics = false ∧ s.vm.findClass RX5 = some cell.cls := va_recv hK hP (ci := 5) rfl he
theorem wr_6 {s : State} {H : Heap} {D : va_G} {a q0 : Nat} {fs : List Value} {ws : va_W} {tys : List (ClassId × FieldType)} (hK : va_K D vwCl tys s) (hP : va_P D vwCl ws H) (he : ws[q0]? = some (a, .inr (6, fs))) : ∃ cell : Cell, H[a]? = some cell ∧ cell.vm.isStatics = false ∧ s.vm.findClass RX6 = some cell.cls := va_recv hK hP (ci := 6) rfl he
theorem wr_7 {s : State} {H : Heap} {D : va_G} {a q0 : Nat} {fs : List Value} {ws : va_W} {tys : List (ClassId × FieldType)} (hK : va_K D vwCl tys s) (hP : va_P D vwCl ws H) (he : ws[q0]? = some (a, .inr (7, fs))) : ∃ cell : Cell, H[a]? = some cell ∧ cell.vm.isStatics = false ∧ s.vm.findClass RX7 = some cell.cls := va_recv hK hP (ci := 7) rfl he
theorem wr_8 {s : State} {H : Heap} {D : va_G} {a q0 : Nat} {fs : List Value} {ws : va_W} {tys : List (ClassId × FieldType)} (hK : va_K D vwCl tys s) (hP : va_P D vwCl ws H) (he : ws[q0]? = some (a, .inr (8, fs))) : ∃ cell : Cell, H[a]? = some cell ∧ cell.vm.isStatics = false ∧ s.vm.findClass RX8 = some cell.cls := va_recv hK hP (ci := 8) rfl he
theorem wr_9 {s : State} {H : Heap} {D : va_G} {a q0 : Nat} {fs : List Value} {ws : va_W} {tys : List (ClassId × FieldType)} (hK : va_K D vwCl tys s) (hP : va_P D vwCl ws H) (he : ws[q0]? = some (a, .inr (9, fs))) : ∃ cell : Cell, H[a]? = some cell ∧ cell.vm.isStatics = false ∧ s.vm.findClass RX9 = some cell.cls := va_recv hK hP (ci := 9) rfl he
theorem wr_10 {s : State} {H : Heap} {D : va_G} {a q0 : Nat} {fs : List Value} {ws : va_W} {tys : List (ClassId × FieldType)} (hK : va_K D vwCl tys s) (hP : va_P D vwCl ws H) (he : ws[q0]? = some (a, .inr (10, fs))) : ∃ cell : Cell, H[a]? = some cell ∧ cell.vm.isStatics = false ∧ s.vm.findClass RX10 = some cell.cls := va_recv hK hP (ci := 10) rfl he
theorem wr_11 {s : State} {H : Heap} {D : va_G} {a q0 : Nat} {fs : List Value} {ws : va_W} {tys : List (ClassId × FieldType)} (hK : va_K D vwCl tys s) (hP : va_P D vwCl ws H) (he : ws[q0]? = some (a, .inr (11, fs))) : ∃ cell : Cell, H[a]? = some cell ∧ cell.vm.isStatics = false ∧ s.vm.findClass RX11 = some cell.cls := va_recv hK hP (ci := 11) rfl he
theorem wr_12 {s : State} {H : Heap} {D : va_G} {a q0 : Nat} {fs : List Value} {ws : va_W} {tys : List (ClassId × FieldType)} (hK : va_K D vwCl tys s) (hP : va_P D vwCl ws H) (he : ws[q0]? = some (a, .inr (12, fs))) : ∃ cell : Cell, H[a]? = some cell ∧ cell.vm.isStatics = false ∧ s.vm.findClass RX12 = some cell.cls := va_recv hK hP (ci := 12) rfl he
