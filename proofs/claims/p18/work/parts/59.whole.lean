set_option maxHeartbeats 4000000 in
theorem law_exit {p : Program} {e : Env} {s : State} {m : MethodId} {below : List Frame} {meth : Method} {c : Code} (l : Launch) {b L : Nat} {xs : Nat → Int32} (C0 : lw_At p s m meth c b L xs) (a0 a1 : Nat → Nat) (b2 : Nat) (y4 : Int32) (hy : Int32.ofNat L - 6 < y4) (c0 s0 : Nat) (hc : c0 ≤ 601024) (hs : s0 ≤ 7293034) (H : Heap) (locs : List Loc) (hS : va_S (fun q : Nat => s.heap.size ≤ q) s.heap H locs) (ls : Array Slot) (hl : lv_has ls 7 [(0, .ref b), (1, .ref (a0 0)), (2, .ref (a1 0)), (3, .ref b2), (4, .int y4)]) : W p l e room_1 s m #[Value.ref b] below meth c H locs c0 s0 (lw_Z below #[Value.ref b] s) (F0 m 23 ls []) := by
  obtain ⟨hx, hb, hr, hml, hown, hts0, hXs, hbl, hlocks, hgv⟩ := id C0
  have hbA : ¬ (fun q : Nat => s.heap.size ≤ q) b := Nat.not_le.mpr hbl
  refine lv_iload hx hb dL_law_23 (lv_at hl 4 rfl) ?_
  refine lv_aload_n hx hb dL_law_25 rfl (lv_at hl 0 rfl) ?_
  refine va_slen hx hb hXs hbl hbA hS dL_law_26 ?_
  refine lv_bipush (v := (6 : Int32)) hx hb dL_law_27 (by decide) ?_
  refine lv_isub hx hb dL_law_29 ?_
  refine lv_icmp_gt (tgt := 2072) hx hb dL_law_30 (by decide) (fun hc9 => ?_) (fun hc9 => absurd hy hc9)
  refine lv_iconst (v := 1) hx hb dL_law_2072 (by decide) ?_
  refine va_forget (fun q hq => hS.2.2 q hq) ?_
  refine W.widen (k := 601024) (n := 7293034) hc hs ?_
  exact lw_ret hx hb hr hlocks dL_law_2073
theorem p38_len {L : Nat} (hL : L ≤ 3072) : (Int32.ofNat L - 6).toInt = (L : Int) - 6 := by
  have e1 : (Int32.ofNat L).toInt = (L : Int) := nI_toInt (by omega)
  have e6 : (6 : Int32).toInt = 6 := by decide
  have t := ia_sub (Int32.ofNat L) (6 : Int32) (by omega) (by omega)
  omega
theorem p38_six (y : Int32) (h : 0 ≤ y.toInt ∧ y.toInt ≤ 3072) : (y + 6).toInt = y.toInt + 6 := by
  have e6 : (6 : Int32).toInt = 6 := by decide
  have t := ia_add y (6 : Int32) (by omega) (by omega)
  omega
set_option maxHeartbeats 4000000 in
set_option maxRecDepth 100000 in
theorem law_loop {p : Program} {e : Env} {s : State} {m : MethodId} {below : List Frame} {meth : Method} {c : Code} (l : Launch) (hlt : l.stackTraces = false) (D : va_G) (cB cI cZ cJ : ClassId) {b L : Nat} {xs : Nat → Int32} (hL : L ≤ 3072) (C0 : lw_At p s m meth c b L xs) (hK : va_K D vwCl [(cB, .byte), (cI, .int), (cZ, .boolean), (cJ, .long)] s) (aK aV : Nat → Nat) (hZ0 : wb_Z aK aV (fun q : Nat => s.heap.size ≤ q) s s.heap) (a0 a1 : Nat → Nat) (b2 : Nat) : ∀ (n : Nat) (I0 : Nat → Int32) (M0 : Nat → Nat → Int32) (I1 : Nat → Int32) (L1 : Int64) (M1 : Nat → Nat → Int32) (o2 : Nat → Int64) (y4 : Int32) (c0 s0 : Nat) (H : Heap) (locs : List Loc) (ls : Array Slot), KX11 I0 M0 → KX12 I1 M1 → RQ I0 M0 I1 M1 → (0 ≤ y4.toInt ∧ y4.toInt ≤ 3072) → (L : Int) < y4.toInt + 6 * (n : Int) + 6 → c0 + n ≤ 601024 → s0 + 6 * n ≤ 7293034 → va_P D vwCl ((wWX11 cB cI cZ a0 I0 M0) ++ ((wWX12 cB cI cZ a1 I1 L1 M1) ++ [(b2, .inl (cJ, 1, .inr (.inl o2)))])) H → va_D (fun q : Nat => s.heap.size ≤ q) ((wWX11 cB cI cZ a0 I0 M0) ++ ((wWX12 cB cI cZ a1 I1 L1 M1) ++ [(b2, .inl (cJ, 1, .inr (.inl o2)))])) → va_S (fun q : Nat => s.heap.size ≤ q) s.heap H locs → lv_has ls 7 [(0, .ref b), (1, .ref (a0 0)), (2, .ref (a1 0)), (3, .ref b2), (4, .int y4)] → W p l e room_1 s m #[Value.ref b] below meth c H locs c0 s0 (lw_Z below #[Value.ref b] s) (F0 m 23 ls []) := by
  intro n
  induction n with
  | zero =>
    intro I0 M0 I1 L1 M1 o2 y4 c0 s0 H locs ls k0 k1 hrq hy hm hc hs hP hD hS hl
    refine law_exit l C0 a0 a1 b2 y4 ?_ c0 s0 hc hs H locs hS ls hl
    have e := p38_len hL
    exact Int32.lt_iff_toInt_lt.mpr (by omega)
  | succ n ih =>
    intro I0 M0 I1 L1 M1 o2 y4 c0 s0 H locs ls k0 k1 hrq hy hm hc hs hP hD hS hl
    have e := p38_len hL
    by_cases hq : Int32.ofNat L - 6 < y4
    · exact law_exit l C0 a0 a1 b2 y4 hq c0 s0 (by omega) (by omega) H locs hS ls hl
    · have hq2 : ¬ ((Int32.ofNat L - 6).toInt < y4.toInt) := fun h => hq (Int32.lt_iff_toInt_lt.mpr h)
      obtain ⟨hx, hb, hr, hml, hown, hts0, hXs, hbl, hlocks, hgv⟩ := id C0
      have hbA : ¬ (fun q : Nat => s.heap.size ≤ q) b := Nat.not_le.mpr hbl
      obtain ⟨hX0, hNc⟩ := law_X C0
      refine lv_iload hx hb dL_law_23 (lv_at hl 4 rfl) ?_
      refine lv_aload_n hx hb dL_law_25 rfl (lv_at hl 0 rfl) ?_
      refine va_slen hx hb hXs hbl hbA hS dL_law_26 ?_
      refine lv_bipush (v := (6 : Int32)) hx hb dL_law_27 (by decide) ?_
      refine lv_isub hx hb dL_law_29 ?_
      refine lv_icmp_gt (tgt := 2072) hx hb dL_law_30 (by decide) (fun hc9 => absurd hc9 hq) (fun hc9 => ?_)
      obtain ⟨R, hR, kR0, kR1, kRr⟩ := tl_body (N := 3000000000) (Nat.le_refl _) hL xs I0 M0 I1 L1 M1 o2 y4 ⟨hy.1, by omega⟩ k0 k1 hrq
      refine law_body l hlt D cB cI cZ cJ 3000000000 C0 hX0 hNc aK aV hZ0 a0 a1 b2 I0 M0 I1 L1 M1 o2 y4 c0 s0 (show c0 + 1 ≤ 601024 from by omega) (show s0 + 6 ≤ 7293034 from by omega) H locs hK hP hD hS ls hl R hR (fun H locs ls hP hD hS hl => ?_)
      refine lv_iinc (v := y4 + 6) (lv' := [(4, .int (y4 + 6)), (0, .ref b), (1, .ref (a0 0)), (2, .ref (a1 0)), (3, .ref b2)]) hx hb dL_law_2066 hl (k := 4) rfl rfl (by decide) rfl (fun ls hl => ?_)
      refine lv_goto (tgt := 23) hx hb dL_law_2069 (by decide) ?_
      have t6 := p38_six y4 hy
      exact ih R.1 R.2.1 R.2.2.1 R.2.2.2.1 R.2.2.2.2.1 R.2.2.2.2.2 (y4 + 6) (c0 + 1) (s0 + 6) H locs ls kR0 kR1 kRr ⟨by omega, by omega⟩ (by omega) (by omega) (by omega) hP hD hS (lv_sub hl [1, 2, 3, 4, 0] rfl)
theorem whole_start {p : Program} {e : Env} {s : State} {m : MethodId} {below : List Frame} {meth : Method} {c : Code} (l : Launch) (hlt : l.stackTraces = false) {b L : Nat} {xs : Nat → Int32} (hL : L ≤ 3072) (C0 : lw_At p s m meth c b L xs) : W p l e room_1 s m #[Value.ref b] below meth c s.heap [] 0 0 (lw_Z below #[Value.ref b] s) (entryFrame m ([Value.ref b] : List Value).toArray 7) := by
  obtain ⟨D, cB, cI, cZ, cJ, hK⟩ := law_known C0
  obtain ⟨aK, aV, hZ0⟩ := law_Z C0
  have e0 : (0 : Int32).toInt = 0 := by decide
  exact law_entry l D cB cI cZ cJ 3000000000 C0 hK (fx_I, fx_M) (wp_freshX 3000000000 (by decide)) (fm_I, 0, fm_M) (wp_freshM 3000000000 (by decide)) (fun a0 a1 b2 H locs ls hP hD hS hl => law_loop l hlt D cB cI cZ cJ hL C0 hK aK aV hZ0 a0 a1 b2 512 fx_I fx_M fm_I 0 fm_M (fun _ => 0) 0 91 11010 H locs ls KX11_fresh KX12_fresh RQ_fresh ⟨by omega, by omega⟩ (by omega) (by decide) (by decide) hP hD hS hl)
set_option maxHeartbeats 4000000 in
theorem lw_walk (l : Launch) (hlt : l.stackTraces = false) (b : Addr) (xs : List Int32) : MetFree l x (headSpec (Jvm.Cond.code x code maxLocals ret :: tables_1) room_1) (lw_P b xs) (fun _ _ _ _ _ => True) lw_Q := by
  refine MetFree.of_bodyS (code := code) (maxLocals := maxLocals) (ret := ret) (by decide) ?_ ?_
  · intro args s m h hn
    obtain ⟨meth, c, h1, h2, h3, h4, h5, h6, -, -⟩ := Cond.code_spec hn (atoms_spec (ws := Jvm.Cond.code x code maxLocals ret :: tables_1) h _ List.mem_cons_self)
    exact ⟨meth, c, h1, h2, h3, h4, h5, h6⟩
  · intro p e s m args below meth c s₁ B hml0 hP _
    obtain ⟨rfl, hx, hbd, hgv⟩ := hP
    obtain ⟨scr, harrAt, hlist, hof, hsmall⟩ := hx
    obtain ⟨hcb, hkn, -, -⟩ := State.arrayAt?_spec harrAt
    have hown : s.vm.findClass R_law = some m.cls := (findClass_of_methodNamed B.named :)
    have hts0 : ∀ c ∈ (Jvm.Cond.code x code maxLocals ret :: tables_1), c.before #[Value.ref b] s = true := atoms_spec (ws := Jvm.Cond.code x code maxLocals ret :: tables_1) B.pre
    have hts : ∀ w ∈ lw_tbl, w.before #[Value.ref b] s = true := k2_hts_sels lw_privs (fun w hw => hts0 w (List.mem_cons_of_mem _ hw)) lw_privs_ok
    have hml : c.maxLocals = 7 := B.maxLocals_eq (hts0 _ List.mem_cons_self)
    have X₀ : Stand p l e room_1 s m #[Value.ref b] below meth c s₁ [] 0 0 := Stand.of_body B
    have hh0 : s₁.heap = s.heap := by rw [B.state]; rfl
    have hsz : scr.slots.size = xs.length := by rw [← Array.length_toList, hlist, List.length_map]
    have hval : ∀ j : Nat, j < xs.length → scr.slots[j]? = some (.int (xs.getD j 0)) := fun j hj => by
      rw [← Array.getElem?_toList, hlist]
      simp [hj]
    have hbl : b < s.heap.size := (Array.getElem?_eq_some_iff.mp hcb).1
    have hX : va_X b xs.length (fun j => xs.getD j 0) s s.heap := ⟨scr, hcb, hof, hkn, hsz, hval⟩
    have K : W p l e room_1 s m #[Value.ref b] below meth c s₁.heap [] 0 0 (lw_Z below #[Value.ref b] s) (entryFrame m ([Value.ref b] : List Value).toArray 7) := by
      rw [hh0]
      exact whole_start l hlt hbd ⟨B.exec, B.bytes, B.returns, hml, hown, hts, hX, hbl, B.notSynchronized, hgv⟩
    obtain ⟨t, a1, o, b1, b2, b3⟩ := K s₁ rfl X₀
    exact ⟨t, o, a1, b1, b2, b3⟩
theorem lw_pre_spec {args : Array Value} {s : State} (h : (Jvm.Cond.and given_1 narrow_1).before args s = true) (hr : rest_1_c.before args s = true) : ∃ (b : Addr) (xs : List Int32), lw_P b xs args s := by
  have hs := flat_of_before _ h
  have hq := flat_of_before _ hr
  have hc : (Cond.count 1).before args s = true := hs _ (by decide +kernel)
  have harr : (Cond.arrayOf (.arg 0) .int).before args s = true := hs _ (by decide +kernel)
  have hle : (Cond.le (.length (.arg 0)) (.int 3072)).before args s = true := hs _ (by decide +kernel)
  have hlen : (Cond.isInt (.length (.arg 0))).before args s = true := hq _ (by decide +kernel)
  have hall : (Cond.all (.arg 0) (.isInt (.elem (.arg 0) (.index 0)))).before args s = true := hq _ (by decide +kernel)
  obtain ⟨b, xs, hb, hx⟩ := State.ints_of_pre rfl harr hlen hall
  have hsm : xs.length < 2 ^ 31 := hx.choose_spec.2.2.2
  have hev : (Term.length (.arg 0)).eval args s none [] s = some (.int xs.length.toInt32) := hx.length_eval hb
  have hv := Cond.le_ints hev (show (Term.int 3072).eval args s none [] s = some (.int 3072) from rfl)
  have hd : xs.length.toInt32 ≤ 3072 := by
    simpa [Cond.before, Cond.holds, hv] using hle
  have hN : xs.length ≤ 3072 := (Int32.ofNat_le_ofNat hsm (by decide)).mp (show Int32.ofNat xs.length ≤ Int32.ofNat 3072 from hd)
  exact ⟨b, xs, Cond.one_arg hc (show args[0]? = some (.ref b) from hb), hx, hN, h⟩
theorem lw_comes (l : Launch) (hlt : l.stackTraces = false) : Comes l x (Jvm.Cond.code x code maxLocals ret :: tables_1) room_1 (fun tb e args s => Calls_1 tb e args s ∧ rest_1 tb e args s ∧ Pre_1 tb e args s)
    (fun _ _ args s o t => lw_Q args s o t) := by
  intro p e ha hc hk s m args below hf hfit hheap happ hpre
  obtain ⟨b, xs, hP⟩ := lw_pre_spec hpre.2.2 hpre.2.1
  obtain ⟨k, o, h1, h2, h3, hQ⟩ := lw_walk l hlt b xs p e ha hc hk s m args below hf ((Spec.applies_iff_loose hf).mp happ).1 hP trivial
  exact ⟨k, o, h1, h2, h3, hQ⟩
theorem lw_frame {s t : State} {o : Outcome} {args : Array Value} (h : Framed s o t [] 601024 7293034) :
    Framed s o t (fieldLocs frame_1_writes args s ++ arrayLocs frame_1_arrays args s ++ staticLocs frame_1_statics s) 601024 7293034 := h
theorem lw_limb (L : Cond) (hL : ∀ (args : Array Value) (s t : State), L.after args s (.returned (some (.int 1))) t = true) :
    ArmFor flags0 classFile x code maxLocals ret World_1 tables_1 room_1 Calls_1 rest_1 Pre_1
      (fun tb e a s o t => postC L tb e a s o t ∧ Framed s o t (fieldLocs frame_1_writes a s ++ arrayLocs frame_1_arrays a s ++ staticLocs frame_1_statics s) 601024 7293034) := by
  intro l hfl _ _ p e ha hc hk s m args below hf hfit hheap happ hpre
  have hlt : l.stackTraces = false := by unfold Launch.stackTraces; rw [hfl]; decide +kernel
  obtain ⟨k, o, h1, h2, h3, rfl, hF⟩ := lw_comes l hlt p e ha hc hk s m args below hf hfit hheap happ hpre
  exact ⟨k, _, h1, h2, h3, hL args s _, lw_frame hF⟩
theorem i_vc : Claimed_1_1 ∧ Claimed_1_2 := ⟨lw_limb limb_1_1 (fun args s t => by simp [limb_1_1, Cond.after, Cond.holds, Cond.value]), lw_limb limb_1_2 (fun args s t => Cond.after_iff.mpr (by
  first | (rw [show limb_1_2 = Cond.eq .result (.int 1) from rfl, Cond.eq_ints (x := 1) (y := 1) rfl rfl]; simp; done) | (simp [limb_1_2, Cond.value, Term.eval]; done)))⟩
