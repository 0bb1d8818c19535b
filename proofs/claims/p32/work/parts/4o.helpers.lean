set_option maxHeartbeats 4000000 in
set_option maxRecDepth 100000 in
theorem cn_L_seek (l : Launch) (hlt : l.stackTraces = false) (D : va_G) (cB cI cZ cJ : ClassId) (N : Nat) (a0 : Nat → Nat) (I0 : Nat → Int32) (M0 : Nat → Nat → Int32) (x1 : Int32) (x2 : Int32) (x3 : Int32) (x4 : Int32) (sz : Nat) (R : Int32 × (Nat → Int32) × (Nat → Nat → Int32)) (hf : fL_seek N I0 M0 x1 x2 x3 x4 = some R) : Met l yL_seek wyL_seek ({ frames := 9, cells := 1, slots := 6, locals := 186 }) (va_Pc [.ref (a0 0), .int x1, .int x2, .int x3, .int x4] (wb_preL D [(cB, .byte), (cI, .int), (cZ, .boolean), (cJ, .long)] (wWX11 cB cI cZ a0 I0 M0) sz)) (va_Qi (fun r (_ : Unit) => r = R.1) (fun _ t => wb_post D [(cB, .byte), (cI, .int), (cZ, .boolean), (cJ, .long)] (va_A (wWX11 cB cI cZ a0 I0 M0) sz) (wWX11 cB cI cZ a0 R.2.1 R.2.2) t) (va_A (wWX11 cB cI cZ a0 I0 M0) sz)) 1 6 (va_A (wWX11 cB cI cZ a0 I0 M0) sz) := by
  refine va_MetW (cc := cL_seek) (maxL := 6) (ret := (some .int)) (hh := [(0, 9, 12, 19)]) pn_L rfl ?_
  intro p e s m args below meth c s₁ B hml hv
  obtain ⟨rfl, hsz, hP, hK, hD0, hX, hNc⟩ := hv
  have hx := B.exec
  have hb := B.bytes
  have hr := B.returns
  have hts := atoms_spec (ws := wyL_seek) B.pre
  have hown : s.vm.findClass RL = some m.cls := (findClass_of_methodNamed B.named :)
  have hlocks := B.notSynchronized
  have htb := vx_table (x := yL_seek) (hh := [(0, 9, 12, 19)]) B (hts (.codeWith yL_seek cL_seek 6 (some .int) [(0, 9, 12, 19)]) List.mem_cons_self)
  have hK3 : va_K D vwCl [(cB, .byte), (cI, .int), (cZ, .boolean)] s := hK.sub [0, 1, 2] rfl
  subst hsz
  have hD := hD0.self (sz := s.heap.size)
  generalize hAe : va_A (wWX11 cB cI cZ a0 I0 M0) s.heap.size = A at hD ⊢
  have hA : ∀ q : Nat, s.heap.size ≤ q → A q := fun q h => by rw [← hAe]; exact Or.inr h
  have hl := lv_entry ([.ref (a0 0), .int x1, .int x2, .int x3, .int x4]) (n := 6) (Nat.le_of_ble_eq_true rfl)
  rw [lg_entry_eq]
  generalize (lg_sl ([.ref (a0 0), .int x1, .int x2, .int x3, .int x4]) ++ List.replicate (6 - (lg_sl ([.ref (a0 0), .int x1, .int x2, .int x3, .int x4])).length) Slot.unset).toArray = ls at hl ⊢
  have hl : lv_has ls 6 [(0, .ref (a0 0)), (1, .int x1), (2, .int x2), (3, .int x3), (4, .int x4)] := hl
  unfold fL_seek at hf
  obtain ⟨H, hHe⟩ : ∃ H : Heap, H = s.heap := ⟨_, rfl⟩
  obtain ⟨locs, hle⟩ : ∃ locs : List Loc, locs = [] := ⟨_, rfl⟩
  refine wb_start (H := H) (locs := locs) hHe hle ?_
  rw [← hHe] at hP hX
  have hS : va_S A s.heap H locs := by rw [hHe, hle]; exact va_S.rf
  rcases wb_hpi hf with ⟨k, hrx, hf⟩ | ⟨r, hr9, hf⟩
  · refine lv_aload_n hx hb dL_seek_0 rfl (lv_at hl 0 rfl) ?_
    refine lv_iload_n hx hb dL_seek_1 rfl (lv_at hl 1 rfl) ?_
    refine lv_iload_n hx hb dL_seek_2 rfl (lv_at hl 2 rfl) ?_
    refine lv_iload_n hx hb dL_seek_3 rfl (lv_at hl 3 rfl) ?_
    refine lv_iload hx hb dL_seek_4 (lv_at hl 4 rfl) ?_
    refine vx_callv (vx_runV (As := [.int x1, .int x2, .int x3, .int x4]) (rest := []) ⟨hx, hb, hml, hown, hts⟩ (ct_X11_seek l hlt D cB cI cZ N a0 I0 M0 x1 x2 x3 x4 H.size k hrx) (cwV 4 hts gyL_seek_X11_seek rfl rfl rfl cdX11_seek ⟨Nat.le_of_ble_eq_true rfl, Nat.le_of_ble_eq_true rfl⟩) (wb_preXV hP hK3 hX (wr_11 hK hP (q0 := 0) rfl)) rfl rfl hl.1 rfl (lv_room (Nat.le_of_ble_eq_true rfl)) dL_seek_6 ⟨Nat.le_of_ble_eq_true rfl, Nat.le_of_ble_eq_true rfl⟩) hS (fun q h1 h2 => absurd h1 (Nat.not_lt.mpr h2)) (fun q h => hA q (Nat.le_trans hS.1 h)) (fun q h1 h2 => absurd h1 (Nat.not_lt.mpr h2)) (fun E ce q9 u t H locs ht hvm hpx hB hz1 hk1 hS hq9 hv9 hc9 => ?_) (fun u t H locs ht hvm hw hB hz1 hk1 hS => hw.elim)
    have hP : va_P D vwCl (wWX11 cB cI cZ a0 I0 M0) H := hP.kept (fun k q hq => hk1 q.1 (hP k q hq).lt (Nat.not_le.mpr (hP k q hq).lt))
    by_cases hk1 : k = 1
    · subst hk1
      have hE : E = wb_E1 := hB.trans rfl
      subst hE
      refine vx_catch hown [] ⟨0, 9, 12, 19⟩ [] (htb.trans rfl) (fun z hz => nomatch hz) (by decide) (by decide) (hts (.classLink RL 19 "java/util/NoSuchElementException") (List.mem_of_getElem? (i := 1) rfl)) (va_Nw.use rfl hX.2.2.2.1) hq9 hv9 hc9 ?_
      refine lv_astore (lv' := [(5, .ref q9), (0, .ref (a0 0)), (1, .int x1), (2, .int x2), (3, .int x3), (4, .int x4)]) hx hb dL_seek_12 hl (by decide) rfl (fun ls hl => ?_)
      refine lv_iconst (v := (1 : Int32)) hx hb dL_seek_14 (by decide) ?_
      replace hf := wb_t rfl hf
      refine W.widen (k := 1) (n := 6) (Nat.le_of_ble_eq_true rfl) (Nat.le_of_ble_eq_true rfl) ?_
      exact W.iret (v := (1 : Int32)) hx hb hr (fun t ht hW => by rw [← Option.some.inj hf]; exact ⟨⟨(1 : Int32), (), rfl, rfl, by rw [ht]; exact hP, va_K.moved hW.alike hK, hD⟩, hS.F ht⟩) hS.2.2 dL_seek_15
    replace hf := wb_f hk1 hf
    exact absurd hf (fun h => nomatch h)
  · refine lv_aload_n hx hb dL_seek_0 rfl (lv_at hl 0 rfl) ?_
    refine lv_iload_n hx hb dL_seek_1 rfl (lv_at hl 1 rfl) ?_
    refine lv_iload_n hx hb dL_seek_2 rfl (lv_at hl 2 rfl) ?_
    refine lv_iload_n hx hb dL_seek_3 rfl (lv_at hl 3 rfl) ?_
    refine lv_iload hx hb dL_seek_4 (lv_at hl 4 rfl) ?_
    have hPc := hP
    have hDc := hD
    have hFc := wj_F hDc hS hA
    refine va_callv (va_runV (As := [.int x1, .int x2, .int x3, .int x4]) (rest := []) ⟨hx, hb, hml, hown, hts⟩ (cn_X11_seek l D cB cI cZ N a0 I0 M0 x1 x2 x3 x4 H.size r hr9) (cwV 4 hts gyL_seek_X11_seek rfl rfl rfl cdX11_seek ⟨Nat.le_of_ble_eq_true rfl, Nat.le_of_ble_eq_true rfl⟩) (wb_preDV hPc hK3 hDc (wr_11 hK hP (q0 := 0) rfl)) rfl rfl hl.1 rfl (lv_room (Nat.le_of_ble_eq_true rfl)) dL_seek_6 ⟨Nat.le_of_ble_eq_true rfl, Nat.le_of_ble_eq_true rfl⟩) hS (fun q _ h => hFc q h) hFc (fun u t H locs ht hvm hw hB hz1 hk1 hS => ?_)
    obtain ⟨hP, hD⟩ := wj_0 hFc ht hB
    refine lv_goto (tgt := 16) hx hb dL_seek_9 (by decide) ?_
    refine lv_iconst (v := (0 : Int32)) hx hb dL_seek_16 (by decide) ?_
    refine W.widen (k := 1) (n := 6) (Nat.le_of_ble_eq_true rfl) (Nat.le_of_ble_eq_true rfl) ?_
    exact W.iret (v := (0 : Int32)) hx hb hr (fun t ht hW => by rw [← Option.some.inj hf]; exact ⟨⟨(0 : Int32), (), rfl, rfl, by rw [ht]; exact hP, va_K.moved hW.alike hK, hD⟩, hS.F ht⟩) hS.2.2 dL_seek_17

set_option maxHeartbeats 4000000 in
set_option maxRecDepth 100000 in
theorem cn_L_on (l : Launch) (hlt : l.stackTraces = false) (D : va_G) (cB cI cZ cJ : ClassId) (N : Nat) (a0 : Nat → Nat) (I0 : Nat → Int32) (M0 : Nat → Nat → Int32) (x1 : Int32) (b2 : Nat) (o2 : Nat → Int64) (sz : Nat) (R : Int32 × (Nat → Int32) × (Nat → Nat → Int32) × (Nat → Int64)) (hf : fL_on N I0 M0 x1 o2 = some R) : Met l yL_on wyL_on ({ frames := 8, cells := 1, slots := 6, locals := 189 }) (va_Pc [.ref (a0 0), .int x1, .ref b2] (wb_preL D [(cB, .byte), (cI, .int), (cZ, .boolean), (cJ, .long)] ((wWX11 cB cI cZ a0 I0 M0) ++ [((b2, .inl (cJ, 1, .inr (.inl o2))) : Nat × va_E)]) sz)) (va_Qi (fun r (_ : Unit) => r = R.1) (fun _ t => wb_post D [(cB, .byte), (cI, .int), (cZ, .boolean), (cJ, .long)] (va_A ((wWX11 cB cI cZ a0 I0 M0) ++ [((b2, .inl (cJ, 1, .inr (.inl o2))) : Nat × va_E)]) sz) ((wWX11 cB cI cZ a0 R.2.1 R.2.2.1) ++ [((b2, .inl (cJ, 1, .inr (.inl R.2.2.2))) : Nat × va_E)]) t) (va_A ((wWX11 cB cI cZ a0 I0 M0) ++ [((b2, .inl (cJ, 1, .inr (.inl o2))) : Nat × va_E)]) sz)) 1 6 (va_A ((wWX11 cB cI cZ a0 I0 M0) ++ [((b2, .inl (cJ, 1, .inr (.inl o2))) : Nat × va_E)]) sz) := by
  refine va_MetW (cc := cL_on) (maxL := 4) (ret := (some .int)) (hh := [(0, 9, 12, 19), (0, 9, 15, 13)]) pn_L rfl ?_
  intro p e s m args below meth c s₁ B hml hv
  obtain ⟨rfl, hsz, hP, hK, hD0, hX, hNc⟩ := hv
  have hx := B.exec
  have hb := B.bytes
  have hr := B.returns
  have hts := atoms_spec (ws := wyL_on) B.pre
  have hown : s.vm.findClass RL = some m.cls := (findClass_of_methodNamed B.named :)
  have hlocks := B.notSynchronized
  have htb := vx_table (x := yL_on) (hh := [(0, 9, 12, 19), (0, 9, 15, 13)]) B (hts (.codeWith yL_on cL_on 4 (some .int) [(0, 9, 12, 19), (0, 9, 15, 13)]) List.mem_cons_self)
  have hK3 : va_K D vwCl [(cB, .byte), (cI, .int), (cZ, .boolean)] s := hK.sub [0, 1, 2] rfl
  subst hsz
  have hD := hD0.self (sz := s.heap.size)
  generalize hAe : va_A ((wWX11 cB cI cZ a0 I0 M0) ++ [((b2, .inl (cJ, 1, .inr (.inl o2))) : Nat × va_E)]) s.heap.size = A at hD ⊢
  have hA : ∀ q : Nat, s.heap.size ≤ q → A q := fun q h => by rw [← hAe]; exact Or.inr h
  have hl := lv_entry ([.ref (a0 0), .int x1, .ref b2]) (n := 4) (Nat.le_of_ble_eq_true rfl)
  rw [lg_entry_eq]
  generalize (lg_sl ([.ref (a0 0), .int x1, .ref b2]) ++ List.replicate (4 - (lg_sl ([.ref (a0 0), .int x1, .ref b2])).length) Slot.unset).toArray = ls at hl ⊢
  have hl : lv_has ls 4 [(0, .ref (a0 0)), (1, .int x1), (2, .ref b2)] := hl
  unfold fL_on at hf
  obtain ⟨H, hHe⟩ : ∃ H : Heap, H = s.heap := ⟨_, rfl⟩
  obtain ⟨locs, hle⟩ : ∃ locs : List Loc, locs = [] := ⟨_, rfl⟩
  refine wb_start (H := H) (locs := locs) hHe hle ?_
  rw [← hHe] at hP hX
  have hS : va_S A s.heap H locs := by rw [hHe, hle]; exact va_S.rf
  rcases wb_hpi hf with ⟨k, hrx, hf⟩ | ⟨r, hr9, hf⟩
  · refine lv_aload_n hx hb dL_on_0 rfl (lv_at hl 2 rfl) ?_
    refine lv_iconst (v := (0 : Int32)) hx hb dL_on_1 (by decide) ?_
    refine lv_aload_n hx hb dL_on_2 rfl (lv_at hl 0 rfl) ?_
    refine lv_iload_n hx hb dL_on_3 rfl (lv_at hl 1 rfl) ?_
    refine vx_calli (vx_runV (As := [.int x1]) (rest := [.int (0 : Int32), .ref b2]) ⟨hx, hb, hml, hown, hts⟩ (ct_X11_on l hlt D cB cI cZ N a0 I0 M0 x1 H.size k hrx) (cwV 1 hts gyL_on_X11_on rfl rfl rfl cdX11_on ⟨Nat.le_of_ble_eq_true rfl, Nat.le_of_ble_eq_true rfl⟩) (wb_preXV (wj_P1 (X := (wWX11 cB cI cZ a0 I0 M0)) hP) hK3 hX (wr_11 hK hP (q0 := 0) rfl)) rfl rfl hl.1 rfl (lv_room (Nat.le_of_ble_eq_true rfl)) dL_on_4 ⟨Nat.le_of_ble_eq_true rfl, Nat.le_of_ble_eq_true rfl⟩) hS (fun q h1 h2 => absurd h1 (Nat.not_lt.mpr h2)) (fun q h => hA q (Nat.le_trans hS.1 h)) (fun q h1 h2 => absurd h1 (Nat.not_lt.mpr h2)) (fun E ce q9 u t H locs ht hvm hpx hB hz1 hk1 hS hq9 hv9 hc9 => ?_) (fun r9 u t H locs ht hvm hw hB hz1 hk1 hS => hw.elim)
    have hP : va_P D vwCl ((wWX11 cB cI cZ a0 I0 M0) ++ [((b2, .inl (cJ, 1, .inr (.inl o2))) : Nat × va_E)]) H := hP.kept (fun k q hq => hk1 q.1 (hP k q hq).lt (Nat.not_le.mpr (hP k q hq).lt))
    by_cases hk1 : k = 1
    · subst hk1
      have hE : E = wb_E1 := hB.trans rfl
      subst hE
      refine vx_catch hown [] ⟨0, 9, 12, 19⟩ [⟨0, 9, 15, 13⟩] (htb.trans rfl) (fun z hz => nomatch hz) (by decide) (by decide) (hts (.classLink RL 19 "java/util/NoSuchElementException") (List.mem_of_getElem? (i := 1) rfl)) (va_Nw.use rfl hX.2.2.2.1) hq9 hv9 hc9 ?_
      refine lv_astore_n (lv' := [(3, .ref q9), (0, .ref (a0 0)), (1, .int x1), (2, .ref b2)]) hx hb dL_on_12 rfl hl (by decide) rfl (fun ls hl => ?_)
      refine lv_iconst (v := (1 : Int32)) hx hb dL_on_13 (by decide) ?_
      replace hf := wb_t rfl hf
      refine W.widen (k := 1) (n := 6) (Nat.le_of_ble_eq_true rfl) (Nat.le_of_ble_eq_true rfl) ?_
      exact W.iret (v := (1 : Int32)) hx hb hr (fun t ht hW => by rw [← Option.some.inj hf]; exact ⟨⟨(1 : Int32), (), rfl, rfl, by rw [ht]; exact hP, va_K.moved hW.alike hK, hD⟩, hS.F ht⟩) hS.2.2 dL_on_14
    replace hf := wb_f hk1 hf
    by_cases hk2 : k = 2
    · subst hk2
      have hE : E = wb_E2 := hB.trans rfl
      subst hE
      refine vx_catch hown [⟨0, 9, 12, 19⟩] ⟨0, 9, 15, 13⟩ [] (htb.trans rfl) (fun z hz => by rw [List.mem_singleton.mp hz]; exact Or.inr ⟨by decide, "java/util/NoSuchElementException", (hts (.classLink RL 19 "java/util/NoSuchElementException") (List.mem_of_getElem? (i := 1) rfl)), hNc⟩) (by decide) (by decide) (hts (.classLink RL 13 "java/lang/IllegalArgumentException") (List.mem_of_getElem? (i := 2) rfl)) (va_Nw.use rfl hX.2.2.2.2.1) hq9 hv9 hc9 ?_
      refine lv_astore_n (lv' := [(3, .ref q9), (0, .ref (a0 0)), (1, .int x1), (2, .ref b2)]) hx hb dL_on_15 rfl hl (by decide) rfl (fun ls hl => ?_)
      refine lv_iconst (v := (2 : Int32)) hx hb dL_on_16 (by decide) ?_
      replace hf := wb_t rfl hf
      refine W.widen (k := 1) (n := 6) (Nat.le_of_ble_eq_true rfl) (Nat.le_of_ble_eq_true rfl) ?_
      exact W.iret (v := (2 : Int32)) hx hb hr (fun t ht hW => by rw [← Option.some.inj hf]; exact ⟨⟨(2 : Int32), (), rfl, rfl, by rw [ht]; exact hP, va_K.moved hW.alike hK, hD⟩, hS.F ht⟩) hS.2.2 dL_on_17
    replace hf := wb_f hk2 hf
    exact absurd hf (fun h => nomatch h)
  · refine lv_aload_n hx hb dL_on_0 rfl (lv_at hl 2 rfl) ?_
    refine lv_iconst (v := (0 : Int32)) hx hb dL_on_1 (by decide) ?_
    refine lv_aload_n hx hb dL_on_2 rfl (lv_at hl 0 rfl) ?_
    refine lv_iload_n hx hb dL_on_3 rfl (lv_at hl 1 rfl) ?_
    have hPc := wj_P1 hP
    have hDc := wj_D1 hD
    have hFc := wj_F hDc hS hA
    refine va_calli (va_runV (As := [.int x1]) (rest := [.int (0 : Int32), .ref b2]) ⟨hx, hb, hml, hown, hts⟩ (cn_X11_on l D cB cI cZ N a0 I0 M0 x1 H.size r hr9) (cwV 1 hts gyL_on_X11_on rfl rfl rfl cdX11_on ⟨Nat.le_of_ble_eq_true rfl, Nat.le_of_ble_eq_true rfl⟩) (wb_preDV hPc hK3 hDc (wr_11 hK hP (q0 := 0) rfl)) rfl rfl hl.1 rfl (lv_room (Nat.le_of_ble_eq_true rfl)) dL_on_4 ⟨Nat.le_of_ble_eq_true rfl, Nat.le_of_ble_eq_true rfl⟩) hS (fun q _ h => hFc q h) hFc (fun r9 u t H locs ht hvm hw hB hz1 hk1 hS => ?_)
    obtain ⟨hP, hD⟩ := wj_1 hP hD hk1 hFc ht hB
    rw [hw]
    refine lv_i2l hx hb dL_on_7 rfl ?_
    refine va_last hx hb hK hP hD hS 52 3 rfl rfl (show ¬ ((0 : Int32) < 0 ∨ 1 ≤ (0 : Int32).toNatClampNeg) from by decide) dL_on_8 (fun H locs hP hD hS => ?_)
    have hP : va_P D vwCl ((wWX11 cB cI cZ a0 r.2.1 r.2.2) ++ [((b2, .inl (cJ, 1, .inr (.inl (vp_updL o2 ((0 : Int32)).toNatClampNeg r.1.toInt64)))) : Nat × va_E)]) H := hP
    have hD : va_D A ((wWX11 cB cI cZ a0 r.2.1 r.2.2) ++ [((b2, .inl (cJ, 1, .inr (.inl (vp_updL o2 ((0 : Int32)).toNatClampNeg r.1.toInt64)))) : Nat × va_E)]) := hD
    obtain ⟨o2_1, eo2_1, hf⟩ := wb_v hf
    rw [← eo2_1] at hP hD
    refine lv_goto (tgt := 18) hx hb dL_on_9 (by decide) ?_
    refine lv_iconst (v := (0 : Int32)) hx hb dL_on_18 (by decide) ?_
    refine W.widen (k := 1) (n := 6) (Nat.le_of_ble_eq_true rfl) (Nat.le_of_ble_eq_true rfl) ?_
    exact W.iret (v := (0 : Int32)) hx hb hr (fun t ht hW => by rw [← Option.some.inj hf]; exact ⟨⟨(0 : Int32), (), rfl, rfl, by rw [ht]; exact hP, va_K.moved hW.alike hK, hD⟩, hS.F ht⟩) hS.2.2 dL_on_19

set_option maxHeartbeats 4000000 in
set_option maxRecDepth 100000 in
theorem cn_L_held (l : Launch) (hlt : l.stackTraces = false) (D : va_G) (cB cI cZ cJ : ClassId) (N : Nat) (a0 : Nat → Nat) (I0 : Nat → Int32) (M0 : Nat → Nat → Int32) (x1 : Int32) (b2 : Nat) (o2 : Nat → Int64) (sz : Nat) (R : Int32 × (Nat → Int32) × (Nat → Nat → Int32) × (Nat → Int64)) (hf : fL_held N I0 M0 x1 o2 = some R) : Met l yL_held wyL_held ({ frames := 8, cells := 1, slots := 6, locals := 162 }) (va_Pc [.ref (a0 0), .int x1, .ref b2] (wb_preL D [(cB, .byte), (cI, .int), (cZ, .boolean), (cJ, .long)] ((wWX11 cB cI cZ a0 I0 M0) ++ [((b2, .inl (cJ, 1, .inr (.inl o2))) : Nat × va_E)]) sz)) (va_Qi (fun r (_ : Unit) => r = R.1) (fun _ t => wb_post D [(cB, .byte), (cI, .int), (cZ, .boolean), (cJ, .long)] (va_A ((wWX11 cB cI cZ a0 I0 M0) ++ [((b2, .inl (cJ, 1, .inr (.inl o2))) : Nat × va_E)]) sz) ((wWX11 cB cI cZ a0 R.2.1 R.2.2.1) ++ [((b2, .inl (cJ, 1, .inr (.inl R.2.2.2))) : Nat × va_E)]) t) (va_A ((wWX11 cB cI cZ a0 I0 M0) ++ [((b2, .inl (cJ, 1, .inr (.inl o2))) : Nat × va_E)]) sz)) 1 6 (va_A ((wWX11 cB cI cZ a0 I0 M0) ++ [((b2, .inl (cJ, 1, .inr (.inl o2))) : Nat × va_E)]) sz) := by
  refine va_MetW (cc := cL_held) (maxL := 4) (ret := (some .int)) (hh := [(0, 9, 12, 19)]) pn_L rfl ?_
  intro p e s m args below meth c s₁ B hml hv
  obtain ⟨rfl, hsz, hP, hK, hD0, hX, hNc⟩ := hv
  have hx := B.exec
  have hb := B.bytes
  have hr := B.returns
  have hts := atoms_spec (ws := wyL_held) B.pre
  have hown : s.vm.findClass RL = some m.cls := (findClass_of_methodNamed B.named :)
  have hlocks := B.notSynchronized
  have htb := vx_table (x := yL_held) (hh := [(0, 9, 12, 19)]) B (hts (.codeWith yL_held cL_held 4 (some .int) [(0, 9, 12, 19)]) List.mem_cons_self)
  have hK3 : va_K D vwCl [(cB, .byte), (cI, .int), (cZ, .boolean)] s := hK.sub [0, 1, 2] rfl
  subst hsz
  have hD := hD0.self (sz := s.heap.size)
  generalize hAe : va_A ((wWX11 cB cI cZ a0 I0 M0) ++ [((b2, .inl (cJ, 1, .inr (.inl o2))) : Nat × va_E)]) s.heap.size = A at hD ⊢
  have hA : ∀ q : Nat, s.heap.size ≤ q → A q := fun q h => by rw [← hAe]; exact Or.inr h
  have hl := lv_entry ([.ref (a0 0), .int x1, .ref b2]) (n := 4) (Nat.le_of_ble_eq_true rfl)
  rw [lg_entry_eq]
  generalize (lg_sl ([.ref (a0 0), .int x1, .ref b2]) ++ List.replicate (4 - (lg_sl ([.ref (a0 0), .int x1, .ref b2])).length) Slot.unset).toArray = ls at hl ⊢
  have hl : lv_has ls 4 [(0, .ref (a0 0)), (1, .int x1), (2, .ref b2)] := hl
  unfold fL_held at hf
  obtain ⟨H, hHe⟩ : ∃ H : Heap, H = s.heap := ⟨_, rfl⟩
  obtain ⟨locs, hle⟩ : ∃ locs : List Loc, locs = [] := ⟨_, rfl⟩
  refine wb_start (H := H) (locs := locs) hHe hle ?_
  rw [← hHe] at hP hX
  have hS : va_S A s.heap H locs := by rw [hHe, hle]; exact va_S.rf
  rcases wb_hpi hf with ⟨k, hrx, hf⟩ | ⟨r, hr9, hf⟩
  · refine lv_aload_n hx hb dL_held_0 rfl (lv_at hl 2 rfl) ?_
    refine lv_iconst (v := (0 : Int32)) hx hb dL_held_1 (by decide) ?_
    refine lv_aload_n hx hb dL_held_2 rfl (lv_at hl 0 rfl) ?_
    refine lv_iload_n hx hb dL_held_3 rfl (lv_at hl 1 rfl) ?_
    refine vx_calli (vx_runV (As := [.int x1]) (rest := [.int (0 : Int32), .ref b2]) ⟨hx, hb, hml, hown, hts⟩ (ct_X11_held l hlt D cB cI cZ N a0 I0 M0 x1 H.size k hrx) (cwV 1 hts gyL_held_X11_held rfl rfl rfl cdX11_held ⟨Nat.le_of_ble_eq_true rfl, Nat.le_of_ble_eq_true rfl⟩) (wb_preXV (wj_P1 (X := (wWX11 cB cI cZ a0 I0 M0)) hP) hK3 hX (wr_11 hK hP (q0 := 0) rfl)) rfl rfl hl.1 rfl (lv_room (Nat.le_of_ble_eq_true rfl)) dL_held_4 ⟨Nat.le_of_ble_eq_true rfl, Nat.le_of_ble_eq_true rfl⟩) hS (fun q h1 h2 => absurd h1 (Nat.not_lt.mpr h2)) (fun q h => hA q (Nat.le_trans hS.1 h)) (fun q h1 h2 => absurd h1 (Nat.not_lt.mpr h2)) (fun E ce q9 u t H locs ht hvm hpx hB hz1 hk1 hS hq9 hv9 hc9 => ?_) (fun r9 u t H locs ht hvm hw hB hz1 hk1 hS => hw.elim)
    have hP : va_P D vwCl ((wWX11 cB cI cZ a0 I0 M0) ++ [((b2, .inl (cJ, 1, .inr (.inl o2))) : Nat × va_E)]) H := hP.kept (fun k q hq => hk1 q.1 (hP k q hq).lt (Nat.not_le.mpr (hP k q hq).lt))
    by_cases hk1 : k = 1
    · subst hk1
      have hE : E = wb_E1 := hB.trans rfl
      subst hE
      refine vx_catch hown [] ⟨0, 9, 12, 19⟩ [] (htb.trans rfl) (fun z hz => nomatch hz) (by decide) (by decide) (hts (.classLink RL 19 "java/util/NoSuchElementException") (List.mem_of_getElem? (i := 1) rfl)) (va_Nw.use rfl hX.2.2.2.1) hq9 hv9 hc9 ?_
      refine lv_astore_n (lv' := [(3, .ref q9), (0, .ref (a0 0)), (1, .int x1), (2, .ref b2)]) hx hb dL_held_12 rfl hl (by decide) rfl (fun ls hl => ?_)
      refine lv_iconst (v := (1 : Int32)) hx hb dL_held_13 (by decide) ?_
      replace hf := wb_t rfl hf
      refine W.widen (k := 1) (n := 6) (Nat.le_of_ble_eq_true rfl) (Nat.le_of_ble_eq_true rfl) ?_
      exact W.iret (v := (1 : Int32)) hx hb hr (fun t ht hW => by rw [← Option.some.inj hf]; exact ⟨⟨(1 : Int32), (), rfl, rfl, by rw [ht]; exact hP, va_K.moved hW.alike hK, hD⟩, hS.F ht⟩) hS.2.2 dL_held_14
    replace hf := wb_f hk1 hf
    exact absurd hf (fun h => nomatch h)
  · refine lv_aload_n hx hb dL_held_0 rfl (lv_at hl 2 rfl) ?_
    refine lv_iconst (v := (0 : Int32)) hx hb dL_held_1 (by decide) ?_
    refine lv_aload_n hx hb dL_held_2 rfl (lv_at hl 0 rfl) ?_
    refine lv_iload_n hx hb dL_held_3 rfl (lv_at hl 1 rfl) ?_
    refine vp_callSi (W.runV (As := [.int x1]) (rest := [.int (0 : Int32), .ref b2]) ⟨hx, hb, hml, hown, hts⟩ (cn_X11_held l D cB cI cZ N a0 I0 M0 x1 r hr9) (cwV 1 hts gyL_held_X11_held rfl rfl rfl cdX11_held ⟨Nat.le_of_ble_eq_true rfl, Nat.le_of_ble_eq_true rfl⟩) (wb_preV (wj_P1 (X := (wWX11 cB cI cZ a0 I0 M0)) hP) hK3 (wr_11 hK hP (q0 := 0) rfl)) rfl rfl hl.1 rfl (lv_room (Nat.le_of_ble_eq_true rfl)) dL_held_4 ⟨Nat.le_of_ble_eq_true rfl, Nat.le_of_ble_eq_true rfl⟩) (fun r9 e9 => ?_)
    rw [e9]
    refine lv_i2l hx hb dL_held_7 rfl ?_
    refine va_last hx hb hK hP hD hS 52 3 rfl rfl (show ¬ ((0 : Int32) < 0 ∨ 1 ≤ (0 : Int32).toNatClampNeg) from by decide) dL_held_8 (fun H locs hP hD hS => ?_)
    have hP : va_P D vwCl ((wWX11 cB cI cZ a0 I0 M0) ++ [((b2, .inl (cJ, 1, .inr (.inl (vp_updL o2 ((0 : Int32)).toNatClampNeg r.toInt64)))) : Nat × va_E)]) H := hP
    have hD : va_D A ((wWX11 cB cI cZ a0 I0 M0) ++ [((b2, .inl (cJ, 1, .inr (.inl (vp_updL o2 ((0 : Int32)).toNatClampNeg r.toInt64)))) : Nat × va_E)]) := hD
    obtain ⟨o2_1, eo2_1, hf⟩ := wb_v hf
    rw [← eo2_1] at hP hD
    refine lv_goto (tgt := 15) hx hb dL_held_9 (by decide) ?_
    refine lv_iconst (v := (0 : Int32)) hx hb dL_held_15 (by decide) ?_
    refine W.widen (k := 1) (n := 6) (Nat.le_of_ble_eq_true rfl) (Nat.le_of_ble_eq_true rfl) ?_
    exact W.iret (v := (0 : Int32)) hx hb hr (fun t ht hW => by rw [← Option.some.inj hf]; exact ⟨⟨(0 : Int32), (), rfl, rfl, by rw [ht]; exact hP, va_K.moved hW.alike hK, hD⟩, hS.F ht⟩) hS.2.2 dL_held_16

set_option maxHeartbeats 4000000 in
set_option maxRecDepth 100000 in
theorem cn_L_misread (l : Launch) (hlt : l.stackTraces = false) (D : va_G) (cB cI cZ cJ : ClassId) (N : Nat) (a0 : Nat → Nat) (I0 : Nat → Int32) (M0 : Nat → Nat → Int32) (x1 : Int32) (x2 : Int32) (x3 : Int32) (x4 : Int32) (x5 : Int32) (b6 : Nat) (o6 : Nat → Int64) (sz : Nat) (R : Int32 × (Nat → Int32) × (Nat → Nat → Int32) × (Nat → Int64)) (hf : fL_misread N I0 M0 x1 x2 x3 x4 x5 o6 = some R) : Met l yL_misread wyL_misread ({ frames := 9, cells := 1, slots := 6, locals := 188 }) (va_Pc [.ref (a0 0), .int x1, .int x2, .int x3, .int x4, .int x5, .ref b6] (wb_preL D [(cB, .byte), (cI, .int), (cZ, .boolean), (cJ, .long)] ((wWX11 cB cI cZ a0 I0 M0) ++ [((b6, .inl (cJ, 1, .inr (.inl o6))) : Nat × va_E)]) sz)) (va_Qi (fun r (_ : Unit) => r = R.1) (fun _ t => wb_post D [(cB, .byte), (cI, .int), (cZ, .boolean), (cJ, .long)] (va_A ((wWX11 cB cI cZ a0 I0 M0) ++ [((b6, .inl (cJ, 1, .inr (.inl o6))) : Nat × va_E)]) sz) ((wWX11 cB cI cZ a0 R.2.1 R.2.2.1) ++ [((b6, .inl (cJ, 1, .inr (.inl R.2.2.2))) : Nat × va_E)]) t) (va_A ((wWX11 cB cI cZ a0 I0 M0) ++ [((b6, .inl (cJ, 1, .inr (.inl o6))) : Nat × va_E)]) sz)) 1 6 (va_A ((wWX11 cB cI cZ a0 I0 M0) ++ [((b6, .inl (cJ, 1, .inr (.inl o6))) : Nat × va_E)]) sz) := by
  refine va_MetW (cc := cL_misread) (maxL := 8) (ret := (some .int)) (hh := [(0, 16, 19, 19)]) pn_L rfl ?_
  intro p e s m args below meth c s₁ B hml hv
  obtain ⟨rfl, hsz, hP, hK, hD0, hX, hNc⟩ := hv
  have hx := B.exec
  have hb := B.bytes
  have hr := B.returns
  have hts := atoms_spec (ws := wyL_misread) B.pre
  have hown : s.vm.findClass RL = some m.cls := (findClass_of_methodNamed B.named :)
  have hlocks := B.notSynchronized
  have htb := vx_table (x := yL_misread) (hh := [(0, 16, 19, 19)]) B (hts (.codeWith yL_misread cL_misread 8 (some .int) [(0, 16, 19, 19)]) List.mem_cons_self)
  have hK3 : va_K D vwCl [(cB, .byte), (cI, .int), (cZ, .boolean)] s := hK.sub [0, 1, 2] rfl
  subst hsz
  have hD := hD0.self (sz := s.heap.size)
  generalize hAe : va_A ((wWX11 cB cI cZ a0 I0 M0) ++ [((b6, .inl (cJ, 1, .inr (.inl o6))) : Nat × va_E)]) s.heap.size = A at hD ⊢
  have hA : ∀ q : Nat, s.heap.size ≤ q → A q := fun q h => by rw [← hAe]; exact Or.inr h
  have hl := lv_entry ([.ref (a0 0), .int x1, .int x2, .int x3, .int x4, .int x5, .ref b6]) (n := 8) (Nat.le_of_ble_eq_true rfl)
  rw [lg_entry_eq]
  generalize (lg_sl ([.ref (a0 0), .int x1, .int x2, .int x3, .int x4, .int x5, .ref b6]) ++ List.replicate (8 - (lg_sl ([.ref (a0 0), .int x1, .int x2, .int x3, .int x4, .int x5, .ref b6])).length) Slot.unset).toArray = ls at hl ⊢
  have hl : lv_has ls 8 [(0, .ref (a0 0)), (1, .int x1), (2, .int x2), (3, .int x3), (4, .int x4), (5, .int x5), (6, .ref b6)] := hl
  unfold fL_misread at hf
  obtain ⟨H, hHe⟩ : ∃ H : Heap, H = s.heap := ⟨_, rfl⟩
  obtain ⟨locs, hle⟩ : ∃ locs : List Loc, locs = [] := ⟨_, rfl⟩
  refine wb_start (H := H) (locs := locs) hHe hle ?_
  rw [← hHe] at hP hX
  have hS : va_S A s.heap H locs := by rw [hHe, hle]; exact va_S.rf
  rcases wb_hpi hf with ⟨k, hrx, hf⟩ | ⟨r, hr9, hf⟩
  · refine lv_aload hx hb dL_misread_0 (lv_at hl 6 rfl) ?_
    refine lv_iconst (v := (0 : Int32)) hx hb dL_misread_2 (by decide) ?_
    refine lv_aload_n hx hb dL_misread_3 rfl (lv_at hl 0 rfl) ?_
    refine lv_iload_n hx hb dL_misread_4 rfl (lv_at hl 1 rfl) ?_
    refine lv_iload_n hx hb dL_misread_5 rfl (lv_at hl 2 rfl) ?_
    refine lv_iload_n hx hb dL_misread_6 rfl (lv_at hl 3 rfl) ?_
    refine lv_iload hx hb dL_misread_7 (lv_at hl 4 rfl) ?_
    refine lv_iload hx hb dL_misread_9 (lv_at hl 5 rfl) ?_
    refine vx_calli (vx_runV (As := [.int x1, .int x2, .int x3, .int x4, .int x5]) (rest := [.int (0 : Int32), .ref b6]) ⟨hx, hb, hml, hown, hts⟩ (ct_X11_misread l hlt D cB cI cZ N a0 I0 M0 x1 x2 x3 x4 x5 H.size k hrx) (cwV 5 hts gyL_misread_X11_misread rfl rfl rfl cdX11_misread ⟨Nat.le_of_ble_eq_true rfl, Nat.le_of_ble_eq_true rfl⟩) (wb_preXV (wj_P1 (X := (wWX11 cB cI cZ a0 I0 M0)) hP) hK3 hX (wr_11 hK hP (q0 := 0) rfl)) rfl rfl hl.1 rfl (lv_room (Nat.le_of_ble_eq_true rfl)) dL_misread_11 ⟨Nat.le_of_ble_eq_true rfl, Nat.le_of_ble_eq_true rfl⟩) hS (fun q h1 h2 => absurd h1 (Nat.not_lt.mpr h2)) (fun q h => hA q (Nat.le_trans hS.1 h)) (fun q h1 h2 => absurd h1 (Nat.not_lt.mpr h2)) (fun E ce q9 u t H locs ht hvm hpx hB hz1 hk1 hS hq9 hv9 hc9 => ?_) (fun r9 u t H locs ht hvm hw hB hz1 hk1 hS => hw.elim)
    have hP : va_P D vwCl ((wWX11 cB cI cZ a0 I0 M0) ++ [((b6, .inl (cJ, 1, .inr (.inl o6))) : Nat × va_E)]) H := hP.kept (fun k q hq => hk1 q.1 (hP k q hq).lt (Nat.not_le.mpr (hP k q hq).lt))
    by_cases hk1 : k = 1
    · subst hk1
      have hE : E = wb_E1 := hB.trans rfl
      subst hE
      refine vx_catch hown [] ⟨0, 16, 19, 19⟩ [] (htb.trans rfl) (fun z hz => nomatch hz) (by decide) (by decide) (hts (.classLink RL 19 "java/util/NoSuchElementException") (List.mem_of_getElem? (i := 1) rfl)) (va_Nw.use rfl hX.2.2.2.1) hq9 hv9 hc9 ?_
      refine lv_astore (lv' := [(7, .ref q9), (0, .ref (a0 0)), (1, .int x1), (2, .int x2), (3, .int x3), (4, .int x4), (5, .int x5), (6, .ref b6)]) hx hb dL_misread_19 hl (by decide) rfl (fun ls hl => ?_)
      refine lv_iconst (v := (1 : Int32)) hx hb dL_misread_21 (by decide) ?_
      replace hf := wb_t rfl hf
      refine W.widen (k := 1) (n := 6) (Nat.le_of_ble_eq_true rfl) (Nat.le_of_ble_eq_true rfl) ?_
      exact W.iret (v := (1 : Int32)) hx hb hr (fun t ht hW => by rw [← Option.some.inj hf]; exact ⟨⟨(1 : Int32), (), rfl, rfl, by rw [ht]; exact hP, va_K.moved hW.alike hK, hD⟩, hS.F ht⟩) hS.2.2 dL_misread_22
    replace hf := wb_f hk1 hf
    exact absurd hf (fun h => nomatch h)
  · refine lv_aload hx hb dL_misread_0 (lv_at hl 6 rfl) ?_
    refine lv_iconst (v := (0 : Int32)) hx hb dL_misread_2 (by decide) ?_
    refine lv_aload_n hx hb dL_misread_3 rfl (lv_at hl 0 rfl) ?_
    refine lv_iload_n hx hb dL_misread_4 rfl (lv_at hl 1 rfl) ?_
    refine lv_iload_n hx hb dL_misread_5 rfl (lv_at hl 2 rfl) ?_
    refine lv_iload_n hx hb dL_misread_6 rfl (lv_at hl 3 rfl) ?_
    refine lv_iload hx hb dL_misread_7 (lv_at hl 4 rfl) ?_
    refine lv_iload hx hb dL_misread_9 (lv_at hl 5 rfl) ?_
    refine vp_callSi (W.runV (As := [.int x1, .int x2, .int x3, .int x4, .int x5]) (rest := [.int (0 : Int32), .ref b6]) ⟨hx, hb, hml, hown, hts⟩ (cn_X11_misread l D cB cI cZ N a0 I0 M0 x1 x2 x3 x4 x5 r hr9) (cwV 5 hts gyL_misread_X11_misread rfl rfl rfl cdX11_misread ⟨Nat.le_of_ble_eq_true rfl, Nat.le_of_ble_eq_true rfl⟩) (wb_preV (wj_P1 (X := (wWX11 cB cI cZ a0 I0 M0)) hP) hK3 (wr_11 hK hP (q0 := 0) rfl)) rfl rfl hl.1 rfl (lv_room (Nat.le_of_ble_eq_true rfl)) dL_misread_11 ⟨Nat.le_of_ble_eq_true rfl, Nat.le_of_ble_eq_true rfl⟩) (fun r9 e9 => ?_)
    rw [e9]
    refine lv_i2l hx hb dL_misread_14 rfl ?_
    refine va_last hx hb hK hP hD hS 52 3 rfl rfl (show ¬ ((0 : Int32) < 0 ∨ 1 ≤ (0 : Int32).toNatClampNeg) from by decide) dL_misread_15 (fun H locs hP hD hS => ?_)
    have hP : va_P D vwCl ((wWX11 cB cI cZ a0 I0 M0) ++ [((b6, .inl (cJ, 1, .inr (.inl (vp_updL o6 ((0 : Int32)).toNatClampNeg r.toInt64)))) : Nat × va_E)]) H := hP
    have hD : va_D A ((wWX11 cB cI cZ a0 I0 M0) ++ [((b6, .inl (cJ, 1, .inr (.inl (vp_updL o6 ((0 : Int32)).toNatClampNeg r.toInt64)))) : Nat × va_E)]) := hD
    obtain ⟨o6_1, eo6_1, hf⟩ := wb_v hf
    rw [← eo6_1] at hP hD
    refine lv_goto (tgt := 23) hx hb dL_misread_16 (by decide) ?_
    refine lv_iconst (v := (0 : Int32)) hx hb dL_misread_23 (by decide) ?_
    refine W.widen (k := 1) (n := 6) (Nat.le_of_ble_eq_true rfl) (Nat.le_of_ble_eq_true rfl) ?_
    exact W.iret (v := (0 : Int32)) hx hb hr (fun t ht hW => by rw [← Option.some.inj hf]; exact ⟨⟨(0 : Int32), (), rfl, rfl, by rw [ht]; exact hP, va_K.moved hW.alike hK, hD⟩, hS.F ht⟩) hS.2.2 dL_misread_24

set_option maxHeartbeats 4000000 in
set_option maxRecDepth 100000 in
theorem cn_L_errors (l : Launch) (hlt : l.stackTraces = false) (D : va_G) (cB cI cZ cJ : ClassId) (N : Nat) (a0 : Nat → Nat) (I0 : Nat → Int32) (M0 : Nat → Nat → Int32) (x1 : Int32) (x2 : Int32) (x3 : Int32) (x4 : Int32) (b5 : Nat) (o5 : Nat → Int64) (sz : Nat) (R : Int32 × (Nat → Int32) × (Nat → Nat → Int32) × (Nat → Int64)) (hf : fL_errors N I0 M0 x1 x2 x3 x4 o5 = some R) : Met l yL_errors wyL_errors ({ frames := 9, cells := 1, slots := 6, locals := 193 }) (va_Pc [.ref (a0 0), .int x1, .int x2, .int x3, .int x4, .ref b5] (wb_preL D [(cB, .byte), (cI, .int), (cZ, .boolean), (cJ, .long)] ((wWX11 cB cI cZ a0 I0 M0) ++ [((b5, .inl (cJ, 1, .inr (.inl o5))) : Nat × va_E)]) sz)) (va_Qi (fun r (_ : Unit) => r = R.1) (fun _ t => wb_post D [(cB, .byte), (cI, .int), (cZ, .boolean), (cJ, .long)] (va_A ((wWX11 cB cI cZ a0 I0 M0) ++ [((b5, .inl (cJ, 1, .inr (.inl o5))) : Nat × va_E)]) sz) ((wWX11 cB cI cZ a0 R.2.1 R.2.2.1) ++ [((b5, .inl (cJ, 1, .inr (.inl R.2.2.2))) : Nat × va_E)]) t) (va_A ((wWX11 cB cI cZ a0 I0 M0) ++ [((b5, .inl (cJ, 1, .inr (.inl o5))) : Nat × va_E)]) sz)) 1 6 (va_A ((wWX11 cB cI cZ a0 I0 M0) ++ [((b5, .inl (cJ, 1, .inr (.inl o5))) : Nat × va_E)]) sz) := by
  refine va_MetW (cc := cL_errors) (maxL := 7) (ret := (some .int)) (hh := [(0, 14, 17, 19)]) pn_L rfl ?_
  intro p e s m args below meth c s₁ B hml hv
  obtain ⟨rfl, hsz, hP, hK, hD0, hX, hNc⟩ := hv
  have hx := B.exec
  have hb := B.bytes
  have hr := B.returns
  have hts := atoms_spec (ws := wyL_errors) B.pre
  have hown : s.vm.findClass RL = some m.cls := (findClass_of_methodNamed B.named :)
  have hlocks := B.notSynchronized
  have htb := vx_table (x := yL_errors) (hh := [(0, 14, 17, 19)]) B (hts (.codeWith yL_errors cL_errors 7 (some .int) [(0, 14, 17, 19)]) List.mem_cons_self)
  have hK3 : va_K D vwCl [(cB, .byte), (cI, .int), (cZ, .boolean)] s := hK.sub [0, 1, 2] rfl
  subst hsz
  have hD := hD0.self (sz := s.heap.size)
  generalize hAe : va_A ((wWX11 cB cI cZ a0 I0 M0) ++ [((b5, .inl (cJ, 1, .inr (.inl o5))) : Nat × va_E)]) s.heap.size = A at hD ⊢
  have hA : ∀ q : Nat, s.heap.size ≤ q → A q := fun q h => by rw [← hAe]; exact Or.inr h
  have hl := lv_entry ([.ref (a0 0), .int x1, .int x2, .int x3, .int x4, .ref b5]) (n := 7) (Nat.le_of_ble_eq_true rfl)
  rw [lg_entry_eq]
  generalize (lg_sl ([.ref (a0 0), .int x1, .int x2, .int x3, .int x4, .ref b5]) ++ List.replicate (7 - (lg_sl ([.ref (a0 0), .int x1, .int x2, .int x3, .int x4, .ref b5])).length) Slot.unset).toArray = ls at hl ⊢
  have hl : lv_has ls 7 [(0, .ref (a0 0)), (1, .int x1), (2, .int x2), (3, .int x3), (4, .int x4), (5, .ref b5)] := hl
  unfold fL_errors at hf
  obtain ⟨H, hHe⟩ : ∃ H : Heap, H = s.heap := ⟨_, rfl⟩
  obtain ⟨locs, hle⟩ : ∃ locs : List Loc, locs = [] := ⟨_, rfl⟩
  refine wb_start (H := H) (locs := locs) hHe hle ?_
  rw [← hHe] at hP hX
  have hS : va_S A s.heap H locs := by rw [hHe, hle]; exact va_S.rf
  rcases wb_hpi hf with ⟨k, hrx, hf⟩ | ⟨r, hr9, hf⟩
  · refine lv_aload hx hb dL_errors_0 (lv_at hl 5 rfl) ?_
    refine lv_iconst (v := (0 : Int32)) hx hb dL_errors_2 (by decide) ?_
    refine lv_aload_n hx hb dL_errors_3 rfl (lv_at hl 0 rfl) ?_
    refine lv_iload_n hx hb dL_errors_4 rfl (lv_at hl 1 rfl) ?_
    refine lv_iload_n hx hb dL_errors_5 rfl (lv_at hl 2 rfl) ?_
    refine lv_iload_n hx hb dL_errors_6 rfl (lv_at hl 3 rfl) ?_
    refine lv_iload hx hb dL_errors_7 (lv_at hl 4 rfl) ?_
    refine vx_calli (vx_runV (As := [.int x1, .int x2, .int x3, .int x4]) (rest := [.int (0 : Int32), .ref b5]) ⟨hx, hb, hml, hown, hts⟩ (ct_X11_errors l hlt D cB cI cZ N a0 I0 M0 x1 x2 x3 x4 H.size k hrx) (cwV 4 hts gyL_errors_X11_errors rfl rfl rfl cdX11_errors ⟨Nat.le_of_ble_eq_true rfl, Nat.le_of_ble_eq_true rfl⟩) (wb_preXV (wj_P1 (X := (wWX11 cB cI cZ a0 I0 M0)) hP) hK3 hX (wr_11 hK hP (q0 := 0) rfl)) rfl rfl hl.1 rfl (lv_room (Nat.le_of_ble_eq_true rfl)) dL_errors_9 ⟨Nat.le_of_ble_eq_true rfl, Nat.le_of_ble_eq_true rfl⟩) hS (fun q h1 h2 => absurd h1 (Nat.not_lt.mpr h2)) (fun q h => hA q (Nat.le_trans hS.1 h)) (fun q h1 h2 => absurd h1 (Nat.not_lt.mpr h2)) (fun E ce q9 u t H locs ht hvm hpx hB hz1 hk1 hS hq9 hv9 hc9 => ?_) (fun r9 u t H locs ht hvm hw hB hz1 hk1 hS => hw.elim)
    have hP : va_P D vwCl ((wWX11 cB cI cZ a0 I0 M0) ++ [((b5, .inl (cJ, 1, .inr (.inl o5))) : Nat × va_E)]) H := hP.kept (fun k q hq => hk1 q.1 (hP k q hq).lt (Nat.not_le.mpr (hP k q hq).lt))
    by_cases hk1 : k = 1
    · subst hk1
      have hE : E = wb_E1 := hB.trans rfl
      subst hE
      refine vx_catch hown [] ⟨0, 14, 17, 19⟩ [] (htb.trans rfl) (fun z hz => nomatch hz) (by decide) (by decide) (hts (.classLink RL 19 "java/util/NoSuchElementException") (List.mem_of_getElem? (i := 1) rfl)) (va_Nw.use rfl hX.2.2.2.1) hq9 hv9 hc9 ?_
      refine lv_astore (lv' := [(6, .ref q9), (0, .ref (a0 0)), (1, .int x1), (2, .int x2), (3, .int x3), (4, .int x4), (5, .ref b5)]) hx hb dL_errors_17 hl (by decide) rfl (fun ls hl => ?_)
      refine lv_iconst (v := (1 : Int32)) hx hb dL_errors_19 (by decide) ?_
      replace hf := wb_t rfl hf
      refine W.widen (k := 1) (n := 6) (Nat.le_of_ble_eq_true rfl) (Nat.le_of_ble_eq_true rfl) ?_
      exact W.iret (v := (1 : Int32)) hx hb hr (fun t ht hW => by rw [← Option.some.inj hf]; exact ⟨⟨(1 : Int32), (), rfl, rfl, by rw [ht]; exact hP, va_K.moved hW.alike hK, hD⟩, hS.F ht⟩) hS.2.2 dL_errors_20
    replace hf := wb_f hk1 hf
    exact absurd hf (fun h => nomatch h)
  · refine lv_aload hx hb dL_errors_0 (lv_at hl 5 rfl) ?_
    refine lv_iconst (v := (0 : Int32)) hx hb dL_errors_2 (by decide) ?_
    refine lv_aload_n hx hb dL_errors_3 rfl (lv_at hl 0 rfl) ?_
    refine lv_iload_n hx hb dL_errors_4 rfl (lv_at hl 1 rfl) ?_
    refine lv_iload_n hx hb dL_errors_5 rfl (lv_at hl 2 rfl) ?_
    refine lv_iload_n hx hb dL_errors_6 rfl (lv_at hl 3 rfl) ?_
    refine lv_iload hx hb dL_errors_7 (lv_at hl 4 rfl) ?_
    have hPc := wj_P1 hP
    have hDc := wj_D1 hD
    have hFc := wj_F hDc hS hA
    refine va_calli (va_runV (As := [.int x1, .int x2, .int x3, .int x4]) (rest := [.int (0 : Int32), .ref b5]) ⟨hx, hb, hml, hown, hts⟩ (cn_X11_errors l D cB cI cZ N a0 I0 M0 x1 x2 x3 x4 H.size r hr9) (cwV 4 hts gyL_errors_X11_errors rfl rfl rfl cdX11_errors ⟨Nat.le_of_ble_eq_true rfl, Nat.le_of_ble_eq_true rfl⟩) (wb_preDV hPc hK3 hDc (wr_11 hK hP (q0 := 0) rfl)) rfl rfl hl.1 rfl (lv_room (Nat.le_of_ble_eq_true rfl)) dL_errors_9 ⟨Nat.le_of_ble_eq_true rfl, Nat.le_of_ble_eq_true rfl⟩) hS (fun q _ h => hFc q h) hFc (fun r9 u t H locs ht hvm hw hB hz1 hk1 hS => ?_)
    obtain ⟨hP, hD⟩ := wj_1 hP hD hk1 hFc ht hB
    rw [hw]
    refine lv_i2l hx hb dL_errors_12 rfl ?_
    refine va_last hx hb hK hP hD hS 52 3 rfl rfl (show ¬ ((0 : Int32) < 0 ∨ 1 ≤ (0 : Int32).toNatClampNeg) from by decide) dL_errors_13 (fun H locs hP hD hS => ?_)
    have hP : va_P D vwCl ((wWX11 cB cI cZ a0 r.2.1 r.2.2) ++ [((b5, .inl (cJ, 1, .inr (.inl (vp_updL o5 ((0 : Int32)).toNatClampNeg r.1.toInt64)))) : Nat × va_E)]) H := hP
    have hD : va_D A ((wWX11 cB cI cZ a0 r.2.1 r.2.2) ++ [((b5, .inl (cJ, 1, .inr (.inl (vp_updL o5 ((0 : Int32)).toNatClampNeg r.1.toInt64)))) : Nat × va_E)]) := hD
    obtain ⟨o5_1, eo5_1, hf⟩ := wb_v hf
    rw [← eo5_1] at hP hD
    refine lv_goto (tgt := 21) hx hb dL_errors_14 (by decide) ?_
    refine lv_iconst (v := (0 : Int32)) hx hb dL_errors_21 (by decide) ?_
    refine W.widen (k := 1) (n := 6) (Nat.le_of_ble_eq_true rfl) (Nat.le_of_ble_eq_true rfl) ?_
    exact W.iret (v := (0 : Int32)) hx hb hr (fun t ht hW => by rw [← Option.some.inj hf]; exact ⟨⟨(0 : Int32), (), rfl, rfl, by rw [ht]; exact hP, va_K.moved hW.alike hK, hD⟩, hS.F ht⟩) hS.2.2 dL_errors_22

set_option maxHeartbeats 4000000 in
set_option maxRecDepth 100000 in
theorem cn_L_possible (l : Launch) (hlt : l.stackTraces = false) (D : va_G) (cB cI cZ cJ : ClassId) (N : Nat) (a0 : Nat → Nat) (I0 : Nat → Int32) (M0 : Nat → Nat → Int32) (x1 : Int32) (x2 : Int32) (x3 : Int32) (b4 : Nat) (o4 : Nat → Int64) (sz : Nat) (R : Int32 × (Nat → Int32) × (Nat → Nat → Int32) × (Nat → Int64)) (hf : fL_possible N I0 M0 x1 x2 x3 o4 = some R) : Met l yL_possible wyL_possible ({ frames := 9, cells := 1, slots := 6, locals := 185 }) (va_Pc [.ref (a0 0), .int x1, .int x2, .int x3, .ref b4] (wb_preL D [(cB, .byte), (cI, .int), (cZ, .boolean), (cJ, .long)] ((wWX11 cB cI cZ a0 I0 M0) ++ [((b4, .inl (cJ, 1, .inr (.inl o4))) : Nat × va_E)]) sz)) (va_Qi (fun r (_ : Unit) => r = R.1) (fun _ t => wb_post D [(cB, .byte), (cI, .int), (cZ, .boolean), (cJ, .long)] (va_A ((wWX11 cB cI cZ a0 I0 M0) ++ [((b4, .inl (cJ, 1, .inr (.inl o4))) : Nat × va_E)]) sz) ((wWX11 cB cI cZ a0 R.2.1 R.2.2.1) ++ [((b4, .inl (cJ, 1, .inr (.inl R.2.2.2))) : Nat × va_E)]) t) (va_A ((wWX11 cB cI cZ a0 I0 M0) ++ [((b4, .inl (cJ, 1, .inr (.inl o4))) : Nat × va_E)]) sz)) 1 6 (va_A ((wWX11 cB cI cZ a0 I0 M0) ++ [((b4, .inl (cJ, 1, .inr (.inl o4))) : Nat × va_E)]) sz) := by
  refine va_MetW (cc := cL_possible) (maxL := 6) (ret := (some .int)) (hh := [(0, 12, 15, 19)]) pn_L rfl ?_
  intro p e s m args below meth c s₁ B hml hv
  obtain ⟨rfl, hsz, hP, hK, hD0, hX, hNc⟩ := hv
  have hx := B.exec
  have hb := B.bytes
  have hr := B.returns
  have hts := atoms_spec (ws := wyL_possible) B.pre
  have hown : s.vm.findClass RL = some m.cls := (findClass_of_methodNamed B.named :)
  have hlocks := B.notSynchronized
  have htb := vx_table (x := yL_possible) (hh := [(0, 12, 15, 19)]) B (hts (.codeWith yL_possible cL_possible 6 (some .int) [(0, 12, 15, 19)]) List.mem_cons_self)
  have hK3 : va_K D vwCl [(cB, .byte), (cI, .int), (cZ, .boolean)] s := hK.sub [0, 1, 2] rfl
  subst hsz
  have hD := hD0.self (sz := s.heap.size)
  generalize hAe : va_A ((wWX11 cB cI cZ a0 I0 M0) ++ [((b4, .inl (cJ, 1, .inr (.inl o4))) : Nat × va_E)]) s.heap.size = A at hD ⊢
  have hA : ∀ q : Nat, s.heap.size ≤ q → A q := fun q h => by rw [← hAe]; exact Or.inr h
  have hl := lv_entry ([.ref (a0 0), .int x1, .int x2, .int x3, .ref b4]) (n := 6) (Nat.le_of_ble_eq_true rfl)
  rw [lg_entry_eq]
  generalize (lg_sl ([.ref (a0 0), .int x1, .int x2, .int x3, .ref b4]) ++ List.replicate (6 - (lg_sl ([.ref (a0 0), .int x1, .int x2, .int x3, .ref b4])).length) Slot.unset).toArray = ls at hl ⊢
  have hl : lv_has ls 6 [(0, .ref (a0 0)), (1, .int x1), (2, .int x2), (3, .int x3), (4, .ref b4)] := hl
  unfold fL_possible at hf
  obtain ⟨H, hHe⟩ : ∃ H : Heap, H = s.heap := ⟨_, rfl⟩
  obtain ⟨locs, hle⟩ : ∃ locs : List Loc, locs = [] := ⟨_, rfl⟩
  refine wb_start (H := H) (locs := locs) hHe hle ?_
  rw [← hHe] at hP hX
  have hS : va_S A s.heap H locs := by rw [hHe, hle]; exact va_S.rf
  rcases wb_hpi hf with ⟨k, hrx, hf⟩ | ⟨r, hr9, hf⟩
  · refine lv_aload hx hb dL_possible_0 (lv_at hl 4 rfl) ?_
    refine lv_iconst (v := (0 : Int32)) hx hb dL_possible_2 (by decide) ?_
    refine lv_aload_n hx hb dL_possible_3 rfl (lv_at hl 0 rfl) ?_
    refine lv_iload_n hx hb dL_possible_4 rfl (lv_at hl 1 rfl) ?_
    refine lv_iload_n hx hb dL_possible_5 rfl (lv_at hl 2 rfl) ?_
    refine lv_iload_n hx hb dL_possible_6 rfl (lv_at hl 3 rfl) ?_
    refine vx_calli (vx_runV (As := [.int x1, .int x2, .int x3]) (rest := [.int (0 : Int32), .ref b4]) ⟨hx, hb, hml, hown, hts⟩ (ct_X11_possible l hlt D cB cI cZ N a0 I0 M0 x1 x2 x3 H.size k hrx) (cwV 3 hts gyL_possible_X11_possible rfl rfl rfl cdX11_possible ⟨Nat.le_of_ble_eq_true rfl, Nat.le_of_ble_eq_true rfl⟩) (wb_preXV (wj_P1 (X := (wWX11 cB cI cZ a0 I0 M0)) hP) hK3 hX (wr_11 hK hP (q0 := 0) rfl)) rfl rfl hl.1 rfl (lv_room (Nat.le_of_ble_eq_true rfl)) dL_possible_7 ⟨Nat.le_of_ble_eq_true rfl, Nat.le_of_ble_eq_true rfl⟩) hS (fun q h1 h2 => absurd h1 (Nat.not_lt.mpr h2)) (fun q h => hA q (Nat.le_trans hS.1 h)) (fun q h1 h2 => absurd h1 (Nat.not_lt.mpr h2)) (fun E ce q9 u t H locs ht hvm hpx hB hz1 hk1 hS hq9 hv9 hc9 => ?_) (fun r9 u t H locs ht hvm hw hB hz1 hk1 hS => hw.elim)
    have hP : va_P D vwCl ((wWX11 cB cI cZ a0 I0 M0) ++ [((b4, .inl (cJ, 1, .inr (.inl o4))) : Nat × va_E)]) H := hP.kept (fun k q hq => hk1 q.1 (hP k q hq).lt (Nat.not_le.mpr (hP k q hq).lt))
    by_cases hk1 : k = 1
    · subst hk1
      have hE : E = wb_E1 := hB.trans rfl
      subst hE
      refine vx_catch hown [] ⟨0, 12, 15, 19⟩ [] (htb.trans rfl) (fun z hz => nomatch hz) (by decide) (by decide) (hts (.classLink RL 19 "java/util/NoSuchElementException") (List.mem_of_getElem? (i := 1) rfl)) (va_Nw.use rfl hX.2.2.2.1) hq9 hv9 hc9 ?_
      refine lv_astore (lv' := [(5, .ref q9), (0, .ref (a0 0)), (1, .int x1), (2, .int x2), (3, .int x3), (4, .ref b4)]) hx hb dL_possible_15 hl (by decide) rfl (fun ls hl => ?_)
      refine lv_iconst (v := (1 : Int32)) hx hb dL_possible_17 (by decide) ?_
      replace hf := wb_t rfl hf
      refine W.widen (k := 1) (n := 6) (Nat.le_of_ble_eq_true rfl) (Nat.le_of_ble_eq_true rfl) ?_
      exact W.iret (v := (1 : Int32)) hx hb hr (fun t ht hW => by rw [← Option.some.inj hf]; exact ⟨⟨(1 : Int32), (), rfl, rfl, by rw [ht]; exact hP, va_K.moved hW.alike hK, hD⟩, hS.F ht⟩) hS.2.2 dL_possible_18
    replace hf := wb_f hk1 hf
    exact absurd hf (fun h => nomatch h)
  · refine lv_aload hx hb dL_possible_0 (lv_at hl 4 rfl) ?_
    refine lv_iconst (v := (0 : Int32)) hx hb dL_possible_2 (by decide) ?_
    refine lv_aload_n hx hb dL_possible_3 rfl (lv_at hl 0 rfl) ?_
    refine lv_iload_n hx hb dL_possible_4 rfl (lv_at hl 1 rfl) ?_
    refine lv_iload_n hx hb dL_possible_5 rfl (lv_at hl 2 rfl) ?_
    refine lv_iload_n hx hb dL_possible_6 rfl (lv_at hl 3 rfl) ?_
    refine vp_callSi (W.runV (As := [.int x1, .int x2, .int x3]) (rest := [.int (0 : Int32), .ref b4]) ⟨hx, hb, hml, hown, hts⟩ (cn_X11_possible l D cB cI cZ N a0 I0 M0 x1 x2 x3 r hr9) (cwV 3 hts gyL_possible_X11_possible rfl rfl rfl cdX11_possible ⟨Nat.le_of_ble_eq_true rfl, Nat.le_of_ble_eq_true rfl⟩) (wb_preV (wj_P1 (X := (wWX11 cB cI cZ a0 I0 M0)) hP) hK3 (wr_11 hK hP (q0 := 0) rfl)) rfl rfl hl.1 rfl (lv_room (Nat.le_of_ble_eq_true rfl)) dL_possible_7 ⟨Nat.le_of_ble_eq_true rfl, Nat.le_of_ble_eq_true rfl⟩) (fun r9 e9 => ?_)
    rw [e9]
    refine lv_i2l hx hb dL_possible_10 rfl ?_
    refine va_last hx hb hK hP hD hS 52 3 rfl rfl (show ¬ ((0 : Int32) < 0 ∨ 1 ≤ (0 : Int32).toNatClampNeg) from by decide) dL_possible_11 (fun H locs hP hD hS => ?_)
    have hP : va_P D vwCl ((wWX11 cB cI cZ a0 I0 M0) ++ [((b4, .inl (cJ, 1, .inr (.inl (vp_updL o4 ((0 : Int32)).toNatClampNeg r.toInt64)))) : Nat × va_E)]) H := hP
    have hD : va_D A ((wWX11 cB cI cZ a0 I0 M0) ++ [((b4, .inl (cJ, 1, .inr (.inl (vp_updL o4 ((0 : Int32)).toNatClampNeg r.toInt64)))) : Nat × va_E)]) := hD
    obtain ⟨o4_1, eo4_1, hf⟩ := wb_v hf
    rw [← eo4_1] at hP hD
    refine lv_goto (tgt := 19) hx hb dL_possible_12 (by decide) ?_
    refine lv_iconst (v := (0 : Int32)) hx hb dL_possible_19 (by decide) ?_
    refine W.widen (k := 1) (n := 6) (Nat.le_of_ble_eq_true rfl) (Nat.le_of_ble_eq_true rfl) ?_
    exact W.iret (v := (0 : Int32)) hx hb hr (fun t ht hW => by rw [← Option.some.inj hf]; exact ⟨⟨(0 : Int32), (), rfl, rfl, by rw [ht]; exact hP, va_K.moved hW.alike hK, hD⟩, hS.F ht⟩) hS.2.2 dL_possible_20

set_option maxHeartbeats 4000000 in
set_option maxRecDepth 100000 in
theorem cn_L_slips (l : Launch) (hlt : l.stackTraces = false) (D : va_G) (cB cI cZ cJ : ClassId) (N : Nat) (a0 : Nat → Nat) (I0 : Nat → Int32) (M0 : Nat → Nat → Int32) (x1 : Int32) (x2 : Int32) (b3 : Nat) (o3 : Nat → Int64) (sz : Nat) (R : Int32 × (Nat → Int32) × (Nat → Nat → Int32) × (Nat → Int64)) (hf : fL_slips N I0 M0 x1 x2 o3 = some R) : Met l yL_slips wyL_slips ({ frames := 8, cells := 1, slots := 6, locals := 162 }) (va_Pc [.ref (a0 0), .int x1, .int x2, .ref b3] (wb_preL D [(cB, .byte), (cI, .int), (cZ, .boolean), (cJ, .long)] ((wWX11 cB cI cZ a0 I0 M0) ++ [((b3, .inl (cJ, 1, .inr (.inl o3))) : Nat × va_E)]) sz)) (va_Qi (fun r (_ : Unit) => r = R.1) (fun _ t => wb_post D [(cB, .byte), (cI, .int), (cZ, .boolean), (cJ, .long)] (va_A ((wWX11 cB cI cZ a0 I0 M0) ++ [((b3, .inl (cJ, 1, .inr (.inl o3))) : Nat × va_E)]) sz) ((wWX11 cB cI cZ a0 R.2.1 R.2.2.1) ++ [((b3, .inl (cJ, 1, .inr (.inl R.2.2.2))) : Nat × va_E)]) t) (va_A ((wWX11 cB cI cZ a0 I0 M0) ++ [((b3, .inl (cJ, 1, .inr (.inl o3))) : Nat × va_E)]) sz)) 1 6 (va_A ((wWX11 cB cI cZ a0 I0 M0) ++ [((b3, .inl (cJ, 1, .inr (.inl o3))) : Nat × va_E)]) sz) := by
  refine va_MetW (cc := cL_slips) (maxL := 5) (ret := (some .int)) (hh := [(0, 10, 13, 19)]) pn_L rfl ?_
  intro p e s m args below meth c s₁ B hml hv
  obtain ⟨rfl, hsz, hP, hK, hD0, hX, hNc⟩ := hv
  have hx := B.exec
  have hb := B.bytes
  have hr := B.returns
  have hts := atoms_spec (ws := wyL_slips) B.pre
  have hown : s.vm.findClass RL = some m.cls := (findClass_of_methodNamed B.named :)
  have hlocks := B.notSynchronized
  have htb := vx_table (x := yL_slips) (hh := [(0, 10, 13, 19)]) B (hts (.codeWith yL_slips cL_slips 5 (some .int) [(0, 10, 13, 19)]) List.mem_cons_self)
  have hK3 : va_K D vwCl [(cB, .byte), (cI, .int), (cZ, .boolean)] s := hK.sub [0, 1, 2] rfl
  subst hsz
  have hD := hD0.self (sz := s.heap.size)
  generalize hAe : va_A ((wWX11 cB cI cZ a0 I0 M0) ++ [((b3, .inl (cJ, 1, .inr (.inl o3))) : Nat × va_E)]) s.heap.size = A at hD ⊢
  have hA : ∀ q : Nat, s.heap.size ≤ q → A q := fun q h => by rw [← hAe]; exact Or.inr h
  have hl := lv_entry ([.ref (a0 0), .int x1, .int x2, .ref b3]) (n := 5) (Nat.le_of_ble_eq_true rfl)
  rw [lg_entry_eq]
  generalize (lg_sl ([.ref (a0 0), .int x1, .int x2, .ref b3]) ++ List.replicate (5 - (lg_sl ([.ref (a0 0), .int x1, .int x2, .ref b3])).length) Slot.unset).toArray = ls at hl ⊢
  have hl : lv_has ls 5 [(0, .ref (a0 0)), (1, .int x1), (2, .int x2), (3, .ref b3)] := hl
  unfold fL_slips at hf
  obtain ⟨H, hHe⟩ : ∃ H : Heap, H = s.heap := ⟨_, rfl⟩
  obtain ⟨locs, hle⟩ : ∃ locs : List Loc, locs = [] := ⟨_, rfl⟩
  refine wb_start (H := H) (locs := locs) hHe hle ?_
  rw [← hHe] at hP hX
  have hS : va_S A s.heap H locs := by rw [hHe, hle]; exact va_S.rf
  rcases wb_hpi hf with ⟨k, hrx, hf⟩ | ⟨r, hr9, hf⟩
  · refine lv_aload_n hx hb dL_slips_0 rfl (lv_at hl 3 rfl) ?_
    refine lv_iconst (v := (0 : Int32)) hx hb dL_slips_1 (by decide) ?_
    refine lv_aload_n hx hb dL_slips_2 rfl (lv_at hl 0 rfl) ?_
    refine lv_iload_n hx hb dL_slips_3 rfl (lv_at hl 1 rfl) ?_
    refine lv_iload_n hx hb dL_slips_4 rfl (lv_at hl 2 rfl) ?_
    refine vx_calli (vx_runV (As := [.int x1, .int x2]) (rest := [.int (0 : Int32), .ref b3]) ⟨hx, hb, hml, hown, hts⟩ (ct_X11_slips l hlt D cB cI cZ N a0 I0 M0 x1 x2 H.size k hrx) (cwV 2 hts gyL_slips_X11_slips rfl rfl rfl cdX11_slips ⟨Nat.le_of_ble_eq_true rfl, Nat.le_of_ble_eq_true rfl⟩) (wb_preXV (wj_P1 (X := (wWX11 cB cI cZ a0 I0 M0)) hP) hK3 hX (wr_11 hK hP (q0 := 0) rfl)) rfl rfl hl.1 rfl (lv_room (Nat.le_of_ble_eq_true rfl)) dL_slips_5 ⟨Nat.le_of_ble_eq_true rfl, Nat.le_of_ble_eq_true rfl⟩) hS (fun q h1 h2 => absurd h1 (Nat.not_lt.mpr h2)) (fun q h => hA q (Nat.le_trans hS.1 h)) (fun q h1 h2 => absurd h1 (Nat.not_lt.mpr h2)) (fun E ce q9 u t H locs ht hvm hpx hB hz1 hk1 hS hq9 hv9 hc9 => ?_) (fun r9 u t H locs ht hvm hw hB hz1 hk1 hS => hw.elim)
    have hP : va_P D vwCl ((wWX11 cB cI cZ a0 I0 M0) ++ [((b3, .inl (cJ, 1, .inr (.inl o3))) : Nat × va_E)]) H := hP.kept (fun k q hq => hk1 q.1 (hP k q hq).lt (Nat.not_le.mpr (hP k q hq).lt))
    by_cases hk1 : k = 1
    · subst hk1
      have hE : E = wb_E1 := hB.trans rfl
      subst hE
      refine vx_catch hown [] ⟨0, 10, 13, 19⟩ [] (htb.trans rfl) (fun z hz => nomatch hz) (by decide) (by decide) (hts (.classLink RL 19 "java/util/NoSuchElementException") (List.mem_of_getElem? (i := 1) rfl)) (va_Nw.use rfl hX.2.2.2.1) hq9 hv9 hc9 ?_
      refine lv_astore (lv' := [(4, .ref q9), (0, .ref (a0 0)), (1, .int x1), (2, .int x2), (3, .ref b3)]) hx hb dL_slips_13 hl (by decide) rfl (fun ls hl => ?_)
      refine lv_iconst (v := (1 : Int32)) hx hb dL_slips_15 (by decide) ?_
      replace hf := wb_t rfl hf
      refine W.widen (k := 1) (n := 6) (Nat.le_of_ble_eq_true rfl) (Nat.le_of_ble_eq_true rfl) ?_
      exact W.iret (v := (1 : Int32)) hx hb hr (fun t ht hW => by rw [← Option.some.inj hf]; exact ⟨⟨(1 : Int32), (), rfl, rfl, by rw [ht]; exact hP, va_K.moved hW.alike hK, hD⟩, hS.F ht⟩) hS.2.2 dL_slips_16
    replace hf := wb_f hk1 hf
    exact absurd hf (fun h => nomatch h)
  · refine lv_aload_n hx hb dL_slips_0 rfl (lv_at hl 3 rfl) ?_
    refine lv_iconst (v := (0 : Int32)) hx hb dL_slips_1 (by decide) ?_
    refine lv_aload_n hx hb dL_slips_2 rfl (lv_at hl 0 rfl) ?_
    refine lv_iload_n hx hb dL_slips_3 rfl (lv_at hl 1 rfl) ?_
    refine lv_iload_n hx hb dL_slips_4 rfl (lv_at hl 2 rfl) ?_
    refine vp_callSi (W.runV (As := [.int x1, .int x2]) (rest := [.int (0 : Int32), .ref b3]) ⟨hx, hb, hml, hown, hts⟩ (cn_X11_slips l D cB cI cZ N a0 I0 M0 x1 x2 r hr9) (cwV 2 hts gyL_slips_X11_slips rfl rfl rfl cdX11_slips ⟨Nat.le_of_ble_eq_true rfl, Nat.le_of_ble_eq_true rfl⟩) (wb_preV (wj_P1 (X := (wWX11 cB cI cZ a0 I0 M0)) hP) hK3 (wr_11 hK hP (q0 := 0) rfl)) rfl rfl hl.1 rfl (lv_room (Nat.le_of_ble_eq_true rfl)) dL_slips_5 ⟨Nat.le_of_ble_eq_true rfl, Nat.le_of_ble_eq_true rfl⟩) (fun r9 e9 => ?_)
    rw [e9]
    refine lv_i2l hx hb dL_slips_8 rfl ?_
    refine va_last hx hb hK hP hD hS 52 3 rfl rfl (show ¬ ((0 : Int32) < 0 ∨ 1 ≤ (0 : Int32).toNatClampNeg) from by decide) dL_slips_9 (fun H locs hP hD hS => ?_)
    have hP : va_P D vwCl ((wWX11 cB cI cZ a0 I0 M0) ++ [((b3, .inl (cJ, 1, .inr (.inl (vp_updL o3 ((0 : Int32)).toNatClampNeg r.toInt64)))) : Nat × va_E)]) H := hP
    have hD : va_D A ((wWX11 cB cI cZ a0 I0 M0) ++ [((b3, .inl (cJ, 1, .inr (.inl (vp_updL o3 ((0 : Int32)).toNatClampNeg r.toInt64)))) : Nat × va_E)]) := hD
    obtain ⟨o3_1, eo3_1, hf⟩ := wb_v hf
    rw [← eo3_1] at hP hD
    refine lv_goto (tgt := 17) hx hb dL_slips_10 (by decide) ?_
    refine lv_iconst (v := (0 : Int32)) hx hb dL_slips_17 (by decide) ?_
    refine W.widen (k := 1) (n := 6) (Nat.le_of_ble_eq_true rfl) (Nat.le_of_ble_eq_true rfl) ?_
    exact W.iret (v := (0 : Int32)) hx hb hr (fun t ht hW => by rw [← Option.some.inj hf]; exact ⟨⟨(0 : Int32), (), rfl, rfl, by rw [ht]; exact hP, va_K.moved hW.alike hK, hD⟩, hS.F ht⟩) hS.2.2 dL_slips_18

set_option maxHeartbeats 4000000 in
set_option maxRecDepth 100000 in
theorem cn_L_handed (l : Launch) (hlt : l.stackTraces = false) (D : va_G) (cB cI cZ cJ : ClassId) (N : Nat) (a0 : Nat → Nat) (I0 : Nat → Int32) (M0 : Nat → Nat → Int32) (x1 : Int32) (x2 : Int32) (x3 : Int32) (b4 : Nat) (o4 : Nat → Int64) (sz : Nat) (R : Int32 × (Nat → Int32) × (Nat → Nat → Int32) × (Nat → Int64)) (hf : fL_handed N I0 M0 x1 x2 x3 o4 = some R) : Met l yL_handed wyL_handed ({ frames := 8, cells := 1, slots := 6, locals := 163 }) (va_Pc [.ref (a0 0), .int x1, .int x2, .int x3, .ref b4] (wb_preL D [(cB, .byte), (cI, .int), (cZ, .boolean), (cJ, .long)] ((wWX11 cB cI cZ a0 I0 M0) ++ [((b4, .inl (cJ, 1, .inr (.inl o4))) : Nat × va_E)]) sz)) (va_Qi (fun r (_ : Unit) => r = R.1) (fun _ t => wb_post D [(cB, .byte), (cI, .int), (cZ, .boolean), (cJ, .long)] (va_A ((wWX11 cB cI cZ a0 I0 M0) ++ [((b4, .inl (cJ, 1, .inr (.inl o4))) : Nat × va_E)]) sz) ((wWX11 cB cI cZ a0 R.2.1 R.2.2.1) ++ [((b4, .inl (cJ, 1, .inr (.inl R.2.2.2))) : Nat × va_E)]) t) (va_A ((wWX11 cB cI cZ a0 I0 M0) ++ [((b4, .inl (cJ, 1, .inr (.inl o4))) : Nat × va_E)]) sz)) 1 6 (va_A ((wWX11 cB cI cZ a0 I0 M0) ++ [((b4, .inl (cJ, 1, .inr (.inl o4))) : Nat × va_E)]) sz) := by
  refine va_MetW (cc := cL_handed) (maxL := 6) (ret := (some .int)) (hh := [(0, 12, 15, 19)]) pn_L rfl ?_
  intro p e s m args below meth c s₁ B hml hv
  obtain ⟨rfl, hsz, hP, hK, hD0, hX, hNc⟩ := hv
  have hx := B.exec
  have hb := B.bytes
  have hr := B.returns
  have hts := atoms_spec (ws := wyL_handed) B.pre
  have hown : s.vm.findClass RL = some m.cls := (findClass_of_methodNamed B.named :)
  have hlocks := B.notSynchronized
  have htb := vx_table (x := yL_handed) (hh := [(0, 12, 15, 19)]) B (hts (.codeWith yL_handed cL_handed 6 (some .int) [(0, 12, 15, 19)]) List.mem_cons_self)
  have hK3 : va_K D vwCl [(cB, .byte), (cI, .int), (cZ, .boolean)] s := hK.sub [0, 1, 2] rfl
  subst hsz
  have hD := hD0.self (sz := s.heap.size)
  generalize hAe : va_A ((wWX11 cB cI cZ a0 I0 M0) ++ [((b4, .inl (cJ, 1, .inr (.inl o4))) : Nat × va_E)]) s.heap.size = A at hD ⊢
  have hA : ∀ q : Nat, s.heap.size ≤ q → A q := fun q h => by rw [← hAe]; exact Or.inr h
  have hl := lv_entry ([.ref (a0 0), .int x1, .int x2, .int x3, .ref b4]) (n := 6) (Nat.le_of_ble_eq_true rfl)
  rw [lg_entry_eq]
  generalize (lg_sl ([.ref (a0 0), .int x1, .int x2, .int x3, .ref b4]) ++ List.replicate (6 - (lg_sl ([.ref (a0 0), .int x1, .int x2, .int x3, .ref b4])).length) Slot.unset).toArray = ls at hl ⊢
  have hl : lv_has ls 6 [(0, .ref (a0 0)), (1, .int x1), (2, .int x2), (3, .int x3), (4, .ref b4)] := hl
  unfold fL_handed at hf
  obtain ⟨H, hHe⟩ : ∃ H : Heap, H = s.heap := ⟨_, rfl⟩
  obtain ⟨locs, hle⟩ : ∃ locs : List Loc, locs = [] := ⟨_, rfl⟩
  refine wb_start (H := H) (locs := locs) hHe hle ?_
  rw [← hHe] at hP hX
  have hS : va_S A s.heap H locs := by rw [hHe, hle]; exact va_S.rf
  rcases wb_hpi hf with ⟨k, hrx, hf⟩ | ⟨r, hr9, hf⟩
  · refine lv_aload hx hb dL_handed_0 (lv_at hl 4 rfl) ?_
    refine lv_iconst (v := (0 : Int32)) hx hb dL_handed_2 (by decide) ?_
    refine lv_aload_n hx hb dL_handed_3 rfl (lv_at hl 0 rfl) ?_
    refine lv_iload_n hx hb dL_handed_4 rfl (lv_at hl 1 rfl) ?_
    refine lv_iload_n hx hb dL_handed_5 rfl (lv_at hl 2 rfl) ?_
    refine lv_iload_n hx hb dL_handed_6 rfl (lv_at hl 3 rfl) ?_
    refine vx_calli (vx_runV (As := [.int x1, .int x2, .int x3]) (rest := [.int (0 : Int32), .ref b4]) ⟨hx, hb, hml, hown, hts⟩ (ct_X11_handed l hlt D cB cI cZ N a0 I0 M0 x1 x2 x3 H.size k hrx) (cwV 3 hts gyL_handed_X11_handed rfl rfl rfl cdX11_handed ⟨Nat.le_of_ble_eq_true rfl, Nat.le_of_ble_eq_true rfl⟩) (wb_preXV (wj_P1 (X := (wWX11 cB cI cZ a0 I0 M0)) hP) hK3 hX (wr_11 hK hP (q0 := 0) rfl)) rfl rfl hl.1 rfl (lv_room (Nat.le_of_ble_eq_true rfl)) dL_handed_7 ⟨Nat.le_of_ble_eq_true rfl, Nat.le_of_ble_eq_true rfl⟩) hS (fun q h1 h2 => absurd h1 (Nat.not_lt.mpr h2)) (fun q h => hA q (Nat.le_trans hS.1 h)) (fun q h1 h2 => absurd h1 (Nat.not_lt.mpr h2)) (fun E ce q9 u t H locs ht hvm hpx hB hz1 hk1 hS hq9 hv9 hc9 => ?_) (fun r9 u t H locs ht hvm hw hB hz1 hk1 hS => hw.elim)
    have hP : va_P D vwCl ((wWX11 cB cI cZ a0 I0 M0) ++ [((b4, .inl (cJ, 1, .inr (.inl o4))) : Nat × va_E)]) H := hP.kept (fun k q hq => hk1 q.1 (hP k q hq).lt (Nat.not_le.mpr (hP k q hq).lt))
    by_cases hk1 : k = 1
    · subst hk1
      have hE : E = wb_E1 := hB.trans rfl
      subst hE
      refine vx_catch hown [] ⟨0, 12, 15, 19⟩ [] (htb.trans rfl) (fun z hz => nomatch hz) (by decide) (by decide) (hts (.classLink RL 19 "java/util/NoSuchElementException") (List.mem_of_getElem? (i := 1) rfl)) (va_Nw.use rfl hX.2.2.2.1) hq9 hv9 hc9 ?_
      refine lv_astore (lv' := [(5, .ref q9), (0, .ref (a0 0)), (1, .int x1), (2, .int x2), (3, .int x3), (4, .ref b4)]) hx hb dL_handed_15 hl (by decide) rfl (fun ls hl => ?_)
      refine lv_iconst (v := (1 : Int32)) hx hb dL_handed_17 (by decide) ?_
      replace hf := wb_t rfl hf
      refine W.widen (k := 1) (n := 6) (Nat.le_of_ble_eq_true rfl) (Nat.le_of_ble_eq_true rfl) ?_
      exact W.iret (v := (1 : Int32)) hx hb hr (fun t ht hW => by rw [← Option.some.inj hf]; exact ⟨⟨(1 : Int32), (), rfl, rfl, by rw [ht]; exact hP, va_K.moved hW.alike hK, hD⟩, hS.F ht⟩) hS.2.2 dL_handed_18
    replace hf := wb_f hk1 hf
    exact absurd hf (fun h => nomatch h)
  · refine lv_aload hx hb dL_handed_0 (lv_at hl 4 rfl) ?_
    refine lv_iconst (v := (0 : Int32)) hx hb dL_handed_2 (by decide) ?_
    refine lv_aload_n hx hb dL_handed_3 rfl (lv_at hl 0 rfl) ?_
    refine lv_iload_n hx hb dL_handed_4 rfl (lv_at hl 1 rfl) ?_
    refine lv_iload_n hx hb dL_handed_5 rfl (lv_at hl 2 rfl) ?_
    refine lv_iload_n hx hb dL_handed_6 rfl (lv_at hl 3 rfl) ?_
    refine vp_callSi (W.runV (As := [.int x1, .int x2, .int x3]) (rest := [.int (0 : Int32), .ref b4]) ⟨hx, hb, hml, hown, hts⟩ (cn_X11_handed l D cB cI cZ N a0 I0 M0 x1 x2 x3 r hr9) (cwV 3 hts gyL_handed_X11_handed rfl rfl rfl cdX11_handed ⟨Nat.le_of_ble_eq_true rfl, Nat.le_of_ble_eq_true rfl⟩) (wb_preV (wj_P1 (X := (wWX11 cB cI cZ a0 I0 M0)) hP) hK3 (wr_11 hK hP (q0 := 0) rfl)) rfl rfl hl.1 rfl (lv_room (Nat.le_of_ble_eq_true rfl)) dL_handed_7 ⟨Nat.le_of_ble_eq_true rfl, Nat.le_of_ble_eq_true rfl⟩) (fun r9 e9 => ?_)
    rw [e9]
    refine lv_i2l hx hb dL_handed_10 rfl ?_
    refine va_last hx hb hK hP hD hS 52 3 rfl rfl (show ¬ ((0 : Int32) < 0 ∨ 1 ≤ (0 : Int32).toNatClampNeg) from by decide) dL_handed_11 (fun H locs hP hD hS => ?_)
    have hP : va_P D vwCl ((wWX11 cB cI cZ a0 I0 M0) ++ [((b4, .inl (cJ, 1, .inr (.inl (vp_updL o4 ((0 : Int32)).toNatClampNeg r.toInt64)))) : Nat × va_E)]) H := hP
    have hD : va_D A ((wWX11 cB cI cZ a0 I0 M0) ++ [((b4, .inl (cJ, 1, .inr (.inl (vp_updL o4 ((0 : Int32)).toNatClampNeg r.toInt64)))) : Nat × va_E)]) := hD
    obtain ⟨o4_1, eo4_1, hf⟩ := wb_v hf
    rw [← eo4_1] at hP hD
    refine lv_goto (tgt := 19) hx hb dL_handed_12 (by decide) ?_
    refine lv_iconst (v := (0 : Int32)) hx hb dL_handed_19 (by decide) ?_
    refine W.widen (k := 1) (n := 6) (Nat.le_of_ble_eq_true rfl) (Nat.le_of_ble_eq_true rfl) ?_
    exact W.iret (v := (0 : Int32)) hx hb hr (fun t ht hW => by rw [← Option.some.inj hf]; exact ⟨⟨(0 : Int32), (), rfl, rfl, by rw [ht]; exact hP, va_K.moved hW.alike hK, hD⟩, hS.F ht⟩) hS.2.2 dL_handed_20

set_option maxHeartbeats 4000000 in
set_option maxRecDepth 100000 in
theorem cn_L_leaf (l : Launch) (hlt : l.stackTraces = false) (D : va_G) (cB cI cZ cJ : ClassId) (N : Nat) (a0 : Nat → Nat) (I0 : Nat → Int32) (M0 : Nat → Nat → Int32) (x1 : Int32) (x2 : Int32) (b3 : Nat) (o3 : Nat → Int64) (sz : Nat) (R : Int32 × (Nat → Int32) × (Nat → Nat → Int32) × (Nat → Int64)) (hf : fL_leaf N I0 M0 x1 x2 o3 = some R) : Met l yL_leaf wyL_leaf ({ frames := 8, cells := 1, slots := 6, locals := 162 }) (va_Pc [.ref (a0 0), .int x1, .int x2, .ref b3] (wb_preL D [(cB, .byte), (cI, .int), (cZ, .boolean), (cJ, .long)] ((wWX11 cB cI cZ a0 I0 M0) ++ [((b3, .inl (cJ, 1, .inr (.inl o3))) : Nat × va_E)]) sz)) (va_Qi (fun r (_ : Unit) => r = R.1) (fun _ t => wb_post D [(cB, .byte), (cI, .int), (cZ, .boolean), (cJ, .long)] (va_A ((wWX11 cB cI cZ a0 I0 M0) ++ [((b3, .inl (cJ, 1, .inr (.inl o3))) : Nat × va_E)]) sz) ((wWX11 cB cI cZ a0 R.2.1 R.2.2.1) ++ [((b3, .inl (cJ, 1, .inr (.inl R.2.2.2))) : Nat × va_E)]) t) (va_A ((wWX11 cB cI cZ a0 I0 M0) ++ [((b3, .inl (cJ, 1, .inr (.inl o3))) : Nat × va_E)]) sz)) 1 6 (va_A ((wWX11 cB cI cZ a0 I0 M0) ++ [((b3, .inl (cJ, 1, .inr (.inl o3))) : Nat × va_E)]) sz) := by
  refine va_MetW (cc := cL_leaf) (maxL := 5) (ret := (some .int)) (hh := [(0, 10, 13, 19)]) pn_L rfl ?_
  intro p e s m args below meth c s₁ B hml hv
  obtain ⟨rfl, hsz, hP, hK, hD0, hX, hNc⟩ := hv
  have hx := B.exec
  have hb := B.bytes
  have hr := B.returns
  have hts := atoms_spec (ws := wyL_leaf) B.pre
  have hown : s.vm.findClass RL = some m.cls := (findClass_of_methodNamed B.named :)
  have hlocks := B.notSynchronized
  have htb := vx_table (x := yL_leaf) (hh := [(0, 10, 13, 19)]) B (hts (.codeWith yL_leaf cL_leaf 5 (some .int) [(0, 10, 13, 19)]) List.mem_cons_self)
  have hK3 : va_K D vwCl [(cB, .byte), (cI, .int), (cZ, .boolean)] s := hK.sub [0, 1, 2] rfl
  subst hsz
  have hD := hD0.self (sz := s.heap.size)
  generalize hAe : va_A ((wWX11 cB cI cZ a0 I0 M0) ++ [((b3, .inl (cJ, 1, .inr (.inl o3))) : Nat × va_E)]) s.heap.size = A at hD ⊢
  have hA : ∀ q : Nat, s.heap.size ≤ q → A q := fun q h => by rw [← hAe]; exact Or.inr h
  have hl := lv_entry ([.ref (a0 0), .int x1, .int x2, .ref b3]) (n := 5) (Nat.le_of_ble_eq_true rfl)
  rw [lg_entry_eq]
  generalize (lg_sl ([.ref (a0 0), .int x1, .int x2, .ref b3]) ++ List.replicate (5 - (lg_sl ([.ref (a0 0), .int x1, .int x2, .ref b3])).length) Slot.unset).toArray = ls at hl ⊢
  have hl : lv_has ls 5 [(0, .ref (a0 0)), (1, .int x1), (2, .int x2), (3, .ref b3)] := hl
  unfold fL_leaf at hf
  obtain ⟨H, hHe⟩ : ∃ H : Heap, H = s.heap := ⟨_, rfl⟩
  obtain ⟨locs, hle⟩ : ∃ locs : List Loc, locs = [] := ⟨_, rfl⟩
  refine wb_start (H := H) (locs := locs) hHe hle ?_
  rw [← hHe] at hP hX
  have hS : va_S A s.heap H locs := by rw [hHe, hle]; exact va_S.rf
  rcases wb_hpi hf with ⟨k, hrx, hf⟩ | ⟨r, hr9, hf⟩
  · refine lv_aload_n hx hb dL_leaf_0 rfl (lv_at hl 3 rfl) ?_
    refine lv_iconst (v := (0 : Int32)) hx hb dL_leaf_1 (by decide) ?_
    refine lv_aload_n hx hb dL_leaf_2 rfl (lv_at hl 0 rfl) ?_
    refine lv_iload_n hx hb dL_leaf_3 rfl (lv_at hl 1 rfl) ?_
    refine lv_iload_n hx hb dL_leaf_4 rfl (lv_at hl 2 rfl) ?_
    refine vx_calli (vx_runV (As := [.int x1, .int x2]) (rest := [.int (0 : Int32), .ref b3]) ⟨hx, hb, hml, hown, hts⟩ (ct_X11_leaf l hlt D cB cI cZ N a0 I0 M0 x1 x2 H.size k hrx) (cwV 2 hts gyL_leaf_X11_leaf rfl rfl rfl cdX11_leaf ⟨Nat.le_of_ble_eq_true rfl, Nat.le_of_ble_eq_true rfl⟩) (wb_preXV (wj_P1 (X := (wWX11 cB cI cZ a0 I0 M0)) hP) hK3 hX (wr_11 hK hP (q0 := 0) rfl)) rfl rfl hl.1 rfl (lv_room (Nat.le_of_ble_eq_true rfl)) dL_leaf_5 ⟨Nat.le_of_ble_eq_true rfl, Nat.le_of_ble_eq_true rfl⟩) hS (fun q h1 h2 => absurd h1 (Nat.not_lt.mpr h2)) (fun q h => hA q (Nat.le_trans hS.1 h)) (fun q h1 h2 => absurd h1 (Nat.not_lt.mpr h2)) (fun E ce q9 u t H locs ht hvm hpx hB hz1 hk1 hS hq9 hv9 hc9 => ?_) (fun r9 u t H locs ht hvm hw hB hz1 hk1 hS => hw.elim)
    have hP : va_P D vwCl ((wWX11 cB cI cZ a0 I0 M0) ++ [((b3, .inl (cJ, 1, .inr (.inl o3))) : Nat × va_E)]) H := hP.kept (fun k q hq => hk1 q.1 (hP k q hq).lt (Nat.not_le.mpr (hP k q hq).lt))
    by_cases hk1 : k = 1
    · subst hk1
      have hE : E = wb_E1 := hB.trans rfl
      subst hE
      refine vx_catch hown [] ⟨0, 10, 13, 19⟩ [] (htb.trans rfl) (fun z hz => nomatch hz) (by decide) (by decide) (hts (.classLink RL 19 "java/util/NoSuchElementException") (List.mem_of_getElem? (i := 1) rfl)) (va_Nw.use rfl hX.2.2.2.1) hq9 hv9 hc9 ?_
      refine lv_astore (lv' := [(4, .ref q9), (0, .ref (a0 0)), (1, .int x1), (2, .int x2), (3, .ref b3)]) hx hb dL_leaf_13 hl (by decide) rfl (fun ls hl => ?_)
      refine lv_iconst (v := (1 : Int32)) hx hb dL_leaf_15 (by decide) ?_
      replace hf := wb_t rfl hf
      refine W.widen (k := 1) (n := 6) (Nat.le_of_ble_eq_true rfl) (Nat.le_of_ble_eq_true rfl) ?_
      exact W.iret (v := (1 : Int32)) hx hb hr (fun t ht hW => by rw [← Option.some.inj hf]; exact ⟨⟨(1 : Int32), (), rfl, rfl, by rw [ht]; exact hP, va_K.moved hW.alike hK, hD⟩, hS.F ht⟩) hS.2.2 dL_leaf_16
    replace hf := wb_f hk1 hf
    exact absurd hf (fun h => nomatch h)
  · refine lv_aload_n hx hb dL_leaf_0 rfl (lv_at hl 3 rfl) ?_
    refine lv_iconst (v := (0 : Int32)) hx hb dL_leaf_1 (by decide) ?_
    refine lv_aload_n hx hb dL_leaf_2 rfl (lv_at hl 0 rfl) ?_
    refine lv_iload_n hx hb dL_leaf_3 rfl (lv_at hl 1 rfl) ?_
    refine lv_iload_n hx hb dL_leaf_4 rfl (lv_at hl 2 rfl) ?_
    have hPc := wj_P1 hP
    have hDc := wj_D1 hD
    have hFc := wj_F hDc hS hA
    refine va_calli (va_runV (As := [.int x1, .int x2]) (rest := [.int (0 : Int32), .ref b3]) ⟨hx, hb, hml, hown, hts⟩ (cn_X11_leaf l D cB cI cZ N a0 I0 M0 x1 x2 H.size r hr9) (cwV 2 hts gyL_leaf_X11_leaf rfl rfl rfl cdX11_leaf ⟨Nat.le_of_ble_eq_true rfl, Nat.le_of_ble_eq_true rfl⟩) (wb_preDV hPc hK3 hDc (wr_11 hK hP (q0 := 0) rfl)) rfl rfl hl.1 rfl (lv_room (Nat.le_of_ble_eq_true rfl)) dL_leaf_5 ⟨Nat.le_of_ble_eq_true rfl, Nat.le_of_ble_eq_true rfl⟩) hS (fun q _ h => hFc q h) hFc (fun r9 u t H locs ht hvm hw hB hz1 hk1 hS => ?_)
    obtain ⟨hP, hD⟩ := wj_1 hP hD hk1 hFc ht hB
    rw [hw]
    refine lv_i2l hx hb dL_leaf_8 rfl ?_
    refine va_last hx hb hK hP hD hS 52 3 rfl rfl (show ¬ ((0 : Int32) < 0 ∨ 1 ≤ (0 : Int32).toNatClampNeg) from by decide) dL_leaf_9 (fun H locs hP hD hS => ?_)
    have hP : va_P D vwCl ((wWX11 cB cI cZ a0 r.2.1 r.2.2) ++ [((b3, .inl (cJ, 1, .inr (.inl (vp_updL o3 ((0 : Int32)).toNatClampNeg r.1.toInt64)))) : Nat × va_E)]) H := hP
    have hD : va_D A ((wWX11 cB cI cZ a0 r.2.1 r.2.2) ++ [((b3, .inl (cJ, 1, .inr (.inl (vp_updL o3 ((0 : Int32)).toNatClampNeg r.1.toInt64)))) : Nat × va_E)]) := hD
    obtain ⟨o3_1, eo3_1, hf⟩ := wb_v hf
    rw [← eo3_1] at hP hD
    refine lv_goto (tgt := 17) hx hb dL_leaf_10 (by decide) ?_
    refine lv_iconst (v := (0 : Int32)) hx hb dL_leaf_17 (by decide) ?_
    refine W.widen (k := 1) (n := 6) (Nat.le_of_ble_eq_true rfl) (Nat.le_of_ble_eq_true rfl) ?_
    exact W.iret (v := (0 : Int32)) hx hb hr (fun t ht hW => by rw [← Option.some.inj hf]; exact ⟨⟨(0 : Int32), (), rfl, rfl, by rw [ht]; exact hP, va_K.moved hW.alike hK, hD⟩, hS.F ht⟩) hS.2.2 dL_leaf_18

set_option maxHeartbeats 4000000 in
set_option maxRecDepth 100000 in
theorem cn_L_order (l : Launch) (hlt : l.stackTraces = false) (D : va_G) (cB cI cZ cJ : ClassId) (N : Nat) (a0 : Nat → Nat) (I0 : Nat → Int32) (M0 : Nat → Nat → Int32) (x1 : Int32) (x2 : Int32) (x3 : Int32) (b4 : Nat) (o4 : Nat → Int64) (sz : Nat) (R : Int32 × (Nat → Int32) × (Nat → Nat → Int32) × (Nat → Int64)) (hf : fL_order N I0 M0 x1 x2 x3 o4 = some R) : Met l yL_order wyL_order ({ frames := 8, cells := 1, slots := 6, locals := 163 }) (va_Pc [.ref (a0 0), .int x1, .int x2, .int x3, .ref b4] (wb_preL D [(cB, .byte), (cI, .int), (cZ, .boolean), (cJ, .long)] ((wWX11 cB cI cZ a0 I0 M0) ++ [((b4, .inl (cJ, 1, .inr (.inl o4))) : Nat × va_E)]) sz)) (va_Qi (fun r (_ : Unit) => r = R.1) (fun _ t => wb_post D [(cB, .byte), (cI, .int), (cZ, .boolean), (cJ, .long)] (va_A ((wWX11 cB cI cZ a0 I0 M0) ++ [((b4, .inl (cJ, 1, .inr (.inl o4))) : Nat × va_E)]) sz) ((wWX11 cB cI cZ a0 R.2.1 R.2.2.1) ++ [((b4, .inl (cJ, 1, .inr (.inl R.2.2.2))) : Nat × va_E)]) t) (va_A ((wWX11 cB cI cZ a0 I0 M0) ++ [((b4, .inl (cJ, 1, .inr (.inl o4))) : Nat × va_E)]) sz)) 1 6 (va_A ((wWX11 cB cI cZ a0 I0 M0) ++ [((b4, .inl (cJ, 1, .inr (.inl o4))) : Nat × va_E)]) sz) := by
  refine va_MetW (cc := cL_order) (maxL := 6) (ret := (some .int)) (hh := [(0, 12, 15, 19)]) pn_L rfl ?_
  intro p e s m args below meth c s₁ B hml hv
  obtain ⟨rfl, hsz, hP, hK, hD0, hX, hNc⟩ := hv
  have hx := B.exec
  have hb := B.bytes
  have hr := B.returns
  have hts := atoms_spec (ws := wyL_order) B.pre
  have hown : s.vm.findClass RL = some m.cls := (findClass_of_methodNamed B.named :)
  have hlocks := B.notSynchronized
  have htb := vx_table (x := yL_order) (hh := [(0, 12, 15, 19)]) B (hts (.codeWith yL_order cL_order 6 (some .int) [(0, 12, 15, 19)]) List.mem_cons_self)
  have hK3 : va_K D vwCl [(cB, .byte), (cI, .int), (cZ, .boolean)] s := hK.sub [0, 1, 2] rfl
  subst hsz
  have hD := hD0.self (sz := s.heap.size)
  generalize hAe : va_A ((wWX11 cB cI cZ a0 I0 M0) ++ [((b4, .inl (cJ, 1, .inr (.inl o4))) : Nat × va_E)]) s.heap.size = A at hD ⊢
  have hA : ∀ q : Nat, s.heap.size ≤ q → A q := fun q h => by rw [← hAe]; exact Or.inr h
  have hl := lv_entry ([.ref (a0 0), .int x1, .int x2, .int x3, .ref b4]) (n := 6) (Nat.le_of_ble_eq_true rfl)
  rw [lg_entry_eq]
  generalize (lg_sl ([.ref (a0 0), .int x1, .int x2, .int x3, .ref b4]) ++ List.replicate (6 - (lg_sl ([.ref (a0 0), .int x1, .int x2, .int x3, .ref b4])).length) Slot.unset).toArray = ls at hl ⊢
  have hl : lv_has ls 6 [(0, .ref (a0 0)), (1, .int x1), (2, .int x2), (3, .int x3), (4, .ref b4)] := hl
  unfold fL_order at hf
  obtain ⟨H, hHe⟩ : ∃ H : Heap, H = s.heap := ⟨_, rfl⟩
  obtain ⟨locs, hle⟩ : ∃ locs : List Loc, locs = [] := ⟨_, rfl⟩
  refine wb_start (H := H) (locs := locs) hHe hle ?_
  rw [← hHe] at hP hX
  have hS : va_S A s.heap H locs := by rw [hHe, hle]; exact va_S.rf
  rcases wb_hpi hf with ⟨k, hrx, hf⟩ | ⟨r, hr9, hf⟩
  · refine lv_aload hx hb dL_order_0 (lv_at hl 4 rfl) ?_
    refine lv_iconst (v := (0 : Int32)) hx hb dL_order_2 (by decide) ?_
    refine lv_aload_n hx hb dL_order_3 rfl (lv_at hl 0 rfl) ?_
    refine lv_iload_n hx hb dL_order_4 rfl (lv_at hl 1 rfl) ?_
    refine lv_iload_n hx hb dL_order_5 rfl (lv_at hl 2 rfl) ?_
    refine lv_iload_n hx hb dL_order_6 rfl (lv_at hl 3 rfl) ?_
    refine vx_calli (vx_runV (As := [.int x1, .int x2, .int x3]) (rest := [.int (0 : Int32), .ref b4]) ⟨hx, hb, hml, hown, hts⟩ (ct_X11_order l hlt D cB cI cZ N a0 I0 M0 x1 x2 x3 H.size k hrx) (cwV 3 hts gyL_order_X11_order rfl rfl rfl cdX11_order ⟨Nat.le_of_ble_eq_true rfl, Nat.le_of_ble_eq_true rfl⟩) (wb_preXV (wj_P1 (X := (wWX11 cB cI cZ a0 I0 M0)) hP) hK3 hX (wr_11 hK hP (q0 := 0) rfl)) rfl rfl hl.1 rfl (lv_room (Nat.le_of_ble_eq_true rfl)) dL_order_7 ⟨Nat.le_of_ble_eq_true rfl, Nat.le_of_ble_eq_true rfl⟩) hS (fun q h1 h2 => absurd h1 (Nat.not_lt.mpr h2)) (fun q h => hA q (Nat.le_trans hS.1 h)) (fun q h1 h2 => absurd h1 (Nat.not_lt.mpr h2)) (fun E ce q9 u t H locs ht hvm hpx hB hz1 hk1 hS hq9 hv9 hc9 => ?_) (fun r9 u t H locs ht hvm hw hB hz1 hk1 hS => hw.elim)
    have hP : va_P D vwCl ((wWX11 cB cI cZ a0 I0 M0) ++ [((b4, .inl (cJ, 1, .inr (.inl o4))) : Nat × va_E)]) H := hP.kept (fun k q hq => hk1 q.1 (hP k q hq).lt (Nat.not_le.mpr (hP k q hq).lt))
    by_cases hk1 : k = 1
    · subst hk1
      have hE : E = wb_E1 := hB.trans rfl
      subst hE
      refine vx_catch hown [] ⟨0, 12, 15, 19⟩ [] (htb.trans rfl) (fun z hz => nomatch hz) (by decide) (by decide) (hts (.classLink RL 19 "java/util/NoSuchElementException") (List.mem_of_getElem? (i := 1) rfl)) (va_Nw.use rfl hX.2.2.2.1) hq9 hv9 hc9 ?_
      refine lv_astore (lv' := [(5, .ref q9), (0, .ref (a0 0)), (1, .int x1), (2, .int x2), (3, .int x3), (4, .ref b4)]) hx hb dL_order_15 hl (by decide) rfl (fun ls hl => ?_)
      refine lv_iconst (v := (1 : Int32)) hx hb dL_order_17 (by decide) ?_
      replace hf := wb_t rfl hf
      refine W.widen (k := 1) (n := 6) (Nat.le_of_ble_eq_true rfl) (Nat.le_of_ble_eq_true rfl) ?_
      exact W.iret (v := (1 : Int32)) hx hb hr (fun t ht hW => by rw [← Option.some.inj hf]; exact ⟨⟨(1 : Int32), (), rfl, rfl, by rw [ht]; exact hP, va_K.moved hW.alike hK, hD⟩, hS.F ht⟩) hS.2.2 dL_order_18
    replace hf := wb_f hk1 hf
    exact absurd hf (fun h => nomatch h)
  · refine lv_aload hx hb dL_order_0 (lv_at hl 4 rfl) ?_
    refine lv_iconst (v := (0 : Int32)) hx hb dL_order_2 (by decide) ?_
    refine lv_aload_n hx hb dL_order_3 rfl (lv_at hl 0 rfl) ?_
    refine lv_iload_n hx hb dL_order_4 rfl (lv_at hl 1 rfl) ?_
    refine lv_iload_n hx hb dL_order_5 rfl (lv_at hl 2 rfl) ?_
    refine lv_iload_n hx hb dL_order_6 rfl (lv_at hl 3 rfl) ?_
    have hPc := wj_P1 hP
    have hDc := wj_D1 hD
    have hFc := wj_F hDc hS hA
    refine va_calli (va_runV (As := [.int x1, .int x2, .int x3]) (rest := [.int (0 : Int32), .ref b4]) ⟨hx, hb, hml, hown, hts⟩ (cn_X11_order l D cB cI cZ N a0 I0 M0 x1 x2 x3 H.size r hr9) (cwV 3 hts gyL_order_X11_order rfl rfl rfl cdX11_order ⟨Nat.le_of_ble_eq_true rfl, Nat.le_of_ble_eq_true rfl⟩) (wb_preDV hPc hK3 hDc (wr_11 hK hP (q0 := 0) rfl)) rfl rfl hl.1 rfl (lv_room (Nat.le_of_ble_eq_true rfl)) dL_order_7 ⟨Nat.le_of_ble_eq_true rfl, Nat.le_of_ble_eq_true rfl⟩) hS (fun q _ h => hFc q h) hFc (fun r9 u t H locs ht hvm hw hB hz1 hk1 hS => ?_)
    obtain ⟨hP, hD⟩ := wj_1 hP hD hk1 hFc ht hB
    rw [hw]
    refine lv_i2l hx hb dL_order_10 rfl ?_
    refine va_last hx hb hK hP hD hS 52 3 rfl rfl (show ¬ ((0 : Int32) < 0 ∨ 1 ≤ (0 : Int32).toNatClampNeg) from by decide) dL_order_11 (fun H locs hP hD hS => ?_)
    have hP : va_P D vwCl ((wWX11 cB cI cZ a0 r.2.1 r.2.2) ++ [((b4, .inl (cJ, 1, .inr (.inl (vp_updL o4 ((0 : Int32)).toNatClampNeg r.1.toInt64)))) : Nat × va_E)]) H := hP
    have hD : va_D A ((wWX11 cB cI cZ a0 r.2.1 r.2.2) ++ [((b4, .inl (cJ, 1, .inr (.inl (vp_updL o4 ((0 : Int32)).toNatClampNeg r.1.toInt64)))) : Nat × va_E)]) := hD
    obtain ⟨o4_1, eo4_1, hf⟩ := wb_v hf
    rw [← eo4_1] at hP hD
    refine lv_goto (tgt := 19) hx hb dL_order_12 (by decide) ?_
    refine lv_iconst (v := (0 : Int32)) hx hb dL_order_19 (by decide) ?_
    refine W.widen (k := 1) (n := 6) (Nat.le_of_ble_eq_true rfl) (Nat.le_of_ble_eq_true rfl) ?_
    exact W.iret (v := (0 : Int32)) hx hb hr (fun t ht hW => by rw [← Option.some.inj hf]; exact ⟨⟨(0 : Int32), (), rfl, rfl, by rw [ht]; exact hP, va_K.moved hW.alike hK, hD⟩, hS.F ht⟩) hS.2.2 dL_order_20

set_option maxHeartbeats 4000000 in
set_option maxRecDepth 100000 in
theorem cn_L_same (l : Launch) (hlt : l.stackTraces = false) (D : va_G) (cB cI cZ cJ : ClassId) (N : Nat) (a0 : Nat → Nat) (I0 : Nat → Int32) (M0 : Nat → Nat → Int32) (x1 : Int32) (x2 : Int32) (x3 : Int32) (b4 : Nat) (o4 : Nat → Int64) (sz : Nat) (R : Int32 × (Nat → Int32) × (Nat → Nat → Int32) × (Nat → Int64)) (hf : fL_same N I0 M0 x1 x2 x3 o4 = some R) : Met l yL_same wyL_same ({ frames := 8, cells := 1, slots := 6, locals := 163 }) (va_Pc [.ref (a0 0), .int x1, .int x2, .int x3, .ref b4] (wb_preL D [(cB, .byte), (cI, .int), (cZ, .boolean), (cJ, .long)] ((wWX11 cB cI cZ a0 I0 M0) ++ [((b4, .inl (cJ, 1, .inr (.inl o4))) : Nat × va_E)]) sz)) (va_Qi (fun r (_ : Unit) => r = R.1) (fun _ t => wb_post D [(cB, .byte), (cI, .int), (cZ, .boolean), (cJ, .long)] (va_A ((wWX11 cB cI cZ a0 I0 M0) ++ [((b4, .inl (cJ, 1, .inr (.inl o4))) : Nat × va_E)]) sz) ((wWX11 cB cI cZ a0 R.2.1 R.2.2.1) ++ [((b4, .inl (cJ, 1, .inr (.inl R.2.2.2))) : Nat × va_E)]) t) (va_A ((wWX11 cB cI cZ a0 I0 M0) ++ [((b4, .inl (cJ, 1, .inr (.inl o4))) : Nat × va_E)]) sz)) 1 6 (va_A ((wWX11 cB cI cZ a0 I0 M0) ++ [((b4, .inl (cJ, 1, .inr (.inl o4))) : Nat × va_E)]) sz) := by
  refine va_MetW (cc := cL_same) (maxL := 6) (ret := (some .int)) (hh := [(0, 19, 22, 19)]) pn_L rfl ?_
  intro p e s m args below meth c s₁ B hml hv
  obtain ⟨rfl, hsz, hP, hK, hD0, hX, hNc⟩ := hv
  have hx := B.exec
  have hb := B.bytes
  have hr := B.returns
  have hts := atoms_spec (ws := wyL_same) B.pre
  have hown : s.vm.findClass RL = some m.cls := (findClass_of_methodNamed B.named :)
  have hlocks := B.notSynchronized
  have htb := vx_table (x := yL_same) (hh := [(0, 19, 22, 19)]) B (hts (.codeWith yL_same cL_same 6 (some .int) [(0, 19, 22, 19)]) List.mem_cons_self)
  have hK3 : va_K D vwCl [(cB, .byte), (cI, .int), (cZ, .boolean)] s := hK.sub [0, 1, 2] rfl
  subst hsz
  have hD := hD0.self (sz := s.heap.size)
  generalize hAe : va_A ((wWX11 cB cI cZ a0 I0 M0) ++ [((b4, .inl (cJ, 1, .inr (.inl o4))) : Nat × va_E)]) s.heap.size = A at hD ⊢
  have hA : ∀ q : Nat, s.heap.size ≤ q → A q := fun q h => by rw [← hAe]; exact Or.inr h
  have hl := lv_entry ([.ref (a0 0), .int x1, .int x2, .int x3, .ref b4]) (n := 6) (Nat.le_of_ble_eq_true rfl)
  rw [lg_entry_eq]
  generalize (lg_sl ([.ref (a0 0), .int x1, .int x2, .int x3, .ref b4]) ++ List.replicate (6 - (lg_sl ([.ref (a0 0), .int x1, .int x2, .int x3, .ref b4])).length) Slot.unset).toArray = ls at hl ⊢
  have hl : lv_has ls 6 [(0, .ref (a0 0)), (1, .int x1), (2, .int x2), (3, .int x3), (4, .ref b4)] := hl
  unfold fL_same at hf
  obtain ⟨H, hHe⟩ : ∃ H : Heap, H = s.heap := ⟨_, rfl⟩
  obtain ⟨locs, hle⟩ : ∃ locs : List Loc, locs = [] := ⟨_, rfl⟩
  refine wb_start (H := H) (locs := locs) hHe hle ?_
  rw [← hHe] at hP hX
  have hS : va_S A s.heap H locs := by rw [hHe, hle]; exact va_S.rf
  rcases wb_hpi hf with ⟨k, hrx, hf⟩ | ⟨r, hr9, hf⟩
  · refine lv_aload hx hb dL_same_0 (lv_at hl 4 rfl) ?_
    refine lv_iconst (v := (0 : Int32)) hx hb dL_same_2 (by decide) ?_
    refine lv_aload_n hx hb dL_same_3 rfl (lv_at hl 0 rfl) ?_
    refine lv_iload_n hx hb dL_same_4 rfl (lv_at hl 1 rfl) ?_
    refine lv_iload_n hx hb dL_same_5 rfl (lv_at hl 2 rfl) ?_
    refine lv_iload_n hx hb dL_same_6 rfl (lv_at hl 3 rfl) ?_
    refine vx_calli (vx_runV (As := [.int x1, .int x2, .int x3]) (rest := [.int (0 : Int32), .ref b4]) ⟨hx, hb, hml, hown, hts⟩ (ct_X11_same l hlt D cB cI cZ N a0 I0 M0 x1 x2 x3 H.size k hrx) (cwV 3 hts gyL_same_X11_same rfl rfl rfl cdX11_same ⟨Nat.le_of_ble_eq_true rfl, Nat.le_of_ble_eq_true rfl⟩) (wb_preXV (wj_P1 (X := (wWX11 cB cI cZ a0 I0 M0)) hP) hK3 hX (wr_11 hK hP (q0 := 0) rfl)) rfl rfl hl.1 rfl (lv_room (Nat.le_of_ble_eq_true rfl)) dL_same_7 ⟨Nat.le_of_ble_eq_true rfl, Nat.le_of_ble_eq_true rfl⟩) hS (fun q h1 h2 => absurd h1 (Nat.not_lt.mpr h2)) (fun q h => hA q (Nat.le_trans hS.1 h)) (fun q h1 h2 => absurd h1 (Nat.not_lt.mpr h2)) (fun E ce q9 u t H locs ht hvm hpx hB hz1 hk1 hS hq9 hv9 hc9 => ?_) (fun r9 u t H locs ht hvm hw hB hz1 hk1 hS => hw.elim)
    have hP : va_P D vwCl ((wWX11 cB cI cZ a0 I0 M0) ++ [((b4, .inl (cJ, 1, .inr (.inl o4))) : Nat × va_E)]) H := hP.kept (fun k q hq => hk1 q.1 (hP k q hq).lt (Nat.not_le.mpr (hP k q hq).lt))
    by_cases hk1 : k = 1
    · subst hk1
      have hE : E = wb_E1 := hB.trans rfl
      subst hE
      refine vx_catch hown [] ⟨0, 19, 22, 19⟩ [] (htb.trans rfl) (fun z hz => nomatch hz) (by decide) (by decide) (hts (.classLink RL 19 "java/util/NoSuchElementException") (List.mem_of_getElem? (i := 1) rfl)) (va_Nw.use rfl hX.2.2.2.1) hq9 hv9 hc9 ?_
      refine lv_astore (lv' := [(5, .ref q9), (0, .ref (a0 0)), (1, .int x1), (2, .int x2), (3, .int x3), (4, .ref b4)]) hx hb dL_same_22 hl (by decide) rfl (fun ls hl => ?_)
      refine lv_iconst (v := (1 : Int32)) hx hb dL_same_24 (by decide) ?_
      replace hf := wb_t rfl hf
      refine W.widen (k := 1) (n := 6) (Nat.le_of_ble_eq_true rfl) (Nat.le_of_ble_eq_true rfl) ?_
      exact W.iret (v := (1 : Int32)) hx hb hr (fun t ht hW => by rw [← Option.some.inj hf]; exact ⟨⟨(1 : Int32), (), rfl, rfl, by rw [ht]; exact hP, va_K.moved hW.alike hK, hD⟩, hS.F ht⟩) hS.2.2 dL_same_25
    replace hf := wb_f hk1 hf
    exact absurd hf (fun h => nomatch h)
  · refine lv_aload hx hb dL_same_0 (lv_at hl 4 rfl) ?_
    refine lv_iconst (v := (0 : Int32)) hx hb dL_same_2 (by decide) ?_
    refine lv_aload_n hx hb dL_same_3 rfl (lv_at hl 0 rfl) ?_
    refine lv_iload_n hx hb dL_same_4 rfl (lv_at hl 1 rfl) ?_
    refine lv_iload_n hx hb dL_same_5 rfl (lv_at hl 2 rfl) ?_
    refine lv_iload_n hx hb dL_same_6 rfl (lv_at hl 3 rfl) ?_
    refine vp_callSi (W.runV (As := [.int x1, .int x2, .int x3]) (rest := [.int (0 : Int32), .ref b4]) ⟨hx, hb, hml, hown, hts⟩ (cn_X11_same l D cB cI cZ N a0 I0 M0 x1 x2 x3 r hr9) (cwV 3 hts gyL_same_X11_same rfl rfl rfl cdX11_same ⟨Nat.le_of_ble_eq_true rfl, Nat.le_of_ble_eq_true rfl⟩) (wb_preV (wj_P1 (X := (wWX11 cB cI cZ a0 I0 M0)) hP) hK3 (wr_11 hK hP (q0 := 0) rfl)) rfl rfl hl.1 rfl (lv_room (Nat.le_of_ble_eq_true rfl)) dL_same_7 ⟨Nat.le_of_ble_eq_true rfl, Nat.le_of_ble_eq_true rfl⟩) (fun r9 e9 => ?_)
    rw [e9]
    refine lv_if_eq (tgt := 17) hx hb dL_same_10 (by decide) (fun hc => ?_) (fun hc => ?_)
    · replace hf := wb_t hc hf
      refine lv_lconst (v := (0 : Int64)) hx hb dL_same_17 (by decide) ?_
      refine va_last hx hb hK hP hD hS 52 3 rfl rfl (show ¬ ((0 : Int32) < 0 ∨ 1 ≤ (0 : Int32).toNatClampNeg) from by decide) dL_same_18 (fun H locs hP hD hS => ?_)
      have hP : va_P D vwCl ((wWX11 cB cI cZ a0 I0 M0) ++ [((b4, .inl (cJ, 1, .inr (.inl (vp_updL o4 ((0 : Int32)).toNatClampNeg (0 : Int64))))) : Nat × va_E)]) H := hP
      have hD : va_D A ((wWX11 cB cI cZ a0 I0 M0) ++ [((b4, .inl (cJ, 1, .inr (.inl (vp_updL o4 ((0 : Int32)).toNatClampNeg (0 : Int64))))) : Nat × va_E)]) := hD
      obtain ⟨o4_1, eo4_1, hf⟩ := wb_v hf
      rw [← eo4_1] at hP hD
      refine lv_goto (tgt := 26) hx hb dL_same_19 (by decide) ?_
      refine lv_iconst (v := (0 : Int32)) hx hb dL_same_26 (by decide) ?_
      refine W.widen (k := 1) (n := 6) (Nat.le_of_ble_eq_true rfl) (Nat.le_of_ble_eq_true rfl) ?_
      exact W.iret (v := (0 : Int32)) hx hb hr (fun t ht hW => by rw [← Option.some.inj hf]; exact ⟨⟨(0 : Int32), (), rfl, rfl, by rw [ht]; exact hP, va_K.moved hW.alike hK, hD⟩, hS.F ht⟩) hS.2.2 dL_same_27
    · replace hf := wb_f hc hf
      refine lv_lconst (v := (1 : Int64)) hx hb dL_same_13 (by decide) ?_
      refine lv_goto (tgt := 18) hx hb dL_same_14 (by decide) ?_
      refine va_last hx hb hK hP hD hS 52 3 rfl rfl (show ¬ ((0 : Int32) < 0 ∨ 1 ≤ (0 : Int32).toNatClampNeg) from by decide) dL_same_18 (fun H locs hP hD hS => ?_)
      have hP : va_P D vwCl ((wWX11 cB cI cZ a0 I0 M0) ++ [((b4, .inl (cJ, 1, .inr (.inl (vp_updL o4 ((0 : Int32)).toNatClampNeg (1 : Int64))))) : Nat × va_E)]) H := hP
      have hD : va_D A ((wWX11 cB cI cZ a0 I0 M0) ++ [((b4, .inl (cJ, 1, .inr (.inl (vp_updL o4 ((0 : Int32)).toNatClampNeg (1 : Int64))))) : Nat × va_E)]) := hD
      obtain ⟨o4_2, eo4_2, hf⟩ := wb_v hf
      rw [← eo4_2] at hP hD
      refine lv_goto (tgt := 26) hx hb dL_same_19 (by decide) ?_
      refine lv_iconst (v := (0 : Int32)) hx hb dL_same_26 (by decide) ?_
      refine W.widen (k := 1) (n := 6) (Nat.le_of_ble_eq_true rfl) (Nat.le_of_ble_eq_true rfl) ?_
      exact W.iret (v := (0 : Int32)) hx hb hr (fun t ht hW => by rw [← Option.some.inj hf]; exact ⟨⟨(0 : Int32), (), rfl, rfl, by rw [ht]; exact hP, va_K.moved hW.alike hK, hD⟩, hS.F ht⟩) hS.2.2 dL_same_27

set_option maxHeartbeats 4000000 in
set_option maxRecDepth 100000 in
theorem cn_L_births (l : Launch) (hlt : l.stackTraces = false) (D : va_G) (cB cI cZ cJ : ClassId) (N : Nat) (a0 : Nat → Nat) (I0 : Nat → Int32) (M0 : Nat → Nat → Int32) (x1 : Int32) (x2 : Int32) (b3 : Nat) (o3 : Nat → Int64) (sz : Nat) (R : Int32 × (Nat → Int32) × (Nat → Nat → Int32) × (Nat → Int64)) (hf : fL_births N I0 M0 x1 x2 o3 = some R) : Met l yL_births wyL_births ({ frames := 8, cells := 1, slots := 6, locals := 162 }) (va_Pc [.ref (a0 0), .int x1, .int x2, .ref b3] (wb_preL D [(cB, .byte), (cI, .int), (cZ, .boolean), (cJ, .long)] ((wWX11 cB cI cZ a0 I0 M0) ++ [((b3, .inl (cJ, 1, .inr (.inl o3))) : Nat × va_E)]) sz)) (va_Qi (fun r (_ : Unit) => r = R.1) (fun _ t => wb_post D [(cB, .byte), (cI, .int), (cZ, .boolean), (cJ, .long)] (va_A ((wWX11 cB cI cZ a0 I0 M0) ++ [((b3, .inl (cJ, 1, .inr (.inl o3))) : Nat × va_E)]) sz) ((wWX11 cB cI cZ a0 R.2.1 R.2.2.1) ++ [((b3, .inl (cJ, 1, .inr (.inl R.2.2.2))) : Nat × va_E)]) t) (va_A ((wWX11 cB cI cZ a0 I0 M0) ++ [((b3, .inl (cJ, 1, .inr (.inl o3))) : Nat × va_E)]) sz)) 1 6 (va_A ((wWX11 cB cI cZ a0 I0 M0) ++ [((b3, .inl (cJ, 1, .inr (.inl o3))) : Nat × va_E)]) sz) := by
  refine va_MetW (cc := cL_births) (maxL := 5) (ret := (some .int)) (hh := [(0, 10, 13, 19)]) pn_L rfl ?_
  intro p e s m args below meth c s₁ B hml hv
  obtain ⟨rfl, hsz, hP, hK, hD0, hX, hNc⟩ := hv
  have hx := B.exec
  have hb := B.bytes
  have hr := B.returns
  have hts := atoms_spec (ws := wyL_births) B.pre
  have hown : s.vm.findClass RL = some m.cls := (findClass_of_methodNamed B.named :)
  have hlocks := B.notSynchronized
  have htb := vx_table (x := yL_births) (hh := [(0, 10, 13, 19)]) B (hts (.codeWith yL_births cL_births 5 (some .int) [(0, 10, 13, 19)]) List.mem_cons_self)
  have hK3 : va_K D vwCl [(cB, .byte), (cI, .int), (cZ, .boolean)] s := hK.sub [0, 1, 2] rfl
  subst hsz
  have hD := hD0.self (sz := s.heap.size)
  generalize hAe : va_A ((wWX11 cB cI cZ a0 I0 M0) ++ [((b3, .inl (cJ, 1, .inr (.inl o3))) : Nat × va_E)]) s.heap.size = A at hD ⊢
  have hA : ∀ q : Nat, s.heap.size ≤ q → A q := fun q h => by rw [← hAe]; exact Or.inr h
  have hl := lv_entry ([.ref (a0 0), .int x1, .int x2, .ref b3]) (n := 5) (Nat.le_of_ble_eq_true rfl)
  rw [lg_entry_eq]
  generalize (lg_sl ([.ref (a0 0), .int x1, .int x2, .ref b3]) ++ List.replicate (5 - (lg_sl ([.ref (a0 0), .int x1, .int x2, .ref b3])).length) Slot.unset).toArray = ls at hl ⊢
  have hl : lv_has ls 5 [(0, .ref (a0 0)), (1, .int x1), (2, .int x2), (3, .ref b3)] := hl
  unfold fL_births at hf
  obtain ⟨H, hHe⟩ : ∃ H : Heap, H = s.heap := ⟨_, rfl⟩
  obtain ⟨locs, hle⟩ : ∃ locs : List Loc, locs = [] := ⟨_, rfl⟩
  refine wb_start (H := H) (locs := locs) hHe hle ?_
  rw [← hHe] at hP hX
  have hS : va_S A s.heap H locs := by rw [hHe, hle]; exact va_S.rf
  rcases wb_hpi hf with ⟨k, hrx, hf⟩ | ⟨r, hr9, hf⟩
  · refine lv_aload_n hx hb dL_births_0 rfl (lv_at hl 3 rfl) ?_
    refine lv_iconst (v := (0 : Int32)) hx hb dL_births_1 (by decide) ?_
    refine lv_aload_n hx hb dL_births_2 rfl (lv_at hl 0 rfl) ?_
    refine lv_iload_n hx hb dL_births_3 rfl (lv_at hl 1 rfl) ?_
    refine lv_iload_n hx hb dL_births_4 rfl (lv_at hl 2 rfl) ?_
    refine vx_calli (vx_runV (As := [.int x1, .int x2]) (rest := [.int (0 : Int32), .ref b3]) ⟨hx, hb, hml, hown, hts⟩ (ct_X11_births l hlt D cB cI cZ N a0 I0 M0 x1 x2 H.size k hrx) (cwV 2 hts gyL_births_X11_births rfl rfl rfl cdX11_births ⟨Nat.le_of_ble_eq_true rfl, Nat.le_of_ble_eq_true rfl⟩) (wb_preXV (wj_P1 (X := (wWX11 cB cI cZ a0 I0 M0)) hP) hK3 hX (wr_11 hK hP (q0 := 0) rfl)) rfl rfl hl.1 rfl (lv_room (Nat.le_of_ble_eq_true rfl)) dL_births_5 ⟨Nat.le_of_ble_eq_true rfl, Nat.le_of_ble_eq_true rfl⟩) hS (fun q h1 h2 => absurd h1 (Nat.not_lt.mpr h2)) (fun q h => hA q (Nat.le_trans hS.1 h)) (fun q h1 h2 => absurd h1 (Nat.not_lt.mpr h2)) (fun E ce q9 u t H locs ht hvm hpx hB hz1 hk1 hS hq9 hv9 hc9 => ?_) (fun r9 u t H locs ht hvm hw hB hz1 hk1 hS => hw.elim)
    have hP : va_P D vwCl ((wWX11 cB cI cZ a0 I0 M0) ++ [((b3, .inl (cJ, 1, .inr (.inl o3))) : Nat × va_E)]) H := hP.kept (fun k q hq => hk1 q.1 (hP k q hq).lt (Nat.not_le.mpr (hP k q hq).lt))
    by_cases hk1 : k = 1
    · subst hk1
      have hE : E = wb_E1 := hB.trans rfl
      subst hE
      refine vx_catch hown [] ⟨0, 10, 13, 19⟩ [] (htb.trans rfl) (fun z hz => nomatch hz) (by decide) (by decide) (hts (.classLink RL 19 "java/util/NoSuchElementException") (List.mem_of_getElem? (i := 1) rfl)) (va_Nw.use rfl hX.2.2.2.1) hq9 hv9 hc9 ?_
      refine lv_astore (lv' := [(4, .ref q9), (0, .ref (a0 0)), (1, .int x1), (2, .int x2), (3, .ref b3)]) hx hb dL_births_13 hl (by decide) rfl (fun ls hl => ?_)
      refine lv_iconst (v := (1 : Int32)) hx hb dL_births_15 (by decide) ?_
      replace hf := wb_t rfl hf
      refine W.widen (k := 1) (n := 6) (Nat.le_of_ble_eq_true rfl) (Nat.le_of_ble_eq_true rfl) ?_
      exact W.iret (v := (1 : Int32)) hx hb hr (fun t ht hW => by rw [← Option.some.inj hf]; exact ⟨⟨(1 : Int32), (), rfl, rfl, by rw [ht]; exact hP, va_K.moved hW.alike hK, hD⟩, hS.F ht⟩) hS.2.2 dL_births_16
    replace hf := wb_f hk1 hf
    exact absurd hf (fun h => nomatch h)
  · refine lv_aload_n hx hb dL_births_0 rfl (lv_at hl 3 rfl) ?_
    refine lv_iconst (v := (0 : Int32)) hx hb dL_births_1 (by decide) ?_
    refine lv_aload_n hx hb dL_births_2 rfl (lv_at hl 0 rfl) ?_
    refine lv_iload_n hx hb dL_births_3 rfl (lv_at hl 1 rfl) ?_
    refine lv_iload_n hx hb dL_births_4 rfl (lv_at hl 2 rfl) ?_
    have hPc := wj_P1 hP
    have hDc := wj_D1 hD
    have hFc := wj_F hDc hS hA
    refine va_calli (va_runV (As := [.int x1, .int x2]) (rest := [.int (0 : Int32), .ref b3]) ⟨hx, hb, hml, hown, hts⟩ (cn_X11_births l D cB cI cZ N a0 I0 M0 x1 x2 H.size r hr9) (cwV 2 hts gyL_births_X11_births rfl rfl rfl cdX11_births ⟨Nat.le_of_ble_eq_true rfl, Nat.le_of_ble_eq_true rfl⟩) (wb_preDV hPc hK3 hDc (wr_11 hK hP (q0 := 0) rfl)) rfl rfl hl.1 rfl (lv_room (Nat.le_of_ble_eq_true rfl)) dL_births_5 ⟨Nat.le_of_ble_eq_true rfl, Nat.le_of_ble_eq_true rfl⟩) hS (fun q _ h => hFc q h) hFc (fun r9 u t H locs ht hvm hw hB hz1 hk1 hS => ?_)
    obtain ⟨hP, hD⟩ := wj_1 hP hD hk1 hFc ht hB
    rw [hw]
    refine lv_i2l hx hb dL_births_8 rfl ?_
    refine va_last hx hb hK hP hD hS 52 3 rfl rfl (show ¬ ((0 : Int32) < 0 ∨ 1 ≤ (0 : Int32).toNatClampNeg) from by decide) dL_births_9 (fun H locs hP hD hS => ?_)
    have hP : va_P D vwCl ((wWX11 cB cI cZ a0 r.2.1 r.2.2) ++ [((b3, .inl (cJ, 1, .inr (.inl (vp_updL o3 ((0 : Int32)).toNatClampNeg r.1.toInt64)))) : Nat × va_E)]) H := hP
    have hD : va_D A ((wWX11 cB cI cZ a0 r.2.1 r.2.2) ++ [((b3, .inl (cJ, 1, .inr (.inl (vp_updL o3 ((0 : Int32)).toNatClampNeg r.1.toInt64)))) : Nat × va_E)]) := hD
    obtain ⟨o3_1, eo3_1, hf⟩ := wb_v hf
    rw [← eo3_1] at hP hD
    refine lv_goto (tgt := 17) hx hb dL_births_10 (by decide) ?_
    refine lv_iconst (v := (0 : Int32)) hx hb dL_births_17 (by decide) ?_
    refine W.widen (k := 1) (n := 6) (Nat.le_of_ble_eq_true rfl) (Nat.le_of_ble_eq_true rfl) ?_
    exact W.iret (v := (0 : Int32)) hx hb hr (fun t ht hW => by rw [← Option.some.inj hf]; exact ⟨⟨(0 : Int32), (), rfl, rfl, by rw [ht]; exact hP, va_K.moved hW.alike hK, hD⟩, hS.F ht⟩) hS.2.2 dL_births_18

set_option maxHeartbeats 4000000 in
set_option maxRecDepth 100000 in
theorem cn_L_whence (l : Launch) (hlt : l.stackTraces = false) (D : va_G) (cB cI cZ cJ : ClassId) (N : Nat) (a0 : Nat → Nat) (I0 : Nat → Int32) (M0 : Nat → Nat → Int32) (x1 : Int32) (b2 : Nat) (o2 : Nat → Int64) (sz : Nat) (R : Int32 × (Nat → Int32) × (Nat → Nat → Int32) × (Nat → Int64)) (hf : fL_whence N I0 M0 x1 o2 = some R) : Met l yL_whence wyL_whence ({ frames := 8, cells := 1, slots := 6, locals := 161 }) (va_Pc [.ref (a0 0), .int x1, .ref b2] (wb_preL D [(cB, .byte), (cI, .int), (cZ, .boolean), (cJ, .long)] ((wWX11 cB cI cZ a0 I0 M0) ++ [((b2, .inl (cJ, 1, .inr (.inl o2))) : Nat × va_E)]) sz)) (va_Qi (fun r (_ : Unit) => r = R.1) (fun _ t => wb_post D [(cB, .byte), (cI, .int), (cZ, .boolean), (cJ, .long)] (va_A ((wWX11 cB cI cZ a0 I0 M0) ++ [((b2, .inl (cJ, 1, .inr (.inl o2))) : Nat × va_E)]) sz) ((wWX11 cB cI cZ a0 R.2.1 R.2.2.1) ++ [((b2, .inl (cJ, 1, .inr (.inl R.2.2.2))) : Nat × va_E)]) t) (va_A ((wWX11 cB cI cZ a0 I0 M0) ++ [((b2, .inl (cJ, 1, .inr (.inl o2))) : Nat × va_E)]) sz)) 1 6 (va_A ((wWX11 cB cI cZ a0 I0 M0) ++ [((b2, .inl (cJ, 1, .inr (.inl o2))) : Nat × va_E)]) sz) := by
  refine va_MetW (cc := cL_whence) (maxL := 4) (ret := (some .int)) (hh := [(0, 9, 12, 19)]) pn_L rfl ?_
  intro p e s m args below meth c s₁ B hml hv
  obtain ⟨rfl, hsz, hP, hK, hD0, hX, hNc⟩ := hv
  have hx := B.exec
  have hb := B.bytes
  have hr := B.returns
  have hts := atoms_spec (ws := wyL_whence) B.pre
  have hown : s.vm.findClass RL = some m.cls := (findClass_of_methodNamed B.named :)
  have hlocks := B.notSynchronized
  have htb := vx_table (x := yL_whence) (hh := [(0, 9, 12, 19)]) B (hts (.codeWith yL_whence cL_whence 4 (some .int) [(0, 9, 12, 19)]) List.mem_cons_self)
  have hK3 : va_K D vwCl [(cB, .byte), (cI, .int), (cZ, .boolean)] s := hK.sub [0, 1, 2] rfl
  subst hsz
  have hD := hD0.self (sz := s.heap.size)
  generalize hAe : va_A ((wWX11 cB cI cZ a0 I0 M0) ++ [((b2, .inl (cJ, 1, .inr (.inl o2))) : Nat × va_E)]) s.heap.size = A at hD ⊢
  have hA : ∀ q : Nat, s.heap.size ≤ q → A q := fun q h => by rw [← hAe]; exact Or.inr h
  have hl := lv_entry ([.ref (a0 0), .int x1, .ref b2]) (n := 4) (Nat.le_of_ble_eq_true rfl)
  rw [lg_entry_eq]
  generalize (lg_sl ([.ref (a0 0), .int x1, .ref b2]) ++ List.replicate (4 - (lg_sl ([.ref (a0 0), .int x1, .ref b2])).length) Slot.unset).toArray = ls at hl ⊢
  have hl : lv_has ls 4 [(0, .ref (a0 0)), (1, .int x1), (2, .ref b2)] := hl
  unfold fL_whence at hf
  obtain ⟨H, hHe⟩ : ∃ H : Heap, H = s.heap := ⟨_, rfl⟩
  obtain ⟨locs, hle⟩ : ∃ locs : List Loc, locs = [] := ⟨_, rfl⟩
  refine wb_start (H := H) (locs := locs) hHe hle ?_
  rw [← hHe] at hP hX
  have hS : va_S A s.heap H locs := by rw [hHe, hle]; exact va_S.rf
  rcases wb_hpi hf with ⟨k, hrx, hf⟩ | ⟨r, hr9, hf⟩
  · refine lv_aload_n hx hb dL_whence_0 rfl (lv_at hl 2 rfl) ?_
    refine lv_iconst (v := (0 : Int32)) hx hb dL_whence_1 (by decide) ?_
    refine lv_aload_n hx hb dL_whence_2 rfl (lv_at hl 0 rfl) ?_
    refine lv_iload_n hx hb dL_whence_3 rfl (lv_at hl 1 rfl) ?_
    refine vx_calli (vx_runV (As := [.int x1]) (rest := [.int (0 : Int32), .ref b2]) ⟨hx, hb, hml, hown, hts⟩ (ct_X11_whence l hlt D cB cI cZ N a0 I0 M0 x1 H.size k hrx) (cwV 1 hts gyL_whence_X11_whence rfl rfl rfl cdX11_whence ⟨Nat.le_of_ble_eq_true rfl, Nat.le_of_ble_eq_true rfl⟩) (wb_preXV (wj_P1 (X := (wWX11 cB cI cZ a0 I0 M0)) hP) hK3 hX (wr_11 hK hP (q0 := 0) rfl)) rfl rfl hl.1 rfl (lv_room (Nat.le_of_ble_eq_true rfl)) dL_whence_4 ⟨Nat.le_of_ble_eq_true rfl, Nat.le_of_ble_eq_true rfl⟩) hS (fun q h1 h2 => absurd h1 (Nat.not_lt.mpr h2)) (fun q h => hA q (Nat.le_trans hS.1 h)) (fun q h1 h2 => absurd h1 (Nat.not_lt.mpr h2)) (fun E ce q9 u t H locs ht hvm hpx hB hz1 hk1 hS hq9 hv9 hc9 => ?_) (fun r9 u t H locs ht hvm hw hB hz1 hk1 hS => hw.elim)
    have hP : va_P D vwCl ((wWX11 cB cI cZ a0 I0 M0) ++ [((b2, .inl (cJ, 1, .inr (.inl o2))) : Nat × va_E)]) H := hP.kept (fun k q hq => hk1 q.1 (hP k q hq).lt (Nat.not_le.mpr (hP k q hq).lt))
    by_cases hk1 : k = 1
    · subst hk1
      have hE : E = wb_E1 := hB.trans rfl
      subst hE
      refine vx_catch hown [] ⟨0, 9, 12, 19⟩ [] (htb.trans rfl) (fun z hz => nomatch hz) (by decide) (by decide) (hts (.classLink RL 19 "java/util/NoSuchElementException") (List.mem_of_getElem? (i := 1) rfl)) (va_Nw.use rfl hX.2.2.2.1) hq9 hv9 hc9 ?_
      refine lv_astore_n (lv' := [(3, .ref q9), (0, .ref (a0 0)), (1, .int x1), (2, .ref b2)]) hx hb dL_whence_12 rfl hl (by decide) rfl (fun ls hl => ?_)
      refine lv_iconst (v := (1 : Int32)) hx hb dL_whence_13 (by decide) ?_
      replace hf := wb_t rfl hf
      refine W.widen (k := 1) (n := 6) (Nat.le_of_ble_eq_true rfl) (Nat.le_of_ble_eq_true rfl) ?_
      exact W.iret (v := (1 : Int32)) hx hb hr (fun t ht hW => by rw [← Option.some.inj hf]; exact ⟨⟨(1 : Int32), (), rfl, rfl, by rw [ht]; exact hP, va_K.moved hW.alike hK, hD⟩, hS.F ht⟩) hS.2.2 dL_whence_14
    replace hf := wb_f hk1 hf
    exact absurd hf (fun h => nomatch h)
  · refine lv_aload_n hx hb dL_whence_0 rfl (lv_at hl 2 rfl) ?_
    refine lv_iconst (v := (0 : Int32)) hx hb dL_whence_1 (by decide) ?_
    refine lv_aload_n hx hb dL_whence_2 rfl (lv_at hl 0 rfl) ?_
    refine lv_iload_n hx hb dL_whence_3 rfl (lv_at hl 1 rfl) ?_
    refine vp_callSi (W.runV (As := [.int x1]) (rest := [.int (0 : Int32), .ref b2]) ⟨hx, hb, hml, hown, hts⟩ (cn_X11_whence l D cB cI cZ N a0 I0 M0 x1 r hr9) (cwV 1 hts gyL_whence_X11_whence rfl rfl rfl cdX11_whence ⟨Nat.le_of_ble_eq_true rfl, Nat.le_of_ble_eq_true rfl⟩) (wb_preV (wj_P1 (X := (wWX11 cB cI cZ a0 I0 M0)) hP) hK3 (wr_11 hK hP (q0 := 0) rfl)) rfl rfl hl.1 rfl (lv_room (Nat.le_of_ble_eq_true rfl)) dL_whence_4 ⟨Nat.le_of_ble_eq_true rfl, Nat.le_of_ble_eq_true rfl⟩) (fun r9 e9 => ?_)
    rw [e9]
    refine lv_i2l hx hb dL_whence_7 rfl ?_
    refine va_last hx hb hK hP hD hS 52 3 rfl rfl (show ¬ ((0 : Int32) < 0 ∨ 1 ≤ (0 : Int32).toNatClampNeg) from by decide) dL_whence_8 (fun H locs hP hD hS => ?_)
    have hP : va_P D vwCl ((wWX11 cB cI cZ a0 I0 M0) ++ [((b2, .inl (cJ, 1, .inr (.inl (vp_updL o2 ((0 : Int32)).toNatClampNeg r.toInt64)))) : Nat × va_E)]) H := hP
    have hD : va_D A ((wWX11 cB cI cZ a0 I0 M0) ++ [((b2, .inl (cJ, 1, .inr (.inl (vp_updL o2 ((0 : Int32)).toNatClampNeg r.toInt64)))) : Nat × va_E)]) := hD
    obtain ⟨o2_1, eo2_1, hf⟩ := wb_v hf
    rw [← eo2_1] at hP hD
    refine lv_goto (tgt := 15) hx hb dL_whence_9 (by decide) ?_
    refine lv_iconst (v := (0 : Int32)) hx hb dL_whence_15 (by decide) ?_
    refine W.widen (k := 1) (n := 6) (Nat.le_of_ble_eq_true rfl) (Nat.le_of_ble_eq_true rfl) ?_
    exact W.iret (v := (0 : Int32)) hx hb hr (fun t ht hW => by rw [← Option.some.inj hf]; exact ⟨⟨(0 : Int32), (), rfl, rfl, by rw [ht]; exact hP, va_K.moved hW.alike hK, hD⟩, hS.F ht⟩) hS.2.2 dL_whence_16

set_option maxHeartbeats 4000000 in
set_option maxRecDepth 100000 in
theorem cn_L_life (l : Launch) (hlt : l.stackTraces = false) (D : va_G) (cB cI cZ cJ : ClassId) (N : Nat) (a0 : Nat → Nat) (I0 : Nat → Int32) (M0 : Nat → Nat → Int32) (x1 : Int32) (x2 : Int32) (x3 : Int32) (b4 : Nat) (o4 : Nat → Int64) (sz : Nat) (R : Int32 × (Nat → Int32) × (Nat → Nat → Int32) × (Nat → Int64)) (hf : fL_life N I0 M0 x1 x2 x3 o4 = some R) : Met l yL_life wyL_life ({ frames := 8, cells := 1, slots := 6, locals := 163 }) (va_Pc [.ref (a0 0), .int x1, .int x2, .int x3, .ref b4] (wb_preL D [(cB, .byte), (cI, .int), (cZ, .boolean), (cJ, .long)] ((wWX11 cB cI cZ a0 I0 M0) ++ [((b4, .inl (cJ, 1, .inr (.inl o4))) : Nat × va_E)]) sz)) (va_Qi (fun r (_ : Unit) => r = R.1) (fun _ t => wb_post D [(cB, .byte), (cI, .int), (cZ, .boolean), (cJ, .long)] (va_A ((wWX11 cB cI cZ a0 I0 M0) ++ [((b4, .inl (cJ, 1, .inr (.inl o4))) : Nat × va_E)]) sz) ((wWX11 cB cI cZ a0 R.2.1 R.2.2.1) ++ [((b4, .inl (cJ, 1, .inr (.inl R.2.2.2))) : Nat × va_E)]) t) (va_A ((wWX11 cB cI cZ a0 I0 M0) ++ [((b4, .inl (cJ, 1, .inr (.inl o4))) : Nat × va_E)]) sz)) 1 6 (va_A ((wWX11 cB cI cZ a0 I0 M0) ++ [((b4, .inl (cJ, 1, .inr (.inl o4))) : Nat × va_E)]) sz) := by
  refine va_MetW (cc := cL_life) (maxL := 6) (ret := (some .int)) (hh := [(0, 19, 22, 19)]) pn_L rfl ?_
  intro p e s m args below meth c s₁ B hml hv
  obtain ⟨rfl, hsz, hP, hK, hD0, hX, hNc⟩ := hv
  have hx := B.exec
  have hb := B.bytes
  have hr := B.returns
  have hts := atoms_spec (ws := wyL_life) B.pre
  have hown : s.vm.findClass RL = some m.cls := (findClass_of_methodNamed B.named :)
  have hlocks := B.notSynchronized
  have htb := vx_table (x := yL_life) (hh := [(0, 19, 22, 19)]) B (hts (.codeWith yL_life cL_life 6 (some .int) [(0, 19, 22, 19)]) List.mem_cons_self)
  have hK3 : va_K D vwCl [(cB, .byte), (cI, .int), (cZ, .boolean)] s := hK.sub [0, 1, 2] rfl
  subst hsz
  have hD := hD0.self (sz := s.heap.size)
  generalize hAe : va_A ((wWX11 cB cI cZ a0 I0 M0) ++ [((b4, .inl (cJ, 1, .inr (.inl o4))) : Nat × va_E)]) s.heap.size = A at hD ⊢
  have hA : ∀ q : Nat, s.heap.size ≤ q → A q := fun q h => by rw [← hAe]; exact Or.inr h
  have hl := lv_entry ([.ref (a0 0), .int x1, .int x2, .int x3, .ref b4]) (n := 6) (Nat.le_of_ble_eq_true rfl)
  rw [lg_entry_eq]
  generalize (lg_sl ([.ref (a0 0), .int x1, .int x2, .int x3, .ref b4]) ++ List.replicate (6 - (lg_sl ([.ref (a0 0), .int x1, .int x2, .int x3, .ref b4])).length) Slot.unset).toArray = ls at hl ⊢
  have hl : lv_has ls 6 [(0, .ref (a0 0)), (1, .int x1), (2, .int x2), (3, .int x3), (4, .ref b4)] := hl
  unfold fL_life at hf
  obtain ⟨H, hHe⟩ : ∃ H : Heap, H = s.heap := ⟨_, rfl⟩
  obtain ⟨locs, hle⟩ : ∃ locs : List Loc, locs = [] := ⟨_, rfl⟩
  refine wb_start (H := H) (locs := locs) hHe hle ?_
  rw [← hHe] at hP hX
  have hS : va_S A s.heap H locs := by rw [hHe, hle]; exact va_S.rf
  rcases wb_hpi hf with ⟨k, hrx, hf⟩ | ⟨r, hr9, hf⟩
  · refine lv_aload hx hb dL_life_0 (lv_at hl 4 rfl) ?_
    refine lv_iconst (v := (0 : Int32)) hx hb dL_life_2 (by decide) ?_
    refine lv_aload_n hx hb dL_life_3 rfl (lv_at hl 0 rfl) ?_
    refine lv_iload_n hx hb dL_life_4 rfl (lv_at hl 1 rfl) ?_
    refine lv_iload_n hx hb dL_life_5 rfl (lv_at hl 2 rfl) ?_
    refine lv_iload_n hx hb dL_life_6 rfl (lv_at hl 3 rfl) ?_
    refine vx_calli (vx_runV (As := [.int x1, .int x2, .int x3]) (rest := [.int (0 : Int32), .ref b4]) ⟨hx, hb, hml, hown, hts⟩ (ct_X11_life l hlt D cB cI cZ N a0 I0 M0 x1 x2 x3 H.size k hrx) (cwV 3 hts gyL_life_X11_life rfl rfl rfl cdX11_life ⟨Nat.le_of_ble_eq_true rfl, Nat.le_of_ble_eq_true rfl⟩) (wb_preXV (wj_P1 (X := (wWX11 cB cI cZ a0 I0 M0)) hP) hK3 hX (wr_11 hK hP (q0 := 0) rfl)) rfl rfl hl.1 rfl (lv_room (Nat.le_of_ble_eq_true rfl)) dL_life_7 ⟨Nat.le_of_ble_eq_true rfl, Nat.le_of_ble_eq_true rfl⟩) hS (fun q h1 h2 => absurd h1 (Nat.not_lt.mpr h2)) (fun q h => hA q (Nat.le_trans hS.1 h)) (fun q h1 h2 => absurd h1 (Nat.not_lt.mpr h2)) (fun E ce q9 u t H locs ht hvm hpx hB hz1 hk1 hS hq9 hv9 hc9 => ?_) (fun r9 u t H locs ht hvm hw hB hz1 hk1 hS => hw.elim)
    have hP : va_P D vwCl ((wWX11 cB cI cZ a0 I0 M0) ++ [((b4, .inl (cJ, 1, .inr (.inl o4))) : Nat × va_E)]) H := hP.kept (fun k q hq => hk1 q.1 (hP k q hq).lt (Nat.not_le.mpr (hP k q hq).lt))
    by_cases hk1 : k = 1
    · subst hk1
      have hE : E = wb_E1 := hB.trans rfl
      subst hE
      refine vx_catch hown [] ⟨0, 19, 22, 19⟩ [] (htb.trans rfl) (fun z hz => nomatch hz) (by decide) (by decide) (hts (.classLink RL 19 "java/util/NoSuchElementException") (List.mem_of_getElem? (i := 1) rfl)) (va_Nw.use rfl hX.2.2.2.1) hq9 hv9 hc9 ?_
      refine lv_astore (lv' := [(5, .ref q9), (0, .ref (a0 0)), (1, .int x1), (2, .int x2), (3, .int x3), (4, .ref b4)]) hx hb dL_life_22 hl (by decide) rfl (fun ls hl => ?_)
      refine lv_iconst (v := (1 : Int32)) hx hb dL_life_24 (by decide) ?_
      replace hf := wb_t rfl hf
      refine W.widen (k := 1) (n := 6) (Nat.le_of_ble_eq_true rfl) (Nat.le_of_ble_eq_true rfl) ?_
      exact W.iret (v := (1 : Int32)) hx hb hr (fun t ht hW => by rw [← Option.some.inj hf]; exact ⟨⟨(1 : Int32), (), rfl, rfl, by rw [ht]; exact hP, va_K.moved hW.alike hK, hD⟩, hS.F ht⟩) hS.2.2 dL_life_25
    replace hf := wb_f hk1 hf
    exact absurd hf (fun h => nomatch h)
  · refine lv_aload hx hb dL_life_0 (lv_at hl 4 rfl) ?_
    refine lv_iconst (v := (0 : Int32)) hx hb dL_life_2 (by decide) ?_
    refine lv_aload_n hx hb dL_life_3 rfl (lv_at hl 0 rfl) ?_
    refine lv_iload_n hx hb dL_life_4 rfl (lv_at hl 1 rfl) ?_
    refine lv_iload_n hx hb dL_life_5 rfl (lv_at hl 2 rfl) ?_
    refine lv_iload_n hx hb dL_life_6 rfl (lv_at hl 3 rfl) ?_
    have hPc := wj_P1 hP
    have hDc := wj_D1 hD
    have hFc := wj_F hDc hS hA
    refine va_calli (va_runV (As := [.int x1, .int x2, .int x3]) (rest := [.int (0 : Int32), .ref b4]) ⟨hx, hb, hml, hown, hts⟩ (cn_X11_life l D cB cI cZ N a0 I0 M0 x1 x2 x3 H.size r hr9) (cwV 3 hts gyL_life_X11_life rfl rfl rfl cdX11_life ⟨Nat.le_of_ble_eq_true rfl, Nat.le_of_ble_eq_true rfl⟩) (wb_preDV hPc hK3 hDc (wr_11 hK hP (q0 := 0) rfl)) rfl rfl hl.1 rfl (lv_room (Nat.le_of_ble_eq_true rfl)) dL_life_7 ⟨Nat.le_of_ble_eq_true rfl, Nat.le_of_ble_eq_true rfl⟩) hS (fun q _ h => hFc q h) hFc (fun r9 u t H locs ht hvm hw hB hz1 hk1 hS => ?_)
    obtain ⟨hP, hD⟩ := wj_1 hP hD hk1 hFc ht hB
    rw [hw]
    refine lv_if_eq (tgt := 17) hx hb dL_life_10 (by decide) (fun hc => ?_) (fun hc => ?_)
    · replace hf := wb_t hc hf
      refine lv_lconst (v := (0 : Int64)) hx hb dL_life_17 (by decide) ?_
      refine va_last hx hb hK hP hD hS 52 3 rfl rfl (show ¬ ((0 : Int32) < 0 ∨ 1 ≤ (0 : Int32).toNatClampNeg) from by decide) dL_life_18 (fun H locs hP hD hS => ?_)
      have hP : va_P D vwCl ((wWX11 cB cI cZ a0 r.2.1 r.2.2) ++ [((b4, .inl (cJ, 1, .inr (.inl (vp_updL o4 ((0 : Int32)).toNatClampNeg (0 : Int64))))) : Nat × va_E)]) H := hP
      have hD : va_D A ((wWX11 cB cI cZ a0 r.2.1 r.2.2) ++ [((b4, .inl (cJ, 1, .inr (.inl (vp_updL o4 ((0 : Int32)).toNatClampNeg (0 : Int64))))) : Nat × va_E)]) := hD
      obtain ⟨o4_1, eo4_1, hf⟩ := wb_v hf
      rw [← eo4_1] at hP hD
      refine lv_goto (tgt := 26) hx hb dL_life_19 (by decide) ?_
      refine lv_iconst (v := (0 : Int32)) hx hb dL_life_26 (by decide) ?_
      refine W.widen (k := 1) (n := 6) (Nat.le_of_ble_eq_true rfl) (Nat.le_of_ble_eq_true rfl) ?_
      exact W.iret (v := (0 : Int32)) hx hb hr (fun t ht hW => by rw [← Option.some.inj hf]; exact ⟨⟨(0 : Int32), (), rfl, rfl, by rw [ht]; exact hP, va_K.moved hW.alike hK, hD⟩, hS.F ht⟩) hS.2.2 dL_life_27
    · replace hf := wb_f hc hf
      refine lv_lconst (v := (1 : Int64)) hx hb dL_life_13 (by decide) ?_
      refine lv_goto (tgt := 18) hx hb dL_life_14 (by decide) ?_
      refine va_last hx hb hK hP hD hS 52 3 rfl rfl (show ¬ ((0 : Int32) < 0 ∨ 1 ≤ (0 : Int32).toNatClampNeg) from by decide) dL_life_18 (fun H locs hP hD hS => ?_)
      have hP : va_P D vwCl ((wWX11 cB cI cZ a0 r.2.1 r.2.2) ++ [((b4, .inl (cJ, 1, .inr (.inl (vp_updL o4 ((0 : Int32)).toNatClampNeg (1 : Int64))))) : Nat × va_E)]) H := hP
      have hD : va_D A ((wWX11 cB cI cZ a0 r.2.1 r.2.2) ++ [((b4, .inl (cJ, 1, .inr (.inl (vp_updL o4 ((0 : Int32)).toNatClampNeg (1 : Int64))))) : Nat × va_E)]) := hD
      obtain ⟨o4_2, eo4_2, hf⟩ := wb_v hf
      rw [← eo4_2] at hP hD
      refine lv_goto (tgt := 26) hx hb dL_life_19 (by decide) ?_
      refine lv_iconst (v := (0 : Int32)) hx hb dL_life_26 (by decide) ?_
      refine W.widen (k := 1) (n := 6) (Nat.le_of_ble_eq_true rfl) (Nat.le_of_ble_eq_true rfl) ?_
      exact W.iret (v := (0 : Int32)) hx hb hr (fun t ht hW => by rw [← Option.some.inj hf]; exact ⟨⟨(0 : Int32), (), rfl, rfl, by rw [ht]; exact hP, va_K.moved hW.alike hK, hD⟩, hS.F ht⟩) hS.2.2 dL_life_27

set_option maxHeartbeats 4000000 in
set_option maxRecDepth 100000 in
theorem cn_L_fate (l : Launch) (hlt : l.stackTraces = false) (D : va_G) (cB cI cZ cJ : ClassId) (N : Nat) (a0 : Nat → Nat) (I0 : Nat → Int32) (M0 : Nat → Nat → Int32) (x1 : Int32) (x2 : Int32) (b3 : Nat) (o3 : Nat → Int64) (sz : Nat) (R : Int32 × (Nat → Int32) × (Nat → Nat → Int32) × (Nat → Int64)) (hf : fL_fate N I0 M0 x1 x2 o3 = some R) : Met l yL_fate wyL_fate ({ frames := 8, cells := 1, slots := 6, locals := 162 }) (va_Pc [.ref (a0 0), .int x1, .int x2, .ref b3] (wb_preL D [(cB, .byte), (cI, .int), (cZ, .boolean), (cJ, .long)] ((wWX11 cB cI cZ a0 I0 M0) ++ [((b3, .inl (cJ, 1, .inr (.inl o3))) : Nat × va_E)]) sz)) (va_Qi (fun r (_ : Unit) => r = R.1) (fun _ t => wb_post D [(cB, .byte), (cI, .int), (cZ, .boolean), (cJ, .long)] (va_A ((wWX11 cB cI cZ a0 I0 M0) ++ [((b3, .inl (cJ, 1, .inr (.inl o3))) : Nat × va_E)]) sz) ((wWX11 cB cI cZ a0 R.2.1 R.2.2.1) ++ [((b3, .inl (cJ, 1, .inr (.inl R.2.2.2))) : Nat × va_E)]) t) (va_A ((wWX11 cB cI cZ a0 I0 M0) ++ [((b3, .inl (cJ, 1, .inr (.inl o3))) : Nat × va_E)]) sz)) 1 6 (va_A ((wWX11 cB cI cZ a0 I0 M0) ++ [((b3, .inl (cJ, 1, .inr (.inl o3))) : Nat × va_E)]) sz) := by
  refine va_MetW (cc := cL_fate) (maxL := 5) (ret := (some .int)) (hh := [(0, 17, 20, 19)]) pn_L rfl ?_
  intro p e s m args below meth c s₁ B hml hv
  obtain ⟨rfl, hsz, hP, hK, hD0, hX, hNc⟩ := hv
  have hx := B.exec
  have hb := B.bytes
  have hr := B.returns
  have hts := atoms_spec (ws := wyL_fate) B.pre
  have hown : s.vm.findClass RL = some m.cls := (findClass_of_methodNamed B.named :)
  have hlocks := B.notSynchronized
  have htb := vx_table (x := yL_fate) (hh := [(0, 17, 20, 19)]) B (hts (.codeWith yL_fate cL_fate 5 (some .int) [(0, 17, 20, 19)]) List.mem_cons_self)
  have hK3 : va_K D vwCl [(cB, .byte), (cI, .int), (cZ, .boolean)] s := hK.sub [0, 1, 2] rfl
  subst hsz
  have hD := hD0.self (sz := s.heap.size)
  generalize hAe : va_A ((wWX11 cB cI cZ a0 I0 M0) ++ [((b3, .inl (cJ, 1, .inr (.inl o3))) : Nat × va_E)]) s.heap.size = A at hD ⊢
  have hA : ∀ q : Nat, s.heap.size ≤ q → A q := fun q h => by rw [← hAe]; exact Or.inr h
  have hl := lv_entry ([.ref (a0 0), .int x1, .int x2, .ref b3]) (n := 5) (Nat.le_of_ble_eq_true rfl)
  rw [lg_entry_eq]
  generalize (lg_sl ([.ref (a0 0), .int x1, .int x2, .ref b3]) ++ List.replicate (5 - (lg_sl ([.ref (a0 0), .int x1, .int x2, .ref b3])).length) Slot.unset).toArray = ls at hl ⊢
  have hl : lv_has ls 5 [(0, .ref (a0 0)), (1, .int x1), (2, .int x2), (3, .ref b3)] := hl
  unfold fL_fate at hf
  obtain ⟨H, hHe⟩ : ∃ H : Heap, H = s.heap := ⟨_, rfl⟩
  obtain ⟨locs, hle⟩ : ∃ locs : List Loc, locs = [] := ⟨_, rfl⟩
  refine wb_start (H := H) (locs := locs) hHe hle ?_
  rw [← hHe] at hP hX
  have hS : va_S A s.heap H locs := by rw [hHe, hle]; exact va_S.rf
  rcases wb_hpi hf with ⟨k, hrx, hf⟩ | ⟨r, hr9, hf⟩
  · refine lv_aload_n hx hb dL_fate_0 rfl (lv_at hl 3 rfl) ?_
    refine lv_iconst (v := (0 : Int32)) hx hb dL_fate_1 (by decide) ?_
    refine lv_aload_n hx hb dL_fate_2 rfl (lv_at hl 0 rfl) ?_
    refine lv_iload_n hx hb dL_fate_3 rfl (lv_at hl 1 rfl) ?_
    refine lv_iload_n hx hb dL_fate_4 rfl (lv_at hl 2 rfl) ?_
    refine vx_calli (vx_runV (As := [.int x1, .int x2]) (rest := [.int (0 : Int32), .ref b3]) ⟨hx, hb, hml, hown, hts⟩ (ct_X11_fate l hlt D cB cI cZ N a0 I0 M0 x1 x2 H.size k hrx) (cwV 2 hts gyL_fate_X11_fate rfl rfl rfl cdX11_fate ⟨Nat.le_of_ble_eq_true rfl, Nat.le_of_ble_eq_true rfl⟩) (wb_preXV (wj_P1 (X := (wWX11 cB cI cZ a0 I0 M0)) hP) hK3 hX (wr_11 hK hP (q0 := 0) rfl)) rfl rfl hl.1 rfl (lv_room (Nat.le_of_ble_eq_true rfl)) dL_fate_5 ⟨Nat.le_of_ble_eq_true rfl, Nat.le_of_ble_eq_true rfl⟩) hS (fun q h1 h2 => absurd h1 (Nat.not_lt.mpr h2)) (fun q h => hA q (Nat.le_trans hS.1 h)) (fun q h1 h2 => absurd h1 (Nat.not_lt.mpr h2)) (fun E ce q9 u t H locs ht hvm hpx hB hz1 hk1 hS hq9 hv9 hc9 => ?_) (fun r9 u t H locs ht hvm hw hB hz1 hk1 hS => hw.elim)
    have hP : va_P D vwCl ((wWX11 cB cI cZ a0 I0 M0) ++ [((b3, .inl (cJ, 1, .inr (.inl o3))) : Nat × va_E)]) H := hP.kept (fun k q hq => hk1 q.1 (hP k q hq).lt (Nat.not_le.mpr (hP k q hq).lt))
    by_cases hk1 : k = 1
    · subst hk1
      have hE : E = wb_E1 := hB.trans rfl
      subst hE
      refine vx_catch hown [] ⟨0, 17, 20, 19⟩ [] (htb.trans rfl) (fun z hz => nomatch hz) (by decide) (by decide) (hts (.classLink RL 19 "java/util/NoSuchElementException") (List.mem_of_getElem? (i := 1) rfl)) (va_Nw.use rfl hX.2.2.2.1) hq9 hv9 hc9 ?_
      refine lv_astore (lv' := [(4, .ref q9), (0, .ref (a0 0)), (1, .int x1), (2, .int x2), (3, .ref b3)]) hx hb dL_fate_20 hl (by decide) rfl (fun ls hl => ?_)
      refine lv_iconst (v := (1 : Int32)) hx hb dL_fate_22 (by decide) ?_
      replace hf := wb_t rfl hf
      refine W.widen (k := 1) (n := 6) (Nat.le_of_ble_eq_true rfl) (Nat.le_of_ble_eq_true rfl) ?_
      exact W.iret (v := (1 : Int32)) hx hb hr (fun t ht hW => by rw [← Option.some.inj hf]; exact ⟨⟨(1 : Int32), (), rfl, rfl, by rw [ht]; exact hP, va_K.moved hW.alike hK, hD⟩, hS.F ht⟩) hS.2.2 dL_fate_23
    replace hf := wb_f hk1 hf
    exact absurd hf (fun h => nomatch h)
  · refine lv_aload_n hx hb dL_fate_0 rfl (lv_at hl 3 rfl) ?_
    refine lv_iconst (v := (0 : Int32)) hx hb dL_fate_1 (by decide) ?_
    refine lv_aload_n hx hb dL_fate_2 rfl (lv_at hl 0 rfl) ?_
    refine lv_iload_n hx hb dL_fate_3 rfl (lv_at hl 1 rfl) ?_
    refine lv_iload_n hx hb dL_fate_4 rfl (lv_at hl 2 rfl) ?_
    have hPc := wj_P1 hP
    have hDc := wj_D1 hD
    have hFc := wj_F hDc hS hA
    refine va_calli (va_runV (As := [.int x1, .int x2]) (rest := [.int (0 : Int32), .ref b3]) ⟨hx, hb, hml, hown, hts⟩ (cn_X11_fate l D cB cI cZ N a0 I0 M0 x1 x2 H.size r hr9) (cwV 2 hts gyL_fate_X11_fate rfl rfl rfl cdX11_fate ⟨Nat.le_of_ble_eq_true rfl, Nat.le_of_ble_eq_true rfl⟩) (wb_preDV hPc hK3 hDc (wr_11 hK hP (q0 := 0) rfl)) rfl rfl hl.1 rfl (lv_room (Nat.le_of_ble_eq_true rfl)) dL_fate_5 ⟨Nat.le_of_ble_eq_true rfl, Nat.le_of_ble_eq_true rfl⟩) hS (fun q _ h => hFc q h) hFc (fun r9 u t H locs ht hvm hw hB hz1 hk1 hS => ?_)
    obtain ⟨hP, hD⟩ := wj_1 hP hD hk1 hFc ht hB
    rw [hw]
    refine lv_if_eq (tgt := 15) hx hb dL_fate_8 (by decide) (fun hc => ?_) (fun hc => ?_)
    · replace hf := wb_t hc hf
      refine lv_lconst (v := (0 : Int64)) hx hb dL_fate_15 (by decide) ?_
      refine va_last hx hb hK hP hD hS 52 3 rfl rfl (show ¬ ((0 : Int32) < 0 ∨ 1 ≤ (0 : Int32).toNatClampNeg) from by decide) dL_fate_16 (fun H locs hP hD hS => ?_)
      have hP : va_P D vwCl ((wWX11 cB cI cZ a0 r.2.1 r.2.2) ++ [((b3, .inl (cJ, 1, .inr (.inl (vp_updL o3 ((0 : Int32)).toNatClampNeg (0 : Int64))))) : Nat × va_E)]) H := hP
      have hD : va_D A ((wWX11 cB cI cZ a0 r.2.1 r.2.2) ++ [((b3, .inl (cJ, 1, .inr (.inl (vp_updL o3 ((0 : Int32)).toNatClampNeg (0 : Int64))))) : Nat × va_E)]) := hD
      obtain ⟨o3_1, eo3_1, hf⟩ := wb_v hf
      rw [← eo3_1] at hP hD
      refine lv_goto (tgt := 24) hx hb dL_fate_17 (by decide) ?_
      refine lv_iconst (v := (0 : Int32)) hx hb dL_fate_24 (by decide) ?_
      refine W.widen (k := 1) (n := 6) (Nat.le_of_ble_eq_true rfl) (Nat.le_of_ble_eq_true rfl) ?_
      exact W.iret (v := (0 : Int32)) hx hb hr (fun t ht hW => by rw [← Option.some.inj hf]; exact ⟨⟨(0 : Int32), (), rfl, rfl, by rw [ht]; exact hP, va_K.moved hW.alike hK, hD⟩, hS.F ht⟩) hS.2.2 dL_fate_25
    · replace hf := wb_f hc hf
      refine lv_lconst (v := (1 : Int64)) hx hb dL_fate_11 (by decide) ?_
      refine lv_goto (tgt := 16) hx hb dL_fate_12 (by decide) ?_
      refine va_last hx hb hK hP hD hS 52 3 rfl rfl (show ¬ ((0 : Int32) < 0 ∨ 1 ≤ (0 : Int32).toNatClampNeg) from by decide) dL_fate_16 (fun H locs hP hD hS => ?_)
      have hP : va_P D vwCl ((wWX11 cB cI cZ a0 r.2.1 r.2.2) ++ [((b3, .inl (cJ, 1, .inr (.inl (vp_updL o3 ((0 : Int32)).toNatClampNeg (1 : Int64))))) : Nat × va_E)]) H := hP
      have hD : va_D A ((wWX11 cB cI cZ a0 r.2.1 r.2.2) ++ [((b3, .inl (cJ, 1, .inr (.inl (vp_updL o3 ((0 : Int32)).toNatClampNeg (1 : Int64))))) : Nat × va_E)]) := hD
      obtain ⟨o3_2, eo3_2, hf⟩ := wb_v hf
      rw [← eo3_2] at hP hD
      refine lv_goto (tgt := 24) hx hb dL_fate_17 (by decide) ?_
      refine lv_iconst (v := (0 : Int32)) hx hb dL_fate_24 (by decide) ?_
      refine W.widen (k := 1) (n := 6) (Nat.le_of_ble_eq_true rfl) (Nat.le_of_ble_eq_true rfl) ?_
      exact W.iret (v := (0 : Int32)) hx hb hr (fun t ht hW => by rw [← Option.some.inj hf]; exact ⟨⟨(0 : Int32), (), rfl, rfl, by rw [ht]; exact hP, va_K.moved hW.alike hK, hD⟩, hS.F ht⟩) hS.2.2 dL_fate_25

set_option maxHeartbeats 4000000 in
set_option maxRecDepth 100000 in
theorem cn_L_fates (l : Launch) (hlt : l.stackTraces = false) (D : va_G) (cB cI cZ cJ : ClassId) (N : Nat) (a0 : Nat → Nat) (I0 : Nat → Int32) (M0 : Nat → Nat → Int32) (x1 : Int32) (b2 : Nat) (o2 : Nat → Int64) (sz : Nat) (R : Int32 × (Nat → Int32) × (Nat → Nat → Int32) × (Nat → Int64)) (hf : fL_fates N I0 M0 x1 o2 = some R) : Met l yL_fates wyL_fates ({ frames := 8, cells := 1, slots := 6, locals := 161 }) (va_Pc [.ref (a0 0), .int x1, .ref b2] (wb_preL D [(cB, .byte), (cI, .int), (cZ, .boolean), (cJ, .long)] ((wWX11 cB cI cZ a0 I0 M0) ++ [((b2, .inl (cJ, 1, .inr (.inl o2))) : Nat × va_E)]) sz)) (va_Qi (fun r (_ : Unit) => r = R.1) (fun _ t => wb_post D [(cB, .byte), (cI, .int), (cZ, .boolean), (cJ, .long)] (va_A ((wWX11 cB cI cZ a0 I0 M0) ++ [((b2, .inl (cJ, 1, .inr (.inl o2))) : Nat × va_E)]) sz) ((wWX11 cB cI cZ a0 R.2.1 R.2.2.1) ++ [((b2, .inl (cJ, 1, .inr (.inl R.2.2.2))) : Nat × va_E)]) t) (va_A ((wWX11 cB cI cZ a0 I0 M0) ++ [((b2, .inl (cJ, 1, .inr (.inl o2))) : Nat × va_E)]) sz)) 1 6 (va_A ((wWX11 cB cI cZ a0 I0 M0) ++ [((b2, .inl (cJ, 1, .inr (.inl o2))) : Nat × va_E)]) sz) := by
  refine va_MetW (cc := cL_fates) (maxL := 4) (ret := (some .int)) (hh := [(0, 9, 12, 19)]) pn_L rfl ?_
  intro p e s m args below meth c s₁ B hml hv
  obtain ⟨rfl, hsz, hP, hK, hD0, hX, hNc⟩ := hv
  have hx := B.exec
  have hb := B.bytes
  have hr := B.returns
  have hts := atoms_spec (ws := wyL_fates) B.pre
  have hown : s.vm.findClass RL = some m.cls := (findClass_of_methodNamed B.named :)
  have hlocks := B.notSynchronized
  have htb := vx_table (x := yL_fates) (hh := [(0, 9, 12, 19)]) B (hts (.codeWith yL_fates cL_fates 4 (some .int) [(0, 9, 12, 19)]) List.mem_cons_self)
  have hK3 : va_K D vwCl [(cB, .byte), (cI, .int), (cZ, .boolean)] s := hK.sub [0, 1, 2] rfl
  subst hsz
  have hD := hD0.self (sz := s.heap.size)
  generalize hAe : va_A ((wWX11 cB cI cZ a0 I0 M0) ++ [((b2, .inl (cJ, 1, .inr (.inl o2))) : Nat × va_E)]) s.heap.size = A at hD ⊢
  have hA : ∀ q : Nat, s.heap.size ≤ q → A q := fun q h => by rw [← hAe]; exact Or.inr h
  have hl := lv_entry ([.ref (a0 0), .int x1, .ref b2]) (n := 4) (Nat.le_of_ble_eq_true rfl)
  rw [lg_entry_eq]
  generalize (lg_sl ([.ref (a0 0), .int x1, .ref b2]) ++ List.replicate (4 - (lg_sl ([.ref (a0 0), .int x1, .ref b2])).length) Slot.unset).toArray = ls at hl ⊢
  have hl : lv_has ls 4 [(0, .ref (a0 0)), (1, .int x1), (2, .ref b2)] := hl
  unfold fL_fates at hf
  obtain ⟨H, hHe⟩ : ∃ H : Heap, H = s.heap := ⟨_, rfl⟩
  obtain ⟨locs, hle⟩ : ∃ locs : List Loc, locs = [] := ⟨_, rfl⟩
  refine wb_start (H := H) (locs := locs) hHe hle ?_
  rw [← hHe] at hP hX
  have hS : va_S A s.heap H locs := by rw [hHe, hle]; exact va_S.rf
  rcases wb_hpi hf with ⟨k, hrx, hf⟩ | ⟨r, hr9, hf⟩
  · refine lv_aload_n hx hb dL_fates_0 rfl (lv_at hl 2 rfl) ?_
    refine lv_iconst (v := (0 : Int32)) hx hb dL_fates_1 (by decide) ?_
    refine lv_aload_n hx hb dL_fates_2 rfl (lv_at hl 0 rfl) ?_
    refine lv_iload_n hx hb dL_fates_3 rfl (lv_at hl 1 rfl) ?_
    refine vx_calli (vx_runV (As := [.int x1]) (rest := [.int (0 : Int32), .ref b2]) ⟨hx, hb, hml, hown, hts⟩ (ct_X11_fates l hlt D cB cI cZ N a0 I0 M0 x1 H.size k hrx) (cwV 1 hts gyL_fates_X11_fates rfl rfl rfl cdX11_fates ⟨Nat.le_of_ble_eq_true rfl, Nat.le_of_ble_eq_true rfl⟩) (wb_preXV (wj_P1 (X := (wWX11 cB cI cZ a0 I0 M0)) hP) hK3 hX (wr_11 hK hP (q0 := 0) rfl)) rfl rfl hl.1 rfl (lv_room (Nat.le_of_ble_eq_true rfl)) dL_fates_4 ⟨Nat.le_of_ble_eq_true rfl, Nat.le_of_ble_eq_true rfl⟩) hS (fun q h1 h2 => absurd h1 (Nat.not_lt.mpr h2)) (fun q h => hA q (Nat.le_trans hS.1 h)) (fun q h1 h2 => absurd h1 (Nat.not_lt.mpr h2)) (fun E ce q9 u t H locs ht hvm hpx hB hz1 hk1 hS hq9 hv9 hc9 => ?_) (fun r9 u t H locs ht hvm hw hB hz1 hk1 hS => hw.elim)
    have hP : va_P D vwCl ((wWX11 cB cI cZ a0 I0 M0) ++ [((b2, .inl (cJ, 1, .inr (.inl o2))) : Nat × va_E)]) H := hP.kept (fun k q hq => hk1 q.1 (hP k q hq).lt (Nat.not_le.mpr (hP k q hq).lt))
    by_cases hk1 : k = 1
    · subst hk1
      have hE : E = wb_E1 := hB.trans rfl
      subst hE
      refine vx_catch hown [] ⟨0, 9, 12, 19⟩ [] (htb.trans rfl) (fun z hz => nomatch hz) (by decide) (by decide) (hts (.classLink RL 19 "java/util/NoSuchElementException") (List.mem_of_getElem? (i := 1) rfl)) (va_Nw.use rfl hX.2.2.2.1) hq9 hv9 hc9 ?_
      refine lv_astore_n (lv' := [(3, .ref q9), (0, .ref (a0 0)), (1, .int x1), (2, .ref b2)]) hx hb dL_fates_12 rfl hl (by decide) rfl (fun ls hl => ?_)
      refine lv_iconst (v := (1 : Int32)) hx hb dL_fates_13 (by decide) ?_
      replace hf := wb_t rfl hf
      refine W.widen (k := 1) (n := 6) (Nat.le_of_ble_eq_true rfl) (Nat.le_of_ble_eq_true rfl) ?_
      exact W.iret (v := (1 : Int32)) hx hb hr (fun t ht hW => by rw [← Option.some.inj hf]; exact ⟨⟨(1 : Int32), (), rfl, rfl, by rw [ht]; exact hP, va_K.moved hW.alike hK, hD⟩, hS.F ht⟩) hS.2.2 dL_fates_14
    replace hf := wb_f hk1 hf
    exact absurd hf (fun h => nomatch h)
  · refine lv_aload_n hx hb dL_fates_0 rfl (lv_at hl 2 rfl) ?_
    refine lv_iconst (v := (0 : Int32)) hx hb dL_fates_1 (by decide) ?_
    refine lv_aload_n hx hb dL_fates_2 rfl (lv_at hl 0 rfl) ?_
    refine lv_iload_n hx hb dL_fates_3 rfl (lv_at hl 1 rfl) ?_
    have hPc := wj_P1 hP
    have hDc := wj_D1 hD
    have hFc := wj_F hDc hS hA
    refine va_calli (va_runV (As := [.int x1]) (rest := [.int (0 : Int32), .ref b2]) ⟨hx, hb, hml, hown, hts⟩ (cn_X11_fates l D cB cI cZ N a0 I0 M0 x1 H.size r hr9) (cwV 1 hts gyL_fates_X11_fates rfl rfl rfl cdX11_fates ⟨Nat.le_of_ble_eq_true rfl, Nat.le_of_ble_eq_true rfl⟩) (wb_preDV hPc hK3 hDc (wr_11 hK hP (q0 := 0) rfl)) rfl rfl hl.1 rfl (lv_room (Nat.le_of_ble_eq_true rfl)) dL_fates_4 ⟨Nat.le_of_ble_eq_true rfl, Nat.le_of_ble_eq_true rfl⟩) hS (fun q _ h => hFc q h) hFc (fun r9 u t H locs ht hvm hw hB hz1 hk1 hS => ?_)
    obtain ⟨hP, hD⟩ := wj_1 hP hD hk1 hFc ht hB
    rw [hw]
    refine lv_i2l hx hb dL_fates_7 rfl ?_
    refine va_last hx hb hK hP hD hS 52 3 rfl rfl (show ¬ ((0 : Int32) < 0 ∨ 1 ≤ (0 : Int32).toNatClampNeg) from by decide) dL_fates_8 (fun H locs hP hD hS => ?_)
    have hP : va_P D vwCl ((wWX11 cB cI cZ a0 r.2.1 r.2.2) ++ [((b2, .inl (cJ, 1, .inr (.inl (vp_updL o2 ((0 : Int32)).toNatClampNeg r.1.toInt64)))) : Nat × va_E)]) H := hP
    have hD : va_D A ((wWX11 cB cI cZ a0 r.2.1 r.2.2) ++ [((b2, .inl (cJ, 1, .inr (.inl (vp_updL o2 ((0 : Int32)).toNatClampNeg r.1.toInt64)))) : Nat × va_E)]) := hD
    obtain ⟨o2_1, eo2_1, hf⟩ := wb_v hf
    rw [← eo2_1] at hP hD
    refine lv_goto (tgt := 15) hx hb dL_fates_9 (by decide) ?_
    refine lv_iconst (v := (0 : Int32)) hx hb dL_fates_15 (by decide) ?_
    refine W.widen (k := 1) (n := 6) (Nat.le_of_ble_eq_true rfl) (Nat.le_of_ble_eq_true rfl) ?_
    exact W.iret (v := (0 : Int32)) hx hb hr (fun t ht hW => by rw [← Option.some.inj hf]; exact ⟨⟨(0 : Int32), (), rfl, rfl, by rw [ht]; exact hP, va_K.moved hW.alike hK, hD⟩, hS.F ht⟩) hS.2.2 dL_fates_16

set_option maxHeartbeats 4000000 in
set_option maxRecDepth 100000 in
theorem cn_L_hits (l : Launch) (hlt : l.stackTraces = false) (D : va_G) (cB cI cZ cJ : ClassId) (N : Nat) (a0 : Nat → Nat) (I0 : Nat → Int32) (M0 : Nat → Nat → Int32) (x1 : Int32) (x2 : Int32) (b3 : Nat) (o3 : Nat → Int64) (sz : Nat) (R : Int32 × (Nat → Int32) × (Nat → Nat → Int32) × (Nat → Int64)) (hf : fL_hits N I0 M0 x1 x2 o3 = some R) : Met l yL_hits wyL_hits ({ frames := 8, cells := 1, slots := 6, locals := 162 }) (va_Pc [.ref (a0 0), .int x1, .int x2, .ref b3] (wb_preL D [(cB, .byte), (cI, .int), (cZ, .boolean), (cJ, .long)] ((wWX11 cB cI cZ a0 I0 M0) ++ [((b3, .inl (cJ, 1, .inr (.inl o3))) : Nat × va_E)]) sz)) (va_Qi (fun r (_ : Unit) => r = R.1) (fun _ t => wb_post D [(cB, .byte), (cI, .int), (cZ, .boolean), (cJ, .long)] (va_A ((wWX11 cB cI cZ a0 I0 M0) ++ [((b3, .inl (cJ, 1, .inr (.inl o3))) : Nat × va_E)]) sz) ((wWX11 cB cI cZ a0 R.2.1 R.2.2.1) ++ [((b3, .inl (cJ, 1, .inr (.inl R.2.2.2))) : Nat × va_E)]) t) (va_A ((wWX11 cB cI cZ a0 I0 M0) ++ [((b3, .inl (cJ, 1, .inr (.inl o3))) : Nat × va_E)]) sz)) 1 6 (va_A ((wWX11 cB cI cZ a0 I0 M0) ++ [((b3, .inl (cJ, 1, .inr (.inl o3))) : Nat × va_E)]) sz) := by
  refine va_MetW (cc := cL_hits) (maxL := 5) (ret := (some .int)) (hh := [(0, 10, 13, 19)]) pn_L rfl ?_
  intro p e s m args below meth c s₁ B hml hv
  obtain ⟨rfl, hsz, hP, hK, hD0, hX, hNc⟩ := hv
  have hx := B.exec
  have hb := B.bytes
  have hr := B.returns
  have hts := atoms_spec (ws := wyL_hits) B.pre
  have hown : s.vm.findClass RL = some m.cls := (findClass_of_methodNamed B.named :)
  have hlocks := B.notSynchronized
  have htb := vx_table (x := yL_hits) (hh := [(0, 10, 13, 19)]) B (hts (.codeWith yL_hits cL_hits 5 (some .int) [(0, 10, 13, 19)]) List.mem_cons_self)
  have hK3 : va_K D vwCl [(cB, .byte), (cI, .int), (cZ, .boolean)] s := hK.sub [0, 1, 2] rfl
  subst hsz
  have hD := hD0.self (sz := s.heap.size)
  generalize hAe : va_A ((wWX11 cB cI cZ a0 I0 M0) ++ [((b3, .inl (cJ, 1, .inr (.inl o3))) : Nat × va_E)]) s.heap.size = A at hD ⊢
  have hA : ∀ q : Nat, s.heap.size ≤ q → A q := fun q h => by rw [← hAe]; exact Or.inr h
  have hl := lv_entry ([.ref (a0 0), .int x1, .int x2, .ref b3]) (n := 5) (Nat.le_of_ble_eq_true rfl)
  rw [lg_entry_eq]
  generalize (lg_sl ([.ref (a0 0), .int x1, .int x2, .ref b3]) ++ List.replicate (5 - (lg_sl ([.ref (a0 0), .int x1, .int x2, .ref b3])).length) Slot.unset).toArray = ls at hl ⊢
  have hl : lv_has ls 5 [(0, .ref (a0 0)), (1, .int x1), (2, .int x2), (3, .ref b3)] := hl
  unfold fL_hits at hf
  obtain ⟨H, hHe⟩ : ∃ H : Heap, H = s.heap := ⟨_, rfl⟩
  obtain ⟨locs, hle⟩ : ∃ locs : List Loc, locs = [] := ⟨_, rfl⟩
  refine wb_start (H := H) (locs := locs) hHe hle ?_
  rw [← hHe] at hP hX
  have hS : va_S A s.heap H locs := by rw [hHe, hle]; exact va_S.rf
  rcases wb_hpi hf with ⟨k, hrx, hf⟩ | ⟨r, hr9, hf⟩
  · refine lv_aload_n hx hb dL_hits_0 rfl (lv_at hl 3 rfl) ?_
    refine lv_iconst (v := (0 : Int32)) hx hb dL_hits_1 (by decide) ?_
    refine lv_aload_n hx hb dL_hits_2 rfl (lv_at hl 0 rfl) ?_
    refine lv_iload_n hx hb dL_hits_3 rfl (lv_at hl 1 rfl) ?_
    refine lv_iload_n hx hb dL_hits_4 rfl (lv_at hl 2 rfl) ?_
    refine vx_calli (vx_runV (As := [.int x1, .int x2]) (rest := [.int (0 : Int32), .ref b3]) ⟨hx, hb, hml, hown, hts⟩ (ct_X11_hits l hlt D cB cI cZ N a0 I0 M0 x1 x2 H.size k hrx) (cwV 2 hts gyL_hits_X11_hits rfl rfl rfl cdX11_hits ⟨Nat.le_of_ble_eq_true rfl, Nat.le_of_ble_eq_true rfl⟩) (wb_preXV (wj_P1 (X := (wWX11 cB cI cZ a0 I0 M0)) hP) hK3 hX (wr_11 hK hP (q0 := 0) rfl)) rfl rfl hl.1 rfl (lv_room (Nat.le_of_ble_eq_true rfl)) dL_hits_5 ⟨Nat.le_of_ble_eq_true rfl, Nat.le_of_ble_eq_true rfl⟩) hS (fun q h1 h2 => absurd h1 (Nat.not_lt.mpr h2)) (fun q h => hA q (Nat.le_trans hS.1 h)) (fun q h1 h2 => absurd h1 (Nat.not_lt.mpr h2)) (fun E ce q9 u t H locs ht hvm hpx hB hz1 hk1 hS hq9 hv9 hc9 => ?_) (fun r9 u t H locs ht hvm hw hB hz1 hk1 hS => hw.elim)
    have hP : va_P D vwCl ((wWX11 cB cI cZ a0 I0 M0) ++ [((b3, .inl (cJ, 1, .inr (.inl o3))) : Nat × va_E)]) H := hP.kept (fun k q hq => hk1 q.1 (hP k q hq).lt (Nat.not_le.mpr (hP k q hq).lt))
    by_cases hk1 : k = 1
    · subst hk1
      have hE : E = wb_E1 := hB.trans rfl
      subst hE
      refine vx_catch hown [] ⟨0, 10, 13, 19⟩ [] (htb.trans rfl) (fun z hz => nomatch hz) (by decide) (by decide) (hts (.classLink RL 19 "java/util/NoSuchElementException") (List.mem_of_getElem? (i := 1) rfl)) (va_Nw.use rfl hX.2.2.2.1) hq9 hv9 hc9 ?_
      refine lv_astore (lv' := [(4, .ref q9), (0, .ref (a0 0)), (1, .int x1), (2, .int x2), (3, .ref b3)]) hx hb dL_hits_13 hl (by decide) rfl (fun ls hl => ?_)
      refine lv_iconst (v := (1 : Int32)) hx hb dL_hits_15 (by decide) ?_
      replace hf := wb_t rfl hf
      refine W.widen (k := 1) (n := 6) (Nat.le_of_ble_eq_true rfl) (Nat.le_of_ble_eq_true rfl) ?_
      exact W.iret (v := (1 : Int32)) hx hb hr (fun t ht hW => by rw [← Option.some.inj hf]; exact ⟨⟨(1 : Int32), (), rfl, rfl, by rw [ht]; exact hP, va_K.moved hW.alike hK, hD⟩, hS.F ht⟩) hS.2.2 dL_hits_16
    replace hf := wb_f hk1 hf
    exact absurd hf (fun h => nomatch h)
  · refine lv_aload_n hx hb dL_hits_0 rfl (lv_at hl 3 rfl) ?_
    refine lv_iconst (v := (0 : Int32)) hx hb dL_hits_1 (by decide) ?_
    refine lv_aload_n hx hb dL_hits_2 rfl (lv_at hl 0 rfl) ?_
    refine lv_iload_n hx hb dL_hits_3 rfl (lv_at hl 1 rfl) ?_
    refine lv_iload_n hx hb dL_hits_4 rfl (lv_at hl 2 rfl) ?_
    have hPc := wj_P1 hP
    have hDc := wj_D1 hD
    have hFc := wj_F hDc hS hA
    refine va_calli (va_runV (As := [.int x1, .int x2]) (rest := [.int (0 : Int32), .ref b3]) ⟨hx, hb, hml, hown, hts⟩ (cn_X11_hits l D cB cI cZ N a0 I0 M0 x1 x2 H.size r hr9) (cwV 2 hts gyL_hits_X11_hits rfl rfl rfl cdX11_hits ⟨Nat.le_of_ble_eq_true rfl, Nat.le_of_ble_eq_true rfl⟩) (wb_preDV hPc hK3 hDc (wr_11 hK hP (q0 := 0) rfl)) rfl rfl hl.1 rfl (lv_room (Nat.le_of_ble_eq_true rfl)) dL_hits_5 ⟨Nat.le_of_ble_eq_true rfl, Nat.le_of_ble_eq_true rfl⟩) hS (fun q _ h => hFc q h) hFc (fun r9 u t H locs ht hvm hw hB hz1 hk1 hS => ?_)
    obtain ⟨hP, hD⟩ := wj_1 hP hD hk1 hFc ht hB
    rw [hw]
    refine lv_i2l hx hb dL_hits_8 rfl ?_
    refine va_last hx hb hK hP hD hS 52 3 rfl rfl (show ¬ ((0 : Int32) < 0 ∨ 1 ≤ (0 : Int32).toNatClampNeg) from by decide) dL_hits_9 (fun H locs hP hD hS => ?_)
    have hP : va_P D vwCl ((wWX11 cB cI cZ a0 r.2.1 r.2.2) ++ [((b3, .inl (cJ, 1, .inr (.inl (vp_updL o3 ((0 : Int32)).toNatClampNeg r.1.toInt64)))) : Nat × va_E)]) H := hP
    have hD : va_D A ((wWX11 cB cI cZ a0 r.2.1 r.2.2) ++ [((b3, .inl (cJ, 1, .inr (.inl (vp_updL o3 ((0 : Int32)).toNatClampNeg r.1.toInt64)))) : Nat × va_E)]) := hD
    obtain ⟨o3_1, eo3_1, hf⟩ := wb_v hf
    rw [← eo3_1] at hP hD
    refine lv_goto (tgt := 17) hx hb dL_hits_10 (by decide) ?_
    refine lv_iconst (v := (0 : Int32)) hx hb dL_hits_17 (by decide) ?_
    refine W.widen (k := 1) (n := 6) (Nat.le_of_ble_eq_true rfl) (Nat.le_of_ble_eq_true rfl) ?_
    exact W.iret (v := (0 : Int32)) hx hb hr (fun t ht hW => by rw [← Option.some.inj hf]; exact ⟨⟨(0 : Int32), (), rfl, rfl, by rw [ht]; exact hP, va_K.moved hW.alike hK, hD⟩, hS.F ht⟩) hS.2.2 dL_hits_18
