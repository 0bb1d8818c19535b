set_option maxHeartbeats 4000000 in
set_option maxRecDepth 100000 in
theorem ct_X11_life (l : Launch) (hlt : l.stackTraces = false) (D : va_G) (cB cI cZ : ClassId) (N : Nat) (a0 : Nat → Nat) (I0 : Nat → Int32) (M0 : Nat → Nat → Int32) (x1 : Int32) (x2 : Int32) (x3 : Int32) (sz k : Nat) (hf : fX11_life N I0 M0 x1 x2 x3 = some (.inl k)) : vx_Met l yX11_life wyX11_life ({ frames := 7, cells := 1, slots := 6, locals := 140 }) (va_Pc [.ref (a0 0), .int x1, .int x2, .int x3] (wb_preX D [(cB, .byte), (cI, .int), (cZ, .boolean)] (wWX11 cB cI cZ a0 I0 M0) sz)) (va_Qi (fun _ (_ : Unit) => False) (fun _ _ => True) (fun q => sz ≤ q)) (vx_X (fun _ : Unit => True) (fun E _ _ => E = wb_ex k) (fun q => sz ≤ q)) 1 6 (fun q => sz ≤ q) := by
  refine vx_ofW (cc := cX11_life) (maxL := 4) (ret := (some .boolean)) (by decide) rfl ?_
  intro p e s m args below meth c s₁ B hml htab hv
  obtain ⟨rfl, hsz, hP, hK, hX⟩ := hv
  subst hsz
  have hx := B.exec
  have hb := B.bytes
  have hr := B.returns
  have hts := atoms_spec (ws := wyX11_life) B.pre
  have hown : s.vm.findClass RX11 = some m.cls := findClass_of_methodNamed B.named
  have hlocks := B.notSynchronized
  have hS : va_S (fun q => s.heap.size ≤ q) s.heap s.heap [] := va_S.rf
  have hl := lv_entry ([.ref (a0 0), .int x1, .int x2, .int x3]) (n := 4) (Nat.le_of_ble_eq_true rfl)
  rw [lg_entry_eq]
  generalize (lg_sl ([.ref (a0 0), .int x1, .int x2, .int x3]) ++ List.replicate (4 - (lg_sl ([.ref (a0 0), .int x1, .int x2, .int x3])).length) Slot.unset).toArray = ls at hl ⊢
  have hl : lv_has ls 4 [(0, .ref (a0 0)), (1, .int x1), (2, .int x2), (3, .int x3)] := hl
  unfold fX11_life at hf
  refine lv_iload_n hx hb dX11_life_0 rfl (lv_at hl 1 rfl) ?_
  refine lv_iconst (v := (0 : Int32)) hx hb dX11_life_1 (by decide) ?_
  refine lv_bipush (v := (19 : Int32)) hx hb dX11_life_2 (by decide) ?_
  obtain ⟨r1, hr1, hf⟩ := wb_b hf
  refine vp_callSi (W.runS (As := [.int x1, .int (0 : Int32), .int (19 : Int32)]) (rest := []) ⟨hx, hb, hml, hown, hts⟩ (cn_X11_within l D cB cI cZ N x1 (0 : Int32) (19 : Int32) r1 hr1) (va_cwS 3 hts gyX11_life_X11_within rfl rfl rfl csX11_within ⟨Nat.le_of_ble_eq_true rfl, Nat.le_of_ble_eq_true rfl⟩) (wb_preS (hP.sub (ws' := ([] : va_W)) [] rfl) hK) rfl rfl hl.1 rfl (lv_room (Nat.le_of_ble_eq_true rfl)) dX11_life_4 ⟨Nat.le_of_ble_eq_true rfl, Nat.le_of_ble_eq_true rfl⟩) (fun r9 e9 => ?_)
  rw [e9]
  rcases wb_xt hf with hrx | ⟨r2, hr2, hf⟩
  · refine vx_callv (vx_runS (As := [.int r1]) (rest := []) ⟨hx, hb, hml, hown, hts⟩ (ct_X11_need l hlt D cB cI cZ N r1 s.heap.size k hrx) (va_cwS 1 hts gyX11_life_X11_need rfl rfl rfl csX11_need ⟨Nat.le_of_ble_eq_true rfl, Nat.le_of_ble_eq_true rfl⟩) (wb_preXS (hP.sub (ws' := ([] : va_W)) [] rfl) hK hX) rfl rfl hl.1 rfl (lv_room (Nat.le_of_ble_eq_true rfl)) dX11_life_7 ⟨Nat.le_of_ble_eq_true rfl, Nat.le_of_ble_eq_true rfl⟩) hS (fun q _ h => h) (fun _ h => h) (fun q _ h => h) (fun E ce q9 u t H locs ht hvm hpx hB hz1 hk1 hS hq9 hv9 hc9 => ?_) (fun u t H locs ht hvm hw hB hz1 hk1 hS => hw.elim)
    exact vx_out (fun x hx9 => (htab x hx9).elim) hlocks hq9 hv9 hc9 (fun t9 ht9 hvm9 => ⟨(), trivial, hB, hS.F ht9⟩) hS.2.2 (Nat.le_of_ble_eq_true rfl) (Nat.le_of_ble_eq_true rfl)
  refine va_csv (W.runS (As := [.int r1]) (rest := []) ⟨hx, hb, hml, hown, hts⟩ (cn_X11_need l D cB cI cZ N r1 r2 hr2) (va_cwS 1 hts gyX11_life_X11_need rfl rfl rfl csX11_need ⟨Nat.le_of_ble_eq_true rfl, Nat.le_of_ble_eq_true rfl⟩) (wb_preS (hP.sub (ws' := ([] : va_W)) [] rfl) hK) rfl rfl hl.1 rfl (lv_room (Nat.le_of_ble_eq_true rfl)) dX11_life_7 ⟨Nat.le_of_ble_eq_true rfl, Nat.le_of_ble_eq_true rfl⟩) (fun _ => ?_)
  exact absurd hf wb_okn

