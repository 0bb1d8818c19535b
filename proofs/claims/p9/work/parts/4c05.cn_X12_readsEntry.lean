set_option maxHeartbeats 4000000 in
set_option maxRecDepth 100000 in
theorem cn_X12_readsEntry (l : Launch) (D : va_G) (cB cI cZ : ClassId) (N : Nat) (a0 : Nat → Nat) (I0 : Nat → Int32) (L0 : Int64) (M0 : Nat → Nat → Int32) (sz : Nat) (R : (Nat → Int32) × Int64 × (Nat → Nat → Int32)) (hf : fX12_readsEntry N I0 L0 M0 = some R) : Met l yX12_readsEntry wsX12_readsEntry ({ frames := 3, cells := 0, slots := 0, locals := 69 }) (va_Pc [.ref (a0 0)] (wb_preD D [(cB, .byte), (cI, .int), (cZ, .boolean)] (wWX12 cB cI cZ a0 I0 L0 M0) sz)) (va_Qv (fun _ : Unit => True) (fun _ t => wb_post D [(cB, .byte), (cI, .int), (cZ, .boolean)] (va_A (wWX12 cB cI cZ a0 I0 L0 M0) sz) (wWX12 cB cI cZ a0 R.1 R.2.1 R.2.2) t) (va_A (wWX12 cB cI cZ a0 I0 L0 M0) sz)) 0 0 (va_A (wWX12 cB cI cZ a0 I0 L0 M0) sz) := by
  refine Met.ofW (cc := cX12_readsEntry) (maxL := 5) (ret := none) (by decide) rfl ?_
  intro p e s m args below meth c s₁ B hml hv
  obtain ⟨rfl, hsz, hP, hK, hD0⟩ := hv
  have hx := B.exec
  have hb := B.bytes
  have hr := B.returns
  have hts := atoms_spec (ws := wsX12_readsEntry) B.pre
  have hown : s.vm.findClass RX12 = some m.cls := findClass_of_methodNamed B.named
  have hlocks := B.notSynchronized
  have hinX12 : ∀ w ∈ u_ws RX12 TX12 58, w ∈ wsX12_readsEntry := fun w h => List.mem_cons_of_mem _ (List.mem_append_right _ h)
  subst hsz
  have hD := hD0.self (sz := s.heap.size)
  generalize hAe : va_A (wWX12 cB cI cZ a0 I0 L0 M0) s.heap.size = A at hD ⊢
  have hA : ∀ q : Nat, s.heap.size ≤ q → A q := fun q h => by rw [← hAe]; exact Or.inr h
  have hS : va_S A s.heap s.heap [] := va_S.rf
  have hl := lv_entry ([.ref (a0 0)]) (n := 5) (Nat.le_of_ble_eq_true rfl)
  rw [lg_entry_eq]
  generalize (lg_sl ([.ref (a0 0)]) ++ List.replicate (5 - (lg_sl ([.ref (a0 0)])).length) Slot.unset).toArray = ls at hl ⊢
  have hl : lv_has ls 5 [(0, .ref (a0 0))] := hl
  unfold fX12_readsEntry at hf
  obtain ⟨H, hHe⟩ : ∃ H : Heap, H = s.heap := ⟨_, rfl⟩
  obtain ⟨locs, hle⟩ : ∃ locs : List Loc, locs = [] := ⟨_, rfl⟩
  refine wb_start (H := H) (locs := locs) hHe hle ?_
  rw [← hHe] at hP
  have hS : va_S A s.heap H locs := by rw [hHe, hle]; exact va_S.rf
  have J193 : ∀ (I0_j193 : Nat → Int32) (L0_j193 : Int64) (M0_j193 : Nat → Nat → Int32) (H : Heap) (locs : List Loc), va_P D vwCl (wWX12 cB cI cZ a0 I0_j193 L0_j193 M0_j193) H → va_D A (wWX12 cB cI cZ a0 I0_j193 L0_j193 M0_j193) → va_S A s.heap H locs → ∀ (ls : Array Slot), lv_has ls 5 [(0, .ref (a0 0))] → fX12_readsEntry_J193 N I0_j193 L0_j193 M0_j193 = some R → W p l e (headSpec wsX12_readsEntry { frames := 3, cells := 0, slots := 0, locals := 69 }).room s m [.ref (a0 0)].toArray below meth c H locs 0 0 (MQ below (va_Qv (fun _ : Unit => True) (fun _ t => wb_post D [(cB, .byte), (cI, .int), (cZ, .boolean)] A (wWX12 cB cI cZ a0 R.1 R.2.1 R.2.2) t) A) [.ref (a0 0)].toArray s 0 0 A) (F0 m 193 ls []) := by
    intro I0_j193 L0_j193 M0_j193 H locs hP hD hS ls hl hf
    unfold fX12_readsEntry_J193 at hf
    refine lv_aload_n hx hb dX12_readsEntry_193 rfl (lv_at hl 0 rfl) ?_
    refine lv_aload_n hx hb dX12_readsEntry_194 rfl (lv_at hl 0 rfl) ?_
    refine va_get (D := D) (ci := 12) (v := .int (I0_j193 8)) (C := RX12) (T := TX12) (N := 58) hx hb hts hinX12 hown hK hP 0 rfl rfl 17 (by decide) (hts (.fieldLink RX12 159 "WheelBookModel" "sort" "I") (List.mem_of_getElem? (i := 5) rfl)) (fun _ h9 => h9) rfl dX12_readsEntry_195 ?_
    refine lv_iconst (v := (3 : Int32)) hx hb dX12_readsEntry_198 (by decide) ?_
    refine lv_icmp_ne (tgt := 206) hx hb dX12_readsEntry_199 (by decide) (fun hc => ?_) (fun hc => ?_)
    · replace hf := wb_f hc hf
      refine lv_iconst (v := (0 : Int32)) hx hb dX12_readsEntry_206 (by decide) ?_
      obtain ⟨r1, hr1, hf⟩ := wb_b hf
      have hPc := hP
      have hDc := hD
      have hFc := wj_F hDc hS hA
      refine va_callv (va_runV (As := [.int (0 : Int32)]) (rest := []) ⟨hx, hb, hml, hown, hts⟩ (cn_X12_need l D cB cI cZ N a0 I0_j193 L0_j193 M0_j193 (0 : Int32) H.size r1 hr1) (cwV 1 hts gX12_readsEntry_X12_need rfl rfl rfl cdX12_need ⟨Nat.le_of_ble_eq_true rfl, Nat.le_of_ble_eq_true rfl⟩) (wb_preDV hPc hK hDc (va_recv hK hP (ci := 12) (q0 := 0) rfl rfl)) rfl rfl hl.1 rfl (lv_room (Nat.le_of_ble_eq_true rfl)) dX12_readsEntry_207 ⟨Nat.le_of_ble_eq_true rfl, Nat.le_of_ble_eq_true rfl⟩) hS (fun q _ h => hFc q h) hFc (fun u t H locs ht hvm hw hB hz1 hk1 hS => ?_)
      obtain ⟨hP, hD⟩ := wj_0 hFc ht hB
      exact W.vret hx hb hr (fun t ht hW => by rw [← Option.some.inj hf]; exact ⟨⟨(), rfl, trivial, by rw [ht]; exact hP, va_K.moved hW.alike hK, hD⟩, hS.F ht⟩) hS.2.2 dX12_readsEntry_210
    · replace hf := wb_t hc hf
      refine lv_iconst (v := (1 : Int32)) hx hb dX12_readsEntry_202 (by decide) ?_
      refine lv_goto (tgt := 207) hx hb dX12_readsEntry_203 (by decide) ?_
      obtain ⟨r2, hr2, hf⟩ := wb_b hf
      have hPc := hP
      have hDc := hD
      have hFc := wj_F hDc hS hA
      refine va_callv (va_runV (As := [.int (1 : Int32)]) (rest := []) ⟨hx, hb, hml, hown, hts⟩ (cn_X12_need l D cB cI cZ N a0 I0_j193 L0_j193 M0_j193 (1 : Int32) H.size r2 hr2) (cwV 1 hts gX12_readsEntry_X12_need rfl rfl rfl cdX12_need ⟨Nat.le_of_ble_eq_true rfl, Nat.le_of_ble_eq_true rfl⟩) (wb_preDV hPc hK hDc (va_recv hK hP (ci := 12) (q0 := 0) rfl rfl)) rfl rfl hl.1 rfl (lv_room (Nat.le_of_ble_eq_true rfl)) dX12_readsEntry_207 ⟨Nat.le_of_ble_eq_true rfl, Nat.le_of_ble_eq_true rfl⟩) hS (fun q _ h => hFc q h) hFc (fun u t H locs ht hvm hw hB hz1 hk1 hS => ?_)
      obtain ⟨hP, hD⟩ := wj_0 hFc ht hB
      exact W.vret hx hb hr (fun t ht hW => by rw [← Option.some.inj hf]; exact ⟨⟨(), rfl, trivial, by rw [ht]; exact hP, va_K.moved hW.alike hK, hD⟩, hS.F ht⟩) hS.2.2 dX12_readsEntry_210
  have J168 : ∀ (I0_j168 : Nat → Int32) (L0_j168 : Int64) (M0_j168 : Nat → Nat → Int32) (y168_2 : Int32) (y168_3 : Int32) (z168_0 : Int32) (z168_1 : Int32) (H : Heap) (locs : List Loc), va_P D vwCl (wWX12 cB cI cZ a0 I0_j168 L0_j168 M0_j168) H → va_D A (wWX12 cB cI cZ a0 I0_j168 L0_j168 M0_j168) → va_S A s.heap H locs → ∀ (ls : Array Slot), lv_has ls 5 [(0, .ref (a0 0)), (2, .int y168_2), (3, .int y168_3)] → fX12_readsEntry_J168 N I0_j168 L0_j168 M0_j168 y168_2 y168_3 z168_0 z168_1 = some R → W p l e (headSpec wsX12_readsEntry { frames := 3, cells := 0, slots := 0, locals := 69 }).room s m [.ref (a0 0)].toArray below meth c H locs 0 0 (MQ below (va_Qv (fun _ : Unit => True) (fun _ t => wb_post D [(cB, .byte), (cI, .int), (cZ, .boolean)] A (wWX12 cB cI cZ a0 R.1 R.2.1 R.2.2) t) A) [.ref (a0 0)].toArray s 0 0 A) (F0 m 168 ls [.int z168_0, .int z168_1, .ref (a0 0)]) := by
    intro I0_j168 L0_j168 M0_j168 y168_2 y168_3 z168_0 z168_1 H locs hP hD hS ls hl hf
    unfold fX12_readsEntry_J168 at hf
    obtain ⟨r3, hr3, hf⟩ := wb_b hf
    have hPc := hP
    have hDc := hD
    have hFc := wj_F hDc hS hA
    refine va_calli (va_runV (As := [.int z168_1, .int z168_0]) (rest := []) ⟨hx, hb, hml, hown, hts⟩ (cn_X12_number l D cB cI cZ N a0 I0_j168 L0_j168 M0_j168 z168_1 z168_0 H.size r3 hr3) (cwV 2 hts gX12_readsEntry_X12_number rfl rfl rfl cdX12_number ⟨Nat.le_of_ble_eq_true rfl, Nat.le_of_ble_eq_true rfl⟩) (wb_preDV hPc hK hDc (va_recv hK hP (ci := 12) (q0 := 0) rfl rfl)) rfl rfl hl.1 rfl (lv_room (Nat.le_of_ble_eq_true rfl)) dX12_readsEntry_168 ⟨Nat.le_of_ble_eq_true rfl, Nat.le_of_ble_eq_true rfl⟩) hS (fun q _ h => hFc q h) hFc (fun r9 u t H locs ht hvm hw hB hz1 hk1 hS => ?_)
    obtain ⟨hP, hD⟩ := wj_0 hFc ht hB
    rw [hw]
    obtain ⟨v4, ev4, hf⟩ := wb_v hf
    refine wb_topi ev4 ?_
    refine lv_istore (lv' := [(4, .int v4), (0, .ref (a0 0)), (2, .int y168_2), (3, .int y168_3)]) hx hb dX12_readsEntry_171 hl (by decide) rfl (fun ls hl => ?_)
    refine lv_aload_n hx hb dX12_readsEntry_173 rfl (lv_at hl 1 rfl) ?_
    obtain ⟨r5, hr5, hf⟩ := wb_b hf
    refine vp_callSi (W.runV (As := []) (rest := []) ⟨hx, hb, hml, hown, hts⟩ (cn_X12_isGood l D cB cI cZ N a0 r3.2.1 r3.2.2.1 r3.2.2.2 r5 hr5) (cwV 0 hts gX12_readsEntry_X12_isGood rfl rfl rfl cdX12_isGood ⟨Nat.le_of_ble_eq_true rfl, Nat.le_of_ble_eq_true rfl⟩) (wb_preV hP hK (va_recv hK hP (ci := 12) (q0 := 0) rfl rfl)) rfl rfl hl.1 rfl (lv_room (Nat.le_of_ble_eq_true rfl)) dX12_readsEntry_174 ⟨Nat.le_of_ble_eq_true rfl, Nat.le_of_ble_eq_true rfl⟩) (fun r9 e9 => ?_)
    rw [e9]
    refine lv_if_eq (tgt := 193) hx hb dX12_readsEntry_177 (by decide) (fun hc => ?_) (fun hc => ?_)
    · replace hf := wb_t hc hf
      exact J193 r3.2.1 r3.2.2.1 r3.2.2.2 H locs hP hD hS ls (lv_sub hl [1] rfl) hf
    · replace hf := wb_f hc hf
      refine lv_aload_n hx hb dX12_readsEntry_180 rfl (lv_at hl 1 rfl) ?_
      refine va_get (D := D) (ci := 12) (v := .ref (a0 17)) (C := RX12) (T := TX12) (N := 58) hx hb hts hinX12 hown hK hP 0 rfl rfl 32 (by decide) (hts (.fieldLink RX12 62 "WheelBookModel" "newEntries" "[I") (List.mem_of_getElem? (i := 1) rfl)) (fun _ h9 => h9) rfl dX12_readsEntry_181 ?_
      refine lv_iload_n hx hb dX12_readsEntry_184 rfl (lv_at hl 2 rfl) ?_
      refine lv_bipush (v := (30 : Int32)) hx hb dX12_readsEntry_185 (by decide) ?_
      refine lv_iload_n hx hb dX12_readsEntry_187 rfl (lv_at hl 3 rfl) ?_
      refine lv_imul hx hb dX12_readsEntry_188 ?_
      refine lv_iload hx hb dX12_readsEntry_189 (lv_at hl 0 rfl) ?_
      refine lv_iadd hx hb dX12_readsEntry_191 ?_
      obtain ⟨hin, hf⟩ := wb_n hf
      refine va_iast hx hb hK hP hD hS 17 1 rfl rfl hin dX12_readsEntry_192 (fun H locs hP hD hS => ?_)
      have hP : va_P D vwCl (wWX12 cB cI cZ a0 r3.2.1 r3.2.2.1 (wb_um r3.2.2.2 16 (y168_2).toNatClampNeg (((30 : Int32) * y168_3) + v4))) H := hP
      have hD : va_D A (wWX12 cB cI cZ a0 r3.2.1 r3.2.2.1 (wb_um r3.2.2.2 16 (y168_2).toNatClampNeg (((30 : Int32) * y168_3) + v4))) := hD
      obtain ⟨M0_6, eM0_6, hf⟩ := wb_v hf
      rw [← eM0_6] at hP hD
      exact J193 r3.2.1 r3.2.2.1 M0_6 H locs hP hD hS ls (lv_sub hl [1] rfl) hf
  have J166 : ∀ (I0_j166 : Nat → Int32) (L0_j166 : Int64) (M0_j166 : Nat → Nat → Int32) (y166_2 : Int32) (y166_3 : Int32) (z166_0 : Int32) (H : Heap) (locs : List Loc), va_P D vwCl (wWX12 cB cI cZ a0 I0_j166 L0_j166 M0_j166) H → va_D A (wWX12 cB cI cZ a0 I0_j166 L0_j166 M0_j166) → va_S A s.heap H locs → ∀ (ls : Array Slot), lv_has ls 5 [(0, .ref (a0 0)), (2, .int y166_2), (3, .int y166_3)] → fX12_readsEntry_J166 N I0_j166 L0_j166 M0_j166 y166_2 y166_3 z166_0 = some R → W p l e (headSpec wsX12_readsEntry { frames := 3, cells := 0, slots := 0, locals := 69 }).room s m [.ref (a0 0)].toArray below meth c H locs 0 0 (MQ below (va_Qv (fun _ : Unit => True) (fun _ t => wb_post D [(cB, .byte), (cI, .int), (cZ, .boolean)] A (wWX12 cB cI cZ a0 R.1 R.2.1 R.2.2) t) A) [.ref (a0 0)].toArray s 0 0 A) (F0 m 166 ls [.int z166_0, .ref (a0 0)]) := by
    intro I0_j166 L0_j166 M0_j166 y166_2 y166_3 z166_0 H locs hP hD hS ls hl hf
    unfold fX12_readsEntry_J166 at hf
    refine lv_bipush (v := (29 : Int32)) hx hb dX12_readsEntry_166 (by decide) ?_
    exact J168 I0_j166 L0_j166 M0_j166 y166_2 y166_3 (29 : Int32) z166_0 H locs hP hD hS ls (lv_sub hl [0, 1, 2] rfl) hf
  have J144 : ∀ (I0_j144 : Nat → Int32) (L0_j144 : Int64) (M0_j144 : Nat → Nat → Int32) (y144_1 : Int32) (y144_2 : Int32) (z144_0 : Int32) (z144_1 : Int32) (H : Heap) (locs : List Loc), va_P D vwCl (wWX12 cB cI cZ a0 I0_j144 L0_j144 M0_j144) H → va_D A (wWX12 cB cI cZ a0 I0_j144 L0_j144 M0_j144) → va_S A s.heap H locs → ∀ (ls : Array Slot), lv_has ls 5 [(0, .ref (a0 0)), (1, .int y144_1), (2, .int y144_2)] → fX12_readsEntry_J144 N I0_j144 L0_j144 M0_j144 y144_1 y144_2 z144_0 z144_1 = some R → W p l e (headSpec wsX12_readsEntry { frames := 3, cells := 0, slots := 0, locals := 69 }).room s m [.ref (a0 0)].toArray below meth c H locs 0 0 (MQ below (va_Qv (fun _ : Unit => True) (fun _ t => wb_post D [(cB, .byte), (cI, .int), (cZ, .boolean)] A (wWX12 cB cI cZ a0 R.1 R.2.1 R.2.2) t) A) [.ref (a0 0)].toArray s 0 0 A) (F0 m 144 ls [.int z144_0, .int z144_1, .ref (a0 0)]) := by
    intro I0_j144 L0_j144 M0_j144 y144_1 y144_2 z144_0 z144_1 H locs hP hD hS ls hl hf
    unfold fX12_readsEntry_J144 at hf
    obtain ⟨r7, hr7, hf⟩ := wb_b hf
    have hPc := hP
    have hDc := hD
    have hFc := wj_F hDc hS hA
    refine va_calli (va_runV (As := [.int z144_1, .int z144_0]) (rest := []) ⟨hx, hb, hml, hown, hts⟩ (cn_X12_number l D cB cI cZ N a0 I0_j144 L0_j144 M0_j144 z144_1 z144_0 H.size r7 hr7) (cwV 2 hts gX12_readsEntry_X12_number rfl rfl rfl cdX12_number ⟨Nat.le_of_ble_eq_true rfl, Nat.le_of_ble_eq_true rfl⟩) (wb_preDV hPc hK hDc (va_recv hK hP (ci := 12) (q0 := 0) rfl rfl)) rfl rfl hl.1 rfl (lv_room (Nat.le_of_ble_eq_true rfl)) dX12_readsEntry_144 ⟨Nat.le_of_ble_eq_true rfl, Nat.le_of_ble_eq_true rfl⟩) hS (fun q _ h => hFc q h) hFc (fun r9 u t H locs ht hvm hw hB hz1 hk1 hS => ?_)
    obtain ⟨hP, hD⟩ := wj_0 hFc ht hB
    rw [hw]
    obtain ⟨v8, ev8, hf⟩ := wb_v hf
    refine wb_topi ev8 ?_
    refine lv_istore_n (lv' := [(3, .int v8), (0, .ref (a0 0)), (1, .int y144_1), (2, .int y144_2)]) hx hb dX12_readsEntry_147 rfl hl (by decide) rfl (fun ls hl => ?_)
    refine lv_aload_n hx hb dX12_readsEntry_148 rfl (lv_at hl 1 rfl) ?_
    refine lv_iconst (v := (0 : Int32)) hx hb dX12_readsEntry_149 (by decide) ?_
    refine lv_iload_n hx hb dX12_readsEntry_150 rfl (lv_at hl 2 rfl) ?_
    refine lv_bipush (v := (10 : Int32)) hx hb dX12_readsEntry_151 (by decide) ?_
    refine lv_icmp_ne (tgt := 166) hx hb dX12_readsEntry_153 (by decide) (fun hc => ?_) (fun hc => ?_)
    · replace hf := wb_f hc hf
      exact J166 r7.2.1 r7.2.2.1 r7.2.2.2 y144_2 v8 (0 : Int32) H locs hP hD hS ls (lv_sub hl [1, 3, 0] rfl) hf
    · replace hf := wb_t hc hf
      refine lv_iload_n hx hb dX12_readsEntry_156 rfl (lv_at hl 0 rfl) ?_
      refine lv_bipush (v := (12 : Int32)) hx hb dX12_readsEntry_157 (by decide) ?_
      refine lv_icmp_ne (tgt := 166) hx hb dX12_readsEntry_159 (by decide) (fun hc => ?_) (fun hc => ?_)
      · replace hf := wb_f hc hf
        exact J166 r7.2.1 r7.2.2.1 r7.2.2.2 y144_2 v8 (0 : Int32) H locs hP hD hS ls (lv_sub hl [1, 3, 0] rfl) hf
      · replace hf := wb_t hc hf
        refine lv_iconst (v := (4 : Int32)) hx hb dX12_readsEntry_162 (by decide) ?_
        refine lv_goto (tgt := 168) hx hb dX12_readsEntry_163 (by decide) ?_
        exact J168 r7.2.1 r7.2.2.1 r7.2.2.2 y144_2 v8 (4 : Int32) (0 : Int32) H locs hP hD hS ls (lv_sub hl [1, 3, 0] rfl) hf
  have J129 : ∀ (I0_j129 : Nat → Int32) (L0_j129 : Int64) (M0_j129 : Nat → Nat → Int32) (y129_1 : Int32) (y129_2 : Int32) (H : Heap) (locs : List Loc), va_P D vwCl (wWX12 cB cI cZ a0 I0_j129 L0_j129 M0_j129) H → va_D A (wWX12 cB cI cZ a0 I0_j129 L0_j129 M0_j129) → va_S A s.heap H locs → ∀ (ls : Array Slot), lv_has ls 5 [(0, .ref (a0 0)), (1, .int y129_1), (2, .int y129_2)] → fX12_readsEntry_J129 N I0_j129 L0_j129 M0_j129 y129_1 y129_2 = some R → W p l e (headSpec wsX12_readsEntry { frames := 3, cells := 0, slots := 0, locals := 69 }).room s m [.ref (a0 0)].toArray below meth c H locs 0 0 (MQ below (va_Qv (fun _ : Unit => True) (fun _ t => wb_post D [(cB, .byte), (cI, .int), (cZ, .boolean)] A (wWX12 cB cI cZ a0 R.1 R.2.1 R.2.2) t) A) [.ref (a0 0)].toArray s 0 0 A) (F0 m 129 ls []) := by
    intro I0_j129 L0_j129 M0_j129 y129_1 y129_2 H locs hP hD hS ls hl hf
    unfold fX12_readsEntry_J129 at hf
    refine lv_aload_n hx hb dX12_readsEntry_129 rfl (lv_at hl 0 rfl) ?_
    refine lv_iconst (v := (0 : Int32)) hx hb dX12_readsEntry_130 (by decide) ?_
    refine lv_iload_n hx hb dX12_readsEntry_131 rfl (lv_at hl 1 rfl) ?_
    refine lv_bipush (v := (10 : Int32)) hx hb dX12_readsEntry_132 (by decide) ?_
    refine lv_icmp_ne (tgt := 142) hx hb dX12_readsEntry_134 (by decide) (fun hc => ?_) (fun hc => ?_)
    · replace hf := wb_f hc hf
      refine lv_bipush (v := (11 : Int32)) hx hb dX12_readsEntry_142 (by decide) ?_
      exact J144 I0_j129 L0_j129 M0_j129 y129_1 y129_2 (11 : Int32) (0 : Int32) H locs hP hD hS ls (lv_sub hl [0, 1, 2] rfl) hf
    · replace hf := wb_t hc hf
      refine lv_bipush (v := (12 : Int32)) hx hb dX12_readsEntry_137 (by decide) ?_
      refine lv_goto (tgt := 144) hx hb dX12_readsEntry_139 (by decide) ?_
      exact J144 I0_j129 L0_j129 M0_j129 y129_1 y129_2 (12 : Int32) (0 : Int32) H locs hP hD hS ls (lv_sub hl [0, 1, 2] rfl) hf
  have J62 : ∀ (I0_j62 : Nat → Int32) (L0_j62 : Int64) (M0_j62 : Nat → Nat → Int32) (y62_1 : Int32) (y62_2 : Int32) (H : Heap) (locs : List Loc), va_P D vwCl (wWX12 cB cI cZ a0 I0_j62 L0_j62 M0_j62) H → va_D A (wWX12 cB cI cZ a0 I0_j62 L0_j62 M0_j62) → va_S A s.heap H locs → ∀ (ls : Array Slot), lv_has ls 5 [(0, .ref (a0 0)), (1, .int y62_1), (2, .int y62_2)] → fX12_readsEntry_J62 N I0_j62 L0_j62 M0_j62 y62_1 y62_2 = some R → W p l e (headSpec wsX12_readsEntry { frames := 3, cells := 0, slots := 0, locals := 69 }).room s m [.ref (a0 0)].toArray below meth c H locs 0 0 (MQ below (va_Qv (fun _ : Unit => True) (fun _ t => wb_post D [(cB, .byte), (cI, .int), (cZ, .boolean)] A (wWX12 cB cI cZ a0 R.1 R.2.1 R.2.2) t) A) [.ref (a0 0)].toArray s 0 0 A) (F0 m 62 ls []) := by
    intro I0_j62 L0_j62 M0_j62 y62_1 y62_2 H locs hP hD hS ls hl hf
    unfold fX12_readsEntry_J62 at hf
    refine lv_aload_n hx hb dX12_readsEntry_62 rfl (lv_at hl 0 rfl) ?_
    obtain ⟨r9b, hr9b, hf⟩ := wb_b hf
    refine vp_callSi (W.runV (As := []) (rest := []) ⟨hx, hb, hml, hown, hts⟩ (cn_X12_isGood l D cB cI cZ N a0 I0_j62 L0_j62 M0_j62 r9b hr9b) (cwV 0 hts gX12_readsEntry_X12_isGood rfl rfl rfl cdX12_isGood ⟨Nat.le_of_ble_eq_true rfl, Nat.le_of_ble_eq_true rfl⟩) (wb_preV hP hK (va_recv hK hP (ci := 12) (q0 := 0) rfl rfl)) rfl rfl hl.1 rfl (lv_room (Nat.le_of_ble_eq_true rfl)) dX12_readsEntry_63 ⟨Nat.le_of_ble_eq_true rfl, Nat.le_of_ble_eq_true rfl⟩) (fun r9 e9 => ?_)
    rw [e9]
    refine lv_if_ne (tgt := 70) hx hb dX12_readsEntry_66 (by decide) (fun hc => ?_) (fun hc => ?_)
    · replace hf := wb_f hc hf
      refine lv_aload_n hx hb dX12_readsEntry_70 rfl (lv_at hl 0 rfl) ?_
      obtain ⟨r10, hr10, hf⟩ := wb_b hf
      have hPc := hP
      have hDc := hD
      have hFc := wj_F hDc hS hA
      refine va_callv (va_runV (As := []) (rest := []) ⟨hx, hb, hml, hown, hts⟩ (cn_X12_steps l D cB cI cZ N a0 I0_j62 L0_j62 M0_j62 H.size r10 hr10) (cwV 0 hts gX12_readsEntry_X12_steps rfl rfl rfl cdX12_steps ⟨Nat.le_of_ble_eq_true rfl, Nat.le_of_ble_eq_true rfl⟩) (wb_preDV hPc hK hDc (va_recv hK hP (ci := 12) (q0 := 0) rfl rfl)) rfl rfl hl.1 rfl (lv_room (Nat.le_of_ble_eq_true rfl)) dX12_readsEntry_71 ⟨Nat.le_of_ble_eq_true rfl, Nat.le_of_ble_eq_true rfl⟩) hS (fun q _ h => hFc q h) hFc (fun u t H locs ht hvm hw hB hz1 hk1 hS => ?_)
      obtain ⟨hP, hD⟩ := wj_0 hFc ht hB
      refine lv_iload_n hx hb dX12_readsEntry_74 rfl (lv_at hl 1 rfl) ?_
      refine lv_bipush (v := (9 : Int32)) hx hb dX12_readsEntry_75 (by decide) ?_
      refine lv_icmp_ne (tgt := 129) hx hb dX12_readsEntry_77 (by decide) (fun hc => ?_) (fun hc => ?_)
      · replace hf := wb_f hc hf
        exact J129 r10.1 r10.2.1 r10.2.2 y62_1 y62_2 H locs hP hD hS ls (lv_sub hl [0, 1, 2] rfl) hf
      · replace hf := wb_t hc hf
        refine lv_aload_n hx hb dX12_readsEntry_80 rfl (lv_at hl 0 rfl) ?_
        refine va_get (D := D) (ci := 12) (v := .int (r10.1 9)) (C := RX12) (T := TX12) (N := 58) hx hb hts hinX12 hown hK hP 0 rfl rfl 18 (by decide) (hts (.fieldLink RX12 149 "WheelBookModel" "place" "I") (List.mem_of_getElem? (i := 2) rfl)) (fun _ h9 => h9) rfl dX12_readsEntry_81 ?_
        obtain ⟨v11, ev11, hf⟩ := wb_v hf
        refine wb_topi ev11 ?_
        refine lv_istore_n (lv' := [(3, .int v11), (0, .ref (a0 0)), (1, .int y62_1), (2, .int y62_2)]) hx hb dX12_readsEntry_84 rfl hl (by decide) rfl (fun ls hl => ?_)
        refine lv_aload_n hx hb dX12_readsEntry_85 rfl (lv_at hl 1 rfl) ?_
        refine lv_iconst (v := (1 : Int32)) hx hb dX12_readsEntry_86 (by decide) ?_
        refine lv_bipush (v := (12 : Int32)) hx hb dX12_readsEntry_87 (by decide) ?_
        obtain ⟨r12, hr12, hf⟩ := wb_b hf
        have hPc := hP
        have hDc := hD
        have hFc := wj_F hDc hS hA
        refine va_calli (va_runV (As := [.int (1 : Int32), .int (12 : Int32)]) (rest := []) ⟨hx, hb, hml, hown, hts⟩ (cn_X12_number l D cB cI cZ N a0 r10.1 r10.2.1 r10.2.2 (1 : Int32) (12 : Int32) H.size r12 hr12) (cwV 2 hts gX12_readsEntry_X12_number rfl rfl rfl cdX12_number ⟨Nat.le_of_ble_eq_true rfl, Nat.le_of_ble_eq_true rfl⟩) (wb_preDV hPc hK hDc (va_recv hK hP (ci := 12) (q0 := 0) rfl rfl)) rfl rfl hl.1 rfl (lv_room (Nat.le_of_ble_eq_true rfl)) dX12_readsEntry_89 ⟨Nat.le_of_ble_eq_true rfl, Nat.le_of_ble_eq_true rfl⟩) hS (fun q _ h => hFc q h) hFc (fun r9 u t H locs ht hvm hw hB hz1 hk1 hS => ?_)
        obtain ⟨hP, hD⟩ := wj_0 hFc ht hB
        rw [hw]
        obtain ⟨v13, ev13, hf⟩ := wb_v hf
        refine wb_topi ev13 ?_
        refine lv_istore (lv' := [(4, .int v13), (3, .int v11), (0, .ref (a0 0)), (1, .int y62_1), (2, .int y62_2)]) hx hb dX12_readsEntry_92 hl (by decide) rfl (fun ls hl => ?_)
        refine lv_bipush (v := (9 : Int32)) hx hb dX12_readsEntry_94 (by decide) ?_
        refine lv_iload hx hb dX12_readsEntry_96 (lv_at hl 0 rfl) ?_
        refine lv_iadd hx hb dX12_readsEntry_98 ?_
        refine lv_iconst (v := (1 : Int32)) hx hb dX12_readsEntry_99 (by decide) ?_
        refine lv_isub hx hb dX12_readsEntry_100 ?_
        obtain ⟨v14, ev14, hf⟩ := wb_v hf
        refine wb_topi ev14 ?_
        refine lv_istore_n (lv' := [(2, .int v14), (4, .int v13), (3, .int v11), (0, .ref (a0 0)), (1, .int y62_1)]) hx hb dX12_readsEntry_101 rfl hl (by decide) rfl (fun ls hl => ?_)
        refine lv_aload_n hx hb dX12_readsEntry_102 rfl (lv_at hl 3 rfl) ?_
        obtain ⟨r15, hr15, hf⟩ := wb_b hf
        refine vp_callSi (W.runV (As := []) (rest := []) ⟨hx, hb, hml, hown, hts⟩ (cn_X12_isGood l D cB cI cZ N a0 r12.2.1 r12.2.2.1 r12.2.2.2 r15 hr15) (cwV 0 hts gX12_readsEntry_X12_isGood rfl rfl rfl cdX12_isGood ⟨Nat.le_of_ble_eq_true rfl, Nat.le_of_ble_eq_true rfl⟩) (wb_preV hP hK (va_recv hK hP (ci := 12) (q0 := 0) rfl rfl)) rfl rfl hl.1 rfl (lv_room (Nat.le_of_ble_eq_true rfl)) dX12_readsEntry_103 ⟨Nat.le_of_ble_eq_true rfl, Nat.le_of_ble_eq_true rfl⟩) (fun r9 e9 => ?_)
        rw [e9]
        refine lv_if_eq (tgt := 129) hx hb dX12_readsEntry_106 (by decide) (fun hc => ?_) (fun hc => ?_)
        · replace hf := wb_t hc hf
          exact J129 r12.2.1 r12.2.2.1 r12.2.2.2 y62_1 v14 H locs hP hD hS ls (lv_sub hl [3, 4, 0] rfl) hf
        · replace hf := wb_f hc hf
          refine lv_aload_n hx hb dX12_readsEntry_109 rfl (lv_at hl 3 rfl) ?_
          refine va_get (D := D) (ci := 12) (v := .ref (a0 17)) (C := RX12) (T := TX12) (N := 58) hx hb hts hinX12 hown hK hP 0 rfl rfl 32 (by decide) (hts (.fieldLink RX12 62 "WheelBookModel" "newEntries" "[I") (List.mem_of_getElem? (i := 1) rfl)) (fun _ h9 => h9) rfl dX12_readsEntry_110 ?_
          refine lv_iload_n hx hb dX12_readsEntry_113 rfl (lv_at hl 0 rfl) ?_
          obtain ⟨hin, hf⟩ := wb_n hf
          refine va_iald hx hb hK hP 17 1 rfl rfl hin dX12_readsEntry_114 ?_
          refine lv_iconst (v := (-1 : Int32)) hx hb dX12_readsEntry_115 (by decide) ?_
          refine lv_icmp_eq (tgt := 129) hx hb dX12_readsEntry_116 (by decide) (fun hc => ?_) (fun hc => ?_)
          · replace hf := wb_t hc hf
            exact J129 r12.2.1 r12.2.2.1 r12.2.2.2 y62_1 v14 H locs hP hD hS ls (lv_sub hl [3, 4, 0] rfl) hf
          · replace hf := wb_f hc hf
            refine lv_aload_n hx hb dX12_readsEntry_119 rfl (lv_at hl 3 rfl) ?_
            refine lv_iconst (v := (3 : Int32)) hx hb dX12_readsEntry_120 (by decide) ?_
            refine va_put (D := D) (ci := 12) (v := .int (3 : Int32)) (ty := .int) (C := RX12) (T := TX12) (N := 58) hx hb hts hinX12 tyX12 tyX12_ok nmX12 hown hK hP hD hS 0 rfl rfl 13 (by decide) (hts (.fieldLink RX12 180 "WheelBookModel" "faultKind" "I") (List.mem_of_getElem? (i := 3) rfl)) (fun _ h9 => h9) rfl (by decide +kernel) rfl rfl (Nat.le_of_ble_eq_true rfl) dX12_readsEntry_121 (fun H locs hP hD hS => ?_)
            have hP : va_P D vwCl (wWX12 cB cI cZ a0 (upd r12.2.1 4 (3 : Int32)) r12.2.2.1 r12.2.2.2) H := hP
            have hD : va_D A (wWX12 cB cI cZ a0 (upd r12.2.1 4 (3 : Int32)) r12.2.2.1 r12.2.2.2) := hD
            obtain ⟨I0_16, eI0_16, hf⟩ := wb_v hf
            rw [← eI0_16] at hP hD
            refine lv_aload_n hx hb dX12_readsEntry_124 rfl (lv_at hl 3 rfl) ?_
            refine lv_iload_n hx hb dX12_readsEntry_125 rfl (lv_at hl 2 rfl) ?_
            refine va_put (D := D) (ci := 12) (v := .int v11) (ty := .int) (C := RX12) (T := TX12) (N := 58) hx hb hts hinX12 tyX12 tyX12_ok nmX12 hown hK hP hD hS 0 rfl rfl 14 (by decide) (hts (.fieldLink RX12 37 "WheelBookModel" "faultPlace" "I") (List.mem_of_getElem? (i := 4) rfl)) (fun _ h9 => h9) rfl (by decide +kernel) rfl rfl (Nat.le_of_ble_eq_true rfl) dX12_readsEntry_126 (fun H locs hP hD hS => ?_)
            have hP : va_P D vwCl (wWX12 cB cI cZ a0 (upd I0_16 5 v11) r12.2.2.1 r12.2.2.2) H := hP
            have hD : va_D A (wWX12 cB cI cZ a0 (upd I0_16 5 v11) r12.2.2.1 r12.2.2.2) := hD
            obtain ⟨I0_17, eI0_17, hf⟩ := wb_v hf
            rw [← eI0_17] at hP hD
            exact J129 I0_17 r12.2.2.1 r12.2.2.2 y62_1 v14 H locs hP hD hS ls (lv_sub hl [3, 4, 0] rfl) hf
    · replace hf := wb_t hc hf
      exact W.vret hx hb hr (fun t ht hW => by rw [← Option.some.inj hf]; exact ⟨⟨(), rfl, trivial, by rw [ht]; exact hP, va_K.moved hW.alike hK, hD⟩, hS.F ht⟩) hS.2.2 dX12_readsEntry_69
  have J40 : ∀ (I0_j40 : Nat → Int32) (L0_j40 : Int64) (M0_j40 : Nat → Nat → Int32) (y40_1 : Int32) (z40_0 : Int32) (H : Heap) (locs : List Loc), va_P D vwCl (wWX12 cB cI cZ a0 I0_j40 L0_j40 M0_j40) H → va_D A (wWX12 cB cI cZ a0 I0_j40 L0_j40 M0_j40) → va_S A s.heap H locs → ∀ (ls : Array Slot), lv_has ls 5 [(0, .ref (a0 0)), (1, .int y40_1)] → fX12_readsEntry_J40 N I0_j40 L0_j40 M0_j40 y40_1 z40_0 = some R → W p l e (headSpec wsX12_readsEntry { frames := 3, cells := 0, slots := 0, locals := 69 }).room s m [.ref (a0 0)].toArray below meth c H locs 0 0 (MQ below (va_Qv (fun _ : Unit => True) (fun _ t => wb_post D [(cB, .byte), (cI, .int), (cZ, .boolean)] A (wWX12 cB cI cZ a0 R.1 R.2.1 R.2.2) t) A) [.ref (a0 0)].toArray s 0 0 A) (F0 m 40 ls [.int z40_0]) := by
    intro I0_j40 L0_j40 M0_j40 y40_1 z40_0 H locs hP hD hS ls hl hf
    unfold fX12_readsEntry_J40 at hf
    refine lv_istore_n (lv' := [(2, .int z40_0), (0, .ref (a0 0)), (1, .int y40_1)]) hx hb dX12_readsEntry_40 rfl hl (by decide) rfl (fun ls hl => ?_)
    refine lv_iload_n hx hb dX12_readsEntry_41 rfl (lv_at hl 2 rfl) ?_
    refine lv_bipush (v := (9 : Int32)) hx hb dX12_readsEntry_42 (by decide) ?_
    refine lv_icmp_eq (tgt := 62) hx hb dX12_readsEntry_44 (by decide) (fun hc => ?_) (fun hc => ?_)
    · replace hf := wb_t hc hf
      exact J62 I0_j40 L0_j40 M0_j40 y40_1 z40_0 H locs hP hD hS ls (lv_sub hl [1, 2, 0] rfl) hf
    · replace hf := wb_f hc hf
      refine lv_aload_n hx hb dX12_readsEntry_47 rfl (lv_at hl 1 rfl) ?_
      refine va_get (D := D) (ci := 12) (v := .ref (a0 17)) (C := RX12) (T := TX12) (N := 58) hx hb hts hinX12 hown hK hP 0 rfl rfl 32 (by decide) (hts (.fieldLink RX12 62 "WheelBookModel" "newEntries" "[I") (List.mem_of_getElem? (i := 1) rfl)) (fun _ h9 => h9) rfl dX12_readsEntry_48 ?_
      refine lv_iload_n hx hb dX12_readsEntry_51 rfl (lv_at hl 0 rfl) ?_
      obtain ⟨hin, hf⟩ := wb_n hf
      refine va_iald hx hb hK hP 17 1 rfl rfl hin dX12_readsEntry_52 ?_
      refine lv_iconst (v := (-1 : Int32)) hx hb dX12_readsEntry_53 (by decide) ?_
      refine lv_icmp_eq (tgt := 62) hx hb dX12_readsEntry_54 (by decide) (fun hc => ?_) (fun hc => ?_)
      · replace hf := wb_t hc hf
        exact J62 I0_j40 L0_j40 M0_j40 y40_1 z40_0 H locs hP hD hS ls (lv_sub hl [1, 2, 0] rfl) hf
      · replace hf := wb_f hc hf
        refine lv_aload_n hx hb dX12_readsEntry_57 rfl (lv_at hl 1 rfl) ?_
        refine lv_iconst (v := (3 : Int32)) hx hb dX12_readsEntry_58 (by decide) ?_
        obtain ⟨r18, hr18, hf⟩ := wb_b hf
        have hPc := hP
        have hDc := hD
        have hFc := wj_F hDc hS hA
        refine va_callv (va_runV (As := [.int (3 : Int32)]) (rest := []) ⟨hx, hb, hml, hown, hts⟩ (cn_X12_wrong l D cB cI cZ N a0 I0_j40 L0_j40 M0_j40 (3 : Int32) H.size r18 hr18) (cwV 1 hts gX12_readsEntry_X12_wrong rfl rfl rfl cdX12_wrong ⟨Nat.le_of_ble_eq_true rfl, Nat.le_of_ble_eq_true rfl⟩) (wb_preDV hPc hK hDc (va_recv hK hP (ci := 12) (q0 := 0) rfl rfl)) rfl rfl hl.1 rfl (lv_room (Nat.le_of_ble_eq_true rfl)) dX12_readsEntry_59 ⟨Nat.le_of_ble_eq_true rfl, Nat.le_of_ble_eq_true rfl⟩) hS (fun q _ h => hFc q h) hFc (fun u t H locs ht hvm hw hB hz1 hk1 hS => ?_)
        obtain ⟨hP, hD⟩ := wj_0 hFc ht hB
        exact J62 r18.1 r18.2.1 r18.2.2 y40_1 z40_0 H locs hP hD hS ls (lv_sub hl [1, 2, 0] rfl) hf
  have J20 : ∀ (I0_j20 : Nat → Int32) (L0_j20 : Int64) (M0_j20 : Nat → Nat → Int32) (y20_1 : Int32) (H : Heap) (locs : List Loc), va_P D vwCl (wWX12 cB cI cZ a0 I0_j20 L0_j20 M0_j20) H → va_D A (wWX12 cB cI cZ a0 I0_j20 L0_j20 M0_j20) → va_S A s.heap H locs → ∀ (ls : Array Slot), lv_has ls 5 [(0, .ref (a0 0)), (1, .int y20_1)] → fX12_readsEntry_J20 N I0_j20 L0_j20 M0_j20 y20_1 = some R → W p l e (headSpec wsX12_readsEntry { frames := 3, cells := 0, slots := 0, locals := 69 }).room s m [.ref (a0 0)].toArray below meth c H locs 0 0 (MQ below (va_Qv (fun _ : Unit => True) (fun _ t => wb_post D [(cB, .byte), (cI, .int), (cZ, .boolean)] A (wWX12 cB cI cZ a0 R.1 R.2.1 R.2.2) t) A) [.ref (a0 0)].toArray s 0 0 A) (F0 m 20 ls []) := by
    intro I0_j20 L0_j20 M0_j20 y20_1 H locs hP hD hS ls hl hf
    unfold fX12_readsEntry_J20 at hf
    refine lv_aload_n hx hb dX12_readsEntry_20 rfl (lv_at hl 0 rfl) ?_
    obtain ⟨r19, hr19, hf⟩ := wb_b hf
    refine vp_callSi (W.runV (As := []) (rest := []) ⟨hx, hb, hml, hown, hts⟩ (cn_X12_isGood l D cB cI cZ N a0 I0_j20 L0_j20 M0_j20 r19 hr19) (cwV 0 hts gX12_readsEntry_X12_isGood rfl rfl rfl cdX12_isGood ⟨Nat.le_of_ble_eq_true rfl, Nat.le_of_ble_eq_true rfl⟩) (wb_preV hP hK (va_recv hK hP (ci := 12) (q0 := 0) rfl rfl)) rfl rfl hl.1 rfl (lv_room (Nat.le_of_ble_eq_true rfl)) dX12_readsEntry_21 ⟨Nat.le_of_ble_eq_true rfl, Nat.le_of_ble_eq_true rfl⟩) (fun r9 e9 => ?_)
    rw [e9]
    refine lv_if_ne (tgt := 28) hx hb dX12_readsEntry_24 (by decide) (fun hc => ?_) (fun hc => ?_)
    · replace hf := wb_f hc hf
      refine lv_iload_n hx hb dX12_readsEntry_28 rfl (lv_at hl 1 rfl) ?_
      refine lv_bipush (v := (10 : Int32)) hx hb dX12_readsEntry_29 (by decide) ?_
      refine lv_icmp_ne (tgt := 39) hx hb dX12_readsEntry_31 (by decide) (fun hc => ?_) (fun hc => ?_)
      · replace hf := wb_f hc hf
        refine lv_iload_n hx hb dX12_readsEntry_39 rfl (lv_at hl 1 rfl) ?_
        exact J40 I0_j20 L0_j20 M0_j20 y20_1 y20_1 H locs hP hD hS ls (lv_sub hl [0, 1] rfl) hf
      · replace hf := wb_t hc hf
        refine lv_bipush (v := (21 : Int32)) hx hb dX12_readsEntry_34 (by decide) ?_
        refine lv_goto (tgt := 40) hx hb dX12_readsEntry_36 (by decide) ?_
        exact J40 I0_j20 L0_j20 M0_j20 y20_1 (21 : Int32) H locs hP hD hS ls (lv_sub hl [0, 1] rfl) hf
    · replace hf := wb_t hc hf
      exact W.vret hx hb hr (fun t ht hW => by rw [← Option.some.inj hf]; exact ⟨⟨(), rfl, trivial, by rw [ht]; exact hP, va_K.moved hW.alike hK, hD⟩, hS.F ht⟩) hS.2.2 dX12_readsEntry_27
  have J15 : ∀ (I0_j15 : Nat → Int32) (L0_j15 : Int64) (M0_j15 : Nat → Nat → Int32) (y15_1 : Int32) (H : Heap) (locs : List Loc), va_P D vwCl (wWX12 cB cI cZ a0 I0_j15 L0_j15 M0_j15) H → va_D A (wWX12 cB cI cZ a0 I0_j15 L0_j15 M0_j15) → va_S A s.heap H locs → ∀ (ls : Array Slot), lv_has ls 5 [(0, .ref (a0 0)), (1, .int y15_1)] → fX12_readsEntry_J15 N I0_j15 L0_j15 M0_j15 y15_1 = some R → W p l e (headSpec wsX12_readsEntry { frames := 3, cells := 0, slots := 0, locals := 69 }).room s m [.ref (a0 0)].toArray below meth c H locs 0 0 (MQ below (va_Qv (fun _ : Unit => True) (fun _ t => wb_post D [(cB, .byte), (cI, .int), (cZ, .boolean)] A (wWX12 cB cI cZ a0 R.1 R.2.1 R.2.2) t) A) [.ref (a0 0)].toArray s 0 0 A) (F0 m 15 ls []) := by
    intro I0_j15 L0_j15 M0_j15 y15_1 H locs hP hD hS ls hl hf
    unfold fX12_readsEntry_J15 at hf
    refine lv_aload_n hx hb dX12_readsEntry_15 rfl (lv_at hl 0 rfl) ?_
    refine lv_iconst (v := (1 : Int32)) hx hb dX12_readsEntry_16 (by decide) ?_
    obtain ⟨r20, hr20, hf⟩ := wb_b hf
    have hPc := hP
    have hDc := hD
    have hFc := wj_F hDc hS hA
    refine va_callv (va_runV (As := [.int (1 : Int32)]) (rest := []) ⟨hx, hb, hml, hown, hts⟩ (cn_X12_wrong l D cB cI cZ N a0 I0_j15 L0_j15 M0_j15 (1 : Int32) H.size r20 hr20) (cwV 1 hts gX12_readsEntry_X12_wrong rfl rfl rfl cdX12_wrong ⟨Nat.le_of_ble_eq_true rfl, Nat.le_of_ble_eq_true rfl⟩) (wb_preDV hPc hK hDc (va_recv hK hP (ci := 12) (q0 := 0) rfl rfl)) rfl rfl hl.1 rfl (lv_room (Nat.le_of_ble_eq_true rfl)) dX12_readsEntry_17 ⟨Nat.le_of_ble_eq_true rfl, Nat.le_of_ble_eq_true rfl⟩) hS (fun q _ h => hFc q h) hFc (fun u t H locs ht hvm hw hB hz1 hk1 hS => ?_)
    obtain ⟨hP, hD⟩ := wj_0 hFc ht hB
    exact J20 r20.1 r20.2.1 r20.2.2 y15_1 H locs hP hD hS ls (lv_sub hl [0, 1] rfl) hf
  refine lv_aload_n hx hb dX12_readsEntry_0 rfl (lv_at hl 0 rfl) ?_
  obtain ⟨r21, hr21, hf⟩ := wb_b hf
  refine vp_callSi (W.runV (As := []) (rest := []) ⟨hx, hb, hml, hown, hts⟩ (cn_X12_knownWord l D cB cI cZ N a0 I0 L0 M0 r21 hr21) (cwV 0 hts gX12_readsEntry_X12_knownWord rfl rfl rfl cdX12_knownWord ⟨Nat.le_of_ble_eq_true rfl, Nat.le_of_ble_eq_true rfl⟩) (wb_preV hP hK (va_recv hK hP (ci := 12) (q0 := 0) rfl rfl)) rfl rfl hl.1 rfl (lv_room (Nat.le_of_ble_eq_true rfl)) dX12_readsEntry_1 ⟨Nat.le_of_ble_eq_true rfl, Nat.le_of_ble_eq_true rfl⟩) (fun r9 e9 => ?_)
  rw [e9]
  refine lv_istore_n (lv' := [(1, .int r21), (0, .ref (a0 0))]) hx hb dX12_readsEntry_4 rfl hl (by decide) rfl (fun ls hl => ?_)
  refine lv_iload_n hx hb dX12_readsEntry_5 rfl (lv_at hl 0 rfl) ?_
  refine lv_if_lt (tgt := 15) hx hb dX12_readsEntry_6 (by decide) (fun hc => ?_) (fun hc => ?_)
  · replace hf := wb_t hc hf
    exact J15 I0 L0 M0 r21 H locs hP hD hS ls (lv_sub hl [1, 0] rfl) hf
  · replace hf := wb_f hc hf
    refine lv_iload_n hx hb dX12_readsEntry_9 rfl (lv_at hl 0 rfl) ?_
    refine lv_bipush (v := (10 : Int32)) hx hb dX12_readsEntry_10 (by decide) ?_
    refine lv_icmp_le (tgt := 20) hx hb dX12_readsEntry_12 (by decide) (fun hc => ?_) (fun hc => ?_)
    · replace hf := wb_t hc hf
      exact J20 I0 L0 M0 r21 H locs hP hD hS ls (lv_sub hl [1, 0] rfl) hf
    · replace hf := wb_f hc hf
      exact J15 I0 L0 M0 r21 H locs hP hD hS ls (lv_sub hl [1, 0] rfl) hf
