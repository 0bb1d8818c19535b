/-! decode rows out of the bytes: one row an opcode, then each instruction by a look at its bytes -/
def dc_at (c : ByteArray) (pc : Nat) (s : List Nat) : Prop := (c.data.toList.map UInt8.toNat).drop pc = s
theorem dc_base {c : ByteArray} {s : List Nat} (h : c.data.toList.map UInt8.toNat = s) : dc_at c 0 s := h
theorem dc_one {c : ByteArray} {pc b : Nat} {r : List Nat} (h : dc_at c pc (b :: r)) : (∃ hp : pc < c.size, (c[pc]'hp).toNat = b) ∧ dc_at c (pc + 1) r := by
  unfold dc_at at h ⊢
  have hp : pc < (c.data.toList.map UInt8.toNat).length := by
    rcases Nat.lt_or_ge pc (c.data.toList.map UInt8.toNat).length with q | q
    · exact q
    · rw [List.drop_eq_nil_of_le q] at h; cases h
  rw [List.drop_eq_getElem_cons hp] at h
  injection h with e1 e2
  have hq : pc < c.size := by simpa using hp
  have e3 : (c.data.toList.map UInt8.toNat)[pc]'hp = (c[pc]'hq).toNat := by rw [List.getElem_map]; rfl
  exact ⟨⟨hq, by rw [← e3]; exact e1⟩, e2⟩
theorem dc_n1 {c : ByteArray} {p a : Nat} {s : List Nat} (h : dc_at c p (a :: s)) : dc_at c (p + 1) s := (dc_one h).2
theorem dc_n2 {c : ByteArray} {p a b : Nat} {s : List Nat} (h : dc_at c p (a :: b :: s)) : dc_at c (p + 2) s := dc_n1 (dc_n1 h)
theorem dc_n3 {c : ByteArray} {p a b d : Nat} {s : List Nat} (h : dc_at c p (a :: b :: d :: s)) : dc_at c (p + 3) s := dc_n1 (dc_n2 h)
theorem dc_nn {c : ByteArray} {p k : Nat} {s r : List Nat} (h : dc_at c p s) (e : s.drop k = r) : dc_at c (p + k) r := by
  unfold dc_at at h ⊢
  rw [← e, ← h, List.drop_drop]
theorem dc_u1 {c : ByteArray} {pc b : Nat} (h : ∃ hp : pc < c.size, (c[pc]'hp).toNat = b) : (Jvm.ClassFile.Reader.u1 : Jvm.ClassFile.Decoder Nat) c pc = .ok (b, pc + 1) := by
  obtain ⟨hp, e⟩ := h
  show (dite (pc < c.size) _ _ : Jvm.ClassFile.Decoder Nat) c pc = _
  rw [dif_pos hp]
  show Except.ok ((c[pc]'hp).toNat, pc + 1) = _
  rw [e]
theorem dc_bind {α β : Type} {x : Jvm.ClassFile.Decoder α} {f : α → Jvm.ClassFile.Decoder β} {c : ByteArray} {p q : Nat} {a : α} (h : x c p = .ok (a, q)) : (x >>= f) c p = f a c q := by
  show Except.bind (x c p) (fun y => f y.1 c y.2) = _
  rw [h]; rfl
theorem dc_u2 {c : ByteArray} {pc a b : Nat} (h : ∃ hp : pc < c.size, (c[pc]'hp).toNat = a) (h2 : ∃ hp : pc + 1 < c.size, (c[pc + 1]'hp).toNat = b) : (Jvm.ClassFile.Reader.u2 : Jvm.ClassFile.Decoder Nat) c pc = .ok (a * 256 + b, pc + 1 + 1) :=
  (dc_bind (dc_u1 h)).trans ((dc_bind (dc_u1 h2)).trans rfl)
theorem dc_s1 {c : ByteArray} {pc b : Nat} (h : ∃ hp : pc < c.size, (c[pc]'hp).toNat = b) : (Jvm.ClassFile.Reader.s1 : Jvm.ClassFile.Decoder Int) c pc = .ok (Jvm.ClassFile.Reader.signed 8 b, pc + 1) := by
  show Except.bind ((Jvm.ClassFile.Reader.u1 : Jvm.ClassFile.Decoder Nat) c pc) (fun y => Except.ok (Jvm.ClassFile.Reader.signed 8 y.1, y.2)) = _
  rw [dc_u1 h]; rfl
theorem dc_s2 {c : ByteArray} {pc a b : Nat} (h : ∃ hp : pc < c.size, (c[pc]'hp).toNat = a) (h2 : ∃ hp : pc + 1 < c.size, (c[pc + 1]'hp).toNat = b) : (Jvm.ClassFile.Reader.s2 : Jvm.ClassFile.Decoder Int) c pc = .ok (Jvm.ClassFile.Reader.signed 16 (a * 256 + b), pc + 1 + 1) := by
  show Except.bind ((Jvm.ClassFile.Reader.u2 : Jvm.ClassFile.Decoder Nat) c pc) (fun y => Except.ok (Jvm.ClassFile.Reader.signed 16 y.1, y.2)) = _
  rw [dc_u2 h h2]; rfl
theorem dc_dec {c : ByteArray} {pc n k : Nat} {i : Instr} (h : (Jvm.ClassFile.Decoder.instr pc) c pc = .ok (i, n)) (hk : n - pc = k) : decode c pc = .ok (i, k) := by
  subst hk
  show Except.bind ((Jvm.ClassFile.Decoder.instr pc) c pc) (fun y => Except.ok (y.1, y.2 - pc)) = _
  rw [h]; rfl
theorem dc_188_10 {c : ByteArray} {pc : Nat} {s : List Nat} (h : dc_at c pc (188 :: 10 :: s)) : decode c pc = .ok (.newarray .int, 2) := by
  obtain ⟨h0, h⟩ := dc_one h
  obtain ⟨h1, -⟩ := dc_one h
  exact dc_dec ((dc_bind (dc_u1 h0)).trans ((dc_bind (dc_u1 h1)).trans rfl)) (by omega)
theorem dc_188_11 {c : ByteArray} {pc : Nat} {s : List Nat} (h : dc_at c pc (188 :: 11 :: s)) : decode c pc = .ok (.newarray .long, 2) := by
  obtain ⟨h0, h⟩ := dc_one h
  obtain ⟨h1, -⟩ := dc_one h
  exact dc_dec ((dc_bind (dc_u1 h0)).trans ((dc_bind (dc_u1 h1)).trans rfl)) (by omega)
theorem dc_188_4 {c : ByteArray} {pc : Nat} {s : List Nat} (h : dc_at c pc (188 :: 4 :: s)) : decode c pc = .ok (.newarray .boolean, 2) := by
  obtain ⟨h0, h⟩ := dc_one h
  obtain ⟨h1, -⟩ := dc_one h
  exact dc_dec ((dc_bind (dc_u1 h0)).trans ((dc_bind (dc_u1 h1)).trans rfl)) (by omega)
theorem dc_188_8 {c : ByteArray} {pc : Nat} {s : List Nat} (h : dc_at c pc (188 :: 8 :: s)) : decode c pc = .ok (.newarray .byte, 2) := by
  obtain ⟨h0, h⟩ := dc_one h
  obtain ⟨h1, -⟩ := dc_one h
  exact dc_dec ((dc_bind (dc_u1 h0)).trans ((dc_bind (dc_u1 h1)).trans rfl)) (by omega)
theorem dc_10 {c : ByteArray} {pc : Nat}  {s : List Nat} (h : dc_at c pc (10 :: s))  : decode c pc = .ok (.lconst 1, 1) := by
  obtain ⟨h0, -⟩ := dc_one h
  exact dc_dec ((dc_bind (dc_u1 h0)).trans rfl) (by omega)
theorem dc_100 {c : ByteArray} {pc : Nat}  {s : List Nat} (h : dc_at c pc (100 :: s))  : decode c pc = .ok (.isub, 1) := by
  obtain ⟨h0, -⟩ := dc_one h
  exact dc_dec ((dc_bind (dc_u1 h0)).trans rfl) (by omega)
theorem dc_101 {c : ByteArray} {pc : Nat}  {s : List Nat} (h : dc_at c pc (101 :: s))  : decode c pc = .ok (.lsub, 1) := by
  obtain ⟨h0, -⟩ := dc_one h
  exact dc_dec ((dc_bind (dc_u1 h0)).trans rfl) (by omega)
theorem dc_104 {c : ByteArray} {pc : Nat}  {s : List Nat} (h : dc_at c pc (104 :: s))  : decode c pc = .ok (.imul, 1) := by
  obtain ⟨h0, -⟩ := dc_one h
  exact dc_dec ((dc_bind (dc_u1 h0)).trans rfl) (by omega)
theorem dc_105 {c : ByteArray} {pc : Nat}  {s : List Nat} (h : dc_at c pc (105 :: s))  : decode c pc = .ok (.lmul, 1) := by
  obtain ⟨h0, -⟩ := dc_one h
  exact dc_dec ((dc_bind (dc_u1 h0)).trans rfl) (by omega)
theorem dc_108 {c : ByteArray} {pc : Nat}  {s : List Nat} (h : dc_at c pc (108 :: s))  : decode c pc = .ok (.idiv, 1) := by
  obtain ⟨h0, -⟩ := dc_one h
  exact dc_dec ((dc_bind (dc_u1 h0)).trans rfl) (by omega)
theorem dc_109 {c : ByteArray} {pc : Nat}  {s : List Nat} (h : dc_at c pc (109 :: s))  : decode c pc = .ok (.ldiv, 1) := by
  obtain ⟨h0, -⟩ := dc_one h
  exact dc_dec ((dc_bind (dc_u1 h0)).trans rfl) (by omega)
theorem dc_112 {c : ByteArray} {pc : Nat}  {s : List Nat} (h : dc_at c pc (112 :: s))  : decode c pc = .ok (.irem, 1) := by
  obtain ⟨h0, -⟩ := dc_one h
  exact dc_dec ((dc_bind (dc_u1 h0)).trans rfl) (by omega)
theorem dc_113 {c : ByteArray} {pc : Nat}  {s : List Nat} (h : dc_at c pc (113 :: s))  : decode c pc = .ok (.lrem, 1) := by
  obtain ⟨h0, -⟩ := dc_one h
  exact dc_dec ((dc_bind (dc_u1 h0)).trans rfl) (by omega)
theorem dc_116 {c : ByteArray} {pc : Nat}  {s : List Nat} (h : dc_at c pc (116 :: s))  : decode c pc = .ok (.ineg, 1) := by
  obtain ⟨h0, -⟩ := dc_one h
  exact dc_dec ((dc_bind (dc_u1 h0)).trans rfl) (by omega)
theorem dc_117 {c : ByteArray} {pc : Nat}  {s : List Nat} (h : dc_at c pc (117 :: s))  : decode c pc = .ok (.lneg, 1) := by
  obtain ⟨h0, -⟩ := dc_one h
  exact dc_dec ((dc_bind (dc_u1 h0)).trans rfl) (by omega)
theorem dc_120 {c : ByteArray} {pc : Nat}  {s : List Nat} (h : dc_at c pc (120 :: s))  : decode c pc = .ok (.ishl, 1) := by
  obtain ⟨h0, -⟩ := dc_one h
  exact dc_dec ((dc_bind (dc_u1 h0)).trans rfl) (by omega)
theorem dc_121 {c : ByteArray} {pc : Nat}  {s : List Nat} (h : dc_at c pc (121 :: s))  : decode c pc = .ok (.lshl, 1) := by
  obtain ⟨h0, -⟩ := dc_one h
  exact dc_dec ((dc_bind (dc_u1 h0)).trans rfl) (by omega)
theorem dc_122 {c : ByteArray} {pc : Nat}  {s : List Nat} (h : dc_at c pc (122 :: s))  : decode c pc = .ok (.ishr, 1) := by
  obtain ⟨h0, -⟩ := dc_one h
  exact dc_dec ((dc_bind (dc_u1 h0)).trans rfl) (by omega)
theorem dc_124 {c : ByteArray} {pc : Nat}  {s : List Nat} (h : dc_at c pc (124 :: s))  : decode c pc = .ok (.iushr, 1) := by
  obtain ⟨h0, -⟩ := dc_one h
  exact dc_dec ((dc_bind (dc_u1 h0)).trans rfl) (by omega)
theorem dc_126 {c : ByteArray} {pc : Nat}  {s : List Nat} (h : dc_at c pc (126 :: s))  : decode c pc = .ok (.iand, 1) := by
  obtain ⟨h0, -⟩ := dc_one h
  exact dc_dec ((dc_bind (dc_u1 h0)).trans rfl) (by omega)
theorem dc_128 {c : ByteArray} {pc : Nat}  {s : List Nat} (h : dc_at c pc (128 :: s))  : decode c pc = .ok (.ior, 1) := by
  obtain ⟨h0, -⟩ := dc_one h
  exact dc_dec ((dc_bind (dc_u1 h0)).trans rfl) (by omega)
theorem dc_129 {c : ByteArray} {pc : Nat}  {s : List Nat} (h : dc_at c pc (129 :: s))  : decode c pc = .ok (.lor, 1) := by
  obtain ⟨h0, -⟩ := dc_one h
  exact dc_dec ((dc_bind (dc_u1 h0)).trans rfl) (by omega)
theorem dc_130 {c : ByteArray} {pc : Nat}  {s : List Nat} (h : dc_at c pc (130 :: s))  : decode c pc = .ok (.ixor, 1) := by
  obtain ⟨h0, -⟩ := dc_one h
  exact dc_dec ((dc_bind (dc_u1 h0)).trans rfl) (by omega)
theorem dc_131 {c : ByteArray} {pc : Nat}  {s : List Nat} (h : dc_at c pc (131 :: s))  : decode c pc = .ok (.lxor, 1) := by
  obtain ⟨h0, -⟩ := dc_one h
  exact dc_dec ((dc_bind (dc_u1 h0)).trans rfl) (by omega)
theorem dc_132 {c : ByteArray} {pc : Nat} {a0 : Nat} {a1 : Nat} {v1 : Int} {s : List Nat} (h : dc_at c pc (132 :: a0 :: a1 :: s)) (e1 : Jvm.ClassFile.Reader.signed 8 (a1) = v1) : decode c pc = .ok (.iinc a0 v1, 3) := by
  obtain ⟨h0, h⟩ := dc_one h
  obtain ⟨h1, h⟩ := dc_one h
  obtain ⟨h2, -⟩ := dc_one h
  subst e1
  exact dc_dec ((dc_bind (dc_u1 h0)).trans ((dc_bind (dc_u1 h1)).trans ((dc_bind (dc_s1 h2)).trans rfl))) (by omega)
theorem dc_133 {c : ByteArray} {pc : Nat}  {s : List Nat} (h : dc_at c pc (133 :: s))  : decode c pc = .ok (.i2l, 1) := by
  obtain ⟨h0, -⟩ := dc_one h
  exact dc_dec ((dc_bind (dc_u1 h0)).trans rfl) (by omega)
theorem dc_136 {c : ByteArray} {pc : Nat}  {s : List Nat} (h : dc_at c pc (136 :: s))  : decode c pc = .ok (.l2i, 1) := by
  obtain ⟨h0, -⟩ := dc_one h
  exact dc_dec ((dc_bind (dc_u1 h0)).trans rfl) (by omega)
theorem dc_145 {c : ByteArray} {pc : Nat}  {s : List Nat} (h : dc_at c pc (145 :: s))  : decode c pc = .ok (.i2b, 1) := by
  obtain ⟨h0, -⟩ := dc_one h
  exact dc_dec ((dc_bind (dc_u1 h0)).trans rfl) (by omega)
theorem dc_146 {c : ByteArray} {pc : Nat}  {s : List Nat} (h : dc_at c pc (146 :: s))  : decode c pc = .ok (.i2c, 1) := by
  obtain ⟨h0, -⟩ := dc_one h
  exact dc_dec ((dc_bind (dc_u1 h0)).trans rfl) (by omega)
theorem dc_148 {c : ByteArray} {pc : Nat}  {s : List Nat} (h : dc_at c pc (148 :: s))  : decode c pc = .ok (.lcmp, 1) := by
  obtain ⟨h0, -⟩ := dc_one h
  exact dc_dec ((dc_bind (dc_u1 h0)).trans rfl) (by omega)
theorem dc_153 {c : ByteArray} {pc : Nat} {a0 b0 : Nat} {v0 : Int} {s : List Nat} (h : dc_at c pc (153 :: a0 :: b0 :: s)) (e0 : Jvm.ClassFile.Reader.signed 16 (a0 * 256 + b0) = v0) : decode c pc = .ok (.ifCond .eq v0, 3) := by
  obtain ⟨h0, h⟩ := dc_one h
  obtain ⟨h1, h⟩ := dc_one h
  obtain ⟨h2, -⟩ := dc_one h
  subst e0
  exact dc_dec ((dc_bind (dc_u1 h0)).trans ((dc_bind (dc_s2 h1 h2)).trans rfl)) (by omega)
theorem dc_154 {c : ByteArray} {pc : Nat} {a0 b0 : Nat} {v0 : Int} {s : List Nat} (h : dc_at c pc (154 :: a0 :: b0 :: s)) (e0 : Jvm.ClassFile.Reader.signed 16 (a0 * 256 + b0) = v0) : decode c pc = .ok (.ifCond .ne v0, 3) := by
  obtain ⟨h0, h⟩ := dc_one h
  obtain ⟨h1, h⟩ := dc_one h
  obtain ⟨h2, -⟩ := dc_one h
  subst e0
  exact dc_dec ((dc_bind (dc_u1 h0)).trans ((dc_bind (dc_s2 h1 h2)).trans rfl)) (by omega)
theorem dc_155 {c : ByteArray} {pc : Nat} {a0 b0 : Nat} {v0 : Int} {s : List Nat} (h : dc_at c pc (155 :: a0 :: b0 :: s)) (e0 : Jvm.ClassFile.Reader.signed 16 (a0 * 256 + b0) = v0) : decode c pc = .ok (.ifCond .lt v0, 3) := by
  obtain ⟨h0, h⟩ := dc_one h
  obtain ⟨h1, h⟩ := dc_one h
  obtain ⟨h2, -⟩ := dc_one h
  subst e0
  exact dc_dec ((dc_bind (dc_u1 h0)).trans ((dc_bind (dc_s2 h1 h2)).trans rfl)) (by omega)
theorem dc_156 {c : ByteArray} {pc : Nat} {a0 b0 : Nat} {v0 : Int} {s : List Nat} (h : dc_at c pc (156 :: a0 :: b0 :: s)) (e0 : Jvm.ClassFile.Reader.signed 16 (a0 * 256 + b0) = v0) : decode c pc = .ok (.ifCond .ge v0, 3) := by
  obtain ⟨h0, h⟩ := dc_one h
  obtain ⟨h1, h⟩ := dc_one h
  obtain ⟨h2, -⟩ := dc_one h
  subst e0
  exact dc_dec ((dc_bind (dc_u1 h0)).trans ((dc_bind (dc_s2 h1 h2)).trans rfl)) (by omega)
theorem dc_158 {c : ByteArray} {pc : Nat} {a0 b0 : Nat} {v0 : Int} {s : List Nat} (h : dc_at c pc (158 :: a0 :: b0 :: s)) (e0 : Jvm.ClassFile.Reader.signed 16 (a0 * 256 + b0) = v0) : decode c pc = .ok (.ifCond .le v0, 3) := by
  obtain ⟨h0, h⟩ := dc_one h
  obtain ⟨h1, h⟩ := dc_one h
  obtain ⟨h2, -⟩ := dc_one h
  subst e0
  exact dc_dec ((dc_bind (dc_u1 h0)).trans ((dc_bind (dc_s2 h1 h2)).trans rfl)) (by omega)
theorem dc_159 {c : ByteArray} {pc : Nat} {a0 b0 : Nat} {v0 : Int} {s : List Nat} (h : dc_at c pc (159 :: a0 :: b0 :: s)) (e0 : Jvm.ClassFile.Reader.signed 16 (a0 * 256 + b0) = v0) : decode c pc = .ok (.if_icmp .eq v0, 3) := by
  obtain ⟨h0, h⟩ := dc_one h
  obtain ⟨h1, h⟩ := dc_one h
  obtain ⟨h2, -⟩ := dc_one h
  subst e0
  exact dc_dec ((dc_bind (dc_u1 h0)).trans ((dc_bind (dc_s2 h1 h2)).trans rfl)) (by omega)
theorem dc_16 {c : ByteArray} {pc : Nat} {a0 : Nat} {v0 : Int} {s : List Nat} (h : dc_at c pc (16 :: a0 :: s)) (e0 : Jvm.ClassFile.Reader.signed 8 (a0) = v0) : decode c pc = .ok (.bipush v0, 2) := by
  obtain ⟨h0, h⟩ := dc_one h
  obtain ⟨h1, -⟩ := dc_one h
  subst e0
  exact dc_dec ((dc_bind (dc_u1 h0)).trans ((dc_bind (dc_s1 h1)).trans rfl)) (by omega)
theorem dc_160 {c : ByteArray} {pc : Nat} {a0 b0 : Nat} {v0 : Int} {s : List Nat} (h : dc_at c pc (160 :: a0 :: b0 :: s)) (e0 : Jvm.ClassFile.Reader.signed 16 (a0 * 256 + b0) = v0) : decode c pc = .ok (.if_icmp .ne v0, 3) := by
  obtain ⟨h0, h⟩ := dc_one h
  obtain ⟨h1, h⟩ := dc_one h
  obtain ⟨h2, -⟩ := dc_one h
  subst e0
  exact dc_dec ((dc_bind (dc_u1 h0)).trans ((dc_bind (dc_s2 h1 h2)).trans rfl)) (by omega)
theorem dc_161 {c : ByteArray} {pc : Nat} {a0 b0 : Nat} {v0 : Int} {s : List Nat} (h : dc_at c pc (161 :: a0 :: b0 :: s)) (e0 : Jvm.ClassFile.Reader.signed 16 (a0 * 256 + b0) = v0) : decode c pc = .ok (.if_icmp .lt v0, 3) := by
  obtain ⟨h0, h⟩ := dc_one h
  obtain ⟨h1, h⟩ := dc_one h
  obtain ⟨h2, -⟩ := dc_one h
  subst e0
  exact dc_dec ((dc_bind (dc_u1 h0)).trans ((dc_bind (dc_s2 h1 h2)).trans rfl)) (by omega)
theorem dc_162 {c : ByteArray} {pc : Nat} {a0 b0 : Nat} {v0 : Int} {s : List Nat} (h : dc_at c pc (162 :: a0 :: b0 :: s)) (e0 : Jvm.ClassFile.Reader.signed 16 (a0 * 256 + b0) = v0) : decode c pc = .ok (.if_icmp .ge v0, 3) := by
  obtain ⟨h0, h⟩ := dc_one h
  obtain ⟨h1, h⟩ := dc_one h
  obtain ⟨h2, -⟩ := dc_one h
  subst e0
  exact dc_dec ((dc_bind (dc_u1 h0)).trans ((dc_bind (dc_s2 h1 h2)).trans rfl)) (by omega)
theorem dc_163 {c : ByteArray} {pc : Nat} {a0 b0 : Nat} {v0 : Int} {s : List Nat} (h : dc_at c pc (163 :: a0 :: b0 :: s)) (e0 : Jvm.ClassFile.Reader.signed 16 (a0 * 256 + b0) = v0) : decode c pc = .ok (.if_icmp .gt v0, 3) := by
  obtain ⟨h0, h⟩ := dc_one h
  obtain ⟨h1, h⟩ := dc_one h
  obtain ⟨h2, -⟩ := dc_one h
  subst e0
  exact dc_dec ((dc_bind (dc_u1 h0)).trans ((dc_bind (dc_s2 h1 h2)).trans rfl)) (by omega)
theorem dc_164 {c : ByteArray} {pc : Nat} {a0 b0 : Nat} {v0 : Int} {s : List Nat} (h : dc_at c pc (164 :: a0 :: b0 :: s)) (e0 : Jvm.ClassFile.Reader.signed 16 (a0 * 256 + b0) = v0) : decode c pc = .ok (.if_icmp .le v0, 3) := by
  obtain ⟨h0, h⟩ := dc_one h
  obtain ⟨h1, h⟩ := dc_one h
  obtain ⟨h2, -⟩ := dc_one h
  subst e0
  exact dc_dec ((dc_bind (dc_u1 h0)).trans ((dc_bind (dc_s2 h1 h2)).trans rfl)) (by omega)
theorem dc_167 {c : ByteArray} {pc : Nat} {a0 b0 : Nat} {v0 : Int} {s : List Nat} (h : dc_at c pc (167 :: a0 :: b0 :: s)) (e0 : Jvm.ClassFile.Reader.signed 16 (a0 * 256 + b0) = v0) : decode c pc = .ok (.goto v0, 3) := by
  obtain ⟨h0, h⟩ := dc_one h
  obtain ⟨h1, h⟩ := dc_one h
  obtain ⟨h2, -⟩ := dc_one h
  subst e0
  exact dc_dec ((dc_bind (dc_u1 h0)).trans ((dc_bind (dc_s2 h1 h2)).trans rfl)) (by omega)
theorem dc_17 {c : ByteArray} {pc : Nat} {a0 b0 : Nat} {v0 : Int} {s : List Nat} (h : dc_at c pc (17 :: a0 :: b0 :: s)) (e0 : Jvm.ClassFile.Reader.signed 16 (a0 * 256 + b0) = v0) : decode c pc = .ok (.sipush v0, 3) := by
  obtain ⟨h0, h⟩ := dc_one h
  obtain ⟨h1, h⟩ := dc_one h
  obtain ⟨h2, -⟩ := dc_one h
  subst e0
  exact dc_dec ((dc_bind (dc_u1 h0)).trans ((dc_bind (dc_s2 h1 h2)).trans rfl)) (by omega)
theorem dc_172 {c : ByteArray} {pc : Nat}  {s : List Nat} (h : dc_at c pc (172 :: s))  : decode c pc = .ok (.ireturn, 1) := by
  obtain ⟨h0, -⟩ := dc_one h
  exact dc_dec ((dc_bind (dc_u1 h0)).trans rfl) (by omega)
theorem dc_173 {c : ByteArray} {pc : Nat}  {s : List Nat} (h : dc_at c pc (173 :: s))  : decode c pc = .ok (.lreturn, 1) := by
  obtain ⟨h0, -⟩ := dc_one h
  exact dc_dec ((dc_bind (dc_u1 h0)).trans rfl) (by omega)
theorem dc_176 {c : ByteArray} {pc : Nat}  {s : List Nat} (h : dc_at c pc (176 :: s))  : decode c pc = .ok (.areturn, 1) := by
  obtain ⟨h0, -⟩ := dc_one h
  exact dc_dec ((dc_bind (dc_u1 h0)).trans rfl) (by omega)
theorem dc_177 {c : ByteArray} {pc : Nat}  {s : List Nat} (h : dc_at c pc (177 :: s))  : decode c pc = .ok (.return_, 1) := by
  obtain ⟨h0, -⟩ := dc_one h
  exact dc_dec ((dc_bind (dc_u1 h0)).trans rfl) (by omega)
theorem dc_178 {c : ByteArray} {pc : Nat} {a0 b0 : Nat} {s : List Nat} (h : dc_at c pc (178 :: a0 :: b0 :: s))  : decode c pc = .ok (.getstatic (a0 * 256 + b0), 3) := by
  obtain ⟨h0, h⟩ := dc_one h
  obtain ⟨h1, h⟩ := dc_one h
  obtain ⟨h2, -⟩ := dc_one h
  exact dc_dec ((dc_bind (dc_u1 h0)).trans ((dc_bind (dc_u2 h1 h2)).trans rfl)) (by omega)
theorem dc_18 {c : ByteArray} {pc : Nat} {a0 : Nat} {s : List Nat} (h : dc_at c pc (18 :: a0 :: s))  : decode c pc = .ok (.ldc a0, 2) := by
  obtain ⟨h0, h⟩ := dc_one h
  obtain ⟨h1, -⟩ := dc_one h
  exact dc_dec ((dc_bind (dc_u1 h0)).trans ((dc_bind (dc_u1 h1)).trans rfl)) (by omega)
theorem dc_180 {c : ByteArray} {pc : Nat} {a0 b0 : Nat} {s : List Nat} (h : dc_at c pc (180 :: a0 :: b0 :: s))  : decode c pc = .ok (.getfield (a0 * 256 + b0), 3) := by
  obtain ⟨h0, h⟩ := dc_one h
  obtain ⟨h1, h⟩ := dc_one h
  obtain ⟨h2, -⟩ := dc_one h
  exact dc_dec ((dc_bind (dc_u1 h0)).trans ((dc_bind (dc_u2 h1 h2)).trans rfl)) (by omega)
theorem dc_181 {c : ByteArray} {pc : Nat} {a0 b0 : Nat} {s : List Nat} (h : dc_at c pc (181 :: a0 :: b0 :: s))  : decode c pc = .ok (.putfield (a0 * 256 + b0), 3) := by
  obtain ⟨h0, h⟩ := dc_one h
  obtain ⟨h1, h⟩ := dc_one h
  obtain ⟨h2, -⟩ := dc_one h
  exact dc_dec ((dc_bind (dc_u1 h0)).trans ((dc_bind (dc_u2 h1 h2)).trans rfl)) (by omega)
theorem dc_182 {c : ByteArray} {pc : Nat} {a0 b0 : Nat} {s : List Nat} (h : dc_at c pc (182 :: a0 :: b0 :: s))  : decode c pc = .ok (.invokevirtual (a0 * 256 + b0), 3) := by
  obtain ⟨h0, h⟩ := dc_one h
  obtain ⟨h1, h⟩ := dc_one h
  obtain ⟨h2, -⟩ := dc_one h
  exact dc_dec ((dc_bind (dc_u1 h0)).trans ((dc_bind (dc_u2 h1 h2)).trans rfl)) (by omega)
theorem dc_183 {c : ByteArray} {pc : Nat} {a0 b0 : Nat} {s : List Nat} (h : dc_at c pc (183 :: a0 :: b0 :: s))  : decode c pc = .ok (.invokespecial (a0 * 256 + b0), 3) := by
  obtain ⟨h0, h⟩ := dc_one h
  obtain ⟨h1, h⟩ := dc_one h
  obtain ⟨h2, -⟩ := dc_one h
  exact dc_dec ((dc_bind (dc_u1 h0)).trans ((dc_bind (dc_u2 h1 h2)).trans rfl)) (by omega)
theorem dc_184 {c : ByteArray} {pc : Nat} {a0 b0 : Nat} {s : List Nat} (h : dc_at c pc (184 :: a0 :: b0 :: s))  : decode c pc = .ok (.invokestatic (a0 * 256 + b0), 3) := by
  obtain ⟨h0, h⟩ := dc_one h
  obtain ⟨h1, h⟩ := dc_one h
  obtain ⟨h2, -⟩ := dc_one h
  exact dc_dec ((dc_bind (dc_u1 h0)).trans ((dc_bind (dc_u2 h1 h2)).trans rfl)) (by omega)
theorem dc_187 {c : ByteArray} {pc : Nat} {a0 b0 : Nat} {s : List Nat} (h : dc_at c pc (187 :: a0 :: b0 :: s))  : decode c pc = .ok (.new (a0 * 256 + b0), 3) := by
  obtain ⟨h0, h⟩ := dc_one h
  obtain ⟨h1, h⟩ := dc_one h
  obtain ⟨h2, -⟩ := dc_one h
  exact dc_dec ((dc_bind (dc_u1 h0)).trans ((dc_bind (dc_u2 h1 h2)).trans rfl)) (by omega)
theorem dc_19 {c : ByteArray} {pc : Nat} {a0 b0 : Nat} {s : List Nat} (h : dc_at c pc (19 :: a0 :: b0 :: s))  : decode c pc = .ok (.ldc_w (a0 * 256 + b0), 3) := by
  obtain ⟨h0, h⟩ := dc_one h
  obtain ⟨h1, h⟩ := dc_one h
  obtain ⟨h2, -⟩ := dc_one h
  exact dc_dec ((dc_bind (dc_u1 h0)).trans ((dc_bind (dc_u2 h1 h2)).trans rfl)) (by omega)
theorem dc_190 {c : ByteArray} {pc : Nat}  {s : List Nat} (h : dc_at c pc (190 :: s))  : decode c pc = .ok (.arraylength, 1) := by
  obtain ⟨h0, -⟩ := dc_one h
  exact dc_dec ((dc_bind (dc_u1 h0)).trans rfl) (by omega)
theorem dc_191 {c : ByteArray} {pc : Nat}  {s : List Nat} (h : dc_at c pc (191 :: s))  : decode c pc = .ok (.athrow, 1) := by
  obtain ⟨h0, -⟩ := dc_one h
  exact dc_dec ((dc_bind (dc_u1 h0)).trans rfl) (by omega)
theorem dc_2 {c : ByteArray} {pc : Nat}  {s : List Nat} (h : dc_at c pc (2 :: s))  : decode c pc = .ok (.iconst (-1), 1) := by
  obtain ⟨h0, -⟩ := dc_one h
  exact dc_dec ((dc_bind (dc_u1 h0)).trans rfl) (by omega)
theorem dc_20 {c : ByteArray} {pc : Nat} {a0 b0 : Nat} {s : List Nat} (h : dc_at c pc (20 :: a0 :: b0 :: s))  : decode c pc = .ok (.ldc2_w (a0 * 256 + b0), 3) := by
  obtain ⟨h0, h⟩ := dc_one h
  obtain ⟨h1, h⟩ := dc_one h
  obtain ⟨h2, -⟩ := dc_one h
  exact dc_dec ((dc_bind (dc_u1 h0)).trans ((dc_bind (dc_u2 h1 h2)).trans rfl)) (by omega)
theorem dc_21 {c : ByteArray} {pc : Nat} {a0 : Nat} {s : List Nat} (h : dc_at c pc (21 :: a0 :: s))  : decode c pc = .ok (.iload a0, 2) := by
  obtain ⟨h0, h⟩ := dc_one h
  obtain ⟨h1, -⟩ := dc_one h
  exact dc_dec ((dc_bind (dc_u1 h0)).trans ((dc_bind (dc_u1 h1)).trans rfl)) (by omega)
theorem dc_22 {c : ByteArray} {pc : Nat} {a0 : Nat} {s : List Nat} (h : dc_at c pc (22 :: a0 :: s))  : decode c pc = .ok (.lload a0, 2) := by
  obtain ⟨h0, h⟩ := dc_one h
  obtain ⟨h1, -⟩ := dc_one h
  exact dc_dec ((dc_bind (dc_u1 h0)).trans ((dc_bind (dc_u1 h1)).trans rfl)) (by omega)
theorem dc_25 {c : ByteArray} {pc : Nat} {a0 : Nat} {s : List Nat} (h : dc_at c pc (25 :: a0 :: s))  : decode c pc = .ok (.aload a0, 2) := by
  obtain ⟨h0, h⟩ := dc_one h
  obtain ⟨h1, -⟩ := dc_one h
  exact dc_dec ((dc_bind (dc_u1 h0)).trans ((dc_bind (dc_u1 h1)).trans rfl)) (by omega)
theorem dc_26 {c : ByteArray} {pc : Nat}  {s : List Nat} (h : dc_at c pc (26 :: s))  : decode c pc = .ok (.iload_n 0, 1) := by
  obtain ⟨h0, -⟩ := dc_one h
  exact dc_dec ((dc_bind (dc_u1 h0)).trans rfl) (by omega)
theorem dc_27 {c : ByteArray} {pc : Nat}  {s : List Nat} (h : dc_at c pc (27 :: s))  : decode c pc = .ok (.iload_n 1, 1) := by
  obtain ⟨h0, -⟩ := dc_one h
  exact dc_dec ((dc_bind (dc_u1 h0)).trans rfl) (by omega)
theorem dc_28 {c : ByteArray} {pc : Nat}  {s : List Nat} (h : dc_at c pc (28 :: s))  : decode c pc = .ok (.iload_n 2, 1) := by
  obtain ⟨h0, -⟩ := dc_one h
  exact dc_dec ((dc_bind (dc_u1 h0)).trans rfl) (by omega)
theorem dc_29 {c : ByteArray} {pc : Nat}  {s : List Nat} (h : dc_at c pc (29 :: s))  : decode c pc = .ok (.iload_n 3, 1) := by
  obtain ⟨h0, -⟩ := dc_one h
  exact dc_dec ((dc_bind (dc_u1 h0)).trans rfl) (by omega)
theorem dc_3 {c : ByteArray} {pc : Nat}  {s : List Nat} (h : dc_at c pc (3 :: s))  : decode c pc = .ok (.iconst 0, 1) := by
  obtain ⟨h0, -⟩ := dc_one h
  exact dc_dec ((dc_bind (dc_u1 h0)).trans rfl) (by omega)
theorem dc_30 {c : ByteArray} {pc : Nat}  {s : List Nat} (h : dc_at c pc (30 :: s))  : decode c pc = .ok (.lload_n 0, 1) := by
  obtain ⟨h0, -⟩ := dc_one h
  exact dc_dec ((dc_bind (dc_u1 h0)).trans rfl) (by omega)
theorem dc_32 {c : ByteArray} {pc : Nat}  {s : List Nat} (h : dc_at c pc (32 :: s))  : decode c pc = .ok (.lload_n 2, 1) := by
  obtain ⟨h0, -⟩ := dc_one h
  exact dc_dec ((dc_bind (dc_u1 h0)).trans rfl) (by omega)
theorem dc_4 {c : ByteArray} {pc : Nat}  {s : List Nat} (h : dc_at c pc (4 :: s))  : decode c pc = .ok (.iconst 1, 1) := by
  obtain ⟨h0, -⟩ := dc_one h
  exact dc_dec ((dc_bind (dc_u1 h0)).trans rfl) (by omega)
theorem dc_42 {c : ByteArray} {pc : Nat}  {s : List Nat} (h : dc_at c pc (42 :: s))  : decode c pc = .ok (.aload_n 0, 1) := by
  obtain ⟨h0, -⟩ := dc_one h
  exact dc_dec ((dc_bind (dc_u1 h0)).trans rfl) (by omega)
theorem dc_43 {c : ByteArray} {pc : Nat}  {s : List Nat} (h : dc_at c pc (43 :: s))  : decode c pc = .ok (.aload_n 1, 1) := by
  obtain ⟨h0, -⟩ := dc_one h
  exact dc_dec ((dc_bind (dc_u1 h0)).trans rfl) (by omega)
theorem dc_44 {c : ByteArray} {pc : Nat}  {s : List Nat} (h : dc_at c pc (44 :: s))  : decode c pc = .ok (.aload_n 2, 1) := by
  obtain ⟨h0, -⟩ := dc_one h
  exact dc_dec ((dc_bind (dc_u1 h0)).trans rfl) (by omega)
theorem dc_45 {c : ByteArray} {pc : Nat}  {s : List Nat} (h : dc_at c pc (45 :: s))  : decode c pc = .ok (.aload_n 3, 1) := by
  obtain ⟨h0, -⟩ := dc_one h
  exact dc_dec ((dc_bind (dc_u1 h0)).trans rfl) (by omega)
theorem dc_46 {c : ByteArray} {pc : Nat}  {s : List Nat} (h : dc_at c pc (46 :: s))  : decode c pc = .ok (.iaload, 1) := by
  obtain ⟨h0, -⟩ := dc_one h
  exact dc_dec ((dc_bind (dc_u1 h0)).trans rfl) (by omega)
theorem dc_47 {c : ByteArray} {pc : Nat}  {s : List Nat} (h : dc_at c pc (47 :: s))  : decode c pc = .ok (.laload, 1) := by
  obtain ⟨h0, -⟩ := dc_one h
  exact dc_dec ((dc_bind (dc_u1 h0)).trans rfl) (by omega)
theorem dc_5 {c : ByteArray} {pc : Nat}  {s : List Nat} (h : dc_at c pc (5 :: s))  : decode c pc = .ok (.iconst 2, 1) := by
  obtain ⟨h0, -⟩ := dc_one h
  exact dc_dec ((dc_bind (dc_u1 h0)).trans rfl) (by omega)
theorem dc_51 {c : ByteArray} {pc : Nat}  {s : List Nat} (h : dc_at c pc (51 :: s))  : decode c pc = .ok (.baload, 1) := by
  obtain ⟨h0, -⟩ := dc_one h
  exact dc_dec ((dc_bind (dc_u1 h0)).trans rfl) (by omega)
theorem dc_54 {c : ByteArray} {pc : Nat} {a0 : Nat} {s : List Nat} (h : dc_at c pc (54 :: a0 :: s))  : decode c pc = .ok (.istore a0, 2) := by
  obtain ⟨h0, h⟩ := dc_one h
  obtain ⟨h1, -⟩ := dc_one h
  exact dc_dec ((dc_bind (dc_u1 h0)).trans ((dc_bind (dc_u1 h1)).trans rfl)) (by omega)
theorem dc_55 {c : ByteArray} {pc : Nat} {a0 : Nat} {s : List Nat} (h : dc_at c pc (55 :: a0 :: s))  : decode c pc = .ok (.lstore a0, 2) := by
  obtain ⟨h0, h⟩ := dc_one h
  obtain ⟨h1, -⟩ := dc_one h
  exact dc_dec ((dc_bind (dc_u1 h0)).trans ((dc_bind (dc_u1 h1)).trans rfl)) (by omega)
theorem dc_58 {c : ByteArray} {pc : Nat} {a0 : Nat} {s : List Nat} (h : dc_at c pc (58 :: a0 :: s))  : decode c pc = .ok (.astore a0, 2) := by
  obtain ⟨h0, h⟩ := dc_one h
  obtain ⟨h1, -⟩ := dc_one h
  exact dc_dec ((dc_bind (dc_u1 h0)).trans ((dc_bind (dc_u1 h1)).trans rfl)) (by omega)
theorem dc_59 {c : ByteArray} {pc : Nat}  {s : List Nat} (h : dc_at c pc (59 :: s))  : decode c pc = .ok (.istore_n 0, 1) := by
  obtain ⟨h0, -⟩ := dc_one h
  exact dc_dec ((dc_bind (dc_u1 h0)).trans rfl) (by omega)
theorem dc_6 {c : ByteArray} {pc : Nat}  {s : List Nat} (h : dc_at c pc (6 :: s))  : decode c pc = .ok (.iconst 3, 1) := by
  obtain ⟨h0, -⟩ := dc_one h
  exact dc_dec ((dc_bind (dc_u1 h0)).trans rfl) (by omega)
theorem dc_60 {c : ByteArray} {pc : Nat}  {s : List Nat} (h : dc_at c pc (60 :: s))  : decode c pc = .ok (.istore_n 1, 1) := by
  obtain ⟨h0, -⟩ := dc_one h
  exact dc_dec ((dc_bind (dc_u1 h0)).trans rfl) (by omega)
theorem dc_61 {c : ByteArray} {pc : Nat}  {s : List Nat} (h : dc_at c pc (61 :: s))  : decode c pc = .ok (.istore_n 2, 1) := by
  obtain ⟨h0, -⟩ := dc_one h
  exact dc_dec ((dc_bind (dc_u1 h0)).trans rfl) (by omega)
theorem dc_62 {c : ByteArray} {pc : Nat}  {s : List Nat} (h : dc_at c pc (62 :: s))  : decode c pc = .ok (.istore_n 3, 1) := by
  obtain ⟨h0, -⟩ := dc_one h
  exact dc_dec ((dc_bind (dc_u1 h0)).trans rfl) (by omega)
theorem dc_7 {c : ByteArray} {pc : Nat}  {s : List Nat} (h : dc_at c pc (7 :: s))  : decode c pc = .ok (.iconst 4, 1) := by
  obtain ⟨h0, -⟩ := dc_one h
  exact dc_dec ((dc_bind (dc_u1 h0)).trans rfl) (by omega)
theorem dc_76 {c : ByteArray} {pc : Nat}  {s : List Nat} (h : dc_at c pc (76 :: s))  : decode c pc = .ok (.astore_n 1, 1) := by
  obtain ⟨h0, -⟩ := dc_one h
  exact dc_dec ((dc_bind (dc_u1 h0)).trans rfl) (by omega)
theorem dc_77 {c : ByteArray} {pc : Nat}  {s : List Nat} (h : dc_at c pc (77 :: s))  : decode c pc = .ok (.astore_n 2, 1) := by
  obtain ⟨h0, -⟩ := dc_one h
  exact dc_dec ((dc_bind (dc_u1 h0)).trans rfl) (by omega)
theorem dc_78 {c : ByteArray} {pc : Nat}  {s : List Nat} (h : dc_at c pc (78 :: s))  : decode c pc = .ok (.astore_n 3, 1) := by
  obtain ⟨h0, -⟩ := dc_one h
  exact dc_dec ((dc_bind (dc_u1 h0)).trans rfl) (by omega)
theorem dc_79 {c : ByteArray} {pc : Nat}  {s : List Nat} (h : dc_at c pc (79 :: s))  : decode c pc = .ok (.iastore, 1) := by
  obtain ⟨h0, -⟩ := dc_one h
  exact dc_dec ((dc_bind (dc_u1 h0)).trans rfl) (by omega)
theorem dc_8 {c : ByteArray} {pc : Nat}  {s : List Nat} (h : dc_at c pc (8 :: s))  : decode c pc = .ok (.iconst 5, 1) := by
  obtain ⟨h0, -⟩ := dc_one h
  exact dc_dec ((dc_bind (dc_u1 h0)).trans rfl) (by omega)
theorem dc_80 {c : ByteArray} {pc : Nat}  {s : List Nat} (h : dc_at c pc (80 :: s))  : decode c pc = .ok (.lastore, 1) := by
  obtain ⟨h0, -⟩ := dc_one h
  exact dc_dec ((dc_bind (dc_u1 h0)).trans rfl) (by omega)
theorem dc_84 {c : ByteArray} {pc : Nat}  {s : List Nat} (h : dc_at c pc (84 :: s))  : decode c pc = .ok (.bastore, 1) := by
  obtain ⟨h0, -⟩ := dc_one h
  exact dc_dec ((dc_bind (dc_u1 h0)).trans rfl) (by omega)
theorem dc_87 {c : ByteArray} {pc : Nat}  {s : List Nat} (h : dc_at c pc (87 :: s))  : decode c pc = .ok (.pop, 1) := by
  obtain ⟨h0, -⟩ := dc_one h
  exact dc_dec ((dc_bind (dc_u1 h0)).trans rfl) (by omega)
theorem dc_89 {c : ByteArray} {pc : Nat}  {s : List Nat} (h : dc_at c pc (89 :: s))  : decode c pc = .ok (.dup, 1) := by
  obtain ⟨h0, -⟩ := dc_one h
  exact dc_dec ((dc_bind (dc_u1 h0)).trans rfl) (by omega)
theorem dc_9 {c : ByteArray} {pc : Nat}  {s : List Nat} (h : dc_at c pc (9 :: s))  : decode c pc = .ok (.lconst 0, 1) := by
  obtain ⟨h0, -⟩ := dc_one h
  exact dc_dec ((dc_bind (dc_u1 h0)).trans rfl) (by omega)
theorem dc_92 {c : ByteArray} {pc : Nat}  {s : List Nat} (h : dc_at c pc (92 :: s))  : decode c pc = .ok (.dup2, 1) := by
  obtain ⟨h0, -⟩ := dc_one h
  exact dc_dec ((dc_bind (dc_u1 h0)).trans rfl) (by omega)
theorem dc_96 {c : ByteArray} {pc : Nat}  {s : List Nat} (h : dc_at c pc (96 :: s))  : decode c pc = .ok (.iadd, 1) := by
  obtain ⟨h0, -⟩ := dc_one h
  exact dc_dec ((dc_bind (dc_u1 h0)).trans rfl) (by omega)
theorem dc_97 {c : ByteArray} {pc : Nat}  {s : List Nat} (h : dc_at c pc (97 :: s))  : decode c pc = .ok (.ladd, 1) := by
  obtain ⟨h0, -⟩ := dc_one h
  exact dc_dec ((dc_bind (dc_u1 h0)).trans rfl) (by omega)
