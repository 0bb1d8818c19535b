/-! decode rows out of the bytes: one row an opcode, then each instruction by a look at its bytes -/
def dc_at (c : ByteArray) (pc : Nat) (s : List Nat) : Prop := (c.data.toList.map UInt8.toNat).drop pc = s
theorem dc_base {c : ByteArray} {s : List Nat} (h : c.data.toList.map UInt8.toNat = s) : dc_at c 0 s := h
theorem dc_one {c : ByteArray} {pc b : Nat} {r : List Nat} (h : dc_at c pc (b :: r)) : (∃ hp : pc < c.size, (c[pc]'hp).toNat = b) ∧ dc_at c (pc + 1) r := by
  unfold dc_at at h ⊢
  have hp : pc < (c.data.toList.map UInt8.toNat).length := by
    rcases Nat.lt_or_ge pc (c.data.toList.map UInt8.toNat).length with q | q
    · exact q
    · rw [List.drop_eq_nil_of_le q] at h; cases h
  rw [List.drop_eq_getElem_cons hp] at h
  injection h with e1 e2
  have hq : pc < c.size := by simpa using hp
  have e3 : (c.data.toList.map UInt8.toNat)[pc]'hp = (c[pc]'hq).toNat := by rw [List.getElem_map]; rfl
  exact ⟨⟨hq, by rw [← e3]; exact e1⟩, e2⟩
theorem dc_n1 {c : ByteArray} {p a : Nat} {s : List Nat} (h : dc_at c p (a :: s)) : dc_at c (p + 1) s := (dc_one h).2
theorem dc_n2 {c : ByteArray} {p a b : Nat} {s : List Nat} (h : dc_at c p (a :: b :: s)) : dc_at c (p + 2) s := dc_n1 (dc_n1 h)
theorem dc_n3 {c : ByteArray} {p a b d : Nat} {s : List Nat} (h : dc_at c p (a :: b :: d :: s)) : dc_at c (p + 3) s := dc_n1 (dc_n2 h)
theorem dc_nn {c : ByteArray} {p k : Nat} {s r : List Nat} (h : dc_at c p s) (e : s.drop k = r) : dc_at c (p + k) r := by
  unfold dc_at at h ⊢
  rw [← e, ← h, List.drop_drop]
theorem dc_u1 {c : ByteArray} {pc b : Nat} (h : ∃ hp : pc < c.size, (c[pc]'hp).toNat = b) : (Jvm.ClassFile.Reader.u1 : Jvm.ClassFile.Decoder Nat) c pc = .ok (b, pc + 1) := by
  obtain ⟨hp, e⟩ := h
  show (dite (pc < c.size) _ _ : Jvm.ClassFile.Decoder Nat) c pc = _
  rw [dif_pos hp]
  show Except.ok ((c[pc]'hp).toNat, pc + 1) = _
  rw [e]
theorem dc_bind {α β : Type} {x : Jvm.ClassFile.Decoder α} {f : α → Jvm.ClassFile.Decoder β} {c : ByteArray} {p q : Nat} {a : α} (h : x c p = .ok (a, q)) : (x >>= f) c p = f a c q := by
  show Except.bind (x c p) (fun y => f y.1 c y.2) = _
  rw [h]; rfl
theorem dc_u2 {c : ByteArray} {pc a b : Nat} (h : ∃ hp : pc < c.size, (c[pc]'hp).toNat = a) (h2 : ∃ hp : pc + 1 < c.size, (c[pc + 1]'hp).toNat = b) : (Jvm.ClassFile.Reader.u2 : Jvm.ClassFile.Decoder Nat) c pc = .ok (a * 256 + b, pc + 1 + 1) :=
  (dc_bind (dc_u1 h)).trans ((dc_bind (dc_u1 h2)).trans rfl)
theorem dc_s1 {c : ByteArray} {pc b : Nat} (h : ∃ hp : pc < c.size, (c[pc]'hp).toNat = b) : (Jvm.ClassFile.Reader.s1 : Jvm.ClassFile.Decoder Int) c pc = .ok (Jvm.ClassFile.Reader.signed 8 b, pc + 1) := by
  show Except.bind ((Jvm.ClassFile.Reader.u1 : Jvm.ClassFile.Decoder Nat) c pc) (fun y => Except.ok (Jvm.ClassFile.Reader.signed 8 y.1, y.2)) = _
  rw [dc_u1 h]; rfl
theorem dc_s2 {c : ByteArray} {pc a b : Nat} (h : ∃ hp : pc < c.size, (c[pc]'hp).toNat = a) (h2 : ∃ hp : pc + 1 < c.size, (c[pc + 1]'hp).toNat = b) : (Jvm.ClassFile.Reader.s2 : Jvm.ClassFile.Decoder Int) c pc = .ok (Jvm.ClassFile.Reader.signed 16 (a * 256 + b), pc + 1 + 1) := by
  show Except.bind ((Jvm.ClassFile.Reader.u2 : Jvm.ClassFile.Decoder Nat) c pc) (fun y => Except.ok (Jvm.ClassFile.Reader.signed 16 y.1, y.2)) = _
  rw [dc_u2 h h2]; rfl
theorem dc_dec {c : ByteArray} {pc n k : Nat} {i : Instr} (h : (Jvm.ClassFile.Decoder.instr pc) c pc = .ok (i, n)) (hk : n - pc = k) : decode c pc = .ok (i, k) := by
  subst hk
  show Except.bind ((Jvm.ClassFile.Decoder.instr pc) c pc) (fun y => Except.ok (y.1, y.2 - pc)) = _
  rw [h]; rfl
theorem dc_188_10 {c : ByteArray} {pc : Nat} {s : List Nat} (h : dc_at c pc (188 :: 10 :: s)) : decode c pc = .ok (.newarray .int, 2) := by
  obtain ⟨h0, h⟩ := dc_one h
  obtain ⟨h1, -⟩ := dc_one h
  exact dc_dec ((dc_bind (dc_u1 h0)).trans ((dc_bind (dc_u1 h1)).trans rfl)) (by omega)
theorem dc_188_11 {c : ByteArray} {pc : Nat} {s : List Nat} (h : dc_at c pc (188 :: 11 :: s)) : decode c pc = .ok (.newarray .long, 2) := by
  obtain ⟨h0, h⟩ := dc_one h
  obtain ⟨h1, -⟩ := dc_one h
  exact dc_dec ((dc_bind (dc_u1 h0)).trans ((dc_bind (dc_u1 h1)).trans rfl)) (by omega)
theorem dc_188_4 {c : ByteArray} {pc : Nat} {s : List Nat} (h : dc_at c pc (188 :: 4 :: s)) : decode c pc = .ok (.newarray .boolean, 2) := by
  obtain ⟨h0, h⟩ := dc_one h
  obtain ⟨h1, -⟩ := dc_one h
  exact dc_dec ((dc_bind (dc_u1 h0)).trans ((dc_bind (dc_u1 h1)).trans rfl)) (by omega)
theorem dc_188_8 {c : ByteArray} {pc : Nat} {s : List Nat} (h : dc_at c pc (188 :: 8 :: s)) : decode c pc = .ok (.newarray .byte, 2) := by
  obtain ⟨h0, h⟩ := dc_one h
  obtain ⟨h1, -⟩ := dc_one h
  exact dc_dec ((dc_bind (dc_u1 h0)).trans ((dc_bind (dc_u1 h1)).trans rfl)) (by omega)
theorem dc_10 {c : ByteArray} {pc : Nat}  {s : List Nat} (h : dc_at c pc (10 :: s))  : decode c pc = .ok (.lconst 1, 1) := by
  obtain ⟨h0, -⟩ := dc_one h
  exact dc_dec ((dc_bind (dc_u1 h0)).trans rfl) (by omega)
theorem dc_100 {c : ByteArray} {pc : Nat}  {s : List Nat} (h : dc_at c pc (100 :: s))  : decode c pc = .ok (.isub, 1) := by
  obtain ⟨h0, -⟩ := dc_one h
  exact dc_dec ((dc_bind (dc_u1 h0)).trans rfl) (by omega)
theorem dc_101 {c : ByteArray} {pc : Nat}  {s : List Nat} (h : dc_at c pc (101 :: s))  : decode c pc = .ok (.lsub, 1) := by
  obtain ⟨h0, -⟩ := dc_one h
  exact dc_dec ((dc_bind (dc_u1 h0)).trans rfl) (by omega)
theorem dc_104 {c : ByteArray} {pc : Nat}  {s : List Nat} (h : dc_at c pc (104 :: s))  : decode c pc = .ok (.imul, 1) := by
  obtain ⟨h0, -⟩ := dc_one h
  exact dc_dec ((dc_bind (dc_u1 h0)).trans rfl) (by omega)
theorem dc_105 {c : ByteArray} {pc : Nat}  {s : List Nat} (h : dc_at c pc (105 :: s))  : decode c pc = .ok (.lmul, 1) := by
  obtain ⟨h0, -⟩ := dc_one h
  exact dc_dec ((dc_bind (dc_u1 h0)).trans rfl) (by omega)
theorem dc_108 {c : ByteArray} {pc : Nat}  {s : List Nat} (h : dc_at c pc (108 :: s))  : decode c pc = .ok (.idiv, 1) := by
  obtain ⟨h0, -⟩ := dc_one h
  exact dc_dec ((dc_bind (dc_u1 h0)).trans rfl) (by omega)
theorem dc_109 {c : ByteArray} {pc : Nat}  {s : List Nat} (h : dc_at c pc (109 :: s))  : decode c pc = .ok (.ldiv, 1) := by
  obtain ⟨h0, -⟩ := dc_one h
  exact dc_dec ((dc_bind (dc_u1 h0)).trans rfl) (by omega)
theorem dc_112 {c : ByteArray} {pc : Nat}  {s : List Nat} (h : dc_at c pc (112 :: s))  : decode c pc = .ok (.irem, 1) := by
  obtain ⟨h0, -⟩ := dc_one h
  exact dc_dec ((dc_bind (dc_u1 h0)).trans rfl) (by omega)
theorem dc_113 {c : ByteArray} {pc : Nat}  {s : List Nat} (h : dc_at c pc (113 :: s))  : decode c pc = .ok (.lrem, 1) := by
  obtain ⟨h0, -⟩ := dc_one h
  exact dc_dec ((dc_bind (dc_u1 h0)).trans rfl) (by omega)
theorem dc_116 {c : ByteArray} {pc : Nat}  {s : List Nat} (h : dc_at c pc (116 :: s))  : decode c pc = .ok (.ineg, 1) := by
  obtain ⟨h0, -⟩ := dc_one h
  exact dc_dec ((dc_bind (dc_u1 h0)).trans rfl) (by omega)
theorem dc_117 {c : ByteArray} {pc : Nat}  {s : List Nat} (h : dc_at c pc (117 :: s))  : decode c pc = .ok (.lneg, 1) := by
  obtain ⟨h0, -⟩ := dc_one h
  exact dc_dec ((dc_bind (dc_u1 h0)).trans rfl) (by omega)
theorem dc_120 {c : ByteArray} {pc : Nat}  {s : List Nat} (h : dc_at c pc (120 :: s))  : decode c pc = .ok (.ishl, 1) := by
  obtain ⟨h0, -⟩ := dc_one h
  exact dc_dec ((dc_bind (dc_u1 h0)).trans rfl) (by omega)
theorem dc_121 {c : ByteArray} {pc : Nat}  {s : List Nat} (h : dc_at c pc (121 :: s))  : decode c pc = .ok (.lshl, 1) := by
  obtain ⟨h0, -⟩ := dc_one h
  exact dc_dec ((dc_bind (dc_u1 h0)).trans rfl) (by omega)
theorem dc_122 {c : ByteArray} {pc : Nat}  {s : List Nat} (h : dc_at c pc (122 :: s))  : decode c pc = .ok (.ishr, 1) := by
  obtain ⟨h0, -⟩ := dc_one h
  exact dc_dec ((dc_bind (dc_u1 h0)).trans rfl) (by omega)
theorem dc_124 {c : ByteArray} {pc : Nat}  {s : List Nat} (h : dc_at c pc (124 :: s))  : decode c pc = .ok (.iushr, 1) := by
  obtain ⟨h0, -⟩ := dc_one h
  exact dc_dec ((dc_bind (dc_u1 h0)).trans rfl) (by omega)
theorem dc_126 {c : ByteArray} {pc : Nat}  {s : List Nat} (h : dc_at c pc (126 :: s))  : decode c pc = .ok (.iand, 1) := by
  obtain ⟨h0, -⟩ := dc_one h
  exact dc_dec ((dc_bind (dc_u1 h0)).trans rfl) (by omega)
theorem dc_128 {c : ByteArray} {pc : Nat}  {s : List Nat} (h : dc_at c pc (128 :: s))  : decode c pc = .ok (.ior, 1) := by
  obtain ⟨h0, -⟩ := dc_one h
  exact dc_dec ((dc_bind (dc_u1 h0)).trans rfl) (by omega)
theorem dc_129 {c : ByteArray} {pc : Nat}  {s : List Nat} (h : dc_at c pc (129 :: s))  : decode c pc = .ok (.lor, 1) := by
  obtain ⟨h0, -⟩ := dc_one h
  exact dc_dec ((dc_bind (dc_u1 h0)).trans rfl) (by omega)
theorem dc_130 {c : ByteArray} {pc : Nat}  {s : List Nat} (h : dc_at c pc (130 :: s))  : decode c pc = .ok (.ixor, 1) := by
  obtain ⟨h0, -⟩ := dc_one h
  exact dc_dec ((dc_bind (dc_u1 h0)).trans rfl) (by omega)
theorem dc_131 {c : ByteArray} {pc : Nat}  {s : List Nat} (h : dc_at c pc (131 :: s))  : decode c pc = .ok (.lxor, 1) := by
  obtain ⟨h0, -⟩ := dc_one h
  exact dc_dec ((dc_bind (dc_u1 h0)).trans rfl) (by omega)
theorem dc_132 {c : ByteArray} {pc : Nat} {a0 : Nat} {a1 : Nat} {v1 : Int} {s : List Nat} (h : dc_at c pc (132 :: a0 :: a1 :: s)) (e1 : Jvm.ClassFile.Reader.signed 8 (a1) = v1) : decode c pc = .ok (.iinc a0 v1, 3) := by
  obtain ⟨h0, h⟩ := dc_one h
  obtain ⟨h1, h⟩ := dc_one h
  obtain ⟨h2, -⟩ := dc_one h
  subst e1
  exact dc_dec ((dc_bind (dc_u1 h0)).trans ((dc_bind (dc_u1 h1)).trans ((dc_bind (dc_s1 h2)).trans rfl))) (by omega)
theorem dc_133 {c : ByteArray} {pc : Nat}  {s : List Nat} (h : dc_at c pc (133 :: s))  : decode c pc = .ok (.i2l, 1) := by
  obtain ⟨h0, -⟩ := dc_one h
  exact dc_dec ((dc_bind (dc_u1 h0)).trans rfl) (by omega)
theorem dc_136 {c : ByteArray} {pc : Nat}  {s : List Nat} (h : dc_at c pc (136 :: s))  : decode c pc = .ok (.l2i, 1) := by
  obtain ⟨h0, -⟩ := dc_one h
  exact dc_dec ((dc_bind (dc_u1 h0)).trans rfl) (by omega)
theorem dc_145 {c : ByteArray} {pc : Nat}  {s : List Nat} (h : dc_at c pc (145 :: s))  : decode c pc = .ok (.i2b, 1) := by
  obtain ⟨h0, -⟩ := dc_one h
  exact dc_dec ((dc_bind (dc_u1 h0)).trans rfl) (by omega)
theorem dc_146 {c : ByteArray} {pc : Nat}  {s : List Nat} (h : dc_at c pc (146 :: s))  : decode c pc = .ok (.i2c, 1) := by
  obtain ⟨h0, -⟩ := dc_one h
  exact dc_dec ((dc_bind (dc_u1 h0)).trans rfl) (by omega)
theorem dc_148 {c : ByteArray} {pc : Nat}  {s : List Nat} (h : dc_at c pc (148 :: s))  : decode c pc = .ok (.lcmp, 1) := by
  obtain ⟨h0, -⟩ := dc_one h
  exact dc_dec ((dc_bind (dc_u1 h0)).trans rfl) (by omega)
theorem dc_153 {c : ByteArray} {pc : Nat} {a0 b0 : Nat} {v0 : Int} {s : List Nat} (h : dc_at c pc (153 :: a0 :: b0 :: s)) (e0 : Jvm.ClassFile.Reader.signed 16 (a0 * 256 + b0) = v0) : decode c pc = .ok (.ifCond .eq v0, 3) := by
  obtain ⟨h0, h⟩ := dc_one h
  obtain ⟨h1, h⟩ := dc_one h
  obtain ⟨h2, -⟩ := dc_one h
  subst e0
  exact dc_dec ((dc_bind (dc_u1 h0)).trans ((dc_bind (dc_s2 h1 h2)).trans rfl)) (by omega)
theorem dc_154 {c : ByteArray} {pc : Nat} {a0 b0 : Nat} {v0 : Int} {s : List Nat} (h : dc_at c pc (154 :: a0 :: b0 :: s)) (e0 : Jvm.ClassFile.Reader.signed 16 (a0 * 256 + b0) = v0) : decode c pc = .ok (.ifCond .ne v0, 3) := by
  obtain ⟨h0, h⟩ := dc_one h
  obtain ⟨h1, h⟩ := dc_one h
  obtain ⟨h2, -⟩ := dc_one h
  subst e0
  exact dc_dec ((dc_bind (dc_u1 h0)).trans ((dc_bind (dc_s2 h1 h2)).trans rfl)) (by omega)
theorem dc_155 {c : ByteArray} {pc : Nat} {a0 b0 : Nat} {v0 : Int} {s : List Nat} (h : dc_at c pc (155 :: a0 :: b0 :: s)) (e0 : Jvm.ClassFile.Reader.signed 16 (a0 * 256 + b0) = v0) : decode c pc = .ok (.ifCond .lt v0, 3) := by
  obtain ⟨h0, h⟩ := dc_one h
  obtain ⟨h1, h⟩ := dc_one h
  obtain ⟨h2, -⟩ := dc_one h
  subst e0
  exact dc_dec ((dc_bind (dc_u1 h0)).trans ((dc_bind (dc_s2 h1 h2)).trans rfl)) (by omega)
theorem dc_156 {c : ByteArray} {pc : Nat} {a0 b0 : Nat} {v0 : Int} {s : List Nat} (h : dc_at c pc (156 :: a0 :: b0 :: s)) (e0 : Jvm.ClassFile.Reader.signed 16 (a0 * 256 + b0) = v0) : decode c pc = .ok (.ifCond .ge v0, 3) := by
  obtain ⟨h0, h⟩ := dc_one h
  obtain ⟨h1, h⟩ := dc_one h
  obtain ⟨h2, -⟩ := dc_one h
  subst e0
  exact dc_dec ((dc_bind (dc_u1 h0)).trans ((dc_bind (dc_s2 h1 h2)).trans rfl)) (by omega)
theorem dc_158 {c : ByteArray} {pc : Nat} {a0 b0 : Nat} {v0 : Int} {s : List Nat} (h : dc_at c pc (158 :: a0 :: b0 :: s)) (e0 : Jvm.ClassFile.Reader.signed 16 (a0 * 256 + b0) = v0) : decode c pc = .ok (.ifCond .le v0, 3) := by
  obtain ⟨h0, h⟩ := dc_one h
  obtain ⟨h1, h⟩ := dc_one h
  obtain ⟨h2, -⟩ := dc_one h
  subst e0
  exact dc_dec ((dc_bind (dc_u1 h0)).trans ((dc_bind (dc_s2 h1 h2)).trans rfl)) (by omega)
theorem dc_159 {c : ByteArray} {pc : Nat} {a0 b0 : Nat} {v0 : Int} {s : List Nat} (h : dc_at c pc (159 :: a0 :: b0 :: s)) (e0 : Jvm.ClassFile.Reader.signed 16 (a0 * 256 + b0) = v0) : decode c pc = .ok (.if_icmp .eq v0, 3) := by
  obtain ⟨h0, h⟩ := dc_one h
  obtain ⟨h1, h⟩ := dc_one h
  obtain ⟨h2, -⟩ := dc_one h
  subst e0
  exact dc_dec ((dc_bind (dc_u1 h0)).trans ((dc_bind (dc_s2 h1 h2)).trans rfl)) (by omega)
theorem dc_16 {c : ByteArray} {pc : Nat} {a0 : Nat} {v0 : Int} {s : List Nat} (h : dc_at c pc (16 :: a0 :: s)) (e0 : Jvm.ClassFile.Reader.signed 8 (a0) = v0) : decode c pc = .ok (.bipush v0, 2) := by
  obtain ⟨h0, h⟩ := dc_one h
  obtain ⟨h1, -⟩ := dc_one h
  subst e0
  exact dc_dec ((dc_bind (dc_u1 h0)).trans ((dc_bind (dc_s1 h1)).trans rfl)) (by omega)
theorem dc_160 {c : ByteArray} {pc : Nat} {a0 b0 : Nat} {v0 : Int} {s : List Nat} (h : dc_at c pc (160 :: a0 :: b0 :: s)) (e0 : Jvm.ClassFile.Reader.signed 16 (a0 * 256 + b0) = v0) : decode c pc = .ok (.if_icmp .ne v0, 3) := by
  obtain ⟨h0, h⟩ := dc_one h
  obtain ⟨h1, h⟩ := dc_one h
  obtain ⟨h2, -⟩ := dc_one h
  subst e0
  exact dc_dec ((dc_bind (dc_u1 h0)).trans ((dc_bind (dc_s2 h1 h2)).trans rfl)) (by omega)
theorem dc_161 {c : ByteArray} {pc : Nat} {a0 b0 : Nat} {v0 : Int} {s : List Nat} (h : dc_at c pc (161 :: a0 :: b0 :: s)) (e0 : Jvm.ClassFile.Reader.signed 16 (a0 * 256 + b0) = v0) : decode c pc = .ok (.if_icmp .lt v0, 3) := by
  obtain ⟨h0, h⟩ := dc_one h
  obtain ⟨h1, h⟩ := dc_one h
  obtain ⟨h2, -⟩ := dc_one h
  subst e0
  exact dc_dec ((dc_bind (dc_u1 h0)).trans ((dc_bind (dc_s2 h1 h2)).trans rfl)) (by omega)
theorem dc_162 {c : ByteArray} {pc : Nat} {a0 b0 : Nat} {v0 : Int} {s : List Nat} (h : dc_at c pc (162 :: a0 :: b0 :: s)) (e0 : Jvm.ClassFile.Reader.signed 16 (a0 * 256 + b0) = v0) : decode c pc = .ok (.if_icmp .ge v0, 3) := by
  obtain ⟨h0, h⟩ := dc_one h
  obtain ⟨h1, h⟩ := dc_one h
  obtain ⟨h2, -⟩ := dc_one h
  subst e0
  exact dc_dec ((dc_bind (dc_u1 h0)).trans ((dc_bind (dc_s2 h1 h2)).trans rfl)) (by omega)
theorem dc_163 {c : ByteArray} {pc : Nat} {a0 b0 : Nat} {v0 : Int} {s : List Nat} (h : dc_at c pc (163 :: a0 :: b0 :: s)) (e0 : Jvm.ClassFile.Reader.signed 16 (a0 * 256 + b0) = v0) : decode c pc = .ok (.if_icmp .gt v0, 3) := by
  obtain ⟨h0, h⟩ := dc_one h
  obtain ⟨h1, h⟩ := dc_one h
  obtain ⟨h2, -⟩ := dc_one h
  subst e0
  exact dc_dec ((dc_bind (dc_u1 h0)).trans ((dc_bind (dc_s2 h1 h2)).trans rfl)) (by omega)
theorem dc_164 {c : ByteArray} {pc : Nat} {a0 b0 : Nat} {v0 : Int} {s : List Nat} (h : dc_at c pc (164 :: a0 :: b0 :: s)) (e0 : Jvm.ClassFile.Reader.signed 16 (a0 * 256 + b0) = v0) : decode c pc = .ok (.if_icmp .le v0, 3) := by
  obtain ⟨h0, h⟩ := dc_one h
  obtain ⟨h1, h⟩ := dc_one h
  obtain ⟨h2, -⟩ := dc_one h
  subst e0
  exact dc_dec ((dc_bind (dc_u1 h0)).trans ((dc_bind (dc_s2 h1 h2)).trans rfl)) (by omega)
theorem dc_167 {c : ByteArray} {pc : Nat} {a0 b0 : Nat} {v0 : Int} {s : List Nat} (h : dc_at c pc (167 :: a0 :: b0 :: s)) (e0 : Jvm.ClassFile.Reader.signed 16 (a0 * 256 + b0) = v0) : decode c pc = .ok (.goto v0, 3) := by
  obtain ⟨h0, h⟩ := dc_one h
  obtain ⟨h1, h⟩ := dc_one h
  obtain ⟨h2, -⟩ := dc_one h
  subst e0
  exact dc_dec ((dc_bind (dc_u1 h0)).trans ((dc_bind (dc_s2 h1 h2)).trans rfl)) (by omega)
theorem dc_17 {c : ByteArray} {pc : Nat} {a0 b0 : Nat} {v0 : Int} {s : List Nat} (h : dc_at c pc (17 :: a0 :: b0 :: s)) (e0 : Jvm.ClassFile.Reader.signed 16 (a0 * 256 + b0) = v0) : decode c pc = .ok (.sipush v0, 3) := by
  obtain ⟨h0, h⟩ := dc_one h
  obtain ⟨h1, h⟩ := dc_one h
  obtain ⟨h2, -⟩ := dc_one h
  subst e0
  exact dc_dec ((dc_bind (dc_u1 h0)).trans ((dc_bind (dc_s2 h1 h2)).trans rfl)) (by omega)
theorem dc_172 {c : ByteArray} {pc : Nat}  {s : List Nat} (h : dc_at c pc (172 :: s))  : decode c pc = .ok (.ireturn, 1) := by
  obtain ⟨h0, -⟩ := dc_one h
  exact dc_dec ((dc_bind (dc_u1 h0)).trans rfl) (by omega)
theorem dc_173 {c : ByteArray} {pc : Nat}  {s : List Nat} (h : dc_at c pc (173 :: s))  : decode c pc = .ok (.lreturn, 1) := by
  obtain ⟨h0, -⟩ := dc_one h
  exact dc_dec ((dc_bind (dc_u1 h0)).trans rfl) (by omega)
theorem dc_176 {c : ByteArray} {pc : Nat}  {s : List Nat} (h : dc_at c pc (176 :: s))  : decode c pc = .ok (.areturn, 1) := by
  obtain ⟨h0, -⟩ := dc_one h
  exact dc_dec ((dc_bind (dc_u1 h0)).trans rfl) (by omega)
theorem dc_177 {c : ByteArray} {pc : Nat}  {s : List Nat} (h : dc_at c pc (177 :: s))  : decode c pc = .ok (.return_, 1) := by
  obtain ⟨h0, -⟩ := dc_one h
  exact dc_dec ((dc_bind (dc_u1 h0)).trans rfl) (by omega)
theorem dc_178 {c : ByteArray} {pc : Nat} {a0 b0 : Nat} {s : List Nat} (h : dc_at c pc (178 :: a0 :: b0 :: s))  : decode c pc = .ok (.getstatic (a0 * 256 + b0), 3) := by
  obtain ⟨h0, h⟩ := dc_one h
  obtain ⟨h1, h⟩ := dc_one h
  obtain ⟨h2, -⟩ := dc_one h
  exact dc_dec ((dc_bind (dc_u1 h0)).trans ((dc_bind (dc_u2 h1 h2)).trans rfl)) (by omega)
theorem dc_18 {c : ByteArray} {pc : Nat} {a0 : Nat} {s : List Nat} (h : dc_at c pc (18 :: a0 :: s))  : decode c pc = .ok (.ldc a0, 2) := by
  obtain ⟨h0, h⟩ := dc_one h
  obtain ⟨h1, -⟩ := dc_one h
  exact dc_dec ((dc_bind (dc_u1 h0)).trans ((dc_bind (dc_u1 h1)).trans rfl)) (by omega)
theorem dc_180 {c : ByteArray} {pc : Nat} {a0 b0 : Nat} {s : List Nat} (h : dc_at c pc (180 :: a0 :: b0 :: s))  : decode c pc = .ok (.getfield (a0 * 256 + b0), 3) := by
  obtain ⟨h0, h⟩ := dc_one h
  obtain ⟨h1, h⟩ := dc_one h
  obtain ⟨h2, -⟩ := dc_one h
  exact dc_dec ((dc_bind (dc_u1 h0)).trans ((dc_bind (dc_u2 h1 h2)).trans rfl)) (by omega)
theorem dc_181 {c : ByteArray} {pc : Nat} {a0 b0 : Nat} {s : List Nat} (h : dc_at c pc (181 :: a0 :: b0 :: s))  : decode c pc = .ok (.putfield (a0 * 256 + b0), 3) := by
  obtain ⟨h0, h⟩ := dc_one h
  obtain ⟨h1, h⟩ := dc_one h
  obtain ⟨h2, -⟩ := dc_one h
  exact dc_dec ((dc_bind (dc_u1 h0)).trans ((dc_bind (dc_u2 h1 h2)).trans rfl)) (by omega)
theorem dc_182 {c : ByteArray} {pc : Nat} {a0 b0 : Nat} {s : List Nat} (h : dc_at c pc (182 :: a0 :: b0 :: s))  : decode c pc = .ok (.invokevirtual (a0 * 256 + b0), 3) := by
  obtain ⟨h0, h⟩ := dc_one h
  obtain ⟨h1, h⟩ := dc_one h
  obtain ⟨h2, -⟩ := dc_one h
  exact dc_dec ((dc_bind (dc_u1 h0)).trans ((dc_bind (dc_u2 h1 h2)).trans rfl)) (by omega)
theorem dc_183 {c : ByteArray} {pc : Nat} {a0 b0 : Nat} {s : List Nat} (h : dc_at c pc (183 :: a0 :: b0 :: s))  : decode c pc = .ok (.invokespecial (a0 * 256 + b0), 3) := by
  obtain ⟨h0, h⟩ := dc_one h
  obtain ⟨h1, h⟩ := dc_one h
  obtain ⟨h2, -⟩ := dc_one h
  exact dc_dec ((dc_bind (dc_u1 h0)).trans ((dc_bind (dc_u2 h1 h2)).trans rfl)) (by omega)
theorem dc_184 {c : ByteArray} {pc : Nat} {a0 b0 : Nat} {s : List Nat} (h : dc_at c pc (184 :: a0 :: b0 :: s))  : decode c pc = .ok (.invokestatic (a0 * 256 + b0), 3) := by
  obtain ⟨h0, h⟩ := dc_one h
  obtain ⟨h1, h⟩ := dc_one h
  obtain ⟨h2, -⟩ := dc_one h
  exact dc_dec ((dc_bind (dc_u1 h0)).trans ((dc_bind (dc_u2 h1 h2)).trans rfl)) (by omega)
theorem dc_187 {c : ByteArray} {pc : Nat} {a0 b0 : Nat} {s : List Nat} (h : dc_at c pc (187 :: a0 :: b0 :: s))  : decode c pc = .ok (.new (a0 * 256 + b0), 3) := by
  obtain ⟨h0, h⟩ := dc_one h
  obtain ⟨h1, h⟩ := dc_one h
  obtain ⟨h2, -⟩ := dc_one h
  exact dc_dec ((dc_bind (dc_u1 h0)).trans ((dc_bind (dc_u2 h1 h2)).trans rfl)) (by omega)
theorem dc_19 {c : ByteArray} {pc : Nat} {a0 b0 : Nat} {s : List Nat} (h : dc_at c pc (19 :: a0 :: b0 :: s))  : decode c pc = .ok (.ldc_w (a0 * 256 + b0), 3) := by
  obtain ⟨h0, h⟩ := dc_one h
  obtain ⟨h1, h⟩ := dc_one h
  obtain ⟨h2, -⟩ := dc_one h
  exact dc_dec ((dc_bind (dc_u1 h0)).trans ((dc_bind (dc_u2 h1 h2)).trans rfl)) (by omega)
theorem dc_190 {c : ByteArray} {pc : Nat}  {s : List Nat} (h : dc_at c pc (190 :: s))  : decode c pc = .ok (.arraylength, 1) := by
  obtain ⟨h0, -⟩ := dc_one h
  exact dc_dec ((dc_bind (dc_u1 h0)).trans rfl) (by omega)
theorem dc_191 {c : ByteArray} {pc : Nat}  {s : List Nat} (h : dc_at c pc (191 :: s))  : decode c pc = .ok (.athrow, 1) := by
  obtain ⟨h0, -⟩ := dc_one h
  exact dc_dec ((dc_bind (dc_u1 h0)).trans rfl) (by omega)
theorem dc_2 {c : ByteArray} {pc : Nat}  {s : List Nat} (h : dc_at c pc (2 :: s))  : decode c pc = .ok (.iconst (-1), 1) := by
  obtain ⟨h0, -⟩ := dc_one h
  exact dc_dec ((dc_bind (dc_u1 h0)).trans rfl) (by omega)
theorem dc_20 {c : ByteArray} {pc : Nat} {a0 b0 : Nat} {s : List Nat} (h : dc_at c pc (20 :: a0 :: b0 :: s))  : decode c pc = .ok (.ldc2_w (a0 * 256 + b0), 3) := by
  obtain ⟨h0, h⟩ := dc_one h
  obtain ⟨h1, h⟩ := dc_one h
  obtain ⟨h2, -⟩ := dc_one h
  exact dc_dec ((dc_bind (dc_u1 h0)).trans ((dc_bind (dc_u2 h1 h2)).trans rfl)) (by omega)
theorem dc_21 {c : ByteArray} {pc : Nat} {a0 : Nat} {s : List Nat} (h : dc_at c pc (21 :: a0 :: s))  : decode c pc = .ok (.iload a0, 2) := by
  obtain ⟨h0, h⟩ := dc_one h
  obtain ⟨h1, -⟩ := dc_one h
  exact dc_dec ((dc_bind (dc_u1 h0)).trans ((dc_bind (dc_u1 h1)).trans rfl)) (by omega)
theorem dc_22 {c : ByteArray} {pc : Nat} {a0 : Nat} {s : List Nat} (h : dc_at c pc (22 :: a0 :: s))  : decode c pc = .ok (.lload a0, 2) := by
  obtain ⟨h0, h⟩ := dc_one h
  obtain ⟨h1, -⟩ := dc_one h
  exact dc_dec ((dc_bind (dc_u1 h0)).trans ((dc_bind (dc_u1 h1)).trans rfl)) (by omega)
theorem dc_25 {c : ByteArray} {pc : Nat} {a0 : Nat} {s : List Nat} (h : dc_at c pc (25 :: a0 :: s))  : decode c pc = .ok (.aload a0, 2) := by
  obtain ⟨h0, h⟩ := dc_one h
  obtain ⟨h1, -⟩ := dc_one h
  exact dc_dec ((dc_bind (dc_u1 h0)).trans ((dc_bind (dc_u1 h1)).trans rfl)) (by omega)
theorem dc_26 {c : ByteArray} {pc : Nat}  {s : List Nat} (h : dc_at c pc (26 :: s))  : decode c pc = .ok (.iload_n 0, 1) := by
  obtain ⟨h0, -⟩ := dc_one h
  exact dc_dec ((dc_bind (dc_u1 h0)).trans rfl) (by omega)
theorem dc_27 {c : ByteArray} {pc : Nat}  {s : List Nat} (h : dc_at c pc (27 :: s))  : decode c pc = .ok (.iload_n 1, 1) := by
  obtain ⟨h0, -⟩ := dc_one h
  exact dc_dec ((dc_bind (dc_u1 h0)).trans rfl) (by omega)
theorem dc_28 {c : ByteArray} {pc : Nat}  {s : List Nat} (h : dc_at c pc (28 :: s))  : decode c pc = .ok (.iload_n 2, 1) := by
  obtain ⟨h0, -⟩ := dc_one h
  exact dc_dec ((dc_bind (dc_u1 h0)).trans rfl) (by omega)
theorem dc_29 {c : ByteArray} {pc : Nat}  {s : List Nat} (h : dc_at c pc (29 :: s))  : decode c pc = .ok (.iload_n 3, 1) := by
  obtain ⟨h0, -⟩ := dc_one h
  exact dc_dec ((dc_bind (dc_u1 h0)).trans rfl) (by omega)
theorem dc_3 {c : ByteArray} {pc : Nat}  {s : List Nat} (h : dc_at c pc (3 :: s))  : decode c pc = .ok (.iconst 0, 1) := by
  obtain ⟨h0, -⟩ := dc_one h
  exact dc_dec ((dc_bind (dc_u1 h0)).trans rfl) (by omega)
theorem dc_30 {c : ByteArray} {pc : Nat}  {s : List Nat} (h : dc_at c pc (30 :: s))  : decode c pc = .ok (.lload_n 0, 1) := by
  obtain ⟨h0, -⟩ := dc_one h
  exact dc_dec ((dc_bind (dc_u1 h0)).trans rfl) (by omega)
theorem dc_32 {c : ByteArray} {pc : Nat}  {s : List Nat} (h : dc_at c pc (32 :: s))  : decode c pc = .ok (.lload_n 2, 1) := by
  obtain ⟨h0, -⟩ := dc_one h
  exact dc_dec ((dc_bind (dc_u1 h0)).trans rfl) (by omega)
theorem dc_4 {c : ByteArray} {pc : Nat}  {s : List Nat} (h : dc_at c pc (4 :: s))  : decode c pc = .ok (.iconst 1, 1) := by
  obtain ⟨h0, -⟩ := dc_one h
  exact dc_dec ((dc_bind (dc_u1 h0)).trans rfl) (by omega)
theorem dc_42 {c : ByteArray} {pc : Nat}  {s : List Nat} (h : dc_at c pc (42 :: s))  : decode c pc = .ok (.aload_n 0, 1) := by
  obtain ⟨h0, -⟩ := dc_one h
  exact dc_dec ((dc_bind (dc_u1 h0)).trans rfl) (by omega)
theorem dc_43 {c : ByteArray} {pc : Nat}  {s : List Nat} (h : dc_at c pc (43 :: s))  : decode c pc = .ok (.aload_n 1, 1) := by
  obtain ⟨h0, -⟩ := dc_one h
  exact dc_dec ((dc_bind (dc_u1 h0)).trans rfl) (by omega)
theorem dc_44 {c : ByteArray} {pc : Nat}  {s : List Nat} (h : dc_at c pc (44 :: s))  : decode c pc = .ok (.aload_n 2, 1) := by
  obtain ⟨h0, -⟩ := dc_one h
  exact dc_dec ((dc_bind (dc_u1 h0)).trans rfl) (by omega)
theorem dc_45 {c : ByteArray} {pc : Nat}  {s : List Nat} (h : dc_at c pc (45 :: s))  : decode c pc = .ok (.aload_n 3, 1) := by
  obtain ⟨h0, -⟩ := dc_one h
  exact dc_dec ((dc_bind (dc_u1 h0)).trans rfl) (by omega)
theorem dc_46 {c : ByteArray} {pc : Nat}  {s : List Nat} (h : dc_at c pc (46 :: s))  : decode c pc = .ok (.iaload, 1) := by
  obtain ⟨h0, -⟩ := dc_one h
  exact dc_dec ((dc_bind (dc_u1 h0)).trans rfl) (by omega)
theorem dc_47 {c : ByteArray} {pc : Nat}  {s : List Nat} (h : dc_at c pc (47 :: s))  : decode c pc = .ok (.laload, 1) := by
  obtain ⟨h0, -⟩ := dc_one h
  exact dc_dec ((dc_bind (dc_u1 h0)).trans rfl) (by omega)
theorem dc_5 {c : ByteArray} {pc : Nat}  {s : List Nat} (h : dc_at c pc (5 :: s))  : decode c pc = .ok (.iconst 2, 1) := by
  obtain ⟨h0, -⟩ := dc_one h
  exact dc_dec ((dc_bind (dc_u1 h0)).trans rfl) (by omega)
theorem dc_51 {c : ByteArray} {pc : Nat}  {s : List Nat} (h : dc_at c pc (51 :: s))  : decode c pc = .ok (.baload, 1) := by
  obtain ⟨h0, -⟩ := dc_one h
  exact dc_dec ((dc_bind (dc_u1 h0)).trans rfl) (by omega)
theorem dc_54 {c : ByteArray} {pc : Nat} {a0 : Nat} {s : List Nat} (h : dc_at c pc (54 :: a0 :: s))  : decode c pc = .ok (.istore a0, 2) := by
  obtain ⟨h0, h⟩ := dc_one h
  obtain ⟨h1, -⟩ := dc_one h
  exact dc_dec ((dc_bind (dc_u1 h0)).trans ((dc_bind (dc_u1 h1)).trans rfl)) (by omega)
theorem dc_55 {c : ByteArray} {pc : Nat} {a0 : Nat} {s : List Nat} (h : dc_at c pc (55 :: a0 :: s))  : decode c pc = .ok (.lstore a0, 2) := by
  obtain ⟨h0, h⟩ := dc_one h
  obtain ⟨h1, -⟩ := dc_one h
  exact dc_dec ((dc_bind (dc_u1 h0)).trans ((dc_bind (dc_u1 h1)).trans rfl)) (by omega)
theorem dc_58 {c : ByteArray} {pc : Nat} {a0 : Nat} {s : List Nat} (h : dc_at c pc (58 :: a0 :: s))  : decode c pc = .ok (.astore a0, 2) := by
  obtain ⟨h0, h⟩ := dc_one h
  obtain ⟨h1, -⟩ := dc_one h
  exact dc_dec ((dc_bind (dc_u1 h0)).trans ((dc_bind (dc_u1 h1)).trans rfl)) (by omega)
theorem dc_59 {c : ByteArray} {pc : Nat}  {s : List Nat} (h : dc_at c pc (59 :: s))  : decode c pc = .ok (.istore_n 0, 1) := by
  obtain ⟨h0, -⟩ := dc_one h
  exact dc_dec ((dc_bind (dc_u1 h0)).trans rfl) (by omega)
theorem dc_6 {c : ByteArray} {pc : Nat}  {s : List Nat} (h : dc_at c pc (6 :: s))  : decode c pc = .ok (.iconst 3, 1) := by
  obtain ⟨h0, -⟩ := dc_one h
  exact dc_dec ((dc_bind (dc_u1 h0)).trans rfl) (by omega)
theorem dc_60 {c : ByteArray} {pc : Nat}  {s : List Nat} (h : dc_at c pc (60 :: s))  : decode c pc = .ok (.istore_n 1, 1) := by
  obtain ⟨h0, -⟩ := dc_one h
  exact dc_dec ((dc_bind (dc_u1 h0)).trans rfl) (by omega)
theorem dc_61 {c : ByteArray} {pc : Nat}  {s : List Nat} (h : dc_at c pc (61 :: s))  : decode c pc = .ok (.istore_n 2, 1) := by
  obtain ⟨h0, -⟩ := dc_one h
  exact dc_dec ((dc_bind (dc_u1 h0)).trans rfl) (by omega)
theorem dc_62 {c : ByteArray} {pc : Nat}  {s : List Nat} (h : dc_at c pc (62 :: s))  : decode c pc = .ok (.istore_n 3, 1) := by
  obtain ⟨h0, -⟩ := dc_one h
  exact dc_dec ((dc_bind (dc_u1 h0)).trans rfl) (by omega)
theorem dc_7 {c : ByteArray} {pc : Nat}  {s : List Nat} (h : dc_at c pc (7 :: s))  : decode c pc = .ok (.iconst 4, 1) := by
  obtain ⟨h0, -⟩ := dc_one h
  exact dc_dec ((dc_bind (dc_u1 h0)).trans rfl) (by omega)
theorem dc_76 {c : ByteArray} {pc : Nat}  {s : List Nat} (h : dc_at c pc (76 :: s))  : decode c pc = .ok (.astore_n 1, 1) := by
  obtain ⟨h0, -⟩ := dc_one h
  exact dc_dec ((dc_bind (dc_u1 h0)).trans rfl) (by omega)
theorem dc_77 {c : ByteArray} {pc : Nat}  {s : List Nat} (h : dc_at c pc (77 :: s))  : decode c pc = .ok (.astore_n 2, 1) := by
  obtain ⟨h0, -⟩ := dc_one h
  exact dc_dec ((dc_bind (dc_u1 h0)).trans rfl) (by omega)
theorem dc_78 {c : ByteArray} {pc : Nat}  {s : List Nat} (h : dc_at c pc (78 :: s))  : decode c pc = .ok (.astore_n 3, 1) := by
  obtain ⟨h0, -⟩ := dc_one h
  exact dc_dec ((dc_bind (dc_u1 h0)).trans rfl) (by omega)
theorem dc_79 {c : ByteArray} {pc : Nat}  {s : List Nat} (h : dc_at c pc (79 :: s))  : decode c pc = .ok (.iastore, 1) := by
  obtain ⟨h0, -⟩ := dc_one h
  exact dc_dec ((dc_bind (dc_u1 h0)).trans rfl) (by omega)
theorem dc_8 {c : ByteArray} {pc : Nat}  {s : List Nat} (h : dc_at c pc (8 :: s))  : decode c pc = .ok (.iconst 5, 1) := by
  obtain ⟨h0, -⟩ := dc_one h
  exact dc_dec ((dc_bind (dc_u1 h0)).trans rfl) (by omega)
theorem dc_80 {c : ByteArray} {pc : Nat}  {s : List Nat} (h : dc_at c pc (80 :: s))  : decode c pc = .ok (.lastore, 1) := by
  obtain ⟨h0, -⟩ := dc_one h
  exact dc_dec ((dc_bind (dc_u1 h0)).trans rfl) (by omega)
theorem dc_84 {c : ByteArray} {pc : Nat}  {s : List Nat} (h : dc_at c pc (84 :: s))  : decode c pc = .ok (.bastore, 1) := by
  obtain ⟨h0, -⟩ := dc_one h
  exact dc_dec ((dc_bind (dc_u1 h0)).trans rfl) (by omega)
theorem dc_87 {c : ByteArray} {pc : Nat}  {s : List Nat} (h : dc_at c pc (87 :: s))  : decode c pc = .ok (.pop, 1) := by
  obtain ⟨h0, -⟩ := dc_one h
  exact dc_dec ((dc_bind (dc_u1 h0)).trans rfl) (by omega)
theorem dc_89 {c : ByteArray} {pc : Nat}  {s : List Nat} (h : dc_at c pc (89 :: s))  : decode c pc = .ok (.dup, 1) := by
  obtain ⟨h0, -⟩ := dc_one h
  exact dc_dec ((dc_bind (dc_u1 h0)).trans rfl) (by omega)
theorem dc_9 {c : ByteArray} {pc : Nat}  {s : List Nat} (h : dc_at c pc (9 :: s))  : decode c pc = .ok (.lconst 0, 1) := by
  obtain ⟨h0, -⟩ := dc_one h
  exact dc_dec ((dc_bind (dc_u1 h0)).trans rfl) (by omega)
theorem dc_92 {c : ByteArray} {pc : Nat}  {s : List Nat} (h : dc_at c pc (92 :: s))  : decode c pc = .ok (.dup2, 1) := by
  obtain ⟨h0, -⟩ := dc_one h
  exact dc_dec ((dc_bind (dc_u1 h0)).trans rfl) (by omega)
theorem dc_96 {c : ByteArray} {pc : Nat}  {s : List Nat} (h : dc_at c pc (96 :: s))  : decode c pc = .ok (.iadd, 1) := by
  obtain ⟨h0, -⟩ := dc_one h
  exact dc_dec ((dc_bind (dc_u1 h0)).trans rfl) (by omega)
theorem dc_97 {c : ByteArray} {pc : Nat}  {s : List Nat} (h : dc_at c pc (97 :: s))  : decode c pc = .ok (.ladd, 1) := by
  obtain ⟨h0, -⟩ := dc_one h
  exact dc_dec ((dc_bind (dc_u1 h0)).trans rfl) (by omega)
/-! names apart: by codes -/
def nm_code (s : String) : Nat := s.toByteArray.data.toList.foldl (fun n c => n * 256 + c.toNat) 1
theorem nm_of {T : u_T} {n : Nat} (cs : List Nat) (h : ∀ a, a < n → nm_code (T a).2.1 = cs.getD a 0) (hd : ∀ a, a < n → ∀ b, b < n → a ≠ b → cs.getD a 0 ≠ cs.getD b 0) : ∀ a, a < n → ∀ b, b < n → a ≠ b → (T a).2.1 ≠ (T b).2.1 := fun a ha b hb hab e => hd a ha b hb hab (by rw [← h a ha, ← h b hb, e])
/-! names that no native row bears: one look at the rows, by codes -/
theorem nat_nm : Jvm.natives.all (fun r => !([25827140487512682340, 25827140487512090998] : List Nat).contains (nm_code r.name)) = true := by decide +kernel
theorem pf_of {y : MethodName} (h : ([25827140487512682340, 25827140487512090998] : List Nat).contains (nm_code y.name) = true) : plainFor y = true := by
  have hn : (NativeRow.find? Jvm.natives y.cls y.name y.desc).isNone = true := by
    unfold NativeRow.find?
    rw [Option.isNone_iff_eq_none, List.find?_eq_none]
    intro r hr he
    simp only [Bool.and_eq_true, beq_iff_eq] at he
    have h9 := List.all_eq_true.mp nat_nm r hr
    simp only [he.1.1, h, Bool.not_true] at h9
    cases h9
  unfold plainFor
  rw [hn, Bool.or_true]
/-! words of one list among another's: rising runs of places, each by its gaps -/
def wk_pick : List Nat → List Cond → List Cond
  | [], _ => []
  | g :: gs, l => match l.drop g with
    | [] => []
    | a :: r => a :: wk_pick gs r
def wk_picks : List (List Nat) → List Cond → List Cond
  | [], _ => []
  | [g], l => wk_pick g l
  | g :: gs, l => wk_pick g l ++ wk_picks gs l
theorem wk_pick_in : ∀ (gs : List Nat) (l : List Cond) (w : Cond), w ∈ wk_pick gs l → w ∈ l
  | [], _, _, h => absurd h List.not_mem_nil
  | g :: gs, l, w, h => by
    unfold wk_pick at h
    split at h
    · exact absurd h List.not_mem_nil
    · rename_i a r e
      have hd : ∀ x ∈ a :: r, x ∈ l := fun x hx => List.mem_of_mem_drop (e ▸ hx)
      rcases List.mem_cons.mp h with h | h
      · exact hd w (h ▸ List.mem_cons_self)
      · exact hd w (List.mem_cons_of_mem _ (wk_pick_in gs r w h))
theorem wk_picks_in : ∀ (gs : List (List Nat)) (l : List Cond) (w : Cond), w ∈ wk_picks gs l → w ∈ l
  | [], _, _, h => absurd h List.not_mem_nil
  | [g], l, w, h => wk_pick_in g l w h
  | g :: g2 :: gs, l, w, h => (List.mem_append.mp h).elim (wk_pick_in g l w) (wk_picks_in (g2 :: gs) l w)
theorem goodIn_k {big : List Cond} (ws : List Cond) (ps : List (List Nat)) (hp : ws = wk_picks ps big) (h : ws.all goodWord = true) : GoodIn big ws := by
  intro w hw
  have h1 := List.all_eq_true.mp h w hw
  rw [hp] at hw
  exact ⟨wk_picks_in ps big w hw, good_of_word h1⟩
theorem gw_V (o : String) (i : Nat) (c : String) (y : MethodName) : ([.methodLink o i y, .instanceMethod y, .selects c y y, .initialized c] : List Cond).all goodWord = true := rfl
theorem gw_S (o : String) (i : Nat) (c : String) (y : MethodName) : ([.methodLink o i y, .static y, .initialized c] : List Cond).all goodWord = true := rfl
/-! ===== BEGIN printed: names, fields, word lists, decode rows ===== -/
def RX0 : String := "WheelBook$Births"
def TX0 : u_T := fun k => match k with
  | _ => ("WheelBook$Births", "part", "[I", true)
def tyX0 : Nat → FieldType := fun k => match k with
  | _ => .array .int
abbrev wsX00 : List Cond := u_ws RX0 TX0 1
theorem nmX0 : ∀ a, a < 1 → ∀ b, b < 1 → a ≠ b → (TX0 a).2.1 ≠ (TX0 b).2.1 := by decide +kernel
theorem tyX0_ok : ∀ k, k < 1 → parseFieldDescriptor (TX0 k).2.2.1 = some (tyX0 k) := by decide +kernel
abbrev cX0_init : ByteArray := prog_2_method_1_code
def yX0_init : MethodName := ⟨RX0, "<init>", "()V"⟩
abbrev cX0_areOne : ByteArray := prog_2_method_2_code
def yX0_areOne : MethodName := ⟨RX0, "areOne", "(LWheelBook$Hands;LWheelBook$Books;III)Z"⟩
abbrev cX0_partBy : ByteArray := prog_2_method_3_code
def yX0_partBy : MethodName := ⟨RX0, "partBy", "(LWheelBook$Hands;LWheelBook$Books;I)V"⟩
abbrev cX0_join : ByteArray := prog_2_method_4_code
def yX0_join : MethodName := ⟨RX0, "join", "(III)V"⟩
abbrev cX0_leastOf : ByteArray := prog_2_method_5_code
def yX0_leastOf : MethodName := ⟨RX0, "leastOf", "(I)I"⟩
abbrev cX0_howManyParts : ByteArray := prog_2_method_6_code
def yX0_howManyParts : MethodName := ⟨RX0, "howManyParts", "(LWheelBook$Books;)I"⟩
def RX1 : String := "WheelBook$Books"
def TX1 : u_T := fun k => match k with
  | 0 => ("WheelBook$Books", "degrees", "[I", true)
  | _ => ("WheelBook$Books", "draft", "[I", true)
def tyX1 : Nat → FieldType := fun k => match k with
  | 0 => .array .int
  | _ => .array .int
abbrev wsX10 : List Cond := u_ws RX1 TX1 2
theorem nmX1 : ∀ a, a < 2 → ∀ b, b < 2 → a ≠ b → (TX1 a).2.1 ≠ (TX1 b).2.1 := by decide +kernel
theorem tyX1_ok : ∀ k, k < 2 → parseFieldDescriptor (TX1 k).2.2.1 = some (tyX1 k) := by decide +kernel
abbrev cX1_init : ByteArray := prog_3_method_1_code
def yX1_init : MethodName := ⟨RX1, "<init>", "()V"⟩
abbrev cX1_degreeOf : ByteArray := prog_3_method_2_code
def yX1_degreeOf : MethodName := ⟨RX1, "degreeOf", "(II)I"⟩
abbrev cX1_keepDraft : ByteArray := prog_3_method_3_code
def yX1_keepDraft : MethodName := ⟨RX1, "keepDraft", "(I)V"⟩
abbrev cX1_readEntries : ByteArray := prog_3_method_4_code
def yX1_readEntries : MethodName := ⟨RX1, "readEntries", "(LWheelBook$Text;)Z"⟩
abbrev cX1_readEntry : ByteArray := prog_3_method_5_code
def yX1_readEntry : MethodName := ⟨RX1, "readEntry", "(LWheelBook$Text;)Z"⟩
abbrev cX1_isNew : ByteArray := prog_3_method_6_code
def yX1_isNew : MethodName := ⟨RX1, "isNew", "(LWheelBook$Text;I)Z"⟩
abbrev cX1_readDegree : ByteArray := prog_3_method_7_code
def yX1_readDegree : MethodName := ⟨RX1, "readDegree", "(LWheelBook$Text;I)Z"⟩
abbrev cX1_readDate : ByteArray := prog_3_method_8_code
def yX1_readDate : MethodName := ⟨RX1, "readDate", "(LWheelBook$Text;)Z"⟩
abbrev cX1_tellsSomething : ByteArray := prog_3_method_9_code
def yX1_tellsSomething : MethodName := ⟨RX1, "tellsSomething", "(I)Z"⟩
abbrev cX1_howManyTell : ByteArray := prog_3_method_10_code
def yX1_howManyTell : MethodName := ⟨RX1, "howManyTell", "()I"⟩
abbrev cX1_bookTells : ByteArray := prog_3_method_11_code
def yX1_bookTells : MethodName := ⟨RX1, "bookTells", "(I)Z"⟩
abbrev cX1_howManyHouses : ByteArray := prog_3_method_12_code
def yX1_howManyHouses : MethodName := ⟨RX1, "howManyHouses", "(I)I"⟩
abbrev cX1_howManyDiffer : ByteArray := prog_3_method_13_code
def yX1_howManyDiffer : MethodName := ⟨RX1, "howManyDiffer", "(LWheelBook$Climates;III)I"⟩
abbrev cX1_lotOf : ByteArray := prog_3_method_14_code
def yX1_lotOf : MethodName := ⟨RX1, "lotOf", "(I)I"⟩
abbrev cX1_howManyHanded : ByteArray := prog_3_method_15_code
def yX1_howManyHanded : MethodName := ⟨RX1, "howManyHanded", "(III)I"⟩
def RX2 : String := "WheelBook$Climates"
def TX2 : u_T := fun k => match k with
  | 0 => ("WheelBook$Climates", "ahead", "[I", true)
  | _ => ("WheelBook$Climates", "many", "I", false)
def tyX2 : Nat → FieldType := fun k => match k with
  | 0 => .array .int
  | _ => .int
abbrev wsX20 : List Cond := u_ws RX2 TX2 2
theorem nmX2 : ∀ a, a < 2 → ∀ b, b < 2 → a ≠ b → (TX2 a).2.1 ≠ (TX2 b).2.1 := by decide +kernel
theorem tyX2_ok : ∀ k, k < 2 → parseFieldDescriptor (TX2 k).2.2.1 = some (tyX2 k) := by decide +kernel
abbrev cX2_init : ByteArray := prog_4_method_1_code
def yX2_init : MethodName := ⟨RX2, "<init>", "()V"⟩
abbrev cX2_copyFrom : ByteArray := prog_4_method_2_code
def yX2_copyFrom : MethodName := ⟨RX2, "copyFrom", "(LWheelBook$Climates;)V"⟩
abbrev cX2_readClimate : ByteArray := prog_4_method_3_code
def yX2_readClimate : MethodName := ⟨RX2, "readClimate", "(LWheelBook$Text;)Z"⟩
abbrev cX2_readRising : ByteArray := prog_4_method_4_code
def yX2_readRising : MethodName := ⟨RX2, "readRising", "(LWheelBook$Text;)Z"⟩
abbrev cX2_climbOf : ByteArray := prog_4_method_5_code
def yX2_climbOf : MethodName := ⟨RX2, "climbOf", "(II)I"⟩
abbrev cX2_placeOf : ByteArray := prog_4_method_6_code
def yX2_placeOf : MethodName := ⟨RX2, "placeOf", "(II)I"⟩
abbrev cX2_risingAt : ByteArray := prog_4_method_7_code
def yX2_risingAt : MethodName := ⟨RX2, "risingAt", "(III)I"⟩
abbrev cX2_middleOf : ByteArray := prog_4_method_8_code
def yX2_middleOf : MethodName := ⟨RX2, "middleOf", "(II)I"⟩
abbrev cX2_isHour : ByteArray := prog_4_method_9_code
def yX2_isHour : MethodName := ⟨RX2, "isHour", "(IIII)Z"⟩
abbrev cX2_hasHour : ByteArray := prog_4_method_10_code
def yX2_hasHour : MethodName := ⟨RX2, "hasHour", "(III)Z"⟩
abbrev cX2_howManyHours : ByteArray := prog_4_method_11_code
def yX2_howManyHours : MethodName := ⟨RX2, "howManyHours", "(II)I"⟩
abbrev cX2_nthHour : ByteArray := prog_4_method_12_code
def yX2_nthHour : MethodName := ⟨RX2, "nthHour", "(III)I"⟩
abbrev cX2_houseDegree : ByteArray := prog_4_method_13_code
def yX2_houseDegree : MethodName := ⟨RX2, "houseDegree", "(IIII)I"⟩
abbrev cX2_houseByMiddle : ByteArray := prog_4_method_14_code
def yX2_houseByMiddle : MethodName := ⟨RX2, "houseByMiddle", "(III)I"⟩
def RX3 : String := "WheelBook$Fit"
def TX3 : u_T := fun k => match k with
  | _ => ("WheelBook$Fit", "sharers", "[I", true)
def tyX3 : Nat → FieldType := fun k => match k with
  | _ => .array .int
abbrev wsX30 : List Cond := u_ws RX3 TX3 1
theorem nmX3 : ∀ a, a < 1 → ∀ b, b < 1 → a ≠ b → (TX3 a).2.1 ≠ (TX3 b).2.1 := by decide +kernel
theorem tyX3_ok : ∀ k, k < 1 → parseFieldDescriptor (TX3 k).2.2.1 = some (tyX3 k) := by decide +kernel
abbrev cX3_init : ByteArray := prog_5_method_1_code
def yX3_init : MethodName := ⟨RX3, "<init>", "()V"⟩
abbrev cX3_costOn : ByteArray := prog_5_method_2_code
def yX3_costOn : MethodName := ⟨RX3, "costOn", "(LWheelBook$House;LWheelBook$Books;IIII)I"⟩
abbrev cX3_setsAt : ByteArray := prog_5_method_3_code
def yX3_setsAt : MethodName := ⟨RX3, "setsAt", "(LWheelBook$House;III)I"⟩
abbrev cX3_isMixed : ByteArray := prog_5_method_4_code
def yX3_isMixed : MethodName := ⟨RX3, "isMixed", "(LWheelBook$House;LWheelBook$Books;II)Z"⟩
abbrev cX3_setSharers : ByteArray := prog_5_method_5_code
def yX3_setSharers : MethodName := ⟨RX3, "setSharers", "(LWheelBook$House;LWheelBook$Books;II)V"⟩
abbrev cX3_isShared : ByteArray := prog_5_method_6_code
def yX3_isShared : MethodName := ⟨RX3, "isShared", "(II)Z"⟩
abbrev cX3_howManyErrors : ByteArray := prog_5_method_7_code
def yX3_howManyErrors : MethodName := ⟨RX3, "howManyErrors", "()I"⟩
abbrev cX3_howManyShared : ByteArray := prog_5_method_8_code
def yX3_howManyShared : MethodName := ⟨RX3, "howManyShared", "(I)I"⟩
abbrev cX3_howManyAlone : ByteArray := prog_5_method_9_code
def yX3_howManyAlone : MethodName := ⟨RX3, "howManyAlone", "(I)I"⟩
abbrev cX3_weightOf : ByteArray := prog_5_method_10_code
def yX3_weightOf : MethodName := ⟨RX3, "weightOf", "(I)I"⟩
abbrev cX3_setFollowed : ByteArray := prog_5_method_11_code
def yX3_setFollowed : MethodName := ⟨RX3, "setFollowed", "()I"⟩
def RX4 : String := "WheelBook$Hands"
def TX4 : u_T := fun k => match k with
  | 0 => ("WheelBook$Hands", "stoodFor", "[I", true)
  | _ => ("WheelBook$Hands", "many", "I", false)
def tyX4 : Nat → FieldType := fun k => match k with
  | 0 => .array .int
  | _ => .int
abbrev wsX40 : List Cond := u_ws RX4 TX4 2
theorem nmX4 : ∀ a, a < 2 → ∀ b, b < 2 → a ≠ b → (TX4 a).2.1 ≠ (TX4 b).2.1 := by decide +kernel
theorem tyX4_ok : ∀ k, k < 2 → parseFieldDescriptor (TX4 k).2.2.1 = some (tyX4 k) := by decide +kernel
abbrev cX4_init : ByteArray := prog_6_method_1_code
def yX4_init : MethodName := ⟨RX4, "<init>", "()V"⟩
abbrev cX4_copyFrom : ByteArray := prog_6_method_2_code
def yX4_copyFrom : MethodName := ⟨RX4, "copyFrom", "(LWheelBook$Hands;)V"⟩
abbrev cX4_readHand : ByteArray := prog_6_method_3_code
def yX4_readHand : MethodName := ⟨RX4, "readHand", "(LWheelBook$Text;)Z"⟩
abbrev cX4_isRead : ByteArray := prog_6_method_4_code
def yX4_isRead : MethodName := ⟨RX4, "isRead", "(II)Z"⟩
abbrev cX4_misreading : ByteArray := prog_6_method_5_code
def yX4_misreading : MethodName := ⟨RX4, "misreading", "(II)I"⟩
abbrev cX4_costBeside : ByteArray := prog_6_method_6_code
def yX4_costBeside : MethodName := ⟨RX4, "costBeside", "(II)I"⟩
def RX5 : String := "WheelBook$House"
def TX5 : u_T := fun k => match k with
  | 0 => ("WheelBook$House", "at", "[I", true)
  | 1 => ("WheelBook$House", "goes", "[I", true)
  | 2 => ("WheelBook$House", "swing", "[I", true)
  | 3 => ("WheelBook$House", "period", "[I", true)
  | 4 => ("WheelBook$House", "climates", "LWheelBook$Climates;", true)
  | _ => ("WheelBook$House", "hands", "LWheelBook$Hands;", true)
def tyX5 : Nat → FieldType := fun k => match k with
  | 0 => .array .int
  | 1 => .array .int
  | 2 => .array .int
  | 3 => .array .int
  | 4 => .object "WheelBook$Climates"
  | _ => .object "WheelBook$Hands"
abbrev wsX50 : List Cond := u_ws RX5 TX5 6
theorem nmX5 : ∀ a, a < 6 → ∀ b, b < 6 → a ≠ b → (TX5 a).2.1 ≠ (TX5 b).2.1 := nm_of [90484, 6030321011, 1595436265063, 405055990230884, 25610961099456537971, 1547822851187] (by decide +kernel) (by decide +kernel)
theorem tyX5_ok : ∀ k, k < 6 → parseFieldDescriptor (TX5 k).2.2.1 = some (tyX5 k) := by decide +kernel
abbrev cX5_init : ByteArray := prog_7_method_1_code
def yX5_init : MethodName := ⟨RX5, "<init>", "()V"⟩
abbrev cX5_copyFrom : ByteArray := prog_7_method_2_code
def yX5_copyFrom : MethodName := ⟨RX5, "copyFrom", "(LWheelBook$House;)V"⟩
abbrev cX5_readLines : ByteArray := prog_7_method_3_code
def yX5_readLines : MethodName := ⟨RX5, "readLines", "(LWheelBook$Text;)Z"⟩
abbrev cX5_readSet : ByteArray := prog_7_method_4_code
def yX5_readSet : MethodName := ⟨RX5, "readSet", "(LWheelBook$Text;)Z"⟩
abbrev cX5_readTable : ByteArray := prog_7_method_5_code
def yX5_readTable : MethodName := ⟨RX5, "readTable", "(LWheelBook$Text;I)Z"⟩
abbrev cX5_placeOn : ByteArray := prog_7_method_6_code
def yX5_placeOn : MethodName := ⟨RX5, "placeOn", "(III)I"⟩
abbrev cX5_swingOn : ByteArray := prog_7_method_7_code
def yX5_swingOn : MethodName := ⟨RX5, "swingOn", "(II)J"⟩
abbrev cX5_degreeOn : ByteArray := prog_7_method_8_code
def yX5_degreeOn : MethodName := ⟨RX5, "degreeOn", "(III)I"⟩
def RX6 : String := "WheelBook$Leaves"
def TX6 : u_T := fun k => match k with
  | 0 => ("WheelBook$Leaves", "wheels", "[I", true)
  | 1 => ("WheelBook$Leaves", "many", "[I", true)
  | 2 => ("WheelBook$Leaves", "places", "[I", true)
  | _ => ("WheelBook$Leaves", "longest", "[I", true)
def tyX6 : Nat → FieldType := fun k => match k with
  | 0 => .array .int
  | 1 => .array .int
  | 2 => .array .int
  | _ => .array .int
abbrev wsX60 : List Cond := u_ws RX6 TX6 4
theorem nmX6 : ∀ a, a < 4 → ∀ b, b < 4 → a ≠ b → (TX6 a).2.1 ≠ (TX6 b).2.1 := by decide +kernel
theorem tyX6_ok : ∀ k, k < 4 → parseFieldDescriptor (TX6 k).2.2.1 = some (tyX6 k) := by decide +kernel
abbrev cX6_init : ByteArray := prog_8_method_1_code
def yX6_init : MethodName := ⟨RX6, "<init>", "()V"⟩
abbrev cX6_addTo : ByteArray := prog_8_method_2_code
def yX6_addTo : MethodName := ⟨RX6, "addTo", "(II)I"⟩
abbrev cX6_placeOf : ByteArray := prog_8_method_3_code
def yX6_placeOf : MethodName := ⟨RX6, "placeOf", "(II)I"⟩
abbrev cX6_setPlaces : ByteArray := prog_8_method_4_code
def yX6_setPlaces : MethodName := ⟨RX6, "setPlaces", "(II)I"⟩
abbrev cX6_howManyInOrder : ByteArray := prog_8_method_5_code
def yX6_howManyInOrder : MethodName := ⟨RX6, "howManyInOrder", "(II)I"⟩
abbrev cX6_howManyTurned : ByteArray := prog_8_method_6_code
def yX6_howManyTurned : MethodName := ⟨RX6, "howManyTurned", "(II)I"⟩
def RX7 : String := "WheelBook$Outcomes"
def TX7 : u_T := fun k => match k with
  | 0 => ("WheelBook$Outcomes", "foretold", "[I", true)
  | 1 => ("WheelBook$Outcomes", "came", "[I", true)
  | 2 => ("WheelBook$Outcomes", "houses", "[I", true)
  | 3 => ("WheelBook$Outcomes", "rows", "[I", true)
  | 4 => ("WheelBook$Outcomes", "hit", "[Z", true)
  | _ => ("WheelBook$Outcomes", "ways", "[I", true)
def tyX7 : Nat → FieldType := fun k => match k with
  | 0 => .array .int
  | 1 => .array .int
  | 2 => .array .int
  | 3 => .array .int
  | 4 => .array .boolean
  | _ => .array .int
abbrev wsX70 : List Cond := u_ws RX7 TX7 6
theorem nmX7 : ∀ a, a < 6 → ∀ b, b < 6 → a ≠ b → (TX7 a).2.1 ≠ (TX7 b).2.1 := nm_of [25827988168063806564, 5962296677, 396302897866099, 6214874995, 23619956, 6297844083] (by decide +kernel) (by decide +kernel)
theorem tyX7_ok : ∀ k, k < 6 → parseFieldDescriptor (TX7 k).2.2.1 = some (tyX7 k) := by decide +kernel
abbrev cX7_init : ByteArray := prog_9_method_1_code
def yX7_init : MethodName := ⟨RX7, "<init>", "()V"⟩
abbrev cX7_tellLife : ByteArray := prog_9_method_2_code
def yX7_tellLife : MethodName := ⟨RX7, "tellLife", "(III)V"⟩
abbrev cX7_tellFate : ByteArray := prog_9_method_3_code
def yX7_tellFate : MethodName := ⟨RX7, "tellFate", "(II)V"⟩
abbrev cX7_setRows : ByteArray := prog_9_method_4_code
def yX7_setRows : MethodName := ⟨RX7, "setRows", "([I)I"⟩
abbrev cX7_howManyLives : ByteArray := prog_9_method_5_code
def yX7_howManyLives : MethodName := ⟨RX7, "howManyLives", "()I"⟩
abbrev cX7_howManyFates : ByteArray := prog_9_method_6_code
def yX7_howManyFates : MethodName := ⟨RX7, "howManyFates", "()I"⟩
abbrev cX7_isHit : ByteArray := prog_9_method_7_code
def yX7_isHit : MethodName := ⟨RX7, "isHit", "(III)Z"⟩
abbrev cX7_howManyHits : ByteArray := prog_9_method_8_code
def yX7_howManyHits : MethodName := ⟨RX7, "howManyHits", "(I)I"⟩
abbrev cX7_chanceOfLives : ByteArray := prog_9_method_9_code
def yX7_chanceOfLives : MethodName := ⟨RX7, "chanceOfLives", "(I)I"⟩
abbrev cX7_isToldByLot : ByteArray := prog_9_method_10_code
def yX7_isToldByLot : MethodName := ⟨RX7, "isToldByLot", "(LWheelBook$Books;II)Z"⟩
abbrev cX7_howManyToldByLot : ByteArray := prog_9_method_11_code
def yX7_howManyToldByLot : MethodName := ⟨RX7, "howManyToldByLot", "(LWheelBook$Books;)I"⟩
abbrev cX7_chanceOfFates : ByteArray := prog_9_method_12_code
def yX7_chanceOfFates : MethodName := ⟨RX7, "chanceOfFates", "(LWheelBook$Books;)I"⟩
abbrev cX7_waysToHit : ByteArray := prog_9_method_13_code
def yX7_waysToHit : MethodName := ⟨RX7, "waysToHit", "(II)I"⟩
abbrev cX7_layNext : ByteArray := prog_9_method_14_code
def yX7_layNext : MethodName := ⟨RX7, "layNext", "(II)V"⟩
def RX8 : String := "WheelBook$Search"
def TX8 : u_T := fun k => match k with
  | 0 => ("WheelBook$Search", "begun", "Z", false)
  | 1 => ("WheelBook$Search", "number", "I", false)
  | 2 => ("WheelBook$Search", "set", "I", false)
  | 3 => ("WheelBook$Search", "next", "I", false)
  | 4 => ("WheelBook$Search", "least", "I", false)
  | 5 => ("WheelBook$Search", "many", "I", false)
  | 6 => ("WheelBook$Search", "latest", "I", false)
  | _ => ("WheelBook$Search", "days", "[I", true)
def tyX8 : Nat → FieldType := fun k => match k with
  | 0 => .boolean
  | 1 => .int
  | 2 => .int
  | 3 => .int
  | 4 => .int
  | 5 => .int
  | 6 => .int
  | _ => .array .int
abbrev wsX80 : List Cond := u_ws RX8 TX8 8
theorem nmX8 : ∀ a, a < 8 → ∀ b, b < 8 → a ≠ b → (TX8 a).2.1 ≠ (TX8 b).2.1 := nm_of [1522119701870, 402925602104690, 24339828, 6147111028, 1565068981108, 6130069113, 400640797143924, 5979076979] (by decide +kernel) (by decide +kernel)
theorem tyX8_ok : ∀ k, k < 8 → parseFieldDescriptor (TX8 k).2.2.1 = some (tyX8 k) := by decide +kernel
abbrev cX8_init : ByteArray := prog_10_method_1_code
def yX8_init : MethodName := ⟨RX8, "<init>", "()V"⟩
abbrev cX8_begin : ByteArray := prog_10_method_2_code
def yX8_begin : MethodName := ⟨RX8, "begin", "(III)V"⟩
abbrev cX8_copyFrom : ByteArray := prog_10_method_3_code
def yX8_copyFrom : MethodName := ⟨RX8, "copyFrom", "(LWheelBook$Search;)V"⟩
abbrev cX8_goOn : ByteArray := prog_10_method_4_code
def yX8_goOn : MethodName := ⟨RX8, "goOn", "(LWheelBook$House;LWheelBook$Books;I)I"⟩
abbrev cX8_lookAt : ByteArray := prog_10_method_5_code
def yX8_lookAt : MethodName := ⟨RX8, "lookAt", "(I)V"⟩
abbrev cX8_howManyKept : ByteArray := prog_10_method_6_code
def yX8_howManyKept : MethodName := ⟨RX8, "howManyKept", "()I"⟩
abbrev cX8_keptDay : ByteArray := prog_10_method_7_code
def yX8_keptDay : MethodName := ⟨RX8, "keptDay", "(I)I"⟩
def RX9 : String := "WheelBook$Text"
def TX9 : u_T := fun k => match k with
  | 0 => ("WheelBook$Text", "bytes", "[B", true)
  | 1 => ("WheelBook$Text", "length", "I", false)
  | 2 => ("WheelBook$Text", "end", "I", false)
  | 3 => ("WheelBook$Text", "start", "I", false)
  | 4 => ("WheelBook$Text", "at", "I", false)
  | 5 => ("WheelBook$Text", "kind", "I", false)
  | 6 => ("WheelBook$Text", "value", "I", false)
  | 7 => ("WheelBook$Text", "number", "I", false)
  | 8 => ("WheelBook$Text", "faultKind", "I", false)
  | _ => ("WheelBook$Text", "faultPlace", "I", false)
def tyX9 : Nat → FieldType := fun k => match k with
  | 0 => .array .byte
  | 1 => .int
  | 2 => .int
  | 3 => .int
  | 4 => .int
  | 5 => .int
  | 6 => .int
  | 7 => .int
  | 8 => .int
  | _ => .int
abbrev wsX90 : List Cond := u_ws RX9 TX9 10
theorem nmX9 : ∀ a, a < 10 → ∀ b, b < 10 → a ≠ b → (TX9 a).2.1 ≠ (TX9 b).2.1 := nm_of [1522456094067, 400657876481128, 23424612, 1595385410164, 90484, 6097038948, 1607952266597, 402925602104690, 6610957016828710841956, 1692404996308171499856741] (by decide +kernel) (by decide +kernel)
theorem tyX9_ok : ∀ k, k < 10 → parseFieldDescriptor (TX9 k).2.2.1 = some (tyX9 k) := by decide +kernel
abbrev cX9_init : ByteArray := prog_11_method_1_code
def yX9_init : MethodName := ⟨RX9, "<init>", "()V"⟩
abbrev cX9_hasRoom : ByteArray := prog_11_method_2_code
def yX9_hasRoom : MethodName := ⟨RX9, "hasRoom", "()Z"⟩
abbrev cX9_put : ByteArray := prog_11_method_3_code
def yX9_put : MethodName := ⟨RX9, "put", "(I)V"⟩
abbrev cX9_begin : ByteArray := prog_11_method_4_code
def yX9_begin : MethodName := ⟨RX9, "begin", "(I)V"⟩
abbrev cX9_isAtEnd : ByteArray := prog_11_method_5_code
def yX9_isAtEnd : MethodName := ⟨RX9, "isAtEnd", "()Z"⟩
abbrev cX9_step : ByteArray := prog_11_method_6_code
def yX9_step : MethodName := ⟨RX9, "step", "()V"⟩
abbrev cX9_isBlank : ByteArray := prog_11_method_7_code
def yX9_isBlank : MethodName := ⟨RX9, "isBlank", "(I)Z"⟩
abbrev cX9_isLetter : ByteArray := prog_11_method_8_code
def yX9_isLetter : MethodName := ⟨RX9, "isLetter", "(I)Z"⟩
abbrev cX9_isDigit : ByteArray := prog_11_method_9_code
def yX9_isDigit : MethodName := ⟨RX9, "isDigit", "(I)Z"⟩
abbrev cX9_isWord : ByteArray := prog_11_method_10_code
def yX9_isWord : MethodName := ⟨RX9, "isWord", "(Ljava/lang/String;)Z"⟩
abbrev cX9_namedOf : ByteArray := prog_11_method_11_code
def yX9_namedOf : MethodName := ⟨RX9, "namedOf", "(I)I"⟩
abbrev cX9_nameOf : ByteArray := prog_11_method_12_code
def yX9_nameOf : MethodName := ⟨RX9, "nameOf", "(I)Ljava/lang/String;"⟩
abbrev cX9_refuse : ByteArray := prog_11_method_13_code
def yX9_refuse : MethodName := ⟨RX9, "refuse", "(I)Z"⟩
abbrev cX9_takeWord : ByteArray := prog_11_method_14_code
def yX9_takeWord : MethodName := ⟨RX9, "takeWord", "(Ljava/lang/String;)Z"⟩
abbrev cX9_takeStop : ByteArray := prog_11_method_15_code
def yX9_takeStop : MethodName := ⟨RX9, "takeStop", "()Z"⟩
abbrev cX9_holdsNumber : ByteArray := prog_11_method_16_code
def yX9_holdsNumber : MethodName := ⟨RX9, "holdsNumber", "(II)Z"⟩
abbrev cX9_takeNumber : ByteArray := prog_11_method_17_code
def yX9_takeNumber : MethodName := ⟨RX9, "takeNumber", "(II)Z"⟩
def RX10 : String := "WheelBook$Tree"
def TX10 : u_T := fun k => match k with
  | 0 => ("WheelBook$Tree", "prices", "[I", true)
  | 1 => ("WheelBook$Tree", "row", "[I", true)
  | 2 => ("WheelBook$Tree", "bestRow", "[I", true)
  | 3 => ("WheelBook$Tree", "least", "I", false)
  | _ => ("WheelBook$Tree", "isKept", "Z", false)
def tyX10 : Nat → FieldType := fun k => match k with
  | 0 => .array .int
  | 1 => .array .int
  | 2 => .array .int
  | 3 => .int
  | _ => .boolean
abbrev wsX100 : List Cond := u_ws RX10 TX10 5
theorem nmX10 : ∀ a, a < 5 → ∀ b, b < 5 → a ≠ b → (TX10 a).2.1 ≠ (TX10 b).2.1 := by decide +kernel
theorem tyX10_ok : ∀ k, k < 5 → parseFieldDescriptor (TX10 k).2.2.1 = some (tyX10 k) := by decide +kernel
abbrev cX10_init : ByteArray := prog_12_method_1_code
def yX10_init : MethodName := ⟨RX10, "<init>", "()V"⟩
abbrev cX10_priceOf : ByteArray := prog_12_method_2_code
def yX10_priceOf : MethodName := ⟨RX10, "priceOf", "(LWheelBook$Hands;LWheelBook$Books;II)I"⟩
abbrev cX10_priceOfEntry : ByteArray := prog_12_method_3_code
def yX10_priceOfEntry : MethodName := ⟨RX10, "priceOfEntry", "(LWheelBook$Hands;III)I"⟩
abbrev cX10_setBooks : ByteArray := prog_12_method_4_code
def yX10_setBooks : MethodName := ⟨RX10, "setBooks", "(LWheelBook$Books;)Z"⟩
abbrev cX10_setPrices : ByteArray := prog_12_method_5_code
def yX10_setPrices : MethodName := ⟨RX10, "setPrices", "(LWheelBook$Hands;LWheelBook$Books;)V"⟩
abbrev cX10_grow : ByteArray := prog_12_method_6_code
def yX10_grow : MethodName := ⟨RX10, "grow", "()I"⟩
abbrev cX10_choose : ByteArray := prog_12_method_7_code
def yX10_choose : MethodName := ⟨RX10, "choose", "(IIZ)V"⟩
abbrev cX10_comesFrom : ByteArray := prog_12_method_8_code
def yX10_comesFrom : MethodName := ⟨RX10, "comesFrom", "(II)Z"⟩
abbrev cX10_holds : ByteArray := prog_12_method_9_code
def yX10_holds : MethodName := ⟨RX10, "holds", "(I)Z"⟩
abbrev cX10_parentOf : ByteArray := prog_12_method_10_code
def yX10_parentOf : MethodName := ⟨RX10, "parentOf", "(I)I"⟩
abbrev cX10_howManySlips : ByteArray := prog_12_method_11_code
def yX10_howManySlips : MethodName := ⟨RX10, "howManySlips", "(LWheelBook$Hands;LWheelBook$Books;II)I"⟩
abbrev cX10_slipsOf : ByteArray := prog_12_method_12_code
def yX10_slipsOf : MethodName := ⟨RX10, "slipsOf", "(LWheelBook$Hands;LWheelBook$Books;III)I"⟩
abbrev cX10_isSlip : ByteArray := prog_12_method_13_code
def yX10_isSlip : MethodName := ⟨RX10, "isSlip", "(LWheelBook$Hands;IIII)Z"⟩
def RX11 : String := "WheelBook"
def TX11 : u_T := fun k => match k with
  | 0 => ("WheelBook", "text", "LWheelBook$Text;", true)
  | 1 => ("WheelBook", "told", "LWheelBook$House;", true)
  | 2 => ("WheelBook", "draft", "LWheelBook$House;", true)
  | 3 => ("WheelBook", "books", "LWheelBook$Books;", true)
  | 4 => ("WheelBook", "fit", "LWheelBook$Fit;", true)
  | 5 => ("WheelBook", "latestBest", "LWheelBook$Search;", true)
  | 6 => ("WheelBook", "trial", "LWheelBook$Search;", true)
  | 7 => ("WheelBook", "search", "LWheelBook$Search;", true)
  | 8 => ("WheelBook", "kept", "LWheelBook$Search;", true)
  | 9 => ("WheelBook", "copies", "LWheelBook$Tree;", true)
  | 10 => ("WheelBook", "leaves", "LWheelBook$Leaves;", true)
  | 11 => ("WheelBook", "parts", "LWheelBook$Births;", true)
  | _ => ("WheelBook", "outcomes", "LWheelBook$Outcomes;", true)
def tyX11 : Nat → FieldType := fun k => match k with
  | 0 => .object "WheelBook$Text"
  | 1 => .object "WheelBook$House"
  | 2 => .object "WheelBook$House"
  | 3 => .object "WheelBook$Books"
  | 4 => .object "WheelBook$Fit"
  | 5 => .object "WheelBook$Search"
  | 6 => .object "WheelBook$Search"
  | 7 => .object "WheelBook$Search"
  | 8 => .object "WheelBook$Search"
  | 9 => .object "WheelBook$Tree"
  | 10 => .object "WheelBook$Leaves"
  | 11 => .object "WheelBook$Births"
  | _ => .object "WheelBook$Outcomes"
abbrev wsX110 : List Cond := u_ws RX11 TX11 13
theorem nmX11 : ∀ a, a < 13 → ∀ b, b < 13 → a ≠ b → (TX11 a).2.1 ≠ (TX11 b).2.1 := nm_of [6247774324, 6248426596, 1530927343220, 1522287995763, 23488884, 1720739121176524899054452, 1599647342956, 408354240488296, 6096777332, 390805255185779, 400657659356531, 1582182855795, 26478197554614723955] (by decide +kernel) (by decide +kernel)
theorem tyX11_ok : ∀ k, k < 13 → parseFieldDescriptor (TX11 k).2.2.1 = some (tyX11 k) := by decide +kernel
abbrev cX11_init : ByteArray := prog_1_method_1_code
def yX11_init : MethodName := ⟨RX11, "<init>", "()V"⟩
abbrev cX11_feed : ByteArray := prog_1_method_2_code
def yX11_feed : MethodName := ⟨RX11, "feed", "(IIIII)I"⟩
abbrev cX11_house : ByteArray := prog_1_method_3_code
def yX11_house : MethodName := ⟨RX11, "house", "(I)I"⟩
abbrev cX11_wheel : ByteArray := prog_1_method_4_code
def yX11_wheel : MethodName := ⟨RX11, "wheel", "(III)I"⟩
abbrev cX11_fault : ByteArray := prog_1_method_5_code
def yX11_fault : MethodName := ⟨RX11, "fault", "()I"⟩
abbrev cX11_count : ByteArray := prog_1_method_6_code
def yX11_count : MethodName := ⟨RX11, "count", "(I)I"⟩
abbrev cX11_place : ByteArray := prog_1_method_7_code
def yX11_place : MethodName := ⟨RX11, "place", "(III)I"⟩
abbrev cX11_entry : ByteArray := prog_1_method_8_code
def yX11_entry : MethodName := ⟨RX11, "entry", "(III)I"⟩
abbrev cX11_cost : ByteArray := prog_1_method_9_code
def yX11_cost : MethodName := ⟨RX11, "cost", "(IIII)I"⟩
abbrev cX11_best : ByteArray := prog_1_method_10_code
def yX11_best : MethodName := ⟨RX11, "best", "(IIIII)I"⟩
abbrev cX11_day : ByteArray := prog_1_method_11_code
def yX11_day : MethodName := ⟨RX11, "day", "(I)I"⟩
abbrev cX11_whose : ByteArray := prog_1_method_12_code
def yX11_whose : MethodName := ⟨RX11, "whose", "(IIIII)I"⟩
abbrev cX11_mixed : ByteArray := prog_1_method_13_code
def yX11_mixed : MethodName := ⟨RX11, "mixed", "(IIII)I"⟩
abbrev cX11_climb : ByteArray := prog_1_method_14_code
def yX11_climb : MethodName := ⟨RX11, "climb", "(II)I"⟩
abbrev cX11_rise : ByteArray := prog_1_method_15_code
def yX11_rise : MethodName := ⟨RX11, "rise", "(III)I"⟩
abbrev cX11_middle : ByteArray := prog_1_method_16_code
def yX11_middle : MethodName := ⟨RX11, "middle", "(II)I"⟩
abbrev cX11_hour : ByteArray := prog_1_method_17_code
def yX11_hour : MethodName := ⟨RX11, "hour", "(III)I"⟩
abbrev cX11_houseOf : ByteArray := prog_1_method_18_code
def yX11_houseOf : MethodName := ⟨RX11, "houseOf", "(IIII)I"⟩
abbrev cX11_agree : ByteArray := prog_1_method_19_code
def yX11_agree : MethodName := ⟨RX11, "agree", "(IIII)I"⟩
abbrev cX11_lot : ByteArray := prog_1_method_20_code
def yX11_lot : MethodName := ⟨RX11, "lot", "(III)I"⟩
abbrev cX11_price : ByteArray := prog_1_method_21_code
def yX11_price : MethodName := ⟨RX11, "price", "(II)I"⟩
abbrev cX11_seek : ByteArray := prog_1_method_22_code
def yX11_seek : MethodName := ⟨RX11, "seek", "(IIII)V"⟩
abbrev cX11_on : ByteArray := prog_1_method_23_code
def yX11_on : MethodName := ⟨RX11, "on", "(I)I"⟩
abbrev cX11_held : ByteArray := prog_1_method_24_code
def yX11_held : MethodName := ⟨RX11, "held", "(I)I"⟩
abbrev cX11_image : ByteArray := prog_1_method_25_code
def yX11_image : MethodName := ⟨RX11, "image", "()Z"⟩
abbrev cX11_restore : ByteArray := prog_1_method_26_code
def yX11_restore : MethodName := ⟨RX11, "restore", "()Z"⟩
abbrev cX11_misread : ByteArray := prog_1_method_27_code
def yX11_misread : MethodName := ⟨RX11, "misread", "(IIIII)I"⟩
abbrev cX11_errors : ByteArray := prog_1_method_28_code
def yX11_errors : MethodName := ⟨RX11, "errors", "(IIII)I"⟩
abbrev cX11_possible : ByteArray := prog_1_method_29_code
def yX11_possible : MethodName := ⟨RX11, "possible", "(III)I"⟩
abbrev cX11_slips : ByteArray := prog_1_method_30_code
def yX11_slips : MethodName := ⟨RX11, "slips", "(II)I"⟩
abbrev cX11_handed : ByteArray := prog_1_method_31_code
def yX11_handed : MethodName := ⟨RX11, "handed", "(III)I"⟩
abbrev cX11_leaf : ByteArray := prog_1_method_32_code
def yX11_leaf : MethodName := ⟨RX11, "leaf", "(II)I"⟩
abbrev cX11_order : ByteArray := prog_1_method_33_code
def yX11_order : MethodName := ⟨RX11, "order", "(III)I"⟩
abbrev cX11_same : ByteArray := prog_1_method_34_code
def yX11_same : MethodName := ⟨RX11, "same", "(III)Z"⟩
abbrev cX11_births : ByteArray := prog_1_method_35_code
def yX11_births : MethodName := ⟨RX11, "births", "(II)I"⟩
abbrev cX11_tree : ByteArray := prog_1_method_36_code
def yX11_tree : MethodName := ⟨RX11, "tree", "()I"⟩
abbrev cX11_whence : ByteArray := prog_1_method_37_code
def yX11_whence : MethodName := ⟨RX11, "whence", "(I)I"⟩
abbrev cX11_life : ByteArray := prog_1_method_38_code
def yX11_life : MethodName := ⟨RX11, "life", "(III)Z"⟩
abbrev cX11_fate : ByteArray := prog_1_method_39_code
def yX11_fate : MethodName := ⟨RX11, "fate", "(II)Z"⟩
abbrev cX11_fates : ByteArray := prog_1_method_40_code
def yX11_fates : MethodName := ⟨RX11, "fates", "(I)I"⟩
abbrev cX11_hits : ByteArray := prog_1_method_41_code
def yX11_hits : MethodName := ⟨RX11, "hits", "(II)I"⟩
abbrev cX11_within : ByteArray := prog_1_method_42_code
def yX11_within : MethodName := ⟨RX11, "within", "(III)Z"⟩
abbrev cX11_isBook : ByteArray := prog_1_method_43_code
def yX11_isBook : MethodName := ⟨RX11, "isBook", "(I)Z"⟩
abbrev cX11_isNumber : ByteArray := prog_1_method_44_code
def yX11_isNumber : MethodName := ⟨RX11, "isNumber", "(I)Z"⟩
abbrev cX11_isDay : ByteArray := prog_1_method_45_code
def yX11_isDay : MethodName := ⟨RX11, "isDay", "(I)Z"⟩
abbrev cX11_isSpan : ByteArray := prog_1_method_46_code
def yX11_isSpan : MethodName := ⟨RX11, "isSpan", "(II)Z"⟩
abbrev cX11_isClimate : ByteArray := prog_1_method_47_code
def yX11_isClimate : MethodName := ⟨RX11, "isClimate", "(I)Z"⟩
abbrev cX11_isWay : ByteArray := prog_1_method_48_code
def yX11_isWay : MethodName := ⟨RX11, "isWay", "(II)Z"⟩
abbrev cX11_need : ByteArray := prog_1_method_49_code
def yX11_need : MethodName := ⟨RX11, "need", "(Z)V"⟩
abbrev cX11_allow : ByteArray := prog_1_method_50_code
def yX11_allow : MethodName := ⟨RX11, "allow", "(Z)V"⟩
abbrev cX11_numberOf : ByteArray := prog_1_method_51_code
def yX11_numberOf : MethodName := ⟨RX11, "numberOf", "(II)I"⟩
abbrev cX11_waysThatCanBe : ByteArray := prog_1_method_52_code
def yX11_waysThatCanBe : MethodName := ⟨RX11, "waysThatCanBe", "(I)I"⟩
abbrev cX11_climatesThatCanBe : ByteArray := prog_1_method_53_code
def yX11_climatesThatCanBe : MethodName := ⟨RX11, "climatesThatCanBe", "(I)I"⟩
def RX12 : String := "WheelBookModel"
def TX12 : u_T := fun k => match k with
  | 0 => ("WheelBookModel", "thrown", "I", false)
  | 1 => ("WheelBookModel", "starts", "[I", true)
  | 2 => ("WheelBookModel", "goes", "[I", true)
  | 3 => ("WheelBookModel", "swing", "[I", true)
  | 4 => ("WheelBookModel", "period", "[I", true)
  | 5 => ("WheelBookModel", "climates", "I", false)
  | 6 => ("WheelBookModel", "hands", "I", false)
  | 7 => ("WheelBookModel", "rising", "[I", true)
  | 8 => ("WheelBookModel", "stood", "[I", true)
  | 9 => ("WheelBookModel", "read", "[I", true)
  | 10 => ("WheelBookModel", "entries", "[I", true)
  | 11 => ("WheelBookModel", "tape", "[I", true)
  | 12 => ("WheelBookModel", "taped", "I", false)
  | 13 => ("WheelBookModel", "faultKind", "I", false)
  | 14 => ("WheelBookModel", "faultPlace", "I", false)
  | 15 => ("WheelBookModel", "size", "I", false)
  | 16 => ("WheelBookModel", "next", "I", false)
  | 17 => ("WheelBookModel", "sort", "I", false)
  | 18 => ("WheelBookModel", "place", "I", false)
  | 19 => ("WheelBookModel", "long0", "I", false)
  | 20 => ("WheelBookModel", "value", "I", false)
  | 21 => ("WheelBookModel", "word", "J", false)
  | 22 => ("WheelBookModel", "asksWheel", "Z", false)
  | 23 => ("WheelBookModel", "newClimates", "I", false)
  | 24 => ("WheelBookModel", "newHands", "I", false)
  | 25 => ("WheelBookModel", "newStarts", "[I", true)
  | 26 => ("WheelBookModel", "newGoes", "[I", true)
  | 27 => ("WheelBookModel", "newSwing", "[I", true)
  | 28 => ("WheelBookModel", "newPeriod", "[I", true)
  | 29 => ("WheelBookModel", "newRising", "[I", true)
  | 30 => ("WheelBookModel", "newStood", "[I", true)
  | 31 => ("WheelBookModel", "newRead", "[I", true)
  | 32 => ("WheelBookModel", "newEntries", "[I", true)
  | 33 => ("WheelBookModel", "bestMany", "I", false)
  | 34 => ("WheelBookModel", "bestDay", "[I", true)
  | 35 => ("WheelBookModel", "seeks", "Z", false)
  | 36 => ("WheelBookModel", "hasImage", "Z", false)
  | 37 => ("WheelBookModel", "search", "[I", true)
  | 38 => ("WheelBookModel", "image", "[I", true)
  | 39 => ("WheelBookModel", "shared", "[I", true)
  | 40 => ("WheelBookModel", "alone", "[I", true)
  | 41 => ("WheelBookModel", "weigh", "[I", true)
  | 42 => ("WheelBookModel", "hasTree", "Z", false)
  | 43 => ("WheelBookModel", "whence", "[I", true)
  | 44 => ("WheelBookModel", "row", "[I", true)
  | 45 => ("WheelBookModel", "prices", "[I", true)
  | 46 => ("WheelBookModel", "inTree", "[Z", true)
  | 47 => ("WheelBookModel", "leaves", "[I", true)
  | 48 => ("WheelBookModel", "leaf", "[I", true)
  | 49 => ("WheelBookModel", "inOther", "[I", true)
  | 50 => ("WheelBookModel", "longest", "[I", true)
  | 51 => ("WheelBookModel", "part", "[I", true)
  | 52 => ("WheelBookModel", "foretold", "[I", true)
  | 53 => ("WheelBookModel", "came", "[I", true)
  | 54 => ("WheelBookModel", "fate", "[I", true)
  | 55 => ("WheelBookModel", "asked", "I", false)
  | 56 => ("WheelBookModel", "who", "[I", true)
  | _ => ("WheelBookModel", "turn", "[I", true)
def tyX12 : Nat → FieldType := fun k => match k with
  | 0 => .int
  | 1 => .array .int
  | 2 => .array .int
  | 3 => .array .int
  | 4 => .array .int
  | 5 => .int
  | 6 => .int
  | 7 => .array .int
  | 8 => .array .int
  | 9 => .array .int
  | 10 => .array .int
  | 11 => .array .int
  | 12 => .int
  | 13 => .int
  | 14 => .int
  | 15 => .int
  | 16 => .int
  | 17 => .int
  | 18 => .int
  | 19 => .int
  | 20 => .int
  | 21 => .long
  | 22 => .boolean
  | 23 => .int
  | 24 => .int
  | 25 => .array .int
  | 26 => .array .int
  | 27 => .array .int
  | 28 => .array .int
  | 29 => .array .int
  | 30 => .array .int
  | 31 => .array .int
  | 32 => .array .int
  | 33 => .int
  | 34 => .array .int
  | 35 => .boolean
  | 36 => .boolean
  | 37 => .array .int
  | 38 => .array .int
  | 39 => .array .int
  | 40 => .array .int
  | 41 => .array .int
  | 42 => .boolean
  | 43 => .array .int
  | 44 => .array .int
  | 45 => .array .int
  | 46 => .array .boolean
  | 47 => .array .int
  | 48 => .array .int
  | 49 => .array .int
  | 50 => .array .int
  | 51 => .array .int
  | 52 => .array .int
  | 53 => .array .int
  | 54 => .array .int
  | 55 => .int
  | 56 => .array .int
  | _ => .array .int
abbrev wsX120 : List Cond := u_ws RX12 TX12 58
theorem nmX12 : ∀ a, a < 58 → ∀ b, b < 58 → a ≠ b → (TX12 a).2.1 ≠ (TX12 b).2.1 := nm_of [409466922039150, 408418665002099, 6030321011, 1595436265063, 405055990230884, 25610961099456537971, 1547822851187, 407272210132583, 1595386326884, 6214213988, 100608013100475763, 6247510117, 1599362590052, 6610957016828710841956, 1692404996308171499856741, 6231259749, 6147111028, 6231650932, 1582366286693, 1565237602096, 1607952266597, 6298759780, 6520017525975592297836, 442946009014642900078978419, 26401639543285376115, 6758819735257071383667, 103131404450096499, 26401639590898789991, 6758819731894396612452, 6758819734110616514151, 26401639590848851812, 103131404633989476, 1730257848278645134157171, 25536944205425897081, 99753688301855097, 1595134012275, 25968163685599897445, 408354240488296, 1552318293861, 408367125390692, 1517942697573, 1612314142568, 101438139581752677, 412765238748005, 24276855, 405111673415027, 397397560812901, 400657659356531, 6113550694, 101733754127017330, 102579411494466420, 6180401780, 25827988168063806564, 5962296677, 6012630117, 1518059873636, 24602735, 6248821358] (by decide +kernel) (by decide +kernel)
theorem tyX12_ok : ∀ k, k < 58 → parseFieldDescriptor (TX12 k).2.2.1 = some (tyX12 k) := by decide +kernel
