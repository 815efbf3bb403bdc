/-! instructions by their bytes -/
noncomputable def z_nth (l : List UInt8) : Nat → Nat := List.rec (motive := fun _ => Nat → Nat) (fun _ => 256) (fun a _ ih n => Nat.rec (motive := fun _ => Nat) a.toNat (fun m _ => ih m) n) l
theorem z_nth_g : ∀ (l : List UInt8) (p b : Nat), z_nth l p = b → b < 256 → ∃ h : p < l.length, (l[p]'h).toNat = b
  | [], p, b, h, hb => by
    have e : (256 : Nat) = b := h
    omega
  | a :: t, 0, b, h, hb => ⟨Nat.succ_pos _, h⟩
  | a :: t, p + 1, b, h, hb => by
    obtain ⟨h1, h2⟩ := z_nth_g t p b h hb
    exact ⟨Nat.succ_lt_succ h1, h2⟩
noncomputable def z_bt (c : ByteArray) (p : Nat) : Nat := z_nth c.data.toList p
abbrev z_Rd (α : Type) := Jvm.ClassFile.Reader Jvm.ClassFile.DecodeError α
theorem z_dk {P : Prop} [Decidable P] {α : Type} (t : P → z_Rd α) (e : ¬ P → z_Rd α) (hp : P) (c : ByteArray) (p : Nat) : (dite P t e) c p = t hp c p := by rw [dif_pos hp]
theorem z_ru1 {c : ByteArray} {p b : Nat} (h : z_bt c p = b) (hb : b < 256) : (Jvm.ClassFile.Reader.u1 : z_Rd Nat) c p = .ok (b, p + 1) := by
  obtain ⟨hl, e⟩ := z_nth_g _ _ _ h hb
  have hp : p < c.size := hl
  have e2 : (c[p]'hp).toNat = b := e
  refine (z_dk _ _ hp c p).trans ?_
  show (Except.ok ((c[p]'hp).toNat, p + 1) : Except Jvm.ClassFile.DecodeError (Nat × Nat)) = _
  rw [e2]
theorem z_bk {α β : Type} (r : z_Rd α) (k : α → z_Rd β) {c : ByteArray} {p q : Nat} {b : α} (h : r c p = .ok (b, q)) : (bind r k : z_Rd β) c p = k b c q := by
  have e : ∀ y : Except Jvm.ClassFile.DecodeError (α × Nat), y = .ok (b, q) → (bind (fun _ _ => y : z_Rd α) k : z_Rd β) c p = k b c q := fun y hy => by
    subst hy
    rfl
  exact e _ h
theorem z_mp {α β : Type} (f : α → β) (r : z_Rd α) {c : ByteArray} {p q : Nat} {b : α} (h : r c p = .ok (b, q)) : (f <$> r : z_Rd β) c p = .ok (f b, q) := by
  have e : ∀ y : Except Jvm.ClassFile.DecodeError (α × Nat), y = .ok (b, q) → (f <$> (fun _ _ => y : z_Rd α) : z_Rd β) c p = .ok (f b, q) := fun y hy => by
    subst hy
    rfl
  exact e _ h
theorem z_dec {c : ByteArray} {pc n : Nat} {i : Jvm.ClassFile.Instr} (e : Jvm.ClassFile.Decoder.instr pc c pc = .ok (i, pc + n)) : decode c pc = .ok (i, n) := by
  have e2 : ∀ y : Except Jvm.ClassFile.DecodeError (Jvm.ClassFile.Instr × Nat), y = .ok (i, pc + n) → (y.bind (fun x => .ok (x.1, x.2 - pc)) : Except Jvm.ClassFile.DecodeError (Jvm.ClassFile.Instr × Nat)) = .ok (i, n) := fun y hy => by
    subst hy
    show Except.ok (i, pc + n - pc) = _
    rw [Nat.add_sub_cancel_left]
  exact e2 _ e
theorem z_ru2 {c : ByteArray} {p a b : Nat} (h1 : (Jvm.ClassFile.Reader.u1 : z_Rd Nat) c p = .ok (a, p + 1)) (h2 : (Jvm.ClassFile.Reader.u1 : z_Rd Nat) c (p + 1) = .ok (b, p + 2)) : (Jvm.ClassFile.Reader.u2 : z_Rd Nat) c p = .ok (a * 256 + b, p + 2) :=
  (z_bk _ _ h1).trans ((z_bk _ _ h2).trans rfl)
noncomputable def z_b1 (c : ByteArray) (pc op : Nat) : Bool := Nat.beq (z_bt c pc) op
noncomputable def z_b2 (c : ByteArray) (pc op b : Nat) : Bool := Nat.beq (z_bt c pc) op && (Nat.beq (z_bt c (pc + 1)) b && Nat.ble b 255)
noncomputable def z_b2s (c : ByteArray) (pc op : Nat) (v : Int) : Bool := z_b2 c pc op (v % 256).toNat && decide (Jvm.ClassFile.Reader.signed 8 (v % 256).toNat = v)
noncomputable def z_b3 (c : ByteArray) (pc op n : Nat) : Bool := Nat.beq (z_bt c pc) op && ((Nat.beq (z_bt c (pc + 1)) (n / 256) && Nat.ble (n / 256) 255) && Nat.beq (z_bt c (pc + 2)) (n % 256))
noncomputable def z_b3s (c : ByteArray) (pc op : Nat) (v : Int) : Bool := z_b3 c pc op (v % 65536).toNat && decide (Jvm.ClassFile.Reader.signed 16 (v % 65536).toNat = v)
noncomputable def z_b3i (c : ByteArray) (pc op i : Nat) (v : Int) : Bool := z_b2 c pc op i && ((Nat.beq (z_bt c (pc + 2)) (v % 256).toNat && Nat.ble (v % 256).toNat 255) && decide (Jvm.ClassFile.Reader.signed 8 (v % 256).toNat = v))
theorem z_b1_u {c : ByteArray} {pc op : Nat} (h : z_b1 c pc op = true) (ho : op < 256) : (Jvm.ClassFile.Reader.u1 : z_Rd Nat) c pc = .ok (op, pc + 1) := z_ru1 (Nat.eq_of_beq_eq_true h) ho
theorem z_b2_u {c : ByteArray} {pc op b : Nat} (h : z_b2 c pc op b = true) (ho : op < 256) : (Jvm.ClassFile.Reader.u1 : z_Rd Nat) c pc = .ok (op, pc + 1) ∧ (Jvm.ClassFile.Reader.u1 : z_Rd Nat) c (pc + 1) = .ok (b, pc + 2) := by
  unfold z_b2 at h
  rw [Bool.and_eq_true, Bool.and_eq_true] at h
  have hb := Nat.le_of_ble_eq_true h.2.2
  exact ⟨z_ru1 (Nat.eq_of_beq_eq_true h.1) ho, z_ru1 (Nat.eq_of_beq_eq_true h.2.1) (by omega)⟩
theorem z_b3_u {c : ByteArray} {pc op n : Nat} (h : z_b3 c pc op n = true) (ho : op < 256) : (Jvm.ClassFile.Reader.u1 : z_Rd Nat) c pc = .ok (op, pc + 1) ∧ (Jvm.ClassFile.Reader.u2 : z_Rd Nat) c (pc + 1) = .ok (n, pc + 3) := by
  unfold z_b3 at h
  rw [Bool.and_eq_true, Bool.and_eq_true, Bool.and_eq_true] at h
  have hb := Nat.le_of_ble_eq_true h.2.1.2
  refine ⟨z_ru1 (Nat.eq_of_beq_eq_true h.1) ho, ?_⟩
  have q := z_ru2 (z_ru1 (Nat.eq_of_beq_eq_true h.2.1.1) (by omega)) (z_ru1 (p := pc + 1 + 1) (Nat.eq_of_beq_eq_true h.2.2) (by omega))
  rw [show n / 256 * 256 + n % 256 = n by omega] at q
  exact q
theorem z_b3i_u {c : ByteArray} {pc op i : Nat} {v : Int} (h : z_b3i c pc op i v = true) (ho : op < 256) : (Jvm.ClassFile.Reader.u1 : z_Rd Nat) c pc = .ok (op, pc + 1) ∧ (Jvm.ClassFile.Reader.u1 : z_Rd Nat) c (pc + 1) = .ok (i, pc + 2) ∧ (Jvm.ClassFile.Reader.s1 : z_Rd Int) c (pc + 2) = .ok (v, pc + 3) := by
  unfold z_b3i at h
  rw [Bool.and_eq_true, Bool.and_eq_true, Bool.and_eq_true] at h
  obtain ⟨q1, q2⟩ := z_b2_u h.1 ho
  have hb := Nat.le_of_ble_eq_true h.2.1.2
  have e := z_mp (Jvm.ClassFile.Reader.signed 8) _ (z_ru1 (Nat.eq_of_beq_eq_true h.2.1.1) (by omega))
  rw [of_decide_eq_true h.2.2] at e
  exact ⟨q1, q2, e⟩
theorem z_b2s_u {c : ByteArray} {pc op : Nat} {v : Int} (h : z_b2s c pc op v = true) (ho : op < 256) : (Jvm.ClassFile.Reader.u1 : z_Rd Nat) c pc = .ok (op, pc + 1) ∧ (Jvm.ClassFile.Reader.s1 : z_Rd Int) c (pc + 1) = .ok (v, pc + 2) := by
  unfold z_b2s at h
  rw [Bool.and_eq_true] at h
  obtain ⟨q1, q2⟩ := z_b2_u h.1 ho
  have e := z_mp (Jvm.ClassFile.Reader.signed 8) _ q2
  rw [of_decide_eq_true h.2] at e
  exact ⟨q1, e⟩
theorem z_b3s_u {c : ByteArray} {pc op : Nat} {v : Int} (h : z_b3s c pc op v = true) (ho : op < 256) : (Jvm.ClassFile.Reader.u1 : z_Rd Nat) c pc = .ok (op, pc + 1) ∧ (Jvm.ClassFile.Reader.s2 : z_Rd Int) c (pc + 1) = .ok (v, pc + 3) := by
  unfold z_b3s at h
  rw [Bool.and_eq_true] at h
  obtain ⟨q1, q2⟩ := z_b3_u h.1 ho
  have e := z_mp (Jvm.ClassFile.Reader.signed 16) _ q2
  rw [of_decide_eq_true h.2] at e
  exact ⟨q1, e⟩
theorem z_dd_1 {c : ByteArray} {pc : Nat} (h : z_b1 c pc 1 = true) : decode c pc = .ok (.aconst_null, 1) := z_dec (by
    unfold Jvm.ClassFile.Decoder.instr
    exact (z_bk _ _ (z_b1_u h (by decide))).trans rfl)
theorem z_dd_10 {c : ByteArray} {pc : Nat} (h : z_b1 c pc 10 = true) : decode c pc = .ok (.lconst 1, 1) := z_dec (by
    unfold Jvm.ClassFile.Decoder.instr
    exact (z_bk _ _ (z_b1_u h (by decide))).trans rfl)
theorem z_dd_100 {c : ByteArray} {pc : Nat} (h : z_b1 c pc 100 = true) : decode c pc = .ok (.isub, 1) := z_dec (by
    unfold Jvm.ClassFile.Decoder.instr
    exact (z_bk _ _ (z_b1_u h (by decide))).trans rfl)
theorem z_dd_101 {c : ByteArray} {pc : Nat} (h : z_b1 c pc 101 = true) : decode c pc = .ok (.lsub, 1) := z_dec (by
    unfold Jvm.ClassFile.Decoder.instr
    exact (z_bk _ _ (z_b1_u h (by decide))).trans rfl)
theorem z_dd_104 {c : ByteArray} {pc : Nat} (h : z_b1 c pc 104 = true) : decode c pc = .ok (.imul, 1) := z_dec (by
    unfold Jvm.ClassFile.Decoder.instr
    exact (z_bk _ _ (z_b1_u h (by decide))).trans rfl)
theorem z_dd_105 {c : ByteArray} {pc : Nat} (h : z_b1 c pc 105 = true) : decode c pc = .ok (.lmul, 1) := z_dec (by
    unfold Jvm.ClassFile.Decoder.instr
    exact (z_bk _ _ (z_b1_u h (by decide))).trans rfl)
theorem z_dd_108 {c : ByteArray} {pc : Nat} (h : z_b1 c pc 108 = true) : decode c pc = .ok (.idiv, 1) := z_dec (by
    unfold Jvm.ClassFile.Decoder.instr
    exact (z_bk _ _ (z_b1_u h (by decide))).trans rfl)
theorem z_dd_109 {c : ByteArray} {pc : Nat} (h : z_b1 c pc 109 = true) : decode c pc = .ok (.ldiv, 1) := z_dec (by
    unfold Jvm.ClassFile.Decoder.instr
    exact (z_bk _ _ (z_b1_u h (by decide))).trans rfl)
theorem z_dd_112 {c : ByteArray} {pc : Nat} (h : z_b1 c pc 112 = true) : decode c pc = .ok (.irem, 1) := z_dec (by
    unfold Jvm.ClassFile.Decoder.instr
    exact (z_bk _ _ (z_b1_u h (by decide))).trans rfl)
theorem z_dd_116 {c : ByteArray} {pc : Nat} (h : z_b1 c pc 116 = true) : decode c pc = .ok (.ineg, 1) := z_dec (by
    unfold Jvm.ClassFile.Decoder.instr
    exact (z_bk _ _ (z_b1_u h (by decide))).trans rfl)
theorem z_dd_120 {c : ByteArray} {pc : Nat} (h : z_b1 c pc 120 = true) : decode c pc = .ok (.ishl, 1) := z_dec (by
    unfold Jvm.ClassFile.Decoder.instr
    exact (z_bk _ _ (z_b1_u h (by decide))).trans rfl)
theorem z_dd_122 {c : ByteArray} {pc : Nat} (h : z_b1 c pc 122 = true) : decode c pc = .ok (.ishr, 1) := z_dec (by
    unfold Jvm.ClassFile.Decoder.instr
    exact (z_bk _ _ (z_b1_u h (by decide))).trans rfl)
theorem z_dd_124 {c : ByteArray} {pc : Nat} (h : z_b1 c pc 124 = true) : decode c pc = .ok (.iushr, 1) := z_dec (by
    unfold Jvm.ClassFile.Decoder.instr
    exact (z_bk _ _ (z_b1_u h (by decide))).trans rfl)
theorem z_dd_126 {c : ByteArray} {pc : Nat} (h : z_b1 c pc 126 = true) : decode c pc = .ok (.iand, 1) := z_dec (by
    unfold Jvm.ClassFile.Decoder.instr
    exact (z_bk _ _ (z_b1_u h (by decide))).trans rfl)
theorem z_dd_128 {c : ByteArray} {pc : Nat} (h : z_b1 c pc 128 = true) : decode c pc = .ok (.ior, 1) := z_dec (by
    unfold Jvm.ClassFile.Decoder.instr
    exact (z_bk _ _ (z_b1_u h (by decide))).trans rfl)
theorem z_dd_132 {c : ByteArray} {pc : Nat} {i : Nat} {v : Int} (h : z_b3i c pc 132 i v = true) : decode c pc = .ok (.iinc i v, 3) := z_dec (by
    unfold Jvm.ClassFile.Decoder.instr
    obtain ⟨q1, q2, q3⟩ := z_b3i_u h (by decide)
    refine (z_bk _ _ q1).trans (Eq.trans (b := (bind (Jvm.ClassFile.Reader.u1 : z_Rd Nat) (fun x => bind (Jvm.ClassFile.Reader.s1 : z_Rd Int) (fun y => pure (Jvm.ClassFile.Instr.iinc x y))) : z_Rd Jvm.ClassFile.Instr) c (pc + 1)) rfl ?_)
    exact (z_bk _ _ q2).trans ((z_bk _ _ q3).trans rfl))
theorem z_dd_133 {c : ByteArray} {pc : Nat} (h : z_b1 c pc 133 = true) : decode c pc = .ok (.i2l, 1) := z_dec (by
    unfold Jvm.ClassFile.Decoder.instr
    exact (z_bk _ _ (z_b1_u h (by decide))).trans rfl)
theorem z_dd_136 {c : ByteArray} {pc : Nat} (h : z_b1 c pc 136 = true) : decode c pc = .ok (.l2i, 1) := z_dec (by
    unfold Jvm.ClassFile.Decoder.instr
    exact (z_bk _ _ (z_b1_u h (by decide))).trans rfl)
theorem z_dd_145 {c : ByteArray} {pc : Nat} (h : z_b1 c pc 145 = true) : decode c pc = .ok (.i2b, 1) := z_dec (by
    unfold Jvm.ClassFile.Decoder.instr
    exact (z_bk _ _ (z_b1_u h (by decide))).trans rfl)
theorem z_dd_146 {c : ByteArray} {pc : Nat} (h : z_b1 c pc 146 = true) : decode c pc = .ok (.i2c, 1) := z_dec (by
    unfold Jvm.ClassFile.Decoder.instr
    exact (z_bk _ _ (z_b1_u h (by decide))).trans rfl)
theorem z_dd_148 {c : ByteArray} {pc : Nat} (h : z_b1 c pc 148 = true) : decode c pc = .ok (.lcmp, 1) := z_dec (by
    unfold Jvm.ClassFile.Decoder.instr
    exact (z_bk _ _ (z_b1_u h (by decide))).trans rfl)
theorem z_dd_153 {c : ByteArray} {pc : Nat} {v : Int} (h : z_b3s c pc 153 v = true) : decode c pc = .ok (.ifCond .eq v, 3) := z_dec (by
    unfold Jvm.ClassFile.Decoder.instr
    obtain ⟨q1, q2⟩ := z_b3s_u h (by decide)
    refine (z_bk _ _ q1).trans (Eq.trans (b := (bind (Jvm.ClassFile.Reader.s2 : z_Rd Int) (fun x => pure (Jvm.ClassFile.Instr.ifCond .eq x)) : z_Rd Jvm.ClassFile.Instr) c (pc + 1)) rfl ?_)
    exact (z_bk _ _ q2).trans rfl)
theorem z_dd_154 {c : ByteArray} {pc : Nat} {v : Int} (h : z_b3s c pc 154 v = true) : decode c pc = .ok (.ifCond .ne v, 3) := z_dec (by
    unfold Jvm.ClassFile.Decoder.instr
    obtain ⟨q1, q2⟩ := z_b3s_u h (by decide)
    refine (z_bk _ _ q1).trans (Eq.trans (b := (bind (Jvm.ClassFile.Reader.s2 : z_Rd Int) (fun x => pure (Jvm.ClassFile.Instr.ifCond .ne x)) : z_Rd Jvm.ClassFile.Instr) c (pc + 1)) rfl ?_)
    exact (z_bk _ _ q2).trans rfl)
theorem z_dd_155 {c : ByteArray} {pc : Nat} {v : Int} (h : z_b3s c pc 155 v = true) : decode c pc = .ok (.ifCond .lt v, 3) := z_dec (by
    unfold Jvm.ClassFile.Decoder.instr
    obtain ⟨q1, q2⟩ := z_b3s_u h (by decide)
    refine (z_bk _ _ q1).trans (Eq.trans (b := (bind (Jvm.ClassFile.Reader.s2 : z_Rd Int) (fun x => pure (Jvm.ClassFile.Instr.ifCond .lt x)) : z_Rd Jvm.ClassFile.Instr) c (pc + 1)) rfl ?_)
    exact (z_bk _ _ q2).trans rfl)
theorem z_dd_156 {c : ByteArray} {pc : Nat} {v : Int} (h : z_b3s c pc 156 v = true) : decode c pc = .ok (.ifCond .ge v, 3) := z_dec (by
    unfold Jvm.ClassFile.Decoder.instr
    obtain ⟨q1, q2⟩ := z_b3s_u h (by decide)
    refine (z_bk _ _ q1).trans (Eq.trans (b := (bind (Jvm.ClassFile.Reader.s2 : z_Rd Int) (fun x => pure (Jvm.ClassFile.Instr.ifCond .ge x)) : z_Rd Jvm.ClassFile.Instr) c (pc + 1)) rfl ?_)
    exact (z_bk _ _ q2).trans rfl)
theorem z_dd_157 {c : ByteArray} {pc : Nat} {v : Int} (h : z_b3s c pc 157 v = true) : decode c pc = .ok (.ifCond .gt v, 3) := z_dec (by
    unfold Jvm.ClassFile.Decoder.instr
    obtain ⟨q1, q2⟩ := z_b3s_u h (by decide)
    refine (z_bk _ _ q1).trans (Eq.trans (b := (bind (Jvm.ClassFile.Reader.s2 : z_Rd Int) (fun x => pure (Jvm.ClassFile.Instr.ifCond .gt x)) : z_Rd Jvm.ClassFile.Instr) c (pc + 1)) rfl ?_)
    exact (z_bk _ _ q2).trans rfl)
theorem z_dd_158 {c : ByteArray} {pc : Nat} {v : Int} (h : z_b3s c pc 158 v = true) : decode c pc = .ok (.ifCond .le v, 3) := z_dec (by
    unfold Jvm.ClassFile.Decoder.instr
    obtain ⟨q1, q2⟩ := z_b3s_u h (by decide)
    refine (z_bk _ _ q1).trans (Eq.trans (b := (bind (Jvm.ClassFile.Reader.s2 : z_Rd Int) (fun x => pure (Jvm.ClassFile.Instr.ifCond .le x)) : z_Rd Jvm.ClassFile.Instr) c (pc + 1)) rfl ?_)
    exact (z_bk _ _ q2).trans rfl)
theorem z_dd_159 {c : ByteArray} {pc : Nat} {v : Int} (h : z_b3s c pc 159 v = true) : decode c pc = .ok (.if_icmp .eq v, 3) := z_dec (by
    unfold Jvm.ClassFile.Decoder.instr
    obtain ⟨q1, q2⟩ := z_b3s_u h (by decide)
    refine (z_bk _ _ q1).trans (Eq.trans (b := (bind (Jvm.ClassFile.Reader.s2 : z_Rd Int) (fun x => pure (Jvm.ClassFile.Instr.if_icmp .eq x)) : z_Rd Jvm.ClassFile.Instr) c (pc + 1)) rfl ?_)
    exact (z_bk _ _ q2).trans rfl)
theorem z_dd_16 {c : ByteArray} {pc : Nat} {v : Int} (h : z_b2s c pc 16 v = true) : decode c pc = .ok (.bipush v, 2) := z_dec (by
    unfold Jvm.ClassFile.Decoder.instr
    obtain ⟨q1, q2⟩ := z_b2s_u h (by decide)
    refine (z_bk _ _ q1).trans (Eq.trans (b := (bind (Jvm.ClassFile.Reader.s1 : z_Rd Int) (fun x => pure (Jvm.ClassFile.Instr.bipush x)) : z_Rd Jvm.ClassFile.Instr) c (pc + 1)) rfl ?_)
    exact (z_bk _ _ q2).trans rfl)
theorem z_dd_160 {c : ByteArray} {pc : Nat} {v : Int} (h : z_b3s c pc 160 v = true) : decode c pc = .ok (.if_icmp .ne v, 3) := z_dec (by
    unfold Jvm.ClassFile.Decoder.instr
    obtain ⟨q1, q2⟩ := z_b3s_u h (by decide)
    refine (z_bk _ _ q1).trans (Eq.trans (b := (bind (Jvm.ClassFile.Reader.s2 : z_Rd Int) (fun x => pure (Jvm.ClassFile.Instr.if_icmp .ne x)) : z_Rd Jvm.ClassFile.Instr) c (pc + 1)) rfl ?_)
    exact (z_bk _ _ q2).trans rfl)
theorem z_dd_161 {c : ByteArray} {pc : Nat} {v : Int} (h : z_b3s c pc 161 v = true) : decode c pc = .ok (.if_icmp .lt v, 3) := z_dec (by
    unfold Jvm.ClassFile.Decoder.instr
    obtain ⟨q1, q2⟩ := z_b3s_u h (by decide)
    refine (z_bk _ _ q1).trans (Eq.trans (b := (bind (Jvm.ClassFile.Reader.s2 : z_Rd Int) (fun x => pure (Jvm.ClassFile.Instr.if_icmp .lt x)) : z_Rd Jvm.ClassFile.Instr) c (pc + 1)) rfl ?_)
    exact (z_bk _ _ q2).trans rfl)
theorem z_dd_162 {c : ByteArray} {pc : Nat} {v : Int} (h : z_b3s c pc 162 v = true) : decode c pc = .ok (.if_icmp .ge v, 3) := z_dec (by
    unfold Jvm.ClassFile.Decoder.instr
    obtain ⟨q1, q2⟩ := z_b3s_u h (by decide)
    refine (z_bk _ _ q1).trans (Eq.trans (b := (bind (Jvm.ClassFile.Reader.s2 : z_Rd Int) (fun x => pure (Jvm.ClassFile.Instr.if_icmp .ge x)) : z_Rd Jvm.ClassFile.Instr) c (pc + 1)) rfl ?_)
    exact (z_bk _ _ q2).trans rfl)
theorem z_dd_163 {c : ByteArray} {pc : Nat} {v : Int} (h : z_b3s c pc 163 v = true) : decode c pc = .ok (.if_icmp .gt v, 3) := z_dec (by
    unfold Jvm.ClassFile.Decoder.instr
    obtain ⟨q1, q2⟩ := z_b3s_u h (by decide)
    refine (z_bk _ _ q1).trans (Eq.trans (b := (bind (Jvm.ClassFile.Reader.s2 : z_Rd Int) (fun x => pure (Jvm.ClassFile.Instr.if_icmp .gt x)) : z_Rd Jvm.ClassFile.Instr) c (pc + 1)) rfl ?_)
    exact (z_bk _ _ q2).trans rfl)
theorem z_dd_164 {c : ByteArray} {pc : Nat} {v : Int} (h : z_b3s c pc 164 v = true) : decode c pc = .ok (.if_icmp .le v, 3) := z_dec (by
    unfold Jvm.ClassFile.Decoder.instr
    obtain ⟨q1, q2⟩ := z_b3s_u h (by decide)
    refine (z_bk _ _ q1).trans (Eq.trans (b := (bind (Jvm.ClassFile.Reader.s2 : z_Rd Int) (fun x => pure (Jvm.ClassFile.Instr.if_icmp .le x)) : z_Rd Jvm.ClassFile.Instr) c (pc + 1)) rfl ?_)
    exact (z_bk _ _ q2).trans rfl)
theorem z_dd_167 {c : ByteArray} {pc : Nat} {v : Int} (h : z_b3s c pc 167 v = true) : decode c pc = .ok (.goto v, 3) := z_dec (by
    unfold Jvm.ClassFile.Decoder.instr
    obtain ⟨q1, q2⟩ := z_b3s_u h (by decide)
    refine (z_bk _ _ q1).trans (Eq.trans (b := (bind (Jvm.ClassFile.Reader.s2 : z_Rd Int) (fun x => pure (Jvm.ClassFile.Instr.goto x)) : z_Rd Jvm.ClassFile.Instr) c (pc + 1)) rfl ?_)
    exact (z_bk _ _ q2).trans rfl)
theorem z_dd_17 {c : ByteArray} {pc : Nat} {v : Int} (h : z_b3s c pc 17 v = true) : decode c pc = .ok (.sipush v, 3) := z_dec (by
    unfold Jvm.ClassFile.Decoder.instr
    obtain ⟨q1, q2⟩ := z_b3s_u h (by decide)
    refine (z_bk _ _ q1).trans (Eq.trans (b := (bind (Jvm.ClassFile.Reader.s2 : z_Rd Int) (fun x => pure (Jvm.ClassFile.Instr.sipush x)) : z_Rd Jvm.ClassFile.Instr) c (pc + 1)) rfl ?_)
    exact (z_bk _ _ q2).trans rfl)
theorem z_dd_172 {c : ByteArray} {pc : Nat} (h : z_b1 c pc 172 = true) : decode c pc = .ok (.ireturn, 1) := z_dec (by
    unfold Jvm.ClassFile.Decoder.instr
    exact (z_bk _ _ (z_b1_u h (by decide))).trans rfl)
theorem z_dd_173 {c : ByteArray} {pc : Nat} (h : z_b1 c pc 173 = true) : decode c pc = .ok (.lreturn, 1) := z_dec (by
    unfold Jvm.ClassFile.Decoder.instr
    exact (z_bk _ _ (z_b1_u h (by decide))).trans rfl)
theorem z_dd_176 {c : ByteArray} {pc : Nat} (h : z_b1 c pc 176 = true) : decode c pc = .ok (.areturn, 1) := z_dec (by
    unfold Jvm.ClassFile.Decoder.instr
    exact (z_bk _ _ (z_b1_u h (by decide))).trans rfl)
theorem z_dd_177 {c : ByteArray} {pc : Nat} (h : z_b1 c pc 177 = true) : decode c pc = .ok (.return_, 1) := z_dec (by
    unfold Jvm.ClassFile.Decoder.instr
    exact (z_bk _ _ (z_b1_u h (by decide))).trans rfl)
theorem z_dd_178 {c : ByteArray} {pc : Nat} {n : Nat} (h : z_b3 c pc 178 n = true) : decode c pc = .ok (.getstatic n, 3) := z_dec (by
    unfold Jvm.ClassFile.Decoder.instr
    obtain ⟨q1, q2⟩ := z_b3_u h (by decide)
    refine (z_bk _ _ q1).trans (Eq.trans (b := (bind (Jvm.ClassFile.Reader.u2 : z_Rd Nat) (fun x => pure (Jvm.ClassFile.Instr.getstatic x)) : z_Rd Jvm.ClassFile.Instr) c (pc + 1)) rfl ?_)
    exact (z_bk _ _ q2).trans rfl)
theorem z_dd_18 {c : ByteArray} {pc : Nat} {n : Nat} (h : z_b2 c pc 18 n = true) : decode c pc = .ok (.ldc n, 2) := z_dec (by
    unfold Jvm.ClassFile.Decoder.instr
    obtain ⟨q1, q2⟩ := z_b2_u h (by decide)
    refine (z_bk _ _ q1).trans (Eq.trans (b := (bind (Jvm.ClassFile.Reader.u1 : z_Rd Nat) (fun x => pure (Jvm.ClassFile.Instr.ldc x)) : z_Rd Jvm.ClassFile.Instr) c (pc + 1)) rfl ?_)
    exact (z_bk _ _ q2).trans rfl)
theorem z_dd_180 {c : ByteArray} {pc : Nat} {n : Nat} (h : z_b3 c pc 180 n = true) : decode c pc = .ok (.getfield n, 3) := z_dec (by
    unfold Jvm.ClassFile.Decoder.instr
    obtain ⟨q1, q2⟩ := z_b3_u h (by decide)
    refine (z_bk _ _ q1).trans (Eq.trans (b := (bind (Jvm.ClassFile.Reader.u2 : z_Rd Nat) (fun x => pure (Jvm.ClassFile.Instr.getfield x)) : z_Rd Jvm.ClassFile.Instr) c (pc + 1)) rfl ?_)
    exact (z_bk _ _ q2).trans rfl)
theorem z_dd_181 {c : ByteArray} {pc : Nat} {n : Nat} (h : z_b3 c pc 181 n = true) : decode c pc = .ok (.putfield n, 3) := z_dec (by
    unfold Jvm.ClassFile.Decoder.instr
    obtain ⟨q1, q2⟩ := z_b3_u h (by decide)
    refine (z_bk _ _ q1).trans (Eq.trans (b := (bind (Jvm.ClassFile.Reader.u2 : z_Rd Nat) (fun x => pure (Jvm.ClassFile.Instr.putfield x)) : z_Rd Jvm.ClassFile.Instr) c (pc + 1)) rfl ?_)
    exact (z_bk _ _ q2).trans rfl)
theorem z_dd_182 {c : ByteArray} {pc : Nat} {n : Nat} (h : z_b3 c pc 182 n = true) : decode c pc = .ok (.invokevirtual n, 3) := z_dec (by
    unfold Jvm.ClassFile.Decoder.instr
    obtain ⟨q1, q2⟩ := z_b3_u h (by decide)
    refine (z_bk _ _ q1).trans (Eq.trans (b := (bind (Jvm.ClassFile.Reader.u2 : z_Rd Nat) (fun x => pure (Jvm.ClassFile.Instr.invokevirtual x)) : z_Rd Jvm.ClassFile.Instr) c (pc + 1)) rfl ?_)
    exact (z_bk _ _ q2).trans rfl)
theorem z_dd_183 {c : ByteArray} {pc : Nat} {n : Nat} (h : z_b3 c pc 183 n = true) : decode c pc = .ok (.invokespecial n, 3) := z_dec (by
    unfold Jvm.ClassFile.Decoder.instr
    obtain ⟨q1, q2⟩ := z_b3_u h (by decide)
    refine (z_bk _ _ q1).trans (Eq.trans (b := (bind (Jvm.ClassFile.Reader.u2 : z_Rd Nat) (fun x => pure (Jvm.ClassFile.Instr.invokespecial x)) : z_Rd Jvm.ClassFile.Instr) c (pc + 1)) rfl ?_)
    exact (z_bk _ _ q2).trans rfl)
theorem z_dd_184 {c : ByteArray} {pc : Nat} {n : Nat} (h : z_b3 c pc 184 n = true) : decode c pc = .ok (.invokestatic n, 3) := z_dec (by
    unfold Jvm.ClassFile.Decoder.instr
    obtain ⟨q1, q2⟩ := z_b3_u h (by decide)
    refine (z_bk _ _ q1).trans (Eq.trans (b := (bind (Jvm.ClassFile.Reader.u2 : z_Rd Nat) (fun x => pure (Jvm.ClassFile.Instr.invokestatic x)) : z_Rd Jvm.ClassFile.Instr) c (pc + 1)) rfl ?_)
    exact (z_bk _ _ q2).trans rfl)
theorem z_dd_187 {c : ByteArray} {pc : Nat} {n : Nat} (h : z_b3 c pc 187 n = true) : decode c pc = .ok (.new n, 3) := z_dec (by
    unfold Jvm.ClassFile.Decoder.instr
    obtain ⟨q1, q2⟩ := z_b3_u h (by decide)
    refine (z_bk _ _ q1).trans (Eq.trans (b := (bind (Jvm.ClassFile.Reader.u2 : z_Rd Nat) (fun x => pure (Jvm.ClassFile.Instr.new x)) : z_Rd Jvm.ClassFile.Instr) c (pc + 1)) rfl ?_)
    exact (z_bk _ _ q2).trans rfl)
theorem z_dd_188_boolean {c : ByteArray} {pc : Nat} (h : z_b2 c pc 188 4 = true) : decode c pc = .ok (.newarray .boolean, 2) := z_dec (by
    unfold Jvm.ClassFile.Decoder.instr
    obtain ⟨q1, q2⟩ := z_b2_u h (by decide)
    refine (z_bk _ _ q1).trans (Eq.trans (b := Jvm.ClassFile.Decoder.newarray pc c (pc + 1)) rfl ?_)
    unfold Jvm.ClassFile.Decoder.newarray
    exact (z_bk _ _ q2).trans rfl)
theorem z_dd_188_byte {c : ByteArray} {pc : Nat} (h : z_b2 c pc 188 8 = true) : decode c pc = .ok (.newarray .byte, 2) := z_dec (by
    unfold Jvm.ClassFile.Decoder.instr
    obtain ⟨q1, q2⟩ := z_b2_u h (by decide)
    refine (z_bk _ _ q1).trans (Eq.trans (b := Jvm.ClassFile.Decoder.newarray pc c (pc + 1)) rfl ?_)
    unfold Jvm.ClassFile.Decoder.newarray
    exact (z_bk _ _ q2).trans rfl)
theorem z_dd_188_int {c : ByteArray} {pc : Nat} (h : z_b2 c pc 188 10 = true) : decode c pc = .ok (.newarray .int, 2) := z_dec (by
    unfold Jvm.ClassFile.Decoder.instr
    obtain ⟨q1, q2⟩ := z_b2_u h (by decide)
    refine (z_bk _ _ q1).trans (Eq.trans (b := Jvm.ClassFile.Decoder.newarray pc c (pc + 1)) rfl ?_)
    unfold Jvm.ClassFile.Decoder.newarray
    exact (z_bk _ _ q2).trans rfl)
theorem z_dd_188_long {c : ByteArray} {pc : Nat} (h : z_b2 c pc 188 11 = true) : decode c pc = .ok (.newarray .long, 2) := z_dec (by
    unfold Jvm.ClassFile.Decoder.instr
    obtain ⟨q1, q2⟩ := z_b2_u h (by decide)
    refine (z_bk _ _ q1).trans (Eq.trans (b := Jvm.ClassFile.Decoder.newarray pc c (pc + 1)) rfl ?_)
    unfold Jvm.ClassFile.Decoder.newarray
    exact (z_bk _ _ q2).trans rfl)
theorem z_dd_189 {c : ByteArray} {pc : Nat} {n : Nat} (h : z_b3 c pc 189 n = true) : decode c pc = .ok (.anewarray n, 3) := z_dec (by
    unfold Jvm.ClassFile.Decoder.instr
    obtain ⟨q1, q2⟩ := z_b3_u h (by decide)
    refine (z_bk _ _ q1).trans (Eq.trans (b := (bind (Jvm.ClassFile.Reader.u2 : z_Rd Nat) (fun x => pure (Jvm.ClassFile.Instr.anewarray x)) : z_Rd Jvm.ClassFile.Instr) c (pc + 1)) rfl ?_)
    exact (z_bk _ _ q2).trans rfl)
theorem z_dd_19 {c : ByteArray} {pc : Nat} {n : Nat} (h : z_b3 c pc 19 n = true) : decode c pc = .ok (.ldc_w n, 3) := z_dec (by
    unfold Jvm.ClassFile.Decoder.instr
    obtain ⟨q1, q2⟩ := z_b3_u h (by decide)
    refine (z_bk _ _ q1).trans (Eq.trans (b := (bind (Jvm.ClassFile.Reader.u2 : z_Rd Nat) (fun x => pure (Jvm.ClassFile.Instr.ldc_w x)) : z_Rd Jvm.ClassFile.Instr) c (pc + 1)) rfl ?_)
    exact (z_bk _ _ q2).trans rfl)
theorem z_dd_190 {c : ByteArray} {pc : Nat} (h : z_b1 c pc 190 = true) : decode c pc = .ok (.arraylength, 1) := z_dec (by
    unfold Jvm.ClassFile.Decoder.instr
    exact (z_bk _ _ (z_b1_u h (by decide))).trans rfl)
theorem z_dd_192 {c : ByteArray} {pc : Nat} {n : Nat} (h : z_b3 c pc 192 n = true) : decode c pc = .ok (.checkcast n, 3) := z_dec (by
    unfold Jvm.ClassFile.Decoder.instr
    obtain ⟨q1, q2⟩ := z_b3_u h (by decide)
    refine (z_bk _ _ q1).trans (Eq.trans (b := (bind (Jvm.ClassFile.Reader.u2 : z_Rd Nat) (fun x => pure (Jvm.ClassFile.Instr.checkcast x)) : z_Rd Jvm.ClassFile.Instr) c (pc + 1)) rfl ?_)
    exact (z_bk _ _ q2).trans rfl)
theorem z_dd_198 {c : ByteArray} {pc : Nat} {v : Int} (h : z_b3s c pc 198 v = true) : decode c pc = .ok (.ifnull v, 3) := z_dec (by
    unfold Jvm.ClassFile.Decoder.instr
    obtain ⟨q1, q2⟩ := z_b3s_u h (by decide)
    refine (z_bk _ _ q1).trans (Eq.trans (b := (bind (Jvm.ClassFile.Reader.s2 : z_Rd Int) (fun x => pure (Jvm.ClassFile.Instr.ifnull x)) : z_Rd Jvm.ClassFile.Instr) c (pc + 1)) rfl ?_)
    exact (z_bk _ _ q2).trans rfl)
theorem z_dd_199 {c : ByteArray} {pc : Nat} {v : Int} (h : z_b3s c pc 199 v = true) : decode c pc = .ok (.ifnonnull v, 3) := z_dec (by
    unfold Jvm.ClassFile.Decoder.instr
    obtain ⟨q1, q2⟩ := z_b3s_u h (by decide)
    refine (z_bk _ _ q1).trans (Eq.trans (b := (bind (Jvm.ClassFile.Reader.s2 : z_Rd Int) (fun x => pure (Jvm.ClassFile.Instr.ifnonnull x)) : z_Rd Jvm.ClassFile.Instr) c (pc + 1)) rfl ?_)
    exact (z_bk _ _ q2).trans rfl)
theorem z_dd_2 {c : ByteArray} {pc : Nat} (h : z_b1 c pc 2 = true) : decode c pc = .ok (.iconst (-1), 1) := z_dec (by
    unfold Jvm.ClassFile.Decoder.instr
    exact (z_bk _ _ (z_b1_u h (by decide))).trans rfl)
theorem z_dd_20 {c : ByteArray} {pc : Nat} {n : Nat} (h : z_b3 c pc 20 n = true) : decode c pc = .ok (.ldc2_w n, 3) := z_dec (by
    unfold Jvm.ClassFile.Decoder.instr
    obtain ⟨q1, q2⟩ := z_b3_u h (by decide)
    refine (z_bk _ _ q1).trans (Eq.trans (b := (bind (Jvm.ClassFile.Reader.u2 : z_Rd Nat) (fun x => pure (Jvm.ClassFile.Instr.ldc2_w x)) : z_Rd Jvm.ClassFile.Instr) c (pc + 1)) rfl ?_)
    exact (z_bk _ _ q2).trans rfl)
theorem z_dd_21 {c : ByteArray} {pc : Nat} {n : Nat} (h : z_b2 c pc 21 n = true) : decode c pc = .ok (.iload n, 2) := z_dec (by
    unfold Jvm.ClassFile.Decoder.instr
    obtain ⟨q1, q2⟩ := z_b2_u h (by decide)
    refine (z_bk _ _ q1).trans (Eq.trans (b := (bind (Jvm.ClassFile.Reader.u1 : z_Rd Nat) (fun x => pure (Jvm.ClassFile.Instr.iload x)) : z_Rd Jvm.ClassFile.Instr) c (pc + 1)) rfl ?_)
    exact (z_bk _ _ q2).trans rfl)
theorem z_dd_22 {c : ByteArray} {pc : Nat} {n : Nat} (h : z_b2 c pc 22 n = true) : decode c pc = .ok (.lload n, 2) := z_dec (by
    unfold Jvm.ClassFile.Decoder.instr
    obtain ⟨q1, q2⟩ := z_b2_u h (by decide)
    refine (z_bk _ _ q1).trans (Eq.trans (b := (bind (Jvm.ClassFile.Reader.u1 : z_Rd Nat) (fun x => pure (Jvm.ClassFile.Instr.lload x)) : z_Rd Jvm.ClassFile.Instr) c (pc + 1)) rfl ?_)
    exact (z_bk _ _ q2).trans rfl)
theorem z_dd_25 {c : ByteArray} {pc : Nat} {n : Nat} (h : z_b2 c pc 25 n = true) : decode c pc = .ok (.aload n, 2) := z_dec (by
    unfold Jvm.ClassFile.Decoder.instr
    obtain ⟨q1, q2⟩ := z_b2_u h (by decide)
    refine (z_bk _ _ q1).trans (Eq.trans (b := (bind (Jvm.ClassFile.Reader.u1 : z_Rd Nat) (fun x => pure (Jvm.ClassFile.Instr.aload x)) : z_Rd Jvm.ClassFile.Instr) c (pc + 1)) rfl ?_)
    exact (z_bk _ _ q2).trans rfl)
theorem z_dd_26 {c : ByteArray} {pc : Nat} (h : z_b1 c pc 26 = true) : decode c pc = .ok (.iload_n 0, 1) := z_dec (by
    unfold Jvm.ClassFile.Decoder.instr
    exact (z_bk _ _ (z_b1_u h (by decide))).trans rfl)
theorem z_dd_27 {c : ByteArray} {pc : Nat} (h : z_b1 c pc 27 = true) : decode c pc = .ok (.iload_n 1, 1) := z_dec (by
    unfold Jvm.ClassFile.Decoder.instr
    exact (z_bk _ _ (z_b1_u h (by decide))).trans rfl)
theorem z_dd_28 {c : ByteArray} {pc : Nat} (h : z_b1 c pc 28 = true) : decode c pc = .ok (.iload_n 2, 1) := z_dec (by
    unfold Jvm.ClassFile.Decoder.instr
    exact (z_bk _ _ (z_b1_u h (by decide))).trans rfl)
theorem z_dd_29 {c : ByteArray} {pc : Nat} (h : z_b1 c pc 29 = true) : decode c pc = .ok (.iload_n 3, 1) := z_dec (by
    unfold Jvm.ClassFile.Decoder.instr
    exact (z_bk _ _ (z_b1_u h (by decide))).trans rfl)
theorem z_dd_3 {c : ByteArray} {pc : Nat} (h : z_b1 c pc 3 = true) : decode c pc = .ok (.iconst 0, 1) := z_dec (by
    unfold Jvm.ClassFile.Decoder.instr
    exact (z_bk _ _ (z_b1_u h (by decide))).trans rfl)
theorem z_dd_30 {c : ByteArray} {pc : Nat} (h : z_b1 c pc 30 = true) : decode c pc = .ok (.lload_n 0, 1) := z_dec (by
    unfold Jvm.ClassFile.Decoder.instr
    exact (z_bk _ _ (z_b1_u h (by decide))).trans rfl)
theorem z_dd_31 {c : ByteArray} {pc : Nat} (h : z_b1 c pc 31 = true) : decode c pc = .ok (.lload_n 1, 1) := z_dec (by
    unfold Jvm.ClassFile.Decoder.instr
    exact (z_bk _ _ (z_b1_u h (by decide))).trans rfl)
theorem z_dd_32 {c : ByteArray} {pc : Nat} (h : z_b1 c pc 32 = true) : decode c pc = .ok (.lload_n 2, 1) := z_dec (by
    unfold Jvm.ClassFile.Decoder.instr
    exact (z_bk _ _ (z_b1_u h (by decide))).trans rfl)
theorem z_dd_33 {c : ByteArray} {pc : Nat} (h : z_b1 c pc 33 = true) : decode c pc = .ok (.lload_n 3, 1) := z_dec (by
    unfold Jvm.ClassFile.Decoder.instr
    exact (z_bk _ _ (z_b1_u h (by decide))).trans rfl)
theorem z_dd_4 {c : ByteArray} {pc : Nat} (h : z_b1 c pc 4 = true) : decode c pc = .ok (.iconst 1, 1) := z_dec (by
    unfold Jvm.ClassFile.Decoder.instr
    exact (z_bk _ _ (z_b1_u h (by decide))).trans rfl)
theorem z_dd_42 {c : ByteArray} {pc : Nat} (h : z_b1 c pc 42 = true) : decode c pc = .ok (.aload_n 0, 1) := z_dec (by
    unfold Jvm.ClassFile.Decoder.instr
    exact (z_bk _ _ (z_b1_u h (by decide))).trans rfl)
theorem z_dd_43 {c : ByteArray} {pc : Nat} (h : z_b1 c pc 43 = true) : decode c pc = .ok (.aload_n 1, 1) := z_dec (by
    unfold Jvm.ClassFile.Decoder.instr
    exact (z_bk _ _ (z_b1_u h (by decide))).trans rfl)
theorem z_dd_44 {c : ByteArray} {pc : Nat} (h : z_b1 c pc 44 = true) : decode c pc = .ok (.aload_n 2, 1) := z_dec (by
    unfold Jvm.ClassFile.Decoder.instr
    exact (z_bk _ _ (z_b1_u h (by decide))).trans rfl)
theorem z_dd_45 {c : ByteArray} {pc : Nat} (h : z_b1 c pc 45 = true) : decode c pc = .ok (.aload_n 3, 1) := z_dec (by
    unfold Jvm.ClassFile.Decoder.instr
    exact (z_bk _ _ (z_b1_u h (by decide))).trans rfl)
theorem z_dd_46 {c : ByteArray} {pc : Nat} (h : z_b1 c pc 46 = true) : decode c pc = .ok (.iaload, 1) := z_dec (by
    unfold Jvm.ClassFile.Decoder.instr
    exact (z_bk _ _ (z_b1_u h (by decide))).trans rfl)
theorem z_dd_47 {c : ByteArray} {pc : Nat} (h : z_b1 c pc 47 = true) : decode c pc = .ok (.laload, 1) := z_dec (by
    unfold Jvm.ClassFile.Decoder.instr
    exact (z_bk _ _ (z_b1_u h (by decide))).trans rfl)
theorem z_dd_5 {c : ByteArray} {pc : Nat} (h : z_b1 c pc 5 = true) : decode c pc = .ok (.iconst 2, 1) := z_dec (by
    unfold Jvm.ClassFile.Decoder.instr
    exact (z_bk _ _ (z_b1_u h (by decide))).trans rfl)
theorem z_dd_50 {c : ByteArray} {pc : Nat} (h : z_b1 c pc 50 = true) : decode c pc = .ok (.aaload, 1) := z_dec (by
    unfold Jvm.ClassFile.Decoder.instr
    exact (z_bk _ _ (z_b1_u h (by decide))).trans rfl)
theorem z_dd_51 {c : ByteArray} {pc : Nat} (h : z_b1 c pc 51 = true) : decode c pc = .ok (.baload, 1) := z_dec (by
    unfold Jvm.ClassFile.Decoder.instr
    exact (z_bk _ _ (z_b1_u h (by decide))).trans rfl)
theorem z_dd_54 {c : ByteArray} {pc : Nat} {n : Nat} (h : z_b2 c pc 54 n = true) : decode c pc = .ok (.istore n, 2) := z_dec (by
    unfold Jvm.ClassFile.Decoder.instr
    obtain ⟨q1, q2⟩ := z_b2_u h (by decide)
    refine (z_bk _ _ q1).trans (Eq.trans (b := (bind (Jvm.ClassFile.Reader.u1 : z_Rd Nat) (fun x => pure (Jvm.ClassFile.Instr.istore x)) : z_Rd Jvm.ClassFile.Instr) c (pc + 1)) rfl ?_)
    exact (z_bk _ _ q2).trans rfl)
theorem z_dd_55 {c : ByteArray} {pc : Nat} {n : Nat} (h : z_b2 c pc 55 n = true) : decode c pc = .ok (.lstore n, 2) := z_dec (by
    unfold Jvm.ClassFile.Decoder.instr
    obtain ⟨q1, q2⟩ := z_b2_u h (by decide)
    refine (z_bk _ _ q1).trans (Eq.trans (b := (bind (Jvm.ClassFile.Reader.u1 : z_Rd Nat) (fun x => pure (Jvm.ClassFile.Instr.lstore x)) : z_Rd Jvm.ClassFile.Instr) c (pc + 1)) rfl ?_)
    exact (z_bk _ _ q2).trans rfl)
theorem z_dd_58 {c : ByteArray} {pc : Nat} {n : Nat} (h : z_b2 c pc 58 n = true) : decode c pc = .ok (.astore n, 2) := z_dec (by
    unfold Jvm.ClassFile.Decoder.instr
    obtain ⟨q1, q2⟩ := z_b2_u h (by decide)
    refine (z_bk _ _ q1).trans (Eq.trans (b := (bind (Jvm.ClassFile.Reader.u1 : z_Rd Nat) (fun x => pure (Jvm.ClassFile.Instr.astore x)) : z_Rd Jvm.ClassFile.Instr) c (pc + 1)) rfl ?_)
    exact (z_bk _ _ q2).trans rfl)
theorem z_dd_59 {c : ByteArray} {pc : Nat} (h : z_b1 c pc 59 = true) : decode c pc = .ok (.istore_n 0, 1) := z_dec (by
    unfold Jvm.ClassFile.Decoder.instr
    exact (z_bk _ _ (z_b1_u h (by decide))).trans rfl)
theorem z_dd_6 {c : ByteArray} {pc : Nat} (h : z_b1 c pc 6 = true) : decode c pc = .ok (.iconst 3, 1) := z_dec (by
    unfold Jvm.ClassFile.Decoder.instr
    exact (z_bk _ _ (z_b1_u h (by decide))).trans rfl)
theorem z_dd_60 {c : ByteArray} {pc : Nat} (h : z_b1 c pc 60 = true) : decode c pc = .ok (.istore_n 1, 1) := z_dec (by
    unfold Jvm.ClassFile.Decoder.instr
    exact (z_bk _ _ (z_b1_u h (by decide))).trans rfl)
theorem z_dd_61 {c : ByteArray} {pc : Nat} (h : z_b1 c pc 61 = true) : decode c pc = .ok (.istore_n 2, 1) := z_dec (by
    unfold Jvm.ClassFile.Decoder.instr
    exact (z_bk _ _ (z_b1_u h (by decide))).trans rfl)
theorem z_dd_62 {c : ByteArray} {pc : Nat} (h : z_b1 c pc 62 = true) : decode c pc = .ok (.istore_n 3, 1) := z_dec (by
    unfold Jvm.ClassFile.Decoder.instr
    exact (z_bk _ _ (z_b1_u h (by decide))).trans rfl)
theorem z_dd_65 {c : ByteArray} {pc : Nat} (h : z_b1 c pc 65 = true) : decode c pc = .ok (.lstore_n 2, 1) := z_dec (by
    unfold Jvm.ClassFile.Decoder.instr
    exact (z_bk _ _ (z_b1_u h (by decide))).trans rfl)
theorem z_dd_66 {c : ByteArray} {pc : Nat} (h : z_b1 c pc 66 = true) : decode c pc = .ok (.lstore_n 3, 1) := z_dec (by
    unfold Jvm.ClassFile.Decoder.instr
    exact (z_bk _ _ (z_b1_u h (by decide))).trans rfl)
theorem z_dd_7 {c : ByteArray} {pc : Nat} (h : z_b1 c pc 7 = true) : decode c pc = .ok (.iconst 4, 1) := z_dec (by
    unfold Jvm.ClassFile.Decoder.instr
    exact (z_bk _ _ (z_b1_u h (by decide))).trans rfl)
theorem z_dd_76 {c : ByteArray} {pc : Nat} (h : z_b1 c pc 76 = true) : decode c pc = .ok (.astore_n 1, 1) := z_dec (by
    unfold Jvm.ClassFile.Decoder.instr
    exact (z_bk _ _ (z_b1_u h (by decide))).trans rfl)
theorem z_dd_77 {c : ByteArray} {pc : Nat} (h : z_b1 c pc 77 = true) : decode c pc = .ok (.astore_n 2, 1) := z_dec (by
    unfold Jvm.ClassFile.Decoder.instr
    exact (z_bk _ _ (z_b1_u h (by decide))).trans rfl)
theorem z_dd_78 {c : ByteArray} {pc : Nat} (h : z_b1 c pc 78 = true) : decode c pc = .ok (.astore_n 3, 1) := z_dec (by
    unfold Jvm.ClassFile.Decoder.instr
    exact (z_bk _ _ (z_b1_u h (by decide))).trans rfl)
theorem z_dd_79 {c : ByteArray} {pc : Nat} (h : z_b1 c pc 79 = true) : decode c pc = .ok (.iastore, 1) := z_dec (by
    unfold Jvm.ClassFile.Decoder.instr
    exact (z_bk _ _ (z_b1_u h (by decide))).trans rfl)
theorem z_dd_8 {c : ByteArray} {pc : Nat} (h : z_b1 c pc 8 = true) : decode c pc = .ok (.iconst 5, 1) := z_dec (by
    unfold Jvm.ClassFile.Decoder.instr
    exact (z_bk _ _ (z_b1_u h (by decide))).trans rfl)
theorem z_dd_80 {c : ByteArray} {pc : Nat} (h : z_b1 c pc 80 = true) : decode c pc = .ok (.lastore, 1) := z_dec (by
    unfold Jvm.ClassFile.Decoder.instr
    exact (z_bk _ _ (z_b1_u h (by decide))).trans rfl)
theorem z_dd_83 {c : ByteArray} {pc : Nat} (h : z_b1 c pc 83 = true) : decode c pc = .ok (.aastore, 1) := z_dec (by
    unfold Jvm.ClassFile.Decoder.instr
    exact (z_bk _ _ (z_b1_u h (by decide))).trans rfl)
theorem z_dd_84 {c : ByteArray} {pc : Nat} (h : z_b1 c pc 84 = true) : decode c pc = .ok (.bastore, 1) := z_dec (by
    unfold Jvm.ClassFile.Decoder.instr
    exact (z_bk _ _ (z_b1_u h (by decide))).trans rfl)
theorem z_dd_87 {c : ByteArray} {pc : Nat} (h : z_b1 c pc 87 = true) : decode c pc = .ok (.pop, 1) := z_dec (by
    unfold Jvm.ClassFile.Decoder.instr
    exact (z_bk _ _ (z_b1_u h (by decide))).trans rfl)
theorem z_dd_88 {c : ByteArray} {pc : Nat} (h : z_b1 c pc 88 = true) : decode c pc = .ok (.pop2, 1) := z_dec (by
    unfold Jvm.ClassFile.Decoder.instr
    exact (z_bk _ _ (z_b1_u h (by decide))).trans rfl)
theorem z_dd_89 {c : ByteArray} {pc : Nat} (h : z_b1 c pc 89 = true) : decode c pc = .ok (.dup, 1) := z_dec (by
    unfold Jvm.ClassFile.Decoder.instr
    exact (z_bk _ _ (z_b1_u h (by decide))).trans rfl)
theorem z_dd_9 {c : ByteArray} {pc : Nat} (h : z_b1 c pc 9 = true) : decode c pc = .ok (.lconst 0, 1) := z_dec (by
    unfold Jvm.ClassFile.Decoder.instr
    exact (z_bk _ _ (z_b1_u h (by decide))).trans rfl)
theorem z_dd_92 {c : ByteArray} {pc : Nat} (h : z_b1 c pc 92 = true) : decode c pc = .ok (.dup2, 1) := z_dec (by
    unfold Jvm.ClassFile.Decoder.instr
    exact (z_bk _ _ (z_b1_u h (by decide))).trans rfl)
theorem z_dd_96 {c : ByteArray} {pc : Nat} (h : z_b1 c pc 96 = true) : decode c pc = .ok (.iadd, 1) := z_dec (by
    unfold Jvm.ClassFile.Decoder.instr
    exact (z_bk _ _ (z_b1_u h (by decide))).trans rfl)
theorem z_dd_97 {c : ByteArray} {pc : Nat} (h : z_b1 c pc 97 = true) : decode c pc = .ok (.ladd, 1) := z_dec (by
    unfold Jvm.ClassFile.Decoder.instr
    exact (z_bk _ _ (z_b1_u h (by decide))).trans rfl)
