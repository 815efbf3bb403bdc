

/-! loads over roads: which sendings are best, and that all the best tell the same -/
noncomputable def zy_S (f : Nat → Int) : Nat → Int
  | 0 => 0
  | n + 1 => zy_S f n + f n
theorem zy_S_s {f : Nat → Int} {n : Nat} : zy_S f (n + 1) = zy_S f n + f n := rfl
theorem zy_S_c {f g : Nat → Int} : ∀ n : Nat, (∀ v, v < n → f v = g v) → zy_S f n = zy_S g n
  | 0, _ => rfl
  | n + 1, h => by rw [zy_S_s, zy_S_s, zy_S_c n (fun v hv => h v (by omega)), h n (Nat.lt_succ_self n)]
theorem zy_S_a {f g : Nat → Int} : ∀ n : Nat, zy_S (fun v => f v + g v) n = zy_S f n + zy_S g n
  | 0 => rfl
  | n + 1 => by
    rw [zy_S_s, zy_S_s, zy_S_s, zy_S_a (f := f) (g := g) n]
    omega
theorem zy_S_m {f : Nat → Int} {k : Int} : ∀ n : Nat, zy_S (fun v => k * f v) n = k * zy_S f n
  | 0 => (Int.mul_zero k).symm
  | n + 1 => by rw [zy_S_s, zy_S_s, zy_S_m (f := f) (k := k) n, Int.mul_add]
theorem zy_S_z : ∀ n : Nat, zy_S (fun _ => 0) n = 0
  | 0 => rfl
  | n + 1 => by
    rw [zy_S_s, zy_S_z n]
    rfl
theorem zy_S_w {f : Nat → Nat → Int} {m : Nat} : ∀ n : Nat, zy_S (fun a => zy_S (fun b => f a b) m) n = zy_S (fun b => zy_S (fun a => f a b) n) m
  | 0 => by
    show (0 : Int) = zy_S (fun _ => 0) m
    exact (zy_S_z m).symm
  | n + 1 => by
    have e := zy_S_w (f := f) (m := m) n
    have e2 := zy_S_a (f := fun b => zy_S (fun a => f a b) n) (g := fun b => f n b) m
    show zy_S (fun a => zy_S (fun b => f a b) m) n + zy_S (fun b => f n b) m = zy_S (fun b => zy_S (fun a => f a b) n + f n b) m
    rw [e2, e]
theorem zy_S_n {f : Nat → Int} : ∀ n : Nat, (∀ v, v < n → f v ≤ 0) → zy_S f n ≤ 0
  | 0, _ => Int.le_refl 0
  | n + 1, h => by
    have h1 := zy_S_n n (fun v hv => h v (by omega))
    have h2 := h n (Nat.lt_succ_self n)
    rw [zy_S_s]
    omega
theorem zy_S_p {f : Nat → Int} : ∀ n : Nat, (∀ v, v < n → 0 ≤ f v) → 0 ≤ zy_S f n
  | 0, _ => Int.le_refl 0
  | n + 1, h => by
    have h1 := zy_S_p n (fun v hv => h v (by omega))
    have h2 := h n (Nat.lt_succ_self n)
    rw [zy_S_s]
    omega
theorem zy_S_at {f : Nat → Int} {x : Nat} : ∀ n : Nat, (∀ v, v < n → 0 ≤ f v) → x < n → f x ≤ zy_S f n
  | 0, _, hx => absurd hx (by omega)
  | n + 1, h, hx => by
    have h1 := zy_S_p n (fun v hv => h v (by omega))
    have h2 := h n (Nat.lt_succ_self n)
    rw [zy_S_s]
    by_cases e : x = n
    · subst e
      omega
    · have h3 := zy_S_at (f := f) (x := x) n (fun v hv => h v (by omega)) (by omega)
      omega
theorem zy_S_b {f : Nat → Int} {B : Int} : ∀ n : Nat, (∀ v, v < n → -B ≤ f v ∧ f v ≤ B) → -(B * (n : Int)) ≤ zy_S f n ∧ zy_S f n ≤ B * (n : Int)
  | 0, _ => by
    rw [show B * ((0 : Nat) : Int) = 0 from Int.mul_zero B]
    exact ⟨Int.le_refl 0, Int.le_refl 0⟩
  | n + 1, h => by
    have h1 := zy_S_b n (fun v hv => h v (by omega))
    have h2 := h n (Nat.lt_succ_self n)
    have e : B * ((n + 1 : Nat) : Int) = B * (n : Int) + B := by
      rw [show ((n + 1 : Nat) : Int) = (n : Int) + 1 from rfl, Int.mul_add, Int.mul_one]
    rw [zy_S_s, e]
    omega
theorem zy_S_2 {f : Nat → Int} (h : ∀ v, 0 < v → v < 15 → f v = 0) : zy_S f 16 = f 0 + f 15 := by
  have h1 := h 1 (by decide) (by decide)
  have h2 := h 2 (by decide) (by decide)
  have h3 := h 3 (by decide) (by decide)
  have h4 := h 4 (by decide) (by decide)
  have h5 := h 5 (by decide) (by decide)
  have h6 := h 6 (by decide) (by decide)
  have h7 := h 7 (by decide) (by decide)
  have h8 := h 8 (by decide) (by decide)
  have h9 := h 9 (by decide) (by decide)
  have h10 := h 10 (by decide) (by decide)
  have h11 := h 11 (by decide) (by decide)
  have h12 := h 12 (by decide) (by decide)
  have h13 := h 13 (by decide) (by decide)
  have h14 := h 14 (by decide) (by decide)
  show 0 + f 0 + f 1 + f 2 + f 3 + f 4 + f 5 + f 6 + f 7 + f 8 + f 9 + f 10 + f 11 + f 12 + f 13 + f 14 + f 15 = f 0 + f 15
  omega
theorem zy_S_u {f g : Nat → Int} {x : Nat} {d : Int} : ∀ n : Nat, x < n → g x = f x + d → (∀ v, v < n → v ≠ x → g v = f v) → zy_S g n = zy_S f n + d
  | 0, hx, _, _ => absurd hx (by omega)
  | n + 1, hx, h1, h2 => by
    rw [zy_S_s, zy_S_s]
    by_cases e : x = n
    · subst e
      rw [h1, zy_S_c (f := g) (g := f) x (fun v hv => h2 v (by omega) (by omega))]
      omega
    · rw [zy_S_u (f := f) (g := g) n (by omega) h1 (fun v hv q => h2 v (by omega) q), h2 n (by omega) (fun q => e q.symm)]
      omega
theorem zy_l3 {f g h : Nat → Int} {p : Int} : ∀ n : Nat, zy_S (fun v => f v + (p * g v + -1 * h v)) n = zy_S f n + (p * zy_S g n + -1 * zy_S h n)
  | 0 => by
    show (0 : Int) = 0 + (p * 0 + -1 * 0)
    rw [Int.mul_zero]
    rfl
  | n + 1 => by
    rw [zy_S_s, zy_S_s, zy_S_s, zy_S_s, zy_l3 (f := f) (g := g) (h := h) (p := p) n, Int.mul_add p]
    omega
theorem zy_l4 {f g h : Nat → Int} : ∀ n : Nat, zy_S (fun v => f v + (g v + -1 * h v)) n = zy_S f n + (zy_S g n + -1 * zy_S h n)
  | 0 => rfl
  | n + 1 => by
    rw [zy_S_s, zy_S_s, zy_S_s, zy_S_s, zy_l4 (f := f) (g := g) (h := h) n]
    omega
/-- no other sending is better -/
theorem zy_dl {D C : Nat → Nat → Int} {pi : Nat → Int} (hD : ∀ a b, a < 16 → b < 16 → D a b = -1 * D b a) (ho : ∀ v, 0 < v → v < 15 → zy_S (D v) 16 = 0) (hk : ∀ a b, a < 16 → b < 16 → D a b * (C a b + pi a - pi b) ≤ 0) : zy_S (fun a => zy_S (fun b => D a b * C a b) 16) 16 + 2 * ((pi 0 - pi 15) * zy_S (D 0) 16) ≤ 0 := by
  have e1 : ∀ a b, D a b * (C a b + pi a - pi b) = D a b * C a b + (pi a * D a b + -1 * (pi b * D a b)) := fun a b => by
    rw [Int.mul_sub, Int.mul_add, Int.mul_comm (pi a), Int.mul_comm (pi b)]
    omega
  have e2 : zy_S (fun a => zy_S (fun b => D a b * (C a b + pi a - pi b)) 16) 16 ≤ 0 := zy_S_n 16 (fun a ha => zy_S_n 16 (fun b hb => hk a b ha hb))
  have e3 : ∀ a, zy_S (fun b => D a b * (C a b + pi a - pi b)) 16 = zy_S (fun b => D a b * C a b) 16 + (pi a * zy_S (D a) 16 + -1 * zy_S (fun b => pi b * D a b) 16) := fun a => (zy_S_c 16 (fun b _ => e1 a b)).trans (zy_l3 (f := fun b => D a b * C a b) (g := D a) (h := fun b => pi b * D a b) (p := pi a) 16)
  have e4 : zy_S (fun a => zy_S (fun b => D a b * (C a b + pi a - pi b)) 16) 16 = zy_S (fun a => zy_S (fun b => D a b * C a b) 16) 16 + (zy_S (fun a => pi a * zy_S (D a) 16) 16 + -1 * zy_S (fun a => zy_S (fun b => pi b * D a b) 16) 16) := (zy_S_c 16 (fun a _ => e3 a)).trans (zy_l4 (f := fun a => zy_S (fun b => D a b * C a b) 16) (g := fun a => pi a * zy_S (D a) 16) (h := fun a => zy_S (fun b => pi b * D a b) 16) 16)
  have e6 : ∀ b, b < 16 → zy_S (fun a => D a b) 16 = -1 * zy_S (D b) 16 := fun b hb => (zy_S_c 16 (fun a ha => hD a b ha hb)).trans (zy_S_m (f := D b) (k := -1) 16)
  have e5 : zy_S (fun a => zy_S (fun b => pi b * D a b) 16) 16 = zy_S (fun b => pi b * (-1 * zy_S (D b) 16)) 16 := (zy_S_w (f := fun a b => pi b * D a b) (m := 16) 16).trans (zy_S_c 16 (fun b hb => (zy_S_m (f := fun a => D a b) (k := pi b) 16).trans (congrArg (fun z => pi b * z) (e6 b hb))))
  have e7 : zy_S (D 15) 16 = -1 * zy_S (D 0) 16 := by
    have s1 : zy_S (fun a => zy_S (D a) 16) 16 = zy_S (D 0) 16 + zy_S (D 15) 16 := zy_S_2 (f := fun a => zy_S (D a) 16) ho
    have s2 : zy_S (fun a => zy_S (D a) 16) 16 = -1 * zy_S (fun a => zy_S (D a) 16) 16 := (zy_S_w (f := D) (m := 16) 16).trans ((zy_S_c 16 (fun b hb => e6 b hb)).trans (zy_S_m (f := fun b => zy_S (D b) 16) (k := -1) 16))
    omega
  have e8 : zy_S (fun a => pi a * zy_S (D a) 16) 16 = pi 0 * zy_S (D 0) 16 + pi 15 * zy_S (D 15) 16 := zy_S_2 (f := fun a => pi a * zy_S (D a) 16) (fun v h1 h2 => by
    show pi v * zy_S (D v) 16 = 0
    rw [ho v h1 h2, Int.mul_zero])
  have e9 : zy_S (fun b => pi b * (-1 * zy_S (D b) 16)) 16 = pi 0 * (-1 * zy_S (D 0) 16) + pi 15 * (-1 * zy_S (D 15) 16) := zy_S_2 (f := fun b => pi b * (-1 * zy_S (D b) 16)) (fun v h1 h2 => by
    show pi v * (-1 * zy_S (D v) 16) = 0
    rw [ho v h1 h2]
    exact Int.mul_zero _)
  rw [e4, e8, e5, e9, e7] at e2
  have m1 : ∀ y z : Int, y * (-1 * z) = -1 * (y * z) := fun y z => Int.mul_left_comm y (-1) z
  have a1 := m1 (pi 15) (zy_S (D 0) 16)
  have a2 := m1 (pi 0) (zy_S (D 0) 16)
  have a3 := m1 (pi 15) (-1 * zy_S (D 0) 16)
  have a4 := Int.sub_mul (pi 0) (pi 15) (zy_S (D 0) 16)
  omega
/-- miles of a sending, twice and from below -/
noncomputable def zy_Q (R C : Nat → Nat → Int) : Int := zy_S (fun a => zy_S (fun b => R a b * C a b) 16) 16
noncomputable def zy_fe (R0 R : Nat → Nat → Int) : Prop := (∀ a b, a < 16 → b < 16 → 0 ≤ R a b ∧ R a b + R b a = R0 a b + R0 b a) ∧ ∀ v, 0 < v → v < 15 → zy_S (R v) 16 = zy_S (R0 v) 16
noncomputable def zy_op (R C : Nat → Nat → Int) : Prop := ∃ pi : Nat → Int, z_pt R C pi ∧ pi 0 + 100000000 ≤ pi 15
theorem zy_one {R0 R1 R2 C : Nat → Nat → Int} {pi : Nat → Int} (hC : ∀ a b, a < 16 → b < 16 → C a b + C b a = 0) (hp : z_pt R1 C pi) (f1 : zy_fe R0 R1) (f2 : zy_fe R0 R2) : (zy_Q R2 C - zy_Q R1 C) + 2 * ((pi 0 - pi 15) * (zy_S (R2 0) 16 - zy_S (R1 0) 16)) ≤ 0 := by
  have l1 : ∀ v, zy_S (fun b => R2 v b + -1 * R1 v b) 16 = zy_S (R2 v) 16 + -1 * zy_S (R1 v) 16 := fun v => (zy_S_a (f := R2 v) (g := fun b => -1 * R1 v b) 16).trans (congrArg (fun z => zy_S (R2 v) 16 + z) (zy_S_m (f := R1 v) (k := -1) 16))
  have l2 : ∀ a, zy_S (fun b => (R2 a b + -1 * R1 a b) * C a b) 16 = zy_S (fun b => R2 a b * C a b) 16 + -1 * zy_S (fun b => R1 a b * C a b) 16 := fun a => (zy_S_c 16 (fun b _ => show (R2 a b + -1 * R1 a b) * C a b = R2 a b * C a b + -1 * (R1 a b * C a b) by rw [Int.add_mul, Int.mul_assoc])).trans ((zy_S_a (f := fun b => R2 a b * C a b) (g := fun b => -1 * (R1 a b * C a b)) 16).trans (congrArg (fun z => zy_S (fun b => R2 a b * C a b) 16 + z) (zy_S_m (f := fun b => R1 a b * C a b) (k := -1) 16)))
  have l3 : zy_S (fun a => zy_S (fun b => (R2 a b + -1 * R1 a b) * C a b) 16) 16 = zy_Q R2 C + -1 * zy_Q R1 C := (zy_S_c 16 (fun a _ => l2 a)).trans ((zy_S_a (f := fun a => zy_S (fun b => R2 a b * C a b) 16) (g := fun a => -1 * zy_S (fun b => R1 a b * C a b) 16) 16).trans (congrArg (fun z => zy_Q R2 C + z) (zy_S_m (f := fun a => zy_S (fun b => R1 a b * C a b) 16) (k := -1) 16)))
  have k := zy_dl (D := fun a b => R2 a b + -1 * R1 a b) (C := C) (pi := pi) (fun a b ha hb => by
      have q1 := (f1.1 a b ha hb).2
      have q2 := (f2.1 a b ha hb).2
      show R2 a b + -1 * R1 a b = -1 * (R2 b a + -1 * R1 b a)
      omega) (fun v h1 h2 => by
      have q1 := f1.2 v h1 h2
      have q2 := f2.2 v h1 h2
      have q3 := l1 v
      show zy_S (fun b => R2 v b + -1 * R1 v b) 16 = 0
      omega) (fun a b ha hb => by
      have q1 := f1.1 a b ha hb
      have q2 := f2.1 a b ha hb
      have q3 := f1.1 b a hb ha
      have q4 := f2.1 b a hb ha
      have q5 := hC a b ha hb
      show (R2 a b + -1 * R1 a b) * (C a b + pi a - pi b) ≤ 0
      by_cases e : R2 a b + -1 * R1 a b = 0
      · rw [e, Int.zero_mul]
        exact Int.le_refl 0
      · by_cases e2 : R2 a b + -1 * R1 a b < 0
        · have q6 := hp a b ha hb (by omega)
          have q7 := Int.mul_nonneg (show 0 ≤ -(R2 a b + -1 * R1 a b) by omega) q6
          rw [Int.neg_mul] at q7
          omega
        · have q6 := hp b a hb ha (by omega)
          have q7 := Int.mul_nonneg (show 0 ≤ R2 a b + -1 * R1 a b by omega) (show 0 ≤ -(C a b + pi a - pi b) by omega)
          rw [Int.mul_neg] at q7
          omega)
  have l4 := l1 0
  have e : zy_S (R2 0) 16 - zy_S (R1 0) 16 = zy_S (fun b => R2 0 b + -1 * R1 0 b) 16 := by omega
  rw [e]
  have k2 : zy_S (fun a => zy_S (fun b => (R2 a b + -1 * R1 a b) * C a b) 16) 16 + 2 * ((pi 0 - pi 15) * zy_S (fun b => R2 0 b + -1 * R1 0 b) 16) ≤ 0 := k
  rw [l3] at k2
  omega
theorem zy_rc {r c : Int} (hr : 0 ≤ r ∧ r ≤ 100) (hc : -999 ≤ c ∧ c ≤ 999) : -99900 ≤ r * c ∧ r * c ≤ 99900 := by
  have h1 := Int.mul_nonneg hr.1 (show 0 ≤ 999 - c by omega)
  have h2 := Int.mul_nonneg hr.1 (show 0 ≤ c + 999 by omega)
  rw [Int.mul_sub] at h1
  rw [Int.mul_add] at h2
  omega
theorem zy_Q_b {R C : Nat → Nat → Int} (hR : ∀ a b, a < 16 → b < 16 → 0 ≤ R a b ∧ R a b ≤ 100) (hC : ∀ a b, a < 16 → b < 16 → -999 ≤ C a b ∧ C a b ≤ 999) : -25574400 ≤ zy_Q R C ∧ zy_Q R C ≤ 25574400 := by
  have h := zy_S_b (f := fun a => zy_S (fun b => R a b * C a b) 16) (B := 1598400) 16 (fun a ha => by
    have h2 := zy_S_b (f := fun b => R a b * C a b) (B := 99900) 16 (fun b hb => zy_rc (hR a b ha hb) (hC a b ha hb))
    have e : (99900 : Int) * ((16 : Nat) : Int) = 1598400 := by decide
    rw [e] at h2
    exact h2)
  have e : (1598400 : Int) * ((16 : Nat) : Int) = 25574400 := by decide
  rw [e] at h
  exact h
theorem zy_h {R0 R1 R2 C : Nat → Nat → Int} (hC : ∀ a b, a < 16 → b < 16 → C a b + C b a = 0 ∧ -999 ≤ C a b ∧ C a b ≤ 999) (hR : ∀ a b, a < 16 → b < 16 → R0 a b + R0 b a ≤ 100) (f1 : zy_fe R0 R1) (f2 : zy_fe R0 R2) (o1 : zy_op R1 C) : zy_S (R1 0) 16 ≤ zy_S (R2 0) 16 ∧ (zy_S (R1 0) 16 = zy_S (R2 0) 16 → zy_Q R2 C ≤ zy_Q R1 C) := by
  obtain ⟨pi, hp, hk⟩ := o1
  have h := zy_one (fun a b ha hb => (hC a b ha hb).1) hp f1 f2
  have bd : ∀ R, zy_fe R0 R → -25574400 ≤ zy_Q R C ∧ zy_Q R C ≤ 25574400 := fun R f => zy_Q_b (fun a b ha hb => by
    have q1 := f.1 a b ha hb
    have q2 := f.1 b a hb ha
    have q3 := hR a b ha hb
    omega) (fun a b ha hb => (hC a b ha hb).2)
  have b1 := bd R1 f1
  have b2 := bd R2 f2
  constructor
  · refine Int.not_lt.mp fun hl => ?_
    have e : (pi 0 - pi 15) * (zy_S (R2 0) 16 - zy_S (R1 0) 16) = (pi 15 - pi 0) * (zy_S (R1 0) 16 - zy_S (R2 0) 16) := by
      rw [show pi 0 - pi 15 = -(pi 15 - pi 0) by omega, show zy_S (R2 0) 16 - zy_S (R1 0) 16 = -(zy_S (R1 0) 16 - zy_S (R2 0) 16) by omega, Int.neg_mul_neg]
    have g := Int.mul_le_mul_of_nonneg_right (show (100000000 : Int) ≤ pi 15 - pi 0 by omega) (show 0 ≤ zy_S (R1 0) 16 - zy_S (R2 0) 16 by omega)
    rw [e] at h
    omega
  · intro he
    rw [show zy_S (R2 0) 16 - zy_S (R1 0) 16 = 0 by omega, Int.mul_zero] at h
    omega
/-- two sendings that can't be bettered tell the same -/
theorem zy_u {R0 R1 R2 C : Nat → Nat → Int} (hC : ∀ a b, a < 16 → b < 16 → C a b + C b a = 0 ∧ -999 ≤ C a b ∧ C a b ≤ 999) (hR : ∀ a b, a < 16 → b < 16 → R0 a b + R0 b a ≤ 100) (f1 : zy_fe R0 R1) (f2 : zy_fe R0 R2) (o1 : zy_op R1 C) (o2 : zy_op R2 C) : zy_S (R1 0) 16 = zy_S (R2 0) 16 ∧ zy_Q R1 C = zy_Q R2 C := by
  have h1 := zy_h hC hR f1 f2 o1
  have h2 := zy_h hC hR f2 f1 o2
  have e : zy_S (R1 0) 16 = zy_S (R2 0) 16 := by omega
  have q1 := h1.2 e
  have q2 := h2.2 e.symm
  exact ⟨e, by omega⟩
/-! one step: n more from u to v -/
noncomputable def zy_sp (R R' : Nat → Nat → Int) (u v : Nat) (n : Int) : Prop := R' u v = R u v - n ∧ R' v u = R v u + n ∧ ∀ a b, a < 16 → b < 16 → ¬ (a = u ∧ b = v) → ¬ (a = v ∧ b = u) → R' a b = R a b
theorem zy_sp_o {R R' : Nat → Nat → Int} {u v : Nat} {n : Int} (h : zy_sp R R' u v n) (hu : u < 16) (hv : v < 16) (huv : u ≠ v) : ∀ w, w < 16 → zy_S (R' w) 16 = zy_S (R w) 16 + (if w = v then n else 0) - (if w = u then n else 0) := fun w hw => by
  obtain ⟨h1, h2, h3⟩ := h
  by_cases e1 : w = u
  · subst e1
    rw [if_neg huv, if_pos rfl, zy_S_u (f := R w) (g := R' w) (x := v) (d := -n) 16 hv (by omega) (fun b hb q => h3 w b hw hb (fun z => q z.2) (fun z => huv z.1))]
    omega
  · by_cases e2 : w = v
    · subst e2
      rw [if_pos rfl, if_neg e1, zy_S_u (f := R w) (g := R' w) (x := u) (d := n) 16 hu h2 (fun b hb q => h3 w b hw hb (fun z => e1 z.1) (fun z => q z.2))]
      omega
    · rw [if_neg e2, if_neg e1, zy_S_c (f := R' w) (g := R w) 16 (fun b hb => h3 w b hw hb (fun z => e1 z.1) (fun z => e2 z.1))]
      omega
theorem zy_sp_q {R R' C : Nat → Nat → Int} {u v : Nat} {n : Int} (h : zy_sp R R' u v n) (hu : u < 16) (hv : v < 16) (huv : u ≠ v) (hC : C u v + C v u = 0) : zy_Q R' C = zy_Q R C - 2 * (n * C u v) := by
  obtain ⟨h1, h2, h3⟩ := h
  have r1 : zy_S (fun b => R' u b * C u b) 16 = zy_S (fun b => R u b * C u b) 16 + -(n * C u v) := zy_S_u (f := fun b => R u b * C u b) (g := fun b => R' u b * C u b) (x := v) 16 hv (by
      show R' u v * C u v = R u v * C u v + -(n * C u v)
      rw [h1, Int.sub_mul]
      omega) (fun b hb q => by
      show R' u b * C u b = R u b * C u b
      rw [h3 u b hu hb (fun z => q z.2) (fun z => huv z.1)])
  have r2 : zy_S (fun b => R' v b * C v b) 16 = zy_S (fun b => R v b * C v b) 16 + -(n * C u v) := zy_S_u (f := fun b => R v b * C v b) (g := fun b => R' v b * C v b) (x := u) 16 hu (by
      show R' v u * C v u = R v u * C v u + -(n * C u v)
      rw [h2, Int.add_mul, show C v u = -C u v by omega, Int.mul_neg n]) (fun b hb q => by
      show R' v b * C v b = R v b * C v b
      rw [h3 v b hv hb (fun z => huv z.1.symm) (fun z => q z.2)])
  have s1 : zy_S (fun a => if a = u then zy_S (fun b => R' u b * C u b) 16 else zy_S (fun b => R a b * C a b) 16) 16 = zy_Q R C + -(n * C u v) := zy_S_u (f := fun a => zy_S (fun b => R a b * C a b) 16) (x := u) 16 hu (by
      show (if u = u then zy_S (fun b => R' u b * C u b) 16 else zy_S (fun b => R u b * C u b) 16) = zy_S (fun b => R u b * C u b) 16 + -(n * C u v)
      rw [if_pos rfl, r1]) (fun a _ q => if_neg q)
  have s2 : zy_Q R' C = zy_S (fun a => if a = u then zy_S (fun b => R' u b * C u b) 16 else zy_S (fun b => R a b * C a b) 16) 16 + -(n * C u v) := zy_S_u (f := fun a => if a = u then zy_S (fun b => R' u b * C u b) 16 else zy_S (fun b => R a b * C a b) 16) (g := fun a => zy_S (fun b => R' a b * C a b) 16) (x := v) 16 hv (by
      show zy_S (fun b => R' v b * C v b) 16 = (if v = u then zy_S (fun b => R' u b * C u b) 16 else zy_S (fun b => R v b * C v b) 16) + -(n * C u v)
      rw [if_neg (fun z => huv z.symm), r2]) (fun a ha q => by
      show zy_S (fun b => R' a b * C a b) 16 = (if a = u then zy_S (fun b => R' u b * C u b) 16 else zy_S (fun b => R a b * C a b) 16)
      by_cases e : a = u
      · subst e
        rw [if_pos rfl]
      · rw [if_neg e]
        exact zy_S_c 16 (fun b hb => by rw [h3 a b ha hb (fun z => e z.1) (fun z => q z.1)]))
  rw [s2, s1]
  omega
theorem zy_sp_U {R R' : Nat → Nat → Int} {u v : Nat} {n : Int} (h : zy_sp R R' u v n) (huv : u ≠ v) : ∀ a b, a < 16 → b < 16 → R' a b + R' b a = R a b + R b a := fun a b ha hb => by
  obtain ⟨h1, h2, h3⟩ := h
  by_cases e1 : a = u ∧ b = v
  · obtain ⟨rfl, rfl⟩ := e1
    omega
  · by_cases e2 : a = v ∧ b = u
    · obtain ⟨rfl, rfl⟩ := e2
      omega
    · rw [h3 a b ha hb e1 e2, h3 b a hb ha (fun z => e2 ⟨z.2, z.1⟩) (fun z => e1 ⟨z.2, z.1⟩)]
/-! what finds() leaves -/
noncomputable def zy_pi (pi F : Nat → Int) (D : Int) (v : Nat) : Int := pi v + (if F v < 1000000 ∧ F v - pi v + pi 0 ≤ D then F v - pi v + pi 0 else D)
theorem zy_cut {R C : Nat → Nat → Int} {pi F : Nat → Int} {D : Int} (hp : z_pt R C pi) (h0 : F 0 = 0) (hlo : ∀ v, v < 16 → F v < 1000000 → -pi 0 ≤ F v - pi v) (hcv : ∀ a x, a < 16 → x < 16 → a ≠ 15 → x ≠ 0 → F a < 1000000 → 0 < R a x → F x ≤ F a + C a x) (hB : ∀ v, v < 16 → F v < 1000000 → F v ≤ 700000) (hC : ∀ a b, a < 16 → b < 16 → C a b ≤ 999) (hD : 0 ≤ D) (h15 : F 15 < 1000000 → D = F 15 - pi 15 + pi 0) : z_pt R C (zy_pi pi F D) := fun a x ha hx hr => by
  have q := hp a x ha hx hr
  have qc := hC a x ha hx
  show 0 ≤ C a x + (pi a + (if F a < 1000000 ∧ F a - pi a + pi 0 ≤ D then F a - pi a + pi 0 else D)) - (pi x + (if F x < 1000000 ∧ F x - pi x + pi 0 ≤ D then F x - pi x + pi 0 else D))
  by_cases ea : F a < 1000000 ∧ F a - pi a + pi 0 ≤ D
  · have qa := hlo a ha ea.1
    have qb := hB a ha ea.1
    rw [if_pos ea]
    by_cases e15 : a = 15
    · subst e15
      have := h15 ea.1
      by_cases ex : F x < 1000000 ∧ F x - pi x + pi 0 ≤ D
      · rw [if_pos ex]
        omega
      · rw [if_neg ex]
        omega
    · by_cases e0 : x = 0
      · subst e0
        rw [if_pos (show F 0 < 1000000 ∧ F 0 - pi 0 + pi 0 ≤ D from ⟨by omega, by omega⟩)]
        omega
      · have qx := hcv a x ha hx e15 e0 ea.1 hr
        by_cases ex : F x < 1000000 ∧ F x - pi x + pi 0 ≤ D
        · rw [if_pos ex]
          omega
        · rw [if_neg ex]
          have : ¬ F x - pi x + pi 0 ≤ D := fun z => ex ⟨by omega, z⟩
          omega
  · rw [if_neg ea]
    by_cases ex : F x < 1000000 ∧ F x - pi x + pi 0 ≤ D
    · rw [if_pos ex]
      omega
    · rw [if_neg ex]
      omega
/-- no way leads on: nothing is better -/
theorem zy_nop {R C : Nat → Nat → Int} {pi F : Nat → Int} (hp : z_pt R C pi) (h0 : F 0 = 0) (hlo : ∀ v, v < 16 → F v < 1000000 → -pi 0 ≤ F v - pi v) (hcv : ∀ a x, a < 16 → x < 16 → a ≠ 15 → x ≠ 0 → F a < 1000000 → 0 < R a x → F x ≤ F a + C a x) (hB : ∀ v, v < 16 → F v < 1000000 → F v ≤ 700000) (hC : ∀ a b, a < 16 → b < 16 → C a b ≤ 999) (h15 : ¬ F 15 < 1000000) : zy_op R C := by
  have hk : ∃ D : Int, 0 ≤ D ∧ 100000000 + pi 0 - pi 15 ≤ D := by
    by_cases e : 0 ≤ 100000000 + pi 0 - pi 15
    · exact ⟨_, e, Int.le_refl _⟩
    · exact ⟨0, Int.le_refl 0, by omega⟩
  obtain ⟨D, hD, hK⟩ := hk
  refine ⟨zy_pi pi F D, zy_cut hp h0 hlo hcv hB hC hD (fun z => absurd z h15), ?_⟩
  show (pi 0 + (if F 0 < 1000000 ∧ F 0 - pi 0 + pi 0 ≤ D then F 0 - pi 0 + pi 0 else D)) + 100000000 ≤ pi 15 + (if F 15 < 1000000 ∧ F 15 - pi 15 + pi 0 ≤ D then F 15 - pi 15 + pi 0 else D)
  rw [if_pos (show F 0 < 1000000 ∧ F 0 - pi 0 + pi 0 ≤ D from ⟨by omega, by omega⟩), if_neg (show ¬ (F 15 < 1000000 ∧ F 15 - pi 15 + pi 0 ≤ D) from fun z => h15 z.1)]
  omega
/-- the rounds of looking are over: what they told is right -/
theorem zy_cvF {R C : Nat → Nat → Int} {pi F d : Nat → Int} {b h rk : Nat → Nat} (hp : z_pt R C pi) (ht : z_tr R C pi F b h) (hd : z_cvd R C d rk) (hs : ∀ v, v < 16 → d v < 1000000 → F v ≤ d v) : z_cvg R C F := fun a x ha hx hf hr => by
  have hge := z_ge hp ht hd
  obtain ⟨t0, t1, t2, t3⟩ := ht
  obtain ⟨d0, d1, d2, d3, d4⟩ := hd
  have he : ∀ v, v < 16 → F v = d v := fun v hv => by
    have q1 := hge v hv
    have q2 := t1 v hv
    by_cases hf : d v < 1000000
    · have := hs v hv hf
      omega
    · have := d1 v hv
      omega
  have := d2 a x ha hx (by rw [← he a ha]; exact hf) hr
  rw [he a ha, he x hx]
  exact this
/-- finds() of the reference: where there's a way, and where there's none -/
theorem zy_fin {R C : Nat → Nat → Int} {pi F d : Nat → Int} {b h rk : Nat → Nat} (hp : z_pt R C pi) (ht : z_tr R C pi F b h) (hd : z_cvd R C d rk) (hs : z_swp R C F d rk 16 0 0) (hC : ∀ a b, a < 16 → b < 16 → -999 ≤ C a b ∧ C a b ≤ 999) (hB : ∀ v, v < 16 → F v < 1000000 → F v ≤ 300000) : (F 15 < 1000000 → ∃ (pi : Nat → Int) (m : Nat → Nat), z_fd R C F b pi m ∧ pi 15 - pi 0 = F 15) ∧ (¬ F 15 < 1000000 → zy_op R C) := by
  have hc : z_cvg R C F := zy_cvF hp ht hd (fun v hv hf => hs.1 v hv hf (by have := hd.2.2.2.1 v hv; omega))
  obtain ⟨m, hm⟩ := z_ms hp ht
  obtain ⟨t0, t1, t2, t3⟩ := ht
  refine ⟨fun h15 => ?_, fun h15 => zy_nop hp t0 t2 (fun a x ha hx _ _ hf hr => hc a x ha hx hf hr) (fun v hv hf => by have := hB v hv hf; omega) (fun a b ha hb => (hC a b ha hb).2) h15⟩
  refine ⟨fun v => if F v < 1000000 then F v else pi v + 1001000 + (z_sm (fun u => (pi u).natAbs) 16 : Nat), m, ⟨fun a x ha hx hr => ?_, fun v hv h0 hf => ?_⟩, ?_⟩
  · show 0 ≤ C a x + (if F a < 1000000 then F a else pi a + 1001000 + (z_sm (fun u => (pi u).natAbs) 16 : Nat)) - (if F x < 1000000 then F x else pi x + 1001000 + (z_sm (fun u => (pi u).natAbs) 16 : Nat))
    have q1 := hC a x ha hx
    have q2 := t1 x hx
    by_cases ea : F a < 1000000
    · have q3 := hc a x ha hx ea hr
      have q4 := hB a ha ea
      rw [if_pos ea, if_pos (by omega)]
      omega
    · have q3 : (pi a).natAbs ≤ z_sm (fun u => (pi u).natAbs) 16 := z_sm_at (f := fun u => (pi u).natAbs) 16 ha
      rw [if_neg ea]
      by_cases ex : F x < 1000000
      · rw [if_pos ex]
        omega
      · rw [if_neg ex]
        have q4 := hp a x ha hx hr
        omega
  · obtain ⟨c1, c2, c3, c4, c5⟩ := t3 v hv h0 hf
    refine ⟨c1, c2, c3, ?_, hm v hv h0 hf⟩
    show C (b v) v + (if F (b v) < 1000000 then F (b v) else _) - (if F v < 1000000 then F v else _) = 0
    rw [if_pos c2, if_pos hf]
    have := hc (b v) v c1 hv c2 c3
    omega
  · show (if F 15 < 1000000 then F 15 else _) - (if F 0 < 1000000 then F 0 else _) = F 15
    rw [if_pos h15, if_pos (by omega), t0]
    omega
/-! the class's rounds: ROADS there and back, PORT by PORT and STATION by STATION -/
noncomputable def zy_r2 (R : Nat → Nat → Int) (a b : Nat) : Int := if a = 15 ∨ b = 15 ∨ b = 0 then 0 else R a b
theorem zy_r2_e {R : Nat → Nat → Int} {a b : Nat} (h : 0 < zy_r2 R a b) : a ≠ 15 ∧ b ≠ 15 ∧ b ≠ 0 ∧ zy_r2 R a b = R a b := by
  unfold zy_r2 at h ⊢
  by_cases q : a = 15 ∨ b = 15 ∨ b = 0
  · rw [if_pos q] at h
    omega
  · rw [if_neg q]
    exact ⟨fun z => q (Or.inl z), fun z => q (Or.inr (Or.inl z)), fun z => q (Or.inr (Or.inr z)), rfl⟩
theorem zy_r2_i {R : Nat → Nat → Int} {a b : Nat} (h1 : a ≠ 15) (h2 : b ≠ 15) (h3 : b ≠ 0) : zy_r2 R a b = R a b := if_neg (by omega)
theorem zy_r2_p {R C : Nat → Nat → Int} {pi : Nat → Int} (hp : z_pt R C pi) : z_pt (zy_r2 R) C pi := fun a b ha hb hr => by
  obtain ⟨_, _, _, e⟩ := zy_r2_e hr
  exact hp a b ha hb (by rw [← e]; exact hr)
noncomputable def zy_dn (p s u v : Nat) : Prop := u = 0 ∨ (1 ≤ u ∧ u ≤ 4 ∧ 5 ≤ v ∧ v ≤ 14 ∧ (u < p + 1 ∨ (u = p + 1 ∧ v < 5 + s))) ∨ (5 ≤ u ∧ u ≤ 14 ∧ 1 ≤ v ∧ v ≤ 4 ∧ (v < p + 1 ∨ (v = p + 1 ∧ u < 5 + s)))
/-- the STATION to which the way is the shortest, and the way -/
theorem zy_end {R C : Nat → Nat → Int} {pi F : Nat → Int} {b h : Nat → Nat} {e : Nat} (hp : z_pt R C pi) (ht : z_tr (zy_r2 R) C pi F b h) (hcv : z_cvg (zy_r2 R) C F) (hB : ∀ v, v < 16 → F v < 1000000 → F v ≤ 700000) (hC : ∀ a b, a < 16 → b < 16 → C a b ≤ 999) (hA : ∀ a, a < 16 → 0 < R a 15 → 5 ≤ a ∧ a ≤ 14) (hC0 : ∀ s, s < 10 → C (5 + s) 15 = 0) (he : e < 10) (hf : F (5 + e) < 1000000) (hr : 0 < R (5 + e) 15) (hmin : ∀ s, s < 10 → 0 < R (5 + s) 15 → F (5 + e) ≤ F (5 + s)) (b2 : Nat → Nat) (hb1 : b2 15 = 5 + e) (hb2 : ∀ v, v < 15 → b2 v = b v) : ∃ (F' pi' : Nat → Int) (m : Nat → Nat), z_fd R C F' b2 pi' m ∧ F' 15 < 1000000 ∧ ∀ v, v < 15 → v ≠ 0 → F' v < 1000000 → b2 v ≠ 15 := by
  obtain ⟨m, hm⟩ := z_ms (zy_r2_p hp) ht
  obtain ⟨t0, t1, t2, t3⟩ := ht
  have q15 := hp (5 + e) 15 (by omega) (by omega) hr
  have qe := t2 (5 + e) (by omega) hf
  have c15 := hC0 e he
  have hlo : ∀ v, v < 16 → (if v = 15 then F (5 + e) else F v) < 1000000 → -pi 0 ≤ (if v = 15 then F (5 + e) else F v) - pi v := fun v hv hg => by
    by_cases e1 : v = 15
    · subst e1
      rw [if_pos rfl]
      omega
    · rw [if_neg e1] at hg ⊢
      exact t2 v hv hg
  have hc2 : ∀ a x, a < 16 → x < 16 → a ≠ 15 → x ≠ 0 → (if a = 15 then F (5 + e) else F a) < 1000000 → 0 < R a x → (if x = 15 then F (5 + e) else F x) ≤ (if a = 15 then F (5 + e) else F a) + C a x := fun a x ha hx h15 h0 hg hR => by
    rw [if_neg h15] at hg ⊢
    by_cases e1 : x = 15
    · subst e1
      obtain ⟨g1, g2⟩ := hA a ha hR
      obtain ⟨s, rfl⟩ : ∃ s, a = 5 + s := ⟨a - 5, by omega⟩
      have g3 := hmin s (by omega) hR
      have g4 := hC0 s (by omega)
      rw [if_pos rfl]
      omega
    · rw [if_neg e1]
      exact hcv a x ha hx hg (by rw [zy_r2_i h15 e1 h0]; exact hR)
  have hB2 : ∀ v, v < 16 → (if v = 15 then F (5 + e) else F v) < 1000000 → (if v = 15 then F (5 + e) else F v) ≤ 700000 := fun v hv hg => by
    by_cases e1 : v = 15
    · subst e1
      rw [if_pos rfl]
      exact hB _ (by omega) hf
    · rw [if_neg e1] at hg ⊢
      exact hB v hv hg
  have hz := zy_cut (F := fun v => if v = 15 then F (5 + e) else F v) (D := F (5 + e) - pi 15 + pi 0) hp (by show (if (0 : Nat) = 15 then F (5 + e) else F 0) = 0; rw [if_neg (by decide)]; exact t0) hlo hc2 hB2 hC (by omega) (fun _ => by show F (5 + e) - pi 15 + pi 0 = (if (15 : Nat) = 15 then F (5 + e) else F 15) - pi 15 + pi 0; rw [if_pos rfl])
  refine ⟨fun v => if (if v = 15 then F (5 + e) else F v) < 1000000 ∧ (if v = 15 then F (5 + e) else F v) - pi v + pi 0 ≤ F (5 + e) - pi 15 + pi 0 then 0 else 1000000, zy_pi pi (fun v => if v = 15 then F (5 + e) else F v) (F (5 + e) - pi 15 + pi 0), fun v => if v = 15 then m (5 + e) + 1 else m v, ⟨hz, fun v hv h0 hg => ?_⟩, ?_, fun v hv h0 hg => ?_⟩
  · have hg2 : (if v = 15 then F (5 + e) else F v) < 1000000 ∧ (if v = 15 then F (5 + e) else F v) - pi v + pi 0 ≤ F (5 + e) - pi 15 + pi 0 := by
      refine Classical.byContradiction fun z => ?_
      have hg3 : (if (if v = 15 then F (5 + e) else F v) < 1000000 ∧ (if v = 15 then F (5 + e) else F v) - pi v + pi 0 ≤ F (5 + e) - pi 15 + pi 0 then (0 : Int) else 1000000) < 1000000 := hg
      rw [if_neg z] at hg3
      omega
    by_cases e1 : v = 15
    · subst e1
      rw [hb1]
      have n1 : ¬ 5 + e = 15 := by omega
      have k1 : F (5 + e) < 1000000 ∧ F (5 + e) - pi (5 + e) + pi 0 ≤ F (5 + e) - pi 15 + pi 0 := ⟨hf, by omega⟩
      refine ⟨by omega, ?_, hr, ?_, ?_⟩
      · show (if (if 5 + e = 15 then F (5 + e) else F (5 + e)) < 1000000 ∧ (if 5 + e = 15 then F (5 + e) else F (5 + e)) - pi (5 + e) + pi 0 ≤ F (5 + e) - pi 15 + pi 0 then (0 : Int) else 1000000) < 1000000
        rw [if_neg n1, if_pos k1]
        decide
      · show C (5 + e) 15 + (pi (5 + e) + (if (if 5 + e = 15 then F (5 + e) else F (5 + e)) < 1000000 ∧ (if 5 + e = 15 then F (5 + e) else F (5 + e)) - pi (5 + e) + pi 0 ≤ F (5 + e) - pi 15 + pi 0 then (if 5 + e = 15 then F (5 + e) else F (5 + e)) - pi (5 + e) + pi 0 else F (5 + e) - pi 15 + pi 0)) - (pi 15 + (if (if (15 : Nat) = 15 then F (5 + e) else F 15) < 1000000 ∧ (if (15 : Nat) = 15 then F (5 + e) else F 15) - pi 15 + pi 0 ≤ F (5 + e) - pi 15 + pi 0 then (if (15 : Nat) = 15 then F (5 + e) else F 15) - pi 15 + pi 0 else F (5 + e) - pi 15 + pi 0)) = 0
        rw [if_neg n1, if_pos k1, if_pos (rfl : (15 : Nat) = 15), if_pos (show F (5 + e) < 1000000 ∧ F (5 + e) - pi 15 + pi 0 ≤ F (5 + e) - pi 15 + pi 0 from ⟨hf, Int.le_refl _⟩)]
        omega
      · show (if 5 + e = 15 then m (5 + e) + 1 else m (5 + e)) < (if (15 : Nat) = 15 then m (5 + e) + 1 else m 15)
        rw [if_neg n1, if_pos rfl]
        exact Nat.lt_succ_self _
    · rw [if_neg e1] at hg2
      obtain ⟨c1, c2, c3, c4, c5⟩ := t3 v hv h0 hg2.1
      obtain ⟨r1, r2, r3, r4⟩ := zy_r2_e c3
      have hRb : 0 < R (b v) v := by rw [← r4]; exact c3
      have qv := hp (b v) v c1 hv hRb
      have qc := hcv (b v) v c1 hv c2 c3
      have ql := t2 (b v) c1 c2
      rw [hb2 v (by omega)]
      have k1 : F (b v) < 1000000 ∧ F (b v) - pi (b v) + pi 0 ≤ F (5 + e) - pi 15 + pi 0 := ⟨c2, by omega⟩
      refine ⟨c1, ?_, hRb, ?_, ?_⟩
      · show (if (if b v = 15 then F (5 + e) else F (b v)) < 1000000 ∧ (if b v = 15 then F (5 + e) else F (b v)) - pi (b v) + pi 0 ≤ F (5 + e) - pi 15 + pi 0 then (0 : Int) else 1000000) < 1000000
        rw [if_neg r1, if_pos k1]
        decide
      · show C (b v) v + (pi (b v) + (if (if b v = 15 then F (5 + e) else F (b v)) < 1000000 ∧ (if b v = 15 then F (5 + e) else F (b v)) - pi (b v) + pi 0 ≤ F (5 + e) - pi 15 + pi 0 then (if b v = 15 then F (5 + e) else F (b v)) - pi (b v) + pi 0 else F (5 + e) - pi 15 + pi 0)) - (pi v + (if (if v = 15 then F (5 + e) else F v) < 1000000 ∧ (if v = 15 then F (5 + e) else F v) - pi v + pi 0 ≤ F (5 + e) - pi 15 + pi 0 then (if v = 15 then F (5 + e) else F v) - pi v + pi 0 else F (5 + e) - pi 15 + pi 0)) = 0
        rw [if_neg r1, if_pos k1, if_neg e1, if_pos hg2]
        omega
      · show (if b v = 15 then m (5 + e) + 1 else m (b v)) < (if v = 15 then m (5 + e) + 1 else m v)
        rw [if_neg r1, if_neg e1]
        exact hm v hv h0 hg2.1
  · show (if (if (15 : Nat) = 15 then F (5 + e) else F 15) < 1000000 ∧ (if (15 : Nat) = 15 then F (5 + e) else F 15) - pi 15 + pi 0 ≤ F (5 + e) - pi 15 + pi 0 then (0 : Int) else 1000000) < 1000000
    rw [if_pos (rfl : (15 : Nat) = 15), if_pos (show F (5 + e) < 1000000 ∧ F (5 + e) - pi 15 + pi 0 ≤ F (5 + e) - pi 15 + pi 0 from ⟨hf, Int.le_refl _⟩)]
    decide
  · have hg2 : F v < 1000000 := by
      refine Classical.byContradiction fun z => ?_
      have hg3 : (if (if v = 15 then F (5 + e) else F v) < 1000000 ∧ (if v = 15 then F (5 + e) else F v) - pi v + pi 0 ≤ F (5 + e) - pi 15 + pi 0 then (0 : Int) else 1000000) < 1000000 := hg
      rw [if_neg (show ¬ v = 15 by omega), if_neg (show ¬ (F v < 1000000 ∧ F v - pi v + pi 0 ≤ F (5 + e) - pi 15 + pi 0) from fun w => z w.1)] at hg3
      omega
    obtain ⟨c1, c2, c3, c4, c5⟩ := t3 v (by omega) h0 hg2
    rw [hb2 v hv]
    exact (zy_r2_e c3).1
theorem zy_none {R C : Nat → Nat → Int} {pi F : Nat → Int} {b h : Nat → Nat} (hp : z_pt R C pi) (ht : z_tr (zy_r2 R) C pi F b h) (hcv : z_cvg (zy_r2 R) C F) (hB : ∀ v, v < 16 → F v < 1000000 → F v ≤ 700000) (hC : ∀ a b, a < 16 → b < 16 → C a b ≤ 999) (hA : ∀ a, a < 16 → 0 < R a 15 → 5 ≤ a ∧ a ≤ 14) (hno : ∀ s, s < 10 → 0 < R (5 + s) 15 → ¬ F (5 + s) < 1000000) (h15 : ¬ F 15 < 1000000) : zy_op R C := by
  refine zy_nop hp ht.1 ht.2.2.1 (fun a x ha hx n15 n0 hf hr => ?_) hB hC h15
  by_cases e1 : x = 15
  · subst e1
    obtain ⟨g1, g2⟩ := hA a ha hr
    obtain ⟨s, rfl⟩ : ∃ s, a = 5 + s := ⟨a - 5, by omega⟩
    exact absurd hf (hno s (by omega) hr)
  · exact hcv a x ha hx hf (by rw [zy_r2_i n15 e1 n0]; exact hr)
/-! what is left of a board of loads: forward from PORTS over ROADS to STATIONS -/
noncomputable def zy_fw (c w : Nat → Int) (m : Nat → Nat → Int) (a b : Nat) : Int := if a = 0 then (if 1 ≤ b ∧ b ≤ 4 then c (b - 1) else 0) else if a ≤ 4 then (if 5 ≤ b ∧ b ≤ 14 then m (a - 1) (b - 5) else 0) else if a ≤ 14 ∧ b = 15 then w (a - 5) else 0
theorem zy_fw_0 {c w : Nat → Int} {m : Nat → Nat → Int} {p : Nat} (hp : p < 4) : zy_fw c w m 0 (1 + p) = c p := by
  unfold zy_fw
  rw [if_pos rfl, if_pos (show 1 ≤ 1 + p ∧ 1 + p ≤ 4 from ⟨by omega, by omega⟩), show 1 + p - 1 = p by omega]
theorem zy_fw_1 {c w : Nat → Int} {m : Nat → Nat → Int} {p s : Nat} (hp : p < 4) (hs : s < 10) : zy_fw c w m (1 + p) (5 + s) = m p s := by
  unfold zy_fw
  rw [if_neg (show ¬ 1 + p = 0 by omega), if_pos (show 1 + p ≤ 4 by omega), if_pos (show 5 ≤ 5 + s ∧ 5 + s ≤ 14 from ⟨by omega, by omega⟩), show 1 + p - 1 = p by omega, show 5 + s - 5 = s by omega]
theorem zy_fw_2 {c w : Nat → Int} {m : Nat → Nat → Int} {s : Nat} (hs : s < 10) : zy_fw c w m (5 + s) 15 = w s := by
  unfold zy_fw
  rw [if_neg (show ¬ 5 + s = 0 by omega), if_neg (show ¬ 5 + s ≤ 4 by omega), if_pos (show 5 + s ≤ 14 ∧ (15 : Nat) = 15 from ⟨by omega, rfl⟩), show 5 + s - 5 = s by omega]
/-- there are three kinds of places forward -/
theorem zy_cs (a b : Nat) : (∃ p, p < 4 ∧ a = 0 ∧ b = 1 + p) ∨ (∃ p s, p < 4 ∧ s < 10 ∧ a = 1 + p ∧ b = 5 + s) ∨ (∃ s, s < 10 ∧ a = 5 + s ∧ b = 15) ∨ ∀ (c w : Nat → Int) (m : Nat → Nat → Int), zy_fw c w m a b = 0 := by
  by_cases h0 : a = 0
  · by_cases h1 : 1 ≤ b ∧ b ≤ 4
    · exact Or.inl ⟨b - 1, by omega, h0, by omega⟩
    · refine Or.inr (Or.inr (Or.inr fun c w m => ?_))
      unfold zy_fw
      rw [if_pos h0, if_neg h1]
  · by_cases h2 : a ≤ 4
    · by_cases h3 : 5 ≤ b ∧ b ≤ 14
      · exact Or.inr (Or.inl ⟨a - 1, b - 5, by omega, by omega, by omega, by omega⟩)
      · refine Or.inr (Or.inr (Or.inr fun c w m => ?_))
        unfold zy_fw
        rw [if_neg h0, if_pos h2, if_neg h3]
    · by_cases h4 : a ≤ 14 ∧ b = 15
      · exact Or.inr (Or.inr (Or.inl ⟨a - 5, by omega, by omega, h4.2⟩))
      · refine Or.inr (Or.inr (Or.inr fun c w m => ?_))
        unfold zy_fw
        rw [if_neg h0, if_neg h2, if_neg h4]
theorem zy_fw_z {c w : Nat → Int} {m : Nat → Nat → Int} {a b : Nat} (h : ¬ a < b) : zy_fw c w m a b = 0 := by
  rcases zy_cs a b with ⟨p, hp, h1, h2⟩ | ⟨p, s, hp, hs, h1, h2⟩ | ⟨s, hs, h1, h2⟩ | h1
  · omega
  · omega
  · omega
  · exact h1 c w m
noncomputable def zy_50 (m : Nat → Nat → Int) (p s : Nat) : Int := if 0 < m p s then 50 else 0
noncomputable def zy_C (m : Nat → Nat → Int) (a b : Nat) : Int := zy_fw (fun _ => 0) (fun _ => 0) m a b - zy_fw (fun _ => 0) (fun _ => 0) m b a
theorem zy_C_a {m : Nat → Nat → Int} (a b : Nat) : zy_C m a b + zy_C m b a = 0 := by
  unfold zy_C
  omega
theorem zy_C_b {m : Nat → Nat → Int} (h : ∀ p s, p < 4 → s < 10 → 0 ≤ m p s ∧ m p s ≤ 999) (a b : Nat) : -999 ≤ zy_C m a b ∧ zy_C m a b ≤ 999 := by
  have q : ∀ a b, 0 ≤ zy_fw (fun _ => 0) (fun _ => 0) m a b ∧ zy_fw (fun _ => 0) (fun _ => 0) m a b ≤ 999 := fun a b => by
    rcases zy_cs a b with ⟨p, hp, h1, h2⟩ | ⟨p, s, hp, hs, h1, h2⟩ | ⟨s, hs, h1, h2⟩ | h1
    · subst h1 h2
      rw [zy_fw_0 hp]
      decide
    · subst h1 h2
      rw [zy_fw_1 hp hs]
      exact h p s hp hs
    · subst h1 h2
      rw [zy_fw_2 hs]
      decide
    · rw [h1]
      decide
  have q1 := q a b
  have q2 := q b a
  unfold zy_C
  omega
theorem zy_C_0 {m : Nat → Nat → Int} {p : Nat} (hp : p < 4) : zy_C m 0 (1 + p) = 0 := by
  unfold zy_C
  rw [zy_fw_0 hp, zy_fw_z (by omega)]
  rfl
theorem zy_C_1 {m : Nat → Nat → Int} {p s : Nat} (hp : p < 4) (hs : s < 10) : zy_C m (1 + p) (5 + s) = m p s := by
  unfold zy_C
  rw [zy_fw_1 hp hs, zy_fw_z (by omega)]
  omega
theorem zy_C_3 {m : Nat → Nat → Int} {p s : Nat} (hp : p < 4) (hs : s < 10) : zy_C m (5 + s) (1 + p) = -m p s := by
  have h1 := zy_C_1 (m := m) hp hs
  have h2 := zy_C_a (m := m) (1 + p) (5 + s)
  omega
theorem zy_C_2 {m : Nat → Nat → Int} {s : Nat} (hs : s < 10) : zy_C m (5 + s) 15 = 0 := by
  unfold zy_C
  rw [zy_fw_2 hs, zy_fw_z (by omega)]
  rfl
/-- what is left: forward f, back what was taken off of g -/
noncomputable def zy_rf (g f : Nat → Nat → Int) (a b : Nat) : Int := if a < b then f a b else g b a - f b a
theorem zy_rf_f {g f : Nat → Nat → Int} {a b : Nat} (h : a < b) : zy_rf g f a b = f a b := if_pos h
theorem zy_rf_b {g f : Nat → Nat → Int} {a b : Nat} (h : ¬ a < b) : zy_rf g f a b = g b a - f b a := if_neg h
theorem zy_rf_sp {g f f' : Nat → Nat → Int} {x y : Nat} {n : Int} (hxy : x < y) (h1 : f' x y = f x y - n) (h2 : ∀ a b, ¬ (a = x ∧ b = y) → f' a b = f a b) : zy_sp (zy_rf g f) (zy_rf g f') x y n := by
  refine ⟨?_, ?_, fun a b _ _ q1 q2 => ?_⟩
  · rw [zy_rf_f hxy, zy_rf_f hxy, h1]
  · rw [zy_rf_b (by omega), zy_rf_b (by omega), h1]
    omega
  · unfold zy_rf
    rw [h2 a b q1, h2 b a (fun z => q2 ⟨z.2, z.1⟩)]
theorem zy_sp_r {R R' : Nat → Nat → Int} {u v : Nat} {n : Int} (h : zy_sp R R' u v (-n)) : zy_sp R R' v u n := ⟨by have := h.2.1; omega, by have := h.1; omega, fun a b ha hb q1 q2 => h.2.2 a b ha hb q2 q1⟩
theorem zy_rf_U {g f : Nat → Nat → Int} (hg : ∀ a b, ¬ a < b → g a b = 0) (hf : ∀ a b, ¬ a < b → f a b = 0) (a b : Nat) : zy_rf g f a b + zy_rf g f b a = g a b + g b a := by
  by_cases h : a < b
  · rw [zy_rf_f h, zy_rf_b (by omega), hg b a (by omega)]
    omega
  · by_cases h2 : b < a
    · rw [zy_rf_b h, zy_rf_f h2, hg a b h]
      omega
    · rw [zy_rf_b h, zy_rf_b h2, hf a b h, hf b a h2]
      omega
/-- the board as it is laid, and what is left of it -/
noncomputable def zy_R (c w : Nat → Int) (m : Nat → Nat → Int) (lf lk : Nat → Int) (sn : Nat → Nat → Int) : Nat → Nat → Int := zy_rf (zy_fw c w (zy_50 m)) (zy_fw lf lk (fun p s => zy_50 m p s - sn p s))
theorem zy_R_0 {c w lf lk : Nat → Int} {m sn : Nat → Nat → Int} {p : Nat} (hp : p < 4) : zy_R c w m lf lk sn 0 (1 + p) = lf p := (zy_rf_f (by omega)).trans (zy_fw_0 hp)
theorem zy_R_1 {c w lf lk : Nat → Int} {m sn : Nat → Nat → Int} {p s : Nat} (hp : p < 4) (hs : s < 10) : zy_R c w m lf lk sn (1 + p) (5 + s) = zy_50 m p s - sn p s := (zy_rf_f (by omega)).trans (zy_fw_1 hp hs)
theorem zy_R_2 {c w lf lk : Nat → Int} {m sn : Nat → Nat → Int} {s : Nat} (hs : s < 10) : zy_R c w m lf lk sn (5 + s) 15 = lk s := (zy_rf_f (by omega)).trans (zy_fw_2 hs)
theorem zy_R_3 {c w lf lk : Nat → Int} {m sn : Nat → Nat → Int} {p s : Nat} (hp : p < 4) (hs : s < 10) : zy_R c w m lf lk sn (5 + s) (1 + p) = sn p s := by
  unfold zy_R
  rw [zy_rf_b (by omega), zy_fw_1 hp hs, zy_fw_1 hp hs]
  omega
theorem zy_R_U {c w lf lk : Nat → Int} {m sn : Nat → Nat → Int} (a b : Nat) : zy_R c w m lf lk sn a b + zy_R c w m lf lk sn b a = zy_fw c w (zy_50 m) a b + zy_fw c w (zy_50 m) b a := zy_rf_U (fun _ _ h => zy_fw_z h) (fun _ _ h => zy_fw_z h) a b
/-- nothing is sent yet -/
theorem zy_R_e {c w : Nat → Int} {m sn : Nat → Nat → Int} (hs : ∀ p s, p < 4 → s < 10 → sn p s = 0) : ∀ a b, zy_R c w m c w sn a b = zy_fw c w (zy_50 m) a b := fun a b => by
  have q : ∀ a b, zy_fw c w (fun p s => zy_50 m p s - sn p s) a b = zy_fw c w (zy_50 m) a b := fun a b => by
    rcases zy_cs a b with ⟨p, hp, h1, h2⟩ | ⟨p, s, hp, hs2, h1, h2⟩ | ⟨s, hs2, h1, h2⟩ | h1
    · subst h1 h2
      rw [zy_fw_0 hp, zy_fw_0 hp]
    · subst h1 h2
      rw [zy_fw_1 hp hs2, zy_fw_1 hp hs2, hs p s hp hs2]
      omega
    · subst h1 h2
      rw [zy_fw_2 hs2, zy_fw_2 hs2]
    · rw [h1, h1]
  unfold zy_R
  by_cases h : a < b
  · rw [zy_rf_f h, q]
  · rw [zy_rf_b h, q, zy_fw_z (a := a) (b := b) h]
    omega
/-- one board told in other words -/
theorem zy_R_c {c w lf lk c1 w1 lf1 lk1 : Nat → Int} {m sn m1 sn1 : Nat → Nat → Int} (hc : ∀ p, p < 4 → c1 p = c p ∧ lf1 p = lf p) (hw : ∀ s, s < 10 → w1 s = w s ∧ lk1 s = lk s) (hm : ∀ p s, p < 4 → s < 10 → m1 p s = m p s ∧ sn1 p s = sn p s) : zy_R c1 w1 m1 lf1 lk1 sn1 = zy_R c w m lf lk sn := by
  have e5 : ∀ p s, p < 4 → s < 10 → zy_50 m1 p s = zy_50 m p s := fun p s hp hs => by
    unfold zy_50
    rw [(hm p s hp hs).1]
  have e1 : zy_fw c1 w1 (zy_50 m1) = zy_fw c w (zy_50 m) := funext fun a => funext fun b => by
    rcases zy_cs a b with ⟨p, hp, h1, h2⟩ | ⟨p, s, hp, hs, h1, h2⟩ | ⟨s, hs, h1, h2⟩ | h1
    · subst h1 h2
      rw [zy_fw_0 hp, zy_fw_0 hp, (hc p hp).1]
    · subst h1 h2
      rw [zy_fw_1 hp hs, zy_fw_1 hp hs, e5 p s hp hs]
    · subst h1 h2
      rw [zy_fw_2 hs, zy_fw_2 hs, (hw s hs).1]
    · rw [h1, h1]
  have e2 : zy_fw lf1 lk1 (fun p s => zy_50 m1 p s - sn1 p s) = zy_fw lf lk (fun p s => zy_50 m p s - sn p s) := funext fun a => funext fun b => by
    rcases zy_cs a b with ⟨p, hp, h1, h2⟩ | ⟨p, s, hp, hs, h1, h2⟩ | ⟨s, hs, h1, h2⟩ | h1
    · subst h1 h2
      rw [zy_fw_0 hp, zy_fw_0 hp, (hc p hp).2]
    · subst h1 h2
      rw [zy_fw_1 hp hs, zy_fw_1 hp hs, e5 p s hp hs, (hm p s hp hs).2]
    · subst h1 h2
      rw [zy_fw_2 hs, zy_fw_2 hs, (hw s hs).2]
    · rw [h1, h1]
  unfold zy_R
  rw [e1, e2]
/-! the four writes of a sending -/
theorem zy_w_lk {c w lf lk lk1 : Nat → Int} {m sn : Nat → Nat → Int} {e : Nat} {n : Int} (he : e < 10) (h1 : lk1 e = lk e - n) (h2 : ∀ s, s ≠ e → lk1 s = lk s) : zy_sp (zy_R c w m lf lk sn) (zy_R c w m lf lk1 sn) (5 + e) 15 n := by
  refine zy_rf_sp (by omega) (by rw [zy_fw_2 he, zy_fw_2 he]; exact h1) (fun a b q => ?_)
  rcases zy_cs a b with ⟨p, hp, g1, g2⟩ | ⟨p, s, hp, hs, g1, g2⟩ | ⟨s, hs, g1, g2⟩ | g1
  · subst g1 g2
    rw [zy_fw_0 hp, zy_fw_0 hp]
  · subst g1 g2
    rw [zy_fw_1 hp hs, zy_fw_1 hp hs]
  · subst g1 g2
    rw [zy_fw_2 hs, zy_fw_2 hs]
    exact h2 s (fun z => q ⟨by omega, rfl⟩)
  · rw [g1, g1]
theorem zy_w_lf {c w lf lk lf1 : Nat → Int} {m sn : Nat → Nat → Int} {e : Nat} {n : Int} (he : e < 4) (h1 : lf1 e = lf e - n) (h2 : ∀ p, p ≠ e → lf1 p = lf p) : zy_sp (zy_R c w m lf lk sn) (zy_R c w m lf1 lk sn) 0 (1 + e) n := by
  refine zy_rf_sp (by omega) (by rw [zy_fw_0 he, zy_fw_0 he]; exact h1) (fun a b q => ?_)
  rcases zy_cs a b with ⟨p, hp, g1, g2⟩ | ⟨p, s, hp, hs, g1, g2⟩ | ⟨s, hs, g1, g2⟩ | g1
  · subst g1 g2
    rw [zy_fw_0 hp, zy_fw_0 hp]
    exact h2 p (fun z => q ⟨rfl, by omega⟩)
  · subst g1 g2
    rw [zy_fw_1 hp hs, zy_fw_1 hp hs]
  · subst g1 g2
    rw [zy_fw_2 hs, zy_fw_2 hs]
  · rw [g1, g1]
theorem zy_w_sn {c w lf lk : Nat → Int} {m sn sn1 : Nat → Nat → Int} {e k : Nat} {n : Int} (he : e < 4) (hk : k < 10) (h1 : sn1 e k = sn e k + n) (h2 : ∀ p s, ¬ (p = e ∧ s = k) → sn1 p s = sn p s) : zy_sp (zy_R c w m lf lk sn) (zy_R c w m lf lk sn1) (1 + e) (5 + k) n := by
  refine zy_rf_sp (by omega) (by rw [zy_fw_1 he hk, zy_fw_1 he hk, h1]; omega) (fun a b q => ?_)
  rcases zy_cs a b with ⟨p, hp, g1, g2⟩ | ⟨p, s, hp, hs, g1, g2⟩ | ⟨s, hs, g1, g2⟩ | g1
  · subst g1 g2
    rw [zy_fw_0 hp, zy_fw_0 hp]
  · subst g1 g2
    rw [zy_fw_1 hp hs, zy_fw_1 hp hs, h2 p s (fun z => q ⟨by omega, by omega⟩)]
  · subst g1 g2
    rw [zy_fw_2 hs, zy_fw_2 hs]
  · rw [g1, g1]
/-- arcs of the board -/
theorem zy_R_A {c w lf lk : Nat → Int} {m sn : Nat → Nat → Int} {u v : Nat} (hr : 0 < zy_r2 (zy_R c w m lf lk sn) u v) : u = 0 ∨ (1 ≤ u ∧ u ≤ 4 ∧ 5 ≤ v ∧ v ≤ 14) ∨ (5 ≤ u ∧ u ≤ 14 ∧ 1 ≤ v ∧ v ≤ 4) := by
  obtain ⟨n1, n2, n3, e⟩ := zy_r2_e hr
  rw [e] at hr
  by_cases h : u < v
  · rcases zy_cs u v with ⟨p, hp, g1, g2⟩ | ⟨p, s, hp, hs, g1, g2⟩ | ⟨s, hs, g1, g2⟩ | g1
    · exact Or.inl g1
    · omega
    · omega
    · rw [show zy_R c w m lf lk sn u v = _ from zy_rf_f h, g1] at hr
      omega
  · rcases zy_cs v u with ⟨p, hp, g1, g2⟩ | ⟨p, s, hp, hs, g1, g2⟩ | ⟨s, hs, g1, g2⟩ | g1
    · omega
    · omega
    · omega
    · rw [show zy_R c w m lf lk sn u v = _ from zy_rf_b h, g1, g1] at hr
      omega
theorem zy_R_15 {c w lf lk : Nat → Int} {m sn : Nat → Nat → Int} {a : Nat} (ha : a < 16) (hr : 0 < zy_R c w m lf lk sn a 15) : 5 ≤ a ∧ a ≤ 14 := by
  by_cases h : a < 15
  · rcases zy_cs a 15 with ⟨p, hp, g1, g2⟩ | ⟨p, s, hp, hs, g1, g2⟩ | ⟨s, hs, g1, g2⟩ | g1
    · omega
    · omega
    · omega
    · rw [show zy_R c w m lf lk sn a 15 = _ from zy_rf_f h, g1] at hr
      omega
  · have e : a = 15 := by omega
    subst e
    have q := zy_R_U (c := c) (w := w) (m := m) (lf := lf) (lk := lk) (sn := sn) 15 15
    rw [zy_fw_z (by omega)] at q
    omega
theorem zy_R0_b {c w : Nat → Int} {m : Nat → Nat → Int} (hc : ∀ p, p < 4 → 0 ≤ c p ∧ c p ≤ 50) (hw : ∀ s, s < 10 → 0 ≤ w s ∧ w s ≤ 20) (a b : Nat) : 0 ≤ zy_fw c w (zy_50 m) a b ∧ zy_fw c w (zy_50 m) a b ≤ 50 := by
  rcases zy_cs a b with ⟨p, hp, g1, g2⟩ | ⟨p, s, hp, hs, g1, g2⟩ | ⟨s, hs, g1, g2⟩ | g1
  · subst g1 g2
    rw [zy_fw_0 hp]
    exact hc p hp
  · subst g1 g2
    rw [zy_fw_1 hp hs]
    unfold zy_50
    split <;> omega
  · subst g1 g2
    rw [zy_fw_2 hs]
    have := hw s hs
    omega
  · rw [g1]
    decide
/-- what a STATION got is no more than it wants -/
theorem zy_R_20 {c w lf lk : Nat → Int} {m sn : Nat → Nat → Int} (h : zy_fe (zy_fw c w (zy_50 m)) (zy_R c w m lf lk sn)) {p s : Nat} (hp : p < 4) (hs : s < 10) : 0 ≤ sn p s ∧ sn p s ≤ w s ∧ 0 ≤ lk s ∧ lk s ≤ w s := by
  have e1 : zy_S (zy_fw c w (zy_50 m) (5 + s)) 16 = w s := by
    have q := zy_S_u (f := fun _ => 0) (g := zy_fw c w (zy_50 m) (5 + s)) (x := 15) (d := w s) 16 (by omega) (by
      rw [zy_fw_2 hs]
      omega) (fun v hv q => by
      rcases zy_cs (5 + s) v with ⟨p, hp, g1, g2⟩ | ⟨p, s1, hp, hs1, g1, g2⟩ | ⟨s1, hs1, g1, g2⟩ | g1
      · omega
      · omega
      · omega
      · exact g1 _ _ _)
    rw [zy_S_z] at q
    omega
  have e2 := h.2 (5 + s) (by omega) (by omega)
  rw [e1] at e2
  have p1 := zy_S_at (f := zy_R c w m lf lk sn (5 + s)) (x := 1 + p) 16 (fun v hv => (h.1 (5 + s) v (by omega) hv).1) (by omega)
  have p2 := zy_S_at (f := zy_R c w m lf lk sn (5 + s)) (x := 15) 16 (fun v hv => (h.1 (5 + s) v (by omega) hv).1) (by omega)
  have n1 := (h.1 (5 + s) (1 + p) (by omega) (by omega)).1
  have n2 := (h.1 (5 + s) 15 (by omega) (by omega)).1
  rw [zy_R_3 hp hs] at p1 n1
  rw [zy_R_2 hs] at p2 n2
  omega
theorem zy_R_30 {c w lf lk : Nat → Int} {m sn : Nat → Nat → Int} (h : zy_fe (zy_fw c w (zy_50 m)) (zy_R c w m lf lk sn)) (hw : ∀ s, s < 10 → 0 ≤ w s ∧ w s ≤ 20) {p s : Nat} (hp : p < 4) (hs : s < 10) : (0 < zy_R c w m lf lk sn (1 + p) (5 + s) ↔ 0 < m p s) ∧ (0 < m p s → 30 ≤ zy_R c w m lf lk sn (1 + p) (5 + s)) := by
  have q := zy_R_20 h hp hs
  have q2 := hw s hs
  have q3 := (h.1 (1 + p) (5 + s) (by omega) (by omega)).1
  rw [zy_R_1 hp hs] at q3 ⊢
  unfold zy_50 at q3 ⊢
  by_cases e : 0 < m p s
  · rw [if_pos e] at q3 ⊢
    exact ⟨⟨fun _ => e, fun _ => by omega⟩, fun _ => by omega⟩
  · rw [if_neg e] at q3 ⊢
    exact ⟨⟨fun z => by omega, fun z => absurd z e⟩, fun z => absurd z e⟩
/-! how far a sending has come: n on the way back from 15 to v -/
noncomputable def zy_wk (Ri R C : Nat → Nat → Int) (pi : Nat → Int) (n : Int) (v : Nat) : Prop := (∀ a b, a < 16 → b < 16 → R a b + R b a = Ri a b + Ri b a) ∧ (∀ w, w < 16 → zy_S (R w) 16 = zy_S (Ri w) 16 + (if w = 15 then n else 0) - (if w = v then n else 0)) ∧ zy_Q R C = zy_Q Ri C - 2 * (n * (pi 15 - pi v))
theorem zy_wk_0 {R C : Nat → Nat → Int} {pi : Nat → Int} {n : Int} : zy_wk R R C pi n 15 := by
  refine ⟨fun _ _ _ _ => rfl, fun w _ => by omega, ?_⟩
  rw [show pi 15 - pi 15 = 0 by omega, Int.mul_zero]
  omega
theorem zy_wk_s {Ri R R' C : Nat → Nat → Int} {pi : Nat → Int} {n : Int} {u v : Nat} (hs : zy_sp R R' u v n) (hu : u < 16) (hv : v < 16) (huv : u ≠ v) (hC : C u v + C v u = 0) (hc : C u v + pi u - pi v = 0) (h : zy_wk Ri R C pi n v) : zy_wk Ri R' C pi n u := by
  obtain ⟨h1, h2, h3⟩ := h
  have q1 := zy_sp_U hs huv
  have q2 := zy_sp_o hs hu hv huv
  have q3 := zy_sp_q hs hu hv huv hC
  refine ⟨fun a b ha hb => (q1 a b ha hb).trans (h1 a b ha hb), fun w hw => ?_, ?_⟩
  · have a1 := q2 w hw
    have a2 := h2 w hw
    generalize (if w = v then n else 0) = z1 at a1 a2
    generalize (if w = u then n else 0) = z2 at a1 ⊢
    generalize (if w = 15 then n else 0) = z3 at a2 ⊢
    omega
  · have e : n * (pi 15 - pi u) = n * (pi 15 - pi v) + n * C u v := by rw [← Int.mul_add, show pi 15 - pi v + C u v = pi 15 - pi u by omega]
    omega
/-- the next step's rooms -/
theorem zy_nx {Rg R R' C : Nat → Nat → Int} {F pi : Nat → Int} {b m : Nat → Nat} {v : Nat} {n : Int} (hfd : z_fd Rg C F b pi m) (hv : v < 16) (hF : F v < 1000000) (h0 : v ≠ 0) (hR : ∀ a b, a < 16 → b < 16 → 0 ≤ R a b) (N : ∀ x, z_oc b v x → n ≤ R (b x) x) (hs : zy_sp R R' (b v) v n) : ∀ x, z_oc b (b v) x → n ≤ R' (b x) x := fun x hx => by
  obtain ⟨c1, c2, c3, c4, c5⟩ := hfd.2 v hv h0 hF
  obtain ⟨k9, hk1, hk2⟩ := hx
  have hx9 := z_oc_m hfd k9 _ x c1 c2 hk1 hk2
  have hxb := hfd.2 x hx9.1 hx9.2.2.1 hx9.2.1
  have hxn := N x ((z_oc_s h0).2 (Or.inr ⟨k9, hk1, hk2⟩))
  have hxv : x ≠ v := fun q => by
    rw [q] at hx9
    omega
  by_cases q9 : b x = v ∧ x = b v
  · have q8 := hs.2.1
    have q7 := hR v (b v) hv c1
    have q6 : R' (b x) x = R' v (b v) := by rw [q9.1, ← q9.2]
    omega
  · rw [hs.2.2 _ _ hxb.1 hx9.1 (fun q => hxv q.2) q9]
    exact hxn
/-- what is sent, and its miles, are told by two numbers -/
noncomputable def zy_FL (R0 R C : Nat → Nat → Int) (x y : Int32) : Prop := zy_fe R0 R ∧ ∃ A M : Int, x = Int32.ofInt A ∧ y = Int32.ofInt M ∧ A + zy_S (R 0) 16 = zy_S (R0 0) 16 ∧ 2 * M + zy_Q R C = zy_Q R0 C
theorem zy_FL_0 {R0 C : Nat → Nat → Int} (h : ∀ a b, a < 16 → b < 16 → 0 ≤ R0 a b) : zy_FL R0 R0 C 0 0 := ⟨⟨fun a b ha hb => ⟨h a b ha hb, rfl⟩, fun _ _ _ => rfl⟩, 0, 0, rfl, rfl, by omega, by omega⟩
theorem zy_FL_e {R0 R1 R2 C : Nat → Nat → Int} {x1 y1 x2 y2 : Int32} (hC : ∀ a b, a < 16 → b < 16 → C a b + C b a = 0 ∧ -999 ≤ C a b ∧ C a b ≤ 999) (hR : ∀ a b, a < 16 → b < 16 → R0 a b + R0 b a ≤ 100) (f1 : zy_FL R0 R1 C x1 y1) (f2 : zy_FL R0 R2 C x2 y2) (o1 : zy_op R1 C) (o2 : zy_op R2 C) : x1 = x2 ∧ y1 = y2 := by
  obtain ⟨g1, A1, M1, a1, b1, c1, d1⟩ := f1
  obtain ⟨g2, A2, M2, a2, b2, c2, d2⟩ := f2
  obtain ⟨e1, e2⟩ := zy_u hC hR g1 g2 o1 o2
  have eA : A1 = A2 := by omega
  have eM : M1 = M2 := by omega
  exact ⟨by rw [a1, a2, eA], by rw [b1, b2, eM]⟩
theorem zy_FL_c {R0 R0' R C C' : Nat → Nat → Int} {x y : Int32} (h0 : ∀ a b, a < 16 → b < 16 → R0' a b = R0 a b) (hC : ∀ a b, a < 16 → b < 16 → C' a b = C a b) (h : zy_FL R0 R C x y) : zy_FL R0' R C' x y := by
  obtain ⟨⟨g1, g2⟩, A, M, a, b, c, d⟩ := h
  have q : ∀ v, v < 16 → zy_S (R0' v) 16 = zy_S (R0 v) 16 := fun v hv => zy_S_c 16 (fun b hb => h0 v b hv hb)
  have q2 : ∀ Z : Nat → Nat → Int, zy_Q Z C' = zy_Q Z C := fun Z => zy_S_c 16 (fun v hv => zy_S_c 16 (fun b hb => by
    show Z v b * C' v b = Z v b * C v b
    rw [hC v b hv hb]))
  have q3 : zy_Q R0' C = zy_Q R0 C := zy_S_c 16 (fun v hv => zy_S_c 16 (fun b hb => by
    show R0' v b * C v b = R0 v b * C v b
    rw [h0 v b hv hb]))
  refine ⟨⟨fun a b ha hb => ?_, fun v h1 h2 => ?_⟩, A, M, a, b, ?_, ?_⟩
  · rw [h0 a b ha hb, h0 b a hb ha]
    exact g1 a b ha hb
  · rw [q v (by omega)]
    exact g2 v h1 h2
  · rw [q 0 (by decide)]
    exact c
  · rw [q2, q2, q3]
    exact d
theorem zy_op_c {R C C' : Nat → Nat → Int} (hC : ∀ a b, a < 16 → b < 16 → C' a b = C a b) (h : zy_op R C) : zy_op R C' := by
  obtain ⟨pi, h1, h2⟩ := h
  exact ⟨pi, fun a b ha hb hr => by rw [hC a b ha hb]; exact h1 a b ha hb hr, h2⟩
/-- a sending is through: n more are sent -/
theorem zy_fe_s {R0 R R' C : Nat → Nat → Int} {pi : Nat → Int} {n : Int} (h : zy_fe R0 R) (hR : ∀ a b, a < 16 → b < 16 → 0 ≤ R' a b) (hw : zy_wk R R' C pi n 0) : zy_fe R0 R' ∧ zy_S (R' 0) 16 = zy_S (R 0) 16 - n := by
  obtain ⟨w1, w2, w3⟩ := hw
  refine ⟨⟨fun a b ha hb => ⟨hR a b ha hb, (w1 a b ha hb).trans (h.1 a b ha hb).2⟩, fun v h1 h2 => ?_⟩, ?_⟩
  · have q := w2 v (by omega)
    rw [if_neg (show ¬ v = 15 by omega), if_neg (show ¬ v = 0 by omega)] at q
    have q2 := h.2 v h1 h2
    omega
  · have q := w2 0 (by decide)
    rw [if_neg (show ¬ (0 : Nat) = 15 by decide), if_pos rfl] at q
    omega
theorem zy_FL_s {R0 R R' C : Nat → Nat → Int} {pi : Nat → Int} {x y n f x1 z y1 : Int32} (h : zy_FL R0 R C x y) (hR : ∀ a b, a < 16 → b < 16 → 0 ≤ R' a b) (hw : zy_wk R R' C pi n.toInt 0) (hf : pi 15 - pi 0 = f.toInt) (ex : x1 = x + n) (ez : z = n * f) (ey : y1 = y + z) : zy_FL R0 R' C x1 y1 := by
  obtain ⟨g, A, M, a, b, c, d⟩ := h
  obtain ⟨q1, q2⟩ := zy_fe_s g hR hw
  have q3 := hw.2.2
  rw [hf] at q3
  refine ⟨q1, A + n.toInt, M + n.toInt * f.toInt, ?_, ?_, by omega, by omega⟩
  · rw [ex, a, Int32.ofInt_add, Int32.ofInt_toInt]
  · rw [ey, ez, b, Int32.ofInt_add, Int32.ofInt_mul, Int32.ofInt_toInt, Int32.ofInt_toInt]
/-- steps of the miles -/
theorem zy_M_a {y z l m y1 : Int32} {M : Int} (h : y = Int32.ofInt M) (ez : z = l * m) (ey : y1 = y + z) : y1 = Int32.ofInt (M + l.toInt * m.toInt) := by
  rw [ey, ez, h, Int32.ofInt_add, Int32.ofInt_mul, Int32.ofInt_toInt, Int32.ofInt_toInt]
theorem zy_M_s {y z l m y1 : Int32} {M : Int} (h : y = Int32.ofInt M) (ez : z = l * m) (ey : y1 = y - z) : y1 = Int32.ofInt (M - l.toInt * m.toInt) := by
  rw [ey, ez, h, Int32.ofInt_sub, Int32.ofInt_mul, Int32.ofInt_toInt, Int32.ofInt_toInt]
/-! the reference's board -/
noncomputable def zy_cM (I : z_I) (sh : Int) (p : Nat) : Int := if (p : Int) = sh then 0 else (I 52 p).toInt
noncomputable def zy_wM (I : z_I) (s : Nat) : Int := (I 53 s).toInt
noncomputable def zy_mM (I : z_I) (p s : Nat) : Int := (I 54 (10 * p + s)).toInt
noncomputable def zy_0M (I : z_I) (sh : Int) : Nat → Nat → Int := zy_fw (zy_cM I sh) (zy_wM I) (zy_50 (zy_mM I))
noncomputable def zy_CM (I : z_I) : Nat → Nat → Int := zy_C (zy_mM I)
/-- how far it is laid -/
noncomputable def zy_LD (R0 C0 : Nat → Nat → Int) (P : Nat → Nat → Prop) (R C : Nat → Nat → Int) : Prop := ∀ a b, a < b → b < 16 → (P a b → R a b = R0 a b ∧ C a b = C0 a b) ∧ (¬ P a b → R a b = 0 ∧ C a b = 0)
noncomputable def zy_P1 (p a b : Nat) : Prop := (a = 0 ∧ b ≤ p) ∨ (1 ≤ a ∧ a ≤ p)
noncomputable def zy_P2 (p s a b : Nat) : Prop := (a = 0 ∧ b ≤ p + 1) ∨ (1 ≤ a ∧ a ≤ p) ∨ (a = p + 1 ∧ b < 5 + s)
noncomputable def zy_P3 (s a b : Nat) : Prop := a < 5 + s
/-- one edge is laid -/
noncomputable def zy_ED (R C R1 C1 : Nat → Nat → Int) (a b : Nat) (x y : Int) : Prop := R1 a b = x ∧ C1 a b = y ∧ ∀ c d, c < d → d < 16 → ¬ (c = a ∧ d = b) → R1 c d = R c d ∧ C1 c d = C c d
theorem zy_edg {I I1 I2 I3 : z_I} {a b i1 i2 i3 : Nat} {x y z : Int32} (e1 : I1 = z_up I 55 i1 x) (e2 : I2 = z_up I1 56 i2 y) (e3 : I3 = z_up I2 56 i3 z) (h1 : i1 = 16 * a + b) (h2 : i2 = 16 * a + b) (h3 : i3 = 16 * b + a) (hab : a < b) (hb : b < 16) : zy_ED (z_RM I) (z_CM I) (z_RM I3) (z_CM I3) a b x.toInt y.toInt := by
  subst h1 h2 h3
  refine ⟨?_, ?_, fun c d hc hd q => ⟨?_, ?_⟩⟩
  · show (I3 55 (16 * a + b)).toInt = _
    rw [e3, z_up_n (by decide), e2, z_up_n (by decide), e1, z_up_s]
  · show (I3 56 (16 * a + b)).toInt = _
    rw [e3, z_up_k (by omega), e2, z_up_s]
  · show (I3 55 (16 * c + d)).toInt = _
    rw [e3, z_up_n (by decide), e2, z_up_n (by decide), e1, z_up_k (by omega)]
    rfl
  · show (I3 56 (16 * c + d)).toInt = _
    rw [e3, z_up_k (by omega), e2, z_up_k (by omega), e1, z_up_n (by decide)]
    rfl
theorem zy_LD_0 {R0 C0 : Nat → Nat → Int} {I : z_I} (h : ∀ j : Nat, (j : Int) < 256 → I 55 j = 0 ∧ I 56 j = 0) (hR : ∀ b, R0 0 b = R0 0 b) : zy_LD R0 C0 (fun _ _ => False) (z_RM I) (z_CM I) := fun a b hab hb => ⟨fun z => z.elim, fun _ => by
  have q := h (16 * a + b) (by omega)
  refine ⟨?_, ?_⟩
  · show (I 55 (16 * a + b)).toInt = 0
    rw [q.1]
    decide
  · show (I 56 (16 * a + b)).toInt = 0
    rw [q.2]
    decide⟩
theorem zy_LD_e {R0 C0 R C R1 C1 : Nat → Nat → Int} {P P' : Nat → Nat → Prop} {a b : Nat} {x y : Int} (h : zy_LD R0 C0 P R C) (hE : zy_ED R C R1 C1 a b x y) (hx : x = R0 a b) (hy : y = C0 a b) (hP : ∀ c d, c < d → d < 16 → ¬ (c = a ∧ d = b) → (P c d → P' c d) ∧ (P' c d → ¬ P c d → R0 c d = 0 ∧ C0 c d = 0)) (hab : P' a b) : zy_LD R0 C0 P' R1 C1 := fun c d hc hd => by
  obtain ⟨e1, e2, e3⟩ := hE
  by_cases q : c = a ∧ d = b
  · obtain ⟨rfl, rfl⟩ := q
    exact ⟨fun _ => ⟨e1.trans hx, e2.trans hy⟩, fun z => absurd hab z⟩
  · obtain ⟨g1, g2⟩ := e3 c d hc hd q
    obtain ⟨k1, k2⟩ := h c d hc hd
    obtain ⟨p1, p2⟩ := hP c d hc hd q
    rw [g1, g2]
    by_cases w : P c d
    · exact ⟨fun _ => k1 w, fun z => absurd (p1 w) z⟩
    · refine ⟨fun z => ?_, fun _ => k2 w⟩
      obtain ⟨z1, z2⟩ := p2 z w
      rw [z1, z2]
      exact k2 w
theorem zy_LD_n {R0 C0 R C : Nat → Nat → Int} {P P' : Nat → Nat → Prop} (h : zy_LD R0 C0 P R C) (hP : ∀ c d, c < d → d < 16 → (P c d → P' c d) ∧ (P' c d → ¬ P c d → R0 c d = 0 ∧ C0 c d = 0)) : zy_LD R0 C0 P' R C := fun c d hc hd => by
  obtain ⟨k1, k2⟩ := h c d hc hd
  obtain ⟨p1, p2⟩ := hP c d hc hd
  by_cases w : P c d
  · exact ⟨fun _ => k1 w, fun z => absurd (p1 w) z⟩
  · refine ⟨fun z => ?_, fun _ => k2 w⟩
    obtain ⟨z1, z2⟩ := p2 z w
    rw [z1, z2]
    exact k2 w
/-- what the loops pass over is empty -/
noncomputable def zy_ZM (I : z_I) : Prop := (∀ p : Nat, p < 4 → (I 0 75).toInt ≤ (p : Int) → (I 52 p).toInt = 0) ∧ (∀ s : Nat, s < 10 → (I 0 54).toInt ≤ (s : Int) → (I 53 s).toInt = 0) ∧ ∀ p s : Nat, p < 4 → s < 10 → ((I 0 75).toInt ≤ (p : Int) ∨ (I 0 54).toInt ≤ (s : Int)) → (I 54 (10 * p + s)).toInt = 0
theorem zy_0M_0 {I : z_I} {sh : Int} {a b : Nat} (h0 : ∀ p, p < 4 → a = 0 → b = 1 + p → zy_cM I sh p = 0) (h1 : ∀ p s, p < 4 → s < 10 → a = 1 + p → b = 5 + s → zy_mM I p s = 0) (h2 : ∀ s, s < 10 → a = 5 + s → b = 15 → zy_wM I s = 0) (hab : a < b) : zy_0M I sh a b = 0 ∧ zy_CM I a b = 0 := by
  unfold zy_0M zy_CM zy_C
  rw [zy_fw_z (a := b) (b := a) (by omega)]
  rcases zy_cs a b with ⟨p, hp, g1, g2⟩ | ⟨p, s, hp, hs, g1, g2⟩ | ⟨s, hs, g1, g2⟩ | g1
  · have q := h0 p hp g1 g2
    subst g1 g2
    rw [zy_fw_0 hp, zy_fw_0 hp, q]
    exact ⟨rfl, rfl⟩
  · have q := h1 p s hp hs g1 g2
    subst g1 g2
    rw [zy_fw_1 hp hs, zy_fw_1 hp hs]
    unfold zy_50
    rw [q]
    exact ⟨rfl, rfl⟩
  · have q := h2 s hs g1 g2
    subst g1 g2
    rw [zy_fw_2 hs, zy_fw_2 hs, q]
    exact ⟨rfl, rfl⟩
  · rw [g1, g1]
    exact ⟨rfl, rfl⟩
theorem zy_L10 {I I1 : z_I} {sh : Int} (h : ∀ j : Nat, (j : Int) < 256 → I1 55 j = 0 ∧ I1 56 j = 0) : zy_LD (zy_0M I sh) (zy_CM I) (zy_P1 0) (z_RM I1) (z_CM I1) :=
  zy_LD_n (zy_LD_0 h (fun _ => rfl)) (fun c d hc hd => ⟨fun z => z.elim, fun z _ => by unfold zy_P1 at z; omega⟩)
theorem zy_L12 {I : z_I} {R C R1 C1 : Nat → Nat → Int} {sh x y : Int} {p b : Nat} (h : zy_LD (zy_0M I sh) (zy_CM I) (zy_P1 p) R C) (hE : zy_ED R C R1 C1 0 b x y) (hb : b = 1 + p) (hp : p < 4) (hx : x = (I 52 p).toInt) (hy : y = 0) (hs : ¬ (p : Int) = sh) : zy_LD (zy_0M I sh) (zy_CM I) (zy_P2 p 0) R1 C1 := by
  subst hb
  refine zy_LD_e h hE ?_ (hy.trans (zy_C_0 hp).symm) (fun c d hc hd q => ⟨fun z => by unfold zy_P1 at z; unfold zy_P2; omega, fun z w => ?_⟩) (by unfold zy_P2; omega)
  · unfold zy_0M
    rw [zy_fw_0 hp]
    unfold zy_cM
    rw [if_neg hs]
    exact hx
  · unfold zy_P2 at z
    unfold zy_P1 at w
    exact zy_0M_0 (fun p1 _ e1 e2 => by omega) (fun p1 s1 _ _ e1 e2 => by omega) (fun s1 _ e1 e2 => by omega) hc
theorem zy_L12n {I : z_I} {R C : Nat → Nat → Int} {sh : Int} {p : Nat} (h : zy_LD (zy_0M I sh) (zy_CM I) (zy_P1 p) R C) (hp : p < 4) (hs : (p : Int) = sh) : zy_LD (zy_0M I sh) (zy_CM I) (zy_P2 p 0) R C :=
  zy_LD_n h (fun c d hc hd => ⟨fun z => by unfold zy_P1 at z; unfold zy_P2; omega, fun z w => by
    unfold zy_P2 at z
    unfold zy_P1 at w
    refine zy_0M_0 (fun p1 _ e1 e2 => ?_) (fun p1 s1 _ _ e1 e2 => by omega) (fun s1 _ e1 e2 => by omega) hc
    have e3 : p1 = p := by omega
    subst e3
    unfold zy_cM
    rw [if_pos hs]⟩)
theorem zy_L22 {I : z_I} {R C R1 C1 : Nat → Nat → Int} {sh x y : Int} {p s a b : Nat} (h : zy_LD (zy_0M I sh) (zy_CM I) (zy_P2 p s) R C) (hE : zy_ED R C R1 C1 a b x y) (ha : a = 1 + p) (hb : b = 5 + s) (hp : p < 4) (hs : s < 10) (hx : x = 50) (hy : y = (I 54 (10 * p + s)).toInt) (h0 : 0 < y) : zy_LD (zy_0M I sh) (zy_CM I) (zy_P2 p (s + 1)) R1 C1 := by
  subst ha hb
  refine zy_LD_e h hE ?_ (hy.trans (zy_C_1 (m := zy_mM I) hp hs).symm) (fun c d hc hd q => ⟨fun z => by unfold zy_P2 at z ⊢; omega, fun z w => ?_⟩) (by unfold zy_P2; omega)
  · unfold zy_0M
    rw [zy_fw_1 hp hs]
    unfold zy_50
    rw [if_pos (show 0 < zy_mM I p s by unfold zy_mM; omega)]
    exact hx
  · exfalso
    unfold zy_P2 at z w
    omega
theorem zy_L22n {I : z_I} {R C : Nat → Nat → Int} {sh : Int} {p s : Nat} (h : zy_LD (zy_0M I sh) (zy_CM I) (zy_P2 p s) R C) (hp : p < 4) (hs : s < 10) (h0 : (I 54 (10 * p + s)).toInt = 0) : zy_LD (zy_0M I sh) (zy_CM I) (zy_P2 p (s + 1)) R C :=
  zy_LD_n h (fun c d hc hd => ⟨fun z => by unfold zy_P2 at z ⊢; omega, fun z w => by
    unfold zy_P2 at z w
    refine zy_0M_0 (fun p1 _ e1 e2 => by omega) (fun p1 s1 _ _ e1 e2 => ?_) (fun s1 _ e1 e2 => by omega) hc
    have e3 : p1 = p := by omega
    have e4 : s1 = s := by omega
    rw [e3, e4]
    exact h0⟩)
theorem zy_L21 {I : z_I} {R C : Nat → Nat → Int} {sh : Int} {p s : Nat} (h : zy_LD (zy_0M I sh) (zy_CM I) (zy_P2 p s) R C) (hp : p < 4) (hZ : zy_ZM I) (hs : (I 0 54).toInt ≤ (s : Int)) : zy_LD (zy_0M I sh) (zy_CM I) (zy_P1 (p + 1)) R C :=
  zy_LD_n h (fun c d hc hd => ⟨fun z => by unfold zy_P2 at z; unfold zy_P1; omega, fun z w => by
    unfold zy_P1 at z
    unfold zy_P2 at w
    exact zy_0M_0 (fun p1 _ e1 e2 => by omega) (fun p1 s1 g1 g2 e1 e2 => hZ.2.2 p1 s1 g1 g2 (Or.inr (by omega))) (fun s1 _ e1 e2 => by omega) hc⟩)
theorem zy_L13 {I : z_I} {R C : Nat → Nat → Int} {sh : Int} {p : Nat} (h : zy_LD (zy_0M I sh) (zy_CM I) (zy_P1 p) R C) (hp4 : p ≤ 4) (hZ : zy_ZM I) (hp : (I 0 75).toInt ≤ (p : Int)) : zy_LD (zy_0M I sh) (zy_CM I) (zy_P3 0) R C :=
  zy_LD_n h (fun c d hc hd => ⟨fun z => by unfold zy_P1 at z; unfold zy_P3; omega, fun z w => by
    unfold zy_P3 at z
    unfold zy_P1 at w
    refine zy_0M_0 (fun p1 g1 e1 e2 => ?_) (fun p1 s1 g1 g2 e1 e2 => hZ.2.2 p1 s1 g1 g2 (Or.inl (by omega))) (fun s1 _ e1 e2 => by omega) hc
    unfold zy_cM
    by_cases q : (p1 : Int) = sh
    · rw [if_pos q]
    · rw [if_neg q]
      exact hZ.1 p1 g1 (by omega)⟩)
theorem zy_L33 {I : z_I} {R C R1 C1 : Nat → Nat → Int} {sh x y : Int} {s a : Nat} (h : zy_LD (zy_0M I sh) (zy_CM I) (zy_P3 s) R C) (hE : zy_ED R C R1 C1 a 15 x y) (ha : a = 5 + s) (hs : s < 10) (hx : x = (I 53 s).toInt) (hy : y = 0) : zy_LD (zy_0M I sh) (zy_CM I) (zy_P3 (s + 1)) R1 C1 := by
  subst ha
  refine zy_LD_e h hE (hx.trans (zy_fw_2 (w := zy_wM I) hs).symm) (hy.trans (zy_C_2 hs).symm) (fun c d hc hd q => ⟨fun z => by unfold zy_P3 at z ⊢; omega, fun z w => ?_⟩) (by unfold zy_P3; omega)
  unfold zy_P3 at z w
  exact zy_0M_0 (fun p1 _ e1 e2 => by omega) (fun p1 s1 _ _ e1 e2 => by omega) (fun s1 _ e1 e2 => by omega) hc
/-- the whole board is laid -/
theorem zy_LDe {I I1 : z_I} {sh : Int} {s : Nat} (h : zy_LD (zy_0M I sh) (zy_CM I) (zy_P3 s) (z_RM I1) (z_CM I1)) (hZ : zy_ZM I) (hs : (I 0 54).toInt ≤ (s : Int)) (hL : z_BL I1) : (∀ a b, a < 16 → b < 16 → z_RM I1 a b = zy_0M I sh a b) ∧ ∀ a b, a < 16 → b < 16 → z_CM I1 a b = zy_CM I a b := by
  have k : ∀ a b, a < b → b < 16 → z_RM I1 a b = zy_0M I sh a b ∧ z_CM I1 a b = zy_CM I a b := fun a b hab hb => by
    obtain ⟨k1, k2⟩ := h a b hab hb
    by_cases w : zy_P3 s a b
    · exact k1 w
    · obtain ⟨g1, g2⟩ := k2 w
      unfold zy_P3 at w
      obtain ⟨z1, z2⟩ := zy_0M_0 (I := I) (sh := sh) (a := a) (b := b) (fun p1 _ e1 e2 => by omega) (fun p1 s1 _ _ e1 e2 => by omega) (fun s1 g e1 e2 => hZ.2.1 s1 g (by omega)) hab
      rw [g1, g2, z1, z2]
      exact ⟨rfl, rfl⟩
  refine ⟨fun a b ha hb => ?_, fun a b ha hb => ?_⟩
  · by_cases e : a < b
    · exact (k a b e hb).1
    · have q := (hL a b ha hb).2
      have z : zy_0M I sh a b = 0 := zy_fw_z e
      omega
  · by_cases e : a < b
    · exact (k a b e hb).2
    · have q := (hL a b ha hb).1
      have z := zy_C_a (m := zy_mM I) a b
      by_cases e2 : b < a
      · have g := (k b a e2 ha).2
        show z_CM I1 a b = zy_C (zy_mM I) a b
        have g2 : z_CM I1 b a = zy_C (zy_mM I) b a := g
        omega
      · have e3 : a = b := by omega
        subst e3
        show z_CM I1 a a = zy_C (zy_mM I) a a
        omega
/-- what finds() leaves, told in full -/
noncomputable def zy_FD (I : z_I) : Prop := z_FM I 15 < 1000000 ∧ ∃ (pi : Nat → Int) (m : Nat → Nat), z_fd (z_RM I) (z_CM I) (z_FM I) (z_BM I) pi m ∧ z_rm (z_RM I) (z_CM I) pi ∧ pi 15 - pi 0 = z_FM I 15
theorem zy_FDi {L : z_L} {I K : z_I} {pi d : Nat → Int} {rk : Nat → Nat} (hf : z_fr L K I) (hrm : z_rm (z_RM I) (z_CM I) pi) (hcv : z_cvd (z_RM I) (z_CM I) d rk) (hT : ∃ h, z_tr (z_RM I) (z_CM I) pi (z_FM K) (z_BM K) h) (hs : z_swp (z_RM I) (z_CM I) (z_FM K) d rk 16 0 0) (hm : z_rg 56 (-999) 999 I) (hB : ∀ v, v < 16 → z_FM K v < 1000000 → z_FM K v ≤ 300000) (hL1 : L.all (fun e => e.1 != 55 && e.1 != 1000) = true := by decide) (hL2 : L.all (fun e => e.1 != 56 && e.1 != 1000) = true := by decide) : (z_FM K 15 < 1000000 → zy_FD K) ∧ (¬ z_FM K 15 < 1000000 → zy_op (z_RM K) (z_CM K)) := by
  obtain ⟨h, hT⟩ := hT
  have e1 : z_RM K = z_RM I := z_RM_c fun k => hf _ _ (z_wr_c hL1)
  have e2 : z_CM K = z_CM I := z_CM_c fun k => hf _ _ (z_wr_c hL2)
  have q := zy_fin hrm.1 hT hcv hs (fun a b ha hb => hm _) hB
  refine ⟨fun h15 => ⟨h15, ?_⟩, fun h15 => ?_⟩
  · obtain ⟨pi2, m, hfd, hpf⟩ := q.1 h15
    refine ⟨pi2, m, ?_⟩
    rw [e1, e2]
    exact ⟨hfd, ⟨hfd.1, hrm.2⟩, hpf⟩
  · rw [e1, e2]
    exact q.2 h15
theorem zy_FL_r {R0 R R' C : Nat → Nat → Int} {x y : Int32} (hR : ∀ a b, a < 16 → b < 16 → R' a b = R a b) (h : zy_FL R0 R C x y) : zy_FL R0 R' C x y := by
  obtain ⟨⟨g1, g2⟩, A, M, a, b, c, d⟩ := h
  have q : ∀ v, v < 16 → zy_S (R' v) 16 = zy_S (R v) 16 := fun v hv => zy_S_c 16 (fun b hb => hR v b hv hb)
  have q3 : zy_Q R' C = zy_Q R C := zy_S_c 16 (fun v hv => zy_S_c 16 (fun b hb => by
    show R' v b * C v b = R v b * C v b
    rw [hR v b hv hb]))
  refine ⟨⟨fun a b ha hb => ?_, fun v h1 h2 => ?_⟩, A, M, a, b, ?_, ?_⟩
  · rw [hR a b ha hb, hR b a hb ha]
    exact g1 a b ha hb
  · rw [q v (by omega)]
    exact g2 v h1 h2
  · rw [q 0 (by decide)]
    exact c
  · rw [q3]
    exact d
theorem zy_wk_c {Ri R C C' : Nat → Nat → Int} {pi : Nat → Int} {n : Int} {v : Nat} (hC : ∀ a b, a < 16 → b < 16 → C' a b = C a b) (h : zy_wk Ri R C pi n v) : zy_wk Ri R C' pi n v := by
  have q2 : ∀ Z : Nat → Nat → Int, zy_Q Z C' = zy_Q Z C := fun Z => zy_S_c 16 (fun v hv => zy_S_c 16 (fun b hb => by
    show Z v b * C' v b = Z v b * C v b
    rw [hC v b hv hb]))
  refine ⟨h.1, h.2.1, ?_⟩
  rw [q2, q2]
  exact h.2.2
noncomputable def L_X12_edge_y : z_L := [(55, 999), (56, 999)]
set_option maxHeartbeats 8000000 in
set_option maxRecDepth 100000 in
theorem sx_X12_edge_y (l : Launch) (G : z_G) (ad : Nat → Nat) (I : z_I) (J : z_J) (hArm : z_rg 55 0 100 I) (hAmi : z_rg 56 (-999) 999 I) (a1 : Int32) (a2 : Int32) (a3 : Int32) (a4 : Int32) (q1 : 0 ≤ a1.toInt ∧ a1.toInt + 1 ≤ a2.toInt) (q2 : a2.toInt ≤ 15) (q3 : 0 ≤ a3.toInt ∧ a3.toInt ≤ 50) (q4 : 0 ≤ a4.toInt ∧ a4.toInt ≤ 999) (hBL : z_BL I) : z_Mv l yX12_edge wsX12_edge { frames := 1, cells := 0, slots := 0, locals := 12 } [.ref (ad 0), .int a1, .int a2, .int a3, .int a4] G (shM, ad, I, J, PM ad) (fun u1 => ∃ (I1 : z_I) (J1 : z_J), u1 = (shM, ad, I1, J1, PM ad) ∧ z_rg 55 0 100 I1 ∧ z_rg 56 (-999) 999 I1 ∧ z_fr L_X12_edge_y I1 I ∧ z_BL I1 ∧ zy_ED (z_RM I) (z_CM I) (z_RM I1) (z_CM I1) a1.toNatClampNeg a2.toNatClampNeg a3.toInt a4.toInt) 0 0 := by
  intro sz
  refine z_headQ (cc := cX12_edge) (maxL := 5) (ret := none) (by decide) rfl (Nat.le_of_ble_eq_true rfl) ?_
  intro p e s m below meth c0 ls hIn hK hsz hW hl
  obtain ⟨hx, hb, hr, hml, hown, hts, hlocks, hname⟩ := hIn
  subst hsz
  have hown : s.vm.findClass RX12 = some m.cls := hown
  have hA : ∀ q : Nat, s.heap.size ≤ q → z_A (shM, ad, I, J, PM ad) s.heap.size q := fun q h => Or.inr h
  generalize hAe : z_A (shM, ad, I, J, PM ad) s.heap.size = A at *
  have hS : va_S A s.heap s.heap [] := va_S.rf
  have hl : lv_has ls 5 [(0, .ref (ad 0)), (1, .int a1), (2, .int a2), (3, .int a3), (4, .int a4)] := hl
  refine lv_aload_n hx hb dX12_edge_0 rfl (lv_at hl 0 rfl) ?_
  refine z_get (T := TX12) (N := 96) (ci := 12) (i := 0) (v := .ref (ad 55)) hx hb hts zj_X12_edge_X12 hown hK hW rfl rfl 79 (by decide) (hts (.fieldLink RX12 181 "PetrolBoardModel" "room" "[I") (me_s (me_l (List.mem_of_getElem? (i := 0) rfl)))) (fun _ h => h) rfl dX12_edge_1 ?_
  refine lv_bipush (v := 16) hx hb dX12_edge_4 (by decide) ?_
  refine lv_iload_n hx hb dX12_edge_6 rfl (lv_at hl 1 rfl) ?_
  refine lv_imul hx hb dX12_edge_7 ?_
  refine lv_topi (fun x1 ex1 => ?_)
  have tx1 : x1.toInt = 16 * a1.toInt := z_tmul ex1 z_l16 rfl (by omega) (by omega)
  refine lv_iload_n hx hb dX12_edge_8 rfl (lv_at hl 2 rfl) ?_
  refine lv_iadd hx hb dX12_edge_9 ?_
  refine lv_topi (fun x2 ex2 => ?_)
  have tx2 : x2.toInt = x1.toInt + a2.toInt := z_tadd ex2 rfl rfl (by omega) (by omega)
  refine lv_iload_n hx hb dX12_edge_10 rfl (lv_at hl 3 rfl) ?_
  refine z_iast (i := 55) hx hb hK hW hS rfl (z_ix rfl (by omega) (by omega)) dX12_edge_11 (fun H locs hz1 hW hS => ?_)
  obtain ⟨I3, eI3⟩ : ∃ K : z_I, K = z_up I 55 x2.toNatClampNeg a3 := ⟨_, rfl⟩
  rw [← eI3] at hW
  have f4 := z_fr_a z_fr_0 (show z_wa L_X12_edge_y 55 = true by decide) eI3
  have a5 := z_rg_a hArm (by omega) eI3
  have a6 := z_rg_n hAmi (by decide) eI3
  refine lv_aload_n hx hb dX12_edge_12 rfl (lv_at hl 0 rfl) ?_
  refine z_get (T := TX12) (N := 96) (ci := 12) (i := 0) (v := .ref (ad 56)) hx hb hts zj_X12_edge_X12 hown hK hW rfl rfl 80 (by decide) (hts (.fieldLink RX12 184 "PetrolBoardModel" "miles" "[I") (me_s (me_l (List.mem_of_getElem? (i := 1) rfl)))) (fun _ h => h) rfl dX12_edge_13 ?_
  refine lv_bipush (v := 16) hx hb dX12_edge_16 (by decide) ?_
  refine lv_iload_n hx hb dX12_edge_18 rfl (lv_at hl 1 rfl) ?_
  refine lv_imul hx hb dX12_edge_19 ?_
  refine lv_topi (fun x7 ex7 => ?_)
  have tx7 : x7.toInt = 16 * a1.toInt := z_tmul ex7 z_l16 rfl (by omega) (by omega)
  refine lv_iload_n hx hb dX12_edge_20 rfl (lv_at hl 2 rfl) ?_
  refine lv_iadd hx hb dX12_edge_21 ?_
  refine lv_topi (fun x8 ex8 => ?_)
  have tx8 : x8.toInt = x7.toInt + a2.toInt := z_tadd ex8 rfl rfl (by omega) (by omega)
  refine lv_iload hx hb dX12_edge_22 (lv_at hl 4 rfl) ?_
  refine z_iast (i := 56) hx hb hK hW hS rfl (z_ix rfl (by omega) (by omega)) dX12_edge_24 (fun H locs hz1 hW hS => ?_)
  obtain ⟨I9, eI9⟩ : ∃ K : z_I, K = z_up I3 56 x8.toNatClampNeg a4 := ⟨_, rfl⟩
  rw [← eI9] at hW
  have f10 := z_fr_a f4 (show z_wa L_X12_edge_y 56 = true by decide) eI9
  have a11 := z_rg_n a5 (by decide) eI9
  have a12 := z_rg_a a6 (by omega) eI9
  refine lv_aload_n hx hb dX12_edge_25 rfl (lv_at hl 0 rfl) ?_
  refine z_get (T := TX12) (N := 96) (ci := 12) (i := 0) (v := .ref (ad 56)) hx hb hts zj_X12_edge_X12 hown hK hW rfl rfl 80 (by decide) (hts (.fieldLink RX12 184 "PetrolBoardModel" "miles" "[I") (me_s (me_l (List.mem_of_getElem? (i := 1) rfl)))) (fun _ h => h) rfl dX12_edge_26 ?_
  refine lv_bipush (v := 16) hx hb dX12_edge_29 (by decide) ?_
  refine lv_iload_n hx hb dX12_edge_31 rfl (lv_at hl 2 rfl) ?_
  refine lv_imul hx hb dX12_edge_32 ?_
  refine lv_topi (fun x13 ex13 => ?_)
  have tx13 : x13.toInt = 16 * a2.toInt := z_tmul ex13 z_l16 rfl (by omega) (by omega)
  refine lv_iload_n hx hb dX12_edge_33 rfl (lv_at hl 1 rfl) ?_
  refine lv_iadd hx hb dX12_edge_34 ?_
  refine lv_topi (fun x14 ex14 => ?_)
  have tx14 : x14.toInt = x13.toInt + a1.toInt := z_tadd ex14 rfl rfl (by omega) (by omega)
  refine lv_iload hx hb dX12_edge_35 (lv_at hl 4 rfl) ?_
  refine lv_ineg hx hb dX12_edge_37 ?_
  refine lv_topi (fun x15 ex15 => ?_)
  have tx15 : x15.toInt = -a4.toInt := z_tneg ex15 rfl (by omega)
  refine z_iast (i := 56) hx hb hK hW hS rfl (z_ix rfl (by omega) (by omega)) dX12_edge_38 (fun H locs hz1 hW hS => ?_)
  obtain ⟨I16, eI16⟩ : ∃ K : z_I, K = z_up I9 56 x14.toNatClampNeg x15 := ⟨_, rfl⟩
  rw [← eI16] at hW
  have f17 := z_fr_a f10 (show z_wa L_X12_edge_y 56 = true by decide) eI16
  have a18 := z_rg_n a11 (by decide) eI16
  have a19 := z_rg_a a12 (by omega) eI16
  exact z_vret hx hb hr hK hS (Nat.le_of_ble_eq_true rfl) (Nat.le_of_ble_eq_true rfl) hlocks dX12_edge_39 (shM, ad, I16, J, PM ad) hW ⟨I16, J, rfl, a18, a19, f17, ⟨z_edg (a := a1.toNatClampNeg) (b := a2.toNatClampNeg) hBL eI3 eI9 eI16 (z_ixm (a := a1) (b := a2) (by omega) (by omega) (by omega)) (z_ixm (a := a1) (b := a2) (by omega) (by omega) (by omega)) (z_ixm (a := a2) (b := a1) (by omega) (by omega) (by omega)) (by have g1 := z_clt (x := a1) rfl (by omega); have g2 := z_clt (x := a2) rfl (by omega); omega) (by have g2 := z_clt (x := a2) rfl (by omega); omega) (by omega) (by omega) (by omega), zy_edg (a := a1.toNatClampNeg) (b := a2.toNatClampNeg) eI3 eI9 eI16 (z_ixm (a := a1) (b := a2) (by omega) (by omega) (by omega)) (z_ixm (a := a1) (b := a2) (by omega) (by omega) (by omega)) (z_ixm (a := a2) (b := a1) (by omega) (by omega) (by omega)) (by have g1 := z_clt (x := a1) rfl (by omega); have g2 := z_clt (x := a2) rfl (by omega); omega) (by have g2 := z_clt (x := a2) rfl (by omega); omega)⟩⟩
noncomputable def L_X12_finds_y : z_L := [(57, 999), (58, 999)]
set_option maxHeartbeats 8000000 in
set_option maxRecDepth 100000 in
theorem sx_X12_finds_y (l : Launch) (G : z_G) (ad : Nat → Nat) (I : z_I) (J : z_J) (hArm : z_rg 55 0 100 I) (hAmi : z_rg 56 (-999) 999 I) (hAbk : z_rg 58 0 15 I) (hAfr : z_rg 57 (-300000) 1000000 I) (hFP : z_FP I) : z_M l yX12_finds wsX12_finds { frames := 1, cells := 0, slots := 0, locals := 12 } [.ref (ad 0)] G (shM, ad, I, J, PM ad) (fun r u1 => ∃ (I1 : z_I) (J1 : z_J), u1 = (shM, ad, I1, J1, PM ad) ∧ z_rg 55 0 100 I1 ∧ z_rg 56 (-999) 999 I1 ∧ z_rg 58 0 15 I1 ∧ z_rg 57 (-300000) 1000000 I1 ∧ z_fr L_X12_finds_y I1 I ∧ ((r = 1 ∧ zy_FD I1) ∨ (r = 0 ∧ zy_op (z_RM I1) (z_CM I1)))) 0 0 := by
  intro sz
  refine z_headQ (cc := cX12_finds) (maxL := 4) (ret := (some .boolean)) (by decide) rfl (Nat.le_of_ble_eq_true rfl) ?_
  intro p e s m below meth c0 ls hIn hK hsz hW hl
  obtain ⟨hx, hb, hr, hml, hown, hts, hlocks, hname⟩ := hIn
  subst hsz
  have hown : s.vm.findClass RX12 = some m.cls := hown
  have hA : ∀ q : Nat, s.heap.size ≤ q → z_A (shM, ad, I, J, PM ad) s.heap.size q := fun q h => Or.inr h
  generalize hAe : z_A (shM, ad, I, J, PM ad) s.heap.size = A at *
  have hS : va_S A s.heap s.heap [] := va_S.rf
  have hl : lv_has ls 4 [(0, .ref (ad 0))] := hl
  obtain ⟨pi, hrm⟩ := id hFP
  obtain ⟨d, rk, hcv⟩ := z_ex hrm.1
  refine lv_iconst (v := 0) hx hb dX12_finds_0 (by decide) ?_
  refine lv_istore_n (lv' := [(1, .int 0), (0, .ref (ad 0))]) hx hb dX12_finds_1 rfl hl (by decide) rfl (fun ls hl => ?_)
  have lp1 : ∀ (f : Nat) (y2 : Int32) (I3 : z_I) (J4 : z_J) (H : Heap) (locs : List Loc) (ls : Array Slot), (2147483647 < y2.toInt + (f : Int)) → (0 ≤ y2.toInt) → (y2.toInt ≤ 16) → (z_rg 55 0 100 I3) → (z_rg 56 (-999) 999 I3) → (z_rg 58 0 15 I3) → (z_rg 57 (-300000) 1000000 I3) → (∀ j : Nat, (j : Int) < y2.toInt → I3 57 j = 1000000) → (z_fr L_X12_finds_y I3 I) → z_W G A (shM, ad, I3, J4, PM ad) H → va_S A s.heap H locs → lv_has ls 4 [(1, .int y2), (0, .ref (ad 0))] → W p l e (headSpec wsX12_finds { frames := 1, cells := 0, slots := 0, locals := 12 }).room s m ([.ref (ad 0)] : List Value).toArray below meth c0 H locs 0 0 (MQ below (va_Qi (fun (r : Int32) (u1 : z_U) => ∃ (I1 : z_I) (J1 : z_J), u1 = (shM, ad, I1, J1, PM ad) ∧ z_rg 55 0 100 I1 ∧ z_rg 56 (-999) 999 I1 ∧ z_rg 58 0 15 I1 ∧ z_rg 57 (-300000) 1000000 I1 ∧ z_fr L_X12_finds_y I1 I ∧ ((r = 1 ∧ zy_FD I1) ∨ (r = 0 ∧ zy_op (z_RM I1) (z_CM I1)))) (z_B G A) A) ([.ref (ad 0)] : List Value).toArray s 0 0 A) (F0 m 2 ls []) := by
    intro f
    induction f with
    | zero => intro y2 I3 J4 H locs ls lp1m lp1l1 lp1u1 lp1Arm lp1Ami lp1Abk lp1Afr lp1I0 lp1fr hW hS hl; exact absurd lp1m (by have := Int32.toInt_lt y2; have := Int32.le_toInt y2; omega)
    | succ f lp1ih =>
      intro y2 I3 J4 H locs ls lp1m lp1l1 lp1u1 lp1Arm lp1Ami lp1Abk lp1Afr lp1I0 lp1fr hW hS hl
      refine lv_iload_n hx hb dX12_finds_2 rfl (lv_at hl 0 rfl) ?_
      refine lv_bipush (v := 16) hx hb dX12_finds_3 (by decide) ?_
      refine lv_icmp_ge (tgt := 23) hx hb dX12_finds_5 (by decide) (fun c5 => ?_) (fun c5 => ?_)
      · have g6 := z_f_ge rfl z_l16 c5
        refine lv_aload_n hx hb dX12_finds_23 rfl (lv_at hl 1 rfl) ?_
        refine z_get (T := TX12) (N := 96) (ci := 12) (i := 0) (v := .ref (ad 57)) hx hb hts zj_X12_finds_X12 hown hK hW rfl rfl 81 (by decide) (hts (.fieldLink RX12 187 "PetrolBoardModel" "far" "[I") (me_s (me_l (List.mem_of_getElem? (i := 0) rfl)))) (fun _ h => h) rfl dX12_finds_24 ?_
        refine lv_iconst (v := 0) hx hb dX12_finds_27 (by decide) ?_
        refine lv_iconst (v := 0) hx hb dX12_finds_28 (by decide) ?_
        refine z_iast (i := 57) hx hb hK hW hS rfl (z_inl (by decide)) dX12_finds_29 (fun H locs hz1 hW hS => ?_)
        obtain ⟨I7, eI7⟩ : ∃ K : z_I, K = z_up I3 57 (0 : Int32).toNatClampNeg 0 := ⟨_, rfl⟩
        rw [← eI7] at hW
        have f8 := z_fr_a lp1fr (show z_wa L_X12_finds_y 57 = true by decide) eI7
        have a9 := z_rg_n lp1Arm (by decide) eI7
        have a10 := z_rg_n lp1Ami (by decide) eI7
        have a11 := z_rg_n lp1Abk (by decide) eI7
        have a12 := z_rg_a lp1Afr (by decide) eI7
        have hFa : z_FM I7 0 = 0 := by show (I7 57 0).toInt = 0; rw [eI7, z_n0, z_up_s]; decide
        have hFb : ∀ v, v < 16 → v ≠ 0 → z_FM I7 v = 1000000 := fun v hv h0 => by show (I7 57 v).toInt = 1000000; rw [eI7, z_n0, z_up_k h0, lp1I0 v (by omega)]; decide
        have hF0 := hFa
        have hFv : ∀ v, v < 16 → z_FM I7 v < 1000000 → z_FM I7 v = 0 := fun v hv hf => by by_cases q9 : v = 0; (· (rw [q9]; exact hFa)); (· (have := hFb v hv q9; omega))
        have hT0 : ∃ h, z_tr (z_RM I) (z_CM I) pi (z_FM I7) (z_BM I7) h := ⟨fun _ => 0, hFa, fun v hv => (by by_cases q9 : v = 0; (· (rw [q9, hFa]; decide)); (· (rw [hFb v hv q9]; decide))), fun v hv hf => (by by_cases q9 : v = 0; (· (rw [q9, hFa]; omega)); (· (have := hFb v hv q9; omega))), fun v hv h0 hf => (by have := hFb v hv h0; omega)⟩
        refine lv_iconst (v := 0) hx hb dX12_finds_30 (by decide) ?_
        refine lv_istore_n (lv' := [(1, .int 0), (0, .ref (ad 0))]) hx hb dX12_finds_31 rfl hl (by decide) rfl (fun ls hl => ?_)
        have lp13 : ∀ (f : Nat) (y14 : Int32) (I15 : z_I) (J16 : z_J) (H : Heap) (locs : List Loc) (ls : Array Slot), (2147483647 < y14.toInt + (f : Int)) → (0 ≤ y14.toInt) → (y14.toInt ≤ 16) → (z_rg 55 0 100 I15) → (z_rg 56 (-999) 999 I15) → (z_rg 58 0 15 I15) → (z_rg 57 (-300000) 1000000 I15) → (∃ h, z_tr (z_RM I) (z_CM I) pi (z_FM I15) (z_BM I15) h) → (z_swp (z_RM I) (z_CM I) (z_FM I15) d rk y14.toNatClampNeg 0 0) → (∀ v, v < 16 → z_FM I15 v < 1000000 → -999 * (16 * y14.toInt) ≤ z_FM I15 v ∧ z_FM I15 v ≤ 999 * (16 * y14.toInt)) → (z_fr L_X12_finds_y I15 I) → z_W G A (shM, ad, I15, J16, PM ad) H → va_S A s.heap H locs → lv_has ls 4 [(1, .int y14), (0, .ref (ad 0))] → W p l e (headSpec wsX12_finds { frames := 1, cells := 0, slots := 0, locals := 12 }).room s m ([.ref (ad 0)] : List Value).toArray below meth c0 H locs 0 0 (MQ below (va_Qi (fun (r : Int32) (u1 : z_U) => ∃ (I1 : z_I) (J1 : z_J), u1 = (shM, ad, I1, J1, PM ad) ∧ z_rg 55 0 100 I1 ∧ z_rg 56 (-999) 999 I1 ∧ z_rg 58 0 15 I1 ∧ z_rg 57 (-300000) 1000000 I1 ∧ z_fr L_X12_finds_y I1 I ∧ ((r = 1 ∧ zy_FD I1) ∨ (r = 0 ∧ zy_op (z_RM I1) (z_CM I1)))) (z_B G A) A) ([.ref (ad 0)] : List Value).toArray s 0 0 A) (F0 m 32 ls []) := by
          intro f
          induction f with
          | zero => intro y14 I15 J16 H locs ls lp13m lp13l1 lp13u1 lp13Arm lp13Ami lp13Abk lp13Afr lp13T lp13S lp13B lp13fr hW hS hl; exact absurd lp13m (by have := Int32.toInt_lt y14; have := Int32.le_toInt y14; omega)
          | succ f lp13ih =>
            intro y14 I15 J16 H locs ls lp13m lp13l1 lp13u1 lp13Arm lp13Ami lp13Abk lp13Afr lp13T lp13S lp13B lp13fr hW hS hl
            refine lv_iload_n hx hb dX12_finds_32 rfl (lv_at hl 0 rfl) ?_
            refine lv_bipush (v := 16) hx hb dX12_finds_33 (by decide) ?_
            refine lv_icmp_ge (tgt := 159) hx hb dX12_finds_35 (by decide) (fun c17 => ?_) (fun c17 => ?_)
            · have g18 := z_f_ge rfl z_l16 c17
              refine lv_aload_n hx hb dX12_finds_159 rfl (lv_at hl 1 rfl) ?_
              refine z_get (T := TX12) (N := 96) (ci := 12) (i := 0) (v := .ref (ad 57)) hx hb hts zj_X12_finds_X12 hown hK hW rfl rfl 81 (by decide) (hts (.fieldLink RX12 187 "PetrolBoardModel" "far" "[I") (me_s (me_l (List.mem_of_getElem? (i := 0) rfl)))) (fun _ h => h) rfl dX12_finds_160 ?_
              refine lv_bipush (v := 15) hx hb dX12_finds_163 (by decide) ?_
              refine z_iald (i := 57) hx hb hK hW rfl (z_inl (by decide)) dX12_finds_165 ?_
              refine lv_topi (fun x19 ex19 => ?_)
              have h20 : (-300000) ≤ x19.toInt ∧ x19.toInt ≤ 1000000 := by rw [ex19]; exact lp13Afr _
              refine lv_ldcw (v := 1000000) hx hb hown (hts (.constant RX12 496 (1000000)) (me_s (me_l (List.mem_of_getElem? (i := 1) rfl)))) dX12_finds_166 ?_
              refine lv_icmp_ge (tgt := 176) hx hb dX12_finds_169 (by decide) (fun c21 => ?_) (fun c21 => ?_)
              · have g22 := z_f_ge rfl z_l1000000 c21
                refine lv_iconst (v := 0) hx hb dX12_finds_176 (by decide) ?_
                exact z_zret hx hb hr (by decide) hK hS (Nat.le_of_ble_eq_true rfl) (Nat.le_of_ble_eq_true rfl) hlocks dX12_finds_177 (shM, ad, I15, J16, PM ad) hW ⟨I15, J16, rfl, lp13Arm, lp13Ami, lp13Abk, lp13Afr, lp13fr, Or.inr ⟨rfl, (zy_FDi lp13fr hrm hcv lp13T (by have q := lp13S; rw [show y14.toNatClampNeg = 16 from by have := z_clt (x := y14) rfl (by omega); omega] at q; exact q) hAmi (fun v hv hf => by have := lp13B v hv hf; omega)).2 (fun z => by have q : (I15 57 15).toInt < 1000000 := z; rw [show I15 57 15 = x19 from (by rw [ex19, z_n15])] at q; omega)⟩⟩
              · have g23 := z_f_nge rfl z_l1000000 c21
                refine lv_iconst (v := 1) hx hb dX12_finds_172 (by decide) ?_
                refine lv_goto (tgt := 177) hx hb dX12_finds_173 (by decide) ?_
                exact z_zret hx hb hr (by decide) hK hS (Nat.le_of_ble_eq_true rfl) (Nat.le_of_ble_eq_true rfl) hlocks dX12_finds_177 (shM, ad, I15, J16, PM ad) hW ⟨I15, J16, rfl, lp13Arm, lp13Ami, lp13Abk, lp13Afr, lp13fr, Or.inl ⟨rfl, (zy_FDi lp13fr hrm hcv lp13T (by have q := lp13S; rw [show y14.toNatClampNeg = 16 from by have := z_clt (x := y14) rfl (by omega); omega] at q; exact q) hAmi (fun v hv hf => by have := lp13B v hv hf; omega)).1 (by show (I15 57 15).toInt < 1000000; rw [show I15 57 15 = x19 from (by rw [ex19, z_n15])]; omega)⟩⟩
            · have g24 := z_f_nge rfl z_l16 c17
              refine lv_iconst (v := 0) hx hb dX12_finds_38 (by decide) ?_
              refine lv_istore_n (lv' := [(2, .int 0), (1, .int y14), (0, .ref (ad 0))]) hx hb dX12_finds_39 rfl hl (by decide) rfl (fun ls hl => ?_)
              have lp25 : ∀ (f : Nat) (y26 : Int32) (I27 : z_I) (J28 : z_J) (H : Heap) (locs : List Loc) (ls : Array Slot), (2147483647 < y26.toInt + (f : Int)) → (0 ≤ y26.toInt) → (y26.toInt ≤ 16) → (z_rg 55 0 100 I27) → (z_rg 56 (-999) 999 I27) → (z_rg 58 0 15 I27) → (z_rg 57 (-300000) 1000000 I27) → (∃ h, z_tr (z_RM I) (z_CM I) pi (z_FM I27) (z_BM I27) h) → (z_swp (z_RM I) (z_CM I) (z_FM I27) d rk y14.toNatClampNeg y26.toNatClampNeg 0) → (∀ v, v < 16 → z_FM I27 v < 1000000 → -999 * (16 * y14.toInt + y26.toInt) ≤ z_FM I27 v ∧ z_FM I27 v ≤ 999 * (16 * y14.toInt + y26.toInt)) → (z_fr L_X12_finds_y I27 I) → z_W G A (shM, ad, I27, J28, PM ad) H → va_S A s.heap H locs → lv_has ls 4 [(2, .int y26), (1, .int y14), (0, .ref (ad 0))] → W p l e (headSpec wsX12_finds { frames := 1, cells := 0, slots := 0, locals := 12 }).room s m ([.ref (ad 0)] : List Value).toArray below meth c0 H locs 0 0 (MQ below (va_Qi (fun (r : Int32) (u1 : z_U) => ∃ (I1 : z_I) (J1 : z_J), u1 = (shM, ad, I1, J1, PM ad) ∧ z_rg 55 0 100 I1 ∧ z_rg 56 (-999) 999 I1 ∧ z_rg 58 0 15 I1 ∧ z_rg 57 (-300000) 1000000 I1 ∧ z_fr L_X12_finds_y I1 I ∧ ((r = 1 ∧ zy_FD I1) ∨ (r = 0 ∧ zy_op (z_RM I1) (z_CM I1)))) (z_B G A) A) ([.ref (ad 0)] : List Value).toArray s 0 0 A) (F0 m 40 ls []) := by
                intro f
                induction f with
                | zero => intro y26 I27 J28 H locs ls lp25m lp25l2 lp25u2 lp25Arm lp25Ami lp25Abk lp25Afr lp25T lp25S lp25B lp25fr hW hS hl; exact absurd lp25m (by have := Int32.toInt_lt y26; have := Int32.le_toInt y26; omega)
                | succ f lp25ih =>
                  intro y26 I27 J28 H locs ls lp25m lp25l2 lp25u2 lp25Arm lp25Ami lp25Abk lp25Afr lp25T lp25S lp25B lp25fr hW hS hl
                  refine lv_iload_n hx hb dX12_finds_40 rfl (lv_at hl 0 rfl) ?_
                  refine lv_bipush (v := 16) hx hb dX12_finds_41 (by decide) ?_
                  refine lv_icmp_ge (tgt := 153) hx hb dX12_finds_43 (by decide) (fun c29 => ?_) (fun c29 => ?_)
                  · have g30 := z_f_ge rfl z_l16 c29
                    obtain ⟨x31, ex31⟩ : ∃ y : Int32, y = y14 + 1 := ⟨_, rfl⟩
                    have tx31 : x31.toInt = y14.toInt + 1 := z_tadd ex31 rfl z_l1 (by omega) (by omega)
                    refine lv_iinc (v := x31) (lv' := [(1, .int x31), (2, .int y26), (0, .ref (ad 0))]) hx hb dX12_finds_153 hl (k := 1) rfl (by rw [ex31]; rfl) (by decide) rfl (fun ls hl => ?_)
                    refine lv_goto (tgt := 32) hx hb dX12_finds_156 (by decide) ?_
                    exact lp13ih x31 I27 J28 _ _ _ (by omega) (by omega) (by omega) lp25Arm lp25Ami lp25Abk lp25Afr lp25T (by rw [z_ss (x := y14) (y := x31) (by omega) (by omega)]; refine z_swp_k hcv (by obtain ⟨_, q⟩ := lp25T; exact q.1) ?_; have q := lp25S; rw [show y26.toNatClampNeg = 16 from by have := z_clt (x := y26) rfl (by omega); omega] at q; exact q) (fun v hv hf => by have := lp25B v hv hf; omega) lp25fr hW hS (lv_sub hl [0, 2] rfl)
                  · have g32 := z_f_nge rfl z_l16 c29
                    refine lv_iconst (v := 0) hx hb dX12_finds_46 (by decide) ?_
                    refine lv_istore_n (lv' := [(3, .int 0), (2, .int y26), (1, .int y14), (0, .ref (ad 0))]) hx hb dX12_finds_47 rfl hl (by decide) rfl (fun ls hl => ?_)
                    have lp33 : ∀ (f : Nat) (y34 : Int32) (I35 : z_I) (J36 : z_J) (H : Heap) (locs : List Loc) (ls : Array Slot), (2147483647 < y34.toInt + (f : Int)) → (0 ≤ y34.toInt) → (y34.toInt ≤ 16) → (z_rg 55 0 100 I35) → (z_rg 56 (-999) 999 I35) → (z_rg 58 0 15 I35) → (z_rg 57 (-300000) 1000000 I35) → (∃ h, z_tr (z_RM I) (z_CM I) pi (z_FM I35) (z_BM I35) h) → (z_swp (z_RM I) (z_CM I) (z_FM I35) d rk y14.toNatClampNeg y26.toNatClampNeg y34.toNatClampNeg) → (∀ v, v < 16 → z_FM I35 v < 1000000 → -999 * (16 * y14.toInt + y26.toInt + 1) ≤ z_FM I35 v ∧ z_FM I35 v ≤ 999 * (16 * y14.toInt + y26.toInt + 1)) → (z_FM I35 y26.toNatClampNeg < 1000000 → -999 * (16 * y14.toInt + y26.toInt) ≤ z_FM I35 y26.toNatClampNeg ∧ z_FM I35 y26.toNatClampNeg ≤ 999 * (16 * y14.toInt + y26.toInt)) → (z_fr L_X12_finds_y I35 I) → z_W G A (shM, ad, I35, J36, PM ad) H → va_S A s.heap H locs → lv_has ls 4 [(3, .int y34), (2, .int y26), (1, .int y14), (0, .ref (ad 0))] → W p l e (headSpec wsX12_finds { frames := 1, cells := 0, slots := 0, locals := 12 }).room s m ([.ref (ad 0)] : List Value).toArray below meth c0 H locs 0 0 (MQ below (va_Qi (fun (r : Int32) (u1 : z_U) => ∃ (I1 : z_I) (J1 : z_J), u1 = (shM, ad, I1, J1, PM ad) ∧ z_rg 55 0 100 I1 ∧ z_rg 56 (-999) 999 I1 ∧ z_rg 58 0 15 I1 ∧ z_rg 57 (-300000) 1000000 I1 ∧ z_fr L_X12_finds_y I1 I ∧ ((r = 1 ∧ zy_FD I1) ∨ (r = 0 ∧ zy_op (z_RM I1) (z_CM I1)))) (z_B G A) A) ([.ref (ad 0)] : List Value).toArray s 0 0 A) (F0 m 48 ls []) := by
                      intro f
                      induction f with
                      | zero => intro y34 I35 J36 H locs ls lp33m lp33l3 lp33u3 lp33Arm lp33Ami lp33Abk lp33Afr lp33T lp33S lp33B lp33E lp33fr hW hS hl; exact absurd lp33m (by have := Int32.toInt_lt y34; have := Int32.le_toInt y34; omega)
                      | succ f lp33ih =>
                        intro y34 I35 J36 H locs ls lp33m lp33l3 lp33u3 lp33Arm lp33Ami lp33Abk lp33Afr lp33T lp33S lp33B lp33E lp33fr hW hS hl
                        refine lv_iload_n hx hb dX12_finds_48 rfl (lv_at hl 0 rfl) ?_
                        refine lv_bipush (v := 16) hx hb dX12_finds_49 (by decide) ?_
                        refine lv_icmp_ge (tgt := 147) hx hb dX12_finds_51 (by decide) (fun c37 => ?_) (fun c37 => ?_)
                        · have g38 := z_f_ge rfl z_l16 c37
                          obtain ⟨x39, ex39⟩ : ∃ y : Int32, y = y26 + 1 := ⟨_, rfl⟩
                          have tx39 : x39.toInt = y26.toInt + 1 := z_tadd ex39 rfl z_l1 (by omega) (by omega)
                          refine lv_iinc (v := x39) (lv' := [(2, .int x39), (3, .int y34), (1, .int y14), (0, .ref (ad 0))]) hx hb dX12_finds_147 hl (k := 1) rfl (by rw [ex39]; rfl) (by decide) rfl (fun ls hl => ?_)
                          refine lv_goto (tgt := 40) hx hb dX12_finds_150 (by decide) ?_
                          exact lp25ih x39 I35 J36 _ _ _ (by omega) (by omega) (by omega) lp33Arm lp33Ami lp33Abk lp33Afr lp33T (by rw [z_ss (x := y26) (y := x39) (by omega) (by omega)]; refine z_swp_a ?_; have q := lp33S; rw [show y34.toNatClampNeg = 16 from by have := z_clt (x := y34) rfl (by omega); omega] at q; exact q) (fun v hv hf => by have := lp33B v hv hf; omega) lp33fr hW hS (lv_sub hl [0, 2, 3] rfl)
                        · have g40 := z_f_nge rfl z_l16 c37
                          refine lv_aload_n hx hb dX12_finds_54 rfl (lv_at hl 3 rfl) ?_
                          refine z_get (T := TX12) (N := 96) (ci := 12) (i := 0) (v := .ref (ad 55)) hx hb hts zj_X12_finds_X12 hown hK hW rfl rfl 79 (by decide) (hts (.fieldLink RX12 181 "PetrolBoardModel" "room" "[I") (me_s (me_l (List.mem_of_getElem? (i := 2) rfl)))) (fun _ h => h) rfl dX12_finds_55 ?_
                          refine lv_bipush (v := 16) hx hb dX12_finds_58 (by decide) ?_
                          refine lv_iload_n hx hb dX12_finds_60 rfl (lv_at hl 1 rfl) ?_
                          refine lv_imul hx hb dX12_finds_61 ?_
                          refine lv_topi (fun x41 ex41 => ?_)
                          have tx41 : x41.toInt = 16 * y26.toInt := z_tmul ex41 z_l16 rfl (by omega) (by omega)
                          refine lv_iload_n hx hb dX12_finds_62 rfl (lv_at hl 0 rfl) ?_
                          refine lv_iadd hx hb dX12_finds_63 ?_
                          refine lv_topi (fun x42 ex42 => ?_)
                          have tx42 : x42.toInt = x41.toInt + y34.toInt := z_tadd ex42 rfl rfl (by omega) (by omega)
                          refine z_iald (i := 55) hx hb hK hW rfl (z_ix rfl (by omega) (by omega)) dX12_finds_64 ?_
                          refine lv_topi (fun x43 ex43 => ?_)
                          have h44 : 0 ≤ x43.toInt ∧ x43.toInt ≤ 100 := by rw [ex43]; exact lp33Arm _
                          have hrx43 : x43.toInt = z_RM I y26.toNatClampNeg y34.toNatClampNeg := by rw [ex43, lp33fr 55 _ (z_wr_c (by decide)), z_ixm (a := y26) (b := y34) (by omega) (by omega) (by omega)]; rfl
                          refine lv_if_eq (tgt := 141) hx hb dX12_finds_65 (by decide) (fun c45 => ?_) (fun c45 => ?_)
                          · have g46 := z_f_eq rfl z_l0 c45
                            obtain ⟨x47, ex47⟩ : ∃ y : Int32, y = y34 + 1 := ⟨_, rfl⟩
                            have tx47 : x47.toInt = y34.toInt + 1 := z_tadd ex47 rfl z_l1 (by omega) (by omega)
                            refine lv_iinc (v := x47) (lv' := [(3, .int x47), (2, .int y26), (1, .int y14), (0, .ref (ad 0))]) hx hb dX12_finds_141 hl (k := 0) rfl (by rw [ex47]; rfl) (by decide) rfl (fun ls hl => ?_)
                            refine lv_goto (tgt := 48) hx hb dX12_finds_144 (by decide) ?_
                            exact lp33ih x47 I35 J36 _ _ _ (by omega) (by omega) (by omega) lp33Arm lp33Ami lp33Abk lp33Afr lp33T (by rw [z_ss (x := y34) (y := x47) (by omega) (by omega)]; exact z_swp_b lp33S (fun v hv => Int.le_refl _) (fun hf h9 => by omega)) lp33B lp33E lp33fr hW hS (lv_sub hl [0, 1, 2, 3] rfl)
                          · have g48 := z_f_ne rfl z_l0 c45
                            refine lv_aload_n hx hb dX12_finds_68 rfl (lv_at hl 3 rfl) ?_
                            refine z_get (T := TX12) (N := 96) (ci := 12) (i := 0) (v := .ref (ad 57)) hx hb hts zj_X12_finds_X12 hown hK hW rfl rfl 81 (by decide) (hts (.fieldLink RX12 187 "PetrolBoardModel" "far" "[I") (me_s (me_l (List.mem_of_getElem? (i := 0) rfl)))) (fun _ h => h) rfl dX12_finds_69 ?_
                            refine lv_iload_n hx hb dX12_finds_72 rfl (lv_at hl 1 rfl) ?_
                            refine z_iald (i := 57) hx hb hK hW rfl (z_ix rfl (by omega) (by omega)) dX12_finds_73 ?_
                            refine lv_topi (fun x49 ex49 => ?_)
                            have h50 : (-300000) ≤ x49.toInt ∧ x49.toInt ≤ 1000000 := by rw [ex49]; exact lp33Afr _
                            have hrx49 : z_FM I35 y26.toNatClampNeg = x49.toInt := by rw [ex49]; rfl
                            refine lv_ldcw (v := 1000000) hx hb hown (hts (.constant RX12 496 (1000000)) (me_s (me_l (List.mem_of_getElem? (i := 1) rfl)))) dX12_finds_74 ?_
                            refine lv_icmp_ge (tgt := 141) hx hb dX12_finds_77 (by decide) (fun c51 => ?_) (fun c51 => ?_)
                            · have g52 := z_f_ge rfl z_l1000000 c51
                              obtain ⟨x53, ex53⟩ : ∃ y : Int32, y = y34 + 1 := ⟨_, rfl⟩
                              have tx53 : x53.toInt = y34.toInt + 1 := z_tadd ex53 rfl z_l1 (by omega) (by omega)
                              refine lv_iinc (v := x53) (lv' := [(3, .int x53), (2, .int y26), (1, .int y14), (0, .ref (ad 0))]) hx hb dX12_finds_141 hl (k := 0) rfl (by rw [ex53]; rfl) (by decide) rfl (fun ls hl => ?_)
                              refine lv_goto (tgt := 48) hx hb dX12_finds_144 (by decide) ?_
                              exact lp33ih x53 I35 J36 _ _ _ (by omega) (by omega) (by omega) lp33Arm lp33Ami lp33Abk lp33Afr lp33T (by rw [z_ss (x := y34) (y := x53) (by omega) (by omega)]; exact z_swp_b lp33S (fun v hv => Int.le_refl _) (fun hf h9 => by omega)) lp33B lp33E lp33fr hW hS (lv_sub hl [0, 1, 2, 3] rfl)
                            · have g54 := z_f_nge rfl z_l1000000 c51
                              refine lv_aload_n hx hb dX12_finds_80 rfl (lv_at hl 3 rfl) ?_
                              refine z_get (T := TX12) (N := 96) (ci := 12) (i := 0) (v := .ref (ad 57)) hx hb hts zj_X12_finds_X12 hown hK hW rfl rfl 81 (by decide) (hts (.fieldLink RX12 187 "PetrolBoardModel" "far" "[I") (me_s (me_l (List.mem_of_getElem? (i := 0) rfl)))) (fun _ h => h) rfl dX12_finds_81 ?_
                              refine lv_iload_n hx hb dX12_finds_84 rfl (lv_at hl 1 rfl) ?_
                              refine z_iald (i := 57) hx hb hK hW rfl (z_ix rfl (by omega) (by omega)) dX12_finds_85 ?_
                              refine z_topi (v := x49) ex49.symm ?_
                              refine lv_aload_n hx hb dX12_finds_86 rfl (lv_at hl 3 rfl) ?_
                              refine z_get (T := TX12) (N := 96) (ci := 12) (i := 0) (v := .ref (ad 56)) hx hb hts zj_X12_finds_X12 hown hK hW rfl rfl 80 (by decide) (hts (.fieldLink RX12 184 "PetrolBoardModel" "miles" "[I") (me_s (me_l (List.mem_of_getElem? (i := 3) rfl)))) (fun _ h => h) rfl dX12_finds_87 ?_
                              refine lv_bipush (v := 16) hx hb dX12_finds_90 (by decide) ?_
                              refine lv_iload_n hx hb dX12_finds_92 rfl (lv_at hl 1 rfl) ?_
                              refine lv_imul hx hb dX12_finds_93 ?_
                              refine lv_topi (fun x55 ex55 => ?_)
                              have tx55 : x55.toInt = 16 * y26.toInt := z_tmul ex55 z_l16 rfl (by omega) (by omega)
                              refine lv_iload_n hx hb dX12_finds_94 rfl (lv_at hl 0 rfl) ?_
                              refine lv_iadd hx hb dX12_finds_95 ?_
                              refine lv_topi (fun x56 ex56 => ?_)
                              have tx56 : x56.toInt = x55.toInt + y34.toInt := z_tadd ex56 rfl rfl (by omega) (by omega)
                              refine z_iald (i := 56) hx hb hK hW rfl (z_ix rfl (by omega) (by omega)) dX12_finds_96 ?_
                              refine lv_topi (fun x57 ex57 => ?_)
                              have h58 : (-999) ≤ x57.toInt ∧ x57.toInt ≤ 999 := by rw [ex57]; exact lp33Ami _
                              have hrx57 : x57.toInt = z_CM I y26.toNatClampNeg y34.toNatClampNeg := by rw [ex57, lp33fr 56 _ (z_wr_c (by decide)), z_ixm (a := y26) (b := y34) (by omega) (by omega) (by omega)]; rfl
                              refine lv_iadd hx hb dX12_finds_97 ?_
                              refine lv_topi (fun x59 ex59 => ?_)
                              have tx59 : x59.toInt = x49.toInt + x57.toInt := z_tadd ex59 rfl rfl (by omega) (by omega)
                              refine lv_aload_n hx hb dX12_finds_98 rfl (lv_at hl 3 rfl) ?_
                              refine z_get (T := TX12) (N := 96) (ci := 12) (i := 0) (v := .ref (ad 57)) hx hb hts zj_X12_finds_X12 hown hK hW rfl rfl 81 (by decide) (hts (.fieldLink RX12 187 "PetrolBoardModel" "far" "[I") (me_s (me_l (List.mem_of_getElem? (i := 0) rfl)))) (fun _ h => h) rfl dX12_finds_99 ?_
                              refine lv_iload_n hx hb dX12_finds_102 rfl (lv_at hl 0 rfl) ?_
                              refine z_iald (i := 57) hx hb hK hW rfl (z_ix rfl (by omega) (by omega)) dX12_finds_103 ?_
                              refine lv_topi (fun x60 ex60 => ?_)
                              have h61 : (-300000) ≤ x60.toInt ∧ x60.toInt ≤ 1000000 := by rw [ex60]; exact lp33Afr _
                              have hrx60 : z_FM I35 y34.toNatClampNeg = x60.toInt := by rw [ex60]; rfl
                              refine lv_icmp_lt (tgt := 110) hx hb dX12_finds_104 (by decide) (fun c62 => ?_) (fun c62 => ?_)
                              · have g63 := z_f_lt rfl rfl c62
                                refine lv_aload_n hx hb dX12_finds_110 rfl (lv_at hl 3 rfl) ?_
                                refine z_get (T := TX12) (N := 96) (ci := 12) (i := 0) (v := .ref (ad 57)) hx hb hts zj_X12_finds_X12 hown hK hW rfl rfl 81 (by decide) (hts (.fieldLink RX12 187 "PetrolBoardModel" "far" "[I") (me_s (me_l (List.mem_of_getElem? (i := 0) rfl)))) (fun _ h => h) rfl dX12_finds_111 ?_
                                refine lv_iload_n hx hb dX12_finds_114 rfl (lv_at hl 0 rfl) ?_
                                refine lv_aload_n hx hb dX12_finds_115 rfl (lv_at hl 3 rfl) ?_
                                refine z_get (T := TX12) (N := 96) (ci := 12) (i := 0) (v := .ref (ad 57)) hx hb hts zj_X12_finds_X12 hown hK hW rfl rfl 81 (by decide) (hts (.fieldLink RX12 187 "PetrolBoardModel" "far" "[I") (me_s (me_l (List.mem_of_getElem? (i := 0) rfl)))) (fun _ h => h) rfl dX12_finds_116 ?_
                                refine lv_iload_n hx hb dX12_finds_119 rfl (lv_at hl 1 rfl) ?_
                                refine z_iald (i := 57) hx hb hK hW rfl (z_ix rfl (by omega) (by omega)) dX12_finds_120 ?_
                                refine z_topi (v := x49) ex49.symm ?_
                                refine lv_aload_n hx hb dX12_finds_121 rfl (lv_at hl 3 rfl) ?_
                                refine z_get (T := TX12) (N := 96) (ci := 12) (i := 0) (v := .ref (ad 56)) hx hb hts zj_X12_finds_X12 hown hK hW rfl rfl 80 (by decide) (hts (.fieldLink RX12 184 "PetrolBoardModel" "miles" "[I") (me_s (me_l (List.mem_of_getElem? (i := 3) rfl)))) (fun _ h => h) rfl dX12_finds_122 ?_
                                refine lv_bipush (v := 16) hx hb dX12_finds_125 (by decide) ?_
                                refine lv_iload_n hx hb dX12_finds_127 rfl (lv_at hl 1 rfl) ?_
                                refine lv_imul hx hb dX12_finds_128 ?_
                                refine lv_topi (fun x64 ex64 => ?_)
                                have tx64 : x64.toInt = 16 * y26.toInt := z_tmul ex64 z_l16 rfl (by omega) (by omega)
                                refine lv_iload_n hx hb dX12_finds_129 rfl (lv_at hl 0 rfl) ?_
                                refine lv_iadd hx hb dX12_finds_130 ?_
                                refine lv_topi (fun x65 ex65 => ?_)
                                have tx65 : x65.toInt = x64.toInt + y34.toInt := z_tadd ex65 rfl rfl (by omega) (by omega)
                                refine z_iald (i := 56) hx hb hK hW rfl (z_ix rfl (by omega) (by omega)) dX12_finds_131 ?_
                                refine lv_topi (fun x66 ex66 => ?_)
                                have h67 : (-999) ≤ x66.toInt ∧ x66.toInt ≤ 999 := by rw [ex66]; exact lp33Ami _
                                have hrx66 : x66.toInt = z_CM I y26.toNatClampNeg y34.toNatClampNeg := by rw [ex66, lp33fr 56 _ (z_wr_c (by decide)), z_ixm (a := y26) (b := y34) (by omega) (by omega) (by omega)]; rfl
                                refine lv_iadd hx hb dX12_finds_132 ?_
                                refine lv_topi (fun x68 ex68 => ?_)
                                have tx68 : x68.toInt = x49.toInt + x66.toInt := z_tadd ex68 rfl rfl (by omega) (by omega)
                                refine z_iast (i := 57) hx hb hK hW hS rfl (z_ix rfl (by omega) (by omega)) dX12_finds_133 (fun H locs hz1 hW hS => ?_)
                                obtain ⟨I69, eI69⟩ : ∃ K : z_I, K = z_up I35 57 y34.toNatClampNeg x68 := ⟨_, rfl⟩
                                rw [← eI69] at hW
                                have f70 := z_fr_a lp33fr (show z_wa L_X12_finds_y 57 = true by decide) eI69
                                have a71 := z_rg_n lp33Arm (by decide) eI69
                                have a72 := z_rg_n lp33Ami (by decide) eI69
                                have a73 := z_rg_n lp33Abk (by decide) eI69
                                have a74 := z_rg_a lp33Afr (by omega) eI69
                                refine lv_aload_n hx hb dX12_finds_134 rfl (lv_at hl 3 rfl) ?_
                                refine z_get (T := TX12) (N := 96) (ci := 12) (i := 0) (v := .ref (ad 58)) hx hb hts zj_X12_finds_X12 hown hK hW rfl rfl 82 (by decide) (hts (.fieldLink RX12 190 "PetrolBoardModel" "back" "[I") (me_s (me_l (List.mem_of_getElem? (i := 4) rfl)))) (fun _ h => h) rfl dX12_finds_135 ?_
                                refine lv_iload_n hx hb dX12_finds_138 rfl (lv_at hl 0 rfl) ?_
                                refine lv_iload_n hx hb dX12_finds_139 rfl (lv_at hl 1 rfl) ?_
                                refine z_iast (i := 58) hx hb hK hW hS rfl (z_ix rfl (by omega) (by omega)) dX12_finds_140 (fun H locs hz1 hW hS => ?_)
                                obtain ⟨I75, eI75⟩ : ∃ K : z_I, K = z_up I69 58 y34.toNatClampNeg y26 := ⟨_, rfl⟩
                                rw [← eI75] at hW
                                have f76 := z_fr_a f70 (show z_wa L_X12_finds_y 58 = true by decide) eI75
                                have a77 := z_rg_n a71 (by decide) eI75
                                have a78 := z_rg_n a72 (by decide) eI75
                                have a79 := z_rg_a a73 (by omega) eI75
                                have a80 := z_rg_n a74 (by decide) eI75
                                have hm := z_rlm eI69 eI75
                                have hal : y26.toNatClampNeg < 16 := by have := z_clt (x := y26) rfl (by omega); omega
                                have hbl : y34.toNatClampNeg < 16 := by have := z_clt (x := y34) rfl (by omega); omega
                                have hm1 : z_FM I75 y34.toNatClampNeg = z_FM I35 y26.toNatClampNeg + z_CM I y26.toNatClampNeg y34.toNatClampNeg := by rw [hm.1]; omega
                                obtain ⟨h9, hT9⟩ := lp33T
                                have hrl := z_rlx hrm.1 hT9 hal hbl (by omega) (by omega) (by omega) hm1 hm.2.1 hm.2.2.1 hm.2.2.2
                                have hR9 : 0 < z_RM I y26.toNatClampNeg y34.toNatClampNeg := by omega
                                obtain ⟨x81, ex81⟩ : ∃ y : Int32, y = y34 + 1 := ⟨_, rfl⟩
                                have tx81 : x81.toInt = y34.toInt + 1 := z_tadd ex81 rfl z_l1 (by omega) (by omega)
                                refine lv_iinc (v := x81) (lv' := [(3, .int x81), (2, .int y26), (1, .int y14), (0, .ref (ad 0))]) hx hb dX12_finds_141 hl (k := 0) rfl (by rw [ex81]; rfl) (by decide) rfl (fun ls hl => ?_)
                                refine lv_goto (tgt := 48) hx hb dX12_finds_144 (by decide) ?_
                                exact lp33ih x81 I75 J36 _ _ _ (by omega) (by omega) (by omega) a77 a78 a79 a80 ⟨_, hrl.2.2⟩ (by rw [z_ss (x := y34) (y := x81) (by omega) (by omega)]; exact z_swp_b lp33S (fun v hv => by by_cases q9 : v = y34.toNatClampNeg; (· (subst q9; omega)); (· (rw [hm.2.1 v q9]; exact Int.le_refl _))) (fun hf h9 => by omega)) (fun v hv hf => by by_cases q9 : v = y34.toNatClampNeg; (· (subst q9; have := lp33E (by omega); omega)); (· (rw [hm.2.1 v q9] at hf ⊢; exact lp33B v hv hf))) (by rw [hm.2.1 _ hrl.1]; exact lp33E) f76 hW hS (lv_sub hl [0, 1, 2, 3] rfl)
                              · have g82 := z_f_nlt rfl rfl c62
                                refine lv_goto (tgt := 141) hx hb dX12_finds_107 (by decide) ?_
                                obtain ⟨x83, ex83⟩ : ∃ y : Int32, y = y34 + 1 := ⟨_, rfl⟩
                                have tx83 : x83.toInt = y34.toInt + 1 := z_tadd ex83 rfl z_l1 (by omega) (by omega)
                                refine lv_iinc (v := x83) (lv' := [(3, .int x83), (2, .int y26), (1, .int y14), (0, .ref (ad 0))]) hx hb dX12_finds_141 hl (k := 0) rfl (by rw [ex83]; rfl) (by decide) rfl (fun ls hl => ?_)
                                refine lv_goto (tgt := 48) hx hb dX12_finds_144 (by decide) ?_
                                exact lp33ih x83 I35 J36 _ _ _ (by omega) (by omega) (by omega) lp33Arm lp33Ami lp33Abk lp33Afr lp33T (by rw [z_ss (x := y34) (y := x83) (by omega) (by omega)]; exact z_swp_b lp33S (fun v hv => Int.le_refl _) (fun hf h9 => by omega)) lp33B lp33E lp33fr hW hS (lv_sub hl [0, 1, 2, 3] rfl)
                    exact lp33 4294967296 (0) I27 J28 _ _ _ (z_m0u _) (by rw [z_l0]; omega) (by rw [z_l0]; omega) lp25Arm lp25Ami lp25Abk lp25Afr lp25T (by rw [z_n0]; exact lp25S) (fun v hv hf => by have := lp25B v hv hf; omega) (fun hf => by have := lp25B y26.toNatClampNeg (by have := z_clt (x := y26) rfl (by omega); omega) hf; omega) lp25fr hW hS (lv_sub hl [0, 1, 2, 3] rfl)
              exact lp25 4294967296 (0) I15 J16 _ _ _ (z_m0u _) (by rw [z_l0]; omega) (by rw [z_l0]; omega) lp13Arm lp13Ami lp13Abk lp13Afr lp13T (by rw [z_n0]; exact lp13S) (fun v hv hf => by have := lp13B v hv hf; have h9 : ((0 : Int32)).toInt = 0 := (by decide); omega) lp13fr hW hS (lv_sub hl [0, 1, 2] rfl)
        exact lp13 4294967296 (0) I7 J4 _ _ _ (z_m0u _) (by rw [z_l0]; omega) (by rw [z_l0]; omega) a9 a10 a11 a12 hT0 (by rw [z_n0]; exact z_swp_0 hcv hF0) (fun v hv hf => by have := hFv v hv hf; have h9 : ((0 : Int32)).toInt = 0 := (by decide); omega) f8 hW hS (lv_sub hl [0, 1] rfl)
      · have g84 := z_f_nge rfl z_l16 c5
        refine lv_aload_n hx hb dX12_finds_8 rfl (lv_at hl 1 rfl) ?_
        refine z_get (T := TX12) (N := 96) (ci := 12) (i := 0) (v := .ref (ad 57)) hx hb hts zj_X12_finds_X12 hown hK hW rfl rfl 81 (by decide) (hts (.fieldLink RX12 187 "PetrolBoardModel" "far" "[I") (me_s (me_l (List.mem_of_getElem? (i := 0) rfl)))) (fun _ h => h) rfl dX12_finds_9 ?_
        refine lv_iload_n hx hb dX12_finds_12 rfl (lv_at hl 0 rfl) ?_
        refine lv_ldcw (v := 1000000) hx hb hown (hts (.constant RX12 496 (1000000)) (me_s (me_l (List.mem_of_getElem? (i := 1) rfl)))) dX12_finds_13 ?_
        refine z_iast (i := 57) hx hb hK hW hS rfl (z_ix rfl (by omega) (by omega)) dX12_finds_16 (fun H locs hz1 hW hS => ?_)
        obtain ⟨I85, eI85⟩ : ∃ K : z_I, K = z_up I3 57 y2.toNatClampNeg 1000000 := ⟨_, rfl⟩
        rw [← eI85] at hW
        have f86 := z_fr_a lp1fr (show z_wa L_X12_finds_y 57 = true by decide) eI85
        have a87 := z_rg_n lp1Arm (by decide) eI85
        have a88 := z_rg_n lp1Ami (by decide) eI85
        have a89 := z_rg_n lp1Abk (by decide) eI85
        have a90 := z_rg_a lp1Afr (by decide) eI85
        obtain ⟨x91, ex91⟩ : ∃ y : Int32, y = y2 + 1 := ⟨_, rfl⟩
        have tx91 : x91.toInt = y2.toInt + 1 := z_tadd ex91 rfl z_l1 (by omega) (by omega)
        refine lv_iinc (v := x91) (lv' := [(1, .int x91), (0, .ref (ad 0))]) hx hb dX12_finds_17 hl (k := 0) rfl (by rw [ex91]; rfl) (by decide) rfl (fun ls hl => ?_)
        refine lv_goto (tgt := 2) hx hb dX12_finds_20 (by decide) ?_
        exact lp1ih x91 I85 J4 _ _ _ (by omega) (by omega) (by omega) a87 a88 a89 a90 (fun j hj => by by_cases q9 : j = y2.toNatClampNeg; (· (rw [eI85, q9, z_up_s])); (· (rw [eI85, z_up_k q9]; have hc9 := z_clt (x := y2) rfl (by omega); exact lp1I0 j (by omega)))) f86 hW hS (lv_sub hl [0, 1] rfl)
  exact lp1 4294967296 (0) I J _ _ _ (z_m0u _) (by rw [z_l0]; omega) (by rw [z_l0]; omega) hArm hAmi hAbk hAfr (fun j hj => absurd hj (by have : ((0 : Int32)).toInt = 0 := (by decide); omega)) z_fr_0 hW hS (lv_sub hl [0, 1] rfl)
noncomputable def L_X12_flow_y : z_L := [(55, 999), (56, 999), (57, 999), (58, 999)]
set_option maxHeartbeats 8000000 in
set_option maxRecDepth 100000 in
theorem sx_X12_flow_y (l : Launch) (G : z_G) (ad : Nat → Nat) (I : z_I) (J : z_J) (hmr : z_imr I) (hms : z_ims I) (hAld : z_rg 52 0 50 I) (hAwt : z_rg 53 0 20 I) (hArd : z_rg 54 0 999 I) (hArm : z_rg 55 0 100 I) (hAmi : z_rg 56 (-999) 999 I) (hAbk : z_rg 58 0 15 I) (hAfr : z_rg 57 (-300000) 1000000 I) (a1 : Int32) (a2 : Int32) (hZM : zy_ZM I) : z_M l yX12_flow wsX12_flow { frames := 2, cells := 0, slots := 0, locals := 36 } [.ref (ad 0), .int a1, .int a2] G (shM, ad, I, J, PM ad) (fun r u1 => ∃ (I1 : z_I) (J1 : z_J), u1 = (shM, ad, I1, J1, PM ad) ∧ z_imr I1 ∧ z_ims I1 ∧ z_rg 52 0 50 I1 ∧ z_rg 53 0 20 I1 ∧ z_rg 54 0 999 I1 ∧ z_rg 55 0 100 I1 ∧ z_rg 56 (-999) 999 I1 ∧ z_rg 58 0 15 I1 ∧ z_rg 57 (-300000) 1000000 I1 ∧ z_fr L_X12_flow_y I1 I ∧ ((((a1.toInt = -1 ∨ 0 ≤ a1.toInt ∧ a1.toInt < (I 0 75).toInt) ∧ 0 ≤ a2.toInt ∧ a2.toInt ≤ 1) ∧ ∃ (R : Nat → Nat → Int) (x y : Int32), zy_FL (zy_0M I a1.toInt) R (zy_CM I) x y ∧ zy_op R (zy_CM I) ∧ (a2.toInt = 0 → r = x) ∧ (a2.toInt = 1 → r = y)) ∨ (¬ ((a1.toInt = -1 ∨ 0 ≤ a1.toInt ∧ a1.toInt < (I 0 75).toInt) ∧ 0 ≤ a2.toInt ∧ a2.toInt ≤ 1) ∧ r.toInt = -1))) 0 0 := by
  intro sz
  refine z_headQ (cc := cX12_flow) (maxL := 7) (ret := (some .int)) (by decide) rfl (Nat.le_of_ble_eq_true rfl) ?_
  intro p e s m below meth c0 ls hIn hK hsz hW hl
  obtain ⟨hx, hb, hr, hml, hown, hts, hlocks, hname⟩ := hIn
  subst hsz
  have hown : s.vm.findClass RX12 = some m.cls := hown
  have hA : ∀ q : Nat, s.heap.size ≤ q → z_A (shM, ad, I, J, PM ad) s.heap.size q := fun q h => Or.inr h
  generalize hAe : z_A (shM, ad, I, J, PM ad) s.heap.size = A at *
  have hS : va_S A s.heap s.heap [] := va_S.rf
  have hl : lv_has ls 7 [(0, .ref (ad 0)), (1, .int a1), (2, .int a2)] := hl
  have hcb : ∀ p, p < 4 → 0 ≤ zy_cM I a1.toInt p ∧ zy_cM I a1.toInt p ≤ 50 := fun p _ => by unfold zy_cM; split; (· (constructor <;> decide)); (· exact hAld p)
  have hwb : ∀ s, s < 10 → 0 ≤ zy_wM I s ∧ zy_wM I s ≤ 20 := fun s _ => hAwt s
  refine lv_iload_n hx hb dX12_flow_0 rfl (lv_at hl 1 rfl) ?_
  refine lv_iconst (v := (-1)) hx hb dX12_flow_1 (by decide) ?_
  refine lv_icmp_eq (tgt := 17) hx hb dX12_flow_2 (by decide) (fun c1 => ?_) (fun c1 => ?_)
  · have g2 := z_f_eq rfl z_lm1 c1
    have b3 := Int32.toInt_lt a1
    refine lv_iload_n hx hb dX12_flow_17 rfl (lv_at hl 2 rfl) ?_
    refine lv_iconst (v := 0) hx hb dX12_flow_18 (by decide) ?_
    refine lv_iconst (v := 1) hx hb dX12_flow_19 (by decide) ?_
    refine z_ci hW hS hA (va_runS (As := [.int a2, .int 0, .int 1]) (rest := []) ⟨hx, hb, hml, hown, hts⟩ (sx_X12_within_e l G ad I J  a2 0 1 _) (va_cwS 3 hts gX12_flow_X12_within rfl rfl rfl (by decide +kernel) ⟨Nat.le_of_ble_eq_true rfl, Nat.le_of_ble_eq_true rfl⟩) (z_preS hK hW) rfl rfl hl.1 rfl (lv_room (Nat.le_of_ble_eq_true rfl)) dX12_flow_20 ⟨Nat.le_of_ble_eq_true rfl, Nat.le_of_ble_eq_true rfl⟩) (fun r u1 H locs hp hW hS => ?_)
    obtain ⟨e9, hp⟩ := hp
    rw [e9] at hW
    rcases hp with ⟨rfl, h4⟩ | ⟨rfl, h4⟩
    · have h5 := h4
      have z6 := z_l0
      have z7 := z_l1
      refine lv_if_ne (tgt := 28) hx hb dX12_flow_23 (by decide) (fun c8 => ?_) (fun c8 => absurd c8 (by decide))
      refine lv_iconst (v := 0) hx hb dX12_flow_28 (by decide) ?_
      refine lv_istore_n (lv' := [(3, .int 0), (0, .ref (ad 0)), (1, .int a1), (2, .int a2)]) hx hb dX12_flow_29 rfl hl (by decide) rfl (fun ls hl => ?_)
      have lp9 : ∀ (f : Nat) (y10 : Int32) (I11 : z_I) (J12 : z_J) (H : Heap) (locs : List Loc) (ls : Array Slot), (2147483647 < y10.toInt + (f : Int)) → (0 ≤ y10.toInt) → (y10.toInt ≤ 256) → (z_imr I11) → (z_ims I11) → (z_rg 52 0 50 I11) → (z_rg 53 0 20 I11) → (z_rg 54 0 999 I11) → (z_rg 55 0 100 I11) → (z_rg 56 (-999) 999 I11) → (z_rg 58 0 15 I11) → (z_rg 57 (-300000) 1000000 I11) → (∀ j : Nat, (j : Int) < y10.toInt → I11 55 j = 0 ∧ I11 56 j = 0) → (z_fr L_X12_flow_y I11 I) → z_W G A (shM, ad, I11, J12, PM ad) H → va_S A s.heap H locs → lv_has ls 7 [(3, .int y10), (0, .ref (ad 0)), (1, .int a1), (2, .int a2)] → W p l e (headSpec wsX12_flow { frames := 2, cells := 0, slots := 0, locals := 36 }).room s m ([.ref (ad 0), .int a1, .int a2] : List Value).toArray below meth c0 H locs 0 0 (MQ below (va_Qi (fun (r : Int32) (u1 : z_U) => ∃ (I1 : z_I) (J1 : z_J), u1 = (shM, ad, I1, J1, PM ad) ∧ z_imr I1 ∧ z_ims I1 ∧ z_rg 52 0 50 I1 ∧ z_rg 53 0 20 I1 ∧ z_rg 54 0 999 I1 ∧ z_rg 55 0 100 I1 ∧ z_rg 56 (-999) 999 I1 ∧ z_rg 58 0 15 I1 ∧ z_rg 57 (-300000) 1000000 I1 ∧ z_fr L_X12_flow_y I1 I ∧ ((((a1.toInt = -1 ∨ 0 ≤ a1.toInt ∧ a1.toInt < (I 0 75).toInt) ∧ 0 ≤ a2.toInt ∧ a2.toInt ≤ 1) ∧ ∃ (R : Nat → Nat → Int) (x y : Int32), zy_FL (zy_0M I a1.toInt) R (zy_CM I) x y ∧ zy_op R (zy_CM I) ∧ (a2.toInt = 0 → r = x) ∧ (a2.toInt = 1 → r = y)) ∨ (¬ ((a1.toInt = -1 ∨ 0 ≤ a1.toInt ∧ a1.toInt < (I 0 75).toInt) ∧ 0 ≤ a2.toInt ∧ a2.toInt ≤ 1) ∧ r.toInt = -1))) (z_B G A) A) ([.ref (ad 0), .int a1, .int a2] : List Value).toArray s 0 0 A) (F0 m 30 ls []) := by
        intro f
        induction f with
        | zero => intro y10 I11 J12 H locs ls lp9m lp9l3 lp9u3 lp9mr lp9ms lp9Ald lp9Awt lp9Ard lp9Arm lp9Ami lp9Abk lp9Afr lp9Z lp9fr hW hS hl; exact absurd lp9m (by have := Int32.toInt_lt y10; have := Int32.le_toInt y10; omega)
        | succ f lp9ih =>
          intro y10 I11 J12 H locs ls lp9m lp9l3 lp9u3 lp9mr lp9ms lp9Ald lp9Awt lp9Ard lp9Arm lp9Ami lp9Abk lp9Afr lp9Z lp9fr hW hS hl
          refine lv_iload_n hx hb dX12_flow_30 rfl (lv_at hl 0 rfl) ?_
          refine lv_sipush (v := 256) hx hb dX12_flow_31 (by decide) ?_
          refine lv_icmp_ge (tgt := 57) hx hb dX12_flow_34 (by decide) (fun c13 => ?_) (fun c13 => ?_)
          · have g14 := z_f_ge rfl z_l256 c13
            refine lv_iconst (v := 0) hx hb dX12_flow_57 (by decide) ?_
            refine lv_istore_n (lv' := [(3, .int 0), (0, .ref (ad 0)), (1, .int a1), (2, .int a2)]) hx hb dX12_flow_58 rfl hl (by decide) rfl (fun ls hl => ?_)
            have lp15 : ∀ (f : Nat) (y16 : Int32) (I17 : z_I) (J18 : z_J) (H : Heap) (locs : List Loc) (ls : Array Slot), (2147483647 < y16.toInt + (f : Int)) → (0 ≤ y16.toInt) → (y16.toInt ≤ 4) → (z_imr I17) → (z_ims I17) → (z_rg 52 0 50 I17) → (z_rg 53 0 20 I17) → (z_rg 54 0 999 I17) → (z_rg 55 0 100 I17) → (z_rg 56 (-999) 999 I17) → (z_rg 58 0 15 I17) → (z_rg 57 (-300000) 1000000 I17) → (z_BL I17) → (zy_LD (zy_0M I a1.toInt) (zy_CM I) (zy_P1 y16.toNatClampNeg) (z_RM I17) (z_CM I17)) → (z_fr L_X12_flow_y I17 I) → z_W G A (shM, ad, I17, J18, PM ad) H → va_S A s.heap H locs → lv_has ls 7 [(3, .int y16), (0, .ref (ad 0)), (1, .int a1), (2, .int a2)] → W p l e (headSpec wsX12_flow { frames := 2, cells := 0, slots := 0, locals := 36 }).room s m ([.ref (ad 0), .int a1, .int a2] : List Value).toArray below meth c0 H locs 0 0 (MQ below (va_Qi (fun (r : Int32) (u1 : z_U) => ∃ (I1 : z_I) (J1 : z_J), u1 = (shM, ad, I1, J1, PM ad) ∧ z_imr I1 ∧ z_ims I1 ∧ z_rg 52 0 50 I1 ∧ z_rg 53 0 20 I1 ∧ z_rg 54 0 999 I1 ∧ z_rg 55 0 100 I1 ∧ z_rg 56 (-999) 999 I1 ∧ z_rg 58 0 15 I1 ∧ z_rg 57 (-300000) 1000000 I1 ∧ z_fr L_X12_flow_y I1 I ∧ ((((a1.toInt = -1 ∨ 0 ≤ a1.toInt ∧ a1.toInt < (I 0 75).toInt) ∧ 0 ≤ a2.toInt ∧ a2.toInt ≤ 1) ∧ ∃ (R : Nat → Nat → Int) (x y : Int32), zy_FL (zy_0M I a1.toInt) R (zy_CM I) x y ∧ zy_op R (zy_CM I) ∧ (a2.toInt = 0 → r = x) ∧ (a2.toInt = 1 → r = y)) ∨ (¬ ((a1.toInt = -1 ∨ 0 ≤ a1.toInt ∧ a1.toInt < (I 0 75).toInt) ∧ 0 ≤ a2.toInt ∧ a2.toInt ≤ 1) ∧ r.toInt = -1))) (z_B G A) A) ([.ref (ad 0), .int a1, .int a2] : List Value).toArray s 0 0 A) (F0 m 59 ls []) := by
              intro f
              induction f with
              | zero => intro y16 I17 J18 H locs ls lp15m lp15l3 lp15u3 lp15mr lp15ms lp15Ald lp15Awt lp15Ard lp15Arm lp15Ami lp15Abk lp15Afr lp15L lp15E lp15fr hW hS hl; exact absurd lp15m (by have := Int32.toInt_lt y16; have := Int32.le_toInt y16; omega)
              | succ f lp15ih =>
                intro y16 I17 J18 H locs ls lp15m lp15l3 lp15u3 lp15mr lp15ms lp15Ald lp15Awt lp15Ard lp15Arm lp15Ami lp15Abk lp15Afr lp15L lp15E lp15fr hW hS hl
                refine lv_iload_n hx hb dX12_flow_59 rfl (lv_at hl 0 rfl) ?_
                refine lv_aload_n hx hb dX12_flow_60 rfl (lv_at hl 1 rfl) ?_
                have r19 : 0 ≤ (I17 0 75).toInt ∧ (I17 0 75).toInt ≤ 4 := lp15mr
                refine z_get (T := TX12) (N := 96) (ci := 12) (i := 0) (v := .int (I17 0 75)) hx hb hts zj_X12_flow_X12 hown hK hW rfl rfl 75 (by decide) (hts (.fieldLink RX12 493 "PetrolBoardModel" "ports" "I") (me_s (me_l (me_l (List.mem_of_getElem? (i := 0) rfl))))) (fun _ h => h) rfl dX12_flow_61 ?_
                have hn20 : (I17 0 75).toInt = (I 0 75).toInt := by rw [lp15fr 0 75 (by decide)]
                refine lv_icmp_ge (tgt := 151) hx hb dX12_flow_64 (by decide) (fun c21 => ?_) (fun c21 => ?_)
                · have g22 := z_f_ge rfl rfl c21
                  refine lv_iconst (v := 0) hx hb dX12_flow_151 (by decide) ?_
                  refine lv_istore_n (lv' := [(3, .int 0), (0, .ref (ad 0)), (1, .int a1), (2, .int a2)]) hx hb dX12_flow_152 rfl hl (by decide) rfl (fun ls hl => ?_)
                  have lp23 : ∀ (f : Nat) (y24 : Int32) (I25 : z_I) (J26 : z_J) (H : Heap) (locs : List Loc) (ls : Array Slot), (2147483647 < y24.toInt + (f : Int)) → (0 ≤ y24.toInt) → (y24.toInt ≤ 10) → (z_imr I25) → (z_ims I25) → (z_rg 52 0 50 I25) → (z_rg 53 0 20 I25) → (z_rg 54 0 999 I25) → (z_rg 55 0 100 I25) → (z_rg 56 (-999) 999 I25) → (z_rg 58 0 15 I25) → (z_rg 57 (-300000) 1000000 I25) → (z_BL I25) → (zy_LD (zy_0M I a1.toInt) (zy_CM I) (zy_P3 y24.toNatClampNeg) (z_RM I25) (z_CM I25)) → (z_fr L_X12_flow_y I25 I) → z_W G A (shM, ad, I25, J26, PM ad) H → va_S A s.heap H locs → lv_has ls 7 [(3, .int y24), (0, .ref (ad 0)), (1, .int a1), (2, .int a2)] → W p l e (headSpec wsX12_flow { frames := 2, cells := 0, slots := 0, locals := 36 }).room s m ([.ref (ad 0), .int a1, .int a2] : List Value).toArray below meth c0 H locs 0 0 (MQ below (va_Qi (fun (r : Int32) (u1 : z_U) => ∃ (I1 : z_I) (J1 : z_J), u1 = (shM, ad, I1, J1, PM ad) ∧ z_imr I1 ∧ z_ims I1 ∧ z_rg 52 0 50 I1 ∧ z_rg 53 0 20 I1 ∧ z_rg 54 0 999 I1 ∧ z_rg 55 0 100 I1 ∧ z_rg 56 (-999) 999 I1 ∧ z_rg 58 0 15 I1 ∧ z_rg 57 (-300000) 1000000 I1 ∧ z_fr L_X12_flow_y I1 I ∧ ((((a1.toInt = -1 ∨ 0 ≤ a1.toInt ∧ a1.toInt < (I 0 75).toInt) ∧ 0 ≤ a2.toInt ∧ a2.toInt ≤ 1) ∧ ∃ (R : Nat → Nat → Int) (x y : Int32), zy_FL (zy_0M I a1.toInt) R (zy_CM I) x y ∧ zy_op R (zy_CM I) ∧ (a2.toInt = 0 → r = x) ∧ (a2.toInt = 1 → r = y)) ∨ (¬ ((a1.toInt = -1 ∨ 0 ≤ a1.toInt ∧ a1.toInt < (I 0 75).toInt) ∧ 0 ≤ a2.toInt ∧ a2.toInt ≤ 1) ∧ r.toInt = -1))) (z_B G A) A) ([.ref (ad 0), .int a1, .int a2] : List Value).toArray s 0 0 A) (F0 m 153 ls []) := by
                    intro f
                    induction f with
                    | zero => intro y24 I25 J26 H locs ls lp23m lp23l3 lp23u3 lp23mr lp23ms lp23Ald lp23Awt lp23Ard lp23Arm lp23Ami lp23Abk lp23Afr lp23L lp23E lp23fr hW hS hl; exact absurd lp23m (by have := Int32.toInt_lt y24; have := Int32.le_toInt y24; omega)
                    | succ f lp23ih =>
                      intro y24 I25 J26 H locs ls lp23m lp23l3 lp23u3 lp23mr lp23ms lp23Ald lp23Awt lp23Ard lp23Arm lp23Ami lp23Abk lp23Afr lp23L lp23E lp23fr hW hS hl
                      refine lv_iload_n hx hb dX12_flow_153 rfl (lv_at hl 0 rfl) ?_
                      refine lv_aload_n hx hb dX12_flow_154 rfl (lv_at hl 1 rfl) ?_
                      have r27 : 0 ≤ (I25 0 54).toInt ∧ (I25 0 54).toInt ≤ 10 := lp23ms.1
                      refine z_get (T := TX12) (N := 96) (ci := 12) (i := 0) (v := .int (I25 0 54)) hx hb hts zj_X12_flow_X12 hown hK hW rfl rfl 54 (by decide) (hts (.fieldLink RX12 461 "PetrolBoardModel" "stations" "I") (me_s (me_l (me_l (List.mem_of_getElem? (i := 4) rfl))))) (fun _ h => h) rfl dX12_flow_155 ?_
                      have hn28 : (I25 0 54).toInt = (I 0 54).toInt := by rw [lp23fr 0 54 (by decide)]
                      refine lv_icmp_ge (tgt := 183) hx hb dX12_flow_158 (by decide) (fun c29 => ?_) (fun c29 => ?_)
                      · have g30 := z_f_ge rfl rfl c29
                        have hE31 := zy_LDe lp23E hZM (by have c9 := z_clt (x := y24) rfl (by omega); omega) lp23L
                        refine lv_iconst (v := 0) hx hb dX12_flow_183 (by decide) ?_
                        refine lv_istore_n (lv' := [(3, .int 0), (0, .ref (ad 0)), (1, .int a1), (2, .int a2)]) hx hb dX12_flow_184 rfl hl (by decide) rfl (fun ls hl => ?_)
                        refine lv_iconst (v := 0) hx hb dX12_flow_185 (by decide) ?_
                        refine lv_istore (lv' := [(4, .int 0), (3, .int 0), (0, .ref (ad 0)), (1, .int a1), (2, .int a2)]) hx hb dX12_flow_186 hl (by decide) rfl (fun ls hl => ?_)
                        have lp32 : ∀ (f : Nat) (y33 : Int32) (y34 : Int32) (I35 : z_I) (J36 : z_J) (H : Heap) (locs : List Loc) (ls : Array Slot), (z_Sm (z_RM I35) < f) → (z_imr I35) → (z_ims I35) → (z_rg 52 0 50 I35) → (z_rg 53 0 20 I35) → (z_rg 54 0 999 I35) → (z_rg 55 0 100 I35) → (z_rg 56 (-999) 999 I35) → (z_rg 58 0 15 I35) → (z_rg 57 (-300000) 1000000 I35) → (z_FP I35) → (zy_FL (zy_0M I a1.toInt) (z_RM I35) (zy_CM I) y34 y33) → (∀ a b, a < 16 → b < 16 → z_CM I35 a b = (zy_CM I) a b) → (z_fr L_X12_flow_y I35 I) → z_W G A (shM, ad, I35, J36, PM ad) H → va_S A s.heap H locs → lv_has ls 7 [(4, .int y33), (3, .int y34), (0, .ref (ad 0)), (1, .int a1), (2, .int a2)] → W p l e (headSpec wsX12_flow { frames := 2, cells := 0, slots := 0, locals := 36 }).room s m ([.ref (ad 0), .int a1, .int a2] : List Value).toArray below meth c0 H locs 0 0 (MQ below (va_Qi (fun (r : Int32) (u1 : z_U) => ∃ (I1 : z_I) (J1 : z_J), u1 = (shM, ad, I1, J1, PM ad) ∧ z_imr I1 ∧ z_ims I1 ∧ z_rg 52 0 50 I1 ∧ z_rg 53 0 20 I1 ∧ z_rg 54 0 999 I1 ∧ z_rg 55 0 100 I1 ∧ z_rg 56 (-999) 999 I1 ∧ z_rg 58 0 15 I1 ∧ z_rg 57 (-300000) 1000000 I1 ∧ z_fr L_X12_flow_y I1 I ∧ ((((a1.toInt = -1 ∨ 0 ≤ a1.toInt ∧ a1.toInt < (I 0 75).toInt) ∧ 0 ≤ a2.toInt ∧ a2.toInt ≤ 1) ∧ ∃ (R : Nat → Nat → Int) (x y : Int32), zy_FL (zy_0M I a1.toInt) R (zy_CM I) x y ∧ zy_op R (zy_CM I) ∧ (a2.toInt = 0 → r = x) ∧ (a2.toInt = 1 → r = y)) ∨ (¬ ((a1.toInt = -1 ∨ 0 ≤ a1.toInt ∧ a1.toInt < (I 0 75).toInt) ∧ 0 ≤ a2.toInt ∧ a2.toInt ≤ 1) ∧ r.toInt = -1))) (z_B G A) A) ([.ref (ad 0), .int a1, .int a2] : List Value).toArray s 0 0 A) (F0 m 188 ls []) := by
                          intro f
                          induction f with
                          | zero => intro y33 y34 I35 J36 H locs ls lp32m lp32mr lp32ms lp32Ald lp32Awt lp32Ard lp32Arm lp32Ami lp32Abk lp32Afr lp32P lp32Y lp32X lp32fr hW hS hl; exact False.elim (by exact absurd lp32m (Nat.not_lt_zero _))
                          | succ f lp32ih =>
                            intro y33 y34 I35 J36 H locs ls lp32m lp32mr lp32ms lp32Ald lp32Awt lp32Ard lp32Arm lp32Ami lp32Abk lp32Afr lp32P lp32Y lp32X lp32fr hW hS hl
                            refine lv_aload_n hx hb dX12_flow_188 rfl (lv_at hl 2 rfl) ?_
                            refine z_ci hW hS hA (va_runV (As := []) (rest := []) ⟨hx, hb, hml, hown, hts⟩ (sx_X12_finds_y l G ad I35 J36 lp32Arm lp32Ami lp32Abk lp32Afr lp32P _) (cwV 0 hts gX12_flow_X12_finds rfl rfl rfl (by decide +kernel) ⟨Nat.le_of_ble_eq_true rfl, Nat.le_of_ble_eq_true rfl⟩) (z_preV (i := 0) hK hW rfl rfl) rfl rfl hl.1 rfl (lv_room (Nat.le_of_ble_eq_true rfl)) dX12_flow_189 ⟨Nat.le_of_ble_eq_true rfl, Nat.le_of_ble_eq_true rfl⟩) (fun r u1 H locs hp hW hS => ?_)
                            obtain ⟨I37, J39, e9, hI37Arm, hI37Ami, hI37Abk, hI37Afr, fI37, hp⟩ := hp
                            rw [e9] at hW
                            have f38 := z_fr_sub (L := L_X12_flow_y) lp32fr fI37 (by decide)
                            have k40 : 0 ≤ (I37 0 75).toInt ∧ (I37 0 75).toInt ≤ 4 := by rw [fI37 0 75 (by decide)]; exact (by show 0 ≤ (I35 0 75).toInt ∧ (I35 0 75).toInt ≤ 4; exact lp32mr)
                            have k41 : 0 ≤ (I37 0 54).toInt ∧ (I37 0 54).toInt ≤ 10 := by rw [fI37 0 54 (by decide)]; exact (by show 0 ≤ (I35 0 54).toInt ∧ (I35 0 54).toInt ≤ 10; exact lp32ms.1)
                            have k42 : 0 ≤ (I37 0 55).toInt ∧ (I37 0 55).toInt ≤ 300 := by rw [fI37 0 55 (by decide)]; exact (by show 0 ≤ (I35 0 55).toInt ∧ (I35 0 55).toInt ≤ 300; exact lp32ms.2)
                            rcases hp with ⟨rfl, hFD⟩ | ⟨rfl, hOp⟩
                            · refine lv_if_eq (tgt := 336) hx hb dX12_flow_192 (by decide) (fun c43 => absurd c43 (by decide)) (fun c43 => ?_)
                              obtain ⟨pi, mm, hfd, hrm, hpf⟩ := hFD.2
                              have hXf : ∀ a b, a < 16 → b < 16 → z_CM I37 a b = (zy_CM I) a b := fun a b ha hb => by rw [z_CM_c (I := I35) (K := I37) (fun k => fI37 56 k (z_wr_c (by decide)))]; exact lp32X a b ha hb
                              refine lv_sipush (v := 1000) hx hb dX12_flow_195 (by decide) ?_
                              refine lv_istore (lv' := [(5, .int 1000), (4, .int y33), (3, .int y34), (0, .ref (ad 0)), (1, .int a1), (2, .int a2)]) hx hb dX12_flow_198 hl (by decide) rfl (fun ls hl => ?_)
                              refine lv_bipush (v := 15) hx hb dX12_flow_200 (by decide) ?_
                              refine lv_istore (lv' := [(6, .int 15), (5, .int 1000), (4, .int y33), (3, .int y34), (0, .ref (ad 0)), (1, .int a1), (2, .int a2)]) hx hb dX12_flow_202 hl (by decide) rfl (fun ls hl => ?_)
                              have lp44 : ∀ (f : Nat) (y45 : Int32) (y46 : Int32) (H : Heap) (locs : List Loc) (ls : Array Slot), (mm y45.toNatClampNeg < f) → (0 ≤ y45.toInt) → (y45.toInt ≤ 15) → (1 ≤ y46.toInt) → (y46.toInt ≤ 1000) → (y45.toNatClampNeg < 16 ∧ z_FM I37 y45.toNatClampNeg < 1000000) → (∀ x, z_oc (z_BM I37) 15 x → ¬ z_oc (z_BM I37) y45.toNatClampNeg x → y46.toInt ≤ z_RM I37 (z_BM I37 x) x) → z_W G A (shM, ad, I37, J39, PM ad) H → va_S A s.heap H locs → lv_has ls 7 [(6, .int y45), (5, .int y46), (4, .int y33), (3, .int y34), (0, .ref (ad 0)), (1, .int a1), (2, .int a2)] → W p l e (headSpec wsX12_flow { frames := 2, cells := 0, slots := 0, locals := 36 }).room s m ([.ref (ad 0), .int a1, .int a2] : List Value).toArray below meth c0 H locs 0 0 (MQ below (va_Qi (fun (r : Int32) (u1 : z_U) => ∃ (I1 : z_I) (J1 : z_J), u1 = (shM, ad, I1, J1, PM ad) ∧ z_imr I1 ∧ z_ims I1 ∧ z_rg 52 0 50 I1 ∧ z_rg 53 0 20 I1 ∧ z_rg 54 0 999 I1 ∧ z_rg 55 0 100 I1 ∧ z_rg 56 (-999) 999 I1 ∧ z_rg 58 0 15 I1 ∧ z_rg 57 (-300000) 1000000 I1 ∧ z_fr L_X12_flow_y I1 I ∧ ((((a1.toInt = -1 ∨ 0 ≤ a1.toInt ∧ a1.toInt < (I 0 75).toInt) ∧ 0 ≤ a2.toInt ∧ a2.toInt ≤ 1) ∧ ∃ (R : Nat → Nat → Int) (x y : Int32), zy_FL (zy_0M I a1.toInt) R (zy_CM I) x y ∧ zy_op R (zy_CM I) ∧ (a2.toInt = 0 → r = x) ∧ (a2.toInt = 1 → r = y)) ∨ (¬ ((a1.toInt = -1 ∨ 0 ≤ a1.toInt ∧ a1.toInt < (I 0 75).toInt) ∧ 0 ≤ a2.toInt ∧ a2.toInt ≤ 1) ∧ r.toInt = -1))) (z_B G A) A) ([.ref (ad 0), .int a1, .int a2] : List Value).toArray s 0 0 A) (F0 m 204 ls []) := by
                                intro f
                                induction f with
                                | zero => intro y45 y46 H locs ls lp44m lp44l6 lp44u6 lp44l5 lp44u5 lp44G lp44N hW hS hl; exact False.elim (by exact absurd lp44m (Nat.not_lt_zero _))
                                | succ f lp44ih =>
                                  intro y45 y46 H locs ls lp44m lp44l6 lp44u6 lp44l5 lp44u5 lp44G lp44N hW hS hl
                                  refine lv_iload hx hb dX12_flow_204 (lv_at hl 0 rfl) ?_
                                  refine lv_if_eq (tgt := 246) hx hb dX12_flow_206 (by decide) (fun c47 => ?_) (fun c47 => ?_)
                                  · have g48 := z_f_eq rfl z_l0 c47
                                    refine lv_bipush (v := 15) hx hb dX12_flow_246 (by decide) ?_
                                    refine lv_istore (lv' := [(6, .int 15), (5, .int y46), (4, .int y33), (3, .int y34), (0, .ref (ad 0)), (1, .int a1), (2, .int a2)]) hx hb dX12_flow_248 hl (by decide) rfl (fun ls hl => ?_)
                                    have lp49 : ∀ (f : Nat) (y50 : Int32) (I51 : z_I) (J52 : z_J) (H : Heap) (locs : List Loc) (ls : Array Slot), (mm y50.toNatClampNeg < f) → (0 ≤ y50.toInt) → (y50.toInt ≤ 15) → (z_imr I51) → (z_ims I51) → (z_rg 52 0 50 I51) → (z_rg 53 0 20 I51) → (z_rg 54 0 999 I51) → (z_rg 55 0 100 I51) → (z_rg 56 (-999) 999 I51) → (z_rg 58 0 15 I51) → (z_rg 57 (-300000) 1000000 I51) → ((∀ k, I51 58 k = I37 58 k) ∧ (∀ k, I51 57 k = I37 57 k) ∧ (∀ k, I51 56 k = I37 56 k)) → (y50.toNatClampNeg < 16 ∧ z_FM I37 y50.toNatClampNeg < 1000000) → (z_rm (z_RM I51) (z_CM I51) pi) → (∀ x, z_oc (z_BM I37) y50.toNatClampNeg x → y46.toInt ≤ z_RM I51 (z_BM I37 x) x) → (z_Sm (z_RM I51) ≤ z_Sm (z_RM I37) ∧ (y50.toNatClampNeg = 0 → z_Sm (z_RM I51) < z_Sm (z_RM I37))) → (zy_wk (z_RM I37) (z_RM I51) (z_CM I37) pi y46.toInt y50.toNatClampNeg) → (z_fr L_X12_flow_y I51 I) → z_W G A (shM, ad, I51, J52, PM ad) H → va_S A s.heap H locs → lv_has ls 7 [(6, .int y50), (5, .int y46), (4, .int y33), (3, .int y34), (0, .ref (ad 0)), (1, .int a1), (2, .int a2)] → W p l e (headSpec wsX12_flow { frames := 2, cells := 0, slots := 0, locals := 36 }).room s m ([.ref (ad 0), .int a1, .int a2] : List Value).toArray below meth c0 H locs 0 0 (MQ below (va_Qi (fun (r : Int32) (u1 : z_U) => ∃ (I1 : z_I) (J1 : z_J), u1 = (shM, ad, I1, J1, PM ad) ∧ z_imr I1 ∧ z_ims I1 ∧ z_rg 52 0 50 I1 ∧ z_rg 53 0 20 I1 ∧ z_rg 54 0 999 I1 ∧ z_rg 55 0 100 I1 ∧ z_rg 56 (-999) 999 I1 ∧ z_rg 58 0 15 I1 ∧ z_rg 57 (-300000) 1000000 I1 ∧ z_fr L_X12_flow_y I1 I ∧ ((((a1.toInt = -1 ∨ 0 ≤ a1.toInt ∧ a1.toInt < (I 0 75).toInt) ∧ 0 ≤ a2.toInt ∧ a2.toInt ≤ 1) ∧ ∃ (R : Nat → Nat → Int) (x y : Int32), zy_FL (zy_0M I a1.toInt) R (zy_CM I) x y ∧ zy_op R (zy_CM I) ∧ (a2.toInt = 0 → r = x) ∧ (a2.toInt = 1 → r = y)) ∨ (¬ ((a1.toInt = -1 ∨ 0 ≤ a1.toInt ∧ a1.toInt < (I 0 75).toInt) ∧ 0 ≤ a2.toInt ∧ a2.toInt ≤ 1) ∧ r.toInt = -1))) (z_B G A) A) ([.ref (ad 0), .int a1, .int a2] : List Value).toArray s 0 0 A) (F0 m 250 ls []) := by
                                      intro f
                                      induction f with
                                      | zero => intro y50 I51 J52 H locs ls lp49m lp49l6 lp49u6 lp49mr lp49ms lp49Ald lp49Awt lp49Ard lp49Arm lp49Ami lp49Abk lp49Afr lp49K lp49G lp49A lp49N lp49S lp49W lp49fr hW hS hl; exact False.elim (by exact absurd lp49m (Nat.not_lt_zero _))
                                      | succ f lp49ih =>
                                        intro y50 I51 J52 H locs ls lp49m lp49l6 lp49u6 lp49mr lp49ms lp49Ald lp49Awt lp49Ard lp49Arm lp49Ami lp49Abk lp49Afr lp49K lp49G lp49A lp49N lp49S lp49W lp49fr hW hS hl
                                        refine lv_iload hx hb dX12_flow_250 (lv_at hl 0 rfl) ?_
                                        refine lv_if_eq (tgt := 313) hx hb dX12_flow_252 (by decide) (fun c53 => ?_) (fun c53 => ?_)
                                        · have g54 := z_f_eq rfl z_l0 c53
                                          refine lv_iload_n hx hb dX12_flow_313 rfl (lv_at hl 3 rfl) ?_
                                          refine lv_iload hx hb dX12_flow_314 (lv_at hl 1 rfl) ?_
                                          refine lv_iadd hx hb dX12_flow_316 ?_
                                          refine lv_topi (fun x55 ex55 => ?_)
                                          refine lv_istore_n (lv' := [(3, .int x55), (6, .int y50), (5, .int y46), (4, .int y33), (0, .ref (ad 0)), (1, .int a1), (2, .int a2)]) hx hb dX12_flow_317 rfl hl (by decide) rfl (fun ls hl => ?_)
                                          refine lv_iload hx hb dX12_flow_318 (lv_at hl 3 rfl) ?_
                                          refine lv_iload hx hb dX12_flow_320 (lv_at hl 2 rfl) ?_
                                          refine lv_aload_n hx hb dX12_flow_322 rfl (lv_at hl 4 rfl) ?_
                                          refine z_get (T := TX12) (N := 96) (ci := 12) (i := 0) (v := .ref (ad 57)) hx hb hts zj_X12_flow_X12 hown hK hW rfl rfl 81 (by decide) (hts (.fieldLink RX12 187 "PetrolBoardModel" "far" "[I") (me_s (me_l (me_l (List.mem_of_getElem? (i := 8) rfl))))) (fun _ h => h) rfl dX12_flow_323 ?_
                                          refine lv_bipush (v := 15) hx hb dX12_flow_326 (by decide) ?_
                                          refine z_iald (i := 57) hx hb hK hW rfl (z_inl (by decide)) dX12_flow_328 ?_
                                          refine lv_topi (fun x56 ex56 => ?_)
                                          have h57 : (-300000) ≤ x56.toInt ∧ x56.toInt ≤ 1000000 := by rw [ex56]; exact lp49Afr _
                                          refine lv_imul hx hb dX12_flow_329 ?_
                                          refine lv_topi (fun x58 ex58 => ?_)
                                          refine lv_iadd hx hb dX12_flow_330 ?_
                                          refine lv_topi (fun x59 ex59 => ?_)
                                          refine lv_istore (lv' := [(4, .int x59), (3, .int x55), (6, .int y50), (5, .int y46), (0, .ref (ad 0)), (1, .int a1), (2, .int a2)]) hx hb dX12_flow_331 hl (by decide) rfl (fun ls hl => ?_)
                                          refine lv_goto (tgt := 188) hx hb dX12_flow_333 (by decide) ?_
                                          exact lp32ih x59 x55 I51 J52 _ _ _ (by have q9 := lp49S.2 (by have := z_clt (x := y50) rfl (by omega); omega); have q8 : z_RM I37 = z_RM I35 := z_RM_c (fun k => fI37 55 k (z_wr_c (by decide))); rw [q8] at q9; exact Nat.lt_of_lt_of_le q9 (Nat.le_of_lt_succ lp32m)) (by show 0 ≤ (I51 0 75).toInt ∧ (I51 0 75).toInt ≤ 4; exact lp49mr) ⟨(by show 0 ≤ (I51 0 54).toInt ∧ (I51 0 54).toInt ≤ 10; exact lp49ms.1), (by show 0 ≤ (I51 0 55).toInt ∧ (I51 0 55).toInt ≤ 300; exact lp49ms.2)⟩ lp49Ald lp49Awt lp49Ard lp49Arm lp49Ami lp49Abk lp49Afr ⟨pi, lp49A⟩ (by have c9 := z_clt (x := y50) rfl (by omega); have w9 := lp49W; rw [show y50.toNatClampNeg = 0 by omega] at w9; exact zy_FL_s (R := z_RM I37) (pi := pi) (f := x56) (by rw [z_RM_c (I := I35) (K := I37) (fun k => fI37 55 k (z_wr_c (by decide)))]; exact lp32Y) (fun a b ha hb => (lp49A.2 a b ha hb).2.1) (zy_wk_c (fun a b ha hb => (hXf a b ha hb).symm) w9) (by rw [hpf, ex56, lp49K.2.1, z_n15]; rfl) ex55 ex58 ex59) (fun a b ha hb => by rw [z_CM_c (I := I37) (K := I51) lp49K.2.2]; exact hXf a b ha hb) lp49fr hW hS (lv_sub hl [0, 1, 4, 5, 6] rfl)
                                        · have g60 := z_f_ne rfl z_l0 c53
                                          have hV0 : y50.toNatClampNeg ≠ 0 := by have := z_clt (x := y50) rfl (by omega); omega
                                          obtain ⟨c1, c2, c3, c4, c5⟩ := hfd.2 y50.toNatClampNeg lp49G.1 hV0 lp49G.2
                                          refine lv_aload_n hx hb dX12_flow_255 rfl (lv_at hl 4 rfl) ?_
                                          refine z_get (T := TX12) (N := 96) (ci := 12) (i := 0) (v := .ref (ad 55)) hx hb hts zj_X12_flow_X12 hown hK hW rfl rfl 79 (by decide) (hts (.fieldLink RX12 181 "PetrolBoardModel" "room" "[I") (me_s (me_l (me_l (List.mem_of_getElem? (i := 1) rfl))))) (fun _ h => h) rfl dX12_flow_256 ?_
                                          refine lv_bipush (v := 16) hx hb dX12_flow_259 (by decide) ?_
                                          refine lv_aload_n hx hb dX12_flow_261 rfl (lv_at hl 4 rfl) ?_
                                          refine z_get (T := TX12) (N := 96) (ci := 12) (i := 0) (v := .ref (ad 58)) hx hb hts zj_X12_flow_X12 hown hK hW rfl rfl 82 (by decide) (hts (.fieldLink RX12 190 "PetrolBoardModel" "back" "[I") (me_s (me_l (me_l (List.mem_of_getElem? (i := 7) rfl))))) (fun _ h => h) rfl dX12_flow_262 ?_
                                          refine lv_iload hx hb dX12_flow_265 (lv_at hl 0 rfl) ?_
                                          refine z_iald (i := 58) hx hb hK hW rfl (z_ix rfl (by omega) (by omega)) dX12_flow_267 ?_
                                          refine lv_topi (fun x61 ex61 => ?_)
                                          have h62 : 0 ≤ x61.toInt ∧ x61.toInt ≤ 15 := by rw [ex61]; exact lp49Abk _
                                          have hbk : z_BM I37 y50.toNatClampNeg = x61.toNatClampNeg := by rw [ex61, lp49K.1]; rfl
                                          refine lv_imul hx hb dX12_flow_268 ?_
                                          refine lv_topi (fun x63 ex63 => ?_)
                                          have tx63 : x63.toInt = 16 * x61.toInt := z_tmul ex63 z_l16 rfl (by omega) (by omega)
                                          refine lv_iload hx hb dX12_flow_269 (lv_at hl 0 rfl) ?_
                                          refine lv_iadd hx hb dX12_flow_271 ?_
                                          refine lv_topi (fun x64 ex64 => ?_)
                                          have tx64 : x64.toInt = x63.toInt + y50.toInt := z_tadd ex64 rfl rfl (by omega) (by omega)
                                          refine lv_dup2_11 hx hb dX12_flow_272 rfl rfl ?_
                                          refine z_iald (i := 55) hx hb hK hW rfl (z_ix rfl (by omega) (by omega)) dX12_flow_273 ?_
                                          refine lv_topi (fun x65 ex65 => ?_)
                                          have h66 : 0 ≤ x65.toInt ∧ x65.toInt ≤ 100 := by rw [ex65]; exact lp49Arm _
                                          have hj1 : x64.toNatClampNeg = 16 * x61.toNatClampNeg + y50.toNatClampNeg := z_ixm (by omega) (by omega) (by omega)
                                          have hr1 : x65.toInt = z_RM I51 x61.toNatClampNeg y50.toNatClampNeg := by rw [ex65, hj1]; rfl
                                          have hn1 := lp49N y50.toNatClampNeg ((z_oc_s hV0).2 (Or.inl rfl))
                                          rw [hbk, ← hr1] at hn1
                                          have hbu : x61.toNatClampNeg < 16 := by rw [← hbk]; exact c1
                                          have hbv : x61.toNatClampNeg ≠ y50.toNatClampNeg := fun q => by rw [hbk, q] at c5; omega
                                          have hA2 := lp49A.2 x61.toNatClampNeg y50.toNatClampNeg (by rw [← hbk]; exact c1) lp49G.1
                                          refine lv_iload hx hb dX12_flow_274 (lv_at hl 1 rfl) ?_
                                          refine lv_isub hx hb dX12_flow_276 ?_
                                          refine lv_topi (fun x67 ex67 => ?_)
                                          have tx67 : x67.toInt = x65.toInt - y46.toInt := z_tsub ex67 rfl rfl (by omega) (by omega)
                                          refine z_iast (i := 55) hx hb hK hW hS rfl (z_ix rfl (by omega) (by omega)) dX12_flow_277 (fun H locs hz1 hW hS => ?_)
                                          obtain ⟨I68, eI68⟩ : ∃ K : z_I, K = z_up I51 55 x64.toNatClampNeg x67 := ⟨_, rfl⟩
                                          rw [← eI68] at hW
                                          have f69 := z_fr_a lp49fr (show z_wa L_X12_flow_y 55 = true by decide) eI68
                                          have a70 := z_rg_n lp49Ald (by decide) eI68
                                          have a71 := z_rg_n lp49Awt (by decide) eI68
                                          have a72 := z_rg_n lp49Ard (by decide) eI68
                                          have a73 := z_rg_a lp49Arm (by omega) eI68
                                          have a74 := z_rg_n lp49Ami (by decide) eI68
                                          have a75 := z_rg_n lp49Abk (by decide) eI68
                                          have a76 := z_rg_n lp49Afr (by decide) eI68
                                          refine lv_aload_n hx hb dX12_flow_278 rfl (lv_at hl 4 rfl) ?_
                                          refine z_get (T := TX12) (N := 96) (ci := 12) (i := 0) (v := .ref (ad 55)) hx hb hts zj_X12_flow_X12 hown hK hW rfl rfl 79 (by decide) (hts (.fieldLink RX12 181 "PetrolBoardModel" "room" "[I") (me_s (me_l (me_l (List.mem_of_getElem? (i := 1) rfl))))) (fun _ h => h) rfl dX12_flow_279 ?_
                                          refine lv_bipush (v := 16) hx hb dX12_flow_282 (by decide) ?_
                                          refine lv_iload hx hb dX12_flow_284 (lv_at hl 0 rfl) ?_
                                          refine lv_imul hx hb dX12_flow_286 ?_
                                          refine lv_topi (fun x77 ex77 => ?_)
                                          have tx77 : x77.toInt = 16 * y50.toInt := z_tmul ex77 z_l16 rfl (by omega) (by omega)
                                          refine lv_aload_n hx hb dX12_flow_287 rfl (lv_at hl 4 rfl) ?_
                                          refine z_get (T := TX12) (N := 96) (ci := 12) (i := 0) (v := .ref (ad 58)) hx hb hts zj_X12_flow_X12 hown hK hW rfl rfl 82 (by decide) (hts (.fieldLink RX12 190 "PetrolBoardModel" "back" "[I") (me_s (me_l (me_l (List.mem_of_getElem? (i := 7) rfl))))) (fun _ h => h) rfl dX12_flow_288 ?_
                                          refine lv_iload hx hb dX12_flow_291 (lv_at hl 0 rfl) ?_
                                          refine z_iald (i := 58) hx hb hK hW rfl (z_ix rfl (by omega) (by omega)) dX12_flow_293 ?_
                                          refine z_topi (v := x61) (by rw [eI68, z_up_n (by decide)]; exact ex61.symm) ?_
                                          refine lv_iadd hx hb dX12_flow_294 ?_
                                          refine lv_topi (fun x78 ex78 => ?_)
                                          have tx78 : x78.toInt = x77.toInt + x61.toInt := z_tadd ex78 rfl rfl (by omega) (by omega)
                                          refine lv_dup2_11 hx hb dX12_flow_295 rfl rfl ?_
                                          refine z_iald (i := 55) hx hb hK hW rfl (z_ix rfl (by omega) (by omega)) dX12_flow_296 ?_
                                          refine lv_topi (fun x79 ex79 => ?_)
                                          have h80 : 0 ≤ x79.toInt ∧ x79.toInt ≤ 100 := by rw [ex79]; exact a73 _
                                          have hj2 : x78.toNatClampNeg = 16 * y50.toNatClampNeg + x61.toNatClampNeg := z_ixm (by omega) (by omega) (by omega)
                                          have hr2 : x79.toInt = z_RM I51 y50.toNatClampNeg x61.toNatClampNeg := by rw [ex79, eI68, z_up_k (by rw [hj1, hj2]; omega), hj2]; rfl
                                          refine lv_iload hx hb dX12_flow_297 (lv_at hl 1 rfl) ?_
                                          refine lv_iadd hx hb dX12_flow_299 ?_
                                          refine lv_topi (fun x81 ex81 => ?_)
                                          have tx81 : x81.toInt = x79.toInt + y46.toInt := z_tadd ex81 rfl rfl (by omega) (by omega)
                                          refine z_iast (i := 55) hx hb hK hW hS rfl (z_ix rfl (by omega) (by omega)) dX12_flow_300 (fun H locs hz1 hW hS => ?_)
                                          obtain ⟨I82, eI82⟩ : ∃ K : z_I, K = z_up I68 55 x78.toNatClampNeg x81 := ⟨_, rfl⟩
                                          rw [← eI82] at hW
                                          have f83 := z_fr_a f69 (show z_wa L_X12_flow_y 55 = true by decide) eI82
                                          have a84 := z_rg_n a70 (by decide) eI82
                                          have a85 := z_rg_n a71 (by decide) eI82
                                          have a86 := z_rg_n a72 (by decide) eI82
                                          have a87 := z_rg_a a73 (by omega) eI82
                                          have a88 := z_rg_n a74 (by decide) eI82
                                          have a89 := z_rg_n a75 (by decide) eI82
                                          have a90 := z_rg_n a76 (by decide) eI82
                                          have hau := z_augm (n := y46.toInt) eI68 eI82 hj1 hj2 hr1 hr2 (by omega) (by omega) hbu lp49G.1 hbv
                                          have hcc : z_CM I51 x61.toNatClampNeg y50.toNatClampNeg + pi x61.toNatClampNeg - pi y50.toNatClampNeg = 0 := by rw [z_CM_c lp49K.2.2, ← hbk]; exact c4
                                          have hag := z_aug lp49A hbu lp49G.1 hV0 hbv hcc (by omega) (by rw [← hr1]; exact hn1) hau.1 hau.2.1 hau.2.2
                                          refine lv_aload_n hx hb dX12_flow_301 rfl (lv_at hl 4 rfl) ?_
                                          refine z_get (T := TX12) (N := 96) (ci := 12) (i := 0) (v := .ref (ad 58)) hx hb hts zj_X12_flow_X12 hown hK hW rfl rfl 82 (by decide) (hts (.fieldLink RX12 190 "PetrolBoardModel" "back" "[I") (me_s (me_l (me_l (List.mem_of_getElem? (i := 7) rfl))))) (fun _ h => h) rfl dX12_flow_302 ?_
                                          refine lv_iload hx hb dX12_flow_305 (lv_at hl 0 rfl) ?_
                                          refine z_iald (i := 58) hx hb hK hW rfl (z_ix rfl (by omega) (by omega)) dX12_flow_307 ?_
                                          refine z_topi (v := x61) (by rw [eI82, z_up_n (by decide), eI68, z_up_n (by decide)]; exact ex61.symm) ?_
                                          refine lv_istore (lv' := [(6, .int x61), (5, .int y46), (4, .int y33), (3, .int y34), (0, .ref (ad 0)), (1, .int a1), (2, .int a2)]) hx hb dX12_flow_308 hl (by decide) rfl (fun ls hl => ?_)
                                          refine lv_goto (tgt := 250) hx hb dX12_flow_310 (by decide) ?_
                                          exact lp49ih x61 I82 J52 _ _ _ (by rw [← hbk]; omega) (by omega) (by omega) (by show 0 ≤ (I82 0 75).toInt ∧ (I82 0 75).toInt ≤ 4; rw [eI82, z_up_n (by decide), eI68, z_up_n (by decide)]; exact lp49mr) ⟨(by show 0 ≤ (I82 0 54).toInt ∧ (I82 0 54).toInt ≤ 10; rw [eI82, z_up_n (by decide), eI68, z_up_n (by decide)]; exact lp49ms.1), (by show 0 ≤ (I82 0 55).toInt ∧ (I82 0 55).toInt ≤ 300; rw [eI82, z_up_n (by decide), eI68, z_up_n (by decide)]; exact lp49ms.2)⟩ a84 a85 a86 a87 a88 a89 a90 ⟨fun k => by rw [eI82, z_up_n (by decide), eI68, z_up_n (by decide)]; exact lp49K.1 k, fun k => by rw [eI82, z_up_n (by decide), eI68, z_up_n (by decide)]; exact lp49K.2.1 k, fun k => by rw [eI82, z_up_n (by decide), eI68, z_up_n (by decide)]; exact lp49K.2.2 k⟩ ⟨by rw [← hbk]; exact c1, by rw [← hbk]; exact c2⟩ (by rw [show z_CM I82 = z_CM I51 from z_CM_c (fun k => by rw [eI82, z_up_n (by decide), eI68, z_up_n (by decide)])]; exact hag.1) (fun x hx => by obtain ⟨k9, hk1, hk2⟩ := (show z_oc (z_BM I37) (z_BM I37 y50.toNatClampNeg) x from by rw [hbk]; exact hx); have hx9 := z_oc_m hfd k9 _ x c1 c2 hk1 hk2; have hxb := hfd.2 x hx9.1 hx9.2.2.1 hx9.2.1; have hxn := lp49N x ((z_oc_s hV0).2 (Or.inr ⟨k9, hk1, hk2⟩)); have hxv : x ≠ y50.toNatClampNeg := (fun q => by rw [q] at hx9; omega); by_cases q9 : z_BM I37 x = y50.toNatClampNeg ∧ x = x61.toNatClampNeg; (· (rw [q9.1, q9.2, hau.2.1]; rw [q9.1, q9.2] at hxn; omega)); (· (rw [hau.2.2 _ _ hxb.1 hx9.1 (fun q => hxv q.2) q9]; exact hxn))) ⟨Nat.le_trans hag.2.1 lp49S.1, fun q => Nat.lt_of_lt_of_le (hag.2.2 q) lp49S.1⟩ (zy_wk_s (R := z_RM I51) (u := x61.toNatClampNeg) (v := y50.toNatClampNeg) hau hbu lp49G.1 hbv (by rw [← z_CM_c (I := I37) (K := I51) lp49K.2.2]; exact (lp49A.2 _ _ hbu lp49G.1).1) (by rw [← hbk]; exact c4) lp49W) f83 hW hS (lv_sub hl [0, 1, 2, 3, 4, 5, 6] rfl)
                                    exact lp49 (mm 15 + 1) (15) I37 J39 _ _ _ (by rw [z_n15]; exact Nat.lt_succ_self _) (by rw [z_l15]; omega) (by rw [z_l15]; omega) (by show 0 ≤ (I37 0 75).toInt ∧ (I37 0 75).toInt ≤ 4; exact k40) ⟨(by show 0 ≤ (I37 0 54).toInt ∧ (I37 0 54).toInt ≤ 10; exact k41), (by show 0 ≤ (I37 0 55).toInt ∧ (I37 0 55).toInt ≤ 300; exact k42)⟩ (z_rg_fr lp32Ald fI37 (by decide)) (z_rg_fr lp32Awt fI37 (by decide)) (z_rg_fr lp32Ard fI37 (by decide)) hI37Arm hI37Ami hI37Abk hI37Afr ⟨fun k => rfl, fun k => rfl, fun k => rfl⟩ ⟨by decide, by rw [z_n15]; exact hFD.1⟩ hrm (fun x hx => by refine lp44N x (by rw [z_n15] at hx; exact hx) (by rw [show y45.toNatClampNeg = 0 from by have := z_clt (x := y45) rfl (by omega); omega]; exact z_oc_0)) ⟨Nat.le_refl _, fun q => absurd q (by decide)⟩ (by rw [z_n15]; exact zy_wk_0) f38 hW hS (lv_sub hl [0, 1, 2, 3, 4, 5, 6] rfl)
                                  · have g91 := z_f_ne rfl z_l0 c47
                                    have hV0 : y45.toNatClampNeg ≠ 0 := by have := z_clt (x := y45) rfl (by omega); omega
                                    obtain ⟨c1, c2, c3, c4, c5⟩ := hfd.2 y45.toNatClampNeg lp44G.1 hV0 lp44G.2
                                    refine lv_iload hx hb dX12_flow_209 (lv_at hl 1 rfl) ?_
                                    refine lv_aload_n hx hb dX12_flow_211 rfl (lv_at hl 4 rfl) ?_
                                    refine z_get (T := TX12) (N := 96) (ci := 12) (i := 0) (v := .ref (ad 55)) hx hb hts zj_X12_flow_X12 hown hK hW rfl rfl 79 (by decide) (hts (.fieldLink RX12 181 "PetrolBoardModel" "room" "[I") (me_s (me_l (me_l (List.mem_of_getElem? (i := 1) rfl))))) (fun _ h => h) rfl dX12_flow_212 ?_
                                    refine lv_bipush (v := 16) hx hb dX12_flow_215 (by decide) ?_
                                    refine lv_aload_n hx hb dX12_flow_217 rfl (lv_at hl 4 rfl) ?_
                                    refine z_get (T := TX12) (N := 96) (ci := 12) (i := 0) (v := .ref (ad 58)) hx hb hts zj_X12_flow_X12 hown hK hW rfl rfl 82 (by decide) (hts (.fieldLink RX12 190 "PetrolBoardModel" "back" "[I") (me_s (me_l (me_l (List.mem_of_getElem? (i := 7) rfl))))) (fun _ h => h) rfl dX12_flow_218 ?_
                                    refine lv_iload hx hb dX12_flow_221 (lv_at hl 0 rfl) ?_
                                    refine z_iald (i := 58) hx hb hK hW rfl (z_ix rfl (by omega) (by omega)) dX12_flow_223 ?_
                                    refine lv_topi (fun x92 ex92 => ?_)
                                    have h93 : 0 ≤ x92.toInt ∧ x92.toInt ≤ 15 := by rw [ex92]; exact hI37Abk _
                                    have hbk : z_BM I37 y45.toNatClampNeg = x92.toNatClampNeg := by rw [ex92]; rfl
                                    refine lv_imul hx hb dX12_flow_224 ?_
                                    refine lv_topi (fun x94 ex94 => ?_)
                                    have tx94 : x94.toInt = 16 * x92.toInt := z_tmul ex94 z_l16 rfl (by omega) (by omega)
                                    refine lv_iload hx hb dX12_flow_225 (lv_at hl 0 rfl) ?_
                                    refine lv_iadd hx hb dX12_flow_227 ?_
                                    refine lv_topi (fun x95 ex95 => ?_)
                                    have tx95 : x95.toInt = x94.toInt + y45.toInt := z_tadd ex95 rfl rfl (by omega) (by omega)
                                    refine z_iald (i := 55) hx hb hK hW rfl (z_ix rfl (by omega) (by omega)) dX12_flow_228 ?_
                                    refine lv_topi (fun x96 ex96 => ?_)
                                    have h97 : 0 ≤ x96.toInt ∧ x96.toInt ≤ 100 := by rw [ex96]; exact hI37Arm _
                                    have hr : x96.toInt = z_RM I37 x92.toNatClampNeg y45.toNatClampNeg := by rw [ex96, z_ixm (a := x92) (b := y45) (by omega) (by omega) (by omega)]; rfl
                                    rw [← hbk] at hr
                                    refine z_ci hW hS hA (va_runS (As := [.int y46, .int x96]) (rest := []) ⟨hx, hb, hml, hown, hts⟩ (sx_X12_min2 l G ad I37 J39  y46 x96 _) (va_cwS 2 hts gX12_flow_X12_min rfl rfl rfl (by decide +kernel) ⟨Nat.le_of_ble_eq_true rfl, Nat.le_of_ble_eq_true rfl⟩) (z_preS hK hW) rfl rfl hl.1 rfl (lv_room (Nat.le_of_ble_eq_true rfl)) dX12_flow_229 ⟨Nat.le_of_ble_eq_true rfl, Nat.le_of_ble_eq_true rfl⟩) (fun r u1 H locs hp hW hS => ?_)
                                    obtain ⟨e9, hp⟩ := hp
                                    rw [e9] at hW
                                    refine lv_topi (fun x98 ex98 => ?_)
                                    rw [← ex98] at hp
                                    have h99 := hp
                                    refine lv_istore (lv' := [(5, .int x98), (6, .int y45), (4, .int y33), (3, .int y34), (0, .ref (ad 0)), (1, .int a1), (2, .int a2)]) hx hb dX12_flow_232 hl (by decide) rfl (fun ls hl => ?_)
                                    refine lv_aload_n hx hb dX12_flow_234 rfl (lv_at hl 4 rfl) ?_
                                    refine z_get (T := TX12) (N := 96) (ci := 12) (i := 0) (v := .ref (ad 58)) hx hb hts zj_X12_flow_X12 hown hK hW rfl rfl 82 (by decide) (hts (.fieldLink RX12 190 "PetrolBoardModel" "back" "[I") (me_s (me_l (me_l (List.mem_of_getElem? (i := 7) rfl))))) (fun _ h => h) rfl dX12_flow_235 ?_
                                    refine lv_iload hx hb dX12_flow_238 (lv_at hl 1 rfl) ?_
                                    refine z_iald (i := 58) hx hb hK hW rfl (z_ix rfl (by omega) (by omega)) dX12_flow_240 ?_
                                    refine z_topi (v := x92) ex92.symm ?_
                                    refine lv_istore (lv' := [(6, .int x92), (5, .int x98), (4, .int y33), (3, .int y34), (0, .ref (ad 0)), (1, .int a1), (2, .int a2)]) hx hb dX12_flow_241 hl (by decide) rfl (fun ls hl => ?_)
                                    refine lv_goto (tgt := 204) hx hb dX12_flow_243 (by decide) ?_
                                    exact lp44ih x92 x98 _ _ _ (by rw [← hbk]; omega) (by omega) (by omega) (by omega) (by omega) ⟨by rw [← hbk]; exact c1, by rw [← hbk]; exact c2⟩ (fun x hx hn => by by_cases q9 : x = y45.toNatClampNeg; (· (rw [q9, ← hr]; omega)); (· (have h9 := lp44N x hx (fun q => hn (by rw [← hbk]; exact ((z_oc_s hV0).1 q).resolve_left q9)); omega))) hW hS (lv_sub hl [0, 1, 2, 3, 4, 5, 6] rfl)
                              exact lp44 (mm 15 + 1) (15) (1000) _ _ _ (by rw [z_n15]; exact Nat.lt_succ_self _) (by rw [z_l15]; omega) (by rw [z_l15]; omega) (by rw [z_l1000]; omega) (by rw [z_l1000]; omega) ⟨by decide, by rw [z_n15]; exact hFD.1⟩ (fun x hx hn => absurd (by rw [z_n15]; exact hx) hn) hW hS (lv_sub hl [0, 1, 2, 3, 4, 5, 6] rfl)
                            · refine lv_if_eq (tgt := 336) hx hb dX12_flow_192 (by decide) (fun c100 => ?_) (fun c100 => absurd (by decide) c100)
                              have hYe : zy_FL (zy_0M I a1.toInt) (z_RM I37) (zy_CM I) y34 y33 := by rw [z_RM_c (I := I35) (K := I37) (fun k => fI37 55 k (z_wr_c (by decide)))]; exact lp32Y
                              have hOe : zy_op (z_RM I37) (zy_CM I) := zy_op_c (fun a b ha hb => by rw [z_CM_c (I := I35) (K := I37) (fun k => fI37 56 k (z_wr_c (by decide)))]; exact (lp32X a b ha hb).symm) hOp
                              refine lv_iload_n hx hb dX12_flow_336 rfl (lv_at hl 4 rfl) ?_
                              refine lv_if_ne (tgt := 344) hx hb dX12_flow_337 (by decide) (fun c101 => ?_) (fun c101 => ?_)
                              · have g102 := z_f_ne rfl z_l0 c101
                                refine lv_iload hx hb dX12_flow_344 (lv_at hl 0 rfl) ?_
                                exact z_iret hx hb hr hK hS (Nat.le_of_ble_eq_true rfl) (Nat.le_of_ble_eq_true rfl) hlocks dX12_flow_346 (shM, ad, I37, J39, PM ad) hW ⟨I37, J39, rfl, (by show 0 ≤ (I37 0 75).toInt ∧ (I37 0 75).toInt ≤ 4; exact k40), ⟨(by show 0 ≤ (I37 0 54).toInt ∧ (I37 0 54).toInt ≤ 10; exact k41), (by show 0 ≤ (I37 0 55).toInt ∧ (I37 0 55).toInt ≤ 300; exact k42)⟩, (z_rg_fr lp32Ald fI37 (by decide)), (z_rg_fr lp32Awt fI37 (by decide)), (z_rg_fr lp32Ard fI37 (by decide)), hI37Arm, hI37Ami, hI37Abk, hI37Afr, f38, (Or.inl ⟨by omega, z_RM I37, y34, y33, hYe, hOe, fun z => by exfalso; omega, fun z => rfl⟩)⟩
                              · have g103 := z_f_eq rfl z_l0 c101
                                refine lv_iload_n hx hb dX12_flow_340 rfl (lv_at hl 1 rfl) ?_
                                refine lv_goto (tgt := 346) hx hb dX12_flow_341 (by decide) ?_
                                exact z_iret hx hb hr hK hS (Nat.le_of_ble_eq_true rfl) (Nat.le_of_ble_eq_true rfl) hlocks dX12_flow_346 (shM, ad, I37, J39, PM ad) hW ⟨I37, J39, rfl, (by show 0 ≤ (I37 0 75).toInt ∧ (I37 0 75).toInt ≤ 4; exact k40), ⟨(by show 0 ≤ (I37 0 54).toInt ∧ (I37 0 54).toInt ≤ 10; exact k41), (by show 0 ≤ (I37 0 55).toInt ∧ (I37 0 55).toInt ≤ 300; exact k42)⟩, (z_rg_fr lp32Ald fI37 (by decide)), (z_rg_fr lp32Awt fI37 (by decide)), (z_rg_fr lp32Ard fI37 (by decide)), hI37Arm, hI37Ami, hI37Abk, hI37Afr, f38, (Or.inl ⟨by omega, z_RM I37, y34, y33, hYe, hOe, fun z => rfl, fun z => by exfalso; omega⟩)⟩
                        exact lp32 (z_Sm (z_RM I25) + 1) (0) (0) I25 J26 _ _ _ (Nat.lt_succ_self _) (by show 0 ≤ (I25 0 75).toInt ∧ (I25 0 75).toInt ≤ 4; exact lp23mr) ⟨(by show 0 ≤ (I25 0 54).toInt ∧ (I25 0 54).toInt ≤ 10; exact lp23ms.1), (by show 0 ≤ (I25 0 55).toInt ∧ (I25 0 55).toInt ≤ 300; exact lp23ms.2)⟩ lp23Ald lp23Awt lp23Ard lp23Arm lp23Ami lp23Abk lp23Afr (z_BL_FP lp23L) (zy_FL_r hE31.1 (zy_FL_0 (fun a b _ _ => (zy_R0_b (m := zy_mM I) hcb hwb a b).1))) hE31.2 lp23fr hW hS (lv_sub hl [0, 1, 2, 3, 4] rfl)
                      · have g104 := z_f_nge rfl rfl c29
                        refine lv_aload_n hx hb dX12_flow_161 rfl (lv_at hl 1 rfl) ?_
                        refine lv_iconst (v := 5) hx hb dX12_flow_162 (by decide) ?_
                        refine lv_iload_n hx hb dX12_flow_163 rfl (lv_at hl 0 rfl) ?_
                        refine lv_iadd hx hb dX12_flow_164 ?_
                        refine lv_topi (fun x105 ex105 => ?_)
                        have tx105 : x105.toInt = 5 + y24.toInt := z_tadd ex105 z_l5 rfl (by omega) (by omega)
                        refine lv_bipush (v := 15) hx hb dX12_flow_165 (by decide) ?_
                        refine lv_aload_n hx hb dX12_flow_167 rfl (lv_at hl 1 rfl) ?_
                        refine z_get (T := TX12) (N := 96) (ci := 12) (i := 0) (v := .ref (ad 53)) hx hb hts zj_X12_flow_X12 hown hK hW rfl rfl 77 (by decide) (hts (.fieldLink RX12 175 "PetrolBoardModel" "wantOf" "[I") (me_s (me_l (me_l (List.mem_of_getElem? (i := 6) rfl))))) (fun _ h => h) rfl dX12_flow_168 ?_
                        refine lv_iload_n hx hb dX12_flow_171 rfl (lv_at hl 0 rfl) ?_
                        refine z_iald (i := 53) hx hb hK hW rfl (z_ix rfl (by omega) (by omega)) dX12_flow_172 ?_
                        refine lv_topi (fun x106 ex106 => ?_)
                        have h107 : 0 ≤ x106.toInt ∧ x106.toInt ≤ 20 := by rw [ex106]; exact lp23Awt _
                        have hl108 : x106.toInt = (I 53 y24.toNatClampNeg).toInt := by rw [ex106, lp23fr 53 _ (z_wr_c (by decide))]
                        refine lv_iconst (v := 0) hx hb dX12_flow_173 (by decide) ?_
                        refine z_cv hW hS hA (va_runV (As := [.int x105, .int 15, .int x106, .int 0]) (rest := []) ⟨hx, hb, hml, hown, hts⟩ (sx_X12_edge_y l G ad I25 J26 lp23Arm lp23Ami x105 15 x106 0 (by have := z_l15; have := z_l0; omega) (by have := z_l15; have := z_l0; omega) (by have := z_l15; have := z_l0; omega) (by have := z_l15; have := z_l0; omega) lp23L _) (cwV 4 hts gX12_flow_X12_edge rfl rfl rfl (by decide +kernel) ⟨Nat.le_of_ble_eq_true rfl, Nat.le_of_ble_eq_true rfl⟩) (z_preV (i := 0) hK hW rfl rfl) rfl rfl hl.1 rfl (lv_room (Nat.le_of_ble_eq_true rfl)) dX12_flow_174 ⟨Nat.le_of_ble_eq_true rfl, Nat.le_of_ble_eq_true rfl⟩) (fun u1 H locs hp hW hS => ?_)
                        obtain ⟨I109, J111, e9, hI109Arm, hI109Ami, fI109, hp⟩ := hp
                        rw [e9] at hW
                        have f110 := z_fr_sub (L := L_X12_flow_y) lp23fr fI109 (by decide)
                        have k112 : 0 ≤ (I109 0 75).toInt ∧ (I109 0 75).toInt ≤ 4 := by rw [fI109 0 75 (by decide)]; exact (by show 0 ≤ (I25 0 75).toInt ∧ (I25 0 75).toInt ≤ 4; exact lp23mr)
                        have k113 : 0 ≤ (I109 0 54).toInt ∧ (I109 0 54).toInt ≤ 10 := by rw [fI109 0 54 (by decide)]; exact (by show 0 ≤ (I25 0 54).toInt ∧ (I25 0 54).toInt ≤ 10; exact lp23ms.1)
                        have k114 : 0 ≤ (I109 0 55).toInt ∧ (I109 0 55).toInt ≤ 300 := by rw [fI109 0 55 (by decide)]; exact (by show 0 ≤ (I25 0 55).toInt ∧ (I25 0 55).toInt ≤ 300; exact lp23ms.2)
                        obtain ⟨h115, h116⟩ := hp
                        obtain ⟨x117, ex117⟩ : ∃ y : Int32, y = y24 + 1 := ⟨_, rfl⟩
                        have tx117 : x117.toInt = y24.toInt + 1 := z_tadd ex117 rfl z_l1 (by omega) (by omega)
                        refine lv_iinc (v := x117) (lv' := [(3, .int x117), (0, .ref (ad 0)), (1, .int a1), (2, .int a2)]) hx hb dX12_flow_177 hl (k := 0) rfl (by rw [ex117]; rfl) (by decide) rfl (fun ls hl => ?_)
                        refine lv_goto (tgt := 153) hx hb dX12_flow_180 (by decide) ?_
                        exact lp23ih x117 I109 J111 _ _ _ (by omega) (by omega) (by omega) (by show 0 ≤ (I109 0 75).toInt ∧ (I109 0 75).toInt ≤ 4; exact k112) ⟨(by show 0 ≤ (I109 0 54).toInt ∧ (I109 0 54).toInt ≤ 10; exact k113), (by show 0 ≤ (I109 0 55).toInt ∧ (I109 0 55).toInt ≤ 300; exact k114)⟩ (z_rg_fr lp23Ald fI109 (by decide)) (z_rg_fr lp23Awt fI109 (by decide)) (z_rg_fr lp23Ard fI109 (by decide)) hI109Arm hI109Ami (z_rg_fr lp23Abk fI109 (by decide)) (z_rg_fr lp23Afr fI109 (by decide)) h115 (by have c9 := z_clt (x := y24) rfl (by omega); have c7 := z_clt (x := x105) rfl (by omega); rw [z_ss (x := y24) (y := x117) (by omega) (by omega)]; exact zy_L33 lp23E (by rw [z_n15] at h116; exact h116) (by omega) (by omega) (by rw [← hl108]) z_l0) f110 hW hS (lv_sub hl [0, 1, 2, 3] rfl)
                  exact lp23 4294967296 (0) I17 J18 _ _ _ (z_m0u _) (by rw [z_l0]; omega) (by rw [z_l0]; omega) (by show 0 ≤ (I17 0 75).toInt ∧ (I17 0 75).toInt ≤ 4; exact lp15mr) ⟨(by show 0 ≤ (I17 0 54).toInt ∧ (I17 0 54).toInt ≤ 10; exact lp15ms.1), (by show 0 ≤ (I17 0 55).toInt ∧ (I17 0 55).toInt ≤ 300; exact lp15ms.2)⟩ lp15Ald lp15Awt lp15Ard lp15Arm lp15Ami lp15Abk lp15Afr lp15L (by have c9 := z_clt (x := y16) rfl (by omega); rw [z_n0]; exact zy_L13 lp15E (by omega) hZM (by omega)) lp15fr hW hS (lv_sub hl [0, 1, 2, 3] rfl)
                · have g118 := z_f_nge rfl rfl c21
                  refine lv_iload_n hx hb dX12_flow_67 rfl (lv_at hl 0 rfl) ?_
                  refine lv_iload_n hx hb dX12_flow_68 rfl (lv_at hl 2 rfl) ?_
                  refine lv_icmp_eq (tgt := 87) hx hb dX12_flow_69 (by decide) (fun c119 => (by have g := z_f_eq rfl rfl c119; omega)) (fun c119 => ?_)
                  have g120 := z_f_ne rfl rfl c119
                  refine lv_aload_n hx hb dX12_flow_72 rfl (lv_at hl 1 rfl) ?_
                  refine lv_iconst (v := 0) hx hb dX12_flow_73 (by decide) ?_
                  refine lv_iconst (v := 1) hx hb dX12_flow_74 (by decide) ?_
                  refine lv_iload_n hx hb dX12_flow_75 rfl (lv_at hl 0 rfl) ?_
                  refine lv_iadd hx hb dX12_flow_76 ?_
                  refine lv_topi (fun x121 ex121 => ?_)
                  have tx121 : x121.toInt = 1 + y16.toInt := z_tadd ex121 z_l1 rfl (by omega) (by omega)
                  refine lv_aload_n hx hb dX12_flow_77 rfl (lv_at hl 1 rfl) ?_
                  refine z_get (T := TX12) (N := 96) (ci := 12) (i := 0) (v := .ref (ad 52)) hx hb hts zj_X12_flow_X12 hown hK hW rfl rfl 76 (by decide) (hts (.fieldLink RX12 172 "PetrolBoardModel" "loadsOf" "[I") (me_s (me_l (me_l (List.mem_of_getElem? (i := 3) rfl))))) (fun _ h => h) rfl dX12_flow_78 ?_
                  refine lv_iload_n hx hb dX12_flow_81 rfl (lv_at hl 0 rfl) ?_
                  refine z_iald (i := 52) hx hb hK hW rfl (z_ix rfl (by omega) (by omega)) dX12_flow_82 ?_
                  refine lv_topi (fun x122 ex122 => ?_)
                  have h123 : 0 ≤ x122.toInt ∧ x122.toInt ≤ 50 := by rw [ex122]; exact lp15Ald _
                  have hl124 : x122.toInt = (I 52 y16.toNatClampNeg).toInt := by rw [ex122, lp15fr 52 _ (z_wr_c (by decide))]
                  refine lv_iconst (v := 0) hx hb dX12_flow_83 (by decide) ?_
                  refine z_cv hW hS hA (va_runV (As := [.int 0, .int x121, .int x122, .int 0]) (rest := []) ⟨hx, hb, hml, hown, hts⟩ (sx_X12_edge_y l G ad I17 J18 lp15Arm lp15Ami 0 x121 x122 0 (by have := z_l0; have := z_l0; omega) (by have := z_l0; have := z_l0; omega) (by have := z_l0; have := z_l0; omega) (by have := z_l0; have := z_l0; omega) lp15L _) (cwV 4 hts gX12_flow_X12_edge rfl rfl rfl (by decide +kernel) ⟨Nat.le_of_ble_eq_true rfl, Nat.le_of_ble_eq_true rfl⟩) (z_preV (i := 0) hK hW rfl rfl) rfl rfl hl.1 rfl (lv_room (Nat.le_of_ble_eq_true rfl)) dX12_flow_84 ⟨Nat.le_of_ble_eq_true rfl, Nat.le_of_ble_eq_true rfl⟩) (fun u1 H locs hp hW hS => ?_)
                  obtain ⟨I125, J127, e9, hI125Arm, hI125Ami, fI125, hp⟩ := hp
                  rw [e9] at hW
                  have f126 := z_fr_sub (L := L_X12_flow_y) lp15fr fI125 (by decide)
                  have k128 : 0 ≤ (I125 0 75).toInt ∧ (I125 0 75).toInt ≤ 4 := by rw [fI125 0 75 (by decide)]; exact (by show 0 ≤ (I17 0 75).toInt ∧ (I17 0 75).toInt ≤ 4; exact lp15mr)
                  have k129 : 0 ≤ (I125 0 54).toInt ∧ (I125 0 54).toInt ≤ 10 := by rw [fI125 0 54 (by decide)]; exact (by show 0 ≤ (I17 0 54).toInt ∧ (I17 0 54).toInt ≤ 10; exact lp15ms.1)
                  have k130 : 0 ≤ (I125 0 55).toInt ∧ (I125 0 55).toInt ≤ 300 := by rw [fI125 0 55 (by decide)]; exact (by show 0 ≤ (I17 0 55).toInt ∧ (I17 0 55).toInt ≤ 300; exact lp15ms.2)
                  obtain ⟨h131, h132⟩ := hp
                  refine lv_iconst (v := 0) hx hb dX12_flow_87 (by decide) ?_
                  refine lv_istore (lv' := [(4, .int 0), (3, .int y16), (0, .ref (ad 0)), (1, .int a1), (2, .int a2)]) hx hb dX12_flow_88 hl (by decide) rfl (fun ls hl => ?_)
                  have lp133 : ∀ (f : Nat) (y134 : Int32) (I135 : z_I) (J136 : z_J) (H : Heap) (locs : List Loc) (ls : Array Slot), (2147483647 < y134.toInt + (f : Int)) → (0 ≤ y134.toInt) → (y134.toInt ≤ 10) → (z_imr I135) → (z_ims I135) → (z_rg 52 0 50 I135) → (z_rg 53 0 20 I135) → (z_rg 54 0 999 I135) → (z_rg 55 0 100 I135) → (z_rg 56 (-999) 999 I135) → (z_rg 58 0 15 I135) → (z_rg 57 (-300000) 1000000 I135) → (z_BL I135) → (zy_LD (zy_0M I a1.toInt) (zy_CM I) (zy_P2 y16.toNatClampNeg y134.toNatClampNeg) (z_RM I135) (z_CM I135)) → (z_fr L_X12_flow_y I135 I) → z_W G A (shM, ad, I135, J136, PM ad) H → va_S A s.heap H locs → lv_has ls 7 [(4, .int y134), (3, .int y16), (0, .ref (ad 0)), (1, .int a1), (2, .int a2)] → W p l e (headSpec wsX12_flow { frames := 2, cells := 0, slots := 0, locals := 36 }).room s m ([.ref (ad 0), .int a1, .int a2] : List Value).toArray below meth c0 H locs 0 0 (MQ below (va_Qi (fun (r : Int32) (u1 : z_U) => ∃ (I1 : z_I) (J1 : z_J), u1 = (shM, ad, I1, J1, PM ad) ∧ z_imr I1 ∧ z_ims I1 ∧ z_rg 52 0 50 I1 ∧ z_rg 53 0 20 I1 ∧ z_rg 54 0 999 I1 ∧ z_rg 55 0 100 I1 ∧ z_rg 56 (-999) 999 I1 ∧ z_rg 58 0 15 I1 ∧ z_rg 57 (-300000) 1000000 I1 ∧ z_fr L_X12_flow_y I1 I ∧ ((((a1.toInt = -1 ∨ 0 ≤ a1.toInt ∧ a1.toInt < (I 0 75).toInt) ∧ 0 ≤ a2.toInt ∧ a2.toInt ≤ 1) ∧ ∃ (R : Nat → Nat → Int) (x y : Int32), zy_FL (zy_0M I a1.toInt) R (zy_CM I) x y ∧ zy_op R (zy_CM I) ∧ (a2.toInt = 0 → r = x) ∧ (a2.toInt = 1 → r = y)) ∨ (¬ ((a1.toInt = -1 ∨ 0 ≤ a1.toInt ∧ a1.toInt < (I 0 75).toInt) ∧ 0 ≤ a2.toInt ∧ a2.toInt ≤ 1) ∧ r.toInt = -1))) (z_B G A) A) ([.ref (ad 0), .int a1, .int a2] : List Value).toArray s 0 0 A) (F0 m 90 ls []) := by
                    intro f
                    induction f with
                    | zero => intro y134 I135 J136 H locs ls lp133m lp133l4 lp133u4 lp133mr lp133ms lp133Ald lp133Awt lp133Ard lp133Arm lp133Ami lp133Abk lp133Afr lp133L lp133E lp133fr hW hS hl; exact absurd lp133m (by have := Int32.toInt_lt y134; have := Int32.le_toInt y134; omega)
                    | succ f lp133ih =>
                      intro y134 I135 J136 H locs ls lp133m lp133l4 lp133u4 lp133mr lp133ms lp133Ald lp133Awt lp133Ard lp133Arm lp133Ami lp133Abk lp133Afr lp133L lp133E lp133fr hW hS hl
                      refine lv_iload hx hb dX12_flow_90 (lv_at hl 0 rfl) ?_
                      refine lv_aload_n hx hb dX12_flow_92 rfl (lv_at hl 2 rfl) ?_
                      have r137 : 0 ≤ (I135 0 54).toInt ∧ (I135 0 54).toInt ≤ 10 := lp133ms.1
                      refine z_get (T := TX12) (N := 96) (ci := 12) (i := 0) (v := .int (I135 0 54)) hx hb hts zj_X12_flow_X12 hown hK hW rfl rfl 54 (by decide) (hts (.fieldLink RX12 461 "PetrolBoardModel" "stations" "I") (me_s (me_l (me_l (List.mem_of_getElem? (i := 4) rfl))))) (fun _ h => h) rfl dX12_flow_93 ?_
                      have hn138 : (I135 0 54).toInt = (I 0 54).toInt := by rw [lp133fr 0 54 (by decide)]
                      refine lv_icmp_ge (tgt := 145) hx hb dX12_flow_96 (by decide) (fun c139 => ?_) (fun c139 => ?_)
                      · have g140 := z_f_ge rfl rfl c139
                        obtain ⟨x141, ex141⟩ : ∃ y : Int32, y = y16 + 1 := ⟨_, rfl⟩
                        have tx141 : x141.toInt = y16.toInt + 1 := z_tadd ex141 rfl z_l1 (by omega) (by omega)
                        refine lv_iinc (v := x141) (lv' := [(3, .int x141), (4, .int y134), (0, .ref (ad 0)), (1, .int a1), (2, .int a2)]) hx hb dX12_flow_145 hl (k := 1) rfl (by rw [ex141]; rfl) (by decide) rfl (fun ls hl => ?_)
                        refine lv_goto (tgt := 59) hx hb dX12_flow_148 (by decide) ?_
                        exact lp15ih x141 I135 J136 _ _ _ (by omega) (by omega) (by omega) (by show 0 ≤ (I135 0 75).toInt ∧ (I135 0 75).toInt ≤ 4; exact lp133mr) ⟨(by show 0 ≤ (I135 0 54).toInt ∧ (I135 0 54).toInt ≤ 10; exact lp133ms.1), (by show 0 ≤ (I135 0 55).toInt ∧ (I135 0 55).toInt ≤ 300; exact lp133ms.2)⟩ lp133Ald lp133Awt lp133Ard lp133Arm lp133Ami lp133Abk lp133Afr lp133L (by have c9 := z_clt (x := y134) rfl (by omega); have c8 := z_clt (x := y16) rfl (by omega); rw [z_ss (x := y16) (y := x141) (by omega) (by omega)]; exact zy_L21 lp133E (by omega) hZM (by omega)) lp133fr hW hS (lv_sub hl [0, 2, 3, 4] rfl)
                      · have g142 := z_f_nge rfl rfl c139
                        refine lv_aload_n hx hb dX12_flow_99 rfl (lv_at hl 2 rfl) ?_
                        refine z_get (T := TX12) (N := 96) (ci := 12) (i := 0) (v := .ref (ad 54)) hx hb hts zj_X12_flow_X12 hown hK hW rfl rfl 78 (by decide) (hts (.fieldLink RX12 178 "PetrolBoardModel" "roadOf" "[I") (me_s (me_l (me_l (List.mem_of_getElem? (i := 5) rfl))))) (fun _ h => h) rfl dX12_flow_100 ?_
                        refine lv_bipush (v := 10) hx hb dX12_flow_103 (by decide) ?_
                        refine lv_iload_n hx hb dX12_flow_105 rfl (lv_at hl 1 rfl) ?_
                        refine lv_imul hx hb dX12_flow_106 ?_
                        refine lv_topi (fun x143 ex143 => ?_)
                        have tx143 : x143.toInt = 10 * y16.toInt := z_tmul ex143 z_l10 rfl (by omega) (by omega)
                        refine lv_iload hx hb dX12_flow_107 (lv_at hl 0 rfl) ?_
                        refine lv_iadd hx hb dX12_flow_109 ?_
                        refine lv_topi (fun x144 ex144 => ?_)
                        have tx144 : x144.toInt = x143.toInt + y134.toInt := z_tadd ex144 rfl rfl (by omega) (by omega)
                        refine z_iald (i := 54) hx hb hK hW rfl (z_ix rfl (by omega) (by omega)) dX12_flow_110 ?_
                        refine lv_topi (fun x145 ex145 => ?_)
                        have h146 : 0 ≤ x145.toInt ∧ x145.toInt ≤ 999 := by rw [ex145]; exact lp133Ard _
                        have hl147 : x145.toInt = (I 54 (10 * y16.toNatClampNeg + y134.toNatClampNeg)).toInt := by rw [ex145, lp133fr 54 _ (z_wr_c (by decide)), show x144.toNatClampNeg = 10 * y16.toNatClampNeg + y134.toNatClampNeg from by have q1 := z_clt (x := y16) rfl (by omega); have q2 := z_clt (x := y134) rfl (by omega); have q3 := z_clt (x := x144) rfl (by omega); omega]
                        refine lv_if_le (tgt := 139) hx hb dX12_flow_111 (by decide) (fun c148 => ?_) (fun c148 => ?_)
                        · have g149 := z_f_le rfl z_l0 c148
                          obtain ⟨x150, ex150⟩ : ∃ y : Int32, y = y134 + 1 := ⟨_, rfl⟩
                          have tx150 : x150.toInt = y134.toInt + 1 := z_tadd ex150 rfl z_l1 (by omega) (by omega)
                          refine lv_iinc (v := x150) (lv' := [(4, .int x150), (3, .int y16), (0, .ref (ad 0)), (1, .int a1), (2, .int a2)]) hx hb dX12_flow_139 hl (k := 0) rfl (by rw [ex150]; rfl) (by decide) rfl (fun ls hl => ?_)
                          refine lv_goto (tgt := 90) hx hb dX12_flow_142 (by decide) ?_
                          exact lp133ih x150 I135 J136 _ _ _ (by omega) (by omega) (by omega) (by show 0 ≤ (I135 0 75).toInt ∧ (I135 0 75).toInt ≤ 4; exact lp133mr) ⟨(by show 0 ≤ (I135 0 54).toInt ∧ (I135 0 54).toInt ≤ 10; exact lp133ms.1), (by show 0 ≤ (I135 0 55).toInt ∧ (I135 0 55).toInt ≤ 300; exact lp133ms.2)⟩ lp133Ald lp133Awt lp133Ard lp133Arm lp133Ami lp133Abk lp133Afr lp133L (by have c9 := z_clt (x := y16) rfl (by omega); have c8 := z_clt (x := y134) rfl (by omega); rw [z_ss (x := y134) (y := x150) (by omega) (by omega)]; exact zy_L22n lp133E (by omega) (by omega) (by rw [← hl147]; omega)) lp133fr hW hS (lv_sub hl [0, 1, 2, 3, 4] rfl)
                        · have g151 := z_f_nle rfl z_l0 c148
                          refine lv_aload_n hx hb dX12_flow_114 rfl (lv_at hl 2 rfl) ?_
                          refine lv_iconst (v := 1) hx hb dX12_flow_115 (by decide) ?_
                          refine lv_iload_n hx hb dX12_flow_116 rfl (lv_at hl 1 rfl) ?_
                          refine lv_iadd hx hb dX12_flow_117 ?_
                          refine lv_topi (fun x152 ex152 => ?_)
                          have tx152 : x152.toInt = 1 + y16.toInt := z_tadd ex152 z_l1 rfl (by omega) (by omega)
                          refine lv_iconst (v := 5) hx hb dX12_flow_118 (by decide) ?_
                          refine lv_iload hx hb dX12_flow_119 (lv_at hl 0 rfl) ?_
                          refine lv_iadd hx hb dX12_flow_121 ?_
                          refine lv_topi (fun x153 ex153 => ?_)
                          have tx153 : x153.toInt = 5 + y134.toInt := z_tadd ex153 z_l5 rfl (by omega) (by omega)
                          refine lv_bipush (v := 50) hx hb dX12_flow_122 (by decide) ?_
                          refine lv_aload_n hx hb dX12_flow_124 rfl (lv_at hl 2 rfl) ?_
                          refine z_get (T := TX12) (N := 96) (ci := 12) (i := 0) (v := .ref (ad 54)) hx hb hts zj_X12_flow_X12 hown hK hW rfl rfl 78 (by decide) (hts (.fieldLink RX12 178 "PetrolBoardModel" "roadOf" "[I") (me_s (me_l (me_l (List.mem_of_getElem? (i := 5) rfl))))) (fun _ h => h) rfl dX12_flow_125 ?_
                          refine lv_bipush (v := 10) hx hb dX12_flow_128 (by decide) ?_
                          refine lv_iload_n hx hb dX12_flow_130 rfl (lv_at hl 1 rfl) ?_
                          refine lv_imul hx hb dX12_flow_131 ?_
                          refine lv_topi (fun x154 ex154 => ?_)
                          have tx154 : x154.toInt = 10 * y16.toInt := z_tmul ex154 z_l10 rfl (by omega) (by omega)
                          refine lv_iload hx hb dX12_flow_132 (lv_at hl 0 rfl) ?_
                          refine lv_iadd hx hb dX12_flow_134 ?_
                          refine lv_topi (fun x155 ex155 => ?_)
                          have tx155 : x155.toInt = x154.toInt + y134.toInt := z_tadd ex155 rfl rfl (by omega) (by omega)
                          refine z_iald (i := 54) hx hb hK hW rfl (z_ix rfl (by omega) (by omega)) dX12_flow_135 ?_
                          refine lv_topi (fun x156 ex156 => ?_)
                          have h157 : 0 ≤ x156.toInt ∧ x156.toInt ≤ 999 := by rw [ex156]; exact lp133Ard _
                          have hl158 : x156.toInt = (I 54 (10 * y16.toNatClampNeg + y134.toNatClampNeg)).toInt := by rw [ex156, lp133fr 54 _ (z_wr_c (by decide)), show x155.toNatClampNeg = 10 * y16.toNatClampNeg + y134.toNatClampNeg from by have q1 := z_clt (x := y16) rfl (by omega); have q2 := z_clt (x := y134) rfl (by omega); have q3 := z_clt (x := x155) rfl (by omega); omega]
                          refine z_cv hW hS hA (va_runV (As := [.int x152, .int x153, .int 50, .int x156]) (rest := []) ⟨hx, hb, hml, hown, hts⟩ (sx_X12_edge_y l G ad I135 J136 lp133Arm lp133Ami x152 x153 50 x156 (by have := z_l50; omega) (by have := z_l50; omega) (by have := z_l50; omega) (by have := z_l50; omega) lp133L _) (cwV 4 hts gX12_flow_X12_edge rfl rfl rfl (by decide +kernel) ⟨Nat.le_of_ble_eq_true rfl, Nat.le_of_ble_eq_true rfl⟩) (z_preV (i := 0) hK hW rfl rfl) rfl rfl hl.1 rfl (lv_room (Nat.le_of_ble_eq_true rfl)) dX12_flow_136 ⟨Nat.le_of_ble_eq_true rfl, Nat.le_of_ble_eq_true rfl⟩) (fun u1 H locs hp hW hS => ?_)
                          obtain ⟨I159, J161, e9, hI159Arm, hI159Ami, fI159, hp⟩ := hp
                          rw [e9] at hW
                          have f160 := z_fr_sub (L := L_X12_flow_y) lp133fr fI159 (by decide)
                          have k162 : 0 ≤ (I159 0 75).toInt ∧ (I159 0 75).toInt ≤ 4 := by rw [fI159 0 75 (by decide)]; exact (by show 0 ≤ (I135 0 75).toInt ∧ (I135 0 75).toInt ≤ 4; exact lp133mr)
                          have k163 : 0 ≤ (I159 0 54).toInt ∧ (I159 0 54).toInt ≤ 10 := by rw [fI159 0 54 (by decide)]; exact (by show 0 ≤ (I135 0 54).toInt ∧ (I135 0 54).toInt ≤ 10; exact lp133ms.1)
                          have k164 : 0 ≤ (I159 0 55).toInt ∧ (I159 0 55).toInt ≤ 300 := by rw [fI159 0 55 (by decide)]; exact (by show 0 ≤ (I135 0 55).toInt ∧ (I135 0 55).toInt ≤ 300; exact lp133ms.2)
                          obtain ⟨h165, h166⟩ := hp
                          obtain ⟨x167, ex167⟩ : ∃ y : Int32, y = y134 + 1 := ⟨_, rfl⟩
                          have tx167 : x167.toInt = y134.toInt + 1 := z_tadd ex167 rfl z_l1 (by omega) (by omega)
                          refine lv_iinc (v := x167) (lv' := [(4, .int x167), (3, .int y16), (0, .ref (ad 0)), (1, .int a1), (2, .int a2)]) hx hb dX12_flow_139 hl (k := 0) rfl (by rw [ex167]; rfl) (by decide) rfl (fun ls hl => ?_)
                          refine lv_goto (tgt := 90) hx hb dX12_flow_142 (by decide) ?_
                          exact lp133ih x167 I159 J161 _ _ _ (by omega) (by omega) (by omega) (by show 0 ≤ (I159 0 75).toInt ∧ (I159 0 75).toInt ≤ 4; exact k162) ⟨(by show 0 ≤ (I159 0 54).toInt ∧ (I159 0 54).toInt ≤ 10; exact k163), (by show 0 ≤ (I159 0 55).toInt ∧ (I159 0 55).toInt ≤ 300; exact k164)⟩ (z_rg_fr lp133Ald fI159 (by decide)) (z_rg_fr lp133Awt fI159 (by decide)) (z_rg_fr lp133Ard fI159 (by decide)) hI159Arm hI159Ami (z_rg_fr lp133Abk fI159 (by decide)) (z_rg_fr lp133Afr fI159 (by decide)) h165 (by have c9 := z_clt (x := y16) rfl (by omega); have c8 := z_clt (x := y134) rfl (by omega); have c7 := z_clt (x := x152) rfl (by omega); have c6 := z_clt (x := x153) rfl (by omega); rw [z_ss (x := y134) (y := x167) (by omega) (by omega)]; exact zy_L22 lp133E h166 (by omega) (by omega) (by omega) (by omega) z_l50 (by rw [← hl158]) (by omega)) f160 hW hS (lv_sub hl [0, 1, 2, 3, 4] rfl)
                  exact lp133 4294967296 (0) I125 J127 _ _ _ (z_m0u _) (by rw [z_l0]; omega) (by rw [z_l0]; omega) (by show 0 ≤ (I125 0 75).toInt ∧ (I125 0 75).toInt ≤ 4; exact k128) ⟨(by show 0 ≤ (I125 0 54).toInt ∧ (I125 0 54).toInt ≤ 10; exact k129), (by show 0 ≤ (I125 0 55).toInt ∧ (I125 0 55).toInt ≤ 300; exact k130)⟩ (z_rg_fr lp15Ald fI125 (by decide)) (z_rg_fr lp15Awt fI125 (by decide)) (z_rg_fr lp15Ard fI125 (by decide)) hI125Arm hI125Ami (z_rg_fr lp15Abk fI125 (by decide)) (z_rg_fr lp15Afr fI125 (by decide)) h131 (by have c9 := z_clt (x := y16) rfl (by omega); have c8 := z_clt (x := x121) rfl (by omega); rw [z_n0]; exact zy_L12 lp15E (by rw [z_n0] at h132; exact h132) (by omega) (by omega) (by rw [← hl124]) z_l0 (by omega)) f126 hW hS (lv_sub hl [0, 1, 2, 3, 4] rfl)
            exact lp15 4294967296 (0) I11 J12 _ _ _ (z_m0u _) (by rw [z_l0]; omega) (by rw [z_l0]; omega) (by show 0 ≤ (I11 0 75).toInt ∧ (I11 0 75).toInt ≤ 4; exact lp9mr) ⟨(by show 0 ≤ (I11 0 54).toInt ∧ (I11 0 54).toInt ≤ 10; exact lp9ms.1), (by show 0 ≤ (I11 0 55).toInt ∧ (I11 0 55).toInt ≤ 300; exact lp9ms.2)⟩ lp9Ald lp9Awt lp9Ard lp9Arm lp9Ami lp9Abk lp9Afr (z_BL_0 (fun j hj => lp9Z j (by omega))) (by rw [z_n0]; exact zy_L10 (fun j hj => lp9Z j (by omega))) lp9fr hW hS (lv_sub hl [0, 1, 2, 3] rfl)
          · have g168 := z_f_nge rfl z_l256 c13
            refine lv_aload_n hx hb dX12_flow_37 rfl (lv_at hl 1 rfl) ?_
            refine z_get (T := TX12) (N := 96) (ci := 12) (i := 0) (v := .ref (ad 55)) hx hb hts zj_X12_flow_X12 hown hK hW rfl rfl 79 (by decide) (hts (.fieldLink RX12 181 "PetrolBoardModel" "room" "[I") (me_s (me_l (me_l (List.mem_of_getElem? (i := 1) rfl))))) (fun _ h => h) rfl dX12_flow_38 ?_
            refine lv_iload_n hx hb dX12_flow_41 rfl (lv_at hl 0 rfl) ?_
            refine lv_iconst (v := 0) hx hb dX12_flow_42 (by decide) ?_
            refine z_iast (i := 55) hx hb hK hW hS rfl (z_ix rfl (by omega) (by omega)) dX12_flow_43 (fun H locs hz1 hW hS => ?_)
            obtain ⟨I169, eI169⟩ : ∃ K : z_I, K = z_up I11 55 y10.toNatClampNeg 0 := ⟨_, rfl⟩
            rw [← eI169] at hW
            have f170 := z_fr_a lp9fr (show z_wa L_X12_flow_y 55 = true by decide) eI169
            have a171 := z_rg_n lp9Ald (by decide) eI169
            have a172 := z_rg_n lp9Awt (by decide) eI169
            have a173 := z_rg_n lp9Ard (by decide) eI169
            have a174 := z_rg_a lp9Arm (by decide) eI169
            have a175 := z_rg_n lp9Ami (by decide) eI169
            have a176 := z_rg_n lp9Abk (by decide) eI169
            have a177 := z_rg_n lp9Afr (by decide) eI169
            refine lv_aload_n hx hb dX12_flow_44 rfl (lv_at hl 1 rfl) ?_
            refine z_get (T := TX12) (N := 96) (ci := 12) (i := 0) (v := .ref (ad 56)) hx hb hts zj_X12_flow_X12 hown hK hW rfl rfl 80 (by decide) (hts (.fieldLink RX12 184 "PetrolBoardModel" "miles" "[I") (me_s (me_l (me_l (List.mem_of_getElem? (i := 2) rfl))))) (fun _ h => h) rfl dX12_flow_45 ?_
            refine lv_iload_n hx hb dX12_flow_48 rfl (lv_at hl 0 rfl) ?_
            refine lv_iconst (v := 0) hx hb dX12_flow_49 (by decide) ?_
            refine z_iast (i := 56) hx hb hK hW hS rfl (z_ix rfl (by omega) (by omega)) dX12_flow_50 (fun H locs hz1 hW hS => ?_)
            obtain ⟨I178, eI178⟩ : ∃ K : z_I, K = z_up I169 56 y10.toNatClampNeg 0 := ⟨_, rfl⟩
            rw [← eI178] at hW
            have f179 := z_fr_a f170 (show z_wa L_X12_flow_y 56 = true by decide) eI178
            have a180 := z_rg_n a171 (by decide) eI178
            have a181 := z_rg_n a172 (by decide) eI178
            have a182 := z_rg_n a173 (by decide) eI178
            have a183 := z_rg_n a174 (by decide) eI178
            have a184 := z_rg_a a175 (by decide) eI178
            have a185 := z_rg_n a176 (by decide) eI178
            have a186 := z_rg_n a177 (by decide) eI178
            obtain ⟨x187, ex187⟩ : ∃ y : Int32, y = y10 + 1 := ⟨_, rfl⟩
            have tx187 : x187.toInt = y10.toInt + 1 := z_tadd ex187 rfl z_l1 (by omega) (by omega)
            refine lv_iinc (v := x187) (lv' := [(3, .int x187), (0, .ref (ad 0)), (1, .int a1), (2, .int a2)]) hx hb dX12_flow_51 hl (k := 0) rfl (by rw [ex187]; rfl) (by decide) rfl (fun ls hl => ?_)
            refine lv_goto (tgt := 30) hx hb dX12_flow_54 (by decide) ?_
            exact lp9ih x187 I178 J12 _ _ _ (by omega) (by omega) (by omega) (by show 0 ≤ (I178 0 75).toInt ∧ (I178 0 75).toInt ≤ 4; rw [eI178, z_up_n (by decide), eI169, z_up_n (by decide)]; exact lp9mr) ⟨(by show 0 ≤ (I178 0 54).toInt ∧ (I178 0 54).toInt ≤ 10; rw [eI178, z_up_n (by decide), eI169, z_up_n (by decide)]; exact lp9ms.1), (by show 0 ≤ (I178 0 55).toInt ∧ (I178 0 55).toInt ≤ 300; rw [eI178, z_up_n (by decide), eI169, z_up_n (by decide)]; exact lp9ms.2)⟩ a180 a181 a182 a183 a184 a185 a186 (fun j hj => by by_cases q9 : j = y10.toNatClampNeg; (· (exact ⟨by rw [eI178, z_up_n (by decide), eI169, q9, z_up_s], by rw [eI178, q9, z_up_s]⟩)); (· (have hc9 := z_clt (x := y10) rfl (by omega); have h9 := lp9Z j (by omega); exact ⟨by rw [eI178, z_up_n (by decide), eI169, z_up_k q9]; exact h9.1, by rw [eI178, z_up_k q9, eI169, z_up_n (by decide)]; exact h9.2⟩))) f179 hW hS (lv_sub hl [0, 1, 2, 3] rfl)
      exact lp9 4294967296 (0) I J _ _ _ (z_m0u _) (by rw [z_l0]; omega) (by rw [z_l0]; omega) (by show 0 ≤ (I 0 75).toInt ∧ (I 0 75).toInt ≤ 4; exact hmr) ⟨(by show 0 ≤ (I 0 54).toInt ∧ (I 0 54).toInt ≤ 10; exact hms.1), (by show 0 ≤ (I 0 55).toInt ∧ (I 0 55).toInt ≤ 300; exact hms.2)⟩ hAld hAwt hArd hArm hAmi hAbk hAfr (fun j hj => absurd hj (by have : ((0 : Int32)).toInt = 0 := (by decide); omega)) z_fr_0 hW hS (lv_sub hl [0, 1, 2, 3] rfl)
    · have h188 := h4
      have z189 := z_l0
      have z190 := z_l1
      refine lv_if_ne (tgt := 28) hx hb dX12_flow_23 (by decide) (fun c191 => absurd (by decide) c191) (fun c191 => ?_)
      refine lv_iconst (v := (-1)) hx hb dX12_flow_26 (by decide) ?_
      exact z_iret hx hb hr hK hS (Nat.le_of_ble_eq_true rfl) (Nat.le_of_ble_eq_true rfl) hlocks dX12_flow_27 (shM, ad, I, J, PM ad) hW ⟨I, J, rfl, (by show 0 ≤ (I 0 75).toInt ∧ (I 0 75).toInt ≤ 4; exact hmr), ⟨(by show 0 ≤ (I 0 54).toInt ∧ (I 0 54).toInt ≤ 10; exact hms.1), (by show 0 ≤ (I 0 55).toInt ∧ (I 0 55).toInt ≤ 300; exact hms.2)⟩, hAld, hAwt, hArd, hArm, hAmi, hAbk, hAfr, z_fr_0, (Or.inr ⟨by omega, by decide⟩)⟩
  · have g192 := z_f_ne rfl z_lm1 c1
    have b193 := Int32.toInt_lt a1
    refine lv_iload_n hx hb dX12_flow_5 rfl (lv_at hl 1 rfl) ?_
    refine lv_if_lt (tgt := 26) hx hb dX12_flow_6 (by decide) (fun c194 => ?_) (fun c194 => ?_)
    · have g195 := z_f_lt rfl z_l0 c194
      refine lv_iconst (v := (-1)) hx hb dX12_flow_26 (by decide) ?_
      exact z_iret hx hb hr hK hS (Nat.le_of_ble_eq_true rfl) (Nat.le_of_ble_eq_true rfl) hlocks dX12_flow_27 (shM, ad, I, J, PM ad) hW ⟨I, J, rfl, (by show 0 ≤ (I 0 75).toInt ∧ (I 0 75).toInt ≤ 4; exact hmr), ⟨(by show 0 ≤ (I 0 54).toInt ∧ (I 0 54).toInt ≤ 10; exact hms.1), (by show 0 ≤ (I 0 55).toInt ∧ (I 0 55).toInt ≤ 300; exact hms.2)⟩, hAld, hAwt, hArd, hArm, hAmi, hAbk, hAfr, z_fr_0, (Or.inr ⟨by omega, by decide⟩)⟩
    · have g196 := z_f_nlt rfl z_l0 c194
      refine lv_iload_n hx hb dX12_flow_9 rfl (lv_at hl 1 rfl) ?_
      refine lv_aload_n hx hb dX12_flow_10 rfl (lv_at hl 0 rfl) ?_
      have r197 : 0 ≤ (I 0 75).toInt ∧ (I 0 75).toInt ≤ 4 := hmr
      refine z_get (T := TX12) (N := 96) (ci := 12) (i := 0) (v := .int (I 0 75)) hx hb hts zj_X12_flow_X12 hown hK hW rfl rfl 75 (by decide) (hts (.fieldLink RX12 493 "PetrolBoardModel" "ports" "I") (me_s (me_l (me_l (List.mem_of_getElem? (i := 0) rfl))))) (fun _ h => h) rfl dX12_flow_11 ?_
      refine lv_icmp_ge (tgt := 26) hx hb dX12_flow_14 (by decide) (fun c198 => ?_) (fun c198 => ?_)
      · have g199 := z_f_ge rfl rfl c198
        refine lv_iconst (v := (-1)) hx hb dX12_flow_26 (by decide) ?_
        exact z_iret hx hb hr hK hS (Nat.le_of_ble_eq_true rfl) (Nat.le_of_ble_eq_true rfl) hlocks dX12_flow_27 (shM, ad, I, J, PM ad) hW ⟨I, J, rfl, (by show 0 ≤ (I 0 75).toInt ∧ (I 0 75).toInt ≤ 4; exact hmr), ⟨(by show 0 ≤ (I 0 54).toInt ∧ (I 0 54).toInt ≤ 10; exact hms.1), (by show 0 ≤ (I 0 55).toInt ∧ (I 0 55).toInt ≤ 300; exact hms.2)⟩, hAld, hAwt, hArd, hArm, hAmi, hAbk, hAfr, z_fr_0, (Or.inr ⟨by omega, by decide⟩)⟩
      · have g200 := z_f_nge rfl rfl c198
        refine lv_iload_n hx hb dX12_flow_17 rfl (lv_at hl 2 rfl) ?_
        refine lv_iconst (v := 0) hx hb dX12_flow_18 (by decide) ?_
        refine lv_iconst (v := 1) hx hb dX12_flow_19 (by decide) ?_
        refine z_ci hW hS hA (va_runS (As := [.int a2, .int 0, .int 1]) (rest := []) ⟨hx, hb, hml, hown, hts⟩ (sx_X12_within_e l G ad I J  a2 0 1 _) (va_cwS 3 hts gX12_flow_X12_within rfl rfl rfl (by decide +kernel) ⟨Nat.le_of_ble_eq_true rfl, Nat.le_of_ble_eq_true rfl⟩) (z_preS hK hW) rfl rfl hl.1 rfl (lv_room (Nat.le_of_ble_eq_true rfl)) dX12_flow_20 ⟨Nat.le_of_ble_eq_true rfl, Nat.le_of_ble_eq_true rfl⟩) (fun r u1 H locs hp hW hS => ?_)
        obtain ⟨e9, hp⟩ := hp
        rw [e9] at hW
        rcases hp with ⟨rfl, h201⟩ | ⟨rfl, h201⟩
        · have h202 := h201
          have z203 := z_l0
          have z204 := z_l1
          refine lv_if_ne (tgt := 28) hx hb dX12_flow_23 (by decide) (fun c205 => ?_) (fun c205 => absurd c205 (by decide))
          refine lv_iconst (v := 0) hx hb dX12_flow_28 (by decide) ?_
          refine lv_istore_n (lv' := [(3, .int 0), (0, .ref (ad 0)), (1, .int a1), (2, .int a2)]) hx hb dX12_flow_29 rfl hl (by decide) rfl (fun ls hl => ?_)
          have lp206 : ∀ (f : Nat) (y207 : Int32) (I208 : z_I) (J209 : z_J) (H : Heap) (locs : List Loc) (ls : Array Slot), (2147483647 < y207.toInt + (f : Int)) → (0 ≤ y207.toInt) → (y207.toInt ≤ 256) → (z_imr I208) → (z_ims I208) → (z_rg 52 0 50 I208) → (z_rg 53 0 20 I208) → (z_rg 54 0 999 I208) → (z_rg 55 0 100 I208) → (z_rg 56 (-999) 999 I208) → (z_rg 58 0 15 I208) → (z_rg 57 (-300000) 1000000 I208) → (∀ j : Nat, (j : Int) < y207.toInt → I208 55 j = 0 ∧ I208 56 j = 0) → (z_fr L_X12_flow_y I208 I) → z_W G A (shM, ad, I208, J209, PM ad) H → va_S A s.heap H locs → lv_has ls 7 [(3, .int y207), (0, .ref (ad 0)), (1, .int a1), (2, .int a2)] → W p l e (headSpec wsX12_flow { frames := 2, cells := 0, slots := 0, locals := 36 }).room s m ([.ref (ad 0), .int a1, .int a2] : List Value).toArray below meth c0 H locs 0 0 (MQ below (va_Qi (fun (r : Int32) (u1 : z_U) => ∃ (I1 : z_I) (J1 : z_J), u1 = (shM, ad, I1, J1, PM ad) ∧ z_imr I1 ∧ z_ims I1 ∧ z_rg 52 0 50 I1 ∧ z_rg 53 0 20 I1 ∧ z_rg 54 0 999 I1 ∧ z_rg 55 0 100 I1 ∧ z_rg 56 (-999) 999 I1 ∧ z_rg 58 0 15 I1 ∧ z_rg 57 (-300000) 1000000 I1 ∧ z_fr L_X12_flow_y I1 I ∧ ((((a1.toInt = -1 ∨ 0 ≤ a1.toInt ∧ a1.toInt < (I 0 75).toInt) ∧ 0 ≤ a2.toInt ∧ a2.toInt ≤ 1) ∧ ∃ (R : Nat → Nat → Int) (x y : Int32), zy_FL (zy_0M I a1.toInt) R (zy_CM I) x y ∧ zy_op R (zy_CM I) ∧ (a2.toInt = 0 → r = x) ∧ (a2.toInt = 1 → r = y)) ∨ (¬ ((a1.toInt = -1 ∨ 0 ≤ a1.toInt ∧ a1.toInt < (I 0 75).toInt) ∧ 0 ≤ a2.toInt ∧ a2.toInt ≤ 1) ∧ r.toInt = -1))) (z_B G A) A) ([.ref (ad 0), .int a1, .int a2] : List Value).toArray s 0 0 A) (F0 m 30 ls []) := by
            intro f
            induction f with
            | zero => intro y207 I208 J209 H locs ls lp206m lp206l3 lp206u3 lp206mr lp206ms lp206Ald lp206Awt lp206Ard lp206Arm lp206Ami lp206Abk lp206Afr lp206Z lp206fr hW hS hl; exact absurd lp206m (by have := Int32.toInt_lt y207; have := Int32.le_toInt y207; omega)
            | succ f lp206ih =>
              intro y207 I208 J209 H locs ls lp206m lp206l3 lp206u3 lp206mr lp206ms lp206Ald lp206Awt lp206Ard lp206Arm lp206Ami lp206Abk lp206Afr lp206Z lp206fr hW hS hl
              refine lv_iload_n hx hb dX12_flow_30 rfl (lv_at hl 0 rfl) ?_
              refine lv_sipush (v := 256) hx hb dX12_flow_31 (by decide) ?_
              refine lv_icmp_ge (tgt := 57) hx hb dX12_flow_34 (by decide) (fun c210 => ?_) (fun c210 => ?_)
              · have g211 := z_f_ge rfl z_l256 c210
                refine lv_iconst (v := 0) hx hb dX12_flow_57 (by decide) ?_
                refine lv_istore_n (lv' := [(3, .int 0), (0, .ref (ad 0)), (1, .int a1), (2, .int a2)]) hx hb dX12_flow_58 rfl hl (by decide) rfl (fun ls hl => ?_)
                have lp212 : ∀ (f : Nat) (y213 : Int32) (I214 : z_I) (J215 : z_J) (H : Heap) (locs : List Loc) (ls : Array Slot), (2147483647 < y213.toInt + (f : Int)) → (0 ≤ y213.toInt) → (y213.toInt ≤ 4) → (z_imr I214) → (z_ims I214) → (z_rg 52 0 50 I214) → (z_rg 53 0 20 I214) → (z_rg 54 0 999 I214) → (z_rg 55 0 100 I214) → (z_rg 56 (-999) 999 I214) → (z_rg 58 0 15 I214) → (z_rg 57 (-300000) 1000000 I214) → (z_BL I214) → (zy_LD (zy_0M I a1.toInt) (zy_CM I) (zy_P1 y213.toNatClampNeg) (z_RM I214) (z_CM I214)) → (z_fr L_X12_flow_y I214 I) → z_W G A (shM, ad, I214, J215, PM ad) H → va_S A s.heap H locs → lv_has ls 7 [(3, .int y213), (0, .ref (ad 0)), (1, .int a1), (2, .int a2)] → W p l e (headSpec wsX12_flow { frames := 2, cells := 0, slots := 0, locals := 36 }).room s m ([.ref (ad 0), .int a1, .int a2] : List Value).toArray below meth c0 H locs 0 0 (MQ below (va_Qi (fun (r : Int32) (u1 : z_U) => ∃ (I1 : z_I) (J1 : z_J), u1 = (shM, ad, I1, J1, PM ad) ∧ z_imr I1 ∧ z_ims I1 ∧ z_rg 52 0 50 I1 ∧ z_rg 53 0 20 I1 ∧ z_rg 54 0 999 I1 ∧ z_rg 55 0 100 I1 ∧ z_rg 56 (-999) 999 I1 ∧ z_rg 58 0 15 I1 ∧ z_rg 57 (-300000) 1000000 I1 ∧ z_fr L_X12_flow_y I1 I ∧ ((((a1.toInt = -1 ∨ 0 ≤ a1.toInt ∧ a1.toInt < (I 0 75).toInt) ∧ 0 ≤ a2.toInt ∧ a2.toInt ≤ 1) ∧ ∃ (R : Nat → Nat → Int) (x y : Int32), zy_FL (zy_0M I a1.toInt) R (zy_CM I) x y ∧ zy_op R (zy_CM I) ∧ (a2.toInt = 0 → r = x) ∧ (a2.toInt = 1 → r = y)) ∨ (¬ ((a1.toInt = -1 ∨ 0 ≤ a1.toInt ∧ a1.toInt < (I 0 75).toInt) ∧ 0 ≤ a2.toInt ∧ a2.toInt ≤ 1) ∧ r.toInt = -1))) (z_B G A) A) ([.ref (ad 0), .int a1, .int a2] : List Value).toArray s 0 0 A) (F0 m 59 ls []) := by
                  intro f
                  induction f with
                  | zero => intro y213 I214 J215 H locs ls lp212m lp212l3 lp212u3 lp212mr lp212ms lp212Ald lp212Awt lp212Ard lp212Arm lp212Ami lp212Abk lp212Afr lp212L lp212E lp212fr hW hS hl; exact absurd lp212m (by have := Int32.toInt_lt y213; have := Int32.le_toInt y213; omega)
                  | succ f lp212ih =>
                    intro y213 I214 J215 H locs ls lp212m lp212l3 lp212u3 lp212mr lp212ms lp212Ald lp212Awt lp212Ard lp212Arm lp212Ami lp212Abk lp212Afr lp212L lp212E lp212fr hW hS hl
                    refine lv_iload_n hx hb dX12_flow_59 rfl (lv_at hl 0 rfl) ?_
                    refine lv_aload_n hx hb dX12_flow_60 rfl (lv_at hl 1 rfl) ?_
                    have r216 : 0 ≤ (I214 0 75).toInt ∧ (I214 0 75).toInt ≤ 4 := lp212mr
                    refine z_get (T := TX12) (N := 96) (ci := 12) (i := 0) (v := .int (I214 0 75)) hx hb hts zj_X12_flow_X12 hown hK hW rfl rfl 75 (by decide) (hts (.fieldLink RX12 493 "PetrolBoardModel" "ports" "I") (me_s (me_l (me_l (List.mem_of_getElem? (i := 0) rfl))))) (fun _ h => h) rfl dX12_flow_61 ?_
                    have hn217 : (I214 0 75).toInt = (I 0 75).toInt := by rw [lp212fr 0 75 (by decide)]
                    refine lv_icmp_ge (tgt := 151) hx hb dX12_flow_64 (by decide) (fun c218 => ?_) (fun c218 => ?_)
                    · have g219 := z_f_ge rfl rfl c218
                      refine lv_iconst (v := 0) hx hb dX12_flow_151 (by decide) ?_
                      refine lv_istore_n (lv' := [(3, .int 0), (0, .ref (ad 0)), (1, .int a1), (2, .int a2)]) hx hb dX12_flow_152 rfl hl (by decide) rfl (fun ls hl => ?_)
                      have lp220 : ∀ (f : Nat) (y221 : Int32) (I222 : z_I) (J223 : z_J) (H : Heap) (locs : List Loc) (ls : Array Slot), (2147483647 < y221.toInt + (f : Int)) → (0 ≤ y221.toInt) → (y221.toInt ≤ 10) → (z_imr I222) → (z_ims I222) → (z_rg 52 0 50 I222) → (z_rg 53 0 20 I222) → (z_rg 54 0 999 I222) → (z_rg 55 0 100 I222) → (z_rg 56 (-999) 999 I222) → (z_rg 58 0 15 I222) → (z_rg 57 (-300000) 1000000 I222) → (z_BL I222) → (zy_LD (zy_0M I a1.toInt) (zy_CM I) (zy_P3 y221.toNatClampNeg) (z_RM I222) (z_CM I222)) → (z_fr L_X12_flow_y I222 I) → z_W G A (shM, ad, I222, J223, PM ad) H → va_S A s.heap H locs → lv_has ls 7 [(3, .int y221), (0, .ref (ad 0)), (1, .int a1), (2, .int a2)] → W p l e (headSpec wsX12_flow { frames := 2, cells := 0, slots := 0, locals := 36 }).room s m ([.ref (ad 0), .int a1, .int a2] : List Value).toArray below meth c0 H locs 0 0 (MQ below (va_Qi (fun (r : Int32) (u1 : z_U) => ∃ (I1 : z_I) (J1 : z_J), u1 = (shM, ad, I1, J1, PM ad) ∧ z_imr I1 ∧ z_ims I1 ∧ z_rg 52 0 50 I1 ∧ z_rg 53 0 20 I1 ∧ z_rg 54 0 999 I1 ∧ z_rg 55 0 100 I1 ∧ z_rg 56 (-999) 999 I1 ∧ z_rg 58 0 15 I1 ∧ z_rg 57 (-300000) 1000000 I1 ∧ z_fr L_X12_flow_y I1 I ∧ ((((a1.toInt = -1 ∨ 0 ≤ a1.toInt ∧ a1.toInt < (I 0 75).toInt) ∧ 0 ≤ a2.toInt ∧ a2.toInt ≤ 1) ∧ ∃ (R : Nat → Nat → Int) (x y : Int32), zy_FL (zy_0M I a1.toInt) R (zy_CM I) x y ∧ zy_op R (zy_CM I) ∧ (a2.toInt = 0 → r = x) ∧ (a2.toInt = 1 → r = y)) ∨ (¬ ((a1.toInt = -1 ∨ 0 ≤ a1.toInt ∧ a1.toInt < (I 0 75).toInt) ∧ 0 ≤ a2.toInt ∧ a2.toInt ≤ 1) ∧ r.toInt = -1))) (z_B G A) A) ([.ref (ad 0), .int a1, .int a2] : List Value).toArray s 0 0 A) (F0 m 153 ls []) := by
                        intro f
                        induction f with
                        | zero => intro y221 I222 J223 H locs ls lp220m lp220l3 lp220u3 lp220mr lp220ms lp220Ald lp220Awt lp220Ard lp220Arm lp220Ami lp220Abk lp220Afr lp220L lp220E lp220fr hW hS hl; exact absurd lp220m (by have := Int32.toInt_lt y221; have := Int32.le_toInt y221; omega)
                        | succ f lp220ih =>
                          intro y221 I222 J223 H locs ls lp220m lp220l3 lp220u3 lp220mr lp220ms lp220Ald lp220Awt lp220Ard lp220Arm lp220Ami lp220Abk lp220Afr lp220L lp220E lp220fr hW hS hl
                          refine lv_iload_n hx hb dX12_flow_153 rfl (lv_at hl 0 rfl) ?_
                          refine lv_aload_n hx hb dX12_flow_154 rfl (lv_at hl 1 rfl) ?_
                          have r224 : 0 ≤ (I222 0 54).toInt ∧ (I222 0 54).toInt ≤ 10 := lp220ms.1
                          refine z_get (T := TX12) (N := 96) (ci := 12) (i := 0) (v := .int (I222 0 54)) hx hb hts zj_X12_flow_X12 hown hK hW rfl rfl 54 (by decide) (hts (.fieldLink RX12 461 "PetrolBoardModel" "stations" "I") (me_s (me_l (me_l (List.mem_of_getElem? (i := 4) rfl))))) (fun _ h => h) rfl dX12_flow_155 ?_
                          have hn225 : (I222 0 54).toInt = (I 0 54).toInt := by rw [lp220fr 0 54 (by decide)]
                          refine lv_icmp_ge (tgt := 183) hx hb dX12_flow_158 (by decide) (fun c226 => ?_) (fun c226 => ?_)
                          · have g227 := z_f_ge rfl rfl c226
                            have hE228 := zy_LDe lp220E hZM (by have c9 := z_clt (x := y221) rfl (by omega); omega) lp220L
                            refine lv_iconst (v := 0) hx hb dX12_flow_183 (by decide) ?_
                            refine lv_istore_n (lv' := [(3, .int 0), (0, .ref (ad 0)), (1, .int a1), (2, .int a2)]) hx hb dX12_flow_184 rfl hl (by decide) rfl (fun ls hl => ?_)
                            refine lv_iconst (v := 0) hx hb dX12_flow_185 (by decide) ?_
                            refine lv_istore (lv' := [(4, .int 0), (3, .int 0), (0, .ref (ad 0)), (1, .int a1), (2, .int a2)]) hx hb dX12_flow_186 hl (by decide) rfl (fun ls hl => ?_)
                            have lp229 : ∀ (f : Nat) (y230 : Int32) (y231 : Int32) (I232 : z_I) (J233 : z_J) (H : Heap) (locs : List Loc) (ls : Array Slot), (z_Sm (z_RM I232) < f) → (z_imr I232) → (z_ims I232) → (z_rg 52 0 50 I232) → (z_rg 53 0 20 I232) → (z_rg 54 0 999 I232) → (z_rg 55 0 100 I232) → (z_rg 56 (-999) 999 I232) → (z_rg 58 0 15 I232) → (z_rg 57 (-300000) 1000000 I232) → (z_FP I232) → (zy_FL (zy_0M I a1.toInt) (z_RM I232) (zy_CM I) y231 y230) → (∀ a b, a < 16 → b < 16 → z_CM I232 a b = (zy_CM I) a b) → (z_fr L_X12_flow_y I232 I) → z_W G A (shM, ad, I232, J233, PM ad) H → va_S A s.heap H locs → lv_has ls 7 [(4, .int y230), (3, .int y231), (0, .ref (ad 0)), (1, .int a1), (2, .int a2)] → W p l e (headSpec wsX12_flow { frames := 2, cells := 0, slots := 0, locals := 36 }).room s m ([.ref (ad 0), .int a1, .int a2] : List Value).toArray below meth c0 H locs 0 0 (MQ below (va_Qi (fun (r : Int32) (u1 : z_U) => ∃ (I1 : z_I) (J1 : z_J), u1 = (shM, ad, I1, J1, PM ad) ∧ z_imr I1 ∧ z_ims I1 ∧ z_rg 52 0 50 I1 ∧ z_rg 53 0 20 I1 ∧ z_rg 54 0 999 I1 ∧ z_rg 55 0 100 I1 ∧ z_rg 56 (-999) 999 I1 ∧ z_rg 58 0 15 I1 ∧ z_rg 57 (-300000) 1000000 I1 ∧ z_fr L_X12_flow_y I1 I ∧ ((((a1.toInt = -1 ∨ 0 ≤ a1.toInt ∧ a1.toInt < (I 0 75).toInt) ∧ 0 ≤ a2.toInt ∧ a2.toInt ≤ 1) ∧ ∃ (R : Nat → Nat → Int) (x y : Int32), zy_FL (zy_0M I a1.toInt) R (zy_CM I) x y ∧ zy_op R (zy_CM I) ∧ (a2.toInt = 0 → r = x) ∧ (a2.toInt = 1 → r = y)) ∨ (¬ ((a1.toInt = -1 ∨ 0 ≤ a1.toInt ∧ a1.toInt < (I 0 75).toInt) ∧ 0 ≤ a2.toInt ∧ a2.toInt ≤ 1) ∧ r.toInt = -1))) (z_B G A) A) ([.ref (ad 0), .int a1, .int a2] : List Value).toArray s 0 0 A) (F0 m 188 ls []) := by
                              intro f
                              induction f with
                              | zero => intro y230 y231 I232 J233 H locs ls lp229m lp229mr lp229ms lp229Ald lp229Awt lp229Ard lp229Arm lp229Ami lp229Abk lp229Afr lp229P lp229Y lp229X lp229fr hW hS hl; exact False.elim (by exact absurd lp229m (Nat.not_lt_zero _))
                              | succ f lp229ih =>
                                intro y230 y231 I232 J233 H locs ls lp229m lp229mr lp229ms lp229Ald lp229Awt lp229Ard lp229Arm lp229Ami lp229Abk lp229Afr lp229P lp229Y lp229X lp229fr hW hS hl
                                refine lv_aload_n hx hb dX12_flow_188 rfl (lv_at hl 2 rfl) ?_
                                refine z_ci hW hS hA (va_runV (As := []) (rest := []) ⟨hx, hb, hml, hown, hts⟩ (sx_X12_finds_y l G ad I232 J233 lp229Arm lp229Ami lp229Abk lp229Afr lp229P _) (cwV 0 hts gX12_flow_X12_finds rfl rfl rfl (by decide +kernel) ⟨Nat.le_of_ble_eq_true rfl, Nat.le_of_ble_eq_true rfl⟩) (z_preV (i := 0) hK hW rfl rfl) rfl rfl hl.1 rfl (lv_room (Nat.le_of_ble_eq_true rfl)) dX12_flow_189 ⟨Nat.le_of_ble_eq_true rfl, Nat.le_of_ble_eq_true rfl⟩) (fun r u1 H locs hp hW hS => ?_)
                                obtain ⟨I234, J236, e9, hI234Arm, hI234Ami, hI234Abk, hI234Afr, fI234, hp⟩ := hp
                                rw [e9] at hW
                                have f235 := z_fr_sub (L := L_X12_flow_y) lp229fr fI234 (by decide)
                                have k237 : 0 ≤ (I234 0 75).toInt ∧ (I234 0 75).toInt ≤ 4 := by rw [fI234 0 75 (by decide)]; exact (by show 0 ≤ (I232 0 75).toInt ∧ (I232 0 75).toInt ≤ 4; exact lp229mr)
                                have k238 : 0 ≤ (I234 0 54).toInt ∧ (I234 0 54).toInt ≤ 10 := by rw [fI234 0 54 (by decide)]; exact (by show 0 ≤ (I232 0 54).toInt ∧ (I232 0 54).toInt ≤ 10; exact lp229ms.1)
                                have k239 : 0 ≤ (I234 0 55).toInt ∧ (I234 0 55).toInt ≤ 300 := by rw [fI234 0 55 (by decide)]; exact (by show 0 ≤ (I232 0 55).toInt ∧ (I232 0 55).toInt ≤ 300; exact lp229ms.2)
                                rcases hp with ⟨rfl, hFD⟩ | ⟨rfl, hOp⟩
                                · refine lv_if_eq (tgt := 336) hx hb dX12_flow_192 (by decide) (fun c240 => absurd c240 (by decide)) (fun c240 => ?_)
                                  obtain ⟨pi, mm, hfd, hrm, hpf⟩ := hFD.2
                                  have hXf : ∀ a b, a < 16 → b < 16 → z_CM I234 a b = (zy_CM I) a b := fun a b ha hb => by rw [z_CM_c (I := I232) (K := I234) (fun k => fI234 56 k (z_wr_c (by decide)))]; exact lp229X a b ha hb
                                  refine lv_sipush (v := 1000) hx hb dX12_flow_195 (by decide) ?_
                                  refine lv_istore (lv' := [(5, .int 1000), (4, .int y230), (3, .int y231), (0, .ref (ad 0)), (1, .int a1), (2, .int a2)]) hx hb dX12_flow_198 hl (by decide) rfl (fun ls hl => ?_)
                                  refine lv_bipush (v := 15) hx hb dX12_flow_200 (by decide) ?_
                                  refine lv_istore (lv' := [(6, .int 15), (5, .int 1000), (4, .int y230), (3, .int y231), (0, .ref (ad 0)), (1, .int a1), (2, .int a2)]) hx hb dX12_flow_202 hl (by decide) rfl (fun ls hl => ?_)
                                  have lp241 : ∀ (f : Nat) (y242 : Int32) (y243 : Int32) (H : Heap) (locs : List Loc) (ls : Array Slot), (mm y242.toNatClampNeg < f) → (0 ≤ y242.toInt) → (y242.toInt ≤ 15) → (1 ≤ y243.toInt) → (y243.toInt ≤ 1000) → (y242.toNatClampNeg < 16 ∧ z_FM I234 y242.toNatClampNeg < 1000000) → (∀ x, z_oc (z_BM I234) 15 x → ¬ z_oc (z_BM I234) y242.toNatClampNeg x → y243.toInt ≤ z_RM I234 (z_BM I234 x) x) → z_W G A (shM, ad, I234, J236, PM ad) H → va_S A s.heap H locs → lv_has ls 7 [(6, .int y242), (5, .int y243), (4, .int y230), (3, .int y231), (0, .ref (ad 0)), (1, .int a1), (2, .int a2)] → W p l e (headSpec wsX12_flow { frames := 2, cells := 0, slots := 0, locals := 36 }).room s m ([.ref (ad 0), .int a1, .int a2] : List Value).toArray below meth c0 H locs 0 0 (MQ below (va_Qi (fun (r : Int32) (u1 : z_U) => ∃ (I1 : z_I) (J1 : z_J), u1 = (shM, ad, I1, J1, PM ad) ∧ z_imr I1 ∧ z_ims I1 ∧ z_rg 52 0 50 I1 ∧ z_rg 53 0 20 I1 ∧ z_rg 54 0 999 I1 ∧ z_rg 55 0 100 I1 ∧ z_rg 56 (-999) 999 I1 ∧ z_rg 58 0 15 I1 ∧ z_rg 57 (-300000) 1000000 I1 ∧ z_fr L_X12_flow_y I1 I ∧ ((((a1.toInt = -1 ∨ 0 ≤ a1.toInt ∧ a1.toInt < (I 0 75).toInt) ∧ 0 ≤ a2.toInt ∧ a2.toInt ≤ 1) ∧ ∃ (R : Nat → Nat → Int) (x y : Int32), zy_FL (zy_0M I a1.toInt) R (zy_CM I) x y ∧ zy_op R (zy_CM I) ∧ (a2.toInt = 0 → r = x) ∧ (a2.toInt = 1 → r = y)) ∨ (¬ ((a1.toInt = -1 ∨ 0 ≤ a1.toInt ∧ a1.toInt < (I 0 75).toInt) ∧ 0 ≤ a2.toInt ∧ a2.toInt ≤ 1) ∧ r.toInt = -1))) (z_B G A) A) ([.ref (ad 0), .int a1, .int a2] : List Value).toArray s 0 0 A) (F0 m 204 ls []) := by
                                    intro f
                                    induction f with
                                    | zero => intro y242 y243 H locs ls lp241m lp241l6 lp241u6 lp241l5 lp241u5 lp241G lp241N hW hS hl; exact False.elim (by exact absurd lp241m (Nat.not_lt_zero _))
                                    | succ f lp241ih =>
                                      intro y242 y243 H locs ls lp241m lp241l6 lp241u6 lp241l5 lp241u5 lp241G lp241N hW hS hl
                                      refine lv_iload hx hb dX12_flow_204 (lv_at hl 0 rfl) ?_
                                      refine lv_if_eq (tgt := 246) hx hb dX12_flow_206 (by decide) (fun c244 => ?_) (fun c244 => ?_)
                                      · have g245 := z_f_eq rfl z_l0 c244
                                        refine lv_bipush (v := 15) hx hb dX12_flow_246 (by decide) ?_
                                        refine lv_istore (lv' := [(6, .int 15), (5, .int y243), (4, .int y230), (3, .int y231), (0, .ref (ad 0)), (1, .int a1), (2, .int a2)]) hx hb dX12_flow_248 hl (by decide) rfl (fun ls hl => ?_)
                                        have lp246 : ∀ (f : Nat) (y247 : Int32) (I248 : z_I) (J249 : z_J) (H : Heap) (locs : List Loc) (ls : Array Slot), (mm y247.toNatClampNeg < f) → (0 ≤ y247.toInt) → (y247.toInt ≤ 15) → (z_imr I248) → (z_ims I248) → (z_rg 52 0 50 I248) → (z_rg 53 0 20 I248) → (z_rg 54 0 999 I248) → (z_rg 55 0 100 I248) → (z_rg 56 (-999) 999 I248) → (z_rg 58 0 15 I248) → (z_rg 57 (-300000) 1000000 I248) → ((∀ k, I248 58 k = I234 58 k) ∧ (∀ k, I248 57 k = I234 57 k) ∧ (∀ k, I248 56 k = I234 56 k)) → (y247.toNatClampNeg < 16 ∧ z_FM I234 y247.toNatClampNeg < 1000000) → (z_rm (z_RM I248) (z_CM I248) pi) → (∀ x, z_oc (z_BM I234) y247.toNatClampNeg x → y243.toInt ≤ z_RM I248 (z_BM I234 x) x) → (z_Sm (z_RM I248) ≤ z_Sm (z_RM I234) ∧ (y247.toNatClampNeg = 0 → z_Sm (z_RM I248) < z_Sm (z_RM I234))) → (zy_wk (z_RM I234) (z_RM I248) (z_CM I234) pi y243.toInt y247.toNatClampNeg) → (z_fr L_X12_flow_y I248 I) → z_W G A (shM, ad, I248, J249, PM ad) H → va_S A s.heap H locs → lv_has ls 7 [(6, .int y247), (5, .int y243), (4, .int y230), (3, .int y231), (0, .ref (ad 0)), (1, .int a1), (2, .int a2)] → W p l e (headSpec wsX12_flow { frames := 2, cells := 0, slots := 0, locals := 36 }).room s m ([.ref (ad 0), .int a1, .int a2] : List Value).toArray below meth c0 H locs 0 0 (MQ below (va_Qi (fun (r : Int32) (u1 : z_U) => ∃ (I1 : z_I) (J1 : z_J), u1 = (shM, ad, I1, J1, PM ad) ∧ z_imr I1 ∧ z_ims I1 ∧ z_rg 52 0 50 I1 ∧ z_rg 53 0 20 I1 ∧ z_rg 54 0 999 I1 ∧ z_rg 55 0 100 I1 ∧ z_rg 56 (-999) 999 I1 ∧ z_rg 58 0 15 I1 ∧ z_rg 57 (-300000) 1000000 I1 ∧ z_fr L_X12_flow_y I1 I ∧ ((((a1.toInt = -1 ∨ 0 ≤ a1.toInt ∧ a1.toInt < (I 0 75).toInt) ∧ 0 ≤ a2.toInt ∧ a2.toInt ≤ 1) ∧ ∃ (R : Nat → Nat → Int) (x y : Int32), zy_FL (zy_0M I a1.toInt) R (zy_CM I) x y ∧ zy_op R (zy_CM I) ∧ (a2.toInt = 0 → r = x) ∧ (a2.toInt = 1 → r = y)) ∨ (¬ ((a1.toInt = -1 ∨ 0 ≤ a1.toInt ∧ a1.toInt < (I 0 75).toInt) ∧ 0 ≤ a2.toInt ∧ a2.toInt ≤ 1) ∧ r.toInt = -1))) (z_B G A) A) ([.ref (ad 0), .int a1, .int a2] : List Value).toArray s 0 0 A) (F0 m 250 ls []) := by
                                          intro f
                                          induction f with
                                          | zero => intro y247 I248 J249 H locs ls lp246m lp246l6 lp246u6 lp246mr lp246ms lp246Ald lp246Awt lp246Ard lp246Arm lp246Ami lp246Abk lp246Afr lp246K lp246G lp246A lp246N lp246S lp246W lp246fr hW hS hl; exact False.elim (by exact absurd lp246m (Nat.not_lt_zero _))
                                          | succ f lp246ih =>
                                            intro y247 I248 J249 H locs ls lp246m lp246l6 lp246u6 lp246mr lp246ms lp246Ald lp246Awt lp246Ard lp246Arm lp246Ami lp246Abk lp246Afr lp246K lp246G lp246A lp246N lp246S lp246W lp246fr hW hS hl
                                            refine lv_iload hx hb dX12_flow_250 (lv_at hl 0 rfl) ?_
                                            refine lv_if_eq (tgt := 313) hx hb dX12_flow_252 (by decide) (fun c250 => ?_) (fun c250 => ?_)
                                            · have g251 := z_f_eq rfl z_l0 c250
                                              refine lv_iload_n hx hb dX12_flow_313 rfl (lv_at hl 3 rfl) ?_
                                              refine lv_iload hx hb dX12_flow_314 (lv_at hl 1 rfl) ?_
                                              refine lv_iadd hx hb dX12_flow_316 ?_
                                              refine lv_topi (fun x252 ex252 => ?_)
                                              refine lv_istore_n (lv' := [(3, .int x252), (6, .int y247), (5, .int y243), (4, .int y230), (0, .ref (ad 0)), (1, .int a1), (2, .int a2)]) hx hb dX12_flow_317 rfl hl (by decide) rfl (fun ls hl => ?_)
                                              refine lv_iload hx hb dX12_flow_318 (lv_at hl 3 rfl) ?_
                                              refine lv_iload hx hb dX12_flow_320 (lv_at hl 2 rfl) ?_
                                              refine lv_aload_n hx hb dX12_flow_322 rfl (lv_at hl 4 rfl) ?_
                                              refine z_get (T := TX12) (N := 96) (ci := 12) (i := 0) (v := .ref (ad 57)) hx hb hts zj_X12_flow_X12 hown hK hW rfl rfl 81 (by decide) (hts (.fieldLink RX12 187 "PetrolBoardModel" "far" "[I") (me_s (me_l (me_l (List.mem_of_getElem? (i := 8) rfl))))) (fun _ h => h) rfl dX12_flow_323 ?_
                                              refine lv_bipush (v := 15) hx hb dX12_flow_326 (by decide) ?_
                                              refine z_iald (i := 57) hx hb hK hW rfl (z_inl (by decide)) dX12_flow_328 ?_
                                              refine lv_topi (fun x253 ex253 => ?_)
                                              have h254 : (-300000) ≤ x253.toInt ∧ x253.toInt ≤ 1000000 := by rw [ex253]; exact lp246Afr _
                                              refine lv_imul hx hb dX12_flow_329 ?_
                                              refine lv_topi (fun x255 ex255 => ?_)
                                              refine lv_iadd hx hb dX12_flow_330 ?_
                                              refine lv_topi (fun x256 ex256 => ?_)
                                              refine lv_istore (lv' := [(4, .int x256), (3, .int x252), (6, .int y247), (5, .int y243), (0, .ref (ad 0)), (1, .int a1), (2, .int a2)]) hx hb dX12_flow_331 hl (by decide) rfl (fun ls hl => ?_)
                                              refine lv_goto (tgt := 188) hx hb dX12_flow_333 (by decide) ?_
                                              exact lp229ih x256 x252 I248 J249 _ _ _ (by have q9 := lp246S.2 (by have := z_clt (x := y247) rfl (by omega); omega); have q8 : z_RM I234 = z_RM I232 := z_RM_c (fun k => fI234 55 k (z_wr_c (by decide))); rw [q8] at q9; exact Nat.lt_of_lt_of_le q9 (Nat.le_of_lt_succ lp229m)) (by show 0 ≤ (I248 0 75).toInt ∧ (I248 0 75).toInt ≤ 4; exact lp246mr) ⟨(by show 0 ≤ (I248 0 54).toInt ∧ (I248 0 54).toInt ≤ 10; exact lp246ms.1), (by show 0 ≤ (I248 0 55).toInt ∧ (I248 0 55).toInt ≤ 300; exact lp246ms.2)⟩ lp246Ald lp246Awt lp246Ard lp246Arm lp246Ami lp246Abk lp246Afr ⟨pi, lp246A⟩ (by have c9 := z_clt (x := y247) rfl (by omega); have w9 := lp246W; rw [show y247.toNatClampNeg = 0 by omega] at w9; exact zy_FL_s (R := z_RM I234) (pi := pi) (f := x253) (by rw [z_RM_c (I := I232) (K := I234) (fun k => fI234 55 k (z_wr_c (by decide)))]; exact lp229Y) (fun a b ha hb => (lp246A.2 a b ha hb).2.1) (zy_wk_c (fun a b ha hb => (hXf a b ha hb).symm) w9) (by rw [hpf, ex253, lp246K.2.1, z_n15]; rfl) ex252 ex255 ex256) (fun a b ha hb => by rw [z_CM_c (I := I234) (K := I248) lp246K.2.2]; exact hXf a b ha hb) lp246fr hW hS (lv_sub hl [0, 1, 4, 5, 6] rfl)
                                            · have g257 := z_f_ne rfl z_l0 c250
                                              have hV0 : y247.toNatClampNeg ≠ 0 := by have := z_clt (x := y247) rfl (by omega); omega
                                              obtain ⟨c1, c2, c3, c4, c5⟩ := hfd.2 y247.toNatClampNeg lp246G.1 hV0 lp246G.2
                                              refine lv_aload_n hx hb dX12_flow_255 rfl (lv_at hl 4 rfl) ?_
                                              refine z_get (T := TX12) (N := 96) (ci := 12) (i := 0) (v := .ref (ad 55)) hx hb hts zj_X12_flow_X12 hown hK hW rfl rfl 79 (by decide) (hts (.fieldLink RX12 181 "PetrolBoardModel" "room" "[I") (me_s (me_l (me_l (List.mem_of_getElem? (i := 1) rfl))))) (fun _ h => h) rfl dX12_flow_256 ?_
                                              refine lv_bipush (v := 16) hx hb dX12_flow_259 (by decide) ?_
                                              refine lv_aload_n hx hb dX12_flow_261 rfl (lv_at hl 4 rfl) ?_
                                              refine z_get (T := TX12) (N := 96) (ci := 12) (i := 0) (v := .ref (ad 58)) hx hb hts zj_X12_flow_X12 hown hK hW rfl rfl 82 (by decide) (hts (.fieldLink RX12 190 "PetrolBoardModel" "back" "[I") (me_s (me_l (me_l (List.mem_of_getElem? (i := 7) rfl))))) (fun _ h => h) rfl dX12_flow_262 ?_
                                              refine lv_iload hx hb dX12_flow_265 (lv_at hl 0 rfl) ?_
                                              refine z_iald (i := 58) hx hb hK hW rfl (z_ix rfl (by omega) (by omega)) dX12_flow_267 ?_
                                              refine lv_topi (fun x258 ex258 => ?_)
                                              have h259 : 0 ≤ x258.toInt ∧ x258.toInt ≤ 15 := by rw [ex258]; exact lp246Abk _
                                              have hbk : z_BM I234 y247.toNatClampNeg = x258.toNatClampNeg := by rw [ex258, lp246K.1]; rfl
                                              refine lv_imul hx hb dX12_flow_268 ?_
                                              refine lv_topi (fun x260 ex260 => ?_)
                                              have tx260 : x260.toInt = 16 * x258.toInt := z_tmul ex260 z_l16 rfl (by omega) (by omega)
                                              refine lv_iload hx hb dX12_flow_269 (lv_at hl 0 rfl) ?_
                                              refine lv_iadd hx hb dX12_flow_271 ?_
                                              refine lv_topi (fun x261 ex261 => ?_)
                                              have tx261 : x261.toInt = x260.toInt + y247.toInt := z_tadd ex261 rfl rfl (by omega) (by omega)
                                              refine lv_dup2_11 hx hb dX12_flow_272 rfl rfl ?_
                                              refine z_iald (i := 55) hx hb hK hW rfl (z_ix rfl (by omega) (by omega)) dX12_flow_273 ?_
                                              refine lv_topi (fun x262 ex262 => ?_)
                                              have h263 : 0 ≤ x262.toInt ∧ x262.toInt ≤ 100 := by rw [ex262]; exact lp246Arm _
                                              have hj1 : x261.toNatClampNeg = 16 * x258.toNatClampNeg + y247.toNatClampNeg := z_ixm (by omega) (by omega) (by omega)
                                              have hr1 : x262.toInt = z_RM I248 x258.toNatClampNeg y247.toNatClampNeg := by rw [ex262, hj1]; rfl
                                              have hn1 := lp246N y247.toNatClampNeg ((z_oc_s hV0).2 (Or.inl rfl))
                                              rw [hbk, ← hr1] at hn1
                                              have hbu : x258.toNatClampNeg < 16 := by rw [← hbk]; exact c1
                                              have hbv : x258.toNatClampNeg ≠ y247.toNatClampNeg := fun q => by rw [hbk, q] at c5; omega
                                              have hA2 := lp246A.2 x258.toNatClampNeg y247.toNatClampNeg (by rw [← hbk]; exact c1) lp246G.1
                                              refine lv_iload hx hb dX12_flow_274 (lv_at hl 1 rfl) ?_
                                              refine lv_isub hx hb dX12_flow_276 ?_
                                              refine lv_topi (fun x264 ex264 => ?_)
                                              have tx264 : x264.toInt = x262.toInt - y243.toInt := z_tsub ex264 rfl rfl (by omega) (by omega)
                                              refine z_iast (i := 55) hx hb hK hW hS rfl (z_ix rfl (by omega) (by omega)) dX12_flow_277 (fun H locs hz1 hW hS => ?_)
                                              obtain ⟨I265, eI265⟩ : ∃ K : z_I, K = z_up I248 55 x261.toNatClampNeg x264 := ⟨_, rfl⟩
                                              rw [← eI265] at hW
                                              have f266 := z_fr_a lp246fr (show z_wa L_X12_flow_y 55 = true by decide) eI265
                                              have a267 := z_rg_n lp246Ald (by decide) eI265
                                              have a268 := z_rg_n lp246Awt (by decide) eI265
                                              have a269 := z_rg_n lp246Ard (by decide) eI265
                                              have a270 := z_rg_a lp246Arm (by omega) eI265
                                              have a271 := z_rg_n lp246Ami (by decide) eI265
                                              have a272 := z_rg_n lp246Abk (by decide) eI265
                                              have a273 := z_rg_n lp246Afr (by decide) eI265
                                              refine lv_aload_n hx hb dX12_flow_278 rfl (lv_at hl 4 rfl) ?_
                                              refine z_get (T := TX12) (N := 96) (ci := 12) (i := 0) (v := .ref (ad 55)) hx hb hts zj_X12_flow_X12 hown hK hW rfl rfl 79 (by decide) (hts (.fieldLink RX12 181 "PetrolBoardModel" "room" "[I") (me_s (me_l (me_l (List.mem_of_getElem? (i := 1) rfl))))) (fun _ h => h) rfl dX12_flow_279 ?_
                                              refine lv_bipush (v := 16) hx hb dX12_flow_282 (by decide) ?_
                                              refine lv_iload hx hb dX12_flow_284 (lv_at hl 0 rfl) ?_
                                              refine lv_imul hx hb dX12_flow_286 ?_
                                              refine lv_topi (fun x274 ex274 => ?_)
                                              have tx274 : x274.toInt = 16 * y247.toInt := z_tmul ex274 z_l16 rfl (by omega) (by omega)
                                              refine lv_aload_n hx hb dX12_flow_287 rfl (lv_at hl 4 rfl) ?_
                                              refine z_get (T := TX12) (N := 96) (ci := 12) (i := 0) (v := .ref (ad 58)) hx hb hts zj_X12_flow_X12 hown hK hW rfl rfl 82 (by decide) (hts (.fieldLink RX12 190 "PetrolBoardModel" "back" "[I") (me_s (me_l (me_l (List.mem_of_getElem? (i := 7) rfl))))) (fun _ h => h) rfl dX12_flow_288 ?_
                                              refine lv_iload hx hb dX12_flow_291 (lv_at hl 0 rfl) ?_
                                              refine z_iald (i := 58) hx hb hK hW rfl (z_ix rfl (by omega) (by omega)) dX12_flow_293 ?_
                                              refine z_topi (v := x258) (by rw [eI265, z_up_n (by decide)]; exact ex258.symm) ?_
                                              refine lv_iadd hx hb dX12_flow_294 ?_
                                              refine lv_topi (fun x275 ex275 => ?_)
                                              have tx275 : x275.toInt = x274.toInt + x258.toInt := z_tadd ex275 rfl rfl (by omega) (by omega)
                                              refine lv_dup2_11 hx hb dX12_flow_295 rfl rfl ?_
                                              refine z_iald (i := 55) hx hb hK hW rfl (z_ix rfl (by omega) (by omega)) dX12_flow_296 ?_
                                              refine lv_topi (fun x276 ex276 => ?_)
                                              have h277 : 0 ≤ x276.toInt ∧ x276.toInt ≤ 100 := by rw [ex276]; exact a270 _
                                              have hj2 : x275.toNatClampNeg = 16 * y247.toNatClampNeg + x258.toNatClampNeg := z_ixm (by omega) (by omega) (by omega)
                                              have hr2 : x276.toInt = z_RM I248 y247.toNatClampNeg x258.toNatClampNeg := by rw [ex276, eI265, z_up_k (by rw [hj1, hj2]; omega), hj2]; rfl
                                              refine lv_iload hx hb dX12_flow_297 (lv_at hl 1 rfl) ?_
                                              refine lv_iadd hx hb dX12_flow_299 ?_
                                              refine lv_topi (fun x278 ex278 => ?_)
                                              have tx278 : x278.toInt = x276.toInt + y243.toInt := z_tadd ex278 rfl rfl (by omega) (by omega)
                                              refine z_iast (i := 55) hx hb hK hW hS rfl (z_ix rfl (by omega) (by omega)) dX12_flow_300 (fun H locs hz1 hW hS => ?_)
                                              obtain ⟨I279, eI279⟩ : ∃ K : z_I, K = z_up I265 55 x275.toNatClampNeg x278 := ⟨_, rfl⟩
                                              rw [← eI279] at hW
                                              have f280 := z_fr_a f266 (show z_wa L_X12_flow_y 55 = true by decide) eI279
                                              have a281 := z_rg_n a267 (by decide) eI279
                                              have a282 := z_rg_n a268 (by decide) eI279
                                              have a283 := z_rg_n a269 (by decide) eI279
                                              have a284 := z_rg_a a270 (by omega) eI279
                                              have a285 := z_rg_n a271 (by decide) eI279
                                              have a286 := z_rg_n a272 (by decide) eI279
                                              have a287 := z_rg_n a273 (by decide) eI279
                                              have hau := z_augm (n := y243.toInt) eI265 eI279 hj1 hj2 hr1 hr2 (by omega) (by omega) hbu lp246G.1 hbv
                                              have hcc : z_CM I248 x258.toNatClampNeg y247.toNatClampNeg + pi x258.toNatClampNeg - pi y247.toNatClampNeg = 0 := by rw [z_CM_c lp246K.2.2, ← hbk]; exact c4
                                              have hag := z_aug lp246A hbu lp246G.1 hV0 hbv hcc (by omega) (by rw [← hr1]; exact hn1) hau.1 hau.2.1 hau.2.2
                                              refine lv_aload_n hx hb dX12_flow_301 rfl (lv_at hl 4 rfl) ?_
                                              refine z_get (T := TX12) (N := 96) (ci := 12) (i := 0) (v := .ref (ad 58)) hx hb hts zj_X12_flow_X12 hown hK hW rfl rfl 82 (by decide) (hts (.fieldLink RX12 190 "PetrolBoardModel" "back" "[I") (me_s (me_l (me_l (List.mem_of_getElem? (i := 7) rfl))))) (fun _ h => h) rfl dX12_flow_302 ?_
                                              refine lv_iload hx hb dX12_flow_305 (lv_at hl 0 rfl) ?_
                                              refine z_iald (i := 58) hx hb hK hW rfl (z_ix rfl (by omega) (by omega)) dX12_flow_307 ?_
                                              refine z_topi (v := x258) (by rw [eI279, z_up_n (by decide), eI265, z_up_n (by decide)]; exact ex258.symm) ?_
                                              refine lv_istore (lv' := [(6, .int x258), (5, .int y243), (4, .int y230), (3, .int y231), (0, .ref (ad 0)), (1, .int a1), (2, .int a2)]) hx hb dX12_flow_308 hl (by decide) rfl (fun ls hl => ?_)
                                              refine lv_goto (tgt := 250) hx hb dX12_flow_310 (by decide) ?_
                                              exact lp246ih x258 I279 J249 _ _ _ (by rw [← hbk]; omega) (by omega) (by omega) (by show 0 ≤ (I279 0 75).toInt ∧ (I279 0 75).toInt ≤ 4; rw [eI279, z_up_n (by decide), eI265, z_up_n (by decide)]; exact lp246mr) ⟨(by show 0 ≤ (I279 0 54).toInt ∧ (I279 0 54).toInt ≤ 10; rw [eI279, z_up_n (by decide), eI265, z_up_n (by decide)]; exact lp246ms.1), (by show 0 ≤ (I279 0 55).toInt ∧ (I279 0 55).toInt ≤ 300; rw [eI279, z_up_n (by decide), eI265, z_up_n (by decide)]; exact lp246ms.2)⟩ a281 a282 a283 a284 a285 a286 a287 ⟨fun k => by rw [eI279, z_up_n (by decide), eI265, z_up_n (by decide)]; exact lp246K.1 k, fun k => by rw [eI279, z_up_n (by decide), eI265, z_up_n (by decide)]; exact lp246K.2.1 k, fun k => by rw [eI279, z_up_n (by decide), eI265, z_up_n (by decide)]; exact lp246K.2.2 k⟩ ⟨by rw [← hbk]; exact c1, by rw [← hbk]; exact c2⟩ (by rw [show z_CM I279 = z_CM I248 from z_CM_c (fun k => by rw [eI279, z_up_n (by decide), eI265, z_up_n (by decide)])]; exact hag.1) (fun x hx => by obtain ⟨k9, hk1, hk2⟩ := (show z_oc (z_BM I234) (z_BM I234 y247.toNatClampNeg) x from by rw [hbk]; exact hx); have hx9 := z_oc_m hfd k9 _ x c1 c2 hk1 hk2; have hxb := hfd.2 x hx9.1 hx9.2.2.1 hx9.2.1; have hxn := lp246N x ((z_oc_s hV0).2 (Or.inr ⟨k9, hk1, hk2⟩)); have hxv : x ≠ y247.toNatClampNeg := (fun q => by rw [q] at hx9; omega); by_cases q9 : z_BM I234 x = y247.toNatClampNeg ∧ x = x258.toNatClampNeg; (· (rw [q9.1, q9.2, hau.2.1]; rw [q9.1, q9.2] at hxn; omega)); (· (rw [hau.2.2 _ _ hxb.1 hx9.1 (fun q => hxv q.2) q9]; exact hxn))) ⟨Nat.le_trans hag.2.1 lp246S.1, fun q => Nat.lt_of_lt_of_le (hag.2.2 q) lp246S.1⟩ (zy_wk_s (R := z_RM I248) (u := x258.toNatClampNeg) (v := y247.toNatClampNeg) hau hbu lp246G.1 hbv (by rw [← z_CM_c (I := I234) (K := I248) lp246K.2.2]; exact (lp246A.2 _ _ hbu lp246G.1).1) (by rw [← hbk]; exact c4) lp246W) f280 hW hS (lv_sub hl [0, 1, 2, 3, 4, 5, 6] rfl)
                                        exact lp246 (mm 15 + 1) (15) I234 J236 _ _ _ (by rw [z_n15]; exact Nat.lt_succ_self _) (by rw [z_l15]; omega) (by rw [z_l15]; omega) (by show 0 ≤ (I234 0 75).toInt ∧ (I234 0 75).toInt ≤ 4; exact k237) ⟨(by show 0 ≤ (I234 0 54).toInt ∧ (I234 0 54).toInt ≤ 10; exact k238), (by show 0 ≤ (I234 0 55).toInt ∧ (I234 0 55).toInt ≤ 300; exact k239)⟩ (z_rg_fr lp229Ald fI234 (by decide)) (z_rg_fr lp229Awt fI234 (by decide)) (z_rg_fr lp229Ard fI234 (by decide)) hI234Arm hI234Ami hI234Abk hI234Afr ⟨fun k => rfl, fun k => rfl, fun k => rfl⟩ ⟨by decide, by rw [z_n15]; exact hFD.1⟩ hrm (fun x hx => by refine lp241N x (by rw [z_n15] at hx; exact hx) (by rw [show y242.toNatClampNeg = 0 from by have := z_clt (x := y242) rfl (by omega); omega]; exact z_oc_0)) ⟨Nat.le_refl _, fun q => absurd q (by decide)⟩ (by rw [z_n15]; exact zy_wk_0) f235 hW hS (lv_sub hl [0, 1, 2, 3, 4, 5, 6] rfl)
                                      · have g288 := z_f_ne rfl z_l0 c244
                                        have hV0 : y242.toNatClampNeg ≠ 0 := by have := z_clt (x := y242) rfl (by omega); omega
                                        obtain ⟨c1, c2, c3, c4, c5⟩ := hfd.2 y242.toNatClampNeg lp241G.1 hV0 lp241G.2
                                        refine lv_iload hx hb dX12_flow_209 (lv_at hl 1 rfl) ?_
                                        refine lv_aload_n hx hb dX12_flow_211 rfl (lv_at hl 4 rfl) ?_
                                        refine z_get (T := TX12) (N := 96) (ci := 12) (i := 0) (v := .ref (ad 55)) hx hb hts zj_X12_flow_X12 hown hK hW rfl rfl 79 (by decide) (hts (.fieldLink RX12 181 "PetrolBoardModel" "room" "[I") (me_s (me_l (me_l (List.mem_of_getElem? (i := 1) rfl))))) (fun _ h => h) rfl dX12_flow_212 ?_
                                        refine lv_bipush (v := 16) hx hb dX12_flow_215 (by decide) ?_
                                        refine lv_aload_n hx hb dX12_flow_217 rfl (lv_at hl 4 rfl) ?_
                                        refine z_get (T := TX12) (N := 96) (ci := 12) (i := 0) (v := .ref (ad 58)) hx hb hts zj_X12_flow_X12 hown hK hW rfl rfl 82 (by decide) (hts (.fieldLink RX12 190 "PetrolBoardModel" "back" "[I") (me_s (me_l (me_l (List.mem_of_getElem? (i := 7) rfl))))) (fun _ h => h) rfl dX12_flow_218 ?_
                                        refine lv_iload hx hb dX12_flow_221 (lv_at hl 0 rfl) ?_
                                        refine z_iald (i := 58) hx hb hK hW rfl (z_ix rfl (by omega) (by omega)) dX12_flow_223 ?_
                                        refine lv_topi (fun x289 ex289 => ?_)
                                        have h290 : 0 ≤ x289.toInt ∧ x289.toInt ≤ 15 := by rw [ex289]; exact hI234Abk _
                                        have hbk : z_BM I234 y242.toNatClampNeg = x289.toNatClampNeg := by rw [ex289]; rfl
                                        refine lv_imul hx hb dX12_flow_224 ?_
                                        refine lv_topi (fun x291 ex291 => ?_)
                                        have tx291 : x291.toInt = 16 * x289.toInt := z_tmul ex291 z_l16 rfl (by omega) (by omega)
                                        refine lv_iload hx hb dX12_flow_225 (lv_at hl 0 rfl) ?_
                                        refine lv_iadd hx hb dX12_flow_227 ?_
                                        refine lv_topi (fun x292 ex292 => ?_)
                                        have tx292 : x292.toInt = x291.toInt + y242.toInt := z_tadd ex292 rfl rfl (by omega) (by omega)
                                        refine z_iald (i := 55) hx hb hK hW rfl (z_ix rfl (by omega) (by omega)) dX12_flow_228 ?_
                                        refine lv_topi (fun x293 ex293 => ?_)
                                        have h294 : 0 ≤ x293.toInt ∧ x293.toInt ≤ 100 := by rw [ex293]; exact hI234Arm _
                                        have hr : x293.toInt = z_RM I234 x289.toNatClampNeg y242.toNatClampNeg := by rw [ex293, z_ixm (a := x289) (b := y242) (by omega) (by omega) (by omega)]; rfl
                                        rw [← hbk] at hr
                                        refine z_ci hW hS hA (va_runS (As := [.int y243, .int x293]) (rest := []) ⟨hx, hb, hml, hown, hts⟩ (sx_X12_min2 l G ad I234 J236  y243 x293 _) (va_cwS 2 hts gX12_flow_X12_min rfl rfl rfl (by decide +kernel) ⟨Nat.le_of_ble_eq_true rfl, Nat.le_of_ble_eq_true rfl⟩) (z_preS hK hW) rfl rfl hl.1 rfl (lv_room (Nat.le_of_ble_eq_true rfl)) dX12_flow_229 ⟨Nat.le_of_ble_eq_true rfl, Nat.le_of_ble_eq_true rfl⟩) (fun r u1 H locs hp hW hS => ?_)
                                        obtain ⟨e9, hp⟩ := hp
                                        rw [e9] at hW
                                        refine lv_topi (fun x295 ex295 => ?_)
                                        rw [← ex295] at hp
                                        have h296 := hp
                                        refine lv_istore (lv' := [(5, .int x295), (6, .int y242), (4, .int y230), (3, .int y231), (0, .ref (ad 0)), (1, .int a1), (2, .int a2)]) hx hb dX12_flow_232 hl (by decide) rfl (fun ls hl => ?_)
                                        refine lv_aload_n hx hb dX12_flow_234 rfl (lv_at hl 4 rfl) ?_
                                        refine z_get (T := TX12) (N := 96) (ci := 12) (i := 0) (v := .ref (ad 58)) hx hb hts zj_X12_flow_X12 hown hK hW rfl rfl 82 (by decide) (hts (.fieldLink RX12 190 "PetrolBoardModel" "back" "[I") (me_s (me_l (me_l (List.mem_of_getElem? (i := 7) rfl))))) (fun _ h => h) rfl dX12_flow_235 ?_
                                        refine lv_iload hx hb dX12_flow_238 (lv_at hl 1 rfl) ?_
                                        refine z_iald (i := 58) hx hb hK hW rfl (z_ix rfl (by omega) (by omega)) dX12_flow_240 ?_
                                        refine z_topi (v := x289) ex289.symm ?_
                                        refine lv_istore (lv' := [(6, .int x289), (5, .int x295), (4, .int y230), (3, .int y231), (0, .ref (ad 0)), (1, .int a1), (2, .int a2)]) hx hb dX12_flow_241 hl (by decide) rfl (fun ls hl => ?_)
                                        refine lv_goto (tgt := 204) hx hb dX12_flow_243 (by decide) ?_
                                        exact lp241ih x289 x295 _ _ _ (by rw [← hbk]; omega) (by omega) (by omega) (by omega) (by omega) ⟨by rw [← hbk]; exact c1, by rw [← hbk]; exact c2⟩ (fun x hx hn => by by_cases q9 : x = y242.toNatClampNeg; (· (rw [q9, ← hr]; omega)); (· (have h9 := lp241N x hx (fun q => hn (by rw [← hbk]; exact ((z_oc_s hV0).1 q).resolve_left q9)); omega))) hW hS (lv_sub hl [0, 1, 2, 3, 4, 5, 6] rfl)
                                  exact lp241 (mm 15 + 1) (15) (1000) _ _ _ (by rw [z_n15]; exact Nat.lt_succ_self _) (by rw [z_l15]; omega) (by rw [z_l15]; omega) (by rw [z_l1000]; omega) (by rw [z_l1000]; omega) ⟨by decide, by rw [z_n15]; exact hFD.1⟩ (fun x hx hn => absurd (by rw [z_n15]; exact hx) hn) hW hS (lv_sub hl [0, 1, 2, 3, 4, 5, 6] rfl)
                                · refine lv_if_eq (tgt := 336) hx hb dX12_flow_192 (by decide) (fun c297 => ?_) (fun c297 => absurd (by decide) c297)
                                  have hYe : zy_FL (zy_0M I a1.toInt) (z_RM I234) (zy_CM I) y231 y230 := by rw [z_RM_c (I := I232) (K := I234) (fun k => fI234 55 k (z_wr_c (by decide)))]; exact lp229Y
                                  have hOe : zy_op (z_RM I234) (zy_CM I) := zy_op_c (fun a b ha hb => by rw [z_CM_c (I := I232) (K := I234) (fun k => fI234 56 k (z_wr_c (by decide)))]; exact (lp229X a b ha hb).symm) hOp
                                  refine lv_iload_n hx hb dX12_flow_336 rfl (lv_at hl 4 rfl) ?_
                                  refine lv_if_ne (tgt := 344) hx hb dX12_flow_337 (by decide) (fun c298 => ?_) (fun c298 => ?_)
                                  · have g299 := z_f_ne rfl z_l0 c298
                                    refine lv_iload hx hb dX12_flow_344 (lv_at hl 0 rfl) ?_
                                    exact z_iret hx hb hr hK hS (Nat.le_of_ble_eq_true rfl) (Nat.le_of_ble_eq_true rfl) hlocks dX12_flow_346 (shM, ad, I234, J236, PM ad) hW ⟨I234, J236, rfl, (by show 0 ≤ (I234 0 75).toInt ∧ (I234 0 75).toInt ≤ 4; exact k237), ⟨(by show 0 ≤ (I234 0 54).toInt ∧ (I234 0 54).toInt ≤ 10; exact k238), (by show 0 ≤ (I234 0 55).toInt ∧ (I234 0 55).toInt ≤ 300; exact k239)⟩, (z_rg_fr lp229Ald fI234 (by decide)), (z_rg_fr lp229Awt fI234 (by decide)), (z_rg_fr lp229Ard fI234 (by decide)), hI234Arm, hI234Ami, hI234Abk, hI234Afr, f235, (Or.inl ⟨by omega, z_RM I234, y231, y230, hYe, hOe, fun z => by exfalso; omega, fun z => rfl⟩)⟩
                                  · have g300 := z_f_eq rfl z_l0 c298
                                    refine lv_iload_n hx hb dX12_flow_340 rfl (lv_at hl 1 rfl) ?_
                                    refine lv_goto (tgt := 346) hx hb dX12_flow_341 (by decide) ?_
                                    exact z_iret hx hb hr hK hS (Nat.le_of_ble_eq_true rfl) (Nat.le_of_ble_eq_true rfl) hlocks dX12_flow_346 (shM, ad, I234, J236, PM ad) hW ⟨I234, J236, rfl, (by show 0 ≤ (I234 0 75).toInt ∧ (I234 0 75).toInt ≤ 4; exact k237), ⟨(by show 0 ≤ (I234 0 54).toInt ∧ (I234 0 54).toInt ≤ 10; exact k238), (by show 0 ≤ (I234 0 55).toInt ∧ (I234 0 55).toInt ≤ 300; exact k239)⟩, (z_rg_fr lp229Ald fI234 (by decide)), (z_rg_fr lp229Awt fI234 (by decide)), (z_rg_fr lp229Ard fI234 (by decide)), hI234Arm, hI234Ami, hI234Abk, hI234Afr, f235, (Or.inl ⟨by omega, z_RM I234, y231, y230, hYe, hOe, fun z => rfl, fun z => by exfalso; omega⟩)⟩
                            exact lp229 (z_Sm (z_RM I222) + 1) (0) (0) I222 J223 _ _ _ (Nat.lt_succ_self _) (by show 0 ≤ (I222 0 75).toInt ∧ (I222 0 75).toInt ≤ 4; exact lp220mr) ⟨(by show 0 ≤ (I222 0 54).toInt ∧ (I222 0 54).toInt ≤ 10; exact lp220ms.1), (by show 0 ≤ (I222 0 55).toInt ∧ (I222 0 55).toInt ≤ 300; exact lp220ms.2)⟩ lp220Ald lp220Awt lp220Ard lp220Arm lp220Ami lp220Abk lp220Afr (z_BL_FP lp220L) (zy_FL_r hE228.1 (zy_FL_0 (fun a b _ _ => (zy_R0_b (m := zy_mM I) hcb hwb a b).1))) hE228.2 lp220fr hW hS (lv_sub hl [0, 1, 2, 3, 4] rfl)
                          · have g301 := z_f_nge rfl rfl c226
                            refine lv_aload_n hx hb dX12_flow_161 rfl (lv_at hl 1 rfl) ?_
                            refine lv_iconst (v := 5) hx hb dX12_flow_162 (by decide) ?_
                            refine lv_iload_n hx hb dX12_flow_163 rfl (lv_at hl 0 rfl) ?_
                            refine lv_iadd hx hb dX12_flow_164 ?_
                            refine lv_topi (fun x302 ex302 => ?_)
                            have tx302 : x302.toInt = 5 + y221.toInt := z_tadd ex302 z_l5 rfl (by omega) (by omega)
                            refine lv_bipush (v := 15) hx hb dX12_flow_165 (by decide) ?_
                            refine lv_aload_n hx hb dX12_flow_167 rfl (lv_at hl 1 rfl) ?_
                            refine z_get (T := TX12) (N := 96) (ci := 12) (i := 0) (v := .ref (ad 53)) hx hb hts zj_X12_flow_X12 hown hK hW rfl rfl 77 (by decide) (hts (.fieldLink RX12 175 "PetrolBoardModel" "wantOf" "[I") (me_s (me_l (me_l (List.mem_of_getElem? (i := 6) rfl))))) (fun _ h => h) rfl dX12_flow_168 ?_
                            refine lv_iload_n hx hb dX12_flow_171 rfl (lv_at hl 0 rfl) ?_
                            refine z_iald (i := 53) hx hb hK hW rfl (z_ix rfl (by omega) (by omega)) dX12_flow_172 ?_
                            refine lv_topi (fun x303 ex303 => ?_)
                            have h304 : 0 ≤ x303.toInt ∧ x303.toInt ≤ 20 := by rw [ex303]; exact lp220Awt _
                            have hl305 : x303.toInt = (I 53 y221.toNatClampNeg).toInt := by rw [ex303, lp220fr 53 _ (z_wr_c (by decide))]
                            refine lv_iconst (v := 0) hx hb dX12_flow_173 (by decide) ?_
                            refine z_cv hW hS hA (va_runV (As := [.int x302, .int 15, .int x303, .int 0]) (rest := []) ⟨hx, hb, hml, hown, hts⟩ (sx_X12_edge_y l G ad I222 J223 lp220Arm lp220Ami x302 15 x303 0 (by have := z_l15; have := z_l0; omega) (by have := z_l15; have := z_l0; omega) (by have := z_l15; have := z_l0; omega) (by have := z_l15; have := z_l0; omega) lp220L _) (cwV 4 hts gX12_flow_X12_edge rfl rfl rfl (by decide +kernel) ⟨Nat.le_of_ble_eq_true rfl, Nat.le_of_ble_eq_true rfl⟩) (z_preV (i := 0) hK hW rfl rfl) rfl rfl hl.1 rfl (lv_room (Nat.le_of_ble_eq_true rfl)) dX12_flow_174 ⟨Nat.le_of_ble_eq_true rfl, Nat.le_of_ble_eq_true rfl⟩) (fun u1 H locs hp hW hS => ?_)
                            obtain ⟨I306, J308, e9, hI306Arm, hI306Ami, fI306, hp⟩ := hp
                            rw [e9] at hW
                            have f307 := z_fr_sub (L := L_X12_flow_y) lp220fr fI306 (by decide)
                            have k309 : 0 ≤ (I306 0 75).toInt ∧ (I306 0 75).toInt ≤ 4 := by rw [fI306 0 75 (by decide)]; exact (by show 0 ≤ (I222 0 75).toInt ∧ (I222 0 75).toInt ≤ 4; exact lp220mr)
                            have k310 : 0 ≤ (I306 0 54).toInt ∧ (I306 0 54).toInt ≤ 10 := by rw [fI306 0 54 (by decide)]; exact (by show 0 ≤ (I222 0 54).toInt ∧ (I222 0 54).toInt ≤ 10; exact lp220ms.1)
                            have k311 : 0 ≤ (I306 0 55).toInt ∧ (I306 0 55).toInt ≤ 300 := by rw [fI306 0 55 (by decide)]; exact (by show 0 ≤ (I222 0 55).toInt ∧ (I222 0 55).toInt ≤ 300; exact lp220ms.2)
                            obtain ⟨h312, h313⟩ := hp
                            obtain ⟨x314, ex314⟩ : ∃ y : Int32, y = y221 + 1 := ⟨_, rfl⟩
                            have tx314 : x314.toInt = y221.toInt + 1 := z_tadd ex314 rfl z_l1 (by omega) (by omega)
                            refine lv_iinc (v := x314) (lv' := [(3, .int x314), (0, .ref (ad 0)), (1, .int a1), (2, .int a2)]) hx hb dX12_flow_177 hl (k := 0) rfl (by rw [ex314]; rfl) (by decide) rfl (fun ls hl => ?_)
                            refine lv_goto (tgt := 153) hx hb dX12_flow_180 (by decide) ?_
                            exact lp220ih x314 I306 J308 _ _ _ (by omega) (by omega) (by omega) (by show 0 ≤ (I306 0 75).toInt ∧ (I306 0 75).toInt ≤ 4; exact k309) ⟨(by show 0 ≤ (I306 0 54).toInt ∧ (I306 0 54).toInt ≤ 10; exact k310), (by show 0 ≤ (I306 0 55).toInt ∧ (I306 0 55).toInt ≤ 300; exact k311)⟩ (z_rg_fr lp220Ald fI306 (by decide)) (z_rg_fr lp220Awt fI306 (by decide)) (z_rg_fr lp220Ard fI306 (by decide)) hI306Arm hI306Ami (z_rg_fr lp220Abk fI306 (by decide)) (z_rg_fr lp220Afr fI306 (by decide)) h312 (by have c9 := z_clt (x := y221) rfl (by omega); have c7 := z_clt (x := x302) rfl (by omega); rw [z_ss (x := y221) (y := x314) (by omega) (by omega)]; exact zy_L33 lp220E (by rw [z_n15] at h313; exact h313) (by omega) (by omega) (by rw [← hl305]) z_l0) f307 hW hS (lv_sub hl [0, 1, 2, 3] rfl)
                      exact lp220 4294967296 (0) I214 J215 _ _ _ (z_m0u _) (by rw [z_l0]; omega) (by rw [z_l0]; omega) (by show 0 ≤ (I214 0 75).toInt ∧ (I214 0 75).toInt ≤ 4; exact lp212mr) ⟨(by show 0 ≤ (I214 0 54).toInt ∧ (I214 0 54).toInt ≤ 10; exact lp212ms.1), (by show 0 ≤ (I214 0 55).toInt ∧ (I214 0 55).toInt ≤ 300; exact lp212ms.2)⟩ lp212Ald lp212Awt lp212Ard lp212Arm lp212Ami lp212Abk lp212Afr lp212L (by have c9 := z_clt (x := y213) rfl (by omega); rw [z_n0]; exact zy_L13 lp212E (by omega) hZM (by omega)) lp212fr hW hS (lv_sub hl [0, 1, 2, 3] rfl)
                    · have g315 := z_f_nge rfl rfl c218
                      refine lv_iload_n hx hb dX12_flow_67 rfl (lv_at hl 0 rfl) ?_
                      refine lv_iload_n hx hb dX12_flow_68 rfl (lv_at hl 2 rfl) ?_
                      refine lv_icmp_eq (tgt := 87) hx hb dX12_flow_69 (by decide) (fun c316 => ?_) (fun c316 => ?_)
                      · have g317 := z_f_eq rfl rfl c316
                        refine lv_iconst (v := 0) hx hb dX12_flow_87 (by decide) ?_
                        refine lv_istore (lv' := [(4, .int 0), (3, .int y213), (0, .ref (ad 0)), (1, .int a1), (2, .int a2)]) hx hb dX12_flow_88 hl (by decide) rfl (fun ls hl => ?_)
                        have lp318 : ∀ (f : Nat) (y319 : Int32) (I320 : z_I) (J321 : z_J) (H : Heap) (locs : List Loc) (ls : Array Slot), (2147483647 < y319.toInt + (f : Int)) → (0 ≤ y319.toInt) → (y319.toInt ≤ 10) → (z_imr I320) → (z_ims I320) → (z_rg 52 0 50 I320) → (z_rg 53 0 20 I320) → (z_rg 54 0 999 I320) → (z_rg 55 0 100 I320) → (z_rg 56 (-999) 999 I320) → (z_rg 58 0 15 I320) → (z_rg 57 (-300000) 1000000 I320) → (z_BL I320) → (zy_LD (zy_0M I a1.toInt) (zy_CM I) (zy_P2 y213.toNatClampNeg y319.toNatClampNeg) (z_RM I320) (z_CM I320)) → (z_fr L_X12_flow_y I320 I) → z_W G A (shM, ad, I320, J321, PM ad) H → va_S A s.heap H locs → lv_has ls 7 [(4, .int y319), (3, .int y213), (0, .ref (ad 0)), (1, .int a1), (2, .int a2)] → W p l e (headSpec wsX12_flow { frames := 2, cells := 0, slots := 0, locals := 36 }).room s m ([.ref (ad 0), .int a1, .int a2] : List Value).toArray below meth c0 H locs 0 0 (MQ below (va_Qi (fun (r : Int32) (u1 : z_U) => ∃ (I1 : z_I) (J1 : z_J), u1 = (shM, ad, I1, J1, PM ad) ∧ z_imr I1 ∧ z_ims I1 ∧ z_rg 52 0 50 I1 ∧ z_rg 53 0 20 I1 ∧ z_rg 54 0 999 I1 ∧ z_rg 55 0 100 I1 ∧ z_rg 56 (-999) 999 I1 ∧ z_rg 58 0 15 I1 ∧ z_rg 57 (-300000) 1000000 I1 ∧ z_fr L_X12_flow_y I1 I ∧ ((((a1.toInt = -1 ∨ 0 ≤ a1.toInt ∧ a1.toInt < (I 0 75).toInt) ∧ 0 ≤ a2.toInt ∧ a2.toInt ≤ 1) ∧ ∃ (R : Nat → Nat → Int) (x y : Int32), zy_FL (zy_0M I a1.toInt) R (zy_CM I) x y ∧ zy_op R (zy_CM I) ∧ (a2.toInt = 0 → r = x) ∧ (a2.toInt = 1 → r = y)) ∨ (¬ ((a1.toInt = -1 ∨ 0 ≤ a1.toInt ∧ a1.toInt < (I 0 75).toInt) ∧ 0 ≤ a2.toInt ∧ a2.toInt ≤ 1) ∧ r.toInt = -1))) (z_B G A) A) ([.ref (ad 0), .int a1, .int a2] : List Value).toArray s 0 0 A) (F0 m 90 ls []) := by
                          intro f
                          induction f with
                          | zero => intro y319 I320 J321 H locs ls lp318m lp318l4 lp318u4 lp318mr lp318ms lp318Ald lp318Awt lp318Ard lp318Arm lp318Ami lp318Abk lp318Afr lp318L lp318E lp318fr hW hS hl; exact absurd lp318m (by have := Int32.toInt_lt y319; have := Int32.le_toInt y319; omega)
                          | succ f lp318ih =>
                            intro y319 I320 J321 H locs ls lp318m lp318l4 lp318u4 lp318mr lp318ms lp318Ald lp318Awt lp318Ard lp318Arm lp318Ami lp318Abk lp318Afr lp318L lp318E lp318fr hW hS hl
                            refine lv_iload hx hb dX12_flow_90 (lv_at hl 0 rfl) ?_
                            refine lv_aload_n hx hb dX12_flow_92 rfl (lv_at hl 2 rfl) ?_
                            have r322 : 0 ≤ (I320 0 54).toInt ∧ (I320 0 54).toInt ≤ 10 := lp318ms.1
                            refine z_get (T := TX12) (N := 96) (ci := 12) (i := 0) (v := .int (I320 0 54)) hx hb hts zj_X12_flow_X12 hown hK hW rfl rfl 54 (by decide) (hts (.fieldLink RX12 461 "PetrolBoardModel" "stations" "I") (me_s (me_l (me_l (List.mem_of_getElem? (i := 4) rfl))))) (fun _ h => h) rfl dX12_flow_93 ?_
                            have hn323 : (I320 0 54).toInt = (I 0 54).toInt := by rw [lp318fr 0 54 (by decide)]
                            refine lv_icmp_ge (tgt := 145) hx hb dX12_flow_96 (by decide) (fun c324 => ?_) (fun c324 => ?_)
                            · have g325 := z_f_ge rfl rfl c324
                              obtain ⟨x326, ex326⟩ : ∃ y : Int32, y = y213 + 1 := ⟨_, rfl⟩
                              have tx326 : x326.toInt = y213.toInt + 1 := z_tadd ex326 rfl z_l1 (by omega) (by omega)
                              refine lv_iinc (v := x326) (lv' := [(3, .int x326), (4, .int y319), (0, .ref (ad 0)), (1, .int a1), (2, .int a2)]) hx hb dX12_flow_145 hl (k := 1) rfl (by rw [ex326]; rfl) (by decide) rfl (fun ls hl => ?_)
                              refine lv_goto (tgt := 59) hx hb dX12_flow_148 (by decide) ?_
                              exact lp212ih x326 I320 J321 _ _ _ (by omega) (by omega) (by omega) (by show 0 ≤ (I320 0 75).toInt ∧ (I320 0 75).toInt ≤ 4; exact lp318mr) ⟨(by show 0 ≤ (I320 0 54).toInt ∧ (I320 0 54).toInt ≤ 10; exact lp318ms.1), (by show 0 ≤ (I320 0 55).toInt ∧ (I320 0 55).toInt ≤ 300; exact lp318ms.2)⟩ lp318Ald lp318Awt lp318Ard lp318Arm lp318Ami lp318Abk lp318Afr lp318L (by have c9 := z_clt (x := y319) rfl (by omega); have c8 := z_clt (x := y213) rfl (by omega); rw [z_ss (x := y213) (y := x326) (by omega) (by omega)]; exact zy_L21 lp318E (by omega) hZM (by omega)) lp318fr hW hS (lv_sub hl [0, 2, 3, 4] rfl)
                            · have g327 := z_f_nge rfl rfl c324
                              refine lv_aload_n hx hb dX12_flow_99 rfl (lv_at hl 2 rfl) ?_
                              refine z_get (T := TX12) (N := 96) (ci := 12) (i := 0) (v := .ref (ad 54)) hx hb hts zj_X12_flow_X12 hown hK hW rfl rfl 78 (by decide) (hts (.fieldLink RX12 178 "PetrolBoardModel" "roadOf" "[I") (me_s (me_l (me_l (List.mem_of_getElem? (i := 5) rfl))))) (fun _ h => h) rfl dX12_flow_100 ?_
                              refine lv_bipush (v := 10) hx hb dX12_flow_103 (by decide) ?_
                              refine lv_iload_n hx hb dX12_flow_105 rfl (lv_at hl 1 rfl) ?_
                              refine lv_imul hx hb dX12_flow_106 ?_
                              refine lv_topi (fun x328 ex328 => ?_)
                              have tx328 : x328.toInt = 10 * y213.toInt := z_tmul ex328 z_l10 rfl (by omega) (by omega)
                              refine lv_iload hx hb dX12_flow_107 (lv_at hl 0 rfl) ?_
                              refine lv_iadd hx hb dX12_flow_109 ?_
                              refine lv_topi (fun x329 ex329 => ?_)
                              have tx329 : x329.toInt = x328.toInt + y319.toInt := z_tadd ex329 rfl rfl (by omega) (by omega)
                              refine z_iald (i := 54) hx hb hK hW rfl (z_ix rfl (by omega) (by omega)) dX12_flow_110 ?_
                              refine lv_topi (fun x330 ex330 => ?_)
                              have h331 : 0 ≤ x330.toInt ∧ x330.toInt ≤ 999 := by rw [ex330]; exact lp318Ard _
                              have hl332 : x330.toInt = (I 54 (10 * y213.toNatClampNeg + y319.toNatClampNeg)).toInt := by rw [ex330, lp318fr 54 _ (z_wr_c (by decide)), show x329.toNatClampNeg = 10 * y213.toNatClampNeg + y319.toNatClampNeg from by have q1 := z_clt (x := y213) rfl (by omega); have q2 := z_clt (x := y319) rfl (by omega); have q3 := z_clt (x := x329) rfl (by omega); omega]
                              refine lv_if_le (tgt := 139) hx hb dX12_flow_111 (by decide) (fun c333 => ?_) (fun c333 => ?_)
                              · have g334 := z_f_le rfl z_l0 c333
                                obtain ⟨x335, ex335⟩ : ∃ y : Int32, y = y319 + 1 := ⟨_, rfl⟩
                                have tx335 : x335.toInt = y319.toInt + 1 := z_tadd ex335 rfl z_l1 (by omega) (by omega)
                                refine lv_iinc (v := x335) (lv' := [(4, .int x335), (3, .int y213), (0, .ref (ad 0)), (1, .int a1), (2, .int a2)]) hx hb dX12_flow_139 hl (k := 0) rfl (by rw [ex335]; rfl) (by decide) rfl (fun ls hl => ?_)
                                refine lv_goto (tgt := 90) hx hb dX12_flow_142 (by decide) ?_
                                exact lp318ih x335 I320 J321 _ _ _ (by omega) (by omega) (by omega) (by show 0 ≤ (I320 0 75).toInt ∧ (I320 0 75).toInt ≤ 4; exact lp318mr) ⟨(by show 0 ≤ (I320 0 54).toInt ∧ (I320 0 54).toInt ≤ 10; exact lp318ms.1), (by show 0 ≤ (I320 0 55).toInt ∧ (I320 0 55).toInt ≤ 300; exact lp318ms.2)⟩ lp318Ald lp318Awt lp318Ard lp318Arm lp318Ami lp318Abk lp318Afr lp318L (by have c9 := z_clt (x := y213) rfl (by omega); have c8 := z_clt (x := y319) rfl (by omega); rw [z_ss (x := y319) (y := x335) (by omega) (by omega)]; exact zy_L22n lp318E (by omega) (by omega) (by rw [← hl332]; omega)) lp318fr hW hS (lv_sub hl [0, 1, 2, 3, 4] rfl)
                              · have g336 := z_f_nle rfl z_l0 c333
                                refine lv_aload_n hx hb dX12_flow_114 rfl (lv_at hl 2 rfl) ?_
                                refine lv_iconst (v := 1) hx hb dX12_flow_115 (by decide) ?_
                                refine lv_iload_n hx hb dX12_flow_116 rfl (lv_at hl 1 rfl) ?_
                                refine lv_iadd hx hb dX12_flow_117 ?_
                                refine lv_topi (fun x337 ex337 => ?_)
                                have tx337 : x337.toInt = 1 + y213.toInt := z_tadd ex337 z_l1 rfl (by omega) (by omega)
                                refine lv_iconst (v := 5) hx hb dX12_flow_118 (by decide) ?_
                                refine lv_iload hx hb dX12_flow_119 (lv_at hl 0 rfl) ?_
                                refine lv_iadd hx hb dX12_flow_121 ?_
                                refine lv_topi (fun x338 ex338 => ?_)
                                have tx338 : x338.toInt = 5 + y319.toInt := z_tadd ex338 z_l5 rfl (by omega) (by omega)
                                refine lv_bipush (v := 50) hx hb dX12_flow_122 (by decide) ?_
                                refine lv_aload_n hx hb dX12_flow_124 rfl (lv_at hl 2 rfl) ?_
                                refine z_get (T := TX12) (N := 96) (ci := 12) (i := 0) (v := .ref (ad 54)) hx hb hts zj_X12_flow_X12 hown hK hW rfl rfl 78 (by decide) (hts (.fieldLink RX12 178 "PetrolBoardModel" "roadOf" "[I") (me_s (me_l (me_l (List.mem_of_getElem? (i := 5) rfl))))) (fun _ h => h) rfl dX12_flow_125 ?_
                                refine lv_bipush (v := 10) hx hb dX12_flow_128 (by decide) ?_
                                refine lv_iload_n hx hb dX12_flow_130 rfl (lv_at hl 1 rfl) ?_
                                refine lv_imul hx hb dX12_flow_131 ?_
                                refine lv_topi (fun x339 ex339 => ?_)
                                have tx339 : x339.toInt = 10 * y213.toInt := z_tmul ex339 z_l10 rfl (by omega) (by omega)
                                refine lv_iload hx hb dX12_flow_132 (lv_at hl 0 rfl) ?_
                                refine lv_iadd hx hb dX12_flow_134 ?_
                                refine lv_topi (fun x340 ex340 => ?_)
                                have tx340 : x340.toInt = x339.toInt + y319.toInt := z_tadd ex340 rfl rfl (by omega) (by omega)
                                refine z_iald (i := 54) hx hb hK hW rfl (z_ix rfl (by omega) (by omega)) dX12_flow_135 ?_
                                refine lv_topi (fun x341 ex341 => ?_)
                                have h342 : 0 ≤ x341.toInt ∧ x341.toInt ≤ 999 := by rw [ex341]; exact lp318Ard _
                                have hl343 : x341.toInt = (I 54 (10 * y213.toNatClampNeg + y319.toNatClampNeg)).toInt := by rw [ex341, lp318fr 54 _ (z_wr_c (by decide)), show x340.toNatClampNeg = 10 * y213.toNatClampNeg + y319.toNatClampNeg from by have q1 := z_clt (x := y213) rfl (by omega); have q2 := z_clt (x := y319) rfl (by omega); have q3 := z_clt (x := x340) rfl (by omega); omega]
                                refine z_cv hW hS hA (va_runV (As := [.int x337, .int x338, .int 50, .int x341]) (rest := []) ⟨hx, hb, hml, hown, hts⟩ (sx_X12_edge_y l G ad I320 J321 lp318Arm lp318Ami x337 x338 50 x341 (by have := z_l50; omega) (by have := z_l50; omega) (by have := z_l50; omega) (by have := z_l50; omega) lp318L _) (cwV 4 hts gX12_flow_X12_edge rfl rfl rfl (by decide +kernel) ⟨Nat.le_of_ble_eq_true rfl, Nat.le_of_ble_eq_true rfl⟩) (z_preV (i := 0) hK hW rfl rfl) rfl rfl hl.1 rfl (lv_room (Nat.le_of_ble_eq_true rfl)) dX12_flow_136 ⟨Nat.le_of_ble_eq_true rfl, Nat.le_of_ble_eq_true rfl⟩) (fun u1 H locs hp hW hS => ?_)
                                obtain ⟨I344, J346, e9, hI344Arm, hI344Ami, fI344, hp⟩ := hp
                                rw [e9] at hW
                                have f345 := z_fr_sub (L := L_X12_flow_y) lp318fr fI344 (by decide)
                                have k347 : 0 ≤ (I344 0 75).toInt ∧ (I344 0 75).toInt ≤ 4 := by rw [fI344 0 75 (by decide)]; exact (by show 0 ≤ (I320 0 75).toInt ∧ (I320 0 75).toInt ≤ 4; exact lp318mr)
                                have k348 : 0 ≤ (I344 0 54).toInt ∧ (I344 0 54).toInt ≤ 10 := by rw [fI344 0 54 (by decide)]; exact (by show 0 ≤ (I320 0 54).toInt ∧ (I320 0 54).toInt ≤ 10; exact lp318ms.1)
                                have k349 : 0 ≤ (I344 0 55).toInt ∧ (I344 0 55).toInt ≤ 300 := by rw [fI344 0 55 (by decide)]; exact (by show 0 ≤ (I320 0 55).toInt ∧ (I320 0 55).toInt ≤ 300; exact lp318ms.2)
                                obtain ⟨h350, h351⟩ := hp
                                obtain ⟨x352, ex352⟩ : ∃ y : Int32, y = y319 + 1 := ⟨_, rfl⟩
                                have tx352 : x352.toInt = y319.toInt + 1 := z_tadd ex352 rfl z_l1 (by omega) (by omega)
                                refine lv_iinc (v := x352) (lv' := [(4, .int x352), (3, .int y213), (0, .ref (ad 0)), (1, .int a1), (2, .int a2)]) hx hb dX12_flow_139 hl (k := 0) rfl (by rw [ex352]; rfl) (by decide) rfl (fun ls hl => ?_)
                                refine lv_goto (tgt := 90) hx hb dX12_flow_142 (by decide) ?_
                                exact lp318ih x352 I344 J346 _ _ _ (by omega) (by omega) (by omega) (by show 0 ≤ (I344 0 75).toInt ∧ (I344 0 75).toInt ≤ 4; exact k347) ⟨(by show 0 ≤ (I344 0 54).toInt ∧ (I344 0 54).toInt ≤ 10; exact k348), (by show 0 ≤ (I344 0 55).toInt ∧ (I344 0 55).toInt ≤ 300; exact k349)⟩ (z_rg_fr lp318Ald fI344 (by decide)) (z_rg_fr lp318Awt fI344 (by decide)) (z_rg_fr lp318Ard fI344 (by decide)) hI344Arm hI344Ami (z_rg_fr lp318Abk fI344 (by decide)) (z_rg_fr lp318Afr fI344 (by decide)) h350 (by have c9 := z_clt (x := y213) rfl (by omega); have c8 := z_clt (x := y319) rfl (by omega); have c7 := z_clt (x := x337) rfl (by omega); have c6 := z_clt (x := x338) rfl (by omega); rw [z_ss (x := y319) (y := x352) (by omega) (by omega)]; exact zy_L22 lp318E h351 (by omega) (by omega) (by omega) (by omega) z_l50 (by rw [← hl343]) (by omega)) f345 hW hS (lv_sub hl [0, 1, 2, 3, 4] rfl)
                        exact lp318 4294967296 (0) I214 J215 _ _ _ (z_m0u _) (by rw [z_l0]; omega) (by rw [z_l0]; omega) (by show 0 ≤ (I214 0 75).toInt ∧ (I214 0 75).toInt ≤ 4; exact lp212mr) ⟨(by show 0 ≤ (I214 0 54).toInt ∧ (I214 0 54).toInt ≤ 10; exact lp212ms.1), (by show 0 ≤ (I214 0 55).toInt ∧ (I214 0 55).toInt ≤ 300; exact lp212ms.2)⟩ lp212Ald lp212Awt lp212Ard lp212Arm lp212Ami lp212Abk lp212Afr lp212L (by have c9 := z_clt (x := y213) rfl (by omega); rw [z_n0]; exact zy_L12n lp212E (by omega) (by omega)) lp212fr hW hS (lv_sub hl [0, 1, 2, 3, 4] rfl)
                      · have g353 := z_f_ne rfl rfl c316
                        refine lv_aload_n hx hb dX12_flow_72 rfl (lv_at hl 1 rfl) ?_
                        refine lv_iconst (v := 0) hx hb dX12_flow_73 (by decide) ?_
                        refine lv_iconst (v := 1) hx hb dX12_flow_74 (by decide) ?_
                        refine lv_iload_n hx hb dX12_flow_75 rfl (lv_at hl 0 rfl) ?_
                        refine lv_iadd hx hb dX12_flow_76 ?_
                        refine lv_topi (fun x354 ex354 => ?_)
                        have tx354 : x354.toInt = 1 + y213.toInt := z_tadd ex354 z_l1 rfl (by omega) (by omega)
                        refine lv_aload_n hx hb dX12_flow_77 rfl (lv_at hl 1 rfl) ?_
                        refine z_get (T := TX12) (N := 96) (ci := 12) (i := 0) (v := .ref (ad 52)) hx hb hts zj_X12_flow_X12 hown hK hW rfl rfl 76 (by decide) (hts (.fieldLink RX12 172 "PetrolBoardModel" "loadsOf" "[I") (me_s (me_l (me_l (List.mem_of_getElem? (i := 3) rfl))))) (fun _ h => h) rfl dX12_flow_78 ?_
                        refine lv_iload_n hx hb dX12_flow_81 rfl (lv_at hl 0 rfl) ?_
                        refine z_iald (i := 52) hx hb hK hW rfl (z_ix rfl (by omega) (by omega)) dX12_flow_82 ?_
                        refine lv_topi (fun x355 ex355 => ?_)
                        have h356 : 0 ≤ x355.toInt ∧ x355.toInt ≤ 50 := by rw [ex355]; exact lp212Ald _
                        have hl357 : x355.toInt = (I 52 y213.toNatClampNeg).toInt := by rw [ex355, lp212fr 52 _ (z_wr_c (by decide))]
                        refine lv_iconst (v := 0) hx hb dX12_flow_83 (by decide) ?_
                        refine z_cv hW hS hA (va_runV (As := [.int 0, .int x354, .int x355, .int 0]) (rest := []) ⟨hx, hb, hml, hown, hts⟩ (sx_X12_edge_y l G ad I214 J215 lp212Arm lp212Ami 0 x354 x355 0 (by have := z_l0; have := z_l0; omega) (by have := z_l0; have := z_l0; omega) (by have := z_l0; have := z_l0; omega) (by have := z_l0; have := z_l0; omega) lp212L _) (cwV 4 hts gX12_flow_X12_edge rfl rfl rfl (by decide +kernel) ⟨Nat.le_of_ble_eq_true rfl, Nat.le_of_ble_eq_true rfl⟩) (z_preV (i := 0) hK hW rfl rfl) rfl rfl hl.1 rfl (lv_room (Nat.le_of_ble_eq_true rfl)) dX12_flow_84 ⟨Nat.le_of_ble_eq_true rfl, Nat.le_of_ble_eq_true rfl⟩) (fun u1 H locs hp hW hS => ?_)
                        obtain ⟨I358, J360, e9, hI358Arm, hI358Ami, fI358, hp⟩ := hp
                        rw [e9] at hW
                        have f359 := z_fr_sub (L := L_X12_flow_y) lp212fr fI358 (by decide)
                        have k361 : 0 ≤ (I358 0 75).toInt ∧ (I358 0 75).toInt ≤ 4 := by rw [fI358 0 75 (by decide)]; exact (by show 0 ≤ (I214 0 75).toInt ∧ (I214 0 75).toInt ≤ 4; exact lp212mr)
                        have k362 : 0 ≤ (I358 0 54).toInt ∧ (I358 0 54).toInt ≤ 10 := by rw [fI358 0 54 (by decide)]; exact (by show 0 ≤ (I214 0 54).toInt ∧ (I214 0 54).toInt ≤ 10; exact lp212ms.1)
                        have k363 : 0 ≤ (I358 0 55).toInt ∧ (I358 0 55).toInt ≤ 300 := by rw [fI358 0 55 (by decide)]; exact (by show 0 ≤ (I214 0 55).toInt ∧ (I214 0 55).toInt ≤ 300; exact lp212ms.2)
                        obtain ⟨h364, h365⟩ := hp
                        refine lv_iconst (v := 0) hx hb dX12_flow_87 (by decide) ?_
                        refine lv_istore (lv' := [(4, .int 0), (3, .int y213), (0, .ref (ad 0)), (1, .int a1), (2, .int a2)]) hx hb dX12_flow_88 hl (by decide) rfl (fun ls hl => ?_)
                        have lp366 : ∀ (f : Nat) (y367 : Int32) (I368 : z_I) (J369 : z_J) (H : Heap) (locs : List Loc) (ls : Array Slot), (2147483647 < y367.toInt + (f : Int)) → (0 ≤ y367.toInt) → (y367.toInt ≤ 10) → (z_imr I368) → (z_ims I368) → (z_rg 52 0 50 I368) → (z_rg 53 0 20 I368) → (z_rg 54 0 999 I368) → (z_rg 55 0 100 I368) → (z_rg 56 (-999) 999 I368) → (z_rg 58 0 15 I368) → (z_rg 57 (-300000) 1000000 I368) → (z_BL I368) → (zy_LD (zy_0M I a1.toInt) (zy_CM I) (zy_P2 y213.toNatClampNeg y367.toNatClampNeg) (z_RM I368) (z_CM I368)) → (z_fr L_X12_flow_y I368 I) → z_W G A (shM, ad, I368, J369, PM ad) H → va_S A s.heap H locs → lv_has ls 7 [(4, .int y367), (3, .int y213), (0, .ref (ad 0)), (1, .int a1), (2, .int a2)] → W p l e (headSpec wsX12_flow { frames := 2, cells := 0, slots := 0, locals := 36 }).room s m ([.ref (ad 0), .int a1, .int a2] : List Value).toArray below meth c0 H locs 0 0 (MQ below (va_Qi (fun (r : Int32) (u1 : z_U) => ∃ (I1 : z_I) (J1 : z_J), u1 = (shM, ad, I1, J1, PM ad) ∧ z_imr I1 ∧ z_ims I1 ∧ z_rg 52 0 50 I1 ∧ z_rg 53 0 20 I1 ∧ z_rg 54 0 999 I1 ∧ z_rg 55 0 100 I1 ∧ z_rg 56 (-999) 999 I1 ∧ z_rg 58 0 15 I1 ∧ z_rg 57 (-300000) 1000000 I1 ∧ z_fr L_X12_flow_y I1 I ∧ ((((a1.toInt = -1 ∨ 0 ≤ a1.toInt ∧ a1.toInt < (I 0 75).toInt) ∧ 0 ≤ a2.toInt ∧ a2.toInt ≤ 1) ∧ ∃ (R : Nat → Nat → Int) (x y : Int32), zy_FL (zy_0M I a1.toInt) R (zy_CM I) x y ∧ zy_op R (zy_CM I) ∧ (a2.toInt = 0 → r = x) ∧ (a2.toInt = 1 → r = y)) ∨ (¬ ((a1.toInt = -1 ∨ 0 ≤ a1.toInt ∧ a1.toInt < (I 0 75).toInt) ∧ 0 ≤ a2.toInt ∧ a2.toInt ≤ 1) ∧ r.toInt = -1))) (z_B G A) A) ([.ref (ad 0), .int a1, .int a2] : List Value).toArray s 0 0 A) (F0 m 90 ls []) := by
                          intro f
                          induction f with
                          | zero => intro y367 I368 J369 H locs ls lp366m lp366l4 lp366u4 lp366mr lp366ms lp366Ald lp366Awt lp366Ard lp366Arm lp366Ami lp366Abk lp366Afr lp366L lp366E lp366fr hW hS hl; exact absurd lp366m (by have := Int32.toInt_lt y367; have := Int32.le_toInt y367; omega)
                          | succ f lp366ih =>
                            intro y367 I368 J369 H locs ls lp366m lp366l4 lp366u4 lp366mr lp366ms lp366Ald lp366Awt lp366Ard lp366Arm lp366Ami lp366Abk lp366Afr lp366L lp366E lp366fr hW hS hl
                            refine lv_iload hx hb dX12_flow_90 (lv_at hl 0 rfl) ?_
                            refine lv_aload_n hx hb dX12_flow_92 rfl (lv_at hl 2 rfl) ?_
                            have r370 : 0 ≤ (I368 0 54).toInt ∧ (I368 0 54).toInt ≤ 10 := lp366ms.1
                            refine z_get (T := TX12) (N := 96) (ci := 12) (i := 0) (v := .int (I368 0 54)) hx hb hts zj_X12_flow_X12 hown hK hW rfl rfl 54 (by decide) (hts (.fieldLink RX12 461 "PetrolBoardModel" "stations" "I") (me_s (me_l (me_l (List.mem_of_getElem? (i := 4) rfl))))) (fun _ h => h) rfl dX12_flow_93 ?_
                            have hn371 : (I368 0 54).toInt = (I 0 54).toInt := by rw [lp366fr 0 54 (by decide)]
                            refine lv_icmp_ge (tgt := 145) hx hb dX12_flow_96 (by decide) (fun c372 => ?_) (fun c372 => ?_)
                            · have g373 := z_f_ge rfl rfl c372
                              obtain ⟨x374, ex374⟩ : ∃ y : Int32, y = y213 + 1 := ⟨_, rfl⟩
                              have tx374 : x374.toInt = y213.toInt + 1 := z_tadd ex374 rfl z_l1 (by omega) (by omega)
                              refine lv_iinc (v := x374) (lv' := [(3, .int x374), (4, .int y367), (0, .ref (ad 0)), (1, .int a1), (2, .int a2)]) hx hb dX12_flow_145 hl (k := 1) rfl (by rw [ex374]; rfl) (by decide) rfl (fun ls hl => ?_)
                              refine lv_goto (tgt := 59) hx hb dX12_flow_148 (by decide) ?_
                              exact lp212ih x374 I368 J369 _ _ _ (by omega) (by omega) (by omega) (by show 0 ≤ (I368 0 75).toInt ∧ (I368 0 75).toInt ≤ 4; exact lp366mr) ⟨(by show 0 ≤ (I368 0 54).toInt ∧ (I368 0 54).toInt ≤ 10; exact lp366ms.1), (by show 0 ≤ (I368 0 55).toInt ∧ (I368 0 55).toInt ≤ 300; exact lp366ms.2)⟩ lp366Ald lp366Awt lp366Ard lp366Arm lp366Ami lp366Abk lp366Afr lp366L (by have c9 := z_clt (x := y367) rfl (by omega); have c8 := z_clt (x := y213) rfl (by omega); rw [z_ss (x := y213) (y := x374) (by omega) (by omega)]; exact zy_L21 lp366E (by omega) hZM (by omega)) lp366fr hW hS (lv_sub hl [0, 2, 3, 4] rfl)
                            · have g375 := z_f_nge rfl rfl c372
                              refine lv_aload_n hx hb dX12_flow_99 rfl (lv_at hl 2 rfl) ?_
                              refine z_get (T := TX12) (N := 96) (ci := 12) (i := 0) (v := .ref (ad 54)) hx hb hts zj_X12_flow_X12 hown hK hW rfl rfl 78 (by decide) (hts (.fieldLink RX12 178 "PetrolBoardModel" "roadOf" "[I") (me_s (me_l (me_l (List.mem_of_getElem? (i := 5) rfl))))) (fun _ h => h) rfl dX12_flow_100 ?_
                              refine lv_bipush (v := 10) hx hb dX12_flow_103 (by decide) ?_
                              refine lv_iload_n hx hb dX12_flow_105 rfl (lv_at hl 1 rfl) ?_
                              refine lv_imul hx hb dX12_flow_106 ?_
                              refine lv_topi (fun x376 ex376 => ?_)
                              have tx376 : x376.toInt = 10 * y213.toInt := z_tmul ex376 z_l10 rfl (by omega) (by omega)
                              refine lv_iload hx hb dX12_flow_107 (lv_at hl 0 rfl) ?_
                              refine lv_iadd hx hb dX12_flow_109 ?_
                              refine lv_topi (fun x377 ex377 => ?_)
                              have tx377 : x377.toInt = x376.toInt + y367.toInt := z_tadd ex377 rfl rfl (by omega) (by omega)
                              refine z_iald (i := 54) hx hb hK hW rfl (z_ix rfl (by omega) (by omega)) dX12_flow_110 ?_
                              refine lv_topi (fun x378 ex378 => ?_)
                              have h379 : 0 ≤ x378.toInt ∧ x378.toInt ≤ 999 := by rw [ex378]; exact lp366Ard _
                              have hl380 : x378.toInt = (I 54 (10 * y213.toNatClampNeg + y367.toNatClampNeg)).toInt := by rw [ex378, lp366fr 54 _ (z_wr_c (by decide)), show x377.toNatClampNeg = 10 * y213.toNatClampNeg + y367.toNatClampNeg from by have q1 := z_clt (x := y213) rfl (by omega); have q2 := z_clt (x := y367) rfl (by omega); have q3 := z_clt (x := x377) rfl (by omega); omega]
                              refine lv_if_le (tgt := 139) hx hb dX12_flow_111 (by decide) (fun c381 => ?_) (fun c381 => ?_)
                              · have g382 := z_f_le rfl z_l0 c381
                                obtain ⟨x383, ex383⟩ : ∃ y : Int32, y = y367 + 1 := ⟨_, rfl⟩
                                have tx383 : x383.toInt = y367.toInt + 1 := z_tadd ex383 rfl z_l1 (by omega) (by omega)
                                refine lv_iinc (v := x383) (lv' := [(4, .int x383), (3, .int y213), (0, .ref (ad 0)), (1, .int a1), (2, .int a2)]) hx hb dX12_flow_139 hl (k := 0) rfl (by rw [ex383]; rfl) (by decide) rfl (fun ls hl => ?_)
                                refine lv_goto (tgt := 90) hx hb dX12_flow_142 (by decide) ?_
                                exact lp366ih x383 I368 J369 _ _ _ (by omega) (by omega) (by omega) (by show 0 ≤ (I368 0 75).toInt ∧ (I368 0 75).toInt ≤ 4; exact lp366mr) ⟨(by show 0 ≤ (I368 0 54).toInt ∧ (I368 0 54).toInt ≤ 10; exact lp366ms.1), (by show 0 ≤ (I368 0 55).toInt ∧ (I368 0 55).toInt ≤ 300; exact lp366ms.2)⟩ lp366Ald lp366Awt lp366Ard lp366Arm lp366Ami lp366Abk lp366Afr lp366L (by have c9 := z_clt (x := y213) rfl (by omega); have c8 := z_clt (x := y367) rfl (by omega); rw [z_ss (x := y367) (y := x383) (by omega) (by omega)]; exact zy_L22n lp366E (by omega) (by omega) (by rw [← hl380]; omega)) lp366fr hW hS (lv_sub hl [0, 1, 2, 3, 4] rfl)
                              · have g384 := z_f_nle rfl z_l0 c381
                                refine lv_aload_n hx hb dX12_flow_114 rfl (lv_at hl 2 rfl) ?_
                                refine lv_iconst (v := 1) hx hb dX12_flow_115 (by decide) ?_
                                refine lv_iload_n hx hb dX12_flow_116 rfl (lv_at hl 1 rfl) ?_
                                refine lv_iadd hx hb dX12_flow_117 ?_
                                refine lv_topi (fun x385 ex385 => ?_)
                                have tx385 : x385.toInt = 1 + y213.toInt := z_tadd ex385 z_l1 rfl (by omega) (by omega)
                                refine lv_iconst (v := 5) hx hb dX12_flow_118 (by decide) ?_
                                refine lv_iload hx hb dX12_flow_119 (lv_at hl 0 rfl) ?_
                                refine lv_iadd hx hb dX12_flow_121 ?_
                                refine lv_topi (fun x386 ex386 => ?_)
                                have tx386 : x386.toInt = 5 + y367.toInt := z_tadd ex386 z_l5 rfl (by omega) (by omega)
                                refine lv_bipush (v := 50) hx hb dX12_flow_122 (by decide) ?_
                                refine lv_aload_n hx hb dX12_flow_124 rfl (lv_at hl 2 rfl) ?_
                                refine z_get (T := TX12) (N := 96) (ci := 12) (i := 0) (v := .ref (ad 54)) hx hb hts zj_X12_flow_X12 hown hK hW rfl rfl 78 (by decide) (hts (.fieldLink RX12 178 "PetrolBoardModel" "roadOf" "[I") (me_s (me_l (me_l (List.mem_of_getElem? (i := 5) rfl))))) (fun _ h => h) rfl dX12_flow_125 ?_
                                refine lv_bipush (v := 10) hx hb dX12_flow_128 (by decide) ?_
                                refine lv_iload_n hx hb dX12_flow_130 rfl (lv_at hl 1 rfl) ?_
                                refine lv_imul hx hb dX12_flow_131 ?_
                                refine lv_topi (fun x387 ex387 => ?_)
                                have tx387 : x387.toInt = 10 * y213.toInt := z_tmul ex387 z_l10 rfl (by omega) (by omega)
                                refine lv_iload hx hb dX12_flow_132 (lv_at hl 0 rfl) ?_
                                refine lv_iadd hx hb dX12_flow_134 ?_
                                refine lv_topi (fun x388 ex388 => ?_)
                                have tx388 : x388.toInt = x387.toInt + y367.toInt := z_tadd ex388 rfl rfl (by omega) (by omega)
                                refine z_iald (i := 54) hx hb hK hW rfl (z_ix rfl (by omega) (by omega)) dX12_flow_135 ?_
                                refine lv_topi (fun x389 ex389 => ?_)
                                have h390 : 0 ≤ x389.toInt ∧ x389.toInt ≤ 999 := by rw [ex389]; exact lp366Ard _
                                have hl391 : x389.toInt = (I 54 (10 * y213.toNatClampNeg + y367.toNatClampNeg)).toInt := by rw [ex389, lp366fr 54 _ (z_wr_c (by decide)), show x388.toNatClampNeg = 10 * y213.toNatClampNeg + y367.toNatClampNeg from by have q1 := z_clt (x := y213) rfl (by omega); have q2 := z_clt (x := y367) rfl (by omega); have q3 := z_clt (x := x388) rfl (by omega); omega]
                                refine z_cv hW hS hA (va_runV (As := [.int x385, .int x386, .int 50, .int x389]) (rest := []) ⟨hx, hb, hml, hown, hts⟩ (sx_X12_edge_y l G ad I368 J369 lp366Arm lp366Ami x385 x386 50 x389 (by have := z_l50; omega) (by have := z_l50; omega) (by have := z_l50; omega) (by have := z_l50; omega) lp366L _) (cwV 4 hts gX12_flow_X12_edge rfl rfl rfl (by decide +kernel) ⟨Nat.le_of_ble_eq_true rfl, Nat.le_of_ble_eq_true rfl⟩) (z_preV (i := 0) hK hW rfl rfl) rfl rfl hl.1 rfl (lv_room (Nat.le_of_ble_eq_true rfl)) dX12_flow_136 ⟨Nat.le_of_ble_eq_true rfl, Nat.le_of_ble_eq_true rfl⟩) (fun u1 H locs hp hW hS => ?_)
                                obtain ⟨I392, J394, e9, hI392Arm, hI392Ami, fI392, hp⟩ := hp
                                rw [e9] at hW
                                have f393 := z_fr_sub (L := L_X12_flow_y) lp366fr fI392 (by decide)
                                have k395 : 0 ≤ (I392 0 75).toInt ∧ (I392 0 75).toInt ≤ 4 := by rw [fI392 0 75 (by decide)]; exact (by show 0 ≤ (I368 0 75).toInt ∧ (I368 0 75).toInt ≤ 4; exact lp366mr)
                                have k396 : 0 ≤ (I392 0 54).toInt ∧ (I392 0 54).toInt ≤ 10 := by rw [fI392 0 54 (by decide)]; exact (by show 0 ≤ (I368 0 54).toInt ∧ (I368 0 54).toInt ≤ 10; exact lp366ms.1)
                                have k397 : 0 ≤ (I392 0 55).toInt ∧ (I392 0 55).toInt ≤ 300 := by rw [fI392 0 55 (by decide)]; exact (by show 0 ≤ (I368 0 55).toInt ∧ (I368 0 55).toInt ≤ 300; exact lp366ms.2)
                                obtain ⟨h398, h399⟩ := hp
                                obtain ⟨x400, ex400⟩ : ∃ y : Int32, y = y367 + 1 := ⟨_, rfl⟩
                                have tx400 : x400.toInt = y367.toInt + 1 := z_tadd ex400 rfl z_l1 (by omega) (by omega)
                                refine lv_iinc (v := x400) (lv' := [(4, .int x400), (3, .int y213), (0, .ref (ad 0)), (1, .int a1), (2, .int a2)]) hx hb dX12_flow_139 hl (k := 0) rfl (by rw [ex400]; rfl) (by decide) rfl (fun ls hl => ?_)
                                refine lv_goto (tgt := 90) hx hb dX12_flow_142 (by decide) ?_
                                exact lp366ih x400 I392 J394 _ _ _ (by omega) (by omega) (by omega) (by show 0 ≤ (I392 0 75).toInt ∧ (I392 0 75).toInt ≤ 4; exact k395) ⟨(by show 0 ≤ (I392 0 54).toInt ∧ (I392 0 54).toInt ≤ 10; exact k396), (by show 0 ≤ (I392 0 55).toInt ∧ (I392 0 55).toInt ≤ 300; exact k397)⟩ (z_rg_fr lp366Ald fI392 (by decide)) (z_rg_fr lp366Awt fI392 (by decide)) (z_rg_fr lp366Ard fI392 (by decide)) hI392Arm hI392Ami (z_rg_fr lp366Abk fI392 (by decide)) (z_rg_fr lp366Afr fI392 (by decide)) h398 (by have c9 := z_clt (x := y213) rfl (by omega); have c8 := z_clt (x := y367) rfl (by omega); have c7 := z_clt (x := x385) rfl (by omega); have c6 := z_clt (x := x386) rfl (by omega); rw [z_ss (x := y367) (y := x400) (by omega) (by omega)]; exact zy_L22 lp366E h399 (by omega) (by omega) (by omega) (by omega) z_l50 (by rw [← hl391]) (by omega)) f393 hW hS (lv_sub hl [0, 1, 2, 3, 4] rfl)
                        exact lp366 4294967296 (0) I358 J360 _ _ _ (z_m0u _) (by rw [z_l0]; omega) (by rw [z_l0]; omega) (by show 0 ≤ (I358 0 75).toInt ∧ (I358 0 75).toInt ≤ 4; exact k361) ⟨(by show 0 ≤ (I358 0 54).toInt ∧ (I358 0 54).toInt ≤ 10; exact k362), (by show 0 ≤ (I358 0 55).toInt ∧ (I358 0 55).toInt ≤ 300; exact k363)⟩ (z_rg_fr lp212Ald fI358 (by decide)) (z_rg_fr lp212Awt fI358 (by decide)) (z_rg_fr lp212Ard fI358 (by decide)) hI358Arm hI358Ami (z_rg_fr lp212Abk fI358 (by decide)) (z_rg_fr lp212Afr fI358 (by decide)) h364 (by have c9 := z_clt (x := y213) rfl (by omega); have c8 := z_clt (x := x354) rfl (by omega); rw [z_n0]; exact zy_L12 lp212E (by rw [z_n0] at h365; exact h365) (by omega) (by omega) (by rw [← hl357]) z_l0 (by omega)) f359 hW hS (lv_sub hl [0, 1, 2, 3, 4] rfl)
                exact lp212 4294967296 (0) I208 J209 _ _ _ (z_m0u _) (by rw [z_l0]; omega) (by rw [z_l0]; omega) (by show 0 ≤ (I208 0 75).toInt ∧ (I208 0 75).toInt ≤ 4; exact lp206mr) ⟨(by show 0 ≤ (I208 0 54).toInt ∧ (I208 0 54).toInt ≤ 10; exact lp206ms.1), (by show 0 ≤ (I208 0 55).toInt ∧ (I208 0 55).toInt ≤ 300; exact lp206ms.2)⟩ lp206Ald lp206Awt lp206Ard lp206Arm lp206Ami lp206Abk lp206Afr (z_BL_0 (fun j hj => lp206Z j (by omega))) (by rw [z_n0]; exact zy_L10 (fun j hj => lp206Z j (by omega))) lp206fr hW hS (lv_sub hl [0, 1, 2, 3] rfl)
              · have g401 := z_f_nge rfl z_l256 c210
                refine lv_aload_n hx hb dX12_flow_37 rfl (lv_at hl 1 rfl) ?_
                refine z_get (T := TX12) (N := 96) (ci := 12) (i := 0) (v := .ref (ad 55)) hx hb hts zj_X12_flow_X12 hown hK hW rfl rfl 79 (by decide) (hts (.fieldLink RX12 181 "PetrolBoardModel" "room" "[I") (me_s (me_l (me_l (List.mem_of_getElem? (i := 1) rfl))))) (fun _ h => h) rfl dX12_flow_38 ?_
                refine lv_iload_n hx hb dX12_flow_41 rfl (lv_at hl 0 rfl) ?_
                refine lv_iconst (v := 0) hx hb dX12_flow_42 (by decide) ?_
                refine z_iast (i := 55) hx hb hK hW hS rfl (z_ix rfl (by omega) (by omega)) dX12_flow_43 (fun H locs hz1 hW hS => ?_)
                obtain ⟨I402, eI402⟩ : ∃ K : z_I, K = z_up I208 55 y207.toNatClampNeg 0 := ⟨_, rfl⟩
                rw [← eI402] at hW
                have f403 := z_fr_a lp206fr (show z_wa L_X12_flow_y 55 = true by decide) eI402
                have a404 := z_rg_n lp206Ald (by decide) eI402
                have a405 := z_rg_n lp206Awt (by decide) eI402
                have a406 := z_rg_n lp206Ard (by decide) eI402
                have a407 := z_rg_a lp206Arm (by decide) eI402
                have a408 := z_rg_n lp206Ami (by decide) eI402
                have a409 := z_rg_n lp206Abk (by decide) eI402
                have a410 := z_rg_n lp206Afr (by decide) eI402
                refine lv_aload_n hx hb dX12_flow_44 rfl (lv_at hl 1 rfl) ?_
                refine z_get (T := TX12) (N := 96) (ci := 12) (i := 0) (v := .ref (ad 56)) hx hb hts zj_X12_flow_X12 hown hK hW rfl rfl 80 (by decide) (hts (.fieldLink RX12 184 "PetrolBoardModel" "miles" "[I") (me_s (me_l (me_l (List.mem_of_getElem? (i := 2) rfl))))) (fun _ h => h) rfl dX12_flow_45 ?_
                refine lv_iload_n hx hb dX12_flow_48 rfl (lv_at hl 0 rfl) ?_
                refine lv_iconst (v := 0) hx hb dX12_flow_49 (by decide) ?_
                refine z_iast (i := 56) hx hb hK hW hS rfl (z_ix rfl (by omega) (by omega)) dX12_flow_50 (fun H locs hz1 hW hS => ?_)
                obtain ⟨I411, eI411⟩ : ∃ K : z_I, K = z_up I402 56 y207.toNatClampNeg 0 := ⟨_, rfl⟩
                rw [← eI411] at hW
                have f412 := z_fr_a f403 (show z_wa L_X12_flow_y 56 = true by decide) eI411
                have a413 := z_rg_n a404 (by decide) eI411
                have a414 := z_rg_n a405 (by decide) eI411
                have a415 := z_rg_n a406 (by decide) eI411
                have a416 := z_rg_n a407 (by decide) eI411
                have a417 := z_rg_a a408 (by decide) eI411
                have a418 := z_rg_n a409 (by decide) eI411
                have a419 := z_rg_n a410 (by decide) eI411
                obtain ⟨x420, ex420⟩ : ∃ y : Int32, y = y207 + 1 := ⟨_, rfl⟩
                have tx420 : x420.toInt = y207.toInt + 1 := z_tadd ex420 rfl z_l1 (by omega) (by omega)
                refine lv_iinc (v := x420) (lv' := [(3, .int x420), (0, .ref (ad 0)), (1, .int a1), (2, .int a2)]) hx hb dX12_flow_51 hl (k := 0) rfl (by rw [ex420]; rfl) (by decide) rfl (fun ls hl => ?_)
                refine lv_goto (tgt := 30) hx hb dX12_flow_54 (by decide) ?_
                exact lp206ih x420 I411 J209 _ _ _ (by omega) (by omega) (by omega) (by show 0 ≤ (I411 0 75).toInt ∧ (I411 0 75).toInt ≤ 4; rw [eI411, z_up_n (by decide), eI402, z_up_n (by decide)]; exact lp206mr) ⟨(by show 0 ≤ (I411 0 54).toInt ∧ (I411 0 54).toInt ≤ 10; rw [eI411, z_up_n (by decide), eI402, z_up_n (by decide)]; exact lp206ms.1), (by show 0 ≤ (I411 0 55).toInt ∧ (I411 0 55).toInt ≤ 300; rw [eI411, z_up_n (by decide), eI402, z_up_n (by decide)]; exact lp206ms.2)⟩ a413 a414 a415 a416 a417 a418 a419 (fun j hj => by by_cases q9 : j = y207.toNatClampNeg; (· (exact ⟨by rw [eI411, z_up_n (by decide), eI402, q9, z_up_s], by rw [eI411, q9, z_up_s]⟩)); (· (have hc9 := z_clt (x := y207) rfl (by omega); have h9 := lp206Z j (by omega); exact ⟨by rw [eI411, z_up_n (by decide), eI402, z_up_k q9]; exact h9.1, by rw [eI411, z_up_k q9, eI402, z_up_n (by decide)]; exact h9.2⟩))) f412 hW hS (lv_sub hl [0, 1, 2, 3] rfl)
          exact lp206 4294967296 (0) I J _ _ _ (z_m0u _) (by rw [z_l0]; omega) (by rw [z_l0]; omega) (by show 0 ≤ (I 0 75).toInt ∧ (I 0 75).toInt ≤ 4; exact hmr) ⟨(by show 0 ≤ (I 0 54).toInt ∧ (I 0 54).toInt ≤ 10; exact hms.1), (by show 0 ≤ (I 0 55).toInt ∧ (I 0 55).toInt ≤ 300; exact hms.2)⟩ hAld hAwt hArd hArm hAmi hAbk hAfr (fun j hj => absurd hj (by have : ((0 : Int32)).toInt = 0 := (by decide); omega)) z_fr_0 hW hS (lv_sub hl [0, 1, 2, 3] rfl)
        · have h421 := h201
          have z422 := z_l0
          have z423 := z_l1
          refine lv_if_ne (tgt := 28) hx hb dX12_flow_23 (by decide) (fun c424 => absurd (by decide) c424) (fun c424 => ?_)
          refine lv_iconst (v := (-1)) hx hb dX12_flow_26 (by decide) ?_
          exact z_iret hx hb hr hK hS (Nat.le_of_ble_eq_true rfl) (Nat.le_of_ble_eq_true rfl) hlocks dX12_flow_27 (shM, ad, I, J, PM ad) hW ⟨I, J, rfl, (by show 0 ≤ (I 0 75).toInt ∧ (I 0 75).toInt ≤ 4; exact hmr), ⟨(by show 0 ≤ (I 0 54).toInt ∧ (I 0 54).toInt ≤ 10; exact hms.1), (by show 0 ≤ (I 0 55).toInt ∧ (I 0 55).toInt ≤ 300; exact hms.2)⟩, hAld, hAwt, hArd, hArm, hAmi, hAbk, hAfr, z_fr_0, (Or.inr ⟨by omega, by decide⟩)⟩
