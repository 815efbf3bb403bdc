/-! numbers as Ints: what a branch says, what a step makes -/
theorem z_f_lt {a b : Int32} {n m : Int} (ha : a.toInt = n) (hb : b.toInt = m) (h : a < b) : n < m := by rw [← ha, ← hb]; exact Int32.lt_iff_toInt_lt.mp h
theorem z_f_le {a b : Int32} {n m : Int} (ha : a.toInt = n) (hb : b.toInt = m) (h : a ≤ b) : n ≤ m := by rw [← ha, ← hb]; exact Int32.le_iff_toInt_le.mp h
theorem z_f_nlt {a b : Int32} {n m : Int} (ha : a.toInt = n) (hb : b.toInt = m) (h : ¬ a < b) : m ≤ n := by rw [← ha, ← hb]; exact Int.not_lt.mp fun q => h (Int32.lt_iff_toInt_lt.mpr q)
theorem z_f_nle {a b : Int32} {n m : Int} (ha : a.toInt = n) (hb : b.toInt = m) (h : ¬ a ≤ b) : m < n := by rw [← ha, ← hb]; exact Int.not_le.mp fun q => h (Int32.le_iff_toInt_le.mpr q)
theorem z_f_gt {a b : Int32} {n m : Int} (ha : a.toInt = n) (hb : b.toInt = m) (h : b < a) : m < n := z_f_lt hb ha h
theorem z_f_ge {a b : Int32} {n m : Int} (ha : a.toInt = n) (hb : b.toInt = m) (h : b ≤ a) : m ≤ n := z_f_le hb ha h
theorem z_f_ngt {a b : Int32} {n m : Int} (ha : a.toInt = n) (hb : b.toInt = m) (h : ¬ b < a) : n ≤ m := z_f_nlt hb ha h
theorem z_f_nge {a b : Int32} {n m : Int} (ha : a.toInt = n) (hb : b.toInt = m) (h : ¬ b ≤ a) : n < m := z_f_nle hb ha h
theorem z_f_eq {a b : Int32} {n m : Int} (ha : a.toInt = n) (hb : b.toInt = m) (h : a = b) : n = m := by rw [← ha, ← hb, h]
theorem z_f_ne {a b : Int32} {n m : Int} (ha : a.toInt = n) (hb : b.toInt = m) (h : ¬ a = b) : n ≠ m := by rw [← ha, ← hb]; exact fun q => h (Int32.toInt_inj.mp q)
theorem z_t_le {a b : Int32} {n m : Int} (ha : a.toInt = n) (hb : b.toInt = m) (h : a.toInt ≤ b.toInt) : n ≤ m := by rw [← ha, ← hb]; exact h
theorem z_tadd {z a b : Int32} {n m : Int} (e : z = a + b) (ha : a.toInt = n) (hb : b.toInt = m) (h1 : -2147483648 ≤ n + m) (h2 : n + m ≤ 2147483647) : z.toInt = n + m := by
  rw [e, Int32.toInt_add, ha, hb]
  exact Int.bmod_eq_of_le (by show -(4294967296 / 2) ≤ n + m; omega) (by show n + m < (4294967296 + 1) / 2; omega)
theorem z_tsub {z a b : Int32} {n m : Int} (e : z = a - b) (ha : a.toInt = n) (hb : b.toInt = m) (h1 : -2147483648 ≤ n - m) (h2 : n - m ≤ 2147483647) : z.toInt = n - m := by
  rw [e, Int32.toInt_sub, ha, hb]
  exact Int.bmod_eq_of_le (by show -(4294967296 / 2) ≤ n - m; omega) (by show n - m < (4294967296 + 1) / 2; omega)
theorem z_tmul {z a b : Int32} {n m : Int} (e : z = a * b) (ha : a.toInt = n) (hb : b.toInt = m) (h1 : -2147483648 ≤ n * m) (h2 : n * m ≤ 2147483647) : z.toInt = n * m := by
  rw [e, Int32.toInt_mul, ha, hb]
  exact Int.bmod_eq_of_le (by show -(4294967296 / 2) ≤ n * m; omega) (by show n * m < (4294967296 + 1) / 2; omega)
theorem z_tdiv {z a b : Int32} {n m : Int} (e : z = a / b) (ha : a.toInt = n) (hb : b.toInt = m) (hm : 0 < m) : 0 ≤ n → z.toInt = n / m := by
  intro hn
  have h1 := Int32.toInt_lt a
  rw [ha] at h1
  have h2 : 0 ≤ n / m := Int.ediv_nonneg hn (Int.le_of_lt hm)
  have h3 : n / m ≤ n := Int.ediv_le_self m hn
  rw [e, Int32.toInt_div, ha, hb, Int.tdiv_eq_ediv_of_nonneg hn]
  exact Int.bmod_eq_of_le (by show -(4294967296 / 2) ≤ n / m; omega) (by show n / m < (4294967296 + 1) / 2; omega)
theorem z_trem {z a b : Int32} {n m : Int} (e : z = a - a / b * b) (ha : a.toInt = n) (hb : b.toInt = m) (hm : 0 < m) : -m < z.toInt ∧ z.toInt < m ∧ (0 ≤ n → z.toInt = n % m) := by
  have h : z.toInt = n.tmod m := by rw [e, irem_eq_mod, Int32.toInt_mod, ha, hb]
  rw [h]
  refine ⟨?_, ?_, fun hn => Int.tmod_eq_emod_of_nonneg hn⟩
  · rcases Int.le_total 0 n with q | q
    · have := Int.tmod_nonneg m q
      omega
    · have h1 := Int.tmod_lt_of_pos (-n) hm
      rw [Int.neg_tmod] at h1
      omega
  · exact Int.tmod_lt_of_pos n hm
theorem z_tcmp {z : Int32} {x y : Int64} (e : z = lg_cmp x y) : -1 ≤ z.toInt ∧ z.toInt ≤ 1 := by
  rw [e]
  unfold lg_cmp
  split
  · decide
  · split <;> decide
theorem z_tmmax {z x y : Int32} {n m : Int} (e : z = if x < y then y else x) (hx : x.toInt = n) (hy : y.toInt = m) : n ≤ z.toInt ∧ m ≤ z.toInt ∧ (z.toInt = n ∨ z.toInt = m) := by
  rw [e]
  split
  · rename_i h
    have := z_f_lt hx hy h
    exact ⟨by omega, by omega, Or.inr hy⟩
  · rename_i h
    have := z_f_nlt hx hy h
    exact ⟨by omega, by omega, Or.inl hx⟩
theorem z_tmmin {z x y : Int32} {n m : Int} (e : z = if y < x then y else x) (hx : x.toInt = n) (hy : y.toInt = m) : z.toInt ≤ n ∧ z.toInt ≤ m ∧ (z.toInt = n ∨ z.toInt = m) := by
  rw [e]
  split
  · rename_i h
    have := z_f_lt hy hx h
    exact ⟨by omega, by omega, Or.inr hy⟩
  · rename_i h
    have := z_f_nlt hy hx h
    exact ⟨by omega, by omega, Or.inl hx⟩
theorem z_ix {x : Int32} {n : Nat} {m : Int} (hx : x.toInt = m) (h0 : 0 ≤ m) (h1 : m < (n : Int)) : vp_in x n := vp_in_iff.mpr (by rw [hx]; exact ⟨h0, h1⟩)
theorem z_nz {y : Int32} {m : Int} (hy : y.toInt = m) (h : m ≠ 0) : ¬ y = 0 := fun q => h (by rw [← hy, q]; decide)
theorem z_m0u (y : Int32) : 2147483647 < y.toInt + ((4294967296 : Nat) : Int) := by have := Int32.le_toInt y; omega
theorem z_m0d (y : Int32) : y.toInt + 2147483648 < ((4294967296 : Nat) : Int) := by have := Int32.toInt_lt y; omega
/-! what a method may write: cells and places; place 999: all of a cell; cell 1000: all cells from 100 on -/
noncomputable abbrev z_L : Type := List (Nat × Nat)
noncomputable def z_ce (e : Nat × Nat) (a : Nat) : Bool := e.1 == a || (e.1 == 1000 && decide (100 ≤ a))
noncomputable def z_wr (L : z_L) (a k : Nat) : Bool := L.any (fun e => z_ce e a && (e.2 == k || e.2 == 999))
noncomputable def z_wa (L : z_L) (a : Nat) : Bool := L.any (fun e => z_ce e a && e.2 == 999)
noncomputable def z_fr (L : z_L) (I I0 : z_I) : Prop := ∀ a k, z_wr L a k = false → I a k = I0 a k
noncomputable def z_sub (L' L : z_L) : Bool := L'.all (fun e => if e.2 == 999 then z_wa L e.1 else (e.1 != 1000 && z_wr L e.1 e.2))
theorem z_wa_wr {L : z_L} {a k : Nat} (h : z_wa L a = true) : z_wr L a k = true := by
  unfold z_wa at h
  unfold z_wr
  rw [List.any_eq_true] at h ⊢
  obtain ⟨e, he, h2⟩ := h
  refine ⟨e, he, ?_⟩
  simp only [Bool.and_eq_true, Bool.or_eq_true] at h2 ⊢
  exact ⟨h2.1, Or.inr h2.2⟩
theorem z_fr_0 {L : z_L} {I : z_I} : z_fr L I I := fun _ _ _ => rfl
theorem z_fr_k {L : z_L} {I I0 K : z_I} {c k : Nat} {v : Int32} (h : z_fr L I I0) (hw : z_wr L c k = true) (e : K = z_up I c k v) : z_fr L K I0 := by
  intro a j hj
  rw [e]
  by_cases q : a = c
  · by_cases q2 : j = k
    · rw [q, q2, hw] at hj
      cases hj
    · rw [z_up_k q2]
      exact h a j hj
  · rw [z_up_n q]
    exact h a j hj
theorem z_fr_a {L : z_L} {I I0 K : z_I} {c k : Nat} {v : Int32} (h : z_fr L I I0) (hw : z_wa L c = true) (e : K = z_up I c k v) : z_fr L K I0 := z_fr_k h (z_wa_wr hw) e
theorem z_fr_f {L : z_L} {I I0 K : z_I} {c : Nat} {v : Int32} (h : z_fr L I I0) (hw : z_wa L c = true) (e : K = z_fi I c v) : z_fr L K I0 := by
  intro a j hj
  rw [e]
  have q : a ≠ c := fun q => by
    rw [q, z_wa_wr hw] at hj
    cases hj
  show (if a = c then v else I a j) = I0 a j
  rw [if_neg q]
  exact h a j hj
theorem z_sub_wr {L L' : z_L} (hs : z_sub L' L = true) {a k : Nat} (h : z_wr L a k = false) : z_wr L' a k = false := by
  cases hq : z_wr L' a k with
  | false => rfl
  | true =>
    exfalso
    unfold z_wr at hq
    rw [List.any_eq_true] at hq
    obtain ⟨e, he, h2⟩ := hq
    unfold z_sub at hs
    rw [List.all_eq_true] at hs
    have h3 := hs e he
    simp only [Bool.and_eq_true, Bool.or_eq_true, beq_iff_eq] at h2
    have hno : ∀ e2 ∈ L, ¬ (z_ce e2 a = true ∧ (e2.2 = k ∨ e2.2 = 999)) := fun e2 he2 q => by
      have : z_wr L a k = true := by
        unfold z_wr
        rw [List.any_eq_true]
        refine ⟨e2, he2, ?_⟩
        simp only [Bool.and_eq_true, Bool.or_eq_true, beq_iff_eq]
        exact q
      rw [h] at this
      cases this
    by_cases h9 : e.2 = 999
    · simp only [h9, beq_self_eq_true, if_true] at h3
      unfold z_wa at h3
      rw [List.any_eq_true] at h3
      obtain ⟨e2, he2, h4⟩ := h3
      simp only [Bool.and_eq_true, beq_iff_eq] at h4
      refine hno e2 he2 ⟨?_, Or.inr h4.2⟩
      have h5 := h4.1
      have h6 := h2.1
      simp only [z_ce, Bool.or_eq_true, Bool.and_eq_true, beq_iff_eq, decide_eq_true_eq] at h5 h6 ⊢
      omega
    · have h9' : (e.2 == 999) = false := by simpa using h9
      rw [h9'] at h3
      simp only [Bool.and_eq_true, bne_iff_ne, ne_eq, Bool.false_eq_true, if_false] at h3
      obtain ⟨h10, h3⟩ := h3
      unfold z_wr at h3
      rw [List.any_eq_true] at h3
      obtain ⟨e2, he2, h4⟩ := h3
      simp only [Bool.and_eq_true, Bool.or_eq_true, beq_iff_eq] at h4
      have h6 := h2.1
      have h5 := h4.1
      simp only [z_ce, Bool.or_eq_true, Bool.and_eq_true, beq_iff_eq, decide_eq_true_eq] at h5 h6
      have ea : e.1 = a := by omega
      have ek : e.2 = k := by
        rcases h2.2 with q | q
        · exact q
        · exact absurd q h9
      refine hno e2 he2 ⟨?_, by rw [← ek]; exact h4.2⟩
      simp only [z_ce, Bool.or_eq_true, Bool.and_eq_true, beq_iff_eq, decide_eq_true_eq]
      omega
theorem z_fr_sub {L L' : z_L} {I I0 K : z_I} (h : z_fr L I I0) (h1 : z_fr L' K I) (hs : z_sub L' L = true) : z_fr L K I0 := fun a k hk => (h1 a k (z_sub_wr hs hk)).trans (h a k hk)
/-! the class's memory with its STATIONS and ORDERS: c.1 STATIONS, c.2.1 ORDERS, the lengths of their rows -/
noncomputable abbrev z_C : Type := Nat × Nat × (Nat → Nat) × (Nat → Nat)
noncomputable def shC (c : z_C) : Nat → Option z_S := fun i => if i < 75 then shX i else if i < 180 then (if 100 ≤ i ∧ (i - 100) / 8 < c.1 then some (if (i - 100) % 8 = 0 then .inr 10 else .inl (.int, 30)) else none) else if 200 ≤ i ∧ (i - 200) / 5 < c.2.1 then some (if (i - 200) % 5 = 0 then .inr 7 else .inl (.int, if (i - 200) % 5 = 4 then c.2.2.2 ((i - 200) / 5) else c.2.2.1 ((i - 200) / 5))) else none
noncomputable def z_so (k : Nat) : Option Nat := if k < 4 then some (k + 1) else if 7 ≤ k ∧ k < 10 then some (k - 2) else none
noncomputable def z_oo (k : Nat) : Option Nat := if 2 ≤ k ∧ k < 6 then some (k - 1) else none
noncomputable def PC (c : z_C) (ad : Nat → Nat) : z_P := fun i k => if i < 75 then (if i = 39 then (if k < c.1 then some (ad (100 + 8 * k)) else none) else if i = 22 then (if k < c.2.1 then some (ad (200 + 5 * k)) else none) else PX ad i k) else if i < 180 then (if (i - 100) % 8 = 0 then (z_so k).map (fun j => ad (i + j)) else none) else (if (i - 200) % 5 = 0 then (z_oo k).map (fun j => ad (i + j)) else none)
theorem z_clN {x : Int32} {m : Int} {n : Nat} (hx : x.toInt = m) (h0 : 0 ≤ m) (h1 : m < (n : Int)) : x.toNatClampNeg < n := by
  have h := z_ix hx h0 h1
  exact Nat.not_le.mp fun q => h (Or.inr q)
theorem z_clt {x : Int32} {m : Int} (hx : x.toInt = m) (h0 : 0 ≤ m) : (x.toNatClampNeg : Int) = m := by
  show ((x.toInt.toNat : Nat) : Int) = m
  omega
theorem z_s45 {c : z_C} {k : Nat} (hk : k < 4) : shC c (45 + k) = some (.inl (.int, 10)) := match k, hk with
  | 0, _ => rfl
  | 1, _ => rfl
  | 2, _ => rfl
  | 3, _ => rfl
  | k + 4, hk => absurd hk (by omega)
theorem z_s50 {c : z_C} {k : Nat} (hk : k < 4) : shC c (50 + k) = some (.inl (.int, 10)) := match k, hk with
  | 0, _ => rfl
  | 1, _ => rfl
  | 2, _ => rfl
  | 3, _ => rfl
  | k + 4, hk => absurd hk (by omega)
theorem z_p44 {c : z_C} {ad : Nat → Nat} {I : z_I} {J : z_J} {j k : Nat} (e : j = k) (hk : k < 4) : z_v I J (PC c ad) (.array .int) 44 j = .ref (ad (45 + k)) := by
  subst e
  exact match j, hk with
  | 0, _ => rfl
  | 1, _ => rfl
  | 2, _ => rfl
  | 3, _ => rfl
  | k + 4, hk => absurd hk (by omega)
theorem z_p49 {c : z_C} {ad : Nat → Nat} {I : z_I} {J : z_J} {j k : Nat} (e : j = k) (hk : k < 4) : z_v I J (PC c ad) (.array .int) 49 j = .ref (ad (50 + k)) := by
  subst e
  exact match j, hk with
  | 0, _ => rfl
  | 1, _ => rfl
  | 2, _ => rfl
  | 3, _ => rfl
  | k + 4, hk => absurd hk (by omega)
theorem z_wa45 {L : z_L} {k : Nat} (h : (z_wa L 45 && z_wa L 46 && z_wa L 47 && z_wa L 48) = true) (hk : k < 4) : z_wa L (45 + k) = true := by
  simp only [Bool.and_eq_true] at h
  exact match k, hk with
  | 0, _ => h.1.1.1
  | 1, _ => h.1.1.2
  | 2, _ => h.1.2
  | 3, _ => h.2
  | k + 4, hk => absurd hk (by omega)
theorem z_wa50 {L : z_L} {k : Nat} (h : (z_wa L 50 && z_wa L 51 && z_wa L 52 && z_wa L 53) = true) (hk : k < 4) : z_wa L (50 + k) = true := by
  simp only [Bool.and_eq_true] at h
  exact match k, hk with
  | 0, _ => h.1.1.1
  | 1, _ => h.1.1.2
  | 2, _ => h.1.2
  | 3, _ => h.2
  | k + 4, hk => absurd hk (by omega)
theorem z_01 {v : Int32} {m : Int} (hv : v.toInt = m) (h0 : 0 ≤ m) (h1 : m ≤ 1) : v = 1 ∨ v = 0 := by
  rcases (by omega : m = 1 ∨ m = 0) with q | q
  · exact Or.inl (Int32.toInt_inj.mp (by rw [hv, q]; decide))
  · exact Or.inr (Int32.toInt_inj.mp (by rw [hv, q]; decide))
theorem z_nar {v : Int32} (h : v = 1 ∨ v = 0) : narrow .boolean (.int v) = .int v := by
  rcases h with rfl | rfl <;> decide
noncomputable def z_iH (I : z_I) : Prop := (0 ≤ (I 1 5).toInt ∧ (I 1 5).toInt ≤ 30) ∧ (0 ≤ (I 1 11).toInt ∧ (I 1 11).toInt ≤ 200)
noncomputable def z_iR (I : z_I) : Prop := (0 ≤ (I 12 1).toInt ∧ (I 12 1).toInt ≤ 500) ∧ (0 ≤ (I 12 5).toInt ∧ (I 12 5).toInt ≤ 501) ∧ ((-1) ≤ (I 12 6).toInt ∧ (I 12 6).toInt ≤ 1000000) ∧ (0 ≤ (I 12 9).toInt ∧ (I 12 9).toInt ≤ 500) ∧ (0 ≤ (I 12 13).toInt ∧ (I 12 13).toInt ≤ 24)
noncomputable def z_iO (I : z_I) : Prop := (0 ≤ (I 21 2).toInt ∧ (I 21 2).toInt ≤ 12)
noncomputable def z_iC (I : z_I) : Prop := (0 ≤ (I 26 4).toInt ∧ (I 26 4).toInt ≤ 512)
noncomputable def z_iP (I : z_I) : Prop := (0 ≤ (I 30 8).toInt ∧ (I 30 8).toInt ≤ 300)
noncomputable def z_iL (I : z_I) : Prop := (0 ≤ (I 41 10).toInt ∧ (I 41 10).toInt ≤ 4)
noncomputable def z_iJ (I : z_I) : Prop := (0 ≤ (I 60 9).toInt ∧ (I 60 9).toInt ≤ 60) ∧ (0 ≤ (I 60 12).toInt ∧ (I 60 12).toInt ≤ 12)
noncomputable def z_iD (I : z_I) : Prop := (0 ≤ (I 72 2).toInt ∧ (I 72 2).toInt ≤ 30)
noncomputable def z_iB (I : z_I) : Prop := (0 ≤ (I 0 0).toInt ∧ (I 0 0).toInt ≤ 719) ∧ (0 ≤ (I 0 8).toInt ∧ (I 0 8).toInt ≤ 10)
