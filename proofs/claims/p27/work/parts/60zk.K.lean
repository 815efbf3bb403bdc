section SG60zj


/-! SUMS: the lowest first LEVEL backwards, the highest and the least forwards -/
/-- backwards: the lowest LEVEL of the place n - d from which LEVELS go on to the end; -1: none -/
noncomputable def zu_B (l h v : Nat → Int) (n : Nat) : Nat → Int
  | 0 => l n
  | d + 1 => if zu_B l h v n d = -1 then -1 else if h (n - 1 - d) < max (l (n - 1 - d)) (zu_B l h v n d - v (n - 1 - d)) then -1 else max (l (n - 1 - d)) (zu_B l h v n d - v (n - 1 - d))
theorem zu_B_y {l h v : Nat → Int} {n d : Nat} (q : ¬ zu_B l h v n d = -1) (w : ¬ h (n - 1 - d) < max (l (n - 1 - d)) (zu_B l h v n d - v (n - 1 - d))) : zu_B l h v n (d + 1) = max (l (n - 1 - d)) (zu_B l h v n d - v (n - 1 - d)) := by
  rw [zu_B, if_neg q, if_neg w]
theorem zu_B_n {l h v : Nat → Int} {n d : Nat} (q : zu_B l h v n d = -1 ∨ h (n - 1 - d) < max (l (n - 1 - d)) (zu_B l h v n d - v (n - 1 - d))) : zu_B l h v n (d + 1) = -1 := by
  rw [zu_B]
  by_cases w : zu_B l h v n d = -1
  · rw [if_pos w]
  · rw [if_neg w, if_pos (q.resolve_left w)]
theorem zu_B_st {l h v : Nat → Int} {n d : Nat} (q : zu_B l h v n d = -1) : ∀ e : Nat, zu_B l h v n (d + e) = -1
  | 0 => q
  | e + 1 => zu_B_n (Or.inl (zu_B_st q e))
theorem zu_B_m {l h v : Nat → Int} {n d e : Nat} (q : zu_B l h v n d = -1) (hd : d ≤ e) : zu_B l h v n e = -1 := by
  have w := zu_B_st q (e - d)
  rw [show d + (e - d) = e by omega] at w
  exact w
/-- forwards: the highest LEVEL of a place -/
noncomputable def zu_H (h v : Nat → Int) : Nat → Int
  | 0 => h 0
  | k + 1 => min (h (k + 1)) (zu_H h v k + v k)
/-- the least first LEVEL, and the last one, as the reference keeps them -/
noncomputable def zu_L (l v : Nat → Int) : Nat → Int
  | 0 => l 0
  | k + 1 => max (zu_L l v k) (l (k + 1) - zu_s v (k + 1))
noncomputable def zu_Z (h v : Nat → Int) : Nat → Int
  | 0 => 0
  | k + 1 => if k = 0 then h 1 else min (h (k + 1)) (zu_Z h v k + v k)
/-- as high as it goes from the first LEVEL -/
noncomputable def zu_U (h v : Nat → Int) (f : Int) : Nat → Int
  | 0 => f
  | k + 1 => min (h (k + 1)) (zu_U h v f k + v k)
theorem zu_U_Z {h v : Nat → Int} {f : Int} : ∀ k : Nat, zu_U h v f (k + 1) = min (zu_Z h v (k + 1)) (f + zu_s v (k + 1))
  | 0 => by
    show min (h 1) (f + v 0) = min (zu_Z h v 1) (f + (0 + v 0))
    rw [show zu_Z h v 1 = h 1 from rfl, Int.zero_add]
  | k + 1 => by
    have ih := zu_U_Z (h := h) (v := v) (f := f) k
    have e : zu_Z h v (k + 1 + 1) = min (h (k + 1 + 1)) (zu_Z h v (k + 1) + v (k + 1)) := by rw [zu_Z, if_neg (by omega)]
    rw [zu_U, ih, e, zu_s_s (n := k + 1)]
    omega
section ZUF
variable {l h v : Nat → Int} {n : Nat}
theorem zu_B_0 (hl : ∀ k, k ≤ n → 0 ≤ l k) : ∀ d : Nat, d ≤ n → zu_B l h v n d = -1 ∨ 0 ≤ zu_B l h v n d
  | 0, _ => Or.inr (hl n (Nat.le_refl n))
  | d + 1, hd => by
    by_cases q : zu_B l h v n d = -1 ∨ h (n - 1 - d) < max (l (n - 1 - d)) (zu_B l h v n d - v (n - 1 - d))
    · exact Or.inl (zu_B_n q)
    · have q1 : ¬ zu_B l h v n d = -1 := fun w => q (Or.inl w)
      have q2 : ¬ h (n - 1 - d) < max (l (n - 1 - d)) (zu_B l h v n d - v (n - 1 - d)) := fun w => q (Or.inr w)
      have w := hl (n - 1 - d) (by omega)
      refine Or.inr ?_
      rw [zu_B_y q1 q2]
      omega
/-- what stands in a row that goes on -/
theorem zu_B_i (hlh : ∀ k, k ≤ n → l k ≤ h k) (hB : ¬ zu_B l h v n n = -1) : ∀ k : Nat, k ≤ n → l k ≤ zu_B l h v n (n - k) ∧ zu_B l h v n (n - k) ≤ h k ∧ (k < n → zu_B l h v n (n - (k + 1)) ≤ zu_B l h v n (n - k) + v k) := fun k hk => by
  have hne : ∀ d, d ≤ n → ¬ zu_B l h v n d = -1 := fun d hd w => hB (zu_B_m w hd)
  by_cases e : k = n
  · subst e
    rw [Nat.sub_self]
    exact ⟨Int.le_refl _, hlh k hk, fun w => absurd w (Nat.lt_irrefl k)⟩
  · have h1 := hne (n - (k + 1)) (by omega)
    have h2 := hne (n - k) (by omega)
    have ek : n - 1 - (n - (k + 1)) = k := by omega
    have en : n - k = n - (k + 1) + 1 := by omega
    have w : ¬ h (n - 1 - (n - (k + 1))) < max (l (n - 1 - (n - (k + 1)))) (zu_B l h v n (n - (k + 1)) - v (n - 1 - (n - (k + 1)))) := fun w => h2 (by rw [en]; exact zu_B_n (Or.inr w))
    have e2 := zu_B_y h1 w
    rw [ek] at w e2
    rw [en, e2]
    refine ⟨by omega, by omega, fun _ => by omega⟩
theorem zu_BH (hlh : ∀ k, k ≤ n → l k ≤ h k) (hB : ¬ zu_B l h v n n = -1) : ∀ k : Nat, k ≤ n → zu_B l h v n (n - k) ≤ zu_H h v k
  | 0, hk => (zu_B_i hlh hB 0 hk).2.1
  | k + 1, hk => by
    have ih := zu_BH hlh hB k (by omega)
    have w1 := zu_B_i hlh hB k (by omega)
    have w2 := zu_B_i hlh hB (k + 1) hk
    have w3 := w1.2.2 (by omega)
    rw [zu_H]
    omega
theorem zu_HB (h0 : l 0 ≤ h 0) (hH : ∀ k, 1 ≤ k → k ≤ n → l k ≤ zu_H h v k) (hn : 1 ≤ n) (hl : ∀ k, k ≤ n → 0 ≤ l k) : ∀ d : Nat, d ≤ n → ¬ zu_B l h v n d = -1 ∧ zu_B l h v n d ≤ zu_H h v (n - d)
  | 0, _ => ⟨fun w => by
      have w1 := hl n (Nat.le_refl n)
      have w2 : zu_B l h v n 0 = l n := rfl
      omega, hH n hn (Nat.le_refl n)⟩
  | d + 1, hd => by
    obtain ⟨ih1, ih2⟩ := zu_HB h0 hH hn hl d (by omega)
    have en : n - d = (n - 1 - d) + 1 := by omega
    rw [en, zu_H] at ih2
    have hk : l (n - 1 - d) ≤ zu_H h v (n - 1 - d) := by
      by_cases e : n - 1 - d = 0
      · rw [e]
        exact h0
      · exact hH _ (by omega) (by omega)
    have hh : zu_H h v (n - 1 - d) ≤ h (n - 1 - d) := by
      cases e : n - 1 - d with
      | zero => exact Int.le_refl _
      | succ m => rw [zu_H]; omega
    have w : ¬ h (n - 1 - d) < max (l (n - 1 - d)) (zu_B l h v n d - v (n - 1 - d)) := by omega
    have e2 := zu_B_y ih1 w
    have l0 := hl (n - 1 - d) (by omega)
    rw [e2, show n - (d + 1) = n - 1 - d by omega]
    exact ⟨by omega, by omega⟩
/-- both ways find the same first LEVEL -/
theorem zu_BL (hB : ¬ zu_B l h v n n = -1) : ∀ k : Nat, k ≤ n → max (zu_L l v (n - k)) (zu_B l h v n k - zu_s v (n - k)) = zu_L l v n
  | 0, _ => by
    show max (zu_L l v n) (l n - zu_s v n) = zu_L l v n
    cases n with
    | zero =>
      show max (l 0) (l 0 - 0) = l 0
      omega
    | succ m =>
      rw [zu_L]
      omega
  | k + 1, hk => by
    have ih := zu_BL hB k (by omega)
    have h1 : ¬ zu_B l h v n k = -1 := fun w => hB (zu_B_m w (by omega))
    have h2 : ¬ zu_B l h v n (k + 1) = -1 := fun w => hB (zu_B_m w hk)
    have w : ¬ h (n - 1 - k) < max (l (n - 1 - k)) (zu_B l h v n k - v (n - 1 - k)) := fun w => h2 (zu_B_n (Or.inr w))
    have e2 := zu_B_y h1 w
    have en : n - k = (n - 1 - k) + 1 := by omega
    have hlk : l (n - 1 - k + 1) ≤ zu_B l h v n k := by
      cases k with
      | zero =>
        rw [show n - 1 - 0 + 1 = n by omega]
        exact Int.le_refl _
      | succ j =>
        have h3 : ¬ zu_B l h v n j = -1 := fun w => hB (zu_B_m w (by omega))
        have w3 : ¬ h (n - 1 - j) < max (l (n - 1 - j)) (zu_B l h v n j - v (n - 1 - j)) := fun w => h1 (zu_B_n (Or.inr w))
        rw [zu_B_y h3 w3, show n - 1 - (j + 1) + 1 = n - 1 - j by omega]
        omega
    have hT : l (n - 1 - k) - zu_s v (n - 1 - k) ≤ zu_L l v (n - 1 - k) := by
      cases e : n - 1 - k with
      | zero =>
        show l 0 - 0 ≤ l 0
        omega
      | succ m =>
        rw [zu_L]
        omega
    rw [en, zu_L, zu_s_s] at ih
    rw [e2, show n - (k + 1) = n - 1 - k by omega]
    omega
theorem zu_BT (hn : 1 ≤ n) (hB : ¬ zu_B l h v n n = -1) (hlh : ∀ k, k ≤ n → l k ≤ h k) : zu_B l h v n n = zu_L l v n := by
  have w := zu_BL hB n (Nat.le_refl n)
  have w2 := (zu_B_i hlh hB 0 (by omega)).1
  rw [Nat.sub_self] at w
  rw [Nat.sub_zero] at w2
  have w3 : zu_L l v 0 = l 0 := rfl
  have w4 : zu_s v 0 = 0 := rfl
  omega
end ZUF
/-- SUMS, the class: by what it is asked -/
noncomputable def zu_X (l h v : Nat → Int) (n : Nat) (w : Int) : Int := if zu_B l h v n n = -1 then -3 else if w = 0 then zu_s v n + zu_B l h v n n - zu_U h v (zu_B l h v n n) n else zu_s v n + h 0 - l n
/-- SUMS, the reference -/
noncomputable def zu_ok (l h v : Nat → Int) (n : Nat) : Prop := ∀ k : Nat, 1 ≤ k → k ≤ n → l k ≤ zu_H h v k
theorem zu_XY {l h v : Nat → Int} {n : Nat} {w r : Int} (hn : 1 ≤ n) (hl : ∀ k, k ≤ n → 0 ≤ l k) (hlh : ∀ k, k ≤ n → l k ≤ h k) (hw : w = 0 ∨ w = 1) (hr : (¬ zu_ok l h v n ∧ r = -3) ∨ (zu_ok l h v n ∧ ((w = 1 ∧ r = zu_s v n + h 0 - l n) ∨ (w = 0 ∧ r = max 0 (zu_s v n + zu_L l v n - zu_Z h v n))))) : zu_X l h v n w = r := by
  unfold zu_X
  by_cases hB : zu_B l h v n n = -1
  · rw [if_pos hB]
    rcases hr with ⟨_, q⟩ | ⟨q, _⟩
    · exact q.symm
    · exact absurd hB (zu_HB (hlh 0 (by omega)) q hn hl n (Nat.le_refl n)).1
  · rw [if_neg hB]
    have hok : zu_ok l h v n := fun k h1 hk => by
      have w1 := zu_BH hlh hB k hk
      have w2 := (zu_B_i hlh hB k hk).1
      omega
    rcases hr with ⟨q, _⟩ | ⟨_, ⟨q, e⟩ | ⟨q, e⟩⟩
    · exact absurd hok q
    · rw [if_neg (by omega), e]
    · obtain ⟨m, rfl⟩ : ∃ m, n = m + 1 := ⟨n - 1, by omega⟩
      rw [if_pos q, e, zu_U_Z, ← zu_BT hn hB hlh]
      omega
theorem zu_s_sh {f g : Nat → Int} {i : Nat} (e : ∀ k, g k = f (i + k)) : ∀ n : Nat, zu_s g n = zu_s f (i + n) - zu_s f i
  | 0 => by
    show (0 : Int) = zu_s f i - zu_s f i
    omega
  | n + 1 => by
    rw [zu_s, zu_s_sh e n, e n, show i + (n + 1) = i + n + 1 from rfl, zu_s]
    omega
/-! the rows low, high, in alone are written -/
noncomputable def zu_q (K I : z_I) : Prop := zu_k K I ∧ ∀ a j : Nat, a < 100 → K a j = I a j
theorem zu_q_0 {I : z_I} : zu_q I I := ⟨zu_k_0, fun _ _ _ => rfl⟩
theorem zu_q_t {K I I0 : z_I} (h1 : zu_q K I) (h2 : zu_q I I0) : zu_q K I0 := ⟨zu_k_t h1.1 h2.1, fun a j ha => (h1.2 a j ha).trans (h2.2 a j ha)⟩
theorem zu_q_a {K I I0 : z_I} {r i j : Nat} {v : Int32} (h : zu_q I I0) (hi : 5 ≤ i ∧ i ≤ 7) (hr : r < 10) (e : K = z_up I (100 + 8 * r + i) j v) : zu_q K I0 := ⟨zu_k_a h.1 hi hr e, fun a k ha => by
  rw [e, z_up_n (by omega)]
  exact h.2 a k ha⟩
noncomputable def zu_do (c : z_C) (I : z_I) (k j : Nat) : Int := zb_ax c I 4 ((I (100 + 8 * k + 2) j).toInt / 30) (I 0 0).toInt
noncomputable def zu_lo (c : z_C) (I : z_I) (k j : Nat) : Int := max 0 ((I (100 + 8 * k + 1) j).toInt - zu_do c I k j)
noncomputable def zu_hi (c : z_C) (I : z_I) (k j : Nat) : Int := (I (100 + 8 * k + 1) j).toInt + zu_do c I k j
section ZUQ
variable {c : z_C} {K I : z_I} {k j : Nat}
theorem zu_do_q (h : zu_q K I) (hk : k < 10) : zu_do c K k j = zu_do c I k j := by
  unfold zu_do
  rw [h.1.2 k 2 j hk (by decide) (by decide), h.2 0 0 (by decide), zb_ax_c (fun a q ha => h.1.1.2 a q ha)]
theorem zu_f_q (h : zu_q K I) {s : Int} : zu_f K s = zu_f I s := funext fun p => by
  unfold zu_f
  rw [h.2 31 p (by decide), h.2 36 p (by decide), h.2 35 p (by decide)]
theorem zu_I_q (h : zu_q K I) (hk : k < 10) {s : Int} : zu_I c K k s j = zu_I c I k s j := by
  unfold zu_I
  rw [zu_f_q h, h.1.2 k 3 (j + 1) hk (by decide) (by decide), h.1.2 k 3 j hk (by decide) (by decide), h.1.2 k 4 (j + 1) hk (by decide) (by decide), h.1.2 k 4 j hk (by decide) (by decide), h.1.2 k 2 (j + 1) hk (by decide) (by decide), h.1.2 k 2 j hk (by decide) (by decide), h.2 0 0 (by decide), zb_ax_c (fun a q ha => h.1.1.2 a q ha)]
theorem zu_D_q (h : zu_q K I) (hk : k < 10) (d : zu_D I k) : zu_D K k := fun i hi => by
  rw [h.1.1.1 k 4 hk] at hi
  rw [h.1.2 k 1 i hk (by decide) (by decide), h.1.2 k 2 i hk (by decide) (by decide), h.1.2 k 3 i hk (by decide) (by decide), h.1.2 k 4 i hk (by decide) (by decide), h.2 30 8 (by decide)]
  exact d i hi
theorem zu_M_q (h : zu_q K I) (hk : k < 10) (d : zu_M I k) : zu_M K k := fun i hi => by
  rw [h.1.1.1 k 4 hk] at hi
  rw [h.1.2 k 4 i hk (by decide) (by decide), h.1.2 k 4 (i + 1) hk (by decide) (by decide)]
  exact d i hi
theorem zu_ab_q (h : zu_q K I) (d : ∀ (t : Int) (q : Nat), 0 ≤ t → q < c.2.1 → 0 ≤ zi_ax c I t q ∧ zi_ax c I t q ≤ 999999) : ∀ (t : Int) (q : Nat), 0 ≤ t → q < c.2.1 → 0 ≤ zi_ax c K t q ∧ zi_ax c K t q ≤ 999999 := fun t q ht hq => by
  have e4 : zi_hd K (200 + 5 * q) = zi_hd I (200 + 5 * q) := funext fun i => by unfold zi_hd; rw [h.1.1.2 _ _ (by omega)]
  have e5 : zi_nu K (200 + 5 * q) = zi_nu I (200 + 5 * q) := funext fun i => by unfold zi_nu; rw [h.1.1.2 _ _ (by omega)]
  have e6 : zi_ax c K t q = zi_ax c I t q := by
    unfold zi_ax
    rw [e4, e5]
  rw [e6]
  exact d t q ht hq
theorem zu_Te_q (h : zu_q K I) (d : ∀ p : Nat, (p : Int) < (I 30 8).toInt → 0 ≤ (I 35 p).toInt ∧ (I 35 p).toInt ≤ 999999) : ∀ p : Nat, (p : Int) < (K 30 8).toInt → 0 ≤ (K 35 p).toInt ∧ (K 35 p).toInt ≤ 999999 := fun p hp => by
  rw [h.2 30 8 (by decide)] at hp
  rw [h.2 35 p (by decide)]
  exact d p hp
theorem zu_on_q (h : zu_q K I) (d : (I 21 2).toInt = (c.2.1 : Int)) : (K 21 2).toInt = (c.2.1 : Int) := by
  rw [h.2 21 2 (by decide)]
  exact d
theorem zu_mo_q (h : zu_q K I) (d : ∀ j, j < c.2.1 → 0 ≤ (I (200 + 5 * j) 0).toInt) : ∀ j, j < c.2.1 → 0 ≤ (K (200 + 5 * j) 0).toInt := fun i hi => by
  rw [h.1.1.2 (200 + 5 * i) 0 (by omega)]
  exact d i hi
/-- what is laid in the places from a to b (in: ahead of e) -/
noncomputable def zu_P (c : z_C) (I K : z_I) (k : Nat) (s : Int) (a b e : Nat) : Prop := ∀ m : Nat, a ≤ m → m < b → (K (100 + 8 * k + 5) m).toInt = zu_lo c I k m ∧ (K (100 + 8 * k + 6) m).toInt = zu_hi c I k m ∧ (m < e → (K (100 + 8 * k + 7) m).toInt = zu_I c I k s m ∧ -1100000000 ≤ zu_I c I k s m ∧ zu_I c I k s m ≤ 1100000000)
theorem zu_P_0 {s : Int} {a e : Nat} : zu_P c I K k s a a e := fun m h1 h2 => absurd h2 (by omega)
theorem zu_P_s {s : Int} {a e y : Nat} {v5 v6 v7 : Int32} {K1 K2 K3 : z_I} (h : zu_P c I K k s a y e) (e1 : K1 = z_up K (100 + 8 * k + 5) y v5) (e2 : K2 = z_up K1 (100 + 8 * k + 6) y v6) (e3 : K3 = z_up K2 (100 + 8 * k + 7) y v7) (h5 : v5.toInt = zu_lo c I k y) (h6 : v6.toInt = zu_hi c I k y) (h7 : y < e → v7.toInt = zu_I c I k s y ∧ -1100000000 ≤ zu_I c I k s y ∧ zu_I c I k s y ≤ 1100000000) : zu_P c I K3 k s a (y + 1) e := fun m h1 h2 => by
  by_cases q : m = y
  · rw [q]
    refine ⟨?_, ?_, fun w => ?_⟩
    · rw [e3, z_up_n (by omega), e2, z_up_n (by omega), e1, z_up_s]
      exact h5
    · rw [e3, z_up_n (by omega), e2, z_up_s]
      exact h6
    · rw [e3, z_up_s]
      exact h7 w
  · obtain ⟨g1, g2, g3⟩ := h m h1 (by omega)
    refine ⟨?_, ?_, fun w => ?_⟩
    · rw [e3, z_up_n (by omega), e2, z_up_n (by omega), e1, z_up_k q]
      exact g1
    · rw [e3, z_up_n (by omega), e2, z_up_k q, e1, z_up_n (by omega)]
      exact g2
    · rw [e3, z_up_k q, e2, z_up_n (by omega), e1, z_up_n (by omega)]
      exact g3 w
end ZUQ
/-! the rows from the place a on -/
noncomputable def zu_rl (I : z_I) (k a m : Nat) : Int := (I (100 + 8 * k + 5) (a + m)).toInt
noncomputable def zu_rh (I : z_I) (k a m : Nat) : Int := (I (100 + 8 * k + 6) (a + m)).toInt
noncomputable def zu_rv (I : z_I) (k a m : Nat) : Int := (I (100 + 8 * k + 7) (a + m)).toInt
noncomputable def zu_gb (I : z_I) (k a n : Nat) : Prop := ∀ m : Nat, m ≤ n → (0 ≤ zu_rl I k a m ∧ zu_rl I k a m ≤ 200000) ∧ (zu_rl I k a m ≤ zu_rh I k a m ∧ zu_rh I k a m ≤ 1199999) ∧ (m < n → -1100000000 ≤ zu_rv I k a m ∧ zu_rv I k a m ≤ 1100000000)
theorem zu_B_up {l h v : Nat → Int} {n d : Nat} {b x y z w : Int} (hb : zu_B l h v n d = b) (h0 : 0 ≤ b) (el : l (n - 1 - d) = x) (ev : v (n - 1 - d) = y) (eh : h (n - 1 - d) = z) (e : w = max x (b - y)) : (w ≤ z → zu_B l h v n (d + 1) = w) ∧ (z < w → zu_B l h v n (d + 1) = -1) := by
  refine ⟨fun q => ?_, fun q => ?_⟩
  · rw [zu_B_y (by omega) (by rw [el, ev, eh, hb]; omega), el, ev, hb, e]
  · exact zu_B_n (Or.inr (by rw [el, ev, eh, hb]; omega))
theorem zu_B_g {I : z_I} {k a n : Nat} (hg : zu_gb I k a n) : zu_B (zu_rl I k a) (zu_rh I k a) (zu_rv I k a) n n = -1 ∨ (0 ≤ zu_B (zu_rl I k a) (zu_rh I k a) (zu_rv I k a) n n ∧ zu_B (zu_rl I k a) (zu_rh I k a) (zu_rv I k a) n n ≤ 1199999) := by
  by_cases q : zu_B (zu_rl I k a) (zu_rh I k a) (zu_rv I k a) n n = -1
  · exact Or.inl q
  · have w := zu_B_i (l := zu_rl I k a) (h := zu_rh I k a) (v := zu_rv I k a) (fun m hm => (hg m hm).2.1.1) q 0 (Nat.zero_le n)
    have g := hg 0 (Nat.zero_le n)
    rw [Nat.sub_zero] at w
    exact Or.inr ⟨by omega, by omega⟩
/-! what SUMS rest on, as they are told -/
noncomputable def zu_cl (c : z_C) (I : z_I) (k a m : Nat) : Int := zu_lo c I k (a + m)
noncomputable def zu_ch (c : z_C) (I : z_I) (k a m : Nat) : Int := zu_hi c I k (a + m)
noncomputable def zu_cv (c : z_C) (I : z_I) (k : Nat) (s : Int) (a m : Nat) : Int := zu_I c I k s (a + m)
theorem zu_do_b {c : z_C} {I : z_I} {k j : Nat} (hab : ∀ (t : Int) (q : Nat), 0 ≤ t → q < c.2.1 → 0 ≤ zi_ax c I t q ∧ zi_ax c I t q ≤ 999999) : 0 ≤ zu_do c I k j ∧ zu_do c I k j ≤ 999999 := by
  unfold zu_do
  obtain ⟨r, hr⟩ := zu_R_ex (mo := zi_mo I) (td := zi_td I) (m := (I (100 + 8 * k + 2) j).toInt / 30) (k := (I 0 0).toInt) (n := c.2.1) (u := zi_us 4) (a := zi_ax c I 4)
  have e : r = zb_ax c I 4 ((I (100 + 8 * k + 2) j).toInt / 30) (I 0 0).toInt := zb_f_e hr
  rw [← e]
  exact zu_R_b hr (fun q hq => hab 4 q (by decide) hq)
theorem zu_g_P {c : z_C} {I K : z_I} {k a b : Nat} {s : Int} (hP : zu_P c I K k s a (b + 1) b) (hD : zu_D I k) (hab : ∀ (t : Int) (q : Nat), 0 ≤ t → q < c.2.1 → 0 ≤ zi_ax c I t q ∧ zi_ax c I t q ≤ 999999) (h1 : a < b) (h2 : (b : Int) < (I (100 + 8 * k) 4).toInt) : zu_gb K k a (b - a) := fun m hm => by
  obtain ⟨g1, g2, g3⟩ := hP (a + m) (by omega) (by omega)
  have d := hD (a + m) (by omega)
  have w := zu_do_b (k := k) (j := a + m) hab
  unfold zu_rl zu_rh zu_rv
  rw [g1, g2]
  unfold zu_lo zu_hi
  refine ⟨⟨by omega, by omega⟩, ⟨by omega, by omega⟩, fun q => ?_⟩
  obtain ⟨e1, e2⟩ := g3 (by omega)
  rw [e1]
  exact e2
theorem zu_B_c {l h v l1 h1 v1 : Nat → Int} {n : Nat} (hl : ∀ m, m ≤ n → l1 m = l m) (hh : ∀ m, m ≤ n → h1 m = h m) (hv : ∀ m, m < n → v1 m = v m) : ∀ d : Nat, d ≤ n → zu_B l1 h1 v1 n d = zu_B l h v n d
  | 0, _ => hl n (Nat.le_refl n)
  | d + 1, hd => by
    rw [zu_B, zu_B, zu_B_c hl hh hv d (by omega), hl (n - 1 - d) (by omega), hh (n - 1 - d) (by omega), hv (n - 1 - d) (by omega)]
theorem zu_U_c {h v h1 v1 : Nat → Int} {n : Nat} {f : Int} (hh : ∀ m, m ≤ n → h1 m = h m) (hv : ∀ m, m < n → v1 m = v m) : ∀ d : Nat, d ≤ n → zu_U h1 v1 f d = zu_U h v f d
  | 0, _ => rfl
  | d + 1, hd => by rw [zu_U, zu_U, zu_U_c hh hv d (by omega), hh (d + 1) hd, hv d (by omega)]
theorem zu_X_c {l h v l1 h1 v1 : Nat → Int} {n : Nat} {w : Int} (hl : ∀ m, m ≤ n → l1 m = l m) (hh : ∀ m, m ≤ n → h1 m = h m) (hv : ∀ m, m < n → v1 m = v m) : zu_X l1 h1 v1 n w = zu_X l h v n w := by
  unfold zu_X
  rw [zu_B_c hl hh hv n (Nat.le_refl n), zu_U_c hh hv n (Nat.le_refl n), zu_s_c n hv, hh 0 (Nat.zero_le n), hl n (Nat.le_refl n)]
theorem zu_X_P {c : z_C} {I K : z_I} {k a b : Nat} {s w : Int} (hP : zu_P c I K k s a (b + 1) b) (h1 : a < b) : zu_X (zu_rl K k a) (zu_rh K k a) (zu_rv K k a) (b - a) w = zu_X (zu_cl c I k a) (zu_ch c I k a) (zu_cv c I k s a) (b - a) w :=
  zu_X_c (fun m hm => (hP (a + m) (by omega) (by omega)).1) (fun m hm => (hP (a + m) (by omega) (by omega)).2.1) (fun m hm => ((hP (a + m) (by omega) (by omega)).2.2 (by omega)).1)
/-! the reference's -/
noncomputable def zu_md (I : z_I) (p : Nat) : Int := zb_am I 4 ((I 49 p).toInt / 30) (I 0 0).toInt
noncomputable def zu_ml (I : z_I) (p : Nat) : Int := max 0 ((I 48 p).toInt - zu_md I p)
noncomputable def zu_mh (I : z_I) (p : Nat) : Int := (I 48 p).toInt + zu_md I p
noncomputable def zu_kl (I : z_I) (s a m : Nat) : Int := zu_ml I (30 * s + (a + m))
noncomputable def zu_kh (I : z_I) (s a m : Nat) : Int := zu_mh I (30 * s + (a + m))
noncomputable def zu_kv (I : z_I) (s a m : Nat) : Int := zu_J I s (a + m)
theorem zu_Z_s {h v : Nat → Int} {k : Nat} : zu_Z h v (k + 1) = if k = 0 then h (k + 1) else min (h (k + 1)) (zu_Z h v k + v k) := by
  rw [zu_Z]
  by_cases q : k = 0
  · rw [if_pos q, if_pos q, q]
  · rw [if_neg q, if_neg q]
noncomputable def zu_Y (l h v : Nat → Int) (n : Nat) (w r : Int) : Prop := (¬ zu_ok l h v n ∧ r = -3) ∨ (zu_ok l h v n ∧ ((w = 1 ∧ r = zu_s v n + h 0 - l n) ∨ (w = 0 ∧ r = max 0 (zu_s v n + zu_L l v n - zu_Z h v n))))
/-- both are told the same -/
theorem zu_XM {c : z_C} {Ix Im : z_I} {q : Int} {s a b : Nat} {w r : Int} (h : zu_T Ix Im q) (hS : z_RS Ix Im) (hP : z_RP Ix Im) (hO : z_OW c Ix Im) (hn : (Im 0 13).toNatClampNeg = c.2.1) (hN : (Im 0 55).toInt = (Ix 30 8).toInt) (hN0 : 0 ≤ (Ix 30 8).toInt) (hT : (Im 0 0).toInt = (Ix 0 0).toInt) (hg : z_rg 43 0 30 Im) (hs : s < 10) (hab : a < b) (hb : (b : Int) < (Im 47 s).toInt) (hw : w = 0 ∨ w = 1) (hr : zu_Y (zu_kl Im s a) (zu_kh Im s a) (zu_kv Im s a) (b - a) w r) : zu_X (zu_cl c Ix s a) (zu_ch c Ix s a) (zu_cv c Ix s (s : Int) a) (b - a) w = r := by
  have hd : ∀ j : Nat, (j : Int) < (Im 47 s).toInt → zu_do c Ix s j = zu_md Im (30 * s + j) ∧ (Ix (100 + 8 * s + 1) j).toInt = (Im 48 (30 * s + j)).toInt ∧ 0 ≤ (Im 48 (30 * s + j)).toInt ∧ 0 ≤ zu_md Im (30 * s + j) := fun j hj => by
    obtain ⟨_, _, b3, _⟩ := h.2.2 s hs
    obtain ⟨⟨d1, d2⟩, _, d4, _⟩ := b3 j hj
    have e : zu_do c Ix s j = zu_md Im (30 * s + j) := by
      unfold zu_do zu_md
      rw [d1, hT, zb_a_e hO hn (by decide)]
    have g := zu_ax_b (m := (Ix (100 + 8 * s + 2) j).toInt / 30) (k := (Ix 0 0).toInt) hO (t := 4) (by decide)
    have e2 : zu_do c Ix s j = zb_ax c Ix 4 ((Ix (100 + 8 * s + 2) j).toInt / 30) (Ix 0 0).toInt := rfl
    exact ⟨e, congrArg Int32.toInt d2, d4.1, by rw [← e, e2]; exact g.1⟩
  have hl : ∀ m, m ≤ b - a → zu_cl c Ix s a m = zu_kl Im s a m := fun m hm => by
    obtain ⟨e1, e2, _⟩ := hd (a + m) (by omega)
    unfold zu_cl zu_kl zu_lo zu_ml
    rw [e1, e2]
  have hh : ∀ m, m ≤ b - a → zu_ch c Ix s a m = zu_kh Im s a m := fun m hm => by
    obtain ⟨e1, e2, _⟩ := hd (a + m) (by omega)
    unfold zu_ch zu_kh zu_hi zu_mh
    rw [e1, e2]
  have hv : ∀ m, m < b - a → zu_cv c Ix s (s : Int) a m = zu_kv Im s a m := fun m hm => by
    unfold zu_cv zu_kv
    exact zu_IJ h hP hO hn hN hN0 hT hg hs (by omega)
  rw [zu_X_c hl hh hv]
  refine zu_XY (by omega) (fun m hm => ?_) (fun m hm => ?_) hw hr
  · unfold zu_kl zu_ml
    omega
  · obtain ⟨_, _, e3, e4⟩ := hd (a + m) (by omega)
    unfold zu_kl zu_kh zu_ml zu_mh
    omega
noncomputable def L_X11_putBounds_u : z_L := [(1000, 999)]
set_option maxHeartbeats 8000000 in
set_option maxRecDepth 100000 in
theorem sx_X11_putBounds_u (l : Launch) (G : z_G) (ad : Nat → Nat) (c : z_C) (I : z_I) (hO : z_iO I) (hB : z_iB I) (hP : z_iP I) (k : Nat) (a2 : Int32) (a3 : Int32) (a4 : Int32) (hk : k < c.1) (hc : z_okc c) (h10 : c.1 ≤ 10) (hon : (I 21 2).toInt = (c.2.1 : Int)) (hmo : ∀ j, j < c.2.1 → 0 ≤ (I (200 + 5 * j) 0).toInt) (hab : ∀ (t : Int) (q : Nat), 0 ≤ t → q < c.2.1 → 0 ≤ zi_ax c I t q ∧ zi_ax c I t q ≤ 999999) (hTe : ∀ p : Nat, (p : Int) < (I 30 8).toInt → 0 ≤ (I 35 p).toInt ∧ (I 35 p).toInt ≤ 999999) (hD : zu_D I k) (hM : zu_M I k) (q3 : 0 ≤ a3.toInt ∧ a3.toInt < a4.toInt) (q4 : a4.toInt < (I (100 + 8 * k) 4).toInt) (hS0 : z_iS c I) : z_MvS l yX11_putBounds wsX11_putBounds { frames := 5, cells := 0, slots := 0, locals := 111 } [.ref (ad 0), .ref (ad (100 + 8 * k)), .int a2, .int a3, .int a4] G (shC c, ad, I, JX, PC c ad) (fun u1 => ∃ I1 : z_I, u1 = (shC c, ad, I1, JX, PC c ad) ∧ z_iO I1 ∧ z_iB I1 ∧ z_iP I1 ∧ z_fr L_X11_putBounds_u I1 I ∧ z_iS c I1 ∧ zu_q I1 I ∧ zu_P c I I1 k a2.toInt a3.toNatClampNeg (a4.toNatClampNeg + 1) a4.toNatClampNeg) 0 0 := by
  intro sz
  refine z_headS (cc := cX11_putBounds) (maxL := 7) (ret := none) (by decide) rfl (Nat.le_of_ble_eq_true rfl) ?_
  intro p e s m below meth c0 ls hIn hK hsz hW hl hSt
  obtain ⟨hx, hb, hr, hml, hown, hts, hlocks, hname⟩ := hIn
  subst hsz
  have hown : s.vm.findClass RX11 = some m.cls := hown
  have hA : ∀ q : Nat, s.heap.size ≤ q → z_A (shC c, ad, I, JX, PC c ad) s.heap.size q := fun q h => Or.inr h
  generalize hAe : z_A (shC c, ad, I, JX, PC c ad) s.heap.size = A at *
  have hS : va_S A s.heap s.heap [] := va_S.rf
  have hl : lv_has ls 7 [(0, .ref (ad 0)), (1, .ref (ad (100 + 8 * k))), (2, .int a2), (3, .int a3), (4, .int a4)] := hl
  have s9 : 0 ≤ (I (100 + 8 * k) 4).toInt ∧ (I (100 + 8 * k) 4).toInt ≤ 30 := hS0 k hk
  refine lv_iload_n hx hb dX11_putBounds_0 rfl (lv_at hl 3 rfl) ?_
  refine lv_iconst (v := 0) hx hb dX11_putBounds_1 (by decide) ?_
  refine va_mmax (x := a3) (y := 0) hx hb (hml.trans hl.1.symm) hown (hts (.methodLink RX11 274 Lib.Math.max.name) (me_s (me_l (me_l (me_l (me_l (me_l (me_l (List.mem_of_getElem? (i := 0) rfl))))))))) (hts (.static Lib.Math.max.name) (me_s (me_l (me_l (me_l (me_l (me_l (me_l (List.mem_of_getElem? (i := 1) rfl))))))))) (hts (.initialized "java/lang/Math") (me_s (me_l (me_l (me_l (me_l (me_l (me_l (List.mem_of_getElem? (i := 2) rfl))))))))) (hts (.code Lib.Math.max.name Lib.Math.max.code 2 (some .int)) (me_s (me_l (me_l (me_l (me_l (me_l (me_l (List.mem_of_getElem? (i := 3) rfl))))))))) (Nat.le_of_ble_eq_true rfl) (Nat.le_of_ble_eq_true rfl) (Nat.le_of_ble_eq_true rfl) (Nat.le_of_ble_eq_true rfl) dX11_putBounds_2 ?_
  refine lv_topi (fun x1 ex1 => ?_)
  have tx1 := z_tmmax ex1 rfl z_l0
  refine lv_istore (lv' := [(5, .int x1), (0, .ref (ad 0)), (1, .ref (ad (100 + 8 * k))), (2, .int a2), (3, .int a3), (4, .int a4)]) hx hb dX11_putBounds_5 hl (by decide) rfl (fun ls hl => ?_)
  have lp2 : ∀ (f : Nat) (y3 : Int32) (I4 : z_I) (H : Heap) (locs : List Loc) (ls : Array Slot), (2147483647 < y3.toInt + (f : Int)) → (0 ≤ y3.toInt) → (z_iO I4) → (z_iB I4) → (z_iP I4) → (x1.toInt ≤ y3.toInt) → (zu_P c I I4 k a2.toInt a3.toNatClampNeg y3.toNatClampNeg a4.toNatClampNeg ∧ y3.toInt ≤ a4.toInt + 1) → (z_iS c I4) → (zu_q I4 I) → (z_fr L_X11_putBounds_u I4 I) → z_W G A (shC c, ad, I4, JX, PC c ad) H → va_S A s.heap H locs → lv_has ls 7 [(5, .int y3), (0, .ref (ad 0)), (1, .ref (ad (100 + 8 * k))), (2, .int a2), (3, .int a3), (4, .int a4)] → W p l e (headSpec wsX11_putBounds { frames := 5, cells := 0, slots := 0, locals := 111 }).room s m ([.ref (ad 0), .ref (ad (100 + 8 * k)), .int a2, .int a3, .int a4] : List Value).toArray below meth c0 H locs 0 0 (MQ below (va_Qv (fun (u1 : z_U) => ∃ I1 : z_I, u1 = (shC c, ad, I1, JX, PC c ad) ∧ z_iO I1 ∧ z_iB I1 ∧ z_iP I1 ∧ z_fr L_X11_putBounds_u I1 I ∧ z_iS c I1 ∧ zu_q I1 I ∧ zu_P c I I1 k a2.toInt a3.toNatClampNeg (a4.toNatClampNeg + 1) a4.toNatClampNeg) (z_B G A) A) ([.ref (ad 0), .ref (ad (100 + 8 * k)), .int a2, .int a3, .int a4] : List Value).toArray s 0 0 A) (F0 m 7 ls []) := by
    intro f
    induction f with
    | zero => intro y3 I4  H locs ls lp2m lp2l5 lp2O lp2B lp2P lp2z lp2Q lp2S lp2SS lp2fr hW hS hl; exact absurd lp2m (by have := Int32.toInt_lt y3; have := Int32.le_toInt y3; omega)
    | succ f lp2ih =>
      intro y3 I4  H locs ls lp2m lp2l5 lp2O lp2B lp2P lp2z lp2Q lp2S lp2SS lp2fr hW hS hl
      refine lv_iload hx hb dX11_putBounds_7 (lv_at hl 0 rfl) ?_
      refine lv_iload hx hb dX11_putBounds_9 (lv_at hl 5 rfl) ?_
      refine lv_icmp_gt (tgt := 115) hx hb dX11_putBounds_11 (by decide) (fun c5 => ?_) (fun c5 => ?_)
      · have g6 := z_f_gt rfl rfl c5
        have b7 := Int32.toInt_lt y3
        exact z_vret hx hb hr hK hS (Nat.le_of_ble_eq_true rfl) (Nat.le_of_ble_eq_true rfl) hlocks dX11_putBounds_115 (shC c, ad, I4, JX, PC c ad) hW ⟨I4, rfl, (by show 0 ≤ (I4 21 2).toInt ∧ (I4 21 2).toInt ≤ 12; exact lp2O), ⟨(by show 0 ≤ (I4 0 0).toInt ∧ (I4 0 0).toInt ≤ 719; exact lp2B.1), (by show 0 ≤ (I4 0 8).toInt ∧ (I4 0 8).toInt ≤ 10; exact lp2B.2)⟩, (by show 0 ≤ (I4 30 8).toInt ∧ (I4 30 8).toInt ≤ 300; exact lp2P), lp2fr, lp2S, ⟨lp2SS, (by have c9 := z_clt (x := y3) rfl (by omega); have c8 := z_clt (x := a4) rfl (by omega); first | (rw [show a4.toNatClampNeg + 1 = y3.toNatClampNeg by omega]; exact lp2Q.1) | (exfalso; omega))⟩⟩
      · have g8 := z_f_ngt rfl rfl c5
        have b9 := Int32.toInt_lt y3
        refine lv_iload hx hb dX11_putBounds_14 (lv_at hl 0 rfl) ?_
        refine lv_bipush (v := 30) hx hb dX11_putBounds_16 (by decide) ?_
        refine lv_icmp_ge (tgt := 115) hx hb dX11_putBounds_18 (by decide) (fun c10 => (by have g := z_f_ge rfl z_l30 c10; omega)) (fun c10 => ?_)
        have g11 := z_f_nge rfl z_l30 c10
        have c9 := z_clt (x := y3) rfl (by omega)
        have d9 := hD y3.toNatClampNeg (by omega)
        refine lv_aload_n hx hb dX11_putBounds_21 rfl (lv_at hl 1 rfl) ?_
        refine z_get (T := TX11) (N := 13) (ci := 11) (i := 0) (v := .ref (ad 21)) hx hb hts zj_X11_putBounds_X11 hown hK hW rfl rfl 4 (by decide) (hts (.fieldLink RX11 30 "PetrolBoard" "orderBook" "LPetrolBoard$OrderBook;") (me_s (me_l (me_l (me_l (me_l (me_l (me_l (List.mem_of_getElem? (i := 4) rfl))))))))) (fun _ h => h) rfl dX11_putBounds_22 ?_
        refine lv_iconst (v := 4) hx hb dX11_putBounds_25 (by decide) ?_
        refine lv_aload_n hx hb dX11_putBounds_26 rfl (lv_at hl 2 rfl) ?_
        refine z_get (T := TX10) (N := 10) (ci := 10) (i := (100 + 8 * k)) (v := .ref (ad (100 + 8 * k + 2))) hx hb hts zj_X11_putBounds_X10 hown hK hW (z_ss0 hk h10) rfl 1 (by decide) (hts (.fieldLink RX11 246 "PetrolBoard$Station" "dipDay" "[I") (me_s (me_l (me_l (me_l (me_l (me_l (me_l (List.mem_of_getElem? (i := 5) rfl))))))))) (fun _ h => h) (z_pS hk h10 rfl rfl) dX11_putBounds_27 ?_
        refine lv_iload hx hb dX11_putBounds_30 (lv_at hl 0 rfl) ?_
        refine z_iald (i := (100 + 8 * k + 2)) hx hb hK hW (z_ssj hk h10 (by decide)) (z_ix rfl (by omega) (by omega)) dX11_putBounds_32 ?_
        refine lv_topi (fun x12 ex12 => ?_)
        have hv13 : (I (100 + 8 * k + 2) y3.toNatClampNeg).toInt = x12.toInt := by rw [ex12, lp2SS.1.2 k 2 _ (by omega) (by decide) (by decide)]
        refine lv_bipush (v := 30) hx hb dX11_putBounds_33 (by decide) ?_
        refine lv_idiv hx hb dX11_putBounds_35 (by decide) ?_
        refine lv_topi (fun x14 ex14 => ?_)
        have tx14 := z_tdiv ex14 rfl z_l30 (by decide)
        refine lv_aload_n hx hb dX11_putBounds_36 rfl (lv_at hl 1 rfl) ?_
        have r15 : 0 ≤ (I4 0 0).toInt ∧ (I4 0 0).toInt ≤ 719 := lp2B.1
        refine z_get (T := TX11) (N := 13) (ci := 11) (i := 0) (v := .int (I4 0 0)) hx hb hts zj_X11_putBounds_X11 hown hK hW rfl rfl 0 (by decide) (hts (.fieldLink RX11 85 "PetrolBoard" "today" "I") (me_s (me_l (me_l (me_l (me_l (me_l (me_l (List.mem_of_getElem? (i := 6) rfl))))))))) (fun _ h => h) rfl dX11_putBounds_37 ?_
        refine z_ci hW hS hA (va_runV (As := [.int 4, .int x14, .int (I4 0 0)]) (rest := []) ⟨hx, hb, hml, hown, hts⟩ (sx_X6_amount_x l G ad c I4 (by show 0 ≤ (I4 21 2).toInt ∧ (I4 21 2).toInt ≤ 12; exact lp2O) 4 x14 (I4 0 0) hc (zu_on_q lp2SS hon) (zu_mo_q lp2SS hmo) (by decide) _) (cwV 3 hts gX11_putBounds_X6_amount rfl rfl rfl (by decide +kernel) ⟨Nat.le_of_ble_eq_true rfl, Nat.le_of_ble_eq_true rfl⟩) (z_preVS (i := 21) hK hW hS hA hSt rfl rfl) rfl rfl hl.1 rfl (lv_room (Nat.le_of_ble_eq_true rfl)) dX11_putBounds_40 ⟨Nat.le_of_ble_eq_true rfl, Nat.le_of_ble_eq_true rfl⟩) (fun r u1 H locs hp hW hS => ?_)
        obtain ⟨e9, hp⟩ := hp
        rw [e9] at hW
        refine lv_topi (fun x16 ex16 => ?_)
        rw [← ex16, show (4 : Int32).toInt = 4 by decide] at hp
        have hb18 := zu_R_b hp (fun q hq => zu_ab_q lp2SS hab 4 q (by decide) hq)
        have hM17 : x16.toInt = zu_do c I k y3.toNatClampNeg := by rw [zb_f_e hp]; show zb_ax c I4 4 _ _ = _; unfold zu_do; rw [zb_ax_c (fun a i ha => lp2SS.1.1.2 a i ha), show x14.toInt = (I (100 + 8 * k + 2) y3.toNatClampNeg).toInt / 30 by omega, lp2SS.2 0 0 (by decide)]
        refine lv_istore (lv' := [(6, .int x16), (5, .int y3), (0, .ref (ad 0)), (1, .ref (ad (100 + 8 * k))), (2, .int a2), (3, .int a3), (4, .int a4)]) hx hb dX11_putBounds_43 hl (by decide) rfl (fun ls hl => ?_)
        refine lv_aload_n hx hb dX11_putBounds_45 rfl (lv_at hl 3 rfl) ?_
        refine z_get (T := TX10) (N := 10) (ci := 10) (i := (100 + 8 * k)) (v := .ref (ad (100 + 8 * k + 5))) hx hb hts zj_X11_putBounds_X10 hown hK hW (z_ss0 hk h10) rfl 7 (by decide) (hts (.fieldLink RX11 279 "PetrolBoard$Station" "low" "[I") (me_s (me_l (me_l (me_l (me_l (me_l (me_l (List.mem_of_getElem? (i := 7) rfl))))))))) (fun _ h => h) (z_pS hk h10 rfl rfl) dX11_putBounds_46 ?_
        refine lv_iload hx hb dX11_putBounds_49 (lv_at hl 1 rfl) ?_
        refine lv_iconst (v := 0) hx hb dX11_putBounds_51 (by decide) ?_
        refine lv_aload_n hx hb dX11_putBounds_52 rfl (lv_at hl 3 rfl) ?_
        refine z_get (T := TX10) (N := 10) (ci := 10) (i := (100 + 8 * k)) (v := .ref (ad (100 + 8 * k + 1))) hx hb hts zj_X11_putBounds_X10 hown hK hW (z_ss0 hk h10) rfl 0 (by decide) (hts (.fieldLink RX11 282 "PetrolBoard$Station" "told" "[I") (me_s (me_l (me_l (me_l (me_l (me_l (me_l (List.mem_of_getElem? (i := 8) rfl))))))))) (fun _ h => h) (z_pS hk h10 rfl rfl) dX11_putBounds_53 ?_
        refine lv_iload hx hb dX11_putBounds_56 (lv_at hl 1 rfl) ?_
        refine z_iald (i := (100 + 8 * k + 1)) hx hb hK hW (z_ssj hk h10 (by decide)) (z_ix rfl (by omega) (by omega)) dX11_putBounds_58 ?_
        refine lv_topi (fun x19 ex19 => ?_)
        have hv20 : (I (100 + 8 * k + 1) y3.toNatClampNeg).toInt = x19.toInt := by rw [ex19, lp2SS.1.2 k 1 _ (by omega) (by decide) (by decide)]
        refine lv_iload hx hb dX11_putBounds_59 (lv_at hl 0 rfl) ?_
        refine lv_isub hx hb dX11_putBounds_61 ?_
        refine lv_topi (fun x21 ex21 => ?_)
        have tx21 : x21.toInt = x19.toInt - x16.toInt := z_tsub ex21 rfl rfl (by omega) (by omega)
        refine va_mmax (x := 0) (y := x21) hx hb (hml.trans hl.1.symm) hown (hts (.methodLink RX11 274 Lib.Math.max.name) (me_s (me_l (me_l (me_l (me_l (me_l (me_l (List.mem_of_getElem? (i := 0) rfl))))))))) (hts (.static Lib.Math.max.name) (me_s (me_l (me_l (me_l (me_l (me_l (me_l (List.mem_of_getElem? (i := 1) rfl))))))))) (hts (.initialized "java/lang/Math") (me_s (me_l (me_l (me_l (me_l (me_l (me_l (List.mem_of_getElem? (i := 2) rfl))))))))) (hts (.code Lib.Math.max.name Lib.Math.max.code 2 (some .int)) (me_s (me_l (me_l (me_l (me_l (me_l (me_l (List.mem_of_getElem? (i := 3) rfl))))))))) (Nat.le_of_ble_eq_true rfl) (Nat.le_of_ble_eq_true rfl) (Nat.le_of_ble_eq_true rfl) (Nat.le_of_ble_eq_true rfl) dX11_putBounds_62 ?_
        refine lv_topi (fun x22 ex22 => ?_)
        have tx22 := z_tmmax ex22 z_l0 rfl
        refine z_iast (i := (100 + 8 * k + 5)) hx hb hK hW hS (z_ssj hk h10 (by decide)) (z_ix rfl (by omega) (by omega)) dX11_putBounds_65 (fun H locs hz1 hW hS => ?_)
        obtain ⟨I23, eI23⟩ : ∃ K : z_I, K = z_up I4 (100 + 8 * k + 5) y3.toNatClampNeg x22 := ⟨_, rfl⟩
        rw [← eI23] at hW
        have f24 := z_fr_a lp2fr (z_wad (L := L_X11_putBounds_u) (by decide) (by omega)) eI23
        have hS25 := z_iS_a lp2S (by decide) eI23
        have hZ26 := zu_q_a lp2SS (by decide) (by omega) eI23
        refine lv_aload_n hx hb dX11_putBounds_66 rfl (lv_at hl 3 rfl) ?_
        refine z_get (T := TX10) (N := 10) (ci := 10) (i := (100 + 8 * k)) (v := .ref (ad (100 + 8 * k + 6))) hx hb hts zj_X11_putBounds_X10 hown hK hW (z_ss0 hk h10) rfl 8 (by decide) (hts (.fieldLink RX11 285 "PetrolBoard$Station" "high" "[I") (me_s (me_l (me_l (me_l (me_l (me_l (me_l (List.mem_of_getElem? (i := 9) rfl))))))))) (fun _ h => h) (z_pS hk h10 rfl rfl) dX11_putBounds_67 ?_
        refine lv_iload hx hb dX11_putBounds_70 (lv_at hl 1 rfl) ?_
        refine lv_aload_n hx hb dX11_putBounds_72 rfl (lv_at hl 3 rfl) ?_
        refine z_get (T := TX10) (N := 10) (ci := 10) (i := (100 + 8 * k)) (v := .ref (ad (100 + 8 * k + 1))) hx hb hts zj_X11_putBounds_X10 hown hK hW (z_ss0 hk h10) rfl 0 (by decide) (hts (.fieldLink RX11 282 "PetrolBoard$Station" "told" "[I") (me_s (me_l (me_l (me_l (me_l (me_l (me_l (List.mem_of_getElem? (i := 8) rfl))))))))) (fun _ h => h) (z_pS hk h10 rfl rfl) dX11_putBounds_73 ?_
        refine lv_iload hx hb dX11_putBounds_76 (lv_at hl 1 rfl) ?_
        refine z_iald (i := (100 + 8 * k + 1)) hx hb hK hW (z_ssj hk h10 (by decide)) (z_ix rfl (by omega) (by omega)) dX11_putBounds_78 ?_
        refine z_topi (v := x19) (by rw [eI23, z_up_n (by omega)]; exact ex19.symm) ?_
        refine lv_iload hx hb dX11_putBounds_79 (lv_at hl 0 rfl) ?_
        refine lv_iadd hx hb dX11_putBounds_81 ?_
        refine lv_topi (fun x27 ex27 => ?_)
        have tx27 : x27.toInt = x19.toInt + x16.toInt := z_tadd ex27 rfl rfl (by omega) (by omega)
        refine z_iast (i := (100 + 8 * k + 6)) hx hb hK hW hS (z_ssj hk h10 (by decide)) (z_ix rfl (by omega) (by omega)) dX11_putBounds_82 (fun H locs hz1 hW hS => ?_)
        obtain ⟨I28, eI28⟩ : ∃ K : z_I, K = z_up I23 (100 + 8 * k + 6) y3.toNatClampNeg x27 := ⟨_, rfl⟩
        rw [← eI28] at hW
        have f29 := z_fr_a f24 (z_wad (L := L_X11_putBounds_u) (by decide) (by omega)) eI28
        have hS30 := z_iS_a hS25 (by decide) eI28
        have hZ31 := zu_q_a hZ26 (by decide) (by omega) eI28
        refine lv_aload_n hx hb dX11_putBounds_83 rfl (lv_at hl 3 rfl) ?_
        refine z_get (T := TX10) (N := 10) (ci := 10) (i := (100 + 8 * k)) (v := .ref (ad (100 + 8 * k + 7))) hx hb hts zj_X11_putBounds_X10 hown hK hW (z_ss0 hk h10) rfl 9 (by decide) (hts (.fieldLink RX11 288 "PetrolBoard$Station" "in" "[I") (me_s (me_l (me_l (me_l (me_l (me_l (me_l (List.mem_of_getElem? (i := 10) rfl))))))))) (fun _ h => h) (z_pS hk h10 rfl rfl) dX11_putBounds_84 ?_
        refine lv_iload hx hb dX11_putBounds_87 (lv_at hl 1 rfl) ?_
        refine lv_iload hx hb dX11_putBounds_89 (lv_at hl 1 rfl) ?_
        refine lv_iload hx hb dX11_putBounds_91 (lv_at hl 6 rfl) ?_
        refine lv_icmp_ge (tgt := 107) hx hb dX11_putBounds_93 (by decide) (fun c32 => ?_) (fun c32 => ?_)
        · have g33 := z_f_ge rfl rfl c32
          refine lv_iconst (v := 0) hx hb dX11_putBounds_107 (by decide) ?_
          refine z_iast (i := (100 + 8 * k + 7)) hx hb hK hW hS (z_ssj hk h10 (by decide)) (z_ix rfl (by omega) (by omega)) dX11_putBounds_108 (fun H locs hz1 hW hS => ?_)
          obtain ⟨I34, eI34⟩ : ∃ K : z_I, K = z_up I28 (100 + 8 * k + 7) y3.toNatClampNeg 0 := ⟨_, rfl⟩
          rw [← eI34] at hW
          have f35 := z_fr_a f29 (z_wad (L := L_X11_putBounds_u) (by decide) (by omega)) eI34
          have hS36 := z_iS_a hS30 (by decide) eI34
          have hZ37 := zu_q_a hZ31 (by decide) (by omega) eI34
          obtain ⟨x38, ex38⟩ : ∃ y : Int32, y = y3 + 1 := ⟨_, rfl⟩
          have tx38 : x38.toInt = y3.toInt + 1 := z_tadd ex38 rfl z_l1 (by omega) (by omega)
          refine lv_iinc (v := x38) (lv' := [(5, .int x38), (6, .int x16), (0, .ref (ad 0)), (1, .ref (ad (100 + 8 * k))), (2, .int a2), (3, .int a3), (4, .int a4)]) hx hb dX11_putBounds_109 hl (k := 1) rfl (by rw [ex38]; rfl) (by decide) rfl (fun ls hl => ?_)
          refine lv_goto (tgt := 7) hx hb dX11_putBounds_112 (by decide) ?_
          exact lp2ih x38 I34  _ _ _ (by omega) (by omega) (by show 0 ≤ (I34 21 2).toInt ∧ (I34 21 2).toInt ≤ 12; rw [eI34, z_up_n (by omega), eI28, z_up_n (by omega), eI23, z_up_n (by omega)]; exact lp2O) ⟨(by show 0 ≤ (I34 0 0).toInt ∧ (I34 0 0).toInt ≤ 719; rw [eI34, z_up_n (by omega), eI28, z_up_n (by omega), eI23, z_up_n (by omega)]; exact lp2B.1), (by show 0 ≤ (I34 0 8).toInt ∧ (I34 0 8).toInt ≤ 10; rw [eI34, z_up_n (by omega), eI28, z_up_n (by omega), eI23, z_up_n (by omega)]; exact lp2B.2)⟩ (by show 0 ≤ (I34 30 8).toInt ∧ (I34 30 8).toInt ≤ 300; rw [eI34, z_up_n (by omega), eI28, z_up_n (by omega), eI23, z_up_n (by omega)]; exact lp2P) (by omega) (by have c8 := z_clt (x := a4) rfl (by omega); exact ⟨by rw [show x38.toNatClampNeg = y3.toNatClampNeg + 1 from z_cln (by omega) (by omega)]; exact zu_P_s lp2Q.1 eI23 eI28 eI34 (by unfold zu_lo; omega) (by unfold zu_hi; omega) (fun w9 => absurd w9 (by omega)), by omega⟩) hS36 hZ37 f35 hW hS (lv_sub hl [0, 2, 3, 4, 5, 6] rfl)
        · have g39 := z_f_nge rfl rfl c32
          refine lv_aload_n hx hb dX11_putBounds_96 rfl (lv_at hl 2 rfl) ?_
          refine lv_aload_n hx hb dX11_putBounds_97 rfl (lv_at hl 3 rfl) ?_
          refine lv_iload_n hx hb dX11_putBounds_98 rfl (lv_at hl 4 rfl) ?_
          refine lv_iload hx hb dX11_putBounds_99 (lv_at hl 1 rfl) ?_
          refine z_ci hW hS hA (va_runV (As := [.ref (ad (100 + 8 * k)), .int a2, .int y3]) (rest := [.int y3, .ref (ad (100 + 8 * k + 7))]) ⟨hx, hb, hml, hown, hts⟩ (sx_X11_inBehind_u l G ad c I28 (by show 0 ≤ (I28 21 2).toInt ∧ (I28 21 2).toInt ≤ 12; rw [eI28, z_up_n (by omega), eI23, z_up_n (by omega)]; exact lp2O) ⟨(by show 0 ≤ (I28 0 0).toInt ∧ (I28 0 0).toInt ≤ 719; rw [eI28, z_up_n (by omega), eI23, z_up_n (by omega)]; exact lp2B.1), (by show 0 ≤ (I28 0 8).toInt ∧ (I28 0 8).toInt ≤ 10; rw [eI28, z_up_n (by omega), eI23, z_up_n (by omega)]; exact lp2B.2)⟩ (by show 0 ≤ (I28 30 8).toInt ∧ (I28 30 8).toInt ≤ 300; rw [eI28, z_up_n (by omega), eI23, z_up_n (by omega)]; exact lp2P) k a2 y3 hk hc h10 (zu_on_q hZ31 hon) (zu_mo_q hZ31 hmo) (zu_ab_q hZ31 hab) (zu_Te_q hZ31 hTe) (zu_D_q hZ31 (by omega) hD) (zu_M_q hZ31 (by omega) hM) (by rw [hZ31.1.1.1 k 4 (by omega)]; omega) hS30 _) (cwV 3 hts gX11_putBounds_X11_inBehind rfl rfl rfl (by decide +kernel) ⟨Nat.le_of_ble_eq_true rfl, Nat.le_of_ble_eq_true rfl⟩) (z_preVS (i := 0) hK hW hS hA hSt rfl rfl) rfl rfl hl.1 rfl (lv_room (Nat.le_of_ble_eq_true rfl)) dX11_putBounds_101 ⟨Nat.le_of_ble_eq_true rfl, Nat.le_of_ble_eq_true rfl⟩) (fun r u1 H locs hp hW hS => ?_)
          obtain ⟨e9, hp⟩ := hp
          rw [e9] at hW
          refine lv_topi (fun x40 ex40 => ?_)
          rw [← ex40, zu_I_q hZ31 (by omega)] at hp
          have hI41 := hp
          refine lv_goto (tgt := 108) hx hb dX11_putBounds_104 (by decide) ?_
          refine z_iast (i := (100 + 8 * k + 7)) hx hb hK hW hS (z_ssj hk h10 (by decide)) (z_ix rfl (by omega) (by omega)) dX11_putBounds_108 (fun H locs hz1 hW hS => ?_)
          obtain ⟨I42, eI42⟩ : ∃ K : z_I, K = z_up I28 (100 + 8 * k + 7) y3.toNatClampNeg x40 := ⟨_, rfl⟩
          rw [← eI42] at hW
          have f43 := z_fr_a f29 (z_wad (L := L_X11_putBounds_u) (by decide) (by omega)) eI42
          have hS44 := z_iS_a hS30 (by decide) eI42
          have hZ45 := zu_q_a hZ31 (by decide) (by omega) eI42
          obtain ⟨x46, ex46⟩ : ∃ y : Int32, y = y3 + 1 := ⟨_, rfl⟩
          have tx46 : x46.toInt = y3.toInt + 1 := z_tadd ex46 rfl z_l1 (by omega) (by omega)
          refine lv_iinc (v := x46) (lv' := [(5, .int x46), (6, .int x16), (0, .ref (ad 0)), (1, .ref (ad (100 + 8 * k))), (2, .int a2), (3, .int a3), (4, .int a4)]) hx hb dX11_putBounds_109 hl (k := 1) rfl (by rw [ex46]; rfl) (by decide) rfl (fun ls hl => ?_)
          refine lv_goto (tgt := 7) hx hb dX11_putBounds_112 (by decide) ?_
          exact lp2ih x46 I42  _ _ _ (by omega) (by omega) (by show 0 ≤ (I42 21 2).toInt ∧ (I42 21 2).toInt ≤ 12; rw [eI42, z_up_n (by omega), eI28, z_up_n (by omega), eI23, z_up_n (by omega)]; exact lp2O) ⟨(by show 0 ≤ (I42 0 0).toInt ∧ (I42 0 0).toInt ≤ 719; rw [eI42, z_up_n (by omega), eI28, z_up_n (by omega), eI23, z_up_n (by omega)]; exact lp2B.1), (by show 0 ≤ (I42 0 8).toInt ∧ (I42 0 8).toInt ≤ 10; rw [eI42, z_up_n (by omega), eI28, z_up_n (by omega), eI23, z_up_n (by omega)]; exact lp2B.2)⟩ (by show 0 ≤ (I42 30 8).toInt ∧ (I42 30 8).toInt ≤ 300; rw [eI42, z_up_n (by omega), eI28, z_up_n (by omega), eI23, z_up_n (by omega)]; exact lp2P) (by omega) (by have c8 := z_clt (x := a4) rfl (by omega); exact ⟨by rw [show x46.toNatClampNeg = y3.toNatClampNeg + 1 from z_cln (by omega) (by omega)]; exact zu_P_s lp2Q.1 eI23 eI28 eI42 (by unfold zu_lo; omega) (by unfold zu_hi; omega) (fun _ => ⟨hI41.1, by have i9 := hI41; omega, by have i9 := hI41; omega⟩), by omega⟩) hS44 hZ45 f43 hW hS (lv_sub hl [0, 2, 3, 4, 5, 6] rfl)
  exact lp2 4294967296 x1 I  _ _ _ (z_m0u _) (by omega) (by show 0 ≤ (I 21 2).toInt ∧ (I 21 2).toInt ≤ 12; exact hO) ⟨(by show 0 ≤ (I 0 0).toInt ∧ (I 0 0).toInt ≤ 719; exact hB.1), (by show 0 ≤ (I 0 8).toInt ∧ (I 0 8).toInt ≤ 10; exact hB.2)⟩ (by show 0 ≤ (I 30 8).toInt ∧ (I 30 8).toInt ≤ 300; exact hP) (by omega) ⟨by rw [show x1.toNatClampNeg = a3.toNatClampNeg from congrArg Int.toNat (show x1.toInt = a3.toInt by omega)]; exact zu_P_0, by omega⟩ hS0 zu_q_0 z_fr_0 hW hS (lv_sub hl [0, 1, 2, 3, 4, 5] rfl)
set_option maxHeartbeats 8000000 in
set_option maxRecDepth 100000 in
theorem sx_X10_hasSpan_u (l : Launch) (G : z_G) (ad : Nat → Nat) (c : z_C) (I : z_I) (k : Nat) (a1 : Int32) (a2 : Int32) (hk : k < c.1) (h10 : c.1 ≤ 10) (hS0 : z_iS c I) : z_M l yX10_hasSpan wsX10_hasSpan { frames := 1, cells := 0, slots := 0, locals := 12 } [.ref (ad (100 + 8 * k)), .int a1, .int a2] G (shC c, ad, I, JX, PC c ad) (fun r u1 => u1 = (shC c, ad, I, JX, PC c ad) ∧ ((r = 1 ∧ (0 ≤ a1.toInt ∧ a1.toInt < a2.toInt) ∧ a2.toInt < (I (100 + 8 * k) 4).toInt) ∨ (r = 0 ∧ ¬ ((0 ≤ a1.toInt ∧ a1.toInt < a2.toInt) ∧ a2.toInt < (I (100 + 8 * k) 4).toInt)))) 0 0 := by
  intro sz
  refine z_headQ (cc := cX10_hasSpan) (maxL := 3) (ret := (some .boolean)) (by decide) rfl (Nat.le_of_ble_eq_true rfl) ?_
  intro p e s m below meth c0 ls hIn hK hsz hW hl
  obtain ⟨hx, hb, hr, hml, hown, hts, hlocks, hname⟩ := hIn
  subst hsz
  have hown : s.vm.findClass RX10 = some m.cls := hown
  have hA : ∀ q : Nat, s.heap.size ≤ q → z_A (shC c, ad, I, JX, PC c ad) s.heap.size q := fun q h => Or.inr h
  generalize hAe : z_A (shC c, ad, I, JX, PC c ad) s.heap.size = A at *
  have hS : va_S A s.heap s.heap [] := va_S.rf
  have hl : lv_has ls 3 [(0, .ref (ad (100 + 8 * k))), (1, .int a1), (2, .int a2)] := hl
  have s9 : 0 ≤ (I (100 + 8 * k) 4).toInt ∧ (I (100 + 8 * k) 4).toInt ≤ 30 := hS0 k hk
  refine lv_iload_n hx hb dX10_hasSpan_0 rfl (lv_at hl 1 rfl) ?_
  refine lv_if_lt (tgt := 27) hx hb dX10_hasSpan_1 (by decide) (fun c1 => ?_) (fun c1 => ?_)
  · have g2 := z_f_lt rfl z_l0 c1
    have b3 := Int32.toInt_lt a1
    refine lv_iconst (v := 0) hx hb dX10_hasSpan_27 (by decide) ?_
    exact z_zret hx hb hr (by decide) hK hS (Nat.le_of_ble_eq_true rfl) (Nat.le_of_ble_eq_true rfl) hlocks dX10_hasSpan_28 (shC c, ad, I, JX, PC c ad) hW ⟨rfl, (Or.inr ⟨rfl, by omega⟩)⟩
  · have g4 := z_f_nlt rfl z_l0 c1
    have b5 := Int32.toInt_lt a1
    refine lv_iload_n hx hb dX10_hasSpan_4 rfl (lv_at hl 1 rfl) ?_
    refine lv_iload_n hx hb dX10_hasSpan_5 rfl (lv_at hl 2 rfl) ?_
    refine lv_icmp_ge (tgt := 27) hx hb dX10_hasSpan_6 (by decide) (fun c6 => ?_) (fun c6 => ?_)
    · have g7 := z_f_ge rfl rfl c6
      have b8 := Int32.toInt_lt a2
      refine lv_iconst (v := 0) hx hb dX10_hasSpan_27 (by decide) ?_
      exact z_zret hx hb hr (by decide) hK hS (Nat.le_of_ble_eq_true rfl) (Nat.le_of_ble_eq_true rfl) hlocks dX10_hasSpan_28 (shC c, ad, I, JX, PC c ad) hW ⟨rfl, (Or.inr ⟨rfl, by omega⟩)⟩
    · have g9 := z_f_nge rfl rfl c6
      have b10 := Int32.toInt_lt a2
      refine lv_iload_n hx hb dX10_hasSpan_9 rfl (lv_at hl 2 rfl) ?_
      refine lv_aload_n hx hb dX10_hasSpan_10 rfl (lv_at hl 0 rfl) ?_
      have r11 : 0 ≤ (I (100 + 8 * k) 4).toInt ∧ (I (100 + 8 * k) 4).toInt ≤ 30 := (hS0 k hk)
      refine z_get (T := TX10) (N := 10) (ci := 10) (i := (100 + 8 * k)) (v := .int (I (100 + 8 * k) 4)) hx hb hts zj_X10_hasSpan_X10 hown hK hW (z_ss0 hk h10) rfl 4 (by decide) (hts (.fieldLink RX10 40 "PetrolBoard$Station" "dips" "I") (me_s (me_l (List.mem_of_getElem? (i := 0) rfl)))) (fun _ h => h) rfl dX10_hasSpan_11 ?_
      refine lv_icmp_ge (tgt := 27) hx hb dX10_hasSpan_14 (by decide) (fun c12 => ?_) (fun c12 => ?_)
      · have g13 := z_f_ge rfl rfl c12
        refine lv_iconst (v := 0) hx hb dX10_hasSpan_27 (by decide) ?_
        exact z_zret hx hb hr (by decide) hK hS (Nat.le_of_ble_eq_true rfl) (Nat.le_of_ble_eq_true rfl) hlocks dX10_hasSpan_28 (shC c, ad, I, JX, PC c ad) hW ⟨rfl, (Or.inr ⟨rfl, by omega⟩)⟩
      · have g14 := z_f_nge rfl rfl c12
        refine lv_iload_n hx hb dX10_hasSpan_17 rfl (lv_at hl 2 rfl) ?_
        refine lv_bipush (v := 30) hx hb dX10_hasSpan_18 (by decide) ?_
        refine lv_icmp_ge (tgt := 27) hx hb dX10_hasSpan_20 (by decide) (fun c15 => (by have g := z_f_ge rfl z_l30 c15; omega)) (fun c15 => ?_)
        have g16 := z_f_nge rfl z_l30 c15
        refine lv_iconst (v := 1) hx hb dX10_hasSpan_23 (by decide) ?_
        refine lv_goto (tgt := 28) hx hb dX10_hasSpan_24 (by decide) ?_
        exact z_zret hx hb hr (by decide) hK hS (Nat.le_of_ble_eq_true rfl) (Nat.le_of_ble_eq_true rfl) hlocks dX10_hasSpan_28 (shC c, ad, I, JX, PC c ad) hW ⟨rfl, (Or.inl ⟨rfl, by omega⟩)⟩
set_option maxHeartbeats 8000000 in
set_option maxRecDepth 100000 in
theorem sx_X10_lowestFirst_u (l : Launch) (G : z_G) (ad : Nat → Nat) (c : z_C) (I : z_I) (k : Nat) (a1 : Int32) (a2 : Int32) (hk : k < c.1) (h10 : c.1 ≤ 10) (hsp : (0 ≤ a1.toInt ∧ a1.toInt < a2.toInt) ∧ a2.toInt < (I (100 + 8 * k) 4).toInt) (hg : zu_gb I k a1.toNatClampNeg (a2.toNatClampNeg - a1.toNatClampNeg)) (hS0 : z_iS c I) : z_Ml l yX10_lowestFirst wsX10_lowestFirst { frames := 2, cells := 0, slots := 0, locals := 40 } [.ref (ad (100 + 8 * k)), .int a1, .int a2] G (shC c, ad, I, JX, PC c ad) (fun r u1 => u1 = (shC c, ad, I, JX, PC c ad) ∧ (r.toInt = zu_B (zu_rl I k a1.toNatClampNeg) (zu_rh I k a1.toNatClampNeg) (zu_rv I k a1.toNatClampNeg) (a2.toNatClampNeg - a1.toNatClampNeg) (a2.toNatClampNeg - a1.toNatClampNeg))) 0 0 := by
  intro sz
  refine z_headQ (cc := cX10_lowestFirst) (maxL := 6) (ret := (some .long)) (by decide) rfl (Nat.le_of_ble_eq_true rfl) ?_
  intro p e s m below meth c0 ls hIn hK hsz hW hl
  obtain ⟨hx, hb, hr, hml, hown, hts, hlocks, hname⟩ := hIn
  subst hsz
  have hown : s.vm.findClass RX10 = some m.cls := hown
  have hA : ∀ q : Nat, s.heap.size ≤ q → z_A (shC c, ad, I, JX, PC c ad) s.heap.size q := fun q h => Or.inr h
  generalize hAe : z_A (shC c, ad, I, JX, PC c ad) s.heap.size = A at *
  have hS : va_S A s.heap s.heap [] := va_S.rf
  have hl : lv_has ls 6 [(0, .ref (ad (100 + 8 * k))), (1, .int a1), (2, .int a2)] := hl
  have s9 : 0 ≤ (I (100 + 8 * k) 4).toInt ∧ (I (100 + 8 * k) 4).toInt ≤ 30 := hS0 k hk
  have ca1 := z_clt (x := a1) rfl (by omega)
  have ca2 := z_clt (x := a2) rfl (by omega)
  refine lv_aload_n hx hb dX10_lowestFirst_0 rfl (lv_at hl 0 rfl) ?_
  refine lv_iload_n hx hb dX10_lowestFirst_1 rfl (lv_at hl 1 rfl) ?_
  refine lv_iload_n hx hb dX10_lowestFirst_2 rfl (lv_at hl 2 rfl) ?_
  refine z_ci hW hS hA (va_runV (As := [.int a1, .int a2]) (rest := []) ⟨hx, hb, hml, hown, hts⟩ (sx_X10_hasSpan_u l G ad c I  k a1 a2 hk h10  hS0 _) (cwV 2 hts gX10_lowestFirst_X10_hasSpan rfl rfl rfl (by decide +kernel) ⟨Nat.le_of_ble_eq_true rfl, Nat.le_of_ble_eq_true rfl⟩) (z_preV (i := (100 + 8 * k)) hK hW (z_ss0 hk h10) rfl) rfl rfl hl.1 rfl (lv_room (Nat.le_of_ble_eq_true rfl)) dX10_lowestFirst_3 ⟨Nat.le_of_ble_eq_true rfl, Nat.le_of_ble_eq_true rfl⟩) (fun r u1 H locs hp hW hS => ?_)
  obtain ⟨e9, hp⟩ := hp
  rw [e9] at hW
  rcases hp with ⟨rfl, hs1⟩ | ⟨rfl, hs1⟩
  · refine lv_if_ne (tgt := 11) hx hb dX10_lowestFirst_6 (by decide) (fun c2 => ?_) (fun c2 => absurd c2 (by decide))
    refine lv_aload_n hx hb dX10_lowestFirst_11 rfl (lv_at hl 0 rfl) ?_
    refine z_get (T := TX10) (N := 10) (ci := 10) (i := (100 + 8 * k)) (v := .ref (ad (100 + 8 * k + 5))) hx hb hts zj_X10_lowestFirst_X10 hown hK hW (z_ss0 hk h10) rfl 7 (by decide) (hts (.fieldLink RX10 24 "PetrolBoard$Station" "low" "[I") (me_s (me_l (List.mem_of_getElem? (i := 0) rfl)))) (fun _ h => h) (z_pS hk h10 rfl rfl) dX10_lowestFirst_12 ?_
    refine lv_iload_n hx hb dX10_lowestFirst_15 rfl (lv_at hl 2 rfl) ?_
    refine z_iald (i := (100 + 8 * k + 5)) hx hb hK hW (z_ssj hk h10 (by decide)) (z_ix rfl (by omega) (by omega)) dX10_lowestFirst_16 ?_
    refine lv_topi (fun x3 ex3 => ?_)
    have hv4 : zu_rl I k a1.toNatClampNeg (a2.toNatClampNeg - a1.toNatClampNeg) = x3.toInt := by unfold zu_rl; rw [ex3, show a1.toNatClampNeg + (a2.toNatClampNeg - a1.toNatClampNeg) = a2.toNatClampNeg by omega]
    have hu5 := hg (a2.toNatClampNeg - a1.toNatClampNeg) (by omega)
    refine lv_i2l (v := x3.toInt64) hx hb dX10_lowestFirst_17 rfl ?_
    refine lv_topl (fun w6 ew6 => ?_)
    have tw6 : w6.toInt = x3.toInt := z_ti2l ew6 rfl
    refine lv_lstore_n (lv' := [(3, .long w6), (0, .ref (ad (100 + 8 * k))), (1, .int a1), (2, .int a2)]) hx hb dX10_lowestFirst_18 rfl hl (by decide) rfl (fun ls hl => ?_)
    refine lv_iload_n hx hb dX10_lowestFirst_19 rfl (lv_at hl 3 rfl) ?_
    refine lv_iconst (v := 1) hx hb dX10_lowestFirst_20 (by decide) ?_
    refine lv_isub hx hb dX10_lowestFirst_21 ?_
    refine lv_topi (fun x7 ex7 => ?_)
    have tx7 : x7.toInt = a2.toInt - 1 := z_tsub ex7 rfl z_l1 (by omega) (by omega)
    refine lv_istore (lv' := [(5, .int x7), (3, .long w6), (0, .ref (ad (100 + 8 * k))), (1, .int a1), (2, .int a2)]) hx hb dX10_lowestFirst_22 hl (by decide) rfl (fun ls hl => ?_)
    have lp8 : ∀ (f : Nat) (y9 : Int32) (w10 : Int64) (H : Heap) (locs : List Loc) (ls : Array Slot), (y9.toInt + 2147483648 < (f : Int)) → ((-1) ≤ y9.toInt) → (y9.toInt ≤ 28) → (y9.toInt ≤ x7.toInt) → (zu_B (zu_rl I k a1.toNatClampNeg) (zu_rh I k a1.toNatClampNeg) (zu_rv I k a1.toNatClampNeg) (a2.toNatClampNeg - a1.toNatClampNeg) (a2.toInt - 1 - y9.toInt).toNat = w10.toInt ∧ 0 ≤ w10.toInt ∧ w10.toInt ≤ 1199999 ∧ a1.toInt - 1 ≤ y9.toInt ∧ y9.toInt ≤ a2.toInt - 1) → z_W G A (shC c, ad, I, JX, PC c ad) H → va_S A s.heap H locs → lv_has ls 6 [(5, .int y9), (3, .long w10), (0, .ref (ad (100 + 8 * k))), (1, .int a1), (2, .int a2)] → W p l e (headSpec wsX10_lowestFirst { frames := 2, cells := 0, slots := 0, locals := 40 }).room s m ([.ref (ad (100 + 8 * k)), .int a1, .int a2] : List Value).toArray below meth c0 H locs 0 0 (MQ below (va_Ql (fun (r : Int64) (u1 : z_U) => u1 = (shC c, ad, I, JX, PC c ad) ∧ (r.toInt = zu_B (zu_rl I k a1.toNatClampNeg) (zu_rh I k a1.toNatClampNeg) (zu_rv I k a1.toNatClampNeg) (a2.toNatClampNeg - a1.toNatClampNeg) (a2.toNatClampNeg - a1.toNatClampNeg))) (z_B G A) A) ([.ref (ad (100 + 8 * k)), .int a1, .int a2] : List Value).toArray s 0 0 A) (F0 m 24 ls []) := by
      intro f
      induction f with
      | zero => intro y9 w10 H locs ls lp8m lp8l5 lp8u5 lp8z lp8B hW hS hl; exact absurd lp8m (by have := Int32.toInt_lt y9; have := Int32.le_toInt y9; omega)
      | succ f lp8ih =>
        intro y9 w10 H locs ls lp8m lp8l5 lp8u5 lp8z lp8B hW hS hl
        refine lv_iload hx hb dX10_lowestFirst_24 (lv_at hl 0 rfl) ?_
        refine lv_iload_n hx hb dX10_lowestFirst_26 rfl (lv_at hl 3 rfl) ?_
        refine lv_icmp_lt (tgt := 80) hx hb dX10_lowestFirst_27 (by decide) (fun c11 => ?_) (fun c11 => ?_)
        · have g12 := z_f_lt rfl rfl c11
          refine lv_lload_n hx hb dX10_lowestFirst_80 rfl (lv_at hl 1 rfl) ?_
          exact z_lret hx hb hr hK hS (Nat.le_of_ble_eq_true rfl) (Nat.le_of_ble_eq_true rfl) hlocks dX10_lowestFirst_81 (shC c, ad, I, JX, PC c ad) hW ⟨rfl, (by have b9 := lp8B.1; rw [show (a2.toInt - 1 - y9.toInt).toNat = (a2.toNatClampNeg - a1.toNatClampNeg) by omega] at b9; exact b9.symm)⟩
        · have g13 := z_f_nlt rfl rfl c11
          refine lv_iload hx hb dX10_lowestFirst_30 (lv_at hl 0 rfl) ?_
          refine lv_if_lt (tgt := 80) hx hb dX10_lowestFirst_32 (by decide) (fun c14 => (by have g := z_f_lt rfl z_l0 c14; omega)) (fun c14 => ?_)
          have g15 := z_f_nlt rfl z_l0 c14
          have c9 := z_clt (x := y9) rfl (by omega)
          refine lv_aload_n hx hb dX10_lowestFirst_35 rfl (lv_at hl 2 rfl) ?_
          refine z_get (T := TX10) (N := 10) (ci := 10) (i := (100 + 8 * k)) (v := .ref (ad (100 + 8 * k + 5))) hx hb hts zj_X10_lowestFirst_X10 hown hK hW (z_ss0 hk h10) rfl 7 (by decide) (hts (.fieldLink RX10 24 "PetrolBoard$Station" "low" "[I") (me_s (me_l (List.mem_of_getElem? (i := 0) rfl)))) (fun _ h => h) (z_pS hk h10 rfl rfl) dX10_lowestFirst_36 ?_
          refine lv_iload hx hb dX10_lowestFirst_39 (lv_at hl 0 rfl) ?_
          refine z_iald (i := (100 + 8 * k + 5)) hx hb hK hW (z_ssj hk h10 (by decide)) (z_ix rfl (by omega) (by omega)) dX10_lowestFirst_41 ?_
          refine lv_topi (fun x16 ex16 => ?_)
          have hv17 : zu_rl I k a1.toNatClampNeg ((a2.toNatClampNeg - a1.toNatClampNeg) - 1 - (a2.toInt - 1 - y9.toInt).toNat) = x16.toInt := by unfold zu_rl; rw [ex16, show a1.toNatClampNeg + ((a2.toNatClampNeg - a1.toNatClampNeg) - 1 - (a2.toInt - 1 - y9.toInt).toNat) = y9.toNatClampNeg by omega]
          have hu18 := hg ((a2.toNatClampNeg - a1.toNatClampNeg) - 1 - (a2.toInt - 1 - y9.toInt).toNat) (by omega)
          refine lv_i2l (v := x16.toInt64) hx hb dX10_lowestFirst_42 rfl ?_
          refine lv_topl (fun w19 ew19 => ?_)
          have tw19 : w19.toInt = x16.toInt := z_ti2l ew19 rfl
          refine lv_lload_n hx hb dX10_lowestFirst_43 rfl (lv_at hl 1 rfl) ?_
          refine lv_aload_n hx hb dX10_lowestFirst_44 rfl (lv_at hl 2 rfl) ?_
          refine z_get (T := TX10) (N := 10) (ci := 10) (i := (100 + 8 * k)) (v := .ref (ad (100 + 8 * k + 7))) hx hb hts zj_X10_lowestFirst_X10 hown hK hW (z_ss0 hk h10) rfl 9 (by decide) (hts (.fieldLink RX10 30 "PetrolBoard$Station" "in" "[I") (me_s (me_l (List.mem_of_getElem? (i := 1) rfl)))) (fun _ h => h) (z_pS hk h10 rfl rfl) dX10_lowestFirst_45 ?_
          refine lv_iload hx hb dX10_lowestFirst_48 (lv_at hl 0 rfl) ?_
          refine z_iald (i := (100 + 8 * k + 7)) hx hb hK hW (z_ssj hk h10 (by decide)) (z_ix rfl (by omega) (by omega)) dX10_lowestFirst_50 ?_
          refine lv_topi (fun x20 ex20 => ?_)
          have hv21 : zu_rv I k a1.toNatClampNeg ((a2.toNatClampNeg - a1.toNatClampNeg) - 1 - (a2.toInt - 1 - y9.toInt).toNat) = x20.toInt := by unfold zu_rv; rw [ex20, show a1.toNatClampNeg + ((a2.toNatClampNeg - a1.toNatClampNeg) - 1 - (a2.toInt - 1 - y9.toInt).toNat) = y9.toNatClampNeg by omega]
          have hu22 := hg ((a2.toNatClampNeg - a1.toNatClampNeg) - 1 - (a2.toInt - 1 - y9.toInt).toNat) (by omega)
          refine lv_i2l (v := x20.toInt64) hx hb dX10_lowestFirst_51 rfl ?_
          refine lv_topl (fun w23 ew23 => ?_)
          have tw23 : w23.toInt = x20.toInt := z_ti2l ew23 rfl
          refine lv_lsub hx hb dX10_lowestFirst_52 ?_
          refine lv_topl (fun w24 ew24 => ?_)
          have tw24 : w24.toInt = w10.toInt - x20.toInt := z_tlsub ew24 rfl tw23 (by omega) (by omega)
          refine va_mmax_long (x := w19) (y := w24) hx hb (hml.trans hl.1.symm) hown (hts (.methodLink RX10 47 Lib.MathLoose.max_long.x) (me_s (me_l (List.mem_of_getElem? (i := 2) rfl)))) (hts (.static Lib.MathLoose.max_long.x) (me_s (me_l (List.mem_of_getElem? (i := 3) rfl)))) (hts (.initialized "java/lang/Math") (me_s (me_l (List.mem_of_getElem? (i := 4) rfl)))) (hts (.code Lib.MathLoose.max_long.x Lib.MathLoose.max_long.code 4 (some .long)) (me_s (me_l (List.mem_of_getElem? (i := 5) rfl)))) (Nat.le_of_ble_eq_true rfl) (Nat.le_of_ble_eq_true rfl) (Nat.le_of_ble_eq_true rfl) (Nat.le_of_ble_eq_true rfl) dX10_lowestFirst_53 ?_
          refine lv_topl (fun w25 ew25 => ?_)
          have tw25 := z_tlmax ew25 tw19 tw24
          refine lv_lstore_n (lv' := [(3, .long w25), (5, .int y9), (0, .ref (ad (100 + 8 * k))), (1, .int a1), (2, .int a2)]) hx hb dX10_lowestFirst_56 rfl hl (by decide) rfl (fun ls hl => ?_)
          refine lv_lload_n hx hb dX10_lowestFirst_57 rfl (lv_at hl 0 rfl) ?_
          refine lv_aload_n hx hb dX10_lowestFirst_58 rfl (lv_at hl 2 rfl) ?_
          refine z_get (T := TX10) (N := 10) (ci := 10) (i := (100 + 8 * k)) (v := .ref (ad (100 + 8 * k + 6))) hx hb hts zj_X10_lowestFirst_X10 hown hK hW (z_ss0 hk h10) rfl 8 (by decide) (hts (.fieldLink RX10 27 "PetrolBoard$Station" "high" "[I") (me_s (me_l (List.mem_of_getElem? (i := 6) rfl)))) (fun _ h => h) (z_pS hk h10 rfl rfl) dX10_lowestFirst_59 ?_
          refine lv_iload hx hb dX10_lowestFirst_62 (lv_at hl 1 rfl) ?_
          refine z_iald (i := (100 + 8 * k + 6)) hx hb hK hW (z_ssj hk h10 (by decide)) (z_ix rfl (by omega) (by omega)) dX10_lowestFirst_64 ?_
          refine lv_topi (fun x26 ex26 => ?_)
          have hv27 : zu_rh I k a1.toNatClampNeg ((a2.toNatClampNeg - a1.toNatClampNeg) - 1 - (a2.toInt - 1 - y9.toInt).toNat) = x26.toInt := by unfold zu_rh; rw [ex26, show a1.toNatClampNeg + ((a2.toNatClampNeg - a1.toNatClampNeg) - 1 - (a2.toInt - 1 - y9.toInt).toNat) = y9.toNatClampNeg by omega]
          have hu28 := hg ((a2.toNatClampNeg - a1.toNatClampNeg) - 1 - (a2.toInt - 1 - y9.toInt).toNat) (by omega)
          refine lv_i2l (v := x26.toInt64) hx hb dX10_lowestFirst_65 rfl ?_
          refine lv_topl (fun w29 ew29 => ?_)
          have tw29 : w29.toInt = x26.toInt := z_ti2l ew29 rfl
          refine W.lcmp hx hb dX10_lowestFirst_66 ?_
          refine lv_topi (fun x30 ex30 => ?_)
          have tx30 := z_tcmp ex30
          have h31 := z_tlcmp ex30 rfl tw29
          refine lv_if_le (tgt := 74) hx hb dX10_lowestFirst_67 (by decide) (fun c32 => ?_) (fun c32 => ?_)
          · have g33 := z_f_le rfl z_l0 c32
            obtain ⟨x34, ex34⟩ : ∃ y : Int32, y = y9 + (-1) := ⟨_, rfl⟩
            have tx34 : x34.toInt = y9.toInt + (-1) := z_tadd ex34 rfl z_lm1 (by omega) (by omega)
            refine lv_iinc (v := x34) (lv' := [(5, .int x34), (3, .long w25), (0, .ref (ad (100 + 8 * k))), (1, .int a1), (2, .int a2)]) hx hb dX10_lowestFirst_74 hl (k := 1) rfl (by rw [ex34]; rfl) (by decide) rfl (fun ls hl => ?_)
            refine lv_goto (tgt := 24) hx hb dX10_lowestFirst_77 (by decide) ?_
            exact lp8ih x34 w25 _ _ _ (by omega) (by omega) (by omega) (by omega) (by have u9 := zu_B_up (l := (zu_rl I k a1.toNatClampNeg)) (h := (zu_rh I k a1.toNatClampNeg)) (v := (zu_rv I k a1.toNatClampNeg)) (n := (a2.toNatClampNeg - a1.toNatClampNeg)) (d := (a2.toInt - 1 - y9.toInt).toNat) lp8B.1 lp8B.2.1 hv17 hv21 hv27 (w := w25.toInt) (by omega); exact ⟨by rw [show (a2.toInt - 1 - x34.toInt).toNat = (a2.toInt - 1 - y9.toInt).toNat + 1 by omega]; exact u9.1 (by omega), by omega, by omega, by omega, by omega⟩) hW hS (lv_sub hl [0, 1, 2, 3, 4] rfl)
          · have g35 := z_f_nle rfl z_l0 c32
            refine lv_ldc2 (v := (-1)) hx hb hown (hts (.constantLong RX10 53 (-1)) (me_s (me_l (List.mem_of_getElem? (i := 7) rfl)))) dX10_lowestFirst_70 ?_
            exact z_lret hx hb hr hK hS (Nat.le_of_ble_eq_true rfl) (Nat.le_of_ble_eq_true rfl) hlocks dX10_lowestFirst_73 (shC c, ad, I, JX, PC c ad) hW ⟨rfl, (by have u9 := zu_B_up (l := (zu_rl I k a1.toNatClampNeg)) (h := (zu_rh I k a1.toNatClampNeg)) (v := (zu_rv I k a1.toNatClampNeg)) (n := (a2.toNatClampNeg - a1.toNatClampNeg)) (d := (a2.toInt - 1 - y9.toInt).toNat) lp8B.1 lp8B.2.1 hv17 hv21 hv27 (w := w25.toInt) (by omega); have b9 := u9.2 (by omega); rw [zu_B_m b9 (by omega)]; decide)⟩
    exact lp8 4294967296 x7 w6 _ _ _ (z_m0d _) (by omega) (by omega) (by omega) ⟨by rw [show (a2.toInt - 1 - x7.toInt).toNat = 0 by omega]; show zu_rl I k a1.toNatClampNeg (a2.toNatClampNeg - a1.toNatClampNeg) = _; omega, by omega, by omega, by omega, by omega⟩ hW hS (lv_sub hl [0, 1, 2, 3, 4] rfl)
  · refine lv_if_ne (tgt := 11) hx hb dX10_lowestFirst_6 (by decide) (fun c36 => absurd (by decide) c36) (fun c36 => ?_)
    refine lv_lconst (v := 0) hx hb dX10_lowestFirst_9 (by decide) ?_
    exact z_lret hx hb hr hK hS (Nat.le_of_ble_eq_true rfl) (Nat.le_of_ble_eq_true rfl) hlocks dX10_lowestFirst_10 (shC c, ad, I, JX, PC c ad) hW ⟨rfl, (by exfalso; omega)⟩
set_option maxHeartbeats 8000000 in
set_option maxRecDepth 100000 in
theorem sx_X10_inTogether_u (l : Launch) (G : z_G) (ad : Nat → Nat) (c : z_C) (I : z_I) (k : Nat) (a1 : Int32) (a2 : Int32) (hk : k < c.1) (h10 : c.1 ≤ 10) (hsp : (0 ≤ a1.toInt ∧ a1.toInt < a2.toInt) ∧ a2.toInt < (I (100 + 8 * k) 4).toInt) (hg : zu_gb I k a1.toNatClampNeg (a2.toNatClampNeg - a1.toNatClampNeg)) (hS0 : z_iS c I) : z_Ml l yX10_inTogether wsX10_inTogether { frames := 1, cells := 0, slots := 0, locals := 40 } [.ref (ad (100 + 8 * k)), .int a1, .int a2] G (shC c, ad, I, JX, PC c ad) (fun r u1 => u1 = (shC c, ad, I, JX, PC c ad) ∧ (r.toInt = zu_s (zu_rv I k a1.toNatClampNeg) (a2.toNatClampNeg - a1.toNatClampNeg) ∧ -31900000000 ≤ r.toInt ∧ r.toInt ≤ 31900000000)) 0 0 := by
  intro sz
  refine z_headQ (cc := cX10_inTogether) (maxL := 6) (ret := (some .long)) (by decide) rfl (Nat.le_of_ble_eq_true rfl) ?_
  intro p e s m below meth c0 ls hIn hK hsz hW hl
  obtain ⟨hx, hb, hr, hml, hown, hts, hlocks, hname⟩ := hIn
  subst hsz
  have hown : s.vm.findClass RX10 = some m.cls := hown
  have hA : ∀ q : Nat, s.heap.size ≤ q → z_A (shC c, ad, I, JX, PC c ad) s.heap.size q := fun q h => Or.inr h
  generalize hAe : z_A (shC c, ad, I, JX, PC c ad) s.heap.size = A at *
  have hS : va_S A s.heap s.heap [] := va_S.rf
  have hl : lv_has ls 6 [(0, .ref (ad (100 + 8 * k))), (1, .int a1), (2, .int a2)] := hl
  have s9 : 0 ≤ (I (100 + 8 * k) 4).toInt ∧ (I (100 + 8 * k) 4).toInt ≤ 30 := hS0 k hk
  have ca1 := z_clt (x := a1) rfl (by omega)
  have ca2 := z_clt (x := a2) rfl (by omega)
  refine lv_lconst (v := 0) hx hb dX10_inTogether_0 (by decide) ?_
  refine lv_lstore_n (lv' := [(3, .long 0), (0, .ref (ad (100 + 8 * k))), (1, .int a1), (2, .int a2)]) hx hb dX10_inTogether_1 rfl hl (by decide) rfl (fun ls hl => ?_)
  refine lv_iload_n hx hb dX10_inTogether_2 rfl (lv_at hl 2 rfl) ?_
  refine lv_iconst (v := 0) hx hb dX10_inTogether_3 (by decide) ?_
  refine va_mmax (x := a1) (y := 0) hx hb (hml.trans hl.1.symm) hown (hts (.methodLink RX10 55 Lib.Math.max.name) (me_s (me_l (List.mem_of_getElem? (i := 0) rfl)))) (hts (.static Lib.Math.max.name) (me_s (me_l (List.mem_of_getElem? (i := 1) rfl)))) (hts (.initialized "java/lang/Math") (me_s (me_l (List.mem_of_getElem? (i := 2) rfl)))) (hts (.code Lib.Math.max.name Lib.Math.max.code 2 (some .int)) (me_s (me_l (List.mem_of_getElem? (i := 3) rfl)))) (Nat.le_of_ble_eq_true rfl) (Nat.le_of_ble_eq_true rfl) (Nat.le_of_ble_eq_true rfl) (Nat.le_of_ble_eq_true rfl) dX10_inTogether_4 ?_
  refine lv_topi (fun x1 ex1 => ?_)
  have tx1 := z_tmmax ex1 rfl z_l0
  refine lv_istore (lv' := [(5, .int x1), (3, .long 0), (0, .ref (ad (100 + 8 * k))), (1, .int a1), (2, .int a2)]) hx hb dX10_inTogether_7 hl (by decide) rfl (fun ls hl => ?_)
  have lp2 : ∀ (f : Nat) (y3 : Int32) (w4 : Int64) (H : Heap) (locs : List Loc) (ls : Array Slot), (2147483647 < y3.toInt + (f : Int)) → (0 ≤ y3.toInt) → (y3.toInt ≤ 29) → (x1.toInt ≤ y3.toInt) → (w4.toInt = zu_s (zu_rv I k a1.toNatClampNeg) (y3.toInt - a1.toInt).toNat ∧ -1100000000 * (y3.toInt - a1.toInt) ≤ w4.toInt ∧ w4.toInt ≤ 1100000000 * (y3.toInt - a1.toInt) ∧ a1.toInt ≤ y3.toInt ∧ y3.toInt ≤ a2.toInt) → z_W G A (shC c, ad, I, JX, PC c ad) H → va_S A s.heap H locs → lv_has ls 6 [(5, .int y3), (3, .long w4), (0, .ref (ad (100 + 8 * k))), (1, .int a1), (2, .int a2)] → W p l e (headSpec wsX10_inTogether { frames := 1, cells := 0, slots := 0, locals := 40 }).room s m ([.ref (ad (100 + 8 * k)), .int a1, .int a2] : List Value).toArray below meth c0 H locs 0 0 (MQ below (va_Ql (fun (r : Int64) (u1 : z_U) => u1 = (shC c, ad, I, JX, PC c ad) ∧ (r.toInt = zu_s (zu_rv I k a1.toNatClampNeg) (a2.toNatClampNeg - a1.toNatClampNeg) ∧ -31900000000 ≤ r.toInt ∧ r.toInt ≤ 31900000000)) (z_B G A) A) ([.ref (ad (100 + 8 * k)), .int a1, .int a2] : List Value).toArray s 0 0 A) (F0 m 9 ls []) := by
    intro f
    induction f with
    | zero => intro y3 w4 H locs ls lp2m lp2l5 lp2u5 lp2z lp2T hW hS hl; exact absurd lp2m (by have := Int32.toInt_lt y3; have := Int32.le_toInt y3; omega)
    | succ f lp2ih =>
      intro y3 w4 H locs ls lp2m lp2l5 lp2u5 lp2z lp2T hW hS hl
      refine lv_iload hx hb dX10_inTogether_9 (lv_at hl 0 rfl) ?_
      refine lv_iload_n hx hb dX10_inTogether_11 rfl (lv_at hl 4 rfl) ?_
      refine lv_icmp_ge (tgt := 39) hx hb dX10_inTogether_12 (by decide) (fun c5 => ?_) (fun c5 => ?_)
      · have g6 := z_f_ge rfl rfl c5
        refine lv_lload_n hx hb dX10_inTogether_39 rfl (lv_at hl 1 rfl) ?_
        exact z_lret hx hb hr hK hS (Nat.le_of_ble_eq_true rfl) (Nat.le_of_ble_eq_true rfl) hlocks dX10_inTogether_40 (shC c, ad, I, JX, PC c ad) hW ⟨rfl, (by have b9 := lp2T; rw [show (y3.toInt - a1.toInt).toNat = (a2.toNatClampNeg - a1.toNatClampNeg) by omega] at b9; exact ⟨b9.1, by omega, by omega⟩)⟩
      · have g7 := z_f_nge rfl rfl c5
        refine lv_iload hx hb dX10_inTogether_15 (lv_at hl 0 rfl) ?_
        refine lv_bipush (v := 30) hx hb dX10_inTogether_17 (by decide) ?_
        refine lv_icmp_ge (tgt := 39) hx hb dX10_inTogether_19 (by decide) (fun c8 => (by have g := z_f_ge rfl z_l30 c8; omega)) (fun c8 => ?_)
        have g9 := z_f_nge rfl z_l30 c8
        have c9 := z_clt (x := y3) rfl (by omega)
        refine lv_lload_n hx hb dX10_inTogether_22 rfl (lv_at hl 1 rfl) ?_
        refine lv_aload_n hx hb dX10_inTogether_23 rfl (lv_at hl 2 rfl) ?_
        refine z_get (T := TX10) (N := 10) (ci := 10) (i := (100 + 8 * k)) (v := .ref (ad (100 + 8 * k + 7))) hx hb hts zj_X10_inTogether_X10 hown hK hW (z_ss0 hk h10) rfl 9 (by decide) (hts (.fieldLink RX10 30 "PetrolBoard$Station" "in" "[I") (me_s (me_l (List.mem_of_getElem? (i := 4) rfl)))) (fun _ h => h) (z_pS hk h10 rfl rfl) dX10_inTogether_24 ?_
        refine lv_iload hx hb dX10_inTogether_27 (lv_at hl 0 rfl) ?_
        refine z_iald (i := (100 + 8 * k + 7)) hx hb hK hW (z_ssj hk h10 (by decide)) (z_ix rfl (by omega) (by omega)) dX10_inTogether_29 ?_
        refine lv_topi (fun x10 ex10 => ?_)
        have hv11 : zu_rv I k a1.toNatClampNeg (y3.toInt - a1.toInt).toNat = x10.toInt := by unfold zu_rv; rw [ex10, show a1.toNatClampNeg + (y3.toInt - a1.toInt).toNat = y3.toNatClampNeg by omega]
        have hu12 := hg (y3.toInt - a1.toInt).toNat (by omega)
        refine lv_i2l (v := x10.toInt64) hx hb dX10_inTogether_30 rfl ?_
        refine lv_topl (fun w13 ew13 => ?_)
        have tw13 : w13.toInt = x10.toInt := z_ti2l ew13 rfl
        refine lv_ladd hx hb dX10_inTogether_31 ?_
        refine lv_topl (fun w14 ew14 => ?_)
        have tw14 : w14.toInt = w4.toInt + x10.toInt := z_tladd ew14 rfl tw13 (by omega) (by omega)
        refine lv_lstore_n (lv' := [(3, .long w14), (5, .int y3), (0, .ref (ad (100 + 8 * k))), (1, .int a1), (2, .int a2)]) hx hb dX10_inTogether_32 rfl hl (by decide) rfl (fun ls hl => ?_)
        obtain ⟨x15, ex15⟩ : ∃ y : Int32, y = y3 + 1 := ⟨_, rfl⟩
        have tx15 : x15.toInt = y3.toInt + 1 := z_tadd ex15 rfl z_l1 (by omega) (by omega)
        refine lv_iinc (v := x15) (lv' := [(5, .int x15), (3, .long w14), (0, .ref (ad (100 + 8 * k))), (1, .int a1), (2, .int a2)]) hx hb dX10_inTogether_33 hl (k := 1) rfl (by rw [ex15]; rfl) (by decide) rfl (fun ls hl => ?_)
        refine lv_goto (tgt := 9) hx hb dX10_inTogether_36 (by decide) ?_
        exact lp2ih x15 w14 _ _ _ (by omega) (by omega) (by omega) (by omega) ⟨by rw [show (x15.toInt - a1.toInt).toNat = (y3.toInt - a1.toInt).toNat + 1 by omega, zu_s_s, hv11]; have q9 := lp2T.1; omega, by omega, by omega, by omega, by omega⟩ hW hS (lv_sub hl [0, 1, 2, 3, 4] rfl)
  exact lp2 4294967296 x1 0 _ _ _ (z_m0u _) (by omega) (by omega) (by omega) (by have q0 : (0 : Int64).toInt = 0 := (by decide); exact ⟨by rw [show (x1.toInt - a1.toInt).toNat = 0 by omega]; exact q0, by omega, by omega, by omega, by omega⟩) hW hS (lv_sub hl [0, 1, 2, 3, 4] rfl)
set_option maxHeartbeats 8000000 in
set_option maxRecDepth 100000 in
theorem sx_X10_mostBlack_u (l : Launch) (G : z_G) (ad : Nat → Nat) (c : z_C) (I : z_I) (k : Nat) (a1 : Int32) (a2 : Int32) (hk : k < c.1) (h10 : c.1 ≤ 10) (hsp : (0 ≤ a1.toInt ∧ a1.toInt < a2.toInt) ∧ a2.toInt < (I (100 + 8 * k) 4).toInt) (hg : zu_gb I k a1.toNatClampNeg (a2.toNatClampNeg - a1.toNatClampNeg)) (hS0 : z_iS c I) : z_Ml l yX10_mostBlack wsX10_mostBlack { frames := 3, cells := 0, slots := 0, locals := 65 } [.ref (ad (100 + 8 * k)), .int a1, .int a2] G (shC c, ad, I, JX, PC c ad) (fun r u1 => u1 = (shC c, ad, I, JX, PC c ad) ∧ (r.toInt = zu_X (zu_rl I k a1.toNatClampNeg) (zu_rh I k a1.toNatClampNeg) (zu_rv I k a1.toNatClampNeg) (a2.toNatClampNeg - a1.toNatClampNeg) 1)) 0 0 := by
  intro sz
  refine z_headQ (cc := cX10_mostBlack) (maxL := 3) (ret := (some .long)) (by decide) rfl (Nat.le_of_ble_eq_true rfl) ?_
  intro p e s m below meth c0 ls hIn hK hsz hW hl
  obtain ⟨hx, hb, hr, hml, hown, hts, hlocks, hname⟩ := hIn
  subst hsz
  have hown : s.vm.findClass RX10 = some m.cls := hown
  have hA : ∀ q : Nat, s.heap.size ≤ q → z_A (shC c, ad, I, JX, PC c ad) s.heap.size q := fun q h => Or.inr h
  generalize hAe : z_A (shC c, ad, I, JX, PC c ad) s.heap.size = A at *
  have hS : va_S A s.heap s.heap [] := va_S.rf
  have hl : lv_has ls 3 [(0, .ref (ad (100 + 8 * k))), (1, .int a1), (2, .int a2)] := hl
  have s9 : 0 ≤ (I (100 + 8 * k) 4).toInt ∧ (I (100 + 8 * k) 4).toInt ≤ 30 := hS0 k hk
  have ca1 := z_clt (x := a1) rfl (by omega)
  have ca2 := z_clt (x := a2) rfl (by omega)
  refine lv_aload_n hx hb dX10_mostBlack_0 rfl (lv_at hl 0 rfl) ?_
  refine lv_iload_n hx hb dX10_mostBlack_1 rfl (lv_at hl 1 rfl) ?_
  refine lv_iload_n hx hb dX10_mostBlack_2 rfl (lv_at hl 2 rfl) ?_
  refine z_ci hW hS hA (va_runV (As := [.int a1, .int a2]) (rest := []) ⟨hx, hb, hml, hown, hts⟩ (sx_X10_hasSpan_u l G ad c I  k a1 a2 hk h10  hS0 _) (cwV 2 hts gX10_mostBlack_X10_hasSpan rfl rfl rfl (by decide +kernel) ⟨Nat.le_of_ble_eq_true rfl, Nat.le_of_ble_eq_true rfl⟩) (z_preV (i := (100 + 8 * k)) hK hW (z_ss0 hk h10) rfl) rfl rfl hl.1 rfl (lv_room (Nat.le_of_ble_eq_true rfl)) dX10_mostBlack_3 ⟨Nat.le_of_ble_eq_true rfl, Nat.le_of_ble_eq_true rfl⟩) (fun r u1 H locs hp hW hS => ?_)
  obtain ⟨e9, hp⟩ := hp
  rw [e9] at hW
  rcases hp with ⟨rfl, hs1⟩ | ⟨rfl, hs1⟩
  · refine lv_if_ne (tgt := 13) hx hb dX10_mostBlack_6 (by decide) (fun c2 => ?_) (fun c2 => absurd c2 (by decide))
    refine lv_aload_n hx hb dX10_mostBlack_13 rfl (lv_at hl 0 rfl) ?_
    refine lv_iload_n hx hb dX10_mostBlack_14 rfl (lv_at hl 1 rfl) ?_
    refine lv_iload_n hx hb dX10_mostBlack_15 rfl (lv_at hl 2 rfl) ?_
    refine z_cl hW hS hA (va_runV (As := [.int a1, .int a2]) (rest := []) ⟨hx, hb, hml, hown, hts⟩ (sx_X10_lowestFirst_u l G ad c I  k a1 a2 hk h10 hsp hg hS0 _) (cwV 2 hts gX10_mostBlack_X10_lowestFirst rfl rfl rfl (by decide +kernel) ⟨Nat.le_of_ble_eq_true rfl, Nat.le_of_ble_eq_true rfl⟩) (z_preV (i := (100 + 8 * k)) hK hW (z_ss0 hk h10) rfl) rfl rfl hl.1 rfl (lv_room (Nat.le_of_ble_eq_true rfl)) dX10_mostBlack_16 ⟨Nat.le_of_ble_eq_true rfl, Nat.le_of_ble_eq_true rfl⟩) (fun r u1 H locs hp hW hS => ?_)
    obtain ⟨e9, hp⟩ := hp
    rw [e9] at hW
    refine lv_topl (fun w3 ew3 => ?_)
    rw [← ew3] at hp
    have hl4 := hp
    have hb5 := zu_B_g hg
    refine lv_ldc2 (v := (-1)) hx hb hown (hts (.constantLong RX10 53 (-1)) (me_s (me_l (me_l (List.mem_of_getElem? (i := 0) rfl))))) dX10_mostBlack_19 ?_
    refine W.lcmp hx hb dX10_mostBlack_22 ?_
    refine lv_topi (fun x6 ex6 => ?_)
    have tx6 := z_tcmp ex6
    have h7 := z_tlcmp ex6 rfl (show ((-1) : Int64).toInt = (-1) by decide)
    refine lv_if_ne (tgt := 30) hx hb dX10_mostBlack_23 (by decide) (fun c8 => ?_) (fun c8 => ?_)
    · have g9 := z_f_ne rfl z_l0 c8
      refine lv_aload_n hx hb dX10_mostBlack_30 rfl (lv_at hl 0 rfl) ?_
      refine lv_iload_n hx hb dX10_mostBlack_31 rfl (lv_at hl 1 rfl) ?_
      refine lv_iload_n hx hb dX10_mostBlack_32 rfl (lv_at hl 2 rfl) ?_
      refine z_cl hW hS hA (va_runV (As := [.int a1, .int a2]) (rest := []) ⟨hx, hb, hml, hown, hts⟩ (sx_X10_inTogether_u l G ad c I  k a1 a2 hk h10 hsp hg hS0 _) (cwV 2 hts gX10_mostBlack_X10_inTogether rfl rfl rfl (by decide +kernel) ⟨Nat.le_of_ble_eq_true rfl, Nat.le_of_ble_eq_true rfl⟩) (z_preV (i := (100 + 8 * k)) hK hW (z_ss0 hk h10) rfl) rfl rfl hl.1 rfl (lv_room (Nat.le_of_ble_eq_true rfl)) dX10_mostBlack_33 ⟨Nat.le_of_ble_eq_true rfl, Nat.le_of_ble_eq_true rfl⟩) (fun r u1 H locs hp hW hS => ?_)
      obtain ⟨e9, hp⟩ := hp
      rw [e9] at hW
      refine lv_topl (fun w10 ew10 => ?_)
      rw [← ew10] at hp
      have hl11 := hp
      refine lv_aload_n hx hb dX10_mostBlack_36 rfl (lv_at hl 0 rfl) ?_
      refine z_get (T := TX10) (N := 10) (ci := 10) (i := (100 + 8 * k)) (v := .ref (ad (100 + 8 * k + 6))) hx hb hts zj_X10_mostBlack_X10 hown hK hW (z_ss0 hk h10) rfl 8 (by decide) (hts (.fieldLink RX10 27 "PetrolBoard$Station" "high" "[I") (me_s (me_l (me_l (List.mem_of_getElem? (i := 2) rfl))))) (fun _ h => h) (z_pS hk h10 rfl rfl) dX10_mostBlack_37 ?_
      refine lv_iload_n hx hb dX10_mostBlack_40 rfl (lv_at hl 1 rfl) ?_
      refine z_iald (i := (100 + 8 * k + 6)) hx hb hK hW (z_ssj hk h10 (by decide)) (z_ix rfl (by omega) (by omega)) dX10_mostBlack_41 ?_
      refine lv_topi (fun x12 ex12 => ?_)
      have hv13 : zu_rh I k a1.toNatClampNeg 0 = x12.toInt := by unfold zu_rh; rw [ex12, show a1.toNatClampNeg + 0 = a1.toNatClampNeg by omega]
      have hu14 := hg 0 (by omega)
      refine lv_i2l (v := x12.toInt64) hx hb dX10_mostBlack_42 rfl ?_
      refine lv_topl (fun w15 ew15 => ?_)
      have tw15 : w15.toInt = x12.toInt := z_ti2l ew15 rfl
      refine lv_ladd hx hb dX10_mostBlack_43 ?_
      refine lv_topl (fun w16 ew16 => ?_)
      have tw16 : w16.toInt = w10.toInt + x12.toInt := z_tladd ew16 rfl tw15 (by omega) (by omega)
      refine lv_aload_n hx hb dX10_mostBlack_44 rfl (lv_at hl 0 rfl) ?_
      refine z_get (T := TX10) (N := 10) (ci := 10) (i := (100 + 8 * k)) (v := .ref (ad (100 + 8 * k + 5))) hx hb hts zj_X10_mostBlack_X10 hown hK hW (z_ss0 hk h10) rfl 7 (by decide) (hts (.fieldLink RX10 24 "PetrolBoard$Station" "low" "[I") (me_s (me_l (me_l (List.mem_of_getElem? (i := 3) rfl))))) (fun _ h => h) (z_pS hk h10 rfl rfl) dX10_mostBlack_45 ?_
      refine lv_iload_n hx hb dX10_mostBlack_48 rfl (lv_at hl 2 rfl) ?_
      refine z_iald (i := (100 + 8 * k + 5)) hx hb hK hW (z_ssj hk h10 (by decide)) (z_ix rfl (by omega) (by omega)) dX10_mostBlack_49 ?_
      refine lv_topi (fun x17 ex17 => ?_)
      have hv18 : zu_rl I k a1.toNatClampNeg (a2.toNatClampNeg - a1.toNatClampNeg) = x17.toInt := by unfold zu_rl; rw [ex17, show a1.toNatClampNeg + (a2.toNatClampNeg - a1.toNatClampNeg) = a2.toNatClampNeg by omega]
      have hu19 := hg (a2.toNatClampNeg - a1.toNatClampNeg) (by omega)
      refine lv_i2l (v := x17.toInt64) hx hb dX10_mostBlack_50 rfl ?_
      refine lv_topl (fun w20 ew20 => ?_)
      have tw20 : w20.toInt = x17.toInt := z_ti2l ew20 rfl
      refine lv_lsub hx hb dX10_mostBlack_51 ?_
      refine lv_topl (fun w21 ew21 => ?_)
      have tw21 : w21.toInt = (w10.toInt + x12.toInt) - x17.toInt := z_tlsub ew21 tw16 tw20 (by omega) (by omega)
      exact z_lret hx hb hr hK hS (Nat.le_of_ble_eq_true rfl) (Nat.le_of_ble_eq_true rfl) hlocks dX10_mostBlack_52 (shC c, ad, I, JX, PC c ad) hW ⟨rfl, (by unfold zu_X; rw [if_neg (by omega), if_neg (by decide)]; omega)⟩
    · have g22 := z_f_eq rfl z_l0 c8
      refine lv_ldc2 (v := (-3)) hx hb hown (hts (.constantLong RX10 62 (-3)) (me_s (me_l (me_l (List.mem_of_getElem? (i := 1) rfl))))) dX10_mostBlack_26 ?_
      exact z_lret hx hb hr hK hS (Nat.le_of_ble_eq_true rfl) (Nat.le_of_ble_eq_true rfl) hlocks dX10_mostBlack_29 (shC c, ad, I, JX, PC c ad) hW ⟨rfl, (by unfold zu_X; rw [if_pos (by omega)]; decide)⟩
  · refine lv_if_ne (tgt := 13) hx hb dX10_mostBlack_6 (by decide) (fun c23 => absurd (by decide) c23) (fun c23 => ?_)
    refine lv_ldc2 (v := (-1)) hx hb hown (hts (.constantLong RX10 53 (-1)) (me_s (me_l (me_l (List.mem_of_getElem? (i := 0) rfl))))) dX10_mostBlack_9 ?_
    exact z_lret hx hb hr hK hS (Nat.le_of_ble_eq_true rfl) (Nat.le_of_ble_eq_true rfl) hlocks dX10_mostBlack_12 (shC c, ad, I, JX, PC c ad) hW ⟨rfl, (by exfalso; omega)⟩
set_option maxHeartbeats 8000000 in
set_option maxRecDepth 100000 in
theorem sx_X10_leastBlack_u (l : Launch) (G : z_G) (ad : Nat → Nat) (c : z_C) (I : z_I) (k : Nat) (a1 : Int32) (a2 : Int32) (hk : k < c.1) (h10 : c.1 ≤ 10) (hsp : (0 ≤ a1.toInt ∧ a1.toInt < a2.toInt) ∧ a2.toInt < (I (100 + 8 * k) 4).toInt) (hg : zu_gb I k a1.toNatClampNeg (a2.toNatClampNeg - a1.toNatClampNeg)) (hS0 : z_iS c I) : z_Ml l yX10_leastBlack wsX10_leastBlack { frames := 3, cells := 0, slots := 0, locals := 65 } [.ref (ad (100 + 8 * k)), .int a1, .int a2] G (shC c, ad, I, JX, PC c ad) (fun r u1 => u1 = (shC c, ad, I, JX, PC c ad) ∧ (r.toInt = zu_X (zu_rl I k a1.toNatClampNeg) (zu_rh I k a1.toNatClampNeg) (zu_rv I k a1.toNatClampNeg) (a2.toNatClampNeg - a1.toNatClampNeg) 0)) 0 0 := by
  intro sz
  refine z_headQ (cc := cX10_leastBlack) (maxL := 8) (ret := (some .long)) (by decide) rfl (Nat.le_of_ble_eq_true rfl) ?_
  intro p e s m below meth c0 ls hIn hK hsz hW hl
  obtain ⟨hx, hb, hr, hml, hown, hts, hlocks, hname⟩ := hIn
  subst hsz
  have hown : s.vm.findClass RX10 = some m.cls := hown
  have hA : ∀ q : Nat, s.heap.size ≤ q → z_A (shC c, ad, I, JX, PC c ad) s.heap.size q := fun q h => Or.inr h
  generalize hAe : z_A (shC c, ad, I, JX, PC c ad) s.heap.size = A at *
  have hS : va_S A s.heap s.heap [] := va_S.rf
  have hl : lv_has ls 8 [(0, .ref (ad (100 + 8 * k))), (1, .int a1), (2, .int a2)] := hl
  have s9 : 0 ≤ (I (100 + 8 * k) 4).toInt ∧ (I (100 + 8 * k) 4).toInt ≤ 30 := hS0 k hk
  have ca1 := z_clt (x := a1) rfl (by omega)
  have ca2 := z_clt (x := a2) rfl (by omega)
  refine lv_aload_n hx hb dX10_leastBlack_0 rfl (lv_at hl 0 rfl) ?_
  refine lv_iload_n hx hb dX10_leastBlack_1 rfl (lv_at hl 1 rfl) ?_
  refine lv_iload_n hx hb dX10_leastBlack_2 rfl (lv_at hl 2 rfl) ?_
  refine z_ci hW hS hA (va_runV (As := [.int a1, .int a2]) (rest := []) ⟨hx, hb, hml, hown, hts⟩ (sx_X10_hasSpan_u l G ad c I  k a1 a2 hk h10  hS0 _) (cwV 2 hts gX10_leastBlack_X10_hasSpan rfl rfl rfl (by decide +kernel) ⟨Nat.le_of_ble_eq_true rfl, Nat.le_of_ble_eq_true rfl⟩) (z_preV (i := (100 + 8 * k)) hK hW (z_ss0 hk h10) rfl) rfl rfl hl.1 rfl (lv_room (Nat.le_of_ble_eq_true rfl)) dX10_leastBlack_3 ⟨Nat.le_of_ble_eq_true rfl, Nat.le_of_ble_eq_true rfl⟩) (fun r u1 H locs hp hW hS => ?_)
  obtain ⟨e9, hp⟩ := hp
  rw [e9] at hW
  rcases hp with ⟨rfl, hs1⟩ | ⟨rfl, hs1⟩
  · refine lv_if_ne (tgt := 13) hx hb dX10_leastBlack_6 (by decide) (fun c2 => ?_) (fun c2 => absurd c2 (by decide))
    refine lv_aload_n hx hb dX10_leastBlack_13 rfl (lv_at hl 0 rfl) ?_
    refine lv_iload_n hx hb dX10_leastBlack_14 rfl (lv_at hl 1 rfl) ?_
    refine lv_iload_n hx hb dX10_leastBlack_15 rfl (lv_at hl 2 rfl) ?_
    refine z_cl hW hS hA (va_runV (As := [.int a1, .int a2]) (rest := []) ⟨hx, hb, hml, hown, hts⟩ (sx_X10_lowestFirst_u l G ad c I  k a1 a2 hk h10 hsp hg hS0 _) (cwV 2 hts gX10_leastBlack_X10_lowestFirst rfl rfl rfl (by decide +kernel) ⟨Nat.le_of_ble_eq_true rfl, Nat.le_of_ble_eq_true rfl⟩) (z_preV (i := (100 + 8 * k)) hK hW (z_ss0 hk h10) rfl) rfl rfl hl.1 rfl (lv_room (Nat.le_of_ble_eq_true rfl)) dX10_leastBlack_16 ⟨Nat.le_of_ble_eq_true rfl, Nat.le_of_ble_eq_true rfl⟩) (fun r u1 H locs hp hW hS => ?_)
    obtain ⟨e9, hp⟩ := hp
    rw [e9] at hW
    refine lv_topl (fun w3 ew3 => ?_)
    rw [← ew3] at hp
    have hl4 := hp
    have hb5 := zu_B_g hg
    refine lv_lstore_n (lv' := [(3, .long w3), (0, .ref (ad (100 + 8 * k))), (1, .int a1), (2, .int a2)]) hx hb dX10_leastBlack_19 rfl hl (by decide) rfl (fun ls hl => ?_)
    refine lv_lload_n hx hb dX10_leastBlack_20 rfl (lv_at hl 0 rfl) ?_
    refine lv_ldc2 (v := (-1)) hx hb hown (hts (.constantLong RX10 53 (-1)) (me_s (me_l (me_l (List.mem_of_getElem? (i := 0) rfl))))) dX10_leastBlack_21 ?_
    refine W.lcmp hx hb dX10_leastBlack_24 ?_
    refine lv_topi (fun x6 ex6 => ?_)
    have tx6 := z_tcmp ex6
    have h7 := z_tlcmp ex6 rfl (show ((-1) : Int64).toInt = (-1) by decide)
    refine lv_if_ne (tgt := 32) hx hb dX10_leastBlack_25 (by decide) (fun c8 => ?_) (fun c8 => ?_)
    · have g9 := z_f_ne rfl z_l0 c8
      refine lv_lload_n hx hb dX10_leastBlack_32 rfl (lv_at hl 0 rfl) ?_
      refine lv_lstore (lv' := [(5, .long w3), (3, .long w3), (0, .ref (ad (100 + 8 * k))), (1, .int a1), (2, .int a2)]) hx hb dX10_leastBlack_33 hl (by decide) rfl (fun ls hl => ?_)
      refine lv_iload_n hx hb dX10_leastBlack_35 rfl (lv_at hl 3 rfl) ?_
      refine lv_iconst (v := 1) hx hb dX10_leastBlack_36 (by decide) ?_
      refine lv_iadd hx hb dX10_leastBlack_37 ?_
      refine lv_topi (fun x10 ex10 => ?_)
      have tx10 : x10.toInt = a1.toInt + 1 := z_tadd ex10 rfl z_l1 (by omega) (by omega)
      refine lv_istore (lv' := [(7, .int x10), (5, .long w3), (3, .long w3), (0, .ref (ad (100 + 8 * k))), (1, .int a1), (2, .int a2)]) hx hb dX10_leastBlack_38 hl (by decide) rfl (fun ls hl => ?_)
      have lp11 : ∀ (f : Nat) (y12 : Int32) (w13 : Int64) (H : Heap) (locs : List Loc) (ls : Array Slot), (2147483647 < y12.toInt + (f : Int)) → (1 ≤ y12.toInt) → (y12.toInt ≤ 30) → (x10.toInt ≤ y12.toInt) → (w13.toInt = zu_U (zu_rh I k a1.toNatClampNeg) (zu_rv I k a1.toNatClampNeg) (zu_B (zu_rl I k a1.toNatClampNeg) (zu_rh I k a1.toNatClampNeg) (zu_rv I k a1.toNatClampNeg) (a2.toNatClampNeg - a1.toNatClampNeg) (a2.toNatClampNeg - a1.toNatClampNeg)) (y12.toInt - 1 - a1.toInt).toNat ∧ -1100000000 * (y12.toInt - 1 - a1.toInt) ≤ w13.toInt ∧ w13.toInt ≤ 1199999 ∧ a1.toInt + 1 ≤ y12.toInt ∧ y12.toInt ≤ a2.toInt + 1) → z_W G A (shC c, ad, I, JX, PC c ad) H → va_S A s.heap H locs → lv_has ls 8 [(7, .int y12), (5, .long w13), (3, .long w3), (0, .ref (ad (100 + 8 * k))), (1, .int a1), (2, .int a2)] → W p l e (headSpec wsX10_leastBlack { frames := 3, cells := 0, slots := 0, locals := 65 }).room s m ([.ref (ad (100 + 8 * k)), .int a1, .int a2] : List Value).toArray below meth c0 H locs 0 0 (MQ below (va_Ql (fun (r : Int64) (u1 : z_U) => u1 = (shC c, ad, I, JX, PC c ad) ∧ (r.toInt = zu_X (zu_rl I k a1.toNatClampNeg) (zu_rh I k a1.toNatClampNeg) (zu_rv I k a1.toNatClampNeg) (a2.toNatClampNeg - a1.toNatClampNeg) 0)) (z_B G A) A) ([.ref (ad (100 + 8 * k)), .int a1, .int a2] : List Value).toArray s 0 0 A) (F0 m 40 ls []) := by
        intro f
        induction f with
        | zero => intro y12 w13 H locs ls lp11m lp11l7 lp11u7 lp11z lp11U hW hS hl; exact absurd lp11m (by have := Int32.toInt_lt y12; have := Int32.le_toInt y12; omega)
        | succ f lp11ih =>
          intro y12 w13 H locs ls lp11m lp11l7 lp11u7 lp11z lp11U hW hS hl
          refine lv_iload hx hb dX10_leastBlack_40 (lv_at hl 0 rfl) ?_
          refine lv_iload_n hx hb dX10_leastBlack_42 rfl (lv_at hl 5 rfl) ?_
          refine lv_icmp_gt (tgt := 85) hx hb dX10_leastBlack_43 (by decide) (fun c14 => ?_) (fun c14 => ?_)
          · have g15 := z_f_gt rfl rfl c14
            refine lv_aload_n hx hb dX10_leastBlack_85 rfl (lv_at hl 3 rfl) ?_
            refine lv_iload_n hx hb dX10_leastBlack_86 rfl (lv_at hl 4 rfl) ?_
            refine lv_iload_n hx hb dX10_leastBlack_87 rfl (lv_at hl 5 rfl) ?_
            refine z_cl hW hS hA (va_runV (As := [.int a1, .int a2]) (rest := []) ⟨hx, hb, hml, hown, hts⟩ (sx_X10_inTogether_u l G ad c I  k a1 a2 hk h10 hsp hg hS0 _) (cwV 2 hts gX10_leastBlack_X10_inTogether rfl rfl rfl (by decide +kernel) ⟨Nat.le_of_ble_eq_true rfl, Nat.le_of_ble_eq_true rfl⟩) (z_preV (i := (100 + 8 * k)) hK hW (z_ss0 hk h10) rfl) rfl rfl hl.1 rfl (lv_room (Nat.le_of_ble_eq_true rfl)) dX10_leastBlack_88 ⟨Nat.le_of_ble_eq_true rfl, Nat.le_of_ble_eq_true rfl⟩) (fun r u1 H locs hp hW hS => ?_)
            obtain ⟨e9, hp⟩ := hp
            rw [e9] at hW
            refine lv_topl (fun w16 ew16 => ?_)
            rw [← ew16] at hp
            have hl17 := hp
            refine lv_lload_n hx hb dX10_leastBlack_91 rfl (lv_at hl 2 rfl) ?_
            refine lv_ladd hx hb dX10_leastBlack_92 ?_
            refine lv_topl (fun w18 ew18 => ?_)
            have tw18 : w18.toInt = w16.toInt + w3.toInt := z_tladd ew18 rfl rfl (by omega) (by omega)
            refine lv_lload hx hb dX10_leastBlack_93 (lv_at hl 1 rfl) ?_
            refine lv_lsub hx hb dX10_leastBlack_95 ?_
            refine lv_topl (fun w19 ew19 => ?_)
            have tw19 : w19.toInt = (w16.toInt + w3.toInt) - w13.toInt := z_tlsub ew19 tw18 rfl (by omega) (by omega)
            exact z_lret hx hb hr hK hS (Nat.le_of_ble_eq_true rfl) (Nat.le_of_ble_eq_true rfl) hlocks dX10_leastBlack_96 (shC c, ad, I, JX, PC c ad) hW ⟨rfl, (by have b9 := lp11U.1; rw [show (y12.toInt - 1 - a1.toInt).toNat = (a2.toNatClampNeg - a1.toNatClampNeg) by omega] at b9; unfold zu_X; rw [if_neg (by omega), if_pos rfl]; omega)⟩
          · have g20 := z_f_ngt rfl rfl c14
            refine lv_iload hx hb dX10_leastBlack_46 (lv_at hl 0 rfl) ?_
            refine lv_bipush (v := 30) hx hb dX10_leastBlack_48 (by decide) ?_
            refine lv_icmp_ge (tgt := 85) hx hb dX10_leastBlack_50 (by decide) (fun c21 => (by have g := z_f_ge rfl z_l30 c21; omega)) (fun c21 => ?_)
            have g22 := z_f_nge rfl z_l30 c21
            have c9 := z_clt (x := y12) rfl (by omega)
            refine lv_aload_n hx hb dX10_leastBlack_53 rfl (lv_at hl 3 rfl) ?_
            refine z_get (T := TX10) (N := 10) (ci := 10) (i := (100 + 8 * k)) (v := .ref (ad (100 + 8 * k + 6))) hx hb hts zj_X10_leastBlack_X10 hown hK hW (z_ss0 hk h10) rfl 8 (by decide) (hts (.fieldLink RX10 27 "PetrolBoard$Station" "high" "[I") (me_s (me_l (me_l (List.mem_of_getElem? (i := 2) rfl))))) (fun _ h => h) (z_pS hk h10 rfl rfl) dX10_leastBlack_54 ?_
            refine lv_iload hx hb dX10_leastBlack_57 (lv_at hl 0 rfl) ?_
            refine z_iald (i := (100 + 8 * k + 6)) hx hb hK hW (z_ssj hk h10 (by decide)) (z_ix rfl (by omega) (by omega)) dX10_leastBlack_59 ?_
            refine lv_topi (fun x23 ex23 => ?_)
            have hv24 : zu_rh I k a1.toNatClampNeg ((y12.toInt - 1 - a1.toInt).toNat + 1) = x23.toInt := by unfold zu_rh; rw [ex23, show a1.toNatClampNeg + ((y12.toInt - 1 - a1.toInt).toNat + 1) = y12.toNatClampNeg by omega]
            have hu25 := hg ((y12.toInt - 1 - a1.toInt).toNat + 1) (by omega)
            refine lv_i2l (v := x23.toInt64) hx hb dX10_leastBlack_60 rfl ?_
            refine lv_topl (fun w26 ew26 => ?_)
            have tw26 : w26.toInt = x23.toInt := z_ti2l ew26 rfl
            refine lv_lload hx hb dX10_leastBlack_61 (lv_at hl 1 rfl) ?_
            refine lv_aload_n hx hb dX10_leastBlack_63 rfl (lv_at hl 3 rfl) ?_
            refine z_get (T := TX10) (N := 10) (ci := 10) (i := (100 + 8 * k)) (v := .ref (ad (100 + 8 * k + 7))) hx hb hts zj_X10_leastBlack_X10 hown hK hW (z_ss0 hk h10) rfl 9 (by decide) (hts (.fieldLink RX10 30 "PetrolBoard$Station" "in" "[I") (me_s (me_l (me_l (List.mem_of_getElem? (i := 3) rfl))))) (fun _ h => h) (z_pS hk h10 rfl rfl) dX10_leastBlack_64 ?_
            refine lv_iload hx hb dX10_leastBlack_67 (lv_at hl 0 rfl) ?_
            refine lv_iconst (v := 1) hx hb dX10_leastBlack_69 (by decide) ?_
            refine lv_isub hx hb dX10_leastBlack_70 ?_
            refine lv_topi (fun x27 ex27 => ?_)
            have tx27 : x27.toInt = y12.toInt - 1 := z_tsub ex27 rfl z_l1 (by omega) (by omega)
            refine z_iald (i := (100 + 8 * k + 7)) hx hb hK hW (z_ssj hk h10 (by decide)) (z_ix rfl (by omega) (by omega)) dX10_leastBlack_71 ?_
            refine lv_topi (fun x28 ex28 => ?_)
            have hv29 : zu_rv I k a1.toNatClampNeg (y12.toInt - 1 - a1.toInt).toNat = x28.toInt := by unfold zu_rv; rw [ex28, show a1.toNatClampNeg + (y12.toInt - 1 - a1.toInt).toNat = x27.toNatClampNeg by omega]
            have hu30 := hg (y12.toInt - 1 - a1.toInt).toNat (by omega)
            refine lv_i2l (v := x28.toInt64) hx hb dX10_leastBlack_72 rfl ?_
            refine lv_topl (fun w31 ew31 => ?_)
            have tw31 : w31.toInt = x28.toInt := z_ti2l ew31 rfl
            refine lv_ladd hx hb dX10_leastBlack_73 ?_
            refine lv_topl (fun w32 ew32 => ?_)
            have tw32 : w32.toInt = w13.toInt + x28.toInt := z_tladd ew32 rfl tw31 (by omega) (by omega)
            refine va_mmin_long (x := w26) (y := w32) hx hb (hml.trans hl.1.symm) hown (hts (.methodLink RX10 67 Lib.MathLoose.min_long.x) (me_s (me_l (me_l (List.mem_of_getElem? (i := 4) rfl))))) (hts (.static Lib.MathLoose.min_long.x) (me_s (me_l (me_l (List.mem_of_getElem? (i := 5) rfl))))) (hts (.initialized "java/lang/Math") (me_s (me_l (me_l (List.mem_of_getElem? (i := 6) rfl))))) (hts (.code Lib.MathLoose.min_long.x Lib.MathLoose.min_long.code 4 (some .long)) (me_s (me_l (me_l (List.mem_of_getElem? (i := 7) rfl))))) (Nat.le_of_ble_eq_true rfl) (Nat.le_of_ble_eq_true rfl) (Nat.le_of_ble_eq_true rfl) (Nat.le_of_ble_eq_true rfl) dX10_leastBlack_74 ?_
            refine lv_topl (fun w33 ew33 => ?_)
            have tw33 := z_tlmin ew33 tw26 tw32
            refine lv_lstore (lv' := [(5, .long w33), (7, .int y12), (3, .long w3), (0, .ref (ad (100 + 8 * k))), (1, .int a1), (2, .int a2)]) hx hb dX10_leastBlack_77 hl (by decide) rfl (fun ls hl => ?_)
            obtain ⟨x34, ex34⟩ : ∃ y : Int32, y = y12 + 1 := ⟨_, rfl⟩
            have tx34 : x34.toInt = y12.toInt + 1 := z_tadd ex34 rfl z_l1 (by omega) (by omega)
            refine lv_iinc (v := x34) (lv' := [(7, .int x34), (5, .long w33), (3, .long w3), (0, .ref (ad (100 + 8 * k))), (1, .int a1), (2, .int a2)]) hx hb dX10_leastBlack_79 hl (k := 1) rfl (by rw [ex34]; rfl) (by decide) rfl (fun ls hl => ?_)
            refine lv_goto (tgt := 40) hx hb dX10_leastBlack_82 (by decide) ?_
            exact lp11ih x34 w33 _ _ _ (by omega) (by omega) (by omega) (by omega) ⟨by rw [show (x34.toInt - 1 - a1.toInt).toNat = (y12.toInt - 1 - a1.toInt).toNat + 1 by omega, zu_U, hv24, hv29]; have q9 := lp11U.1; omega, by omega, by omega, by omega, by omega⟩ hW hS (lv_sub hl [0, 1, 2, 3, 4, 5] rfl)
      exact lp11 4294967296 x10 w3 _ _ _ (z_m0u _) (by omega) (by omega) (by omega) ⟨by rw [show (x10.toInt - 1 - a1.toInt).toNat = 0 by omega]; show _ = (zu_B (zu_rl I k a1.toNatClampNeg) (zu_rh I k a1.toNatClampNeg) (zu_rv I k a1.toNatClampNeg) (a2.toNatClampNeg - a1.toNatClampNeg) (a2.toNatClampNeg - a1.toNatClampNeg)); omega, by omega, by omega, by omega, by omega⟩ hW hS (lv_sub hl [0, 1, 2, 3, 4, 5] rfl)
    · have g35 := z_f_eq rfl z_l0 c8
      refine lv_ldc2 (v := (-3)) hx hb hown (hts (.constantLong RX10 62 (-3)) (me_s (me_l (me_l (List.mem_of_getElem? (i := 1) rfl))))) dX10_leastBlack_28 ?_
      exact z_lret hx hb hr hK hS (Nat.le_of_ble_eq_true rfl) (Nat.le_of_ble_eq_true rfl) hlocks dX10_leastBlack_31 (shC c, ad, I, JX, PC c ad) hW ⟨rfl, (by unfold zu_X; rw [if_pos (by omega)]; decide)⟩
  · refine lv_if_ne (tgt := 13) hx hb dX10_leastBlack_6 (by decide) (fun c36 => absurd (by decide) c36) (fun c36 => ?_)
    refine lv_ldc2 (v := (-1)) hx hb hown (hts (.constantLong RX10 53 (-1)) (me_s (me_l (me_l (List.mem_of_getElem? (i := 0) rfl))))) dX10_leastBlack_9 ?_
    exact z_lret hx hb hr hK hS (Nat.le_of_ble_eq_true rfl) (Nat.le_of_ble_eq_true rfl) hlocks dX10_leastBlack_12 (shC c, ad, I, JX, PC c ad) hW ⟨rfl, (by exfalso; omega)⟩
noncomputable def L_X11_sums_u : z_L := [(1000, 999)]
set_option maxHeartbeats 8000000 in
set_option maxRecDepth 100000 in
theorem sx_X11_sums_u (l : Launch) (G : z_G) (ad : Nat → Nat) (c : z_C) (I : z_I) (hO : z_iO I) (hB : z_iB I) (hP : z_iP I) (a1 : Int32) (a2 : Int32) (a3 : Int32) (a4 : Int32) (hc : z_okc c) (h10 : c.1 ≤ 10) (hon : (I 21 2).toInt = (c.2.1 : Int)) (hmo : ∀ j, j < c.2.1 → 0 ≤ (I (200 + 5 * j) 0).toInt) (hsn : (I 0 8).toInt = (c.1 : Int)) (hab : ∀ (t : Int) (q : Nat), 0 ≤ t → q < c.2.1 → 0 ≤ zi_ax c I t q ∧ zi_ax c I t q ≤ 999999) (hTe : ∀ p : Nat, (p : Int) < (I 30 8).toInt → 0 ≤ (I 35 p).toInt ∧ (I 35 p).toInt ≤ 999999) (hDa : ∀ k, k < c.1 → zu_D I k ∧ zu_M I k) (hS0 : z_iS c I) : z_MlS l yX11_sums wsX11_sums { frames := 6, cells := 0, slots := 0, locals := 137 } [.ref (ad 0), .int a1, .int a2, .int a3, .int a4] G (shC c, ad, I, JX, PC c ad) (fun r u1 => ∃ I1 : z_I, u1 = (shC c, ad, I1, JX, PC c ad) ∧ z_iO I1 ∧ z_iB I1 ∧ z_iP I1 ∧ z_fr L_X11_sums_u I1 I ∧ z_iS c I1 ∧ ((((0 ≤ a1.toInt ∧ a1.toInt < (I 0 8).toInt) ∧ ((0 ≤ a2.toInt ∧ a2.toInt < a3.toInt) ∧ a3.toInt < (I (100 + 8 * a1.toNatClampNeg) 4).toInt) ∧ 0 ≤ a4.toInt ∧ a4.toInt ≤ 1) ∧ r.toInt = zu_X (zu_cl c I a1.toNatClampNeg a2.toNatClampNeg) (zu_ch c I a1.toNatClampNeg a2.toNatClampNeg) (zu_cv c I a1.toNatClampNeg a1.toInt a2.toNatClampNeg) (a3.toNatClampNeg - a2.toNatClampNeg) a4.toInt) ∨ (¬ ((0 ≤ a1.toInt ∧ a1.toInt < (I 0 8).toInt) ∧ ((0 ≤ a2.toInt ∧ a2.toInt < a3.toInt) ∧ a3.toInt < (I (100 + 8 * a1.toNatClampNeg) 4).toInt) ∧ 0 ≤ a4.toInt ∧ a4.toInt ≤ 1) ∧ r.toInt = -1))) 0 0 := by
  intro sz
  refine z_headS (cc := cX11_sums) (maxL := 6) (ret := (some .long)) (by decide) rfl (Nat.le_of_ble_eq_true rfl) ?_
  intro p e s m below meth c0 ls hIn hK hsz hW hl hSt
  obtain ⟨hx, hb, hr, hml, hown, hts, hlocks, hname⟩ := hIn
  subst hsz
  have hown : s.vm.findClass RX11 = some m.cls := hown
  have hA : ∀ q : Nat, s.heap.size ≤ q → z_A (shC c, ad, I, JX, PC c ad) s.heap.size q := fun q h => Or.inr h
  generalize hAe : z_A (shC c, ad, I, JX, PC c ad) s.heap.size = A at *
  have hS : va_S A s.heap s.heap [] := va_S.rf
  have hl : lv_has ls 6 [(0, .ref (ad 0)), (1, .int a1), (2, .int a2), (3, .int a3), (4, .int a4)] := hl
  refine lv_aload_n hx hb dX11_sums_0 rfl (lv_at hl 0 rfl) ?_
  refine lv_iload_n hx hb dX11_sums_1 rfl (lv_at hl 1 rfl) ?_
  refine z_cq hW hS hA (va_runV (As := [.int a1]) (rest := []) ⟨hx, hb, hml, hown, hts⟩ (sx_X11_stationAt_e l G ad c I ⟨(by show 0 ≤ (I 0 0).toInt ∧ (I 0 0).toInt ≤ 719; exact hB.1), (by show 0 ≤ (I 0 8).toInt ∧ (I 0 8).toInt ≤ 10; exact hB.2)⟩ a1 hc h10 hsn _) (cwV 1 hts gX11_sums_X11_stationAt rfl rfl rfl (by decide +kernel) ⟨Nat.le_of_ble_eq_true rfl, Nat.le_of_ble_eq_true rfl⟩) (z_preV (i := 0) hK hW rfl rfl) rfl rfl hl.1 rfl (lv_room (Nat.le_of_ble_eq_true rfl)) dX11_sums_2 ⟨Nat.le_of_ble_eq_true rfl, Nat.le_of_ble_eq_true rfl⟩) (fun r u1 H locs hp hW hS => ?_)
  obtain ⟨e9, hp⟩ := hp
  rw [e9] at hW
  rcases hp with ⟨rfl, h2⟩ | ⟨k1, hk1, ek1, h3, rfl⟩
  · refine W.eq (g2 := F0 m 5 ls (.null :: [])) rfl ?_
    refine lv_astoreN (lv' := [(5, .null), (0, .ref (ad 0)), (1, .int a1), (2, .int a2), (3, .int a3), (4, .int a4)]) hx hb dX11_sums_5 hl (by decide) rfl (fun ls hl => ?_)
    refine lv_aloadN hx hb dX11_sums_7 (lv_at hl 0 rfl) ?_
    refine lv_ifnullN (tgt := 32) hx hb dX11_sums_9 (by decide) ?_
    refine lv_ldc2 (v := (-1)) hx hb hown (hts (.constantLong RX11 261 (-1)) (me_s (me_l (me_l (me_l (me_l (me_l (me_l (List.mem_of_getElem? (i := 0) rfl))))))))) dX11_sums_32 ?_
    exact z_lret hx hb hr hK hS (Nat.le_of_ble_eq_true rfl) (Nat.le_of_ble_eq_true rfl) hlocks dX11_sums_35 (shC c, ad, I, JX, PC c ad) hW ⟨I, rfl, (by show 0 ≤ (I 21 2).toInt ∧ (I 21 2).toInt ≤ 12; exact hO), ⟨(by show 0 ≤ (I 0 0).toInt ∧ (I 0 0).toInt ≤ 719; exact hB.1), (by show 0 ≤ (I 0 8).toInt ∧ (I 0 8).toInt ≤ 10; exact hB.2)⟩, (by show 0 ≤ (I 30 8).toInt ∧ (I 30 8).toInt ≤ 300; exact hP), z_fr_0, hS0, (Or.inr ⟨by omega, by decide⟩)⟩
  · refine W.eq (g2 := F0 m 5 ls (.ref (ad (100 + 8 * k1)) :: [])) rfl ?_
    refine lv_astore (lv' := [(5, .ref (ad (100 + 8 * k1))), (0, .ref (ad 0)), (1, .int a1), (2, .int a2), (3, .int a3), (4, .int a4)]) hx hb dX11_sums_5 hl (by decide) rfl (fun ls hl => ?_)
    refine lv_aload hx hb dX11_sums_7 (lv_at hl 0 rfl) ?_
    refine lv_ifnull hx hb dX11_sums_9 ?_
    refine lv_aload hx hb dX11_sums_12 (lv_at hl 0 rfl) ?_
    refine lv_iload_n hx hb dX11_sums_14 rfl (lv_at hl 3 rfl) ?_
    refine lv_iload_n hx hb dX11_sums_15 rfl (lv_at hl 4 rfl) ?_
    refine z_ci hW hS hA (va_runV (As := [.int a2, .int a3]) (rest := []) ⟨hx, hb, hml, hown, hts⟩ (sx_X10_hasSpan_u l G ad c I  k1 a2 a3 hk1 h10  hS0 _) (cwV 2 hts gX11_sums_X10_hasSpan rfl rfl rfl (by decide +kernel) ⟨Nat.le_of_ble_eq_true rfl, Nat.le_of_ble_eq_true rfl⟩) (z_preV (i := (100 + 8 * k1)) hK hW (z_ss0 hk1 h10) rfl) rfl rfl hl.1 rfl (lv_room (Nat.le_of_ble_eq_true rfl)) dX11_sums_16 ⟨Nat.le_of_ble_eq_true rfl, Nat.le_of_ble_eq_true rfl⟩) (fun r u1 H locs hp hW hS => ?_)
    obtain ⟨e9, hp⟩ := hp
    rw [e9] at hW
    rcases hp with ⟨rfl, hs4⟩ | ⟨rfl, hs4⟩
    · refine lv_if_eq (tgt := 32) hx hb dX11_sums_19 (by decide) (fun c5 => absurd c5 (by decide)) (fun c5 => ?_)
      refine lv_iload hx hb dX11_sums_22 (lv_at hl 5 rfl) ?_
      refine lv_iconst (v := 0) hx hb dX11_sums_24 (by decide) ?_
      refine lv_iconst (v := 1) hx hb dX11_sums_25 (by decide) ?_
      refine z_ci hW hS hA (va_runS (As := [.int a4, .int 0, .int 1]) (rest := []) ⟨hx, hb, hml, hown, hts⟩ (sx_X11_within_e l G ad c I  a4 0 1 _) (va_cwS 3 hts gX11_sums_X11_within rfl rfl rfl (by decide +kernel) ⟨Nat.le_of_ble_eq_true rfl, Nat.le_of_ble_eq_true rfl⟩) (z_preS hK hW) rfl rfl hl.1 rfl (lv_room (Nat.le_of_ble_eq_true rfl)) dX11_sums_26 ⟨Nat.le_of_ble_eq_true rfl, Nat.le_of_ble_eq_true rfl⟩) (fun r u1 H locs hp hW hS => ?_)
      obtain ⟨e9, hp⟩ := hp
      rw [e9] at hW
      rcases hp with ⟨rfl, h6⟩ | ⟨rfl, h6⟩
      · have h7 := h6
        have z8 := z_l0
        have z9 := z_l1
        refine lv_if_ne (tgt := 36) hx hb dX11_sums_29 (by decide) (fun c10 => ?_) (fun c10 => absurd c10 (by decide))
        refine lv_aload_n hx hb dX11_sums_36 rfl (lv_at hl 1 rfl) ?_
        refine lv_aload hx hb dX11_sums_37 (lv_at hl 0 rfl) ?_
        refine lv_iload_n hx hb dX11_sums_39 rfl (lv_at hl 2 rfl) ?_
        refine lv_iload_n hx hb dX11_sums_40 rfl (lv_at hl 3 rfl) ?_
        refine lv_iload_n hx hb dX11_sums_41 rfl (lv_at hl 4 rfl) ?_
        refine z_cv hW hS hA (va_runV (As := [.ref (ad (100 + 8 * k1)), .int a1, .int a2, .int a3]) (rest := []) ⟨hx, hb, hml, hown, hts⟩ (sx_X11_putBounds_u l G ad c I (by show 0 ≤ (I 21 2).toInt ∧ (I 21 2).toInt ≤ 12; exact hO) ⟨(by show 0 ≤ (I 0 0).toInt ∧ (I 0 0).toInt ≤ 719; exact hB.1), (by show 0 ≤ (I 0 8).toInt ∧ (I 0 8).toInt ≤ 10; exact hB.2)⟩ (by show 0 ≤ (I 30 8).toInt ∧ (I 30 8).toInt ≤ 300; exact hP) k1 a1 a2 a3 hk1 hc h10 hon hmo hab hTe (hDa k1 hk1).1 (hDa k1 hk1).2 (by omega) (by omega) hS0 _) (cwV 4 hts gX11_sums_X11_putBounds rfl rfl rfl (by decide +kernel) ⟨Nat.le_of_ble_eq_true rfl, Nat.le_of_ble_eq_true rfl⟩) (z_preVS (i := 0) hK hW hS hA hSt rfl rfl) rfl rfl hl.1 rfl (lv_room (Nat.le_of_ble_eq_true rfl)) dX11_sums_42 ⟨Nat.le_of_ble_eq_true rfl, Nat.le_of_ble_eq_true rfl⟩) (fun u1 H locs hp hW hS => ?_)
        obtain ⟨I11, e9, hI11O, hI11B, hI11P, fI11, SI11, hp⟩ := hp
        rw [e9] at hW
        have f12 := z_fr_sub (L := L_X11_sums_u) z_fr_0 fI11 (by decide)
        obtain ⟨hq9, hP9⟩ := hp
        refine lv_iload hx hb dX11_sums_45 (lv_at hl 5 rfl) ?_
        refine lv_if_ne (tgt := 60) hx hb dX11_sums_47 (by decide) (fun c13 => ?_) (fun c13 => ?_)
        · have g14 := z_f_ne rfl z_l0 c13
          refine lv_aload hx hb dX11_sums_60 (lv_at hl 0 rfl) ?_
          refine lv_iload_n hx hb dX11_sums_62 rfl (lv_at hl 3 rfl) ?_
          refine lv_iload_n hx hb dX11_sums_63 rfl (lv_at hl 4 rfl) ?_
          refine z_cl hW hS hA (va_runV (As := [.int a2, .int a3]) (rest := []) ⟨hx, hb, hml, hown, hts⟩ (sx_X10_mostBlack_u l G ad c I11  k1 a2 a3 hk1 h10 (by rw [hq9.1.1.1 k1 4 (by omega)]; omega) (by have cb2 := z_clt (x := a2) rfl (by omega); have cb3 := z_clt (x := a3) rfl (by omega); exact zu_g_P hP9 (hDa k1 hk1).1 hab (by omega) (by omega)) SI11 _) (cwV 2 hts gX11_sums_X10_mostBlack rfl rfl rfl (by decide +kernel) ⟨Nat.le_of_ble_eq_true rfl, Nat.le_of_ble_eq_true rfl⟩) (z_preV (i := (100 + 8 * k1)) hK hW (z_ss0 hk1 h10) rfl) rfl rfl hl.1 rfl (lv_room (Nat.le_of_ble_eq_true rfl)) dX11_sums_64 ⟨Nat.le_of_ble_eq_true rfl, Nat.le_of_ble_eq_true rfl⟩) (fun r u1 H locs hp hW hS => ?_)
          obtain ⟨e9, hp⟩ := hp
          rw [e9] at hW
          refine lv_topl (fun w15 ew15 => ?_)
          rw [← ew15] at hp
          have hr16 := hp
          exact z_lret hx hb hr hK hS (Nat.le_of_ble_eq_true rfl) (Nat.le_of_ble_eq_true rfl) hlocks dX11_sums_67 (shC c, ad, I11, JX, PC c ad) hW ⟨I11, rfl, (by show 0 ≤ (I11 21 2).toInt ∧ (I11 21 2).toInt ≤ 12; exact hI11O), ⟨(by show 0 ≤ (I11 0 0).toInt ∧ (I11 0 0).toInt ≤ 719; exact hI11B.1), (by show 0 ≤ (I11 0 8).toInt ∧ (I11 0 8).toInt ≤ 10; exact hI11B.2)⟩, (by show 0 ≤ (I11 30 8).toInt ∧ (I11 30 8).toInt ≤ 300; exact hI11P), f12, SI11, (Or.inl ⟨by rw [ek1]; omega, by rw [ek1, hr16]; have cb2 := z_clt (x := a2) rfl (by omega); have cb3 := z_clt (x := a3) rfl (by omega); first | (rw [show a4.toInt = 0 by omega]; exact zu_X_P hP9 (by omega)) | (rw [show a4.toInt = 1 by omega]; exact zu_X_P hP9 (by omega))⟩)⟩
        · have g17 := z_f_eq rfl z_l0 c13
          refine lv_aload hx hb dX11_sums_50 (lv_at hl 0 rfl) ?_
          refine lv_iload_n hx hb dX11_sums_52 rfl (lv_at hl 3 rfl) ?_
          refine lv_iload_n hx hb dX11_sums_53 rfl (lv_at hl 4 rfl) ?_
          refine z_cl hW hS hA (va_runV (As := [.int a2, .int a3]) (rest := []) ⟨hx, hb, hml, hown, hts⟩ (sx_X10_leastBlack_u l G ad c I11  k1 a2 a3 hk1 h10 (by rw [hq9.1.1.1 k1 4 (by omega)]; omega) (by have cb2 := z_clt (x := a2) rfl (by omega); have cb3 := z_clt (x := a3) rfl (by omega); exact zu_g_P hP9 (hDa k1 hk1).1 hab (by omega) (by omega)) SI11 _) (cwV 2 hts gX11_sums_X10_leastBlack rfl rfl rfl (by decide +kernel) ⟨Nat.le_of_ble_eq_true rfl, Nat.le_of_ble_eq_true rfl⟩) (z_preV (i := (100 + 8 * k1)) hK hW (z_ss0 hk1 h10) rfl) rfl rfl hl.1 rfl (lv_room (Nat.le_of_ble_eq_true rfl)) dX11_sums_54 ⟨Nat.le_of_ble_eq_true rfl, Nat.le_of_ble_eq_true rfl⟩) (fun r u1 H locs hp hW hS => ?_)
          obtain ⟨e9, hp⟩ := hp
          rw [e9] at hW
          refine lv_topl (fun w18 ew18 => ?_)
          rw [← ew18] at hp
          have hr19 := hp
          refine lv_goto (tgt := 67) hx hb dX11_sums_57 (by decide) ?_
          exact z_lret hx hb hr hK hS (Nat.le_of_ble_eq_true rfl) (Nat.le_of_ble_eq_true rfl) hlocks dX11_sums_67 (shC c, ad, I11, JX, PC c ad) hW ⟨I11, rfl, (by show 0 ≤ (I11 21 2).toInt ∧ (I11 21 2).toInt ≤ 12; exact hI11O), ⟨(by show 0 ≤ (I11 0 0).toInt ∧ (I11 0 0).toInt ≤ 719; exact hI11B.1), (by show 0 ≤ (I11 0 8).toInt ∧ (I11 0 8).toInt ≤ 10; exact hI11B.2)⟩, (by show 0 ≤ (I11 30 8).toInt ∧ (I11 30 8).toInt ≤ 300; exact hI11P), f12, SI11, (Or.inl ⟨by rw [ek1]; omega, by rw [ek1, hr19]; have cb2 := z_clt (x := a2) rfl (by omega); have cb3 := z_clt (x := a3) rfl (by omega); first | (rw [show a4.toInt = 0 by omega]; exact zu_X_P hP9 (by omega)) | (rw [show a4.toInt = 1 by omega]; exact zu_X_P hP9 (by omega))⟩)⟩
      · have h20 := h6
        have z21 := z_l0
        have z22 := z_l1
        refine lv_if_ne (tgt := 36) hx hb dX11_sums_29 (by decide) (fun c23 => absurd (by decide) c23) (fun c23 => ?_)
        refine lv_ldc2 (v := (-1)) hx hb hown (hts (.constantLong RX11 261 (-1)) (me_s (me_l (me_l (me_l (me_l (me_l (me_l (List.mem_of_getElem? (i := 0) rfl))))))))) dX11_sums_32 ?_
        exact z_lret hx hb hr hK hS (Nat.le_of_ble_eq_true rfl) (Nat.le_of_ble_eq_true rfl) hlocks dX11_sums_35 (shC c, ad, I, JX, PC c ad) hW ⟨I, rfl, (by show 0 ≤ (I 21 2).toInt ∧ (I 21 2).toInt ≤ 12; exact hO), ⟨(by show 0 ≤ (I 0 0).toInt ∧ (I 0 0).toInt ≤ 719; exact hB.1), (by show 0 ≤ (I 0 8).toInt ∧ (I 0 8).toInt ≤ 10; exact hB.2)⟩, (by show 0 ≤ (I 30 8).toInt ∧ (I 30 8).toInt ≤ 300; exact hP), z_fr_0, hS0, (Or.inr ⟨by rw [ek1]; omega, by decide⟩)⟩
    · refine lv_if_eq (tgt := 32) hx hb dX11_sums_19 (by decide) (fun c24 => ?_) (fun c24 => absurd (by decide) c24)
      refine lv_ldc2 (v := (-1)) hx hb hown (hts (.constantLong RX11 261 (-1)) (me_s (me_l (me_l (me_l (me_l (me_l (me_l (List.mem_of_getElem? (i := 0) rfl))))))))) dX11_sums_32 ?_
      exact z_lret hx hb hr hK hS (Nat.le_of_ble_eq_true rfl) (Nat.le_of_ble_eq_true rfl) hlocks dX11_sums_35 (shC c, ad, I, JX, PC c ad) hW ⟨I, rfl, (by show 0 ≤ (I 21 2).toInt ∧ (I 21 2).toInt ≤ 12; exact hO), ⟨(by show 0 ≤ (I 0 0).toInt ∧ (I 0 0).toInt ≤ 719; exact hB.1), (by show 0 ≤ (I 0 8).toInt ∧ (I 0 8).toInt ≤ 10; exact hB.2)⟩, (by show 0 ≤ (I 30 8).toInt ∧ (I 30 8).toInt ≤ 300; exact hP), z_fr_0, hS0, (Or.inr ⟨by rw [ek1]; omega, by decide⟩)⟩
set_option maxHeartbeats 8000000 in
set_option maxRecDepth 100000 in
theorem sx_X12_lowOf_u (l : Launch) (G : z_G) (ad : Nat → Nat) (I : z_I) (J : z_J) (hma : z_ima I) (hmb : z_imb I) (hAtf : z_rg 11 0 288 I) (hAtm : z_rg 12 0 24 I) (a1 : Int32) (hab : ∀ (t : Int) (q : Nat), 0 ≤ t → q < (I 0 13).toNatClampNeg → 0 ≤ zi_am I t q ∧ zi_am I t q ≤ 999999) (q1 : 0 ≤ a1.toInt ∧ a1.toInt ≤ 299) (q2 : (0 ≤ (I 48 a1.toNatClampNeg).toInt ∧ (I 48 a1.toNatClampNeg).toInt ≤ 200000) ∧ 0 ≤ (I 49 a1.toNatClampNeg).toInt ∧ (I 49 a1.toNatClampNeg).toInt ≤ 719) : z_Ml l yX12_lowOf wsX12_lowOf { frames := 3, cells := 0, slots := 0, locals := 62 } [.ref (ad 0), .int a1] G (shM, ad, I, J, PM ad) (fun r u1 => u1 = (shM, ad, I, J, PM ad) ∧ (r.toInt = zu_ml I a1.toNatClampNeg ∧ 0 ≤ r.toInt ∧ r.toInt ≤ 200000)) 0 0 := by
  intro sz
  refine z_headQ (cc := cX12_lowOf) (maxL := 4) (ret := (some .long)) (by decide) rfl (Nat.le_of_ble_eq_true rfl) ?_
  intro p e s m below meth c0 ls hIn hK hsz hW hl
  obtain ⟨hx, hb, hr, hml, hown, hts, hlocks, hname⟩ := hIn
  subst hsz
  have hown : s.vm.findClass RX12 = some m.cls := hown
  have hA : ∀ q : Nat, s.heap.size ≤ q → z_A (shM, ad, I, J, PM ad) s.heap.size q := fun q h => Or.inr h
  generalize hAe : z_A (shM, ad, I, J, PM ad) s.heap.size = A at *
  have hS : va_S A s.heap s.heap [] := va_S.rf
  have hl : lv_has ls 4 [(0, .ref (ad 0)), (1, .int a1)] := hl
  refine lv_aload_n hx hb dX12_lowOf_0 rfl (lv_at hl 0 rfl) ?_
  refine z_get (T := TX12) (N := 96) (ci := 12) (i := 0) (v := .ref (ad 48)) hx hb hts zj_X12_lowOf_X12 hown hK hW rfl rfl 71 (by decide) (hts (.fieldLink RX12 160 "PetrolBoardModel" "dipTold" "[I") (me_s (me_l (List.mem_of_getElem? (i := 0) rfl)))) (fun _ h => h) rfl dX12_lowOf_1 ?_
  refine lv_iload_n hx hb dX12_lowOf_4 rfl (lv_at hl 1 rfl) ?_
  refine z_iald (i := 48) hx hb hK hW rfl (z_ix rfl (by omega) (by omega)) dX12_lowOf_5 ?_
  refine lv_topi (fun x1 ex1 => ?_)
  have hv2 : (I 48 a1.toNatClampNeg).toInt = x1.toInt := by rw [ex1]
  refine lv_i2l (v := x1.toInt64) hx hb dX12_lowOf_6 rfl ?_
  refine lv_topl (fun w3 ew3 => ?_)
  have tw3 : w3.toInt = x1.toInt := z_ti2l ew3 rfl
  refine lv_aload_n hx hb dX12_lowOf_7 rfl (lv_at hl 0 rfl) ?_
  refine lv_aload_n hx hb dX12_lowOf_8 rfl (lv_at hl 0 rfl) ?_
  refine z_get (T := TX12) (N := 96) (ci := 12) (i := 0) (v := .ref (ad 49)) hx hb hts zj_X12_lowOf_X12 hown hK hW rfl rfl 72 (by decide) (hts (.fieldLink RX12 163 "PetrolBoardModel" "dipDay" "[I") (me_s (me_l (List.mem_of_getElem? (i := 1) rfl)))) (fun _ h => h) rfl dX12_lowOf_9 ?_
  refine lv_iload_n hx hb dX12_lowOf_12 rfl (lv_at hl 1 rfl) ?_
  refine z_iald (i := 49) hx hb hK hW rfl (z_ix rfl (by omega) (by omega)) dX12_lowOf_13 ?_
  refine lv_topi (fun x4 ex4 => ?_)
  have hv5 : (I 49 a1.toNatClampNeg).toInt = x4.toInt := by rw [ex4]
  refine lv_bipush (v := 30) hx hb dX12_lowOf_14 (by decide) ?_
  refine lv_idiv hx hb dX12_lowOf_16 (by decide) ?_
  refine lv_topi (fun x6 ex6 => ?_)
  have tx6 := z_tdiv ex6 rfl z_l30 (by decide)
  refine lv_aload_n hx hb dX12_lowOf_17 rfl (lv_at hl 0 rfl) ?_
  have r7 : 0 ≤ (I 0 0).toInt ∧ (I 0 0).toInt ≤ 719 := hma.1
  refine z_get (T := TX12) (N := 96) (ci := 12) (i := 0) (v := .int (I 0 0)) hx hb hts zj_X12_lowOf_X12 hown hK hW rfl rfl 0 (by decide) (hts (.fieldLink RX12 232 "PetrolBoardModel" "today" "I") (me_s (me_l (List.mem_of_getElem? (i := 2) rfl)))) (fun _ h => h) rfl dX12_lowOf_18 ?_
  refine lv_bipush (v := 7) hx hb dX12_lowOf_21 (by decide) ?_
  refine z_ci hW hS hA (va_runV (As := [.int x6, .int (I 0 0), .int 7]) (rest := [.long w3]) ⟨hx, hb, hml, hown, hts⟩ (sx_X12_number_x l G ad I J ⟨(by show 0 ≤ (I 0 13).toInt ∧ (I 0 13).toInt ≤ 12; exact hmb.1), (by show 0 ≤ (I 0 14).toInt ∧ (I 0 14).toInt ≤ 288; exact hmb.2)⟩ hAtf hAtm x6 (I 0 0) 7 (by decide) _) (cwV 3 hts gX12_lowOf_X12_number rfl rfl rfl (by decide +kernel) ⟨Nat.le_of_ble_eq_true rfl, Nat.le_of_ble_eq_true rfl⟩) (z_preV (i := 0) hK hW rfl rfl) rfl rfl hl.1 rfl (lv_room (Nat.le_of_ble_eq_true rfl)) dX12_lowOf_23 ⟨Nat.le_of_ble_eq_true rfl, Nat.le_of_ble_eq_true rfl⟩) (fun r u1 H locs hp hW hS => ?_)
  obtain ⟨e9, hp⟩ := hp
  rw [e9] at hW
  refine lv_topi (fun x8 ex8 => ?_)
  rw [← ex8, show (7 : Int32).toInt - 3 = 4 by decide] at hp
  have hb10 := zu_R_b hp (fun q hq => hab 4 q (by decide) hq)
  have hM9 : x8.toInt = zu_md I a1.toNatClampNeg := by rw [zb_f_e hp]; show zb_am I 4 x6.toInt _ = _; unfold zu_md; rw [show x6.toInt = (I 49 a1.toNatClampNeg).toInt / 30 by omega]
  refine lv_i2l (v := x8.toInt64) hx hb dX12_lowOf_26 rfl ?_
  refine lv_topl (fun w11 ew11 => ?_)
  have tw11 : w11.toInt = x8.toInt := z_ti2l ew11 rfl
  refine lv_lsub hx hb dX12_lowOf_27 ?_
  refine lv_topl (fun w12 ew12 => ?_)
  have tw12 : w12.toInt = x1.toInt - x8.toInt := z_tlsub ew12 tw3 tw11 (by omega) (by omega)
  refine lv_lstore_n (lv' := [(2, .long w12), (0, .ref (ad 0)), (1, .int a1)]) hx hb dX12_lowOf_28 rfl hl (by decide) rfl (fun ls hl => ?_)
  refine lv_lload_n hx hb dX12_lowOf_29 rfl (lv_at hl 0 rfl) ?_
  refine lv_lconst (v := 0) hx hb dX12_lowOf_30 (by decide) ?_
  refine W.lcmp hx hb dX12_lowOf_31 ?_
  refine lv_topi (fun x13 ex13 => ?_)
  have tx13 := z_tcmp ex13
  have h14 := z_tlcmp ex13 tw12 (show (0 : Int64).toInt = 0 by decide)
  refine lv_if_ge (tgt := 39) hx hb dX12_lowOf_32 (by decide) (fun c15 => ?_) (fun c15 => ?_)
  · have g16 := z_f_ge rfl z_l0 c15
    refine lv_lload_n hx hb dX12_lowOf_39 rfl (lv_at hl 0 rfl) ?_
    exact z_lret hx hb hr hK hS (Nat.le_of_ble_eq_true rfl) (Nat.le_of_ble_eq_true rfl) hlocks dX12_lowOf_40 (shM, ad, I, J, PM ad) hW ⟨rfl, (by have q0 : (0 : Int64).toInt = 0 := (by decide); exact ⟨by unfold zu_ml; omega, by omega, by omega⟩)⟩
  · have g17 := z_f_nge rfl z_l0 c15
    refine lv_lconst (v := 0) hx hb dX12_lowOf_35 (by decide) ?_
    refine lv_goto (tgt := 40) hx hb dX12_lowOf_36 (by decide) ?_
    exact z_lret hx hb hr hK hS (Nat.le_of_ble_eq_true rfl) (Nat.le_of_ble_eq_true rfl) hlocks dX12_lowOf_40 (shM, ad, I, J, PM ad) hW ⟨rfl, (by have q0 : (0 : Int64).toInt = 0 := (by decide); exact ⟨by unfold zu_ml; omega, by omega, by omega⟩)⟩
set_option maxHeartbeats 8000000 in
set_option maxRecDepth 100000 in
theorem sx_X12_highOf_u (l : Launch) (G : z_G) (ad : Nat → Nat) (I : z_I) (J : z_J) (hma : z_ima I) (hmb : z_imb I) (hAtf : z_rg 11 0 288 I) (hAtm : z_rg 12 0 24 I) (a1 : Int32) (hab : ∀ (t : Int) (q : Nat), 0 ≤ t → q < (I 0 13).toNatClampNeg → 0 ≤ zi_am I t q ∧ zi_am I t q ≤ 999999) (q1 : 0 ≤ a1.toInt ∧ a1.toInt ≤ 299) (q2 : (0 ≤ (I 48 a1.toNatClampNeg).toInt ∧ (I 48 a1.toNatClampNeg).toInt ≤ 200000) ∧ 0 ≤ (I 49 a1.toNatClampNeg).toInt ∧ (I 49 a1.toNatClampNeg).toInt ≤ 719) : z_Ml l yX12_highOf wsX12_highOf { frames := 3, cells := 0, slots := 0, locals := 62 } [.ref (ad 0), .int a1] G (shM, ad, I, J, PM ad) (fun r u1 => u1 = (shM, ad, I, J, PM ad) ∧ (r.toInt = zu_mh I a1.toNatClampNeg ∧ 0 ≤ r.toInt ∧ r.toInt ≤ 1199999)) 0 0 := by
  intro sz
  refine z_headQ (cc := cX12_highOf) (maxL := 2) (ret := (some .long)) (by decide) rfl (Nat.le_of_ble_eq_true rfl) ?_
  intro p e s m below meth c0 ls hIn hK hsz hW hl
  obtain ⟨hx, hb, hr, hml, hown, hts, hlocks, hname⟩ := hIn
  subst hsz
  have hown : s.vm.findClass RX12 = some m.cls := hown
  have hA : ∀ q : Nat, s.heap.size ≤ q → z_A (shM, ad, I, J, PM ad) s.heap.size q := fun q h => Or.inr h
  generalize hAe : z_A (shM, ad, I, J, PM ad) s.heap.size = A at *
  have hS : va_S A s.heap s.heap [] := va_S.rf
  have hl : lv_has ls 2 [(0, .ref (ad 0)), (1, .int a1)] := hl
  refine lv_aload_n hx hb dX12_highOf_0 rfl (lv_at hl 0 rfl) ?_
  refine z_get (T := TX12) (N := 96) (ci := 12) (i := 0) (v := .ref (ad 48)) hx hb hts zj_X12_highOf_X12 hown hK hW rfl rfl 71 (by decide) (hts (.fieldLink RX12 160 "PetrolBoardModel" "dipTold" "[I") (me_s (me_l (List.mem_of_getElem? (i := 0) rfl)))) (fun _ h => h) rfl dX12_highOf_1 ?_
  refine lv_iload_n hx hb dX12_highOf_4 rfl (lv_at hl 1 rfl) ?_
  refine z_iald (i := 48) hx hb hK hW rfl (z_ix rfl (by omega) (by omega)) dX12_highOf_5 ?_
  refine lv_topi (fun x1 ex1 => ?_)
  have hv2 : (I 48 a1.toNatClampNeg).toInt = x1.toInt := by rw [ex1]
  refine lv_i2l (v := x1.toInt64) hx hb dX12_highOf_6 rfl ?_
  refine lv_topl (fun w3 ew3 => ?_)
  have tw3 : w3.toInt = x1.toInt := z_ti2l ew3 rfl
  refine lv_aload_n hx hb dX12_highOf_7 rfl (lv_at hl 0 rfl) ?_
  refine lv_aload_n hx hb dX12_highOf_8 rfl (lv_at hl 0 rfl) ?_
  refine z_get (T := TX12) (N := 96) (ci := 12) (i := 0) (v := .ref (ad 49)) hx hb hts zj_X12_highOf_X12 hown hK hW rfl rfl 72 (by decide) (hts (.fieldLink RX12 163 "PetrolBoardModel" "dipDay" "[I") (me_s (me_l (List.mem_of_getElem? (i := 1) rfl)))) (fun _ h => h) rfl dX12_highOf_9 ?_
  refine lv_iload_n hx hb dX12_highOf_12 rfl (lv_at hl 1 rfl) ?_
  refine z_iald (i := 49) hx hb hK hW rfl (z_ix rfl (by omega) (by omega)) dX12_highOf_13 ?_
  refine lv_topi (fun x4 ex4 => ?_)
  have hv5 : (I 49 a1.toNatClampNeg).toInt = x4.toInt := by rw [ex4]
  refine lv_bipush (v := 30) hx hb dX12_highOf_14 (by decide) ?_
  refine lv_idiv hx hb dX12_highOf_16 (by decide) ?_
  refine lv_topi (fun x6 ex6 => ?_)
  have tx6 := z_tdiv ex6 rfl z_l30 (by decide)
  refine lv_aload_n hx hb dX12_highOf_17 rfl (lv_at hl 0 rfl) ?_
  have r7 : 0 ≤ (I 0 0).toInt ∧ (I 0 0).toInt ≤ 719 := hma.1
  refine z_get (T := TX12) (N := 96) (ci := 12) (i := 0) (v := .int (I 0 0)) hx hb hts zj_X12_highOf_X12 hown hK hW rfl rfl 0 (by decide) (hts (.fieldLink RX12 232 "PetrolBoardModel" "today" "I") (me_s (me_l (List.mem_of_getElem? (i := 2) rfl)))) (fun _ h => h) rfl dX12_highOf_18 ?_
  refine lv_bipush (v := 7) hx hb dX12_highOf_21 (by decide) ?_
  refine z_ci hW hS hA (va_runV (As := [.int x6, .int (I 0 0), .int 7]) (rest := [.long w3]) ⟨hx, hb, hml, hown, hts⟩ (sx_X12_number_x l G ad I J ⟨(by show 0 ≤ (I 0 13).toInt ∧ (I 0 13).toInt ≤ 12; exact hmb.1), (by show 0 ≤ (I 0 14).toInt ∧ (I 0 14).toInt ≤ 288; exact hmb.2)⟩ hAtf hAtm x6 (I 0 0) 7 (by decide) _) (cwV 3 hts gX12_highOf_X12_number rfl rfl rfl (by decide +kernel) ⟨Nat.le_of_ble_eq_true rfl, Nat.le_of_ble_eq_true rfl⟩) (z_preV (i := 0) hK hW rfl rfl) rfl rfl hl.1 rfl (lv_room (Nat.le_of_ble_eq_true rfl)) dX12_highOf_23 ⟨Nat.le_of_ble_eq_true rfl, Nat.le_of_ble_eq_true rfl⟩) (fun r u1 H locs hp hW hS => ?_)
  obtain ⟨e9, hp⟩ := hp
  rw [e9] at hW
  refine lv_topi (fun x8 ex8 => ?_)
  rw [← ex8, show (7 : Int32).toInt - 3 = 4 by decide] at hp
  have hb10 := zu_R_b hp (fun q hq => hab 4 q (by decide) hq)
  have hM9 : x8.toInt = zu_md I a1.toNatClampNeg := by rw [zb_f_e hp]; show zb_am I 4 x6.toInt _ = _; unfold zu_md; rw [show x6.toInt = (I 49 a1.toNatClampNeg).toInt / 30 by omega]
  refine lv_i2l (v := x8.toInt64) hx hb dX12_highOf_26 rfl ?_
  refine lv_topl (fun w11 ew11 => ?_)
  have tw11 : w11.toInt = x8.toInt := z_ti2l ew11 rfl
  refine lv_ladd hx hb dX12_highOf_27 ?_
  refine lv_topl (fun w12 ew12 => ?_)
  have tw12 : w12.toInt = x1.toInt + x8.toInt := z_tladd ew12 tw3 tw11 (by omega) (by omega)
  exact z_lret hx hb hr hK hS (Nat.le_of_ble_eq_true rfl) (Nat.le_of_ble_eq_true rfl) hlocks dX12_highOf_28 (shM, ad, I, J, PM ad) hW ⟨rfl, (by have q0 : (0 : Int64).toInt = 0 := (by decide); exact ⟨by unfold zu_mh; omega, by omega, by omega⟩)⟩
set_option maxHeartbeats 8000000 in
set_option maxRecDepth 100000 in
theorem sx_X12_sums_u (l : Launch) (G : z_G) (ad : Nat → Nat) (I : z_I) (J : z_J) (hms : z_ims I) (hma : z_ima I) (hAgm : z_rg 43 0 30 I) (hAdm : z_rg 47 0 30 I) (hmb : z_imb I) (hAtf : z_rg 11 0 288 I) (hAtm : z_rg 12 0 24 I) (a1 : Int32) (a2 : Int32) (a3 : Int32) (a4 : Int32) (hab : ∀ (t : Int) (q : Nat), 0 ≤ t → q < (I 0 13).toNatClampNeg → 0 ≤ zi_am I t q ∧ zi_am I t q ≤ 999999) (hTe : ∀ p : Nat, (p : Int) < (I 0 55).toInt → 0 ≤ (I 38 p).toInt ∧ (I 38 p).toInt ≤ 999999) (hGv : ∀ s : Nat, s < 10 → ∀ g : Nat, (g : Int) < (I 43 s).toInt → 0 ≤ (I 45 (30 * s + g)).toInt ∧ (I 45 (30 * s + g)).toInt ≤ 100000) (hDm : ∀ s : Nat, s < 10 → ∀ k : Nat, (k : Int) < (I 47 s).toInt → 0 ≤ (I 49 (30 * s + k)).toInt ∧ (I 49 (30 * s + k)).toInt ≤ 719) (hTo : ∀ s : Nat, s < 10 → ∀ k : Nat, (k : Int) < (I 47 s).toInt → 0 ≤ (I 48 (30 * s + k)).toInt ∧ (I 48 (30 * s + k)).toInt ≤ 200000) : z_Ml l yX12_sums_ wsX12_sums_ { frames := 4, cells := 0, slots := 0, locals := 89 } [.ref (ad 0), .int a1, .int a2, .int a3, .int a4] G (shM, ad, I, J, PM ad) (fun r u1 => u1 = (shM, ad, I, J, PM ad) ∧ ((((0 ≤ a1.toInt ∧ a1.toInt < (I 0 54).toInt) ∧ ((0 ≤ a2.toInt ∧ a2.toInt < a3.toInt) ∧ a3.toInt < (I 47 a1.toNatClampNeg).toInt) ∧ 0 ≤ a4.toInt ∧ a4.toInt ≤ 1) ∧ zu_Y (zu_kl I a1.toNatClampNeg a2.toNatClampNeg) (zu_kh I a1.toNatClampNeg a2.toNatClampNeg) (zu_kv I a1.toNatClampNeg a2.toNatClampNeg) (a3.toNatClampNeg - a2.toNatClampNeg) a4.toInt r.toInt) ∨ (¬ ((0 ≤ a1.toInt ∧ a1.toInt < (I 0 54).toInt) ∧ ((0 ≤ a2.toInt ∧ a2.toInt < a3.toInt) ∧ a3.toInt < (I 47 a1.toNatClampNeg).toInt) ∧ 0 ≤ a4.toInt ∧ a4.toInt ≤ 1) ∧ r.toInt = -1))) 0 0 := by
  intro sz
  refine z_headQ (cc := cX12_sums_) (maxL := 18) (ret := (some .long)) (by decide) rfl (Nat.le_of_ble_eq_true rfl) ?_
  intro p e s m below meth c0 ls hIn hK hsz hW hl
  obtain ⟨hx, hb, hr, hml, hown, hts, hlocks, hname⟩ := hIn
  subst hsz
  have hown : s.vm.findClass RX12 = some m.cls := hown
  have hA : ∀ q : Nat, s.heap.size ≤ q → z_A (shM, ad, I, J, PM ad) s.heap.size q := fun q h => Or.inr h
  generalize hAe : z_A (shM, ad, I, J, PM ad) s.heap.size = A at *
  have hS : va_S A s.heap s.heap [] := va_S.rf
  have hl : lv_has ls 18 [(0, .ref (ad 0)), (1, .int a1), (2, .int a2), (3, .int a3), (4, .int a4)] := hl
  refine lv_aload_n hx hb dX12_sums__0 rfl (lv_at hl 0 rfl) ?_
  refine lv_iload_n hx hb dX12_sums__1 rfl (lv_at hl 1 rfl) ?_
  refine z_ci hW hS hA (va_runV (As := [.int a1]) (rest := []) ⟨hx, hb, hml, hown, hts⟩ (sx_X12_isStation_e l G ad I J ⟨(by show 0 ≤ (I 0 54).toInt ∧ (I 0 54).toInt ≤ 10; exact hms.1), (by show 0 ≤ (I 0 55).toInt ∧ (I 0 55).toInt ≤ 300; exact hms.2)⟩ a1 _) (cwV 1 hts gX12_sums__X12_isStation rfl rfl rfl (by decide +kernel) ⟨Nat.le_of_ble_eq_true rfl, Nat.le_of_ble_eq_true rfl⟩) (z_preV (i := 0) hK hW rfl rfl) rfl rfl hl.1 rfl (lv_room (Nat.le_of_ble_eq_true rfl)) dX12_sums__2 ⟨Nat.le_of_ble_eq_true rfl, Nat.le_of_ble_eq_true rfl⟩) (fun r u1 H locs hp hW hS => ?_)
  obtain ⟨e9, hp⟩ := hp
  rw [e9] at hW
  rcases hp with ⟨rfl, h1⟩ | ⟨rfl, h1⟩
  · have h2 := h1
    have r3 : 0 ≤ (I 0 54).toInt ∧ (I 0 54).toInt ≤ 10 := hms.1
    refine lv_if_eq (tgt := 37) hx hb dX12_sums__5 (by decide) (fun c4 => absurd c4 (by decide)) (fun c4 => ?_)
    refine lv_iload_n hx hb dX12_sums__8 rfl (lv_at hl 2 rfl) ?_
    refine lv_if_lt (tgt := 37) hx hb dX12_sums__9 (by decide) (fun c5 => ?_) (fun c5 => ?_)
    · have g6 := z_f_lt rfl z_l0 c5
      have b7 := Int32.toInt_lt a2
      refine lv_ldc2 (v := (-1)) hx hb hown (hts (.constantLong RX12 269 (-1)) (me_s (me_l (me_l (List.mem_of_getElem? (i := 1) rfl))))) dX12_sums__37 ?_
      exact z_lret hx hb hr hK hS (Nat.le_of_ble_eq_true rfl) (Nat.le_of_ble_eq_true rfl) hlocks dX12_sums__40 (shM, ad, I, J, PM ad) hW ⟨rfl, (Or.inr ⟨by omega, by decide⟩)⟩
    · have g8 := z_f_nlt rfl z_l0 c5
      have b9 := Int32.toInt_lt a2
      refine lv_iload_n hx hb dX12_sums__12 rfl (lv_at hl 3 rfl) ?_
      refine lv_iload_n hx hb dX12_sums__13 rfl (lv_at hl 2 rfl) ?_
      refine lv_icmp_le (tgt := 37) hx hb dX12_sums__14 (by decide) (fun c10 => ?_) (fun c10 => ?_)
      · have g11 := z_f_le rfl rfl c10
        have b12 := Int32.toInt_lt a3
        refine lv_ldc2 (v := (-1)) hx hb hown (hts (.constantLong RX12 269 (-1)) (me_s (me_l (me_l (List.mem_of_getElem? (i := 1) rfl))))) dX12_sums__37 ?_
        exact z_lret hx hb hr hK hS (Nat.le_of_ble_eq_true rfl) (Nat.le_of_ble_eq_true rfl) hlocks dX12_sums__40 (shM, ad, I, J, PM ad) hW ⟨rfl, (Or.inr ⟨by omega, by decide⟩)⟩
      · have g13 := z_f_nle rfl rfl c10
        have b14 := Int32.toInt_lt a3
        refine lv_iload_n hx hb dX12_sums__17 rfl (lv_at hl 3 rfl) ?_
        refine lv_aload_n hx hb dX12_sums__18 rfl (lv_at hl 0 rfl) ?_
        refine z_get (T := TX12) (N := 96) (ci := 12) (i := 0) (v := .ref (ad 47)) hx hb hts zj_X12_sums__X12 hown hK hW rfl rfl 70 (by decide) (hts (.fieldLink RX12 157 "PetrolBoardModel" "dipMany" "[I") (me_s (me_l (me_l (List.mem_of_getElem? (i := 0) rfl))))) (fun _ h => h) rfl dX12_sums__19 ?_
        refine lv_iload_n hx hb dX12_sums__22 rfl (lv_at hl 1 rfl) ?_
        refine z_iald (i := 47) hx hb hK hW rfl (z_ix rfl (by omega) (by omega)) dX12_sums__23 ?_
        refine lv_topi (fun x15 ex15 => ?_)
        have h16 : 0 ≤ x15.toInt ∧ x15.toInt ≤ 30 := by rw [ex15]; exact hAdm _
        have hv17 : (I 47 a1.toNatClampNeg).toInt = x15.toInt := by rw [ex15]
        refine lv_icmp_ge (tgt := 37) hx hb dX12_sums__24 (by decide) (fun c18 => ?_) (fun c18 => ?_)
        · have g19 := z_f_ge rfl rfl c18
          refine lv_ldc2 (v := (-1)) hx hb hown (hts (.constantLong RX12 269 (-1)) (me_s (me_l (me_l (List.mem_of_getElem? (i := 1) rfl))))) dX12_sums__37 ?_
          exact z_lret hx hb hr hK hS (Nat.le_of_ble_eq_true rfl) (Nat.le_of_ble_eq_true rfl) hlocks dX12_sums__40 (shM, ad, I, J, PM ad) hW ⟨rfl, (Or.inr ⟨by omega, by decide⟩)⟩
        · have g20 := z_f_nge rfl rfl c18
          refine lv_iload hx hb dX12_sums__27 (lv_at hl 4 rfl) ?_
          refine lv_iconst (v := 0) hx hb dX12_sums__29 (by decide) ?_
          refine lv_iconst (v := 1) hx hb dX12_sums__30 (by decide) ?_
          refine z_ci hW hS hA (va_runS (As := [.int a4, .int 0, .int 1]) (rest := []) ⟨hx, hb, hml, hown, hts⟩ (sx_X12_within_e l G ad I J  a4 0 1 _) (va_cwS 3 hts gX12_sums__X12_within rfl rfl rfl (by decide +kernel) ⟨Nat.le_of_ble_eq_true rfl, Nat.le_of_ble_eq_true rfl⟩) (z_preS hK hW) rfl rfl hl.1 rfl (lv_room (Nat.le_of_ble_eq_true rfl)) dX12_sums__31 ⟨Nat.le_of_ble_eq_true rfl, Nat.le_of_ble_eq_true rfl⟩) (fun r u1 H locs hp hW hS => ?_)
          obtain ⟨e9, hp⟩ := hp
          rw [e9] at hW
          rcases hp with ⟨rfl, h21⟩ | ⟨rfl, h21⟩
          · have h22 := h21
            have z23 := z_l0
            have z24 := z_l1
            refine lv_if_ne (tgt := 41) hx hb dX12_sums__34 (by decide) (fun c25 => ?_) (fun c25 => absurd c25 (by decide))
            refine lv_bipush (v := 30) hx hb dX12_sums__41 (by decide) ?_
            refine lv_iload_n hx hb dX12_sums__43 rfl (lv_at hl 1 rfl) ?_
            refine lv_imul hx hb dX12_sums__44 ?_
            refine lv_topi (fun x26 ex26 => ?_)
            have tx26 : x26.toInt = 30 * a1.toInt := z_tmul ex26 z_l30 rfl (by omega) (by omega)
            refine lv_istore (lv' := [(5, .int x26), (0, .ref (ad 0)), (1, .int a1), (2, .int a2), (3, .int a3), (4, .int a4)]) hx hb dX12_sums__45 hl (by decide) rfl (fun ls hl => ?_)
            refine lv_aload_n hx hb dX12_sums__47 rfl (lv_at hl 1 rfl) ?_
            refine lv_iload hx hb dX12_sums__48 (lv_at hl 0 rfl) ?_
            refine lv_iload_n hx hb dX12_sums__50 rfl (lv_at hl 3 rfl) ?_
            refine lv_iadd hx hb dX12_sums__51 ?_
            refine lv_topi (fun x27 ex27 => ?_)
            have tx27 : x27.toInt = x26.toInt + a2.toInt := z_tadd ex27 rfl rfl (by omega) (by omega)
            refine z_cl hW hS hA (va_runV (As := [.int x27]) (rest := []) ⟨hx, hb, hml, hown, hts⟩ (sx_X12_highOf_u l G ad I J ⟨(by show 0 ≤ (I 0 0).toInt ∧ (I 0 0).toInt ≤ 719; exact hma.1), (by show 0 ≤ (I 0 1).toInt ∧ (I 0 1).toInt ≤ 30; exact hma.2.1), (by show 0 ≤ (I 0 2).toInt ∧ (I 0 2).toInt ≤ 200; exact hma.2.2)⟩ ⟨(by show 0 ≤ (I 0 13).toInt ∧ (I 0 13).toInt ≤ 12; exact hmb.1), (by show 0 ≤ (I 0 14).toInt ∧ (I 0 14).toInt ≤ 288; exact hmb.2)⟩ hAtf hAtm x27 hab (by omega) (by have c1 := z_clt (x := a1) rfl (by omega); have c2 := z_clt (x := a2) rfl (by omega); have c3 := z_clt (x := a3) rfl (by omega); have c4 := z_clt (x := x27) rfl (by omega); rw [show x27.toNatClampNeg = 30 * a1.toNatClampNeg + a2.toNatClampNeg by omega]; exact ⟨hTo a1.toNatClampNeg (by omega) a2.toNatClampNeg (by omega), hDm a1.toNatClampNeg (by omega) a2.toNatClampNeg (by omega)⟩) _) (cwV 1 hts gX12_sums__X12_highOf rfl rfl rfl (by decide +kernel) ⟨Nat.le_of_ble_eq_true rfl, Nat.le_of_ble_eq_true rfl⟩) (z_preV (i := 0) hK hW rfl rfl) rfl rfl hl.1 rfl (lv_room (Nat.le_of_ble_eq_true rfl)) dX12_sums__52 ⟨Nat.le_of_ble_eq_true rfl, Nat.le_of_ble_eq_true rfl⟩) (fun r u1 H locs hp hW hS => ?_)
            obtain ⟨e9, hp⟩ := hp
            rw [e9] at hW
            refine lv_topl (fun w28 ew28 => ?_)
            rw [← ew28] at hp
            have hb30 := hp.2
            have hl29 : zu_kh I a1.toNatClampNeg a2.toNatClampNeg 0 = w28.toInt := by have c1 := z_clt (x := a1) rfl (by omega); have c2 := z_clt (x := a2) rfl (by omega); have c3 := z_clt (x := a3) rfl (by omega); have c4 := z_clt (x := x27) rfl (by omega); unfold zu_kh; rw [show 30 * a1.toNatClampNeg + (a2.toNatClampNeg + 0) = x27.toNatClampNeg by omega]; exact hp.1.symm
            refine lv_lstore (lv' := [(6, .long w28), (5, .int x26), (0, .ref (ad 0)), (1, .int a1), (2, .int a2), (3, .int a3), (4, .int a4)]) hx hb dX12_sums__55 hl (by decide) rfl (fun ls hl => ?_)
            refine lv_aload_n hx hb dX12_sums__57 rfl (lv_at hl 2 rfl) ?_
            refine lv_iload hx hb dX12_sums__58 (lv_at hl 1 rfl) ?_
            refine lv_iload_n hx hb dX12_sums__60 rfl (lv_at hl 4 rfl) ?_
            refine lv_iadd hx hb dX12_sums__61 ?_
            refine lv_topi (fun x31 ex31 => ?_)
            have tx31 : x31.toInt = x26.toInt + a2.toInt := z_tadd ex31 rfl rfl (by omega) (by omega)
            refine z_cl hW hS hA (va_runV (As := [.int x31]) (rest := []) ⟨hx, hb, hml, hown, hts⟩ (sx_X12_lowOf_u l G ad I J ⟨(by show 0 ≤ (I 0 0).toInt ∧ (I 0 0).toInt ≤ 719; exact hma.1), (by show 0 ≤ (I 0 1).toInt ∧ (I 0 1).toInt ≤ 30; exact hma.2.1), (by show 0 ≤ (I 0 2).toInt ∧ (I 0 2).toInt ≤ 200; exact hma.2.2)⟩ ⟨(by show 0 ≤ (I 0 13).toInt ∧ (I 0 13).toInt ≤ 12; exact hmb.1), (by show 0 ≤ (I 0 14).toInt ∧ (I 0 14).toInt ≤ 288; exact hmb.2)⟩ hAtf hAtm x31 hab (by omega) (by have c1 := z_clt (x := a1) rfl (by omega); have c2 := z_clt (x := a2) rfl (by omega); have c3 := z_clt (x := a3) rfl (by omega); have c4 := z_clt (x := x31) rfl (by omega); rw [show x31.toNatClampNeg = 30 * a1.toNatClampNeg + a2.toNatClampNeg by omega]; exact ⟨hTo a1.toNatClampNeg (by omega) a2.toNatClampNeg (by omega), hDm a1.toNatClampNeg (by omega) a2.toNatClampNeg (by omega)⟩) _) (cwV 1 hts gX12_sums__X12_lowOf rfl rfl rfl (by decide +kernel) ⟨Nat.le_of_ble_eq_true rfl, Nat.le_of_ble_eq_true rfl⟩) (z_preV (i := 0) hK hW rfl rfl) rfl rfl hl.1 rfl (lv_room (Nat.le_of_ble_eq_true rfl)) dX12_sums__62 ⟨Nat.le_of_ble_eq_true rfl, Nat.le_of_ble_eq_true rfl⟩) (fun r u1 H locs hp hW hS => ?_)
            obtain ⟨e9, hp⟩ := hp
            rw [e9] at hW
            refine lv_topl (fun w32 ew32 => ?_)
            rw [← ew32] at hp
            have hb34 := hp.2
            have hl33 : zu_kl I a1.toNatClampNeg a2.toNatClampNeg 0 = w32.toInt := by have c1 := z_clt (x := a1) rfl (by omega); have c2 := z_clt (x := a2) rfl (by omega); have c3 := z_clt (x := a3) rfl (by omega); have c4 := z_clt (x := x31) rfl (by omega); unfold zu_kl; rw [show 30 * a1.toNatClampNeg + (a2.toNatClampNeg + 0) = x31.toNatClampNeg by omega]; exact hp.1.symm
            refine lv_lstore (lv' := [(8, .long w32), (6, .long w28), (5, .int x26), (0, .ref (ad 0)), (1, .int a1), (2, .int a2), (3, .int a3), (4, .int a4)]) hx hb dX12_sums__65 hl (by decide) rfl (fun ls hl => ?_)
            refine lv_lconst (v := 0) hx hb dX12_sums__67 (by decide) ?_
            refine lv_lstore (lv' := [(10, .long 0), (8, .long w32), (6, .long w28), (5, .int x26), (0, .ref (ad 0)), (1, .int a1), (2, .int a2), (3, .int a3), (4, .int a4)]) hx hb dX12_sums__68 hl (by decide) rfl (fun ls hl => ?_)
            refine lv_iconst (v := 0) hx hb dX12_sums__70 (by decide) ?_
            refine lv_istore (lv' := [(12, .int 0), (10, .long 0), (8, .long w32), (6, .long w28), (5, .int x26), (0, .ref (ad 0)), (1, .int a1), (2, .int a2), (3, .int a3), (4, .int a4)]) hx hb dX12_sums__71 hl (by decide) rfl (fun ls hl => ?_)
            refine lv_lconst (v := 0) hx hb dX12_sums__73 (by decide) ?_
            refine lv_lstore (lv' := [(13, .long 0), (12, .int 0), (10, .long 0), (8, .long w32), (6, .long w28), (5, .int x26), (0, .ref (ad 0)), (1, .int a1), (2, .int a2), (3, .int a3), (4, .int a4)]) hx hb dX12_sums__74 hl (by decide) rfl (fun ls hl => ?_)
            refine lv_iload_n hx hb dX12_sums__76 rfl (lv_at hl 8 rfl) ?_
            refine lv_istore (lv' := [(15, .int a2), (13, .long 0), (12, .int 0), (10, .long 0), (8, .long w32), (6, .long w28), (5, .int x26), (0, .ref (ad 0)), (1, .int a1), (2, .int a2), (3, .int a3), (4, .int a4)]) hx hb dX12_sums__77 hl (by decide) rfl (fun ls hl => ?_)
            have lp35 : ∀ (f : Nat) (y36 : Int32) (w37 : Int64) (y38 : Int32) (w39 : Int64) (w40 : Int64) (w41 : Int64) (H : Heap) (locs : List Loc) (ls : Array Slot), (2147483647 < y36.toInt + (f : Int)) → (0 ≤ y36.toInt) → (y36.toInt ≤ 29) → (0 ≤ y38.toInt) → (y38.toInt ≤ 1) → (a2.toInt ≤ y36.toInt) → ((w37.toInt = zu_s (zu_kv I a1.toNatClampNeg a2.toNatClampNeg) (y36.toInt - a2.toInt).toNat ∧ -1100000000 * (y36.toInt - a2.toInt) ≤ w37.toInt ∧ w37.toInt ≤ 1100000000 * (y36.toInt - a2.toInt)) ∧ (w41.toInt = zu_H (zu_kh I a1.toNatClampNeg a2.toNatClampNeg) (zu_kv I a1.toNatClampNeg a2.toNatClampNeg) (y36.toInt - a2.toInt).toNat ∧ -1100000000 * (y36.toInt - a2.toInt) ≤ w41.toInt ∧ w41.toInt ≤ 1199999) ∧ (w40.toInt = zu_L (zu_kl I a1.toNatClampNeg a2.toNatClampNeg) (zu_kv I a1.toNatClampNeg a2.toNatClampNeg) (y36.toInt - a2.toInt).toNat ∧ 0 ≤ w40.toInt ∧ w40.toInt ≤ 200000 + 1100000000 * (y36.toInt - a2.toInt)) ∧ (w39.toInt = zu_Z (zu_kh I a1.toNatClampNeg a2.toNatClampNeg) (zu_kv I a1.toNatClampNeg a2.toNatClampNeg) (y36.toInt - a2.toInt).toNat ∧ -1100000000 * (y36.toInt - a2.toInt) ≤ w39.toInt ∧ w39.toInt ≤ 1199999) ∧ ((y38.toInt = 0 ∧ y36.toInt = a2.toInt) ∨ (y38.toInt = 1 ∧ a2.toInt < y36.toInt)) ∧ a2.toInt ≤ y36.toInt ∧ y36.toInt ≤ a3.toInt) → (∀ q : Nat, 1 ≤ q → q ≤ (y36.toInt - a2.toInt).toNat → zu_kl I a1.toNatClampNeg a2.toNatClampNeg q ≤ zu_H (zu_kh I a1.toNatClampNeg a2.toNatClampNeg) (zu_kv I a1.toNatClampNeg a2.toNatClampNeg) q) → z_W G A (shM, ad, I, J, PM ad) H → va_S A s.heap H locs → lv_has ls 18 [(15, .int y36), (13, .long w37), (12, .int y38), (10, .long w39), (8, .long w40), (6, .long w41), (5, .int x26), (0, .ref (ad 0)), (1, .int a1), (2, .int a2), (3, .int a3), (4, .int a4)] → W p l e (headSpec wsX12_sums_ { frames := 4, cells := 0, slots := 0, locals := 89 }).room s m ([.ref (ad 0), .int a1, .int a2, .int a3, .int a4] : List Value).toArray below meth c0 H locs 0 0 (MQ below (va_Ql (fun (r : Int64) (u1 : z_U) => u1 = (shM, ad, I, J, PM ad) ∧ ((((0 ≤ a1.toInt ∧ a1.toInt < (I 0 54).toInt) ∧ ((0 ≤ a2.toInt ∧ a2.toInt < a3.toInt) ∧ a3.toInt < (I 47 a1.toNatClampNeg).toInt) ∧ 0 ≤ a4.toInt ∧ a4.toInt ≤ 1) ∧ zu_Y (zu_kl I a1.toNatClampNeg a2.toNatClampNeg) (zu_kh I a1.toNatClampNeg a2.toNatClampNeg) (zu_kv I a1.toNatClampNeg a2.toNatClampNeg) (a3.toNatClampNeg - a2.toNatClampNeg) a4.toInt r.toInt) ∨ (¬ ((0 ≤ a1.toInt ∧ a1.toInt < (I 0 54).toInt) ∧ ((0 ≤ a2.toInt ∧ a2.toInt < a3.toInt) ∧ a3.toInt < (I 47 a1.toNatClampNeg).toInt) ∧ 0 ≤ a4.toInt ∧ a4.toInt ≤ 1) ∧ r.toInt = -1))) (z_B G A) A) ([.ref (ad 0), .int a1, .int a2, .int a3, .int a4] : List Value).toArray s 0 0 A) (F0 m 79 ls []) := by
              intro f
              induction f with
              | zero => intro y36 w37 y38 w39 w40 w41 H locs ls lp35m lp35l15 lp35u15 lp35l12 lp35u12 lp35z lp35S lp35K hW hS hl; exact absurd lp35m (by have := Int32.toInt_lt y36; have := Int32.le_toInt y36; omega)
              | succ f lp35ih =>
                intro y36 w37 y38 w39 w40 w41 H locs ls lp35m lp35l15 lp35u15 lp35l12 lp35u12 lp35z lp35S lp35K hW hS hl
                refine lv_iload hx hb dX12_sums__79 (lv_at hl 0 rfl) ?_
                refine lv_iload_n hx hb dX12_sums__81 rfl (lv_at hl 10 rfl) ?_
                refine lv_icmp_ge (tgt := 246) hx hb dX12_sums__82 (by decide) (fun c42 => ?_) (fun c42 => ?_)
                · have g43 := z_f_ge rfl rfl c42
                  refine lv_iload hx hb dX12_sums__246 (lv_at hl 11 rfl) ?_
                  refine lv_iconst (v := 1) hx hb dX12_sums__248 (by decide) ?_
                  refine lv_icmp_ne (tgt := 273) hx hb dX12_sums__249 (by decide) (fun c44 => ?_) (fun c44 => ?_)
                  · have g45 := z_f_ne rfl z_l1 c44
                    refine lv_lload hx hb dX12_sums__273 (lv_at hl 1 rfl) ?_
                    refine lv_lload hx hb dX12_sums__275 (lv_at hl 4 rfl) ?_
                    refine lv_ladd hx hb dX12_sums__277 ?_
                    refine lv_topl (fun w46 ew46 => ?_)
                    have tw46 : w46.toInt = w37.toInt + w40.toInt := z_tladd ew46 rfl rfl (by omega) (by omega)
                    refine lv_lload hx hb dX12_sums__278 (lv_at hl 3 rfl) ?_
                    refine lv_lsub hx hb dX12_sums__280 ?_
                    refine lv_topl (fun w47 ew47 => ?_)
                    have tw47 : w47.toInt = (w37.toInt + w40.toInt) - w39.toInt := z_tlsub ew47 tw46 rfl (by omega) (by omega)
                    refine lv_lstore (lv' := [(15, .long w47), (13, .long w37), (12, .int y38), (10, .long w39), (8, .long w40), (6, .long w41), (5, .int x26), (0, .ref (ad 0)), (1, .int a1), (2, .int a2), (3, .int a3), (4, .int a4)]) hx hb dX12_sums__281 hl (by decide) rfl (fun ls hl => ?_)
                    refine lv_lload hx hb dX12_sums__283 (lv_at hl 0 rfl) ?_
                    refine lv_lconst (v := 0) hx hb dX12_sums__285 (by decide) ?_
                    refine W.lcmp hx hb dX12_sums__286 ?_
                    refine lv_topi (fun x48 ex48 => ?_)
                    have tx48 := z_tcmp ex48
                    have h49 := z_tlcmp ex48 tw47 (show (0 : Int64).toInt = 0 by decide)
                    refine lv_if_ge (tgt := 294) hx hb dX12_sums__287 (by decide) (fun c50 => ?_) (fun c50 => ?_)
                    · have g51 := z_f_ge rfl z_l0 c50
                      refine lv_lload hx hb dX12_sums__294 (lv_at hl 0 rfl) ?_
                      exact z_lret hx hb hr hK hS (Nat.le_of_ble_eq_true rfl) (Nat.le_of_ble_eq_true rfl) hlocks dX12_sums__296 (shM, ad, I, J, PM ad) hW ⟨rfl, (by have q9 := lp35S; obtain ⟨⟨s1, s2, s3⟩, ⟨s4, s5, s6⟩, ⟨s7, s8, s9⟩, ⟨t1, t2, t3⟩, t4, t5, t6⟩ := q9; have c1 := z_clt (x := a1) rfl (by omega); have c2 := z_clt (x := a2) rfl (by omega); have c3 := z_clt (x := a3) rfl (by omega); have e9 : (y36.toInt - a2.toInt).toNat = (a3.toNatClampNeg - a2.toNatClampNeg) := (by omega); have k9 := lp35K; rw [e9] at s1 s4 s7 t1 k9; have q0 : (0 : Int64).toInt = 0 := (by decide); refine Or.inl ⟨by omega, Or.inr ⟨k9, ?_⟩⟩; first | exact Or.inl ⟨by omega, by omega⟩ | exact Or.inr ⟨by omega, by omega⟩)⟩
                    · have g52 := z_f_nge rfl z_l0 c50
                      refine lv_lconst (v := 0) hx hb dX12_sums__290 (by decide) ?_
                      refine lv_goto (tgt := 296) hx hb dX12_sums__291 (by decide) ?_
                      exact z_lret hx hb hr hK hS (Nat.le_of_ble_eq_true rfl) (Nat.le_of_ble_eq_true rfl) hlocks dX12_sums__296 (shM, ad, I, J, PM ad) hW ⟨rfl, (by have q9 := lp35S; obtain ⟨⟨s1, s2, s3⟩, ⟨s4, s5, s6⟩, ⟨s7, s8, s9⟩, ⟨t1, t2, t3⟩, t4, t5, t6⟩ := q9; have c1 := z_clt (x := a1) rfl (by omega); have c2 := z_clt (x := a2) rfl (by omega); have c3 := z_clt (x := a3) rfl (by omega); have e9 : (y36.toInt - a2.toInt).toNat = (a3.toNatClampNeg - a2.toNatClampNeg) := (by omega); have k9 := lp35K; rw [e9] at s1 s4 s7 t1 k9; have q0 : (0 : Int64).toInt = 0 := (by decide); refine Or.inl ⟨by omega, Or.inr ⟨k9, ?_⟩⟩; first | exact Or.inl ⟨by omega, by omega⟩ | exact Or.inr ⟨by omega, by omega⟩)⟩
                  · have g53 := z_f_eq rfl z_l1 c44
                    refine lv_lload hx hb dX12_sums__252 (lv_at hl 1 rfl) ?_
                    refine lv_aload_n hx hb dX12_sums__254 rfl (lv_at hl 7 rfl) ?_
                    refine lv_iload hx hb dX12_sums__255 (lv_at hl 6 rfl) ?_
                    refine lv_iload_n hx hb dX12_sums__257 rfl (lv_at hl 9 rfl) ?_
                    refine lv_iadd hx hb dX12_sums__258 ?_
                    refine lv_topi (fun x54 ex54 => ?_)
                    have tx54 : x54.toInt = x26.toInt + a2.toInt := z_tadd ex54 rfl rfl (by omega) (by omega)
                    refine z_cl hW hS hA (va_runV (As := [.int x54]) (rest := [.long w37]) ⟨hx, hb, hml, hown, hts⟩ (sx_X12_highOf_u l G ad I J ⟨(by show 0 ≤ (I 0 0).toInt ∧ (I 0 0).toInt ≤ 719; exact hma.1), (by show 0 ≤ (I 0 1).toInt ∧ (I 0 1).toInt ≤ 30; exact hma.2.1), (by show 0 ≤ (I 0 2).toInt ∧ (I 0 2).toInt ≤ 200; exact hma.2.2)⟩ ⟨(by show 0 ≤ (I 0 13).toInt ∧ (I 0 13).toInt ≤ 12; exact hmb.1), (by show 0 ≤ (I 0 14).toInt ∧ (I 0 14).toInt ≤ 288; exact hmb.2)⟩ hAtf hAtm x54 hab (by omega) (by have c1 := z_clt (x := a1) rfl (by omega); have c2 := z_clt (x := a2) rfl (by omega); have c3 := z_clt (x := a3) rfl (by omega); have c4 := z_clt (x := x54) rfl (by omega); rw [show x54.toNatClampNeg = 30 * a1.toNatClampNeg + a2.toNatClampNeg by omega]; exact ⟨hTo a1.toNatClampNeg (by omega) a2.toNatClampNeg (by omega), hDm a1.toNatClampNeg (by omega) a2.toNatClampNeg (by omega)⟩) _) (cwV 1 hts gX12_sums__X12_highOf rfl rfl rfl (by decide +kernel) ⟨Nat.le_of_ble_eq_true rfl, Nat.le_of_ble_eq_true rfl⟩) (z_preV (i := 0) hK hW rfl rfl) rfl rfl hl.1 rfl (lv_room (Nat.le_of_ble_eq_true rfl)) dX12_sums__259 ⟨Nat.le_of_ble_eq_true rfl, Nat.le_of_ble_eq_true rfl⟩) (fun r u1 H locs hp hW hS => ?_)
                    obtain ⟨e9, hp⟩ := hp
                    rw [e9] at hW
                    refine lv_topl (fun w55 ew55 => ?_)
                    rw [← ew55] at hp
                    have hb57 := hp.2
                    have hl56 : zu_kh I a1.toNatClampNeg a2.toNatClampNeg 0 = w55.toInt := by have c1 := z_clt (x := a1) rfl (by omega); have c2 := z_clt (x := a2) rfl (by omega); have c3 := z_clt (x := a3) rfl (by omega); have c4 := z_clt (x := x54) rfl (by omega); unfold zu_kh; rw [show 30 * a1.toNatClampNeg + (a2.toNatClampNeg + 0) = x54.toNatClampNeg by omega]; exact hp.1.symm
                    refine lv_ladd hx hb dX12_sums__262 ?_
                    refine lv_topl (fun w58 ew58 => ?_)
                    have tw58 : w58.toInt = w37.toInt + w55.toInt := z_tladd ew58 rfl rfl (by omega) (by omega)
                    refine lv_aload_n hx hb dX12_sums__263 rfl (lv_at hl 7 rfl) ?_
                    refine lv_iload hx hb dX12_sums__264 (lv_at hl 6 rfl) ?_
                    refine lv_iload_n hx hb dX12_sums__266 rfl (lv_at hl 10 rfl) ?_
                    refine lv_iadd hx hb dX12_sums__267 ?_
                    refine lv_topi (fun x59 ex59 => ?_)
                    have tx59 : x59.toInt = x26.toInt + a3.toInt := z_tadd ex59 rfl rfl (by omega) (by omega)
                    refine z_cl hW hS hA (va_runV (As := [.int x59]) (rest := [.long w58]) ⟨hx, hb, hml, hown, hts⟩ (sx_X12_lowOf_u l G ad I J ⟨(by show 0 ≤ (I 0 0).toInt ∧ (I 0 0).toInt ≤ 719; exact hma.1), (by show 0 ≤ (I 0 1).toInt ∧ (I 0 1).toInt ≤ 30; exact hma.2.1), (by show 0 ≤ (I 0 2).toInt ∧ (I 0 2).toInt ≤ 200; exact hma.2.2)⟩ ⟨(by show 0 ≤ (I 0 13).toInt ∧ (I 0 13).toInt ≤ 12; exact hmb.1), (by show 0 ≤ (I 0 14).toInt ∧ (I 0 14).toInt ≤ 288; exact hmb.2)⟩ hAtf hAtm x59 hab (by omega) (by have c1 := z_clt (x := a1) rfl (by omega); have c2 := z_clt (x := a2) rfl (by omega); have c3 := z_clt (x := a3) rfl (by omega); have c4 := z_clt (x := x59) rfl (by omega); rw [show x59.toNatClampNeg = 30 * a1.toNatClampNeg + a3.toNatClampNeg by omega]; exact ⟨hTo a1.toNatClampNeg (by omega) a3.toNatClampNeg (by omega), hDm a1.toNatClampNeg (by omega) a3.toNatClampNeg (by omega)⟩) _) (cwV 1 hts gX12_sums__X12_lowOf rfl rfl rfl (by decide +kernel) ⟨Nat.le_of_ble_eq_true rfl, Nat.le_of_ble_eq_true rfl⟩) (z_preV (i := 0) hK hW rfl rfl) rfl rfl hl.1 rfl (lv_room (Nat.le_of_ble_eq_true rfl)) dX12_sums__268 ⟨Nat.le_of_ble_eq_true rfl, Nat.le_of_ble_eq_true rfl⟩) (fun r u1 H locs hp hW hS => ?_)
                    obtain ⟨e9, hp⟩ := hp
                    rw [e9] at hW
                    refine lv_topl (fun w60 ew60 => ?_)
                    rw [← ew60] at hp
                    have hb62 := hp.2
                    have hl61 : zu_kl I a1.toNatClampNeg a2.toNatClampNeg (a3.toNatClampNeg - a2.toNatClampNeg) = w60.toInt := by have c1 := z_clt (x := a1) rfl (by omega); have c2 := z_clt (x := a2) rfl (by omega); have c3 := z_clt (x := a3) rfl (by omega); have c4 := z_clt (x := x59) rfl (by omega); unfold zu_kl; rw [show 30 * a1.toNatClampNeg + (a2.toNatClampNeg + (a3.toNatClampNeg - a2.toNatClampNeg)) = x59.toNatClampNeg by omega]; exact hp.1.symm
                    refine lv_lsub hx hb dX12_sums__271 ?_
                    refine lv_topl (fun w63 ew63 => ?_)
                    have tw63 : w63.toInt = (w37.toInt + w55.toInt) - w60.toInt := z_tlsub ew63 tw58 rfl (by omega) (by omega)
                    exact z_lret hx hb hr hK hS (Nat.le_of_ble_eq_true rfl) (Nat.le_of_ble_eq_true rfl) hlocks dX12_sums__272 (shM, ad, I, J, PM ad) hW ⟨rfl, (by have q9 := lp35S; obtain ⟨⟨s1, s2, s3⟩, ⟨s4, s5, s6⟩, ⟨s7, s8, s9⟩, ⟨t1, t2, t3⟩, t4, t5, t6⟩ := q9; have c1 := z_clt (x := a1) rfl (by omega); have c2 := z_clt (x := a2) rfl (by omega); have c3 := z_clt (x := a3) rfl (by omega); have e9 : (y36.toInt - a2.toInt).toNat = (a3.toNatClampNeg - a2.toNatClampNeg) := (by omega); have k9 := lp35K; rw [e9] at s1 s4 s7 t1 k9; have q0 : (0 : Int64).toInt = 0 := (by decide); refine Or.inl ⟨by omega, Or.inr ⟨k9, ?_⟩⟩; first | exact Or.inl ⟨by omega, by omega⟩ | exact Or.inr ⟨by omega, by omega⟩)⟩
                · have g64 := z_f_nge rfl rfl c42
                  refine lv_aload_n hx hb dX12_sums__85 rfl (lv_at hl 7 rfl) ?_
                  refine lv_iload_n hx hb dX12_sums__86 rfl (lv_at hl 8 rfl) ?_
                  refine lv_iload hx hb dX12_sums__87 (lv_at hl 0 rfl) ?_
                  refine z_cl hW hS hA (va_runV (As := [.int a1, .int y36]) (rest := []) ⟨hx, hb, hml, hown, hts⟩ (sx_X12_inOf_u l G ad I J ⟨(by show 0 ≤ (I 0 54).toInt ∧ (I 0 54).toInt ≤ 10; exact hms.1), (by show 0 ≤ (I 0 55).toInt ∧ (I 0 55).toInt ≤ 300; exact hms.2)⟩ ⟨(by show 0 ≤ (I 0 0).toInt ∧ (I 0 0).toInt ≤ 719; exact hma.1), (by show 0 ≤ (I 0 1).toInt ∧ (I 0 1).toInt ≤ 30; exact hma.2.1), (by show 0 ≤ (I 0 2).toInt ∧ (I 0 2).toInt ≤ 200; exact hma.2.2)⟩ hAgm ⟨(by show 0 ≤ (I 0 13).toInt ∧ (I 0 13).toInt ≤ 12; exact hmb.1), (by show 0 ≤ (I 0 14).toInt ∧ (I 0 14).toInt ≤ 288; exact hmb.2)⟩ hAtf hAtm a1 y36 hab hTe hGv hDm (by omega) (by omega) _) (cwV 2 hts gX12_sums__X12_inOf rfl rfl rfl (by decide +kernel) ⟨Nat.le_of_ble_eq_true rfl, Nat.le_of_ble_eq_true rfl⟩) (z_preV (i := 0) hK hW rfl rfl) rfl rfl hl.1 rfl (lv_room (Nat.le_of_ble_eq_true rfl)) dX12_sums__89 ⟨Nat.le_of_ble_eq_true rfl, Nat.le_of_ble_eq_true rfl⟩) (fun r u1 H locs hp hW hS => ?_)
                  obtain ⟨e9, hp⟩ := hp
                  rw [e9] at hW
                  refine lv_topl (fun w65 ew65 => ?_)
                  rw [← ew65] at hp
                  have hb67 := hp.2
                  have hJ66 : zu_kv I a1.toNatClampNeg a2.toNatClampNeg (y36.toInt - a2.toInt).toNat = w65.toInt := by have c1 := z_clt (x := a1) rfl (by omega); have c2 := z_clt (x := a2) rfl (by omega); have c3 := z_clt (x := a3) rfl (by omega); have c4 := z_clt (x := y36) rfl (by omega); unfold zu_kv; rw [show a2.toNatClampNeg + (y36.toInt - a2.toInt).toNat = y36.toNatClampNeg by omega]; exact hp.1.symm
                  refine lv_lstore (lv' := [(16, .long w65), (15, .int y36), (13, .long w37), (12, .int y38), (10, .long w39), (8, .long w40), (6, .long w41), (5, .int x26), (0, .ref (ad 0)), (1, .int a1), (2, .int a2), (3, .int a3), (4, .int a4)]) hx hb dX12_sums__92 hl (by decide) rfl (fun ls hl => ?_)
                  refine lv_lload hx hb dX12_sums__94 (lv_at hl 2 rfl) ?_
                  refine lv_lload hx hb dX12_sums__96 (lv_at hl 0 rfl) ?_
                  refine lv_ladd hx hb dX12_sums__98 ?_
                  refine lv_topl (fun w68 ew68 => ?_)
                  have tw68 : w68.toInt = w37.toInt + w65.toInt := z_tladd ew68 rfl rfl (by omega) (by omega)
                  refine lv_lstore (lv' := [(13, .long w68), (16, .long w65), (15, .int y36), (12, .int y38), (10, .long w39), (8, .long w40), (6, .long w41), (5, .int x26), (0, .ref (ad 0)), (1, .int a1), (2, .int a2), (3, .int a3), (4, .int a4)]) hx hb dX12_sums__99 hl (by decide) rfl (fun ls hl => ?_)
                  refine lv_lload hx hb dX12_sums__101 (lv_at hl 6 rfl) ?_
                  refine lv_lload hx hb dX12_sums__103 (lv_at hl 1 rfl) ?_
                  refine lv_ladd hx hb dX12_sums__105 ?_
                  refine lv_topl (fun w69 ew69 => ?_)
                  have tw69 : w69.toInt = w41.toInt + w65.toInt := z_tladd ew69 rfl rfl (by omega) (by omega)
                  refine lv_lstore (lv' := [(6, .long w69), (13, .long w68), (16, .long w65), (15, .int y36), (12, .int y38), (10, .long w39), (8, .long w40), (5, .int x26), (0, .ref (ad 0)), (1, .int a1), (2, .int a2), (3, .int a3), (4, .int a4)]) hx hb dX12_sums__106 hl (by decide) rfl (fun ls hl => ?_)
                  refine lv_lload hx hb dX12_sums__108 (lv_at hl 5 rfl) ?_
                  refine lv_lload hx hb dX12_sums__110 (lv_at hl 2 rfl) ?_
                  refine lv_ladd hx hb dX12_sums__112 ?_
                  refine lv_topl (fun w70 ew70 => ?_)
                  have tw70 : w70.toInt = w39.toInt + w65.toInt := z_tladd ew70 rfl rfl (by omega) (by omega)
                  refine lv_lstore (lv' := [(10, .long w70), (6, .long w69), (13, .long w68), (16, .long w65), (15, .int y36), (12, .int y38), (8, .long w40), (5, .int x26), (0, .ref (ad 0)), (1, .int a1), (2, .int a2), (3, .int a3), (4, .int a4)]) hx hb dX12_sums__113 hl (by decide) rfl (fun ls hl => ?_)
                  refine lv_aload_n hx hb dX12_sums__115 rfl (lv_at hl 8 rfl) ?_
                  refine lv_iload hx hb dX12_sums__116 (lv_at hl 7 rfl) ?_
                  refine lv_iload hx hb dX12_sums__118 (lv_at hl 4 rfl) ?_
                  refine lv_iadd hx hb dX12_sums__120 ?_
                  refine lv_topi (fun x71 ex71 => ?_)
                  have tx71 : x71.toInt = x26.toInt + y36.toInt := z_tadd ex71 rfl rfl (by omega) (by omega)
                  refine lv_iconst (v := 1) hx hb dX12_sums__121 (by decide) ?_
                  refine lv_iadd hx hb dX12_sums__122 ?_
                  refine lv_topi (fun x72 ex72 => ?_)
                  have tx72 : x72.toInt = x71.toInt + 1 := z_tadd ex72 rfl z_l1 (by omega) (by omega)
                  refine z_cl hW hS hA (va_runV (As := [.int x72]) (rest := []) ⟨hx, hb, hml, hown, hts⟩ (sx_X12_highOf_u l G ad I J ⟨(by show 0 ≤ (I 0 0).toInt ∧ (I 0 0).toInt ≤ 719; exact hma.1), (by show 0 ≤ (I 0 1).toInt ∧ (I 0 1).toInt ≤ 30; exact hma.2.1), (by show 0 ≤ (I 0 2).toInt ∧ (I 0 2).toInt ≤ 200; exact hma.2.2)⟩ ⟨(by show 0 ≤ (I 0 13).toInt ∧ (I 0 13).toInt ≤ 12; exact hmb.1), (by show 0 ≤ (I 0 14).toInt ∧ (I 0 14).toInt ≤ 288; exact hmb.2)⟩ hAtf hAtm x72 hab (by omega) (by have c1 := z_clt (x := a1) rfl (by omega); have c2 := z_clt (x := a2) rfl (by omega); have c3 := z_clt (x := a3) rfl (by omega); have c4 := z_clt (x := x72) rfl (by omega); rw [show x72.toNatClampNeg = 30 * a1.toNatClampNeg + (y36.toNatClampNeg + 1) by omega]; exact ⟨hTo a1.toNatClampNeg (by omega) (y36.toNatClampNeg + 1) (by omega), hDm a1.toNatClampNeg (by omega) (y36.toNatClampNeg + 1) (by omega)⟩) _) (cwV 1 hts gX12_sums__X12_highOf rfl rfl rfl (by decide +kernel) ⟨Nat.le_of_ble_eq_true rfl, Nat.le_of_ble_eq_true rfl⟩) (z_preV (i := 0) hK hW rfl rfl) rfl rfl hl.1 rfl (lv_room (Nat.le_of_ble_eq_true rfl)) dX12_sums__123 ⟨Nat.le_of_ble_eq_true rfl, Nat.le_of_ble_eq_true rfl⟩) (fun r u1 H locs hp hW hS => ?_)
                  obtain ⟨e9, hp⟩ := hp
                  rw [e9] at hW
                  refine lv_topl (fun w73 ew73 => ?_)
                  rw [← ew73] at hp
                  have hb75 := hp.2
                  have hl74 : zu_kh I a1.toNatClampNeg a2.toNatClampNeg ((y36.toInt - a2.toInt).toNat + 1) = w73.toInt := by have c1 := z_clt (x := a1) rfl (by omega); have c2 := z_clt (x := a2) rfl (by omega); have c3 := z_clt (x := a3) rfl (by omega); have c4 := z_clt (x := x72) rfl (by omega); unfold zu_kh; rw [show 30 * a1.toNatClampNeg + (a2.toNatClampNeg + ((y36.toInt - a2.toInt).toNat + 1)) = x72.toNatClampNeg by omega]; exact hp.1.symm
                  refine lv_lload hx hb dX12_sums__126 (lv_at hl 1 rfl) ?_
                  refine W.lcmp hx hb dX12_sums__128 ?_
                  refine lv_topi (fun x76 ex76 => ?_)
                  have tx76 := z_tcmp ex76
                  have h77 := z_tlcmp ex76 rfl tw69
                  refine lv_if_ge (tgt := 145) hx hb dX12_sums__129 (by decide) (fun c78 => ?_) (fun c78 => ?_)
                  · have g79 := z_f_ge rfl z_l0 c78
                    refine lv_iload hx hb dX12_sums__145 (lv_at hl 5 rfl) ?_
                    refine lv_if_eq (tgt := 167) hx hb dX12_sums__147 (by decide) (fun c80 => ?_) (fun c80 => ?_)
                    · have g81 := z_f_eq rfl z_l0 c80
                      refine lv_aload_n hx hb dX12_sums__167 rfl (lv_at hl 8 rfl) ?_
                      refine lv_iload hx hb dX12_sums__168 (lv_at hl 7 rfl) ?_
                      refine lv_iload hx hb dX12_sums__170 (lv_at hl 4 rfl) ?_
                      refine lv_iadd hx hb dX12_sums__172 ?_
                      refine lv_topi (fun x82 ex82 => ?_)
                      have tx82 : x82.toInt = x26.toInt + y36.toInt := z_tadd ex82 rfl rfl (by omega) (by omega)
                      refine lv_iconst (v := 1) hx hb dX12_sums__173 (by decide) ?_
                      refine lv_iadd hx hb dX12_sums__174 ?_
                      refine lv_topi (fun x83 ex83 => ?_)
                      have tx83 : x83.toInt = x82.toInt + 1 := z_tadd ex83 rfl z_l1 (by omega) (by omega)
                      refine z_cl hW hS hA (va_runV (As := [.int x83]) (rest := []) ⟨hx, hb, hml, hown, hts⟩ (sx_X12_highOf_u l G ad I J ⟨(by show 0 ≤ (I 0 0).toInt ∧ (I 0 0).toInt ≤ 719; exact hma.1), (by show 0 ≤ (I 0 1).toInt ∧ (I 0 1).toInt ≤ 30; exact hma.2.1), (by show 0 ≤ (I 0 2).toInt ∧ (I 0 2).toInt ≤ 200; exact hma.2.2)⟩ ⟨(by show 0 ≤ (I 0 13).toInt ∧ (I 0 13).toInt ≤ 12; exact hmb.1), (by show 0 ≤ (I 0 14).toInt ∧ (I 0 14).toInt ≤ 288; exact hmb.2)⟩ hAtf hAtm x83 hab (by omega) (by have c1 := z_clt (x := a1) rfl (by omega); have c2 := z_clt (x := a2) rfl (by omega); have c3 := z_clt (x := a3) rfl (by omega); have c4 := z_clt (x := x83) rfl (by omega); rw [show x83.toNatClampNeg = 30 * a1.toNatClampNeg + (y36.toNatClampNeg + 1) by omega]; exact ⟨hTo a1.toNatClampNeg (by omega) (y36.toNatClampNeg + 1) (by omega), hDm a1.toNatClampNeg (by omega) (y36.toNatClampNeg + 1) (by omega)⟩) _) (cwV 1 hts gX12_sums__X12_highOf rfl rfl rfl (by decide +kernel) ⟨Nat.le_of_ble_eq_true rfl, Nat.le_of_ble_eq_true rfl⟩) (z_preV (i := 0) hK hW rfl rfl) rfl rfl hl.1 rfl (lv_room (Nat.le_of_ble_eq_true rfl)) dX12_sums__175 ⟨Nat.le_of_ble_eq_true rfl, Nat.le_of_ble_eq_true rfl⟩) (fun r u1 H locs hp hW hS => ?_)
                      obtain ⟨e9, hp⟩ := hp
                      rw [e9] at hW
                      refine lv_topl (fun w84 ew84 => ?_)
                      rw [← ew84] at hp
                      have hb86 := hp.2
                      have hl85 : zu_kh I a1.toNatClampNeg a2.toNatClampNeg ((y36.toInt - a2.toInt).toNat + 1) = w84.toInt := by have c1 := z_clt (x := a1) rfl (by omega); have c2 := z_clt (x := a2) rfl (by omega); have c3 := z_clt (x := a3) rfl (by omega); have c4 := z_clt (x := x83) rfl (by omega); unfold zu_kh; rw [show 30 * a1.toNatClampNeg + (a2.toNatClampNeg + ((y36.toInt - a2.toInt).toNat + 1)) = x83.toNatClampNeg by omega]; exact hp.1.symm
                      refine lv_lstore (lv' := [(10, .long w84), (6, .long w69), (13, .long w68), (16, .long w65), (15, .int y36), (12, .int y38), (8, .long w40), (5, .int x26), (0, .ref (ad 0)), (1, .int a1), (2, .int a2), (3, .int a3), (4, .int a4)]) hx hb dX12_sums__178 hl (by decide) rfl (fun ls hl => ?_)
                      refine lv_iconst (v := 1) hx hb dX12_sums__180 (by decide) ?_
                      refine lv_istore (lv' := [(12, .int 1), (10, .long w84), (6, .long w69), (13, .long w68), (16, .long w65), (15, .int y36), (8, .long w40), (5, .int x26), (0, .ref (ad 0)), (1, .int a1), (2, .int a2), (3, .int a3), (4, .int a4)]) hx hb dX12_sums__181 hl (by decide) rfl (fun ls hl => ?_)
                      refine lv_lload hx hb dX12_sums__183 (lv_at hl 2 rfl) ?_
                      refine lv_aload_n hx hb dX12_sums__185 rfl (lv_at hl 8 rfl) ?_
                      refine lv_iload hx hb dX12_sums__186 (lv_at hl 7 rfl) ?_
                      refine lv_iload hx hb dX12_sums__188 (lv_at hl 5 rfl) ?_
                      refine lv_iadd hx hb dX12_sums__190 ?_
                      refine lv_topi (fun x87 ex87 => ?_)
                      have tx87 : x87.toInt = x26.toInt + y36.toInt := z_tadd ex87 rfl rfl (by omega) (by omega)
                      refine lv_iconst (v := 1) hx hb dX12_sums__191 (by decide) ?_
                      refine lv_iadd hx hb dX12_sums__192 ?_
                      refine lv_topi (fun x88 ex88 => ?_)
                      have tx88 : x88.toInt = x87.toInt + 1 := z_tadd ex88 rfl z_l1 (by omega) (by omega)
                      refine z_cl hW hS hA (va_runV (As := [.int x88]) (rest := [.long w69]) ⟨hx, hb, hml, hown, hts⟩ (sx_X12_lowOf_u l G ad I J ⟨(by show 0 ≤ (I 0 0).toInt ∧ (I 0 0).toInt ≤ 719; exact hma.1), (by show 0 ≤ (I 0 1).toInt ∧ (I 0 1).toInt ≤ 30; exact hma.2.1), (by show 0 ≤ (I 0 2).toInt ∧ (I 0 2).toInt ≤ 200; exact hma.2.2)⟩ ⟨(by show 0 ≤ (I 0 13).toInt ∧ (I 0 13).toInt ≤ 12; exact hmb.1), (by show 0 ≤ (I 0 14).toInt ∧ (I 0 14).toInt ≤ 288; exact hmb.2)⟩ hAtf hAtm x88 hab (by omega) (by have c1 := z_clt (x := a1) rfl (by omega); have c2 := z_clt (x := a2) rfl (by omega); have c3 := z_clt (x := a3) rfl (by omega); have c4 := z_clt (x := x88) rfl (by omega); rw [show x88.toNatClampNeg = 30 * a1.toNatClampNeg + (y36.toNatClampNeg + 1) by omega]; exact ⟨hTo a1.toNatClampNeg (by omega) (y36.toNatClampNeg + 1) (by omega), hDm a1.toNatClampNeg (by omega) (y36.toNatClampNeg + 1) (by omega)⟩) _) (cwV 1 hts gX12_sums__X12_lowOf rfl rfl rfl (by decide +kernel) ⟨Nat.le_of_ble_eq_true rfl, Nat.le_of_ble_eq_true rfl⟩) (z_preV (i := 0) hK hW rfl rfl) rfl rfl hl.1 rfl (lv_room (Nat.le_of_ble_eq_true rfl)) dX12_sums__193 ⟨Nat.le_of_ble_eq_true rfl, Nat.le_of_ble_eq_true rfl⟩) (fun r u1 H locs hp hW hS => ?_)
                      obtain ⟨e9, hp⟩ := hp
                      rw [e9] at hW
                      refine lv_topl (fun w89 ew89 => ?_)
                      rw [← ew89] at hp
                      have hb91 := hp.2
                      have hl90 : zu_kl I a1.toNatClampNeg a2.toNatClampNeg ((y36.toInt - a2.toInt).toNat + 1) = w89.toInt := by have c1 := z_clt (x := a1) rfl (by omega); have c2 := z_clt (x := a2) rfl (by omega); have c3 := z_clt (x := a3) rfl (by omega); have c4 := z_clt (x := x88) rfl (by omega); unfold zu_kl; rw [show 30 * a1.toNatClampNeg + (a2.toNatClampNeg + ((y36.toInt - a2.toInt).toNat + 1)) = x88.toNatClampNeg by omega]; exact hp.1.symm
                      refine W.lcmp hx hb dX12_sums__196 ?_
                      refine lv_topi (fun x92 ex92 => ?_)
                      have tx92 := z_tcmp ex92
                      have h93 := z_tlcmp ex92 tw69 rfl
                      refine lv_if_ge (tgt := 204) hx hb dX12_sums__197 (by decide) (fun c94 => ?_) (fun c94 => ?_)
                      · have g95 := z_f_ge rfl z_l0 c94
                        refine lv_aload_n hx hb dX12_sums__204 rfl (lv_at hl 8 rfl) ?_
                        refine lv_iload hx hb dX12_sums__205 (lv_at hl 7 rfl) ?_
                        refine lv_iload hx hb dX12_sums__207 (lv_at hl 5 rfl) ?_
                        refine lv_iadd hx hb dX12_sums__209 ?_
                        refine lv_topi (fun x96 ex96 => ?_)
                        have tx96 : x96.toInt = x26.toInt + y36.toInt := z_tadd ex96 rfl rfl (by omega) (by omega)
                        refine lv_iconst (v := 1) hx hb dX12_sums__210 (by decide) ?_
                        refine lv_iadd hx hb dX12_sums__211 ?_
                        refine lv_topi (fun x97 ex97 => ?_)
                        have tx97 : x97.toInt = x96.toInt + 1 := z_tadd ex97 rfl z_l1 (by omega) (by omega)
                        refine z_cl hW hS hA (va_runV (As := [.int x97]) (rest := []) ⟨hx, hb, hml, hown, hts⟩ (sx_X12_lowOf_u l G ad I J ⟨(by show 0 ≤ (I 0 0).toInt ∧ (I 0 0).toInt ≤ 719; exact hma.1), (by show 0 ≤ (I 0 1).toInt ∧ (I 0 1).toInt ≤ 30; exact hma.2.1), (by show 0 ≤ (I 0 2).toInt ∧ (I 0 2).toInt ≤ 200; exact hma.2.2)⟩ ⟨(by show 0 ≤ (I 0 13).toInt ∧ (I 0 13).toInt ≤ 12; exact hmb.1), (by show 0 ≤ (I 0 14).toInt ∧ (I 0 14).toInt ≤ 288; exact hmb.2)⟩ hAtf hAtm x97 hab (by omega) (by have c1 := z_clt (x := a1) rfl (by omega); have c2 := z_clt (x := a2) rfl (by omega); have c3 := z_clt (x := a3) rfl (by omega); have c4 := z_clt (x := x97) rfl (by omega); rw [show x97.toNatClampNeg = 30 * a1.toNatClampNeg + (y36.toNatClampNeg + 1) by omega]; exact ⟨hTo a1.toNatClampNeg (by omega) (y36.toNatClampNeg + 1) (by omega), hDm a1.toNatClampNeg (by omega) (y36.toNatClampNeg + 1) (by omega)⟩) _) (cwV 1 hts gX12_sums__X12_lowOf rfl rfl rfl (by decide +kernel) ⟨Nat.le_of_ble_eq_true rfl, Nat.le_of_ble_eq_true rfl⟩) (z_preV (i := 0) hK hW rfl rfl) rfl rfl hl.1 rfl (lv_room (Nat.le_of_ble_eq_true rfl)) dX12_sums__212 ⟨Nat.le_of_ble_eq_true rfl, Nat.le_of_ble_eq_true rfl⟩) (fun r u1 H locs hp hW hS => ?_)
                        obtain ⟨e9, hp⟩ := hp
                        rw [e9] at hW
                        refine lv_topl (fun w98 ew98 => ?_)
                        rw [← ew98] at hp
                        have hb100 := hp.2
                        have hl99 : zu_kl I a1.toNatClampNeg a2.toNatClampNeg ((y36.toInt - a2.toInt).toNat + 1) = w98.toInt := by have c1 := z_clt (x := a1) rfl (by omega); have c2 := z_clt (x := a2) rfl (by omega); have c3 := z_clt (x := a3) rfl (by omega); have c4 := z_clt (x := x97) rfl (by omega); unfold zu_kl; rw [show 30 * a1.toNatClampNeg + (a2.toNatClampNeg + ((y36.toInt - a2.toInt).toNat + 1)) = x97.toNatClampNeg by omega]; exact hp.1.symm
                        refine lv_lload hx hb dX12_sums__215 (lv_at hl 3 rfl) ?_
                        refine lv_lsub hx hb dX12_sums__217 ?_
                        refine lv_topl (fun w101 ew101 => ?_)
                        have tw101 : w101.toInt = w98.toInt - (w37.toInt + w65.toInt) := z_tlsub ew101 rfl tw68 (by omega) (by omega)
                        refine lv_lload hx hb dX12_sums__218 (lv_at hl 6 rfl) ?_
                        refine W.lcmp hx hb dX12_sums__220 ?_
                        refine lv_topi (fun x102 ex102 => ?_)
                        have tx102 := z_tcmp ex102
                        have h103 := z_tlcmp ex102 tw101 rfl
                        refine lv_if_le (tgt := 240) hx hb dX12_sums__221 (by decide) (fun c104 => ?_) (fun c104 => ?_)
                        · have g105 := z_f_le rfl z_l0 c104
                          obtain ⟨x106, ex106⟩ : ∃ y : Int32, y = y36 + 1 := ⟨_, rfl⟩
                          have tx106 : x106.toInt = y36.toInt + 1 := z_tadd ex106 rfl z_l1 (by omega) (by omega)
                          refine lv_iinc (v := x106) (lv' := [(15, .int x106), (12, .int 1), (10, .long w84), (6, .long w69), (13, .long w68), (16, .long w65), (8, .long w40), (5, .int x26), (0, .ref (ad 0)), (1, .int a1), (2, .int a2), (3, .int a3), (4, .int a4)]) hx hb dX12_sums__240 hl (k := 5) rfl (by rw [ex106]; rfl) (by decide) rfl (fun ls hl => ?_)
                          refine lv_goto (tgt := 79) hx hb dX12_sums__243 (by decide) ?_
                          exact lp35ih x106 w68 (1) w84 w40 w69 _ _ _ (by omega) (by omega) (by omega) (by rw [z_l1]; omega) (by rw [z_l1]; omega) (by omega) (by have q9 := lp35S; obtain ⟨⟨s1, s2, s3⟩, ⟨s4, s5, s6⟩, ⟨s7, s8, s9⟩, ⟨t1, t2, t3⟩, t4, t5, t6⟩ := q9; have q1 := z_l1; have q0 := z_l0; exact ⟨⟨by rw [show (x106.toInt - a2.toInt).toNat = (y36.toInt - a2.toInt).toNat + 1 by omega, zu_s_s, hJ66]; omega, by omega, by omega⟩, ⟨by rw [show (x106.toInt - a2.toInt).toNat = (y36.toInt - a2.toInt).toNat + 1 by omega, zu_H, hJ66]; omega, by omega, by omega⟩, ⟨by rw [show (x106.toInt - a2.toInt).toNat = (y36.toInt - a2.toInt).toNat + 1 by omega, zu_L, zu_s_s, hJ66]; omega, by omega, by omega⟩, ⟨by rw [show (x106.toInt - a2.toInt).toNat = (y36.toInt - a2.toInt).toNat + 1 by omega, zu_Z_s, hJ66]; split <;> omega, by omega, by omega⟩, by omega, by omega, by omega⟩) (fun q h1 h2 => by have q9 := lp35S; obtain ⟨_, ⟨s4, _⟩, _⟩ := q9; by_cases e : q = (y36.toInt - a2.toInt).toNat + 1; (· rw [e, zu_H, hJ66]; omega); (· exact lp35K q h1 (by omega))) hW hS (lv_sub hl [0, 4, 1, 2, 6, 3, 7, 8, 9, 10, 11, 12] rfl)
                        · have g107 := z_f_nle rfl z_l0 c104
                          refine lv_aload_n hx hb dX12_sums__224 rfl (lv_at hl 8 rfl) ?_
                          refine lv_iload hx hb dX12_sums__225 (lv_at hl 7 rfl) ?_
                          refine lv_iload hx hb dX12_sums__227 (lv_at hl 5 rfl) ?_
                          refine lv_iadd hx hb dX12_sums__229 ?_
                          refine lv_topi (fun x108 ex108 => ?_)
                          have tx108 : x108.toInt = x26.toInt + y36.toInt := z_tadd ex108 rfl rfl (by omega) (by omega)
                          refine lv_iconst (v := 1) hx hb dX12_sums__230 (by decide) ?_
                          refine lv_iadd hx hb dX12_sums__231 ?_
                          refine lv_topi (fun x109 ex109 => ?_)
                          have tx109 : x109.toInt = x108.toInt + 1 := z_tadd ex109 rfl z_l1 (by omega) (by omega)
                          refine z_cl hW hS hA (va_runV (As := [.int x109]) (rest := []) ⟨hx, hb, hml, hown, hts⟩ (sx_X12_lowOf_u l G ad I J ⟨(by show 0 ≤ (I 0 0).toInt ∧ (I 0 0).toInt ≤ 719; exact hma.1), (by show 0 ≤ (I 0 1).toInt ∧ (I 0 1).toInt ≤ 30; exact hma.2.1), (by show 0 ≤ (I 0 2).toInt ∧ (I 0 2).toInt ≤ 200; exact hma.2.2)⟩ ⟨(by show 0 ≤ (I 0 13).toInt ∧ (I 0 13).toInt ≤ 12; exact hmb.1), (by show 0 ≤ (I 0 14).toInt ∧ (I 0 14).toInt ≤ 288; exact hmb.2)⟩ hAtf hAtm x109 hab (by omega) (by have c1 := z_clt (x := a1) rfl (by omega); have c2 := z_clt (x := a2) rfl (by omega); have c3 := z_clt (x := a3) rfl (by omega); have c4 := z_clt (x := x109) rfl (by omega); rw [show x109.toNatClampNeg = 30 * a1.toNatClampNeg + (y36.toNatClampNeg + 1) by omega]; exact ⟨hTo a1.toNatClampNeg (by omega) (y36.toNatClampNeg + 1) (by omega), hDm a1.toNatClampNeg (by omega) (y36.toNatClampNeg + 1) (by omega)⟩) _) (cwV 1 hts gX12_sums__X12_lowOf rfl rfl rfl (by decide +kernel) ⟨Nat.le_of_ble_eq_true rfl, Nat.le_of_ble_eq_true rfl⟩) (z_preV (i := 0) hK hW rfl rfl) rfl rfl hl.1 rfl (lv_room (Nat.le_of_ble_eq_true rfl)) dX12_sums__232 ⟨Nat.le_of_ble_eq_true rfl, Nat.le_of_ble_eq_true rfl⟩) (fun r u1 H locs hp hW hS => ?_)
                          obtain ⟨e9, hp⟩ := hp
                          rw [e9] at hW
                          refine lv_topl (fun w110 ew110 => ?_)
                          rw [← ew110] at hp
                          have hb112 := hp.2
                          have hl111 : zu_kl I a1.toNatClampNeg a2.toNatClampNeg ((y36.toInt - a2.toInt).toNat + 1) = w110.toInt := by have c1 := z_clt (x := a1) rfl (by omega); have c2 := z_clt (x := a2) rfl (by omega); have c3 := z_clt (x := a3) rfl (by omega); have c4 := z_clt (x := x109) rfl (by omega); unfold zu_kl; rw [show 30 * a1.toNatClampNeg + (a2.toNatClampNeg + ((y36.toInt - a2.toInt).toNat + 1)) = x109.toNatClampNeg by omega]; exact hp.1.symm
                          refine lv_lload hx hb dX12_sums__235 (lv_at hl 3 rfl) ?_
                          refine lv_lsub hx hb dX12_sums__237 ?_
                          refine lv_topl (fun w113 ew113 => ?_)
                          have tw113 : w113.toInt = w110.toInt - (w37.toInt + w65.toInt) := z_tlsub ew113 rfl tw68 (by omega) (by omega)
                          refine lv_lstore (lv' := [(8, .long w113), (12, .int 1), (10, .long w84), (6, .long w69), (13, .long w68), (16, .long w65), (15, .int y36), (5, .int x26), (0, .ref (ad 0)), (1, .int a1), (2, .int a2), (3, .int a3), (4, .int a4)]) hx hb dX12_sums__238 hl (by decide) rfl (fun ls hl => ?_)
                          obtain ⟨x114, ex114⟩ : ∃ y : Int32, y = y36 + 1 := ⟨_, rfl⟩
                          have tx114 : x114.toInt = y36.toInt + 1 := z_tadd ex114 rfl z_l1 (by omega) (by omega)
                          refine lv_iinc (v := x114) (lv' := [(15, .int x114), (8, .long w113), (12, .int 1), (10, .long w84), (6, .long w69), (13, .long w68), (16, .long w65), (5, .int x26), (0, .ref (ad 0)), (1, .int a1), (2, .int a2), (3, .int a3), (4, .int a4)]) hx hb dX12_sums__240 hl (k := 6) rfl (by rw [ex114]; rfl) (by decide) rfl (fun ls hl => ?_)
                          refine lv_goto (tgt := 79) hx hb dX12_sums__243 (by decide) ?_
                          exact lp35ih x114 w68 (1) w84 w113 w69 _ _ _ (by omega) (by omega) (by omega) (by rw [z_l1]; omega) (by rw [z_l1]; omega) (by omega) (by have q9 := lp35S; obtain ⟨⟨s1, s2, s3⟩, ⟨s4, s5, s6⟩, ⟨s7, s8, s9⟩, ⟨t1, t2, t3⟩, t4, t5, t6⟩ := q9; have q1 := z_l1; have q0 := z_l0; exact ⟨⟨by rw [show (x114.toInt - a2.toInt).toNat = (y36.toInt - a2.toInt).toNat + 1 by omega, zu_s_s, hJ66]; omega, by omega, by omega⟩, ⟨by rw [show (x114.toInt - a2.toInt).toNat = (y36.toInt - a2.toInt).toNat + 1 by omega, zu_H, hJ66]; omega, by omega, by omega⟩, ⟨by rw [show (x114.toInt - a2.toInt).toNat = (y36.toInt - a2.toInt).toNat + 1 by omega, zu_L, zu_s_s, hJ66]; omega, by omega, by omega⟩, ⟨by rw [show (x114.toInt - a2.toInt).toNat = (y36.toInt - a2.toInt).toNat + 1 by omega, zu_Z_s, hJ66]; split <;> omega, by omega, by omega⟩, by omega, by omega, by omega⟩) (fun q h1 h2 => by have q9 := lp35S; obtain ⟨_, ⟨s4, _⟩, _⟩ := q9; by_cases e : q = (y36.toInt - a2.toInt).toNat + 1; (· rw [e, zu_H, hJ66]; omega); (· exact lp35K q h1 (by omega))) hW hS (lv_sub hl [0, 5, 2, 3, 1, 4, 7, 8, 9, 10, 11, 12] rfl)
                      · have g115 := z_f_nge rfl z_l0 c94
                        refine lv_ldc2 (v := (-3)) hx hb hown (hts (.constantLong RX12 490 (-3)) (me_s (me_l (me_l (List.mem_of_getElem? (i := 2) rfl))))) dX12_sums__200 ?_
                        exact z_lret hx hb hr hK hS (Nat.le_of_ble_eq_true rfl) (Nat.le_of_ble_eq_true rfl) hlocks dX12_sums__203 (shM, ad, I, J, PM ad) hW ⟨rfl, (Or.inl ⟨by omega, Or.inl ⟨fun ok => absurd (ok ((y36.toInt - a2.toInt).toNat + 1) (by omega) (by have c1 := z_clt (x := a1) rfl (by omega); have c2 := z_clt (x := a2) rfl (by omega); have c3 := z_clt (x := a3) rfl (by omega); have q9 := lp35S; omega)) (by have q9 := lp35S; obtain ⟨_, ⟨s4, _⟩, _⟩ := q9; rw [zu_H, hJ66]; omega), by decide⟩⟩)⟩
                    · have g116 := z_f_ne rfl z_l0 c80
                      refine lv_aload_n hx hb dX12_sums__150 rfl (lv_at hl 8 rfl) ?_
                      refine lv_iload hx hb dX12_sums__151 (lv_at hl 7 rfl) ?_
                      refine lv_iload hx hb dX12_sums__153 (lv_at hl 4 rfl) ?_
                      refine lv_iadd hx hb dX12_sums__155 ?_
                      refine lv_topi (fun x117 ex117 => ?_)
                      have tx117 : x117.toInt = x26.toInt + y36.toInt := z_tadd ex117 rfl rfl (by omega) (by omega)
                      refine lv_iconst (v := 1) hx hb dX12_sums__156 (by decide) ?_
                      refine lv_iadd hx hb dX12_sums__157 ?_
                      refine lv_topi (fun x118 ex118 => ?_)
                      have tx118 : x118.toInt = x117.toInt + 1 := z_tadd ex118 rfl z_l1 (by omega) (by omega)
                      refine z_cl hW hS hA (va_runV (As := [.int x118]) (rest := []) ⟨hx, hb, hml, hown, hts⟩ (sx_X12_highOf_u l G ad I J ⟨(by show 0 ≤ (I 0 0).toInt ∧ (I 0 0).toInt ≤ 719; exact hma.1), (by show 0 ≤ (I 0 1).toInt ∧ (I 0 1).toInt ≤ 30; exact hma.2.1), (by show 0 ≤ (I 0 2).toInt ∧ (I 0 2).toInt ≤ 200; exact hma.2.2)⟩ ⟨(by show 0 ≤ (I 0 13).toInt ∧ (I 0 13).toInt ≤ 12; exact hmb.1), (by show 0 ≤ (I 0 14).toInt ∧ (I 0 14).toInt ≤ 288; exact hmb.2)⟩ hAtf hAtm x118 hab (by omega) (by have c1 := z_clt (x := a1) rfl (by omega); have c2 := z_clt (x := a2) rfl (by omega); have c3 := z_clt (x := a3) rfl (by omega); have c4 := z_clt (x := x118) rfl (by omega); rw [show x118.toNatClampNeg = 30 * a1.toNatClampNeg + (y36.toNatClampNeg + 1) by omega]; exact ⟨hTo a1.toNatClampNeg (by omega) (y36.toNatClampNeg + 1) (by omega), hDm a1.toNatClampNeg (by omega) (y36.toNatClampNeg + 1) (by omega)⟩) _) (cwV 1 hts gX12_sums__X12_highOf rfl rfl rfl (by decide +kernel) ⟨Nat.le_of_ble_eq_true rfl, Nat.le_of_ble_eq_true rfl⟩) (z_preV (i := 0) hK hW rfl rfl) rfl rfl hl.1 rfl (lv_room (Nat.le_of_ble_eq_true rfl)) dX12_sums__158 ⟨Nat.le_of_ble_eq_true rfl, Nat.le_of_ble_eq_true rfl⟩) (fun r u1 H locs hp hW hS => ?_)
                      obtain ⟨e9, hp⟩ := hp
                      rw [e9] at hW
                      refine lv_topl (fun w119 ew119 => ?_)
                      rw [← ew119] at hp
                      have hb121 := hp.2
                      have hl120 : zu_kh I a1.toNatClampNeg a2.toNatClampNeg ((y36.toInt - a2.toInt).toNat + 1) = w119.toInt := by have c1 := z_clt (x := a1) rfl (by omega); have c2 := z_clt (x := a2) rfl (by omega); have c3 := z_clt (x := a3) rfl (by omega); have c4 := z_clt (x := x118) rfl (by omega); unfold zu_kh; rw [show 30 * a1.toNatClampNeg + (a2.toNatClampNeg + ((y36.toInt - a2.toInt).toNat + 1)) = x118.toNatClampNeg by omega]; exact hp.1.symm
                      refine lv_lload hx hb dX12_sums__161 (lv_at hl 0 rfl) ?_
                      refine W.lcmp hx hb dX12_sums__163 ?_
                      refine lv_topi (fun x122 ex122 => ?_)
                      have tx122 := z_tcmp ex122
                      have h123 := z_tlcmp ex122 rfl tw70
                      refine lv_if_ge (tgt := 180) hx hb dX12_sums__164 (by decide) (fun c124 => ?_) (fun c124 => ?_)
                      · have g125 := z_f_ge rfl z_l0 c124
                        refine lv_iconst (v := 1) hx hb dX12_sums__180 (by decide) ?_
                        refine lv_istore (lv' := [(12, .int 1), (10, .long w70), (6, .long w69), (13, .long w68), (16, .long w65), (15, .int y36), (8, .long w40), (5, .int x26), (0, .ref (ad 0)), (1, .int a1), (2, .int a2), (3, .int a3), (4, .int a4)]) hx hb dX12_sums__181 hl (by decide) rfl (fun ls hl => ?_)
                        refine lv_lload hx hb dX12_sums__183 (lv_at hl 2 rfl) ?_
                        refine lv_aload_n hx hb dX12_sums__185 rfl (lv_at hl 8 rfl) ?_
                        refine lv_iload hx hb dX12_sums__186 (lv_at hl 7 rfl) ?_
                        refine lv_iload hx hb dX12_sums__188 (lv_at hl 5 rfl) ?_
                        refine lv_iadd hx hb dX12_sums__190 ?_
                        refine lv_topi (fun x126 ex126 => ?_)
                        have tx126 : x126.toInt = x26.toInt + y36.toInt := z_tadd ex126 rfl rfl (by omega) (by omega)
                        refine lv_iconst (v := 1) hx hb dX12_sums__191 (by decide) ?_
                        refine lv_iadd hx hb dX12_sums__192 ?_
                        refine lv_topi (fun x127 ex127 => ?_)
                        have tx127 : x127.toInt = x126.toInt + 1 := z_tadd ex127 rfl z_l1 (by omega) (by omega)
                        refine z_cl hW hS hA (va_runV (As := [.int x127]) (rest := [.long w69]) ⟨hx, hb, hml, hown, hts⟩ (sx_X12_lowOf_u l G ad I J ⟨(by show 0 ≤ (I 0 0).toInt ∧ (I 0 0).toInt ≤ 719; exact hma.1), (by show 0 ≤ (I 0 1).toInt ∧ (I 0 1).toInt ≤ 30; exact hma.2.1), (by show 0 ≤ (I 0 2).toInt ∧ (I 0 2).toInt ≤ 200; exact hma.2.2)⟩ ⟨(by show 0 ≤ (I 0 13).toInt ∧ (I 0 13).toInt ≤ 12; exact hmb.1), (by show 0 ≤ (I 0 14).toInt ∧ (I 0 14).toInt ≤ 288; exact hmb.2)⟩ hAtf hAtm x127 hab (by omega) (by have c1 := z_clt (x := a1) rfl (by omega); have c2 := z_clt (x := a2) rfl (by omega); have c3 := z_clt (x := a3) rfl (by omega); have c4 := z_clt (x := x127) rfl (by omega); rw [show x127.toNatClampNeg = 30 * a1.toNatClampNeg + (y36.toNatClampNeg + 1) by omega]; exact ⟨hTo a1.toNatClampNeg (by omega) (y36.toNatClampNeg + 1) (by omega), hDm a1.toNatClampNeg (by omega) (y36.toNatClampNeg + 1) (by omega)⟩) _) (cwV 1 hts gX12_sums__X12_lowOf rfl rfl rfl (by decide +kernel) ⟨Nat.le_of_ble_eq_true rfl, Nat.le_of_ble_eq_true rfl⟩) (z_preV (i := 0) hK hW rfl rfl) rfl rfl hl.1 rfl (lv_room (Nat.le_of_ble_eq_true rfl)) dX12_sums__193 ⟨Nat.le_of_ble_eq_true rfl, Nat.le_of_ble_eq_true rfl⟩) (fun r u1 H locs hp hW hS => ?_)
                        obtain ⟨e9, hp⟩ := hp
                        rw [e9] at hW
                        refine lv_topl (fun w128 ew128 => ?_)
                        rw [← ew128] at hp
                        have hb130 := hp.2
                        have hl129 : zu_kl I a1.toNatClampNeg a2.toNatClampNeg ((y36.toInt - a2.toInt).toNat + 1) = w128.toInt := by have c1 := z_clt (x := a1) rfl (by omega); have c2 := z_clt (x := a2) rfl (by omega); have c3 := z_clt (x := a3) rfl (by omega); have c4 := z_clt (x := x127) rfl (by omega); unfold zu_kl; rw [show 30 * a1.toNatClampNeg + (a2.toNatClampNeg + ((y36.toInt - a2.toInt).toNat + 1)) = x127.toNatClampNeg by omega]; exact hp.1.symm
                        refine W.lcmp hx hb dX12_sums__196 ?_
                        refine lv_topi (fun x131 ex131 => ?_)
                        have tx131 := z_tcmp ex131
                        have h132 := z_tlcmp ex131 tw69 rfl
                        refine lv_if_ge (tgt := 204) hx hb dX12_sums__197 (by decide) (fun c133 => ?_) (fun c133 => ?_)
                        · have g134 := z_f_ge rfl z_l0 c133
                          refine lv_aload_n hx hb dX12_sums__204 rfl (lv_at hl 8 rfl) ?_
                          refine lv_iload hx hb dX12_sums__205 (lv_at hl 7 rfl) ?_
                          refine lv_iload hx hb dX12_sums__207 (lv_at hl 5 rfl) ?_
                          refine lv_iadd hx hb dX12_sums__209 ?_
                          refine lv_topi (fun x135 ex135 => ?_)
                          have tx135 : x135.toInt = x26.toInt + y36.toInt := z_tadd ex135 rfl rfl (by omega) (by omega)
                          refine lv_iconst (v := 1) hx hb dX12_sums__210 (by decide) ?_
                          refine lv_iadd hx hb dX12_sums__211 ?_
                          refine lv_topi (fun x136 ex136 => ?_)
                          have tx136 : x136.toInt = x135.toInt + 1 := z_tadd ex136 rfl z_l1 (by omega) (by omega)
                          refine z_cl hW hS hA (va_runV (As := [.int x136]) (rest := []) ⟨hx, hb, hml, hown, hts⟩ (sx_X12_lowOf_u l G ad I J ⟨(by show 0 ≤ (I 0 0).toInt ∧ (I 0 0).toInt ≤ 719; exact hma.1), (by show 0 ≤ (I 0 1).toInt ∧ (I 0 1).toInt ≤ 30; exact hma.2.1), (by show 0 ≤ (I 0 2).toInt ∧ (I 0 2).toInt ≤ 200; exact hma.2.2)⟩ ⟨(by show 0 ≤ (I 0 13).toInt ∧ (I 0 13).toInt ≤ 12; exact hmb.1), (by show 0 ≤ (I 0 14).toInt ∧ (I 0 14).toInt ≤ 288; exact hmb.2)⟩ hAtf hAtm x136 hab (by omega) (by have c1 := z_clt (x := a1) rfl (by omega); have c2 := z_clt (x := a2) rfl (by omega); have c3 := z_clt (x := a3) rfl (by omega); have c4 := z_clt (x := x136) rfl (by omega); rw [show x136.toNatClampNeg = 30 * a1.toNatClampNeg + (y36.toNatClampNeg + 1) by omega]; exact ⟨hTo a1.toNatClampNeg (by omega) (y36.toNatClampNeg + 1) (by omega), hDm a1.toNatClampNeg (by omega) (y36.toNatClampNeg + 1) (by omega)⟩) _) (cwV 1 hts gX12_sums__X12_lowOf rfl rfl rfl (by decide +kernel) ⟨Nat.le_of_ble_eq_true rfl, Nat.le_of_ble_eq_true rfl⟩) (z_preV (i := 0) hK hW rfl rfl) rfl rfl hl.1 rfl (lv_room (Nat.le_of_ble_eq_true rfl)) dX12_sums__212 ⟨Nat.le_of_ble_eq_true rfl, Nat.le_of_ble_eq_true rfl⟩) (fun r u1 H locs hp hW hS => ?_)
                          obtain ⟨e9, hp⟩ := hp
                          rw [e9] at hW
                          refine lv_topl (fun w137 ew137 => ?_)
                          rw [← ew137] at hp
                          have hb139 := hp.2
                          have hl138 : zu_kl I a1.toNatClampNeg a2.toNatClampNeg ((y36.toInt - a2.toInt).toNat + 1) = w137.toInt := by have c1 := z_clt (x := a1) rfl (by omega); have c2 := z_clt (x := a2) rfl (by omega); have c3 := z_clt (x := a3) rfl (by omega); have c4 := z_clt (x := x136) rfl (by omega); unfold zu_kl; rw [show 30 * a1.toNatClampNeg + (a2.toNatClampNeg + ((y36.toInt - a2.toInt).toNat + 1)) = x136.toNatClampNeg by omega]; exact hp.1.symm
                          refine lv_lload hx hb dX12_sums__215 (lv_at hl 3 rfl) ?_
                          refine lv_lsub hx hb dX12_sums__217 ?_
                          refine lv_topl (fun w140 ew140 => ?_)
                          have tw140 : w140.toInt = w137.toInt - (w37.toInt + w65.toInt) := z_tlsub ew140 rfl tw68 (by omega) (by omega)
                          refine lv_lload hx hb dX12_sums__218 (lv_at hl 6 rfl) ?_
                          refine W.lcmp hx hb dX12_sums__220 ?_
                          refine lv_topi (fun x141 ex141 => ?_)
                          have tx141 := z_tcmp ex141
                          have h142 := z_tlcmp ex141 tw140 rfl
                          refine lv_if_le (tgt := 240) hx hb dX12_sums__221 (by decide) (fun c143 => ?_) (fun c143 => ?_)
                          · have g144 := z_f_le rfl z_l0 c143
                            obtain ⟨x145, ex145⟩ : ∃ y : Int32, y = y36 + 1 := ⟨_, rfl⟩
                            have tx145 : x145.toInt = y36.toInt + 1 := z_tadd ex145 rfl z_l1 (by omega) (by omega)
                            refine lv_iinc (v := x145) (lv' := [(15, .int x145), (12, .int 1), (10, .long w70), (6, .long w69), (13, .long w68), (16, .long w65), (8, .long w40), (5, .int x26), (0, .ref (ad 0)), (1, .int a1), (2, .int a2), (3, .int a3), (4, .int a4)]) hx hb dX12_sums__240 hl (k := 5) rfl (by rw [ex145]; rfl) (by decide) rfl (fun ls hl => ?_)
                            refine lv_goto (tgt := 79) hx hb dX12_sums__243 (by decide) ?_
                            exact lp35ih x145 w68 (1) w70 w40 w69 _ _ _ (by omega) (by omega) (by omega) (by rw [z_l1]; omega) (by rw [z_l1]; omega) (by omega) (by have q9 := lp35S; obtain ⟨⟨s1, s2, s3⟩, ⟨s4, s5, s6⟩, ⟨s7, s8, s9⟩, ⟨t1, t2, t3⟩, t4, t5, t6⟩ := q9; have q1 := z_l1; have q0 := z_l0; exact ⟨⟨by rw [show (x145.toInt - a2.toInt).toNat = (y36.toInt - a2.toInt).toNat + 1 by omega, zu_s_s, hJ66]; omega, by omega, by omega⟩, ⟨by rw [show (x145.toInt - a2.toInt).toNat = (y36.toInt - a2.toInt).toNat + 1 by omega, zu_H, hJ66]; omega, by omega, by omega⟩, ⟨by rw [show (x145.toInt - a2.toInt).toNat = (y36.toInt - a2.toInt).toNat + 1 by omega, zu_L, zu_s_s, hJ66]; omega, by omega, by omega⟩, ⟨by rw [show (x145.toInt - a2.toInt).toNat = (y36.toInt - a2.toInt).toNat + 1 by omega, zu_Z_s, hJ66]; split <;> omega, by omega, by omega⟩, by omega, by omega, by omega⟩) (fun q h1 h2 => by have q9 := lp35S; obtain ⟨_, ⟨s4, _⟩, _⟩ := q9; by_cases e : q = (y36.toInt - a2.toInt).toNat + 1; (· rw [e, zu_H, hJ66]; omega); (· exact lp35K q h1 (by omega))) hW hS (lv_sub hl [0, 4, 1, 2, 6, 3, 7, 8, 9, 10, 11, 12] rfl)
                          · have g146 := z_f_nle rfl z_l0 c143
                            refine lv_aload_n hx hb dX12_sums__224 rfl (lv_at hl 8 rfl) ?_
                            refine lv_iload hx hb dX12_sums__225 (lv_at hl 7 rfl) ?_
                            refine lv_iload hx hb dX12_sums__227 (lv_at hl 5 rfl) ?_
                            refine lv_iadd hx hb dX12_sums__229 ?_
                            refine lv_topi (fun x147 ex147 => ?_)
                            have tx147 : x147.toInt = x26.toInt + y36.toInt := z_tadd ex147 rfl rfl (by omega) (by omega)
                            refine lv_iconst (v := 1) hx hb dX12_sums__230 (by decide) ?_
                            refine lv_iadd hx hb dX12_sums__231 ?_
                            refine lv_topi (fun x148 ex148 => ?_)
                            have tx148 : x148.toInt = x147.toInt + 1 := z_tadd ex148 rfl z_l1 (by omega) (by omega)
                            refine z_cl hW hS hA (va_runV (As := [.int x148]) (rest := []) ⟨hx, hb, hml, hown, hts⟩ (sx_X12_lowOf_u l G ad I J ⟨(by show 0 ≤ (I 0 0).toInt ∧ (I 0 0).toInt ≤ 719; exact hma.1), (by show 0 ≤ (I 0 1).toInt ∧ (I 0 1).toInt ≤ 30; exact hma.2.1), (by show 0 ≤ (I 0 2).toInt ∧ (I 0 2).toInt ≤ 200; exact hma.2.2)⟩ ⟨(by show 0 ≤ (I 0 13).toInt ∧ (I 0 13).toInt ≤ 12; exact hmb.1), (by show 0 ≤ (I 0 14).toInt ∧ (I 0 14).toInt ≤ 288; exact hmb.2)⟩ hAtf hAtm x148 hab (by omega) (by have c1 := z_clt (x := a1) rfl (by omega); have c2 := z_clt (x := a2) rfl (by omega); have c3 := z_clt (x := a3) rfl (by omega); have c4 := z_clt (x := x148) rfl (by omega); rw [show x148.toNatClampNeg = 30 * a1.toNatClampNeg + (y36.toNatClampNeg + 1) by omega]; exact ⟨hTo a1.toNatClampNeg (by omega) (y36.toNatClampNeg + 1) (by omega), hDm a1.toNatClampNeg (by omega) (y36.toNatClampNeg + 1) (by omega)⟩) _) (cwV 1 hts gX12_sums__X12_lowOf rfl rfl rfl (by decide +kernel) ⟨Nat.le_of_ble_eq_true rfl, Nat.le_of_ble_eq_true rfl⟩) (z_preV (i := 0) hK hW rfl rfl) rfl rfl hl.1 rfl (lv_room (Nat.le_of_ble_eq_true rfl)) dX12_sums__232 ⟨Nat.le_of_ble_eq_true rfl, Nat.le_of_ble_eq_true rfl⟩) (fun r u1 H locs hp hW hS => ?_)
                            obtain ⟨e9, hp⟩ := hp
                            rw [e9] at hW
                            refine lv_topl (fun w149 ew149 => ?_)
                            rw [← ew149] at hp
                            have hb151 := hp.2
                            have hl150 : zu_kl I a1.toNatClampNeg a2.toNatClampNeg ((y36.toInt - a2.toInt).toNat + 1) = w149.toInt := by have c1 := z_clt (x := a1) rfl (by omega); have c2 := z_clt (x := a2) rfl (by omega); have c3 := z_clt (x := a3) rfl (by omega); have c4 := z_clt (x := x148) rfl (by omega); unfold zu_kl; rw [show 30 * a1.toNatClampNeg + (a2.toNatClampNeg + ((y36.toInt - a2.toInt).toNat + 1)) = x148.toNatClampNeg by omega]; exact hp.1.symm
                            refine lv_lload hx hb dX12_sums__235 (lv_at hl 3 rfl) ?_
                            refine lv_lsub hx hb dX12_sums__237 ?_
                            refine lv_topl (fun w152 ew152 => ?_)
                            have tw152 : w152.toInt = w149.toInt - (w37.toInt + w65.toInt) := z_tlsub ew152 rfl tw68 (by omega) (by omega)
                            refine lv_lstore (lv' := [(8, .long w152), (12, .int 1), (10, .long w70), (6, .long w69), (13, .long w68), (16, .long w65), (15, .int y36), (5, .int x26), (0, .ref (ad 0)), (1, .int a1), (2, .int a2), (3, .int a3), (4, .int a4)]) hx hb dX12_sums__238 hl (by decide) rfl (fun ls hl => ?_)
                            obtain ⟨x153, ex153⟩ : ∃ y : Int32, y = y36 + 1 := ⟨_, rfl⟩
                            have tx153 : x153.toInt = y36.toInt + 1 := z_tadd ex153 rfl z_l1 (by omega) (by omega)
                            refine lv_iinc (v := x153) (lv' := [(15, .int x153), (8, .long w152), (12, .int 1), (10, .long w70), (6, .long w69), (13, .long w68), (16, .long w65), (5, .int x26), (0, .ref (ad 0)), (1, .int a1), (2, .int a2), (3, .int a3), (4, .int a4)]) hx hb dX12_sums__240 hl (k := 6) rfl (by rw [ex153]; rfl) (by decide) rfl (fun ls hl => ?_)
                            refine lv_goto (tgt := 79) hx hb dX12_sums__243 (by decide) ?_
                            exact lp35ih x153 w68 (1) w70 w152 w69 _ _ _ (by omega) (by omega) (by omega) (by rw [z_l1]; omega) (by rw [z_l1]; omega) (by omega) (by have q9 := lp35S; obtain ⟨⟨s1, s2, s3⟩, ⟨s4, s5, s6⟩, ⟨s7, s8, s9⟩, ⟨t1, t2, t3⟩, t4, t5, t6⟩ := q9; have q1 := z_l1; have q0 := z_l0; exact ⟨⟨by rw [show (x153.toInt - a2.toInt).toNat = (y36.toInt - a2.toInt).toNat + 1 by omega, zu_s_s, hJ66]; omega, by omega, by omega⟩, ⟨by rw [show (x153.toInt - a2.toInt).toNat = (y36.toInt - a2.toInt).toNat + 1 by omega, zu_H, hJ66]; omega, by omega, by omega⟩, ⟨by rw [show (x153.toInt - a2.toInt).toNat = (y36.toInt - a2.toInt).toNat + 1 by omega, zu_L, zu_s_s, hJ66]; omega, by omega, by omega⟩, ⟨by rw [show (x153.toInt - a2.toInt).toNat = (y36.toInt - a2.toInt).toNat + 1 by omega, zu_Z_s, hJ66]; split <;> omega, by omega, by omega⟩, by omega, by omega, by omega⟩) (fun q h1 h2 => by have q9 := lp35S; obtain ⟨_, ⟨s4, _⟩, _⟩ := q9; by_cases e : q = (y36.toInt - a2.toInt).toNat + 1; (· rw [e, zu_H, hJ66]; omega); (· exact lp35K q h1 (by omega))) hW hS (lv_sub hl [0, 5, 2, 3, 1, 4, 7, 8, 9, 10, 11, 12] rfl)
                        · have g154 := z_f_nge rfl z_l0 c133
                          refine lv_ldc2 (v := (-3)) hx hb hown (hts (.constantLong RX12 490 (-3)) (me_s (me_l (me_l (List.mem_of_getElem? (i := 2) rfl))))) dX12_sums__200 ?_
                          exact z_lret hx hb hr hK hS (Nat.le_of_ble_eq_true rfl) (Nat.le_of_ble_eq_true rfl) hlocks dX12_sums__203 (shM, ad, I, J, PM ad) hW ⟨rfl, (Or.inl ⟨by omega, Or.inl ⟨fun ok => absurd (ok ((y36.toInt - a2.toInt).toNat + 1) (by omega) (by have c1 := z_clt (x := a1) rfl (by omega); have c2 := z_clt (x := a2) rfl (by omega); have c3 := z_clt (x := a3) rfl (by omega); have q9 := lp35S; omega)) (by have q9 := lp35S; obtain ⟨_, ⟨s4, _⟩, _⟩ := q9; rw [zu_H, hJ66]; omega), by decide⟩⟩)⟩
                      · have g155 := z_f_nge rfl z_l0 c124
                        refine lv_aload_n hx hb dX12_sums__167 rfl (lv_at hl 8 rfl) ?_
                        refine lv_iload hx hb dX12_sums__168 (lv_at hl 7 rfl) ?_
                        refine lv_iload hx hb dX12_sums__170 (lv_at hl 4 rfl) ?_
                        refine lv_iadd hx hb dX12_sums__172 ?_
                        refine lv_topi (fun x156 ex156 => ?_)
                        have tx156 : x156.toInt = x26.toInt + y36.toInt := z_tadd ex156 rfl rfl (by omega) (by omega)
                        refine lv_iconst (v := 1) hx hb dX12_sums__173 (by decide) ?_
                        refine lv_iadd hx hb dX12_sums__174 ?_
                        refine lv_topi (fun x157 ex157 => ?_)
                        have tx157 : x157.toInt = x156.toInt + 1 := z_tadd ex157 rfl z_l1 (by omega) (by omega)
                        refine z_cl hW hS hA (va_runV (As := [.int x157]) (rest := []) ⟨hx, hb, hml, hown, hts⟩ (sx_X12_highOf_u l G ad I J ⟨(by show 0 ≤ (I 0 0).toInt ∧ (I 0 0).toInt ≤ 719; exact hma.1), (by show 0 ≤ (I 0 1).toInt ∧ (I 0 1).toInt ≤ 30; exact hma.2.1), (by show 0 ≤ (I 0 2).toInt ∧ (I 0 2).toInt ≤ 200; exact hma.2.2)⟩ ⟨(by show 0 ≤ (I 0 13).toInt ∧ (I 0 13).toInt ≤ 12; exact hmb.1), (by show 0 ≤ (I 0 14).toInt ∧ (I 0 14).toInt ≤ 288; exact hmb.2)⟩ hAtf hAtm x157 hab (by omega) (by have c1 := z_clt (x := a1) rfl (by omega); have c2 := z_clt (x := a2) rfl (by omega); have c3 := z_clt (x := a3) rfl (by omega); have c4 := z_clt (x := x157) rfl (by omega); rw [show x157.toNatClampNeg = 30 * a1.toNatClampNeg + (y36.toNatClampNeg + 1) by omega]; exact ⟨hTo a1.toNatClampNeg (by omega) (y36.toNatClampNeg + 1) (by omega), hDm a1.toNatClampNeg (by omega) (y36.toNatClampNeg + 1) (by omega)⟩) _) (cwV 1 hts gX12_sums__X12_highOf rfl rfl rfl (by decide +kernel) ⟨Nat.le_of_ble_eq_true rfl, Nat.le_of_ble_eq_true rfl⟩) (z_preV (i := 0) hK hW rfl rfl) rfl rfl hl.1 rfl (lv_room (Nat.le_of_ble_eq_true rfl)) dX12_sums__175 ⟨Nat.le_of_ble_eq_true rfl, Nat.le_of_ble_eq_true rfl⟩) (fun r u1 H locs hp hW hS => ?_)
                        obtain ⟨e9, hp⟩ := hp
                        rw [e9] at hW
                        refine lv_topl (fun w158 ew158 => ?_)
                        rw [← ew158] at hp
                        have hb160 := hp.2
                        have hl159 : zu_kh I a1.toNatClampNeg a2.toNatClampNeg ((y36.toInt - a2.toInt).toNat + 1) = w158.toInt := by have c1 := z_clt (x := a1) rfl (by omega); have c2 := z_clt (x := a2) rfl (by omega); have c3 := z_clt (x := a3) rfl (by omega); have c4 := z_clt (x := x157) rfl (by omega); unfold zu_kh; rw [show 30 * a1.toNatClampNeg + (a2.toNatClampNeg + ((y36.toInt - a2.toInt).toNat + 1)) = x157.toNatClampNeg by omega]; exact hp.1.symm
                        refine lv_lstore (lv' := [(10, .long w158), (6, .long w69), (13, .long w68), (16, .long w65), (15, .int y36), (12, .int y38), (8, .long w40), (5, .int x26), (0, .ref (ad 0)), (1, .int a1), (2, .int a2), (3, .int a3), (4, .int a4)]) hx hb dX12_sums__178 hl (by decide) rfl (fun ls hl => ?_)
                        refine lv_iconst (v := 1) hx hb dX12_sums__180 (by decide) ?_
                        refine lv_istore (lv' := [(12, .int 1), (10, .long w158), (6, .long w69), (13, .long w68), (16, .long w65), (15, .int y36), (8, .long w40), (5, .int x26), (0, .ref (ad 0)), (1, .int a1), (2, .int a2), (3, .int a3), (4, .int a4)]) hx hb dX12_sums__181 hl (by decide) rfl (fun ls hl => ?_)
                        refine lv_lload hx hb dX12_sums__183 (lv_at hl 2 rfl) ?_
                        refine lv_aload_n hx hb dX12_sums__185 rfl (lv_at hl 8 rfl) ?_
                        refine lv_iload hx hb dX12_sums__186 (lv_at hl 7 rfl) ?_
                        refine lv_iload hx hb dX12_sums__188 (lv_at hl 5 rfl) ?_
                        refine lv_iadd hx hb dX12_sums__190 ?_
                        refine lv_topi (fun x161 ex161 => ?_)
                        have tx161 : x161.toInt = x26.toInt + y36.toInt := z_tadd ex161 rfl rfl (by omega) (by omega)
                        refine lv_iconst (v := 1) hx hb dX12_sums__191 (by decide) ?_
                        refine lv_iadd hx hb dX12_sums__192 ?_
                        refine lv_topi (fun x162 ex162 => ?_)
                        have tx162 : x162.toInt = x161.toInt + 1 := z_tadd ex162 rfl z_l1 (by omega) (by omega)
                        refine z_cl hW hS hA (va_runV (As := [.int x162]) (rest := [.long w69]) ⟨hx, hb, hml, hown, hts⟩ (sx_X12_lowOf_u l G ad I J ⟨(by show 0 ≤ (I 0 0).toInt ∧ (I 0 0).toInt ≤ 719; exact hma.1), (by show 0 ≤ (I 0 1).toInt ∧ (I 0 1).toInt ≤ 30; exact hma.2.1), (by show 0 ≤ (I 0 2).toInt ∧ (I 0 2).toInt ≤ 200; exact hma.2.2)⟩ ⟨(by show 0 ≤ (I 0 13).toInt ∧ (I 0 13).toInt ≤ 12; exact hmb.1), (by show 0 ≤ (I 0 14).toInt ∧ (I 0 14).toInt ≤ 288; exact hmb.2)⟩ hAtf hAtm x162 hab (by omega) (by have c1 := z_clt (x := a1) rfl (by omega); have c2 := z_clt (x := a2) rfl (by omega); have c3 := z_clt (x := a3) rfl (by omega); have c4 := z_clt (x := x162) rfl (by omega); rw [show x162.toNatClampNeg = 30 * a1.toNatClampNeg + (y36.toNatClampNeg + 1) by omega]; exact ⟨hTo a1.toNatClampNeg (by omega) (y36.toNatClampNeg + 1) (by omega), hDm a1.toNatClampNeg (by omega) (y36.toNatClampNeg + 1) (by omega)⟩) _) (cwV 1 hts gX12_sums__X12_lowOf rfl rfl rfl (by decide +kernel) ⟨Nat.le_of_ble_eq_true rfl, Nat.le_of_ble_eq_true rfl⟩) (z_preV (i := 0) hK hW rfl rfl) rfl rfl hl.1 rfl (lv_room (Nat.le_of_ble_eq_true rfl)) dX12_sums__193 ⟨Nat.le_of_ble_eq_true rfl, Nat.le_of_ble_eq_true rfl⟩) (fun r u1 H locs hp hW hS => ?_)
                        obtain ⟨e9, hp⟩ := hp
                        rw [e9] at hW
                        refine lv_topl (fun w163 ew163 => ?_)
                        rw [← ew163] at hp
                        have hb165 := hp.2
                        have hl164 : zu_kl I a1.toNatClampNeg a2.toNatClampNeg ((y36.toInt - a2.toInt).toNat + 1) = w163.toInt := by have c1 := z_clt (x := a1) rfl (by omega); have c2 := z_clt (x := a2) rfl (by omega); have c3 := z_clt (x := a3) rfl (by omega); have c4 := z_clt (x := x162) rfl (by omega); unfold zu_kl; rw [show 30 * a1.toNatClampNeg + (a2.toNatClampNeg + ((y36.toInt - a2.toInt).toNat + 1)) = x162.toNatClampNeg by omega]; exact hp.1.symm
                        refine W.lcmp hx hb dX12_sums__196 ?_
                        refine lv_topi (fun x166 ex166 => ?_)
                        have tx166 := z_tcmp ex166
                        have h167 := z_tlcmp ex166 tw69 rfl
                        refine lv_if_ge (tgt := 204) hx hb dX12_sums__197 (by decide) (fun c168 => ?_) (fun c168 => ?_)
                        · have g169 := z_f_ge rfl z_l0 c168
                          refine lv_aload_n hx hb dX12_sums__204 rfl (lv_at hl 8 rfl) ?_
                          refine lv_iload hx hb dX12_sums__205 (lv_at hl 7 rfl) ?_
                          refine lv_iload hx hb dX12_sums__207 (lv_at hl 5 rfl) ?_
                          refine lv_iadd hx hb dX12_sums__209 ?_
                          refine lv_topi (fun x170 ex170 => ?_)
                          have tx170 : x170.toInt = x26.toInt + y36.toInt := z_tadd ex170 rfl rfl (by omega) (by omega)
                          refine lv_iconst (v := 1) hx hb dX12_sums__210 (by decide) ?_
                          refine lv_iadd hx hb dX12_sums__211 ?_
                          refine lv_topi (fun x171 ex171 => ?_)
                          have tx171 : x171.toInt = x170.toInt + 1 := z_tadd ex171 rfl z_l1 (by omega) (by omega)
                          refine z_cl hW hS hA (va_runV (As := [.int x171]) (rest := []) ⟨hx, hb, hml, hown, hts⟩ (sx_X12_lowOf_u l G ad I J ⟨(by show 0 ≤ (I 0 0).toInt ∧ (I 0 0).toInt ≤ 719; exact hma.1), (by show 0 ≤ (I 0 1).toInt ∧ (I 0 1).toInt ≤ 30; exact hma.2.1), (by show 0 ≤ (I 0 2).toInt ∧ (I 0 2).toInt ≤ 200; exact hma.2.2)⟩ ⟨(by show 0 ≤ (I 0 13).toInt ∧ (I 0 13).toInt ≤ 12; exact hmb.1), (by show 0 ≤ (I 0 14).toInt ∧ (I 0 14).toInt ≤ 288; exact hmb.2)⟩ hAtf hAtm x171 hab (by omega) (by have c1 := z_clt (x := a1) rfl (by omega); have c2 := z_clt (x := a2) rfl (by omega); have c3 := z_clt (x := a3) rfl (by omega); have c4 := z_clt (x := x171) rfl (by omega); rw [show x171.toNatClampNeg = 30 * a1.toNatClampNeg + (y36.toNatClampNeg + 1) by omega]; exact ⟨hTo a1.toNatClampNeg (by omega) (y36.toNatClampNeg + 1) (by omega), hDm a1.toNatClampNeg (by omega) (y36.toNatClampNeg + 1) (by omega)⟩) _) (cwV 1 hts gX12_sums__X12_lowOf rfl rfl rfl (by decide +kernel) ⟨Nat.le_of_ble_eq_true rfl, Nat.le_of_ble_eq_true rfl⟩) (z_preV (i := 0) hK hW rfl rfl) rfl rfl hl.1 rfl (lv_room (Nat.le_of_ble_eq_true rfl)) dX12_sums__212 ⟨Nat.le_of_ble_eq_true rfl, Nat.le_of_ble_eq_true rfl⟩) (fun r u1 H locs hp hW hS => ?_)
                          obtain ⟨e9, hp⟩ := hp
                          rw [e9] at hW
                          refine lv_topl (fun w172 ew172 => ?_)
                          rw [← ew172] at hp
                          have hb174 := hp.2
                          have hl173 : zu_kl I a1.toNatClampNeg a2.toNatClampNeg ((y36.toInt - a2.toInt).toNat + 1) = w172.toInt := by have c1 := z_clt (x := a1) rfl (by omega); have c2 := z_clt (x := a2) rfl (by omega); have c3 := z_clt (x := a3) rfl (by omega); have c4 := z_clt (x := x171) rfl (by omega); unfold zu_kl; rw [show 30 * a1.toNatClampNeg + (a2.toNatClampNeg + ((y36.toInt - a2.toInt).toNat + 1)) = x171.toNatClampNeg by omega]; exact hp.1.symm
                          refine lv_lload hx hb dX12_sums__215 (lv_at hl 3 rfl) ?_
                          refine lv_lsub hx hb dX12_sums__217 ?_
                          refine lv_topl (fun w175 ew175 => ?_)
                          have tw175 : w175.toInt = w172.toInt - (w37.toInt + w65.toInt) := z_tlsub ew175 rfl tw68 (by omega) (by omega)
                          refine lv_lload hx hb dX12_sums__218 (lv_at hl 6 rfl) ?_
                          refine W.lcmp hx hb dX12_sums__220 ?_
                          refine lv_topi (fun x176 ex176 => ?_)
                          have tx176 := z_tcmp ex176
                          have h177 := z_tlcmp ex176 tw175 rfl
                          refine lv_if_le (tgt := 240) hx hb dX12_sums__221 (by decide) (fun c178 => ?_) (fun c178 => ?_)
                          · have g179 := z_f_le rfl z_l0 c178
                            obtain ⟨x180, ex180⟩ : ∃ y : Int32, y = y36 + 1 := ⟨_, rfl⟩
                            have tx180 : x180.toInt = y36.toInt + 1 := z_tadd ex180 rfl z_l1 (by omega) (by omega)
                            refine lv_iinc (v := x180) (lv' := [(15, .int x180), (12, .int 1), (10, .long w158), (6, .long w69), (13, .long w68), (16, .long w65), (8, .long w40), (5, .int x26), (0, .ref (ad 0)), (1, .int a1), (2, .int a2), (3, .int a3), (4, .int a4)]) hx hb dX12_sums__240 hl (k := 5) rfl (by rw [ex180]; rfl) (by decide) rfl (fun ls hl => ?_)
                            refine lv_goto (tgt := 79) hx hb dX12_sums__243 (by decide) ?_
                            exact lp35ih x180 w68 (1) w158 w40 w69 _ _ _ (by omega) (by omega) (by omega) (by rw [z_l1]; omega) (by rw [z_l1]; omega) (by omega) (by have q9 := lp35S; obtain ⟨⟨s1, s2, s3⟩, ⟨s4, s5, s6⟩, ⟨s7, s8, s9⟩, ⟨t1, t2, t3⟩, t4, t5, t6⟩ := q9; have q1 := z_l1; have q0 := z_l0; exact ⟨⟨by rw [show (x180.toInt - a2.toInt).toNat = (y36.toInt - a2.toInt).toNat + 1 by omega, zu_s_s, hJ66]; omega, by omega, by omega⟩, ⟨by rw [show (x180.toInt - a2.toInt).toNat = (y36.toInt - a2.toInt).toNat + 1 by omega, zu_H, hJ66]; omega, by omega, by omega⟩, ⟨by rw [show (x180.toInt - a2.toInt).toNat = (y36.toInt - a2.toInt).toNat + 1 by omega, zu_L, zu_s_s, hJ66]; omega, by omega, by omega⟩, ⟨by rw [show (x180.toInt - a2.toInt).toNat = (y36.toInt - a2.toInt).toNat + 1 by omega, zu_Z_s, hJ66]; split <;> omega, by omega, by omega⟩, by omega, by omega, by omega⟩) (fun q h1 h2 => by have q9 := lp35S; obtain ⟨_, ⟨s4, _⟩, _⟩ := q9; by_cases e : q = (y36.toInt - a2.toInt).toNat + 1; (· rw [e, zu_H, hJ66]; omega); (· exact lp35K q h1 (by omega))) hW hS (lv_sub hl [0, 4, 1, 2, 6, 3, 7, 8, 9, 10, 11, 12] rfl)
                          · have g181 := z_f_nle rfl z_l0 c178
                            refine lv_aload_n hx hb dX12_sums__224 rfl (lv_at hl 8 rfl) ?_
                            refine lv_iload hx hb dX12_sums__225 (lv_at hl 7 rfl) ?_
                            refine lv_iload hx hb dX12_sums__227 (lv_at hl 5 rfl) ?_
                            refine lv_iadd hx hb dX12_sums__229 ?_
                            refine lv_topi (fun x182 ex182 => ?_)
                            have tx182 : x182.toInt = x26.toInt + y36.toInt := z_tadd ex182 rfl rfl (by omega) (by omega)
                            refine lv_iconst (v := 1) hx hb dX12_sums__230 (by decide) ?_
                            refine lv_iadd hx hb dX12_sums__231 ?_
                            refine lv_topi (fun x183 ex183 => ?_)
                            have tx183 : x183.toInt = x182.toInt + 1 := z_tadd ex183 rfl z_l1 (by omega) (by omega)
                            refine z_cl hW hS hA (va_runV (As := [.int x183]) (rest := []) ⟨hx, hb, hml, hown, hts⟩ (sx_X12_lowOf_u l G ad I J ⟨(by show 0 ≤ (I 0 0).toInt ∧ (I 0 0).toInt ≤ 719; exact hma.1), (by show 0 ≤ (I 0 1).toInt ∧ (I 0 1).toInt ≤ 30; exact hma.2.1), (by show 0 ≤ (I 0 2).toInt ∧ (I 0 2).toInt ≤ 200; exact hma.2.2)⟩ ⟨(by show 0 ≤ (I 0 13).toInt ∧ (I 0 13).toInt ≤ 12; exact hmb.1), (by show 0 ≤ (I 0 14).toInt ∧ (I 0 14).toInt ≤ 288; exact hmb.2)⟩ hAtf hAtm x183 hab (by omega) (by have c1 := z_clt (x := a1) rfl (by omega); have c2 := z_clt (x := a2) rfl (by omega); have c3 := z_clt (x := a3) rfl (by omega); have c4 := z_clt (x := x183) rfl (by omega); rw [show x183.toNatClampNeg = 30 * a1.toNatClampNeg + (y36.toNatClampNeg + 1) by omega]; exact ⟨hTo a1.toNatClampNeg (by omega) (y36.toNatClampNeg + 1) (by omega), hDm a1.toNatClampNeg (by omega) (y36.toNatClampNeg + 1) (by omega)⟩) _) (cwV 1 hts gX12_sums__X12_lowOf rfl rfl rfl (by decide +kernel) ⟨Nat.le_of_ble_eq_true rfl, Nat.le_of_ble_eq_true rfl⟩) (z_preV (i := 0) hK hW rfl rfl) rfl rfl hl.1 rfl (lv_room (Nat.le_of_ble_eq_true rfl)) dX12_sums__232 ⟨Nat.le_of_ble_eq_true rfl, Nat.le_of_ble_eq_true rfl⟩) (fun r u1 H locs hp hW hS => ?_)
                            obtain ⟨e9, hp⟩ := hp
                            rw [e9] at hW
                            refine lv_topl (fun w184 ew184 => ?_)
                            rw [← ew184] at hp
                            have hb186 := hp.2
                            have hl185 : zu_kl I a1.toNatClampNeg a2.toNatClampNeg ((y36.toInt - a2.toInt).toNat + 1) = w184.toInt := by have c1 := z_clt (x := a1) rfl (by omega); have c2 := z_clt (x := a2) rfl (by omega); have c3 := z_clt (x := a3) rfl (by omega); have c4 := z_clt (x := x183) rfl (by omega); unfold zu_kl; rw [show 30 * a1.toNatClampNeg + (a2.toNatClampNeg + ((y36.toInt - a2.toInt).toNat + 1)) = x183.toNatClampNeg by omega]; exact hp.1.symm
                            refine lv_lload hx hb dX12_sums__235 (lv_at hl 3 rfl) ?_
                            refine lv_lsub hx hb dX12_sums__237 ?_
                            refine lv_topl (fun w187 ew187 => ?_)
                            have tw187 : w187.toInt = w184.toInt - (w37.toInt + w65.toInt) := z_tlsub ew187 rfl tw68 (by omega) (by omega)
                            refine lv_lstore (lv' := [(8, .long w187), (12, .int 1), (10, .long w158), (6, .long w69), (13, .long w68), (16, .long w65), (15, .int y36), (5, .int x26), (0, .ref (ad 0)), (1, .int a1), (2, .int a2), (3, .int a3), (4, .int a4)]) hx hb dX12_sums__238 hl (by decide) rfl (fun ls hl => ?_)
                            obtain ⟨x188, ex188⟩ : ∃ y : Int32, y = y36 + 1 := ⟨_, rfl⟩
                            have tx188 : x188.toInt = y36.toInt + 1 := z_tadd ex188 rfl z_l1 (by omega) (by omega)
                            refine lv_iinc (v := x188) (lv' := [(15, .int x188), (8, .long w187), (12, .int 1), (10, .long w158), (6, .long w69), (13, .long w68), (16, .long w65), (5, .int x26), (0, .ref (ad 0)), (1, .int a1), (2, .int a2), (3, .int a3), (4, .int a4)]) hx hb dX12_sums__240 hl (k := 6) rfl (by rw [ex188]; rfl) (by decide) rfl (fun ls hl => ?_)
                            refine lv_goto (tgt := 79) hx hb dX12_sums__243 (by decide) ?_
                            exact lp35ih x188 w68 (1) w158 w187 w69 _ _ _ (by omega) (by omega) (by omega) (by rw [z_l1]; omega) (by rw [z_l1]; omega) (by omega) (by have q9 := lp35S; obtain ⟨⟨s1, s2, s3⟩, ⟨s4, s5, s6⟩, ⟨s7, s8, s9⟩, ⟨t1, t2, t3⟩, t4, t5, t6⟩ := q9; have q1 := z_l1; have q0 := z_l0; exact ⟨⟨by rw [show (x188.toInt - a2.toInt).toNat = (y36.toInt - a2.toInt).toNat + 1 by omega, zu_s_s, hJ66]; omega, by omega, by omega⟩, ⟨by rw [show (x188.toInt - a2.toInt).toNat = (y36.toInt - a2.toInt).toNat + 1 by omega, zu_H, hJ66]; omega, by omega, by omega⟩, ⟨by rw [show (x188.toInt - a2.toInt).toNat = (y36.toInt - a2.toInt).toNat + 1 by omega, zu_L, zu_s_s, hJ66]; omega, by omega, by omega⟩, ⟨by rw [show (x188.toInt - a2.toInt).toNat = (y36.toInt - a2.toInt).toNat + 1 by omega, zu_Z_s, hJ66]; split <;> omega, by omega, by omega⟩, by omega, by omega, by omega⟩) (fun q h1 h2 => by have q9 := lp35S; obtain ⟨_, ⟨s4, _⟩, _⟩ := q9; by_cases e : q = (y36.toInt - a2.toInt).toNat + 1; (· rw [e, zu_H, hJ66]; omega); (· exact lp35K q h1 (by omega))) hW hS (lv_sub hl [0, 5, 2, 3, 1, 4, 7, 8, 9, 10, 11, 12] rfl)
                        · have g189 := z_f_nge rfl z_l0 c168
                          refine lv_ldc2 (v := (-3)) hx hb hown (hts (.constantLong RX12 490 (-3)) (me_s (me_l (me_l (List.mem_of_getElem? (i := 2) rfl))))) dX12_sums__200 ?_
                          exact z_lret hx hb hr hK hS (Nat.le_of_ble_eq_true rfl) (Nat.le_of_ble_eq_true rfl) hlocks dX12_sums__203 (shM, ad, I, J, PM ad) hW ⟨rfl, (Or.inl ⟨by omega, Or.inl ⟨fun ok => absurd (ok ((y36.toInt - a2.toInt).toNat + 1) (by omega) (by have c1 := z_clt (x := a1) rfl (by omega); have c2 := z_clt (x := a2) rfl (by omega); have c3 := z_clt (x := a3) rfl (by omega); have q9 := lp35S; omega)) (by have q9 := lp35S; obtain ⟨_, ⟨s4, _⟩, _⟩ := q9; rw [zu_H, hJ66]; omega), by decide⟩⟩)⟩
                  · have g190 := z_f_nge rfl z_l0 c78
                    refine lv_aload_n hx hb dX12_sums__132 rfl (lv_at hl 8 rfl) ?_
                    refine lv_iload hx hb dX12_sums__133 (lv_at hl 7 rfl) ?_
                    refine lv_iload hx hb dX12_sums__135 (lv_at hl 4 rfl) ?_
                    refine lv_iadd hx hb dX12_sums__137 ?_
                    refine lv_topi (fun x191 ex191 => ?_)
                    have tx191 : x191.toInt = x26.toInt + y36.toInt := z_tadd ex191 rfl rfl (by omega) (by omega)
                    refine lv_iconst (v := 1) hx hb dX12_sums__138 (by decide) ?_
                    refine lv_iadd hx hb dX12_sums__139 ?_
                    refine lv_topi (fun x192 ex192 => ?_)
                    have tx192 : x192.toInt = x191.toInt + 1 := z_tadd ex192 rfl z_l1 (by omega) (by omega)
                    refine z_cl hW hS hA (va_runV (As := [.int x192]) (rest := []) ⟨hx, hb, hml, hown, hts⟩ (sx_X12_highOf_u l G ad I J ⟨(by show 0 ≤ (I 0 0).toInt ∧ (I 0 0).toInt ≤ 719; exact hma.1), (by show 0 ≤ (I 0 1).toInt ∧ (I 0 1).toInt ≤ 30; exact hma.2.1), (by show 0 ≤ (I 0 2).toInt ∧ (I 0 2).toInt ≤ 200; exact hma.2.2)⟩ ⟨(by show 0 ≤ (I 0 13).toInt ∧ (I 0 13).toInt ≤ 12; exact hmb.1), (by show 0 ≤ (I 0 14).toInt ∧ (I 0 14).toInt ≤ 288; exact hmb.2)⟩ hAtf hAtm x192 hab (by omega) (by have c1 := z_clt (x := a1) rfl (by omega); have c2 := z_clt (x := a2) rfl (by omega); have c3 := z_clt (x := a3) rfl (by omega); have c4 := z_clt (x := x192) rfl (by omega); rw [show x192.toNatClampNeg = 30 * a1.toNatClampNeg + (y36.toNatClampNeg + 1) by omega]; exact ⟨hTo a1.toNatClampNeg (by omega) (y36.toNatClampNeg + 1) (by omega), hDm a1.toNatClampNeg (by omega) (y36.toNatClampNeg + 1) (by omega)⟩) _) (cwV 1 hts gX12_sums__X12_highOf rfl rfl rfl (by decide +kernel) ⟨Nat.le_of_ble_eq_true rfl, Nat.le_of_ble_eq_true rfl⟩) (z_preV (i := 0) hK hW rfl rfl) rfl rfl hl.1 rfl (lv_room (Nat.le_of_ble_eq_true rfl)) dX12_sums__140 ⟨Nat.le_of_ble_eq_true rfl, Nat.le_of_ble_eq_true rfl⟩) (fun r u1 H locs hp hW hS => ?_)
                    obtain ⟨e9, hp⟩ := hp
                    rw [e9] at hW
                    refine lv_topl (fun w193 ew193 => ?_)
                    rw [← ew193] at hp
                    have hb195 := hp.2
                    have hl194 : zu_kh I a1.toNatClampNeg a2.toNatClampNeg ((y36.toInt - a2.toInt).toNat + 1) = w193.toInt := by have c1 := z_clt (x := a1) rfl (by omega); have c2 := z_clt (x := a2) rfl (by omega); have c3 := z_clt (x := a3) rfl (by omega); have c4 := z_clt (x := x192) rfl (by omega); unfold zu_kh; rw [show 30 * a1.toNatClampNeg + (a2.toNatClampNeg + ((y36.toInt - a2.toInt).toNat + 1)) = x192.toNatClampNeg by omega]; exact hp.1.symm
                    refine lv_lstore (lv' := [(6, .long w193), (10, .long w70), (13, .long w68), (16, .long w65), (15, .int y36), (12, .int y38), (8, .long w40), (5, .int x26), (0, .ref (ad 0)), (1, .int a1), (2, .int a2), (3, .int a3), (4, .int a4)]) hx hb dX12_sums__143 hl (by decide) rfl (fun ls hl => ?_)
                    refine lv_iload hx hb dX12_sums__145 (lv_at hl 5 rfl) ?_
                    refine lv_if_eq (tgt := 167) hx hb dX12_sums__147 (by decide) (fun c196 => ?_) (fun c196 => ?_)
                    · have g197 := z_f_eq rfl z_l0 c196
                      refine lv_aload_n hx hb dX12_sums__167 rfl (lv_at hl 8 rfl) ?_
                      refine lv_iload hx hb dX12_sums__168 (lv_at hl 7 rfl) ?_
                      refine lv_iload hx hb dX12_sums__170 (lv_at hl 4 rfl) ?_
                      refine lv_iadd hx hb dX12_sums__172 ?_
                      refine lv_topi (fun x198 ex198 => ?_)
                      have tx198 : x198.toInt = x26.toInt + y36.toInt := z_tadd ex198 rfl rfl (by omega) (by omega)
                      refine lv_iconst (v := 1) hx hb dX12_sums__173 (by decide) ?_
                      refine lv_iadd hx hb dX12_sums__174 ?_
                      refine lv_topi (fun x199 ex199 => ?_)
                      have tx199 : x199.toInt = x198.toInt + 1 := z_tadd ex199 rfl z_l1 (by omega) (by omega)
                      refine z_cl hW hS hA (va_runV (As := [.int x199]) (rest := []) ⟨hx, hb, hml, hown, hts⟩ (sx_X12_highOf_u l G ad I J ⟨(by show 0 ≤ (I 0 0).toInt ∧ (I 0 0).toInt ≤ 719; exact hma.1), (by show 0 ≤ (I 0 1).toInt ∧ (I 0 1).toInt ≤ 30; exact hma.2.1), (by show 0 ≤ (I 0 2).toInt ∧ (I 0 2).toInt ≤ 200; exact hma.2.2)⟩ ⟨(by show 0 ≤ (I 0 13).toInt ∧ (I 0 13).toInt ≤ 12; exact hmb.1), (by show 0 ≤ (I 0 14).toInt ∧ (I 0 14).toInt ≤ 288; exact hmb.2)⟩ hAtf hAtm x199 hab (by omega) (by have c1 := z_clt (x := a1) rfl (by omega); have c2 := z_clt (x := a2) rfl (by omega); have c3 := z_clt (x := a3) rfl (by omega); have c4 := z_clt (x := x199) rfl (by omega); rw [show x199.toNatClampNeg = 30 * a1.toNatClampNeg + (y36.toNatClampNeg + 1) by omega]; exact ⟨hTo a1.toNatClampNeg (by omega) (y36.toNatClampNeg + 1) (by omega), hDm a1.toNatClampNeg (by omega) (y36.toNatClampNeg + 1) (by omega)⟩) _) (cwV 1 hts gX12_sums__X12_highOf rfl rfl rfl (by decide +kernel) ⟨Nat.le_of_ble_eq_true rfl, Nat.le_of_ble_eq_true rfl⟩) (z_preV (i := 0) hK hW rfl rfl) rfl rfl hl.1 rfl (lv_room (Nat.le_of_ble_eq_true rfl)) dX12_sums__175 ⟨Nat.le_of_ble_eq_true rfl, Nat.le_of_ble_eq_true rfl⟩) (fun r u1 H locs hp hW hS => ?_)
                      obtain ⟨e9, hp⟩ := hp
                      rw [e9] at hW
                      refine lv_topl (fun w200 ew200 => ?_)
                      rw [← ew200] at hp
                      have hb202 := hp.2
                      have hl201 : zu_kh I a1.toNatClampNeg a2.toNatClampNeg ((y36.toInt - a2.toInt).toNat + 1) = w200.toInt := by have c1 := z_clt (x := a1) rfl (by omega); have c2 := z_clt (x := a2) rfl (by omega); have c3 := z_clt (x := a3) rfl (by omega); have c4 := z_clt (x := x199) rfl (by omega); unfold zu_kh; rw [show 30 * a1.toNatClampNeg + (a2.toNatClampNeg + ((y36.toInt - a2.toInt).toNat + 1)) = x199.toNatClampNeg by omega]; exact hp.1.symm
                      refine lv_lstore (lv' := [(10, .long w200), (6, .long w193), (13, .long w68), (16, .long w65), (15, .int y36), (12, .int y38), (8, .long w40), (5, .int x26), (0, .ref (ad 0)), (1, .int a1), (2, .int a2), (3, .int a3), (4, .int a4)]) hx hb dX12_sums__178 hl (by decide) rfl (fun ls hl => ?_)
                      refine lv_iconst (v := 1) hx hb dX12_sums__180 (by decide) ?_
                      refine lv_istore (lv' := [(12, .int 1), (10, .long w200), (6, .long w193), (13, .long w68), (16, .long w65), (15, .int y36), (8, .long w40), (5, .int x26), (0, .ref (ad 0)), (1, .int a1), (2, .int a2), (3, .int a3), (4, .int a4)]) hx hb dX12_sums__181 hl (by decide) rfl (fun ls hl => ?_)
                      refine lv_lload hx hb dX12_sums__183 (lv_at hl 2 rfl) ?_
                      refine lv_aload_n hx hb dX12_sums__185 rfl (lv_at hl 8 rfl) ?_
                      refine lv_iload hx hb dX12_sums__186 (lv_at hl 7 rfl) ?_
                      refine lv_iload hx hb dX12_sums__188 (lv_at hl 5 rfl) ?_
                      refine lv_iadd hx hb dX12_sums__190 ?_
                      refine lv_topi (fun x203 ex203 => ?_)
                      have tx203 : x203.toInt = x26.toInt + y36.toInt := z_tadd ex203 rfl rfl (by omega) (by omega)
                      refine lv_iconst (v := 1) hx hb dX12_sums__191 (by decide) ?_
                      refine lv_iadd hx hb dX12_sums__192 ?_
                      refine lv_topi (fun x204 ex204 => ?_)
                      have tx204 : x204.toInt = x203.toInt + 1 := z_tadd ex204 rfl z_l1 (by omega) (by omega)
                      refine z_cl hW hS hA (va_runV (As := [.int x204]) (rest := [.long w193]) ⟨hx, hb, hml, hown, hts⟩ (sx_X12_lowOf_u l G ad I J ⟨(by show 0 ≤ (I 0 0).toInt ∧ (I 0 0).toInt ≤ 719; exact hma.1), (by show 0 ≤ (I 0 1).toInt ∧ (I 0 1).toInt ≤ 30; exact hma.2.1), (by show 0 ≤ (I 0 2).toInt ∧ (I 0 2).toInt ≤ 200; exact hma.2.2)⟩ ⟨(by show 0 ≤ (I 0 13).toInt ∧ (I 0 13).toInt ≤ 12; exact hmb.1), (by show 0 ≤ (I 0 14).toInt ∧ (I 0 14).toInt ≤ 288; exact hmb.2)⟩ hAtf hAtm x204 hab (by omega) (by have c1 := z_clt (x := a1) rfl (by omega); have c2 := z_clt (x := a2) rfl (by omega); have c3 := z_clt (x := a3) rfl (by omega); have c4 := z_clt (x := x204) rfl (by omega); rw [show x204.toNatClampNeg = 30 * a1.toNatClampNeg + (y36.toNatClampNeg + 1) by omega]; exact ⟨hTo a1.toNatClampNeg (by omega) (y36.toNatClampNeg + 1) (by omega), hDm a1.toNatClampNeg (by omega) (y36.toNatClampNeg + 1) (by omega)⟩) _) (cwV 1 hts gX12_sums__X12_lowOf rfl rfl rfl (by decide +kernel) ⟨Nat.le_of_ble_eq_true rfl, Nat.le_of_ble_eq_true rfl⟩) (z_preV (i := 0) hK hW rfl rfl) rfl rfl hl.1 rfl (lv_room (Nat.le_of_ble_eq_true rfl)) dX12_sums__193 ⟨Nat.le_of_ble_eq_true rfl, Nat.le_of_ble_eq_true rfl⟩) (fun r u1 H locs hp hW hS => ?_)
                      obtain ⟨e9, hp⟩ := hp
                      rw [e9] at hW
                      refine lv_topl (fun w205 ew205 => ?_)
                      rw [← ew205] at hp
                      have hb207 := hp.2
                      have hl206 : zu_kl I a1.toNatClampNeg a2.toNatClampNeg ((y36.toInt - a2.toInt).toNat + 1) = w205.toInt := by have c1 := z_clt (x := a1) rfl (by omega); have c2 := z_clt (x := a2) rfl (by omega); have c3 := z_clt (x := a3) rfl (by omega); have c4 := z_clt (x := x204) rfl (by omega); unfold zu_kl; rw [show 30 * a1.toNatClampNeg + (a2.toNatClampNeg + ((y36.toInt - a2.toInt).toNat + 1)) = x204.toNatClampNeg by omega]; exact hp.1.symm
                      refine W.lcmp hx hb dX12_sums__196 ?_
                      refine lv_topi (fun x208 ex208 => ?_)
                      have tx208 := z_tcmp ex208
                      have h209 := z_tlcmp ex208 rfl rfl
                      refine lv_if_ge (tgt := 204) hx hb dX12_sums__197 (by decide) (fun c210 => ?_) (fun c210 => ?_)
                      · have g211 := z_f_ge rfl z_l0 c210
                        refine lv_aload_n hx hb dX12_sums__204 rfl (lv_at hl 8 rfl) ?_
                        refine lv_iload hx hb dX12_sums__205 (lv_at hl 7 rfl) ?_
                        refine lv_iload hx hb dX12_sums__207 (lv_at hl 5 rfl) ?_
                        refine lv_iadd hx hb dX12_sums__209 ?_
                        refine lv_topi (fun x212 ex212 => ?_)
                        have tx212 : x212.toInt = x26.toInt + y36.toInt := z_tadd ex212 rfl rfl (by omega) (by omega)
                        refine lv_iconst (v := 1) hx hb dX12_sums__210 (by decide) ?_
                        refine lv_iadd hx hb dX12_sums__211 ?_
                        refine lv_topi (fun x213 ex213 => ?_)
                        have tx213 : x213.toInt = x212.toInt + 1 := z_tadd ex213 rfl z_l1 (by omega) (by omega)
                        refine z_cl hW hS hA (va_runV (As := [.int x213]) (rest := []) ⟨hx, hb, hml, hown, hts⟩ (sx_X12_lowOf_u l G ad I J ⟨(by show 0 ≤ (I 0 0).toInt ∧ (I 0 0).toInt ≤ 719; exact hma.1), (by show 0 ≤ (I 0 1).toInt ∧ (I 0 1).toInt ≤ 30; exact hma.2.1), (by show 0 ≤ (I 0 2).toInt ∧ (I 0 2).toInt ≤ 200; exact hma.2.2)⟩ ⟨(by show 0 ≤ (I 0 13).toInt ∧ (I 0 13).toInt ≤ 12; exact hmb.1), (by show 0 ≤ (I 0 14).toInt ∧ (I 0 14).toInt ≤ 288; exact hmb.2)⟩ hAtf hAtm x213 hab (by omega) (by have c1 := z_clt (x := a1) rfl (by omega); have c2 := z_clt (x := a2) rfl (by omega); have c3 := z_clt (x := a3) rfl (by omega); have c4 := z_clt (x := x213) rfl (by omega); rw [show x213.toNatClampNeg = 30 * a1.toNatClampNeg + (y36.toNatClampNeg + 1) by omega]; exact ⟨hTo a1.toNatClampNeg (by omega) (y36.toNatClampNeg + 1) (by omega), hDm a1.toNatClampNeg (by omega) (y36.toNatClampNeg + 1) (by omega)⟩) _) (cwV 1 hts gX12_sums__X12_lowOf rfl rfl rfl (by decide +kernel) ⟨Nat.le_of_ble_eq_true rfl, Nat.le_of_ble_eq_true rfl⟩) (z_preV (i := 0) hK hW rfl rfl) rfl rfl hl.1 rfl (lv_room (Nat.le_of_ble_eq_true rfl)) dX12_sums__212 ⟨Nat.le_of_ble_eq_true rfl, Nat.le_of_ble_eq_true rfl⟩) (fun r u1 H locs hp hW hS => ?_)
                        obtain ⟨e9, hp⟩ := hp
                        rw [e9] at hW
                        refine lv_topl (fun w214 ew214 => ?_)
                        rw [← ew214] at hp
                        have hb216 := hp.2
                        have hl215 : zu_kl I a1.toNatClampNeg a2.toNatClampNeg ((y36.toInt - a2.toInt).toNat + 1) = w214.toInt := by have c1 := z_clt (x := a1) rfl (by omega); have c2 := z_clt (x := a2) rfl (by omega); have c3 := z_clt (x := a3) rfl (by omega); have c4 := z_clt (x := x213) rfl (by omega); unfold zu_kl; rw [show 30 * a1.toNatClampNeg + (a2.toNatClampNeg + ((y36.toInt - a2.toInt).toNat + 1)) = x213.toNatClampNeg by omega]; exact hp.1.symm
                        refine lv_lload hx hb dX12_sums__215 (lv_at hl 3 rfl) ?_
                        refine lv_lsub hx hb dX12_sums__217 ?_
                        refine lv_topl (fun w217 ew217 => ?_)
                        have tw217 : w217.toInt = w214.toInt - (w37.toInt + w65.toInt) := z_tlsub ew217 rfl tw68 (by omega) (by omega)
                        refine lv_lload hx hb dX12_sums__218 (lv_at hl 6 rfl) ?_
                        refine W.lcmp hx hb dX12_sums__220 ?_
                        refine lv_topi (fun x218 ex218 => ?_)
                        have tx218 := z_tcmp ex218
                        have h219 := z_tlcmp ex218 tw217 rfl
                        refine lv_if_le (tgt := 240) hx hb dX12_sums__221 (by decide) (fun c220 => ?_) (fun c220 => ?_)
                        · have g221 := z_f_le rfl z_l0 c220
                          obtain ⟨x222, ex222⟩ : ∃ y : Int32, y = y36 + 1 := ⟨_, rfl⟩
                          have tx222 : x222.toInt = y36.toInt + 1 := z_tadd ex222 rfl z_l1 (by omega) (by omega)
                          refine lv_iinc (v := x222) (lv' := [(15, .int x222), (12, .int 1), (10, .long w200), (6, .long w193), (13, .long w68), (16, .long w65), (8, .long w40), (5, .int x26), (0, .ref (ad 0)), (1, .int a1), (2, .int a2), (3, .int a3), (4, .int a4)]) hx hb dX12_sums__240 hl (k := 5) rfl (by rw [ex222]; rfl) (by decide) rfl (fun ls hl => ?_)
                          refine lv_goto (tgt := 79) hx hb dX12_sums__243 (by decide) ?_
                          exact lp35ih x222 w68 (1) w200 w40 w193 _ _ _ (by omega) (by omega) (by omega) (by rw [z_l1]; omega) (by rw [z_l1]; omega) (by omega) (by have q9 := lp35S; obtain ⟨⟨s1, s2, s3⟩, ⟨s4, s5, s6⟩, ⟨s7, s8, s9⟩, ⟨t1, t2, t3⟩, t4, t5, t6⟩ := q9; have q1 := z_l1; have q0 := z_l0; exact ⟨⟨by rw [show (x222.toInt - a2.toInt).toNat = (y36.toInt - a2.toInt).toNat + 1 by omega, zu_s_s, hJ66]; omega, by omega, by omega⟩, ⟨by rw [show (x222.toInt - a2.toInt).toNat = (y36.toInt - a2.toInt).toNat + 1 by omega, zu_H, hJ66]; omega, by omega, by omega⟩, ⟨by rw [show (x222.toInt - a2.toInt).toNat = (y36.toInt - a2.toInt).toNat + 1 by omega, zu_L, zu_s_s, hJ66]; omega, by omega, by omega⟩, ⟨by rw [show (x222.toInt - a2.toInt).toNat = (y36.toInt - a2.toInt).toNat + 1 by omega, zu_Z_s, hJ66]; split <;> omega, by omega, by omega⟩, by omega, by omega, by omega⟩) (fun q h1 h2 => by have q9 := lp35S; obtain ⟨_, ⟨s4, _⟩, _⟩ := q9; by_cases e : q = (y36.toInt - a2.toInt).toNat + 1; (· rw [e, zu_H, hJ66]; omega); (· exact lp35K q h1 (by omega))) hW hS (lv_sub hl [0, 4, 1, 2, 6, 3, 7, 8, 9, 10, 11, 12] rfl)
                        · have g223 := z_f_nle rfl z_l0 c220
                          refine lv_aload_n hx hb dX12_sums__224 rfl (lv_at hl 8 rfl) ?_
                          refine lv_iload hx hb dX12_sums__225 (lv_at hl 7 rfl) ?_
                          refine lv_iload hx hb dX12_sums__227 (lv_at hl 5 rfl) ?_
                          refine lv_iadd hx hb dX12_sums__229 ?_
                          refine lv_topi (fun x224 ex224 => ?_)
                          have tx224 : x224.toInt = x26.toInt + y36.toInt := z_tadd ex224 rfl rfl (by omega) (by omega)
                          refine lv_iconst (v := 1) hx hb dX12_sums__230 (by decide) ?_
                          refine lv_iadd hx hb dX12_sums__231 ?_
                          refine lv_topi (fun x225 ex225 => ?_)
                          have tx225 : x225.toInt = x224.toInt + 1 := z_tadd ex225 rfl z_l1 (by omega) (by omega)
                          refine z_cl hW hS hA (va_runV (As := [.int x225]) (rest := []) ⟨hx, hb, hml, hown, hts⟩ (sx_X12_lowOf_u l G ad I J ⟨(by show 0 ≤ (I 0 0).toInt ∧ (I 0 0).toInt ≤ 719; exact hma.1), (by show 0 ≤ (I 0 1).toInt ∧ (I 0 1).toInt ≤ 30; exact hma.2.1), (by show 0 ≤ (I 0 2).toInt ∧ (I 0 2).toInt ≤ 200; exact hma.2.2)⟩ ⟨(by show 0 ≤ (I 0 13).toInt ∧ (I 0 13).toInt ≤ 12; exact hmb.1), (by show 0 ≤ (I 0 14).toInt ∧ (I 0 14).toInt ≤ 288; exact hmb.2)⟩ hAtf hAtm x225 hab (by omega) (by have c1 := z_clt (x := a1) rfl (by omega); have c2 := z_clt (x := a2) rfl (by omega); have c3 := z_clt (x := a3) rfl (by omega); have c4 := z_clt (x := x225) rfl (by omega); rw [show x225.toNatClampNeg = 30 * a1.toNatClampNeg + (y36.toNatClampNeg + 1) by omega]; exact ⟨hTo a1.toNatClampNeg (by omega) (y36.toNatClampNeg + 1) (by omega), hDm a1.toNatClampNeg (by omega) (y36.toNatClampNeg + 1) (by omega)⟩) _) (cwV 1 hts gX12_sums__X12_lowOf rfl rfl rfl (by decide +kernel) ⟨Nat.le_of_ble_eq_true rfl, Nat.le_of_ble_eq_true rfl⟩) (z_preV (i := 0) hK hW rfl rfl) rfl rfl hl.1 rfl (lv_room (Nat.le_of_ble_eq_true rfl)) dX12_sums__232 ⟨Nat.le_of_ble_eq_true rfl, Nat.le_of_ble_eq_true rfl⟩) (fun r u1 H locs hp hW hS => ?_)
                          obtain ⟨e9, hp⟩ := hp
                          rw [e9] at hW
                          refine lv_topl (fun w226 ew226 => ?_)
                          rw [← ew226] at hp
                          have hb228 := hp.2
                          have hl227 : zu_kl I a1.toNatClampNeg a2.toNatClampNeg ((y36.toInt - a2.toInt).toNat + 1) = w226.toInt := by have c1 := z_clt (x := a1) rfl (by omega); have c2 := z_clt (x := a2) rfl (by omega); have c3 := z_clt (x := a3) rfl (by omega); have c4 := z_clt (x := x225) rfl (by omega); unfold zu_kl; rw [show 30 * a1.toNatClampNeg + (a2.toNatClampNeg + ((y36.toInt - a2.toInt).toNat + 1)) = x225.toNatClampNeg by omega]; exact hp.1.symm
                          refine lv_lload hx hb dX12_sums__235 (lv_at hl 3 rfl) ?_
                          refine lv_lsub hx hb dX12_sums__237 ?_
                          refine lv_topl (fun w229 ew229 => ?_)
                          have tw229 : w229.toInt = w226.toInt - (w37.toInt + w65.toInt) := z_tlsub ew229 rfl tw68 (by omega) (by omega)
                          refine lv_lstore (lv' := [(8, .long w229), (12, .int 1), (10, .long w200), (6, .long w193), (13, .long w68), (16, .long w65), (15, .int y36), (5, .int x26), (0, .ref (ad 0)), (1, .int a1), (2, .int a2), (3, .int a3), (4, .int a4)]) hx hb dX12_sums__238 hl (by decide) rfl (fun ls hl => ?_)
                          obtain ⟨x230, ex230⟩ : ∃ y : Int32, y = y36 + 1 := ⟨_, rfl⟩
                          have tx230 : x230.toInt = y36.toInt + 1 := z_tadd ex230 rfl z_l1 (by omega) (by omega)
                          refine lv_iinc (v := x230) (lv' := [(15, .int x230), (8, .long w229), (12, .int 1), (10, .long w200), (6, .long w193), (13, .long w68), (16, .long w65), (5, .int x26), (0, .ref (ad 0)), (1, .int a1), (2, .int a2), (3, .int a3), (4, .int a4)]) hx hb dX12_sums__240 hl (k := 6) rfl (by rw [ex230]; rfl) (by decide) rfl (fun ls hl => ?_)
                          refine lv_goto (tgt := 79) hx hb dX12_sums__243 (by decide) ?_
                          exact lp35ih x230 w68 (1) w200 w229 w193 _ _ _ (by omega) (by omega) (by omega) (by rw [z_l1]; omega) (by rw [z_l1]; omega) (by omega) (by have q9 := lp35S; obtain ⟨⟨s1, s2, s3⟩, ⟨s4, s5, s6⟩, ⟨s7, s8, s9⟩, ⟨t1, t2, t3⟩, t4, t5, t6⟩ := q9; have q1 := z_l1; have q0 := z_l0; exact ⟨⟨by rw [show (x230.toInt - a2.toInt).toNat = (y36.toInt - a2.toInt).toNat + 1 by omega, zu_s_s, hJ66]; omega, by omega, by omega⟩, ⟨by rw [show (x230.toInt - a2.toInt).toNat = (y36.toInt - a2.toInt).toNat + 1 by omega, zu_H, hJ66]; omega, by omega, by omega⟩, ⟨by rw [show (x230.toInt - a2.toInt).toNat = (y36.toInt - a2.toInt).toNat + 1 by omega, zu_L, zu_s_s, hJ66]; omega, by omega, by omega⟩, ⟨by rw [show (x230.toInt - a2.toInt).toNat = (y36.toInt - a2.toInt).toNat + 1 by omega, zu_Z_s, hJ66]; split <;> omega, by omega, by omega⟩, by omega, by omega, by omega⟩) (fun q h1 h2 => by have q9 := lp35S; obtain ⟨_, ⟨s4, _⟩, _⟩ := q9; by_cases e : q = (y36.toInt - a2.toInt).toNat + 1; (· rw [e, zu_H, hJ66]; omega); (· exact lp35K q h1 (by omega))) hW hS (lv_sub hl [0, 5, 2, 3, 1, 4, 7, 8, 9, 10, 11, 12] rfl)
                      · have g231 := z_f_nge rfl z_l0 c210
                        refine lv_ldc2 (v := (-3)) hx hb hown (hts (.constantLong RX12 490 (-3)) (me_s (me_l (me_l (List.mem_of_getElem? (i := 2) rfl))))) dX12_sums__200 ?_
                        exact z_lret hx hb hr hK hS (Nat.le_of_ble_eq_true rfl) (Nat.le_of_ble_eq_true rfl) hlocks dX12_sums__203 (shM, ad, I, J, PM ad) hW ⟨rfl, (Or.inl ⟨by omega, Or.inl ⟨fun ok => absurd (ok ((y36.toInt - a2.toInt).toNat + 1) (by omega) (by have c1 := z_clt (x := a1) rfl (by omega); have c2 := z_clt (x := a2) rfl (by omega); have c3 := z_clt (x := a3) rfl (by omega); have q9 := lp35S; omega)) (by have q9 := lp35S; obtain ⟨_, ⟨s4, _⟩, _⟩ := q9; rw [zu_H, hJ66]; omega), by decide⟩⟩)⟩
                    · have g232 := z_f_ne rfl z_l0 c196
                      refine lv_aload_n hx hb dX12_sums__150 rfl (lv_at hl 8 rfl) ?_
                      refine lv_iload hx hb dX12_sums__151 (lv_at hl 7 rfl) ?_
                      refine lv_iload hx hb dX12_sums__153 (lv_at hl 4 rfl) ?_
                      refine lv_iadd hx hb dX12_sums__155 ?_
                      refine lv_topi (fun x233 ex233 => ?_)
                      have tx233 : x233.toInt = x26.toInt + y36.toInt := z_tadd ex233 rfl rfl (by omega) (by omega)
                      refine lv_iconst (v := 1) hx hb dX12_sums__156 (by decide) ?_
                      refine lv_iadd hx hb dX12_sums__157 ?_
                      refine lv_topi (fun x234 ex234 => ?_)
                      have tx234 : x234.toInt = x233.toInt + 1 := z_tadd ex234 rfl z_l1 (by omega) (by omega)
                      refine z_cl hW hS hA (va_runV (As := [.int x234]) (rest := []) ⟨hx, hb, hml, hown, hts⟩ (sx_X12_highOf_u l G ad I J ⟨(by show 0 ≤ (I 0 0).toInt ∧ (I 0 0).toInt ≤ 719; exact hma.1), (by show 0 ≤ (I 0 1).toInt ∧ (I 0 1).toInt ≤ 30; exact hma.2.1), (by show 0 ≤ (I 0 2).toInt ∧ (I 0 2).toInt ≤ 200; exact hma.2.2)⟩ ⟨(by show 0 ≤ (I 0 13).toInt ∧ (I 0 13).toInt ≤ 12; exact hmb.1), (by show 0 ≤ (I 0 14).toInt ∧ (I 0 14).toInt ≤ 288; exact hmb.2)⟩ hAtf hAtm x234 hab (by omega) (by have c1 := z_clt (x := a1) rfl (by omega); have c2 := z_clt (x := a2) rfl (by omega); have c3 := z_clt (x := a3) rfl (by omega); have c4 := z_clt (x := x234) rfl (by omega); rw [show x234.toNatClampNeg = 30 * a1.toNatClampNeg + (y36.toNatClampNeg + 1) by omega]; exact ⟨hTo a1.toNatClampNeg (by omega) (y36.toNatClampNeg + 1) (by omega), hDm a1.toNatClampNeg (by omega) (y36.toNatClampNeg + 1) (by omega)⟩) _) (cwV 1 hts gX12_sums__X12_highOf rfl rfl rfl (by decide +kernel) ⟨Nat.le_of_ble_eq_true rfl, Nat.le_of_ble_eq_true rfl⟩) (z_preV (i := 0) hK hW rfl rfl) rfl rfl hl.1 rfl (lv_room (Nat.le_of_ble_eq_true rfl)) dX12_sums__158 ⟨Nat.le_of_ble_eq_true rfl, Nat.le_of_ble_eq_true rfl⟩) (fun r u1 H locs hp hW hS => ?_)
                      obtain ⟨e9, hp⟩ := hp
                      rw [e9] at hW
                      refine lv_topl (fun w235 ew235 => ?_)
                      rw [← ew235] at hp
                      have hb237 := hp.2
                      have hl236 : zu_kh I a1.toNatClampNeg a2.toNatClampNeg ((y36.toInt - a2.toInt).toNat + 1) = w235.toInt := by have c1 := z_clt (x := a1) rfl (by omega); have c2 := z_clt (x := a2) rfl (by omega); have c3 := z_clt (x := a3) rfl (by omega); have c4 := z_clt (x := x234) rfl (by omega); unfold zu_kh; rw [show 30 * a1.toNatClampNeg + (a2.toNatClampNeg + ((y36.toInt - a2.toInt).toNat + 1)) = x234.toNatClampNeg by omega]; exact hp.1.symm
                      refine lv_lload hx hb dX12_sums__161 (lv_at hl 1 rfl) ?_
                      refine W.lcmp hx hb dX12_sums__163 ?_
                      refine lv_topi (fun x238 ex238 => ?_)
                      have tx238 := z_tcmp ex238
                      have h239 := z_tlcmp ex238 rfl tw70
                      refine lv_if_ge (tgt := 180) hx hb dX12_sums__164 (by decide) (fun c240 => ?_) (fun c240 => ?_)
                      · have g241 := z_f_ge rfl z_l0 c240
                        refine lv_iconst (v := 1) hx hb dX12_sums__180 (by decide) ?_
                        refine lv_istore (lv' := [(12, .int 1), (6, .long w193), (10, .long w70), (13, .long w68), (16, .long w65), (15, .int y36), (8, .long w40), (5, .int x26), (0, .ref (ad 0)), (1, .int a1), (2, .int a2), (3, .int a3), (4, .int a4)]) hx hb dX12_sums__181 hl (by decide) rfl (fun ls hl => ?_)
                        refine lv_lload hx hb dX12_sums__183 (lv_at hl 1 rfl) ?_
                        refine lv_aload_n hx hb dX12_sums__185 rfl (lv_at hl 8 rfl) ?_
                        refine lv_iload hx hb dX12_sums__186 (lv_at hl 7 rfl) ?_
                        refine lv_iload hx hb dX12_sums__188 (lv_at hl 5 rfl) ?_
                        refine lv_iadd hx hb dX12_sums__190 ?_
                        refine lv_topi (fun x242 ex242 => ?_)
                        have tx242 : x242.toInt = x26.toInt + y36.toInt := z_tadd ex242 rfl rfl (by omega) (by omega)
                        refine lv_iconst (v := 1) hx hb dX12_sums__191 (by decide) ?_
                        refine lv_iadd hx hb dX12_sums__192 ?_
                        refine lv_topi (fun x243 ex243 => ?_)
                        have tx243 : x243.toInt = x242.toInt + 1 := z_tadd ex243 rfl z_l1 (by omega) (by omega)
                        refine z_cl hW hS hA (va_runV (As := [.int x243]) (rest := [.long w193]) ⟨hx, hb, hml, hown, hts⟩ (sx_X12_lowOf_u l G ad I J ⟨(by show 0 ≤ (I 0 0).toInt ∧ (I 0 0).toInt ≤ 719; exact hma.1), (by show 0 ≤ (I 0 1).toInt ∧ (I 0 1).toInt ≤ 30; exact hma.2.1), (by show 0 ≤ (I 0 2).toInt ∧ (I 0 2).toInt ≤ 200; exact hma.2.2)⟩ ⟨(by show 0 ≤ (I 0 13).toInt ∧ (I 0 13).toInt ≤ 12; exact hmb.1), (by show 0 ≤ (I 0 14).toInt ∧ (I 0 14).toInt ≤ 288; exact hmb.2)⟩ hAtf hAtm x243 hab (by omega) (by have c1 := z_clt (x := a1) rfl (by omega); have c2 := z_clt (x := a2) rfl (by omega); have c3 := z_clt (x := a3) rfl (by omega); have c4 := z_clt (x := x243) rfl (by omega); rw [show x243.toNatClampNeg = 30 * a1.toNatClampNeg + (y36.toNatClampNeg + 1) by omega]; exact ⟨hTo a1.toNatClampNeg (by omega) (y36.toNatClampNeg + 1) (by omega), hDm a1.toNatClampNeg (by omega) (y36.toNatClampNeg + 1) (by omega)⟩) _) (cwV 1 hts gX12_sums__X12_lowOf rfl rfl rfl (by decide +kernel) ⟨Nat.le_of_ble_eq_true rfl, Nat.le_of_ble_eq_true rfl⟩) (z_preV (i := 0) hK hW rfl rfl) rfl rfl hl.1 rfl (lv_room (Nat.le_of_ble_eq_true rfl)) dX12_sums__193 ⟨Nat.le_of_ble_eq_true rfl, Nat.le_of_ble_eq_true rfl⟩) (fun r u1 H locs hp hW hS => ?_)
                        obtain ⟨e9, hp⟩ := hp
                        rw [e9] at hW
                        refine lv_topl (fun w244 ew244 => ?_)
                        rw [← ew244] at hp
                        have hb246 := hp.2
                        have hl245 : zu_kl I a1.toNatClampNeg a2.toNatClampNeg ((y36.toInt - a2.toInt).toNat + 1) = w244.toInt := by have c1 := z_clt (x := a1) rfl (by omega); have c2 := z_clt (x := a2) rfl (by omega); have c3 := z_clt (x := a3) rfl (by omega); have c4 := z_clt (x := x243) rfl (by omega); unfold zu_kl; rw [show 30 * a1.toNatClampNeg + (a2.toNatClampNeg + ((y36.toInt - a2.toInt).toNat + 1)) = x243.toNatClampNeg by omega]; exact hp.1.symm
                        refine W.lcmp hx hb dX12_sums__196 ?_
                        refine lv_topi (fun x247 ex247 => ?_)
                        have tx247 := z_tcmp ex247
                        have h248 := z_tlcmp ex247 rfl rfl
                        refine lv_if_ge (tgt := 204) hx hb dX12_sums__197 (by decide) (fun c249 => ?_) (fun c249 => ?_)
                        · have g250 := z_f_ge rfl z_l0 c249
                          refine lv_aload_n hx hb dX12_sums__204 rfl (lv_at hl 8 rfl) ?_
                          refine lv_iload hx hb dX12_sums__205 (lv_at hl 7 rfl) ?_
                          refine lv_iload hx hb dX12_sums__207 (lv_at hl 5 rfl) ?_
                          refine lv_iadd hx hb dX12_sums__209 ?_
                          refine lv_topi (fun x251 ex251 => ?_)
                          have tx251 : x251.toInt = x26.toInt + y36.toInt := z_tadd ex251 rfl rfl (by omega) (by omega)
                          refine lv_iconst (v := 1) hx hb dX12_sums__210 (by decide) ?_
                          refine lv_iadd hx hb dX12_sums__211 ?_
                          refine lv_topi (fun x252 ex252 => ?_)
                          have tx252 : x252.toInt = x251.toInt + 1 := z_tadd ex252 rfl z_l1 (by omega) (by omega)
                          refine z_cl hW hS hA (va_runV (As := [.int x252]) (rest := []) ⟨hx, hb, hml, hown, hts⟩ (sx_X12_lowOf_u l G ad I J ⟨(by show 0 ≤ (I 0 0).toInt ∧ (I 0 0).toInt ≤ 719; exact hma.1), (by show 0 ≤ (I 0 1).toInt ∧ (I 0 1).toInt ≤ 30; exact hma.2.1), (by show 0 ≤ (I 0 2).toInt ∧ (I 0 2).toInt ≤ 200; exact hma.2.2)⟩ ⟨(by show 0 ≤ (I 0 13).toInt ∧ (I 0 13).toInt ≤ 12; exact hmb.1), (by show 0 ≤ (I 0 14).toInt ∧ (I 0 14).toInt ≤ 288; exact hmb.2)⟩ hAtf hAtm x252 hab (by omega) (by have c1 := z_clt (x := a1) rfl (by omega); have c2 := z_clt (x := a2) rfl (by omega); have c3 := z_clt (x := a3) rfl (by omega); have c4 := z_clt (x := x252) rfl (by omega); rw [show x252.toNatClampNeg = 30 * a1.toNatClampNeg + (y36.toNatClampNeg + 1) by omega]; exact ⟨hTo a1.toNatClampNeg (by omega) (y36.toNatClampNeg + 1) (by omega), hDm a1.toNatClampNeg (by omega) (y36.toNatClampNeg + 1) (by omega)⟩) _) (cwV 1 hts gX12_sums__X12_lowOf rfl rfl rfl (by decide +kernel) ⟨Nat.le_of_ble_eq_true rfl, Nat.le_of_ble_eq_true rfl⟩) (z_preV (i := 0) hK hW rfl rfl) rfl rfl hl.1 rfl (lv_room (Nat.le_of_ble_eq_true rfl)) dX12_sums__212 ⟨Nat.le_of_ble_eq_true rfl, Nat.le_of_ble_eq_true rfl⟩) (fun r u1 H locs hp hW hS => ?_)
                          obtain ⟨e9, hp⟩ := hp
                          rw [e9] at hW
                          refine lv_topl (fun w253 ew253 => ?_)
                          rw [← ew253] at hp
                          have hb255 := hp.2
                          have hl254 : zu_kl I a1.toNatClampNeg a2.toNatClampNeg ((y36.toInt - a2.toInt).toNat + 1) = w253.toInt := by have c1 := z_clt (x := a1) rfl (by omega); have c2 := z_clt (x := a2) rfl (by omega); have c3 := z_clt (x := a3) rfl (by omega); have c4 := z_clt (x := x252) rfl (by omega); unfold zu_kl; rw [show 30 * a1.toNatClampNeg + (a2.toNatClampNeg + ((y36.toInt - a2.toInt).toNat + 1)) = x252.toNatClampNeg by omega]; exact hp.1.symm
                          refine lv_lload hx hb dX12_sums__215 (lv_at hl 3 rfl) ?_
                          refine lv_lsub hx hb dX12_sums__217 ?_
                          refine lv_topl (fun w256 ew256 => ?_)
                          have tw256 : w256.toInt = w253.toInt - (w37.toInt + w65.toInt) := z_tlsub ew256 rfl tw68 (by omega) (by omega)
                          refine lv_lload hx hb dX12_sums__218 (lv_at hl 6 rfl) ?_
                          refine W.lcmp hx hb dX12_sums__220 ?_
                          refine lv_topi (fun x257 ex257 => ?_)
                          have tx257 := z_tcmp ex257
                          have h258 := z_tlcmp ex257 tw256 rfl
                          refine lv_if_le (tgt := 240) hx hb dX12_sums__221 (by decide) (fun c259 => ?_) (fun c259 => ?_)
                          · have g260 := z_f_le rfl z_l0 c259
                            obtain ⟨x261, ex261⟩ : ∃ y : Int32, y = y36 + 1 := ⟨_, rfl⟩
                            have tx261 : x261.toInt = y36.toInt + 1 := z_tadd ex261 rfl z_l1 (by omega) (by omega)
                            refine lv_iinc (v := x261) (lv' := [(15, .int x261), (12, .int 1), (6, .long w193), (10, .long w70), (13, .long w68), (16, .long w65), (8, .long w40), (5, .int x26), (0, .ref (ad 0)), (1, .int a1), (2, .int a2), (3, .int a3), (4, .int a4)]) hx hb dX12_sums__240 hl (k := 5) rfl (by rw [ex261]; rfl) (by decide) rfl (fun ls hl => ?_)
                            refine lv_goto (tgt := 79) hx hb dX12_sums__243 (by decide) ?_
                            exact lp35ih x261 w68 (1) w70 w40 w193 _ _ _ (by omega) (by omega) (by omega) (by rw [z_l1]; omega) (by rw [z_l1]; omega) (by omega) (by have q9 := lp35S; obtain ⟨⟨s1, s2, s3⟩, ⟨s4, s5, s6⟩, ⟨s7, s8, s9⟩, ⟨t1, t2, t3⟩, t4, t5, t6⟩ := q9; have q1 := z_l1; have q0 := z_l0; exact ⟨⟨by rw [show (x261.toInt - a2.toInt).toNat = (y36.toInt - a2.toInt).toNat + 1 by omega, zu_s_s, hJ66]; omega, by omega, by omega⟩, ⟨by rw [show (x261.toInt - a2.toInt).toNat = (y36.toInt - a2.toInt).toNat + 1 by omega, zu_H, hJ66]; omega, by omega, by omega⟩, ⟨by rw [show (x261.toInt - a2.toInt).toNat = (y36.toInt - a2.toInt).toNat + 1 by omega, zu_L, zu_s_s, hJ66]; omega, by omega, by omega⟩, ⟨by rw [show (x261.toInt - a2.toInt).toNat = (y36.toInt - a2.toInt).toNat + 1 by omega, zu_Z_s, hJ66]; split <;> omega, by omega, by omega⟩, by omega, by omega, by omega⟩) (fun q h1 h2 => by have q9 := lp35S; obtain ⟨_, ⟨s4, _⟩, _⟩ := q9; by_cases e : q = (y36.toInt - a2.toInt).toNat + 1; (· rw [e, zu_H, hJ66]; omega); (· exact lp35K q h1 (by omega))) hW hS (lv_sub hl [0, 4, 1, 3, 6, 2, 7, 8, 9, 10, 11, 12] rfl)
                          · have g262 := z_f_nle rfl z_l0 c259
                            refine lv_aload_n hx hb dX12_sums__224 rfl (lv_at hl 8 rfl) ?_
                            refine lv_iload hx hb dX12_sums__225 (lv_at hl 7 rfl) ?_
                            refine lv_iload hx hb dX12_sums__227 (lv_at hl 5 rfl) ?_
                            refine lv_iadd hx hb dX12_sums__229 ?_
                            refine lv_topi (fun x263 ex263 => ?_)
                            have tx263 : x263.toInt = x26.toInt + y36.toInt := z_tadd ex263 rfl rfl (by omega) (by omega)
                            refine lv_iconst (v := 1) hx hb dX12_sums__230 (by decide) ?_
                            refine lv_iadd hx hb dX12_sums__231 ?_
                            refine lv_topi (fun x264 ex264 => ?_)
                            have tx264 : x264.toInt = x263.toInt + 1 := z_tadd ex264 rfl z_l1 (by omega) (by omega)
                            refine z_cl hW hS hA (va_runV (As := [.int x264]) (rest := []) ⟨hx, hb, hml, hown, hts⟩ (sx_X12_lowOf_u l G ad I J ⟨(by show 0 ≤ (I 0 0).toInt ∧ (I 0 0).toInt ≤ 719; exact hma.1), (by show 0 ≤ (I 0 1).toInt ∧ (I 0 1).toInt ≤ 30; exact hma.2.1), (by show 0 ≤ (I 0 2).toInt ∧ (I 0 2).toInt ≤ 200; exact hma.2.2)⟩ ⟨(by show 0 ≤ (I 0 13).toInt ∧ (I 0 13).toInt ≤ 12; exact hmb.1), (by show 0 ≤ (I 0 14).toInt ∧ (I 0 14).toInt ≤ 288; exact hmb.2)⟩ hAtf hAtm x264 hab (by omega) (by have c1 := z_clt (x := a1) rfl (by omega); have c2 := z_clt (x := a2) rfl (by omega); have c3 := z_clt (x := a3) rfl (by omega); have c4 := z_clt (x := x264) rfl (by omega); rw [show x264.toNatClampNeg = 30 * a1.toNatClampNeg + (y36.toNatClampNeg + 1) by omega]; exact ⟨hTo a1.toNatClampNeg (by omega) (y36.toNatClampNeg + 1) (by omega), hDm a1.toNatClampNeg (by omega) (y36.toNatClampNeg + 1) (by omega)⟩) _) (cwV 1 hts gX12_sums__X12_lowOf rfl rfl rfl (by decide +kernel) ⟨Nat.le_of_ble_eq_true rfl, Nat.le_of_ble_eq_true rfl⟩) (z_preV (i := 0) hK hW rfl rfl) rfl rfl hl.1 rfl (lv_room (Nat.le_of_ble_eq_true rfl)) dX12_sums__232 ⟨Nat.le_of_ble_eq_true rfl, Nat.le_of_ble_eq_true rfl⟩) (fun r u1 H locs hp hW hS => ?_)
                            obtain ⟨e9, hp⟩ := hp
                            rw [e9] at hW
                            refine lv_topl (fun w265 ew265 => ?_)
                            rw [← ew265] at hp
                            have hb267 := hp.2
                            have hl266 : zu_kl I a1.toNatClampNeg a2.toNatClampNeg ((y36.toInt - a2.toInt).toNat + 1) = w265.toInt := by have c1 := z_clt (x := a1) rfl (by omega); have c2 := z_clt (x := a2) rfl (by omega); have c3 := z_clt (x := a3) rfl (by omega); have c4 := z_clt (x := x264) rfl (by omega); unfold zu_kl; rw [show 30 * a1.toNatClampNeg + (a2.toNatClampNeg + ((y36.toInt - a2.toInt).toNat + 1)) = x264.toNatClampNeg by omega]; exact hp.1.symm
                            refine lv_lload hx hb dX12_sums__235 (lv_at hl 3 rfl) ?_
                            refine lv_lsub hx hb dX12_sums__237 ?_
                            refine lv_topl (fun w268 ew268 => ?_)
                            have tw268 : w268.toInt = w265.toInt - (w37.toInt + w65.toInt) := z_tlsub ew268 rfl tw68 (by omega) (by omega)
                            refine lv_lstore (lv' := [(8, .long w268), (12, .int 1), (6, .long w193), (10, .long w70), (13, .long w68), (16, .long w65), (15, .int y36), (5, .int x26), (0, .ref (ad 0)), (1, .int a1), (2, .int a2), (3, .int a3), (4, .int a4)]) hx hb dX12_sums__238 hl (by decide) rfl (fun ls hl => ?_)
                            obtain ⟨x269, ex269⟩ : ∃ y : Int32, y = y36 + 1 := ⟨_, rfl⟩
                            have tx269 : x269.toInt = y36.toInt + 1 := z_tadd ex269 rfl z_l1 (by omega) (by omega)
                            refine lv_iinc (v := x269) (lv' := [(15, .int x269), (8, .long w268), (12, .int 1), (6, .long w193), (10, .long w70), (13, .long w68), (16, .long w65), (5, .int x26), (0, .ref (ad 0)), (1, .int a1), (2, .int a2), (3, .int a3), (4, .int a4)]) hx hb dX12_sums__240 hl (k := 6) rfl (by rw [ex269]; rfl) (by decide) rfl (fun ls hl => ?_)
                            refine lv_goto (tgt := 79) hx hb dX12_sums__243 (by decide) ?_
                            exact lp35ih x269 w68 (1) w70 w268 w193 _ _ _ (by omega) (by omega) (by omega) (by rw [z_l1]; omega) (by rw [z_l1]; omega) (by omega) (by have q9 := lp35S; obtain ⟨⟨s1, s2, s3⟩, ⟨s4, s5, s6⟩, ⟨s7, s8, s9⟩, ⟨t1, t2, t3⟩, t4, t5, t6⟩ := q9; have q1 := z_l1; have q0 := z_l0; exact ⟨⟨by rw [show (x269.toInt - a2.toInt).toNat = (y36.toInt - a2.toInt).toNat + 1 by omega, zu_s_s, hJ66]; omega, by omega, by omega⟩, ⟨by rw [show (x269.toInt - a2.toInt).toNat = (y36.toInt - a2.toInt).toNat + 1 by omega, zu_H, hJ66]; omega, by omega, by omega⟩, ⟨by rw [show (x269.toInt - a2.toInt).toNat = (y36.toInt - a2.toInt).toNat + 1 by omega, zu_L, zu_s_s, hJ66]; omega, by omega, by omega⟩, ⟨by rw [show (x269.toInt - a2.toInt).toNat = (y36.toInt - a2.toInt).toNat + 1 by omega, zu_Z_s, hJ66]; split <;> omega, by omega, by omega⟩, by omega, by omega, by omega⟩) (fun q h1 h2 => by have q9 := lp35S; obtain ⟨_, ⟨s4, _⟩, _⟩ := q9; by_cases e : q = (y36.toInt - a2.toInt).toNat + 1; (· rw [e, zu_H, hJ66]; omega); (· exact lp35K q h1 (by omega))) hW hS (lv_sub hl [0, 5, 2, 4, 1, 3, 7, 8, 9, 10, 11, 12] rfl)
                        · have g270 := z_f_nge rfl z_l0 c249
                          refine lv_ldc2 (v := (-3)) hx hb hown (hts (.constantLong RX12 490 (-3)) (me_s (me_l (me_l (List.mem_of_getElem? (i := 2) rfl))))) dX12_sums__200 ?_
                          exact z_lret hx hb hr hK hS (Nat.le_of_ble_eq_true rfl) (Nat.le_of_ble_eq_true rfl) hlocks dX12_sums__203 (shM, ad, I, J, PM ad) hW ⟨rfl, (Or.inl ⟨by omega, Or.inl ⟨fun ok => absurd (ok ((y36.toInt - a2.toInt).toNat + 1) (by omega) (by have c1 := z_clt (x := a1) rfl (by omega); have c2 := z_clt (x := a2) rfl (by omega); have c3 := z_clt (x := a3) rfl (by omega); have q9 := lp35S; omega)) (by have q9 := lp35S; obtain ⟨_, ⟨s4, _⟩, _⟩ := q9; rw [zu_H, hJ66]; omega), by decide⟩⟩)⟩
                      · have g271 := z_f_nge rfl z_l0 c240
                        refine lv_aload_n hx hb dX12_sums__167 rfl (lv_at hl 8 rfl) ?_
                        refine lv_iload hx hb dX12_sums__168 (lv_at hl 7 rfl) ?_
                        refine lv_iload hx hb dX12_sums__170 (lv_at hl 4 rfl) ?_
                        refine lv_iadd hx hb dX12_sums__172 ?_
                        refine lv_topi (fun x272 ex272 => ?_)
                        have tx272 : x272.toInt = x26.toInt + y36.toInt := z_tadd ex272 rfl rfl (by omega) (by omega)
                        refine lv_iconst (v := 1) hx hb dX12_sums__173 (by decide) ?_
                        refine lv_iadd hx hb dX12_sums__174 ?_
                        refine lv_topi (fun x273 ex273 => ?_)
                        have tx273 : x273.toInt = x272.toInt + 1 := z_tadd ex273 rfl z_l1 (by omega) (by omega)
                        refine z_cl hW hS hA (va_runV (As := [.int x273]) (rest := []) ⟨hx, hb, hml, hown, hts⟩ (sx_X12_highOf_u l G ad I J ⟨(by show 0 ≤ (I 0 0).toInt ∧ (I 0 0).toInt ≤ 719; exact hma.1), (by show 0 ≤ (I 0 1).toInt ∧ (I 0 1).toInt ≤ 30; exact hma.2.1), (by show 0 ≤ (I 0 2).toInt ∧ (I 0 2).toInt ≤ 200; exact hma.2.2)⟩ ⟨(by show 0 ≤ (I 0 13).toInt ∧ (I 0 13).toInt ≤ 12; exact hmb.1), (by show 0 ≤ (I 0 14).toInt ∧ (I 0 14).toInt ≤ 288; exact hmb.2)⟩ hAtf hAtm x273 hab (by omega) (by have c1 := z_clt (x := a1) rfl (by omega); have c2 := z_clt (x := a2) rfl (by omega); have c3 := z_clt (x := a3) rfl (by omega); have c4 := z_clt (x := x273) rfl (by omega); rw [show x273.toNatClampNeg = 30 * a1.toNatClampNeg + (y36.toNatClampNeg + 1) by omega]; exact ⟨hTo a1.toNatClampNeg (by omega) (y36.toNatClampNeg + 1) (by omega), hDm a1.toNatClampNeg (by omega) (y36.toNatClampNeg + 1) (by omega)⟩) _) (cwV 1 hts gX12_sums__X12_highOf rfl rfl rfl (by decide +kernel) ⟨Nat.le_of_ble_eq_true rfl, Nat.le_of_ble_eq_true rfl⟩) (z_preV (i := 0) hK hW rfl rfl) rfl rfl hl.1 rfl (lv_room (Nat.le_of_ble_eq_true rfl)) dX12_sums__175 ⟨Nat.le_of_ble_eq_true rfl, Nat.le_of_ble_eq_true rfl⟩) (fun r u1 H locs hp hW hS => ?_)
                        obtain ⟨e9, hp⟩ := hp
                        rw [e9] at hW
                        refine lv_topl (fun w274 ew274 => ?_)
                        rw [← ew274] at hp
                        have hb276 := hp.2
                        have hl275 : zu_kh I a1.toNatClampNeg a2.toNatClampNeg ((y36.toInt - a2.toInt).toNat + 1) = w274.toInt := by have c1 := z_clt (x := a1) rfl (by omega); have c2 := z_clt (x := a2) rfl (by omega); have c3 := z_clt (x := a3) rfl (by omega); have c4 := z_clt (x := x273) rfl (by omega); unfold zu_kh; rw [show 30 * a1.toNatClampNeg + (a2.toNatClampNeg + ((y36.toInt - a2.toInt).toNat + 1)) = x273.toNatClampNeg by omega]; exact hp.1.symm
                        refine lv_lstore (lv' := [(10, .long w274), (6, .long w193), (13, .long w68), (16, .long w65), (15, .int y36), (12, .int y38), (8, .long w40), (5, .int x26), (0, .ref (ad 0)), (1, .int a1), (2, .int a2), (3, .int a3), (4, .int a4)]) hx hb dX12_sums__178 hl (by decide) rfl (fun ls hl => ?_)
                        refine lv_iconst (v := 1) hx hb dX12_sums__180 (by decide) ?_
                        refine lv_istore (lv' := [(12, .int 1), (10, .long w274), (6, .long w193), (13, .long w68), (16, .long w65), (15, .int y36), (8, .long w40), (5, .int x26), (0, .ref (ad 0)), (1, .int a1), (2, .int a2), (3, .int a3), (4, .int a4)]) hx hb dX12_sums__181 hl (by decide) rfl (fun ls hl => ?_)
                        refine lv_lload hx hb dX12_sums__183 (lv_at hl 2 rfl) ?_
                        refine lv_aload_n hx hb dX12_sums__185 rfl (lv_at hl 8 rfl) ?_
                        refine lv_iload hx hb dX12_sums__186 (lv_at hl 7 rfl) ?_
                        refine lv_iload hx hb dX12_sums__188 (lv_at hl 5 rfl) ?_
                        refine lv_iadd hx hb dX12_sums__190 ?_
                        refine lv_topi (fun x277 ex277 => ?_)
                        have tx277 : x277.toInt = x26.toInt + y36.toInt := z_tadd ex277 rfl rfl (by omega) (by omega)
                        refine lv_iconst (v := 1) hx hb dX12_sums__191 (by decide) ?_
                        refine lv_iadd hx hb dX12_sums__192 ?_
                        refine lv_topi (fun x278 ex278 => ?_)
                        have tx278 : x278.toInt = x277.toInt + 1 := z_tadd ex278 rfl z_l1 (by omega) (by omega)
                        refine z_cl hW hS hA (va_runV (As := [.int x278]) (rest := [.long w193]) ⟨hx, hb, hml, hown, hts⟩ (sx_X12_lowOf_u l G ad I J ⟨(by show 0 ≤ (I 0 0).toInt ∧ (I 0 0).toInt ≤ 719; exact hma.1), (by show 0 ≤ (I 0 1).toInt ∧ (I 0 1).toInt ≤ 30; exact hma.2.1), (by show 0 ≤ (I 0 2).toInt ∧ (I 0 2).toInt ≤ 200; exact hma.2.2)⟩ ⟨(by show 0 ≤ (I 0 13).toInt ∧ (I 0 13).toInt ≤ 12; exact hmb.1), (by show 0 ≤ (I 0 14).toInt ∧ (I 0 14).toInt ≤ 288; exact hmb.2)⟩ hAtf hAtm x278 hab (by omega) (by have c1 := z_clt (x := a1) rfl (by omega); have c2 := z_clt (x := a2) rfl (by omega); have c3 := z_clt (x := a3) rfl (by omega); have c4 := z_clt (x := x278) rfl (by omega); rw [show x278.toNatClampNeg = 30 * a1.toNatClampNeg + (y36.toNatClampNeg + 1) by omega]; exact ⟨hTo a1.toNatClampNeg (by omega) (y36.toNatClampNeg + 1) (by omega), hDm a1.toNatClampNeg (by omega) (y36.toNatClampNeg + 1) (by omega)⟩) _) (cwV 1 hts gX12_sums__X12_lowOf rfl rfl rfl (by decide +kernel) ⟨Nat.le_of_ble_eq_true rfl, Nat.le_of_ble_eq_true rfl⟩) (z_preV (i := 0) hK hW rfl rfl) rfl rfl hl.1 rfl (lv_room (Nat.le_of_ble_eq_true rfl)) dX12_sums__193 ⟨Nat.le_of_ble_eq_true rfl, Nat.le_of_ble_eq_true rfl⟩) (fun r u1 H locs hp hW hS => ?_)
                        obtain ⟨e9, hp⟩ := hp
                        rw [e9] at hW
                        refine lv_topl (fun w279 ew279 => ?_)
                        rw [← ew279] at hp
                        have hb281 := hp.2
                        have hl280 : zu_kl I a1.toNatClampNeg a2.toNatClampNeg ((y36.toInt - a2.toInt).toNat + 1) = w279.toInt := by have c1 := z_clt (x := a1) rfl (by omega); have c2 := z_clt (x := a2) rfl (by omega); have c3 := z_clt (x := a3) rfl (by omega); have c4 := z_clt (x := x278) rfl (by omega); unfold zu_kl; rw [show 30 * a1.toNatClampNeg + (a2.toNatClampNeg + ((y36.toInt - a2.toInt).toNat + 1)) = x278.toNatClampNeg by omega]; exact hp.1.symm
                        refine W.lcmp hx hb dX12_sums__196 ?_
                        refine lv_topi (fun x282 ex282 => ?_)
                        have tx282 := z_tcmp ex282
                        have h283 := z_tlcmp ex282 rfl rfl
                        refine lv_if_ge (tgt := 204) hx hb dX12_sums__197 (by decide) (fun c284 => ?_) (fun c284 => ?_)
                        · have g285 := z_f_ge rfl z_l0 c284
                          refine lv_aload_n hx hb dX12_sums__204 rfl (lv_at hl 8 rfl) ?_
                          refine lv_iload hx hb dX12_sums__205 (lv_at hl 7 rfl) ?_
                          refine lv_iload hx hb dX12_sums__207 (lv_at hl 5 rfl) ?_
                          refine lv_iadd hx hb dX12_sums__209 ?_
                          refine lv_topi (fun x286 ex286 => ?_)
                          have tx286 : x286.toInt = x26.toInt + y36.toInt := z_tadd ex286 rfl rfl (by omega) (by omega)
                          refine lv_iconst (v := 1) hx hb dX12_sums__210 (by decide) ?_
                          refine lv_iadd hx hb dX12_sums__211 ?_
                          refine lv_topi (fun x287 ex287 => ?_)
                          have tx287 : x287.toInt = x286.toInt + 1 := z_tadd ex287 rfl z_l1 (by omega) (by omega)
                          refine z_cl hW hS hA (va_runV (As := [.int x287]) (rest := []) ⟨hx, hb, hml, hown, hts⟩ (sx_X12_lowOf_u l G ad I J ⟨(by show 0 ≤ (I 0 0).toInt ∧ (I 0 0).toInt ≤ 719; exact hma.1), (by show 0 ≤ (I 0 1).toInt ∧ (I 0 1).toInt ≤ 30; exact hma.2.1), (by show 0 ≤ (I 0 2).toInt ∧ (I 0 2).toInt ≤ 200; exact hma.2.2)⟩ ⟨(by show 0 ≤ (I 0 13).toInt ∧ (I 0 13).toInt ≤ 12; exact hmb.1), (by show 0 ≤ (I 0 14).toInt ∧ (I 0 14).toInt ≤ 288; exact hmb.2)⟩ hAtf hAtm x287 hab (by omega) (by have c1 := z_clt (x := a1) rfl (by omega); have c2 := z_clt (x := a2) rfl (by omega); have c3 := z_clt (x := a3) rfl (by omega); have c4 := z_clt (x := x287) rfl (by omega); rw [show x287.toNatClampNeg = 30 * a1.toNatClampNeg + (y36.toNatClampNeg + 1) by omega]; exact ⟨hTo a1.toNatClampNeg (by omega) (y36.toNatClampNeg + 1) (by omega), hDm a1.toNatClampNeg (by omega) (y36.toNatClampNeg + 1) (by omega)⟩) _) (cwV 1 hts gX12_sums__X12_lowOf rfl rfl rfl (by decide +kernel) ⟨Nat.le_of_ble_eq_true rfl, Nat.le_of_ble_eq_true rfl⟩) (z_preV (i := 0) hK hW rfl rfl) rfl rfl hl.1 rfl (lv_room (Nat.le_of_ble_eq_true rfl)) dX12_sums__212 ⟨Nat.le_of_ble_eq_true rfl, Nat.le_of_ble_eq_true rfl⟩) (fun r u1 H locs hp hW hS => ?_)
                          obtain ⟨e9, hp⟩ := hp
                          rw [e9] at hW
                          refine lv_topl (fun w288 ew288 => ?_)
                          rw [← ew288] at hp
                          have hb290 := hp.2
                          have hl289 : zu_kl I a1.toNatClampNeg a2.toNatClampNeg ((y36.toInt - a2.toInt).toNat + 1) = w288.toInt := by have c1 := z_clt (x := a1) rfl (by omega); have c2 := z_clt (x := a2) rfl (by omega); have c3 := z_clt (x := a3) rfl (by omega); have c4 := z_clt (x := x287) rfl (by omega); unfold zu_kl; rw [show 30 * a1.toNatClampNeg + (a2.toNatClampNeg + ((y36.toInt - a2.toInt).toNat + 1)) = x287.toNatClampNeg by omega]; exact hp.1.symm
                          refine lv_lload hx hb dX12_sums__215 (lv_at hl 3 rfl) ?_
                          refine lv_lsub hx hb dX12_sums__217 ?_
                          refine lv_topl (fun w291 ew291 => ?_)
                          have tw291 : w291.toInt = w288.toInt - (w37.toInt + w65.toInt) := z_tlsub ew291 rfl tw68 (by omega) (by omega)
                          refine lv_lload hx hb dX12_sums__218 (lv_at hl 6 rfl) ?_
                          refine W.lcmp hx hb dX12_sums__220 ?_
                          refine lv_topi (fun x292 ex292 => ?_)
                          have tx292 := z_tcmp ex292
                          have h293 := z_tlcmp ex292 tw291 rfl
                          refine lv_if_le (tgt := 240) hx hb dX12_sums__221 (by decide) (fun c294 => ?_) (fun c294 => ?_)
                          · have g295 := z_f_le rfl z_l0 c294
                            obtain ⟨x296, ex296⟩ : ∃ y : Int32, y = y36 + 1 := ⟨_, rfl⟩
                            have tx296 : x296.toInt = y36.toInt + 1 := z_tadd ex296 rfl z_l1 (by omega) (by omega)
                            refine lv_iinc (v := x296) (lv' := [(15, .int x296), (12, .int 1), (10, .long w274), (6, .long w193), (13, .long w68), (16, .long w65), (8, .long w40), (5, .int x26), (0, .ref (ad 0)), (1, .int a1), (2, .int a2), (3, .int a3), (4, .int a4)]) hx hb dX12_sums__240 hl (k := 5) rfl (by rw [ex296]; rfl) (by decide) rfl (fun ls hl => ?_)
                            refine lv_goto (tgt := 79) hx hb dX12_sums__243 (by decide) ?_
                            exact lp35ih x296 w68 (1) w274 w40 w193 _ _ _ (by omega) (by omega) (by omega) (by rw [z_l1]; omega) (by rw [z_l1]; omega) (by omega) (by have q9 := lp35S; obtain ⟨⟨s1, s2, s3⟩, ⟨s4, s5, s6⟩, ⟨s7, s8, s9⟩, ⟨t1, t2, t3⟩, t4, t5, t6⟩ := q9; have q1 := z_l1; have q0 := z_l0; exact ⟨⟨by rw [show (x296.toInt - a2.toInt).toNat = (y36.toInt - a2.toInt).toNat + 1 by omega, zu_s_s, hJ66]; omega, by omega, by omega⟩, ⟨by rw [show (x296.toInt - a2.toInt).toNat = (y36.toInt - a2.toInt).toNat + 1 by omega, zu_H, hJ66]; omega, by omega, by omega⟩, ⟨by rw [show (x296.toInt - a2.toInt).toNat = (y36.toInt - a2.toInt).toNat + 1 by omega, zu_L, zu_s_s, hJ66]; omega, by omega, by omega⟩, ⟨by rw [show (x296.toInt - a2.toInt).toNat = (y36.toInt - a2.toInt).toNat + 1 by omega, zu_Z_s, hJ66]; split <;> omega, by omega, by omega⟩, by omega, by omega, by omega⟩) (fun q h1 h2 => by have q9 := lp35S; obtain ⟨_, ⟨s4, _⟩, _⟩ := q9; by_cases e : q = (y36.toInt - a2.toInt).toNat + 1; (· rw [e, zu_H, hJ66]; omega); (· exact lp35K q h1 (by omega))) hW hS (lv_sub hl [0, 4, 1, 2, 6, 3, 7, 8, 9, 10, 11, 12] rfl)
                          · have g297 := z_f_nle rfl z_l0 c294
                            refine lv_aload_n hx hb dX12_sums__224 rfl (lv_at hl 8 rfl) ?_
                            refine lv_iload hx hb dX12_sums__225 (lv_at hl 7 rfl) ?_
                            refine lv_iload hx hb dX12_sums__227 (lv_at hl 5 rfl) ?_
                            refine lv_iadd hx hb dX12_sums__229 ?_
                            refine lv_topi (fun x298 ex298 => ?_)
                            have tx298 : x298.toInt = x26.toInt + y36.toInt := z_tadd ex298 rfl rfl (by omega) (by omega)
                            refine lv_iconst (v := 1) hx hb dX12_sums__230 (by decide) ?_
                            refine lv_iadd hx hb dX12_sums__231 ?_
                            refine lv_topi (fun x299 ex299 => ?_)
                            have tx299 : x299.toInt = x298.toInt + 1 := z_tadd ex299 rfl z_l1 (by omega) (by omega)
                            refine z_cl hW hS hA (va_runV (As := [.int x299]) (rest := []) ⟨hx, hb, hml, hown, hts⟩ (sx_X12_lowOf_u l G ad I J ⟨(by show 0 ≤ (I 0 0).toInt ∧ (I 0 0).toInt ≤ 719; exact hma.1), (by show 0 ≤ (I 0 1).toInt ∧ (I 0 1).toInt ≤ 30; exact hma.2.1), (by show 0 ≤ (I 0 2).toInt ∧ (I 0 2).toInt ≤ 200; exact hma.2.2)⟩ ⟨(by show 0 ≤ (I 0 13).toInt ∧ (I 0 13).toInt ≤ 12; exact hmb.1), (by show 0 ≤ (I 0 14).toInt ∧ (I 0 14).toInt ≤ 288; exact hmb.2)⟩ hAtf hAtm x299 hab (by omega) (by have c1 := z_clt (x := a1) rfl (by omega); have c2 := z_clt (x := a2) rfl (by omega); have c3 := z_clt (x := a3) rfl (by omega); have c4 := z_clt (x := x299) rfl (by omega); rw [show x299.toNatClampNeg = 30 * a1.toNatClampNeg + (y36.toNatClampNeg + 1) by omega]; exact ⟨hTo a1.toNatClampNeg (by omega) (y36.toNatClampNeg + 1) (by omega), hDm a1.toNatClampNeg (by omega) (y36.toNatClampNeg + 1) (by omega)⟩) _) (cwV 1 hts gX12_sums__X12_lowOf rfl rfl rfl (by decide +kernel) ⟨Nat.le_of_ble_eq_true rfl, Nat.le_of_ble_eq_true rfl⟩) (z_preV (i := 0) hK hW rfl rfl) rfl rfl hl.1 rfl (lv_room (Nat.le_of_ble_eq_true rfl)) dX12_sums__232 ⟨Nat.le_of_ble_eq_true rfl, Nat.le_of_ble_eq_true rfl⟩) (fun r u1 H locs hp hW hS => ?_)
                            obtain ⟨e9, hp⟩ := hp
                            rw [e9] at hW
                            refine lv_topl (fun w300 ew300 => ?_)
                            rw [← ew300] at hp
                            have hb302 := hp.2
                            have hl301 : zu_kl I a1.toNatClampNeg a2.toNatClampNeg ((y36.toInt - a2.toInt).toNat + 1) = w300.toInt := by have c1 := z_clt (x := a1) rfl (by omega); have c2 := z_clt (x := a2) rfl (by omega); have c3 := z_clt (x := a3) rfl (by omega); have c4 := z_clt (x := x299) rfl (by omega); unfold zu_kl; rw [show 30 * a1.toNatClampNeg + (a2.toNatClampNeg + ((y36.toInt - a2.toInt).toNat + 1)) = x299.toNatClampNeg by omega]; exact hp.1.symm
                            refine lv_lload hx hb dX12_sums__235 (lv_at hl 3 rfl) ?_
                            refine lv_lsub hx hb dX12_sums__237 ?_
                            refine lv_topl (fun w303 ew303 => ?_)
                            have tw303 : w303.toInt = w300.toInt - (w37.toInt + w65.toInt) := z_tlsub ew303 rfl tw68 (by omega) (by omega)
                            refine lv_lstore (lv' := [(8, .long w303), (12, .int 1), (10, .long w274), (6, .long w193), (13, .long w68), (16, .long w65), (15, .int y36), (5, .int x26), (0, .ref (ad 0)), (1, .int a1), (2, .int a2), (3, .int a3), (4, .int a4)]) hx hb dX12_sums__238 hl (by decide) rfl (fun ls hl => ?_)
                            obtain ⟨x304, ex304⟩ : ∃ y : Int32, y = y36 + 1 := ⟨_, rfl⟩
                            have tx304 : x304.toInt = y36.toInt + 1 := z_tadd ex304 rfl z_l1 (by omega) (by omega)
                            refine lv_iinc (v := x304) (lv' := [(15, .int x304), (8, .long w303), (12, .int 1), (10, .long w274), (6, .long w193), (13, .long w68), (16, .long w65), (5, .int x26), (0, .ref (ad 0)), (1, .int a1), (2, .int a2), (3, .int a3), (4, .int a4)]) hx hb dX12_sums__240 hl (k := 6) rfl (by rw [ex304]; rfl) (by decide) rfl (fun ls hl => ?_)
                            refine lv_goto (tgt := 79) hx hb dX12_sums__243 (by decide) ?_
                            exact lp35ih x304 w68 (1) w274 w303 w193 _ _ _ (by omega) (by omega) (by omega) (by rw [z_l1]; omega) (by rw [z_l1]; omega) (by omega) (by have q9 := lp35S; obtain ⟨⟨s1, s2, s3⟩, ⟨s4, s5, s6⟩, ⟨s7, s8, s9⟩, ⟨t1, t2, t3⟩, t4, t5, t6⟩ := q9; have q1 := z_l1; have q0 := z_l0; exact ⟨⟨by rw [show (x304.toInt - a2.toInt).toNat = (y36.toInt - a2.toInt).toNat + 1 by omega, zu_s_s, hJ66]; omega, by omega, by omega⟩, ⟨by rw [show (x304.toInt - a2.toInt).toNat = (y36.toInt - a2.toInt).toNat + 1 by omega, zu_H, hJ66]; omega, by omega, by omega⟩, ⟨by rw [show (x304.toInt - a2.toInt).toNat = (y36.toInt - a2.toInt).toNat + 1 by omega, zu_L, zu_s_s, hJ66]; omega, by omega, by omega⟩, ⟨by rw [show (x304.toInt - a2.toInt).toNat = (y36.toInt - a2.toInt).toNat + 1 by omega, zu_Z_s, hJ66]; split <;> omega, by omega, by omega⟩, by omega, by omega, by omega⟩) (fun q h1 h2 => by have q9 := lp35S; obtain ⟨_, ⟨s4, _⟩, _⟩ := q9; by_cases e : q = (y36.toInt - a2.toInt).toNat + 1; (· rw [e, zu_H, hJ66]; omega); (· exact lp35K q h1 (by omega))) hW hS (lv_sub hl [0, 5, 2, 3, 1, 4, 7, 8, 9, 10, 11, 12] rfl)
                        · have g305 := z_f_nge rfl z_l0 c284
                          refine lv_ldc2 (v := (-3)) hx hb hown (hts (.constantLong RX12 490 (-3)) (me_s (me_l (me_l (List.mem_of_getElem? (i := 2) rfl))))) dX12_sums__200 ?_
                          exact z_lret hx hb hr hK hS (Nat.le_of_ble_eq_true rfl) (Nat.le_of_ble_eq_true rfl) hlocks dX12_sums__203 (shM, ad, I, J, PM ad) hW ⟨rfl, (Or.inl ⟨by omega, Or.inl ⟨fun ok => absurd (ok ((y36.toInt - a2.toInt).toNat + 1) (by omega) (by have c1 := z_clt (x := a1) rfl (by omega); have c2 := z_clt (x := a2) rfl (by omega); have c3 := z_clt (x := a3) rfl (by omega); have q9 := lp35S; omega)) (by have q9 := lp35S; obtain ⟨_, ⟨s4, _⟩, _⟩ := q9; rw [zu_H, hJ66]; omega), by decide⟩⟩)⟩
            exact lp35 4294967296 a2 0 (0) 0 w32 w28 _ _ _ (z_m0u _) (by omega) (by omega) (by rw [z_l0]; omega) (by rw [z_l0]; omega) (by omega) (by have q0 : (0 : Int64).toInt = 0 := (by decide); have q1 := z_l0; exact ⟨⟨by rw [show (a2.toInt - a2.toInt).toNat = 0 by omega]; exact q0, by omega, by omega⟩, ⟨by rw [show (a2.toInt - a2.toInt).toNat = 0 by omega]; show _ = zu_kh I a1.toNatClampNeg a2.toNatClampNeg 0; omega, by omega, by omega⟩, ⟨by rw [show (a2.toInt - a2.toInt).toNat = 0 by omega]; show _ = zu_kl I a1.toNatClampNeg a2.toNatClampNeg 0; omega, by omega, by omega⟩, ⟨by rw [show (a2.toInt - a2.toInt).toNat = 0 by omega]; exact q0, by omega, by omega⟩, by omega, by omega, by omega⟩) (fun q h1 h2 => absurd h2 (by omega)) hW hS (lv_sub hl [0, 1, 2, 3, 4, 5, 6, 7, 8, 9, 10, 11] rfl)
          · have h306 := h21
            have z307 := z_l0
            have z308 := z_l1
            refine lv_if_ne (tgt := 41) hx hb dX12_sums__34 (by decide) (fun c309 => absurd (by decide) c309) (fun c309 => ?_)
            refine lv_ldc2 (v := (-1)) hx hb hown (hts (.constantLong RX12 269 (-1)) (me_s (me_l (me_l (List.mem_of_getElem? (i := 1) rfl))))) dX12_sums__37 ?_
            exact z_lret hx hb hr hK hS (Nat.le_of_ble_eq_true rfl) (Nat.le_of_ble_eq_true rfl) hlocks dX12_sums__40 (shM, ad, I, J, PM ad) hW ⟨rfl, (Or.inr ⟨by omega, by decide⟩)⟩
  · have h310 := h1
    have r311 : 0 ≤ (I 0 54).toInt ∧ (I 0 54).toInt ≤ 10 := hms.1
    refine lv_if_eq (tgt := 37) hx hb dX12_sums__5 (by decide) (fun c312 => ?_) (fun c312 => absurd (by decide) c312)
    refine lv_ldc2 (v := (-1)) hx hb hown (hts (.constantLong RX12 269 (-1)) (me_s (me_l (me_l (List.mem_of_getElem? (i := 1) rfl))))) dX12_sums__37 ?_
    exact z_lret hx hb hr hK hS (Nat.le_of_ble_eq_true rfl) (Nat.le_of_ble_eq_true rfl) hlocks dX12_sums__40 (shM, ad, I, J, PM ad) hW ⟨rfl, (Or.inr ⟨by omega, by decide⟩)⟩

end SG60zj
