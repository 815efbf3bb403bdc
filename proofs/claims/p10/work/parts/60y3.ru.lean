

/-! which ORDERS are in force -/
/-- of the first i: b is the one that counts with the latest month, the newest of these; -1: none counts -/
noncomputable def zi_B (mo td : Nat → Int) (m k : Int) (i : Nat) (b : Int) : Prop := (b = -1 ∧ ∀ j, j < i → ¬ (td j ≤ k ∧ mo j ≤ m)) ∨ ∃ q : Nat, b = (q : Int) ∧ q < i ∧ td q ≤ k ∧ mo q ≤ m ∧ ∀ j, j < i → td j ≤ k → mo j ≤ m → mo j ≤ mo q ∧ (mo j = mo q → j ≤ q)
section ZIB
variable {mo td mo1 td1 : Nat → Int} {m k b b1 : Int} {i : Nat}
theorem zi_B_0 : zi_B mo td m k 0 (-1) := Or.inl ⟨rfl, fun j h => absurd h (Nat.not_lt_zero j)⟩
theorem zi_B_no (h : zi_B mo td m k i b) (hn : ¬ (td i ≤ k ∧ mo i ≤ m)) : zi_B mo td m k (i + 1) b := by
  rcases h with ⟨h1, h2⟩ | ⟨q, h1, h2, h3, h4, h5⟩
  · refine Or.inl ⟨h1, fun j hj => ?_⟩
    by_cases e : j = i
    · rw [e]
      exact hn
    · exact h2 j (by omega)
  · refine Or.inr ⟨q, h1, by omega, h3, h4, fun j hj a1 a2 => ?_⟩
    by_cases e : j = i
    · rw [e] at a1 a2
      exact absurd ⟨a1, a2⟩ hn
    · exact h5 j (by omega) a1 a2
theorem zi_B_lo (h : zi_B mo td m k i b) {q : Nat} (hb : b = (q : Int)) (hl : mo i < mo q) : zi_B mo td m k (i + 1) b := by
  rcases h with ⟨h1, h2⟩ | ⟨q1, h1, h2, h3, h4, h5⟩
  · omega
  · have e : q1 = q := by omega
    subst e
    refine Or.inr ⟨q1, h1, by omega, h3, h4, fun j hj a1 a2 => ?_⟩
    by_cases e : j = i
    · rw [e]
      exact ⟨by omega, fun z => by omega⟩
    · exact h5 j (by omega) a1 a2
theorem zi_B_up (h : zi_B mo td m k i b) (h1 : td i ≤ k) (h2 : mo i ≤ m) (hb : b = -1 ∨ ∃ q : Nat, b = (q : Int) ∧ mo q ≤ mo i) (he : b1 = (i : Int)) : zi_B mo td m k (i + 1) b1 := by
  refine Or.inr ⟨i, he, Nat.lt_succ_self i, h1, h2, fun j hj a1 a2 => ?_⟩
  by_cases e : j = i
  · rw [e]
    exact ⟨Int.le_refl _, fun _ => Nat.le_refl _⟩
  · rcases h with ⟨g1, g2⟩ | ⟨q1, g1, g2, g3, g4, g5⟩
    · exact absurd ⟨a1, a2⟩ (g2 j (by omega))
    · have g6 := g5 j (by omega) a1 a2
      rcases hb with q | ⟨q, q2, q3⟩
      · omega
      · have e2 : q1 = q := by omega
        subst e2
        exact ⟨by omega, fun _ => by omega⟩
theorem zi_B_u (h : zi_B mo td m k i b) (h2 : zi_B mo td m k i b1) : b = b1 := by
  rcases h with ⟨a1, a2⟩ | ⟨q, a1, a2, a3, a4, a5⟩ <;> rcases h2 with ⟨c1, c2⟩ | ⟨p, c1, c2, c3, c4, c5⟩
  · omega
  · exact absurd ⟨c3, c4⟩ (a2 p c2)
  · exact absurd ⟨a3, a4⟩ (c2 q a2)
  · have e1 := a5 p c2 c3 c4
    have e2 := c5 q a2 a3 a4
    have e3 : mo p = mo q := by omega
    have e4 := e1.2 e3
    have e5 := e2.2 e3.symm
    omega
theorem zi_B_c (hc : ∀ j, j < i → mo1 j = mo j ∧ td1 j = td j) (h : zi_B mo td m k i b) : zi_B mo1 td1 m k i b := by
  rcases h with ⟨a1, a2⟩ | ⟨q, a1, a2, a3, a4, a5⟩
  · exact Or.inl ⟨a1, fun j hj => by rw [(hc j hj).1, (hc j hj).2]; exact a2 j hj⟩
  · exact Or.inr ⟨q, a1, a2, by rw [(hc q a2).2]; exact a3, by rw [(hc q a2).1]; exact a4, fun j hj b1 b2 => by rw [(hc j hj).1, (hc q a2).1]; rw [(hc j hj).2] at b1; rw [(hc j hj).1] at b2; exact a5 j hj b1 b2⟩
end ZIB
noncomputable def zi_mo (I : z_I) (j : Nat) : Int := (I (200 + 5 * j) 0).toInt
noncomputable def zi_td (I : z_I) (j : Nat) : Int := (I (200 + 5 * j) 1).toInt
noncomputable def zi_km (K : z_I) (j : Nat) : Int := (K 13 j).toInt
noncomputable def zi_kt (K : z_I) (j : Nat) : Int := (K 14 j).toInt
/-- the rows of all ORDERS: the class's copies and the reference's -/
noncomputable def z_OW (c : z_C) (I K : z_I) : Prop := ∀ k, k < c.2.1 → ∃ (rs : List zm_row) (F0 : Nat), zi_mo I k = zi_km K k ∧ 0 ≤ zi_mo I k ∧ zi_td I k = zi_kt K k ∧ 0 ≤ (K 11 k).toInt ∧ (K 12 k).toInt = (rs.length : Int) ∧ c.2.2.1 k = rs.length ∧ (K 11 k).toInt + (rs.length : Int) ≤ (K 0 14).toInt ∧ (F0 : Int) + ((zm_fl rs).length : Int) ≤ (K 0 15).toInt ∧ zm_RS K (K 11 k).toNatClampNeg F0 rs ∧ zm_Q K F0 (zm_fl rs) ∧ ∀ (j : Nat) (s : zp_T), (rs.map Prod.fst)[j]? = some s → zo_row I (200 + 5 * k) (c.2.2.2 k : Int) j s ∧ (302 ≤ s.1 → s.2.2.1 = []) ∧ (303 ≤ s.1 → 0 ≤ s.2.1 ∧ s.2.1 ≤ 999999)
theorem zp_ts_302 {tk va : Nat → Int} : ∀ (ss : List zp_T) (k ke : Nat), zp_ts tk va k ss ke → ∀ (j : Nat) (s : zp_T), ss[j]? = some s → 302 ≤ s.1 → s.2.2.1 = []
  | [], _, _, _, j, s, h, _ => by simp at h
  | x :: xs, k, ke, ht, 0, s, h, h2 => by
    have e : x = s := by simpa using h
    subst e
    obtain ⟨k1, ⟨_, a | a | a⟩, _, _⟩ := ht
    · omega
    · exact a.2.1
    · exact a.2.2.1
  | x :: xs, k, ke, ht, j + 1, s, h, h2 => by
    obtain ⟨k1, _, _, h3⟩ := ht
    exact zp_ts_302 xs _ _ h3 j s (by simpa using h) h2
theorem zp_ts_303 {tk va : Nat → Int} (hva : ∀ k, tk k = 400 → 0 ≤ va k ∧ va k ≤ 999999) : ∀ (ss : List zp_T) (k ke : Nat), zp_ts tk va k ss ke → ∀ (j : Nat) (s : zp_T), ss[j]? = some s → 303 ≤ s.1 → 0 ≤ s.2.1 ∧ s.2.1 ≤ 999999
  | [], _, _, _, j, s, h, _ => by simp at h
  | x :: xs, k, ke, ht, 0, s, h, h2 => by
    have e : x = s := by simpa using h
    subst e
    obtain ⟨k1, ⟨_, a | a | a⟩, _, _⟩ := ht
    · omega
    · omega
    · rw [a.2.2.2.2.2.2.1]
      exact hva _ a.2.2.2.2.1
  | x :: xs, k, ke, ht, j + 1, s, h, h2 => by
    obtain ⟨k1, _, _, h3⟩ := ht
    exact zp_ts_303 hva xs _ _ h3 j s (by simpa using h) h2
theorem zo_row_c {I I1 : z_I} {o j : Nat} {us : Int} {s : zp_T} (hq : ∀ q, q < 4 → ∀ k, I1 (o + 1 + q) k = I (o + 1 + q) k) (h : zo_row I o us j s) : zo_row I1 o us j s := by
  have e1 : ∀ k, I1 (o + 1) k = I (o + 1) k := hq 0 (by decide)
  have e2 : ∀ k, I1 (o + 2) k = I (o + 2) k := hq 1 (by decide)
  have e3 : ∀ k, I1 (o + 3) k = I (o + 3) k := hq 2 (by decide)
  have e4 : ∀ k, I1 (o + 4) k = I (o + 4) k := hq 3 (by decide)
  have e5 : (fun j => (I1 (o + 4) j).toInt) = fun j => (I (o + 4) j).toInt := funext fun k => by rw [e4 k]
  unfold zo_row
  rw [e1, e2, e3, e5]
  exact h
/-- what neither side writes but by orders() -/
theorem z_OW_k {c c1 : z_C} {I I1 K K1 : z_I} (h : z_OW c I K) (hc : c1.2 = c.2) (e1 : ∀ a k, 200 ≤ a → I1 a k = I a k) (e2 : ∀ j, zm_tx K1 K j) (e3 : ∀ j, zm_q6 K1 K j) (e4 : ∀ j, K1 21 j = K 21 j ∧ K1 22 j = K 22 j ∧ K1 23 j = K 23 j) (e5 : K1 0 14 = K 0 14) (e6 : K1 0 15 = K 0 15) : z_OW c1 I1 K1 := fun k hk => by
  rw [hc] at hk
  obtain ⟨rs, F0, h1, h2, h3, h4, h5, h6, h7, h8, h9, h10, h11⟩ := h k hk
  obtain ⟨t1, t2, t3, t4⟩ := e2 k
  refine ⟨rs, F0, ?_, ?_, ?_, by rw [t1]; exact h4, by rw [t2]; exact h5, by rw [hc]; exact h6, by rw [t1, e5]; exact h7, by rw [e6]; exact h8, ?_, zm_Q_c _ _ (fun j _ _ => e4 j) h10, fun j s hj => ?_⟩
  · show (I1 (200 + 5 * k) 0).toInt = (K1 13 k).toInt
    rw [e1 _ _ (by omega), t3]
    exact h1
  · show 0 ≤ (I1 (200 + 5 * k) 0).toInt
    rw [e1 _ _ (by omega)]
    exact h2
  · show (I1 (200 + 5 * k) 1).toInt = (K1 14 k).toInt
    rw [e1 _ _ (by omega), t4]
    exact h3
  · rw [t1]
    exact zm_RS_c _ _ _ (fun j _ _ => e3 j) h9
  · rw [hc]
    exact ⟨zo_row_c (fun q hq k => e1 _ _ (by omega)) (h11 j s hj).1, (h11 j s hj).2⟩
theorem z_OW_mo {c : z_C} {I K : z_I} (h : z_OW c I K) : ∀ j, j < c.2.1 → 0 ≤ (I (200 + 5 * j) 0).toInt := fun j hj => by
  obtain ⟨rs, F0, h1, h2, _⟩ := h j hj
  exact h2
/-- ORDERS more, on both sides -/
theorem z_OW_new {c c1 : z_C} {I I1 K K1 : z_I} {J J1 : z_J} {n mo r r1 : Int} {gt gv : Nat → Int} {gp : Nat → Nat} {n0 st0 x0 : Nat} {ssT : List zp_T} {keT ff : Nat} (h : z_OW c I K) (hl : zo_ln c c1 I K I1 n mo r gt gv gp ssT keT ff) (hm : zm_PO gt gv gp K K1 J J1 n mo r1 n0 st0 x0 ssT keT ff) (hx0 : (K 0 13).toInt = (x0 : Int)) (hs0 : (K 0 14).toInt = (st0 : Int)) (hn0 : (K 0 15).toInt = (n0 : Int)) (hcx : (c.2.1 : Int) = (K 0 13).toInt) (htd : (I 0 0).toInt = (K 0 0).toInt) (hts : zm_ok K n mo → (K 0 13).toInt ≠ 12 → zp_ts gt gv 0 ssT keT) (hva : zm_ok K n mo → (K 0 13).toInt ≠ 12 → ∀ k, gt k = 400 → 0 ≤ gv k ∧ gv k ≤ 999999) : z_OW c1 I1 K1 := by
  rcases hl with ⟨h1, h2, h3, h4⟩ | ⟨h1, h2, h3, h4, h5⟩ | ⟨h1, h2, h3, hfr, h4⟩
  · rcases hm with ⟨m1, m2, m3, m4⟩ | ⟨m1, m2, m3, m4, m5⟩ | ⟨m1, m2, _⟩
    · rw [h4, h3, m3]
      exact h
    · exact absurd m2 h2
    · exact absurd m1 h2
  · rcases hm with ⟨m1, m2, m3, m4⟩ | ⟨m1, m2, m3, m4, m5⟩ | ⟨m1, m2, _⟩
    · exact absurd h2 m2
    · rw [h5, h4, m4]
      exact h
    · exact absurd h3 m2
  · rcases hm with ⟨m1, m2, m3, m4⟩ | ⟨m1, m2, m3, m4, m5⟩ | ⟨m1, m2, m3, m4, m5, m6⟩
    · exact absurd h1 m2
    · exact absurd m3 h2
    · -- the old ones
      have old : ∀ (a b : Nat → Nat) (k : Nat), k < c.2.1 → a k = c.2.2.1 k → b k = c.2.2.2 k → (∀ j, j < c.2.1 → zm_tx K1 K j) → (K 0 14).toInt ≤ (K1 0 14).toInt → (K 0 15).toInt ≤ (K1 0 15).toInt → ∃ (rs : List zm_row) (F0 : Nat), zi_mo I1 k = zi_km K1 k ∧ 0 ≤ zi_mo I1 k ∧ zi_td I1 k = zi_kt K1 k ∧ 0 ≤ (K1 11 k).toInt ∧ (K1 12 k).toInt = (rs.length : Int) ∧ a k = rs.length ∧ (K1 11 k).toInt + (rs.length : Int) ≤ (K1 0 14).toInt ∧ (F0 : Int) + ((zm_fl rs).length : Int) ≤ (K1 0 15).toInt ∧ zm_RS K1 (K1 11 k).toNatClampNeg F0 rs ∧ zm_Q K1 F0 (zm_fl rs) ∧ ∀ (j : Nat) (s : zp_T), (rs.map Prod.fst)[j]? = some s → zo_row I1 (200 + 5 * k) (b k : Int) j s ∧ (302 ≤ s.1 → s.2.2.1 = []) ∧ (303 ≤ s.1 → 0 ≤ s.2.1 ∧ s.2.1 ≤ 999999) := by
        intro a b k hk ha hb htx hS hN
        obtain ⟨rs, F0, g1, g2, g3, g4, g5, g6, g7, g8, g9, g10, g11⟩ := h k hk
        obtain ⟨t1, t2, t3, t4⟩ := htx k hk
        have hz : z_o0 c = 200 + 5 * c.2.1 := rfl
        have hkk := z_clt (x := K 11 k) rfl g4
        refine ⟨rs, F0, ?_, ?_, ?_, by rw [t1]; exact g4, by rw [t2]; exact g5, by rw [ha]; exact g6, by rw [t1]; omega, by omega, ?_, zm_Q_c _ _ (fun j _ hj => m5 j (by omega)) g10, fun j s hj => ?_⟩
        · show (I1 (200 + 5 * k) 0).toInt = (K1 13 k).toInt
          rw [hfr _ _ (by omega) (by omega), t3]
          exact g1
        · show 0 ≤ (I1 (200 + 5 * k) 0).toInt
          rw [hfr _ _ (by omega) (by omega)]
          exact g2
        · show (I1 (200 + 5 * k) 1).toInt = (K1 14 k).toInt
          rw [hfr _ _ (by omega) (by omega), t4]
          exact g3
        · rw [t1]
          exact zm_RS_c _ _ _ (fun j _ hj => m4 j (by omega)) g9
        · rw [hb]
          exact ⟨zo_row_c (fun q hq k => hfr _ _ (by omega) (by omega)) (g11 j s hj).1, (g11 j s hj).2⟩
      rcases h4 with ⟨e1, e2, e3, e4⟩ | ⟨e1, e2, e3, e4⟩ <;> rcases m6 with ⟨f1, f2, f3, f4, f5, f6, f7⟩ | ⟨f1, f2, f3, f4, f5, f6⟩
      · rw [e2]
        intro k hk
        exact old c.2.2.1 c.2.2.2 k hk rfl rfl (fun j _ => f7 j) (by omega) (by omega)
      · exact absurd f2 e3
      · exact absurd e3 f2.1
      · obtain ⟨f6, f8, f9, f10, f11, rs, f12, f13, f14, f15⟩ := f6
        obtain ⟨n1, n2, n3, n4, n5, n6⟩ := e2
        have hxc : x0 = c.2.1 := by omega
        intro k hk
        rw [n1] at hk
        by_cases e : k = c.2.1
        · subst e
          have hz : z_o0 c = 200 + 5 * c.2.1 := rfl
          have hL : ssT.length = rs.length := by rw [← f12, List.length_map]
          rw [hxc] at f6 f8 f9 f10
          have hkk := z_clt f6 (by omega)
          refine ⟨rs, n0, ?_, ?_, ?_, by rw [f6]; omega, by rw [f8]; omega, by rw [n3]; exact hL, by rw [f6, f11]; omega, by omega, ?_, f15, fun j s hj => ?_⟩
          · show (I1 (200 + 5 * c.2.1) 0).toInt = (K1 13 c.2.1).toInt
            rw [f9]
            exact n4
          · show 0 ≤ (I1 (200 + 5 * c.2.1) 0).toInt
            rw [show (I1 (200 + 5 * c.2.1) 0).toInt = mo from n4]
            exact h1.2.2.1
          · show (I1 (200 + 5 * c.2.1) 1).toInt = (K1 14 c.2.1).toInt
            rw [f10, show I1 (200 + 5 * c.2.1) 1 = I 0 0 from n5]
            exact htd
          · rw [show (K1 11 c.2.1).toNatClampNeg = st0 by omega]
            exact f13
          · rw [f12] at hj
            exact ⟨n6 j s hj, zp_ts_302 ssT 0 keT (hts h1 h2) j s hj, zp_ts_303 (hva h1 h2) ssT 0 keT (hts h1 h2) j s hj⟩
        · have hk : k < c.2.1 := by omega
          exact old c1.2.2.1 c1.2.2.2 k hk (n2 k hk).1 (n2 k hk).2 (fun j hj => f5 j (by omega)) (by omega) (by omega)

