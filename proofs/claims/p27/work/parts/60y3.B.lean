section SG60y3


/-! which ORDERS are in force -/
/-- of the first i: b is the one that counts with the latest month, the newest of these; -1: none counts -/
noncomputable def zi_B (mo td : Nat → Int) (m k : Int) (i : Nat) (b : Int) : Prop := (b = -1 ∧ ∀ j, j < i → ¬ (td j ≤ k ∧ mo j ≤ m)) ∨ ∃ q : Nat, b = (q : Int) ∧ q < i ∧ td q ≤ k ∧ mo q ≤ m ∧ ∀ j, j < i → td j ≤ k → mo j ≤ m → mo j ≤ mo q ∧ (mo j = mo q → j ≤ q)
section ZIB
variable {mo td mo1 td1 : Nat → Int} {m k b b1 : Int} {i : Nat}
theorem zi_B_0 : zi_B mo td m k 0 (-1) := Or.inl ⟨rfl, fun j h => absurd h (Nat.not_lt_zero j)⟩
theorem zi_B_no (h : zi_B mo td m k i b) (hn : ¬ (td i ≤ k ∧ mo i ≤ m)) : zi_B mo td m k (i + 1) b := by
  rcases h with ⟨h1, h2⟩ | ⟨q, h1, h2, h3, h4, h5⟩
  · refine Or.inl ⟨h1, fun j hj => ?_⟩
    by_cases e : j = i
    · rw [e]
      exact hn
    · exact h2 j (by omega)
  · refine Or.inr ⟨q, h1, by omega, h3, h4, fun j hj a1 a2 => ?_⟩
    by_cases e : j = i
    · rw [e] at a1 a2
      exact absurd ⟨a1, a2⟩ hn
    · exact h5 j (by omega) a1 a2
theorem zi_B_lo (h : zi_B mo td m k i b) {q : Nat} (hb : b = (q : Int)) (hl : mo i < mo q) : zi_B mo td m k (i + 1) b := by
  rcases h with ⟨h1, h2⟩ | ⟨q1, h1, h2, h3, h4, h5⟩
  · omega
  · have e : q1 = q := by omega
    subst e
    refine Or.inr ⟨q1, h1, by omega, h3, h4, fun j hj a1 a2 => ?_⟩
    by_cases e : j = i
    · rw [e]
      exact ⟨by omega, fun z => by omega⟩
    · exact h5 j (by omega) a1 a2
theorem zi_B_up (h : zi_B mo td m k i b) (h1 : td i ≤ k) (h2 : mo i ≤ m) (hb : b = -1 ∨ ∃ q : Nat, b = (q : Int) ∧ mo q ≤ mo i) (he : b1 = (i : Int)) : zi_B mo td m k (i + 1) b1 := by
  refine Or.inr ⟨i, he, Nat.lt_succ_self i, h1, h2, fun j hj a1 a2 => ?_⟩
  by_cases e : j = i
  · rw [e]
    exact ⟨Int.le_refl _, fun _ => Nat.le_refl _⟩
  · rcases h with ⟨g1, g2⟩ | ⟨q1, g1, g2, g3, g4, g5⟩
    · exact absurd ⟨a1, a2⟩ (g2 j (by omega))
    · have g6 := g5 j (by omega) a1 a2
      rcases hb with q | ⟨q, q2, q3⟩
      · omega
      · have e2 : q1 = q := by omega
        subst e2
        exact ⟨by omega, fun _ => by omega⟩
theorem zi_B_u (h : zi_B mo td m k i b) (h2 : zi_B mo td m k i b1) : b = b1 := by
  rcases h with ⟨a1, a2⟩ | ⟨q, a1, a2, a3, a4, a5⟩ <;> rcases h2 with ⟨c1, c2⟩ | ⟨p, c1, c2, c3, c4, c5⟩
  · omega
  · exact absurd ⟨c3, c4⟩ (a2 p c2)
  · exact absurd ⟨a3, a4⟩ (c2 q a2)
  · have e1 := a5 p c2 c3 c4
    have e2 := c5 q a2 a3 a4
    have e3 : mo p = mo q := by omega
    have e4 := e1.2 e3
    have e5 := e2.2 e3.symm
    omega
theorem zi_B_c (hc : ∀ j, j < i → mo1 j = mo j ∧ td1 j = td j) (h : zi_B mo td m k i b) : zi_B mo1 td1 m k i b := by
  rcases h with ⟨a1, a2⟩ | ⟨q, a1, a2, a3, a4, a5⟩
  · exact Or.inl ⟨a1, fun j hj => by rw [(hc j hj).1, (hc j hj).2]; exact a2 j hj⟩
  · exact Or.inr ⟨q, a1, a2, by rw [(hc q a2).2]; exact a3, by rw [(hc q a2).1]; exact a4, fun j hj b1 b2 => by rw [(hc j hj).1, (hc q a2).1]; rw [(hc j hj).2] at b1; rw [(hc j hj).1] at b2; exact a5 j hj b1 b2⟩
end ZIB
noncomputable def zi_mo (I : z_I) (j : Nat) : Int := (I (200 + 5 * j) 0).toInt
noncomputable def zi_td (I : z_I) (j : Nat) : Int := (I (200 + 5 * j) 1).toInt
noncomputable def zi_km (K : z_I) (j : Nat) : Int := (K 13 j).toInt
noncomputable def zi_kt (K : z_I) (j : Nat) : Int := (K 14 j).toInt
/-- the rows of all ORDERS: the class's copies and the reference's -/
noncomputable def z_OW (c : z_C) (I K : z_I) : Prop := ∀ k, k < c.2.1 → ∃ (rs : List zm_row) (F0 : Nat), zi_mo I k = zi_km K k ∧ 0 ≤ zi_mo I k ∧ zi_td I k = zi_kt K k ∧ 0 ≤ (K 11 k).toInt ∧ (K 12 k).toInt = (rs.length : Int) ∧ c.2.2.1 k = rs.length ∧ (K 11 k).toInt + (rs.length : Int) ≤ (K 0 14).toInt ∧ (F0 : Int) + ((zm_fl rs).length : Int) ≤ (K 0 15).toInt ∧ zm_RS K (K 11 k).toNatClampNeg F0 rs ∧ zm_Q K F0 (zm_fl rs) ∧ ∀ (j : Nat) (s : zp_T), (rs.map Prod.fst)[j]? = some s → zo_row I (200 + 5 * k) (c.2.2.2 k : Int) j s ∧ (302 ≤ s.1 → s.2.2.1 = []) ∧ (303 ≤ s.1 → 0 ≤ s.2.1 ∧ s.2.1 ≤ 999999)
theorem zp_ts_302 {tk va : Nat → Int} : ∀ (ss : List zp_T) (k ke : Nat), zp_ts tk va k ss ke → ∀ (j : Nat) (s : zp_T), ss[j]? = some s → 302 ≤ s.1 → s.2.2.1 = []
  | [], _, _, _, j, s, h, _ => by simp at h
  | x :: xs, k, ke, ht, 0, s, h, h2 => by
    have e : x = s := by simpa using h
    subst e
    obtain ⟨k1, ⟨_, a | a | a⟩, _, _⟩ := ht
    · omega
    · exact a.2.1
    · exact a.2.2.1
  | x :: xs, k, ke, ht, j + 1, s, h, h2 => by
    obtain ⟨k1, _, _, h3⟩ := ht
    exact zp_ts_302 xs _ _ h3 j s (by simpa using h) h2
theorem zp_ts_303 {tk va : Nat → Int} (hva : ∀ k, tk k = 400 → 0 ≤ va k ∧ va k ≤ 999999) : ∀ (ss : List zp_T) (k ke : Nat), zp_ts tk va k ss ke → ∀ (j : Nat) (s : zp_T), ss[j]? = some s → 303 ≤ s.1 → 0 ≤ s.2.1 ∧ s.2.1 ≤ 999999
  | [], _, _, _, j, s, h, _ => by simp at h
  | x :: xs, k, ke, ht, 0, s, h, h2 => by
    have e : x = s := by simpa using h
    subst e
    obtain ⟨k1, ⟨_, a | a | a⟩, _, _⟩ := ht
    · omega
    · omega
    · rw [a.2.2.2.2.2.2.1]
      exact hva _ a.2.2.2.2.1
  | x :: xs, k, ke, ht, j + 1, s, h, h2 => by
    obtain ⟨k1, _, _, h3⟩ := ht
    exact zp_ts_303 hva xs _ _ h3 j s (by simpa using h) h2
theorem zo_row_c {I I1 : z_I} {o j : Nat} {us : Int} {s : zp_T} (hq : ∀ q, q < 4 → ∀ k, I1 (o + 1 + q) k = I (o + 1 + q) k) (h : zo_row I o us j s) : zo_row I1 o us j s := by
  have e1 : ∀ k, I1 (o + 1) k = I (o + 1) k := hq 0 (by decide)
  have e2 : ∀ k, I1 (o + 2) k = I (o + 2) k := hq 1 (by decide)
  have e3 : ∀ k, I1 (o + 3) k = I (o + 3) k := hq 2 (by decide)
  have e4 : ∀ k, I1 (o + 4) k = I (o + 4) k := hq 3 (by decide)
  have e5 : (fun j => (I1 (o + 4) j).toInt) = fun j => (I (o + 4) j).toInt := funext fun k => by rw [e4 k]
  unfold zo_row
  rw [e1, e2, e3, e5]
  exact h
/-- what neither side writes but by orders() -/
theorem z_OW_k {c c1 : z_C} {I I1 K K1 : z_I} (h : z_OW c I K) (hc : c1.2 = c.2) (e1 : ∀ a k, 200 ≤ a → I1 a k = I a k) (e2 : ∀ j, zm_tx K1 K j) (e3 : ∀ j, zm_q6 K1 K j) (e4 : ∀ j, K1 21 j = K 21 j ∧ K1 22 j = K 22 j ∧ K1 23 j = K 23 j) (e5 : K1 0 14 = K 0 14) (e6 : K1 0 15 = K 0 15) : z_OW c1 I1 K1 := fun k hk => by
  rw [hc] at hk
  obtain ⟨rs, F0, h1, h2, h3, h4, h5, h6, h7, h8, h9, h10, h11⟩ := h k hk
  obtain ⟨t1, t2, t3, t4⟩ := e2 k
  refine ⟨rs, F0, ?_, ?_, ?_, by rw [t1]; exact h4, by rw [t2]; exact h5, by rw [hc]; exact h6, by rw [t1, e5]; exact h7, by rw [e6]; exact h8, ?_, zm_Q_c _ _ (fun j _ _ => e4 j) h10, fun j s hj => ?_⟩
  · show (I1 (200 + 5 * k) 0).toInt = (K1 13 k).toInt
    rw [e1 _ _ (by omega), t3]
    exact h1
  · show 0 ≤ (I1 (200 + 5 * k) 0).toInt
    rw [e1 _ _ (by omega)]
    exact h2
  · show (I1 (200 + 5 * k) 1).toInt = (K1 14 k).toInt
    rw [e1 _ _ (by omega), t4]
    exact h3
  · rw [t1]
    exact zm_RS_c _ _ _ (fun j _ _ => e3 j) h9
  · rw [hc]
    exact ⟨zo_row_c (fun q hq k => e1 _ _ (by omega)) (h11 j s hj).1, (h11 j s hj).2⟩
theorem z_OW_mo {c : z_C} {I K : z_I} (h : z_OW c I K) : ∀ j, j < c.2.1 → 0 ≤ (I (200 + 5 * j) 0).toInt := fun j hj => by
  obtain ⟨rs, F0, h1, h2, _⟩ := h j hj
  exact h2
/-- ORDERS more, on both sides -/
theorem z_OW_new {c c1 : z_C} {I I1 K K1 : z_I} {J J1 : z_J} {n mo r r1 : Int} {gt gv : Nat → Int} {gp : Nat → Nat} {n0 st0 x0 : Nat} {ssT : List zp_T} {keT ff : Nat} (h : z_OW c I K) (hl : zo_ln c c1 I K I1 n mo r gt gv gp ssT keT ff) (hm : zm_PO gt gv gp K K1 J J1 n mo r1 n0 st0 x0 ssT keT ff) (hx0 : (K 0 13).toInt = (x0 : Int)) (hs0 : (K 0 14).toInt = (st0 : Int)) (hn0 : (K 0 15).toInt = (n0 : Int)) (hcx : (c.2.1 : Int) = (K 0 13).toInt) (htd : (I 0 0).toInt = (K 0 0).toInt) (hts : zm_ok K n mo → (K 0 13).toInt ≠ 12 → zp_ts gt gv 0 ssT keT) (hva : zm_ok K n mo → (K 0 13).toInt ≠ 12 → ∀ k, gt k = 400 → 0 ≤ gv k ∧ gv k ≤ 999999) : z_OW c1 I1 K1 := by
  rcases hl with ⟨h1, h2, h3, h4⟩ | ⟨h1, h2, h3, h4, h5⟩ | ⟨h1, h2, h3, hfr, h4⟩
  · rcases hm with ⟨m1, m2, m3, m4⟩ | ⟨m1, m2, m3, m4, m5⟩ | ⟨m1, m2, _⟩
    · rw [h4, h3, m3]
      exact h
    · exact absurd m2 h2
    · exact absurd m1 h2
  · rcases hm with ⟨m1, m2, m3, m4⟩ | ⟨m1, m2, m3, m4, m5⟩ | ⟨m1, m2, _⟩
    · exact absurd h2 m2
    · rw [h5, h4, m4]
      exact h
    · exact absurd h3 m2
  · rcases hm with ⟨m1, m2, m3, m4⟩ | ⟨m1, m2, m3, m4, m5⟩ | ⟨m1, m2, m3, m4, m5, m6⟩
    · exact absurd h1 m2
    · exact absurd m3 h2
    · -- the old ones
      have old : ∀ (a b : Nat → Nat) (k : Nat), k < c.2.1 → a k = c.2.2.1 k → b k = c.2.2.2 k → (∀ j, j < c.2.1 → zm_tx K1 K j) → (K 0 14).toInt ≤ (K1 0 14).toInt → (K 0 15).toInt ≤ (K1 0 15).toInt → ∃ (rs : List zm_row) (F0 : Nat), zi_mo I1 k = zi_km K1 k ∧ 0 ≤ zi_mo I1 k ∧ zi_td I1 k = zi_kt K1 k ∧ 0 ≤ (K1 11 k).toInt ∧ (K1 12 k).toInt = (rs.length : Int) ∧ a k = rs.length ∧ (K1 11 k).toInt + (rs.length : Int) ≤ (K1 0 14).toInt ∧ (F0 : Int) + ((zm_fl rs).length : Int) ≤ (K1 0 15).toInt ∧ zm_RS K1 (K1 11 k).toNatClampNeg F0 rs ∧ zm_Q K1 F0 (zm_fl rs) ∧ ∀ (j : Nat) (s : zp_T), (rs.map Prod.fst)[j]? = some s → zo_row I1 (200 + 5 * k) (b k : Int) j s ∧ (302 ≤ s.1 → s.2.2.1 = []) ∧ (303 ≤ s.1 → 0 ≤ s.2.1 ∧ s.2.1 ≤ 999999) := by
        intro a b k hk ha hb htx hS hN
        obtain ⟨rs, F0, g1, g2, g3, g4, g5, g6, g7, g8, g9, g10, g11⟩ := h k hk
        obtain ⟨t1, t2, t3, t4⟩ := htx k hk
        have hz : z_o0 c = 200 + 5 * c.2.1 := rfl
        have hkk := z_clt (x := K 11 k) rfl g4
        refine ⟨rs, F0, ?_, ?_, ?_, by rw [t1]; exact g4, by rw [t2]; exact g5, by rw [ha]; exact g6, by rw [t1]; omega, by omega, ?_, zm_Q_c _ _ (fun j _ hj => m5 j (by omega)) g10, fun j s hj => ?_⟩
        · show (I1 (200 + 5 * k) 0).toInt = (K1 13 k).toInt
          rw [hfr _ _ (by omega) (by omega), t3]
          exact g1
        · show 0 ≤ (I1 (200 + 5 * k) 0).toInt
          rw [hfr _ _ (by omega) (by omega)]
          exact g2
        · show (I1 (200 + 5 * k) 1).toInt = (K1 14 k).toInt
          rw [hfr _ _ (by omega) (by omega), t4]
          exact g3
        · rw [t1]
          exact zm_RS_c _ _ _ (fun j _ hj => m4 j (by omega)) g9
        · rw [hb]
          exact ⟨zo_row_c (fun q hq k => hfr _ _ (by omega) (by omega)) (g11 j s hj).1, (g11 j s hj).2⟩
      rcases h4 with ⟨e1, e2, e3, e4⟩ | ⟨e1, e2, e3, e4⟩ <;> rcases m6 with ⟨f1, f2, f3, f4, f5, f6, f7⟩ | ⟨f1, f2, f3, f4, f5, f6⟩
      · rw [e2]
        intro k hk
        exact old c.2.2.1 c.2.2.2 k hk rfl rfl (fun j _ => f7 j) (by omega) (by omega)
      · exact absurd f2 e3
      · exact absurd e3 f2.1
      · obtain ⟨f6, f8, f9, f10, f11, rs, f12, f13, f14, f15⟩ := f6
        obtain ⟨n1, n2, n3, n4, n5, n6⟩ := e2
        have hxc : x0 = c.2.1 := by omega
        intro k hk
        rw [n1] at hk
        by_cases e : k = c.2.1
        · subst e
          have hz : z_o0 c = 200 + 5 * c.2.1 := rfl
          have hL : ssT.length = rs.length := by rw [← f12, List.length_map]
          rw [hxc] at f6 f8 f9 f10
          have hkk := z_clt f6 (by omega)
          refine ⟨rs, n0, ?_, ?_, ?_, by rw [f6]; omega, by rw [f8]; omega, by rw [n3]; exact hL, by rw [f6, f11]; omega, by omega, ?_, f15, fun j s hj => ?_⟩
          · show (I1 (200 + 5 * c.2.1) 0).toInt = (K1 13 c.2.1).toInt
            rw [f9]
            exact n4
          · show 0 ≤ (I1 (200 + 5 * c.2.1) 0).toInt
            rw [show (I1 (200 + 5 * c.2.1) 0).toInt = mo from n4]
            exact h1.2.2.1
          · show (I1 (200 + 5 * c.2.1) 1).toInt = (K1 14 c.2.1).toInt
            rw [f10, show I1 (200 + 5 * c.2.1) 1 = I 0 0 from n5]
            exact htd
          · rw [show (K1 11 c.2.1).toNatClampNeg = st0 by omega]
            exact f13
          · rw [f12] at hj
            exact ⟨n6 j s hj, zp_ts_302 ssT 0 keT (hts h1 h2) j s hj, zp_ts_303 (hva h1 h2) ssT 0 keT (hts h1 h2) j s hj⟩
        · have hk : k < c.2.1 := by omega
          exact old c1.2.2.1 c1.2.2.2 k hk (n2 k hk).1 (n2 k hk).2 (fun j hj => f5 j (by omega)) (by omega) (by omega)
end SG60y3
section SG60y4


set_option maxHeartbeats 8000000 in
set_option maxRecDepth 100000 in
theorem sx_X6_inForce_x (l : Launch) (G : z_G) (ad : Nat → Nat) (c : z_C) (I : z_I) (hO : z_iO I) (a1 : Int32) (a2 : Int32) (hon : (I 21 2).toInt = (c.2.1 : Int)) (hmo : ∀ j, j < c.2.1 → 0 ≤ (I (200 + 5 * j) 0).toInt) : z_M l yX6_inForce wsX6_inForce { frames := 1, cells := 0, slots := 0, locals := 12 } [.ref (ad 21), .int a1, .int a2] G (shC c, ad, I, JX, PC c ad) (fun r u1 => u1 = (shC c, ad, I, JX, PC c ad) ∧ (zi_B (zi_mo I) (zi_td I) a1.toInt a2.toInt c.2.1 r.toInt ∧ (-1 ≤ r.toInt ∧ r.toInt ≤ 11))) 0 0 := by
  intro sz
  refine z_headQ (cc := cX6_inForce) (maxL := 8) (ret := (some .int)) (by decide) rfl (Nat.le_of_ble_eq_true rfl) ?_
  intro p e s m below meth c0 ls hIn hK hsz hW hl
  obtain ⟨hx, hb, hr, hml, hown, hts, hlocks, hname⟩ := hIn
  subst hsz
  have hown : s.vm.findClass RX6 = some m.cls := hown
  have hA : ∀ q : Nat, s.heap.size ≤ q → z_A (shC c, ad, I, JX, PC c ad) s.heap.size q := fun q h => Or.inr h
  generalize hAe : z_A (shC c, ad, I, JX, PC c ad) s.heap.size = A at *
  have hS : va_S A s.heap s.heap [] := va_S.rf
  have hl : lv_has ls 8 [(0, .ref (ad 21)), (1, .int a1), (2, .int a2)] := hl
  refine lv_iconst (v := (-1)) hx hb dX6_inForce_0 (by decide) ?_
  refine lv_istore_n (lv' := [(3, .int (-1)), (0, .ref (ad 21)), (1, .int a1), (2, .int a2)]) hx hb dX6_inForce_1 rfl hl (by decide) rfl (fun ls hl => ?_)
  refine lv_iconst (v := (-1)) hx hb dX6_inForce_2 (by decide) ?_
  refine lv_istore (lv' := [(4, .int (-1)), (3, .int (-1)), (0, .ref (ad 21)), (1, .int a1), (2, .int a2)]) hx hb dX6_inForce_3 hl (by decide) rfl (fun ls hl => ?_)
  refine lv_iconst (v := 0) hx hb dX6_inForce_5 (by decide) ?_
  refine lv_istore (lv' := [(5, .int 0), (4, .int (-1)), (3, .int (-1)), (0, .ref (ad 21)), (1, .int a1), (2, .int a2)]) hx hb dX6_inForce_6 hl (by decide) rfl (fun ls hl => ?_)
  have lp1 : ∀ (f : Nat) (y2 : Int32) (y3 : Int32) (y4 : Int32) (H : Heap) (locs : List Loc) (ls : Array Slot), (2147483647 < y2.toInt + (f : Int)) → (0 ≤ y2.toInt) → ((-1) ≤ y4.toInt) → (y4.toInt ≤ 11) → (∃ i : Nat, (i : Int) = y2.toInt ∧ i ≤ c.2.1 ∧ zi_B (zi_mo I) (zi_td I) a1.toInt a2.toInt i y4.toInt ∧ ((y4.toInt = -1 ∧ y3.toInt = -1) ∨ ∃ q : Nat, y4.toInt = (q : Int) ∧ q < c.2.1 ∧ y3.toInt = zi_mo I q)) → z_W G A (shC c, ad, I, JX, PC c ad) H → va_S A s.heap H locs → lv_has ls 8 [(5, .int y2), (4, .int y3), (3, .int y4), (0, .ref (ad 21)), (1, .int a1), (2, .int a2)] → W p l e (headSpec wsX6_inForce { frames := 1, cells := 0, slots := 0, locals := 12 }).room s m ([.ref (ad 21), .int a1, .int a2] : List Value).toArray below meth c0 H locs 0 0 (MQ below (va_Qi (fun (r : Int32) (u1 : z_U) => u1 = (shC c, ad, I, JX, PC c ad) ∧ (zi_B (zi_mo I) (zi_td I) a1.toInt a2.toInt c.2.1 r.toInt ∧ (-1 ≤ r.toInt ∧ r.toInt ≤ 11))) (z_B G A) A) ([.ref (ad 21), .int a1, .int a2] : List Value).toArray s 0 0 A) (F0 m 8 ls []) := by
    intro f
    induction f with
    | zero => intro y2 y3 y4 H locs ls lp1m lp1l5 lp1l3 lp1u3 lp1B hW hS hl; exact absurd lp1m (by have := Int32.toInt_lt y2; have := Int32.le_toInt y2; omega)
    | succ f lp1ih =>
      intro y2 y3 y4 H locs ls lp1m lp1l5 lp1l3 lp1u3 lp1B hW hS hl
      refine lv_iload hx hb dX6_inForce_8 (lv_at hl 0 rfl) ?_
      refine lv_aload_n hx hb dX6_inForce_10 rfl (lv_at hl 3 rfl) ?_
      have r5 : 0 ≤ (I 21 2).toInt ∧ (I 21 2).toInt ≤ 12 := hO
      refine z_get (T := TX6) (N := 3) (ci := 6) (i := 21) (v := .int (I 21 2)) hx hb hts zj_X6_inForce_X6 hown hK hW rfl rfl 2 (by decide) (hts (.fieldLink RX6 24 "PetrolBoard$OrderBook" "number" "I") (me_s (me_l (me_l (List.mem_of_getElem? (i := 0) rfl))))) (fun _ h => h) rfl dX6_inForce_11 ?_
      refine lv_icmp_ge (tgt := 97) hx hb dX6_inForce_14 (by decide) (fun c6 => ?_) (fun c6 => ?_)
      · have g7 := z_f_ge rfl rfl c6
        have b8 := Int32.toInt_lt y2
        refine lv_iload_n hx hb dX6_inForce_97 rfl (lv_at hl 2 rfl) ?_
        exact z_iret hx hb hr hK hS (Nat.le_of_ble_eq_true rfl) (Nat.le_of_ble_eq_true rfl) hlocks dX6_inForce_98 (shC c, ad, I, JX, PC c ad) hW ⟨rfl, (by obtain ⟨i9, hi9, hn9, hB9, hL9⟩ := lp1B; have e9 : i9 = c.2.1 := (by omega); rw [← e9]; exact ⟨hB9, by omega⟩)⟩
      · have g9 := z_f_nge rfl rfl c6
        have b10 := Int32.toInt_lt y2
        refine lv_iload hx hb dX6_inForce_17 (lv_at hl 0 rfl) ?_
        refine lv_aload_n hx hb dX6_inForce_19 rfl (lv_at hl 3 rfl) ?_
        refine z_get (T := TX6) (N := 3) (ci := 6) (i := 21) (v := .ref (ad 22)) hx hb hts zj_X6_inForce_X6 hown hK hW rfl rfl 0 (by decide) (hts (.fieldLink RX6 11 "PetrolBoard$OrderBook" "told" "[LPetrolBoard$Orders;") (me_s (me_l (me_l (List.mem_of_getElem? (i := 1) rfl))))) (fun _ h => h) rfl dX6_inForce_20 ?_
        refine z_alen (i := 22) (v := 12) hx hb hK hW rfl (by simp [z_tys]) (by rfl) dX6_inForce_23 ?_
        refine lv_icmp_ge (tgt := 97) hx hb dX6_inForce_24 (by decide) (fun c11 => (by have g := z_f_ge rfl z_l12 c11; omega)) (fun c11 => ?_)
        have g12 := z_f_nge rfl z_l12 c11
        refine lv_aload_n hx hb dX6_inForce_27 rfl (lv_at hl 3 rfl) ?_
        refine z_get (T := TX6) (N := 3) (ci := 6) (i := 21) (v := .ref (ad 22)) hx hb hts zj_X6_inForce_X6 hown hK hW rfl rfl 0 (by decide) (hts (.fieldLink RX6 11 "PetrolBoard$OrderBook" "told" "[LPetrolBoard$Orders;") (me_s (me_l (me_l (List.mem_of_getElem? (i := 1) rfl))))) (fun _ h => h) rfl dX6_inForce_28 ?_
        refine lv_iload hx hb dX6_inForce_31 (lv_at hl 0 rfl) ?_
        obtain ⟨k13, ek13⟩ : ∃ k : Nat, (y2 : Int32).toNatClampNeg = k := ⟨_, rfl⟩
        have ck13 := z_clt (x := y2) rfl (by omega)
        obtain ⟨i9, hi9, hn9, hB9, hL9⟩ := lp1B
        have hik : i9 = k13 := by omega
        subst hik
        have hk13 : i9 < c.2.1 := by omega
        have hm9 : zi_mo I i9 = (I (200 + 5 * i9) 0).toInt := rfl
        have ht9 : zi_td I i9 = (I (200 + 5 * i9) 1).toInt := rfl
        have hm0 := hmo i9 hk13
        refine z_aald (i := 22) (v := .ref (ad (200 + 5 * i9))) hx hb hK hW rfl (by simp [z_tys]) rfl (z_ix rfl (by omega) (by omega)) (z_p22 ek13 hk13) dX6_inForce_33 ?_
        refine lv_astore (lv' := [(6, .ref (ad (200 + 5 * i9))), (5, .int y2), (4, .int y3), (3, .int y4), (0, .ref (ad 21)), (1, .int a1), (2, .int a2)]) hx hb dX6_inForce_34 hl (by decide) rfl (fun ls hl => ?_)
        refine lv_aload hx hb dX6_inForce_36 (lv_at hl 0 rfl) ?_
        refine lv_ifnull hx hb dX6_inForce_38 ?_
        refine lv_aload hx hb dX6_inForce_41 (lv_at hl 0 rfl) ?_
        refine z_get (T := TX7) (N := 6) (ci := 7) (i := (200 + 5 * i9)) (v := .int (I (200 + 5 * i9) 1)) hx hb hts zj_X6_inForce_X7 hown hK hW (z_so0 hk13) rfl 1 (by decide) (hts (.fieldLink RX6 28 "PetrolBoard$Orders" "toldOn" "I") (me_s (me_l (me_l (List.mem_of_getElem? (i := 2) rfl))))) (fun _ h => h) rfl dX6_inForce_43 ?_
        refine lv_iload_n hx hb dX6_inForce_46 rfl (lv_at hl 6 rfl) ?_
        refine lv_icmp_gt (tgt := 63) hx hb dX6_inForce_47 (by decide) (fun c14 => ?_) (fun c14 => ?_)
        · have g15 := z_f_gt rfl rfl c14
          have b16 := Int32.toInt_lt (I (200 + 5 * i9) 1)
          have b17 := Int32.toInt_lt a2
          refine lv_iconst (v := 0) hx hb dX6_inForce_63 (by decide) ?_
          refine lv_istore (lv' := [(7, .int 0), (6, .ref (ad (200 + 5 * i9))), (5, .int y2), (4, .int y3), (3, .int y4), (0, .ref (ad 21)), (1, .int a1), (2, .int a2)]) hx hb dX6_inForce_64 hl (by decide) rfl (fun ls hl => ?_)
          refine lv_iload hx hb dX6_inForce_66 (lv_at hl 0 rfl) ?_
          refine lv_if_eq (tgt := 91) hx hb dX6_inForce_68 (by decide) (fun c18 => ?_) (fun c18 => absurd (by decide) c18)
          obtain ⟨x19, ex19⟩ : ∃ y : Int32, y = y2 + 1 := ⟨_, rfl⟩
          have tx19 : x19.toInt = y2.toInt + 1 := z_tadd ex19 rfl z_l1 (by omega) (by omega)
          refine lv_iinc (v := x19) (lv' := [(5, .int x19), (7, .int 0), (6, .ref (ad (200 + 5 * i9))), (4, .int y3), (3, .int y4), (0, .ref (ad 21)), (1, .int a1), (2, .int a2)]) hx hb dX6_inForce_91 hl (k := 2) rfl (by rw [ex19]; rfl) (by decide) rfl (fun ls hl => ?_)
          refine lv_goto (tgt := 8) hx hb dX6_inForce_94 (by decide) ?_
          exact lp1ih x19 y3 y4 _ _ _ (by omega) (by omega) (by omega) (by omega) (by first | exact ⟨i9 + 1, by omega, by omega, zi_B_no hB9 (by omega), hL9⟩ | (rcases hL9 with ⟨l1, l2⟩ | ⟨q9, l1, l2, l3⟩ <;> first | (exfalso; omega) | exact ⟨i9 + 1, by omega, by omega, zi_B_lo hB9 l1 (by omega), Or.inr ⟨q9, l1, l2, l3⟩⟩)) hW hS (lv_sub hl [0, 3, 4, 5, 6, 7] rfl)
        · have g20 := z_f_ngt rfl rfl c14
          have b21 := Int32.toInt_lt (I (200 + 5 * i9) 1)
          have b22 := Int32.toInt_lt a2
          refine lv_aload hx hb dX6_inForce_50 (lv_at hl 0 rfl) ?_
          refine z_get (T := TX7) (N := 6) (ci := 7) (i := (200 + 5 * i9)) (v := .int (I (200 + 5 * i9) 0)) hx hb hts zj_X6_inForce_X7 hown hK hW (z_so0 hk13) rfl 0 (by decide) (hts (.fieldLink RX6 31 "PetrolBoard$Orders" "month" "I") (me_s (me_l (me_l (List.mem_of_getElem? (i := 3) rfl))))) (fun _ h => h) rfl dX6_inForce_52 ?_
          refine lv_iload_n hx hb dX6_inForce_55 rfl (lv_at hl 5 rfl) ?_
          refine lv_icmp_gt (tgt := 63) hx hb dX6_inForce_56 (by decide) (fun c23 => ?_) (fun c23 => ?_)
          · have g24 := z_f_gt rfl rfl c23
            have b25 := Int32.toInt_lt (I (200 + 5 * i9) 0)
            have b26 := Int32.toInt_lt a1
            refine lv_iconst (v := 0) hx hb dX6_inForce_63 (by decide) ?_
            refine lv_istore (lv' := [(7, .int 0), (6, .ref (ad (200 + 5 * i9))), (5, .int y2), (4, .int y3), (3, .int y4), (0, .ref (ad 21)), (1, .int a1), (2, .int a2)]) hx hb dX6_inForce_64 hl (by decide) rfl (fun ls hl => ?_)
            refine lv_iload hx hb dX6_inForce_66 (lv_at hl 0 rfl) ?_
            refine lv_if_eq (tgt := 91) hx hb dX6_inForce_68 (by decide) (fun c27 => ?_) (fun c27 => absurd (by decide) c27)
            obtain ⟨x28, ex28⟩ : ∃ y : Int32, y = y2 + 1 := ⟨_, rfl⟩
            have tx28 : x28.toInt = y2.toInt + 1 := z_tadd ex28 rfl z_l1 (by omega) (by omega)
            refine lv_iinc (v := x28) (lv' := [(5, .int x28), (7, .int 0), (6, .ref (ad (200 + 5 * i9))), (4, .int y3), (3, .int y4), (0, .ref (ad 21)), (1, .int a1), (2, .int a2)]) hx hb dX6_inForce_91 hl (k := 2) rfl (by rw [ex28]; rfl) (by decide) rfl (fun ls hl => ?_)
            refine lv_goto (tgt := 8) hx hb dX6_inForce_94 (by decide) ?_
            exact lp1ih x28 y3 y4 _ _ _ (by omega) (by omega) (by omega) (by omega) (by first | exact ⟨i9 + 1, by omega, by omega, zi_B_no hB9 (by omega), hL9⟩ | (rcases hL9 with ⟨l1, l2⟩ | ⟨q9, l1, l2, l3⟩ <;> first | (exfalso; omega) | exact ⟨i9 + 1, by omega, by omega, zi_B_lo hB9 l1 (by omega), Or.inr ⟨q9, l1, l2, l3⟩⟩)) hW hS (lv_sub hl [0, 3, 4, 5, 6, 7] rfl)
          · have g29 := z_f_ngt rfl rfl c23
            have b30 := Int32.toInt_lt (I (200 + 5 * i9) 0)
            have b31 := Int32.toInt_lt a1
            refine lv_iconst (v := 1) hx hb dX6_inForce_59 (by decide) ?_
            refine lv_goto (tgt := 64) hx hb dX6_inForce_60 (by decide) ?_
            refine lv_istore (lv' := [(7, .int 1), (6, .ref (ad (200 + 5 * i9))), (5, .int y2), (4, .int y3), (3, .int y4), (0, .ref (ad 21)), (1, .int a1), (2, .int a2)]) hx hb dX6_inForce_64 hl (by decide) rfl (fun ls hl => ?_)
            refine lv_iload hx hb dX6_inForce_66 (lv_at hl 0 rfl) ?_
            refine lv_if_eq (tgt := 91) hx hb dX6_inForce_68 (by decide) (fun c32 => absurd c32 (by decide)) (fun c32 => ?_)
            refine lv_aload hx hb dX6_inForce_71 (lv_at hl 1 rfl) ?_
            refine z_get (T := TX7) (N := 6) (ci := 7) (i := (200 + 5 * i9)) (v := .int (I (200 + 5 * i9) 0)) hx hb hts zj_X6_inForce_X7 hown hK hW (z_so0 hk13) rfl 0 (by decide) (hts (.fieldLink RX6 31 "PetrolBoard$Orders" "month" "I") (me_s (me_l (me_l (List.mem_of_getElem? (i := 3) rfl))))) (fun _ h => h) rfl dX6_inForce_73 ?_
            refine lv_iload hx hb dX6_inForce_76 (lv_at hl 3 rfl) ?_
            refine lv_icmp_lt (tgt := 91) hx hb dX6_inForce_78 (by decide) (fun c33 => ?_) (fun c33 => ?_)
            · have g34 := z_f_lt rfl rfl c33
              have b35 := Int32.toInt_lt y3
              obtain ⟨x36, ex36⟩ : ∃ y : Int32, y = y2 + 1 := ⟨_, rfl⟩
              have tx36 : x36.toInt = y2.toInt + 1 := z_tadd ex36 rfl z_l1 (by omega) (by omega)
              refine lv_iinc (v := x36) (lv' := [(5, .int x36), (7, .int 1), (6, .ref (ad (200 + 5 * i9))), (4, .int y3), (3, .int y4), (0, .ref (ad 21)), (1, .int a1), (2, .int a2)]) hx hb dX6_inForce_91 hl (k := 2) rfl (by rw [ex36]; rfl) (by decide) rfl (fun ls hl => ?_)
              refine lv_goto (tgt := 8) hx hb dX6_inForce_94 (by decide) ?_
              exact lp1ih x36 y3 y4 _ _ _ (by omega) (by omega) (by omega) (by omega) (by first | exact ⟨i9 + 1, by omega, by omega, zi_B_no hB9 (by omega), hL9⟩ | (rcases hL9 with ⟨l1, l2⟩ | ⟨q9, l1, l2, l3⟩ <;> first | (exfalso; omega) | exact ⟨i9 + 1, by omega, by omega, zi_B_lo hB9 l1 (by omega), Or.inr ⟨q9, l1, l2, l3⟩⟩)) hW hS (lv_sub hl [0, 3, 4, 5, 6, 7] rfl)
            · have g37 := z_f_nlt rfl rfl c33
              have b38 := Int32.toInt_lt y3
              refine lv_aload hx hb dX6_inForce_81 (lv_at hl 1 rfl) ?_
              refine z_get (T := TX7) (N := 6) (ci := 7) (i := (200 + 5 * i9)) (v := .int (I (200 + 5 * i9) 0)) hx hb hts zj_X6_inForce_X7 hown hK hW (z_so0 hk13) rfl 0 (by decide) (hts (.fieldLink RX6 31 "PetrolBoard$Orders" "month" "I") (me_s (me_l (me_l (List.mem_of_getElem? (i := 3) rfl))))) (fun _ h => h) rfl dX6_inForce_83 ?_
              refine lv_istore (lv' := [(4, .int (I (200 + 5 * i9) 0)), (7, .int 1), (6, .ref (ad (200 + 5 * i9))), (5, .int y2), (3, .int y4), (0, .ref (ad 21)), (1, .int a1), (2, .int a2)]) hx hb dX6_inForce_86 hl (by decide) rfl (fun ls hl => ?_)
              refine lv_iload hx hb dX6_inForce_88 (lv_at hl 3 rfl) ?_
              refine lv_istore_n (lv' := [(3, .int y2), (4, .int (I (200 + 5 * i9) 0)), (7, .int 1), (6, .ref (ad (200 + 5 * i9))), (5, .int y2), (0, .ref (ad 21)), (1, .int a1), (2, .int a2)]) hx hb dX6_inForce_90 rfl hl (by decide) rfl (fun ls hl => ?_)
              obtain ⟨x39, ex39⟩ : ∃ y : Int32, y = y2 + 1 := ⟨_, rfl⟩
              have tx39 : x39.toInt = y2.toInt + 1 := z_tadd ex39 rfl z_l1 (by omega) (by omega)
              refine lv_iinc (v := x39) (lv' := [(5, .int x39), (3, .int y2), (4, .int (I (200 + 5 * i9) 0)), (7, .int 1), (6, .ref (ad (200 + 5 * i9))), (0, .ref (ad 21)), (1, .int a1), (2, .int a2)]) hx hb dX6_inForce_91 hl (k := 4) rfl (by rw [ex39]; rfl) (by decide) rfl (fun ls hl => ?_)
              refine lv_goto (tgt := 8) hx hb dX6_inForce_94 (by decide) ?_
              exact lp1ih x39 (I (200 + 5 * i9) 0) y2 _ _ _ (by omega) (by omega) (by omega) (by omega) ⟨i9 + 1, by omega, by omega, zi_B_up hB9 (by omega) (by omega) (by rcases hL9 with ⟨l1, l2⟩ | ⟨q9, l1, l2, l3⟩; (· exact Or.inl l1); (· exact Or.inr ⟨q9, l1, by omega⟩)) (by omega), Or.inr ⟨i9, by omega, by omega, by omega⟩⟩ hW hS (lv_sub hl [0, 2, 1, 5, 6, 7] rfl)
  exact lp1 4294967296 (0) ((-1)) ((-1)) _ _ _ (z_m0u _) (by rw [z_l0]; omega) (by rw [z_lm1]; omega) (by rw [z_lm1]; omega) ⟨0, by decide, by omega, zi_B_0, Or.inl ⟨by decide, by decide⟩⟩ hW hS (lv_sub hl [0, 1, 2, 3, 4, 5] rfl)
set_option maxHeartbeats 8000000 in
set_option maxRecDepth 100000 in
theorem sx_X12_inForce_x (l : Launch) (G : z_G) (ad : Nat → Nat) (I : z_I) (J : z_J) (hmb : z_imb I) (a1 : Int32) (a2 : Int32) : z_M l yX12_inForce wsX12_inForce { frames := 1, cells := 0, slots := 0, locals := 12 } [.ref (ad 0), .int a1, .int a2] G (shM, ad, I, J, PM ad) (fun r u1 => u1 = (shM, ad, I, J, PM ad) ∧ (zi_B (zi_km I) (zi_kt I) a1.toInt a2.toInt (I 0 13).toNatClampNeg r.toInt ∧ (-1 ≤ r.toInt ∧ r.toInt ≤ 11))) 0 0 := sorry
end SG60y4
section SG60y5


/-! the last row of a word, or what is usual -/
noncomputable def zi_A (hd nu : Nat → Int) (w d : Int) : Nat → Int
  | 0 => d
  | n + 1 => if hd n = w then nu n else zi_A hd nu w d n
section ZIA
variable {hd nu hd1 nu1 : Nat → Int} {w w1 d : Int}
theorem zi_A_y {n : Nat} (h : hd n = w) : zi_A hd nu w d (n + 1) = nu n := if_pos h
theorem zi_A_n {n : Nat} (h : ¬ hd n = w) : zi_A hd nu w d (n + 1) = zi_A hd nu w d n := if_neg h
theorem zi_A_c : ∀ n : Nat, (∀ j, j < n → (hd1 j = w1 ↔ hd j = w) ∧ (hd j = w → nu1 j = nu j)) → zi_A hd1 nu1 w1 d n = zi_A hd nu w d n
  | 0, _ => rfl
  | n + 1, h => by
    obtain ⟨h1, h2⟩ := h n (Nat.lt_succ_self n)
    have ih := zi_A_c n (fun j hj => h j (by omega))
    by_cases q : hd n = w
    · rw [zi_A_y q, zi_A_y (h1.mpr q), h2 q]
    · rw [zi_A_n q, zi_A_n (fun z => q (h1.mp z)), ih]
end ZIA
noncomputable def zi_us (t : Int) : Int := if t = 0 then 10 else if t = 1 then 1 else if t = 2 then 5 else if t = 3 then 0 else 20
theorem zi_us_0 {t : Int} (h : t = 0) : zi_us t = 10 := if_pos h
theorem zi_us_1 {t : Int} (h : t = 1) : zi_us t = 1 := (if_neg (by omega)).trans (if_pos h)
theorem zi_us_2 {t : Int} (h : t = 2) : zi_us t = 5 := (if_neg (by omega)).trans ((if_neg (by omega)).trans (if_pos h))
theorem zi_us_3 {t : Int} (h : t = 3) : zi_us t = 0 := (if_neg (by omega)).trans ((if_neg (by omega)).trans ((if_neg (by omega)).trans (if_pos h)))
theorem zi_us_4 {t : Int} (h : ¬ t = 0 ∧ ¬ t = 1 ∧ ¬ t = 2 ∧ ¬ t = 3) : zi_us t = 20 := (if_neg h.1).trans ((if_neg h.2.1).trans ((if_neg h.2.2.1).trans (if_neg h.2.2.2)))
noncomputable def zi_hd (I : z_I) (o j : Nat) : Int := (I (o + 1) j).toInt
noncomputable def zi_nu (I : z_I) (o j : Nat) : Int := (I (o + 2) j).toInt
noncomputable def zi_kh (K : z_I) (st j : Nat) : Int := (K 15 (st + j)).toInt
noncomputable def zi_kn (K : z_I) (st j : Nat) : Int := (K 16 (st + j)).toInt
theorem zm_RS_g {K : z_I} : ∀ (rs : List zm_row) (i F0 j : Nat) (s : zp_T), zm_RS K i F0 rs → (rs.map Prod.fst)[j]? = some s → (K 15 (i + j)).toInt = s.1 - 300 ∧ (303 ≤ s.1 → (K 16 (i + j)).toInt = s.2.1)
  | [], _, _, j, s, _, h => by simp at h
  | (s1, a, b) :: rs, i, F0, 0, s, h, e => by
    have e : s1 = s := by simpa using e
    subst e
    exact ⟨h.1.1, h.1.2.1⟩
  | (s1, a, b) :: rs, i, F0, j + 1, s, h, e => by
    have e : (rs.map Prod.fst)[j]? = some s := by simpa using e
    have q := zm_RS_g rs (i + 1) _ j s h.2 e
    rw [show i + 1 + j = i + (j + 1) by omega] at q
    exact q
/-- both sides tell the same amount -/
theorem z_OW_A {c : z_C} {I K : z_I} {k : Nat} {t d : Int} (h : z_OW c I K) (hk : k < c.2.1) (ht : 0 ≤ t) : zi_A (zi_hd I (200 + 5 * k)) (zi_nu I (200 + 5 * k)) (303 + t) d (c.2.2.1 k) = zi_A (zi_kh K (K 11 k).toNatClampNeg) (zi_kn K (K 11 k).toNatClampNeg) (3 + t) d (c.2.2.1 k) := by
  obtain ⟨rs, F0, h1, h2, h3, h4, h5, h6, h7, h8, h9, h10, h11⟩ := h k hk
  refine zi_A_c _ (fun j hj => ?_)
  rw [h6] at hj
  have hl : j < (rs.map Prod.fst).length := by rw [List.length_map]; exact hj
  obtain ⟨s, hs⟩ : ∃ s, (rs.map Prod.fst)[j]? = some s := ⟨_, List.getElem?_eq_getElem hl⟩
  have g1 := (h11 j s hs).1
  have g2 := zm_RS_g rs _ _ j s h9 hs
  have e1 : zi_hd I (200 + 5 * k) j = s.1 := g1.1
  have e2 : zi_kh K (K 11 k).toNatClampNeg j = s.1 - 300 := g2.1
  refine ⟨by omega, fun z => ?_⟩
  have e3 : zi_nu I (200 + 5 * k) j = s.2.1 := g1.2.2.1 (by omega)
  have e4 : zi_kn K (K 11 k).toNatClampNeg j = s.2.1 := g2.2 (by omega)
  rw [e3, e4]
/-! rule -/
/-- what ORDERS in force tell of a word t: b is which, a the amount of the k-th, u what is usual -/
noncomputable def zi_R (mo td : Nat → Int) (m k : Int) (n : Nat) (u : Int) (a : Nat → Int) (r : Int) : Prop := ∃ b : Int, zi_B mo td m k n b ∧ ((b = -1 ∧ r = u) ∨ ∃ q : Nat, (q : Int) = b ∧ q < n ∧ r = a q)
theorem zi_R_u {mo td mo1 td1 : Nat → Int} {m k : Int} {n : Nat} {u r r1 : Int} {a a1 : Nat → Int} (h : zi_R mo td m k n u a r) (h2 : zi_R mo1 td1 m k n u a1 r1) (hc : ∀ j, j < n → mo1 j = mo j ∧ td1 j = td j) (ha : ∀ j, j < n → a j = a1 j) : r = r1 := by
  obtain ⟨b, g1, g2⟩ := h
  obtain ⟨b1, g3, g4⟩ := h2
  have e := zi_B_u (zi_B_c hc g1) g3
  rcases g2 with ⟨x1, x2⟩ | ⟨q, x1, x2, x3⟩ <;> rcases g4 with ⟨y1, y2⟩ | ⟨p, y1, y2, y3⟩
  · rw [x2, y2]
  · omega
  · omega
  · have e2 : q = p := by omega
    subst e2
    rw [x3, y3, ha q x2]
/-- one rule: what may be asked, and what is told -/
noncomputable def zi_rule (mo td : Nat → Int) (n : Nat) (a : Int → Nat → Int) (m k t r : Int) : Prop := (¬ (0 ≤ m ∧ m ≤ 23 ∧ 0 ≤ k ∧ k ≤ 719) ∧ r = -1) ∨ ((0 ≤ m ∧ m ≤ 23 ∧ 0 ≤ k ∧ k ≤ 719) ∧ ((t = 5 ∧ zi_B mo td m k n r) ∨ (¬ (0 ≤ t ∧ t ≤ 5) ∧ r = -1) ∨ (0 ≤ t ∧ t ≤ 4 ∧ zi_R mo td m k n (zi_us t) (a t) r)))
theorem zi_rule_u {mo td mo1 td1 : Nat → Int} {n : Nat} {a a1 : Int → Nat → Int} {m k t r r1 : Int} (h : zi_rule mo td n a m k t r) (h2 : zi_rule mo1 td1 n a1 m k t r1) (hc : ∀ j, j < n → mo1 j = mo j ∧ td1 j = td j) (ha : 0 ≤ t → t ≤ 4 → ∀ j, j < n → a t j = a1 t j) : r = r1 := by
  rcases h with ⟨x1, x2⟩ | ⟨x1, x2⟩ <;> rcases h2 with ⟨y1, y2⟩ | ⟨y1, y2⟩
  · omega
  · exact absurd y1 x1
  · exact absurd x1 y1
  · rcases x2 with ⟨z1, z2⟩ | ⟨z1, z2⟩ | ⟨z1, z2, z3⟩ <;> rcases y2 with ⟨w1, w2⟩ | ⟨w1, w2⟩ | ⟨w1, w2, w3⟩
    · exact zi_B_u (zi_B_c hc z2) w2
    · omega
    · omega
    · omega
    · omega
    · omega
    · omega
    · omega
    · exact zi_R_u z3 w3 hc (ha z1 z2)
theorem zi_un_us {x : Int32} (h0 : 0 ≤ x.toInt) (h4 : x.toInt ≤ 4) : (z_un x.toNatClampNeg).toInt = zi_us x.toInt := by
  have e := z_clt (x := x) rfl h0
  have hc : x.toInt = 0 ∨ x.toInt = 1 ∨ x.toInt = 2 ∨ x.toInt = 3 ∨ x.toInt = 4 := by omega
  rcases hc with q | q | q | q | q
  · rw [show x.toNatClampNeg = 0 by omega, q]
    decide
  · rw [show x.toNatClampNeg = 1 by omega, q]
    decide
  · rw [show x.toNatClampNeg = 2 by omega, q]
    decide
  · rw [show x.toNatClampNeg = 3 by omega, q]
    decide
  · rw [show x.toNatClampNeg = 4 by omega, q]
    decide
noncomputable def zi_ax (c : z_C) (I : z_I) (t : Int) (k : Nat) : Int := zi_A (zi_hd I (200 + 5 * k)) (zi_nu I (200 + 5 * k)) (303 + t) (zi_us t) (c.2.2.1 k)
noncomputable def zi_am (K : z_I) (t : Int) (k : Nat) : Int := zi_A (zi_kh K (K 11 k).toNatClampNeg) (zi_kn K (K 11 k).toNatClampNeg) (3 + t) (zi_us t) (K 12 k).toNatClampNeg
theorem zi_axm {c : z_C} {I K : z_I} {t : Int} (h : z_OW c I K) (ht : 0 ≤ t) : ∀ k, k < c.2.1 → zi_ax c I t k = zi_am K t k := fun k hk => by
  unfold zi_ax zi_am
  rw [z_OW_A h hk ht]
  obtain ⟨rs, F0, h1, h2, h3, h4, h5, h6, h7, h8, h9, h10, h11⟩ := h k hk
  have e := z_clt (x := K 12 k) rfl (by omega)
  rw [show (K 12 k).toNatClampNeg = c.2.2.1 k by omega]
/-- what is told lies in its bounds -/
theorem zi_A_b {hd nu : Nat → Int} {w d : Int} (hdb : 0 ≤ d ∧ d ≤ 999999) : ∀ n : Nat, (∀ j, j < n → hd j = w → 0 ≤ nu j ∧ nu j ≤ 999999) → 0 ≤ zi_A hd nu w d n ∧ zi_A hd nu w d n ≤ 999999
  | 0, _ => hdb
  | n + 1, h => by
    by_cases q : hd n = w
    · rw [zi_A_y q]
      exact h n (Nat.lt_succ_self n) q
    · rw [zi_A_n q]
      exact zi_A_b hdb n (fun j hj => h j (by omega))
theorem zi_us_b {t : Int} : 0 ≤ zi_us t ∧ zi_us t ≤ 999999 := by
  unfold zi_us
  split
  · decide
  · split
    · decide
    · split
      · decide
      · split <;> decide
theorem zi_R_b {mo td : Nat → Int} {m k : Int} {n : Nat} {u r : Int} {a : Nat → Int} (h : zi_R mo td m k n u a r) (hu : 0 ≤ u ∧ u ≤ 999999) (ha : ∀ j, j < n → 0 ≤ a j ∧ a j ≤ 999999) : 0 ≤ r ∧ r ≤ 999999 := by
  obtain ⟨b, _, ⟨_, q⟩ | ⟨j, _, q2, q3⟩⟩ := h
  · rw [q]
    exact hu
  · rw [q3]
    exact ha j q2
theorem z_OW_b {c : z_C} {I K : z_I} {t : Int} (h : z_OW c I K) (ht : 0 ≤ t) : ∀ k, k < c.2.1 → 0 ≤ zi_ax c I t k ∧ zi_ax c I t k ≤ 999999 := fun k hk => by
  obtain ⟨rs, F0, h1, h2, h3, h4, h5, h6, h7, h8, h9, h10, h11⟩ := h k hk
  unfold zi_ax
  refine zi_A_b zi_us_b _ (fun j hj hw => ?_)
  have hl : j < (rs.map Prod.fst).length := by rw [List.length_map]; omega
  obtain ⟨g1, _, g3⟩ := h11 j _ (List.getElem?_eq_getElem hl)
  have e1 : zi_hd I (200 + 5 * k) j = ((rs.map Prod.fst)[j]).1 := g1.1
  have e2 : zi_nu I (200 + 5 * k) j = ((rs.map Prod.fst)[j]).2.1 := g1.2.2.1 (by omega)
  rw [e2]
  exact g3 (by omega)
/-- p10's answers -/
theorem z_OW_rule {c : z_C} {I K : z_I} {m k t r r1 : Int} {n1 : Nat} (h : z_OW c I K) (hn : n1 = c.2.1) (h1 : zi_rule (zi_mo I) (zi_td I) c.2.1 (zi_ax c I) m k t r) (h2 : zi_rule (zi_km K) (zi_kt K) n1 (zi_am K) m k t r1) : r = r1 := by
  rw [hn] at h2
  refine zi_rule_u h1 h2 (fun j hj => ?_) (fun t0 _ j hj => zi_axm h t0 j hj)
  obtain ⟨rs, F0, g1, g2, g3, _⟩ := h j hj
  exact ⟨g1.symm, g3.symm⟩
set_option maxHeartbeats 8000000 in
set_option maxRecDepth 100000 in
theorem sx_X11_usual_x (l : Launch) (G : z_G) (ad : Nat → Nat) (c : z_C) (I : z_I) (a1 : Int32) (q1 : 0 ≤ a1.toInt ∧ a1.toInt ≤ 4) : z_MS l yX11_usual wsX11_usual { frames := 1, cells := 0, slots := 0, locals := 12 } [.int a1] G (shC c, ad, I, JX, PC c ad) (fun r u1 => u1 = (shC c, ad, I, JX, PC c ad) ∧ (r = z_un a1.toNatClampNeg)) 0 0 := by
  intro sz
  refine z_headS (cc := cX11_usual) (maxL := 1) (ret := (some .int)) (by decide) rfl (Nat.le_of_ble_eq_true rfl) ?_
  intro p e s m below meth c0 ls hIn hK hsz hW hl hSt
  obtain ⟨hx, hb, hr, hml, hown, hts, hlocks, hname⟩ := hIn
  subst hsz
  have hown : s.vm.findClass RX11 = some m.cls := hown
  have hA : ∀ q : Nat, s.heap.size ≤ q → z_A (shC c, ad, I, JX, PC c ad) s.heap.size q := fun q h => Or.inr h
  generalize hAe : z_A (shC c, ad, I, JX, PC c ad) s.heap.size = A at *
  have hS : va_S A s.heap s.heap [] := va_S.rf
  have hl : lv_has ls 1 [(0, .int a1)] := hl
  obtain ⟨t0, hZ, hT⟩ := hSt
  refine lv_iload_n hx hb dX11_usual_0 rfl (lv_at hl 0 rfl) ?_
  refine lv_if_lt (tgt := 20) hx hb dX11_usual_1 (by decide) (fun c1 => (by have g := z_f_lt rfl z_l0 c1; omega)) (fun c1 => ?_)
  have g2 := z_f_nlt rfl z_l0 c1
  refine lv_iload_n hx hb dX11_usual_4 rfl (lv_at hl 0 rfl) ?_
  refine va_gets hx hb hZ hS hown (hts (.fieldLink RX11 426 "PetrolBoard" "USUAL" "[I") (me_s (List.mem_of_getElem? (i := 0) rfl))) (fun _ h => h) dX11_usual_5 ?_
  refine va_tlen (v := 5) hx hb hT hS rfl dX11_usual_8 ?_
  refine lv_icmp_ge (tgt := 20) hx hb dX11_usual_9 (by decide) (fun c3 => (by have g := z_f_ge rfl z_l5 c3; omega)) (fun c3 => ?_)
  have g4 := z_f_nge rfl z_l5 c3
  refine va_gets hx hb hZ hS hown (hts (.fieldLink RX11 426 "PetrolBoard" "USUAL" "[I") (me_s (List.mem_of_getElem? (i := 0) rfl))) (fun _ h => h) dX11_usual_12 ?_
  refine lv_iload_n hx hb dX11_usual_15 rfl (lv_at hl 0 rfl) ?_
  refine va_ti (v := .int (z_un (a1 : Int32).toNatClampNeg)) hx hb hT hS (z_ix rfl (by omega) (by omega)) rfl dX11_usual_16 ?_
  refine lv_topi (fun x5 ex5 => ?_)
  refine lv_goto (tgt := 21) hx hb dX11_usual_17 (by decide) ?_
  exact z_iret hx hb hr hK hS (Nat.le_of_ble_eq_true rfl) (Nat.le_of_ble_eq_true rfl) hlocks dX11_usual_21 (shC c, ad, I, JX, PC c ad) hW ⟨rfl, (by first | rfl | exact ex5 | exact ex5.symm)⟩
set_option maxHeartbeats 8000000 in
set_option maxRecDepth 100000 in
theorem sx_X7_amount_x (l : Launch) (G : z_G) (ad : Nat → Nat) (c : z_C) (I : z_I) (k : Nat) (a1 : Int32) (hk : k < c.2.1) (hc : z_okc c) (q1 : 0 ≤ a1.toInt ∧ a1.toInt ≤ 4) : z_MS l yX7_amount wsX7_amount { frames := 2, cells := 0, slots := 0, locals := 32 } [.ref (ad (200 + 5 * k)), .int a1] G (shC c, ad, I, JX, PC c ad) (fun r u1 => u1 = (shC c, ad, I, JX, PC c ad) ∧ (r.toInt = zi_A (zi_hd I (200 + 5 * k)) (zi_nu I (200 + 5 * k)) (303 + a1.toInt) (z_un a1.toNatClampNeg).toInt (c.2.2.1 k))) 0 0 := by
  intro sz
  refine z_headS (cc := cX7_amount) (maxL := 3) (ret := (some .int)) (by decide) rfl (Nat.le_of_ble_eq_true rfl) ?_
  intro p e s m below meth c0 ls hIn hK hsz hW hl hSt
  obtain ⟨hx, hb, hr, hml, hown, hts, hlocks, hname⟩ := hIn
  subst hsz
  have hown : s.vm.findClass RX7 = some m.cls := hown
  have hA : ∀ q : Nat, s.heap.size ≤ q → z_A (shC c, ad, I, JX, PC c ad) s.heap.size q := fun q h => Or.inr h
  generalize hAe : z_A (shC c, ad, I, JX, PC c ad) s.heap.size = A at *
  have hS : va_S A s.heap s.heap [] := va_S.rf
  have hl : lv_has ls 3 [(0, .ref (ad (200 + 5 * k))), (1, .int a1)] := hl
  refine lv_aload_n hx hb dX7_amount_0 rfl (lv_at hl 0 rfl) ?_
  refine z_get (T := TX7) (N := 6) (ci := 7) (i := (200 + 5 * k)) (v := .ref (ad (200 + 5 * k + 2))) hx hb hts zj_X7_amount_X7 hown hK hW (z_so0 hk) rfl 3 (by decide) (hts (.fieldLink RX7 44 "PetrolBoard$Orders" "first" "[I") (me_s (me_l (List.mem_of_getElem? (i := 0) rfl)))) (fun _ h => h) (z_pO rfl rfl) dX7_amount_1 ?_
  have r1 := (hc k hk).1
  refine z_alen (i := (200 + 5 * k + 2)) (v := (c.2.2.1 k).toInt32) hx hb hK hW (z_so123 hk (by decide)) (by simp [z_tys]) (by rfl) dX7_amount_4 ?_
  refine lv_iconst (v := 1) hx hb dX7_amount_5 (by decide) ?_
  refine lv_isub hx hb dX7_amount_6 ?_
  refine lv_topi (fun x2 ex2 => ?_)
  have tx2 : x2.toInt = ((c.2.2.1 k : Nat) : Int) - 1 := z_tsub ex2 (z_len (Nat.le_trans (hc k hk).1 (by decide))) z_l1 (by omega) (by omega)
  refine lv_istore_n (lv' := [(2, .int x2), (0, .ref (ad (200 + 5 * k))), (1, .int a1)]) hx hb dX7_amount_7 rfl hl (by decide) rfl (fun ls hl => ?_)
  have lp3 : ∀ (f : Nat) (y4 : Int32) (H : Heap) (locs : List Loc) (ls : Array Slot), (y4.toInt + 2147483648 < (f : Int)) → (y4.toInt ≤ 23) → (y4.toInt ≤ x2.toInt) → (∃ i : Nat, (i : Int) = y4.toInt + 1 ∧ i ≤ c.2.2.1 k ∧ zi_A (zi_hd I (200 + 5 * k)) (zi_nu I (200 + 5 * k)) (303 + a1.toInt) (z_un a1.toNatClampNeg).toInt i = zi_A (zi_hd I (200 + 5 * k)) (zi_nu I (200 + 5 * k)) (303 + a1.toInt) (z_un a1.toNatClampNeg).toInt (c.2.2.1 k)) → z_W G A (shC c, ad, I, JX, PC c ad) H → va_S A s.heap H locs → lv_has ls 3 [(2, .int y4), (0, .ref (ad (200 + 5 * k))), (1, .int a1)] → W p l e (headSpec wsX7_amount { frames := 2, cells := 0, slots := 0, locals := 32 }).room s m ([.ref (ad (200 + 5 * k)), .int a1] : List Value).toArray below meth c0 H locs 0 0 (MQ below (va_Qi (fun (r : Int32) (u1 : z_U) => u1 = (shC c, ad, I, JX, PC c ad) ∧ (r.toInt = zi_A (zi_hd I (200 + 5 * k)) (zi_nu I (200 + 5 * k)) (303 + a1.toInt) (z_un a1.toNatClampNeg).toInt (c.2.2.1 k))) (z_B G A) A) ([.ref (ad (200 + 5 * k)), .int a1] : List Value).toArray s 0 0 A) (F0 m 8 ls []) := by
    intro f
    induction f with
    | zero => intro y4 H locs ls lp3m lp3u2 lp3z lp3B hW hS hl; exact absurd lp3m (by have := Int32.toInt_lt y4; have := Int32.le_toInt y4; omega)
    | succ f lp3ih =>
      intro y4 H locs ls lp3m lp3u2 lp3z lp3B hW hS hl
      refine lv_iload_n hx hb dX7_amount_8 rfl (lv_at hl 0 rfl) ?_
      refine lv_if_lt (tgt := 48) hx hb dX7_amount_9 (by decide) (fun c5 => ?_) (fun c5 => ?_)
      · have g6 := z_f_lt rfl z_l0 c5
        refine lv_iload_n hx hb dX7_amount_48 rfl (lv_at hl 2 rfl) ?_
        refine z_ci hW hS hA (va_runSN (As := [.int a1]) (rest := []) ⟨hx, hb, hml, hown, hts⟩ (sx_X11_usual_x l G ad c I a1 (by omega) _) ⟨va_cnB 1 hts gX7_amount_X11_usual_n53 rfl rfl rfl (hK.2.2.1 _ (List.mem_of_getElem? (i := 10) rfl)) (hts (.initialized RX11) (me_s (me_l (List.mem_of_getElem? (i := 3) rfl)))) (by decide +kernel) ⟨Nat.le_of_ble_eq_true rfl, Nat.le_of_ble_eq_true rfl⟩, (hts (.static yX11_usual) (me_s (me_l (List.mem_of_getElem? (i := 2) rfl)))), trivial⟩ (z_preSS hK hW hS hA hSt) rfl rfl hl.1 rfl (lv_room (Nat.le_of_ble_eq_true rfl)) dX7_amount_49 ⟨Nat.le_of_ble_eq_true rfl, Nat.le_of_ble_eq_true rfl⟩) (fun r u1 H locs hp hW hS => ?_)
        obtain ⟨e9, hp⟩ := hp
        rw [e9] at hW
        refine lv_topi (fun x7 ex7 => ?_)
        rw [← ex7] at hp
        have hux7 := hp
        exact z_iret hx hb hr hK hS (Nat.le_of_ble_eq_true rfl) (Nat.le_of_ble_eq_true rfl) hlocks dX7_amount_52 (shC c, ad, I, JX, PC c ad) hW ⟨rfl, (by obtain ⟨i9, hi9, hn9, hB9⟩ := lp3B; rw [← hB9, show i9 = 0 by omega, hux7]; rfl)⟩
      · have g8 := z_f_nlt rfl z_l0 c5
        refine lv_iload_n hx hb dX7_amount_12 rfl (lv_at hl 0 rfl) ?_
        refine lv_aload_n hx hb dX7_amount_13 rfl (lv_at hl 1 rfl) ?_
        refine z_get (T := TX7) (N := 6) (ci := 7) (i := (200 + 5 * k)) (v := .ref (ad (200 + 5 * k + 1))) hx hb hts zj_X7_amount_X7 hown hK hW (z_so0 hk) rfl 2 (by decide) (hts (.fieldLink RX7 40 "PetrolBoard$Orders" "head" "[I") (me_s (me_l (List.mem_of_getElem? (i := 1) rfl)))) (fun _ h => h) (z_pO rfl rfl) dX7_amount_14 ?_
        have r9 := (hc k hk).1
        refine z_alen (i := (200 + 5 * k + 1)) (v := (c.2.2.1 k).toInt32) hx hb hK hW (z_so123 hk (by decide)) (by simp [z_tys]) (by rfl) dX7_amount_17 ?_
        refine lv_icmp_ge (tgt := 42) hx hb dX7_amount_18 (by decide) (fun c10 => ?_) (fun c10 => ?_)
        · have g11 := z_f_ge rfl (z_len (Nat.le_trans (hc k hk).1 (by decide))) c10
          obtain ⟨x12, ex12⟩ : ∃ y : Int32, y = y4 + (-1) := ⟨_, rfl⟩
          have tx12 : x12.toInt = y4.toInt + (-1) := z_tadd ex12 rfl z_lm1 (by omega) (by omega)
          refine lv_iinc (v := x12) (lv' := [(2, .int x12), (0, .ref (ad (200 + 5 * k))), (1, .int a1)]) hx hb dX7_amount_42 hl (k := 0) rfl (by rw [ex12]; rfl) (by decide) rfl (fun ls hl => ?_)
          refine lv_goto (tgt := 8) hx hb dX7_amount_45 (by decide) ?_
          exact lp3ih x12 _ _ _ (by omega) (by omega) (by omega) (by obtain ⟨i9, hi9, hn9, hB9⟩ := lp3B; first | (exfalso; omega) | exact ⟨y4.toNatClampNeg, by omega, by omega, by rw [← hB9, show i9 = y4.toNatClampNeg + 1 by omega]; exact (zi_A_n (by omega)).symm⟩) hW hS (lv_sub hl [0, 1, 2] rfl)
        · have g13 := z_f_nge rfl (z_len (Nat.le_trans (hc k hk).1 (by decide))) c10
          refine lv_aload_n hx hb dX7_amount_21 rfl (lv_at hl 1 rfl) ?_
          refine z_get (T := TX7) (N := 6) (ci := 7) (i := (200 + 5 * k)) (v := .ref (ad (200 + 5 * k + 1))) hx hb hts zj_X7_amount_X7 hown hK hW (z_so0 hk) rfl 2 (by decide) (hts (.fieldLink RX7 40 "PetrolBoard$Orders" "head" "[I") (me_s (me_l (List.mem_of_getElem? (i := 1) rfl)))) (fun _ h => h) (z_pO rfl rfl) dX7_amount_22 ?_
          refine lv_iload_n hx hb dX7_amount_25 rfl (lv_at hl 0 rfl) ?_
          refine z_iald (i := (200 + 5 * k + 1)) hx hb hK hW (z_so123 hk (by decide)) (z_ix rfl (by omega) (by omega)) dX7_amount_26 ?_
          refine lv_topi (fun x14 ex14 => ?_)
          have h15 : zi_hd I (200 + 5 * k) y4.toNatClampNeg = x14.toInt := by unfold zi_hd; rw [ex14]
          have h16 := z_clt (x := y4) rfl (by omega)
          refine lv_sipush (v := 303) hx hb dX7_amount_27 (by decide) ?_
          refine lv_iload_n hx hb dX7_amount_30 rfl (lv_at hl 2 rfl) ?_
          refine lv_iadd hx hb dX7_amount_31 ?_
          refine lv_topi (fun x17 ex17 => ?_)
          have tx17 : x17.toInt = 303 + a1.toInt := z_tadd ex17 z_l303 rfl (by omega) (by omega)
          refine lv_icmp_ne (tgt := 42) hx hb dX7_amount_32 (by decide) (fun c18 => ?_) (fun c18 => ?_)
          · have g19 := z_f_ne rfl rfl c18
            have b20 := Int32.toInt_lt x14
            obtain ⟨x21, ex21⟩ : ∃ y : Int32, y = y4 + (-1) := ⟨_, rfl⟩
            have tx21 : x21.toInt = y4.toInt + (-1) := z_tadd ex21 rfl z_lm1 (by omega) (by omega)
            refine lv_iinc (v := x21) (lv' := [(2, .int x21), (0, .ref (ad (200 + 5 * k))), (1, .int a1)]) hx hb dX7_amount_42 hl (k := 0) rfl (by rw [ex21]; rfl) (by decide) rfl (fun ls hl => ?_)
            refine lv_goto (tgt := 8) hx hb dX7_amount_45 (by decide) ?_
            exact lp3ih x21 _ _ _ (by omega) (by omega) (by omega) (by obtain ⟨i9, hi9, hn9, hB9⟩ := lp3B; first | (exfalso; omega) | exact ⟨y4.toNatClampNeg, by omega, by omega, by rw [← hB9, show i9 = y4.toNatClampNeg + 1 by omega]; exact (zi_A_n (by omega)).symm⟩) hW hS (lv_sub hl [0, 1, 2] rfl)
          · have g22 := z_f_eq rfl rfl c18
            have b23 := Int32.toInt_lt x14
            refine lv_aload_n hx hb dX7_amount_35 rfl (lv_at hl 1 rfl) ?_
            refine z_get (T := TX7) (N := 6) (ci := 7) (i := (200 + 5 * k)) (v := .ref (ad (200 + 5 * k + 2))) hx hb hts zj_X7_amount_X7 hown hK hW (z_so0 hk) rfl 3 (by decide) (hts (.fieldLink RX7 44 "PetrolBoard$Orders" "first" "[I") (me_s (me_l (List.mem_of_getElem? (i := 0) rfl)))) (fun _ h => h) (z_pO rfl rfl) dX7_amount_36 ?_
            refine lv_iload_n hx hb dX7_amount_39 rfl (lv_at hl 0 rfl) ?_
            refine z_iald (i := (200 + 5 * k + 2)) hx hb hK hW (z_so123 hk (by decide)) (z_ix rfl (by omega) (by omega)) dX7_amount_40 ?_
            refine lv_topi (fun x24 ex24 => ?_)
            have h25 : zi_nu I (200 + 5 * k) y4.toNatClampNeg = x24.toInt := by unfold zi_nu; rw [ex24]
            have h26 := z_clt (x := y4) rfl (by omega)
            exact z_iret hx hb hr hK hS (Nat.le_of_ble_eq_true rfl) (Nat.le_of_ble_eq_true rfl) hlocks dX7_amount_41 (shC c, ad, I, JX, PC c ad) hW ⟨rfl, (by obtain ⟨i9, hi9, hn9, hB9⟩ := lp3B; rw [← hB9, show i9 = y4.toNatClampNeg + 1 by omega, zi_A_y (by omega)]; omega)⟩
  exact lp3 4294967296 x2 _ _ _ (z_m0d _) (by omega) (by omega) ⟨c.2.2.1 k, by omega, Nat.le_refl _, rfl⟩ hW hS (lv_sub hl [0, 1, 2] rfl)
set_option maxHeartbeats 8000000 in
set_option maxRecDepth 100000 in
theorem sx_X12_number_x (l : Launch) (G : z_G) (ad : Nat → Nat) (I : z_I) (J : z_J) (hmb : z_imb I) (hAtf : z_rg 11 0 288 I) (hAtm : z_rg 12 0 24 I) (a1 : Int32) (a2 : Int32) (a3 : Int32) (q1 : 3 ≤ a3.toInt ∧ a3.toInt ≤ 7) : z_M l yX12_number wsX12_number { frames := 2, cells := 0, slots := 0, locals := 36 } [.ref (ad 0), .int a1, .int a2, .int a3] G (shM, ad, I, J, PM ad) (fun r u1 => u1 = (shM, ad, I, J, PM ad) ∧ (zi_R (zi_km I) (zi_kt I) a1.toInt a2.toInt (I 0 13).toNatClampNeg (zi_us (a3.toInt - 3)) (zi_am I (a3.toInt - 3)) r.toInt)) 0 0 := sorry
end SG60y5
section SG60y6


set_option maxHeartbeats 8000000 in
set_option maxRecDepth 100000 in
theorem sx_X6_ordersOf_x (l : Launch) (G : z_G) (ad : Nat → Nat) (c : z_C) (I : z_I) (hO : z_iO I) (a1 : Int32) (a2 : Int32) (hon : (I 21 2).toInt = (c.2.1 : Int)) (hmo : ∀ j, j < c.2.1 → 0 ≤ (I (200 + 5 * j) 0).toInt) : z_Mq l yX6_ordersOf wsX6_ordersOf { frames := 2, cells := 0, slots := 0, locals := 39 } [.ref (ad 21), .int a1, .int a2] G (shC c, ad, I, JX, PC c ad) (fun r u1 => u1 = (shC c, ad, I, JX, PC c ad) ∧ ((r = none ∧ zi_B (zi_mo I) (zi_td I) a1.toInt a2.toInt c.2.1 (-1)) ∨ ∃ k, k < c.2.1 ∧ r = some (ad (200 + 5 * k)) ∧ zi_B (zi_mo I) (zi_td I) a1.toInt a2.toInt c.2.1 (k : Int))) 0 0 := by
  intro sz
  refine z_headQ (cc := cX6_ordersOf) (maxL := 4) (ret := (some (.object "PetrolBoard$Orders"))) (by decide) rfl (Nat.le_of_ble_eq_true rfl) ?_
  intro p e s m below meth c0 ls hIn hK hsz hW hl
  obtain ⟨hx, hb, hr, hml, hown, hts, hlocks, hname⟩ := hIn
  subst hsz
  have hown : s.vm.findClass RX6 = some m.cls := hown
  have hA : ∀ q : Nat, s.heap.size ≤ q → z_A (shC c, ad, I, JX, PC c ad) s.heap.size q := fun q h => Or.inr h
  generalize hAe : z_A (shC c, ad, I, JX, PC c ad) s.heap.size = A at *
  have hS : va_S A s.heap s.heap [] := va_S.rf
  have hl : lv_has ls 4 [(0, .ref (ad 21)), (1, .int a1), (2, .int a2)] := hl
  refine lv_aload_n hx hb dX6_ordersOf_0 rfl (lv_at hl 0 rfl) ?_
  refine lv_iload_n hx hb dX6_ordersOf_1 rfl (lv_at hl 1 rfl) ?_
  refine lv_iload_n hx hb dX6_ordersOf_2 rfl (lv_at hl 2 rfl) ?_
  refine z_ci hW hS hA (va_runV (As := [.int a1, .int a2]) (rest := []) ⟨hx, hb, hml, hown, hts⟩ (sx_X6_inForce_x l G ad c I (by show 0 ≤ (I 21 2).toInt ∧ (I 21 2).toInt ≤ 12; exact hO) a1 a2 hon hmo _) (cwV 2 hts gX6_ordersOf_X6_inForce rfl rfl rfl (by decide +kernel) ⟨Nat.le_of_ble_eq_true rfl, Nat.le_of_ble_eq_true rfl⟩) (z_preV (i := 21) hK hW rfl rfl) rfl rfl hl.1 rfl (lv_room (Nat.le_of_ble_eq_true rfl)) dX6_ordersOf_3 ⟨Nat.le_of_ble_eq_true rfl, Nat.le_of_ble_eq_true rfl⟩) (fun r u1 H locs hp hW hS => ?_)
  obtain ⟨e9, hp⟩ := hp
  rw [e9] at hW
  refine lv_topi (fun x1 ex1 => ?_)
  rw [← ex1] at hp
  obtain ⟨hB_x1, h2⟩ := hp
  refine lv_istore_n (lv' := [(3, .int x1), (0, .ref (ad 21)), (1, .int a1), (2, .int a2)]) hx hb dX6_ordersOf_6 rfl hl (by decide) rfl (fun ls hl => ?_)
  refine lv_iload_n hx hb dX6_ordersOf_7 rfl (lv_at hl 0 rfl) ?_
  refine lv_if_lt (tgt := 29) hx hb dX6_ordersOf_8 (by decide) (fun c3 => ?_) (fun c3 => ?_)
  · have g4 := z_f_lt rfl z_l0 c3
    refine lv_null hx hb dX6_ordersOf_29 ?_
    exact z_nret hx hb hr hK hS (Nat.le_of_ble_eq_true rfl) (Nat.le_of_ble_eq_true rfl) hlocks dX6_ordersOf_30 (shC c, ad, I, JX, PC c ad) hW ⟨rfl, (by first | exact Or.inl ⟨rfl, by rw [show (-1 : Int) = x1.toInt by omega]; exact hB_x1⟩ | (exfalso; have z9 := z_clt (x := x1) rfl (by omega); rcases hB_x1 with ⟨z1, _⟩ | ⟨q9, z1, z2, _⟩ <;> omega))⟩
  · have g5 := z_f_nlt rfl z_l0 c3
    refine lv_iload_n hx hb dX6_ordersOf_11 rfl (lv_at hl 0 rfl) ?_
    refine lv_aload_n hx hb dX6_ordersOf_12 rfl (lv_at hl 1 rfl) ?_
    refine z_get (T := TX6) (N := 3) (ci := 6) (i := 21) (v := .ref (ad 22)) hx hb hts zj_X6_ordersOf_X6 hown hK hW rfl rfl 0 (by decide) (hts (.fieldLink RX6 11 "PetrolBoard$OrderBook" "told" "[LPetrolBoard$Orders;") (me_s (me_l (me_l (List.mem_of_getElem? (i := 0) rfl))))) (fun _ h => h) rfl dX6_ordersOf_13 ?_
    refine z_alen (i := 22) (v := 12) hx hb hK hW rfl (by simp [z_tys]) (by rfl) dX6_ordersOf_16 ?_
    refine lv_icmp_ge (tgt := 29) hx hb dX6_ordersOf_17 (by decide) (fun c6 => (by have g := z_f_ge rfl z_l12 c6; omega)) (fun c6 => ?_)
    have g7 := z_f_nge rfl z_l12 c6
    refine lv_aload_n hx hb dX6_ordersOf_20 rfl (lv_at hl 1 rfl) ?_
    refine z_get (T := TX6) (N := 3) (ci := 6) (i := 21) (v := .ref (ad 22)) hx hb hts zj_X6_ordersOf_X6 hown hK hW rfl rfl 0 (by decide) (hts (.fieldLink RX6 11 "PetrolBoard$OrderBook" "told" "[LPetrolBoard$Orders;") (me_s (me_l (me_l (List.mem_of_getElem? (i := 0) rfl))))) (fun _ h => h) rfl dX6_ordersOf_21 ?_
    refine lv_iload_n hx hb dX6_ordersOf_24 rfl (lv_at hl 0 rfl) ?_
    obtain ⟨k8, ek8⟩ : ∃ k : Nat, (x1 : Int32).toNatClampNeg = k := ⟨_, rfl⟩
    rcases Nat.lt_or_ge k8 c.2.1 with hk8 | hk8
    · refine z_aald (i := 22) (v := .ref (ad (200 + 5 * k8))) hx hb hK hW rfl (by simp [z_tys]) rfl (z_ix rfl (by omega) (by omega)) (z_p22 ek8 hk8) dX6_ordersOf_25 ?_
      refine lv_goto (tgt := 30) hx hb dX6_ordersOf_26 (by decide) ?_
      exact z_qretO hx hb hr hK hS (Nat.le_of_ble_eq_true rfl) (Nat.le_of_ble_eq_true rfl) hlocks dX6_ordersOf_30 (shC c, ad, I, JX, PC c ad) hW ⟨rfl, (Or.inr ⟨k8, hk8, rfl, by have z9 := z_clt (x := x1) rfl (by omega); rw [show ((k8 : Nat) : Int) = x1.toInt by omega]; exact hB_x1⟩)⟩
    · refine z_aald (i := 22) (v := .null) hx hb hK hW rfl (by simp [z_tys]) rfl (z_ix rfl (by omega) (by omega)) (z_p22n (by rw [ek8]; omega)) dX6_ordersOf_25 ?_
      refine lv_goto (tgt := 30) hx hb dX6_ordersOf_26 (by decide) ?_
      exact z_nret hx hb hr hK hS (Nat.le_of_ble_eq_true rfl) (Nat.le_of_ble_eq_true rfl) hlocks dX6_ordersOf_30 (shC c, ad, I, JX, PC c ad) hW ⟨rfl, (by first | exact Or.inl ⟨rfl, by rw [show (-1 : Int) = x1.toInt by omega]; exact hB_x1⟩ | (exfalso; have z9 := z_clt (x := x1) rfl (by omega); rcases hB_x1 with ⟨z1, _⟩ | ⟨q9, z1, z2, _⟩ <;> omega))⟩
set_option maxHeartbeats 8000000 in
set_option maxRecDepth 100000 in
theorem sx_X6_amount_x (l : Launch) (G : z_G) (ad : Nat → Nat) (c : z_C) (I : z_I) (hO : z_iO I) (a1 : Int32) (a2 : Int32) (a3 : Int32) (hc : z_okc c) (hon : (I 21 2).toInt = (c.2.1 : Int)) (hmo : ∀ j, j < c.2.1 → 0 ≤ (I (200 + 5 * j) 0).toInt) (q1 : 0 ≤ a1.toInt ∧ a1.toInt ≤ 4) : z_MS l yX6_amount wsX6_amount { frames := 3, cells := 0, slots := 0, locals := 62 } [.ref (ad 21), .int a1, .int a2, .int a3] G (shC c, ad, I, JX, PC c ad) (fun r u1 => u1 = (shC c, ad, I, JX, PC c ad) ∧ (zi_R (zi_mo I) (zi_td I) a2.toInt a3.toInt c.2.1 (zi_us a1.toInt) (zi_ax c I a1.toInt) r.toInt)) 0 0 := by
  intro sz
  refine z_headS (cc := cX6_amount) (maxL := 5) (ret := (some .int)) (by decide) rfl (Nat.le_of_ble_eq_true rfl) ?_
  intro p e s m below meth c0 ls hIn hK hsz hW hl hSt
  obtain ⟨hx, hb, hr, hml, hown, hts, hlocks, hname⟩ := hIn
  subst hsz
  have hown : s.vm.findClass RX6 = some m.cls := hown
  have hA : ∀ q : Nat, s.heap.size ≤ q → z_A (shC c, ad, I, JX, PC c ad) s.heap.size q := fun q h => Or.inr h
  generalize hAe : z_A (shC c, ad, I, JX, PC c ad) s.heap.size = A at *
  have hS : va_S A s.heap s.heap [] := va_S.rf
  have hl : lv_has ls 5 [(0, .ref (ad 21)), (1, .int a1), (2, .int a2), (3, .int a3)] := hl
  refine lv_aload_n hx hb dX6_amount_0 rfl (lv_at hl 0 rfl) ?_
  refine lv_iload_n hx hb dX6_amount_1 rfl (lv_at hl 2 rfl) ?_
  refine lv_iload_n hx hb dX6_amount_2 rfl (lv_at hl 3 rfl) ?_
  refine z_cq hW hS hA (va_runV (As := [.int a2, .int a3]) (rest := []) ⟨hx, hb, hml, hown, hts⟩ (sx_X6_ordersOf_x l G ad c I (by show 0 ≤ (I 21 2).toInt ∧ (I 21 2).toInt ≤ 12; exact hO) a2 a3 hon hmo _) (cwV 2 hts gX6_amount_X6_ordersOf rfl rfl rfl (by decide +kernel) ⟨Nat.le_of_ble_eq_true rfl, Nat.le_of_ble_eq_true rfl⟩) (z_preV (i := 21) hK hW rfl rfl) rfl rfl hl.1 rfl (lv_room (Nat.le_of_ble_eq_true rfl)) dX6_amount_3 ⟨Nat.le_of_ble_eq_true rfl, Nat.le_of_ble_eq_true rfl⟩) (fun r u1 H locs hp hW hS => ?_)
  obtain ⟨e9, hp⟩ := hp
  rw [e9] at hW
  rcases hp with ⟨rfl, hb2⟩ | ⟨k1, hk1, rfl, hb2⟩
  · refine W.eq (g2 := F0 m 6 ls (.null :: [])) rfl ?_
    refine lv_astoreN (lv' := [(4, .null), (0, .ref (ad 21)), (1, .int a1), (2, .int a2), (3, .int a3)]) hx hb dX6_amount_6 hl (by decide) rfl (fun ls hl => ?_)
    refine lv_aloadN hx hb dX6_amount_8 (lv_at hl 0 rfl) ?_
    refine lv_ifnonnullN hx hb dX6_amount_10 ?_
    refine lv_iload_n hx hb dX6_amount_13 rfl (lv_at hl 2 rfl) ?_
    refine z_ci hW hS hA (va_runSN (As := [.int a1]) (rest := []) ⟨hx, hb, hml, hown, hts⟩ (sx_X11_usual_x l G ad c I a1 (by omega) _) ⟨va_cnB 1 hts gX6_amount_X11_usual_n42 rfl rfl rfl (hK.2.2.1 _ (List.mem_of_getElem? (i := 9) rfl)) (hts (.initialized RX11) (me_s (me_l (me_l (List.mem_of_getElem? (i := 14) rfl))))) (by decide +kernel) ⟨Nat.le_of_ble_eq_true rfl, Nat.le_of_ble_eq_true rfl⟩, (hts (.static yX11_usual) (me_s (me_l (me_l (List.mem_of_getElem? (i := 13) rfl))))), trivial⟩ (z_preSS hK hW hS hA hSt) rfl rfl hl.1 rfl (lv_room (Nat.le_of_ble_eq_true rfl)) dX6_amount_14 ⟨Nat.le_of_ble_eq_true rfl, Nat.le_of_ble_eq_true rfl⟩) (fun r u1 H locs hp hW hS => ?_)
    obtain ⟨e9, hp⟩ := hp
    rw [e9] at hW
    refine lv_topi (fun x3 ex3 => ?_)
    rw [← ex3] at hp
    have hux3 := hp
    refine lv_goto (tgt := 26) hx hb dX6_amount_17 (by decide) ?_
    exact z_iret hx hb hr hK hS (Nat.le_of_ble_eq_true rfl) (Nat.le_of_ble_eq_true rfl) hlocks dX6_amount_26 (shC c, ad, I, JX, PC c ad) hW ⟨rfl, ⟨-1, hb2, Or.inl ⟨rfl, by rw [hux3]; exact zi_un_us (by omega) (by omega)⟩⟩⟩
  · refine W.eq (g2 := F0 m 6 ls (.ref (ad (200 + 5 * k1)) :: [])) rfl ?_
    refine lv_astore (lv' := [(4, .ref (ad (200 + 5 * k1))), (0, .ref (ad 21)), (1, .int a1), (2, .int a2), (3, .int a3)]) hx hb dX6_amount_6 hl (by decide) rfl (fun ls hl => ?_)
    refine lv_aload hx hb dX6_amount_8 (lv_at hl 0 rfl) ?_
    refine lv_ifnonnull (tgt := 20) hx hb dX6_amount_10 (by decide) ?_
    refine lv_aload hx hb dX6_amount_20 (lv_at hl 0 rfl) ?_
    refine lv_iload_n hx hb dX6_amount_22 rfl (lv_at hl 2 rfl) ?_
    refine z_ci hW hS hA (va_runV (As := [.int a1]) (rest := []) ⟨hx, hb, hml, hown, hts⟩ (sx_X7_amount_x l G ad c I k1 a1 hk1 hc (by omega) _) (cwV 1 hts gX6_amount_X7_amount rfl rfl rfl (by decide +kernel) ⟨Nat.le_of_ble_eq_true rfl, Nat.le_of_ble_eq_true rfl⟩) (z_preVS (i := (200 + 5 * k1)) hK hW hS hA hSt (z_so0 hk1) rfl) rfl rfl hl.1 rfl (lv_room (Nat.le_of_ble_eq_true rfl)) dX6_amount_23 ⟨Nat.le_of_ble_eq_true rfl, Nat.le_of_ble_eq_true rfl⟩) (fun r u1 H locs hp hW hS => ?_)
    obtain ⟨e9, hp⟩ := hp
    rw [e9] at hW
    refine lv_topi (fun x4 ex4 => ?_)
    rw [← ex4] at hp
    have hax4 := hp
    exact z_iret hx hb hr hK hS (Nat.le_of_ble_eq_true rfl) (Nat.le_of_ble_eq_true rfl) hlocks dX6_amount_26 (shC c, ad, I, JX, PC c ad) hW ⟨rfl, ⟨(k1 : Int), hb2, Or.inr ⟨k1, rfl, hk1, by rw [hax4, zi_un_us (by omega) (by omega)]; rfl⟩⟩⟩
set_option maxHeartbeats 8000000 in
set_option maxRecDepth 100000 in
theorem sx_X11_rule_x (l : Launch) (G : z_G) (ad : Nat → Nat) (c : z_C) (I : z_I) (hO : z_iO I) (a1 : Int32) (a2 : Int32) (a3 : Int32) (hc : z_okc c) (hon : (I 21 2).toInt = (c.2.1 : Int)) (hmo : ∀ j, j < c.2.1 → 0 ≤ (I (200 + 5 * j) 0).toInt) : z_MS l yX11_rule wsX11_rule { frames := 4, cells := 0, slots := 0, locals := 86 } [.ref (ad 0), .int a1, .int a2, .int a3] G (shC c, ad, I, JX, PC c ad) (fun r u1 => u1 = (shC c, ad, I, JX, PC c ad) ∧ (zi_rule (zi_mo I) (zi_td I) c.2.1 (zi_ax c I) a1.toInt a2.toInt a3.toInt r.toInt)) 0 0 := by
  intro sz
  refine z_headS (cc := cX11_rule) (maxL := 4) (ret := (some .int)) (by decide) rfl (Nat.le_of_ble_eq_true rfl) ?_
  intro p e s m below meth c0 ls hIn hK hsz hW hl hSt
  obtain ⟨hx, hb, hr, hml, hown, hts, hlocks, hname⟩ := hIn
  subst hsz
  have hown : s.vm.findClass RX11 = some m.cls := hown
  have hA : ∀ q : Nat, s.heap.size ≤ q → z_A (shC c, ad, I, JX, PC c ad) s.heap.size q := fun q h => Or.inr h
  generalize hAe : z_A (shC c, ad, I, JX, PC c ad) s.heap.size = A at *
  have hS : va_S A s.heap s.heap [] := va_S.rf
  have hl : lv_has ls 4 [(0, .ref (ad 0)), (1, .int a1), (2, .int a2), (3, .int a3)] := hl
  refine lv_iload_n hx hb dX11_rule_0 rfl (lv_at hl 1 rfl) ?_
  refine z_ci hW hS hA (va_runS (As := [.int a1]) (rest := []) ⟨hx, hb, hml, hown, hts⟩ (sx_X11_isMonth_e l G ad c I  a1 _) (va_cwS 1 hts gX11_rule_X11_isMonth rfl rfl rfl (by decide +kernel) ⟨Nat.le_of_ble_eq_true rfl, Nat.le_of_ble_eq_true rfl⟩) (z_preS hK hW) rfl rfl hl.1 rfl (lv_room (Nat.le_of_ble_eq_true rfl)) dX11_rule_1 ⟨Nat.le_of_ble_eq_true rfl, Nat.le_of_ble_eq_true rfl⟩) (fun r u1 H locs hp hW hS => ?_)
  obtain ⟨e9, hp⟩ := hp
  rw [e9] at hW
  rcases hp with ⟨rfl, h1⟩ | ⟨rfl, h1⟩
  · have h2 := h1
    refine lv_if_eq (tgt := 14) hx hb dX11_rule_4 (by decide) (fun c3 => absurd c3 (by decide)) (fun c3 => ?_)
    refine lv_iload_n hx hb dX11_rule_7 rfl (lv_at hl 2 rfl) ?_
    refine z_ci hW hS hA (va_runS (As := [.int a2]) (rest := []) ⟨hx, hb, hml, hown, hts⟩ (sx_X11_isDay_e l G ad c I  a2 _) (va_cwS 1 hts gX11_rule_X11_isDay rfl rfl rfl (by decide +kernel) ⟨Nat.le_of_ble_eq_true rfl, Nat.le_of_ble_eq_true rfl⟩) (z_preS hK hW) rfl rfl hl.1 rfl (lv_room (Nat.le_of_ble_eq_true rfl)) dX11_rule_8 ⟨Nat.le_of_ble_eq_true rfl, Nat.le_of_ble_eq_true rfl⟩) (fun r u1 H locs hp hW hS => ?_)
    obtain ⟨e9, hp⟩ := hp
    rw [e9] at hW
    rcases hp with ⟨rfl, h4⟩ | ⟨rfl, h4⟩
    · have h5 := h4
      refine lv_if_ne (tgt := 16) hx hb dX11_rule_11 (by decide) (fun c6 => ?_) (fun c6 => absurd c6 (by decide))
      refine lv_iload_n hx hb dX11_rule_16 rfl (lv_at hl 3 rfl) ?_
      refine lv_iconst (v := 5) hx hb dX11_rule_17 (by decide) ?_
      refine lv_icmp_ne (tgt := 31) hx hb dX11_rule_18 (by decide) (fun c7 => ?_) (fun c7 => ?_)
      · have g8 := z_f_ne rfl z_l5 c7
        have b9 := Int32.toInt_lt a3
        refine lv_iload_n hx hb dX11_rule_31 rfl (lv_at hl 3 rfl) ?_
        refine lv_iconst (v := 0) hx hb dX11_rule_32 (by decide) ?_
        refine lv_iconst (v := 4) hx hb dX11_rule_33 (by decide) ?_
        refine z_ci hW hS hA (va_runS (As := [.int a3, .int 0, .int 4]) (rest := []) ⟨hx, hb, hml, hown, hts⟩ (sx_X11_within_e l G ad c I  a3 0 4 _) (va_cwS 3 hts gX11_rule_X11_within rfl rfl rfl (by decide +kernel) ⟨Nat.le_of_ble_eq_true rfl, Nat.le_of_ble_eq_true rfl⟩) (z_preS hK hW) rfl rfl hl.1 rfl (lv_room (Nat.le_of_ble_eq_true rfl)) dX11_rule_34 ⟨Nat.le_of_ble_eq_true rfl, Nat.le_of_ble_eq_true rfl⟩) (fun r u1 H locs hp hW hS => ?_)
        obtain ⟨e9, hp⟩ := hp
        rw [e9] at hW
        rcases hp with ⟨rfl, h11⟩ | ⟨rfl, h11⟩
        · have h12 := h11
          have z13 := z_l0
          have z14 := z_l4
          refine lv_if_ne (tgt := 42) hx hb dX11_rule_37 (by decide) (fun c15 => ?_) (fun c15 => absurd c15 (by decide))
          refine lv_aload_n hx hb dX11_rule_42 rfl (lv_at hl 0 rfl) ?_
          refine z_get (T := TX11) (N := 13) (ci := 11) (i := 0) (v := .ref (ad 21)) hx hb hts zj_X11_rule_X11 hown hK hW rfl rfl 4 (by decide) (hts (.fieldLink RX11 30 "PetrolBoard" "orderBook" "LPetrolBoard$OrderBook;") (me_s (me_l (me_l (me_l (me_l (List.mem_of_getElem? (i := 0) rfl))))))) (fun _ h => h) rfl dX11_rule_43 ?_
          refine lv_iload_n hx hb dX11_rule_46 rfl (lv_at hl 3 rfl) ?_
          refine lv_iload_n hx hb dX11_rule_47 rfl (lv_at hl 1 rfl) ?_
          refine lv_iload_n hx hb dX11_rule_48 rfl (lv_at hl 2 rfl) ?_
          refine z_ci hW hS hA (va_runV (As := [.int a3, .int a1, .int a2]) (rest := []) ⟨hx, hb, hml, hown, hts⟩ (sx_X6_amount_x l G ad c I (by show 0 ≤ (I 21 2).toInt ∧ (I 21 2).toInt ≤ 12; exact hO) a3 a1 a2 hc hon hmo (by omega) _) (cwV 3 hts gX11_rule_X6_amount rfl rfl rfl (by decide +kernel) ⟨Nat.le_of_ble_eq_true rfl, Nat.le_of_ble_eq_true rfl⟩) (z_preVS (i := 21) hK hW hS hA hSt rfl rfl) rfl rfl hl.1 rfl (lv_room (Nat.le_of_ble_eq_true rfl)) dX11_rule_49 ⟨Nat.le_of_ble_eq_true rfl, Nat.le_of_ble_eq_true rfl⟩) (fun r u1 H locs hp hW hS => ?_)
          obtain ⟨e9, hp⟩ := hp
          rw [e9] at hW
          refine lv_topi (fun x16 ex16 => ?_)
          rw [← ex16] at hp
          have hRx16 := hp
          exact z_iret hx hb hr hK hS (Nat.le_of_ble_eq_true rfl) (Nat.le_of_ble_eq_true rfl) hlocks dX11_rule_52 (shC c, ad, I, JX, PC c ad) hW ⟨rfl, (Or.inr ⟨⟨by omega, by omega, by omega, by omega⟩, Or.inr (Or.inr ⟨by omega, by omega, hRx16⟩)⟩)⟩
        · have h17 := h11
          have z18 := z_l0
          have z19 := z_l4
          refine lv_if_ne (tgt := 42) hx hb dX11_rule_37 (by decide) (fun c20 => absurd (by decide) c20) (fun c20 => ?_)
          refine lv_iconst (v := (-1)) hx hb dX11_rule_40 (by decide) ?_
          exact z_iret hx hb hr hK hS (Nat.le_of_ble_eq_true rfl) (Nat.le_of_ble_eq_true rfl) hlocks dX11_rule_41 (shC c, ad, I, JX, PC c ad) hW ⟨rfl, (by first | exact Or.inl ⟨by omega, by decide⟩ | exact Or.inr ⟨⟨by omega, by omega, by omega, by omega⟩, Or.inr (Or.inl ⟨by omega, by decide⟩)⟩)⟩
      · have g21 := z_f_eq rfl z_l5 c7
        have b22 := Int32.toInt_lt a3
        refine lv_aload_n hx hb dX11_rule_21 rfl (lv_at hl 0 rfl) ?_
        refine z_get (T := TX11) (N := 13) (ci := 11) (i := 0) (v := .ref (ad 21)) hx hb hts zj_X11_rule_X11 hown hK hW rfl rfl 4 (by decide) (hts (.fieldLink RX11 30 "PetrolBoard" "orderBook" "LPetrolBoard$OrderBook;") (me_s (me_l (me_l (me_l (me_l (List.mem_of_getElem? (i := 0) rfl))))))) (fun _ h => h) rfl dX11_rule_22 ?_
        refine lv_iload_n hx hb dX11_rule_25 rfl (lv_at hl 1 rfl) ?_
        refine lv_iload_n hx hb dX11_rule_26 rfl (lv_at hl 2 rfl) ?_
        refine z_ci hW hS hA (va_runV (As := [.int a1, .int a2]) (rest := []) ⟨hx, hb, hml, hown, hts⟩ (sx_X6_inForce_x l G ad c I (by show 0 ≤ (I 21 2).toInt ∧ (I 21 2).toInt ≤ 12; exact hO) a1 a2 hon hmo _) (cwV 2 hts gX11_rule_X6_inForce rfl rfl rfl (by decide +kernel) ⟨Nat.le_of_ble_eq_true rfl, Nat.le_of_ble_eq_true rfl⟩) (z_preV (i := 21) hK hW rfl rfl) rfl rfl hl.1 rfl (lv_room (Nat.le_of_ble_eq_true rfl)) dX11_rule_27 ⟨Nat.le_of_ble_eq_true rfl, Nat.le_of_ble_eq_true rfl⟩) (fun r u1 H locs hp hW hS => ?_)
        obtain ⟨e9, hp⟩ := hp
        rw [e9] at hW
        refine lv_topi (fun x23 ex23 => ?_)
        rw [← ex23] at hp
        obtain ⟨hB_x23, h24⟩ := hp
        exact z_iret hx hb hr hK hS (Nat.le_of_ble_eq_true rfl) (Nat.le_of_ble_eq_true rfl) hlocks dX11_rule_30 (shC c, ad, I, JX, PC c ad) hW ⟨rfl, (Or.inr ⟨⟨by omega, by omega, by omega, by omega⟩, Or.inl ⟨by omega, hB_x23⟩⟩)⟩
    · have h25 := h4
      refine lv_if_ne (tgt := 16) hx hb dX11_rule_11 (by decide) (fun c26 => absurd (by decide) c26) (fun c26 => ?_)
      refine lv_iconst (v := (-1)) hx hb dX11_rule_14 (by decide) ?_
      exact z_iret hx hb hr hK hS (Nat.le_of_ble_eq_true rfl) (Nat.le_of_ble_eq_true rfl) hlocks dX11_rule_15 (shC c, ad, I, JX, PC c ad) hW ⟨rfl, (by first | exact Or.inl ⟨by omega, by decide⟩ | exact Or.inr ⟨⟨by omega, by omega, by omega, by omega⟩, Or.inr (Or.inl ⟨by omega, by decide⟩)⟩)⟩
  · have h27 := h1
    refine lv_if_eq (tgt := 14) hx hb dX11_rule_4 (by decide) (fun c28 => ?_) (fun c28 => absurd (by decide) c28)
    refine lv_iconst (v := (-1)) hx hb dX11_rule_14 (by decide) ?_
    exact z_iret hx hb hr hK hS (Nat.le_of_ble_eq_true rfl) (Nat.le_of_ble_eq_true rfl) hlocks dX11_rule_15 (shC c, ad, I, JX, PC c ad) hW ⟨rfl, (by first | exact Or.inl ⟨by omega, by decide⟩ | exact Or.inr ⟨⟨by omega, by omega, by omega, by omega⟩, Or.inr (Or.inl ⟨by omega, by decide⟩)⟩)⟩
set_option maxHeartbeats 8000000 in
set_option maxRecDepth 100000 in
theorem sx_X12_rule_x (l : Launch) (G : z_G) (ad : Nat → Nat) (I : z_I) (J : z_J) (hmb : z_imb I) (hAtf : z_rg 11 0 288 I) (hAtm : z_rg 12 0 24 I) (a1 : Int32) (a2 : Int32) (a3 : Int32) : z_M l yX12_rule wsX12_rule { frames := 3, cells := 0, slots := 0, locals := 62 } [.ref (ad 0), .int a1, .int a2, .int a3] G (shM, ad, I, J, PM ad) (fun r u1 => u1 = (shM, ad, I, J, PM ad) ∧ (zi_rule (zi_km I) (zi_kt I) (I 0 13).toNatClampNeg (zi_am I) a1.toInt a2.toInt a3.toInt r.toInt)) 0 0 := by
  intro sz
  refine z_headQ (cc := cX12_rule) (maxL := 4) (ret := (some .int)) (by decide) rfl (Nat.le_of_ble_eq_true rfl) ?_
  intro p e s m below meth c0 ls hIn hK hsz hW hl
  obtain ⟨hx, hb, hr, hml, hown, hts, hlocks, hname⟩ := hIn
  subst hsz
  have hown : s.vm.findClass RX12 = some m.cls := hown
  have hA : ∀ q : Nat, s.heap.size ≤ q → z_A (shM, ad, I, J, PM ad) s.heap.size q := fun q h => Or.inr h
  generalize hAe : z_A (shM, ad, I, J, PM ad) s.heap.size = A at *
  have hS : va_S A s.heap s.heap [] := va_S.rf
  have hl : lv_has ls 4 [(0, .ref (ad 0)), (1, .int a1), (2, .int a2), (3, .int a3)] := hl
  refine lv_iload_n hx hb dX12_rule_0 rfl (lv_at hl 1 rfl) ?_
  refine z_ci hW hS hA (va_runS (As := [.int a1]) (rest := []) ⟨hx, hb, hml, hown, hts⟩ (sx_X12_isMonth_e l G ad I J  a1 _) (va_cwS 1 hts gX12_rule_X12_isMonth rfl rfl rfl (by decide +kernel) ⟨Nat.le_of_ble_eq_true rfl, Nat.le_of_ble_eq_true rfl⟩) (z_preS hK hW) rfl rfl hl.1 rfl (lv_room (Nat.le_of_ble_eq_true rfl)) dX12_rule_1 ⟨Nat.le_of_ble_eq_true rfl, Nat.le_of_ble_eq_true rfl⟩) (fun r u1 H locs hp hW hS => ?_)
  obtain ⟨e9, hp⟩ := hp
  rw [e9] at hW
  rcases hp with ⟨rfl, h1⟩ | ⟨rfl, h1⟩
  · have h2 := h1
    refine lv_if_eq (tgt := 14) hx hb dX12_rule_4 (by decide) (fun c3 => absurd c3 (by decide)) (fun c3 => ?_)
    refine lv_iload_n hx hb dX12_rule_7 rfl (lv_at hl 2 rfl) ?_
    refine z_ci hW hS hA (va_runS (As := [.int a2]) (rest := []) ⟨hx, hb, hml, hown, hts⟩ (sx_X12_isDay_e l G ad I J  a2 _) (va_cwS 1 hts gX12_rule_X12_isDay rfl rfl rfl (by decide +kernel) ⟨Nat.le_of_ble_eq_true rfl, Nat.le_of_ble_eq_true rfl⟩) (z_preS hK hW) rfl rfl hl.1 rfl (lv_room (Nat.le_of_ble_eq_true rfl)) dX12_rule_8 ⟨Nat.le_of_ble_eq_true rfl, Nat.le_of_ble_eq_true rfl⟩) (fun r u1 H locs hp hW hS => ?_)
    obtain ⟨e9, hp⟩ := hp
    rw [e9] at hW
    rcases hp with ⟨rfl, h4⟩ | ⟨rfl, h4⟩
    · have h5 := h4
      refine lv_if_ne (tgt := 18) hx hb dX12_rule_11 (by decide) (fun c6 => ?_) (fun c6 => absurd c6 (by decide))
      refine lv_iload_n hx hb dX12_rule_18 rfl (lv_at hl 3 rfl) ?_
      refine lv_iconst (v := 5) hx hb dX12_rule_19 (by decide) ?_
      refine lv_icmp_ne (tgt := 32) hx hb dX12_rule_20 (by decide) (fun c7 => ?_) (fun c7 => ?_)
      · have g8 := z_f_ne rfl z_l5 c7
        have b9 := Int32.toInt_lt a3
        refine lv_iload_n hx hb dX12_rule_32 rfl (lv_at hl 3 rfl) ?_
        refine lv_iconst (v := 0) hx hb dX12_rule_33 (by decide) ?_
        refine lv_iconst (v := 4) hx hb dX12_rule_34 (by decide) ?_
        refine z_ci hW hS hA (va_runS (As := [.int a3, .int 0, .int 4]) (rest := []) ⟨hx, hb, hml, hown, hts⟩ (sx_X12_within_e l G ad I J  a3 0 4 _) (va_cwS 3 hts gX12_rule_X12_within rfl rfl rfl (by decide +kernel) ⟨Nat.le_of_ble_eq_true rfl, Nat.le_of_ble_eq_true rfl⟩) (z_preS hK hW) rfl rfl hl.1 rfl (lv_room (Nat.le_of_ble_eq_true rfl)) dX12_rule_35 ⟨Nat.le_of_ble_eq_true rfl, Nat.le_of_ble_eq_true rfl⟩) (fun r u1 H locs hp hW hS => ?_)
        obtain ⟨e9, hp⟩ := hp
        rw [e9] at hW
        rcases hp with ⟨rfl, h11⟩ | ⟨rfl, h11⟩
        · have h12 := h11
          have z13 := z_l0
          have z14 := z_l4
          refine lv_if_eq (tgt := 53) hx hb dX12_rule_38 (by decide) (fun c15 => absurd c15 (by decide)) (fun c15 => ?_)
          refine lv_aload_n hx hb dX12_rule_41 rfl (lv_at hl 0 rfl) ?_
          refine lv_iload_n hx hb dX12_rule_42 rfl (lv_at hl 1 rfl) ?_
          refine lv_iload_n hx hb dX12_rule_43 rfl (lv_at hl 2 rfl) ?_
          refine lv_iconst (v := 3) hx hb dX12_rule_44 (by decide) ?_
          refine lv_iload_n hx hb dX12_rule_45 rfl (lv_at hl 3 rfl) ?_
          refine lv_iadd hx hb dX12_rule_46 ?_
          refine lv_topi (fun x16 ex16 => ?_)
          have tx16 : x16.toInt = 3 + a3.toInt := z_tadd ex16 z_l3 rfl (by omega) (by omega)
          refine z_ci hW hS hA (va_runV (As := [.int a1, .int a2, .int x16]) (rest := []) ⟨hx, hb, hml, hown, hts⟩ (sx_X12_number_x l G ad I J ⟨(by show 0 ≤ (I 0 13).toInt ∧ (I 0 13).toInt ≤ 12; exact hmb.1), (by show 0 ≤ (I 0 14).toInt ∧ (I 0 14).toInt ≤ 288; exact hmb.2)⟩ hAtf hAtm a1 a2 x16 (by omega) _) (cwV 3 hts gX12_rule_X12_number rfl rfl rfl (by decide +kernel) ⟨Nat.le_of_ble_eq_true rfl, Nat.le_of_ble_eq_true rfl⟩) (z_preV (i := 0) hK hW rfl rfl) rfl rfl hl.1 rfl (lv_room (Nat.le_of_ble_eq_true rfl)) dX12_rule_47 ⟨Nat.le_of_ble_eq_true rfl, Nat.le_of_ble_eq_true rfl⟩) (fun r u1 H locs hp hW hS => ?_)
          obtain ⟨e9, hp⟩ := hp
          rw [e9] at hW
          refine lv_topi (fun x17 ex17 => ?_)
          rw [← ex17] at hp
          have hRx17 := hp
          rw [show x16.toInt - 3 = a3.toInt by omega] at hRx17
          refine lv_goto (tgt := 54) hx hb dX12_rule_50 (by decide) ?_
          exact z_iret hx hb hr hK hS (Nat.le_of_ble_eq_true rfl) (Nat.le_of_ble_eq_true rfl) hlocks dX12_rule_54 (shM, ad, I, J, PM ad) hW ⟨rfl, (Or.inr ⟨⟨by omega, by omega, by omega, by omega⟩, Or.inr (Or.inr ⟨by omega, by omega, hRx17⟩)⟩)⟩
        · have h18 := h11
          have z19 := z_l0
          have z20 := z_l4
          refine lv_if_eq (tgt := 53) hx hb dX12_rule_38 (by decide) (fun c21 => ?_) (fun c21 => absurd (by decide) c21)
          refine lv_iconst (v := (-1)) hx hb dX12_rule_53 (by decide) ?_
          exact z_iret hx hb hr hK hS (Nat.le_of_ble_eq_true rfl) (Nat.le_of_ble_eq_true rfl) hlocks dX12_rule_54 (shM, ad, I, J, PM ad) hW ⟨rfl, (by first | exact Or.inl ⟨by omega, by decide⟩ | exact Or.inr ⟨⟨by omega, by omega, by omega, by omega⟩, Or.inr (Or.inl ⟨by omega, by decide⟩)⟩)⟩
      · have g22 := z_f_eq rfl z_l5 c7
        have b23 := Int32.toInt_lt a3
        refine lv_aload_n hx hb dX12_rule_23 rfl (lv_at hl 0 rfl) ?_
        refine lv_iload_n hx hb dX12_rule_24 rfl (lv_at hl 1 rfl) ?_
        refine lv_iload_n hx hb dX12_rule_25 rfl (lv_at hl 2 rfl) ?_
        refine z_ci hW hS hA (va_runV (As := [.int a1, .int a2]) (rest := []) ⟨hx, hb, hml, hown, hts⟩ (sx_X12_inForce_x l G ad I J ⟨(by show 0 ≤ (I 0 13).toInt ∧ (I 0 13).toInt ≤ 12; exact hmb.1), (by show 0 ≤ (I 0 14).toInt ∧ (I 0 14).toInt ≤ 288; exact hmb.2)⟩ a1 a2 _) (cwV 2 hts gX12_rule_X12_inForce rfl rfl rfl (by decide +kernel) ⟨Nat.le_of_ble_eq_true rfl, Nat.le_of_ble_eq_true rfl⟩) (z_preV (i := 0) hK hW rfl rfl) rfl rfl hl.1 rfl (lv_room (Nat.le_of_ble_eq_true rfl)) dX12_rule_26 ⟨Nat.le_of_ble_eq_true rfl, Nat.le_of_ble_eq_true rfl⟩) (fun r u1 H locs hp hW hS => ?_)
        obtain ⟨e9, hp⟩ := hp
        rw [e9] at hW
        refine lv_topi (fun x24 ex24 => ?_)
        rw [← ex24] at hp
        obtain ⟨hB_x24, h25⟩ := hp
        refine lv_goto (tgt := 54) hx hb dX12_rule_29 (by decide) ?_
        exact z_iret hx hb hr hK hS (Nat.le_of_ble_eq_true rfl) (Nat.le_of_ble_eq_true rfl) hlocks dX12_rule_54 (shM, ad, I, J, PM ad) hW ⟨rfl, (Or.inr ⟨⟨by omega, by omega, by omega, by omega⟩, Or.inl ⟨by omega, hB_x24⟩⟩)⟩
    · have h26 := h4
      refine lv_if_ne (tgt := 18) hx hb dX12_rule_11 (by decide) (fun c27 => absurd (by decide) c27) (fun c27 => ?_)
      refine lv_iconst (v := (-1)) hx hb dX12_rule_14 (by decide) ?_
      refine lv_goto (tgt := 54) hx hb dX12_rule_15 (by decide) ?_
      exact z_iret hx hb hr hK hS (Nat.le_of_ble_eq_true rfl) (Nat.le_of_ble_eq_true rfl) hlocks dX12_rule_54 (shM, ad, I, J, PM ad) hW ⟨rfl, (by first | exact Or.inl ⟨by omega, by decide⟩ | exact Or.inr ⟨⟨by omega, by omega, by omega, by omega⟩, Or.inr (Or.inl ⟨by omega, by decide⟩)⟩)⟩
  · have h28 := h1
    refine lv_if_eq (tgt := 14) hx hb dX12_rule_4 (by decide) (fun c29 => ?_) (fun c29 => absurd (by decide) c29)
    refine lv_iconst (v := (-1)) hx hb dX12_rule_14 (by decide) ?_
    refine lv_goto (tgt := 54) hx hb dX12_rule_15 (by decide) ?_
    exact z_iret hx hb hr hK hS (Nat.le_of_ble_eq_true rfl) (Nat.le_of_ble_eq_true rfl) hlocks dX12_rule_54 (shM, ad, I, J, PM ad) hW ⟨rfl, (by first | exact Or.inl ⟨by omega, by decide⟩ | exact Or.inr ⟨⟨by omega, by omega, by omega, by omega⟩, Or.inr (Or.inl ⟨by omega, by decide⟩)⟩)⟩
end SG60y6
section SG60z2
/-! long numbers -/
theorem z_ti2l {w : Int64} {x : Int32} {n : Int} (e : w = x.toInt64) (hx : x.toInt = n) : w.toInt = n := by
  rw [e, Int32.toInt_toInt64]
  exact hx
theorem z_tladd {z a b : Int64} {n m : Int} (e : z = a + b) (ha : a.toInt = n) (hb : b.toInt = m) (h1 : -9223372036854775808 ≤ n + m) (h2 : n + m ≤ 9223372036854775807) : z.toInt = n + m := by
  rw [e, Int64.toInt_add, ha, hb]
  exact Int.bmod_eq_of_le (by show -(18446744073709551616 / 2) ≤ n + m; omega) (by show n + m < (18446744073709551616 + 1) / 2; omega)
theorem z_tlsub {z a b : Int64} {n m : Int} (e : z = a - b) (ha : a.toInt = n) (hb : b.toInt = m) (h1 : -9223372036854775808 ≤ n - m) (h2 : n - m ≤ 9223372036854775807) : z.toInt = n - m := by
  rw [e, Int64.toInt_sub, ha, hb]
  exact Int.bmod_eq_of_le (by show -(18446744073709551616 / 2) ≤ n - m; omega) (by show n - m < (18446744073709551616 + 1) / 2; omega)
theorem z_mulb {n m : Int} (h1 : -1100000000 ≤ n ∧ n ≤ 1100000000) (h2 : -1100000000 ≤ m ∧ m ≤ 1100000000) : -1210000000000000000 ≤ n * m ∧ n * m ≤ 1210000000000000000 := by
  have h3 : (n * m).natAbs ≤ 1100000000 * 1100000000 := by
    rw [Int.natAbs_mul]
    exact Nat.mul_le_mul (by omega) (by omega)
  omega
theorem z_tlmul {z a b : Int64} {n m : Int} (e : z = a * b) (ha : a.toInt = n) (hb : b.toInt = m) (h1 : -1100000000 ≤ n ∧ n ≤ 1100000000) (h2 : -1100000000 ≤ m ∧ m ≤ 1100000000) : z.toInt = n * m := by
  have h := z_mulb h1 h2
  rw [e, Int64.toInt_mul, ha, hb]
  exact Int.bmod_eq_of_le (by show -(18446744073709551616 / 2) ≤ n * m; omega) (by show n * m < (18446744073709551616 + 1) / 2; omega)
theorem z_tldiv {z a b : Int64} {n m : Int} (e : z = a / b) (ha : a.toInt = n) (hb : b.toInt = m) (h1 : -9000000000000000000 ≤ n ∧ n ≤ 9000000000000000000) : z.toInt = n.tdiv m := by
  have h := Int.natAbs_tdiv_le_natAbs n m
  rw [e, Int64.toInt_div, ha, hb]
  exact Int.bmod_eq_of_le (by show -(18446744073709551616 / 2) ≤ n.tdiv m; omega) (by show n.tdiv m < (18446744073709551616 + 1) / 2; omega)
theorem z_tdivg {z a b : Int32} {n m : Int} (e : z = a / b) (ha : a.toInt = n) (hb : b.toInt = m) (h1 : -2147483647 ≤ n ∧ n ≤ 2147483647) : z.toInt = n.tdiv m := by
  have h := Int.natAbs_tdiv_le_natAbs n m
  rw [e, Int32.toInt_div, ha, hb]
  exact Int.bmod_eq_of_le (by show -(4294967296 / 2) ≤ n.tdiv m; omega) (by show n.tdiv m < (4294967296 + 1) / 2; omega)
theorem z_tdivb {n m : Int} (h1 : -1100000000 ≤ n ∧ n ≤ 1100000000) : -1100000000 ≤ n.tdiv m ∧ n.tdiv m ≤ 1100000000 := by
  have h := Int.natAbs_tdiv_le_natAbs n m
  omega
theorem z_tlcmp {x : Int32} {a b : Int64} {n m : Int} (e : x = lg_cmp a b) (ha : a.toInt = n) (hb : b.toInt = m) : (x.toInt = -1 ∧ n < m) ∨ (x.toInt = 0 ∧ n = m) ∨ (x.toInt = 1 ∧ m < n) := by
  rw [e]
  unfold lg_cmp
  by_cases q : a > b
  · rw [if_pos q]
    have := Int64.lt_iff_toInt_lt.mp q
    exact Or.inr (Or.inr ⟨by decide, by omega⟩)
  · rw [if_neg q]
    by_cases r : a = b
    · rw [if_pos r]
      subst r
      exact Or.inr (Or.inl ⟨by decide, by omega⟩)
    · rw [if_neg r]
      have h1 : ¬ b.toInt < a.toInt := fun z => q (Int64.lt_iff_toInt_lt.mpr z)
      have h2 : a.toInt ≠ b.toInt := fun z => r (Int64.toInt_inj.mp z)
      exact Or.inl ⟨by decide, by omega⟩
theorem z_tl2i {x : Int32} {w : Int64} {n : Int} (e : x = w.toInt32) (hw : w.toInt = n) (h : -2147483648 ≤ n ∧ n ≤ 2147483647) : x.toInt = n := by
  rw [e, Int64.toInt_toInt32, hw]
  exact Int.bmod_eq_of_le (by show -(4294967296 / 2) ≤ n; omega) (by show n < (4294967296 + 1) / 2; omega)
theorem z_tlmin {z x y : Int64} {n m : Int} (e : z = if y < x then y else x) (hx : x.toInt = n) (hy : y.toInt = m) : z.toInt ≤ n ∧ z.toInt ≤ m ∧ (z.toInt = n ∨ z.toInt = m) := by
  rw [e]
  split
  · rename_i h
    have := Int64.lt_iff_toInt_lt.mp h
    exact ⟨by omega, by omega, Or.inr hy⟩
  · rename_i h
    have h1 : ¬ y.toInt < x.toInt := fun z => h (Int64.lt_iff_toInt_lt.mpr z)
    exact ⟨by omega, by omega, Or.inl hx⟩
theorem z_tlmax {z x y : Int64} {n m : Int} (e : z = if y < x then x else y) (hx : x.toInt = n) (hy : y.toInt = m) : n ≤ z.toInt ∧ m ≤ z.toInt ∧ (z.toInt = n ∨ z.toInt = m) := by
  rw [e]
  split
  · rename_i h
    have := Int64.lt_iff_toInt_lt.mp h
    exact ⟨by omega, by omega, Or.inl hx⟩
  · rename_i h
    have h1 : ¬ y.toInt < x.toInt := fun z => h (Int64.lt_iff_toInt_lt.mpr z)
    exact ⟨by omega, by omega, Or.inr hy⟩
theorem zv_h {v w1 w2 : Int} (h1 : w1 ≤ 1000000000 ∧ w1 ≤ v ∧ (w1 = 1000000000 ∨ w1 = v)) (h2 : -1000000000 ≤ w2 ∧ w1 ≤ w2 ∧ (w2 = -1000000000 ∨ w2 = w1)) : w2 = zp_h v := by
  unfold zp_h
  split
  · omega
  · split <;> omega
/-! a statement's worth, by its codes -/
noncomputable def zv_cd (cs : List Int) (j : Nat) : Int := (cs ++ [-13]).getD j 0
theorem zv_cd_0 (cs : List Int) : zp_cd (zv_cd cs) 0 (cs ++ [-13]) := zp_cd_of _ 0 (fun j _ => by
  rw [Nat.zero_add]
  rfl)
theorem zv_ev_c {A : Int → Int} {cd cd1 : Nat → Int} : ∀ (cs : List Int) (f f1 p p1 : Nat) (st : List Int), zp_cd cd p (cs ++ [-13]) → zp_cd cd1 p1 (cs ++ [-13]) → cs.length < f → cs.length < f1 → zp_ev A cd f p st = zp_ev A cd1 f1 p1 st
  | cs, 0, _, _, _, _, _, _, hf, _ => absurd hf (Nat.not_lt_zero _)
  | cs, _ + 1, 0, _, _, _, _, _, _, hf => absurd hf (Nat.not_lt_zero _)
  | [], f + 1, f1 + 1, p, p1, st, h, h1, _, _ => by
    rw [zp_ev_end (show cd p = -13 from h.1), zp_ev_end (show cd1 p1 = -13 from h1.1)]
  | c :: cs, f + 1, f1 + 1, p, p1, st, h, h1, hf, hf1 => by
    rw [List.length_cons] at hf hf1
    have ih : zp_ev A cd f (p + 1) = zp_ev A cd1 f1 (p1 + 1) := funext fun st => zv_ev_c cs f f1 (p + 1) (p1 + 1) st h.2 h1.2 (by omega) (by omega)
    have e : cd p = c := h.1
    have e1 : cd1 p1 = c := h1.1
    rw [zp_ev, zp_ev, e, e1, ih]
/-- what codes are worth -/
noncomputable def zv_e (A : Int → Int) (cs : List Int) : Int := zp_ev A (zv_cd cs) (cs.length + 1) 0 []
theorem zv_e_ev {A : Int → Int} {cd : Nat → Int} {cs : List Int} {p len : Nat} (h : zp_cd cd p (cs ++ [-13])) (hl : p + cs.length < len) : zp_ev A cd (len - p) p [] = zv_e A cs := zv_ev_c cs _ _ _ _ _ h (zv_cd_0 cs) (by omega) (Nat.lt_succ_self _)
theorem zv_e_R {A R : Int → Int} {sg : List zp_N} {i g : Int} {t : Bool} (hA : ∀ j, 0 ≤ j → j ≤ 6 → -1000000000 ≤ A j ∧ A j ≤ 1000000000) (hs : zp_sy i sg [] = some [(g, t)]) (hR : zp_RV A R i sg) : zv_e A (sg.map zp_en) = R g := by
  have h0 := zv_cd_0 (sg.map zp_en)
  rw [zp_cd_ap] at h0
  have h13 : zv_cd (sg.map zp_en) (0 + sg.length) = -13 := by
    have := h0.2.1
    rw [List.length_map] at this
    exact this
  exact (zp_ev_fin (len := (sg.map zp_en).length + 1) hA hs h0.1 hR h13 (by rw [List.length_map]; omega)).1
/-- its COND holds (one without holds) -/
noncomputable def zv_c (A : Int → Int) (cs : List Int) : Bool := decide (cs = [] ∨ zv_e A cs ≠ 0)
noncomputable def zv_k (v : Int) : Int := if v < 0 then 0 else if 99 < v then 99 else v
noncomputable def zv_st (A : Int → Int) : List zp_T → Bool
  | [] => false
  | s :: ss => if s.1 = 302 ∧ zv_c A s.2.2.2 = true then true else zv_st A ss
noncomputable def zv_fi (A : Int → Int) (w : Int) : List zp_T → Int
  | [] => 0
  | s :: ss => if s.1 = w ∧ zv_c A s.2.2.2 = true then zv_k (zv_e A s.2.2.1) else zv_fi A w ss
/-- UNITS by ORDERS -/
noncomputable def zv_un (A : Int → Int) (ss : List zp_T) : Int := if zv_st A ss = true then 0 else zv_fi A 300 ss
theorem zv_dr : ∀ (ss : List zp_T) (j : Nat) (s : zp_T), ss[j]? = some s → ss.drop j = s :: ss.drop (j + 1)
  | [], j, s, h => by simp at h
  | x :: xs, 0, s, h => by
    have e : x = s := by simpa using h
    rw [e]
    rfl
  | x :: xs, j + 1, s, h => zv_dr xs j s (by simpa using h)
theorem zv_at (ss : List zp_T) (j : Nat) (h : j < ss.length) : ∃ s, ss[j]? = some s := ⟨_, List.getElem?_eq_getElem h⟩
section ZV1
variable {A : Int → Int} {ss : List zp_T} {j : Nat} {s : zp_T} {w : Int}
theorem zv_st_y (h : ss[j]? = some s) (h1 : s.1 = 302) (h2 : zv_c A s.2.2.2 = true) : zv_st A (ss.drop j) = true := by
  rw [zv_dr ss j s h, zv_st, if_pos ⟨h1, h2⟩]
theorem zv_st_n (h : ss[j]? = some s) (h1 : ¬ (s.1 = 302 ∧ zv_c A s.2.2.2 = true)) : zv_st A (ss.drop (j + 1)) = zv_st A (ss.drop j) := by
  rw [zv_dr ss j s h, zv_st, if_neg h1]
theorem zv_st_0 (h : ss.length ≤ j) : zv_st A (ss.drop j) = false := by
  rw [List.drop_eq_nil_of_le h]
  rfl
theorem zv_fi_y (h : ss[j]? = some s) (h1 : s.1 = w) (h2 : zv_c A s.2.2.2 = true) : zv_fi A w (ss.drop j) = zv_k (zv_e A s.2.2.1) := by
  rw [zv_dr ss j s h, zv_fi, if_pos ⟨h1, h2⟩]
theorem zv_fi_n (h : ss[j]? = some s) (h1 : ¬ (s.1 = w ∧ zv_c A s.2.2.2 = true)) : zv_fi A w (ss.drop (j + 1)) = zv_fi A w (ss.drop j) := by
  rw [zv_dr ss j s h, zv_fi, if_neg h1]
theorem zv_fi_0 (h : ss.length ≤ j) : zv_fi A w (ss.drop j) = 0 := by
  rw [List.drop_eq_nil_of_le h]
  rfl
theorem zv_c_e (h : s.2.2.2 = []) : zv_c A s.2.2.2 = true := decide_eq_true (Or.inl h)
theorem zv_c_y (h : zv_e A s.2.2.2 ≠ 0) : zv_c A s.2.2.2 = true := decide_eq_true (Or.inr h)
theorem zv_c_n (h0 : s.2.2.2 ≠ []) (h : zv_e A s.2.2.2 = 0) : zv_c A s.2.2.2 = false := decide_eq_false (fun q => q.elim h0 (fun z => z h))
theorem zv_k_b (v : Int) : 0 ≤ zv_k v ∧ zv_k v ≤ 99 := by
  unfold zv_k
  repeat' split
  all_goals omega
theorem zv_fi_b : ∀ ss : List zp_T, 0 ≤ zv_fi A w ss ∧ zv_fi A w ss ≤ 99 := sorry
theorem zv_un_b : 0 ≤ zv_un A ss ∧ zv_un A ss ≤ 99 := by
  unfold zv_un
  split
  · exact ⟨Int.le_refl 0, by decide⟩
  · exact zv_fi_b ss
end ZV1
/-- the NAMES' values -/
noncomputable def zv_A (a0 a1 a2 a3 a4 a5 a6 : Int) (j : Int) : Int := if j = 0 then a0 else if j = 1 then a1 else if j = 2 then a2 else if j = 3 then a3 else if j = 4 then a4 else if j = 5 then a5 else if j = 6 then a6 else 0
/-! which parts a node has -/
noncomputable def zv_od (i0 : Int) : Int → List zp_N → Prop
  | _, [] => True
  | i, n :: N => (n.1 ≤ 1 ∨ (i0 ≤ n.2.1 ∧ n.2.1 < i ∧ (n.1 = 11 ∨ (i0 ≤ n.2.2 ∧ n.2.2 < i)))) ∧ zv_od i0 (i + 1) N
noncomputable def zv_in (i0 i : Int) (st : zp_Y) : Prop := ∀ q, q ∈ st → i0 ≤ q.1 ∧ q.1 < i
theorem zv_y1 {i0 i : Int} {n : zp_N} {st s1 : zp_Y} (h : zp_y1 i n st = some s1) (hi : i0 ≤ i) (hs : zv_in i0 i st) : (n.1 ≤ 1 ∨ (i0 ≤ n.2.1 ∧ n.2.1 < i ∧ (n.1 = 11 ∨ (i0 ≤ n.2.2 ∧ n.2.2 < i)))) ∧ zv_in i0 (i + 1) s1 := by
  have up : ∀ (t : Bool) (r : zp_Y), zv_in i0 i r → zv_in i0 (i + 1) ((i, t) :: r) := fun t r hr q hq => by
    rcases List.mem_cons.mp hq with e | e
    · rw [e]
      exact ⟨hi, Int.lt_succ i⟩
    · have := hr q e
      omega
  unfold zp_y1 at h
  by_cases q1 : (n.1 = 0 ∧ 0 ≤ n.2.1 ∧ n.2.1 ≤ 999999) ∨ (n.1 = 1 ∧ 0 ≤ n.2.1 ∧ n.2.1 ≤ 6)
  · rw [if_pos q1] at h
    by_cases q2 : st.length ≤ 40
    · rw [if_pos q2] at h
      have e := Option.some.inj h
      subst e
      exact ⟨Or.inl (by omega), up _ _ hs⟩
    · rw [if_neg q2] at h
      cases h
  · rw [if_neg q1] at h
    by_cases q2 : n.1 = 11
    · rw [if_pos q2] at h
      match st, h, hs with
      | (x, t) :: r, h, hs =>
        have h : (if n.2.1 = x ∧ t = true then some ((i, true) :: r) else none) = some s1 := h
        by_cases q3 : n.2.1 = x ∧ t = true
        · rw [if_pos q3] at h
          have e := Option.some.inj h
          subst e
          have hx := hs (x, t) (List.mem_cons_self ..)
          have hx : i0 ≤ x ∧ x < i := hx
          exact ⟨Or.inr ⟨by omega, by omega, Or.inl q2⟩, up _ _ (fun q hq => hs q (List.mem_cons_of_mem _ hq))⟩
        · rw [if_neg q3] at h
          cases h
    · rw [if_neg q2] at h
      match st, h, hs with
      | (y, t2) :: (x, t1) :: r, h, hs =>
        have h : (if n.2.1 = x ∧ n.2.2 = y ∧ 2 ≤ n.1 ∧ n.1 ≤ 13 ∧ (n.1 < 12 ∨ (t1 = true ∧ t2 = true)) then some ((i, decide (8 ≤ n.1)) :: r) else none) = some s1 := h
        by_cases q3 : n.2.1 = x ∧ n.2.2 = y ∧ 2 ≤ n.1 ∧ n.1 ≤ 13 ∧ (n.1 < 12 ∨ (t1 = true ∧ t2 = true))
        · rw [if_pos q3] at h
          have e := Option.some.inj h
          subst e
          have hy : i0 ≤ y ∧ y < i := hs (y, t2) (List.mem_cons_self ..)
          have hx : i0 ≤ x ∧ x < i := hs (x, t1) (List.mem_cons_of_mem _ (List.mem_cons_self ..))
          exact ⟨Or.inr ⟨by omega, by omega, Or.inr ⟨by omega, by omega⟩⟩, up _ _ (fun q hq => hs q (List.mem_cons_of_mem _ (List.mem_cons_of_mem _ hq)))⟩
        · rw [if_neg q3] at h
          cases h
theorem zv_sy_od {i0 : Int} : ∀ (N : List zp_N) (i : Int) (st s1 : zp_Y), zp_sy i N st = some s1 → i0 ≤ i → zv_in i0 i st → zv_od i0 i N
  | [], _, _, _, _, _, _ => trivial
  | n :: N, i, st, s1, h, hi, hs => by
    have h : (zp_y1 i n st).bind (fun s1 => zp_sy (i + 1) N s1) = some s1 := h
    cases h1 : zp_y1 i n st with
    | none =>
      rw [h1] at h
      cases h
    | some s2 =>
      rw [h1] at h
      have h : zp_sy (i + 1) N s2 = some s1 := h
      obtain ⟨o1, o2⟩ := zv_y1 h1 hi hs
      exact ⟨o1, zv_sy_od N (i + 1) s2 s1 h (by omega) o2⟩
theorem zv_sy_in {i0 : Int} : ∀ (N : List zp_N) (i : Int) (st s1 : zp_Y), zp_sy i N st = some s1 → i0 ≤ i → zv_in i0 i st → zv_in i0 (i + (N.length : Int)) s1
  | [], i, st, s1, h, _, hs => by
    have e := Option.some.inj h
    subst e
    rw [List.length_nil]
    intro q hq
    have := hs q hq
    omega
  | n :: N, i, st, s1, h, hi, hs => by
    have h : (zp_y1 i n st).bind (fun s1 => zp_sy (i + 1) N s1) = some s1 := h
    cases h1 : zp_y1 i n st with
    | none =>
      rw [h1] at h
      cases h
    | some s2 =>
      rw [h1] at h
      have h : zp_sy (i + 1) N s2 = some s1 := h
      have q := zv_sy_in N (i + 1) s2 s1 h (by omega) (zv_y1 h1 hi hs).2
      have e : i + ((n :: N).length : Int) = i + 1 + (N.length : Int) := by
        rw [List.length_cons]
        omega
      rw [e]
      exact q
theorem zv_od_w {i0 i1 : Int} (h : i1 ≤ i0) : ∀ (N : List zp_N) (i : Int), zv_od i0 i N → zv_od i1 i N
  | [], _, _ => trivial
  | n :: N, i, hN => ⟨hN.1.imp id (fun q => ⟨by omega, q.2.1, q.2.2.imp id (fun z => ⟨by omega, z.2⟩)⟩), zv_od_w h N (i + 1) hN.2⟩
theorem zv_od_ap {i0 : Int} : ∀ (a b : List zp_N) (i : Int), zv_od i0 i a → zv_od i0 (i + a.length) b → zv_od i0 i (a ++ b)
  | [], b, i, _, hb => by
    have e : i + (([] : List zp_N).length : Int) = i := by simp
    rw [e] at hb
    exact hb
  | n :: a, b, i, ha, hb => ⟨ha.1, zv_od_ap a b (i + 1) ha.2 (by
      have e : i + ((n :: a).length : Int) = i + 1 + (a.length : Int) := by
        rw [List.length_cons]
        omega
      rw [e] at hb
      exact hb)⟩
/-- the nodes' worth up to the d-th -/
theorem zv_vl_c {A : Int → Int} {n : zp_N} {a b a1 b1 : Int} (h : n.1 ≤ 1 ∨ (a1 = a ∧ (n.1 = 11 ∨ b1 = b))) (h0 : 0 ≤ n.1) : zp_vl A n a1 b1 = zp_vl A n a b := by
  rcases h with h | ⟨h1, h2 | h2⟩
  · have h3 : n.1 = 0 ∨ n.1 = 1 := by omega
    rcases h3 with e | e <;> simp [zp_vl, e]
  · subst h1
    simp [zp_vl, h2]
  · subst h1 h2
    rfl
noncomputable def zv_nn : List zp_N → Prop
  | [] => True
  | n :: N => 0 ≤ n.1 ∧ zv_nn N
theorem zv_sy_nn : ∀ (N : List zp_N) (i : Int) (st s1 : zp_Y), zp_sy i N st = some s1 → zv_nn N
  | [], _, _, _, _ => trivial
  | n :: N, i, st, s1, h => by
    have h : (zp_y1 i n st).bind (fun s1 => zp_sy (i + 1) N s1) = some s1 := h
    cases h1 : zp_y1 i n st with
    | none =>
      rw [h1] at h
      cases h
    | some s2 =>
      rw [h1] at h
      have h : zp_sy (i + 1) N s2 = some s1 := h
      refine ⟨?_, zv_sy_nn N (i + 1) s2 s1 h⟩
      unfold zp_y1 at h1
      by_cases q1 : (n.1 = 0 ∧ 0 ≤ n.2.1 ∧ n.2.1 ≤ 999999) ∨ (n.1 = 1 ∧ 0 ≤ n.2.1 ∧ n.2.1 ≤ 6)
      · omega
      · rw [if_neg q1] at h1
        by_cases q2 : n.1 = 11
        · omega
        · rw [if_neg q2] at h1
          match st, h1 with
          | (y, t2) :: (x, t1) :: r, h1 =>
            have h1 : (if n.2.1 = x ∧ n.2.2 = y ∧ 2 ≤ n.1 ∧ n.1 ≤ 13 ∧ (n.1 < 12 ∨ (t1 = true ∧ t2 = true)) then some ((i, decide (8 ≤ n.1)) :: r) else none) = some s2 := h1
            by_cases q3 : n.2.1 = x ∧ n.2.2 = y ∧ 2 ≤ n.1 ∧ n.1 ≤ 13 ∧ (n.1 < 12 ∨ (t1 = true ∧ t2 = true))
            · omega
            · rw [if_neg q3] at h1
              cases h1
theorem zv_nn_ap : ∀ (a b : List zp_N), zv_nn a → zv_nn b → zv_nn (a ++ b)
  | [], _, _, hb => hb
  | _ :: a, b, ha, hb => ⟨ha.1, zv_nn_ap a b ha.2 hb⟩
/-- what was reckoned stays as it is when a later one is written -/
theorem zv_RV_c {A R R1 : Int → Int} {i0 : Int} : ∀ (N : List zp_N) (i : Int), zv_od i0 i N → zv_nn N → i0 ≤ i → (∀ j, i0 ≤ j → j < i + (N.length : Int) → R1 j = R j) → zp_RV A R i N → zp_RV A R1 i N
  | [], _, _, _, _, _, _ => trivial
  | n :: N, i, ho, hn, hi, hc, h => by
    have hc' : ∀ j, i0 ≤ j → j < i + 1 + (N.length : Int) → R1 j = R j := fun j a b => hc j a (by rw [List.length_cons]; omega)
    refine ⟨?_, zv_RV_c N (i + 1) ho.2 hn.2 (by omega) hc' h.2⟩
    rw [hc' i hi (by omega), h.1]
    refine (zv_vl_c ?_ hn.1).symm
    rcases ho.1 with q | ⟨q1, q2, q3⟩
    · exact Or.inl q
    · exact Or.inr ⟨hc' _ q1 (by omega), q3.imp id (fun z => hc' _ z.1 (by omega))⟩
theorem zv_RV_snoc {A R : Int → Int} {n : zp_N} : ∀ (N : List zp_N) (i : Int), zp_RV A R i N → R (i + (N.length : Int)) = zp_vl A n (R n.2.1) (R n.2.2) → zp_RV A R i (N ++ [n])
  | [], i, _, h => by
    have e : i + (([] : List zp_N).length : Int) = i := by simp
    rw [e] at h
    exact ⟨h, trivial⟩
  | x :: N, i, hN, h => ⟨hN.1, zv_RV_snoc N (i + 1) hN.2 (by
      have e : i + ((x :: N).length : Int) = i + 1 + (N.length : Int) := by
        rw [List.length_cons]
        omega
      rw [e] at h
      exact h)⟩
theorem zv_RV_ap {A R : Int → Int} : ∀ (a b : List zp_N) (i : Int), zp_RV A R i (a ++ b) → zp_RV A R i a ∧ zp_RV A R (i + (a.length : Int)) b
  | [], b, i, h => by
    have e : i + (([] : List zp_N).length : Int) = i := by simp
    rw [e]
    exact ⟨trivial, h⟩
  | x :: a, b, i, h => by
    obtain ⟨h1, h2⟩ := zv_RV_ap a b (i + 1) h.2
    have e : i + ((x :: a).length : Int) = i + 1 + (a.length : Int) := by
      rw [List.length_cons]
      omega
    rw [e]
    exact ⟨⟨h.1, h1⟩, h2⟩
theorem zv_od_tk {i0 : Int} : ∀ (N : List zp_N) (i : Int) (d : Nat), zv_od i0 i N → zv_od i0 i (N.take d)
  | [], _, d, _ => by
    rw [List.take_nil]
    trivial
  | _ :: _, _, 0, _ => trivial
  | n :: N, i, d + 1, h => ⟨h.1, zv_od_tk N (i + 1) d h.2⟩
theorem zv_nn_tk : ∀ (N : List zp_N) (d : Nat), zv_nn N → zv_nn (N.take d)
  | [], d, _ => by
    rw [List.take_nil]
    trivial
  | _ :: _, 0, _ => trivial
  | n :: N, d + 1, h => ⟨h.1, zv_nn_tk N d h.2⟩
theorem zv_od_at {i0 : Int} : ∀ (N : List zp_N) (i : Int) (d : Nat) (n : zp_N), zv_od i0 i N → N[d]? = some n → n.1 ≤ 1 ∨ (i0 ≤ n.2.1 ∧ n.2.1 < i + (d : Int) ∧ (n.1 = 11 ∨ (i0 ≤ n.2.2 ∧ n.2.2 < i + (d : Int))))
  | [], _, d, n, _, h => by simp at h
  | x :: N, i, 0, n, ho, h => by
    have e : x = n := by simpa using h
    rw [← e]
    have := ho.1
    simpa using this
  | x :: N, i, d + 1, n, ho, h => by
    have := zv_od_at N (i + 1) d n ho.2 (by simpa using h)
    omega
/-- one more is reckoned -/
theorem zv_RV_st {A R R1 : Int → Int} {F0 : Int} {N : List zp_N} {d : Nat} {n : zp_N} (ho : zv_od F0 F0 N) (hn : zv_nn N) (hN : N[d]? = some n) (h : zp_RV A R F0 (N.take d)) (hc : ∀ j, j ≠ F0 + (d : Int) → R1 j = R j) (hv : R1 (F0 + (d : Int)) = zp_vl A n (R n.2.1) (R n.2.2)) : zp_RV A R1 F0 (N.take (d + 1)) := by
  have hd : d < N.length := by
    rcases Nat.lt_or_ge d N.length with q | q
    · exact q
    · rw [List.getElem?_eq_none q] at hN
      cases hN
  have hl : (N.take d).length = d := by
    rw [List.length_take]
    omega
  have e : N.take (d + 1) = N.take d ++ [n] := by
    rw [List.take_succ, hN]
    rfl
  have ha := zv_od_at N F0 d n ho hN
  have hn0 : 0 ≤ n.1 := by
    have : ∀ (N : List zp_N) (d : Nat), zv_nn N → N[d]? = some n → 0 ≤ n.1 := by
      intro N
      induction N with
      | nil => intro d _ h; simp at h
      | cons x N ih =>
        intro d hx h
        cases d with
        | zero =>
          have e : x = n := by simpa using h
          rw [← e]
          exact hx.1
        | succ d => exact ih d hx.2 (by simpa using h)
    exact this N d hn hN
  rw [e]
  refine zv_RV_snoc _ _ (zv_RV_c (i0 := F0) _ _ (zv_od_tk N F0 d ho) (zv_nn_tk N d hn) (Int.le_refl _) (fun j _ b => hc j (by rw [hl] at b; omega)) h) ?_
  rw [hl, hv]
  refine (zv_vl_c ?_ hn0).symm
  rcases ha with q | ⟨q1, q2, q3⟩
  · exact Or.inl q
  · exact Or.inr ⟨hc _ (by omega), q3.imp id (fun z => hc _ (by omega))⟩
end SG60z2
