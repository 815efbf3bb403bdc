

/-! TAPE, ORDERS and FAULT of both sides -/
/-- as many bytes, the same bytes, as many ORDERS, the same FAULT -/
noncomputable def z_RO (I K : z_I) : Prop := (I 12 1).toInt = (K 0 31).toInt ∧ (∀ p : Nat, (p : Int) < (I 12 1).toInt → (I 13 p).toInt = (K 25 p &&& 255).toInt) ∧ (I 21 2).toInt = (K 0 13).toInt ∧ (I 0 1).toInt = (K 0 32).toInt
theorem z_RO_k {I I1 K K1 : z_I} (h : z_RO I K) (e1 : I1 12 1 = I 12 1) (e2 : ∀ j, I1 13 j = I 13 j) (e3 : I1 21 2 = I 21 2) (e4 : I1 0 1 = I 0 1) (k1 : K1 0 31 = K 0 31) (k2 : ∀ j, K1 25 j = K 25 j) (k3 : K1 0 13 = K 0 13) (k4 : K1 0 32 = K 0 32) : z_RO I1 K1 := by
  unfold z_RO
  rw [e1, e3, e4, k1, k3, k4]
  exact ⟨h.1, fun p hp => by rw [e2, k2]; exact h.2.1 p hp, h.2.2⟩
/-- a row of the class's copies: o is the ORDERS' own object, us as many codes -/
noncomputable def zo_row (I : z_I) (o : Nat) (us : Int) (j : Nat) (s : zp_T) : Prop := (I (o + 1) j).toInt = s.1 ∧ (s.1 ≤ 301 → ∃ p : Nat, (I (o + 2) j).toInt = (p : Int) ∧ zp_cd (fun j => (I (o + 4) j).toInt) p (s.2.2.1 ++ [-13]) ∧ (p : Int) + (s.2.2.1.length : Int) < us) ∧ (303 ≤ s.1 → (I (o + 2) j).toInt = s.2.1) ∧ ((s.2.2.2 = [] ∧ (I (o + 3) j).toInt = -1) ∨ (s.2.2.2 ≠ [] ∧ ∃ p : Nat, (I (o + 3) j).toInt = (p : Int) ∧ zp_cd (fun j => (I (o + 4) j).toInt) p (s.2.2.2 ++ [-13]) ∧ (p : Int) + (s.2.2.2.length : Int) < us))
theorem zo_row_of {Ir I1 : z_I} {o j : Nat} {us : Int} {s : zp_T} (h : zr_row Ir j s) (hq : ∀ q, q < 4 → ∀ k, I1 (o + 1 + q) k = Ir (z_src q) k) (hu : us = (Ir 12 9).toInt) : zo_row I1 o us j s := by
  have e1 : ∀ k, I1 (o + 1) k = Ir 18 k := hq 0 (by decide)
  have e2 : ∀ k, I1 (o + 2) k = Ir 19 k := hq 1 (by decide)
  have e3 : ∀ k, I1 (o + 3) k = Ir 20 k := hq 2 (by decide)
  have e4 : ∀ k, I1 (o + 4) k = Ir 17 k := hq 3 (by decide)
  have e5 : (fun j => (I1 (o + 4) j).toInt) = fun j => (Ir 17 j).toInt := funext fun k => by rw [e4 k]
  unfold zo_row
  rw [e1, e2, e3, e5, hu]
  exact h
/-- ORDERS more -/
noncomputable def zo_new (c c1 : z_C) (I I1 : z_I) (mo : Int) (ssT : List zp_T) : Prop := c1.2.1 = c.2.1 + 1 ∧ (∀ k, k < c.2.1 → c1.2.2.1 k = c.2.2.1 k ∧ c1.2.2.2 k = c.2.2.2 k) ∧ c1.2.2.1 c.2.1 = ssT.length ∧ (I1 (z_o0 c) 0).toInt = mo ∧ I1 (z_o0 c) 1 = I 0 0 ∧ ∀ (j : Nat) (s : zp_T), ssT[j]? = some s → zo_row I1 (z_o0 c) (c1.2.2.2 c.2.1 : Int) j s
section ZGO
variable {c c1 : z_C} {I I1 K K1 : z_I} {J J1 : z_J} {n mo r r1 : Int} {a : Int32}
theorem zo_okk (h : z_RO I K) : zo_ok I n mo ↔ zm_ok K n mo := by
  unfold zo_ok zm_ok
  rw [h.1]
theorem zo_h (h : z_RO I K) (ha : a.toInt = n) (hn : 0 ≤ n) (hn2 : n ≤ (I 12 1).toInt) : zx_h I n.toNat = zm_h (z_up K 0 33 a) := funext fun p => by
  unfold zx_h zm_h
  rw [z_up_s, z_up_n (by decide), ha]
  by_cases q : p < n.toNat
  · rw [if_pos q, if_neg (by omega), h.2.1 p (by omega)]
  · rw [if_neg q, if_pos (by omega)]
/-- what the reference wants to know -/
noncomputable def zo_hC (K : z_I) (a mo : Int32) (gt gv : Nat → Int) (gp ge : Nat → Nat) (gh : Nat → Int) (gm : Nat) (ssT : List zp_T) (keT ff : Nat) : Prop := zm_ok K a.toInt mo.toInt → (K 0 13).toInt ≠ 12 → gh = zm_h (z_up K 0 33 a) ∧ zp_SM gh gt gv gp ge gm ∧ (∀ k, gt k = 400 → 0 ≤ gv k ∧ gv k ≤ 999999) ∧ zp_ts gt gv 0 ssT keT ∧ ssT.length ≤ 24 ∧ (gt keT = 401 ∨ zm_F gt gv ssT keT ff)
/-- what the class told -/
noncomputable def zo_ln (c c1 : z_C) (I K I1 : z_I) (n mo r : Int) (gt gv : Nat → Int) (gp : Nat → Nat) (ssT : List zp_T) (keT ff : Nat) : Prop := (r = -2 ∧ ¬ zm_ok K n mo ∧ I1 = I ∧ c1 = c) ∨ (r = -3 ∧ zm_ok K n mo ∧ (K 0 13).toInt = 12 ∧ I1 = I ∧ c1 = c) ∨
  (zm_ok K n mo ∧ (K 0 13).toInt ≠ 12 ∧ (I1 12 1).toInt = 0 ∧ (∀ a k, 200 ≤ a → a < z_o0 c → I1 a k = I a k) ∧ ((r = -1 ∧ c1 = c ∧ gt keT ≠ 401 ∧ (I1 0 1).toInt = (gp ff : Int)) ∨ (r = (c.2.1 : Int) ∧ zo_new c c1 I I1 mo ssT ∧ gt keT = 401 ∧ (I1 0 1).toInt = -1)))
theorem zo_gh {mo : Int32} (h : zo_PO c c1 I I1 a.toInt mo.toInt r) (hR : z_RO I K) (hc : (I 21 2).toInt = (c.2.1 : Int)) : ∃ (gt gv : Nat → Int) (gp ge : Nat → Nat) (gh : Nat → Int) (gm : Nat) (ssT : List zp_T) (keT ff : Nat), zo_hC K a mo gt gv gp ge gh gm ssT keT ff ∧ zo_ln c c1 I K I1 a.toInt mo.toInt r gt gv gp ssT keT ff := by
  have hN : (c.2.1 : Int) = (K 0 13).toInt := by
    have := hR.2.2.1
    omega
  rcases h with ⟨h1, h2, h3, h4⟩ | ⟨h1, h2, h3, h4, h5⟩ | ⟨h1, h2, h3, h4, Ir, ⟨⟨gm, ge, hS1, hS2, hS3, hS4⟩, hre⟩, h6⟩
  · exact ⟨fun _ => 0, fun _ => 0, fun _ => 0, fun _ => 0, fun _ => 0, 0, [], 0, 0, fun q => absurd ((zo_okk hR).mpr q) h2, Or.inl ⟨h1, fun q => h2 ((zo_okk hR).mpr q), h3, h4⟩⟩
  · exact ⟨fun _ => 0, fun _ => 0, fun _ => 0, fun _ => 0, fun _ => 0, 0, [], 0, 0, fun _ q => absurd (by omega) q, Or.inr (Or.inl ⟨h1, (zo_okk hR).mp h2, by omega, h4, h5⟩)⟩
  · have hsm : zr_SM (zx_h I a.toInt.toNat) Ir := ⟨gm, ge, hS1, hS2, hS3, hS4⟩
    have hgh := zo_h hR (a := a) rfl h1.1 h1.2.1
    rcases h6 with ⟨e1, e2, e3⟩ | ⟨e1, e2, e3, e4, e5, hus0, e6⟩
    · rcases hre with ⟨q, _⟩ | ⟨f, ⟨ss, ke, t1, t2, t3, t4⟩, hf1, hf2⟩
      · exact absurd q e2
      · exact ⟨zr_tk Ir, zr_va Ir, _, ge, _, gm, ss, ke, f, fun _ _ => ⟨hgh, hS3, zr_SM_va hsm, t1, t2, Or.inr ⟨t3, t4⟩⟩, Or.inr (Or.inr ⟨(zo_okk hR).mp h1, by omega, h3, h4, Or.inl ⟨e1, e3, t3, hf2⟩⟩)⟩
    · rcases hre with ⟨_, ss, ⟨t1, ke, t2, t3⟩, u1, u2⟩ | ⟨f, _, _, hf2⟩
      · have hst := z_clt (x := Ir 12 13) rfl (by omega)
        have hnew : zo_new c c1 I I1 mo.toInt ss := by
          have hus : 0 ≤ (Ir 12 9).toInt := hus0
          have hus2 := z_clt (x := Ir 12 9) rfl hus
          rw [e3]
          refine ⟨rfl, fun k hk => ⟨(show (if k = c.2.1 then (Ir 12 13).toNatClampNeg else c.2.2.1 k) = c.2.2.1 k from if_neg (by omega)), (show (if k = c.2.1 then (Ir 12 9).toNatClampNeg else c.2.2.2 k) = c.2.2.2 k from if_neg (by omega))⟩, (show (if c.2.1 = c.2.1 then (Ir 12 13).toNatClampNeg else c.2.2.1 c.2.1) = ss.length by rw [if_pos rfl]; omega), e4, e5, fun j s hj => zo_row_of (u2 j s hj) e6 ?_⟩
          show (((if c.2.1 = c.2.1 then (Ir 12 9).toNatClampNeg else c.2.2.2 c.2.1) : Nat) : Int) = _
          rw [if_pos rfl]
          exact hus2
        exact ⟨zr_tk Ir, zr_va Ir, _, ge, _, gm, ss, ke, 0, fun _ _ => ⟨hgh, hS3, zr_SM_va hsm, t2, t1, Or.inl t3⟩, Or.inr (Or.inr ⟨(zo_okk hR).mp h1, by omega, h3, h4, Or.inr ⟨e1, hnew, t3, e2⟩⟩)⟩
      · omega
theorem zo_eq {gt gv : Nat → Int} {gp : Nat → Nat} {n0 st0 x0 : Nat} {ssT : List zp_T} {keT ff : Nat} (hl : zo_ln c c1 I K I1 n mo r gt gv gp ssT keT ff) (hm : zm_PO gt gv gp K K1 J J1 n mo r1 n0 st0 x0 ssT keT ff) (hR : z_RO I K) (hc : (I 21 2).toInt = (c.2.1 : Int)) (hc1 : (I1 21 2).toInt = (c1.2.1 : Int)) (hx0 : (K 0 13).toInt = (x0 : Int)) : r = r1 ∧ z_RO I1 K1 := by
  have hX := hR.2.2.1
  rcases hl with ⟨h1, h2, h3, h4⟩ | ⟨h1, h2, h3, h4, h5⟩ | ⟨h1, h2, h3, hfr, h4⟩
  · rcases hm with ⟨m1, m2, m3, m4⟩ | ⟨m1, m2, m3, m4, m5⟩ | ⟨m1, m2, _⟩
    · exact ⟨by omega, by rw [h3, m3]; exact hR⟩
    · exact absurd m2 h2
    · exact absurd m1 h2
  · rcases hm with ⟨m1, m2, m3, m4⟩ | ⟨m1, m2, m3, m4, m5⟩ | ⟨m1, m2, _⟩
    · exact absurd h2 m2
    · exact ⟨by omega, by rw [h4, m4]; exact hR⟩
    · exact absurd h3 m2
  · rcases hm with ⟨m1, m2, m3, m4⟩ | ⟨m1, m2, m3, m4, m5⟩ | ⟨m1, m2, m3, m4, m5, m6⟩
    · exact absurd h1 m2
    · exact absurd m3 h2
    · rcases h4 with ⟨e1, e2, e3, e4⟩ | ⟨e1, e2, e3, e4⟩ <;> rcases m6 with ⟨f1, f2, f3, f4, _⟩ | ⟨f1, f2, f3, f4, _⟩
      · exact ⟨by omega, by omega, fun p hp => absurd hp (by omega), by rw [hc1, e2]; omega, by omega⟩
      · exact absurd f2 e3
      · exact absurd e3 f2.1
      · exact ⟨by omega, by omega, fun p hp => absurd hp (by omega), by rw [hc1, e2.1]; omega, by omega⟩
end ZGO

