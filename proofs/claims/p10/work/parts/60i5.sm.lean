/-! STATEMENTS: their word hd, their number fi, the code of their EX and of their COND (none: []); a reading is the same wherever it is done -/
noncomputable abbrev zp_T : Type := Int × Int × List Int × List Int
theorem zp_ok_run {tk va : Nat → Int} {w : Int} {k k1 : Nat} {cs : List Int} {n0 g : Int} {N : List zp_N} {a : zp_S} (h : zp_ok tk va w 0 k k1 cs) (hn : 0 ≤ n0) (hr : zp_R tk va n0 (.inr (k, [(w, 0, -1, 0)], 0, g, N)) a) (ha : zp_hl a) : ∃ sg g1, a = .inr (k1, [], 0, g1, N ++ sg) ∧ sg.map zp_en = cs ∧ 0 ≤ g1 := by
  obtain ⟨sg, g1, e, hg, r⟩ := h n0 [] g N hn
  exact ⟨sg, g1, hr.det r ha rfl, e, hg⟩
theorem zp_no_run {tk va : Nat → Int} {w : Int} {k f : Nat} {n0 g : Int} {N : List zp_N} {a : zp_S} (h : zp_no tk va w 0 k f) (hn : 0 ≤ n0) (hr : zp_R tk va n0 (.inr (k, [(w, 0, -1, 0)], 0, g, N)) a) (ha : zp_hl a) : a = .inl f := hr.det (h n0 [] g N hn) ha trivial
/-- a text of one reading isn't empty -/
theorem zp_ok_ne {tk va : Nat → Int} {w : Int} {k k1 : Nat} {cs : List Int} (hva : ∀ k, tk k = 400 → 0 ≤ va k ∧ va k ≤ 999999) (hw : w = 0 ∨ w = 3) (h : zp_ok tk va w 0 k k1 cs) : cs ≠ [] := by
  obtain ⟨sg, g1, e, hg, r⟩ := h 0 [] 0 [] (Int.le_refl 0)
  obtain ⟨sg1, t, e1, hs, -⟩ := zp_V_fin hva (Int.le_refl 0) hw (Int.le_refl 0) r
  intro q
  rw [q] at e
  have e2 : sg = [] := List.map_eq_nil_iff.mp e
  rw [e2] at e1
  have e3 : sg1 = [] := by simpa using e1.symm
  rw [e3] at hs
  have hs := Option.some.inj hs
  cases hs
/-- a statement is read from token k on to token k1 -/
noncomputable def zp_sm (tk va : Nat → Int) (k k1 : Nat) (s : zp_T) : Prop := s.1 = tk k ∧
  (((s.1 = 300 ∨ s.1 = 301) ∧ ∃ k2, zp_ok tk va 0 0 (k + 1) k2 s.2.2.1 ∧ ((tk k2 = 308 ∧ zp_ok tk va 3 0 (k2 + 1) k1 s.2.2.2 ∧ s.2.2.2 ≠ []) ∨ (tk k2 ≠ 308 ∧ k1 = k2 ∧ s.2.2.2 = []))) ∨
   (s.1 = 302 ∧ s.2.2.1 = [] ∧ zp_ok tk va 3 0 (k + 1) k1 s.2.2.2 ∧ s.2.2.2 ≠ []) ∨
   (303 ≤ s.1 ∧ s.1 ≤ 307 ∧ s.2.2.1 = [] ∧ s.2.2.2 = [] ∧ tk (k + 1) = 400 ∧ (s.1 = 303 → 1 ≤ va (k + 1)) ∧ s.2.1 = va (k + 1) ∧ k1 = k + 2))
/-- a statement goes wrong at token f -/
noncomputable def zp_sn (tk va : Nat → Int) (k f : Nat) : Prop :=
  ((tk k = 300 ∨ tk k = 301) ∧ (zp_no tk va 0 0 (k + 1) f ∨ ∃ k2 ce, zp_ok tk va 0 0 (k + 1) k2 ce ∧ tk k2 = 308 ∧ zp_no tk va 3 0 (k2 + 1) f)) ∨
  (tk k = 302 ∧ zp_no tk va 3 0 (k + 1) f) ∨
  (303 ≤ tk k ∧ tk k ≤ 307 ∧ (tk (k + 1) ≠ 400 ∨ (tk k = 303 ∧ va (k + 1) < 1)) ∧ f = k + 1) ∨
  (¬ (300 ≤ tk k ∧ tk k ≤ 307) ∧ f = k)
/-- statements, each with its ";", from token k on to token ke -/
noncomputable def zp_ts (tk va : Nat → Int) : Nat → List zp_T → Nat → Prop
  | k, [], ke => ke = k
  | k, s :: ss, ke => ∃ k1, zp_sm tk va k k1 s ∧ tk k1 = 59 ∧ zp_ts tk va (k1 + 1) ss ke
theorem zp_ts_snoc {tk va : Nat → Int} : ∀ (ss : List zp_T) (k ke k1 : Nat) (s : zp_T), zp_ts tk va k ss ke → zp_sm tk va ke k1 s → tk k1 = 59 → zp_ts tk va k (ss ++ [s]) (k1 + 1)
  | [], k, ke, k1, s, h, h1, h2 => by
    have e : ke = k := h
    subst e
    exact ⟨k1, h1, h2, rfl⟩
  | x :: ss, k, ke, k1, s, h, h1, h2 => by
    obtain ⟨k2, a1, a2, a3⟩ := h
    exact ⟨k2, a1, a2, zp_ts_snoc ss (k2 + 1) ke k1 s a3 h1 h2⟩
/-- a whole text: its statements; or where it goes wrong -/
noncomputable def zp_tx (tk va : Nat → Int) (ss : List zp_T) : Prop := ss.length ≤ 24 ∧ ∃ ke, zp_ts tk va 0 ss ke ∧ tk ke = 401
noncomputable def zp_tn (tk va : Nat → Int) (f : Nat) : Prop := ∃ (ss : List zp_T) (ke : Nat), zp_ts tk va 0 ss ke ∧ ss.length ≤ 24 ∧ tk ke ≠ 401 ∧ ((ss.length = 24 ∧ f = ke) ∨ (ss.length < 24 ∧ (zp_sn tk va ke f ∨ ∃ k1 s, zp_sm tk va ke k1 s ∧ tk k1 ≠ 59 ∧ f = k1)))
