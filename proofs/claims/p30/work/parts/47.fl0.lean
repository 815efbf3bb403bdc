/-! roads of least miles over 16 places: what keeps them without rounds that gain -/
noncomputable def z_pt (R C : Nat → Nat → Int) (pi : Nat → Int) : Prop := ∀ a b, a < 16 → b < 16 → 0 < R a b → 0 ≤ C a b + pi a - pi b
noncomputable def z_tr (R C : Nat → Nat → Int) (pi F : Nat → Int) (b h : Nat → Nat) : Prop :=
  F 0 = 0 ∧ (∀ v, v < 16 → F v ≤ 1000000) ∧ (∀ v, v < 16 → F v < 1000000 → -pi 0 ≤ F v - pi v) ∧
  ∀ v, v < 16 → v ≠ 0 → F v < 1000000 → b v < 16 ∧ F (b v) < 1000000 ∧ 0 < R (b v) v ∧ F (b v) + C (b v) v ≤ F v ∧ (F (b v) - pi (b v) = F v - pi v → h (b v) < h v)
noncomputable def z_u1 (f : Nat → Nat) (x y : Nat) : Nat → Nat := fun v => if v = x then y else f v
theorem z_rlx {R C : Nat → Nat → Int} {pi F F' : Nat → Int} {b b' h : Nat → Nat} {a x : Nat} (hp : z_pt R C pi) (ht : z_tr R C pi F b h) (ha : a < 16) (hx : x < 16) (hf : F a < 1000000) (hr : 0 < R a x) (hl : F a + C a x < F x)
    (hF1 : F' x = F a + C a x) (hF2 : ∀ v, v ≠ x → F' v = F v) (hb1 : b' x = a) (hb2 : ∀ v, v ≠ x → b' v = b v) : a ≠ x ∧ x ≠ 0 ∧ z_tr R C pi F' b' (z_u1 h x (h a + 1)) := by
  obtain ⟨t0, t1, t2, t3⟩ := ht
  have q := hp a x ha hx hr
  have qa := t2 a ha hf
  have hax : a ≠ x := fun e => by
    subst e
    omega
  have hx0 : x ≠ 0 := fun e => by
    subst e
    omega
  refine ⟨hax, hx0, ?_, fun v hv => ?_, fun v hv hf' => ?_, fun v hv h0 hf' => ?_⟩
  · rw [hF2 0 (fun e => hx0 e.symm)]
    exact t0
  · by_cases e : v = x
    · subst e
      rw [hF1]
      have := t1 v hv
      omega
    · rw [hF2 v e]
      exact t1 v hv
  · by_cases e : v = x
    · subst e
      rw [hF1]
      omega
    · rw [hF2 v e] at hf' ⊢
      exact t2 v hv hf'
  · by_cases e : v = x
    · subst e
      rw [hb1, hF1, hF2 a hax]
      refine ⟨ha, hf, hr, Int.le_refl _, fun _ => ?_⟩
      unfold z_u1
      rw [if_neg hax, if_pos rfl]
      omega
    · rw [hF2 v e] at hf'
      obtain ⟨c1, c2, c3, c4, c5⟩ := t3 v hv h0 hf'
      rw [hb2 v e, hF2 v e]
      by_cases e2 : b v = x
      · rw [e2] at c2 c3 c4 c5 ⊢
        rw [hF1]
        have q1 := t1 x hx
        have q2 := hp x v hx hv c3
        refine ⟨hx, by omega, c3, by omega, fun k => ?_⟩
        exfalso
        omega
      · rw [hF2 (b v) e2]
        refine ⟨c1, c2, c3, c4, fun k => ?_⟩
        unfold z_u1
        rw [if_neg e2, if_neg e]
        exact c5 k
noncomputable def z_sm (f : Nat → Nat) : Nat → Nat
  | 0 => 0
  | n + 1 => z_sm f n + f n
theorem z_sm_le {f g : Nat → Nat} : ∀ n, (∀ v, v < n → f v ≤ g v) → z_sm f n ≤ z_sm g n
  | 0, _ => Nat.le_refl 0
  | n + 1, h => by
    have h1 := z_sm_le n (fun v hv => h v (by omega))
    have h2 := h n (by omega)
    show z_sm f n + f n ≤ z_sm g n + g n
    omega
theorem z_sm_lt {f g : Nat → Nat} {x : Nat} : ∀ n, (∀ v, v < n → f v ≤ g v) → x < n → f x < g x → z_sm f n < z_sm g n
  | 0, _, hx, _ => absurd hx (by omega)
  | n + 1, h, hx, hl => by
    have h1 := z_sm_le n (fun v hv => h v (by omega))
    have h2 := h n (by omega)
    show z_sm f n + f n < z_sm g n + g n
    by_cases e : x = n
    · subst e
      omega
    · have h3 := z_sm_lt n (fun v hv => h v (by omega)) (by omega) hl
      omega
theorem z_sm_at {f : Nat → Nat} {x : Nat} : ∀ n, x < n → f x ≤ z_sm f n
  | 0, hx => absurd hx (by omega)
  | n + 1, hx => by
    show f x ≤ z_sm f n + f n
    by_cases e : x = n
    · subst e
      omega
    · have h3 := z_sm_at (f := f) n (show x < n by omega)
      omega
noncomputable def z_cvg (R C : Nat → Nat → Int) (F : Nat → Int) : Prop := ∀ a x, a < 16 → x < 16 → F a < 1000000 → 0 < R a x → F x ≤ F a + C a x
noncomputable def z_lw (pi : Nat → Int) (v : Nat) : Int := if pi v - pi 0 ≤ 1000000 then pi v - pi 0 else 1000000
noncomputable def z_ml (pi F : Nat → Int) : Nat := z_sm (fun v => (F v - z_lw pi v).toNat) 16
theorem z_tlt {R C : Nat → Nat → Int} {pi F : Nat → Int} {b h : Nat → Nat} {a x : Nat} (hp : z_pt R C pi) (ht : z_tr R C pi F b h) (ha : a < 16) (hx : x < 16) (hf : F a < 1000000) (hr : 0 < R a x) (hl : F a + C a x < F x) : z_ml pi (fun v => if v = x then F a + C a x else F v) < z_ml pi F := by
  have h2 := (z_rlx (F' := fun v => if v = x then F a + C a x else F v) (b' := fun v => if v = x then a else b v) hp ht ha hx hf hr hl (if_pos rfl) (fun v hv => if_neg hv) (if_pos rfl) (fun v hv => if_neg hv)).2.2
  have q1 := ht.2.1 x hx
  have q2 := h2.2.2.1 x hx (by simp only [if_pos]; omega)
  simp only [if_pos] at q2
  have e1 : z_lw pi x = pi x - pi 0 := by
    unfold z_lw
    rw [if_pos (by omega)]
  refine z_sm_lt (x := x) 16 (fun v hv => ?_) hx ?_
  · show ((if v = x then F a + C a x else F v) - z_lw pi v).toNat ≤ (F v - z_lw pi v).toNat
    by_cases e : v = x
    · subst e
      rw [if_pos rfl]
      omega
    · rw [if_neg e]
      exact Nat.le_refl _
  · show ((if x = x then F a + C a x else F x) - z_lw pi x).toNat < (F x - z_lw pi x).toNat
    rw [if_pos rfl, e1]
    omega
theorem z_exd {R C : Nat → Nat → Int} {pi : Nat → Int} (hp : z_pt R C pi) : ∀ (N : Nat) (F : Nat → Int) (b h : Nat → Nat), z_tr R C pi F b h → z_ml pi F ≤ N → ∃ (F : Nat → Int) (b h : Nat → Nat), z_tr R C pi F b h ∧ z_cvg R C F := by
  intro N
  induction N with
  | zero =>
    intro F b h ht hm
    by_cases hc : z_cvg R C F
    · exact ⟨F, b, h, ht, hc⟩
    · exfalso
      have hq : ∃ a x, a < 16 ∧ x < 16 ∧ F a < 1000000 ∧ 0 < R a x ∧ F a + C a x < F x := Classical.byContradiction fun q => hc (fun a x ha hx hf hr => Int.not_lt.mp fun hl => q ⟨a, x, ha, hx, hf, hr, hl⟩)
      obtain ⟨a, x, ha, hx, hf, hr, hl⟩ := hq
      have h1 := z_tlt hp ht ha hx hf hr hl
      omega
  | succ N ih =>
    intro F b h ht hm
    by_cases hc : z_cvg R C F
    · exact ⟨F, b, h, ht, hc⟩
    · have hq : ∃ a x, a < 16 ∧ x < 16 ∧ F a < 1000000 ∧ 0 < R a x ∧ F a + C a x < F x := Classical.byContradiction fun q => hc (fun a x ha hx hf hr => Int.not_lt.mp fun hl => q ⟨a, x, ha, hx, hf, hr, hl⟩)
      obtain ⟨a, x, ha, hx, hf, hr, hl⟩ := hq
      have h1 := z_tlt hp ht ha hx hf hr hl
      have h2 := (z_rlx (F' := fun v => if v = x then F a + C a x else F v) (b' := fun v => if v = x then a else b v) hp ht ha hx hf hr hl (if_pos rfl) (fun v hv => if_neg hv) (if_pos rfl) (fun v hv => if_neg hv)).2.2
      exact ih _ _ _ h2 (by omega)
theorem z_ms {R C : Nat → Nat → Int} {pi F : Nat → Int} {b h : Nat → Nat} (hp : z_pt R C pi) (ht : z_tr R C pi F b h) : ∃ m : Nat → Nat, ∀ v, v < 16 → v ≠ 0 → F v < 1000000 → m (b v) < m v := by
  refine ⟨fun v => (F v - pi v + pi 0).toNat * (z_sm h 16 + 1) + h v, fun v hv h0 hf => ?_⟩
  obtain ⟨t0, t1, t2, t3⟩ := ht
  obtain ⟨c1, c2, c3, c4, c5⟩ := t3 v hv h0 hf
  have q := hp (b v) v c1 hv c3
  have k1 := t2 v hv hf
  have k2 := t2 (b v) c1 c2
  have hh : h (b v) ≤ z_sm h 16 := z_sm_at 16 c1
  show (F (b v) - pi (b v) + pi 0).toNat * (z_sm h 16 + 1) + h (b v) < (F v - pi v + pi 0).toNat * (z_sm h 16 + 1) + h v
  by_cases e : F (b v) - pi (b v) = F v - pi v
  · rw [e]
    have := c5 e
    omega
  · have h1 : (F (b v) - pi (b v) + pi 0).toNat + 1 ≤ (F v - pi v + pi 0).toNat := by omega
    have h2 := Nat.mul_le_mul_right (z_sm h 16 + 1) h1
    rw [Nat.succ_mul] at h2
    omega
noncomputable def z_cvd (R C : Nat → Nat → Int) (d : Nat → Int) (rk : Nat → Nat) : Prop := d 0 = 0 ∧ (∀ v, v < 16 → d v ≤ 1000000) ∧ z_cvg R C d ∧ (∀ v, v < 16 → rk v ≤ 15) ∧ ∀ v, v < 16 → v ≠ 0 → d v < 1000000 → ∃ u, u < 16 ∧ d u < 1000000 ∧ 0 < R u v ∧ d u + C u v ≤ d v ∧ rk u < rk v
theorem z_ex {R C : Nat → Nat → Int} {pi : Nat → Int} (hp : z_pt R C pi) : ∃ (d : Nat → Int) (rk : Nat → Nat), z_cvd R C d rk := by
  have h0 : z_tr R C pi (fun v => if v = 0 then 0 else 1000000) (fun _ => 0) (fun _ => 0) := by
    refine ⟨if_pos rfl, fun v hv => ?_, fun v hv hf => ?_, fun v hv h0 hf => ?_⟩
    · by_cases e : v = 0
      · simp only [e, if_pos]
        decide
      · simp only [if_neg e]
        decide
    · by_cases e : v = 0
      · subst e
        simp only [if_pos]
        omega
      · simp only [if_neg e] at hf
        omega
    · simp only [if_neg h0] at hf
      omega
  obtain ⟨d, b, h, ht, hc⟩ := z_exd hp _ _ _ _ h0 (Nat.le_refl _)
  obtain ⟨m, hm⟩ := z_ms hp ht
  obtain ⟨t0, t1, t2, t3⟩ := ht
  refine ⟨d, fun v => z_sm (fun u => if m u < m v then 1 else 0) 16, t0, t1, hc, fun v hv => ?_, fun v hv h0 hf => ?_⟩
  · have h1 : z_sm (fun u => if m u < m v then 1 else 0) 16 < z_sm (fun _ => 1) 16 := z_sm_lt (x := v) 16 (fun u hu => by show (if m u < m v then 1 else 0) ≤ 1; split <;> omega) hv (by show (if m v < m v then 1 else 0) < 1; rw [if_neg (by omega)]; decide)
    have h2 : z_sm (fun _ => 1) 16 = 16 := by decide
    show z_sm (fun u => if m u < m v then 1 else 0) 16 ≤ 15
    omega
  · obtain ⟨c1, c2, c3, c4, c5⟩ := t3 v hv h0 hf
    have q := hm v hv h0 hf
    refine ⟨b v, c1, c2, c3, c4, ?_⟩
    show z_sm (fun u => if m u < m (b v) then 1 else 0) 16 < z_sm (fun u => if m u < m v then 1 else 0) 16
    refine z_sm_lt (x := b v) 16 (fun u hu => ?_) c1 ?_
    · show (if m u < m (b v) then 1 else 0) ≤ (if m u < m v then 1 else 0)
      by_cases e : m u < m (b v)
      · rw [if_pos e, if_pos (by omega)]
        exact Nat.le_refl 1
      · rw [if_neg e]
        omega
    · show (if m (b v) < m (b v) then 1 else 0) < (if m (b v) < m v then 1 else 0)
      rw [if_neg (by omega), if_pos q]
      decide
/-- no way is shorter than the shortest -/
theorem z_ge {R C : Nat → Nat → Int} {pi F d : Nat → Int} {b h rk : Nat → Nat} (hp : z_pt R C pi) (ht : z_tr R C pi F b h) (hd : z_cvd R C d rk) : ∀ v, v < 16 → d v ≤ F v := by
  obtain ⟨m, hm⟩ := z_ms hp ht
  obtain ⟨t0, t1, t2, t3⟩ := ht
  obtain ⟨d0, d1, d2, d3, d4⟩ := hd
  have key : ∀ n v, m v ≤ n → v < 16 → d v ≤ F v := by
    intro n
    induction n with
    | zero =>
      intro v h1 hv
      by_cases e : v = 0
      · subst e
        omega
      · by_cases hf : F v < 1000000
        · have := hm v hv e hf
          omega
        · have := d1 v hv
          omega
    | succ n ih =>
      intro v h1 hv
      by_cases e : v = 0
      · subst e
        omega
      · by_cases hf : F v < 1000000
        · have q := hm v hv e hf
          obtain ⟨c1, c2, c3, c4, c5⟩ := t3 v hv e hf
          have q1 := ih (b v) (by omega) c1
          have q2 := d2 (b v) v c1 hv (by omega) c3
          omega
        · have := d1 v hv
          omega
  exact fun v hv => key (m v) v (Nat.le_refl _) hv
/-- how far the rounds of looking have come -/
noncomputable def z_swp (R C : Nat → Nat → Int) (F d : Nat → Int) (rk : Nat → Nat) (k a b : Nat) : Prop := (∀ v, v < 16 → d v < 1000000 → rk v ≤ k → F v ≤ d v) ∧ ∀ u v, u < 16 → v < 16 → d u < 1000000 → 0 < R u v → d u + C u v ≤ d v → rk u < rk v → rk v ≤ k + 1 → (u < a ∨ (u = a ∧ v < b)) → F v ≤ d v
theorem z_swp_0 {R C : Nat → Nat → Int} {F d : Nat → Int} {rk : Nat → Nat} (hd : z_cvd R C d rk) (hF : F 0 = 0) : z_swp R C F d rk 0 0 0 := by
  refine ⟨fun v hv hf hr => ?_, fun u v hu hv h1 h2 h3 h4 h5 h6 => absurd h6 (by omega)⟩
  by_cases e : v = 0
  · subst e
    have := hd.1
    omega
  · obtain ⟨u, q1, q2, q3, q4, q5⟩ := hd.2.2.2.2 v hv e hf
    omega
theorem z_swp_b {R C : Nat → Nat → Int} {F F' d : Nat → Int} {rk : Nat → Nat} {k a b : Nat} (h : z_swp R C F d rk k a b) (hF : ∀ v, v < 16 → F' v ≤ F v) (hab : F a < 1000000 → 0 < R a b → F' b ≤ F a + C a b) : z_swp R C F' d rk k a (b + 1) := by
  refine ⟨fun v hv hf hr => ?_, fun u v hu hv h1 h2 h3 h4 h5 h6 => ?_⟩
  · have q1 := h.1 v hv hf hr
    have q2 := hF v hv
    omega
  · by_cases e : u = a ∧ v = b
    · obtain ⟨rfl, rfl⟩ := e
      have q1 := h.1 u hu h1 (by omega)
      have q2 := hab (by omega) h2
      omega
    · have q1 := h.2 u v hu hv h1 h2 h3 h4 h5 (by omega)
      have q2 := hF v hv
      omega
theorem z_swp_a {R C : Nat → Nat → Int} {F d : Nat → Int} {rk : Nat → Nat} {k a : Nat} (h : z_swp R C F d rk k a 16) : z_swp R C F d rk k (a + 1) 0 :=
  ⟨h.1, fun u v hu hv h1 h2 h3 h4 h5 h6 => h.2 u v hu hv h1 h2 h3 h4 h5 (by omega)⟩
theorem z_swp_k {R C : Nat → Nat → Int} {F d : Nat → Int} {rk : Nat → Nat} {k : Nat} (hd : z_cvd R C d rk) (hF : F 0 = 0) (h : z_swp R C F d rk k 16 0) : z_swp R C F d rk (k + 1) 0 0 := by
  refine ⟨fun v hv hf hr => ?_, fun u v hu hv h1 h2 h3 h4 h5 h6 => absurd h6 (by omega)⟩
  by_cases e : v = 0
  · subst e
    have := hd.1
    omega
  · obtain ⟨u, q1, q2, q3, q4, q5⟩ := hd.2.2.2.2 v hv e hf
    exact h.2 u v q1 hv q2 q3 q4 q5 hr (Or.inl q1)
/-- what finds() leaves, where there is a way -/
noncomputable def z_fd (R C : Nat → Nat → Int) (F : Nat → Int) (b : Nat → Nat) (pi : Nat → Int) (m : Nat → Nat) : Prop := z_pt R C pi ∧ ∀ v, v < 16 → v ≠ 0 → F v < 1000000 → b v < 16 ∧ F (b v) < 1000000 ∧ 0 < R (b v) v ∧ C (b v) v + pi (b v) - pi v = 0 ∧ m (b v) < m v
theorem z_fin {R C : Nat → Nat → Int} {pi F d : Nat → Int} {b h rk : Nat → Nat} (hp : z_pt R C pi) (ht : z_tr R C pi F b h) (hd : z_cvd R C d rk) (hs : z_swp R C F d rk 16 0 0) (hC : ∀ a b, a < 16 → b < 16 → -999 ≤ C a b ∧ C a b ≤ 999) (hB : ∀ v, v < 16 → F v < 1000000 → F v ≤ 300000) : ∃ (pi : Nat → Int) (m : Nat → Nat), z_fd R C F b pi m := by
  obtain ⟨m, hm⟩ := z_ms hp ht
  have hge := z_ge hp ht hd
  obtain ⟨t0, t1, t2, t3⟩ := ht
  obtain ⟨d0, d1, d2, d3, d4⟩ := hd
  have he : ∀ v, v < 16 → F v = d v := fun v hv => by
    have q1 := hge v hv
    have q2 := t1 v hv
    by_cases hf : d v < 1000000
    · have := hs.1 v hv hf (by have := d3 v hv; omega)
      omega
    · have := d1 v hv
      omega
  have hc : ∀ a x, a < 16 → x < 16 → F a < 1000000 → 0 < R a x → F x ≤ F a + C a x := fun a x ha hx hf hr => by
    have := d2 a x ha hx (by rw [← he a ha]; exact hf) hr
    rw [he a ha, he x hx]
    exact this
  refine ⟨fun v => if F v < 1000000 then F v else pi v + 1001000 + (z_sm (fun u => (pi u).natAbs) 16 : Nat), m, fun a x ha hx hr => ?_, fun v hv h0 hf => ?_⟩
  · show 0 ≤ C a x + (if F a < 1000000 then F a else pi a + 1001000 + (z_sm (fun u => (pi u).natAbs) 16 : Nat)) - (if F x < 1000000 then F x else pi x + 1001000 + (z_sm (fun u => (pi u).natAbs) 16 : Nat))
    have q1 := hC a x ha hx
    have q2 := t1 x hx
    by_cases ea : F a < 1000000
    · have q3 := hc a x ha hx ea hr
      have q4 := hB a ha ea
      rw [if_pos ea, if_pos (by omega)]
      omega
    · have q3 : (pi a).natAbs ≤ z_sm (fun u => (pi u).natAbs) 16 := z_sm_at (f := fun u => (pi u).natAbs) 16 ha
      rw [if_neg ea]
      by_cases ex : F x < 1000000
      · rw [if_pos ex]
        omega
      · rw [if_neg ex]
        have q4 := hp a x ha hx hr
        omega
  · obtain ⟨c1, c2, c3, c4, c5⟩ := t3 v hv h0 hf
    refine ⟨c1, c2, c3, ?_, hm v hv h0 hf⟩
    show C (b v) v + (if F (b v) < 1000000 then F (b v) else _) - (if F v < 1000000 then F v else _) = 0
    rw [if_pos c2, if_pos hf]
    have := hc (b v) v c1 hv c2 c3
    omega
/-! the way back from the end -/
noncomputable def z_it (b : Nat → Nat) : Nat → Nat → Nat
  | 0, v => v
  | k + 1, v => z_it b k (b v)
noncomputable def z_oc (b : Nat → Nat) (v x : Nat) : Prop := ∃ k, z_it b k v = x ∧ ∀ j, j ≤ k → z_it b j v ≠ 0
theorem z_oc_0 {b : Nat → Nat} {x : Nat} : ¬ z_oc b 0 x := fun ⟨_, _, h⟩ => h 0 (Nat.zero_le _) rfl
theorem z_oc_s {b : Nat → Nat} {v x : Nat} (hv : v ≠ 0) : z_oc b v x ↔ x = v ∨ z_oc b (b v) x := by
  constructor
  · intro ⟨k, h1, h2⟩
    cases k with
    | zero => exact Or.inl h1.symm
    | succ k => exact Or.inr ⟨k, h1, fun j hj => h2 (j + 1) (by omega)⟩
  · intro h
    rcases h with rfl | ⟨k, h1, h2⟩
    · refine ⟨0, rfl, fun j hj => ?_⟩
      have : j = 0 := by omega
      subst this
      exact hv
    · refine ⟨k + 1, h1, fun j hj => ?_⟩
      cases j with
      | zero => exact hv
      | succ j => exact h2 j (by omega)
theorem z_oc_m {R C : Nat → Nat → Int} {F : Nat → Int} {b : Nat → Nat} {pi : Nat → Int} {m : Nat → Nat} (h : z_fd R C F b pi m) : ∀ (k v x : Nat), v < 16 → F v < 1000000 → z_it b k v = x → (∀ j, j ≤ k → z_it b j v ≠ 0) → x < 16 ∧ F x < 1000000 ∧ x ≠ 0 ∧ m x ≤ m v
  | 0, v, x, hv, hf, h1, h2 => by
    subst h1
    exact ⟨hv, hf, h2 0 (Nat.le_refl 0), Nat.le_refl _⟩
  | k + 1, v, x, hv, hf, h1, h2 => by
    have h0 : v ≠ 0 := h2 0 (by omega)
    obtain ⟨c1, c2, c3, c4, c5⟩ := h.2 v hv h0 hf
    have q := z_oc_m h k (b v) x c1 c2 h1 (fun j hj => h2 (j + 1) (by omega))
    exact ⟨q.1, q.2.1, q.2.2.1, by omega⟩
/-- what the rooms keep -/
noncomputable def z_rm (R C : Nat → Nat → Int) (pi : Nat → Int) : Prop := z_pt R C pi ∧ ∀ a b, a < 16 → b < 16 → C a b + C b a = 0 ∧ 0 ≤ R a b ∧ R a b + R b a ≤ 100
noncomputable def z_Sm (R : Nat → Nat → Int) : Nat := z_sm (fun x => (R 0 x).toNat) 16
theorem z_aug {R R' C : Nat → Nat → Int} {pi : Nat → Int} {u v : Nat} {n : Int} (h : z_rm R C pi) (hu : u < 16) (hv : v < 16) (hv0 : v ≠ 0) (huv : u ≠ v) (hc : C u v + pi u - pi v = 0) (hn : 1 ≤ n) (hn2 : n ≤ R u v) (h1 : R' u v = R u v - n) (h2 : R' v u = R v u + n) (h3 : ∀ a b, a < 16 → b < 16 → ¬ (a = u ∧ b = v) → ¬ (a = v ∧ b = u) → R' a b = R a b) : z_rm R' C pi ∧ z_Sm R' ≤ z_Sm R ∧ (u = 0 → z_Sm R' < z_Sm R) := by
  obtain ⟨p1, p2⟩ := h
  have e1 := p2 u v hu hv
  have e2 := p2 v u hv hu
  refine ⟨⟨fun a b ha hb hr => ?_, fun a b ha hb => ?_⟩, ?_, fun hu0 => ?_⟩
  · by_cases q1 : a = u ∧ b = v
    · obtain ⟨rfl, rfl⟩ := q1
      omega
    · by_cases q2 : a = v ∧ b = u
      · obtain ⟨rfl, rfl⟩ := q2
        omega
      · rw [h3 a b ha hb q1 q2] at hr
        exact p1 a b ha hb hr
  · have q := p2 a b ha hb
    by_cases q1 : a = u ∧ b = v
    · obtain ⟨rfl, rfl⟩ := q1
      omega
    · by_cases q2 : a = v ∧ b = u
      · obtain ⟨rfl, rfl⟩ := q2
        omega
      · rw [h3 a b ha hb q1 q2, h3 b a hb ha (fun e => q2 ⟨e.2, e.1⟩) (fun e => q1 ⟨e.2, e.1⟩)]
        exact q
  · refine z_sm_le 16 (fun x hx => ?_)
    show (R' 0 x).toNat ≤ (R 0 x).toNat
    by_cases q1 : 0 = u ∧ x = v
    · obtain ⟨rfl, rfl⟩ := q1
      omega
    · rw [h3 0 x (by omega) hx q1 (fun e => hv0 e.1.symm)]
      exact Nat.le_refl _
  · subst hu0
    refine z_sm_lt (x := v) 16 (fun x hx => ?_) hv ?_
    · show (R' 0 x).toNat ≤ (R 0 x).toNat
      by_cases q1 : x = v
      · subst q1
        omega
      · rw [h3 0 x (by omega) hx (fun e => q1 e.2) (fun e => hv0 e.1.symm)]
        exact Nat.le_refl _
    · show (R' 0 v).toNat < (R 0 v).toNat
      omega
