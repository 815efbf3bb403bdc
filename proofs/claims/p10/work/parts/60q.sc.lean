

/-! the class's tokens -/
noncomputable def zx_h (I : z_I) (n p : Nat) : Int := if p < n then (I 13 p).toInt else -1
theorem zx_ld {I : z_I} {n : Nat} {v x : Int32} (e : v = I 13 x.toNatClampNeg) (h0 : 0 ≤ x.toInt) (h1 : x.toInt < (n : Int)) : v.toInt = zx_h I n x.toNatClampNeg := by
  have q : (x.toNatClampNeg : Int) = x.toInt := z_clt rfl h0
  unfold zx_h
  rw [if_pos (by omega), e]
theorem zx_hn {I : z_I} {n p : Nat} (h : n ≤ p) : zx_h I n p = -1 := by
  unfold zx_h
  rw [if_neg (by omega)]
theorem zx_lkY {v : Int} (h : zp_sg v) : Op.lookupswitch.offset [(40, 115), (41, 115), (42, 115), (43, 115), (44, 115), (45, 115), (47, 115), (59, 115), (60, 115), (61, 115), (62, 115), (123, 115), (125, 115)] 117 v = 115 := by
  unfold zp_sg at h
  rcases h with rfl | rfl | rfl | rfl | rfl | rfl | rfl | rfl | rfl | rfl | rfl | rfl | rfl <;> decide
theorem zx_lkN {v : Int} (h : ¬ zp_sg v) : Op.lookupswitch.offset [(40, 115), (41, 115), (42, 115), (43, 115), (44, 115), (45, 115), (47, 115), (59, 115), (60, 115), (61, 115), (62, 115), (123, 115), (125, 115)] 117 v = 117 := by
  unfold zp_sg at h
  simp only [Op.lookupswitch.offset_cons, Op.lookupswitch.offset_nil]
  repeat' split
  all_goals first | rfl | (exfalso; omega)
theorem zx_ch : ∀ i : Nat, i < 21 → ∀ j : Nat, j < 6 → ((((z_bytS.getD i []).getD j 0) &&& 255).toUInt32 % 65536).toInt32 = (z_bytS.getD i []).getD j 0 := by decide +kernel
theorem zx_WL : ∀ i : Nat, i < 21 → (zp_W.getD i []).length = z_lenS.getD i 0 ∧ ∀ j : Nat, j < 6 → (zp_W.getD i []).getD j 0 = ((z_bytS.getD i []).getD j 0).toInt := by decide +kernel
theorem zp_cd_of {h : Nat → Int} : ∀ (l : List Int) (p : Nat), (∀ j, j < l.length → h (p + j) = l.getD j 0) → zp_cd h p l
  | [], _, _ => trivial
  | c :: l, p, hl => ⟨hl 0 (by rw [List.length_cons]; omega), zp_cd_of l (p + 1) (fun j hj => by
    have := hl (j + 1) (by rw [List.length_cons]; omega)
    rw [List.getD_cons_succ] at this
    rw [← this]
    congr 1
    omega)⟩
theorem zp_cd_at {h : Nat → Int} : ∀ (l : List Int) (p j : Nat), zp_cd h p l → j < l.length → h (p + j) = l.getD j 0
  | [], _, _, _, hj => absurd hj (by rw [List.length_nil]; omega)
  | c :: l, p, 0, hc, _ => hc.1
  | c :: l, p, j + 1, hc, hj => by
    rw [List.length_cons] at hj
    have := zp_cd_at l (p + 1) j hc.2 (by omega)
    rw [List.getD_cons_succ, ← this]
    congr 1
    omega
/-- letters or digits so far -/
noncomputable def zx_ru (I : z_I) (n : Nat) (P : Int → Prop) (f : Nat) (x : Int) : Prop := (f : Int) < x ∧ x ≤ (n : Int) ∧ ∀ j : Nat, f ≤ j → (j : Int) < x → P (zx_h I n j)
theorem zx_ru_0 {I : z_I} {n f : Nat} {P : Int → Prop} {x : Int} (hx : x = (f : Int) + 1) (hf : f < n) (hP : P (zx_h I n f)) : zx_ru I n P f x := ⟨by omega, by omega, fun j a b => by
  have : j = f := by omega
  rw [this]
  exact hP⟩
theorem zx_ru_s {I : z_I} {n f p : Nat} {P : Int → Prop} {x y : Int} (h : zx_ru I n P f x) (hx : (p : Int) = x) (hn : x < (n : Int)) (hP : P (zx_h I n p)) (hy : y = x + 1) : zx_ru I n P f y := ⟨by have := h.1; omega, by omega, fun j a b => by
  by_cases q : j = p
  · rw [q]
    exact hP
  · exact h.2.2 j a (by omega)⟩
noncomputable def zx_E (I : z_I) (n f : Nat) (r : Int) : Prop := ∃ e : Nat, r = (e : Int) ∧ f < e ∧ e ≤ n ∧ (zp_al (zx_h I n f) → zp_ru (zx_h I n) zp_al f e) ∧ (zp_dg (zx_h I n f) → zp_ru (zx_h I n) zp_dg f e) ∧ (¬ zp_al (zx_h I n f) → ¬ zp_dg (zx_h I n f) → e = f + 1)
theorem zx_E_1 {I : z_I} {n f : Nat} {r : Int} (hr : r = (f : Int) + 1) (hf : f < n) (h1 : ¬ zp_al (zx_h I n f)) (h2 : ¬ zp_dg (zx_h I n f)) : zx_E I n f r := ⟨f + 1, by omega, by omega, by omega, fun z => absurd z h1, fun z => absurd z h2, fun _ _ => rfl⟩
theorem zx_E_r {I : z_I} {n f : Nat} {P : Int → Prop} {x : Int} (h : zx_ru I n P f x) (hb : (n : Int) ≤ x ∨ ∃ p : Nat, (p : Int) = x ∧ ¬ P (zx_h I n p)) (hm : ¬ P (-1)) (h0 : P (zx_h I n f)) (hP : (P = zp_al) ∨ (P = zp_dg)) : zx_E I n f x := by
  obtain ⟨a1, a2, a3⟩ := h
  obtain ⟨e, he⟩ : ∃ e : Nat, (e : Int) = x := ⟨x.toNat, by omega⟩
  have hr : zp_ru (zx_h I n) P f e := ⟨by omega, fun j b1 b2 => a3 j b1 (by omega), by
    rcases hb with q | ⟨p, q1, q2⟩
    · rw [zx_hn (by omega)]
      exact hm
    · have : e = p := by omega
      rw [this]
      exact q2⟩
  rcases hP with rfl | rfl
  · refine ⟨e, he.symm, by omega, by omega, fun _ => hr, fun z => ?_, fun z => absurd h0 z⟩
    exfalso
    unfold zp_al at h0
    unfold zp_dg at z
    omega
  · refine ⟨e, he.symm, by omega, by omega, fun z => ?_, fun _ => hr, fun _ z => absurd h0 z⟩
    exfalso
    unfold zp_dg at h0
    unfold zp_al at z
    omega
/-- the word at a place, so far -/
noncomputable def zx_pm (I : z_I) (n f i : Nat) (k : Int) : Prop := ∀ j : Nat, (j : Int) < k → zx_h I n (f + j) = ((z_bytS.getD i []).getD j 0).toInt
theorem zx_pm_0 {I : z_I} {n f i : Nat} {k : Int} (h : k = 0) : zx_pm I n f i k := fun j hj => absurd hj (by omega)
theorem zx_pm_s {I : z_I} {n f i m : Nat} {k k1 : Int} (h : zx_pm I n f i k) (hm : (m : Int) = k) (h1 : zx_h I n (f + m) = ((z_bytS.getD i []).getD m 0).toInt) (hk : k1 = k + 1) : zx_pm I n f i k1 := fun j hj => by
  by_cases q : j = m
  · rw [q]
    exact h1
  · exact h j (by omega)
theorem zx_mw {I : z_I} {n f e i : Nat} {k : Int} (hi : i < 21) (h : zx_pm I n f i k) (hk : ((z_lenS.getD i 0 : Nat) : Int) ≤ k) (he : (e : Int) - (f : Int) = ((z_lenS.getD i 0 : Nat) : Int)) : zp_mw (zx_h I n) f e (zp_W.getD i []) := by
  obtain ⟨a1, a2⟩ := zx_WL i hi
  have hb := z_lenB hi
  refine ⟨by rw [a1]; omega, zp_cd_of _ _ (fun j hj => ?_)⟩
  rw [a1] at hj
  rw [h j (by omega), a2 j (by omega)]
theorem zx_mwL {I : z_I} {n f e i : Nat} (hi : i < 21) (he : (e : Int) - (f : Int) ≠ ((z_lenS.getD i 0 : Nat) : Int)) : ¬ zp_mw (zx_h I n) f e (zp_W.getD i []) := fun h => by
  have := h.1
  rw [(zx_WL i hi).1] at this
  omega
theorem zx_mwN {I : z_I} {n f e i m : Nat} (hi : i < 21) (hm : m < z_lenS.getD i 0) (hc : zx_h I n (f + m) ≠ ((z_bytS.getD i []).getD m 0).toInt) : ¬ zp_mw (zx_h I n) f e (zp_W.getD i []) := fun h => by
  obtain ⟨a1, a2⟩ := zx_WL i hi
  have hb := z_lenB hi
  have := zp_cd_at _ f m h.2 (by rw [a1]; exact hm)
  rw [a2 m (by omega)] at this
  exact hc this
/-- the number at a place, so far -/
noncomputable def zx_N (I : z_I) (n f : Nat) (k s : Int) : Prop := ∃ m : Nat, k = (f : Int) + (m : Int) ∧ m ≤ 6 ∧ 0 ≤ s ∧ s + 1 ≤ 10 ^ m ∧ ((∀ j, f ≤ j → j < f + m → zp_dg (zx_h I n j)) → s = zp_nm (zx_h I n) f m)
theorem zx_N_0 {I : z_I} {n f : Nat} {k s : Int} (hk : k = (f : Int)) (hs : s = 0) : zx_N I n f k s := ⟨0, by omega, by omega, by omega, by rw [hs]; decide, fun _ => hs⟩
theorem zx_N_b {I : z_I} {n f : Nat} {k s : Int} (h : zx_N I n f k s) : 0 ≤ s ∧ s ≤ 999999 := by
  obtain ⟨m, a1, a2, a3, a4, a5⟩ := h
  have hp : (10 : Int) ^ m ≤ 1000000 := by
    have : m = 0 ∨ m = 1 ∨ m = 2 ∨ m = 3 ∨ m = 4 ∨ m = 5 ∨ m = 6 := by omega
    rcases this with rfl | rfl | rfl | rfl | rfl | rfl | rfl <;> decide
  omega
theorem zx_N_d {I : z_I} {n f p : Nat} {k s c k1 s1 : Int} (h : zx_N I n f k s) (hk : k < (f : Int) + 6) (hp : (p : Int) = k) (hc : c = zx_h I n p) (hd : 48 ≤ c ∧ c ≤ 57) (hk1 : k1 = k + 1) (hs : s1 = s * 10 + c - 48) : zx_N I n f k1 s1 := by
  obtain ⟨m, a1, a2, a3, a4, a5⟩ := h
  refine ⟨m + 1, by omega, by omega, by omega, ?_, fun hl => ?_⟩
  · rw [Int.pow_succ]
    omega
  · have e1 := a5 (fun j b1 b2 => hl j b1 (by omega))
    have e2 : p = f + m := by omega
    show s1 = zp_nm (zx_h I n) f m * 10 + (zx_h I n (f + m) - 48)
    rw [← e1, ← e2, ← hc]
    omega
theorem zx_N_n {I : z_I} {n f p : Nat} {k s c k1 s1 : Int} (h : zx_N I n f k s) (hk : k < (f : Int) + 6) (hp : (p : Int) = k) (hc : c = zx_h I n p) (hd : c < 48 ∨ 57 < c) (hk1 : k1 = k + 1) (hs : s1 = 0) : zx_N I n f k1 s1 := by
  obtain ⟨m, a1, a2, a3, a4, a5⟩ := h
  refine ⟨m + 1, by omega, by omega, by omega, ?_, fun hl => ?_⟩
  · rw [Int.pow_succ, hs]
    omega
  · exfalso
    have e2 : p = f + m := by omega
    have := hl p (by omega) (by omega)
    unfold zp_dg at this
    omega
theorem zx_N_e {I : z_I} {n f e : Nat} {k s : Int} (h : zx_N I n f k s) (hk : (e : Int) ≤ k ∨ (f : Int) + 6 ≤ k) (hk2 : k ≤ (e : Int)) : (∀ j, f ≤ j → j < e → zp_dg (zx_h I n j)) → e ≤ f + 6 → s = zp_nm (zx_h I n) f (e - f) := fun hl he => by
  obtain ⟨m, a1, a2, a3, a4, a5⟩ := h
  have e2 : e - f = m := by omega
  rw [e2]
  exact a5 (fun j b1 b2 => hl j b1 (by omega))
/-- what the number t of a token is, and its end -/
theorem zx_hK {I K : z_I} {n : Nat} (h : ∀ j, K 13 j = I 13 j) : zx_h K n = zx_h I n := funext fun p => by
  unfold zx_h
  rw [h]
theorem zx_E_c {I K : z_I} {n f : Nat} {r : Int} (h : ∀ j, K 13 j = I 13 j) (hE : zx_E K n f r) : zx_E I n f r := by
  unfold zx_E at hE ⊢
  rw [zx_hK h] at hE
  exact hE
theorem zx_E_b {I : z_I} {n f : Nat} {r : Int} (hE : zx_E I n f r) (hb : zp_bl (zx_h I n f)) : r = (f : Int) + 1 := by
  obtain ⟨e, b1, b2, b3, b4, b5, b6⟩ := hE
  unfold zp_bl at hb
  have := b6 (by unfold zp_al; omega) (by unfold zp_dg; omega)
  omega
noncomputable def zx_T (I : z_I) (n f e : Nat) (t : Int) : Prop := (zp_al (zx_h I n f) → zp_wo (zx_h I n) f e t) ∧ (zp_dg (zx_h I n f) → (e ≤ f + 6 ∧ t = 400) ∨ (f + 6 < e ∧ t = 402)) ∧ (¬ zp_al (zx_h I n f) → ¬ zp_dg (zx_h I n f) → (zp_sg (zx_h I n f) ∧ t = zx_h I n f) ∨ (¬ zp_sg (zx_h I n f) ∧ t = 402))
noncomputable def zx_V (I : z_I) (n f e : Nat) (v : Int) : Prop := (∀ j, f ≤ j → j < e → zp_dg (zx_h I n j)) → e ≤ f + 6 → v = zp_nm (zx_h I n) f (e - f)
theorem zx_T_c {I K : z_I} {n f e : Nat} {r : Int} (h : ∀ j, K 13 j = I 13 j) (hE : zx_T K n f e r) : zx_T I n f e r := by
  unfold zx_T at hE ⊢
  rw [zx_hK h] at hE
  exact hE
theorem zx_V_c {I K : z_I} {n f e : Nat} {r : Int} (h : ∀ j, K 13 j = I 13 j) (hE : zx_V K n f e r) : zx_V I n f e r := by
  unfold zx_V at hE ⊢
  rw [zx_hK h] at hE
  exact hE
theorem zx_tk {I : z_I} {n f e : Nat} {t v r : Int} (h0 : 0 ≤ zx_h I n f) (he : zx_E I n f r) (hr : r = (e : Int)) (ht : zx_T I n f e t) (hv : zx_V I n f e v) : zp_tk (zx_h I n) f e t v ∧ t ≠ 401 := by
  obtain ⟨e1, b1, b2, b3, b4, b5, b6⟩ := he
  have q : e1 = e := by omega
  subst q
  obtain ⟨t1, t2, t3⟩ := ht
  by_cases q1 : zp_al (zx_h I n f)
  · have hw := t1 q1
    refine ⟨Or.inr (Or.inl ⟨q1, b4 q1, hw⟩), ?_⟩
    rcases hw with ⟨i, hi, c1, c2⟩ | ⟨c1, c2⟩ <;> omega
  · by_cases q2 : zp_dg (zx_h I n f)
    · have hd := b5 q2
      rcases t2 q2 with ⟨c1, c2⟩ | ⟨c1, c2⟩
      · exact ⟨Or.inr (Or.inr (Or.inl ⟨q2, hd, Or.inl ⟨c1, c2, hv hd.2.1 c1⟩⟩)), by omega⟩
      · exact ⟨Or.inr (Or.inr (Or.inl ⟨q2, hd, Or.inr ⟨c1, c2⟩⟩)), by omega⟩
    · have h1 := b6 q1 q2
      rcases t3 q1 q2 with ⟨c1, c2⟩ | ⟨c1, c2⟩
      · have := zp_sg_b c1
        exact ⟨Or.inr (Or.inr (Or.inr (Or.inl ⟨c1, h1, c2⟩))), by omega⟩
      · exact ⟨Or.inr (Or.inr (Or.inr (Or.inr ⟨h0, q1, q2, c1, h1, c2⟩))), by omega⟩
/-! the row of tokens, so far -/
noncomputable def zs_la (pe : Nat → Nat) (s : Nat) : Nat := if s = 0 then 0 else pe (s - 1)
noncomputable def zs_I (h : Nat → Int) (K : z_I) (p : Nat) : Prop := ∃ (s : Nat) (pe : Nat → Nat), (K 12 5).toInt = (s : Int) ∧ s ≤ p ∧ (∀ k, k < s → ∃ f : Nat, (K 16 k).toInt = (f : Int) ∧ zp_tk h f (pe k) (K 14 k).toInt (K 15 k).toInt ∧ (K 14 k).toInt ≠ 401 ∧ zp_sk h (zs_la pe k) f) ∧ zs_la pe s ≤ p ∧ ∀ j, zs_la pe s ≤ j → j < p → zp_bl (h j)
theorem zs_I_0 {h : Nat → Int} {K : z_I} {p : Nat} (h0 : (K 12 5).toInt = 0) (hp : p = 0) : zs_I h K p := ⟨0, fun _ => 0, by omega, by omega, fun k hk => absurd hk (by omega), by subst hp; exact Nat.le_refl 0, fun j a b => absurd b (by omega)⟩
theorem zs_I_b {h : Nat → Int} {K K1 : z_I} {p : Nat} (hs : zs_I h K p) (hb : zp_bl (h p)) (e : K1 = K) : zs_I h K1 (p + 1) := by
  subst e
  obtain ⟨s, pe, a1, a2, a3, a4, a5⟩ := hs
  refine ⟨s, pe, a1, by omega, a3, by omega, fun j b1 b2 => ?_⟩
  by_cases q : j = p
  · rw [q]
    exact hb
  · exact a5 j b1 (by omega)
/-- a token more -/
noncomputable def zs_ad (I K : z_I) (t p v : Int32) : Prop := (K 12 5).toInt = (I 12 5).toInt + 1 ∧ K 14 (I 12 5).toNatClampNeg = t ∧ K 16 (I 12 5).toNatClampNeg = p ∧ K 15 (I 12 5).toNatClampNeg = v ∧ ∀ j, j ≠ (I 12 5).toNatClampNeg → K 14 j = I 14 j ∧ K 16 j = I 16 j ∧ K 15 j = I 15 j
theorem zs_ad_of {I I1 I2 I3 K : z_I} {t p v x : Int32} (e1 : I1 = z_up I 14 (I 12 5).toNatClampNeg t) (e2 : I2 = z_up I1 16 (I 12 5).toNatClampNeg p) (e3 : I3 = z_up I2 15 (I 12 5).toNatClampNeg v) (e4 : K = z_up I3 12 5 x) (hx : x.toInt = (I 12 5).toInt + 1) : zs_ad I K t p v := by
  refine ⟨?_, ?_, ?_, ?_, fun j hj => ⟨?_, ?_, ?_⟩⟩
  · rw [e4, z_up_s, hx]
  · rw [e4, z_up_n (by decide), e3, z_up_n (by decide), e2, z_up_n (by decide), e1, z_up_s]
  · rw [e4, z_up_n (by decide), e3, z_up_n (by decide), e2, z_up_s]
  · rw [e4, z_up_n (by decide), e3, z_up_s]
  · rw [e4, z_up_n (by decide), e3, z_up_n (by decide), e2, z_up_n (by decide), e1, z_up_k hj]
  · rw [e4, z_up_n (by decide), e3, z_up_n (by decide), e2, z_up_k hj, e1, z_up_n (by decide)]
  · rw [e4, z_up_n (by decide), e3, z_up_k hj, e2, z_up_n (by decide), e1, z_up_n (by decide)]
theorem zs_la_u {pe : Nat → Nat} {s k e : Nat} (h : k ≤ s) : zs_la (fun j => if j = s then e else pe j) k = zs_la pe k := by
  unfold zs_la
  split
  · rfl
  · show (if k - 1 = s then e else pe (k - 1)) = pe (k - 1)
    rw [if_neg (by omega)]
theorem zs_row {h : Nat → Int} {K K1 : z_I} {s e : Nat} {pe : Nat → Nat} {t p v : Int32} (a1 : (K 12 5).toInt = (s : Int)) (a3 : ∀ k, k < s → ∃ f : Nat, (K 16 k).toInt = (f : Int) ∧ zp_tk h f (pe k) (K 14 k).toInt (K 15 k).toInt ∧ (K 14 k).toInt ≠ 401 ∧ zp_sk h (zs_la pe k) f) (ha : zs_ad K K1 t p v) : ∀ k, k < s → ∃ f : Nat, (K1 16 k).toInt = (f : Int) ∧ zp_tk h f (if k = s then e else pe k) (K1 14 k).toInt (K1 15 k).toInt ∧ (K1 14 k).toInt ≠ 401 ∧ zp_sk h (zs_la (fun j => if j = s then e else pe j) k) f := fun k hk => by
  have q : (K 12 5).toNatClampNeg = s := by
    have := z_clt a1 (by omega)
    omega
  obtain ⟨d1, d2, d3, d4, d5⟩ := ha
  rw [q] at d5
  obtain ⟨c1, c2, c3⟩ := d5 k (by omega)
  rw [c1, c2, c3, if_neg (by omega), zs_la_u (by omega)]
  exact a3 k hk
theorem zs_I_t {h : Nat → Int} {K K1 : z_I} {p e : Nat} {t pl v : Int32} (hs : zs_I h K p) (hb : ¬ zp_bl (h p)) (ha : zs_ad K K1 t pl v) (hp : pl.toInt = (p : Int)) (ht : zp_tk h p e t.toInt v.toInt) (h401 : t.toInt ≠ 401) (he : p < e) : zs_I h K1 e := by
  obtain ⟨s, pe, a1, a2, a3, a4, a5⟩ := hs
  have hr := zs_row (e := e) a1 a3 ha
  have q : (K 12 5).toNatClampNeg = s := by
    have := z_clt a1 (by omega)
    omega
  obtain ⟨d1, d2, d3, d4, d5⟩ := ha
  rw [q] at d2 d3 d4
  have la : zs_la (fun j => if j = s then e else pe j) (s + 1) = e := by
    unfold zs_la
    rw [if_neg (by omega)]
    show (if s + 1 - 1 = s then e else _) = e
    rw [if_pos (by omega)]
  refine ⟨s + 1, fun j => if j = s then e else pe j, by omega, by omega, fun k hk => ?_, by rw [la]; exact Nat.le_refl e, fun j b1 b2 => ?_⟩
  · by_cases hks : k = s
    · subst hks
      refine ⟨p, by rw [d3]; exact hp, ?_, by rw [d2]; exact h401, ?_⟩
      · show zp_tk h p (if k = k then e else pe k) (K1 14 k).toInt (K1 15 k).toInt
        rw [if_pos rfl, d2, d4]
        exact ht
      · rw [zs_la_u (Nat.le_refl k)]
        exact ⟨a4, a5, hb⟩
    · exact hr k (by omega)
  · rw [la] at b1
    omega
/-- the whole row: tokens 0 to m, the last of them the end -/
noncomputable def zp_SM (h : Nat → Int) (tk va : Nat → Int) (pl pe : Nat → Nat) (m : Nat) : Prop := zp_sk h 0 (pl 0) ∧ (∀ k, k ≤ m → zp_tk h (pl k) (pe k) (tk k) (va k)) ∧ (∀ k, k < m → tk k ≠ 401 ∧ zp_sk h (pe k) (pl (k + 1))) ∧ tk m = 401
noncomputable def zs_F (I : z_I) (n : Nat) (K : z_I) : Prop := ∃ (m : Nat) (pe : Nat → Nat), (K 12 5).toInt = (m : Int) + 1 ∧ m ≤ n ∧ zp_SM (zx_h I n) (fun j => (K 14 j).toInt) (fun j => (K 15 j).toInt) (fun j => (K 16 j).toNatClampNeg) pe m ∧ (∀ k, k ≤ m → ((K 16 k).toNatClampNeg : Int) = (K 16 k).toInt)
theorem zs_I_e {I K K1 : z_I} {n : Nat} {t pl v : Int32} (hs : zs_I (zx_h I n) K n) (ha : zs_ad K K1 t pl v) (hp : pl.toInt = (n : Int)) (ht : t.toInt = 401) : zs_F I n K1 := by
  obtain ⟨s, pe, a1, a2, a3, a4, a5⟩ := hs
  have hr := zs_row (e := n) a1 a3 ha
  have q : (K 12 5).toNatClampNeg = s := by
    have := z_clt a1 (by omega)
    omega
  obtain ⟨d1, d2, d3, d4, d5⟩ := ha
  rw [q] at d2 d3 d4
  have hcl : ∀ k, k ≤ s → ∃ f : Nat, (K1 16 k).toInt = (f : Int) ∧ (K1 16 k).toNatClampNeg = f ∧ zp_tk (zx_h I n) f (if k = s then n else pe k) (K1 14 k).toInt (K1 15 k).toInt ∧ (k < s → (K1 14 k).toInt ≠ 401) ∧ zp_sk (zx_h I n) (zs_la (fun j => if j = s then n else pe j) k) f := fun k hk => by
    by_cases hks : k = s
    · subst hks
      refine ⟨n, by rw [d3]; exact hp, ?_, ?_, fun z => absurd z (by omega), ?_⟩
      · rw [d3]
        have := z_clt hp (by omega)
        omega
      · rw [if_pos rfl, d2, ht]
        exact Or.inl ⟨by rw [zx_hn (Nat.le_refl n)]; decide, rfl, rfl⟩
      · rw [zs_la_u (Nat.le_refl k)]
        refine ⟨a4, a5, ?_⟩
        rw [zx_hn (Nat.le_refl n)]
        unfold zp_bl
        omega
    · obtain ⟨f, c1, c2, c3, c4⟩ := hr k (by omega)
      refine ⟨f, c1, ?_, c2, fun _ => c3, c4⟩
      have := z_clt c1 (by omega)
      omega
  refine ⟨s, fun j => if j = s then n else pe j, by omega, a2, ⟨?_, fun k hk => ?_, fun k hk => ⟨?_, ?_⟩, by show (K1 14 s).toInt = 401; rw [d2]; exact ht⟩, fun k hk => ?_⟩
  · obtain ⟨f, c1, c2, c3, c4, c5⟩ := hcl 0 (by omega)
    show zp_sk _ 0 (K1 16 0).toNatClampNeg
    rw [c2]
    exact c5
  · obtain ⟨f, c1, c2, c3, c4, c5⟩ := hcl k hk
    show zp_tk _ (K1 16 k).toNatClampNeg _ _ _
    rw [c2]
    exact c3
  · obtain ⟨f, c1, c2, c3, c4, c5⟩ := hcl k (by omega)
    exact c4 hk
  · obtain ⟨f, c1, c2, c3, c4, c5⟩ := hcl (k + 1) (by omega)
    show zp_sk _ _ (K1 16 (k + 1)).toNatClampNeg
    rw [c2]
    have e : zs_la (fun j => if j = s then n else pe j) (k + 1) = if k = s then n else pe k := by
      unfold zs_la
      rw [if_neg (by omega)]
      rfl
    rw [e] at c5
    exact c5
  · obtain ⟨f, c1, c2, c3, c4, c5⟩ := hcl k hk
    rw [c1, c2]
set_option maxHeartbeats 8000000 in
set_option maxRecDepth 100000 in
theorem sx_J1_charAt_3b067_x (l : Launch) (G : z_G) (adK adV : Nat → Nat) (ad : Nat → Nat) (I : z_I) (u : z_U) (i : Nat) (a2 : Int32) (hi : i < 21) (q1 : 0 ≤ a2.toInt) (q2 : a2.toInt < ((z_lenS.getD i 0 : Nat) : Int)) : z_MN (z_Ck adK adV) l yJ1_charAt_3b067 wsJ1_charAt_3b067 { frames := 3, cells := 0, slots := 0, locals := 55 } [.ref (adV i), .int a2] G u (fun r u1 => u1 = u ∧ (narrow .char (.int r) = .int r ∧ r = (z_bytS.getD i []).getD a2.toNatClampNeg 0)) 0 0 := by
  intro sz
  refine z_headN (cc := cJ1_charAt_3b067) (maxL := 2) (ret := (some .char)) (by decide) rfl (Nat.le_of_ble_eq_true rfl) ?_
  intro p e s m below meth c0 ls hIn hK hsz hW hl hKn
  obtain ⟨hx, hb, hr, hml, hown, hts, hlocks, hname⟩ := hIn
  subst hsz
  have hown : s.vm.findClass RJ1 = some m.cls := hown
  have hA : ∀ q : Nat, s.heap.size ≤ q → z_A u s.heap.size q := fun q h => Or.inr h
  generalize hAe : z_A u s.heap.size = A at *
  have hS : va_S A s.heap s.heap [] := va_S.rf
  have hl : lv_has ls 2 [(0, .ref (adV i)), (1, .int a2)] := hl
  have hl6 := z_lenB hi
  refine lv_iload_n hx hb dJ1_charAt_3b067_0 rfl (lv_at hl 1 rfl) ?_
  refine lv_aload_n hx hb dJ1_charAt_3b067_1 rfl (lv_at hl 0 rfl) ?_
  refine va_tlen (v := nI (z_lenS.getD i 0)) hx hb (hKn.1.1 i hi).2.2.2 hS rfl dJ1_charAt_3b067_2 ?_
  refine z_cv hW hS hA (va_runS (As := [.int a2, .int (nI (z_lenS.getD i 0))]) (rest := []) ⟨hx, hb, hml, hown, hts⟩ (sx_J0_checkIndex_df160 l G adK adV ad I u i a2 (nI (z_lenS.getD i 0)) hi (by have := z_lenT hi; omega) (by have := z_lenT hi; omega) _) (va_cwS 2 hts gJ1_charAt_3b067_J0_checkIndex_df160 rfl rfl rfl (by decide +kernel) ⟨Nat.le_of_ble_eq_true rfl, Nat.le_of_ble_eq_true rfl⟩) (z_preSN (z_Ck.nice adK adV) hK hW hS hA hKn) rfl rfl hl.1 rfl (lv_room (Nat.le_of_ble_eq_true rfl)) dJ1_charAt_3b067_3 ⟨Nat.le_of_ble_eq_true rfl, Nat.le_of_ble_eq_true rfl⟩) (fun u1 H locs hp hW hS => ?_)
  rw [hp] at hW
  refine lv_aload_n hx hb dJ1_charAt_3b067_6 rfl (lv_at hl 0 rfl) ?_
  refine lv_iload_n hx hb dJ1_charAt_3b067_7 rfl (lv_at hl 1 rfl) ?_
  refine va_tb (v := .int ((z_bytS.getD i []).getD (a2 : Int32).toNatClampNeg 0)) hx hb (hKn.1.1 i hi).2.2.2 hS (z_ix rfl (by omega) (by omega)) rfl dJ1_charAt_3b067_8 ?_
  refine lv_topi (fun x1 ex1 => ?_)
  refine lv_sipush (v := 255) hx hb dJ1_charAt_3b067_9 (by decide) ?_
  refine lv_iand hx hb dJ1_charAt_3b067_12 ?_
  refine lv_topi (fun x2 ex2 => ?_)
  refine lv_i2c hx hb dJ1_charAt_3b067_13 rfl ?_
  refine lv_topi (fun x3 ex3 => ?_)
  have hnx3 := z_narC ex3
  exact z_tret hx hb hr hnx3 hK hS (Nat.le_of_ble_eq_true rfl) (Nat.le_of_ble_eq_true rfl) hlocks dJ1_charAt_3b067_14 u hW ⟨rfl, ⟨hnx3, by rw [ex3, ex2, ex1]; exact zx_ch i hi _ (by have := z_lenB hi; have := z_clt (x := a2) rfl q1; omega)⟩⟩
set_option maxHeartbeats 8000000 in
set_option maxRecDepth 100000 in
theorem sx_J0_charAt_5068e_x (l : Launch) (G : z_G) (adK adV : Nat → Nat) (ad : Nat → Nat) (I : z_I) (u : z_U) (i : Nat) (a1 : Int32) (hi : i < 21) (q1 : 0 ≤ a1.toInt) (q2 : a1.toInt < ((z_lenS.getD i 0 : Nat) : Int)) : z_MN (z_Ck adK adV) l yJ0_charAt_5068e wsJ0_charAt_5068e { frames := 4, cells := 0, slots := 0, locals := 76 } [.ref (adK i), .int a1] G u (fun r u1 => u1 = u ∧ (r = (z_bytS.getD i []).getD a1.toNatClampNeg 0)) 0 0 := by
  intro sz
  refine z_headN (cc := cJ0_charAt_5068e) (maxL := 2) (ret := (some .char)) (by decide) rfl (Nat.le_of_ble_eq_true rfl) ?_
  intro p e s m below meth c0 ls hIn hK hsz hW hl hKn
  obtain ⟨hx, hb, hr, hml, hown, hts, hlocks, hname⟩ := hIn
  subst hsz
  have hown : s.vm.findClass RJ0 = some m.cls := hown
  have hA : ∀ q : Nat, s.heap.size ≤ q → z_A u s.heap.size q := fun q h => Or.inr h
  generalize hAe : z_A u s.heap.size = A at *
  have hS : va_S A s.heap s.heap [] := va_S.rf
  have hl : lv_has ls 2 [(0, .ref (adK i)), (1, .int a1)] := hl
  have hl6 := z_lenB hi
  refine lv_aload_n hx hb dJ0_charAt_5068e_0 rfl (lv_at hl 0 rfl) ?_
  refine z_ci hW hS hA (va_runV (As := []) (rest := []) ⟨hx, hb, hml, hown, hts⟩ (sx_J0_isLatin1_aae02 l G adK adV ad I u i  hi  _) (cwV 0 hts gJ0_charAt_5068e_J0_isLatin1_aae02 rfl rfl rfl (by decide +kernel) ⟨Nat.le_of_ble_eq_true rfl, Nat.le_of_ble_eq_true rfl⟩) (z_preKN (z_Ck.nice adK adV) hK hW hS hA hKn (vk_recv hKn.1 hi hS)) rfl rfl hl.1 rfl (lv_room (Nat.le_of_ble_eq_true rfl)) dJ0_charAt_5068e_1 ⟨Nat.le_of_ble_eq_true rfl, Nat.le_of_ble_eq_true rfl⟩) (fun r u1 H locs hp hW hS => ?_)
  obtain ⟨e9, hp⟩ := hp
  rw [e9] at hW
  refine z_topi (v := 1) hp ?_
  refine lv_if_eq (tgt := 16) hx hb dJ0_charAt_5068e_4 (by decide) (fun c1 => absurd c1 (by decide)) (fun c1 => ?_)
  refine lv_aload_n hx hb dJ0_charAt_5068e_7 rfl (lv_at hl 0 rfl) ?_
  refine vk_getf hx hb (hKn.1.1 i hi).2.2.1 hS hown (hts (.fieldLink RJ0 9 "java/lang/String" "value" "[B") (me_s (me_l (List.mem_of_getElem? (i := 0) rfl)))) (fun _ h => h) dJ0_charAt_5068e_8 ?_
  refine lv_iload_n hx hb dJ0_charAt_5068e_11 rfl (lv_at hl 1 rfl) ?_
  refine z_ci hW hS hA (va_runS (As := [.ref (adV i), .int a1]) (rest := []) ⟨hx, hb, hml, hown, hts⟩ (sx_J1_charAt_3b067_x l G adK adV ad I u i a1 hi (by have := z_lenT hi; omega) (by have := z_lenT hi; omega) _) (va_cwS 2 hts gJ0_charAt_5068e_J1_charAt_3b067 rfl rfl rfl (by decide +kernel) ⟨Nat.le_of_ble_eq_true rfl, Nat.le_of_ble_eq_true rfl⟩) (z_preSN (z_Ck.nice adK adV) hK hW hS hA hKn) rfl rfl hl.1 rfl (lv_room (Nat.le_of_ble_eq_true rfl)) dJ0_charAt_5068e_12 ⟨Nat.le_of_ble_eq_true rfl, Nat.le_of_ble_eq_true rfl⟩) (fun r u1 H locs hp hW hS => ?_)
  obtain ⟨e9, hp⟩ := hp
  rw [e9] at hW
  refine lv_topi (fun x2 ex2 => ?_)
  have hnx2 : narrow .char (.int x2) = .int x2 := by rw [ex2]; exact hp.1
  have hvx2 := ex2.trans hp.2
  exact z_tret hx hb hr hnx2 hK hS (Nat.le_of_ble_eq_true rfl) (Nat.le_of_ble_eq_true rfl) hlocks dJ0_charAt_5068e_15 u hW ⟨rfl, hvx2⟩
set_option maxHeartbeats 8000000 in
set_option maxRecDepth 100000 in
theorem sx_X9_isBlank_x (l : Launch) (G : z_G) (ad : Nat → Nat) (c : z_C) (I : z_I) (a1 : Int32) : z_M l yX9_isBlank wsX9_isBlank { frames := 1, cells := 0, slots := 0, locals := 12 } [.int a1] G (shC c, ad, I, JX, PC c ad) (fun r u1 => u1 = (shC c, ad, I, JX, PC c ad) ∧ ((r = 1 ∧ (zp_bl a1.toInt)) ∨ (r = 0 ∧ ¬ (zp_bl a1.toInt)))) 0 0 := by
  intro sz
  refine z_headQ (cc := cX9_isBlank) (maxL := 1) (ret := (some .boolean)) (by decide) rfl (Nat.le_of_ble_eq_true rfl) ?_
  intro p e s m below meth c0 ls hIn hK hsz hW hl
  obtain ⟨hx, hb, hr, hml, hown, hts, hlocks, hname⟩ := hIn
  subst hsz
  have hown : s.vm.findClass RX9 = some m.cls := hown
  have hA : ∀ q : Nat, s.heap.size ≤ q → z_A (shC c, ad, I, JX, PC c ad) s.heap.size q := fun q h => Or.inr h
  generalize hAe : z_A (shC c, ad, I, JX, PC c ad) s.heap.size = A at *
  have hS : va_S A s.heap s.heap [] := va_S.rf
  have hl : lv_has ls 1 [(0, .int a1)] := hl
  refine lv_iload_n hx hb dX9_isBlank_0 rfl (lv_at hl 0 rfl) ?_
  refine lv_bipush (v := 32) hx hb dX9_isBlank_1 (by decide) ?_
  refine lv_icmp_eq (tgt := 12) hx hb dX9_isBlank_3 (by decide) (fun c1 => ?_) (fun c1 => ?_)
  · have g2 := z_f_eq rfl z_l32 c1
    have b3 := Int32.toInt_lt a1
    refine lv_iconst (v := 1) hx hb dX9_isBlank_12 (by decide) ?_
    refine lv_goto (tgt := 17) hx hb dX9_isBlank_13 (by decide) ?_
    exact z_zret hx hb hr (by decide) hK hS (Nat.le_of_ble_eq_true rfl) (Nat.le_of_ble_eq_true rfl) hlocks dX9_isBlank_17 (shC c, ad, I, JX, PC c ad) hW ⟨rfl, (Or.inl ⟨rfl, by unfold zp_bl; omega⟩)⟩
  · have g4 := z_f_ne rfl z_l32 c1
    have b5 := Int32.toInt_lt a1
    refine lv_iload_n hx hb dX9_isBlank_6 rfl (lv_at hl 0 rfl) ?_
    refine lv_bipush (v := 10) hx hb dX9_isBlank_7 (by decide) ?_
    refine lv_icmp_ne (tgt := 16) hx hb dX9_isBlank_9 (by decide) (fun c6 => ?_) (fun c6 => ?_)
    · have g7 := z_f_ne rfl z_l10 c6
      refine lv_iconst (v := 0) hx hb dX9_isBlank_16 (by decide) ?_
      exact z_zret hx hb hr (by decide) hK hS (Nat.le_of_ble_eq_true rfl) (Nat.le_of_ble_eq_true rfl) hlocks dX9_isBlank_17 (shC c, ad, I, JX, PC c ad) hW ⟨rfl, (Or.inr ⟨rfl, by unfold zp_bl; omega⟩)⟩
    · have g8 := z_f_eq rfl z_l10 c6
      refine lv_iconst (v := 1) hx hb dX9_isBlank_12 (by decide) ?_
      refine lv_goto (tgt := 17) hx hb dX9_isBlank_13 (by decide) ?_
      exact z_zret hx hb hr (by decide) hK hS (Nat.le_of_ble_eq_true rfl) (Nat.le_of_ble_eq_true rfl) hlocks dX9_isBlank_17 (shC c, ad, I, JX, PC c ad) hW ⟨rfl, (Or.inl ⟨rfl, by unfold zp_bl; omega⟩)⟩
set_option maxHeartbeats 8000000 in
set_option maxRecDepth 100000 in
theorem sx_X9_isLetter_x (l : Launch) (G : z_G) (ad : Nat → Nat) (c : z_C) (I : z_I) (a1 : Int32) : z_M l yX9_isLetter wsX9_isLetter { frames := 1, cells := 0, slots := 0, locals := 12 } [.int a1] G (shC c, ad, I, JX, PC c ad) (fun r u1 => u1 = (shC c, ad, I, JX, PC c ad) ∧ ((r = 1 ∧ (zp_al a1.toInt)) ∨ (r = 0 ∧ ¬ (zp_al a1.toInt)))) 0 0 := by
  intro sz
  refine z_headQ (cc := cX9_isLetter) (maxL := 1) (ret := (some .boolean)) (by decide) rfl (Nat.le_of_ble_eq_true rfl) ?_
  intro p e s m below meth c0 ls hIn hK hsz hW hl
  obtain ⟨hx, hb, hr, hml, hown, hts, hlocks, hname⟩ := hIn
  subst hsz
  have hown : s.vm.findClass RX9 = some m.cls := hown
  have hA : ∀ q : Nat, s.heap.size ≤ q → z_A (shC c, ad, I, JX, PC c ad) s.heap.size q := fun q h => Or.inr h
  generalize hAe : z_A (shC c, ad, I, JX, PC c ad) s.heap.size = A at *
  have hS : va_S A s.heap s.heap [] := va_S.rf
  have hl : lv_has ls 1 [(0, .int a1)] := hl
  refine lv_iload_n hx hb dX9_isLetter_0 rfl (lv_at hl 0 rfl) ?_
  refine lv_bipush (v := 97) hx hb dX9_isLetter_1 (by decide) ?_
  refine lv_icmp_lt (tgt := 16) hx hb dX9_isLetter_3 (by decide) (fun c1 => ?_) (fun c1 => ?_)
  · have g2 := z_f_lt rfl z_l97 c1
    have b3 := Int32.toInt_lt a1
    refine lv_iconst (v := 0) hx hb dX9_isLetter_16 (by decide) ?_
    exact z_zret hx hb hr (by decide) hK hS (Nat.le_of_ble_eq_true rfl) (Nat.le_of_ble_eq_true rfl) hlocks dX9_isLetter_17 (shC c, ad, I, JX, PC c ad) hW ⟨rfl, (Or.inr ⟨rfl, by unfold zp_al; omega⟩)⟩
  · have g4 := z_f_nlt rfl z_l97 c1
    have b5 := Int32.toInt_lt a1
    refine lv_iload_n hx hb dX9_isLetter_6 rfl (lv_at hl 0 rfl) ?_
    refine lv_bipush (v := 122) hx hb dX9_isLetter_7 (by decide) ?_
    refine lv_icmp_gt (tgt := 16) hx hb dX9_isLetter_9 (by decide) (fun c6 => ?_) (fun c6 => ?_)
    · have g7 := z_f_gt rfl z_l122 c6
      refine lv_iconst (v := 0) hx hb dX9_isLetter_16 (by decide) ?_
      exact z_zret hx hb hr (by decide) hK hS (Nat.le_of_ble_eq_true rfl) (Nat.le_of_ble_eq_true rfl) hlocks dX9_isLetter_17 (shC c, ad, I, JX, PC c ad) hW ⟨rfl, (Or.inr ⟨rfl, by unfold zp_al; omega⟩)⟩
    · have g8 := z_f_ngt rfl z_l122 c6
      refine lv_iconst (v := 1) hx hb dX9_isLetter_12 (by decide) ?_
      refine lv_goto (tgt := 17) hx hb dX9_isLetter_13 (by decide) ?_
      exact z_zret hx hb hr (by decide) hK hS (Nat.le_of_ble_eq_true rfl) (Nat.le_of_ble_eq_true rfl) hlocks dX9_isLetter_17 (shC c, ad, I, JX, PC c ad) hW ⟨rfl, (Or.inl ⟨rfl, by unfold zp_al; omega⟩)⟩
set_option maxHeartbeats 8000000 in
set_option maxRecDepth 100000 in
theorem sx_X9_isDigit_x (l : Launch) (G : z_G) (ad : Nat → Nat) (c : z_C) (I : z_I) (a1 : Int32) : z_M l yX9_isDigit wsX9_isDigit { frames := 1, cells := 0, slots := 0, locals := 12 } [.int a1] G (shC c, ad, I, JX, PC c ad) (fun r u1 => u1 = (shC c, ad, I, JX, PC c ad) ∧ ((r = 1 ∧ (zp_dg a1.toInt)) ∨ (r = 0 ∧ ¬ (zp_dg a1.toInt)))) 0 0 := by
  intro sz
  refine z_headQ (cc := cX9_isDigit) (maxL := 1) (ret := (some .boolean)) (by decide) rfl (Nat.le_of_ble_eq_true rfl) ?_
  intro p e s m below meth c0 ls hIn hK hsz hW hl
  obtain ⟨hx, hb, hr, hml, hown, hts, hlocks, hname⟩ := hIn
  subst hsz
  have hown : s.vm.findClass RX9 = some m.cls := hown
  have hA : ∀ q : Nat, s.heap.size ≤ q → z_A (shC c, ad, I, JX, PC c ad) s.heap.size q := fun q h => Or.inr h
  generalize hAe : z_A (shC c, ad, I, JX, PC c ad) s.heap.size = A at *
  have hS : va_S A s.heap s.heap [] := va_S.rf
  have hl : lv_has ls 1 [(0, .int a1)] := hl
  refine lv_iload_n hx hb dX9_isDigit_0 rfl (lv_at hl 0 rfl) ?_
  refine lv_bipush (v := 48) hx hb dX9_isDigit_1 (by decide) ?_
  refine lv_icmp_lt (tgt := 16) hx hb dX9_isDigit_3 (by decide) (fun c1 => ?_) (fun c1 => ?_)
  · have g2 := z_f_lt rfl z_l48 c1
    have b3 := Int32.toInt_lt a1
    refine lv_iconst (v := 0) hx hb dX9_isDigit_16 (by decide) ?_
    exact z_zret hx hb hr (by decide) hK hS (Nat.le_of_ble_eq_true rfl) (Nat.le_of_ble_eq_true rfl) hlocks dX9_isDigit_17 (shC c, ad, I, JX, PC c ad) hW ⟨rfl, (Or.inr ⟨rfl, by unfold zp_dg; omega⟩)⟩
  · have g4 := z_f_nlt rfl z_l48 c1
    have b5 := Int32.toInt_lt a1
    refine lv_iload_n hx hb dX9_isDigit_6 rfl (lv_at hl 0 rfl) ?_
    refine lv_bipush (v := 57) hx hb dX9_isDigit_7 (by decide) ?_
    refine lv_icmp_gt (tgt := 16) hx hb dX9_isDigit_9 (by decide) (fun c6 => ?_) (fun c6 => ?_)
    · have g7 := z_f_gt rfl z_l57 c6
      refine lv_iconst (v := 0) hx hb dX9_isDigit_16 (by decide) ?_
      exact z_zret hx hb hr (by decide) hK hS (Nat.le_of_ble_eq_true rfl) (Nat.le_of_ble_eq_true rfl) hlocks dX9_isDigit_17 (shC c, ad, I, JX, PC c ad) hW ⟨rfl, (Or.inr ⟨rfl, by unfold zp_dg; omega⟩)⟩
    · have g8 := z_f_ngt rfl z_l57 c6
      refine lv_iconst (v := 1) hx hb dX9_isDigit_12 (by decide) ?_
      refine lv_goto (tgt := 17) hx hb dX9_isDigit_13 (by decide) ?_
      exact z_zret hx hb hr (by decide) hK hS (Nat.le_of_ble_eq_true rfl) (Nat.le_of_ble_eq_true rfl) hlocks dX9_isDigit_17 (shC c, ad, I, JX, PC c ad) hW ⟨rfl, (Or.inl ⟨rfl, by unfold zp_dg; omega⟩)⟩
set_option maxHeartbeats 8000000 in
set_option maxRecDepth 100000 in
theorem sx_X9_isSign_x (l : Launch) (G : z_G) (ad : Nat → Nat) (c : z_C) (I : z_I) (a1 : Int32) : z_M l yX9_isSign wsX9_isSign { frames := 1, cells := 0, slots := 0, locals := 12 } [.int a1] G (shC c, ad, I, JX, PC c ad) (fun r u1 => u1 = (shC c, ad, I, JX, PC c ad) ∧ ((r = 1 ∧ zp_sg a1.toInt) ∨ (r = 0 ∧ ¬ zp_sg a1.toInt))) 0 0 := by
  intro sz
  refine z_headQ (cc := cX9_isSign) (maxL := 1) (ret := (some .boolean)) (by decide) rfl (Nat.le_of_ble_eq_true rfl) ?_
  intro p e s m below meth c0 ls hIn hK hsz hW hl
  obtain ⟨hx, hb, hr, hml, hown, hts, hlocks, hname⟩ := hIn
  subst hsz
  have hown : s.vm.findClass RX9 = some m.cls := hown
  have hA : ∀ q : Nat, s.heap.size ≤ q → z_A (shC c, ad, I, JX, PC c ad) s.heap.size q := fun q h => Or.inr h
  generalize hAe : z_A (shC c, ad, I, JX, PC c ad) s.heap.size = A at *
  have hS : va_S A s.heap s.heap [] := va_S.rf
  have hl : lv_has ls 1 [(0, .int a1)] := hl
  refine lv_iload_n hx hb dX9_isSign_0 rfl (lv_at hl 0 rfl) ?_
  by_cases h1 : zp_sg (a1 : Int32).toInt
  · refine lv_lookup (off := 115) (tgt := 116) hx hb dX9_isSign_1 (by decide) (zx_lkY h1) (by decide) ?_
    refine lv_iconst (v := 1) hx hb dX9_isSign_116 (by decide) ?_
    exact z_zret hx hb hr (by decide) hK hS (Nat.le_of_ble_eq_true rfl) (Nat.le_of_ble_eq_true rfl) hlocks dX9_isSign_117 (shC c, ad, I, JX, PC c ad) hW ⟨rfl, (Or.inl ⟨rfl, h1⟩)⟩
  · refine lv_lookup (off := 117) (tgt := 118) hx hb dX9_isSign_1 (by decide) (zx_lkN h1) (by decide) ?_
    refine lv_iconst (v := 0) hx hb dX9_isSign_118 (by decide) ?_
    exact z_zret hx hb hr (by decide) hK hS (Nat.le_of_ble_eq_true rfl) (Nat.le_of_ble_eq_true rfl) hlocks dX9_isSign_119 (shC c, ad, I, JX, PC c ad) hW ⟨rfl, (Or.inr ⟨rfl, h1⟩)⟩
noncomputable def L_X9_addToken_x : z_L := [(14, 999), (16, 999), (15, 999), (12, 5)]
set_option maxHeartbeats 8000000 in
set_option maxRecDepth 100000 in
theorem sx_X9_addToken_x (l : Launch) (G : z_G) (ad : Nat → Nat) (c : z_C) (I : z_I) (hR : z_iR I) (a1 : Int32) (a2 : Int32) (a3 : Int32) (q1 : (I 12 5).toInt ≤ 500) : z_Mv l yX9_addToken wsX9_addToken { frames := 1, cells := 0, slots := 0, locals := 12 } [.ref (ad 12), .int a1, .int a2, .int a3] G (shC c, ad, I, JX, PC c ad) (fun u1 => ∃ I1 : z_I, u1 = (shC c, ad, I1, JX, PC c ad) ∧ z_iR I1 ∧ z_fr L_X9_addToken_x I1 I ∧ zs_ad I I1 a1 a2 a3) 0 0 := by
  intro sz
  refine z_headQ (cc := cX9_addToken) (maxL := 4) (ret := none) (by decide) rfl (Nat.le_of_ble_eq_true rfl) ?_
  intro p e s m below meth c0 ls hIn hK hsz hW hl
  obtain ⟨hx, hb, hr, hml, hown, hts, hlocks, hname⟩ := hIn
  subst hsz
  have hown : s.vm.findClass RX9 = some m.cls := hown
  have hA : ∀ q : Nat, s.heap.size ≤ q → z_A (shC c, ad, I, JX, PC c ad) s.heap.size q := fun q h => Or.inr h
  generalize hAe : z_A (shC c, ad, I, JX, PC c ad) s.heap.size = A at *
  have hS : va_S A s.heap s.heap [] := va_S.rf
  have hl : lv_has ls 4 [(0, .ref (ad 12)), (1, .int a1), (2, .int a2), (3, .int a3)] := hl
  refine lv_aload_n hx hb dX9_addToken_0 rfl (lv_at hl 0 rfl) ?_
  have r1 : 0 ≤ (I 12 5).toInt ∧ (I 12 5).toInt ≤ 501 := hR.2.1
  refine z_get (T := TX9) (N := 14) (ci := 9) (i := 12) (v := .int (I 12 5)) hx hb hts zj_X9_addToken_X9 hown hK hW rfl rfl 5 (by decide) (hts (.fieldLink RX9 76 "PetrolBoard$Reader" "scanned" "I") (me_s (me_l (List.mem_of_getElem? (i := 0) rfl)))) (fun _ h => h) rfl dX9_addToken_1 ?_
  refine lv_aload_n hx hb dX9_addToken_4 rfl (lv_at hl 0 rfl) ?_
  refine z_get (T := TX9) (N := 14) (ci := 9) (i := 12) (v := .ref (ad 14)) hx hb hts zj_X9_addToken_X9 hown hK hW rfl rfl 2 (by decide) (hts (.fieldLink RX9 15 "PetrolBoard$Reader" "tokens" "[I") (me_s (me_l (List.mem_of_getElem? (i := 1) rfl)))) (fun _ h => h) rfl dX9_addToken_5 ?_
  refine z_alen (i := 14) (v := 501) hx hb hK hW rfl (by simp [z_tys]) (by rfl) dX9_addToken_8 ?_
  refine lv_icmp_ge (tgt := 52) hx hb dX9_addToken_9 (by decide) (fun c2 => ?_) (fun c2 => ?_)
  · have g3 := z_f_ge rfl z_l501 c2
    exact z_vret hx hb hr hK hS (Nat.le_of_ble_eq_true rfl) (Nat.le_of_ble_eq_true rfl) hlocks dX9_addToken_52 (shC c, ad, I, JX, PC c ad) hW ⟨I, rfl, ⟨(by show 0 ≤ (I 12 1).toInt ∧ (I 12 1).toInt ≤ 500; exact hR.1), (by show 0 ≤ (I 12 5).toInt ∧ (I 12 5).toInt ≤ 501; exact hR.2.1), (by show (-1) ≤ (I 12 6).toInt ∧ (I 12 6).toInt ≤ 1000000; exact hR.2.2.1), (by show 0 ≤ (I 12 9).toInt ∧ (I 12 9).toInt ≤ 500; exact hR.2.2.2.1), (by show 0 ≤ (I 12 13).toInt ∧ (I 12 13).toInt ≤ 24; exact hR.2.2.2.2)⟩, z_fr_0, (False.elim (by omega))⟩
  · have g4 := z_f_nge rfl z_l501 c2
    refine lv_aload_n hx hb dX9_addToken_12 rfl (lv_at hl 0 rfl) ?_
    refine z_get (T := TX9) (N := 14) (ci := 9) (i := 12) (v := .ref (ad 14)) hx hb hts zj_X9_addToken_X9 hown hK hW rfl rfl 2 (by decide) (hts (.fieldLink RX9 15 "PetrolBoard$Reader" "tokens" "[I") (me_s (me_l (List.mem_of_getElem? (i := 1) rfl)))) (fun _ h => h) rfl dX9_addToken_13 ?_
    refine lv_aload_n hx hb dX9_addToken_16 rfl (lv_at hl 0 rfl) ?_
    refine z_get (T := TX9) (N := 14) (ci := 9) (i := 12) (v := .int (I 12 5)) hx hb hts zj_X9_addToken_X9 hown hK hW rfl rfl 5 (by decide) (hts (.fieldLink RX9 76 "PetrolBoard$Reader" "scanned" "I") (me_s (me_l (List.mem_of_getElem? (i := 0) rfl)))) (fun _ h => h) rfl dX9_addToken_17 ?_
    refine lv_iload_n hx hb dX9_addToken_20 rfl (lv_at hl 1 rfl) ?_
    refine z_iast (i := 14) hx hb hK hW hS rfl (z_ix rfl (by omega) (by omega)) dX9_addToken_21 (fun H locs hz1 hW hS => ?_)
    obtain ⟨I5, eI5⟩ : ∃ K : z_I, K = z_up I 14 (I 12 5).toNatClampNeg a1 := ⟨_, rfl⟩
    rw [← eI5] at hW
    have f6 := z_fr_a z_fr_0 (show z_wa L_X9_addToken_x 14 = true by decide) eI5
    refine lv_aload_n hx hb dX9_addToken_22 rfl (lv_at hl 0 rfl) ?_
    refine z_get (T := TX9) (N := 14) (ci := 9) (i := 12) (v := .ref (ad 16)) hx hb hts zj_X9_addToken_X9 hown hK hW rfl rfl 4 (by decide) (hts (.fieldLink RX9 21 "PetrolBoard$Reader" "places" "[I") (me_s (me_l (List.mem_of_getElem? (i := 2) rfl)))) (fun _ h => h) rfl dX9_addToken_23 ?_
    refine lv_aload_n hx hb dX9_addToken_26 rfl (lv_at hl 0 rfl) ?_
    refine z_get (T := TX9) (N := 14) (ci := 9) (i := 12) (v := .int (I 12 5)) hx hb hts zj_X9_addToken_X9 hown hK hW rfl rfl 5 (by decide) (hts (.fieldLink RX9 76 "PetrolBoard$Reader" "scanned" "I") (me_s (me_l (List.mem_of_getElem? (i := 0) rfl)))) (fun _ h => h) (congrArg Value.int (by rw [eI5, z_up_n (by decide)])) dX9_addToken_27 ?_
    refine lv_iload_n hx hb dX9_addToken_30 rfl (lv_at hl 2 rfl) ?_
    refine z_iast (i := 16) hx hb hK hW hS rfl (z_ix rfl (by omega) (by omega)) dX9_addToken_31 (fun H locs hz1 hW hS => ?_)
    obtain ⟨I7, eI7⟩ : ∃ K : z_I, K = z_up I5 16 (I 12 5).toNatClampNeg a2 := ⟨_, rfl⟩
    rw [← eI7] at hW
    have f8 := z_fr_a f6 (show z_wa L_X9_addToken_x 16 = true by decide) eI7
    refine lv_aload_n hx hb dX9_addToken_32 rfl (lv_at hl 0 rfl) ?_
    refine z_get (T := TX9) (N := 14) (ci := 9) (i := 12) (v := .ref (ad 15)) hx hb hts zj_X9_addToken_X9 hown hK hW rfl rfl 3 (by decide) (hts (.fieldLink RX9 18 "PetrolBoard$Reader" "values" "[I") (me_s (me_l (List.mem_of_getElem? (i := 3) rfl)))) (fun _ h => h) rfl dX9_addToken_33 ?_
    refine lv_aload_n hx hb dX9_addToken_36 rfl (lv_at hl 0 rfl) ?_
    refine z_get (T := TX9) (N := 14) (ci := 9) (i := 12) (v := .int (I 12 5)) hx hb hts zj_X9_addToken_X9 hown hK hW rfl rfl 5 (by decide) (hts (.fieldLink RX9 76 "PetrolBoard$Reader" "scanned" "I") (me_s (me_l (List.mem_of_getElem? (i := 0) rfl)))) (fun _ h => h) (congrArg Value.int (by rw [eI7, z_up_n (by decide), eI5, z_up_n (by decide)])) dX9_addToken_37 ?_
    refine lv_iload_n hx hb dX9_addToken_40 rfl (lv_at hl 3 rfl) ?_
    refine z_iast (i := 15) hx hb hK hW hS rfl (z_ix rfl (by omega) (by omega)) dX9_addToken_41 (fun H locs hz1 hW hS => ?_)
    obtain ⟨I9, eI9⟩ : ∃ K : z_I, K = z_up I7 15 (I 12 5).toNatClampNeg a3 := ⟨_, rfl⟩
    rw [← eI9] at hW
    have f10 := z_fr_a f8 (show z_wa L_X9_addToken_x 15 = true by decide) eI9
    refine lv_aload_n hx hb dX9_addToken_42 rfl (lv_at hl 0 rfl) ?_
    refine lv_dup hx hb dX9_addToken_43 rfl ?_
    refine z_get (T := TX9) (N := 14) (ci := 9) (i := 12) (v := .int (I 12 5)) hx hb hts zj_X9_addToken_X9 hown hK hW rfl rfl 5 (by decide) (hts (.fieldLink RX9 76 "PetrolBoard$Reader" "scanned" "I") (me_s (me_l (List.mem_of_getElem? (i := 0) rfl)))) (fun _ h => h) (congrArg Value.int (by rw [eI9, z_up_n (by decide), eI7, z_up_n (by decide), eI5, z_up_n (by decide)])) dX9_addToken_44 ?_
    refine lv_iconst (v := 1) hx hb dX9_addToken_47 (by decide) ?_
    refine lv_iadd hx hb dX9_addToken_48 ?_
    refine lv_topi (fun x11 ex11 => ?_)
    have tx11 : x11.toInt = (I 12 5).toInt + 1 := z_tadd ex11 rfl z_l1 (by omega) (by omega)
    refine z_put (T := TX9) (N := 14) (ci := 9) (i := 12) (v := .int x11) (I1 := z_up I9 12 5 x11) (J1 := JX) (P1 := PC c ad) hx hb hts zj_X9_addToken_X9 tyX9 tyX9_ok nmX9 hown hK hW hS rfl rfl 5 (by decide) (hts (.fieldLink RX9 76 "PetrolBoard$Reader" "scanned" "I") (me_s (me_l (List.mem_of_getElem? (i := 0) rfl)))) (fun _ h => h) rfl rfl rfl (by first | rfl | exact congrArg _ z_up_s) (fun a b h ty => z_vI h ty) dX9_addToken_49 (fun H locs hz1 hW hS => ?_)
    obtain ⟨I12, eI12⟩ : ∃ K : z_I, K = z_up I9 12 5 x11 := ⟨_, rfl⟩
    rw [← eI12] at hW
    have f13 := z_fr_k f10 (show z_wr L_X9_addToken_x 12 5 = true by decide) eI12
    exact z_vret hx hb hr hK hS (Nat.le_of_ble_eq_true rfl) (Nat.le_of_ble_eq_true rfl) hlocks dX9_addToken_52 (shC c, ad, I12, JX, PC c ad) hW ⟨I12, rfl, ⟨(by show 0 ≤ (I12 12 1).toInt ∧ (I12 12 1).toInt ≤ 500; rw [eI12, z_up_k (by decide), eI9, z_up_n (by decide), eI7, z_up_n (by decide), eI5, z_up_n (by decide)]; exact hR.1), (by show 0 ≤ (I12 12 5).toInt ∧ (I12 12 5).toInt ≤ 501; rw [eI12, z_up_s]; omega), (by show (-1) ≤ (I12 12 6).toInt ∧ (I12 12 6).toInt ≤ 1000000; rw [eI12, z_up_k (by decide), eI9, z_up_n (by decide), eI7, z_up_n (by decide), eI5, z_up_n (by decide)]; exact hR.2.2.1), (by show 0 ≤ (I12 12 9).toInt ∧ (I12 12 9).toInt ≤ 500; rw [eI12, z_up_k (by decide), eI9, z_up_n (by decide), eI7, z_up_n (by decide), eI5, z_up_n (by decide)]; exact hR.2.2.2.1), (by show 0 ≤ (I12 12 13).toInt ∧ (I12 12 13).toInt ≤ 24; rw [eI12, z_up_k (by decide), eI9, z_up_n (by decide), eI7, z_up_n (by decide), eI5, z_up_n (by decide)]; exact hR.2.2.2.2)⟩, f13, (zs_ad_of eI5 eI7 eI9 eI12 (by omega))⟩
set_option maxHeartbeats 8000000 in
set_option maxRecDepth 100000 in
theorem sx_X9_endOf_x (l : Launch) (G : z_G) (ad : Nat → Nat) (c : z_C) (I : z_I) (tf tn : Nat) (a1 : Int32) (a2 : Int32) (hf : a1.toInt = (tf : Int)) (hn : a2.toInt = (tn : Int)) (hfn : tf < tn) (hn5 : tn ≤ 500) : z_M l yX9_endOf wsX9_endOf { frames := 2, cells := 0, slots := 0, locals := 32 } [.ref (ad 12), .int a1, .int a2] G (shC c, ad, I, JX, PC c ad) (fun r u1 => u1 = (shC c, ad, I, JX, PC c ad) ∧ (zx_E I tn tf r.toInt)) 0 0 := by
  intro sz
  refine z_headQ (cc := cX9_endOf) (maxL := 5) (ret := (some .int)) (by decide) rfl (Nat.le_of_ble_eq_true rfl) ?_
  intro p e s m below meth c0 ls hIn hK hsz hW hl
  obtain ⟨hx, hb, hr, hml, hown, hts, hlocks, hname⟩ := hIn
  subst hsz
  have hown : s.vm.findClass RX9 = some m.cls := hown
  have hA : ∀ q : Nat, s.heap.size ≤ q → z_A (shC c, ad, I, JX, PC c ad) s.heap.size q := fun q h => Or.inr h
  generalize hAe : z_A (shC c, ad, I, JX, PC c ad) s.heap.size = A at *
  have hS : va_S A s.heap s.heap [] := va_S.rf
  have hl : lv_has ls 5 [(0, .ref (ad 12)), (1, .int a1), (2, .int a2)] := hl
  refine lv_iload_n hx hb dX9_endOf_0 rfl (lv_at hl 1 rfl) ?_
  refine lv_iconst (v := 1) hx hb dX9_endOf_1 (by decide) ?_
  refine lv_iadd hx hb dX9_endOf_2 ?_
  refine lv_topi (fun x1 ex1 => ?_)
  have tx1 : x1.toInt = a1.toInt + 1 := z_tadd ex1 rfl z_l1 (by omega) (by omega)
  refine lv_istore_n (lv' := [(3, .int x1), (0, .ref (ad 12)), (1, .int a1), (2, .int a2)]) hx hb dX9_endOf_3 rfl hl (by decide) rfl (fun ls hl => ?_)
  refine lv_iload_n hx hb dX9_endOf_4 rfl (lv_at hl 2 rfl) ?_
  refine lv_if_lt (tgt := 17) hx hb dX9_endOf_5 (by decide) (fun c2 => (by have g := z_f_lt rfl z_l0 c2; omega)) (fun c2 => ?_)
  have g3 := z_f_nlt rfl z_l0 c2
  refine lv_iload_n hx hb dX9_endOf_8 rfl (lv_at hl 2 rfl) ?_
  refine lv_aload_n hx hb dX9_endOf_9 rfl (lv_at hl 1 rfl) ?_
  refine z_get (T := TX9) (N := 14) (ci := 9) (i := 12) (v := .ref (ad 13)) hx hb hts zj_X9_endOf_X9 hown hK hW rfl rfl 0 (by decide) (hts (.fieldLink RX9 9 "PetrolBoard$Reader" "text" "[I") (me_s (me_l (List.mem_of_getElem? (i := 0) rfl)))) (fun _ h => h) rfl dX9_endOf_10 ?_
  refine z_alen (i := 13) (v := 500) hx hb hK hW rfl (by simp [z_tys]) (by rfl) dX9_endOf_13 ?_
  refine lv_icmp_lt (tgt := 19) hx hb dX9_endOf_14 (by decide) (fun c4 => ?_) (fun c4 => (by have g := z_f_nlt rfl z_l500 c4; omega))
  have g5 := z_f_lt rfl z_l500 c4
  refine lv_aload_n hx hb dX9_endOf_19 rfl (lv_at hl 1 rfl) ?_
  refine z_get (T := TX9) (N := 14) (ci := 9) (i := 12) (v := .ref (ad 13)) hx hb hts zj_X9_endOf_X9 hown hK hW rfl rfl 0 (by decide) (hts (.fieldLink RX9 9 "PetrolBoard$Reader" "text" "[I") (me_s (me_l (List.mem_of_getElem? (i := 0) rfl)))) (fun _ h => h) rfl dX9_endOf_20 ?_
  refine lv_iload_n hx hb dX9_endOf_23 rfl (lv_at hl 2 rfl) ?_
  refine z_iald (i := 13) hx hb hK hW rfl (z_ix rfl (by omega) (by omega)) dX9_endOf_24 ?_
  refine lv_topi (fun x6 ex6 => ?_)
  have hxx6 : x6.toInt = zx_h I tn a1.toNatClampNeg := zx_ld ex6 (by omega) (by omega)
  have hkx6 : (a1.toNatClampNeg : Int) = a1.toInt := z_clt rfl (by omega)
  refine z_ci hW hS hA (va_runS (As := [.int x6]) (rest := []) ⟨hx, hb, hml, hown, hts⟩ (sx_X9_isLetter_x l G ad c I  x6 _) (va_cwS 1 hts gX9_endOf_X9_isLetter rfl rfl rfl (by decide +kernel) ⟨Nat.le_of_ble_eq_true rfl, Nat.le_of_ble_eq_true rfl⟩) (z_preS hK hW) rfl rfl hl.1 rfl (lv_room (Nat.le_of_ble_eq_true rfl)) dX9_endOf_25 ⟨Nat.le_of_ble_eq_true rfl, Nat.le_of_ble_eq_true rfl⟩) (fun r u1 H locs hp hW hS => ?_)
  obtain ⟨e9, hp⟩ := hp
  rw [e9] at hW
  rcases hp with ⟨rfl, h7⟩ | ⟨rfl, h7⟩
  · have h8 := h7
    have hfk : a1.toNatClampNeg = tf := (by have := z_clt hf (by omega); omega)
    have hxf : x6.toInt = zx_h I tn tf := by rw [hxx6, hfk]
    refine lv_istore (lv' := [(4, .int 1), (3, .int x1), (0, .ref (ad 12)), (1, .int a1), (2, .int a2)]) hx hb dX9_endOf_28 hl (by decide) rfl (fun ls hl => ?_)
    refine lv_iload hx hb dX9_endOf_30 (lv_at hl 0 rfl) ?_
    refine lv_if_ne (tgt := 49) hx hb dX9_endOf_32 (by decide) (fun c9 => ?_) (fun c9 => absurd c9 (by decide))
    have lp10 : ∀ (f : Nat) (y11 : Int32) (H : Heap) (locs : List Loc) (ls : Array Slot), (2147483647 < y11.toInt + (f : Int)) → (1 ≤ y11.toInt) → (y11.toInt ≤ 500) → (x1.toInt ≤ y11.toInt) → (zx_ru I tn zp_al tf y11.toInt) → z_W G A (shC c, ad, I, JX, PC c ad) H → va_S A s.heap H locs → lv_has ls 5 [(4, .int 1), (3, .int y11), (0, .ref (ad 12)), (1, .int a1), (2, .int a2)] → W p l e (headSpec wsX9_endOf { frames := 2, cells := 0, slots := 0, locals := 32 }).room s m ([.ref (ad 12), .int a1, .int a2] : List Value).toArray below meth c0 H locs 0 0 (MQ below (va_Qi (fun (r : Int32) (u1 : z_U) => u1 = (shC c, ad, I, JX, PC c ad) ∧ (zx_E I tn tf r.toInt)) (z_B G A) A) ([.ref (ad 12), .int a1, .int a2] : List Value).toArray s 0 0 A) (F0 m 49 ls []) := by
      intro f
      induction f with
      | zero => intro y11 H locs ls lp10m lp10l3 lp10u3 lp10z lp10RU hW hS hl; exact absurd lp10m (by have := Int32.toInt_lt y11; have := Int32.le_toInt y11; omega)
      | succ f lp10ih =>
        intro y11 H locs ls lp10m lp10l3 lp10u3 lp10z lp10RU hW hS hl
        refine lv_iload_n hx hb dX9_endOf_49 rfl (lv_at hl 1 rfl) ?_
        refine lv_iload_n hx hb dX9_endOf_50 rfl (lv_at hl 4 rfl) ?_
        refine lv_icmp_ge (tgt := 101) hx hb dX9_endOf_51 (by decide) (fun c12 => ?_) (fun c12 => ?_)
        · have g13 := z_f_ge rfl rfl c12
          refine lv_iload_n hx hb dX9_endOf_101 rfl (lv_at hl 1 rfl) ?_
          exact z_iret hx hb hr hK hS (Nat.le_of_ble_eq_true rfl) (Nat.le_of_ble_eq_true rfl) hlocks dX9_endOf_102 (shC c, ad, I, JX, PC c ad) hW ⟨rfl, (zx_E_r lp10RU (Or.inl (by omega)) (by unfold zp_al; omega) (by rw [← hxf]; exact h7) (Or.inl rfl))⟩
        · have g14 := z_f_nge rfl rfl c12
          refine lv_iload_n hx hb dX9_endOf_54 rfl (lv_at hl 1 rfl) ?_
          refine lv_aload_n hx hb dX9_endOf_55 rfl (lv_at hl 2 rfl) ?_
          refine z_get (T := TX9) (N := 14) (ci := 9) (i := 12) (v := .ref (ad 13)) hx hb hts zj_X9_endOf_X9 hown hK hW rfl rfl 0 (by decide) (hts (.fieldLink RX9 9 "PetrolBoard$Reader" "text" "[I") (me_s (me_l (List.mem_of_getElem? (i := 0) rfl)))) (fun _ h => h) rfl dX9_endOf_56 ?_
          refine z_alen (i := 13) (v := 500) hx hb hK hW rfl (by simp [z_tys]) (by rfl) dX9_endOf_59 ?_
          refine lv_icmp_ge (tgt := 101) hx hb dX9_endOf_60 (by decide) (fun c15 => (by have g := z_f_ge rfl z_l500 c15; omega)) (fun c15 => ?_)
          have g16 := z_f_nge rfl z_l500 c15
          refine lv_iload hx hb dX9_endOf_63 (lv_at hl 0 rfl) ?_
          refine lv_if_eq (tgt := 83) hx hb dX9_endOf_65 (by decide) (fun c17 => absurd c17 (by decide)) (fun c17 => ?_)
          refine lv_aload_n hx hb dX9_endOf_68 rfl (lv_at hl 2 rfl) ?_
          refine z_get (T := TX9) (N := 14) (ci := 9) (i := 12) (v := .ref (ad 13)) hx hb hts zj_X9_endOf_X9 hown hK hW rfl rfl 0 (by decide) (hts (.fieldLink RX9 9 "PetrolBoard$Reader" "text" "[I") (me_s (me_l (List.mem_of_getElem? (i := 0) rfl)))) (fun _ h => h) rfl dX9_endOf_69 ?_
          refine lv_iload_n hx hb dX9_endOf_72 rfl (lv_at hl 1 rfl) ?_
          refine z_iald (i := 13) hx hb hK hW rfl (z_ix rfl (by omega) (by omega)) dX9_endOf_73 ?_
          refine lv_topi (fun x18 ex18 => ?_)
          have hxx18 : x18.toInt = zx_h I tn y11.toNatClampNeg := zx_ld ex18 (by omega) (by omega)
          have hkx18 : (y11.toNatClampNeg : Int) = y11.toInt := z_clt rfl (by omega)
          refine z_ci hW hS hA (va_runS (As := [.int x18]) (rest := []) ⟨hx, hb, hml, hown, hts⟩ (sx_X9_isLetter_x l G ad c I  x18 _) (va_cwS 1 hts gX9_endOf_X9_isLetter rfl rfl rfl (by decide +kernel) ⟨Nat.le_of_ble_eq_true rfl, Nat.le_of_ble_eq_true rfl⟩) (z_preS hK hW) rfl rfl hl.1 rfl (lv_room (Nat.le_of_ble_eq_true rfl)) dX9_endOf_74 ⟨Nat.le_of_ble_eq_true rfl, Nat.le_of_ble_eq_true rfl⟩) (fun r u1 H locs hp hW hS => ?_)
          obtain ⟨e9, hp⟩ := hp
          rw [e9] at hW
          rcases hp with ⟨rfl, h19⟩ | ⟨rfl, h19⟩
          · have h20 := h19
            refine lv_if_eq (tgt := 101) hx hb dX9_endOf_77 (by decide) (fun c21 => absurd c21 (by decide)) (fun c21 => ?_)
            refine lv_goto (tgt := 95) hx hb dX9_endOf_80 (by decide) ?_
            obtain ⟨x22, ex22⟩ : ∃ y : Int32, y = y11 + 1 := ⟨_, rfl⟩
            have tx22 : x22.toInt = y11.toInt + 1 := z_tadd ex22 rfl z_l1 (by omega) (by omega)
            refine lv_iinc (v := x22) (lv' := [(3, .int x22), (4, .int 1), (0, .ref (ad 12)), (1, .int a1), (2, .int a2)]) hx hb dX9_endOf_95 hl (k := 1) rfl (by rw [ex22]; rfl) (by decide) rfl (fun ls hl => ?_)
            refine lv_goto (tgt := 49) hx hb dX9_endOf_98 (by decide) ?_
            exact lp10ih x22 _ _ _ (by omega) (by omega) (by omega) (by omega) (zx_ru_s lp10RU (p := y11.toNatClampNeg) hkx18 (by omega) (by rw [← hxx18]; exact h19) (by omega)) hW hS (lv_sub hl [1, 0, 2, 3, 4] rfl)
          · have h23 := h19
            refine lv_if_eq (tgt := 101) hx hb dX9_endOf_77 (by decide) (fun c24 => ?_) (fun c24 => absurd (by decide) c24)
            refine lv_iload_n hx hb dX9_endOf_101 rfl (lv_at hl 1 rfl) ?_
            exact z_iret hx hb hr hK hS (Nat.le_of_ble_eq_true rfl) (Nat.le_of_ble_eq_true rfl) hlocks dX9_endOf_102 (shC c, ad, I, JX, PC c ad) hW ⟨rfl, (zx_E_r lp10RU (Or.inr ⟨y11.toNatClampNeg, hkx18, by rw [← hxx18]; exact h19⟩) (by unfold zp_al; omega) (by rw [← hxf]; exact h7) (Or.inl rfl))⟩
    exact lp10 4294967296 x1 _ _ _ (z_m0u _) (by omega) (by omega) (by omega) (zx_ru_0 (by omega) hfn (by rw [← hxf]; exact h7)) hW hS (lv_sub hl [0, 1, 2, 3, 4] rfl)
  · have h25 := h7
    have hfk : a1.toNatClampNeg = tf := (by have := z_clt hf (by omega); omega)
    have hxf : x6.toInt = zx_h I tn tf := by rw [hxx6, hfk]
    refine lv_istore (lv' := [(4, .int 0), (3, .int x1), (0, .ref (ad 12)), (1, .int a1), (2, .int a2)]) hx hb dX9_endOf_28 hl (by decide) rfl (fun ls hl => ?_)
    refine lv_iload hx hb dX9_endOf_30 (lv_at hl 0 rfl) ?_
    refine lv_if_ne (tgt := 49) hx hb dX9_endOf_32 (by decide) (fun c26 => absurd (by decide) c26) (fun c26 => ?_)
    refine lv_aload_n hx hb dX9_endOf_35 rfl (lv_at hl 2 rfl) ?_
    refine z_get (T := TX9) (N := 14) (ci := 9) (i := 12) (v := .ref (ad 13)) hx hb hts zj_X9_endOf_X9 hown hK hW rfl rfl 0 (by decide) (hts (.fieldLink RX9 9 "PetrolBoard$Reader" "text" "[I") (me_s (me_l (List.mem_of_getElem? (i := 0) rfl)))) (fun _ h => h) rfl dX9_endOf_36 ?_
    refine lv_iload_n hx hb dX9_endOf_39 rfl (lv_at hl 3 rfl) ?_
    refine z_iald (i := 13) hx hb hK hW rfl (z_ix rfl (by omega) (by omega)) dX9_endOf_40 ?_
    refine z_topi (v := x6) ex6.symm ?_
    refine z_ci hW hS hA (va_runS (As := [.int x6]) (rest := []) ⟨hx, hb, hml, hown, hts⟩ (sx_X9_isDigit_x l G ad c I  x6 _) (va_cwS 1 hts gX9_endOf_X9_isDigit rfl rfl rfl (by decide +kernel) ⟨Nat.le_of_ble_eq_true rfl, Nat.le_of_ble_eq_true rfl⟩) (z_preS hK hW) rfl rfl hl.1 rfl (lv_room (Nat.le_of_ble_eq_true rfl)) dX9_endOf_41 ⟨Nat.le_of_ble_eq_true rfl, Nat.le_of_ble_eq_true rfl⟩) (fun r u1 H locs hp hW hS => ?_)
    obtain ⟨e9, hp⟩ := hp
    rw [e9] at hW
    rcases hp with ⟨rfl, h27⟩ | ⟨rfl, h27⟩
    · have h28 := h27
      refine lv_if_ne (tgt := 49) hx hb dX9_endOf_44 (by decide) (fun c29 => ?_) (fun c29 => absurd c29 (by decide))
      have lp30 : ∀ (f : Nat) (y31 : Int32) (H : Heap) (locs : List Loc) (ls : Array Slot), (2147483647 < y31.toInt + (f : Int)) → (1 ≤ y31.toInt) → (y31.toInt ≤ 500) → (x1.toInt ≤ y31.toInt) → (zx_ru I tn zp_dg tf y31.toInt) → z_W G A (shC c, ad, I, JX, PC c ad) H → va_S A s.heap H locs → lv_has ls 5 [(4, .int 0), (3, .int y31), (0, .ref (ad 12)), (1, .int a1), (2, .int a2)] → W p l e (headSpec wsX9_endOf { frames := 2, cells := 0, slots := 0, locals := 32 }).room s m ([.ref (ad 12), .int a1, .int a2] : List Value).toArray below meth c0 H locs 0 0 (MQ below (va_Qi (fun (r : Int32) (u1 : z_U) => u1 = (shC c, ad, I, JX, PC c ad) ∧ (zx_E I tn tf r.toInt)) (z_B G A) A) ([.ref (ad 12), .int a1, .int a2] : List Value).toArray s 0 0 A) (F0 m 49 ls []) := by
        intro f
        induction f with
        | zero => intro y31 H locs ls lp30m lp30l3 lp30u3 lp30z lp30RU hW hS hl; exact absurd lp30m (by have := Int32.toInt_lt y31; have := Int32.le_toInt y31; omega)
        | succ f lp30ih =>
          intro y31 H locs ls lp30m lp30l3 lp30u3 lp30z lp30RU hW hS hl
          refine lv_iload_n hx hb dX9_endOf_49 rfl (lv_at hl 1 rfl) ?_
          refine lv_iload_n hx hb dX9_endOf_50 rfl (lv_at hl 4 rfl) ?_
          refine lv_icmp_ge (tgt := 101) hx hb dX9_endOf_51 (by decide) (fun c32 => ?_) (fun c32 => ?_)
          · have g33 := z_f_ge rfl rfl c32
            refine lv_iload_n hx hb dX9_endOf_101 rfl (lv_at hl 1 rfl) ?_
            exact z_iret hx hb hr hK hS (Nat.le_of_ble_eq_true rfl) (Nat.le_of_ble_eq_true rfl) hlocks dX9_endOf_102 (shC c, ad, I, JX, PC c ad) hW ⟨rfl, (zx_E_r lp30RU (Or.inl (by omega)) (by unfold zp_dg; omega) (by rw [← hxf]; exact h27) (Or.inr rfl))⟩
          · have g34 := z_f_nge rfl rfl c32
            refine lv_iload_n hx hb dX9_endOf_54 rfl (lv_at hl 1 rfl) ?_
            refine lv_aload_n hx hb dX9_endOf_55 rfl (lv_at hl 2 rfl) ?_
            refine z_get (T := TX9) (N := 14) (ci := 9) (i := 12) (v := .ref (ad 13)) hx hb hts zj_X9_endOf_X9 hown hK hW rfl rfl 0 (by decide) (hts (.fieldLink RX9 9 "PetrolBoard$Reader" "text" "[I") (me_s (me_l (List.mem_of_getElem? (i := 0) rfl)))) (fun _ h => h) rfl dX9_endOf_56 ?_
            refine z_alen (i := 13) (v := 500) hx hb hK hW rfl (by simp [z_tys]) (by rfl) dX9_endOf_59 ?_
            refine lv_icmp_ge (tgt := 101) hx hb dX9_endOf_60 (by decide) (fun c35 => (by have g := z_f_ge rfl z_l500 c35; omega)) (fun c35 => ?_)
            have g36 := z_f_nge rfl z_l500 c35
            refine lv_iload hx hb dX9_endOf_63 (lv_at hl 0 rfl) ?_
            refine lv_if_eq (tgt := 83) hx hb dX9_endOf_65 (by decide) (fun c37 => ?_) (fun c37 => absurd (by decide) c37)
            refine lv_aload_n hx hb dX9_endOf_83 rfl (lv_at hl 2 rfl) ?_
            refine z_get (T := TX9) (N := 14) (ci := 9) (i := 12) (v := .ref (ad 13)) hx hb hts zj_X9_endOf_X9 hown hK hW rfl rfl 0 (by decide) (hts (.fieldLink RX9 9 "PetrolBoard$Reader" "text" "[I") (me_s (me_l (List.mem_of_getElem? (i := 0) rfl)))) (fun _ h => h) rfl dX9_endOf_84 ?_
            refine lv_iload_n hx hb dX9_endOf_87 rfl (lv_at hl 1 rfl) ?_
            refine z_iald (i := 13) hx hb hK hW rfl (z_ix rfl (by omega) (by omega)) dX9_endOf_88 ?_
            refine lv_topi (fun x38 ex38 => ?_)
            have hxx38 : x38.toInt = zx_h I tn y31.toNatClampNeg := zx_ld ex38 (by omega) (by omega)
            have hkx38 : (y31.toNatClampNeg : Int) = y31.toInt := z_clt rfl (by omega)
            refine z_ci hW hS hA (va_runS (As := [.int x38]) (rest := []) ⟨hx, hb, hml, hown, hts⟩ (sx_X9_isDigit_x l G ad c I  x38 _) (va_cwS 1 hts gX9_endOf_X9_isDigit rfl rfl rfl (by decide +kernel) ⟨Nat.le_of_ble_eq_true rfl, Nat.le_of_ble_eq_true rfl⟩) (z_preS hK hW) rfl rfl hl.1 rfl (lv_room (Nat.le_of_ble_eq_true rfl)) dX9_endOf_89 ⟨Nat.le_of_ble_eq_true rfl, Nat.le_of_ble_eq_true rfl⟩) (fun r u1 H locs hp hW hS => ?_)
            obtain ⟨e9, hp⟩ := hp
            rw [e9] at hW
            rcases hp with ⟨rfl, h39⟩ | ⟨rfl, h39⟩
            · have h40 := h39
              refine lv_if_eq (tgt := 101) hx hb dX9_endOf_92 (by decide) (fun c41 => absurd c41 (by decide)) (fun c41 => ?_)
              obtain ⟨x42, ex42⟩ : ∃ y : Int32, y = y31 + 1 := ⟨_, rfl⟩
              have tx42 : x42.toInt = y31.toInt + 1 := z_tadd ex42 rfl z_l1 (by omega) (by omega)
              refine lv_iinc (v := x42) (lv' := [(3, .int x42), (4, .int 0), (0, .ref (ad 12)), (1, .int a1), (2, .int a2)]) hx hb dX9_endOf_95 hl (k := 1) rfl (by rw [ex42]; rfl) (by decide) rfl (fun ls hl => ?_)
              refine lv_goto (tgt := 49) hx hb dX9_endOf_98 (by decide) ?_
              exact lp30ih x42 _ _ _ (by omega) (by omega) (by omega) (by omega) (zx_ru_s lp30RU (p := y31.toNatClampNeg) hkx38 (by omega) (by rw [← hxx38]; exact h39) (by omega)) hW hS (lv_sub hl [1, 0, 2, 3, 4] rfl)
            · have h43 := h39
              refine lv_if_eq (tgt := 101) hx hb dX9_endOf_92 (by decide) (fun c44 => ?_) (fun c44 => absurd (by decide) c44)
              refine lv_iload_n hx hb dX9_endOf_101 rfl (lv_at hl 1 rfl) ?_
              exact z_iret hx hb hr hK hS (Nat.le_of_ble_eq_true rfl) (Nat.le_of_ble_eq_true rfl) hlocks dX9_endOf_102 (shC c, ad, I, JX, PC c ad) hW ⟨rfl, (zx_E_r lp30RU (Or.inr ⟨y31.toNatClampNeg, hkx38, by rw [← hxx38]; exact h39⟩) (by unfold zp_dg; omega) (by rw [← hxf]; exact h27) (Or.inr rfl))⟩
      exact lp30 4294967296 x1 _ _ _ (z_m0u _) (by omega) (by omega) (by omega) (zx_ru_0 (by omega) hfn (by rw [← hxf]; exact h27)) hW hS (lv_sub hl [0, 1, 2, 3, 4] rfl)
    · have h45 := h27
      refine lv_if_ne (tgt := 49) hx hb dX9_endOf_44 (by decide) (fun c46 => absurd (by decide) c46) (fun c46 => ?_)
      refine lv_iload_n hx hb dX9_endOf_47 rfl (lv_at hl 1 rfl) ?_
      exact z_iret hx hb hr hK hS (Nat.le_of_ble_eq_true rfl) (Nat.le_of_ble_eq_true rfl) hlocks dX9_endOf_48 (shC c, ad, I, JX, PC c ad) hW ⟨rfl, (zx_E_1 (by omega) hfn (by rw [← hxf]; exact h7) (by rw [← hxf]; exact h27))⟩
