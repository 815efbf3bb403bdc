

/-! the class's board of loads -/
theorem zy_wr {L : z_L} {a k lo hi : Nat} (h1 : lo ≤ a) (h2 : a < hi) (h3 : hi ≤ 100) (hL : L.all (fun e => decide (e.1 < lo) || decide (hi ≤ e.1)) = true) : z_wr L a k = false := by
  cases hq : z_wr L a k with
  | false => rfl
  | true =>
    exfalso
    unfold z_wr at hq
    rw [List.any_eq_true] at hq
    obtain ⟨e, he, h4⟩ := hq
    rw [List.all_eq_true] at hL
    have h5 := hL e he
    simp only [z_ce, Bool.and_eq_true, Bool.or_eq_true, beq_iff_eq, decide_eq_true_eq] at h4 h5
    omega
noncomputable def zy_cX (I : z_I) (sh : Int) (p : Nat) : Int := if (p : Int) = sh then 0 else (I 42 p).toInt
noncomputable def zy_wX (I : z_I) (s : Nat) : Int := (I 43 s).toInt
noncomputable def zy_mX (I : z_I) (p s : Nat) : Int := (I (45 + p) s).toInt
noncomputable def zy_lf (I : z_I) (p : Nat) : Int := (I 54 p).toInt
noncomputable def zy_lk (I : z_I) (s : Nat) : Int := (I 55 s).toInt
noncomputable def zy_sn (I : z_I) (p s : Nat) : Int := (I (50 + p) s).toInt
noncomputable def zy_0X (I : z_I) (sh : Int) : Nat → Nat → Int := zy_fw (zy_cX I sh) (zy_wX I) (zy_50 (zy_mX I))
noncomputable def zy_RX (I : z_I) (sh : Int) : Nat → Nat → Int := zy_R (zy_cX I sh) (zy_wX I) (zy_mX I) (zy_lf I) (zy_lk I) (zy_sn I)
noncomputable def zy_CX (I : z_I) : Nat → Nat → Int := zy_C (zy_mX I)
noncomputable def zy_FX (I : z_I) (v : Nat) : Int := if v = 0 then 0 else if v ≤ 4 then (I 56 (v - 1)).toInt else if v ≤ 14 then (I 57 (v - 5)).toInt else 1000000
noncomputable def zy_nd (s : Int) : Nat := if 0 ≤ s then 5 + s.toNat else 0
noncomputable def zy_BX (I : z_I) (v : Nat) : Nat := if v = 0 then 0 else if v ≤ 4 then zy_nd (I 59 (v - 1)).toInt else if v ≤ 14 then ((I 58 (v - 5)).toInt + 1).toNat else 0
noncomputable def zy_B2 (I : z_I) (e v : Nat) : Nat := if v = 15 then 5 + e else zy_BX I v
theorem zy_FX_p {I : z_I} {p : Nat} (hp : p < 4) : zy_FX I (1 + p) = (I 56 p).toInt := by
  unfold zy_FX
  rw [if_neg (show ¬ 1 + p = 0 by omega), if_pos (show 1 + p ≤ 4 by omega), show 1 + p - 1 = p by omega]
theorem zy_FX_s {I : z_I} {s : Nat} (hs : s < 10) : zy_FX I (5 + s) = (I 57 s).toInt := by
  unfold zy_FX
  rw [if_neg (show ¬ 5 + s = 0 by omega), if_neg (show ¬ 5 + s ≤ 4 by omega), if_pos (show 5 + s ≤ 14 by omega), show 5 + s - 5 = s by omega]
theorem zy_FX_15 {I : z_I} : zy_FX I 15 = 1000000 := rfl
theorem zy_BX_p {I : z_I} {p : Nat} (hp : p < 4) : zy_BX I (1 + p) = zy_nd (I 59 p).toInt := by
  unfold zy_BX
  rw [if_neg (show ¬ 1 + p = 0 by omega), if_pos (show 1 + p ≤ 4 by omega), show 1 + p - 1 = p by omega]
theorem zy_BX_s {I : z_I} {s : Nat} (hs : s < 10) : zy_BX I (5 + s) = ((I 58 s).toInt + 1).toNat := by
  unfold zy_BX
  rw [if_neg (show ¬ 5 + s = 0 by omega), if_neg (show ¬ 5 + s ≤ 4 by omega), if_pos (show 5 + s ≤ 14 by omega), show 5 + s - 5 = s by omega]
theorem zy_B2_p {I : z_I} {e p : Nat} (hp : p < 4) : zy_B2 I e (1 + p) = zy_nd (I 59 p).toInt := by
  unfold zy_B2
  rw [if_neg (show ¬ 1 + p = 15 by omega)]
  exact zy_BX_p hp
theorem zy_B2_s {I : z_I} {e s : Nat} (hs : s < 10) : zy_B2 I e (5 + s) = ((I 58 s).toInt + 1).toNat := by
  unfold zy_B2
  rw [if_neg (show ¬ 5 + s = 15 by omega)]
  exact zy_BX_s hs
theorem zy_B2_15 {I : z_I} {e : Nat} : zy_B2 I e 15 = 5 + e := if_pos rfl
theorem zy_nd_p {s : Int} (h : 0 ≤ s) : zy_nd s = 5 + s.toNat := if_pos h
theorem zy_nd_n {s : Int} (h : ¬ 0 ≤ s) : zy_nd s = 0 := if_neg h
theorem zy_RX_c {I K : z_I} {sh : Int} (h1 : ∀ j, K 42 j = I 42 j) (h2 : ∀ j, K 43 j = I 43 j) (h3 : ∀ p j, p < 4 → K (45 + p) j = I (45 + p) j) (h4 : ∀ p j, p < 4 → K (50 + p) j = I (50 + p) j) (h5 : ∀ j, K 54 j = I 54 j) (h6 : ∀ j, K 55 j = I 55 j) : zy_RX K sh = zy_RX I sh := by
  unfold zy_RX
  refine zy_R_c (fun p hp => ⟨?_, ?_⟩) (fun s hs => ⟨?_, ?_⟩) (fun p s hp hs => ⟨?_, ?_⟩)
  · unfold zy_cX
    rw [h1]
  · unfold zy_lf
    rw [h5]
  · unfold zy_wX
    rw [h2]
  · unfold zy_lk
    rw [h6]
  · unfold zy_mX
    rw [h3 p s hp]
  · unfold zy_sn
    rw [h4 p s hp]
theorem zy_CX_e {I K : z_I} (h3 : ∀ p j, p < 4 → K (45 + p) j = I (45 + p) j) : zy_CX K = zy_CX I := by
  have e : ∀ a b, zy_fw (fun _ => 0) (fun _ => 0) (zy_mX K) a b = zy_fw (fun _ => 0) (fun _ => 0) (zy_mX I) a b := fun a b => by
    rcases zy_cs a b with ⟨p, hp, g1, g2⟩ | ⟨p, s, hp, hs, g1, g2⟩ | ⟨s, hs, g1, g2⟩ | g1
    · subst g1 g2
      rw [zy_fw_0 hp, zy_fw_0 hp]
    · subst g1 g2
      rw [zy_fw_1 hp hs, zy_fw_1 hp hs]
      unfold zy_mX
      rw [h3 p s hp]
    · subst g1 g2
      rw [zy_fw_2 hs, zy_fw_2 hs]
    · rw [g1, g1]
  unfold zy_CX
  funext a b
  unfold zy_C
  rw [e, e]
theorem zy_0X_e {I K : z_I} {sh : Int} (h1 : ∀ j, K 42 j = I 42 j) (h2 : ∀ j, K 43 j = I 43 j) (h3 : ∀ p j, p < 4 → K (45 + p) j = I (45 + p) j) : zy_0X K sh = zy_0X I sh := by
  unfold zy_0X
  funext a b
  rcases zy_cs a b with ⟨p, hp, g1, g2⟩ | ⟨p, s, hp, hs, g1, g2⟩ | ⟨s, hs, g1, g2⟩ | g1
  · subst g1 g2
    rw [zy_fw_0 hp, zy_fw_0 hp]
    unfold zy_cX
    rw [h1]
  · subst g1 g2
    rw [zy_fw_1 hp hs, zy_fw_1 hp hs]
    unfold zy_50 zy_mX
    rw [h3 p s hp]
  · subst g1 g2
    rw [zy_fw_2 hs, zy_fw_2 hs]
    unfold zy_wX
    rw [h2]
  · rw [g1, g1]
/-- rows of a frame that leaves the board alone -/
theorem zy_RX_f {L : z_L} {I K : z_I} {sh : Int} (hf : z_fr L K I) (hL : L.all (fun e => decide (e.1 < 42) || decide (56 ≤ e.1)) = true) : zy_RX K sh = zy_RX I sh :=
  zy_RX_c (fun j => hf _ _ (zy_wr (by decide) (by decide) (by decide) hL)) (fun j => hf _ _ (zy_wr (by decide) (by decide) (by decide) hL)) (fun p j hp => hf _ _ (zy_wr (by omega) (by omega) (by decide) hL)) (fun p j hp => hf _ _ (zy_wr (by omega) (by omega) (by decide) hL)) (fun j => hf _ _ (zy_wr (by decide) (by decide) (by decide) hL)) (fun j => hf _ _ (zy_wr (by decide) (by decide) (by decide) hL))
theorem zy_CX_f {L : z_L} {I K : z_I} (hf : z_fr L K I) (hL : L.all (fun e => decide (e.1 < 42) || decide (50 ≤ e.1)) = true) : zy_CX K = zy_CX I := zy_CX_e (fun p j hp => hf _ _ (zy_wr (by omega) (by omega) (by decide) hL))
theorem zy_0X_f {L : z_L} {I K : z_I} {sh : Int} (hf : z_fr L K I) (hL : L.all (fun e => decide (e.1 < 42) || decide (50 ≤ e.1)) = true) : zy_0X K sh = zy_0X I sh :=
  zy_0X_e (fun j => hf _ _ (zy_wr (by decide) (by decide) (by decide) hL)) (fun j => hf _ _ (zy_wr (by decide) (by decide) (by decide) hL)) (fun p j hp => hf _ _ (zy_wr (by omega) (by omega) (by decide) hL))
/-- what is told of PORTS, wants and ROADS -/
noncomputable def zy_gX (I : z_I) : Prop := (∀ p : Nat, p < 4 → 0 ≤ (I 42 p).toInt ∧ (I 42 p).toInt ≤ 50) ∧ (∀ s : Nat, s < 10 → 0 ≤ (I 43 s).toInt ∧ (I 43 s).toInt ≤ 20) ∧ ∀ p s : Nat, p < 4 → s < 10 → 0 ≤ (I (45 + p) s).toInt ∧ (I (45 + p) s).toInt ≤ 999
theorem zy_gX_f {L : z_L} {I K : z_I} (h : zy_gX I) (hf : z_fr L K I) (hL : L.all (fun e => decide (e.1 < 42) || decide (50 ≤ e.1)) = true) : zy_gX K := by
  refine ⟨fun p hp => ?_, fun s hs => ?_, fun p s hp hs => ?_⟩
  · rw [hf 42 p (zy_wr (by decide) (by decide) (by decide) hL)]
    exact h.1 p hp
  · rw [hf 43 s (zy_wr (by decide) (by decide) (by decide) hL)]
    exact h.2.1 s hs
  · rw [hf (45 + p) s (zy_wr (by omega) (by omega) (by decide) hL)]
    exact h.2.2 p s hp hs
theorem zy_gX_c {I : z_I} {sh : Int} (h : zy_gX I) : ∀ p, p < 4 → 0 ≤ zy_cX I sh p ∧ zy_cX I sh p ≤ 50 := fun p hp => by
  unfold zy_cX
  by_cases q : (p : Int) = sh
  · rw [if_pos q]
    decide
  · rw [if_neg q]
    exact h.1 p hp
/-- a board on its way -/
noncomputable def zy_SX (I : z_I) (sh : Int) : Prop := zy_gX I ∧ zy_fe (zy_0X I sh) (zy_RX I sh) ∧ ∃ pi : Nat → Int, z_pt (zy_RX I sh) (zy_CX I) pi
theorem zy_SX_f {L : z_L} {I K : z_I} {sh : Int} (h : zy_SX I sh) (hf : z_fr L K I) (hL : L.all (fun e => decide (e.1 < 42) || decide (56 ≤ e.1)) = true) (hL2 : L.all (fun e => decide (e.1 < 42) || decide (50 ≤ e.1)) = true) : zy_SX K sh := by
  unfold zy_SX
  rw [zy_RX_f hf hL, zy_0X_f hf hL2, zy_CX_f hf hL2]
  exact ⟨zy_gX_f h.1 hf hL2, h.2⟩
theorem zy_SX_R {I : z_I} {sh : Int} (h : zy_SX I sh) (a b : Nat) (ha : a < 16) (hb : b < 16) : zy_CX I a b + zy_CX I b a = 0 ∧ 0 ≤ zy_RX I sh a b ∧ zy_RX I sh a b + zy_RX I sh b a ≤ 100 := by
  have q1 := zy_R0_b (m := zy_mX I) (zy_gX_c (sh := sh) h.1) (fun s hs => h.1.2.1 s hs) a b
  have q2 := zy_R0_b (m := zy_mX I) (zy_gX_c (sh := sh) h.1) (fun s hs => h.1.2.1 s hs) b a
  have q3 := h.2.1.1 a b ha hb
  have q4 : zy_0X I sh a b + zy_0X I sh b a ≤ 100 := by
    show zy_fw (zy_cX I sh) (zy_wX I) (zy_50 (zy_mX I)) a b + zy_fw (zy_cX I sh) (zy_wX I) (zy_50 (zy_mX I)) b a ≤ 100
    have q5 : zy_fw (zy_cX I sh) (zy_wX I) (zy_50 (zy_mX I)) a b ≤ 50 := q1.2
    have q6 : zy_fw (zy_cX I sh) (zy_wX I) (zy_50 (zy_mX I)) b a ≤ 50 := q2.2
    omega
  exact ⟨zy_C_a a b, q3.1, by omega⟩
theorem zy_CX_b {I : z_I} (h : zy_gX I) (a b : Nat) : -999 ≤ zy_CX I a b ∧ zy_CX I a b ≤ 999 := zy_C_b (fun p s hp hs => h.2.2 p s hp hs) a b
theorem zy_RX_3 {I : z_I} {sh : Int} {p s : Nat} (hp : p < 4) (hs : s < 10) : zy_RX I sh (5 + s) (1 + p) = (I (50 + p) s).toInt := zy_R_3 hp hs
theorem zy_RX_0 {I : z_I} {sh : Int} {p : Nat} (hp : p < 4) : zy_RX I sh 0 (1 + p) = (I 54 p).toInt := zy_R_0 hp
theorem zy_RX_2 {I : z_I} {sh : Int} {s : Nat} (hs : s < 10) : zy_RX I sh (5 + s) 15 = (I 55 s).toInt := zy_R_2 hs
theorem zy_SX_30 {I : z_I} {sh : Int} (h : zy_SX I sh) {p s : Nat} (hp : p < 4) (hs : s < 10) : (0 < zy_RX I sh (1 + p) (5 + s) ↔ 0 < (I (45 + p) s).toInt) ∧ (0 < (I (45 + p) s).toInt → 30 ≤ zy_RX I sh (1 + p) (5 + s)) := zy_R_30 (m := zy_mX I) h.2.1 (fun s hs => h.1.2.1 s hs) hp hs
theorem zy_SX_20 {I : z_I} {sh : Int} (h : zy_SX I sh) {p s : Nat} (hp : p < 4) (hs : s < 10) : 0 ≤ (I (50 + p) s).toInt ∧ (I (50 + p) s).toInt ≤ 20 ∧ 0 ≤ (I 55 s).toInt ∧ (I 55 s).toInt ≤ 20 := by
  have q : 0 ≤ (I (50 + p) s).toInt ∧ (I (50 + p) s).toInt ≤ (I 43 s).toInt ∧ 0 ≤ (I 55 s).toInt ∧ (I 55 s).toInt ≤ (I 43 s).toInt := zy_R_20 (m := zy_mX I) h.2.1 hp hs
  have q2 := h.1.2.1 s hs
  omega
theorem zy_SX_50 {I : z_I} {sh : Int} (h : zy_SX I sh) {p : Nat} (hp : p < 4) : 0 ≤ (I 54 p).toInt ∧ (I 54 p).toInt ≤ 50 := by
  have q1 := (zy_SX_R h 0 (1 + p) (by omega) (by omega)).2.1
  have q2 := (zy_SX_R h (1 + p) 0 (by omega) (by omega)).2.1
  have q3 := (h.2.1.1 0 (1 + p) (by omega) (by omega)).2
  have q4 : zy_0X I sh 0 (1 + p) = zy_cX I sh p := zy_fw_0 hp
  have q5 : zy_0X I sh (1 + p) 0 = 0 := zy_fw_z (by omega)
  have q6 := zy_gX_c (sh := sh) h.1 p hp
  rw [zy_RX_0 hp] at q1 q3
  omega
/-! one round of looking -/
noncomputable def zy_swd (R C : Nat → Nat → Int) (F d : Nat → Int) (rk : Nat → Nat) (k : Nat) (dn : Nat → Nat → Prop) : Prop := (∀ v, v < 16 → d v < 1000000 → rk v ≤ k → F v ≤ d v) ∧ ∀ u v, u < 16 → v < 16 → d u < 1000000 → 0 < R u v → d u + C u v ≤ d v → rk u < rk v → rk v ≤ k + 1 → dn u v → F v ≤ d v
theorem zy_swd_i {R C : Nat → Nat → Int} {F F' d : Nat → Int} {rk : Nat → Nat} {k a z : Nat} {dn dn' : Nat → Nat → Prop} (h : zy_swd R C F d rk k dn) (hF : ∀ v, v < 16 → F' v ≤ F v) (h1 : F a < 1000000 → 0 < R a z → F' z ≤ F a + C a z) (hdn : ∀ u v, dn' u v → dn u v ∨ (u = a ∧ v = z)) : zy_swd R C F' d rk k dn' := by
  refine ⟨fun v hv hf hr => ?_, fun u v hu hv e1 e2 e3 e4 e5 e6 => ?_⟩
  · have q1 := h.1 v hv hf hr
    have q2 := hF v hv
    omega
  · have q2 := hF v hv
    rcases hdn u v e6 with q | ⟨rfl, rfl⟩
    · have q1 := h.2 u v hu hv e1 e2 e3 e4 e5 q
      omega
    · have q1 := h.1 u hu e1 (by omega)
      have q3 := h1 (by omega) e2
      omega
noncomputable def zy_st (R C : Nat → Nat → Int) (pi F0 d : Nat → Int) (rk : Nat → Nat) (k : Nat) (F : Nat → Int) (b : Nat → Nat) (x tl tu : Int) (dn : Nat → Nat → Prop) : Prop := (∃ h, z_tr R C pi F b h) ∧ zy_swd R C F d rk k dn ∧ (∀ v, v < 16 → F v < 1000000 → -999 * tl ≤ F v ∧ F v ≤ 999 * tu) ∧ (∀ v, v < 16 → F v ≤ F0 v) ∧ (x = 0 → (∀ v, v < 16 → F v = F0 v) ∧ ∀ a v, a < 16 → v < 16 → dn a v → F0 a < 1000000 → 0 < R a v → F0 v ≤ F0 a + C a v)
/-- it is shorter this way -/
theorem zy_st_w {R C : Nat → Nat → Int} {pi F0 d F F' : Nat → Int} {rk b b' : Nat → Nat} {k a z : Nat} {x x' tl tu tl' tu' : Int} {dn dn' : Nat → Nat → Prop} (hp : z_pt R C pi) (h : zy_st R C pi F0 d rk k F b x tl tu dn) (ha : a < 16) (hz : z < 16) (hf : F a < 1000000) (hr : 0 < R a z) (hl : F a + C a z < F z) (hF1 : F' z = F a + C a z) (hF2 : ∀ v, v ≠ z → F' v = F v) (hb1 : b' z = a) (hb2 : ∀ v, v ≠ z → b' v = b v) (hx : x' ≠ 0) (hdn : ∀ u v, dn' u v → dn u v ∨ (u = a ∧ v = z)) (b1 : tl ≤ tl' ∧ -999 * tl' ≤ -999 * tl + C a z) (b2 : tu ≤ tu' ∧ 999 * tu + C a z ≤ 999 * tu') : zy_st R C pi F0 d rk k F' b' x' tl' tu' dn' := by
  obtain ⟨⟨hh, h1⟩, h2, h3, h4, h5⟩ := h
  have q := z_rlx hp h1 ha hz hf hr hl hF1 hF2 hb1 hb2
  have hle : ∀ v, v < 16 → F' v ≤ F v := fun v hv => by
    by_cases e : v = z
    · subst e
      omega
    · rw [hF2 v e]
      exact Int.le_refl _
  refine ⟨⟨_, q.2.2⟩, zy_swd_i h2 hle (fun _ _ => by omega) hdn, fun v hv hg => ?_, fun v hv => Int.le_trans (hle v hv) (h4 v hv), fun e => absurd e hx⟩
  by_cases e : v = z
  · subst e
    have q3 := h3 a ha hf
    omega
  · rw [hF2 v e] at hg ⊢
    have q3 := h3 v hv hg
    omega
/-- it isn't -/
theorem zy_st_n {R C : Nat → Nat → Int} {pi F0 d F : Nat → Int} {rk b : Nat → Nat} {k a z : Nat} {x tl tu tl' tu' : Int} {dn dn' : Nat → Nat → Prop} (h : zy_st R C pi F0 d rk k F b x tl tu dn) (ha : a < 16) (hz : z < 16) (hno : F a < 1000000 → 0 < R a z → F z ≤ F a + C a z) (hdn : ∀ u v, dn' u v → dn u v ∨ (u = a ∧ v = z)) (b1 : tl ≤ tl') (b2 : tu ≤ tu') : zy_st R C pi F0 d rk k F b x tl' tu' dn' := by
  obtain ⟨h1, h2, h3, h4, h5⟩ := h
  refine ⟨h1, zy_swd_i h2 (fun _ _ => Int.le_refl _) hno hdn, fun v hv hg => ?_, h4, fun e => ?_⟩
  · have q3 := h3 v hv hg
    omega
  · obtain ⟨g1, g2⟩ := h5 e
    refine ⟨g1, fun u v hu hv e1 e2 e3 => ?_⟩
    rcases hdn u v e1 with q | ⟨rfl, rfl⟩
    · exact g2 u v hu hv q e2 e3
    · rw [← g1 u hu, ← g1 v hv]
      exact hno (by rw [g1 u hu]; exact e2) e3
theorem zy_st_d {R C : Nat → Nat → Int} {pi F0 d F : Nat → Int} {rk b : Nat → Nat} {k : Nat} {x tl tu tl' tu' : Int} {dn dn' : Nat → Nat → Prop} (h : zy_st R C pi F0 d rk k F b x tl tu dn) (hdn : ∀ u v, dn' u v → dn u v) (b1 : tl = tl') (b2 : tu = tu') : zy_st R C pi F0 d rk k F b x tl' tu' dn' := by
  subst b1 b2
  obtain ⟨h1, h2, h3, h4, h5⟩ := h
  exact ⟨h1, ⟨h2.1, fun u v hu hv e1 e2 e3 e4 e5 e6 => h2.2 u v hu hv e1 e2 e3 e4 e5 (hdn u v e6)⟩, h3, h4, fun e => ⟨(h5 e).1, fun u v hu hv e1 e2 e3 => (h5 e).2 u v hu hv (hdn u v e1) e2 e3⟩⟩
/-- between the rounds -/
noncomputable def zy_rd (R C : Nat → Nat → Int) (pi d : Nat → Int) (rk : Nat → Nat) (F : Nat → Int) (b : Nat → Nat) (k : Nat) (x : Int) : Prop := (∃ h, z_tr R C pi F b h) ∧ zy_swd R C F d rk k (zy_dn 0 0) ∧ (∀ v, v < 16 → F v < 1000000 → -999 * (40 * (k : Int)) ≤ F v ∧ F v ≤ 999 * (40 * (k : Int))) ∧ (∀ v, v < 16 → 0 < R 0 v → F v ≤ C 0 v) ∧ (x = 0 → z_cvg R C F)
theorem zy_rd_st {R C : Nat → Nat → Int} {pi d F : Nat → Int} {rk b : Nat → Nat} {k : Nat} {x : Int} (h : zy_rd R C pi d rk F b k x) : zy_st R C pi F d rk k F b 0 (40 * (k : Int)) (40 * (k : Int)) (zy_dn 0 0) := by
  obtain ⟨h1, h2, h3, h4, h5⟩ := h
  refine ⟨h1, h2, h3, fun _ _ => Int.le_refl _, fun _ => ⟨fun _ _ => rfl, fun a v ha hv e1 e2 e3 => ?_⟩⟩
  unfold zy_dn at e1
  have e4 : a = 0 := by omega
  subst e4
  obtain ⟨hh, t0, _⟩ := h1
  have := h4 v hv e3
  omega
theorem zy_rd_s {R C : Nat → Nat → Int} {pi d F0 F : Nat → Int} {rk b0 b : Nat → Nat} {k : Nat} {x0 x : Int} (hd : z_cvd R C d rk) (hA : ∀ u v, u < 16 → v < 16 → 0 < R u v → u = 0 ∨ (1 ≤ u ∧ u ≤ 4 ∧ 5 ≤ v ∧ v ≤ 14) ∨ (5 ≤ u ∧ u ≤ 14 ∧ 1 ≤ v ∧ v ≤ 4)) (h0 : zy_rd R C pi d rk F0 b0 k x0) (h : zy_st R C pi F0 d rk k F b x (40 * (k : Int) + 40) (40 * (k : Int) + 40) (zy_dn 4 0)) : zy_rd R C pi d rk F b (k + 1) x := by
  obtain ⟨_, _, _, p4, _⟩ := h0
  obtain ⟨h1, h2, h3, h4, h5⟩ := h
  have hF1 : ∀ v, v < 16 → 0 < R 0 v → F v ≤ C 0 v := fun v hv hr => Int.le_trans (h4 v hv) (p4 v hv hr)
  refine ⟨h1, ⟨fun v hv hf hr => ?_, fun u v hu hv e1 e2 e3 e4 e5 e6 => ?_⟩, fun v hv hg => ?_, hF1, fun e => ?_⟩
  · by_cases e : v = 0
    · subst e
      obtain ⟨hh, t0, _⟩ := h1
      have := hd.1
      omega
    · obtain ⟨u, q1, q2, q3, q4, q5⟩ := hd.2.2.2.2 v hv e hf
      exact h2.2 u v q1 hv q2 q3 q4 q5 hr (by have := hA u v q1 hv q3; unfold zy_dn; omega)
  · unfold zy_dn at e6
    have e7 : u = 0 := by omega
    subst e7
    have q1 := hF1 v hv e2
    have q2 := hd.1
    omega
  · have q := h3 v hv hg
    rw [show ((k + 1 : Nat) : Int) = (k : Int) + 1 from rfl]
    omega
  · obtain ⟨g1, g2⟩ := h5 e
    intro a v ha hv e2 e3
    rw [g1 a ha, g1 v hv]
    rw [g1 a ha] at e2
    exact g2 a v ha hv (by have := hA a v ha hv e3; unfold zy_dn; omega) e2 e3
/-- writes of a round -/
theorem zy_upS {I I1 I2 : z_I} {s i j : Nat} {x q : Int32} (e1 : I1 = z_up I 57 i x) (e2 : I2 = z_up I1 58 j q) (hi : i = s) (hj : j = s) (hs : s < 10) (hq : 0 ≤ q.toInt) : zy_FX I2 (5 + s) = x.toInt ∧ (∀ v, v ≠ 5 + s → zy_FX I2 v = zy_FX I v) ∧ zy_BX I2 (5 + s) = 1 + q.toNatClampNeg ∧ ∀ v, v ≠ 5 + s → zy_BX I2 v = zy_BX I v := by
  subst hi
  subst hj
  have c9 := z_clt (x := q) rfl hq
  refine ⟨?_, fun v hv => ?_, ?_, fun v hv => ?_⟩
  · rw [zy_FX_s hs, e2, z_up_n (by decide), e1, z_up_s]
  · unfold zy_FX
    by_cases g0 : v = 0
    · rw [if_pos g0, if_pos g0]
    · by_cases g1 : v ≤ 4
      · rw [if_neg g0, if_neg g0, if_pos g1, if_pos g1, e2, z_up_n (by decide), e1, z_up_n (by decide)]
      · by_cases g2 : v ≤ 14
        · rw [if_neg g0, if_neg g0, if_neg g1, if_neg g1, if_pos g2, if_pos g2, e2, z_up_n (by decide), e1, z_up_k (by omega)]
        · rw [if_neg g0, if_neg g0, if_neg g1, if_neg g1, if_neg g2, if_neg g2]
  · rw [zy_BX_s hs, e2, z_up_s]
    omega
  · unfold zy_BX
    by_cases g0 : v = 0
    · rw [if_pos g0, if_pos g0]
    · by_cases g1 : v ≤ 4
      · rw [if_neg g0, if_neg g0, if_pos g1, if_pos g1, e2, z_up_n (by decide), e1, z_up_n (by decide)]
      · by_cases g2 : v ≤ 14
        · rw [if_neg g0, if_neg g0, if_neg g1, if_neg g1, if_pos g2, if_pos g2, e2, z_up_k (by omega), e1, z_up_n (by decide)]
        · rw [if_neg g0, if_neg g0, if_neg g1, if_neg g1, if_neg g2, if_neg g2]
theorem zy_upP {I I1 I2 : z_I} {s i j : Nat} {x q : Int32} (e1 : I1 = z_up I 56 i x) (e2 : I2 = z_up I1 59 j q) (hi : i = s) (hj : j = s) (hs : s < 4) (hq : 0 ≤ q.toInt) : zy_FX I2 (1 + s) = x.toInt ∧ (∀ v, v ≠ 1 + s → zy_FX I2 v = zy_FX I v) ∧ zy_BX I2 (1 + s) = 5 + q.toNatClampNeg ∧ ∀ v, v ≠ 1 + s → zy_BX I2 v = zy_BX I v := by
  subst hi
  subst hj
  refine ⟨?_, fun v hv => ?_, ?_, fun v hv => ?_⟩
  · rw [zy_FX_p hs, e2, z_up_n (by decide), e1, z_up_s]
  · unfold zy_FX
    by_cases g0 : v = 0
    · rw [if_pos g0, if_pos g0]
    · by_cases g1 : v ≤ 4
      · rw [if_neg g0, if_neg g0, if_pos g1, if_pos g1, e2, z_up_n (by decide), e1, z_up_k (by omega)]
      · by_cases g2 : v ≤ 14
        · rw [if_neg g0, if_neg g0, if_neg g1, if_neg g1, if_pos g2, if_pos g2, e2, z_up_n (by decide), e1, z_up_n (by decide)]
        · rw [if_neg g0, if_neg g0, if_neg g1, if_neg g1, if_neg g2, if_neg g2]
  · rw [zy_BX_p hs, e2, z_up_s, zy_nd_p hq]
    rfl
  · unfold zy_BX
    by_cases g0 : v = 0
    · rw [if_pos g0, if_pos g0]
    · by_cases g1 : v ≤ 4
      · rw [if_neg g0, if_neg g0, if_pos g1, if_pos g1, e2, z_up_k (by omega), e1, z_up_n (by decide)]
      · by_cases g2 : v ≤ 14
        · rw [if_neg g0, if_neg g0, if_neg g1, if_neg g1, if_pos g2, if_pos g2, e2, z_up_n (by decide), e1, z_up_n (by decide)]
        · rw [if_neg g0, if_neg g0, if_neg g1, if_neg g1, if_neg g2, if_neg g2]
/-- the rooms of a round -/
theorem zy_r2_1 {I : z_I} {sh : Int} (h : zy_SX I sh) {p s : Nat} (hp : p < 4) (hs : s < 10) (hr : 0 < zy_r2 (zy_RX I sh) (1 + p) (5 + s)) : 0 < (I (45 + p) s).toInt := (zy_SX_30 h hp hs).1.mp (by rw [← zy_r2_i (R := zy_RX I sh) (a := 1 + p) (b := 5 + s) (by omega) (by omega) (by omega)]; exact hr)
theorem zy_r2_1i {I : z_I} {sh : Int} (h : zy_SX I sh) {p s : Nat} (hp : p < 4) (hs : s < 10) (hr : 0 < (I (45 + p) s).toInt) : 0 < zy_r2 (zy_RX I sh) (1 + p) (5 + s) := by
  rw [zy_r2_i (by omega) (by omega) (by omega)]
  exact (zy_SX_30 h hp hs).1.mpr hr
theorem zy_r2_3 {I : z_I} {sh : Int} {p s : Nat} (hp : p < 4) (hs : s < 10) : zy_r2 (zy_RX I sh) (5 + s) (1 + p) = (I (50 + p) s).toInt := by
  rw [zy_r2_i (by omega) (by omega) (by omega)]
  exact zy_R_3 hp hs
theorem zy_CX_1 {I : z_I} {p s : Nat} (hp : p < 4) (hs : s < 10) : zy_CX I (1 + p) (5 + s) = (I (45 + p) s).toInt := zy_C_1 hp hs
theorem zy_CX_3 {I : z_I} {p s : Nat} (hp : p < 4) (hs : s < 10) : zy_CX I (5 + s) (1 + p) = -(I (45 + p) s).toInt := zy_C_3 hp hs
/-- the beginning of the looking -/
theorem zy_rd_0 {I K : z_I} {sh : Int} {pi d : Nat → Int} {rk : Nat → Nat} {x : Int} (h : zy_SX I sh) (hp : z_pt (zy_RX I sh) (zy_CX I) pi) (hd : z_cvd (zy_r2 (zy_RX I sh)) (zy_CX I) d rk) (k1 : ∀ p : Nat, p < 4 → (0 < (I 54 p).toInt → (K 56 p).toInt = 0) ∧ (¬ 0 < (I 54 p).toInt → (K 56 p).toInt = 1000000) ∧ (K 59 p).toInt = -1) (k2 : ∀ s : Nat, s < 10 → (K 57 s).toInt = 1000000) (hx : x ≠ 0) : zy_rd (zy_r2 (zy_RX I sh)) (zy_CX I) pi d rk (zy_FX K) (zy_BX K) 0 x := by
  have hF : ∀ v, v < 16 → zy_FX K v < 1000000 → v = 0 ∨ ∃ p, p < 4 ∧ v = 1 + p ∧ 0 < (I 54 p).toInt := fun v hv hf => by
    by_cases g0 : v = 0
    · exact Or.inl g0
    · by_cases g1 : v ≤ 4
      · refine Or.inr ⟨v - 1, by omega, by omega, ?_⟩
        refine Classical.byContradiction fun q => ?_
        have q2 := (k1 (v - 1) (by omega)).2.1 q
        rw [show v = 1 + (v - 1) by omega, zy_FX_p (by omega)] at hf
        omega
      · by_cases g2 : v ≤ 14
        · rw [show v = 5 + (v - 5) by omega, zy_FX_s (by omega), k2 (v - 5) (by omega)] at hf
          omega
        · rw [show v = 15 by omega, zy_FX_15] at hf
          omega
  have hF0 : ∀ v, v < 16 → zy_FX K v < 1000000 → zy_FX K v = 0 := fun v hv hf => by
    rcases hF v hv hf with rfl | ⟨p, hp4, rfl, hl⟩
    · rfl
    · rw [zy_FX_p hp4]
      exact (k1 p hp4).1 hl
  have hle : ∀ v, v < 16 → zy_FX K v ≤ 1000000 := fun v hv => by
    by_cases hf : zy_FX K v < 1000000
    · omega
    · by_cases g0 : v = 0
      · subst g0
        show (0 : Int) ≤ 1000000
        decide
      · by_cases g1 : v ≤ 4
        · rw [show v = 1 + (v - 1) by omega, zy_FX_p (by omega)]
          have q := k1 (v - 1) (by omega)
          by_cases q2 : 0 < (I 54 (v - 1)).toInt
          · have := q.1 q2
            omega
          · have := q.2.1 q2
            omega
        · by_cases g2 : v ≤ 14
          · rw [show v = 5 + (v - 5) by omega, zy_FX_s (by omega), k2 (v - 5) (by omega)]
            exact Int.le_refl _
          · rw [show v = 15 by omega, zy_FX_15]
            exact Int.le_refl _
  have hR0 : ∀ p, p < 4 → zy_r2 (zy_RX I sh) 0 (1 + p) = (I 54 p).toInt := fun p hp4 => by
    rw [zy_r2_i (by omega) (by omega) (by omega)]
    exact zy_R_0 hp4
  have hC0 : ∀ p, p < 4 → zy_CX I 0 (1 + p) = 0 := fun p hp4 => zy_C_0 hp4
  have h1 : ∀ v, v < 16 → 0 < zy_r2 (zy_RX I sh) 0 v → zy_FX K v ≤ zy_CX I 0 v := fun v hv hr => by
    obtain ⟨n1, n2, n3, e⟩ := zy_r2_e hr
    rw [e] at hr
    rcases zy_cs 0 v with ⟨p, hp4, g1, g2⟩ | ⟨p, s, hp4, hs, g1, g2⟩ | ⟨s, hs, g1, g2⟩ | g1
    · subst g2
      rw [hC0 p hp4, zy_FX_p hp4]
      have q : zy_RX I sh 0 (1 + p) = (I 54 p).toInt := zy_R_0 hp4
      have := (k1 p hp4).1 (by omega)
      omega
    · omega
    · omega
    · have q : zy_RX I sh 0 v = 0 := (zy_rf_f (by omega)).trans (g1 _ _ _)
      omega
  refine ⟨⟨fun v => if v = 0 then 0 else 1, rfl, hle, fun v hv hf => ?_, fun v hv h0 hf => ?_⟩, ⟨fun v hv hf hr => ?_, fun u v hu hv e1 e2 e3 e4 e5 e6 => ?_⟩, fun v hv hf => ?_, h1, fun e => absurd e hx⟩
  · rw [hF0 v hv hf]
    rcases hF v hv hf with rfl | ⟨p, hp4, rfl, hl⟩
    · omega
    · have q := hp 0 (1 + p) (by omega) (by omega) (by
        have q : zy_RX I sh 0 (1 + p) = (I 54 p).toInt := zy_R_0 hp4
        omega)
      rw [hC0 p hp4] at q
      omega
  · rcases hF v hv hf with g | ⟨p, hp4, rfl, hl⟩
    · exact absurd g h0
    · have e : zy_BX K (1 + p) = 0 := by
        rw [zy_BX_p hp4, (k1 p hp4).2.2]
        rfl
      rw [e]
      refine ⟨by omega, (by show (0 : Int) < 1000000; decide), by rw [hR0 p hp4]; exact hl, ?_, fun _ => ?_⟩
      · rw [hC0 p hp4]
        have := hF0 (1 + p) hv hf
        show (0 : Int) + 0 ≤ _
        omega
      · show (if (0 : Nat) = 0 then 0 else 1) < (if 1 + p = 0 then 0 else 1)
        rw [if_pos rfl, if_neg (show ¬ 1 + p = 0 by omega)]
        decide
  · by_cases e : v = 0
    · subst e
      have := hd.1
      show (0 : Int) ≤ d 0
      omega
    · obtain ⟨u, q1, q2, q3, q4, q5⟩ := hd.2.2.2.2 v hv e hf
      omega
  · unfold zy_dn at e6
    have e7 : u = 0 := by omega
    subst e7
    have q1 := h1 v hv e2
    have q2 := hd.1
    omega
  · have q := hF0 v hv hf
    rw [q]
    decide
/-- the rounds are over -/
theorem zy_rd_e {R C : Nat → Nat → Int} {pi d F : Nat → Int} {rk b : Nat → Nat} {k : Nat} {x : Int} (hp : z_pt R C pi) (hd : z_cvd R C d rk) (h : zy_rd R C pi d rk F b k x) (hk : k ≤ 15) (he : 15 ≤ k ∨ x = 0) : z_cvg R C F ∧ (∃ h, z_tr R C pi F b h) ∧ ∀ v, v < 16 → F v < 1000000 → F v ≤ 700000 := by
  obtain ⟨h1, h2, h3, h4, h5⟩ := h
  refine ⟨?_, h1, fun v hv hf => ?_⟩
  · rcases he with e | e
    · obtain ⟨hh, h1⟩ := h1
      exact zy_cvF hp h1 hd (fun v hv hf => h2.1 v hv hf (by have := hd.2.2.2.1 v hv; omega))
    · exact h5 e
  · have q := h3 v hv hf
    omega
/-- the STATION that is told -/
noncomputable def zy_bs (I : z_I) (F : Nat → Int) (e : Int) (n : Nat) : Prop := (e = -1 ∧ ∀ s, s < n → 0 < (I 55 s).toInt → ¬ F (5 + s) < 1000000) ∨ (0 ≤ e ∧ e.toNat < n ∧ 0 < (I 55 e.toNat).toInt ∧ F (5 + e.toNat) < 1000000 ∧ ∀ s, s < n → 0 < (I 55 s).toInt → F (5 + e.toNat) ≤ F (5 + s))
theorem zy_bs_0 {I : z_I} {F : Nat → Int} : zy_bs I F (-1) 0 := Or.inl ⟨rfl, fun s hs => absurd hs (by omega)⟩
theorem zy_bs_n {I : z_I} {F : Nat → Int} {e : Int} {n : Nat} (h : zy_bs I F e n) (hn : 0 < (I 55 n).toInt → (¬ F (5 + n) < 1000000 ∨ (0 ≤ e ∧ F (5 + e.toNat) ≤ F (5 + n)))) : zy_bs I F e (n + 1) := by
  rcases h with ⟨h1, h2⟩ | ⟨h1, h2, h3, h4, h5⟩
  · refine Or.inl ⟨h1, fun s hs hl => ?_⟩
    by_cases q : s = n
    · subst q
      rcases hn hl with q | ⟨q, _⟩
      · exact q
      · omega
    · exact h2 s (by omega) hl
  · refine Or.inr ⟨h1, by omega, h3, h4, fun s hs hl => ?_⟩
    by_cases q : s = n
    · subst q
      rcases hn hl with q | ⟨_, q⟩
      · omega
      · exact q
    · exact h5 s (by omega) hl
theorem zy_bs_y {I : z_I} {F : Nat → Int} {e : Int} {n : Nat} (h : zy_bs I F e n) (hl : 0 < (I 55 n).toInt) (hf : F (5 + n) < 1000000) (hb : 0 ≤ e → F (5 + n) ≤ F (5 + e.toNat)) : zy_bs I F (n : Int) (n + 1) := by
  refine Or.inr ⟨by omega, by rw [Int.toNat_natCast]; omega, by rw [Int.toNat_natCast]; exact hl, by rw [Int.toNat_natCast]; exact hf, fun s hs hl2 => ?_⟩
  rw [Int.toNat_natCast]
  by_cases q : s = n
  · subst q
    exact Int.le_refl _
  · rcases h with ⟨h1, h2⟩ | ⟨h1, h2, h3, h4, h5⟩
    · have := h2 s (by omega) hl2
      omega
    · have q1 := h5 s (by omega) hl2
      have q2 := hb h1
      omega
/-- ranks: a way has at most 16 places -/
theorem zy_rk {R C : Nat → Nat → Int} {F pi : Nat → Int} {b m : Nat → Nat} (h : z_fd R C F b pi m) : ∃ m' : Nat → Nat, z_fd R C F b pi m' ∧ ∀ v, v < 16 → m' v ≤ 15 := by
  refine ⟨fun v => z_sm (fun u => if m u < m v then 1 else 0) 16, ⟨h.1, fun v hv h0 hf => ?_⟩, fun v hv => ?_⟩
  · obtain ⟨c1, c2, c3, c4, q⟩ := h.2 v hv h0 hf
    refine ⟨c1, c2, c3, c4, ?_⟩
    show z_sm (fun u => if m u < m (b v) then 1 else 0) 16 < z_sm (fun u => if m u < m v then 1 else 0) 16
    refine z_sm_lt (x := b v) 16 (fun u hu => ?_) c1 ?_
    · show (if m u < m (b v) then 1 else 0) ≤ (if m u < m v then 1 else 0)
      by_cases e : m u < m (b v)
      · rw [if_pos e, if_pos (by omega)]
        exact Nat.le_refl 1
      · rw [if_neg e]
        omega
    · show (if m (b v) < m (b v) then 1 else 0) < (if m (b v) < m v then 1 else 0)
      rw [if_neg (by omega), if_pos q]
      decide
  · have h1 : z_sm (fun u => if m u < m v then 1 else 0) 16 < z_sm (fun _ => 1) 16 := z_sm_lt (x := v) 16 (fun u hu => by show (if m u < m v then 1 else 0) ≤ 1; split <;> omega) hv (by show (if m v < m v then 1 else 0) < 1; rw [if_neg (by omega)]; decide)
    have h2 : z_sm (fun _ => 1) 16 = 16 := by decide
    show z_sm (fun u => if m u < m v then 1 else 0) 16 ≤ 15
    omega
/-- a way to a STATION with what it tells -/
noncomputable def zy_wy (I : z_I) (sh : Int) (e : Nat) : Prop := ∃ (F pi : Nat → Int) (m : Nat → Nat), z_fd (zy_RX I sh) (zy_CX I) F (zy_B2 I e) pi m ∧ F 15 < 1000000 ∧ (∀ v, v < 16 → m v ≤ 15) ∧ ∀ v, v < 15 → v ≠ 0 → F v < 1000000 → zy_B2 I e v ≠ 15
theorem zy_ce {I K : z_I} {sh e : Int} {pi : Nat → Int} (h : zy_SX I sh) (hp : z_pt (zy_RX I sh) (zy_CX I) pi) (eR : zy_RX K sh = zy_RX I sh) (eC : zy_CX K = zy_CX I) (eL : ∀ j, K 55 j = I 55 j) (hq : z_cvg (zy_r2 (zy_RX I sh)) (zy_CX I) (zy_FX K) ∧ (∃ h, z_tr (zy_r2 (zy_RX I sh)) (zy_CX I) pi (zy_FX K) (zy_BX K) h) ∧ ∀ v, v < 16 → zy_FX K v < 1000000 → zy_FX K v ≤ 700000) (hb : zy_bs K (zy_FX K) e 10) : (e = -1 ∧ zy_op (zy_RX K sh) (zy_CX K)) ∨ (0 ≤ e ∧ e ≤ 9 ∧ zy_wy K sh e.toNat) := by
  obtain ⟨hcv, ⟨hh, ht⟩, hB⟩ := hq
  have hC : ∀ a b, a < 16 → b < 16 → zy_CX I a b ≤ 999 := fun a b _ _ => (zy_CX_b h.1 a b).2
  have hA : ∀ a, a < 16 → 0 < zy_RX I sh a 15 → 5 ≤ a ∧ a ≤ 14 := fun a ha hr => zy_R_15 ha hr
  have hR2 : ∀ s, s < 10 → zy_RX I sh (5 + s) 15 = (K 55 s).toInt := fun s hs => by
    rw [eL s]
    exact zy_R_2 hs
  rcases hb with ⟨h1, h2⟩ | ⟨h1, h2, h3, h4, h5⟩
  · refine Or.inl ⟨h1, ?_⟩
    rw [eR, eC]
    exact zy_none hp ht hcv hB hC hA (fun s hs hr => h2 s hs (by rw [← hR2 s hs]; exact hr)) (by rw [zy_FX_15]; decide)
  · refine Or.inr ⟨h1, by omega, ?_⟩
    have q := zy_end (e := e.toNat) hp ht hcv hB hC hA (fun s hs => zy_C_2 hs) h2 h4 (by rw [hR2 _ h2]; exact h3) (fun s hs hr => h5 s hs (by rw [← hR2 s hs]; exact hr)) (zy_B2 K e.toNat) zy_B2_15 (fun v hv => if_neg (by omega))
    obtain ⟨F', pi', m, q1, q2, q5⟩ := q
    obtain ⟨m', q3, q4⟩ := zy_rk q1
    refine ⟨F', pi', m', ?_, q2, q4, q5⟩
    rw [eR, eC]
    exact q3
/-! a way, place by place -/
theorem zy_st_x {R C : Nat → Nat → Int} {pi F0 d F : Nat → Int} {rk b : Nat → Nat} {k : Nat} {x x' tl tu tl' tu' : Int} {dn dn' : Nat → Nat → Prop} (h : zy_st R C pi F0 d rk k F b x tl tu dn) (hdn : ∀ u v, dn' u v → dn u v) (bx : x = x') (b1 : tl = tl') (b2 : tu = tu') : zy_st R C pi F0 d rk k F b x' tl' tu' dn' := by
  subst bx
  exact zy_st_d h hdn b1 b2
theorem zy_st_b {R C : Nat → Nat → Int} {pi F0 d F : Nat → Int} {rk b : Nat → Nat} {k : Nat} {x tl tu : Int} {dn : Nat → Nat → Prop} (h : zy_st R C pi F0 d rk k F b x tl tu dn) (ht : tl ≤ 600) {v : Nat} (hv : v < 16) : -600000 ≤ F v ∧ F v ≤ 1000000 := by
  obtain ⟨⟨hh, t0, t1, _⟩, h2, h3, _⟩ := h
  have q1 := t1 v hv
  by_cases hf : F v < 1000000
  · have := h3 v hv hf
    omega
  · omega
theorem zy_0s {I : z_I} {sh : Int} {s : Nat} : zy_RX I sh 0 (5 + s) = 0 := by
  refine (zy_rf_f (by omega)).trans ?_
  rcases zy_cs 0 (5 + s) with ⟨p, hp, g1, g2⟩ | ⟨p, s1, hp, hs, g1, g2⟩ | ⟨s1, hs, g1, g2⟩ | g1
  · omega
  · omega
  · omega
  · exact g1 _ _ _
theorem zy_ss {I : z_I} {sh : Int} {a s : Nat} (ha : 5 ≤ a) (ha2 : a ≤ 14) (hs : s < 10) : ¬ 0 < zy_RX I sh a (5 + s) := fun hr => by
  have q1 : ∀ (a b : Nat), 5 ≤ a → b ≤ 14 → ∀ (c w : Nat → Int) (m : Nat → Nat → Int), zy_fw c w m a b = 0 := fun a b h1 h2 c w m => by
    rcases zy_cs a b with ⟨p, hp, g1, g2⟩ | ⟨p, s1, hp, hs, g1, g2⟩ | ⟨s1, hs, g1, g2⟩ | g1
    · omega
    · omega
    · omega
    · exact g1 _ _ _
  have e : zy_RX I sh a (5 + s) = 0 := by
    unfold zy_RX zy_R
    by_cases h : a < 5 + s
    · rw [zy_rf_f h, q1 a (5 + s) ha (by omega)]
    · rw [zy_rf_b h, q1 (5 + s) a (by omega) ha2, q1 (5 + s) a (by omega) ha2]
      rfl
  omega
theorem zy_pp {I : z_I} {sh : Int} {a p : Nat} (ha : 1 ≤ a) (ha2 : a ≤ 4 ∨ a = 15) (hp : p < 4) : ¬ 0 < zy_RX I sh a (1 + p) := fun hr => by
  have q1 : ∀ (a b : Nat), 1 ≤ a → a ≤ 4 → (b ≤ 4 ∨ b = 15) → ∀ (c w : Nat → Int) (m : Nat → Nat → Int), zy_fw c w m a b = 0 := fun a b h1 h2 h3 c w m => by
    rcases zy_cs a b with ⟨p, hp, g1, g2⟩ | ⟨p, s1, hp, hs, g1, g2⟩ | ⟨s1, hs, g1, g2⟩ | g1
    · omega
    · omega
    · omega
    · exact g1 _ _ _
  have e : zy_RX I sh a (1 + p) = 0 := by
    unfold zy_RX zy_R
    by_cases h : a < 1 + p
    · rw [zy_rf_f h, q1 a (1 + p) ha (by omega) (by omega)]
    · rw [zy_rf_b h, q1 (1 + p) a (by omega) (by omega) ha2, q1 (1 + p) a (by omega) (by omega) ha2]
      rfl
  omega
/-- the PORT from which a STATION is reached -/
theorem zy_ws {I : z_I} {sh : Int} {C : Nat → Nat → Int} {F pi : Nat → Int} {m : Nat → Nat} {e s : Nat} (h : z_fd (zy_RX I sh) C F (zy_B2 I e) pi m) (hn : ∀ v, v < 15 → v ≠ 0 → F v < 1000000 → zy_B2 I e v ≠ 15) (hs : s < 10) (hf : F (5 + s) < 1000000) : 0 ≤ (I 58 s).toInt ∧ (I 58 s).toInt ≤ 3 ∧ zy_B2 I e (5 + s) = 1 + (I 58 s).toNatClampNeg ∧ F (1 + (I 58 s).toNatClampNeg) < 1000000 ∧ 0 < zy_RX I sh (1 + (I 58 s).toNatClampNeg) (5 + s) ∧ m (1 + (I 58 s).toNatClampNeg) < m (5 + s) := by
  obtain ⟨c1, c2, c3, c4, c5⟩ := h.2 (5 + s) (by omega) (by omega) hf
  have n15 := hn (5 + s) (by omega) (by omega) hf
  have eB : zy_B2 I e (5 + s) = ((I 58 s).toInt + 1).toNat := zy_B2_s hs
  have k1 : ¬ zy_B2 I e (5 + s) = 0 := fun z => by
    rw [z, zy_0s] at c3
    omega
  have k2 : ¬ (5 ≤ zy_B2 I e (5 + s) ∧ zy_B2 I e (5 + s) ≤ 14) := fun z => zy_ss z.1 z.2 hs c3
  have k3 : 0 ≤ (I 58 s).toInt := by omega
  have k4 := z_clt (x := I 58 s) rfl k3
  have eB2 : zy_B2 I e (5 + s) = 1 + (I 58 s).toNatClampNeg := by omega
  rw [eB2] at c1 c2 c3 c5 n15 k1 k2
  exact ⟨k3, by omega, eB2, c2, c3, c5⟩
/-- where a PORT's loads come from -/
theorem zy_wp {I : z_I} {sh : Int} {C : Nat → Nat → Int} {F pi : Nat → Int} {m : Nat → Nat} {e p : Nat} (h : z_fd (zy_RX I sh) C F (zy_B2 I e) pi m) (hp : p < 4) (hf : F (1 + p) < 1000000) : (I 59 p).toInt ≤ 9 ∧ zy_B2 I e (1 + p) = zy_nd (I 59 p).toInt ∧ zy_nd (I 59 p).toInt < 16 ∧ F (zy_nd (I 59 p).toInt) < 1000000 ∧ 0 < zy_RX I sh (zy_nd (I 59 p).toInt) (1 + p) ∧ m (zy_nd (I 59 p).toInt) < m (1 + p) := by
  obtain ⟨c1, c2, c3, c4, c5⟩ := h.2 (1 + p) (by omega) (by omega) hf
  have eB : zy_B2 I e (1 + p) = zy_nd (I 59 p).toInt := zy_B2_p hp
  rw [eB] at c1 c2 c3 c5
  refine ⟨?_, eB, c1, c2, c3, c5⟩
  by_cases q : 0 ≤ (I 59 p).toInt
  · rw [zy_nd_p q] at c1 c3
    refine Classical.byContradiction fun z => ?_
    have k := zy_pp (I := I) (sh := sh) (a := 5 + (I 59 p).toInt.toNat) (p := p) (by omega) (Or.inr (by omega)) hp
    exact k c3
  · omega
theorem zy_lN {B : Nat → Nat} {R : Nat → Nat → Int} {v u t : Nat} {l l' : Int} (N : ∀ x, z_oc B 15 x → ¬ z_oc B v x → l ≤ R (B x) x) (hv : v ≠ 0) (hu : u ≠ 0) (e1 : B v = u) (e2 : B u = t) (g1 : l' ≤ R u v) (g2 : l' ≤ R t u) (g3 : l' ≤ l) : ∀ x, z_oc B 15 x → ¬ z_oc B t x → l' ≤ R (B x) x := fun x hx hn => by
  by_cases q1 : x = u
  · rw [q1, e2]
    exact g2
  · by_cases q2 : x = v
    · rw [q2, e1]
      exact g1
    · have := N x hx (fun z => hn (by
        have z1 := ((z_oc_s hv).1 z).resolve_left q2
        rw [e1] at z1
        have z2 := ((z_oc_s hu).1 z1).resolve_left q1
        rw [e2] at z2
        exact z2))
      omega
/-- a step of a sending -/
noncomputable def zy_mv (C : Nat → Nat → Int) (pi : Nat → Int) (B : Nat → Nat) (n : Int) (Ri R : Nat → Nat → Int) (v : Nat) : Prop := z_rm R C pi ∧ (∀ x, z_oc B v x → n ≤ R (B x) x) ∧ zy_wk Ri R C pi n v
theorem zy_mv_s {Rg Ri R R' C : Nat → Nat → Int} {F pi : Nat → Int} {B m : Nat → Nat} {u v : Nat} {n : Int} (hfd : z_fd Rg C F B pi m) (hv : v < 16) (hF : F v < 1000000) (h0 : v ≠ 0) (hn : 1 ≤ n) (h : zy_mv C pi B n Ri R v) (hu : B v = u) (hs : zy_sp R R' u v n) : zy_mv C pi B n Ri R' u := by
  subst hu
  obtain ⟨A, N, W⟩ := h
  obtain ⟨c1, c2, c3, c4, c5⟩ := hfd.2 v hv h0 hF
  have hne : B v ≠ v := fun q => by
    rw [q] at c5
    omega
  have hnn := N v ((z_oc_s h0).2 (Or.inl rfl))
  have hag := z_aug A c1 hv h0 hne c4 hn hnn hs.1 hs.2.1 hs.2.2
  exact ⟨hag.1, zy_nx hfd hv hF h0 (fun a b ha hb => (A.2 a b ha hb).2.1) N hs, zy_wk_s hs c1 hv hne (A.2 _ _ c1 hv).1 c4 W⟩
theorem zy_mv_q {R R' C : Nat → Nat → Int} {u v : Nat} {n c M M' K : Int} (hs : zy_sp R R' u v n) (hu : u < 16) (hv : v < 16) (huv : u ≠ v) (hC : C u v + C v u = 0) (hc : C u v = c) (h : 2 * M + zy_Q R C = K) (hM : M' = M + n * c) : 2 * M' + zy_Q R' C = K := by
  have q := zy_sp_q hs hu hv huv hC
  rw [hc] at q
  omega
theorem zy_u41 {I I1 : z_I} {sh : Int} {j : Nat} {v : Int32} (e : I1 = z_up I 41 j v) : zy_RX I1 sh = zy_RX I sh :=
  zy_RX_c (fun j => by rw [e, z_up_n (by decide)]) (fun j => by rw [e, z_up_n (by decide)]) (fun p j hp => by rw [e, z_up_n (by omega)]) (fun p j hp => by rw [e, z_up_n (by omega)]) (fun j => by rw [e, z_up_n (by decide)]) (fun j => by rw [e, z_up_n (by decide)])
theorem zy_u50 {I I1 : z_I} {sh n : Int} {p j : Nat} {v : Int32} (e : I1 = z_up I (50 + p) j v) (hp : p < 4) (hj : j < 10) (hv : v.toInt = (I (50 + p) j).toInt + n) : zy_sp (zy_RX I sh) (zy_RX I1 sh) (1 + p) (5 + j) n := by
  have q : zy_RX I1 sh = zy_R (zy_cX I sh) (zy_wX I) (zy_mX I) (zy_lf I) (zy_lk I) (zy_sn I1) := by
    unfold zy_RX
    refine zy_R_c (fun p1 hp1 => ⟨?_, ?_⟩) (fun s hs => ⟨?_, ?_⟩) (fun p1 s hp1 hs => ⟨?_, rfl⟩)
    · unfold zy_cX
      rw [e, z_up_n (by omega)]
    · unfold zy_lf
      rw [e, z_up_n (by omega)]
    · unfold zy_wX
      rw [e, z_up_n (by omega)]
    · unfold zy_lk
      rw [e, z_up_n (by omega)]
    · unfold zy_mX
      rw [e, z_up_n (by omega)]
  rw [q]
  refine zy_w_sn hp hj ?_ (fun p1 s1 w => ?_)
  · show (I1 (50 + p) j).toInt = (I (50 + p) j).toInt + n
    rw [e, z_up_s]
    exact hv
  · show (I1 (50 + p1) s1).toInt = (I (50 + p1) s1).toInt
    by_cases w1 : p1 = p
    · subst w1
      rw [e, z_up_k (fun z => w ⟨rfl, z⟩)]
    · rw [e, z_up_n (by omega)]
theorem zy_u54 {I I1 : z_I} {sh n : Int} {p : Nat} {v : Int32} (e : I1 = z_up I 54 p v) (hp : p < 4) (hv : v.toInt = (I 54 p).toInt - n) : zy_sp (zy_RX I sh) (zy_RX I1 sh) 0 (1 + p) n := by
  have q : zy_RX I1 sh = zy_R (zy_cX I sh) (zy_wX I) (zy_mX I) (zy_lf I1) (zy_lk I) (zy_sn I) := by
    unfold zy_RX
    refine zy_R_c (fun p1 hp1 => ⟨?_, rfl⟩) (fun s hs => ⟨?_, ?_⟩) (fun p1 s hp1 hs => ⟨?_, ?_⟩)
    · unfold zy_cX
      rw [e, z_up_n (by omega)]
    · unfold zy_wX
      rw [e, z_up_n (by omega)]
    · unfold zy_lk
      rw [e, z_up_n (by omega)]
    · unfold zy_mX
      rw [e, z_up_n (by omega)]
    · unfold zy_sn
      rw [e, z_up_n (by omega)]
  rw [q]
  refine zy_w_lf hp ?_ (fun p1 w => ?_)
  · show (I1 54 p).toInt = (I 54 p).toInt - n
    rw [e, z_up_s]
    exact hv
  · show (I1 54 p1).toInt = (I 54 p1).toInt
    rw [e, z_up_k w]
theorem zy_u55 {I I1 : z_I} {sh n : Int} {s : Nat} {v : Int32} (e : I1 = z_up I 55 s v) (hs : s < 10) (hv : v.toInt = (I 55 s).toInt - n) : zy_sp (zy_RX I sh) (zy_RX I1 sh) (5 + s) 15 n := by
  have q : zy_RX I1 sh = zy_R (zy_cX I sh) (zy_wX I) (zy_mX I) (zy_lf I) (zy_lk I1) (zy_sn I) := by
    unfold zy_RX
    refine zy_R_c (fun p1 hp1 => ⟨?_, ?_⟩) (fun s hs => ⟨?_, rfl⟩) (fun p1 s hp1 hs => ⟨?_, ?_⟩)
    · unfold zy_cX
      rw [e, z_up_n (by omega)]
    · unfold zy_lf
      rw [e, z_up_n (by omega)]
    · unfold zy_wX
      rw [e, z_up_n (by omega)]
    · unfold zy_mX
      rw [e, z_up_n (by omega)]
    · unfold zy_sn
      rw [e, z_up_n (by omega)]
  rw [q]
  refine zy_w_lk hs ?_ (fun s1 w => ?_)
  · show (I1 55 s).toInt = (I 55 s).toInt - n
    rw [e, z_up_s]
    exact hv
  · show (I1 55 s1).toInt = (I 55 s1).toInt
    rw [e, z_up_k w]
/-- the board with what was sent -/
noncomputable def zy_TX (I : z_I) (sh : Int) : Prop := zy_SX I sh ∧ zy_FL (zy_0X I sh) (zy_RX I sh) (zy_CX I) (I 41 11) (I 41 12)
theorem zy_TX_f {L : z_L} {I K : z_I} {sh : Int} (h : zy_TX I sh) (hf : z_fr L K I) (hL : L.all (fun e => decide (e.1 < 42) || decide (56 ≤ e.1)) = true) (hL2 : L.all (fun e => decide (e.1 < 42) || decide (50 ≤ e.1)) = true) (hL3 : L.all (fun e => e.1 != 41 && e.1 != 1000) = true) : zy_TX K sh := by
  refine ⟨zy_SX_f h.1 hf hL hL2, ?_⟩
  rw [zy_RX_f hf hL, zy_0X_f hf hL2, zy_CX_f hf hL2, hf 41 11 (z_wr_c hL3), hf 41 12 (z_wr_c hL3)]
  exact h.2
theorem zy_TX_s {I K : z_I} {sh : Int} {pi : Nat → Int} {B : Nat → Nat} {n : Int32} {M : Int} (h : zy_TX I sh) (hg : zy_gX K) (e0 : zy_0X K sh = zy_0X I sh) (eC : zy_CX K = zy_CX I) (hm : zy_mv (zy_CX I) pi B n.toInt (zy_RX I sh) (zy_RX K sh) 0) (ex : K 41 11 = I 41 11 + n) (eM : K 41 12 = Int32.ofInt M) (hM : 2 * M + zy_Q (zy_RX K sh) (zy_CX I) = zy_Q (zy_0X I sh) (zy_CX I)) : zy_TX K sh ∧ zy_S (zy_RX K sh 0) 16 = zy_S (zy_RX I sh 0) 16 - n.toInt := by
  obtain ⟨⟨g, fe, _⟩, _, A, M0, a, b, c, d⟩ := h
  obtain ⟨q1, q2, q3⟩ := hm
  obtain ⟨f1, f2⟩ := zy_fe_s fe (fun a b ha hb => (q1.2 a b ha hb).2.1) q3
  refine ⟨⟨⟨hg, ?_, pi, ?_⟩, ?_⟩, f2⟩
  · rw [e0]
    exact f1
  · rw [eC]
    exact q1.1
  · rw [e0, eC]
    refine ⟨f1, A + n.toInt, M, ?_, eM, by omega, hM⟩
    rw [ex, a, Int32.ofInt_add, Int32.ofInt_toInt]
/-- the board as send() lays it -/
theorem zy_T0 {I : z_I} {sh : Int} (hg : zy_gX I) (k1 : ∀ p, p < 4 → (I 54 p).toInt = zy_cX I sh p ∧ ∀ j, (I (50 + p) j).toInt = 0) (k2 : ∀ s, s < 10 → (I 55 s).toInt = (I 43 s).toInt) (k3 : I 41 11 = 0) (k4 : I 41 12 = 0) : zy_TX I sh ∧ zy_S (zy_RX I sh 0) 16 ≤ 800 := by
  have e0 : zy_RX I sh = zy_R (zy_cX I sh) (zy_wX I) (zy_mX I) (zy_cX I sh) (zy_wX I) (zy_sn I) := zy_R_c (fun p hp => ⟨rfl, (k1 p hp).1⟩) (fun s hs => ⟨rfl, k2 s hs⟩) (fun p s hp hs => ⟨rfl, rfl⟩)
  have e1 : ∀ a b, zy_RX I sh a b = zy_0X I sh a b := fun a b => by
    rw [e0]
    exact zy_R_e (fun p s hp hs => (k1 p hp).2 s) a b
  have e2 : zy_RX I sh = zy_0X I sh := funext fun a => funext fun b => e1 a b
  have q := zy_R0_b (m := zy_mX I) (zy_gX_c (sh := sh) hg) (fun s hs => hg.2.1 s hs)
  have q2 : ∀ a b, 0 ≤ zy_0X I sh a b ∧ zy_0X I sh a b ≤ 50 := q
  refine ⟨⟨⟨hg, ?_, fun _ => 0, fun a b ha hb hr => ?_⟩, ?_⟩, ?_⟩
  · rw [e2]
    exact ⟨fun a b _ _ => ⟨(q2 a b).1, rfl⟩, fun _ _ _ => rfl⟩
  · rw [e1] at hr
    show 0 ≤ zy_CX I a b + 0 - 0
    have hz : ∀ x y, 0 ≤ zy_fw (fun _ => 0) (fun _ => 0) (zy_mX I) x y := fun x y => by
      rcases zy_cs x y with ⟨p, hp, g1, g2⟩ | ⟨p, s, hp, hs, g1, g2⟩ | ⟨s, hs, g1, g2⟩ | g1
      · subst g1 g2
        rw [zy_fw_0 hp]
        exact Int.le_refl 0
      · subst g1 g2
        rw [zy_fw_1 hp hs]
        exact (hg.2.2 p s hp hs).1
      · subst g1 g2
        rw [zy_fw_2 hs]
        exact Int.le_refl 0
      · rw [g1]
        exact Int.le_refl 0
    by_cases e : a < b
    · have z := hz a b
      have z2 : zy_fw (fun _ => 0) (fun _ => 0) (zy_mX I) b a = 0 := zy_fw_z (by omega)
      have z3 : zy_CX I a b = zy_fw (fun _ => 0) (fun _ => 0) (zy_mX I) a b - zy_fw (fun _ => 0) (fun _ => 0) (zy_mX I) b a := rfl
      omega
    · have z : zy_0X I sh a b = 0 := zy_fw_z e
      omega
  · rw [e2, k3, k4]
    exact zy_FL_0 (fun a b _ _ => (q2 a b).1)
  · rw [e2]
    have s := zy_S_b (f := zy_0X I sh 0) (B := 50) 16 (fun v hv => by have := q2 0 v; omega)
    have e : (50 : Int) * ((16 : Nat) : Int) = 800 := by decide
    rw [e] at s
    exact s.2
theorem zy_TX_0 {I : z_I} {sh : Int} (h : zy_TX I sh) : 0 ≤ zy_S (zy_RX I sh 0) 16 := zy_S_p 16 (fun v hv => (zy_SX_R h.1 0 v (by decide) hv).2.1)
noncomputable def L_X4_shorten_y : z_L := [(56, 999), (57, 999), (58, 999), (59, 999)]
set_option maxHeartbeats 8000000 in
set_option maxRecDepth 100000 in
theorem sx_X4_shorten_y (l : Launch) (G : z_G) (ad : Nat → Nat) (c : z_C) (I : z_I) (sh : Int) (pi d : Nat → Int) (rk : Nat → Nat) (k : Nat) (hSX : zy_SX I sh) (hpt : z_pt (zy_RX I sh) (zy_CX I) pi) (hk : k ≤ 14) (hst : zy_st (zy_r2 (zy_RX I sh)) (zy_CX I) pi (zy_FX I) d rk k (zy_FX I) (zy_BX I) 0 (40 * (k : Int)) (40 * (k : Int)) (zy_dn 0 0)) : z_M l yX4_shorten wsX4_shorten { frames := 1, cells := 0, slots := 0, locals := 12 } [.ref (ad 41)] G (shC c, ad, I, JX, PC c ad) (fun r u1 => ∃ I1 : z_I, u1 = (shC c, ad, I1, JX, PC c ad) ∧ z_fr L_X4_shorten_y I1 I ∧ (zy_st (zy_r2 (zy_RX I sh)) (zy_CX I) pi (zy_FX I) d rk k (zy_FX I1) (zy_BX I1) r.toInt (40 * (k : Int) + 40) (40 * (k : Int) + 40) (zy_dn 4 0) ∧ (r = 1 ∨ r = 0))) 0 0 := by
  intro sz
  refine z_headQ (cc := cX4_shorten) (maxL := 5) (ret := (some .boolean)) (by decide) rfl (Nat.le_of_ble_eq_true rfl) ?_
  intro p e s m below meth c0 ls hIn hK hsz hW hl
  obtain ⟨hx, hb, hr, hml, hown, hts, hlocks, hname⟩ := hIn
  subst hsz
  have hown : s.vm.findClass RX4 = some m.cls := hown
  have hA : ∀ q : Nat, s.heap.size ≤ q → z_A (shC c, ad, I, JX, PC c ad) s.heap.size q := fun q h => Or.inr h
  generalize hAe : z_A (shC c, ad, I, JX, PC c ad) s.heap.size = A at *
  have hS : va_S A s.heap s.heap [] := va_S.rf
  have hl : lv_has ls 5 [(0, .ref (ad 41))] := hl
  refine lv_iconst (v := 0) hx hb dX4_shorten_0 (by decide) ?_
  refine lv_istore_n (lv' := [(1, .int 0), (0, .ref (ad 41))]) hx hb dX4_shorten_1 rfl hl (by decide) rfl (fun ls hl => ?_)
  refine lv_iconst (v := 0) hx hb dX4_shorten_2 (by decide) ?_
  refine lv_istore_n (lv' := [(2, .int 0), (1, .int 0), (0, .ref (ad 41))]) hx hb dX4_shorten_3 rfl hl (by decide) rfl (fun ls hl => ?_)
  have lp1 : ∀ (f : Nat) (y2 : Int32) (y3 : Int32) (I4 : z_I) (H : Heap) (locs : List Loc) (ls : Array Slot), (2147483647 < y2.toInt + (f : Int)) → (0 ≤ y2.toInt) → (y2.toInt ≤ 4) → (0 ≤ y3.toInt) → (y3.toInt ≤ 1) → (zy_st (zy_r2 (zy_RX I sh)) (zy_CX I) pi (zy_FX I) d rk k (zy_FX I4) (zy_BX I4) y3.toInt (40 * (k : Int) + 10 * y2.toInt) (40 * (k : Int) + 10 * y2.toInt) (zy_dn y2.toNatClampNeg 0)) → (z_fr L_X4_shorten_y I4 I) → z_W G A (shC c, ad, I4, JX, PC c ad) H → va_S A s.heap H locs → lv_has ls 5 [(2, .int y2), (1, .int y3), (0, .ref (ad 41))] → W p l e (headSpec wsX4_shorten { frames := 1, cells := 0, slots := 0, locals := 12 }).room s m ([.ref (ad 41)] : List Value).toArray below meth c0 H locs 0 0 (MQ below (va_Qi (fun (r : Int32) (u1 : z_U) => ∃ I1 : z_I, u1 = (shC c, ad, I1, JX, PC c ad) ∧ z_fr L_X4_shorten_y I1 I ∧ (zy_st (zy_r2 (zy_RX I sh)) (zy_CX I) pi (zy_FX I) d rk k (zy_FX I1) (zy_BX I1) r.toInt (40 * (k : Int) + 40) (40 * (k : Int) + 40) (zy_dn 4 0) ∧ (r = 1 ∨ r = 0))) (z_B G A) A) ([.ref (ad 41)] : List Value).toArray s 0 0 A) (F0 m 4 ls []) := by
    intro f
    induction f with
    | zero => intro y2 y3 I4  H locs ls lp1m lp1l2 lp1u2 lp1l1 lp1u1 lp1H lp1fr hW hS hl; exact absurd lp1m (by have := Int32.toInt_lt y2; have := Int32.le_toInt y2; omega)
    | succ f lp1ih =>
      intro y2 y3 I4  H locs ls lp1m lp1l2 lp1u2 lp1l1 lp1u1 lp1H lp1fr hW hS hl
      refine lv_iload_n hx hb dX4_shorten_4 rfl (lv_at hl 0 rfl) ?_
      refine lv_iconst (v := 4) hx hb dX4_shorten_5 (by decide) ?_
      refine lv_icmp_ge (tgt := 161) hx hb dX4_shorten_6 (by decide) (fun c5 => ?_) (fun c5 => ?_)
      · have g6 := z_f_ge rfl z_l4 c5
        refine lv_iload_n hx hb dX4_shorten_161 rfl (lv_at hl 1 rfl) ?_
        exact z_zret hx hb hr (z_nar (z_01 rfl (by omega) (by omega))) hK hS (Nat.le_of_ble_eq_true rfl) (Nat.le_of_ble_eq_true rfl) hlocks dX4_shorten_162 (shC c, ad, I4, JX, PC c ad) hW ⟨I4, rfl, lp1fr, ⟨zy_st_d lp1H (fun u v q => by have q8 := z_clt (x := y2) rfl (by omega); rw [show y2.toNatClampNeg = 4 by omega]; exact q) (by omega) (by omega), z_01 rfl (by omega) (by omega)⟩⟩
      · have g7 := z_f_nge rfl z_l4 c5
        refine lv_iconst (v := 0) hx hb dX4_shorten_9 (by decide) ?_
        refine lv_istore_n (lv' := [(3, .int 0), (2, .int y2), (1, .int y3), (0, .ref (ad 41))]) hx hb dX4_shorten_10 rfl hl (by decide) rfl (fun ls hl => ?_)
        have lp8 : ∀ (f : Nat) (y9 : Int32) (y10 : Int32) (I11 : z_I) (H : Heap) (locs : List Loc) (ls : Array Slot), (2147483647 < y9.toInt + (f : Int)) → (0 ≤ y9.toInt) → (y9.toInt ≤ 10) → (0 ≤ y10.toInt) → (y10.toInt ≤ 1) → (zy_st (zy_r2 (zy_RX I sh)) (zy_CX I) pi (zy_FX I) d rk k (zy_FX I11) (zy_BX I11) y10.toInt (40 * (k : Int) + 10 * y2.toInt + y9.toInt) (40 * (k : Int) + 10 * y2.toInt + y9.toInt) (zy_dn y2.toNatClampNeg y9.toNatClampNeg)) → (z_fr L_X4_shorten_y I11 I) → z_W G A (shC c, ad, I11, JX, PC c ad) H → va_S A s.heap H locs → lv_has ls 5 [(3, .int y9), (2, .int y2), (1, .int y10), (0, .ref (ad 41))] → W p l e (headSpec wsX4_shorten { frames := 1, cells := 0, slots := 0, locals := 12 }).room s m ([.ref (ad 41)] : List Value).toArray below meth c0 H locs 0 0 (MQ below (va_Qi (fun (r : Int32) (u1 : z_U) => ∃ I1 : z_I, u1 = (shC c, ad, I1, JX, PC c ad) ∧ z_fr L_X4_shorten_y I1 I ∧ (zy_st (zy_r2 (zy_RX I sh)) (zy_CX I) pi (zy_FX I) d rk k (zy_FX I1) (zy_BX I1) r.toInt (40 * (k : Int) + 40) (40 * (k : Int) + 40) (zy_dn 4 0) ∧ (r = 1 ∨ r = 0))) (z_B G A) A) ([.ref (ad 41)] : List Value).toArray s 0 0 A) (F0 m 11 ls []) := by
          intro f
          induction f with
          | zero => intro y9 y10 I11  H locs ls lp8m lp8l3 lp8u3 lp8l1 lp8u1 lp8H lp8fr hW hS hl; exact absurd lp8m (by have := Int32.toInt_lt y9; have := Int32.le_toInt y9; omega)
          | succ f lp8ih =>
            intro y9 y10 I11  H locs ls lp8m lp8l3 lp8u3 lp8l1 lp8u1 lp8H lp8fr hW hS hl
            refine lv_iload_n hx hb dX4_shorten_11 rfl (lv_at hl 0 rfl) ?_
            refine lv_bipush (v := 10) hx hb dX4_shorten_12 (by decide) ?_
            refine lv_icmp_ge (tgt := 155) hx hb dX4_shorten_14 (by decide) (fun c12 => ?_) (fun c12 => ?_)
            · have g13 := z_f_ge rfl z_l10 c12
              obtain ⟨x14, ex14⟩ : ∃ y : Int32, y = y2 + 1 := ⟨_, rfl⟩
              have tx14 : x14.toInt = y2.toInt + 1 := z_tadd ex14 rfl z_l1 (by omega) (by omega)
              refine lv_iinc (v := x14) (lv' := [(2, .int x14), (3, .int y9), (1, .int y10), (0, .ref (ad 41))]) hx hb dX4_shorten_155 hl (k := 1) rfl (by rw [ex14]; rfl) (by decide) rfl (fun ls hl => ?_)
              refine lv_goto (tgt := 4) hx hb dX4_shorten_158 (by decide) ?_
              exact lp1ih x14 y10 I11  _ _ _ (by omega) (by omega) (by omega) (by omega) (by omega) (zy_st_d lp8H (fun u v q => by have q8 := z_clt (x := y9) rfl (by omega); rw [z_ss (x := y2) (y := x14) (by omega) (by omega)] at q; rw [show y9.toNatClampNeg = 10 by omega]; unfold zy_dn at q ⊢; omega) (by omega) (by omega)) lp8fr hW hS (lv_sub hl [0, 2, 3] rfl)
            · have g15 := z_f_nge rfl z_l10 c12
              have hpl : y2.toNatClampNeg < 4 := by have q9 := z_clt (x := y2) rfl (by omega); omega
              have hsl : y9.toNatClampNeg < 10 := by have q9 := z_clt (x := y9) rfl (by omega); omega
              refine lv_aload_n hx hb dX4_shorten_17 rfl (lv_at hl 3 rfl) ?_
              refine z_get (T := TX4) (N := 13) (ci := 4) (i := 41) (v := .ref (ad 44)) hx hb hts zj_X4_shorten_X4 hown hK hW rfl rfl 2 (by decide) (hts (.fieldLink RX4 20 "PetrolBoard$Loads" "miles" "[[I") (me_s (me_l (List.mem_of_getElem? (i := 0) rfl)))) (fun _ h => h) rfl dX4_shorten_18 ?_
              refine lv_iload_n hx hb dX4_shorten_21 rfl (lv_at hl 1 rfl) ?_
              obtain ⟨k16, ek16, hk16⟩ : ∃ k : Nat, y2.toNatClampNeg = k ∧ k < 4 := ⟨_, rfl, z_clN rfl (by omega) (by omega)⟩
              refine z_aald (i := 44) (v := .ref (ad (45 + k16))) hx hb hK hW rfl (by simp [z_tys]) rfl (z_ix rfl (by omega) (by omega)) (z_p44 ek16 hk16) dX4_shorten_22 ?_
              refine lv_iload_n hx hb dX4_shorten_23 rfl (lv_at hl 0 rfl) ?_
              refine z_iald (i := (45 + k16)) hx hb hK hW (z_s45 hk16) (z_ix rfl (by omega) (by omega)) dX4_shorten_24 ?_
              refine lv_topi (fun x17 ex17 => ?_)
              have hm18 : x17.toInt = (I (45 + y2.toNatClampNeg) y9.toNatClampNeg).toInt := by rw [ex17, lp8fr (45 + k16) _ (zy_wr (lo := 42) (hi := 54) (by omega) (by omega) (by decide) (by decide)), ← ek16]
              have hr19 : 0 ≤ x17.toInt ∧ x17.toInt ≤ 999 := by rw [hm18]; exact hSX.1.2.2 _ _ hpl hsl
              refine lv_istore (lv' := [(4, .int x17), (3, .int y9), (2, .int y2), (1, .int y10), (0, .ref (ad 41))]) hx hb dX4_shorten_25 hl (by decide) rfl (fun ls hl => ?_)
              refine lv_iload hx hb dX4_shorten_27 (lv_at hl 0 rfl) ?_
              refine lv_if_le (tgt := 85) hx hb dX4_shorten_29 (by decide) (fun c20 => ?_) (fun c20 => ?_)
              · have g21 := z_f_le rfl z_l0 c20
                have hC22 : zy_CX I (1 + y2.toNatClampNeg) (5 + y9.toNatClampNeg) = x17.toInt := by rw [zy_CX_1 hpl hsl, hm18]
                have hH23 := zy_st_n (tl' := (40 * (k : Int) + 10 * y2.toInt + y9.toInt)) (tu' := (40 * (k : Int) + 10 * y2.toInt + y9.toInt) + 1) (dn' := (fun u v => zy_dn y2.toNatClampNeg y9.toNatClampNeg u v ∨ (u = (1 + y2.toNatClampNeg) ∧ v = (5 + y9.toNatClampNeg)))) lp8H (a := (1 + y2.toNatClampNeg)) (z := (5 + y9.toNatClampNeg)) (by omega) (by omega) (fun hf hr => by have q9 := zy_r2_1 hSX hpl hsl hr; omega) (fun u v q => q) (by omega) (by omega)
                refine lv_aload_n hx hb dX4_shorten_85 rfl (lv_at hl 4 rfl) ?_
                refine z_get (T := TX4) (N := 13) (ci := 4) (i := 41) (v := .ref (ad 49)) hx hb hts zj_X4_shorten_X4 hown hK hW rfl rfl 3 (by decide) (hts (.fieldLink RX4 23 "PetrolBoard$Loads" "sent" "[[I") (me_s (me_l (List.mem_of_getElem? (i := 5) rfl)))) (fun _ h => h) rfl dX4_shorten_86 ?_
                refine lv_iload_n hx hb dX4_shorten_89 rfl (lv_at hl 2 rfl) ?_
                obtain ⟨k24, ek24, hk24⟩ : ∃ k : Nat, y2.toNatClampNeg = k ∧ k < 4 := ⟨_, rfl, z_clN rfl (by omega) (by omega)⟩
                refine z_aald (i := 49) (v := .ref (ad (50 + k24))) hx hb hK hW rfl (by simp [z_tys]) rfl (z_ix rfl (by omega) (by omega)) (z_p49 ek24 hk24) dX4_shorten_90 ?_
                refine lv_iload_n hx hb dX4_shorten_91 rfl (lv_at hl 1 rfl) ?_
                refine z_iald (i := (50 + k24)) hx hb hK hW (z_s50 hk24) (z_ix rfl (by omega) (by omega)) dX4_shorten_92 ?_
                refine lv_topi (fun x25 ex25 => ?_)
                have hm26 : x25.toInt = (I (50 + y2.toNatClampNeg) y9.toNatClampNeg).toInt := by rw [ex25, lp8fr (50 + k24) _ (zy_wr (lo := 42) (hi := 54) (by omega) (by omega) (by decide) (by decide)), ← ek24]
                have hr27 : 0 ≤ x25.toInt ∧ x25.toInt ≤ 20 := by rw [hm26]; have q9 := zy_SX_20 hSX hpl hsl; omega
                refine lv_if_le (tgt := 149) hx hb dX4_shorten_93 (by decide) (fun c28 => ?_) (fun c28 => ?_)
                · have g29 := z_f_le rfl z_l0 c28
                  have hC30 : zy_CX I (5 + y9.toNatClampNeg) (1 + y2.toNatClampNeg) = -x17.toInt := by rw [zy_CX_3 hpl hsl, hm18]
                  have hH31 := zy_st_n (tl' := (40 * (k : Int) + 10 * y2.toInt + y9.toInt) + 1) (tu' := (40 * (k : Int) + 10 * y2.toInt + y9.toInt) + 1) (dn' := (zy_dn y2.toNatClampNeg (y9.toNatClampNeg + 1))) hH23 (a := (5 + y9.toNatClampNeg)) (z := (1 + y2.toNatClampNeg)) (by omega) (by omega) (fun hf hr => by rw [zy_r2_3 hpl hsl] at hr; omega) (fun u v q => by show (zy_dn y2.toNatClampNeg y9.toNatClampNeg u v ∨ (u = (1 + y2.toNatClampNeg) ∧ v = (5 + y9.toNatClampNeg))) ∨ (u = (5 + y9.toNatClampNeg) ∧ v = (1 + y2.toNatClampNeg)); unfold zy_dn at q ⊢; omega) (by omega) (by omega)
                  obtain ⟨x32, ex32⟩ : ∃ y : Int32, y = y9 + 1 := ⟨_, rfl⟩
                  have tx32 : x32.toInt = y9.toInt + 1 := z_tadd ex32 rfl z_l1 (by omega) (by omega)
                  refine lv_iinc (v := x32) (lv' := [(3, .int x32), (4, .int x17), (2, .int y2), (1, .int y10), (0, .ref (ad 41))]) hx hb dX4_shorten_149 hl (k := 1) rfl (by rw [ex32]; rfl) (by decide) rfl (fun ls hl => ?_)
                  refine lv_goto (tgt := 11) hx hb dX4_shorten_152 (by decide) ?_
                  exact lp8ih x32 y10 I11  _ _ _ (by omega) (by omega) (by omega) (by omega) (by omega) (zy_st_d hH31 (fun u v q => by rw [z_ss (x := y9) (y := x32) (by omega) (by omega)] at q; exact q) (by omega) (by omega)) lp8fr hW hS (lv_sub hl [0, 2, 3, 4] rfl)
                · have g33 := z_f_nle rfl z_l0 c28
                  refine lv_aload_n hx hb dX4_shorten_96 rfl (lv_at hl 4 rfl) ?_
                  refine z_get (T := TX4) (N := 13) (ci := 4) (i := 41) (v := .ref (ad 57)) hx hb hts zj_X4_shorten_X4 hown hK hW rfl rfl 7 (by decide) (hts (.fieldLink RX4 35 "PetrolBoard$Loads" "toStation" "[I") (me_s (me_l (List.mem_of_getElem? (i := 3) rfl)))) (fun _ h => h) rfl dX4_shorten_97 ?_
                  refine lv_iload_n hx hb dX4_shorten_100 rfl (lv_at hl 1 rfl) ?_
                  refine z_iald (i := 57) hx hb hK hW rfl (z_ix rfl (by omega) (by omega)) dX4_shorten_101 ?_
                  refine lv_topi (fun x34 ex34 => ?_)
                  have hf35 : zy_FX I11 (5 + y9.toNatClampNeg) = x34.toInt := by rw [zy_FX_s hsl, ex34]
                  have hr36 : -600000 ≤ x34.toInt ∧ x34.toInt ≤ 1000000 := by rw [← hf35]; exact zy_st_b hH23 (by omega) (by omega)
                  refine lv_ldc (v := 1000000) hx hb hown (hts (.constant RX4 72 (1000000)) (me_s (me_l (List.mem_of_getElem? (i := 2) rfl)))) dX4_shorten_102 ?_
                  refine lv_icmp_ge (tgt := 149) hx hb dX4_shorten_104 (by decide) (fun c37 => ?_) (fun c37 => ?_)
                  · have g38 := z_f_ge rfl z_l1000000 c37
                    have hC39 : zy_CX I (5 + y9.toNatClampNeg) (1 + y2.toNatClampNeg) = -x17.toInt := by rw [zy_CX_3 hpl hsl, hm18]
                    have hH40 := zy_st_n (tl' := (40 * (k : Int) + 10 * y2.toInt + y9.toInt) + 1) (tu' := (40 * (k : Int) + 10 * y2.toInt + y9.toInt) + 1) (dn' := (zy_dn y2.toNatClampNeg (y9.toNatClampNeg + 1))) hH23 (a := (5 + y9.toNatClampNeg)) (z := (1 + y2.toNatClampNeg)) (by omega) (by omega) (fun hf hr => by rw [zy_r2_3 hpl hsl] at hr; omega) (fun u v q => by show (zy_dn y2.toNatClampNeg y9.toNatClampNeg u v ∨ (u = (1 + y2.toNatClampNeg) ∧ v = (5 + y9.toNatClampNeg))) ∨ (u = (5 + y9.toNatClampNeg) ∧ v = (1 + y2.toNatClampNeg)); unfold zy_dn at q ⊢; omega) (by omega) (by omega)
                    obtain ⟨x41, ex41⟩ : ∃ y : Int32, y = y9 + 1 := ⟨_, rfl⟩
                    have tx41 : x41.toInt = y9.toInt + 1 := z_tadd ex41 rfl z_l1 (by omega) (by omega)
                    refine lv_iinc (v := x41) (lv' := [(3, .int x41), (4, .int x17), (2, .int y2), (1, .int y10), (0, .ref (ad 41))]) hx hb dX4_shorten_149 hl (k := 1) rfl (by rw [ex41]; rfl) (by decide) rfl (fun ls hl => ?_)
                    refine lv_goto (tgt := 11) hx hb dX4_shorten_152 (by decide) ?_
                    exact lp8ih x41 y10 I11  _ _ _ (by omega) (by omega) (by omega) (by omega) (by omega) (zy_st_d hH40 (fun u v q => by rw [z_ss (x := y9) (y := x41) (by omega) (by omega)] at q; exact q) (by omega) (by omega)) lp8fr hW hS (lv_sub hl [0, 2, 3, 4] rfl)
                  · have g42 := z_f_nge rfl z_l1000000 c37
                    refine lv_aload_n hx hb dX4_shorten_107 rfl (lv_at hl 4 rfl) ?_
                    refine z_get (T := TX4) (N := 13) (ci := 4) (i := 41) (v := .ref (ad 57)) hx hb hts zj_X4_shorten_X4 hown hK hW rfl rfl 7 (by decide) (hts (.fieldLink RX4 35 "PetrolBoard$Loads" "toStation" "[I") (me_s (me_l (List.mem_of_getElem? (i := 3) rfl)))) (fun _ h => h) rfl dX4_shorten_108 ?_
                    refine lv_iload_n hx hb dX4_shorten_111 rfl (lv_at hl 1 rfl) ?_
                    refine z_iald (i := 57) hx hb hK hW rfl (z_ix rfl (by omega) (by omega)) dX4_shorten_112 ?_
                    refine z_topi (v := x34) ex34.symm ?_
                    refine lv_iload hx hb dX4_shorten_113 (lv_at hl 0 rfl) ?_
                    refine lv_isub hx hb dX4_shorten_115 ?_
                    refine lv_topi (fun x43 ex43 => ?_)
                    have tx43 : x43.toInt = x34.toInt - x17.toInt := z_tsub ex43 rfl rfl (by omega) (by omega)
                    refine lv_aload_n hx hb dX4_shorten_116 rfl (lv_at hl 4 rfl) ?_
                    refine z_get (T := TX4) (N := 13) (ci := 4) (i := 41) (v := .ref (ad 56)) hx hb hts zj_X4_shorten_X4 hown hK hW rfl rfl 6 (by decide) (hts (.fieldLink RX4 32 "PetrolBoard$Loads" "toPort" "[I") (me_s (me_l (List.mem_of_getElem? (i := 1) rfl)))) (fun _ h => h) rfl dX4_shorten_117 ?_
                    refine lv_iload_n hx hb dX4_shorten_120 rfl (lv_at hl 2 rfl) ?_
                    refine z_iald (i := 56) hx hb hK hW rfl (z_ix rfl (by omega) (by omega)) dX4_shorten_121 ?_
                    refine lv_topi (fun x44 ex44 => ?_)
                    have hf45 : zy_FX I11 (1 + y2.toNatClampNeg) = x44.toInt := by rw [zy_FX_p hpl, ex44]
                    have hr46 : -600000 ≤ x44.toInt ∧ x44.toInt ≤ 1000000 := by rw [← hf45]; exact zy_st_b hH23 (by omega) (by omega)
                    refine lv_icmp_ge (tgt := 149) hx hb dX4_shorten_122 (by decide) (fun c47 => ?_) (fun c47 => ?_)
                    · have g48 := z_f_ge rfl rfl c47
                      have hC49 : zy_CX I (5 + y9.toNatClampNeg) (1 + y2.toNatClampNeg) = -x17.toInt := by rw [zy_CX_3 hpl hsl, hm18]
                      have hH50 := zy_st_n (tl' := (40 * (k : Int) + 10 * y2.toInt + y9.toInt) + 1) (tu' := (40 * (k : Int) + 10 * y2.toInt + y9.toInt) + 1) (dn' := (zy_dn y2.toNatClampNeg (y9.toNatClampNeg + 1))) hH23 (a := (5 + y9.toNatClampNeg)) (z := (1 + y2.toNatClampNeg)) (by omega) (by omega) (fun hf hr => by rw [zy_r2_3 hpl hsl] at hr; omega) (fun u v q => by show (zy_dn y2.toNatClampNeg y9.toNatClampNeg u v ∨ (u = (1 + y2.toNatClampNeg) ∧ v = (5 + y9.toNatClampNeg))) ∨ (u = (5 + y9.toNatClampNeg) ∧ v = (1 + y2.toNatClampNeg)); unfold zy_dn at q ⊢; omega) (by omega) (by omega)
                      obtain ⟨x51, ex51⟩ : ∃ y : Int32, y = y9 + 1 := ⟨_, rfl⟩
                      have tx51 : x51.toInt = y9.toInt + 1 := z_tadd ex51 rfl z_l1 (by omega) (by omega)
                      refine lv_iinc (v := x51) (lv' := [(3, .int x51), (4, .int x17), (2, .int y2), (1, .int y10), (0, .ref (ad 41))]) hx hb dX4_shorten_149 hl (k := 1) rfl (by rw [ex51]; rfl) (by decide) rfl (fun ls hl => ?_)
                      refine lv_goto (tgt := 11) hx hb dX4_shorten_152 (by decide) ?_
                      exact lp8ih x51 y10 I11  _ _ _ (by omega) (by omega) (by omega) (by omega) (by omega) (zy_st_d hH50 (fun u v q => by rw [z_ss (x := y9) (y := x51) (by omega) (by omega)] at q; exact q) (by omega) (by omega)) lp8fr hW hS (lv_sub hl [0, 2, 3, 4] rfl)
                    · have g52 := z_f_nge rfl rfl c47
                      refine lv_aload_n hx hb dX4_shorten_125 rfl (lv_at hl 4 rfl) ?_
                      refine z_get (T := TX4) (N := 13) (ci := 4) (i := 41) (v := .ref (ad 56)) hx hb hts zj_X4_shorten_X4 hown hK hW rfl rfl 6 (by decide) (hts (.fieldLink RX4 32 "PetrolBoard$Loads" "toPort" "[I") (me_s (me_l (List.mem_of_getElem? (i := 1) rfl)))) (fun _ h => h) rfl dX4_shorten_126 ?_
                      refine lv_iload_n hx hb dX4_shorten_129 rfl (lv_at hl 2 rfl) ?_
                      refine lv_aload_n hx hb dX4_shorten_130 rfl (lv_at hl 4 rfl) ?_
                      refine z_get (T := TX4) (N := 13) (ci := 4) (i := 41) (v := .ref (ad 57)) hx hb hts zj_X4_shorten_X4 hown hK hW rfl rfl 7 (by decide) (hts (.fieldLink RX4 35 "PetrolBoard$Loads" "toStation" "[I") (me_s (me_l (List.mem_of_getElem? (i := 3) rfl)))) (fun _ h => h) rfl dX4_shorten_131 ?_
                      refine lv_iload_n hx hb dX4_shorten_134 rfl (lv_at hl 1 rfl) ?_
                      refine z_iald (i := 57) hx hb hK hW rfl (z_ix rfl (by omega) (by omega)) dX4_shorten_135 ?_
                      refine z_topi (v := x34) ex34.symm ?_
                      refine lv_iload hx hb dX4_shorten_136 (lv_at hl 0 rfl) ?_
                      refine lv_isub hx hb dX4_shorten_138 ?_
                      refine lv_topi (fun x53 ex53 => ?_)
                      have tx53 : x53.toInt = x34.toInt - x17.toInt := z_tsub ex53 rfl rfl (by omega) (by omega)
                      refine z_iast (i := 56) hx hb hK hW hS rfl (z_ix rfl (by omega) (by omega)) dX4_shorten_139 (fun H locs hz1 hW hS => ?_)
                      obtain ⟨I54, eI54⟩ : ∃ K : z_I, K = z_up I11 56 y2.toNatClampNeg x53 := ⟨_, rfl⟩
                      rw [← eI54] at hW
                      have f55 := z_fr_a lp8fr (show z_wa L_X4_shorten_y 56 = true by decide) eI54
                      refine lv_aload_n hx hb dX4_shorten_140 rfl (lv_at hl 4 rfl) ?_
                      refine z_get (T := TX4) (N := 13) (ci := 4) (i := 41) (v := .ref (ad 59)) hx hb hts zj_X4_shorten_X4 hown hK hW rfl rfl 9 (by decide) (hts (.fieldLink RX4 41 "PetrolBoard$Loads" "byStation" "[I") (me_s (me_l (List.mem_of_getElem? (i := 6) rfl)))) (fun _ h => h) rfl dX4_shorten_141 ?_
                      refine lv_iload_n hx hb dX4_shorten_144 rfl (lv_at hl 2 rfl) ?_
                      refine lv_iload_n hx hb dX4_shorten_145 rfl (lv_at hl 1 rfl) ?_
                      refine z_iast (i := 59) hx hb hK hW hS rfl (z_ix rfl (by omega) (by omega)) dX4_shorten_146 (fun H locs hz1 hW hS => ?_)
                      obtain ⟨I56, eI56⟩ : ∃ K : z_I, K = z_up I54 59 y2.toNatClampNeg y9 := ⟨_, rfl⟩
                      rw [← eI56] at hW
                      have f57 := z_fr_a f55 (show z_wa L_X4_shorten_y 59 = true by decide) eI56
                      refine lv_iconst (v := 1) hx hb dX4_shorten_147 (by decide) ?_
                      refine lv_istore_n (lv' := [(1, .int 1), (4, .int x17), (3, .int y9), (2, .int y2), (0, .ref (ad 41))]) hx hb dX4_shorten_148 rfl hl (by decide) rfl (fun ls hl => ?_)
                      have hC58 : zy_CX I (5 + y9.toNatClampNeg) (1 + y2.toNatClampNeg) = -x17.toInt := by rw [zy_CX_3 hpl hsl, hm18]
                      have hu60 := zy_upP eI54 eI56 rfl rfl hpl (by omega)
                      have hH59 := zy_st_w (x' := (1 : Int32).toInt) (tl' := (40 * (k : Int) + 10 * y2.toInt + y9.toInt) + 1) (tu' := (40 * (k : Int) + 10 * y2.toInt + y9.toInt) + 1) (dn' := (zy_dn y2.toNatClampNeg (y9.toNatClampNeg + 1))) (zy_r2_p hpt) hH23 (a := (5 + y9.toNatClampNeg)) (z := (1 + y2.toNatClampNeg)) (by omega) (by omega) (by omega) (by rw [zy_r2_3 hpl hsl, ← hm26]; omega) (by omega) (hu60.1.trans (by omega)) hu60.2.1 hu60.2.2.1 hu60.2.2.2 (by decide) (fun u v q => by show (zy_dn y2.toNatClampNeg y9.toNatClampNeg u v ∨ (u = (1 + y2.toNatClampNeg) ∧ v = (5 + y9.toNatClampNeg))) ∨ (u = (5 + y9.toNatClampNeg) ∧ v = (1 + y2.toNatClampNeg)); unfold zy_dn at q ⊢; omega) ⟨by omega, by omega⟩ ⟨by omega, by omega⟩
                      obtain ⟨x61, ex61⟩ : ∃ y : Int32, y = y9 + 1 := ⟨_, rfl⟩
                      have tx61 : x61.toInt = y9.toInt + 1 := z_tadd ex61 rfl z_l1 (by omega) (by omega)
                      refine lv_iinc (v := x61) (lv' := [(3, .int x61), (1, .int 1), (4, .int x17), (2, .int y2), (0, .ref (ad 41))]) hx hb dX4_shorten_149 hl (k := 2) rfl (by rw [ex61]; rfl) (by decide) rfl (fun ls hl => ?_)
                      refine lv_goto (tgt := 11) hx hb dX4_shorten_152 (by decide) ?_
                      exact lp8ih x61 (1) I56  _ _ _ (by omega) (by omega) (by omega) (by rw [z_l1]; omega) (by rw [z_l1]; omega) (zy_st_d hH59 (fun u v q => by rw [z_ss (x := y9) (y := x61) (by omega) (by omega)] at q; exact q) (by omega) (by omega)) f57 hW hS (lv_sub hl [0, 3, 1, 4] rfl)
              · have g62 := z_f_nle rfl z_l0 c20
                refine lv_aload_n hx hb dX4_shorten_32 rfl (lv_at hl 4 rfl) ?_
                refine z_get (T := TX4) (N := 13) (ci := 4) (i := 41) (v := .ref (ad 56)) hx hb hts zj_X4_shorten_X4 hown hK hW rfl rfl 6 (by decide) (hts (.fieldLink RX4 32 "PetrolBoard$Loads" "toPort" "[I") (me_s (me_l (List.mem_of_getElem? (i := 1) rfl)))) (fun _ h => h) rfl dX4_shorten_33 ?_
                refine lv_iload_n hx hb dX4_shorten_36 rfl (lv_at hl 2 rfl) ?_
                refine z_iald (i := 56) hx hb hK hW rfl (z_ix rfl (by omega) (by omega)) dX4_shorten_37 ?_
                refine lv_topi (fun x63 ex63 => ?_)
                have hf64 : zy_FX I11 (1 + y2.toNatClampNeg) = x63.toInt := by rw [zy_FX_p hpl, ex63]
                have hr65 : -600000 ≤ x63.toInt ∧ x63.toInt ≤ 1000000 := by rw [← hf64]; exact zy_st_b lp8H (by omega) (by omega)
                refine lv_ldc (v := 1000000) hx hb hown (hts (.constant RX4 72 (1000000)) (me_s (me_l (List.mem_of_getElem? (i := 2) rfl)))) dX4_shorten_38 ?_
                refine lv_icmp_ge (tgt := 85) hx hb dX4_shorten_40 (by decide) (fun c66 => ?_) (fun c66 => ?_)
                · have g67 := z_f_ge rfl z_l1000000 c66
                  have hC68 : zy_CX I (1 + y2.toNatClampNeg) (5 + y9.toNatClampNeg) = x17.toInt := by rw [zy_CX_1 hpl hsl, hm18]
                  have hH69 := zy_st_n (tl' := (40 * (k : Int) + 10 * y2.toInt + y9.toInt)) (tu' := (40 * (k : Int) + 10 * y2.toInt + y9.toInt) + 1) (dn' := (fun u v => zy_dn y2.toNatClampNeg y9.toNatClampNeg u v ∨ (u = (1 + y2.toNatClampNeg) ∧ v = (5 + y9.toNatClampNeg)))) lp8H (a := (1 + y2.toNatClampNeg)) (z := (5 + y9.toNatClampNeg)) (by omega) (by omega) (fun hf hr => by have q9 := zy_r2_1 hSX hpl hsl hr; omega) (fun u v q => q) (by omega) (by omega)
                  refine lv_aload_n hx hb dX4_shorten_85 rfl (lv_at hl 4 rfl) ?_
                  refine z_get (T := TX4) (N := 13) (ci := 4) (i := 41) (v := .ref (ad 49)) hx hb hts zj_X4_shorten_X4 hown hK hW rfl rfl 3 (by decide) (hts (.fieldLink RX4 23 "PetrolBoard$Loads" "sent" "[[I") (me_s (me_l (List.mem_of_getElem? (i := 5) rfl)))) (fun _ h => h) rfl dX4_shorten_86 ?_
                  refine lv_iload_n hx hb dX4_shorten_89 rfl (lv_at hl 2 rfl) ?_
                  obtain ⟨k70, ek70, hk70⟩ : ∃ k : Nat, y2.toNatClampNeg = k ∧ k < 4 := ⟨_, rfl, z_clN rfl (by omega) (by omega)⟩
                  refine z_aald (i := 49) (v := .ref (ad (50 + k70))) hx hb hK hW rfl (by simp [z_tys]) rfl (z_ix rfl (by omega) (by omega)) (z_p49 ek70 hk70) dX4_shorten_90 ?_
                  refine lv_iload_n hx hb dX4_shorten_91 rfl (lv_at hl 1 rfl) ?_
                  refine z_iald (i := (50 + k70)) hx hb hK hW (z_s50 hk70) (z_ix rfl (by omega) (by omega)) dX4_shorten_92 ?_
                  refine lv_topi (fun x71 ex71 => ?_)
                  have hm72 : x71.toInt = (I (50 + y2.toNatClampNeg) y9.toNatClampNeg).toInt := by rw [ex71, lp8fr (50 + k70) _ (zy_wr (lo := 42) (hi := 54) (by omega) (by omega) (by decide) (by decide)), ← ek70]
                  have hr73 : 0 ≤ x71.toInt ∧ x71.toInt ≤ 20 := by rw [hm72]; have q9 := zy_SX_20 hSX hpl hsl; omega
                  refine lv_if_le (tgt := 149) hx hb dX4_shorten_93 (by decide) (fun c74 => ?_) (fun c74 => ?_)
                  · have g75 := z_f_le rfl z_l0 c74
                    have hC76 : zy_CX I (5 + y9.toNatClampNeg) (1 + y2.toNatClampNeg) = -x17.toInt := by rw [zy_CX_3 hpl hsl, hm18]
                    have hH77 := zy_st_n (tl' := (40 * (k : Int) + 10 * y2.toInt + y9.toInt) + 1) (tu' := (40 * (k : Int) + 10 * y2.toInt + y9.toInt) + 1) (dn' := (zy_dn y2.toNatClampNeg (y9.toNatClampNeg + 1))) hH69 (a := (5 + y9.toNatClampNeg)) (z := (1 + y2.toNatClampNeg)) (by omega) (by omega) (fun hf hr => by rw [zy_r2_3 hpl hsl] at hr; omega) (fun u v q => by show (zy_dn y2.toNatClampNeg y9.toNatClampNeg u v ∨ (u = (1 + y2.toNatClampNeg) ∧ v = (5 + y9.toNatClampNeg))) ∨ (u = (5 + y9.toNatClampNeg) ∧ v = (1 + y2.toNatClampNeg)); unfold zy_dn at q ⊢; omega) (by omega) (by omega)
                    obtain ⟨x78, ex78⟩ : ∃ y : Int32, y = y9 + 1 := ⟨_, rfl⟩
                    have tx78 : x78.toInt = y9.toInt + 1 := z_tadd ex78 rfl z_l1 (by omega) (by omega)
                    refine lv_iinc (v := x78) (lv' := [(3, .int x78), (4, .int x17), (2, .int y2), (1, .int y10), (0, .ref (ad 41))]) hx hb dX4_shorten_149 hl (k := 1) rfl (by rw [ex78]; rfl) (by decide) rfl (fun ls hl => ?_)
                    refine lv_goto (tgt := 11) hx hb dX4_shorten_152 (by decide) ?_
                    exact lp8ih x78 y10 I11  _ _ _ (by omega) (by omega) (by omega) (by omega) (by omega) (zy_st_d hH77 (fun u v q => by rw [z_ss (x := y9) (y := x78) (by omega) (by omega)] at q; exact q) (by omega) (by omega)) lp8fr hW hS (lv_sub hl [0, 2, 3, 4] rfl)
                  · have g79 := z_f_nle rfl z_l0 c74
                    refine lv_aload_n hx hb dX4_shorten_96 rfl (lv_at hl 4 rfl) ?_
                    refine z_get (T := TX4) (N := 13) (ci := 4) (i := 41) (v := .ref (ad 57)) hx hb hts zj_X4_shorten_X4 hown hK hW rfl rfl 7 (by decide) (hts (.fieldLink RX4 35 "PetrolBoard$Loads" "toStation" "[I") (me_s (me_l (List.mem_of_getElem? (i := 3) rfl)))) (fun _ h => h) rfl dX4_shorten_97 ?_
                    refine lv_iload_n hx hb dX4_shorten_100 rfl (lv_at hl 1 rfl) ?_
                    refine z_iald (i := 57) hx hb hK hW rfl (z_ix rfl (by omega) (by omega)) dX4_shorten_101 ?_
                    refine lv_topi (fun x80 ex80 => ?_)
                    have hf81 : zy_FX I11 (5 + y9.toNatClampNeg) = x80.toInt := by rw [zy_FX_s hsl, ex80]
                    have hr82 : -600000 ≤ x80.toInt ∧ x80.toInt ≤ 1000000 := by rw [← hf81]; exact zy_st_b hH69 (by omega) (by omega)
                    refine lv_ldc (v := 1000000) hx hb hown (hts (.constant RX4 72 (1000000)) (me_s (me_l (List.mem_of_getElem? (i := 2) rfl)))) dX4_shorten_102 ?_
                    refine lv_icmp_ge (tgt := 149) hx hb dX4_shorten_104 (by decide) (fun c83 => ?_) (fun c83 => ?_)
                    · have g84 := z_f_ge rfl z_l1000000 c83
                      have hC85 : zy_CX I (5 + y9.toNatClampNeg) (1 + y2.toNatClampNeg) = -x17.toInt := by rw [zy_CX_3 hpl hsl, hm18]
                      have hH86 := zy_st_n (tl' := (40 * (k : Int) + 10 * y2.toInt + y9.toInt) + 1) (tu' := (40 * (k : Int) + 10 * y2.toInt + y9.toInt) + 1) (dn' := (zy_dn y2.toNatClampNeg (y9.toNatClampNeg + 1))) hH69 (a := (5 + y9.toNatClampNeg)) (z := (1 + y2.toNatClampNeg)) (by omega) (by omega) (fun hf hr => by rw [zy_r2_3 hpl hsl] at hr; omega) (fun u v q => by show (zy_dn y2.toNatClampNeg y9.toNatClampNeg u v ∨ (u = (1 + y2.toNatClampNeg) ∧ v = (5 + y9.toNatClampNeg))) ∨ (u = (5 + y9.toNatClampNeg) ∧ v = (1 + y2.toNatClampNeg)); unfold zy_dn at q ⊢; omega) (by omega) (by omega)
                      obtain ⟨x87, ex87⟩ : ∃ y : Int32, y = y9 + 1 := ⟨_, rfl⟩
                      have tx87 : x87.toInt = y9.toInt + 1 := z_tadd ex87 rfl z_l1 (by omega) (by omega)
                      refine lv_iinc (v := x87) (lv' := [(3, .int x87), (4, .int x17), (2, .int y2), (1, .int y10), (0, .ref (ad 41))]) hx hb dX4_shorten_149 hl (k := 1) rfl (by rw [ex87]; rfl) (by decide) rfl (fun ls hl => ?_)
                      refine lv_goto (tgt := 11) hx hb dX4_shorten_152 (by decide) ?_
                      exact lp8ih x87 y10 I11  _ _ _ (by omega) (by omega) (by omega) (by omega) (by omega) (zy_st_d hH86 (fun u v q => by rw [z_ss (x := y9) (y := x87) (by omega) (by omega)] at q; exact q) (by omega) (by omega)) lp8fr hW hS (lv_sub hl [0, 2, 3, 4] rfl)
                    · have g88 := z_f_nge rfl z_l1000000 c83
                      refine lv_aload_n hx hb dX4_shorten_107 rfl (lv_at hl 4 rfl) ?_
                      refine z_get (T := TX4) (N := 13) (ci := 4) (i := 41) (v := .ref (ad 57)) hx hb hts zj_X4_shorten_X4 hown hK hW rfl rfl 7 (by decide) (hts (.fieldLink RX4 35 "PetrolBoard$Loads" "toStation" "[I") (me_s (me_l (List.mem_of_getElem? (i := 3) rfl)))) (fun _ h => h) rfl dX4_shorten_108 ?_
                      refine lv_iload_n hx hb dX4_shorten_111 rfl (lv_at hl 1 rfl) ?_
                      refine z_iald (i := 57) hx hb hK hW rfl (z_ix rfl (by omega) (by omega)) dX4_shorten_112 ?_
                      refine z_topi (v := x80) ex80.symm ?_
                      refine lv_iload hx hb dX4_shorten_113 (lv_at hl 0 rfl) ?_
                      refine lv_isub hx hb dX4_shorten_115 ?_
                      refine lv_topi (fun x89 ex89 => ?_)
                      have tx89 : x89.toInt = x80.toInt - x17.toInt := z_tsub ex89 rfl rfl (by omega) (by omega)
                      refine lv_aload_n hx hb dX4_shorten_116 rfl (lv_at hl 4 rfl) ?_
                      refine z_get (T := TX4) (N := 13) (ci := 4) (i := 41) (v := .ref (ad 56)) hx hb hts zj_X4_shorten_X4 hown hK hW rfl rfl 6 (by decide) (hts (.fieldLink RX4 32 "PetrolBoard$Loads" "toPort" "[I") (me_s (me_l (List.mem_of_getElem? (i := 1) rfl)))) (fun _ h => h) rfl dX4_shorten_117 ?_
                      refine lv_iload_n hx hb dX4_shorten_120 rfl (lv_at hl 2 rfl) ?_
                      refine z_iald (i := 56) hx hb hK hW rfl (z_ix rfl (by omega) (by omega)) dX4_shorten_121 ?_
                      refine z_topi (v := x63) ex63.symm ?_
                      refine lv_icmp_ge (tgt := 149) hx hb dX4_shorten_122 (by decide) (fun c90 => (by have g := z_f_ge rfl rfl c90; omega)) (fun c90 => ?_)
                      have g91 := z_f_nge rfl rfl c90
                      refine lv_aload_n hx hb dX4_shorten_125 rfl (lv_at hl 4 rfl) ?_
                      refine z_get (T := TX4) (N := 13) (ci := 4) (i := 41) (v := .ref (ad 56)) hx hb hts zj_X4_shorten_X4 hown hK hW rfl rfl 6 (by decide) (hts (.fieldLink RX4 32 "PetrolBoard$Loads" "toPort" "[I") (me_s (me_l (List.mem_of_getElem? (i := 1) rfl)))) (fun _ h => h) rfl dX4_shorten_126 ?_
                      refine lv_iload_n hx hb dX4_shorten_129 rfl (lv_at hl 2 rfl) ?_
                      refine lv_aload_n hx hb dX4_shorten_130 rfl (lv_at hl 4 rfl) ?_
                      refine z_get (T := TX4) (N := 13) (ci := 4) (i := 41) (v := .ref (ad 57)) hx hb hts zj_X4_shorten_X4 hown hK hW rfl rfl 7 (by decide) (hts (.fieldLink RX4 35 "PetrolBoard$Loads" "toStation" "[I") (me_s (me_l (List.mem_of_getElem? (i := 3) rfl)))) (fun _ h => h) rfl dX4_shorten_131 ?_
                      refine lv_iload_n hx hb dX4_shorten_134 rfl (lv_at hl 1 rfl) ?_
                      refine z_iald (i := 57) hx hb hK hW rfl (z_ix rfl (by omega) (by omega)) dX4_shorten_135 ?_
                      refine z_topi (v := x80) ex80.symm ?_
                      refine lv_iload hx hb dX4_shorten_136 (lv_at hl 0 rfl) ?_
                      refine lv_isub hx hb dX4_shorten_138 ?_
                      refine lv_topi (fun x92 ex92 => ?_)
                      have tx92 : x92.toInt = x80.toInt - x17.toInt := z_tsub ex92 rfl rfl (by omega) (by omega)
                      refine z_iast (i := 56) hx hb hK hW hS rfl (z_ix rfl (by omega) (by omega)) dX4_shorten_139 (fun H locs hz1 hW hS => ?_)
                      obtain ⟨I93, eI93⟩ : ∃ K : z_I, K = z_up I11 56 y2.toNatClampNeg x92 := ⟨_, rfl⟩
                      rw [← eI93] at hW
                      have f94 := z_fr_a lp8fr (show z_wa L_X4_shorten_y 56 = true by decide) eI93
                      refine lv_aload_n hx hb dX4_shorten_140 rfl (lv_at hl 4 rfl) ?_
                      refine z_get (T := TX4) (N := 13) (ci := 4) (i := 41) (v := .ref (ad 59)) hx hb hts zj_X4_shorten_X4 hown hK hW rfl rfl 9 (by decide) (hts (.fieldLink RX4 41 "PetrolBoard$Loads" "byStation" "[I") (me_s (me_l (List.mem_of_getElem? (i := 6) rfl)))) (fun _ h => h) rfl dX4_shorten_141 ?_
                      refine lv_iload_n hx hb dX4_shorten_144 rfl (lv_at hl 2 rfl) ?_
                      refine lv_iload_n hx hb dX4_shorten_145 rfl (lv_at hl 1 rfl) ?_
                      refine z_iast (i := 59) hx hb hK hW hS rfl (z_ix rfl (by omega) (by omega)) dX4_shorten_146 (fun H locs hz1 hW hS => ?_)
                      obtain ⟨I95, eI95⟩ : ∃ K : z_I, K = z_up I93 59 y2.toNatClampNeg y9 := ⟨_, rfl⟩
                      rw [← eI95] at hW
                      have f96 := z_fr_a f94 (show z_wa L_X4_shorten_y 59 = true by decide) eI95
                      refine lv_iconst (v := 1) hx hb dX4_shorten_147 (by decide) ?_
                      refine lv_istore_n (lv' := [(1, .int 1), (4, .int x17), (3, .int y9), (2, .int y2), (0, .ref (ad 41))]) hx hb dX4_shorten_148 rfl hl (by decide) rfl (fun ls hl => ?_)
                      have hC97 : zy_CX I (5 + y9.toNatClampNeg) (1 + y2.toNatClampNeg) = -x17.toInt := by rw [zy_CX_3 hpl hsl, hm18]
                      have hu99 := zy_upP eI93 eI95 rfl rfl hpl (by omega)
                      have hH98 := zy_st_w (x' := (1 : Int32).toInt) (tl' := (40 * (k : Int) + 10 * y2.toInt + y9.toInt) + 1) (tu' := (40 * (k : Int) + 10 * y2.toInt + y9.toInt) + 1) (dn' := (zy_dn y2.toNatClampNeg (y9.toNatClampNeg + 1))) (zy_r2_p hpt) hH69 (a := (5 + y9.toNatClampNeg)) (z := (1 + y2.toNatClampNeg)) (by omega) (by omega) (by omega) (by rw [zy_r2_3 hpl hsl, ← hm72]; omega) (by omega) (hu99.1.trans (by omega)) hu99.2.1 hu99.2.2.1 hu99.2.2.2 (by decide) (fun u v q => by show (zy_dn y2.toNatClampNeg y9.toNatClampNeg u v ∨ (u = (1 + y2.toNatClampNeg) ∧ v = (5 + y9.toNatClampNeg))) ∨ (u = (5 + y9.toNatClampNeg) ∧ v = (1 + y2.toNatClampNeg)); unfold zy_dn at q ⊢; omega) ⟨by omega, by omega⟩ ⟨by omega, by omega⟩
                      obtain ⟨x100, ex100⟩ : ∃ y : Int32, y = y9 + 1 := ⟨_, rfl⟩
                      have tx100 : x100.toInt = y9.toInt + 1 := z_tadd ex100 rfl z_l1 (by omega) (by omega)
                      refine lv_iinc (v := x100) (lv' := [(3, .int x100), (1, .int 1), (4, .int x17), (2, .int y2), (0, .ref (ad 41))]) hx hb dX4_shorten_149 hl (k := 2) rfl (by rw [ex100]; rfl) (by decide) rfl (fun ls hl => ?_)
                      refine lv_goto (tgt := 11) hx hb dX4_shorten_152 (by decide) ?_
                      exact lp8ih x100 (1) I95  _ _ _ (by omega) (by omega) (by omega) (by rw [z_l1]; omega) (by rw [z_l1]; omega) (zy_st_d hH98 (fun u v q => by rw [z_ss (x := y9) (y := x100) (by omega) (by omega)] at q; exact q) (by omega) (by omega)) f96 hW hS (lv_sub hl [0, 3, 1, 4] rfl)
                · have g101 := z_f_nge rfl z_l1000000 c66
                  refine lv_aload_n hx hb dX4_shorten_43 rfl (lv_at hl 4 rfl) ?_
                  refine z_get (T := TX4) (N := 13) (ci := 4) (i := 41) (v := .ref (ad 56)) hx hb hts zj_X4_shorten_X4 hown hK hW rfl rfl 6 (by decide) (hts (.fieldLink RX4 32 "PetrolBoard$Loads" "toPort" "[I") (me_s (me_l (List.mem_of_getElem? (i := 1) rfl)))) (fun _ h => h) rfl dX4_shorten_44 ?_
                  refine lv_iload_n hx hb dX4_shorten_47 rfl (lv_at hl 2 rfl) ?_
                  refine z_iald (i := 56) hx hb hK hW rfl (z_ix rfl (by omega) (by omega)) dX4_shorten_48 ?_
                  refine z_topi (v := x63) ex63.symm ?_
                  refine lv_iload hx hb dX4_shorten_49 (lv_at hl 0 rfl) ?_
                  refine lv_iadd hx hb dX4_shorten_51 ?_
                  refine lv_topi (fun x102 ex102 => ?_)
                  have tx102 : x102.toInt = x63.toInt + x17.toInt := z_tadd ex102 rfl rfl (by omega) (by omega)
                  refine lv_aload_n hx hb dX4_shorten_52 rfl (lv_at hl 4 rfl) ?_
                  refine z_get (T := TX4) (N := 13) (ci := 4) (i := 41) (v := .ref (ad 57)) hx hb hts zj_X4_shorten_X4 hown hK hW rfl rfl 7 (by decide) (hts (.fieldLink RX4 35 "PetrolBoard$Loads" "toStation" "[I") (me_s (me_l (List.mem_of_getElem? (i := 3) rfl)))) (fun _ h => h) rfl dX4_shorten_53 ?_
                  refine lv_iload_n hx hb dX4_shorten_56 rfl (lv_at hl 1 rfl) ?_
                  refine z_iald (i := 57) hx hb hK hW rfl (z_ix rfl (by omega) (by omega)) dX4_shorten_57 ?_
                  refine lv_topi (fun x103 ex103 => ?_)
                  have hf104 : zy_FX I11 (5 + y9.toNatClampNeg) = x103.toInt := by rw [zy_FX_s hsl, ex103]
                  have hr105 : -600000 ≤ x103.toInt ∧ x103.toInt ≤ 1000000 := by rw [← hf104]; exact zy_st_b lp8H (by omega) (by omega)
                  refine lv_icmp_ge (tgt := 85) hx hb dX4_shorten_58 (by decide) (fun c106 => ?_) (fun c106 => ?_)
                  · have g107 := z_f_ge rfl rfl c106
                    have hC108 : zy_CX I (1 + y2.toNatClampNeg) (5 + y9.toNatClampNeg) = x17.toInt := by rw [zy_CX_1 hpl hsl, hm18]
                    have hH109 := zy_st_n (tl' := (40 * (k : Int) + 10 * y2.toInt + y9.toInt)) (tu' := (40 * (k : Int) + 10 * y2.toInt + y9.toInt) + 1) (dn' := (fun u v => zy_dn y2.toNatClampNeg y9.toNatClampNeg u v ∨ (u = (1 + y2.toNatClampNeg) ∧ v = (5 + y9.toNatClampNeg)))) lp8H (a := (1 + y2.toNatClampNeg)) (z := (5 + y9.toNatClampNeg)) (by omega) (by omega) (fun hf hr => by have q9 := zy_r2_1 hSX hpl hsl hr; omega) (fun u v q => q) (by omega) (by omega)
                    refine lv_aload_n hx hb dX4_shorten_85 rfl (lv_at hl 4 rfl) ?_
                    refine z_get (T := TX4) (N := 13) (ci := 4) (i := 41) (v := .ref (ad 49)) hx hb hts zj_X4_shorten_X4 hown hK hW rfl rfl 3 (by decide) (hts (.fieldLink RX4 23 "PetrolBoard$Loads" "sent" "[[I") (me_s (me_l (List.mem_of_getElem? (i := 5) rfl)))) (fun _ h => h) rfl dX4_shorten_86 ?_
                    refine lv_iload_n hx hb dX4_shorten_89 rfl (lv_at hl 2 rfl) ?_
                    obtain ⟨k110, ek110, hk110⟩ : ∃ k : Nat, y2.toNatClampNeg = k ∧ k < 4 := ⟨_, rfl, z_clN rfl (by omega) (by omega)⟩
                    refine z_aald (i := 49) (v := .ref (ad (50 + k110))) hx hb hK hW rfl (by simp [z_tys]) rfl (z_ix rfl (by omega) (by omega)) (z_p49 ek110 hk110) dX4_shorten_90 ?_
                    refine lv_iload_n hx hb dX4_shorten_91 rfl (lv_at hl 1 rfl) ?_
                    refine z_iald (i := (50 + k110)) hx hb hK hW (z_s50 hk110) (z_ix rfl (by omega) (by omega)) dX4_shorten_92 ?_
                    refine lv_topi (fun x111 ex111 => ?_)
                    have hm112 : x111.toInt = (I (50 + y2.toNatClampNeg) y9.toNatClampNeg).toInt := by rw [ex111, lp8fr (50 + k110) _ (zy_wr (lo := 42) (hi := 54) (by omega) (by omega) (by decide) (by decide)), ← ek110]
                    have hr113 : 0 ≤ x111.toInt ∧ x111.toInt ≤ 20 := by rw [hm112]; have q9 := zy_SX_20 hSX hpl hsl; omega
                    refine lv_if_le (tgt := 149) hx hb dX4_shorten_93 (by decide) (fun c114 => ?_) (fun c114 => ?_)
                    · have g115 := z_f_le rfl z_l0 c114
                      have hC116 : zy_CX I (5 + y9.toNatClampNeg) (1 + y2.toNatClampNeg) = -x17.toInt := by rw [zy_CX_3 hpl hsl, hm18]
                      have hH117 := zy_st_n (tl' := (40 * (k : Int) + 10 * y2.toInt + y9.toInt) + 1) (tu' := (40 * (k : Int) + 10 * y2.toInt + y9.toInt) + 1) (dn' := (zy_dn y2.toNatClampNeg (y9.toNatClampNeg + 1))) hH109 (a := (5 + y9.toNatClampNeg)) (z := (1 + y2.toNatClampNeg)) (by omega) (by omega) (fun hf hr => by rw [zy_r2_3 hpl hsl] at hr; omega) (fun u v q => by show (zy_dn y2.toNatClampNeg y9.toNatClampNeg u v ∨ (u = (1 + y2.toNatClampNeg) ∧ v = (5 + y9.toNatClampNeg))) ∨ (u = (5 + y9.toNatClampNeg) ∧ v = (1 + y2.toNatClampNeg)); unfold zy_dn at q ⊢; omega) (by omega) (by omega)
                      obtain ⟨x118, ex118⟩ : ∃ y : Int32, y = y9 + 1 := ⟨_, rfl⟩
                      have tx118 : x118.toInt = y9.toInt + 1 := z_tadd ex118 rfl z_l1 (by omega) (by omega)
                      refine lv_iinc (v := x118) (lv' := [(3, .int x118), (4, .int x17), (2, .int y2), (1, .int y10), (0, .ref (ad 41))]) hx hb dX4_shorten_149 hl (k := 1) rfl (by rw [ex118]; rfl) (by decide) rfl (fun ls hl => ?_)
                      refine lv_goto (tgt := 11) hx hb dX4_shorten_152 (by decide) ?_
                      exact lp8ih x118 y10 I11  _ _ _ (by omega) (by omega) (by omega) (by omega) (by omega) (zy_st_d hH117 (fun u v q => by rw [z_ss (x := y9) (y := x118) (by omega) (by omega)] at q; exact q) (by omega) (by omega)) lp8fr hW hS (lv_sub hl [0, 2, 3, 4] rfl)
                    · have g119 := z_f_nle rfl z_l0 c114
                      refine lv_aload_n hx hb dX4_shorten_96 rfl (lv_at hl 4 rfl) ?_
                      refine z_get (T := TX4) (N := 13) (ci := 4) (i := 41) (v := .ref (ad 57)) hx hb hts zj_X4_shorten_X4 hown hK hW rfl rfl 7 (by decide) (hts (.fieldLink RX4 35 "PetrolBoard$Loads" "toStation" "[I") (me_s (me_l (List.mem_of_getElem? (i := 3) rfl)))) (fun _ h => h) rfl dX4_shorten_97 ?_
                      refine lv_iload_n hx hb dX4_shorten_100 rfl (lv_at hl 1 rfl) ?_
                      refine z_iald (i := 57) hx hb hK hW rfl (z_ix rfl (by omega) (by omega)) dX4_shorten_101 ?_
                      refine z_topi (v := x103) ex103.symm ?_
                      refine lv_ldc (v := 1000000) hx hb hown (hts (.constant RX4 72 (1000000)) (me_s (me_l (List.mem_of_getElem? (i := 2) rfl)))) dX4_shorten_102 ?_
                      refine lv_icmp_ge (tgt := 149) hx hb dX4_shorten_104 (by decide) (fun c120 => ?_) (fun c120 => ?_)
                      · have g121 := z_f_ge rfl z_l1000000 c120
                        have hC122 : zy_CX I (5 + y9.toNatClampNeg) (1 + y2.toNatClampNeg) = -x17.toInt := by rw [zy_CX_3 hpl hsl, hm18]
                        have hH123 := zy_st_n (tl' := (40 * (k : Int) + 10 * y2.toInt + y9.toInt) + 1) (tu' := (40 * (k : Int) + 10 * y2.toInt + y9.toInt) + 1) (dn' := (zy_dn y2.toNatClampNeg (y9.toNatClampNeg + 1))) hH109 (a := (5 + y9.toNatClampNeg)) (z := (1 + y2.toNatClampNeg)) (by omega) (by omega) (fun hf hr => by rw [zy_r2_3 hpl hsl] at hr; omega) (fun u v q => by show (zy_dn y2.toNatClampNeg y9.toNatClampNeg u v ∨ (u = (1 + y2.toNatClampNeg) ∧ v = (5 + y9.toNatClampNeg))) ∨ (u = (5 + y9.toNatClampNeg) ∧ v = (1 + y2.toNatClampNeg)); unfold zy_dn at q ⊢; omega) (by omega) (by omega)
                        obtain ⟨x124, ex124⟩ : ∃ y : Int32, y = y9 + 1 := ⟨_, rfl⟩
                        have tx124 : x124.toInt = y9.toInt + 1 := z_tadd ex124 rfl z_l1 (by omega) (by omega)
                        refine lv_iinc (v := x124) (lv' := [(3, .int x124), (4, .int x17), (2, .int y2), (1, .int y10), (0, .ref (ad 41))]) hx hb dX4_shorten_149 hl (k := 1) rfl (by rw [ex124]; rfl) (by decide) rfl (fun ls hl => ?_)
                        refine lv_goto (tgt := 11) hx hb dX4_shorten_152 (by decide) ?_
                        exact lp8ih x124 y10 I11  _ _ _ (by omega) (by omega) (by omega) (by omega) (by omega) (zy_st_d hH123 (fun u v q => by rw [z_ss (x := y9) (y := x124) (by omega) (by omega)] at q; exact q) (by omega) (by omega)) lp8fr hW hS (lv_sub hl [0, 2, 3, 4] rfl)
                      · have g125 := z_f_nge rfl z_l1000000 c120
                        refine lv_aload_n hx hb dX4_shorten_107 rfl (lv_at hl 4 rfl) ?_
                        refine z_get (T := TX4) (N := 13) (ci := 4) (i := 41) (v := .ref (ad 57)) hx hb hts zj_X4_shorten_X4 hown hK hW rfl rfl 7 (by decide) (hts (.fieldLink RX4 35 "PetrolBoard$Loads" "toStation" "[I") (me_s (me_l (List.mem_of_getElem? (i := 3) rfl)))) (fun _ h => h) rfl dX4_shorten_108 ?_
                        refine lv_iload_n hx hb dX4_shorten_111 rfl (lv_at hl 1 rfl) ?_
                        refine z_iald (i := 57) hx hb hK hW rfl (z_ix rfl (by omega) (by omega)) dX4_shorten_112 ?_
                        refine z_topi (v := x103) ex103.symm ?_
                        refine lv_iload hx hb dX4_shorten_113 (lv_at hl 0 rfl) ?_
                        refine lv_isub hx hb dX4_shorten_115 ?_
                        refine lv_topi (fun x126 ex126 => ?_)
                        have tx126 : x126.toInt = x103.toInt - x17.toInt := z_tsub ex126 rfl rfl (by omega) (by omega)
                        refine lv_aload_n hx hb dX4_shorten_116 rfl (lv_at hl 4 rfl) ?_
                        refine z_get (T := TX4) (N := 13) (ci := 4) (i := 41) (v := .ref (ad 56)) hx hb hts zj_X4_shorten_X4 hown hK hW rfl rfl 6 (by decide) (hts (.fieldLink RX4 32 "PetrolBoard$Loads" "toPort" "[I") (me_s (me_l (List.mem_of_getElem? (i := 1) rfl)))) (fun _ h => h) rfl dX4_shorten_117 ?_
                        refine lv_iload_n hx hb dX4_shorten_120 rfl (lv_at hl 2 rfl) ?_
                        refine z_iald (i := 56) hx hb hK hW rfl (z_ix rfl (by omega) (by omega)) dX4_shorten_121 ?_
                        refine z_topi (v := x63) ex63.symm ?_
                        refine lv_icmp_ge (tgt := 149) hx hb dX4_shorten_122 (by decide) (fun c127 => ?_) (fun c127 => ?_)
                        · have g128 := z_f_ge rfl rfl c127
                          have hC129 : zy_CX I (5 + y9.toNatClampNeg) (1 + y2.toNatClampNeg) = -x17.toInt := by rw [zy_CX_3 hpl hsl, hm18]
                          have hH130 := zy_st_n (tl' := (40 * (k : Int) + 10 * y2.toInt + y9.toInt) + 1) (tu' := (40 * (k : Int) + 10 * y2.toInt + y9.toInt) + 1) (dn' := (zy_dn y2.toNatClampNeg (y9.toNatClampNeg + 1))) hH109 (a := (5 + y9.toNatClampNeg)) (z := (1 + y2.toNatClampNeg)) (by omega) (by omega) (fun hf hr => by rw [zy_r2_3 hpl hsl] at hr; omega) (fun u v q => by show (zy_dn y2.toNatClampNeg y9.toNatClampNeg u v ∨ (u = (1 + y2.toNatClampNeg) ∧ v = (5 + y9.toNatClampNeg))) ∨ (u = (5 + y9.toNatClampNeg) ∧ v = (1 + y2.toNatClampNeg)); unfold zy_dn at q ⊢; omega) (by omega) (by omega)
                          obtain ⟨x131, ex131⟩ : ∃ y : Int32, y = y9 + 1 := ⟨_, rfl⟩
                          have tx131 : x131.toInt = y9.toInt + 1 := z_tadd ex131 rfl z_l1 (by omega) (by omega)
                          refine lv_iinc (v := x131) (lv' := [(3, .int x131), (4, .int x17), (2, .int y2), (1, .int y10), (0, .ref (ad 41))]) hx hb dX4_shorten_149 hl (k := 1) rfl (by rw [ex131]; rfl) (by decide) rfl (fun ls hl => ?_)
                          refine lv_goto (tgt := 11) hx hb dX4_shorten_152 (by decide) ?_
                          exact lp8ih x131 y10 I11  _ _ _ (by omega) (by omega) (by omega) (by omega) (by omega) (zy_st_d hH130 (fun u v q => by rw [z_ss (x := y9) (y := x131) (by omega) (by omega)] at q; exact q) (by omega) (by omega)) lp8fr hW hS (lv_sub hl [0, 2, 3, 4] rfl)
                        · have g132 := z_f_nge rfl rfl c127
                          refine lv_aload_n hx hb dX4_shorten_125 rfl (lv_at hl 4 rfl) ?_
                          refine z_get (T := TX4) (N := 13) (ci := 4) (i := 41) (v := .ref (ad 56)) hx hb hts zj_X4_shorten_X4 hown hK hW rfl rfl 6 (by decide) (hts (.fieldLink RX4 32 "PetrolBoard$Loads" "toPort" "[I") (me_s (me_l (List.mem_of_getElem? (i := 1) rfl)))) (fun _ h => h) rfl dX4_shorten_126 ?_
                          refine lv_iload_n hx hb dX4_shorten_129 rfl (lv_at hl 2 rfl) ?_
                          refine lv_aload_n hx hb dX4_shorten_130 rfl (lv_at hl 4 rfl) ?_
                          refine z_get (T := TX4) (N := 13) (ci := 4) (i := 41) (v := .ref (ad 57)) hx hb hts zj_X4_shorten_X4 hown hK hW rfl rfl 7 (by decide) (hts (.fieldLink RX4 35 "PetrolBoard$Loads" "toStation" "[I") (me_s (me_l (List.mem_of_getElem? (i := 3) rfl)))) (fun _ h => h) rfl dX4_shorten_131 ?_
                          refine lv_iload_n hx hb dX4_shorten_134 rfl (lv_at hl 1 rfl) ?_
                          refine z_iald (i := 57) hx hb hK hW rfl (z_ix rfl (by omega) (by omega)) dX4_shorten_135 ?_
                          refine z_topi (v := x103) ex103.symm ?_
                          refine lv_iload hx hb dX4_shorten_136 (lv_at hl 0 rfl) ?_
                          refine lv_isub hx hb dX4_shorten_138 ?_
                          refine lv_topi (fun x133 ex133 => ?_)
                          have tx133 : x133.toInt = x103.toInt - x17.toInt := z_tsub ex133 rfl rfl (by omega) (by omega)
                          refine z_iast (i := 56) hx hb hK hW hS rfl (z_ix rfl (by omega) (by omega)) dX4_shorten_139 (fun H locs hz1 hW hS => ?_)
                          obtain ⟨I134, eI134⟩ : ∃ K : z_I, K = z_up I11 56 y2.toNatClampNeg x133 := ⟨_, rfl⟩
                          rw [← eI134] at hW
                          have f135 := z_fr_a lp8fr (show z_wa L_X4_shorten_y 56 = true by decide) eI134
                          refine lv_aload_n hx hb dX4_shorten_140 rfl (lv_at hl 4 rfl) ?_
                          refine z_get (T := TX4) (N := 13) (ci := 4) (i := 41) (v := .ref (ad 59)) hx hb hts zj_X4_shorten_X4 hown hK hW rfl rfl 9 (by decide) (hts (.fieldLink RX4 41 "PetrolBoard$Loads" "byStation" "[I") (me_s (me_l (List.mem_of_getElem? (i := 6) rfl)))) (fun _ h => h) rfl dX4_shorten_141 ?_
                          refine lv_iload_n hx hb dX4_shorten_144 rfl (lv_at hl 2 rfl) ?_
                          refine lv_iload_n hx hb dX4_shorten_145 rfl (lv_at hl 1 rfl) ?_
                          refine z_iast (i := 59) hx hb hK hW hS rfl (z_ix rfl (by omega) (by omega)) dX4_shorten_146 (fun H locs hz1 hW hS => ?_)
                          obtain ⟨I136, eI136⟩ : ∃ K : z_I, K = z_up I134 59 y2.toNatClampNeg y9 := ⟨_, rfl⟩
                          rw [← eI136] at hW
                          have f137 := z_fr_a f135 (show z_wa L_X4_shorten_y 59 = true by decide) eI136
                          refine lv_iconst (v := 1) hx hb dX4_shorten_147 (by decide) ?_
                          refine lv_istore_n (lv' := [(1, .int 1), (4, .int x17), (3, .int y9), (2, .int y2), (0, .ref (ad 41))]) hx hb dX4_shorten_148 rfl hl (by decide) rfl (fun ls hl => ?_)
                          have hC138 : zy_CX I (5 + y9.toNatClampNeg) (1 + y2.toNatClampNeg) = -x17.toInt := by rw [zy_CX_3 hpl hsl, hm18]
                          have hu140 := zy_upP eI134 eI136 rfl rfl hpl (by omega)
                          have hH139 := zy_st_w (x' := (1 : Int32).toInt) (tl' := (40 * (k : Int) + 10 * y2.toInt + y9.toInt) + 1) (tu' := (40 * (k : Int) + 10 * y2.toInt + y9.toInt) + 1) (dn' := (zy_dn y2.toNatClampNeg (y9.toNatClampNeg + 1))) (zy_r2_p hpt) hH109 (a := (5 + y9.toNatClampNeg)) (z := (1 + y2.toNatClampNeg)) (by omega) (by omega) (by omega) (by rw [zy_r2_3 hpl hsl, ← hm112]; omega) (by omega) (hu140.1.trans (by omega)) hu140.2.1 hu140.2.2.1 hu140.2.2.2 (by decide) (fun u v q => by show (zy_dn y2.toNatClampNeg y9.toNatClampNeg u v ∨ (u = (1 + y2.toNatClampNeg) ∧ v = (5 + y9.toNatClampNeg))) ∨ (u = (5 + y9.toNatClampNeg) ∧ v = (1 + y2.toNatClampNeg)); unfold zy_dn at q ⊢; omega) ⟨by omega, by omega⟩ ⟨by omega, by omega⟩
                          obtain ⟨x141, ex141⟩ : ∃ y : Int32, y = y9 + 1 := ⟨_, rfl⟩
                          have tx141 : x141.toInt = y9.toInt + 1 := z_tadd ex141 rfl z_l1 (by omega) (by omega)
                          refine lv_iinc (v := x141) (lv' := [(3, .int x141), (1, .int 1), (4, .int x17), (2, .int y2), (0, .ref (ad 41))]) hx hb dX4_shorten_149 hl (k := 2) rfl (by rw [ex141]; rfl) (by decide) rfl (fun ls hl => ?_)
                          refine lv_goto (tgt := 11) hx hb dX4_shorten_152 (by decide) ?_
                          exact lp8ih x141 (1) I136  _ _ _ (by omega) (by omega) (by omega) (by rw [z_l1]; omega) (by rw [z_l1]; omega) (zy_st_d hH139 (fun u v q => by rw [z_ss (x := y9) (y := x141) (by omega) (by omega)] at q; exact q) (by omega) (by omega)) f137 hW hS (lv_sub hl [0, 3, 1, 4] rfl)
                  · have g142 := z_f_nge rfl rfl c106
                    refine lv_aload_n hx hb dX4_shorten_61 rfl (lv_at hl 4 rfl) ?_
                    refine z_get (T := TX4) (N := 13) (ci := 4) (i := 41) (v := .ref (ad 57)) hx hb hts zj_X4_shorten_X4 hown hK hW rfl rfl 7 (by decide) (hts (.fieldLink RX4 35 "PetrolBoard$Loads" "toStation" "[I") (me_s (me_l (List.mem_of_getElem? (i := 3) rfl)))) (fun _ h => h) rfl dX4_shorten_62 ?_
                    refine lv_iload_n hx hb dX4_shorten_65 rfl (lv_at hl 1 rfl) ?_
                    refine lv_aload_n hx hb dX4_shorten_66 rfl (lv_at hl 4 rfl) ?_
                    refine z_get (T := TX4) (N := 13) (ci := 4) (i := 41) (v := .ref (ad 56)) hx hb hts zj_X4_shorten_X4 hown hK hW rfl rfl 6 (by decide) (hts (.fieldLink RX4 32 "PetrolBoard$Loads" "toPort" "[I") (me_s (me_l (List.mem_of_getElem? (i := 1) rfl)))) (fun _ h => h) rfl dX4_shorten_67 ?_
                    refine lv_iload_n hx hb dX4_shorten_70 rfl (lv_at hl 2 rfl) ?_
                    refine z_iald (i := 56) hx hb hK hW rfl (z_ix rfl (by omega) (by omega)) dX4_shorten_71 ?_
                    refine z_topi (v := x63) ex63.symm ?_
                    refine lv_iload hx hb dX4_shorten_72 (lv_at hl 0 rfl) ?_
                    refine lv_iadd hx hb dX4_shorten_74 ?_
                    refine lv_topi (fun x143 ex143 => ?_)
                    have tx143 : x143.toInt = x63.toInt + x17.toInt := z_tadd ex143 rfl rfl (by omega) (by omega)
                    refine z_iast (i := 57) hx hb hK hW hS rfl (z_ix rfl (by omega) (by omega)) dX4_shorten_75 (fun H locs hz1 hW hS => ?_)
                    obtain ⟨I144, eI144⟩ : ∃ K : z_I, K = z_up I11 57 y9.toNatClampNeg x143 := ⟨_, rfl⟩
                    rw [← eI144] at hW
                    have f145 := z_fr_a lp8fr (show z_wa L_X4_shorten_y 57 = true by decide) eI144
                    refine lv_aload_n hx hb dX4_shorten_76 rfl (lv_at hl 4 rfl) ?_
                    refine z_get (T := TX4) (N := 13) (ci := 4) (i := 41) (v := .ref (ad 58)) hx hb hts zj_X4_shorten_X4 hown hK hW rfl rfl 8 (by decide) (hts (.fieldLink RX4 38 "PetrolBoard$Loads" "byPort" "[I") (me_s (me_l (List.mem_of_getElem? (i := 4) rfl)))) (fun _ h => h) rfl dX4_shorten_77 ?_
                    refine lv_iload_n hx hb dX4_shorten_80 rfl (lv_at hl 1 rfl) ?_
                    refine lv_iload_n hx hb dX4_shorten_81 rfl (lv_at hl 2 rfl) ?_
                    refine z_iast (i := 58) hx hb hK hW hS rfl (z_ix rfl (by omega) (by omega)) dX4_shorten_82 (fun H locs hz1 hW hS => ?_)
                    obtain ⟨I146, eI146⟩ : ∃ K : z_I, K = z_up I144 58 y9.toNatClampNeg y2 := ⟨_, rfl⟩
                    rw [← eI146] at hW
                    have f147 := z_fr_a f145 (show z_wa L_X4_shorten_y 58 = true by decide) eI146
                    refine lv_iconst (v := 1) hx hb dX4_shorten_83 (by decide) ?_
                    refine lv_istore_n (lv' := [(1, .int 1), (4, .int x17), (3, .int y9), (2, .int y2), (0, .ref (ad 41))]) hx hb dX4_shorten_84 rfl hl (by decide) rfl (fun ls hl => ?_)
                    have hC148 : zy_CX I (1 + y2.toNatClampNeg) (5 + y9.toNatClampNeg) = x17.toInt := by rw [zy_CX_1 hpl hsl, hm18]
                    have hu150 := zy_upS eI144 eI146 rfl rfl hsl (by omega)
                    have hH149 := zy_st_w (x' := (1 : Int32).toInt) (tl' := (40 * (k : Int) + 10 * y2.toInt + y9.toInt)) (tu' := (40 * (k : Int) + 10 * y2.toInt + y9.toInt) + 1) (dn' := (fun u v => zy_dn y2.toNatClampNeg y9.toNatClampNeg u v ∨ (u = (1 + y2.toNatClampNeg) ∧ v = (5 + y9.toNatClampNeg)))) (zy_r2_p hpt) lp8H (a := (1 + y2.toNatClampNeg)) (z := (5 + y9.toNatClampNeg)) (by omega) (by omega) (by omega) (zy_r2_1i hSX hpl hsl (by rw [← hm18]; omega)) (by omega) (hu150.1.trans (by omega)) hu150.2.1 hu150.2.2.1 hu150.2.2.2 (by decide) (fun u v q => q) ⟨by omega, by omega⟩ ⟨by omega, by omega⟩
                    have hf151 : zy_FX I146 (1 + y2.toNatClampNeg) = x63.toInt := (hu150.2.1 _ (by omega)).trans hf64
                    have hf152 : zy_FX I146 (5 + y9.toNatClampNeg) = x143.toInt := hu150.1
                    refine lv_aload_n hx hb dX4_shorten_85 rfl (lv_at hl 4 rfl) ?_
                    refine z_get (T := TX4) (N := 13) (ci := 4) (i := 41) (v := .ref (ad 49)) hx hb hts zj_X4_shorten_X4 hown hK hW rfl rfl 3 (by decide) (hts (.fieldLink RX4 23 "PetrolBoard$Loads" "sent" "[[I") (me_s (me_l (List.mem_of_getElem? (i := 5) rfl)))) (fun _ h => h) rfl dX4_shorten_86 ?_
                    refine lv_iload_n hx hb dX4_shorten_89 rfl (lv_at hl 3 rfl) ?_
                    obtain ⟨k153, ek153, hk153⟩ : ∃ k : Nat, y2.toNatClampNeg = k ∧ k < 4 := ⟨_, rfl, z_clN rfl (by omega) (by omega)⟩
                    refine z_aald (i := 49) (v := .ref (ad (50 + k153))) hx hb hK hW rfl (by simp [z_tys]) rfl (z_ix rfl (by omega) (by omega)) (z_p49 ek153 hk153) dX4_shorten_90 ?_
                    refine lv_iload_n hx hb dX4_shorten_91 rfl (lv_at hl 2 rfl) ?_
                    refine z_iald (i := (50 + k153)) hx hb hK hW (z_s50 hk153) (z_ix rfl (by omega) (by omega)) dX4_shorten_92 ?_
                    refine lv_topi (fun x154 ex154 => ?_)
                    have hm155 : x154.toInt = (I (50 + y2.toNatClampNeg) y9.toNatClampNeg).toInt := by rw [ex154, f147 (50 + k153) _ (zy_wr (lo := 42) (hi := 54) (by omega) (by omega) (by decide) (by decide)), ← ek153]
                    have hr156 : 0 ≤ x154.toInt ∧ x154.toInt ≤ 20 := by rw [hm155]; have q9 := zy_SX_20 hSX hpl hsl; omega
                    refine lv_if_le (tgt := 149) hx hb dX4_shorten_93 (by decide) (fun c157 => ?_) (fun c157 => ?_)
                    · have g158 := z_f_le rfl z_l0 c157
                      have hC159 : zy_CX I (5 + y9.toNatClampNeg) (1 + y2.toNatClampNeg) = -x17.toInt := by rw [zy_CX_3 hpl hsl, hm18]
                      have hH160 := zy_st_n (tl' := (40 * (k : Int) + 10 * y2.toInt + y9.toInt) + 1) (tu' := (40 * (k : Int) + 10 * y2.toInt + y9.toInt) + 1) (dn' := (zy_dn y2.toNatClampNeg (y9.toNatClampNeg + 1))) hH149 (a := (5 + y9.toNatClampNeg)) (z := (1 + y2.toNatClampNeg)) (by omega) (by omega) (fun hf hr => by rw [zy_r2_3 hpl hsl] at hr; omega) (fun u v q => by show (zy_dn y2.toNatClampNeg y9.toNatClampNeg u v ∨ (u = (1 + y2.toNatClampNeg) ∧ v = (5 + y9.toNatClampNeg))) ∨ (u = (5 + y9.toNatClampNeg) ∧ v = (1 + y2.toNatClampNeg)); unfold zy_dn at q ⊢; omega) (by omega) (by omega)
                      obtain ⟨x161, ex161⟩ : ∃ y : Int32, y = y9 + 1 := ⟨_, rfl⟩
                      have tx161 : x161.toInt = y9.toInt + 1 := z_tadd ex161 rfl z_l1 (by omega) (by omega)
                      refine lv_iinc (v := x161) (lv' := [(3, .int x161), (1, .int 1), (4, .int x17), (2, .int y2), (0, .ref (ad 41))]) hx hb dX4_shorten_149 hl (k := 2) rfl (by rw [ex161]; rfl) (by decide) rfl (fun ls hl => ?_)
                      refine lv_goto (tgt := 11) hx hb dX4_shorten_152 (by decide) ?_
                      exact lp8ih x161 (1) I146  _ _ _ (by omega) (by omega) (by omega) (by rw [z_l1]; omega) (by rw [z_l1]; omega) (zy_st_d hH160 (fun u v q => by rw [z_ss (x := y9) (y := x161) (by omega) (by omega)] at q; exact q) (by omega) (by omega)) f147 hW hS (lv_sub hl [0, 3, 1, 4] rfl)
                    · have g162 := z_f_nle rfl z_l0 c157
                      refine lv_aload_n hx hb dX4_shorten_96 rfl (lv_at hl 4 rfl) ?_
                      refine z_get (T := TX4) (N := 13) (ci := 4) (i := 41) (v := .ref (ad 57)) hx hb hts zj_X4_shorten_X4 hown hK hW rfl rfl 7 (by decide) (hts (.fieldLink RX4 35 "PetrolBoard$Loads" "toStation" "[I") (me_s (me_l (List.mem_of_getElem? (i := 3) rfl)))) (fun _ h => h) rfl dX4_shorten_97 ?_
                      refine lv_iload_n hx hb dX4_shorten_100 rfl (lv_at hl 2 rfl) ?_
                      refine z_iald (i := 57) hx hb hK hW rfl (z_ix rfl (by omega) (by omega)) dX4_shorten_101 ?_
                      refine lv_topi (fun x163 ex163 => ?_)
                      have hf164 : zy_FX I146 (5 + y9.toNatClampNeg) = x163.toInt := by rw [zy_FX_s hsl, ex163]
                      have hr165 : -600000 ≤ x163.toInt ∧ x163.toInt ≤ 1000000 := by rw [← hf164]; exact zy_st_b hH149 (by omega) (by omega)
                      refine lv_ldc (v := 1000000) hx hb hown (hts (.constant RX4 72 (1000000)) (me_s (me_l (List.mem_of_getElem? (i := 2) rfl)))) dX4_shorten_102 ?_
                      refine lv_icmp_ge (tgt := 149) hx hb dX4_shorten_104 (by decide) (fun c166 => ?_) (fun c166 => ?_)
                      · have g167 := z_f_ge rfl z_l1000000 c166
                        have hC168 : zy_CX I (5 + y9.toNatClampNeg) (1 + y2.toNatClampNeg) = -x17.toInt := by rw [zy_CX_3 hpl hsl, hm18]
                        have hH169 := zy_st_n (tl' := (40 * (k : Int) + 10 * y2.toInt + y9.toInt) + 1) (tu' := (40 * (k : Int) + 10 * y2.toInt + y9.toInt) + 1) (dn' := (zy_dn y2.toNatClampNeg (y9.toNatClampNeg + 1))) hH149 (a := (5 + y9.toNatClampNeg)) (z := (1 + y2.toNatClampNeg)) (by omega) (by omega) (fun hf hr => by rw [zy_r2_3 hpl hsl] at hr; omega) (fun u v q => by show (zy_dn y2.toNatClampNeg y9.toNatClampNeg u v ∨ (u = (1 + y2.toNatClampNeg) ∧ v = (5 + y9.toNatClampNeg))) ∨ (u = (5 + y9.toNatClampNeg) ∧ v = (1 + y2.toNatClampNeg)); unfold zy_dn at q ⊢; omega) (by omega) (by omega)
                        obtain ⟨x170, ex170⟩ : ∃ y : Int32, y = y9 + 1 := ⟨_, rfl⟩
                        have tx170 : x170.toInt = y9.toInt + 1 := z_tadd ex170 rfl z_l1 (by omega) (by omega)
                        refine lv_iinc (v := x170) (lv' := [(3, .int x170), (1, .int 1), (4, .int x17), (2, .int y2), (0, .ref (ad 41))]) hx hb dX4_shorten_149 hl (k := 2) rfl (by rw [ex170]; rfl) (by decide) rfl (fun ls hl => ?_)
                        refine lv_goto (tgt := 11) hx hb dX4_shorten_152 (by decide) ?_
                        exact lp8ih x170 (1) I146  _ _ _ (by omega) (by omega) (by omega) (by rw [z_l1]; omega) (by rw [z_l1]; omega) (zy_st_d hH169 (fun u v q => by rw [z_ss (x := y9) (y := x170) (by omega) (by omega)] at q; exact q) (by omega) (by omega)) f147 hW hS (lv_sub hl [0, 3, 1, 4] rfl)
                      · have g171 := z_f_nge rfl z_l1000000 c166
                        refine lv_aload_n hx hb dX4_shorten_107 rfl (lv_at hl 4 rfl) ?_
                        refine z_get (T := TX4) (N := 13) (ci := 4) (i := 41) (v := .ref (ad 57)) hx hb hts zj_X4_shorten_X4 hown hK hW rfl rfl 7 (by decide) (hts (.fieldLink RX4 35 "PetrolBoard$Loads" "toStation" "[I") (me_s (me_l (List.mem_of_getElem? (i := 3) rfl)))) (fun _ h => h) rfl dX4_shorten_108 ?_
                        refine lv_iload_n hx hb dX4_shorten_111 rfl (lv_at hl 2 rfl) ?_
                        refine z_iald (i := 57) hx hb hK hW rfl (z_ix rfl (by omega) (by omega)) dX4_shorten_112 ?_
                        refine z_topi (v := x163) ex163.symm ?_
                        refine lv_iload hx hb dX4_shorten_113 (lv_at hl 1 rfl) ?_
                        refine lv_isub hx hb dX4_shorten_115 ?_
                        refine lv_topi (fun x172 ex172 => ?_)
                        have tx172 : x172.toInt = x163.toInt - x17.toInt := z_tsub ex172 rfl rfl (by omega) (by omega)
                        refine lv_aload_n hx hb dX4_shorten_116 rfl (lv_at hl 4 rfl) ?_
                        refine z_get (T := TX4) (N := 13) (ci := 4) (i := 41) (v := .ref (ad 56)) hx hb hts zj_X4_shorten_X4 hown hK hW rfl rfl 6 (by decide) (hts (.fieldLink RX4 32 "PetrolBoard$Loads" "toPort" "[I") (me_s (me_l (List.mem_of_getElem? (i := 1) rfl)))) (fun _ h => h) rfl dX4_shorten_117 ?_
                        refine lv_iload_n hx hb dX4_shorten_120 rfl (lv_at hl 3 rfl) ?_
                        refine z_iald (i := 56) hx hb hK hW rfl (z_ix rfl (by omega) (by omega)) dX4_shorten_121 ?_
                        refine z_topi (v := x63) (by rw [eI146, z_up_n (by decide), eI144, z_up_n (by decide)]; exact ex63.symm) ?_
                        refine lv_icmp_ge (tgt := 149) hx hb dX4_shorten_122 (by decide) (fun c173 => ?_) (fun c173 => ?_)
                        · have g174 := z_f_ge rfl rfl c173
                          have hC175 : zy_CX I (5 + y9.toNatClampNeg) (1 + y2.toNatClampNeg) = -x17.toInt := by rw [zy_CX_3 hpl hsl, hm18]
                          have hH176 := zy_st_n (tl' := (40 * (k : Int) + 10 * y2.toInt + y9.toInt) + 1) (tu' := (40 * (k : Int) + 10 * y2.toInt + y9.toInt) + 1) (dn' := (zy_dn y2.toNatClampNeg (y9.toNatClampNeg + 1))) hH149 (a := (5 + y9.toNatClampNeg)) (z := (1 + y2.toNatClampNeg)) (by omega) (by omega) (fun hf hr => by rw [zy_r2_3 hpl hsl] at hr; omega) (fun u v q => by show (zy_dn y2.toNatClampNeg y9.toNatClampNeg u v ∨ (u = (1 + y2.toNatClampNeg) ∧ v = (5 + y9.toNatClampNeg))) ∨ (u = (5 + y9.toNatClampNeg) ∧ v = (1 + y2.toNatClampNeg)); unfold zy_dn at q ⊢; omega) (by omega) (by omega)
                          obtain ⟨x177, ex177⟩ : ∃ y : Int32, y = y9 + 1 := ⟨_, rfl⟩
                          have tx177 : x177.toInt = y9.toInt + 1 := z_tadd ex177 rfl z_l1 (by omega) (by omega)
                          refine lv_iinc (v := x177) (lv' := [(3, .int x177), (1, .int 1), (4, .int x17), (2, .int y2), (0, .ref (ad 41))]) hx hb dX4_shorten_149 hl (k := 2) rfl (by rw [ex177]; rfl) (by decide) rfl (fun ls hl => ?_)
                          refine lv_goto (tgt := 11) hx hb dX4_shorten_152 (by decide) ?_
                          exact lp8ih x177 (1) I146  _ _ _ (by omega) (by omega) (by omega) (by rw [z_l1]; omega) (by rw [z_l1]; omega) (zy_st_d hH176 (fun u v q => by rw [z_ss (x := y9) (y := x177) (by omega) (by omega)] at q; exact q) (by omega) (by omega)) f147 hW hS (lv_sub hl [0, 3, 1, 4] rfl)
                        · have g178 := z_f_nge rfl rfl c173
                          refine lv_aload_n hx hb dX4_shorten_125 rfl (lv_at hl 4 rfl) ?_
                          refine z_get (T := TX4) (N := 13) (ci := 4) (i := 41) (v := .ref (ad 56)) hx hb hts zj_X4_shorten_X4 hown hK hW rfl rfl 6 (by decide) (hts (.fieldLink RX4 32 "PetrolBoard$Loads" "toPort" "[I") (me_s (me_l (List.mem_of_getElem? (i := 1) rfl)))) (fun _ h => h) rfl dX4_shorten_126 ?_
                          refine lv_iload_n hx hb dX4_shorten_129 rfl (lv_at hl 3 rfl) ?_
                          refine lv_aload_n hx hb dX4_shorten_130 rfl (lv_at hl 4 rfl) ?_
                          refine z_get (T := TX4) (N := 13) (ci := 4) (i := 41) (v := .ref (ad 57)) hx hb hts zj_X4_shorten_X4 hown hK hW rfl rfl 7 (by decide) (hts (.fieldLink RX4 35 "PetrolBoard$Loads" "toStation" "[I") (me_s (me_l (List.mem_of_getElem? (i := 3) rfl)))) (fun _ h => h) rfl dX4_shorten_131 ?_
                          refine lv_iload_n hx hb dX4_shorten_134 rfl (lv_at hl 2 rfl) ?_
                          refine z_iald (i := 57) hx hb hK hW rfl (z_ix rfl (by omega) (by omega)) dX4_shorten_135 ?_
                          refine z_topi (v := x163) ex163.symm ?_
                          refine lv_iload hx hb dX4_shorten_136 (lv_at hl 1 rfl) ?_
                          refine lv_isub hx hb dX4_shorten_138 ?_
                          refine lv_topi (fun x179 ex179 => ?_)
                          have tx179 : x179.toInt = x163.toInt - x17.toInt := z_tsub ex179 rfl rfl (by omega) (by omega)
                          refine z_iast (i := 56) hx hb hK hW hS rfl (z_ix rfl (by omega) (by omega)) dX4_shorten_139 (fun H locs hz1 hW hS => ?_)
                          obtain ⟨I180, eI180⟩ : ∃ K : z_I, K = z_up I146 56 y2.toNatClampNeg x179 := ⟨_, rfl⟩
                          rw [← eI180] at hW
                          have f181 := z_fr_a f147 (show z_wa L_X4_shorten_y 56 = true by decide) eI180
                          refine lv_aload_n hx hb dX4_shorten_140 rfl (lv_at hl 4 rfl) ?_
                          refine z_get (T := TX4) (N := 13) (ci := 4) (i := 41) (v := .ref (ad 59)) hx hb hts zj_X4_shorten_X4 hown hK hW rfl rfl 9 (by decide) (hts (.fieldLink RX4 41 "PetrolBoard$Loads" "byStation" "[I") (me_s (me_l (List.mem_of_getElem? (i := 6) rfl)))) (fun _ h => h) rfl dX4_shorten_141 ?_
                          refine lv_iload_n hx hb dX4_shorten_144 rfl (lv_at hl 3 rfl) ?_
                          refine lv_iload_n hx hb dX4_shorten_145 rfl (lv_at hl 2 rfl) ?_
                          refine z_iast (i := 59) hx hb hK hW hS rfl (z_ix rfl (by omega) (by omega)) dX4_shorten_146 (fun H locs hz1 hW hS => ?_)
                          obtain ⟨I182, eI182⟩ : ∃ K : z_I, K = z_up I180 59 y2.toNatClampNeg y9 := ⟨_, rfl⟩
                          rw [← eI182] at hW
                          have f183 := z_fr_a f181 (show z_wa L_X4_shorten_y 59 = true by decide) eI182
                          refine lv_iconst (v := 1) hx hb dX4_shorten_147 (by decide) ?_
                          refine lv_istore_n (lv' := [(1, .int 1), (4, .int x17), (3, .int y9), (2, .int y2), (0, .ref (ad 41))]) hx hb dX4_shorten_148 rfl hl (by decide) rfl (fun ls hl => ?_)
                          have hC184 : zy_CX I (5 + y9.toNatClampNeg) (1 + y2.toNatClampNeg) = -x17.toInt := by rw [zy_CX_3 hpl hsl, hm18]
                          have hu186 := zy_upP eI180 eI182 rfl rfl hpl (by omega)
                          have hH185 := zy_st_w (x' := (1 : Int32).toInt) (tl' := (40 * (k : Int) + 10 * y2.toInt + y9.toInt) + 1) (tu' := (40 * (k : Int) + 10 * y2.toInt + y9.toInt) + 1) (dn' := (zy_dn y2.toNatClampNeg (y9.toNatClampNeg + 1))) (zy_r2_p hpt) hH149 (a := (5 + y9.toNatClampNeg)) (z := (1 + y2.toNatClampNeg)) (by omega) (by omega) (by omega) (by rw [zy_r2_3 hpl hsl, ← hm155]; omega) (by omega) (hu186.1.trans (by omega)) hu186.2.1 hu186.2.2.1 hu186.2.2.2 (by decide) (fun u v q => by show (zy_dn y2.toNatClampNeg y9.toNatClampNeg u v ∨ (u = (1 + y2.toNatClampNeg) ∧ v = (5 + y9.toNatClampNeg))) ∨ (u = (5 + y9.toNatClampNeg) ∧ v = (1 + y2.toNatClampNeg)); unfold zy_dn at q ⊢; omega) ⟨by omega, by omega⟩ ⟨by omega, by omega⟩
                          obtain ⟨x187, ex187⟩ : ∃ y : Int32, y = y9 + 1 := ⟨_, rfl⟩
                          have tx187 : x187.toInt = y9.toInt + 1 := z_tadd ex187 rfl z_l1 (by omega) (by omega)
                          refine lv_iinc (v := x187) (lv' := [(3, .int x187), (1, .int 1), (4, .int x17), (2, .int y2), (0, .ref (ad 41))]) hx hb dX4_shorten_149 hl (k := 2) rfl (by rw [ex187]; rfl) (by decide) rfl (fun ls hl => ?_)
                          refine lv_goto (tgt := 11) hx hb dX4_shorten_152 (by decide) ?_
                          exact lp8ih x187 (1) I182  _ _ _ (by omega) (by omega) (by omega) (by rw [z_l1]; omega) (by rw [z_l1]; omega) (zy_st_d hH185 (fun u v q => by rw [z_ss (x := y9) (y := x187) (by omega) (by omega)] at q; exact q) (by omega) (by omega)) f183 hW hS (lv_sub hl [0, 3, 1, 4] rfl)
        exact lp8 4294967296 (0) y3 I4  _ _ _ (z_m0u _) (by rw [z_l0]; omega) (by rw [z_l0]; omega) (by omega) (by omega) (zy_st_d lp1H (fun u v q => by rw [z_n0] at q; exact q) (by rw [z_l0]; omega) (by rw [z_l0]; omega)) lp1fr hW hS (lv_sub hl [0, 1, 2, 3] rfl)
  exact lp1 4294967296 (0) (0) I  _ _ _ (z_m0u _) (by rw [z_l0]; omega) (by rw [z_l0]; omega) (by rw [z_l0]; omega) (by rw [z_l0]; omega) (zy_st_x hst (fun u v q => by rw [z_n0] at q; exact q) z_l0.symm (by rw [z_l0]; omega) (by rw [z_l0]; omega)) z_fr_0 hW hS (lv_sub hl [0, 1, 2] rfl)
noncomputable def L_X4_cheapestEnd_y : z_L := [(56, 999), (57, 999), (58, 999), (59, 999)]
set_option maxHeartbeats 8000000 in
set_option maxRecDepth 100000 in
theorem sx_X4_cheapestEnd_y (l : Launch) (G : z_G) (ad : Nat → Nat) (c : z_C) (I : z_I) (sh : Int) (hSX : zy_SX I sh) : z_M l yX4_cheapestEnd wsX4_cheapestEnd { frames := 2, cells := 0, slots := 0, locals := 36 } [.ref (ad 41)] G (shC c, ad, I, JX, PC c ad) (fun r u1 => ∃ I1 : z_I, u1 = (shC c, ad, I1, JX, PC c ad) ∧ z_fr L_X4_cheapestEnd_y I1 I ∧ ((r.toInt = -1 ∧ zy_op (zy_RX I1 sh) (zy_CX I1)) ∨ (0 ≤ r.toInt ∧ r.toInt ≤ 9 ∧ zy_wy I1 sh r.toInt.toNat))) 0 0 := by
  intro sz
  refine z_headQ (cc := cX4_cheapestEnd) (maxL := 5) (ret := (some .int)) (by decide) rfl (Nat.le_of_ble_eq_true rfl) ?_
  intro p e s m below meth c0 ls hIn hK hsz hW hl
  obtain ⟨hx, hb, hr, hml, hown, hts, hlocks, hname⟩ := hIn
  subst hsz
  have hown : s.vm.findClass RX4 = some m.cls := hown
  have hA : ∀ q : Nat, s.heap.size ≤ q → z_A (shC c, ad, I, JX, PC c ad) s.heap.size q := fun q h => Or.inr h
  generalize hAe : z_A (shC c, ad, I, JX, PC c ad) s.heap.size = A at *
  have hS : va_S A s.heap s.heap [] := va_S.rf
  have hl : lv_has ls 5 [(0, .ref (ad 41))] := hl
  obtain ⟨pi, hpt⟩ := id hSX.2.2
  obtain ⟨d, rk, hcd⟩ := z_ex (zy_r2_p hpt)
  refine lv_iconst (v := 0) hx hb dX4_cheapestEnd_0 (by decide) ?_
  refine lv_istore_n (lv' := [(1, .int 0), (0, .ref (ad 41))]) hx hb dX4_cheapestEnd_1 rfl hl (by decide) rfl (fun ls hl => ?_)
  have lp1 : ∀ (f : Nat) (y2 : Int32) (I3 : z_I) (H : Heap) (locs : List Loc) (ls : Array Slot), (2147483647 < y2.toInt + (f : Int)) → (0 ≤ y2.toInt) → (y2.toInt ≤ 4) → (∀ q : Nat, q < y2.toNatClampNeg → (0 < (I 54 q).toInt → (I3 56 q).toInt = 0) ∧ (¬ 0 < (I 54 q).toInt → (I3 56 q).toInt = 1000000) ∧ (I3 59 q).toInt = -1) → (z_fr L_X4_cheapestEnd_y I3 I) → z_W G A (shC c, ad, I3, JX, PC c ad) H → va_S A s.heap H locs → lv_has ls 5 [(1, .int y2), (0, .ref (ad 41))] → W p l e (headSpec wsX4_cheapestEnd { frames := 2, cells := 0, slots := 0, locals := 36 }).room s m ([.ref (ad 41)] : List Value).toArray below meth c0 H locs 0 0 (MQ below (va_Qi (fun (r : Int32) (u1 : z_U) => ∃ I1 : z_I, u1 = (shC c, ad, I1, JX, PC c ad) ∧ z_fr L_X4_cheapestEnd_y I1 I ∧ ((r.toInt = -1 ∧ zy_op (zy_RX I1 sh) (zy_CX I1)) ∨ (0 ≤ r.toInt ∧ r.toInt ≤ 9 ∧ zy_wy I1 sh r.toInt.toNat))) (z_B G A) A) ([.ref (ad 41)] : List Value).toArray s 0 0 A) (F0 m 2 ls []) := by
    intro f
    induction f with
    | zero => intro y2 I3  H locs ls lp1m lp1l1 lp1u1 lp1A lp1fr hW hS hl; exact absurd lp1m (by have := Int32.toInt_lt y2; have := Int32.le_toInt y2; omega)
    | succ f lp1ih =>
      intro y2 I3  H locs ls lp1m lp1l1 lp1u1 lp1A lp1fr hW hS hl
      refine lv_iload_n hx hb dX4_cheapestEnd_2 rfl (lv_at hl 0 rfl) ?_
      refine lv_iconst (v := 4) hx hb dX4_cheapestEnd_3 (by decide) ?_
      refine lv_icmp_ge (tgt := 41) hx hb dX4_cheapestEnd_4 (by decide) (fun c4 => ?_) (fun c4 => ?_)
      · have g5 := z_f_ge rfl z_l4 c4
        refine lv_aload_n hx hb dX4_cheapestEnd_41 rfl (lv_at hl 1 rfl) ?_
        refine z_get (T := TX4) (N := 13) (ci := 4) (i := 41) (v := .ref (ad 57)) hx hb hts zj_X4_cheapestEnd_X4 hown hK hW rfl rfl 7 (by decide) (hts (.fieldLink RX4 35 "PetrolBoard$Loads" "toStation" "[I") (me_s (me_l (List.mem_of_getElem? (i := 4) rfl)))) (fun _ h => h) rfl dX4_cheapestEnd_42 ?_
        refine lv_ldc (v := 1000000) hx hb hown (hts (.constant RX4 72 (1000000)) (me_s (me_l (List.mem_of_getElem? (i := 2) rfl)))) dX4_cheapestEnd_45 ?_
        refine z_cc hW hS hA (va_runS (As := [.ref (ad 57), .int 1000000]) (rest := []) ⟨hx, hb, hml, hown, hts⟩ (ct_fill l G 57 10 1000000 rfl (by decide) _) (va_cwS 2 hts gX4_cheapestEnd_J7_fill_53178 rfl rfl rfl (by decide +kernel) ⟨Nat.le_of_ble_eq_true rfl, Nat.le_of_ble_eq_true rfl⟩) (z_preS hK hW) rfl rfl hl.1 rfl (lv_room (Nat.le_of_ble_eq_true rfl)) dX4_cheapestEnd_47 ⟨Nat.le_of_ble_eq_true rfl, Nat.le_of_ble_eq_true rfl⟩) (fun H locs hz1 hW hS => ?_)
        obtain ⟨I6, eI6⟩ : ∃ K : z_I, K = z_fi I3 57 1000000 := ⟨_, rfl⟩
        rw [← eI6] at hW
        have f7 := z_fr_f lp1fr (show z_wa L_X4_cheapestEnd_y 57 = true by decide) eI6
        refine lv_aload_n hx hb dX4_cheapestEnd_50 rfl (lv_at hl 1 rfl) ?_
        refine z_get (T := TX4) (N := 13) (ci := 4) (i := 41) (v := .ref (ad 58)) hx hb hts zj_X4_cheapestEnd_X4 hown hK hW rfl rfl 8 (by decide) (hts (.fieldLink RX4 38 "PetrolBoard$Loads" "byPort" "[I") (me_s (me_l (List.mem_of_getElem? (i := 5) rfl)))) (fun _ h => h) rfl dX4_cheapestEnd_51 ?_
        refine lv_iconst (v := (-1)) hx hb dX4_cheapestEnd_54 (by decide) ?_
        refine z_cc hW hS hA (va_runS (As := [.ref (ad 58), .int (-1)]) (rest := []) ⟨hx, hb, hml, hown, hts⟩ (ct_fill l G 58 10 (-1) rfl (by decide) _) (va_cwS 2 hts gX4_cheapestEnd_J7_fill_53178 rfl rfl rfl (by decide +kernel) ⟨Nat.le_of_ble_eq_true rfl, Nat.le_of_ble_eq_true rfl⟩) (z_preS hK hW) rfl rfl hl.1 rfl (lv_room (Nat.le_of_ble_eq_true rfl)) dX4_cheapestEnd_55 ⟨Nat.le_of_ble_eq_true rfl, Nat.le_of_ble_eq_true rfl⟩) (fun H locs hz1 hW hS => ?_)
        obtain ⟨I8, eI8⟩ : ∃ K : z_I, K = z_fi I6 58 (-1) := ⟨_, rfl⟩
        rw [← eI8] at hW
        have f9 := z_fr_f f7 (show z_wa L_X4_cheapestEnd_y 58 = true by decide) eI8
        refine lv_iconst (v := 1) hx hb dX4_cheapestEnd_58 (by decide) ?_
        refine lv_istore_n (lv' := [(1, .int 1), (0, .ref (ad 41))]) hx hb dX4_cheapestEnd_59 rfl hl (by decide) rfl (fun ls hl => ?_)
        refine lv_iconst (v := 0) hx hb dX4_cheapestEnd_60 (by decide) ?_
        refine lv_istore_n (lv' := [(2, .int 0), (1, .int 1), (0, .ref (ad 41))]) hx hb dX4_cheapestEnd_61 rfl hl (by decide) rfl (fun ls hl => ?_)
        have lp10 : ∀ (f : Nat) (y11 : Int32) (y12 : Int32) (I13 : z_I) (H : Heap) (locs : List Loc) (ls : Array Slot), (2147483647 < y11.toInt + (f : Int)) → (0 ≤ y11.toInt) → (y11.toInt ≤ 15) → (0 ≤ y12.toInt) → (y12.toInt ≤ 1) → (zy_rd (zy_r2 (zy_RX I sh)) (zy_CX I) pi d rk (zy_FX I13) (zy_BX I13) y11.toNatClampNeg y12.toInt) → (z_fr L_X4_cheapestEnd_y I13 I) → z_W G A (shC c, ad, I13, JX, PC c ad) H → va_S A s.heap H locs → lv_has ls 5 [(2, .int y11), (1, .int y12), (0, .ref (ad 41))] → W p l e (headSpec wsX4_cheapestEnd { frames := 2, cells := 0, slots := 0, locals := 36 }).room s m ([.ref (ad 41)] : List Value).toArray below meth c0 H locs 0 0 (MQ below (va_Qi (fun (r : Int32) (u1 : z_U) => ∃ I1 : z_I, u1 = (shC c, ad, I1, JX, PC c ad) ∧ z_fr L_X4_cheapestEnd_y I1 I ∧ ((r.toInt = -1 ∧ zy_op (zy_RX I1 sh) (zy_CX I1)) ∨ (0 ≤ r.toInt ∧ r.toInt ≤ 9 ∧ zy_wy I1 sh r.toInt.toNat))) (z_B G A) A) ([.ref (ad 41)] : List Value).toArray s 0 0 A) (F0 m 62 ls []) := by
          intro f
          induction f with
          | zero => intro y11 y12 I13  H locs ls lp10m lp10l2 lp10u2 lp10l1 lp10u1 lp10R lp10fr hW hS hl; exact absurd lp10m (by have := Int32.toInt_lt y11; have := Int32.le_toInt y11; omega)
          | succ f lp10ih =>
            intro y11 y12 I13  H locs ls lp10m lp10l2 lp10u2 lp10l1 lp10u1 lp10R lp10fr hW hS hl
            refine lv_iload_n hx hb dX4_cheapestEnd_62 rfl (lv_at hl 0 rfl) ?_
            refine lv_bipush (v := 14) hx hb dX4_cheapestEnd_63 (by decide) ?_
            refine lv_icmp_gt (tgt := 83) hx hb dX4_cheapestEnd_65 (by decide) (fun c14 => ?_) (fun c14 => ?_)
            · have g15 := z_f_gt rfl z_l14 c14
              have hcv := zy_rd_e (zy_r2_p hpt) hcd lp10R (by have q8 := z_clt (x := y11) rfl (by omega); omega) (by have q8 := z_clt (x := y11) rfl (by omega); first | exact Or.inl (by omega) | exact Or.inr (by omega))
              refine lv_iconst (v := (-1)) hx hb dX4_cheapestEnd_83 (by decide) ?_
              refine lv_istore_n (lv' := [(2, .int (-1)), (1, .int y12), (0, .ref (ad 41))]) hx hb dX4_cheapestEnd_84 rfl hl (by decide) rfl (fun ls hl => ?_)
              refine lv_iconst (v := 0) hx hb dX4_cheapestEnd_85 (by decide) ?_
              refine lv_istore_n (lv' := [(3, .int 0), (2, .int (-1)), (1, .int y12), (0, .ref (ad 41))]) hx hb dX4_cheapestEnd_86 rfl hl (by decide) rfl (fun ls hl => ?_)
              have lp16 : ∀ (f : Nat) (y17 : Int32) (y18 : Int32) (H : Heap) (locs : List Loc) (ls : Array Slot), (2147483647 < y17.toInt + (f : Int)) → (0 ≤ y17.toInt) → (y17.toInt ≤ 10) → ((-1) ≤ y18.toInt) → (y18.toInt ≤ 9) → (zy_bs I13 (zy_FX I13) y18.toInt y17.toNatClampNeg) → z_W G A (shC c, ad, I13, JX, PC c ad) H → va_S A s.heap H locs → lv_has ls 5 [(3, .int y17), (2, .int y18), (1, .int y12), (0, .ref (ad 41))] → W p l e (headSpec wsX4_cheapestEnd { frames := 2, cells := 0, slots := 0, locals := 36 }).room s m ([.ref (ad 41)] : List Value).toArray below meth c0 H locs 0 0 (MQ below (va_Qi (fun (r : Int32) (u1 : z_U) => ∃ I1 : z_I, u1 = (shC c, ad, I1, JX, PC c ad) ∧ z_fr L_X4_cheapestEnd_y I1 I ∧ ((r.toInt = -1 ∧ zy_op (zy_RX I1 sh) (zy_CX I1)) ∨ (0 ≤ r.toInt ∧ r.toInt ≤ 9 ∧ zy_wy I1 sh r.toInt.toNat))) (z_B G A) A) ([.ref (ad 41)] : List Value).toArray s 0 0 A) (F0 m 87 ls []) := by
                intro f
                induction f with
                | zero => intro y17 y18 H locs ls lp16m lp16l3 lp16u3 lp16l2 lp16u2 lp16B hW hS hl; exact absurd lp16m (by have := Int32.toInt_lt y17; have := Int32.le_toInt y17; omega)
                | succ f lp16ih =>
                  intro y17 y18 H locs ls lp16m lp16l3 lp16u3 lp16l2 lp16u2 lp16B hW hS hl
                  refine lv_iload_n hx hb dX4_cheapestEnd_87 rfl (lv_at hl 0 rfl) ?_
                  refine lv_bipush (v := 10) hx hb dX4_cheapestEnd_88 (by decide) ?_
                  refine lv_icmp_ge (tgt := 153) hx hb dX4_cheapestEnd_90 (by decide) (fun c19 => ?_) (fun c19 => ?_)
                  · have g20 := z_f_ge rfl z_l10 c19
                    refine lv_iload_n hx hb dX4_cheapestEnd_153 rfl (lv_at hl 1 rfl) ?_
                    exact z_iret hx hb hr hK hS (Nat.le_of_ble_eq_true rfl) (Nat.le_of_ble_eq_true rfl) hlocks dX4_cheapestEnd_154 (shC c, ad, I13, JX, PC c ad) hW ⟨I13, rfl, lp10fr, (zy_ce hSX hpt (zy_RX_f lp10fr (by decide)) (zy_CX_f lp10fr (by decide)) (fun j => lp10fr 55 j (z_wr_c (by decide))) hcv (by have q8 := z_clt (x := y17) rfl (by omega); have q9 := lp16B; rw [show y17.toNatClampNeg = 10 by omega] at q9; exact q9))⟩
                  · have g21 := z_f_nge rfl z_l10 c19
                    refine lv_aload_n hx hb dX4_cheapestEnd_93 rfl (lv_at hl 3 rfl) ?_
                    refine z_get (T := TX4) (N := 13) (ci := 4) (i := 41) (v := .ref (ad 55)) hx hb hts zj_X4_cheapestEnd_X4 hown hK hW rfl rfl 5 (by decide) (hts (.fieldLink RX4 29 "PetrolBoard$Loads" "lacking" "[I") (me_s (me_l (List.mem_of_getElem? (i := 6) rfl)))) (fun _ h => h) rfl dX4_cheapestEnd_94 ?_
                    refine lv_iload_n hx hb dX4_cheapestEnd_97 rfl (lv_at hl 0 rfl) ?_
                    refine z_iald (i := 55) hx hb hK hW rfl (z_ix rfl (by omega) (by omega)) dX4_cheapestEnd_98 ?_
                    refine lv_topi (fun x22 ex22 => ?_)
                    have hl23 : x22.toInt = (I13 55 y17.toNatClampNeg).toInt := by rw [ex22]
                    refine lv_if_le (tgt := 117) hx hb dX4_cheapestEnd_99 (by decide) (fun c24 => ?_) (fun c24 => ?_)
                    · have g25 := z_f_le rfl z_l0 c24
                      have b26 := Int32.toInt_lt x22
                      refine lv_iconst (v := 0) hx hb dX4_cheapestEnd_117 (by decide) ?_
                      refine lv_istore (lv' := [(4, .int 0), (3, .int y17), (2, .int y18), (1, .int y12), (0, .ref (ad 41))]) hx hb dX4_cheapestEnd_118 hl (by decide) rfl (fun ls hl => ?_)
                      refine lv_iload hx hb dX4_cheapestEnd_120 (lv_at hl 0 rfl) ?_
                      refine lv_if_eq (tgt := 147) hx hb dX4_cheapestEnd_122 (by decide) (fun c27 => ?_) (fun c27 => absurd (by decide) c27)
                      obtain ⟨x28, ex28⟩ : ∃ y : Int32, y = y17 + 1 := ⟨_, rfl⟩
                      have tx28 : x28.toInt = y17.toInt + 1 := z_tadd ex28 rfl z_l1 (by omega) (by omega)
                      refine lv_iinc (v := x28) (lv' := [(3, .int x28), (4, .int 0), (2, .int y18), (1, .int y12), (0, .ref (ad 41))]) hx hb dX4_cheapestEnd_147 hl (k := 1) rfl (by rw [ex28]; rfl) (by decide) rfl (fun ls hl => ?_)
                      refine lv_goto (tgt := 87) hx hb dX4_cheapestEnd_150 (by decide) ?_
                      exact lp16ih x28 y18 _ _ _ (by omega) (by omega) (by omega) (by omega) (by omega) (by have c9 := z_clt (x := y17) rfl (by omega); rw [z_ss (x := y17) (y := x28) (by omega) (by omega)]; exact zy_bs_n lp16B (fun z9 => by omega)) hW hS (lv_sub hl [0, 2, 3, 4] rfl)
                    · have g29 := z_f_nle rfl z_l0 c24
                      have b30 := Int32.toInt_lt x22
                      refine lv_aload_n hx hb dX4_cheapestEnd_102 rfl (lv_at hl 3 rfl) ?_
                      refine z_get (T := TX4) (N := 13) (ci := 4) (i := 41) (v := .ref (ad 57)) hx hb hts zj_X4_cheapestEnd_X4 hown hK hW rfl rfl 7 (by decide) (hts (.fieldLink RX4 35 "PetrolBoard$Loads" "toStation" "[I") (me_s (me_l (List.mem_of_getElem? (i := 4) rfl)))) (fun _ h => h) rfl dX4_cheapestEnd_103 ?_
                      refine lv_iload_n hx hb dX4_cheapestEnd_106 rfl (lv_at hl 0 rfl) ?_
                      refine z_iald (i := 57) hx hb hK hW rfl (z_ix rfl (by omega) (by omega)) dX4_cheapestEnd_107 ?_
                      refine lv_topi (fun x31 ex31 => ?_)
                      have hf32 : zy_FX I13 (5 + y17.toNatClampNeg) = x31.toInt := by rw [zy_FX_s (by have q8 := z_clt (x := y17) rfl (by omega); omega), ex31]
                      have hf33 : zy_FX I13 (5 + y17.toInt.toNat) = x31.toInt := hf32
                      refine lv_ldc (v := 1000000) hx hb hown (hts (.constant RX4 72 (1000000)) (me_s (me_l (List.mem_of_getElem? (i := 2) rfl)))) dX4_cheapestEnd_108 ?_
                      refine lv_icmp_ge (tgt := 117) hx hb dX4_cheapestEnd_110 (by decide) (fun c34 => ?_) (fun c34 => ?_)
                      · have g35 := z_f_ge rfl z_l1000000 c34
                        have b36 := Int32.toInt_lt x31
                        refine lv_iconst (v := 0) hx hb dX4_cheapestEnd_117 (by decide) ?_
                        refine lv_istore (lv' := [(4, .int 0), (3, .int y17), (2, .int y18), (1, .int y12), (0, .ref (ad 41))]) hx hb dX4_cheapestEnd_118 hl (by decide) rfl (fun ls hl => ?_)
                        refine lv_iload hx hb dX4_cheapestEnd_120 (lv_at hl 0 rfl) ?_
                        refine lv_if_eq (tgt := 147) hx hb dX4_cheapestEnd_122 (by decide) (fun c37 => ?_) (fun c37 => absurd (by decide) c37)
                        obtain ⟨x38, ex38⟩ : ∃ y : Int32, y = y17 + 1 := ⟨_, rfl⟩
                        have tx38 : x38.toInt = y17.toInt + 1 := z_tadd ex38 rfl z_l1 (by omega) (by omega)
                        refine lv_iinc (v := x38) (lv' := [(3, .int x38), (4, .int 0), (2, .int y18), (1, .int y12), (0, .ref (ad 41))]) hx hb dX4_cheapestEnd_147 hl (k := 1) rfl (by rw [ex38]; rfl) (by decide) rfl (fun ls hl => ?_)
                        refine lv_goto (tgt := 87) hx hb dX4_cheapestEnd_150 (by decide) ?_
                        exact lp16ih x38 y18 _ _ _ (by omega) (by omega) (by omega) (by omega) (by omega) (by have c9 := z_clt (x := y17) rfl (by omega); rw [z_ss (x := y17) (y := x38) (by omega) (by omega)]; exact zy_bs_n lp16B (fun z9 => by omega)) hW hS (lv_sub hl [0, 2, 3, 4] rfl)
                      · have g39 := z_f_nge rfl z_l1000000 c34
                        have b40 := Int32.toInt_lt x31
                        refine lv_iconst (v := 1) hx hb dX4_cheapestEnd_113 (by decide) ?_
                        refine lv_goto (tgt := 118) hx hb dX4_cheapestEnd_114 (by decide) ?_
                        refine lv_istore (lv' := [(4, .int 1), (3, .int y17), (2, .int y18), (1, .int y12), (0, .ref (ad 41))]) hx hb dX4_cheapestEnd_118 hl (by decide) rfl (fun ls hl => ?_)
                        refine lv_iload hx hb dX4_cheapestEnd_120 (lv_at hl 0 rfl) ?_
                        refine lv_if_eq (tgt := 147) hx hb dX4_cheapestEnd_122 (by decide) (fun c41 => absurd c41 (by decide)) (fun c41 => ?_)
                        refine lv_iload_n hx hb dX4_cheapestEnd_125 rfl (lv_at hl 2 rfl) ?_
                        refine lv_iconst (v := (-1)) hx hb dX4_cheapestEnd_126 (by decide) ?_
                        refine lv_icmp_eq (tgt := 145) hx hb dX4_cheapestEnd_127 (by decide) (fun c42 => ?_) (fun c42 => ?_)
                        · have g43 := z_f_eq rfl z_lm1 c42
                          refine lv_iload_n hx hb dX4_cheapestEnd_145 rfl (lv_at hl 1 rfl) ?_
                          refine lv_istore_n (lv' := [(2, .int y17), (4, .int 1), (3, .int y17), (1, .int y12), (0, .ref (ad 41))]) hx hb dX4_cheapestEnd_146 rfl hl (by decide) rfl (fun ls hl => ?_)
                          obtain ⟨x44, ex44⟩ : ∃ y : Int32, y = y17 + 1 := ⟨_, rfl⟩
                          have tx44 : x44.toInt = y17.toInt + 1 := z_tadd ex44 rfl z_l1 (by omega) (by omega)
                          refine lv_iinc (v := x44) (lv' := [(3, .int x44), (2, .int y17), (4, .int 1), (1, .int y12), (0, .ref (ad 41))]) hx hb dX4_cheapestEnd_147 hl (k := 2) rfl (by rw [ex44]; rfl) (by decide) rfl (fun ls hl => ?_)
                          refine lv_goto (tgt := 87) hx hb dX4_cheapestEnd_150 (by decide) ?_
                          exact lp16ih x44 y17 _ _ _ (by omega) (by omega) (by omega) (by omega) (by omega) (by have c9 := z_clt (x := y17) rfl (by omega); rw [z_ss (x := y17) (y := x44) (by omega) (by omega)]; have q9 := zy_bs_y lp16B (n := y17.toNatClampNeg) (by omega) (by omega) (fun z9 => by omega); rw [c9] at q9; exact q9) hW hS (lv_sub hl [0, 1, 3, 4] rfl)
                        · have g45 := z_f_ne rfl z_lm1 c42
                          refine lv_aload_n hx hb dX4_cheapestEnd_130 rfl (lv_at hl 4 rfl) ?_
                          refine z_get (T := TX4) (N := 13) (ci := 4) (i := 41) (v := .ref (ad 57)) hx hb hts zj_X4_cheapestEnd_X4 hown hK hW rfl rfl 7 (by decide) (hts (.fieldLink RX4 35 "PetrolBoard$Loads" "toStation" "[I") (me_s (me_l (List.mem_of_getElem? (i := 4) rfl)))) (fun _ h => h) rfl dX4_cheapestEnd_131 ?_
                          refine lv_iload_n hx hb dX4_cheapestEnd_134 rfl (lv_at hl 1 rfl) ?_
                          refine z_iald (i := 57) hx hb hK hW rfl (z_ix rfl (by omega) (by omega)) dX4_cheapestEnd_135 ?_
                          refine z_topi (v := x31) ex31.symm ?_
                          refine lv_aload_n hx hb dX4_cheapestEnd_136 rfl (lv_at hl 4 rfl) ?_
                          refine z_get (T := TX4) (N := 13) (ci := 4) (i := 41) (v := .ref (ad 57)) hx hb hts zj_X4_cheapestEnd_X4 hown hK hW rfl rfl 7 (by decide) (hts (.fieldLink RX4 35 "PetrolBoard$Loads" "toStation" "[I") (me_s (me_l (List.mem_of_getElem? (i := 4) rfl)))) (fun _ h => h) rfl dX4_cheapestEnd_137 ?_
                          refine lv_iload_n hx hb dX4_cheapestEnd_140 rfl (lv_at hl 2 rfl) ?_
                          refine z_iald (i := 57) hx hb hK hW rfl (z_ix rfl (by omega) (by omega)) dX4_cheapestEnd_141 ?_
                          refine lv_topi (fun x46 ex46 => ?_)
                          have hf47 : zy_FX I13 (5 + y18.toNatClampNeg) = x46.toInt := by rw [zy_FX_s (by have q8 := z_clt (x := y18) rfl (by omega); omega), ex46]
                          have hf48 : zy_FX I13 (5 + y18.toInt.toNat) = x46.toInt := hf47
                          refine lv_icmp_ge (tgt := 147) hx hb dX4_cheapestEnd_142 (by decide) (fun c49 => ?_) (fun c49 => ?_)
                          · have g50 := z_f_ge rfl rfl c49
                            have b51 := Int32.toInt_lt x46
                            obtain ⟨x52, ex52⟩ : ∃ y : Int32, y = y17 + 1 := ⟨_, rfl⟩
                            have tx52 : x52.toInt = y17.toInt + 1 := z_tadd ex52 rfl z_l1 (by omega) (by omega)
                            refine lv_iinc (v := x52) (lv' := [(3, .int x52), (4, .int 1), (2, .int y18), (1, .int y12), (0, .ref (ad 41))]) hx hb dX4_cheapestEnd_147 hl (k := 1) rfl (by rw [ex52]; rfl) (by decide) rfl (fun ls hl => ?_)
                            refine lv_goto (tgt := 87) hx hb dX4_cheapestEnd_150 (by decide) ?_
                            exact lp16ih x52 y18 _ _ _ (by omega) (by omega) (by omega) (by omega) (by omega) (by have c9 := z_clt (x := y17) rfl (by omega); rw [z_ss (x := y17) (y := x52) (by omega) (by omega)]; exact zy_bs_n lp16B (fun z9 => by omega)) hW hS (lv_sub hl [0, 2, 3, 4] rfl)
                          · have g53 := z_f_nge rfl rfl c49
                            have b54 := Int32.toInt_lt x46
                            refine lv_iload_n hx hb dX4_cheapestEnd_145 rfl (lv_at hl 1 rfl) ?_
                            refine lv_istore_n (lv' := [(2, .int y17), (4, .int 1), (3, .int y17), (1, .int y12), (0, .ref (ad 41))]) hx hb dX4_cheapestEnd_146 rfl hl (by decide) rfl (fun ls hl => ?_)
                            obtain ⟨x55, ex55⟩ : ∃ y : Int32, y = y17 + 1 := ⟨_, rfl⟩
                            have tx55 : x55.toInt = y17.toInt + 1 := z_tadd ex55 rfl z_l1 (by omega) (by omega)
                            refine lv_iinc (v := x55) (lv' := [(3, .int x55), (2, .int y17), (4, .int 1), (1, .int y12), (0, .ref (ad 41))]) hx hb dX4_cheapestEnd_147 hl (k := 2) rfl (by rw [ex55]; rfl) (by decide) rfl (fun ls hl => ?_)
                            refine lv_goto (tgt := 87) hx hb dX4_cheapestEnd_150 (by decide) ?_
                            exact lp16ih x55 y17 _ _ _ (by omega) (by omega) (by omega) (by omega) (by omega) (by have c9 := z_clt (x := y17) rfl (by omega); rw [z_ss (x := y17) (y := x55) (by omega) (by omega)]; have q9 := zy_bs_y lp16B (n := y17.toNatClampNeg) (by omega) (by omega) (fun z9 => by omega); rw [c9] at q9; exact q9) hW hS (lv_sub hl [0, 1, 3, 4] rfl)
              exact lp16 4294967296 (0) ((-1)) _ _ _ (z_m0u _) (by rw [z_l0]; omega) (by rw [z_l0]; omega) (by rw [z_lm1]; omega) (by rw [z_lm1]; omega) (by rw [z_n0, z_lm1]; exact zy_bs_0) hW hS (lv_sub hl [0, 1, 2, 3] rfl)
            · have g56 := z_f_ngt rfl z_l14 c14
              refine lv_iload_n hx hb dX4_cheapestEnd_68 rfl (lv_at hl 1 rfl) ?_
              refine lv_if_eq (tgt := 83) hx hb dX4_cheapestEnd_69 (by decide) (fun c57 => ?_) (fun c57 => ?_)
              · have g58 := z_f_eq rfl z_l0 c57
                have hcv := zy_rd_e (zy_r2_p hpt) hcd lp10R (by have q8 := z_clt (x := y11) rfl (by omega); omega) (by have q8 := z_clt (x := y11) rfl (by omega); first | exact Or.inl (by omega) | exact Or.inr (by omega))
                refine lv_iconst (v := (-1)) hx hb dX4_cheapestEnd_83 (by decide) ?_
                refine lv_istore_n (lv' := [(2, .int (-1)), (1, .int y12), (0, .ref (ad 41))]) hx hb dX4_cheapestEnd_84 rfl hl (by decide) rfl (fun ls hl => ?_)
                refine lv_iconst (v := 0) hx hb dX4_cheapestEnd_85 (by decide) ?_
                refine lv_istore_n (lv' := [(3, .int 0), (2, .int (-1)), (1, .int y12), (0, .ref (ad 41))]) hx hb dX4_cheapestEnd_86 rfl hl (by decide) rfl (fun ls hl => ?_)
                have lp59 : ∀ (f : Nat) (y60 : Int32) (y61 : Int32) (H : Heap) (locs : List Loc) (ls : Array Slot), (2147483647 < y60.toInt + (f : Int)) → (0 ≤ y60.toInt) → (y60.toInt ≤ 10) → ((-1) ≤ y61.toInt) → (y61.toInt ≤ 9) → (zy_bs I13 (zy_FX I13) y61.toInt y60.toNatClampNeg) → z_W G A (shC c, ad, I13, JX, PC c ad) H → va_S A s.heap H locs → lv_has ls 5 [(3, .int y60), (2, .int y61), (1, .int y12), (0, .ref (ad 41))] → W p l e (headSpec wsX4_cheapestEnd { frames := 2, cells := 0, slots := 0, locals := 36 }).room s m ([.ref (ad 41)] : List Value).toArray below meth c0 H locs 0 0 (MQ below (va_Qi (fun (r : Int32) (u1 : z_U) => ∃ I1 : z_I, u1 = (shC c, ad, I1, JX, PC c ad) ∧ z_fr L_X4_cheapestEnd_y I1 I ∧ ((r.toInt = -1 ∧ zy_op (zy_RX I1 sh) (zy_CX I1)) ∨ (0 ≤ r.toInt ∧ r.toInt ≤ 9 ∧ zy_wy I1 sh r.toInt.toNat))) (z_B G A) A) ([.ref (ad 41)] : List Value).toArray s 0 0 A) (F0 m 87 ls []) := by
                  intro f
                  induction f with
                  | zero => intro y60 y61 H locs ls lp59m lp59l3 lp59u3 lp59l2 lp59u2 lp59B hW hS hl; exact absurd lp59m (by have := Int32.toInt_lt y60; have := Int32.le_toInt y60; omega)
                  | succ f lp59ih =>
                    intro y60 y61 H locs ls lp59m lp59l3 lp59u3 lp59l2 lp59u2 lp59B hW hS hl
                    refine lv_iload_n hx hb dX4_cheapestEnd_87 rfl (lv_at hl 0 rfl) ?_
                    refine lv_bipush (v := 10) hx hb dX4_cheapestEnd_88 (by decide) ?_
                    refine lv_icmp_ge (tgt := 153) hx hb dX4_cheapestEnd_90 (by decide) (fun c62 => ?_) (fun c62 => ?_)
                    · have g63 := z_f_ge rfl z_l10 c62
                      refine lv_iload_n hx hb dX4_cheapestEnd_153 rfl (lv_at hl 1 rfl) ?_
                      exact z_iret hx hb hr hK hS (Nat.le_of_ble_eq_true rfl) (Nat.le_of_ble_eq_true rfl) hlocks dX4_cheapestEnd_154 (shC c, ad, I13, JX, PC c ad) hW ⟨I13, rfl, lp10fr, (zy_ce hSX hpt (zy_RX_f lp10fr (by decide)) (zy_CX_f lp10fr (by decide)) (fun j => lp10fr 55 j (z_wr_c (by decide))) hcv (by have q8 := z_clt (x := y60) rfl (by omega); have q9 := lp59B; rw [show y60.toNatClampNeg = 10 by omega] at q9; exact q9))⟩
                    · have g64 := z_f_nge rfl z_l10 c62
                      refine lv_aload_n hx hb dX4_cheapestEnd_93 rfl (lv_at hl 3 rfl) ?_
                      refine z_get (T := TX4) (N := 13) (ci := 4) (i := 41) (v := .ref (ad 55)) hx hb hts zj_X4_cheapestEnd_X4 hown hK hW rfl rfl 5 (by decide) (hts (.fieldLink RX4 29 "PetrolBoard$Loads" "lacking" "[I") (me_s (me_l (List.mem_of_getElem? (i := 6) rfl)))) (fun _ h => h) rfl dX4_cheapestEnd_94 ?_
                      refine lv_iload_n hx hb dX4_cheapestEnd_97 rfl (lv_at hl 0 rfl) ?_
                      refine z_iald (i := 55) hx hb hK hW rfl (z_ix rfl (by omega) (by omega)) dX4_cheapestEnd_98 ?_
                      refine lv_topi (fun x65 ex65 => ?_)
                      have hl66 : x65.toInt = (I13 55 y60.toNatClampNeg).toInt := by rw [ex65]
                      refine lv_if_le (tgt := 117) hx hb dX4_cheapestEnd_99 (by decide) (fun c67 => ?_) (fun c67 => ?_)
                      · have g68 := z_f_le rfl z_l0 c67
                        have b69 := Int32.toInt_lt x65
                        refine lv_iconst (v := 0) hx hb dX4_cheapestEnd_117 (by decide) ?_
                        refine lv_istore (lv' := [(4, .int 0), (3, .int y60), (2, .int y61), (1, .int y12), (0, .ref (ad 41))]) hx hb dX4_cheapestEnd_118 hl (by decide) rfl (fun ls hl => ?_)
                        refine lv_iload hx hb dX4_cheapestEnd_120 (lv_at hl 0 rfl) ?_
                        refine lv_if_eq (tgt := 147) hx hb dX4_cheapestEnd_122 (by decide) (fun c70 => ?_) (fun c70 => absurd (by decide) c70)
                        obtain ⟨x71, ex71⟩ : ∃ y : Int32, y = y60 + 1 := ⟨_, rfl⟩
                        have tx71 : x71.toInt = y60.toInt + 1 := z_tadd ex71 rfl z_l1 (by omega) (by omega)
                        refine lv_iinc (v := x71) (lv' := [(3, .int x71), (4, .int 0), (2, .int y61), (1, .int y12), (0, .ref (ad 41))]) hx hb dX4_cheapestEnd_147 hl (k := 1) rfl (by rw [ex71]; rfl) (by decide) rfl (fun ls hl => ?_)
                        refine lv_goto (tgt := 87) hx hb dX4_cheapestEnd_150 (by decide) ?_
                        exact lp59ih x71 y61 _ _ _ (by omega) (by omega) (by omega) (by omega) (by omega) (by have c9 := z_clt (x := y60) rfl (by omega); rw [z_ss (x := y60) (y := x71) (by omega) (by omega)]; exact zy_bs_n lp59B (fun z9 => by omega)) hW hS (lv_sub hl [0, 2, 3, 4] rfl)
                      · have g72 := z_f_nle rfl z_l0 c67
                        have b73 := Int32.toInt_lt x65
                        refine lv_aload_n hx hb dX4_cheapestEnd_102 rfl (lv_at hl 3 rfl) ?_
                        refine z_get (T := TX4) (N := 13) (ci := 4) (i := 41) (v := .ref (ad 57)) hx hb hts zj_X4_cheapestEnd_X4 hown hK hW rfl rfl 7 (by decide) (hts (.fieldLink RX4 35 "PetrolBoard$Loads" "toStation" "[I") (me_s (me_l (List.mem_of_getElem? (i := 4) rfl)))) (fun _ h => h) rfl dX4_cheapestEnd_103 ?_
                        refine lv_iload_n hx hb dX4_cheapestEnd_106 rfl (lv_at hl 0 rfl) ?_
                        refine z_iald (i := 57) hx hb hK hW rfl (z_ix rfl (by omega) (by omega)) dX4_cheapestEnd_107 ?_
                        refine lv_topi (fun x74 ex74 => ?_)
                        have hf75 : zy_FX I13 (5 + y60.toNatClampNeg) = x74.toInt := by rw [zy_FX_s (by have q8 := z_clt (x := y60) rfl (by omega); omega), ex74]
                        have hf76 : zy_FX I13 (5 + y60.toInt.toNat) = x74.toInt := hf75
                        refine lv_ldc (v := 1000000) hx hb hown (hts (.constant RX4 72 (1000000)) (me_s (me_l (List.mem_of_getElem? (i := 2) rfl)))) dX4_cheapestEnd_108 ?_
                        refine lv_icmp_ge (tgt := 117) hx hb dX4_cheapestEnd_110 (by decide) (fun c77 => ?_) (fun c77 => ?_)
                        · have g78 := z_f_ge rfl z_l1000000 c77
                          have b79 := Int32.toInt_lt x74
                          refine lv_iconst (v := 0) hx hb dX4_cheapestEnd_117 (by decide) ?_
                          refine lv_istore (lv' := [(4, .int 0), (3, .int y60), (2, .int y61), (1, .int y12), (0, .ref (ad 41))]) hx hb dX4_cheapestEnd_118 hl (by decide) rfl (fun ls hl => ?_)
                          refine lv_iload hx hb dX4_cheapestEnd_120 (lv_at hl 0 rfl) ?_
                          refine lv_if_eq (tgt := 147) hx hb dX4_cheapestEnd_122 (by decide) (fun c80 => ?_) (fun c80 => absurd (by decide) c80)
                          obtain ⟨x81, ex81⟩ : ∃ y : Int32, y = y60 + 1 := ⟨_, rfl⟩
                          have tx81 : x81.toInt = y60.toInt + 1 := z_tadd ex81 rfl z_l1 (by omega) (by omega)
                          refine lv_iinc (v := x81) (lv' := [(3, .int x81), (4, .int 0), (2, .int y61), (1, .int y12), (0, .ref (ad 41))]) hx hb dX4_cheapestEnd_147 hl (k := 1) rfl (by rw [ex81]; rfl) (by decide) rfl (fun ls hl => ?_)
                          refine lv_goto (tgt := 87) hx hb dX4_cheapestEnd_150 (by decide) ?_
                          exact lp59ih x81 y61 _ _ _ (by omega) (by omega) (by omega) (by omega) (by omega) (by have c9 := z_clt (x := y60) rfl (by omega); rw [z_ss (x := y60) (y := x81) (by omega) (by omega)]; exact zy_bs_n lp59B (fun z9 => by omega)) hW hS (lv_sub hl [0, 2, 3, 4] rfl)
                        · have g82 := z_f_nge rfl z_l1000000 c77
                          have b83 := Int32.toInt_lt x74
                          refine lv_iconst (v := 1) hx hb dX4_cheapestEnd_113 (by decide) ?_
                          refine lv_goto (tgt := 118) hx hb dX4_cheapestEnd_114 (by decide) ?_
                          refine lv_istore (lv' := [(4, .int 1), (3, .int y60), (2, .int y61), (1, .int y12), (0, .ref (ad 41))]) hx hb dX4_cheapestEnd_118 hl (by decide) rfl (fun ls hl => ?_)
                          refine lv_iload hx hb dX4_cheapestEnd_120 (lv_at hl 0 rfl) ?_
                          refine lv_if_eq (tgt := 147) hx hb dX4_cheapestEnd_122 (by decide) (fun c84 => absurd c84 (by decide)) (fun c84 => ?_)
                          refine lv_iload_n hx hb dX4_cheapestEnd_125 rfl (lv_at hl 2 rfl) ?_
                          refine lv_iconst (v := (-1)) hx hb dX4_cheapestEnd_126 (by decide) ?_
                          refine lv_icmp_eq (tgt := 145) hx hb dX4_cheapestEnd_127 (by decide) (fun c85 => ?_) (fun c85 => ?_)
                          · have g86 := z_f_eq rfl z_lm1 c85
                            refine lv_iload_n hx hb dX4_cheapestEnd_145 rfl (lv_at hl 1 rfl) ?_
                            refine lv_istore_n (lv' := [(2, .int y60), (4, .int 1), (3, .int y60), (1, .int y12), (0, .ref (ad 41))]) hx hb dX4_cheapestEnd_146 rfl hl (by decide) rfl (fun ls hl => ?_)
                            obtain ⟨x87, ex87⟩ : ∃ y : Int32, y = y60 + 1 := ⟨_, rfl⟩
                            have tx87 : x87.toInt = y60.toInt + 1 := z_tadd ex87 rfl z_l1 (by omega) (by omega)
                            refine lv_iinc (v := x87) (lv' := [(3, .int x87), (2, .int y60), (4, .int 1), (1, .int y12), (0, .ref (ad 41))]) hx hb dX4_cheapestEnd_147 hl (k := 2) rfl (by rw [ex87]; rfl) (by decide) rfl (fun ls hl => ?_)
                            refine lv_goto (tgt := 87) hx hb dX4_cheapestEnd_150 (by decide) ?_
                            exact lp59ih x87 y60 _ _ _ (by omega) (by omega) (by omega) (by omega) (by omega) (by have c9 := z_clt (x := y60) rfl (by omega); rw [z_ss (x := y60) (y := x87) (by omega) (by omega)]; have q9 := zy_bs_y lp59B (n := y60.toNatClampNeg) (by omega) (by omega) (fun z9 => by omega); rw [c9] at q9; exact q9) hW hS (lv_sub hl [0, 1, 3, 4] rfl)
                          · have g88 := z_f_ne rfl z_lm1 c85
                            refine lv_aload_n hx hb dX4_cheapestEnd_130 rfl (lv_at hl 4 rfl) ?_
                            refine z_get (T := TX4) (N := 13) (ci := 4) (i := 41) (v := .ref (ad 57)) hx hb hts zj_X4_cheapestEnd_X4 hown hK hW rfl rfl 7 (by decide) (hts (.fieldLink RX4 35 "PetrolBoard$Loads" "toStation" "[I") (me_s (me_l (List.mem_of_getElem? (i := 4) rfl)))) (fun _ h => h) rfl dX4_cheapestEnd_131 ?_
                            refine lv_iload_n hx hb dX4_cheapestEnd_134 rfl (lv_at hl 1 rfl) ?_
                            refine z_iald (i := 57) hx hb hK hW rfl (z_ix rfl (by omega) (by omega)) dX4_cheapestEnd_135 ?_
                            refine z_topi (v := x74) ex74.symm ?_
                            refine lv_aload_n hx hb dX4_cheapestEnd_136 rfl (lv_at hl 4 rfl) ?_
                            refine z_get (T := TX4) (N := 13) (ci := 4) (i := 41) (v := .ref (ad 57)) hx hb hts zj_X4_cheapestEnd_X4 hown hK hW rfl rfl 7 (by decide) (hts (.fieldLink RX4 35 "PetrolBoard$Loads" "toStation" "[I") (me_s (me_l (List.mem_of_getElem? (i := 4) rfl)))) (fun _ h => h) rfl dX4_cheapestEnd_137 ?_
                            refine lv_iload_n hx hb dX4_cheapestEnd_140 rfl (lv_at hl 2 rfl) ?_
                            refine z_iald (i := 57) hx hb hK hW rfl (z_ix rfl (by omega) (by omega)) dX4_cheapestEnd_141 ?_
                            refine lv_topi (fun x89 ex89 => ?_)
                            have hf90 : zy_FX I13 (5 + y61.toNatClampNeg) = x89.toInt := by rw [zy_FX_s (by have q8 := z_clt (x := y61) rfl (by omega); omega), ex89]
                            have hf91 : zy_FX I13 (5 + y61.toInt.toNat) = x89.toInt := hf90
                            refine lv_icmp_ge (tgt := 147) hx hb dX4_cheapestEnd_142 (by decide) (fun c92 => ?_) (fun c92 => ?_)
                            · have g93 := z_f_ge rfl rfl c92
                              have b94 := Int32.toInt_lt x89
                              obtain ⟨x95, ex95⟩ : ∃ y : Int32, y = y60 + 1 := ⟨_, rfl⟩
                              have tx95 : x95.toInt = y60.toInt + 1 := z_tadd ex95 rfl z_l1 (by omega) (by omega)
                              refine lv_iinc (v := x95) (lv' := [(3, .int x95), (4, .int 1), (2, .int y61), (1, .int y12), (0, .ref (ad 41))]) hx hb dX4_cheapestEnd_147 hl (k := 1) rfl (by rw [ex95]; rfl) (by decide) rfl (fun ls hl => ?_)
                              refine lv_goto (tgt := 87) hx hb dX4_cheapestEnd_150 (by decide) ?_
                              exact lp59ih x95 y61 _ _ _ (by omega) (by omega) (by omega) (by omega) (by omega) (by have c9 := z_clt (x := y60) rfl (by omega); rw [z_ss (x := y60) (y := x95) (by omega) (by omega)]; exact zy_bs_n lp59B (fun z9 => by omega)) hW hS (lv_sub hl [0, 2, 3, 4] rfl)
                            · have g96 := z_f_nge rfl rfl c92
                              have b97 := Int32.toInt_lt x89
                              refine lv_iload_n hx hb dX4_cheapestEnd_145 rfl (lv_at hl 1 rfl) ?_
                              refine lv_istore_n (lv' := [(2, .int y60), (4, .int 1), (3, .int y60), (1, .int y12), (0, .ref (ad 41))]) hx hb dX4_cheapestEnd_146 rfl hl (by decide) rfl (fun ls hl => ?_)
                              obtain ⟨x98, ex98⟩ : ∃ y : Int32, y = y60 + 1 := ⟨_, rfl⟩
                              have tx98 : x98.toInt = y60.toInt + 1 := z_tadd ex98 rfl z_l1 (by omega) (by omega)
                              refine lv_iinc (v := x98) (lv' := [(3, .int x98), (2, .int y60), (4, .int 1), (1, .int y12), (0, .ref (ad 41))]) hx hb dX4_cheapestEnd_147 hl (k := 2) rfl (by rw [ex98]; rfl) (by decide) rfl (fun ls hl => ?_)
                              refine lv_goto (tgt := 87) hx hb dX4_cheapestEnd_150 (by decide) ?_
                              exact lp59ih x98 y60 _ _ _ (by omega) (by omega) (by omega) (by omega) (by omega) (by have c9 := z_clt (x := y60) rfl (by omega); rw [z_ss (x := y60) (y := x98) (by omega) (by omega)]; have q9 := zy_bs_y lp59B (n := y60.toNatClampNeg) (by omega) (by omega) (fun z9 => by omega); rw [c9] at q9; exact q9) hW hS (lv_sub hl [0, 1, 3, 4] rfl)
                exact lp59 4294967296 (0) ((-1)) _ _ _ (z_m0u _) (by rw [z_l0]; omega) (by rw [z_l0]; omega) (by rw [z_lm1]; omega) (by rw [z_lm1]; omega) (by rw [z_n0, z_lm1]; exact zy_bs_0) hW hS (lv_sub hl [0, 1, 2, 3] rfl)
              · have g99 := z_f_ne rfl z_l0 c57
                refine lv_aload_n hx hb dX4_cheapestEnd_72 rfl (lv_at hl 2 rfl) ?_
                refine z_ci hW hS hA (va_runV (As := []) (rest := []) ⟨hx, hb, hml, hown, hts⟩ (sx_X4_shorten_y l G ad c I13 sh pi d rk y11.toNatClampNeg (zy_SX_f hSX lp10fr (by decide) (by decide)) (by rw [zy_RX_f lp10fr (by decide), zy_CX_f lp10fr (by decide)]; exact hpt) (by have q8 := z_clt (x := y11) rfl (by omega); omega) (by rw [zy_RX_f lp10fr (by decide), zy_CX_f lp10fr (by decide)]; exact zy_rd_st lp10R) _) (cwV 0 hts gX4_cheapestEnd_X4_shorten rfl rfl rfl (by decide +kernel) ⟨Nat.le_of_ble_eq_true rfl, Nat.le_of_ble_eq_true rfl⟩) (z_preV (i := 41) hK hW rfl rfl) rfl rfl hl.1 rfl (lv_room (Nat.le_of_ble_eq_true rfl)) dX4_cheapestEnd_73 ⟨Nat.le_of_ble_eq_true rfl, Nat.le_of_ble_eq_true rfl⟩) (fun r u1 H locs hp hW hS => ?_)
                obtain ⟨I100, e9, fI100, hp⟩ := hp
                rw [e9] at hW
                have f101 := z_fr_sub (L := L_X4_cheapestEnd_y) lp10fr fI100 (by decide)
                refine lv_topi (fun x102 ex102 => ?_)
                rw [← ex102] at hp
                obtain ⟨hq103, h9⟩ := hp
                have hbx102 : 0 ≤ x102.toInt ∧ x102.toInt ≤ 1 := by rcases h9 with rfl | rfl <;> decide
                refine lv_istore_n (lv' := [(1, .int x102), (2, .int y11), (0, .ref (ad 41))]) hx hb dX4_cheapestEnd_76 rfl hl (by decide) rfl (fun ls hl => ?_)
                obtain ⟨x104, ex104⟩ : ∃ y : Int32, y = y11 + 1 := ⟨_, rfl⟩
                have tx104 : x104.toInt = y11.toInt + 1 := z_tadd ex104 rfl z_l1 (by omega) (by omega)
                refine lv_iinc (v := x104) (lv' := [(2, .int x104), (1, .int x102), (0, .ref (ad 41))]) hx hb dX4_cheapestEnd_77 hl (k := 1) rfl (by rw [ex104]; rfl) (by decide) rfl (fun ls hl => ?_)
                refine lv_goto (tgt := 62) hx hb dX4_cheapestEnd_80 (by decide) ?_
                exact lp10ih x104 x102 I100  _ _ _ (by omega) (by omega) (by omega) (by omega) (by omega) (by have q9 := hq103; rw [zy_RX_f lp10fr (by decide), zy_CX_f lp10fr (by decide)] at q9; rw [z_ss (x := y11) (y := x104) (by omega) (by omega)]; exact zy_rd_s hcd (fun u v _ _ hr => zy_R_A hr) lp10R q9) f101 hW hS (lv_sub hl [0, 1, 2] rfl)
        exact lp10 4294967296 (0) (1) I8  _ _ _ (z_m0u _) (by rw [z_l0]; omega) (by rw [z_l0]; omega) (by rw [z_l1]; omega) (by rw [z_l1]; omega) (by rw [z_n0]; exact zy_rd_0 hSX hpt hcd (fun q hq => by rw [eI8, z_fi_n (by decide), z_fi_n (by decide), eI6, z_fi_n (by decide), z_fi_n (by decide)]; exact lp1A q (by have q8 := z_clt (x := y2) rfl (by omega); omega)) (fun q hq => by rw [eI8, z_fi_n (by decide), eI6]; show (if 57 = 57 then _ else _ : Int32).toInt = _; rw [if_pos rfl]; decide) (by decide)) f9 hW hS (lv_sub hl [0, 1, 2] rfl)
      · have g105 := z_f_nge rfl z_l4 c4
        refine lv_aload_n hx hb dX4_cheapestEnd_7 rfl (lv_at hl 1 rfl) ?_
        refine z_get (T := TX4) (N := 13) (ci := 4) (i := 41) (v := .ref (ad 56)) hx hb hts zj_X4_cheapestEnd_X4 hown hK hW rfl rfl 6 (by decide) (hts (.fieldLink RX4 32 "PetrolBoard$Loads" "toPort" "[I") (me_s (me_l (List.mem_of_getElem? (i := 0) rfl)))) (fun _ h => h) rfl dX4_cheapestEnd_8 ?_
        refine lv_iload_n hx hb dX4_cheapestEnd_11 rfl (lv_at hl 0 rfl) ?_
        refine lv_aload_n hx hb dX4_cheapestEnd_12 rfl (lv_at hl 1 rfl) ?_
        refine z_get (T := TX4) (N := 13) (ci := 4) (i := 41) (v := .ref (ad 54)) hx hb hts zj_X4_cheapestEnd_X4 hown hK hW rfl rfl 4 (by decide) (hts (.fieldLink RX4 26 "PetrolBoard$Loads" "left" "[I") (me_s (me_l (List.mem_of_getElem? (i := 1) rfl)))) (fun _ h => h) rfl dX4_cheapestEnd_13 ?_
        refine lv_iload_n hx hb dX4_cheapestEnd_16 rfl (lv_at hl 0 rfl) ?_
        refine z_iald (i := 54) hx hb hK hW rfl (z_ix rfl (by omega) (by omega)) dX4_cheapestEnd_17 ?_
        refine lv_topi (fun x106 ex106 => ?_)
        have hl107 : x106.toInt = (I 54 y2.toNatClampNeg).toInt := by rw [ex106, lp1fr 54 _ (z_wr_c (by decide))]
        refine lv_if_le (tgt := 25) hx hb dX4_cheapestEnd_18 (by decide) (fun c108 => ?_) (fun c108 => ?_)
        · have g109 := z_f_le rfl z_l0 c108
          have b110 := Int32.toInt_lt x106
          refine lv_ldc (v := 1000000) hx hb hown (hts (.constant RX4 72 (1000000)) (me_s (me_l (List.mem_of_getElem? (i := 2) rfl)))) dX4_cheapestEnd_25 ?_
          refine z_iast (i := 56) hx hb hK hW hS rfl (z_ix rfl (by omega) (by omega)) dX4_cheapestEnd_27 (fun H locs hz1 hW hS => ?_)
          obtain ⟨I111, eI111⟩ : ∃ K : z_I, K = z_up I3 56 y2.toNatClampNeg 1000000 := ⟨_, rfl⟩
          rw [← eI111] at hW
          have f112 := z_fr_a lp1fr (show z_wa L_X4_cheapestEnd_y 56 = true by decide) eI111
          refine lv_aload_n hx hb dX4_cheapestEnd_28 rfl (lv_at hl 1 rfl) ?_
          refine z_get (T := TX4) (N := 13) (ci := 4) (i := 41) (v := .ref (ad 59)) hx hb hts zj_X4_cheapestEnd_X4 hown hK hW rfl rfl 9 (by decide) (hts (.fieldLink RX4 41 "PetrolBoard$Loads" "byStation" "[I") (me_s (me_l (List.mem_of_getElem? (i := 3) rfl)))) (fun _ h => h) rfl dX4_cheapestEnd_29 ?_
          refine lv_iload_n hx hb dX4_cheapestEnd_32 rfl (lv_at hl 0 rfl) ?_
          refine lv_iconst (v := (-1)) hx hb dX4_cheapestEnd_33 (by decide) ?_
          refine z_iast (i := 59) hx hb hK hW hS rfl (z_ix rfl (by omega) (by omega)) dX4_cheapestEnd_34 (fun H locs hz1 hW hS => ?_)
          obtain ⟨I113, eI113⟩ : ∃ K : z_I, K = z_up I111 59 y2.toNatClampNeg (-1) := ⟨_, rfl⟩
          rw [← eI113] at hW
          have f114 := z_fr_a f112 (show z_wa L_X4_cheapestEnd_y 59 = true by decide) eI113
          obtain ⟨x115, ex115⟩ : ∃ y : Int32, y = y2 + 1 := ⟨_, rfl⟩
          have tx115 : x115.toInt = y2.toInt + 1 := z_tadd ex115 rfl z_l1 (by omega) (by omega)
          refine lv_iinc (v := x115) (lv' := [(1, .int x115), (0, .ref (ad 41))]) hx hb dX4_cheapestEnd_35 hl (k := 0) rfl (by rw [ex115]; rfl) (by decide) rfl (fun ls hl => ?_)
          refine lv_goto (tgt := 2) hx hb dX4_cheapestEnd_38 (by decide) ?_
          exact lp1ih x115 I113  _ _ _ (by omega) (by omega) (by omega) (fun q hq => by rw [z_ss (x := y2) (y := x115) (by omega) (by omega)] at hq; by_cases q9 : q = y2.toNatClampNeg; (· (rw [q9, eI113, z_up_n (by decide), z_up_s, eI111, z_up_s]; exact ⟨fun z9 => by exfalso; omega, fun z9 => by decide, by decide⟩)); (· (rw [eI113, z_up_n (by decide), z_up_k q9, eI111, z_up_k q9, z_up_n (by decide)]; exact lp1A q (by omega)))) f114 hW hS (lv_sub hl [0, 1] rfl)
        · have g116 := z_f_nle rfl z_l0 c108
          have b117 := Int32.toInt_lt x106
          refine lv_iconst (v := 0) hx hb dX4_cheapestEnd_21 (by decide) ?_
          refine lv_goto (tgt := 27) hx hb dX4_cheapestEnd_22 (by decide) ?_
          refine z_iast (i := 56) hx hb hK hW hS rfl (z_ix rfl (by omega) (by omega)) dX4_cheapestEnd_27 (fun H locs hz1 hW hS => ?_)
          obtain ⟨I118, eI118⟩ : ∃ K : z_I, K = z_up I3 56 y2.toNatClampNeg 0 := ⟨_, rfl⟩
          rw [← eI118] at hW
          have f119 := z_fr_a lp1fr (show z_wa L_X4_cheapestEnd_y 56 = true by decide) eI118
          refine lv_aload_n hx hb dX4_cheapestEnd_28 rfl (lv_at hl 1 rfl) ?_
          refine z_get (T := TX4) (N := 13) (ci := 4) (i := 41) (v := .ref (ad 59)) hx hb hts zj_X4_cheapestEnd_X4 hown hK hW rfl rfl 9 (by decide) (hts (.fieldLink RX4 41 "PetrolBoard$Loads" "byStation" "[I") (me_s (me_l (List.mem_of_getElem? (i := 3) rfl)))) (fun _ h => h) rfl dX4_cheapestEnd_29 ?_
          refine lv_iload_n hx hb dX4_cheapestEnd_32 rfl (lv_at hl 0 rfl) ?_
          refine lv_iconst (v := (-1)) hx hb dX4_cheapestEnd_33 (by decide) ?_
          refine z_iast (i := 59) hx hb hK hW hS rfl (z_ix rfl (by omega) (by omega)) dX4_cheapestEnd_34 (fun H locs hz1 hW hS => ?_)
          obtain ⟨I120, eI120⟩ : ∃ K : z_I, K = z_up I118 59 y2.toNatClampNeg (-1) := ⟨_, rfl⟩
          rw [← eI120] at hW
          have f121 := z_fr_a f119 (show z_wa L_X4_cheapestEnd_y 59 = true by decide) eI120
          obtain ⟨x122, ex122⟩ : ∃ y : Int32, y = y2 + 1 := ⟨_, rfl⟩
          have tx122 : x122.toInt = y2.toInt + 1 := z_tadd ex122 rfl z_l1 (by omega) (by omega)
          refine lv_iinc (v := x122) (lv' := [(1, .int x122), (0, .ref (ad 41))]) hx hb dX4_cheapestEnd_35 hl (k := 0) rfl (by rw [ex122]; rfl) (by decide) rfl (fun ls hl => ?_)
          refine lv_goto (tgt := 2) hx hb dX4_cheapestEnd_38 (by decide) ?_
          exact lp1ih x122 I120  _ _ _ (by omega) (by omega) (by omega) (fun q hq => by rw [z_ss (x := y2) (y := x122) (by omega) (by omega)] at hq; by_cases q9 : q = y2.toNatClampNeg; (· (rw [q9, eI120, z_up_n (by decide), z_up_s, eI118, z_up_s]; exact ⟨fun z9 => by decide, fun z9 => by exfalso; omega, by decide⟩)); (· (rw [eI120, z_up_n (by decide), z_up_k q9, eI118, z_up_k q9, z_up_n (by decide)]; exact lp1A q (by omega)))) f121 hW hS (lv_sub hl [0, 1] rfl)
  exact lp1 4294967296 (0) I  _ _ _ (z_m0u _) (by rw [z_l0]; omega) (by rw [z_l0]; omega) (fun q hq => by rw [z_n0] at hq; exact absurd hq (Nat.not_lt_zero _)) z_fr_0 hW hS (lv_sub hl [0, 1] rfl)
set_option maxHeartbeats 8000000 in
set_option maxRecDepth 100000 in
theorem sx_X4_isStation_e (l : Launch) (G : z_G) (ad : Nat → Nat) (c : z_C) (I : z_I) (a1 : Int32) : z_M l yX4_isStation wsX4_isStation { frames := 1, cells := 0, slots := 0, locals := 12 } [.int a1] G (shC c, ad, I, JX, PC c ad) (fun r u1 => u1 = (shC c, ad, I, JX, PC c ad) ∧ ((r = 1 ∧ 0 ≤ a1.toInt ∧ a1.toInt ≤ 9) ∨ (r = 0 ∧ ¬ (0 ≤ a1.toInt ∧ a1.toInt ≤ 9)))) 0 0 := by
  intro sz
  refine z_headQ (cc := cX4_isStation) (maxL := 1) (ret := (some .boolean)) (by decide) rfl (Nat.le_of_ble_eq_true rfl) ?_
  intro p e s m below meth c0 ls hIn hK hsz hW hl
  obtain ⟨hx, hb, hr, hml, hown, hts, hlocks, hname⟩ := hIn
  subst hsz
  have hown : s.vm.findClass RX4 = some m.cls := hown
  have hA : ∀ q : Nat, s.heap.size ≤ q → z_A (shC c, ad, I, JX, PC c ad) s.heap.size q := fun q h => Or.inr h
  generalize hAe : z_A (shC c, ad, I, JX, PC c ad) s.heap.size = A at *
  have hS : va_S A s.heap s.heap [] := va_S.rf
  have hl : lv_has ls 1 [(0, .int a1)] := hl
  refine lv_iload_n hx hb dX4_isStation_0 rfl (lv_at hl 0 rfl) ?_
  refine lv_if_lt (tgt := 14) hx hb dX4_isStation_1 (by decide) (fun c1 => ?_) (fun c1 => ?_)
  · have g2 := z_f_lt rfl z_l0 c1
    have b3 := Int32.toInt_lt a1
    refine lv_iconst (v := 0) hx hb dX4_isStation_14 (by decide) ?_
    exact z_zret hx hb hr (by decide) hK hS (Nat.le_of_ble_eq_true rfl) (Nat.le_of_ble_eq_true rfl) hlocks dX4_isStation_15 (shC c, ad, I, JX, PC c ad) hW ⟨rfl, (Or.inr ⟨rfl, by omega⟩)⟩
  · have g4 := z_f_nlt rfl z_l0 c1
    have b5 := Int32.toInt_lt a1
    refine lv_iload_n hx hb dX4_isStation_4 rfl (lv_at hl 0 rfl) ?_
    refine lv_bipush (v := 10) hx hb dX4_isStation_5 (by decide) ?_
    refine lv_icmp_ge (tgt := 14) hx hb dX4_isStation_7 (by decide) (fun c6 => ?_) (fun c6 => ?_)
    · have g7 := z_f_ge rfl z_l10 c6
      refine lv_iconst (v := 0) hx hb dX4_isStation_14 (by decide) ?_
      exact z_zret hx hb hr (by decide) hK hS (Nat.le_of_ble_eq_true rfl) (Nat.le_of_ble_eq_true rfl) hlocks dX4_isStation_15 (shC c, ad, I, JX, PC c ad) hW ⟨rfl, (Or.inr ⟨rfl, by omega⟩)⟩
    · have g8 := z_f_nge rfl z_l10 c6
      refine lv_iconst (v := 1) hx hb dX4_isStation_10 (by decide) ?_
      refine lv_goto (tgt := 15) hx hb dX4_isStation_11 (by decide) ?_
      exact z_zret hx hb hr (by decide) hK hS (Nat.le_of_ble_eq_true rfl) (Nat.le_of_ble_eq_true rfl) hlocks dX4_isStation_15 (shC c, ad, I, JX, PC c ad) hW ⟨rfl, (Or.inl ⟨rfl, by omega⟩)⟩
set_option maxHeartbeats 8000000 in
set_option maxRecDepth 100000 in
theorem sx_X4_isPort_e (l : Launch) (G : z_G) (ad : Nat → Nat) (c : z_C) (I : z_I) (a1 : Int32) : z_M l yX4_isPort wsX4_isPort { frames := 1, cells := 0, slots := 0, locals := 12 } [.int a1] G (shC c, ad, I, JX, PC c ad) (fun r u1 => u1 = (shC c, ad, I, JX, PC c ad) ∧ ((r = 1 ∧ 0 ≤ a1.toInt ∧ a1.toInt ≤ 3) ∨ (r = 0 ∧ ¬ (0 ≤ a1.toInt ∧ a1.toInt ≤ 3)))) 0 0 := by
  intro sz
  refine z_headQ (cc := cX4_isPort) (maxL := 1) (ret := (some .boolean)) (by decide) rfl (Nat.le_of_ble_eq_true rfl) ?_
  intro p e s m below meth c0 ls hIn hK hsz hW hl
  obtain ⟨hx, hb, hr, hml, hown, hts, hlocks, hname⟩ := hIn
  subst hsz
  have hown : s.vm.findClass RX4 = some m.cls := hown
  have hA : ∀ q : Nat, s.heap.size ≤ q → z_A (shC c, ad, I, JX, PC c ad) s.heap.size q := fun q h => Or.inr h
  generalize hAe : z_A (shC c, ad, I, JX, PC c ad) s.heap.size = A at *
  have hS : va_S A s.heap s.heap [] := va_S.rf
  have hl : lv_has ls 1 [(0, .int a1)] := hl
  refine lv_iload_n hx hb dX4_isPort_0 rfl (lv_at hl 0 rfl) ?_
  refine lv_if_lt (tgt := 13) hx hb dX4_isPort_1 (by decide) (fun c1 => ?_) (fun c1 => ?_)
  · have g2 := z_f_lt rfl z_l0 c1
    have b3 := Int32.toInt_lt a1
    refine lv_iconst (v := 0) hx hb dX4_isPort_13 (by decide) ?_
    exact z_zret hx hb hr (by decide) hK hS (Nat.le_of_ble_eq_true rfl) (Nat.le_of_ble_eq_true rfl) hlocks dX4_isPort_14 (shC c, ad, I, JX, PC c ad) hW ⟨rfl, (Or.inr ⟨rfl, by omega⟩)⟩
  · have g4 := z_f_nlt rfl z_l0 c1
    have b5 := Int32.toInt_lt a1
    refine lv_iload_n hx hb dX4_isPort_4 rfl (lv_at hl 0 rfl) ?_
    refine lv_iconst (v := 4) hx hb dX4_isPort_5 (by decide) ?_
    refine lv_icmp_ge (tgt := 13) hx hb dX4_isPort_6 (by decide) (fun c6 => ?_) (fun c6 => ?_)
    · have g7 := z_f_ge rfl z_l4 c6
      refine lv_iconst (v := 0) hx hb dX4_isPort_13 (by decide) ?_
      exact z_zret hx hb hr (by decide) hK hS (Nat.le_of_ble_eq_true rfl) (Nat.le_of_ble_eq_true rfl) hlocks dX4_isPort_14 (shC c, ad, I, JX, PC c ad) hW ⟨rfl, (Or.inr ⟨rfl, by omega⟩)⟩
    · have g8 := z_f_nge rfl z_l4 c6
      refine lv_iconst (v := 1) hx hb dX4_isPort_9 (by decide) ?_
      refine lv_goto (tgt := 14) hx hb dX4_isPort_10 (by decide) ?_
      exact z_zret hx hb hr (by decide) hK hS (Nat.le_of_ble_eq_true rfl) (Nat.le_of_ble_eq_true rfl) hlocks dX4_isPort_14 (shC c, ad, I, JX, PC c ad) hW ⟨rfl, (Or.inl ⟨rfl, by omega⟩)⟩
set_option maxHeartbeats 8000000 in
set_option maxRecDepth 100000 in
theorem sx_X4_loadTo_y (l : Launch) (G : z_G) (ad : Nat → Nat) (c : z_C) (I : z_I) (sh : Int) (F pi : Nat → Int) (mk : Nat → Nat) (a1 : Int32) (hSX : zy_SX I sh) (hfd : z_fd (zy_RX I sh) (zy_CX I) F (zy_B2 I a1.toInt.toNat) pi mk) (hF15 : F 15 < 1000000) (hmk : ∀ v, v < 16 → mk v ≤ 15) (hnk : ∀ v, v < 15 → v ≠ 0 → F v < 1000000 → (zy_B2 I a1.toInt.toNat) v ≠ 15) (q1 : 0 ≤ a1.toInt ∧ a1.toInt ≤ 9) : z_M l yX4_loadTo wsX4_loadTo { frames := 2, cells := 0, slots := 0, locals := 40 } [.ref (ad 41), .int a1] G (shC c, ad, I, JX, PC c ad) (fun r u1 => u1 = (shC c, ad, I, JX, PC c ad) ∧ (1 ≤ r.toInt ∧ r.toInt ≤ 20 ∧ ∀ x, z_oc (zy_B2 I a1.toInt.toNat) 15 x → r.toInt ≤ zy_RX I sh ((zy_B2 I a1.toInt.toNat) x) x)) 0 0 := by
  intro sz
  refine z_headQ (cc := cX4_loadTo) (maxL := 6) (ret := (some .int)) (by decide) rfl (Nat.le_of_ble_eq_true rfl) ?_
  intro p e s m below meth c0 ls hIn hK hsz hW hl
  obtain ⟨hx, hb, hr, hml, hown, hts, hlocks, hname⟩ := hIn
  subst hsz
  have hown : s.vm.findClass RX4 = some m.cls := hown
  have hA : ∀ q : Nat, s.heap.size ≤ q → z_A (shC c, ad, I, JX, PC c ad) s.heap.size q := fun q h => Or.inr h
  generalize hAe : z_A (shC c, ad, I, JX, PC c ad) s.heap.size = A at *
  have hS : va_S A s.heap s.heap [] := va_S.rf
  have hl : lv_has ls 6 [(0, .ref (ad 41)), (1, .int a1)] := hl
  have ha9 : a1.toInt.toNat < 10 := by omega
  obtain ⟨bq1, bq2, bq3, bq4, bq5⟩ := hfd.2 15 (by decide) (by decide) hF15
  rw [zy_B2_15] at bq1 bq2 bq3 bq5
  rw [zy_RX_2 ha9] at bq3
  have bq6 := hmk 15 (by decide)
  have bq7 := zy_SX_20 hSX (p := 0) (by decide) ha9
  refine lv_iload_n hx hb dX4_loadTo_0 rfl (lv_at hl 1 rfl) ?_
  refine z_ci hW hS hA (va_runS (As := [.int a1]) (rest := []) ⟨hx, hb, hml, hown, hts⟩ (sx_X4_isStation_e l G ad c I  a1 _) (va_cwS 1 hts gX4_loadTo_X4_isStation rfl rfl rfl (by decide +kernel) ⟨Nat.le_of_ble_eq_true rfl, Nat.le_of_ble_eq_true rfl⟩) (z_preS hK hW) rfl rfl hl.1 rfl (lv_room (Nat.le_of_ble_eq_true rfl)) dX4_loadTo_1 ⟨Nat.le_of_ble_eq_true rfl, Nat.le_of_ble_eq_true rfl⟩) (fun r u1 H locs hp hW hS => ?_)
  obtain ⟨e9, hp⟩ := hp
  rw [e9] at hW
  rcases hp with ⟨rfl, h1⟩ | ⟨rfl, h1⟩
  · have h2 := h1
    refine lv_if_ne (tgt := 9) hx hb dX4_loadTo_4 (by decide) (fun c3 => ?_) (fun c3 => absurd c3 (by decide))
    refine lv_aload_n hx hb dX4_loadTo_9 rfl (lv_at hl 0 rfl) ?_
    refine z_get (T := TX4) (N := 13) (ci := 4) (i := 41) (v := .ref (ad 55)) hx hb hts zj_X4_loadTo_X4 hown hK hW rfl rfl 5 (by decide) (hts (.fieldLink RX4 29 "PetrolBoard$Loads" "lacking" "[I") (me_s (me_l (List.mem_of_getElem? (i := 0) rfl)))) (fun _ h => h) rfl dX4_loadTo_10 ?_
    refine lv_iload_n hx hb dX4_loadTo_13 rfl (lv_at hl 1 rfl) ?_
    refine z_iald (i := 55) hx hb hK hW rfl (z_ix rfl (by omega) (by omega)) dX4_loadTo_14 ?_
    refine lv_topi (fun x4 ex4 => ?_)
    have hl5 : x4.toInt = (I 55 a1.toInt.toNat).toInt := by rw [ex4]; rfl
    have hl6 : 1 ≤ x4.toInt ∧ x4.toInt ≤ 20 := by omega
    refine lv_istore_n (lv' := [(2, .int x4), (0, .ref (ad 41)), (1, .int a1)]) hx hb dX4_loadTo_15 rfl hl (by decide) rfl (fun ls hl => ?_)
    refine lv_iload_n hx hb dX4_loadTo_16 rfl (lv_at hl 2 rfl) ?_
    refine lv_istore_n (lv' := [(3, .int a1), (2, .int x4), (0, .ref (ad 41)), (1, .int a1)]) hx hb dX4_loadTo_17 rfl hl (by decide) rfl (fun ls hl => ?_)
    refine lv_iconst (v := 0) hx hb dX4_loadTo_18 (by decide) ?_
    refine lv_istore (lv' := [(4, .int 0), (3, .int a1), (2, .int x4), (0, .ref (ad 41)), (1, .int a1)]) hx hb dX4_loadTo_19 hl (by decide) rfl (fun ls hl => ?_)
    have lp7 : ∀ (f : Nat) (y8 : Int32) (y9 : Int32) (y10 : Int32) (H : Heap) (locs : List Loc) (ls : Array Slot), (2147483647 < y8.toInt + (f : Int)) → (0 ≤ y8.toInt) → (y8.toInt ≤ 14) → (y9.toInt ≤ 9) → (1 ≤ y10.toInt) → (y10.toInt ≤ 20) → (zy_nd y9.toInt < 16 ∧ F (zy_nd y9.toInt) < 1000000) → (2 * y8.toNatClampNeg + mk (zy_nd y9.toInt) ≤ 14) → (∀ x, z_oc (zy_B2 I a1.toInt.toNat) 15 x → ¬ z_oc (zy_B2 I a1.toInt.toNat) (zy_nd y9.toInt) x → y10.toInt ≤ zy_RX I sh ((zy_B2 I a1.toInt.toNat) x) x) → z_W G A (shC c, ad, I, JX, PC c ad) H → va_S A s.heap H locs → lv_has ls 6 [(4, .int y8), (3, .int y9), (2, .int y10), (0, .ref (ad 41)), (1, .int a1)] → W p l e (headSpec wsX4_loadTo { frames := 2, cells := 0, slots := 0, locals := 40 }).room s m ([.ref (ad 41), .int a1] : List Value).toArray below meth c0 H locs 0 0 (MQ below (va_Qi (fun (r : Int32) (u1 : z_U) => u1 = (shC c, ad, I, JX, PC c ad) ∧ (1 ≤ r.toInt ∧ r.toInt ≤ 20 ∧ ∀ x, z_oc (zy_B2 I a1.toInt.toNat) 15 x → r.toInt ≤ zy_RX I sh ((zy_B2 I a1.toInt.toNat) x) x)) (z_B G A) A) ([.ref (ad 41), .int a1] : List Value).toArray s 0 0 A) (F0 m 21 ls []) := by
      intro f
      induction f with
      | zero => intro y8 y9 y10 H locs ls lp7m lp7l4 lp7u4 lp7u3 lp7l2 lp7u2 lp7G lp7K lp7N hW hS hl; exact absurd lp7m (by have := Int32.toInt_lt y8; have := Int32.le_toInt y8; omega)
      | succ f lp7ih =>
        intro y8 y9 y10 H locs ls lp7m lp7l4 lp7u4 lp7u3 lp7l2 lp7u2 lp7G lp7K lp7N hW hS hl
        refine lv_iload hx hb dX4_loadTo_21 (lv_at hl 0 rfl) ?_
        refine lv_bipush (v := 14) hx hb dX4_loadTo_23 (by decide) ?_
        refine lv_icmp_ge (tgt := 100) hx hb dX4_loadTo_25 (by decide) (fun c11 => ?_) (fun c11 => ?_)
        · have g12 := z_f_ge rfl z_l14 c11
          refine lv_iload_n hx hb dX4_loadTo_100 rfl (lv_at hl 2 rfl) ?_
          exact z_iret hx hb hr hK hS (Nat.le_of_ble_eq_true rfl) (Nat.le_of_ble_eq_true rfl) hlocks dX4_loadTo_101 (shC c, ad, I, JX, PC c ad) hW ⟨rfl, (by by_cases q9 : 0 ≤ y9.toInt; (· (exfalso; have q8 := lp7K; have q7 := z_clt (x := y8) rfl (by omega); omega)); (· (exact ⟨by omega, by omega, fun x hx => lp7N x hx (by rw [zy_nd_n q9]; exact z_oc_0)⟩)))⟩
        · have g13 := z_f_nge rfl z_l14 c11
          refine lv_iload_n hx hb dX4_loadTo_28 rfl (lv_at hl 1 rfl) ?_
          refine z_ci hW hS hA (va_runS (As := [.int y9]) (rest := []) ⟨hx, hb, hml, hown, hts⟩ (sx_X4_isStation_e l G ad c I  y9 _) (va_cwS 1 hts gX4_loadTo_X4_isStation rfl rfl rfl (by decide +kernel) ⟨Nat.le_of_ble_eq_true rfl, Nat.le_of_ble_eq_true rfl⟩) (z_preS hK hW) rfl rfl hl.1 rfl (lv_room (Nat.le_of_ble_eq_true rfl)) dX4_loadTo_29 ⟨Nat.le_of_ble_eq_true rfl, Nat.le_of_ble_eq_true rfl⟩) (fun r u1 H locs hp hW hS => ?_)
          obtain ⟨e9, hp⟩ := hp
          rw [e9] at hW
          rcases hp with ⟨rfl, h14⟩ | ⟨rfl, h14⟩
          · have h15 := h14
            refine lv_if_eq (tgt := 100) hx hb dX4_loadTo_32 (by decide) (fun c16 => absurd c16 (by decide)) (fun c16 => ?_)
            have hsl : y9.toNatClampNeg < 10 := by have q9 := z_clt (x := y9) rfl (by omega); omega
            have hnd : zy_nd y9.toInt = 5 + y9.toNatClampNeg := zy_nd_p (by omega)
            have hGn := lp7G
            rw [hnd] at hGn
            have hKk := lp7K
            rw [hnd] at hKk
            obtain ⟨w1, w2, w3, w4, w5, w6⟩ := zy_ws hfd hnk hsl hGn.2
            refine lv_aload_n hx hb dX4_loadTo_35 rfl (lv_at hl 3 rfl) ?_
            refine z_get (T := TX4) (N := 13) (ci := 4) (i := 41) (v := .ref (ad 58)) hx hb hts zj_X4_loadTo_X4 hown hK hW rfl rfl 8 (by decide) (hts (.fieldLink RX4 38 "PetrolBoard$Loads" "byPort" "[I") (me_s (me_l (List.mem_of_getElem? (i := 1) rfl)))) (fun _ h => h) rfl dX4_loadTo_36 ?_
            refine lv_iload_n hx hb dX4_loadTo_39 rfl (lv_at hl 1 rfl) ?_
            refine z_iald (i := 58) hx hb hK hW rfl (z_ix rfl (by omega) (by omega)) dX4_loadTo_40 ?_
            refine lv_topi (fun x17 ex17 => ?_)
            have hl18 : I 58 y9.toNatClampNeg = x17 := by rw [ex17]
            have hbx17 : 0 ≤ x17.toInt ∧ x17.toInt ≤ 3 := by rw [← hl18]; exact ⟨w1, w2⟩
            refine z_ci hW hS hA (va_runS (As := [.int x17]) (rest := []) ⟨hx, hb, hml, hown, hts⟩ (sx_X4_isPort_e l G ad c I  x17 _) (va_cwS 1 hts gX4_loadTo_X4_isPort rfl rfl rfl (by decide +kernel) ⟨Nat.le_of_ble_eq_true rfl, Nat.le_of_ble_eq_true rfl⟩) (z_preS hK hW) rfl rfl hl.1 rfl (lv_room (Nat.le_of_ble_eq_true rfl)) dX4_loadTo_41 ⟨Nat.le_of_ble_eq_true rfl, Nat.le_of_ble_eq_true rfl⟩) (fun r u1 H locs hp hW hS => ?_)
            obtain ⟨e9, hp⟩ := hp
            rw [e9] at hW
            rcases hp with ⟨rfl, h19⟩ | ⟨rfl, h19⟩
            · have h20 := h19
              refine lv_if_eq (tgt := 100) hx hb dX4_loadTo_44 (by decide) (fun c21 => absurd c21 (by decide)) (fun c21 => ?_)
              refine lv_aload_n hx hb dX4_loadTo_47 rfl (lv_at hl 3 rfl) ?_
              refine z_get (T := TX4) (N := 13) (ci := 4) (i := 41) (v := .ref (ad 58)) hx hb hts zj_X4_loadTo_X4 hown hK hW rfl rfl 8 (by decide) (hts (.fieldLink RX4 38 "PetrolBoard$Loads" "byPort" "[I") (me_s (me_l (List.mem_of_getElem? (i := 1) rfl)))) (fun _ h => h) rfl dX4_loadTo_48 ?_
              refine lv_iload_n hx hb dX4_loadTo_51 rfl (lv_at hl 1 rfl) ?_
              refine z_iald (i := 58) hx hb hK hW rfl (z_ix rfl (by omega) (by omega)) dX4_loadTo_52 ?_
              refine z_topi (v := x17) ex17.symm ?_
              refine lv_istore (lv' := [(5, .int x17), (4, .int y8), (3, .int y9), (2, .int y10), (0, .ref (ad 41)), (1, .int a1)]) hx hb dX4_loadTo_53 hl (by decide) rfl (fun ls hl => ?_)
              have hpl : x17.toNatClampNeg < 4 := by have q9 := z_clt (x := x17) rfl (by omega); omega
              have hvp : I 58 y9.toNatClampNeg = x17 := hl18
              rw [hvp] at w3 w4 w5 w6
              obtain ⟨v1, v2, v3, v4, v5, v6⟩ := zy_wp hfd hpl w4
              refine lv_aload_n hx hb dX4_loadTo_55 rfl (lv_at hl 4 rfl) ?_
              refine z_get (T := TX4) (N := 13) (ci := 4) (i := 41) (v := .ref (ad 59)) hx hb hts zj_X4_loadTo_X4 hown hK hW rfl rfl 9 (by decide) (hts (.fieldLink RX4 41 "PetrolBoard$Loads" "byStation" "[I") (me_s (me_l (List.mem_of_getElem? (i := 2) rfl)))) (fun _ h => h) rfl dX4_loadTo_56 ?_
              refine lv_iload hx hb dX4_loadTo_59 (lv_at hl 0 rfl) ?_
              refine z_iald (i := 59) hx hb hK hW rfl (z_ix rfl (by omega) (by omega)) dX4_loadTo_61 ?_
              refine lv_topi (fun x22 ex22 => ?_)
              have hl23 : I 59 x17.toNatClampNeg = x22 := by rw [ex22]
              rw [hl23] at v1 v2 v3 v4 v5 v6
              refine lv_istore_n (lv' := [(3, .int x22), (5, .int x17), (4, .int y8), (2, .int y10), (0, .ref (ad 41)), (1, .int a1)]) hx hb dX4_loadTo_62 rfl hl (by decide) rfl (fun ls hl => ?_)
              refine lv_iload_n hx hb dX4_loadTo_63 rfl (lv_at hl 3 rfl) ?_
              refine lv_iload_n hx hb dX4_loadTo_64 rfl (lv_at hl 0 rfl) ?_
              refine z_ci hW hS hA (va_runS (As := [.int x22]) (rest := [.int y10]) ⟨hx, hb, hml, hown, hts⟩ (sx_X4_isStation_e l G ad c I  x22 _) (va_cwS 1 hts gX4_loadTo_X4_isStation rfl rfl rfl (by decide +kernel) ⟨Nat.le_of_ble_eq_true rfl, Nat.le_of_ble_eq_true rfl⟩) (z_preS hK hW) rfl rfl hl.1 rfl (lv_room (Nat.le_of_ble_eq_true rfl)) dX4_loadTo_65 ⟨Nat.le_of_ble_eq_true rfl, Nat.le_of_ble_eq_true rfl⟩) (fun r u1 H locs hp hW hS => ?_)
              obtain ⟨e9, hp⟩ := hp
              rw [e9] at hW
              rcases hp with ⟨rfl, h24⟩ | ⟨rfl, h24⟩
              · have h25 := h24
                refine lv_if_eq (tgt := 83) hx hb dX4_loadTo_68 (by decide) (fun c26 => absurd c26 (by decide)) (fun c26 => ?_)
                refine lv_aload_n hx hb dX4_loadTo_71 rfl (lv_at hl 4 rfl) ?_
                refine z_get (T := TX4) (N := 13) (ci := 4) (i := 41) (v := .ref (ad 49)) hx hb hts zj_X4_loadTo_X4 hown hK hW rfl rfl 3 (by decide) (hts (.fieldLink RX4 23 "PetrolBoard$Loads" "sent" "[[I") (me_s (me_l (List.mem_of_getElem? (i := 3) rfl)))) (fun _ h => h) rfl dX4_loadTo_72 ?_
                refine lv_iload hx hb dX4_loadTo_75 (lv_at hl 1 rfl) ?_
                obtain ⟨k27, ek27, hk27⟩ : ∃ k : Nat, x17.toNatClampNeg = k ∧ k < 4 := ⟨_, rfl, z_clN rfl (by omega) (by omega)⟩
                refine z_aald (i := 49) (v := .ref (ad (50 + k27))) hx hb hK hW rfl (by simp [z_tys]) rfl (z_ix rfl (by omega) (by omega)) (z_p49 ek27 hk27) dX4_loadTo_77 ?_
                refine lv_iload_n hx hb dX4_loadTo_78 rfl (lv_at hl 0 rfl) ?_
                refine z_iald (i := (50 + k27)) hx hb hK hW (z_s50 hk27) (z_ix rfl (by omega) (by omega)) dX4_loadTo_79 ?_
                refine lv_topi (fun x28 ex28 => ?_)
                have hl29 : x28.toInt = zy_RX I sh (zy_nd x22.toInt) (1 + x17.toNatClampNeg) := by rw [zy_nd_p (by omega)]; show _ = zy_RX I sh (5 + x22.toNatClampNeg) (1 + x17.toNatClampNeg); rw [zy_RX_3 hpl (by have q9 := z_clt (x := x22) rfl (by omega); omega), ex28, ← ek27]
                have hl30 : 1 ≤ x28.toInt ∧ x28.toInt ≤ 20 := by have q9 := zy_SX_20 hSX hpl (s := x22.toNatClampNeg) (by have q9 := z_clt (x := x22) rfl (by omega); omega); have q8 : x28.toInt = (I (50 + x17.toNatClampNeg) x22.toNatClampNeg).toInt := (by rw [ex28, ← ek27]); omega
                refine lv_goto (tgt := 90) hx hb dX4_loadTo_80 (by decide) ?_
                refine va_mmin (x := y10) (y := x28) hx hb (hml.trans hl.1.symm) hown (hts (.methodLink RX4 87 Lib.Math.min.name) (me_s (me_l (List.mem_of_getElem? (i := 5) rfl)))) (hts (.static Lib.Math.min.name) (me_s (me_l (List.mem_of_getElem? (i := 6) rfl)))) (hts (.initialized "java/lang/Math") (me_s (me_l (List.mem_of_getElem? (i := 7) rfl)))) (hts (.code Lib.Math.min.name Lib.Math.min.code 2 (some .int)) (me_s (me_l (List.mem_of_getElem? (i := 8) rfl)))) (Nat.le_of_ble_eq_true rfl) (Nat.le_of_ble_eq_true rfl) (Nat.le_of_ble_eq_true rfl) (Nat.le_of_ble_eq_true rfl) dX4_loadTo_90 ?_
                refine lv_topi (fun x31 ex31 => ?_)
                have tx31 := z_tmmin ex31 rfl rfl
                refine lv_istore_n (lv' := [(2, .int x31), (3, .int x22), (5, .int x17), (4, .int y8), (0, .ref (ad 41)), (1, .int a1)]) hx hb dX4_loadTo_93 rfl hl (by decide) rfl (fun ls hl => ?_)
                obtain ⟨x32, ex32⟩ : ∃ y : Int32, y = y8 + 1 := ⟨_, rfl⟩
                have tx32 : x32.toInt = y8.toInt + 1 := z_tadd ex32 rfl z_l1 (by omega) (by omega)
                refine lv_iinc (v := x32) (lv' := [(4, .int x32), (2, .int x31), (3, .int x22), (5, .int x17), (0, .ref (ad 41)), (1, .int a1)]) hx hb dX4_loadTo_94 hl (k := 3) rfl (by rw [ex32]; rfl) (by decide) rfl (fun ls hl => ?_)
                refine lv_goto (tgt := 21) hx hb dX4_loadTo_97 (by decide) ?_
                exact lp7ih x32 x22 x31 _ _ _ (by omega) (by omega) (by omega) (by omega) (by omega) (by omega) ⟨v3, v4⟩ (by rw [z_ss (x := y8) (y := x32) (by omega) (by omega)]; omega) (zy_lN (v := 5 + y9.toNatClampNeg) (u := 1 + x17.toNatClampNeg) (by rw [← hnd]; exact lp7N) (by omega) (by omega) w3 v2 (by have q9 := (zy_SX_30 hSX hpl hsl).1.mp w5; have q8 := (zy_SX_30 hSX hpl hsl).2 q9; omega) (by omega) (by omega)) hW hS (lv_sub hl [0, 2, 1, 4, 5] rfl)
              · have h33 := h24
                refine lv_if_eq (tgt := 83) hx hb dX4_loadTo_68 (by decide) (fun c34 => ?_) (fun c34 => absurd (by decide) c34)
                refine lv_aload_n hx hb dX4_loadTo_83 rfl (lv_at hl 4 rfl) ?_
                refine z_get (T := TX4) (N := 13) (ci := 4) (i := 41) (v := .ref (ad 54)) hx hb hts zj_X4_loadTo_X4 hown hK hW rfl rfl 4 (by decide) (hts (.fieldLink RX4 26 "PetrolBoard$Loads" "left" "[I") (me_s (me_l (List.mem_of_getElem? (i := 4) rfl)))) (fun _ h => h) rfl dX4_loadTo_84 ?_
                refine lv_iload hx hb dX4_loadTo_87 (lv_at hl 1 rfl) ?_
                refine z_iald (i := 54) hx hb hK hW rfl (z_ix rfl (by omega) (by omega)) dX4_loadTo_89 ?_
                refine lv_topi (fun x35 ex35 => ?_)
                have hl36 : x35.toInt = zy_RX I sh (zy_nd x22.toInt) (1 + x17.toNatClampNeg) := by rw [zy_nd_n (by omega), zy_RX_0 hpl, ex35]
                have hl37 : 1 ≤ x35.toInt ∧ x35.toInt ≤ 50 := by have q9 := zy_SX_50 hSX hpl; have q8 : x35.toInt = (I 54 x17.toNatClampNeg).toInt := (by rw [ex35]); omega
                refine va_mmin (x := y10) (y := x35) hx hb (hml.trans hl.1.symm) hown (hts (.methodLink RX4 87 Lib.Math.min.name) (me_s (me_l (List.mem_of_getElem? (i := 5) rfl)))) (hts (.static Lib.Math.min.name) (me_s (me_l (List.mem_of_getElem? (i := 6) rfl)))) (hts (.initialized "java/lang/Math") (me_s (me_l (List.mem_of_getElem? (i := 7) rfl)))) (hts (.code Lib.Math.min.name Lib.Math.min.code 2 (some .int)) (me_s (me_l (List.mem_of_getElem? (i := 8) rfl)))) (Nat.le_of_ble_eq_true rfl) (Nat.le_of_ble_eq_true rfl) (Nat.le_of_ble_eq_true rfl) (Nat.le_of_ble_eq_true rfl) dX4_loadTo_90 ?_
                refine lv_topi (fun x38 ex38 => ?_)
                have tx38 := z_tmmin ex38 rfl rfl
                refine lv_istore_n (lv' := [(2, .int x38), (3, .int x22), (5, .int x17), (4, .int y8), (0, .ref (ad 41)), (1, .int a1)]) hx hb dX4_loadTo_93 rfl hl (by decide) rfl (fun ls hl => ?_)
                obtain ⟨x39, ex39⟩ : ∃ y : Int32, y = y8 + 1 := ⟨_, rfl⟩
                have tx39 : x39.toInt = y8.toInt + 1 := z_tadd ex39 rfl z_l1 (by omega) (by omega)
                refine lv_iinc (v := x39) (lv' := [(4, .int x39), (2, .int x38), (3, .int x22), (5, .int x17), (0, .ref (ad 41)), (1, .int a1)]) hx hb dX4_loadTo_94 hl (k := 3) rfl (by rw [ex39]; rfl) (by decide) rfl (fun ls hl => ?_)
                refine lv_goto (tgt := 21) hx hb dX4_loadTo_97 (by decide) ?_
                exact lp7ih x39 x22 x38 _ _ _ (by omega) (by omega) (by omega) (by omega) (by omega) (by omega) ⟨v3, v4⟩ (by rw [z_ss (x := y8) (y := x39) (by omega) (by omega)]; omega) (zy_lN (v := 5 + y9.toNatClampNeg) (u := 1 + x17.toNatClampNeg) (by rw [← hnd]; exact lp7N) (by omega) (by omega) w3 v2 (by have q9 := (zy_SX_30 hSX hpl hsl).1.mp w5; have q8 := (zy_SX_30 hSX hpl hsl).2 q9; omega) (by omega) (by omega)) hW hS (lv_sub hl [0, 2, 1, 4, 5] rfl)
            · have h40 := h19
              refine lv_if_eq (tgt := 100) hx hb dX4_loadTo_44 (by decide) (fun c41 => ?_) (fun c41 => absurd (by decide) c41)
              refine lv_iload_n hx hb dX4_loadTo_100 rfl (lv_at hl 2 rfl) ?_
              exact z_iret hx hb hr hK hS (Nat.le_of_ble_eq_true rfl) (Nat.le_of_ble_eq_true rfl) hlocks dX4_loadTo_101 (shC c, ad, I, JX, PC c ad) hW ⟨rfl, (by exfalso; omega)⟩
          · have h42 := h14
            refine lv_if_eq (tgt := 100) hx hb dX4_loadTo_32 (by decide) (fun c43 => ?_) (fun c43 => absurd (by decide) c43)
            refine lv_iload_n hx hb dX4_loadTo_100 rfl (lv_at hl 2 rfl) ?_
            exact z_iret hx hb hr hK hS (Nat.le_of_ble_eq_true rfl) (Nat.le_of_ble_eq_true rfl) hlocks dX4_loadTo_101 (shC c, ad, I, JX, PC c ad) hW ⟨rfl, (by by_cases q9 : 0 ≤ y9.toInt; (· (exfalso; have q8 := lp7K; have q7 := z_clt (x := y8) rfl (by omega); omega)); (· (exact ⟨by omega, by omega, fun x hx => lp7N x hx (by rw [zy_nd_n q9]; exact z_oc_0)⟩)))⟩
    exact lp7 4294967296 (0) a1 x4 _ _ _ (z_m0u _) (by rw [z_l0]; omega) (by rw [z_l0]; omega) (by omega) (by omega) (by omega) ⟨by rw [zy_nd_p (by omega)]; exact bq1, by rw [zy_nd_p (by omega)]; exact bq2⟩ (by rw [z_n0, zy_nd_p (by omega)]; omega) (fun x hx hn => by have q9 := ((z_oc_s (b := (zy_B2 I a1.toInt.toNat)) (v := 15) (by decide)).1 hx).resolve_right (fun q => hn (by rw [zy_nd_p (by omega)]; rw [zy_B2_15] at q; exact q)); rw [q9, zy_B2_15, zy_RX_2 ha9]; omega) hW hS (lv_sub hl [0, 1, 2, 3, 4] rfl)
  · have h44 := h1
    refine lv_if_ne (tgt := 9) hx hb dX4_loadTo_4 (by decide) (fun c45 => absurd (by decide) c45) (fun c45 => ?_)
    refine lv_iconst (v := 0) hx hb dX4_loadTo_7 (by decide) ?_
    exact z_iret hx hb hr hK hS (Nat.le_of_ble_eq_true rfl) (Nat.le_of_ble_eq_true rfl) hlocks dX4_loadTo_8 (shC c, ad, I, JX, PC c ad) hW ⟨rfl, (by exfalso; omega)⟩
noncomputable def L_X4_sendTo_y : z_L := [(55, 999), (50, 999), (51, 999), (52, 999), (53, 999), (54, 999), (41, 12), (41, 11)]
set_option maxHeartbeats 8000000 in
set_option maxRecDepth 100000 in
theorem sx_X4_sendTo_y (l : Launch) (G : z_G) (ad : Nat → Nat) (c : z_C) (I : z_I) (sh : Int) (F pi : Nat → Int) (mk : Nat → Nat) (a1 : Int32) (hSX : zy_SX I sh) (hfd : z_fd (zy_RX I sh) (zy_CX I) F (zy_B2 I a1.toInt.toNat) pi mk) (hF15 : F 15 < 1000000) (hmk : ∀ v, v < 16 → mk v ≤ 15) (hnk : ∀ v, v < 15 → v ≠ 0 → F v < 1000000 → (zy_B2 I a1.toInt.toNat) v ≠ 15) (q1 : 0 ≤ a1.toInt ∧ a1.toInt ≤ 9) (hTX : zy_TX I sh) : z_Mv l yX4_sendTo wsX4_sendTo { frames := 3, cells := 0, slots := 0, locals := 65 } [.ref (ad 41), .int a1] G (shC c, ad, I, JX, PC c ad) (fun u1 => ∃ I1 : z_I, u1 = (shC c, ad, I1, JX, PC c ad) ∧ z_fr L_X4_sendTo_y I1 I ∧ zy_TX I1 sh ∧ zy_S (zy_RX I1 sh 0) 16 + 1 ≤ zy_S (zy_RX I sh 0) 16) 0 0 := by
  intro sz
  refine z_headQ (cc := cX4_sendTo) (maxL := 6) (ret := none) (by decide) rfl (Nat.le_of_ble_eq_true rfl) ?_
  intro p e s m below meth c0 ls hIn hK hsz hW hl
  obtain ⟨hx, hb, hr, hml, hown, hts, hlocks, hname⟩ := hIn
  subst hsz
  have hown : s.vm.findClass RX4 = some m.cls := hown
  have hA : ∀ q : Nat, s.heap.size ≤ q → z_A (shC c, ad, I, JX, PC c ad) s.heap.size q := fun q h => Or.inr h
  generalize hAe : z_A (shC c, ad, I, JX, PC c ad) s.heap.size = A at *
  have hS : va_S A s.heap s.heap [] := va_S.rf
  have hl : lv_has ls 6 [(0, .ref (ad 41)), (1, .int a1)] := hl
  have ha9 : a1.toInt.toNat < 10 := by omega
  obtain ⟨bq1, bq2, bq3, bq4, bq5⟩ := hfd.2 15 (by decide) (by decide) hF15
  rw [zy_B2_15] at bq1 bq2 bq3 bq5
  rw [zy_RX_2 ha9] at bq3
  have bq6 := hmk 15 (by decide)
  have bq7 := zy_SX_20 hSX (p := 0) (by decide) ha9
  have hM0 : ∃ M9 : Int, I 41 12 = Int32.ofInt M9 ∧ 2 * M9 + zy_Q (zy_RX I sh) (zy_CX I) = (zy_Q (zy_0X I sh) (zy_CX I)) := (by obtain ⟨_, _, A9, M9, _, m1, _, m2⟩ := hTX; exact ⟨M9, m1, m2⟩)
  refine lv_iload_n hx hb dX4_sendTo_0 rfl (lv_at hl 1 rfl) ?_
  refine lv_if_lt (tgt := 10) hx hb dX4_sendTo_1 (by decide) (fun c1 => (by have g := z_f_lt rfl z_l0 c1; omega)) (fun c1 => ?_)
  have g2 := z_f_nlt rfl z_l0 c1
  refine lv_iload_n hx hb dX4_sendTo_4 rfl (lv_at hl 1 rfl) ?_
  refine lv_bipush (v := 10) hx hb dX4_sendTo_5 (by decide) ?_
  refine lv_icmp_lt (tgt := 11) hx hb dX4_sendTo_7 (by decide) (fun c3 => ?_) (fun c3 => (by have g := z_f_nlt rfl z_l10 c3; omega))
  have g4 := z_f_lt rfl z_l10 c3
  refine lv_aload_n hx hb dX4_sendTo_11 rfl (lv_at hl 0 rfl) ?_
  refine lv_iload_n hx hb dX4_sendTo_12 rfl (lv_at hl 1 rfl) ?_
  refine z_ci hW hS hA (va_runV (As := [.int a1]) (rest := []) ⟨hx, hb, hml, hown, hts⟩ (sx_X4_loadTo_y l G ad c I sh F pi mk a1 hSX hfd hF15 hmk hnk q1 _) (cwV 1 hts gX4_sendTo_X4_loadTo rfl rfl rfl (by decide +kernel) ⟨Nat.le_of_ble_eq_true rfl, Nat.le_of_ble_eq_true rfl⟩) (z_preV (i := 41) hK hW rfl rfl) rfl rfl hl.1 rfl (lv_room (Nat.le_of_ble_eq_true rfl)) dX4_sendTo_13 ⟨Nat.le_of_ble_eq_true rfl, Nat.le_of_ble_eq_true rfl⟩) (fun r u1 H locs hp hW hS => ?_)
  obtain ⟨e9, hp⟩ := hp
  rw [e9] at hW
  refine lv_topi (fun x5 ex5 => ?_)
  rw [← ex5] at hp
  obtain ⟨hn6, hn7, hN8⟩ := hp
  refine lv_istore_n (lv' := [(2, .int x5), (0, .ref (ad 41)), (1, .int a1)]) hx hb dX4_sendTo_16 rfl hl (by decide) rfl (fun ls hl => ?_)
  refine lv_aload_n hx hb dX4_sendTo_17 rfl (lv_at hl 1 rfl) ?_
  refine z_get (T := TX4) (N := 13) (ci := 4) (i := 41) (v := .ref (ad 55)) hx hb hts zj_X4_sendTo_X4 hown hK hW rfl rfl 5 (by decide) (hts (.fieldLink RX4 29 "PetrolBoard$Loads" "lacking" "[I") (me_s (me_l (List.mem_of_getElem? (i := 0) rfl)))) (fun _ h => h) rfl dX4_sendTo_18 ?_
  refine lv_iload_n hx hb dX4_sendTo_21 rfl (lv_at hl 2 rfl) ?_
  refine lv_dup2_11 hx hb dX4_sendTo_22 rfl rfl ?_
  refine z_iald (i := 55) hx hb hK hW rfl (z_ix rfl (by omega) (by omega)) dX4_sendTo_23 ?_
  refine lv_topi (fun x9 ex9 => ?_)
  have hl10 : x9.toInt = (I 55 a1.toInt.toNat).toInt := by rw [ex9]; rfl
  have hl11 : 0 ≤ x9.toInt ∧ x9.toInt ≤ 20 := by omega
  refine lv_iload_n hx hb dX4_sendTo_24 rfl (lv_at hl 0 rfl) ?_
  refine lv_isub hx hb dX4_sendTo_25 ?_
  refine lv_topi (fun x12 ex12 => ?_)
  have tx12 : x12.toInt = x9.toInt - x5.toInt := z_tsub ex12 rfl rfl (by omega) (by omega)
  refine z_iast (i := 55) hx hb hK hW hS rfl (z_ix rfl (by omega) (by omega)) dX4_sendTo_26 (fun H locs hz1 hW hS => ?_)
  obtain ⟨I13, eI13⟩ : ∃ K : z_I, K = z_up I 55 a1.toNatClampNeg x12 := ⟨_, rfl⟩
  rw [← eI13] at hW
  have f14 := z_fr_a z_fr_0 (show z_wa L_X4_sendTo_y 55 = true by decide) eI13
  refine lv_iload_n hx hb dX4_sendTo_27 rfl (lv_at hl 2 rfl) ?_
  refine lv_istore_n (lv' := [(3, .int a1), (2, .int x5), (0, .ref (ad 41)), (1, .int a1)]) hx hb dX4_sendTo_28 rfl hl (by decide) rfl (fun ls hl => ?_)
  refine lv_iconst (v := 0) hx hb dX4_sendTo_29 (by decide) ?_
  refine lv_istore (lv' := [(4, .int 0), (3, .int a1), (2, .int x5), (0, .ref (ad 41)), (1, .int a1)]) hx hb dX4_sendTo_30 hl (by decide) rfl (fun ls hl => ?_)
  have lp15 : ∀ (f : Nat) (y16 : Int32) (y17 : Int32) (I18 : z_I) (H : Heap) (locs : List Loc) (ls : Array Slot), (2147483647 < y16.toInt + (f : Int)) → (0 ≤ y16.toInt) → (y16.toInt ≤ 14) → (y17.toInt ≤ 9) → (zy_nd y17.toInt < 16 ∧ F (zy_nd y17.toInt) < 1000000) → (2 * y16.toNatClampNeg + mk (zy_nd y17.toInt) ≤ 14) → (zy_mv (zy_CX I) pi (zy_B2 I a1.toInt.toNat) x5.toInt (zy_RX I sh) (zy_RX I18 sh) (zy_nd y17.toInt)) → (∃ M9 : Int, I18 41 12 = Int32.ofInt M9 ∧ 2 * M9 + zy_Q (zy_RX I18 sh) (zy_CX I) = (zy_Q (zy_0X I sh) (zy_CX I))) → (I18 41 11 = I 41 11) → (z_fr L_X4_sendTo_y I18 I) → z_W G A (shC c, ad, I18, JX, PC c ad) H → va_S A s.heap H locs → lv_has ls 6 [(4, .int y16), (3, .int y17), (2, .int x5), (0, .ref (ad 41)), (1, .int a1)] → W p l e (headSpec wsX4_sendTo { frames := 3, cells := 0, slots := 0, locals := 65 }).room s m ([.ref (ad 41), .int a1] : List Value).toArray below meth c0 H locs 0 0 (MQ below (va_Qv (fun (u1 : z_U) => ∃ I1 : z_I, u1 = (shC c, ad, I1, JX, PC c ad) ∧ z_fr L_X4_sendTo_y I1 I ∧ zy_TX I1 sh ∧ zy_S (zy_RX I1 sh 0) 16 + 1 ≤ zy_S (zy_RX I sh 0) 16) (z_B G A) A) ([.ref (ad 41), .int a1] : List Value).toArray s 0 0 A) (F0 m 32 ls []) := by
    intro f
    induction f with
    | zero => intro y16 y17 I18  H locs ls lp15m lp15l4 lp15u4 lp15u3 lp15G lp15K lp15X lp15M lp15Q lp15fr hW hS hl; exact absurd lp15m (by have := Int32.toInt_lt y16; have := Int32.le_toInt y16; omega)
    | succ f lp15ih =>
      intro y16 y17 I18  H locs ls lp15m lp15l4 lp15u4 lp15u3 lp15G lp15K lp15X lp15M lp15Q lp15fr hW hS hl
      refine lv_iload hx hb dX4_sendTo_32 (lv_at hl 0 rfl) ?_
      refine lv_bipush (v := 14) hx hb dX4_sendTo_34 (by decide) ?_
      refine lv_icmp_ge (tgt := 167) hx hb dX4_sendTo_36 (by decide) (fun c19 => ?_) (fun c19 => ?_)
      · have g20 := z_f_ge rfl z_l14 c19
        refine lv_aload_n hx hb dX4_sendTo_167 rfl (lv_at hl 3 rfl) ?_
        refine lv_dup hx hb dX4_sendTo_168 rfl ?_
        refine z_get (T := TX4) (N := 13) (ci := 4) (i := 41) (v := .int (I18 41 11)) hx hb hts zj_X4_sendTo_X4 hown hK hW rfl rfl 11 (by decide) (hts (.fieldLink RX4 52 "PetrolBoard$Loads" "sentLoads" "I") (me_s (me_l (List.mem_of_getElem? (i := 7) rfl)))) (fun _ h => h) rfl dX4_sendTo_169 ?_
        refine lv_iload_n hx hb dX4_sendTo_172 rfl (lv_at hl 2 rfl) ?_
        refine lv_iadd hx hb dX4_sendTo_173 ?_
        refine lv_topi (fun x21 ex21 => ?_)
        refine z_put (T := TX4) (N := 13) (ci := 4) (i := 41) (v := .int x21) (I1 := z_up I18 41 11 x21) (J1 := JX) (P1 := PC c ad) hx hb hts zj_X4_sendTo_X4 tyX4 tyX4_ok nmX4 hown hK hW hS rfl rfl 11 (by decide) (hts (.fieldLink RX4 52 "PetrolBoard$Loads" "sentLoads" "I") (me_s (me_l (List.mem_of_getElem? (i := 7) rfl)))) (fun _ h => h) rfl rfl rfl (by first | rfl | exact congrArg _ z_up_s) (fun a b h ty => z_vI h ty) dX4_sendTo_174 (fun H locs hz1 hW hS => ?_)
        obtain ⟨I22, eI22⟩ : ∃ K : z_I, K = z_up I18 41 11 x21 := ⟨_, rfl⟩
        rw [← eI22] at hW
        have f23 := z_fr_k lp15fr (show z_wr L_X4_sendTo_y 41 11 = true by decide) eI22
        exact z_vret hx hb hr hK hS (Nat.le_of_ble_eq_true rfl) (Nat.le_of_ble_eq_true rfl) hlocks dX4_sendTo_177 (shC c, ad, I22, JX, PC c ad) hW ⟨I22, rfl, f23, (by by_cases q9 : 0 ≤ y17.toInt; (· (exfalso; have q8 := lp15K; have q7 := z_clt (x := y16) rfl (by omega); omega)); (· (obtain ⟨M9, m1, m2⟩ := lp15M; have x9 := lp15X; rw [zy_nd_n q9, ← zy_u41 (sh := sh) eI22] at x9; rw [← zy_u41 (sh := sh) eI22] at m2; have z9 := zy_TX_s hTX (zy_gX_f hSX.1 f23 (by decide)) (zy_0X_f f23 (by decide)) (zy_CX_f f23 (by decide)) x9 (by rw [eI22, z_up_s, ex21, lp15Q]) (by rw [eI22, z_up_k (by decide)]; exact m1) m2; exact ⟨z9.1, by have q8 := z9.2; omega⟩)))⟩
      · have g24 := z_f_nge rfl z_l14 c19
        refine lv_iload_n hx hb dX4_sendTo_39 rfl (lv_at hl 1 rfl) ?_
        refine z_ci hW hS hA (va_runS (As := [.int y17]) (rest := []) ⟨hx, hb, hml, hown, hts⟩ (sx_X4_isStation_e l G ad c I18  y17 _) (va_cwS 1 hts gX4_sendTo_X4_isStation rfl rfl rfl (by decide +kernel) ⟨Nat.le_of_ble_eq_true rfl, Nat.le_of_ble_eq_true rfl⟩) (z_preS hK hW) rfl rfl hl.1 rfl (lv_room (Nat.le_of_ble_eq_true rfl)) dX4_sendTo_40 ⟨Nat.le_of_ble_eq_true rfl, Nat.le_of_ble_eq_true rfl⟩) (fun r u1 H locs hp hW hS => ?_)
        obtain ⟨e9, hp⟩ := hp
        rw [e9] at hW
        rcases hp with ⟨rfl, h25⟩ | ⟨rfl, h25⟩
        · have h26 := h25
          refine lv_if_eq (tgt := 167) hx hb dX4_sendTo_43 (by decide) (fun c27 => absurd c27 (by decide)) (fun c27 => ?_)
          have hsl : y17.toNatClampNeg < 10 := by have q9 := z_clt (x := y17) rfl (by omega); omega
          have hnd : zy_nd y17.toInt = 5 + y17.toNatClampNeg := zy_nd_p (by omega)
          have hGn := lp15G
          rw [hnd] at hGn
          have hKk := lp15K
          rw [hnd] at hKk
          obtain ⟨w1, w2, w3, w4, w5, w6⟩ := zy_ws hfd hnk hsl hGn.2
          refine lv_aload_n hx hb dX4_sendTo_46 rfl (lv_at hl 3 rfl) ?_
          refine z_get (T := TX4) (N := 13) (ci := 4) (i := 41) (v := .ref (ad 58)) hx hb hts zj_X4_sendTo_X4 hown hK hW rfl rfl 8 (by decide) (hts (.fieldLink RX4 38 "PetrolBoard$Loads" "byPort" "[I") (me_s (me_l (List.mem_of_getElem? (i := 1) rfl)))) (fun _ h => h) rfl dX4_sendTo_47 ?_
          refine lv_iload_n hx hb dX4_sendTo_50 rfl (lv_at hl 1 rfl) ?_
          refine z_iald (i := 58) hx hb hK hW rfl (z_ix rfl (by omega) (by omega)) dX4_sendTo_51 ?_
          refine lv_topi (fun x28 ex28 => ?_)
          have hl29 : I 58 y17.toNatClampNeg = x28 := by rw [ex28, lp15fr 58 _ (z_wr_c (by decide))]
          have hbx28 : 0 ≤ x28.toInt ∧ x28.toInt ≤ 3 := by rw [← hl29]; exact ⟨w1, w2⟩
          refine z_ci hW hS hA (va_runS (As := [.int x28]) (rest := []) ⟨hx, hb, hml, hown, hts⟩ (sx_X4_isPort_e l G ad c I18  x28 _) (va_cwS 1 hts gX4_sendTo_X4_isPort rfl rfl rfl (by decide +kernel) ⟨Nat.le_of_ble_eq_true rfl, Nat.le_of_ble_eq_true rfl⟩) (z_preS hK hW) rfl rfl hl.1 rfl (lv_room (Nat.le_of_ble_eq_true rfl)) dX4_sendTo_52 ⟨Nat.le_of_ble_eq_true rfl, Nat.le_of_ble_eq_true rfl⟩) (fun r u1 H locs hp hW hS => ?_)
          obtain ⟨e9, hp⟩ := hp
          rw [e9] at hW
          rcases hp with ⟨rfl, h30⟩ | ⟨rfl, h30⟩
          · have h31 := h30
            refine lv_if_eq (tgt := 167) hx hb dX4_sendTo_55 (by decide) (fun c32 => absurd c32 (by decide)) (fun c32 => ?_)
            refine lv_aload_n hx hb dX4_sendTo_58 rfl (lv_at hl 3 rfl) ?_
            refine z_get (T := TX4) (N := 13) (ci := 4) (i := 41) (v := .ref (ad 58)) hx hb hts zj_X4_sendTo_X4 hown hK hW rfl rfl 8 (by decide) (hts (.fieldLink RX4 38 "PetrolBoard$Loads" "byPort" "[I") (me_s (me_l (List.mem_of_getElem? (i := 1) rfl)))) (fun _ h => h) rfl dX4_sendTo_59 ?_
            refine lv_iload_n hx hb dX4_sendTo_62 rfl (lv_at hl 1 rfl) ?_
            refine z_iald (i := 58) hx hb hK hW rfl (z_ix rfl (by omega) (by omega)) dX4_sendTo_63 ?_
            refine z_topi (v := x28) ex28.symm ?_
            refine lv_istore (lv' := [(5, .int x28), (4, .int y16), (3, .int y17), (2, .int x5), (0, .ref (ad 41)), (1, .int a1)]) hx hb dX4_sendTo_64 hl (by decide) rfl (fun ls hl => ?_)
            have hpl : x28.toNatClampNeg < 4 := by have q9 := z_clt (x := x28) rfl (by omega); omega
            have hvp : I 58 y17.toNatClampNeg = x28 := hl29
            rw [hvp] at w3 w4 w5 w6
            obtain ⟨v1, v2, v3, v4, v5, v6⟩ := zy_wp hfd hpl w4
            refine lv_aload_n hx hb dX4_sendTo_66 rfl (lv_at hl 4 rfl) ?_
            refine z_get (T := TX4) (N := 13) (ci := 4) (i := 41) (v := .ref (ad 49)) hx hb hts zj_X4_sendTo_X4 hown hK hW rfl rfl 3 (by decide) (hts (.fieldLink RX4 23 "PetrolBoard$Loads" "sent" "[[I") (me_s (me_l (List.mem_of_getElem? (i := 2) rfl)))) (fun _ h => h) rfl dX4_sendTo_67 ?_
            refine lv_iload hx hb dX4_sendTo_70 (lv_at hl 0 rfl) ?_
            obtain ⟨k33, ek33, hk33⟩ : ∃ k : Nat, x28.toNatClampNeg = k ∧ k < 4 := ⟨_, rfl, z_clN rfl (by omega) (by omega)⟩
            refine z_aald (i := 49) (v := .ref (ad (50 + k33))) hx hb hK hW rfl (by simp [z_tys]) rfl (z_ix rfl (by omega) (by omega)) (z_p49 ek33 hk33) dX4_sendTo_72 ?_
            refine lv_iload_n hx hb dX4_sendTo_73 rfl (lv_at hl 2 rfl) ?_
            refine lv_dup2_11 hx hb dX4_sendTo_74 rfl rfl ?_
            refine z_iald (i := (50 + k33)) hx hb hK hW (z_s50 hk33) (z_ix rfl (by omega) (by omega)) dX4_sendTo_75 ?_
            refine lv_topi (fun x34 ex34 => ?_)
            have hr35 : 0 ≤ x34.toInt ∧ x34.toInt ≤ 100 := by have q9 := lp15X.1.2 (5 + y17.toNatClampNeg) (1 + x28.toNatClampNeg) (by omega) (by omega); have q7 := lp15X.1.2 (1 + x28.toNatClampNeg) (5 + y17.toNatClampNeg) (by omega) (by omega); rw [zy_RX_3 hpl hsl, ek33, ← ex34] at q9; rw [ek33] at q7; omega
            refine lv_iload_n hx hb dX4_sendTo_76 rfl (lv_at hl 3 rfl) ?_
            refine lv_iadd hx hb dX4_sendTo_77 ?_
            refine lv_topi (fun x36 ex36 => ?_)
            have tx36 : x36.toInt = x34.toInt + x5.toInt := z_tadd ex36 rfl rfl (by omega) (by omega)
            refine z_iast (i := (50 + k33)) hx hb hK hW hS (z_s50 hk33) (z_ix rfl (by omega) (by omega)) dX4_sendTo_78 (fun H locs hz1 hW hS => ?_)
            obtain ⟨I37, eI37⟩ : ∃ K : z_I, K = z_up I18 (50 + k33) y17.toNatClampNeg x36 := ⟨_, rfl⟩
            rw [← eI37] at hW
            have f38 := z_fr_a lp15fr (z_wa50 (L := L_X4_sendTo_y) (by decide) hk33) eI37
            have hs39 : zy_sp (zy_RX I18 sh) (zy_RX I37 sh) (1 + x28.toNatClampNeg) (5 + y17.toNatClampNeg) x5.toInt := zy_u50 (by rw [ek33]; exact eI37) hpl hsl (by rw [ek33, ← ex34]; omega)
            have hX40 := zy_mv_s hfd hGn.1 hGn.2 (by omega) (by omega) (by rw [← hnd]; exact lp15X) w3 hs39
            refine lv_aload_n hx hb dX4_sendTo_79 rfl (lv_at hl 4 rfl) ?_
            refine lv_dup hx hb dX4_sendTo_80 rfl ?_
            refine z_get (T := TX4) (N := 13) (ci := 4) (i := 41) (v := .int (I18 41 12)) hx hb hts zj_X4_sendTo_X4 hown hK hW rfl rfl 12 (by decide) (hts (.fieldLink RX4 55 "PetrolBoard$Loads" "sentMiles" "I") (me_s (me_l (List.mem_of_getElem? (i := 3) rfl)))) (fun _ h => h) (congrArg Value.int (by rw [eI37, z_up_n (by omega)])) dX4_sendTo_81 ?_
            refine lv_iload_n hx hb dX4_sendTo_84 rfl (lv_at hl 3 rfl) ?_
            refine lv_aload_n hx hb dX4_sendTo_85 rfl (lv_at hl 4 rfl) ?_
            refine z_get (T := TX4) (N := 13) (ci := 4) (i := 41) (v := .ref (ad 44)) hx hb hts zj_X4_sendTo_X4 hown hK hW rfl rfl 2 (by decide) (hts (.fieldLink RX4 20 "PetrolBoard$Loads" "miles" "[[I") (me_s (me_l (List.mem_of_getElem? (i := 4) rfl)))) (fun _ h => h) rfl dX4_sendTo_86 ?_
            refine lv_iload hx hb dX4_sendTo_89 (lv_at hl 0 rfl) ?_
            obtain ⟨k41, ek41, hk41⟩ : ∃ k : Nat, x28.toNatClampNeg = k ∧ k < 4 := ⟨_, rfl, z_clN rfl (by omega) (by omega)⟩
            refine z_aald (i := 44) (v := .ref (ad (45 + k41))) hx hb hK hW rfl (by simp [z_tys]) rfl (z_ix rfl (by omega) (by omega)) (z_p44 ek41 hk41) dX4_sendTo_91 ?_
            refine lv_iload_n hx hb dX4_sendTo_92 rfl (lv_at hl 2 rfl) ?_
            refine z_iald (i := (45 + k41)) hx hb hK hW (z_s45 hk41) (z_ix rfl (by omega) (by omega)) dX4_sendTo_93 ?_
            refine lv_topi (fun x42 ex42 => ?_)
            have hm43 : x42.toInt = (I (45 + x28.toNatClampNeg) y17.toNatClampNeg).toInt := by rw [ex42, f38 (45 + k41) _ (zy_wr (lo := 42) (hi := 50) (by omega) (by omega) (by decide) (by decide)), ← ek41]
            refine lv_imul hx hb dX4_sendTo_94 ?_
            refine lv_topi (fun x44 ex44 => ?_)
            refine lv_iadd hx hb dX4_sendTo_95 ?_
            refine lv_topi (fun x45 ex45 => ?_)
            refine z_put (T := TX4) (N := 13) (ci := 4) (i := 41) (v := .int x45) (I1 := z_up I37 41 12 x45) (J1 := JX) (P1 := PC c ad) hx hb hts zj_X4_sendTo_X4 tyX4 tyX4_ok nmX4 hown hK hW hS rfl rfl 12 (by decide) (hts (.fieldLink RX4 55 "PetrolBoard$Loads" "sentMiles" "I") (me_s (me_l (List.mem_of_getElem? (i := 3) rfl)))) (fun _ h => h) rfl rfl rfl (by first | rfl | exact congrArg _ z_up_s) (fun a b h ty => z_vI h ty) dX4_sendTo_96 (fun H locs hz1 hW hS => ?_)
            obtain ⟨I46, eI46⟩ : ∃ K : z_I, K = z_up I37 41 12 x45 := ⟨_, rfl⟩
            rw [← eI46] at hW
            have f47 := z_fr_k f38 (show z_wr L_X4_sendTo_y 41 12 = true by decide) eI46
            refine lv_aload_n hx hb dX4_sendTo_99 rfl (lv_at hl 4 rfl) ?_
            refine z_get (T := TX4) (N := 13) (ci := 4) (i := 41) (v := .ref (ad 59)) hx hb hts zj_X4_sendTo_X4 hown hK hW rfl rfl 9 (by decide) (hts (.fieldLink RX4 41 "PetrolBoard$Loads" "byStation" "[I") (me_s (me_l (List.mem_of_getElem? (i := 5) rfl)))) (fun _ h => h) rfl dX4_sendTo_100 ?_
            refine lv_iload hx hb dX4_sendTo_103 (lv_at hl 0 rfl) ?_
            refine z_iald (i := 59) hx hb hK hW rfl (z_ix rfl (by omega) (by omega)) dX4_sendTo_105 ?_
            refine lv_topi (fun x48 ex48 => ?_)
            have hl49 : I 59 x28.toNatClampNeg = x48 := by rw [ex48, f47 59 _ (z_wr_c (by decide))]
            rw [hl49] at v1 v2 v3 v4 v5 v6
            refine lv_istore_n (lv' := [(3, .int x48), (5, .int x28), (4, .int y16), (2, .int x5), (0, .ref (ad 41)), (1, .int a1)]) hx hb dX4_sendTo_106 rfl hl (by decide) rfl (fun ls hl => ?_)
            refine lv_iload_n hx hb dX4_sendTo_107 rfl (lv_at hl 0 rfl) ?_
            refine z_ci hW hS hA (va_runS (As := [.int x48]) (rest := []) ⟨hx, hb, hml, hown, hts⟩ (sx_X4_isStation_e l G ad c I46  x48 _) (va_cwS 1 hts gX4_sendTo_X4_isStation rfl rfl rfl (by decide +kernel) ⟨Nat.le_of_ble_eq_true rfl, Nat.le_of_ble_eq_true rfl⟩) (z_preS hK hW) rfl rfl hl.1 rfl (lv_room (Nat.le_of_ble_eq_true rfl)) dX4_sendTo_108 ⟨Nat.le_of_ble_eq_true rfl, Nat.le_of_ble_eq_true rfl⟩) (fun r u1 H locs hp hW hS => ?_)
            obtain ⟨e9, hp⟩ := hp
            rw [e9] at hW
            rcases hp with ⟨rfl, h50⟩ | ⟨rfl, h50⟩
            · have h51 := h50
              refine lv_if_eq (tgt := 150) hx hb dX4_sendTo_111 (by decide) (fun c52 => absurd c52 (by decide)) (fun c52 => ?_)
              refine lv_aload_n hx hb dX4_sendTo_114 rfl (lv_at hl 4 rfl) ?_
              refine z_get (T := TX4) (N := 13) (ci := 4) (i := 41) (v := .ref (ad 49)) hx hb hts zj_X4_sendTo_X4 hown hK hW rfl rfl 3 (by decide) (hts (.fieldLink RX4 23 "PetrolBoard$Loads" "sent" "[[I") (me_s (me_l (List.mem_of_getElem? (i := 2) rfl)))) (fun _ h => h) rfl dX4_sendTo_115 ?_
              refine lv_iload hx hb dX4_sendTo_118 (lv_at hl 1 rfl) ?_
              obtain ⟨k53, ek53, hk53⟩ : ∃ k : Nat, x28.toNatClampNeg = k ∧ k < 4 := ⟨_, rfl, z_clN rfl (by omega) (by omega)⟩
              refine z_aald (i := 49) (v := .ref (ad (50 + k53))) hx hb hK hW rfl (by simp [z_tys]) rfl (z_ix rfl (by omega) (by omega)) (z_p49 ek53 hk53) dX4_sendTo_120 ?_
              refine lv_iload_n hx hb dX4_sendTo_121 rfl (lv_at hl 0 rfl) ?_
              refine lv_dup2_11 hx hb dX4_sendTo_122 rfl rfl ?_
              refine z_iald (i := (50 + k53)) hx hb hK hW (z_s50 hk53) (z_ix rfl (by omega) (by omega)) dX4_sendTo_123 ?_
              refine lv_topi (fun x54 ex54 => ?_)
              have hvl : x48.toNatClampNeg < 10 := by have q9 := z_clt (x := x48) rfl (by omega); omega
              have hr55 : 0 ≤ x54.toInt ∧ x54.toInt ≤ 100 := by have q9 := hX40.1.2 (5 + x48.toNatClampNeg) (1 + x28.toNatClampNeg) (by omega) (by omega); have q7 := hX40.1.2 (1 + x28.toNatClampNeg) (5 + x48.toNatClampNeg) (by omega) (by omega); rw [← zy_u41 (sh := sh) eI46] at q9 q7; rw [zy_RX_3 hpl hvl, ek53, ← ex54] at q9; rw [ek53] at q7; omega
              refine lv_iload_n hx hb dX4_sendTo_124 rfl (lv_at hl 3 rfl) ?_
              refine lv_isub hx hb dX4_sendTo_125 ?_
              refine lv_topi (fun x56 ex56 => ?_)
              have tx56 : x56.toInt = x54.toInt - x5.toInt := z_tsub ex56 rfl rfl (by omega) (by omega)
              refine z_iast (i := (50 + k53)) hx hb hK hW hS (z_s50 hk53) (z_ix rfl (by omega) (by omega)) dX4_sendTo_126 (fun H locs hz1 hW hS => ?_)
              obtain ⟨I57, eI57⟩ : ∃ K : z_I, K = z_up I46 (50 + k53) x48.toNatClampNeg x56 := ⟨_, rfl⟩
              rw [← eI57] at hW
              have f58 := z_fr_a f47 (z_wa50 (L := L_X4_sendTo_y) (by decide) hk53) eI57
              refine lv_aload_n hx hb dX4_sendTo_127 rfl (lv_at hl 4 rfl) ?_
              refine lv_dup hx hb dX4_sendTo_128 rfl ?_
              refine z_get (T := TX4) (N := 13) (ci := 4) (i := 41) (v := .int x45) hx hb hts zj_X4_sendTo_X4 hown hK hW rfl rfl 12 (by decide) (hts (.fieldLink RX4 55 "PetrolBoard$Loads" "sentMiles" "I") (me_s (me_l (List.mem_of_getElem? (i := 3) rfl)))) (fun _ h => h) (congrArg Value.int (by rw [eI57, z_up_n (by omega), eI46, z_up_s])) dX4_sendTo_129 ?_
              refine lv_iload_n hx hb dX4_sendTo_132 rfl (lv_at hl 3 rfl) ?_
              refine lv_aload_n hx hb dX4_sendTo_133 rfl (lv_at hl 4 rfl) ?_
              refine z_get (T := TX4) (N := 13) (ci := 4) (i := 41) (v := .ref (ad 44)) hx hb hts zj_X4_sendTo_X4 hown hK hW rfl rfl 2 (by decide) (hts (.fieldLink RX4 20 "PetrolBoard$Loads" "miles" "[[I") (me_s (me_l (List.mem_of_getElem? (i := 4) rfl)))) (fun _ h => h) rfl dX4_sendTo_134 ?_
              refine lv_iload hx hb dX4_sendTo_137 (lv_at hl 1 rfl) ?_
              obtain ⟨k59, ek59, hk59⟩ : ∃ k : Nat, x28.toNatClampNeg = k ∧ k < 4 := ⟨_, rfl, z_clN rfl (by omega) (by omega)⟩
              refine z_aald (i := 44) (v := .ref (ad (45 + k59))) hx hb hK hW rfl (by simp [z_tys]) rfl (z_ix rfl (by omega) (by omega)) (z_p44 ek59 hk59) dX4_sendTo_139 ?_
              refine lv_iload_n hx hb dX4_sendTo_140 rfl (lv_at hl 0 rfl) ?_
              refine z_iald (i := (45 + k59)) hx hb hK hW (z_s45 hk59) (z_ix rfl (by omega) (by omega)) dX4_sendTo_141 ?_
              refine lv_topi (fun x60 ex60 => ?_)
              have hm61 : x60.toInt = (I (45 + x28.toNatClampNeg) x48.toNatClampNeg).toInt := by rw [ex60, f58 (45 + k59) _ (zy_wr (lo := 42) (hi := 50) (by omega) (by omega) (by decide) (by decide)), ← ek59]
              refine lv_imul hx hb dX4_sendTo_142 ?_
              refine lv_topi (fun x62 ex62 => ?_)
              refine lv_isub hx hb dX4_sendTo_143 ?_
              refine lv_topi (fun x63 ex63 => ?_)
              refine z_put (T := TX4) (N := 13) (ci := 4) (i := 41) (v := .int x63) (I1 := z_up I57 41 12 x63) (J1 := JX) (P1 := PC c ad) hx hb hts zj_X4_sendTo_X4 tyX4 tyX4_ok nmX4 hown hK hW hS rfl rfl 12 (by decide) (hts (.fieldLink RX4 55 "PetrolBoard$Loads" "sentMiles" "I") (me_s (me_l (List.mem_of_getElem? (i := 3) rfl)))) (fun _ h => h) rfl rfl rfl (by first | rfl | exact congrArg _ z_up_s) (fun a b h ty => z_vI h ty) dX4_sendTo_144 (fun H locs hz1 hW hS => ?_)
              obtain ⟨I64, eI64⟩ : ∃ K : z_I, K = z_up I57 41 12 x63 := ⟨_, rfl⟩
              rw [← eI64] at hW
              have f65 := z_fr_k f58 (show z_wr L_X4_sendTo_y 41 12 = true by decide) eI64
              refine lv_goto (tgt := 161) hx hb dX4_sendTo_147 (by decide) ?_
              obtain ⟨M9, m1, m2⟩ := lp15M
              have hM66 := zy_mv_q (M' := M9 + x5.toInt * x42.toInt) hs39 (by omega) (by omega) (by omega) (zy_C_a _ _) ((zy_CX_1 hpl hsl).trans hm43.symm) m2 rfl
              have hg67 := zy_M_a m1 ex44 ex45
              have hs68 : zy_sp (zy_RX I37 sh) (zy_RX I64 sh) (zy_nd x48.toInt) (1 + x28.toNatClampNeg) x5.toInt := by rw [zy_nd_p (by omega), ← zy_u41 (sh := sh) eI46, zy_u41 (sh := sh) eI64]; exact zy_sp_r (zy_u50 (by rw [ek53]; exact eI57) hpl hvl (by show _ = (I46 (50 + x28.toNatClampNeg) x48.toNatClampNeg).toInt + -x5.toInt; rw [ek53, ← ex54]; omega))
              have hX9 := zy_mv_s hfd (by omega) w4 (by omega) (by omega) hX40 v2 hs68
              have hC9 : zy_CX I (zy_nd x48.toInt) (1 + x28.toNatClampNeg) = -x60.toInt := by rw [zy_nd_p (by omega)]; show zy_CX I (5 + x48.toNatClampNeg) (1 + x28.toNatClampNeg) = _; rw [zy_CX_3 hpl hvl, hm61]
              have hM9 : ∃ M9 : Int, I64 41 12 = Int32.ofInt M9 ∧ 2 * M9 + zy_Q (zy_RX I64 sh) (zy_CX I) = (zy_Q (zy_0X I sh) (zy_CX I)) := ⟨M9 + x5.toInt * x42.toInt - x5.toInt * x60.toInt, by rw [eI64, z_up_s]; exact zy_M_s hg67 ex62 ex63, zy_mv_q hs68 (by omega) (by omega) (by have q9 := v6; intro q8; rw [q8] at q9; omega) (zy_C_a _ _) hC9 hM66 (by rw [Int.mul_neg]; omega)⟩
              obtain ⟨x69, ex69⟩ : ∃ y : Int32, y = y16 + 1 := ⟨_, rfl⟩
              have tx69 : x69.toInt = y16.toInt + 1 := z_tadd ex69 rfl z_l1 (by omega) (by omega)
              refine lv_iinc (v := x69) (lv' := [(4, .int x69), (3, .int x48), (5, .int x28), (2, .int x5), (0, .ref (ad 41)), (1, .int a1)]) hx hb dX4_sendTo_161 hl (k := 2) rfl (by rw [ex69]; rfl) (by decide) rfl (fun ls hl => ?_)
              refine lv_goto (tgt := 32) hx hb dX4_sendTo_164 (by decide) ?_
              exact lp15ih x69 x48 I64  _ _ _ (by omega) (by omega) (by omega) (by omega) ⟨v3, v4⟩ (by rw [z_ss (x := y16) (y := x69) (by omega) (by omega)]; omega) hX9 hM9 (by rw [eI64, z_up_k (by decide), eI57, z_up_n (by omega), eI46, z_up_k (by decide), eI37, z_up_n (by omega)]; exact lp15Q) f65 hW hS (lv_sub hl [0, 1, 3, 4, 5] rfl)
            · have h70 := h50
              refine lv_if_eq (tgt := 150) hx hb dX4_sendTo_111 (by decide) (fun c71 => ?_) (fun c71 => absurd (by decide) c71)
              refine lv_aload_n hx hb dX4_sendTo_150 rfl (lv_at hl 4 rfl) ?_
              refine z_get (T := TX4) (N := 13) (ci := 4) (i := 41) (v := .ref (ad 54)) hx hb hts zj_X4_sendTo_X4 hown hK hW rfl rfl 4 (by decide) (hts (.fieldLink RX4 26 "PetrolBoard$Loads" "left" "[I") (me_s (me_l (List.mem_of_getElem? (i := 6) rfl)))) (fun _ h => h) rfl dX4_sendTo_151 ?_
              refine lv_iload hx hb dX4_sendTo_154 (lv_at hl 1 rfl) ?_
              refine lv_dup2_11 hx hb dX4_sendTo_156 rfl rfl ?_
              refine z_iald (i := 54) hx hb hK hW rfl (z_ix rfl (by omega) (by omega)) dX4_sendTo_157 ?_
              refine lv_topi (fun x72 ex72 => ?_)
              have hr73 : 0 ≤ x72.toInt ∧ x72.toInt ≤ 100 := by have q9 := hX40.1.2 0 (1 + x28.toNatClampNeg) (by omega) (by omega); have q7 := hX40.1.2 (1 + x28.toNatClampNeg) 0 (by omega) (by omega); rw [← zy_u41 (sh := sh) eI46] at q9 q7; rw [zy_RX_0 hpl, ← ex72] at q9; omega
              refine lv_iload_n hx hb dX4_sendTo_158 rfl (lv_at hl 3 rfl) ?_
              refine lv_isub hx hb dX4_sendTo_159 ?_
              refine lv_topi (fun x74 ex74 => ?_)
              have tx74 : x74.toInt = x72.toInt - x5.toInt := z_tsub ex74 rfl rfl (by omega) (by omega)
              refine z_iast (i := 54) hx hb hK hW hS rfl (z_ix rfl (by omega) (by omega)) dX4_sendTo_160 (fun H locs hz1 hW hS => ?_)
              obtain ⟨I75, eI75⟩ : ∃ K : z_I, K = z_up I46 54 x28.toNatClampNeg x74 := ⟨_, rfl⟩
              rw [← eI75] at hW
              have f76 := z_fr_a f47 (show z_wa L_X4_sendTo_y 54 = true by decide) eI75
              obtain ⟨M9, m1, m2⟩ := lp15M
              have hM77 := zy_mv_q (M' := M9 + x5.toInt * x42.toInt) hs39 (by omega) (by omega) (by omega) (zy_C_a _ _) ((zy_CX_1 hpl hsl).trans hm43.symm) m2 rfl
              have hg78 := zy_M_a m1 ex44 ex45
              have hs79 : zy_sp (zy_RX I37 sh) (zy_RX I75 sh) (zy_nd x48.toInt) (1 + x28.toNatClampNeg) x5.toInt := by rw [zy_nd_n (by omega), ← zy_u41 (sh := sh) eI46]; exact zy_u54 eI75 hpl (by rw [← ex72]; omega)
              have hX9 := zy_mv_s hfd (by omega) w4 (by omega) (by omega) hX40 v2 hs79
              have hM9 : ∃ M9 : Int, I75 41 12 = Int32.ofInt M9 ∧ 2 * M9 + zy_Q (zy_RX I75 sh) (zy_CX I) = (zy_Q (zy_0X I sh) (zy_CX I)) := ⟨M9 + x5.toInt * x42.toInt, by rw [eI75, z_up_n (by decide), eI46, z_up_s]; exact hg78, zy_mv_q (c := 0) hs79 (by omega) (by omega) (by rw [zy_nd_n (by omega)]; omega) (zy_C_a _ _) (by rw [zy_nd_n (by omega)]; exact zy_C_0 hpl) hM77 (by omega)⟩
              obtain ⟨x80, ex80⟩ : ∃ y : Int32, y = y16 + 1 := ⟨_, rfl⟩
              have tx80 : x80.toInt = y16.toInt + 1 := z_tadd ex80 rfl z_l1 (by omega) (by omega)
              refine lv_iinc (v := x80) (lv' := [(4, .int x80), (3, .int x48), (5, .int x28), (2, .int x5), (0, .ref (ad 41)), (1, .int a1)]) hx hb dX4_sendTo_161 hl (k := 2) rfl (by rw [ex80]; rfl) (by decide) rfl (fun ls hl => ?_)
              refine lv_goto (tgt := 32) hx hb dX4_sendTo_164 (by decide) ?_
              exact lp15ih x80 x48 I75  _ _ _ (by omega) (by omega) (by omega) (by omega) ⟨v3, v4⟩ (by rw [z_ss (x := y16) (y := x80) (by omega) (by omega)]; omega) hX9 hM9 (by rw [eI75, z_up_n (by decide), eI46, z_up_k (by decide), eI37, z_up_n (by omega)]; exact lp15Q) f76 hW hS (lv_sub hl [0, 1, 3, 4, 5] rfl)
          · have h81 := h30
            refine lv_if_eq (tgt := 167) hx hb dX4_sendTo_55 (by decide) (fun c82 => ?_) (fun c82 => absurd (by decide) c82)
            refine lv_aload_n hx hb dX4_sendTo_167 rfl (lv_at hl 3 rfl) ?_
            refine lv_dup hx hb dX4_sendTo_168 rfl ?_
            refine z_get (T := TX4) (N := 13) (ci := 4) (i := 41) (v := .int (I18 41 11)) hx hb hts zj_X4_sendTo_X4 hown hK hW rfl rfl 11 (by decide) (hts (.fieldLink RX4 52 "PetrolBoard$Loads" "sentLoads" "I") (me_s (me_l (List.mem_of_getElem? (i := 7) rfl)))) (fun _ h => h) rfl dX4_sendTo_169 ?_
            refine lv_iload_n hx hb dX4_sendTo_172 rfl (lv_at hl 2 rfl) ?_
            refine lv_iadd hx hb dX4_sendTo_173 ?_
            refine lv_topi (fun x83 ex83 => ?_)
            refine z_put (T := TX4) (N := 13) (ci := 4) (i := 41) (v := .int x83) (I1 := z_up I18 41 11 x83) (J1 := JX) (P1 := PC c ad) hx hb hts zj_X4_sendTo_X4 tyX4 tyX4_ok nmX4 hown hK hW hS rfl rfl 11 (by decide) (hts (.fieldLink RX4 52 "PetrolBoard$Loads" "sentLoads" "I") (me_s (me_l (List.mem_of_getElem? (i := 7) rfl)))) (fun _ h => h) rfl rfl rfl (by first | rfl | exact congrArg _ z_up_s) (fun a b h ty => z_vI h ty) dX4_sendTo_174 (fun H locs hz1 hW hS => ?_)
            obtain ⟨I84, eI84⟩ : ∃ K : z_I, K = z_up I18 41 11 x83 := ⟨_, rfl⟩
            rw [← eI84] at hW
            have f85 := z_fr_k lp15fr (show z_wr L_X4_sendTo_y 41 11 = true by decide) eI84
            exact z_vret hx hb hr hK hS (Nat.le_of_ble_eq_true rfl) (Nat.le_of_ble_eq_true rfl) hlocks dX4_sendTo_177 (shC c, ad, I84, JX, PC c ad) hW ⟨I84, rfl, f85, (by exfalso; omega)⟩
        · have h86 := h25
          refine lv_if_eq (tgt := 167) hx hb dX4_sendTo_43 (by decide) (fun c87 => ?_) (fun c87 => absurd (by decide) c87)
          refine lv_aload_n hx hb dX4_sendTo_167 rfl (lv_at hl 3 rfl) ?_
          refine lv_dup hx hb dX4_sendTo_168 rfl ?_
          refine z_get (T := TX4) (N := 13) (ci := 4) (i := 41) (v := .int (I18 41 11)) hx hb hts zj_X4_sendTo_X4 hown hK hW rfl rfl 11 (by decide) (hts (.fieldLink RX4 52 "PetrolBoard$Loads" "sentLoads" "I") (me_s (me_l (List.mem_of_getElem? (i := 7) rfl)))) (fun _ h => h) rfl dX4_sendTo_169 ?_
          refine lv_iload_n hx hb dX4_sendTo_172 rfl (lv_at hl 2 rfl) ?_
          refine lv_iadd hx hb dX4_sendTo_173 ?_
          refine lv_topi (fun x88 ex88 => ?_)
          refine z_put (T := TX4) (N := 13) (ci := 4) (i := 41) (v := .int x88) (I1 := z_up I18 41 11 x88) (J1 := JX) (P1 := PC c ad) hx hb hts zj_X4_sendTo_X4 tyX4 tyX4_ok nmX4 hown hK hW hS rfl rfl 11 (by decide) (hts (.fieldLink RX4 52 "PetrolBoard$Loads" "sentLoads" "I") (me_s (me_l (List.mem_of_getElem? (i := 7) rfl)))) (fun _ h => h) rfl rfl rfl (by first | rfl | exact congrArg _ z_up_s) (fun a b h ty => z_vI h ty) dX4_sendTo_174 (fun H locs hz1 hW hS => ?_)
          obtain ⟨I89, eI89⟩ : ∃ K : z_I, K = z_up I18 41 11 x88 := ⟨_, rfl⟩
          rw [← eI89] at hW
          have f90 := z_fr_k lp15fr (show z_wr L_X4_sendTo_y 41 11 = true by decide) eI89
          exact z_vret hx hb hr hK hS (Nat.le_of_ble_eq_true rfl) (Nat.le_of_ble_eq_true rfl) hlocks dX4_sendTo_177 (shC c, ad, I89, JX, PC c ad) hW ⟨I89, rfl, f90, (by by_cases q9 : 0 ≤ y17.toInt; (· (exfalso; have q8 := lp15K; have q7 := z_clt (x := y16) rfl (by omega); omega)); (· (obtain ⟨M9, m1, m2⟩ := lp15M; have x9 := lp15X; rw [zy_nd_n q9, ← zy_u41 (sh := sh) eI89] at x9; rw [← zy_u41 (sh := sh) eI89] at m2; have z9 := zy_TX_s hTX (zy_gX_f hSX.1 f90 (by decide)) (zy_0X_f f90 (by decide)) (zy_CX_f f90 (by decide)) x9 (by rw [eI89, z_up_s, ex88, lp15Q]) (by rw [eI89, z_up_k (by decide)]; exact m1) m2; exact ⟨z9.1, by have q8 := z9.2; omega⟩)))⟩
  exact lp15 4294967296 (0) a1 I13  _ _ _ (z_m0u _) (by rw [z_l0]; omega) (by rw [z_l0]; omega) (by omega) ⟨by rw [zy_nd_p (by omega)]; exact bq1, by rw [zy_nd_p (by omega)]; exact bq2⟩ (by rw [z_n0, zy_nd_p (by omega)]; omega) (by rw [zy_nd_p (by omega)]; exact zy_mv_s hfd (by decide) hF15 (by decide) (by omega) ⟨⟨hfd.1, fun a b ha hb => zy_SX_R hSX a b ha hb⟩, hN8, zy_wk_0⟩ zy_B2_15 (zy_u55 (s := a1.toInt.toNat) (n := x5.toInt) eI13 ha9 (by omega))) (by obtain ⟨M9, m1, m2⟩ := hM0; exact ⟨M9, by rw [eI13, z_up_n (by decide)]; exact m1, zy_mv_q (zy_u55 (s := a1.toInt.toNat) (n := x5.toInt) eI13 ha9 (by omega)) (by omega) (by decide) (by omega) (zy_C_a _ _) (zy_C_2 ha9) m2 (by omega)⟩) (by rw [eI13, z_up_n (by decide)]) f14 hW hS (lv_sub hl [0, 1, 2, 3, 4] rfl)
noncomputable def L_X4_send_y : z_L := [(55, 999), (50, 999), (51, 999), (52, 999), (53, 999), (54, 999), (41, 12), (41, 11), (56, 999), (57, 999), (58, 999), (59, 999)]
set_option maxHeartbeats 8000000 in
set_option maxRecDepth 100000 in
theorem sx_X4_send_y (l : Launch) (G : z_G) (ad : Nat → Nat) (c : z_C) (I : z_I) (a1 : Int32) (hgX : zy_gX I) : z_Mv l yX4_send wsX4_send { frames := 4, cells := 0, slots := 0, locals := 90 } [.ref (ad 41), .int a1] G (shC c, ad, I, JX, PC c ad) (fun u1 => ∃ I1 : z_I, u1 = (shC c, ad, I1, JX, PC c ad) ∧ z_fr L_X4_send_y I1 I ∧ zy_TX I1 a1.toInt ∧ zy_op (zy_RX I1 a1.toInt) (zy_CX I1)) 0 0 := by
  intro sz
  refine z_headQ (cc := cX4_send) (maxL := 4) (ret := none) (by decide) rfl (Nat.le_of_ble_eq_true rfl) ?_
  intro p e s m below meth c0 ls hIn hK hsz hW hl
  obtain ⟨hx, hb, hr, hml, hown, hts, hlocks, hname⟩ := hIn
  subst hsz
  have hown : s.vm.findClass RX4 = some m.cls := hown
  have hA : ∀ q : Nat, s.heap.size ≤ q → z_A (shC c, ad, I, JX, PC c ad) s.heap.size q := fun q h => Or.inr h
  generalize hAe : z_A (shC c, ad, I, JX, PC c ad) s.heap.size = A at *
  have hS : va_S A s.heap s.heap [] := va_S.rf
  have hl : lv_has ls 4 [(0, .ref (ad 41)), (1, .int a1)] := hl
  refine lv_aload_n hx hb dX4_send_0 rfl (lv_at hl 0 rfl) ?_
  refine lv_iconst (v := 0) hx hb dX4_send_1 (by decide) ?_
  refine z_put (T := TX4) (N := 13) (ci := 4) (i := 41) (v := .int 0) (I1 := z_up I 41 11 0) (J1 := JX) (P1 := PC c ad) hx hb hts zj_X4_send_X4 tyX4 tyX4_ok nmX4 hown hK hW hS rfl rfl 11 (by decide) (hts (.fieldLink RX4 52 "PetrolBoard$Loads" "sentLoads" "I") (me_s (me_l (me_l (List.mem_of_getElem? (i := 0) rfl))))) (fun _ h => h) rfl rfl rfl (by first | rfl | exact congrArg _ z_up_s) (fun a b h ty => z_vI h ty) dX4_send_2 (fun H locs hz1 hW hS => ?_)
  obtain ⟨I1, eI1⟩ : ∃ K : z_I, K = z_up I 41 11 0 := ⟨_, rfl⟩
  rw [← eI1] at hW
  have f2 := z_fr_k z_fr_0 (show z_wr L_X4_send_y 41 11 = true by decide) eI1
  refine lv_aload_n hx hb dX4_send_5 rfl (lv_at hl 0 rfl) ?_
  refine lv_iconst (v := 0) hx hb dX4_send_6 (by decide) ?_
  refine z_put (T := TX4) (N := 13) (ci := 4) (i := 41) (v := .int 0) (I1 := z_up I1 41 12 0) (J1 := JX) (P1 := PC c ad) hx hb hts zj_X4_send_X4 tyX4 tyX4_ok nmX4 hown hK hW hS rfl rfl 12 (by decide) (hts (.fieldLink RX4 55 "PetrolBoard$Loads" "sentMiles" "I") (me_s (me_l (me_l (List.mem_of_getElem? (i := 1) rfl))))) (fun _ h => h) rfl rfl rfl (by first | rfl | exact congrArg _ z_up_s) (fun a b h ty => z_vI h ty) dX4_send_7 (fun H locs hz1 hW hS => ?_)
  obtain ⟨I3, eI3⟩ : ∃ K : z_I, K = z_up I1 41 12 0 := ⟨_, rfl⟩
  rw [← eI3] at hW
  have f4 := z_fr_k f2 (show z_wr L_X4_send_y 41 12 = true by decide) eI3
  refine lv_iconst (v := 0) hx hb dX4_send_10 (by decide) ?_
  refine lv_istore_n (lv' := [(2, .int 0), (0, .ref (ad 41)), (1, .int a1)]) hx hb dX4_send_11 rfl hl (by decide) rfl (fun ls hl => ?_)
  have lp5 : ∀ (f : Nat) (y6 : Int32) (I7 : z_I) (H : Heap) (locs : List Loc) (ls : Array Slot), (2147483647 < y6.toInt + (f : Int)) → (0 ≤ y6.toInt) → (y6.toInt ≤ 4) → (I7 41 11 = 0 ∧ I7 41 12 = 0) → (∀ q : Nat, q < y6.toNatClampNeg → (I7 54 q).toInt = zy_cX I a1.toInt q ∧ ∀ j, (I7 (50 + q) j).toInt = 0) → (z_fr L_X4_send_y I7 I) → z_W G A (shC c, ad, I7, JX, PC c ad) H → va_S A s.heap H locs → lv_has ls 4 [(2, .int y6), (0, .ref (ad 41)), (1, .int a1)] → W p l e (headSpec wsX4_send { frames := 4, cells := 0, slots := 0, locals := 90 }).room s m ([.ref (ad 41), .int a1] : List Value).toArray below meth c0 H locs 0 0 (MQ below (va_Qv (fun (u1 : z_U) => ∃ I1 : z_I, u1 = (shC c, ad, I1, JX, PC c ad) ∧ z_fr L_X4_send_y I1 I ∧ zy_TX I1 a1.toInt ∧ zy_op (zy_RX I1 a1.toInt) (zy_CX I1)) (z_B G A) A) ([.ref (ad 41), .int a1] : List Value).toArray s 0 0 A) (F0 m 12 ls []) := by
    intro f
    induction f with
    | zero => intro y6 I7  H locs ls lp5m lp5l2 lp5u2 lp5Z lp5A lp5fr hW hS hl; exact absurd lp5m (by have := Int32.toInt_lt y6; have := Int32.le_toInt y6; omega)
    | succ f lp5ih =>
      intro y6 I7  H locs ls lp5m lp5l2 lp5u2 lp5Z lp5A lp5fr hW hS hl
      refine lv_iload_n hx hb dX4_send_12 rfl (lv_at hl 0 rfl) ?_
      refine lv_iconst (v := 4) hx hb dX4_send_13 (by decide) ?_
      refine lv_icmp_ge (tgt := 54) hx hb dX4_send_14 (by decide) (fun c8 => ?_) (fun c8 => ?_)
      · have g9 := z_f_ge rfl z_l4 c8
        refine lv_iconst (v := 0) hx hb dX4_send_54 (by decide) ?_
        refine lv_istore_n (lv' := [(2, .int 0), (0, .ref (ad 41)), (1, .int a1)]) hx hb dX4_send_55 rfl hl (by decide) rfl (fun ls hl => ?_)
        have lp10 : ∀ (f : Nat) (y11 : Int32) (I12 : z_I) (H : Heap) (locs : List Loc) (ls : Array Slot), (2147483647 < y11.toInt + (f : Int)) → (0 ≤ y11.toInt) → (y11.toInt ≤ 10) → (I12 41 11 = 0 ∧ I12 41 12 = 0) → (∀ q : Nat, q < 4 → (I12 54 q).toInt = zy_cX I a1.toInt q ∧ ∀ j, (I12 (50 + q) j).toInt = 0) → (∀ q : Nat, q < y11.toNatClampNeg → (I12 55 q).toInt = (I 43 q).toInt) → (z_fr L_X4_send_y I12 I) → z_W G A (shC c, ad, I12, JX, PC c ad) H → va_S A s.heap H locs → lv_has ls 4 [(2, .int y11), (0, .ref (ad 41)), (1, .int a1)] → W p l e (headSpec wsX4_send { frames := 4, cells := 0, slots := 0, locals := 90 }).room s m ([.ref (ad 41), .int a1] : List Value).toArray below meth c0 H locs 0 0 (MQ below (va_Qv (fun (u1 : z_U) => ∃ I1 : z_I, u1 = (shC c, ad, I1, JX, PC c ad) ∧ z_fr L_X4_send_y I1 I ∧ zy_TX I1 a1.toInt ∧ zy_op (zy_RX I1 a1.toInt) (zy_CX I1)) (z_B G A) A) ([.ref (ad 41), .int a1] : List Value).toArray s 0 0 A) (F0 m 56 ls []) := by
          intro f
          induction f with
          | zero => intro y11 I12  H locs ls lp10m lp10l2 lp10u2 lp10Z lp10A lp10W lp10fr hW hS hl; exact absurd lp10m (by have := Int32.toInt_lt y11; have := Int32.le_toInt y11; omega)
          | succ f lp10ih =>
            intro y11 I12  H locs ls lp10m lp10l2 lp10u2 lp10Z lp10A lp10W lp10fr hW hS hl
            refine lv_iload_n hx hb dX4_send_56 rfl (lv_at hl 0 rfl) ?_
            refine lv_bipush (v := 10) hx hb dX4_send_57 (by decide) ?_
            refine lv_icmp_ge (tgt := 80) hx hb dX4_send_59 (by decide) (fun c13 => ?_) (fun c13 => ?_)
            · have g14 := z_f_ge rfl z_l10 c13
              obtain ⟨hT15, hS16⟩ := zy_T0 (sh := a1.toInt) (zy_gX_f hgX lp10fr (by decide)) (fun q hq => by have h9 := lp10A q hq; refine ⟨h9.1.trans ?_, h9.2⟩; unfold zy_cX; rw [lp10fr 42 q (z_wr_c (by decide))]) (fun q hq => by rw [lp10fr 43 q (z_wr_c (by decide))]; exact lp10W q (by have c9 := z_clt (x := y11) rfl (by omega); omega)) lp10Z.1 lp10Z.2
              refine lv_aload_n hx hb dX4_send_80 rfl (lv_at hl 1 rfl) ?_
              refine z_ci hW hS hA (va_runV (As := []) (rest := []) ⟨hx, hb, hml, hown, hts⟩ (sx_X4_cheapestEnd_y l G ad c I12 a1.toInt hT15.1 _) (cwV 0 hts gX4_send_X4_cheapestEnd rfl rfl rfl (by decide +kernel) ⟨Nat.le_of_ble_eq_true rfl, Nat.le_of_ble_eq_true rfl⟩) (z_preV (i := 41) hK hW rfl rfl) rfl rfl hl.1 rfl (lv_room (Nat.le_of_ble_eq_true rfl)) dX4_send_81 ⟨Nat.le_of_ble_eq_true rfl, Nat.le_of_ble_eq_true rfl⟩) (fun r u1 H locs hp hW hS => ?_)
              obtain ⟨I17, e9, fI17, hp⟩ := hp
              rw [e9] at hW
              have f18 := z_fr_sub (L := L_X4_send_y) lp10fr fI17 (by decide)
              refine lv_topi (fun x19 ex19 => ?_)
              rw [← ex19] at hp
              have hE20 := hp
              have hbx19 : -1 ≤ x19.toInt ∧ x19.toInt ≤ 9 := by rcases hp with h9 | h9 <;> omega
              refine lv_istore_n (lv' := [(2, .int x19), (0, .ref (ad 41)), (1, .int a1)]) hx hb dX4_send_84 rfl hl (by decide) rfl (fun ls hl => ?_)
              refine lv_iconst (v := 0) hx hb dX4_send_85 (by decide) ?_
              refine lv_istore_n (lv' := [(3, .int 0), (2, .int x19), (0, .ref (ad 41)), (1, .int a1)]) hx hb dX4_send_86 rfl hl (by decide) rfl (fun ls hl => ?_)
              have lp21 : ∀ (f : Nat) (y22 : Int32) (y23 : Int32) (I24 : z_I) (H : Heap) (locs : List Loc) (ls : Array Slot), (2147483647 < y22.toInt + (f : Int)) → (0 ≤ y22.toInt) → (y22.toInt ≤ 1000) → ((-1) ≤ y23.toInt) → (y23.toInt ≤ 9) → (zy_TX I24 a1.toInt) → (y22.toInt + zy_S (zy_RX I24 a1.toInt 0) 16 ≤ 800) → ((y23.toInt = -1 ∧ zy_op (zy_RX I24 a1.toInt) (zy_CX I24)) ∨ (0 ≤ y23.toInt ∧ y23.toInt ≤ 9 ∧ zy_wy I24 a1.toInt y23.toInt.toNat)) → (z_fr L_X4_send_y I24 I) → z_W G A (shC c, ad, I24, JX, PC c ad) H → va_S A s.heap H locs → lv_has ls 4 [(3, .int y22), (2, .int y23), (0, .ref (ad 41)), (1, .int a1)] → W p l e (headSpec wsX4_send { frames := 4, cells := 0, slots := 0, locals := 90 }).room s m ([.ref (ad 41), .int a1] : List Value).toArray below meth c0 H locs 0 0 (MQ below (va_Qv (fun (u1 : z_U) => ∃ I1 : z_I, u1 = (shC c, ad, I1, JX, PC c ad) ∧ z_fr L_X4_send_y I1 I ∧ zy_TX I1 a1.toInt ∧ zy_op (zy_RX I1 a1.toInt) (zy_CX I1)) (z_B G A) A) ([.ref (ad 41), .int a1] : List Value).toArray s 0 0 A) (F0 m 87 ls []) := by
                intro f
                induction f with
                | zero => intro y22 y23 I24  H locs ls lp21m lp21l3 lp21u3 lp21l2 lp21u2 lp21T lp21U lp21E lp21fr hW hS hl; exact absurd lp21m (by have := Int32.toInt_lt y22; have := Int32.le_toInt y22; omega)
                | succ f lp21ih =>
                  intro y22 y23 I24  H locs ls lp21m lp21l3 lp21u3 lp21l2 lp21u2 lp21T lp21U lp21E lp21fr hW hS hl
                  refine lv_iload_n hx hb dX4_send_87 rfl (lv_at hl 0 rfl) ?_
                  refine lv_sipush (v := 1000) hx hb dX4_send_88 (by decide) ?_
                  refine lv_icmp_ge (tgt := 115) hx hb dX4_send_91 (by decide) (fun c25 => ?_) (fun c25 => ?_)
                  · have g26 := z_f_ge rfl z_l1000 c25
                    exact z_vret hx hb hr hK hS (Nat.le_of_ble_eq_true rfl) (Nat.le_of_ble_eq_true rfl) hlocks dX4_send_115 (shC c, ad, I24, JX, PC c ad) hW ⟨I24, rfl, lp21fr, (by have u9 := zy_TX_0 lp21T; have u8 := lp21U; rcases lp21E with q9 | q9; (· (exact ⟨lp21T, q9.2⟩)); (· (exfalso; omega)))⟩
                  · have g27 := z_f_nge rfl z_l1000 c25
                    refine lv_iload_n hx hb dX4_send_94 rfl (lv_at hl 1 rfl) ?_
                    refine lv_iconst (v := (-1)) hx hb dX4_send_95 (by decide) ?_
                    refine lv_icmp_eq (tgt := 115) hx hb dX4_send_96 (by decide) (fun c28 => ?_) (fun c28 => ?_)
                    · have g29 := z_f_eq rfl z_lm1 c28
                      exact z_vret hx hb hr hK hS (Nat.le_of_ble_eq_true rfl) (Nat.le_of_ble_eq_true rfl) hlocks dX4_send_115 (shC c, ad, I24, JX, PC c ad) hW ⟨I24, rfl, lp21fr, (by have u9 := zy_TX_0 lp21T; have u8 := lp21U; rcases lp21E with q9 | q9; (· (exact ⟨lp21T, q9.2⟩)); (· (exfalso; omega)))⟩
                    · have g30 := z_f_ne rfl z_lm1 c28
                      obtain ⟨w1, w2, F9, pi9, m9, hfd9, h159, hm99, hn99⟩ := lp21E.resolve_left (fun q => absurd q.1 (by omega))
                      refine lv_aload_n hx hb dX4_send_99 rfl (lv_at hl 2 rfl) ?_
                      refine lv_iload_n hx hb dX4_send_100 rfl (lv_at hl 1 rfl) ?_
                      refine z_cv hW hS hA (va_runV (As := [.int y23]) (rest := []) ⟨hx, hb, hml, hown, hts⟩ (sx_X4_sendTo_y l G ad c I24 a1.toInt F9 pi9 m9 y23 lp21T.1 hfd9 h159 hm99 hn99 (by omega) lp21T _) (cwV 1 hts gX4_send_X4_sendTo rfl rfl rfl (by decide +kernel) ⟨Nat.le_of_ble_eq_true rfl, Nat.le_of_ble_eq_true rfl⟩) (z_preV (i := 41) hK hW rfl rfl) rfl rfl hl.1 rfl (lv_room (Nat.le_of_ble_eq_true rfl)) dX4_send_101 ⟨Nat.le_of_ble_eq_true rfl, Nat.le_of_ble_eq_true rfl⟩) (fun u1 H locs hp hW hS => ?_)
                      obtain ⟨I31, e9, fI31, hp⟩ := hp
                      rw [e9] at hW
                      have f32 := z_fr_sub (L := L_X4_send_y) lp21fr fI31 (by decide)
                      obtain ⟨hT33, hU34⟩ := hp
                      refine lv_aload_n hx hb dX4_send_104 rfl (lv_at hl 2 rfl) ?_
                      refine z_ci hW hS hA (va_runV (As := []) (rest := []) ⟨hx, hb, hml, hown, hts⟩ (sx_X4_cheapestEnd_y l G ad c I31 a1.toInt hT33.1 _) (cwV 0 hts gX4_send_X4_cheapestEnd rfl rfl rfl (by decide +kernel) ⟨Nat.le_of_ble_eq_true rfl, Nat.le_of_ble_eq_true rfl⟩) (z_preV (i := 41) hK hW rfl rfl) rfl rfl hl.1 rfl (lv_room (Nat.le_of_ble_eq_true rfl)) dX4_send_105 ⟨Nat.le_of_ble_eq_true rfl, Nat.le_of_ble_eq_true rfl⟩) (fun r u1 H locs hp hW hS => ?_)
                      obtain ⟨I35, e9, fI35, hp⟩ := hp
                      rw [e9] at hW
                      have f36 := z_fr_sub (L := L_X4_send_y) f32 fI35 (by decide)
                      refine lv_topi (fun x37 ex37 => ?_)
                      rw [← ex37] at hp
                      have hE38 := hp
                      have hbx37 : -1 ≤ x37.toInt ∧ x37.toInt ≤ 9 := by rcases hp with h9 | h9 <;> omega
                      refine lv_istore_n (lv' := [(2, .int x37), (3, .int y22), (0, .ref (ad 41)), (1, .int a1)]) hx hb dX4_send_108 rfl hl (by decide) rfl (fun ls hl => ?_)
                      obtain ⟨x39, ex39⟩ : ∃ y : Int32, y = y22 + 1 := ⟨_, rfl⟩
                      have tx39 : x39.toInt = y22.toInt + 1 := z_tadd ex39 rfl z_l1 (by omega) (by omega)
                      refine lv_iinc (v := x39) (lv' := [(3, .int x39), (2, .int x37), (0, .ref (ad 41)), (1, .int a1)]) hx hb dX4_send_109 hl (k := 1) rfl (by rw [ex39]; rfl) (by decide) rfl (fun ls hl => ?_)
                      refine lv_goto (tgt := 87) hx hb dX4_send_112 (by decide) ?_
                      exact lp21ih x39 x37 I35  _ _ _ (by omega) (by omega) (by omega) (by omega) (by omega) (zy_TX_f hT33 fI35 (by decide) (by decide) (by decide)) (by rw [zy_RX_f fI35 (by decide)]; have q9 := hU34; have q8 := lp21U; omega) hE38 f36 hW hS (lv_sub hl [0, 1, 2, 3] rfl)
              exact lp21 4294967296 (0) x19 I17  _ _ _ (z_m0u _) (by rw [z_l0]; omega) (by rw [z_l0]; omega) (by omega) (by omega) (zy_TX_f hT15 fI17 (by decide) (by decide) (by decide)) (by rw [zy_RX_f fI17 (by decide), z_l0]; have q9 := hS16; omega) hE20 f18 hW hS (lv_sub hl [0, 1, 2, 3] rfl)
            · have g40 := z_f_nge rfl z_l10 c13
              refine lv_aload_n hx hb dX4_send_62 rfl (lv_at hl 1 rfl) ?_
              refine z_get (T := TX4) (N := 13) (ci := 4) (i := 41) (v := .ref (ad 55)) hx hb hts zj_X4_send_X4 hown hK hW rfl rfl 5 (by decide) (hts (.fieldLink RX4 29 "PetrolBoard$Loads" "lacking" "[I") (me_s (me_l (me_l (List.mem_of_getElem? (i := 5) rfl))))) (fun _ h => h) rfl dX4_send_63 ?_
              refine lv_iload_n hx hb dX4_send_66 rfl (lv_at hl 0 rfl) ?_
              refine lv_aload_n hx hb dX4_send_67 rfl (lv_at hl 1 rfl) ?_
              refine z_get (T := TX4) (N := 13) (ci := 4) (i := 41) (v := .ref (ad 43)) hx hb hts zj_X4_send_X4 hown hK hW rfl rfl 1 (by decide) (hts (.fieldLink RX4 15 "PetrolBoard$Loads" "wanted" "[I") (me_s (me_l (me_l (List.mem_of_getElem? (i := 6) rfl))))) (fun _ h => h) rfl dX4_send_68 ?_
              refine lv_iload_n hx hb dX4_send_71 rfl (lv_at hl 0 rfl) ?_
              refine z_iald (i := 43) hx hb hK hW rfl (z_ix rfl (by omega) (by omega)) dX4_send_72 ?_
              refine lv_topi (fun x41 ex41 => ?_)
              have hl42 : x41.toInt = (I 43 y11.toNatClampNeg).toInt := by rw [ex41, lp10fr 43 _ (z_wr_c (by decide))]
              refine z_iast (i := 55) hx hb hK hW hS rfl (z_ix rfl (by omega) (by omega)) dX4_send_73 (fun H locs hz1 hW hS => ?_)
              obtain ⟨I43, eI43⟩ : ∃ K : z_I, K = z_up I12 55 y11.toNatClampNeg x41 := ⟨_, rfl⟩
              rw [← eI43] at hW
              have f44 := z_fr_a lp10fr (show z_wa L_X4_send_y 55 = true by decide) eI43
              obtain ⟨x45, ex45⟩ : ∃ y : Int32, y = y11 + 1 := ⟨_, rfl⟩
              have tx45 : x45.toInt = y11.toInt + 1 := z_tadd ex45 rfl z_l1 (by omega) (by omega)
              refine lv_iinc (v := x45) (lv' := [(2, .int x45), (0, .ref (ad 41)), (1, .int a1)]) hx hb dX4_send_74 hl (k := 0) rfl (by rw [ex45]; rfl) (by decide) rfl (fun ls hl => ?_)
              refine lv_goto (tgt := 56) hx hb dX4_send_77 (by decide) ?_
              exact lp10ih x45 I43  _ _ _ (by omega) (by omega) (by omega) ⟨by rw [eI43, z_up_n (by decide)]; exact lp10Z.1, by rw [eI43, z_up_n (by decide)]; exact lp10Z.2⟩ (fun q hq => by have h9 := lp10A q hq; exact ⟨by rw [eI43, z_up_n (by decide)]; exact h9.1, fun j => by rw [eI43, z_up_n (by omega)]; exact h9.2 j⟩) (fun q hq => by rw [z_ss (x := y11) (y := x45) (by omega) (by omega)] at hq; by_cases q9 : q = y11.toNatClampNeg; (· (rw [q9, eI43, z_up_s]; exact hl42)); (· (rw [eI43, z_up_k q9]; exact lp10W q (by omega)))) f44 hW hS (lv_sub hl [0, 1, 2] rfl)
        exact lp10 4294967296 (0) I7  _ _ _ (z_m0u _) (by rw [z_l0]; omega) (by rw [z_l0]; omega) lp5Z (fun q hq => lp5A q (by have c9 := z_clt (x := y6) rfl (by omega); omega)) (fun q hq => by rw [z_n0] at hq; exact absurd hq (Nat.not_lt_zero _)) lp5fr hW hS (lv_sub hl [0, 1, 2] rfl)
      · have g46 := z_f_nge rfl z_l4 c8
        refine lv_aload_n hx hb dX4_send_17 rfl (lv_at hl 1 rfl) ?_
        refine z_get (T := TX4) (N := 13) (ci := 4) (i := 41) (v := .ref (ad 54)) hx hb hts zj_X4_send_X4 hown hK hW rfl rfl 4 (by decide) (hts (.fieldLink RX4 26 "PetrolBoard$Loads" "left" "[I") (me_s (me_l (me_l (List.mem_of_getElem? (i := 2) rfl))))) (fun _ h => h) rfl dX4_send_18 ?_
        refine lv_iload_n hx hb dX4_send_21 rfl (lv_at hl 0 rfl) ?_
        refine lv_iload_n hx hb dX4_send_22 rfl (lv_at hl 0 rfl) ?_
        refine lv_iload_n hx hb dX4_send_23 rfl (lv_at hl 2 rfl) ?_
        refine lv_icmp_ne (tgt := 31) hx hb dX4_send_24 (by decide) (fun c47 => ?_) (fun c47 => ?_)
        · have g48 := z_f_ne rfl rfl c47
          have b49 := Int32.toInt_lt a1
          refine lv_aload_n hx hb dX4_send_31 rfl (lv_at hl 1 rfl) ?_
          refine z_get (T := TX4) (N := 13) (ci := 4) (i := 41) (v := .ref (ad 42)) hx hb hts zj_X4_send_X4 hown hK hW rfl rfl 0 (by decide) (hts (.fieldLink RX4 9 "PetrolBoard$Loads" "inPort" "[I") (me_s (me_l (me_l (List.mem_of_getElem? (i := 3) rfl))))) (fun _ h => h) rfl dX4_send_32 ?_
          refine lv_iload_n hx hb dX4_send_35 rfl (lv_at hl 0 rfl) ?_
          refine z_iald (i := 42) hx hb hK hW rfl (z_ix rfl (by omega) (by omega)) dX4_send_36 ?_
          refine lv_topi (fun x50 ex50 => ?_)
          have hl51 : x50.toInt = (I 42 y6.toNatClampNeg).toInt := by rw [ex50, lp5fr 42 _ (z_wr_c (by decide))]
          refine z_iast (i := 54) hx hb hK hW hS rfl (z_ix rfl (by omega) (by omega)) dX4_send_37 (fun H locs hz1 hW hS => ?_)
          obtain ⟨I52, eI52⟩ : ∃ K : z_I, K = z_up I7 54 y6.toNatClampNeg x50 := ⟨_, rfl⟩
          rw [← eI52] at hW
          have f53 := z_fr_a lp5fr (show z_wa L_X4_send_y 54 = true by decide) eI52
          refine lv_aload_n hx hb dX4_send_38 rfl (lv_at hl 1 rfl) ?_
          refine z_get (T := TX4) (N := 13) (ci := 4) (i := 41) (v := .ref (ad 49)) hx hb hts zj_X4_send_X4 hown hK hW rfl rfl 3 (by decide) (hts (.fieldLink RX4 23 "PetrolBoard$Loads" "sent" "[[I") (me_s (me_l (me_l (List.mem_of_getElem? (i := 4) rfl))))) (fun _ h => h) rfl dX4_send_39 ?_
          refine lv_iload_n hx hb dX4_send_42 rfl (lv_at hl 0 rfl) ?_
          obtain ⟨k54, ek54, hk54⟩ : ∃ k : Nat, y6.toNatClampNeg = k ∧ k < 4 := ⟨_, rfl, z_clN rfl (by omega) (by omega)⟩
          refine z_aald (i := 49) (v := .ref (ad (50 + k54))) hx hb hK hW rfl (by simp [z_tys]) rfl (z_ix rfl (by omega) (by omega)) (z_p49 ek54 hk54) dX4_send_43 ?_
          refine lv_iconst (v := 0) hx hb dX4_send_44 (by decide) ?_
          refine z_cc hW hS hA (va_runS (As := [.ref (ad (50 + k54)), .int 0]) (rest := []) ⟨hx, hb, hml, hown, hts⟩ (ct_fill l G (50 + k54) 10 0 (z_s50 hk54) (by decide) _) (va_cwS 2 hts gX4_send_J7_fill_53178 rfl rfl rfl (by decide +kernel) ⟨Nat.le_of_ble_eq_true rfl, Nat.le_of_ble_eq_true rfl⟩) (z_preS hK hW) rfl rfl hl.1 rfl (lv_room (Nat.le_of_ble_eq_true rfl)) dX4_send_45 ⟨Nat.le_of_ble_eq_true rfl, Nat.le_of_ble_eq_true rfl⟩) (fun H locs hz1 hW hS => ?_)
          obtain ⟨I55, eI55⟩ : ∃ K : z_I, K = z_fi I52 (50 + k54) 0 := ⟨_, rfl⟩
          rw [← eI55] at hW
          have f56 := z_fr_f f53 (z_wa50 (L := L_X4_send_y) (by decide) hk54) eI55
          obtain ⟨x57, ex57⟩ : ∃ y : Int32, y = y6 + 1 := ⟨_, rfl⟩
          have tx57 : x57.toInt = y6.toInt + 1 := z_tadd ex57 rfl z_l1 (by omega) (by omega)
          refine lv_iinc (v := x57) (lv' := [(2, .int x57), (0, .ref (ad 41)), (1, .int a1)]) hx hb dX4_send_48 hl (k := 0) rfl (by rw [ex57]; rfl) (by decide) rfl (fun ls hl => ?_)
          refine lv_goto (tgt := 12) hx hb dX4_send_51 (by decide) ?_
          exact lp5ih x57 I55  _ _ _ (by omega) (by omega) (by omega) ⟨by rw [eI55, z_fi_n (by omega), eI52, z_up_n (by decide)]; exact lp5Z.1, by rw [eI55, z_fi_n (by omega), eI52, z_up_n (by decide)]; exact lp5Z.2⟩ (fun q hq => by have c9 := z_clt (x := y6) rfl (by omega); rw [z_ss (x := y6) (y := x57) (by omega) (by omega)] at hq; by_cases q9 : q = y6.toNatClampNeg; (· (subst q9; exact ⟨by rw [eI55, z_fi_n (by omega), eI52, z_up_s]; rw [show zy_cX I a1.toInt y6.toNatClampNeg = (I 42 y6.toNatClampNeg).toInt from if_neg (show ¬ ((y6.toNatClampNeg : Nat) : Int) = a1.toInt by omega)]; omega, fun j => by rw [eI55, ek54]; show (if _ = _ then _ else _ : Int32).toInt = _; rw [if_pos rfl]; decide⟩)); (· (have h9 := lp5A q (by omega); exact ⟨by rw [eI55, z_fi_n (by omega), eI52, z_up_k q9]; exact h9.1, fun j => by rw [eI55, z_fi_n (by omega), eI52, z_up_n (by omega)]; exact h9.2 j⟩))) f56 hW hS (lv_sub hl [0, 1, 2] rfl)
        · have g58 := z_f_eq rfl rfl c47
          have b59 := Int32.toInt_lt a1
          refine lv_iconst (v := 0) hx hb dX4_send_27 (by decide) ?_
          refine lv_goto (tgt := 37) hx hb dX4_send_28 (by decide) ?_
          refine z_iast (i := 54) hx hb hK hW hS rfl (z_ix rfl (by omega) (by omega)) dX4_send_37 (fun H locs hz1 hW hS => ?_)
          obtain ⟨I60, eI60⟩ : ∃ K : z_I, K = z_up I7 54 y6.toNatClampNeg 0 := ⟨_, rfl⟩
          rw [← eI60] at hW
          have f61 := z_fr_a lp5fr (show z_wa L_X4_send_y 54 = true by decide) eI60
          refine lv_aload_n hx hb dX4_send_38 rfl (lv_at hl 1 rfl) ?_
          refine z_get (T := TX4) (N := 13) (ci := 4) (i := 41) (v := .ref (ad 49)) hx hb hts zj_X4_send_X4 hown hK hW rfl rfl 3 (by decide) (hts (.fieldLink RX4 23 "PetrolBoard$Loads" "sent" "[[I") (me_s (me_l (me_l (List.mem_of_getElem? (i := 4) rfl))))) (fun _ h => h) rfl dX4_send_39 ?_
          refine lv_iload_n hx hb dX4_send_42 rfl (lv_at hl 0 rfl) ?_
          obtain ⟨k62, ek62, hk62⟩ : ∃ k : Nat, y6.toNatClampNeg = k ∧ k < 4 := ⟨_, rfl, z_clN rfl (by omega) (by omega)⟩
          refine z_aald (i := 49) (v := .ref (ad (50 + k62))) hx hb hK hW rfl (by simp [z_tys]) rfl (z_ix rfl (by omega) (by omega)) (z_p49 ek62 hk62) dX4_send_43 ?_
          refine lv_iconst (v := 0) hx hb dX4_send_44 (by decide) ?_
          refine z_cc hW hS hA (va_runS (As := [.ref (ad (50 + k62)), .int 0]) (rest := []) ⟨hx, hb, hml, hown, hts⟩ (ct_fill l G (50 + k62) 10 0 (z_s50 hk62) (by decide) _) (va_cwS 2 hts gX4_send_J7_fill_53178 rfl rfl rfl (by decide +kernel) ⟨Nat.le_of_ble_eq_true rfl, Nat.le_of_ble_eq_true rfl⟩) (z_preS hK hW) rfl rfl hl.1 rfl (lv_room (Nat.le_of_ble_eq_true rfl)) dX4_send_45 ⟨Nat.le_of_ble_eq_true rfl, Nat.le_of_ble_eq_true rfl⟩) (fun H locs hz1 hW hS => ?_)
          obtain ⟨I63, eI63⟩ : ∃ K : z_I, K = z_fi I60 (50 + k62) 0 := ⟨_, rfl⟩
          rw [← eI63] at hW
          have f64 := z_fr_f f61 (z_wa50 (L := L_X4_send_y) (by decide) hk62) eI63
          obtain ⟨x65, ex65⟩ : ∃ y : Int32, y = y6 + 1 := ⟨_, rfl⟩
          have tx65 : x65.toInt = y6.toInt + 1 := z_tadd ex65 rfl z_l1 (by omega) (by omega)
          refine lv_iinc (v := x65) (lv' := [(2, .int x65), (0, .ref (ad 41)), (1, .int a1)]) hx hb dX4_send_48 hl (k := 0) rfl (by rw [ex65]; rfl) (by decide) rfl (fun ls hl => ?_)
          refine lv_goto (tgt := 12) hx hb dX4_send_51 (by decide) ?_
          exact lp5ih x65 I63  _ _ _ (by omega) (by omega) (by omega) ⟨by rw [eI63, z_fi_n (by omega), eI60, z_up_n (by decide)]; exact lp5Z.1, by rw [eI63, z_fi_n (by omega), eI60, z_up_n (by decide)]; exact lp5Z.2⟩ (fun q hq => by have c9 := z_clt (x := y6) rfl (by omega); rw [z_ss (x := y6) (y := x65) (by omega) (by omega)] at hq; by_cases q9 : q = y6.toNatClampNeg; (· (subst q9; exact ⟨by rw [eI63, z_fi_n (by omega), eI60, z_up_s]; rw [z_l0]; exact (if_pos (show ((y6.toNatClampNeg : Nat) : Int) = a1.toInt by omega)).symm, fun j => by rw [eI63, ek62]; show (if _ = _ then _ else _ : Int32).toInt = _; rw [if_pos rfl]; decide⟩)); (· (have h9 := lp5A q (by omega); exact ⟨by rw [eI63, z_fi_n (by omega), eI60, z_up_k q9]; exact h9.1, fun j => by rw [eI63, z_fi_n (by omega), eI60, z_up_n (by omega)]; exact h9.2 j⟩))) f64 hW hS (lv_sub hl [0, 1, 2] rfl)
  exact lp5 4294967296 (0) I3  _ _ _ (z_m0u _) (by rw [z_l0]; omega) (by rw [z_l0]; omega) ⟨by rw [eI3, z_up_k (by decide), eI1, z_up_s], by rw [eI3, z_up_s]⟩ (fun q hq => by rw [z_n0] at hq; exact absurd hq (Nat.not_lt_zero _)) f4 hW hS (lv_sub hl [0, 1, 2] rfl)
noncomputable def L_X11_flow_y : z_L := [(55, 999), (50, 999), (51, 999), (52, 999), (53, 999), (54, 999), (41, 12), (41, 11), (56, 999), (57, 999), (58, 999), (59, 999)]
set_option maxHeartbeats 8000000 in
set_option maxRecDepth 100000 in
theorem sx_X11_flow_y (l : Launch) (G : z_G) (ad : Nat → Nat) (c : z_C) (I : z_I) (hL : z_iL I) (a1 : Int32) (a2 : Int32) (hgX : zy_gX I) : z_M l yX11_flow wsX11_flow { frames := 5, cells := 0, slots := 0, locals := 113 } [.ref (ad 0), .int a1, .int a2] G (shC c, ad, I, JX, PC c ad) (fun r u1 => ∃ I1 : z_I, u1 = (shC c, ad, I1, JX, PC c ad) ∧ z_iL I1 ∧ z_fr L_X11_flow_y I1 I ∧ ((((a1.toInt = -1 ∨ 0 ≤ a1.toInt ∧ a1.toInt < (I 41 10).toInt) ∧ 0 ≤ a2.toInt ∧ a2.toInt ≤ 1) ∧ ∃ (R : Nat → Nat → Int) (x y : Int32), zy_FL (zy_0X I a1.toInt) R (zy_CX I) x y ∧ zy_op R (zy_CX I) ∧ (a2.toInt = 0 → r = x) ∧ (a2.toInt = 1 → r = y)) ∨ (¬ ((a1.toInt = -1 ∨ 0 ≤ a1.toInt ∧ a1.toInt < (I 41 10).toInt) ∧ 0 ≤ a2.toInt ∧ a2.toInt ≤ 1) ∧ r.toInt = -1))) 0 0 := by
  intro sz
  refine z_headQ (cc := cX11_flow) (maxL := 3) (ret := (some .int)) (by decide) rfl (Nat.le_of_ble_eq_true rfl) ?_
  intro p e s m below meth c0 ls hIn hK hsz hW hl
  obtain ⟨hx, hb, hr, hml, hown, hts, hlocks, hname⟩ := hIn
  subst hsz
  have hown : s.vm.findClass RX11 = some m.cls := hown
  have hA : ∀ q : Nat, s.heap.size ≤ q → z_A (shC c, ad, I, JX, PC c ad) s.heap.size q := fun q h => Or.inr h
  generalize hAe : z_A (shC c, ad, I, JX, PC c ad) s.heap.size = A at *
  have hS : va_S A s.heap s.heap [] := va_S.rf
  have hl : lv_has ls 3 [(0, .ref (ad 0)), (1, .int a1), (2, .int a2)] := hl
  refine lv_iload_n hx hb dX11_flow_0 rfl (lv_at hl 2 rfl) ?_
  refine lv_iconst (v := 0) hx hb dX11_flow_1 (by decide) ?_
  refine lv_iconst (v := 1) hx hb dX11_flow_2 (by decide) ?_
  refine z_ci hW hS hA (va_runS (As := [.int a2, .int 0, .int 1]) (rest := []) ⟨hx, hb, hml, hown, hts⟩ (sx_X11_within_e l G ad c I  a2 0 1 _) (va_cwS 3 hts gX11_flow_X11_within rfl rfl rfl (by decide +kernel) ⟨Nat.le_of_ble_eq_true rfl, Nat.le_of_ble_eq_true rfl⟩) (z_preS hK hW) rfl rfl hl.1 rfl (lv_room (Nat.le_of_ble_eq_true rfl)) dX11_flow_3 ⟨Nat.le_of_ble_eq_true rfl, Nat.le_of_ble_eq_true rfl⟩) (fun r u1 H locs hp hW hS => ?_)
  obtain ⟨e9, hp⟩ := hp
  rw [e9] at hW
  rcases hp with ⟨rfl, h1⟩ | ⟨rfl, h1⟩
  · have h2 := h1
    have z3 := z_l0
    have z4 := z_l1
    refine lv_if_eq (tgt := 25) hx hb dX11_flow_6 (by decide) (fun c5 => absurd c5 (by decide)) (fun c5 => ?_)
    refine lv_iload_n hx hb dX11_flow_9 rfl (lv_at hl 1 rfl) ?_
    refine lv_iconst (v := (-1)) hx hb dX11_flow_10 (by decide) ?_
    refine lv_icmp_eq (tgt := 27) hx hb dX11_flow_11 (by decide) (fun c6 => ?_) (fun c6 => ?_)
    · have g7 := z_f_eq rfl z_lm1 c6
      have b8 := Int32.toInt_lt a1
      refine lv_aload_n hx hb dX11_flow_27 rfl (lv_at hl 0 rfl) ?_
      refine z_get (T := TX11) (N := 13) (ci := 11) (i := 0) (v := .ref (ad 41)) hx hb hts zj_X11_flow_X11 hown hK hW rfl rfl 10 (by decide) (hts (.fieldLink RX11 61 "PetrolBoard" "loads" "LPetrolBoard$Loads;") (me_s (me_l (me_l (me_l (List.mem_of_getElem? (i := 0) rfl)))))) (fun _ h => h) rfl dX11_flow_28 ?_
      refine lv_iload_n hx hb dX11_flow_31 rfl (lv_at hl 1 rfl) ?_
      refine z_cv hW hS hA (va_runV (As := [.int a1]) (rest := []) ⟨hx, hb, hml, hown, hts⟩ (sx_X4_send_y l G ad c I a1 hgX _) (cwV 1 hts gX11_flow_X4_send rfl rfl rfl (by decide +kernel) ⟨Nat.le_of_ble_eq_true rfl, Nat.le_of_ble_eq_true rfl⟩) (z_preV (i := 41) hK hW rfl rfl) rfl rfl hl.1 rfl (lv_room (Nat.le_of_ble_eq_true rfl)) dX11_flow_32 ⟨Nat.le_of_ble_eq_true rfl, Nat.le_of_ble_eq_true rfl⟩) (fun u1 H locs hp hW hS => ?_)
      obtain ⟨I9, e9, fI9, hp⟩ := hp
      rw [e9] at hW
      have f10 := z_fr_sub (L := L_X11_flow_y) z_fr_0 fI9 (by decide)
      have k11 : 0 ≤ (I9 41 10).toInt ∧ (I9 41 10).toInt ≤ 4 := by rw [fI9 41 10 (by decide)]; exact (by show 0 ≤ (I 41 10).toInt ∧ (I 41 10).toInt ≤ 4; exact hL)
      have hS12 := hp
      refine lv_iload_n hx hb dX11_flow_35 rfl (lv_at hl 2 rfl) ?_
      refine lv_if_ne (tgt := 49) hx hb dX11_flow_36 (by decide) (fun c13 => ?_) (fun c13 => ?_)
      · have g14 := z_f_ne rfl z_l0 c13
        refine lv_aload_n hx hb dX11_flow_49 rfl (lv_at hl 0 rfl) ?_
        refine z_get (T := TX11) (N := 13) (ci := 11) (i := 0) (v := .ref (ad 41)) hx hb hts zj_X11_flow_X11 hown hK hW rfl rfl 10 (by decide) (hts (.fieldLink RX11 61 "PetrolBoard" "loads" "LPetrolBoard$Loads;") (me_s (me_l (me_l (me_l (List.mem_of_getElem? (i := 0) rfl)))))) (fun _ h => h) rfl dX11_flow_50 ?_
        refine z_get (T := TX4) (N := 13) (ci := 4) (i := 41) (v := .int (I9 41 12)) hx hb hts zj_X11_flow_X4 hown hK hW rfl rfl 12 (by decide) (hts (.fieldLink RX11 316 "PetrolBoard$Loads" "sentMiles" "I") (me_s (me_l (me_l (me_l (List.mem_of_getElem? (i := 2) rfl)))))) (fun _ h => h) rfl dX11_flow_53 ?_
        exact z_iret hx hb hr hK hS (Nat.le_of_ble_eq_true rfl) (Nat.le_of_ble_eq_true rfl) hlocks dX11_flow_56 (shC c, ad, I9, JX, PC c ad) hW ⟨I9, rfl, (by show 0 ≤ (I9 41 10).toInt ∧ (I9 41 10).toInt ≤ 4; exact k11), f10, (Or.inl ⟨by omega, zy_RX I9 a1.toInt, I9 41 11, I9 41 12, by rw [← zy_0X_f (sh := a1.toInt) fI9 (by decide), ← zy_CX_f fI9 (by decide)]; exact hS12.1.2, by rw [← zy_CX_f fI9 (by decide)]; exact hS12.2, fun z => by exfalso; omega, fun _ => rfl⟩)⟩
      · have g15 := z_f_eq rfl z_l0 c13
        refine lv_aload_n hx hb dX11_flow_39 rfl (lv_at hl 0 rfl) ?_
        refine z_get (T := TX11) (N := 13) (ci := 11) (i := 0) (v := .ref (ad 41)) hx hb hts zj_X11_flow_X11 hown hK hW rfl rfl 10 (by decide) (hts (.fieldLink RX11 61 "PetrolBoard" "loads" "LPetrolBoard$Loads;") (me_s (me_l (me_l (me_l (List.mem_of_getElem? (i := 0) rfl)))))) (fun _ h => h) rfl dX11_flow_40 ?_
        refine z_get (T := TX4) (N := 13) (ci := 4) (i := 41) (v := .int (I9 41 11)) hx hb hts zj_X11_flow_X4 hown hK hW rfl rfl 11 (by decide) (hts (.fieldLink RX11 313 "PetrolBoard$Loads" "sentLoads" "I") (me_s (me_l (me_l (me_l (List.mem_of_getElem? (i := 1) rfl)))))) (fun _ h => h) rfl dX11_flow_43 ?_
        refine lv_goto (tgt := 56) hx hb dX11_flow_46 (by decide) ?_
        exact z_iret hx hb hr hK hS (Nat.le_of_ble_eq_true rfl) (Nat.le_of_ble_eq_true rfl) hlocks dX11_flow_56 (shC c, ad, I9, JX, PC c ad) hW ⟨I9, rfl, (by show 0 ≤ (I9 41 10).toInt ∧ (I9 41 10).toInt ≤ 4; exact k11), f10, (Or.inl ⟨by omega, zy_RX I9 a1.toInt, I9 41 11, I9 41 12, by rw [← zy_0X_f (sh := a1.toInt) fI9 (by decide), ← zy_CX_f fI9 (by decide)]; exact hS12.1.2, by rw [← zy_CX_f fI9 (by decide)]; exact hS12.2, fun _ => rfl, fun z => by exfalso; omega⟩)⟩
    · have g16 := z_f_ne rfl z_lm1 c6
      have b17 := Int32.toInt_lt a1
      refine lv_aload_n hx hb dX11_flow_14 rfl (lv_at hl 0 rfl) ?_
      refine z_get (T := TX11) (N := 13) (ci := 11) (i := 0) (v := .ref (ad 41)) hx hb hts zj_X11_flow_X11 hown hK hW rfl rfl 10 (by decide) (hts (.fieldLink RX11 61 "PetrolBoard" "loads" "LPetrolBoard$Loads;") (me_s (me_l (me_l (me_l (List.mem_of_getElem? (i := 0) rfl)))))) (fun _ h => h) rfl dX11_flow_15 ?_
      refine lv_iload_n hx hb dX11_flow_18 rfl (lv_at hl 1 rfl) ?_
      refine z_ci hW hS hA (va_runV (As := [.int a1]) (rest := []) ⟨hx, hb, hml, hown, hts⟩ (sx_X4_hasPort_e l G ad c I (by show 0 ≤ (I 41 10).toInt ∧ (I 41 10).toInt ≤ 4; exact hL) a1 _) (cwV 1 hts gX11_flow_X4_hasPort rfl rfl rfl (by decide +kernel) ⟨Nat.le_of_ble_eq_true rfl, Nat.le_of_ble_eq_true rfl⟩) (z_preV (i := 41) hK hW rfl rfl) rfl rfl hl.1 rfl (lv_room (Nat.le_of_ble_eq_true rfl)) dX11_flow_19 ⟨Nat.le_of_ble_eq_true rfl, Nat.le_of_ble_eq_true rfl⟩) (fun r u1 H locs hp hW hS => ?_)
      obtain ⟨e9, hp⟩ := hp
      rw [e9] at hW
      rcases hp with ⟨rfl, h18⟩ | ⟨rfl, h18⟩
      · have h19 := h18
        have r20 : 0 ≤ (I 41 10).toInt ∧ (I 41 10).toInt ≤ 4 := hL
        refine lv_if_ne (tgt := 27) hx hb dX11_flow_22 (by decide) (fun c21 => ?_) (fun c21 => absurd c21 (by decide))
        refine lv_aload_n hx hb dX11_flow_27 rfl (lv_at hl 0 rfl) ?_
        refine z_get (T := TX11) (N := 13) (ci := 11) (i := 0) (v := .ref (ad 41)) hx hb hts zj_X11_flow_X11 hown hK hW rfl rfl 10 (by decide) (hts (.fieldLink RX11 61 "PetrolBoard" "loads" "LPetrolBoard$Loads;") (me_s (me_l (me_l (me_l (List.mem_of_getElem? (i := 0) rfl)))))) (fun _ h => h) rfl dX11_flow_28 ?_
        refine lv_iload_n hx hb dX11_flow_31 rfl (lv_at hl 1 rfl) ?_
        refine z_cv hW hS hA (va_runV (As := [.int a1]) (rest := []) ⟨hx, hb, hml, hown, hts⟩ (sx_X4_send_y l G ad c I a1 hgX _) (cwV 1 hts gX11_flow_X4_send rfl rfl rfl (by decide +kernel) ⟨Nat.le_of_ble_eq_true rfl, Nat.le_of_ble_eq_true rfl⟩) (z_preV (i := 41) hK hW rfl rfl) rfl rfl hl.1 rfl (lv_room (Nat.le_of_ble_eq_true rfl)) dX11_flow_32 ⟨Nat.le_of_ble_eq_true rfl, Nat.le_of_ble_eq_true rfl⟩) (fun u1 H locs hp hW hS => ?_)
        obtain ⟨I22, e9, fI22, hp⟩ := hp
        rw [e9] at hW
        have f23 := z_fr_sub (L := L_X11_flow_y) z_fr_0 fI22 (by decide)
        have k24 : 0 ≤ (I22 41 10).toInt ∧ (I22 41 10).toInt ≤ 4 := by rw [fI22 41 10 (by decide)]; exact (by show 0 ≤ (I 41 10).toInt ∧ (I 41 10).toInt ≤ 4; exact hL)
        have hS25 := hp
        refine lv_iload_n hx hb dX11_flow_35 rfl (lv_at hl 2 rfl) ?_
        refine lv_if_ne (tgt := 49) hx hb dX11_flow_36 (by decide) (fun c26 => ?_) (fun c26 => ?_)
        · have g27 := z_f_ne rfl z_l0 c26
          refine lv_aload_n hx hb dX11_flow_49 rfl (lv_at hl 0 rfl) ?_
          refine z_get (T := TX11) (N := 13) (ci := 11) (i := 0) (v := .ref (ad 41)) hx hb hts zj_X11_flow_X11 hown hK hW rfl rfl 10 (by decide) (hts (.fieldLink RX11 61 "PetrolBoard" "loads" "LPetrolBoard$Loads;") (me_s (me_l (me_l (me_l (List.mem_of_getElem? (i := 0) rfl)))))) (fun _ h => h) rfl dX11_flow_50 ?_
          refine z_get (T := TX4) (N := 13) (ci := 4) (i := 41) (v := .int (I22 41 12)) hx hb hts zj_X11_flow_X4 hown hK hW rfl rfl 12 (by decide) (hts (.fieldLink RX11 316 "PetrolBoard$Loads" "sentMiles" "I") (me_s (me_l (me_l (me_l (List.mem_of_getElem? (i := 2) rfl)))))) (fun _ h => h) rfl dX11_flow_53 ?_
          exact z_iret hx hb hr hK hS (Nat.le_of_ble_eq_true rfl) (Nat.le_of_ble_eq_true rfl) hlocks dX11_flow_56 (shC c, ad, I22, JX, PC c ad) hW ⟨I22, rfl, (by show 0 ≤ (I22 41 10).toInt ∧ (I22 41 10).toInt ≤ 4; exact k24), f23, (Or.inl ⟨by omega, zy_RX I22 a1.toInt, I22 41 11, I22 41 12, by rw [← zy_0X_f (sh := a1.toInt) fI22 (by decide), ← zy_CX_f fI22 (by decide)]; exact hS25.1.2, by rw [← zy_CX_f fI22 (by decide)]; exact hS25.2, fun z => by exfalso; omega, fun _ => rfl⟩)⟩
        · have g28 := z_f_eq rfl z_l0 c26
          refine lv_aload_n hx hb dX11_flow_39 rfl (lv_at hl 0 rfl) ?_
          refine z_get (T := TX11) (N := 13) (ci := 11) (i := 0) (v := .ref (ad 41)) hx hb hts zj_X11_flow_X11 hown hK hW rfl rfl 10 (by decide) (hts (.fieldLink RX11 61 "PetrolBoard" "loads" "LPetrolBoard$Loads;") (me_s (me_l (me_l (me_l (List.mem_of_getElem? (i := 0) rfl)))))) (fun _ h => h) rfl dX11_flow_40 ?_
          refine z_get (T := TX4) (N := 13) (ci := 4) (i := 41) (v := .int (I22 41 11)) hx hb hts zj_X11_flow_X4 hown hK hW rfl rfl 11 (by decide) (hts (.fieldLink RX11 313 "PetrolBoard$Loads" "sentLoads" "I") (me_s (me_l (me_l (me_l (List.mem_of_getElem? (i := 1) rfl)))))) (fun _ h => h) rfl dX11_flow_43 ?_
          refine lv_goto (tgt := 56) hx hb dX11_flow_46 (by decide) ?_
          exact z_iret hx hb hr hK hS (Nat.le_of_ble_eq_true rfl) (Nat.le_of_ble_eq_true rfl) hlocks dX11_flow_56 (shC c, ad, I22, JX, PC c ad) hW ⟨I22, rfl, (by show 0 ≤ (I22 41 10).toInt ∧ (I22 41 10).toInt ≤ 4; exact k24), f23, (Or.inl ⟨by omega, zy_RX I22 a1.toInt, I22 41 11, I22 41 12, by rw [← zy_0X_f (sh := a1.toInt) fI22 (by decide), ← zy_CX_f fI22 (by decide)]; exact hS25.1.2, by rw [← zy_CX_f fI22 (by decide)]; exact hS25.2, fun _ => rfl, fun z => by exfalso; omega⟩)⟩
      · have h29 := h18
        have r30 : 0 ≤ (I 41 10).toInt ∧ (I 41 10).toInt ≤ 4 := hL
        refine lv_if_ne (tgt := 27) hx hb dX11_flow_22 (by decide) (fun c31 => absurd (by decide) c31) (fun c31 => ?_)
        refine lv_iconst (v := (-1)) hx hb dX11_flow_25 (by decide) ?_
        exact z_iret hx hb hr hK hS (Nat.le_of_ble_eq_true rfl) (Nat.le_of_ble_eq_true rfl) hlocks dX11_flow_26 (shC c, ad, I, JX, PC c ad) hW ⟨I, rfl, (by show 0 ≤ (I 41 10).toInt ∧ (I 41 10).toInt ≤ 4; exact hL), z_fr_0, (Or.inr ⟨by omega, by decide⟩)⟩
  · have h32 := h1
    have z33 := z_l0
    have z34 := z_l1
    refine lv_if_eq (tgt := 25) hx hb dX11_flow_6 (by decide) (fun c35 => ?_) (fun c35 => absurd (by decide) c35)
    refine lv_iconst (v := (-1)) hx hb dX11_flow_25 (by decide) ?_
    exact z_iret hx hb hr hK hS (Nat.le_of_ble_eq_true rfl) (Nat.le_of_ble_eq_true rfl) hlocks dX11_flow_26 (shC c, ad, I, JX, PC c ad) hW ⟨I, rfl, (by show 0 ≤ (I 41 10).toInt ∧ (I 41 10).toInt ≤ 4; exact hL), z_fr_0, (Or.inr ⟨by omega, by decide⟩)⟩
