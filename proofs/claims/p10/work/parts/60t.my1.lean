

/-! the reference's parser: its memory is a state of the machine -/
noncomputable def zm_T (gt gv : Nat → Int) (gp ge : Nat → Nat) (gh : Nat → Int) (I : z_I) (J : z_J) (k : Nat) : Prop := (I 0 35).toInt = (gp k : Int) ∧ (I 0 34).toInt = (ge k : Int) ∧ zp_TR gh (gp k) (ge k) (gt k) (gv k) (I 0 36).toInt (J 0 41).toInt (I 0 37).toInt (I 0 38).toInt ∧ zm_h I = gh ∧ (I 0 32).toInt = -1
noncomputable def zm_S (I : z_I) : List zp_F → Prop
  | [] => True
  | (w, a, x, s) :: S => (I 26 S.length).toInt = w ∧ (I 27 S.length).toInt = a ∧ (I 28 S.length).toInt = x ∧ (I 29 S.length).toInt = s ∧ zm_S I S
noncomputable def zm_Q (I : z_I) : Nat → List zp_N → Prop
  | _, [] => True
  | i, (kd, a, b) :: N => (I 21 i).toInt = kd ∧ (I 22 i).toInt = a ∧ (I 23 i).toInt = b ∧ zm_Q I (i + 1) N
noncomputable def zm_O (gI I : z_I) (n0 : Nat) : Prop := ∀ j, j < n0 → I 21 j = gI 21 j ∧ I 22 j = gI 22 j ∧ I 23 j = gI 23 j
theorem zm_O_c {gI I K : z_I} {n0 : Nat} (h : zm_O gI I n0) (hc : ∀ j, j < n0 → K 21 j = I 21 j ∧ K 22 j = I 22 j ∧ K 23 j = I 23 j) : zm_O gI K n0 := fun j hj => ⟨(hc j hj).1.trans (h j hj).1, (hc j hj).2.1.trans (h j hj).2.1, (hc j hj).2.2.trans (h j hj).2.2⟩
noncomputable def zm_E (gt gv : Nat → Int) (gp ge : Nat → Nat) (gh : Nat → Int) (gm n0 : Nat) (gI I : z_I) (J : z_J) : zp_S → Prop
  | .inl f => (I 0 42).toInt = 1 ∧ (I 0 32).toInt = (gp f : Int) ∧ f ≤ gm ∧ zm_O gI I n0
  | .inr (k, S, o, g, N) => (I 0 42).toInt = 0 ∧ k ≤ gm ∧ zm_T gt gv gp ge gh I J k ∧ (I 0 47).toInt = (S.length : Int) ∧ zm_S I S ∧ (I 0 39).toInt = o ∧ (I 0 40).toInt = g ∧ (I 0 15).toInt = (n0 : Int) + (N.length : Int) ∧ zm_Q I n0 N ∧ zm_O gI I n0
theorem zm_T_n {gt gv : Nat → Int} {gp ge : Nat → Nat} {gh : Nat → Int} {gm : Nat} {I I1 : z_I} {J J1 : z_J} {k : Nat} (hM : zp_SM gh gt gv gp ge gm) (h : zm_T gt gv gp ge gh I J k) (hk : k < gm) (hN : zm_N I I1 J1) (hh : zm_h I1 = zm_h I) (hfa : I1 0 32 = I 0 32) : zm_T gt gv gp ge gh I1 J1 (k + 1) := by
  obtain ⟨a1, a2, a3, a4, a5⟩ := h
  obtain ⟨f, e, t, v, b1, b2, b3, b4, b5⟩ := hN
  have q : (I 0 34).toNatClampNeg = ge k := by
    have := z_clt a2 (by omega)
    omega
  rw [a4, q] at b3
  rw [a4] at b4 b5
  have c1 := zp_sk_u b3 (hM.2.2.1 k hk).2
  subst c1
  obtain ⟨d1, d2, d3⟩ := zp_tk_u b4 (hM.2.1 (k + 1) hk)
  subst d1
  refine ⟨b1, b2, ?_, hh.trans a4, by rw [hfa]; exact a5⟩
  rw [← d2]
  rcases b5 with ⟨c1, c2⟩ | c1 | ⟨c1, c2, c3⟩ | c1 | c1
  · exact Or.inl ⟨c1, c2⟩
  · exact Or.inr (Or.inl c1)
  · exact Or.inr (Or.inr (Or.inl ⟨c1, c2, c3.trans (d3 c2)⟩))
  · exact Or.inr (Or.inr (Or.inr (Or.inl c1)))
  · exact Or.inr (Or.inr (Or.inr (Or.inr c1)))
theorem zm_S_c {I K : z_I} : ∀ (S : List zp_F), (∀ i, i < S.length → z_eq4 K I i) → zm_S I S → zm_S K S
  | [], _, _ => trivial
  | (w, a, x, s) :: S, hc, h => by
    rw [List.length_cons] at hc
    obtain ⟨c1, c2, c3, c4⟩ := hc S.length (by omega)
    exact ⟨by rw [c1]; exact h.1, by rw [c2]; exact h.2.1, by rw [c3]; exact h.2.2.1, by rw [c4]; exact h.2.2.2.1, zm_S_c S (fun i hi => hc i (by omega)) h.2.2.2.2⟩
theorem zm_Q_c {I K : z_I} : ∀ (N : List zp_N) (i : Nat), (∀ j, i ≤ j → j < i + N.length → K 21 j = I 21 j ∧ K 22 j = I 22 j ∧ K 23 j = I 23 j) → zm_Q I i N → zm_Q K i N
  | [], _, _, _ => trivial
  | (kd, a, b) :: N, i, hc, h => by
    rw [List.length_cons] at hc
    obtain ⟨c1, c2, c3⟩ := hc i (by omega) (by omega)
    exact ⟨by rw [c1]; exact h.1, by rw [c2]; exact h.2.1, by rw [c3]; exact h.2.2.1, zm_Q_c N (i + 1) (fun j p q => hc j (by omega) (by omega)) h.2.2.2⟩
theorem zm_Q_ap {I : z_I} : ∀ (N M : List zp_N) (i : Nat), zm_Q I i (N ++ M) ↔ zm_Q I i N ∧ zm_Q I (i + N.length) M
  | [], M, i => by simp [zm_Q]
  | (kd, a, b) :: N, M, i => by
    have e : i + ((kd, a, b) :: N).length = i + 1 + N.length := by
      rw [List.length_cons]
      omega
    rw [e]
    show ((I 21 i).toInt = kd ∧ (I 22 i).toInt = a ∧ (I 23 i).toInt = b ∧ zm_Q I (i + 1) (N ++ M)) ↔ ((I 21 i).toInt = kd ∧ (I 22 i).toInt = a ∧ (I 23 i).toInt = b ∧ zm_Q I (i + 1) N) ∧ _
    rw [zm_Q_ap N M (i + 1)]
    constructor
    · rintro ⟨a1, a2, a3, a4, a5⟩
      exact ⟨⟨a1, a2, a3, a4⟩, a5⟩
    · rintro ⟨⟨a1, a2, a3, a4⟩, a5⟩
      exact ⟨a1, a2, a3, a4, a5⟩
theorem zm_cmp {z : Int32} {x y : Int64} (e : z = lg_cmp x y) : z.toInt = 0 ↔ x.toInt = y.toInt := by
  rw [e]
  unfold lg_cmp
  by_cases h1 : x > y
  · rw [if_pos h1]
    have h2 : y.toInt < x.toInt := Int64.lt_iff_toInt_lt.mp h1
    constructor
    · intro q
      exact absurd q (by decide)
    · intro q
      omega
  · rw [if_neg h1]
    by_cases h2 : x = y
    · rw [if_pos h2, h2]
      exact ⟨fun _ => rfl, fun _ => by decide⟩
    · rw [if_neg h2]
      constructor
      · intro q
        exact absurd q (by decide)
      · intro q
        exact absurd (Int64.toInt_inj.mp q) h2
section ZME
variable {{gt gv : Nat → Int}} {{gp ge : Nat → Nat}} {{gh : Nat → Int}} {{gm n0 : Nat}} {gI I I1 K : z_I} {J J1 : z_J} {k f : Nat} {S : List zp_F} {w a x s o g : Int} {N : List zp_N}
/-- only the places of a write set are changed: what the state says of the others -/
theorem zm_T_c (h : zm_T gt gv gp ge gh I J k) (h1 : ∀ q, q = 35 ∨ q = 34 ∨ q = 36 ∨ q = 37 ∨ q = 38 ∨ q = 33 ∨ q = 32 → K 0 q = I 0 q) (h2 : ∀ j, K 25 j = I 25 j) (hJ : J1 0 41 = J 0 41) : zm_T gt gv gp ge gh K J1 k := by
  obtain ⟨a1, a2, a3, a4, a5⟩ := h
  refine ⟨by rw [h1 35 (by decide)]; exact a1, by rw [h1 34 (by decide)]; exact a2, ?_, (zm_hK (h1 33 (by decide)) h2).trans a4, by rw [h1 32 (by decide)]; exact a5⟩
  rw [h1 36 (by decide), h1 37 (by decide), h1 38 (by decide), hJ]
  exact a3
/-- a place of the top kind is written -/
theorem zm_E_top {c n : Nat} {v : Int32} {w1 a1 x1 s1 : Int} (h : zm_E gt gv gp ge gh gm n0 gI I J (.inr (k, (w, a, x, s) :: S, o, g, N))) (e : K = z_up I c n v) (hn : n = S.length) (hc : (c = 27 ∧ v.toInt = a1 ∧ w1 = w ∧ x1 = x ∧ s1 = s) ∨ (c = 28 ∧ v.toInt = x1 ∧ w1 = w ∧ a1 = a ∧ s1 = s) ∨ (c = 29 ∧ v.toInt = s1 ∧ w1 = w ∧ a1 = a ∧ x1 = x)) : zm_E gt gv gp ge gh gm n0 gI K J (.inr (k, (w1, a1, x1, s1) :: S, o, g, N)) := by
  obtain ⟨b1, b2, b3, b4, b5, b6, b7, b8, b9, b10⟩ := h
  subst hn
  have hq : ∀ d i, d ≠ c → K d i = I d i := fun d i hd => by rw [e, z_up_n hd]
  have hr : ∀ i, i ≠ S.length → z_eq4 K I i := fun i hi => by
    rcases hc with ⟨rfl, -⟩ | ⟨rfl, -⟩ | ⟨rfl, -⟩
    · exact ⟨hq _ _ (by decide), by rw [e, z_up_k hi], hq _ _ (by decide), hq _ _ (by decide)⟩
    · exact ⟨hq _ _ (by decide), hq _ _ (by decide), by rw [e, z_up_k hi], hq _ _ (by decide)⟩
    · exact ⟨hq _ _ (by decide), hq _ _ (by decide), hq _ _ (by decide), by rw [e, z_up_k hi]⟩
  have h0 : ∀ q, K 0 q = I 0 q := fun q => hq 0 q (by rcases hc with ⟨rfl, -⟩ | ⟨rfl, -⟩ | ⟨rfl, -⟩ <;> decide)
  have hN : ∀ j, K 21 j = I 21 j ∧ K 22 j = I 22 j ∧ K 23 j = I 23 j := fun j => by
    rcases hc with ⟨rfl, -⟩ | ⟨rfl, -⟩ | ⟨rfl, -⟩ <;> exact ⟨hq _ _ (by decide), hq _ _ (by decide), hq _ _ (by decide)⟩
  have hT : ∀ j, K 25 j = I 25 j := fun j => hq _ _ (by rcases hc with ⟨rfl, -⟩ | ⟨rfl, -⟩ | ⟨rfl, -⟩ <;> decide)
  refine ⟨by rw [h0]; exact b1, b2, zm_T_c b3 (fun q _ => h0 q) hT rfl, by rw [h0]; exact b4, ?_, by rw [h0]; exact b6, by rw [h0]; exact b7, by rw [h0]; exact b8, zm_Q_c N n0 (fun j _ _ => hN j) b9, zm_O_c b10 (fun j _ => hN j)⟩
  obtain ⟨c1, c2, c3, c4, c5⟩ := b5
  have c6 := zm_S_c S (fun i hi => hr i (by omega)) c5
  rcases hc with ⟨rfl, d1, rfl, rfl, rfl⟩ | ⟨rfl, d1, rfl, rfl, rfl⟩ | ⟨rfl, d1, rfl, rfl, rfl⟩
  · exact ⟨by rw [hq _ _ (by decide)]; exact c1, by rw [e, z_up_s]; exact d1, by rw [hq _ _ (by decide)]; exact c3, by rw [hq _ _ (by decide)]; exact c4, c6⟩
  · exact ⟨by rw [hq _ _ (by decide)]; exact c1, by rw [hq _ _ (by decide)]; exact c2, by rw [e, z_up_s]; exact d1, by rw [hq _ _ (by decide)]; exact c4, c6⟩
  · exact ⟨by rw [hq _ _ (by decide)]; exact c1, by rw [hq _ _ (by decide)]; exact c2, by rw [hq _ _ (by decide)]; exact c3, by rw [e, z_up_s]; exact d1, c6⟩
theorem zm_E_w {c n : Nat} {v : Int32} (h : zm_E gt gv gp ge gh gm n0 gI I J (.inl f)) (e : K = z_up I c n v) (hc : c ≠ 0 ∧ c ≠ 21 ∧ c ≠ 22 ∧ c ≠ 23) : zm_E gt gv gp ge gh gm n0 gI K J1 (.inl f) := by
  obtain ⟨a1, a2, a3, a4⟩ := h
  exact ⟨by rw [e, z_up_n (fun z => hc.1 z.symm)]; exact a1, by rw [e, z_up_n (fun z => hc.1 z.symm)]; exact a2, a3, zm_O_c a4 (fun j _ => by rw [e, z_up_n (fun z => hc.2.1 z.symm), z_up_n (fun z => hc.2.2.1 z.symm), z_up_n (fun z => hc.2.2.2 z.symm)]; exact ⟨rfl, rfl, rfl⟩)⟩
theorem zm_E_k {n : Nat} {v : Int32} (h : zm_E gt gv gp ge gh gm n0 gI I J (.inl f)) (e : K = z_up I 0 n v) (hc : n ≠ 42 ∧ n ≠ 32) : zm_E gt gv gp ge gh gm n0 gI K J1 (.inl f) := by
  obtain ⟨a1, a2, a3, a4⟩ := h
  exact ⟨by rw [e, z_up_k (fun z => hc.1 z.symm)]; exact a1, by rw [e, z_up_k (fun z => hc.2 z.symm)]; exact a2, a3, zm_O_c a4 (fun j _ => by rw [e, z_up_n (by decide), z_up_n (by decide), z_up_n (by decide)]; exact ⟨rfl, rfl, rfl⟩)⟩
theorem zm_E_wf {L : z_L} (h : zm_E gt gv gp ge gh gm n0 gI I J (.inl f)) (hf : z_fr L I1 I) (h1 : z_wr L 0 42 = false) (h2 : z_wr L 0 32 = false) (h3 : (L.all (fun e => e.1 != 21 && e.1 != 1000) && L.all (fun e => e.1 != 22 && e.1 != 1000) && L.all (fun e => e.1 != 23 && e.1 != 1000)) = true) : zm_E gt gv gp ge gh gm n0 gI I1 J1 (.inl f) := by
  obtain ⟨a1, a2, a3, a4⟩ := h
  simp only [Bool.and_eq_true] at h3
  exact ⟨by rw [hf 0 42 h1]; exact a1, by rw [hf 0 32 h2]; exact a2, a3, zm_O_c a4 (fun j _ => ⟨hf 21 j (z_wr_c h3.1.1), hf 22 j (z_wr_c h3.1.2), hf 23 j (z_wr_c h3.2)⟩)⟩
theorem zm_E_begin {w1 : Int32} {wi : Int} {L : z_L} (h : zm_E gt gv gp ge gh gm n0 gI I J (.inr (k, S, o, g, N))) (hb : z_BG I I1 w1) (hw : w1.toInt = wi) (hf : z_fr L I1 I) (hL : L.all (fun e => (e.1 == 26 || e.1 == 27 || e.1 == 28 || e.1 == 29 || (e.1 == 0 && e.2 == 47))) = true) (hJ : J1 = J) : zm_E gt gv gp ge gh gm n0 gI I1 J1 (.inr (k, (wi, 0, -1, 0) :: S, o, g, N)) := by
  obtain ⟨b1, b2, b3, b4, b5, b6, b7, b8, b9, b10⟩ := h
  obtain ⟨g1, g2, g3, g4, g5, g6⟩ := hb
  have hd : (I 0 47).toNatClampNeg = S.length := by
    have := z_clt b4 (by omega)
    omega
  rw [hd] at g1 g2 g3 g4 g5
  have hw0 : ∀ c i, (¬ (c = 26 ∨ c = 27 ∨ c = 28 ∨ c = 29)) → ¬ (c = 0 ∧ i = 47) → c < 100 → I1 c i = I c i := fun c i q1 q2 q3 => hf c i (by
    cases hz : z_wr L c i with
    | false => rfl
    | true =>
      exfalso
      unfold z_wr at hz
      rw [List.any_eq_true] at hz
      obtain ⟨e, he, h2⟩ := hz
      rw [List.all_eq_true] at hL
      have h3 := hL e he
      simp only [z_ce, Bool.and_eq_true, Bool.or_eq_true, beq_iff_eq, decide_eq_true_eq] at h2 h3
      omega)
  have h0 : ∀ q, q ≠ 47 → I1 0 q = I 0 q := fun q hq => hw0 0 q (by decide) (fun z => hq z.2) (by decide)
  have hnn : ∀ j, I1 21 j = I 21 j ∧ I1 22 j = I 22 j ∧ I1 23 j = I 23 j := fun j => ⟨hw0 _ _ (by decide) (fun z => absurd z.1 (by decide)) (by decide), hw0 _ _ (by decide) (fun z => absurd z.1 (by decide)) (by decide), hw0 _ _ (by decide) (fun z => absurd z.1 (by decide)) (by decide)⟩
  subst hJ
  refine ⟨by rw [h0 _ (by decide)]; exact b1, b2, zm_T_c b3 (fun q hq => h0 q (by omega)) (fun j => hw0 _ _ (by decide) (fun z => absurd z.1 (by decide)) (by decide)) rfl, ?_, ⟨by rw [g2]; exact hw, g3, g4, g5, zm_S_c S (fun i hi => g1 i (by omega)) b5⟩, by rw [h0 _ (by decide)]; exact b6, by rw [h0 _ (by decide)]; exact b7, by rw [h0 _ (by decide)]; exact b8, zm_Q_c N n0 (fun j _ _ => hnn j) b9, zm_O_c b10 (fun j _ => hnn j)⟩
  rw [g6, b4, List.length_cons]
  omega
theorem zm_E_ends {F : zp_F} {v : Int32} {L : z_L} {g1 : Int} (h : zm_E gt gv gp ge gh gm n0 gI I J (.inr (k, F :: S, o, g, N))) (hd : (I1 0 47).toInt = (I 0 47).toInt - 1) (hg : I1 0 40 = v) (hv : v.toInt = g1) (hf : z_fr L I1 I) (hL : L.all (fun e => e.1 == 0 && (e.2 == 47 || e.2 == 40)) = true) (hJ : J1 = J) : zm_E gt gv gp ge gh gm n0 gI I1 J1 (.inr (k, S, o, g1, N)) := by
  obtain ⟨b1, b2, b3, b4, b5, b6, b7, b8, b9, b10⟩ := h
  have hw0 : ∀ c i, (c ≠ 0 ∨ (i ≠ 47 ∧ i ≠ 40)) → c < 100 → I1 c i = I c i := fun c i q1 q3 => hf c i (by
    cases hz : z_wr L c i with
    | false => rfl
    | true =>
      exfalso
      unfold z_wr at hz
      rw [List.any_eq_true] at hz
      obtain ⟨e, he, h2⟩ := hz
      rw [List.all_eq_true] at hL
      have h3 := hL e he
      simp only [z_ce, Bool.and_eq_true, Bool.or_eq_true, beq_iff_eq, decide_eq_true_eq] at h2 h3
      omega)
  have h0 : ∀ q, q ≠ 47 → q ≠ 40 → I1 0 q = I 0 q := fun q h1 h2 => hw0 0 q (Or.inr ⟨h1, h2⟩) (by decide)
  have h4 : ∀ c i, c ≠ 0 → c < 100 → I1 c i = I c i := fun c i h1 h2 => hw0 c i (Or.inl h1) h2
  subst hJ
  obtain ⟨w, a, x, s⟩ := F
  refine ⟨by rw [h0 _ (by decide) (by decide)]; exact b1, b2, zm_T_c b3 (fun q hq => h0 q (by omega) (by omega)) (fun j => h4 _ _ (by decide) (by decide)) rfl, ?_, zm_S_c S (fun i hi => ⟨h4 _ _ (by decide) (by decide), h4 _ _ (by decide) (by decide), h4 _ _ (by decide) (by decide), h4 _ _ (by decide) (by decide)⟩) b5.2.2.2.2, by rw [h0 _ (by decide) (by decide)]; exact b6, by rw [hg]; exact hv, by rw [h0 _ (by decide) (by decide)]; exact b8, zm_Q_c N n0 (fun j _ _ => ⟨h4 _ _ (by decide) (by decide), h4 _ _ (by decide) (by decide), h4 _ _ (by decide) (by decide)⟩) b9, zm_O_c b10 (fun j _ => ⟨h4 _ _ (by decide) (by decide), h4 _ _ (by decide) (by decide), h4 _ _ (by decide) (by decide)⟩)⟩
  rw [hd, b4, List.length_cons]
  omega
/-- a node more -/
noncomputable def zm_nd (I K : z_I) (a b c : Int32) : Prop := (K 0 15).toInt = (I 0 15).toInt + 1 ∧ K 21 (I 0 15).toNatClampNeg = a ∧ K 22 (I 0 15).toNatClampNeg = b ∧ K 23 (I 0 15).toNatClampNeg = c ∧ ∀ j, j ≠ (I 0 15).toNatClampNeg → K 21 j = I 21 j ∧ K 22 j = I 22 j ∧ K 23 j = I 23 j
theorem zm_nd_of {I2 I3 : z_I} {a b c y : Int32} (e1 : I1 = z_up I 21 (I 0 15).toNatClampNeg a) (e2 : I2 = z_up I1 22 (I 0 15).toNatClampNeg b) (e3 : I3 = z_up I2 23 (I 0 15).toNatClampNeg c) (e4 : K = z_up I3 0 15 y) (hy : y.toInt = (I 0 15).toInt + 1) : zm_nd I K a b c := by
  refine ⟨?_, ?_, ?_, ?_, fun j hj => ⟨?_, ?_, ?_⟩⟩
  · rw [e4, z_up_s, hy]
  · rw [e4, z_up_n (by decide), e3, z_up_n (by decide), e2, z_up_n (by decide), e1, z_up_s]
  · rw [e4, z_up_n (by decide), e3, z_up_n (by decide), e2, z_up_s]
  · rw [e4, z_up_n (by decide), e3, z_up_s]
  · rw [e4, z_up_n (by decide), e3, z_up_n (by decide), e2, z_up_n (by decide), e1, z_up_k hj]
  · rw [e4, z_up_n (by decide), e3, z_up_n (by decide), e2, z_up_k hj, e1, z_up_n (by decide)]
  · rw [e4, z_up_n (by decide), e3, z_up_k hj, e2, z_up_n (by decide), e1, z_up_n (by decide)]
theorem zm_E_node {va vb vc : Int32} {a b c : Int} {L : z_L} (h : zm_E gt gv gp ge gh gm n0 gI I J (.inr (k, S, o, g, N))) (hn : zm_nd I I1 va vb vc) (h1 : va.toInt = a) (h2 : vb.toInt = b) (h3 : vc.toInt = c) (hf : z_fr L I1 I) (hL : L.all (fun e => e.1 == 21 || e.1 == 22 || e.1 == 23 || (e.1 == 0 && e.2 == 15)) = true) (hJ : J1 = J) : zm_E gt gv gp ge gh gm n0 gI I1 J1 (.inr (k, S, o, g, N ++ [(a, b, c)])) := by
  obtain ⟨b1, b2, b3, b4, b5, b6, b7, b8, b9, b10⟩ := h
  obtain ⟨g1, g2, g3, g4, g5⟩ := hn
  have hd : (I 0 15).toNatClampNeg = n0 + N.length := by
    have := z_clt b8 (by omega)
    omega
  rw [hd] at g2 g3 g4 g5
  have hw0 : ∀ c i, (¬ (c = 21 ∨ c = 22 ∨ c = 23)) → ¬ (c = 0 ∧ i = 15) → c < 100 → I1 c i = I c i := fun c i q1 q2 q3 => hf c i (by
    cases hz : z_wr L c i with
    | false => rfl
    | true =>
      exfalso
      unfold z_wr at hz
      rw [List.any_eq_true] at hz
      obtain ⟨e, he, h2⟩ := hz
      rw [List.all_eq_true] at hL
      have h3 := hL e he
      simp only [z_ce, Bool.and_eq_true, Bool.or_eq_true, beq_iff_eq, decide_eq_true_eq] at h2 h3
      omega)
  have h0 : ∀ q, q ≠ 15 → I1 0 q = I 0 q := fun q hq => hw0 0 q (by decide) (fun z => hq z.2) (by decide)
  have h4 : ∀ c i, (¬ (c = 21 ∨ c = 22 ∨ c = 23)) → c ≠ 0 → c < 100 → I1 c i = I c i := fun c i q1 q2 q3 => hw0 c i q1 (fun z => q2 z.1) q3
  subst hJ
  refine ⟨by rw [h0 _ (by decide)]; exact b1, b2, zm_T_c b3 (fun q hq => h0 q (by omega)) (fun j => h4 _ _ (by decide) (by decide) (by decide)) rfl, by rw [h0 _ (by decide)]; exact b4, zm_S_c S (fun i hi => ⟨h4 _ _ (by decide) (by decide) (by decide), h4 _ _ (by decide) (by decide) (by decide), h4 _ _ (by decide) (by decide) (by decide), h4 _ _ (by decide) (by decide) (by decide)⟩) b5, by rw [h0 _ (by decide)]; exact b6, by rw [h0 _ (by decide)]; exact b7, ?_, ?_, zm_O_c b10 (fun j hj => g5 j (by omega))⟩
  · rw [g1, b8, List.length_append, List.length_cons, List.length_nil]
    omega
  · rw [zm_Q_ap]
    exact ⟨zm_Q_c N n0 (fun j j1 j2 => g5 j (by omega)) b9, by rw [g2]; exact h1, by rw [g3]; exact h2, by rw [g4]; exact h3, trivial⟩
/-- the open ones are counted -/
theorem zm_E_open {v : Int32} {o1 : Int} (h : zm_E gt gv gp ge gh gm n0 gI I J (.inr (k, S, o, g, N))) (e : K = z_up I 0 39 v) (hv : v.toInt = o1) : zm_E gt gv gp ge gh gm n0 gI K J (.inr (k, S, o1, g, N)) := by
  obtain ⟨b1, b2, b3, b4, b5, b6, b7, b8, b9, b10⟩ := h
  have h0 : ∀ q, q ≠ 39 → K 0 q = I 0 q := fun q hq => by rw [e, z_up_k hq]
  have h4 : ∀ c i, c ≠ 0 → K c i = I c i := fun c i hc => by rw [e, z_up_n hc]
  exact ⟨by rw [h0 _ (by decide)]; exact b1, b2, zm_T_c b3 (fun q hq => h0 q (by omega)) (fun j => h4 _ _ (by decide)) rfl, by rw [h0 _ (by decide)]; exact b4, zm_S_c S (fun i hi => ⟨h4 _ _ (by decide), h4 _ _ (by decide), h4 _ _ (by decide), h4 _ _ (by decide)⟩) b5, by rw [e, z_up_s]; exact hv, by rw [h0 _ (by decide)]; exact b7, by rw [h0 _ (by decide)]; exact b8, zm_Q_c N n0 (fun j _ _ => ⟨h4 _ _ (by decide), h4 _ _ (by decide), h4 _ _ (by decide)⟩) b9, zm_O_c b10 (fun j _ => ⟨h4 _ _ (by decide), h4 _ _ (by decide), h4 _ _ (by decide)⟩)⟩
/-- a token on -/
theorem zm_E_next {L : z_L} (hM : zp_SM gh gt gv gp ge gm) (h : zm_E gt gv gp ge gh gm n0 gI I J (.inr (k, S, o, g, N))) (h401 : gt k ≠ 401) (hN : zm_N I I1 J1) (hf : z_fr L I1 I) (hL : L.all (fun e => e.1 == 0 && (e.2 == 35 || e.2 == 34 || e.2 == 36 || e.2 == 37 || e.2 == 38)) = true) : zm_E gt gv gp ge gh gm n0 gI I1 J1 (.inr (k + 1, S, o, g, N)) := by
  obtain ⟨b1, b2, b3, b4, b5, b6, b7, b8, b9, b10⟩ := h
  have hk : k < gm := by
    rcases Nat.lt_or_ge k gm with q | q
    · exact q
    · have e : k = gm := by omega
      rw [e] at h401
      exact absurd hM.2.2.2 h401
  have hw0 : ∀ c i, (c ≠ 0 ∨ (i ≠ 35 ∧ i ≠ 34 ∧ i ≠ 36 ∧ i ≠ 37 ∧ i ≠ 38)) → c < 100 → I1 c i = I c i := fun c i q1 q3 => hf c i (by
    cases hz : z_wr L c i with
    | false => rfl
    | true =>
      exfalso
      unfold z_wr at hz
      rw [List.any_eq_true] at hz
      obtain ⟨e, he, h2⟩ := hz
      rw [List.all_eq_true] at hL
      have h3 := hL e he
      simp only [z_ce, Bool.and_eq_true, Bool.or_eq_true, beq_iff_eq, decide_eq_true_eq] at h2 h3
      omega)
  have h4 : ∀ c i, c ≠ 0 → c < 100 → I1 c i = I c i := fun c i h1 h2 => hw0 c i (Or.inl h1) h2
  have h0 : ∀ q, (q ≠ 35 ∧ q ≠ 34 ∧ q ≠ 36 ∧ q ≠ 37 ∧ q ≠ 38) → I1 0 q = I 0 q := fun q hq => hw0 0 q (Or.inr hq) (by decide)
  exact ⟨by rw [h0 _ (by decide)]; exact b1, hk, zm_T_n hM b3 hk hN (zm_hK (h0 _ (by decide)) (fun j => h4 _ _ (by decide) (by decide))) (h0 _ (by decide)), by rw [h0 _ (by decide)]; exact b4, zm_S_c S (fun i hi => ⟨h4 _ _ (by decide) (by decide), h4 _ _ (by decide) (by decide), h4 _ _ (by decide) (by decide), h4 _ _ (by decide) (by decide)⟩) b5, by rw [h0 _ (by decide)]; exact b6, by rw [h0 _ (by decide)]; exact b7, by rw [h0 _ (by decide)]; exact b8, zm_Q_c N n0 (fun j _ _ => ⟨h4 _ _ (by decide) (by decide), h4 _ _ (by decide) (by decide), h4 _ _ (by decide) (by decide)⟩) b9, zm_O_c b10 (fun j _ => ⟨h4 _ _ (by decide) (by decide), h4 _ _ (by decide) (by decide), h4 _ _ (by decide) (by decide)⟩)⟩
/-- it goes wrong here -/
theorem zm_E_errs (h : zm_E gt gv gp ge gh gm n0 gI I J (.inr (k, S, o, g, N))) (h1 : (I1 0 42).toInt = 1) (h2 : (I 0 42).toInt = 0 → I1 0 32 = I 0 35) (h3 : ∀ j, I1 21 j = I 21 j ∧ I1 22 j = I 22 j ∧ I1 23 j = I 23 j) : zm_E gt gv gp ge gh gm n0 gI I1 J1 (.inl k) := by
  obtain ⟨b1, b2, b3, b4, b5, b6, b7, b8, b9, b10⟩ := h
  exact ⟨h1, by rw [h2 b1]; exact b3.1, b2, zm_O_c b10 (fun j _ => h3 j)⟩
theorem zm_E_W (h : zm_E gt gv gp ge gh gm n0 gI I J (.inr (k, S, o, g, N))) : (I 0 42).toInt = 0 := h.1
theorem zm_E_L (h : zm_E gt gv gp ge gh gm n0 gI I J (.inl f)) : (I 0 42).toInt = 1 := h.1
/-- what the token is -/
theorem zm_E_wo {i : Nat} (hi : i < 21) (h : zm_E gt gv gp ge gh gm n0 gI I J (.inr (k, S, o, g, N))) : ((I 0 36).toInt = 1 ∧ (J 0 41).toInt = zp_K.getD i 0) ↔ gt k = 300 + (i : Int) := zp_TR_w hi h.2.2.1.2.2.1
theorem zm_E_sg {c : Int} (hc : zp_sg c) (h : zm_E gt gv gp ge gh gm n0 gI I J (.inr (k, S, o, g, N))) : ((I 0 36).toInt = 3 ∧ (I 0 37).toInt = c) ↔ gt k = c := zp_TR_s hc h.2.2.1.2.2.1
theorem zm_E_nu (h : zm_E gt gv gp ge gh gm n0 gI I J (.inr (k, S, o, g, N))) : ((I 0 36).toInt = 2 ↔ gt k = 400) ∧ (gt k = 400 → (I 0 38).toInt = gv k) ∧ ((I 0 36).toInt = 0 ↔ gt k = 401) := zp_TR_n h.2.2.1.2.2.1
theorem zp_TR_1 {h : Nat → Int} {f e : Nat} {t v tok w sg vl : Int} (ht : zp_TR h f e t v tok w sg vl) : 300 ≤ t ∧ t ≤ 320 → tok = 1 := fun q => by
  rcases ht with ⟨a1, a2⟩ | ⟨a1, a2, a3, a4⟩ | ⟨a1, a2, a3⟩ | ⟨a1, a2, a3⟩ | ⟨a1, a2⟩
  · omega
  · exact a1
  · omega
  · have := zp_sg_b a3
    omega
  · omega
theorem zm_E_w1 (h : zm_E gt gv gp ge gh gm n0 gI I J (.inr (k, S, o, g, N))) : 300 ≤ gt k ∧ gt k ≤ 320 → (I 0 36).toInt = 1 := zp_TR_1 h.2.2.1.2.2.1
theorem zm_E_D (h : zm_E gt gv gp ge gh gm n0 gI I J (.inr (k, S, o, g, N))) : (I 0 47).toInt = (S.length : Int) ∧ (I 0 39).toInt = o ∧ (I 0 40).toInt = g ∧ (I 0 15).toInt = (n0 : Int) + (N.length : Int) := ⟨h.2.2.2.1, h.2.2.2.2.2.1, h.2.2.2.2.2.2.1, h.2.2.2.2.2.2.2.1⟩
theorem zm_E_F (h : zm_E gt gv gp ge gh gm n0 gI I J (.inr (k, (w, a, x, s) :: S, o, g, N))) : (I 26 S.length).toInt = w ∧ (I 27 S.length).toInt = a ∧ (I 28 S.length).toInt = x ∧ (I 29 S.length).toInt = s := ⟨h.2.2.2.2.1.1, h.2.2.2.2.1.2.1, h.2.2.2.2.1.2.2.1, h.2.2.2.2.1.2.2.2.1⟩
end ZME
noncomputable def L_X12_errs_x : z_L := [(0, 42), (0, 32)]
set_option maxHeartbeats 8000000 in
set_option maxRecDepth 100000 in
theorem sx_X12_errs_x (l : Launch) (G : z_G) (ad : Nat → Nat) (I : z_I) (J : z_J) (hmt : z_imt I) : z_Mv l yX12_errs wsX12_errs { frames := 1, cells := 0, slots := 0, locals := 12 } [.ref (ad 0)] G (shM, ad, I, J, PM ad) (fun u1 => ∃ (I1 : z_I) (J1 : z_J), u1 = (shM, ad, I1, J1, PM ad) ∧ z_imt I1 ∧ z_fr L_X12_errs_x I1 I ∧ ((I1 0 42).toInt = 1 ∧ ((I 0 42).toInt = 0 → I1 0 32 = I 0 35) ∧ J1 = J)) 0 0 := by
  intro sz
  refine z_headQ (cc := cX12_errs) (maxL := 1) (ret := none) (by decide) rfl (Nat.le_of_ble_eq_true rfl) ?_
  intro p e s m below meth c0 ls hIn hK hsz hW hl
  obtain ⟨hx, hb, hr, hml, hown, hts, hlocks, hname⟩ := hIn
  subst hsz
  have hown : s.vm.findClass RX12 = some m.cls := hown
  have hA : ∀ q : Nat, s.heap.size ≤ q → z_A (shM, ad, I, J, PM ad) s.heap.size q := fun q h => Or.inr h
  generalize hAe : z_A (shM, ad, I, J, PM ad) s.heap.size = A at *
  have hS : va_S A s.heap s.heap [] := va_S.rf
  have hl : lv_has ls 1 [(0, .ref (ad 0))] := hl
  refine lv_aload_n hx hb dX12_errs_0 rfl (lv_at hl 0 rfl) ?_
  have r1 : 0 ≤ (I 0 42).toInt ∧ (I 0 42).toInt ≤ 1 := hmt.2
  refine z_get (T := TX12) (N := 96) (ci := 12) (i := 0) (v := .int (I 0 42)) hx hb hts zj_X12_errs_X12 hown hK hW rfl rfl 42 (by decide) (hts (.fieldLink RX12 294 "PetrolBoardModel" "isWrong" "Z") (me_s (me_l (List.mem_of_getElem? (i := 0) rfl)))) (fun _ h => h) rfl dX12_errs_1 ?_
  refine lv_if_eq (tgt := 8) hx hb dX12_errs_4 (by decide) (fun c2 => ?_) (fun c2 => ?_)
  · have g3 := z_f_eq rfl z_l0 c2
    refine lv_aload_n hx hb dX12_errs_8 rfl (lv_at hl 0 rfl) ?_
    refine lv_iconst (v := 1) hx hb dX12_errs_9 (by decide) ?_
    refine z_put (T := TX12) (N := 96) (ci := 12) (i := 0) (v := .int 1) (I1 := z_up I 0 42 1) (J1 := J) (P1 := PM ad) hx hb hts zj_X12_errs_X12 tyX12 tyX12_ok nmX12 hown hK hW hS rfl rfl 42 (by decide) (hts (.fieldLink RX12 294 "PetrolBoardModel" "isWrong" "Z") (me_s (me_l (List.mem_of_getElem? (i := 0) rfl)))) (fun _ h => h) rfl (by decide) rfl (by first | rfl | exact congrArg _ z_up_s) (fun a b h ty => z_vI h ty) dX12_errs_10 (fun H locs hz1 hW hS => ?_)
    obtain ⟨I4, eI4⟩ : ∃ K : z_I, K = z_up I 0 42 1 := ⟨_, rfl⟩
    rw [← eI4] at hW
    have f5 := z_fr_k z_fr_0 (show z_wr L_X12_errs_x 0 42 = true by decide) eI4
    refine lv_aload_n hx hb dX12_errs_13 rfl (lv_at hl 0 rfl) ?_
    refine lv_aload_n hx hb dX12_errs_14 rfl (lv_at hl 0 rfl) ?_
    refine z_get (T := TX12) (N := 96) (ci := 12) (i := 0) (v := .int (I 0 35)) hx hb hts zj_X12_errs_X12 hown hK hW rfl rfl 35 (by decide) (hts (.fieldLink RX12 266 "PetrolBoardModel" "from" "I") (me_s (me_l (List.mem_of_getElem? (i := 1) rfl)))) (fun _ h => h) (congrArg Value.int (by rw [eI4, z_up_k (by decide)])) dX12_errs_15 ?_
    refine z_put (T := TX12) (N := 96) (ci := 12) (i := 0) (v := .int (I 0 35)) (I1 := z_up I4 0 32 (I 0 35)) (J1 := J) (P1 := PM ad) hx hb hts zj_X12_errs_X12 tyX12 tyX12_ok nmX12 hown hK hW hS rfl rfl 32 (by decide) (hts (.fieldLink RX12 87 "PetrolBoardModel" "faultAt" "I") (me_s (me_l (List.mem_of_getElem? (i := 2) rfl)))) (fun _ h => h) rfl rfl rfl (by first | rfl | exact congrArg _ z_up_s) (fun a b h ty => z_vI h ty) dX12_errs_18 (fun H locs hz1 hW hS => ?_)
    obtain ⟨I6, eI6⟩ : ∃ K : z_I, K = z_up I4 0 32 (I 0 35) := ⟨_, rfl⟩
    rw [← eI6] at hW
    have f7 := z_fr_k f5 (show z_wr L_X12_errs_x 0 32 = true by decide) eI6
    exact z_vret hx hb hr hK hS (Nat.le_of_ble_eq_true rfl) (Nat.le_of_ble_eq_true rfl) hlocks dX12_errs_21 (shM, ad, I6, J, PM ad) hW ⟨I6, J, rfl, ⟨(by show 0 ≤ (I6 0 36).toInt ∧ (I6 0 36).toInt ≤ 4; rw [eI6, z_up_k (by decide), eI4, z_up_k (by decide)]; exact hmt.1), (by show 0 ≤ (I6 0 42).toInt ∧ (I6 0 42).toInt ≤ 1; rw [eI6, z_up_k (by decide), eI4, z_up_s]; decide)⟩, f7, ⟨(by have q0 : (I6 0 42) = 1 := (by rw [eI6, z_up_k (by decide), eI4, z_up_s]); have z0 := z_l1; show (I6 0 42).toInt = 1; rw [q0]; first | omega | decide), (fun q => by rw [eI6, z_up_s]), rfl⟩⟩
  · have g8 := z_f_ne rfl z_l0 c2
    exact z_vret hx hb hr hK hS (Nat.le_of_ble_eq_true rfl) (Nat.le_of_ble_eq_true rfl) hlocks dX12_errs_7 (shM, ad, I, J, PM ad) hW ⟨I, J, rfl, ⟨(by show 0 ≤ (I 0 36).toInt ∧ (I 0 36).toInt ≤ 4; exact hmt.1), (by show 0 ≤ (I 0 42).toInt ∧ (I 0 42).toInt ≤ 1; exact hmt.2)⟩, z_fr_0, ⟨(by show (I 0 42).toInt = 1; first | omega | decide), (fun q => absurd q (by omega)), rfl⟩⟩
set_option maxHeartbeats 8000000 in
set_option maxRecDepth 100000 in
theorem sx_X12_isSign_x (l : Launch) (G : z_G) (ad : Nat → Nat) (I : z_I) (J : z_J) (hmt : z_imt I) (a1 : Int32) : z_M l yX12_isSign wsX12_isSign { frames := 1, cells := 0, slots := 0, locals := 12 } [.ref (ad 0), .int a1] G (shM, ad, I, J, PM ad) (fun r u1 => u1 = (shM, ad, I, J, PM ad) ∧ ((r = 1 ∧ (I 0 36).toInt = 3 ∧ (I 0 37).toInt = a1.toInt) ∨ (r = 0 ∧ ¬ ((I 0 36).toInt = 3 ∧ (I 0 37).toInt = a1.toInt)))) 0 0 := by
  intro sz
  refine z_headQ (cc := cX12_isSign) (maxL := 2) (ret := (some .boolean)) (by decide) rfl (Nat.le_of_ble_eq_true rfl) ?_
  intro p e s m below meth c0 ls hIn hK hsz hW hl
  obtain ⟨hx, hb, hr, hml, hown, hts, hlocks, hname⟩ := hIn
  subst hsz
  have hown : s.vm.findClass RX12 = some m.cls := hown
  have hA : ∀ q : Nat, s.heap.size ≤ q → z_A (shM, ad, I, J, PM ad) s.heap.size q := fun q h => Or.inr h
  generalize hAe : z_A (shM, ad, I, J, PM ad) s.heap.size = A at *
  have hS : va_S A s.heap s.heap [] := va_S.rf
  have hl : lv_has ls 2 [(0, .ref (ad 0)), (1, .int a1)] := hl
  refine lv_aload_n hx hb dX12_isSign_0 rfl (lv_at hl 0 rfl) ?_
  have r1 : 0 ≤ (I 0 36).toInt ∧ (I 0 36).toInt ≤ 4 := hmt.1
  refine z_get (T := TX12) (N := 96) (ci := 12) (i := 0) (v := .int (I 0 36)) hx hb hts zj_X12_isSign_X12 hown hK hW rfl rfl 36 (by decide) (hts (.fieldLink RX12 281 "PetrolBoardModel" "token" "I") (me_s (me_l (List.mem_of_getElem? (i := 0) rfl)))) (fun _ h => h) rfl dX12_isSign_1 ?_
  refine lv_iconst (v := 3) hx hb dX12_isSign_4 (by decide) ?_
  refine lv_icmp_ne (tgt := 20) hx hb dX12_isSign_5 (by decide) (fun c2 => ?_) (fun c2 => ?_)
  · have g3 := z_f_ne rfl z_l3 c2
    refine lv_iconst (v := 0) hx hb dX12_isSign_20 (by decide) ?_
    exact z_zret hx hb hr (by decide) hK hS (Nat.le_of_ble_eq_true rfl) (Nat.le_of_ble_eq_true rfl) hlocks dX12_isSign_21 (shM, ad, I, J, PM ad) hW ⟨rfl, (Or.inr ⟨rfl, fun q => by omega⟩)⟩
  · have g4 := z_f_eq rfl z_l3 c2
    refine lv_aload_n hx hb dX12_isSign_8 rfl (lv_at hl 0 rfl) ?_
    refine z_get (T := TX12) (N := 96) (ci := 12) (i := 0) (v := .int (I 0 37)) hx hb hts zj_X12_isSign_X12 hown hK hW rfl rfl 37 (by decide) (hts (.fieldLink RX12 275 "PetrolBoardModel" "sign" "I") (me_s (me_l (List.mem_of_getElem? (i := 1) rfl)))) (fun _ h => h) rfl dX12_isSign_9 ?_
    refine lv_iload_n hx hb dX12_isSign_12 rfl (lv_at hl 1 rfl) ?_
    refine lv_icmp_ne (tgt := 20) hx hb dX12_isSign_13 (by decide) (fun c5 => ?_) (fun c5 => ?_)
    · have g6 := z_f_ne rfl rfl c5
      have b7 := Int32.toInt_lt (I 0 37)
      have b8 := Int32.toInt_lt a1
      refine lv_iconst (v := 0) hx hb dX12_isSign_20 (by decide) ?_
      exact z_zret hx hb hr (by decide) hK hS (Nat.le_of_ble_eq_true rfl) (Nat.le_of_ble_eq_true rfl) hlocks dX12_isSign_21 (shM, ad, I, J, PM ad) hW ⟨rfl, (Or.inr ⟨rfl, fun q => by omega⟩)⟩
    · have g9 := z_f_eq rfl rfl c5
      have b10 := Int32.toInt_lt (I 0 37)
      have b11 := Int32.toInt_lt a1
      refine lv_iconst (v := 1) hx hb dX12_isSign_16 (by decide) ?_
      refine lv_goto (tgt := 21) hx hb dX12_isSign_17 (by decide) ?_
      exact z_zret hx hb hr (by decide) hK hS (Nat.le_of_ble_eq_true rfl) (Nat.le_of_ble_eq_true rfl) hlocks dX12_isSign_21 (shM, ad, I, J, PM ad) hW ⟨rfl, (Or.inl ⟨rfl, by omega, by omega⟩)⟩
set_option maxHeartbeats 8000000 in
set_option maxRecDepth 100000 in
theorem sx_X12_isWord_x (l : Launch) (G : z_G) (ad : Nat → Nat) (I : z_I) (J : z_J) (hmt : z_imt I) (a1 : Int64) : z_M l yX12_isWord wsX12_isWord { frames := 1, cells := 0, slots := 0, locals := 12 } [.ref (ad 0), .long a1] G (shM, ad, I, J, PM ad) (fun r u1 => u1 = (shM, ad, I, J, PM ad) ∧ ((r = 1 ∧ (I 0 36).toInt = 1 ∧ (J 0 41).toInt = a1.toInt) ∨ (r = 0 ∧ ¬ ((I 0 36).toInt = 1 ∧ (J 0 41).toInt = a1.toInt)))) 0 0 := by
  intro sz
  refine z_headQ (cc := cX12_isWord) (maxL := 3) (ret := (some .boolean)) (by decide) rfl (Nat.le_of_ble_eq_true rfl) ?_
  intro p e s m below meth c0 ls hIn hK hsz hW hl
  obtain ⟨hx, hb, hr, hml, hown, hts, hlocks, hname⟩ := hIn
  subst hsz
  have hown : s.vm.findClass RX12 = some m.cls := hown
  have hA : ∀ q : Nat, s.heap.size ≤ q → z_A (shM, ad, I, J, PM ad) s.heap.size q := fun q h => Or.inr h
  generalize hAe : z_A (shM, ad, I, J, PM ad) s.heap.size = A at *
  have hS : va_S A s.heap s.heap [] := va_S.rf
  have hl : lv_has ls 3 [(0, .ref (ad 0)), (1, .long a1)] := hl
  refine lv_aload_n hx hb dX12_isWord_0 rfl (lv_at hl 0 rfl) ?_
  have r1 : 0 ≤ (I 0 36).toInt ∧ (I 0 36).toInt ≤ 4 := hmt.1
  refine z_get (T := TX12) (N := 96) (ci := 12) (i := 0) (v := .int (I 0 36)) hx hb hts zj_X12_isWord_X12 hown hK hW rfl rfl 36 (by decide) (hts (.fieldLink RX12 281 "PetrolBoardModel" "token" "I") (me_s (me_l (List.mem_of_getElem? (i := 0) rfl)))) (fun _ h => h) rfl dX12_isWord_1 ?_
  refine lv_iconst (v := 1) hx hb dX12_isWord_4 (by decide) ?_
  refine lv_icmp_ne (tgt := 21) hx hb dX12_isWord_5 (by decide) (fun c2 => ?_) (fun c2 => ?_)
  · have g3 := z_f_ne rfl z_l1 c2
    refine lv_iconst (v := 0) hx hb dX12_isWord_21 (by decide) ?_
    exact z_zret hx hb hr (by decide) hK hS (Nat.le_of_ble_eq_true rfl) (Nat.le_of_ble_eq_true rfl) hlocks dX12_isWord_22 (shM, ad, I, J, PM ad) hW ⟨rfl, (Or.inr ⟨rfl, fun q => by omega⟩)⟩
  · have g4 := z_f_eq rfl z_l1 c2
    refine lv_aload_n hx hb dX12_isWord_8 rfl (lv_at hl 0 rfl) ?_
    refine z_get (T := TX12) (N := 96) (ci := 12) (i := 0) (v := .long (J 0 41)) hx hb hts zj_X12_isWord_X12 hown hK hW rfl rfl 41 (by decide) (hts (.fieldLink RX12 271 "PetrolBoardModel" "word" "J") (me_s (me_l (List.mem_of_getElem? (i := 1) rfl)))) (fun _ h => h) rfl dX12_isWord_9 ?_
    refine lv_lload_n hx hb dX12_isWord_12 rfl (lv_at hl 1 rfl) ?_
    refine W.lcmp hx hb dX12_isWord_13 ?_
    refine lv_topi (fun x5 ex5 => ?_)
    have tx5 := z_tcmp ex5
    refine lv_if_ne (tgt := 21) hx hb dX12_isWord_14 (by decide) (fun c6 => ?_) (fun c6 => ?_)
    · have g7 := z_f_ne rfl z_l0 c6
      refine lv_iconst (v := 0) hx hb dX12_isWord_21 (by decide) ?_
      exact z_zret hx hb hr (by decide) hK hS (Nat.le_of_ble_eq_true rfl) (Nat.le_of_ble_eq_true rfl) hlocks dX12_isWord_22 (shM, ad, I, J, PM ad) hW ⟨rfl, (Or.inr ⟨rfl, fun q => by have q9 := (zm_cmp ex5).mpr q.2; omega⟩)⟩
    · have g8 := z_f_eq rfl z_l0 c6
      refine lv_iconst (v := 1) hx hb dX12_isWord_17 (by decide) ?_
      refine lv_goto (tgt := 22) hx hb dX12_isWord_18 (by decide) ?_
      exact z_zret hx hb hr (by decide) hK hS (Nat.le_of_ble_eq_true rfl) (Nat.le_of_ble_eq_true rfl) hlocks dX12_isWord_22 (shM, ad, I, J, PM ad) hW ⟨rfl, (Or.inl ⟨rfl, by omega, (zm_cmp ex5).mp (by omega)⟩)⟩
set_option maxHeartbeats 8000000 in
set_option maxRecDepth 100000 in
theorem sx_X12_ruleOf_x (l : Launch) (G : z_G) (ad : Nat → Nat) (I : z_I) (J : z_J) (a1 : Int64) : z_M l yX12_ruleOf wsX12_ruleOf { frames := 1, cells := 0, slots := 0, locals := 12 } [.ref (ad 0), .long a1] G (shM, ad, I, J, PM ad) (fun r u1 => u1 = (shM, ad, I, J, PM ad) ∧ ((∃ i : Nat, i < 8 ∧ r.toInt = (i : Int) ∧ a1.toInt = zp_K.getD (0 + i) 0) ∨ (r.toInt = -1 ∧ ∀ i : Nat, i < 8 → ¬ a1.toInt = zp_K.getD (0 + i) 0))) 0 0 := by
  intro sz
  refine z_headQ (cc := cX12_ruleOf) (maxL := 3) (ret := (some .int)) (by decide) rfl (Nat.le_of_ble_eq_true rfl) ?_
  intro p e s m below meth c0 ls hIn hK hsz hW hl
  obtain ⟨hx, hb, hr, hml, hown, hts, hlocks, hname⟩ := hIn
  subst hsz
  have hown : s.vm.findClass RX12 = some m.cls := hown
  have hA : ∀ q : Nat, s.heap.size ≤ q → z_A (shM, ad, I, J, PM ad) s.heap.size q := fun q h => Or.inr h
  generalize hAe : z_A (shM, ad, I, J, PM ad) s.heap.size = A at *
  have hS : va_S A s.heap s.heap [] := va_S.rf
  have hl : lv_has ls 3 [(0, .ref (ad 0)), (1, .long a1)] := hl
  refine lv_lload_n hx hb dX12_ruleOf_0 rfl (lv_at hl 1 rfl) ?_
  refine lv_ldc2 (v := 11442943) hx hb hown (hts (.constantLong RX12 307 (11442943)) (me_s (List.mem_of_getElem? (i := 0) rfl))) dX12_ruleOf_1 ?_
  refine W.lcmp hx hb dX12_ruleOf_4 ?_
  refine lv_topi (fun x1 ex1 => ?_)
  have tx1 := z_tcmp ex1
  refine lv_if_ne (tgt := 10) hx hb dX12_ruleOf_5 (by decide) (fun c2 => ?_) (fun c2 => ?_)
  · have g3 := z_f_ne rfl z_l0 c2
    refine lv_lload_n hx hb dX12_ruleOf_10 rfl (lv_at hl 1 rfl) ?_
    refine lv_ldc2 (v := 407041) hx hb hown (hts (.constantLong RX12 309 (407041)) (me_s (List.mem_of_getElem? (i := 1) rfl))) dX12_ruleOf_11 ?_
    refine W.lcmp hx hb dX12_ruleOf_14 ?_
    refine lv_topi (fun x4 ex4 => ?_)
    have tx4 := z_tcmp ex4
    refine lv_if_ne (tgt := 20) hx hb dX12_ruleOf_15 (by decide) (fun c5 => ?_) (fun c5 => ?_)
    · have g6 := z_f_ne rfl z_l0 c5
      refine lv_lload_n hx hb dX12_ruleOf_20 rfl (lv_at hl 1 rfl) ?_
      refine lv_ldc2 (v := 388978) hx hb hown (hts (.constantLong RX12 311 (388978)) (me_s (List.mem_of_getElem? (i := 2) rfl))) dX12_ruleOf_21 ?_
      refine W.lcmp hx hb dX12_ruleOf_24 ?_
      refine lv_topi (fun x7 ex7 => ?_)
      have tx7 := z_tcmp ex7
      refine lv_if_ne (tgt := 30) hx hb dX12_ruleOf_25 (by decide) (fun c8 => ?_) (fun c8 => ?_)
      · have g9 := z_f_ne rfl z_l0 c8
        refine lv_lload_n hx hb dX12_ruleOf_30 rfl (lv_at hl 1 rfl) ?_
        refine lv_ldc2 (v := 12532058) hx hb hown (hts (.constantLong RX12 313 (12532058)) (me_s (List.mem_of_getElem? (i := 3) rfl))) dX12_ruleOf_31 ?_
        refine W.lcmp hx hb dX12_ruleOf_34 ?_
        refine lv_topi (fun x10 ex10 => ?_)
        have tx10 := z_tcmp ex10
        refine lv_if_ne (tgt := 40) hx hb dX12_ruleOf_35 (by decide) (fun c11 => ?_) (fun c11 => ?_)
        · have g12 := z_f_ne rfl z_l0 c11
          refine lv_lload_n hx hb dX12_ruleOf_40 rfl (lv_at hl 1 rfl) ?_
          refine lv_ldc2 (v := 6409157) hx hb hown (hts (.constantLong RX12 315 (6409157)) (me_s (List.mem_of_getElem? (i := 4) rfl))) dX12_ruleOf_41 ?_
          refine W.lcmp hx hb dX12_ruleOf_44 ?_
          refine lv_topi (fun x13 ex13 => ?_)
          have tx13 := z_tcmp ex13
          refine lv_if_ne (tgt := 50) hx hb dX12_ruleOf_45 (by decide) (fun c14 => ?_) (fun c14 => ?_)
          · have g15 := z_f_ne rfl z_l0 c14
            refine lv_lload_n hx hb dX12_ruleOf_50 rfl (lv_at hl 1 rfl) ?_
            refine lv_ldc2 (v := 240223) hx hb hown (hts (.constantLong RX12 317 (240223)) (me_s (List.mem_of_getElem? (i := 5) rfl))) dX12_ruleOf_51 ?_
            refine W.lcmp hx hb dX12_ruleOf_54 ?_
            refine lv_topi (fun x16 ex16 => ?_)
            have tx16 := z_tcmp ex16
            refine lv_if_ne (tgt := 60) hx hb dX12_ruleOf_55 (by decide) (fun c17 => ?_) (fun c17 => ?_)
            · have g18 := z_f_ne rfl z_l0 c17
              refine lv_lload_n hx hb dX12_ruleOf_60 rfl (lv_at hl 1 rfl) ?_
              refine lv_ldc2 (v := 12257222) hx hb hown (hts (.constantLong RX12 319 (12257222)) (me_s (List.mem_of_getElem? (i := 6) rfl))) dX12_ruleOf_61 ?_
              refine W.lcmp hx hb dX12_ruleOf_64 ?_
              refine lv_topi (fun x19 ex19 => ?_)
              have tx19 := z_tcmp ex19
              refine lv_if_ne (tgt := 71) hx hb dX12_ruleOf_65 (by decide) (fun c20 => ?_) (fun c20 => ?_)
              · have g21 := z_f_ne rfl z_l0 c20
                refine lv_lload_n hx hb dX12_ruleOf_71 rfl (lv_at hl 1 rfl) ?_
                refine lv_ldc2 (v := 2436392) hx hb hown (hts (.constantLong RX12 321 (2436392)) (me_s (List.mem_of_getElem? (i := 7) rfl))) dX12_ruleOf_72 ?_
                refine W.lcmp hx hb dX12_ruleOf_75 ?_
                refine lv_topi (fun x22 ex22 => ?_)
                have tx22 := z_tcmp ex22
                refine lv_if_ne (tgt := 82) hx hb dX12_ruleOf_76 (by decide) (fun c23 => ?_) (fun c23 => ?_)
                · have g24 := z_f_ne rfl z_l0 c23
                  refine lv_iconst (v := (-1)) hx hb dX12_ruleOf_82 (by decide) ?_
                  exact z_iret hx hb hr hK hS (Nat.le_of_ble_eq_true rfl) (Nat.le_of_ble_eq_true rfl) hlocks dX12_ruleOf_83 (shM, ad, I, J, PM ad) hW ⟨rfl, (Or.inr ⟨by decide, fun i hi q => by match i, hi, q with
    | 0, _, q => (have q9 := (zm_cmp ex1).mpr (q.trans (by decide)); omega)
    | 1, _, q => (have q9 := (zm_cmp ex4).mpr (q.trans (by decide)); omega)
    | 2, _, q => (have q9 := (zm_cmp ex7).mpr (q.trans (by decide)); omega)
    | 3, _, q => (have q9 := (zm_cmp ex10).mpr (q.trans (by decide)); omega)
    | 4, _, q => (have q9 := (zm_cmp ex13).mpr (q.trans (by decide)); omega)
    | 5, _, q => (have q9 := (zm_cmp ex16).mpr (q.trans (by decide)); omega)
    | 6, _, q => (have q9 := (zm_cmp ex19).mpr (q.trans (by decide)); omega)
    | 7, _, q => (have q9 := (zm_cmp ex22).mpr (q.trans (by decide)); omega)
    | k + 8, hi, _ => exact absurd hi (by omega)⟩)⟩
                · have g25 := z_f_eq rfl z_l0 c23
                  refine lv_bipush (v := 7) hx hb dX12_ruleOf_79 (by decide) ?_
                  exact z_iret hx hb hr hK hS (Nat.le_of_ble_eq_true rfl) (Nat.le_of_ble_eq_true rfl) hlocks dX12_ruleOf_81 (shM, ad, I, J, PM ad) hW ⟨rfl, (Or.inl ⟨7, by decide, by decide, ((zm_cmp ex22).mp (by omega)).trans (by decide)⟩)⟩
              · have g26 := z_f_eq rfl z_l0 c20
                refine lv_bipush (v := 6) hx hb dX12_ruleOf_68 (by decide) ?_
                exact z_iret hx hb hr hK hS (Nat.le_of_ble_eq_true rfl) (Nat.le_of_ble_eq_true rfl) hlocks dX12_ruleOf_70 (shM, ad, I, J, PM ad) hW ⟨rfl, (Or.inl ⟨6, by decide, by decide, ((zm_cmp ex19).mp (by omega)).trans (by decide)⟩)⟩
            · have g27 := z_f_eq rfl z_l0 c17
              refine lv_iconst (v := 5) hx hb dX12_ruleOf_58 (by decide) ?_
              exact z_iret hx hb hr hK hS (Nat.le_of_ble_eq_true rfl) (Nat.le_of_ble_eq_true rfl) hlocks dX12_ruleOf_59 (shM, ad, I, J, PM ad) hW ⟨rfl, (Or.inl ⟨5, by decide, by decide, ((zm_cmp ex16).mp (by omega)).trans (by decide)⟩)⟩
          · have g28 := z_f_eq rfl z_l0 c14
            refine lv_iconst (v := 4) hx hb dX12_ruleOf_48 (by decide) ?_
            exact z_iret hx hb hr hK hS (Nat.le_of_ble_eq_true rfl) (Nat.le_of_ble_eq_true rfl) hlocks dX12_ruleOf_49 (shM, ad, I, J, PM ad) hW ⟨rfl, (Or.inl ⟨4, by decide, by decide, ((zm_cmp ex13).mp (by omega)).trans (by decide)⟩)⟩
        · have g29 := z_f_eq rfl z_l0 c11
          refine lv_iconst (v := 3) hx hb dX12_ruleOf_38 (by decide) ?_
          exact z_iret hx hb hr hK hS (Nat.le_of_ble_eq_true rfl) (Nat.le_of_ble_eq_true rfl) hlocks dX12_ruleOf_39 (shM, ad, I, J, PM ad) hW ⟨rfl, (Or.inl ⟨3, by decide, by decide, ((zm_cmp ex10).mp (by omega)).trans (by decide)⟩)⟩
      · have g30 := z_f_eq rfl z_l0 c8
        refine lv_iconst (v := 2) hx hb dX12_ruleOf_28 (by decide) ?_
        exact z_iret hx hb hr hK hS (Nat.le_of_ble_eq_true rfl) (Nat.le_of_ble_eq_true rfl) hlocks dX12_ruleOf_29 (shM, ad, I, J, PM ad) hW ⟨rfl, (Or.inl ⟨2, by decide, by decide, ((zm_cmp ex7).mp (by omega)).trans (by decide)⟩)⟩
    · have g31 := z_f_eq rfl z_l0 c5
      refine lv_iconst (v := 1) hx hb dX12_ruleOf_18 (by decide) ?_
      exact z_iret hx hb hr hK hS (Nat.le_of_ble_eq_true rfl) (Nat.le_of_ble_eq_true rfl) hlocks dX12_ruleOf_19 (shM, ad, I, J, PM ad) hW ⟨rfl, (Or.inl ⟨1, by decide, by decide, ((zm_cmp ex4).mp (by omega)).trans (by decide)⟩)⟩
  · have g32 := z_f_eq rfl z_l0 c2
    refine lv_iconst (v := 0) hx hb dX12_ruleOf_8 (by decide) ?_
    exact z_iret hx hb hr hK hS (Nat.le_of_ble_eq_true rfl) (Nat.le_of_ble_eq_true rfl) hlocks dX12_ruleOf_9 (shM, ad, I, J, PM ad) hW ⟨rfl, (Or.inl ⟨0, by decide, by decide, ((zm_cmp ex1).mp (by omega)).trans (by decide)⟩)⟩
set_option maxHeartbeats 8000000 in
set_option maxRecDepth 100000 in
theorem sx_X12_nameOf_x (l : Launch) (G : z_G) (ad : Nat → Nat) (I : z_I) (J : z_J) (a1 : Int64) : z_M l yX12_nameOf wsX12_nameOf { frames := 1, cells := 0, slots := 0, locals := 12 } [.ref (ad 0), .long a1] G (shM, ad, I, J, PM ad) (fun r u1 => u1 = (shM, ad, I, J, PM ad) ∧ ((∃ i : Nat, i < 7 ∧ r.toInt = (i : Int) ∧ a1.toInt = zp_K.getD (14 + i) 0) ∨ (r.toInt = -1 ∧ ∀ i : Nat, i < 7 → ¬ a1.toInt = zp_K.getD (14 + i) 0))) 0 0 := by
  intro sz
  refine z_headQ (cc := cX12_nameOf) (maxL := 3) (ret := (some .int)) (by decide) rfl (Nat.le_of_ble_eq_true rfl) ?_
  intro p e s m below meth c0 ls hIn hK hsz hW hl
  obtain ⟨hx, hb, hr, hml, hown, hts, hlocks, hname⟩ := hIn
  subst hsz
  have hown : s.vm.findClass RX12 = some m.cls := hown
  have hA : ∀ q : Nat, s.heap.size ≤ q → z_A (shM, ad, I, J, PM ad) s.heap.size q := fun q h => Or.inr h
  generalize hAe : z_A (shM, ad, I, J, PM ad) s.heap.size = A at *
  have hS : va_S A s.heap s.heap [] := va_S.rf
  have hl : lv_has ls 3 [(0, .ref (ad 0)), (1, .long a1)] := hl
  refine lv_lload_n hx hb dX12_nameOf_0 rfl (lv_at hl 1 rfl) ?_
  refine lv_ldc2 (v := 1831780) hx hb hown (hts (.constantLong RX12 323 (1831780)) (me_s (List.mem_of_getElem? (i := 0) rfl))) dX12_nameOf_1 ?_
  refine W.lcmp hx hb dX12_nameOf_4 ?_
  refine lv_topi (fun x1 ex1 => ?_)
  have tx1 := z_tcmp ex1
  refine lv_if_ne (tgt := 10) hx hb dX12_nameOf_5 (by decide) (fun c2 => ?_) (fun c2 => ?_)
  · have g3 := z_f_ne rfl z_l0 c2
    refine lv_lload_n hx hb dX12_nameOf_10 rfl (lv_at hl 1 rfl) ?_
    refine lv_ldc2 (v := 381245) hx hb hown (hts (.constantLong RX12 325 (381245)) (me_s (List.mem_of_getElem? (i := 1) rfl))) dX12_nameOf_11 ?_
    refine W.lcmp hx hb dX12_nameOf_14 ?_
    refine lv_topi (fun x4 ex4 => ?_)
    have tx4 := z_tcmp ex4
    refine lv_if_ne (tgt := 20) hx hb dX12_nameOf_15 (by decide) (fun c5 => ?_) (fun c5 => ?_)
    · have g6 := z_f_ne rfl z_l0 c5
      refine lv_lload_n hx hb dX12_nameOf_20 rfl (lv_at hl 1 rfl) ?_
      refine lv_ldc2 (v := 405230) hx hb hown (hts (.constantLong RX12 327 (405230)) (me_s (List.mem_of_getElem? (i := 2) rfl))) dX12_nameOf_21 ?_
      refine W.lcmp hx hb dX12_nameOf_24 ?_
      refine lv_topi (fun x7 ex7 => ?_)
      have tx7 := z_tcmp ex7
      refine lv_if_ne (tgt := 30) hx hb dX12_nameOf_25 (by decide) (fun c8 => ?_) (fun c8 => ?_)
      · have g9 := z_f_ne rfl z_l0 c8
        refine lv_lload_n hx hb dX12_nameOf_30 rfl (lv_at hl 1 rfl) ?_
        refine lv_ldc2 (v := 7214732) hx hb hown (hts (.constantLong RX12 329 (7214732)) (me_s (List.mem_of_getElem? (i := 3) rfl))) dX12_nameOf_31 ?_
        refine W.lcmp hx hb dX12_nameOf_34 ?_
        refine lv_topi (fun x10 ex10 => ?_)
        have tx10 := z_tcmp ex10
        refine lv_if_ne (tgt := 40) hx hb dX12_nameOf_35 (by decide) (fun c11 => ?_) (fun c11 => ?_)
        · have g12 := z_f_ne rfl z_l0 c11
          refine lv_lload_n hx hb dX12_nameOf_40 rfl (lv_at hl 1 rfl) ?_
          refine lv_ldc2 (v := 7094782) hx hb hown (hts (.constantLong RX12 331 (7094782)) (me_s (List.mem_of_getElem? (i := 4) rfl))) dX12_nameOf_41 ?_
          refine W.lcmp hx hb dX12_nameOf_44 ?_
          refine lv_topi (fun x13 ex13 => ?_)
          have tx13 := z_tcmp ex13
          refine lv_if_ne (tgt := 50) hx hb dX12_nameOf_45 (by decide) (fun c14 => ?_) (fun c14 => ?_)
          · have g15 := z_f_ne rfl z_l0 c14
            refine lv_lload_n hx hb dX12_nameOf_50 rfl (lv_at hl 1 rfl) ?_
            refine lv_ldc2 (v := 232546955) hx hb hown (hts (.constantLong RX12 333 (232546955)) (me_s (List.mem_of_getElem? (i := 5) rfl))) dX12_nameOf_51 ?_
            refine W.lcmp hx hb dX12_nameOf_54 ?_
            refine lv_topi (fun x16 ex16 => ?_)
            have tx16 := z_tcmp ex16
            refine lv_if_ne (tgt := 60) hx hb dX12_nameOf_55 (by decide) (fun c17 => ?_) (fun c17 => ?_)
            · have g18 := z_f_ne rfl z_l0 c17
              refine lv_lload_n hx hb dX12_nameOf_60 rfl (lv_at hl 1 rfl) ?_
              refine lv_ldc2 (v := 260971484) hx hb hown (hts (.constantLong RX12 335 (260971484)) (me_s (List.mem_of_getElem? (i := 6) rfl))) dX12_nameOf_61 ?_
              refine W.lcmp hx hb dX12_nameOf_64 ?_
              refine lv_topi (fun x19 ex19 => ?_)
              have tx19 := z_tcmp ex19
              refine lv_if_ne (tgt := 71) hx hb dX12_nameOf_65 (by decide) (fun c20 => ?_) (fun c20 => ?_)
              · have g21 := z_f_ne rfl z_l0 c20
                refine lv_iconst (v := (-1)) hx hb dX12_nameOf_71 (by decide) ?_
                exact z_iret hx hb hr hK hS (Nat.le_of_ble_eq_true rfl) (Nat.le_of_ble_eq_true rfl) hlocks dX12_nameOf_72 (shM, ad, I, J, PM ad) hW ⟨rfl, (Or.inr ⟨by decide, fun i hi q => by match i, hi, q with
    | 0, _, q => (have q9 := (zm_cmp ex1).mpr (q.trans (by decide)); omega)
    | 1, _, q => (have q9 := (zm_cmp ex4).mpr (q.trans (by decide)); omega)
    | 2, _, q => (have q9 := (zm_cmp ex7).mpr (q.trans (by decide)); omega)
    | 3, _, q => (have q9 := (zm_cmp ex10).mpr (q.trans (by decide)); omega)
    | 4, _, q => (have q9 := (zm_cmp ex13).mpr (q.trans (by decide)); omega)
    | 5, _, q => (have q9 := (zm_cmp ex16).mpr (q.trans (by decide)); omega)
    | 6, _, q => (have q9 := (zm_cmp ex19).mpr (q.trans (by decide)); omega)
    | k + 7, hi, _ => exact absurd hi (by omega)⟩)⟩
              · have g22 := z_f_eq rfl z_l0 c20
                refine lv_bipush (v := 6) hx hb dX12_nameOf_68 (by decide) ?_
                exact z_iret hx hb hr hK hS (Nat.le_of_ble_eq_true rfl) (Nat.le_of_ble_eq_true rfl) hlocks dX12_nameOf_70 (shM, ad, I, J, PM ad) hW ⟨rfl, (Or.inl ⟨6, by decide, by decide, ((zm_cmp ex19).mp (by omega)).trans (by decide)⟩)⟩
            · have g23 := z_f_eq rfl z_l0 c17
              refine lv_iconst (v := 5) hx hb dX12_nameOf_58 (by decide) ?_
              exact z_iret hx hb hr hK hS (Nat.le_of_ble_eq_true rfl) (Nat.le_of_ble_eq_true rfl) hlocks dX12_nameOf_59 (shM, ad, I, J, PM ad) hW ⟨rfl, (Or.inl ⟨5, by decide, by decide, ((zm_cmp ex16).mp (by omega)).trans (by decide)⟩)⟩
          · have g24 := z_f_eq rfl z_l0 c14
            refine lv_iconst (v := 4) hx hb dX12_nameOf_48 (by decide) ?_
            exact z_iret hx hb hr hK hS (Nat.le_of_ble_eq_true rfl) (Nat.le_of_ble_eq_true rfl) hlocks dX12_nameOf_49 (shM, ad, I, J, PM ad) hW ⟨rfl, (Or.inl ⟨4, by decide, by decide, ((zm_cmp ex13).mp (by omega)).trans (by decide)⟩)⟩
        · have g25 := z_f_eq rfl z_l0 c11
          refine lv_iconst (v := 3) hx hb dX12_nameOf_38 (by decide) ?_
          exact z_iret hx hb hr hK hS (Nat.le_of_ble_eq_true rfl) (Nat.le_of_ble_eq_true rfl) hlocks dX12_nameOf_39 (shM, ad, I, J, PM ad) hW ⟨rfl, (Or.inl ⟨3, by decide, by decide, ((zm_cmp ex10).mp (by omega)).trans (by decide)⟩)⟩
      · have g26 := z_f_eq rfl z_l0 c8
        refine lv_iconst (v := 2) hx hb dX12_nameOf_28 (by decide) ?_
        exact z_iret hx hb hr hK hS (Nat.le_of_ble_eq_true rfl) (Nat.le_of_ble_eq_true rfl) hlocks dX12_nameOf_29 (shM, ad, I, J, PM ad) hW ⟨rfl, (Or.inl ⟨2, by decide, by decide, ((zm_cmp ex7).mp (by omega)).trans (by decide)⟩)⟩
    · have g27 := z_f_eq rfl z_l0 c5
      refine lv_iconst (v := 1) hx hb dX12_nameOf_18 (by decide) ?_
      exact z_iret hx hb hr hK hS (Nat.le_of_ble_eq_true rfl) (Nat.le_of_ble_eq_true rfl) hlocks dX12_nameOf_19 (shM, ad, I, J, PM ad) hW ⟨rfl, (Or.inl ⟨1, by decide, by decide, ((zm_cmp ex4).mp (by omega)).trans (by decide)⟩)⟩
  · have g28 := z_f_eq rfl z_l0 c2
    refine lv_iconst (v := 0) hx hb dX12_nameOf_8 (by decide) ?_
    exact z_iret hx hb hr hK hS (Nat.le_of_ble_eq_true rfl) (Nat.le_of_ble_eq_true rfl) hlocks dX12_nameOf_9 (shM, ad, I, J, PM ad) hW ⟨rfl, (Or.inl ⟨0, by decide, by decide, ((zm_cmp ex1).mp (by omega)).trans (by decide)⟩)⟩
noncomputable def L_X12_begin_x : z_L := [(26, 999), (27, 999), (28, 999), (29, 999), (0, 47)]
set_option maxHeartbeats 8000000 in
set_option maxRecDepth 100000 in
theorem sx_X12_begin_x (l : Launch) (G : z_G) (ad : Nat → Nat) (I : z_I) (J : z_J) (hmd : z_imd I) (a1 : Int32) (q1 : (I 0 47).toInt ≤ 118) : z_Mv l yX12_begin wsX12_begin { frames := 1, cells := 0, slots := 0, locals := 12 } [.ref (ad 0), .int a1] G (shM, ad, I, J, PM ad) (fun u1 => ∃ (I1 : z_I) (J1 : z_J), u1 = (shM, ad, I1, J1, PM ad) ∧ z_imd I1 ∧ z_fr L_X12_begin_x I1 I ∧ z_BG I I1 a1 ∧ J1 = J) 0 0 := by
  intro sz
  refine z_headQ (cc := cX12_begin) (maxL := 2) (ret := none) (by decide) rfl (Nat.le_of_ble_eq_true rfl) ?_
  intro p e s m below meth c0 ls hIn hK hsz hW hl
  obtain ⟨hx, hb, hr, hml, hown, hts, hlocks, hname⟩ := hIn
  subst hsz
  have hown : s.vm.findClass RX12 = some m.cls := hown
  have hA : ∀ q : Nat, s.heap.size ≤ q → z_A (shM, ad, I, J, PM ad) s.heap.size q := fun q h => Or.inr h
  generalize hAe : z_A (shM, ad, I, J, PM ad) s.heap.size = A at *
  have hS : va_S A s.heap s.heap [] := va_S.rf
  have hl : lv_has ls 2 [(0, .ref (ad 0)), (1, .int a1)] := hl
  refine lv_aload_n hx hb dX12_begin_0 rfl (lv_at hl 0 rfl) ?_
  refine z_get (T := TX12) (N := 96) (ci := 12) (i := 0) (v := .ref (ad 26)) hx hb hts zj_X12_begin_X12 hown hK hW rfl rfl 43 (by decide) (hts (.fieldLink RX12 91 "PetrolBoardModel" "what" "[I") (me_s (me_l (List.mem_of_getElem? (i := 0) rfl)))) (fun _ h => h) rfl dX12_begin_1 ?_
  refine lv_aload_n hx hb dX12_begin_4 rfl (lv_at hl 0 rfl) ?_
  have r1 : 0 ≤ (I 0 47).toInt ∧ (I 0 47).toInt ≤ 119 := hmd.1
  refine z_get (T := TX12) (N := 96) (ci := 12) (i := 0) (v := .int (I 0 47)) hx hb hts zj_X12_begin_X12 hown hK hW rfl rfl 47 (by decide) (hts (.fieldLink RX12 340 "PetrolBoardModel" "deep" "I") (me_s (me_l (List.mem_of_getElem? (i := 1) rfl)))) (fun _ h => h) rfl dX12_begin_5 ?_
  refine lv_iload_n hx hb dX12_begin_8 rfl (lv_at hl 1 rfl) ?_
  refine z_iast (i := 26) hx hb hK hW hS rfl (z_ix rfl (by omega) (by omega)) dX12_begin_9 (fun H locs hz1 hW hS => ?_)
  obtain ⟨I2, eI2⟩ : ∃ K : z_I, K = z_up I 26 (I 0 47).toNatClampNeg a1 := ⟨_, rfl⟩
  rw [← eI2] at hW
  have f3 := z_fr_a z_fr_0 (show z_wa L_X12_begin_x 26 = true by decide) eI2
  refine lv_aload_n hx hb dX12_begin_10 rfl (lv_at hl 0 rfl) ?_
  refine z_get (T := TX12) (N := 96) (ci := 12) (i := 0) (v := .ref (ad 27)) hx hb hts zj_X12_begin_X12 hown hK hW rfl rfl 44 (by decide) (hts (.fieldLink RX12 94 "PetrolBoardModel" "at" "[I") (me_s (me_l (List.mem_of_getElem? (i := 2) rfl)))) (fun _ h => h) rfl dX12_begin_11 ?_
  refine lv_aload_n hx hb dX12_begin_14 rfl (lv_at hl 0 rfl) ?_
  refine z_get (T := TX12) (N := 96) (ci := 12) (i := 0) (v := .int (I 0 47)) hx hb hts zj_X12_begin_X12 hown hK hW rfl rfl 47 (by decide) (hts (.fieldLink RX12 340 "PetrolBoardModel" "deep" "I") (me_s (me_l (List.mem_of_getElem? (i := 1) rfl)))) (fun _ h => h) (congrArg Value.int (by rw [eI2, z_up_n (by decide)])) dX12_begin_15 ?_
  refine lv_iconst (v := 0) hx hb dX12_begin_18 (by decide) ?_
  refine z_iast (i := 27) hx hb hK hW hS rfl (z_ix rfl (by omega) (by omega)) dX12_begin_19 (fun H locs hz1 hW hS => ?_)
  obtain ⟨I4, eI4⟩ : ∃ K : z_I, K = z_up I2 27 (I 0 47).toNatClampNeg 0 := ⟨_, rfl⟩
  rw [← eI4] at hW
  have f5 := z_fr_a f3 (show z_wa L_X12_begin_x 27 = true by decide) eI4
  refine lv_aload_n hx hb dX12_begin_20 rfl (lv_at hl 0 rfl) ?_
  refine z_get (T := TX12) (N := 96) (ci := 12) (i := 0) (v := .ref (ad 28)) hx hb hts zj_X12_begin_X12 hown hK hW rfl rfl 45 (by decide) (hts (.fieldLink RX12 97 "PetrolBoardModel" "one" "[I") (me_s (me_l (List.mem_of_getElem? (i := 3) rfl)))) (fun _ h => h) rfl dX12_begin_21 ?_
  refine lv_aload_n hx hb dX12_begin_24 rfl (lv_at hl 0 rfl) ?_
  refine z_get (T := TX12) (N := 96) (ci := 12) (i := 0) (v := .int (I 0 47)) hx hb hts zj_X12_begin_X12 hown hK hW rfl rfl 47 (by decide) (hts (.fieldLink RX12 340 "PetrolBoardModel" "deep" "I") (me_s (me_l (List.mem_of_getElem? (i := 1) rfl)))) (fun _ h => h) (congrArg Value.int (by rw [eI4, z_up_n (by decide), eI2, z_up_n (by decide)])) dX12_begin_25 ?_
  refine lv_iconst (v := (-1)) hx hb dX12_begin_28 (by decide) ?_
  refine z_iast (i := 28) hx hb hK hW hS rfl (z_ix rfl (by omega) (by omega)) dX12_begin_29 (fun H locs hz1 hW hS => ?_)
  obtain ⟨I6, eI6⟩ : ∃ K : z_I, K = z_up I4 28 (I 0 47).toNatClampNeg (-1) := ⟨_, rfl⟩
  rw [← eI6] at hW
  have f7 := z_fr_a f5 (show z_wa L_X12_begin_x 28 = true by decide) eI6
  refine lv_aload_n hx hb dX12_begin_30 rfl (lv_at hl 0 rfl) ?_
  refine z_get (T := TX12) (N := 96) (ci := 12) (i := 0) (v := .ref (ad 29)) hx hb hts zj_X12_begin_X12 hown hK hW rfl rfl 46 (by decide) (hts (.fieldLink RX12 100 "PetrolBoardModel" "sort" "[I") (me_s (me_l (List.mem_of_getElem? (i := 4) rfl)))) (fun _ h => h) rfl dX12_begin_31 ?_
  refine lv_aload_n hx hb dX12_begin_34 rfl (lv_at hl 0 rfl) ?_
  refine z_get (T := TX12) (N := 96) (ci := 12) (i := 0) (v := .int (I 0 47)) hx hb hts zj_X12_begin_X12 hown hK hW rfl rfl 47 (by decide) (hts (.fieldLink RX12 340 "PetrolBoardModel" "deep" "I") (me_s (me_l (List.mem_of_getElem? (i := 1) rfl)))) (fun _ h => h) (congrArg Value.int (by rw [eI6, z_up_n (by decide), eI4, z_up_n (by decide), eI2, z_up_n (by decide)])) dX12_begin_35 ?_
  refine lv_iconst (v := 0) hx hb dX12_begin_38 (by decide) ?_
  refine z_iast (i := 29) hx hb hK hW hS rfl (z_ix rfl (by omega) (by omega)) dX12_begin_39 (fun H locs hz1 hW hS => ?_)
  obtain ⟨I8, eI8⟩ : ∃ K : z_I, K = z_up I6 29 (I 0 47).toNatClampNeg 0 := ⟨_, rfl⟩
  rw [← eI8] at hW
  have f9 := z_fr_a f7 (show z_wa L_X12_begin_x 29 = true by decide) eI8
  refine lv_aload_n hx hb dX12_begin_40 rfl (lv_at hl 0 rfl) ?_
  refine lv_dup hx hb dX12_begin_41 rfl ?_
  refine z_get (T := TX12) (N := 96) (ci := 12) (i := 0) (v := .int (I 0 47)) hx hb hts zj_X12_begin_X12 hown hK hW rfl rfl 47 (by decide) (hts (.fieldLink RX12 340 "PetrolBoardModel" "deep" "I") (me_s (me_l (List.mem_of_getElem? (i := 1) rfl)))) (fun _ h => h) (congrArg Value.int (by rw [eI8, z_up_n (by decide), eI6, z_up_n (by decide), eI4, z_up_n (by decide), eI2, z_up_n (by decide)])) dX12_begin_42 ?_
  refine lv_iconst (v := 1) hx hb dX12_begin_45 (by decide) ?_
  refine lv_iadd hx hb dX12_begin_46 ?_
  refine lv_topi (fun x10 ex10 => ?_)
  have tx10 : x10.toInt = (I 0 47).toInt + 1 := z_tadd ex10 rfl z_l1 (by omega) (by omega)
  refine z_put (T := TX12) (N := 96) (ci := 12) (i := 0) (v := .int x10) (I1 := z_up I8 0 47 x10) (J1 := J) (P1 := PM ad) hx hb hts zj_X12_begin_X12 tyX12 tyX12_ok nmX12 hown hK hW hS rfl rfl 47 (by decide) (hts (.fieldLink RX12 340 "PetrolBoardModel" "deep" "I") (me_s (me_l (List.mem_of_getElem? (i := 1) rfl)))) (fun _ h => h) rfl rfl rfl (by first | rfl | exact congrArg _ z_up_s) (fun a b h ty => z_vI h ty) dX12_begin_47 (fun H locs hz1 hW hS => ?_)
  obtain ⟨I11, eI11⟩ : ∃ K : z_I, K = z_up I8 0 47 x10 := ⟨_, rfl⟩
  rw [← eI11] at hW
  have f12 := z_fr_k f9 (show z_wr L_X12_begin_x 0 47 = true by decide) eI11
  exact z_vret hx hb hr hK hS (Nat.le_of_ble_eq_true rfl) (Nat.le_of_ble_eq_true rfl) hlocks dX12_begin_50 (shM, ad, I11, J, PM ad) hW ⟨I11, J, rfl, ⟨(by show 0 ≤ (I11 0 47).toInt ∧ (I11 0 47).toInt ≤ 119; rw [eI11, z_up_s]; omega), (by show 0 ≤ (I11 0 39).toInt ∧ (I11 0 39).toInt ≤ 100; rw [eI11, z_up_k (by decide), eI8, z_up_n (by decide), eI6, z_up_n (by decide), eI4, z_up_n (by decide), eI2, z_up_n (by decide)]; exact hmd.2)⟩, f12, ⟨⟨fun i hi => ⟨by rw [eI11, z_up_n (by decide), eI8, z_up_n (by decide), eI6, z_up_n (by decide), eI4, z_up_n (by decide), eI2, z_up_k hi], by rw [eI11, z_up_n (by decide), eI8, z_up_n (by decide), eI6, z_up_n (by decide), eI4, z_up_k hi, eI2, z_up_n (by decide)], by rw [eI11, z_up_n (by decide), eI8, z_up_n (by decide), eI6, z_up_k hi, eI4, z_up_n (by decide), eI2, z_up_n (by decide)], by rw [eI11, z_up_n (by decide), eI8, z_up_k hi, eI6, z_up_n (by decide), eI4, z_up_n (by decide), eI2, z_up_n (by decide)]⟩, (by rw [eI11, z_up_n (by decide), eI8, z_up_n (by decide), eI6, z_up_n (by decide), eI4, z_up_n (by decide), eI2, z_up_s]), (by rw [eI11, z_up_n (by decide), eI8, z_up_n (by decide), eI6, z_up_n (by decide), eI4, z_up_s]; decide), (by rw [eI11, z_up_n (by decide), eI8, z_up_n (by decide), eI6, z_up_s]; decide), (by rw [eI11, z_up_n (by decide), eI8, z_up_s]; decide), (by have q0 : (I11 0 47) = x10 := (by rw [eI11, z_up_s]); show (I11 0 47).toInt = (I 0 47).toInt + 1; rw [q0]; omega)⟩, rfl⟩⟩
noncomputable def L_X12_ends_x : z_L := [(0, 40), (0, 47)]
set_option maxHeartbeats 8000000 in
set_option maxRecDepth 100000 in
theorem sx_X12_ends_x (l : Launch) (G : z_G) (ad : Nat → Nat) (I : z_I) (J : z_J) (hmd : z_imd I) (hmg : z_img I) (a1 : Int32) (q1 : 0 ≤ a1.toInt ∧ a1.toInt ≤ 6199) (q2 : 1 ≤ (I 0 47).toInt) : z_Mv l yX12_ends wsX12_ends { frames := 1, cells := 0, slots := 0, locals := 12 } [.ref (ad 0), .int a1] G (shM, ad, I, J, PM ad) (fun u1 => ∃ (I1 : z_I) (J1 : z_J), u1 = (shM, ad, I1, J1, PM ad) ∧ z_imd I1 ∧ z_img I1 ∧ z_fr L_X12_ends_x I1 I ∧ (I1 0 47).toInt = (I 0 47).toInt - 1 ∧ I1 0 40 = a1 ∧ J1 = J) 0 0 := by
  intro sz
  refine z_headQ (cc := cX12_ends) (maxL := 2) (ret := none) (by decide) rfl (Nat.le_of_ble_eq_true rfl) ?_
  intro p e s m below meth c0 ls hIn hK hsz hW hl
  obtain ⟨hx, hb, hr, hml, hown, hts, hlocks, hname⟩ := hIn
  subst hsz
  have hown : s.vm.findClass RX12 = some m.cls := hown
  have hA : ∀ q : Nat, s.heap.size ≤ q → z_A (shM, ad, I, J, PM ad) s.heap.size q := fun q h => Or.inr h
  generalize hAe : z_A (shM, ad, I, J, PM ad) s.heap.size = A at *
  have hS : va_S A s.heap s.heap [] := va_S.rf
  have hl : lv_has ls 2 [(0, .ref (ad 0)), (1, .int a1)] := hl
  refine lv_aload_n hx hb dX12_ends_0 rfl (lv_at hl 0 rfl) ?_
  refine lv_iload_n hx hb dX12_ends_1 rfl (lv_at hl 1 rfl) ?_
  refine z_put (T := TX12) (N := 96) (ci := 12) (i := 0) (v := .int a1) (I1 := z_up I 0 40 a1) (J1 := J) (P1 := PM ad) hx hb hts zj_X12_ends_X12 tyX12 tyX12_ok nmX12 hown hK hW hS rfl rfl 40 (by decide) (hts (.fieldLink RX12 343 "PetrolBoardModel" "got" "I") (me_s (me_l (List.mem_of_getElem? (i := 0) rfl)))) (fun _ h => h) rfl rfl rfl (by first | rfl | exact congrArg _ z_up_s) (fun a b h ty => z_vI h ty) dX12_ends_2 (fun H locs hz1 hW hS => ?_)
  obtain ⟨I1, eI1⟩ : ∃ K : z_I, K = z_up I 0 40 a1 := ⟨_, rfl⟩
  rw [← eI1] at hW
  have f2 := z_fr_k z_fr_0 (show z_wr L_X12_ends_x 0 40 = true by decide) eI1
  refine lv_aload_n hx hb dX12_ends_5 rfl (lv_at hl 0 rfl) ?_
  refine lv_dup hx hb dX12_ends_6 rfl ?_
  have r3 : 0 ≤ (I 0 47).toInt ∧ (I 0 47).toInt ≤ 119 := hmd.1
  refine z_get (T := TX12) (N := 96) (ci := 12) (i := 0) (v := .int (I 0 47)) hx hb hts zj_X12_ends_X12 hown hK hW rfl rfl 47 (by decide) (hts (.fieldLink RX12 340 "PetrolBoardModel" "deep" "I") (me_s (me_l (List.mem_of_getElem? (i := 1) rfl)))) (fun _ h => h) (congrArg Value.int (by rw [eI1, z_up_k (by decide)])) dX12_ends_7 ?_
  refine lv_iconst (v := 1) hx hb dX12_ends_10 (by decide) ?_
  refine lv_isub hx hb dX12_ends_11 ?_
  refine lv_topi (fun x4 ex4 => ?_)
  have tx4 : x4.toInt = (I 0 47).toInt - 1 := z_tsub ex4 rfl z_l1 (by omega) (by omega)
  refine z_put (T := TX12) (N := 96) (ci := 12) (i := 0) (v := .int x4) (I1 := z_up I1 0 47 x4) (J1 := J) (P1 := PM ad) hx hb hts zj_X12_ends_X12 tyX12 tyX12_ok nmX12 hown hK hW hS rfl rfl 47 (by decide) (hts (.fieldLink RX12 340 "PetrolBoardModel" "deep" "I") (me_s (me_l (List.mem_of_getElem? (i := 1) rfl)))) (fun _ h => h) rfl rfl rfl (by first | rfl | exact congrArg _ z_up_s) (fun a b h ty => z_vI h ty) dX12_ends_12 (fun H locs hz1 hW hS => ?_)
  obtain ⟨I5, eI5⟩ : ∃ K : z_I, K = z_up I1 0 47 x4 := ⟨_, rfl⟩
  rw [← eI5] at hW
  have f6 := z_fr_k f2 (show z_wr L_X12_ends_x 0 47 = true by decide) eI5
  exact z_vret hx hb hr hK hS (Nat.le_of_ble_eq_true rfl) (Nat.le_of_ble_eq_true rfl) hlocks dX12_ends_15 (shM, ad, I5, J, PM ad) hW ⟨I5, J, rfl, ⟨(by show 0 ≤ (I5 0 47).toInt ∧ (I5 0 47).toInt ≤ 119; rw [eI5, z_up_s]; omega), (by show 0 ≤ (I5 0 39).toInt ∧ (I5 0 39).toInt ≤ 100; rw [eI5, z_up_k (by decide), eI1, z_up_k (by decide)]; exact hmd.2)⟩, (by show 0 ≤ (I5 0 40).toInt ∧ (I5 0 40).toInt ≤ 6199; rw [eI5, z_up_k (by decide), eI1, z_up_s]; omega), f6, ⟨(by have q0 : (I5 0 47) = x4 := (by rw [eI5, z_up_s]); show (I5 0 47).toInt = (I 0 47).toInt - 1; rw [q0]; omega), (by rw [eI5, z_up_k (by decide), eI1, z_up_s]), rfl⟩⟩
noncomputable def L_X12_node_x : z_L := [(21, 999), (22, 999), (23, 999), (0, 15)]
set_option maxHeartbeats 8000000 in
set_option maxRecDepth 100000 in
theorem sx_X12_node_x (l : Launch) (G : z_G) (ad : Nat → Nat) (I : z_I) (J : z_J) (hmn : z_imn I) (hNd : z_Nd I) (a1 : Int32) (a2 : Int32) (a3 : Int32) (q1 : (I 0 15).toInt ≤ 6099) (q2 : a1.toInt ≤ 1 ∨ (0 ≤ a2.toInt ∧ a2.toInt ≤ 6199)) (q3 : ¬ a1.toInt = 1 ∨ (0 ≤ a2.toInt ∧ a2.toInt ≤ 6)) (q4 : a1.toInt ≤ 1 ∨ a1.toInt = 11 ∨ (0 ≤ a3.toInt ∧ a3.toInt ≤ 6199)) : z_M l yX12_node wsX12_node { frames := 1, cells := 0, slots := 0, locals := 12 } [.ref (ad 0), .int a1, .int a2, .int a3] G (shM, ad, I, J, PM ad) (fun r u1 => ∃ (I1 : z_I) (J1 : z_J), u1 = (shM, ad, I1, J1, PM ad) ∧ z_imn I1 ∧ z_Nd I1 ∧ z_fr L_X12_node_x I1 I ∧ r.toInt = (I 0 15).toInt ∧ (I1 0 15).toInt = (I 0 15).toInt + 1 ∧ zm_nd I I1 a1 a2 a3 ∧ J1 = J) 0 0 := by
  intro sz
  refine z_headQ (cc := cX12_node) (maxL := 4) (ret := (some .int)) (by decide) rfl (Nat.le_of_ble_eq_true rfl) ?_
  intro p e s m below meth c0 ls hIn hK hsz hW hl
  obtain ⟨hx, hb, hr, hml, hown, hts, hlocks, hname⟩ := hIn
  subst hsz
  have hown : s.vm.findClass RX12 = some m.cls := hown
  have hA : ∀ q : Nat, s.heap.size ≤ q → z_A (shM, ad, I, J, PM ad) s.heap.size q := fun q h => Or.inr h
  generalize hAe : z_A (shM, ad, I, J, PM ad) s.heap.size = A at *
  have hS : va_S A s.heap s.heap [] := va_S.rf
  have hl : lv_has ls 4 [(0, .ref (ad 0)), (1, .int a1), (2, .int a2), (3, .int a3)] := hl
  refine lv_aload_n hx hb dX12_node_0 rfl (lv_at hl 0 rfl) ?_
  refine z_get (T := TX12) (N := 96) (ci := 12) (i := 0) (v := .ref (ad 21)) hx hb hts zj_X12_node_X12 hown hK hW rfl rfl 26 (by decide) (hts (.fieldLink RX12 70 "PetrolBoardModel" "nodeKind" "[I") (me_s (me_l (List.mem_of_getElem? (i := 0) rfl)))) (fun _ h => h) rfl dX12_node_1 ?_
  refine lv_aload_n hx hb dX12_node_4 rfl (lv_at hl 0 rfl) ?_
  have r1 : 0 ≤ (I 0 15).toInt ∧ (I 0 15).toInt ≤ 6100 := hmn
  refine z_get (T := TX12) (N := 96) (ci := 12) (i := 0) (v := .int (I 0 15)) hx hb hts zj_X12_node_X12 hown hK hW rfl rfl 15 (by decide) (hts (.fieldLink RX12 337 "PetrolBoardModel" "nodes" "I") (me_s (me_l (List.mem_of_getElem? (i := 1) rfl)))) (fun _ h => h) rfl dX12_node_5 ?_
  refine lv_iload_n hx hb dX12_node_8 rfl (lv_at hl 1 rfl) ?_
  refine z_iast (i := 21) hx hb hK hW hS rfl (z_ix rfl (by omega) (by omega)) dX12_node_9 (fun H locs hz1 hW hS => ?_)
  obtain ⟨I2, eI2⟩ : ∃ K : z_I, K = z_up I 21 (I 0 15).toNatClampNeg a1 := ⟨_, rfl⟩
  rw [← eI2] at hW
  have f3 := z_fr_a z_fr_0 (show z_wa L_X12_node_x 21 = true by decide) eI2
  refine lv_aload_n hx hb dX12_node_10 rfl (lv_at hl 0 rfl) ?_
  refine z_get (T := TX12) (N := 96) (ci := 12) (i := 0) (v := .ref (ad 22)) hx hb hts zj_X12_node_X12 hown hK hW rfl rfl 27 (by decide) (hts (.fieldLink RX12 73 "PetrolBoardModel" "nodeA" "[I") (me_s (me_l (List.mem_of_getElem? (i := 2) rfl)))) (fun _ h => h) rfl dX12_node_11 ?_
  refine lv_aload_n hx hb dX12_node_14 rfl (lv_at hl 0 rfl) ?_
  refine z_get (T := TX12) (N := 96) (ci := 12) (i := 0) (v := .int (I 0 15)) hx hb hts zj_X12_node_X12 hown hK hW rfl rfl 15 (by decide) (hts (.fieldLink RX12 337 "PetrolBoardModel" "nodes" "I") (me_s (me_l (List.mem_of_getElem? (i := 1) rfl)))) (fun _ h => h) (congrArg Value.int (by rw [eI2, z_up_n (by decide)])) dX12_node_15 ?_
  refine lv_iload_n hx hb dX12_node_18 rfl (lv_at hl 2 rfl) ?_
  refine z_iast (i := 22) hx hb hK hW hS rfl (z_ix rfl (by omega) (by omega)) dX12_node_19 (fun H locs hz1 hW hS => ?_)
  obtain ⟨I5, eI5⟩ : ∃ K : z_I, K = z_up I2 22 (I 0 15).toNatClampNeg a2 := ⟨_, rfl⟩
  rw [← eI5] at hW
  have f6 := z_fr_a f3 (show z_wa L_X12_node_x 22 = true by decide) eI5
  refine lv_aload_n hx hb dX12_node_20 rfl (lv_at hl 0 rfl) ?_
  refine z_get (T := TX12) (N := 96) (ci := 12) (i := 0) (v := .ref (ad 23)) hx hb hts zj_X12_node_X12 hown hK hW rfl rfl 28 (by decide) (hts (.fieldLink RX12 76 "PetrolBoardModel" "nodeB" "[I") (me_s (me_l (List.mem_of_getElem? (i := 3) rfl)))) (fun _ h => h) rfl dX12_node_21 ?_
  refine lv_aload_n hx hb dX12_node_24 rfl (lv_at hl 0 rfl) ?_
  refine z_get (T := TX12) (N := 96) (ci := 12) (i := 0) (v := .int (I 0 15)) hx hb hts zj_X12_node_X12 hown hK hW rfl rfl 15 (by decide) (hts (.fieldLink RX12 337 "PetrolBoardModel" "nodes" "I") (me_s (me_l (List.mem_of_getElem? (i := 1) rfl)))) (fun _ h => h) (congrArg Value.int (by rw [eI5, z_up_n (by decide), eI2, z_up_n (by decide)])) dX12_node_25 ?_
  refine lv_iload_n hx hb dX12_node_28 rfl (lv_at hl 3 rfl) ?_
  refine z_iast (i := 23) hx hb hK hW hS rfl (z_ix rfl (by omega) (by omega)) dX12_node_29 (fun H locs hz1 hW hS => ?_)
  obtain ⟨I7, eI7⟩ : ∃ K : z_I, K = z_up I5 23 (I 0 15).toNatClampNeg a3 := ⟨_, rfl⟩
  rw [← eI7] at hW
  have f8 := z_fr_a f6 (show z_wa L_X12_node_x 23 = true by decide) eI7
  refine lv_aload_n hx hb dX12_node_30 rfl (lv_at hl 0 rfl) ?_
  refine lv_dup hx hb dX12_node_31 rfl ?_
  refine z_get (T := TX12) (N := 96) (ci := 12) (i := 0) (v := .int (I 0 15)) hx hb hts zj_X12_node_X12 hown hK hW rfl rfl 15 (by decide) (hts (.fieldLink RX12 337 "PetrolBoardModel" "nodes" "I") (me_s (me_l (List.mem_of_getElem? (i := 1) rfl)))) (fun _ h => h) (congrArg Value.int (by rw [eI7, z_up_n (by decide), eI5, z_up_n (by decide), eI2, z_up_n (by decide)])) dX12_node_32 ?_
  refine lv_iconst (v := 1) hx hb dX12_node_35 (by decide) ?_
  refine lv_iadd hx hb dX12_node_36 ?_
  refine lv_topi (fun x9 ex9 => ?_)
  have tx9 : x9.toInt = (I 0 15).toInt + 1 := z_tadd ex9 rfl z_l1 (by omega) (by omega)
  refine z_put (T := TX12) (N := 96) (ci := 12) (i := 0) (v := .int x9) (I1 := z_up I7 0 15 x9) (J1 := J) (P1 := PM ad) hx hb hts zj_X12_node_X12 tyX12 tyX12_ok nmX12 hown hK hW hS rfl rfl 15 (by decide) (hts (.fieldLink RX12 337 "PetrolBoardModel" "nodes" "I") (me_s (me_l (List.mem_of_getElem? (i := 1) rfl)))) (fun _ h => h) rfl rfl rfl (by first | rfl | exact congrArg _ z_up_s) (fun a b h ty => z_vI h ty) dX12_node_37 (fun H locs hz1 hW hS => ?_)
  obtain ⟨I10, eI10⟩ : ∃ K : z_I, K = z_up I7 0 15 x9 := ⟨_, rfl⟩
  rw [← eI10] at hW
  have f11 := z_fr_k f8 (show z_wr L_X12_node_x 0 15 = true by decide) eI10
  refine lv_aload_n hx hb dX12_node_40 rfl (lv_at hl 0 rfl) ?_
  refine z_get (T := TX12) (N := 96) (ci := 12) (i := 0) (v := .int x9) hx hb hts zj_X12_node_X12 hown hK hW rfl rfl 15 (by decide) (hts (.fieldLink RX12 337 "PetrolBoardModel" "nodes" "I") (me_s (me_l (List.mem_of_getElem? (i := 1) rfl)))) (fun _ h => h) (congrArg Value.int (by rw [eI10, z_up_s])) dX12_node_41 ?_
  refine lv_iconst (v := 1) hx hb dX12_node_44 (by decide) ?_
  refine lv_isub hx hb dX12_node_45 ?_
  refine lv_topi (fun x12 ex12 => ?_)
  have tx12 : x12.toInt = x9.toInt - 1 := z_tsub ex12 rfl z_l1 (by omega) (by omega)
  exact z_iret hx hb hr hK hS (Nat.le_of_ble_eq_true rfl) (Nat.le_of_ble_eq_true rfl) hlocks dX12_node_46 (shM, ad, I10, J, PM ad) hW ⟨I10, J, rfl, (by show 0 ≤ (I10 0 15).toInt ∧ (I10 0 15).toInt ≤ 6100; rw [eI10, z_up_s]; omega), (z_Nd_n (z_Nd_w hNd eI2 eI5 eI7 q2 q3 q4) (by decide) eI10), f11, ⟨by omega, (by have q0 : (I10 0 15) = x9 := (by rw [eI10, z_up_s]); show (I10 0 15).toInt = (I 0 15).toInt + 1; rw [q0]; omega), zm_nd_of eI2 eI5 eI7 eI10 (by omega), rfl⟩⟩
noncomputable def L_X12_must_x : z_L := [(0, 35), (0, 36), (0, 37), (0, 38), (0, 34), (0, 42), (0, 32)]
set_option maxHeartbeats 8000000 in
set_option maxRecDepth 100000 in
theorem sx_X12_must_x (l : Launch) (G : z_G) (ad : Nat → Nat) (I : z_I) (J : z_J) (hmp : z_imp I) (hmt : z_imt I) (hrp : z_irp I) (gt gv : Nat → Int) (gp ge : Nat → Nat) (gh : Nat → Int) (gm n0 : Nat) (gI : z_I) (tq : Nat) (FS : List zp_F) (fo fg : Int) (NN : List zp_N) (a1 : Int32) (hE : zm_E gt gv gp ge gh gm n0 gI I J (.inr (tq, FS, fo, fg, NN))) (hSM : zp_SM gh gt gv gp ge gm) (hc : zp_sg a1.toInt) : z_Mv l yX12_must wsX12_must { frames := 3, cells := 0, slots := 0, locals := 55 } [.ref (ad 0), .int a1] G (shM, ad, I, J, PM ad) (fun u1 => ∃ (I1 : z_I) (J1 : z_J), u1 = (shM, ad, I1, J1, PM ad) ∧ z_imp I1 ∧ z_imt I1 ∧ z_irp I1 ∧ z_fr L_X12_must_x I1 I ∧ ((¬ (I1 0 42).toInt = 0 ∨ (I 0 35).toInt + 1 ≤ (I1 0 35).toInt) ∧ ((gt tq = a1.toInt ∧ zm_E gt gv gp ge gh gm n0 gI I1 J1 (.inr (tq + 1, FS, fo, fg, NN))) ∨ (gt tq ≠ a1.toInt ∧ zm_E gt gv gp ge gh gm n0 gI I1 J1 (.inl tq))))) 0 0 := by
  intro sz
  refine z_headQ (cc := cX12_must) (maxL := 2) (ret := none) (by decide) rfl (Nat.le_of_ble_eq_true rfl) ?_
  intro p e s m below meth c0 ls hIn hK hsz hW hl
  obtain ⟨hx, hb, hr, hml, hown, hts, hlocks, hname⟩ := hIn
  subst hsz
  have hown : s.vm.findClass RX12 = some m.cls := hown
  have hA : ∀ q : Nat, s.heap.size ≤ q → z_A (shM, ad, I, J, PM ad) s.heap.size q := fun q h => Or.inr h
  generalize hAe : z_A (shM, ad, I, J, PM ad) s.heap.size = A at *
  have hS : va_S A s.heap s.heap [] := va_S.rf
  have hl : lv_has ls 2 [(0, .ref (ad 0)), (1, .int a1)] := hl
  have hE1 := zm_E_W hE
  have hE2 := zm_E_D hE
  have hcb := zp_sg_b hc
  have krp : 0 ≤ (I 0 35).toInt ∧ (I 0 35).toInt ≤ (I 0 34).toInt ∧ (I 0 34).toInt ≤ (I 0 33).toInt ∧ (I 0 33).toInt ≤ 500 ∧ ((I 0 36).toInt = 0 ∨ (I 0 35).toInt + 1 ≤ (I 0 34).toInt) := hrp
  refine lv_aload_n hx hb dX12_must_0 rfl (lv_at hl 0 rfl) ?_
  refine lv_iload_n hx hb dX12_must_1 rfl (lv_at hl 1 rfl) ?_
  refine z_ci hW hS hA (va_runV (As := [.int a1]) (rest := []) ⟨hx, hb, hml, hown, hts⟩ (sx_X12_isSign_x l G ad I J ⟨(by show 0 ≤ (I 0 36).toInt ∧ (I 0 36).toInt ≤ 4; exact hmt.1), (by show 0 ≤ (I 0 42).toInt ∧ (I 0 42).toInt ≤ 1; exact hmt.2)⟩ a1 _) (cwV 1 hts gX12_must_X12_isSign rfl rfl rfl (by decide +kernel) ⟨Nat.le_of_ble_eq_true rfl, Nat.le_of_ble_eq_true rfl⟩) (z_preV (i := 0) hK hW rfl rfl) rfl rfl hl.1 rfl (lv_room (Nat.le_of_ble_eq_true rfl)) dX12_must_2 ⟨Nat.le_of_ble_eq_true rfl, Nat.le_of_ble_eq_true rfl⟩) (fun r u1 H locs hp hW hS => ?_)
  obtain ⟨e9, hp⟩ := hp
  rw [e9] at hW
  rcases hp with ⟨rfl, h1, h2⟩ | ⟨rfl, h1⟩
  · have ht3 : gt (tq) = a1.toInt := (zm_E_sg hc hE).mp ⟨h1, by omega⟩
    have h4 := h1
    have h5 : (I 0 35).toInt + 1 ≤ (I 0 34).toInt := by omega
    refine lv_if_eq (tgt := 15) hx hb dX12_must_5 (by decide) (fun c6 => absurd c6 (by decide)) (fun c6 => ?_)
    refine lv_aload_n hx hb dX12_must_8 rfl (lv_at hl 0 rfl) ?_
    refine z_cv hW hS hA (va_runV (As := []) (rest := []) ⟨hx, hb, hml, hown, hts⟩ (sx_X12_next_x l G ad I J ⟨(by show 0 ≤ (I 0 31).toInt ∧ (I 0 31).toInt ≤ 500; exact hmp.1), (by show 0 ≤ (I 0 33).toInt ∧ (I 0 33).toInt ≤ 500; exact hmp.2.1), (by show 0 ≤ (I 0 34).toInt ∧ (I 0 34).toInt ≤ 500; exact hmp.2.2.1), (by show 0 ≤ (I 0 35).toInt ∧ (I 0 35).toInt ≤ 500; exact hmp.2.2.2)⟩ ⟨(by show 0 ≤ (I 0 36).toInt ∧ (I 0 36).toInt ≤ 4; exact hmt.1), (by show 0 ≤ (I 0 42).toInt ∧ (I 0 42).toInt ≤ 1; exact hmt.2)⟩ (by show 0 ≤ (I 0 34).toInt ∧ (I 0 34).toInt ≤ (I 0 33).toInt ∧ (I 0 33).toInt ≤ 500; first | omega | decide)  _) (cwV 0 hts gX12_must_X12_next rfl rfl rfl (by decide +kernel) ⟨Nat.le_of_ble_eq_true rfl, Nat.le_of_ble_eq_true rfl⟩) (z_preV (i := 0) hK hW rfl rfl) rfl rfl hl.1 rfl (lv_room (Nat.le_of_ble_eq_true rfl)) dX12_must_9 ⟨Nat.le_of_ble_eq_true rfl, Nat.le_of_ble_eq_true rfl⟩) (fun u1 H locs hp hW hS => ?_)
    obtain ⟨I7, J9, e9, hI7mp, hI7mt, hI7rp, fI7, hp⟩ := hp
    rw [e9] at hW
    have f8 := z_fr_sub (L := L_X12_must_x) z_fr_0 fI7 (by decide)
    have k10 : 0 ≤ (I7 0 35).toInt ∧ (I7 0 35).toInt ≤ (I7 0 34).toInt ∧ (I7 0 34).toInt ≤ (I7 0 33).toInt ∧ (I7 0 33).toInt ≤ 500 ∧ ((I7 0 36).toInt = 0 ∨ (I7 0 35).toInt + 1 ≤ (I7 0 34).toInt) := hI7rp
    have k11 : (I7 0 42).toInt = (I 0 42).toInt := by rw [fI7 0 42 (by decide)]
    have k12 : (I7 0 47).toInt = (I 0 47).toInt := by rw [fI7 0 47 (by decide)]
    have k13 : (I7 0 39).toInt = (I 0 39).toInt := by rw [fI7 0 39 (by decide)]
    have k14 : (I7 0 15).toInt = (I 0 15).toInt := by rw [fI7 0 15 (by decide)]
    have k15 : (I7 0 40).toInt = (I 0 40).toInt := by rw [fI7 0 40 (by decide)]
    obtain ⟨hp, hp16⟩ := hp
    have h17 := hp
    have hE18 : zm_E gt gv gp ge gh gm n0 gI I7 J9 (.inr (tq + 1, FS, fo, fg, NN)) := zm_E_next hSM hE (by omega) hp16 fI7 (by decide)
    have h19 := zm_E_W hE18
    have h20 := zm_E_D hE18
    refine lv_goto (tgt := 19) hx hb dX12_must_12 (by decide) ?_
    exact z_vret hx hb hr hK hS (Nat.le_of_ble_eq_true rfl) (Nat.le_of_ble_eq_true rfl) hlocks dX12_must_19 (shM, ad, I7, J9, PM ad) hW ⟨I7, J9, rfl, ⟨(by show 0 ≤ (I7 0 31).toInt ∧ (I7 0 31).toInt ≤ 500; exact hI7mp.1), (by show 0 ≤ (I7 0 33).toInt ∧ (I7 0 33).toInt ≤ 500; exact hI7mp.2.1), (by show 0 ≤ (I7 0 34).toInt ∧ (I7 0 34).toInt ≤ 500; exact hI7mp.2.2.1), (by show 0 ≤ (I7 0 35).toInt ∧ (I7 0 35).toInt ≤ 500; exact hI7mp.2.2.2)⟩, ⟨(by show 0 ≤ (I7 0 36).toInt ∧ (I7 0 36).toInt ≤ 4; exact hI7mt.1), (by show 0 ≤ (I7 0 42).toInt ∧ (I7 0 42).toInt ≤ 1; exact hI7mt.2)⟩, (by show 0 ≤ (I7 0 35).toInt ∧ (I7 0 35).toInt ≤ (I7 0 34).toInt ∧ (I7 0 34).toInt ≤ (I7 0 33).toInt ∧ (I7 0 33).toInt ≤ 500 ∧ ((I7 0 36).toInt = 0 ∨ (I7 0 35).toInt + 1 ≤ (I7 0 34).toInt); first | omega | decide), f8, ⟨(by show ¬ (I7 0 42).toInt = 0 ∨ (I 0 35).toInt + 1 ≤ (I7 0 35).toInt; omega), (Or.inl ⟨by omega, hE18⟩)⟩⟩
  · have ht21 : ¬ gt (tq) = a1.toInt := fun q => h1 (by have q9 := (zm_E_sg hc hE).mpr q; exact ⟨q9.1, by omega⟩)
    refine lv_if_eq (tgt := 15) hx hb dX12_must_5 (by decide) (fun c22 => ?_) (fun c22 => absurd (by decide) c22)
    refine lv_aload_n hx hb dX12_must_15 rfl (lv_at hl 0 rfl) ?_
    refine z_cv hW hS hA (va_runV (As := []) (rest := []) ⟨hx, hb, hml, hown, hts⟩ (sx_X12_errs_x l G ad I J ⟨(by show 0 ≤ (I 0 36).toInt ∧ (I 0 36).toInt ≤ 4; exact hmt.1), (by show 0 ≤ (I 0 42).toInt ∧ (I 0 42).toInt ≤ 1; exact hmt.2)⟩  _) (cwV 0 hts gX12_must_X12_errs rfl rfl rfl (by decide +kernel) ⟨Nat.le_of_ble_eq_true rfl, Nat.le_of_ble_eq_true rfl⟩) (z_preV (i := 0) hK hW rfl rfl) rfl rfl hl.1 rfl (lv_room (Nat.le_of_ble_eq_true rfl)) dX12_must_16 ⟨Nat.le_of_ble_eq_true rfl, Nat.le_of_ble_eq_true rfl⟩) (fun u1 H locs hp hW hS => ?_)
    obtain ⟨I23, J25, e9, hI23mt, fI23, hp⟩ := hp
    rw [e9] at hW
    have f24 := z_fr_sub (L := L_X12_must_x) z_fr_0 fI23 (by decide)
    have k26 : 0 ≤ (I23 0 31).toInt ∧ (I23 0 31).toInt ≤ 500 := by rw [fI23 0 31 (by decide)]; exact (by show 0 ≤ (I 0 31).toInt ∧ (I 0 31).toInt ≤ 500; exact hmp.1)
    have k27 : 0 ≤ (I23 0 33).toInt ∧ (I23 0 33).toInt ≤ 500 := by rw [fI23 0 33 (by decide)]; exact (by show 0 ≤ (I 0 33).toInt ∧ (I 0 33).toInt ≤ 500; exact hmp.2.1)
    have k28 : 0 ≤ (I23 0 34).toInt ∧ (I23 0 34).toInt ≤ 500 := by rw [fI23 0 34 (by decide)]; exact (by show 0 ≤ (I 0 34).toInt ∧ (I 0 34).toInt ≤ 500; exact hmp.2.2.1)
    have k29 : 0 ≤ (I23 0 35).toInt ∧ (I23 0 35).toInt ≤ 500 := by rw [fI23 0 35 (by decide)]; exact (by show 0 ≤ (I 0 35).toInt ∧ (I 0 35).toInt ≤ 500; exact hmp.2.2.2)
    have k30 : 0 ≤ (I23 0 35).toInt ∧ (I23 0 35).toInt ≤ (I23 0 34).toInt ∧ (I23 0 34).toInt ≤ (I23 0 33).toInt ∧ (I23 0 33).toInt ≤ 500 ∧ ((I23 0 36).toInt = 0 ∨ (I23 0 35).toInt + 1 ≤ (I23 0 34).toInt) := (by have q0 : (I23 0 35) = (I 0 35) := (by rw [fI23 0 35 (by decide)]); have q1 : (I23 0 34) = (I 0 34) := (by rw [fI23 0 34 (by decide)]); have q2 : (I23 0 33) = (I 0 33) := (by rw [fI23 0 33 (by decide)]); have q3 : (I23 0 36) = (I 0 36) := (by rw [fI23 0 36 (by decide)]); show 0 ≤ (I23 0 35).toInt ∧ (I23 0 35).toInt ≤ (I23 0 34).toInt ∧ (I23 0 34).toInt ≤ (I23 0 33).toInt ∧ (I23 0 33).toInt ≤ 500 ∧ ((I23 0 36).toInt = 0 ∨ (I23 0 35).toInt + 1 ≤ (I23 0 34).toInt); rw [q0, q1, q2, q3]; first | omega | decide)
    have k31 : (I23 0 35).toInt = (I 0 35).toInt := by rw [fI23 0 35 (by decide)]
    have k32 : (I23 0 34).toInt = (I 0 34).toInt := by rw [fI23 0 34 (by decide)]
    have k33 : (I23 0 36).toInt = (I 0 36).toInt := by rw [fI23 0 36 (by decide)]
    have k34 : (I23 0 47).toInt = (I 0 47).toInt := by rw [fI23 0 47 (by decide)]
    have k35 : (I23 0 39).toInt = (I 0 39).toInt := by rw [fI23 0 39 (by decide)]
    have k36 : (I23 0 15).toInt = (I 0 15).toInt := by rw [fI23 0 15 (by decide)]
    have k37 : (I23 0 40).toInt = (I 0 40).toInt := by rw [fI23 0 40 (by decide)]
    obtain ⟨h38, h39, hJ40⟩ := hp
    have h41 : ¬ (I23 0 42).toInt = 0 := by omega
    have hE42 : zm_E gt gv gp ge gh gm n0 gI I23 J25 (.inl (tq)) := zm_E_errs hE h38 h39 (fun j => ⟨fI23 21 j (z_wr_c (by decide)), fI23 22 j (z_wr_c (by decide)), fI23 23 j (z_wr_c (by decide))⟩)
    have h43 := zm_E_L hE42
    exact z_vret hx hb hr hK hS (Nat.le_of_ble_eq_true rfl) (Nat.le_of_ble_eq_true rfl) hlocks dX12_must_19 (shM, ad, I23, J25, PM ad) hW ⟨I23, J25, rfl, ⟨(by show 0 ≤ (I23 0 31).toInt ∧ (I23 0 31).toInt ≤ 500; exact k26), (by show 0 ≤ (I23 0 33).toInt ∧ (I23 0 33).toInt ≤ 500; exact k27), (by show 0 ≤ (I23 0 34).toInt ∧ (I23 0 34).toInt ≤ 500; exact k28), (by show 0 ≤ (I23 0 35).toInt ∧ (I23 0 35).toInt ≤ 500; exact k29)⟩, ⟨(by show 0 ≤ (I23 0 36).toInt ∧ (I23 0 36).toInt ≤ 4; exact hI23mt.1), (by show 0 ≤ (I23 0 42).toInt ∧ (I23 0 42).toInt ≤ 1; exact hI23mt.2)⟩, (by show 0 ≤ (I23 0 35).toInt ∧ (I23 0 35).toInt ≤ (I23 0 34).toInt ∧ (I23 0 34).toInt ≤ (I23 0 33).toInt ∧ (I23 0 33).toInt ≤ 500 ∧ ((I23 0 36).toInt = 0 ∨ (I23 0 35).toInt + 1 ≤ (I23 0 34).toInt); first | omega | decide), f24, ⟨(by show ¬ (I23 0 42).toInt = 0 ∨ (I 0 35).toInt + 1 ≤ (I23 0 35).toInt; omega), (Or.inr ⟨by omega, hE42⟩)⟩⟩
noncomputable def L_X12_opens_x : z_L := [(0, 35), (0, 36), (0, 37), (0, 38), (0, 34), (0, 42), (0, 32), (0, 39)]
set_option maxHeartbeats 8000000 in
set_option maxRecDepth 100000 in
theorem sx_X12_opens_x (l : Launch) (G : z_G) (ad : Nat → Nat) (I : z_I) (J : z_J) (hmp : z_imp I) (hmt : z_imt I) (hrp : z_irp I) (hmd : z_imd I) (gt gv : Nat → Int) (gp ge : Nat → Nat) (gh : Nat → Int) (gm n0 : Nat) (gI : z_I) (tq : Nat) (FS : List zp_F) (fo fg : Int) (NN : List zp_N) (q1 : (I 0 39).toInt ≤ 9) (hE : zm_E gt gv gp ge gh gm n0 gI I J (.inr (tq, FS, fo, fg, NN))) (hSM : zp_SM gh gt gv gp ge gm) (h401 : gt tq ≠ 401) : z_Mv l yX12_opens wsX12_opens { frames := 3, cells := 0, slots := 0, locals := 55 } [.ref (ad 0)] G (shM, ad, I, J, PM ad) (fun u1 => ∃ (I1 : z_I) (J1 : z_J), u1 = (shM, ad, I1, J1, PM ad) ∧ z_imp I1 ∧ z_imt I1 ∧ z_irp I1 ∧ z_imd I1 ∧ z_fr L_X12_opens_x I1 I ∧ ((I1 0 39).toInt = (I 0 39).toInt + 1 ∧ (I 0 34).toInt ≤ (I1 0 35).toInt ∧ (¬ (I1 0 42).toInt = 0 ∨ (I 0 39).toInt ≤ 8) ∧ ((fo ≠ 9 ∧ zm_E gt gv gp ge gh gm n0 gI I1 J1 (.inr (tq + 1, FS, fo + 1, fg, NN))) ∨ (fo = 9 ∧ zm_E gt gv gp ge gh gm n0 gI I1 J1 (.inl tq))))) 0 0 := by
  intro sz
  refine z_headQ (cc := cX12_opens) (maxL := 1) (ret := none) (by decide) rfl (Nat.le_of_ble_eq_true rfl) ?_
  intro p e s m below meth c0 ls hIn hK hsz hW hl
  obtain ⟨hx, hb, hr, hml, hown, hts, hlocks, hname⟩ := hIn
  subst hsz
  have hown : s.vm.findClass RX12 = some m.cls := hown
  have hA : ∀ q : Nat, s.heap.size ≤ q → z_A (shM, ad, I, J, PM ad) s.heap.size q := fun q h => Or.inr h
  generalize hAe : z_A (shM, ad, I, J, PM ad) s.heap.size = A at *
  have hS : va_S A s.heap s.heap [] := va_S.rf
  have hl : lv_has ls 1 [(0, .ref (ad 0))] := hl
  have hE1 := zm_E_W hE
  have hE2 := zm_E_D hE
  have krp : 0 ≤ (I 0 35).toInt ∧ (I 0 35).toInt ≤ (I 0 34).toInt ∧ (I 0 34).toInt ≤ (I 0 33).toInt ∧ (I 0 33).toInt ≤ 500 ∧ ((I 0 36).toInt = 0 ∨ (I 0 35).toInt + 1 ≤ (I 0 34).toInt) := hrp
  refine lv_aload_n hx hb dX12_opens_0 rfl (lv_at hl 0 rfl) ?_
  have r1 : 0 ≤ (I 0 39).toInt ∧ (I 0 39).toInt ≤ 100 := hmd.2
  refine z_get (T := TX12) (N := 96) (ci := 12) (i := 0) (v := .int (I 0 39)) hx hb hts zj_X12_opens_X12 hown hK hW rfl rfl 39 (by decide) (hts (.fieldLink RX12 346 "PetrolBoardModel" "open" "I") (me_s (me_l (me_l (List.mem_of_getElem? (i := 0) rfl))))) (fun _ h => h) rfl dX12_opens_1 ?_
  refine lv_bipush (v := 9) hx hb dX12_opens_4 (by decide) ?_
  refine lv_icmp_ne (tgt := 13) hx hb dX12_opens_6 (by decide) (fun c2 => ?_) (fun c2 => ?_)
  · have g3 := z_f_ne rfl z_l9 c2
    refine lv_aload_n hx hb dX12_opens_13 rfl (lv_at hl 0 rfl) ?_
    refine lv_dup hx hb dX12_opens_14 rfl ?_
    refine z_get (T := TX12) (N := 96) (ci := 12) (i := 0) (v := .int (I 0 39)) hx hb hts zj_X12_opens_X12 hown hK hW rfl rfl 39 (by decide) (hts (.fieldLink RX12 346 "PetrolBoardModel" "open" "I") (me_s (me_l (me_l (List.mem_of_getElem? (i := 0) rfl))))) (fun _ h => h) rfl dX12_opens_15 ?_
    refine lv_iconst (v := 1) hx hb dX12_opens_18 (by decide) ?_
    refine lv_iadd hx hb dX12_opens_19 ?_
    refine lv_topi (fun x4 ex4 => ?_)
    have tx4 : x4.toInt = (I 0 39).toInt + 1 := z_tadd ex4 rfl z_l1 (by omega) (by omega)
    refine z_put (T := TX12) (N := 96) (ci := 12) (i := 0) (v := .int x4) (I1 := z_up I 0 39 x4) (J1 := J) (P1 := PM ad) hx hb hts zj_X12_opens_X12 tyX12 tyX12_ok nmX12 hown hK hW hS rfl rfl 39 (by decide) (hts (.fieldLink RX12 346 "PetrolBoardModel" "open" "I") (me_s (me_l (me_l (List.mem_of_getElem? (i := 0) rfl))))) (fun _ h => h) rfl rfl rfl (by first | rfl | exact congrArg _ z_up_s) (fun a b h ty => z_vI h ty) dX12_opens_20 (fun H locs hz1 hW hS => ?_)
    obtain ⟨I5, eI5⟩ : ∃ K : z_I, K = z_up I 0 39 x4 := ⟨_, rfl⟩
    rw [← eI5] at hW
    have f6 := z_fr_k z_fr_0 (show z_wr L_X12_opens_x 0 39 = true by decide) eI5
    have hE7 : zm_E gt gv gp ge gh gm n0 gI I5 J (.inr (tq, FS, fo + 1, fg, NN)) := zm_E_open hE eI5 (by omega)
    have h8 := zm_E_W hE7
    have h9 := zm_E_D hE7
    refine lv_aload_n hx hb dX12_opens_23 rfl (lv_at hl 0 rfl) ?_
    refine z_cv hW hS hA (va_runV (As := []) (rest := []) ⟨hx, hb, hml, hown, hts⟩ (sx_X12_next_x l G ad I5 J ⟨(by show 0 ≤ (I5 0 31).toInt ∧ (I5 0 31).toInt ≤ 500; rw [eI5, z_up_k (by decide)]; exact hmp.1), (by show 0 ≤ (I5 0 33).toInt ∧ (I5 0 33).toInt ≤ 500; rw [eI5, z_up_k (by decide)]; exact hmp.2.1), (by show 0 ≤ (I5 0 34).toInt ∧ (I5 0 34).toInt ≤ 500; rw [eI5, z_up_k (by decide)]; exact hmp.2.2.1), (by show 0 ≤ (I5 0 35).toInt ∧ (I5 0 35).toInt ≤ 500; rw [eI5, z_up_k (by decide)]; exact hmp.2.2.2)⟩ ⟨(by show 0 ≤ (I5 0 36).toInt ∧ (I5 0 36).toInt ≤ 4; rw [eI5, z_up_k (by decide)]; exact hmt.1), (by show 0 ≤ (I5 0 42).toInt ∧ (I5 0 42).toInt ≤ 1; rw [eI5, z_up_k (by decide)]; exact hmt.2)⟩ (by have q0 : (I5 0 34) = (I 0 34) := (by rw [eI5, z_up_k (by decide)]); have q1 : (I5 0 33) = (I 0 33) := (by rw [eI5, z_up_k (by decide)]); show 0 ≤ (I5 0 34).toInt ∧ (I5 0 34).toInt ≤ (I5 0 33).toInt ∧ (I5 0 33).toInt ≤ 500; rw [q0, q1]; first | omega | decide)  _) (cwV 0 hts gX12_opens_X12_next rfl rfl rfl (by decide +kernel) ⟨Nat.le_of_ble_eq_true rfl, Nat.le_of_ble_eq_true rfl⟩) (z_preV (i := 0) hK hW rfl rfl) rfl rfl hl.1 rfl (lv_room (Nat.le_of_ble_eq_true rfl)) dX12_opens_24 ⟨Nat.le_of_ble_eq_true rfl, Nat.le_of_ble_eq_true rfl⟩) (fun u1 H locs hp hW hS => ?_)
    obtain ⟨I10, J12, e9, hI10mp, hI10mt, hI10rp, fI10, hp⟩ := hp
    rw [e9] at hW
    have f11 := z_fr_sub (L := L_X12_opens_x) f6 fI10 (by decide)
    have k13 : 0 ≤ (I10 0 35).toInt ∧ (I10 0 35).toInt ≤ (I10 0 34).toInt ∧ (I10 0 34).toInt ≤ (I10 0 33).toInt ∧ (I10 0 33).toInt ≤ 500 ∧ ((I10 0 36).toInt = 0 ∨ (I10 0 35).toInt + 1 ≤ (I10 0 34).toInt) := hI10rp
    have k14 : 0 ≤ (I10 0 47).toInt ∧ (I10 0 47).toInt ≤ 119 := by rw [fI10 0 47 (by decide)]; exact (by show 0 ≤ (I5 0 47).toInt ∧ (I5 0 47).toInt ≤ 119; rw [eI5, z_up_k (by decide)]; exact hmd.1)
    have k15 : 0 ≤ (I10 0 39).toInt ∧ (I10 0 39).toInt ≤ 100 := by rw [fI10 0 39 (by decide)]; exact (by show 0 ≤ (I5 0 39).toInt ∧ (I5 0 39).toInt ≤ 100; rw [eI5, z_up_s]; omega)
    have k16 : (I10 0 42).toInt = (I 0 42).toInt := by rw [fI10 0 42 (by decide), eI5, z_up_k (by decide)]
    have k17 : (I10 0 47).toInt = (I 0 47).toInt := by rw [fI10 0 47 (by decide), eI5, z_up_k (by decide)]
    have k18 : (I10 0 39).toInt = x4.toInt := by rw [fI10 0 39 (by decide), eI5, z_up_s]
    have k19 : (I10 0 15).toInt = (I 0 15).toInt := by rw [fI10 0 15 (by decide), eI5, z_up_k (by decide)]
    have k20 : (I10 0 40).toInt = (I 0 40).toInt := by rw [fI10 0 40 (by decide), eI5, z_up_k (by decide)]
    obtain ⟨hp, hp21⟩ := hp
    have h22 := hp
    rw [show (I5 0 34) = (I 0 34) from by rw [eI5, z_up_k (by decide)]] at h22
    have hE23 : zm_E gt gv gp ge gh gm n0 gI I10 J12 (.inr (tq + 1, FS, fo + 1, fg, NN)) := zm_E_next hSM hE7 (by omega) hp21 fI10 (by decide)
    have h24 := zm_E_W hE23
    have h25 := zm_E_D hE23
    exact z_vret hx hb hr hK hS (Nat.le_of_ble_eq_true rfl) (Nat.le_of_ble_eq_true rfl) hlocks dX12_opens_27 (shM, ad, I10, J12, PM ad) hW ⟨I10, J12, rfl, ⟨(by show 0 ≤ (I10 0 31).toInt ∧ (I10 0 31).toInt ≤ 500; exact hI10mp.1), (by show 0 ≤ (I10 0 33).toInt ∧ (I10 0 33).toInt ≤ 500; exact hI10mp.2.1), (by show 0 ≤ (I10 0 34).toInt ∧ (I10 0 34).toInt ≤ 500; exact hI10mp.2.2.1), (by show 0 ≤ (I10 0 35).toInt ∧ (I10 0 35).toInt ≤ 500; exact hI10mp.2.2.2)⟩, ⟨(by show 0 ≤ (I10 0 36).toInt ∧ (I10 0 36).toInt ≤ 4; exact hI10mt.1), (by show 0 ≤ (I10 0 42).toInt ∧ (I10 0 42).toInt ≤ 1; exact hI10mt.2)⟩, (by show 0 ≤ (I10 0 35).toInt ∧ (I10 0 35).toInt ≤ (I10 0 34).toInt ∧ (I10 0 34).toInt ≤ (I10 0 33).toInt ∧ (I10 0 33).toInt ≤ 500 ∧ ((I10 0 36).toInt = 0 ∨ (I10 0 35).toInt + 1 ≤ (I10 0 34).toInt); first | omega | decide), ⟨(by show 0 ≤ (I10 0 47).toInt ∧ (I10 0 47).toInt ≤ 119; exact k14), (by show 0 ≤ (I10 0 39).toInt ∧ (I10 0 39).toInt ≤ 100; exact k15)⟩, f11, ⟨(by show (I10 0 39).toInt = (I 0 39).toInt + 1; omega), (by show (I 0 34).toInt ≤ (I10 0 35).toInt; omega), (by show ¬ (I10 0 42).toInt = 0 ∨ (I 0 39).toInt ≤ 8; omega), (Or.inl ⟨by omega, hE23⟩)⟩⟩
  · have g26 := z_f_eq rfl z_l9 c2
    refine lv_aload_n hx hb dX12_opens_9 rfl (lv_at hl 0 rfl) ?_
    refine z_cv hW hS hA (va_runV (As := []) (rest := []) ⟨hx, hb, hml, hown, hts⟩ (sx_X12_errs_x l G ad I J ⟨(by show 0 ≤ (I 0 36).toInt ∧ (I 0 36).toInt ≤ 4; exact hmt.1), (by show 0 ≤ (I 0 42).toInt ∧ (I 0 42).toInt ≤ 1; exact hmt.2)⟩  _) (cwV 0 hts gX12_opens_X12_errs rfl rfl rfl (by decide +kernel) ⟨Nat.le_of_ble_eq_true rfl, Nat.le_of_ble_eq_true rfl⟩) (z_preV (i := 0) hK hW rfl rfl) rfl rfl hl.1 rfl (lv_room (Nat.le_of_ble_eq_true rfl)) dX12_opens_10 ⟨Nat.le_of_ble_eq_true rfl, Nat.le_of_ble_eq_true rfl⟩) (fun u1 H locs hp hW hS => ?_)
    obtain ⟨I27, J29, e9, hI27mt, fI27, hp⟩ := hp
    rw [e9] at hW
    have f28 := z_fr_sub (L := L_X12_opens_x) z_fr_0 fI27 (by decide)
    have k30 : 0 ≤ (I27 0 31).toInt ∧ (I27 0 31).toInt ≤ 500 := by rw [fI27 0 31 (by decide)]; exact (by show 0 ≤ (I 0 31).toInt ∧ (I 0 31).toInt ≤ 500; exact hmp.1)
    have k31 : 0 ≤ (I27 0 33).toInt ∧ (I27 0 33).toInt ≤ 500 := by rw [fI27 0 33 (by decide)]; exact (by show 0 ≤ (I 0 33).toInt ∧ (I 0 33).toInt ≤ 500; exact hmp.2.1)
    have k32 : 0 ≤ (I27 0 34).toInt ∧ (I27 0 34).toInt ≤ 500 := by rw [fI27 0 34 (by decide)]; exact (by show 0 ≤ (I 0 34).toInt ∧ (I 0 34).toInt ≤ 500; exact hmp.2.2.1)
    have k33 : 0 ≤ (I27 0 35).toInt ∧ (I27 0 35).toInt ≤ 500 := by rw [fI27 0 35 (by decide)]; exact (by show 0 ≤ (I 0 35).toInt ∧ (I 0 35).toInt ≤ 500; exact hmp.2.2.2)
    have k34 : 0 ≤ (I27 0 35).toInt ∧ (I27 0 35).toInt ≤ (I27 0 34).toInt ∧ (I27 0 34).toInt ≤ (I27 0 33).toInt ∧ (I27 0 33).toInt ≤ 500 ∧ ((I27 0 36).toInt = 0 ∨ (I27 0 35).toInt + 1 ≤ (I27 0 34).toInt) := (by have q0 : (I27 0 35) = (I 0 35) := (by rw [fI27 0 35 (by decide)]); have q1 : (I27 0 34) = (I 0 34) := (by rw [fI27 0 34 (by decide)]); have q2 : (I27 0 33) = (I 0 33) := (by rw [fI27 0 33 (by decide)]); have q3 : (I27 0 36) = (I 0 36) := (by rw [fI27 0 36 (by decide)]); show 0 ≤ (I27 0 35).toInt ∧ (I27 0 35).toInt ≤ (I27 0 34).toInt ∧ (I27 0 34).toInt ≤ (I27 0 33).toInt ∧ (I27 0 33).toInt ≤ 500 ∧ ((I27 0 36).toInt = 0 ∨ (I27 0 35).toInt + 1 ≤ (I27 0 34).toInt); rw [q0, q1, q2, q3]; first | omega | decide)
    have k35 : 0 ≤ (I27 0 47).toInt ∧ (I27 0 47).toInt ≤ 119 := by rw [fI27 0 47 (by decide)]; exact (by show 0 ≤ (I 0 47).toInt ∧ (I 0 47).toInt ≤ 119; exact hmd.1)
    have k36 : 0 ≤ (I27 0 39).toInt ∧ (I27 0 39).toInt ≤ 100 := by rw [fI27 0 39 (by decide)]; exact (by show 0 ≤ (I 0 39).toInt ∧ (I 0 39).toInt ≤ 100; exact hmd.2)
    have k37 : (I27 0 35).toInt = (I 0 35).toInt := by rw [fI27 0 35 (by decide)]
    have k38 : (I27 0 34).toInt = (I 0 34).toInt := by rw [fI27 0 34 (by decide)]
    have k39 : (I27 0 36).toInt = (I 0 36).toInt := by rw [fI27 0 36 (by decide)]
    have k40 : (I27 0 47).toInt = (I 0 47).toInt := by rw [fI27 0 47 (by decide)]
    have k41 : (I27 0 39).toInt = (I 0 39).toInt := by rw [fI27 0 39 (by decide)]
    have k42 : (I27 0 15).toInt = (I 0 15).toInt := by rw [fI27 0 15 (by decide)]
    have k43 : (I27 0 40).toInt = (I 0 40).toInt := by rw [fI27 0 40 (by decide)]
    obtain ⟨h44, h45, hJ46⟩ := hp
    have h47 : ¬ (I27 0 42).toInt = 0 := by omega
    have hE48 : zm_E gt gv gp ge gh gm n0 gI I27 J29 (.inl (tq)) := zm_E_errs hE h44 h45 (fun j => ⟨fI27 21 j (z_wr_c (by decide)), fI27 22 j (z_wr_c (by decide)), fI27 23 j (z_wr_c (by decide))⟩)
    have h49 := zm_E_L hE48
    refine lv_aload_n hx hb dX12_opens_13 rfl (lv_at hl 0 rfl) ?_
    refine lv_dup hx hb dX12_opens_14 rfl ?_
    have r50 : 0 ≤ (I27 0 39).toInt ∧ (I27 0 39).toInt ≤ 100 := k36
    refine z_get (T := TX12) (N := 96) (ci := 12) (i := 0) (v := .int (I27 0 39)) hx hb hts zj_X12_opens_X12 hown hK hW rfl rfl 39 (by decide) (hts (.fieldLink RX12 346 "PetrolBoardModel" "open" "I") (me_s (me_l (me_l (List.mem_of_getElem? (i := 0) rfl))))) (fun _ h => h) rfl dX12_opens_15 ?_
    refine lv_iconst (v := 1) hx hb dX12_opens_18 (by decide) ?_
    refine lv_iadd hx hb dX12_opens_19 ?_
    refine lv_topi (fun x51 ex51 => ?_)
    have tx51 : x51.toInt = (I27 0 39).toInt + 1 := z_tadd ex51 rfl z_l1 (by omega) (by omega)
    refine z_put (T := TX12) (N := 96) (ci := 12) (i := 0) (v := .int x51) (I1 := z_up I27 0 39 x51) (J1 := J29) (P1 := PM ad) hx hb hts zj_X12_opens_X12 tyX12 tyX12_ok nmX12 hown hK hW hS rfl rfl 39 (by decide) (hts (.fieldLink RX12 346 "PetrolBoardModel" "open" "I") (me_s (me_l (me_l (List.mem_of_getElem? (i := 0) rfl))))) (fun _ h => h) rfl rfl rfl (by first | rfl | exact congrArg _ z_up_s) (fun a b h ty => z_vI h ty) dX12_opens_20 (fun H locs hz1 hW hS => ?_)
    obtain ⟨I52, eI52⟩ : ∃ K : z_I, K = z_up I27 0 39 x51 := ⟨_, rfl⟩
    rw [← eI52] at hW
    have f53 := z_fr_k f28 (show z_wr L_X12_opens_x 0 39 = true by decide) eI52
    have hE54 : zm_E gt gv gp ge gh gm n0 gI I52 J29 (.inl (tq)) := zm_E_k hE48 eI52 (by decide)
    have h55 := zm_E_L hE54
    refine lv_aload_n hx hb dX12_opens_23 rfl (lv_at hl 0 rfl) ?_
    refine z_cv hW hS hA (va_runV (As := []) (rest := []) ⟨hx, hb, hml, hown, hts⟩ (sx_X12_next_x l G ad I52 J29 ⟨(by show 0 ≤ (I52 0 31).toInt ∧ (I52 0 31).toInt ≤ 500; rw [eI52, z_up_k (by decide)]; exact k30), (by show 0 ≤ (I52 0 33).toInt ∧ (I52 0 33).toInt ≤ 500; rw [eI52, z_up_k (by decide)]; exact k31), (by show 0 ≤ (I52 0 34).toInt ∧ (I52 0 34).toInt ≤ 500; rw [eI52, z_up_k (by decide)]; exact k32), (by show 0 ≤ (I52 0 35).toInt ∧ (I52 0 35).toInt ≤ 500; rw [eI52, z_up_k (by decide)]; exact k33)⟩ ⟨(by show 0 ≤ (I52 0 36).toInt ∧ (I52 0 36).toInt ≤ 4; rw [eI52, z_up_k (by decide)]; exact hI27mt.1), (by show 0 ≤ (I52 0 42).toInt ∧ (I52 0 42).toInt ≤ 1; rw [eI52, z_up_k (by decide)]; exact hI27mt.2)⟩ (by have q0 : (I52 0 34) = (I27 0 34) := (by rw [eI52, z_up_k (by decide)]); have q1 : (I52 0 33) = (I27 0 33) := (by rw [eI52, z_up_k (by decide)]); show 0 ≤ (I52 0 34).toInt ∧ (I52 0 34).toInt ≤ (I52 0 33).toInt ∧ (I52 0 33).toInt ≤ 500; rw [q0, q1]; first | omega | decide)  _) (cwV 0 hts gX12_opens_X12_next rfl rfl rfl (by decide +kernel) ⟨Nat.le_of_ble_eq_true rfl, Nat.le_of_ble_eq_true rfl⟩) (z_preV (i := 0) hK hW rfl rfl) rfl rfl hl.1 rfl (lv_room (Nat.le_of_ble_eq_true rfl)) dX12_opens_24 ⟨Nat.le_of_ble_eq_true rfl, Nat.le_of_ble_eq_true rfl⟩) (fun u1 H locs hp hW hS => ?_)
    obtain ⟨I56, J58, e9, hI56mp, hI56mt, hI56rp, fI56, hp⟩ := hp
    rw [e9] at hW
    have f57 := z_fr_sub (L := L_X12_opens_x) f53 fI56 (by decide)
    have k59 : 0 ≤ (I56 0 35).toInt ∧ (I56 0 35).toInt ≤ (I56 0 34).toInt ∧ (I56 0 34).toInt ≤ (I56 0 33).toInt ∧ (I56 0 33).toInt ≤ 500 ∧ ((I56 0 36).toInt = 0 ∨ (I56 0 35).toInt + 1 ≤ (I56 0 34).toInt) := hI56rp
    have k60 : 0 ≤ (I56 0 47).toInt ∧ (I56 0 47).toInt ≤ 119 := by rw [fI56 0 47 (by decide)]; exact (by show 0 ≤ (I52 0 47).toInt ∧ (I52 0 47).toInt ≤ 119; rw [eI52, z_up_k (by decide)]; exact k35)
    have k61 : 0 ≤ (I56 0 39).toInt ∧ (I56 0 39).toInt ≤ 100 := by rw [fI56 0 39 (by decide)]; exact (by show 0 ≤ (I52 0 39).toInt ∧ (I52 0 39).toInt ≤ 100; rw [eI52, z_up_s]; omega)
    have k62 : (I56 0 42).toInt = (I27 0 42).toInt := by rw [fI56 0 42 (by decide), eI52, z_up_k (by decide)]
    have k63 : (I56 0 47).toInt = (I27 0 47).toInt := by rw [fI56 0 47 (by decide), eI52, z_up_k (by decide)]
    have k64 : (I56 0 39).toInt = x51.toInt := by rw [fI56 0 39 (by decide), eI52, z_up_s]
    have k65 : (I56 0 15).toInt = (I27 0 15).toInt := by rw [fI56 0 15 (by decide), eI52, z_up_k (by decide)]
    have k66 : (I56 0 40).toInt = (I27 0 40).toInt := by rw [fI56 0 40 (by decide), eI52, z_up_k (by decide)]
    obtain ⟨hp, hp67⟩ := hp
    have h68 := hp
    rw [show (I52 0 34) = (I27 0 34) from by rw [eI52, z_up_k (by decide)]] at h68
    have hE69 : zm_E gt gv gp ge gh gm n0 gI I56 J58 (.inl (tq)) := zm_E_wf hE54 fI56 (by decide) (by decide) (by decide)
    have h70 := zm_E_L hE69
    exact z_vret hx hb hr hK hS (Nat.le_of_ble_eq_true rfl) (Nat.le_of_ble_eq_true rfl) hlocks dX12_opens_27 (shM, ad, I56, J58, PM ad) hW ⟨I56, J58, rfl, ⟨(by show 0 ≤ (I56 0 31).toInt ∧ (I56 0 31).toInt ≤ 500; exact hI56mp.1), (by show 0 ≤ (I56 0 33).toInt ∧ (I56 0 33).toInt ≤ 500; exact hI56mp.2.1), (by show 0 ≤ (I56 0 34).toInt ∧ (I56 0 34).toInt ≤ 500; exact hI56mp.2.2.1), (by show 0 ≤ (I56 0 35).toInt ∧ (I56 0 35).toInt ≤ 500; exact hI56mp.2.2.2)⟩, ⟨(by show 0 ≤ (I56 0 36).toInt ∧ (I56 0 36).toInt ≤ 4; exact hI56mt.1), (by show 0 ≤ (I56 0 42).toInt ∧ (I56 0 42).toInt ≤ 1; exact hI56mt.2)⟩, (by show 0 ≤ (I56 0 35).toInt ∧ (I56 0 35).toInt ≤ (I56 0 34).toInt ∧ (I56 0 34).toInt ≤ (I56 0 33).toInt ∧ (I56 0 33).toInt ≤ 500 ∧ ((I56 0 36).toInt = 0 ∨ (I56 0 35).toInt + 1 ≤ (I56 0 34).toInt); first | omega | decide), ⟨(by show 0 ≤ (I56 0 47).toInt ∧ (I56 0 47).toInt ≤ 119; exact k60), (by show 0 ≤ (I56 0 39).toInt ∧ (I56 0 39).toInt ≤ 100; exact k61)⟩, f57, ⟨(by show (I56 0 39).toInt = (I 0 39).toInt + 1; omega), (by show (I 0 34).toInt ≤ (I56 0 35).toInt; omega), (by show ¬ (I56 0 42).toInt = 0 ∨ (I 0 39).toInt ≤ 8; omega), (Or.inr ⟨by omega, hE69⟩)⟩⟩
