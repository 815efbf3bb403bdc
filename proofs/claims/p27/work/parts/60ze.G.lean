section SG60ze


/-! deals -/
noncomputable def zd_S (U : Nat → Int) : Nat → Int
  | 0 => 0
  | n + 1 => zd_S U n + U n
theorem zd_S_s {U : Nat → Int} {n : Nat} : zd_S U (n + 1) = zd_S U n + U n := rfl
theorem zd_S_c {U V : Nat → Int} : ∀ n : Nat, (∀ j, j < n → V j = U j) → zd_S V n = zd_S U n
  | 0, _ => rfl
  | n + 1, h => by rw [zd_S, zd_S, zd_S_c n (fun j hj => h j (by omega)), h n (Nat.lt_succ_self n)]
/-- the best bidder that isn't served: the first of the highest, -1 if none -/
noncomputable def zd_b (B : Nat → Int) (sv : Nat → Bool) : Nat → Int
  | 0 => -1
  | h + 1 => if sv h = false ∧ (zd_b B sv h = -1 ∨ B (zd_b B sv h).toNat < B h) then (h : Int) else zd_b B sv h
theorem zd_b_y {B : Nat → Int} {sv : Nat → Bool} {h : Nat} (q : sv h = false ∧ (zd_b B sv h = -1 ∨ B (zd_b B sv h).toNat < B h)) : zd_b B sv (h + 1) = (h : Int) := if_pos q
theorem zd_b_n {B : Nat → Int} {sv : Nat → Bool} {h : Nat} (q : ¬ (sv h = false ∧ (zd_b B sv h = -1 ∨ B (zd_b B sv h).toNat < B h))) : zd_b B sv (h + 1) = zd_b B sv h := if_neg q
theorem zd_b_b {B : Nat → Int} {sv : Nat → Bool} : ∀ n : Nat, -1 ≤ zd_b B sv n ∧ zd_b B sv n < (n : Int)
  | 0 => ⟨Int.le_refl _, by show (-1 : Int) < 0; decide⟩
  | n + 1 => by
    have ih := zd_b_b (B := B) (sv := sv) n
    rw [zd_b]
    split
    · omega
    · omega
theorem zd_b_c {B B1 : Nat → Int} {sv sv1 : Nat → Bool} : ∀ n : Nat, (∀ j, j < n → B1 j = B j ∧ sv1 j = sv j) → zd_b B1 sv1 n = zd_b B sv n
  | 0, _ => rfl
  | n + 1, h => by
    have ih := zd_b_c n (fun j hj => h j (by omega))
    have bd := zd_b_b (B := B) (sv := sv) n
    rw [zd_b, zd_b, ih, (h n (Nat.lt_succ_self n)).1, (h n (Nat.lt_succ_self n)).2]
    by_cases q : zd_b B sv n = -1
    · rw [q]
      simp only [true_or]
    · rw [(h (zd_b B sv n).toNat (by omega)).1]
/-- the way of the sale: the deal, who is served, what is left -/
noncomputable def zd_f (B N : Nat → Int) (n : Nat) (D0 : Nat → Int) (l0 : Int) : Nat → (Nat → Int) × (Nat → Bool) × Int
  | 0 => (D0, fun _ => false, l0)
  | k + 1 => if zd_b B (zd_f B N n D0 l0 k).2.1 n = -1 then zd_f B N n D0 l0 k else (fun j => if j = (zd_b B (zd_f B N n D0 l0 k).2.1 n).toNat then min (zd_f B N n D0 l0 k).2.2 (N (zd_b B (zd_f B N n D0 l0 k).2.1 n).toNat) else (zd_f B N n D0 l0 k).1 j, fun j => if j = (zd_b B (zd_f B N n D0 l0 k).2.1 n).toNat then true else (zd_f B N n D0 l0 k).2.1 j, (zd_f B N n D0 l0 k).2.2 - min (zd_f B N n D0 l0 k).2.2 (N (zd_b B (zd_f B N n D0 l0 k).2.1 n).toNat))
theorem zd_f_n {B N D0 : Nat → Int} {n k : Nat} {l0 : Int} (h : zd_b B (zd_f B N n D0 l0 k).2.1 n = -1) : zd_f B N n D0 l0 (k + 1) = zd_f B N n D0 l0 k := if_pos h
theorem zd_f_st {B N D0 : Nat → Int} {n k : Nat} {l0 : Int} (h : zd_b B (zd_f B N n D0 l0 k).2.1 n = -1) : ∀ d : Nat, zd_f B N n D0 l0 (k + d) = zd_f B N n D0 l0 k
  | 0 => rfl
  | d + 1 => by
    have ih := zd_f_st h d
    show zd_f B N n D0 l0 (k + d + 1) = _
    rw [zd_f_n (by rw [ih]; exact h), ih]
theorem zd_f_y {B N D0 : Nat → Int} {n k : Nat} {l0 b : Int} (hb : zd_b B (zd_f B N n D0 l0 k).2.1 n = b) (h : ¬ b = -1) : zd_f B N n D0 l0 (k + 1) = (fun j => if j = b.toNat then min (zd_f B N n D0 l0 k).2.2 (N b.toNat) else (zd_f B N n D0 l0 k).1 j, fun j => if j = b.toNat then true else (zd_f B N n D0 l0 k).2.1 j, (zd_f B N n D0 l0 k).2.2 - min (zd_f B N n D0 l0 k).2.2 (N b.toNat)) := by
  rw [zd_f, hb, if_neg h]
theorem zd_fi_s {I : z_I} {i b : Nat} {v : Int32} : z_fi I i v i b = v := by simp [z_fi]
noncomputable def zd_u (I : z_I) (j : Nat) : Int := (I 73 j).toInt
noncomputable def zd_v (I : z_I) (j : Nat) : Bool := decide (¬ (I 74 j).toInt = 0)
noncomputable def zd_B (I : z_I) (j : Nat) : Int := (I 5 j).toInt
noncomputable def zd_N (I : z_I) (j : Nat) : Int := (I 6 j).toInt
noncomputable def zd_F (I : z_I) : Nat → (Nat → Int) × (Nat → Bool) × Int := zd_f (zd_B I) (zd_N I) (I 72 2).toNatClampNeg (zd_u I) (zd_S (zd_u I) (I 72 2).toNatClampNeg)
/-- one turn of the sale -/
theorem zd_step {I In K K1 : z_I} {k : Nat} {b o v le le1 : Int32} (hU : ∀ j, (In 73 j).toInt = (zd_F I k).1 j) (hS : ∀ j, zd_v In j = (zd_F I k).2.1 j) (hl : le.toInt = (zd_F I k).2.2) (hb : zd_b (zd_B I) (zd_F I k).2.1 (I 72 2).toNatClampNeg = b.toInt) (h0 : 0 ≤ b.toInt) (eK : K = z_up In 74 b.toNatClampNeg o) (ho : ¬ o.toInt = 0) (eK1 : K1 = z_up K 73 b.toNatClampNeg v) (hv : v.toInt = min le.toInt (I 6 b.toNatClampNeg).toInt) (hl1 : le1.toInt = le.toInt - v.toInt) : (∀ j, (K1 73 j).toInt = (zd_F I (k + 1)).1 j) ∧ (∀ j, zd_v K1 j = (zd_F I (k + 1)).2.1 j) ∧ le1.toInt = (zd_F I (k + 1)).2.2 := by
  have e : zd_F I (k + 1) = _ := zd_f_y hb (by omega)
  have eb : b.toInt.toNat = b.toNatClampNeg := rfl
  rw [e, eb]
  refine ⟨fun j => ?_, fun j => ?_, ?_⟩
  · rw [eK1, z_up_j, eK, z_up_n (by decide)]
    show _ = if j = b.toNatClampNeg then min (zd_F I k).2.2 (zd_N I b.toNatClampNeg) else (zd_F I k).1 j
    by_cases q : j = b.toNatClampNeg
    · rw [if_pos q, if_pos q, hv, hl]
      rfl
    · rw [if_neg q, if_neg q]
      exact hU j
  · show zd_v K1 j = if j = b.toNatClampNeg then true else (zd_F I k).2.1 j
    unfold zd_v
    rw [eK1, z_up_n (by decide), eK, z_up_j]
    by_cases q : j = b.toNatClampNeg
    · rw [if_pos q, if_pos q]
      exact decide_eq_true ho
    · rw [if_neg q, if_neg q]
      exact hS j
  · show _ = (zd_F I k).2.2 - min (zd_F I k).2.2 (zd_N I b.toNatClampNeg)
    rw [hl1, hv, hl]
    rfl
theorem zd_f_c {B N D0 D1 : Nat → Int} {n : Nat} {l0 : Int} (h : ∀ j, j < n → D1 j = D0 j) : ∀ k : Nat, (∀ j, j < n → (zd_f B N n D1 l0 k).1 j = (zd_f B N n D0 l0 k).1 j) ∧ (zd_f B N n D1 l0 k).2 = (zd_f B N n D0 l0 k).2
  | 0 => ⟨h, rfl⟩
  | k + 1 => by
    obtain ⟨h1, h2⟩ := zd_f_c (B := B) (N := N) (l0 := l0) h k
    by_cases q : zd_b B (zd_f B N n D0 l0 k).2.1 n = -1
    · rw [zd_f_n q, zd_f_n (by rw [h2]; exact q)]
      exact ⟨h1, h2⟩
    · rw [zd_f_y rfl q, zd_f_y (by rw [h2]) q, h2]
      refine ⟨fun j hj => ?_, rfl⟩
      show (if _ then _ else (zd_f B N n D1 l0 k).1 j) = if _ then _ else (zd_f B N n D0 l0 k).1 j
      rw [h1 j hj]
theorem zd_on {x : Int32} (h : 0 ≤ x.toInt) : Int32.ofNat x.toNatClampNeg = x := by
  apply Int32.toInt_inj.mp
  have e := z_clt (x := x) rfl h
  have h2 := Int32.toInt_lt x
  rw [show (Int32.ofNat x.toNatClampNeg).toInt = (x.toNatClampNeg : Int) from nI_toInt (by omega)]
  exact e
/-- UNITS as a number -/
noncomputable def zd_U (c : z_C) (I : z_I) (SS : Nat → List zp_T) (m : Int) (h : Nat) : Int := Classical.epsilon (fun r => zv_UX c I SS (Int32.ofNat h) m (I 0 0).toInt r)
theorem zd_U_e {c : z_C} {I : z_I} {SS : Nat → List zp_T} {m r : Int} {x : Int32} (h0 : 0 ≤ x.toInt) (h : zv_UX c I SS x m (I 0 0).toInt r) : r = zd_U c I SS m x.toNatClampNeg := by
  have e := Classical.epsilon_spec (p := fun r => zv_UX c I SS (Int32.ofNat x.toNatClampNeg) m (I 0 0).toInt r) ⟨r, by rw [zd_on h0]; exact h⟩
  have e2 : zv_UX c I SS x m (I 0 0).toInt (zd_U c I SS m x.toNatClampNeg) := by
    rw [zd_on h0] at e
    unfold zd_U
    rw [zd_on h0]
    exact e
  exact zi_R_u h e2 (fun _ _ => ⟨rfl, rfl⟩) (fun _ _ => rfl)
theorem zv_UX_c {c : z_C} {I K : z_I} {SS : Nat → List zp_T} {x : Int32} {m kn r : Int} (e2 : ∀ a q, 200 ≤ a → K a q = I a q) (e3 : z_nsX K I) (e4 : K 1 11 = I 1 11) (e6 : ∀ j, K 2 j = I 2 j ∧ K 3 j = I 3 j) (h : zv_UX c K SS x m kn r) : zv_UX c I SS x m kn r := by
  have a1 : zi_mo K = zi_mo I := funext fun j => by unfold zi_mo; rw [e2 _ _ (by omega)]
  have a2 : zi_td K = zi_td I := funext fun j => by unfold zi_td; rw [e2 _ _ (by omega)]
  have a3 : zv_AU K x m kn = zv_AU I x m kn := by
    unfold zv_AU
    rw [e4, z_kx_c e3, (e6 _).1, (e6 _).2]
  unfold zv_UX at *
  rw [a1, a2, a3] at h
  exact h
/-- the deal -/
noncomputable def zd_D (U B N : Nat → Int) (n : Nat) (way : Int) (h : Nat) : Int := if way = 1 then zd_S U n / (n : Int) else if way = 2 then (zd_f B N n U (zd_S U n) n).1 h else U h
theorem zd_D_1 {U B N : Nat → Int} {n h : Nat} {way : Int} (q : way = 1) : zd_D U B N n way h = zd_S U n / (n : Int) := if_pos q
theorem zd_D_2 {U B N : Nat → Int} {n h : Nat} {way : Int} (q : way = 2) : zd_D U B N n way h = (zd_f B N n U (zd_S U n) n).1 h := by
  unfold zd_D
  rw [if_neg (by omega), if_pos q]
theorem zd_D_0 {U B N : Nat → Int} {n h : Nat} {way : Int} (q : ¬ way = 1) (q2 : ¬ way = 2) : zd_D U B N n way h = U h := by
  unfold zd_D
  rw [if_neg q, if_neg q2]
/-- how many stay -/
noncomputable def zd_C (D N : Nat → Int) : Nat → Int
  | 0 => 0
  | n + 1 => zd_C D N n + if N n ≤ D n then 1 else 0
theorem zd_C_y {D N : Nat → Int} {n : Nat} (h : N n ≤ D n) : zd_C D N (n + 1) = zd_C D N n + 1 := by rw [zd_C, if_pos h]
theorem zd_C_n {D N : Nat → Int} {n : Nat} (h : ¬ N n ≤ D n) : zd_C D N (n + 1) = zd_C D N n := by rw [zd_C, if_neg h, Int.add_zero]
theorem zd_C_c {D N D1 N1 : Nat → Int} : ∀ n : Nat, (∀ j, j < n → D1 j = D j ∧ N1 j = N j) → zd_C D1 N1 n = zd_C D N n
  | 0, _ => rfl
  | n + 1, h => by rw [zd_C, zd_C, zd_C_c n (fun j hj => h j (by omega)), (h n (Nat.lt_succ_self n)).1, (h n (Nat.lt_succ_self n)).2]
theorem zd_X_c {c : z_C} {I K : z_I} {SS : Nat → List zp_T} (h : zv_W c I SS) (e1 : K 21 2 = I 21 2) (e2 : ∀ a q, 200 ≤ a → K a q = I a q) (e3 : z_nsX K I) (e4 : K 1 11 = I 1 11) (e5 : K 1 5 = I 1 5) (e6 : ∀ j, K 2 j = I 2 j ∧ K 3 j = I 3 j) : zv_W c K SS := by
  obtain ⟨h1, h2, h3, h4, h5⟩ := h
  refine ⟨by rw [e1]; exact h1, fun j hj => by rw [e2 _ _ (by omega)]; exact h2 j hj, fun k hk => zv_ss_c (h3 k hk) e2, fun a d kn => ?_, fun j hj => ?_⟩
  · rw [e4, z_kx_c e3]
    exact h4 a d kn
  · rw [(e6 j).1, (e6 j).2]
    exact h5 j (by rw [e5] at hj; exact hj)
/-! the reference's deals -/
noncomputable def zd_w (I : z_I) (j : Nat) : Int := (I 69 j).toInt
noncomputable def zd_i (I : z_I) (j : Nat) : Bool := decide (¬ (I 70 j).toInt = 0)
noncomputable def zd_BM (I : z_I) (j : Nat) : Int := (I 4 j).toInt
noncomputable def zd_NM (I : z_I) (j : Nat) : Int := (I 5 j).toInt
noncomputable def zd_V (I : z_I) (RS : Nat → List zm_row) (m : Int) (h : Nat) : Int := Classical.epsilon (fun r => zw_UX I RS (Int32.ofNat h) m (I 0 0).toInt r)
theorem zd_V_e {I : z_I} {RS : Nat → List zm_row} {m r : Int} {x : Int32} (h0 : 0 ≤ x.toInt) (h : zw_UX I RS x m (I 0 0).toInt r) : r = zd_V I RS m x.toNatClampNeg := by
  have e := Classical.epsilon_spec (p := fun r => zw_UX I RS (Int32.ofNat x.toNatClampNeg) m (I 0 0).toInt r) ⟨r, by rw [zd_on h0]; exact h⟩
  have e2 : zw_UX I RS x m (I 0 0).toInt (zd_V I RS m x.toNatClampNeg) := by
    rw [zd_on h0] at e
    unfold zd_V
    rw [zd_on h0]
    exact e
  exact zi_R_u h e2 (fun _ _ => ⟨rfl, rfl⟩) (fun _ _ => rfl)
theorem zw_UX_b {I : z_I} {RS : Nat → List zm_row} {h : Int32} {m kn r : Int} (hU : zw_UX I RS h m kn r) : 0 ≤ r ∧ r ≤ 99 := by
  obtain ⟨b, _, ⟨_, q⟩ | ⟨k, _, _, q⟩⟩ := hU
  · omega
  · rw [q]
    exact zv_un_b
theorem zw_UX_c {I K : z_I} {RS : Nat → List zm_row} {x : Int32} {m kn r : Int} (e1 : K 0 13 = I 0 13) (e2 : ∀ j, K 13 j = I 13 j ∧ K 14 j = I 14 j) (e3 : z_nsM K I) (e4 : K 0 2 = I 0 2) (e6 : ∀ j, K 1 j = I 1 j ∧ K 2 j = I 2 j) (h : zw_UX K RS x m kn r) : zw_UX I RS x m kn r := by
  have a1 : zi_km K = zi_km I := funext fun j => by unfold zi_km; rw [(e2 j).1]
  have a2 : zi_kt K = zi_kt I := funext fun j => by unfold zi_kt; rw [(e2 j).2]
  have a3 : zw_AU K x m kn = zw_AU I x m kn := by
    unfold zw_AU
    rw [e4, z_kmr_c e3, (e6 _).1, (e6 _).2]
  unfold zw_UX at *
  rw [a1, a2, a3, e1] at h
  exact h
theorem zd_W_c {I K : z_I} {FF : Nat → Nat} {RS : Nat → List zm_row} (h : zw_W I FF RS) (e1 : K 0 13 = I 0 13) (eT : ∀ (t F : Nat) (R : List zm_row), zw_T I t F R → zw_T K t F R) (e3 : z_nsM K I) (e4 : K 0 2 = I 0 2) (e5 : K 0 1 = I 0 1) (e6 : ∀ j, K 1 j = I 1 j ∧ K 2 j = I 2 j) : zw_W K FF RS := by
  obtain ⟨h1, h2, h3⟩ := h
  refine ⟨fun t ht => eT _ _ _ (h1 t (by rw [e1] at ht; exact ht)), fun a d kn => ?_, fun j hj => ?_⟩
  · rw [e4, z_kmr_c e3]
    exact h2 a d kn
  · rw [(e6 j).1, (e6 j).2]
    exact h3 j (by rw [e5] at hj; exact hj)
/-- one turn of the reference's sale -/
theorem zd_stepM {B N D0 : Nat → Int} {n k : Nat} {l0 : Int} {In K K1 : z_I} {b o v le le1 : Int32} (hU : ∀ j, j < n → (In 69 j).toInt = (zd_f B N n D0 l0 k).1 j) (hS : ∀ j, j < n → zd_i In j = (zd_f B N n D0 l0 k).2.1 j) (hl : le.toInt = (zd_f B N n D0 l0 k).2.2) (hb : b.toInt = zd_b B (zd_i In) n) (h0 : 0 ≤ b.toInt) (eK : K = z_up In 70 b.toNatClampNeg o) (ho : ¬ o.toInt = 0) (eK1 : K1 = z_up K 69 b.toNatClampNeg v) (hv : v.toInt = min le.toInt (N b.toNatClampNeg)) (hl1 : le1.toInt = le.toInt - v.toInt) : (∀ j, j < n → (K1 69 j).toInt = (zd_f B N n D0 l0 (k + 1)).1 j) ∧ (∀ j, j < n → zd_i K1 j = (zd_f B N n D0 l0 (k + 1)).2.1 j) ∧ le1.toInt = (zd_f B N n D0 l0 (k + 1)).2.2 := by
  have hb2 : zd_b B (zd_f B N n D0 l0 k).2.1 n = b.toInt := by
    rw [hb]
    exact zd_b_c n (fun j hj => ⟨rfl, (hS j hj).symm⟩)
  have e := zd_f_y hb2 (by omega)
  have eb : b.toInt.toNat = b.toNatClampNeg := rfl
  rw [e, eb]
  refine ⟨fun j hj => ?_, fun j hj => ?_, ?_⟩
  · rw [eK1, z_up_j, eK, z_up_n (by decide)]
    show _ = if j = b.toNatClampNeg then min (zd_f B N n D0 l0 k).2.2 (N b.toNatClampNeg) else (zd_f B N n D0 l0 k).1 j
    by_cases q : j = b.toNatClampNeg
    · rw [if_pos q, if_pos q, hv, hl]
    · rw [if_neg q, if_neg q]
      exact hU j hj
  · show zd_i K1 j = if j = b.toNatClampNeg then true else (zd_f B N n D0 l0 k).2.1 j
    unfold zd_i
    rw [eK1, z_up_n (by decide), eK, z_up_j]
    by_cases q : j = b.toNatClampNeg
    · rw [if_pos q, if_pos q]
      exact decide_eq_true ho
    · rw [if_neg q, if_neg q]
      exact hS j hj
  · show _ = (zd_f B N n D0 l0 k).2.2 - min (zd_f B N n D0 l0 k).2.2 (N b.toNatClampNeg)
    rw [hl1, hv, hl]
/-! both deals are equal -/
theorem zd_f_bn {B N B1 N1 D0 : Nat → Int} {n : Nat} {l0 : Int} (h : ∀ j, j < n → B1 j = B j ∧ N1 j = N j) : ∀ k : Nat, zd_f B1 N1 n D0 l0 k = zd_f B N n D0 l0 k
  | 0 => rfl
  | k + 1 => by
    have ih := zd_f_bn h k
    have eb : zd_b B1 (zd_f B1 N1 n D0 l0 k).2.1 n = zd_b B (zd_f B N n D0 l0 k).2.1 n := by
      rw [ih]
      exact zd_b_c n (fun j hj => ⟨(h j hj).1, rfl⟩)
    have hb := zd_b_b (B := B) (sv := (zd_f B N n D0 l0 k).2.1) n
    by_cases q : zd_b B (zd_f B N n D0 l0 k).2.1 n = -1
    · rw [zd_f_n (eb.trans q), zd_f_n q, ih]
    · have e1 := zd_f_y eb q
      have e2 := zd_f_y (B := B) (N := N) (D0 := D0) (n := n) (k := k) (l0 := l0) rfl q
      rw [e1, e2, ih, (h (zd_b B (zd_f B N n D0 l0 k).2.1 n).toNat (by omega)).2]
theorem zd_D_c {U V B N B1 N1 : Nat → Int} {n : Nat} {way : Int} (hU : ∀ j, j < n → V j = U j) (hB : ∀ j, j < n → B1 j = B j ∧ N1 j = N j) : ∀ j, j < n → zd_D V B1 N1 n way j = zd_D U B N n way j := fun j hj => by
  unfold zd_D
  rw [zd_S_c n hU, zd_f_bn hB, (zd_f_c hU n).1 j hj, hU j hj]
theorem zd_UV {c : z_C} {Ix Im : z_I} {RS : Nat → List zm_row} {FF : Nat → Nat} {h : Int32} {m kn r : Int} (hCH : ∀ k, k < c.2.1 → zw_T Im k (FF k) (RS k) ∧ zv_ss c Ix k ((RS k).map Prod.fst) ∧ zi_mo Ix k = zi_km Im k ∧ zi_td Ix k = zi_kt Im k ∧ 0 ≤ zi_mo Ix k) (hn : (Im 0 13).toNatClampNeg = c.2.1) (hA : zv_AU Ix h m kn = zw_AU Im h m kn) : zv_UX c Ix (fun k => (RS k).map Prod.fst) h m kn r ↔ zw_UX Im RS h m kn r := by
  have hc : ∀ j, j < c.2.1 → zi_mo Ix j = zi_km Im j ∧ zi_td Ix j = zi_kt Im j := fun j hj => ⟨(hCH j hj).2.2.1, (hCH j hj).2.2.2.1⟩
  unfold zv_UX zw_UX zi_R
  rw [hA, hn]
  constructor
  · intro h9
    obtain ⟨b, hb, q⟩ := h9
    exact ⟨b, zi_B_c (fun j hj => ⟨(hc j hj).1.symm, (hc j hj).2.symm⟩) hb, q⟩
  · intro h9
    obtain ⟨b, hb, q⟩ := h9
    exact ⟨b, zi_B_c hc hb, q⟩
theorem zd_HM {Ix Im : z_I} (h : z_RH Ix Im) (eN : (Im 0 1).toInt = (Ix 1 5).toInt) : ∀ j : Nat, (j : Int) < (Im 0 1).toInt → 0 ≤ (Im 5 j).toInt ∧ (Im 5 j).toInt ≤ 99 := fun j hj => by
  obtain ⟨⟨_, _, _, _, e⟩, _, _, _, _, r⟩ := h j (by omega)
  rw [← e]
  exact r
theorem zd_VU {c : z_C} {Ix Im : z_I} {RS : Nat → List zm_row} {FF : Nat → Nat} {m : Int} {j : Nat} (hCH : ∀ k, k < c.2.1 → zw_T Im k (FF k) (RS k) ∧ zv_ss c Ix k ((RS k).map Prod.fst) ∧ zi_mo Ix k = zi_km Im k ∧ zi_td Ix k = zi_kt Im k ∧ 0 ≤ zi_mo Ix k) (hn : (Im 0 13).toNatClampNeg = c.2.1) (hRH : z_RH Ix Im) (hRN : z_RN Ix Im) (hN : (Ix 1 11).toInt = (Im 0 2).toInt) (h0 : 0 ≤ (Ix 1 11).toInt) (hT : (Im 0 0).toInt = (Ix 0 0).toInt) (hk : (Ix 0 0).toInt ≤ 719) (hj : (j : Int) < (Ix 1 5).toInt) (hb : (Ix 1 5).toInt ≤ 30) : zd_V Im RS m j = zd_U c Ix (fun k => (RS k).map Prod.fst) m j := by
  have ej : (Int32.ofNat j).toInt = (j : Int) := nI_toInt (by omega)
  have e : (fun r => zw_UX Im RS (Int32.ofNat j) m (Ix 0 0).toInt r) = (fun r => zv_UX c Ix (fun k => (RS k).map Prod.fst) (Int32.ofNat j) m (Ix 0 0).toInt r) := funext fun r => propext (zd_UV hCH hn (z_UA hRH hRN hN h0 hk (by omega))).symm
  unfold zd_V zd_U
  rw [hT]
  exact congrArg (fun p => Classical.epsilon p) e
theorem zd_DE {c : z_C} {Ix Im : z_I} {RS : Nat → List zm_row} {FF : Nat → Nat} {m way : Int} (hCH : ∀ k, k < c.2.1 → zw_T Im k (FF k) (RS k) ∧ zv_ss c Ix k ((RS k).map Prod.fst) ∧ zi_mo Ix k = zi_km Im k ∧ zi_td Ix k = zi_kt Im k ∧ 0 ≤ zi_mo Ix k) (hn : (Im 0 13).toNatClampNeg = c.2.1) (hRH : z_RH Ix Im) (hRN : z_RN Ix Im) (hN : (Ix 1 11).toInt = (Im 0 2).toInt) (h0 : 0 ≤ (Ix 1 11).toInt) (hT : (Im 0 0).toInt = (Ix 0 0).toInt) (hk : (Ix 0 0).toInt ≤ 719) (hH : (Im 0 1).toInt = (Ix 1 5).toInt) (hb : 0 ≤ (Ix 1 5).toInt ∧ (Ix 1 5).toInt ≤ 30) : (Im 0 1).toNatClampNeg = (Ix 1 5).toNatClampNeg ∧ ∀ j : Nat, j < (Ix 1 5).toNatClampNeg → zd_D (zd_V Im RS m) (zd_BM Im) (zd_NM Im) (Ix 1 5).toNatClampNeg way j = zd_D (zd_U c Ix (fun k => (RS k).map Prod.fst) m) (zd_B Ix) (zd_N Ix) (Ix 1 5).toNatClampNeg way j ∧ zd_NM Im j = zd_N Ix j := by
  have c1 := z_clt (x := Ix 1 5) rfl hb.1
  have hR : ∀ j : Nat, j < (Ix 1 5).toNatClampNeg → zd_BM Im j = zd_B Ix j ∧ zd_NM Im j = zd_N Ix j := fun j hj => by
    obtain ⟨⟨_, _, _, e4, e5⟩, _⟩ := hRH j (by omega)
    unfold zd_BM zd_B zd_NM zd_N
    rw [e4, e5]
    exact ⟨rfl, rfl⟩
  refine ⟨congrArg Int.toNat hH, fun j hj => ⟨?_, (hR j hj).2⟩⟩
  exact zd_D_c (fun i hi => zd_VU hCH hn hRH hRN hN h0 hT hk (by omega) hb.2) hR j hj
set_option maxHeartbeats 8000000 in
set_option maxRecDepth 100000 in
theorem sx_X1_together_d (l : Launch) (G : z_G) (ad : Nat → Nat) (c : z_C) (I : z_I) (hD : z_iD I) (hU : ∀ j : Nat, (j : Int) < (I 72 2).toInt → 0 ≤ (I 73 j).toInt ∧ (I 73 j).toInt ≤ 99) : z_M l yX1_together wsX1_together { frames := 1, cells := 0, slots := 0, locals := 12 } [.ref (ad 72)] G (shC c, ad, I, JX, PC c ad) (fun r u1 => u1 = (shC c, ad, I, JX, PC c ad) ∧ (r.toInt = zd_S (zd_u I) (I 72 2).toNatClampNeg ∧ 0 ≤ r.toInt ∧ r.toInt ≤ 2970)) 0 0 := by
  intro sz
  refine z_headQ (cc := cX1_together) (maxL := 3) (ret := (some .int)) (by decide) rfl (Nat.le_of_ble_eq_true rfl) ?_
  intro p e s m below meth c0 ls hIn hK hsz hW hl
  obtain ⟨hx, hb, hr, hml, hown, hts, hlocks, hname⟩ := hIn
  subst hsz
  have hown : s.vm.findClass RX1 = some m.cls := hown
  have hA : ∀ q : Nat, s.heap.size ≤ q → z_A (shC c, ad, I, JX, PC c ad) s.heap.size q := fun q h => Or.inr h
  generalize hAe : z_A (shC c, ad, I, JX, PC c ad) s.heap.size = A at *
  have hS : va_S A s.heap s.heap [] := va_S.rf
  have hl : lv_has ls 3 [(0, .ref (ad 72))] := hl
  refine lv_iconst (v := 0) hx hb dX1_together_0 (by decide) ?_
  refine lv_istore_n (lv' := [(1, .int 0), (0, .ref (ad 72))]) hx hb dX1_together_1 rfl hl (by decide) rfl (fun ls hl => ?_)
  refine lv_iconst (v := 0) hx hb dX1_together_2 (by decide) ?_
  refine lv_istore_n (lv' := [(2, .int 0), (1, .int 0), (0, .ref (ad 72))]) hx hb dX1_together_3 rfl hl (by decide) rfl (fun ls hl => ?_)
  have lp1 : ∀ (f : Nat) (y2 : Int32) (y3 : Int32) (H : Heap) (locs : List Loc) (ls : Array Slot), (2147483647 < y2.toInt + (f : Int)) → (0 ≤ y2.toInt) → (0 ≤ y3.toInt) → (y3.toInt ≤ 2970) → (y3.toInt = zd_S (zd_u I) y2.toNatClampNeg ∧ y3.toInt ≤ 99 * y2.toInt ∧ y2.toInt ≤ (I 72 2).toInt) → z_W G A (shC c, ad, I, JX, PC c ad) H → va_S A s.heap H locs → lv_has ls 3 [(2, .int y2), (1, .int y3), (0, .ref (ad 72))] → W p l e (headSpec wsX1_together { frames := 1, cells := 0, slots := 0, locals := 12 }).room s m ([.ref (ad 72)] : List Value).toArray below meth c0 H locs 0 0 (MQ below (va_Qi (fun (r : Int32) (u1 : z_U) => u1 = (shC c, ad, I, JX, PC c ad) ∧ (r.toInt = zd_S (zd_u I) (I 72 2).toNatClampNeg ∧ 0 ≤ r.toInt ∧ r.toInt ≤ 2970)) (z_B G A) A) ([.ref (ad 72)] : List Value).toArray s 0 0 A) (F0 m 4 ls []) := by
    intro f
    induction f with
    | zero => intro y2 y3 H locs ls lp1m lp1l2 lp1l1 lp1u1 lp1B hW hS hl; exact absurd lp1m (by have := Int32.toInt_lt y2; have := Int32.le_toInt y2; omega)
    | succ f lp1ih =>
      intro y2 y3 H locs ls lp1m lp1l2 lp1l1 lp1u1 lp1B hW hS hl
      refine lv_iload_n hx hb dX1_together_4 rfl (lv_at hl 0 rfl) ?_
      refine lv_aload_n hx hb dX1_together_5 rfl (lv_at hl 2 rfl) ?_
      have r4 : 0 ≤ (I 72 2).toInt ∧ (I 72 2).toInt ≤ 30 := hD
      refine z_get (T := TX1) (N := 3) (ci := 1) (i := 72) (v := .int (I 72 2)) hx hb hts zj_X1_together_X1 hown hK hW rfl rfl 2 (by decide) (hts (.fieldLink RX1 18 "PetrolBoard$Deal" "number" "I") (me_s (me_l (List.mem_of_getElem? (i := 0) rfl)))) (fun _ h => h) rfl dX1_together_6 ?_
      refine lv_icmp_ge (tgt := 36) hx hb dX1_together_9 (by decide) (fun c5 => ?_) (fun c5 => ?_)
      · have g6 := z_f_ge rfl rfl c5
        have b7 := Int32.toInt_lt y2
        refine lv_iload_n hx hb dX1_together_36 rfl (lv_at hl 1 rfl) ?_
        exact z_iret hx hb hr hK hS (Nat.le_of_ble_eq_true rfl) (Nat.le_of_ble_eq_true rfl) hlocks dX1_together_37 (shC c, ad, I, JX, PC c ad) hW ⟨rfl, (by have q1 := z_clt (x := y2) rfl (by omega); have q2 := z_clt (x := (I 72 2)) rfl (by omega); rw [show (I 72 2).toNatClampNeg = y2.toNatClampNeg by omega]; exact ⟨lp1B.1, by omega, by omega⟩)⟩
      · have g8 := z_f_nge rfl rfl c5
        have b9 := Int32.toInt_lt y2
        refine lv_iload_n hx hb dX1_together_12 rfl (lv_at hl 0 rfl) ?_
        refine lv_aload_n hx hb dX1_together_13 rfl (lv_at hl 2 rfl) ?_
        refine z_get (T := TX1) (N := 3) (ci := 1) (i := 72) (v := .ref (ad 73)) hx hb hts zj_X1_together_X1 hown hK hW rfl rfl 0 (by decide) (hts (.fieldLink RX1 9 "PetrolBoard$Deal" "units" "[I") (me_s (me_l (List.mem_of_getElem? (i := 1) rfl)))) (fun _ h => h) rfl dX1_together_14 ?_
        refine z_alen (i := 73) (v := 30) hx hb hK hW rfl (by simp [z_tys]) (by rfl) dX1_together_17 ?_
        refine lv_icmp_ge (tgt := 36) hx hb dX1_together_18 (by decide) (fun c10 => (by have g := z_f_ge rfl z_l30 c10; omega)) (fun c10 => ?_)
        have g11 := z_f_nge rfl z_l30 c10
        refine lv_iload_n hx hb dX1_together_21 rfl (lv_at hl 1 rfl) ?_
        refine lv_aload_n hx hb dX1_together_22 rfl (lv_at hl 2 rfl) ?_
        refine z_get (T := TX1) (N := 3) (ci := 1) (i := 72) (v := .ref (ad 73)) hx hb hts zj_X1_together_X1 hown hK hW rfl rfl 0 (by decide) (hts (.fieldLink RX1 9 "PetrolBoard$Deal" "units" "[I") (me_s (me_l (List.mem_of_getElem? (i := 1) rfl)))) (fun _ h => h) rfl dX1_together_23 ?_
        refine lv_iload_n hx hb dX1_together_26 rfl (lv_at hl 0 rfl) ?_
        refine z_iald (i := 73) hx hb hK hW rfl (z_ix rfl (by omega) (by omega)) dX1_together_27 ?_
        refine lv_topi (fun x12 ex12 => ?_)
        have hv13 : (I 73 y2.toNatClampNeg).toInt = x12.toInt := by rw [ex12]
        have hz14 := z_clt (x := y2) rfl (by omega)
        have hu15 := hU y2.toNatClampNeg (by omega)
        refine lv_iadd hx hb dX1_together_28 ?_
        refine lv_topi (fun x16 ex16 => ?_)
        have tx16 : x16.toInt = y3.toInt + x12.toInt := z_tadd ex16 rfl rfl (by omega) (by omega)
        refine lv_istore_n (lv' := [(1, .int x16), (2, .int y2), (0, .ref (ad 72))]) hx hb dX1_together_29 rfl hl (by decide) rfl (fun ls hl => ?_)
        obtain ⟨x17, ex17⟩ : ∃ y : Int32, y = y2 + 1 := ⟨_, rfl⟩
        have tx17 : x17.toInt = y2.toInt + 1 := z_tadd ex17 rfl z_l1 (by omega) (by omega)
        refine lv_iinc (v := x17) (lv' := [(2, .int x17), (1, .int x16), (0, .ref (ad 72))]) hx hb dX1_together_30 hl (k := 1) rfl (by rw [ex17]; rfl) (by decide) rfl (fun ls hl => ?_)
        refine lv_goto (tgt := 4) hx hb dX1_together_33 (by decide) ?_
        exact lp1ih x17 x16 _ _ _ (by omega) (by omega) (by omega) (by omega) ⟨by rw [show x17.toNatClampNeg = y2.toNatClampNeg + 1 from z_cln (by omega) (by omega), zd_S_s, ← lp1B.1]; unfold zd_u; omega, by omega, by omega⟩ hW hS (lv_sub hl [0, 1, 2] rfl)
  exact lp1 4294967296 (0) (0) _ _ _ (z_m0u _) (by rw [z_l0]; omega) (by rw [z_l0]; omega) (by rw [z_l0]; omega) ⟨by rw [show (0 : Int32).toNatClampNeg = 0 by decide]; rfl, by have q0 := z_l0; omega, by have q0 := z_l0; omega⟩ hW hS (lv_sub hl [0, 1, 2] rfl)
set_option maxHeartbeats 8000000 in
set_option maxRecDepth 100000 in
theorem sx_X1_bestBidder_d (l : Launch) (G : z_G) (ad : Nat → Nat) (c : z_C) (I : z_I) (hD : z_iD I) (hH : z_iH I) (hn : (I 72 2).toInt ≤ (I 1 5).toInt) : z_M l yX1_bestBidder wsX1_bestBidder { frames := 2, cells := 0, slots := 0, locals := 33 } [.ref (ad 72), .ref (ad 1)] G (shC c, ad, I, JX, PC c ad) (fun r u1 => u1 = (shC c, ad, I, JX, PC c ad) ∧ (r.toInt = zd_b (zd_B I) (zd_v I) (I 72 2).toNatClampNeg)) 0 0 := by
  intro sz
  refine z_headQ (cc := cX1_bestBidder) (maxL := 4) (ret := (some .int)) (by decide) rfl (Nat.le_of_ble_eq_true rfl) ?_
  intro p e s m below meth c0 ls hIn hK hsz hW hl
  obtain ⟨hx, hb, hr, hml, hown, hts, hlocks, hname⟩ := hIn
  subst hsz
  have hown : s.vm.findClass RX1 = some m.cls := hown
  have hA : ∀ q : Nat, s.heap.size ≤ q → z_A (shC c, ad, I, JX, PC c ad) s.heap.size q := fun q h => Or.inr h
  generalize hAe : z_A (shC c, ad, I, JX, PC c ad) s.heap.size = A at *
  have hS : va_S A s.heap s.heap [] := va_S.rf
  have hl : lv_has ls 4 [(0, .ref (ad 72)), (1, .ref (ad 1))] := hl
  refine lv_iconst (v := (-1)) hx hb dX1_bestBidder_0 (by decide) ?_
  refine lv_istore_n (lv' := [(2, .int (-1)), (0, .ref (ad 72)), (1, .ref (ad 1))]) hx hb dX1_bestBidder_1 rfl hl (by decide) rfl (fun ls hl => ?_)
  refine lv_iconst (v := 0) hx hb dX1_bestBidder_2 (by decide) ?_
  refine lv_istore_n (lv' := [(3, .int 0), (2, .int (-1)), (0, .ref (ad 72)), (1, .ref (ad 1))]) hx hb dX1_bestBidder_3 rfl hl (by decide) rfl (fun ls hl => ?_)
  have lp1 : ∀ (f : Nat) (y2 : Int32) (y3 : Int32) (H : Heap) (locs : List Loc) (ls : Array Slot), (2147483647 < y2.toInt + (f : Int)) → (0 ≤ y2.toInt) → ((-1) ≤ y3.toInt) → (y3.toInt ≤ 29) → (y3.toInt = zd_b (zd_B I) (zd_v I) y2.toNatClampNeg ∧ y2.toInt ≤ (I 72 2).toInt) → z_W G A (shC c, ad, I, JX, PC c ad) H → va_S A s.heap H locs → lv_has ls 4 [(3, .int y2), (2, .int y3), (0, .ref (ad 72)), (1, .ref (ad 1))] → W p l e (headSpec wsX1_bestBidder { frames := 2, cells := 0, slots := 0, locals := 33 }).room s m ([.ref (ad 72), .ref (ad 1)] : List Value).toArray below meth c0 H locs 0 0 (MQ below (va_Qi (fun (r : Int32) (u1 : z_U) => u1 = (shC c, ad, I, JX, PC c ad) ∧ (r.toInt = zd_b (zd_B I) (zd_v I) (I 72 2).toNatClampNeg)) (z_B G A) A) ([.ref (ad 72), .ref (ad 1)] : List Value).toArray s 0 0 A) (F0 m 4 ls []) := by
    intro f
    induction f with
    | zero => intro y2 y3 H locs ls lp1m lp1l3 lp1l2 lp1u2 lp1B hW hS hl; exact absurd lp1m (by have := Int32.toInt_lt y2; have := Int32.le_toInt y2; omega)
    | succ f lp1ih =>
      intro y2 y3 H locs ls lp1m lp1l3 lp1l2 lp1u2 lp1B hW hS hl
      refine lv_iload_n hx hb dX1_bestBidder_4 rfl (lv_at hl 0 rfl) ?_
      refine lv_aload_n hx hb dX1_bestBidder_5 rfl (lv_at hl 2 rfl) ?_
      have r4 : 0 ≤ (I 72 2).toInt ∧ (I 72 2).toInt ≤ 30 := hD
      refine z_get (T := TX1) (N := 3) (ci := 1) (i := 72) (v := .int (I 72 2)) hx hb hts zj_X1_bestBidder_X1 hown hK hW rfl rfl 2 (by decide) (hts (.fieldLink RX1 18 "PetrolBoard$Deal" "number" "I") (me_s (me_l (me_l (List.mem_of_getElem? (i := 0) rfl))))) (fun _ h => h) rfl dX1_bestBidder_6 ?_
      refine lv_icmp_ge (tgt := 57) hx hb dX1_bestBidder_9 (by decide) (fun c5 => ?_) (fun c5 => ?_)
      · have g6 := z_f_ge rfl rfl c5
        have b7 := Int32.toInt_lt y2
        refine lv_iload_n hx hb dX1_bestBidder_57 rfl (lv_at hl 1 rfl) ?_
        exact z_iret hx hb hr hK hS (Nat.le_of_ble_eq_true rfl) (Nat.le_of_ble_eq_true rfl) hlocks dX1_bestBidder_58 (shC c, ad, I, JX, PC c ad) hW ⟨rfl, (by have q1 := z_clt (x := y2) rfl (by omega); have q2 := z_clt (x := (I 72 2)) rfl (by omega); rw [show (I 72 2).toNatClampNeg = y2.toNatClampNeg by omega]; exact lp1B.1)⟩
      · have g8 := z_f_nge rfl rfl c5
        have b9 := Int32.toInt_lt y2
        refine lv_aload_n hx hb dX1_bestBidder_12 rfl (lv_at hl 3 rfl) ?_
        refine lv_iload_n hx hb dX1_bestBidder_13 rfl (lv_at hl 0 rfl) ?_
        refine z_ci hW hS hA (va_runV (As := [.int y2]) (rest := []) ⟨hx, hb, hml, hown, hts⟩ (sx_X2_has_e l G ad c I ⟨(by show 0 ≤ (I 1 5).toInt ∧ (I 1 5).toInt ≤ 30; exact hH.1), (by show 0 ≤ (I 1 11).toInt ∧ (I 1 11).toInt ≤ 200; exact hH.2)⟩ y2 _) (cwV 1 hts gX1_bestBidder_X2_has rfl rfl rfl (by decide +kernel) ⟨Nat.le_of_ble_eq_true rfl, Nat.le_of_ble_eq_true rfl⟩) (z_preV (i := 1) hK hW rfl rfl) rfl rfl hl.1 rfl (lv_room (Nat.le_of_ble_eq_true rfl)) dX1_bestBidder_14 ⟨Nat.le_of_ble_eq_true rfl, Nat.le_of_ble_eq_true rfl⟩) (fun r u1 H locs hp hW hS => ?_)
        obtain ⟨e9, hp⟩ := hp
        rw [e9] at hW
        rcases hp with ⟨rfl, h11⟩ | ⟨rfl, h11⟩
        · have h12 := h11
          have r13 : 0 ≤ (I 1 5).toInt ∧ (I 1 5).toInt ≤ 30 := hH.1
          refine lv_if_eq (tgt := 57) hx hb dX1_bestBidder_17 (by decide) (fun c14 => absurd c14 (by decide)) (fun c14 => ?_)
          refine lv_aload_n hx hb dX1_bestBidder_20 rfl (lv_at hl 2 rfl) ?_
          refine z_get (T := TX1) (N := 3) (ci := 1) (i := 72) (v := .ref (ad 74)) hx hb hts zj_X1_bestBidder_X1 hown hK hW rfl rfl 1 (by decide) (hts (.fieldLink RX1 15 "PetrolBoard$Deal" "served" "[I") (me_s (me_l (me_l (List.mem_of_getElem? (i := 1) rfl))))) (fun _ h => h) rfl dX1_bestBidder_21 ?_
          refine lv_iload_n hx hb dX1_bestBidder_24 rfl (lv_at hl 0 rfl) ?_
          refine z_iald (i := 74) hx hb hK hW rfl (z_ix rfl (by omega) (by omega)) dX1_bestBidder_25 ?_
          refine lv_topi (fun x15 ex15 => ?_)
          have hv16 : (I 74 y2.toNatClampNeg).toInt = x15.toInt := by rw [ex15]
          have hz17 := z_clt (x := y2) rfl (by omega)
          refine lv_if_ne (tgt := 51) hx hb dX1_bestBidder_26 (by decide) (fun c18 => ?_) (fun c18 => ?_)
          · have g19 := z_f_ne rfl z_l0 c18
            have b20 := Int32.toInt_lt x15
            obtain ⟨x21, ex21⟩ : ∃ y : Int32, y = y2 + 1 := ⟨_, rfl⟩
            have tx21 : x21.toInt = y2.toInt + 1 := z_tadd ex21 rfl z_l1 (by omega) (by omega)
            refine lv_iinc (v := x21) (lv' := [(3, .int x21), (2, .int y3), (0, .ref (ad 72)), (1, .ref (ad 1))]) hx hb dX1_bestBidder_51 hl (k := 0) rfl (by rw [ex21]; rfl) (by decide) rfl (fun ls hl => ?_)
            refine lv_goto (tgt := 4) hx hb dX1_bestBidder_54 (by decide) ?_
            exact lp1ih x21 y3 _ _ _ (by omega) (by omega) (by omega) (by omega) (by have c9 := z_clt (x := y2) rfl (by omega); have bd := zd_b_b (B := zd_B I) (sv := zd_v I) y2.toNatClampNeg; have s9 : zd_v I y2.toNatClampNeg = decide (¬ x15.toInt = 0) := (by unfold zd_v; rw [hv16]); exact ⟨by rw [(show x21.toNatClampNeg = y2.toNatClampNeg + 1 from z_cln (by omega) (by omega)), zd_b_n (fun q => absurd (q.1.symm.trans s9) (by rw [decide_eq_true (by omega)]; decide))]; exact lp1B.1, by omega⟩) hW hS (lv_sub hl [0, 1, 2, 3] rfl)
          · have g22 := z_f_eq rfl z_l0 c18
            have b23 := Int32.toInt_lt x15
            refine lv_iload_n hx hb dX1_bestBidder_29 rfl (lv_at hl 1 rfl) ?_
            refine lv_iconst (v := (-1)) hx hb dX1_bestBidder_30 (by decide) ?_
            refine lv_icmp_eq (tgt := 49) hx hb dX1_bestBidder_31 (by decide) (fun c24 => ?_) (fun c24 => ?_)
            · have g25 := z_f_eq rfl z_lm1 c24
              refine lv_iload_n hx hb dX1_bestBidder_49 rfl (lv_at hl 0 rfl) ?_
              refine lv_istore_n (lv' := [(2, .int y2), (3, .int y2), (0, .ref (ad 72)), (1, .ref (ad 1))]) hx hb dX1_bestBidder_50 rfl hl (by decide) rfl (fun ls hl => ?_)
              obtain ⟨x26, ex26⟩ : ∃ y : Int32, y = y2 + 1 := ⟨_, rfl⟩
              have tx26 : x26.toInt = y2.toInt + 1 := z_tadd ex26 rfl z_l1 (by omega) (by omega)
              refine lv_iinc (v := x26) (lv' := [(3, .int x26), (2, .int y2), (0, .ref (ad 72)), (1, .ref (ad 1))]) hx hb dX1_bestBidder_51 hl (k := 1) rfl (by rw [ex26]; rfl) (by decide) rfl (fun ls hl => ?_)
              refine lv_goto (tgt := 4) hx hb dX1_bestBidder_54 (by decide) ?_
              exact lp1ih x26 y2 _ _ _ (by omega) (by omega) (by omega) (by omega) (by have c9 := z_clt (x := y2) rfl (by omega); have bd := zd_b_b (B := zd_B I) (sv := zd_v I) y2.toNatClampNeg; have s9 : zd_v I y2.toNatClampNeg = decide (¬ x15.toInt = 0) := (by unfold zd_v; rw [hv16]); exact ⟨by rw [(show x26.toNatClampNeg = y2.toNatClampNeg + 1 from z_cln (by omega) (by omega)), zd_b_y ⟨s9.trans (decide_eq_false (by omega)), Or.inl (by omega)⟩]; omega, by omega⟩) hW hS (lv_sub hl [0, 1, 2, 3] rfl)
            · have g27 := z_f_ne rfl z_lm1 c24
              refine lv_aload_n hx hb dX1_bestBidder_34 rfl (lv_at hl 3 rfl) ?_
              refine z_get (T := TX2) (N := 12) (ci := 2) (i := 1) (v := .ref (ad 5)) hx hb hts zj_X1_bestBidder_X2 hown hK hW rfl rfl 3 (by decide) (hts (.fieldLink RX1 51 "PetrolBoard$Holders" "bid" "[I") (me_s (me_l (me_l (List.mem_of_getElem? (i := 2) rfl))))) (fun _ h => h) rfl dX1_bestBidder_35 ?_
              refine lv_iload_n hx hb dX1_bestBidder_38 rfl (lv_at hl 0 rfl) ?_
              refine z_iald (i := 5) hx hb hK hW rfl (z_ix rfl (by omega) (by omega)) dX1_bestBidder_39 ?_
              refine lv_topi (fun x28 ex28 => ?_)
              have hv29 : (I 5 y2.toNatClampNeg).toInt = x28.toInt := by rw [ex28]
              have hz30 := z_clt (x := y2) rfl (by omega)
              refine lv_aload_n hx hb dX1_bestBidder_40 rfl (lv_at hl 3 rfl) ?_
              refine z_get (T := TX2) (N := 12) (ci := 2) (i := 1) (v := .ref (ad 5)) hx hb hts zj_X1_bestBidder_X2 hown hK hW rfl rfl 3 (by decide) (hts (.fieldLink RX1 51 "PetrolBoard$Holders" "bid" "[I") (me_s (me_l (me_l (List.mem_of_getElem? (i := 2) rfl))))) (fun _ h => h) rfl dX1_bestBidder_41 ?_
              refine lv_iload_n hx hb dX1_bestBidder_44 rfl (lv_at hl 1 rfl) ?_
              refine z_iald (i := 5) hx hb hK hW rfl (z_ix rfl (by omega) (by omega)) dX1_bestBidder_45 ?_
              refine lv_topi (fun x31 ex31 => ?_)
              have hv32 : (I 5 y3.toNatClampNeg).toInt = x31.toInt := by rw [ex31]
              have hz33 := z_clt (x := y3) rfl (by omega)
              refine lv_icmp_le (tgt := 51) hx hb dX1_bestBidder_46 (by decide) (fun c34 => ?_) (fun c34 => ?_)
              · have g35 := z_f_le rfl rfl c34
                have b36 := Int32.toInt_lt x28
                have b37 := Int32.toInt_lt x31
                obtain ⟨x38, ex38⟩ : ∃ y : Int32, y = y2 + 1 := ⟨_, rfl⟩
                have tx38 : x38.toInt = y2.toInt + 1 := z_tadd ex38 rfl z_l1 (by omega) (by omega)
                refine lv_iinc (v := x38) (lv' := [(3, .int x38), (2, .int y3), (0, .ref (ad 72)), (1, .ref (ad 1))]) hx hb dX1_bestBidder_51 hl (k := 0) rfl (by rw [ex38]; rfl) (by decide) rfl (fun ls hl => ?_)
                refine lv_goto (tgt := 4) hx hb dX1_bestBidder_54 (by decide) ?_
                exact lp1ih x38 y3 _ _ _ (by omega) (by omega) (by omega) (by omega) (by have c9 := z_clt (x := y2) rfl (by omega); have bd := zd_b_b (B := zd_B I) (sv := zd_v I) y2.toNatClampNeg; have s9 : zd_v I y2.toNatClampNeg = decide (¬ x15.toInt = 0) := (by unfold zd_v; rw [hv16]); have t9 : (zd_b (zd_B I) (zd_v I) y2.toNatClampNeg).toNat = y3.toNatClampNeg := (by rw [← lp1B.1]; rfl); have v9 : zd_B I y2.toNatClampNeg = x28.toInt := hv29; have w9 : zd_B I y3.toNatClampNeg = x31.toInt := hv32; exact ⟨by rw [(show x38.toNatClampNeg = y2.toNatClampNeg + 1 from z_cln (by omega) (by omega)), zd_b_n (fun q => by have q2 := q.2; rw [t9, v9, w9] at q2; omega)]; exact lp1B.1, by omega⟩) hW hS (lv_sub hl [0, 1, 2, 3] rfl)
              · have g39 := z_f_nle rfl rfl c34
                have b40 := Int32.toInt_lt x28
                have b41 := Int32.toInt_lt x31
                refine lv_iload_n hx hb dX1_bestBidder_49 rfl (lv_at hl 0 rfl) ?_
                refine lv_istore_n (lv' := [(2, .int y2), (3, .int y2), (0, .ref (ad 72)), (1, .ref (ad 1))]) hx hb dX1_bestBidder_50 rfl hl (by decide) rfl (fun ls hl => ?_)
                obtain ⟨x42, ex42⟩ : ∃ y : Int32, y = y2 + 1 := ⟨_, rfl⟩
                have tx42 : x42.toInt = y2.toInt + 1 := z_tadd ex42 rfl z_l1 (by omega) (by omega)
                refine lv_iinc (v := x42) (lv' := [(3, .int x42), (2, .int y2), (0, .ref (ad 72)), (1, .ref (ad 1))]) hx hb dX1_bestBidder_51 hl (k := 1) rfl (by rw [ex42]; rfl) (by decide) rfl (fun ls hl => ?_)
                refine lv_goto (tgt := 4) hx hb dX1_bestBidder_54 (by decide) ?_
                exact lp1ih x42 y2 _ _ _ (by omega) (by omega) (by omega) (by omega) (by have c9 := z_clt (x := y2) rfl (by omega); have bd := zd_b_b (B := zd_B I) (sv := zd_v I) y2.toNatClampNeg; have s9 : zd_v I y2.toNatClampNeg = decide (¬ x15.toInt = 0) := (by unfold zd_v; rw [hv16]); have t9 : (zd_b (zd_B I) (zd_v I) y2.toNatClampNeg).toNat = y3.toNatClampNeg := (by rw [← lp1B.1]; rfl); have v9 : zd_B I y2.toNatClampNeg = x28.toInt := hv29; have w9 : zd_B I y3.toNatClampNeg = x31.toInt := hv32; exact ⟨by rw [(show x42.toNatClampNeg = y2.toNatClampNeg + 1 from z_cln (by omega) (by omega)), zd_b_y ⟨s9.trans (decide_eq_false (by omega)), Or.inr (by rw [t9, v9, w9]; omega)⟩]; omega, by omega⟩) hW hS (lv_sub hl [0, 1, 2, 3] rfl)
        · have h43 := h11
          have r44 : 0 ≤ (I 1 5).toInt ∧ (I 1 5).toInt ≤ 30 := hH.1
          refine lv_if_eq (tgt := 57) hx hb dX1_bestBidder_17 (by decide) (fun c45 => ?_) (fun c45 => absurd (by decide) c45)
          refine lv_iload_n hx hb dX1_bestBidder_57 rfl (lv_at hl 1 rfl) ?_
          exact z_iret hx hb hr hK hS (Nat.le_of_ble_eq_true rfl) (Nat.le_of_ble_eq_true rfl) hlocks dX1_bestBidder_58 (shC c, ad, I, JX, PC c ad) hW ⟨rfl, (by have q1 := z_clt (x := y2) rfl (by omega); have q2 := z_clt (x := (I 72 2)) rfl (by omega); rw [show (I 72 2).toNatClampNeg = y2.toNatClampNeg by omega]; exact lp1B.1)⟩
  exact lp1 4294967296 (0) ((-1)) _ _ _ (z_m0u _) (by rw [z_l0]; omega) (by rw [z_lm1]; omega) (by rw [z_lm1]; omega) ⟨by rw [show (0 : Int32).toNatClampNeg = 0 by decide]; decide, by have q0 := z_l0; omega⟩ hW hS (lv_sub hl [0, 1, 2, 3] rfl)
noncomputable def L_X1_put_d : z_L := [(73, 999), (72, 2)]
set_option maxHeartbeats 8000000 in
set_option maxRecDepth 100000 in
theorem sx_X1_put_d (l : Launch) (G : z_G) (ad : Nat → Nat) (c : z_C) (I : z_I) (hD : z_iD I) (a1 : Int32) (hq : (I 72 2).toInt < 30) : z_Mv l yX1_put wsX1_put { frames := 1, cells := 0, slots := 0, locals := 12 } [.ref (ad 72), .int a1] G (shC c, ad, I, JX, PC c ad) (fun u1 => ∃ I1 : z_I, u1 = (shC c, ad, I1, JX, PC c ad) ∧ z_iD I1 ∧ z_fr L_X1_put_d I1 I ∧ (∀ j, I1 73 j = if j = (I 72 2).toNatClampNeg then a1 else I 73 j) ∧ (I1 72 2).toInt = (I 72 2).toInt + 1) 0 0 := by
  intro sz
  refine z_headQ (cc := cX1_put) (maxL := 2) (ret := none) (by decide) rfl (Nat.le_of_ble_eq_true rfl) ?_
  intro p e s m below meth c0 ls hIn hK hsz hW hl
  obtain ⟨hx, hb, hr, hml, hown, hts, hlocks, hname⟩ := hIn
  subst hsz
  have hown : s.vm.findClass RX1 = some m.cls := hown
  have hA : ∀ q : Nat, s.heap.size ≤ q → z_A (shC c, ad, I, JX, PC c ad) s.heap.size q := fun q h => Or.inr h
  generalize hAe : z_A (shC c, ad, I, JX, PC c ad) s.heap.size = A at *
  have hS : va_S A s.heap s.heap [] := va_S.rf
  have hl : lv_has ls 2 [(0, .ref (ad 72)), (1, .int a1)] := hl
  refine lv_aload_n hx hb dX1_put_0 rfl (lv_at hl 0 rfl) ?_
  have r1 : 0 ≤ (I 72 2).toInt ∧ (I 72 2).toInt ≤ 30 := hD
  refine z_get (T := TX1) (N := 3) (ci := 1) (i := 72) (v := .int (I 72 2)) hx hb hts zj_X1_put_X1 hown hK hW rfl rfl 2 (by decide) (hts (.fieldLink RX1 18 "PetrolBoard$Deal" "number" "I") (me_s (me_l (List.mem_of_getElem? (i := 0) rfl)))) (fun _ h => h) rfl dX1_put_1 ?_
  refine lv_aload_n hx hb dX1_put_4 rfl (lv_at hl 0 rfl) ?_
  refine z_get (T := TX1) (N := 3) (ci := 1) (i := 72) (v := .ref (ad 73)) hx hb hts zj_X1_put_X1 hown hK hW rfl rfl 0 (by decide) (hts (.fieldLink RX1 9 "PetrolBoard$Deal" "units" "[I") (me_s (me_l (List.mem_of_getElem? (i := 1) rfl)))) (fun _ h => h) rfl dX1_put_5 ?_
  refine z_alen (i := 73) (v := 30) hx hb hK hW rfl (by simp [z_tys]) (by rfl) dX1_put_8 ?_
  refine lv_icmp_ge (tgt := 32) hx hb dX1_put_9 (by decide) (fun c2 => ?_) (fun c2 => ?_)
  · have g3 := z_f_ge rfl z_l30 c2
    exact z_vret hx hb hr hK hS (Nat.le_of_ble_eq_true rfl) (Nat.le_of_ble_eq_true rfl) hlocks dX1_put_32 (shC c, ad, I, JX, PC c ad) hW ⟨I, rfl, (by show 0 ≤ (I 72 2).toInt ∧ (I 72 2).toInt ≤ 30; exact hD), z_fr_0, (by exfalso; omega)⟩
  · have g4 := z_f_nge rfl z_l30 c2
    refine lv_aload_n hx hb dX1_put_12 rfl (lv_at hl 0 rfl) ?_
    refine z_get (T := TX1) (N := 3) (ci := 1) (i := 72) (v := .ref (ad 73)) hx hb hts zj_X1_put_X1 hown hK hW rfl rfl 0 (by decide) (hts (.fieldLink RX1 9 "PetrolBoard$Deal" "units" "[I") (me_s (me_l (List.mem_of_getElem? (i := 1) rfl)))) (fun _ h => h) rfl dX1_put_13 ?_
    refine lv_aload_n hx hb dX1_put_16 rfl (lv_at hl 0 rfl) ?_
    refine z_get (T := TX1) (N := 3) (ci := 1) (i := 72) (v := .int (I 72 2)) hx hb hts zj_X1_put_X1 hown hK hW rfl rfl 2 (by decide) (hts (.fieldLink RX1 18 "PetrolBoard$Deal" "number" "I") (me_s (me_l (List.mem_of_getElem? (i := 0) rfl)))) (fun _ h => h) rfl dX1_put_17 ?_
    refine lv_iload_n hx hb dX1_put_20 rfl (lv_at hl 1 rfl) ?_
    refine z_iast (i := 73) hx hb hK hW hS rfl (z_ix rfl (by omega) (by omega)) dX1_put_21 (fun H locs hz1 hW hS => ?_)
    obtain ⟨I5, eI5⟩ : ∃ K : z_I, K = z_up I 73 (I 72 2).toNatClampNeg a1 := ⟨_, rfl⟩
    rw [← eI5] at hW
    have f6 := z_fr_a z_fr_0 (show z_wa L_X1_put_d 73 = true by decide) eI5
    refine lv_aload_n hx hb dX1_put_22 rfl (lv_at hl 0 rfl) ?_
    refine lv_dup hx hb dX1_put_23 rfl ?_
    refine z_get (T := TX1) (N := 3) (ci := 1) (i := 72) (v := .int (I 72 2)) hx hb hts zj_X1_put_X1 hown hK hW rfl rfl 2 (by decide) (hts (.fieldLink RX1 18 "PetrolBoard$Deal" "number" "I") (me_s (me_l (List.mem_of_getElem? (i := 0) rfl)))) (fun _ h => h) (congrArg Value.int (by rw [eI5, z_up_n (by decide)])) dX1_put_24 ?_
    refine lv_iconst (v := 1) hx hb dX1_put_27 (by decide) ?_
    refine lv_iadd hx hb dX1_put_28 ?_
    refine lv_topi (fun x7 ex7 => ?_)
    have tx7 : x7.toInt = (I 72 2).toInt + 1 := z_tadd ex7 rfl z_l1 (by omega) (by omega)
    refine z_put (T := TX1) (N := 3) (ci := 1) (i := 72) (v := .int x7) (I1 := z_up I5 72 2 x7) (J1 := JX) (P1 := PC c ad) hx hb hts zj_X1_put_X1 tyX1 tyX1_ok nmX1 hown hK hW hS rfl rfl 2 (by decide) (hts (.fieldLink RX1 18 "PetrolBoard$Deal" "number" "I") (me_s (me_l (List.mem_of_getElem? (i := 0) rfl)))) (fun _ h => h) rfl rfl rfl (by first | rfl | exact congrArg _ z_up_s) (fun a b h ty => z_vI h ty) dX1_put_29 (fun H locs hz1 hW hS => ?_)
    obtain ⟨I8, eI8⟩ : ∃ K : z_I, K = z_up I5 72 2 x7 := ⟨_, rfl⟩
    rw [← eI8] at hW
    have f9 := z_fr_k f6 (show z_wr L_X1_put_d 72 2 = true by decide) eI8
    exact z_vret hx hb hr hK hS (Nat.le_of_ble_eq_true rfl) (Nat.le_of_ble_eq_true rfl) hlocks dX1_put_32 (shC c, ad, I8, JX, PC c ad) hW ⟨I8, rfl, (by show 0 ≤ (I8 72 2).toInt ∧ (I8 72 2).toInt ≤ 30; rw [eI8, z_up_s]; omega), f9, ⟨(fun j => by rw [eI8, z_up_n (by decide), eI5, z_up_j]), (by have q9 : (I8 72 2) = x7 := (by rw [eI8, z_up_s]); show (I8 72 2).toInt = (I 72 2).toInt + 1; rw [q9]; first | done | omega)⟩⟩
set_option maxHeartbeats 8000000 in
set_option maxRecDepth 100000 in
theorem sx_X1_unitsOf_d (l : Launch) (G : z_G) (ad : Nat → Nat) (c : z_C) (I : z_I) (hD : z_iD I) (a1 : Int32) : z_M l yX1_unitsOf wsX1_unitsOf { frames := 1, cells := 0, slots := 0, locals := 12 } [.ref (ad 72), .int a1] G (shC c, ad, I, JX, PC c ad) (fun r u1 => u1 = (shC c, ad, I, JX, PC c ad) ∧ (((0 ≤ a1.toInt ∧ a1.toInt < (I 72 2).toInt) ∧ r = I 73 a1.toNatClampNeg) ∨ (¬ (0 ≤ a1.toInt ∧ a1.toInt < (I 72 2).toInt) ∧ r.toInt = -1))) 0 0 := by
  intro sz
  refine z_headQ (cc := cX1_unitsOf) (maxL := 2) (ret := (some .int)) (by decide) rfl (Nat.le_of_ble_eq_true rfl) ?_
  intro p e s m below meth c0 ls hIn hK hsz hW hl
  obtain ⟨hx, hb, hr, hml, hown, hts, hlocks, hname⟩ := hIn
  subst hsz
  have hown : s.vm.findClass RX1 = some m.cls := hown
  have hA : ∀ q : Nat, s.heap.size ≤ q → z_A (shC c, ad, I, JX, PC c ad) s.heap.size q := fun q h => Or.inr h
  generalize hAe : z_A (shC c, ad, I, JX, PC c ad) s.heap.size = A at *
  have hS : va_S A s.heap s.heap [] := va_S.rf
  have hl : lv_has ls 2 [(0, .ref (ad 72)), (1, .int a1)] := hl
  refine lv_iload_n hx hb dX1_unitsOf_0 rfl (lv_at hl 1 rfl) ?_
  refine lv_if_lt (tgt := 30) hx hb dX1_unitsOf_1 (by decide) (fun c1 => ?_) (fun c1 => ?_)
  · have g2 := z_f_lt rfl z_l0 c1
    have b3 := Int32.toInt_lt a1
    refine lv_iconst (v := (-1)) hx hb dX1_unitsOf_30 (by decide) ?_
    exact z_iret hx hb hr hK hS (Nat.le_of_ble_eq_true rfl) (Nat.le_of_ble_eq_true rfl) hlocks dX1_unitsOf_31 (shC c, ad, I, JX, PC c ad) hW ⟨rfl, (Or.inr ⟨by omega, by decide⟩)⟩
  · have g4 := z_f_nlt rfl z_l0 c1
    have b5 := Int32.toInt_lt a1
    refine lv_iload_n hx hb dX1_unitsOf_4 rfl (lv_at hl 1 rfl) ?_
    refine lv_aload_n hx hb dX1_unitsOf_5 rfl (lv_at hl 0 rfl) ?_
    have r6 : 0 ≤ (I 72 2).toInt ∧ (I 72 2).toInt ≤ 30 := hD
    refine z_get (T := TX1) (N := 3) (ci := 1) (i := 72) (v := .int (I 72 2)) hx hb hts zj_X1_unitsOf_X1 hown hK hW rfl rfl 2 (by decide) (hts (.fieldLink RX1 18 "PetrolBoard$Deal" "number" "I") (me_s (me_l (List.mem_of_getElem? (i := 0) rfl)))) (fun _ h => h) rfl dX1_unitsOf_6 ?_
    refine lv_icmp_ge (tgt := 30) hx hb dX1_unitsOf_9 (by decide) (fun c7 => ?_) (fun c7 => ?_)
    · have g8 := z_f_ge rfl rfl c7
      refine lv_iconst (v := (-1)) hx hb dX1_unitsOf_30 (by decide) ?_
      exact z_iret hx hb hr hK hS (Nat.le_of_ble_eq_true rfl) (Nat.le_of_ble_eq_true rfl) hlocks dX1_unitsOf_31 (shC c, ad, I, JX, PC c ad) hW ⟨rfl, (Or.inr ⟨by omega, by decide⟩)⟩
    · have g9 := z_f_nge rfl rfl c7
      refine lv_iload_n hx hb dX1_unitsOf_12 rfl (lv_at hl 1 rfl) ?_
      refine lv_aload_n hx hb dX1_unitsOf_13 rfl (lv_at hl 0 rfl) ?_
      refine z_get (T := TX1) (N := 3) (ci := 1) (i := 72) (v := .ref (ad 73)) hx hb hts zj_X1_unitsOf_X1 hown hK hW rfl rfl 0 (by decide) (hts (.fieldLink RX1 9 "PetrolBoard$Deal" "units" "[I") (me_s (me_l (List.mem_of_getElem? (i := 1) rfl)))) (fun _ h => h) rfl dX1_unitsOf_14 ?_
      refine z_alen (i := 73) (v := 30) hx hb hK hW rfl (by simp [z_tys]) (by rfl) dX1_unitsOf_17 ?_
      refine lv_icmp_ge (tgt := 30) hx hb dX1_unitsOf_18 (by decide) (fun c10 => (by have g := z_f_ge rfl z_l30 c10; omega)) (fun c10 => ?_)
      have g11 := z_f_nge rfl z_l30 c10
      refine lv_aload_n hx hb dX1_unitsOf_21 rfl (lv_at hl 0 rfl) ?_
      refine z_get (T := TX1) (N := 3) (ci := 1) (i := 72) (v := .ref (ad 73)) hx hb hts zj_X1_unitsOf_X1 hown hK hW rfl rfl 0 (by decide) (hts (.fieldLink RX1 9 "PetrolBoard$Deal" "units" "[I") (me_s (me_l (List.mem_of_getElem? (i := 1) rfl)))) (fun _ h => h) rfl dX1_unitsOf_22 ?_
      refine lv_iload_n hx hb dX1_unitsOf_25 rfl (lv_at hl 1 rfl) ?_
      refine z_iald (i := 73) hx hb hK hW rfl (z_ix rfl (by omega) (by omega)) dX1_unitsOf_26 ?_
      refine lv_topi (fun x12 ex12 => ?_)
      have hv13 : (I 73 a1.toNatClampNeg).toInt = x12.toInt := by rw [ex12]
      have hz14 := z_clt (x := a1) rfl (by omega)
      refine lv_goto (tgt := 31) hx hb dX1_unitsOf_27 (by decide) ?_
      exact z_iret hx hb hr hK hS (Nat.le_of_ble_eq_true rfl) (Nat.le_of_ble_eq_true rfl) hlocks dX1_unitsOf_31 (shC c, ad, I, JX, PC c ad) hW ⟨rfl, (Or.inl ⟨by omega, ex12⟩)⟩
noncomputable def L_X1_alike_d : z_L := [(73, 999)]
set_option maxHeartbeats 8000000 in
set_option maxRecDepth 100000 in
theorem sx_X1_alike_d (l : Launch) (G : z_G) (ad : Nat → Nat) (c : z_C) (I : z_I) (hD : z_iD I) (hU : ∀ j : Nat, (j : Int) < (I 72 2).toInt → 0 ≤ (I 73 j).toInt ∧ (I 73 j).toInt ≤ 99) : z_Mv l yX1_alike wsX1_alike { frames := 2, cells := 0, slots := 0, locals := 34 } [.ref (ad 72)] G (shC c, ad, I, JX, PC c ad) (fun u1 => ∃ I1 : z_I, u1 = (shC c, ad, I1, JX, PC c ad) ∧ z_iD I1 ∧ z_fr L_X1_alike_d I1 I ∧ (∀ j : Nat, (j : Int) < (I 72 2).toInt → (I1 73 j).toInt = zd_S (zd_u I) (I 72 2).toNatClampNeg / (I 72 2).toInt)) 0 0 := by
  intro sz
  refine z_headQ (cc := cX1_alike) (maxL := 3) (ret := none) (by decide) rfl (Nat.le_of_ble_eq_true rfl) ?_
  intro p e s m below meth c0 ls hIn hK hsz hW hl
  obtain ⟨hx, hb, hr, hml, hown, hts, hlocks, hname⟩ := hIn
  subst hsz
  have hown : s.vm.findClass RX1 = some m.cls := hown
  have hA : ∀ q : Nat, s.heap.size ≤ q → z_A (shC c, ad, I, JX, PC c ad) s.heap.size q := fun q h => Or.inr h
  generalize hAe : z_A (shC c, ad, I, JX, PC c ad) s.heap.size = A at *
  have hS : va_S A s.heap s.heap [] := va_S.rf
  have hl : lv_has ls 3 [(0, .ref (ad 72))] := hl
  refine lv_aload_n hx hb dX1_alike_0 rfl (lv_at hl 0 rfl) ?_
  have r1 : 0 ≤ (I 72 2).toInt ∧ (I 72 2).toInt ≤ 30 := hD
  refine z_get (T := TX1) (N := 3) (ci := 1) (i := 72) (v := .int (I 72 2)) hx hb hts zj_X1_alike_X1 hown hK hW rfl rfl 2 (by decide) (hts (.fieldLink RX1 18 "PetrolBoard$Deal" "number" "I") (me_s (me_l (List.mem_of_getElem? (i := 0) rfl)))) (fun _ h => h) rfl dX1_alike_1 ?_
  refine lv_if_le (tgt := 19) hx hb dX1_alike_4 (by decide) (fun c2 => ?_) (fun c2 => ?_)
  · have g3 := z_f_le rfl z_l0 c2
    refine lv_iconst (v := 0) hx hb dX1_alike_19 (by decide) ?_
    refine lv_istore_n (lv' := [(1, .int 0), (0, .ref (ad 72))]) hx hb dX1_alike_20 rfl hl (by decide) rfl (fun ls hl => ?_)
    refine lv_iconst (v := 0) hx hb dX1_alike_21 (by decide) ?_
    refine lv_istore_n (lv' := [(2, .int 0), (1, .int 0), (0, .ref (ad 72))]) hx hb dX1_alike_22 rfl hl (by decide) rfl (fun ls hl => ?_)
    have lp4 : ∀ (f : Nat) (y5 : Int32) (I6 : z_I) (H : Heap) (locs : List Loc) (ls : Array Slot), (2147483647 < y5.toInt + (f : Int)) → (0 ≤ y5.toInt) → (z_iD I6) → ((∀ j : Nat, (j : Int) < y5.toInt → I6 73 j = 0) ∧ y5.toInt ≤ (I 72 2).toInt) → (z_fr L_X1_alike_d I6 I) → z_W G A (shC c, ad, I6, JX, PC c ad) H → va_S A s.heap H locs → lv_has ls 3 [(2, .int y5), (1, .int 0), (0, .ref (ad 72))] → W p l e (headSpec wsX1_alike { frames := 2, cells := 0, slots := 0, locals := 34 }).room s m ([.ref (ad 72)] : List Value).toArray below meth c0 H locs 0 0 (MQ below (va_Qv (fun (u1 : z_U) => ∃ I1 : z_I, u1 = (shC c, ad, I1, JX, PC c ad) ∧ z_iD I1 ∧ z_fr L_X1_alike_d I1 I ∧ (∀ j : Nat, (j : Int) < (I 72 2).toInt → (I1 73 j).toInt = zd_S (zd_u I) (I 72 2).toNatClampNeg / (I 72 2).toInt)) (z_B G A) A) ([.ref (ad 72)] : List Value).toArray s 0 0 A) (F0 m 23 ls []) := by
      intro f
      induction f with
      | zero => intro y5 I6  H locs ls lp4m lp4l2 lp4D lp4A lp4fr hW hS hl; exact absurd lp4m (by have := Int32.toInt_lt y5; have := Int32.le_toInt y5; omega)
      | succ f lp4ih =>
        intro y5 I6  H locs ls lp4m lp4l2 lp4D lp4A lp4fr hW hS hl
        refine lv_iload_n hx hb dX1_alike_23 rfl (lv_at hl 0 rfl) ?_
        have hn7 : (I6 72 2).toInt = (I 72 2).toInt := by rw [lp4fr 72 2 (by decide)]
        refine lv_aload_n hx hb dX1_alike_24 rfl (lv_at hl 2 rfl) ?_
        have r8 : 0 ≤ (I6 72 2).toInt ∧ (I6 72 2).toInt ≤ 30 := lp4D
        refine z_get (T := TX1) (N := 3) (ci := 1) (i := 72) (v := .int (I6 72 2)) hx hb hts zj_X1_alike_X1 hown hK hW rfl rfl 2 (by decide) (hts (.fieldLink RX1 18 "PetrolBoard$Deal" "number" "I") (me_s (me_l (List.mem_of_getElem? (i := 0) rfl)))) (fun _ h => h) rfl dX1_alike_25 ?_
        refine lv_icmp_ge (tgt := 53) hx hb dX1_alike_28 (by decide) (fun c9 => ?_) (fun c9 => ?_)
        · have g10 := z_f_ge rfl rfl c9
          have b11 := Int32.toInt_lt y5
          exact z_vret hx hb hr hK hS (Nat.le_of_ble_eq_true rfl) (Nat.le_of_ble_eq_true rfl) hlocks dX1_alike_53 (shC c, ad, I6, JX, PC c ad) hW ⟨I6, rfl, (by show 0 ≤ (I6 72 2).toInt ∧ (I6 72 2).toInt ≤ 30; exact lp4D), lp4fr, (fun j hj => by exfalso; omega)⟩
        · have g12 := z_f_nge rfl rfl c9
          have b13 := Int32.toInt_lt y5
          refine lv_iload_n hx hb dX1_alike_31 rfl (lv_at hl 0 rfl) ?_
          refine lv_aload_n hx hb dX1_alike_32 rfl (lv_at hl 2 rfl) ?_
          refine z_get (T := TX1) (N := 3) (ci := 1) (i := 72) (v := .ref (ad 73)) hx hb hts zj_X1_alike_X1 hown hK hW rfl rfl 0 (by decide) (hts (.fieldLink RX1 9 "PetrolBoard$Deal" "units" "[I") (me_s (me_l (List.mem_of_getElem? (i := 1) rfl)))) (fun _ h => h) rfl dX1_alike_33 ?_
          refine z_alen (i := 73) (v := 30) hx hb hK hW rfl (by simp [z_tys]) (by rfl) dX1_alike_36 ?_
          refine lv_icmp_ge (tgt := 53) hx hb dX1_alike_37 (by decide) (fun c14 => (by have g := z_f_ge rfl z_l30 c14; omega)) (fun c14 => ?_)
          have g15 := z_f_nge rfl z_l30 c14
          refine lv_aload_n hx hb dX1_alike_40 rfl (lv_at hl 2 rfl) ?_
          refine z_get (T := TX1) (N := 3) (ci := 1) (i := 72) (v := .ref (ad 73)) hx hb hts zj_X1_alike_X1 hown hK hW rfl rfl 0 (by decide) (hts (.fieldLink RX1 9 "PetrolBoard$Deal" "units" "[I") (me_s (me_l (List.mem_of_getElem? (i := 1) rfl)))) (fun _ h => h) rfl dX1_alike_41 ?_
          refine lv_iload_n hx hb dX1_alike_44 rfl (lv_at hl 0 rfl) ?_
          refine lv_iload_n hx hb dX1_alike_45 rfl (lv_at hl 1 rfl) ?_
          refine z_iast (i := 73) hx hb hK hW hS rfl (z_ix rfl (by omega) (by omega)) dX1_alike_46 (fun H locs hz1 hW hS => ?_)
          obtain ⟨I16, eI16⟩ : ∃ K : z_I, K = z_up I6 73 y5.toNatClampNeg 0 := ⟨_, rfl⟩
          rw [← eI16] at hW
          have f17 := z_fr_a lp4fr (show z_wa L_X1_alike_d 73 = true by decide) eI16
          obtain ⟨x18, ex18⟩ : ∃ y : Int32, y = y5 + 1 := ⟨_, rfl⟩
          have tx18 : x18.toInt = y5.toInt + 1 := z_tadd ex18 rfl z_l1 (by omega) (by omega)
          refine lv_iinc (v := x18) (lv' := [(2, .int x18), (1, .int 0), (0, .ref (ad 72))]) hx hb dX1_alike_47 hl (k := 0) rfl (by rw [ex18]; rfl) (by decide) rfl (fun ls hl => ?_)
          refine lv_goto (tgt := 23) hx hb dX1_alike_50 (by decide) ?_
          exact lp4ih x18 I16  _ _ _ (by omega) (by omega) (by show 0 ≤ (I16 72 2).toInt ∧ (I16 72 2).toInt ≤ 30; rw [eI16, z_up_n (by decide)]; exact lp4D) ⟨fun j hj => by rw [eI16, z_up_j]; have c9 := z_clt (x := y5) rfl (by omega); by_cases q : j = y5.toNatClampNeg; (· rw [if_pos q]); (· rw [if_neg q]; exact lp4A.1 j (by omega)), by omega⟩ f17 hW hS (lv_sub hl [0, 1, 2] rfl)
    exact lp4 4294967296 (0) I  _ _ _ (z_m0u _) (by rw [z_l0]; omega) (by show 0 ≤ (I 72 2).toInt ∧ (I 72 2).toInt ≤ 30; exact hD) ⟨fun j hj => absurd hj (by have q0 := z_l0; omega), by have q0 := z_l0; omega⟩ z_fr_0 hW hS (lv_sub hl [0, 1, 2] rfl)
  · have g19 := z_f_nle rfl z_l0 c2
    refine lv_aload_n hx hb dX1_alike_7 rfl (lv_at hl 0 rfl) ?_
    refine z_ci hW hS hA (va_runV (As := []) (rest := []) ⟨hx, hb, hml, hown, hts⟩ (sx_X1_together_d l G ad c I (by show 0 ≤ (I 72 2).toInt ∧ (I 72 2).toInt ≤ 30; exact hD) hU _) (cwV 0 hts gX1_alike_X1_together rfl rfl rfl (by decide +kernel) ⟨Nat.le_of_ble_eq_true rfl, Nat.le_of_ble_eq_true rfl⟩) (z_preV (i := 72) hK hW rfl rfl) rfl rfl hl.1 rfl (lv_room (Nat.le_of_ble_eq_true rfl)) dX1_alike_8 ⟨Nat.le_of_ble_eq_true rfl, Nat.le_of_ble_eq_true rfl⟩) (fun r u1 H locs hp hW hS => ?_)
    obtain ⟨e9, hp⟩ := hp
    rw [e9] at hW
    refine lv_topi (fun x20 ex20 => ?_)
    rw [← ex20] at hp
    have hP21 := hp
    refine lv_aload_n hx hb dX1_alike_11 rfl (lv_at hl 0 rfl) ?_
    refine z_get (T := TX1) (N := 3) (ci := 1) (i := 72) (v := .int (I 72 2)) hx hb hts zj_X1_alike_X1 hown hK hW rfl rfl 2 (by decide) (hts (.fieldLink RX1 18 "PetrolBoard$Deal" "number" "I") (me_s (me_l (List.mem_of_getElem? (i := 0) rfl)))) (fun _ h => h) rfl dX1_alike_12 ?_
    refine lv_idiv hx hb dX1_alike_15 (z_nz rfl (by omega)) ?_
    refine lv_topi (fun x22 ex22 => ?_)
    have ht23 : x22.toInt = x20.toInt / (I 72 2).toInt := z_tdiv ex22 rfl rfl (by omega) (by have q9 := hP21.2; omega)
    refine lv_goto (tgt := 20) hx hb dX1_alike_16 (by decide) ?_
    refine lv_istore_n (lv' := [(1, .int x22), (0, .ref (ad 72))]) hx hb dX1_alike_20 rfl hl (by decide) rfl (fun ls hl => ?_)
    refine lv_iconst (v := 0) hx hb dX1_alike_21 (by decide) ?_
    refine lv_istore_n (lv' := [(2, .int 0), (1, .int x22), (0, .ref (ad 72))]) hx hb dX1_alike_22 rfl hl (by decide) rfl (fun ls hl => ?_)
    have lp24 : ∀ (f : Nat) (y25 : Int32) (I26 : z_I) (H : Heap) (locs : List Loc) (ls : Array Slot), (2147483647 < y25.toInt + (f : Int)) → (0 ≤ y25.toInt) → (z_iD I26) → ((∀ j : Nat, (j : Int) < y25.toInt → I26 73 j = x22) ∧ y25.toInt ≤ (I 72 2).toInt) → (z_fr L_X1_alike_d I26 I) → z_W G A (shC c, ad, I26, JX, PC c ad) H → va_S A s.heap H locs → lv_has ls 3 [(2, .int y25), (1, .int x22), (0, .ref (ad 72))] → W p l e (headSpec wsX1_alike { frames := 2, cells := 0, slots := 0, locals := 34 }).room s m ([.ref (ad 72)] : List Value).toArray below meth c0 H locs 0 0 (MQ below (va_Qv (fun (u1 : z_U) => ∃ I1 : z_I, u1 = (shC c, ad, I1, JX, PC c ad) ∧ z_iD I1 ∧ z_fr L_X1_alike_d I1 I ∧ (∀ j : Nat, (j : Int) < (I 72 2).toInt → (I1 73 j).toInt = zd_S (zd_u I) (I 72 2).toNatClampNeg / (I 72 2).toInt)) (z_B G A) A) ([.ref (ad 72)] : List Value).toArray s 0 0 A) (F0 m 23 ls []) := by
      intro f
      induction f with
      | zero => intro y25 I26  H locs ls lp24m lp24l2 lp24D lp24A lp24fr hW hS hl; exact absurd lp24m (by have := Int32.toInt_lt y25; have := Int32.le_toInt y25; omega)
      | succ f lp24ih =>
        intro y25 I26  H locs ls lp24m lp24l2 lp24D lp24A lp24fr hW hS hl
        refine lv_iload_n hx hb dX1_alike_23 rfl (lv_at hl 0 rfl) ?_
        have hn27 : (I26 72 2).toInt = (I 72 2).toInt := by rw [lp24fr 72 2 (by decide)]
        refine lv_aload_n hx hb dX1_alike_24 rfl (lv_at hl 2 rfl) ?_
        have r28 : 0 ≤ (I26 72 2).toInt ∧ (I26 72 2).toInt ≤ 30 := lp24D
        refine z_get (T := TX1) (N := 3) (ci := 1) (i := 72) (v := .int (I26 72 2)) hx hb hts zj_X1_alike_X1 hown hK hW rfl rfl 2 (by decide) (hts (.fieldLink RX1 18 "PetrolBoard$Deal" "number" "I") (me_s (me_l (List.mem_of_getElem? (i := 0) rfl)))) (fun _ h => h) rfl dX1_alike_25 ?_
        refine lv_icmp_ge (tgt := 53) hx hb dX1_alike_28 (by decide) (fun c29 => ?_) (fun c29 => ?_)
        · have g30 := z_f_ge rfl rfl c29
          have b31 := Int32.toInt_lt y25
          exact z_vret hx hb hr hK hS (Nat.le_of_ble_eq_true rfl) (Nat.le_of_ble_eq_true rfl) hlocks dX1_alike_53 (shC c, ad, I26, JX, PC c ad) hW ⟨I26, rfl, (by show 0 ≤ (I26 72 2).toInt ∧ (I26 72 2).toInt ≤ 30; exact lp24D), lp24fr, (fun j hj => by rw [lp24A.1 j (by omega)]; have q9 := hP21.1; rw [← q9]; omega)⟩
        · have g32 := z_f_nge rfl rfl c29
          have b33 := Int32.toInt_lt y25
          refine lv_iload_n hx hb dX1_alike_31 rfl (lv_at hl 0 rfl) ?_
          refine lv_aload_n hx hb dX1_alike_32 rfl (lv_at hl 2 rfl) ?_
          refine z_get (T := TX1) (N := 3) (ci := 1) (i := 72) (v := .ref (ad 73)) hx hb hts zj_X1_alike_X1 hown hK hW rfl rfl 0 (by decide) (hts (.fieldLink RX1 9 "PetrolBoard$Deal" "units" "[I") (me_s (me_l (List.mem_of_getElem? (i := 1) rfl)))) (fun _ h => h) rfl dX1_alike_33 ?_
          refine z_alen (i := 73) (v := 30) hx hb hK hW rfl (by simp [z_tys]) (by rfl) dX1_alike_36 ?_
          refine lv_icmp_ge (tgt := 53) hx hb dX1_alike_37 (by decide) (fun c34 => (by have g := z_f_ge rfl z_l30 c34; omega)) (fun c34 => ?_)
          have g35 := z_f_nge rfl z_l30 c34
          refine lv_aload_n hx hb dX1_alike_40 rfl (lv_at hl 2 rfl) ?_
          refine z_get (T := TX1) (N := 3) (ci := 1) (i := 72) (v := .ref (ad 73)) hx hb hts zj_X1_alike_X1 hown hK hW rfl rfl 0 (by decide) (hts (.fieldLink RX1 9 "PetrolBoard$Deal" "units" "[I") (me_s (me_l (List.mem_of_getElem? (i := 1) rfl)))) (fun _ h => h) rfl dX1_alike_41 ?_
          refine lv_iload_n hx hb dX1_alike_44 rfl (lv_at hl 0 rfl) ?_
          refine lv_iload_n hx hb dX1_alike_45 rfl (lv_at hl 1 rfl) ?_
          refine z_iast (i := 73) hx hb hK hW hS rfl (z_ix rfl (by omega) (by omega)) dX1_alike_46 (fun H locs hz1 hW hS => ?_)
          obtain ⟨I36, eI36⟩ : ∃ K : z_I, K = z_up I26 73 y25.toNatClampNeg x22 := ⟨_, rfl⟩
          rw [← eI36] at hW
          have f37 := z_fr_a lp24fr (show z_wa L_X1_alike_d 73 = true by decide) eI36
          obtain ⟨x38, ex38⟩ : ∃ y : Int32, y = y25 + 1 := ⟨_, rfl⟩
          have tx38 : x38.toInt = y25.toInt + 1 := z_tadd ex38 rfl z_l1 (by omega) (by omega)
          refine lv_iinc (v := x38) (lv' := [(2, .int x38), (1, .int x22), (0, .ref (ad 72))]) hx hb dX1_alike_47 hl (k := 0) rfl (by rw [ex38]; rfl) (by decide) rfl (fun ls hl => ?_)
          refine lv_goto (tgt := 23) hx hb dX1_alike_50 (by decide) ?_
          exact lp24ih x38 I36  _ _ _ (by omega) (by omega) (by show 0 ≤ (I36 72 2).toInt ∧ (I36 72 2).toInt ≤ 30; rw [eI36, z_up_n (by decide)]; exact lp24D) ⟨fun j hj => by rw [eI36, z_up_j]; have c9 := z_clt (x := y25) rfl (by omega); by_cases q : j = y25.toNatClampNeg; (· rw [if_pos q]); (· rw [if_neg q]; exact lp24A.1 j (by omega)), by omega⟩ f37 hW hS (lv_sub hl [0, 1, 2] rfl)
    exact lp24 4294967296 (0) I  _ _ _ (z_m0u _) (by rw [z_l0]; omega) (by show 0 ≤ (I 72 2).toInt ∧ (I 72 2).toInt ≤ 30; exact hD) ⟨fun j hj => absurd hj (by have q0 := z_l0; omega), by have q0 := z_l0; omega⟩ z_fr_0 hW hS (lv_sub hl [0, 1, 2] rfl)
noncomputable def L_X1_sell_d : z_L := [(73, 999), (74, 999)]
set_option maxHeartbeats 8000000 in
set_option maxRecDepth 100000 in
theorem sx_X1_sell_d (l : Launch) (G : z_G) (ad : Nat → Nat) (c : z_C) (I : z_I) (hD : z_iD I) (hH : z_iH I) (hU : ∀ j : Nat, (j : Int) < (I 72 2).toInt → 0 ≤ (I 73 j).toInt ∧ (I 73 j).toInt ≤ 99) (hn : (I 72 2).toInt ≤ (I 1 5).toInt) (hN : ∀ j : Nat, (j : Int) < (I 1 5).toInt → 0 ≤ (I 6 j).toInt ∧ (I 6 j).toInt ≤ 99) : z_Mv l yX1_sell wsX1_sell { frames := 3, cells := 0, slots := 0, locals := 56 } [.ref (ad 72), .ref (ad 1)] G (shC c, ad, I, JX, PC c ad) (fun u1 => ∃ I1 : z_I, u1 = (shC c, ad, I1, JX, PC c ad) ∧ z_iD I1 ∧ z_iH I1 ∧ z_fr L_X1_sell_d I1 I ∧ ∀ j, (I1 73 j).toInt = (zd_F I (I 72 2).toNatClampNeg).1 j) 0 0 := by
  intro sz
  refine z_headQ (cc := cX1_sell) (maxL := 5) (ret := none) (by decide) rfl (Nat.le_of_ble_eq_true rfl) ?_
  intro p e s m below meth c0 ls hIn hK hsz hW hl
  obtain ⟨hx, hb, hr, hml, hown, hts, hlocks, hname⟩ := hIn
  subst hsz
  have hown : s.vm.findClass RX1 = some m.cls := hown
  have hA : ∀ q : Nat, s.heap.size ≤ q → z_A (shC c, ad, I, JX, PC c ad) s.heap.size q := fun q h => Or.inr h
  generalize hAe : z_A (shC c, ad, I, JX, PC c ad) s.heap.size = A at *
  have hS : va_S A s.heap s.heap [] := va_S.rf
  have hl : lv_has ls 5 [(0, .ref (ad 72)), (1, .ref (ad 1))] := hl
  refine lv_aload_n hx hb dX1_sell_0 rfl (lv_at hl 0 rfl) ?_
  refine z_ci hW hS hA (va_runV (As := []) (rest := []) ⟨hx, hb, hml, hown, hts⟩ (sx_X1_together_d l G ad c I (by show 0 ≤ (I 72 2).toInt ∧ (I 72 2).toInt ≤ 30; exact hD) hU _) (cwV 0 hts gX1_sell_X1_together rfl rfl rfl (by decide +kernel) ⟨Nat.le_of_ble_eq_true rfl, Nat.le_of_ble_eq_true rfl⟩) (z_preV (i := 72) hK hW rfl rfl) rfl rfl hl.1 rfl (lv_room (Nat.le_of_ble_eq_true rfl)) dX1_sell_1 ⟨Nat.le_of_ble_eq_true rfl, Nat.le_of_ble_eq_true rfl⟩) (fun r u1 H locs hp hW hS => ?_)
  obtain ⟨e9, hp⟩ := hp
  rw [e9] at hW
  refine lv_topi (fun x1 ex1 => ?_)
  rw [← ex1] at hp
  have hP2 := hp
  refine lv_istore_n (lv' := [(2, .int x1), (0, .ref (ad 72)), (1, .ref (ad 1))]) hx hb dX1_sell_4 rfl hl (by decide) rfl (fun ls hl => ?_)
  refine lv_aload_n hx hb dX1_sell_5 rfl (lv_at hl 1 rfl) ?_
  refine z_get (T := TX1) (N := 3) (ci := 1) (i := 72) (v := .ref (ad 74)) hx hb hts zj_X1_sell_X1 hown hK hW rfl rfl 1 (by decide) (hts (.fieldLink RX1 15 "PetrolBoard$Deal" "served" "[I") (me_s (me_l (me_l (me_l (List.mem_of_getElem? (i := 0) rfl)))))) (fun _ h => h) rfl dX1_sell_6 ?_
  refine lv_iconst (v := 0) hx hb dX1_sell_9 (by decide) ?_
  refine z_cc hW hS hA (va_runS (As := [.ref (ad 74), .int 0]) (rest := []) ⟨hx, hb, hml, hown, hts⟩ (ct_fill l G 74 30 0 rfl (by decide) _) (va_cwS 2 hts gX1_sell_J7_fill_53178 rfl rfl rfl (by decide +kernel) ⟨Nat.le_of_ble_eq_true rfl, Nat.le_of_ble_eq_true rfl⟩) (z_preS hK hW) rfl rfl hl.1 rfl (lv_room (Nat.le_of_ble_eq_true rfl)) dX1_sell_10 ⟨Nat.le_of_ble_eq_true rfl, Nat.le_of_ble_eq_true rfl⟩) (fun H locs hz1 hW hS => ?_)
  obtain ⟨I3, eI3⟩ : ∃ K : z_I, K = z_fi I 74 0 := ⟨_, rfl⟩
  rw [← eI3] at hW
  have f4 := z_fr_f z_fr_0 (show z_wa L_X1_sell_d 74 = true by decide) eI3
  refine lv_iconst (v := 0) hx hb dX1_sell_13 (by decide) ?_
  refine lv_istore_n (lv' := [(3, .int 0), (2, .int x1), (0, .ref (ad 72)), (1, .ref (ad 1))]) hx hb dX1_sell_14 rfl hl (by decide) rfl (fun ls hl => ?_)
  have lp5 : ∀ (f : Nat) (y6 : Int32) (y7 : Int32) (I8 : z_I) (H : Heap) (locs : List Loc) (ls : Array Slot), (2147483647 < y6.toInt + (f : Int)) → (0 ≤ y6.toInt) → (0 ≤ y7.toInt) → (y7.toInt ≤ 2970) → (z_iD I8) → (z_iH I8) → ((∀ j, (I8 73 j).toInt = (zd_F I y6.toNatClampNeg).1 j) ∧ (∀ j, zd_v I8 j = (zd_F I y6.toNatClampNeg).2.1 j) ∧ y7.toInt = (zd_F I y6.toNatClampNeg).2.2 ∧ y6.toInt ≤ (I 72 2).toInt) → (z_fr L_X1_sell_d I8 I) → z_W G A (shC c, ad, I8, JX, PC c ad) H → va_S A s.heap H locs → lv_has ls 5 [(3, .int y6), (2, .int y7), (0, .ref (ad 72)), (1, .ref (ad 1))] → W p l e (headSpec wsX1_sell { frames := 3, cells := 0, slots := 0, locals := 56 }).room s m ([.ref (ad 72), .ref (ad 1)] : List Value).toArray below meth c0 H locs 0 0 (MQ below (va_Qv (fun (u1 : z_U) => ∃ I1 : z_I, u1 = (shC c, ad, I1, JX, PC c ad) ∧ z_iD I1 ∧ z_iH I1 ∧ z_fr L_X1_sell_d I1 I ∧ ∀ j, (I1 73 j).toInt = (zd_F I (I 72 2).toNatClampNeg).1 j) (z_B G A) A) ([.ref (ad 72), .ref (ad 1)] : List Value).toArray s 0 0 A) (F0 m 15 ls []) := by
    intro f
    induction f with
    | zero => intro y6 y7 I8  H locs ls lp5m lp5l3 lp5l2 lp5u2 lp5D lp5H lp5S lp5fr hW hS hl; exact absurd lp5m (by have := Int32.toInt_lt y6; have := Int32.le_toInt y6; omega)
    | succ f lp5ih =>
      intro y6 y7 I8  H locs ls lp5m lp5l3 lp5l2 lp5u2 lp5D lp5H lp5S lp5fr hW hS hl
      refine lv_iload_n hx hb dX1_sell_15 rfl (lv_at hl 0 rfl) ?_
      have hn9 : (I8 72 2).toInt = (I 72 2).toInt := by rw [lp5fr 72 2 (by decide)]
      refine lv_aload_n hx hb dX1_sell_16 rfl (lv_at hl 2 rfl) ?_
      have r10 : 0 ≤ (I8 72 2).toInt ∧ (I8 72 2).toInt ≤ 30 := lp5D
      refine z_get (T := TX1) (N := 3) (ci := 1) (i := 72) (v := .int (I8 72 2)) hx hb hts zj_X1_sell_X1 hown hK hW rfl rfl 2 (by decide) (hts (.fieldLink RX1 18 "PetrolBoard$Deal" "number" "I") (me_s (me_l (me_l (me_l (List.mem_of_getElem? (i := 1) rfl)))))) (fun _ h => h) rfl dX1_sell_17 ?_
      refine lv_icmp_ge (tgt := 85) hx hb dX1_sell_20 (by decide) (fun c11 => ?_) (fun c11 => ?_)
      · have g12 := z_f_ge rfl rfl c11
        have b13 := Int32.toInt_lt y6
        exact z_vret hx hb hr hK hS (Nat.le_of_ble_eq_true rfl) (Nat.le_of_ble_eq_true rfl) hlocks dX1_sell_85 (shC c, ad, I8, JX, PC c ad) hW ⟨I8, rfl, (by show 0 ≤ (I8 72 2).toInt ∧ (I8 72 2).toInt ≤ 30; exact lp5D), ⟨(by show 0 ≤ (I8 1 5).toInt ∧ (I8 1 5).toInt ≤ 30; exact lp5H.1), (by show 0 ≤ (I8 1 11).toInt ∧ (I8 1 11).toInt ≤ 200; exact lp5H.2)⟩, lp5fr, (fun j => by have q1 := z_clt (x := y6) rfl (by omega); have q2 := z_clt (x := (I 72 2)) rfl (by omega); rw [show (I 72 2).toNatClampNeg = y6.toNatClampNeg by omega]; exact lp5S.1 j)⟩
      · have g14 := z_f_nge rfl rfl c11
        have b15 := Int32.toInt_lt y6
        refine lv_aload_n hx hb dX1_sell_23 rfl (lv_at hl 2 rfl) ?_
        refine lv_aload_n hx hb dX1_sell_24 rfl (lv_at hl 3 rfl) ?_
        refine z_ci hW hS hA (va_runV (As := [.ref (ad 1)]) (rest := []) ⟨hx, hb, hml, hown, hts⟩ (sx_X1_bestBidder_d l G ad c I8 (by show 0 ≤ (I8 72 2).toInt ∧ (I8 72 2).toInt ≤ 30; exact lp5D) ⟨(by show 0 ≤ (I8 1 5).toInt ∧ (I8 1 5).toInt ≤ 30; exact lp5H.1), (by show 0 ≤ (I8 1 11).toInt ∧ (I8 1 11).toInt ≤ 200; exact lp5H.2)⟩ (by rw [lp5fr 72 2 (by decide), lp5fr 1 5 (by decide)]; exact hn) _) (cwV 1 hts gX1_sell_X1_bestBidder rfl rfl rfl (by decide +kernel) ⟨Nat.le_of_ble_eq_true rfl, Nat.le_of_ble_eq_true rfl⟩) (z_preV (i := 72) hK hW rfl rfl) rfl rfl hl.1 rfl (lv_room (Nat.le_of_ble_eq_true rfl)) dX1_sell_25 ⟨Nat.le_of_ble_eq_true rfl, Nat.le_of_ble_eq_true rfl⟩) (fun r u1 H locs hp hW hS => ?_)
        obtain ⟨e9, hp⟩ := hp
        rw [e9] at hW
        refine lv_topi (fun x16 ex16 => ?_)
        rw [← ex16] at hp
        have hP17 := hp
        refine lv_istore (lv' := [(4, .int x16), (3, .int y6), (2, .int y7), (0, .ref (ad 72)), (1, .ref (ad 1))]) hx hb dX1_sell_28 hl (by decide) rfl (fun ls hl => ?_)
        have hq18 : zd_b (zd_B I) (zd_F I y6.toNatClampNeg).2.1 (I 72 2).toNatClampNeg = x16.toInt := by
          have b1 : zd_B I8 = zd_B I := funext fun j => by unfold zd_B; rw [lp5fr 5 j (z_wr_c (by decide))]
          have b2 : zd_v I8 = (zd_F I y6.toNatClampNeg).2.1 := funext lp5S.2.1
          rw [hP17, b1, b2, lp5fr 72 2 (by decide)]
        have hbb19 := zd_b_b (B := zd_B I) (sv := (zd_F I y6.toNatClampNeg).2.1) (I 72 2).toNatClampNeg
        have hcn20 := z_clt (x := (I 72 2)) rfl (by omega)
        refine lv_iload hx hb dX1_sell_30 (lv_at hl 0 rfl) ?_
        refine lv_if_lt (tgt := 42) hx hb dX1_sell_32 (by decide) (fun c21 => ?_) (fun c21 => ?_)
        · have g22 := z_f_lt rfl z_l0 c21
          have b23 := Int32.toInt_lt x16
          exact z_vret hx hb hr hK hS (Nat.le_of_ble_eq_true rfl) (Nat.le_of_ble_eq_true rfl) hlocks dX1_sell_42 (shC c, ad, I8, JX, PC c ad) hW ⟨I8, rfl, (by show 0 ≤ (I8 72 2).toInt ∧ (I8 72 2).toInt ≤ 30; exact lp5D), ⟨(by show 0 ≤ (I8 1 5).toInt ∧ (I8 1 5).toInt ≤ 30; exact lp5H.1), (by show 0 ≤ (I8 1 11).toInt ∧ (I8 1 11).toInt ≤ 200; exact lp5H.2)⟩, lp5fr, (fun j => by have q1 := z_clt (x := y6) rfl (by omega); have q2 := z_clt (x := (I 72 2)) rfl (by omega); have e9 : (zd_F I (I 72 2).toNatClampNeg) = (zd_F I y6.toNatClampNeg) := (by have e8 := zd_f_st (k := y6.toNatClampNeg) (show zd_b (zd_B I) (zd_F I y6.toNatClampNeg).2.1 (I 72 2).toNatClampNeg = -1 by rw [hq18]; omega) ((I 72 2).toNatClampNeg - y6.toNatClampNeg); rw [show y6.toNatClampNeg + ((I 72 2).toNatClampNeg - y6.toNatClampNeg) = (I 72 2).toNatClampNeg by omega] at e8; exact e8); rw [e9]; exact lp5S.1 j)⟩
        · have g24 := z_f_nlt rfl z_l0 c21
          have b25 := Int32.toInt_lt x16
          refine lv_iload hx hb dX1_sell_35 (lv_at hl 0 rfl) ?_
          refine lv_bipush (v := 30) hx hb dX1_sell_37 (by decide) ?_
          refine lv_icmp_lt (tgt := 43) hx hb dX1_sell_39 (by decide) (fun c26 => ?_) (fun c26 => ?_)
          · have g27 := z_f_lt rfl z_l30 c26
            refine lv_aload_n hx hb dX1_sell_43 rfl (lv_at hl 3 rfl) ?_
            refine z_get (T := TX1) (N := 3) (ci := 1) (i := 72) (v := .ref (ad 74)) hx hb hts zj_X1_sell_X1 hown hK hW rfl rfl 1 (by decide) (hts (.fieldLink RX1 15 "PetrolBoard$Deal" "served" "[I") (me_s (me_l (me_l (me_l (List.mem_of_getElem? (i := 0) rfl)))))) (fun _ h => h) rfl dX1_sell_44 ?_
            refine lv_iload hx hb dX1_sell_47 (lv_at hl 0 rfl) ?_
            refine lv_iconst (v := 1) hx hb dX1_sell_49 (by decide) ?_
            refine z_iast (i := 74) hx hb hK hW hS rfl (z_ix rfl (by omega) (by omega)) dX1_sell_50 (fun H locs hz1 hW hS => ?_)
            obtain ⟨I28, eI28⟩ : ∃ K : z_I, K = z_up I8 74 x16.toNatClampNeg 1 := ⟨_, rfl⟩
            rw [← eI28] at hW
            have f29 := z_fr_a lp5fr (show z_wa L_X1_sell_d 74 = true by decide) eI28
            refine lv_aload_n hx hb dX1_sell_51 rfl (lv_at hl 3 rfl) ?_
            refine z_get (T := TX1) (N := 3) (ci := 1) (i := 72) (v := .ref (ad 73)) hx hb hts zj_X1_sell_X1 hown hK hW rfl rfl 0 (by decide) (hts (.fieldLink RX1 9 "PetrolBoard$Deal" "units" "[I") (me_s (me_l (me_l (me_l (List.mem_of_getElem? (i := 2) rfl)))))) (fun _ h => h) rfl dX1_sell_52 ?_
            refine lv_iload hx hb dX1_sell_55 (lv_at hl 0 rfl) ?_
            refine lv_iload_n hx hb dX1_sell_57 rfl (lv_at hl 2 rfl) ?_
            refine lv_aload_n hx hb dX1_sell_58 rfl (lv_at hl 4 rfl) ?_
            refine z_get (T := TX2) (N := 12) (ci := 2) (i := 1) (v := .ref (ad 6)) hx hb hts zj_X1_sell_X2 hown hK hW rfl rfl 4 (by decide) (hts (.fieldLink RX1 36 "PetrolBoard$Holders" "need" "[I") (me_s (me_l (me_l (me_l (List.mem_of_getElem? (i := 3) rfl)))))) (fun _ h => h) rfl dX1_sell_59 ?_
            refine lv_iload hx hb dX1_sell_62 (lv_at hl 0 rfl) ?_
            refine z_iald (i := 6) hx hb hK hW rfl (z_ix rfl (by omega) (by omega)) dX1_sell_64 ?_
            refine lv_topi (fun x30 ex30 => ?_)
            have hv31 : (I28 6 x16.toNatClampNeg).toInt = x30.toInt := by rw [ex30]
            have hz32 := z_clt (x := x16) rfl (by omega)
            have hne33 : (I 6 x16.toNatClampNeg).toInt = x30.toInt := by rw [← f29 6 x16.toNatClampNeg (z_wr_c (by decide))]; exact hv31
            have hnb34 := hN x16.toNatClampNeg (by omega)
            refine va_mmin (x := y7) (y := x30) hx hb (hml.trans hl.1.symm) hown (hts (.methodLink RX1 41 Lib.Math.min.name) (me_s (me_l (me_l (me_l (List.mem_of_getElem? (i := 4) rfl)))))) (hts (.static Lib.Math.min.name) (me_s (me_l (me_l (me_l (List.mem_of_getElem? (i := 5) rfl)))))) (hts (.initialized "java/lang/Math") (me_s (me_l (me_l (me_l (List.mem_of_getElem? (i := 6) rfl)))))) (hts (.code Lib.Math.min.name Lib.Math.min.code 2 (some .int)) (me_s (me_l (me_l (me_l (List.mem_of_getElem? (i := 7) rfl)))))) (Nat.le_of_ble_eq_true rfl) (Nat.le_of_ble_eq_true rfl) (Nat.le_of_ble_eq_true rfl) (Nat.le_of_ble_eq_true rfl) dX1_sell_65 ?_
            refine lv_topi (fun x35 ex35 => ?_)
            have tx35 := z_tmmin ex35 rfl rfl
            refine z_iast (i := 73) hx hb hK hW hS rfl (z_ix rfl (by omega) (by omega)) dX1_sell_68 (fun H locs hz1 hW hS => ?_)
            obtain ⟨I36, eI36⟩ : ∃ K : z_I, K = z_up I28 73 x16.toNatClampNeg x35 := ⟨_, rfl⟩
            rw [← eI36] at hW
            have f37 := z_fr_a f29 (show z_wa L_X1_sell_d 73 = true by decide) eI36
            refine lv_iload_n hx hb dX1_sell_69 rfl (lv_at hl 2 rfl) ?_
            refine lv_aload_n hx hb dX1_sell_70 rfl (lv_at hl 3 rfl) ?_
            refine z_get (T := TX1) (N := 3) (ci := 1) (i := 72) (v := .ref (ad 73)) hx hb hts zj_X1_sell_X1 hown hK hW rfl rfl 0 (by decide) (hts (.fieldLink RX1 9 "PetrolBoard$Deal" "units" "[I") (me_s (me_l (me_l (me_l (List.mem_of_getElem? (i := 2) rfl)))))) (fun _ h => h) rfl dX1_sell_71 ?_
            refine lv_iload hx hb dX1_sell_74 (lv_at hl 0 rfl) ?_
            refine z_iald (i := 73) hx hb hK hW rfl (z_ix rfl (by omega) (by omega)) dX1_sell_76 ?_
            refine lv_topi (fun x38 ex38 => ?_)
            have hv39 : (I36 73 x16.toNatClampNeg).toInt = x38.toInt := by rw [ex38]
            have hz40 := z_clt (x := x16) rfl (by omega)
            have hw41 : x38 = x35 := by rw [ex38, eI36, z_up_s]
            have hw42 : x38.toInt = x35.toInt := by rw [ex38, eI36, z_up_s]
            refine lv_isub hx hb dX1_sell_77 ?_
            refine lv_topi (fun x43 ex43 => ?_)
            have tx43 : x43.toInt = y7.toInt - x38.toInt := z_tsub ex43 rfl rfl (by omega) (by omega)
            refine lv_istore_n (lv' := [(2, .int x43), (4, .int x16), (3, .int y6), (0, .ref (ad 72)), (1, .ref (ad 1))]) hx hb dX1_sell_78 rfl hl (by decide) rfl (fun ls hl => ?_)
            obtain ⟨x44, ex44⟩ : ∃ y : Int32, y = y6 + 1 := ⟨_, rfl⟩
            have tx44 : x44.toInt = y6.toInt + 1 := z_tadd ex44 rfl z_l1 (by omega) (by omega)
            refine lv_iinc (v := x44) (lv' := [(3, .int x44), (2, .int x43), (4, .int x16), (0, .ref (ad 72)), (1, .ref (ad 1))]) hx hb dX1_sell_79 hl (k := 2) rfl (by rw [ex44]; rfl) (by decide) rfl (fun ls hl => ?_)
            refine lv_goto (tgt := 15) hx hb dX1_sell_82 (by decide) ?_
            exact lp5ih x44 x43 I36  _ _ _ (by omega) (by omega) (by omega) (by omega) (by show 0 ≤ (I36 72 2).toInt ∧ (I36 72 2).toInt ≤ 30; rw [eI36, z_up_n (by decide), eI28, z_up_n (by decide)]; exact lp5D) ⟨(by show 0 ≤ (I36 1 5).toInt ∧ (I36 1 5).toInt ≤ 30; rw [eI36, z_up_n (by decide), eI28, z_up_n (by decide)]; exact lp5H.1), (by show 0 ≤ (I36 1 11).toInt ∧ (I36 1 11).toInt ≤ 200; rw [eI36, z_up_n (by decide), eI28, z_up_n (by decide)]; exact lp5H.2)⟩ (by have s9 := zd_step (k := y6.toNatClampNeg) lp5S.1 lp5S.2.1 lp5S.2.2.1 hq18 (by omega) eI28 (by decide) eI36 (show x35.toInt = min y7.toInt (I 6 x16.toNatClampNeg).toInt by rw [Int.min_def]; split <;> omega) (le1 := x43) (by omega); exact ⟨fun j => by rw [(show x44.toNatClampNeg = y6.toNatClampNeg + 1 from z_cln (by omega) (by omega))]; exact s9.1 j, fun j => by rw [(show x44.toNatClampNeg = y6.toNatClampNeg + 1 from z_cln (by omega) (by omega))]; exact s9.2.1 j, by rw [(show x44.toNatClampNeg = y6.toNatClampNeg + 1 from z_cln (by omega) (by omega))]; exact s9.2.2, by omega⟩) f37 hW hS (lv_sub hl [0, 1, 3, 4] rfl)
          · have g45 := z_f_nlt rfl z_l30 c26
            exact z_vret hx hb hr hK hS (Nat.le_of_ble_eq_true rfl) (Nat.le_of_ble_eq_true rfl) hlocks dX1_sell_42 (shC c, ad, I8, JX, PC c ad) hW ⟨I8, rfl, (by show 0 ≤ (I8 72 2).toInt ∧ (I8 72 2).toInt ≤ 30; exact lp5D), ⟨(by show 0 ≤ (I8 1 5).toInt ∧ (I8 1 5).toInt ≤ 30; exact lp5H.1), (by show 0 ≤ (I8 1 11).toInt ∧ (I8 1 11).toInt ≤ 200; exact lp5H.2)⟩, lp5fr, (fun j => by have q1 := z_clt (x := y6) rfl (by omega); have q2 := z_clt (x := (I 72 2)) rfl (by omega); have e9 : (zd_F I (I 72 2).toNatClampNeg) = (zd_F I y6.toNatClampNeg) := (by have e8 := zd_f_st (k := y6.toNatClampNeg) (show zd_b (zd_B I) (zd_F I y6.toNatClampNeg).2.1 (I 72 2).toNatClampNeg = -1 by rw [hq18]; omega) ((I 72 2).toNatClampNeg - y6.toNatClampNeg); rw [show y6.toNatClampNeg + ((I 72 2).toNatClampNeg - y6.toNatClampNeg) = (I 72 2).toNatClampNeg by omega] at e8; exact e8); rw [e9]; exact lp5S.1 j)⟩
  exact lp5 4294967296 (0) x1 I3  _ _ _ (z_m0u _) (by rw [z_l0]; omega) (by omega) (by omega) (by show 0 ≤ (I3 72 2).toInt ∧ (I3 72 2).toInt ≤ 30; rw [eI3, z_fi_n (by decide)]; exact hD) ⟨(by show 0 ≤ (I3 1 5).toInt ∧ (I3 1 5).toInt ≤ 30; rw [eI3, z_fi_n (by decide)]; exact hH.1), (by show 0 ≤ (I3 1 11).toInt ∧ (I3 1 11).toInt ≤ 200; rw [eI3, z_fi_n (by decide)]; exact hH.2)⟩ ⟨fun j => by rw [show (0 : Int32).toNatClampNeg = 0 by decide, eI3, z_fi_n (by decide)]; rfl, fun j => by rw [show (0 : Int32).toNatClampNeg = 0 by decide]; unfold zd_v; rw [eI3, zd_fi_s]; rfl, by rw [show (0 : Int32).toNatClampNeg = 0 by decide]; exact hP2.1, by have q0 := z_l0; omega⟩ f4 hW hS (lv_sub hl [0, 1, 2, 3] rfl)
noncomputable def L_X1_clear_d : z_L := [(72, 2)]
set_option maxHeartbeats 8000000 in
set_option maxRecDepth 100000 in
theorem sx_X1_clear_d (l : Launch) (G : z_G) (ad : Nat → Nat) (c : z_C) (I : z_I) (hD : z_iD I) : z_Mv l yX1_clear wsX1_clear { frames := 1, cells := 0, slots := 0, locals := 12 } [.ref (ad 72)] G (shC c, ad, I, JX, PC c ad) (fun u1 => ∃ I1 : z_I, u1 = (shC c, ad, I1, JX, PC c ad) ∧ z_iD I1 ∧ z_fr L_X1_clear_d I1 I ∧ (I1 72 2).toInt = 0) 0 0 := by
  intro sz
  refine z_headQ (cc := cX1_clear) (maxL := 1) (ret := none) (by decide) rfl (Nat.le_of_ble_eq_true rfl) ?_
  intro p e s m below meth c0 ls hIn hK hsz hW hl
  obtain ⟨hx, hb, hr, hml, hown, hts, hlocks, hname⟩ := hIn
  subst hsz
  have hown : s.vm.findClass RX1 = some m.cls := hown
  have hA : ∀ q : Nat, s.heap.size ≤ q → z_A (shC c, ad, I, JX, PC c ad) s.heap.size q := fun q h => Or.inr h
  generalize hAe : z_A (shC c, ad, I, JX, PC c ad) s.heap.size = A at *
  have hS : va_S A s.heap s.heap [] := va_S.rf
  have hl : lv_has ls 1 [(0, .ref (ad 72))] := hl
  refine lv_aload_n hx hb dX1_clear_0 rfl (lv_at hl 0 rfl) ?_
  refine lv_iconst (v := 0) hx hb dX1_clear_1 (by decide) ?_
  refine z_put (T := TX1) (N := 3) (ci := 1) (i := 72) (v := .int 0) (I1 := z_up I 72 2 0) (J1 := JX) (P1 := PC c ad) hx hb hts zj_X1_clear_X1 tyX1 tyX1_ok nmX1 hown hK hW hS rfl rfl 2 (by decide) (hts (.fieldLink RX1 18 "PetrolBoard$Deal" "number" "I") (me_s (me_l (List.mem_of_getElem? (i := 0) rfl)))) (fun _ h => h) rfl rfl rfl (by first | rfl | exact congrArg _ z_up_s) (fun a b h ty => z_vI h ty) dX1_clear_2 (fun H locs hz1 hW hS => ?_)
  obtain ⟨I1, eI1⟩ : ∃ K : z_I, K = z_up I 72 2 0 := ⟨_, rfl⟩
  rw [← eI1] at hW
  have f2 := z_fr_k z_fr_0 (show z_wr L_X1_clear_d 72 2 = true by decide) eI1
  exact z_vret hx hb hr hK hS (Nat.le_of_ble_eq_true rfl) (Nat.le_of_ble_eq_true rfl) hlocks dX1_clear_5 (shC c, ad, I1, JX, PC c ad) hW ⟨I1, rfl, (by show 0 ≤ (I1 72 2).toInt ∧ (I1 72 2).toInt ≤ 30; rw [eI1, z_up_s]; decide), f2, (by rw [eI1, z_up_s]; decide)⟩
noncomputable def L_X11_dealOut_d : z_L := [(72, 2), (73, 999), (74, 999), (24, 999), (25, 999)]
set_option maxHeartbeats 8000000 in
set_option maxRecDepth 100000 in
theorem sx_X11_dealOut_d (l : Launch) (G : z_G) (ad : Nat → Nat) (c : z_C) (I : z_I) (hH : z_iH I) (hD : z_iD I) (hO : z_iO I) (hB : z_iB I) (SS : Nat → List zp_T) (a1 : Int32) (a2 : Int32) (hc : z_okc c) (h10 : c.1 ≤ 10) (hWu : zv_W c I SS) (q2 : 0 ≤ a2.toInt ∧ a2.toInt ≤ 23) (hN : ∀ j : Nat, (j : Int) < (I 1 5).toInt → 0 ≤ (I 6 j).toInt ∧ (I 6 j).toInt ≤ 99) : z_Mv l yX11_dealOut wsX11_dealOut { frames := 6, cells := 0, slots := 0, locals := 160 } [.ref (ad 0), .int a1, .int a2] G (shC c, ad, I, JX, PC c ad) (fun u1 => ∃ I1 : z_I, u1 = (shC c, ad, I1, JX, PC c ad) ∧ z_iH I1 ∧ z_iD I1 ∧ z_iO I1 ∧ z_iB I1 ∧ z_fr L_X11_dealOut_d I1 I ∧ ((I1 72 2).toInt = (I 1 5).toInt ∧ ∀ j : Nat, (j : Int) < (I 1 5).toInt → (I1 73 j).toInt = zd_D (zd_U c I SS a2.toInt) (zd_B I) (zd_N I) (I 1 5).toNatClampNeg a1.toInt j)) 0 0 := by
  intro sz
  refine z_headQ (cc := cX11_dealOut) (maxL := 4) (ret := none) (by decide) rfl (Nat.le_of_ble_eq_true rfl) ?_
  intro p e s m below meth c0 ls hIn hK hsz hW hl
  obtain ⟨hx, hb, hr, hml, hown, hts, hlocks, hname⟩ := hIn
  subst hsz
  have hown : s.vm.findClass RX11 = some m.cls := hown
  have hA : ∀ q : Nat, s.heap.size ≤ q → z_A (shC c, ad, I, JX, PC c ad) s.heap.size q := fun q h => Or.inr h
  generalize hAe : z_A (shC c, ad, I, JX, PC c ad) s.heap.size = A at *
  have hS : va_S A s.heap s.heap [] := va_S.rf
  have hl : lv_has ls 4 [(0, .ref (ad 0)), (1, .int a1), (2, .int a2)] := hl
  refine lv_aload_n hx hb dX11_dealOut_0 rfl (lv_at hl 0 rfl) ?_
  refine z_get (T := TX11) (N := 13) (ci := 11) (i := 0) (v := .ref (ad 72)) hx hb hts zj_X11_dealOut_X11 hown hK hW rfl rfl 12 (by decide) (hts (.fieldLink RX11 75 "PetrolBoard" "deal" "LPetrolBoard$Deal;") (me_s (me_l (me_l (me_l (me_l (me_l (me_l (me_l (List.mem_of_getElem? (i := 0) rfl)))))))))) (fun _ h => h) rfl dX11_dealOut_1 ?_
  refine z_cv hW hS hA (va_runV (As := []) (rest := []) ⟨hx, hb, hml, hown, hts⟩ (sx_X1_clear_d l G ad c I (by show 0 ≤ (I 72 2).toInt ∧ (I 72 2).toInt ≤ 30; exact hD)  _) (cwV 0 hts gX11_dealOut_X1_clear rfl rfl rfl (by decide +kernel) ⟨Nat.le_of_ble_eq_true rfl, Nat.le_of_ble_eq_true rfl⟩) (z_preV (i := 72) hK hW rfl rfl) rfl rfl hl.1 rfl (lv_room (Nat.le_of_ble_eq_true rfl)) dX11_dealOut_4 ⟨Nat.le_of_ble_eq_true rfl, Nat.le_of_ble_eq_true rfl⟩) (fun u1 H locs hp hW hS => ?_)
  obtain ⟨I1, e9, hI1D, fI1, hp⟩ := hp
  rw [e9] at hW
  have f2 := z_fr_sub (L := L_X11_dealOut_d) z_fr_0 fI1 (by decide)
  have k3 : 0 ≤ (I1 1 5).toInt ∧ (I1 1 5).toInt ≤ 30 := by rw [fI1 1 5 (by decide)]; exact (by show 0 ≤ (I 1 5).toInt ∧ (I 1 5).toInt ≤ 30; exact hH.1)
  have k4 : 0 ≤ (I1 1 11).toInt ∧ (I1 1 11).toInt ≤ 200 := by rw [fI1 1 11 (by decide)]; exact (by show 0 ≤ (I 1 11).toInt ∧ (I 1 11).toInt ≤ 200; exact hH.2)
  have k5 : 0 ≤ (I1 21 2).toInt ∧ (I1 21 2).toInt ≤ 12 := by rw [fI1 21 2 (by decide)]; exact (by show 0 ≤ (I 21 2).toInt ∧ (I 21 2).toInt ≤ 12; exact hO)
  have k6 : 0 ≤ (I1 0 0).toInt ∧ (I1 0 0).toInt ≤ 719 := by rw [fI1 0 0 (by decide)]; exact (by show 0 ≤ (I 0 0).toInt ∧ (I 0 0).toInt ≤ 719; exact hB.1)
  have k7 : 0 ≤ (I1 0 8).toInt ∧ (I1 0 8).toInt ≤ 10 := by rw [fI1 0 8 (by decide)]; exact (by show 0 ≤ (I 0 8).toInt ∧ (I 0 8).toInt ≤ 10; exact hB.2)
  have hC8 := hp
  refine lv_iconst (v := 0) hx hb dX11_dealOut_7 (by decide) ?_
  refine lv_istore_n (lv' := [(3, .int 0), (0, .ref (ad 0)), (1, .int a1), (2, .int a2)]) hx hb dX11_dealOut_8 rfl hl (by decide) rfl (fun ls hl => ?_)
  have lp9 : ∀ (f : Nat) (y10 : Int32) (I11 : z_I) (H : Heap) (locs : List Loc) (ls : Array Slot), (2147483647 < y10.toInt + (f : Int)) → (0 ≤ y10.toInt) → (z_iH I11) → (z_iD I11) → (z_iO I11) → (z_iB I11) → ((∀ h : Nat, (h : Int) < y10.toInt → (I11 73 h).toInt = (zd_U c I SS a2.toInt) h ∧ 0 ≤ (I11 73 h).toInt ∧ (I11 73 h).toInt ≤ 99) ∧ (I11 72 2).toInt = y10.toInt ∧ y10.toInt ≤ (I 1 5).toInt) → (z_fr L_X11_dealOut_d I11 I) → z_W G A (shC c, ad, I11, JX, PC c ad) H → va_S A s.heap H locs → lv_has ls 4 [(3, .int y10), (0, .ref (ad 0)), (1, .int a1), (2, .int a2)] → W p l e (headSpec wsX11_dealOut { frames := 6, cells := 0, slots := 0, locals := 160 }).room s m ([.ref (ad 0), .int a1, .int a2] : List Value).toArray below meth c0 H locs 0 0 (MQ below (va_Qv (fun (u1 : z_U) => ∃ I1 : z_I, u1 = (shC c, ad, I1, JX, PC c ad) ∧ z_iH I1 ∧ z_iD I1 ∧ z_iO I1 ∧ z_iB I1 ∧ z_fr L_X11_dealOut_d I1 I ∧ ((I1 72 2).toInt = (I 1 5).toInt ∧ ∀ j : Nat, (j : Int) < (I 1 5).toInt → (I1 73 j).toInt = zd_D (zd_U c I SS a2.toInt) (zd_B I) (zd_N I) (I 1 5).toNatClampNeg a1.toInt j)) (z_B G A) A) ([.ref (ad 0), .int a1, .int a2] : List Value).toArray s 0 0 A) (F0 m 9 ls []) := by
    intro f
    induction f with
    | zero => intro y10 I11  H locs ls lp9m lp9l3 lp9H lp9D lp9O lp9B lp9U lp9fr hW hS hl; exact absurd lp9m (by have := Int32.toInt_lt y10; have := Int32.le_toInt y10; omega)
    | succ f lp9ih =>
      intro y10 I11  H locs ls lp9m lp9l3 lp9H lp9D lp9O lp9B lp9U lp9fr hW hS hl
      refine lv_iload_n hx hb dX11_dealOut_9 rfl (lv_at hl 0 rfl) ?_
      have hn12 : (I11 1 5).toInt = (I 1 5).toInt := by rw [lp9fr 1 5 (by decide)]
      refine lv_aload_n hx hb dX11_dealOut_10 rfl (lv_at hl 1 rfl) ?_
      refine z_get (T := TX11) (N := 13) (ci := 11) (i := 0) (v := .ref (ad 1)) hx hb hts zj_X11_dealOut_X11 hown hK hW rfl rfl 2 (by decide) (hts (.fieldLink RX11 16 "PetrolBoard" "holders" "LPetrolBoard$Holders;") (me_s (me_l (me_l (me_l (me_l (me_l (me_l (me_l (List.mem_of_getElem? (i := 1) rfl)))))))))) (fun _ h => h) rfl dX11_dealOut_11 ?_
      have r13 : 0 ≤ (I11 1 5).toInt ∧ (I11 1 5).toInt ≤ 30 := lp9H.1
      refine z_get (T := TX2) (N := 12) (ci := 2) (i := 1) (v := .int (I11 1 5)) hx hb hts zj_X11_dealOut_X2 hown hK hW rfl rfl 5 (by decide) (hts (.fieldLink RX11 373 "PetrolBoard$Holders" "number" "I") (me_s (me_l (me_l (me_l (me_l (me_l (me_l (me_l (List.mem_of_getElem? (i := 2) rfl)))))))))) (fun _ h => h) rfl dX11_dealOut_14 ?_
      refine lv_icmp_ge (tgt := 50) hx hb dX11_dealOut_17 (by decide) (fun c14 => ?_) (fun c14 => ?_)
      · have g15 := z_f_ge rfl rfl c14
        have b16 := Int32.toInt_lt y10
        refine lv_iload_n hx hb dX11_dealOut_50 rfl (lv_at hl 2 rfl) ?_
        refine lv_iconst (v := 1) hx hb dX11_dealOut_51 (by decide) ?_
        refine lv_icmp_ne (tgt := 65) hx hb dX11_dealOut_52 (by decide) (fun c17 => ?_) (fun c17 => ?_)
        · have g18 := z_f_ne rfl z_l1 c17
          have b19 := Int32.toInt_lt a1
          refine lv_iload_n hx hb dX11_dealOut_65 rfl (lv_at hl 2 rfl) ?_
          refine lv_iconst (v := 2) hx hb dX11_dealOut_66 (by decide) ?_
          refine lv_icmp_ne (tgt := 81) hx hb dX11_dealOut_67 (by decide) (fun c20 => ?_) (fun c20 => ?_)
          · have g21 := z_f_ne rfl z_l2 c20
            exact z_vret hx hb hr hK hS (Nat.le_of_ble_eq_true rfl) (Nat.le_of_ble_eq_true rfl) hlocks dX11_dealOut_81 (shC c, ad, I11, JX, PC c ad) hW ⟨I11, rfl, ⟨(by show 0 ≤ (I11 1 5).toInt ∧ (I11 1 5).toInt ≤ 30; exact lp9H.1), (by show 0 ≤ (I11 1 11).toInt ∧ (I11 1 11).toInt ≤ 200; exact lp9H.2)⟩, (by show 0 ≤ (I11 72 2).toInt ∧ (I11 72 2).toInt ≤ 30; exact lp9D), (by show 0 ≤ (I11 21 2).toInt ∧ (I11 21 2).toInt ≤ 12; exact lp9O), ⟨(by show 0 ≤ (I11 0 0).toInt ∧ (I11 0 0).toInt ≤ 719; exact lp9B.1), (by show 0 ≤ (I11 0 8).toInt ∧ (I11 0 8).toInt ≤ 10; exact lp9B.2)⟩, lp9fr, (by have c1 := z_clt (x := y10) rfl (by omega); have c2 := z_clt (x := I 1 5) rfl (by have q9 := hH.1; omega); have c3 := z_clt (x := (I11 72 2)) rfl (by omega); have n9 : (I11 72 2).toNatClampNeg = (I 1 5).toNatClampNeg := (by omega); exact ⟨by omega, fun j hj => by rw [zd_D_0 (by omega) (by omega)]; exact (lp9U.1 j (by omega)).1⟩)⟩
          · have g22 := z_f_eq rfl z_l2 c20
            refine lv_aload_n hx hb dX11_dealOut_70 rfl (lv_at hl 1 rfl) ?_
            refine z_get (T := TX11) (N := 13) (ci := 11) (i := 0) (v := .ref (ad 72)) hx hb hts zj_X11_dealOut_X11 hown hK hW rfl rfl 12 (by decide) (hts (.fieldLink RX11 75 "PetrolBoard" "deal" "LPetrolBoard$Deal;") (me_s (me_l (me_l (me_l (me_l (me_l (me_l (me_l (List.mem_of_getElem? (i := 0) rfl)))))))))) (fun _ h => h) rfl dX11_dealOut_71 ?_
            refine lv_aload_n hx hb dX11_dealOut_74 rfl (lv_at hl 1 rfl) ?_
            refine z_get (T := TX11) (N := 13) (ci := 11) (i := 0) (v := .ref (ad 1)) hx hb hts zj_X11_dealOut_X11 hown hK hW rfl rfl 2 (by decide) (hts (.fieldLink RX11 16 "PetrolBoard" "holders" "LPetrolBoard$Holders;") (me_s (me_l (me_l (me_l (me_l (me_l (me_l (me_l (List.mem_of_getElem? (i := 1) rfl)))))))))) (fun _ h => h) rfl dX11_dealOut_75 ?_
            refine z_cv hW hS hA (va_runV (As := [.ref (ad 1)]) (rest := []) ⟨hx, hb, hml, hown, hts⟩ (sx_X1_sell_d l G ad c I11 (by show 0 ≤ (I11 72 2).toInt ∧ (I11 72 2).toInt ≤ 30; exact lp9D) ⟨(by show 0 ≤ (I11 1 5).toInt ∧ (I11 1 5).toInt ≤ 30; exact lp9H.1), (by show 0 ≤ (I11 1 11).toInt ∧ (I11 1 11).toInt ≤ 200; exact lp9H.2)⟩ (fun j hj => (lp9U.1 j (by omega)).2) (by omega) (fun j hj => by rw [lp9fr 6 j (z_wr_c (by decide))]; exact hN j (by omega)) _) (cwV 1 hts gX11_dealOut_X1_sell rfl rfl rfl (by decide +kernel) ⟨Nat.le_of_ble_eq_true rfl, Nat.le_of_ble_eq_true rfl⟩) (z_preV (i := 72) hK hW rfl rfl) rfl rfl hl.1 rfl (lv_room (Nat.le_of_ble_eq_true rfl)) dX11_dealOut_78 ⟨Nat.le_of_ble_eq_true rfl, Nat.le_of_ble_eq_true rfl⟩) (fun u1 H locs hp hW hS => ?_)
            obtain ⟨I23, e9, hI23D, hI23H, fI23, hp⟩ := hp
            rw [e9] at hW
            have f24 := z_fr_sub (L := L_X11_dealOut_d) lp9fr fI23 (by decide)
            have k25 : (I23 1 5).toInt = (I11 1 5).toInt := by rw [fI23 1 5 (by decide)]
            have k26 : 0 ≤ (I23 21 2).toInt ∧ (I23 21 2).toInt ≤ 12 := by rw [fI23 21 2 (by decide)]; exact (by show 0 ≤ (I11 21 2).toInt ∧ (I11 21 2).toInt ≤ 12; exact lp9O)
            have k27 : 0 ≤ (I23 0 0).toInt ∧ (I23 0 0).toInt ≤ 719 := by rw [fI23 0 0 (by decide)]; exact (by show 0 ≤ (I11 0 0).toInt ∧ (I11 0 0).toInt ≤ 719; exact lp9B.1)
            have k28 : 0 ≤ (I23 0 8).toInt ∧ (I23 0 8).toInt ≤ 10 := by rw [fI23 0 8 (by decide)]; exact (by show 0 ≤ (I11 0 8).toInt ∧ (I11 0 8).toInt ≤ 10; exact lp9B.2)
            have hE29 := hp
            exact z_vret hx hb hr hK hS (Nat.le_of_ble_eq_true rfl) (Nat.le_of_ble_eq_true rfl) hlocks dX11_dealOut_81 (shC c, ad, I23, JX, PC c ad) hW ⟨I23, rfl, ⟨(by show 0 ≤ (I23 1 5).toInt ∧ (I23 1 5).toInt ≤ 30; exact hI23H.1), (by show 0 ≤ (I23 1 11).toInt ∧ (I23 1 11).toInt ≤ 200; exact hI23H.2)⟩, (by show 0 ≤ (I23 72 2).toInt ∧ (I23 72 2).toInt ≤ 30; exact hI23D), (by show 0 ≤ (I23 21 2).toInt ∧ (I23 21 2).toInt ≤ 12; exact k26), ⟨(by show 0 ≤ (I23 0 0).toInt ∧ (I23 0 0).toInt ≤ 719; exact k27), (by show 0 ≤ (I23 0 8).toInt ∧ (I23 0 8).toInt ≤ 10; exact k28)⟩, f24, (by have c1 := z_clt (x := y10) rfl (by omega); have c2 := z_clt (x := I 1 5) rfl (by have q9 := hH.1; omega); have c3 := z_clt (x := (I11 72 2)) rfl (by omega); have n9 : (I11 72 2).toNatClampNeg = (I 1 5).toNatClampNeg := (by omega); have s9 : zd_S (zd_u I11) (I 1 5).toNatClampNeg = zd_S (zd_U c I SS a2.toInt) (I 1 5).toNatClampNeg := zd_S_c _ (fun j hj => (lp9U.1 j (by omega)).1); have b1 : zd_B I11 = zd_B I := (funext fun j => by unfold zd_B; rw [lp9fr 5 j (z_wr_c (by decide))]); have b2 : zd_N I11 = zd_N I := (funext fun j => by unfold zd_N; rw [lp9fr 6 j (z_wr_c (by decide))]); exact ⟨by rw [fI23 72 2 (by decide)]; omega, fun j hj => by rw [hE29 j]; unfold zd_F; rw [n9, b1, b2, s9, zd_D_2 (by omega)]; exact (zd_f_c (D0 := (zd_U c I SS a2.toInt)) (D1 := zd_u I11) (fun i hi => (lp9U.1 i (by omega)).1) (I 1 5).toNatClampNeg).1 j (by omega)⟩)⟩
        · have g30 := z_f_eq rfl z_l1 c17
          have b31 := Int32.toInt_lt a1
          refine lv_aload_n hx hb dX11_dealOut_55 rfl (lv_at hl 1 rfl) ?_
          refine z_get (T := TX11) (N := 13) (ci := 11) (i := 0) (v := .ref (ad 72)) hx hb hts zj_X11_dealOut_X11 hown hK hW rfl rfl 12 (by decide) (hts (.fieldLink RX11 75 "PetrolBoard" "deal" "LPetrolBoard$Deal;") (me_s (me_l (me_l (me_l (me_l (me_l (me_l (me_l (List.mem_of_getElem? (i := 0) rfl)))))))))) (fun _ h => h) rfl dX11_dealOut_56 ?_
          refine z_cv hW hS hA (va_runV (As := []) (rest := []) ⟨hx, hb, hml, hown, hts⟩ (sx_X1_alike_d l G ad c I11 (by show 0 ≤ (I11 72 2).toInt ∧ (I11 72 2).toInt ≤ 30; exact lp9D) (fun j hj => (lp9U.1 j (by omega)).2) _) (cwV 0 hts gX11_dealOut_X1_alike rfl rfl rfl (by decide +kernel) ⟨Nat.le_of_ble_eq_true rfl, Nat.le_of_ble_eq_true rfl⟩) (z_preV (i := 72) hK hW rfl rfl) rfl rfl hl.1 rfl (lv_room (Nat.le_of_ble_eq_true rfl)) dX11_dealOut_59 ⟨Nat.le_of_ble_eq_true rfl, Nat.le_of_ble_eq_true rfl⟩) (fun u1 H locs hp hW hS => ?_)
          obtain ⟨I32, e9, hI32D, fI32, hp⟩ := hp
          rw [e9] at hW
          have f33 := z_fr_sub (L := L_X11_dealOut_d) lp9fr fI32 (by decide)
          have k34 : 0 ≤ (I32 1 5).toInt ∧ (I32 1 5).toInt ≤ 30 := by rw [fI32 1 5 (by decide)]; exact (by show 0 ≤ (I11 1 5).toInt ∧ (I11 1 5).toInt ≤ 30; exact lp9H.1)
          have k35 : 0 ≤ (I32 1 11).toInt ∧ (I32 1 11).toInt ≤ 200 := by rw [fI32 1 11 (by decide)]; exact (by show 0 ≤ (I11 1 11).toInt ∧ (I11 1 11).toInt ≤ 200; exact lp9H.2)
          have k36 : 0 ≤ (I32 21 2).toInt ∧ (I32 21 2).toInt ≤ 12 := by rw [fI32 21 2 (by decide)]; exact (by show 0 ≤ (I11 21 2).toInt ∧ (I11 21 2).toInt ≤ 12; exact lp9O)
          have k37 : 0 ≤ (I32 0 0).toInt ∧ (I32 0 0).toInt ≤ 719 := by rw [fI32 0 0 (by decide)]; exact (by show 0 ≤ (I11 0 0).toInt ∧ (I11 0 0).toInt ≤ 719; exact lp9B.1)
          have k38 : 0 ≤ (I32 0 8).toInt ∧ (I32 0 8).toInt ≤ 10 := by rw [fI32 0 8 (by decide)]; exact (by show 0 ≤ (I11 0 8).toInt ∧ (I11 0 8).toInt ≤ 10; exact lp9B.2)
          have hL39 := hp
          refine lv_goto (tgt := 81) hx hb dX11_dealOut_62 (by decide) ?_
          exact z_vret hx hb hr hK hS (Nat.le_of_ble_eq_true rfl) (Nat.le_of_ble_eq_true rfl) hlocks dX11_dealOut_81 (shC c, ad, I32, JX, PC c ad) hW ⟨I32, rfl, ⟨(by show 0 ≤ (I32 1 5).toInt ∧ (I32 1 5).toInt ≤ 30; exact k34), (by show 0 ≤ (I32 1 11).toInt ∧ (I32 1 11).toInt ≤ 200; exact k35)⟩, (by show 0 ≤ (I32 72 2).toInt ∧ (I32 72 2).toInt ≤ 30; exact hI32D), (by show 0 ≤ (I32 21 2).toInt ∧ (I32 21 2).toInt ≤ 12; exact k36), ⟨(by show 0 ≤ (I32 0 0).toInt ∧ (I32 0 0).toInt ≤ 719; exact k37), (by show 0 ≤ (I32 0 8).toInt ∧ (I32 0 8).toInt ≤ 10; exact k38)⟩, f33, (by have c1 := z_clt (x := y10) rfl (by omega); have c2 := z_clt (x := I 1 5) rfl (by have q9 := hH.1; omega); have c3 := z_clt (x := (I11 72 2)) rfl (by omega); have n9 : (I11 72 2).toNatClampNeg = (I 1 5).toNatClampNeg := (by omega); have s9 : zd_S (zd_u I11) (I 1 5).toNatClampNeg = zd_S (zd_U c I SS a2.toInt) (I 1 5).toNatClampNeg := zd_S_c _ (fun j hj => (lp9U.1 j (by omega)).1); exact ⟨by rw [fI32 72 2 (by decide)]; omega, fun j hj => by rw [hL39 j (by omega), n9, s9, zd_D_1 (by omega), show (I11 72 2).toInt = ((I 1 5).toNatClampNeg : Int) by omega]⟩)⟩
      · have g40 := z_f_nge rfl rfl c14
        have b41 := Int32.toInt_lt y10
        refine lv_aload_n hx hb dX11_dealOut_20 rfl (lv_at hl 1 rfl) ?_
        refine z_get (T := TX11) (N := 13) (ci := 11) (i := 0) (v := .ref (ad 72)) hx hb hts zj_X11_dealOut_X11 hown hK hW rfl rfl 12 (by decide) (hts (.fieldLink RX11 75 "PetrolBoard" "deal" "LPetrolBoard$Deal;") (me_s (me_l (me_l (me_l (me_l (me_l (me_l (me_l (List.mem_of_getElem? (i := 0) rfl)))))))))) (fun _ h => h) rfl dX11_dealOut_21 ?_
        refine lv_aload_n hx hb dX11_dealOut_24 rfl (lv_at hl 1 rfl) ?_
        refine z_get (T := TX11) (N := 13) (ci := 11) (i := 0) (v := .ref (ad 21)) hx hb hts zj_X11_dealOut_X11 hown hK hW rfl rfl 4 (by decide) (hts (.fieldLink RX11 30 "PetrolBoard" "orderBook" "LPetrolBoard$OrderBook;") (me_s (me_l (me_l (me_l (me_l (me_l (me_l (me_l (List.mem_of_getElem? (i := 3) rfl)))))))))) (fun _ h => h) rfl dX11_dealOut_25 ?_
        refine lv_aload_n hx hb dX11_dealOut_28 rfl (lv_at hl 1 rfl) ?_
        refine z_get (T := TX11) (N := 13) (ci := 11) (i := 0) (v := .ref (ad 1)) hx hb hts zj_X11_dealOut_X11 hown hK hW rfl rfl 2 (by decide) (hts (.fieldLink RX11 16 "PetrolBoard" "holders" "LPetrolBoard$Holders;") (me_s (me_l (me_l (me_l (me_l (me_l (me_l (me_l (List.mem_of_getElem? (i := 1) rfl)))))))))) (fun _ h => h) rfl dX11_dealOut_29 ?_
        refine lv_iload_n hx hb dX11_dealOut_32 rfl (lv_at hl 0 rfl) ?_
        refine lv_iload_n hx hb dX11_dealOut_33 rfl (lv_at hl 3 rfl) ?_
        refine lv_aload_n hx hb dX11_dealOut_34 rfl (lv_at hl 1 rfl) ?_
        have r42 : 0 ≤ (I11 0 0).toInt ∧ (I11 0 0).toInt ≤ 719 := lp9B.1
        refine z_get (T := TX11) (N := 13) (ci := 11) (i := 0) (v := .int (I11 0 0)) hx hb hts zj_X11_dealOut_X11 hown hK hW rfl rfl 0 (by decide) (hts (.fieldLink RX11 85 "PetrolBoard" "today" "I") (me_s (me_l (me_l (me_l (me_l (me_l (me_l (me_l (List.mem_of_getElem? (i := 4) rfl)))))))))) (fun _ h => h) rfl dX11_dealOut_35 ?_
        refine z_ci hW hS hA (va_runV (As := [.ref (ad 1), .int y10, .int a2, .int (I11 0 0)]) (rest := [.ref (ad 72)]) ⟨hx, hb, hml, hown, hts⟩ (sx_X6_unitsOf_x l G ad c I11 (by show 0 ≤ (I11 21 2).toInt ∧ (I11 21 2).toInt ≤ 12; exact lp9O) ⟨(by show 0 ≤ (I11 1 5).toInt ∧ (I11 1 5).toInt ≤ 30; exact lp9H.1), (by show 0 ≤ (I11 1 11).toInt ∧ (I11 1 11).toInt ≤ 200; exact lp9H.2)⟩ SS y10 a2 (I11 0 0) hc (zd_X_c hWu (lp9fr 21 2 (by decide)) (zv_fr2 lp9fr (by decide)) (fun j => ⟨lp9fr 7 j (z_wr_c (by decide)), lp9fr 8 j (z_wr_c (by decide)), lp9fr 9 j (z_wr_c (by decide)), lp9fr 10 j (z_wr_c (by decide)), lp9fr 11 j (z_wr_c (by decide))⟩) (lp9fr 1 11 (by decide)) (lp9fr 1 5 (by decide)) (fun j => ⟨lp9fr 2 j (z_wr_c (by decide)), lp9fr 3 j (z_wr_c (by decide))⟩)) (by omega) (by omega) _) (cwV 4 hts gX11_dealOut_X6_unitsOf rfl rfl rfl (by decide +kernel) ⟨Nat.le_of_ble_eq_true rfl, Nat.le_of_ble_eq_true rfl⟩) (z_preV (i := 21) hK hW rfl rfl) rfl rfl hl.1 rfl (lv_room (Nat.le_of_ble_eq_true rfl)) dX11_dealOut_38 ⟨Nat.le_of_ble_eq_true rfl, Nat.le_of_ble_eq_true rfl⟩) (fun r u1 H locs hp hW hS => ?_)
        obtain ⟨I43, e9, hI43O, hI43H, fI43, hp⟩ := hp
        rw [e9] at hW
        have f44 := z_fr_sub (L := L_X11_dealOut_d) lp9fr fI43 (by decide)
        have k45 : (I43 1 5).toInt = (I11 1 5).toInt := by rw [fI43 1 5 (by decide)]
        have k46 : 0 ≤ (I43 72 2).toInt ∧ (I43 72 2).toInt ≤ 30 := by rw [fI43 72 2 (by decide)]; exact (by show 0 ≤ (I11 72 2).toInt ∧ (I11 72 2).toInt ≤ 30; exact lp9D)
        have k47 : 0 ≤ (I43 0 0).toInt ∧ (I43 0 0).toInt ≤ 719 := by rw [fI43 0 0 (by decide)]; exact (by show 0 ≤ (I11 0 0).toInt ∧ (I11 0 0).toInt ≤ 719; exact lp9B.1)
        have k48 : 0 ≤ (I43 0 8).toInt ∧ (I43 0 8).toInt ≤ 10 := by rw [fI43 0 8 (by decide)]; exact (by show 0 ≤ (I11 0 8).toInt ∧ (I11 0 8).toInt ≤ 10; exact lp9B.2)
        refine lv_topi (fun x49 ex49 => ?_)
        rw [← ex49] at hp
        have hb51 := z_UX_b hp
        have hU50 : x49.toInt = (zd_U c I SS a2.toInt) y10.toNatClampNeg := zd_U_e (by omega) (zv_UX_c (zv_fr2 lp9fr (by decide)) (fun j => ⟨lp9fr 7 j (z_wr_c (by decide)), lp9fr 8 j (z_wr_c (by decide)), lp9fr 9 j (z_wr_c (by decide)), lp9fr 10 j (z_wr_c (by decide)), lp9fr 11 j (z_wr_c (by decide))⟩) (lp9fr 1 11 (by decide)) (fun j => ⟨lp9fr 2 j (z_wr_c (by decide)), lp9fr 3 j (z_wr_c (by decide))⟩) (by have q9 := hp; rw [show (I11 0 0).toInt = (I 0 0).toInt by rw [lp9fr 0 0 (by decide)]] at q9; exact q9))
        refine z_cv hW hS hA (va_runV (As := [.int x49]) (rest := []) ⟨hx, hb, hml, hown, hts⟩ (sx_X1_put_d l G ad c I43 (by show 0 ≤ (I43 72 2).toInt ∧ (I43 72 2).toInt ≤ 30; exact k46) x49 (by have q9 := hH.1; have q8 : (I43 72 2).toInt = (I11 72 2).toInt := (by rw [fI43 72 2 (by decide)]); omega) _) (cwV 1 hts gX11_dealOut_X1_put rfl rfl rfl (by decide +kernel) ⟨Nat.le_of_ble_eq_true rfl, Nat.le_of_ble_eq_true rfl⟩) (z_preV (i := 72) hK hW rfl rfl) rfl rfl hl.1 rfl (lv_room (Nat.le_of_ble_eq_true rfl)) dX11_dealOut_41 ⟨Nat.le_of_ble_eq_true rfl, Nat.le_of_ble_eq_true rfl⟩) (fun u1 H locs hp hW hS => ?_)
        obtain ⟨I52, e9, hI52D, fI52, hp⟩ := hp
        rw [e9] at hW
        have f53 := z_fr_sub (L := L_X11_dealOut_d) f44 fI52 (by decide)
        have k54 : 0 ≤ (I52 1 5).toInt ∧ (I52 1 5).toInt ≤ 30 := by rw [fI52 1 5 (by decide)]; exact (by show 0 ≤ (I43 1 5).toInt ∧ (I43 1 5).toInt ≤ 30; exact hI43H.1)
        have k55 : 0 ≤ (I52 1 11).toInt ∧ (I52 1 11).toInt ≤ 200 := by rw [fI52 1 11 (by decide)]; exact (by show 0 ≤ (I43 1 11).toInt ∧ (I43 1 11).toInt ≤ 200; exact hI43H.2)
        have k56 : 0 ≤ (I52 21 2).toInt ∧ (I52 21 2).toInt ≤ 12 := by rw [fI52 21 2 (by decide)]; exact (by show 0 ≤ (I43 21 2).toInt ∧ (I43 21 2).toInt ≤ 12; exact hI43O)
        have k57 : 0 ≤ (I52 0 0).toInt ∧ (I52 0 0).toInt ≤ 719 := by rw [fI52 0 0 (by decide)]; exact (by show 0 ≤ (I43 0 0).toInt ∧ (I43 0 0).toInt ≤ 719; exact k47)
        have k58 : 0 ≤ (I52 0 8).toInt ∧ (I52 0 8).toInt ≤ 10 := by rw [fI52 0 8 (by decide)]; exact (by show 0 ≤ (I43 0 8).toInt ∧ (I43 0 8).toInt ≤ 10; exact k48)
        have hU59 := hp
        obtain ⟨x60, ex60⟩ : ∃ y : Int32, y = y10 + 1 := ⟨_, rfl⟩
        have tx60 : x60.toInt = y10.toInt + 1 := z_tadd ex60 rfl z_l1 (by omega) (by omega)
        refine lv_iinc (v := x60) (lv' := [(3, .int x60), (0, .ref (ad 0)), (1, .int a1), (2, .int a2)]) hx hb dX11_dealOut_44 hl (k := 0) rfl (by rw [ex60]; rfl) (by decide) rfl (fun ls hl => ?_)
        refine lv_goto (tgt := 9) hx hb dX11_dealOut_47 (by decide) ?_
        exact lp9ih x60 I52  _ _ _ (by omega) (by omega) ⟨(by show 0 ≤ (I52 1 5).toInt ∧ (I52 1 5).toInt ≤ 30; exact k54), (by show 0 ≤ (I52 1 11).toInt ∧ (I52 1 11).toInt ≤ 200; exact k55)⟩ (by show 0 ≤ (I52 72 2).toInt ∧ (I52 72 2).toInt ≤ 30; exact hI52D) (by show 0 ≤ (I52 21 2).toInt ∧ (I52 21 2).toInt ≤ 12; exact k56) ⟨(by show 0 ≤ (I52 0 0).toInt ∧ (I52 0 0).toInt ≤ 719; exact k57), (by show 0 ≤ (I52 0 8).toInt ∧ (I52 0 8).toInt ≤ 10; exact k58)⟩ (by have c9 := z_clt (x := y10) rfl (by omega); have n9 : (I43 72 2) = (I11 72 2) := fI43 72 2 (by decide); have n8 := hU59.2; rw [n9] at n8; have cn := z_clt (x := (I11 72 2)) rfl (by omega); exact ⟨fun h hh => by rw [hU59.1 h, n9, fI43 73 h (z_wr_c (by decide))]; by_cases q : h = (I11 72 2).toNatClampNeg; (· rw [if_pos q, hU50, show h = y10.toNatClampNeg by omega, ← hU50]; exact ⟨rfl, hb51⟩); (· rw [if_neg q]; exact lp9U.1 h (by omega)), by omega, by omega⟩) f53 hW hS (lv_sub hl [0, 1, 2, 3] rfl)
  exact lp9 4294967296 (0) I1  _ _ _ (z_m0u _) (by rw [z_l0]; omega) ⟨(by show 0 ≤ (I1 1 5).toInt ∧ (I1 1 5).toInt ≤ 30; exact k3), (by show 0 ≤ (I1 1 11).toInt ∧ (I1 1 11).toInt ≤ 200; exact k4)⟩ (by show 0 ≤ (I1 72 2).toInt ∧ (I1 72 2).toInt ≤ 30; exact hI1D) (by show 0 ≤ (I1 21 2).toInt ∧ (I1 21 2).toInt ≤ 12; exact k5) ⟨(by show 0 ≤ (I1 0 0).toInt ∧ (I1 0 0).toInt ≤ 719; exact k6), (by show 0 ≤ (I1 0 8).toInt ∧ (I1 0 8).toInt ≤ 10; exact k7)⟩ ⟨fun h hh => absurd hh (by have q0 := z_l0; omega), by have q0 := z_l0; have q9 := hC8; omega, by have q0 := z_l0; have q9 := hH.1; omega⟩ f2 hW hS (lv_sub hl [0, 1, 2, 3] rfl)
set_option maxHeartbeats 8000000 in
set_option maxRecDepth 100000 in
theorem sx_X11_remains_d (l : Launch) (G : z_G) (ad : Nat → Nat) (c : z_C) (I : z_I) (hH : z_iH I) (hD : z_iD I) (a1 : Int32) (hc : z_okc c) (h10 : c.1 ≤ 10) (hnb : (I 72 2).toInt = (I 1 5).toInt) : z_M l yX11_remains wsX11_remains { frames := 2, cells := 0, slots := 0, locals := 33 } [.ref (ad 0), .int a1] G (shC c, ad, I, JX, PC c ad) (fun r u1 => u1 = (shC c, ad, I, JX, PC c ad) ∧ ((r = 1 ∧ ((0 ≤ a1.toInt ∧ a1.toInt < (I 1 5).toInt) ∧ (I 6 a1.toNatClampNeg).toInt ≤ (I 73 a1.toNatClampNeg).toInt)) ∨ (r = 0 ∧ ¬ ((0 ≤ a1.toInt ∧ a1.toInt < (I 1 5).toInt) ∧ (I 6 a1.toNatClampNeg).toInt ≤ (I 73 a1.toNatClampNeg).toInt)))) 0 0 := by
  intro sz
  refine z_headQ (cc := cX11_remains) (maxL := 2) (ret := (some .boolean)) (by decide) rfl (Nat.le_of_ble_eq_true rfl) ?_
  intro p e s m below meth c0 ls hIn hK hsz hW hl
  obtain ⟨hx, hb, hr, hml, hown, hts, hlocks, hname⟩ := hIn
  subst hsz
  have hown : s.vm.findClass RX11 = some m.cls := hown
  have hA : ∀ q : Nat, s.heap.size ≤ q → z_A (shC c, ad, I, JX, PC c ad) s.heap.size q := fun q h => Or.inr h
  generalize hAe : z_A (shC c, ad, I, JX, PC c ad) s.heap.size = A at *
  have hS : va_S A s.heap s.heap [] := va_S.rf
  have hl : lv_has ls 2 [(0, .ref (ad 0)), (1, .int a1)] := hl
  refine lv_aload_n hx hb dX11_remains_0 rfl (lv_at hl 0 rfl) ?_
  refine z_get (T := TX11) (N := 13) (ci := 11) (i := 0) (v := .ref (ad 1)) hx hb hts zj_X11_remains_X11 hown hK hW rfl rfl 2 (by decide) (hts (.fieldLink RX11 16 "PetrolBoard" "holders" "LPetrolBoard$Holders;") (me_s (me_l (me_l (me_l (List.mem_of_getElem? (i := 0) rfl)))))) (fun _ h => h) rfl dX11_remains_1 ?_
  refine lv_iload_n hx hb dX11_remains_4 rfl (lv_at hl 1 rfl) ?_
  refine z_ci hW hS hA (va_runV (As := [.int a1]) (rest := []) ⟨hx, hb, hml, hown, hts⟩ (sx_X2_has_e l G ad c I ⟨(by show 0 ≤ (I 1 5).toInt ∧ (I 1 5).toInt ≤ 30; exact hH.1), (by show 0 ≤ (I 1 11).toInt ∧ (I 1 11).toInt ≤ 200; exact hH.2)⟩ a1 _) (cwV 1 hts gX11_remains_X2_has rfl rfl rfl (by decide +kernel) ⟨Nat.le_of_ble_eq_true rfl, Nat.le_of_ble_eq_true rfl⟩) (z_preV (i := 1) hK hW rfl rfl) rfl rfl hl.1 rfl (lv_room (Nat.le_of_ble_eq_true rfl)) dX11_remains_5 ⟨Nat.le_of_ble_eq_true rfl, Nat.le_of_ble_eq_true rfl⟩) (fun r u1 H locs hp hW hS => ?_)
  obtain ⟨e9, hp⟩ := hp
  rw [e9] at hW
  rcases hp with ⟨rfl, h1⟩ | ⟨rfl, h1⟩
  · have h2 := h1
    have r3 : 0 ≤ (I 1 5).toInt ∧ (I 1 5).toInt ≤ 30 := hH.1
    refine lv_if_eq (tgt := 35) hx hb dX11_remains_8 (by decide) (fun c4 => absurd c4 (by decide)) (fun c4 => ?_)
    refine lv_aload_n hx hb dX11_remains_11 rfl (lv_at hl 0 rfl) ?_
    refine z_get (T := TX11) (N := 13) (ci := 11) (i := 0) (v := .ref (ad 72)) hx hb hts zj_X11_remains_X11 hown hK hW rfl rfl 12 (by decide) (hts (.fieldLink RX11 75 "PetrolBoard" "deal" "LPetrolBoard$Deal;") (me_s (me_l (me_l (me_l (List.mem_of_getElem? (i := 1) rfl)))))) (fun _ h => h) rfl dX11_remains_12 ?_
    refine lv_iload_n hx hb dX11_remains_15 rfl (lv_at hl 1 rfl) ?_
    refine z_ci hW hS hA (va_runV (As := [.int a1]) (rest := []) ⟨hx, hb, hml, hown, hts⟩ (sx_X1_unitsOf_d l G ad c I (by show 0 ≤ (I 72 2).toInt ∧ (I 72 2).toInt ≤ 30; exact hD) a1 _) (cwV 1 hts gX11_remains_X1_unitsOf rfl rfl rfl (by decide +kernel) ⟨Nat.le_of_ble_eq_true rfl, Nat.le_of_ble_eq_true rfl⟩) (z_preV (i := 72) hK hW rfl rfl) rfl rfl hl.1 rfl (lv_room (Nat.le_of_ble_eq_true rfl)) dX11_remains_16 ⟨Nat.le_of_ble_eq_true rfl, Nat.le_of_ble_eq_true rfl⟩) (fun r u1 H locs hp hW hS => ?_)
    obtain ⟨e9, hp⟩ := hp
    rw [e9] at hW
    refine lv_topi (fun x5 ex5 => ?_)
    rw [← ex5] at hp
    have hP6 := hp
    refine lv_aload_n hx hb dX11_remains_19 rfl (lv_at hl 0 rfl) ?_
    refine z_get (T := TX11) (N := 13) (ci := 11) (i := 0) (v := .ref (ad 1)) hx hb hts zj_X11_remains_X11 hown hK hW rfl rfl 2 (by decide) (hts (.fieldLink RX11 16 "PetrolBoard" "holders" "LPetrolBoard$Holders;") (me_s (me_l (me_l (me_l (List.mem_of_getElem? (i := 0) rfl)))))) (fun _ h => h) rfl dX11_remains_20 ?_
    refine z_get (T := TX2) (N := 12) (ci := 2) (i := 1) (v := .ref (ad 6)) hx hb hts zj_X11_remains_X2 hown hK hW rfl rfl 4 (by decide) (hts (.fieldLink RX11 374 "PetrolBoard$Holders" "need" "[I") (me_s (me_l (me_l (me_l (List.mem_of_getElem? (i := 2) rfl)))))) (fun _ h => h) rfl dX11_remains_23 ?_
    refine lv_iload_n hx hb dX11_remains_26 rfl (lv_at hl 1 rfl) ?_
    refine z_iald (i := 6) hx hb hK hW rfl (z_ix rfl (by omega) (by omega)) dX11_remains_27 ?_
    refine lv_topi (fun x7 ex7 => ?_)
    have hv8 : (I 6 a1.toNatClampNeg).toInt = x7.toInt := by rw [ex7]
    have hz9 := z_clt (x := a1) rfl (by omega)
    refine lv_icmp_lt (tgt := 35) hx hb dX11_remains_28 (by decide) (fun c10 => ?_) (fun c10 => ?_)
    · have g11 := z_f_lt rfl rfl c10
      have b12 := Int32.toInt_lt x5
      have b13 := Int32.toInt_lt x7
      refine lv_iconst (v := 0) hx hb dX11_remains_35 (by decide) ?_
      exact z_zret hx hb hr (by decide) hK hS (Nat.le_of_ble_eq_true rfl) (Nat.le_of_ble_eq_true rfl) hlocks dX11_remains_36 (shC c, ad, I, JX, PC c ad) hW ⟨rfl, (by have u9 : x5.toInt = (I 73 a1.toNatClampNeg).toInt := (by rcases hP6 with ⟨_, w⟩ | ⟨w, _⟩; (· rw [w]); (· exfalso; omega)); exact Or.inr ⟨rfl, fun q => by omega⟩)⟩
    · have g14 := z_f_nlt rfl rfl c10
      have b15 := Int32.toInt_lt x5
      have b16 := Int32.toInt_lt x7
      refine lv_iconst (v := 1) hx hb dX11_remains_31 (by decide) ?_
      refine lv_goto (tgt := 36) hx hb dX11_remains_32 (by decide) ?_
      exact z_zret hx hb hr (by decide) hK hS (Nat.le_of_ble_eq_true rfl) (Nat.le_of_ble_eq_true rfl) hlocks dX11_remains_36 (shC c, ad, I, JX, PC c ad) hW ⟨rfl, (by have u9 : x5.toInt = (I 73 a1.toNatClampNeg).toInt := (by rcases hP6 with ⟨_, w⟩ | ⟨w, _⟩; (· rw [w]); (· exfalso; omega)); exact Or.inl ⟨rfl, by omega, by omega⟩)⟩
  · have h17 := h1
    have r18 : 0 ≤ (I 1 5).toInt ∧ (I 1 5).toInt ≤ 30 := hH.1
    refine lv_if_eq (tgt := 35) hx hb dX11_remains_8 (by decide) (fun c19 => ?_) (fun c19 => absurd (by decide) c19)
    refine lv_iconst (v := 0) hx hb dX11_remains_35 (by decide) ?_
    exact z_zret hx hb hr (by decide) hK hS (Nat.le_of_ble_eq_true rfl) (Nat.le_of_ble_eq_true rfl) hlocks dX11_remains_36 (shC c, ad, I, JX, PC c ad) hW ⟨rfl, (Or.inr ⟨rfl, fun q => by omega⟩)⟩
noncomputable def L_X11_other_d : z_L := [(72, 2), (73, 999), (74, 999), (24, 999), (25, 999)]
set_option maxHeartbeats 8000000 in
set_option maxRecDepth 100000 in
theorem sx_X11_other_d (l : Launch) (G : z_G) (ad : Nat → Nat) (c : z_C) (I : z_I) (hH : z_iH I) (hD : z_iD I) (hO : z_iO I) (hB : z_iB I) (SS : Nat → List zp_T) (a1 : Int32) (a2 : Int32) (a3 : Int32) (a4 : Int32) (hc : z_okc c) (h10 : c.1 ≤ 10) (hWu : zv_W c I SS) (hN : ∀ j : Nat, (j : Int) < (I 1 5).toInt → 0 ≤ (I 6 j).toInt ∧ (I 6 j).toInt ≤ 99) : z_M l yX11_other wsX11_other { frames := 7, cells := 0, slots := 0, locals := 183 } [.ref (ad 0), .int a1, .int a2, .int a3, .int a4] G (shC c, ad, I, JX, PC c ad) (fun r u1 => ∃ I1 : z_I, u1 = (shC c, ad, I1, JX, PC c ad) ∧ z_iH I1 ∧ z_iD I1 ∧ z_iO I1 ∧ z_iB I1 ∧ z_fr L_X11_other_d I1 I ∧ ((((0 ≤ a1.toInt ∧ a1.toInt ≤ 2) ∧ (0 ≤ a2.toInt ∧ a2.toInt ≤ 23) ∧ (0 ≤ a3.toInt ∧ a3.toInt < (I 1 5).toInt) ∧ 0 ≤ a4.toInt ∧ a4.toInt ≤ 1) ∧ ((a4.toInt = 0 ∧ r.toInt = (zd_D (zd_U c I SS a2.toInt) (zd_B I) (zd_N I) (I 1 5).toNatClampNeg a1.toInt) a3.toNatClampNeg) ∨ (a4.toInt = 1 ∧ r.toInt = if zd_N I a3.toNatClampNeg ≤ (zd_D (zd_U c I SS a2.toInt) (zd_B I) (zd_N I) (I 1 5).toNatClampNeg a1.toInt) a3.toNatClampNeg then 1 else 0))) ∨ (¬ ((0 ≤ a1.toInt ∧ a1.toInt ≤ 2) ∧ (0 ≤ a2.toInt ∧ a2.toInt ≤ 23) ∧ (0 ≤ a3.toInt ∧ a3.toInt < (I 1 5).toInt) ∧ 0 ≤ a4.toInt ∧ a4.toInt ≤ 1) ∧ r.toInt = -1))) 0 0 := by
  intro sz
  refine z_headQ (cc := cX11_other) (maxL := 5) (ret := (some .int)) (by decide) rfl (Nat.le_of_ble_eq_true rfl) ?_
  intro p e s m below meth c0 ls hIn hK hsz hW hl
  obtain ⟨hx, hb, hr, hml, hown, hts, hlocks, hname⟩ := hIn
  subst hsz
  have hown : s.vm.findClass RX11 = some m.cls := hown
  have hA : ∀ q : Nat, s.heap.size ≤ q → z_A (shC c, ad, I, JX, PC c ad) s.heap.size q := fun q h => Or.inr h
  generalize hAe : z_A (shC c, ad, I, JX, PC c ad) s.heap.size = A at *
  have hS : va_S A s.heap s.heap [] := va_S.rf
  have hl : lv_has ls 5 [(0, .ref (ad 0)), (1, .int a1), (2, .int a2), (3, .int a3), (4, .int a4)] := hl
  refine lv_iload_n hx hb dX11_other_0 rfl (lv_at hl 1 rfl) ?_
  refine lv_iconst (v := 0) hx hb dX11_other_1 (by decide) ?_
  refine lv_iconst (v := 2) hx hb dX11_other_2 (by decide) ?_
  refine z_ci hW hS hA (va_runS (As := [.int a1, .int 0, .int 2]) (rest := []) ⟨hx, hb, hml, hown, hts⟩ (sx_X11_within_e l G ad c I  a1 0 2 _) (va_cwS 3 hts gX11_other_X11_within rfl rfl rfl (by decide +kernel) ⟨Nat.le_of_ble_eq_true rfl, Nat.le_of_ble_eq_true rfl⟩) (z_preS hK hW) rfl rfl hl.1 rfl (lv_room (Nat.le_of_ble_eq_true rfl)) dX11_other_3 ⟨Nat.le_of_ble_eq_true rfl, Nat.le_of_ble_eq_true rfl⟩) (fun r u1 H locs hp hW hS => ?_)
  obtain ⟨e9, hp⟩ := hp
  rw [e9] at hW
  rcases hp with ⟨rfl, h1⟩ | ⟨rfl, h1⟩
  · have h2 := h1
    have z3 := z_l0
    have z4 := z_l2
    refine lv_if_eq (tgt := 37) hx hb dX11_other_6 (by decide) (fun c5 => absurd c5 (by decide)) (fun c5 => ?_)
    refine lv_iload_n hx hb dX11_other_9 rfl (lv_at hl 2 rfl) ?_
    refine z_ci hW hS hA (va_runS (As := [.int a2]) (rest := []) ⟨hx, hb, hml, hown, hts⟩ (sx_X11_isMonth_e l G ad c I  a2 _) (va_cwS 1 hts gX11_other_X11_isMonth rfl rfl rfl (by decide +kernel) ⟨Nat.le_of_ble_eq_true rfl, Nat.le_of_ble_eq_true rfl⟩) (z_preS hK hW) rfl rfl hl.1 rfl (lv_room (Nat.le_of_ble_eq_true rfl)) dX11_other_10 ⟨Nat.le_of_ble_eq_true rfl, Nat.le_of_ble_eq_true rfl⟩) (fun r u1 H locs hp hW hS => ?_)
    obtain ⟨e9, hp⟩ := hp
    rw [e9] at hW
    rcases hp with ⟨rfl, h6⟩ | ⟨rfl, h6⟩
    · have h7 := h6
      refine lv_if_eq (tgt := 37) hx hb dX11_other_13 (by decide) (fun c8 => absurd c8 (by decide)) (fun c8 => ?_)
      refine lv_aload_n hx hb dX11_other_16 rfl (lv_at hl 0 rfl) ?_
      refine z_get (T := TX11) (N := 13) (ci := 11) (i := 0) (v := .ref (ad 1)) hx hb hts zj_X11_other_X11 hown hK hW rfl rfl 2 (by decide) (hts (.fieldLink RX11 16 "PetrolBoard" "holders" "LPetrolBoard$Holders;") (me_s (me_l (me_l (me_l (me_l (me_l (me_l (me_l (List.mem_of_getElem? (i := 0) rfl)))))))))) (fun _ h => h) rfl dX11_other_17 ?_
      refine lv_iload_n hx hb dX11_other_20 rfl (lv_at hl 3 rfl) ?_
      refine z_ci hW hS hA (va_runV (As := [.int a3]) (rest := []) ⟨hx, hb, hml, hown, hts⟩ (sx_X2_has_e l G ad c I ⟨(by show 0 ≤ (I 1 5).toInt ∧ (I 1 5).toInt ≤ 30; exact hH.1), (by show 0 ≤ (I 1 11).toInt ∧ (I 1 11).toInt ≤ 200; exact hH.2)⟩ a3 _) (cwV 1 hts gX11_other_X2_has rfl rfl rfl (by decide +kernel) ⟨Nat.le_of_ble_eq_true rfl, Nat.le_of_ble_eq_true rfl⟩) (z_preV (i := 1) hK hW rfl rfl) rfl rfl hl.1 rfl (lv_room (Nat.le_of_ble_eq_true rfl)) dX11_other_21 ⟨Nat.le_of_ble_eq_true rfl, Nat.le_of_ble_eq_true rfl⟩) (fun r u1 H locs hp hW hS => ?_)
      obtain ⟨e9, hp⟩ := hp
      rw [e9] at hW
      rcases hp with ⟨rfl, h9⟩ | ⟨rfl, h9⟩
      · have h11 := h9
        have r12 : 0 ≤ (I 1 5).toInt ∧ (I 1 5).toInt ≤ 30 := hH.1
        refine lv_if_eq (tgt := 37) hx hb dX11_other_24 (by decide) (fun c13 => absurd c13 (by decide)) (fun c13 => ?_)
        refine lv_iload hx hb dX11_other_27 (lv_at hl 4 rfl) ?_
        refine lv_iconst (v := 0) hx hb dX11_other_29 (by decide) ?_
        refine lv_iconst (v := 1) hx hb dX11_other_30 (by decide) ?_
        refine z_ci hW hS hA (va_runS (As := [.int a4, .int 0, .int 1]) (rest := []) ⟨hx, hb, hml, hown, hts⟩ (sx_X11_within_e l G ad c I  a4 0 1 _) (va_cwS 3 hts gX11_other_X11_within rfl rfl rfl (by decide +kernel) ⟨Nat.le_of_ble_eq_true rfl, Nat.le_of_ble_eq_true rfl⟩) (z_preS hK hW) rfl rfl hl.1 rfl (lv_room (Nat.le_of_ble_eq_true rfl)) dX11_other_31 ⟨Nat.le_of_ble_eq_true rfl, Nat.le_of_ble_eq_true rfl⟩) (fun r u1 H locs hp hW hS => ?_)
        obtain ⟨e9, hp⟩ := hp
        rw [e9] at hW
        rcases hp with ⟨rfl, h14⟩ | ⟨rfl, h14⟩
        · have h15 := h14
          have z16 := z_l0
          have z17 := z_l1
          refine lv_if_ne (tgt := 39) hx hb dX11_other_34 (by decide) (fun c18 => ?_) (fun c18 => absurd c18 (by decide))
          refine lv_aload_n hx hb dX11_other_39 rfl (lv_at hl 0 rfl) ?_
          refine lv_iload_n hx hb dX11_other_40 rfl (lv_at hl 1 rfl) ?_
          refine lv_iload_n hx hb dX11_other_41 rfl (lv_at hl 2 rfl) ?_
          refine z_cv hW hS hA (va_runV (As := [.int a1, .int a2]) (rest := []) ⟨hx, hb, hml, hown, hts⟩ (sx_X11_dealOut_d l G ad c I ⟨(by show 0 ≤ (I 1 5).toInt ∧ (I 1 5).toInt ≤ 30; exact hH.1), (by show 0 ≤ (I 1 11).toInt ∧ (I 1 11).toInt ≤ 200; exact hH.2)⟩ (by show 0 ≤ (I 72 2).toInt ∧ (I 72 2).toInt ≤ 30; exact hD) (by show 0 ≤ (I 21 2).toInt ∧ (I 21 2).toInt ≤ 12; exact hO) ⟨(by show 0 ≤ (I 0 0).toInt ∧ (I 0 0).toInt ≤ 719; exact hB.1), (by show 0 ≤ (I 0 8).toInt ∧ (I 0 8).toInt ≤ 10; exact hB.2)⟩ SS a1 a2 hc h10 hWu (by omega) hN _) (cwV 2 hts gX11_other_X11_dealOut rfl rfl rfl (by decide +kernel) ⟨Nat.le_of_ble_eq_true rfl, Nat.le_of_ble_eq_true rfl⟩) (z_preV (i := 0) hK hW rfl rfl) rfl rfl hl.1 rfl (lv_room (Nat.le_of_ble_eq_true rfl)) dX11_other_42 ⟨Nat.le_of_ble_eq_true rfl, Nat.le_of_ble_eq_true rfl⟩) (fun u1 H locs hp hW hS => ?_)
          obtain ⟨I19, e9, hI19H, hI19D, hI19O, hI19B, fI19, hp⟩ := hp
          rw [e9] at hW
          have f20 := z_fr_sub (L := L_X11_other_d) z_fr_0 fI19 (by decide)
          have hE21 := hp
          refine lv_iload hx hb dX11_other_45 (lv_at hl 4 rfl) ?_
          refine lv_if_ne (tgt := 61) hx hb dX11_other_47 (by decide) (fun c22 => ?_) (fun c22 => ?_)
          · have g23 := z_f_ne rfl z_l0 c22
            refine lv_aload_n hx hb dX11_other_61 rfl (lv_at hl 0 rfl) ?_
            refine lv_iload_n hx hb dX11_other_62 rfl (lv_at hl 3 rfl) ?_
            refine z_ci hW hS hA (va_runV (As := [.int a3]) (rest := []) ⟨hx, hb, hml, hown, hts⟩ (sx_X11_remains_d l G ad c I19 ⟨(by show 0 ≤ (I19 1 5).toInt ∧ (I19 1 5).toInt ≤ 30; exact hI19H.1), (by show 0 ≤ (I19 1 11).toInt ∧ (I19 1 11).toInt ≤ 200; exact hI19H.2)⟩ (by show 0 ≤ (I19 72 2).toInt ∧ (I19 72 2).toInt ≤ 30; exact hI19D) a3 hc h10 (by rw [hE21.1, fI19 1 5 (by decide)]) _) (cwV 1 hts gX11_other_X11_remains rfl rfl rfl (by decide +kernel) ⟨Nat.le_of_ble_eq_true rfl, Nat.le_of_ble_eq_true rfl⟩) (z_preV (i := 0) hK hW rfl rfl) rfl rfl hl.1 rfl (lv_room (Nat.le_of_ble_eq_true rfl)) dX11_other_63 ⟨Nat.le_of_ble_eq_true rfl, Nat.le_of_ble_eq_true rfl⟩) (fun r u1 H locs hp hW hS => ?_)
            obtain ⟨e9, hp⟩ := hp
            rw [e9] at hW
            rcases hp with ⟨rfl, hb24⟩ | ⟨rfl, hb24⟩
            · refine lv_if_eq (tgt := 73) hx hb dX11_other_66 (by decide) (fun c25 => absurd c25 (by decide)) (fun c25 => ?_)
              refine lv_iconst (v := 1) hx hb dX11_other_69 (by decide) ?_
              refine lv_goto (tgt := 74) hx hb dX11_other_70 (by decide) ?_
              exact z_iret hx hb hr hK hS (Nat.le_of_ble_eq_true rfl) (Nat.le_of_ble_eq_true rfl) hlocks dX11_other_74 (shC c, ad, I19, JX, PC c ad) hW ⟨I19, rfl, ⟨(by show 0 ≤ (I19 1 5).toInt ∧ (I19 1 5).toInt ≤ 30; exact hI19H.1), (by show 0 ≤ (I19 1 11).toInt ∧ (I19 1 11).toInt ≤ 200; exact hI19H.2)⟩, (by show 0 ≤ (I19 72 2).toInt ∧ (I19 72 2).toInt ≤ 30; exact hI19D), (by show 0 ≤ (I19 21 2).toInt ∧ (I19 21 2).toInt ≤ 12; exact hI19O), ⟨(by show 0 ≤ (I19 0 0).toInt ∧ (I19 0 0).toInt ≤ 719; exact hI19B.1), (by show 0 ≤ (I19 0 8).toInt ∧ (I19 0 8).toInt ≤ 10; exact hI19B.2)⟩, f20, (by have c9 := z_clt (x := a3) rfl (by omega); have d9 := hE21.2 a3.toNatClampNeg (by omega); have n9 : (I19 6 a3.toNatClampNeg).toInt = zd_N I a3.toNatClampNeg := (by rw [fI19 6 a3.toNatClampNeg (z_wr_c (by decide))]; rfl); have q9 := hb24.2; rw [n9, d9] at q9; exact Or.inl ⟨by omega, Or.inr ⟨by omega, by rw [if_pos q9]; decide⟩⟩)⟩
            · refine lv_if_eq (tgt := 73) hx hb dX11_other_66 (by decide) (fun c26 => ?_) (fun c26 => absurd (by decide) c26)
              refine lv_iconst (v := 0) hx hb dX11_other_73 (by decide) ?_
              exact z_iret hx hb hr hK hS (Nat.le_of_ble_eq_true rfl) (Nat.le_of_ble_eq_true rfl) hlocks dX11_other_74 (shC c, ad, I19, JX, PC c ad) hW ⟨I19, rfl, ⟨(by show 0 ≤ (I19 1 5).toInt ∧ (I19 1 5).toInt ≤ 30; exact hI19H.1), (by show 0 ≤ (I19 1 11).toInt ∧ (I19 1 11).toInt ≤ 200; exact hI19H.2)⟩, (by show 0 ≤ (I19 72 2).toInt ∧ (I19 72 2).toInt ≤ 30; exact hI19D), (by show 0 ≤ (I19 21 2).toInt ∧ (I19 21 2).toInt ≤ 12; exact hI19O), ⟨(by show 0 ≤ (I19 0 0).toInt ∧ (I19 0 0).toInt ≤ 719; exact hI19B.1), (by show 0 ≤ (I19 0 8).toInt ∧ (I19 0 8).toInt ≤ 10; exact hI19B.2)⟩, f20, (by have c9 := z_clt (x := a3) rfl (by omega); have d9 := hE21.2 a3.toNatClampNeg (by omega); have n9 : (I19 6 a3.toNatClampNeg).toInt = zd_N I a3.toNatClampNeg := (by rw [fI19 6 a3.toNatClampNeg (z_wr_c (by decide))]; rfl); exact Or.inl ⟨by omega, Or.inr ⟨by omega, by rw [if_neg (fun q9 => hb24 ⟨⟨by omega, by rw [fI19 1 5 (by decide)]; omega⟩, by rw [n9, d9]; exact q9⟩)]; decide⟩⟩)⟩
          · have g27 := z_f_eq rfl z_l0 c22
            refine lv_aload_n hx hb dX11_other_50 rfl (lv_at hl 0 rfl) ?_
            refine z_get (T := TX11) (N := 13) (ci := 11) (i := 0) (v := .ref (ad 72)) hx hb hts zj_X11_other_X11 hown hK hW rfl rfl 12 (by decide) (hts (.fieldLink RX11 75 "PetrolBoard" "deal" "LPetrolBoard$Deal;") (me_s (me_l (me_l (me_l (me_l (me_l (me_l (me_l (List.mem_of_getElem? (i := 1) rfl)))))))))) (fun _ h => h) rfl dX11_other_51 ?_
            refine lv_iload_n hx hb dX11_other_54 rfl (lv_at hl 3 rfl) ?_
            refine z_ci hW hS hA (va_runV (As := [.int a3]) (rest := []) ⟨hx, hb, hml, hown, hts⟩ (sx_X1_unitsOf_d l G ad c I19 (by show 0 ≤ (I19 72 2).toInt ∧ (I19 72 2).toInt ≤ 30; exact hI19D) a3 _) (cwV 1 hts gX11_other_X1_unitsOf rfl rfl rfl (by decide +kernel) ⟨Nat.le_of_ble_eq_true rfl, Nat.le_of_ble_eq_true rfl⟩) (z_preV (i := 72) hK hW rfl rfl) rfl rfl hl.1 rfl (lv_room (Nat.le_of_ble_eq_true rfl)) dX11_other_55 ⟨Nat.le_of_ble_eq_true rfl, Nat.le_of_ble_eq_true rfl⟩) (fun r u1 H locs hp hW hS => ?_)
            obtain ⟨e9, hp⟩ := hp
            rw [e9] at hW
            refine lv_topi (fun x28 ex28 => ?_)
            rw [← ex28] at hp
            have hP29 := hp
            refine lv_goto (tgt := 74) hx hb dX11_other_58 (by decide) ?_
            exact z_iret hx hb hr hK hS (Nat.le_of_ble_eq_true rfl) (Nat.le_of_ble_eq_true rfl) hlocks dX11_other_74 (shC c, ad, I19, JX, PC c ad) hW ⟨I19, rfl, ⟨(by show 0 ≤ (I19 1 5).toInt ∧ (I19 1 5).toInt ≤ 30; exact hI19H.1), (by show 0 ≤ (I19 1 11).toInt ∧ (I19 1 11).toInt ≤ 200; exact hI19H.2)⟩, (by show 0 ≤ (I19 72 2).toInt ∧ (I19 72 2).toInt ≤ 30; exact hI19D), (by show 0 ≤ (I19 21 2).toInt ∧ (I19 21 2).toInt ≤ 12; exact hI19O), ⟨(by show 0 ≤ (I19 0 0).toInt ∧ (I19 0 0).toInt ≤ 719; exact hI19B.1), (by show 0 ≤ (I19 0 8).toInt ∧ (I19 0 8).toInt ≤ 10; exact hI19B.2)⟩, f20, (by have c9 := z_clt (x := a3) rfl (by omega); have d9 := hE21.2 a3.toNatClampNeg (by omega); have n9 : (I19 6 a3.toNatClampNeg).toInt = zd_N I a3.toNatClampNeg := (by rw [fI19 6 a3.toNatClampNeg (z_wr_c (by decide))]; rfl); exact Or.inl ⟨by omega, Or.inl ⟨by omega, by rcases hP29 with ⟨_, w⟩ | ⟨w, _⟩; (· rw [w]; exact d9); (· exfalso; have w9 := hE21.1; omega)⟩⟩)⟩
        · have h30 := h14
          have z31 := z_l0
          have z32 := z_l1
          refine lv_if_ne (tgt := 39) hx hb dX11_other_34 (by decide) (fun c33 => absurd (by decide) c33) (fun c33 => ?_)
          refine lv_iconst (v := (-1)) hx hb dX11_other_37 (by decide) ?_
          exact z_iret hx hb hr hK hS (Nat.le_of_ble_eq_true rfl) (Nat.le_of_ble_eq_true rfl) hlocks dX11_other_38 (shC c, ad, I, JX, PC c ad) hW ⟨I, rfl, ⟨(by show 0 ≤ (I 1 5).toInt ∧ (I 1 5).toInt ≤ 30; exact hH.1), (by show 0 ≤ (I 1 11).toInt ∧ (I 1 11).toInt ≤ 200; exact hH.2)⟩, (by show 0 ≤ (I 72 2).toInt ∧ (I 72 2).toInt ≤ 30; exact hD), (by show 0 ≤ (I 21 2).toInt ∧ (I 21 2).toInt ≤ 12; exact hO), ⟨(by show 0 ≤ (I 0 0).toInt ∧ (I 0 0).toInt ≤ 719; exact hB.1), (by show 0 ≤ (I 0 8).toInt ∧ (I 0 8).toInt ≤ 10; exact hB.2)⟩, z_fr_0, (Or.inr ⟨by omega, by decide⟩)⟩
      · have h34 := h9
        have r35 : 0 ≤ (I 1 5).toInt ∧ (I 1 5).toInt ≤ 30 := hH.1
        refine lv_if_eq (tgt := 37) hx hb dX11_other_24 (by decide) (fun c36 => ?_) (fun c36 => absurd (by decide) c36)
        refine lv_iconst (v := (-1)) hx hb dX11_other_37 (by decide) ?_
        exact z_iret hx hb hr hK hS (Nat.le_of_ble_eq_true rfl) (Nat.le_of_ble_eq_true rfl) hlocks dX11_other_38 (shC c, ad, I, JX, PC c ad) hW ⟨I, rfl, ⟨(by show 0 ≤ (I 1 5).toInt ∧ (I 1 5).toInt ≤ 30; exact hH.1), (by show 0 ≤ (I 1 11).toInt ∧ (I 1 11).toInt ≤ 200; exact hH.2)⟩, (by show 0 ≤ (I 72 2).toInt ∧ (I 72 2).toInt ≤ 30; exact hD), (by show 0 ≤ (I 21 2).toInt ∧ (I 21 2).toInt ≤ 12; exact hO), ⟨(by show 0 ≤ (I 0 0).toInt ∧ (I 0 0).toInt ≤ 719; exact hB.1), (by show 0 ≤ (I 0 8).toInt ∧ (I 0 8).toInt ≤ 10; exact hB.2)⟩, z_fr_0, (Or.inr ⟨by omega, by decide⟩)⟩
    · have h37 := h6
      refine lv_if_eq (tgt := 37) hx hb dX11_other_13 (by decide) (fun c38 => ?_) (fun c38 => absurd (by decide) c38)
      refine lv_iconst (v := (-1)) hx hb dX11_other_37 (by decide) ?_
      exact z_iret hx hb hr hK hS (Nat.le_of_ble_eq_true rfl) (Nat.le_of_ble_eq_true rfl) hlocks dX11_other_38 (shC c, ad, I, JX, PC c ad) hW ⟨I, rfl, ⟨(by show 0 ≤ (I 1 5).toInt ∧ (I 1 5).toInt ≤ 30; exact hH.1), (by show 0 ≤ (I 1 11).toInt ∧ (I 1 11).toInt ≤ 200; exact hH.2)⟩, (by show 0 ≤ (I 72 2).toInt ∧ (I 72 2).toInt ≤ 30; exact hD), (by show 0 ≤ (I 21 2).toInt ∧ (I 21 2).toInt ≤ 12; exact hO), ⟨(by show 0 ≤ (I 0 0).toInt ∧ (I 0 0).toInt ≤ 719; exact hB.1), (by show 0 ≤ (I 0 8).toInt ∧ (I 0 8).toInt ≤ 10; exact hB.2)⟩, z_fr_0, (Or.inr ⟨by omega, by decide⟩)⟩
  · have h39 := h1
    have z40 := z_l0
    have z41 := z_l2
    refine lv_if_eq (tgt := 37) hx hb dX11_other_6 (by decide) (fun c42 => ?_) (fun c42 => absurd (by decide) c42)
    refine lv_iconst (v := (-1)) hx hb dX11_other_37 (by decide) ?_
    exact z_iret hx hb hr hK hS (Nat.le_of_ble_eq_true rfl) (Nat.le_of_ble_eq_true rfl) hlocks dX11_other_38 (shC c, ad, I, JX, PC c ad) hW ⟨I, rfl, ⟨(by show 0 ≤ (I 1 5).toInt ∧ (I 1 5).toInt ≤ 30; exact hH.1), (by show 0 ≤ (I 1 11).toInt ∧ (I 1 11).toInt ≤ 200; exact hH.2)⟩, (by show 0 ≤ (I 72 2).toInt ∧ (I 72 2).toInt ≤ 30; exact hD), (by show 0 ≤ (I 21 2).toInt ∧ (I 21 2).toInt ≤ 12; exact hO), ⟨(by show 0 ≤ (I 0 0).toInt ∧ (I 0 0).toInt ≤ 719; exact hB.1), (by show 0 ≤ (I 0 8).toInt ∧ (I 0 8).toInt ≤ 10; exact hB.2)⟩, z_fr_0, (Or.inr ⟨by omega, by decide⟩)⟩
noncomputable def L_X11_stays_d : z_L := [(72, 2), (73, 999), (74, 999), (24, 999), (25, 999)]
set_option maxHeartbeats 8000000 in
set_option maxRecDepth 100000 in
theorem sx_X11_stays_d (l : Launch) (G : z_G) (ad : Nat → Nat) (c : z_C) (I : z_I) (hH : z_iH I) (hD : z_iD I) (hO : z_iO I) (hB : z_iB I) (SS : Nat → List zp_T) (a1 : Int32) (a2 : Int32) (hc : z_okc c) (h10 : c.1 ≤ 10) (hWu : zv_W c I SS) (hN : ∀ j : Nat, (j : Int) < (I 1 5).toInt → 0 ≤ (I 6 j).toInt ∧ (I 6 j).toInt ≤ 99) : z_M l yX11_stays wsX11_stays { frames := 7, cells := 0, slots := 0, locals := 183 } [.ref (ad 0), .int a1, .int a2] G (shC c, ad, I, JX, PC c ad) (fun r u1 => ∃ I1 : z_I, u1 = (shC c, ad, I1, JX, PC c ad) ∧ z_iH I1 ∧ z_iD I1 ∧ z_iO I1 ∧ z_iB I1 ∧ z_fr L_X11_stays_d I1 I ∧ ((((0 ≤ a1.toInt ∧ a1.toInt ≤ 2) ∧ 0 ≤ a2.toInt ∧ a2.toInt ≤ 23) ∧ r.toInt = zd_C (zd_D (zd_U c I SS a2.toInt) (zd_B I) (zd_N I) (I 1 5).toNatClampNeg a1.toInt) (zd_N I) (I 1 5).toNatClampNeg) ∨ (¬ ((0 ≤ a1.toInt ∧ a1.toInt ≤ 2) ∧ 0 ≤ a2.toInt ∧ a2.toInt ≤ 23) ∧ r.toInt = -1))) 0 0 := by
  intro sz
  refine z_headQ (cc := cX11_stays) (maxL := 5) (ret := (some .int)) (by decide) rfl (Nat.le_of_ble_eq_true rfl) ?_
  intro p e s m below meth c0 ls hIn hK hsz hW hl
  obtain ⟨hx, hb, hr, hml, hown, hts, hlocks, hname⟩ := hIn
  subst hsz
  have hown : s.vm.findClass RX11 = some m.cls := hown
  have hA : ∀ q : Nat, s.heap.size ≤ q → z_A (shC c, ad, I, JX, PC c ad) s.heap.size q := fun q h => Or.inr h
  generalize hAe : z_A (shC c, ad, I, JX, PC c ad) s.heap.size = A at *
  have hS : va_S A s.heap s.heap [] := va_S.rf
  have hl : lv_has ls 5 [(0, .ref (ad 0)), (1, .int a1), (2, .int a2)] := hl
  refine lv_iload_n hx hb dX11_stays_0 rfl (lv_at hl 1 rfl) ?_
  refine lv_iconst (v := 0) hx hb dX11_stays_1 (by decide) ?_
  refine lv_iconst (v := 2) hx hb dX11_stays_2 (by decide) ?_
  refine z_ci hW hS hA (va_runS (As := [.int a1, .int 0, .int 2]) (rest := []) ⟨hx, hb, hml, hown, hts⟩ (sx_X11_within_e l G ad c I  a1 0 2 _) (va_cwS 3 hts gX11_stays_X11_within rfl rfl rfl (by decide +kernel) ⟨Nat.le_of_ble_eq_true rfl, Nat.le_of_ble_eq_true rfl⟩) (z_preS hK hW) rfl rfl hl.1 rfl (lv_room (Nat.le_of_ble_eq_true rfl)) dX11_stays_3 ⟨Nat.le_of_ble_eq_true rfl, Nat.le_of_ble_eq_true rfl⟩) (fun r u1 H locs hp hW hS => ?_)
  obtain ⟨e9, hp⟩ := hp
  rw [e9] at hW
  rcases hp with ⟨rfl, h1⟩ | ⟨rfl, h1⟩
  · have h2 := h1
    have z3 := z_l0
    have z4 := z_l2
    refine lv_if_eq (tgt := 16) hx hb dX11_stays_6 (by decide) (fun c5 => absurd c5 (by decide)) (fun c5 => ?_)
    refine lv_iload_n hx hb dX11_stays_9 rfl (lv_at hl 2 rfl) ?_
    refine z_ci hW hS hA (va_runS (As := [.int a2]) (rest := []) ⟨hx, hb, hml, hown, hts⟩ (sx_X11_isMonth_e l G ad c I  a2 _) (va_cwS 1 hts gX11_stays_X11_isMonth rfl rfl rfl (by decide +kernel) ⟨Nat.le_of_ble_eq_true rfl, Nat.le_of_ble_eq_true rfl⟩) (z_preS hK hW) rfl rfl hl.1 rfl (lv_room (Nat.le_of_ble_eq_true rfl)) dX11_stays_10 ⟨Nat.le_of_ble_eq_true rfl, Nat.le_of_ble_eq_true rfl⟩) (fun r u1 H locs hp hW hS => ?_)
    obtain ⟨e9, hp⟩ := hp
    rw [e9] at hW
    rcases hp with ⟨rfl, h6⟩ | ⟨rfl, h6⟩
    · have h7 := h6
      refine lv_if_ne (tgt := 18) hx hb dX11_stays_13 (by decide) (fun c8 => ?_) (fun c8 => absurd c8 (by decide))
      refine lv_aload_n hx hb dX11_stays_18 rfl (lv_at hl 0 rfl) ?_
      refine lv_iload_n hx hb dX11_stays_19 rfl (lv_at hl 1 rfl) ?_
      refine lv_iload_n hx hb dX11_stays_20 rfl (lv_at hl 2 rfl) ?_
      refine z_cv hW hS hA (va_runV (As := [.int a1, .int a2]) (rest := []) ⟨hx, hb, hml, hown, hts⟩ (sx_X11_dealOut_d l G ad c I ⟨(by show 0 ≤ (I 1 5).toInt ∧ (I 1 5).toInt ≤ 30; exact hH.1), (by show 0 ≤ (I 1 11).toInt ∧ (I 1 11).toInt ≤ 200; exact hH.2)⟩ (by show 0 ≤ (I 72 2).toInt ∧ (I 72 2).toInt ≤ 30; exact hD) (by show 0 ≤ (I 21 2).toInt ∧ (I 21 2).toInt ≤ 12; exact hO) ⟨(by show 0 ≤ (I 0 0).toInt ∧ (I 0 0).toInt ≤ 719; exact hB.1), (by show 0 ≤ (I 0 8).toInt ∧ (I 0 8).toInt ≤ 10; exact hB.2)⟩ SS a1 a2 hc h10 hWu (by omega) hN _) (cwV 2 hts gX11_stays_X11_dealOut rfl rfl rfl (by decide +kernel) ⟨Nat.le_of_ble_eq_true rfl, Nat.le_of_ble_eq_true rfl⟩) (z_preV (i := 0) hK hW rfl rfl) rfl rfl hl.1 rfl (lv_room (Nat.le_of_ble_eq_true rfl)) dX11_stays_21 ⟨Nat.le_of_ble_eq_true rfl, Nat.le_of_ble_eq_true rfl⟩) (fun u1 H locs hp hW hS => ?_)
      obtain ⟨I9, e9, hI9H, hI9D, hI9O, hI9B, fI9, hp⟩ := hp
      rw [e9] at hW
      have f10 := z_fr_sub (L := L_X11_stays_d) z_fr_0 fI9 (by decide)
      have hE11 := hp
      refine lv_iconst (v := 0) hx hb dX11_stays_24 (by decide) ?_
      refine lv_istore_n (lv' := [(3, .int 0), (0, .ref (ad 0)), (1, .int a1), (2, .int a2)]) hx hb dX11_stays_25 rfl hl (by decide) rfl (fun ls hl => ?_)
      refine lv_iconst (v := 0) hx hb dX11_stays_26 (by decide) ?_
      refine lv_istore (lv' := [(4, .int 0), (3, .int 0), (0, .ref (ad 0)), (1, .int a1), (2, .int a2)]) hx hb dX11_stays_27 hl (by decide) rfl (fun ls hl => ?_)
      have lp12 : ∀ (f : Nat) (y13 : Int32) (y14 : Int32) (H : Heap) (locs : List Loc) (ls : Array Slot), (2147483647 < y13.toInt + (f : Int)) → (0 ≤ y13.toInt) → (0 ≤ y14.toInt) → (y14.toInt ≤ 30) → (y14.toInt = zd_C (zd_D (zd_U c I SS a2.toInt) (zd_B I) (zd_N I) (I 1 5).toNatClampNeg a1.toInt) (zd_N I) y13.toNatClampNeg ∧ y14.toInt ≤ y13.toInt ∧ y13.toInt ≤ (I 1 5).toInt) → z_W G A (shC c, ad, I9, JX, PC c ad) H → va_S A s.heap H locs → lv_has ls 5 [(4, .int y13), (3, .int y14), (0, .ref (ad 0)), (1, .int a1), (2, .int a2)] → W p l e (headSpec wsX11_stays { frames := 7, cells := 0, slots := 0, locals := 183 }).room s m ([.ref (ad 0), .int a1, .int a2] : List Value).toArray below meth c0 H locs 0 0 (MQ below (va_Qi (fun (r : Int32) (u1 : z_U) => ∃ I1 : z_I, u1 = (shC c, ad, I1, JX, PC c ad) ∧ z_iH I1 ∧ z_iD I1 ∧ z_iO I1 ∧ z_iB I1 ∧ z_fr L_X11_stays_d I1 I ∧ ((((0 ≤ a1.toInt ∧ a1.toInt ≤ 2) ∧ 0 ≤ a2.toInt ∧ a2.toInt ≤ 23) ∧ r.toInt = zd_C (zd_D (zd_U c I SS a2.toInt) (zd_B I) (zd_N I) (I 1 5).toNatClampNeg a1.toInt) (zd_N I) (I 1 5).toNatClampNeg) ∨ (¬ ((0 ≤ a1.toInt ∧ a1.toInt ≤ 2) ∧ 0 ≤ a2.toInt ∧ a2.toInt ≤ 23) ∧ r.toInt = -1))) (z_B G A) A) ([.ref (ad 0), .int a1, .int a2] : List Value).toArray s 0 0 A) (F0 m 29 ls []) := by
        intro f
        induction f with
        | zero => intro y13 y14 H locs ls lp12m lp12l4 lp12l3 lp12u3 lp12C hW hS hl; exact absurd lp12m (by have := Int32.toInt_lt y13; have := Int32.le_toInt y13; omega)
        | succ f lp12ih =>
          intro y13 y14 H locs ls lp12m lp12l4 lp12l3 lp12u3 lp12C hW hS hl
          refine lv_iload hx hb dX11_stays_29 (lv_at hl 0 rfl) ?_
          have hn15 : (I9 1 5).toInt = (I 1 5).toInt := by rw [fI9 1 5 (by decide)]
          refine lv_aload_n hx hb dX11_stays_31 rfl (lv_at hl 2 rfl) ?_
          refine z_get (T := TX11) (N := 13) (ci := 11) (i := 0) (v := .ref (ad 1)) hx hb hts zj_X11_stays_X11 hown hK hW rfl rfl 2 (by decide) (hts (.fieldLink RX11 16 "PetrolBoard" "holders" "LPetrolBoard$Holders;") (me_s (me_l (me_l (me_l (me_l (me_l (me_l (me_l (List.mem_of_getElem? (i := 0) rfl)))))))))) (fun _ h => h) rfl dX11_stays_32 ?_
          have r16 : 0 ≤ (I9 1 5).toInt ∧ (I9 1 5).toInt ≤ 30 := hI9H.1
          refine z_get (T := TX2) (N := 12) (ci := 2) (i := 1) (v := .int (I9 1 5)) hx hb hts zj_X11_stays_X2 hown hK hW rfl rfl 5 (by decide) (hts (.fieldLink RX11 373 "PetrolBoard$Holders" "number" "I") (me_s (me_l (me_l (me_l (me_l (me_l (me_l (me_l (List.mem_of_getElem? (i := 1) rfl)))))))))) (fun _ h => h) rfl dX11_stays_35 ?_
          refine lv_icmp_ge (tgt := 64) hx hb dX11_stays_38 (by decide) (fun c17 => ?_) (fun c17 => ?_)
          · have g18 := z_f_ge rfl rfl c17
            have b19 := Int32.toInt_lt y13
            refine lv_iload_n hx hb dX11_stays_64 rfl (lv_at hl 1 rfl) ?_
            exact z_iret hx hb hr hK hS (Nat.le_of_ble_eq_true rfl) (Nat.le_of_ble_eq_true rfl) hlocks dX11_stays_65 (shC c, ad, I9, JX, PC c ad) hW ⟨I9, rfl, ⟨(by show 0 ≤ (I9 1 5).toInt ∧ (I9 1 5).toInt ≤ 30; exact hI9H.1), (by show 0 ≤ (I9 1 11).toInt ∧ (I9 1 11).toInt ≤ 200; exact hI9H.2)⟩, (by show 0 ≤ (I9 72 2).toInt ∧ (I9 72 2).toInt ≤ 30; exact hI9D), (by show 0 ≤ (I9 21 2).toInt ∧ (I9 21 2).toInt ≤ 12; exact hI9O), ⟨(by show 0 ≤ (I9 0 0).toInt ∧ (I9 0 0).toInt ≤ 719; exact hI9B.1), (by show 0 ≤ (I9 0 8).toInt ∧ (I9 0 8).toInt ≤ 10; exact hI9B.2)⟩, f10, (by have q1 := z_clt (x := y13) rfl (by omega); have q2 := z_clt (x := I 1 5) rfl (by have q9 := hH.1; omega); have e9 := lp12C.1; rw [show y13.toNatClampNeg = (I 1 5).toNatClampNeg by omega] at e9; exact Or.inl ⟨by omega, e9⟩)⟩
          · have g20 := z_f_nge rfl rfl c17
            have b21 := Int32.toInt_lt y13
            refine lv_iload_n hx hb dX11_stays_41 rfl (lv_at hl 1 rfl) ?_
            refine lv_aload_n hx hb dX11_stays_42 rfl (lv_at hl 2 rfl) ?_
            refine lv_iload hx hb dX11_stays_43 (lv_at hl 0 rfl) ?_
            refine z_ci hW hS hA (va_runV (As := [.int y13]) (rest := [.int y14]) ⟨hx, hb, hml, hown, hts⟩ (sx_X11_remains_d l G ad c I9 ⟨(by show 0 ≤ (I9 1 5).toInt ∧ (I9 1 5).toInt ≤ 30; exact hI9H.1), (by show 0 ≤ (I9 1 11).toInt ∧ (I9 1 11).toInt ≤ 200; exact hI9H.2)⟩ (by show 0 ≤ (I9 72 2).toInt ∧ (I9 72 2).toInt ≤ 30; exact hI9D) y13 hc h10 (by rw [hE11.1, fI9 1 5 (by decide)]) _) (cwV 1 hts gX11_stays_X11_remains rfl rfl rfl (by decide +kernel) ⟨Nat.le_of_ble_eq_true rfl, Nat.le_of_ble_eq_true rfl⟩) (z_preV (i := 0) hK hW rfl rfl) rfl rfl hl.1 rfl (lv_room (Nat.le_of_ble_eq_true rfl)) dX11_stays_45 ⟨Nat.le_of_ble_eq_true rfl, Nat.le_of_ble_eq_true rfl⟩) (fun r u1 H locs hp hW hS => ?_)
            obtain ⟨e9, hp⟩ := hp
            rw [e9] at hW
            rcases hp with ⟨rfl, hb22⟩ | ⟨rfl, hb22⟩
            · refine lv_if_eq (tgt := 55) hx hb dX11_stays_48 (by decide) (fun c23 => absurd c23 (by decide)) (fun c23 => ?_)
              refine lv_iconst (v := 1) hx hb dX11_stays_51 (by decide) ?_
              refine lv_goto (tgt := 56) hx hb dX11_stays_52 (by decide) ?_
              refine lv_iadd hx hb dX11_stays_56 ?_
              refine lv_topi (fun x24 ex24 => ?_)
              have tx24 : x24.toInt = y14.toInt + 1 := z_tadd ex24 rfl z_l1 (by omega) (by omega)
              refine lv_istore_n (lv' := [(3, .int x24), (4, .int y13), (0, .ref (ad 0)), (1, .int a1), (2, .int a2)]) hx hb dX11_stays_57 rfl hl (by decide) rfl (fun ls hl => ?_)
              obtain ⟨x25, ex25⟩ : ∃ y : Int32, y = y13 + 1 := ⟨_, rfl⟩
              have tx25 : x25.toInt = y13.toInt + 1 := z_tadd ex25 rfl z_l1 (by omega) (by omega)
              refine lv_iinc (v := x25) (lv' := [(4, .int x25), (3, .int x24), (0, .ref (ad 0)), (1, .int a1), (2, .int a2)]) hx hb dX11_stays_58 hl (k := 1) rfl (by rw [ex25]; rfl) (by decide) rfl (fun ls hl => ?_)
              refine lv_goto (tgt := 29) hx hb dX11_stays_61 (by decide) ?_
              exact lp12ih x25 x24 _ _ _ (by omega) (by omega) (by omega) (by omega) (by have c9 := z_clt (x := y13) rfl (by omega); have d9 := hE11.2 y13.toNatClampNeg (by omega); have n9 : (I9 6 y13.toNatClampNeg).toInt = zd_N I y13.toNatClampNeg := (by rw [fI9 6 _ (z_wr_c (by decide))]; rfl); have q9 := hb22.2; rw [n9, d9] at q9; exact ⟨by rw [(show x25.toNatClampNeg = y13.toNatClampNeg + 1 from z_cln (by omega) (by omega)), zd_C_y q9]; omega, by omega, by omega⟩) hW hS (lv_sub hl [0, 1, 2, 3, 4] rfl)
            · refine lv_if_eq (tgt := 55) hx hb dX11_stays_48 (by decide) (fun c26 => ?_) (fun c26 => absurd (by decide) c26)
              refine lv_iconst (v := 0) hx hb dX11_stays_55 (by decide) ?_
              refine lv_iadd hx hb dX11_stays_56 ?_
              refine lv_topi (fun x27 ex27 => ?_)
              have tx27 : x27.toInt = y14.toInt + 0 := z_tadd ex27 rfl z_l0 (by omega) (by omega)
              refine lv_istore_n (lv' := [(3, .int x27), (4, .int y13), (0, .ref (ad 0)), (1, .int a1), (2, .int a2)]) hx hb dX11_stays_57 rfl hl (by decide) rfl (fun ls hl => ?_)
              obtain ⟨x28, ex28⟩ : ∃ y : Int32, y = y13 + 1 := ⟨_, rfl⟩
              have tx28 : x28.toInt = y13.toInt + 1 := z_tadd ex28 rfl z_l1 (by omega) (by omega)
              refine lv_iinc (v := x28) (lv' := [(4, .int x28), (3, .int x27), (0, .ref (ad 0)), (1, .int a1), (2, .int a2)]) hx hb dX11_stays_58 hl (k := 1) rfl (by rw [ex28]; rfl) (by decide) rfl (fun ls hl => ?_)
              refine lv_goto (tgt := 29) hx hb dX11_stays_61 (by decide) ?_
              exact lp12ih x28 x27 _ _ _ (by omega) (by omega) (by omega) (by omega) (by have c9 := z_clt (x := y13) rfl (by omega); have d9 := hE11.2 y13.toNatClampNeg (by omega); have n9 : (I9 6 y13.toNatClampNeg).toInt = zd_N I y13.toNatClampNeg := (by rw [fI9 6 _ (z_wr_c (by decide))]; rfl); have q9 : ¬ zd_N I y13.toNatClampNeg ≤ (zd_D (zd_U c I SS a2.toInt) (zd_B I) (zd_N I) (I 1 5).toNatClampNeg a1.toInt) y13.toNatClampNeg := (fun q9 => hb22 ⟨⟨by omega, by rw [fI9 1 5 (by decide)]; omega⟩, by rw [n9, d9]; exact q9⟩); exact ⟨by rw [(show x28.toNatClampNeg = y13.toNatClampNeg + 1 from z_cln (by omega) (by omega)), zd_C_n q9]; omega, by omega, by omega⟩) hW hS (lv_sub hl [0, 1, 2, 3, 4] rfl)
      exact lp12 4294967296 (0) (0) _ _ _ (z_m0u _) (by rw [z_l0]; omega) (by rw [z_l0]; omega) (by rw [z_l0]; omega) ⟨by rw [show (0 : Int32).toNatClampNeg = 0 by decide]; rfl, by omega, by have q0 := z_l0; have q9 := hH.1; omega⟩ hW hS (lv_sub hl [0, 1, 2, 3, 4] rfl)
    · have h29 := h6
      refine lv_if_ne (tgt := 18) hx hb dX11_stays_13 (by decide) (fun c30 => absurd (by decide) c30) (fun c30 => ?_)
      refine lv_iconst (v := (-1)) hx hb dX11_stays_16 (by decide) ?_
      exact z_iret hx hb hr hK hS (Nat.le_of_ble_eq_true rfl) (Nat.le_of_ble_eq_true rfl) hlocks dX11_stays_17 (shC c, ad, I, JX, PC c ad) hW ⟨I, rfl, ⟨(by show 0 ≤ (I 1 5).toInt ∧ (I 1 5).toInt ≤ 30; exact hH.1), (by show 0 ≤ (I 1 11).toInt ∧ (I 1 11).toInt ≤ 200; exact hH.2)⟩, (by show 0 ≤ (I 72 2).toInt ∧ (I 72 2).toInt ≤ 30; exact hD), (by show 0 ≤ (I 21 2).toInt ∧ (I 21 2).toInt ≤ 12; exact hO), ⟨(by show 0 ≤ (I 0 0).toInt ∧ (I 0 0).toInt ≤ 719; exact hB.1), (by show 0 ≤ (I 0 8).toInt ∧ (I 0 8).toInt ≤ 10; exact hB.2)⟩, z_fr_0, (Or.inr ⟨by omega, by decide⟩)⟩
  · have h31 := h1
    have z32 := z_l0
    have z33 := z_l2
    refine lv_if_eq (tgt := 16) hx hb dX11_stays_6 (by decide) (fun c34 => ?_) (fun c34 => absurd (by decide) c34)
    refine lv_iconst (v := (-1)) hx hb dX11_stays_16 (by decide) ?_
    exact z_iret hx hb hr hK hS (Nat.le_of_ble_eq_true rfl) (Nat.le_of_ble_eq_true rfl) hlocks dX11_stays_17 (shC c, ad, I, JX, PC c ad) hW ⟨I, rfl, ⟨(by show 0 ≤ (I 1 5).toInt ∧ (I 1 5).toInt ≤ 30; exact hH.1), (by show 0 ≤ (I 1 11).toInt ∧ (I 1 11).toInt ≤ 200; exact hH.2)⟩, (by show 0 ≤ (I 72 2).toInt ∧ (I 72 2).toInt ≤ 30; exact hD), (by show 0 ≤ (I 21 2).toInt ∧ (I 21 2).toInt ≤ 12; exact hO), ⟨(by show 0 ≤ (I 0 0).toInt ∧ (I 0 0).toInt ≤ 719; exact hB.1), (by show 0 ≤ (I 0 8).toInt ∧ (I 0 8).toInt ≤ 10; exact hB.2)⟩, z_fr_0, (Or.inr ⟨by omega, by decide⟩)⟩
noncomputable def L_X12_deals_d : z_L := [(69, 999), (70, 999), (24, 999), (30, 999)]
set_option maxHeartbeats 8000000 in
set_option maxRecDepth 100000 in
theorem sx_X12_deals_d (l : Launch) (G : z_G) (ad : Nat → Nat) (I : z_I) (J : z_J) (hma : z_ima I) (hmb : z_imb I) (hAtf : z_rg 11 0 288 I) (hAtm : z_rg 12 0 24 I) (hNd : z_Nd I) (hAsf : z_rg 19 0 6200 I) (hAst : z_rg 20 0 6200 I) (hAsc : z_rg 18 (-1) 6199 I) (hEx : z_Ex I) (FF : Nat → Nat) (RS : Nat → List zm_row) (a1 : Int32) (a2 : Int32) (q1 : 0 ≤ a1.toInt ∧ a1.toInt ≤ 2) (q2 : 0 ≤ a2.toInt ∧ a2.toInt ≤ 23) (hWm : zw_W I FF RS) (hN : ∀ j : Nat, (j : Int) < (I 0 1).toInt → 0 ≤ (I 5 j).toInt ∧ (I 5 j).toInt ≤ 99) : z_Mv l yX12_deals wsX12_deals { frames := 6, cells := 0, slots := 0, locals := 133 } [.ref (ad 0), .int a1, .int a2] G (shM, ad, I, J, PM ad) (fun u1 => ∃ (I1 : z_I) (J1 : z_J), u1 = (shM, ad, I1, J1, PM ad) ∧ z_ima I1 ∧ z_imb I1 ∧ z_rg 11 0 288 I1 ∧ z_rg 12 0 24 I1 ∧ z_Nd I1 ∧ z_rg 19 0 6200 I1 ∧ z_rg 20 0 6200 I1 ∧ z_rg 18 (-1) 6199 I1 ∧ z_Ex I1 ∧ z_fr L_X12_deals_d I1 I ∧ (∀ j : Nat, (j : Int) < (I 0 1).toInt → (I1 69 j).toInt = zd_D (zd_V I RS a2.toInt) (zd_BM I) (zd_NM I) (I 0 1).toNatClampNeg a1.toInt j)) 0 0 := by
  intro sz
  refine z_headQ (cc := cX12_deals) (maxL := 7) (ret := none) (by decide) rfl (Nat.le_of_ble_eq_true rfl) ?_
  intro p e s m below meth c0 ls hIn hK hsz hW hl
  obtain ⟨hx, hb, hr, hml, hown, hts, hlocks, hname⟩ := hIn
  subst hsz
  have hown : s.vm.findClass RX12 = some m.cls := hown
  have hA : ∀ q : Nat, s.heap.size ≤ q → z_A (shM, ad, I, J, PM ad) s.heap.size q := fun q h => Or.inr h
  generalize hAe : z_A (shM, ad, I, J, PM ad) s.heap.size = A at *
  have hS : va_S A s.heap s.heap [] := va_S.rf
  have hl : lv_has ls 7 [(0, .ref (ad 0)), (1, .int a1), (2, .int a2)] := hl
  refine lv_iconst (v := 0) hx hb dX12_deals_0 (by decide) ?_
  refine lv_istore_n (lv' := [(3, .int 0), (0, .ref (ad 0)), (1, .int a1), (2, .int a2)]) hx hb dX12_deals_1 rfl hl (by decide) rfl (fun ls hl => ?_)
  refine lv_iconst (v := 0) hx hb dX12_deals_2 (by decide) ?_
  refine lv_istore (lv' := [(4, .int 0), (3, .int 0), (0, .ref (ad 0)), (1, .int a1), (2, .int a2)]) hx hb dX12_deals_3 hl (by decide) rfl (fun ls hl => ?_)
  have lp1 : ∀ (f : Nat) (y2 : Int32) (y3 : Int32) (I4 : z_I) (J5 : z_J) (H : Heap) (locs : List Loc) (ls : Array Slot), (2147483647 < y2.toInt + (f : Int)) → (0 ≤ y2.toInt) → (0 ≤ y3.toInt) → (y3.toInt ≤ 2970) → (z_ima I4) → (z_imb I4) → (z_rg 11 0 288 I4) → (z_rg 12 0 24 I4) → (z_Nd I4) → (z_rg 19 0 6200 I4) → (z_rg 20 0 6200 I4) → (z_rg 18 (-1) 6199 I4) → (z_Ex I4) → ((I4 0 1).toInt = (I 0 1).toInt) → (∀ j : Nat, (j : Int) < y2.toInt → I4 70 j = 0) → ((∀ j : Nat, (j : Int) < y2.toInt → (I4 69 j).toInt = (zd_V I RS a2.toInt) j ∧ 0 ≤ (I4 69 j).toInt ∧ (I4 69 j).toInt ≤ 99) ∧ y3.toInt = zd_S (zd_V I RS a2.toInt) y2.toNatClampNeg ∧ y3.toInt ≤ 99 * y2.toInt ∧ y2.toInt ≤ (I 0 1).toInt) → (z_fr L_X12_deals_d I4 I) → z_W G A (shM, ad, I4, J5, PM ad) H → va_S A s.heap H locs → lv_has ls 7 [(4, .int y2), (3, .int y3), (0, .ref (ad 0)), (1, .int a1), (2, .int a2)] → W p l e (headSpec wsX12_deals { frames := 6, cells := 0, slots := 0, locals := 133 }).room s m ([.ref (ad 0), .int a1, .int a2] : List Value).toArray below meth c0 H locs 0 0 (MQ below (va_Qv (fun (u1 : z_U) => ∃ (I1 : z_I) (J1 : z_J), u1 = (shM, ad, I1, J1, PM ad) ∧ z_ima I1 ∧ z_imb I1 ∧ z_rg 11 0 288 I1 ∧ z_rg 12 0 24 I1 ∧ z_Nd I1 ∧ z_rg 19 0 6200 I1 ∧ z_rg 20 0 6200 I1 ∧ z_rg 18 (-1) 6199 I1 ∧ z_Ex I1 ∧ z_fr L_X12_deals_d I1 I ∧ (∀ j : Nat, (j : Int) < (I 0 1).toInt → (I1 69 j).toInt = zd_D (zd_V I RS a2.toInt) (zd_BM I) (zd_NM I) (I 0 1).toNatClampNeg a1.toInt j)) (z_B G A) A) ([.ref (ad 0), .int a1, .int a2] : List Value).toArray s 0 0 A) (F0 m 5 ls []) := by
    intro f
    induction f with
    | zero => intro y2 y3 I4 J5 H locs ls lp1m lp1l4 lp1l3 lp1u3 lp1ma lp1mb lp1Atf lp1Atm lp1Nd lp1Asf lp1Ast lp1Asc lp1Ex lp1H lp1Z lp1U lp1fr hW hS hl; exact absurd lp1m (by have := Int32.toInt_lt y2; have := Int32.le_toInt y2; omega)
    | succ f lp1ih =>
      intro y2 y3 I4 J5 H locs ls lp1m lp1l4 lp1l3 lp1u3 lp1ma lp1mb lp1Atf lp1Atm lp1Nd lp1Asf lp1Ast lp1Asc lp1Ex lp1H lp1Z lp1U lp1fr hW hS hl
      refine lv_iload hx hb dX12_deals_5 (lv_at hl 0 rfl) ?_
      refine lv_aload_n hx hb dX12_deals_7 rfl (lv_at hl 2 rfl) ?_
      have r6 : 0 ≤ (I4 0 1).toInt ∧ (I4 0 1).toInt ≤ 30 := lp1ma.2.1
      refine z_get (T := TX12) (N := 96) (ci := 12) (i := 0) (v := .int (I4 0 1)) hx hb hts zj_X12_deals_X12 hown hK hW rfl rfl 1 (by decide) (hts (.fieldLink RX12 229 "PetrolBoardModel" "holders" "I") (me_s (me_l (me_l (List.mem_of_getElem? (i := 0) rfl))))) (fun _ h => h) rfl dX12_deals_8 ?_
      refine lv_icmp_ge (tgt := 56) hx hb dX12_deals_11 (by decide) (fun c7 => ?_) (fun c7 => ?_)
      · have g8 := z_f_ge rfl rfl c7
        have b9 := Int32.toInt_lt y2
        have c810 := z_clt (x := I 0 1) rfl (by have q9 := hma.2.1; omega)
        have c911 := z_clt (x := y2) rfl (by omega)
        have he12 : y2.toNatClampNeg = (I 0 1).toNatClampNeg := by have q9 := lp1U.2.2.2; have q8 := lp1H; omega
        refine lv_iload_n hx hb dX12_deals_56 rfl (lv_at hl 3 rfl) ?_
        refine lv_if_ne (tgt := 61) hx hb dX12_deals_57 (by decide) (fun c13 => ?_) (fun c13 => ?_)
        · have g14 := z_f_ne rfl z_l0 c13
          refine lv_iconst (v := 0) hx hb dX12_deals_61 (by decide) ?_
          refine lv_istore (lv' := [(4, .int 0), (3, .int y3), (0, .ref (ad 0)), (1, .int a1), (2, .int a2)]) hx hb dX12_deals_62 hl (by decide) rfl (fun ls hl => ?_)
          have lp15 : ∀ (f : Nat) (y16 : Int32) (y17 : Int32) (I18 : z_I) (J19 : z_J) (H : Heap) (locs : List Loc) (ls : Array Slot), (2147483647 < y16.toInt + (f : Int)) → (0 ≤ y16.toInt) → (0 ≤ y17.toInt) → (y17.toInt ≤ 2970) → (z_ima I18) → (z_imb I18) → (z_rg 11 0 288 I18) → (z_rg 12 0 24 I18) → (z_Nd I18) → (z_rg 19 0 6200 I18) → (z_rg 20 0 6200 I18) → (z_rg 18 (-1) 6199 I18) → (z_Ex I18) → ((I18 0 1).toInt = (I 0 1).toInt) → (a1.toInt = 2 → (z_ct I18 70 (I 0 1).toInt.toNat : Int) = y16.toInt) → ((∀ j : Nat, j < (I 0 1).toNatClampNeg → a1.toInt = 2 → (I18 69 j).toInt = (zd_f (zd_BM I) (zd_NM I) (I 0 1).toNatClampNeg (zd_V I RS a2.toInt) (zd_S (zd_V I RS a2.toInt) (I 0 1).toNatClampNeg) y16.toNatClampNeg).1 j ∧ zd_i I18 j = (zd_f (zd_BM I) (zd_NM I) (I 0 1).toNatClampNeg (zd_V I RS a2.toInt) (zd_S (zd_V I RS a2.toInt) (I 0 1).toNatClampNeg) y16.toNatClampNeg).2.1 j) ∧ (a1.toInt = 2 → y17.toInt = (zd_f (zd_BM I) (zd_NM I) (I 0 1).toNatClampNeg (zd_V I RS a2.toInt) (zd_S (zd_V I RS a2.toInt) (I 0 1).toNatClampNeg) y16.toNatClampNeg).2.2) ∧ (¬ a1.toInt = 2 → y17.toInt = zd_S (zd_V I RS a2.toInt) (I 0 1).toNatClampNeg ∧ ∀ j : Nat, (j : Int) < y16.toInt → (I18 69 j).toInt = zd_S (zd_V I RS a2.toInt) (I 0 1).toNatClampNeg / ((I 0 1).toNatClampNeg : Int)) ∧ y16.toInt ≤ (I 0 1).toInt) → (z_fr L_X12_deals_d I18 I) → z_W G A (shM, ad, I18, J19, PM ad) H → va_S A s.heap H locs → lv_has ls 7 [(4, .int y16), (3, .int y17), (0, .ref (ad 0)), (1, .int a1), (2, .int a2)] → W p l e (headSpec wsX12_deals { frames := 6, cells := 0, slots := 0, locals := 133 }).room s m ([.ref (ad 0), .int a1, .int a2] : List Value).toArray below meth c0 H locs 0 0 (MQ below (va_Qv (fun (u1 : z_U) => ∃ (I1 : z_I) (J1 : z_J), u1 = (shM, ad, I1, J1, PM ad) ∧ z_ima I1 ∧ z_imb I1 ∧ z_rg 11 0 288 I1 ∧ z_rg 12 0 24 I1 ∧ z_Nd I1 ∧ z_rg 19 0 6200 I1 ∧ z_rg 20 0 6200 I1 ∧ z_rg 18 (-1) 6199 I1 ∧ z_Ex I1 ∧ z_fr L_X12_deals_d I1 I ∧ (∀ j : Nat, (j : Int) < (I 0 1).toInt → (I1 69 j).toInt = zd_D (zd_V I RS a2.toInt) (zd_BM I) (zd_NM I) (I 0 1).toNatClampNeg a1.toInt j)) (z_B G A) A) ([.ref (ad 0), .int a1, .int a2] : List Value).toArray s 0 0 A) (F0 m 64 ls []) := by
            intro f
            induction f with
            | zero => intro y16 y17 I18 J19 H locs ls lp15m lp15l4 lp15l3 lp15u3 lp15ma lp15mb lp15Atf lp15Atm lp15Nd lp15Asf lp15Ast lp15Asc lp15Ex lp15H lp15C lp15S lp15fr hW hS hl; exact absurd lp15m (by have := Int32.toInt_lt y16; have := Int32.le_toInt y16; omega)
            | succ f lp15ih =>
              intro y16 y17 I18 J19 H locs ls lp15m lp15l4 lp15l3 lp15u3 lp15ma lp15mb lp15Atf lp15Atm lp15Nd lp15Asf lp15Ast lp15Asc lp15Ex lp15H lp15C lp15S lp15fr hW hS hl
              refine lv_iload hx hb dX12_deals_64 (lv_at hl 0 rfl) ?_
              refine lv_aload_n hx hb dX12_deals_66 rfl (lv_at hl 2 rfl) ?_
              have r20 : 0 ≤ (I18 0 1).toInt ∧ (I18 0 1).toInt ≤ 30 := lp15ma.2.1
              refine z_get (T := TX12) (N := 96) (ci := 12) (i := 0) (v := .int (I18 0 1)) hx hb hts zj_X12_deals_X12 hown hK hW rfl rfl 1 (by decide) (hts (.fieldLink RX12 229 "PetrolBoardModel" "holders" "I") (me_s (me_l (me_l (List.mem_of_getElem? (i := 0) rfl))))) (fun _ h => h) rfl dX12_deals_67 ?_
              refine lv_icmp_ge (tgt := 197) hx hb dX12_deals_70 (by decide) (fun c21 => ?_) (fun c21 => ?_)
              · have g22 := z_f_ge rfl rfl c21
                have b23 := Int32.toInt_lt y16
                exact z_vret hx hb hr hK hS (Nat.le_of_ble_eq_true rfl) (Nat.le_of_ble_eq_true rfl) hlocks dX12_deals_197 (shM, ad, I18, J19, PM ad) hW ⟨I18, J19, rfl, ⟨(by show 0 ≤ (I18 0 0).toInt ∧ (I18 0 0).toInt ≤ 719; exact lp15ma.1), (by show 0 ≤ (I18 0 1).toInt ∧ (I18 0 1).toInt ≤ 30; exact lp15ma.2.1), (by show 0 ≤ (I18 0 2).toInt ∧ (I18 0 2).toInt ≤ 200; exact lp15ma.2.2)⟩, ⟨(by show 0 ≤ (I18 0 13).toInt ∧ (I18 0 13).toInt ≤ 12; exact lp15mb.1), (by show 0 ≤ (I18 0 14).toInt ∧ (I18 0 14).toInt ≤ 288; exact lp15mb.2)⟩, lp15Atf, lp15Atm, lp15Nd, lp15Asf, lp15Ast, lp15Asc, lp15Ex, lp15fr, (fun j hj => by have c8 := z_clt (x := I 0 1) rfl (by have q9 := hma.2.1; omega); have c9 := z_clt (x := y16) rfl (by omega); have h9 := lp15H; have e9 : y16.toNatClampNeg = (I 0 1).toNatClampNeg := (by have q9 := lp15S.2.2.2; omega); by_cases q : a1.toInt = 2; (· rw [zd_D_2 q, ← e9]; have r9 := (lp15S.1 j (by omega) q).1; rw [e9] at r9; rw [e9]; exact r9); (· rw [zd_D_1 (by omega)]; exact (lp15S.2.2.1 q).2 j (by omega)))⟩
              · have g24 := z_f_nge rfl rfl c21
                have b25 := Int32.toInt_lt y16
                refine lv_iload hx hb dX12_deals_73 (lv_at hl 0 rfl) ?_
                refine lv_istore (lv' := [(5, .int y16), (4, .int y16), (3, .int y17), (0, .ref (ad 0)), (1, .int a1), (2, .int a2)]) hx hb dX12_deals_75 hl (by decide) rfl (fun ls hl => ?_)
                refine lv_iload_n hx hb dX12_deals_77 rfl (lv_at hl 4 rfl) ?_
                refine lv_iconst (v := 2) hx hb dX12_deals_78 (by decide) ?_
                refine lv_icmp_ne (tgt := 178) hx hb dX12_deals_79 (by decide) (fun c26 => ?_) (fun c26 => ?_)
                · have g27 := z_f_ne rfl z_l2 c26
                  refine lv_aload_n hx hb dX12_deals_178 rfl (lv_at hl 3 rfl) ?_
                  refine z_get (T := TX12) (N := 96) (ci := 12) (i := 0) (v := .ref (ad 69)) hx hb hts zj_X12_deals_X12 hown hK hW rfl rfl 94 (by decide) (hts (.fieldLink RX12 223 "PetrolBoardModel" "deal" "[I") (me_s (me_l (me_l (List.mem_of_getElem? (i := 1) rfl))))) (fun _ h => h) rfl dX12_deals_179 ?_
                  refine lv_iload hx hb dX12_deals_182 (lv_at hl 0 rfl) ?_
                  refine lv_iload_n hx hb dX12_deals_184 rfl (lv_at hl 2 rfl) ?_
                  refine lv_aload_n hx hb dX12_deals_185 rfl (lv_at hl 3 rfl) ?_
                  refine z_get (T := TX12) (N := 96) (ci := 12) (i := 0) (v := .int (I18 0 1)) hx hb hts zj_X12_deals_X12 hown hK hW rfl rfl 1 (by decide) (hts (.fieldLink RX12 229 "PetrolBoardModel" "holders" "I") (me_s (me_l (me_l (List.mem_of_getElem? (i := 0) rfl))))) (fun _ h => h) rfl dX12_deals_186 ?_
                  refine lv_idiv hx hb dX12_deals_189 (z_nz rfl (by omega)) ?_
                  refine lv_topi (fun x28 ex28 => ?_)
                  have ht29 : x28.toInt = y17.toInt / (I 0 1).toInt := by
                    have q9 : x28.toInt = y17.toInt / (I18 0 1).toInt := z_tdiv ex28 rfl rfl (by omega) (by have q8 := lp15H; omega)
                    rw [lp15H] at q9
                    exact q9
                  refine z_iast (i := 69) hx hb hK hW hS rfl (z_ix rfl (by omega) (by omega)) dX12_deals_190 (fun H locs hz1 hW hS => ?_)
                  obtain ⟨I30, eI30⟩ : ∃ K : z_I, K = z_up I18 69 y16.toNatClampNeg x28 := ⟨_, rfl⟩
                  rw [← eI30] at hW
                  have f31 := z_fr_a lp15fr (show z_wa L_X12_deals_d 69 = true by decide) eI30
                  have a32 := z_rg_n lp15Atf (by decide) eI30
                  have a33 := z_rg_n lp15Atm (by decide) eI30
                  have a34 := z_Nd_n lp15Nd (by decide) eI30
                  have a35 := z_rg_n lp15Asf (by decide) eI30
                  have a36 := z_rg_n lp15Ast (by decide) eI30
                  have a37 := z_rg_n lp15Asc (by decide) eI30
                  have a38 := z_Ex_n lp15Ex (by decide) eI30
                  obtain ⟨x39, ex39⟩ : ∃ y : Int32, y = y16 + 1 := ⟨_, rfl⟩
                  have tx39 : x39.toInt = y16.toInt + 1 := z_tadd ex39 rfl z_l1 (by omega) (by omega)
                  refine lv_iinc (v := x39) (lv' := [(4, .int x39), (5, .int y16), (3, .int y17), (0, .ref (ad 0)), (1, .int a1), (2, .int a2)]) hx hb dX12_deals_191 hl (k := 1) rfl (by rw [ex39]; rfl) (by decide) rfl (fun ls hl => ?_)
                  refine lv_goto (tgt := 64) hx hb dX12_deals_194 (by decide) ?_
                  exact lp15ih x39 y17 I30 J19 _ _ _ (by omega) (by omega) (by omega) (by omega) ⟨(by show 0 ≤ (I30 0 0).toInt ∧ (I30 0 0).toInt ≤ 719; rw [eI30, z_up_n (by decide)]; exact lp15ma.1), (by show 0 ≤ (I30 0 1).toInt ∧ (I30 0 1).toInt ≤ 30; rw [eI30, z_up_n (by decide)]; exact lp15ma.2.1), (by show 0 ≤ (I30 0 2).toInt ∧ (I30 0 2).toInt ≤ 200; rw [eI30, z_up_n (by decide)]; exact lp15ma.2.2)⟩ ⟨(by show 0 ≤ (I30 0 13).toInt ∧ (I30 0 13).toInt ≤ 12; rw [eI30, z_up_n (by decide)]; exact lp15mb.1), (by show 0 ≤ (I30 0 14).toInt ∧ (I30 0 14).toInt ≤ 288; rw [eI30, z_up_n (by decide)]; exact lp15mb.2)⟩ a32 a33 a34 a35 a36 a37 a38 (congrArg Int32.toInt (f31 0 1 (by decide))) (fun q => absurd q (by omega)) (by have c8 := z_clt (x := I 0 1) rfl (by have q9 := hma.2.1; omega); have c9 := z_clt (x := y16) rfl (by omega); have h9 := lp15H; have s9 := lp15S.2.2.1 (by omega); exact ⟨fun j hj q => absurd q (by omega), fun q => absurd q (by omega), fun _ => ⟨s9.1, fun j hj => by rw [eI30, z_up_j]; by_cases q : j = y16.toNatClampNeg; (· rw [if_pos q, ht29, s9.1, show (I 0 1).toInt = ((I 0 1).toNatClampNeg : Int) by omega]); (· rw [if_neg q]; exact s9.2 j (by omega))⟩, by omega⟩) f31 hW hS (lv_sub hl [0, 2, 3, 4, 5] rfl)
                · have g40 := z_f_eq rfl z_l2 c26
                  refine lv_iconst (v := (-1)) hx hb dX12_deals_82 (by decide) ?_
                  refine lv_istore (lv' := [(5, .int (-1)), (4, .int y16), (3, .int y17), (0, .ref (ad 0)), (1, .int a1), (2, .int a2)]) hx hb dX12_deals_83 hl (by decide) rfl (fun ls hl => ?_)
                  refine lv_iconst (v := 0) hx hb dX12_deals_85 (by decide) ?_
                  refine lv_istore (lv' := [(6, .int 0), (5, .int (-1)), (4, .int y16), (3, .int y17), (0, .ref (ad 0)), (1, .int a1), (2, .int a2)]) hx hb dX12_deals_86 hl (by decide) rfl (fun ls hl => ?_)
                  have lp41 : ∀ (f : Nat) (y42 : Int32) (y43 : Int32) (H : Heap) (locs : List Loc) (ls : Array Slot), (2147483647 < y42.toInt + (f : Int)) → (0 ≤ y42.toInt) → ((-1) ≤ y43.toInt) → (y43.toInt ≤ 29) → (y43.toInt < 0 → ∀ j : Nat, (j : Int) < y42.toInt → I18 70 j ≠ 0) → (0 ≤ y43.toInt → I18 70 (y43 : Int32).toNatClampNeg = 0 ∧ y43.toInt < (I 0 1).toInt) → (y43.toInt = zd_b (zd_BM I18) (zd_i I18) y42.toNatClampNeg ∧ y42.toInt ≤ (I 0 1).toInt) → z_W G A (shM, ad, I18, J19, PM ad) H → va_S A s.heap H locs → lv_has ls 7 [(6, .int y42), (5, .int y43), (4, .int y16), (3, .int y17), (0, .ref (ad 0)), (1, .int a1), (2, .int a2)] → W p l e (headSpec wsX12_deals { frames := 6, cells := 0, slots := 0, locals := 133 }).room s m ([.ref (ad 0), .int a1, .int a2] : List Value).toArray below meth c0 H locs 0 0 (MQ below (va_Qv (fun (u1 : z_U) => ∃ (I1 : z_I) (J1 : z_J), u1 = (shM, ad, I1, J1, PM ad) ∧ z_ima I1 ∧ z_imb I1 ∧ z_rg 11 0 288 I1 ∧ z_rg 12 0 24 I1 ∧ z_Nd I1 ∧ z_rg 19 0 6200 I1 ∧ z_rg 20 0 6200 I1 ∧ z_rg 18 (-1) 6199 I1 ∧ z_Ex I1 ∧ z_fr L_X12_deals_d I1 I ∧ (∀ j : Nat, (j : Int) < (I 0 1).toInt → (I1 69 j).toInt = zd_D (zd_V I RS a2.toInt) (zd_BM I) (zd_NM I) (I 0 1).toNatClampNeg a1.toInt j)) (z_B G A) A) ([.ref (ad 0), .int a1, .int a2] : List Value).toArray s 0 0 A) (F0 m 88 ls []) := by
                    intro f
                    induction f with
                    | zero => intro y42 y43 H locs ls lp41m lp41l6 lp41l5 lp41u5 lp41A lp41B lp41P hW hS hl; exact absurd lp41m (by have := Int32.toInt_lt y42; have := Int32.le_toInt y42; omega)
                    | succ f lp41ih =>
                      intro y42 y43 H locs ls lp41m lp41l6 lp41l5 lp41u5 lp41A lp41B lp41P hW hS hl
                      refine lv_iload hx hb dX12_deals_88 (lv_at hl 0 rfl) ?_
                      refine lv_aload_n hx hb dX12_deals_90 rfl (lv_at hl 4 rfl) ?_
                      refine z_get (T := TX12) (N := 96) (ci := 12) (i := 0) (v := .int (I18 0 1)) hx hb hts zj_X12_deals_X12 hown hK hW rfl rfl 1 (by decide) (hts (.fieldLink RX12 229 "PetrolBoardModel" "holders" "I") (me_s (me_l (me_l (List.mem_of_getElem? (i := 0) rfl))))) (fun _ h => h) rfl dX12_deals_91 ?_
                      refine lv_icmp_ge (tgt := 139) hx hb dX12_deals_94 (by decide) (fun c44 => ?_) (fun c44 => ?_)
                      · have g45 := z_f_ge rfl rfl c44
                        have b46 := Int32.toInt_lt y42
                        have hq47 : y43.toInt = zd_b (zd_BM I) (zd_i I18) (I 0 1).toNatClampNeg := by
                          have b1 : zd_BM I18 = zd_BM I := funext fun j => by unfold zd_BM; rw [lp15fr 4 j (z_wr_c (by decide))]
                          have c9 := z_clt (x := y42) rfl (by omega)
                          have q8 := lp15H
                          rw [show (I 0 1).toNatClampNeg = y42.toNatClampNeg by have q9 := lp41P.2; omega, ← b1]
                          exact lp41P.1
                        have hb9 : 0 ≤ y43.toInt := z_ct_b (lp15C (by omega)) (by omega) (by omega) lp41A
                        have hb8 := lp41B hb9
                        refine lv_aload_n hx hb dX12_deals_139 rfl (lv_at hl 4 rfl) ?_
                        refine z_get (T := TX12) (N := 96) (ci := 12) (i := 0) (v := .ref (ad 70)) hx hb hts zj_X12_deals_X12 hown hK hW rfl rfl 95 (by decide) (hts (.fieldLink RX12 226 "PetrolBoardModel" "isDealt" "[Z") (me_s (me_l (me_l (List.mem_of_getElem? (i := 3) rfl))))) (fun _ h => h) rfl dX12_deals_140 ?_
                        refine lv_iload hx hb dX12_deals_143 (lv_at hl 1 rfl) ?_
                        refine lv_iconst (v := 1) hx hb dX12_deals_145 (by decide) ?_
                        refine z_zast (i := 70) hx hb hK hW hS rfl (z_ix rfl (by omega) (by omega)) dX12_deals_146 (fun H locs hz1 hW hS => ?_)
                        obtain ⟨I48, eI48⟩ : ∃ K : z_I, K = z_up I18 70 y43.toNatClampNeg (vp_nar .boolean 1) := ⟨_, rfl⟩
                        rw [← eI48] at hW
                        have f49 := z_fr_a lp15fr (show z_wa L_X12_deals_d 70 = true by decide) eI48
                        have a50 := z_rg_n lp15Atf (by decide) eI48
                        have a51 := z_rg_n lp15Atm (by decide) eI48
                        have a52 := z_Nd_n lp15Nd (by decide) eI48
                        have a53 := z_rg_n lp15Asf (by decide) eI48
                        have a54 := z_rg_n lp15Ast (by decide) eI48
                        have a55 := z_rg_n lp15Asc (by decide) eI48
                        have a56 := z_Ex_n lp15Ex (by decide) eI48
                        refine lv_aload_n hx hb dX12_deals_147 rfl (lv_at hl 4 rfl) ?_
                        refine z_get (T := TX12) (N := 96) (ci := 12) (i := 0) (v := .ref (ad 69)) hx hb hts zj_X12_deals_X12 hown hK hW rfl rfl 94 (by decide) (hts (.fieldLink RX12 223 "PetrolBoardModel" "deal" "[I") (me_s (me_l (me_l (List.mem_of_getElem? (i := 1) rfl))))) (fun _ h => h) rfl dX12_deals_148 ?_
                        refine lv_iload hx hb dX12_deals_151 (lv_at hl 1 rfl) ?_
                        refine lv_aload_n hx hb dX12_deals_153 rfl (lv_at hl 4 rfl) ?_
                        refine z_get (T := TX12) (N := 96) (ci := 12) (i := 0) (v := .ref (ad 5)) hx hb hts zj_X12_deals_X12 hown hK hW rfl rfl 7 (by decide) (hts (.fieldLink RX12 22 "PetrolBoardModel" "needOf" "[I") (me_s (me_l (me_l (List.mem_of_getElem? (i := 5) rfl))))) (fun _ h => h) rfl dX12_deals_154 ?_
                        refine lv_iload hx hb dX12_deals_157 (lv_at hl 1 rfl) ?_
                        refine z_iald (i := 5) hx hb hK hW rfl (z_ix rfl (by omega) (by omega)) dX12_deals_159 ?_
                        refine lv_topi (fun x57 ex57 => ?_)
                        have hv58 : (I48 5 y43.toNatClampNeg).toInt = x57.toInt := by rw [ex57]
                        have hz59 := z_clt (x := y43) rfl (by omega)
                        have hne60 : (I 5 y43.toNatClampNeg).toInt = x57.toInt := by rw [← f49 5 y43.toNatClampNeg (z_wr_c (by decide))]; exact hv58
                        have hnb61 := hN y43.toNatClampNeg (by omega)
                        refine lv_iload_n hx hb dX12_deals_160 rfl (lv_at hl 3 rfl) ?_
                        refine z_ci hW hS hA (va_runS (As := [.int x57, .int y17]) (rest := [.int y43, .ref (ad 69)]) ⟨hx, hb, hml, hown, hts⟩ (sx_X12_min2 l G ad I48 J19  x57 y17 _) (va_cwS 2 hts gX12_deals_X12_min rfl rfl rfl (by decide +kernel) ⟨Nat.le_of_ble_eq_true rfl, Nat.le_of_ble_eq_true rfl⟩) (z_preS hK hW) rfl rfl hl.1 rfl (lv_room (Nat.le_of_ble_eq_true rfl)) dX12_deals_161 ⟨Nat.le_of_ble_eq_true rfl, Nat.le_of_ble_eq_true rfl⟩) (fun r u1 H locs hp hW hS => ?_)
                        obtain ⟨e9, hp⟩ := hp
                        rw [e9] at hW
                        refine lv_topi (fun x62 ex62 => ?_)
                        rw [← ex62] at hp
                        obtain ⟨h63, h64, h65⟩ := hp
                        refine z_iast (i := 69) hx hb hK hW hS rfl (z_ix rfl (by omega) (by omega)) dX12_deals_164 (fun H locs hz1 hW hS => ?_)
                        obtain ⟨I66, eI66⟩ : ∃ K : z_I, K = z_up I48 69 y43.toNatClampNeg x62 := ⟨_, rfl⟩
                        rw [← eI66] at hW
                        have f67 := z_fr_a f49 (show z_wa L_X12_deals_d 69 = true by decide) eI66
                        have a68 := z_rg_n a50 (by decide) eI66
                        have a69 := z_rg_n a51 (by decide) eI66
                        have a70 := z_Nd_n a52 (by decide) eI66
                        have a71 := z_rg_n a53 (by decide) eI66
                        have a72 := z_rg_n a54 (by decide) eI66
                        have a73 := z_rg_n a55 (by decide) eI66
                        have a74 := z_Ex_n a56 (by decide) eI66
                        refine lv_iload_n hx hb dX12_deals_165 rfl (lv_at hl 3 rfl) ?_
                        refine lv_aload_n hx hb dX12_deals_166 rfl (lv_at hl 4 rfl) ?_
                        refine z_get (T := TX12) (N := 96) (ci := 12) (i := 0) (v := .ref (ad 69)) hx hb hts zj_X12_deals_X12 hown hK hW rfl rfl 94 (by decide) (hts (.fieldLink RX12 223 "PetrolBoardModel" "deal" "[I") (me_s (me_l (me_l (List.mem_of_getElem? (i := 1) rfl))))) (fun _ h => h) rfl dX12_deals_167 ?_
                        refine lv_iload hx hb dX12_deals_170 (lv_at hl 1 rfl) ?_
                        refine z_iald (i := 69) hx hb hK hW rfl (z_ix rfl (by omega) (by omega)) dX12_deals_172 ?_
                        refine lv_topi (fun x75 ex75 => ?_)
                        have hv76 : (I66 69 y43.toNatClampNeg).toInt = x75.toInt := by rw [ex75]
                        have hz77 := z_clt (x := y43) rfl (by omega)
                        have hw78 : x75.toInt = x62.toInt := by rw [ex75, eI66, z_up_s]
                        refine lv_isub hx hb dX12_deals_173 ?_
                        refine lv_topi (fun x79 ex79 => ?_)
                        have tx79 : x79.toInt = y17.toInt - x75.toInt := z_tsub ex79 rfl rfl (by omega) (by omega)
                        refine lv_istore_n (lv' := [(3, .int x79), (6, .int y42), (5, .int y43), (4, .int y16), (0, .ref (ad 0)), (1, .int a1), (2, .int a2)]) hx hb dX12_deals_174 rfl hl (by decide) rfl (fun ls hl => ?_)
                        refine lv_goto (tgt := 191) hx hb dX12_deals_175 (by decide) ?_
                        obtain ⟨x80, ex80⟩ : ∃ y : Int32, y = y16 + 1 := ⟨_, rfl⟩
                        have tx80 : x80.toInt = y16.toInt + 1 := z_tadd ex80 rfl z_l1 (by omega) (by omega)
                        refine lv_iinc (v := x80) (lv' := [(4, .int x80), (3, .int x79), (6, .int y42), (5, .int y43), (0, .ref (ad 0)), (1, .int a1), (2, .int a2)]) hx hb dX12_deals_191 hl (k := 3) rfl (by rw [ex80]; rfl) (by decide) rfl (fun ls hl => ?_)
                        refine lv_goto (tgt := 64) hx hb dX12_deals_194 (by decide) ?_
                        exact lp15ih x80 x79 I66 J19 _ _ _ (by omega) (by omega) (by omega) (by omega) ⟨(by show 0 ≤ (I66 0 0).toInt ∧ (I66 0 0).toInt ≤ 719; rw [eI66, z_up_n (by decide), eI48, z_up_n (by decide)]; exact lp15ma.1), (by show 0 ≤ (I66 0 1).toInt ∧ (I66 0 1).toInt ≤ 30; rw [eI66, z_up_n (by decide), eI48, z_up_n (by decide)]; exact lp15ma.2.1), (by show 0 ≤ (I66 0 2).toInt ∧ (I66 0 2).toInt ≤ 200; rw [eI66, z_up_n (by decide), eI48, z_up_n (by decide)]; exact lp15ma.2.2)⟩ ⟨(by show 0 ≤ (I66 0 13).toInt ∧ (I66 0 13).toInt ≤ 12; rw [eI66, z_up_n (by decide), eI48, z_up_n (by decide)]; exact lp15mb.1), (by show 0 ≤ (I66 0 14).toInt ∧ (I66 0 14).toInt ≤ 288; rw [eI66, z_up_n (by decide), eI48, z_up_n (by decide)]; exact lp15mb.2)⟩ a68 a69 a70 a71 a72 a73 a74 (congrArg Int32.toInt (f67 0 1 (by decide))) (fun hw => by have hc9 := z_clt (x := y43) rfl hb9; rw [z_ct_u (I := I18) (K := I66) (c := 70) (b := (y43 : Int32).toNatClampNeg) (hb8.1) (by rw [eI66, z_up_n (by decide), eI48, z_up_s]; decide) (I 0 1).toInt.toNat (by omega) (fun j hj hq => by rw [eI66, z_up_n (by decide), eI48, z_up_k hq])]; have hc8 := lp15C hw; omega) (by have c8 := z_clt (x := I 0 1) rfl (by have q9 := hma.2.1; omega); have c9 := z_clt (x := y16) rfl (by omega); have h9 := lp15H; have s9 := zd_stepM (k := y16.toNatClampNeg) (fun j hj => (lp15S.1 j hj (by omega)).1) (fun j hj => (lp15S.1 j hj (by omega)).2) (lp15S.2.1 (by omega)) hq47 (by omega) eI48 (by decide) eI66 (show x62.toInt = min y17.toInt (I 5 y43.toNatClampNeg).toInt by rw [Int.min_def]; split <;> omega) (le1 := x79) (by omega); exact ⟨fun j hj _ => ⟨by rw [(show x80.toNatClampNeg = y16.toNatClampNeg + 1 from z_cln (by omega) (by omega))]; exact s9.1 j hj, by rw [(show x80.toNatClampNeg = y16.toNatClampNeg + 1 from z_cln (by omega) (by omega))]; exact s9.2.1 j hj⟩, fun _ => by rw [(show x80.toNatClampNeg = y16.toNatClampNeg + 1 from z_cln (by omega) (by omega))]; exact s9.2.2, fun q => absurd (show a1.toInt = 2 by omega) q, by omega⟩) f67 hW hS (lv_sub hl [0, 1, 4, 5, 6] rfl)
                      · have g81 := z_f_nge rfl rfl c44
                        have b82 := Int32.toInt_lt y42
                        refine lv_aload_n hx hb dX12_deals_97 rfl (lv_at hl 4 rfl) ?_
                        refine z_get (T := TX12) (N := 96) (ci := 12) (i := 0) (v := .ref (ad 70)) hx hb hts zj_X12_deals_X12 hown hK hW rfl rfl 95 (by decide) (hts (.fieldLink RX12 226 "PetrolBoardModel" "isDealt" "[Z") (me_s (me_l (me_l (List.mem_of_getElem? (i := 3) rfl))))) (fun _ h => h) rfl dX12_deals_98 ?_
                        refine lv_iload hx hb dX12_deals_101 (lv_at hl 0 rfl) ?_
                        refine z_zald (i := 70) hx hb hK hW rfl (z_ix rfl (by omega) (by omega)) dX12_deals_103 ?_
                        refine lv_topi (fun x83 ex83 => ?_)
                        have hv84 : (I18 70 y42.toNatClampNeg).toInt = x83.toInt := by rw [ex83]
                        have hz85 := z_clt (x := y42) rfl (by omega)
                        refine lv_if_ne (tgt := 133) hx hb dX12_deals_104 (by decide) (fun c86 => ?_) (fun c86 => ?_)
                        · have g87 := z_f_ne rfl z_l0 c86
                          have b88 := Int32.toInt_lt x83
                          obtain ⟨x89, ex89⟩ : ∃ y : Int32, y = y42 + 1 := ⟨_, rfl⟩
                          have tx89 : x89.toInt = y42.toInt + 1 := z_tadd ex89 rfl z_l1 (by omega) (by omega)
                          refine lv_iinc (v := x89) (lv' := [(6, .int x89), (5, .int y43), (4, .int y16), (3, .int y17), (0, .ref (ad 0)), (1, .int a1), (2, .int a2)]) hx hb dX12_deals_133 hl (k := 0) rfl (by rw [ex89]; rfl) (by decide) rfl (fun ls hl => ?_)
                          refine lv_goto (tgt := 88) hx hb dX12_deals_136 (by decide) ?_
                          exact lp41ih x89 y43 _ _ _ (by omega) (by omega) (by omega) (by omega) (fun q j hj => by have hc9 := z_clt (x := y42) rfl (by omega); by_cases hjk : j = (y42 : Int32).toNatClampNeg; (· (rw [hjk, ← ex83]; exact fun h9 => absurd (show x83.toInt = 0 by rw [h9]; rfl) (by omega))); (· exact lp41A q j (by omega))) lp41B (by have c9 := z_clt (x := y42) rfl (by omega); have h9 := lp15H; have bd := zd_b_b (B := zd_BM I18) (sv := zd_i I18) y42.toNatClampNeg; have s9 : zd_i I18 y42.toNatClampNeg = decide (¬ x83.toInt = 0) := (by unfold zd_i; rw [hv84]); exact ⟨by rw [(show x89.toNatClampNeg = y42.toNatClampNeg + 1 from z_cln (by omega) (by omega)), zd_b_n (fun q => absurd (q.1.symm.trans s9) (by rw [decide_eq_true (by omega)]; decide))]; exact lp41P.1, by omega⟩) hW hS (lv_sub hl [0, 1, 2, 3, 4, 5, 6] rfl)
                        · have g90 := z_f_eq rfl z_l0 c86
                          have b91 := Int32.toInt_lt x83
                          refine lv_iload hx hb dX12_deals_107 (lv_at hl 1 rfl) ?_
                          refine lv_if_lt (tgt := 129) hx hb dX12_deals_109 (by decide) (fun c92 => ?_) (fun c92 => ?_)
                          · have g93 := z_f_lt rfl z_l0 c92
                            refine lv_iload hx hb dX12_deals_129 (lv_at hl 0 rfl) ?_
                            refine lv_istore (lv' := [(5, .int y42), (6, .int y42), (4, .int y16), (3, .int y17), (0, .ref (ad 0)), (1, .int a1), (2, .int a2)]) hx hb dX12_deals_131 hl (by decide) rfl (fun ls hl => ?_)
                            obtain ⟨x94, ex94⟩ : ∃ y : Int32, y = y42 + 1 := ⟨_, rfl⟩
                            have tx94 : x94.toInt = y42.toInt + 1 := z_tadd ex94 rfl z_l1 (by omega) (by omega)
                            refine lv_iinc (v := x94) (lv' := [(6, .int x94), (5, .int y42), (4, .int y16), (3, .int y17), (0, .ref (ad 0)), (1, .int a1), (2, .int a2)]) hx hb dX12_deals_133 hl (k := 1) rfl (by rw [ex94]; rfl) (by decide) rfl (fun ls hl => ?_)
                            refine lv_goto (tgt := 88) hx hb dX12_deals_136 (by decide) ?_
                            exact lp41ih x94 y42 _ _ _ (by omega) (by omega) (by omega) (by omega) (fun q => absurd q (by omega)) (fun _ => ⟨ex83.symm.trans (Int32.toInt_inj.mp (show x83.toInt = 0 by omega)), by omega⟩) (by have c9 := z_clt (x := y42) rfl (by omega); have h9 := lp15H; have bd := zd_b_b (B := zd_BM I18) (sv := zd_i I18) y42.toNatClampNeg; have s9 : zd_i I18 y42.toNatClampNeg = decide (¬ x83.toInt = 0) := (by unfold zd_i; rw [hv84]); exact ⟨by rw [(show x94.toNatClampNeg = y42.toNatClampNeg + 1 from z_cln (by omega) (by omega)), zd_b_y ⟨s9.trans (decide_eq_false (by omega)), Or.inl (by omega)⟩]; omega, by omega⟩) hW hS (lv_sub hl [0, 1, 2, 3, 4, 5, 6] rfl)
                          · have g95 := z_f_nlt rfl z_l0 c92
                            refine lv_aload_n hx hb dX12_deals_112 rfl (lv_at hl 4 rfl) ?_
                            refine z_get (T := TX12) (N := 96) (ci := 12) (i := 0) (v := .ref (ad 4)) hx hb hts zj_X12_deals_X12 hown hK hW rfl rfl 6 (by decide) (hts (.fieldLink RX12 19 "PetrolBoardModel" "bidOf" "[I") (me_s (me_l (me_l (List.mem_of_getElem? (i := 4) rfl))))) (fun _ h => h) rfl dX12_deals_113 ?_
                            refine lv_iload hx hb dX12_deals_116 (lv_at hl 0 rfl) ?_
                            refine z_iald (i := 4) hx hb hK hW rfl (z_ix rfl (by omega) (by omega)) dX12_deals_118 ?_
                            refine lv_topi (fun x96 ex96 => ?_)
                            have hv97 : (I18 4 y42.toNatClampNeg).toInt = x96.toInt := by rw [ex96]
                            have hz98 := z_clt (x := y42) rfl (by omega)
                            refine lv_aload_n hx hb dX12_deals_119 rfl (lv_at hl 4 rfl) ?_
                            refine z_get (T := TX12) (N := 96) (ci := 12) (i := 0) (v := .ref (ad 4)) hx hb hts zj_X12_deals_X12 hown hK hW rfl rfl 6 (by decide) (hts (.fieldLink RX12 19 "PetrolBoardModel" "bidOf" "[I") (me_s (me_l (me_l (List.mem_of_getElem? (i := 4) rfl))))) (fun _ h => h) rfl dX12_deals_120 ?_
                            refine lv_iload hx hb dX12_deals_123 (lv_at hl 1 rfl) ?_
                            refine z_iald (i := 4) hx hb hK hW rfl (z_ix rfl (by omega) (by omega)) dX12_deals_125 ?_
                            refine lv_topi (fun x99 ex99 => ?_)
                            have hv100 : (I18 4 y43.toNatClampNeg).toInt = x99.toInt := by rw [ex99]
                            have hz101 := z_clt (x := y43) rfl (by omega)
                            refine lv_icmp_le (tgt := 133) hx hb dX12_deals_126 (by decide) (fun c102 => ?_) (fun c102 => ?_)
                            · have g103 := z_f_le rfl rfl c102
                              have b104 := Int32.toInt_lt x96
                              have b105 := Int32.toInt_lt x99
                              obtain ⟨x106, ex106⟩ : ∃ y : Int32, y = y42 + 1 := ⟨_, rfl⟩
                              have tx106 : x106.toInt = y42.toInt + 1 := z_tadd ex106 rfl z_l1 (by omega) (by omega)
                              refine lv_iinc (v := x106) (lv' := [(6, .int x106), (5, .int y43), (4, .int y16), (3, .int y17), (0, .ref (ad 0)), (1, .int a1), (2, .int a2)]) hx hb dX12_deals_133 hl (k := 0) rfl (by rw [ex106]; rfl) (by decide) rfl (fun ls hl => ?_)
                              refine lv_goto (tgt := 88) hx hb dX12_deals_136 (by decide) ?_
                              exact lp41ih x106 y43 _ _ _ (by omega) (by omega) (by omega) (by omega) (fun q => absurd q (by omega)) lp41B (by have c9 := z_clt (x := y42) rfl (by omega); have h9 := lp15H; have bd := zd_b_b (B := zd_BM I18) (sv := zd_i I18) y42.toNatClampNeg; have s9 : zd_i I18 y42.toNatClampNeg = decide (¬ x83.toInt = 0) := (by unfold zd_i; rw [hv84]); have t9 : (zd_b (zd_BM I18) (zd_i I18) y42.toNatClampNeg).toNat = y43.toNatClampNeg := (by rw [← lp41P.1]; rfl); have v9 : zd_BM I18 y42.toNatClampNeg = x96.toInt := hv97; have w9 : zd_BM I18 y43.toNatClampNeg = x99.toInt := hv100; exact ⟨by rw [(show x106.toNatClampNeg = y42.toNatClampNeg + 1 from z_cln (by omega) (by omega)), zd_b_n (fun q => by have q2 := q.2; rw [t9, v9, w9] at q2; omega)]; exact lp41P.1, by omega⟩) hW hS (lv_sub hl [0, 1, 2, 3, 4, 5, 6] rfl)
                            · have g107 := z_f_nle rfl rfl c102
                              have b108 := Int32.toInt_lt x96
                              have b109 := Int32.toInt_lt x99
                              refine lv_iload hx hb dX12_deals_129 (lv_at hl 0 rfl) ?_
                              refine lv_istore (lv' := [(5, .int y42), (6, .int y42), (4, .int y16), (3, .int y17), (0, .ref (ad 0)), (1, .int a1), (2, .int a2)]) hx hb dX12_deals_131 hl (by decide) rfl (fun ls hl => ?_)
                              obtain ⟨x110, ex110⟩ : ∃ y : Int32, y = y42 + 1 := ⟨_, rfl⟩
                              have tx110 : x110.toInt = y42.toInt + 1 := z_tadd ex110 rfl z_l1 (by omega) (by omega)
                              refine lv_iinc (v := x110) (lv' := [(6, .int x110), (5, .int y42), (4, .int y16), (3, .int y17), (0, .ref (ad 0)), (1, .int a1), (2, .int a2)]) hx hb dX12_deals_133 hl (k := 1) rfl (by rw [ex110]; rfl) (by decide) rfl (fun ls hl => ?_)
                              refine lv_goto (tgt := 88) hx hb dX12_deals_136 (by decide) ?_
                              exact lp41ih x110 y42 _ _ _ (by omega) (by omega) (by omega) (by omega) (fun q => absurd q (by omega)) (fun _ => ⟨ex83.symm.trans (Int32.toInt_inj.mp (show x83.toInt = 0 by omega)), by omega⟩) (by have c9 := z_clt (x := y42) rfl (by omega); have h9 := lp15H; have bd := zd_b_b (B := zd_BM I18) (sv := zd_i I18) y42.toNatClampNeg; have s9 : zd_i I18 y42.toNatClampNeg = decide (¬ x83.toInt = 0) := (by unfold zd_i; rw [hv84]); have t9 : (zd_b (zd_BM I18) (zd_i I18) y42.toNatClampNeg).toNat = y43.toNatClampNeg := (by rw [← lp41P.1]; rfl); have v9 : zd_BM I18 y42.toNatClampNeg = x96.toInt := hv97; have w9 : zd_BM I18 y43.toNatClampNeg = x99.toInt := hv100; exact ⟨by rw [(show x110.toNatClampNeg = y42.toNatClampNeg + 1 from z_cln (by omega) (by omega)), zd_b_y ⟨s9.trans (decide_eq_false (by omega)), Or.inr (by rw [t9, v9, w9]; omega)⟩]; omega, by omega⟩) hW hS (lv_sub hl [0, 1, 2, 3, 4, 5, 6] rfl)
                  exact lp41 4294967296 (0) ((-1)) _ _ _ (z_m0u _) (by rw [z_l0]; omega) (by rw [z_lm1]; omega) (by rw [z_lm1]; omega) (fun _ j hj => absurd hj (by have : ((0 : Int32)).toInt = 0 := (by decide); omega)) (fun q => absurd q (by decide)) ⟨by rw [show (0 : Int32).toNatClampNeg = 0 by decide]; decide, by have q0 := z_l0; have q9 := hma.2.1; omega⟩ hW hS (lv_sub hl [0, 1, 2, 3, 4, 5, 6] rfl)
          exact lp15 4294967296 (0) y3 I4 J5 _ _ _ (z_m0u _) (by rw [z_l0]; omega) (by omega) (by omega) ⟨(by show 0 ≤ (I4 0 0).toInt ∧ (I4 0 0).toInt ≤ 719; exact lp1ma.1), (by show 0 ≤ (I4 0 1).toInt ∧ (I4 0 1).toInt ≤ 30; exact lp1ma.2.1), (by show 0 ≤ (I4 0 2).toInt ∧ (I4 0 2).toInt ≤ 200; exact lp1ma.2.2)⟩ ⟨(by show 0 ≤ (I4 0 13).toInt ∧ (I4 0 13).toInt ≤ 12; exact lp1mb.1), (by show 0 ≤ (I4 0 14).toInt ∧ (I4 0 14).toInt ≤ 288; exact lp1mb.2)⟩ lp1Atf lp1Atm lp1Nd lp1Asf lp1Ast lp1Asc lp1Ex (congrArg Int32.toInt (lp1fr 0 1 (by decide))) (fun _ => by rw [z_ct_0 (I := I4) (c := 70) (I 0 1).toInt.toNat (fun j hj => lp1Z j (by omega))]; decide) ⟨fun j hj _ => ⟨by rw [show (0 : Int32).toNatClampNeg = 0 by decide]; exact (lp1U.1 j (by omega)).1, by rw [show (0 : Int32).toNatClampNeg = 0 by decide]; unfold zd_i; rw [lp1Z j (by omega)]; exact decide_eq_false (fun q => q (by decide))⟩, fun _ => by rw [show (0 : Int32).toNatClampNeg = 0 by decide]; exact (by have e9 := lp1U.2.1; rw [he12] at e9; exact e9), fun _ => ⟨(by have e9 := lp1U.2.1; rw [he12] at e9; exact e9), fun j hj => absurd hj (by have q0 := z_l0; omega)⟩, by have q0 := z_l0; have q9 := hma.2.1; omega⟩ lp1fr hW hS (lv_sub hl [0, 1, 2, 3, 4] rfl)
        · have g111 := z_f_eq rfl z_l0 c13
          exact z_vret hx hb hr hK hS (Nat.le_of_ble_eq_true rfl) (Nat.le_of_ble_eq_true rfl) hlocks dX12_deals_60 (shM, ad, I4, J5, PM ad) hW ⟨I4, J5, rfl, ⟨(by show 0 ≤ (I4 0 0).toInt ∧ (I4 0 0).toInt ≤ 719; exact lp1ma.1), (by show 0 ≤ (I4 0 1).toInt ∧ (I4 0 1).toInt ≤ 30; exact lp1ma.2.1), (by show 0 ≤ (I4 0 2).toInt ∧ (I4 0 2).toInt ≤ 200; exact lp1ma.2.2)⟩, ⟨(by show 0 ≤ (I4 0 13).toInt ∧ (I4 0 13).toInt ≤ 12; exact lp1mb.1), (by show 0 ≤ (I4 0 14).toInt ∧ (I4 0 14).toInt ≤ 288; exact lp1mb.2)⟩, lp1Atf, lp1Atm, lp1Nd, lp1Asf, lp1Ast, lp1Asc, lp1Ex, lp1fr, (fun j hj => by have c8 := z_clt (x := I 0 1) rfl (by have q9 := hma.2.1; omega); rw [zd_D_0 (by omega) (by omega)]; exact (lp1U.1 j (by have q9 := he12; have c9 := z_clt (x := y2) rfl (by omega); omega)).1)⟩
      · have g112 := z_f_nge rfl rfl c7
        have b113 := Int32.toInt_lt y2
        refine lv_aload_n hx hb dX12_deals_14 rfl (lv_at hl 2 rfl) ?_
        refine z_get (T := TX12) (N := 96) (ci := 12) (i := 0) (v := .ref (ad 69)) hx hb hts zj_X12_deals_X12 hown hK hW rfl rfl 94 (by decide) (hts (.fieldLink RX12 223 "PetrolBoardModel" "deal" "[I") (me_s (me_l (me_l (List.mem_of_getElem? (i := 1) rfl))))) (fun _ h => h) rfl dX12_deals_15 ?_
        refine lv_iload hx hb dX12_deals_18 (lv_at hl 0 rfl) ?_
        refine lv_aload_n hx hb dX12_deals_20 rfl (lv_at hl 2 rfl) ?_
        refine lv_iload hx hb dX12_deals_21 (lv_at hl 0 rfl) ?_
        refine lv_iload_n hx hb dX12_deals_23 rfl (lv_at hl 4 rfl) ?_
        refine lv_aload_n hx hb dX12_deals_24 rfl (lv_at hl 2 rfl) ?_
        have r114 : 0 ≤ (I4 0 0).toInt ∧ (I4 0 0).toInt ≤ 719 := lp1ma.1
        refine z_get (T := TX12) (N := 96) (ci := 12) (i := 0) (v := .int (I4 0 0)) hx hb hts zj_X12_deals_X12 hown hK hW rfl rfl 0 (by decide) (hts (.fieldLink RX12 232 "PetrolBoardModel" "today" "I") (me_s (me_l (me_l (List.mem_of_getElem? (i := 2) rfl))))) (fun _ h => h) rfl dX12_deals_25 ?_
        refine z_ci hW hS hA (va_runV (As := [.int y2, .int a2, .int (I4 0 0)]) (rest := [.int y2, .ref (ad 69)]) ⟨hx, hb, hml, hown, hts⟩ (sx_X12_unitsOf_x l G ad I4 J5 ⟨(by show 0 ≤ (I4 0 0).toInt ∧ (I4 0 0).toInt ≤ 719; exact lp1ma.1), (by show 0 ≤ (I4 0 1).toInt ∧ (I4 0 1).toInt ≤ 30; exact lp1ma.2.1), (by show 0 ≤ (I4 0 2).toInt ∧ (I4 0 2).toInt ≤ 200; exact lp1ma.2.2)⟩ ⟨(by show 0 ≤ (I4 0 13).toInt ∧ (I4 0 13).toInt ≤ 12; exact lp1mb.1), (by show 0 ≤ (I4 0 14).toInt ∧ (I4 0 14).toInt ≤ 288; exact lp1mb.2)⟩ lp1Atf lp1Atm lp1Nd lp1Asf lp1Ast lp1Asc lp1Ex FF RS y2 a2 (I4 0 0) (by omega) (by omega) (zd_W_c hWm (lp1fr 0 13 (by decide)) (fun t F R h => zw_T_c h (fun j => ⟨lp1fr 11 j (z_wr_c (by decide)), lp1fr 12 j (z_wr_c (by decide))⟩) (fun j => ⟨lp1fr 15 j (z_wr_c (by decide)), lp1fr 16 j (z_wr_c (by decide)), lp1fr 17 j (z_wr_c (by decide)), lp1fr 18 j (z_wr_c (by decide)), lp1fr 19 j (z_wr_c (by decide)), lp1fr 20 j (z_wr_c (by decide))⟩) (fun j => ⟨lp1fr 21 j (z_wr_c (by decide)), lp1fr 22 j (z_wr_c (by decide)), lp1fr 23 j (z_wr_c (by decide))⟩)) (fun j => ⟨lp1fr 6 j (z_wr_c (by decide)), lp1fr 7 j (z_wr_c (by decide)), lp1fr 8 j (z_wr_c (by decide)), lp1fr 9 j (z_wr_c (by decide)), lp1fr 10 j (z_wr_c (by decide))⟩) (lp1fr 0 2 (by decide)) (lp1fr 0 1 (by decide)) (fun j => ⟨lp1fr 1 j (z_wr_c (by decide)), lp1fr 2 j (z_wr_c (by decide))⟩)) _) (cwV 3 hts gX12_deals_X12_unitsOf rfl rfl rfl (by decide +kernel) ⟨Nat.le_of_ble_eq_true rfl, Nat.le_of_ble_eq_true rfl⟩) (z_preV (i := 0) hK hW rfl rfl) rfl rfl hl.1 rfl (lv_room (Nat.le_of_ble_eq_true rfl)) dX12_deals_28 ⟨Nat.le_of_ble_eq_true rfl, Nat.le_of_ble_eq_true rfl⟩) (fun r u1 H locs hp hW hS => ?_)
        obtain ⟨I115, J117, e9, hI115ma, hI115mb, hI115Atf, hI115Atm, hI115Nd, hI115Asf, hI115Ast, hI115Asc, hI115Ex, fI115, hp⟩ := hp
        rw [e9] at hW
        have f116 := z_fr_sub (L := L_X12_deals_d) lp1fr fI115 (by decide)
        have k118 : (I115 0 1).toInt = (I4 0 1).toInt := by rw [fI115 0 1 (by decide)]
        refine lv_topi (fun x119 ex119 => ?_)
        rw [← ex119] at hp
        have hb121 := zw_UX_b hp
        have hU120 : x119.toInt = (zd_V I RS a2.toInt) y2.toNatClampNeg := zd_V_e (by omega) (zw_UX_c (lp1fr 0 13 (by decide)) (fun j => ⟨lp1fr 13 j (z_wr_c (by decide)), lp1fr 14 j (z_wr_c (by decide))⟩) (fun j => ⟨lp1fr 6 j (z_wr_c (by decide)), lp1fr 7 j (z_wr_c (by decide)), lp1fr 8 j (z_wr_c (by decide)), lp1fr 9 j (z_wr_c (by decide)), lp1fr 10 j (z_wr_c (by decide))⟩) (lp1fr 0 2 (by decide)) (fun j => ⟨lp1fr 1 j (z_wr_c (by decide)), lp1fr 2 j (z_wr_c (by decide))⟩) (by have q9 := hp; rw [show (I4 0 0).toInt = (I 0 0).toInt by rw [lp1fr 0 0 (by decide)]] at q9; exact q9))
        refine z_iast (i := 69) hx hb hK hW hS rfl (z_ix rfl (by omega) (by omega)) dX12_deals_31 (fun H locs hz1 hW hS => ?_)
        obtain ⟨I122, eI122⟩ : ∃ K : z_I, K = z_up I115 69 y2.toNatClampNeg x119 := ⟨_, rfl⟩
        rw [← eI122] at hW
        have f123 := z_fr_a f116 (show z_wa L_X12_deals_d 69 = true by decide) eI122
        have a124 := z_rg_n hI115Atf (by decide) eI122
        have a125 := z_rg_n hI115Atm (by decide) eI122
        have a126 := z_Nd_n hI115Nd (by decide) eI122
        have a127 := z_rg_n hI115Asf (by decide) eI122
        have a128 := z_rg_n hI115Ast (by decide) eI122
        have a129 := z_rg_n hI115Asc (by decide) eI122
        have a130 := z_Ex_n hI115Ex (by decide) eI122
        refine lv_iload_n hx hb dX12_deals_32 rfl (lv_at hl 1 rfl) ?_
        refine lv_aload_n hx hb dX12_deals_33 rfl (lv_at hl 2 rfl) ?_
        refine z_get (T := TX12) (N := 96) (ci := 12) (i := 0) (v := .ref (ad 69)) hx hb hts zj_X12_deals_X12 hown hK hW rfl rfl 94 (by decide) (hts (.fieldLink RX12 223 "PetrolBoardModel" "deal" "[I") (me_s (me_l (me_l (List.mem_of_getElem? (i := 1) rfl))))) (fun _ h => h) rfl dX12_deals_34 ?_
        refine lv_iload hx hb dX12_deals_37 (lv_at hl 0 rfl) ?_
        refine z_iald (i := 69) hx hb hK hW rfl (z_ix rfl (by omega) (by omega)) dX12_deals_39 ?_
        refine lv_topi (fun x131 ex131 => ?_)
        have hv132 : (I122 69 y2.toNatClampNeg).toInt = x131.toInt := by rw [ex131]
        have hz133 := z_clt (x := y2) rfl (by omega)
        have hw134 : x131.toInt = x119.toInt := by rw [ex131, eI122, z_up_s]
        refine lv_iadd hx hb dX12_deals_40 ?_
        refine lv_topi (fun x135 ex135 => ?_)
        have tx135 : x135.toInt = y3.toInt + x131.toInt := z_tadd ex135 rfl rfl (by omega) (by omega)
        refine lv_istore_n (lv' := [(3, .int x135), (4, .int y2), (0, .ref (ad 0)), (1, .int a1), (2, .int a2)]) hx hb dX12_deals_41 rfl hl (by decide) rfl (fun ls hl => ?_)
        refine lv_aload_n hx hb dX12_deals_42 rfl (lv_at hl 2 rfl) ?_
        refine z_get (T := TX12) (N := 96) (ci := 12) (i := 0) (v := .ref (ad 70)) hx hb hts zj_X12_deals_X12 hown hK hW rfl rfl 95 (by decide) (hts (.fieldLink RX12 226 "PetrolBoardModel" "isDealt" "[Z") (me_s (me_l (me_l (List.mem_of_getElem? (i := 3) rfl))))) (fun _ h => h) rfl dX12_deals_43 ?_
        refine lv_iload hx hb dX12_deals_46 (lv_at hl 1 rfl) ?_
        refine lv_iconst (v := 0) hx hb dX12_deals_48 (by decide) ?_
        refine z_zast (i := 70) hx hb hK hW hS rfl (z_ix rfl (by omega) (by omega)) dX12_deals_49 (fun H locs hz1 hW hS => ?_)
        obtain ⟨I136, eI136⟩ : ∃ K : z_I, K = z_up I122 70 y2.toNatClampNeg (vp_nar .boolean 0) := ⟨_, rfl⟩
        rw [← eI136] at hW
        have f137 := z_fr_a f123 (show z_wa L_X12_deals_d 70 = true by decide) eI136
        have a138 := z_rg_n a124 (by decide) eI136
        have a139 := z_rg_n a125 (by decide) eI136
        have a140 := z_Nd_n a126 (by decide) eI136
        have a141 := z_rg_n a127 (by decide) eI136
        have a142 := z_rg_n a128 (by decide) eI136
        have a143 := z_rg_n a129 (by decide) eI136
        have a144 := z_Ex_n a130 (by decide) eI136
        obtain ⟨x145, ex145⟩ : ∃ y : Int32, y = y2 + 1 := ⟨_, rfl⟩
        have tx145 : x145.toInt = y2.toInt + 1 := z_tadd ex145 rfl z_l1 (by omega) (by omega)
        refine lv_iinc (v := x145) (lv' := [(4, .int x145), (3, .int x135), (0, .ref (ad 0)), (1, .int a1), (2, .int a2)]) hx hb dX12_deals_50 hl (k := 1) rfl (by rw [ex145]; rfl) (by decide) rfl (fun ls hl => ?_)
        refine lv_goto (tgt := 5) hx hb dX12_deals_53 (by decide) ?_
        exact lp1ih x145 x135 I136 J117 _ _ _ (by omega) (by omega) (by omega) (by omega) ⟨(by show 0 ≤ (I136 0 0).toInt ∧ (I136 0 0).toInt ≤ 719; rw [eI136, z_up_n (by decide), eI122, z_up_n (by decide)]; exact hI115ma.1), (by show 0 ≤ (I136 0 1).toInt ∧ (I136 0 1).toInt ≤ 30; rw [eI136, z_up_n (by decide), eI122, z_up_n (by decide)]; exact hI115ma.2.1), (by show 0 ≤ (I136 0 2).toInt ∧ (I136 0 2).toInt ≤ 200; rw [eI136, z_up_n (by decide), eI122, z_up_n (by decide)]; exact hI115ma.2.2)⟩ ⟨(by show 0 ≤ (I136 0 13).toInt ∧ (I136 0 13).toInt ≤ 12; rw [eI136, z_up_n (by decide), eI122, z_up_n (by decide)]; exact hI115mb.1), (by show 0 ≤ (I136 0 14).toInt ∧ (I136 0 14).toInt ≤ 288; rw [eI136, z_up_n (by decide), eI122, z_up_n (by decide)]; exact hI115mb.2)⟩ a138 a139 a140 a141 a142 a143 a144 (congrArg Int32.toInt (f137 0 1 (by decide))) (fun j hj => by by_cases hjk : j = (y2 : Int32).toNatClampNeg; (· (rw [eI136, hjk, z_up_s]; try decide)); (· (rw [eI136, z_up_k hjk, eI122, z_up_n (by decide), fI115 70 j (z_wr_c (by decide))]; have hc9 := z_clt (x := y2) rfl (by omega); exact lp1Z j (by omega)))) (by have c9 := z_clt (x := y2) rfl (by omega); have u9 := lp1U; exact ⟨fun j hj => by rw [eI136, z_up_n (by decide), eI122, z_up_j, fI115 69 j (z_wr_c (by decide))]; by_cases q : j = y2.toNatClampNeg; (· rw [if_pos q, q]; exact ⟨hU120, hb121⟩); (· rw [if_neg q]; exact u9.1 j (by omega)), by rw [(show x145.toNatClampNeg = y2.toNatClampNeg + 1 from z_cln (by omega) (by omega)), zd_S_s, ← u9.2.1, ← hU120]; omega, by omega, by have q8 := lp1H; omega⟩) f137 hW hS (lv_sub hl [0, 1, 2, 3, 4] rfl)
  exact lp1 4294967296 (0) (0) I J _ _ _ (z_m0u _) (by rw [z_l0]; omega) (by rw [z_l0]; omega) (by rw [z_l0]; omega) ⟨(by show 0 ≤ (I 0 0).toInt ∧ (I 0 0).toInt ≤ 719; exact hma.1), (by show 0 ≤ (I 0 1).toInt ∧ (I 0 1).toInt ≤ 30; exact hma.2.1), (by show 0 ≤ (I 0 2).toInt ∧ (I 0 2).toInt ≤ 200; exact hma.2.2)⟩ ⟨(by show 0 ≤ (I 0 13).toInt ∧ (I 0 13).toInt ≤ 12; exact hmb.1), (by show 0 ≤ (I 0 14).toInt ∧ (I 0 14).toInt ≤ 288; exact hmb.2)⟩ hAtf hAtm hNd hAsf hAst hAsc hEx rfl (fun j hj => absurd hj (by have : ((0 : Int32)).toInt = 0 := (by decide); omega)) ⟨fun j hj => absurd hj (by have q0 := z_l0; omega), by rw [show (0 : Int32).toNatClampNeg = 0 by decide]; rfl, by have q0 := z_l0; omega, by have q0 := z_l0; have q9 := hma.2.1; omega⟩ z_fr_0 hW hS (lv_sub hl [0, 1, 2, 3, 4] rfl)
noncomputable def L_X12_other_d : z_L := [(69, 999), (70, 999), (24, 999), (30, 999)]
set_option maxHeartbeats 8000000 in
set_option maxRecDepth 100000 in
theorem sx_X12_other_d (l : Launch) (G : z_G) (ad : Nat → Nat) (I : z_I) (J : z_J) (hma : z_ima I) (hmb : z_imb I) (hAtf : z_rg 11 0 288 I) (hAtm : z_rg 12 0 24 I) (hNd : z_Nd I) (hAsf : z_rg 19 0 6200 I) (hAst : z_rg 20 0 6200 I) (hAsc : z_rg 18 (-1) 6199 I) (hEx : z_Ex I) (FF : Nat → Nat) (RS : Nat → List zm_row) (a1 : Int32) (a2 : Int32) (a3 : Int32) (a4 : Int32) (hWm : zw_W I FF RS) (hN : ∀ j : Nat, (j : Int) < (I 0 1).toInt → 0 ≤ (I 5 j).toInt ∧ (I 5 j).toInt ≤ 99) : z_M l yX12_other wsX12_other { frames := 7, cells := 0, slots := 0, locals := 159 } [.ref (ad 0), .int a1, .int a2, .int a3, .int a4] G (shM, ad, I, J, PM ad) (fun r u1 => ∃ (I1 : z_I) (J1 : z_J), u1 = (shM, ad, I1, J1, PM ad) ∧ z_ima I1 ∧ z_imb I1 ∧ z_rg 11 0 288 I1 ∧ z_rg 12 0 24 I1 ∧ z_Nd I1 ∧ z_rg 19 0 6200 I1 ∧ z_rg 20 0 6200 I1 ∧ z_rg 18 (-1) 6199 I1 ∧ z_Ex I1 ∧ z_fr L_X12_other_d I1 I ∧ ((((0 ≤ a1.toInt ∧ a1.toInt ≤ 2) ∧ (0 ≤ a2.toInt ∧ a2.toInt ≤ 23) ∧ (0 ≤ a3.toInt ∧ a3.toInt < (I 0 1).toInt) ∧ 0 ≤ a4.toInt ∧ a4.toInt ≤ 1) ∧ ((a4.toInt = 0 ∧ r.toInt = (zd_D (zd_V I RS a2.toInt) (zd_BM I) (zd_NM I) (I 0 1).toNatClampNeg a1.toInt) a3.toNatClampNeg) ∨ (a4.toInt = 1 ∧ r.toInt = if zd_NM I a3.toNatClampNeg ≤ (zd_D (zd_V I RS a2.toInt) (zd_BM I) (zd_NM I) (I 0 1).toNatClampNeg a1.toInt) a3.toNatClampNeg then 1 else 0))) ∨ (¬ ((0 ≤ a1.toInt ∧ a1.toInt ≤ 2) ∧ (0 ≤ a2.toInt ∧ a2.toInt ≤ 23) ∧ (0 ≤ a3.toInt ∧ a3.toInt < (I 0 1).toInt) ∧ 0 ≤ a4.toInt ∧ a4.toInt ≤ 1) ∧ r.toInt = -1))) 0 0 := by
  intro sz
  refine z_headQ (cc := cX12_other) (maxL := 5) (ret := (some .int)) (by decide) rfl (Nat.le_of_ble_eq_true rfl) ?_
  intro p e s m below meth c0 ls hIn hK hsz hW hl
  obtain ⟨hx, hb, hr, hml, hown, hts, hlocks, hname⟩ := hIn
  subst hsz
  have hown : s.vm.findClass RX12 = some m.cls := hown
  have hA : ∀ q : Nat, s.heap.size ≤ q → z_A (shM, ad, I, J, PM ad) s.heap.size q := fun q h => Or.inr h
  generalize hAe : z_A (shM, ad, I, J, PM ad) s.heap.size = A at *
  have hS : va_S A s.heap s.heap [] := va_S.rf
  have hl : lv_has ls 5 [(0, .ref (ad 0)), (1, .int a1), (2, .int a2), (3, .int a3), (4, .int a4)] := hl
  have nH9 := hma.2.1
  refine lv_iload_n hx hb dX12_other_0 rfl (lv_at hl 1 rfl) ?_
  refine lv_iconst (v := 0) hx hb dX12_other_1 (by decide) ?_
  refine lv_iconst (v := 2) hx hb dX12_other_2 (by decide) ?_
  refine z_ci hW hS hA (va_runS (As := [.int a1, .int 0, .int 2]) (rest := []) ⟨hx, hb, hml, hown, hts⟩ (sx_X12_within_e l G ad I J  a1 0 2 _) (va_cwS 3 hts gX12_other_X12_within rfl rfl rfl (by decide +kernel) ⟨Nat.le_of_ble_eq_true rfl, Nat.le_of_ble_eq_true rfl⟩) (z_preS hK hW) rfl rfl hl.1 rfl (lv_room (Nat.le_of_ble_eq_true rfl)) dX12_other_3 ⟨Nat.le_of_ble_eq_true rfl, Nat.le_of_ble_eq_true rfl⟩) (fun r u1 H locs hp hW hS => ?_)
  obtain ⟨e9, hp⟩ := hp
  rw [e9] at hW
  rcases hp with ⟨rfl, h1⟩ | ⟨rfl, h1⟩
  · have h2 := h1
    have z3 := z_l0
    have z4 := z_l2
    refine lv_if_eq (tgt := 34) hx hb dX12_other_6 (by decide) (fun c5 => absurd c5 (by decide)) (fun c5 => ?_)
    refine lv_iload_n hx hb dX12_other_9 rfl (lv_at hl 2 rfl) ?_
    refine z_ci hW hS hA (va_runS (As := [.int a2]) (rest := []) ⟨hx, hb, hml, hown, hts⟩ (sx_X12_isMonth_e l G ad I J  a2 _) (va_cwS 1 hts gX12_other_X12_isMonth rfl rfl rfl (by decide +kernel) ⟨Nat.le_of_ble_eq_true rfl, Nat.le_of_ble_eq_true rfl⟩) (z_preS hK hW) rfl rfl hl.1 rfl (lv_room (Nat.le_of_ble_eq_true rfl)) dX12_other_10 ⟨Nat.le_of_ble_eq_true rfl, Nat.le_of_ble_eq_true rfl⟩) (fun r u1 H locs hp hW hS => ?_)
    obtain ⟨e9, hp⟩ := hp
    rw [e9] at hW
    rcases hp with ⟨rfl, h6⟩ | ⟨rfl, h6⟩
    · have h7 := h6
      refine lv_if_eq (tgt := 34) hx hb dX12_other_13 (by decide) (fun c8 => absurd c8 (by decide)) (fun c8 => ?_)
      refine lv_aload_n hx hb dX12_other_16 rfl (lv_at hl 0 rfl) ?_
      refine lv_iload_n hx hb dX12_other_17 rfl (lv_at hl 3 rfl) ?_
      refine z_ci hW hS hA (va_runV (As := [.int a3]) (rest := []) ⟨hx, hb, hml, hown, hts⟩ (sx_X12_isHolder_e l G ad I J ⟨(by show 0 ≤ (I 0 0).toInt ∧ (I 0 0).toInt ≤ 719; exact hma.1), (by show 0 ≤ (I 0 1).toInt ∧ (I 0 1).toInt ≤ 30; exact hma.2.1), (by show 0 ≤ (I 0 2).toInt ∧ (I 0 2).toInt ≤ 200; exact hma.2.2)⟩ a3 _) (cwV 1 hts gX12_other_X12_isHolder rfl rfl rfl (by decide +kernel) ⟨Nat.le_of_ble_eq_true rfl, Nat.le_of_ble_eq_true rfl⟩) (z_preV (i := 0) hK hW rfl rfl) rfl rfl hl.1 rfl (lv_room (Nat.le_of_ble_eq_true rfl)) dX12_other_18 ⟨Nat.le_of_ble_eq_true rfl, Nat.le_of_ble_eq_true rfl⟩) (fun r u1 H locs hp hW hS => ?_)
      obtain ⟨e9, hp⟩ := hp
      rw [e9] at hW
      rcases hp with ⟨rfl, h9⟩ | ⟨rfl, h9⟩
      · have h11 := h9
        have r12 : 0 ≤ (I 0 1).toInt ∧ (I 0 1).toInt ≤ 30 := hma.2.1
        refine lv_if_eq (tgt := 34) hx hb dX12_other_21 (by decide) (fun c13 => absurd c13 (by decide)) (fun c13 => ?_)
        refine lv_iload hx hb dX12_other_24 (lv_at hl 4 rfl) ?_
        refine lv_iconst (v := 0) hx hb dX12_other_26 (by decide) ?_
        refine lv_iconst (v := 1) hx hb dX12_other_27 (by decide) ?_
        refine z_ci hW hS hA (va_runS (As := [.int a4, .int 0, .int 1]) (rest := []) ⟨hx, hb, hml, hown, hts⟩ (sx_X12_within_e l G ad I J  a4 0 1 _) (va_cwS 3 hts gX12_other_X12_within rfl rfl rfl (by decide +kernel) ⟨Nat.le_of_ble_eq_true rfl, Nat.le_of_ble_eq_true rfl⟩) (z_preS hK hW) rfl rfl hl.1 rfl (lv_room (Nat.le_of_ble_eq_true rfl)) dX12_other_28 ⟨Nat.le_of_ble_eq_true rfl, Nat.le_of_ble_eq_true rfl⟩) (fun r u1 H locs hp hW hS => ?_)
        obtain ⟨e9, hp⟩ := hp
        rw [e9] at hW
        rcases hp with ⟨rfl, h14⟩ | ⟨rfl, h14⟩
        · have h15 := h14
          have z16 := z_l0
          have z17 := z_l1
          refine lv_if_ne (tgt := 36) hx hb dX12_other_31 (by decide) (fun c18 => ?_) (fun c18 => absurd c18 (by decide))
          refine lv_aload_n hx hb dX12_other_36 rfl (lv_at hl 0 rfl) ?_
          refine lv_iload_n hx hb dX12_other_37 rfl (lv_at hl 1 rfl) ?_
          refine lv_iload_n hx hb dX12_other_38 rfl (lv_at hl 2 rfl) ?_
          refine z_cv hW hS hA (va_runV (As := [.int a1, .int a2]) (rest := []) ⟨hx, hb, hml, hown, hts⟩ (sx_X12_deals_d l G ad I J ⟨(by show 0 ≤ (I 0 0).toInt ∧ (I 0 0).toInt ≤ 719; exact hma.1), (by show 0 ≤ (I 0 1).toInt ∧ (I 0 1).toInt ≤ 30; exact hma.2.1), (by show 0 ≤ (I 0 2).toInt ∧ (I 0 2).toInt ≤ 200; exact hma.2.2)⟩ ⟨(by show 0 ≤ (I 0 13).toInt ∧ (I 0 13).toInt ≤ 12; exact hmb.1), (by show 0 ≤ (I 0 14).toInt ∧ (I 0 14).toInt ≤ 288; exact hmb.2)⟩ hAtf hAtm hNd hAsf hAst hAsc hEx FF RS a1 a2 (by omega) (by omega) hWm hN _) (cwV 2 hts gX12_other_X12_deals rfl rfl rfl (by decide +kernel) ⟨Nat.le_of_ble_eq_true rfl, Nat.le_of_ble_eq_true rfl⟩) (z_preV (i := 0) hK hW rfl rfl) rfl rfl hl.1 rfl (lv_room (Nat.le_of_ble_eq_true rfl)) dX12_other_39 ⟨Nat.le_of_ble_eq_true rfl, Nat.le_of_ble_eq_true rfl⟩) (fun u1 H locs hp hW hS => ?_)
          obtain ⟨I19, J21, e9, hI19ma, hI19mb, hI19Atf, hI19Atm, hI19Nd, hI19Asf, hI19Ast, hI19Asc, hI19Ex, fI19, hp⟩ := hp
          rw [e9] at hW
          have f20 := z_fr_sub (L := L_X12_other_d) z_fr_0 fI19 (by decide)
          have hE22 := hp
          refine lv_iload hx hb dX12_other_42 (lv_at hl 4 rfl) ?_
          refine lv_if_ne (tgt := 56) hx hb dX12_other_44 (by decide) (fun c23 => ?_) (fun c23 => ?_)
          · have g24 := z_f_ne rfl z_l0 c23
            refine lv_aload_n hx hb dX12_other_56 rfl (lv_at hl 0 rfl) ?_
            refine z_get (T := TX12) (N := 96) (ci := 12) (i := 0) (v := .ref (ad 69)) hx hb hts zj_X12_other_X12 hown hK hW rfl rfl 94 (by decide) (hts (.fieldLink RX12 223 "PetrolBoardModel" "deal" "[I") (me_s (me_l (me_l (List.mem_of_getElem? (i := 0) rfl))))) (fun _ h => h) rfl dX12_other_57 ?_
            refine lv_iload_n hx hb dX12_other_60 rfl (lv_at hl 3 rfl) ?_
            refine z_iald (i := 69) hx hb hK hW rfl (z_ix rfl (by omega) (by omega)) dX12_other_61 ?_
            refine lv_topi (fun x25 ex25 => ?_)
            have hv26 : (I19 69 a3.toNatClampNeg).toInt = x25.toInt := by rw [ex25]
            have hz27 := z_clt (x := a3) rfl (by omega)
            refine lv_aload_n hx hb dX12_other_62 rfl (lv_at hl 0 rfl) ?_
            refine z_get (T := TX12) (N := 96) (ci := 12) (i := 0) (v := .ref (ad 5)) hx hb hts zj_X12_other_X12 hown hK hW rfl rfl 7 (by decide) (hts (.fieldLink RX12 22 "PetrolBoardModel" "needOf" "[I") (me_s (me_l (me_l (List.mem_of_getElem? (i := 1) rfl))))) (fun _ h => h) rfl dX12_other_63 ?_
            refine lv_iload_n hx hb dX12_other_66 rfl (lv_at hl 3 rfl) ?_
            refine z_iald (i := 5) hx hb hK hW rfl (z_ix rfl (by omega) (by omega)) dX12_other_67 ?_
            refine lv_topi (fun x28 ex28 => ?_)
            have hv29 : (I19 5 a3.toNatClampNeg).toInt = x28.toInt := by rw [ex28]
            have hz30 := z_clt (x := a3) rfl (by omega)
            refine lv_icmp_lt (tgt := 75) hx hb dX12_other_68 (by decide) (fun c31 => ?_) (fun c31 => ?_)
            · have g32 := z_f_lt rfl rfl c31
              have b33 := Int32.toInt_lt x25
              have b34 := Int32.toInt_lt x28
              refine lv_iconst (v := 0) hx hb dX12_other_75 (by decide) ?_
              exact z_iret hx hb hr hK hS (Nat.le_of_ble_eq_true rfl) (Nat.le_of_ble_eq_true rfl) hlocks dX12_other_76 (shM, ad, I19, J21, PM ad) hW ⟨I19, J21, rfl, ⟨(by show 0 ≤ (I19 0 0).toInt ∧ (I19 0 0).toInt ≤ 719; exact hI19ma.1), (by show 0 ≤ (I19 0 1).toInt ∧ (I19 0 1).toInt ≤ 30; exact hI19ma.2.1), (by show 0 ≤ (I19 0 2).toInt ∧ (I19 0 2).toInt ≤ 200; exact hI19ma.2.2)⟩, ⟨(by show 0 ≤ (I19 0 13).toInt ∧ (I19 0 13).toInt ≤ 12; exact hI19mb.1), (by show 0 ≤ (I19 0 14).toInt ∧ (I19 0 14).toInt ≤ 288; exact hI19mb.2)⟩, hI19Atf, hI19Atm, hI19Nd, hI19Asf, hI19Ast, hI19Asc, hI19Ex, f20, (by have c9 := z_clt (x := a3) rfl (by omega); have d9 := hE22 a3.toNatClampNeg (by omega); have n9 : (I19 5 a3.toNatClampNeg).toInt = zd_NM I a3.toNatClampNeg := (by rw [fI19 5 a3.toNatClampNeg (z_wr_c (by decide))]; rfl); exact Or.inl ⟨by omega, Or.inr ⟨by omega, by rw [if_neg (by omega)]; decide⟩⟩)⟩
            · have g35 := z_f_nlt rfl rfl c31
              have b36 := Int32.toInt_lt x25
              have b37 := Int32.toInt_lt x28
              refine lv_iconst (v := 1) hx hb dX12_other_71 (by decide) ?_
              refine lv_goto (tgt := 76) hx hb dX12_other_72 (by decide) ?_
              exact z_iret hx hb hr hK hS (Nat.le_of_ble_eq_true rfl) (Nat.le_of_ble_eq_true rfl) hlocks dX12_other_76 (shM, ad, I19, J21, PM ad) hW ⟨I19, J21, rfl, ⟨(by show 0 ≤ (I19 0 0).toInt ∧ (I19 0 0).toInt ≤ 719; exact hI19ma.1), (by show 0 ≤ (I19 0 1).toInt ∧ (I19 0 1).toInt ≤ 30; exact hI19ma.2.1), (by show 0 ≤ (I19 0 2).toInt ∧ (I19 0 2).toInt ≤ 200; exact hI19ma.2.2)⟩, ⟨(by show 0 ≤ (I19 0 13).toInt ∧ (I19 0 13).toInt ≤ 12; exact hI19mb.1), (by show 0 ≤ (I19 0 14).toInt ∧ (I19 0 14).toInt ≤ 288; exact hI19mb.2)⟩, hI19Atf, hI19Atm, hI19Nd, hI19Asf, hI19Ast, hI19Asc, hI19Ex, f20, (by have c9 := z_clt (x := a3) rfl (by omega); have d9 := hE22 a3.toNatClampNeg (by omega); have n9 : (I19 5 a3.toNatClampNeg).toInt = zd_NM I a3.toNatClampNeg := (by rw [fI19 5 a3.toNatClampNeg (z_wr_c (by decide))]; rfl); exact Or.inl ⟨by omega, Or.inr ⟨by omega, by rw [if_pos (by omega)]; decide⟩⟩)⟩
          · have g38 := z_f_eq rfl z_l0 c23
            refine lv_aload_n hx hb dX12_other_47 rfl (lv_at hl 0 rfl) ?_
            refine z_get (T := TX12) (N := 96) (ci := 12) (i := 0) (v := .ref (ad 69)) hx hb hts zj_X12_other_X12 hown hK hW rfl rfl 94 (by decide) (hts (.fieldLink RX12 223 "PetrolBoardModel" "deal" "[I") (me_s (me_l (me_l (List.mem_of_getElem? (i := 0) rfl))))) (fun _ h => h) rfl dX12_other_48 ?_
            refine lv_iload_n hx hb dX12_other_51 rfl (lv_at hl 3 rfl) ?_
            refine z_iald (i := 69) hx hb hK hW rfl (z_ix rfl (by omega) (by omega)) dX12_other_52 ?_
            refine lv_topi (fun x39 ex39 => ?_)
            have hv40 : (I19 69 a3.toNatClampNeg).toInt = x39.toInt := by rw [ex39]
            have hz41 := z_clt (x := a3) rfl (by omega)
            refine lv_goto (tgt := 76) hx hb dX12_other_53 (by decide) ?_
            exact z_iret hx hb hr hK hS (Nat.le_of_ble_eq_true rfl) (Nat.le_of_ble_eq_true rfl) hlocks dX12_other_76 (shM, ad, I19, J21, PM ad) hW ⟨I19, J21, rfl, ⟨(by show 0 ≤ (I19 0 0).toInt ∧ (I19 0 0).toInt ≤ 719; exact hI19ma.1), (by show 0 ≤ (I19 0 1).toInt ∧ (I19 0 1).toInt ≤ 30; exact hI19ma.2.1), (by show 0 ≤ (I19 0 2).toInt ∧ (I19 0 2).toInt ≤ 200; exact hI19ma.2.2)⟩, ⟨(by show 0 ≤ (I19 0 13).toInt ∧ (I19 0 13).toInt ≤ 12; exact hI19mb.1), (by show 0 ≤ (I19 0 14).toInt ∧ (I19 0 14).toInt ≤ 288; exact hI19mb.2)⟩, hI19Atf, hI19Atm, hI19Nd, hI19Asf, hI19Ast, hI19Asc, hI19Ex, f20, (by have c9 := z_clt (x := a3) rfl (by omega); have d9 := hE22 a3.toNatClampNeg (by omega); have n9 : (I19 5 a3.toNatClampNeg).toInt = zd_NM I a3.toNatClampNeg := (by rw [fI19 5 a3.toNatClampNeg (z_wr_c (by decide))]; rfl); exact Or.inl ⟨by omega, Or.inl ⟨by omega, by omega⟩⟩)⟩
        · have h42 := h14
          have z43 := z_l0
          have z44 := z_l1
          refine lv_if_ne (tgt := 36) hx hb dX12_other_31 (by decide) (fun c45 => absurd (by decide) c45) (fun c45 => ?_)
          refine lv_iconst (v := (-1)) hx hb dX12_other_34 (by decide) ?_
          exact z_iret hx hb hr hK hS (Nat.le_of_ble_eq_true rfl) (Nat.le_of_ble_eq_true rfl) hlocks dX12_other_35 (shM, ad, I, J, PM ad) hW ⟨I, J, rfl, ⟨(by show 0 ≤ (I 0 0).toInt ∧ (I 0 0).toInt ≤ 719; exact hma.1), (by show 0 ≤ (I 0 1).toInt ∧ (I 0 1).toInt ≤ 30; exact hma.2.1), (by show 0 ≤ (I 0 2).toInt ∧ (I 0 2).toInt ≤ 200; exact hma.2.2)⟩, ⟨(by show 0 ≤ (I 0 13).toInt ∧ (I 0 13).toInt ≤ 12; exact hmb.1), (by show 0 ≤ (I 0 14).toInt ∧ (I 0 14).toInt ≤ 288; exact hmb.2)⟩, hAtf, hAtm, hNd, hAsf, hAst, hAsc, hEx, z_fr_0, (Or.inr ⟨by omega, by decide⟩)⟩
      · have h46 := h9
        have r47 : 0 ≤ (I 0 1).toInt ∧ (I 0 1).toInt ≤ 30 := hma.2.1
        refine lv_if_eq (tgt := 34) hx hb dX12_other_21 (by decide) (fun c48 => ?_) (fun c48 => absurd (by decide) c48)
        refine lv_iconst (v := (-1)) hx hb dX12_other_34 (by decide) ?_
        exact z_iret hx hb hr hK hS (Nat.le_of_ble_eq_true rfl) (Nat.le_of_ble_eq_true rfl) hlocks dX12_other_35 (shM, ad, I, J, PM ad) hW ⟨I, J, rfl, ⟨(by show 0 ≤ (I 0 0).toInt ∧ (I 0 0).toInt ≤ 719; exact hma.1), (by show 0 ≤ (I 0 1).toInt ∧ (I 0 1).toInt ≤ 30; exact hma.2.1), (by show 0 ≤ (I 0 2).toInt ∧ (I 0 2).toInt ≤ 200; exact hma.2.2)⟩, ⟨(by show 0 ≤ (I 0 13).toInt ∧ (I 0 13).toInt ≤ 12; exact hmb.1), (by show 0 ≤ (I 0 14).toInt ∧ (I 0 14).toInt ≤ 288; exact hmb.2)⟩, hAtf, hAtm, hNd, hAsf, hAst, hAsc, hEx, z_fr_0, (Or.inr ⟨by omega, by decide⟩)⟩
    · have h49 := h6
      refine lv_if_eq (tgt := 34) hx hb dX12_other_13 (by decide) (fun c50 => ?_) (fun c50 => absurd (by decide) c50)
      refine lv_iconst (v := (-1)) hx hb dX12_other_34 (by decide) ?_
      exact z_iret hx hb hr hK hS (Nat.le_of_ble_eq_true rfl) (Nat.le_of_ble_eq_true rfl) hlocks dX12_other_35 (shM, ad, I, J, PM ad) hW ⟨I, J, rfl, ⟨(by show 0 ≤ (I 0 0).toInt ∧ (I 0 0).toInt ≤ 719; exact hma.1), (by show 0 ≤ (I 0 1).toInt ∧ (I 0 1).toInt ≤ 30; exact hma.2.1), (by show 0 ≤ (I 0 2).toInt ∧ (I 0 2).toInt ≤ 200; exact hma.2.2)⟩, ⟨(by show 0 ≤ (I 0 13).toInt ∧ (I 0 13).toInt ≤ 12; exact hmb.1), (by show 0 ≤ (I 0 14).toInt ∧ (I 0 14).toInt ≤ 288; exact hmb.2)⟩, hAtf, hAtm, hNd, hAsf, hAst, hAsc, hEx, z_fr_0, (Or.inr ⟨by omega, by decide⟩)⟩
  · have h51 := h1
    have z52 := z_l0
    have z53 := z_l2
    refine lv_if_eq (tgt := 34) hx hb dX12_other_6 (by decide) (fun c54 => ?_) (fun c54 => absurd (by decide) c54)
    refine lv_iconst (v := (-1)) hx hb dX12_other_34 (by decide) ?_
    exact z_iret hx hb hr hK hS (Nat.le_of_ble_eq_true rfl) (Nat.le_of_ble_eq_true rfl) hlocks dX12_other_35 (shM, ad, I, J, PM ad) hW ⟨I, J, rfl, ⟨(by show 0 ≤ (I 0 0).toInt ∧ (I 0 0).toInt ≤ 719; exact hma.1), (by show 0 ≤ (I 0 1).toInt ∧ (I 0 1).toInt ≤ 30; exact hma.2.1), (by show 0 ≤ (I 0 2).toInt ∧ (I 0 2).toInt ≤ 200; exact hma.2.2)⟩, ⟨(by show 0 ≤ (I 0 13).toInt ∧ (I 0 13).toInt ≤ 12; exact hmb.1), (by show 0 ≤ (I 0 14).toInt ∧ (I 0 14).toInt ≤ 288; exact hmb.2)⟩, hAtf, hAtm, hNd, hAsf, hAst, hAsc, hEx, z_fr_0, (Or.inr ⟨by omega, by decide⟩)⟩
noncomputable def L_X12_stays_d : z_L := [(69, 999), (70, 999), (24, 999), (30, 999)]
set_option maxHeartbeats 8000000 in
set_option maxRecDepth 100000 in
theorem sx_X12_stays_d (l : Launch) (G : z_G) (ad : Nat → Nat) (I : z_I) (J : z_J) (hma : z_ima I) (hmb : z_imb I) (hAtf : z_rg 11 0 288 I) (hAtm : z_rg 12 0 24 I) (hNd : z_Nd I) (hAsf : z_rg 19 0 6200 I) (hAst : z_rg 20 0 6200 I) (hAsc : z_rg 18 (-1) 6199 I) (hEx : z_Ex I) (FF : Nat → Nat) (RS : Nat → List zm_row) (a1 : Int32) (a2 : Int32) (hWm : zw_W I FF RS) (hN : ∀ j : Nat, (j : Int) < (I 0 1).toInt → 0 ≤ (I 5 j).toInt ∧ (I 5 j).toInt ≤ 99) : z_M l yX12_stays wsX12_stays { frames := 7, cells := 0, slots := 0, locals := 159 } [.ref (ad 0), .int a1, .int a2] G (shM, ad, I, J, PM ad) (fun r u1 => ∃ (I1 : z_I) (J1 : z_J), u1 = (shM, ad, I1, J1, PM ad) ∧ z_ima I1 ∧ z_imb I1 ∧ z_rg 11 0 288 I1 ∧ z_rg 12 0 24 I1 ∧ z_Nd I1 ∧ z_rg 19 0 6200 I1 ∧ z_rg 20 0 6200 I1 ∧ z_rg 18 (-1) 6199 I1 ∧ z_Ex I1 ∧ z_fr L_X12_stays_d I1 I ∧ ((((0 ≤ a1.toInt ∧ a1.toInt ≤ 2) ∧ 0 ≤ a2.toInt ∧ a2.toInt ≤ 23) ∧ r.toInt = zd_C (zd_D (zd_V I RS a2.toInt) (zd_BM I) (zd_NM I) (I 0 1).toNatClampNeg a1.toInt) (zd_NM I) (I 0 1).toNatClampNeg) ∨ (¬ ((0 ≤ a1.toInt ∧ a1.toInt ≤ 2) ∧ 0 ≤ a2.toInt ∧ a2.toInt ≤ 23) ∧ r.toInt = -1))) 0 0 := by
  intro sz
  refine z_headQ (cc := cX12_stays) (maxL := 5) (ret := (some .int)) (by decide) rfl (Nat.le_of_ble_eq_true rfl) ?_
  intro p e s m below meth c0 ls hIn hK hsz hW hl
  obtain ⟨hx, hb, hr, hml, hown, hts, hlocks, hname⟩ := hIn
  subst hsz
  have hown : s.vm.findClass RX12 = some m.cls := hown
  have hA : ∀ q : Nat, s.heap.size ≤ q → z_A (shM, ad, I, J, PM ad) s.heap.size q := fun q h => Or.inr h
  generalize hAe : z_A (shM, ad, I, J, PM ad) s.heap.size = A at *
  have hS : va_S A s.heap s.heap [] := va_S.rf
  have hl : lv_has ls 5 [(0, .ref (ad 0)), (1, .int a1), (2, .int a2)] := hl
  have nH9 := hma.2.1
  refine lv_iload_n hx hb dX12_stays_0 rfl (lv_at hl 1 rfl) ?_
  refine lv_iconst (v := 0) hx hb dX12_stays_1 (by decide) ?_
  refine lv_iconst (v := 2) hx hb dX12_stays_2 (by decide) ?_
  refine z_ci hW hS hA (va_runS (As := [.int a1, .int 0, .int 2]) (rest := []) ⟨hx, hb, hml, hown, hts⟩ (sx_X12_within_e l G ad I J  a1 0 2 _) (va_cwS 3 hts gX12_stays_X12_within rfl rfl rfl (by decide +kernel) ⟨Nat.le_of_ble_eq_true rfl, Nat.le_of_ble_eq_true rfl⟩) (z_preS hK hW) rfl rfl hl.1 rfl (lv_room (Nat.le_of_ble_eq_true rfl)) dX12_stays_3 ⟨Nat.le_of_ble_eq_true rfl, Nat.le_of_ble_eq_true rfl⟩) (fun r u1 H locs hp hW hS => ?_)
  obtain ⟨e9, hp⟩ := hp
  rw [e9] at hW
  rcases hp with ⟨rfl, h1⟩ | ⟨rfl, h1⟩
  · have h2 := h1
    have z3 := z_l0
    have z4 := z_l2
    refine lv_if_eq (tgt := 16) hx hb dX12_stays_6 (by decide) (fun c5 => absurd c5 (by decide)) (fun c5 => ?_)
    refine lv_iload_n hx hb dX12_stays_9 rfl (lv_at hl 2 rfl) ?_
    refine z_ci hW hS hA (va_runS (As := [.int a2]) (rest := []) ⟨hx, hb, hml, hown, hts⟩ (sx_X12_isMonth_e l G ad I J  a2 _) (va_cwS 1 hts gX12_stays_X12_isMonth rfl rfl rfl (by decide +kernel) ⟨Nat.le_of_ble_eq_true rfl, Nat.le_of_ble_eq_true rfl⟩) (z_preS hK hW) rfl rfl hl.1 rfl (lv_room (Nat.le_of_ble_eq_true rfl)) dX12_stays_10 ⟨Nat.le_of_ble_eq_true rfl, Nat.le_of_ble_eq_true rfl⟩) (fun r u1 H locs hp hW hS => ?_)
    obtain ⟨e9, hp⟩ := hp
    rw [e9] at hW
    rcases hp with ⟨rfl, h6⟩ | ⟨rfl, h6⟩
    · have h7 := h6
      refine lv_if_ne (tgt := 18) hx hb dX12_stays_13 (by decide) (fun c8 => ?_) (fun c8 => absurd c8 (by decide))
      refine lv_aload_n hx hb dX12_stays_18 rfl (lv_at hl 0 rfl) ?_
      refine lv_iload_n hx hb dX12_stays_19 rfl (lv_at hl 1 rfl) ?_
      refine lv_iload_n hx hb dX12_stays_20 rfl (lv_at hl 2 rfl) ?_
      refine z_cv hW hS hA (va_runV (As := [.int a1, .int a2]) (rest := []) ⟨hx, hb, hml, hown, hts⟩ (sx_X12_deals_d l G ad I J ⟨(by show 0 ≤ (I 0 0).toInt ∧ (I 0 0).toInt ≤ 719; exact hma.1), (by show 0 ≤ (I 0 1).toInt ∧ (I 0 1).toInt ≤ 30; exact hma.2.1), (by show 0 ≤ (I 0 2).toInt ∧ (I 0 2).toInt ≤ 200; exact hma.2.2)⟩ ⟨(by show 0 ≤ (I 0 13).toInt ∧ (I 0 13).toInt ≤ 12; exact hmb.1), (by show 0 ≤ (I 0 14).toInt ∧ (I 0 14).toInt ≤ 288; exact hmb.2)⟩ hAtf hAtm hNd hAsf hAst hAsc hEx FF RS a1 a2 (by omega) (by omega) hWm hN _) (cwV 2 hts gX12_stays_X12_deals rfl rfl rfl (by decide +kernel) ⟨Nat.le_of_ble_eq_true rfl, Nat.le_of_ble_eq_true rfl⟩) (z_preV (i := 0) hK hW rfl rfl) rfl rfl hl.1 rfl (lv_room (Nat.le_of_ble_eq_true rfl)) dX12_stays_21 ⟨Nat.le_of_ble_eq_true rfl, Nat.le_of_ble_eq_true rfl⟩) (fun u1 H locs hp hW hS => ?_)
      obtain ⟨I9, J11, e9, hI9ma, hI9mb, hI9Atf, hI9Atm, hI9Nd, hI9Asf, hI9Ast, hI9Asc, hI9Ex, fI9, hp⟩ := hp
      rw [e9] at hW
      have f10 := z_fr_sub (L := L_X12_stays_d) z_fr_0 fI9 (by decide)
      have hE12 := hp
      refine lv_iconst (v := 0) hx hb dX12_stays_24 (by decide) ?_
      refine lv_istore_n (lv' := [(3, .int 0), (0, .ref (ad 0)), (1, .int a1), (2, .int a2)]) hx hb dX12_stays_25 rfl hl (by decide) rfl (fun ls hl => ?_)
      refine lv_iconst (v := 0) hx hb dX12_stays_26 (by decide) ?_
      refine lv_istore (lv' := [(4, .int 0), (3, .int 0), (0, .ref (ad 0)), (1, .int a1), (2, .int a2)]) hx hb dX12_stays_27 hl (by decide) rfl (fun ls hl => ?_)
      have lp13 : ∀ (f : Nat) (y14 : Int32) (y15 : Int32) (H : Heap) (locs : List Loc) (ls : Array Slot), (2147483647 < y14.toInt + (f : Int)) → (0 ≤ y14.toInt) → (0 ≤ y15.toInt) → (y15.toInt ≤ 30) → (y15.toInt = zd_C (zd_D (zd_V I RS a2.toInt) (zd_BM I) (zd_NM I) (I 0 1).toNatClampNeg a1.toInt) (zd_NM I) y14.toNatClampNeg ∧ y15.toInt ≤ y14.toInt ∧ y14.toInt ≤ (I 0 1).toInt) → z_W G A (shM, ad, I9, J11, PM ad) H → va_S A s.heap H locs → lv_has ls 5 [(4, .int y14), (3, .int y15), (0, .ref (ad 0)), (1, .int a1), (2, .int a2)] → W p l e (headSpec wsX12_stays { frames := 7, cells := 0, slots := 0, locals := 159 }).room s m ([.ref (ad 0), .int a1, .int a2] : List Value).toArray below meth c0 H locs 0 0 (MQ below (va_Qi (fun (r : Int32) (u1 : z_U) => ∃ (I1 : z_I) (J1 : z_J), u1 = (shM, ad, I1, J1, PM ad) ∧ z_ima I1 ∧ z_imb I1 ∧ z_rg 11 0 288 I1 ∧ z_rg 12 0 24 I1 ∧ z_Nd I1 ∧ z_rg 19 0 6200 I1 ∧ z_rg 20 0 6200 I1 ∧ z_rg 18 (-1) 6199 I1 ∧ z_Ex I1 ∧ z_fr L_X12_stays_d I1 I ∧ ((((0 ≤ a1.toInt ∧ a1.toInt ≤ 2) ∧ 0 ≤ a2.toInt ∧ a2.toInt ≤ 23) ∧ r.toInt = zd_C (zd_D (zd_V I RS a2.toInt) (zd_BM I) (zd_NM I) (I 0 1).toNatClampNeg a1.toInt) (zd_NM I) (I 0 1).toNatClampNeg) ∨ (¬ ((0 ≤ a1.toInt ∧ a1.toInt ≤ 2) ∧ 0 ≤ a2.toInt ∧ a2.toInt ≤ 23) ∧ r.toInt = -1))) (z_B G A) A) ([.ref (ad 0), .int a1, .int a2] : List Value).toArray s 0 0 A) (F0 m 29 ls []) := by
        intro f
        induction f with
        | zero => intro y14 y15 H locs ls lp13m lp13l4 lp13l3 lp13u3 lp13C hW hS hl; exact absurd lp13m (by have := Int32.toInt_lt y14; have := Int32.le_toInt y14; omega)
        | succ f lp13ih =>
          intro y14 y15 H locs ls lp13m lp13l4 lp13l3 lp13u3 lp13C hW hS hl
          refine lv_iload hx hb dX12_stays_29 (lv_at hl 0 rfl) ?_
          have hn16 : (I9 0 1).toInt = (I 0 1).toInt := by rw [fI9 0 1 (by decide)]
          refine lv_aload_n hx hb dX12_stays_31 rfl (lv_at hl 2 rfl) ?_
          have r17 : 0 ≤ (I9 0 1).toInt ∧ (I9 0 1).toInt ≤ 30 := hI9ma.2.1
          refine z_get (T := TX12) (N := 96) (ci := 12) (i := 0) (v := .int (I9 0 1)) hx hb hts zj_X12_stays_X12 hown hK hW rfl rfl 1 (by decide) (hts (.fieldLink RX12 229 "PetrolBoardModel" "holders" "I") (me_s (me_l (me_l (List.mem_of_getElem? (i := 0) rfl))))) (fun _ h => h) rfl dX12_stays_32 ?_
          refine lv_icmp_ge (tgt := 64) hx hb dX12_stays_35 (by decide) (fun c18 => ?_) (fun c18 => ?_)
          · have g19 := z_f_ge rfl rfl c18
            have b20 := Int32.toInt_lt y14
            refine lv_iload_n hx hb dX12_stays_64 rfl (lv_at hl 1 rfl) ?_
            exact z_iret hx hb hr hK hS (Nat.le_of_ble_eq_true rfl) (Nat.le_of_ble_eq_true rfl) hlocks dX12_stays_65 (shM, ad, I9, J11, PM ad) hW ⟨I9, J11, rfl, ⟨(by show 0 ≤ (I9 0 0).toInt ∧ (I9 0 0).toInt ≤ 719; exact hI9ma.1), (by show 0 ≤ (I9 0 1).toInt ∧ (I9 0 1).toInt ≤ 30; exact hI9ma.2.1), (by show 0 ≤ (I9 0 2).toInt ∧ (I9 0 2).toInt ≤ 200; exact hI9ma.2.2)⟩, ⟨(by show 0 ≤ (I9 0 13).toInt ∧ (I9 0 13).toInt ≤ 12; exact hI9mb.1), (by show 0 ≤ (I9 0 14).toInt ∧ (I9 0 14).toInt ≤ 288; exact hI9mb.2)⟩, hI9Atf, hI9Atm, hI9Nd, hI9Asf, hI9Ast, hI9Asc, hI9Ex, f10, (by have q1 := z_clt (x := y14) rfl (by omega); have q2 := z_clt (x := I 0 1) rfl (by omega); have e9 := lp13C.1; rw [show y14.toNatClampNeg = (I 0 1).toNatClampNeg by omega] at e9; exact Or.inl ⟨by omega, e9⟩)⟩
          · have g21 := z_f_nge rfl rfl c18
            have b22 := Int32.toInt_lt y14
            refine lv_aload_n hx hb dX12_stays_38 rfl (lv_at hl 2 rfl) ?_
            refine z_get (T := TX12) (N := 96) (ci := 12) (i := 0) (v := .ref (ad 69)) hx hb hts zj_X12_stays_X12 hown hK hW rfl rfl 94 (by decide) (hts (.fieldLink RX12 223 "PetrolBoardModel" "deal" "[I") (me_s (me_l (me_l (List.mem_of_getElem? (i := 1) rfl))))) (fun _ h => h) rfl dX12_stays_39 ?_
            refine lv_iload hx hb dX12_stays_42 (lv_at hl 0 rfl) ?_
            refine z_iald (i := 69) hx hb hK hW rfl (z_ix rfl (by omega) (by omega)) dX12_stays_44 ?_
            refine lv_topi (fun x23 ex23 => ?_)
            have hv24 : (I9 69 y14.toNatClampNeg).toInt = x23.toInt := by rw [ex23]
            have hz25 := z_clt (x := y14) rfl (by omega)
            refine lv_aload_n hx hb dX12_stays_45 rfl (lv_at hl 2 rfl) ?_
            refine z_get (T := TX12) (N := 96) (ci := 12) (i := 0) (v := .ref (ad 5)) hx hb hts zj_X12_stays_X12 hown hK hW rfl rfl 7 (by decide) (hts (.fieldLink RX12 22 "PetrolBoardModel" "needOf" "[I") (me_s (me_l (me_l (List.mem_of_getElem? (i := 2) rfl))))) (fun _ h => h) rfl dX12_stays_46 ?_
            refine lv_iload hx hb dX12_stays_49 (lv_at hl 0 rfl) ?_
            refine z_iald (i := 5) hx hb hK hW rfl (z_ix rfl (by omega) (by omega)) dX12_stays_51 ?_
            refine lv_topi (fun x26 ex26 => ?_)
            have hv27 : (I9 5 y14.toNatClampNeg).toInt = x26.toInt := by rw [ex26]
            have hz28 := z_clt (x := y14) rfl (by omega)
            refine lv_icmp_lt (tgt := 58) hx hb dX12_stays_52 (by decide) (fun c29 => ?_) (fun c29 => ?_)
            · have g30 := z_f_lt rfl rfl c29
              have b31 := Int32.toInt_lt x23
              have b32 := Int32.toInt_lt x26
              obtain ⟨x33, ex33⟩ : ∃ y : Int32, y = y14 + 1 := ⟨_, rfl⟩
              have tx33 : x33.toInt = y14.toInt + 1 := z_tadd ex33 rfl z_l1 (by omega) (by omega)
              refine lv_iinc (v := x33) (lv' := [(4, .int x33), (3, .int y15), (0, .ref (ad 0)), (1, .int a1), (2, .int a2)]) hx hb dX12_stays_58 hl (k := 0) rfl (by rw [ex33]; rfl) (by decide) rfl (fun ls hl => ?_)
              refine lv_goto (tgt := 29) hx hb dX12_stays_61 (by decide) ?_
              exact lp13ih x33 y15 _ _ _ (by omega) (by omega) (by omega) (by omega) (by have c9 := z_clt (x := y14) rfl (by omega); have d9 := hE12 y14.toNatClampNeg (by omega); have n9 : (I9 5 y14.toNatClampNeg).toInt = zd_NM I y14.toNatClampNeg := (by rw [fI9 5 _ (z_wr_c (by decide))]; rfl); exact ⟨by rw [(show x33.toNatClampNeg = y14.toNatClampNeg + 1 from z_cln (by omega) (by omega)), zd_C_n (by omega)]; omega, by omega, by omega⟩) hW hS (lv_sub hl [0, 1, 2, 3, 4] rfl)
            · have g34 := z_f_nlt rfl rfl c29
              have b35 := Int32.toInt_lt x23
              have b36 := Int32.toInt_lt x26
              obtain ⟨x37, ex37⟩ : ∃ y : Int32, y = y15 + 1 := ⟨_, rfl⟩
              have tx37 : x37.toInt = y15.toInt + 1 := z_tadd ex37 rfl z_l1 (by omega) (by omega)
              refine lv_iinc (v := x37) (lv' := [(3, .int x37), (4, .int y14), (0, .ref (ad 0)), (1, .int a1), (2, .int a2)]) hx hb dX12_stays_55 hl (k := 1) rfl (by rw [ex37]; rfl) (by decide) rfl (fun ls hl => ?_)
              obtain ⟨x38, ex38⟩ : ∃ y : Int32, y = y14 + 1 := ⟨_, rfl⟩
              have tx38 : x38.toInt = y14.toInt + 1 := z_tadd ex38 rfl z_l1 (by omega) (by omega)
              refine lv_iinc (v := x38) (lv' := [(4, .int x38), (3, .int x37), (0, .ref (ad 0)), (1, .int a1), (2, .int a2)]) hx hb dX12_stays_58 hl (k := 1) rfl (by rw [ex38]; rfl) (by decide) rfl (fun ls hl => ?_)
              refine lv_goto (tgt := 29) hx hb dX12_stays_61 (by decide) ?_
              exact lp13ih x38 x37 _ _ _ (by omega) (by omega) (by omega) (by omega) (by have c9 := z_clt (x := y14) rfl (by omega); have d9 := hE12 y14.toNatClampNeg (by omega); have n9 : (I9 5 y14.toNatClampNeg).toInt = zd_NM I y14.toNatClampNeg := (by rw [fI9 5 _ (z_wr_c (by decide))]; rfl); exact ⟨by rw [(show x38.toNatClampNeg = y14.toNatClampNeg + 1 from z_cln (by omega) (by omega)), zd_C_y (by omega)]; omega, by omega, by omega⟩) hW hS (lv_sub hl [0, 1, 2, 3, 4] rfl)
      exact lp13 4294967296 (0) (0) _ _ _ (z_m0u _) (by rw [z_l0]; omega) (by rw [z_l0]; omega) (by rw [z_l0]; omega) ⟨by rw [show (0 : Int32).toNatClampNeg = 0 by decide]; rfl, by omega, by have q0 := z_l0; have q9 := hma.2.1; omega⟩ hW hS (lv_sub hl [0, 1, 2, 3, 4] rfl)
    · have h39 := h6
      refine lv_if_ne (tgt := 18) hx hb dX12_stays_13 (by decide) (fun c40 => absurd (by decide) c40) (fun c40 => ?_)
      refine lv_iconst (v := (-1)) hx hb dX12_stays_16 (by decide) ?_
      exact z_iret hx hb hr hK hS (Nat.le_of_ble_eq_true rfl) (Nat.le_of_ble_eq_true rfl) hlocks dX12_stays_17 (shM, ad, I, J, PM ad) hW ⟨I, J, rfl, ⟨(by show 0 ≤ (I 0 0).toInt ∧ (I 0 0).toInt ≤ 719; exact hma.1), (by show 0 ≤ (I 0 1).toInt ∧ (I 0 1).toInt ≤ 30; exact hma.2.1), (by show 0 ≤ (I 0 2).toInt ∧ (I 0 2).toInt ≤ 200; exact hma.2.2)⟩, ⟨(by show 0 ≤ (I 0 13).toInt ∧ (I 0 13).toInt ≤ 12; exact hmb.1), (by show 0 ≤ (I 0 14).toInt ∧ (I 0 14).toInt ≤ 288; exact hmb.2)⟩, hAtf, hAtm, hNd, hAsf, hAst, hAsc, hEx, z_fr_0, (Or.inr ⟨by omega, by decide⟩)⟩
  · have h41 := h1
    have z42 := z_l0
    have z43 := z_l2
    refine lv_if_eq (tgt := 16) hx hb dX12_stays_6 (by decide) (fun c44 => ?_) (fun c44 => absurd (by decide) c44)
    refine lv_iconst (v := (-1)) hx hb dX12_stays_16 (by decide) ?_
    exact z_iret hx hb hr hK hS (Nat.le_of_ble_eq_true rfl) (Nat.le_of_ble_eq_true rfl) hlocks dX12_stays_17 (shM, ad, I, J, PM ad) hW ⟨I, J, rfl, ⟨(by show 0 ≤ (I 0 0).toInt ∧ (I 0 0).toInt ≤ 719; exact hma.1), (by show 0 ≤ (I 0 1).toInt ∧ (I 0 1).toInt ≤ 30; exact hma.2.1), (by show 0 ≤ (I 0 2).toInt ∧ (I 0 2).toInt ≤ 200; exact hma.2.2)⟩, ⟨(by show 0 ≤ (I 0 13).toInt ∧ (I 0 13).toInt ≤ 12; exact hmb.1), (by show 0 ≤ (I 0 14).toInt ∧ (I 0 14).toInt ≤ 288; exact hmb.2)⟩, hAtf, hAtm, hNd, hAsf, hAst, hAsc, hEx, z_fr_0, (Or.inr ⟨by omega, by decide⟩)⟩
end SG60ze
section SG60zf


/-! the counts -/
noncomputable def zt_n (f : Nat → Bool) : Nat → Int
  | 0 => 0
  | n + 1 => zt_n f n + if f n = true then 1 else 0
theorem zt_n_y {f : Nat → Bool} {n : Nat} (h : f n = true) : zt_n f (n + 1) = zt_n f n + 1 := by rw [zt_n, if_pos h]
theorem zt_n_n {f : Nat → Bool} {n : Nat} (h : f n = false) : zt_n f (n + 1) = zt_n f n := by rw [zt_n, if_neg (by rw [h]; decide), Int.add_zero]
theorem zt_n_c {f g : Nat → Bool} : ∀ n : Nat, (∀ j, j < n → g j = f j) → zt_n g n = zt_n f n
  | 0, _ => rfl
  | n + 1, h => by rw [zt_n, zt_n, zt_n_c n (fun j hj => h j (by omega)), h n (Nat.lt_succ_self n)]
noncomputable def zt_G (I : z_I) (j : Nat) : Bool := decide ((I 36 j).toInt = 0)
noncomputable def zt_O (I : z_I) (j : Nat) : Bool := decide (0 < (I 36 j).toInt)
noncomputable def zt_g (I : z_I) (j : Nat) : Bool := decide ((I 40 j).toInt = 0)
noncomputable def zt_o (I : z_I) (j : Nat) : Bool := decide (0 < (I 40 j).toInt)
theorem zt_G_y {I : z_I} {n : Nat} (h : (I 36 n).toInt = 0) : zt_n (zt_G I) (n + 1) = zt_n (zt_G I) n + 1 := zt_n_y (decide_eq_true h)
theorem zt_G_n {I : z_I} {n : Nat} (h : ¬ (I 36 n).toInt = 0) : zt_n (zt_G I) (n + 1) = zt_n (zt_G I) n := zt_n_n (decide_eq_false h)
theorem zt_O_y {I : z_I} {n : Nat} (h : 0 < (I 36 n).toInt) : zt_n (zt_O I) (n + 1) = zt_n (zt_O I) n + 1 := zt_n_y (decide_eq_true h)
theorem zt_O_n {I : z_I} {n : Nat} (h : ¬ 0 < (I 36 n).toInt) : zt_n (zt_O I) (n + 1) = zt_n (zt_O I) n := zt_n_n (decide_eq_false h)
theorem zt_g_y {I : z_I} {n : Nat} (h : (I 40 n).toInt = 0) : zt_n (zt_g I) (n + 1) = zt_n (zt_g I) n + 1 := zt_n_y (decide_eq_true h)
theorem zt_g_n {I : z_I} {n : Nat} (h : ¬ (I 40 n).toInt = 0) : zt_n (zt_g I) (n + 1) = zt_n (zt_g I) n := zt_n_n (decide_eq_false h)
theorem zt_o_y {I : z_I} {n : Nat} (h : 0 < (I 40 n).toInt) : zt_n (zt_o I) (n + 1) = zt_n (zt_o I) n + 1 := zt_n_y (decide_eq_true h)
theorem zt_o_n {I : z_I} {n : Nat} (h : ¬ 0 < (I 40 n).toInt) : zt_n (zt_o I) (n + 1) = zt_n (zt_o I) n := zt_n_n (decide_eq_false h)
noncomputable def zt_t (v : Nat → Int) (w r : Int) : Prop := (0 ≤ w ∧ w ≤ 12 ∧ r = v w.toNat) ∨ (¬ (0 ≤ w ∧ w ≤ 12) ∧ r = -1)
theorem zt_t_i {v : Nat → Int} {w r : Int} {k : Nat} (hw : w = (k : Int)) (hk : k ≤ 12) (hr : r = v k) : zt_t v w r := Or.inl ⟨by omega, by omega, by subst hw; exact hr⟩
theorem zt_t_u {v v1 : Nat → Int} {w r r1 : Int} (h : zt_t v w r) (h1 : zt_t v1 w r1) (e : ∀ k, v1 k = v k) : r1 = r := by
  rcases h with ⟨a1, a2, a3⟩ | ⟨a1, a2⟩ <;> rcases h1 with ⟨b1, b2, b3⟩ | ⟨b1, b2⟩
  · rw [a3, b3, e]
  · exact absurd ⟨a1, a2⟩ b1
  · exact absurd ⟨b1, b2⟩ a1
  · rw [a2, b2]
noncomputable def zt_x (I : z_I) (k : Nat) : Int := if k = 0 then (I 0 0).toInt else if k = 1 then (I 1 5).toInt else if k = 2 then (I 1 11).toInt else if k = 3 then (I 21 2).toInt else if k = 4 then (I 26 3).toInt else if k = 5 then (I 0 8).toInt else if k = 6 then (I 30 8).toInt else if k = 7 then zt_n (zt_G I) (I 30 8).toNatClampNeg else if k = 8 then zt_n (zt_O I) (I 30 8).toNatClampNeg else if k = 9 then (I 26 4).toInt else if k = 10 then (I 41 10).toInt else if k = 11 then (I 60 9).toInt else (I 12 1).toInt
noncomputable def zt_m (I : z_I) (k : Nat) : Int := if k = 0 then (I 0 0).toInt else if k = 1 then (I 0 1).toInt else if k = 2 then (I 0 2).toInt else if k = 3 then (I 0 13).toInt else if k = 4 then (I 0 50).toInt else if k = 5 then (I 0 54).toInt else if k = 6 then (I 0 55).toInt else if k = 7 then zt_n (zt_g I) (I 0 55).toNatClampNeg else if k = 8 then zt_n (zt_o I) (I 0 55).toNatClampNeg else if k = 9 then (I 0 51).toInt else if k = 10 then (I 0 75).toInt else if k = 11 then (I 0 83).toInt else (I 0 31).toInt
theorem zt_e {Ix Im : z_I} (h0 : (Im 0 0).toInt = (Ix 0 0).toInt) (h1 : (Im 0 1).toInt = (Ix 1 5).toInt) (h2 : (Im 0 2).toInt = (Ix 1 11).toInt) (h3 : (Im 0 13).toInt = (Ix 21 2).toInt) (h4 : (Im 0 50).toInt = (Ix 26 3).toInt) (h5 : (Im 0 54).toInt = (Ix 0 8).toInt) (h6 : (Im 0 55).toInt = (Ix 30 8).toInt) (h9 : (Im 0 51).toInt = (Ix 26 4).toInt) (h10 : (Im 0 75).toInt = (Ix 41 10).toInt) (h11 : (Im 0 83).toInt = (Ix 60 9).toInt) (h12 : (Im 0 31).toInt = (Ix 12 1).toInt) (hv : ∀ j, j < (Ix 30 8).toNatClampNeg → Ix 36 j = Im 40 j) (k : Nat) : zt_m Im k = zt_x Ix k := by
  have hn : (Im 0 55).toNatClampNeg = (Ix 30 8).toNatClampNeg := congrArg Int.toNat h6
  have hg : zt_n (zt_g Im) (Im 0 55).toNatClampNeg = zt_n (zt_G Ix) (Ix 30 8).toNatClampNeg := by
    rw [hn]
    exact zt_n_c _ (fun j hj => by unfold zt_g zt_G; rw [hv j hj])
  have ho : zt_n (zt_o Im) (Im 0 55).toNatClampNeg = zt_n (zt_O Ix) (Ix 30 8).toNatClampNeg := by
    rw [hn]
    exact zt_n_c _ (fun j hj => by unfold zt_o zt_O; rw [hv j hj])
  unfold zt_m zt_x
  rw [hg, ho, h0, h1, h2, h3, h4, h5, h6, h9, h10, h11, h12]
set_option maxHeartbeats 8000000 in
set_option maxRecDepth 100000 in
theorem sx_X8_judgedGood_p (l : Launch) (G : z_G) (ad : Nat → Nat) (c : z_C) (I : z_I) (hP : z_iP I) : z_M l yX8_judgedGood wsX8_judgedGood { frames := 1, cells := 0, slots := 0, locals := 12 } [.ref (ad 30)] G (shC c, ad, I, JX, PC c ad) (fun r u1 => u1 = (shC c, ad, I, JX, PC c ad) ∧ (r.toInt = zt_n (zt_G I) (I 30 8).toNatClampNeg)) 0 0 := by
  intro sz
  refine z_headQ (cc := cX8_judgedGood) (maxL := 3) (ret := (some .int)) (by decide) rfl (Nat.le_of_ble_eq_true rfl) ?_
  intro p e s m below meth c0 ls hIn hK hsz hW hl
  obtain ⟨hx, hb, hr, hml, hown, hts, hlocks, hname⟩ := hIn
  subst hsz
  have hown : s.vm.findClass RX8 = some m.cls := hown
  have hA : ∀ q : Nat, s.heap.size ≤ q → z_A (shC c, ad, I, JX, PC c ad) s.heap.size q := fun q h => Or.inr h
  generalize hAe : z_A (shC c, ad, I, JX, PC c ad) s.heap.size = A at *
  have hS : va_S A s.heap s.heap [] := va_S.rf
  have hl : lv_has ls 3 [(0, .ref (ad 30))] := hl
  refine lv_iconst (v := 0) hx hb dX8_judgedGood_0 (by decide) ?_
  refine lv_istore_n (lv' := [(1, .int 0), (0, .ref (ad 30))]) hx hb dX8_judgedGood_1 rfl hl (by decide) rfl (fun ls hl => ?_)
  refine lv_iconst (v := 0) hx hb dX8_judgedGood_2 (by decide) ?_
  refine lv_istore_n (lv' := [(2, .int 0), (1, .int 0), (0, .ref (ad 30))]) hx hb dX8_judgedGood_3 rfl hl (by decide) rfl (fun ls hl => ?_)
  have lp1 : ∀ (f : Nat) (y2 : Int32) (y3 : Int32) (H : Heap) (locs : List Loc) (ls : Array Slot), (2147483647 < y2.toInt + (f : Int)) → (0 ≤ y2.toInt) → (0 ≤ y3.toInt) → (y3.toInt ≤ 300) → (y3.toInt = zt_n (zt_G I) y2.toNatClampNeg ∧ y3.toInt ≤ y2.toInt ∧ y2.toInt ≤ (I 30 8).toInt) → z_W G A (shC c, ad, I, JX, PC c ad) H → va_S A s.heap H locs → lv_has ls 3 [(2, .int y2), (1, .int y3), (0, .ref (ad 30))] → W p l e (headSpec wsX8_judgedGood { frames := 1, cells := 0, slots := 0, locals := 12 }).room s m ([.ref (ad 30)] : List Value).toArray below meth c0 H locs 0 0 (MQ below (va_Qi (fun (r : Int32) (u1 : z_U) => u1 = (shC c, ad, I, JX, PC c ad) ∧ (r.toInt = zt_n (zt_G I) (I 30 8).toNatClampNeg)) (z_B G A) A) ([.ref (ad 30)] : List Value).toArray s 0 0 A) (F0 m 4 ls []) := by
    intro f
    induction f with
    | zero => intro y2 y3 H locs ls lp1m lp1l2 lp1l1 lp1u1 lp1B hW hS hl; exact absurd lp1m (by have := Int32.toInt_lt y2; have := Int32.le_toInt y2; omega)
    | succ f lp1ih =>
      intro y2 y3 H locs ls lp1m lp1l2 lp1l1 lp1u1 lp1B hW hS hl
      refine lv_iload_n hx hb dX8_judgedGood_4 rfl (lv_at hl 0 rfl) ?_
      refine lv_aload_n hx hb dX8_judgedGood_5 rfl (lv_at hl 2 rfl) ?_
      have r4 : 0 ≤ (I 30 8).toInt ∧ (I 30 8).toInt ≤ 300 := hP
      refine z_get (T := TX8) (N := 9) (ci := 8) (i := 30) (v := .int (I 30 8)) hx hb hts zj_X8_judgedGood_X8 hown hK hW rfl rfl 8 (by decide) (hts (.fieldLink RX8 36 "PetrolBoard$Pours" "number" "I") (me_s (me_l (List.mem_of_getElem? (i := 0) rfl)))) (fun _ h => h) rfl dX8_judgedGood_6 ?_
      refine lv_icmp_ge (tgt := 42) hx hb dX8_judgedGood_9 (by decide) (fun c5 => ?_) (fun c5 => ?_)
      · have g6 := z_f_ge rfl rfl c5
        have b7 := Int32.toInt_lt y2
        refine lv_iload_n hx hb dX8_judgedGood_42 rfl (lv_at hl 1 rfl) ?_
        exact z_iret hx hb hr hK hS (Nat.le_of_ble_eq_true rfl) (Nat.le_of_ble_eq_true rfl) hlocks dX8_judgedGood_43 (shC c, ad, I, JX, PC c ad) hW ⟨rfl, (by have q1 := z_clt (x := y2) rfl (by omega); have q2 := z_clt (x := (I 30 8)) rfl (by omega); rw [show (I 30 8).toNatClampNeg = y2.toNatClampNeg by omega]; exact lp1B.1)⟩
      · have g8 := z_f_nge rfl rfl c5
        have b9 := Int32.toInt_lt y2
        refine lv_iload_n hx hb dX8_judgedGood_12 rfl (lv_at hl 0 rfl) ?_
        refine lv_sipush (v := 300) hx hb dX8_judgedGood_13 (by decide) ?_
        refine lv_icmp_ge (tgt := 42) hx hb dX8_judgedGood_16 (by decide) (fun c10 => (by have g := z_f_ge rfl z_l300 c10; omega)) (fun c10 => ?_)
        have g11 := z_f_nge rfl z_l300 c10
        refine lv_iload_n hx hb dX8_judgedGood_19 rfl (lv_at hl 1 rfl) ?_
        refine lv_aload_n hx hb dX8_judgedGood_20 rfl (lv_at hl 2 rfl) ?_
        refine z_get (T := TX8) (N := 9) (ci := 8) (i := 30) (v := .ref (ad 36)) hx hb hts zj_X8_judgedGood_X8 hown hK hW rfl rfl 5 (by decide) (hts (.fieldLink RX8 27 "PetrolBoard$Pours" "verdict" "[I") (me_s (me_l (List.mem_of_getElem? (i := 1) rfl)))) (fun _ h => h) rfl dX8_judgedGood_21 ?_
        refine lv_iload_n hx hb dX8_judgedGood_24 rfl (lv_at hl 0 rfl) ?_
        refine z_iald (i := 36) hx hb hK hW rfl (z_ix rfl (by omega) (by omega)) dX8_judgedGood_25 ?_
        refine lv_topi (fun x12 ex12 => ?_)
        have hv13 : (I 36 y2.toNatClampNeg).toInt = x12.toInt := by rw [ex12]
        have hz14 := z_clt (x := y2) rfl (by omega)
        refine lv_if_ne (tgt := 33) hx hb dX8_judgedGood_26 (by decide) (fun c15 => ?_) (fun c15 => ?_)
        · have g16 := z_f_ne rfl z_l0 c15
          have b17 := Int32.toInt_lt x12
          refine lv_iconst (v := 0) hx hb dX8_judgedGood_33 (by decide) ?_
          refine lv_iadd hx hb dX8_judgedGood_34 ?_
          refine lv_topi (fun x18 ex18 => ?_)
          have tx18 : x18.toInt = y3.toInt + 0 := z_tadd ex18 rfl z_l0 (by omega) (by omega)
          refine lv_istore_n (lv' := [(1, .int x18), (2, .int y2), (0, .ref (ad 30))]) hx hb dX8_judgedGood_35 rfl hl (by decide) rfl (fun ls hl => ?_)
          obtain ⟨x19, ex19⟩ : ∃ y : Int32, y = y2 + 1 := ⟨_, rfl⟩
          have tx19 : x19.toInt = y2.toInt + 1 := z_tadd ex19 rfl z_l1 (by omega) (by omega)
          refine lv_iinc (v := x19) (lv' := [(2, .int x19), (1, .int x18), (0, .ref (ad 30))]) hx hb dX8_judgedGood_36 hl (k := 1) rfl (by rw [ex19]; rfl) (by decide) rfl (fun ls hl => ?_)
          refine lv_goto (tgt := 4) hx hb dX8_judgedGood_39 (by decide) ?_
          exact lp1ih x19 x18 _ _ _ (by omega) (by omega) (by omega) (by omega) ⟨by rw [show x19.toNatClampNeg = y2.toNatClampNeg + 1 from z_cln (by omega) (by omega)]; first | (rw [zt_G_y (by omega)]; omega) | (rw [zt_G_n (by omega)]; omega), by omega, by omega⟩ hW hS (lv_sub hl [0, 1, 2] rfl)
        · have g20 := z_f_eq rfl z_l0 c15
          have b21 := Int32.toInt_lt x12
          refine lv_iconst (v := 1) hx hb dX8_judgedGood_29 (by decide) ?_
          refine lv_goto (tgt := 34) hx hb dX8_judgedGood_30 (by decide) ?_
          refine lv_iadd hx hb dX8_judgedGood_34 ?_
          refine lv_topi (fun x22 ex22 => ?_)
          have tx22 : x22.toInt = y3.toInt + 1 := z_tadd ex22 rfl z_l1 (by omega) (by omega)
          refine lv_istore_n (lv' := [(1, .int x22), (2, .int y2), (0, .ref (ad 30))]) hx hb dX8_judgedGood_35 rfl hl (by decide) rfl (fun ls hl => ?_)
          obtain ⟨x23, ex23⟩ : ∃ y : Int32, y = y2 + 1 := ⟨_, rfl⟩
          have tx23 : x23.toInt = y2.toInt + 1 := z_tadd ex23 rfl z_l1 (by omega) (by omega)
          refine lv_iinc (v := x23) (lv' := [(2, .int x23), (1, .int x22), (0, .ref (ad 30))]) hx hb dX8_judgedGood_36 hl (k := 1) rfl (by rw [ex23]; rfl) (by decide) rfl (fun ls hl => ?_)
          refine lv_goto (tgt := 4) hx hb dX8_judgedGood_39 (by decide) ?_
          exact lp1ih x23 x22 _ _ _ (by omega) (by omega) (by omega) (by omega) ⟨by rw [show x23.toNatClampNeg = y2.toNatClampNeg + 1 from z_cln (by omega) (by omega)]; first | (rw [zt_G_y (by omega)]; omega) | (rw [zt_G_n (by omega)]; omega), by omega, by omega⟩ hW hS (lv_sub hl [0, 1, 2] rfl)
  exact lp1 4294967296 (0) (0) _ _ _ (z_m0u _) (by rw [z_l0]; omega) (by rw [z_l0]; omega) (by rw [z_l0]; omega) ⟨by rw [show (0 : Int32).toNatClampNeg = 0 by decide]; rfl, by omega, by have q0 := z_l0; omega⟩ hW hS (lv_sub hl [0, 1, 2] rfl)
set_option maxHeartbeats 8000000 in
set_option maxRecDepth 100000 in
theorem sx_X8_judgedOtherwise_p (l : Launch) (G : z_G) (ad : Nat → Nat) (c : z_C) (I : z_I) (hP : z_iP I) : z_M l yX8_judgedOtherwise wsX8_judgedOtherwise { frames := 1, cells := 0, slots := 0, locals := 12 } [.ref (ad 30)] G (shC c, ad, I, JX, PC c ad) (fun r u1 => u1 = (shC c, ad, I, JX, PC c ad) ∧ (r.toInt = zt_n (zt_O I) (I 30 8).toNatClampNeg)) 0 0 := by
  intro sz
  refine z_headQ (cc := cX8_judgedOtherwise) (maxL := 3) (ret := (some .int)) (by decide) rfl (Nat.le_of_ble_eq_true rfl) ?_
  intro p e s m below meth c0 ls hIn hK hsz hW hl
  obtain ⟨hx, hb, hr, hml, hown, hts, hlocks, hname⟩ := hIn
  subst hsz
  have hown : s.vm.findClass RX8 = some m.cls := hown
  have hA : ∀ q : Nat, s.heap.size ≤ q → z_A (shC c, ad, I, JX, PC c ad) s.heap.size q := fun q h => Or.inr h
  generalize hAe : z_A (shC c, ad, I, JX, PC c ad) s.heap.size = A at *
  have hS : va_S A s.heap s.heap [] := va_S.rf
  have hl : lv_has ls 3 [(0, .ref (ad 30))] := hl
  refine lv_iconst (v := 0) hx hb dX8_judgedOtherwise_0 (by decide) ?_
  refine lv_istore_n (lv' := [(1, .int 0), (0, .ref (ad 30))]) hx hb dX8_judgedOtherwise_1 rfl hl (by decide) rfl (fun ls hl => ?_)
  refine lv_iconst (v := 0) hx hb dX8_judgedOtherwise_2 (by decide) ?_
  refine lv_istore_n (lv' := [(2, .int 0), (1, .int 0), (0, .ref (ad 30))]) hx hb dX8_judgedOtherwise_3 rfl hl (by decide) rfl (fun ls hl => ?_)
  have lp1 : ∀ (f : Nat) (y2 : Int32) (y3 : Int32) (H : Heap) (locs : List Loc) (ls : Array Slot), (2147483647 < y2.toInt + (f : Int)) → (0 ≤ y2.toInt) → (0 ≤ y3.toInt) → (y3.toInt ≤ 300) → (y3.toInt = zt_n (zt_O I) y2.toNatClampNeg ∧ y3.toInt ≤ y2.toInt ∧ y2.toInt ≤ (I 30 8).toInt) → z_W G A (shC c, ad, I, JX, PC c ad) H → va_S A s.heap H locs → lv_has ls 3 [(2, .int y2), (1, .int y3), (0, .ref (ad 30))] → W p l e (headSpec wsX8_judgedOtherwise { frames := 1, cells := 0, slots := 0, locals := 12 }).room s m ([.ref (ad 30)] : List Value).toArray below meth c0 H locs 0 0 (MQ below (va_Qi (fun (r : Int32) (u1 : z_U) => u1 = (shC c, ad, I, JX, PC c ad) ∧ (r.toInt = zt_n (zt_O I) (I 30 8).toNatClampNeg)) (z_B G A) A) ([.ref (ad 30)] : List Value).toArray s 0 0 A) (F0 m 4 ls []) := by
    intro f
    induction f with
    | zero => intro y2 y3 H locs ls lp1m lp1l2 lp1l1 lp1u1 lp1B hW hS hl; exact absurd lp1m (by have := Int32.toInt_lt y2; have := Int32.le_toInt y2; omega)
    | succ f lp1ih =>
      intro y2 y3 H locs ls lp1m lp1l2 lp1l1 lp1u1 lp1B hW hS hl
      refine lv_iload_n hx hb dX8_judgedOtherwise_4 rfl (lv_at hl 0 rfl) ?_
      refine lv_aload_n hx hb dX8_judgedOtherwise_5 rfl (lv_at hl 2 rfl) ?_
      have r4 : 0 ≤ (I 30 8).toInt ∧ (I 30 8).toInt ≤ 300 := hP
      refine z_get (T := TX8) (N := 9) (ci := 8) (i := 30) (v := .int (I 30 8)) hx hb hts zj_X8_judgedOtherwise_X8 hown hK hW rfl rfl 8 (by decide) (hts (.fieldLink RX8 36 "PetrolBoard$Pours" "number" "I") (me_s (me_l (List.mem_of_getElem? (i := 0) rfl)))) (fun _ h => h) rfl dX8_judgedOtherwise_6 ?_
      refine lv_icmp_ge (tgt := 42) hx hb dX8_judgedOtherwise_9 (by decide) (fun c5 => ?_) (fun c5 => ?_)
      · have g6 := z_f_ge rfl rfl c5
        have b7 := Int32.toInt_lt y2
        refine lv_iload_n hx hb dX8_judgedOtherwise_42 rfl (lv_at hl 1 rfl) ?_
        exact z_iret hx hb hr hK hS (Nat.le_of_ble_eq_true rfl) (Nat.le_of_ble_eq_true rfl) hlocks dX8_judgedOtherwise_43 (shC c, ad, I, JX, PC c ad) hW ⟨rfl, (by have q1 := z_clt (x := y2) rfl (by omega); have q2 := z_clt (x := (I 30 8)) rfl (by omega); rw [show (I 30 8).toNatClampNeg = y2.toNatClampNeg by omega]; exact lp1B.1)⟩
      · have g8 := z_f_nge rfl rfl c5
        have b9 := Int32.toInt_lt y2
        refine lv_iload_n hx hb dX8_judgedOtherwise_12 rfl (lv_at hl 0 rfl) ?_
        refine lv_sipush (v := 300) hx hb dX8_judgedOtherwise_13 (by decide) ?_
        refine lv_icmp_ge (tgt := 42) hx hb dX8_judgedOtherwise_16 (by decide) (fun c10 => (by have g := z_f_ge rfl z_l300 c10; omega)) (fun c10 => ?_)
        have g11 := z_f_nge rfl z_l300 c10
        refine lv_iload_n hx hb dX8_judgedOtherwise_19 rfl (lv_at hl 1 rfl) ?_
        refine lv_aload_n hx hb dX8_judgedOtherwise_20 rfl (lv_at hl 2 rfl) ?_
        refine z_get (T := TX8) (N := 9) (ci := 8) (i := 30) (v := .ref (ad 36)) hx hb hts zj_X8_judgedOtherwise_X8 hown hK hW rfl rfl 5 (by decide) (hts (.fieldLink RX8 27 "PetrolBoard$Pours" "verdict" "[I") (me_s (me_l (List.mem_of_getElem? (i := 1) rfl)))) (fun _ h => h) rfl dX8_judgedOtherwise_21 ?_
        refine lv_iload_n hx hb dX8_judgedOtherwise_24 rfl (lv_at hl 0 rfl) ?_
        refine z_iald (i := 36) hx hb hK hW rfl (z_ix rfl (by omega) (by omega)) dX8_judgedOtherwise_25 ?_
        refine lv_topi (fun x12 ex12 => ?_)
        have hv13 : (I 36 y2.toNatClampNeg).toInt = x12.toInt := by rw [ex12]
        have hz14 := z_clt (x := y2) rfl (by omega)
        refine lv_if_le (tgt := 33) hx hb dX8_judgedOtherwise_26 (by decide) (fun c15 => ?_) (fun c15 => ?_)
        · have g16 := z_f_le rfl z_l0 c15
          have b17 := Int32.toInt_lt x12
          refine lv_iconst (v := 0) hx hb dX8_judgedOtherwise_33 (by decide) ?_
          refine lv_iadd hx hb dX8_judgedOtherwise_34 ?_
          refine lv_topi (fun x18 ex18 => ?_)
          have tx18 : x18.toInt = y3.toInt + 0 := z_tadd ex18 rfl z_l0 (by omega) (by omega)
          refine lv_istore_n (lv' := [(1, .int x18), (2, .int y2), (0, .ref (ad 30))]) hx hb dX8_judgedOtherwise_35 rfl hl (by decide) rfl (fun ls hl => ?_)
          obtain ⟨x19, ex19⟩ : ∃ y : Int32, y = y2 + 1 := ⟨_, rfl⟩
          have tx19 : x19.toInt = y2.toInt + 1 := z_tadd ex19 rfl z_l1 (by omega) (by omega)
          refine lv_iinc (v := x19) (lv' := [(2, .int x19), (1, .int x18), (0, .ref (ad 30))]) hx hb dX8_judgedOtherwise_36 hl (k := 1) rfl (by rw [ex19]; rfl) (by decide) rfl (fun ls hl => ?_)
          refine lv_goto (tgt := 4) hx hb dX8_judgedOtherwise_39 (by decide) ?_
          exact lp1ih x19 x18 _ _ _ (by omega) (by omega) (by omega) (by omega) ⟨by rw [show x19.toNatClampNeg = y2.toNatClampNeg + 1 from z_cln (by omega) (by omega)]; first | (rw [zt_O_y (by omega)]; omega) | (rw [zt_O_n (by omega)]; omega), by omega, by omega⟩ hW hS (lv_sub hl [0, 1, 2] rfl)
        · have g20 := z_f_nle rfl z_l0 c15
          have b21 := Int32.toInt_lt x12
          refine lv_iconst (v := 1) hx hb dX8_judgedOtherwise_29 (by decide) ?_
          refine lv_goto (tgt := 34) hx hb dX8_judgedOtherwise_30 (by decide) ?_
          refine lv_iadd hx hb dX8_judgedOtherwise_34 ?_
          refine lv_topi (fun x22 ex22 => ?_)
          have tx22 : x22.toInt = y3.toInt + 1 := z_tadd ex22 rfl z_l1 (by omega) (by omega)
          refine lv_istore_n (lv' := [(1, .int x22), (2, .int y2), (0, .ref (ad 30))]) hx hb dX8_judgedOtherwise_35 rfl hl (by decide) rfl (fun ls hl => ?_)
          obtain ⟨x23, ex23⟩ : ∃ y : Int32, y = y2 + 1 := ⟨_, rfl⟩
          have tx23 : x23.toInt = y2.toInt + 1 := z_tadd ex23 rfl z_l1 (by omega) (by omega)
          refine lv_iinc (v := x23) (lv' := [(2, .int x23), (1, .int x22), (0, .ref (ad 30))]) hx hb dX8_judgedOtherwise_36 hl (k := 1) rfl (by rw [ex23]; rfl) (by decide) rfl (fun ls hl => ?_)
          refine lv_goto (tgt := 4) hx hb dX8_judgedOtherwise_39 (by decide) ?_
          exact lp1ih x23 x22 _ _ _ (by omega) (by omega) (by omega) (by omega) ⟨by rw [show x23.toNatClampNeg = y2.toNatClampNeg + 1 from z_cln (by omega) (by omega)]; first | (rw [zt_O_y (by omega)]; omega) | (rw [zt_O_n (by omega)]; omega), by omega, by omega⟩ hW hS (lv_sub hl [0, 1, 2] rfl)
  exact lp1 4294967296 (0) (0) _ _ _ (z_m0u _) (by rw [z_l0]; omega) (by rw [z_l0]; omega) (by rw [z_l0]; omega) ⟨by rw [show (0 : Int32).toNatClampNeg = 0 by decide]; rfl, by omega, by have q0 := z_l0; omega⟩ hW hS (lv_sub hl [0, 1, 2] rfl)
set_option maxHeartbeats 8000000 in
set_option maxRecDepth 100000 in
theorem sx_X11_count_p (l : Launch) (G : z_G) (ad : Nat → Nat) (c : z_C) (I : z_I) (hH : z_iH I) (hR : z_iR I) (hO : z_iO I) (hP : z_iP I) (hC : z_iC I) (hL : z_iL I) (hJ : z_iJ I) (hB : z_iB I) (a1 : Int32) (hc : z_okc c) (h10 : c.1 ≤ 10) : z_M l yX11_count wsX11_count { frames := 2, cells := 0, slots := 0, locals := 34 } [.ref (ad 0), .int a1] G (shC c, ad, I, JX, PC c ad) (fun r u1 => u1 = (shC c, ad, I, JX, PC c ad) ∧ (zt_t (zt_x I) a1.toInt r.toInt)) 0 0 := by
  intro sz
  refine z_headQ (cc := cX11_count) (maxL := 2) (ret := (some .int)) (by decide) rfl (Nat.le_of_ble_eq_true rfl) ?_
  intro p e s m below meth c0 ls hIn hK hsz hW hl
  obtain ⟨hx, hb, hr, hml, hown, hts, hlocks, hname⟩ := hIn
  subst hsz
  have hown : s.vm.findClass RX11 = some m.cls := hown
  have hA : ∀ q : Nat, s.heap.size ≤ q → z_A (shC c, ad, I, JX, PC c ad) s.heap.size q := fun q h => Or.inr h
  generalize hAe : z_A (shC c, ad, I, JX, PC c ad) s.heap.size = A at *
  have hS : va_S A s.heap s.heap [] := va_S.rf
  have hl : lv_has ls 2 [(0, .ref (ad 0)), (1, .int a1)] := hl
  refine lv_iload_n hx hb dX11_count_0 rfl (lv_at hl 1 rfl) ?_
  by_cases q1 : a1 = 0
  · refine lv_tableIn (tgt := 68) hx hb dX11_count_1 (by rw [q1]; decide) (by rw [q1]; decide) (by rw [q1]; rfl) (by decide) ?_
    refine lv_aload_n hx hb dX11_count_68 rfl (lv_at hl 0 rfl) ?_
    have r2 : 0 ≤ (I 0 0).toInt ∧ (I 0 0).toInt ≤ 719 := hB.1
    refine z_get (T := TX11) (N := 13) (ci := 11) (i := 0) (v := .int (I 0 0)) hx hb hts zj_X11_count_X11 hown hK hW rfl rfl 0 (by decide) (hts (.fieldLink RX11 85 "PetrolBoard" "today" "I") (me_s (me_l (me_l (me_l (me_l (me_l (me_l (me_l (me_l (me_l (List.mem_of_getElem? (i := 0) rfl)))))))))))) (fun _ h => h) rfl dX11_count_69 ?_
    exact z_iret hx hb hr hK hS (Nat.le_of_ble_eq_true rfl) (Nat.le_of_ble_eq_true rfl) hlocks dX11_count_72 (shC c, ad, I, JX, PC c ad) hW ⟨rfl, (zt_t_i (k := 0) (show a1.toInt = 0 by rw [‹a1 = 0›]; decide) (by decide) rfl)⟩
  by_cases q3 : a1 = 1
  · refine lv_tableIn (tgt := 73) hx hb dX11_count_1 (by rw [q3]; decide) (by rw [q3]; decide) (by rw [q3]; rfl) (by decide) ?_
    refine lv_aload_n hx hb dX11_count_73 rfl (lv_at hl 0 rfl) ?_
    refine z_get (T := TX11) (N := 13) (ci := 11) (i := 0) (v := .ref (ad 1)) hx hb hts zj_X11_count_X11 hown hK hW rfl rfl 2 (by decide) (hts (.fieldLink RX11 16 "PetrolBoard" "holders" "LPetrolBoard$Holders;") (me_s (me_l (me_l (me_l (me_l (me_l (me_l (me_l (me_l (me_l (List.mem_of_getElem? (i := 1) rfl)))))))))))) (fun _ h => h) rfl dX11_count_74 ?_
    have r4 : 0 ≤ (I 1 5).toInt ∧ (I 1 5).toInt ≤ 30 := hH.1
    refine z_get (T := TX2) (N := 12) (ci := 2) (i := 1) (v := .int (I 1 5)) hx hb hts zj_X11_count_X2 hown hK hW rfl rfl 5 (by decide) (hts (.fieldLink RX11 373 "PetrolBoard$Holders" "number" "I") (me_s (me_l (me_l (me_l (me_l (me_l (me_l (me_l (me_l (me_l (List.mem_of_getElem? (i := 2) rfl)))))))))))) (fun _ h => h) rfl dX11_count_77 ?_
    exact z_iret hx hb hr hK hS (Nat.le_of_ble_eq_true rfl) (Nat.le_of_ble_eq_true rfl) hlocks dX11_count_80 (shC c, ad, I, JX, PC c ad) hW ⟨rfl, (zt_t_i (k := 1) (show a1.toInt = 1 by rw [‹a1 = 1›]; decide) (by decide) rfl)⟩
  by_cases q5 : a1 = 2
  · refine lv_tableIn (tgt := 81) hx hb dX11_count_1 (by rw [q5]; decide) (by rw [q5]; decide) (by rw [q5]; rfl) (by decide) ?_
    refine lv_aload_n hx hb dX11_count_81 rfl (lv_at hl 0 rfl) ?_
    refine z_get (T := TX11) (N := 13) (ci := 11) (i := 0) (v := .ref (ad 1)) hx hb hts zj_X11_count_X11 hown hK hW rfl rfl 2 (by decide) (hts (.fieldLink RX11 16 "PetrolBoard" "holders" "LPetrolBoard$Holders;") (me_s (me_l (me_l (me_l (me_l (me_l (me_l (me_l (me_l (me_l (List.mem_of_getElem? (i := 1) rfl)))))))))))) (fun _ h => h) rfl dX11_count_82 ?_
    have r6 : 0 ≤ (I 1 11).toInt ∧ (I 1 11).toInt ≤ 200 := hH.2
    refine z_get (T := TX2) (N := 12) (ci := 2) (i := 1) (v := .int (I 1 11)) hx hb hts zj_X11_count_X2 hown hK hW rfl rfl 11 (by decide) (hts (.fieldLink RX11 407 "PetrolBoard$Holders" "notes" "I") (me_s (me_l (me_l (me_l (me_l (me_l (me_l (me_l (me_l (me_l (List.mem_of_getElem? (i := 3) rfl)))))))))))) (fun _ h => h) rfl dX11_count_85 ?_
    exact z_iret hx hb hr hK hS (Nat.le_of_ble_eq_true rfl) (Nat.le_of_ble_eq_true rfl) hlocks dX11_count_88 (shC c, ad, I, JX, PC c ad) hW ⟨rfl, (zt_t_i (k := 2) (show a1.toInt = 2 by rw [‹a1 = 2›]; decide) (by decide) rfl)⟩
  by_cases q7 : a1 = 3
  · refine lv_tableIn (tgt := 89) hx hb dX11_count_1 (by rw [q7]; decide) (by rw [q7]; decide) (by rw [q7]; rfl) (by decide) ?_
    refine lv_aload_n hx hb dX11_count_89 rfl (lv_at hl 0 rfl) ?_
    refine z_get (T := TX11) (N := 13) (ci := 11) (i := 0) (v := .ref (ad 21)) hx hb hts zj_X11_count_X11 hown hK hW rfl rfl 4 (by decide) (hts (.fieldLink RX11 30 "PetrolBoard" "orderBook" "LPetrolBoard$OrderBook;") (me_s (me_l (me_l (me_l (me_l (me_l (me_l (me_l (me_l (me_l (List.mem_of_getElem? (i := 4) rfl)))))))))))) (fun _ h => h) rfl dX11_count_90 ?_
    have r8 : 0 ≤ (I 21 2).toInt ∧ (I 21 2).toInt ≤ 12 := hO
    refine z_get (T := TX6) (N := 3) (ci := 6) (i := 21) (v := .int (I 21 2)) hx hb hts zj_X11_count_X6 hown hK hW rfl rfl 2 (by decide) (hts (.fieldLink RX11 125 "PetrolBoard$OrderBook" "number" "I") (me_s (me_l (me_l (me_l (me_l (me_l (me_l (me_l (me_l (me_l (List.mem_of_getElem? (i := 5) rfl)))))))))))) (fun _ h => h) rfl dX11_count_93 ?_
    exact z_iret hx hb hr hK hS (Nat.le_of_ble_eq_true rfl) (Nat.le_of_ble_eq_true rfl) hlocks dX11_count_96 (shC c, ad, I, JX, PC c ad) hW ⟨rfl, (zt_t_i (k := 3) (show a1.toInt = 3 by rw [‹a1 = 3›]; decide) (by decide) rfl)⟩
  by_cases q9 : a1 = 4
  · refine lv_tableIn (tgt := 97) hx hb dX11_count_1 (by rw [q9]; decide) (by rw [q9]; decide) (by rw [q9]; rfl) (by decide) ?_
    refine lv_aload_n hx hb dX11_count_97 rfl (lv_at hl 0 rfl) ?_
    refine z_get (T := TX11) (N := 13) (ci := 11) (i := 0) (v := .ref (ad 26)) hx hb hts zj_X11_count_X11 hown hK hW rfl rfl 5 (by decide) (hts (.fieldLink RX11 37 "PetrolBoard" "coupons" "LPetrolBoard$Coupons;") (me_s (me_l (me_l (me_l (me_l (me_l (me_l (me_l (me_l (me_l (List.mem_of_getElem? (i := 6) rfl)))))))))))) (fun _ h => h) rfl dX11_count_98 ?_
    refine z_get (T := TX0) (N := 5) (ci := 0) (i := 26) (v := .int (I 26 3)) hx hb hts zj_X11_count_X0 hown hK hW rfl rfl 3 (by decide) (hts (.fieldLink RX11 410 "PetrolBoard$Coupons" "books" "I") (me_s (me_l (me_l (me_l (me_l (me_l (me_l (me_l (me_l (me_l (List.mem_of_getElem? (i := 7) rfl)))))))))))) (fun _ h => h) rfl dX11_count_101 ?_
    exact z_iret hx hb hr hK hS (Nat.le_of_ble_eq_true rfl) (Nat.le_of_ble_eq_true rfl) hlocks dX11_count_104 (shC c, ad, I, JX, PC c ad) hW ⟨rfl, (zt_t_i (k := 4) (show a1.toInt = 4 by rw [‹a1 = 4›]; decide) (by decide) rfl)⟩
  by_cases q10 : a1 = 5
  · refine lv_tableIn (tgt := 105) hx hb dX11_count_1 (by rw [q10]; decide) (by rw [q10]; decide) (by rw [q10]; rfl) (by decide) ?_
    refine lv_aload_n hx hb dX11_count_105 rfl (lv_at hl 0 rfl) ?_
    have r11 : 0 ≤ (I 0 8).toInt ∧ (I 0 8).toInt ≤ 10 := hB.2
    refine z_get (T := TX11) (N := 13) (ci := 11) (i := 0) (v := .int (I 0 8)) hx hb hts zj_X11_count_X11 hown hK hW rfl rfl 8 (by decide) (hts (.fieldLink RX11 178 "PetrolBoard" "stationNumber" "I") (me_s (me_l (me_l (me_l (me_l (me_l (me_l (me_l (me_l (me_l (List.mem_of_getElem? (i := 8) rfl)))))))))))) (fun _ h => h) rfl dX11_count_106 ?_
    exact z_iret hx hb hr hK hS (Nat.le_of_ble_eq_true rfl) (Nat.le_of_ble_eq_true rfl) hlocks dX11_count_109 (shC c, ad, I, JX, PC c ad) hW ⟨rfl, (zt_t_i (k := 5) (show a1.toInt = 5 by rw [‹a1 = 5›]; decide) (by decide) rfl)⟩
  by_cases q12 : a1 = 6
  · refine lv_tableIn (tgt := 110) hx hb dX11_count_1 (by rw [q12]; decide) (by rw [q12]; decide) (by rw [q12]; rfl) (by decide) ?_
    refine lv_aload_n hx hb dX11_count_110 rfl (lv_at hl 0 rfl) ?_
    refine z_get (T := TX11) (N := 13) (ci := 11) (i := 0) (v := .ref (ad 30)) hx hb hts zj_X11_count_X11 hown hK hW rfl rfl 6 (by decide) (hts (.fieldLink RX11 44 "PetrolBoard" "pours" "LPetrolBoard$Pours;") (me_s (me_l (me_l (me_l (me_l (me_l (me_l (me_l (me_l (me_l (List.mem_of_getElem? (i := 9) rfl)))))))))))) (fun _ h => h) rfl dX11_count_111 ?_
    have r13 : 0 ≤ (I 30 8).toInt ∧ (I 30 8).toInt ≤ 300 := hP
    refine z_get (T := TX8) (N := 9) (ci := 8) (i := 30) (v := .int (I 30 8)) hx hb hts zj_X11_count_X8 hown hK hW rfl rfl 8 (by decide) (hts (.fieldLink RX11 201 "PetrolBoard$Pours" "number" "I") (me_s (me_l (me_l (me_l (me_l (me_l (me_l (me_l (me_l (me_l (List.mem_of_getElem? (i := 10) rfl)))))))))))) (fun _ h => h) rfl dX11_count_114 ?_
    exact z_iret hx hb hr hK hS (Nat.le_of_ble_eq_true rfl) (Nat.le_of_ble_eq_true rfl) hlocks dX11_count_117 (shC c, ad, I, JX, PC c ad) hW ⟨rfl, (zt_t_i (k := 6) (show a1.toInt = 6 by rw [‹a1 = 6›]; decide) (by decide) rfl)⟩
  by_cases q14 : a1 = 7
  · refine lv_tableIn (tgt := 118) hx hb dX11_count_1 (by rw [q14]; decide) (by rw [q14]; decide) (by rw [q14]; rfl) (by decide) ?_
    refine lv_aload_n hx hb dX11_count_118 rfl (lv_at hl 0 rfl) ?_
    refine z_get (T := TX11) (N := 13) (ci := 11) (i := 0) (v := .ref (ad 30)) hx hb hts zj_X11_count_X11 hown hK hW rfl rfl 6 (by decide) (hts (.fieldLink RX11 44 "PetrolBoard" "pours" "LPetrolBoard$Pours;") (me_s (me_l (me_l (me_l (me_l (me_l (me_l (me_l (me_l (me_l (List.mem_of_getElem? (i := 9) rfl)))))))))))) (fun _ h => h) rfl dX11_count_119 ?_
    refine z_ci hW hS hA (va_runV (As := []) (rest := []) ⟨hx, hb, hml, hown, hts⟩ (sx_X8_judgedGood_p l G ad c I (by show 0 ≤ (I 30 8).toInt ∧ (I 30 8).toInt ≤ 300; exact hP)  _) (cwV 0 hts gX11_count_X8_judgedGood rfl rfl rfl (by decide +kernel) ⟨Nat.le_of_ble_eq_true rfl, Nat.le_of_ble_eq_true rfl⟩) (z_preV (i := 30) hK hW rfl rfl) rfl rfl hl.1 rfl (lv_room (Nat.le_of_ble_eq_true rfl)) dX11_count_122 ⟨Nat.le_of_ble_eq_true rfl, Nat.le_of_ble_eq_true rfl⟩) (fun r u1 H locs hp hW hS => ?_)
    obtain ⟨e9, hp⟩ := hp
    rw [e9] at hW
    refine lv_topi (fun x15 ex15 => ?_)
    rw [← ex15] at hp
    have hP16 := hp
    exact z_iret hx hb hr hK hS (Nat.le_of_ble_eq_true rfl) (Nat.le_of_ble_eq_true rfl) hlocks dX11_count_125 (shC c, ad, I, JX, PC c ad) hW ⟨rfl, (zt_t_i (k := 7) (show a1.toInt = 7 by rw [‹a1 = 7›]; decide) (by decide) (show _ = zt_n (zt_G I) (I 30 8).toNatClampNeg from hP16))⟩
  by_cases q17 : a1 = 8
  · refine lv_tableIn (tgt := 126) hx hb dX11_count_1 (by rw [q17]; decide) (by rw [q17]; decide) (by rw [q17]; rfl) (by decide) ?_
    refine lv_aload_n hx hb dX11_count_126 rfl (lv_at hl 0 rfl) ?_
    refine z_get (T := TX11) (N := 13) (ci := 11) (i := 0) (v := .ref (ad 30)) hx hb hts zj_X11_count_X11 hown hK hW rfl rfl 6 (by decide) (hts (.fieldLink RX11 44 "PetrolBoard" "pours" "LPetrolBoard$Pours;") (me_s (me_l (me_l (me_l (me_l (me_l (me_l (me_l (me_l (me_l (List.mem_of_getElem? (i := 9) rfl)))))))))))) (fun _ h => h) rfl dX11_count_127 ?_
    refine z_ci hW hS hA (va_runV (As := []) (rest := []) ⟨hx, hb, hml, hown, hts⟩ (sx_X8_judgedOtherwise_p l G ad c I (by show 0 ≤ (I 30 8).toInt ∧ (I 30 8).toInt ≤ 300; exact hP)  _) (cwV 0 hts gX11_count_X8_judgedOtherwise rfl rfl rfl (by decide +kernel) ⟨Nat.le_of_ble_eq_true rfl, Nat.le_of_ble_eq_true rfl⟩) (z_preV (i := 30) hK hW rfl rfl) rfl rfl hl.1 rfl (lv_room (Nat.le_of_ble_eq_true rfl)) dX11_count_130 ⟨Nat.le_of_ble_eq_true rfl, Nat.le_of_ble_eq_true rfl⟩) (fun r u1 H locs hp hW hS => ?_)
    obtain ⟨e9, hp⟩ := hp
    rw [e9] at hW
    refine lv_topi (fun x18 ex18 => ?_)
    rw [← ex18] at hp
    have hP19 := hp
    exact z_iret hx hb hr hK hS (Nat.le_of_ble_eq_true rfl) (Nat.le_of_ble_eq_true rfl) hlocks dX11_count_133 (shC c, ad, I, JX, PC c ad) hW ⟨rfl, (zt_t_i (k := 8) (show a1.toInt = 8 by rw [‹a1 = 8›]; decide) (by decide) (show _ = zt_n (zt_O I) (I 30 8).toNatClampNeg from hP19))⟩
  by_cases q20 : a1 = 9
  · refine lv_tableIn (tgt := 134) hx hb dX11_count_1 (by rw [q20]; decide) (by rw [q20]; decide) (by rw [q20]; rfl) (by decide) ?_
    refine lv_aload_n hx hb dX11_count_134 rfl (lv_at hl 0 rfl) ?_
    refine z_get (T := TX11) (N := 13) (ci := 11) (i := 0) (v := .ref (ad 26)) hx hb hts zj_X11_count_X11 hown hK hW rfl rfl 5 (by decide) (hts (.fieldLink RX11 37 "PetrolBoard" "coupons" "LPetrolBoard$Coupons;") (me_s (me_l (me_l (me_l (me_l (me_l (me_l (me_l (me_l (me_l (List.mem_of_getElem? (i := 6) rfl)))))))))))) (fun _ h => h) rfl dX11_count_135 ?_
    have r21 : 0 ≤ (I 26 4).toInt ∧ (I 26 4).toInt ≤ 512 := hC
    refine z_get (T := TX0) (N := 5) (ci := 0) (i := 26) (v := .int (I 26 4)) hx hb hts zj_X11_count_X0 hown hK hW rfl rfl 4 (by decide) (hts (.fieldLink RX11 419 "PetrolBoard$Coupons" "lentNumber" "I") (me_s (me_l (me_l (me_l (me_l (me_l (me_l (me_l (me_l (me_l (List.mem_of_getElem? (i := 11) rfl)))))))))))) (fun _ h => h) rfl dX11_count_138 ?_
    exact z_iret hx hb hr hK hS (Nat.le_of_ble_eq_true rfl) (Nat.le_of_ble_eq_true rfl) hlocks dX11_count_141 (shC c, ad, I, JX, PC c ad) hW ⟨rfl, (zt_t_i (k := 9) (show a1.toInt = 9 by rw [‹a1 = 9›]; decide) (by decide) rfl)⟩
  by_cases q22 : a1 = 10
  · refine lv_tableIn (tgt := 142) hx hb dX11_count_1 (by rw [q22]; decide) (by rw [q22]; decide) (by rw [q22]; rfl) (by decide) ?_
    refine lv_aload_n hx hb dX11_count_142 rfl (lv_at hl 0 rfl) ?_
    refine z_get (T := TX11) (N := 13) (ci := 11) (i := 0) (v := .ref (ad 41)) hx hb hts zj_X11_count_X11 hown hK hW rfl rfl 10 (by decide) (hts (.fieldLink RX11 61 "PetrolBoard" "loads" "LPetrolBoard$Loads;") (me_s (me_l (me_l (me_l (me_l (me_l (me_l (me_l (me_l (me_l (List.mem_of_getElem? (i := 12) rfl)))))))))))) (fun _ h => h) rfl dX11_count_143 ?_
    have r23 : 0 ≤ (I 41 10).toInt ∧ (I 41 10).toInt ≤ 4 := hL
    refine z_get (T := TX4) (N := 13) (ci := 4) (i := 41) (v := .int (I 41 10)) hx hb hts zj_X11_count_X4 hown hK hW rfl rfl 10 (by decide) (hts (.fieldLink RX11 422 "PetrolBoard$Loads" "ports" "I") (me_s (me_l (me_l (me_l (me_l (me_l (me_l (me_l (me_l (me_l (List.mem_of_getElem? (i := 13) rfl)))))))))))) (fun _ h => h) rfl dX11_count_146 ?_
    exact z_iret hx hb hr hK hS (Nat.le_of_ble_eq_true rfl) (Nat.le_of_ble_eq_true rfl) hlocks dX11_count_149 (shC c, ad, I, JX, PC c ad) hW ⟨rfl, (zt_t_i (k := 10) (show a1.toInt = 10 by rw [‹a1 = 10›]; decide) (by decide) rfl)⟩
  by_cases q24 : a1 = 11
  · refine lv_tableIn (tgt := 150) hx hb dX11_count_1 (by rw [q24]; decide) (by rw [q24]; decide) (by rw [q24]; rfl) (by decide) ?_
    refine lv_aload_n hx hb dX11_count_150 rfl (lv_at hl 0 rfl) ?_
    refine z_get (T := TX11) (N := 13) (ci := 11) (i := 0) (v := .ref (ad 60)) hx hb hts zj_X11_count_X11 hown hK hW rfl rfl 11 (by decide) (hts (.fieldLink RX11 68 "PetrolBoard" "journeys" "LPetrolBoard$Journeys;") (me_s (me_l (me_l (me_l (me_l (me_l (me_l (me_l (me_l (me_l (List.mem_of_getElem? (i := 14) rfl)))))))))))) (fun _ h => h) rfl dX11_count_151 ?_
    have r25 : 0 ≤ (I 60 9).toInt ∧ (I 60 9).toInt ≤ 60 := hJ.1
    refine z_get (T := TX3) (N := 17) (ci := 3) (i := 60) (v := .int (I 60 9)) hx hb hts zj_X11_count_X3 hown hK hW rfl rfl 9 (by decide) (hts (.fieldLink RX11 425 "PetrolBoard$Journeys" "number" "I") (me_s (me_l (me_l (me_l (me_l (me_l (me_l (me_l (me_l (me_l (List.mem_of_getElem? (i := 15) rfl)))))))))))) (fun _ h => h) rfl dX11_count_154 ?_
    exact z_iret hx hb hr hK hS (Nat.le_of_ble_eq_true rfl) (Nat.le_of_ble_eq_true rfl) hlocks dX11_count_157 (shC c, ad, I, JX, PC c ad) hW ⟨rfl, (zt_t_i (k := 11) (show a1.toInt = 11 by rw [‹a1 = 11›]; decide) (by decide) rfl)⟩
  by_cases q26 : a1 = 12
  · refine lv_tableIn (tgt := 158) hx hb dX11_count_1 (by rw [q26]; decide) (by rw [q26]; decide) (by rw [q26]; rfl) (by decide) ?_
    refine lv_aload_n hx hb dX11_count_158 rfl (lv_at hl 0 rfl) ?_
    refine z_get (T := TX11) (N := 13) (ci := 11) (i := 0) (v := .ref (ad 12)) hx hb hts zj_X11_count_X11 hown hK hW rfl rfl 3 (by decide) (hts (.fieldLink RX11 23 "PetrolBoard" "reader" "LPetrolBoard$Reader;") (me_s (me_l (me_l (me_l (me_l (me_l (me_l (me_l (me_l (me_l (List.mem_of_getElem? (i := 16) rfl)))))))))))) (fun _ h => h) rfl dX11_count_159 ?_
    have r27 : 0 ≤ (I 12 1).toInt ∧ (I 12 1).toInt ≤ 500 := hR.1
    refine z_get (T := TX9) (N := 14) (ci := 9) (i := 12) (v := .int (I 12 1)) hx hb hts zj_X11_count_X9 hown hK hW rfl rfl 1 (by decide) (hts (.fieldLink RX11 115 "PetrolBoard$Reader" "taped" "I") (me_s (me_l (me_l (me_l (me_l (me_l (me_l (me_l (me_l (me_l (List.mem_of_getElem? (i := 17) rfl)))))))))))) (fun _ h => h) rfl dX11_count_162 ?_
    exact z_iret hx hb hr hK hS (Nat.le_of_ble_eq_true rfl) (Nat.le_of_ble_eq_true rfl) hlocks dX11_count_165 (shC c, ad, I, JX, PC c ad) hW ⟨rfl, (zt_t_i (k := 12) (show a1.toInt = 12 by rw [‹a1 = 12›]; decide) (by decide) rfl)⟩
  have q1 := z_f_ne rfl z_l0 q1
  have q3 := z_f_ne rfl z_l1 q3
  have q5 := z_f_ne rfl z_l2 q5
  have q7 := z_f_ne rfl z_l3 q7
  have q9 := z_f_ne rfl z_l4 q9
  have q10 := z_f_ne rfl z_l5 q10
  have q12 := z_f_ne rfl z_l6 q12
  have q14 := z_f_ne rfl z_l7 q14
  have q17 := z_f_ne rfl z_l8 q17
  have q20 := z_f_ne rfl z_l9 q20
  have q22 := z_f_ne rfl z_l10 q22
  have q24 := z_f_ne rfl z_l11 q24
  have q26 := z_f_ne rfl z_l12 q26
  refine lv_tableOut (tgt := 166) hx hb dX11_count_1 (by omega) (by decide) ?_
  refine lv_iconst (v := (-1)) hx hb dX11_count_166 (by decide) ?_
  exact z_iret hx hb hr hK hS (Nat.le_of_ble_eq_true rfl) (Nat.le_of_ble_eq_true rfl) hlocks dX11_count_167 (shC c, ad, I, JX, PC c ad) hW ⟨rfl, (Or.inr ⟨by omega, by decide⟩)⟩
set_option maxHeartbeats 8000000 in
set_option maxRecDepth 100000 in
theorem sx_X12_count_p (l : Launch) (G : z_G) (ad : Nat → Nat) (I : z_I) (J : z_J) (hma : z_ima I) (hmb : z_imb I) (hmp : z_imp I) (hms : z_ims I) (hmr : z_imr I) (hmj : z_imj I) (a1 : Int32) : z_M l yX12_count wsX12_count { frames := 1, cells := 0, slots := 0, locals := 12 } [.ref (ad 0), .int a1] G (shM, ad, I, J, PM ad) (fun r u1 => u1 = (shM, ad, I, J, PM ad) ∧ (zt_t (zt_m I) a1.toInt r.toInt)) 0 0 := by
  intro sz
  refine z_headQ (cc := cX12_count) (maxL := 5) (ret := (some .int)) (by decide) rfl (Nat.le_of_ble_eq_true rfl) ?_
  intro p e s m below meth c0 ls hIn hK hsz hW hl
  obtain ⟨hx, hb, hr, hml, hown, hts, hlocks, hname⟩ := hIn
  subst hsz
  have hown : s.vm.findClass RX12 = some m.cls := hown
  have hA : ∀ q : Nat, s.heap.size ≤ q → z_A (shM, ad, I, J, PM ad) s.heap.size q := fun q h => Or.inr h
  generalize hAe : z_A (shM, ad, I, J, PM ad) s.heap.size = A at *
  have hS : va_S A s.heap s.heap [] := va_S.rf
  have hl : lv_has ls 5 [(0, .ref (ad 0)), (1, .int a1)] := hl
  refine lv_iconst (v := 0) hx hb dX12_count_0 (by decide) ?_
  refine lv_istore_n (lv' := [(2, .int 0), (0, .ref (ad 0)), (1, .int a1)]) hx hb dX12_count_1 rfl hl (by decide) rfl (fun ls hl => ?_)
  refine lv_iconst (v := 0) hx hb dX12_count_2 (by decide) ?_
  refine lv_istore_n (lv' := [(3, .int 0), (2, .int 0), (0, .ref (ad 0)), (1, .int a1)]) hx hb dX12_count_3 rfl hl (by decide) rfl (fun ls hl => ?_)
  refine lv_iconst (v := 0) hx hb dX12_count_4 (by decide) ?_
  refine lv_istore (lv' := [(4, .int 0), (3, .int 0), (2, .int 0), (0, .ref (ad 0)), (1, .int a1)]) hx hb dX12_count_5 hl (by decide) rfl (fun ls hl => ?_)
  have lp1 : ∀ (f : Nat) (y2 : Int32) (y3 : Int32) (y4 : Int32) (H : Heap) (locs : List Loc) (ls : Array Slot), (2147483647 < y2.toInt + (f : Int)) → (0 ≤ y2.toInt) → (0 ≤ y3.toInt) → (y3.toInt ≤ 300) → (0 ≤ y4.toInt) → (y4.toInt ≤ 300) → (y4.toInt = zt_n (zt_g I) y2.toNatClampNeg ∧ y3.toInt = zt_n (zt_o I) y2.toNatClampNeg ∧ y4.toInt ≤ y2.toInt ∧ y3.toInt ≤ y2.toInt ∧ y2.toInt ≤ (I 0 55).toInt) → z_W G A (shM, ad, I, J, PM ad) H → va_S A s.heap H locs → lv_has ls 5 [(4, .int y2), (3, .int y3), (2, .int y4), (0, .ref (ad 0)), (1, .int a1)] → W p l e (headSpec wsX12_count { frames := 1, cells := 0, slots := 0, locals := 12 }).room s m ([.ref (ad 0), .int a1] : List Value).toArray below meth c0 H locs 0 0 (MQ below (va_Qi (fun (r : Int32) (u1 : z_U) => u1 = (shM, ad, I, J, PM ad) ∧ (zt_t (zt_m I) a1.toInt r.toInt)) (z_B G A) A) ([.ref (ad 0), .int a1] : List Value).toArray s 0 0 A) (F0 m 7 ls []) := by
    intro f
    induction f with
    | zero => intro y2 y3 y4 H locs ls lp1m lp1l4 lp1l3 lp1u3 lp1l2 lp1u2 lp1B hW hS hl; exact absurd lp1m (by have := Int32.toInt_lt y2; have := Int32.le_toInt y2; omega)
    | succ f lp1ih =>
      intro y2 y3 y4 H locs ls lp1m lp1l4 lp1l3 lp1u3 lp1l2 lp1u2 lp1B hW hS hl
      refine lv_iload hx hb dX12_count_7 (lv_at hl 0 rfl) ?_
      refine lv_aload_n hx hb dX12_count_9 rfl (lv_at hl 3 rfl) ?_
      have r5 : 0 ≤ (I 0 55).toInt ∧ (I 0 55).toInt ≤ 300 := hms.2
      refine z_get (T := TX12) (N := 96) (ci := 12) (i := 0) (v := .int (I 0 55)) hx hb hts zj_X12_count_X12 hown hK hW rfl rfl 55 (by decide) (hts (.fieldLink RX12 468 "PetrolBoardModel" "pours" "I") (me_s (me_l (List.mem_of_getElem? (i := 0) rfl)))) (fun _ h => h) rfl dX12_count_10 ?_
      refine lv_icmp_ge (tgt := 48) hx hb dX12_count_13 (by decide) (fun c6 => ?_) (fun c6 => ?_)
      · have g7 := z_f_ge rfl rfl c6
        have b8 := Int32.toInt_lt y2
        refine lv_iload_n hx hb dX12_count_48 rfl (lv_at hl 4 rfl) ?_
        by_cases q9 : a1 = 0
        · refine lv_tableIn (tgt := 116) hx hb dX12_count_49 (by rw [q9]; decide) (by rw [q9]; decide) (by rw [q9]; rfl) (by decide) ?_
          refine lv_aload_n hx hb dX12_count_116 rfl (lv_at hl 3 rfl) ?_
          have r10 : 0 ≤ (I 0 0).toInt ∧ (I 0 0).toInt ≤ 719 := hma.1
          refine z_get (T := TX12) (N := 96) (ci := 12) (i := 0) (v := .int (I 0 0)) hx hb hts zj_X12_count_X12 hown hK hW rfl rfl 0 (by decide) (hts (.fieldLink RX12 232 "PetrolBoardModel" "today" "I") (me_s (me_l (List.mem_of_getElem? (i := 2) rfl)))) (fun _ h => h) rfl dX12_count_117 ?_
          exact z_iret hx hb hr hK hS (Nat.le_of_ble_eq_true rfl) (Nat.le_of_ble_eq_true rfl) hlocks dX12_count_120 (shM, ad, I, J, PM ad) hW ⟨rfl, (zt_t_i (k := 0) (show a1.toInt = 0 by rw [‹a1 = 0›]; decide) (by decide) rfl)⟩
        by_cases q11 : a1 = 1
        · refine lv_tableIn (tgt := 121) hx hb dX12_count_49 (by rw [q11]; decide) (by rw [q11]; decide) (by rw [q11]; rfl) (by decide) ?_
          refine lv_aload_n hx hb dX12_count_121 rfl (lv_at hl 3 rfl) ?_
          have r12 : 0 ≤ (I 0 1).toInt ∧ (I 0 1).toInt ≤ 30 := hma.2.1
          refine z_get (T := TX12) (N := 96) (ci := 12) (i := 0) (v := .int (I 0 1)) hx hb hts zj_X12_count_X12 hown hK hW rfl rfl 1 (by decide) (hts (.fieldLink RX12 229 "PetrolBoardModel" "holders" "I") (me_s (me_l (List.mem_of_getElem? (i := 3) rfl)))) (fun _ h => h) rfl dX12_count_122 ?_
          exact z_iret hx hb hr hK hS (Nat.le_of_ble_eq_true rfl) (Nat.le_of_ble_eq_true rfl) hlocks dX12_count_125 (shM, ad, I, J, PM ad) hW ⟨rfl, (zt_t_i (k := 1) (show a1.toInt = 1 by rw [‹a1 = 1›]; decide) (by decide) rfl)⟩
        by_cases q13 : a1 = 2
        · refine lv_tableIn (tgt := 126) hx hb dX12_count_49 (by rw [q13]; decide) (by rw [q13]; decide) (by rw [q13]; rfl) (by decide) ?_
          refine lv_aload_n hx hb dX12_count_126 rfl (lv_at hl 3 rfl) ?_
          have r14 : 0 ≤ (I 0 2).toInt ∧ (I 0 2).toInt ≤ 200 := hma.2.2
          refine z_get (T := TX12) (N := 96) (ci := 12) (i := 0) (v := .int (I 0 2)) hx hb hts zj_X12_count_X12 hown hK hW rfl rfl 2 (by decide) (hts (.fieldLink RX12 246 "PetrolBoardModel" "notes" "I") (me_s (me_l (List.mem_of_getElem? (i := 4) rfl)))) (fun _ h => h) rfl dX12_count_127 ?_
          exact z_iret hx hb hr hK hS (Nat.le_of_ble_eq_true rfl) (Nat.le_of_ble_eq_true rfl) hlocks dX12_count_130 (shM, ad, I, J, PM ad) hW ⟨rfl, (zt_t_i (k := 2) (show a1.toInt = 2 by rw [‹a1 = 2›]; decide) (by decide) rfl)⟩
        by_cases q15 : a1 = 3
        · refine lv_tableIn (tgt := 131) hx hb dX12_count_49 (by rw [q15]; decide) (by rw [q15]; decide) (by rw [q15]; rfl) (by decide) ?_
          refine lv_aload_n hx hb dX12_count_131 rfl (lv_at hl 3 rfl) ?_
          have r16 : 0 ≤ (I 0 13).toInt ∧ (I 0 13).toInt ≤ 12 := hmb.1
          refine z_get (T := TX12) (N := 96) (ci := 12) (i := 0) (v := .int (I 0 13)) hx hb hts zj_X12_count_X12 hown hK hW rfl rfl 13 (by decide) (hts (.fieldLink RX12 408 "PetrolBoardModel" "texts" "I") (me_s (me_l (List.mem_of_getElem? (i := 5) rfl)))) (fun _ h => h) rfl dX12_count_132 ?_
          exact z_iret hx hb hr hK hS (Nat.le_of_ble_eq_true rfl) (Nat.le_of_ble_eq_true rfl) hlocks dX12_count_135 (shM, ad, I, J, PM ad) hW ⟨rfl, (zt_t_i (k := 3) (show a1.toInt = 3 by rw [‹a1 = 3›]; decide) (by decide) rfl)⟩
        by_cases q17 : a1 = 4
        · refine lv_tableIn (tgt := 136) hx hb dX12_count_49 (by rw [q17]; decide) (by rw [q17]; decide) (by rw [q17]; rfl) (by decide) ?_
          refine lv_aload_n hx hb dX12_count_136 rfl (lv_at hl 3 rfl) ?_
          refine z_get (T := TX12) (N := 96) (ci := 12) (i := 0) (v := .int (I 0 50)) hx hb hts zj_X12_count_X12 hown hK hW rfl rfl 50 (by decide) (hts (.fieldLink RX12 449 "PetrolBoardModel" "books" "I") (me_s (me_l (List.mem_of_getElem? (i := 6) rfl)))) (fun _ h => h) rfl dX12_count_137 ?_
          exact z_iret hx hb hr hK hS (Nat.le_of_ble_eq_true rfl) (Nat.le_of_ble_eq_true rfl) hlocks dX12_count_140 (shM, ad, I, J, PM ad) hW ⟨rfl, (zt_t_i (k := 4) (show a1.toInt = 4 by rw [‹a1 = 4›]; decide) (by decide) rfl)⟩
        by_cases q18 : a1 = 5
        · refine lv_tableIn (tgt := 141) hx hb dX12_count_49 (by rw [q18]; decide) (by rw [q18]; decide) (by rw [q18]; rfl) (by decide) ?_
          refine lv_aload_n hx hb dX12_count_141 rfl (lv_at hl 3 rfl) ?_
          have r19 : 0 ≤ (I 0 54).toInt ∧ (I 0 54).toInt ≤ 10 := hms.1
          refine z_get (T := TX12) (N := 96) (ci := 12) (i := 0) (v := .int (I 0 54)) hx hb hts zj_X12_count_X12 hown hK hW rfl rfl 54 (by decide) (hts (.fieldLink RX12 461 "PetrolBoardModel" "stations" "I") (me_s (me_l (List.mem_of_getElem? (i := 7) rfl)))) (fun _ h => h) rfl dX12_count_142 ?_
          exact z_iret hx hb hr hK hS (Nat.le_of_ble_eq_true rfl) (Nat.le_of_ble_eq_true rfl) hlocks dX12_count_145 (shM, ad, I, J, PM ad) hW ⟨rfl, (zt_t_i (k := 5) (show a1.toInt = 5 by rw [‹a1 = 5›]; decide) (by decide) rfl)⟩
        by_cases q20 : a1 = 6
        · refine lv_tableIn (tgt := 146) hx hb dX12_count_49 (by rw [q20]; decide) (by rw [q20]; decide) (by rw [q20]; rfl) (by decide) ?_
          refine lv_aload_n hx hb dX12_count_146 rfl (lv_at hl 3 rfl) ?_
          refine z_get (T := TX12) (N := 96) (ci := 12) (i := 0) (v := .int (I 0 55)) hx hb hts zj_X12_count_X12 hown hK hW rfl rfl 55 (by decide) (hts (.fieldLink RX12 468 "PetrolBoardModel" "pours" "I") (me_s (me_l (List.mem_of_getElem? (i := 0) rfl)))) (fun _ h => h) rfl dX12_count_147 ?_
          exact z_iret hx hb hr hK hS (Nat.le_of_ble_eq_true rfl) (Nat.le_of_ble_eq_true rfl) hlocks dX12_count_150 (shM, ad, I, J, PM ad) hW ⟨rfl, (zt_t_i (k := 6) (show a1.toInt = 6 by rw [‹a1 = 6›]; decide) (by decide) rfl)⟩
        by_cases q21 : a1 = 7
        · refine lv_tableIn (tgt := 151) hx hb dX12_count_49 (by rw [q21]; decide) (by rw [q21]; decide) (by rw [q21]; rfl) (by decide) ?_
          refine lv_iload_n hx hb dX12_count_151 rfl (lv_at hl 2 rfl) ?_
          exact z_iret hx hb hr hK hS (Nat.le_of_ble_eq_true rfl) (Nat.le_of_ble_eq_true rfl) hlocks dX12_count_152 (shM, ad, I, J, PM ad) hW ⟨rfl, (zt_t_i (k := 7) (show a1.toInt = 7 by rw [‹a1 = 7›]; decide) (by decide) (show _ = zt_n (zt_g I) (I 0 55).toNatClampNeg from (by have q1 := z_clt (x := y2) rfl (by omega); have q2 := z_clt (x := (I 0 55)) rfl (by omega); rw [show (I 0 55).toNatClampNeg = y2.toNatClampNeg by omega]; exact lp1B.1)))⟩
        by_cases q22 : a1 = 8
        · refine lv_tableIn (tgt := 153) hx hb dX12_count_49 (by rw [q22]; decide) (by rw [q22]; decide) (by rw [q22]; rfl) (by decide) ?_
          refine lv_iload_n hx hb dX12_count_153 rfl (lv_at hl 1 rfl) ?_
          exact z_iret hx hb hr hK hS (Nat.le_of_ble_eq_true rfl) (Nat.le_of_ble_eq_true rfl) hlocks dX12_count_154 (shM, ad, I, J, PM ad) hW ⟨rfl, (zt_t_i (k := 8) (show a1.toInt = 8 by rw [‹a1 = 8›]; decide) (by decide) (show _ = zt_n (zt_o I) (I 0 55).toNatClampNeg from (by have q1 := z_clt (x := y2) rfl (by omega); have q2 := z_clt (x := (I 0 55)) rfl (by omega); rw [show (I 0 55).toNatClampNeg = y2.toNatClampNeg by omega]; exact lp1B.2.1)))⟩
        by_cases q23 : a1 = 9
        · refine lv_tableIn (tgt := 155) hx hb dX12_count_49 (by rw [q23]; decide) (by rw [q23]; decide) (by rw [q23]; rfl) (by decide) ?_
          refine lv_aload_n hx hb dX12_count_155 rfl (lv_at hl 3 rfl) ?_
          refine z_get (T := TX12) (N := 96) (ci := 12) (i := 0) (v := .int (I 0 51)) hx hb hts zj_X12_count_X12 hown hK hW rfl rfl 51 (by decide) (hts (.fieldLink RX12 455 "PetrolBoardModel" "lentAll" "I") (me_s (me_l (List.mem_of_getElem? (i := 8) rfl)))) (fun _ h => h) rfl dX12_count_156 ?_
          exact z_iret hx hb hr hK hS (Nat.le_of_ble_eq_true rfl) (Nat.le_of_ble_eq_true rfl) hlocks dX12_count_159 (shM, ad, I, J, PM ad) hW ⟨rfl, (zt_t_i (k := 9) (show a1.toInt = 9 by rw [‹a1 = 9›]; decide) (by decide) rfl)⟩
        by_cases q24 : a1 = 10
        · refine lv_tableIn (tgt := 160) hx hb dX12_count_49 (by rw [q24]; decide) (by rw [q24]; decide) (by rw [q24]; rfl) (by decide) ?_
          refine lv_aload_n hx hb dX12_count_160 rfl (lv_at hl 3 rfl) ?_
          have r25 : 0 ≤ (I 0 75).toInt ∧ (I 0 75).toInt ≤ 4 := hmr
          refine z_get (T := TX12) (N := 96) (ci := 12) (i := 0) (v := .int (I 0 75)) hx hb hts zj_X12_count_X12 hown hK hW rfl rfl 75 (by decide) (hts (.fieldLink RX12 493 "PetrolBoardModel" "ports" "I") (me_s (me_l (List.mem_of_getElem? (i := 9) rfl)))) (fun _ h => h) rfl dX12_count_161 ?_
          exact z_iret hx hb hr hK hS (Nat.le_of_ble_eq_true rfl) (Nat.le_of_ble_eq_true rfl) hlocks dX12_count_164 (shM, ad, I, J, PM ad) hW ⟨rfl, (zt_t_i (k := 10) (show a1.toInt = 10 by rw [‹a1 = 10›]; decide) (by decide) rfl)⟩
        by_cases q26 : a1 = 11
        · refine lv_tableIn (tgt := 165) hx hb dX12_count_49 (by rw [q26]; decide) (by rw [q26]; decide) (by rw [q26]; rfl) (by decide) ?_
          refine lv_aload_n hx hb dX12_count_165 rfl (lv_at hl 3 rfl) ?_
          have r27 : 0 ≤ (I 0 83).toInt ∧ (I 0 83).toInt ≤ 60 := hmj
          refine z_get (T := TX12) (N := 96) (ci := 12) (i := 0) (v := .int (I 0 83)) hx hb hts zj_X12_count_X12 hown hK hW rfl rfl 83 (by decide) (hts (.fieldLink RX12 505 "PetrolBoardModel" "journeys" "I") (me_s (me_l (List.mem_of_getElem? (i := 10) rfl)))) (fun _ h => h) rfl dX12_count_166 ?_
          exact z_iret hx hb hr hK hS (Nat.le_of_ble_eq_true rfl) (Nat.le_of_ble_eq_true rfl) hlocks dX12_count_169 (shM, ad, I, J, PM ad) hW ⟨rfl, (zt_t_i (k := 11) (show a1.toInt = 11 by rw [‹a1 = 11›]; decide) (by decide) rfl)⟩
        by_cases q28 : a1 = 12
        · refine lv_tableIn (tgt := 170) hx hb dX12_count_49 (by rw [q28]; decide) (by rw [q28]; decide) (by rw [q28]; rfl) (by decide) ?_
          refine lv_aload_n hx hb dX12_count_170 rfl (lv_at hl 3 rfl) ?_
          have r29 : 0 ≤ (I 0 31).toInt ∧ (I 0 31).toInt ≤ 500 := hmp.1
          refine z_get (T := TX12) (N := 96) (ci := 12) (i := 0) (v := .int (I 0 31)) hx hb hts zj_X12_count_X12 hown hK hW rfl rfl 31 (by decide) (hts (.fieldLink RX12 253 "PetrolBoardModel" "taped" "I") (me_s (me_l (List.mem_of_getElem? (i := 11) rfl)))) (fun _ h => h) rfl dX12_count_171 ?_
          exact z_iret hx hb hr hK hS (Nat.le_of_ble_eq_true rfl) (Nat.le_of_ble_eq_true rfl) hlocks dX12_count_174 (shM, ad, I, J, PM ad) hW ⟨rfl, (zt_t_i (k := 12) (show a1.toInt = 12 by rw [‹a1 = 12›]; decide) (by decide) rfl)⟩
        have q9 := z_f_ne rfl z_l0 q9
        have q11 := z_f_ne rfl z_l1 q11
        have q13 := z_f_ne rfl z_l2 q13
        have q15 := z_f_ne rfl z_l3 q15
        have q17 := z_f_ne rfl z_l4 q17
        have q18 := z_f_ne rfl z_l5 q18
        have q20 := z_f_ne rfl z_l6 q20
        have q21 := z_f_ne rfl z_l7 q21
        have q22 := z_f_ne rfl z_l8 q22
        have q23 := z_f_ne rfl z_l9 q23
        have q24 := z_f_ne rfl z_l10 q24
        have q26 := z_f_ne rfl z_l11 q26
        have q28 := z_f_ne rfl z_l12 q28
        refine lv_tableOut (tgt := 175) hx hb dX12_count_49 (by omega) (by decide) ?_
        refine lv_iconst (v := (-1)) hx hb dX12_count_175 (by decide) ?_
        exact z_iret hx hb hr hK hS (Nat.le_of_ble_eq_true rfl) (Nat.le_of_ble_eq_true rfl) hlocks dX12_count_176 (shM, ad, I, J, PM ad) hW ⟨rfl, (Or.inr ⟨by omega, by decide⟩)⟩
      · have g30 := z_f_nge rfl rfl c6
        have b31 := Int32.toInt_lt y2
        refine lv_aload_n hx hb dX12_count_16 rfl (lv_at hl 3 rfl) ?_
        refine z_get (T := TX12) (N := 96) (ci := 12) (i := 0) (v := .ref (ad 40)) hx hb hts zj_X12_count_X12 hown hK hW rfl rfl 63 (by decide) (hts (.fieldLink RX12 136 "PetrolBoardModel" "pourJudged" "[I") (me_s (me_l (List.mem_of_getElem? (i := 1) rfl)))) (fun _ h => h) rfl dX12_count_17 ?_
        refine lv_iload hx hb dX12_count_20 (lv_at hl 0 rfl) ?_
        refine z_iald (i := 40) hx hb hK hW rfl (z_ix rfl (by omega) (by omega)) dX12_count_22 ?_
        refine lv_topi (fun x32 ex32 => ?_)
        have hv33 : (I 40 y2.toNatClampNeg).toInt = x32.toInt := by rw [ex32]
        have hz34 := z_clt (x := y2) rfl (by omega)
        refine lv_if_ne (tgt := 29) hx hb dX12_count_23 (by decide) (fun c35 => ?_) (fun c35 => ?_)
        · have g36 := z_f_ne rfl z_l0 c35
          have b37 := Int32.toInt_lt x32
          refine lv_aload_n hx hb dX12_count_29 rfl (lv_at hl 3 rfl) ?_
          refine z_get (T := TX12) (N := 96) (ci := 12) (i := 0) (v := .ref (ad 40)) hx hb hts zj_X12_count_X12 hown hK hW rfl rfl 63 (by decide) (hts (.fieldLink RX12 136 "PetrolBoardModel" "pourJudged" "[I") (me_s (me_l (List.mem_of_getElem? (i := 1) rfl)))) (fun _ h => h) rfl dX12_count_30 ?_
          refine lv_iload hx hb dX12_count_33 (lv_at hl 0 rfl) ?_
          refine z_iald (i := 40) hx hb hK hW rfl (z_ix rfl (by omega) (by omega)) dX12_count_35 ?_
          refine z_topi (v := x32) ex32.symm ?_
          refine lv_if_le (tgt := 42) hx hb dX12_count_36 (by decide) (fun c38 => ?_) (fun c38 => ?_)
          · have g39 := z_f_le rfl z_l0 c38
            obtain ⟨x40, ex40⟩ : ∃ y : Int32, y = y2 + 1 := ⟨_, rfl⟩
            have tx40 : x40.toInt = y2.toInt + 1 := z_tadd ex40 rfl z_l1 (by omega) (by omega)
            refine lv_iinc (v := x40) (lv' := [(4, .int x40), (3, .int y3), (2, .int y4), (0, .ref (ad 0)), (1, .int a1)]) hx hb dX12_count_42 hl (k := 0) rfl (by rw [ex40]; rfl) (by decide) rfl (fun ls hl => ?_)
            refine lv_goto (tgt := 7) hx hb dX12_count_45 (by decide) ?_
            exact lp1ih x40 y3 y4 _ _ _ (by omega) (by omega) (by omega) (by omega) (by omega) (by omega) ⟨by rw [show x40.toNatClampNeg = y2.toNatClampNeg + 1 from z_cln (by omega) (by omega)]; first | (rw [zt_g_y (by omega)]; omega) | (rw [zt_g_n (by omega)]; omega), by rw [show x40.toNatClampNeg = y2.toNatClampNeg + 1 from z_cln (by omega) (by omega)]; first | (rw [zt_o_y (by omega)]; omega) | (rw [zt_o_n (by omega)]; omega), by omega, by omega, by omega⟩ hW hS (lv_sub hl [0, 1, 2, 3, 4] rfl)
          · have g41 := z_f_nle rfl z_l0 c38
            obtain ⟨x42, ex42⟩ : ∃ y : Int32, y = y3 + 1 := ⟨_, rfl⟩
            have tx42 : x42.toInt = y3.toInt + 1 := z_tadd ex42 rfl z_l1 (by omega) (by omega)
            refine lv_iinc (v := x42) (lv' := [(3, .int x42), (4, .int y2), (2, .int y4), (0, .ref (ad 0)), (1, .int a1)]) hx hb dX12_count_39 hl (k := 1) rfl (by rw [ex42]; rfl) (by decide) rfl (fun ls hl => ?_)
            obtain ⟨x43, ex43⟩ : ∃ y : Int32, y = y2 + 1 := ⟨_, rfl⟩
            have tx43 : x43.toInt = y2.toInt + 1 := z_tadd ex43 rfl z_l1 (by omega) (by omega)
            refine lv_iinc (v := x43) (lv' := [(4, .int x43), (3, .int x42), (2, .int y4), (0, .ref (ad 0)), (1, .int a1)]) hx hb dX12_count_42 hl (k := 1) rfl (by rw [ex43]; rfl) (by decide) rfl (fun ls hl => ?_)
            refine lv_goto (tgt := 7) hx hb dX12_count_45 (by decide) ?_
            exact lp1ih x43 x42 y4 _ _ _ (by omega) (by omega) (by omega) (by omega) (by omega) (by omega) ⟨by rw [show x43.toNatClampNeg = y2.toNatClampNeg + 1 from z_cln (by omega) (by omega)]; first | (rw [zt_g_y (by omega)]; omega) | (rw [zt_g_n (by omega)]; omega), by rw [show x43.toNatClampNeg = y2.toNatClampNeg + 1 from z_cln (by omega) (by omega)]; first | (rw [zt_o_y (by omega)]; omega) | (rw [zt_o_n (by omega)]; omega), by omega, by omega, by omega⟩ hW hS (lv_sub hl [0, 1, 2, 3, 4] rfl)
        · have g44 := z_f_eq rfl z_l0 c35
          have b45 := Int32.toInt_lt x32
          obtain ⟨x46, ex46⟩ : ∃ y : Int32, y = y4 + 1 := ⟨_, rfl⟩
          have tx46 : x46.toInt = y4.toInt + 1 := z_tadd ex46 rfl z_l1 (by omega) (by omega)
          refine lv_iinc (v := x46) (lv' := [(2, .int x46), (4, .int y2), (3, .int y3), (0, .ref (ad 0)), (1, .int a1)]) hx hb dX12_count_26 hl (k := 2) rfl (by rw [ex46]; rfl) (by decide) rfl (fun ls hl => ?_)
          refine lv_aload_n hx hb dX12_count_29 rfl (lv_at hl 3 rfl) ?_
          refine z_get (T := TX12) (N := 96) (ci := 12) (i := 0) (v := .ref (ad 40)) hx hb hts zj_X12_count_X12 hown hK hW rfl rfl 63 (by decide) (hts (.fieldLink RX12 136 "PetrolBoardModel" "pourJudged" "[I") (me_s (me_l (List.mem_of_getElem? (i := 1) rfl)))) (fun _ h => h) rfl dX12_count_30 ?_
          refine lv_iload hx hb dX12_count_33 (lv_at hl 1 rfl) ?_
          refine z_iald (i := 40) hx hb hK hW rfl (z_ix rfl (by omega) (by omega)) dX12_count_35 ?_
          refine z_topi (v := x32) ex32.symm ?_
          refine lv_if_le (tgt := 42) hx hb dX12_count_36 (by decide) (fun c47 => ?_) (fun c47 => (by have g := z_f_nle rfl z_l0 c47; omega))
          have g48 := z_f_le rfl z_l0 c47
          obtain ⟨x49, ex49⟩ : ∃ y : Int32, y = y2 + 1 := ⟨_, rfl⟩
          have tx49 : x49.toInt = y2.toInt + 1 := z_tadd ex49 rfl z_l1 (by omega) (by omega)
          refine lv_iinc (v := x49) (lv' := [(4, .int x49), (2, .int x46), (3, .int y3), (0, .ref (ad 0)), (1, .int a1)]) hx hb dX12_count_42 hl (k := 1) rfl (by rw [ex49]; rfl) (by decide) rfl (fun ls hl => ?_)
          refine lv_goto (tgt := 7) hx hb dX12_count_45 (by decide) ?_
          exact lp1ih x49 y3 x46 _ _ _ (by omega) (by omega) (by omega) (by omega) (by omega) (by omega) ⟨by rw [show x49.toNatClampNeg = y2.toNatClampNeg + 1 from z_cln (by omega) (by omega)]; first | (rw [zt_g_y (by omega)]; omega) | (rw [zt_g_n (by omega)]; omega), by rw [show x49.toNatClampNeg = y2.toNatClampNeg + 1 from z_cln (by omega) (by omega)]; first | (rw [zt_o_y (by omega)]; omega) | (rw [zt_o_n (by omega)]; omega), by omega, by omega, by omega⟩ hW hS (lv_sub hl [0, 2, 1, 3, 4] rfl)
  exact lp1 4294967296 (0) (0) (0) _ _ _ (z_m0u _) (by rw [z_l0]; omega) (by rw [z_l0]; omega) (by rw [z_l0]; omega) (by rw [z_l0]; omega) (by rw [z_l0]; omega) ⟨by rw [show (0 : Int32).toNatClampNeg = 0 by decide]; rfl, by rw [show (0 : Int32).toNatClampNeg = 0 by decide]; rfl, by omega, by omega, by have q0 := z_l0; omega⟩ hW hS (lv_sub hl [0, 1, 2, 3, 4] rfl)
end SG60zf
