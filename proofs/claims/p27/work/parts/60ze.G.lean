section SG60ze


/-! deals -/
noncomputable def zd_S (U : Nat → Int) : Nat → Int
  | 0 => 0
  | n + 1 => zd_S U n + U n
theorem zd_S_s {U : Nat → Int} {n : Nat} : zd_S U (n + 1) = zd_S U n + U n := rfl
theorem zd_S_c {U V : Nat → Int} : ∀ n : Nat, (∀ j, j < n → V j = U j) → zd_S V n = zd_S U n
  | 0, _ => rfl
  | n + 1, h => by rw [zd_S, zd_S, zd_S_c n (fun j hj => h j (by omega)), h n (Nat.lt_succ_self n)]
/-- the best bidder that isn't served: the first of the highest, -1 if none -/
noncomputable def zd_b (B : Nat → Int) (sv : Nat → Bool) : Nat → Int
  | 0 => -1
  | h + 1 => if sv h = false ∧ (zd_b B sv h = -1 ∨ B (zd_b B sv h).toNat < B h) then (h : Int) else zd_b B sv h
theorem zd_b_y {B : Nat → Int} {sv : Nat → Bool} {h : Nat} (q : sv h = false ∧ (zd_b B sv h = -1 ∨ B (zd_b B sv h).toNat < B h)) : zd_b B sv (h + 1) = (h : Int) := if_pos q
theorem zd_b_n {B : Nat → Int} {sv : Nat → Bool} {h : Nat} (q : ¬ (sv h = false ∧ (zd_b B sv h = -1 ∨ B (zd_b B sv h).toNat < B h))) : zd_b B sv (h + 1) = zd_b B sv h := if_neg q
theorem zd_b_b {B : Nat → Int} {sv : Nat → Bool} : ∀ n : Nat, -1 ≤ zd_b B sv n ∧ zd_b B sv n < (n : Int)
  | 0 => ⟨Int.le_refl _, by show (-1 : Int) < 0; decide⟩
  | n + 1 => by
    have ih := zd_b_b (B := B) (sv := sv) n
    rw [zd_b]
    split
    · omega
    · omega
theorem zd_b_c {B B1 : Nat → Int} {sv sv1 : Nat → Bool} : ∀ n : Nat, (∀ j, j < n → B1 j = B j ∧ sv1 j = sv j) → zd_b B1 sv1 n = zd_b B sv n
  | 0, _ => rfl
  | n + 1, h => by
    have ih := zd_b_c n (fun j hj => h j (by omega))
    have bd := zd_b_b (B := B) (sv := sv) n
    rw [zd_b, zd_b, ih, (h n (Nat.lt_succ_self n)).1, (h n (Nat.lt_succ_self n)).2]
    by_cases q : zd_b B sv n = -1
    · rw [q]
      simp only [true_or]
    · rw [(h (zd_b B sv n).toNat (by omega)).1]
/-- the way of the sale: the deal, who is served, what is left -/
noncomputable def zd_f (B N : Nat → Int) (n : Nat) (D0 : Nat → Int) (l0 : Int) : Nat → (Nat → Int) × (Nat → Bool) × Int
  | 0 => (D0, fun _ => false, l0)
  | k + 1 => if zd_b B (zd_f B N n D0 l0 k).2.1 n = -1 then zd_f B N n D0 l0 k else (fun j => if j = (zd_b B (zd_f B N n D0 l0 k).2.1 n).toNat then min (zd_f B N n D0 l0 k).2.2 (N (zd_b B (zd_f B N n D0 l0 k).2.1 n).toNat) else (zd_f B N n D0 l0 k).1 j, fun j => if j = (zd_b B (zd_f B N n D0 l0 k).2.1 n).toNat then true else (zd_f B N n D0 l0 k).2.1 j, (zd_f B N n D0 l0 k).2.2 - min (zd_f B N n D0 l0 k).2.2 (N (zd_b B (zd_f B N n D0 l0 k).2.1 n).toNat))
theorem zd_f_n {B N D0 : Nat → Int} {n k : Nat} {l0 : Int} (h : zd_b B (zd_f B N n D0 l0 k).2.1 n = -1) : zd_f B N n D0 l0 (k + 1) = zd_f B N n D0 l0 k := if_pos h
theorem zd_f_st {B N D0 : Nat → Int} {n k : Nat} {l0 : Int} (h : zd_b B (zd_f B N n D0 l0 k).2.1 n = -1) : ∀ d : Nat, zd_f B N n D0 l0 (k + d) = zd_f B N n D0 l0 k
  | 0 => rfl
  | d + 1 => by
    have ih := zd_f_st h d
    show zd_f B N n D0 l0 (k + d + 1) = _
    rw [zd_f_n (by rw [ih]; exact h), ih]
theorem zd_f_y {B N D0 : Nat → Int} {n k : Nat} {l0 b : Int} (hb : zd_b B (zd_f B N n D0 l0 k).2.1 n = b) (h : ¬ b = -1) : zd_f B N n D0 l0 (k + 1) = (fun j => if j = b.toNat then min (zd_f B N n D0 l0 k).2.2 (N b.toNat) else (zd_f B N n D0 l0 k).1 j, fun j => if j = b.toNat then true else (zd_f B N n D0 l0 k).2.1 j, (zd_f B N n D0 l0 k).2.2 - min (zd_f B N n D0 l0 k).2.2 (N b.toNat)) := by
  rw [zd_f, hb, if_neg h]
theorem zd_fi_s {I : z_I} {i b : Nat} {v : Int32} : z_fi I i v i b = v := by simp [z_fi]
noncomputable def zd_u (I : z_I) (j : Nat) : Int := (I 73 j).toInt
noncomputable def zd_v (I : z_I) (j : Nat) : Bool := decide (¬ (I 74 j).toInt = 0)
noncomputable def zd_B (I : z_I) (j : Nat) : Int := (I 5 j).toInt
noncomputable def zd_N (I : z_I) (j : Nat) : Int := (I 6 j).toInt
noncomputable def zd_F (I : z_I) : Nat → (Nat → Int) × (Nat → Bool) × Int := zd_f (zd_B I) (zd_N I) (I 72 2).toNatClampNeg (zd_u I) (zd_S (zd_u I) (I 72 2).toNatClampNeg)
/-- one turn of the sale -/
theorem zd_step {I In K K1 : z_I} {k : Nat} {b o v le le1 : Int32} (hU : ∀ j, (In 73 j).toInt = (zd_F I k).1 j) (hS : ∀ j, zd_v In j = (zd_F I k).2.1 j) (hl : le.toInt = (zd_F I k).2.2) (hb : zd_b (zd_B I) (zd_F I k).2.1 (I 72 2).toNatClampNeg = b.toInt) (h0 : 0 ≤ b.toInt) (eK : K = z_up In 74 b.toNatClampNeg o) (ho : ¬ o.toInt = 0) (eK1 : K1 = z_up K 73 b.toNatClampNeg v) (hv : v.toInt = min le.toInt (I 6 b.toNatClampNeg).toInt) (hl1 : le1.toInt = le.toInt - v.toInt) : (∀ j, (K1 73 j).toInt = (zd_F I (k + 1)).1 j) ∧ (∀ j, zd_v K1 j = (zd_F I (k + 1)).2.1 j) ∧ le1.toInt = (zd_F I (k + 1)).2.2 := by
  have e : zd_F I (k + 1) = _ := zd_f_y hb (by omega)
  have eb : b.toInt.toNat = b.toNatClampNeg := rfl
  rw [e, eb]
  refine ⟨fun j => ?_, fun j => ?_, ?_⟩
  · rw [eK1, z_up_j, eK, z_up_n (by decide)]
    show _ = if j = b.toNatClampNeg then min (zd_F I k).2.2 (zd_N I b.toNatClampNeg) else (zd_F I k).1 j
    by_cases q : j = b.toNatClampNeg
    · rw [if_pos q, if_pos q, hv, hl]
      rfl
    · rw [if_neg q, if_neg q]
      exact hU j
  · show zd_v K1 j = if j = b.toNatClampNeg then true else (zd_F I k).2.1 j
    unfold zd_v
    rw [eK1, z_up_n (by decide), eK, z_up_j]
    by_cases q : j = b.toNatClampNeg
    · rw [if_pos q, if_pos q]
      exact decide_eq_true ho
    · rw [if_neg q, if_neg q]
      exact hS j
  · show _ = (zd_F I k).2.2 - min (zd_F I k).2.2 (zd_N I b.toNatClampNeg)
    rw [hl1, hv, hl]
    rfl
theorem zd_f_c {B N D0 D1 : Nat → Int} {n : Nat} {l0 : Int} (h : ∀ j, j < n → D1 j = D0 j) : ∀ k : Nat, (∀ j, j < n → (zd_f B N n D1 l0 k).1 j = (zd_f B N n D0 l0 k).1 j) ∧ (zd_f B N n D1 l0 k).2 = (zd_f B N n D0 l0 k).2
  | 0 => ⟨h, rfl⟩
  | k + 1 => by
    obtain ⟨h1, h2⟩ := zd_f_c (B := B) (N := N) (l0 := l0) h k
    by_cases q : zd_b B (zd_f B N n D0 l0 k).2.1 n = -1
    · rw [zd_f_n q, zd_f_n (by rw [h2]; exact q)]
      exact ⟨h1, h2⟩
    · rw [zd_f_y rfl q, zd_f_y (by rw [h2]) q, h2]
      refine ⟨fun j hj => ?_, rfl⟩
      show (if _ then _ else (zd_f B N n D1 l0 k).1 j) = if _ then _ else (zd_f B N n D0 l0 k).1 j
      rw [h1 j hj]
theorem zd_on {x : Int32} (h : 0 ≤ x.toInt) : Int32.ofNat x.toNatClampNeg = x := by
  apply Int32.toInt_inj.mp
  have e := z_clt (x := x) rfl h
  have h2 := Int32.toInt_lt x
  rw [show (Int32.ofNat x.toNatClampNeg).toInt = (x.toNatClampNeg : Int) from nI_toInt (by omega)]
  exact e
/-- UNITS as a number -/
noncomputable def zd_U (c : z_C) (I : z_I) (SS : Nat → List zp_T) (m : Int) (h : Nat) : Int := Classical.epsilon (fun r => zv_UX c I SS (Int32.ofNat h) m (I 0 0).toInt r)
theorem zd_U_e {c : z_C} {I : z_I} {SS : Nat → List zp_T} {m r : Int} {x : Int32} (h0 : 0 ≤ x.toInt) (h : zv_UX c I SS x m (I 0 0).toInt r) : r = zd_U c I SS m x.toNatClampNeg := sorry
theorem zv_UX_c {c : z_C} {I K : z_I} {SS : Nat → List zp_T} {x : Int32} {m kn r : Int} (e2 : ∀ a q, 200 ≤ a → K a q = I a q) (e3 : z_nsX K I) (e4 : K 1 11 = I 1 11) (e6 : ∀ j, K 2 j = I 2 j ∧ K 3 j = I 3 j) (h : zv_UX c K SS x m kn r) : zv_UX c I SS x m kn r := by
  have a1 : zi_mo K = zi_mo I := funext fun j => by unfold zi_mo; rw [e2 _ _ (by omega)]
  have a2 : zi_td K = zi_td I := funext fun j => by unfold zi_td; rw [e2 _ _ (by omega)]
  have a3 : zv_AU K x m kn = zv_AU I x m kn := by
    unfold zv_AU
    rw [e4, z_kx_c e3, (e6 _).1, (e6 _).2]
  unfold zv_UX at *
  rw [a1, a2, a3] at h
  exact h
/-- the deal -/
noncomputable def zd_D (U B N : Nat → Int) (n : Nat) (way : Int) (h : Nat) : Int := if way = 1 then zd_S U n / (n : Int) else if way = 2 then (zd_f B N n U (zd_S U n) n).1 h else U h
theorem zd_D_1 {U B N : Nat → Int} {n h : Nat} {way : Int} (q : way = 1) : zd_D U B N n way h = zd_S U n / (n : Int) := if_pos q
theorem zd_D_2 {U B N : Nat → Int} {n h : Nat} {way : Int} (q : way = 2) : zd_D U B N n way h = (zd_f B N n U (zd_S U n) n).1 h := by
  unfold zd_D
  rw [if_neg (by omega), if_pos q]
theorem zd_D_0 {U B N : Nat → Int} {n h : Nat} {way : Int} (q : ¬ way = 1) (q2 : ¬ way = 2) : zd_D U B N n way h = U h := by
  unfold zd_D
  rw [if_neg q, if_neg q2]
/-- how many stay -/
noncomputable def zd_C (D N : Nat → Int) : Nat → Int
  | 0 => 0
  | n + 1 => zd_C D N n + if N n ≤ D n then 1 else 0
theorem zd_C_y {D N : Nat → Int} {n : Nat} (h : N n ≤ D n) : zd_C D N (n + 1) = zd_C D N n + 1 := by rw [zd_C, if_pos h]
theorem zd_C_n {D N : Nat → Int} {n : Nat} (h : ¬ N n ≤ D n) : zd_C D N (n + 1) = zd_C D N n := by rw [zd_C, if_neg h, Int.add_zero]
theorem zd_C_c {D N D1 N1 : Nat → Int} : ∀ n : Nat, (∀ j, j < n → D1 j = D j ∧ N1 j = N j) → zd_C D1 N1 n = zd_C D N n
  | 0, _ => rfl
  | n + 1, h => by rw [zd_C, zd_C, zd_C_c n (fun j hj => h j (by omega)), (h n (Nat.lt_succ_self n)).1, (h n (Nat.lt_succ_self n)).2]
theorem zd_X_c {c : z_C} {I K : z_I} {SS : Nat → List zp_T} (h : zv_W c I SS) (e1 : K 21 2 = I 21 2) (e2 : ∀ a q, 200 ≤ a → K a q = I a q) (e3 : z_nsX K I) (e4 : K 1 11 = I 1 11) (e5 : K 1 5 = I 1 5) (e6 : ∀ j, K 2 j = I 2 j ∧ K 3 j = I 3 j) : zv_W c K SS := by
  obtain ⟨h1, h2, h3, h4, h5⟩ := h
  refine ⟨by rw [e1]; exact h1, fun j hj => by rw [e2 _ _ (by omega)]; exact h2 j hj, fun k hk => zv_ss_c (h3 k hk) e2, fun a d kn => ?_, fun j hj => ?_⟩
  · rw [e4, z_kx_c e3]
    exact h4 a d kn
  · rw [(e6 j).1, (e6 j).2]
    exact h5 j (by rw [e5] at hj; exact hj)
/-! the reference's deals -/
noncomputable def zd_w (I : z_I) (j : Nat) : Int := (I 69 j).toInt
noncomputable def zd_i (I : z_I) (j : Nat) : Bool := decide (¬ (I 70 j).toInt = 0)
noncomputable def zd_BM (I : z_I) (j : Nat) : Int := (I 4 j).toInt
noncomputable def zd_NM (I : z_I) (j : Nat) : Int := (I 5 j).toInt
noncomputable def zd_V (I : z_I) (RS : Nat → List zm_row) (m : Int) (h : Nat) : Int := Classical.epsilon (fun r => zw_UX I RS (Int32.ofNat h) m (I 0 0).toInt r)
theorem zd_V_e {I : z_I} {RS : Nat → List zm_row} {m r : Int} {x : Int32} (h0 : 0 ≤ x.toInt) (h : zw_UX I RS x m (I 0 0).toInt r) : r = zd_V I RS m x.toNatClampNeg := sorry
theorem zw_UX_b {I : z_I} {RS : Nat → List zm_row} {h : Int32} {m kn r : Int} (hU : zw_UX I RS h m kn r) : 0 ≤ r ∧ r ≤ 99 := by
  obtain ⟨b, _, ⟨_, q⟩ | ⟨k, _, _, q⟩⟩ := hU
  · omega
  · rw [q]
    exact zv_un_b
theorem zw_UX_c {I K : z_I} {RS : Nat → List zm_row} {x : Int32} {m kn r : Int} (e1 : K 0 13 = I 0 13) (e2 : ∀ j, K 13 j = I 13 j ∧ K 14 j = I 14 j) (e3 : z_nsM K I) (e4 : K 0 2 = I 0 2) (e6 : ∀ j, K 1 j = I 1 j ∧ K 2 j = I 2 j) (h : zw_UX K RS x m kn r) : zw_UX I RS x m kn r := by
  have a1 : zi_km K = zi_km I := funext fun j => by unfold zi_km; rw [(e2 j).1]
  have a2 : zi_kt K = zi_kt I := funext fun j => by unfold zi_kt; rw [(e2 j).2]
  have a3 : zw_AU K x m kn = zw_AU I x m kn := by
    unfold zw_AU
    rw [e4, z_kmr_c e3, (e6 _).1, (e6 _).2]
  unfold zw_UX at *
  rw [a1, a2, a3, e1] at h
  exact h
theorem zd_W_c {I K : z_I} {FF : Nat → Nat} {RS : Nat → List zm_row} (h : zw_W I FF RS) (e1 : K 0 13 = I 0 13) (eT : ∀ (t F : Nat) (R : List zm_row), zw_T I t F R → zw_T K t F R) (e3 : z_nsM K I) (e4 : K 0 2 = I 0 2) (e5 : K 0 1 = I 0 1) (e6 : ∀ j, K 1 j = I 1 j ∧ K 2 j = I 2 j) : zw_W K FF RS := by
  obtain ⟨h1, h2, h3⟩ := h
  refine ⟨fun t ht => eT _ _ _ (h1 t (by rw [e1] at ht; exact ht)), fun a d kn => ?_, fun j hj => ?_⟩
  · rw [e4, z_kmr_c e3]
    exact h2 a d kn
  · rw [(e6 j).1, (e6 j).2]
    exact h3 j (by rw [e5] at hj; exact hj)
/-- one turn of the reference's sale -/
theorem zd_stepM {B N D0 : Nat → Int} {n k : Nat} {l0 : Int} {In K K1 : z_I} {b o v le le1 : Int32} (hU : ∀ j, j < n → (In 69 j).toInt = (zd_f B N n D0 l0 k).1 j) (hS : ∀ j, j < n → zd_i In j = (zd_f B N n D0 l0 k).2.1 j) (hl : le.toInt = (zd_f B N n D0 l0 k).2.2) (hb : b.toInt = zd_b B (zd_i In) n) (h0 : 0 ≤ b.toInt) (eK : K = z_up In 70 b.toNatClampNeg o) (ho : ¬ o.toInt = 0) (eK1 : K1 = z_up K 69 b.toNatClampNeg v) (hv : v.toInt = min le.toInt (N b.toNatClampNeg)) (hl1 : le1.toInt = le.toInt - v.toInt) : (∀ j, j < n → (K1 69 j).toInt = (zd_f B N n D0 l0 (k + 1)).1 j) ∧ (∀ j, j < n → zd_i K1 j = (zd_f B N n D0 l0 (k + 1)).2.1 j) ∧ le1.toInt = (zd_f B N n D0 l0 (k + 1)).2.2 := by
  have hb2 : zd_b B (zd_f B N n D0 l0 k).2.1 n = b.toInt := by
    rw [hb]
    exact zd_b_c n (fun j hj => ⟨rfl, (hS j hj).symm⟩)
  have e := zd_f_y hb2 (by omega)
  have eb : b.toInt.toNat = b.toNatClampNeg := rfl
  rw [e, eb]
  refine ⟨fun j hj => ?_, fun j hj => ?_, ?_⟩
  · rw [eK1, z_up_j, eK, z_up_n (by decide)]
    show _ = if j = b.toNatClampNeg then min (zd_f B N n D0 l0 k).2.2 (N b.toNatClampNeg) else (zd_f B N n D0 l0 k).1 j
    by_cases q : j = b.toNatClampNeg
    · rw [if_pos q, if_pos q, hv, hl]
    · rw [if_neg q, if_neg q]
      exact hU j hj
  · show zd_i K1 j = if j = b.toNatClampNeg then true else (zd_f B N n D0 l0 k).2.1 j
    unfold zd_i
    rw [eK1, z_up_n (by decide), eK, z_up_j]
    by_cases q : j = b.toNatClampNeg
    · rw [if_pos q, if_pos q]
      exact decide_eq_true ho
    · rw [if_neg q, if_neg q]
      exact hS j hj
  · show _ = (zd_f B N n D0 l0 k).2.2 - min (zd_f B N n D0 l0 k).2.2 (N b.toNatClampNeg)
    rw [hl1, hv, hl]
/-! both deals are equal -/
theorem zd_f_bn {B N B1 N1 D0 : Nat → Int} {n : Nat} {l0 : Int} (h : ∀ j, j < n → B1 j = B j ∧ N1 j = N j) : ∀ k : Nat, zd_f B1 N1 n D0 l0 k = zd_f B N n D0 l0 k := sorry
theorem zd_D_c {U V B N B1 N1 : Nat → Int} {n : Nat} {way : Int} (hU : ∀ j, j < n → V j = U j) (hB : ∀ j, j < n → B1 j = B j ∧ N1 j = N j) : ∀ j, j < n → zd_D V B1 N1 n way j = zd_D U B N n way j := fun j hj => by
  unfold zd_D
  rw [zd_S_c n hU, zd_f_bn hB, (zd_f_c hU n).1 j hj, hU j hj]
theorem zd_UV {c : z_C} {Ix Im : z_I} {RS : Nat → List zm_row} {FF : Nat → Nat} {h : Int32} {m kn r : Int} (hCH : ∀ k, k < c.2.1 → zw_T Im k (FF k) (RS k) ∧ zv_ss c Ix k ((RS k).map Prod.fst) ∧ zi_mo Ix k = zi_km Im k ∧ zi_td Ix k = zi_kt Im k ∧ 0 ≤ zi_mo Ix k) (hn : (Im 0 13).toNatClampNeg = c.2.1) (hA : zv_AU Ix h m kn = zw_AU Im h m kn) : zv_UX c Ix (fun k => (RS k).map Prod.fst) h m kn r ↔ zw_UX Im RS h m kn r := by
  have hc : ∀ j, j < c.2.1 → zi_mo Ix j = zi_km Im j ∧ zi_td Ix j = zi_kt Im j := fun j hj => ⟨(hCH j hj).2.2.1, (hCH j hj).2.2.2.1⟩
  unfold zv_UX zw_UX zi_R
  rw [hA, hn]
  constructor
  · intro h9
    obtain ⟨b, hb, q⟩ := h9
    exact ⟨b, zi_B_c (fun j hj => ⟨(hc j hj).1.symm, (hc j hj).2.symm⟩) hb, q⟩
  · intro h9
    obtain ⟨b, hb, q⟩ := h9
    exact ⟨b, zi_B_c hc hb, q⟩
theorem zd_HM {Ix Im : z_I} (h : z_RH Ix Im) (eN : (Im 0 1).toInt = (Ix 1 5).toInt) : ∀ j : Nat, (j : Int) < (Im 0 1).toInt → 0 ≤ (Im 5 j).toInt ∧ (Im 5 j).toInt ≤ 99 := fun j hj => by
  obtain ⟨⟨_, _, _, _, e⟩, _, _, _, _, r⟩ := h j (by omega)
  rw [← e]
  exact r
theorem zd_VU {c : z_C} {Ix Im : z_I} {RS : Nat → List zm_row} {FF : Nat → Nat} {m : Int} {j : Nat} (hCH : ∀ k, k < c.2.1 → zw_T Im k (FF k) (RS k) ∧ zv_ss c Ix k ((RS k).map Prod.fst) ∧ zi_mo Ix k = zi_km Im k ∧ zi_td Ix k = zi_kt Im k ∧ 0 ≤ zi_mo Ix k) (hn : (Im 0 13).toNatClampNeg = c.2.1) (hRH : z_RH Ix Im) (hRN : z_RN Ix Im) (hN : (Ix 1 11).toInt = (Im 0 2).toInt) (h0 : 0 ≤ (Ix 1 11).toInt) (hT : (Im 0 0).toInt = (Ix 0 0).toInt) (hk : (Ix 0 0).toInt ≤ 719) (hj : (j : Int) < (Ix 1 5).toInt) (hb : (Ix 1 5).toInt ≤ 30) : zd_V Im RS m j = zd_U c Ix (fun k => (RS k).map Prod.fst) m j := by
  have ej : (Int32.ofNat j).toInt = (j : Int) := nI_toInt (by omega)
  have e : (fun r => zw_UX Im RS (Int32.ofNat j) m (Ix 0 0).toInt r) = (fun r => zv_UX c Ix (fun k => (RS k).map Prod.fst) (Int32.ofNat j) m (Ix 0 0).toInt r) := funext fun r => propext (zd_UV hCH hn (z_UA hRH hRN hN h0 hk (by omega))).symm
  unfold zd_V zd_U
  rw [hT]
  exact congrArg (fun p => Classical.epsilon p) e
theorem zd_DE {c : z_C} {Ix Im : z_I} {RS : Nat → List zm_row} {FF : Nat → Nat} {m way : Int} (hCH : ∀ k, k < c.2.1 → zw_T Im k (FF k) (RS k) ∧ zv_ss c Ix k ((RS k).map Prod.fst) ∧ zi_mo Ix k = zi_km Im k ∧ zi_td Ix k = zi_kt Im k ∧ 0 ≤ zi_mo Ix k) (hn : (Im 0 13).toNatClampNeg = c.2.1) (hRH : z_RH Ix Im) (hRN : z_RN Ix Im) (hN : (Ix 1 11).toInt = (Im 0 2).toInt) (h0 : 0 ≤ (Ix 1 11).toInt) (hT : (Im 0 0).toInt = (Ix 0 0).toInt) (hk : (Ix 0 0).toInt ≤ 719) (hH : (Im 0 1).toInt = (Ix 1 5).toInt) (hb : 0 ≤ (Ix 1 5).toInt ∧ (Ix 1 5).toInt ≤ 30) : (Im 0 1).toNatClampNeg = (Ix 1 5).toNatClampNeg ∧ ∀ j : Nat, j < (Ix 1 5).toNatClampNeg → zd_D (zd_V Im RS m) (zd_BM Im) (zd_NM Im) (Ix 1 5).toNatClampNeg way j = zd_D (zd_U c Ix (fun k => (RS k).map Prod.fst) m) (zd_B Ix) (zd_N Ix) (Ix 1 5).toNatClampNeg way j ∧ zd_NM Im j = zd_N Ix j := by
  have c1 := z_clt (x := Ix 1 5) rfl hb.1
  have hR : ∀ j : Nat, j < (Ix 1 5).toNatClampNeg → zd_BM Im j = zd_B Ix j ∧ zd_NM Im j = zd_N Ix j := fun j hj => by
    obtain ⟨⟨_, _, _, e4, e5⟩, _⟩ := hRH j (by omega)
    unfold zd_BM zd_B zd_NM zd_N
    rw [e4, e5]
    exact ⟨rfl, rfl⟩
  refine ⟨congrArg Int.toNat hH, fun j hj => ⟨?_, (hR j hj).2⟩⟩
  exact zd_D_c (fun i hi => zd_VU hCH hn hRH hRN hN h0 hT hk (by omega) hb.2) hR j hj
set_option maxHeartbeats 8000000 in
set_option maxRecDepth 100000 in
theorem sx_X1_together_d (l : Launch) (G : z_G) (ad : Nat → Nat) (c : z_C) (I : z_I) (hD : z_iD I) (hU : ∀ j : Nat, (j : Int) < (I 72 2).toInt → 0 ≤ (I 73 j).toInt ∧ (I 73 j).toInt ≤ 99) : z_M l yX1_together wsX1_together { frames := 1, cells := 0, slots := 0, locals := 12 } [.ref (ad 72)] G (shC c, ad, I, JX, PC c ad) (fun r u1 => u1 = (shC c, ad, I, JX, PC c ad) ∧ (r.toInt = zd_S (zd_u I) (I 72 2).toNatClampNeg ∧ 0 ≤ r.toInt ∧ r.toInt ≤ 2970)) 0 0 := sorry
set_option maxHeartbeats 8000000 in
set_option maxRecDepth 100000 in
theorem sx_X1_bestBidder_d (l : Launch) (G : z_G) (ad : Nat → Nat) (c : z_C) (I : z_I) (hD : z_iD I) (hH : z_iH I) (hn : (I 72 2).toInt ≤ (I 1 5).toInt) : z_M l yX1_bestBidder wsX1_bestBidder { frames := 2, cells := 0, slots := 0, locals := 33 } [.ref (ad 72), .ref (ad 1)] G (shC c, ad, I, JX, PC c ad) (fun r u1 => u1 = (shC c, ad, I, JX, PC c ad) ∧ (r.toInt = zd_b (zd_B I) (zd_v I) (I 72 2).toNatClampNeg)) 0 0 := sorry
noncomputable def L_X1_put_d : z_L := [(73, 999), (72, 2)]
set_option maxHeartbeats 8000000 in
set_option maxRecDepth 100000 in
theorem sx_X1_put_d (l : Launch) (G : z_G) (ad : Nat → Nat) (c : z_C) (I : z_I) (hD : z_iD I) (a1 : Int32) (hq : (I 72 2).toInt < 30) : z_Mv l yX1_put wsX1_put { frames := 1, cells := 0, slots := 0, locals := 12 } [.ref (ad 72), .int a1] G (shC c, ad, I, JX, PC c ad) (fun u1 => ∃ I1 : z_I, u1 = (shC c, ad, I1, JX, PC c ad) ∧ z_iD I1 ∧ z_fr L_X1_put_d I1 I ∧ (∀ j, I1 73 j = if j = (I 72 2).toNatClampNeg then a1 else I 73 j) ∧ (I1 72 2).toInt = (I 72 2).toInt + 1) 0 0 := by
  intro sz
  refine z_headQ (cc := cX1_put) (maxL := 2) (ret := none) (by decide) rfl (Nat.le_of_ble_eq_true rfl) ?_
  intro p e s m below meth c0 ls hIn hK hsz hW hl
  obtain ⟨hx, hb, hr, hml, hown, hts, hlocks, hname⟩ := hIn
  subst hsz
  have hown : s.vm.findClass RX1 = some m.cls := hown
  have hA : ∀ q : Nat, s.heap.size ≤ q → z_A (shC c, ad, I, JX, PC c ad) s.heap.size q := fun q h => Or.inr h
  generalize hAe : z_A (shC c, ad, I, JX, PC c ad) s.heap.size = A at *
  have hS : va_S A s.heap s.heap [] := va_S.rf
  have hl : lv_has ls 2 [(0, .ref (ad 72)), (1, .int a1)] := hl
  refine lv_aload_n hx hb dX1_put_0 rfl (lv_at hl 0 rfl) ?_
  have r1 : 0 ≤ (I 72 2).toInt ∧ (I 72 2).toInt ≤ 30 := hD
  refine z_get (T := TX1) (N := 3) (ci := 1) (i := 72) (v := .int (I 72 2)) hx hb hts zj_X1_put_X1 hown hK hW rfl rfl 2 (by decide) (hts (.fieldLink RX1 18 "PetrolBoard$Deal" "number" "I") (me_s (me_l (List.mem_of_getElem? (i := 0) rfl)))) (fun _ h => h) rfl dX1_put_1 ?_
  refine lv_aload_n hx hb dX1_put_4 rfl (lv_at hl 0 rfl) ?_
  refine z_get (T := TX1) (N := 3) (ci := 1) (i := 72) (v := .ref (ad 73)) hx hb hts zj_X1_put_X1 hown hK hW rfl rfl 0 (by decide) (hts (.fieldLink RX1 9 "PetrolBoard$Deal" "units" "[I") (me_s (me_l (List.mem_of_getElem? (i := 1) rfl)))) (fun _ h => h) rfl dX1_put_5 ?_
  refine z_alen (i := 73) (v := 30) hx hb hK hW rfl (by simp [z_tys]) (by rfl) dX1_put_8 ?_
  refine lv_icmp_ge (tgt := 32) hx hb dX1_put_9 (by decide) (fun c2 => ?_) (fun c2 => ?_)
  · have g3 := z_f_ge rfl z_l30 c2
    exact z_vret hx hb hr hK hS (Nat.le_of_ble_eq_true rfl) (Nat.le_of_ble_eq_true rfl) hlocks dX1_put_32 (shC c, ad, I, JX, PC c ad) hW ⟨I, rfl, (by show 0 ≤ (I 72 2).toInt ∧ (I 72 2).toInt ≤ 30; exact hD), z_fr_0, (by exfalso; omega)⟩
  · have g4 := z_f_nge rfl z_l30 c2
    refine lv_aload_n hx hb dX1_put_12 rfl (lv_at hl 0 rfl) ?_
    refine z_get (T := TX1) (N := 3) (ci := 1) (i := 72) (v := .ref (ad 73)) hx hb hts zj_X1_put_X1 hown hK hW rfl rfl 0 (by decide) (hts (.fieldLink RX1 9 "PetrolBoard$Deal" "units" "[I") (me_s (me_l (List.mem_of_getElem? (i := 1) rfl)))) (fun _ h => h) rfl dX1_put_13 ?_
    refine lv_aload_n hx hb dX1_put_16 rfl (lv_at hl 0 rfl) ?_
    refine z_get (T := TX1) (N := 3) (ci := 1) (i := 72) (v := .int (I 72 2)) hx hb hts zj_X1_put_X1 hown hK hW rfl rfl 2 (by decide) (hts (.fieldLink RX1 18 "PetrolBoard$Deal" "number" "I") (me_s (me_l (List.mem_of_getElem? (i := 0) rfl)))) (fun _ h => h) rfl dX1_put_17 ?_
    refine lv_iload_n hx hb dX1_put_20 rfl (lv_at hl 1 rfl) ?_
    refine z_iast (i := 73) hx hb hK hW hS rfl (z_ix rfl (by omega) (by omega)) dX1_put_21 (fun H locs hz1 hW hS => ?_)
    obtain ⟨I5, eI5⟩ : ∃ K : z_I, K = z_up I 73 (I 72 2).toNatClampNeg a1 := ⟨_, rfl⟩
    rw [← eI5] at hW
    have f6 := z_fr_a z_fr_0 (show z_wa L_X1_put_d 73 = true by decide) eI5
    refine lv_aload_n hx hb dX1_put_22 rfl (lv_at hl 0 rfl) ?_
    refine lv_dup hx hb dX1_put_23 rfl ?_
    refine z_get (T := TX1) (N := 3) (ci := 1) (i := 72) (v := .int (I 72 2)) hx hb hts zj_X1_put_X1 hown hK hW rfl rfl 2 (by decide) (hts (.fieldLink RX1 18 "PetrolBoard$Deal" "number" "I") (me_s (me_l (List.mem_of_getElem? (i := 0) rfl)))) (fun _ h => h) (congrArg Value.int (by rw [eI5, z_up_n (by decide)])) dX1_put_24 ?_
    refine lv_iconst (v := 1) hx hb dX1_put_27 (by decide) ?_
    refine lv_iadd hx hb dX1_put_28 ?_
    refine lv_topi (fun x7 ex7 => ?_)
    have tx7 : x7.toInt = (I 72 2).toInt + 1 := z_tadd ex7 rfl z_l1 (by omega) (by omega)
    refine z_put (T := TX1) (N := 3) (ci := 1) (i := 72) (v := .int x7) (I1 := z_up I5 72 2 x7) (J1 := JX) (P1 := PC c ad) hx hb hts zj_X1_put_X1 tyX1 tyX1_ok nmX1 hown hK hW hS rfl rfl 2 (by decide) (hts (.fieldLink RX1 18 "PetrolBoard$Deal" "number" "I") (me_s (me_l (List.mem_of_getElem? (i := 0) rfl)))) (fun _ h => h) rfl rfl rfl (by first | rfl | exact congrArg _ z_up_s) (fun a b h ty => z_vI h ty) dX1_put_29 (fun H locs hz1 hW hS => ?_)
    obtain ⟨I8, eI8⟩ : ∃ K : z_I, K = z_up I5 72 2 x7 := ⟨_, rfl⟩
    rw [← eI8] at hW
    have f9 := z_fr_k f6 (show z_wr L_X1_put_d 72 2 = true by decide) eI8
    exact z_vret hx hb hr hK hS (Nat.le_of_ble_eq_true rfl) (Nat.le_of_ble_eq_true rfl) hlocks dX1_put_32 (shC c, ad, I8, JX, PC c ad) hW ⟨I8, rfl, (by show 0 ≤ (I8 72 2).toInt ∧ (I8 72 2).toInt ≤ 30; rw [eI8, z_up_s]; omega), f9, ⟨(fun j => by rw [eI8, z_up_n (by decide), eI5, z_up_j]), (by have q9 : (I8 72 2) = x7 := (by rw [eI8, z_up_s]); show (I8 72 2).toInt = (I 72 2).toInt + 1; rw [q9]; first | done | omega)⟩⟩
set_option maxHeartbeats 8000000 in
set_option maxRecDepth 100000 in
theorem sx_X1_unitsOf_d (l : Launch) (G : z_G) (ad : Nat → Nat) (c : z_C) (I : z_I) (hD : z_iD I) (a1 : Int32) : z_M l yX1_unitsOf wsX1_unitsOf { frames := 1, cells := 0, slots := 0, locals := 12 } [.ref (ad 72), .int a1] G (shC c, ad, I, JX, PC c ad) (fun r u1 => u1 = (shC c, ad, I, JX, PC c ad) ∧ (((0 ≤ a1.toInt ∧ a1.toInt < (I 72 2).toInt) ∧ r = I 73 a1.toNatClampNeg) ∨ (¬ (0 ≤ a1.toInt ∧ a1.toInt < (I 72 2).toInt) ∧ r.toInt = -1))) 0 0 := by
  intro sz
  refine z_headQ (cc := cX1_unitsOf) (maxL := 2) (ret := (some .int)) (by decide) rfl (Nat.le_of_ble_eq_true rfl) ?_
  intro p e s m below meth c0 ls hIn hK hsz hW hl
  obtain ⟨hx, hb, hr, hml, hown, hts, hlocks, hname⟩ := hIn
  subst hsz
  have hown : s.vm.findClass RX1 = some m.cls := hown
  have hA : ∀ q : Nat, s.heap.size ≤ q → z_A (shC c, ad, I, JX, PC c ad) s.heap.size q := fun q h => Or.inr h
  generalize hAe : z_A (shC c, ad, I, JX, PC c ad) s.heap.size = A at *
  have hS : va_S A s.heap s.heap [] := va_S.rf
  have hl : lv_has ls 2 [(0, .ref (ad 72)), (1, .int a1)] := hl
  refine lv_iload_n hx hb dX1_unitsOf_0 rfl (lv_at hl 1 rfl) ?_
  refine lv_if_lt (tgt := 30) hx hb dX1_unitsOf_1 (by decide) (fun c1 => ?_) (fun c1 => ?_)
  · have g2 := z_f_lt rfl z_l0 c1
    have b3 := Int32.toInt_lt a1
    refine lv_iconst (v := (-1)) hx hb dX1_unitsOf_30 (by decide) ?_
    exact z_iret hx hb hr hK hS (Nat.le_of_ble_eq_true rfl) (Nat.le_of_ble_eq_true rfl) hlocks dX1_unitsOf_31 (shC c, ad, I, JX, PC c ad) hW ⟨rfl, (Or.inr ⟨by omega, by decide⟩)⟩
  · have g4 := z_f_nlt rfl z_l0 c1
    have b5 := Int32.toInt_lt a1
    refine lv_iload_n hx hb dX1_unitsOf_4 rfl (lv_at hl 1 rfl) ?_
    refine lv_aload_n hx hb dX1_unitsOf_5 rfl (lv_at hl 0 rfl) ?_
    have r6 : 0 ≤ (I 72 2).toInt ∧ (I 72 2).toInt ≤ 30 := hD
    refine z_get (T := TX1) (N := 3) (ci := 1) (i := 72) (v := .int (I 72 2)) hx hb hts zj_X1_unitsOf_X1 hown hK hW rfl rfl 2 (by decide) (hts (.fieldLink RX1 18 "PetrolBoard$Deal" "number" "I") (me_s (me_l (List.mem_of_getElem? (i := 0) rfl)))) (fun _ h => h) rfl dX1_unitsOf_6 ?_
    refine lv_icmp_ge (tgt := 30) hx hb dX1_unitsOf_9 (by decide) (fun c7 => ?_) (fun c7 => ?_)
    · have g8 := z_f_ge rfl rfl c7
      refine lv_iconst (v := (-1)) hx hb dX1_unitsOf_30 (by decide) ?_
      exact z_iret hx hb hr hK hS (Nat.le_of_ble_eq_true rfl) (Nat.le_of_ble_eq_true rfl) hlocks dX1_unitsOf_31 (shC c, ad, I, JX, PC c ad) hW ⟨rfl, (Or.inr ⟨by omega, by decide⟩)⟩
    · have g9 := z_f_nge rfl rfl c7
      refine lv_iload_n hx hb dX1_unitsOf_12 rfl (lv_at hl 1 rfl) ?_
      refine lv_aload_n hx hb dX1_unitsOf_13 rfl (lv_at hl 0 rfl) ?_
      refine z_get (T := TX1) (N := 3) (ci := 1) (i := 72) (v := .ref (ad 73)) hx hb hts zj_X1_unitsOf_X1 hown hK hW rfl rfl 0 (by decide) (hts (.fieldLink RX1 9 "PetrolBoard$Deal" "units" "[I") (me_s (me_l (List.mem_of_getElem? (i := 1) rfl)))) (fun _ h => h) rfl dX1_unitsOf_14 ?_
      refine z_alen (i := 73) (v := 30) hx hb hK hW rfl (by simp [z_tys]) (by rfl) dX1_unitsOf_17 ?_
      refine lv_icmp_ge (tgt := 30) hx hb dX1_unitsOf_18 (by decide) (fun c10 => (by have g := z_f_ge rfl z_l30 c10; omega)) (fun c10 => ?_)
      have g11 := z_f_nge rfl z_l30 c10
      refine lv_aload_n hx hb dX1_unitsOf_21 rfl (lv_at hl 0 rfl) ?_
      refine z_get (T := TX1) (N := 3) (ci := 1) (i := 72) (v := .ref (ad 73)) hx hb hts zj_X1_unitsOf_X1 hown hK hW rfl rfl 0 (by decide) (hts (.fieldLink RX1 9 "PetrolBoard$Deal" "units" "[I") (me_s (me_l (List.mem_of_getElem? (i := 1) rfl)))) (fun _ h => h) rfl dX1_unitsOf_22 ?_
      refine lv_iload_n hx hb dX1_unitsOf_25 rfl (lv_at hl 1 rfl) ?_
      refine z_iald (i := 73) hx hb hK hW rfl (z_ix rfl (by omega) (by omega)) dX1_unitsOf_26 ?_
      refine lv_topi (fun x12 ex12 => ?_)
      have hv13 : (I 73 a1.toNatClampNeg).toInt = x12.toInt := by rw [ex12]
      have hz14 := z_clt (x := a1) rfl (by omega)
      refine lv_goto (tgt := 31) hx hb dX1_unitsOf_27 (by decide) ?_
      exact z_iret hx hb hr hK hS (Nat.le_of_ble_eq_true rfl) (Nat.le_of_ble_eq_true rfl) hlocks dX1_unitsOf_31 (shC c, ad, I, JX, PC c ad) hW ⟨rfl, (Or.inl ⟨by omega, ex12⟩)⟩
noncomputable def L_X1_alike_d : z_L := [(73, 999)]
set_option maxHeartbeats 8000000 in
set_option maxRecDepth 100000 in
theorem sx_X1_alike_d (l : Launch) (G : z_G) (ad : Nat → Nat) (c : z_C) (I : z_I) (hD : z_iD I) (hU : ∀ j : Nat, (j : Int) < (I 72 2).toInt → 0 ≤ (I 73 j).toInt ∧ (I 73 j).toInt ≤ 99) : z_Mv l yX1_alike wsX1_alike { frames := 2, cells := 0, slots := 0, locals := 34 } [.ref (ad 72)] G (shC c, ad, I, JX, PC c ad) (fun u1 => ∃ I1 : z_I, u1 = (shC c, ad, I1, JX, PC c ad) ∧ z_iD I1 ∧ z_fr L_X1_alike_d I1 I ∧ (∀ j : Nat, (j : Int) < (I 72 2).toInt → (I1 73 j).toInt = zd_S (zd_u I) (I 72 2).toNatClampNeg / (I 72 2).toInt)) 0 0 := by
  intro sz
  refine z_headQ (cc := cX1_alike) (maxL := 3) (ret := none) (by decide) rfl (Nat.le_of_ble_eq_true rfl) ?_
  intro p e s m below meth c0 ls hIn hK hsz hW hl
  obtain ⟨hx, hb, hr, hml, hown, hts, hlocks, hname⟩ := hIn
  subst hsz
  have hown : s.vm.findClass RX1 = some m.cls := hown
  have hA : ∀ q : Nat, s.heap.size ≤ q → z_A (shC c, ad, I, JX, PC c ad) s.heap.size q := fun q h => Or.inr h
  generalize hAe : z_A (shC c, ad, I, JX, PC c ad) s.heap.size = A at *
  have hS : va_S A s.heap s.heap [] := va_S.rf
  have hl : lv_has ls 3 [(0, .ref (ad 72))] := hl
  refine lv_aload_n hx hb dX1_alike_0 rfl (lv_at hl 0 rfl) ?_
  have r1 : 0 ≤ (I 72 2).toInt ∧ (I 72 2).toInt ≤ 30 := hD
  refine z_get (T := TX1) (N := 3) (ci := 1) (i := 72) (v := .int (I 72 2)) hx hb hts zj_X1_alike_X1 hown hK hW rfl rfl 2 (by decide) (hts (.fieldLink RX1 18 "PetrolBoard$Deal" "number" "I") (me_s (me_l (List.mem_of_getElem? (i := 0) rfl)))) (fun _ h => h) rfl dX1_alike_1 ?_
  refine lv_if_le (tgt := 19) hx hb dX1_alike_4 (by decide) (fun c2 => ?_) (fun c2 => ?_)
  · have g3 := z_f_le rfl z_l0 c2
    refine lv_iconst (v := 0) hx hb dX1_alike_19 (by decide) ?_
    refine lv_istore_n (lv' := [(1, .int 0), (0, .ref (ad 72))]) hx hb dX1_alike_20 rfl hl (by decide) rfl (fun ls hl => ?_)
    refine lv_iconst (v := 0) hx hb dX1_alike_21 (by decide) ?_
    refine lv_istore_n (lv' := [(2, .int 0), (1, .int 0), (0, .ref (ad 72))]) hx hb dX1_alike_22 rfl hl (by decide) rfl (fun ls hl => ?_)
    have lp4 : ∀ (f : Nat) (y5 : Int32) (I6 : z_I) (H : Heap) (locs : List Loc) (ls : Array Slot), (2147483647 < y5.toInt + (f : Int)) → (0 ≤ y5.toInt) → (z_iD I6) → ((∀ j : Nat, (j : Int) < y5.toInt → I6 73 j = 0) ∧ y5.toInt ≤ (I 72 2).toInt) → (z_fr L_X1_alike_d I6 I) → z_W G A (shC c, ad, I6, JX, PC c ad) H → va_S A s.heap H locs → lv_has ls 3 [(2, .int y5), (1, .int 0), (0, .ref (ad 72))] → W p l e (headSpec wsX1_alike { frames := 2, cells := 0, slots := 0, locals := 34 }).room s m ([.ref (ad 72)] : List Value).toArray below meth c0 H locs 0 0 (MQ below (va_Qv (fun (u1 : z_U) => ∃ I1 : z_I, u1 = (shC c, ad, I1, JX, PC c ad) ∧ z_iD I1 ∧ z_fr L_X1_alike_d I1 I ∧ (∀ j : Nat, (j : Int) < (I 72 2).toInt → (I1 73 j).toInt = zd_S (zd_u I) (I 72 2).toNatClampNeg / (I 72 2).toInt)) (z_B G A) A) ([.ref (ad 72)] : List Value).toArray s 0 0 A) (F0 m 23 ls []) := by
      intro f
      induction f with
      | zero => intro y5 I6  H locs ls lp4m lp4l2 lp4D lp4A lp4fr hW hS hl; exact absurd lp4m (by have := Int32.toInt_lt y5; have := Int32.le_toInt y5; omega)
      | succ f lp4ih =>
        intro y5 I6  H locs ls lp4m lp4l2 lp4D lp4A lp4fr hW hS hl
        refine lv_iload_n hx hb dX1_alike_23 rfl (lv_at hl 0 rfl) ?_
        have hn7 : (I6 72 2).toInt = (I 72 2).toInt := by rw [lp4fr 72 2 (by decide)]
        refine lv_aload_n hx hb dX1_alike_24 rfl (lv_at hl 2 rfl) ?_
        have r8 : 0 ≤ (I6 72 2).toInt ∧ (I6 72 2).toInt ≤ 30 := lp4D
        refine z_get (T := TX1) (N := 3) (ci := 1) (i := 72) (v := .int (I6 72 2)) hx hb hts zj_X1_alike_X1 hown hK hW rfl rfl 2 (by decide) (hts (.fieldLink RX1 18 "PetrolBoard$Deal" "number" "I") (me_s (me_l (List.mem_of_getElem? (i := 0) rfl)))) (fun _ h => h) rfl dX1_alike_25 ?_
        refine lv_icmp_ge (tgt := 53) hx hb dX1_alike_28 (by decide) (fun c9 => ?_) (fun c9 => ?_)
        · have g10 := z_f_ge rfl rfl c9
          have b11 := Int32.toInt_lt y5
          exact z_vret hx hb hr hK hS (Nat.le_of_ble_eq_true rfl) (Nat.le_of_ble_eq_true rfl) hlocks dX1_alike_53 (shC c, ad, I6, JX, PC c ad) hW ⟨I6, rfl, (by show 0 ≤ (I6 72 2).toInt ∧ (I6 72 2).toInt ≤ 30; exact lp4D), lp4fr, (fun j hj => by exfalso; omega)⟩
        · have g12 := z_f_nge rfl rfl c9
          have b13 := Int32.toInt_lt y5
          refine lv_iload_n hx hb dX1_alike_31 rfl (lv_at hl 0 rfl) ?_
          refine lv_aload_n hx hb dX1_alike_32 rfl (lv_at hl 2 rfl) ?_
          refine z_get (T := TX1) (N := 3) (ci := 1) (i := 72) (v := .ref (ad 73)) hx hb hts zj_X1_alike_X1 hown hK hW rfl rfl 0 (by decide) (hts (.fieldLink RX1 9 "PetrolBoard$Deal" "units" "[I") (me_s (me_l (List.mem_of_getElem? (i := 1) rfl)))) (fun _ h => h) rfl dX1_alike_33 ?_
          refine z_alen (i := 73) (v := 30) hx hb hK hW rfl (by simp [z_tys]) (by rfl) dX1_alike_36 ?_
          refine lv_icmp_ge (tgt := 53) hx hb dX1_alike_37 (by decide) (fun c14 => (by have g := z_f_ge rfl z_l30 c14; omega)) (fun c14 => ?_)
          have g15 := z_f_nge rfl z_l30 c14
          refine lv_aload_n hx hb dX1_alike_40 rfl (lv_at hl 2 rfl) ?_
          refine z_get (T := TX1) (N := 3) (ci := 1) (i := 72) (v := .ref (ad 73)) hx hb hts zj_X1_alike_X1 hown hK hW rfl rfl 0 (by decide) (hts (.fieldLink RX1 9 "PetrolBoard$Deal" "units" "[I") (me_s (me_l (List.mem_of_getElem? (i := 1) rfl)))) (fun _ h => h) rfl dX1_alike_41 ?_
          refine lv_iload_n hx hb dX1_alike_44 rfl (lv_at hl 0 rfl) ?_
          refine lv_iload_n hx hb dX1_alike_45 rfl (lv_at hl 1 rfl) ?_
          refine z_iast (i := 73) hx hb hK hW hS rfl (z_ix rfl (by omega) (by omega)) dX1_alike_46 (fun H locs hz1 hW hS => ?_)
          obtain ⟨I16, eI16⟩ : ∃ K : z_I, K = z_up I6 73 y5.toNatClampNeg 0 := ⟨_, rfl⟩
          rw [← eI16] at hW
          have f17 := z_fr_a lp4fr (show z_wa L_X1_alike_d 73 = true by decide) eI16
          obtain ⟨x18, ex18⟩ : ∃ y : Int32, y = y5 + 1 := ⟨_, rfl⟩
          have tx18 : x18.toInt = y5.toInt + 1 := z_tadd ex18 rfl z_l1 (by omega) (by omega)
          refine lv_iinc (v := x18) (lv' := [(2, .int x18), (1, .int 0), (0, .ref (ad 72))]) hx hb dX1_alike_47 hl (k := 0) rfl (by rw [ex18]; rfl) (by decide) rfl (fun ls hl => ?_)
          refine lv_goto (tgt := 23) hx hb dX1_alike_50 (by decide) ?_
          exact lp4ih x18 I16  _ _ _ (by omega) (by omega) (by show 0 ≤ (I16 72 2).toInt ∧ (I16 72 2).toInt ≤ 30; rw [eI16, z_up_n (by decide)]; exact lp4D) ⟨fun j hj => by rw [eI16, z_up_j]; have c9 := z_clt (x := y5) rfl (by omega); by_cases q : j = y5.toNatClampNeg; (· rw [if_pos q]); (· rw [if_neg q]; exact lp4A.1 j (by omega)), by omega⟩ f17 hW hS (lv_sub hl [0, 1, 2] rfl)
    exact lp4 4294967296 (0) I  _ _ _ (z_m0u _) (by rw [z_l0]; omega) (by show 0 ≤ (I 72 2).toInt ∧ (I 72 2).toInt ≤ 30; exact hD) ⟨fun j hj => absurd hj (by have q0 := z_l0; omega), by have q0 := z_l0; omega⟩ z_fr_0 hW hS (lv_sub hl [0, 1, 2] rfl)
  · have g19 := z_f_nle rfl z_l0 c2
    refine lv_aload_n hx hb dX1_alike_7 rfl (lv_at hl 0 rfl) ?_
    refine z_ci hW hS hA (va_runV (As := []) (rest := []) ⟨hx, hb, hml, hown, hts⟩ (sx_X1_together_d l G ad c I (by show 0 ≤ (I 72 2).toInt ∧ (I 72 2).toInt ≤ 30; exact hD) hU _) (cwV 0 hts gX1_alike_X1_together rfl rfl rfl (by decide +kernel) ⟨Nat.le_of_ble_eq_true rfl, Nat.le_of_ble_eq_true rfl⟩) (z_preV (i := 72) hK hW rfl rfl) rfl rfl hl.1 rfl (lv_room (Nat.le_of_ble_eq_true rfl)) dX1_alike_8 ⟨Nat.le_of_ble_eq_true rfl, Nat.le_of_ble_eq_true rfl⟩) (fun r u1 H locs hp hW hS => ?_)
    obtain ⟨e9, hp⟩ := hp
    rw [e9] at hW
    refine lv_topi (fun x20 ex20 => ?_)
    rw [← ex20] at hp
    have hP21 := hp
    refine lv_aload_n hx hb dX1_alike_11 rfl (lv_at hl 0 rfl) ?_
    refine z_get (T := TX1) (N := 3) (ci := 1) (i := 72) (v := .int (I 72 2)) hx hb hts zj_X1_alike_X1 hown hK hW rfl rfl 2 (by decide) (hts (.fieldLink RX1 18 "PetrolBoard$Deal" "number" "I") (me_s (me_l (List.mem_of_getElem? (i := 0) rfl)))) (fun _ h => h) rfl dX1_alike_12 ?_
    refine lv_idiv hx hb dX1_alike_15 (z_nz rfl (by omega)) ?_
    refine lv_topi (fun x22 ex22 => ?_)
    have ht23 : x22.toInt = x20.toInt / (I 72 2).toInt := z_tdiv ex22 rfl rfl (by omega) (by have q9 := hP21.2; omega)
    refine lv_goto (tgt := 20) hx hb dX1_alike_16 (by decide) ?_
    refine lv_istore_n (lv' := [(1, .int x22), (0, .ref (ad 72))]) hx hb dX1_alike_20 rfl hl (by decide) rfl (fun ls hl => ?_)
    refine lv_iconst (v := 0) hx hb dX1_alike_21 (by decide) ?_
    refine lv_istore_n (lv' := [(2, .int 0), (1, .int x22), (0, .ref (ad 72))]) hx hb dX1_alike_22 rfl hl (by decide) rfl (fun ls hl => ?_)
    have lp24 : ∀ (f : Nat) (y25 : Int32) (I26 : z_I) (H : Heap) (locs : List Loc) (ls : Array Slot), (2147483647 < y25.toInt + (f : Int)) → (0 ≤ y25.toInt) → (z_iD I26) → ((∀ j : Nat, (j : Int) < y25.toInt → I26 73 j = x22) ∧ y25.toInt ≤ (I 72 2).toInt) → (z_fr L_X1_alike_d I26 I) → z_W G A (shC c, ad, I26, JX, PC c ad) H → va_S A s.heap H locs → lv_has ls 3 [(2, .int y25), (1, .int x22), (0, .ref (ad 72))] → W p l e (headSpec wsX1_alike { frames := 2, cells := 0, slots := 0, locals := 34 }).room s m ([.ref (ad 72)] : List Value).toArray below meth c0 H locs 0 0 (MQ below (va_Qv (fun (u1 : z_U) => ∃ I1 : z_I, u1 = (shC c, ad, I1, JX, PC c ad) ∧ z_iD I1 ∧ z_fr L_X1_alike_d I1 I ∧ (∀ j : Nat, (j : Int) < (I 72 2).toInt → (I1 73 j).toInt = zd_S (zd_u I) (I 72 2).toNatClampNeg / (I 72 2).toInt)) (z_B G A) A) ([.ref (ad 72)] : List Value).toArray s 0 0 A) (F0 m 23 ls []) := by
      intro f
      induction f with
      | zero => intro y25 I26  H locs ls lp24m lp24l2 lp24D lp24A lp24fr hW hS hl; exact absurd lp24m (by have := Int32.toInt_lt y25; have := Int32.le_toInt y25; omega)
      | succ f lp24ih =>
        intro y25 I26  H locs ls lp24m lp24l2 lp24D lp24A lp24fr hW hS hl
        refine lv_iload_n hx hb dX1_alike_23 rfl (lv_at hl 0 rfl) ?_
        have hn27 : (I26 72 2).toInt = (I 72 2).toInt := by rw [lp24fr 72 2 (by decide)]
        refine lv_aload_n hx hb dX1_alike_24 rfl (lv_at hl 2 rfl) ?_
        have r28 : 0 ≤ (I26 72 2).toInt ∧ (I26 72 2).toInt ≤ 30 := lp24D
        refine z_get (T := TX1) (N := 3) (ci := 1) (i := 72) (v := .int (I26 72 2)) hx hb hts zj_X1_alike_X1 hown hK hW rfl rfl 2 (by decide) (hts (.fieldLink RX1 18 "PetrolBoard$Deal" "number" "I") (me_s (me_l (List.mem_of_getElem? (i := 0) rfl)))) (fun _ h => h) rfl dX1_alike_25 ?_
        refine lv_icmp_ge (tgt := 53) hx hb dX1_alike_28 (by decide) (fun c29 => ?_) (fun c29 => ?_)
        · have g30 := z_f_ge rfl rfl c29
          have b31 := Int32.toInt_lt y25
          exact z_vret hx hb hr hK hS (Nat.le_of_ble_eq_true rfl) (Nat.le_of_ble_eq_true rfl) hlocks dX1_alike_53 (shC c, ad, I26, JX, PC c ad) hW ⟨I26, rfl, (by show 0 ≤ (I26 72 2).toInt ∧ (I26 72 2).toInt ≤ 30; exact lp24D), lp24fr, (fun j hj => by rw [lp24A.1 j (by omega)]; have q9 := hP21.1; rw [← q9]; omega)⟩
        · have g32 := z_f_nge rfl rfl c29
          have b33 := Int32.toInt_lt y25
          refine lv_iload_n hx hb dX1_alike_31 rfl (lv_at hl 0 rfl) ?_
          refine lv_aload_n hx hb dX1_alike_32 rfl (lv_at hl 2 rfl) ?_
          refine z_get (T := TX1) (N := 3) (ci := 1) (i := 72) (v := .ref (ad 73)) hx hb hts zj_X1_alike_X1 hown hK hW rfl rfl 0 (by decide) (hts (.fieldLink RX1 9 "PetrolBoard$Deal" "units" "[I") (me_s (me_l (List.mem_of_getElem? (i := 1) rfl)))) (fun _ h => h) rfl dX1_alike_33 ?_
          refine z_alen (i := 73) (v := 30) hx hb hK hW rfl (by simp [z_tys]) (by rfl) dX1_alike_36 ?_
          refine lv_icmp_ge (tgt := 53) hx hb dX1_alike_37 (by decide) (fun c34 => (by have g := z_f_ge rfl z_l30 c34; omega)) (fun c34 => ?_)
          have g35 := z_f_nge rfl z_l30 c34
          refine lv_aload_n hx hb dX1_alike_40 rfl (lv_at hl 2 rfl) ?_
          refine z_get (T := TX1) (N := 3) (ci := 1) (i := 72) (v := .ref (ad 73)) hx hb hts zj_X1_alike_X1 hown hK hW rfl rfl 0 (by decide) (hts (.fieldLink RX1 9 "PetrolBoard$Deal" "units" "[I") (me_s (me_l (List.mem_of_getElem? (i := 1) rfl)))) (fun _ h => h) rfl dX1_alike_41 ?_
          refine lv_iload_n hx hb dX1_alike_44 rfl (lv_at hl 0 rfl) ?_
          refine lv_iload_n hx hb dX1_alike_45 rfl (lv_at hl 1 rfl) ?_
          refine z_iast (i := 73) hx hb hK hW hS rfl (z_ix rfl (by omega) (by omega)) dX1_alike_46 (fun H locs hz1 hW hS => ?_)
          obtain ⟨I36, eI36⟩ : ∃ K : z_I, K = z_up I26 73 y25.toNatClampNeg x22 := ⟨_, rfl⟩
          rw [← eI36] at hW
          have f37 := z_fr_a lp24fr (show z_wa L_X1_alike_d 73 = true by decide) eI36
          obtain ⟨x38, ex38⟩ : ∃ y : Int32, y = y25 + 1 := ⟨_, rfl⟩
          have tx38 : x38.toInt = y25.toInt + 1 := z_tadd ex38 rfl z_l1 (by omega) (by omega)
          refine lv_iinc (v := x38) (lv' := [(2, .int x38), (1, .int x22), (0, .ref (ad 72))]) hx hb dX1_alike_47 hl (k := 0) rfl (by rw [ex38]; rfl) (by decide) rfl (fun ls hl => ?_)
          refine lv_goto (tgt := 23) hx hb dX1_alike_50 (by decide) ?_
          exact lp24ih x38 I36  _ _ _ (by omega) (by omega) (by show 0 ≤ (I36 72 2).toInt ∧ (I36 72 2).toInt ≤ 30; rw [eI36, z_up_n (by decide)]; exact lp24D) ⟨fun j hj => by rw [eI36, z_up_j]; have c9 := z_clt (x := y25) rfl (by omega); by_cases q : j = y25.toNatClampNeg; (· rw [if_pos q]); (· rw [if_neg q]; exact lp24A.1 j (by omega)), by omega⟩ f37 hW hS (lv_sub hl [0, 1, 2] rfl)
    exact lp24 4294967296 (0) I  _ _ _ (z_m0u _) (by rw [z_l0]; omega) (by show 0 ≤ (I 72 2).toInt ∧ (I 72 2).toInt ≤ 30; exact hD) ⟨fun j hj => absurd hj (by have q0 := z_l0; omega), by have q0 := z_l0; omega⟩ z_fr_0 hW hS (lv_sub hl [0, 1, 2] rfl)
noncomputable def L_X1_sell_d : z_L := [(73, 999), (74, 999)]
set_option maxHeartbeats 8000000 in
set_option maxRecDepth 100000 in
theorem sx_X1_sell_d (l : Launch) (G : z_G) (ad : Nat → Nat) (c : z_C) (I : z_I) (hD : z_iD I) (hH : z_iH I) (hU : ∀ j : Nat, (j : Int) < (I 72 2).toInt → 0 ≤ (I 73 j).toInt ∧ (I 73 j).toInt ≤ 99) (hn : (I 72 2).toInt ≤ (I 1 5).toInt) (hN : ∀ j : Nat, (j : Int) < (I 1 5).toInt → 0 ≤ (I 6 j).toInt ∧ (I 6 j).toInt ≤ 99) : z_Mv l yX1_sell wsX1_sell { frames := 3, cells := 0, slots := 0, locals := 56 } [.ref (ad 72), .ref (ad 1)] G (shC c, ad, I, JX, PC c ad) (fun u1 => ∃ I1 : z_I, u1 = (shC c, ad, I1, JX, PC c ad) ∧ z_iD I1 ∧ z_iH I1 ∧ z_fr L_X1_sell_d I1 I ∧ ∀ j, (I1 73 j).toInt = (zd_F I (I 72 2).toNatClampNeg).1 j) 0 0 := sorry
noncomputable def L_X1_clear_d : z_L := [(72, 2)]
set_option maxHeartbeats 8000000 in
set_option maxRecDepth 100000 in
theorem sx_X1_clear_d (l : Launch) (G : z_G) (ad : Nat → Nat) (c : z_C) (I : z_I) (hD : z_iD I) : z_Mv l yX1_clear wsX1_clear { frames := 1, cells := 0, slots := 0, locals := 12 } [.ref (ad 72)] G (shC c, ad, I, JX, PC c ad) (fun u1 => ∃ I1 : z_I, u1 = (shC c, ad, I1, JX, PC c ad) ∧ z_iD I1 ∧ z_fr L_X1_clear_d I1 I ∧ (I1 72 2).toInt = 0) 0 0 := by
  intro sz
  refine z_headQ (cc := cX1_clear) (maxL := 1) (ret := none) (by decide) rfl (Nat.le_of_ble_eq_true rfl) ?_
  intro p e s m below meth c0 ls hIn hK hsz hW hl
  obtain ⟨hx, hb, hr, hml, hown, hts, hlocks, hname⟩ := hIn
  subst hsz
  have hown : s.vm.findClass RX1 = some m.cls := hown
  have hA : ∀ q : Nat, s.heap.size ≤ q → z_A (shC c, ad, I, JX, PC c ad) s.heap.size q := fun q h => Or.inr h
  generalize hAe : z_A (shC c, ad, I, JX, PC c ad) s.heap.size = A at *
  have hS : va_S A s.heap s.heap [] := va_S.rf
  have hl : lv_has ls 1 [(0, .ref (ad 72))] := hl
  refine lv_aload_n hx hb dX1_clear_0 rfl (lv_at hl 0 rfl) ?_
  refine lv_iconst (v := 0) hx hb dX1_clear_1 (by decide) ?_
  refine z_put (T := TX1) (N := 3) (ci := 1) (i := 72) (v := .int 0) (I1 := z_up I 72 2 0) (J1 := JX) (P1 := PC c ad) hx hb hts zj_X1_clear_X1 tyX1 tyX1_ok nmX1 hown hK hW hS rfl rfl 2 (by decide) (hts (.fieldLink RX1 18 "PetrolBoard$Deal" "number" "I") (me_s (me_l (List.mem_of_getElem? (i := 0) rfl)))) (fun _ h => h) rfl rfl rfl (by first | rfl | exact congrArg _ z_up_s) (fun a b h ty => z_vI h ty) dX1_clear_2 (fun H locs hz1 hW hS => ?_)
  obtain ⟨I1, eI1⟩ : ∃ K : z_I, K = z_up I 72 2 0 := ⟨_, rfl⟩
  rw [← eI1] at hW
  have f2 := z_fr_k z_fr_0 (show z_wr L_X1_clear_d 72 2 = true by decide) eI1
  exact z_vret hx hb hr hK hS (Nat.le_of_ble_eq_true rfl) (Nat.le_of_ble_eq_true rfl) hlocks dX1_clear_5 (shC c, ad, I1, JX, PC c ad) hW ⟨I1, rfl, (by show 0 ≤ (I1 72 2).toInt ∧ (I1 72 2).toInt ≤ 30; rw [eI1, z_up_s]; decide), f2, (by rw [eI1, z_up_s]; decide)⟩
noncomputable def L_X11_dealOut_d : z_L := [(72, 2), (73, 999), (74, 999), (24, 999), (25, 999)]
set_option maxHeartbeats 8000000 in
set_option maxRecDepth 100000 in
theorem sx_X11_dealOut_d (l : Launch) (G : z_G) (ad : Nat → Nat) (c : z_C) (I : z_I) (hH : z_iH I) (hD : z_iD I) (hO : z_iO I) (hB : z_iB I) (SS : Nat → List zp_T) (a1 : Int32) (a2 : Int32) (hc : z_okc c) (h10 : c.1 ≤ 10) (hWu : zv_W c I SS) (q2 : 0 ≤ a2.toInt ∧ a2.toInt ≤ 23) (hN : ∀ j : Nat, (j : Int) < (I 1 5).toInt → 0 ≤ (I 6 j).toInt ∧ (I 6 j).toInt ≤ 99) : z_Mv l yX11_dealOut wsX11_dealOut { frames := 6, cells := 0, slots := 0, locals := 160 } [.ref (ad 0), .int a1, .int a2] G (shC c, ad, I, JX, PC c ad) (fun u1 => ∃ I1 : z_I, u1 = (shC c, ad, I1, JX, PC c ad) ∧ z_iH I1 ∧ z_iD I1 ∧ z_iO I1 ∧ z_iB I1 ∧ z_fr L_X11_dealOut_d I1 I ∧ ((I1 72 2).toInt = (I 1 5).toInt ∧ ∀ j : Nat, (j : Int) < (I 1 5).toInt → (I1 73 j).toInt = zd_D (zd_U c I SS a2.toInt) (zd_B I) (zd_N I) (I 1 5).toNatClampNeg a1.toInt j)) 0 0 := by
  intro sz
  refine z_headQ (cc := cX11_dealOut) (maxL := 4) (ret := none) (by decide) rfl (Nat.le_of_ble_eq_true rfl) ?_
  intro p e s m below meth c0 ls hIn hK hsz hW hl
  obtain ⟨hx, hb, hr, hml, hown, hts, hlocks, hname⟩ := hIn
  subst hsz
  have hown : s.vm.findClass RX11 = some m.cls := hown
  have hA : ∀ q : Nat, s.heap.size ≤ q → z_A (shC c, ad, I, JX, PC c ad) s.heap.size q := fun q h => Or.inr h
  generalize hAe : z_A (shC c, ad, I, JX, PC c ad) s.heap.size = A at *
  have hS : va_S A s.heap s.heap [] := va_S.rf
  have hl : lv_has ls 4 [(0, .ref (ad 0)), (1, .int a1), (2, .int a2)] := hl
  refine lv_aload_n hx hb dX11_dealOut_0 rfl (lv_at hl 0 rfl) ?_
  refine z_get (T := TX11) (N := 13) (ci := 11) (i := 0) (v := .ref (ad 72)) hx hb hts zj_X11_dealOut_X11 hown hK hW rfl rfl 12 (by decide) (hts (.fieldLink RX11 75 "PetrolBoard" "deal" "LPetrolBoard$Deal;") (me_s (me_l (me_l (me_l (me_l (me_l (me_l (me_l (List.mem_of_getElem? (i := 0) rfl)))))))))) (fun _ h => h) rfl dX11_dealOut_1 ?_
  refine z_cv hW hS hA (va_runV (As := []) (rest := []) ⟨hx, hb, hml, hown, hts⟩ (sx_X1_clear_d l G ad c I (by show 0 ≤ (I 72 2).toInt ∧ (I 72 2).toInt ≤ 30; exact hD)  _) (cwV 0 hts gX11_dealOut_X1_clear rfl rfl rfl (by decide +kernel) ⟨Nat.le_of_ble_eq_true rfl, Nat.le_of_ble_eq_true rfl⟩) (z_preV (i := 72) hK hW rfl rfl) rfl rfl hl.1 rfl (lv_room (Nat.le_of_ble_eq_true rfl)) dX11_dealOut_4 ⟨Nat.le_of_ble_eq_true rfl, Nat.le_of_ble_eq_true rfl⟩) (fun u1 H locs hp hW hS => ?_)
  obtain ⟨I1, e9, hI1D, fI1, hp⟩ := hp
  rw [e9] at hW
  have f2 := z_fr_sub (L := L_X11_dealOut_d) z_fr_0 fI1 (by decide)
  have k3 : 0 ≤ (I1 1 5).toInt ∧ (I1 1 5).toInt ≤ 30 := by rw [fI1 1 5 (by decide)]; exact (by show 0 ≤ (I 1 5).toInt ∧ (I 1 5).toInt ≤ 30; exact hH.1)
  have k4 : 0 ≤ (I1 1 11).toInt ∧ (I1 1 11).toInt ≤ 200 := by rw [fI1 1 11 (by decide)]; exact (by show 0 ≤ (I 1 11).toInt ∧ (I 1 11).toInt ≤ 200; exact hH.2)
  have k5 : 0 ≤ (I1 21 2).toInt ∧ (I1 21 2).toInt ≤ 12 := by rw [fI1 21 2 (by decide)]; exact (by show 0 ≤ (I 21 2).toInt ∧ (I 21 2).toInt ≤ 12; exact hO)
  have k6 : 0 ≤ (I1 0 0).toInt ∧ (I1 0 0).toInt ≤ 719 := by rw [fI1 0 0 (by decide)]; exact (by show 0 ≤ (I 0 0).toInt ∧ (I 0 0).toInt ≤ 719; exact hB.1)
  have k7 : 0 ≤ (I1 0 8).toInt ∧ (I1 0 8).toInt ≤ 10 := by rw [fI1 0 8 (by decide)]; exact (by show 0 ≤ (I 0 8).toInt ∧ (I 0 8).toInt ≤ 10; exact hB.2)
  have hC8 := hp
  refine lv_iconst (v := 0) hx hb dX11_dealOut_7 (by decide) ?_
  refine lv_istore_n (lv' := [(3, .int 0), (0, .ref (ad 0)), (1, .int a1), (2, .int a2)]) hx hb dX11_dealOut_8 rfl hl (by decide) rfl (fun ls hl => ?_)
  have lp9 : ∀ (f : Nat) (y10 : Int32) (I11 : z_I) (H : Heap) (locs : List Loc) (ls : Array Slot), (2147483647 < y10.toInt + (f : Int)) → (0 ≤ y10.toInt) → (z_iH I11) → (z_iD I11) → (z_iO I11) → (z_iB I11) → ((∀ h : Nat, (h : Int) < y10.toInt → (I11 73 h).toInt = (zd_U c I SS a2.toInt) h ∧ 0 ≤ (I11 73 h).toInt ∧ (I11 73 h).toInt ≤ 99) ∧ (I11 72 2).toInt = y10.toInt ∧ y10.toInt ≤ (I 1 5).toInt) → (z_fr L_X11_dealOut_d I11 I) → z_W G A (shC c, ad, I11, JX, PC c ad) H → va_S A s.heap H locs → lv_has ls 4 [(3, .int y10), (0, .ref (ad 0)), (1, .int a1), (2, .int a2)] → W p l e (headSpec wsX11_dealOut { frames := 6, cells := 0, slots := 0, locals := 160 }).room s m ([.ref (ad 0), .int a1, .int a2] : List Value).toArray below meth c0 H locs 0 0 (MQ below (va_Qv (fun (u1 : z_U) => ∃ I1 : z_I, u1 = (shC c, ad, I1, JX, PC c ad) ∧ z_iH I1 ∧ z_iD I1 ∧ z_iO I1 ∧ z_iB I1 ∧ z_fr L_X11_dealOut_d I1 I ∧ ((I1 72 2).toInt = (I 1 5).toInt ∧ ∀ j : Nat, (j : Int) < (I 1 5).toInt → (I1 73 j).toInt = zd_D (zd_U c I SS a2.toInt) (zd_B I) (zd_N I) (I 1 5).toNatClampNeg a1.toInt j)) (z_B G A) A) ([.ref (ad 0), .int a1, .int a2] : List Value).toArray s 0 0 A) (F0 m 9 ls []) := by
    intro f
    induction f with
    | zero => intro y10 I11  H locs ls lp9m lp9l3 lp9H lp9D lp9O lp9B lp9U lp9fr hW hS hl; exact absurd lp9m (by have := Int32.toInt_lt y10; have := Int32.le_toInt y10; omega)
    | succ f lp9ih =>
      intro y10 I11  H locs ls lp9m lp9l3 lp9H lp9D lp9O lp9B lp9U lp9fr hW hS hl
      refine lv_iload_n hx hb dX11_dealOut_9 rfl (lv_at hl 0 rfl) ?_
      have hn12 : (I11 1 5).toInt = (I 1 5).toInt := by rw [lp9fr 1 5 (by decide)]
      refine lv_aload_n hx hb dX11_dealOut_10 rfl (lv_at hl 1 rfl) ?_
      refine z_get (T := TX11) (N := 13) (ci := 11) (i := 0) (v := .ref (ad 1)) hx hb hts zj_X11_dealOut_X11 hown hK hW rfl rfl 2 (by decide) (hts (.fieldLink RX11 16 "PetrolBoard" "holders" "LPetrolBoard$Holders;") (me_s (me_l (me_l (me_l (me_l (me_l (me_l (me_l (List.mem_of_getElem? (i := 1) rfl)))))))))) (fun _ h => h) rfl dX11_dealOut_11 ?_
      have r13 : 0 ≤ (I11 1 5).toInt ∧ (I11 1 5).toInt ≤ 30 := lp9H.1
      refine z_get (T := TX2) (N := 12) (ci := 2) (i := 1) (v := .int (I11 1 5)) hx hb hts zj_X11_dealOut_X2 hown hK hW rfl rfl 5 (by decide) (hts (.fieldLink RX11 373 "PetrolBoard$Holders" "number" "I") (me_s (me_l (me_l (me_l (me_l (me_l (me_l (me_l (List.mem_of_getElem? (i := 2) rfl)))))))))) (fun _ h => h) rfl dX11_dealOut_14 ?_
      refine lv_icmp_ge (tgt := 50) hx hb dX11_dealOut_17 (by decide) (fun c14 => ?_) (fun c14 => ?_)
      · have g15 := z_f_ge rfl rfl c14
        have b16 := Int32.toInt_lt y10
        refine lv_iload_n hx hb dX11_dealOut_50 rfl (lv_at hl 2 rfl) ?_
        refine lv_iconst (v := 1) hx hb dX11_dealOut_51 (by decide) ?_
        refine lv_icmp_ne (tgt := 65) hx hb dX11_dealOut_52 (by decide) (fun c17 => ?_) (fun c17 => ?_)
        · have g18 := z_f_ne rfl z_l1 c17
          have b19 := Int32.toInt_lt a1
          refine lv_iload_n hx hb dX11_dealOut_65 rfl (lv_at hl 2 rfl) ?_
          refine lv_iconst (v := 2) hx hb dX11_dealOut_66 (by decide) ?_
          refine lv_icmp_ne (tgt := 81) hx hb dX11_dealOut_67 (by decide) (fun c20 => ?_) (fun c20 => ?_)
          · have g21 := z_f_ne rfl z_l2 c20
            exact z_vret hx hb hr hK hS (Nat.le_of_ble_eq_true rfl) (Nat.le_of_ble_eq_true rfl) hlocks dX11_dealOut_81 (shC c, ad, I11, JX, PC c ad) hW ⟨I11, rfl, ⟨(by show 0 ≤ (I11 1 5).toInt ∧ (I11 1 5).toInt ≤ 30; exact lp9H.1), (by show 0 ≤ (I11 1 11).toInt ∧ (I11 1 11).toInt ≤ 200; exact lp9H.2)⟩, (by show 0 ≤ (I11 72 2).toInt ∧ (I11 72 2).toInt ≤ 30; exact lp9D), (by show 0 ≤ (I11 21 2).toInt ∧ (I11 21 2).toInt ≤ 12; exact lp9O), ⟨(by show 0 ≤ (I11 0 0).toInt ∧ (I11 0 0).toInt ≤ 719; exact lp9B.1), (by show 0 ≤ (I11 0 8).toInt ∧ (I11 0 8).toInt ≤ 10; exact lp9B.2)⟩, lp9fr, (by have c1 := z_clt (x := y10) rfl (by omega); have c2 := z_clt (x := I 1 5) rfl (by have q9 := hH.1; omega); have c3 := z_clt (x := (I11 72 2)) rfl (by omega); have n9 : (I11 72 2).toNatClampNeg = (I 1 5).toNatClampNeg := (by omega); exact ⟨by omega, fun j hj => by rw [zd_D_0 (by omega) (by omega)]; exact (lp9U.1 j (by omega)).1⟩)⟩
          · have g22 := z_f_eq rfl z_l2 c20
            refine lv_aload_n hx hb dX11_dealOut_70 rfl (lv_at hl 1 rfl) ?_
            refine z_get (T := TX11) (N := 13) (ci := 11) (i := 0) (v := .ref (ad 72)) hx hb hts zj_X11_dealOut_X11 hown hK hW rfl rfl 12 (by decide) (hts (.fieldLink RX11 75 "PetrolBoard" "deal" "LPetrolBoard$Deal;") (me_s (me_l (me_l (me_l (me_l (me_l (me_l (me_l (List.mem_of_getElem? (i := 0) rfl)))))))))) (fun _ h => h) rfl dX11_dealOut_71 ?_
            refine lv_aload_n hx hb dX11_dealOut_74 rfl (lv_at hl 1 rfl) ?_
            refine z_get (T := TX11) (N := 13) (ci := 11) (i := 0) (v := .ref (ad 1)) hx hb hts zj_X11_dealOut_X11 hown hK hW rfl rfl 2 (by decide) (hts (.fieldLink RX11 16 "PetrolBoard" "holders" "LPetrolBoard$Holders;") (me_s (me_l (me_l (me_l (me_l (me_l (me_l (me_l (List.mem_of_getElem? (i := 1) rfl)))))))))) (fun _ h => h) rfl dX11_dealOut_75 ?_
            refine z_cv hW hS hA (va_runV (As := [.ref (ad 1)]) (rest := []) ⟨hx, hb, hml, hown, hts⟩ (sx_X1_sell_d l G ad c I11 (by show 0 ≤ (I11 72 2).toInt ∧ (I11 72 2).toInt ≤ 30; exact lp9D) ⟨(by show 0 ≤ (I11 1 5).toInt ∧ (I11 1 5).toInt ≤ 30; exact lp9H.1), (by show 0 ≤ (I11 1 11).toInt ∧ (I11 1 11).toInt ≤ 200; exact lp9H.2)⟩ (fun j hj => (lp9U.1 j (by omega)).2) (by omega) (fun j hj => by rw [lp9fr 6 j (z_wr_c (by decide))]; exact hN j (by omega)) _) (cwV 1 hts gX11_dealOut_X1_sell rfl rfl rfl (by decide +kernel) ⟨Nat.le_of_ble_eq_true rfl, Nat.le_of_ble_eq_true rfl⟩) (z_preV (i := 72) hK hW rfl rfl) rfl rfl hl.1 rfl (lv_room (Nat.le_of_ble_eq_true rfl)) dX11_dealOut_78 ⟨Nat.le_of_ble_eq_true rfl, Nat.le_of_ble_eq_true rfl⟩) (fun u1 H locs hp hW hS => ?_)
            obtain ⟨I23, e9, hI23D, hI23H, fI23, hp⟩ := hp
            rw [e9] at hW
            have f24 := z_fr_sub (L := L_X11_dealOut_d) lp9fr fI23 (by decide)
            have k25 : (I23 1 5).toInt = (I11 1 5).toInt := by rw [fI23 1 5 (by decide)]
            have k26 : 0 ≤ (I23 21 2).toInt ∧ (I23 21 2).toInt ≤ 12 := by rw [fI23 21 2 (by decide)]; exact (by show 0 ≤ (I11 21 2).toInt ∧ (I11 21 2).toInt ≤ 12; exact lp9O)
            have k27 : 0 ≤ (I23 0 0).toInt ∧ (I23 0 0).toInt ≤ 719 := by rw [fI23 0 0 (by decide)]; exact (by show 0 ≤ (I11 0 0).toInt ∧ (I11 0 0).toInt ≤ 719; exact lp9B.1)
            have k28 : 0 ≤ (I23 0 8).toInt ∧ (I23 0 8).toInt ≤ 10 := by rw [fI23 0 8 (by decide)]; exact (by show 0 ≤ (I11 0 8).toInt ∧ (I11 0 8).toInt ≤ 10; exact lp9B.2)
            have hE29 := hp
            exact z_vret hx hb hr hK hS (Nat.le_of_ble_eq_true rfl) (Nat.le_of_ble_eq_true rfl) hlocks dX11_dealOut_81 (shC c, ad, I23, JX, PC c ad) hW ⟨I23, rfl, ⟨(by show 0 ≤ (I23 1 5).toInt ∧ (I23 1 5).toInt ≤ 30; exact hI23H.1), (by show 0 ≤ (I23 1 11).toInt ∧ (I23 1 11).toInt ≤ 200; exact hI23H.2)⟩, (by show 0 ≤ (I23 72 2).toInt ∧ (I23 72 2).toInt ≤ 30; exact hI23D), (by show 0 ≤ (I23 21 2).toInt ∧ (I23 21 2).toInt ≤ 12; exact k26), ⟨(by show 0 ≤ (I23 0 0).toInt ∧ (I23 0 0).toInt ≤ 719; exact k27), (by show 0 ≤ (I23 0 8).toInt ∧ (I23 0 8).toInt ≤ 10; exact k28)⟩, f24, (by have c1 := z_clt (x := y10) rfl (by omega); have c2 := z_clt (x := I 1 5) rfl (by have q9 := hH.1; omega); have c3 := z_clt (x := (I11 72 2)) rfl (by omega); have n9 : (I11 72 2).toNatClampNeg = (I 1 5).toNatClampNeg := (by omega); have s9 : zd_S (zd_u I11) (I 1 5).toNatClampNeg = zd_S (zd_U c I SS a2.toInt) (I 1 5).toNatClampNeg := zd_S_c _ (fun j hj => (lp9U.1 j (by omega)).1); have b1 : zd_B I11 = zd_B I := (funext fun j => by unfold zd_B; rw [lp9fr 5 j (z_wr_c (by decide))]); have b2 : zd_N I11 = zd_N I := (funext fun j => by unfold zd_N; rw [lp9fr 6 j (z_wr_c (by decide))]); exact ⟨by rw [fI23 72 2 (by decide)]; omega, fun j hj => by rw [hE29 j]; unfold zd_F; rw [n9, b1, b2, s9, zd_D_2 (by omega)]; exact (zd_f_c (D0 := (zd_U c I SS a2.toInt)) (D1 := zd_u I11) (fun i hi => (lp9U.1 i (by omega)).1) (I 1 5).toNatClampNeg).1 j (by omega)⟩)⟩
        · have g30 := z_f_eq rfl z_l1 c17
          have b31 := Int32.toInt_lt a1
          refine lv_aload_n hx hb dX11_dealOut_55 rfl (lv_at hl 1 rfl) ?_
          refine z_get (T := TX11) (N := 13) (ci := 11) (i := 0) (v := .ref (ad 72)) hx hb hts zj_X11_dealOut_X11 hown hK hW rfl rfl 12 (by decide) (hts (.fieldLink RX11 75 "PetrolBoard" "deal" "LPetrolBoard$Deal;") (me_s (me_l (me_l (me_l (me_l (me_l (me_l (me_l (List.mem_of_getElem? (i := 0) rfl)))))))))) (fun _ h => h) rfl dX11_dealOut_56 ?_
          refine z_cv hW hS hA (va_runV (As := []) (rest := []) ⟨hx, hb, hml, hown, hts⟩ (sx_X1_alike_d l G ad c I11 (by show 0 ≤ (I11 72 2).toInt ∧ (I11 72 2).toInt ≤ 30; exact lp9D) (fun j hj => (lp9U.1 j (by omega)).2) _) (cwV 0 hts gX11_dealOut_X1_alike rfl rfl rfl (by decide +kernel) ⟨Nat.le_of_ble_eq_true rfl, Nat.le_of_ble_eq_true rfl⟩) (z_preV (i := 72) hK hW rfl rfl) rfl rfl hl.1 rfl (lv_room (Nat.le_of_ble_eq_true rfl)) dX11_dealOut_59 ⟨Nat.le_of_ble_eq_true rfl, Nat.le_of_ble_eq_true rfl⟩) (fun u1 H locs hp hW hS => ?_)
          obtain ⟨I32, e9, hI32D, fI32, hp⟩ := hp
          rw [e9] at hW
          have f33 := z_fr_sub (L := L_X11_dealOut_d) lp9fr fI32 (by decide)
          have k34 : 0 ≤ (I32 1 5).toInt ∧ (I32 1 5).toInt ≤ 30 := by rw [fI32 1 5 (by decide)]; exact (by show 0 ≤ (I11 1 5).toInt ∧ (I11 1 5).toInt ≤ 30; exact lp9H.1)
          have k35 : 0 ≤ (I32 1 11).toInt ∧ (I32 1 11).toInt ≤ 200 := by rw [fI32 1 11 (by decide)]; exact (by show 0 ≤ (I11 1 11).toInt ∧ (I11 1 11).toInt ≤ 200; exact lp9H.2)
          have k36 : 0 ≤ (I32 21 2).toInt ∧ (I32 21 2).toInt ≤ 12 := by rw [fI32 21 2 (by decide)]; exact (by show 0 ≤ (I11 21 2).toInt ∧ (I11 21 2).toInt ≤ 12; exact lp9O)
          have k37 : 0 ≤ (I32 0 0).toInt ∧ (I32 0 0).toInt ≤ 719 := by rw [fI32 0 0 (by decide)]; exact (by show 0 ≤ (I11 0 0).toInt ∧ (I11 0 0).toInt ≤ 719; exact lp9B.1)
          have k38 : 0 ≤ (I32 0 8).toInt ∧ (I32 0 8).toInt ≤ 10 := by rw [fI32 0 8 (by decide)]; exact (by show 0 ≤ (I11 0 8).toInt ∧ (I11 0 8).toInt ≤ 10; exact lp9B.2)
          have hL39 := hp
          refine lv_goto (tgt := 81) hx hb dX11_dealOut_62 (by decide) ?_
          exact z_vret hx hb hr hK hS (Nat.le_of_ble_eq_true rfl) (Nat.le_of_ble_eq_true rfl) hlocks dX11_dealOut_81 (shC c, ad, I32, JX, PC c ad) hW ⟨I32, rfl, ⟨(by show 0 ≤ (I32 1 5).toInt ∧ (I32 1 5).toInt ≤ 30; exact k34), (by show 0 ≤ (I32 1 11).toInt ∧ (I32 1 11).toInt ≤ 200; exact k35)⟩, (by show 0 ≤ (I32 72 2).toInt ∧ (I32 72 2).toInt ≤ 30; exact hI32D), (by show 0 ≤ (I32 21 2).toInt ∧ (I32 21 2).toInt ≤ 12; exact k36), ⟨(by show 0 ≤ (I32 0 0).toInt ∧ (I32 0 0).toInt ≤ 719; exact k37), (by show 0 ≤ (I32 0 8).toInt ∧ (I32 0 8).toInt ≤ 10; exact k38)⟩, f33, (by have c1 := z_clt (x := y10) rfl (by omega); have c2 := z_clt (x := I 1 5) rfl (by have q9 := hH.1; omega); have c3 := z_clt (x := (I11 72 2)) rfl (by omega); have n9 : (I11 72 2).toNatClampNeg = (I 1 5).toNatClampNeg := (by omega); have s9 : zd_S (zd_u I11) (I 1 5).toNatClampNeg = zd_S (zd_U c I SS a2.toInt) (I 1 5).toNatClampNeg := zd_S_c _ (fun j hj => (lp9U.1 j (by omega)).1); exact ⟨by rw [fI32 72 2 (by decide)]; omega, fun j hj => by rw [hL39 j (by omega), n9, s9, zd_D_1 (by omega), show (I11 72 2).toInt = ((I 1 5).toNatClampNeg : Int) by omega]⟩)⟩
      · have g40 := z_f_nge rfl rfl c14
        have b41 := Int32.toInt_lt y10
        refine lv_aload_n hx hb dX11_dealOut_20 rfl (lv_at hl 1 rfl) ?_
        refine z_get (T := TX11) (N := 13) (ci := 11) (i := 0) (v := .ref (ad 72)) hx hb hts zj_X11_dealOut_X11 hown hK hW rfl rfl 12 (by decide) (hts (.fieldLink RX11 75 "PetrolBoard" "deal" "LPetrolBoard$Deal;") (me_s (me_l (me_l (me_l (me_l (me_l (me_l (me_l (List.mem_of_getElem? (i := 0) rfl)))))))))) (fun _ h => h) rfl dX11_dealOut_21 ?_
        refine lv_aload_n hx hb dX11_dealOut_24 rfl (lv_at hl 1 rfl) ?_
        refine z_get (T := TX11) (N := 13) (ci := 11) (i := 0) (v := .ref (ad 21)) hx hb hts zj_X11_dealOut_X11 hown hK hW rfl rfl 4 (by decide) (hts (.fieldLink RX11 30 "PetrolBoard" "orderBook" "LPetrolBoard$OrderBook;") (me_s (me_l (me_l (me_l (me_l (me_l (me_l (me_l (List.mem_of_getElem? (i := 3) rfl)))))))))) (fun _ h => h) rfl dX11_dealOut_25 ?_
        refine lv_aload_n hx hb dX11_dealOut_28 rfl (lv_at hl 1 rfl) ?_
        refine z_get (T := TX11) (N := 13) (ci := 11) (i := 0) (v := .ref (ad 1)) hx hb hts zj_X11_dealOut_X11 hown hK hW rfl rfl 2 (by decide) (hts (.fieldLink RX11 16 "PetrolBoard" "holders" "LPetrolBoard$Holders;") (me_s (me_l (me_l (me_l (me_l (me_l (me_l (me_l (List.mem_of_getElem? (i := 1) rfl)))))))))) (fun _ h => h) rfl dX11_dealOut_29 ?_
        refine lv_iload_n hx hb dX11_dealOut_32 rfl (lv_at hl 0 rfl) ?_
        refine lv_iload_n hx hb dX11_dealOut_33 rfl (lv_at hl 3 rfl) ?_
        refine lv_aload_n hx hb dX11_dealOut_34 rfl (lv_at hl 1 rfl) ?_
        have r42 : 0 ≤ (I11 0 0).toInt ∧ (I11 0 0).toInt ≤ 719 := lp9B.1
        refine z_get (T := TX11) (N := 13) (ci := 11) (i := 0) (v := .int (I11 0 0)) hx hb hts zj_X11_dealOut_X11 hown hK hW rfl rfl 0 (by decide) (hts (.fieldLink RX11 85 "PetrolBoard" "today" "I") (me_s (me_l (me_l (me_l (me_l (me_l (me_l (me_l (List.mem_of_getElem? (i := 4) rfl)))))))))) (fun _ h => h) rfl dX11_dealOut_35 ?_
        refine z_ci hW hS hA (va_runV (As := [.ref (ad 1), .int y10, .int a2, .int (I11 0 0)]) (rest := [.ref (ad 72)]) ⟨hx, hb, hml, hown, hts⟩ (sx_X6_unitsOf_x l G ad c I11 (by show 0 ≤ (I11 21 2).toInt ∧ (I11 21 2).toInt ≤ 12; exact lp9O) ⟨(by show 0 ≤ (I11 1 5).toInt ∧ (I11 1 5).toInt ≤ 30; exact lp9H.1), (by show 0 ≤ (I11 1 11).toInt ∧ (I11 1 11).toInt ≤ 200; exact lp9H.2)⟩ SS y10 a2 (I11 0 0) hc (zd_X_c hWu (lp9fr 21 2 (by decide)) (zv_fr2 lp9fr (by decide)) (fun j => ⟨lp9fr 7 j (z_wr_c (by decide)), lp9fr 8 j (z_wr_c (by decide)), lp9fr 9 j (z_wr_c (by decide)), lp9fr 10 j (z_wr_c (by decide)), lp9fr 11 j (z_wr_c (by decide))⟩) (lp9fr 1 11 (by decide)) (lp9fr 1 5 (by decide)) (fun j => ⟨lp9fr 2 j (z_wr_c (by decide)), lp9fr 3 j (z_wr_c (by decide))⟩)) (by omega) (by omega) _) (cwV 4 hts gX11_dealOut_X6_unitsOf rfl rfl rfl (by decide +kernel) ⟨Nat.le_of_ble_eq_true rfl, Nat.le_of_ble_eq_true rfl⟩) (z_preV (i := 21) hK hW rfl rfl) rfl rfl hl.1 rfl (lv_room (Nat.le_of_ble_eq_true rfl)) dX11_dealOut_38 ⟨Nat.le_of_ble_eq_true rfl, Nat.le_of_ble_eq_true rfl⟩) (fun r u1 H locs hp hW hS => ?_)
        obtain ⟨I43, e9, hI43O, hI43H, fI43, hp⟩ := hp
        rw [e9] at hW
        have f44 := z_fr_sub (L := L_X11_dealOut_d) lp9fr fI43 (by decide)
        have k45 : (I43 1 5).toInt = (I11 1 5).toInt := by rw [fI43 1 5 (by decide)]
        have k46 : 0 ≤ (I43 72 2).toInt ∧ (I43 72 2).toInt ≤ 30 := by rw [fI43 72 2 (by decide)]; exact (by show 0 ≤ (I11 72 2).toInt ∧ (I11 72 2).toInt ≤ 30; exact lp9D)
        have k47 : 0 ≤ (I43 0 0).toInt ∧ (I43 0 0).toInt ≤ 719 := by rw [fI43 0 0 (by decide)]; exact (by show 0 ≤ (I11 0 0).toInt ∧ (I11 0 0).toInt ≤ 719; exact lp9B.1)
        have k48 : 0 ≤ (I43 0 8).toInt ∧ (I43 0 8).toInt ≤ 10 := by rw [fI43 0 8 (by decide)]; exact (by show 0 ≤ (I11 0 8).toInt ∧ (I11 0 8).toInt ≤ 10; exact lp9B.2)
        refine lv_topi (fun x49 ex49 => ?_)
        rw [← ex49] at hp
        have hb51 := z_UX_b hp
        have hU50 : x49.toInt = (zd_U c I SS a2.toInt) y10.toNatClampNeg := zd_U_e (by omega) (zv_UX_c (zv_fr2 lp9fr (by decide)) (fun j => ⟨lp9fr 7 j (z_wr_c (by decide)), lp9fr 8 j (z_wr_c (by decide)), lp9fr 9 j (z_wr_c (by decide)), lp9fr 10 j (z_wr_c (by decide)), lp9fr 11 j (z_wr_c (by decide))⟩) (lp9fr 1 11 (by decide)) (fun j => ⟨lp9fr 2 j (z_wr_c (by decide)), lp9fr 3 j (z_wr_c (by decide))⟩) (by have q9 := hp; rw [show (I11 0 0).toInt = (I 0 0).toInt by rw [lp9fr 0 0 (by decide)]] at q9; exact q9))
        refine z_cv hW hS hA (va_runV (As := [.int x49]) (rest := []) ⟨hx, hb, hml, hown, hts⟩ (sx_X1_put_d l G ad c I43 (by show 0 ≤ (I43 72 2).toInt ∧ (I43 72 2).toInt ≤ 30; exact k46) x49 (by have q9 := hH.1; have q8 : (I43 72 2).toInt = (I11 72 2).toInt := (by rw [fI43 72 2 (by decide)]); omega) _) (cwV 1 hts gX11_dealOut_X1_put rfl rfl rfl (by decide +kernel) ⟨Nat.le_of_ble_eq_true rfl, Nat.le_of_ble_eq_true rfl⟩) (z_preV (i := 72) hK hW rfl rfl) rfl rfl hl.1 rfl (lv_room (Nat.le_of_ble_eq_true rfl)) dX11_dealOut_41 ⟨Nat.le_of_ble_eq_true rfl, Nat.le_of_ble_eq_true rfl⟩) (fun u1 H locs hp hW hS => ?_)
        obtain ⟨I52, e9, hI52D, fI52, hp⟩ := hp
        rw [e9] at hW
        have f53 := z_fr_sub (L := L_X11_dealOut_d) f44 fI52 (by decide)
        have k54 : 0 ≤ (I52 1 5).toInt ∧ (I52 1 5).toInt ≤ 30 := by rw [fI52 1 5 (by decide)]; exact (by show 0 ≤ (I43 1 5).toInt ∧ (I43 1 5).toInt ≤ 30; exact hI43H.1)
        have k55 : 0 ≤ (I52 1 11).toInt ∧ (I52 1 11).toInt ≤ 200 := by rw [fI52 1 11 (by decide)]; exact (by show 0 ≤ (I43 1 11).toInt ∧ (I43 1 11).toInt ≤ 200; exact hI43H.2)
        have k56 : 0 ≤ (I52 21 2).toInt ∧ (I52 21 2).toInt ≤ 12 := by rw [fI52 21 2 (by decide)]; exact (by show 0 ≤ (I43 21 2).toInt ∧ (I43 21 2).toInt ≤ 12; exact hI43O)
        have k57 : 0 ≤ (I52 0 0).toInt ∧ (I52 0 0).toInt ≤ 719 := by rw [fI52 0 0 (by decide)]; exact (by show 0 ≤ (I43 0 0).toInt ∧ (I43 0 0).toInt ≤ 719; exact k47)
        have k58 : 0 ≤ (I52 0 8).toInt ∧ (I52 0 8).toInt ≤ 10 := by rw [fI52 0 8 (by decide)]; exact (by show 0 ≤ (I43 0 8).toInt ∧ (I43 0 8).toInt ≤ 10; exact k48)
        have hU59 := hp
        obtain ⟨x60, ex60⟩ : ∃ y : Int32, y = y10 + 1 := ⟨_, rfl⟩
        have tx60 : x60.toInt = y10.toInt + 1 := z_tadd ex60 rfl z_l1 (by omega) (by omega)
        refine lv_iinc (v := x60) (lv' := [(3, .int x60), (0, .ref (ad 0)), (1, .int a1), (2, .int a2)]) hx hb dX11_dealOut_44 hl (k := 0) rfl (by rw [ex60]; rfl) (by decide) rfl (fun ls hl => ?_)
        refine lv_goto (tgt := 9) hx hb dX11_dealOut_47 (by decide) ?_
        exact lp9ih x60 I52  _ _ _ (by omega) (by omega) ⟨(by show 0 ≤ (I52 1 5).toInt ∧ (I52 1 5).toInt ≤ 30; exact k54), (by show 0 ≤ (I52 1 11).toInt ∧ (I52 1 11).toInt ≤ 200; exact k55)⟩ (by show 0 ≤ (I52 72 2).toInt ∧ (I52 72 2).toInt ≤ 30; exact hI52D) (by show 0 ≤ (I52 21 2).toInt ∧ (I52 21 2).toInt ≤ 12; exact k56) ⟨(by show 0 ≤ (I52 0 0).toInt ∧ (I52 0 0).toInt ≤ 719; exact k57), (by show 0 ≤ (I52 0 8).toInt ∧ (I52 0 8).toInt ≤ 10; exact k58)⟩ (by have c9 := z_clt (x := y10) rfl (by omega); have n9 : (I43 72 2) = (I11 72 2) := fI43 72 2 (by decide); have n8 := hU59.2; rw [n9] at n8; have cn := z_clt (x := (I11 72 2)) rfl (by omega); exact ⟨fun h hh => by rw [hU59.1 h, n9, fI43 73 h (z_wr_c (by decide))]; by_cases q : h = (I11 72 2).toNatClampNeg; (· rw [if_pos q, hU50, show h = y10.toNatClampNeg by omega, ← hU50]; exact ⟨rfl, hb51⟩); (· rw [if_neg q]; exact lp9U.1 h (by omega)), by omega, by omega⟩) f53 hW hS (lv_sub hl [0, 1, 2, 3] rfl)
  exact lp9 4294967296 (0) I1  _ _ _ (z_m0u _) (by rw [z_l0]; omega) ⟨(by show 0 ≤ (I1 1 5).toInt ∧ (I1 1 5).toInt ≤ 30; exact k3), (by show 0 ≤ (I1 1 11).toInt ∧ (I1 1 11).toInt ≤ 200; exact k4)⟩ (by show 0 ≤ (I1 72 2).toInt ∧ (I1 72 2).toInt ≤ 30; exact hI1D) (by show 0 ≤ (I1 21 2).toInt ∧ (I1 21 2).toInt ≤ 12; exact k5) ⟨(by show 0 ≤ (I1 0 0).toInt ∧ (I1 0 0).toInt ≤ 719; exact k6), (by show 0 ≤ (I1 0 8).toInt ∧ (I1 0 8).toInt ≤ 10; exact k7)⟩ ⟨fun h hh => absurd hh (by have q0 := z_l0; omega), by have q0 := z_l0; have q9 := hC8; omega, by have q0 := z_l0; have q9 := hH.1; omega⟩ f2 hW hS (lv_sub hl [0, 1, 2, 3] rfl)
set_option maxHeartbeats 8000000 in
set_option maxRecDepth 100000 in
theorem sx_X11_remains_d (l : Launch) (G : z_G) (ad : Nat → Nat) (c : z_C) (I : z_I) (hH : z_iH I) (hD : z_iD I) (a1 : Int32) (hc : z_okc c) (h10 : c.1 ≤ 10) (hnb : (I 72 2).toInt = (I 1 5).toInt) : z_M l yX11_remains wsX11_remains { frames := 2, cells := 0, slots := 0, locals := 33 } [.ref (ad 0), .int a1] G (shC c, ad, I, JX, PC c ad) (fun r u1 => u1 = (shC c, ad, I, JX, PC c ad) ∧ ((r = 1 ∧ ((0 ≤ a1.toInt ∧ a1.toInt < (I 1 5).toInt) ∧ (I 6 a1.toNatClampNeg).toInt ≤ (I 73 a1.toNatClampNeg).toInt)) ∨ (r = 0 ∧ ¬ ((0 ≤ a1.toInt ∧ a1.toInt < (I 1 5).toInt) ∧ (I 6 a1.toNatClampNeg).toInt ≤ (I 73 a1.toNatClampNeg).toInt)))) 0 0 := by
  intro sz
  refine z_headQ (cc := cX11_remains) (maxL := 2) (ret := (some .boolean)) (by decide) rfl (Nat.le_of_ble_eq_true rfl) ?_
  intro p e s m below meth c0 ls hIn hK hsz hW hl
  obtain ⟨hx, hb, hr, hml, hown, hts, hlocks, hname⟩ := hIn
  subst hsz
  have hown : s.vm.findClass RX11 = some m.cls := hown
  have hA : ∀ q : Nat, s.heap.size ≤ q → z_A (shC c, ad, I, JX, PC c ad) s.heap.size q := fun q h => Or.inr h
  generalize hAe : z_A (shC c, ad, I, JX, PC c ad) s.heap.size = A at *
  have hS : va_S A s.heap s.heap [] := va_S.rf
  have hl : lv_has ls 2 [(0, .ref (ad 0)), (1, .int a1)] := hl
  refine lv_aload_n hx hb dX11_remains_0 rfl (lv_at hl 0 rfl) ?_
  refine z_get (T := TX11) (N := 13) (ci := 11) (i := 0) (v := .ref (ad 1)) hx hb hts zj_X11_remains_X11 hown hK hW rfl rfl 2 (by decide) (hts (.fieldLink RX11 16 "PetrolBoard" "holders" "LPetrolBoard$Holders;") (me_s (me_l (me_l (me_l (List.mem_of_getElem? (i := 0) rfl)))))) (fun _ h => h) rfl dX11_remains_1 ?_
  refine lv_iload_n hx hb dX11_remains_4 rfl (lv_at hl 1 rfl) ?_
  refine z_ci hW hS hA (va_runV (As := [.int a1]) (rest := []) ⟨hx, hb, hml, hown, hts⟩ (sx_X2_has_e l G ad c I ⟨(by show 0 ≤ (I 1 5).toInt ∧ (I 1 5).toInt ≤ 30; exact hH.1), (by show 0 ≤ (I 1 11).toInt ∧ (I 1 11).toInt ≤ 200; exact hH.2)⟩ a1 _) (cwV 1 hts gX11_remains_X2_has rfl rfl rfl (by decide +kernel) ⟨Nat.le_of_ble_eq_true rfl, Nat.le_of_ble_eq_true rfl⟩) (z_preV (i := 1) hK hW rfl rfl) rfl rfl hl.1 rfl (lv_room (Nat.le_of_ble_eq_true rfl)) dX11_remains_5 ⟨Nat.le_of_ble_eq_true rfl, Nat.le_of_ble_eq_true rfl⟩) (fun r u1 H locs hp hW hS => ?_)
  obtain ⟨e9, hp⟩ := hp
  rw [e9] at hW
  rcases hp with ⟨rfl, h1⟩ | ⟨rfl, h1⟩
  · have h2 := h1
    have r3 : 0 ≤ (I 1 5).toInt ∧ (I 1 5).toInt ≤ 30 := hH.1
    refine lv_if_eq (tgt := 35) hx hb dX11_remains_8 (by decide) (fun c4 => absurd c4 (by decide)) (fun c4 => ?_)
    refine lv_aload_n hx hb dX11_remains_11 rfl (lv_at hl 0 rfl) ?_
    refine z_get (T := TX11) (N := 13) (ci := 11) (i := 0) (v := .ref (ad 72)) hx hb hts zj_X11_remains_X11 hown hK hW rfl rfl 12 (by decide) (hts (.fieldLink RX11 75 "PetrolBoard" "deal" "LPetrolBoard$Deal;") (me_s (me_l (me_l (me_l (List.mem_of_getElem? (i := 1) rfl)))))) (fun _ h => h) rfl dX11_remains_12 ?_
    refine lv_iload_n hx hb dX11_remains_15 rfl (lv_at hl 1 rfl) ?_
    refine z_ci hW hS hA (va_runV (As := [.int a1]) (rest := []) ⟨hx, hb, hml, hown, hts⟩ (sx_X1_unitsOf_d l G ad c I (by show 0 ≤ (I 72 2).toInt ∧ (I 72 2).toInt ≤ 30; exact hD) a1 _) (cwV 1 hts gX11_remains_X1_unitsOf rfl rfl rfl (by decide +kernel) ⟨Nat.le_of_ble_eq_true rfl, Nat.le_of_ble_eq_true rfl⟩) (z_preV (i := 72) hK hW rfl rfl) rfl rfl hl.1 rfl (lv_room (Nat.le_of_ble_eq_true rfl)) dX11_remains_16 ⟨Nat.le_of_ble_eq_true rfl, Nat.le_of_ble_eq_true rfl⟩) (fun r u1 H locs hp hW hS => ?_)
    obtain ⟨e9, hp⟩ := hp
    rw [e9] at hW
    refine lv_topi (fun x5 ex5 => ?_)
    rw [← ex5] at hp
    have hP6 := hp
    refine lv_aload_n hx hb dX11_remains_19 rfl (lv_at hl 0 rfl) ?_
    refine z_get (T := TX11) (N := 13) (ci := 11) (i := 0) (v := .ref (ad 1)) hx hb hts zj_X11_remains_X11 hown hK hW rfl rfl 2 (by decide) (hts (.fieldLink RX11 16 "PetrolBoard" "holders" "LPetrolBoard$Holders;") (me_s (me_l (me_l (me_l (List.mem_of_getElem? (i := 0) rfl)))))) (fun _ h => h) rfl dX11_remains_20 ?_
    refine z_get (T := TX2) (N := 12) (ci := 2) (i := 1) (v := .ref (ad 6)) hx hb hts zj_X11_remains_X2 hown hK hW rfl rfl 4 (by decide) (hts (.fieldLink RX11 374 "PetrolBoard$Holders" "need" "[I") (me_s (me_l (me_l (me_l (List.mem_of_getElem? (i := 2) rfl)))))) (fun _ h => h) rfl dX11_remains_23 ?_
    refine lv_iload_n hx hb dX11_remains_26 rfl (lv_at hl 1 rfl) ?_
    refine z_iald (i := 6) hx hb hK hW rfl (z_ix rfl (by omega) (by omega)) dX11_remains_27 ?_
    refine lv_topi (fun x7 ex7 => ?_)
    have hv8 : (I 6 a1.toNatClampNeg).toInt = x7.toInt := by rw [ex7]
    have hz9 := z_clt (x := a1) rfl (by omega)
    refine lv_icmp_lt (tgt := 35) hx hb dX11_remains_28 (by decide) (fun c10 => ?_) (fun c10 => ?_)
    · have g11 := z_f_lt rfl rfl c10
      have b12 := Int32.toInt_lt x5
      have b13 := Int32.toInt_lt x7
      refine lv_iconst (v := 0) hx hb dX11_remains_35 (by decide) ?_
      exact z_zret hx hb hr (by decide) hK hS (Nat.le_of_ble_eq_true rfl) (Nat.le_of_ble_eq_true rfl) hlocks dX11_remains_36 (shC c, ad, I, JX, PC c ad) hW ⟨rfl, (by have u9 : x5.toInt = (I 73 a1.toNatClampNeg).toInt := (by rcases hP6 with ⟨_, w⟩ | ⟨w, _⟩; (· rw [w]); (· exfalso; omega)); exact Or.inr ⟨rfl, fun q => by omega⟩)⟩
    · have g14 := z_f_nlt rfl rfl c10
      have b15 := Int32.toInt_lt x5
      have b16 := Int32.toInt_lt x7
      refine lv_iconst (v := 1) hx hb dX11_remains_31 (by decide) ?_
      refine lv_goto (tgt := 36) hx hb dX11_remains_32 (by decide) ?_
      exact z_zret hx hb hr (by decide) hK hS (Nat.le_of_ble_eq_true rfl) (Nat.le_of_ble_eq_true rfl) hlocks dX11_remains_36 (shC c, ad, I, JX, PC c ad) hW ⟨rfl, (by have u9 : x5.toInt = (I 73 a1.toNatClampNeg).toInt := (by rcases hP6 with ⟨_, w⟩ | ⟨w, _⟩; (· rw [w]); (· exfalso; omega)); exact Or.inl ⟨rfl, by omega, by omega⟩)⟩
  · have h17 := h1
    have r18 : 0 ≤ (I 1 5).toInt ∧ (I 1 5).toInt ≤ 30 := hH.1
    refine lv_if_eq (tgt := 35) hx hb dX11_remains_8 (by decide) (fun c19 => ?_) (fun c19 => absurd (by decide) c19)
    refine lv_iconst (v := 0) hx hb dX11_remains_35 (by decide) ?_
    exact z_zret hx hb hr (by decide) hK hS (Nat.le_of_ble_eq_true rfl) (Nat.le_of_ble_eq_true rfl) hlocks dX11_remains_36 (shC c, ad, I, JX, PC c ad) hW ⟨rfl, (Or.inr ⟨rfl, fun q => by omega⟩)⟩
noncomputable def L_X11_other_d : z_L := [(72, 2), (73, 999), (74, 999), (24, 999), (25, 999)]
set_option maxHeartbeats 8000000 in
set_option maxRecDepth 100000 in
theorem sx_X11_other_d (l : Launch) (G : z_G) (ad : Nat → Nat) (c : z_C) (I : z_I) (hH : z_iH I) (hD : z_iD I) (hO : z_iO I) (hB : z_iB I) (SS : Nat → List zp_T) (a1 : Int32) (a2 : Int32) (a3 : Int32) (a4 : Int32) (hc : z_okc c) (h10 : c.1 ≤ 10) (hWu : zv_W c I SS) (hN : ∀ j : Nat, (j : Int) < (I 1 5).toInt → 0 ≤ (I 6 j).toInt ∧ (I 6 j).toInt ≤ 99) : z_M l yX11_other wsX11_other { frames := 7, cells := 0, slots := 0, locals := 183 } [.ref (ad 0), .int a1, .int a2, .int a3, .int a4] G (shC c, ad, I, JX, PC c ad) (fun r u1 => ∃ I1 : z_I, u1 = (shC c, ad, I1, JX, PC c ad) ∧ z_iH I1 ∧ z_iD I1 ∧ z_iO I1 ∧ z_iB I1 ∧ z_fr L_X11_other_d I1 I ∧ ((((0 ≤ a1.toInt ∧ a1.toInt ≤ 2) ∧ (0 ≤ a2.toInt ∧ a2.toInt ≤ 23) ∧ (0 ≤ a3.toInt ∧ a3.toInt < (I 1 5).toInt) ∧ 0 ≤ a4.toInt ∧ a4.toInt ≤ 1) ∧ ((a4.toInt = 0 ∧ r.toInt = (zd_D (zd_U c I SS a2.toInt) (zd_B I) (zd_N I) (I 1 5).toNatClampNeg a1.toInt) a3.toNatClampNeg) ∨ (a4.toInt = 1 ∧ r.toInt = if zd_N I a3.toNatClampNeg ≤ (zd_D (zd_U c I SS a2.toInt) (zd_B I) (zd_N I) (I 1 5).toNatClampNeg a1.toInt) a3.toNatClampNeg then 1 else 0))) ∨ (¬ ((0 ≤ a1.toInt ∧ a1.toInt ≤ 2) ∧ (0 ≤ a2.toInt ∧ a2.toInt ≤ 23) ∧ (0 ≤ a3.toInt ∧ a3.toInt < (I 1 5).toInt) ∧ 0 ≤ a4.toInt ∧ a4.toInt ≤ 1) ∧ r.toInt = -1))) 0 0 := by
  intro sz
  refine z_headQ (cc := cX11_other) (maxL := 5) (ret := (some .int)) (by decide) rfl (Nat.le_of_ble_eq_true rfl) ?_
  intro p e s m below meth c0 ls hIn hK hsz hW hl
  obtain ⟨hx, hb, hr, hml, hown, hts, hlocks, hname⟩ := hIn
  subst hsz
  have hown : s.vm.findClass RX11 = some m.cls := hown
  have hA : ∀ q : Nat, s.heap.size ≤ q → z_A (shC c, ad, I, JX, PC c ad) s.heap.size q := fun q h => Or.inr h
  generalize hAe : z_A (shC c, ad, I, JX, PC c ad) s.heap.size = A at *
  have hS : va_S A s.heap s.heap [] := va_S.rf
  have hl : lv_has ls 5 [(0, .ref (ad 0)), (1, .int a1), (2, .int a2), (3, .int a3), (4, .int a4)] := hl
  refine lv_iload_n hx hb dX11_other_0 rfl (lv_at hl 1 rfl) ?_
  refine lv_iconst (v := 0) hx hb dX11_other_1 (by decide) ?_
  refine lv_iconst (v := 2) hx hb dX11_other_2 (by decide) ?_
  refine z_ci hW hS hA (va_runS (As := [.int a1, .int 0, .int 2]) (rest := []) ⟨hx, hb, hml, hown, hts⟩ (sx_X11_within_e l G ad c I  a1 0 2 _) (va_cwS 3 hts gX11_other_X11_within rfl rfl rfl (by decide +kernel) ⟨Nat.le_of_ble_eq_true rfl, Nat.le_of_ble_eq_true rfl⟩) (z_preS hK hW) rfl rfl hl.1 rfl (lv_room (Nat.le_of_ble_eq_true rfl)) dX11_other_3 ⟨Nat.le_of_ble_eq_true rfl, Nat.le_of_ble_eq_true rfl⟩) (fun r u1 H locs hp hW hS => ?_)
  obtain ⟨e9, hp⟩ := hp
  rw [e9] at hW
  rcases hp with ⟨rfl, h1⟩ | ⟨rfl, h1⟩
  · have h2 := h1
    have z3 := z_l0
    have z4 := z_l2
    refine lv_if_eq (tgt := 37) hx hb dX11_other_6 (by decide) (fun c5 => absurd c5 (by decide)) (fun c5 => ?_)
    refine lv_iload_n hx hb dX11_other_9 rfl (lv_at hl 2 rfl) ?_
    refine z_ci hW hS hA (va_runS (As := [.int a2]) (rest := []) ⟨hx, hb, hml, hown, hts⟩ (sx_X11_isMonth_e l G ad c I  a2 _) (va_cwS 1 hts gX11_other_X11_isMonth rfl rfl rfl (by decide +kernel) ⟨Nat.le_of_ble_eq_true rfl, Nat.le_of_ble_eq_true rfl⟩) (z_preS hK hW) rfl rfl hl.1 rfl (lv_room (Nat.le_of_ble_eq_true rfl)) dX11_other_10 ⟨Nat.le_of_ble_eq_true rfl, Nat.le_of_ble_eq_true rfl⟩) (fun r u1 H locs hp hW hS => ?_)
    obtain ⟨e9, hp⟩ := hp
    rw [e9] at hW
    rcases hp with ⟨rfl, h6⟩ | ⟨rfl, h6⟩
    · have h7 := h6
      refine lv_if_eq (tgt := 37) hx hb dX11_other_13 (by decide) (fun c8 => absurd c8 (by decide)) (fun c8 => ?_)
      refine lv_aload_n hx hb dX11_other_16 rfl (lv_at hl 0 rfl) ?_
      refine z_get (T := TX11) (N := 13) (ci := 11) (i := 0) (v := .ref (ad 1)) hx hb hts zj_X11_other_X11 hown hK hW rfl rfl 2 (by decide) (hts (.fieldLink RX11 16 "PetrolBoard" "holders" "LPetrolBoard$Holders;") (me_s (me_l (me_l (me_l (me_l (me_l (me_l (me_l (List.mem_of_getElem? (i := 0) rfl)))))))))) (fun _ h => h) rfl dX11_other_17 ?_
      refine lv_iload_n hx hb dX11_other_20 rfl (lv_at hl 3 rfl) ?_
      refine z_ci hW hS hA (va_runV (As := [.int a3]) (rest := []) ⟨hx, hb, hml, hown, hts⟩ (sx_X2_has_e l G ad c I ⟨(by show 0 ≤ (I 1 5).toInt ∧ (I 1 5).toInt ≤ 30; exact hH.1), (by show 0 ≤ (I 1 11).toInt ∧ (I 1 11).toInt ≤ 200; exact hH.2)⟩ a3 _) (cwV 1 hts gX11_other_X2_has rfl rfl rfl (by decide +kernel) ⟨Nat.le_of_ble_eq_true rfl, Nat.le_of_ble_eq_true rfl⟩) (z_preV (i := 1) hK hW rfl rfl) rfl rfl hl.1 rfl (lv_room (Nat.le_of_ble_eq_true rfl)) dX11_other_21 ⟨Nat.le_of_ble_eq_true rfl, Nat.le_of_ble_eq_true rfl⟩) (fun r u1 H locs hp hW hS => ?_)
      obtain ⟨e9, hp⟩ := hp
      rw [e9] at hW
      rcases hp with ⟨rfl, h9⟩ | ⟨rfl, h9⟩
      · have h11 := h9
        have r12 : 0 ≤ (I 1 5).toInt ∧ (I 1 5).toInt ≤ 30 := hH.1
        refine lv_if_eq (tgt := 37) hx hb dX11_other_24 (by decide) (fun c13 => absurd c13 (by decide)) (fun c13 => ?_)
        refine lv_iload hx hb dX11_other_27 (lv_at hl 4 rfl) ?_
        refine lv_iconst (v := 0) hx hb dX11_other_29 (by decide) ?_
        refine lv_iconst (v := 1) hx hb dX11_other_30 (by decide) ?_
        refine z_ci hW hS hA (va_runS (As := [.int a4, .int 0, .int 1]) (rest := []) ⟨hx, hb, hml, hown, hts⟩ (sx_X11_within_e l G ad c I  a4 0 1 _) (va_cwS 3 hts gX11_other_X11_within rfl rfl rfl (by decide +kernel) ⟨Nat.le_of_ble_eq_true rfl, Nat.le_of_ble_eq_true rfl⟩) (z_preS hK hW) rfl rfl hl.1 rfl (lv_room (Nat.le_of_ble_eq_true rfl)) dX11_other_31 ⟨Nat.le_of_ble_eq_true rfl, Nat.le_of_ble_eq_true rfl⟩) (fun r u1 H locs hp hW hS => ?_)
        obtain ⟨e9, hp⟩ := hp
        rw [e9] at hW
        rcases hp with ⟨rfl, h14⟩ | ⟨rfl, h14⟩
        · have h15 := h14
          have z16 := z_l0
          have z17 := z_l1
          refine lv_if_ne (tgt := 39) hx hb dX11_other_34 (by decide) (fun c18 => ?_) (fun c18 => absurd c18 (by decide))
          refine lv_aload_n hx hb dX11_other_39 rfl (lv_at hl 0 rfl) ?_
          refine lv_iload_n hx hb dX11_other_40 rfl (lv_at hl 1 rfl) ?_
          refine lv_iload_n hx hb dX11_other_41 rfl (lv_at hl 2 rfl) ?_
          refine z_cv hW hS hA (va_runV (As := [.int a1, .int a2]) (rest := []) ⟨hx, hb, hml, hown, hts⟩ (sx_X11_dealOut_d l G ad c I ⟨(by show 0 ≤ (I 1 5).toInt ∧ (I 1 5).toInt ≤ 30; exact hH.1), (by show 0 ≤ (I 1 11).toInt ∧ (I 1 11).toInt ≤ 200; exact hH.2)⟩ (by show 0 ≤ (I 72 2).toInt ∧ (I 72 2).toInt ≤ 30; exact hD) (by show 0 ≤ (I 21 2).toInt ∧ (I 21 2).toInt ≤ 12; exact hO) ⟨(by show 0 ≤ (I 0 0).toInt ∧ (I 0 0).toInt ≤ 719; exact hB.1), (by show 0 ≤ (I 0 8).toInt ∧ (I 0 8).toInt ≤ 10; exact hB.2)⟩ SS a1 a2 hc h10 hWu (by omega) hN _) (cwV 2 hts gX11_other_X11_dealOut rfl rfl rfl (by decide +kernel) ⟨Nat.le_of_ble_eq_true rfl, Nat.le_of_ble_eq_true rfl⟩) (z_preV (i := 0) hK hW rfl rfl) rfl rfl hl.1 rfl (lv_room (Nat.le_of_ble_eq_true rfl)) dX11_other_42 ⟨Nat.le_of_ble_eq_true rfl, Nat.le_of_ble_eq_true rfl⟩) (fun u1 H locs hp hW hS => ?_)
          obtain ⟨I19, e9, hI19H, hI19D, hI19O, hI19B, fI19, hp⟩ := hp
          rw [e9] at hW
          have f20 := z_fr_sub (L := L_X11_other_d) z_fr_0 fI19 (by decide)
          have hE21 := hp
          refine lv_iload hx hb dX11_other_45 (lv_at hl 4 rfl) ?_
          refine lv_if_ne (tgt := 61) hx hb dX11_other_47 (by decide) (fun c22 => ?_) (fun c22 => ?_)
          · have g23 := z_f_ne rfl z_l0 c22
            refine lv_aload_n hx hb dX11_other_61 rfl (lv_at hl 0 rfl) ?_
            refine lv_iload_n hx hb dX11_other_62 rfl (lv_at hl 3 rfl) ?_
            refine z_ci hW hS hA (va_runV (As := [.int a3]) (rest := []) ⟨hx, hb, hml, hown, hts⟩ (sx_X11_remains_d l G ad c I19 ⟨(by show 0 ≤ (I19 1 5).toInt ∧ (I19 1 5).toInt ≤ 30; exact hI19H.1), (by show 0 ≤ (I19 1 11).toInt ∧ (I19 1 11).toInt ≤ 200; exact hI19H.2)⟩ (by show 0 ≤ (I19 72 2).toInt ∧ (I19 72 2).toInt ≤ 30; exact hI19D) a3 hc h10 (by rw [hE21.1, fI19 1 5 (by decide)]) _) (cwV 1 hts gX11_other_X11_remains rfl rfl rfl (by decide +kernel) ⟨Nat.le_of_ble_eq_true rfl, Nat.le_of_ble_eq_true rfl⟩) (z_preV (i := 0) hK hW rfl rfl) rfl rfl hl.1 rfl (lv_room (Nat.le_of_ble_eq_true rfl)) dX11_other_63 ⟨Nat.le_of_ble_eq_true rfl, Nat.le_of_ble_eq_true rfl⟩) (fun r u1 H locs hp hW hS => ?_)
            obtain ⟨e9, hp⟩ := hp
            rw [e9] at hW
            rcases hp with ⟨rfl, hb24⟩ | ⟨rfl, hb24⟩
            · refine lv_if_eq (tgt := 73) hx hb dX11_other_66 (by decide) (fun c25 => absurd c25 (by decide)) (fun c25 => ?_)
              refine lv_iconst (v := 1) hx hb dX11_other_69 (by decide) ?_
              refine lv_goto (tgt := 74) hx hb dX11_other_70 (by decide) ?_
              exact z_iret hx hb hr hK hS (Nat.le_of_ble_eq_true rfl) (Nat.le_of_ble_eq_true rfl) hlocks dX11_other_74 (shC c, ad, I19, JX, PC c ad) hW ⟨I19, rfl, ⟨(by show 0 ≤ (I19 1 5).toInt ∧ (I19 1 5).toInt ≤ 30; exact hI19H.1), (by show 0 ≤ (I19 1 11).toInt ∧ (I19 1 11).toInt ≤ 200; exact hI19H.2)⟩, (by show 0 ≤ (I19 72 2).toInt ∧ (I19 72 2).toInt ≤ 30; exact hI19D), (by show 0 ≤ (I19 21 2).toInt ∧ (I19 21 2).toInt ≤ 12; exact hI19O), ⟨(by show 0 ≤ (I19 0 0).toInt ∧ (I19 0 0).toInt ≤ 719; exact hI19B.1), (by show 0 ≤ (I19 0 8).toInt ∧ (I19 0 8).toInt ≤ 10; exact hI19B.2)⟩, f20, (by have c9 := z_clt (x := a3) rfl (by omega); have d9 := hE21.2 a3.toNatClampNeg (by omega); have n9 : (I19 6 a3.toNatClampNeg).toInt = zd_N I a3.toNatClampNeg := (by rw [fI19 6 a3.toNatClampNeg (z_wr_c (by decide))]; rfl); have q9 := hb24.2; rw [n9, d9] at q9; exact Or.inl ⟨by omega, Or.inr ⟨by omega, by rw [if_pos q9]; decide⟩⟩)⟩
            · refine lv_if_eq (tgt := 73) hx hb dX11_other_66 (by decide) (fun c26 => ?_) (fun c26 => absurd (by decide) c26)
              refine lv_iconst (v := 0) hx hb dX11_other_73 (by decide) ?_
              exact z_iret hx hb hr hK hS (Nat.le_of_ble_eq_true rfl) (Nat.le_of_ble_eq_true rfl) hlocks dX11_other_74 (shC c, ad, I19, JX, PC c ad) hW ⟨I19, rfl, ⟨(by show 0 ≤ (I19 1 5).toInt ∧ (I19 1 5).toInt ≤ 30; exact hI19H.1), (by show 0 ≤ (I19 1 11).toInt ∧ (I19 1 11).toInt ≤ 200; exact hI19H.2)⟩, (by show 0 ≤ (I19 72 2).toInt ∧ (I19 72 2).toInt ≤ 30; exact hI19D), (by show 0 ≤ (I19 21 2).toInt ∧ (I19 21 2).toInt ≤ 12; exact hI19O), ⟨(by show 0 ≤ (I19 0 0).toInt ∧ (I19 0 0).toInt ≤ 719; exact hI19B.1), (by show 0 ≤ (I19 0 8).toInt ∧ (I19 0 8).toInt ≤ 10; exact hI19B.2)⟩, f20, (by have c9 := z_clt (x := a3) rfl (by omega); have d9 := hE21.2 a3.toNatClampNeg (by omega); have n9 : (I19 6 a3.toNatClampNeg).toInt = zd_N I a3.toNatClampNeg := (by rw [fI19 6 a3.toNatClampNeg (z_wr_c (by decide))]; rfl); exact Or.inl ⟨by omega, Or.inr ⟨by omega, by rw [if_neg (fun q9 => hb24 ⟨⟨by omega, by rw [fI19 1 5 (by decide)]; omega⟩, by rw [n9, d9]; exact q9⟩)]; decide⟩⟩)⟩
          · have g27 := z_f_eq rfl z_l0 c22
            refine lv_aload_n hx hb dX11_other_50 rfl (lv_at hl 0 rfl) ?_
            refine z_get (T := TX11) (N := 13) (ci := 11) (i := 0) (v := .ref (ad 72)) hx hb hts zj_X11_other_X11 hown hK hW rfl rfl 12 (by decide) (hts (.fieldLink RX11 75 "PetrolBoard" "deal" "LPetrolBoard$Deal;") (me_s (me_l (me_l (me_l (me_l (me_l (me_l (me_l (List.mem_of_getElem? (i := 1) rfl)))))))))) (fun _ h => h) rfl dX11_other_51 ?_
            refine lv_iload_n hx hb dX11_other_54 rfl (lv_at hl 3 rfl) ?_
            refine z_ci hW hS hA (va_runV (As := [.int a3]) (rest := []) ⟨hx, hb, hml, hown, hts⟩ (sx_X1_unitsOf_d l G ad c I19 (by show 0 ≤ (I19 72 2).toInt ∧ (I19 72 2).toInt ≤ 30; exact hI19D) a3 _) (cwV 1 hts gX11_other_X1_unitsOf rfl rfl rfl (by decide +kernel) ⟨Nat.le_of_ble_eq_true rfl, Nat.le_of_ble_eq_true rfl⟩) (z_preV (i := 72) hK hW rfl rfl) rfl rfl hl.1 rfl (lv_room (Nat.le_of_ble_eq_true rfl)) dX11_other_55 ⟨Nat.le_of_ble_eq_true rfl, Nat.le_of_ble_eq_true rfl⟩) (fun r u1 H locs hp hW hS => ?_)
            obtain ⟨e9, hp⟩ := hp
            rw [e9] at hW
            refine lv_topi (fun x28 ex28 => ?_)
            rw [← ex28] at hp
            have hP29 := hp
            refine lv_goto (tgt := 74) hx hb dX11_other_58 (by decide) ?_
            exact z_iret hx hb hr hK hS (Nat.le_of_ble_eq_true rfl) (Nat.le_of_ble_eq_true rfl) hlocks dX11_other_74 (shC c, ad, I19, JX, PC c ad) hW ⟨I19, rfl, ⟨(by show 0 ≤ (I19 1 5).toInt ∧ (I19 1 5).toInt ≤ 30; exact hI19H.1), (by show 0 ≤ (I19 1 11).toInt ∧ (I19 1 11).toInt ≤ 200; exact hI19H.2)⟩, (by show 0 ≤ (I19 72 2).toInt ∧ (I19 72 2).toInt ≤ 30; exact hI19D), (by show 0 ≤ (I19 21 2).toInt ∧ (I19 21 2).toInt ≤ 12; exact hI19O), ⟨(by show 0 ≤ (I19 0 0).toInt ∧ (I19 0 0).toInt ≤ 719; exact hI19B.1), (by show 0 ≤ (I19 0 8).toInt ∧ (I19 0 8).toInt ≤ 10; exact hI19B.2)⟩, f20, (by have c9 := z_clt (x := a3) rfl (by omega); have d9 := hE21.2 a3.toNatClampNeg (by omega); have n9 : (I19 6 a3.toNatClampNeg).toInt = zd_N I a3.toNatClampNeg := (by rw [fI19 6 a3.toNatClampNeg (z_wr_c (by decide))]; rfl); exact Or.inl ⟨by omega, Or.inl ⟨by omega, by rcases hP29 with ⟨_, w⟩ | ⟨w, _⟩; (· rw [w]; exact d9); (· exfalso; have w9 := hE21.1; omega)⟩⟩)⟩
        · have h30 := h14
          have z31 := z_l0
          have z32 := z_l1
          refine lv_if_ne (tgt := 39) hx hb dX11_other_34 (by decide) (fun c33 => absurd (by decide) c33) (fun c33 => ?_)
          refine lv_iconst (v := (-1)) hx hb dX11_other_37 (by decide) ?_
          exact z_iret hx hb hr hK hS (Nat.le_of_ble_eq_true rfl) (Nat.le_of_ble_eq_true rfl) hlocks dX11_other_38 (shC c, ad, I, JX, PC c ad) hW ⟨I, rfl, ⟨(by show 0 ≤ (I 1 5).toInt ∧ (I 1 5).toInt ≤ 30; exact hH.1), (by show 0 ≤ (I 1 11).toInt ∧ (I 1 11).toInt ≤ 200; exact hH.2)⟩, (by show 0 ≤ (I 72 2).toInt ∧ (I 72 2).toInt ≤ 30; exact hD), (by show 0 ≤ (I 21 2).toInt ∧ (I 21 2).toInt ≤ 12; exact hO), ⟨(by show 0 ≤ (I 0 0).toInt ∧ (I 0 0).toInt ≤ 719; exact hB.1), (by show 0 ≤ (I 0 8).toInt ∧ (I 0 8).toInt ≤ 10; exact hB.2)⟩, z_fr_0, (Or.inr ⟨by omega, by decide⟩)⟩
      · have h34 := h9
        have r35 : 0 ≤ (I 1 5).toInt ∧ (I 1 5).toInt ≤ 30 := hH.1
        refine lv_if_eq (tgt := 37) hx hb dX11_other_24 (by decide) (fun c36 => ?_) (fun c36 => absurd (by decide) c36)
        refine lv_iconst (v := (-1)) hx hb dX11_other_37 (by decide) ?_
        exact z_iret hx hb hr hK hS (Nat.le_of_ble_eq_true rfl) (Nat.le_of_ble_eq_true rfl) hlocks dX11_other_38 (shC c, ad, I, JX, PC c ad) hW ⟨I, rfl, ⟨(by show 0 ≤ (I 1 5).toInt ∧ (I 1 5).toInt ≤ 30; exact hH.1), (by show 0 ≤ (I 1 11).toInt ∧ (I 1 11).toInt ≤ 200; exact hH.2)⟩, (by show 0 ≤ (I 72 2).toInt ∧ (I 72 2).toInt ≤ 30; exact hD), (by show 0 ≤ (I 21 2).toInt ∧ (I 21 2).toInt ≤ 12; exact hO), ⟨(by show 0 ≤ (I 0 0).toInt ∧ (I 0 0).toInt ≤ 719; exact hB.1), (by show 0 ≤ (I 0 8).toInt ∧ (I 0 8).toInt ≤ 10; exact hB.2)⟩, z_fr_0, (Or.inr ⟨by omega, by decide⟩)⟩
    · have h37 := h6
      refine lv_if_eq (tgt := 37) hx hb dX11_other_13 (by decide) (fun c38 => ?_) (fun c38 => absurd (by decide) c38)
      refine lv_iconst (v := (-1)) hx hb dX11_other_37 (by decide) ?_
      exact z_iret hx hb hr hK hS (Nat.le_of_ble_eq_true rfl) (Nat.le_of_ble_eq_true rfl) hlocks dX11_other_38 (shC c, ad, I, JX, PC c ad) hW ⟨I, rfl, ⟨(by show 0 ≤ (I 1 5).toInt ∧ (I 1 5).toInt ≤ 30; exact hH.1), (by show 0 ≤ (I 1 11).toInt ∧ (I 1 11).toInt ≤ 200; exact hH.2)⟩, (by show 0 ≤ (I 72 2).toInt ∧ (I 72 2).toInt ≤ 30; exact hD), (by show 0 ≤ (I 21 2).toInt ∧ (I 21 2).toInt ≤ 12; exact hO), ⟨(by show 0 ≤ (I 0 0).toInt ∧ (I 0 0).toInt ≤ 719; exact hB.1), (by show 0 ≤ (I 0 8).toInt ∧ (I 0 8).toInt ≤ 10; exact hB.2)⟩, z_fr_0, (Or.inr ⟨by omega, by decide⟩)⟩
  · have h39 := h1
    have z40 := z_l0
    have z41 := z_l2
    refine lv_if_eq (tgt := 37) hx hb dX11_other_6 (by decide) (fun c42 => ?_) (fun c42 => absurd (by decide) c42)
    refine lv_iconst (v := (-1)) hx hb dX11_other_37 (by decide) ?_
    exact z_iret hx hb hr hK hS (Nat.le_of_ble_eq_true rfl) (Nat.le_of_ble_eq_true rfl) hlocks dX11_other_38 (shC c, ad, I, JX, PC c ad) hW ⟨I, rfl, ⟨(by show 0 ≤ (I 1 5).toInt ∧ (I 1 5).toInt ≤ 30; exact hH.1), (by show 0 ≤ (I 1 11).toInt ∧ (I 1 11).toInt ≤ 200; exact hH.2)⟩, (by show 0 ≤ (I 72 2).toInt ∧ (I 72 2).toInt ≤ 30; exact hD), (by show 0 ≤ (I 21 2).toInt ∧ (I 21 2).toInt ≤ 12; exact hO), ⟨(by show 0 ≤ (I 0 0).toInt ∧ (I 0 0).toInt ≤ 719; exact hB.1), (by show 0 ≤ (I 0 8).toInt ∧ (I 0 8).toInt ≤ 10; exact hB.2)⟩, z_fr_0, (Or.inr ⟨by omega, by decide⟩)⟩
noncomputable def L_X11_stays_d : z_L := [(72, 2), (73, 999), (74, 999), (24, 999), (25, 999)]
set_option maxHeartbeats 8000000 in
set_option maxRecDepth 100000 in
theorem sx_X11_stays_d (l : Launch) (G : z_G) (ad : Nat → Nat) (c : z_C) (I : z_I) (hH : z_iH I) (hD : z_iD I) (hO : z_iO I) (hB : z_iB I) (SS : Nat → List zp_T) (a1 : Int32) (a2 : Int32) (hc : z_okc c) (h10 : c.1 ≤ 10) (hWu : zv_W c I SS) (hN : ∀ j : Nat, (j : Int) < (I 1 5).toInt → 0 ≤ (I 6 j).toInt ∧ (I 6 j).toInt ≤ 99) : z_M l yX11_stays wsX11_stays { frames := 7, cells := 0, slots := 0, locals := 183 } [.ref (ad 0), .int a1, .int a2] G (shC c, ad, I, JX, PC c ad) (fun r u1 => ∃ I1 : z_I, u1 = (shC c, ad, I1, JX, PC c ad) ∧ z_iH I1 ∧ z_iD I1 ∧ z_iO I1 ∧ z_iB I1 ∧ z_fr L_X11_stays_d I1 I ∧ ((((0 ≤ a1.toInt ∧ a1.toInt ≤ 2) ∧ 0 ≤ a2.toInt ∧ a2.toInt ≤ 23) ∧ r.toInt = zd_C (zd_D (zd_U c I SS a2.toInt) (zd_B I) (zd_N I) (I 1 5).toNatClampNeg a1.toInt) (zd_N I) (I 1 5).toNatClampNeg) ∨ (¬ ((0 ≤ a1.toInt ∧ a1.toInt ≤ 2) ∧ 0 ≤ a2.toInt ∧ a2.toInt ≤ 23) ∧ r.toInt = -1))) 0 0 := by
  intro sz
  refine z_headQ (cc := cX11_stays) (maxL := 5) (ret := (some .int)) (by decide) rfl (Nat.le_of_ble_eq_true rfl) ?_
  intro p e s m below meth c0 ls hIn hK hsz hW hl
  obtain ⟨hx, hb, hr, hml, hown, hts, hlocks, hname⟩ := hIn
  subst hsz
  have hown : s.vm.findClass RX11 = some m.cls := hown
  have hA : ∀ q : Nat, s.heap.size ≤ q → z_A (shC c, ad, I, JX, PC c ad) s.heap.size q := fun q h => Or.inr h
  generalize hAe : z_A (shC c, ad, I, JX, PC c ad) s.heap.size = A at *
  have hS : va_S A s.heap s.heap [] := va_S.rf
  have hl : lv_has ls 5 [(0, .ref (ad 0)), (1, .int a1), (2, .int a2)] := hl
  refine lv_iload_n hx hb dX11_stays_0 rfl (lv_at hl 1 rfl) ?_
  refine lv_iconst (v := 0) hx hb dX11_stays_1 (by decide) ?_
  refine lv_iconst (v := 2) hx hb dX11_stays_2 (by decide) ?_
  refine z_ci hW hS hA (va_runS (As := [.int a1, .int 0, .int 2]) (rest := []) ⟨hx, hb, hml, hown, hts⟩ (sx_X11_within_e l G ad c I  a1 0 2 _) (va_cwS 3 hts gX11_stays_X11_within rfl rfl rfl (by decide +kernel) ⟨Nat.le_of_ble_eq_true rfl, Nat.le_of_ble_eq_true rfl⟩) (z_preS hK hW) rfl rfl hl.1 rfl (lv_room (Nat.le_of_ble_eq_true rfl)) dX11_stays_3 ⟨Nat.le_of_ble_eq_true rfl, Nat.le_of_ble_eq_true rfl⟩) (fun r u1 H locs hp hW hS => ?_)
  obtain ⟨e9, hp⟩ := hp
  rw [e9] at hW
  rcases hp with ⟨rfl, h1⟩ | ⟨rfl, h1⟩
  · have h2 := h1
    have z3 := z_l0
    have z4 := z_l2
    refine lv_if_eq (tgt := 16) hx hb dX11_stays_6 (by decide) (fun c5 => absurd c5 (by decide)) (fun c5 => ?_)
    refine lv_iload_n hx hb dX11_stays_9 rfl (lv_at hl 2 rfl) ?_
    refine z_ci hW hS hA (va_runS (As := [.int a2]) (rest := []) ⟨hx, hb, hml, hown, hts⟩ (sx_X11_isMonth_e l G ad c I  a2 _) (va_cwS 1 hts gX11_stays_X11_isMonth rfl rfl rfl (by decide +kernel) ⟨Nat.le_of_ble_eq_true rfl, Nat.le_of_ble_eq_true rfl⟩) (z_preS hK hW) rfl rfl hl.1 rfl (lv_room (Nat.le_of_ble_eq_true rfl)) dX11_stays_10 ⟨Nat.le_of_ble_eq_true rfl, Nat.le_of_ble_eq_true rfl⟩) (fun r u1 H locs hp hW hS => ?_)
    obtain ⟨e9, hp⟩ := hp
    rw [e9] at hW
    rcases hp with ⟨rfl, h6⟩ | ⟨rfl, h6⟩
    · have h7 := h6
      refine lv_if_ne (tgt := 18) hx hb dX11_stays_13 (by decide) (fun c8 => ?_) (fun c8 => absurd c8 (by decide))
      refine lv_aload_n hx hb dX11_stays_18 rfl (lv_at hl 0 rfl) ?_
      refine lv_iload_n hx hb dX11_stays_19 rfl (lv_at hl 1 rfl) ?_
      refine lv_iload_n hx hb dX11_stays_20 rfl (lv_at hl 2 rfl) ?_
      refine z_cv hW hS hA (va_runV (As := [.int a1, .int a2]) (rest := []) ⟨hx, hb, hml, hown, hts⟩ (sx_X11_dealOut_d l G ad c I ⟨(by show 0 ≤ (I 1 5).toInt ∧ (I 1 5).toInt ≤ 30; exact hH.1), (by show 0 ≤ (I 1 11).toInt ∧ (I 1 11).toInt ≤ 200; exact hH.2)⟩ (by show 0 ≤ (I 72 2).toInt ∧ (I 72 2).toInt ≤ 30; exact hD) (by show 0 ≤ (I 21 2).toInt ∧ (I 21 2).toInt ≤ 12; exact hO) ⟨(by show 0 ≤ (I 0 0).toInt ∧ (I 0 0).toInt ≤ 719; exact hB.1), (by show 0 ≤ (I 0 8).toInt ∧ (I 0 8).toInt ≤ 10; exact hB.2)⟩ SS a1 a2 hc h10 hWu (by omega) hN _) (cwV 2 hts gX11_stays_X11_dealOut rfl rfl rfl (by decide +kernel) ⟨Nat.le_of_ble_eq_true rfl, Nat.le_of_ble_eq_true rfl⟩) (z_preV (i := 0) hK hW rfl rfl) rfl rfl hl.1 rfl (lv_room (Nat.le_of_ble_eq_true rfl)) dX11_stays_21 ⟨Nat.le_of_ble_eq_true rfl, Nat.le_of_ble_eq_true rfl⟩) (fun u1 H locs hp hW hS => ?_)
      obtain ⟨I9, e9, hI9H, hI9D, hI9O, hI9B, fI9, hp⟩ := hp
      rw [e9] at hW
      have f10 := z_fr_sub (L := L_X11_stays_d) z_fr_0 fI9 (by decide)
      have hE11 := hp
      refine lv_iconst (v := 0) hx hb dX11_stays_24 (by decide) ?_
      refine lv_istore_n (lv' := [(3, .int 0), (0, .ref (ad 0)), (1, .int a1), (2, .int a2)]) hx hb dX11_stays_25 rfl hl (by decide) rfl (fun ls hl => ?_)
      refine lv_iconst (v := 0) hx hb dX11_stays_26 (by decide) ?_
      refine lv_istore (lv' := [(4, .int 0), (3, .int 0), (0, .ref (ad 0)), (1, .int a1), (2, .int a2)]) hx hb dX11_stays_27 hl (by decide) rfl (fun ls hl => ?_)
      have lp12 : ∀ (f : Nat) (y13 : Int32) (y14 : Int32) (H : Heap) (locs : List Loc) (ls : Array Slot), (2147483647 < y13.toInt + (f : Int)) → (0 ≤ y13.toInt) → (0 ≤ y14.toInt) → (y14.toInt ≤ 30) → (y14.toInt = zd_C (zd_D (zd_U c I SS a2.toInt) (zd_B I) (zd_N I) (I 1 5).toNatClampNeg a1.toInt) (zd_N I) y13.toNatClampNeg ∧ y14.toInt ≤ y13.toInt ∧ y13.toInt ≤ (I 1 5).toInt) → z_W G A (shC c, ad, I9, JX, PC c ad) H → va_S A s.heap H locs → lv_has ls 5 [(4, .int y13), (3, .int y14), (0, .ref (ad 0)), (1, .int a1), (2, .int a2)] → W p l e (headSpec wsX11_stays { frames := 7, cells := 0, slots := 0, locals := 183 }).room s m ([.ref (ad 0), .int a1, .int a2] : List Value).toArray below meth c0 H locs 0 0 (MQ below (va_Qi (fun (r : Int32) (u1 : z_U) => ∃ I1 : z_I, u1 = (shC c, ad, I1, JX, PC c ad) ∧ z_iH I1 ∧ z_iD I1 ∧ z_iO I1 ∧ z_iB I1 ∧ z_fr L_X11_stays_d I1 I ∧ ((((0 ≤ a1.toInt ∧ a1.toInt ≤ 2) ∧ 0 ≤ a2.toInt ∧ a2.toInt ≤ 23) ∧ r.toInt = zd_C (zd_D (zd_U c I SS a2.toInt) (zd_B I) (zd_N I) (I 1 5).toNatClampNeg a1.toInt) (zd_N I) (I 1 5).toNatClampNeg) ∨ (¬ ((0 ≤ a1.toInt ∧ a1.toInt ≤ 2) ∧ 0 ≤ a2.toInt ∧ a2.toInt ≤ 23) ∧ r.toInt = -1))) (z_B G A) A) ([.ref (ad 0), .int a1, .int a2] : List Value).toArray s 0 0 A) (F0 m 29 ls []) := by
        intro f
        induction f with
        | zero => intro y13 y14 H locs ls lp12m lp12l4 lp12l3 lp12u3 lp12C hW hS hl; exact absurd lp12m (by have := Int32.toInt_lt y13; have := Int32.le_toInt y13; omega)
        | succ f lp12ih =>
          intro y13 y14 H locs ls lp12m lp12l4 lp12l3 lp12u3 lp12C hW hS hl
          refine lv_iload hx hb dX11_stays_29 (lv_at hl 0 rfl) ?_
          have hn15 : (I9 1 5).toInt = (I 1 5).toInt := by rw [fI9 1 5 (by decide)]
          refine lv_aload_n hx hb dX11_stays_31 rfl (lv_at hl 2 rfl) ?_
          refine z_get (T := TX11) (N := 13) (ci := 11) (i := 0) (v := .ref (ad 1)) hx hb hts zj_X11_stays_X11 hown hK hW rfl rfl 2 (by decide) (hts (.fieldLink RX11 16 "PetrolBoard" "holders" "LPetrolBoard$Holders;") (me_s (me_l (me_l (me_l (me_l (me_l (me_l (me_l (List.mem_of_getElem? (i := 0) rfl)))))))))) (fun _ h => h) rfl dX11_stays_32 ?_
          have r16 : 0 ≤ (I9 1 5).toInt ∧ (I9 1 5).toInt ≤ 30 := hI9H.1
          refine z_get (T := TX2) (N := 12) (ci := 2) (i := 1) (v := .int (I9 1 5)) hx hb hts zj_X11_stays_X2 hown hK hW rfl rfl 5 (by decide) (hts (.fieldLink RX11 373 "PetrolBoard$Holders" "number" "I") (me_s (me_l (me_l (me_l (me_l (me_l (me_l (me_l (List.mem_of_getElem? (i := 1) rfl)))))))))) (fun _ h => h) rfl dX11_stays_35 ?_
          refine lv_icmp_ge (tgt := 64) hx hb dX11_stays_38 (by decide) (fun c17 => ?_) (fun c17 => ?_)
          · have g18 := z_f_ge rfl rfl c17
            have b19 := Int32.toInt_lt y13
            refine lv_iload_n hx hb dX11_stays_64 rfl (lv_at hl 1 rfl) ?_
            exact z_iret hx hb hr hK hS (Nat.le_of_ble_eq_true rfl) (Nat.le_of_ble_eq_true rfl) hlocks dX11_stays_65 (shC c, ad, I9, JX, PC c ad) hW ⟨I9, rfl, ⟨(by show 0 ≤ (I9 1 5).toInt ∧ (I9 1 5).toInt ≤ 30; exact hI9H.1), (by show 0 ≤ (I9 1 11).toInt ∧ (I9 1 11).toInt ≤ 200; exact hI9H.2)⟩, (by show 0 ≤ (I9 72 2).toInt ∧ (I9 72 2).toInt ≤ 30; exact hI9D), (by show 0 ≤ (I9 21 2).toInt ∧ (I9 21 2).toInt ≤ 12; exact hI9O), ⟨(by show 0 ≤ (I9 0 0).toInt ∧ (I9 0 0).toInt ≤ 719; exact hI9B.1), (by show 0 ≤ (I9 0 8).toInt ∧ (I9 0 8).toInt ≤ 10; exact hI9B.2)⟩, f10, (by have q1 := z_clt (x := y13) rfl (by omega); have q2 := z_clt (x := I 1 5) rfl (by have q9 := hH.1; omega); have e9 := lp12C.1; rw [show y13.toNatClampNeg = (I 1 5).toNatClampNeg by omega] at e9; exact Or.inl ⟨by omega, e9⟩)⟩
          · have g20 := z_f_nge rfl rfl c17
            have b21 := Int32.toInt_lt y13
            refine lv_iload_n hx hb dX11_stays_41 rfl (lv_at hl 1 rfl) ?_
            refine lv_aload_n hx hb dX11_stays_42 rfl (lv_at hl 2 rfl) ?_
            refine lv_iload hx hb dX11_stays_43 (lv_at hl 0 rfl) ?_
            refine z_ci hW hS hA (va_runV (As := [.int y13]) (rest := [.int y14]) ⟨hx, hb, hml, hown, hts⟩ (sx_X11_remains_d l G ad c I9 ⟨(by show 0 ≤ (I9 1 5).toInt ∧ (I9 1 5).toInt ≤ 30; exact hI9H.1), (by show 0 ≤ (I9 1 11).toInt ∧ (I9 1 11).toInt ≤ 200; exact hI9H.2)⟩ (by show 0 ≤ (I9 72 2).toInt ∧ (I9 72 2).toInt ≤ 30; exact hI9D) y13 hc h10 (by rw [hE11.1, fI9 1 5 (by decide)]) _) (cwV 1 hts gX11_stays_X11_remains rfl rfl rfl (by decide +kernel) ⟨Nat.le_of_ble_eq_true rfl, Nat.le_of_ble_eq_true rfl⟩) (z_preV (i := 0) hK hW rfl rfl) rfl rfl hl.1 rfl (lv_room (Nat.le_of_ble_eq_true rfl)) dX11_stays_45 ⟨Nat.le_of_ble_eq_true rfl, Nat.le_of_ble_eq_true rfl⟩) (fun r u1 H locs hp hW hS => ?_)
            obtain ⟨e9, hp⟩ := hp
            rw [e9] at hW
            rcases hp with ⟨rfl, hb22⟩ | ⟨rfl, hb22⟩
            · refine lv_if_eq (tgt := 55) hx hb dX11_stays_48 (by decide) (fun c23 => absurd c23 (by decide)) (fun c23 => ?_)
              refine lv_iconst (v := 1) hx hb dX11_stays_51 (by decide) ?_
              refine lv_goto (tgt := 56) hx hb dX11_stays_52 (by decide) ?_
              refine lv_iadd hx hb dX11_stays_56 ?_
              refine lv_topi (fun x24 ex24 => ?_)
              have tx24 : x24.toInt = y14.toInt + 1 := z_tadd ex24 rfl z_l1 (by omega) (by omega)
              refine lv_istore_n (lv' := [(3, .int x24), (4, .int y13), (0, .ref (ad 0)), (1, .int a1), (2, .int a2)]) hx hb dX11_stays_57 rfl hl (by decide) rfl (fun ls hl => ?_)
              obtain ⟨x25, ex25⟩ : ∃ y : Int32, y = y13 + 1 := ⟨_, rfl⟩
              have tx25 : x25.toInt = y13.toInt + 1 := z_tadd ex25 rfl z_l1 (by omega) (by omega)
              refine lv_iinc (v := x25) (lv' := [(4, .int x25), (3, .int x24), (0, .ref (ad 0)), (1, .int a1), (2, .int a2)]) hx hb dX11_stays_58 hl (k := 1) rfl (by rw [ex25]; rfl) (by decide) rfl (fun ls hl => ?_)
              refine lv_goto (tgt := 29) hx hb dX11_stays_61 (by decide) ?_
              exact lp12ih x25 x24 _ _ _ (by omega) (by omega) (by omega) (by omega) (by have c9 := z_clt (x := y13) rfl (by omega); have d9 := hE11.2 y13.toNatClampNeg (by omega); have n9 : (I9 6 y13.toNatClampNeg).toInt = zd_N I y13.toNatClampNeg := (by rw [fI9 6 _ (z_wr_c (by decide))]; rfl); have q9 := hb22.2; rw [n9, d9] at q9; exact ⟨by rw [(show x25.toNatClampNeg = y13.toNatClampNeg + 1 from z_cln (by omega) (by omega)), zd_C_y q9]; omega, by omega, by omega⟩) hW hS (lv_sub hl [0, 1, 2, 3, 4] rfl)
            · refine lv_if_eq (tgt := 55) hx hb dX11_stays_48 (by decide) (fun c26 => ?_) (fun c26 => absurd (by decide) c26)
              refine lv_iconst (v := 0) hx hb dX11_stays_55 (by decide) ?_
              refine lv_iadd hx hb dX11_stays_56 ?_
              refine lv_topi (fun x27 ex27 => ?_)
              have tx27 : x27.toInt = y14.toInt + 0 := z_tadd ex27 rfl z_l0 (by omega) (by omega)
              refine lv_istore_n (lv' := [(3, .int x27), (4, .int y13), (0, .ref (ad 0)), (1, .int a1), (2, .int a2)]) hx hb dX11_stays_57 rfl hl (by decide) rfl (fun ls hl => ?_)
              obtain ⟨x28, ex28⟩ : ∃ y : Int32, y = y13 + 1 := ⟨_, rfl⟩
              have tx28 : x28.toInt = y13.toInt + 1 := z_tadd ex28 rfl z_l1 (by omega) (by omega)
              refine lv_iinc (v := x28) (lv' := [(4, .int x28), (3, .int x27), (0, .ref (ad 0)), (1, .int a1), (2, .int a2)]) hx hb dX11_stays_58 hl (k := 1) rfl (by rw [ex28]; rfl) (by decide) rfl (fun ls hl => ?_)
              refine lv_goto (tgt := 29) hx hb dX11_stays_61 (by decide) ?_
              exact lp12ih x28 x27 _ _ _ (by omega) (by omega) (by omega) (by omega) (by have c9 := z_clt (x := y13) rfl (by omega); have d9 := hE11.2 y13.toNatClampNeg (by omega); have n9 : (I9 6 y13.toNatClampNeg).toInt = zd_N I y13.toNatClampNeg := (by rw [fI9 6 _ (z_wr_c (by decide))]; rfl); have q9 : ¬ zd_N I y13.toNatClampNeg ≤ (zd_D (zd_U c I SS a2.toInt) (zd_B I) (zd_N I) (I 1 5).toNatClampNeg a1.toInt) y13.toNatClampNeg := (fun q9 => hb22 ⟨⟨by omega, by rw [fI9 1 5 (by decide)]; omega⟩, by rw [n9, d9]; exact q9⟩); exact ⟨by rw [(show x28.toNatClampNeg = y13.toNatClampNeg + 1 from z_cln (by omega) (by omega)), zd_C_n q9]; omega, by omega, by omega⟩) hW hS (lv_sub hl [0, 1, 2, 3, 4] rfl)
      exact lp12 4294967296 (0) (0) _ _ _ (z_m0u _) (by rw [z_l0]; omega) (by rw [z_l0]; omega) (by rw [z_l0]; omega) ⟨by rw [show (0 : Int32).toNatClampNeg = 0 by decide]; rfl, by omega, by have q0 := z_l0; have q9 := hH.1; omega⟩ hW hS (lv_sub hl [0, 1, 2, 3, 4] rfl)
    · have h29 := h6
      refine lv_if_ne (tgt := 18) hx hb dX11_stays_13 (by decide) (fun c30 => absurd (by decide) c30) (fun c30 => ?_)
      refine lv_iconst (v := (-1)) hx hb dX11_stays_16 (by decide) ?_
      exact z_iret hx hb hr hK hS (Nat.le_of_ble_eq_true rfl) (Nat.le_of_ble_eq_true rfl) hlocks dX11_stays_17 (shC c, ad, I, JX, PC c ad) hW ⟨I, rfl, ⟨(by show 0 ≤ (I 1 5).toInt ∧ (I 1 5).toInt ≤ 30; exact hH.1), (by show 0 ≤ (I 1 11).toInt ∧ (I 1 11).toInt ≤ 200; exact hH.2)⟩, (by show 0 ≤ (I 72 2).toInt ∧ (I 72 2).toInt ≤ 30; exact hD), (by show 0 ≤ (I 21 2).toInt ∧ (I 21 2).toInt ≤ 12; exact hO), ⟨(by show 0 ≤ (I 0 0).toInt ∧ (I 0 0).toInt ≤ 719; exact hB.1), (by show 0 ≤ (I 0 8).toInt ∧ (I 0 8).toInt ≤ 10; exact hB.2)⟩, z_fr_0, (Or.inr ⟨by omega, by decide⟩)⟩
  · have h31 := h1
    have z32 := z_l0
    have z33 := z_l2
    refine lv_if_eq (tgt := 16) hx hb dX11_stays_6 (by decide) (fun c34 => ?_) (fun c34 => absurd (by decide) c34)
    refine lv_iconst (v := (-1)) hx hb dX11_stays_16 (by decide) ?_
    exact z_iret hx hb hr hK hS (Nat.le_of_ble_eq_true rfl) (Nat.le_of_ble_eq_true rfl) hlocks dX11_stays_17 (shC c, ad, I, JX, PC c ad) hW ⟨I, rfl, ⟨(by show 0 ≤ (I 1 5).toInt ∧ (I 1 5).toInt ≤ 30; exact hH.1), (by show 0 ≤ (I 1 11).toInt ∧ (I 1 11).toInt ≤ 200; exact hH.2)⟩, (by show 0 ≤ (I 72 2).toInt ∧ (I 72 2).toInt ≤ 30; exact hD), (by show 0 ≤ (I 21 2).toInt ∧ (I 21 2).toInt ≤ 12; exact hO), ⟨(by show 0 ≤ (I 0 0).toInt ∧ (I 0 0).toInt ≤ 719; exact hB.1), (by show 0 ≤ (I 0 8).toInt ∧ (I 0 8).toInt ≤ 10; exact hB.2)⟩, z_fr_0, (Or.inr ⟨by omega, by decide⟩)⟩
noncomputable def L_X12_deals_d : z_L := [(69, 999), (70, 999), (24, 999), (30, 999)]
set_option maxHeartbeats 8000000 in
set_option maxRecDepth 100000 in
theorem sx_X12_deals_d (l : Launch) (G : z_G) (ad : Nat → Nat) (I : z_I) (J : z_J) (hma : z_ima I) (hmb : z_imb I) (hAtf : z_rg 11 0 288 I) (hAtm : z_rg 12 0 24 I) (hNd : z_Nd I) (hAsf : z_rg 19 0 6200 I) (hAst : z_rg 20 0 6200 I) (hAsc : z_rg 18 (-1) 6199 I) (hEx : z_Ex I) (FF : Nat → Nat) (RS : Nat → List zm_row) (a1 : Int32) (a2 : Int32) (q1 : 0 ≤ a1.toInt ∧ a1.toInt ≤ 2) (q2 : 0 ≤ a2.toInt ∧ a2.toInt ≤ 23) (hWm : zw_W I FF RS) (hN : ∀ j : Nat, (j : Int) < (I 0 1).toInt → 0 ≤ (I 5 j).toInt ∧ (I 5 j).toInt ≤ 99) : z_Mv l yX12_deals wsX12_deals { frames := 6, cells := 0, slots := 0, locals := 133 } [.ref (ad 0), .int a1, .int a2] G (shM, ad, I, J, PM ad) (fun u1 => ∃ (I1 : z_I) (J1 : z_J), u1 = (shM, ad, I1, J1, PM ad) ∧ z_ima I1 ∧ z_imb I1 ∧ z_rg 11 0 288 I1 ∧ z_rg 12 0 24 I1 ∧ z_Nd I1 ∧ z_rg 19 0 6200 I1 ∧ z_rg 20 0 6200 I1 ∧ z_rg 18 (-1) 6199 I1 ∧ z_Ex I1 ∧ z_fr L_X12_deals_d I1 I ∧ (∀ j : Nat, (j : Int) < (I 0 1).toInt → (I1 69 j).toInt = zd_D (zd_V I RS a2.toInt) (zd_BM I) (zd_NM I) (I 0 1).toNatClampNeg a1.toInt j)) 0 0 := sorry
noncomputable def L_X12_other_d : z_L := [(69, 999), (70, 999), (24, 999), (30, 999)]
set_option maxHeartbeats 8000000 in
set_option maxRecDepth 100000 in
theorem sx_X12_other_d (l : Launch) (G : z_G) (ad : Nat → Nat) (I : z_I) (J : z_J) (hma : z_ima I) (hmb : z_imb I) (hAtf : z_rg 11 0 288 I) (hAtm : z_rg 12 0 24 I) (hNd : z_Nd I) (hAsf : z_rg 19 0 6200 I) (hAst : z_rg 20 0 6200 I) (hAsc : z_rg 18 (-1) 6199 I) (hEx : z_Ex I) (FF : Nat → Nat) (RS : Nat → List zm_row) (a1 : Int32) (a2 : Int32) (a3 : Int32) (a4 : Int32) (hWm : zw_W I FF RS) (hN : ∀ j : Nat, (j : Int) < (I 0 1).toInt → 0 ≤ (I 5 j).toInt ∧ (I 5 j).toInt ≤ 99) : z_M l yX12_other wsX12_other { frames := 7, cells := 0, slots := 0, locals := 159 } [.ref (ad 0), .int a1, .int a2, .int a3, .int a4] G (shM, ad, I, J, PM ad) (fun r u1 => ∃ (I1 : z_I) (J1 : z_J), u1 = (shM, ad, I1, J1, PM ad) ∧ z_ima I1 ∧ z_imb I1 ∧ z_rg 11 0 288 I1 ∧ z_rg 12 0 24 I1 ∧ z_Nd I1 ∧ z_rg 19 0 6200 I1 ∧ z_rg 20 0 6200 I1 ∧ z_rg 18 (-1) 6199 I1 ∧ z_Ex I1 ∧ z_fr L_X12_other_d I1 I ∧ ((((0 ≤ a1.toInt ∧ a1.toInt ≤ 2) ∧ (0 ≤ a2.toInt ∧ a2.toInt ≤ 23) ∧ (0 ≤ a3.toInt ∧ a3.toInt < (I 0 1).toInt) ∧ 0 ≤ a4.toInt ∧ a4.toInt ≤ 1) ∧ ((a4.toInt = 0 ∧ r.toInt = (zd_D (zd_V I RS a2.toInt) (zd_BM I) (zd_NM I) (I 0 1).toNatClampNeg a1.toInt) a3.toNatClampNeg) ∨ (a4.toInt = 1 ∧ r.toInt = if zd_NM I a3.toNatClampNeg ≤ (zd_D (zd_V I RS a2.toInt) (zd_BM I) (zd_NM I) (I 0 1).toNatClampNeg a1.toInt) a3.toNatClampNeg then 1 else 0))) ∨ (¬ ((0 ≤ a1.toInt ∧ a1.toInt ≤ 2) ∧ (0 ≤ a2.toInt ∧ a2.toInt ≤ 23) ∧ (0 ≤ a3.toInt ∧ a3.toInt < (I 0 1).toInt) ∧ 0 ≤ a4.toInt ∧ a4.toInt ≤ 1) ∧ r.toInt = -1))) 0 0 := by
  intro sz
  refine z_headQ (cc := cX12_other) (maxL := 5) (ret := (some .int)) (by decide) rfl (Nat.le_of_ble_eq_true rfl) ?_
  intro p e s m below meth c0 ls hIn hK hsz hW hl
  obtain ⟨hx, hb, hr, hml, hown, hts, hlocks, hname⟩ := hIn
  subst hsz
  have hown : s.vm.findClass RX12 = some m.cls := hown
  have hA : ∀ q : Nat, s.heap.size ≤ q → z_A (shM, ad, I, J, PM ad) s.heap.size q := fun q h => Or.inr h
  generalize hAe : z_A (shM, ad, I, J, PM ad) s.heap.size = A at *
  have hS : va_S A s.heap s.heap [] := va_S.rf
  have hl : lv_has ls 5 [(0, .ref (ad 0)), (1, .int a1), (2, .int a2), (3, .int a3), (4, .int a4)] := hl
  have nH9 := hma.2.1
  refine lv_iload_n hx hb dX12_other_0 rfl (lv_at hl 1 rfl) ?_
  refine lv_iconst (v := 0) hx hb dX12_other_1 (by decide) ?_
  refine lv_iconst (v := 2) hx hb dX12_other_2 (by decide) ?_
  refine z_ci hW hS hA (va_runS (As := [.int a1, .int 0, .int 2]) (rest := []) ⟨hx, hb, hml, hown, hts⟩ (sx_X12_within_e l G ad I J  a1 0 2 _) (va_cwS 3 hts gX12_other_X12_within rfl rfl rfl (by decide +kernel) ⟨Nat.le_of_ble_eq_true rfl, Nat.le_of_ble_eq_true rfl⟩) (z_preS hK hW) rfl rfl hl.1 rfl (lv_room (Nat.le_of_ble_eq_true rfl)) dX12_other_3 ⟨Nat.le_of_ble_eq_true rfl, Nat.le_of_ble_eq_true rfl⟩) (fun r u1 H locs hp hW hS => ?_)
  obtain ⟨e9, hp⟩ := hp
  rw [e9] at hW
  rcases hp with ⟨rfl, h1⟩ | ⟨rfl, h1⟩
  · have h2 := h1
    have z3 := z_l0
    have z4 := z_l2
    refine lv_if_eq (tgt := 34) hx hb dX12_other_6 (by decide) (fun c5 => absurd c5 (by decide)) (fun c5 => ?_)
    refine lv_iload_n hx hb dX12_other_9 rfl (lv_at hl 2 rfl) ?_
    refine z_ci hW hS hA (va_runS (As := [.int a2]) (rest := []) ⟨hx, hb, hml, hown, hts⟩ (sx_X12_isMonth_e l G ad I J  a2 _) (va_cwS 1 hts gX12_other_X12_isMonth rfl rfl rfl (by decide +kernel) ⟨Nat.le_of_ble_eq_true rfl, Nat.le_of_ble_eq_true rfl⟩) (z_preS hK hW) rfl rfl hl.1 rfl (lv_room (Nat.le_of_ble_eq_true rfl)) dX12_other_10 ⟨Nat.le_of_ble_eq_true rfl, Nat.le_of_ble_eq_true rfl⟩) (fun r u1 H locs hp hW hS => ?_)
    obtain ⟨e9, hp⟩ := hp
    rw [e9] at hW
    rcases hp with ⟨rfl, h6⟩ | ⟨rfl, h6⟩
    · have h7 := h6
      refine lv_if_eq (tgt := 34) hx hb dX12_other_13 (by decide) (fun c8 => absurd c8 (by decide)) (fun c8 => ?_)
      refine lv_aload_n hx hb dX12_other_16 rfl (lv_at hl 0 rfl) ?_
      refine lv_iload_n hx hb dX12_other_17 rfl (lv_at hl 3 rfl) ?_
      refine z_ci hW hS hA (va_runV (As := [.int a3]) (rest := []) ⟨hx, hb, hml, hown, hts⟩ (sx_X12_isHolder_e l G ad I J ⟨(by show 0 ≤ (I 0 0).toInt ∧ (I 0 0).toInt ≤ 719; exact hma.1), (by show 0 ≤ (I 0 1).toInt ∧ (I 0 1).toInt ≤ 30; exact hma.2.1), (by show 0 ≤ (I 0 2).toInt ∧ (I 0 2).toInt ≤ 200; exact hma.2.2)⟩ a3 _) (cwV 1 hts gX12_other_X12_isHolder rfl rfl rfl (by decide +kernel) ⟨Nat.le_of_ble_eq_true rfl, Nat.le_of_ble_eq_true rfl⟩) (z_preV (i := 0) hK hW rfl rfl) rfl rfl hl.1 rfl (lv_room (Nat.le_of_ble_eq_true rfl)) dX12_other_18 ⟨Nat.le_of_ble_eq_true rfl, Nat.le_of_ble_eq_true rfl⟩) (fun r u1 H locs hp hW hS => ?_)
      obtain ⟨e9, hp⟩ := hp
      rw [e9] at hW
      rcases hp with ⟨rfl, h9⟩ | ⟨rfl, h9⟩
      · have h11 := h9
        have r12 : 0 ≤ (I 0 1).toInt ∧ (I 0 1).toInt ≤ 30 := hma.2.1
        refine lv_if_eq (tgt := 34) hx hb dX12_other_21 (by decide) (fun c13 => absurd c13 (by decide)) (fun c13 => ?_)
        refine lv_iload hx hb dX12_other_24 (lv_at hl 4 rfl) ?_
        refine lv_iconst (v := 0) hx hb dX12_other_26 (by decide) ?_
        refine lv_iconst (v := 1) hx hb dX12_other_27 (by decide) ?_
        refine z_ci hW hS hA (va_runS (As := [.int a4, .int 0, .int 1]) (rest := []) ⟨hx, hb, hml, hown, hts⟩ (sx_X12_within_e l G ad I J  a4 0 1 _) (va_cwS 3 hts gX12_other_X12_within rfl rfl rfl (by decide +kernel) ⟨Nat.le_of_ble_eq_true rfl, Nat.le_of_ble_eq_true rfl⟩) (z_preS hK hW) rfl rfl hl.1 rfl (lv_room (Nat.le_of_ble_eq_true rfl)) dX12_other_28 ⟨Nat.le_of_ble_eq_true rfl, Nat.le_of_ble_eq_true rfl⟩) (fun r u1 H locs hp hW hS => ?_)
        obtain ⟨e9, hp⟩ := hp
        rw [e9] at hW
        rcases hp with ⟨rfl, h14⟩ | ⟨rfl, h14⟩
        · have h15 := h14
          have z16 := z_l0
          have z17 := z_l1
          refine lv_if_ne (tgt := 36) hx hb dX12_other_31 (by decide) (fun c18 => ?_) (fun c18 => absurd c18 (by decide))
          refine lv_aload_n hx hb dX12_other_36 rfl (lv_at hl 0 rfl) ?_
          refine lv_iload_n hx hb dX12_other_37 rfl (lv_at hl 1 rfl) ?_
          refine lv_iload_n hx hb dX12_other_38 rfl (lv_at hl 2 rfl) ?_
          refine z_cv hW hS hA (va_runV (As := [.int a1, .int a2]) (rest := []) ⟨hx, hb, hml, hown, hts⟩ (sx_X12_deals_d l G ad I J ⟨(by show 0 ≤ (I 0 0).toInt ∧ (I 0 0).toInt ≤ 719; exact hma.1), (by show 0 ≤ (I 0 1).toInt ∧ (I 0 1).toInt ≤ 30; exact hma.2.1), (by show 0 ≤ (I 0 2).toInt ∧ (I 0 2).toInt ≤ 200; exact hma.2.2)⟩ ⟨(by show 0 ≤ (I 0 13).toInt ∧ (I 0 13).toInt ≤ 12; exact hmb.1), (by show 0 ≤ (I 0 14).toInt ∧ (I 0 14).toInt ≤ 288; exact hmb.2)⟩ hAtf hAtm hNd hAsf hAst hAsc hEx FF RS a1 a2 (by omega) (by omega) hWm hN _) (cwV 2 hts gX12_other_X12_deals rfl rfl rfl (by decide +kernel) ⟨Nat.le_of_ble_eq_true rfl, Nat.le_of_ble_eq_true rfl⟩) (z_preV (i := 0) hK hW rfl rfl) rfl rfl hl.1 rfl (lv_room (Nat.le_of_ble_eq_true rfl)) dX12_other_39 ⟨Nat.le_of_ble_eq_true rfl, Nat.le_of_ble_eq_true rfl⟩) (fun u1 H locs hp hW hS => ?_)
          obtain ⟨I19, J21, e9, hI19ma, hI19mb, hI19Atf, hI19Atm, hI19Nd, hI19Asf, hI19Ast, hI19Asc, hI19Ex, fI19, hp⟩ := hp
          rw [e9] at hW
          have f20 := z_fr_sub (L := L_X12_other_d) z_fr_0 fI19 (by decide)
          have hE22 := hp
          refine lv_iload hx hb dX12_other_42 (lv_at hl 4 rfl) ?_
          refine lv_if_ne (tgt := 56) hx hb dX12_other_44 (by decide) (fun c23 => ?_) (fun c23 => ?_)
          · have g24 := z_f_ne rfl z_l0 c23
            refine lv_aload_n hx hb dX12_other_56 rfl (lv_at hl 0 rfl) ?_
            refine z_get (T := TX12) (N := 96) (ci := 12) (i := 0) (v := .ref (ad 69)) hx hb hts zj_X12_other_X12 hown hK hW rfl rfl 94 (by decide) (hts (.fieldLink RX12 223 "PetrolBoardModel" "deal" "[I") (me_s (me_l (me_l (List.mem_of_getElem? (i := 0) rfl))))) (fun _ h => h) rfl dX12_other_57 ?_
            refine lv_iload_n hx hb dX12_other_60 rfl (lv_at hl 3 rfl) ?_
            refine z_iald (i := 69) hx hb hK hW rfl (z_ix rfl (by omega) (by omega)) dX12_other_61 ?_
            refine lv_topi (fun x25 ex25 => ?_)
            have hv26 : (I19 69 a3.toNatClampNeg).toInt = x25.toInt := by rw [ex25]
            have hz27 := z_clt (x := a3) rfl (by omega)
            refine lv_aload_n hx hb dX12_other_62 rfl (lv_at hl 0 rfl) ?_
            refine z_get (T := TX12) (N := 96) (ci := 12) (i := 0) (v := .ref (ad 5)) hx hb hts zj_X12_other_X12 hown hK hW rfl rfl 7 (by decide) (hts (.fieldLink RX12 22 "PetrolBoardModel" "needOf" "[I") (me_s (me_l (me_l (List.mem_of_getElem? (i := 1) rfl))))) (fun _ h => h) rfl dX12_other_63 ?_
            refine lv_iload_n hx hb dX12_other_66 rfl (lv_at hl 3 rfl) ?_
            refine z_iald (i := 5) hx hb hK hW rfl (z_ix rfl (by omega) (by omega)) dX12_other_67 ?_
            refine lv_topi (fun x28 ex28 => ?_)
            have hv29 : (I19 5 a3.toNatClampNeg).toInt = x28.toInt := by rw [ex28]
            have hz30 := z_clt (x := a3) rfl (by omega)
            refine lv_icmp_lt (tgt := 75) hx hb dX12_other_68 (by decide) (fun c31 => ?_) (fun c31 => ?_)
            · have g32 := z_f_lt rfl rfl c31
              have b33 := Int32.toInt_lt x25
              have b34 := Int32.toInt_lt x28
              refine lv_iconst (v := 0) hx hb dX12_other_75 (by decide) ?_
              exact z_iret hx hb hr hK hS (Nat.le_of_ble_eq_true rfl) (Nat.le_of_ble_eq_true rfl) hlocks dX12_other_76 (shM, ad, I19, J21, PM ad) hW ⟨I19, J21, rfl, ⟨(by show 0 ≤ (I19 0 0).toInt ∧ (I19 0 0).toInt ≤ 719; exact hI19ma.1), (by show 0 ≤ (I19 0 1).toInt ∧ (I19 0 1).toInt ≤ 30; exact hI19ma.2.1), (by show 0 ≤ (I19 0 2).toInt ∧ (I19 0 2).toInt ≤ 200; exact hI19ma.2.2)⟩, ⟨(by show 0 ≤ (I19 0 13).toInt ∧ (I19 0 13).toInt ≤ 12; exact hI19mb.1), (by show 0 ≤ (I19 0 14).toInt ∧ (I19 0 14).toInt ≤ 288; exact hI19mb.2)⟩, hI19Atf, hI19Atm, hI19Nd, hI19Asf, hI19Ast, hI19Asc, hI19Ex, f20, (by have c9 := z_clt (x := a3) rfl (by omega); have d9 := hE22 a3.toNatClampNeg (by omega); have n9 : (I19 5 a3.toNatClampNeg).toInt = zd_NM I a3.toNatClampNeg := (by rw [fI19 5 a3.toNatClampNeg (z_wr_c (by decide))]; rfl); exact Or.inl ⟨by omega, Or.inr ⟨by omega, by rw [if_neg (by omega)]; decide⟩⟩)⟩
            · have g35 := z_f_nlt rfl rfl c31
              have b36 := Int32.toInt_lt x25
              have b37 := Int32.toInt_lt x28
              refine lv_iconst (v := 1) hx hb dX12_other_71 (by decide) ?_
              refine lv_goto (tgt := 76) hx hb dX12_other_72 (by decide) ?_
              exact z_iret hx hb hr hK hS (Nat.le_of_ble_eq_true rfl) (Nat.le_of_ble_eq_true rfl) hlocks dX12_other_76 (shM, ad, I19, J21, PM ad) hW ⟨I19, J21, rfl, ⟨(by show 0 ≤ (I19 0 0).toInt ∧ (I19 0 0).toInt ≤ 719; exact hI19ma.1), (by show 0 ≤ (I19 0 1).toInt ∧ (I19 0 1).toInt ≤ 30; exact hI19ma.2.1), (by show 0 ≤ (I19 0 2).toInt ∧ (I19 0 2).toInt ≤ 200; exact hI19ma.2.2)⟩, ⟨(by show 0 ≤ (I19 0 13).toInt ∧ (I19 0 13).toInt ≤ 12; exact hI19mb.1), (by show 0 ≤ (I19 0 14).toInt ∧ (I19 0 14).toInt ≤ 288; exact hI19mb.2)⟩, hI19Atf, hI19Atm, hI19Nd, hI19Asf, hI19Ast, hI19Asc, hI19Ex, f20, (by have c9 := z_clt (x := a3) rfl (by omega); have d9 := hE22 a3.toNatClampNeg (by omega); have n9 : (I19 5 a3.toNatClampNeg).toInt = zd_NM I a3.toNatClampNeg := (by rw [fI19 5 a3.toNatClampNeg (z_wr_c (by decide))]; rfl); exact Or.inl ⟨by omega, Or.inr ⟨by omega, by rw [if_pos (by omega)]; decide⟩⟩)⟩
          · have g38 := z_f_eq rfl z_l0 c23
            refine lv_aload_n hx hb dX12_other_47 rfl (lv_at hl 0 rfl) ?_
            refine z_get (T := TX12) (N := 96) (ci := 12) (i := 0) (v := .ref (ad 69)) hx hb hts zj_X12_other_X12 hown hK hW rfl rfl 94 (by decide) (hts (.fieldLink RX12 223 "PetrolBoardModel" "deal" "[I") (me_s (me_l (me_l (List.mem_of_getElem? (i := 0) rfl))))) (fun _ h => h) rfl dX12_other_48 ?_
            refine lv_iload_n hx hb dX12_other_51 rfl (lv_at hl 3 rfl) ?_
            refine z_iald (i := 69) hx hb hK hW rfl (z_ix rfl (by omega) (by omega)) dX12_other_52 ?_
            refine lv_topi (fun x39 ex39 => ?_)
            have hv40 : (I19 69 a3.toNatClampNeg).toInt = x39.toInt := by rw [ex39]
            have hz41 := z_clt (x := a3) rfl (by omega)
            refine lv_goto (tgt := 76) hx hb dX12_other_53 (by decide) ?_
            exact z_iret hx hb hr hK hS (Nat.le_of_ble_eq_true rfl) (Nat.le_of_ble_eq_true rfl) hlocks dX12_other_76 (shM, ad, I19, J21, PM ad) hW ⟨I19, J21, rfl, ⟨(by show 0 ≤ (I19 0 0).toInt ∧ (I19 0 0).toInt ≤ 719; exact hI19ma.1), (by show 0 ≤ (I19 0 1).toInt ∧ (I19 0 1).toInt ≤ 30; exact hI19ma.2.1), (by show 0 ≤ (I19 0 2).toInt ∧ (I19 0 2).toInt ≤ 200; exact hI19ma.2.2)⟩, ⟨(by show 0 ≤ (I19 0 13).toInt ∧ (I19 0 13).toInt ≤ 12; exact hI19mb.1), (by show 0 ≤ (I19 0 14).toInt ∧ (I19 0 14).toInt ≤ 288; exact hI19mb.2)⟩, hI19Atf, hI19Atm, hI19Nd, hI19Asf, hI19Ast, hI19Asc, hI19Ex, f20, (by have c9 := z_clt (x := a3) rfl (by omega); have d9 := hE22 a3.toNatClampNeg (by omega); have n9 : (I19 5 a3.toNatClampNeg).toInt = zd_NM I a3.toNatClampNeg := (by rw [fI19 5 a3.toNatClampNeg (z_wr_c (by decide))]; rfl); exact Or.inl ⟨by omega, Or.inl ⟨by omega, by omega⟩⟩)⟩
        · have h42 := h14
          have z43 := z_l0
          have z44 := z_l1
          refine lv_if_ne (tgt := 36) hx hb dX12_other_31 (by decide) (fun c45 => absurd (by decide) c45) (fun c45 => ?_)
          refine lv_iconst (v := (-1)) hx hb dX12_other_34 (by decide) ?_
          exact z_iret hx hb hr hK hS (Nat.le_of_ble_eq_true rfl) (Nat.le_of_ble_eq_true rfl) hlocks dX12_other_35 (shM, ad, I, J, PM ad) hW ⟨I, J, rfl, ⟨(by show 0 ≤ (I 0 0).toInt ∧ (I 0 0).toInt ≤ 719; exact hma.1), (by show 0 ≤ (I 0 1).toInt ∧ (I 0 1).toInt ≤ 30; exact hma.2.1), (by show 0 ≤ (I 0 2).toInt ∧ (I 0 2).toInt ≤ 200; exact hma.2.2)⟩, ⟨(by show 0 ≤ (I 0 13).toInt ∧ (I 0 13).toInt ≤ 12; exact hmb.1), (by show 0 ≤ (I 0 14).toInt ∧ (I 0 14).toInt ≤ 288; exact hmb.2)⟩, hAtf, hAtm, hNd, hAsf, hAst, hAsc, hEx, z_fr_0, (Or.inr ⟨by omega, by decide⟩)⟩
      · have h46 := h9
        have r47 : 0 ≤ (I 0 1).toInt ∧ (I 0 1).toInt ≤ 30 := hma.2.1
        refine lv_if_eq (tgt := 34) hx hb dX12_other_21 (by decide) (fun c48 => ?_) (fun c48 => absurd (by decide) c48)
        refine lv_iconst (v := (-1)) hx hb dX12_other_34 (by decide) ?_
        exact z_iret hx hb hr hK hS (Nat.le_of_ble_eq_true rfl) (Nat.le_of_ble_eq_true rfl) hlocks dX12_other_35 (shM, ad, I, J, PM ad) hW ⟨I, J, rfl, ⟨(by show 0 ≤ (I 0 0).toInt ∧ (I 0 0).toInt ≤ 719; exact hma.1), (by show 0 ≤ (I 0 1).toInt ∧ (I 0 1).toInt ≤ 30; exact hma.2.1), (by show 0 ≤ (I 0 2).toInt ∧ (I 0 2).toInt ≤ 200; exact hma.2.2)⟩, ⟨(by show 0 ≤ (I 0 13).toInt ∧ (I 0 13).toInt ≤ 12; exact hmb.1), (by show 0 ≤ (I 0 14).toInt ∧ (I 0 14).toInt ≤ 288; exact hmb.2)⟩, hAtf, hAtm, hNd, hAsf, hAst, hAsc, hEx, z_fr_0, (Or.inr ⟨by omega, by decide⟩)⟩
    · have h49 := h6
      refine lv_if_eq (tgt := 34) hx hb dX12_other_13 (by decide) (fun c50 => ?_) (fun c50 => absurd (by decide) c50)
      refine lv_iconst (v := (-1)) hx hb dX12_other_34 (by decide) ?_
      exact z_iret hx hb hr hK hS (Nat.le_of_ble_eq_true rfl) (Nat.le_of_ble_eq_true rfl) hlocks dX12_other_35 (shM, ad, I, J, PM ad) hW ⟨I, J, rfl, ⟨(by show 0 ≤ (I 0 0).toInt ∧ (I 0 0).toInt ≤ 719; exact hma.1), (by show 0 ≤ (I 0 1).toInt ∧ (I 0 1).toInt ≤ 30; exact hma.2.1), (by show 0 ≤ (I 0 2).toInt ∧ (I 0 2).toInt ≤ 200; exact hma.2.2)⟩, ⟨(by show 0 ≤ (I 0 13).toInt ∧ (I 0 13).toInt ≤ 12; exact hmb.1), (by show 0 ≤ (I 0 14).toInt ∧ (I 0 14).toInt ≤ 288; exact hmb.2)⟩, hAtf, hAtm, hNd, hAsf, hAst, hAsc, hEx, z_fr_0, (Or.inr ⟨by omega, by decide⟩)⟩
  · have h51 := h1
    have z52 := z_l0
    have z53 := z_l2
    refine lv_if_eq (tgt := 34) hx hb dX12_other_6 (by decide) (fun c54 => ?_) (fun c54 => absurd (by decide) c54)
    refine lv_iconst (v := (-1)) hx hb dX12_other_34 (by decide) ?_
    exact z_iret hx hb hr hK hS (Nat.le_of_ble_eq_true rfl) (Nat.le_of_ble_eq_true rfl) hlocks dX12_other_35 (shM, ad, I, J, PM ad) hW ⟨I, J, rfl, ⟨(by show 0 ≤ (I 0 0).toInt ∧ (I 0 0).toInt ≤ 719; exact hma.1), (by show 0 ≤ (I 0 1).toInt ∧ (I 0 1).toInt ≤ 30; exact hma.2.1), (by show 0 ≤ (I 0 2).toInt ∧ (I 0 2).toInt ≤ 200; exact hma.2.2)⟩, ⟨(by show 0 ≤ (I 0 13).toInt ∧ (I 0 13).toInt ≤ 12; exact hmb.1), (by show 0 ≤ (I 0 14).toInt ∧ (I 0 14).toInt ≤ 288; exact hmb.2)⟩, hAtf, hAtm, hNd, hAsf, hAst, hAsc, hEx, z_fr_0, (Or.inr ⟨by omega, by decide⟩)⟩
noncomputable def L_X12_stays_d : z_L := [(69, 999), (70, 999), (24, 999), (30, 999)]
set_option maxHeartbeats 8000000 in
set_option maxRecDepth 100000 in
theorem sx_X12_stays_d (l : Launch) (G : z_G) (ad : Nat → Nat) (I : z_I) (J : z_J) (hma : z_ima I) (hmb : z_imb I) (hAtf : z_rg 11 0 288 I) (hAtm : z_rg 12 0 24 I) (hNd : z_Nd I) (hAsf : z_rg 19 0 6200 I) (hAst : z_rg 20 0 6200 I) (hAsc : z_rg 18 (-1) 6199 I) (hEx : z_Ex I) (FF : Nat → Nat) (RS : Nat → List zm_row) (a1 : Int32) (a2 : Int32) (hWm : zw_W I FF RS) (hN : ∀ j : Nat, (j : Int) < (I 0 1).toInt → 0 ≤ (I 5 j).toInt ∧ (I 5 j).toInt ≤ 99) : z_M l yX12_stays wsX12_stays { frames := 7, cells := 0, slots := 0, locals := 159 } [.ref (ad 0), .int a1, .int a2] G (shM, ad, I, J, PM ad) (fun r u1 => ∃ (I1 : z_I) (J1 : z_J), u1 = (shM, ad, I1, J1, PM ad) ∧ z_ima I1 ∧ z_imb I1 ∧ z_rg 11 0 288 I1 ∧ z_rg 12 0 24 I1 ∧ z_Nd I1 ∧ z_rg 19 0 6200 I1 ∧ z_rg 20 0 6200 I1 ∧ z_rg 18 (-1) 6199 I1 ∧ z_Ex I1 ∧ z_fr L_X12_stays_d I1 I ∧ ((((0 ≤ a1.toInt ∧ a1.toInt ≤ 2) ∧ 0 ≤ a2.toInt ∧ a2.toInt ≤ 23) ∧ r.toInt = zd_C (zd_D (zd_V I RS a2.toInt) (zd_BM I) (zd_NM I) (I 0 1).toNatClampNeg a1.toInt) (zd_NM I) (I 0 1).toNatClampNeg) ∨ (¬ ((0 ≤ a1.toInt ∧ a1.toInt ≤ 2) ∧ 0 ≤ a2.toInt ∧ a2.toInt ≤ 23) ∧ r.toInt = -1))) 0 0 := by
  intro sz
  refine z_headQ (cc := cX12_stays) (maxL := 5) (ret := (some .int)) (by decide) rfl (Nat.le_of_ble_eq_true rfl) ?_
  intro p e s m below meth c0 ls hIn hK hsz hW hl
  obtain ⟨hx, hb, hr, hml, hown, hts, hlocks, hname⟩ := hIn
  subst hsz
  have hown : s.vm.findClass RX12 = some m.cls := hown
  have hA : ∀ q : Nat, s.heap.size ≤ q → z_A (shM, ad, I, J, PM ad) s.heap.size q := fun q h => Or.inr h
  generalize hAe : z_A (shM, ad, I, J, PM ad) s.heap.size = A at *
  have hS : va_S A s.heap s.heap [] := va_S.rf
  have hl : lv_has ls 5 [(0, .ref (ad 0)), (1, .int a1), (2, .int a2)] := hl
  have nH9 := hma.2.1
  refine lv_iload_n hx hb dX12_stays_0 rfl (lv_at hl 1 rfl) ?_
  refine lv_iconst (v := 0) hx hb dX12_stays_1 (by decide) ?_
  refine lv_iconst (v := 2) hx hb dX12_stays_2 (by decide) ?_
  refine z_ci hW hS hA (va_runS (As := [.int a1, .int 0, .int 2]) (rest := []) ⟨hx, hb, hml, hown, hts⟩ (sx_X12_within_e l G ad I J  a1 0 2 _) (va_cwS 3 hts gX12_stays_X12_within rfl rfl rfl (by decide +kernel) ⟨Nat.le_of_ble_eq_true rfl, Nat.le_of_ble_eq_true rfl⟩) (z_preS hK hW) rfl rfl hl.1 rfl (lv_room (Nat.le_of_ble_eq_true rfl)) dX12_stays_3 ⟨Nat.le_of_ble_eq_true rfl, Nat.le_of_ble_eq_true rfl⟩) (fun r u1 H locs hp hW hS => ?_)
  obtain ⟨e9, hp⟩ := hp
  rw [e9] at hW
  rcases hp with ⟨rfl, h1⟩ | ⟨rfl, h1⟩
  · have h2 := h1
    have z3 := z_l0
    have z4 := z_l2
    refine lv_if_eq (tgt := 16) hx hb dX12_stays_6 (by decide) (fun c5 => absurd c5 (by decide)) (fun c5 => ?_)
    refine lv_iload_n hx hb dX12_stays_9 rfl (lv_at hl 2 rfl) ?_
    refine z_ci hW hS hA (va_runS (As := [.int a2]) (rest := []) ⟨hx, hb, hml, hown, hts⟩ (sx_X12_isMonth_e l G ad I J  a2 _) (va_cwS 1 hts gX12_stays_X12_isMonth rfl rfl rfl (by decide +kernel) ⟨Nat.le_of_ble_eq_true rfl, Nat.le_of_ble_eq_true rfl⟩) (z_preS hK hW) rfl rfl hl.1 rfl (lv_room (Nat.le_of_ble_eq_true rfl)) dX12_stays_10 ⟨Nat.le_of_ble_eq_true rfl, Nat.le_of_ble_eq_true rfl⟩) (fun r u1 H locs hp hW hS => ?_)
    obtain ⟨e9, hp⟩ := hp
    rw [e9] at hW
    rcases hp with ⟨rfl, h6⟩ | ⟨rfl, h6⟩
    · have h7 := h6
      refine lv_if_ne (tgt := 18) hx hb dX12_stays_13 (by decide) (fun c8 => ?_) (fun c8 => absurd c8 (by decide))
      refine lv_aload_n hx hb dX12_stays_18 rfl (lv_at hl 0 rfl) ?_
      refine lv_iload_n hx hb dX12_stays_19 rfl (lv_at hl 1 rfl) ?_
      refine lv_iload_n hx hb dX12_stays_20 rfl (lv_at hl 2 rfl) ?_
      refine z_cv hW hS hA (va_runV (As := [.int a1, .int a2]) (rest := []) ⟨hx, hb, hml, hown, hts⟩ (sx_X12_deals_d l G ad I J ⟨(by show 0 ≤ (I 0 0).toInt ∧ (I 0 0).toInt ≤ 719; exact hma.1), (by show 0 ≤ (I 0 1).toInt ∧ (I 0 1).toInt ≤ 30; exact hma.2.1), (by show 0 ≤ (I 0 2).toInt ∧ (I 0 2).toInt ≤ 200; exact hma.2.2)⟩ ⟨(by show 0 ≤ (I 0 13).toInt ∧ (I 0 13).toInt ≤ 12; exact hmb.1), (by show 0 ≤ (I 0 14).toInt ∧ (I 0 14).toInt ≤ 288; exact hmb.2)⟩ hAtf hAtm hNd hAsf hAst hAsc hEx FF RS a1 a2 (by omega) (by omega) hWm hN _) (cwV 2 hts gX12_stays_X12_deals rfl rfl rfl (by decide +kernel) ⟨Nat.le_of_ble_eq_true rfl, Nat.le_of_ble_eq_true rfl⟩) (z_preV (i := 0) hK hW rfl rfl) rfl rfl hl.1 rfl (lv_room (Nat.le_of_ble_eq_true rfl)) dX12_stays_21 ⟨Nat.le_of_ble_eq_true rfl, Nat.le_of_ble_eq_true rfl⟩) (fun u1 H locs hp hW hS => ?_)
      obtain ⟨I9, J11, e9, hI9ma, hI9mb, hI9Atf, hI9Atm, hI9Nd, hI9Asf, hI9Ast, hI9Asc, hI9Ex, fI9, hp⟩ := hp
      rw [e9] at hW
      have f10 := z_fr_sub (L := L_X12_stays_d) z_fr_0 fI9 (by decide)
      have hE12 := hp
      refine lv_iconst (v := 0) hx hb dX12_stays_24 (by decide) ?_
      refine lv_istore_n (lv' := [(3, .int 0), (0, .ref (ad 0)), (1, .int a1), (2, .int a2)]) hx hb dX12_stays_25 rfl hl (by decide) rfl (fun ls hl => ?_)
      refine lv_iconst (v := 0) hx hb dX12_stays_26 (by decide) ?_
      refine lv_istore (lv' := [(4, .int 0), (3, .int 0), (0, .ref (ad 0)), (1, .int a1), (2, .int a2)]) hx hb dX12_stays_27 hl (by decide) rfl (fun ls hl => ?_)
      have lp13 : ∀ (f : Nat) (y14 : Int32) (y15 : Int32) (H : Heap) (locs : List Loc) (ls : Array Slot), (2147483647 < y14.toInt + (f : Int)) → (0 ≤ y14.toInt) → (0 ≤ y15.toInt) → (y15.toInt ≤ 30) → (y15.toInt = zd_C (zd_D (zd_V I RS a2.toInt) (zd_BM I) (zd_NM I) (I 0 1).toNatClampNeg a1.toInt) (zd_NM I) y14.toNatClampNeg ∧ y15.toInt ≤ y14.toInt ∧ y14.toInt ≤ (I 0 1).toInt) → z_W G A (shM, ad, I9, J11, PM ad) H → va_S A s.heap H locs → lv_has ls 5 [(4, .int y14), (3, .int y15), (0, .ref (ad 0)), (1, .int a1), (2, .int a2)] → W p l e (headSpec wsX12_stays { frames := 7, cells := 0, slots := 0, locals := 159 }).room s m ([.ref (ad 0), .int a1, .int a2] : List Value).toArray below meth c0 H locs 0 0 (MQ below (va_Qi (fun (r : Int32) (u1 : z_U) => ∃ (I1 : z_I) (J1 : z_J), u1 = (shM, ad, I1, J1, PM ad) ∧ z_ima I1 ∧ z_imb I1 ∧ z_rg 11 0 288 I1 ∧ z_rg 12 0 24 I1 ∧ z_Nd I1 ∧ z_rg 19 0 6200 I1 ∧ z_rg 20 0 6200 I1 ∧ z_rg 18 (-1) 6199 I1 ∧ z_Ex I1 ∧ z_fr L_X12_stays_d I1 I ∧ ((((0 ≤ a1.toInt ∧ a1.toInt ≤ 2) ∧ 0 ≤ a2.toInt ∧ a2.toInt ≤ 23) ∧ r.toInt = zd_C (zd_D (zd_V I RS a2.toInt) (zd_BM I) (zd_NM I) (I 0 1).toNatClampNeg a1.toInt) (zd_NM I) (I 0 1).toNatClampNeg) ∨ (¬ ((0 ≤ a1.toInt ∧ a1.toInt ≤ 2) ∧ 0 ≤ a2.toInt ∧ a2.toInt ≤ 23) ∧ r.toInt = -1))) (z_B G A) A) ([.ref (ad 0), .int a1, .int a2] : List Value).toArray s 0 0 A) (F0 m 29 ls []) := by
        intro f
        induction f with
        | zero => intro y14 y15 H locs ls lp13m lp13l4 lp13l3 lp13u3 lp13C hW hS hl; exact absurd lp13m (by have := Int32.toInt_lt y14; have := Int32.le_toInt y14; omega)
        | succ f lp13ih =>
          intro y14 y15 H locs ls lp13m lp13l4 lp13l3 lp13u3 lp13C hW hS hl
          refine lv_iload hx hb dX12_stays_29 (lv_at hl 0 rfl) ?_
          have hn16 : (I9 0 1).toInt = (I 0 1).toInt := by rw [fI9 0 1 (by decide)]
          refine lv_aload_n hx hb dX12_stays_31 rfl (lv_at hl 2 rfl) ?_
          have r17 : 0 ≤ (I9 0 1).toInt ∧ (I9 0 1).toInt ≤ 30 := hI9ma.2.1
          refine z_get (T := TX12) (N := 96) (ci := 12) (i := 0) (v := .int (I9 0 1)) hx hb hts zj_X12_stays_X12 hown hK hW rfl rfl 1 (by decide) (hts (.fieldLink RX12 229 "PetrolBoardModel" "holders" "I") (me_s (me_l (me_l (List.mem_of_getElem? (i := 0) rfl))))) (fun _ h => h) rfl dX12_stays_32 ?_
          refine lv_icmp_ge (tgt := 64) hx hb dX12_stays_35 (by decide) (fun c18 => ?_) (fun c18 => ?_)
          · have g19 := z_f_ge rfl rfl c18
            have b20 := Int32.toInt_lt y14
            refine lv_iload_n hx hb dX12_stays_64 rfl (lv_at hl 1 rfl) ?_
            exact z_iret hx hb hr hK hS (Nat.le_of_ble_eq_true rfl) (Nat.le_of_ble_eq_true rfl) hlocks dX12_stays_65 (shM, ad, I9, J11, PM ad) hW ⟨I9, J11, rfl, ⟨(by show 0 ≤ (I9 0 0).toInt ∧ (I9 0 0).toInt ≤ 719; exact hI9ma.1), (by show 0 ≤ (I9 0 1).toInt ∧ (I9 0 1).toInt ≤ 30; exact hI9ma.2.1), (by show 0 ≤ (I9 0 2).toInt ∧ (I9 0 2).toInt ≤ 200; exact hI9ma.2.2)⟩, ⟨(by show 0 ≤ (I9 0 13).toInt ∧ (I9 0 13).toInt ≤ 12; exact hI9mb.1), (by show 0 ≤ (I9 0 14).toInt ∧ (I9 0 14).toInt ≤ 288; exact hI9mb.2)⟩, hI9Atf, hI9Atm, hI9Nd, hI9Asf, hI9Ast, hI9Asc, hI9Ex, f10, (by have q1 := z_clt (x := y14) rfl (by omega); have q2 := z_clt (x := I 0 1) rfl (by omega); have e9 := lp13C.1; rw [show y14.toNatClampNeg = (I 0 1).toNatClampNeg by omega] at e9; exact Or.inl ⟨by omega, e9⟩)⟩
          · have g21 := z_f_nge rfl rfl c18
            have b22 := Int32.toInt_lt y14
            refine lv_aload_n hx hb dX12_stays_38 rfl (lv_at hl 2 rfl) ?_
            refine z_get (T := TX12) (N := 96) (ci := 12) (i := 0) (v := .ref (ad 69)) hx hb hts zj_X12_stays_X12 hown hK hW rfl rfl 94 (by decide) (hts (.fieldLink RX12 223 "PetrolBoardModel" "deal" "[I") (me_s (me_l (me_l (List.mem_of_getElem? (i := 1) rfl))))) (fun _ h => h) rfl dX12_stays_39 ?_
            refine lv_iload hx hb dX12_stays_42 (lv_at hl 0 rfl) ?_
            refine z_iald (i := 69) hx hb hK hW rfl (z_ix rfl (by omega) (by omega)) dX12_stays_44 ?_
            refine lv_topi (fun x23 ex23 => ?_)
            have hv24 : (I9 69 y14.toNatClampNeg).toInt = x23.toInt := by rw [ex23]
            have hz25 := z_clt (x := y14) rfl (by omega)
            refine lv_aload_n hx hb dX12_stays_45 rfl (lv_at hl 2 rfl) ?_
            refine z_get (T := TX12) (N := 96) (ci := 12) (i := 0) (v := .ref (ad 5)) hx hb hts zj_X12_stays_X12 hown hK hW rfl rfl 7 (by decide) (hts (.fieldLink RX12 22 "PetrolBoardModel" "needOf" "[I") (me_s (me_l (me_l (List.mem_of_getElem? (i := 2) rfl))))) (fun _ h => h) rfl dX12_stays_46 ?_
            refine lv_iload hx hb dX12_stays_49 (lv_at hl 0 rfl) ?_
            refine z_iald (i := 5) hx hb hK hW rfl (z_ix rfl (by omega) (by omega)) dX12_stays_51 ?_
            refine lv_topi (fun x26 ex26 => ?_)
            have hv27 : (I9 5 y14.toNatClampNeg).toInt = x26.toInt := by rw [ex26]
            have hz28 := z_clt (x := y14) rfl (by omega)
            refine lv_icmp_lt (tgt := 58) hx hb dX12_stays_52 (by decide) (fun c29 => ?_) (fun c29 => ?_)
            · have g30 := z_f_lt rfl rfl c29
              have b31 := Int32.toInt_lt x23
              have b32 := Int32.toInt_lt x26
              obtain ⟨x33, ex33⟩ : ∃ y : Int32, y = y14 + 1 := ⟨_, rfl⟩
              have tx33 : x33.toInt = y14.toInt + 1 := z_tadd ex33 rfl z_l1 (by omega) (by omega)
              refine lv_iinc (v := x33) (lv' := [(4, .int x33), (3, .int y15), (0, .ref (ad 0)), (1, .int a1), (2, .int a2)]) hx hb dX12_stays_58 hl (k := 0) rfl (by rw [ex33]; rfl) (by decide) rfl (fun ls hl => ?_)
              refine lv_goto (tgt := 29) hx hb dX12_stays_61 (by decide) ?_
              exact lp13ih x33 y15 _ _ _ (by omega) (by omega) (by omega) (by omega) (by have c9 := z_clt (x := y14) rfl (by omega); have d9 := hE12 y14.toNatClampNeg (by omega); have n9 : (I9 5 y14.toNatClampNeg).toInt = zd_NM I y14.toNatClampNeg := (by rw [fI9 5 _ (z_wr_c (by decide))]; rfl); exact ⟨by rw [(show x33.toNatClampNeg = y14.toNatClampNeg + 1 from z_cln (by omega) (by omega)), zd_C_n (by omega)]; omega, by omega, by omega⟩) hW hS (lv_sub hl [0, 1, 2, 3, 4] rfl)
            · have g34 := z_f_nlt rfl rfl c29
              have b35 := Int32.toInt_lt x23
              have b36 := Int32.toInt_lt x26
              obtain ⟨x37, ex37⟩ : ∃ y : Int32, y = y15 + 1 := ⟨_, rfl⟩
              have tx37 : x37.toInt = y15.toInt + 1 := z_tadd ex37 rfl z_l1 (by omega) (by omega)
              refine lv_iinc (v := x37) (lv' := [(3, .int x37), (4, .int y14), (0, .ref (ad 0)), (1, .int a1), (2, .int a2)]) hx hb dX12_stays_55 hl (k := 1) rfl (by rw [ex37]; rfl) (by decide) rfl (fun ls hl => ?_)
              obtain ⟨x38, ex38⟩ : ∃ y : Int32, y = y14 + 1 := ⟨_, rfl⟩
              have tx38 : x38.toInt = y14.toInt + 1 := z_tadd ex38 rfl z_l1 (by omega) (by omega)
              refine lv_iinc (v := x38) (lv' := [(4, .int x38), (3, .int x37), (0, .ref (ad 0)), (1, .int a1), (2, .int a2)]) hx hb dX12_stays_58 hl (k := 1) rfl (by rw [ex38]; rfl) (by decide) rfl (fun ls hl => ?_)
              refine lv_goto (tgt := 29) hx hb dX12_stays_61 (by decide) ?_
              exact lp13ih x38 x37 _ _ _ (by omega) (by omega) (by omega) (by omega) (by have c9 := z_clt (x := y14) rfl (by omega); have d9 := hE12 y14.toNatClampNeg (by omega); have n9 : (I9 5 y14.toNatClampNeg).toInt = zd_NM I y14.toNatClampNeg := (by rw [fI9 5 _ (z_wr_c (by decide))]; rfl); exact ⟨by rw [(show x38.toNatClampNeg = y14.toNatClampNeg + 1 from z_cln (by omega) (by omega)), zd_C_y (by omega)]; omega, by omega, by omega⟩) hW hS (lv_sub hl [0, 1, 2, 3, 4] rfl)
      exact lp13 4294967296 (0) (0) _ _ _ (z_m0u _) (by rw [z_l0]; omega) (by rw [z_l0]; omega) (by rw [z_l0]; omega) ⟨by rw [show (0 : Int32).toNatClampNeg = 0 by decide]; rfl, by omega, by have q0 := z_l0; have q9 := hma.2.1; omega⟩ hW hS (lv_sub hl [0, 1, 2, 3, 4] rfl)
    · have h39 := h6
      refine lv_if_ne (tgt := 18) hx hb dX12_stays_13 (by decide) (fun c40 => absurd (by decide) c40) (fun c40 => ?_)
      refine lv_iconst (v := (-1)) hx hb dX12_stays_16 (by decide) ?_
      exact z_iret hx hb hr hK hS (Nat.le_of_ble_eq_true rfl) (Nat.le_of_ble_eq_true rfl) hlocks dX12_stays_17 (shM, ad, I, J, PM ad) hW ⟨I, J, rfl, ⟨(by show 0 ≤ (I 0 0).toInt ∧ (I 0 0).toInt ≤ 719; exact hma.1), (by show 0 ≤ (I 0 1).toInt ∧ (I 0 1).toInt ≤ 30; exact hma.2.1), (by show 0 ≤ (I 0 2).toInt ∧ (I 0 2).toInt ≤ 200; exact hma.2.2)⟩, ⟨(by show 0 ≤ (I 0 13).toInt ∧ (I 0 13).toInt ≤ 12; exact hmb.1), (by show 0 ≤ (I 0 14).toInt ∧ (I 0 14).toInt ≤ 288; exact hmb.2)⟩, hAtf, hAtm, hNd, hAsf, hAst, hAsc, hEx, z_fr_0, (Or.inr ⟨by omega, by decide⟩)⟩
  · have h41 := h1
    have z42 := z_l0
    have z43 := z_l2
    refine lv_if_eq (tgt := 16) hx hb dX12_stays_6 (by decide) (fun c44 => ?_) (fun c44 => absurd (by decide) c44)
    refine lv_iconst (v := (-1)) hx hb dX12_stays_16 (by decide) ?_
    exact z_iret hx hb hr hK hS (Nat.le_of_ble_eq_true rfl) (Nat.le_of_ble_eq_true rfl) hlocks dX12_stays_17 (shM, ad, I, J, PM ad) hW ⟨I, J, rfl, ⟨(by show 0 ≤ (I 0 0).toInt ∧ (I 0 0).toInt ≤ 719; exact hma.1), (by show 0 ≤ (I 0 1).toInt ∧ (I 0 1).toInt ≤ 30; exact hma.2.1), (by show 0 ≤ (I 0 2).toInt ∧ (I 0 2).toInt ≤ 200; exact hma.2.2)⟩, ⟨(by show 0 ≤ (I 0 13).toInt ∧ (I 0 13).toInt ≤ 12; exact hmb.1), (by show 0 ≤ (I 0 14).toInt ∧ (I 0 14).toInt ≤ 288; exact hmb.2)⟩, hAtf, hAtm, hNd, hAsf, hAst, hAsc, hEx, z_fr_0, (Or.inr ⟨by omega, by decide⟩)⟩
end SG60ze
section SG60zf


/-! the counts -/
noncomputable def zt_n (f : Nat → Bool) : Nat → Int
  | 0 => 0
  | n + 1 => zt_n f n + if f n = true then 1 else 0
theorem zt_n_y {f : Nat → Bool} {n : Nat} (h : f n = true) : zt_n f (n + 1) = zt_n f n + 1 := by rw [zt_n, if_pos h]
theorem zt_n_n {f : Nat → Bool} {n : Nat} (h : f n = false) : zt_n f (n + 1) = zt_n f n := by rw [zt_n, if_neg (by rw [h]; decide), Int.add_zero]
theorem zt_n_c {f g : Nat → Bool} : ∀ n : Nat, (∀ j, j < n → g j = f j) → zt_n g n = zt_n f n
  | 0, _ => rfl
  | n + 1, h => by rw [zt_n, zt_n, zt_n_c n (fun j hj => h j (by omega)), h n (Nat.lt_succ_self n)]
noncomputable def zt_G (I : z_I) (j : Nat) : Bool := decide ((I 36 j).toInt = 0)
noncomputable def zt_O (I : z_I) (j : Nat) : Bool := decide (0 < (I 36 j).toInt)
noncomputable def zt_g (I : z_I) (j : Nat) : Bool := decide ((I 40 j).toInt = 0)
noncomputable def zt_o (I : z_I) (j : Nat) : Bool := decide (0 < (I 40 j).toInt)
theorem zt_G_y {I : z_I} {n : Nat} (h : (I 36 n).toInt = 0) : zt_n (zt_G I) (n + 1) = zt_n (zt_G I) n + 1 := zt_n_y (decide_eq_true h)
theorem zt_G_n {I : z_I} {n : Nat} (h : ¬ (I 36 n).toInt = 0) : zt_n (zt_G I) (n + 1) = zt_n (zt_G I) n := zt_n_n (decide_eq_false h)
theorem zt_O_y {I : z_I} {n : Nat} (h : 0 < (I 36 n).toInt) : zt_n (zt_O I) (n + 1) = zt_n (zt_O I) n + 1 := zt_n_y (decide_eq_true h)
theorem zt_O_n {I : z_I} {n : Nat} (h : ¬ 0 < (I 36 n).toInt) : zt_n (zt_O I) (n + 1) = zt_n (zt_O I) n := zt_n_n (decide_eq_false h)
theorem zt_g_y {I : z_I} {n : Nat} (h : (I 40 n).toInt = 0) : zt_n (zt_g I) (n + 1) = zt_n (zt_g I) n + 1 := zt_n_y (decide_eq_true h)
theorem zt_g_n {I : z_I} {n : Nat} (h : ¬ (I 40 n).toInt = 0) : zt_n (zt_g I) (n + 1) = zt_n (zt_g I) n := zt_n_n (decide_eq_false h)
theorem zt_o_y {I : z_I} {n : Nat} (h : 0 < (I 40 n).toInt) : zt_n (zt_o I) (n + 1) = zt_n (zt_o I) n + 1 := zt_n_y (decide_eq_true h)
theorem zt_o_n {I : z_I} {n : Nat} (h : ¬ 0 < (I 40 n).toInt) : zt_n (zt_o I) (n + 1) = zt_n (zt_o I) n := zt_n_n (decide_eq_false h)
noncomputable def zt_t (v : Nat → Int) (w r : Int) : Prop := (0 ≤ w ∧ w ≤ 12 ∧ r = v w.toNat) ∨ (¬ (0 ≤ w ∧ w ≤ 12) ∧ r = -1)
theorem zt_t_i {v : Nat → Int} {w r : Int} {k : Nat} (hw : w = (k : Int)) (hk : k ≤ 12) (hr : r = v k) : zt_t v w r := Or.inl ⟨by omega, by omega, by subst hw; exact hr⟩
theorem zt_t_u {v v1 : Nat → Int} {w r r1 : Int} (h : zt_t v w r) (h1 : zt_t v1 w r1) (e : ∀ k, v1 k = v k) : r1 = r := by
  rcases h with ⟨a1, a2, a3⟩ | ⟨a1, a2⟩ <;> rcases h1 with ⟨b1, b2, b3⟩ | ⟨b1, b2⟩
  · rw [a3, b3, e]
  · exact absurd ⟨a1, a2⟩ b1
  · exact absurd ⟨b1, b2⟩ a1
  · rw [a2, b2]
noncomputable def zt_x (I : z_I) (k : Nat) : Int := if k = 0 then (I 0 0).toInt else if k = 1 then (I 1 5).toInt else if k = 2 then (I 1 11).toInt else if k = 3 then (I 21 2).toInt else if k = 4 then (I 26 3).toInt else if k = 5 then (I 0 8).toInt else if k = 6 then (I 30 8).toInt else if k = 7 then zt_n (zt_G I) (I 30 8).toNatClampNeg else if k = 8 then zt_n (zt_O I) (I 30 8).toNatClampNeg else if k = 9 then (I 26 4).toInt else if k = 10 then (I 41 10).toInt else if k = 11 then (I 60 9).toInt else (I 12 1).toInt
noncomputable def zt_m (I : z_I) (k : Nat) : Int := if k = 0 then (I 0 0).toInt else if k = 1 then (I 0 1).toInt else if k = 2 then (I 0 2).toInt else if k = 3 then (I 0 13).toInt else if k = 4 then (I 0 50).toInt else if k = 5 then (I 0 54).toInt else if k = 6 then (I 0 55).toInt else if k = 7 then zt_n (zt_g I) (I 0 55).toNatClampNeg else if k = 8 then zt_n (zt_o I) (I 0 55).toNatClampNeg else if k = 9 then (I 0 51).toInt else if k = 10 then (I 0 75).toInt else if k = 11 then (I 0 83).toInt else (I 0 31).toInt
theorem zt_e {Ix Im : z_I} (h0 : (Im 0 0).toInt = (Ix 0 0).toInt) (h1 : (Im 0 1).toInt = (Ix 1 5).toInt) (h2 : (Im 0 2).toInt = (Ix 1 11).toInt) (h3 : (Im 0 13).toInt = (Ix 21 2).toInt) (h4 : (Im 0 50).toInt = (Ix 26 3).toInt) (h5 : (Im 0 54).toInt = (Ix 0 8).toInt) (h6 : (Im 0 55).toInt = (Ix 30 8).toInt) (h9 : (Im 0 51).toInt = (Ix 26 4).toInt) (h10 : (Im 0 75).toInt = (Ix 41 10).toInt) (h11 : (Im 0 83).toInt = (Ix 60 9).toInt) (h12 : (Im 0 31).toInt = (Ix 12 1).toInt) (hv : ∀ j, j < (Ix 30 8).toNatClampNeg → Ix 36 j = Im 40 j) (k : Nat) : zt_m Im k = zt_x Ix k := by
  have hn : (Im 0 55).toNatClampNeg = (Ix 30 8).toNatClampNeg := congrArg Int.toNat h6
  have hg : zt_n (zt_g Im) (Im 0 55).toNatClampNeg = zt_n (zt_G Ix) (Ix 30 8).toNatClampNeg := by
    rw [hn]
    exact zt_n_c _ (fun j hj => by unfold zt_g zt_G; rw [hv j hj])
  have ho : zt_n (zt_o Im) (Im 0 55).toNatClampNeg = zt_n (zt_O Ix) (Ix 30 8).toNatClampNeg := by
    rw [hn]
    exact zt_n_c _ (fun j hj => by unfold zt_o zt_O; rw [hv j hj])
  unfold zt_m zt_x
  rw [hg, ho, h0, h1, h2, h3, h4, h5, h6, h9, h10, h11, h12]
set_option maxHeartbeats 8000000 in
set_option maxRecDepth 100000 in
theorem sx_X8_judgedGood_p (l : Launch) (G : z_G) (ad : Nat → Nat) (c : z_C) (I : z_I) (hP : z_iP I) : z_M l yX8_judgedGood wsX8_judgedGood { frames := 1, cells := 0, slots := 0, locals := 12 } [.ref (ad 30)] G (shC c, ad, I, JX, PC c ad) (fun r u1 => u1 = (shC c, ad, I, JX, PC c ad) ∧ (r.toInt = zt_n (zt_G I) (I 30 8).toNatClampNeg)) 0 0 := sorry
set_option maxHeartbeats 8000000 in
set_option maxRecDepth 100000 in
theorem sx_X8_judgedOtherwise_p (l : Launch) (G : z_G) (ad : Nat → Nat) (c : z_C) (I : z_I) (hP : z_iP I) : z_M l yX8_judgedOtherwise wsX8_judgedOtherwise { frames := 1, cells := 0, slots := 0, locals := 12 } [.ref (ad 30)] G (shC c, ad, I, JX, PC c ad) (fun r u1 => u1 = (shC c, ad, I, JX, PC c ad) ∧ (r.toInt = zt_n (zt_O I) (I 30 8).toNatClampNeg)) 0 0 := sorry
set_option maxHeartbeats 8000000 in
set_option maxRecDepth 100000 in
theorem sx_X11_count_p (l : Launch) (G : z_G) (ad : Nat → Nat) (c : z_C) (I : z_I) (hH : z_iH I) (hR : z_iR I) (hO : z_iO I) (hP : z_iP I) (hC : z_iC I) (hL : z_iL I) (hJ : z_iJ I) (hB : z_iB I) (a1 : Int32) (hc : z_okc c) (h10 : c.1 ≤ 10) : z_M l yX11_count wsX11_count { frames := 2, cells := 0, slots := 0, locals := 34 } [.ref (ad 0), .int a1] G (shC c, ad, I, JX, PC c ad) (fun r u1 => u1 = (shC c, ad, I, JX, PC c ad) ∧ (zt_t (zt_x I) a1.toInt r.toInt)) 0 0 := by
  intro sz
  refine z_headQ (cc := cX11_count) (maxL := 2) (ret := (some .int)) (by decide) rfl (Nat.le_of_ble_eq_true rfl) ?_
  intro p e s m below meth c0 ls hIn hK hsz hW hl
  obtain ⟨hx, hb, hr, hml, hown, hts, hlocks, hname⟩ := hIn
  subst hsz
  have hown : s.vm.findClass RX11 = some m.cls := hown
  have hA : ∀ q : Nat, s.heap.size ≤ q → z_A (shC c, ad, I, JX, PC c ad) s.heap.size q := fun q h => Or.inr h
  generalize hAe : z_A (shC c, ad, I, JX, PC c ad) s.heap.size = A at *
  have hS : va_S A s.heap s.heap [] := va_S.rf
  have hl : lv_has ls 2 [(0, .ref (ad 0)), (1, .int a1)] := hl
  refine lv_iload_n hx hb dX11_count_0 rfl (lv_at hl 1 rfl) ?_
  by_cases q1 : a1 = 0
  · refine lv_tableIn (tgt := 68) hx hb dX11_count_1 (by rw [q1]; decide) (by rw [q1]; decide) (by rw [q1]; rfl) (by decide) ?_
    refine lv_aload_n hx hb dX11_count_68 rfl (lv_at hl 0 rfl) ?_
    have r2 : 0 ≤ (I 0 0).toInt ∧ (I 0 0).toInt ≤ 719 := hB.1
    refine z_get (T := TX11) (N := 13) (ci := 11) (i := 0) (v := .int (I 0 0)) hx hb hts zj_X11_count_X11 hown hK hW rfl rfl 0 (by decide) (hts (.fieldLink RX11 85 "PetrolBoard" "today" "I") (me_s (me_l (me_l (me_l (me_l (me_l (me_l (me_l (me_l (me_l (List.mem_of_getElem? (i := 0) rfl)))))))))))) (fun _ h => h) rfl dX11_count_69 ?_
    exact z_iret hx hb hr hK hS (Nat.le_of_ble_eq_true rfl) (Nat.le_of_ble_eq_true rfl) hlocks dX11_count_72 (shC c, ad, I, JX, PC c ad) hW ⟨rfl, (zt_t_i (k := 0) (show a1.toInt = 0 by rw [‹a1 = 0›]; decide) (by decide) rfl)⟩
  by_cases q3 : a1 = 1
  · refine lv_tableIn (tgt := 73) hx hb dX11_count_1 (by rw [q3]; decide) (by rw [q3]; decide) (by rw [q3]; rfl) (by decide) ?_
    refine lv_aload_n hx hb dX11_count_73 rfl (lv_at hl 0 rfl) ?_
    refine z_get (T := TX11) (N := 13) (ci := 11) (i := 0) (v := .ref (ad 1)) hx hb hts zj_X11_count_X11 hown hK hW rfl rfl 2 (by decide) (hts (.fieldLink RX11 16 "PetrolBoard" "holders" "LPetrolBoard$Holders;") (me_s (me_l (me_l (me_l (me_l (me_l (me_l (me_l (me_l (me_l (List.mem_of_getElem? (i := 1) rfl)))))))))))) (fun _ h => h) rfl dX11_count_74 ?_
    have r4 : 0 ≤ (I 1 5).toInt ∧ (I 1 5).toInt ≤ 30 := hH.1
    refine z_get (T := TX2) (N := 12) (ci := 2) (i := 1) (v := .int (I 1 5)) hx hb hts zj_X11_count_X2 hown hK hW rfl rfl 5 (by decide) (hts (.fieldLink RX11 373 "PetrolBoard$Holders" "number" "I") (me_s (me_l (me_l (me_l (me_l (me_l (me_l (me_l (me_l (me_l (List.mem_of_getElem? (i := 2) rfl)))))))))))) (fun _ h => h) rfl dX11_count_77 ?_
    exact z_iret hx hb hr hK hS (Nat.le_of_ble_eq_true rfl) (Nat.le_of_ble_eq_true rfl) hlocks dX11_count_80 (shC c, ad, I, JX, PC c ad) hW ⟨rfl, (zt_t_i (k := 1) (show a1.toInt = 1 by rw [‹a1 = 1›]; decide) (by decide) rfl)⟩
  by_cases q5 : a1 = 2
  · refine lv_tableIn (tgt := 81) hx hb dX11_count_1 (by rw [q5]; decide) (by rw [q5]; decide) (by rw [q5]; rfl) (by decide) ?_
    refine lv_aload_n hx hb dX11_count_81 rfl (lv_at hl 0 rfl) ?_
    refine z_get (T := TX11) (N := 13) (ci := 11) (i := 0) (v := .ref (ad 1)) hx hb hts zj_X11_count_X11 hown hK hW rfl rfl 2 (by decide) (hts (.fieldLink RX11 16 "PetrolBoard" "holders" "LPetrolBoard$Holders;") (me_s (me_l (me_l (me_l (me_l (me_l (me_l (me_l (me_l (me_l (List.mem_of_getElem? (i := 1) rfl)))))))))))) (fun _ h => h) rfl dX11_count_82 ?_
    have r6 : 0 ≤ (I 1 11).toInt ∧ (I 1 11).toInt ≤ 200 := hH.2
    refine z_get (T := TX2) (N := 12) (ci := 2) (i := 1) (v := .int (I 1 11)) hx hb hts zj_X11_count_X2 hown hK hW rfl rfl 11 (by decide) (hts (.fieldLink RX11 407 "PetrolBoard$Holders" "notes" "I") (me_s (me_l (me_l (me_l (me_l (me_l (me_l (me_l (me_l (me_l (List.mem_of_getElem? (i := 3) rfl)))))))))))) (fun _ h => h) rfl dX11_count_85 ?_
    exact z_iret hx hb hr hK hS (Nat.le_of_ble_eq_true rfl) (Nat.le_of_ble_eq_true rfl) hlocks dX11_count_88 (shC c, ad, I, JX, PC c ad) hW ⟨rfl, (zt_t_i (k := 2) (show a1.toInt = 2 by rw [‹a1 = 2›]; decide) (by decide) rfl)⟩
  by_cases q7 : a1 = 3
  · refine lv_tableIn (tgt := 89) hx hb dX11_count_1 (by rw [q7]; decide) (by rw [q7]; decide) (by rw [q7]; rfl) (by decide) ?_
    refine lv_aload_n hx hb dX11_count_89 rfl (lv_at hl 0 rfl) ?_
    refine z_get (T := TX11) (N := 13) (ci := 11) (i := 0) (v := .ref (ad 21)) hx hb hts zj_X11_count_X11 hown hK hW rfl rfl 4 (by decide) (hts (.fieldLink RX11 30 "PetrolBoard" "orderBook" "LPetrolBoard$OrderBook;") (me_s (me_l (me_l (me_l (me_l (me_l (me_l (me_l (me_l (me_l (List.mem_of_getElem? (i := 4) rfl)))))))))))) (fun _ h => h) rfl dX11_count_90 ?_
    have r8 : 0 ≤ (I 21 2).toInt ∧ (I 21 2).toInt ≤ 12 := hO
    refine z_get (T := TX6) (N := 3) (ci := 6) (i := 21) (v := .int (I 21 2)) hx hb hts zj_X11_count_X6 hown hK hW rfl rfl 2 (by decide) (hts (.fieldLink RX11 125 "PetrolBoard$OrderBook" "number" "I") (me_s (me_l (me_l (me_l (me_l (me_l (me_l (me_l (me_l (me_l (List.mem_of_getElem? (i := 5) rfl)))))))))))) (fun _ h => h) rfl dX11_count_93 ?_
    exact z_iret hx hb hr hK hS (Nat.le_of_ble_eq_true rfl) (Nat.le_of_ble_eq_true rfl) hlocks dX11_count_96 (shC c, ad, I, JX, PC c ad) hW ⟨rfl, (zt_t_i (k := 3) (show a1.toInt = 3 by rw [‹a1 = 3›]; decide) (by decide) rfl)⟩
  by_cases q9 : a1 = 4
  · refine lv_tableIn (tgt := 97) hx hb dX11_count_1 (by rw [q9]; decide) (by rw [q9]; decide) (by rw [q9]; rfl) (by decide) ?_
    refine lv_aload_n hx hb dX11_count_97 rfl (lv_at hl 0 rfl) ?_
    refine z_get (T := TX11) (N := 13) (ci := 11) (i := 0) (v := .ref (ad 26)) hx hb hts zj_X11_count_X11 hown hK hW rfl rfl 5 (by decide) (hts (.fieldLink RX11 37 "PetrolBoard" "coupons" "LPetrolBoard$Coupons;") (me_s (me_l (me_l (me_l (me_l (me_l (me_l (me_l (me_l (me_l (List.mem_of_getElem? (i := 6) rfl)))))))))))) (fun _ h => h) rfl dX11_count_98 ?_
    refine z_get (T := TX0) (N := 5) (ci := 0) (i := 26) (v := .int (I 26 3)) hx hb hts zj_X11_count_X0 hown hK hW rfl rfl 3 (by decide) (hts (.fieldLink RX11 410 "PetrolBoard$Coupons" "books" "I") (me_s (me_l (me_l (me_l (me_l (me_l (me_l (me_l (me_l (me_l (List.mem_of_getElem? (i := 7) rfl)))))))))))) (fun _ h => h) rfl dX11_count_101 ?_
    exact z_iret hx hb hr hK hS (Nat.le_of_ble_eq_true rfl) (Nat.le_of_ble_eq_true rfl) hlocks dX11_count_104 (shC c, ad, I, JX, PC c ad) hW ⟨rfl, (zt_t_i (k := 4) (show a1.toInt = 4 by rw [‹a1 = 4›]; decide) (by decide) rfl)⟩
  by_cases q10 : a1 = 5
  · refine lv_tableIn (tgt := 105) hx hb dX11_count_1 (by rw [q10]; decide) (by rw [q10]; decide) (by rw [q10]; rfl) (by decide) ?_
    refine lv_aload_n hx hb dX11_count_105 rfl (lv_at hl 0 rfl) ?_
    have r11 : 0 ≤ (I 0 8).toInt ∧ (I 0 8).toInt ≤ 10 := hB.2
    refine z_get (T := TX11) (N := 13) (ci := 11) (i := 0) (v := .int (I 0 8)) hx hb hts zj_X11_count_X11 hown hK hW rfl rfl 8 (by decide) (hts (.fieldLink RX11 178 "PetrolBoard" "stationNumber" "I") (me_s (me_l (me_l (me_l (me_l (me_l (me_l (me_l (me_l (me_l (List.mem_of_getElem? (i := 8) rfl)))))))))))) (fun _ h => h) rfl dX11_count_106 ?_
    exact z_iret hx hb hr hK hS (Nat.le_of_ble_eq_true rfl) (Nat.le_of_ble_eq_true rfl) hlocks dX11_count_109 (shC c, ad, I, JX, PC c ad) hW ⟨rfl, (zt_t_i (k := 5) (show a1.toInt = 5 by rw [‹a1 = 5›]; decide) (by decide) rfl)⟩
  by_cases q12 : a1 = 6
  · refine lv_tableIn (tgt := 110) hx hb dX11_count_1 (by rw [q12]; decide) (by rw [q12]; decide) (by rw [q12]; rfl) (by decide) ?_
    refine lv_aload_n hx hb dX11_count_110 rfl (lv_at hl 0 rfl) ?_
    refine z_get (T := TX11) (N := 13) (ci := 11) (i := 0) (v := .ref (ad 30)) hx hb hts zj_X11_count_X11 hown hK hW rfl rfl 6 (by decide) (hts (.fieldLink RX11 44 "PetrolBoard" "pours" "LPetrolBoard$Pours;") (me_s (me_l (me_l (me_l (me_l (me_l (me_l (me_l (me_l (me_l (List.mem_of_getElem? (i := 9) rfl)))))))))))) (fun _ h => h) rfl dX11_count_111 ?_
    have r13 : 0 ≤ (I 30 8).toInt ∧ (I 30 8).toInt ≤ 300 := hP
    refine z_get (T := TX8) (N := 9) (ci := 8) (i := 30) (v := .int (I 30 8)) hx hb hts zj_X11_count_X8 hown hK hW rfl rfl 8 (by decide) (hts (.fieldLink RX11 201 "PetrolBoard$Pours" "number" "I") (me_s (me_l (me_l (me_l (me_l (me_l (me_l (me_l (me_l (me_l (List.mem_of_getElem? (i := 10) rfl)))))))))))) (fun _ h => h) rfl dX11_count_114 ?_
    exact z_iret hx hb hr hK hS (Nat.le_of_ble_eq_true rfl) (Nat.le_of_ble_eq_true rfl) hlocks dX11_count_117 (shC c, ad, I, JX, PC c ad) hW ⟨rfl, (zt_t_i (k := 6) (show a1.toInt = 6 by rw [‹a1 = 6›]; decide) (by decide) rfl)⟩
  by_cases q14 : a1 = 7
  · refine lv_tableIn (tgt := 118) hx hb dX11_count_1 (by rw [q14]; decide) (by rw [q14]; decide) (by rw [q14]; rfl) (by decide) ?_
    refine lv_aload_n hx hb dX11_count_118 rfl (lv_at hl 0 rfl) ?_
    refine z_get (T := TX11) (N := 13) (ci := 11) (i := 0) (v := .ref (ad 30)) hx hb hts zj_X11_count_X11 hown hK hW rfl rfl 6 (by decide) (hts (.fieldLink RX11 44 "PetrolBoard" "pours" "LPetrolBoard$Pours;") (me_s (me_l (me_l (me_l (me_l (me_l (me_l (me_l (me_l (me_l (List.mem_of_getElem? (i := 9) rfl)))))))))))) (fun _ h => h) rfl dX11_count_119 ?_
    refine z_ci hW hS hA (va_runV (As := []) (rest := []) ⟨hx, hb, hml, hown, hts⟩ (sx_X8_judgedGood_p l G ad c I (by show 0 ≤ (I 30 8).toInt ∧ (I 30 8).toInt ≤ 300; exact hP)  _) (cwV 0 hts gX11_count_X8_judgedGood rfl rfl rfl (by decide +kernel) ⟨Nat.le_of_ble_eq_true rfl, Nat.le_of_ble_eq_true rfl⟩) (z_preV (i := 30) hK hW rfl rfl) rfl rfl hl.1 rfl (lv_room (Nat.le_of_ble_eq_true rfl)) dX11_count_122 ⟨Nat.le_of_ble_eq_true rfl, Nat.le_of_ble_eq_true rfl⟩) (fun r u1 H locs hp hW hS => ?_)
    obtain ⟨e9, hp⟩ := hp
    rw [e9] at hW
    refine lv_topi (fun x15 ex15 => ?_)
    rw [← ex15] at hp
    have hP16 := hp
    exact z_iret hx hb hr hK hS (Nat.le_of_ble_eq_true rfl) (Nat.le_of_ble_eq_true rfl) hlocks dX11_count_125 (shC c, ad, I, JX, PC c ad) hW ⟨rfl, (zt_t_i (k := 7) (show a1.toInt = 7 by rw [‹a1 = 7›]; decide) (by decide) (show _ = zt_n (zt_G I) (I 30 8).toNatClampNeg from hP16))⟩
  by_cases q17 : a1 = 8
  · refine lv_tableIn (tgt := 126) hx hb dX11_count_1 (by rw [q17]; decide) (by rw [q17]; decide) (by rw [q17]; rfl) (by decide) ?_
    refine lv_aload_n hx hb dX11_count_126 rfl (lv_at hl 0 rfl) ?_
    refine z_get (T := TX11) (N := 13) (ci := 11) (i := 0) (v := .ref (ad 30)) hx hb hts zj_X11_count_X11 hown hK hW rfl rfl 6 (by decide) (hts (.fieldLink RX11 44 "PetrolBoard" "pours" "LPetrolBoard$Pours;") (me_s (me_l (me_l (me_l (me_l (me_l (me_l (me_l (me_l (me_l (List.mem_of_getElem? (i := 9) rfl)))))))))))) (fun _ h => h) rfl dX11_count_127 ?_
    refine z_ci hW hS hA (va_runV (As := []) (rest := []) ⟨hx, hb, hml, hown, hts⟩ (sx_X8_judgedOtherwise_p l G ad c I (by show 0 ≤ (I 30 8).toInt ∧ (I 30 8).toInt ≤ 300; exact hP)  _) (cwV 0 hts gX11_count_X8_judgedOtherwise rfl rfl rfl (by decide +kernel) ⟨Nat.le_of_ble_eq_true rfl, Nat.le_of_ble_eq_true rfl⟩) (z_preV (i := 30) hK hW rfl rfl) rfl rfl hl.1 rfl (lv_room (Nat.le_of_ble_eq_true rfl)) dX11_count_130 ⟨Nat.le_of_ble_eq_true rfl, Nat.le_of_ble_eq_true rfl⟩) (fun r u1 H locs hp hW hS => ?_)
    obtain ⟨e9, hp⟩ := hp
    rw [e9] at hW
    refine lv_topi (fun x18 ex18 => ?_)
    rw [← ex18] at hp
    have hP19 := hp
    exact z_iret hx hb hr hK hS (Nat.le_of_ble_eq_true rfl) (Nat.le_of_ble_eq_true rfl) hlocks dX11_count_133 (shC c, ad, I, JX, PC c ad) hW ⟨rfl, (zt_t_i (k := 8) (show a1.toInt = 8 by rw [‹a1 = 8›]; decide) (by decide) (show _ = zt_n (zt_O I) (I 30 8).toNatClampNeg from hP19))⟩
  by_cases q20 : a1 = 9
  · refine lv_tableIn (tgt := 134) hx hb dX11_count_1 (by rw [q20]; decide) (by rw [q20]; decide) (by rw [q20]; rfl) (by decide) ?_
    refine lv_aload_n hx hb dX11_count_134 rfl (lv_at hl 0 rfl) ?_
    refine z_get (T := TX11) (N := 13) (ci := 11) (i := 0) (v := .ref (ad 26)) hx hb hts zj_X11_count_X11 hown hK hW rfl rfl 5 (by decide) (hts (.fieldLink RX11 37 "PetrolBoard" "coupons" "LPetrolBoard$Coupons;") (me_s (me_l (me_l (me_l (me_l (me_l (me_l (me_l (me_l (me_l (List.mem_of_getElem? (i := 6) rfl)))))))))))) (fun _ h => h) rfl dX11_count_135 ?_
    have r21 : 0 ≤ (I 26 4).toInt ∧ (I 26 4).toInt ≤ 512 := hC
    refine z_get (T := TX0) (N := 5) (ci := 0) (i := 26) (v := .int (I 26 4)) hx hb hts zj_X11_count_X0 hown hK hW rfl rfl 4 (by decide) (hts (.fieldLink RX11 419 "PetrolBoard$Coupons" "lentNumber" "I") (me_s (me_l (me_l (me_l (me_l (me_l (me_l (me_l (me_l (me_l (List.mem_of_getElem? (i := 11) rfl)))))))))))) (fun _ h => h) rfl dX11_count_138 ?_
    exact z_iret hx hb hr hK hS (Nat.le_of_ble_eq_true rfl) (Nat.le_of_ble_eq_true rfl) hlocks dX11_count_141 (shC c, ad, I, JX, PC c ad) hW ⟨rfl, (zt_t_i (k := 9) (show a1.toInt = 9 by rw [‹a1 = 9›]; decide) (by decide) rfl)⟩
  by_cases q22 : a1 = 10
  · refine lv_tableIn (tgt := 142) hx hb dX11_count_1 (by rw [q22]; decide) (by rw [q22]; decide) (by rw [q22]; rfl) (by decide) ?_
    refine lv_aload_n hx hb dX11_count_142 rfl (lv_at hl 0 rfl) ?_
    refine z_get (T := TX11) (N := 13) (ci := 11) (i := 0) (v := .ref (ad 41)) hx hb hts zj_X11_count_X11 hown hK hW rfl rfl 10 (by decide) (hts (.fieldLink RX11 61 "PetrolBoard" "loads" "LPetrolBoard$Loads;") (me_s (me_l (me_l (me_l (me_l (me_l (me_l (me_l (me_l (me_l (List.mem_of_getElem? (i := 12) rfl)))))))))))) (fun _ h => h) rfl dX11_count_143 ?_
    have r23 : 0 ≤ (I 41 10).toInt ∧ (I 41 10).toInt ≤ 4 := hL
    refine z_get (T := TX4) (N := 13) (ci := 4) (i := 41) (v := .int (I 41 10)) hx hb hts zj_X11_count_X4 hown hK hW rfl rfl 10 (by decide) (hts (.fieldLink RX11 422 "PetrolBoard$Loads" "ports" "I") (me_s (me_l (me_l (me_l (me_l (me_l (me_l (me_l (me_l (me_l (List.mem_of_getElem? (i := 13) rfl)))))))))))) (fun _ h => h) rfl dX11_count_146 ?_
    exact z_iret hx hb hr hK hS (Nat.le_of_ble_eq_true rfl) (Nat.le_of_ble_eq_true rfl) hlocks dX11_count_149 (shC c, ad, I, JX, PC c ad) hW ⟨rfl, (zt_t_i (k := 10) (show a1.toInt = 10 by rw [‹a1 = 10›]; decide) (by decide) rfl)⟩
  by_cases q24 : a1 = 11
  · refine lv_tableIn (tgt := 150) hx hb dX11_count_1 (by rw [q24]; decide) (by rw [q24]; decide) (by rw [q24]; rfl) (by decide) ?_
    refine lv_aload_n hx hb dX11_count_150 rfl (lv_at hl 0 rfl) ?_
    refine z_get (T := TX11) (N := 13) (ci := 11) (i := 0) (v := .ref (ad 60)) hx hb hts zj_X11_count_X11 hown hK hW rfl rfl 11 (by decide) (hts (.fieldLink RX11 68 "PetrolBoard" "journeys" "LPetrolBoard$Journeys;") (me_s (me_l (me_l (me_l (me_l (me_l (me_l (me_l (me_l (me_l (List.mem_of_getElem? (i := 14) rfl)))))))))))) (fun _ h => h) rfl dX11_count_151 ?_
    have r25 : 0 ≤ (I 60 9).toInt ∧ (I 60 9).toInt ≤ 60 := hJ.1
    refine z_get (T := TX3) (N := 17) (ci := 3) (i := 60) (v := .int (I 60 9)) hx hb hts zj_X11_count_X3 hown hK hW rfl rfl 9 (by decide) (hts (.fieldLink RX11 425 "PetrolBoard$Journeys" "number" "I") (me_s (me_l (me_l (me_l (me_l (me_l (me_l (me_l (me_l (me_l (List.mem_of_getElem? (i := 15) rfl)))))))))))) (fun _ h => h) rfl dX11_count_154 ?_
    exact z_iret hx hb hr hK hS (Nat.le_of_ble_eq_true rfl) (Nat.le_of_ble_eq_true rfl) hlocks dX11_count_157 (shC c, ad, I, JX, PC c ad) hW ⟨rfl, (zt_t_i (k := 11) (show a1.toInt = 11 by rw [‹a1 = 11›]; decide) (by decide) rfl)⟩
  by_cases q26 : a1 = 12
  · refine lv_tableIn (tgt := 158) hx hb dX11_count_1 (by rw [q26]; decide) (by rw [q26]; decide) (by rw [q26]; rfl) (by decide) ?_
    refine lv_aload_n hx hb dX11_count_158 rfl (lv_at hl 0 rfl) ?_
    refine z_get (T := TX11) (N := 13) (ci := 11) (i := 0) (v := .ref (ad 12)) hx hb hts zj_X11_count_X11 hown hK hW rfl rfl 3 (by decide) (hts (.fieldLink RX11 23 "PetrolBoard" "reader" "LPetrolBoard$Reader;") (me_s (me_l (me_l (me_l (me_l (me_l (me_l (me_l (me_l (me_l (List.mem_of_getElem? (i := 16) rfl)))))))))))) (fun _ h => h) rfl dX11_count_159 ?_
    have r27 : 0 ≤ (I 12 1).toInt ∧ (I 12 1).toInt ≤ 500 := hR.1
    refine z_get (T := TX9) (N := 14) (ci := 9) (i := 12) (v := .int (I 12 1)) hx hb hts zj_X11_count_X9 hown hK hW rfl rfl 1 (by decide) (hts (.fieldLink RX11 115 "PetrolBoard$Reader" "taped" "I") (me_s (me_l (me_l (me_l (me_l (me_l (me_l (me_l (me_l (me_l (List.mem_of_getElem? (i := 17) rfl)))))))))))) (fun _ h => h) rfl dX11_count_162 ?_
    exact z_iret hx hb hr hK hS (Nat.le_of_ble_eq_true rfl) (Nat.le_of_ble_eq_true rfl) hlocks dX11_count_165 (shC c, ad, I, JX, PC c ad) hW ⟨rfl, (zt_t_i (k := 12) (show a1.toInt = 12 by rw [‹a1 = 12›]; decide) (by decide) rfl)⟩
  have q1 := z_f_ne rfl z_l0 q1
  have q3 := z_f_ne rfl z_l1 q3
  have q5 := z_f_ne rfl z_l2 q5
  have q7 := z_f_ne rfl z_l3 q7
  have q9 := z_f_ne rfl z_l4 q9
  have q10 := z_f_ne rfl z_l5 q10
  have q12 := z_f_ne rfl z_l6 q12
  have q14 := z_f_ne rfl z_l7 q14
  have q17 := z_f_ne rfl z_l8 q17
  have q20 := z_f_ne rfl z_l9 q20
  have q22 := z_f_ne rfl z_l10 q22
  have q24 := z_f_ne rfl z_l11 q24
  have q26 := z_f_ne rfl z_l12 q26
  refine lv_tableOut (tgt := 166) hx hb dX11_count_1 (by omega) (by decide) ?_
  refine lv_iconst (v := (-1)) hx hb dX11_count_166 (by decide) ?_
  exact z_iret hx hb hr hK hS (Nat.le_of_ble_eq_true rfl) (Nat.le_of_ble_eq_true rfl) hlocks dX11_count_167 (shC c, ad, I, JX, PC c ad) hW ⟨rfl, (Or.inr ⟨by omega, by decide⟩)⟩
set_option maxHeartbeats 8000000 in
set_option maxRecDepth 100000 in
theorem sx_X12_count_p (l : Launch) (G : z_G) (ad : Nat → Nat) (I : z_I) (J : z_J) (hma : z_ima I) (hmb : z_imb I) (hmp : z_imp I) (hms : z_ims I) (hmr : z_imr I) (hmj : z_imj I) (a1 : Int32) : z_M l yX12_count wsX12_count { frames := 1, cells := 0, slots := 0, locals := 12 } [.ref (ad 0), .int a1] G (shM, ad, I, J, PM ad) (fun r u1 => u1 = (shM, ad, I, J, PM ad) ∧ (zt_t (zt_m I) a1.toInt r.toInt)) 0 0 := sorry
end SG60zf
