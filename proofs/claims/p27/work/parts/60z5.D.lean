section SG60z5


/-! what a text's statements are worth, the reference -/
noncomputable def zw_R (J : z_J) (j : Int) : Int := if 0 ≤ j then (J 24 j.toNat).toInt else 0
noncomputable def zw_A (J : z_J) (j : Int) : Int := if 0 ≤ j ∧ j < 7 then (J 30 j.toNat).toInt else 0
theorem zw_R_y {J : z_J} {x : Int32} {w : Int64} {j : Int} (e : w = J 24 x.toNatClampNeg) (hx : x.toInt = j) (h0 : 0 ≤ j) : w.toInt = zw_R J j := by
  unfold zw_R
  rw [if_pos h0, e, ← hx]
  rfl
theorem zw_A_y {J : z_J} {x : Int32} {w : Int64} {j : Int} (e : w = J 30 x.toNatClampNeg) (hx : x.toInt = j) (h0 : 0 ≤ j) (h6 : j ≤ 6) : w.toInt = zw_A J j := by
  unfold zw_A
  rw [if_pos ⟨h0, by omega⟩, e, ← hx]
  rfl
theorem zw_A_c {J J1 : z_J} (h : ∀ j, J1 30 j = J 30 j) : zw_A J1 = zw_A J := funext fun j => by
  unfold zw_A
  rw [h]
theorem zw_R_n {J J1 : z_J} {k : Nat} {w : Int64} {j : Int} (e : J1 = z_up J 24 k w) (hj : j ≠ (k : Int)) : zw_R J1 j = zw_R J j := by
  unfold zw_R
  by_cases q : 0 ≤ j
  · rw [if_pos q, if_pos q, e, z_up_k (by omega)]
  · rw [if_neg q, if_neg q]
theorem zw_R_s {J J1 : z_J} {k : Nat} {w : Int64} (e : J1 = z_up J 24 k w) : zw_R J1 (k : Int) = w.toInt := by
  unfold zw_R
  rw [if_pos (by omega), e, Int.toNat_natCast, z_up_s]
theorem zw_RV_b {A R : Int → Int} : ∀ (N : List zp_N) (i j : Int), zp_RV A R i N → i ≤ j → j < i + (N.length : Int) → -1000000000 ≤ R j ∧ R j ≤ 1000000000
  | [], i, j, _, h1, h2 => by
    rw [List.length_nil] at h2
    omega
  | n :: N, i, j, h, h1, h2 => by
    rw [List.length_cons] at h2
    by_cases q : j = i
    · rw [q, h.1]
      exact zp_h_b _
    · exact zw_RV_b N (i + 1) j h.2 (by omega) (by omega)
theorem zw_Q_at {I : z_I} : ∀ (N : List zp_N) (i d : Nat) (n : zp_N), zm_Q I i N → N[d]? = some n → (I 21 (i + d)).toInt = n.1 ∧ (I 22 (i + d)).toInt = n.2.1 ∧ (I 23 (i + d)).toInt = n.2.2
  | [], _, d, n, _, h => by simp at h
  | (kd, a, b) :: N, i, 0, n, hq, h => by
    have e : (kd, a, b) = n := by simpa using h
    subst e
    exact ⟨hq.1, hq.2.1, hq.2.2.1⟩
  | (kd, a, b) :: N, i, d + 1, n, hq, h => by
    have q := zw_Q_at N (i + 1) d n hq.2.2.2 (by simpa using h)
    rw [show i + 1 + d = i + (d + 1) by omega] at q
    exact q
section ZW
variable {A : Int → Int} {n : zp_N} {a b : Int}
theorem zw_v0 (h : n.1 = 0) : zp_vl A n a b = zp_h n.2.1 := by unfold zp_vl; rw [if_pos h]
theorem zw_v1 (h : n.1 = 1) : zp_vl A n a b = zp_h (A n.2.1) := by unfold zp_vl; rw [if_neg (by omega), if_pos h]
theorem zw_v2 (h : n.1 = 2) : zp_vl A n a b = zp_h (a + b) := by unfold zp_vl; rw [if_neg (by omega), if_neg (by omega), if_pos h]
theorem zw_v3 (h : n.1 = 3) : zp_vl A n a b = zp_h (a - b) := by unfold zp_vl; rw [if_neg (by omega), if_neg (by omega), if_neg (by omega), if_pos h]
theorem zw_v4 (h : n.1 = 4) : zp_vl A n a b = zp_h (a * b) := by unfold zp_vl; rw [if_neg (by omega), if_neg (by omega), if_neg (by omega), if_neg (by omega), if_pos h]
theorem zw_v5 (h : n.1 = 5) (h0 : b = 0) : zp_vl A n a b = zp_h 0 := by unfold zp_vl; rw [if_neg (by omega), if_neg (by omega), if_neg (by omega), if_neg (by omega), if_neg (by omega), if_pos h, if_pos h0]
theorem zw_v5n (h : n.1 = 5) (h0 : ¬ b = 0) : zp_vl A n a b = zp_h (a.tdiv b) := by unfold zp_vl; rw [if_neg (by omega), if_neg (by omega), if_neg (by omega), if_neg (by omega), if_neg (by omega), if_pos h, if_neg h0]
theorem zw_v6 (h : n.1 = 6) (h0 : a < b) : zp_vl A n a b = zp_h a := by unfold zp_vl; rw [if_neg (by omega), if_neg (by omega), if_neg (by omega), if_neg (by omega), if_neg (by omega), if_neg (by omega), if_pos h, if_pos h0]
theorem zw_v6n (h : n.1 = 6) (h0 : ¬ a < b) : zp_vl A n a b = zp_h b := by unfold zp_vl; rw [if_neg (by omega), if_neg (by omega), if_neg (by omega), if_neg (by omega), if_neg (by omega), if_neg (by omega), if_pos h, if_neg h0]
theorem zw_v7 (h : n.1 = 7) (h0 : b < a) : zp_vl A n a b = zp_h a := by unfold zp_vl; rw [if_neg (by omega), if_neg (by omega), if_neg (by omega), if_neg (by omega), if_neg (by omega), if_neg (by omega), if_neg (by omega), if_pos h, if_pos h0]
theorem zw_v7n (h : n.1 = 7) (h0 : ¬ b < a) : zp_vl A n a b = zp_h b := by unfold zp_vl; rw [if_neg (by omega), if_neg (by omega), if_neg (by omega), if_neg (by omega), if_neg (by omega), if_neg (by omega), if_neg (by omega), if_pos h, if_neg h0]
theorem zw_v8 (h : n.1 = 8) (h0 : a < b) : zp_vl A n a b = zp_h 1 := by unfold zp_vl; rw [if_neg (by omega), if_neg (by omega), if_neg (by omega), if_neg (by omega), if_neg (by omega), if_neg (by omega), if_neg (by omega), if_neg (by omega), if_pos h, if_pos h0]
theorem zw_v8n (h : n.1 = 8) (h0 : ¬ a < b) : zp_vl A n a b = zp_h 0 := by unfold zp_vl; rw [if_neg (by omega), if_neg (by omega), if_neg (by omega), if_neg (by omega), if_neg (by omega), if_neg (by omega), if_neg (by omega), if_neg (by omega), if_pos h, if_neg h0]
theorem zw_v9 (h : n.1 = 9) (h0 : b < a) : zp_vl A n a b = zp_h 1 := by unfold zp_vl; rw [if_neg (by omega), if_neg (by omega), if_neg (by omega), if_neg (by omega), if_neg (by omega), if_neg (by omega), if_neg (by omega), if_neg (by omega), if_neg (by omega), if_pos h, if_pos h0]
theorem zw_v9n (h : n.1 = 9) (h0 : ¬ b < a) : zp_vl A n a b = zp_h 0 := by unfold zp_vl; rw [if_neg (by omega), if_neg (by omega), if_neg (by omega), if_neg (by omega), if_neg (by omega), if_neg (by omega), if_neg (by omega), if_neg (by omega), if_neg (by omega), if_pos h, if_neg h0]
theorem zw_v10 (h : n.1 = 10) (h0 : a = b) : zp_vl A n a b = zp_h 1 := by unfold zp_vl; rw [if_neg (by omega), if_neg (by omega), if_neg (by omega), if_neg (by omega), if_neg (by omega), if_neg (by omega), if_neg (by omega), if_neg (by omega), if_neg (by omega), if_neg (by omega), if_pos h, if_pos h0]
theorem zw_v10n (h : n.1 = 10) (h0 : ¬ a = b) : zp_vl A n a b = zp_h 0 := by unfold zp_vl; rw [if_neg (by omega), if_neg (by omega), if_neg (by omega), if_neg (by omega), if_neg (by omega), if_neg (by omega), if_neg (by omega), if_neg (by omega), if_neg (by omega), if_neg (by omega), if_pos h, if_neg h0]
theorem zw_v11 (h : n.1 = 11) (h0 : a = 0) : zp_vl A n a b = zp_h 1 := by unfold zp_vl; rw [if_neg (by omega), if_neg (by omega), if_neg (by omega), if_neg (by omega), if_neg (by omega), if_neg (by omega), if_neg (by omega), if_neg (by omega), if_neg (by omega), if_neg (by omega), if_neg (by omega), if_pos h, if_pos h0]
theorem zw_v11n (h : n.1 = 11) (h0 : ¬ a = 0) : zp_vl A n a b = zp_h 0 := by unfold zp_vl; rw [if_neg (by omega), if_neg (by omega), if_neg (by omega), if_neg (by omega), if_neg (by omega), if_neg (by omega), if_neg (by omega), if_neg (by omega), if_neg (by omega), if_neg (by omega), if_neg (by omega), if_pos h, if_neg h0]
theorem zw_v12 (h : n.1 = 12) (h0 : a ≠ 0 ∧ b ≠ 0) : zp_vl A n a b = zp_h 1 := by unfold zp_vl; rw [if_neg (by omega), if_neg (by omega), if_neg (by omega), if_neg (by omega), if_neg (by omega), if_neg (by omega), if_neg (by omega), if_neg (by omega), if_neg (by omega), if_neg (by omega), if_neg (by omega), if_neg (by omega), if_pos h, if_pos h0]
theorem zw_v12n (h : n.1 = 12) (h0 : ¬ (a ≠ 0 ∧ b ≠ 0)) : zp_vl A n a b = zp_h 0 := by unfold zp_vl; rw [if_neg (by omega), if_neg (by omega), if_neg (by omega), if_neg (by omega), if_neg (by omega), if_neg (by omega), if_neg (by omega), if_neg (by omega), if_neg (by omega), if_neg (by omega), if_neg (by omega), if_neg (by omega), if_pos h, if_neg h0]
theorem zw_v13 (h : 13 ≤ n.1) (h0 : a ≠ 0 ∨ b ≠ 0) : zp_vl A n a b = zp_h 1 := by unfold zp_vl; rw [if_neg (by omega), if_neg (by omega), if_neg (by omega), if_neg (by omega), if_neg (by omega), if_neg (by omega), if_neg (by omega), if_neg (by omega), if_neg (by omega), if_neg (by omega), if_neg (by omega), if_neg (by omega), if_neg (by omega), if_pos h0]
theorem zw_v13n (h : 13 ≤ n.1) (h0 : ¬ (a ≠ 0 ∨ b ≠ 0)) : zp_vl A n a b = zp_h 0 := by unfold zp_vl; rw [if_neg (by omega), if_neg (by omega), if_neg (by omega), if_neg (by omega), if_neg (by omega), if_neg (by omega), if_neg (by omega), if_neg (by omega), if_neg (by omega), if_neg (by omega), if_neg (by omega), if_neg (by omega), if_neg (by omega), if_neg h0]
end ZW
theorem zw_nn_at : ∀ (N : List zp_N) (d : Nat) (n : zp_N), zv_nn N → N[d]? = some n → 0 ≤ n.1
  | [], d, n, _, h => by simp at h
  | x :: N, 0, n, hn, h => by
    have e : x = n := by simpa using h
    rw [← e]
    exact hn.1
  | x :: N, d + 1, n, hn, h => zw_nn_at N d n hn.2 (by simpa using h)
/-- the first d nodes are reckoned -/
noncomputable def zw_B (J J1 : z_J) (F0 : Nat) (NN : List zp_N) (i : Int) : Prop := ∃ d : Nat, i = (F0 : Int) + (d : Int) ∧ d ≤ NN.length ∧ zp_RV (zw_A J) (zw_R J1) F0 (NN.take d) ∧ ∀ j, J1 30 j = J 30 j
theorem zw_B_0 {J J1 : z_J} {F0 : Nat} {NN : List zp_N} {i : Int} (hi : i = (F0 : Int)) (hc : ∀ j, J1 30 j = J 30 j) : zw_B J J1 F0 NN i := ⟨0, by rw [hi]; simp, Nat.zero_le _, trivial, hc⟩
theorem zw_B_s {J J1 J2 : z_J} {F0 k d : Nat} {NN : List zp_N} {i : Int} {n : zp_N} {w : Int64} (ho : zv_od F0 F0 NN) (hn : zv_nn NN) (hN : NN[d]? = some n) (h : zp_RV (zw_A J) (zw_R J1) F0 (NN.take d)) (hc : ∀ j, J1 30 j = J 30 j) (e : J2 = z_up J1 24 k w) (hk : k = F0 + d) (hv : w.toInt = zp_vl (zw_A J) n (zw_R J1 n.2.1) (zw_R J1 n.2.2)) (hi : i = (F0 : Int) + (d : Int) + 1) : zw_B J J2 F0 NN i := by
  have hd : d < NN.length := by
    rcases Nat.lt_or_ge d NN.length with q | q
    · exact q
    · rw [List.getElem?_eq_none q] at hN
      cases hN
  have hkk : (k : Int) = (F0 : Int) + (d : Int) := by omega
  refine ⟨d + 1, by omega, by omega, zv_RV_st ho hn hN h (fun j hj => zw_R_n e (by omega)) ?_, fun j => ?_⟩
  · rw [← hkk, zw_R_s e]
    exact hv
  · rw [e, z_up_n (by decide)]
    exact hc j
theorem zw_in0 {i : Int} : zv_in i i [] := fun q hq => absurd hq (by simp)
theorem zw_od {K : z_I} {F0 i : Nat} {s : zp_T} {sg1 sg2 : List zp_N} (h : zm_rw K F0 i s sg1 sg2) (hs : 302 ≤ s.1 → s.2.2.1 = []) : zv_od F0 F0 (sg1 ++ sg2) ∧ zv_nn (sg1 ++ sg2) := by
  obtain ⟨r1, r2, r3, r4, m1, m2, e1, e2, e3⟩ := h
  have a1 : zv_od F0 F0 sg1 ∧ zv_nn sg1 := by
    by_cases q : s.1 ≤ 301
    · obtain ⟨t, ht⟩ := e1 q
      exact ⟨zv_sy_od _ _ _ _ ht (Int.le_refl _) zw_in0, zv_sy_nn _ _ _ _ ht⟩
    · have e := List.map_eq_nil_iff.mp (m1.trans (hs (by omega)))
      subst e
      exact ⟨trivial, trivial⟩
  have a2 : zv_od ((F0 : Int) + (sg1.length : Int)) ((F0 : Int) + (sg1.length : Int)) sg2 ∧ zv_nn sg2 := by
    by_cases q : s.2.2.2 = []
    · have e := List.map_eq_nil_iff.mp (m2.trans q)
      subst e
      exact ⟨trivial, trivial⟩
    · have ht := e3 q
      exact ⟨zv_sy_od _ _ _ _ ht (Int.le_refl _) zw_in0, zv_sy_nn _ _ _ _ ht⟩
  exact ⟨zv_od_ap _ _ _ a1.1 (zv_od_w (by omega) _ _ a2.1), zv_nn_ap _ _ a1.2 a2.2⟩
/-- where its COND's worth lies, and what it is -/
theorem zw_co {K : z_I} {A R : Int → Int} {F0 i : Nat} {s : zp_T} {sg1 sg2 : List zp_N} {x : Int32} (h : zm_rw K F0 i s sg1 sg2) (hA : zv_bA A) (hR : zp_RV A R F0 (sg1 ++ sg2)) (hx : x = K 18 i) : (s.2.2.2 = [] ∧ x.toInt < 0) ∨ (s.2.2.2 ≠ [] ∧ 0 ≤ x.toInt ∧ zv_e A s.2.2.2 = R x.toInt) := by
  obtain ⟨r1, r2, r3, r4, m1, m2, e1, e2, e3⟩ := h
  subst hx
  by_cases q : s.2.2.2 = []
  · have := e2 q
    exact Or.inl ⟨q, by omega⟩
  · have ht := e3 q
    have h0 := zv_sy_in (i0 := 0) _ _ _ _ ht (by omega) (fun q hq => absurd hq (by simp)) _ (List.mem_cons_self ..)
    have h0 : 0 ≤ (K 18 i).toInt ∧ _ := h0
    refine Or.inr ⟨q, h0.1, ?_⟩
    rw [← m2]
    exact zv_e_R hA ht (zv_RV_ap _ _ _ hR).2
theorem zw_ex {K : z_I} {A R : Int → Int} {F0 i : Nat} {s : zp_T} {sg1 sg2 : List zp_N} {x : Int32} (h : zm_rw K F0 i s sg1 sg2) (hA : zv_bA A) (hR : zp_RV A R F0 (sg1 ++ sg2)) (hx : x = K 17 i) (h1 : s.1 ≤ 301) : 0 ≤ x.toInt ∧ zv_e A s.2.2.1 = R x.toInt := by
  obtain ⟨r1, r2, r3, r4, m1, m2, e1, e2, e3⟩ := h
  subst hx
  obtain ⟨t, ht⟩ := e1 h1
  have h0 := zv_sy_in (i0 := 0) _ _ _ _ ht (by omega) (fun q hq => absurd hq (by simp)) _ (List.mem_cons_self ..)
  have h0 : 0 ≤ (K 17 i).toInt ∧ _ := h0
  refine ⟨h0.1, ?_⟩
  rw [← m1]
  exact zv_e_R hA ht (zv_RV_ap _ _ _ hR).1
/-- the rows of a text: from statement st on, nodes from F0 on -/
noncomputable def zw_T (K : z_I) (t F0 : Nat) (RS : List zm_row) : Prop := 0 ≤ (K 11 t).toInt ∧ (K 12 t).toInt = (RS.length : Int) ∧ zm_RS K (K 11 t).toNatClampNeg F0 RS ∧ zm_Q K F0 (zm_fl RS) ∧ ∀ (j : Nat) (s : zp_T), (RS.map Prod.fst)[j]? = some s → 302 ≤ s.1 → s.2.2.1 = []
theorem zw_T_c {I K : z_I} {t F0 : Nat} {RS : List zm_row} (h : zw_T I t F0 RS) (h1 : ∀ j, K 11 j = I 11 j ∧ K 12 j = I 12 j) (h2 : ∀ j, zm_q6 K I j) (h3 : ∀ j, K 21 j = I 21 j ∧ K 22 j = I 22 j ∧ K 23 j = I 23 j) : zw_T K t F0 RS := by
  obtain ⟨a1, a2, a3, a4, a5⟩ := h
  refine ⟨by rw [(h1 t).1]; exact a1, by rw [(h1 t).2]; exact a2, ?_, zm_Q_c _ _ (fun j _ _ => h3 j) a4, a5⟩
  rw [(h1 t).1]
  exact zm_RS_c _ _ _ (fun j _ _ => h2 j) a3
theorem zw_row {K : z_I} : ∀ (rs : List zm_row) (st F0 i : Nat) (s : zp_T), zm_RS K st F0 rs → zm_Q K F0 (zm_fl rs) → (rs.map Prod.fst)[i]? = some s → ∃ (F1 : Nat) (a b : List zp_N), zm_rw K F1 (st + i) s a b ∧ zm_Q K F1 (a ++ b)
  | [], _, _, i, s, _, _, h => by simp at h
  | (s1, a, b) :: rs, st, F0, 0, s, h, hq, e => by
    have e : s1 = s := by simpa using e
    subst e
    have hq : zm_Q K F0 (a ++ (b ++ zm_fl rs)) := hq
    rw [← List.append_assoc] at hq
    exact ⟨F0, a, b, h.1, ((zm_Q_ap _ _ _).mp hq).1⟩
  | (s1, a, b) :: rs, st, F0, i + 1, s, h, hq, e => by
    have hq : zm_Q K F0 (a ++ (b ++ zm_fl rs)) := hq
    have hq2 := ((zm_Q_ap _ _ _).mp ((zm_Q_ap _ _ _).mp hq).2).2
    obtain ⟨F1, a1, b1, q1, q2⟩ := zw_row rs (st + 1) (F0 + a.length + b.length) i s h.2 hq2 (by simpa using e)
    rw [show st + 1 + i = st + (i + 1) by omega] at q1
    exact ⟨F1, a1, b1, q1, q2⟩
/-- what holds() tells -/
noncomputable def zw_H (J J1 : z_J) (s : zp_T) (F0 : Nat) (N : List zp_N) (r : Int32) : Prop := ((r = 1 ∧ zv_c (zw_A J) s.2.2.2 = true) ∨ (r = 0 ∧ zv_c (zw_A J) s.2.2.2 = false)) ∧ zp_RV (zw_A J) (zw_R J1) F0 N ∧ ∀ j, J1 30 j = J 30 j
noncomputable def zw_AU (I : z_I) (h : Int32) (m kn : Int) : Int → Int := zv_A (z_kmr I h.toInt (30 * m) kn (I 0 2).toNatClampNeg) (I 1 h.toNatClampNeg).toInt (I 2 h.toNatClampNeg).toInt m 0 0 0
noncomputable def zw_W (I : z_I) (FF : Nat → Nat) (RS : Nat → List zm_row) : Prop := (∀ t : Nat, (t : Int) < (I 0 13).toInt → zw_T I t (FF t) (RS t)) ∧ (∀ h d kn : Int, 0 ≤ z_kmr I h d kn (I 0 2).toNatClampNeg ∧ z_kmr I h d kn (I 0 2).toNatClampNeg ≤ 4) ∧ ∀ j : Nat, (j : Int) < (I 0 1).toInt → (1 ≤ (I 1 j).toInt ∧ (I 1 j).toInt ≤ 9) ∧ 0 ≤ (I 2 j).toInt ∧ (I 2 j).toInt ≤ 9
noncomputable def zw_UX (I : z_I) (RS : Nat → List zm_row) (h : Int32) (m kn r : Int) : Prop := zi_R (zi_km I) (zi_kt I) m kn (I 0 13).toNatClampNeg 0 (fun q => zv_un (zw_AU I h m kn) ((RS q).map Prod.fst)) r
theorem zw_A_A {J : z_J} {a0 a1 a2 a3 a4 a5 a6 : Int} (h0 : (J 30 0).toInt = a0) (h1 : (J 30 1).toInt = a1) (h2 : (J 30 2).toInt = a2) (h3 : (J 30 3).toInt = a3) (h4 : (J 30 4).toInt = a4) (h5 : (J 30 5).toInt = a5) (h6 : (J 30 6).toInt = a6) : zw_A J = zv_A a0 a1 a2 a3 a4 a5 a6 := funext fun j => by
  by_cases q : 0 ≤ j ∧ j < 7
  · have hj : j = 0 ∨ j = 1 ∨ j = 2 ∨ j = 3 ∨ j = 4 ∨ j = 5 ∨ j = 6 := by omega
    unfold zw_A
    rw [if_pos q]
    rcases hj with rfl | rfl | rfl | rfl | rfl | rfl | rfl
    · exact h0
    · exact h1
    · exact h2
    · exact h3
    · exact h4
    · exact h5
    · exact h6
  · unfold zw_A zv_A
    rw [if_neg q, if_neg (by omega), if_neg (by omega), if_neg (by omega), if_neg (by omega), if_neg (by omega), if_neg (by omega), if_neg (by omega)]
theorem zw_cJ {J J1 : z_J} {cs : List Int} {b : Bool} (e : zw_A J1 = zw_A J) (h : zv_c (zw_A J1) cs = b) : zv_c (zw_A J) cs = b := by
  rw [← e]
  exact h
theorem zw_k {v r : Int} (h : (v < 0 ∧ r = 0) ∨ (99 < v ∧ r = 99) ∨ (0 ≤ v ∧ v ≤ 99 ∧ r = v)) : r = zv_k v := by
  unfold zv_k
  split
  · omega
  · split <;> omega
/-- both sides give the same UNITS -/
theorem z_OW_ch {c : z_C} {I K : z_I} (h : z_OW c I K) : ∃ (RS : Nat → List zm_row) (FF : Nat → Nat), ∀ k, k < c.2.1 → zw_T K k (FF k) (RS k) ∧ zv_ss c I k ((RS k).map Prod.fst) ∧ zi_mo I k = zi_km K k ∧ zi_td I k = zi_kt K k ∧ 0 ≤ zi_mo I k := by
  have cb : ∀ (n : zp_N) (i : Int) (st s1 : zp_Y), zp_y1 i n st = some s1 → zp_en n ≤ 999999 := fun n i st s1 h => by
    obtain ⟨kd, a, b⟩ := n
    unfold zp_y1 at h
    by_cases q1 : (kd = 0 ∧ 0 ≤ a ∧ a ≤ 999999) ∨ (kd = 1 ∧ 0 ≤ a ∧ a ≤ 6)
    · rcases q1 with ⟨q, q2, q3⟩ | ⟨q, q2, q3⟩
      · subst q
        exact q3
      · subst q
        show -20 - a ≤ 999999
        omega
    · rw [if_neg q1] at h
      by_cases q2 : kd = 11
      · subst q2
        show (-12 : Int) ≤ 999999
        decide
      · rw [if_neg q2] at h
        match st, h with
        | (y, t2) :: (x, t1) :: r, h =>
          have h : (if a = x ∧ b = y ∧ 2 ≤ kd ∧ kd ≤ 13 ∧ (kd < 12 ∨ (t1 = true ∧ t2 = true)) then some ((i, decide (8 ≤ kd)) :: r) else none) = some s1 := h
          by_cases q3 : a = x ∧ b = y ∧ 2 ≤ kd ∧ kd ≤ 13 ∧ (kd < 12 ∨ (t1 = true ∧ t2 = true))
          · have := zp_en_b (n := (kd, a, b)) q3.2.2.1 q3.2.2.2.1 q2
            omega
          · rw [if_neg q3] at h
            cases h
  have cs : ∀ (N : List zp_N) (i : Int) (st s1 : zp_Y), zp_sy i N st = some s1 → zv_cb (N.map zp_en) := by
    intro N
    induction N with
    | nil => intro i st s1 _ c hc; simp at hc
    | cons n N ih =>
      intro i st s1 h
      have h : (zp_y1 i n st).bind (fun s1 => zp_sy (i + 1) N s1) = some s1 := h
      cases h1 : zp_y1 i n st with
      | none =>
        rw [h1] at h
        cases h
      | some s2 =>
        rw [h1] at h
        have h : zp_sy (i + 1) N s2 = some s1 := h
        intro c hc
        rw [List.map_cons] at hc
        rcases List.mem_cons.mp hc with e | e
        · rw [e]
          exact cb n i st s2 h1
        · exact ih (i + 1) s2 s1 h c e
  have one : ∀ k, ∃ p : List zm_row × Nat, k < c.2.1 → zw_T K k p.2 p.1 ∧ zv_ss c I k (p.1.map Prod.fst) ∧ zi_mo I k = zi_km K k ∧ zi_td I k = zi_kt K k ∧ 0 ≤ zi_mo I k := fun k => by
    by_cases hk : k < c.2.1
    · obtain ⟨rs, F0, h1, h2, h3, h4, h5, h6, h7, h8, h9, h10, h11⟩ := h k hk
      refine ⟨(rs, F0), fun _ => ⟨⟨h4, h5, h9, h10, fun j s hj => (h11 j s hj).2.1⟩, ⟨by rw [List.length_map]; exact h6.symm, fun j s hj => (h11 j s hj).1, fun j s hj => ?_⟩, h1, h3, h2⟩⟩
      obtain ⟨F1, a, b, q1, q2⟩ := zw_row rs _ _ j s h9 h10 hj
      obtain ⟨r1, r2, r3, r4, m1, m2, e1, e2, e3⟩ := q1
      refine ⟨?_, ?_⟩
      · by_cases q : s.1 ≤ 301
        · obtain ⟨t, ht⟩ := e1 q
          rw [← m1]
          exact cs _ _ _ _ ht
        · rw [(h11 j s hj).2.1 (by omega)]
          intro c hc
          simp at hc
      · by_cases q : s.2.2.2 = []
        · rw [q]
          intro c hc
          simp at hc
        · rw [← m2]
          exact cs _ _ _ _ (e3 q)
    · exact ⟨([], 0), fun z => absurd z hk⟩
  obtain ⟨f, hf⟩ := Classical.axiomOfChoice one
  exact ⟨fun k => (f k).1, fun k => (f k).2, hf⟩
set_option maxHeartbeats 8000000 in
set_option maxRecDepth 100000 in
theorem sx_X12_held_x (l : Launch) (G : z_G) (ad : Nat → Nat) (I : z_I) (J : z_J) (a1 : Int64) : z_Ml l yX12_held wsX12_held { frames := 1, cells := 0, slots := 0, locals := 12 } [.long a1] G (shM, ad, I, J, PM ad) (fun r u1 => u1 = (shM, ad, I, J, PM ad) ∧ (r.toInt = zp_h a1.toInt)) 0 0 := by
  intro sz
  refine z_headQ (cc := cX12_held) (maxL := 2) (ret := (some .long)) (by decide) rfl (Nat.le_of_ble_eq_true rfl) ?_
  intro p e s m below meth c0 ls hIn hK hsz hW hl
  obtain ⟨hx, hb, hr, hml, hown, hts, hlocks, hname⟩ := hIn
  subst hsz
  have hown : s.vm.findClass RX12 = some m.cls := hown
  have hA : ∀ q : Nat, s.heap.size ≤ q → z_A (shM, ad, I, J, PM ad) s.heap.size q := fun q h => Or.inr h
  generalize hAe : z_A (shM, ad, I, J, PM ad) s.heap.size = A at *
  have hS : va_S A s.heap s.heap [] := va_S.rf
  have hl : lv_has ls 2 [(0, .long a1)] := hl
  refine lv_lload_n hx hb dX12_held_0 rfl (lv_at hl 0 rfl) ?_
  refine lv_ldc2 (v := 1000000000) hx hb hown (hts (.constantLong RX12 423 (1000000000)) (me_s (List.mem_of_getElem? (i := 0) rfl))) dX12_held_1 ?_
  refine W.lcmp hx hb dX12_held_4 ?_
  refine lv_topi (fun x1 ex1 => ?_)
  have tx1 := z_tcmp ex1
  have h2 := z_tlcmp ex1 rfl (show (1000000000 : Int64).toInt = 1000000000 by decide)
  refine lv_if_le (tgt := 14) hx hb dX12_held_5 (by decide) (fun c3 => ?_) (fun c3 => ?_)
  · have g4 := z_f_le rfl z_l0 c3
    refine lv_lload_n hx hb dX12_held_14 rfl (lv_at hl 0 rfl) ?_
    refine lv_ldc2 (v := (-1000000000)) hx hb hown (hts (.constantLong RX12 425 (-1000000000)) (me_s (List.mem_of_getElem? (i := 1) rfl))) dX12_held_15 ?_
    refine W.lcmp hx hb dX12_held_18 ?_
    refine lv_topi (fun x5 ex5 => ?_)
    have tx5 := z_tcmp ex5
    have h6 := z_tlcmp ex5 rfl (show ((-1000000000) : Int64).toInt = (-1000000000) by decide)
    refine lv_if_ge (tgt := 28) hx hb dX12_held_19 (by decide) (fun c7 => ?_) (fun c7 => ?_)
    · have g8 := z_f_ge rfl z_l0 c7
      refine lv_lload_n hx hb dX12_held_28 rfl (lv_at hl 0 rfl) ?_
      exact z_lret hx hb hr hK hS (Nat.le_of_ble_eq_true rfl) (Nat.le_of_ble_eq_true rfl) hlocks dX12_held_29 (shM, ad, I, J, PM ad) hW ⟨rfl, (by unfold zp_h; split; (· omega); (· split <;> omega))⟩
    · have g9 := z_f_nge rfl z_l0 c7
      refine lv_ldc2 (v := (-1000000000)) hx hb hown (hts (.constantLong RX12 425 (-1000000000)) (me_s (List.mem_of_getElem? (i := 1) rfl))) dX12_held_22 ?_
      refine lv_goto (tgt := 29) hx hb dX12_held_25 (by decide) ?_
      exact z_lret hx hb hr hK hS (Nat.le_of_ble_eq_true rfl) (Nat.le_of_ble_eq_true rfl) hlocks dX12_held_29 (shM, ad, I, J, PM ad) hW ⟨rfl, (by have q9 := (show ((-1000000000) : Int64).toInt = (-1000000000) by decide); unfold zp_h; split; (· omega); (· split <;> omega))⟩
  · have g10 := z_f_nle rfl z_l0 c3
    refine lv_ldc2 (v := 1000000000) hx hb hown (hts (.constantLong RX12 423 (1000000000)) (me_s (List.mem_of_getElem? (i := 0) rfl))) dX12_held_8 ?_
    refine lv_goto (tgt := 29) hx hb dX12_held_11 (by decide) ?_
    exact z_lret hx hb hr hK hS (Nat.le_of_ble_eq_true rfl) (Nat.le_of_ble_eq_true rfl) hlocks dX12_held_29 (shM, ad, I, J, PM ad) hW ⟨rfl, (by have q9 := (show (1000000000 : Int64).toInt = 1000000000 by decide); unfold zp_h; split; (· omega); (· split <;> omega))⟩
noncomputable def L_X12_works_x : z_L := [(24, 999)]
set_option maxHeartbeats 8000000 in
set_option maxRecDepth 100000 in
theorem sx_X12_works_x (l : Launch) (G : z_G) (ad : Nat → Nat) (I : z_I) (J : z_J) (hNd : z_Nd I) (hAsf : z_rg 19 0 6200 I) (hAst : z_rg 20 0 6200 I) (F0 : Nat) (NN : List zp_N) (a1 : Int32) (q1 : 0 ≤ a1.toInt ∧ a1.toInt ≤ 319) (hF : (I 19 a1.toNatClampNeg).toInt = (F0 : Int)) (hT : (I 20 a1.toNatClampNeg).toInt = (F0 : Int) + (NN.length : Int)) (hQ : zm_Q I F0 NN) (hod : zv_od F0 F0 NN) (hnn : zv_nn NN) (hbA : zv_bA (zw_A J)) : z_Mv l yX12_works wsX12_works { frames := 2, cells := 0, slots := 0, locals := 33 } [.ref (ad 0), .int a1] G (shM, ad, I, J, PM ad) (fun u1 => ∃ (I1 : z_I) (J1 : z_J), u1 = (shM, ad, I1, J1, PM ad) ∧ z_Nd I1 ∧ z_rg 19 0 6200 I1 ∧ z_rg 20 0 6200 I1 ∧ z_fr L_X12_works_x I1 I ∧ zp_RV (zw_A J) (zw_R J1) F0 NN ∧ ∀ j, J1 30 j = J 30 j) 0 0 := sorry
noncomputable def L_X12_holds_x : z_L := [(24, 999)]
set_option maxHeartbeats 8000000 in
set_option maxRecDepth 100000 in
theorem sx_X12_holds_x (l : Launch) (G : z_G) (ad : Nat → Nat) (I : z_I) (J : z_J) (hNd : z_Nd I) (hAsf : z_rg 19 0 6200 I) (hAst : z_rg 20 0 6200 I) (hAsc : z_rg 18 (-1) 6199 I) (s : zp_T) (F0 : Nat) (sg1 sg2 : List zp_N) (a1 : Int32) (q1 : 0 ≤ a1.toInt ∧ a1.toInt ≤ 319) (hrw : zm_rw I F0 a1.toNatClampNeg s sg1 sg2) (hQ : zm_Q I F0 (sg1 ++ sg2)) (hs1 : 302 ≤ s.1 → s.2.2.1 = []) (hbA : zv_bA (zw_A J)) : z_M l yX12_holds wsX12_holds { frames := 3, cells := 0, slots := 0, locals := 62 } [.ref (ad 0), .int a1] G (shM, ad, I, J, PM ad) (fun r u1 => ∃ (I1 : z_I) (J1 : z_J), u1 = (shM, ad, I1, J1, PM ad) ∧ z_Nd I1 ∧ z_rg 19 0 6200 I1 ∧ z_rg 20 0 6200 I1 ∧ z_rg 18 (-1) 6199 I1 ∧ z_fr L_X12_holds_x I1 I ∧ zw_H J J1 s F0 (sg1 ++ sg2) r) 0 0 := by
  intro sz
  refine z_headQ (cc := cX12_holds) (maxL := 2) (ret := (some .boolean)) (by decide) rfl (Nat.le_of_ble_eq_true rfl) ?_
  intro p e s m below meth c0 ls hIn hK hsz hW hl
  obtain ⟨hx, hb, hr, hml, hown, hts, hlocks, hname⟩ := hIn
  subst hsz
  have hown : s.vm.findClass RX12 = some m.cls := hown
  have hA : ∀ q : Nat, s.heap.size ≤ q → z_A (shM, ad, I, J, PM ad) s.heap.size q := fun q h => Or.inr h
  generalize hAe : z_A (shM, ad, I, J, PM ad) s.heap.size = A at *
  have hS : va_S A s.heap s.heap [] := va_S.rf
  have hl : lv_has ls 2 [(0, .ref (ad 0)), (1, .int a1)] := hl
  refine lv_aload_n hx hb dX12_holds_0 rfl (lv_at hl 0 rfl) ?_
  refine lv_iload_n hx hb dX12_holds_1 rfl (lv_at hl 1 rfl) ?_
  refine z_cv hW hS hA (va_runV (As := [.int a1]) (rest := []) ⟨hx, hb, hml, hown, hts⟩ (sx_X12_works_x l G ad I J hNd hAsf hAst F0 (sg1 ++ sg2) a1 (by omega) hrw.2.2.1 (by rw [List.length_append]; have := hrw.2.2.2.1; omega) hQ (zw_od hrw hs1).1 (zw_od hrw hs1).2 hbA _) (cwV 1 hts gX12_holds_X12_works rfl rfl rfl (by decide +kernel) ⟨Nat.le_of_ble_eq_true rfl, Nat.le_of_ble_eq_true rfl⟩) (z_preV (i := 0) hK hW rfl rfl) rfl rfl hl.1 rfl (lv_room (Nat.le_of_ble_eq_true rfl)) dX12_holds_2 ⟨Nat.le_of_ble_eq_true rfl, Nat.le_of_ble_eq_true rfl⟩) (fun u1 H locs hp hW hS => ?_)
  obtain ⟨I1, J3, e9, hI1Nd, hI1Asf, hI1Ast, fI1, hp⟩ := hp
  rw [e9] at hW
  have f2 := z_fr_sub (L := L_X12_holds_x) z_fr_0 fI1 (by decide)
  have hw4 := hp
  refine lv_aload_n hx hb dX12_holds_5 rfl (lv_at hl 0 rfl) ?_
  refine z_get (T := TX12) (N := 96) (ci := 12) (i := 0) (v := .ref (ad 18)) hx hb hts zj_X12_holds_X12 hown hK hW rfl rfl 23 (by decide) (hts (.fieldLink RX12 61 "PetrolBoardModel" "stCond" "[I") (me_s (me_l (List.mem_of_getElem? (i := 0) rfl)))) (fun _ h => h) rfl dX12_holds_6 ?_
  refine lv_iload_n hx hb dX12_holds_9 rfl (lv_at hl 1 rfl) ?_
  refine z_iald (i := 18) hx hb hK hW rfl (z_ix rfl (by omega) (by omega)) dX12_holds_10 ?_
  refine lv_topi (fun x5 ex5 => ?_)
  have h6 : (-1) ≤ x5.toInt ∧ x5.toInt ≤ 6199 := by rw [ex5]; exact (z_rg_fr hAsc fI1 (by decide)) _
  have hx7 : x5 = I 18 a1.toNatClampNeg := by rw [ex5, f2 18 _ (z_wr_c (by decide))]
  have hco8 := zw_co hrw hbA hw4.1 hx7
  refine lv_if_lt (tgt := 30) hx hb dX12_holds_11 (by decide) (fun c9 => ?_) (fun c9 => ?_)
  · have g10 := z_f_lt rfl z_l0 c9
    refine lv_iconst (v := 1) hx hb dX12_holds_30 (by decide) ?_
    refine lv_goto (tgt := 35) hx hb dX12_holds_31 (by decide) ?_
    exact z_zret hx hb hr (by decide) hK hS (Nat.le_of_ble_eq_true rfl) (Nat.le_of_ble_eq_true rfl) hlocks dX12_holds_35 (shM, ad, I1, J3, PM ad) hW ⟨I1, J3, rfl, hI1Nd, hI1Asf, hI1Ast, (z_rg_fr hAsc fI1 (by decide)), f2, ⟨Or.inl ⟨rfl, (by rcases hco8 with ⟨z1, z2⟩ | ⟨z1, z2, z3⟩; (· exact zv_c_e z1); (· exfalso; omega))⟩, hw4.1, hw4.2⟩⟩
  · have g11 := z_f_nlt rfl z_l0 c9
    refine lv_aload_n hx hb dX12_holds_14 rfl (lv_at hl 0 rfl) ?_
    refine z_get (T := TX12) (N := 96) (ci := 12) (i := 0) (v := .ref (ad 24)) hx hb hts zj_X12_holds_X12 hown hK hW rfl rfl 29 (by decide) (hts (.fieldLink RX12 79 "PetrolBoardModel" "result" "[J") (me_s (me_l (List.mem_of_getElem? (i := 1) rfl)))) (fun _ h => h) rfl dX12_holds_15 ?_
    refine lv_aload_n hx hb dX12_holds_18 rfl (lv_at hl 0 rfl) ?_
    refine z_get (T := TX12) (N := 96) (ci := 12) (i := 0) (v := .ref (ad 18)) hx hb hts zj_X12_holds_X12 hown hK hW rfl rfl 23 (by decide) (hts (.fieldLink RX12 61 "PetrolBoardModel" "stCond" "[I") (me_s (me_l (List.mem_of_getElem? (i := 0) rfl)))) (fun _ h => h) rfl dX12_holds_19 ?_
    refine lv_iload_n hx hb dX12_holds_22 rfl (lv_at hl 1 rfl) ?_
    refine z_iald (i := 18) hx hb hK hW rfl (z_ix rfl (by omega) (by omega)) dX12_holds_23 ?_
    refine z_topi (v := x5) ex5.symm ?_
    refine z_lald (i := 24) hx hb hK hW rfl (z_ix rfl (by omega) (by omega)) dX12_holds_24 ?_
    refine lv_topl (fun w12 ew12 => ?_)
    have tw12 := zw_R_y (j := x5.toInt) ew12 rfl (by omega)
    refine lv_lconst (v := 0) hx hb dX12_holds_25 (by decide) ?_
    refine W.lcmp hx hb dX12_holds_26 ?_
    refine lv_topi (fun x13 ex13 => ?_)
    have tx13 := z_tcmp ex13
    have h14 := z_tlcmp ex13 tw12 (show (0 : Int64).toInt = 0 by decide)
    refine lv_if_eq (tgt := 34) hx hb dX12_holds_27 (by decide) (fun c15 => ?_) (fun c15 => ?_)
    · have g16 := z_f_eq rfl z_l0 c15
      refine lv_iconst (v := 0) hx hb dX12_holds_34 (by decide) ?_
      exact z_zret hx hb hr (by decide) hK hS (Nat.le_of_ble_eq_true rfl) (Nat.le_of_ble_eq_true rfl) hlocks dX12_holds_35 (shM, ad, I1, J3, PM ad) hW ⟨I1, J3, rfl, hI1Nd, hI1Asf, hI1Ast, (z_rg_fr hAsc fI1 (by decide)), f2, ⟨Or.inr ⟨rfl, (by rcases hco8 with ⟨z1, z2⟩ | ⟨z1, z2, z3⟩; (· exfalso; omega); (· exact zv_c_n z1 (by rw [z3]; omega)))⟩, hw4.1, hw4.2⟩⟩
    · have g17 := z_f_ne rfl z_l0 c15
      refine lv_iconst (v := 1) hx hb dX12_holds_30 (by decide) ?_
      refine lv_goto (tgt := 35) hx hb dX12_holds_31 (by decide) ?_
      exact z_zret hx hb hr (by decide) hK hS (Nat.le_of_ble_eq_true rfl) (Nat.le_of_ble_eq_true rfl) hlocks dX12_holds_35 (shM, ad, I1, J3, PM ad) hW ⟨I1, J3, rfl, hI1Nd, hI1Asf, hI1Ast, (z_rg_fr hAsc fI1 (by decide)), f2, ⟨Or.inl ⟨rfl, (by rcases hco8 with ⟨z1, z2⟩ | ⟨z1, z2, z3⟩; (· exact zv_c_e z1); (· exact zv_c_y (by rw [z3]; omega)))⟩, hw4.1, hw4.2⟩⟩
noncomputable def L_X12_first_x : z_L := [(24, 999)]
set_option maxHeartbeats 8000000 in
set_option maxRecDepth 100000 in
theorem sx_X12_first_x (l : Launch) (G : z_G) (ad : Nat → Nat) (I : z_I) (J : z_J) (hmb : z_imb I) (hAtf : z_rg 11 0 288 I) (hAtm : z_rg 12 0 24 I) (hNd : z_Nd I) (hAsf : z_rg 19 0 6200 I) (hAst : z_rg 20 0 6200 I) (hAsc : z_rg 18 (-1) 6199 I) (hEx : z_Ex I) (RS : List zm_row) (F0 : Nat) (a1 : Int32) (a2 : Int32) (q1 : -1 ≤ a1.toInt ∧ a1.toInt ≤ 11) (q2 : 0 ≤ a2.toInt ∧ a2.toInt ≤ 1) (hT : 0 ≤ a1.toInt → zw_T I a1.toNatClampNeg F0 RS) (hbA : zv_bA (zw_A J)) : z_M l yX12_first wsX12_first { frames := 4, cells := 0, slots := 0, locals := 83 } [.ref (ad 0), .int a1, .int a2] G (shM, ad, I, J, PM ad) (fun r u1 => ∃ (I1 : z_I) (J1 : z_J), u1 = (shM, ad, I1, J1, PM ad) ∧ z_imb I1 ∧ z_rg 11 0 288 I1 ∧ z_rg 12 0 24 I1 ∧ z_Nd I1 ∧ z_rg 19 0 6200 I1 ∧ z_rg 20 0 6200 I1 ∧ z_rg 18 (-1) 6199 I1 ∧ z_Ex I1 ∧ z_fr L_X12_first_x I1 I ∧ ((a1.toInt < 0 → r.toInt = 0) ∧ (0 ≤ a1.toInt → r.toInt = zv_fi (zw_A J) (300 + a2.toInt) (RS.map Prod.fst)) ∧ ∀ j, J1 30 j = J 30 j)) 0 0 := sorry
noncomputable def L_X12_asked_x : z_L := [(30, 999)]
set_option maxHeartbeats 8000000 in
set_option maxRecDepth 100000 in
theorem sx_X12_asked_x (l : Launch) (G : z_G) (ad : Nat → Nat) (I : z_I) (J : z_J) (a1 : Int32) (a2 : Int32) (a3 : Int32) (a4 : Int32) (a5 : Int32) (a6 : Int32) (q1 : 0 ≤ a1.toInt ∧ a1.toInt ≤ 29) : z_Mv l yX12_asked wsX12_asked { frames := 1, cells := 0, slots := 0, locals := 12 } [.ref (ad 0), .int a1, .int a2, .int a3, .int a4, .int a5, .int a6] G (shM, ad, I, J, PM ad) (fun u1 => ∃ (I1 : z_I) (J1 : z_J), u1 = (shM, ad, I1, J1, PM ad) ∧ z_fr L_X12_asked_x I1 I ∧ zw_A J1 = zv_A a2.toInt (I 1 a1.toNatClampNeg).toInt (I 2 a1.toNatClampNeg).toInt a3.toInt a4.toInt a5.toInt a6.toInt) 0 0 := by
  intro sz
  refine z_headQ (cc := cX12_asked) (maxL := 7) (ret := none) (by decide) rfl (Nat.le_of_ble_eq_true rfl) ?_
  intro p e s m below meth c0 ls hIn hK hsz hW hl
  obtain ⟨hx, hb, hr, hml, hown, hts, hlocks, hname⟩ := hIn
  subst hsz
  have hown : s.vm.findClass RX12 = some m.cls := hown
  have hA : ∀ q : Nat, s.heap.size ≤ q → z_A (shM, ad, I, J, PM ad) s.heap.size q := fun q h => Or.inr h
  generalize hAe : z_A (shM, ad, I, J, PM ad) s.heap.size = A at *
  have hS : va_S A s.heap s.heap [] := va_S.rf
  have hl : lv_has ls 7 [(0, .ref (ad 0)), (1, .int a1), (2, .int a2), (3, .int a3), (4, .int a4), (5, .int a5), (6, .int a6)] := hl
  refine lv_aload_n hx hb dX12_asked_0 rfl (lv_at hl 0 rfl) ?_
  refine z_get (T := TX12) (N := 96) (ci := 12) (i := 0) (v := .ref (ad 30)) hx hb hts zj_X12_asked_X12 hown hK hW rfl rfl 48 (by decide) (hts (.fieldLink RX12 103 "PetrolBoardModel" "asks" "[J") (me_s (me_l (List.mem_of_getElem? (i := 0) rfl)))) (fun _ h => h) rfl dX12_asked_1 ?_
  refine lv_iconst (v := 0) hx hb dX12_asked_4 (by decide) ?_
  refine lv_iload_n hx hb dX12_asked_5 rfl (lv_at hl 2 rfl) ?_
  refine lv_i2l (v := a2.toInt64) hx hb dX12_asked_6 rfl ?_
  refine lv_topl (fun w1 ew1 => ?_)
  have tw1 : w1.toInt = a2.toInt := z_ti2l ew1 rfl
  refine z_last (i := 30) hx hb hK hW hS rfl (z_inl (by decide)) dX12_asked_7 (fun H locs hz1 hW hS => ?_)
  obtain ⟨J2, eJ2⟩ : ∃ K : z_J, K = z_up J 30 (0 : Int32).toNatClampNeg w1 := ⟨_, rfl⟩
  rw [← eJ2] at hW
  refine lv_aload_n hx hb dX12_asked_8 rfl (lv_at hl 0 rfl) ?_
  refine z_get (T := TX12) (N := 96) (ci := 12) (i := 0) (v := .ref (ad 30)) hx hb hts zj_X12_asked_X12 hown hK hW rfl rfl 48 (by decide) (hts (.fieldLink RX12 103 "PetrolBoardModel" "asks" "[J") (me_s (me_l (List.mem_of_getElem? (i := 0) rfl)))) (fun _ h => h) rfl dX12_asked_9 ?_
  refine lv_iconst (v := 1) hx hb dX12_asked_12 (by decide) ?_
  refine lv_aload_n hx hb dX12_asked_13 rfl (lv_at hl 0 rfl) ?_
  refine z_get (T := TX12) (N := 96) (ci := 12) (i := 0) (v := .ref (ad 1)) hx hb hts zj_X12_asked_X12 hown hK hW rfl rfl 3 (by decide) (hts (.fieldLink RX12 7 "PetrolBoardModel" "sizeOf" "[I") (me_s (me_l (List.mem_of_getElem? (i := 1) rfl)))) (fun _ h => h) rfl dX12_asked_14 ?_
  refine lv_iload_n hx hb dX12_asked_17 rfl (lv_at hl 1 rfl) ?_
  refine z_iald (i := 1) hx hb hK hW rfl (z_ix rfl (by omega) (by omega)) dX12_asked_18 ?_
  refine lv_topi (fun x3 ex3 => ?_)
  have h4 : x3.toInt = (I 1 a1.toNatClampNeg).toInt := by rw [ex3]
  refine lv_i2l (v := x3.toInt64) hx hb dX12_asked_19 rfl ?_
  refine lv_topl (fun w5 ew5 => ?_)
  have tw5 : w5.toInt = (I 1 a1.toNatClampNeg).toInt := z_ti2l ew5 h4
  refine z_last (i := 30) hx hb hK hW hS rfl (z_inl (by decide)) dX12_asked_20 (fun H locs hz1 hW hS => ?_)
  obtain ⟨J6, eJ6⟩ : ∃ K : z_J, K = z_up J2 30 (1 : Int32).toNatClampNeg w5 := ⟨_, rfl⟩
  rw [← eJ6] at hW
  refine lv_aload_n hx hb dX12_asked_21 rfl (lv_at hl 0 rfl) ?_
  refine z_get (T := TX12) (N := 96) (ci := 12) (i := 0) (v := .ref (ad 30)) hx hb hts zj_X12_asked_X12 hown hK hW rfl rfl 48 (by decide) (hts (.fieldLink RX12 103 "PetrolBoardModel" "asks" "[J") (me_s (me_l (List.mem_of_getElem? (i := 0) rfl)))) (fun _ h => h) rfl dX12_asked_22 ?_
  refine lv_iconst (v := 2) hx hb dX12_asked_25 (by decide) ?_
  refine lv_aload_n hx hb dX12_asked_26 rfl (lv_at hl 0 rfl) ?_
  refine z_get (T := TX12) (N := 96) (ci := 12) (i := 0) (v := .ref (ad 2)) hx hb hts zj_X12_asked_X12 hown hK hW rfl rfl 4 (by decide) (hts (.fieldLink RX12 13 "PetrolBoardModel" "townOf" "[I") (me_s (me_l (List.mem_of_getElem? (i := 2) rfl)))) (fun _ h => h) rfl dX12_asked_27 ?_
  refine lv_iload_n hx hb dX12_asked_30 rfl (lv_at hl 1 rfl) ?_
  refine z_iald (i := 2) hx hb hK hW rfl (z_ix rfl (by omega) (by omega)) dX12_asked_31 ?_
  refine lv_topi (fun x7 ex7 => ?_)
  have h8 : x7.toInt = (I 2 a1.toNatClampNeg).toInt := by rw [ex7]
  refine lv_i2l (v := x7.toInt64) hx hb dX12_asked_32 rfl ?_
  refine lv_topl (fun w9 ew9 => ?_)
  have tw9 : w9.toInt = (I 2 a1.toNatClampNeg).toInt := z_ti2l ew9 h8
  refine z_last (i := 30) hx hb hK hW hS rfl (z_inl (by decide)) dX12_asked_33 (fun H locs hz1 hW hS => ?_)
  obtain ⟨J10, eJ10⟩ : ∃ K : z_J, K = z_up J6 30 (2 : Int32).toNatClampNeg w9 := ⟨_, rfl⟩
  rw [← eJ10] at hW
  refine lv_aload_n hx hb dX12_asked_34 rfl (lv_at hl 0 rfl) ?_
  refine z_get (T := TX12) (N := 96) (ci := 12) (i := 0) (v := .ref (ad 30)) hx hb hts zj_X12_asked_X12 hown hK hW rfl rfl 48 (by decide) (hts (.fieldLink RX12 103 "PetrolBoardModel" "asks" "[J") (me_s (me_l (List.mem_of_getElem? (i := 0) rfl)))) (fun _ h => h) rfl dX12_asked_35 ?_
  refine lv_iconst (v := 3) hx hb dX12_asked_38 (by decide) ?_
  refine lv_iload_n hx hb dX12_asked_39 rfl (lv_at hl 3 rfl) ?_
  refine lv_i2l (v := a3.toInt64) hx hb dX12_asked_40 rfl ?_
  refine lv_topl (fun w11 ew11 => ?_)
  have tw11 : w11.toInt = a3.toInt := z_ti2l ew11 rfl
  refine z_last (i := 30) hx hb hK hW hS rfl (z_inl (by decide)) dX12_asked_41 (fun H locs hz1 hW hS => ?_)
  obtain ⟨J12, eJ12⟩ : ∃ K : z_J, K = z_up J10 30 (3 : Int32).toNatClampNeg w11 := ⟨_, rfl⟩
  rw [← eJ12] at hW
  refine lv_aload_n hx hb dX12_asked_42 rfl (lv_at hl 0 rfl) ?_
  refine z_get (T := TX12) (N := 96) (ci := 12) (i := 0) (v := .ref (ad 30)) hx hb hts zj_X12_asked_X12 hown hK hW rfl rfl 48 (by decide) (hts (.fieldLink RX12 103 "PetrolBoardModel" "asks" "[J") (me_s (me_l (List.mem_of_getElem? (i := 0) rfl)))) (fun _ h => h) rfl dX12_asked_43 ?_
  refine lv_iconst (v := 4) hx hb dX12_asked_46 (by decide) ?_
  refine lv_iload hx hb dX12_asked_47 (lv_at hl 4 rfl) ?_
  refine lv_i2l (v := a4.toInt64) hx hb dX12_asked_49 rfl ?_
  refine lv_topl (fun w13 ew13 => ?_)
  have tw13 : w13.toInt = a4.toInt := z_ti2l ew13 rfl
  refine z_last (i := 30) hx hb hK hW hS rfl (z_inl (by decide)) dX12_asked_50 (fun H locs hz1 hW hS => ?_)
  obtain ⟨J14, eJ14⟩ : ∃ K : z_J, K = z_up J12 30 (4 : Int32).toNatClampNeg w13 := ⟨_, rfl⟩
  rw [← eJ14] at hW
  refine lv_aload_n hx hb dX12_asked_51 rfl (lv_at hl 0 rfl) ?_
  refine z_get (T := TX12) (N := 96) (ci := 12) (i := 0) (v := .ref (ad 30)) hx hb hts zj_X12_asked_X12 hown hK hW rfl rfl 48 (by decide) (hts (.fieldLink RX12 103 "PetrolBoardModel" "asks" "[J") (me_s (me_l (List.mem_of_getElem? (i := 0) rfl)))) (fun _ h => h) rfl dX12_asked_52 ?_
  refine lv_iconst (v := 5) hx hb dX12_asked_55 (by decide) ?_
  refine lv_iload hx hb dX12_asked_56 (lv_at hl 5 rfl) ?_
  refine lv_i2l (v := a5.toInt64) hx hb dX12_asked_58 rfl ?_
  refine lv_topl (fun w15 ew15 => ?_)
  have tw15 : w15.toInt = a5.toInt := z_ti2l ew15 rfl
  refine z_last (i := 30) hx hb hK hW hS rfl (z_inl (by decide)) dX12_asked_59 (fun H locs hz1 hW hS => ?_)
  obtain ⟨J16, eJ16⟩ : ∃ K : z_J, K = z_up J14 30 (5 : Int32).toNatClampNeg w15 := ⟨_, rfl⟩
  rw [← eJ16] at hW
  refine lv_aload_n hx hb dX12_asked_60 rfl (lv_at hl 0 rfl) ?_
  refine z_get (T := TX12) (N := 96) (ci := 12) (i := 0) (v := .ref (ad 30)) hx hb hts zj_X12_asked_X12 hown hK hW rfl rfl 48 (by decide) (hts (.fieldLink RX12 103 "PetrolBoardModel" "asks" "[J") (me_s (me_l (List.mem_of_getElem? (i := 0) rfl)))) (fun _ h => h) rfl dX12_asked_61 ?_
  refine lv_bipush (v := 6) hx hb dX12_asked_64 (by decide) ?_
  refine lv_iload hx hb dX12_asked_66 (lv_at hl 6 rfl) ?_
  refine lv_i2l (v := a6.toInt64) hx hb dX12_asked_68 rfl ?_
  refine lv_topl (fun w17 ew17 => ?_)
  have tw17 : w17.toInt = a6.toInt := z_ti2l ew17 rfl
  refine z_last (i := 30) hx hb hK hW hS rfl (z_inl (by decide)) dX12_asked_69 (fun H locs hz1 hW hS => ?_)
  obtain ⟨J18, eJ18⟩ : ∃ K : z_J, K = z_up J16 30 (6 : Int32).toNatClampNeg w17 := ⟨_, rfl⟩
  rw [← eJ18] at hW
  exact z_vret hx hb hr hK hS (Nat.le_of_ble_eq_true rfl) (Nat.le_of_ble_eq_true rfl) hlocks dX12_asked_70 (shM, ad, I, J18, PM ad) hW ⟨I, J18, rfl, z_fr_0, (zw_A_A (by rw [eJ18, z_up_k (by decide), eJ16, z_up_k (by decide), eJ14, z_up_k (by decide), eJ12, z_up_k (by decide), eJ10, z_up_k (by decide), eJ6, z_up_k (by decide), eJ2, show (0 : Int32).toNatClampNeg = 0 from by decide, z_up_s]; exact tw1) (by rw [eJ18, z_up_k (by decide), eJ16, z_up_k (by decide), eJ14, z_up_k (by decide), eJ12, z_up_k (by decide), eJ10, z_up_k (by decide), eJ6, show (1 : Int32).toNatClampNeg = 1 from by decide, z_up_s]; exact tw5) (by rw [eJ18, z_up_k (by decide), eJ16, z_up_k (by decide), eJ14, z_up_k (by decide), eJ12, z_up_k (by decide), eJ10, show (2 : Int32).toNatClampNeg = 2 from by decide, z_up_s]; exact tw9) (by rw [eJ18, z_up_k (by decide), eJ16, z_up_k (by decide), eJ14, z_up_k (by decide), eJ12, show (3 : Int32).toNatClampNeg = 3 from by decide, z_up_s]; exact tw11) (by rw [eJ18, z_up_k (by decide), eJ16, z_up_k (by decide), eJ14, show (4 : Int32).toNatClampNeg = 4 from by decide, z_up_s]; exact tw13) (by rw [eJ18, z_up_k (by decide), eJ16, show (5 : Int32).toNatClampNeg = 5 from by decide, z_up_s]; exact tw15) (by rw [eJ18, show (6 : Int32).toNatClampNeg = 6 from by decide, z_up_s]; exact tw17))⟩
noncomputable def L_X12_unitsOf_x : z_L := [(24, 999), (30, 999)]
set_option maxHeartbeats 8000000 in
set_option maxRecDepth 100000 in
theorem sx_X12_unitsOf_x (l : Launch) (G : z_G) (ad : Nat → Nat) (I : z_I) (J : z_J) (hma : z_ima I) (hmb : z_imb I) (hAtf : z_rg 11 0 288 I) (hAtm : z_rg 12 0 24 I) (hNd : z_Nd I) (hAsf : z_rg 19 0 6200 I) (hAst : z_rg 20 0 6200 I) (hAsc : z_rg 18 (-1) 6199 I) (hEx : z_Ex I) (FF : Nat → Nat) (RS : Nat → List zm_row) (a1 : Int32) (a2 : Int32) (a3 : Int32) (q1 : 0 ≤ a1.toInt ∧ a1.toInt < (I 0 1).toInt) (q2 : 0 ≤ a2.toInt ∧ a2.toInt ≤ 23) (hWm : zw_W I FF RS) : z_M l yX12_unitsOf wsX12_unitsOf { frames := 5, cells := 0, slots := 0, locals := 108 } [.ref (ad 0), .int a1, .int a2, .int a3] G (shM, ad, I, J, PM ad) (fun r u1 => ∃ (I1 : z_I) (J1 : z_J), u1 = (shM, ad, I1, J1, PM ad) ∧ z_ima I1 ∧ z_imb I1 ∧ z_rg 11 0 288 I1 ∧ z_rg 12 0 24 I1 ∧ z_Nd I1 ∧ z_rg 19 0 6200 I1 ∧ z_rg 20 0 6200 I1 ∧ z_rg 18 (-1) 6199 I1 ∧ z_Ex I1 ∧ z_fr L_X12_unitsOf_x I1 I ∧ zw_UX I RS a1 a2.toInt a3.toInt r.toInt) 0 0 := sorry
noncomputable def L_X12_units_x : z_L := [(24, 999), (30, 999)]
set_option maxHeartbeats 8000000 in
set_option maxRecDepth 100000 in
theorem sx_X12_units_x (l : Launch) (G : z_G) (ad : Nat → Nat) (I : z_I) (J : z_J) (hma : z_ima I) (hmb : z_imb I) (hAtf : z_rg 11 0 288 I) (hAtm : z_rg 12 0 24 I) (hNd : z_Nd I) (hAsf : z_rg 19 0 6200 I) (hAst : z_rg 20 0 6200 I) (hAsc : z_rg 18 (-1) 6199 I) (hEx : z_Ex I) (FF : Nat → Nat) (RS : Nat → List zm_row) (a1 : Int32) (a2 : Int32) (a3 : Int32) (hWm : zw_W I FF RS) : z_M l yX12_units wsX12_units { frames := 6, cells := 0, slots := 0, locals := 133 } [.ref (ad 0), .int a1, .int a2, .int a3] G (shM, ad, I, J, PM ad) (fun r u1 => ∃ (I1 : z_I) (J1 : z_J), u1 = (shM, ad, I1, J1, PM ad) ∧ z_ima I1 ∧ z_imb I1 ∧ z_rg 11 0 288 I1 ∧ z_rg 12 0 24 I1 ∧ z_Nd I1 ∧ z_rg 19 0 6200 I1 ∧ z_rg 20 0 6200 I1 ∧ z_rg 18 (-1) 6199 I1 ∧ z_Ex I1 ∧ z_fr L_X12_units_x I1 I ∧ (((0 ≤ a1.toInt ∧ a1.toInt < (I 0 1).toInt ∧ 0 ≤ a2.toInt ∧ a2.toInt ≤ 23 ∧ 0 ≤ a3.toInt ∧ a3.toInt ≤ 719) ∧ zw_UX I RS a1 a2.toInt a3.toInt r.toInt) ∨ (¬ (0 ≤ a1.toInt ∧ a1.toInt < (I 0 1).toInt ∧ 0 ≤ a2.toInt ∧ a2.toInt ≤ 23 ∧ 0 ≤ a3.toInt ∧ a3.toInt ≤ 719) ∧ r.toInt = -1))) 0 0 := by
  intro sz
  refine z_headQ (cc := cX12_units) (maxL := 4) (ret := (some .int)) (by decide) rfl (Nat.le_of_ble_eq_true rfl) ?_
  intro p e s m below meth c0 ls hIn hK hsz hW hl
  obtain ⟨hx, hb, hr, hml, hown, hts, hlocks, hname⟩ := hIn
  subst hsz
  have hown : s.vm.findClass RX12 = some m.cls := hown
  have hA : ∀ q : Nat, s.heap.size ≤ q → z_A (shM, ad, I, J, PM ad) s.heap.size q := fun q h => Or.inr h
  generalize hAe : z_A (shM, ad, I, J, PM ad) s.heap.size = A at *
  have hS : va_S A s.heap s.heap [] := va_S.rf
  have hl : lv_has ls 4 [(0, .ref (ad 0)), (1, .int a1), (2, .int a2), (3, .int a3)] := hl
  refine lv_aload_n hx hb dX12_units_0 rfl (lv_at hl 0 rfl) ?_
  refine lv_iload_n hx hb dX12_units_1 rfl (lv_at hl 1 rfl) ?_
  refine z_ci hW hS hA (va_runV (As := [.int a1]) (rest := []) ⟨hx, hb, hml, hown, hts⟩ (sx_X12_isHolder_e l G ad I J ⟨(by show 0 ≤ (I 0 0).toInt ∧ (I 0 0).toInt ≤ 719; exact hma.1), (by show 0 ≤ (I 0 1).toInt ∧ (I 0 1).toInt ≤ 30; exact hma.2.1), (by show 0 ≤ (I 0 2).toInt ∧ (I 0 2).toInt ≤ 200; exact hma.2.2)⟩ a1 _) (cwV 1 hts gX12_units_X12_isHolder rfl rfl rfl (by decide +kernel) ⟨Nat.le_of_ble_eq_true rfl, Nat.le_of_ble_eq_true rfl⟩) (z_preV (i := 0) hK hW rfl rfl) rfl rfl hl.1 rfl (lv_room (Nat.le_of_ble_eq_true rfl)) dX12_units_2 ⟨Nat.le_of_ble_eq_true rfl, Nat.le_of_ble_eq_true rfl⟩) (fun r u1 H locs hp hW hS => ?_)
  obtain ⟨e9, hp⟩ := hp
  rw [e9] at hW
  rcases hp with ⟨rfl, h1⟩ | ⟨rfl, h1⟩
  · have h2 := h1
    have r3 : 0 ≤ (I 0 1).toInt ∧ (I 0 1).toInt ≤ 30 := hma.2.1
    refine lv_if_eq (tgt := 32) hx hb dX12_units_5 (by decide) (fun c4 => absurd c4 (by decide)) (fun c4 => ?_)
    refine lv_iload_n hx hb dX12_units_8 rfl (lv_at hl 2 rfl) ?_
    refine z_ci hW hS hA (va_runS (As := [.int a2]) (rest := []) ⟨hx, hb, hml, hown, hts⟩ (sx_X12_isMonth_e l G ad I J  a2 _) (va_cwS 1 hts gX12_units_X12_isMonth rfl rfl rfl (by decide +kernel) ⟨Nat.le_of_ble_eq_true rfl, Nat.le_of_ble_eq_true rfl⟩) (z_preS hK hW) rfl rfl hl.1 rfl (lv_room (Nat.le_of_ble_eq_true rfl)) dX12_units_9 ⟨Nat.le_of_ble_eq_true rfl, Nat.le_of_ble_eq_true rfl⟩) (fun r u1 H locs hp hW hS => ?_)
    obtain ⟨e9, hp⟩ := hp
    rw [e9] at hW
    rcases hp with ⟨rfl, h5⟩ | ⟨rfl, h5⟩
    · have h6 := h5
      refine lv_if_eq (tgt := 32) hx hb dX12_units_12 (by decide) (fun c7 => absurd c7 (by decide)) (fun c7 => ?_)
      refine lv_iload_n hx hb dX12_units_15 rfl (lv_at hl 3 rfl) ?_
      refine z_ci hW hS hA (va_runS (As := [.int a3]) (rest := []) ⟨hx, hb, hml, hown, hts⟩ (sx_X12_isDay_e l G ad I J  a3 _) (va_cwS 1 hts gX12_units_X12_isDay rfl rfl rfl (by decide +kernel) ⟨Nat.le_of_ble_eq_true rfl, Nat.le_of_ble_eq_true rfl⟩) (z_preS hK hW) rfl rfl hl.1 rfl (lv_room (Nat.le_of_ble_eq_true rfl)) dX12_units_16 ⟨Nat.le_of_ble_eq_true rfl, Nat.le_of_ble_eq_true rfl⟩) (fun r u1 H locs hp hW hS => ?_)
      obtain ⟨e9, hp⟩ := hp
      rw [e9] at hW
      rcases hp with ⟨rfl, h8⟩ | ⟨rfl, h8⟩
      · have h9 := h8
        refine lv_if_eq (tgt := 32) hx hb dX12_units_19 (by decide) (fun c10 => absurd c10 (by decide)) (fun c10 => ?_)
        refine lv_aload_n hx hb dX12_units_22 rfl (lv_at hl 0 rfl) ?_
        refine lv_iload_n hx hb dX12_units_23 rfl (lv_at hl 1 rfl) ?_
        refine lv_iload_n hx hb dX12_units_24 rfl (lv_at hl 2 rfl) ?_
        refine lv_iload_n hx hb dX12_units_25 rfl (lv_at hl 3 rfl) ?_
        refine z_ci hW hS hA (va_runV (As := [.int a1, .int a2, .int a3]) (rest := []) ⟨hx, hb, hml, hown, hts⟩ (sx_X12_unitsOf_x l G ad I J ⟨(by show 0 ≤ (I 0 0).toInt ∧ (I 0 0).toInt ≤ 719; exact hma.1), (by show 0 ≤ (I 0 1).toInt ∧ (I 0 1).toInt ≤ 30; exact hma.2.1), (by show 0 ≤ (I 0 2).toInt ∧ (I 0 2).toInt ≤ 200; exact hma.2.2)⟩ ⟨(by show 0 ≤ (I 0 13).toInt ∧ (I 0 13).toInt ≤ 12; exact hmb.1), (by show 0 ≤ (I 0 14).toInt ∧ (I 0 14).toInt ≤ 288; exact hmb.2)⟩ hAtf hAtm hNd hAsf hAst hAsc hEx FF RS a1 a2 a3 (by omega) (by omega) hWm _) (cwV 3 hts gX12_units_X12_unitsOf rfl rfl rfl (by decide +kernel) ⟨Nat.le_of_ble_eq_true rfl, Nat.le_of_ble_eq_true rfl⟩) (z_preV (i := 0) hK hW rfl rfl) rfl rfl hl.1 rfl (lv_room (Nat.le_of_ble_eq_true rfl)) dX12_units_26 ⟨Nat.le_of_ble_eq_true rfl, Nat.le_of_ble_eq_true rfl⟩) (fun r u1 H locs hp hW hS => ?_)
        obtain ⟨I11, J13, e9, hI11ma, hI11mb, hI11Atf, hI11Atm, hI11Nd, hI11Asf, hI11Ast, hI11Asc, hI11Ex, fI11, hp⟩ := hp
        rw [e9] at hW
        have f12 := z_fr_sub (L := L_X12_units_x) z_fr_0 fI11 (by decide)
        refine lv_topi (fun x14 ex14 => ?_)
        rw [← ex14] at hp
        have hU15 := hp
        refine lv_goto (tgt := 33) hx hb dX12_units_29 (by decide) ?_
        exact z_iret hx hb hr hK hS (Nat.le_of_ble_eq_true rfl) (Nat.le_of_ble_eq_true rfl) hlocks dX12_units_33 (shM, ad, I11, J13, PM ad) hW ⟨I11, J13, rfl, ⟨(by show 0 ≤ (I11 0 0).toInt ∧ (I11 0 0).toInt ≤ 719; exact hI11ma.1), (by show 0 ≤ (I11 0 1).toInt ∧ (I11 0 1).toInt ≤ 30; exact hI11ma.2.1), (by show 0 ≤ (I11 0 2).toInt ∧ (I11 0 2).toInt ≤ 200; exact hI11ma.2.2)⟩, ⟨(by show 0 ≤ (I11 0 13).toInt ∧ (I11 0 13).toInt ≤ 12; exact hI11mb.1), (by show 0 ≤ (I11 0 14).toInt ∧ (I11 0 14).toInt ≤ 288; exact hI11mb.2)⟩, hI11Atf, hI11Atm, hI11Nd, hI11Asf, hI11Ast, hI11Asc, hI11Ex, f12, (Or.inl ⟨by omega, hU15⟩)⟩
      · have h16 := h8
        refine lv_if_eq (tgt := 32) hx hb dX12_units_19 (by decide) (fun c17 => ?_) (fun c17 => absurd (by decide) c17)
        refine lv_iconst (v := (-1)) hx hb dX12_units_32 (by decide) ?_
        exact z_iret hx hb hr hK hS (Nat.le_of_ble_eq_true rfl) (Nat.le_of_ble_eq_true rfl) hlocks dX12_units_33 (shM, ad, I, J, PM ad) hW ⟨I, J, rfl, ⟨(by show 0 ≤ (I 0 0).toInt ∧ (I 0 0).toInt ≤ 719; exact hma.1), (by show 0 ≤ (I 0 1).toInt ∧ (I 0 1).toInt ≤ 30; exact hma.2.1), (by show 0 ≤ (I 0 2).toInt ∧ (I 0 2).toInt ≤ 200; exact hma.2.2)⟩, ⟨(by show 0 ≤ (I 0 13).toInt ∧ (I 0 13).toInt ≤ 12; exact hmb.1), (by show 0 ≤ (I 0 14).toInt ∧ (I 0 14).toInt ≤ 288; exact hmb.2)⟩, hAtf, hAtm, hNd, hAsf, hAst, hAsc, hEx, z_fr_0, (Or.inr ⟨by omega, by decide⟩)⟩
    · have h18 := h5
      refine lv_if_eq (tgt := 32) hx hb dX12_units_12 (by decide) (fun c19 => ?_) (fun c19 => absurd (by decide) c19)
      refine lv_iconst (v := (-1)) hx hb dX12_units_32 (by decide) ?_
      exact z_iret hx hb hr hK hS (Nat.le_of_ble_eq_true rfl) (Nat.le_of_ble_eq_true rfl) hlocks dX12_units_33 (shM, ad, I, J, PM ad) hW ⟨I, J, rfl, ⟨(by show 0 ≤ (I 0 0).toInt ∧ (I 0 0).toInt ≤ 719; exact hma.1), (by show 0 ≤ (I 0 1).toInt ∧ (I 0 1).toInt ≤ 30; exact hma.2.1), (by show 0 ≤ (I 0 2).toInt ∧ (I 0 2).toInt ≤ 200; exact hma.2.2)⟩, ⟨(by show 0 ≤ (I 0 13).toInt ∧ (I 0 13).toInt ≤ 12; exact hmb.1), (by show 0 ≤ (I 0 14).toInt ∧ (I 0 14).toInt ≤ 288; exact hmb.2)⟩, hAtf, hAtm, hNd, hAsf, hAst, hAsc, hEx, z_fr_0, (Or.inr ⟨by omega, by decide⟩)⟩
  · have h20 := h1
    have r21 : 0 ≤ (I 0 1).toInt ∧ (I 0 1).toInt ≤ 30 := hma.2.1
    refine lv_if_eq (tgt := 32) hx hb dX12_units_5 (by decide) (fun c22 => ?_) (fun c22 => absurd (by decide) c22)
    refine lv_iconst (v := (-1)) hx hb dX12_units_32 (by decide) ?_
    exact z_iret hx hb hr hK hS (Nat.le_of_ble_eq_true rfl) (Nat.le_of_ble_eq_true rfl) hlocks dX12_units_33 (shM, ad, I, J, PM ad) hW ⟨I, J, rfl, ⟨(by show 0 ≤ (I 0 0).toInt ∧ (I 0 0).toInt ≤ 719; exact hma.1), (by show 0 ≤ (I 0 1).toInt ∧ (I 0 1).toInt ≤ 30; exact hma.2.1), (by show 0 ≤ (I 0 2).toInt ∧ (I 0 2).toInt ≤ 200; exact hma.2.2)⟩, ⟨(by show 0 ≤ (I 0 13).toInt ∧ (I 0 13).toInt ≤ 12; exact hmb.1), (by show 0 ≤ (I 0 14).toInt ∧ (I 0 14).toInt ≤ 288; exact hmb.2)⟩, hAtf, hAtm, hNd, hAsf, hAst, hAsc, hEx, z_fr_0, (Or.inr ⟨by omega, by decide⟩)⟩
end SG60z5
section SG60z6


/-! the HOLDERS' rows -/
noncomputable def z_hrX (I1 I : z_I) (n : Nat) (a1 a2 a3 a4 a5 : Int32) : Prop := (∀ j, I1 2 j = if j = n then a1 else I 2 j) ∧ (∀ j, I1 3 j = if j = n then a2 else I 3 j) ∧ (∀ j, I1 4 j = if j = n then a3 else I 4 j) ∧ (∀ j, I1 5 j = if j = n then a4 else I 5 j) ∧ (∀ j, I1 6 j = if j = n then a5 else I 6 j)
noncomputable def z_hrM (I1 I : z_I) (n : Nat) (a1 a2 a3 a4 a5 : Int32) : Prop := (∀ j, I1 1 j = if j = n then a1 else I 1 j) ∧ (∀ j, I1 2 j = if j = n then a2 else I 2 j) ∧ (∀ j, I1 3 j = if j = n then a3 else I 3 j) ∧ (∀ j, I1 4 j = if j = n then a4 else I 4 j) ∧ (∀ j, I1 5 j = if j = n then a5 else I 5 j)
noncomputable def z_hsX (I1 I : z_I) : Prop := ∀ j, I1 2 j = I 2 j ∧ I1 3 j = I 3 j ∧ I1 4 j = I 4 j ∧ I1 5 j = I 5 j ∧ I1 6 j = I 6 j
noncomputable def z_hsM (I1 I : z_I) : Prop := ∀ j, I1 1 j = I 1 j ∧ I1 2 j = I 2 j ∧ I1 3 j = I 3 j ∧ I1 4 j = I 4 j ∧ I1 5 j = I 5 j
/-- the HOLDERS' rows are the same on both sides, and in their bounds -/
noncomputable def z_RH (Ix Im : z_I) : Prop := ∀ j : Nat, (j : Int) < (Ix 1 5).toInt → (Ix 2 j = Im 1 j ∧ Ix 3 j = Im 2 j ∧ Ix 4 j = Im 3 j ∧ Ix 5 j = Im 4 j ∧ Ix 6 j = Im 5 j) ∧ (1 ≤ (Ix 2 j).toInt ∧ (Ix 2 j).toInt ≤ 9) ∧ (0 ≤ (Ix 3 j).toInt ∧ (Ix 3 j).toInt ≤ 9) ∧ (1 ≤ (Ix 4 j).toInt ∧ (Ix 4 j).toInt ≤ 8) ∧ (0 ≤ (Ix 5 j).toInt ∧ (Ix 5 j).toInt ≤ 999) ∧ (0 ≤ (Ix 6 j).toInt ∧ (Ix 6 j).toInt ≤ 99)
theorem z_RH_same {Ix Im Ix1 Im1 : z_I} (h : z_RH Ix Im) (eN : (Ix1 1 5).toInt = (Ix 1 5).toInt) (hx : z_hsX Ix1 Ix) (hm : z_hsM Im1 Im) : z_RH Ix1 Im1 := fun j hj => by
  obtain ⟨a1, a2, a3, a4, a5⟩ := hx j
  obtain ⟨b1, b2, b3, b4, b5⟩ := hm j
  rw [a1, a2, a3, a4, a5, b1, b2, b3, b4, b5]
  exact h j (by omega)
theorem z_RH_holder {Ix Im Ix1 Im1 : z_I} {n n1 : Nat} {a1 a2 a3 a4 a5 b1 b2 b3 b4 b5 : Int32} (h : z_RH Ix Im) (eN : (Ix1 1 5).toInt = (Ix 1 5).toInt + 1) (en : (n : Int) = (Ix 1 5).toInt) (en1 : n1 = n) (hx : z_hrX Ix1 Ix n a1 a2 a3 a4 a5) (hm : z_hrM Im1 Im n1 b1 b2 b3 b4 b5) (e1 : b1 = a1) (e2 : b2 = a2) (e3 : b3 = a3) (e4 : b4 = a4) (e5 : b5 = a5) (hr : (1 ≤ a1.toInt ∧ a1.toInt ≤ 9) ∧ (0 ≤ a2.toInt ∧ a2.toInt ≤ 9) ∧ (1 ≤ a3.toInt ∧ a3.toInt ≤ 8) ∧ (0 ≤ a4.toInt ∧ a4.toInt ≤ 999) ∧ (0 ≤ a5.toInt ∧ a5.toInt ≤ 99)) : z_RH Ix1 Im1 := fun j hj => by
  subst en1 e1 e2 e3 e4 e5
  obtain ⟨x1, x2, x3, x4, x5⟩ := hx
  obtain ⟨y1, y2, y3, y4, y5⟩ := hm
  rw [x1, x2, x3, x4, x5, y1, y2, y3, y4, y5]
  by_cases q : j = n1
  · simp only [if_pos q]
    exact ⟨⟨trivial, trivial, trivial, trivial, trivial⟩, hr⟩
  · simp only [if_neg q]
    exact h j (by omega)
/-- the CLASSES are in their bounds -/
noncomputable def z_RC (Ix : z_I) : Prop := ∀ j : Nat, (j : Int) < (Ix 1 11).toInt → 0 ≤ (Ix 8 j).toInt ∧ (Ix 8 j).toInt ≤ 4
theorem z_RC_same {Ix Ix1 : z_I} (h : z_RC Ix) (eN : (Ix1 1 11).toInt = (Ix 1 11).toInt) (hx : ∀ j, Ix1 8 j = Ix 8 j) : z_RC Ix1 := fun j hj => by
  rw [hx]
  exact h j (by omega)
theorem z_RC_note {Ix Ix1 : z_I} {n : Nat} {w k f t : Int32} (h : z_RC Ix) (eN : (Ix1 1 11).toInt = (Ix 1 11).toInt + 1) (en : (n : Int) = (Ix 1 11).toInt) (hx : z_nrX Ix1 Ix n w k f t) (hk : 0 ≤ k.toInt ∧ k.toInt ≤ 4) : z_RC Ix1 := fun j hj => by
  rw [hx.2.1]
  by_cases q : j = n
  · rw [if_pos q]
    exact hk
  · rw [if_neg q]
    exact h j (by omega)
theorem z_kx_b {I : z_I} {h d kn : Int} : ∀ n : Nat, (∀ j, j < n → 0 ≤ (I 8 j).toInt ∧ (I 8 j).toInt ≤ 4) → 0 ≤ (z_kx I h d kn n).2 ∧ (z_kx I h d kn n).2 ≤ 4
  | 0, _ => ⟨Int.le_refl 0, by show (0 : Int) ≤ 4; decide⟩
  | n + 1, hc => by
    rw [z_kx]
    split
    · exact hc n (Nat.lt_succ_self n)
    · exact z_kx_b n (fun j hj => hc j (by omega))
theorem z_km_b {I : z_I} {h d kn : Int} : ∀ n : Nat, -1 ≤ z_km I h d kn n ∧ z_km I h d kn n < (n : Int)
  | 0 => ⟨by show (-1 : Int) ≤ -1; decide, by show (-1 : Int) < 0; decide⟩
  | n + 1 => by
    have ih := z_km_b (I := I) (h := h) (d := d) (kn := kn) n
    rw [z_km]
    split
    · omega
    · omega
theorem z_kmr_b {I : z_I} {h d kn : Int} {n : Nat} (hc : ∀ j, j < n → 0 ≤ (I 7 j).toInt ∧ (I 7 j).toInt ≤ 4) : 0 ≤ z_kmr I h d kn n ∧ z_kmr I h d kn n ≤ 4 := by
  have hb := z_km_b (I := I) (h := h) (d := d) (kn := kn) n
  unfold z_kmr
  split
  · omega
  · exact hc _ (by omega)
/-- what UNITS rest on, from the relations of both sides -/
theorem z_UW {c : z_C} {Ix Im : z_I} {RS : Nat → List zm_row} {FF : Nat → Nat} (hCH : ∀ k, k < c.2.1 → zw_T Im k (FF k) (RS k) ∧ zv_ss c Ix k ((RS k).map Prod.fst) ∧ zi_mo Ix k = zi_km Im k ∧ zi_td Ix k = zi_kt Im k ∧ 0 ≤ zi_mo Ix k) (hRH : z_RH Ix Im) (hRN : z_RN Ix Im) (hRC : z_RC Ix) (hno : (Ix 21 2).toInt = (c.2.1 : Int)) (hX : (Ix 21 2).toInt = (Im 0 13).toInt) (hN : (Ix 1 11).toInt = (Im 0 2).toInt) (hH : (Ix 1 5).toInt = (Im 0 1).toInt) (h0 : 0 ≤ (Ix 1 11).toInt) : zv_W c Ix (fun k => (RS k).map Prod.fst) ∧ zw_W Im FF RS := by
  have n1 := z_clt (x := Ix 1 11) rfl h0
  have n2 := z_clt (x := Im 0 2) rfl (by omega)
  refine ⟨⟨hno, fun j hj => (hCH j hj).2.2.2.2, fun k hk => (hCH k hk).2.1, fun h d kn => z_kx_b _ (fun j hj => hRC j (by omega)), fun j hj => ?_⟩, fun t ht => (hCH t (by omega)).1, fun h d kn => z_kmr_b (fun j hj => ?_), fun j hj => ?_⟩
  · obtain ⟨_, a1, a2, _⟩ := hRH j hj
    exact ⟨a1, a2⟩
  · obtain ⟨_, e, _⟩ := hRN j (by omega)
    rw [← e]
    exact hRC j (by omega)
  · obtain ⟨⟨e1, e2, _⟩, a1, a2, _⟩ := hRH j (by omega)
    rw [← e1, ← e2]
    exact ⟨a1, a2⟩
theorem z_UA {Ix Im : z_I} {h : Int32} {m kn : Int} (hRH : z_RH Ix Im) (hRN : z_RN Ix Im) (hN : (Ix 1 11).toInt = (Im 0 2).toInt) (h0 : 0 ≤ (Ix 1 11).toInt) (hk : kn ≤ 719) (hh : 0 ≤ h.toInt ∧ h.toInt < (Ix 1 5).toInt) : zv_AU Ix h m kn = zw_AU Im h m kn := by
  have n1 := z_clt (x := Ix 1 11) rfl h0
  have n2 := z_clt (x := Im 0 2) rfl (by omega)
  have n3 := z_clt (x := h) rfl hh.1
  obtain ⟨⟨e1, e2, _⟩, _⟩ := hRH h.toNatClampNeg (by omega)
  unfold zv_AU zw_AU
  rw [e1, e2, Int.mul_comm m 30, z_RN_r hRN hk (n := (Ix 1 11).toNatClampNeg) (m := (Im 0 2).toNatClampNeg) (by omega) (by omega)]
theorem z_UU {c : z_C} {Ix Im : z_I} {RS : Nat → List zm_row} {FF : Nat → Nat} {h : Int32} {m kn r r1 : Int} (hCH : ∀ k, k < c.2.1 → zw_T Im k (FF k) (RS k) ∧ zv_ss c Ix k ((RS k).map Prod.fst) ∧ zi_mo Ix k = zi_km Im k ∧ zi_td Ix k = zi_kt Im k ∧ 0 ≤ zi_mo Ix k) (hn : (Im 0 13).toNatClampNeg = c.2.1) (hA : zv_AU Ix h m kn = zw_AU Im h m kn) (h1 : zv_UX c Ix (fun k => (RS k).map Prod.fst) h m kn r) (h2 : zw_UX Im RS h m kn r1) : r = r1 := by
  unfold zw_UX at h2
  rw [hn] at h2
  refine zi_R_u h1 h2 (fun j hj => ⟨(hCH j hj).2.2.1.symm, (hCH j hj).2.2.2.1.symm⟩) (fun j _ => ?_)
  show zv_un (zv_AU Ix h m kn) _ = zv_un (zw_AU Im h m kn) _
  rw [hA]
noncomputable def L_X2_add_r : z_L := [(2, 999), (3, 999), (4, 999), (5, 999), (6, 999), (1, 5)]
set_option maxHeartbeats 8000000 in
set_option maxRecDepth 100000 in
theorem sx_X2_add_r (l : Launch) (G : z_G) (ad : Nat → Nat) (c : z_C) (I : z_I) (hH : z_iH I) (a1 : Int32) (a2 : Int32) (a3 : Int32) (a4 : Int32) (a5 : Int32) : z_M l yX2_add wsX2_add { frames := 1, cells := 0, slots := 0, locals := 12 } [.ref (ad 1), .int a1, .int a2, .int a3, .int a4, .int a5] G (shC c, ad, I, JX, PC c ad) (fun r u1 => ∃ I1 : z_I, u1 = (shC c, ad, I1, JX, PC c ad) ∧ z_iH I1 ∧ z_fr L_X2_add_r I1 I ∧ ((((I 1 5).toInt < 30) ∧ r.toInt = (I 1 5).toInt ∧ (I1 1 5).toInt = (I 1 5).toInt + 1 ∧ z_hrX I1 I (I 1 5).toNatClampNeg a1 a2 a3 a4 a5) ∨ (¬ ((I 1 5).toInt < 30) ∧ r.toInt = -1 ∧ (I1 1 5).toInt = (I 1 5).toInt ∧ z_hsX I1 I))) 0 0 := by
  intro sz
  refine z_headQ (cc := cX2_add) (maxL := 6) (ret := (some .int)) (by decide) rfl (Nat.le_of_ble_eq_true rfl) ?_
  intro p e s m below meth c0 ls hIn hK hsz hW hl
  obtain ⟨hx, hb, hr, hml, hown, hts, hlocks, hname⟩ := hIn
  subst hsz
  have hown : s.vm.findClass RX2 = some m.cls := hown
  have hA : ∀ q : Nat, s.heap.size ≤ q → z_A (shC c, ad, I, JX, PC c ad) s.heap.size q := fun q h => Or.inr h
  generalize hAe : z_A (shC c, ad, I, JX, PC c ad) s.heap.size = A at *
  have hS : va_S A s.heap s.heap [] := va_S.rf
  have hl : lv_has ls 6 [(0, .ref (ad 1)), (1, .int a1), (2, .int a2), (3, .int a3), (4, .int a4), (5, .int a5)] := hl
  refine lv_aload_n hx hb dX2_add_0 rfl (lv_at hl 0 rfl) ?_
  have r1 : 0 ≤ (I 1 5).toInt ∧ (I 1 5).toInt ≤ 30 := hH.1
  refine z_get (T := TX2) (N := 12) (ci := 2) (i := 1) (v := .int (I 1 5)) hx hb hts zj_X2_add_X2 hown hK hW rfl rfl 5 (by decide) (hts (.fieldLink RX2 42 "PetrolBoard$Holders" "number" "I") (me_s (me_l (List.mem_of_getElem? (i := 0) rfl)))) (fun _ h => h) rfl dX2_add_1 ?_
  refine lv_bipush (v := 30) hx hb dX2_add_4 (by decide) ?_
  refine lv_icmp_lt (tgt := 11) hx hb dX2_add_6 (by decide) (fun c2 => ?_) (fun c2 => ?_)
  · have g3 := z_f_lt rfl z_l30 c2
    refine lv_aload_n hx hb dX2_add_11 rfl (lv_at hl 0 rfl) ?_
    refine z_get (T := TX2) (N := 12) (ci := 2) (i := 1) (v := .ref (ad 2)) hx hb hts zj_X2_add_X2 hown hK hW rfl rfl 0 (by decide) (hts (.fieldLink RX2 9 "PetrolBoard$Holders" "size" "[I") (me_s (me_l (List.mem_of_getElem? (i := 1) rfl)))) (fun _ h => h) rfl dX2_add_12 ?_
    refine lv_aload_n hx hb dX2_add_15 rfl (lv_at hl 0 rfl) ?_
    refine z_get (T := TX2) (N := 12) (ci := 2) (i := 1) (v := .int (I 1 5)) hx hb hts zj_X2_add_X2 hown hK hW rfl rfl 5 (by decide) (hts (.fieldLink RX2 42 "PetrolBoard$Holders" "number" "I") (me_s (me_l (List.mem_of_getElem? (i := 0) rfl)))) (fun _ h => h) rfl dX2_add_16 ?_
    refine lv_iload_n hx hb dX2_add_19 rfl (lv_at hl 1 rfl) ?_
    refine z_iast (i := 2) hx hb hK hW hS rfl (z_ix rfl (by omega) (by omega)) dX2_add_20 (fun H locs hz1 hW hS => ?_)
    obtain ⟨I4, eI4⟩ : ∃ K : z_I, K = z_up I 2 (I 1 5).toNatClampNeg a1 := ⟨_, rfl⟩
    rw [← eI4] at hW
    have f5 := z_fr_a z_fr_0 (show z_wa L_X2_add_r 2 = true by decide) eI4
    refine lv_aload_n hx hb dX2_add_21 rfl (lv_at hl 0 rfl) ?_
    refine z_get (T := TX2) (N := 12) (ci := 2) (i := 1) (v := .ref (ad 3)) hx hb hts zj_X2_add_X2 hown hK hW rfl rfl 1 (by decide) (hts (.fieldLink RX2 15 "PetrolBoard$Holders" "town" "[I") (me_s (me_l (List.mem_of_getElem? (i := 2) rfl)))) (fun _ h => h) rfl dX2_add_22 ?_
    refine lv_aload_n hx hb dX2_add_25 rfl (lv_at hl 0 rfl) ?_
    refine z_get (T := TX2) (N := 12) (ci := 2) (i := 1) (v := .int (I 1 5)) hx hb hts zj_X2_add_X2 hown hK hW rfl rfl 5 (by decide) (hts (.fieldLink RX2 42 "PetrolBoard$Holders" "number" "I") (me_s (me_l (List.mem_of_getElem? (i := 0) rfl)))) (fun _ h => h) (congrArg Value.int (by rw [eI4, z_up_n (by decide)])) dX2_add_26 ?_
    refine lv_iload_n hx hb dX2_add_29 rfl (lv_at hl 2 rfl) ?_
    refine z_iast (i := 3) hx hb hK hW hS rfl (z_ix rfl (by omega) (by omega)) dX2_add_30 (fun H locs hz1 hW hS => ?_)
    obtain ⟨I6, eI6⟩ : ∃ K : z_I, K = z_up I4 3 (I 1 5).toNatClampNeg a2 := ⟨_, rfl⟩
    rw [← eI6] at hW
    have f7 := z_fr_a f5 (show z_wa L_X2_add_r 3 = true by decide) eI6
    refine lv_aload_n hx hb dX2_add_31 rfl (lv_at hl 0 rfl) ?_
    refine z_get (T := TX2) (N := 12) (ci := 2) (i := 1) (v := .ref (ad 4)) hx hb hts zj_X2_add_X2 hown hK hW rfl rfl 2 (by decide) (hts (.fieldLink RX2 18 "PetrolBoard$Holders" "seats" "[I") (me_s (me_l (List.mem_of_getElem? (i := 3) rfl)))) (fun _ h => h) rfl dX2_add_32 ?_
    refine lv_aload_n hx hb dX2_add_35 rfl (lv_at hl 0 rfl) ?_
    refine z_get (T := TX2) (N := 12) (ci := 2) (i := 1) (v := .int (I 1 5)) hx hb hts zj_X2_add_X2 hown hK hW rfl rfl 5 (by decide) (hts (.fieldLink RX2 42 "PetrolBoard$Holders" "number" "I") (me_s (me_l (List.mem_of_getElem? (i := 0) rfl)))) (fun _ h => h) (congrArg Value.int (by rw [eI6, z_up_n (by decide), eI4, z_up_n (by decide)])) dX2_add_36 ?_
    refine lv_iload_n hx hb dX2_add_39 rfl (lv_at hl 3 rfl) ?_
    refine z_iast (i := 4) hx hb hK hW hS rfl (z_ix rfl (by omega) (by omega)) dX2_add_40 (fun H locs hz1 hW hS => ?_)
    obtain ⟨I8, eI8⟩ : ∃ K : z_I, K = z_up I6 4 (I 1 5).toNatClampNeg a3 := ⟨_, rfl⟩
    rw [← eI8] at hW
    have f9 := z_fr_a f7 (show z_wa L_X2_add_r 4 = true by decide) eI8
    refine lv_aload_n hx hb dX2_add_41 rfl (lv_at hl 0 rfl) ?_
    refine z_get (T := TX2) (N := 12) (ci := 2) (i := 1) (v := .ref (ad 5)) hx hb hts zj_X2_add_X2 hown hK hW rfl rfl 3 (by decide) (hts (.fieldLink RX2 21 "PetrolBoard$Holders" "bid" "[I") (me_s (me_l (List.mem_of_getElem? (i := 4) rfl)))) (fun _ h => h) rfl dX2_add_42 ?_
    refine lv_aload_n hx hb dX2_add_45 rfl (lv_at hl 0 rfl) ?_
    refine z_get (T := TX2) (N := 12) (ci := 2) (i := 1) (v := .int (I 1 5)) hx hb hts zj_X2_add_X2 hown hK hW rfl rfl 5 (by decide) (hts (.fieldLink RX2 42 "PetrolBoard$Holders" "number" "I") (me_s (me_l (List.mem_of_getElem? (i := 0) rfl)))) (fun _ h => h) (congrArg Value.int (by rw [eI8, z_up_n (by decide), eI6, z_up_n (by decide), eI4, z_up_n (by decide)])) dX2_add_46 ?_
    refine lv_iload hx hb dX2_add_49 (lv_at hl 4 rfl) ?_
    refine z_iast (i := 5) hx hb hK hW hS rfl (z_ix rfl (by omega) (by omega)) dX2_add_51 (fun H locs hz1 hW hS => ?_)
    obtain ⟨I10, eI10⟩ : ∃ K : z_I, K = z_up I8 5 (I 1 5).toNatClampNeg a4 := ⟨_, rfl⟩
    rw [← eI10] at hW
    have f11 := z_fr_a f9 (show z_wa L_X2_add_r 5 = true by decide) eI10
    refine lv_aload_n hx hb dX2_add_52 rfl (lv_at hl 0 rfl) ?_
    refine z_get (T := TX2) (N := 12) (ci := 2) (i := 1) (v := .ref (ad 6)) hx hb hts zj_X2_add_X2 hown hK hW rfl rfl 4 (by decide) (hts (.fieldLink RX2 24 "PetrolBoard$Holders" "need" "[I") (me_s (me_l (List.mem_of_getElem? (i := 5) rfl)))) (fun _ h => h) rfl dX2_add_53 ?_
    refine lv_aload_n hx hb dX2_add_56 rfl (lv_at hl 0 rfl) ?_
    refine z_get (T := TX2) (N := 12) (ci := 2) (i := 1) (v := .int (I 1 5)) hx hb hts zj_X2_add_X2 hown hK hW rfl rfl 5 (by decide) (hts (.fieldLink RX2 42 "PetrolBoard$Holders" "number" "I") (me_s (me_l (List.mem_of_getElem? (i := 0) rfl)))) (fun _ h => h) (congrArg Value.int (by rw [eI10, z_up_n (by decide), eI8, z_up_n (by decide), eI6, z_up_n (by decide), eI4, z_up_n (by decide)])) dX2_add_57 ?_
    refine lv_iload hx hb dX2_add_60 (lv_at hl 5 rfl) ?_
    refine z_iast (i := 6) hx hb hK hW hS rfl (z_ix rfl (by omega) (by omega)) dX2_add_62 (fun H locs hz1 hW hS => ?_)
    obtain ⟨I12, eI12⟩ : ∃ K : z_I, K = z_up I10 6 (I 1 5).toNatClampNeg a5 := ⟨_, rfl⟩
    rw [← eI12] at hW
    have f13 := z_fr_a f11 (show z_wa L_X2_add_r 6 = true by decide) eI12
    refine lv_aload_n hx hb dX2_add_63 rfl (lv_at hl 0 rfl) ?_
    refine lv_dup hx hb dX2_add_64 rfl ?_
    refine z_get (T := TX2) (N := 12) (ci := 2) (i := 1) (v := .int (I 1 5)) hx hb hts zj_X2_add_X2 hown hK hW rfl rfl 5 (by decide) (hts (.fieldLink RX2 42 "PetrolBoard$Holders" "number" "I") (me_s (me_l (List.mem_of_getElem? (i := 0) rfl)))) (fun _ h => h) (congrArg Value.int (by rw [eI12, z_up_n (by decide), eI10, z_up_n (by decide), eI8, z_up_n (by decide), eI6, z_up_n (by decide), eI4, z_up_n (by decide)])) dX2_add_65 ?_
    refine lv_iconst (v := 1) hx hb dX2_add_68 (by decide) ?_
    refine lv_iadd hx hb dX2_add_69 ?_
    refine lv_topi (fun x14 ex14 => ?_)
    have tx14 : x14.toInt = (I 1 5).toInt + 1 := z_tadd ex14 rfl z_l1 (by omega) (by omega)
    refine z_put (T := TX2) (N := 12) (ci := 2) (i := 1) (v := .int x14) (I1 := z_up I12 1 5 x14) (J1 := JX) (P1 := PC c ad) hx hb hts zj_X2_add_X2 tyX2 tyX2_ok nmX2 hown hK hW hS rfl rfl 5 (by decide) (hts (.fieldLink RX2 42 "PetrolBoard$Holders" "number" "I") (me_s (me_l (List.mem_of_getElem? (i := 0) rfl)))) (fun _ h => h) rfl rfl rfl (by first | rfl | exact congrArg _ z_up_s) (fun a b h ty => z_vI h ty) dX2_add_70 (fun H locs hz1 hW hS => ?_)
    obtain ⟨I15, eI15⟩ : ∃ K : z_I, K = z_up I12 1 5 x14 := ⟨_, rfl⟩
    rw [← eI15] at hW
    have f16 := z_fr_k f13 (show z_wr L_X2_add_r 1 5 = true by decide) eI15
    refine lv_aload_n hx hb dX2_add_73 rfl (lv_at hl 0 rfl) ?_
    refine z_get (T := TX2) (N := 12) (ci := 2) (i := 1) (v := .int x14) hx hb hts zj_X2_add_X2 hown hK hW rfl rfl 5 (by decide) (hts (.fieldLink RX2 42 "PetrolBoard$Holders" "number" "I") (me_s (me_l (List.mem_of_getElem? (i := 0) rfl)))) (fun _ h => h) (congrArg Value.int (by rw [eI15, z_up_s])) dX2_add_74 ?_
    refine lv_iconst (v := 1) hx hb dX2_add_77 (by decide) ?_
    refine lv_isub hx hb dX2_add_78 ?_
    refine lv_topi (fun x17 ex17 => ?_)
    have tx17 : x17.toInt = x14.toInt - 1 := z_tsub ex17 rfl z_l1 (by omega) (by omega)
    exact z_iret hx hb hr hK hS (Nat.le_of_ble_eq_true rfl) (Nat.le_of_ble_eq_true rfl) hlocks dX2_add_79 (shC c, ad, I15, JX, PC c ad) hW ⟨I15, rfl, ⟨(by show 0 ≤ (I15 1 5).toInt ∧ (I15 1 5).toInt ≤ 30; rw [eI15, z_up_s]; omega), (by show 0 ≤ (I15 1 11).toInt ∧ (I15 1 11).toInt ≤ 200; rw [eI15, z_up_k (by decide), eI12, z_up_n (by decide), eI10, z_up_n (by decide), eI8, z_up_n (by decide), eI6, z_up_n (by decide), eI4, z_up_n (by decide)]; exact hH.2)⟩, f16, (Or.inl ⟨by omega, by omega, (by have q9 : (I15 1 5) = x14 := (by rw [eI15, z_up_s]); show (I15 1 5).toInt = (I 1 5).toInt + 1; rw [q9]; first | done | omega), ⟨(fun j => by rw [eI15, z_up_n (by decide), eI12, z_up_n (by decide), eI10, z_up_n (by decide), eI8, z_up_n (by decide), eI6, z_up_n (by decide), eI4, z_up_j]), (fun j => by rw [eI15, z_up_n (by decide), eI12, z_up_n (by decide), eI10, z_up_n (by decide), eI8, z_up_n (by decide), eI6, z_up_j, eI4, z_up_n (by decide)]), (fun j => by rw [eI15, z_up_n (by decide), eI12, z_up_n (by decide), eI10, z_up_n (by decide), eI8, z_up_j, eI6, z_up_n (by decide), eI4, z_up_n (by decide)]), (fun j => by rw [eI15, z_up_n (by decide), eI12, z_up_n (by decide), eI10, z_up_j, eI8, z_up_n (by decide), eI6, z_up_n (by decide), eI4, z_up_n (by decide)]), (fun j => by rw [eI15, z_up_n (by decide), eI12, z_up_j, eI10, z_up_n (by decide), eI8, z_up_n (by decide), eI6, z_up_n (by decide), eI4, z_up_n (by decide)])⟩⟩)⟩
  · have g18 := z_f_nlt rfl z_l30 c2
    refine lv_iconst (v := (-1)) hx hb dX2_add_9 (by decide) ?_
    exact z_iret hx hb hr hK hS (Nat.le_of_ble_eq_true rfl) (Nat.le_of_ble_eq_true rfl) hlocks dX2_add_10 (shC c, ad, I, JX, PC c ad) hW ⟨I, rfl, ⟨(by show 0 ≤ (I 1 5).toInt ∧ (I 1 5).toInt ≤ 30; exact hH.1), (by show 0 ≤ (I 1 11).toInt ∧ (I 1 11).toInt ≤ 200; exact hH.2)⟩, z_fr_0, (Or.inr ⟨by omega, by decide, (by show (I 1 5).toInt = (I 1 5).toInt; omega), (fun j => ⟨rfl, rfl, rfl, rfl, rfl⟩)⟩)⟩
noncomputable def L_X11_holder_r : z_L := [(2, 999), (3, 999), (4, 999), (5, 999), (6, 999), (1, 5)]
set_option maxHeartbeats 8000000 in
set_option maxRecDepth 100000 in
theorem sx_X11_holder_r (l : Launch) (G : z_G) (ad : Nat → Nat) (c : z_C) (I : z_I) (hH : z_iH I) (a1 : Int32) (a2 : Int32) (a3 : Int32) (a4 : Int32) (a5 : Int32) (hc : z_okc c) (h10 : c.1 ≤ 10) : z_M l yX11_holder wsX11_holder { frames := 2, cells := 0, slots := 0, locals := 37 } [.ref (ad 0), .int a1, .int a2, .int a3, .int a4, .int a5] G (shC c, ad, I, JX, PC c ad) (fun r u1 => ∃ I1 : z_I, u1 = (shC c, ad, I1, JX, PC c ad) ∧ z_iH I1 ∧ z_fr L_X11_holder_r I1 I ∧ (((1 ≤ a1.toInt ∧ a1.toInt ≤ 9 ∧ 0 ≤ a2.toInt ∧ a2.toInt ≤ 9 ∧ 1 ≤ a3.toInt ∧ a3.toInt ≤ 8 ∧ 0 ≤ a4.toInt ∧ a4.toInt ≤ 999 ∧ 0 ≤ a5.toInt ∧ a5.toInt ≤ 99 ∧ (I 1 5).toInt < 30) ∧ r.toInt = (I 1 5).toInt ∧ (I1 1 5).toInt = (I 1 5).toInt + 1 ∧ z_hrX I1 I (I 1 5).toNatClampNeg a1 a2 a3 a4 a5) ∨ (¬ (1 ≤ a1.toInt ∧ a1.toInt ≤ 9 ∧ 0 ≤ a2.toInt ∧ a2.toInt ≤ 9 ∧ 1 ≤ a3.toInt ∧ a3.toInt ≤ 8 ∧ 0 ≤ a4.toInt ∧ a4.toInt ≤ 999 ∧ 0 ≤ a5.toInt ∧ a5.toInt ≤ 99 ∧ (I 1 5).toInt < 30) ∧ r.toInt = -1 ∧ (I1 1 5).toInt = (I 1 5).toInt ∧ z_hsX I1 I))) 0 0 := by
  intro sz
  refine z_headQ (cc := cX11_holder) (maxL := 6) (ret := (some .int)) (by decide) rfl (Nat.le_of_ble_eq_true rfl) ?_
  intro p e s m below meth c0 ls hIn hK hsz hW hl
  obtain ⟨hx, hb, hr, hml, hown, hts, hlocks, hname⟩ := hIn
  subst hsz
  have hown : s.vm.findClass RX11 = some m.cls := hown
  have hA : ∀ q : Nat, s.heap.size ≤ q → z_A (shC c, ad, I, JX, PC c ad) s.heap.size q := fun q h => Or.inr h
  generalize hAe : z_A (shC c, ad, I, JX, PC c ad) s.heap.size = A at *
  have hS : va_S A s.heap s.heap [] := va_S.rf
  have hl : lv_has ls 6 [(0, .ref (ad 0)), (1, .int a1), (2, .int a2), (3, .int a3), (4, .int a4), (5, .int a5)] := hl
  refine lv_iload_n hx hb dX11_holder_0 rfl (lv_at hl 1 rfl) ?_
  refine lv_iconst (v := 1) hx hb dX11_holder_1 (by decide) ?_
  refine lv_bipush (v := 9) hx hb dX11_holder_2 (by decide) ?_
  refine z_ci hW hS hA (va_runS (As := [.int a1, .int 1, .int 9]) (rest := []) ⟨hx, hb, hml, hown, hts⟩ (sx_X11_within_e l G ad c I  a1 1 9 _) (va_cwS 3 hts gX11_holder_X11_within rfl rfl rfl (by decide +kernel) ⟨Nat.le_of_ble_eq_true rfl, Nat.le_of_ble_eq_true rfl⟩) (z_preS hK hW) rfl rfl hl.1 rfl (lv_room (Nat.le_of_ble_eq_true rfl)) dX11_holder_4 ⟨Nat.le_of_ble_eq_true rfl, Nat.le_of_ble_eq_true rfl⟩) (fun r u1 H locs hp hW hS => ?_)
  obtain ⟨e9, hp⟩ := hp
  rw [e9] at hW
  rcases hp with ⟨rfl, h1⟩ | ⟨rfl, h1⟩
  · have h2 := h1
    have z3 := z_l1
    have z4 := z_l9
    refine lv_if_eq (tgt := 30) hx hb dX11_holder_7 (by decide) (fun c5 => absurd c5 (by decide)) (fun c5 => ?_)
    refine lv_iload_n hx hb dX11_holder_10 rfl (lv_at hl 2 rfl) ?_
    refine lv_iconst (v := 0) hx hb dX11_holder_11 (by decide) ?_
    refine lv_bipush (v := 9) hx hb dX11_holder_12 (by decide) ?_
    refine z_ci hW hS hA (va_runS (As := [.int a2, .int 0, .int 9]) (rest := []) ⟨hx, hb, hml, hown, hts⟩ (sx_X11_within_e l G ad c I  a2 0 9 _) (va_cwS 3 hts gX11_holder_X11_within rfl rfl rfl (by decide +kernel) ⟨Nat.le_of_ble_eq_true rfl, Nat.le_of_ble_eq_true rfl⟩) (z_preS hK hW) rfl rfl hl.1 rfl (lv_room (Nat.le_of_ble_eq_true rfl)) dX11_holder_14 ⟨Nat.le_of_ble_eq_true rfl, Nat.le_of_ble_eq_true rfl⟩) (fun r u1 H locs hp hW hS => ?_)
    obtain ⟨e9, hp⟩ := hp
    rw [e9] at hW
    rcases hp with ⟨rfl, h6⟩ | ⟨rfl, h6⟩
    · have h7 := h6
      have z8 := z_l0
      have z9 := z_l9
      refine lv_if_eq (tgt := 30) hx hb dX11_holder_17 (by decide) (fun c10 => absurd c10 (by decide)) (fun c10 => ?_)
      refine lv_iload_n hx hb dX11_holder_20 rfl (lv_at hl 3 rfl) ?_
      refine lv_iconst (v := 1) hx hb dX11_holder_21 (by decide) ?_
      refine lv_bipush (v := 8) hx hb dX11_holder_22 (by decide) ?_
      refine z_ci hW hS hA (va_runS (As := [.int a3, .int 1, .int 8]) (rest := []) ⟨hx, hb, hml, hown, hts⟩ (sx_X11_within_e l G ad c I  a3 1 8 _) (va_cwS 3 hts gX11_holder_X11_within rfl rfl rfl (by decide +kernel) ⟨Nat.le_of_ble_eq_true rfl, Nat.le_of_ble_eq_true rfl⟩) (z_preS hK hW) rfl rfl hl.1 rfl (lv_room (Nat.le_of_ble_eq_true rfl)) dX11_holder_24 ⟨Nat.le_of_ble_eq_true rfl, Nat.le_of_ble_eq_true rfl⟩) (fun r u1 H locs hp hW hS => ?_)
      obtain ⟨e9, hp⟩ := hp
      rw [e9] at hW
      rcases hp with ⟨rfl, h11⟩ | ⟨rfl, h11⟩
      · have h12 := h11
        have z13 := z_l1
        have z14 := z_l8
        refine lv_if_ne (tgt := 32) hx hb dX11_holder_27 (by decide) (fun c15 => ?_) (fun c15 => absurd c15 (by decide))
        refine lv_iload hx hb dX11_holder_32 (lv_at hl 4 rfl) ?_
        refine lv_iconst (v := 0) hx hb dX11_holder_34 (by decide) ?_
        refine lv_sipush (v := 999) hx hb dX11_holder_35 (by decide) ?_
        refine z_ci hW hS hA (va_runS (As := [.int a4, .int 0, .int 999]) (rest := []) ⟨hx, hb, hml, hown, hts⟩ (sx_X11_within_e l G ad c I  a4 0 999 _) (va_cwS 3 hts gX11_holder_X11_within rfl rfl rfl (by decide +kernel) ⟨Nat.le_of_ble_eq_true rfl, Nat.le_of_ble_eq_true rfl⟩) (z_preS hK hW) rfl rfl hl.1 rfl (lv_room (Nat.le_of_ble_eq_true rfl)) dX11_holder_38 ⟨Nat.le_of_ble_eq_true rfl, Nat.le_of_ble_eq_true rfl⟩) (fun r u1 H locs hp hW hS => ?_)
        obtain ⟨e9, hp⟩ := hp
        rw [e9] at hW
        rcases hp with ⟨rfl, h16⟩ | ⟨rfl, h16⟩
        · have h17 := h16
          have z18 := z_l0
          have z19 := z_l999
          refine lv_if_eq (tgt := 55) hx hb dX11_holder_41 (by decide) (fun c20 => absurd c20 (by decide)) (fun c20 => ?_)
          refine lv_iload hx hb dX11_holder_44 (lv_at hl 5 rfl) ?_
          refine lv_iconst (v := 0) hx hb dX11_holder_46 (by decide) ?_
          refine lv_bipush (v := 99) hx hb dX11_holder_47 (by decide) ?_
          refine z_ci hW hS hA (va_runS (As := [.int a5, .int 0, .int 99]) (rest := []) ⟨hx, hb, hml, hown, hts⟩ (sx_X11_within_e l G ad c I  a5 0 99 _) (va_cwS 3 hts gX11_holder_X11_within rfl rfl rfl (by decide +kernel) ⟨Nat.le_of_ble_eq_true rfl, Nat.le_of_ble_eq_true rfl⟩) (z_preS hK hW) rfl rfl hl.1 rfl (lv_room (Nat.le_of_ble_eq_true rfl)) dX11_holder_49 ⟨Nat.le_of_ble_eq_true rfl, Nat.le_of_ble_eq_true rfl⟩) (fun r u1 H locs hp hW hS => ?_)
          obtain ⟨e9, hp⟩ := hp
          rw [e9] at hW
          rcases hp with ⟨rfl, h21⟩ | ⟨rfl, h21⟩
          · have h22 := h21
            have z23 := z_l0
            have z24 := z_l99
            refine lv_if_ne (tgt := 57) hx hb dX11_holder_52 (by decide) (fun c25 => ?_) (fun c25 => absurd c25 (by decide))
            refine lv_aload_n hx hb dX11_holder_57 rfl (lv_at hl 0 rfl) ?_
            refine z_get (T := TX11) (N := 13) (ci := 11) (i := 0) (v := .ref (ad 1)) hx hb hts zj_X11_holder_X11 hown hK hW rfl rfl 2 (by decide) (hts (.fieldLink RX11 16 "PetrolBoard" "holders" "LPetrolBoard$Holders;") (me_s (me_l (me_l (List.mem_of_getElem? (i := 0) rfl))))) (fun _ h => h) rfl dX11_holder_58 ?_
            refine lv_iload_n hx hb dX11_holder_61 rfl (lv_at hl 1 rfl) ?_
            refine lv_iload_n hx hb dX11_holder_62 rfl (lv_at hl 2 rfl) ?_
            refine lv_iload_n hx hb dX11_holder_63 rfl (lv_at hl 3 rfl) ?_
            refine lv_iload hx hb dX11_holder_64 (lv_at hl 4 rfl) ?_
            refine lv_iload hx hb dX11_holder_66 (lv_at hl 5 rfl) ?_
            refine z_ci hW hS hA (va_runV (As := [.int a1, .int a2, .int a3, .int a4, .int a5]) (rest := []) ⟨hx, hb, hml, hown, hts⟩ (sx_X2_add_r l G ad c I ⟨(by show 0 ≤ (I 1 5).toInt ∧ (I 1 5).toInt ≤ 30; exact hH.1), (by show 0 ≤ (I 1 11).toInt ∧ (I 1 11).toInt ≤ 200; exact hH.2)⟩ a1 a2 a3 a4 a5 _) (cwV 5 hts gX11_holder_X2_add rfl rfl rfl (by decide +kernel) ⟨Nat.le_of_ble_eq_true rfl, Nat.le_of_ble_eq_true rfl⟩) (z_preV (i := 1) hK hW rfl rfl) rfl rfl hl.1 rfl (lv_room (Nat.le_of_ble_eq_true rfl)) dX11_holder_68 ⟨Nat.le_of_ble_eq_true rfl, Nat.le_of_ble_eq_true rfl⟩) (fun r u1 H locs hp hW hS => ?_)
            obtain ⟨I26, e9, hI26H, fI26, hp⟩ := hp
            rw [e9] at hW
            have f27 := z_fr_sub (L := L_X11_holder_r) z_fr_0 fI26 (by decide)
            refine lv_topi (fun x28 ex28 => ?_)
            rw [← ex28] at hp
            rcases hp with ⟨h29, h30, h31, h32⟩ | ⟨h29, h30, h31, h32⟩
            · exact z_iret hx hb hr hK hS (Nat.le_of_ble_eq_true rfl) (Nat.le_of_ble_eq_true rfl) hlocks dX11_holder_71 (shC c, ad, I26, JX, PC c ad) hW ⟨I26, rfl, ⟨(by show 0 ≤ (I26 1 5).toInt ∧ (I26 1 5).toInt ≤ 30; exact hI26H.1), (by show 0 ≤ (I26 1 11).toInt ∧ (I26 1 11).toInt ≤ 200; exact hI26H.2)⟩, f27, (Or.inl ⟨by omega, by omega, (by show (I26 1 5).toInt = (I 1 5).toInt + 1; omega), h32⟩)⟩
            · exact z_iret hx hb hr hK hS (Nat.le_of_ble_eq_true rfl) (Nat.le_of_ble_eq_true rfl) hlocks dX11_holder_71 (shC c, ad, I26, JX, PC c ad) hW ⟨I26, rfl, ⟨(by show 0 ≤ (I26 1 5).toInt ∧ (I26 1 5).toInt ≤ 30; exact hI26H.1), (by show 0 ≤ (I26 1 11).toInt ∧ (I26 1 11).toInt ≤ 200; exact hI26H.2)⟩, f27, (Or.inr ⟨by omega, by omega, (by show (I26 1 5).toInt = (I 1 5).toInt; omega), h32⟩)⟩
          · have h33 := h21
            have z34 := z_l0
            have z35 := z_l99
            refine lv_if_ne (tgt := 57) hx hb dX11_holder_52 (by decide) (fun c36 => absurd (by decide) c36) (fun c36 => ?_)
            refine lv_iconst (v := (-1)) hx hb dX11_holder_55 (by decide) ?_
            exact z_iret hx hb hr hK hS (Nat.le_of_ble_eq_true rfl) (Nat.le_of_ble_eq_true rfl) hlocks dX11_holder_56 (shC c, ad, I, JX, PC c ad) hW ⟨I, rfl, ⟨(by show 0 ≤ (I 1 5).toInt ∧ (I 1 5).toInt ≤ 30; exact hH.1), (by show 0 ≤ (I 1 11).toInt ∧ (I 1 11).toInt ≤ 200; exact hH.2)⟩, z_fr_0, (Or.inr ⟨by omega, by decide, (by show (I 1 5).toInt = (I 1 5).toInt; omega), (fun j => ⟨rfl, rfl, rfl, rfl, rfl⟩)⟩)⟩
        · have h37 := h16
          have z38 := z_l0
          have z39 := z_l999
          refine lv_if_eq (tgt := 55) hx hb dX11_holder_41 (by decide) (fun c40 => ?_) (fun c40 => absurd (by decide) c40)
          refine lv_iconst (v := (-1)) hx hb dX11_holder_55 (by decide) ?_
          exact z_iret hx hb hr hK hS (Nat.le_of_ble_eq_true rfl) (Nat.le_of_ble_eq_true rfl) hlocks dX11_holder_56 (shC c, ad, I, JX, PC c ad) hW ⟨I, rfl, ⟨(by show 0 ≤ (I 1 5).toInt ∧ (I 1 5).toInt ≤ 30; exact hH.1), (by show 0 ≤ (I 1 11).toInt ∧ (I 1 11).toInt ≤ 200; exact hH.2)⟩, z_fr_0, (Or.inr ⟨by omega, by decide, (by show (I 1 5).toInt = (I 1 5).toInt; omega), (fun j => ⟨rfl, rfl, rfl, rfl, rfl⟩)⟩)⟩
      · have h41 := h11
        have z42 := z_l1
        have z43 := z_l8
        refine lv_if_ne (tgt := 32) hx hb dX11_holder_27 (by decide) (fun c44 => absurd (by decide) c44) (fun c44 => ?_)
        refine lv_iconst (v := (-1)) hx hb dX11_holder_30 (by decide) ?_
        exact z_iret hx hb hr hK hS (Nat.le_of_ble_eq_true rfl) (Nat.le_of_ble_eq_true rfl) hlocks dX11_holder_31 (shC c, ad, I, JX, PC c ad) hW ⟨I, rfl, ⟨(by show 0 ≤ (I 1 5).toInt ∧ (I 1 5).toInt ≤ 30; exact hH.1), (by show 0 ≤ (I 1 11).toInt ∧ (I 1 11).toInt ≤ 200; exact hH.2)⟩, z_fr_0, (Or.inr ⟨by omega, by decide, (by show (I 1 5).toInt = (I 1 5).toInt; omega), (fun j => ⟨rfl, rfl, rfl, rfl, rfl⟩)⟩)⟩
    · have h45 := h6
      have z46 := z_l0
      have z47 := z_l9
      refine lv_if_eq (tgt := 30) hx hb dX11_holder_17 (by decide) (fun c48 => ?_) (fun c48 => absurd (by decide) c48)
      refine lv_iconst (v := (-1)) hx hb dX11_holder_30 (by decide) ?_
      exact z_iret hx hb hr hK hS (Nat.le_of_ble_eq_true rfl) (Nat.le_of_ble_eq_true rfl) hlocks dX11_holder_31 (shC c, ad, I, JX, PC c ad) hW ⟨I, rfl, ⟨(by show 0 ≤ (I 1 5).toInt ∧ (I 1 5).toInt ≤ 30; exact hH.1), (by show 0 ≤ (I 1 11).toInt ∧ (I 1 11).toInt ≤ 200; exact hH.2)⟩, z_fr_0, (Or.inr ⟨by omega, by decide, (by show (I 1 5).toInt = (I 1 5).toInt; omega), (fun j => ⟨rfl, rfl, rfl, rfl, rfl⟩)⟩)⟩
  · have h49 := h1
    have z50 := z_l1
    have z51 := z_l9
    refine lv_if_eq (tgt := 30) hx hb dX11_holder_7 (by decide) (fun c52 => ?_) (fun c52 => absurd (by decide) c52)
    refine lv_iconst (v := (-1)) hx hb dX11_holder_30 (by decide) ?_
    exact z_iret hx hb hr hK hS (Nat.le_of_ble_eq_true rfl) (Nat.le_of_ble_eq_true rfl) hlocks dX11_holder_31 (shC c, ad, I, JX, PC c ad) hW ⟨I, rfl, ⟨(by show 0 ≤ (I 1 5).toInt ∧ (I 1 5).toInt ≤ 30; exact hH.1), (by show 0 ≤ (I 1 11).toInt ∧ (I 1 11).toInt ≤ 200; exact hH.2)⟩, z_fr_0, (Or.inr ⟨by omega, by decide, (by show (I 1 5).toInt = (I 1 5).toInt; omega), (fun j => ⟨rfl, rfl, rfl, rfl, rfl⟩)⟩)⟩
noncomputable def L_X12_holder_r : z_L := [(0, 1), (1, 999), (2, 999), (3, 999), (4, 999), (5, 999)]
set_option maxHeartbeats 8000000 in
set_option maxRecDepth 100000 in
theorem sx_X12_holder_r (l : Launch) (G : z_G) (ad : Nat → Nat) (I : z_I) (J : z_J) (hma : z_ima I) (a1 : Int32) (a2 : Int32) (a3 : Int32) (a4 : Int32) (a5 : Int32) : z_M l yX12_holder wsX12_holder { frames := 2, cells := 0, slots := 0, locals := 34 } [.ref (ad 0), .int a1, .int a2, .int a3, .int a4, .int a5] G (shM, ad, I, J, PM ad) (fun r u1 => ∃ (I1 : z_I) (J1 : z_J), u1 = (shM, ad, I1, J1, PM ad) ∧ z_ima I1 ∧ z_fr L_X12_holder_r I1 I ∧ (((1 ≤ a1.toInt ∧ a1.toInt ≤ 9 ∧ 0 ≤ a2.toInt ∧ a2.toInt ≤ 9 ∧ 1 ≤ a3.toInt ∧ a3.toInt ≤ 8 ∧ 0 ≤ a4.toInt ∧ a4.toInt ≤ 999 ∧ 0 ≤ a5.toInt ∧ a5.toInt ≤ 99 ∧ (I 0 1).toInt < 30) ∧ r.toInt = (I 0 1).toInt ∧ (I1 0 1).toInt = (I 0 1).toInt + 1 ∧ z_hrM I1 I (I 0 1).toNatClampNeg a1 a2 a3 a4 a5) ∨ (¬ (1 ≤ a1.toInt ∧ a1.toInt ≤ 9 ∧ 0 ≤ a2.toInt ∧ a2.toInt ≤ 9 ∧ 1 ≤ a3.toInt ∧ a3.toInt ≤ 8 ∧ 0 ≤ a4.toInt ∧ a4.toInt ≤ 999 ∧ 0 ≤ a5.toInt ∧ a5.toInt ≤ 99 ∧ (I 0 1).toInt < 30) ∧ r.toInt = -1 ∧ (I1 0 1).toInt = (I 0 1).toInt ∧ z_hsM I1 I))) 0 0 := by
  intro sz
  refine z_headQ (cc := cX12_holder) (maxL := 6) (ret := (some .int)) (by decide) rfl (Nat.le_of_ble_eq_true rfl) ?_
  intro p e s m below meth c0 ls hIn hK hsz hW hl
  obtain ⟨hx, hb, hr, hml, hown, hts, hlocks, hname⟩ := hIn
  subst hsz
  have hown : s.vm.findClass RX12 = some m.cls := hown
  have hA : ∀ q : Nat, s.heap.size ≤ q → z_A (shM, ad, I, J, PM ad) s.heap.size q := fun q h => Or.inr h
  generalize hAe : z_A (shM, ad, I, J, PM ad) s.heap.size = A at *
  have hS : va_S A s.heap s.heap [] := va_S.rf
  have hl : lv_has ls 6 [(0, .ref (ad 0)), (1, .int a1), (2, .int a2), (3, .int a3), (4, .int a4), (5, .int a5)] := hl
  refine lv_iload_n hx hb dX12_holder_0 rfl (lv_at hl 1 rfl) ?_
  refine lv_iconst (v := 1) hx hb dX12_holder_1 (by decide) ?_
  refine lv_bipush (v := 9) hx hb dX12_holder_2 (by decide) ?_
  refine z_ci hW hS hA (va_runS (As := [.int a1, .int 1, .int 9]) (rest := []) ⟨hx, hb, hml, hown, hts⟩ (sx_X12_within_e l G ad I J  a1 1 9 _) (va_cwS 3 hts gX12_holder_X12_within rfl rfl rfl (by decide +kernel) ⟨Nat.le_of_ble_eq_true rfl, Nat.le_of_ble_eq_true rfl⟩) (z_preS hK hW) rfl rfl hl.1 rfl (lv_room (Nat.le_of_ble_eq_true rfl)) dX12_holder_4 ⟨Nat.le_of_ble_eq_true rfl, Nat.le_of_ble_eq_true rfl⟩) (fun r u1 H locs hp hW hS => ?_)
  obtain ⟨e9, hp⟩ := hp
  rw [e9] at hW
  rcases hp with ⟨rfl, h1⟩ | ⟨rfl, h1⟩
  · have h2 := h1
    have z3 := z_l1
    have z4 := z_l9
    refine lv_if_eq (tgt := 62) hx hb dX12_holder_7 (by decide) (fun c5 => absurd c5 (by decide)) (fun c5 => ?_)
    refine lv_iload_n hx hb dX12_holder_10 rfl (lv_at hl 2 rfl) ?_
    refine lv_iconst (v := 0) hx hb dX12_holder_11 (by decide) ?_
    refine lv_bipush (v := 9) hx hb dX12_holder_12 (by decide) ?_
    refine z_ci hW hS hA (va_runS (As := [.int a2, .int 0, .int 9]) (rest := []) ⟨hx, hb, hml, hown, hts⟩ (sx_X12_within_e l G ad I J  a2 0 9 _) (va_cwS 3 hts gX12_holder_X12_within rfl rfl rfl (by decide +kernel) ⟨Nat.le_of_ble_eq_true rfl, Nat.le_of_ble_eq_true rfl⟩) (z_preS hK hW) rfl rfl hl.1 rfl (lv_room (Nat.le_of_ble_eq_true rfl)) dX12_holder_14 ⟨Nat.le_of_ble_eq_true rfl, Nat.le_of_ble_eq_true rfl⟩) (fun r u1 H locs hp hW hS => ?_)
    obtain ⟨e9, hp⟩ := hp
    rw [e9] at hW
    rcases hp with ⟨rfl, h6⟩ | ⟨rfl, h6⟩
    · have h7 := h6
      have z8 := z_l0
      have z9 := z_l9
      refine lv_if_eq (tgt := 62) hx hb dX12_holder_17 (by decide) (fun c10 => absurd c10 (by decide)) (fun c10 => ?_)
      refine lv_iload_n hx hb dX12_holder_20 rfl (lv_at hl 3 rfl) ?_
      refine lv_iconst (v := 1) hx hb dX12_holder_21 (by decide) ?_
      refine lv_bipush (v := 8) hx hb dX12_holder_22 (by decide) ?_
      refine z_ci hW hS hA (va_runS (As := [.int a3, .int 1, .int 8]) (rest := []) ⟨hx, hb, hml, hown, hts⟩ (sx_X12_within_e l G ad I J  a3 1 8 _) (va_cwS 3 hts gX12_holder_X12_within rfl rfl rfl (by decide +kernel) ⟨Nat.le_of_ble_eq_true rfl, Nat.le_of_ble_eq_true rfl⟩) (z_preS hK hW) rfl rfl hl.1 rfl (lv_room (Nat.le_of_ble_eq_true rfl)) dX12_holder_24 ⟨Nat.le_of_ble_eq_true rfl, Nat.le_of_ble_eq_true rfl⟩) (fun r u1 H locs hp hW hS => ?_)
      obtain ⟨e9, hp⟩ := hp
      rw [e9] at hW
      rcases hp with ⟨rfl, h11⟩ | ⟨rfl, h11⟩
      · have h12 := h11
        have z13 := z_l1
        have z14 := z_l8
        refine lv_if_eq (tgt := 62) hx hb dX12_holder_27 (by decide) (fun c15 => absurd c15 (by decide)) (fun c15 => ?_)
        refine lv_iload hx hb dX12_holder_30 (lv_at hl 4 rfl) ?_
        refine lv_iconst (v := 0) hx hb dX12_holder_32 (by decide) ?_
        refine lv_sipush (v := 999) hx hb dX12_holder_33 (by decide) ?_
        refine z_ci hW hS hA (va_runS (As := [.int a4, .int 0, .int 999]) (rest := []) ⟨hx, hb, hml, hown, hts⟩ (sx_X12_within_e l G ad I J  a4 0 999 _) (va_cwS 3 hts gX12_holder_X12_within rfl rfl rfl (by decide +kernel) ⟨Nat.le_of_ble_eq_true rfl, Nat.le_of_ble_eq_true rfl⟩) (z_preS hK hW) rfl rfl hl.1 rfl (lv_room (Nat.le_of_ble_eq_true rfl)) dX12_holder_36 ⟨Nat.le_of_ble_eq_true rfl, Nat.le_of_ble_eq_true rfl⟩) (fun r u1 H locs hp hW hS => ?_)
        obtain ⟨e9, hp⟩ := hp
        rw [e9] at hW
        rcases hp with ⟨rfl, h16⟩ | ⟨rfl, h16⟩
        · have h17 := h16
          have z18 := z_l0
          have z19 := z_l999
          refine lv_if_eq (tgt := 62) hx hb dX12_holder_39 (by decide) (fun c20 => absurd c20 (by decide)) (fun c20 => ?_)
          refine lv_iload hx hb dX12_holder_42 (lv_at hl 5 rfl) ?_
          refine lv_iconst (v := 0) hx hb dX12_holder_44 (by decide) ?_
          refine lv_bipush (v := 99) hx hb dX12_holder_45 (by decide) ?_
          refine z_ci hW hS hA (va_runS (As := [.int a5, .int 0, .int 99]) (rest := []) ⟨hx, hb, hml, hown, hts⟩ (sx_X12_within_e l G ad I J  a5 0 99 _) (va_cwS 3 hts gX12_holder_X12_within rfl rfl rfl (by decide +kernel) ⟨Nat.le_of_ble_eq_true rfl, Nat.le_of_ble_eq_true rfl⟩) (z_preS hK hW) rfl rfl hl.1 rfl (lv_room (Nat.le_of_ble_eq_true rfl)) dX12_holder_47 ⟨Nat.le_of_ble_eq_true rfl, Nat.le_of_ble_eq_true rfl⟩) (fun r u1 H locs hp hW hS => ?_)
          obtain ⟨e9, hp⟩ := hp
          rw [e9] at hW
          rcases hp with ⟨rfl, h21⟩ | ⟨rfl, h21⟩
          · have h22 := h21
            have z23 := z_l0
            have z24 := z_l99
            refine lv_if_eq (tgt := 62) hx hb dX12_holder_50 (by decide) (fun c25 => absurd c25 (by decide)) (fun c25 => ?_)
            refine lv_aload_n hx hb dX12_holder_53 rfl (lv_at hl 0 rfl) ?_
            have r26 : 0 ≤ (I 0 1).toInt ∧ (I 0 1).toInt ≤ 30 := hma.2.1
            refine z_get (T := TX12) (N := 96) (ci := 12) (i := 0) (v := .int (I 0 1)) hx hb hts zj_X12_holder_X12 hown hK hW rfl rfl 1 (by decide) (hts (.fieldLink RX12 229 "PetrolBoardModel" "holders" "I") (me_s (me_l (List.mem_of_getElem? (i := 0) rfl)))) (fun _ h => h) rfl dX12_holder_54 ?_
            refine lv_bipush (v := 30) hx hb dX12_holder_57 (by decide) ?_
            refine lv_icmp_ne (tgt := 64) hx hb dX12_holder_59 (by decide) (fun c27 => ?_) (fun c27 => ?_)
            · have g28 := z_f_ne rfl z_l30 c27
              refine lv_aload_n hx hb dX12_holder_64 rfl (lv_at hl 0 rfl) ?_
              refine z_get (T := TX12) (N := 96) (ci := 12) (i := 0) (v := .ref (ad 1)) hx hb hts zj_X12_holder_X12 hown hK hW rfl rfl 3 (by decide) (hts (.fieldLink RX12 7 "PetrolBoardModel" "sizeOf" "[I") (me_s (me_l (List.mem_of_getElem? (i := 1) rfl)))) (fun _ h => h) rfl dX12_holder_65 ?_
              refine lv_aload_n hx hb dX12_holder_68 rfl (lv_at hl 0 rfl) ?_
              refine z_get (T := TX12) (N := 96) (ci := 12) (i := 0) (v := .int (I 0 1)) hx hb hts zj_X12_holder_X12 hown hK hW rfl rfl 1 (by decide) (hts (.fieldLink RX12 229 "PetrolBoardModel" "holders" "I") (me_s (me_l (List.mem_of_getElem? (i := 0) rfl)))) (fun _ h => h) rfl dX12_holder_69 ?_
              refine lv_iload_n hx hb dX12_holder_72 rfl (lv_at hl 1 rfl) ?_
              refine z_iast (i := 1) hx hb hK hW hS rfl (z_ix rfl (by omega) (by omega)) dX12_holder_73 (fun H locs hz1 hW hS => ?_)
              obtain ⟨I29, eI29⟩ : ∃ K : z_I, K = z_up I 1 (I 0 1).toNatClampNeg a1 := ⟨_, rfl⟩
              rw [← eI29] at hW
              have f30 := z_fr_a z_fr_0 (show z_wa L_X12_holder_r 1 = true by decide) eI29
              refine lv_aload_n hx hb dX12_holder_74 rfl (lv_at hl 0 rfl) ?_
              refine z_get (T := TX12) (N := 96) (ci := 12) (i := 0) (v := .ref (ad 2)) hx hb hts zj_X12_holder_X12 hown hK hW rfl rfl 4 (by decide) (hts (.fieldLink RX12 13 "PetrolBoardModel" "townOf" "[I") (me_s (me_l (List.mem_of_getElem? (i := 2) rfl)))) (fun _ h => h) rfl dX12_holder_75 ?_
              refine lv_aload_n hx hb dX12_holder_78 rfl (lv_at hl 0 rfl) ?_
              refine z_get (T := TX12) (N := 96) (ci := 12) (i := 0) (v := .int (I 0 1)) hx hb hts zj_X12_holder_X12 hown hK hW rfl rfl 1 (by decide) (hts (.fieldLink RX12 229 "PetrolBoardModel" "holders" "I") (me_s (me_l (List.mem_of_getElem? (i := 0) rfl)))) (fun _ h => h) (congrArg Value.int (by rw [eI29, z_up_n (by decide)])) dX12_holder_79 ?_
              refine lv_iload_n hx hb dX12_holder_82 rfl (lv_at hl 2 rfl) ?_
              refine z_iast (i := 2) hx hb hK hW hS rfl (z_ix rfl (by omega) (by omega)) dX12_holder_83 (fun H locs hz1 hW hS => ?_)
              obtain ⟨I31, eI31⟩ : ∃ K : z_I, K = z_up I29 2 (I 0 1).toNatClampNeg a2 := ⟨_, rfl⟩
              rw [← eI31] at hW
              have f32 := z_fr_a f30 (show z_wa L_X12_holder_r 2 = true by decide) eI31
              refine lv_aload_n hx hb dX12_holder_84 rfl (lv_at hl 0 rfl) ?_
              refine z_get (T := TX12) (N := 96) (ci := 12) (i := 0) (v := .ref (ad 3)) hx hb hts zj_X12_holder_X12 hown hK hW rfl rfl 5 (by decide) (hts (.fieldLink RX12 16 "PetrolBoardModel" "seatsOf" "[I") (me_s (me_l (List.mem_of_getElem? (i := 3) rfl)))) (fun _ h => h) rfl dX12_holder_85 ?_
              refine lv_aload_n hx hb dX12_holder_88 rfl (lv_at hl 0 rfl) ?_
              refine z_get (T := TX12) (N := 96) (ci := 12) (i := 0) (v := .int (I 0 1)) hx hb hts zj_X12_holder_X12 hown hK hW rfl rfl 1 (by decide) (hts (.fieldLink RX12 229 "PetrolBoardModel" "holders" "I") (me_s (me_l (List.mem_of_getElem? (i := 0) rfl)))) (fun _ h => h) (congrArg Value.int (by rw [eI31, z_up_n (by decide), eI29, z_up_n (by decide)])) dX12_holder_89 ?_
              refine lv_iload_n hx hb dX12_holder_92 rfl (lv_at hl 3 rfl) ?_
              refine z_iast (i := 3) hx hb hK hW hS rfl (z_ix rfl (by omega) (by omega)) dX12_holder_93 (fun H locs hz1 hW hS => ?_)
              obtain ⟨I33, eI33⟩ : ∃ K : z_I, K = z_up I31 3 (I 0 1).toNatClampNeg a3 := ⟨_, rfl⟩
              rw [← eI33] at hW
              have f34 := z_fr_a f32 (show z_wa L_X12_holder_r 3 = true by decide) eI33
              refine lv_aload_n hx hb dX12_holder_94 rfl (lv_at hl 0 rfl) ?_
              refine z_get (T := TX12) (N := 96) (ci := 12) (i := 0) (v := .ref (ad 4)) hx hb hts zj_X12_holder_X12 hown hK hW rfl rfl 6 (by decide) (hts (.fieldLink RX12 19 "PetrolBoardModel" "bidOf" "[I") (me_s (me_l (List.mem_of_getElem? (i := 4) rfl)))) (fun _ h => h) rfl dX12_holder_95 ?_
              refine lv_aload_n hx hb dX12_holder_98 rfl (lv_at hl 0 rfl) ?_
              refine z_get (T := TX12) (N := 96) (ci := 12) (i := 0) (v := .int (I 0 1)) hx hb hts zj_X12_holder_X12 hown hK hW rfl rfl 1 (by decide) (hts (.fieldLink RX12 229 "PetrolBoardModel" "holders" "I") (me_s (me_l (List.mem_of_getElem? (i := 0) rfl)))) (fun _ h => h) (congrArg Value.int (by rw [eI33, z_up_n (by decide), eI31, z_up_n (by decide), eI29, z_up_n (by decide)])) dX12_holder_99 ?_
              refine lv_iload hx hb dX12_holder_102 (lv_at hl 4 rfl) ?_
              refine z_iast (i := 4) hx hb hK hW hS rfl (z_ix rfl (by omega) (by omega)) dX12_holder_104 (fun H locs hz1 hW hS => ?_)
              obtain ⟨I35, eI35⟩ : ∃ K : z_I, K = z_up I33 4 (I 0 1).toNatClampNeg a4 := ⟨_, rfl⟩
              rw [← eI35] at hW
              have f36 := z_fr_a f34 (show z_wa L_X12_holder_r 4 = true by decide) eI35
              refine lv_aload_n hx hb dX12_holder_105 rfl (lv_at hl 0 rfl) ?_
              refine z_get (T := TX12) (N := 96) (ci := 12) (i := 0) (v := .ref (ad 5)) hx hb hts zj_X12_holder_X12 hown hK hW rfl rfl 7 (by decide) (hts (.fieldLink RX12 22 "PetrolBoardModel" "needOf" "[I") (me_s (me_l (List.mem_of_getElem? (i := 5) rfl)))) (fun _ h => h) rfl dX12_holder_106 ?_
              refine lv_aload_n hx hb dX12_holder_109 rfl (lv_at hl 0 rfl) ?_
              refine z_get (T := TX12) (N := 96) (ci := 12) (i := 0) (v := .int (I 0 1)) hx hb hts zj_X12_holder_X12 hown hK hW rfl rfl 1 (by decide) (hts (.fieldLink RX12 229 "PetrolBoardModel" "holders" "I") (me_s (me_l (List.mem_of_getElem? (i := 0) rfl)))) (fun _ h => h) (congrArg Value.int (by rw [eI35, z_up_n (by decide), eI33, z_up_n (by decide), eI31, z_up_n (by decide), eI29, z_up_n (by decide)])) dX12_holder_110 ?_
              refine lv_iload hx hb dX12_holder_113 (lv_at hl 5 rfl) ?_
              refine z_iast (i := 5) hx hb hK hW hS rfl (z_ix rfl (by omega) (by omega)) dX12_holder_115 (fun H locs hz1 hW hS => ?_)
              obtain ⟨I37, eI37⟩ : ∃ K : z_I, K = z_up I35 5 (I 0 1).toNatClampNeg a5 := ⟨_, rfl⟩
              rw [← eI37] at hW
              have f38 := z_fr_a f36 (show z_wa L_X12_holder_r 5 = true by decide) eI37
              refine lv_aload_n hx hb dX12_holder_116 rfl (lv_at hl 0 rfl) ?_
              refine lv_dup hx hb dX12_holder_117 rfl ?_
              refine z_get (T := TX12) (N := 96) (ci := 12) (i := 0) (v := .int (I 0 1)) hx hb hts zj_X12_holder_X12 hown hK hW rfl rfl 1 (by decide) (hts (.fieldLink RX12 229 "PetrolBoardModel" "holders" "I") (me_s (me_l (List.mem_of_getElem? (i := 0) rfl)))) (fun _ h => h) (congrArg Value.int (by rw [eI37, z_up_n (by decide), eI35, z_up_n (by decide), eI33, z_up_n (by decide), eI31, z_up_n (by decide), eI29, z_up_n (by decide)])) dX12_holder_118 ?_
              refine lv_iconst (v := 1) hx hb dX12_holder_121 (by decide) ?_
              refine lv_iadd hx hb dX12_holder_122 ?_
              refine lv_topi (fun x39 ex39 => ?_)
              have tx39 : x39.toInt = (I 0 1).toInt + 1 := z_tadd ex39 rfl z_l1 (by omega) (by omega)
              refine z_put (T := TX12) (N := 96) (ci := 12) (i := 0) (v := .int x39) (I1 := z_up I37 0 1 x39) (J1 := J) (P1 := PM ad) hx hb hts zj_X12_holder_X12 tyX12 tyX12_ok nmX12 hown hK hW hS rfl rfl 1 (by decide) (hts (.fieldLink RX12 229 "PetrolBoardModel" "holders" "I") (me_s (me_l (List.mem_of_getElem? (i := 0) rfl)))) (fun _ h => h) rfl rfl rfl (by first | rfl | exact congrArg _ z_up_s) (fun a b h ty => z_vI h ty) dX12_holder_123 (fun H locs hz1 hW hS => ?_)
              obtain ⟨I40, eI40⟩ : ∃ K : z_I, K = z_up I37 0 1 x39 := ⟨_, rfl⟩
              rw [← eI40] at hW
              have f41 := z_fr_k f38 (show z_wr L_X12_holder_r 0 1 = true by decide) eI40
              refine lv_aload_n hx hb dX12_holder_126 rfl (lv_at hl 0 rfl) ?_
              refine z_get (T := TX12) (N := 96) (ci := 12) (i := 0) (v := .int x39) hx hb hts zj_X12_holder_X12 hown hK hW rfl rfl 1 (by decide) (hts (.fieldLink RX12 229 "PetrolBoardModel" "holders" "I") (me_s (me_l (List.mem_of_getElem? (i := 0) rfl)))) (fun _ h => h) (congrArg Value.int (by rw [eI40, z_up_s])) dX12_holder_127 ?_
              refine lv_iconst (v := 1) hx hb dX12_holder_130 (by decide) ?_
              refine lv_isub hx hb dX12_holder_131 ?_
              refine lv_topi (fun x42 ex42 => ?_)
              have tx42 : x42.toInt = x39.toInt - 1 := z_tsub ex42 rfl z_l1 (by omega) (by omega)
              exact z_iret hx hb hr hK hS (Nat.le_of_ble_eq_true rfl) (Nat.le_of_ble_eq_true rfl) hlocks dX12_holder_132 (shM, ad, I40, J, PM ad) hW ⟨I40, J, rfl, ⟨(by show 0 ≤ (I40 0 0).toInt ∧ (I40 0 0).toInt ≤ 719; rw [eI40, z_up_k (by decide), eI37, z_up_n (by decide), eI35, z_up_n (by decide), eI33, z_up_n (by decide), eI31, z_up_n (by decide), eI29, z_up_n (by decide)]; exact hma.1), (by show 0 ≤ (I40 0 1).toInt ∧ (I40 0 1).toInt ≤ 30; rw [eI40, z_up_s]; omega), (by show 0 ≤ (I40 0 2).toInt ∧ (I40 0 2).toInt ≤ 200; rw [eI40, z_up_k (by decide), eI37, z_up_n (by decide), eI35, z_up_n (by decide), eI33, z_up_n (by decide), eI31, z_up_n (by decide), eI29, z_up_n (by decide)]; exact hma.2.2)⟩, f41, (Or.inl ⟨by omega, by omega, (by have q9 : (I40 0 1) = x39 := (by rw [eI40, z_up_s]); show (I40 0 1).toInt = (I 0 1).toInt + 1; rw [q9]; first | done | omega), ⟨(fun j => by rw [eI40, z_up_n (by decide), eI37, z_up_n (by decide), eI35, z_up_n (by decide), eI33, z_up_n (by decide), eI31, z_up_n (by decide), eI29, z_up_j]), (fun j => by rw [eI40, z_up_n (by decide), eI37, z_up_n (by decide), eI35, z_up_n (by decide), eI33, z_up_n (by decide), eI31, z_up_j, eI29, z_up_n (by decide)]), (fun j => by rw [eI40, z_up_n (by decide), eI37, z_up_n (by decide), eI35, z_up_n (by decide), eI33, z_up_j, eI31, z_up_n (by decide), eI29, z_up_n (by decide)]), (fun j => by rw [eI40, z_up_n (by decide), eI37, z_up_n (by decide), eI35, z_up_j, eI33, z_up_n (by decide), eI31, z_up_n (by decide), eI29, z_up_n (by decide)]), (fun j => by rw [eI40, z_up_n (by decide), eI37, z_up_j, eI35, z_up_n (by decide), eI33, z_up_n (by decide), eI31, z_up_n (by decide), eI29, z_up_n (by decide)])⟩⟩)⟩
            · have g43 := z_f_eq rfl z_l30 c27
              refine lv_iconst (v := (-1)) hx hb dX12_holder_62 (by decide) ?_
              exact z_iret hx hb hr hK hS (Nat.le_of_ble_eq_true rfl) (Nat.le_of_ble_eq_true rfl) hlocks dX12_holder_63 (shM, ad, I, J, PM ad) hW ⟨I, J, rfl, ⟨(by show 0 ≤ (I 0 0).toInt ∧ (I 0 0).toInt ≤ 719; exact hma.1), (by show 0 ≤ (I 0 1).toInt ∧ (I 0 1).toInt ≤ 30; exact hma.2.1), (by show 0 ≤ (I 0 2).toInt ∧ (I 0 2).toInt ≤ 200; exact hma.2.2)⟩, z_fr_0, (Or.inr ⟨by omega, by decide, (by show (I 0 1).toInt = (I 0 1).toInt; omega), (fun j => ⟨rfl, rfl, rfl, rfl, rfl⟩)⟩)⟩
          · have h44 := h21
            have z45 := z_l0
            have z46 := z_l99
            refine lv_if_eq (tgt := 62) hx hb dX12_holder_50 (by decide) (fun c47 => ?_) (fun c47 => absurd (by decide) c47)
            refine lv_iconst (v := (-1)) hx hb dX12_holder_62 (by decide) ?_
            exact z_iret hx hb hr hK hS (Nat.le_of_ble_eq_true rfl) (Nat.le_of_ble_eq_true rfl) hlocks dX12_holder_63 (shM, ad, I, J, PM ad) hW ⟨I, J, rfl, ⟨(by show 0 ≤ (I 0 0).toInt ∧ (I 0 0).toInt ≤ 719; exact hma.1), (by show 0 ≤ (I 0 1).toInt ∧ (I 0 1).toInt ≤ 30; exact hma.2.1), (by show 0 ≤ (I 0 2).toInt ∧ (I 0 2).toInt ≤ 200; exact hma.2.2)⟩, z_fr_0, (Or.inr ⟨by omega, by decide, (by show (I 0 1).toInt = (I 0 1).toInt; omega), (fun j => ⟨rfl, rfl, rfl, rfl, rfl⟩)⟩)⟩
        · have h48 := h16
          have z49 := z_l0
          have z50 := z_l999
          refine lv_if_eq (tgt := 62) hx hb dX12_holder_39 (by decide) (fun c51 => ?_) (fun c51 => absurd (by decide) c51)
          refine lv_iconst (v := (-1)) hx hb dX12_holder_62 (by decide) ?_
          exact z_iret hx hb hr hK hS (Nat.le_of_ble_eq_true rfl) (Nat.le_of_ble_eq_true rfl) hlocks dX12_holder_63 (shM, ad, I, J, PM ad) hW ⟨I, J, rfl, ⟨(by show 0 ≤ (I 0 0).toInt ∧ (I 0 0).toInt ≤ 719; exact hma.1), (by show 0 ≤ (I 0 1).toInt ∧ (I 0 1).toInt ≤ 30; exact hma.2.1), (by show 0 ≤ (I 0 2).toInt ∧ (I 0 2).toInt ≤ 200; exact hma.2.2)⟩, z_fr_0, (Or.inr ⟨by omega, by decide, (by show (I 0 1).toInt = (I 0 1).toInt; omega), (fun j => ⟨rfl, rfl, rfl, rfl, rfl⟩)⟩)⟩
      · have h52 := h11
        have z53 := z_l1
        have z54 := z_l8
        refine lv_if_eq (tgt := 62) hx hb dX12_holder_27 (by decide) (fun c55 => ?_) (fun c55 => absurd (by decide) c55)
        refine lv_iconst (v := (-1)) hx hb dX12_holder_62 (by decide) ?_
        exact z_iret hx hb hr hK hS (Nat.le_of_ble_eq_true rfl) (Nat.le_of_ble_eq_true rfl) hlocks dX12_holder_63 (shM, ad, I, J, PM ad) hW ⟨I, J, rfl, ⟨(by show 0 ≤ (I 0 0).toInt ∧ (I 0 0).toInt ≤ 719; exact hma.1), (by show 0 ≤ (I 0 1).toInt ∧ (I 0 1).toInt ≤ 30; exact hma.2.1), (by show 0 ≤ (I 0 2).toInt ∧ (I 0 2).toInt ≤ 200; exact hma.2.2)⟩, z_fr_0, (Or.inr ⟨by omega, by decide, (by show (I 0 1).toInt = (I 0 1).toInt; omega), (fun j => ⟨rfl, rfl, rfl, rfl, rfl⟩)⟩)⟩
    · have h56 := h6
      have z57 := z_l0
      have z58 := z_l9
      refine lv_if_eq (tgt := 62) hx hb dX12_holder_17 (by decide) (fun c59 => ?_) (fun c59 => absurd (by decide) c59)
      refine lv_iconst (v := (-1)) hx hb dX12_holder_62 (by decide) ?_
      exact z_iret hx hb hr hK hS (Nat.le_of_ble_eq_true rfl) (Nat.le_of_ble_eq_true rfl) hlocks dX12_holder_63 (shM, ad, I, J, PM ad) hW ⟨I, J, rfl, ⟨(by show 0 ≤ (I 0 0).toInt ∧ (I 0 0).toInt ≤ 719; exact hma.1), (by show 0 ≤ (I 0 1).toInt ∧ (I 0 1).toInt ≤ 30; exact hma.2.1), (by show 0 ≤ (I 0 2).toInt ∧ (I 0 2).toInt ≤ 200; exact hma.2.2)⟩, z_fr_0, (Or.inr ⟨by omega, by decide, (by show (I 0 1).toInt = (I 0 1).toInt; omega), (fun j => ⟨rfl, rfl, rfl, rfl, rfl⟩)⟩)⟩
  · have h60 := h1
    have z61 := z_l1
    have z62 := z_l9
    refine lv_if_eq (tgt := 62) hx hb dX12_holder_7 (by decide) (fun c63 => ?_) (fun c63 => absurd (by decide) c63)
    refine lv_iconst (v := (-1)) hx hb dX12_holder_62 (by decide) ?_
    exact z_iret hx hb hr hK hS (Nat.le_of_ble_eq_true rfl) (Nat.le_of_ble_eq_true rfl) hlocks dX12_holder_63 (shM, ad, I, J, PM ad) hW ⟨I, J, rfl, ⟨(by show 0 ≤ (I 0 0).toInt ∧ (I 0 0).toInt ≤ 719; exact hma.1), (by show 0 ≤ (I 0 1).toInt ∧ (I 0 1).toInt ≤ 30; exact hma.2.1), (by show 0 ≤ (I 0 2).toInt ∧ (I 0 2).toInt ≤ 200; exact hma.2.2)⟩, z_fr_0, (Or.inr ⟨by omega, by decide, (by show (I 0 1).toInt = (I 0 1).toInt; omega), (fun j => ⟨rfl, rfl, rfl, rfl, rfl⟩)⟩)⟩
end SG60z6
section SG60z8


/-! the BOOKS -/
/-- a BOOK's row on both sides: the reference tells one more -/
noncomputable def z_RI (Ix Im : z_I) : Prop := ∀ b : Nat, b < 720 → (Im 31 b).toInt = (Ix 27 b).toInt + 1 ∧ -1 ≤ (Ix 27 b).toInt ∧ (Ix 27 b).toInt ≤ 99
theorem z_RI_same {Ix Im Ix1 Im1 : z_I} (h : z_RI Ix Im) (hx : ∀ j, Ix1 27 j = Ix 27 j) (hm : ∀ j, Im1 31 j = Im 31 j) : z_RI Ix1 Im1 := fun b hb => by
  rw [hx, hm]
  exact h b hb
theorem z_RI_issue {Ix Im Ix1 Im1 : z_I} {n n1 : Nat} {a b v : Int32} (h : z_RI Ix Im) (hx : ∀ j, Ix1 27 j = if j = n then a else Ix 27 j) (hm : ∀ j, Im1 31 j = if j = n1 then v else Im 31 j) (en : n1 = n) (ea : b = a) (ev : v = b + 1) (h1 : 0 ≤ a.toInt ∧ a.toInt ≤ 99) : z_RI Ix1 Im1 := fun j hj => by
  subst en ea
  rw [hx, hm]
  by_cases q : j = n1
  · rw [if_pos q, if_pos q]
    have hv : v.toInt = b.toInt + 1 := z_tadd ev rfl (show (1 : Int32).toInt = 1 by decide) (by omega) (by omega)
    exact ⟨hv, by omega, h1.2⟩
  · rw [if_neg q, if_neg q]
    exact h j hj
/-- UNITS are from 0 to 99 -/
theorem z_UX_b {c : z_C} {I : z_I} {SS : Nat → List zp_T} {h : Int32} {m kn r : Int} (hU : zv_UX c I SS h m kn r) : 0 ≤ r ∧ r ≤ 99 := by
  obtain ⟨b, _, ⟨_, q⟩ | ⟨k, _, _, q⟩⟩ := hU
  · omega
  · rw [q]
    exact zv_un_b
set_option maxHeartbeats 8000000 in
set_option maxRecDepth 100000 in
theorem sx_X0_isIssued_i (l : Launch) (G : z_G) (ad : Nat → Nat) (c : z_C) (I : z_I) (a1 : Int32) (a2 : Int32) (q1 : 0 ≤ a1.toInt ∧ a1.toInt ≤ 29) (q2 : 0 ≤ a2.toInt ∧ a2.toInt ≤ 23) : z_M l yX0_isIssued wsX0_isIssued { frames := 1, cells := 0, slots := 0, locals := 12 } [.ref (ad 26), .int a1, .int a2] G (shC c, ad, I, JX, PC c ad) (fun r u1 => u1 = (shC c, ad, I, JX, PC c ad) ∧ ((r = 1 ∧ ¬ (I 27 (24 * a1.toInt + a2.toInt).toNat).toInt = -1) ∨ (r = 0 ∧ (I 27 (24 * a1.toInt + a2.toInt).toNat).toInt = -1))) 0 0 := by
  intro sz
  refine z_headQ (cc := cX0_isIssued) (maxL := 4) (ret := (some .boolean)) (by decide) rfl (Nat.le_of_ble_eq_true rfl) ?_
  intro p e s m below meth c0 ls hIn hK hsz hW hl
  obtain ⟨hx, hb, hr, hml, hown, hts, hlocks, hname⟩ := hIn
  subst hsz
  have hown : s.vm.findClass RX0 = some m.cls := hown
  have hA : ∀ q : Nat, s.heap.size ≤ q → z_A (shC c, ad, I, JX, PC c ad) s.heap.size q := fun q h => Or.inr h
  generalize hAe : z_A (shC c, ad, I, JX, PC c ad) s.heap.size = A at *
  have hS : va_S A s.heap s.heap [] := va_S.rf
  have hl : lv_has ls 4 [(0, .ref (ad 26)), (1, .int a1), (2, .int a2)] := hl
  refine lv_bipush (v := 24) hx hb dX0_isIssued_0 (by decide) ?_
  refine lv_iload_n hx hb dX0_isIssued_2 rfl (lv_at hl 1 rfl) ?_
  refine lv_imul hx hb dX0_isIssued_3 ?_
  refine lv_topi (fun x1 ex1 => ?_)
  have tx1 : x1.toInt = 24 * a1.toInt := z_tmul ex1 z_l24 rfl (by omega) (by omega)
  refine lv_iload_n hx hb dX0_isIssued_4 rfl (lv_at hl 2 rfl) ?_
  refine lv_iadd hx hb dX0_isIssued_5 ?_
  refine lv_topi (fun x2 ex2 => ?_)
  have tx2 : x2.toInt = x1.toInt + a2.toInt := z_tadd ex2 rfl rfl (by omega) (by omega)
  refine lv_istore_n (lv' := [(3, .int x2), (0, .ref (ad 26)), (1, .int a1), (2, .int a2)]) hx hb dX0_isIssued_6 rfl hl (by decide) rfl (fun ls hl => ?_)
  refine lv_iload_n hx hb dX0_isIssued_7 rfl (lv_at hl 0 rfl) ?_
  refine lv_if_lt (tgt := 34) hx hb dX0_isIssued_8 (by decide) (fun c3 => (by have g := z_f_lt rfl z_l0 c3; omega)) (fun c3 => ?_)
  have g4 := z_f_nlt rfl z_l0 c3
  refine lv_iload_n hx hb dX0_isIssued_11 rfl (lv_at hl 0 rfl) ?_
  refine lv_aload_n hx hb dX0_isIssued_12 rfl (lv_at hl 1 rfl) ?_
  refine z_get (T := TX0) (N := 5) (ci := 0) (i := 26) (v := .ref (ad 27)) hx hb hts zj_X0_isIssued_X0 hown hK hW rfl rfl 0 (by decide) (hts (.fieldLink RX0 9 "PetrolBoard$Coupons" "issued" "[I") (me_s (me_l (List.mem_of_getElem? (i := 0) rfl)))) (fun _ h => h) rfl dX0_isIssued_13 ?_
  refine z_alen (i := 27) (v := 720) hx hb hK hW rfl (by simp [z_tys]) (by rfl) dX0_isIssued_16 ?_
  refine lv_icmp_ge (tgt := 34) hx hb dX0_isIssued_17 (by decide) (fun c5 => (by have g := z_f_ge rfl z_l720 c5; omega)) (fun c5 => ?_)
  have g6 := z_f_nge rfl z_l720 c5
  refine lv_aload_n hx hb dX0_isIssued_20 rfl (lv_at hl 1 rfl) ?_
  refine z_get (T := TX0) (N := 5) (ci := 0) (i := 26) (v := .ref (ad 27)) hx hb hts zj_X0_isIssued_X0 hown hK hW rfl rfl 0 (by decide) (hts (.fieldLink RX0 9 "PetrolBoard$Coupons" "issued" "[I") (me_s (me_l (List.mem_of_getElem? (i := 0) rfl)))) (fun _ h => h) rfl dX0_isIssued_21 ?_
  refine lv_iload_n hx hb dX0_isIssued_24 rfl (lv_at hl 0 rfl) ?_
  refine z_iald (i := 27) hx hb hK hW rfl (z_ix rfl (by omega) (by omega)) dX0_isIssued_25 ?_
  refine lv_topi (fun x7 ex7 => ?_)
  have hx9 : x2.toInt = 24 * a1.toInt + a2.toInt := by omega
  have hv8 : (I 27 (24 * a1.toInt + a2.toInt).toNat).toInt = x7.toInt := by rw [ex7]; show _ = (I 27 x2.toInt.toNat).toInt; rw [hx9]
  refine lv_iconst (v := (-1)) hx hb dX0_isIssued_26 (by decide) ?_
  refine lv_icmp_eq (tgt := 34) hx hb dX0_isIssued_27 (by decide) (fun c10 => ?_) (fun c10 => ?_)
  · have g11 := z_f_eq rfl z_lm1 c10
    have b12 := Int32.toInt_lt x7
    refine lv_iconst (v := 0) hx hb dX0_isIssued_34 (by decide) ?_
    exact z_zret hx hb hr (by decide) hK hS (Nat.le_of_ble_eq_true rfl) (Nat.le_of_ble_eq_true rfl) hlocks dX0_isIssued_35 (shC c, ad, I, JX, PC c ad) hW ⟨rfl, (Or.inr ⟨rfl, by omega⟩)⟩
  · have g13 := z_f_ne rfl z_lm1 c10
    have b14 := Int32.toInt_lt x7
    refine lv_iconst (v := 1) hx hb dX0_isIssued_30 (by decide) ?_
    refine lv_goto (tgt := 35) hx hb dX0_isIssued_31 (by decide) ?_
    exact z_zret hx hb hr (by decide) hK hS (Nat.le_of_ble_eq_true rfl) (Nat.le_of_ble_eq_true rfl) hlocks dX0_isIssued_35 (shC c, ad, I, JX, PC c ad) hW ⟨rfl, (Or.inl ⟨rfl, by omega⟩)⟩
noncomputable def L_X0_add_i : z_L := [(27, 999), (26, 3)]
set_option maxHeartbeats 8000000 in
set_option maxRecDepth 100000 in
theorem sx_X0_add_i (l : Launch) (G : z_G) (ad : Nat → Nat) (c : z_C) (I : z_I) (a1 : Int32) (a2 : Int32) (a3 : Int32) (q1 : 0 ≤ a1.toInt ∧ a1.toInt ≤ 29) (q2 : 0 ≤ a2.toInt ∧ a2.toInt ≤ 23) : z_M l yX0_add wsX0_add { frames := 1, cells := 0, slots := 0, locals := 12 } [.ref (ad 26), .int a1, .int a2, .int a3] G (shC c, ad, I, JX, PC c ad) (fun r u1 => ∃ I1 : z_I, u1 = (shC c, ad, I1, JX, PC c ad) ∧ z_fr L_X0_add_i I1 I ∧ r = a3 ∧ (∀ j, I1 27 j = if j = (24 * a1.toInt + a2.toInt).toNat then a3 else I 27 j) ∧ I1 26 3 = I 26 3 + 1) 0 0 := by
  intro sz
  refine z_headQ (cc := cX0_add) (maxL := 5) (ret := (some .int)) (by decide) rfl (Nat.le_of_ble_eq_true rfl) ?_
  intro p e s m below meth c0 ls hIn hK hsz hW hl
  obtain ⟨hx, hb, hr, hml, hown, hts, hlocks, hname⟩ := hIn
  subst hsz
  have hown : s.vm.findClass RX0 = some m.cls := hown
  have hA : ∀ q : Nat, s.heap.size ≤ q → z_A (shC c, ad, I, JX, PC c ad) s.heap.size q := fun q h => Or.inr h
  generalize hAe : z_A (shC c, ad, I, JX, PC c ad) s.heap.size = A at *
  have hS : va_S A s.heap s.heap [] := va_S.rf
  have hl : lv_has ls 5 [(0, .ref (ad 26)), (1, .int a1), (2, .int a2), (3, .int a3)] := hl
  refine lv_bipush (v := 24) hx hb dX0_add_0 (by decide) ?_
  refine lv_iload_n hx hb dX0_add_2 rfl (lv_at hl 1 rfl) ?_
  refine lv_imul hx hb dX0_add_3 ?_
  refine lv_topi (fun x1 ex1 => ?_)
  have tx1 : x1.toInt = 24 * a1.toInt := z_tmul ex1 z_l24 rfl (by omega) (by omega)
  refine lv_iload_n hx hb dX0_add_4 rfl (lv_at hl 2 rfl) ?_
  refine lv_iadd hx hb dX0_add_5 ?_
  refine lv_topi (fun x2 ex2 => ?_)
  have tx2 : x2.toInt = x1.toInt + a2.toInt := z_tadd ex2 rfl rfl (by omega) (by omega)
  refine lv_istore (lv' := [(4, .int x2), (0, .ref (ad 26)), (1, .int a1), (2, .int a2), (3, .int a3)]) hx hb dX0_add_6 hl (by decide) rfl (fun ls hl => ?_)
  refine lv_iload hx hb dX0_add_8 (lv_at hl 0 rfl) ?_
  refine lv_if_lt (tgt := 23) hx hb dX0_add_10 (by decide) (fun c3 => (by have g := z_f_lt rfl z_l0 c3; omega)) (fun c3 => ?_)
  have g4 := z_f_nlt rfl z_l0 c3
  refine lv_iload hx hb dX0_add_13 (lv_at hl 0 rfl) ?_
  refine lv_aload_n hx hb dX0_add_15 rfl (lv_at hl 1 rfl) ?_
  refine z_get (T := TX0) (N := 5) (ci := 0) (i := 26) (v := .ref (ad 27)) hx hb hts zj_X0_add_X0 hown hK hW rfl rfl 0 (by decide) (hts (.fieldLink RX0 9 "PetrolBoard$Coupons" "issued" "[I") (me_s (me_l (List.mem_of_getElem? (i := 0) rfl)))) (fun _ h => h) rfl dX0_add_16 ?_
  refine z_alen (i := 27) (v := 720) hx hb hK hW rfl (by simp [z_tys]) (by rfl) dX0_add_19 ?_
  refine lv_icmp_lt (tgt := 25) hx hb dX0_add_20 (by decide) (fun c5 => ?_) (fun c5 => (by have g := z_f_nlt rfl z_l720 c5; omega))
  have g6 := z_f_lt rfl z_l720 c5
  refine lv_aload_n hx hb dX0_add_25 rfl (lv_at hl 1 rfl) ?_
  refine z_get (T := TX0) (N := 5) (ci := 0) (i := 26) (v := .ref (ad 27)) hx hb hts zj_X0_add_X0 hown hK hW rfl rfl 0 (by decide) (hts (.fieldLink RX0 9 "PetrolBoard$Coupons" "issued" "[I") (me_s (me_l (List.mem_of_getElem? (i := 0) rfl)))) (fun _ h => h) rfl dX0_add_26 ?_
  refine lv_iload hx hb dX0_add_29 (lv_at hl 0 rfl) ?_
  refine lv_iload_n hx hb dX0_add_31 rfl (lv_at hl 4 rfl) ?_
  refine z_iast (i := 27) hx hb hK hW hS rfl (z_ix rfl (by omega) (by omega)) dX0_add_32 (fun H locs hz1 hW hS => ?_)
  obtain ⟨I7, eI7⟩ : ∃ K : z_I, K = z_up I 27 x2.toNatClampNeg a3 := ⟨_, rfl⟩
  rw [← eI7] at hW
  have f8 := z_fr_a z_fr_0 (show z_wa L_X0_add_i 27 = true by decide) eI7
  refine lv_aload_n hx hb dX0_add_33 rfl (lv_at hl 1 rfl) ?_
  refine lv_dup hx hb dX0_add_34 rfl ?_
  refine z_get (T := TX0) (N := 5) (ci := 0) (i := 26) (v := .int (I 26 3)) hx hb hts zj_X0_add_X0 hown hK hW rfl rfl 3 (by decide) (hts (.fieldLink RX0 27 "PetrolBoard$Coupons" "books" "I") (me_s (me_l (List.mem_of_getElem? (i := 1) rfl)))) (fun _ h => h) (congrArg Value.int (by rw [eI7, z_up_n (by decide)])) dX0_add_35 ?_
  refine lv_iconst (v := 1) hx hb dX0_add_38 (by decide) ?_
  refine lv_iadd hx hb dX0_add_39 ?_
  refine lv_topi (fun x9 ex9 => ?_)
  refine z_put (T := TX0) (N := 5) (ci := 0) (i := 26) (v := .int x9) (I1 := z_up I7 26 3 x9) (J1 := JX) (P1 := PC c ad) hx hb hts zj_X0_add_X0 tyX0 tyX0_ok nmX0 hown hK hW hS rfl rfl 3 (by decide) (hts (.fieldLink RX0 27 "PetrolBoard$Coupons" "books" "I") (me_s (me_l (List.mem_of_getElem? (i := 1) rfl)))) (fun _ h => h) rfl rfl rfl (by first | rfl | exact congrArg _ z_up_s) (fun a b h ty => z_vI h ty) dX0_add_40 (fun H locs hz1 hW hS => ?_)
  obtain ⟨I10, eI10⟩ : ∃ K : z_I, K = z_up I7 26 3 x9 := ⟨_, rfl⟩
  rw [← eI10] at hW
  have f11 := z_fr_k f8 (show z_wr L_X0_add_i 26 3 = true by decide) eI10
  refine lv_iload_n hx hb dX0_add_43 rfl (lv_at hl 4 rfl) ?_
  exact z_iret hx hb hr hK hS (Nat.le_of_ble_eq_true rfl) (Nat.le_of_ble_eq_true rfl) hlocks dX0_add_44 (shC c, ad, I10, JX, PC c ad) hW ⟨I10, rfl, f11, ⟨rfl, (fun j => by rw [eI10, z_up_n (by decide), eI7, z_up_j, (show x2.toNatClampNeg = (24 * a1.toInt + a2.toInt).toNat from congrArg Int.toNat (show x2.toInt = (24 * a1.toInt + a2.toInt) by omega))]), (by rw [eI10, z_up_s, ex9])⟩⟩
noncomputable def L_X11_issue_i : z_L := [(24, 999), (25, 999), (27, 999), (26, 3)]
set_option maxHeartbeats 8000000 in
set_option maxRecDepth 100000 in
theorem sx_X11_issue_i (l : Launch) (G : z_G) (ad : Nat → Nat) (c : z_C) (I : z_I) (hO : z_iO I) (hH : z_iH I) (hB : z_iB I) (SS : Nat → List zp_T) (a1 : Int32) (a2 : Int32) (hc : z_okc c) (h10 : c.1 ≤ 10) (hWu : zv_W c I SS) : z_M l yX11_issue wsX11_issue { frames := 6, cells := 0, slots := 0, locals := 160 } [.ref (ad 0), .int a1, .int a2] G (shC c, ad, I, JX, PC c ad) (fun r u1 => ∃ I1 : z_I, u1 = (shC c, ad, I1, JX, PC c ad) ∧ z_iO I1 ∧ z_iH I1 ∧ z_iB I1 ∧ z_fr L_X11_issue_i I1 I ∧ (((0 ≤ a1.toInt ∧ a1.toInt < (I 1 5).toInt ∧ 0 ≤ a2.toInt ∧ a2.toInt ≤ 23 ∧ (I 0 0).toInt / 30 ≤ a2.toInt ∧ a2.toInt ≤ (I 0 0).toInt / 30 + 1 ∧ (I 27 (24 * a1.toInt + a2.toInt).toNat).toInt = -1) ∧ zv_UX c I SS a1 a2.toInt (I 0 0).toInt r.toInt ∧ (∀ j, I1 27 j = if j = (24 * a1.toInt + a2.toInt).toNat then r else I 27 j) ∧ I1 26 3 = I 26 3 + 1) ∨ (¬ (0 ≤ a1.toInt ∧ a1.toInt < (I 1 5).toInt ∧ 0 ≤ a2.toInt ∧ a2.toInt ≤ 23 ∧ (I 0 0).toInt / 30 ≤ a2.toInt ∧ a2.toInt ≤ (I 0 0).toInt / 30 + 1 ∧ (I 27 (24 * a1.toInt + a2.toInt).toNat).toInt = -1) ∧ r.toInt = -1 ∧ (∀ j, I1 27 j = I 27 j) ∧ I1 26 3 = I 26 3))) 0 0 := sorry
noncomputable def L_X12_issue_i : z_L := [(24, 999), (30, 999), (31, 999), (0, 50)]
set_option maxHeartbeats 8000000 in
set_option maxRecDepth 100000 in
theorem sx_X12_issue_i (l : Launch) (G : z_G) (ad : Nat → Nat) (I : z_I) (J : z_J) (hma : z_ima I) (hmb : z_imb I) (hAtf : z_rg 11 0 288 I) (hAtm : z_rg 12 0 24 I) (hNd : z_Nd I) (hAsf : z_rg 19 0 6200 I) (hAst : z_rg 20 0 6200 I) (hAsc : z_rg 18 (-1) 6199 I) (hEx : z_Ex I) (FF : Nat → Nat) (RS : Nat → List zm_row) (a1 : Int32) (a2 : Int32) (hWm : zw_W I FF RS) : z_M l yX12_issue wsX12_issue { frames := 6, cells := 0, slots := 0, locals := 133 } [.ref (ad 0), .int a1, .int a2] G (shM, ad, I, J, PM ad) (fun r u1 => ∃ (I1 : z_I) (J1 : z_J), u1 = (shM, ad, I1, J1, PM ad) ∧ z_ima I1 ∧ z_imb I1 ∧ z_rg 11 0 288 I1 ∧ z_rg 12 0 24 I1 ∧ z_Nd I1 ∧ z_rg 19 0 6200 I1 ∧ z_rg 20 0 6200 I1 ∧ z_rg 18 (-1) 6199 I1 ∧ z_Ex I1 ∧ z_fr L_X12_issue_i I1 I ∧ (((0 ≤ a1.toInt ∧ a1.toInt < (I 0 1).toInt ∧ 0 ≤ a2.toInt ∧ a2.toInt ≤ 23 ∧ (I 0 0).toInt / 30 ≤ a2.toInt ∧ a2.toInt ≤ (I 0 0).toInt / 30 + 1 ∧ (I 31 (24 * a1.toInt + a2.toInt).toNat).toInt ≤ 0) ∧ zw_UX I RS a1 a2.toInt (I 0 0).toInt r.toInt ∧ ∃ v : Int32, v = r + 1 ∧ (∀ j, I1 31 j = if j = (24 * a1.toInt + a2.toInt).toNat then v else I 31 j) ∧ I1 0 50 = I 0 50 + 1) ∨ (¬ (0 ≤ a1.toInt ∧ a1.toInt < (I 0 1).toInt ∧ 0 ≤ a2.toInt ∧ a2.toInt ≤ 23 ∧ (I 0 0).toInt / 30 ≤ a2.toInt ∧ a2.toInt ≤ (I 0 0).toInt / 30 + 1 ∧ (I 31 (24 * a1.toInt + a2.toInt).toNat).toInt ≤ 0) ∧ r.toInt = -1 ∧ (∀ j, I1 31 j = I 31 j) ∧ I1 0 50 = I 0 50))) 0 0 := by
  intro sz
  refine z_headQ (cc := cX12_issue) (maxL := 4) (ret := (some .int)) (by decide) rfl (Nat.le_of_ble_eq_true rfl) ?_
  intro p e s m below meth c0 ls hIn hK hsz hW hl
  obtain ⟨hx, hb, hr, hml, hown, hts, hlocks, hname⟩ := hIn
  subst hsz
  have hown : s.vm.findClass RX12 = some m.cls := hown
  have hA : ∀ q : Nat, s.heap.size ≤ q → z_A (shM, ad, I, J, PM ad) s.heap.size q := fun q h => Or.inr h
  generalize hAe : z_A (shM, ad, I, J, PM ad) s.heap.size = A at *
  have hS : va_S A s.heap s.heap [] := va_S.rf
  have hl : lv_has ls 4 [(0, .ref (ad 0)), (1, .int a1), (2, .int a2)] := hl
  have nH9 := hma.2.1
  refine lv_aload_n hx hb dX12_issue_0 rfl (lv_at hl 0 rfl) ?_
  refine lv_iload_n hx hb dX12_issue_1 rfl (lv_at hl 1 rfl) ?_
  refine z_ci hW hS hA (va_runV (As := [.int a1]) (rest := []) ⟨hx, hb, hml, hown, hts⟩ (sx_X12_isHolder_e l G ad I J ⟨(by show 0 ≤ (I 0 0).toInt ∧ (I 0 0).toInt ≤ 719; exact hma.1), (by show 0 ≤ (I 0 1).toInt ∧ (I 0 1).toInt ≤ 30; exact hma.2.1), (by show 0 ≤ (I 0 2).toInt ∧ (I 0 2).toInt ≤ 200; exact hma.2.2)⟩ a1 _) (cwV 1 hts gX12_issue_X12_isHolder rfl rfl rfl (by decide +kernel) ⟨Nat.le_of_ble_eq_true rfl, Nat.le_of_ble_eq_true rfl⟩) (z_preV (i := 0) hK hW rfl rfl) rfl rfl hl.1 rfl (lv_room (Nat.le_of_ble_eq_true rfl)) dX12_issue_2 ⟨Nat.le_of_ble_eq_true rfl, Nat.le_of_ble_eq_true rfl⟩) (fun r u1 H locs hp hW hS => ?_)
  obtain ⟨e9, hp⟩ := hp
  rw [e9] at hW
  rcases hp with ⟨rfl, h1⟩ | ⟨rfl, h1⟩
  · have h2 := h1
    have r3 : 0 ≤ (I 0 1).toInt ∧ (I 0 1).toInt ≤ 30 := hma.2.1
    refine lv_if_eq (tgt := 53) hx hb dX12_issue_5 (by decide) (fun c4 => absurd c4 (by decide)) (fun c4 => ?_)
    refine lv_iload_n hx hb dX12_issue_8 rfl (lv_at hl 2 rfl) ?_
    refine z_ci hW hS hA (va_runS (As := [.int a2]) (rest := []) ⟨hx, hb, hml, hown, hts⟩ (sx_X12_isMonth_e l G ad I J  a2 _) (va_cwS 1 hts gX12_issue_X12_isMonth rfl rfl rfl (by decide +kernel) ⟨Nat.le_of_ble_eq_true rfl, Nat.le_of_ble_eq_true rfl⟩) (z_preS hK hW) rfl rfl hl.1 rfl (lv_room (Nat.le_of_ble_eq_true rfl)) dX12_issue_9 ⟨Nat.le_of_ble_eq_true rfl, Nat.le_of_ble_eq_true rfl⟩) (fun r u1 H locs hp hW hS => ?_)
    obtain ⟨e9, hp⟩ := hp
    rw [e9] at hW
    rcases hp with ⟨rfl, h5⟩ | ⟨rfl, h5⟩
    · have h6 := h5
      refine lv_if_eq (tgt := 53) hx hb dX12_issue_12 (by decide) (fun c7 => absurd c7 (by decide)) (fun c7 => ?_)
      refine lv_iload_n hx hb dX12_issue_15 rfl (lv_at hl 2 rfl) ?_
      refine lv_aload_n hx hb dX12_issue_16 rfl (lv_at hl 0 rfl) ?_
      have r8 : 0 ≤ (I 0 0).toInt ∧ (I 0 0).toInt ≤ 719 := hma.1
      refine z_get (T := TX12) (N := 96) (ci := 12) (i := 0) (v := .int (I 0 0)) hx hb hts zj_X12_issue_X12 hown hK hW rfl rfl 0 (by decide) (hts (.fieldLink RX12 232 "PetrolBoardModel" "today" "I") (me_s (me_l (me_l (List.mem_of_getElem? (i := 0) rfl))))) (fun _ h => h) rfl dX12_issue_17 ?_
      refine lv_bipush (v := 30) hx hb dX12_issue_20 (by decide) ?_
      refine lv_idiv hx hb dX12_issue_22 (by decide) ?_
      refine lv_topi (fun x9 ex9 => ?_)
      have tx9 := z_tdiv ex9 rfl z_l30 (by decide)
      refine lv_icmp_lt (tgt := 53) hx hb dX12_issue_23 (by decide) (fun c10 => ?_) (fun c10 => ?_)
      · have g11 := z_f_lt rfl rfl c10
        refine lv_iconst (v := (-1)) hx hb dX12_issue_53 (by decide) ?_
        exact z_iret hx hb hr hK hS (Nat.le_of_ble_eq_true rfl) (Nat.le_of_ble_eq_true rfl) hlocks dX12_issue_54 (shM, ad, I, J, PM ad) hW ⟨I, J, rfl, ⟨(by show 0 ≤ (I 0 0).toInt ∧ (I 0 0).toInt ≤ 719; exact hma.1), (by show 0 ≤ (I 0 1).toInt ∧ (I 0 1).toInt ≤ 30; exact hma.2.1), (by show 0 ≤ (I 0 2).toInt ∧ (I 0 2).toInt ≤ 200; exact hma.2.2)⟩, ⟨(by show 0 ≤ (I 0 13).toInt ∧ (I 0 13).toInt ≤ 12; exact hmb.1), (by show 0 ≤ (I 0 14).toInt ∧ (I 0 14).toInt ≤ 288; exact hmb.2)⟩, hAtf, hAtm, hNd, hAsf, hAst, hAsc, hEx, z_fr_0, (Or.inr ⟨by omega, by decide, (fun j => rfl), rfl⟩)⟩
      · have g12 := z_f_nlt rfl rfl c10
        refine lv_iload_n hx hb dX12_issue_26 rfl (lv_at hl 2 rfl) ?_
        refine lv_aload_n hx hb dX12_issue_27 rfl (lv_at hl 0 rfl) ?_
        refine z_get (T := TX12) (N := 96) (ci := 12) (i := 0) (v := .int (I 0 0)) hx hb hts zj_X12_issue_X12 hown hK hW rfl rfl 0 (by decide) (hts (.fieldLink RX12 232 "PetrolBoardModel" "today" "I") (me_s (me_l (me_l (List.mem_of_getElem? (i := 0) rfl))))) (fun _ h => h) rfl dX12_issue_28 ?_
        refine lv_bipush (v := 30) hx hb dX12_issue_31 (by decide) ?_
        refine lv_idiv hx hb dX12_issue_33 (by decide) ?_
        refine lv_topi (fun x13 ex13 => ?_)
        have tx13 := z_tdiv ex13 rfl z_l30 (by decide)
        refine lv_iconst (v := 1) hx hb dX12_issue_34 (by decide) ?_
        refine lv_iadd hx hb dX12_issue_35 ?_
        refine lv_topi (fun x14 ex14 => ?_)
        have tx14 : x14.toInt = x13.toInt + 1 := z_tadd ex14 rfl z_l1 (by omega) (by omega)
        refine lv_icmp_gt (tgt := 53) hx hb dX12_issue_36 (by decide) (fun c15 => ?_) (fun c15 => ?_)
        · have g16 := z_f_gt rfl rfl c15
          refine lv_iconst (v := (-1)) hx hb dX12_issue_53 (by decide) ?_
          exact z_iret hx hb hr hK hS (Nat.le_of_ble_eq_true rfl) (Nat.le_of_ble_eq_true rfl) hlocks dX12_issue_54 (shM, ad, I, J, PM ad) hW ⟨I, J, rfl, ⟨(by show 0 ≤ (I 0 0).toInt ∧ (I 0 0).toInt ≤ 719; exact hma.1), (by show 0 ≤ (I 0 1).toInt ∧ (I 0 1).toInt ≤ 30; exact hma.2.1), (by show 0 ≤ (I 0 2).toInt ∧ (I 0 2).toInt ≤ 200; exact hma.2.2)⟩, ⟨(by show 0 ≤ (I 0 13).toInt ∧ (I 0 13).toInt ≤ 12; exact hmb.1), (by show 0 ≤ (I 0 14).toInt ∧ (I 0 14).toInt ≤ 288; exact hmb.2)⟩, hAtf, hAtm, hNd, hAsf, hAst, hAsc, hEx, z_fr_0, (Or.inr ⟨by omega, by decide, (fun j => rfl), rfl⟩)⟩
        · have g17 := z_f_ngt rfl rfl c15
          refine lv_aload_n hx hb dX12_issue_39 rfl (lv_at hl 0 rfl) ?_
          refine z_get (T := TX12) (N := 96) (ci := 12) (i := 0) (v := .ref (ad 31)) hx hb hts zj_X12_issue_X12 hown hK hW rfl rfl 49 (by decide) (hts (.fieldLink RX12 106 "PetrolBoardModel" "issued" "[I") (me_s (me_l (me_l (List.mem_of_getElem? (i := 1) rfl))))) (fun _ h => h) rfl dX12_issue_40 ?_
          refine lv_bipush (v := 24) hx hb dX12_issue_43 (by decide) ?_
          refine lv_iload_n hx hb dX12_issue_45 rfl (lv_at hl 1 rfl) ?_
          refine lv_imul hx hb dX12_issue_46 ?_
          refine lv_topi (fun x18 ex18 => ?_)
          have tx18 : x18.toInt = 24 * a1.toInt := z_tmul ex18 z_l24 rfl (by omega) (by omega)
          refine lv_iload_n hx hb dX12_issue_47 rfl (lv_at hl 2 rfl) ?_
          refine lv_iadd hx hb dX12_issue_48 ?_
          refine lv_topi (fun x19 ex19 => ?_)
          have tx19 : x19.toInt = x18.toInt + a2.toInt := z_tadd ex19 rfl rfl (by omega) (by omega)
          refine z_iald (i := 31) hx hb hK hW rfl (z_ix rfl (by omega) (by omega)) dX12_issue_49 ?_
          refine lv_topi (fun x20 ex20 => ?_)
          have hx22 : x19.toInt = 24 * a1.toInt + a2.toInt := by omega
          have hv21 : (I 31 (24 * a1.toInt + a2.toInt).toNat).toInt = x20.toInt := by rw [ex20]; show _ = (I 31 x19.toInt.toNat).toInt; rw [hx22]
          refine lv_if_le (tgt := 55) hx hb dX12_issue_50 (by decide) (fun c23 => ?_) (fun c23 => ?_)
          · have g24 := z_f_le rfl z_l0 c23
            have b25 := Int32.toInt_lt x20
            refine lv_aload_n hx hb dX12_issue_55 rfl (lv_at hl 0 rfl) ?_
            refine lv_iload_n hx hb dX12_issue_56 rfl (lv_at hl 1 rfl) ?_
            refine lv_iload_n hx hb dX12_issue_57 rfl (lv_at hl 2 rfl) ?_
            refine lv_aload_n hx hb dX12_issue_58 rfl (lv_at hl 0 rfl) ?_
            refine z_get (T := TX12) (N := 96) (ci := 12) (i := 0) (v := .int (I 0 0)) hx hb hts zj_X12_issue_X12 hown hK hW rfl rfl 0 (by decide) (hts (.fieldLink RX12 232 "PetrolBoardModel" "today" "I") (me_s (me_l (me_l (List.mem_of_getElem? (i := 0) rfl))))) (fun _ h => h) rfl dX12_issue_59 ?_
            refine z_ci hW hS hA (va_runV (As := [.int a1, .int a2, .int (I 0 0)]) (rest := []) ⟨hx, hb, hml, hown, hts⟩ (sx_X12_unitsOf_x l G ad I J ⟨(by show 0 ≤ (I 0 0).toInt ∧ (I 0 0).toInt ≤ 719; exact hma.1), (by show 0 ≤ (I 0 1).toInt ∧ (I 0 1).toInt ≤ 30; exact hma.2.1), (by show 0 ≤ (I 0 2).toInt ∧ (I 0 2).toInt ≤ 200; exact hma.2.2)⟩ ⟨(by show 0 ≤ (I 0 13).toInt ∧ (I 0 13).toInt ≤ 12; exact hmb.1), (by show 0 ≤ (I 0 14).toInt ∧ (I 0 14).toInt ≤ 288; exact hmb.2)⟩ hAtf hAtm hNd hAsf hAst hAsc hEx FF RS a1 a2 (I 0 0) (by omega) (by omega) hWm _) (cwV 3 hts gX12_issue_X12_unitsOf rfl rfl rfl (by decide +kernel) ⟨Nat.le_of_ble_eq_true rfl, Nat.le_of_ble_eq_true rfl⟩) (z_preV (i := 0) hK hW rfl rfl) rfl rfl hl.1 rfl (lv_room (Nat.le_of_ble_eq_true rfl)) dX12_issue_62 ⟨Nat.le_of_ble_eq_true rfl, Nat.le_of_ble_eq_true rfl⟩) (fun r u1 H locs hp hW hS => ?_)
            obtain ⟨I26, J28, e9, hI26ma, hI26mb, hI26Atf, hI26Atm, hI26Nd, hI26Asf, hI26Ast, hI26Asc, hI26Ex, fI26, hp⟩ := hp
            rw [e9] at hW
            have f27 := z_fr_sub (L := L_X12_issue_i) z_fr_0 fI26 (by decide)
            refine lv_topi (fun x29 ex29 => ?_)
            rw [← ex29] at hp
            have hU30 := hp
            refine lv_istore_n (lv' := [(3, .int x29), (0, .ref (ad 0)), (1, .int a1), (2, .int a2)]) hx hb dX12_issue_65 rfl hl (by decide) rfl (fun ls hl => ?_)
            refine lv_aload_n hx hb dX12_issue_66 rfl (lv_at hl 1 rfl) ?_
            refine z_get (T := TX12) (N := 96) (ci := 12) (i := 0) (v := .ref (ad 31)) hx hb hts zj_X12_issue_X12 hown hK hW rfl rfl 49 (by decide) (hts (.fieldLink RX12 106 "PetrolBoardModel" "issued" "[I") (me_s (me_l (me_l (List.mem_of_getElem? (i := 1) rfl))))) (fun _ h => h) rfl dX12_issue_67 ?_
            refine lv_bipush (v := 24) hx hb dX12_issue_70 (by decide) ?_
            refine lv_iload_n hx hb dX12_issue_72 rfl (lv_at hl 2 rfl) ?_
            refine lv_imul hx hb dX12_issue_73 ?_
            refine lv_topi (fun x31 ex31 => ?_)
            have tx31 : x31.toInt = 24 * a1.toInt := z_tmul ex31 z_l24 rfl (by omega) (by omega)
            refine lv_iload_n hx hb dX12_issue_74 rfl (lv_at hl 3 rfl) ?_
            refine lv_iadd hx hb dX12_issue_75 ?_
            refine lv_topi (fun x32 ex32 => ?_)
            have tx32 : x32.toInt = x31.toInt + a2.toInt := z_tadd ex32 rfl rfl (by omega) (by omega)
            refine lv_iload_n hx hb dX12_issue_76 rfl (lv_at hl 0 rfl) ?_
            refine lv_iconst (v := 1) hx hb dX12_issue_77 (by decide) ?_
            refine lv_iadd hx hb dX12_issue_78 ?_
            refine lv_topi (fun x33 ex33 => ?_)
            refine z_iast (i := 31) hx hb hK hW hS rfl (z_ix rfl (by omega) (by omega)) dX12_issue_79 (fun H locs hz1 hW hS => ?_)
            obtain ⟨I34, eI34⟩ : ∃ K : z_I, K = z_up I26 31 x32.toNatClampNeg x33 := ⟨_, rfl⟩
            rw [← eI34] at hW
            have f35 := z_fr_a f27 (show z_wa L_X12_issue_i 31 = true by decide) eI34
            have a36 := z_rg_n hI26Atf (by decide) eI34
            have a37 := z_rg_n hI26Atm (by decide) eI34
            have a38 := z_Nd_n hI26Nd (by decide) eI34
            have a39 := z_rg_n hI26Asf (by decide) eI34
            have a40 := z_rg_n hI26Ast (by decide) eI34
            have a41 := z_rg_n hI26Asc (by decide) eI34
            have a42 := z_Ex_n hI26Ex (by decide) eI34
            refine lv_aload_n hx hb dX12_issue_80 rfl (lv_at hl 1 rfl) ?_
            refine lv_dup hx hb dX12_issue_81 rfl ?_
            refine z_get (T := TX12) (N := 96) (ci := 12) (i := 0) (v := .int (I26 0 50)) hx hb hts zj_X12_issue_X12 hown hK hW rfl rfl 50 (by decide) (hts (.fieldLink RX12 449 "PetrolBoardModel" "books" "I") (me_s (me_l (me_l (List.mem_of_getElem? (i := 2) rfl))))) (fun _ h => h) (congrArg Value.int (by rw [eI34, z_up_n (by decide)])) dX12_issue_82 ?_
            refine lv_iconst (v := 1) hx hb dX12_issue_85 (by decide) ?_
            refine lv_iadd hx hb dX12_issue_86 ?_
            refine lv_topi (fun x43 ex43 => ?_)
            refine z_put (T := TX12) (N := 96) (ci := 12) (i := 0) (v := .int x43) (I1 := z_up I34 0 50 x43) (J1 := J28) (P1 := PM ad) hx hb hts zj_X12_issue_X12 tyX12 tyX12_ok nmX12 hown hK hW hS rfl rfl 50 (by decide) (hts (.fieldLink RX12 449 "PetrolBoardModel" "books" "I") (me_s (me_l (me_l (List.mem_of_getElem? (i := 2) rfl))))) (fun _ h => h) rfl rfl rfl (by first | rfl | exact congrArg _ z_up_s) (fun a b h ty => z_vI h ty) dX12_issue_87 (fun H locs hz1 hW hS => ?_)
            obtain ⟨I44, eI44⟩ : ∃ K : z_I, K = z_up I34 0 50 x43 := ⟨_, rfl⟩
            rw [← eI44] at hW
            have f45 := z_fr_k f35 (show z_wr L_X12_issue_i 0 50 = true by decide) eI44
            have a46 := z_rg_n a36 (by decide) eI44
            have a47 := z_rg_n a37 (by decide) eI44
            have a48 := z_Nd_n a38 (by decide) eI44
            have a49 := z_rg_n a39 (by decide) eI44
            have a50 := z_rg_n a40 (by decide) eI44
            have a51 := z_rg_n a41 (by decide) eI44
            have a52 := z_Ex_n a42 (by decide) eI44
            refine lv_iload_n hx hb dX12_issue_90 rfl (lv_at hl 0 rfl) ?_
            exact z_iret hx hb hr hK hS (Nat.le_of_ble_eq_true rfl) (Nat.le_of_ble_eq_true rfl) hlocks dX12_issue_91 (shM, ad, I44, J28, PM ad) hW ⟨I44, J28, rfl, ⟨(by show 0 ≤ (I44 0 0).toInt ∧ (I44 0 0).toInt ≤ 719; rw [eI44, z_up_k (by decide), eI34, z_up_n (by decide)]; exact hI26ma.1), (by show 0 ≤ (I44 0 1).toInt ∧ (I44 0 1).toInt ≤ 30; rw [eI44, z_up_k (by decide), eI34, z_up_n (by decide)]; exact hI26ma.2.1), (by show 0 ≤ (I44 0 2).toInt ∧ (I44 0 2).toInt ≤ 200; rw [eI44, z_up_k (by decide), eI34, z_up_n (by decide)]; exact hI26ma.2.2)⟩, ⟨(by show 0 ≤ (I44 0 13).toInt ∧ (I44 0 13).toInt ≤ 12; rw [eI44, z_up_k (by decide), eI34, z_up_n (by decide)]; exact hI26mb.1), (by show 0 ≤ (I44 0 14).toInt ∧ (I44 0 14).toInt ≤ 288; rw [eI44, z_up_k (by decide), eI34, z_up_n (by decide)]; exact hI26mb.2)⟩, a46, a47, a48, a49, a50, a51, a52, f45, (Or.inl ⟨by omega, (hU30), x33, ex33, (fun j => by rw [eI44, z_up_n (by decide), eI34, z_up_j, fI26 31 j (z_wr_c (by decide)), (show x32.toNatClampNeg = (24 * a1.toInt + a2.toInt).toNat from congrArg Int.toNat (show x32.toInt = (24 * a1.toInt + a2.toInt) by omega))]), (by rw [eI44, z_up_s, ex43, fI26 0 50 (by decide)])⟩)⟩
          · have g53 := z_f_nle rfl z_l0 c23
            have b54 := Int32.toInt_lt x20
            refine lv_iconst (v := (-1)) hx hb dX12_issue_53 (by decide) ?_
            exact z_iret hx hb hr hK hS (Nat.le_of_ble_eq_true rfl) (Nat.le_of_ble_eq_true rfl) hlocks dX12_issue_54 (shM, ad, I, J, PM ad) hW ⟨I, J, rfl, ⟨(by show 0 ≤ (I 0 0).toInt ∧ (I 0 0).toInt ≤ 719; exact hma.1), (by show 0 ≤ (I 0 1).toInt ∧ (I 0 1).toInt ≤ 30; exact hma.2.1), (by show 0 ≤ (I 0 2).toInt ∧ (I 0 2).toInt ≤ 200; exact hma.2.2)⟩, ⟨(by show 0 ≤ (I 0 13).toInt ∧ (I 0 13).toInt ≤ 12; exact hmb.1), (by show 0 ≤ (I 0 14).toInt ∧ (I 0 14).toInt ≤ 288; exact hmb.2)⟩, hAtf, hAtm, hNd, hAsf, hAst, hAsc, hEx, z_fr_0, (Or.inr ⟨by omega, by decide, (fun j => rfl), rfl⟩)⟩
    · have h55 := h5
      refine lv_if_eq (tgt := 53) hx hb dX12_issue_12 (by decide) (fun c56 => ?_) (fun c56 => absurd (by decide) c56)
      refine lv_iconst (v := (-1)) hx hb dX12_issue_53 (by decide) ?_
      exact z_iret hx hb hr hK hS (Nat.le_of_ble_eq_true rfl) (Nat.le_of_ble_eq_true rfl) hlocks dX12_issue_54 (shM, ad, I, J, PM ad) hW ⟨I, J, rfl, ⟨(by show 0 ≤ (I 0 0).toInt ∧ (I 0 0).toInt ≤ 719; exact hma.1), (by show 0 ≤ (I 0 1).toInt ∧ (I 0 1).toInt ≤ 30; exact hma.2.1), (by show 0 ≤ (I 0 2).toInt ∧ (I 0 2).toInt ≤ 200; exact hma.2.2)⟩, ⟨(by show 0 ≤ (I 0 13).toInt ∧ (I 0 13).toInt ≤ 12; exact hmb.1), (by show 0 ≤ (I 0 14).toInt ∧ (I 0 14).toInt ≤ 288; exact hmb.2)⟩, hAtf, hAtm, hNd, hAsf, hAst, hAsc, hEx, z_fr_0, (Or.inr ⟨by omega, by decide, (fun j => rfl), rfl⟩)⟩
  · have h57 := h1
    have r58 : 0 ≤ (I 0 1).toInt ∧ (I 0 1).toInt ≤ 30 := hma.2.1
    refine lv_if_eq (tgt := 53) hx hb dX12_issue_5 (by decide) (fun c59 => ?_) (fun c59 => absurd (by decide) c59)
    refine lv_iconst (v := (-1)) hx hb dX12_issue_53 (by decide) ?_
    exact z_iret hx hb hr hK hS (Nat.le_of_ble_eq_true rfl) (Nat.le_of_ble_eq_true rfl) hlocks dX12_issue_54 (shM, ad, I, J, PM ad) hW ⟨I, J, rfl, ⟨(by show 0 ≤ (I 0 0).toInt ∧ (I 0 0).toInt ≤ 719; exact hma.1), (by show 0 ≤ (I 0 1).toInt ∧ (I 0 1).toInt ≤ 30; exact hma.2.1), (by show 0 ≤ (I 0 2).toInt ∧ (I 0 2).toInt ≤ 200; exact hma.2.2)⟩, ⟨(by show 0 ≤ (I 0 13).toInt ∧ (I 0 13).toInt ≤ 12; exact hmb.1), (by show 0 ≤ (I 0 14).toInt ∧ (I 0 14).toInt ≤ 288; exact hmb.2)⟩, hAtf, hAtm, hNd, hAsf, hAst, hAsc, hEx, z_fr_0, (Or.inr ⟨by omega, by decide, (fun j => rfl), rfl⟩)⟩
end SG60z8
