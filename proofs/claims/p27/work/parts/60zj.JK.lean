section SG60z7


/-! the JOURNEYS' rows -/
noncomputable def z_jrX (I1 I : z_I) (n : Nat) (a1 a2 a3 a4 a5 : Int32) : Prop := (∀ j, I1 61 j = if j = n then a1 else I 61 j) ∧ (∀ j, I1 62 j = if j = n then a2 else I 62 j) ∧ (∀ j, I1 63 j = if j = n then a3 else I 63 j) ∧ (∀ j, I1 65 j = if j = n then a4 else I 65 j) ∧ (∀ j, I1 66 j = if j = n then a5 else I 66 j)
noncomputable def z_jrM (I1 I : z_I) (n : Nat) (a1 a2 a3 a4 a5 : Int32) : Prop := (∀ j, I1 59 j = if j = n then a1 else I 59 j) ∧ (∀ j, I1 60 j = if j = n then a2 else I 60 j) ∧ (∀ j, I1 61 j = if j = n then a3 else I 61 j) ∧ (∀ j, I1 63 j = if j = n then a4 else I 63 j) ∧ (∀ j, I1 64 j = if j = n then a5 else I 64 j)
noncomputable def z_jsX (I1 I : z_I) : Prop := ∀ j, I1 61 j = I 61 j ∧ I1 62 j = I 62 j ∧ I1 63 j = I 63 j ∧ I1 65 j = I 65 j ∧ I1 66 j = I 66 j
noncomputable def z_jsM (I1 I : z_I) : Prop := ∀ j, I1 59 j = I 59 j ∧ I1 60 j = I 60 j ∧ I1 61 j = I 61 j ∧ I1 63 j = I 63 j ∧ I1 64 j = I 64 j
noncomputable def z_RJ (Ix Im : z_I) : Prop := ∀ j : Nat, (j : Int) < (Ix 60 9).toInt → (Ix 61 j = Im 59 j ∧ Ix 62 j = Im 60 j ∧ Ix 63 j = Im 61 j ∧ Ix 65 j = Im 63 j ∧ Ix 66 j = Im 64 j) ∧ (0 ≤ (Ix 61 j).toInt ∧ (Ix 61 j).toInt < (Ix 1 5).toInt) ∧ (0 ≤ (Ix 65 j).toInt ∧ (Ix 65 j).toInt ≤ 719) ∧ (0 ≤ (Ix 66 j).toInt ∧ (Ix 66 j).toInt ≤ 99 ∧ (Ix 66 j).toInt / 10 ≠ (Ix 66 j).toInt % 10)
theorem z_RJ_same {Ix Im Ix1 Im1 : z_I} (h : z_RJ Ix Im) (eN : (Ix1 60 9).toInt = (Ix 60 9).toInt) (eH : (Ix 1 5).toInt ≤ (Ix1 1 5).toInt) (hx : z_jsX Ix1 Ix) (hm : z_jsM Im1 Im) : z_RJ Ix1 Im1 := fun j hj => by
  obtain ⟨a1, a2, a3, a4, a5⟩ := hx j
  obtain ⟨b1, b2, b3, b4, b5⟩ := hm j
  rw [a1, a2, a3, a4, a5, b1, b2, b3, b4, b5]
  obtain ⟨q1, ⟨q2, q3⟩, q4⟩ := h j (by omega)
  exact ⟨q1, ⟨q2, by omega⟩, q4⟩
theorem z_RJ_ask {Ix Im Ix1 Im1 : z_I} {n n1 : Nat} {a1 a2 a3 a4 a5 b1 b2 b3 b4 b5 : Int32} (h : z_RJ Ix Im) (eN : (Ix1 60 9).toInt = (Ix 60 9).toInt + 1) (eH : (Ix1 1 5).toInt = (Ix 1 5).toInt) (en : (n : Int) = (Ix 60 9).toInt) (en1 : n1 = n) (hx : z_jrX Ix1 Ix n a1 a2 a3 a4 a5) (hm : z_jrM Im1 Im n1 b1 b2 b3 b4 b5) (e1 : b1 = a1) (e2 : b2 = a2) (e3 : b3 = a3) (e4 : b4 = a4) (e5 : b5 = a5) (hr : (0 ≤ a1.toInt ∧ a1.toInt < (Ix 1 5).toInt) ∧ (0 ≤ a4.toInt ∧ a4.toInt ≤ 719) ∧ (0 ≤ a5.toInt ∧ a5.toInt ≤ 99 ∧ a5.toInt / 10 ≠ a5.toInt % 10)) : z_RJ Ix1 Im1 := fun j hj => by
  subst en1 e1 e2 e3 e4 e5
  obtain ⟨x1, x2, x3, x4, x5⟩ := hx
  obtain ⟨y1, y2, y3, y4, y5⟩ := hm
  rw [x1, x2, x3, x4, x5, y1, y2, y3, y4, y5, eH]
  by_cases q : j = n1
  · simp only [if_pos q]
    exact ⟨⟨trivial, trivial, trivial, trivial, trivial⟩, hr⟩
  · simp only [if_neg q]
    exact h j (by omega)
/-! the POOL -/
/-- the JOURNEYS of a DAY and a way, the first twelve -/
noncomputable def zq_l (D W : Nat → Int) (d w : Int) : Nat → List Nat
  | 0 => []
  | j + 1 => if (D j = d ∧ W j = w) ∧ (zq_l D W d w j).length < 12 then zq_l D W d w j ++ [j] else zq_l D W d w j
section ZQ
variable {D W D1 W1 : Nat → Int} {d w : Int}
theorem zq_l_y {j : Nat} (h : D j = d ∧ W j = w) (h12 : (zq_l D W d w j).length < 12) : zq_l D W d w (j + 1) = zq_l D W d w j ++ [j] := if_pos ⟨h, h12⟩
theorem zq_l_n {j : Nat} (h : ¬ (D j = d ∧ W j = w)) : zq_l D W d w (j + 1) = zq_l D W d w j := if_neg (fun q => h q.1)
theorem zq_l_12 {j : Nat} (h : 12 ≤ (zq_l D W d w j).length) : ∀ m : Nat, zq_l D W d w (j + m) = zq_l D W d w j
  | 0 => rfl
  | m + 1 => by
    have ih := zq_l_12 h m
    show (if (D (j + m) = d ∧ W (j + m) = w) ∧ (zq_l D W d w (j + m)).length < 12 then zq_l D W d w (j + m) ++ [j + m] else zq_l D W d w (j + m)) = _
    rw [ih, if_neg (fun q => absurd q.2 (by omega))]
theorem zq_l_len : ∀ j : Nat, (zq_l D W d w j).length ≤ 12
  | 0 => Nat.zero_le _
  | j + 1 => by
    have ih := zq_l_len j
    rw [zq_l]
    split
    · rename_i q
      rw [List.length_append, List.length_cons, List.length_nil]
      omega
    · exact ih
theorem zq_l_c : ∀ j : Nat, (∀ i, i < j → D1 i = D i ∧ W1 i = W i) → zq_l D1 W1 d w j = zq_l D W d w j
  | 0, _ => rfl
  | j + 1, h => by
    rw [zq_l, zq_l, zq_l_c j (fun i hi => h i (by omega)), (h j (by omega)).1, (h j (by omega)).2]
theorem zq_l_in : ∀ (j : Nat) (i : Nat), i ∈ zq_l D W d w j → i < j ∧ D i = d ∧ W i = w
  | 0, i, h => by simp [zq_l] at h
  | j + 1, i, h => by
    rw [zq_l] at h
    by_cases q : (D j = d ∧ W j = w) ∧ (zq_l D W d w j).length < 12
    · rw [if_pos q] at h
      rcases List.mem_append.mp h with a | a
      · have := zq_l_in j i a
        omega
      · have e : i = j := by simpa using a
        rw [e]
        exact ⟨Nat.lt_succ_self j, q.1⟩
    · rw [if_neg q] at h
      have := zq_l_in j i h
      omega
theorem zq_l_0 : ∀ j : Nat, (∀ i, i < j → ¬ (D i = d ∧ W i = w)) → zq_l D W d w j = []
  | 0, _ => rfl
  | j + 1, h => by rw [zq_l_n (h j (by omega)), zq_l_0 j (fun i hi => h i (by omega))]
end ZQ
noncomputable def zq_pe (P : Nat → Int32) : List Nat → Int32
  | [] => 0
  | j :: l => zq_pe P l + P j
/-- by the list from its end -/
noncomputable def zq_ps (P : Nat → Int32) (l : List Nat) : Int32 := zq_pe P l.reverse
theorem zq_ps_s {P : Nat → Int32} {l : List Nat} {j : Nat} : zq_ps P (l ++ [j]) = zq_ps P l + P j := by
  unfold zq_ps
  rw [List.reverse_append]
  rfl
theorem zq_pe_c {P P1 : Nat → Int32} : ∀ l : List Nat, (∀ j, j ∈ l → P1 j = P j) → zq_pe P1 l = zq_pe P l
  | [], _ => rfl
  | j :: l, h => by
    show zq_pe P1 l + P1 j = zq_pe P l + P j
    rw [zq_pe_c l (fun i hi => h i (List.mem_cons_of_mem _ hi)), h j (List.mem_cons_self ..)]
theorem zq_ps_c {P P1 : Nat → Int32} {l : List Nat} (h : ∀ j, j ∈ l → P1 j = P j) : zq_ps P1 l = zq_ps P l := zq_pe_c _ (fun j hj => h j (List.mem_reverse.mp hj))
theorem zq_gd {l : List Nat} {k j : Nat} (h : k < l.length) : (l ++ [j]).getD k 0 = l.getD k 0 := by
  rw [List.getD_eq_getElem?_getD, List.getD_eq_getElem?_getD, List.getElem?_append_left h]
theorem zq_ge {l : List Nat} {j : Nat} : (l ++ [j]).getD l.length 0 = j := by
  rw [List.getD_eq_getElem?_getD, List.getElem?_append_right (Nat.le_refl _), Nat.sub_self]
  rfl
theorem zq_gm {l : List Nat} {k : Nat} (h : k < l.length) : l.getD k 0 ∈ l := by
  rw [List.getD_eq_getElem?_getD, List.getElem?_eq_getElem h]
  exact List.getElem_mem h
noncomputable def zq_xD (I : z_I) (j : Nat) : Int := (I 65 j).toInt
noncomputable def zq_xW (I : z_I) (j : Nat) : Int := (I 66 j).toInt
noncomputable def zq_xP (I : z_I) (j : Nat) : Int32 := I 63 j
noncomputable def zq_xS (I : z_I) (j : Nat) : Int32 := I 4 (I 61 j).toNatClampNeg
noncomputable def zq_xC (I : z_I) (j : Nat) : Int32 := I 62 j * I 2 (I 61 j).toNatClampNeg
noncomputable def zq_mD (I : z_I) (j : Nat) : Int := (I 63 j).toInt
noncomputable def zq_mW (I : z_I) (j : Nat) : Int := (I 64 j).toInt
noncomputable def zq_mP (I : z_I) (j : Nat) : Int32 := I 61 j
noncomputable def zq_mS (I : z_I) (j : Nat) : Int32 := I 3 (I 59 j).toNatClampNeg
noncomputable def zq_mC (I : z_I) (j : Nat) : Int32 := I 60 j * I 1 (I 59 j).toNatClampNeg
noncomputable def zq_xl (I : z_I) (d w : Int) (j : Nat) : List Nat := zq_l (zq_xD I) (zq_xW I) d w j
noncomputable def zq_ml (I : z_I) (d w : Int) (j : Nat) : List Nat := zq_l (zq_mD I) (zq_mW I) d w j
/-- what gather() has gathered of the first j -/
noncomputable def zq_B (I K : z_I) (d w : Int) (j : Nat) : Prop := (K 60 12).toInt = ((zq_xl I d w j).length : Int) ∧ K 60 13 = zq_ps (zq_xP I) (zq_xl I d w j) ∧ ∀ k, k < (zq_xl I d w j).length → K 70 k = zq_xS I ((zq_xl I d w j).getD k 0) ∧ K 71 k = zq_xC I ((zq_xl I d w j).getD k 0)
theorem zq_B_0 {I K : z_I} {d w : Int} {x y : Int32} (h1 : K 60 12 = x) (h2 : K 60 13 = y) (hx : x = 0) (hy : y = 0) : zq_B I K d w 0 := ⟨by rw [h1, hx]; rfl, by rw [h2, hy]; rfl, fun k hk => absurd hk (Nat.not_lt_zero k)⟩
theorem zq_B_n {I K : z_I} {d w : Int} {j : Nat} (h : zq_B I K d w j) (hn : ¬ (zq_xD I j = d ∧ zq_xW I j = w)) : zq_B I K d w (j + 1) := by
  unfold zq_B zq_xl at *
  rw [zq_l_n hn]
  exact h
theorem zq_B_y {I K K1 K2 K3 K4 : z_I} {d w : Int} {j n1 n2 : Nat} {v1 v2 v3 v4 : Int32} (h : zq_B I K d w j) (hy : zq_xD I j = d ∧ zq_xW I j = w) (h12 : (K 60 12).toInt < 12) (e1 : K1 = z_up K 70 n1 v1) (e2 : K2 = z_up K1 71 n2 v2) (e3 : K3 = z_up K2 60 13 v3) (e4 : K4 = z_up K3 60 12 v4) (hn1 : n1 = (K 60 12).toNatClampNeg) (hn2 : n2 = (K 60 12).toNatClampNeg) (hv1 : v1 = zq_xS I j) (hv2 : v2 = zq_xC I j) (hv3 : v3 = K 60 13 + zq_xP I j) (hv4 : v4.toInt = (K 60 12).toInt + 1) : zq_B I K4 d w (j + 1) := by
  obtain ⟨h1, h2, h3⟩ := h
  have hl : (zq_xl I d w j).length < 12 := by omega
  have hn : (K 60 12).toNatClampNeg = (zq_xl I d w j).length := by
    have := z_clt (x := K 60 12) rfl (by omega)
    omega
  have e : zq_xl I d w (j + 1) = zq_xl I d w j ++ [j] := zq_l_y hy hl
  unfold zq_B
  rw [e]
  refine ⟨?_, ?_, fun k hk => ?_⟩
  · rw [e4, z_up_s, hv4, h1, List.length_append, List.length_cons, List.length_nil]
    omega
  · rw [e4, z_up_k (by decide), e3, z_up_s, hv3, h2, zq_ps_s]
  · rw [List.length_append, List.length_cons, List.length_nil] at hk
    rw [e4, z_up_n (by decide), z_up_n (by decide), e3, z_up_n (by decide), z_up_n (by decide), e2, z_up_n (by decide), z_up_j, e1, z_up_j, z_up_n (by decide), hn1, hn2, hn, hv1, hv2]
    by_cases q : k = (zq_xl I d w j).length
    · subst q
      rw [zq_ge, if_pos rfl, if_pos rfl]
      exact ⟨rfl, rfl⟩
    · rw [zq_gd (by omega), if_neg q, if_neg q]
      exact h3 k (by omega)
/-! bits -/
noncomputable def zq_pn (n : Nat) : Nat := n % 2 + n / 2 % 2 + n / 4 % 2 + n / 8 % 2 + n / 16 % 2 + n / 32 % 2 + n / 64 % 2 + n / 128 % 2 + n / 256 % 2 + n / 512 % 2 + n / 1024 % 2 + n / 2048 % 2
noncomputable def zq_sr (x y : Int32) : Int32 := (x.toUInt32 >>> (y.toUInt32 &&& Int32.toUInt32 31)).toInt32
noncomputable def zq_b1 (x : Int32) : Int32 := x - (zq_sr x 1 &&& 1431655765)
noncomputable def zq_b2 (x : Int32) : Int32 := (x &&& 858993459) + (zq_sr x 2 &&& 858993459)
noncomputable def zq_b3 (x : Int32) : Int32 := (x + zq_sr x 4) &&& 252645135
noncomputable def zq_b4 (x : Int32) : Int32 := x + zq_sr x 8
noncomputable def zq_b5 (x : Int32) : Int32 := x + zq_sr x 16
noncomputable def zq_pc (x : Int32) : Int32 := zq_b5 (zq_b4 (zq_b3 (zq_b2 (zq_b1 x)))) &&& 63
theorem zq_pc_all : ∀ a : Nat, a < 64 → ∀ b : Nat, b < 64 → (zq_pc (Int32.ofNat (64 * a + b))).toInt = (zq_pn (64 * a + b) : Int) := by decide +kernel
theorem zq_an_all : ∀ a : Nat, a < 64 → ∀ b : Nat, b < 64 → 64 * a + b = 0 ∨ zq_pn ((64 * a + b) &&& (64 * a + b - 1)) + 1 = zq_pn (64 * a + b) := by decide +kernel
theorem zq_on {x : Int32} (h : 0 ≤ x.toInt) : x = Int32.ofNat x.toNatClampNeg := by
  apply Int32.toInt_inj.mp
  have e := z_clt (x := x) rfl h
  have h2 := Int32.toInt_lt x
  rw [show (Int32.ofNat x.toNatClampNeg).toInt = (x.toNatClampNeg : Int) from nI_toInt (by omega)]
  exact e.symm
theorem zq_pc_n {x : Int32} (h : 0 ≤ x.toInt ∧ x.toInt ≤ 4095) : (zq_pc x).toInt = (zq_pn x.toNatClampNeg : Int) := by
  have e := z_clt (x := x) rfl h.1
  have q := zq_pc_all (x.toNatClampNeg / 64) (by omega) (x.toNatClampNeg % 64) (by omega)
  rw [show 64 * (x.toNatClampNeg / 64) + x.toNatClampNeg % 64 = x.toNatClampNeg by omega, ← zq_on h.1] at q
  exact q
theorem zq_an {n : Nat} (h : n ≤ 4095) (h0 : n ≠ 0) : zq_pn (n &&& (n - 1)) + 1 = zq_pn n := by
  have q := zq_an_all (n / 64) (by omega) (n % 64) (by omega)
  rw [show 64 * (n / 64) + n % 64 = n by omega] at q
  exact q.resolve_left h0
/-- one more bit is taken away -/
theorem zq_x1 {x y z : Int32} (e : z = x &&& y) (ey : y = x - 1) (h : 0 < x.toInt ∧ x.toInt ≤ 4095) : z.toNatClampNeg = x.toNatClampNeg &&& (x.toNatClampNeg - 1) := by
  have ty : y.toInt = x.toInt - 1 := z_tsub (m := 1) ey rfl (by decide) (by omega) (by omega)
  have h1 : ∀ a : Int32, 0 ≤ a.toInt → a.toBitVec.toNat = a.toNatClampNeg := fun a ha => by
    have q := z_clt (x := a) rfl ha
    have e : a.toInt = a.toBitVec.toInt := rfl
    rw [e, BitVec.toInt_eq_toNat_cond] at q ha
    split at q
    · omega
    · rename_i w
      rw [if_neg w] at ha
      have := a.toBitVec.isLt
      omega
  have hz := z_tbits e ey h.1
  have e1 : z.toBitVec.toNat = x.toBitVec.toNat &&& y.toBitVec.toNat := by
    rw [e]
    rfl
  rw [← h1 z hz.1, e1, h1 x (by omega), h1 y (by omega)]
  have q1 := z_clt (x := x) rfl (by omega)
  have q2 := z_clt (x := y) rfl (by omega)
  rw [show y.toNatClampNeg = x.toNatClampNeg - 1 by omega]
/-- a set's sum -/
noncomputable def zq_bt (s : Int32) (k : Int32) : Int32 := (s >>> (k &&& 31)) &&& 1
theorem zq_and1 (x : Int32) : (x &&& 1).toInt = 0 ∨ (x &&& 1).toInt = 1 := by
  have h2 : (x &&& 1).toBitVec.toNat = x.toBitVec.toNat &&& 1 := rfl
  have h3 : x.toBitVec.toNat &&& 1 = x.toBitVec.toNat % 2 := Nat.and_two_pow_sub_one_eq_mod _ 1
  have h1 : (x &&& 1).toInt = ((x &&& 1).toBitVec.toNat : Int) := by
    show (x &&& 1).toBitVec.toInt = _
    rw [BitVec.toInt_eq_toNat_cond, if_pos (by omega)]
  rw [h1, h2, h3]
  omega
theorem zq_bt01 (s k : Int32) : (zq_bt s k).toInt = 0 ∨ (zq_bt s k).toInt = 1 := by
  have h := zq_and1 (s >>> (k &&& 31))
  exact h
noncomputable def zq_sum (f : Nat → Int32) (s : Int32) : Nat → Int32
  | 0 => 0
  | k + 1 => if (zq_bt s (Int32.ofNat k)).toInt = 1 then zq_sum f s k + f k else zq_sum f s k
theorem zq_sum_c {f g : Nat → Int32} {s : Int32} : ∀ n : Nat, (∀ k, k < n → g k = f k) → zq_sum g s n = zq_sum f s n
  | 0, _ => rfl
  | n + 1, h => by
    rw [zq_sum, zq_sum, zq_sum_c n (fun k hk => h k (by omega)), h n (Nat.lt_succ_self n)]
theorem zq_sum_y {f : Nat → Int32} {s y b : Int32} {v w : Int32} (h0 : 0 ≤ y.toInt) (eb : b = zq_bt s y) (h1 : b.toInt = 1) (ev : v = zq_sum f s y.toNatClampNeg) (ew : w = v + f y.toNatClampNeg) : w = zq_sum f s (y.toNatClampNeg + 1) := by
  rw [zq_sum, ← zq_on h0, ← eb, if_pos h1, ew, ev]
theorem zq_sum_n {f : Nat → Int32} {s y b : Int32} {v : Int32} (h0 : 0 ≤ y.toInt) (eb : b = zq_bt s y) (h1 : ¬ b.toInt = 1) (ev : v = zq_sum f s y.toNatClampNeg) : v = zq_sum f s (y.toNatClampNeg + 1) := by
  rw [zq_sum, ← zq_on h0, ← eb, if_neg h1, ev]
/-- the best of the first t sets (0: none) and its cost -/
noncomputable def zq_w (n : Nat) (S C : Nat → Int32) (P : Int32) : Nat → Nat × Int32
  | 0 => (0, 0)
  | t + 1 => if P.toInt ≤ (zq_sum S (Int32.ofNat (t + 1)) n).toInt ∧ ((zq_w n S C P t).1 = 0 ∨ zq_pn (t + 1) < zq_pn (zq_w n S C P t).1 ∨ (zq_pn (t + 1) = zq_pn (zq_w n S C P t).1 ∧ (zq_sum C (Int32.ofNat (t + 1)) n).toInt < (zq_w n S C P t).2.toInt)) then (t + 1, zq_sum C (Int32.ofNat (t + 1)) n) else zq_w n S C P t
theorem zq_w_b {n : Nat} {S C : Nat → Int32} {P : Int32} : ∀ t : Nat, (zq_w n S C P t).1 ≤ t
  | 0 => Nat.le_refl 0
  | t + 1 => by
    have ih := zq_w_b (n := n) (S := S) (C := C) (P := P) t
    rw [zq_w]
    split
    · exact Nat.le_refl _
    · omega
theorem zq_w_c {n : Nat} {S C S1 C1 : Nat → Int32} {P : Int32} (hS : ∀ k, k < n → S1 k = S k) (hC : ∀ k, k < n → C1 k = C k) : ∀ t : Nat, zq_w n S1 C1 P t = zq_w n S C P t
  | 0 => rfl
  | t + 1 => by rw [zq_w, zq_w, zq_w_c hS hC t, zq_sum_c n hS, zq_sum_c n hC]
noncomputable def zq_2 (n : Nat) : Nat := 2 ^ n - 1
theorem zq_sh {n z : Int32} (e : z = 1 <<< (n &&& 31)) (h : 0 ≤ n.toInt ∧ n.toInt ≤ 12) : z.toInt = ((2 ^ n.toNatClampNeg : Nat) : Int) ∧ z.toInt ≤ 4096 := by
  have key : ∀ m : Nat, m < 13 → ((1 : Int32) <<< (Int32.ofNat m &&& 31)).toInt = ((2 ^ m : Nat) : Int) ∧ ((1 : Int32) <<< (Int32.ofNat m &&& 31)).toInt ≤ 4096 := by decide +kernel
  have q := z_clt (x := n) rfl h.1
  have k := key n.toNatClampNeg (by omega)
  rw [← zq_on h.1, ← e] at k
  exact k
/-- what a set is worth against the one that is kept -/
noncomputable def zq_g (K : z_I) (c : Int32) (s : Int32) (a : Int32) : Prop := (K 60 13).toInt ≤ s.toInt ∧ ((K 60 16).toInt = 0 ∨ (zq_pc a).toInt < (K 60 14).toInt ∨ ((zq_pc a).toInt = (K 60 14).toInt ∧ c.toInt < (K 60 15).toInt))
noncomputable def zq_K (K : z_I) (n : Nat) (S C : Nat → Int32) (P : Int32) (t : Nat) : Prop := (K 60 16).toInt = ((zq_w n S C P t).1 : Int) ∧ ((zq_w n S C P t).1 ≠ 0 → (K 60 14).toInt = (zq_pn (zq_w n S C P t).1 : Int) ∧ K 60 15 = (zq_w n S C P t).2)
theorem zq_K_s {I K : z_I} {n t : Nat} {S C : Nat → Int32} {P a : Int32} (h : zq_K I n S C P t) (ha : a.toInt = (t : Int) + 1) (h4 : t + 1 ≤ 4095) (hP : I 60 13 = P) (hp : (zq_g I (zq_sum C a n) (zq_sum S a n) a ∧ K 60 16 = a ∧ K 60 14 = zq_pc a ∧ K 60 15 = zq_sum C a n) ∨ (¬ zq_g I (zq_sum C a n) (zq_sum S a n) a ∧ K 60 16 = I 60 16 ∧ K 60 14 = I 60 14 ∧ K 60 15 = I 60 15)) : zq_K K n S C P (t + 1) := by
  have ea := zq_on (x := a) (by omega)
  have en := z_clt (x := a) rfl (by omega)
  have en1 : a.toNatClampNeg = t + 1 := by omega
  have epc := zq_pc_n (x := a) (by omega)
  rw [en1] at ea epc
  obtain ⟨h1, h2⟩ := h
  have hb := zq_w_b (n := n) (S := S) (C := C) (P := P) t
  have hg : zq_g I (zq_sum C a n) (zq_sum S a n) a ↔ (P.toInt ≤ (zq_sum S (Int32.ofNat (t + 1)) n).toInt ∧ ((zq_w n S C P t).1 = 0 ∨ zq_pn (t + 1) < zq_pn (zq_w n S C P t).1 ∨ (zq_pn (t + 1) = zq_pn (zq_w n S C P t).1 ∧ (zq_sum C (Int32.ofNat (t + 1)) n).toInt < (zq_w n S C P t).2.toInt))) := by
    unfold zq_g
    rw [hP, h1, epc, ← ea]
    by_cases q : (zq_w n S C P t).1 = 0
    · simp [q]
    · obtain ⟨a1, a2⟩ := h2 q
      rw [a1, a2]
      omega
  unfold zq_K
  rw [zq_w]
  rcases hp with ⟨g, p1, p2, p3⟩ | ⟨g, p1, p2, p3⟩
  · rw [if_pos (hg.mp g), p1, p2, p3, ← ea]
    exact ⟨by show a.toInt = ((t + 1 : Nat) : Int); omega, fun _ => ⟨epc, rfl⟩⟩
  · rw [if_neg (fun z => g (hg.mpr z)), p1, p2, p3]
    exact ⟨h1, h2⟩
/-- the answer -/
noncomputable def zq_an2 (n : Nat) (S C : Nat → Int32) (P : Int32) (what : Int) : Int := if (zq_w n S C P (zq_2 n)).1 = 0 then -1 else if what = 0 then (zq_pn (zq_w n S C P (zq_2 n)).1 : Int) else if what = 1 then (zq_w n S C P (zq_2 n)).2.toInt else if what = 2 then ((zq_w n S C P (zq_2 n)).1 : Int) else P.toInt
noncomputable def zq_ax (I : z_I) (d w what : Int) (N : Nat) : Int := zq_an2 (zq_xl I d w N).length (fun k => zq_xS I ((zq_xl I d w N).getD k 0)) (fun k => zq_xC I ((zq_xl I d w N).getD k 0)) (zq_ps (zq_xP I) (zq_xl I d w N)) what
noncomputable def zq_am (I : z_I) (d w what : Int) (N : Nat) : Int := zq_an2 (zq_ml I d w N).length (fun k => zq_mS I ((zq_ml I d w N).getD k 0)) (fun k => zq_mC I ((zq_ml I d w N).getD k 0)) (zq_ps (zq_mP I) (zq_ml I d w N)) what
theorem zq_an_c {n : Nat} {S C S1 C1 : Nat → Int32} {P what} (hS : ∀ k, k < n → S1 k = S k) (hC : ∀ k, k < n → C1 k = C k) : zq_an2 n S1 C1 P what = zq_an2 n S C P what := by
  unfold zq_an2
  rw [zq_w_c hS hC]
theorem zq_eq {Ix Im : z_I} {d w what : Int} {N M : Nat} (h : z_RJ Ix Im) (hH : z_RH Ix Im) (hN : (N : Int) ≤ (Ix 60 9).toInt) (e : M = N) : zq_ax Ix d w what N = zq_am Im d w what M := by
  subst e
  have el : zq_xl Ix d w M = zq_ml Im d w M := zq_l_c M (fun i hi => by
    obtain ⟨⟨_, _, _, e4, e5⟩, _⟩ := h i (by omega)
    exact ⟨congrArg Int32.toInt e4, congrArg Int32.toInt e5⟩)
  have mem : ∀ j, j ∈ zq_ml Im d w M → (j : Int) < (Ix 60 9).toInt := fun j hj => by
    have := zq_l_in M j hj
    omega
  have row : ∀ j, j ∈ zq_ml Im d w M → zq_xS Ix j = zq_mS Im j ∧ zq_xC Ix j = zq_mC Im j ∧ zq_xP Ix j = zq_mP Im j := fun j hj => by
    obtain ⟨⟨e1, e2, e3, _, _⟩, ⟨b1, b2⟩, _⟩ := h j (mem j hj)
    have bc := z_clt (x := Ix 61 j) rfl b1
    obtain ⟨⟨s1, _, s3, _, _⟩, _⟩ := hH (Ix 61 j).toNatClampNeg (by omega)
    unfold zq_xS zq_xC zq_xP zq_mS zq_mC zq_mP
    rw [← e1, ← e2, ← e3, ← s1, ← s3]
    exact ⟨rfl, rfl, rfl⟩
  unfold zq_ax zq_am
  rw [el, zq_ps_c (fun j hj => (row j hj).2.2)]
  exact zq_an_c (fun k hk => (row _ (zq_gm hk)).1) (fun k hk => (row _ (zq_gm hk)).2.1)
theorem zq_ax_0 {Ix Im : z_I} {d w what : Int} {N : Nat} (h : z_RJ Ix Im) (hN : (N : Int) ≤ (Ix 60 9).toInt) (hv : ¬ ((0 ≤ d ∧ d ≤ 719) ∧ (0 ≤ w ∧ w ≤ 99 ∧ w / 10 ≠ w % 10))) : zq_ax Ix d w what N = -1 := by
  have e : zq_xl Ix d w N = [] := zq_l_0 N (fun i hi q => by
    obtain ⟨_, _, b, c⟩ := h i (by omega)
    have q1 : (Ix 65 i).toInt = d := q.1
    have q2 : (Ix 66 i).toInt = w := q.2
    rw [q1] at b
    rw [q2] at c
    exact hv ⟨b, c⟩)
  unfold zq_ax zq_an2
  rw [e]
  rfl
theorem zq_pn_b (n : Nat) : zq_pn n ≤ 12 := by
  unfold zq_pn
  omega
theorem zq_pn_0 : zq_pn 0 = 0 := by decide
theorem zq_B_c {I K K1 : z_I} {d w : Int} {j : Nat} (h : zq_B I K d w j) (h1 : K1 60 12 = K 60 12) (h2 : K1 60 13 = K 60 13) (h3 : ∀ k, K1 70 k = K 70 k ∧ K1 71 k = K 71 k) : zq_B I K1 d w j := by
  obtain ⟨a1, a2, a3⟩ := h
  refine ⟨by rw [h1]; exact a1, by rw [h2]; exact a2, fun k hk => ?_⟩
  rw [(h3 k).1, (h3 k).2]
  exact a3 k hk
noncomputable def zq_n (I : z_I) (d w : Int) (N : Nat) : Nat := (zq_xl I d w N).length
noncomputable def zq_S (I : z_I) (d w : Int) (N : Nat) (k : Nat) : Int32 := zq_xS I ((zq_xl I d w N).getD k 0)
noncomputable def zq_C (I : z_I) (d w : Int) (N : Nat) (k : Nat) : Int32 := zq_xC I ((zq_xl I d w N).getD k 0)
noncomputable def zq_P (I : z_I) (d w : Int) (N : Nat) : Int32 := zq_ps (zq_xP I) (zq_xl I d w N)
noncomputable def zq_X (I K : z_I) (d w : Int) (N t : Nat) : Prop := zq_K K (zq_n I d w N) (zq_S I d w N) (zq_C I d w N) (zq_P I d w N) t
theorem zq_X_0 {I K : z_I} {d w : Int} {N : Nat} {x : Int32} (e : K 60 16 = x) (hx : x = 0) : zq_X I K d w N 0 := ⟨by rw [e, hx]; rfl, fun q => absurd rfl q⟩
theorem zq_wst {I In K : z_I} {d w : Int} {N t : Nat} {a : Int32} (hB : zq_B I In d w N) (hX : zq_X I In d w N t) (ha : a.toInt = (t : Int) + 1) (h4 : t + 1 ≤ 4095) (hp : (zq_g In (zq_sum (fun k => In 71 k) a (In 60 12).toNatClampNeg) (zq_sum (fun k => In 70 k) a (In 60 12).toNatClampNeg) a ∧ K 60 16 = a ∧ K 60 14 = zq_pc a ∧ K 60 15 = zq_sum (fun k => In 71 k) a (In 60 12).toNatClampNeg) ∨ (¬ zq_g In (zq_sum (fun k => In 71 k) a (In 60 12).toNatClampNeg) (zq_sum (fun k => In 70 k) a (In 60 12).toNatClampNeg) a ∧ K 60 16 = In 60 16 ∧ K 60 14 = In 60 14 ∧ K 60 15 = In 60 15)) : zq_X I K d w N (t + 1) := by
  obtain ⟨b1, b2, b3⟩ := hB
  have en : (In 60 12).toNatClampNeg = zq_n I d w N := by
    have := z_clt (x := In 60 12) rfl (by omega)
    unfold zq_n
    omega
  rw [en, zq_sum_c (f := zq_S I d w N) (g := fun k => In 70 k) (zq_n I d w N) (fun k hk => (b3 k hk).1), zq_sum_c (f := zq_C I d w N) (g := fun k => In 71 k) (zq_n I d w N) (fun k hk => (b3 k hk).2)] at hp
  exact zq_K_s hX ha h4 b2 hp
theorem zq_axr {I K : z_I} {d w what : Int} {N : Nat} {r : Int32} (hB : zq_B I K d w N) (hX : zq_X I K d w N (zq_2 (zq_n I d w N))) (hr : ((K 60 16).toInt = 0 ∧ r.toInt = -1) ∨ (¬ (K 60 16).toInt = 0 ∧ what = 0 ∧ r = K 60 14) ∨ (¬ (K 60 16).toInt = 0 ∧ what = 1 ∧ r = K 60 15) ∨ (¬ (K 60 16).toInt = 0 ∧ what = 2 ∧ r = K 60 16) ∨ (¬ (K 60 16).toInt = 0 ∧ ¬ (what = 0 ∨ what = 1 ∨ what = 2) ∧ r = K 60 13)) : r.toInt = zq_ax I d w what N := by
  show r.toInt = zq_an2 (zq_n I d w N) (zq_S I d w N) (zq_C I d w N) (zq_P I d w N) what
  obtain ⟨h1, h2⟩ := hX
  unfold zq_an2
  rcases hr with ⟨a, b⟩ | ⟨a, b, c⟩ | ⟨a, b, c⟩ | ⟨a, b, c⟩ | ⟨a, b, c⟩
  · rw [if_pos (by omega)]
    exact b
  · have q : ¬ (zq_w (zq_n I d w N) (zq_S I d w N) (zq_C I d w N) (zq_P I d w N) (zq_2 (zq_n I d w N))).1 = 0 := by omega
    rw [if_neg q, if_pos b, c]
    exact (h2 q).1
  · have q : ¬ (zq_w (zq_n I d w N) (zq_S I d w N) (zq_C I d w N) (zq_P I d w N) (zq_2 (zq_n I d w N))).1 = 0 := by omega
    rw [if_neg q, if_neg (by omega), if_pos b, c]
    exact congrArg Int32.toInt (h2 q).2
  · have q : ¬ (zq_w (zq_n I d w N) (zq_S I d w N) (zq_C I d w N) (zq_P I d w N) (zq_2 (zq_n I d w N))).1 = 0 := by omega
    rw [if_neg q, if_neg (by omega), if_neg (by omega), if_pos b, c]
    exact h1
  · have q : ¬ (zq_w (zq_n I d w N) (zq_S I d w N) (zq_C I d w N) (zq_P I d w N) (zq_2 (zq_n I d w N))).1 = 0 := by omega
    rw [if_neg q, if_neg (by omega), if_neg (by omega), if_neg (by omega), c]
    exact congrArg Int32.toInt hB.2.1
/-- the reference's gathering -/
noncomputable def zq_mB (I K : z_I) (d w : Int) (n people j : Int32) : Prop := n.toInt = ((zq_ml I d w j.toNatClampNeg).length : Int) ∧ people = zq_ps (zq_mP I) (zq_ml I d w j.toNatClampNeg) ∧ ∀ k, k < (zq_ml I d w j.toNatClampNeg).length → (K 68 k).toInt = ((zq_ml I d w j.toNatClampNeg).getD k 0 : Nat)
theorem zq_mB_0 {I K : z_I} {d w : Int} {n people j : Int32} (hn : n = 0) (hp : people = 0) (hj : j = 0) : zq_mB I K d w n people j := by
  subst hn hp hj
  exact ⟨rfl, rfl, fun k hk => absurd hk (Nat.not_lt_zero k)⟩
theorem zq_mB_n {I K : z_I} {d w : Int} {n people j j1 : Int32} (h : zq_mB I K d w n people j) (hj : j1.toInt = j.toInt + 1) (h0 : 0 ≤ j.toInt) (hn : ¬ (zq_mD I j.toNatClampNeg = d ∧ zq_mW I j.toNatClampNeg = w)) : zq_mB I K d w n people j1 := by
  have e : zq_ml I d w j1.toNatClampNeg = zq_ml I d w j.toNatClampNeg := by
    rw [z_cln hj h0]
    exact zq_l_n hn
  unfold zq_mB
  rw [e]
  exact h
theorem zq_mB_y {I K K1 : z_I} {d w : Int} {n n1 people p1 j j1 : Int32} {q : Nat} (h : zq_mB I K d w n people j) (hj : j1.toInt = j.toInt + 1) (h0 : 0 ≤ j.toInt) (hy : zq_mD I j.toNatClampNeg = d ∧ zq_mW I j.toNatClampNeg = w) (h12 : n.toInt < 12) (eK : K1 = z_up K 68 q j) (hq : q = n.toNatClampNeg) (hn : n1.toInt = n.toInt + 1) (hp : p1 = people + zq_mP I j.toNatClampNeg) : zq_mB I K1 d w n1 p1 j1 := by
  obtain ⟨a1, a2, a3⟩ := h
  have e : zq_ml I d w j1.toNatClampNeg = zq_ml I d w j.toNatClampNeg ++ [j.toNatClampNeg] := by
    rw [z_cln hj h0]
    exact zq_l_y hy (by unfold zq_ml at a1; omega)
  have en : n.toNatClampNeg = (zq_ml I d w j.toNatClampNeg).length := by
    have := z_clt (x := n) rfl (by omega)
    omega
  unfold zq_mB
  rw [e]
  refine ⟨?_, ?_, fun k hk => ?_⟩
  · rw [hn, a1, List.length_append, List.length_cons, List.length_nil]
    omega
  · rw [hp, a2, zq_ps_s]
  · rw [List.length_append, List.length_cons, List.length_nil] at hk
    by_cases c : k = (zq_ml I d w j.toNatClampNeg).length
    · rw [c, zq_ge, eK, hq, en, z_up_s]
      exact (z_clt (x := j) rfl h0).symm
    · rw [zq_gd (by omega), eK, hq, en, z_up_k c]
      exact a3 k (by omega)
/-- all are gathered -/
theorem zq_end {D W : Nat → Int} {d w : Int} {j N : Nat} (h : j = N ∨ (j ≤ N ∧ 12 ≤ (zq_l D W d w j).length)) : zq_l D W d w N = zq_l D W d w j := by
  rcases h with e | ⟨h1, h2⟩
  · rw [e]
  · have := zq_l_12 h2 (N - j)
    rw [show j + (N - j) = N by omega] at this
    exact this
noncomputable def zq_mn (I : z_I) (d w : Int) (N : Nat) : Nat := (zq_ml I d w N).length
noncomputable def zq_mSS (I : z_I) (d w : Int) (N : Nat) (k : Nat) : Int32 := zq_mS I ((zq_ml I d w N).getD k 0)
noncomputable def zq_mCC (I : z_I) (d w : Int) (N : Nat) (k : Nat) : Int32 := zq_mC I ((zq_ml I d w N).getD k 0)
noncomputable def zq_mPP (I : z_I) (d w : Int) (N : Nat) : Int32 := zq_ps (zq_mP I) (zq_ml I d w N)
noncomputable abbrev zq_mw (I : z_I) (d w : Int) (N t : Nat) : Nat × Int32 := zq_w (zq_mn I d w N) (zq_mSS I d w N) (zq_mCC I d w N) (zq_mPP I d w N) t
/-- the best set and its cost, as the reference has them: -1 without -/
noncomputable def zq_mX (I : z_I) (d w : Int) (N t : Nat) (best least : Int32) : Prop := ((zq_mw I d w N t).1 = 0 ∧ best.toInt = -1) ∨ ((zq_mw I d w N t).1 ≠ 0 ∧ best.toInt = ((zq_mw I d w N t).1 : Int) ∧ least = (zq_mw I d w N t).2)
theorem zq_mX_y {I : z_I} {d w : Int} {N t : Nat} {best least b1 l1 seats : Int32} {pb : Int} (h : zq_mX I d w N t best least) (hb : b1.toInt = (t : Int) + 1) (hs : seats = zq_sum (zq_mSS I d w N) b1 (zq_mn I d w N)) (hl : l1 = zq_sum (zq_mCC I d w N) b1 (zq_mn I d w N)) (hge : (zq_mPP I d w N).toInt ≤ seats.toInt) (hp : 0 ≤ best.toInt → pb = (zq_pn best.toNatClampNeg : Int)) (hc : best.toInt < 0 ∨ (zq_pn (t + 1) : Int) < pb ∨ ((zq_pn (t + 1) : Int) = pb ∧ l1.toInt < least.toInt)) : zq_mX I d w N (t + 1) b1 l1 := by
  have eb : b1 = Int32.ofNat (t + 1) := by
    have e := zq_on (x := b1) (by omega)
    have q := z_clt (x := b1) rfl (by omega)
    rw [show b1.toNatClampNeg = t + 1 by omega] at e
    exact e
  have hw : (zq_mw I d w N (t + 1)) = (t + 1, zq_sum (zq_mCC I d w N) (Int32.ofNat (t + 1)) (zq_mn I d w N)) := by
    show zq_w _ _ _ _ (t + 1) = _
    rw [zq_w]
    refine if_pos ⟨by rw [← eb, ← hs]; exact hge, ?_⟩
    rcases h with ⟨h1, h2⟩ | ⟨h1, h2, h3⟩
    · exact Or.inl h1
    · have hp := hp (by omega)
      have e : best.toNatClampNeg = (zq_mw I d w N t).1 := by
        have := z_clt (x := best) rfl (by omega)
        omega
      rw [e] at hp
      rw [← eb, ← hl, ← h3]
      omega
  right
  rw [hw]
  exact ⟨Nat.succ_ne_zero t, by rw [hb]; show _ = ((t + 1 : Nat) : Int); omega, by rw [← eb]; exact hl⟩
theorem zq_mX_n {I : z_I} {d w : Int} {N t : Nat} {best least b1 l1 seats : Int32} {pb : Int} (h : zq_mX I d w N t best least) (hb : b1.toInt = (t : Int) + 1) (hs : seats = zq_sum (zq_mSS I d w N) b1 (zq_mn I d w N)) (hl : l1 = zq_sum (zq_mCC I d w N) b1 (zq_mn I d w N)) (hp : 0 ≤ best.toInt → pb = (zq_pn best.toNatClampNeg : Int)) (hc : ¬ ((zq_mPP I d w N).toInt ≤ seats.toInt ∧ (best.toInt < 0 ∨ (zq_pn (t + 1) : Int) < pb ∨ ((zq_pn (t + 1) : Int) = pb ∧ l1.toInt < least.toInt)))) : zq_mX I d w N (t + 1) best least := by
  have eb : b1 = Int32.ofNat (t + 1) := by
    have e := zq_on (x := b1) (by omega)
    have q := z_clt (x := b1) rfl (by omega)
    rw [show b1.toNatClampNeg = t + 1 by omega] at e
    exact e
  have hw : (zq_mw I d w N (t + 1)) = zq_mw I d w N t := by
    show zq_w _ _ _ _ (t + 1) = _
    rw [zq_w]
    refine if_neg (fun q => hc ?_)
    rw [← eb, ← hs, ← hl] at q
    refine ⟨q.1, ?_⟩
    rcases h with ⟨h1, h2⟩ | ⟨h1, h2, h3⟩
    · exact Or.inl (by omega)
    · have hp := hp (by omega)
      have e : best.toNatClampNeg = (zq_mw I d w N t).1 := by
        have := z_clt (x := best) rfl (by omega)
        omega
      rw [e] at hp
      have q2 := q.2
      rw [← h3] at q2
      omega
  unfold zq_mX
  rw [hw]
  exact h
theorem zq_am_0 {I : z_I} {d w what : Int} {N : Nat} (h : (zq_ml I d w N).length = 0) : zq_am I d w what N = -1 := by
  unfold zq_am zq_an2
  rw [h]
  rfl
theorem zq_amr {I : z_I} {d w what : Int} {N : Nat} {best least r : Int32} (hX : zq_mX I d w N (zq_2 (zq_mn I d w N)) best least) (hr : (best.toInt < 0 ∧ r.toInt = -1) ∨ (0 ≤ best.toInt ∧ what = 0 ∧ r.toInt = (zq_pn best.toNatClampNeg : Int)) ∨ (0 ≤ best.toInt ∧ what = 1 ∧ r = least) ∨ (0 ≤ best.toInt ∧ what = 2 ∧ r = best) ∨ (0 ≤ best.toInt ∧ ¬ (what = 0 ∨ what = 1 ∨ what = 2) ∧ r.toInt = (zq_mPP I d w N).toInt)) : r.toInt = zq_am I d w what N := by
  show r.toInt = zq_an2 (zq_mn I d w N) (zq_mSS I d w N) (zq_mCC I d w N) (zq_mPP I d w N) what
  unfold zq_an2
  have key : (best.toInt < 0 ∧ (zq_mw I d w N (zq_2 (zq_mn I d w N))).1 = 0) ∨ (0 ≤ best.toInt ∧ ¬ (zq_mw I d w N (zq_2 (zq_mn I d w N))).1 = 0 ∧ best.toNatClampNeg = (zq_mw I d w N (zq_2 (zq_mn I d w N))).1 ∧ best.toInt = ((zq_mw I d w N (zq_2 (zq_mn I d w N))).1 : Int) ∧ least = (zq_mw I d w N (zq_2 (zq_mn I d w N))).2) := by
    rcases hX with ⟨h1, h2⟩ | ⟨h1, h2, h3⟩
    · exact Or.inl ⟨by omega, h1⟩
    · have := z_clt (x := best) rfl (by omega)
      exact Or.inr ⟨by omega, h1, by omega, h2, h3⟩
  rcases key with ⟨k1, k2⟩ | ⟨k1, k2, k3, k4, k5⟩
  · have k2 : (zq_w (zq_mn I d w N) (zq_mSS I d w N) (zq_mCC I d w N) (zq_mPP I d w N) (zq_2 (zq_mn I d w N))).1 = 0 := k2
    rw [if_pos k2]
    omega
  · have k2 : ¬ (zq_w (zq_mn I d w N) (zq_mSS I d w N) (zq_mCC I d w N) (zq_mPP I d w N) (zq_2 (zq_mn I d w N))).1 = 0 := k2
    rw [if_neg k2]
    rcases hr with ⟨a, b⟩ | ⟨a, b, c⟩ | ⟨a, b, c⟩ | ⟨a, b, c⟩ | ⟨a, b, c⟩
    · omega
    · rw [if_pos b, c, k3]
    · rw [if_neg (by omega), if_pos b, c, k5]
    · rw [if_neg (by omega), if_neg (by omega), if_pos b, c]
      exact k4
    · rw [if_neg (by omega), if_neg (by omega), if_neg (by omega)]
      exact c
noncomputable def L_X3_add_j : z_L := [(61, 999), (62, 999), (63, 999), (64, 999), (65, 999), (66, 999), (60, 9)]
set_option maxHeartbeats 8000000 in
set_option maxRecDepth 100000 in
theorem sx_X3_add_j (l : Launch) (G : z_G) (ad : Nat → Nat) (c : z_C) (I : z_I) (hJ : z_iJ I) (a1 : Int32) (a2 : Int32) (a3 : Int32) (a4 : Int32) (a5 : Int32) (a6 : Int32) : z_M l yX3_add wsX3_add { frames := 1, cells := 0, slots := 0, locals := 12 } [.ref (ad 60), .int a1, .int a2, .int a3, .int a4, .int a5, .int a6] G (shC c, ad, I, JX, PC c ad) (fun r u1 => ∃ I1 : z_I, u1 = (shC c, ad, I1, JX, PC c ad) ∧ z_iJ I1 ∧ z_fr L_X3_add_j I1 I ∧ (((I 60 9).toInt < 60 ∧ r.toInt = (I 60 9).toInt ∧ (I1 60 9).toInt = (I 60 9).toInt + 1 ∧ z_jrX I1 I (I 60 9).toNatClampNeg a1 a2 a3 a5 a6) ∨ (¬ (I 60 9).toInt < 60 ∧ r.toInt = -1 ∧ (I1 60 9).toInt = (I 60 9).toInt ∧ z_jsX I1 I))) 0 0 := by
  intro sz
  refine z_headQ (cc := cX3_add) (maxL := 7) (ret := (some .int)) (by decide) rfl (Nat.le_of_ble_eq_true rfl) ?_
  intro p e s m below meth c0 ls hIn hK hsz hW hl
  obtain ⟨hx, hb, hr, hml, hown, hts, hlocks, hname⟩ := hIn
  subst hsz
  have hown : s.vm.findClass RX3 = some m.cls := hown
  have hA : ∀ q : Nat, s.heap.size ≤ q → z_A (shC c, ad, I, JX, PC c ad) s.heap.size q := fun q h => Or.inr h
  generalize hAe : z_A (shC c, ad, I, JX, PC c ad) s.heap.size = A at *
  have hS : va_S A s.heap s.heap [] := va_S.rf
  have hl : lv_has ls 7 [(0, .ref (ad 60)), (1, .int a1), (2, .int a2), (3, .int a3), (4, .int a4), (5, .int a5), (6, .int a6)] := hl
  refine lv_aload_n hx hb dX3_add_0 rfl (lv_at hl 0 rfl) ?_
  have r1 : 0 ≤ (I 60 9).toInt ∧ (I 60 9).toInt ≤ 60 := hJ.1
  refine z_get (T := TX3) (N := 17) (ci := 3) (i := 60) (v := .int (I 60 9)) hx hb hts zj_X3_add_X3 hown hK hW rfl rfl 9 (by decide) (hts (.fieldLink RX3 45 "PetrolBoard$Journeys" "number" "I") (me_s (me_l (List.mem_of_getElem? (i := 0) rfl)))) (fun _ h => h) rfl dX3_add_1 ?_
  refine lv_bipush (v := 60) hx hb dX3_add_4 (by decide) ?_
  refine lv_icmp_lt (tgt := 11) hx hb dX3_add_6 (by decide) (fun c2 => ?_) (fun c2 => ?_)
  · have g3 := z_f_lt rfl z_l60 c2
    refine lv_aload_n hx hb dX3_add_11 rfl (lv_at hl 0 rfl) ?_
    refine z_get (T := TX3) (N := 17) (ci := 3) (i := 60) (v := .ref (ad 61)) hx hb hts zj_X3_add_X3 hown hK hW rfl rfl 0 (by decide) (hts (.fieldLink RX3 9 "PetrolBoard$Journeys" "holder" "[I") (me_s (me_l (List.mem_of_getElem? (i := 1) rfl)))) (fun _ h => h) rfl dX3_add_12 ?_
    refine lv_aload_n hx hb dX3_add_15 rfl (lv_at hl 0 rfl) ?_
    refine z_get (T := TX3) (N := 17) (ci := 3) (i := 60) (v := .int (I 60 9)) hx hb hts zj_X3_add_X3 hown hK hW rfl rfl 9 (by decide) (hts (.fieldLink RX3 45 "PetrolBoard$Journeys" "number" "I") (me_s (me_l (List.mem_of_getElem? (i := 0) rfl)))) (fun _ h => h) rfl dX3_add_16 ?_
    refine lv_iload_n hx hb dX3_add_19 rfl (lv_at hl 1 rfl) ?_
    refine z_iast (i := 61) hx hb hK hW hS rfl (z_ix rfl (by omega) (by omega)) dX3_add_20 (fun H locs hz1 hW hS => ?_)
    obtain ⟨I4, eI4⟩ : ∃ K : z_I, K = z_up I 61 (I 60 9).toNatClampNeg a1 := ⟨_, rfl⟩
    rw [← eI4] at hW
    have f5 := z_fr_a z_fr_0 (show z_wa L_X3_add_j 61 = true by decide) eI4
    refine lv_aload_n hx hb dX3_add_21 rfl (lv_at hl 0 rfl) ?_
    refine z_get (T := TX3) (N := 17) (ci := 3) (i := 60) (v := .ref (ad 62)) hx hb hts zj_X3_add_X3 hown hK hW rfl rfl 1 (by decide) (hts (.fieldLink RX3 15 "PetrolBoard$Journeys" "miles" "[I") (me_s (me_l (List.mem_of_getElem? (i := 2) rfl)))) (fun _ h => h) rfl dX3_add_22 ?_
    refine lv_aload_n hx hb dX3_add_25 rfl (lv_at hl 0 rfl) ?_
    refine z_get (T := TX3) (N := 17) (ci := 3) (i := 60) (v := .int (I 60 9)) hx hb hts zj_X3_add_X3 hown hK hW rfl rfl 9 (by decide) (hts (.fieldLink RX3 45 "PetrolBoard$Journeys" "number" "I") (me_s (me_l (List.mem_of_getElem? (i := 0) rfl)))) (fun _ h => h) (congrArg Value.int (by rw [eI4, z_up_n (by decide)])) dX3_add_26 ?_
    refine lv_iload_n hx hb dX3_add_29 rfl (lv_at hl 2 rfl) ?_
    refine z_iast (i := 62) hx hb hK hW hS rfl (z_ix rfl (by omega) (by omega)) dX3_add_30 (fun H locs hz1 hW hS => ?_)
    obtain ⟨I6, eI6⟩ : ∃ K : z_I, K = z_up I4 62 (I 60 9).toNatClampNeg a2 := ⟨_, rfl⟩
    rw [← eI6] at hW
    have f7 := z_fr_a f5 (show z_wa L_X3_add_j 62 = true by decide) eI6
    refine lv_aload_n hx hb dX3_add_31 rfl (lv_at hl 0 rfl) ?_
    refine z_get (T := TX3) (N := 17) (ci := 3) (i := 60) (v := .ref (ad 63)) hx hb hts zj_X3_add_X3 hown hK hW rfl rfl 2 (by decide) (hts (.fieldLink RX3 18 "PetrolBoard$Journeys" "people" "[I") (me_s (me_l (List.mem_of_getElem? (i := 3) rfl)))) (fun _ h => h) rfl dX3_add_32 ?_
    refine lv_aload_n hx hb dX3_add_35 rfl (lv_at hl 0 rfl) ?_
    refine z_get (T := TX3) (N := 17) (ci := 3) (i := 60) (v := .int (I 60 9)) hx hb hts zj_X3_add_X3 hown hK hW rfl rfl 9 (by decide) (hts (.fieldLink RX3 45 "PetrolBoard$Journeys" "number" "I") (me_s (me_l (List.mem_of_getElem? (i := 0) rfl)))) (fun _ h => h) (congrArg Value.int (by rw [eI6, z_up_n (by decide), eI4, z_up_n (by decide)])) dX3_add_36 ?_
    refine lv_iload_n hx hb dX3_add_39 rfl (lv_at hl 3 rfl) ?_
    refine z_iast (i := 63) hx hb hK hW hS rfl (z_ix rfl (by omega) (by omega)) dX3_add_40 (fun H locs hz1 hW hS => ?_)
    obtain ⟨I8, eI8⟩ : ∃ K : z_I, K = z_up I6 63 (I 60 9).toNatClampNeg a3 := ⟨_, rfl⟩
    rw [← eI8] at hW
    have f9 := z_fr_a f7 (show z_wa L_X3_add_j 63 = true by decide) eI8
    refine lv_aload_n hx hb dX3_add_41 rfl (lv_at hl 0 rfl) ?_
    refine z_get (T := TX3) (N := 17) (ci := 3) (i := 60) (v := .ref (ad 64)) hx hb hts zj_X3_add_X3 hown hK hW rfl rfl 3 (by decide) (hts (.fieldLink RX3 21 "PetrolBoard$Journeys" "reason" "[I") (me_s (me_l (List.mem_of_getElem? (i := 4) rfl)))) (fun _ h => h) rfl dX3_add_42 ?_
    refine lv_aload_n hx hb dX3_add_45 rfl (lv_at hl 0 rfl) ?_
    refine z_get (T := TX3) (N := 17) (ci := 3) (i := 60) (v := .int (I 60 9)) hx hb hts zj_X3_add_X3 hown hK hW rfl rfl 9 (by decide) (hts (.fieldLink RX3 45 "PetrolBoard$Journeys" "number" "I") (me_s (me_l (List.mem_of_getElem? (i := 0) rfl)))) (fun _ h => h) (congrArg Value.int (by rw [eI8, z_up_n (by decide), eI6, z_up_n (by decide), eI4, z_up_n (by decide)])) dX3_add_46 ?_
    refine lv_iload hx hb dX3_add_49 (lv_at hl 4 rfl) ?_
    refine z_iast (i := 64) hx hb hK hW hS rfl (z_ix rfl (by omega) (by omega)) dX3_add_51 (fun H locs hz1 hW hS => ?_)
    obtain ⟨I10, eI10⟩ : ∃ K : z_I, K = z_up I8 64 (I 60 9).toNatClampNeg a4 := ⟨_, rfl⟩
    rw [← eI10] at hW
    have f11 := z_fr_a f9 (show z_wa L_X3_add_j 64 = true by decide) eI10
    refine lv_aload_n hx hb dX3_add_52 rfl (lv_at hl 0 rfl) ?_
    refine z_get (T := TX3) (N := 17) (ci := 3) (i := 60) (v := .ref (ad 65)) hx hb hts zj_X3_add_X3 hown hK hW rfl rfl 4 (by decide) (hts (.fieldLink RX3 24 "PetrolBoard$Journeys" "day" "[I") (me_s (me_l (List.mem_of_getElem? (i := 5) rfl)))) (fun _ h => h) rfl dX3_add_53 ?_
    refine lv_aload_n hx hb dX3_add_56 rfl (lv_at hl 0 rfl) ?_
    refine z_get (T := TX3) (N := 17) (ci := 3) (i := 60) (v := .int (I 60 9)) hx hb hts zj_X3_add_X3 hown hK hW rfl rfl 9 (by decide) (hts (.fieldLink RX3 45 "PetrolBoard$Journeys" "number" "I") (me_s (me_l (List.mem_of_getElem? (i := 0) rfl)))) (fun _ h => h) (congrArg Value.int (by rw [eI10, z_up_n (by decide), eI8, z_up_n (by decide), eI6, z_up_n (by decide), eI4, z_up_n (by decide)])) dX3_add_57 ?_
    refine lv_iload hx hb dX3_add_60 (lv_at hl 5 rfl) ?_
    refine z_iast (i := 65) hx hb hK hW hS rfl (z_ix rfl (by omega) (by omega)) dX3_add_62 (fun H locs hz1 hW hS => ?_)
    obtain ⟨I12, eI12⟩ : ∃ K : z_I, K = z_up I10 65 (I 60 9).toNatClampNeg a5 := ⟨_, rfl⟩
    rw [← eI12] at hW
    have f13 := z_fr_a f11 (show z_wa L_X3_add_j 65 = true by decide) eI12
    refine lv_aload_n hx hb dX3_add_63 rfl (lv_at hl 0 rfl) ?_
    refine z_get (T := TX3) (N := 17) (ci := 3) (i := 60) (v := .ref (ad 66)) hx hb hts zj_X3_add_X3 hown hK hW rfl rfl 5 (by decide) (hts (.fieldLink RX3 27 "PetrolBoard$Journeys" "way" "[I") (me_s (me_l (List.mem_of_getElem? (i := 6) rfl)))) (fun _ h => h) rfl dX3_add_64 ?_
    refine lv_aload_n hx hb dX3_add_67 rfl (lv_at hl 0 rfl) ?_
    refine z_get (T := TX3) (N := 17) (ci := 3) (i := 60) (v := .int (I 60 9)) hx hb hts zj_X3_add_X3 hown hK hW rfl rfl 9 (by decide) (hts (.fieldLink RX3 45 "PetrolBoard$Journeys" "number" "I") (me_s (me_l (List.mem_of_getElem? (i := 0) rfl)))) (fun _ h => h) (congrArg Value.int (by rw [eI12, z_up_n (by decide), eI10, z_up_n (by decide), eI8, z_up_n (by decide), eI6, z_up_n (by decide), eI4, z_up_n (by decide)])) dX3_add_68 ?_
    refine lv_iload hx hb dX3_add_71 (lv_at hl 6 rfl) ?_
    refine z_iast (i := 66) hx hb hK hW hS rfl (z_ix rfl (by omega) (by omega)) dX3_add_73 (fun H locs hz1 hW hS => ?_)
    obtain ⟨I14, eI14⟩ : ∃ K : z_I, K = z_up I12 66 (I 60 9).toNatClampNeg a6 := ⟨_, rfl⟩
    rw [← eI14] at hW
    have f15 := z_fr_a f13 (show z_wa L_X3_add_j 66 = true by decide) eI14
    refine lv_aload_n hx hb dX3_add_74 rfl (lv_at hl 0 rfl) ?_
    refine lv_dup hx hb dX3_add_75 rfl ?_
    refine z_get (T := TX3) (N := 17) (ci := 3) (i := 60) (v := .int (I 60 9)) hx hb hts zj_X3_add_X3 hown hK hW rfl rfl 9 (by decide) (hts (.fieldLink RX3 45 "PetrolBoard$Journeys" "number" "I") (me_s (me_l (List.mem_of_getElem? (i := 0) rfl)))) (fun _ h => h) (congrArg Value.int (by rw [eI14, z_up_n (by decide), eI12, z_up_n (by decide), eI10, z_up_n (by decide), eI8, z_up_n (by decide), eI6, z_up_n (by decide), eI4, z_up_n (by decide)])) dX3_add_76 ?_
    refine lv_iconst (v := 1) hx hb dX3_add_79 (by decide) ?_
    refine lv_iadd hx hb dX3_add_80 ?_
    refine lv_topi (fun x16 ex16 => ?_)
    have tx16 : x16.toInt = (I 60 9).toInt + 1 := z_tadd ex16 rfl z_l1 (by omega) (by omega)
    refine z_put (T := TX3) (N := 17) (ci := 3) (i := 60) (v := .int x16) (I1 := z_up I14 60 9 x16) (J1 := JX) (P1 := PC c ad) hx hb hts zj_X3_add_X3 tyX3 tyX3_ok nmX3 hown hK hW hS rfl rfl 9 (by decide) (hts (.fieldLink RX3 45 "PetrolBoard$Journeys" "number" "I") (me_s (me_l (List.mem_of_getElem? (i := 0) rfl)))) (fun _ h => h) rfl rfl rfl (by first | rfl | exact congrArg _ z_up_s) (fun a b h ty => z_vI h ty) dX3_add_81 (fun H locs hz1 hW hS => ?_)
    obtain ⟨I17, eI17⟩ : ∃ K : z_I, K = z_up I14 60 9 x16 := ⟨_, rfl⟩
    rw [← eI17] at hW
    have f18 := z_fr_k f15 (show z_wr L_X3_add_j 60 9 = true by decide) eI17
    refine lv_aload_n hx hb dX3_add_84 rfl (lv_at hl 0 rfl) ?_
    refine z_get (T := TX3) (N := 17) (ci := 3) (i := 60) (v := .int x16) hx hb hts zj_X3_add_X3 hown hK hW rfl rfl 9 (by decide) (hts (.fieldLink RX3 45 "PetrolBoard$Journeys" "number" "I") (me_s (me_l (List.mem_of_getElem? (i := 0) rfl)))) (fun _ h => h) (congrArg Value.int (by rw [eI17, z_up_s])) dX3_add_85 ?_
    refine lv_iconst (v := 1) hx hb dX3_add_88 (by decide) ?_
    refine lv_isub hx hb dX3_add_89 ?_
    refine lv_topi (fun x19 ex19 => ?_)
    have tx19 : x19.toInt = x16.toInt - 1 := z_tsub ex19 rfl z_l1 (by omega) (by omega)
    exact z_iret hx hb hr hK hS (Nat.le_of_ble_eq_true rfl) (Nat.le_of_ble_eq_true rfl) hlocks dX3_add_90 (shC c, ad, I17, JX, PC c ad) hW ⟨I17, rfl, ⟨(by show 0 ≤ (I17 60 9).toInt ∧ (I17 60 9).toInt ≤ 60; rw [eI17, z_up_s]; omega), (by show 0 ≤ (I17 60 12).toInt ∧ (I17 60 12).toInt ≤ 12; rw [eI17, z_up_k (by decide), eI14, z_up_n (by decide), eI12, z_up_n (by decide), eI10, z_up_n (by decide), eI8, z_up_n (by decide), eI6, z_up_n (by decide), eI4, z_up_n (by decide)]; exact hJ.2)⟩, f18, (Or.inl ⟨by omega, by omega, (by have q9 : (I17 60 9) = x16 := (by rw [eI17, z_up_s]); show (I17 60 9).toInt = (I 60 9).toInt + 1; rw [q9]; first | done | omega), ⟨(fun j => by rw [eI17, z_up_n (by decide), eI14, z_up_n (by decide), eI12, z_up_n (by decide), eI10, z_up_n (by decide), eI8, z_up_n (by decide), eI6, z_up_n (by decide), eI4, z_up_j]), (fun j => by rw [eI17, z_up_n (by decide), eI14, z_up_n (by decide), eI12, z_up_n (by decide), eI10, z_up_n (by decide), eI8, z_up_n (by decide), eI6, z_up_j, eI4, z_up_n (by decide)]), (fun j => by rw [eI17, z_up_n (by decide), eI14, z_up_n (by decide), eI12, z_up_n (by decide), eI10, z_up_n (by decide), eI8, z_up_j, eI6, z_up_n (by decide), eI4, z_up_n (by decide)]), (fun j => by rw [eI17, z_up_n (by decide), eI14, z_up_n (by decide), eI12, z_up_j, eI10, z_up_n (by decide), eI8, z_up_n (by decide), eI6, z_up_n (by decide), eI4, z_up_n (by decide)]), (fun j => by rw [eI17, z_up_n (by decide), eI14, z_up_j, eI12, z_up_n (by decide), eI10, z_up_n (by decide), eI8, z_up_n (by decide), eI6, z_up_n (by decide), eI4, z_up_n (by decide)])⟩⟩)⟩
  · have g20 := z_f_nlt rfl z_l60 c2
    refine lv_iconst (v := (-1)) hx hb dX3_add_9 (by decide) ?_
    exact z_iret hx hb hr hK hS (Nat.le_of_ble_eq_true rfl) (Nat.le_of_ble_eq_true rfl) hlocks dX3_add_10 (shC c, ad, I, JX, PC c ad) hW ⟨I, rfl, ⟨(by show 0 ≤ (I 60 9).toInt ∧ (I 60 9).toInt ≤ 60; exact hJ.1), (by show 0 ≤ (I 60 12).toInt ∧ (I 60 12).toInt ≤ 12; exact hJ.2)⟩, z_fr_0, (Or.inr ⟨by omega, by decide, (by show (I 60 9).toInt = (I 60 9).toInt; omega), (fun j => ⟨rfl, rfl, rfl, rfl, rfl⟩)⟩)⟩
noncomputable def L_X11_ask_j : z_L := [(61, 999), (62, 999), (63, 999), (64, 999), (65, 999), (66, 999), (60, 9), (24, 999), (25, 999), (67, 999), (68, 999), (69, 999)]
set_option maxHeartbeats 8000000 in
set_option maxRecDepth 100000 in
theorem sx_X11_ask_j (l : Launch) (G : z_G) (ad : Nat → Nat) (c : z_C) (I : z_I) (hO : z_iO I) (hH : z_iH I) (hJ : z_iJ I) (hB : z_iB I) (a1 : Int32) (a2 : Int32) (a3 : Int32) (a4 : Int32) (a5 : Int32) (a6 : Int32) (hc : z_okc c) (h10 : c.1 ≤ 10) : z_M l yX11_ask wsX11_ask { frames := 6, cells := 0, slots := 0, locals := 160 } [.ref (ad 0), .int a1, .int a2, .int a3, .int a4, .int a5, .int a6] G (shC c, ad, I, JX, PC c ad) (fun r u1 => ∃ I1 : z_I, u1 = (shC c, ad, I1, JX, PC c ad) ∧ z_iO I1 ∧ z_iH I1 ∧ z_iJ I1 ∧ z_iB I1 ∧ z_fr L_X11_ask_j I1 I ∧ (((0 ≤ a1.toInt ∧ a1.toInt < (I 1 5).toInt ∧ 1 ≤ a2.toInt ∧ a2.toInt ≤ 500 ∧ 1 ≤ a3.toInt ∧ a3.toInt ≤ 8 ∧ 0 ≤ a4.toInt ∧ a4.toInt ≤ 4 ∧ (I 0 0).toInt ≤ a5.toInt ∧ a5.toInt ≤ 719 ∧ 0 ≤ a6.toInt ∧ a6.toInt ≤ 99 ∧ a6.toInt / 10 ≠ a6.toInt % 10 ∧ (I 60 9).toInt < 60) ∧ r.toInt = (I 60 9).toInt ∧ (I1 60 9).toInt = (I 60 9).toInt + 1 ∧ z_jrX I1 I (I 60 9).toNatClampNeg a1 a2 a3 a5 a6) ∨ (¬ (0 ≤ a1.toInt ∧ a1.toInt < (I 1 5).toInt ∧ 1 ≤ a2.toInt ∧ a2.toInt ≤ 500 ∧ 1 ≤ a3.toInt ∧ a3.toInt ≤ 8 ∧ 0 ≤ a4.toInt ∧ a4.toInt ≤ 4 ∧ (I 0 0).toInt ≤ a5.toInt ∧ a5.toInt ≤ 719 ∧ 0 ≤ a6.toInt ∧ a6.toInt ≤ 99 ∧ a6.toInt / 10 ≠ a6.toInt % 10 ∧ (I 60 9).toInt < 60) ∧ r.toInt = -1 ∧ (I1 60 9).toInt = (I 60 9).toInt ∧ z_jsX I1 I))) 0 0 := by
  intro sz
  refine z_headQ (cc := cX11_ask) (maxL := 8) (ret := (some .int)) (by decide) rfl (Nat.le_of_ble_eq_true rfl) ?_
  intro p e s m below meth c0 ls hIn hK hsz hW hl
  obtain ⟨hx, hb, hr, hml, hown, hts, hlocks, hname⟩ := hIn
  subst hsz
  have hown : s.vm.findClass RX11 = some m.cls := hown
  have hA : ∀ q : Nat, s.heap.size ≤ q → z_A (shC c, ad, I, JX, PC c ad) s.heap.size q := fun q h => Or.inr h
  generalize hAe : z_A (shC c, ad, I, JX, PC c ad) s.heap.size = A at *
  have hS : va_S A s.heap s.heap [] := va_S.rf
  have hl : lv_has ls 8 [(0, .ref (ad 0)), (1, .int a1), (2, .int a2), (3, .int a3), (4, .int a4), (5, .int a5), (6, .int a6)] := hl
  refine lv_aload_n hx hb dX11_ask_0 rfl (lv_at hl 0 rfl) ?_
  refine z_get (T := TX11) (N := 13) (ci := 11) (i := 0) (v := .ref (ad 1)) hx hb hts zj_X11_ask_X11 hown hK hW rfl rfl 2 (by decide) (hts (.fieldLink RX11 16 "PetrolBoard" "holders" "LPetrolBoard$Holders;") (me_s (me_l (me_l (me_l (me_l (me_l (me_l (me_l (List.mem_of_getElem? (i := 0) rfl)))))))))) (fun _ h => h) rfl dX11_ask_1 ?_
  refine lv_iload_n hx hb dX11_ask_4 rfl (lv_at hl 1 rfl) ?_
  refine z_ci hW hS hA (va_runV (As := [.int a1]) (rest := []) ⟨hx, hb, hml, hown, hts⟩ (sx_X2_has_e l G ad c I ⟨(by show 0 ≤ (I 1 5).toInt ∧ (I 1 5).toInt ≤ 30; exact hH.1), (by show 0 ≤ (I 1 11).toInt ∧ (I 1 11).toInt ≤ 200; exact hH.2)⟩ a1 _) (cwV 1 hts gX11_ask_X2_has rfl rfl rfl (by decide +kernel) ⟨Nat.le_of_ble_eq_true rfl, Nat.le_of_ble_eq_true rfl⟩) (z_preV (i := 1) hK hW rfl rfl) rfl rfl hl.1 rfl (lv_room (Nat.le_of_ble_eq_true rfl)) dX11_ask_5 ⟨Nat.le_of_ble_eq_true rfl, Nat.le_of_ble_eq_true rfl⟩) (fun r u1 H locs hp hW hS => ?_)
  obtain ⟨e9, hp⟩ := hp
  rw [e9] at hW
  rcases hp with ⟨rfl, h1⟩ | ⟨rfl, h1⟩
  · have h2 := h1
    have r3 : 0 ≤ (I 1 5).toInt ∧ (I 1 5).toInt ≤ 30 := hH.1
    refine lv_if_eq (tgt := 32) hx hb dX11_ask_8 (by decide) (fun c4 => absurd c4 (by decide)) (fun c4 => ?_)
    refine lv_iload_n hx hb dX11_ask_11 rfl (lv_at hl 2 rfl) ?_
    refine lv_iconst (v := 1) hx hb dX11_ask_12 (by decide) ?_
    refine lv_sipush (v := 500) hx hb dX11_ask_13 (by decide) ?_
    refine z_ci hW hS hA (va_runS (As := [.int a2, .int 1, .int 500]) (rest := []) ⟨hx, hb, hml, hown, hts⟩ (sx_X11_within_e l G ad c I  a2 1 500 _) (va_cwS 3 hts gX11_ask_X11_within rfl rfl rfl (by decide +kernel) ⟨Nat.le_of_ble_eq_true rfl, Nat.le_of_ble_eq_true rfl⟩) (z_preS hK hW) rfl rfl hl.1 rfl (lv_room (Nat.le_of_ble_eq_true rfl)) dX11_ask_16 ⟨Nat.le_of_ble_eq_true rfl, Nat.le_of_ble_eq_true rfl⟩) (fun r u1 H locs hp hW hS => ?_)
    obtain ⟨e9, hp⟩ := hp
    rw [e9] at hW
    rcases hp with ⟨rfl, h5⟩ | ⟨rfl, h5⟩
    · have h6 := h5
      have z7 := z_l1
      have z8 := z_l500
      refine lv_if_eq (tgt := 32) hx hb dX11_ask_19 (by decide) (fun c9 => absurd c9 (by decide)) (fun c9 => ?_)
      refine lv_iload_n hx hb dX11_ask_22 rfl (lv_at hl 3 rfl) ?_
      refine lv_iconst (v := 1) hx hb dX11_ask_23 (by decide) ?_
      refine lv_bipush (v := 8) hx hb dX11_ask_24 (by decide) ?_
      refine z_ci hW hS hA (va_runS (As := [.int a3, .int 1, .int 8]) (rest := []) ⟨hx, hb, hml, hown, hts⟩ (sx_X11_within_e l G ad c I  a3 1 8 _) (va_cwS 3 hts gX11_ask_X11_within rfl rfl rfl (by decide +kernel) ⟨Nat.le_of_ble_eq_true rfl, Nat.le_of_ble_eq_true rfl⟩) (z_preS hK hW) rfl rfl hl.1 rfl (lv_room (Nat.le_of_ble_eq_true rfl)) dX11_ask_26 ⟨Nat.le_of_ble_eq_true rfl, Nat.le_of_ble_eq_true rfl⟩) (fun r u1 H locs hp hW hS => ?_)
      obtain ⟨e9, hp⟩ := hp
      rw [e9] at hW
      rcases hp with ⟨rfl, h11⟩ | ⟨rfl, h11⟩
      · have h12 := h11
        have z13 := z_l1
        have z14 := z_l8
        refine lv_if_ne (tgt := 34) hx hb dX11_ask_29 (by decide) (fun c15 => ?_) (fun c15 => absurd c15 (by decide))
        refine lv_iload hx hb dX11_ask_34 (lv_at hl 4 rfl) ?_
        refine z_ci hW hS hA (va_runS (As := [.int a4]) (rest := []) ⟨hx, hb, hml, hown, hts⟩ (sx_X11_isReason_e l G ad c I  a4 _) (va_cwS 1 hts gX11_ask_X11_isReason rfl rfl rfl (by decide +kernel) ⟨Nat.le_of_ble_eq_true rfl, Nat.le_of_ble_eq_true rfl⟩) (z_preS hK hW) rfl rfl hl.1 rfl (lv_room (Nat.le_of_ble_eq_true rfl)) dX11_ask_36 ⟨Nat.le_of_ble_eq_true rfl, Nat.le_of_ble_eq_true rfl⟩) (fun r u1 H locs hp hW hS => ?_)
        obtain ⟨e9, hp⟩ := hp
        rw [e9] at hW
        rcases hp with ⟨rfl, h16⟩ | ⟨rfl, h16⟩
        · have h17 := h16
          refine lv_if_eq (tgt := 65) hx hb dX11_ask_39 (by decide) (fun c18 => absurd c18 (by decide)) (fun c18 => ?_)
          refine lv_iload hx hb dX11_ask_42 (lv_at hl 5 rfl) ?_
          refine lv_aload_n hx hb dX11_ask_44 rfl (lv_at hl 0 rfl) ?_
          have r19 : 0 ≤ (I 0 0).toInt ∧ (I 0 0).toInt ≤ 719 := hB.1
          refine z_get (T := TX11) (N := 13) (ci := 11) (i := 0) (v := .int (I 0 0)) hx hb hts zj_X11_ask_X11 hown hK hW rfl rfl 0 (by decide) (hts (.fieldLink RX11 85 "PetrolBoard" "today" "I") (me_s (me_l (me_l (me_l (me_l (me_l (me_l (me_l (List.mem_of_getElem? (i := 1) rfl)))))))))) (fun _ h => h) rfl dX11_ask_45 ?_
          refine lv_sipush (v := 719) hx hb dX11_ask_48 (by decide) ?_
          refine z_ci hW hS hA (va_runS (As := [.int a5, .int (I 0 0), .int 719]) (rest := []) ⟨hx, hb, hml, hown, hts⟩ (sx_X11_within_e l G ad c I  a5 (I 0 0) 719 _) (va_cwS 3 hts gX11_ask_X11_within rfl rfl rfl (by decide +kernel) ⟨Nat.le_of_ble_eq_true rfl, Nat.le_of_ble_eq_true rfl⟩) (z_preS hK hW) rfl rfl hl.1 rfl (lv_room (Nat.le_of_ble_eq_true rfl)) dX11_ask_51 ⟨Nat.le_of_ble_eq_true rfl, Nat.le_of_ble_eq_true rfl⟩) (fun r u1 H locs hp hW hS => ?_)
          obtain ⟨e9, hp⟩ := hp
          rw [e9] at hW
          rcases hp with ⟨rfl, h20⟩ | ⟨rfl, h20⟩
          · have h21 := h20
            have z22 := z_l719
            refine lv_if_eq (tgt := 65) hx hb dX11_ask_54 (by decide) (fun c23 => absurd c23 (by decide)) (fun c23 => ?_)
            refine lv_iload hx hb dX11_ask_57 (lv_at hl 6 rfl) ?_
            refine z_ci hW hS hA (va_runS (As := [.int a6]) (rest := []) ⟨hx, hb, hml, hown, hts⟩ (sx_X11_isWay_e l G ad c I  a6 _) (va_cwS 1 hts gX11_ask_X11_isWay rfl rfl rfl (by decide +kernel) ⟨Nat.le_of_ble_eq_true rfl, Nat.le_of_ble_eq_true rfl⟩) (z_preS hK hW) rfl rfl hl.1 rfl (lv_room (Nat.le_of_ble_eq_true rfl)) dX11_ask_59 ⟨Nat.le_of_ble_eq_true rfl, Nat.le_of_ble_eq_true rfl⟩) (fun r u1 H locs hp hW hS => ?_)
            obtain ⟨e9, hp⟩ := hp
            rw [e9] at hW
            rcases hp with ⟨rfl, h24⟩ | ⟨rfl, h24⟩
            · have h25 := h24
              refine lv_if_ne (tgt := 67) hx hb dX11_ask_62 (by decide) (fun c26 => ?_) (fun c26 => absurd c26 (by decide))
              refine lv_aload_n hx hb dX11_ask_67 rfl (lv_at hl 0 rfl) ?_
              refine z_get (T := TX11) (N := 13) (ci := 11) (i := 0) (v := .ref (ad 60)) hx hb hts zj_X11_ask_X11 hown hK hW rfl rfl 11 (by decide) (hts (.fieldLink RX11 68 "PetrolBoard" "journeys" "LPetrolBoard$Journeys;") (me_s (me_l (me_l (me_l (me_l (me_l (me_l (me_l (List.mem_of_getElem? (i := 2) rfl)))))))))) (fun _ h => h) rfl dX11_ask_68 ?_
              refine lv_iload_n hx hb dX11_ask_71 rfl (lv_at hl 1 rfl) ?_
              refine lv_iload_n hx hb dX11_ask_72 rfl (lv_at hl 2 rfl) ?_
              refine lv_iload_n hx hb dX11_ask_73 rfl (lv_at hl 3 rfl) ?_
              refine lv_iload hx hb dX11_ask_74 (lv_at hl 4 rfl) ?_
              refine lv_iload hx hb dX11_ask_76 (lv_at hl 5 rfl) ?_
              refine lv_iload hx hb dX11_ask_78 (lv_at hl 6 rfl) ?_
              refine z_ci hW hS hA (va_runV (As := [.int a1, .int a2, .int a3, .int a4, .int a5, .int a6]) (rest := []) ⟨hx, hb, hml, hown, hts⟩ (sx_X3_add_j l G ad c I ⟨(by show 0 ≤ (I 60 9).toInt ∧ (I 60 9).toInt ≤ 60; exact hJ.1), (by show 0 ≤ (I 60 12).toInt ∧ (I 60 12).toInt ≤ 12; exact hJ.2)⟩ a1 a2 a3 a4 a5 a6 _) (cwV 6 hts gX11_ask_X3_add rfl rfl rfl (by decide +kernel) ⟨Nat.le_of_ble_eq_true rfl, Nat.le_of_ble_eq_true rfl⟩) (z_preV (i := 60) hK hW rfl rfl) rfl rfl hl.1 rfl (lv_room (Nat.le_of_ble_eq_true rfl)) dX11_ask_80 ⟨Nat.le_of_ble_eq_true rfl, Nat.le_of_ble_eq_true rfl⟩) (fun r u1 H locs hp hW hS => ?_)
              obtain ⟨I27, e9, hI27J, fI27, hp⟩ := hp
              rw [e9] at hW
              have f28 := z_fr_sub (L := L_X11_ask_j) z_fr_0 fI27 (by decide)
              have k29 : 0 ≤ (I27 21 2).toInt ∧ (I27 21 2).toInt ≤ 12 := by rw [fI27 21 2 (by decide)]; exact (by show 0 ≤ (I 21 2).toInt ∧ (I 21 2).toInt ≤ 12; exact hO)
              have k30 : 0 ≤ (I27 1 5).toInt ∧ (I27 1 5).toInt ≤ 30 := by rw [fI27 1 5 (by decide)]; exact (by show 0 ≤ (I 1 5).toInt ∧ (I 1 5).toInt ≤ 30; exact hH.1)
              have k31 : 0 ≤ (I27 1 11).toInt ∧ (I27 1 11).toInt ≤ 200 := by rw [fI27 1 11 (by decide)]; exact (by show 0 ≤ (I 1 11).toInt ∧ (I 1 11).toInt ≤ 200; exact hH.2)
              have k32 : 0 ≤ (I27 0 0).toInt ∧ (I27 0 0).toInt ≤ 719 := by rw [fI27 0 0 (by decide)]; exact (by show 0 ≤ (I 0 0).toInt ∧ (I 0 0).toInt ≤ 719; exact hB.1)
              have k33 : 0 ≤ (I27 0 8).toInt ∧ (I27 0 8).toInt ≤ 10 := by rw [fI27 0 8 (by decide)]; exact (by show 0 ≤ (I 0 8).toInt ∧ (I 0 8).toInt ≤ 10; exact hB.2)
              refine lv_topi (fun x34 ex34 => ?_)
              rw [← ex34] at hp
              rcases hp with ⟨h35, h36, h37, h38⟩ | ⟨h35, h36, h37, h38⟩
              · refine lv_istore (lv' := [(7, .int x34), (0, .ref (ad 0)), (1, .int a1), (2, .int a2), (3, .int a3), (4, .int a4), (5, .int a5), (6, .int a6)]) hx hb dX11_ask_83 hl (by decide) rfl (fun ls hl => ?_)
                refine lv_aload_n hx hb dX11_ask_85 rfl (lv_at hl 1 rfl) ?_
                refine z_get (T := TX11) (N := 13) (ci := 11) (i := 0) (v := .ref (ad 60)) hx hb hts zj_X11_ask_X11 hown hK hW rfl rfl 11 (by decide) (hts (.fieldLink RX11 68 "PetrolBoard" "journeys" "LPetrolBoard$Journeys;") (me_s (me_l (me_l (me_l (me_l (me_l (me_l (me_l (List.mem_of_getElem? (i := 2) rfl)))))))))) (fun _ h => h) rfl dX11_ask_86 ?_
                refine lv_iload hx hb dX11_ask_89 (lv_at hl 0 rfl) ?_
                refine z_ci hW hS hA (va_runV (As := [.int x34]) (rest := []) ⟨hx, hb, hml, hown, hts⟩ (sx_X3_has l G ad c I27 ⟨(by show 0 ≤ (I27 60 9).toInt ∧ (I27 60 9).toInt ≤ 60; exact hI27J.1), (by show 0 ≤ (I27 60 12).toInt ∧ (I27 60 12).toInt ≤ 12; exact hI27J.2)⟩ x34 _) (cwV 1 hts gX11_ask_X3_has rfl rfl rfl (by decide +kernel) ⟨Nat.le_of_ble_eq_true rfl, Nat.le_of_ble_eq_true rfl⟩) (z_preV (i := 60) hK hW rfl rfl) rfl rfl hl.1 rfl (lv_room (Nat.le_of_ble_eq_true rfl)) dX11_ask_91 ⟨Nat.le_of_ble_eq_true rfl, Nat.le_of_ble_eq_true rfl⟩) (fun r u1 H locs hp hW hS => ?_)
                obtain ⟨e9, hp⟩ := hp
                rw [e9] at hW
                rcases hp with ⟨rfl, h39, h40⟩ | rfl
                · refine lv_if_eq (tgt := 158) hx hb dX11_ask_94 (by decide) (fun c41 => absurd c41 (by decide)) (fun c41 => ?_)
                  refine lv_aload_n hx hb dX11_ask_97 rfl (lv_at hl 1 rfl) ?_
                  refine z_get (T := TX11) (N := 13) (ci := 11) (i := 0) (v := .ref (ad 60)) hx hb hts zj_X11_ask_X11 hown hK hW rfl rfl 11 (by decide) (hts (.fieldLink RX11 68 "PetrolBoard" "journeys" "LPetrolBoard$Journeys;") (me_s (me_l (me_l (me_l (me_l (me_l (me_l (me_l (List.mem_of_getElem? (i := 2) rfl)))))))))) (fun _ h => h) rfl dX11_ask_98 ?_
                  refine z_get (T := TX3) (N := 17) (ci := 3) (i := 60) (v := .ref (ad 67)) hx hb hts zj_X11_ask_X3 hown hK hW rfl rfl 6 (by decide) (hts (.fieldLink RX11 329 "PetrolBoard$Journeys" "asked" "[I") (me_s (me_l (me_l (me_l (me_l (me_l (me_l (me_l (List.mem_of_getElem? (i := 3) rfl)))))))))) (fun _ h => h) rfl dX11_ask_101 ?_
                  refine lv_iload hx hb dX11_ask_104 (lv_at hl 0 rfl) ?_
                  refine lv_aload_n hx hb dX11_ask_106 rfl (lv_at hl 1 rfl) ?_
                  have r42 : 0 ≤ (I27 0 0).toInt ∧ (I27 0 0).toInt ≤ 719 := k32
                  refine z_get (T := TX11) (N := 13) (ci := 11) (i := 0) (v := .int (I27 0 0)) hx hb hts zj_X11_ask_X11 hown hK hW rfl rfl 0 (by decide) (hts (.fieldLink RX11 85 "PetrolBoard" "today" "I") (me_s (me_l (me_l (me_l (me_l (me_l (me_l (me_l (List.mem_of_getElem? (i := 1) rfl)))))))))) (fun _ h => h) rfl dX11_ask_107 ?_
                  refine z_iast (i := 67) hx hb hK hW hS rfl (z_ix rfl (by omega) (by omega)) dX11_ask_110 (fun H locs hz1 hW hS => ?_)
                  obtain ⟨I43, eI43⟩ : ∃ K : z_I, K = z_up I27 67 x34.toNatClampNeg (I27 0 0) := ⟨_, rfl⟩
                  rw [← eI43] at hW
                  have f44 := z_fr_a f28 (show z_wa L_X11_ask_j 67 = true by decide) eI43
                  refine lv_aload_n hx hb dX11_ask_111 rfl (lv_at hl 1 rfl) ?_
                  refine z_get (T := TX11) (N := 13) (ci := 11) (i := 0) (v := .ref (ad 60)) hx hb hts zj_X11_ask_X11 hown hK hW rfl rfl 11 (by decide) (hts (.fieldLink RX11 68 "PetrolBoard" "journeys" "LPetrolBoard$Journeys;") (me_s (me_l (me_l (me_l (me_l (me_l (me_l (me_l (List.mem_of_getElem? (i := 2) rfl)))))))))) (fun _ h => h) rfl dX11_ask_112 ?_
                  refine z_get (T := TX3) (N := 17) (ci := 3) (i := 60) (v := .ref (ad 68)) hx hb hts zj_X11_ask_X3 hown hK hW rfl rfl 7 (by decide) (hts (.fieldLink RX11 332 "PetrolBoard$Journeys" "granted" "[I") (me_s (me_l (me_l (me_l (me_l (me_l (me_l (me_l (List.mem_of_getElem? (i := 4) rfl)))))))))) (fun _ h => h) rfl dX11_ask_115 ?_
                  refine lv_iload hx hb dX11_ask_118 (lv_at hl 0 rfl) ?_
                  refine lv_aload_n hx hb dX11_ask_120 rfl (lv_at hl 1 rfl) ?_
                  refine z_get (T := TX11) (N := 13) (ci := 11) (i := 0) (v := .ref (ad 21)) hx hb hts zj_X11_ask_X11 hown hK hW rfl rfl 4 (by decide) (hts (.fieldLink RX11 30 "PetrolBoard" "orderBook" "LPetrolBoard$OrderBook;") (me_s (me_l (me_l (me_l (me_l (me_l (me_l (me_l (List.mem_of_getElem? (i := 5) rfl)))))))))) (fun _ h => h) rfl dX11_ask_121 ?_
                  refine lv_aload_n hx hb dX11_ask_124 rfl (lv_at hl 1 rfl) ?_
                  refine z_get (T := TX11) (N := 13) (ci := 11) (i := 0) (v := .ref (ad 1)) hx hb hts zj_X11_ask_X11 hown hK hW rfl rfl 2 (by decide) (hts (.fieldLink RX11 16 "PetrolBoard" "holders" "LPetrolBoard$Holders;") (me_s (me_l (me_l (me_l (me_l (me_l (me_l (me_l (List.mem_of_getElem? (i := 0) rfl)))))))))) (fun _ h => h) rfl dX11_ask_125 ?_
                  refine lv_aload_n hx hb dX11_ask_128 rfl (lv_at hl 1 rfl) ?_
                  refine z_get (T := TX11) (N := 13) (ci := 11) (i := 0) (v := .ref (ad 60)) hx hb hts zj_X11_ask_X11 hown hK hW rfl rfl 11 (by decide) (hts (.fieldLink RX11 68 "PetrolBoard" "journeys" "LPetrolBoard$Journeys;") (me_s (me_l (me_l (me_l (me_l (me_l (me_l (me_l (List.mem_of_getElem? (i := 2) rfl)))))))))) (fun _ h => h) rfl dX11_ask_129 ?_
                  refine lv_iload hx hb dX11_ask_132 (lv_at hl 0 rfl) ?_
                  refine z_ci hW hS hA (va_runV (As := [.ref (ad 1), .ref (ad 60), .int x34]) (rest := [.int x34, .ref (ad 68)]) ⟨hx, hb, hml, hown, hts⟩ (sx_X6_grant l G ad c I43 (by show 0 ≤ (I43 21 2).toInt ∧ (I43 21 2).toInt ≤ 12; rw [eI43, z_up_n (by decide)]; exact k29) ⟨(by show 0 ≤ (I43 1 5).toInt ∧ (I43 1 5).toInt ≤ 30; rw [eI43, z_up_n (by decide)]; exact k30), (by show 0 ≤ (I43 1 11).toInt ∧ (I43 1 11).toInt ≤ 200; rw [eI43, z_up_n (by decide)]; exact k31)⟩ ⟨(by show 0 ≤ (I43 60 9).toInt ∧ (I43 60 9).toInt ≤ 60; rw [eI43, z_up_n (by decide)]; exact hI27J.1), (by show 0 ≤ (I43 60 12).toInt ∧ (I43 60 12).toInt ≤ 12; rw [eI43, z_up_n (by decide)]; exact hI27J.2)⟩ x34 hc _) (cwV 3 hts gX11_ask_X6_grant rfl rfl rfl (by decide +kernel) ⟨Nat.le_of_ble_eq_true rfl, Nat.le_of_ble_eq_true rfl⟩) (z_preV (i := 21) hK hW rfl rfl) rfl rfl hl.1 rfl (lv_room (Nat.le_of_ble_eq_true rfl)) dX11_ask_134 ⟨Nat.le_of_ble_eq_true rfl, Nat.le_of_ble_eq_true rfl⟩) (fun r u1 H locs hp hW hS => ?_)
                  obtain ⟨I45, e9, hI45O, hI45H, hI45J, fI45⟩ := hp
                  rw [e9] at hW
                  have f46 := z_fr_sub (L := L_X11_ask_j) f44 fI45 (by decide)
                  have k47 : 0 ≤ (I45 0 0).toInt ∧ (I45 0 0).toInt ≤ 719 := by rw [fI45 0 0 (by decide)]; exact (by show 0 ≤ (I43 0 0).toInt ∧ (I43 0 0).toInt ≤ 719; rw [eI43, z_up_n (by decide)]; exact k32)
                  have k48 : 0 ≤ (I45 0 8).toInt ∧ (I45 0 8).toInt ≤ 10 := by rw [fI45 0 8 (by decide)]; exact (by show 0 ≤ (I43 0 8).toInt ∧ (I43 0 8).toInt ≤ 10; rw [eI43, z_up_n (by decide)]; exact k33)
                  have k49 : (I45 60 9).toInt = (I27 60 9).toInt := by rw [fI45 60 9 (by decide), eI43, z_up_n (by decide)]
                  refine lv_topi (fun x50 ex50 => ?_)
                  refine z_iast (i := 68) hx hb hK hW hS rfl (z_ix rfl (by omega) (by omega)) dX11_ask_137 (fun H locs hz1 hW hS => ?_)
                  obtain ⟨I51, eI51⟩ : ∃ K : z_I, K = z_up I45 68 x34.toNatClampNeg x50 := ⟨_, rfl⟩
                  rw [← eI51] at hW
                  have f52 := z_fr_a f46 (show z_wa L_X11_ask_j 68 = true by decide) eI51
                  refine lv_aload_n hx hb dX11_ask_138 rfl (lv_at hl 1 rfl) ?_
                  refine z_get (T := TX11) (N := 13) (ci := 11) (i := 0) (v := .ref (ad 60)) hx hb hts zj_X11_ask_X11 hown hK hW rfl rfl 11 (by decide) (hts (.fieldLink RX11 68 "PetrolBoard" "journeys" "LPetrolBoard$Journeys;") (me_s (me_l (me_l (me_l (me_l (me_l (me_l (me_l (List.mem_of_getElem? (i := 2) rfl)))))))))) (fun _ h => h) rfl dX11_ask_139 ?_
                  refine z_get (T := TX3) (N := 17) (ci := 3) (i := 60) (v := .ref (ad 69)) hx hb hts zj_X11_ask_X3 hown hK hW rfl rfl 8 (by decide) (hts (.fieldLink RX11 339 "PetrolBoard$Journeys" "grantedFirst" "[I") (me_s (me_l (me_l (me_l (me_l (me_l (me_l (me_l (List.mem_of_getElem? (i := 6) rfl)))))))))) (fun _ h => h) rfl dX11_ask_142 ?_
                  refine lv_iload hx hb dX11_ask_145 (lv_at hl 0 rfl) ?_
                  refine lv_aload_n hx hb dX11_ask_147 rfl (lv_at hl 1 rfl) ?_
                  refine z_get (T := TX11) (N := 13) (ci := 11) (i := 0) (v := .ref (ad 60)) hx hb hts zj_X11_ask_X11 hown hK hW rfl rfl 11 (by decide) (hts (.fieldLink RX11 68 "PetrolBoard" "journeys" "LPetrolBoard$Journeys;") (me_s (me_l (me_l (me_l (me_l (me_l (me_l (me_l (List.mem_of_getElem? (i := 2) rfl)))))))))) (fun _ h => h) rfl dX11_ask_148 ?_
                  refine z_get (T := TX3) (N := 17) (ci := 3) (i := 60) (v := .ref (ad 68)) hx hb hts zj_X11_ask_X3 hown hK hW rfl rfl 7 (by decide) (hts (.fieldLink RX11 332 "PetrolBoard$Journeys" "granted" "[I") (me_s (me_l (me_l (me_l (me_l (me_l (me_l (me_l (List.mem_of_getElem? (i := 4) rfl)))))))))) (fun _ h => h) rfl dX11_ask_151 ?_
                  refine lv_iload hx hb dX11_ask_154 (lv_at hl 0 rfl) ?_
                  refine z_iald (i := 68) hx hb hK hW rfl (z_ix rfl (by omega) (by omega)) dX11_ask_156 ?_
                  refine lv_topi (fun x53 ex53 => ?_)
                  refine z_iast (i := 69) hx hb hK hW hS rfl (z_ix rfl (by omega) (by omega)) dX11_ask_157 (fun H locs hz1 hW hS => ?_)
                  obtain ⟨I54, eI54⟩ : ∃ K : z_I, K = z_up I51 69 x34.toNatClampNeg x53 := ⟨_, rfl⟩
                  rw [← eI54] at hW
                  have f55 := z_fr_a f52 (show z_wa L_X11_ask_j 69 = true by decide) eI54
                  refine lv_iload hx hb dX11_ask_158 (lv_at hl 0 rfl) ?_
                  exact z_iret hx hb hr hK hS (Nat.le_of_ble_eq_true rfl) (Nat.le_of_ble_eq_true rfl) hlocks dX11_ask_160 (shC c, ad, I54, JX, PC c ad) hW ⟨I54, rfl, (by show 0 ≤ (I54 21 2).toInt ∧ (I54 21 2).toInt ≤ 12; rw [eI54, z_up_n (by decide), eI51, z_up_n (by decide)]; exact hI45O), ⟨(by show 0 ≤ (I54 1 5).toInt ∧ (I54 1 5).toInt ≤ 30; rw [eI54, z_up_n (by decide), eI51, z_up_n (by decide)]; exact hI45H.1), (by show 0 ≤ (I54 1 11).toInt ∧ (I54 1 11).toInt ≤ 200; rw [eI54, z_up_n (by decide), eI51, z_up_n (by decide)]; exact hI45H.2)⟩, ⟨(by show 0 ≤ (I54 60 9).toInt ∧ (I54 60 9).toInt ≤ 60; rw [eI54, z_up_n (by decide), eI51, z_up_n (by decide)]; exact hI45J.1), (by show 0 ≤ (I54 60 12).toInt ∧ (I54 60 12).toInt ≤ 12; rw [eI54, z_up_n (by decide), eI51, z_up_n (by decide)]; exact hI45J.2)⟩, ⟨(by show 0 ≤ (I54 0 0).toInt ∧ (I54 0 0).toInt ≤ 719; rw [eI54, z_up_n (by decide), eI51, z_up_n (by decide)]; exact k47), (by show 0 ≤ (I54 0 8).toInt ∧ (I54 0 8).toInt ≤ 10; rw [eI54, z_up_n (by decide), eI51, z_up_n (by decide)]; exact k48)⟩, f55, (Or.inl ⟨by omega, by omega, (by have q9 : (I54 60 9) = (I45 60 9) := (by rw [eI54, z_up_n (by decide), eI51, z_up_n (by decide)]); show (I54 60 9).toInt = (I 60 9).toInt + 1; rw [q9]; first | done | omega), ⟨(fun j => by rw [eI54, z_up_n (by decide), eI51, z_up_n (by decide), fI45 61 j (z_wr_c (by decide)), eI43, z_up_n (by decide)]; exact h38.1 j), (fun j => by rw [eI54, z_up_n (by decide), eI51, z_up_n (by decide), fI45 62 j (z_wr_c (by decide)), eI43, z_up_n (by decide)]; exact h38.2.1 j), (fun j => by rw [eI54, z_up_n (by decide), eI51, z_up_n (by decide), fI45 63 j (z_wr_c (by decide)), eI43, z_up_n (by decide)]; exact h38.2.2.1 j), (fun j => by rw [eI54, z_up_n (by decide), eI51, z_up_n (by decide), fI45 65 j (z_wr_c (by decide)), eI43, z_up_n (by decide)]; exact h38.2.2.2.1 j), (fun j => by rw [eI54, z_up_n (by decide), eI51, z_up_n (by decide), fI45 66 j (z_wr_c (by decide)), eI43, z_up_n (by decide)]; exact h38.2.2.2.2 j)⟩⟩)⟩
                · refine lv_if_eq (tgt := 158) hx hb dX11_ask_94 (by decide) (fun c56 => ?_) (fun c56 => absurd (by decide) c56)
                  refine lv_iload hx hb dX11_ask_158 (lv_at hl 0 rfl) ?_
                  exact z_iret hx hb hr hK hS (Nat.le_of_ble_eq_true rfl) (Nat.le_of_ble_eq_true rfl) hlocks dX11_ask_160 (shC c, ad, I27, JX, PC c ad) hW ⟨I27, rfl, (by show 0 ≤ (I27 21 2).toInt ∧ (I27 21 2).toInt ≤ 12; exact k29), ⟨(by show 0 ≤ (I27 1 5).toInt ∧ (I27 1 5).toInt ≤ 30; exact k30), (by show 0 ≤ (I27 1 11).toInt ∧ (I27 1 11).toInt ≤ 200; exact k31)⟩, ⟨(by show 0 ≤ (I27 60 9).toInt ∧ (I27 60 9).toInt ≤ 60; exact hI27J.1), (by show 0 ≤ (I27 60 12).toInt ∧ (I27 60 12).toInt ≤ 12; exact hI27J.2)⟩, ⟨(by show 0 ≤ (I27 0 0).toInt ∧ (I27 0 0).toInt ≤ 719; exact k32), (by show 0 ≤ (I27 0 8).toInt ∧ (I27 0 8).toInt ≤ 10; exact k33)⟩, f28, (Or.inl ⟨by omega, by omega, (by show (I27 60 9).toInt = (I 60 9).toInt + 1; omega), ⟨(fun j => by exact h38.1 j), (fun j => by exact h38.2.1 j), (fun j => by exact h38.2.2.1 j), (fun j => by exact h38.2.2.2.1 j), (fun j => by exact h38.2.2.2.2 j)⟩⟩)⟩
              · refine lv_istore (lv' := [(7, .int x34), (0, .ref (ad 0)), (1, .int a1), (2, .int a2), (3, .int a3), (4, .int a4), (5, .int a5), (6, .int a6)]) hx hb dX11_ask_83 hl (by decide) rfl (fun ls hl => ?_)
                refine lv_aload_n hx hb dX11_ask_85 rfl (lv_at hl 1 rfl) ?_
                refine z_get (T := TX11) (N := 13) (ci := 11) (i := 0) (v := .ref (ad 60)) hx hb hts zj_X11_ask_X11 hown hK hW rfl rfl 11 (by decide) (hts (.fieldLink RX11 68 "PetrolBoard" "journeys" "LPetrolBoard$Journeys;") (me_s (me_l (me_l (me_l (me_l (me_l (me_l (me_l (List.mem_of_getElem? (i := 2) rfl)))))))))) (fun _ h => h) rfl dX11_ask_86 ?_
                refine lv_iload hx hb dX11_ask_89 (lv_at hl 0 rfl) ?_
                refine z_ci hW hS hA (va_runV (As := [.int x34]) (rest := []) ⟨hx, hb, hml, hown, hts⟩ (sx_X3_has l G ad c I27 ⟨(by show 0 ≤ (I27 60 9).toInt ∧ (I27 60 9).toInt ≤ 60; exact hI27J.1), (by show 0 ≤ (I27 60 12).toInt ∧ (I27 60 12).toInt ≤ 12; exact hI27J.2)⟩ x34 _) (cwV 1 hts gX11_ask_X3_has rfl rfl rfl (by decide +kernel) ⟨Nat.le_of_ble_eq_true rfl, Nat.le_of_ble_eq_true rfl⟩) (z_preV (i := 60) hK hW rfl rfl) rfl rfl hl.1 rfl (lv_room (Nat.le_of_ble_eq_true rfl)) dX11_ask_91 ⟨Nat.le_of_ble_eq_true rfl, Nat.le_of_ble_eq_true rfl⟩) (fun r u1 H locs hp hW hS => ?_)
                obtain ⟨e9, hp⟩ := hp
                rw [e9] at hW
                rcases hp with ⟨rfl, h57, h58⟩ | rfl
                · refine lv_if_eq (tgt := 158) hx hb dX11_ask_94 (by decide) (fun c59 => absurd c59 (by decide)) (fun c59 => ?_)
                  refine lv_aload_n hx hb dX11_ask_97 rfl (lv_at hl 1 rfl) ?_
                  refine z_get (T := TX11) (N := 13) (ci := 11) (i := 0) (v := .ref (ad 60)) hx hb hts zj_X11_ask_X11 hown hK hW rfl rfl 11 (by decide) (hts (.fieldLink RX11 68 "PetrolBoard" "journeys" "LPetrolBoard$Journeys;") (me_s (me_l (me_l (me_l (me_l (me_l (me_l (me_l (List.mem_of_getElem? (i := 2) rfl)))))))))) (fun _ h => h) rfl dX11_ask_98 ?_
                  refine z_get (T := TX3) (N := 17) (ci := 3) (i := 60) (v := .ref (ad 67)) hx hb hts zj_X11_ask_X3 hown hK hW rfl rfl 6 (by decide) (hts (.fieldLink RX11 329 "PetrolBoard$Journeys" "asked" "[I") (me_s (me_l (me_l (me_l (me_l (me_l (me_l (me_l (List.mem_of_getElem? (i := 3) rfl)))))))))) (fun _ h => h) rfl dX11_ask_101 ?_
                  refine lv_iload hx hb dX11_ask_104 (lv_at hl 0 rfl) ?_
                  refine lv_aload_n hx hb dX11_ask_106 rfl (lv_at hl 1 rfl) ?_
                  have r60 : 0 ≤ (I27 0 0).toInt ∧ (I27 0 0).toInt ≤ 719 := k32
                  refine z_get (T := TX11) (N := 13) (ci := 11) (i := 0) (v := .int (I27 0 0)) hx hb hts zj_X11_ask_X11 hown hK hW rfl rfl 0 (by decide) (hts (.fieldLink RX11 85 "PetrolBoard" "today" "I") (me_s (me_l (me_l (me_l (me_l (me_l (me_l (me_l (List.mem_of_getElem? (i := 1) rfl)))))))))) (fun _ h => h) rfl dX11_ask_107 ?_
                  refine z_iast (i := 67) hx hb hK hW hS rfl (z_ix rfl (by omega) (by omega)) dX11_ask_110 (fun H locs hz1 hW hS => ?_)
                  obtain ⟨I61, eI61⟩ : ∃ K : z_I, K = z_up I27 67 x34.toNatClampNeg (I27 0 0) := ⟨_, rfl⟩
                  rw [← eI61] at hW
                  have f62 := z_fr_a f28 (show z_wa L_X11_ask_j 67 = true by decide) eI61
                  refine lv_aload_n hx hb dX11_ask_111 rfl (lv_at hl 1 rfl) ?_
                  refine z_get (T := TX11) (N := 13) (ci := 11) (i := 0) (v := .ref (ad 60)) hx hb hts zj_X11_ask_X11 hown hK hW rfl rfl 11 (by decide) (hts (.fieldLink RX11 68 "PetrolBoard" "journeys" "LPetrolBoard$Journeys;") (me_s (me_l (me_l (me_l (me_l (me_l (me_l (me_l (List.mem_of_getElem? (i := 2) rfl)))))))))) (fun _ h => h) rfl dX11_ask_112 ?_
                  refine z_get (T := TX3) (N := 17) (ci := 3) (i := 60) (v := .ref (ad 68)) hx hb hts zj_X11_ask_X3 hown hK hW rfl rfl 7 (by decide) (hts (.fieldLink RX11 332 "PetrolBoard$Journeys" "granted" "[I") (me_s (me_l (me_l (me_l (me_l (me_l (me_l (me_l (List.mem_of_getElem? (i := 4) rfl)))))))))) (fun _ h => h) rfl dX11_ask_115 ?_
                  refine lv_iload hx hb dX11_ask_118 (lv_at hl 0 rfl) ?_
                  refine lv_aload_n hx hb dX11_ask_120 rfl (lv_at hl 1 rfl) ?_
                  refine z_get (T := TX11) (N := 13) (ci := 11) (i := 0) (v := .ref (ad 21)) hx hb hts zj_X11_ask_X11 hown hK hW rfl rfl 4 (by decide) (hts (.fieldLink RX11 30 "PetrolBoard" "orderBook" "LPetrolBoard$OrderBook;") (me_s (me_l (me_l (me_l (me_l (me_l (me_l (me_l (List.mem_of_getElem? (i := 5) rfl)))))))))) (fun _ h => h) rfl dX11_ask_121 ?_
                  refine lv_aload_n hx hb dX11_ask_124 rfl (lv_at hl 1 rfl) ?_
                  refine z_get (T := TX11) (N := 13) (ci := 11) (i := 0) (v := .ref (ad 1)) hx hb hts zj_X11_ask_X11 hown hK hW rfl rfl 2 (by decide) (hts (.fieldLink RX11 16 "PetrolBoard" "holders" "LPetrolBoard$Holders;") (me_s (me_l (me_l (me_l (me_l (me_l (me_l (me_l (List.mem_of_getElem? (i := 0) rfl)))))))))) (fun _ h => h) rfl dX11_ask_125 ?_
                  refine lv_aload_n hx hb dX11_ask_128 rfl (lv_at hl 1 rfl) ?_
                  refine z_get (T := TX11) (N := 13) (ci := 11) (i := 0) (v := .ref (ad 60)) hx hb hts zj_X11_ask_X11 hown hK hW rfl rfl 11 (by decide) (hts (.fieldLink RX11 68 "PetrolBoard" "journeys" "LPetrolBoard$Journeys;") (me_s (me_l (me_l (me_l (me_l (me_l (me_l (me_l (List.mem_of_getElem? (i := 2) rfl)))))))))) (fun _ h => h) rfl dX11_ask_129 ?_
                  refine lv_iload hx hb dX11_ask_132 (lv_at hl 0 rfl) ?_
                  refine z_ci hW hS hA (va_runV (As := [.ref (ad 1), .ref (ad 60), .int x34]) (rest := [.int x34, .ref (ad 68)]) ⟨hx, hb, hml, hown, hts⟩ (sx_X6_grant l G ad c I61 (by show 0 ≤ (I61 21 2).toInt ∧ (I61 21 2).toInt ≤ 12; rw [eI61, z_up_n (by decide)]; exact k29) ⟨(by show 0 ≤ (I61 1 5).toInt ∧ (I61 1 5).toInt ≤ 30; rw [eI61, z_up_n (by decide)]; exact k30), (by show 0 ≤ (I61 1 11).toInt ∧ (I61 1 11).toInt ≤ 200; rw [eI61, z_up_n (by decide)]; exact k31)⟩ ⟨(by show 0 ≤ (I61 60 9).toInt ∧ (I61 60 9).toInt ≤ 60; rw [eI61, z_up_n (by decide)]; exact hI27J.1), (by show 0 ≤ (I61 60 12).toInt ∧ (I61 60 12).toInt ≤ 12; rw [eI61, z_up_n (by decide)]; exact hI27J.2)⟩ x34 hc _) (cwV 3 hts gX11_ask_X6_grant rfl rfl rfl (by decide +kernel) ⟨Nat.le_of_ble_eq_true rfl, Nat.le_of_ble_eq_true rfl⟩) (z_preV (i := 21) hK hW rfl rfl) rfl rfl hl.1 rfl (lv_room (Nat.le_of_ble_eq_true rfl)) dX11_ask_134 ⟨Nat.le_of_ble_eq_true rfl, Nat.le_of_ble_eq_true rfl⟩) (fun r u1 H locs hp hW hS => ?_)
                  obtain ⟨I63, e9, hI63O, hI63H, hI63J, fI63⟩ := hp
                  rw [e9] at hW
                  have f64 := z_fr_sub (L := L_X11_ask_j) f62 fI63 (by decide)
                  have k65 : 0 ≤ (I63 0 0).toInt ∧ (I63 0 0).toInt ≤ 719 := by rw [fI63 0 0 (by decide)]; exact (by show 0 ≤ (I61 0 0).toInt ∧ (I61 0 0).toInt ≤ 719; rw [eI61, z_up_n (by decide)]; exact k32)
                  have k66 : 0 ≤ (I63 0 8).toInt ∧ (I63 0 8).toInt ≤ 10 := by rw [fI63 0 8 (by decide)]; exact (by show 0 ≤ (I61 0 8).toInt ∧ (I61 0 8).toInt ≤ 10; rw [eI61, z_up_n (by decide)]; exact k33)
                  have k67 : (I63 60 9).toInt = (I27 60 9).toInt := by rw [fI63 60 9 (by decide), eI61, z_up_n (by decide)]
                  refine lv_topi (fun x68 ex68 => ?_)
                  refine z_iast (i := 68) hx hb hK hW hS rfl (z_ix rfl (by omega) (by omega)) dX11_ask_137 (fun H locs hz1 hW hS => ?_)
                  obtain ⟨I69, eI69⟩ : ∃ K : z_I, K = z_up I63 68 x34.toNatClampNeg x68 := ⟨_, rfl⟩
                  rw [← eI69] at hW
                  have f70 := z_fr_a f64 (show z_wa L_X11_ask_j 68 = true by decide) eI69
                  refine lv_aload_n hx hb dX11_ask_138 rfl (lv_at hl 1 rfl) ?_
                  refine z_get (T := TX11) (N := 13) (ci := 11) (i := 0) (v := .ref (ad 60)) hx hb hts zj_X11_ask_X11 hown hK hW rfl rfl 11 (by decide) (hts (.fieldLink RX11 68 "PetrolBoard" "journeys" "LPetrolBoard$Journeys;") (me_s (me_l (me_l (me_l (me_l (me_l (me_l (me_l (List.mem_of_getElem? (i := 2) rfl)))))))))) (fun _ h => h) rfl dX11_ask_139 ?_
                  refine z_get (T := TX3) (N := 17) (ci := 3) (i := 60) (v := .ref (ad 69)) hx hb hts zj_X11_ask_X3 hown hK hW rfl rfl 8 (by decide) (hts (.fieldLink RX11 339 "PetrolBoard$Journeys" "grantedFirst" "[I") (me_s (me_l (me_l (me_l (me_l (me_l (me_l (me_l (List.mem_of_getElem? (i := 6) rfl)))))))))) (fun _ h => h) rfl dX11_ask_142 ?_
                  refine lv_iload hx hb dX11_ask_145 (lv_at hl 0 rfl) ?_
                  refine lv_aload_n hx hb dX11_ask_147 rfl (lv_at hl 1 rfl) ?_
                  refine z_get (T := TX11) (N := 13) (ci := 11) (i := 0) (v := .ref (ad 60)) hx hb hts zj_X11_ask_X11 hown hK hW rfl rfl 11 (by decide) (hts (.fieldLink RX11 68 "PetrolBoard" "journeys" "LPetrolBoard$Journeys;") (me_s (me_l (me_l (me_l (me_l (me_l (me_l (me_l (List.mem_of_getElem? (i := 2) rfl)))))))))) (fun _ h => h) rfl dX11_ask_148 ?_
                  refine z_get (T := TX3) (N := 17) (ci := 3) (i := 60) (v := .ref (ad 68)) hx hb hts zj_X11_ask_X3 hown hK hW rfl rfl 7 (by decide) (hts (.fieldLink RX11 332 "PetrolBoard$Journeys" "granted" "[I") (me_s (me_l (me_l (me_l (me_l (me_l (me_l (me_l (List.mem_of_getElem? (i := 4) rfl)))))))))) (fun _ h => h) rfl dX11_ask_151 ?_
                  refine lv_iload hx hb dX11_ask_154 (lv_at hl 0 rfl) ?_
                  refine z_iald (i := 68) hx hb hK hW rfl (z_ix rfl (by omega) (by omega)) dX11_ask_156 ?_
                  refine lv_topi (fun x71 ex71 => ?_)
                  refine z_iast (i := 69) hx hb hK hW hS rfl (z_ix rfl (by omega) (by omega)) dX11_ask_157 (fun H locs hz1 hW hS => ?_)
                  obtain ⟨I72, eI72⟩ : ∃ K : z_I, K = z_up I69 69 x34.toNatClampNeg x71 := ⟨_, rfl⟩
                  rw [← eI72] at hW
                  have f73 := z_fr_a f70 (show z_wa L_X11_ask_j 69 = true by decide) eI72
                  refine lv_iload hx hb dX11_ask_158 (lv_at hl 0 rfl) ?_
                  exact z_iret hx hb hr hK hS (Nat.le_of_ble_eq_true rfl) (Nat.le_of_ble_eq_true rfl) hlocks dX11_ask_160 (shC c, ad, I72, JX, PC c ad) hW ⟨I72, rfl, (by show 0 ≤ (I72 21 2).toInt ∧ (I72 21 2).toInt ≤ 12; rw [eI72, z_up_n (by decide), eI69, z_up_n (by decide)]; exact hI63O), ⟨(by show 0 ≤ (I72 1 5).toInt ∧ (I72 1 5).toInt ≤ 30; rw [eI72, z_up_n (by decide), eI69, z_up_n (by decide)]; exact hI63H.1), (by show 0 ≤ (I72 1 11).toInt ∧ (I72 1 11).toInt ≤ 200; rw [eI72, z_up_n (by decide), eI69, z_up_n (by decide)]; exact hI63H.2)⟩, ⟨(by show 0 ≤ (I72 60 9).toInt ∧ (I72 60 9).toInt ≤ 60; rw [eI72, z_up_n (by decide), eI69, z_up_n (by decide)]; exact hI63J.1), (by show 0 ≤ (I72 60 12).toInt ∧ (I72 60 12).toInt ≤ 12; rw [eI72, z_up_n (by decide), eI69, z_up_n (by decide)]; exact hI63J.2)⟩, ⟨(by show 0 ≤ (I72 0 0).toInt ∧ (I72 0 0).toInt ≤ 719; rw [eI72, z_up_n (by decide), eI69, z_up_n (by decide)]; exact k65), (by show 0 ≤ (I72 0 8).toInt ∧ (I72 0 8).toInt ≤ 10; rw [eI72, z_up_n (by decide), eI69, z_up_n (by decide)]; exact k66)⟩, f73, (Or.inr ⟨by omega, by omega, (by have q9 : (I72 60 9) = (I63 60 9) := (by rw [eI72, z_up_n (by decide), eI69, z_up_n (by decide)]); show (I72 60 9).toInt = (I 60 9).toInt; rw [q9]; first | done | omega), (fun j => ⟨by rw [eI72, z_up_n (by decide), eI69, z_up_n (by decide), fI63 61 j (z_wr_c (by decide)), eI61, z_up_n (by decide)]; exact (h38 j).1, by rw [eI72, z_up_n (by decide), eI69, z_up_n (by decide), fI63 62 j (z_wr_c (by decide)), eI61, z_up_n (by decide)]; exact (h38 j).2.1, by rw [eI72, z_up_n (by decide), eI69, z_up_n (by decide), fI63 63 j (z_wr_c (by decide)), eI61, z_up_n (by decide)]; exact (h38 j).2.2.1, by rw [eI72, z_up_n (by decide), eI69, z_up_n (by decide), fI63 65 j (z_wr_c (by decide)), eI61, z_up_n (by decide)]; exact (h38 j).2.2.2.1, by rw [eI72, z_up_n (by decide), eI69, z_up_n (by decide), fI63 66 j (z_wr_c (by decide)), eI61, z_up_n (by decide)]; exact (h38 j).2.2.2.2⟩)⟩)⟩
                · refine lv_if_eq (tgt := 158) hx hb dX11_ask_94 (by decide) (fun c74 => ?_) (fun c74 => absurd (by decide) c74)
                  refine lv_iload hx hb dX11_ask_158 (lv_at hl 0 rfl) ?_
                  exact z_iret hx hb hr hK hS (Nat.le_of_ble_eq_true rfl) (Nat.le_of_ble_eq_true rfl) hlocks dX11_ask_160 (shC c, ad, I27, JX, PC c ad) hW ⟨I27, rfl, (by show 0 ≤ (I27 21 2).toInt ∧ (I27 21 2).toInt ≤ 12; exact k29), ⟨(by show 0 ≤ (I27 1 5).toInt ∧ (I27 1 5).toInt ≤ 30; exact k30), (by show 0 ≤ (I27 1 11).toInt ∧ (I27 1 11).toInt ≤ 200; exact k31)⟩, ⟨(by show 0 ≤ (I27 60 9).toInt ∧ (I27 60 9).toInt ≤ 60; exact hI27J.1), (by show 0 ≤ (I27 60 12).toInt ∧ (I27 60 12).toInt ≤ 12; exact hI27J.2)⟩, ⟨(by show 0 ≤ (I27 0 0).toInt ∧ (I27 0 0).toInt ≤ 719; exact k32), (by show 0 ≤ (I27 0 8).toInt ∧ (I27 0 8).toInt ≤ 10; exact k33)⟩, f28, (Or.inr ⟨by omega, by omega, (by show (I27 60 9).toInt = (I 60 9).toInt; omega), (fun j => ⟨by exact (h38 j).1, by exact (h38 j).2.1, by exact (h38 j).2.2.1, by exact (h38 j).2.2.2.1, by exact (h38 j).2.2.2.2⟩)⟩)⟩
            · have h75 := h24
              refine lv_if_ne (tgt := 67) hx hb dX11_ask_62 (by decide) (fun c76 => absurd (by decide) c76) (fun c76 => ?_)
              refine lv_iconst (v := (-1)) hx hb dX11_ask_65 (by decide) ?_
              exact z_iret hx hb hr hK hS (Nat.le_of_ble_eq_true rfl) (Nat.le_of_ble_eq_true rfl) hlocks dX11_ask_66 (shC c, ad, I, JX, PC c ad) hW ⟨I, rfl, (by show 0 ≤ (I 21 2).toInt ∧ (I 21 2).toInt ≤ 12; exact hO), ⟨(by show 0 ≤ (I 1 5).toInt ∧ (I 1 5).toInt ≤ 30; exact hH.1), (by show 0 ≤ (I 1 11).toInt ∧ (I 1 11).toInt ≤ 200; exact hH.2)⟩, ⟨(by show 0 ≤ (I 60 9).toInt ∧ (I 60 9).toInt ≤ 60; exact hJ.1), (by show 0 ≤ (I 60 12).toInt ∧ (I 60 12).toInt ≤ 12; exact hJ.2)⟩, ⟨(by show 0 ≤ (I 0 0).toInt ∧ (I 0 0).toInt ≤ 719; exact hB.1), (by show 0 ≤ (I 0 8).toInt ∧ (I 0 8).toInt ≤ 10; exact hB.2)⟩, z_fr_0, (Or.inr ⟨by omega, by decide, (by show (I 60 9).toInt = (I 60 9).toInt; omega), (fun j => ⟨rfl, rfl, rfl, rfl, rfl⟩)⟩)⟩
          · have h77 := h20
            have z78 := z_l719
            refine lv_if_eq (tgt := 65) hx hb dX11_ask_54 (by decide) (fun c79 => ?_) (fun c79 => absurd (by decide) c79)
            refine lv_iconst (v := (-1)) hx hb dX11_ask_65 (by decide) ?_
            exact z_iret hx hb hr hK hS (Nat.le_of_ble_eq_true rfl) (Nat.le_of_ble_eq_true rfl) hlocks dX11_ask_66 (shC c, ad, I, JX, PC c ad) hW ⟨I, rfl, (by show 0 ≤ (I 21 2).toInt ∧ (I 21 2).toInt ≤ 12; exact hO), ⟨(by show 0 ≤ (I 1 5).toInt ∧ (I 1 5).toInt ≤ 30; exact hH.1), (by show 0 ≤ (I 1 11).toInt ∧ (I 1 11).toInt ≤ 200; exact hH.2)⟩, ⟨(by show 0 ≤ (I 60 9).toInt ∧ (I 60 9).toInt ≤ 60; exact hJ.1), (by show 0 ≤ (I 60 12).toInt ∧ (I 60 12).toInt ≤ 12; exact hJ.2)⟩, ⟨(by show 0 ≤ (I 0 0).toInt ∧ (I 0 0).toInt ≤ 719; exact hB.1), (by show 0 ≤ (I 0 8).toInt ∧ (I 0 8).toInt ≤ 10; exact hB.2)⟩, z_fr_0, (Or.inr ⟨by omega, by decide, (by show (I 60 9).toInt = (I 60 9).toInt; omega), (fun j => ⟨rfl, rfl, rfl, rfl, rfl⟩)⟩)⟩
        · have h80 := h16
          refine lv_if_eq (tgt := 65) hx hb dX11_ask_39 (by decide) (fun c81 => ?_) (fun c81 => absurd (by decide) c81)
          refine lv_iconst (v := (-1)) hx hb dX11_ask_65 (by decide) ?_
          exact z_iret hx hb hr hK hS (Nat.le_of_ble_eq_true rfl) (Nat.le_of_ble_eq_true rfl) hlocks dX11_ask_66 (shC c, ad, I, JX, PC c ad) hW ⟨I, rfl, (by show 0 ≤ (I 21 2).toInt ∧ (I 21 2).toInt ≤ 12; exact hO), ⟨(by show 0 ≤ (I 1 5).toInt ∧ (I 1 5).toInt ≤ 30; exact hH.1), (by show 0 ≤ (I 1 11).toInt ∧ (I 1 11).toInt ≤ 200; exact hH.2)⟩, ⟨(by show 0 ≤ (I 60 9).toInt ∧ (I 60 9).toInt ≤ 60; exact hJ.1), (by show 0 ≤ (I 60 12).toInt ∧ (I 60 12).toInt ≤ 12; exact hJ.2)⟩, ⟨(by show 0 ≤ (I 0 0).toInt ∧ (I 0 0).toInt ≤ 719; exact hB.1), (by show 0 ≤ (I 0 8).toInt ∧ (I 0 8).toInt ≤ 10; exact hB.2)⟩, z_fr_0, (Or.inr ⟨by omega, by decide, (by show (I 60 9).toInt = (I 60 9).toInt; omega), (fun j => ⟨rfl, rfl, rfl, rfl, rfl⟩)⟩)⟩
      · have h82 := h11
        have z83 := z_l1
        have z84 := z_l8
        refine lv_if_ne (tgt := 34) hx hb dX11_ask_29 (by decide) (fun c85 => absurd (by decide) c85) (fun c85 => ?_)
        refine lv_iconst (v := (-1)) hx hb dX11_ask_32 (by decide) ?_
        exact z_iret hx hb hr hK hS (Nat.le_of_ble_eq_true rfl) (Nat.le_of_ble_eq_true rfl) hlocks dX11_ask_33 (shC c, ad, I, JX, PC c ad) hW ⟨I, rfl, (by show 0 ≤ (I 21 2).toInt ∧ (I 21 2).toInt ≤ 12; exact hO), ⟨(by show 0 ≤ (I 1 5).toInt ∧ (I 1 5).toInt ≤ 30; exact hH.1), (by show 0 ≤ (I 1 11).toInt ∧ (I 1 11).toInt ≤ 200; exact hH.2)⟩, ⟨(by show 0 ≤ (I 60 9).toInt ∧ (I 60 9).toInt ≤ 60; exact hJ.1), (by show 0 ≤ (I 60 12).toInt ∧ (I 60 12).toInt ≤ 12; exact hJ.2)⟩, ⟨(by show 0 ≤ (I 0 0).toInt ∧ (I 0 0).toInt ≤ 719; exact hB.1), (by show 0 ≤ (I 0 8).toInt ∧ (I 0 8).toInt ≤ 10; exact hB.2)⟩, z_fr_0, (Or.inr ⟨by omega, by decide, (by show (I 60 9).toInt = (I 60 9).toInt; omega), (fun j => ⟨rfl, rfl, rfl, rfl, rfl⟩)⟩)⟩
    · have h86 := h5
      have z87 := z_l1
      have z88 := z_l500
      refine lv_if_eq (tgt := 32) hx hb dX11_ask_19 (by decide) (fun c89 => ?_) (fun c89 => absurd (by decide) c89)
      refine lv_iconst (v := (-1)) hx hb dX11_ask_32 (by decide) ?_
      exact z_iret hx hb hr hK hS (Nat.le_of_ble_eq_true rfl) (Nat.le_of_ble_eq_true rfl) hlocks dX11_ask_33 (shC c, ad, I, JX, PC c ad) hW ⟨I, rfl, (by show 0 ≤ (I 21 2).toInt ∧ (I 21 2).toInt ≤ 12; exact hO), ⟨(by show 0 ≤ (I 1 5).toInt ∧ (I 1 5).toInt ≤ 30; exact hH.1), (by show 0 ≤ (I 1 11).toInt ∧ (I 1 11).toInt ≤ 200; exact hH.2)⟩, ⟨(by show 0 ≤ (I 60 9).toInt ∧ (I 60 9).toInt ≤ 60; exact hJ.1), (by show 0 ≤ (I 60 12).toInt ∧ (I 60 12).toInt ≤ 12; exact hJ.2)⟩, ⟨(by show 0 ≤ (I 0 0).toInt ∧ (I 0 0).toInt ≤ 719; exact hB.1), (by show 0 ≤ (I 0 8).toInt ∧ (I 0 8).toInt ≤ 10; exact hB.2)⟩, z_fr_0, (Or.inr ⟨by omega, by decide, (by show (I 60 9).toInt = (I 60 9).toInt; omega), (fun j => ⟨rfl, rfl, rfl, rfl, rfl⟩)⟩)⟩
  · have h90 := h1
    have r91 : 0 ≤ (I 1 5).toInt ∧ (I 1 5).toInt ≤ 30 := hH.1
    refine lv_if_eq (tgt := 32) hx hb dX11_ask_8 (by decide) (fun c92 => ?_) (fun c92 => absurd (by decide) c92)
    refine lv_iconst (v := (-1)) hx hb dX11_ask_32 (by decide) ?_
    exact z_iret hx hb hr hK hS (Nat.le_of_ble_eq_true rfl) (Nat.le_of_ble_eq_true rfl) hlocks dX11_ask_33 (shC c, ad, I, JX, PC c ad) hW ⟨I, rfl, (by show 0 ≤ (I 21 2).toInt ∧ (I 21 2).toInt ≤ 12; exact hO), ⟨(by show 0 ≤ (I 1 5).toInt ∧ (I 1 5).toInt ≤ 30; exact hH.1), (by show 0 ≤ (I 1 11).toInt ∧ (I 1 11).toInt ≤ 200; exact hH.2)⟩, ⟨(by show 0 ≤ (I 60 9).toInt ∧ (I 60 9).toInt ≤ 60; exact hJ.1), (by show 0 ≤ (I 60 12).toInt ∧ (I 60 12).toInt ≤ 12; exact hJ.2)⟩, ⟨(by show 0 ≤ (I 0 0).toInt ∧ (I 0 0).toInt ≤ 719; exact hB.1), (by show 0 ≤ (I 0 8).toInt ∧ (I 0 8).toInt ≤ 10; exact hB.2)⟩, z_fr_0, (Or.inr ⟨by omega, by decide, (by show (I 60 9).toInt = (I 60 9).toInt; omega), (fun j => ⟨rfl, rfl, rfl, rfl, rfl⟩)⟩)⟩
noncomputable def L_X12_ask_j : z_L := [(59, 999), (60, 999), (61, 999), (62, 999), (63, 999), (64, 999), (65, 999), (66, 999), (67, 999), (0, 83), (24, 999), (30, 999)]
set_option maxHeartbeats 8000000 in
set_option maxRecDepth 100000 in
theorem sx_X12_ask_j (l : Launch) (G : z_G) (ad : Nat → Nat) (I : z_I) (J : z_J) (hma : z_ima I) (hmb : z_imb I) (hmj : z_imj I) (hAtf : z_rg 11 0 288 I) (hAtm : z_rg 12 0 24 I) (hAjw : z_rg 59 0 29 I) (hNd : z_Nd I) (hAsf : z_rg 19 0 6200 I) (hAst : z_rg 20 0 6200 I) (hAsc : z_rg 18 (-1) 6199 I) (hEx : z_Ex I) (a1 : Int32) (a2 : Int32) (a3 : Int32) (a4 : Int32) (a5 : Int32) (a6 : Int32) : z_M l yX12_ask wsX12_ask { frames := 6, cells := 0, slots := 0, locals := 130 } [.ref (ad 0), .int a1, .int a2, .int a3, .int a4, .int a5, .int a6] G (shM, ad, I, J, PM ad) (fun r u1 => ∃ (I1 : z_I) (J1 : z_J), u1 = (shM, ad, I1, J1, PM ad) ∧ z_ima I1 ∧ z_imb I1 ∧ z_imj I1 ∧ z_rg 11 0 288 I1 ∧ z_rg 12 0 24 I1 ∧ z_rg 59 0 29 I1 ∧ z_Nd I1 ∧ z_rg 19 0 6200 I1 ∧ z_rg 20 0 6200 I1 ∧ z_rg 18 (-1) 6199 I1 ∧ z_Ex I1 ∧ z_fr L_X12_ask_j I1 I ∧ (((0 ≤ a1.toInt ∧ a1.toInt < (I 0 1).toInt ∧ 1 ≤ a2.toInt ∧ a2.toInt ≤ 500 ∧ 1 ≤ a3.toInt ∧ a3.toInt ≤ 8 ∧ 0 ≤ a4.toInt ∧ a4.toInt ≤ 4 ∧ (I 0 0).toInt ≤ a5.toInt ∧ a5.toInt ≤ 719 ∧ 0 ≤ a6.toInt ∧ a6.toInt ≤ 99 ∧ a6.toInt / 10 ≠ a6.toInt % 10 ∧ (I 0 83).toInt < 60) ∧ r.toInt = (I 0 83).toInt ∧ (I1 0 83).toInt = (I 0 83).toInt + 1 ∧ z_jrM I1 I (I 0 83).toNatClampNeg a1 a2 a3 a5 a6) ∨ (¬ (0 ≤ a1.toInt ∧ a1.toInt < (I 0 1).toInt ∧ 1 ≤ a2.toInt ∧ a2.toInt ≤ 500 ∧ 1 ≤ a3.toInt ∧ a3.toInt ≤ 8 ∧ 0 ≤ a4.toInt ∧ a4.toInt ≤ 4 ∧ (I 0 0).toInt ≤ a5.toInt ∧ a5.toInt ≤ 719 ∧ 0 ≤ a6.toInt ∧ a6.toInt ≤ 99 ∧ a6.toInt / 10 ≠ a6.toInt % 10 ∧ (I 0 83).toInt < 60) ∧ r.toInt = -1 ∧ (I1 0 83).toInt = (I 0 83).toInt ∧ z_jsM I1 I))) 0 0 := by
  intro sz
  refine z_headQ (cc := cX12_ask) (maxL := 8) (ret := (some .int)) (by decide) rfl (Nat.le_of_ble_eq_true rfl) ?_
  intro p e s m below meth c0 ls hIn hK hsz hW hl
  obtain ⟨hx, hb, hr, hml, hown, hts, hlocks, hname⟩ := hIn
  subst hsz
  have hown : s.vm.findClass RX12 = some m.cls := hown
  have hA : ∀ q : Nat, s.heap.size ≤ q → z_A (shM, ad, I, J, PM ad) s.heap.size q := fun q h => Or.inr h
  generalize hAe : z_A (shM, ad, I, J, PM ad) s.heap.size = A at *
  have hS : va_S A s.heap s.heap [] := va_S.rf
  have hl : lv_has ls 8 [(0, .ref (ad 0)), (1, .int a1), (2, .int a2), (3, .int a3), (4, .int a4), (5, .int a5), (6, .int a6)] := hl
  refine lv_aload_n hx hb dX12_ask_0 rfl (lv_at hl 0 rfl) ?_
  refine lv_iload_n hx hb dX12_ask_1 rfl (lv_at hl 1 rfl) ?_
  refine z_ci hW hS hA (va_runV (As := [.int a1]) (rest := []) ⟨hx, hb, hml, hown, hts⟩ (sx_X12_isHolder_e l G ad I J ⟨(by show 0 ≤ (I 0 0).toInt ∧ (I 0 0).toInt ≤ 719; exact hma.1), (by show 0 ≤ (I 0 1).toInt ∧ (I 0 1).toInt ≤ 30; exact hma.2.1), (by show 0 ≤ (I 0 2).toInt ∧ (I 0 2).toInt ≤ 200; exact hma.2.2)⟩ a1 _) (cwV 1 hts gX12_ask_X12_isHolder rfl rfl rfl (by decide +kernel) ⟨Nat.le_of_ble_eq_true rfl, Nat.le_of_ble_eq_true rfl⟩) (z_preV (i := 0) hK hW rfl rfl) rfl rfl hl.1 rfl (lv_room (Nat.le_of_ble_eq_true rfl)) dX12_ask_2 ⟨Nat.le_of_ble_eq_true rfl, Nat.le_of_ble_eq_true rfl⟩) (fun r u1 H locs hp hW hS => ?_)
  obtain ⟨e9, hp⟩ := hp
  rw [e9] at hW
  rcases hp with ⟨rfl, h1⟩ | ⟨rfl, h1⟩
  · have h2 := h1
    have r3 : 0 ≤ (I 0 1).toInt ∧ (I 0 1).toInt ≤ 30 := hma.2.1
    refine lv_if_eq (tgt := 87) hx hb dX12_ask_5 (by decide) (fun c4 => absurd c4 (by decide)) (fun c4 => ?_)
    refine lv_iload_n hx hb dX12_ask_8 rfl (lv_at hl 2 rfl) ?_
    refine lv_iconst (v := 1) hx hb dX12_ask_9 (by decide) ?_
    refine lv_sipush (v := 500) hx hb dX12_ask_10 (by decide) ?_
    refine z_ci hW hS hA (va_runS (As := [.int a2, .int 1, .int 500]) (rest := []) ⟨hx, hb, hml, hown, hts⟩ (sx_X12_within_e l G ad I J  a2 1 500 _) (va_cwS 3 hts gX12_ask_X12_within rfl rfl rfl (by decide +kernel) ⟨Nat.le_of_ble_eq_true rfl, Nat.le_of_ble_eq_true rfl⟩) (z_preS hK hW) rfl rfl hl.1 rfl (lv_room (Nat.le_of_ble_eq_true rfl)) dX12_ask_13 ⟨Nat.le_of_ble_eq_true rfl, Nat.le_of_ble_eq_true rfl⟩) (fun r u1 H locs hp hW hS => ?_)
    obtain ⟨e9, hp⟩ := hp
    rw [e9] at hW
    rcases hp with ⟨rfl, h5⟩ | ⟨rfl, h5⟩
    · have h6 := h5
      have z7 := z_l1
      have z8 := z_l500
      refine lv_if_eq (tgt := 87) hx hb dX12_ask_16 (by decide) (fun c9 => absurd c9 (by decide)) (fun c9 => ?_)
      refine lv_iload_n hx hb dX12_ask_19 rfl (lv_at hl 3 rfl) ?_
      refine lv_iconst (v := 1) hx hb dX12_ask_20 (by decide) ?_
      refine lv_bipush (v := 8) hx hb dX12_ask_21 (by decide) ?_
      refine z_ci hW hS hA (va_runS (As := [.int a3, .int 1, .int 8]) (rest := []) ⟨hx, hb, hml, hown, hts⟩ (sx_X12_within_e l G ad I J  a3 1 8 _) (va_cwS 3 hts gX12_ask_X12_within rfl rfl rfl (by decide +kernel) ⟨Nat.le_of_ble_eq_true rfl, Nat.le_of_ble_eq_true rfl⟩) (z_preS hK hW) rfl rfl hl.1 rfl (lv_room (Nat.le_of_ble_eq_true rfl)) dX12_ask_23 ⟨Nat.le_of_ble_eq_true rfl, Nat.le_of_ble_eq_true rfl⟩) (fun r u1 H locs hp hW hS => ?_)
      obtain ⟨e9, hp⟩ := hp
      rw [e9] at hW
      rcases hp with ⟨rfl, h11⟩ | ⟨rfl, h11⟩
      · have h12 := h11
        have z13 := z_l1
        have z14 := z_l8
        refine lv_if_eq (tgt := 87) hx hb dX12_ask_26 (by decide) (fun c15 => absurd c15 (by decide)) (fun c15 => ?_)
        refine lv_iload hx hb dX12_ask_29 (lv_at hl 4 rfl) ?_
        refine lv_iconst (v := 0) hx hb dX12_ask_31 (by decide) ?_
        refine lv_iconst (v := 4) hx hb dX12_ask_32 (by decide) ?_
        refine z_ci hW hS hA (va_runS (As := [.int a4, .int 0, .int 4]) (rest := []) ⟨hx, hb, hml, hown, hts⟩ (sx_X12_within_e l G ad I J  a4 0 4 _) (va_cwS 3 hts gX12_ask_X12_within rfl rfl rfl (by decide +kernel) ⟨Nat.le_of_ble_eq_true rfl, Nat.le_of_ble_eq_true rfl⟩) (z_preS hK hW) rfl rfl hl.1 rfl (lv_room (Nat.le_of_ble_eq_true rfl)) dX12_ask_33 ⟨Nat.le_of_ble_eq_true rfl, Nat.le_of_ble_eq_true rfl⟩) (fun r u1 H locs hp hW hS => ?_)
        obtain ⟨e9, hp⟩ := hp
        rw [e9] at hW
        rcases hp with ⟨rfl, h16⟩ | ⟨rfl, h16⟩
        · have h17 := h16
          have z18 := z_l0
          have z19 := z_l4
          refine lv_if_eq (tgt := 87) hx hb dX12_ask_36 (by decide) (fun c20 => absurd c20 (by decide)) (fun c20 => ?_)
          refine lv_iload hx hb dX12_ask_39 (lv_at hl 5 rfl) ?_
          refine lv_aload_n hx hb dX12_ask_41 rfl (lv_at hl 0 rfl) ?_
          have r21 : 0 ≤ (I 0 0).toInt ∧ (I 0 0).toInt ≤ 719 := hma.1
          refine z_get (T := TX12) (N := 96) (ci := 12) (i := 0) (v := .int (I 0 0)) hx hb hts zj_X12_ask_X12 hown hK hW rfl rfl 0 (by decide) (hts (.fieldLink RX12 232 "PetrolBoardModel" "today" "I") (me_s (me_l (me_l (List.mem_of_getElem? (i := 0) rfl))))) (fun _ h => h) rfl dX12_ask_42 ?_
          refine lv_sipush (v := 719) hx hb dX12_ask_45 (by decide) ?_
          refine z_ci hW hS hA (va_runS (As := [.int a5, .int (I 0 0), .int 719]) (rest := []) ⟨hx, hb, hml, hown, hts⟩ (sx_X12_within_e l G ad I J  a5 (I 0 0) 719 _) (va_cwS 3 hts gX12_ask_X12_within rfl rfl rfl (by decide +kernel) ⟨Nat.le_of_ble_eq_true rfl, Nat.le_of_ble_eq_true rfl⟩) (z_preS hK hW) rfl rfl hl.1 rfl (lv_room (Nat.le_of_ble_eq_true rfl)) dX12_ask_48 ⟨Nat.le_of_ble_eq_true rfl, Nat.le_of_ble_eq_true rfl⟩) (fun r u1 H locs hp hW hS => ?_)
          obtain ⟨e9, hp⟩ := hp
          rw [e9] at hW
          rcases hp with ⟨rfl, h22⟩ | ⟨rfl, h22⟩
          · have h23 := h22
            have z24 := z_l719
            refine lv_if_eq (tgt := 87) hx hb dX12_ask_51 (by decide) (fun c25 => absurd c25 (by decide)) (fun c25 => ?_)
            refine lv_iload hx hb dX12_ask_54 (lv_at hl 6 rfl) ?_
            refine lv_iconst (v := 0) hx hb dX12_ask_56 (by decide) ?_
            refine lv_bipush (v := 99) hx hb dX12_ask_57 (by decide) ?_
            refine z_ci hW hS hA (va_runS (As := [.int a6, .int 0, .int 99]) (rest := []) ⟨hx, hb, hml, hown, hts⟩ (sx_X12_within_e l G ad I J  a6 0 99 _) (va_cwS 3 hts gX12_ask_X12_within rfl rfl rfl (by decide +kernel) ⟨Nat.le_of_ble_eq_true rfl, Nat.le_of_ble_eq_true rfl⟩) (z_preS hK hW) rfl rfl hl.1 rfl (lv_room (Nat.le_of_ble_eq_true rfl)) dX12_ask_59 ⟨Nat.le_of_ble_eq_true rfl, Nat.le_of_ble_eq_true rfl⟩) (fun r u1 H locs hp hW hS => ?_)
            obtain ⟨e9, hp⟩ := hp
            rw [e9] at hW
            rcases hp with ⟨rfl, h26⟩ | ⟨rfl, h26⟩
            · have h27 := h26
              have z28 := z_l0
              have z29 := z_l99
              refine lv_if_eq (tgt := 87) hx hb dX12_ask_62 (by decide) (fun c30 => absurd c30 (by decide)) (fun c30 => ?_)
              refine lv_iload hx hb dX12_ask_65 (lv_at hl 6 rfl) ?_
              refine lv_bipush (v := 10) hx hb dX12_ask_67 (by decide) ?_
              refine lv_idiv hx hb dX12_ask_69 (by decide) ?_
              refine lv_topi (fun x31 ex31 => ?_)
              have tx31 := z_tdiv ex31 rfl z_l10 (by decide)
              refine lv_iload hx hb dX12_ask_70 (lv_at hl 6 rfl) ?_
              refine lv_bipush (v := 10) hx hb dX12_ask_72 (by decide) ?_
              refine lv_irem hx hb dX12_ask_74 (by decide) ?_
              refine lv_topi (fun x32 ex32 => ?_)
              have tx32 := z_trem ex32 rfl z_l10 (by decide)
              refine lv_icmp_eq (tgt := 87) hx hb dX12_ask_75 (by decide) (fun c33 => ?_) (fun c33 => ?_)
              · have g34 := z_f_eq rfl rfl c33
                refine lv_iconst (v := (-1)) hx hb dX12_ask_87 (by decide) ?_
                exact z_iret hx hb hr hK hS (Nat.le_of_ble_eq_true rfl) (Nat.le_of_ble_eq_true rfl) hlocks dX12_ask_88 (shM, ad, I, J, PM ad) hW ⟨I, J, rfl, ⟨(by show 0 ≤ (I 0 0).toInt ∧ (I 0 0).toInt ≤ 719; exact hma.1), (by show 0 ≤ (I 0 1).toInt ∧ (I 0 1).toInt ≤ 30; exact hma.2.1), (by show 0 ≤ (I 0 2).toInt ∧ (I 0 2).toInt ≤ 200; exact hma.2.2)⟩, ⟨(by show 0 ≤ (I 0 13).toInt ∧ (I 0 13).toInt ≤ 12; exact hmb.1), (by show 0 ≤ (I 0 14).toInt ∧ (I 0 14).toInt ≤ 288; exact hmb.2)⟩, (by show 0 ≤ (I 0 83).toInt ∧ (I 0 83).toInt ≤ 60; exact hmj), hAtf, hAtm, hAjw, hNd, hAsf, hAst, hAsc, hEx, z_fr_0, (Or.inr ⟨by omega, by decide, (by show (I 0 83).toInt = (I 0 83).toInt; omega), (fun j => ⟨rfl, rfl, rfl, rfl, rfl⟩)⟩)⟩
              · have g35 := z_f_ne rfl rfl c33
                refine lv_aload_n hx hb dX12_ask_78 rfl (lv_at hl 0 rfl) ?_
                have r36 : 0 ≤ (I 0 83).toInt ∧ (I 0 83).toInt ≤ 60 := hmj
                refine z_get (T := TX12) (N := 96) (ci := 12) (i := 0) (v := .int (I 0 83)) hx hb hts zj_X12_ask_X12 hown hK hW rfl rfl 83 (by decide) (hts (.fieldLink RX12 505 "PetrolBoardModel" "journeys" "I") (me_s (me_l (me_l (List.mem_of_getElem? (i := 1) rfl))))) (fun _ h => h) rfl dX12_ask_79 ?_
                refine lv_bipush (v := 60) hx hb dX12_ask_82 (by decide) ?_
                refine lv_icmp_ne (tgt := 89) hx hb dX12_ask_84 (by decide) (fun c37 => ?_) (fun c37 => ?_)
                · have g38 := z_f_ne rfl z_l60 c37
                  refine lv_aload_n hx hb dX12_ask_89 rfl (lv_at hl 0 rfl) ?_
                  refine z_get (T := TX12) (N := 96) (ci := 12) (i := 0) (v := .int (I 0 83)) hx hb hts zj_X12_ask_X12 hown hK hW rfl rfl 83 (by decide) (hts (.fieldLink RX12 505 "PetrolBoardModel" "journeys" "I") (me_s (me_l (me_l (List.mem_of_getElem? (i := 1) rfl))))) (fun _ h => h) rfl dX12_ask_90 ?_
                  refine lv_istore (lv' := [(7, .int (I 0 83)), (0, .ref (ad 0)), (1, .int a1), (2, .int a2), (3, .int a3), (4, .int a4), (5, .int a5), (6, .int a6)]) hx hb dX12_ask_93 hl (by decide) rfl (fun ls hl => ?_)
                  refine lv_aload_n hx hb dX12_ask_95 rfl (lv_at hl 1 rfl) ?_
                  refine z_get (T := TX12) (N := 96) (ci := 12) (i := 0) (v := .ref (ad 59)) hx hb hts zj_X12_ask_X12 hown hK hW rfl rfl 84 (by decide) (hts (.fieldLink RX12 193 "PetrolBoardModel" "jWho" "[I") (me_s (me_l (me_l (List.mem_of_getElem? (i := 2) rfl))))) (fun _ h => h) rfl dX12_ask_96 ?_
                  refine lv_iload hx hb dX12_ask_99 (lv_at hl 0 rfl) ?_
                  refine lv_iload_n hx hb dX12_ask_101 rfl (lv_at hl 2 rfl) ?_
                  refine z_iast (i := 59) hx hb hK hW hS rfl (z_ix rfl (by omega) (by omega)) dX12_ask_102 (fun H locs hz1 hW hS => ?_)
                  obtain ⟨I39, eI39⟩ : ∃ K : z_I, K = z_up I 59 (I 0 83).toNatClampNeg a1 := ⟨_, rfl⟩
                  rw [← eI39] at hW
                  have f40 := z_fr_a z_fr_0 (show z_wa L_X12_ask_j 59 = true by decide) eI39
                  have a41 := z_rg_n hAtf (by decide) eI39
                  have a42 := z_rg_n hAtm (by decide) eI39
                  have a43 := z_rg_a hAjw (by omega) eI39
                  have a44 := z_Nd_n hNd (by decide) eI39
                  have a45 := z_rg_n hAsf (by decide) eI39
                  have a46 := z_rg_n hAst (by decide) eI39
                  have a47 := z_rg_n hAsc (by decide) eI39
                  have a48 := z_Ex_n hEx (by decide) eI39
                  refine lv_aload_n hx hb dX12_ask_103 rfl (lv_at hl 1 rfl) ?_
                  refine z_get (T := TX12) (N := 96) (ci := 12) (i := 0) (v := .ref (ad 60)) hx hb hts zj_X12_ask_X12 hown hK hW rfl rfl 85 (by decide) (hts (.fieldLink RX12 196 "PetrolBoardModel" "jMiles" "[I") (me_s (me_l (me_l (List.mem_of_getElem? (i := 3) rfl))))) (fun _ h => h) rfl dX12_ask_104 ?_
                  refine lv_iload hx hb dX12_ask_107 (lv_at hl 0 rfl) ?_
                  refine lv_iload_n hx hb dX12_ask_109 rfl (lv_at hl 3 rfl) ?_
                  refine z_iast (i := 60) hx hb hK hW hS rfl (z_ix rfl (by omega) (by omega)) dX12_ask_110 (fun H locs hz1 hW hS => ?_)
                  obtain ⟨I49, eI49⟩ : ∃ K : z_I, K = z_up I39 60 (I 0 83).toNatClampNeg a2 := ⟨_, rfl⟩
                  rw [← eI49] at hW
                  have f50 := z_fr_a f40 (show z_wa L_X12_ask_j 60 = true by decide) eI49
                  have a51 := z_rg_n a41 (by decide) eI49
                  have a52 := z_rg_n a42 (by decide) eI49
                  have a53 := z_rg_n a43 (by decide) eI49
                  have a54 := z_Nd_n a44 (by decide) eI49
                  have a55 := z_rg_n a45 (by decide) eI49
                  have a56 := z_rg_n a46 (by decide) eI49
                  have a57 := z_rg_n a47 (by decide) eI49
                  have a58 := z_Ex_n a48 (by decide) eI49
                  refine lv_aload_n hx hb dX12_ask_111 rfl (lv_at hl 1 rfl) ?_
                  refine z_get (T := TX12) (N := 96) (ci := 12) (i := 0) (v := .ref (ad 61)) hx hb hts zj_X12_ask_X12 hown hK hW rfl rfl 86 (by decide) (hts (.fieldLink RX12 199 "PetrolBoardModel" "jPeople" "[I") (me_s (me_l (me_l (List.mem_of_getElem? (i := 4) rfl))))) (fun _ h => h) rfl dX12_ask_112 ?_
                  refine lv_iload hx hb dX12_ask_115 (lv_at hl 0 rfl) ?_
                  refine lv_iload_n hx hb dX12_ask_117 rfl (lv_at hl 4 rfl) ?_
                  refine z_iast (i := 61) hx hb hK hW hS rfl (z_ix rfl (by omega) (by omega)) dX12_ask_118 (fun H locs hz1 hW hS => ?_)
                  obtain ⟨I59, eI59⟩ : ∃ K : z_I, K = z_up I49 61 (I 0 83).toNatClampNeg a3 := ⟨_, rfl⟩
                  rw [← eI59] at hW
                  have f60 := z_fr_a f50 (show z_wa L_X12_ask_j 61 = true by decide) eI59
                  have a61 := z_rg_n a51 (by decide) eI59
                  have a62 := z_rg_n a52 (by decide) eI59
                  have a63 := z_rg_n a53 (by decide) eI59
                  have a64 := z_Nd_n a54 (by decide) eI59
                  have a65 := z_rg_n a55 (by decide) eI59
                  have a66 := z_rg_n a56 (by decide) eI59
                  have a67 := z_rg_n a57 (by decide) eI59
                  have a68 := z_Ex_n a58 (by decide) eI59
                  refine lv_aload_n hx hb dX12_ask_119 rfl (lv_at hl 1 rfl) ?_
                  refine z_get (T := TX12) (N := 96) (ci := 12) (i := 0) (v := .ref (ad 62)) hx hb hts zj_X12_ask_X12 hown hK hW rfl rfl 87 (by decide) (hts (.fieldLink RX12 202 "PetrolBoardModel" "jReason" "[I") (me_s (me_l (me_l (List.mem_of_getElem? (i := 5) rfl))))) (fun _ h => h) rfl dX12_ask_120 ?_
                  refine lv_iload hx hb dX12_ask_123 (lv_at hl 0 rfl) ?_
                  refine lv_iload hx hb dX12_ask_125 (lv_at hl 5 rfl) ?_
                  refine z_iast (i := 62) hx hb hK hW hS rfl (z_ix rfl (by omega) (by omega)) dX12_ask_127 (fun H locs hz1 hW hS => ?_)
                  obtain ⟨I69, eI69⟩ : ∃ K : z_I, K = z_up I59 62 (I 0 83).toNatClampNeg a4 := ⟨_, rfl⟩
                  rw [← eI69] at hW
                  have f70 := z_fr_a f60 (show z_wa L_X12_ask_j 62 = true by decide) eI69
                  have a71 := z_rg_n a61 (by decide) eI69
                  have a72 := z_rg_n a62 (by decide) eI69
                  have a73 := z_rg_n a63 (by decide) eI69
                  have a74 := z_Nd_n a64 (by decide) eI69
                  have a75 := z_rg_n a65 (by decide) eI69
                  have a76 := z_rg_n a66 (by decide) eI69
                  have a77 := z_rg_n a67 (by decide) eI69
                  have a78 := z_Ex_n a68 (by decide) eI69
                  refine lv_aload_n hx hb dX12_ask_128 rfl (lv_at hl 1 rfl) ?_
                  refine z_get (T := TX12) (N := 96) (ci := 12) (i := 0) (v := .ref (ad 63)) hx hb hts zj_X12_ask_X12 hown hK hW rfl rfl 88 (by decide) (hts (.fieldLink RX12 205 "PetrolBoardModel" "jDay" "[I") (me_s (me_l (me_l (List.mem_of_getElem? (i := 6) rfl))))) (fun _ h => h) rfl dX12_ask_129 ?_
                  refine lv_iload hx hb dX12_ask_132 (lv_at hl 0 rfl) ?_
                  refine lv_iload hx hb dX12_ask_134 (lv_at hl 6 rfl) ?_
                  refine z_iast (i := 63) hx hb hK hW hS rfl (z_ix rfl (by omega) (by omega)) dX12_ask_136 (fun H locs hz1 hW hS => ?_)
                  obtain ⟨I79, eI79⟩ : ∃ K : z_I, K = z_up I69 63 (I 0 83).toNatClampNeg a5 := ⟨_, rfl⟩
                  rw [← eI79] at hW
                  have f80 := z_fr_a f70 (show z_wa L_X12_ask_j 63 = true by decide) eI79
                  have a81 := z_rg_n a71 (by decide) eI79
                  have a82 := z_rg_n a72 (by decide) eI79
                  have a83 := z_rg_n a73 (by decide) eI79
                  have a84 := z_Nd_n a74 (by decide) eI79
                  have a85 := z_rg_n a75 (by decide) eI79
                  have a86 := z_rg_n a76 (by decide) eI79
                  have a87 := z_rg_n a77 (by decide) eI79
                  have a88 := z_Ex_n a78 (by decide) eI79
                  refine lv_aload_n hx hb dX12_ask_137 rfl (lv_at hl 1 rfl) ?_
                  refine z_get (T := TX12) (N := 96) (ci := 12) (i := 0) (v := .ref (ad 64)) hx hb hts zj_X12_ask_X12 hown hK hW rfl rfl 89 (by decide) (hts (.fieldLink RX12 208 "PetrolBoardModel" "jWay" "[I") (me_s (me_l (me_l (List.mem_of_getElem? (i := 7) rfl))))) (fun _ h => h) rfl dX12_ask_138 ?_
                  refine lv_iload hx hb dX12_ask_141 (lv_at hl 0 rfl) ?_
                  refine lv_iload hx hb dX12_ask_143 (lv_at hl 7 rfl) ?_
                  refine z_iast (i := 64) hx hb hK hW hS rfl (z_ix rfl (by omega) (by omega)) dX12_ask_145 (fun H locs hz1 hW hS => ?_)
                  obtain ⟨I89, eI89⟩ : ∃ K : z_I, K = z_up I79 64 (I 0 83).toNatClampNeg a6 := ⟨_, rfl⟩
                  rw [← eI89] at hW
                  have f90 := z_fr_a f80 (show z_wa L_X12_ask_j 64 = true by decide) eI89
                  have a91 := z_rg_n a81 (by decide) eI89
                  have a92 := z_rg_n a82 (by decide) eI89
                  have a93 := z_rg_n a83 (by decide) eI89
                  have a94 := z_Nd_n a84 (by decide) eI89
                  have a95 := z_rg_n a85 (by decide) eI89
                  have a96 := z_rg_n a86 (by decide) eI89
                  have a97 := z_rg_n a87 (by decide) eI89
                  have a98 := z_Ex_n a88 (by decide) eI89
                  refine lv_aload_n hx hb dX12_ask_146 rfl (lv_at hl 1 rfl) ?_
                  refine z_get (T := TX12) (N := 96) (ci := 12) (i := 0) (v := .ref (ad 65)) hx hb hts zj_X12_ask_X12 hown hK hW rfl rfl 90 (by decide) (hts (.fieldLink RX12 211 "PetrolBoardModel" "jAsked" "[I") (me_s (me_l (me_l (List.mem_of_getElem? (i := 8) rfl))))) (fun _ h => h) rfl dX12_ask_147 ?_
                  refine lv_iload hx hb dX12_ask_150 (lv_at hl 0 rfl) ?_
                  refine lv_aload_n hx hb dX12_ask_152 rfl (lv_at hl 1 rfl) ?_
                  refine z_get (T := TX12) (N := 96) (ci := 12) (i := 0) (v := .int (I 0 0)) hx hb hts zj_X12_ask_X12 hown hK hW rfl rfl 0 (by decide) (hts (.fieldLink RX12 232 "PetrolBoardModel" "today" "I") (me_s (me_l (me_l (List.mem_of_getElem? (i := 0) rfl))))) (fun _ h => h) (congrArg Value.int (by rw [eI89, z_up_n (by decide), eI79, z_up_n (by decide), eI69, z_up_n (by decide), eI59, z_up_n (by decide), eI49, z_up_n (by decide), eI39, z_up_n (by decide)])) dX12_ask_153 ?_
                  refine z_iast (i := 65) hx hb hK hW hS rfl (z_ix rfl (by omega) (by omega)) dX12_ask_156 (fun H locs hz1 hW hS => ?_)
                  obtain ⟨I99, eI99⟩ : ∃ K : z_I, K = z_up I89 65 (I 0 83).toNatClampNeg (I 0 0) := ⟨_, rfl⟩
                  rw [← eI99] at hW
                  have f100 := z_fr_a f90 (show z_wa L_X12_ask_j 65 = true by decide) eI99
                  have a101 := z_rg_n a91 (by decide) eI99
                  have a102 := z_rg_n a92 (by decide) eI99
                  have a103 := z_rg_n a93 (by decide) eI99
                  have a104 := z_Nd_n a94 (by decide) eI99
                  have a105 := z_rg_n a95 (by decide) eI99
                  have a106 := z_rg_n a96 (by decide) eI99
                  have a107 := z_rg_n a97 (by decide) eI99
                  have a108 := z_Ex_n a98 (by decide) eI99
                  refine lv_aload_n hx hb dX12_ask_157 rfl (lv_at hl 1 rfl) ?_
                  refine z_get (T := TX12) (N := 96) (ci := 12) (i := 0) (v := .ref (ad 66)) hx hb hts zj_X12_ask_X12 hown hK hW rfl rfl 91 (by decide) (hts (.fieldLink RX12 214 "PetrolBoardModel" "jGranted" "[I") (me_s (me_l (me_l (List.mem_of_getElem? (i := 9) rfl))))) (fun _ h => h) rfl dX12_ask_158 ?_
                  refine lv_iload hx hb dX12_ask_161 (lv_at hl 0 rfl) ?_
                  refine lv_aload_n hx hb dX12_ask_163 rfl (lv_at hl 1 rfl) ?_
                  refine lv_iload hx hb dX12_ask_164 (lv_at hl 0 rfl) ?_
                  refine z_ci hW hS hA (va_runV (As := [.int (I 0 83)]) (rest := [.int (I 0 83), .ref (ad 66)]) ⟨hx, hb, hml, hown, hts⟩ (sx_X12_granted l G ad I99 J ⟨(by show 0 ≤ (I99 0 0).toInt ∧ (I99 0 0).toInt ≤ 719; rw [eI99, z_up_n (by decide), eI89, z_up_n (by decide), eI79, z_up_n (by decide), eI69, z_up_n (by decide), eI59, z_up_n (by decide), eI49, z_up_n (by decide), eI39, z_up_n (by decide)]; exact hma.1), (by show 0 ≤ (I99 0 1).toInt ∧ (I99 0 1).toInt ≤ 30; rw [eI99, z_up_n (by decide), eI89, z_up_n (by decide), eI79, z_up_n (by decide), eI69, z_up_n (by decide), eI59, z_up_n (by decide), eI49, z_up_n (by decide), eI39, z_up_n (by decide)]; exact hma.2.1), (by show 0 ≤ (I99 0 2).toInt ∧ (I99 0 2).toInt ≤ 200; rw [eI99, z_up_n (by decide), eI89, z_up_n (by decide), eI79, z_up_n (by decide), eI69, z_up_n (by decide), eI59, z_up_n (by decide), eI49, z_up_n (by decide), eI39, z_up_n (by decide)]; exact hma.2.2)⟩ ⟨(by show 0 ≤ (I99 0 13).toInt ∧ (I99 0 13).toInt ≤ 12; rw [eI99, z_up_n (by decide), eI89, z_up_n (by decide), eI79, z_up_n (by decide), eI69, z_up_n (by decide), eI59, z_up_n (by decide), eI49, z_up_n (by decide), eI39, z_up_n (by decide)]; exact hmb.1), (by show 0 ≤ (I99 0 14).toInt ∧ (I99 0 14).toInt ≤ 288; rw [eI99, z_up_n (by decide), eI89, z_up_n (by decide), eI79, z_up_n (by decide), eI69, z_up_n (by decide), eI59, z_up_n (by decide), eI49, z_up_n (by decide), eI39, z_up_n (by decide)]; exact hmb.2)⟩ (by show 0 ≤ (I99 0 83).toInt ∧ (I99 0 83).toInt ≤ 60; rw [eI99, z_up_n (by decide), eI89, z_up_n (by decide), eI79, z_up_n (by decide), eI69, z_up_n (by decide), eI59, z_up_n (by decide), eI49, z_up_n (by decide), eI39, z_up_n (by decide)]; exact hmj) a101 a102 a103 a104 a105 a106 a107 a108 (I 0 83) (by first | omega | decide) _) (cwV 1 hts gX12_ask_X12_granted rfl rfl rfl (by decide +kernel) ⟨Nat.le_of_ble_eq_true rfl, Nat.le_of_ble_eq_true rfl⟩) (z_preV (i := 0) hK hW rfl rfl) rfl rfl hl.1 rfl (lv_room (Nat.le_of_ble_eq_true rfl)) dX12_ask_166 ⟨Nat.le_of_ble_eq_true rfl, Nat.le_of_ble_eq_true rfl⟩) (fun r u1 H locs hp hW hS => ?_)
                  obtain ⟨I109, J111, e9, hI109ma, hI109mb, hI109mj, hI109Atf, hI109Atm, hI109Ajw, hI109Nd, hI109Asf, hI109Ast, hI109Asc, hI109Ex, fI109⟩ := hp
                  rw [e9] at hW
                  have f110 := z_fr_sub (L := L_X12_ask_j) f100 fI109 (by decide)
                  have k112 : (I109 0 0).toInt = (I 0 0).toInt := by rw [fI109 0 0 (by decide), eI99, z_up_n (by decide), eI89, z_up_n (by decide), eI79, z_up_n (by decide), eI69, z_up_n (by decide), eI59, z_up_n (by decide), eI49, z_up_n (by decide), eI39, z_up_n (by decide)]
                  have k113 : (I109 0 83).toInt = (I 0 83).toInt := by rw [fI109 0 83 (by decide), eI99, z_up_n (by decide), eI89, z_up_n (by decide), eI79, z_up_n (by decide), eI69, z_up_n (by decide), eI59, z_up_n (by decide), eI49, z_up_n (by decide), eI39, z_up_n (by decide)]
                  have k114 : (I109 0 83).toInt = (I 0 83).toInt := by rw [fI109 0 83 (by decide), eI99, z_up_n (by decide), eI89, z_up_n (by decide), eI79, z_up_n (by decide), eI69, z_up_n (by decide), eI59, z_up_n (by decide), eI49, z_up_n (by decide), eI39, z_up_n (by decide)]
                  refine lv_topi (fun x115 ex115 => ?_)
                  refine z_iast (i := 66) hx hb hK hW hS rfl (z_ix rfl (by omega) (by omega)) dX12_ask_169 (fun H locs hz1 hW hS => ?_)
                  obtain ⟨I116, eI116⟩ : ∃ K : z_I, K = z_up I109 66 (I 0 83).toNatClampNeg x115 := ⟨_, rfl⟩
                  rw [← eI116] at hW
                  have f117 := z_fr_a f110 (show z_wa L_X12_ask_j 66 = true by decide) eI116
                  have a118 := z_rg_n hI109Atf (by decide) eI116
                  have a119 := z_rg_n hI109Atm (by decide) eI116
                  have a120 := z_rg_n hI109Ajw (by decide) eI116
                  have a121 := z_Nd_n hI109Nd (by decide) eI116
                  have a122 := z_rg_n hI109Asf (by decide) eI116
                  have a123 := z_rg_n hI109Ast (by decide) eI116
                  have a124 := z_rg_n hI109Asc (by decide) eI116
                  have a125 := z_Ex_n hI109Ex (by decide) eI116
                  refine lv_aload_n hx hb dX12_ask_170 rfl (lv_at hl 1 rfl) ?_
                  refine z_get (T := TX12) (N := 96) (ci := 12) (i := 0) (v := .ref (ad 67)) hx hb hts zj_X12_ask_X12 hown hK hW rfl rfl 92 (by decide) (hts (.fieldLink RX12 217 "PetrolBoardModel" "jFirst" "[I") (me_s (me_l (me_l (List.mem_of_getElem? (i := 10) rfl))))) (fun _ h => h) rfl dX12_ask_171 ?_
                  refine lv_iload hx hb dX12_ask_174 (lv_at hl 0 rfl) ?_
                  refine lv_aload_n hx hb dX12_ask_176 rfl (lv_at hl 1 rfl) ?_
                  refine z_get (T := TX12) (N := 96) (ci := 12) (i := 0) (v := .ref (ad 66)) hx hb hts zj_X12_ask_X12 hown hK hW rfl rfl 91 (by decide) (hts (.fieldLink RX12 214 "PetrolBoardModel" "jGranted" "[I") (me_s (me_l (me_l (List.mem_of_getElem? (i := 9) rfl))))) (fun _ h => h) rfl dX12_ask_177 ?_
                  refine lv_iload hx hb dX12_ask_180 (lv_at hl 0 rfl) ?_
                  refine z_iald (i := 66) hx hb hK hW rfl (z_ix rfl (by omega) (by omega)) dX12_ask_182 ?_
                  refine lv_topi (fun x126 ex126 => ?_)
                  refine z_iast (i := 67) hx hb hK hW hS rfl (z_ix rfl (by omega) (by omega)) dX12_ask_183 (fun H locs hz1 hW hS => ?_)
                  obtain ⟨I127, eI127⟩ : ∃ K : z_I, K = z_up I116 67 (I 0 83).toNatClampNeg x126 := ⟨_, rfl⟩
                  rw [← eI127] at hW
                  have f128 := z_fr_a f117 (show z_wa L_X12_ask_j 67 = true by decide) eI127
                  have a129 := z_rg_n a118 (by decide) eI127
                  have a130 := z_rg_n a119 (by decide) eI127
                  have a131 := z_rg_n a120 (by decide) eI127
                  have a132 := z_Nd_n a121 (by decide) eI127
                  have a133 := z_rg_n a122 (by decide) eI127
                  have a134 := z_rg_n a123 (by decide) eI127
                  have a135 := z_rg_n a124 (by decide) eI127
                  have a136 := z_Ex_n a125 (by decide) eI127
                  refine lv_aload_n hx hb dX12_ask_184 rfl (lv_at hl 1 rfl) ?_
                  refine lv_dup hx hb dX12_ask_185 rfl ?_
                  have r137 : 0 ≤ (I109 0 83).toInt ∧ (I109 0 83).toInt ≤ 60 := hI109mj
                  refine z_get (T := TX12) (N := 96) (ci := 12) (i := 0) (v := .int (I109 0 83)) hx hb hts zj_X12_ask_X12 hown hK hW rfl rfl 83 (by decide) (hts (.fieldLink RX12 505 "PetrolBoardModel" "journeys" "I") (me_s (me_l (me_l (List.mem_of_getElem? (i := 1) rfl))))) (fun _ h => h) (congrArg Value.int (by rw [eI127, z_up_n (by decide), eI116, z_up_n (by decide)])) dX12_ask_186 ?_
                  refine lv_iconst (v := 1) hx hb dX12_ask_189 (by decide) ?_
                  refine lv_iadd hx hb dX12_ask_190 ?_
                  refine lv_topi (fun x138 ex138 => ?_)
                  have tx138 : x138.toInt = (I109 0 83).toInt + 1 := z_tadd ex138 rfl z_l1 (by omega) (by omega)
                  refine z_put (T := TX12) (N := 96) (ci := 12) (i := 0) (v := .int x138) (I1 := z_up I127 0 83 x138) (J1 := J111) (P1 := PM ad) hx hb hts zj_X12_ask_X12 tyX12 tyX12_ok nmX12 hown hK hW hS rfl rfl 83 (by decide) (hts (.fieldLink RX12 505 "PetrolBoardModel" "journeys" "I") (me_s (me_l (me_l (List.mem_of_getElem? (i := 1) rfl))))) (fun _ h => h) rfl rfl rfl (by first | rfl | exact congrArg _ z_up_s) (fun a b h ty => z_vI h ty) dX12_ask_191 (fun H locs hz1 hW hS => ?_)
                  obtain ⟨I139, eI139⟩ : ∃ K : z_I, K = z_up I127 0 83 x138 := ⟨_, rfl⟩
                  rw [← eI139] at hW
                  have f140 := z_fr_k f128 (show z_wr L_X12_ask_j 0 83 = true by decide) eI139
                  have a141 := z_rg_n a129 (by decide) eI139
                  have a142 := z_rg_n a130 (by decide) eI139
                  have a143 := z_rg_n a131 (by decide) eI139
                  have a144 := z_Nd_n a132 (by decide) eI139
                  have a145 := z_rg_n a133 (by decide) eI139
                  have a146 := z_rg_n a134 (by decide) eI139
                  have a147 := z_rg_n a135 (by decide) eI139
                  have a148 := z_Ex_n a136 (by decide) eI139
                  refine lv_iload hx hb dX12_ask_194 (lv_at hl 0 rfl) ?_
                  exact z_iret hx hb hr hK hS (Nat.le_of_ble_eq_true rfl) (Nat.le_of_ble_eq_true rfl) hlocks dX12_ask_196 (shM, ad, I139, J111, PM ad) hW ⟨I139, J111, rfl, ⟨(by show 0 ≤ (I139 0 0).toInt ∧ (I139 0 0).toInt ≤ 719; rw [eI139, z_up_k (by decide), eI127, z_up_n (by decide), eI116, z_up_n (by decide)]; exact hI109ma.1), (by show 0 ≤ (I139 0 1).toInt ∧ (I139 0 1).toInt ≤ 30; rw [eI139, z_up_k (by decide), eI127, z_up_n (by decide), eI116, z_up_n (by decide)]; exact hI109ma.2.1), (by show 0 ≤ (I139 0 2).toInt ∧ (I139 0 2).toInt ≤ 200; rw [eI139, z_up_k (by decide), eI127, z_up_n (by decide), eI116, z_up_n (by decide)]; exact hI109ma.2.2)⟩, ⟨(by show 0 ≤ (I139 0 13).toInt ∧ (I139 0 13).toInt ≤ 12; rw [eI139, z_up_k (by decide), eI127, z_up_n (by decide), eI116, z_up_n (by decide)]; exact hI109mb.1), (by show 0 ≤ (I139 0 14).toInt ∧ (I139 0 14).toInt ≤ 288; rw [eI139, z_up_k (by decide), eI127, z_up_n (by decide), eI116, z_up_n (by decide)]; exact hI109mb.2)⟩, (by show 0 ≤ (I139 0 83).toInt ∧ (I139 0 83).toInt ≤ 60; rw [eI139, z_up_s]; omega), a141, a142, a143, a144, a145, a146, a147, a148, f140, (Or.inl ⟨by omega, by omega, (by have q9 : (I139 0 83) = x138 := (by rw [eI139, z_up_s]); show (I139 0 83).toInt = (I 0 83).toInt + 1; rw [q9]; first | done | omega), ⟨(fun j => by rw [eI139, z_up_n (by decide), eI127, z_up_n (by decide), eI116, z_up_n (by decide), fI109 59 j (z_wr_c (by decide)), eI99, z_up_n (by decide), eI89, z_up_n (by decide), eI79, z_up_n (by decide), eI69, z_up_n (by decide), eI59, z_up_n (by decide), eI49, z_up_n (by decide), eI39, z_up_j]), (fun j => by rw [eI139, z_up_n (by decide), eI127, z_up_n (by decide), eI116, z_up_n (by decide), fI109 60 j (z_wr_c (by decide)), eI99, z_up_n (by decide), eI89, z_up_n (by decide), eI79, z_up_n (by decide), eI69, z_up_n (by decide), eI59, z_up_n (by decide), eI49, z_up_j, eI39, z_up_n (by decide)]), (fun j => by rw [eI139, z_up_n (by decide), eI127, z_up_n (by decide), eI116, z_up_n (by decide), fI109 61 j (z_wr_c (by decide)), eI99, z_up_n (by decide), eI89, z_up_n (by decide), eI79, z_up_n (by decide), eI69, z_up_n (by decide), eI59, z_up_j, eI49, z_up_n (by decide), eI39, z_up_n (by decide)]), (fun j => by rw [eI139, z_up_n (by decide), eI127, z_up_n (by decide), eI116, z_up_n (by decide), fI109 63 j (z_wr_c (by decide)), eI99, z_up_n (by decide), eI89, z_up_n (by decide), eI79, z_up_j, eI69, z_up_n (by decide), eI59, z_up_n (by decide), eI49, z_up_n (by decide), eI39, z_up_n (by decide)]), (fun j => by rw [eI139, z_up_n (by decide), eI127, z_up_n (by decide), eI116, z_up_n (by decide), fI109 64 j (z_wr_c (by decide)), eI99, z_up_n (by decide), eI89, z_up_j, eI79, z_up_n (by decide), eI69, z_up_n (by decide), eI59, z_up_n (by decide), eI49, z_up_n (by decide), eI39, z_up_n (by decide)])⟩⟩)⟩
                · have g149 := z_f_eq rfl z_l60 c37
                  refine lv_iconst (v := (-1)) hx hb dX12_ask_87 (by decide) ?_
                  exact z_iret hx hb hr hK hS (Nat.le_of_ble_eq_true rfl) (Nat.le_of_ble_eq_true rfl) hlocks dX12_ask_88 (shM, ad, I, J, PM ad) hW ⟨I, J, rfl, ⟨(by show 0 ≤ (I 0 0).toInt ∧ (I 0 0).toInt ≤ 719; exact hma.1), (by show 0 ≤ (I 0 1).toInt ∧ (I 0 1).toInt ≤ 30; exact hma.2.1), (by show 0 ≤ (I 0 2).toInt ∧ (I 0 2).toInt ≤ 200; exact hma.2.2)⟩, ⟨(by show 0 ≤ (I 0 13).toInt ∧ (I 0 13).toInt ≤ 12; exact hmb.1), (by show 0 ≤ (I 0 14).toInt ∧ (I 0 14).toInt ≤ 288; exact hmb.2)⟩, (by show 0 ≤ (I 0 83).toInt ∧ (I 0 83).toInt ≤ 60; exact hmj), hAtf, hAtm, hAjw, hNd, hAsf, hAst, hAsc, hEx, z_fr_0, (Or.inr ⟨by omega, by decide, (by show (I 0 83).toInt = (I 0 83).toInt; omega), (fun j => ⟨rfl, rfl, rfl, rfl, rfl⟩)⟩)⟩
            · have h150 := h26
              have z151 := z_l0
              have z152 := z_l99
              refine lv_if_eq (tgt := 87) hx hb dX12_ask_62 (by decide) (fun c153 => ?_) (fun c153 => absurd (by decide) c153)
              refine lv_iconst (v := (-1)) hx hb dX12_ask_87 (by decide) ?_
              exact z_iret hx hb hr hK hS (Nat.le_of_ble_eq_true rfl) (Nat.le_of_ble_eq_true rfl) hlocks dX12_ask_88 (shM, ad, I, J, PM ad) hW ⟨I, J, rfl, ⟨(by show 0 ≤ (I 0 0).toInt ∧ (I 0 0).toInt ≤ 719; exact hma.1), (by show 0 ≤ (I 0 1).toInt ∧ (I 0 1).toInt ≤ 30; exact hma.2.1), (by show 0 ≤ (I 0 2).toInt ∧ (I 0 2).toInt ≤ 200; exact hma.2.2)⟩, ⟨(by show 0 ≤ (I 0 13).toInt ∧ (I 0 13).toInt ≤ 12; exact hmb.1), (by show 0 ≤ (I 0 14).toInt ∧ (I 0 14).toInt ≤ 288; exact hmb.2)⟩, (by show 0 ≤ (I 0 83).toInt ∧ (I 0 83).toInt ≤ 60; exact hmj), hAtf, hAtm, hAjw, hNd, hAsf, hAst, hAsc, hEx, z_fr_0, (Or.inr ⟨by omega, by decide, (by show (I 0 83).toInt = (I 0 83).toInt; omega), (fun j => ⟨rfl, rfl, rfl, rfl, rfl⟩)⟩)⟩
          · have h154 := h22
            have z155 := z_l719
            refine lv_if_eq (tgt := 87) hx hb dX12_ask_51 (by decide) (fun c156 => ?_) (fun c156 => absurd (by decide) c156)
            refine lv_iconst (v := (-1)) hx hb dX12_ask_87 (by decide) ?_
            exact z_iret hx hb hr hK hS (Nat.le_of_ble_eq_true rfl) (Nat.le_of_ble_eq_true rfl) hlocks dX12_ask_88 (shM, ad, I, J, PM ad) hW ⟨I, J, rfl, ⟨(by show 0 ≤ (I 0 0).toInt ∧ (I 0 0).toInt ≤ 719; exact hma.1), (by show 0 ≤ (I 0 1).toInt ∧ (I 0 1).toInt ≤ 30; exact hma.2.1), (by show 0 ≤ (I 0 2).toInt ∧ (I 0 2).toInt ≤ 200; exact hma.2.2)⟩, ⟨(by show 0 ≤ (I 0 13).toInt ∧ (I 0 13).toInt ≤ 12; exact hmb.1), (by show 0 ≤ (I 0 14).toInt ∧ (I 0 14).toInt ≤ 288; exact hmb.2)⟩, (by show 0 ≤ (I 0 83).toInt ∧ (I 0 83).toInt ≤ 60; exact hmj), hAtf, hAtm, hAjw, hNd, hAsf, hAst, hAsc, hEx, z_fr_0, (Or.inr ⟨by omega, by decide, (by show (I 0 83).toInt = (I 0 83).toInt; omega), (fun j => ⟨rfl, rfl, rfl, rfl, rfl⟩)⟩)⟩
        · have h157 := h16
          have z158 := z_l0
          have z159 := z_l4
          refine lv_if_eq (tgt := 87) hx hb dX12_ask_36 (by decide) (fun c160 => ?_) (fun c160 => absurd (by decide) c160)
          refine lv_iconst (v := (-1)) hx hb dX12_ask_87 (by decide) ?_
          exact z_iret hx hb hr hK hS (Nat.le_of_ble_eq_true rfl) (Nat.le_of_ble_eq_true rfl) hlocks dX12_ask_88 (shM, ad, I, J, PM ad) hW ⟨I, J, rfl, ⟨(by show 0 ≤ (I 0 0).toInt ∧ (I 0 0).toInt ≤ 719; exact hma.1), (by show 0 ≤ (I 0 1).toInt ∧ (I 0 1).toInt ≤ 30; exact hma.2.1), (by show 0 ≤ (I 0 2).toInt ∧ (I 0 2).toInt ≤ 200; exact hma.2.2)⟩, ⟨(by show 0 ≤ (I 0 13).toInt ∧ (I 0 13).toInt ≤ 12; exact hmb.1), (by show 0 ≤ (I 0 14).toInt ∧ (I 0 14).toInt ≤ 288; exact hmb.2)⟩, (by show 0 ≤ (I 0 83).toInt ∧ (I 0 83).toInt ≤ 60; exact hmj), hAtf, hAtm, hAjw, hNd, hAsf, hAst, hAsc, hEx, z_fr_0, (Or.inr ⟨by omega, by decide, (by show (I 0 83).toInt = (I 0 83).toInt; omega), (fun j => ⟨rfl, rfl, rfl, rfl, rfl⟩)⟩)⟩
      · have h161 := h11
        have z162 := z_l1
        have z163 := z_l8
        refine lv_if_eq (tgt := 87) hx hb dX12_ask_26 (by decide) (fun c164 => ?_) (fun c164 => absurd (by decide) c164)
        refine lv_iconst (v := (-1)) hx hb dX12_ask_87 (by decide) ?_
        exact z_iret hx hb hr hK hS (Nat.le_of_ble_eq_true rfl) (Nat.le_of_ble_eq_true rfl) hlocks dX12_ask_88 (shM, ad, I, J, PM ad) hW ⟨I, J, rfl, ⟨(by show 0 ≤ (I 0 0).toInt ∧ (I 0 0).toInt ≤ 719; exact hma.1), (by show 0 ≤ (I 0 1).toInt ∧ (I 0 1).toInt ≤ 30; exact hma.2.1), (by show 0 ≤ (I 0 2).toInt ∧ (I 0 2).toInt ≤ 200; exact hma.2.2)⟩, ⟨(by show 0 ≤ (I 0 13).toInt ∧ (I 0 13).toInt ≤ 12; exact hmb.1), (by show 0 ≤ (I 0 14).toInt ∧ (I 0 14).toInt ≤ 288; exact hmb.2)⟩, (by show 0 ≤ (I 0 83).toInt ∧ (I 0 83).toInt ≤ 60; exact hmj), hAtf, hAtm, hAjw, hNd, hAsf, hAst, hAsc, hEx, z_fr_0, (Or.inr ⟨by omega, by decide, (by show (I 0 83).toInt = (I 0 83).toInt; omega), (fun j => ⟨rfl, rfl, rfl, rfl, rfl⟩)⟩)⟩
    · have h165 := h5
      have z166 := z_l1
      have z167 := z_l500
      refine lv_if_eq (tgt := 87) hx hb dX12_ask_16 (by decide) (fun c168 => ?_) (fun c168 => absurd (by decide) c168)
      refine lv_iconst (v := (-1)) hx hb dX12_ask_87 (by decide) ?_
      exact z_iret hx hb hr hK hS (Nat.le_of_ble_eq_true rfl) (Nat.le_of_ble_eq_true rfl) hlocks dX12_ask_88 (shM, ad, I, J, PM ad) hW ⟨I, J, rfl, ⟨(by show 0 ≤ (I 0 0).toInt ∧ (I 0 0).toInt ≤ 719; exact hma.1), (by show 0 ≤ (I 0 1).toInt ∧ (I 0 1).toInt ≤ 30; exact hma.2.1), (by show 0 ≤ (I 0 2).toInt ∧ (I 0 2).toInt ≤ 200; exact hma.2.2)⟩, ⟨(by show 0 ≤ (I 0 13).toInt ∧ (I 0 13).toInt ≤ 12; exact hmb.1), (by show 0 ≤ (I 0 14).toInt ∧ (I 0 14).toInt ≤ 288; exact hmb.2)⟩, (by show 0 ≤ (I 0 83).toInt ∧ (I 0 83).toInt ≤ 60; exact hmj), hAtf, hAtm, hAjw, hNd, hAsf, hAst, hAsc, hEx, z_fr_0, (Or.inr ⟨by omega, by decide, (by show (I 0 83).toInt = (I 0 83).toInt; omega), (fun j => ⟨rfl, rfl, rfl, rfl, rfl⟩)⟩)⟩
  · have h169 := h1
    have r170 : 0 ≤ (I 0 1).toInt ∧ (I 0 1).toInt ≤ 30 := hma.2.1
    refine lv_if_eq (tgt := 87) hx hb dX12_ask_5 (by decide) (fun c171 => ?_) (fun c171 => absurd (by decide) c171)
    refine lv_iconst (v := (-1)) hx hb dX12_ask_87 (by decide) ?_
    exact z_iret hx hb hr hK hS (Nat.le_of_ble_eq_true rfl) (Nat.le_of_ble_eq_true rfl) hlocks dX12_ask_88 (shM, ad, I, J, PM ad) hW ⟨I, J, rfl, ⟨(by show 0 ≤ (I 0 0).toInt ∧ (I 0 0).toInt ≤ 719; exact hma.1), (by show 0 ≤ (I 0 1).toInt ∧ (I 0 1).toInt ≤ 30; exact hma.2.1), (by show 0 ≤ (I 0 2).toInt ∧ (I 0 2).toInt ≤ 200; exact hma.2.2)⟩, ⟨(by show 0 ≤ (I 0 13).toInt ∧ (I 0 13).toInt ≤ 12; exact hmb.1), (by show 0 ≤ (I 0 14).toInt ∧ (I 0 14).toInt ≤ 288; exact hmb.2)⟩, (by show 0 ≤ (I 0 83).toInt ∧ (I 0 83).toInt ≤ 60; exact hmj), hAtf, hAtm, hAjw, hNd, hAsf, hAst, hAsc, hEx, z_fr_0, (Or.inr ⟨by omega, by decide, (by show (I 0 83).toInt = (I 0 83).toInt; omega), (fun j => ⟨rfl, rfl, rfl, rfl, rfl⟩)⟩)⟩
set_option maxHeartbeats 8000000 in
set_option maxRecDepth 100000 in
theorem sx_J6_bitCount_x (l : Launch) (G : z_G) (ad : Nat → Nat) (c : z_C) (I : z_I) (a1 : Int32) : z_M l yJ6_bitCount_0f7a4 wsJ6_bitCount_0f7a4 { frames := 1, cells := 0, slots := 0, locals := 12 } [.int a1] G (shC c, ad, I, JX, PC c ad) (fun r u1 => u1 = (shC c, ad, I, JX, PC c ad) ∧ (r = zq_pc a1)) 0 0 := by
  intro sz
  refine z_headQ (cc := cJ6_bitCount_0f7a4) (maxL := 1) (ret := (some .int)) (by decide) rfl (Nat.le_of_ble_eq_true rfl) ?_
  intro p e s m below meth c0 ls hIn hK hsz hW hl
  obtain ⟨hx, hb, hr, hml, hown, hts, hlocks, hname⟩ := hIn
  subst hsz
  have hown : s.vm.findClass RJ6 = some m.cls := hown
  have hA : ∀ q : Nat, s.heap.size ≤ q → z_A (shC c, ad, I, JX, PC c ad) s.heap.size q := fun q h => Or.inr h
  generalize hAe : z_A (shC c, ad, I, JX, PC c ad) s.heap.size = A at *
  have hS : va_S A s.heap s.heap [] := va_S.rf
  have hl : lv_has ls 1 [(0, .int a1)] := hl
  refine lv_iload_n hx hb dJ6_bitCount_0f7a4_0 rfl (lv_at hl 0 rfl) ?_
  refine lv_iload_n hx hb dJ6_bitCount_0f7a4_1 rfl (lv_at hl 0 rfl) ?_
  refine lv_iconst (v := 1) hx hb dJ6_bitCount_0f7a4_2 (by decide) ?_
  refine lv_iushr hx hb dJ6_bitCount_0f7a4_3 rfl ?_
  refine lv_topi (fun x1 ex1 => ?_)
  refine lv_ldcw (v := 1431655765) hx hb hown (hts (.constant RJ6 265 (1431655765)) (me_s (List.mem_of_getElem? (i := 0) rfl))) dJ6_bitCount_0f7a4_4 ?_
  refine lv_iand hx hb dJ6_bitCount_0f7a4_7 ?_
  refine lv_topi (fun x2 ex2 => ?_)
  refine lv_isub hx hb dJ6_bitCount_0f7a4_8 ?_
  refine lv_topi (fun x3 ex3 => ?_)
  refine lv_istore_n (lv' := [(0, .int x3)]) hx hb dJ6_bitCount_0f7a4_9 rfl hl (by decide) rfl (fun ls hl => ?_)
  refine lv_iload_n hx hb dJ6_bitCount_0f7a4_10 rfl (lv_at hl 0 rfl) ?_
  refine lv_ldcw (v := 858993459) hx hb hown (hts (.constant RJ6 266 (858993459)) (me_s (List.mem_of_getElem? (i := 1) rfl))) dJ6_bitCount_0f7a4_11 ?_
  refine lv_iand hx hb dJ6_bitCount_0f7a4_14 ?_
  refine lv_topi (fun x4 ex4 => ?_)
  refine lv_iload_n hx hb dJ6_bitCount_0f7a4_15 rfl (lv_at hl 0 rfl) ?_
  refine lv_iconst (v := 2) hx hb dJ6_bitCount_0f7a4_16 (by decide) ?_
  refine lv_iushr hx hb dJ6_bitCount_0f7a4_17 rfl ?_
  refine lv_topi (fun x5 ex5 => ?_)
  refine lv_ldcw (v := 858993459) hx hb hown (hts (.constant RJ6 266 (858993459)) (me_s (List.mem_of_getElem? (i := 1) rfl))) dJ6_bitCount_0f7a4_18 ?_
  refine lv_iand hx hb dJ6_bitCount_0f7a4_21 ?_
  refine lv_topi (fun x6 ex6 => ?_)
  refine lv_iadd hx hb dJ6_bitCount_0f7a4_22 ?_
  refine lv_topi (fun x7 ex7 => ?_)
  refine lv_istore_n (lv' := [(0, .int x7)]) hx hb dJ6_bitCount_0f7a4_23 rfl hl (by decide) rfl (fun ls hl => ?_)
  refine lv_iload_n hx hb dJ6_bitCount_0f7a4_24 rfl (lv_at hl 0 rfl) ?_
  refine lv_iload_n hx hb dJ6_bitCount_0f7a4_25 rfl (lv_at hl 0 rfl) ?_
  refine lv_iconst (v := 4) hx hb dJ6_bitCount_0f7a4_26 (by decide) ?_
  refine lv_iushr hx hb dJ6_bitCount_0f7a4_27 rfl ?_
  refine lv_topi (fun x8 ex8 => ?_)
  refine lv_iadd hx hb dJ6_bitCount_0f7a4_28 ?_
  refine lv_topi (fun x9 ex9 => ?_)
  refine lv_ldcw (v := 252645135) hx hb hown (hts (.constant RJ6 267 (252645135)) (me_s (List.mem_of_getElem? (i := 2) rfl))) dJ6_bitCount_0f7a4_29 ?_
  refine lv_iand hx hb dJ6_bitCount_0f7a4_32 ?_
  refine lv_topi (fun x10 ex10 => ?_)
  refine lv_istore_n (lv' := [(0, .int x10)]) hx hb dJ6_bitCount_0f7a4_33 rfl hl (by decide) rfl (fun ls hl => ?_)
  refine lv_iload_n hx hb dJ6_bitCount_0f7a4_34 rfl (lv_at hl 0 rfl) ?_
  refine lv_iload_n hx hb dJ6_bitCount_0f7a4_35 rfl (lv_at hl 0 rfl) ?_
  refine lv_bipush (v := 8) hx hb dJ6_bitCount_0f7a4_36 (by decide) ?_
  refine lv_iushr hx hb dJ6_bitCount_0f7a4_38 rfl ?_
  refine lv_topi (fun x11 ex11 => ?_)
  refine lv_iadd hx hb dJ6_bitCount_0f7a4_39 ?_
  refine lv_topi (fun x12 ex12 => ?_)
  refine lv_istore_n (lv' := [(0, .int x12)]) hx hb dJ6_bitCount_0f7a4_40 rfl hl (by decide) rfl (fun ls hl => ?_)
  refine lv_iload_n hx hb dJ6_bitCount_0f7a4_41 rfl (lv_at hl 0 rfl) ?_
  refine lv_iload_n hx hb dJ6_bitCount_0f7a4_42 rfl (lv_at hl 0 rfl) ?_
  refine lv_bipush (v := 16) hx hb dJ6_bitCount_0f7a4_43 (by decide) ?_
  refine lv_iushr hx hb dJ6_bitCount_0f7a4_45 rfl ?_
  refine lv_topi (fun x13 ex13 => ?_)
  refine lv_iadd hx hb dJ6_bitCount_0f7a4_46 ?_
  refine lv_topi (fun x14 ex14 => ?_)
  refine lv_istore_n (lv' := [(0, .int x14)]) hx hb dJ6_bitCount_0f7a4_47 rfl hl (by decide) rfl (fun ls hl => ?_)
  refine lv_iload_n hx hb dJ6_bitCount_0f7a4_48 rfl (lv_at hl 0 rfl) ?_
  refine lv_bipush (v := 63) hx hb dJ6_bitCount_0f7a4_49 (by decide) ?_
  refine lv_iand hx hb dJ6_bitCount_0f7a4_51 ?_
  refine lv_topi (fun x15 ex15 => ?_)
  exact z_iret hx hb hr hK hS (Nat.le_of_ble_eq_true rfl) (Nat.le_of_ble_eq_true rfl) hlocks dJ6_bitCount_0f7a4_52 (shC c, ad, I, JX, PC c ad) hW ⟨rfl, (by rw [ex15, ex14, ex13, ex12, ex11, ex10, ex9, ex8, ex7, ex6, ex5, ex4, ex3, ex2, ex1]; rfl)⟩
noncomputable def L_X3_gather_x : z_L := [(70, 999), (71, 999), (60, 12), (60, 13)]
set_option maxHeartbeats 8000000 in
set_option maxRecDepth 100000 in
theorem sx_X3_gather_x (l : Launch) (G : z_G) (ad : Nat → Nat) (c : z_C) (I : z_I) (hJ : z_iJ I) (hH : z_iH I) (a2 : Int32) (a3 : Int32) (hJw : ∀ j : Nat, (j : Int) < (I 60 9).toInt → 0 ≤ (I 61 j).toInt ∧ (I 61 j).toInt < (I 1 5).toInt) : z_Mv l yX3_gather wsX3_gather { frames := 2, cells := 0, slots := 0, locals := 33 } [.ref (ad 60), .ref (ad 1), .int a2, .int a3] G (shC c, ad, I, JX, PC c ad) (fun u1 => ∃ I1 : z_I, u1 = (shC c, ad, I1, JX, PC c ad) ∧ z_iJ I1 ∧ z_iH I1 ∧ z_fr L_X3_gather_x I1 I ∧ zq_B I I1 a2.toInt a3.toInt (I 60 9).toNatClampNeg) 0 0 := by
  intro sz
  refine z_headQ (cc := cX3_gather) (maxL := 5) (ret := none) (by decide) rfl (Nat.le_of_ble_eq_true rfl) ?_
  intro p e s m below meth c0 ls hIn hK hsz hW hl
  obtain ⟨hx, hb, hr, hml, hown, hts, hlocks, hname⟩ := hIn
  subst hsz
  have hown : s.vm.findClass RX3 = some m.cls := hown
  have hA : ∀ q : Nat, s.heap.size ≤ q → z_A (shC c, ad, I, JX, PC c ad) s.heap.size q := fun q h => Or.inr h
  generalize hAe : z_A (shC c, ad, I, JX, PC c ad) s.heap.size = A at *
  have hS : va_S A s.heap s.heap [] := va_S.rf
  have hl : lv_has ls 5 [(0, .ref (ad 60)), (1, .ref (ad 1)), (2, .int a2), (3, .int a3)] := hl
  refine lv_aload_n hx hb dX3_gather_0 rfl (lv_at hl 0 rfl) ?_
  refine lv_iconst (v := 0) hx hb dX3_gather_1 (by decide) ?_
  refine z_put (T := TX3) (N := 17) (ci := 3) (i := 60) (v := .int 0) (I1 := z_up I 60 12 0) (J1 := JX) (P1 := PC c ad) hx hb hts zj_X3_gather_X3 tyX3 tyX3_ok nmX3 hown hK hW hS rfl rfl 12 (by decide) (hts (.fieldLink RX3 76 "PetrolBoard$Journeys" "pooled" "I") (me_s (me_l (me_l (List.mem_of_getElem? (i := 0) rfl))))) (fun _ h => h) rfl rfl rfl (by first | rfl | exact congrArg _ z_up_s) (fun a b h ty => z_vI h ty) dX3_gather_2 (fun H locs hz1 hW hS => ?_)
  obtain ⟨I1, eI1⟩ : ∃ K : z_I, K = z_up I 60 12 0 := ⟨_, rfl⟩
  rw [← eI1] at hW
  have f2 := z_fr_k z_fr_0 (show z_wr L_X3_gather_x 60 12 = true by decide) eI1
  refine lv_aload_n hx hb dX3_gather_5 rfl (lv_at hl 0 rfl) ?_
  refine lv_iconst (v := 0) hx hb dX3_gather_6 (by decide) ?_
  refine z_put (T := TX3) (N := 17) (ci := 3) (i := 60) (v := .int 0) (I1 := z_up I1 60 13 0) (J1 := JX) (P1 := PC c ad) hx hb hts zj_X3_gather_X3 tyX3 tyX3_ok nmX3 hown hK hW hS rfl rfl 13 (by decide) (hts (.fieldLink RX3 87 "PetrolBoard$Journeys" "poolPeople" "I") (me_s (me_l (me_l (List.mem_of_getElem? (i := 1) rfl))))) (fun _ h => h) rfl rfl rfl (by first | rfl | exact congrArg _ z_up_s) (fun a b h ty => z_vI h ty) dX3_gather_7 (fun H locs hz1 hW hS => ?_)
  obtain ⟨I3, eI3⟩ : ∃ K : z_I, K = z_up I1 60 13 0 := ⟨_, rfl⟩
  rw [← eI3] at hW
  have f4 := z_fr_k f2 (show z_wr L_X3_gather_x 60 13 = true by decide) eI3
  refine lv_iconst (v := 0) hx hb dX3_gather_10 (by decide) ?_
  refine lv_istore (lv' := [(4, .int 0), (0, .ref (ad 60)), (1, .ref (ad 1)), (2, .int a2), (3, .int a3)]) hx hb dX3_gather_11 hl (by decide) rfl (fun ls hl => ?_)
  have lp5 : ∀ (f : Nat) (y6 : Int32) (I7 : z_I) (H : Heap) (locs : List Loc) (ls : Array Slot), (2147483647 < y6.toInt + (f : Int)) → (0 ≤ y6.toInt) → (z_iJ I7) → (z_iH I7) → (zq_B I I7 a2.toInt a3.toInt y6.toNatClampNeg ∧ y6.toInt ≤ (I 60 9).toInt) → (z_fr L_X3_gather_x I7 I) → z_W G A (shC c, ad, I7, JX, PC c ad) H → va_S A s.heap H locs → lv_has ls 5 [(4, .int y6), (0, .ref (ad 60)), (1, .ref (ad 1)), (2, .int a2), (3, .int a3)] → W p l e (headSpec wsX3_gather { frames := 2, cells := 0, slots := 0, locals := 33 }).room s m ([.ref (ad 60), .ref (ad 1), .int a2, .int a3] : List Value).toArray below meth c0 H locs 0 0 (MQ below (va_Qv (fun (u1 : z_U) => ∃ I1 : z_I, u1 = (shC c, ad, I1, JX, PC c ad) ∧ z_iJ I1 ∧ z_iH I1 ∧ z_fr L_X3_gather_x I1 I ∧ zq_B I I1 a2.toInt a3.toInt (I 60 9).toNatClampNeg) (z_B G A) A) ([.ref (ad 60), .ref (ad 1), .int a2, .int a3] : List Value).toArray s 0 0 A) (F0 m 13 ls []) := by
    intro f
    induction f with
    | zero => intro y6 I7  H locs ls lp5m lp5l4 lp5J lp5H lp5G lp5fr hW hS hl; exact absurd lp5m (by have := Int32.toInt_lt y6; have := Int32.le_toInt y6; omega)
    | succ f lp5ih =>
      intro y6 I7  H locs ls lp5m lp5l4 lp5J lp5H lp5G lp5fr hW hS hl
      refine lv_iload hx hb dX3_gather_13 (lv_at hl 0 rfl) ?_
      refine lv_aload_n hx hb dX3_gather_15 rfl (lv_at hl 1 rfl) ?_
      have r8 : 0 ≤ (I7 60 9).toInt ∧ (I7 60 9).toInt ≤ 60 := lp5J.1
      refine z_get (T := TX3) (N := 17) (ci := 3) (i := 60) (v := .int (I7 60 9)) hx hb hts zj_X3_gather_X3 hown hK hW rfl rfl 9 (by decide) (hts (.fieldLink RX3 45 "PetrolBoard$Journeys" "number" "I") (me_s (me_l (me_l (List.mem_of_getElem? (i := 2) rfl))))) (fun _ h => h) rfl dX3_gather_16 ?_
      refine lv_icmp_ge (tgt := 156) hx hb dX3_gather_19 (by decide) (fun c9 => ?_) (fun c9 => ?_)
      · have g10 := z_f_ge rfl rfl c9
        have b11 := Int32.toInt_lt y6
        exact z_vret hx hb hr hK hS (Nat.le_of_ble_eq_true rfl) (Nat.le_of_ble_eq_true rfl) hlocks dX3_gather_156 (shC c, ad, I7, JX, PC c ad) hW ⟨I7, rfl, ⟨(by show 0 ≤ (I7 60 9).toInt ∧ (I7 60 9).toInt ≤ 60; exact lp5J.1), (by show 0 ≤ (I7 60 12).toInt ∧ (I7 60 12).toInt ≤ 12; exact lp5J.2)⟩, ⟨(by show 0 ≤ (I7 1 5).toInt ∧ (I7 1 5).toInt ≤ 30; exact lp5H.1), (by show 0 ≤ (I7 1 11).toInt ∧ (I7 1 11).toInt ≤ 200; exact lp5H.2)⟩, lp5fr, (by have hg := lp5G; have cq9 := z_clt (x := y6) rfl (by omega); have cn9 := z_clt (x := (I 60 9)) rfl (by omega); have hl9 := hg.1.1; unfold zq_B zq_xl at *; rw [zq_end (j := y6.toNatClampNeg) (N := (I 60 9).toNatClampNeg) (by omega)]; exact hg.1)⟩
      · have g12 := z_f_nge rfl rfl c9
        have b13 := Int32.toInt_lt y6
        refine lv_iload hx hb dX3_gather_22 (lv_at hl 0 rfl) ?_
        refine lv_bipush (v := 60) hx hb dX3_gather_24 (by decide) ?_
        refine lv_icmp_ge (tgt := 156) hx hb dX3_gather_26 (by decide) (fun c14 => (by have g := z_f_ge rfl z_l60 c14; omega)) (fun c14 => ?_)
        have g15 := z_f_nge rfl z_l60 c14
        refine lv_aload_n hx hb dX3_gather_29 rfl (lv_at hl 1 rfl) ?_
        have r16 : 0 ≤ (I7 60 12).toInt ∧ (I7 60 12).toInt ≤ 12 := lp5J.2
        refine z_get (T := TX3) (N := 17) (ci := 3) (i := 60) (v := .int (I7 60 12)) hx hb hts zj_X3_gather_X3 hown hK hW rfl rfl 12 (by decide) (hts (.fieldLink RX3 76 "PetrolBoard$Journeys" "pooled" "I") (me_s (me_l (me_l (List.mem_of_getElem? (i := 0) rfl))))) (fun _ h => h) rfl dX3_gather_30 ?_
        refine lv_bipush (v := 12) hx hb dX3_gather_33 (by decide) ?_
        refine lv_icmp_ge (tgt := 156) hx hb dX3_gather_35 (by decide) (fun c17 => ?_) (fun c17 => ?_)
        · have g18 := z_f_ge rfl z_l12 c17
          exact z_vret hx hb hr hK hS (Nat.le_of_ble_eq_true rfl) (Nat.le_of_ble_eq_true rfl) hlocks dX3_gather_156 (shC c, ad, I7, JX, PC c ad) hW ⟨I7, rfl, ⟨(by show 0 ≤ (I7 60 9).toInt ∧ (I7 60 9).toInt ≤ 60; exact lp5J.1), (by show 0 ≤ (I7 60 12).toInt ∧ (I7 60 12).toInt ≤ 12; exact lp5J.2)⟩, ⟨(by show 0 ≤ (I7 1 5).toInt ∧ (I7 1 5).toInt ≤ 30; exact lp5H.1), (by show 0 ≤ (I7 1 11).toInt ∧ (I7 1 11).toInt ≤ 200; exact lp5H.2)⟩, lp5fr, (by have hg := lp5G; have cq9 := z_clt (x := y6) rfl (by omega); have cn9 := z_clt (x := (I 60 9)) rfl (by omega); have hl9 := hg.1.1; unfold zq_B zq_xl at *; rw [zq_end (j := y6.toNatClampNeg) (N := (I 60 9).toNatClampNeg) (by omega)]; exact hg.1)⟩
        · have g19 := z_f_nge rfl z_l12 c17
          refine lv_aload_n hx hb dX3_gather_38 rfl (lv_at hl 1 rfl) ?_
          refine z_get (T := TX3) (N := 17) (ci := 3) (i := 60) (v := .ref (ad 65)) hx hb hts zj_X3_gather_X3 hown hK hW rfl rfl 4 (by decide) (hts (.fieldLink RX3 24 "PetrolBoard$Journeys" "day" "[I") (me_s (me_l (me_l (List.mem_of_getElem? (i := 3) rfl))))) (fun _ h => h) rfl dX3_gather_39 ?_
          refine lv_iload hx hb dX3_gather_42 (lv_at hl 0 rfl) ?_
          refine z_iald (i := 65) hx hb hK hW rfl (z_ix rfl (by omega) (by omega)) dX3_gather_44 ?_
          refine lv_topi (fun x20 ex20 => ?_)
          have hv21 : x20 = I 65 y6.toNatClampNeg := by rw [ex20, lp5fr 65 _ (z_wr_c (by decide))]
          have h22 : zq_xD I y6.toNatClampNeg = x20.toInt := by unfold zq_xD; rw [hv21]
          refine lv_iload_n hx hb dX3_gather_45 rfl (lv_at hl 3 rfl) ?_
          refine lv_icmp_ne (tgt := 150) hx hb dX3_gather_46 (by decide) (fun c23 => ?_) (fun c23 => ?_)
          · have g24 := z_f_ne rfl rfl c23
            have b25 := Int32.toInt_lt x20
            have b26 := Int32.toInt_lt a2
            obtain ⟨x27, ex27⟩ : ∃ y : Int32, y = y6 + 1 := ⟨_, rfl⟩
            have tx27 : x27.toInt = y6.toInt + 1 := z_tadd ex27 rfl z_l1 (by omega) (by omega)
            refine lv_iinc (v := x27) (lv' := [(4, .int x27), (0, .ref (ad 60)), (1, .ref (ad 1)), (2, .int a2), (3, .int a3)]) hx hb dX3_gather_150 hl (k := 0) rfl (by rw [ex27]; rfl) (by decide) rfl (fun ls hl => ?_)
            refine lv_goto (tgt := 13) hx hb dX3_gather_153 (by decide) ?_
            exact lp5ih x27 I7  _ _ _ (by omega) (by omega) ⟨(by show 0 ≤ (I7 60 9).toInt ∧ (I7 60 9).toInt ≤ 60; exact lp5J.1), (by show 0 ≤ (I7 60 12).toInt ∧ (I7 60 12).toInt ≤ 12; exact lp5J.2)⟩ ⟨(by show 0 ≤ (I7 1 5).toInt ∧ (I7 1 5).toInt ≤ 30; exact lp5H.1), (by show 0 ≤ (I7 1 11).toInt ∧ (I7 1 11).toInt ≤ 200; exact lp5H.2)⟩ ⟨by rw [(show x27.toNatClampNeg = y6.toNatClampNeg + 1 from z_cln (by omega) (by omega))]; exact (by first | exact zq_B_n lp5G.1 (by omega) | (exfalso; omega)), by omega⟩ lp5fr hW hS (lv_sub hl [0, 1, 2, 3, 4] rfl)
          · have g28 := z_f_eq rfl rfl c23
            have b29 := Int32.toInt_lt x20
            have b30 := Int32.toInt_lt a2
            refine lv_aload_n hx hb dX3_gather_49 rfl (lv_at hl 1 rfl) ?_
            refine z_get (T := TX3) (N := 17) (ci := 3) (i := 60) (v := .ref (ad 66)) hx hb hts zj_X3_gather_X3 hown hK hW rfl rfl 5 (by decide) (hts (.fieldLink RX3 27 "PetrolBoard$Journeys" "way" "[I") (me_s (me_l (me_l (List.mem_of_getElem? (i := 4) rfl))))) (fun _ h => h) rfl dX3_gather_50 ?_
            refine lv_iload hx hb dX3_gather_53 (lv_at hl 0 rfl) ?_
            refine z_iald (i := 66) hx hb hK hW rfl (z_ix rfl (by omega) (by omega)) dX3_gather_55 ?_
            refine lv_topi (fun x31 ex31 => ?_)
            have hv32 : x31 = I 66 y6.toNatClampNeg := by rw [ex31, lp5fr 66 _ (z_wr_c (by decide))]
            have h33 : zq_xW I y6.toNatClampNeg = x31.toInt := by unfold zq_xW; rw [hv32]
            refine lv_iload_n hx hb dX3_gather_56 rfl (lv_at hl 4 rfl) ?_
            refine lv_icmp_ne (tgt := 150) hx hb dX3_gather_57 (by decide) (fun c34 => ?_) (fun c34 => ?_)
            · have g35 := z_f_ne rfl rfl c34
              have b36 := Int32.toInt_lt x31
              have b37 := Int32.toInt_lt a3
              obtain ⟨x38, ex38⟩ : ∃ y : Int32, y = y6 + 1 := ⟨_, rfl⟩
              have tx38 : x38.toInt = y6.toInt + 1 := z_tadd ex38 rfl z_l1 (by omega) (by omega)
              refine lv_iinc (v := x38) (lv' := [(4, .int x38), (0, .ref (ad 60)), (1, .ref (ad 1)), (2, .int a2), (3, .int a3)]) hx hb dX3_gather_150 hl (k := 0) rfl (by rw [ex38]; rfl) (by decide) rfl (fun ls hl => ?_)
              refine lv_goto (tgt := 13) hx hb dX3_gather_153 (by decide) ?_
              exact lp5ih x38 I7  _ _ _ (by omega) (by omega) ⟨(by show 0 ≤ (I7 60 9).toInt ∧ (I7 60 9).toInt ≤ 60; exact lp5J.1), (by show 0 ≤ (I7 60 12).toInt ∧ (I7 60 12).toInt ≤ 12; exact lp5J.2)⟩ ⟨(by show 0 ≤ (I7 1 5).toInt ∧ (I7 1 5).toInt ≤ 30; exact lp5H.1), (by show 0 ≤ (I7 1 11).toInt ∧ (I7 1 11).toInt ≤ 200; exact lp5H.2)⟩ ⟨by rw [(show x38.toNatClampNeg = y6.toNatClampNeg + 1 from z_cln (by omega) (by omega))]; exact (by first | exact zq_B_n lp5G.1 (by omega) | (exfalso; omega)), by omega⟩ lp5fr hW hS (lv_sub hl [0, 1, 2, 3, 4] rfl)
            · have g39 := z_f_eq rfl rfl c34
              have b40 := Int32.toInt_lt x31
              have b41 := Int32.toInt_lt a3
              refine lv_aload_n hx hb dX3_gather_60 rfl (lv_at hl 2 rfl) ?_
              refine lv_aload_n hx hb dX3_gather_61 rfl (lv_at hl 1 rfl) ?_
              refine z_get (T := TX3) (N := 17) (ci := 3) (i := 60) (v := .ref (ad 61)) hx hb hts zj_X3_gather_X3 hown hK hW rfl rfl 0 (by decide) (hts (.fieldLink RX3 9 "PetrolBoard$Journeys" "holder" "[I") (me_s (me_l (me_l (List.mem_of_getElem? (i := 5) rfl))))) (fun _ h => h) rfl dX3_gather_62 ?_
              refine lv_iload hx hb dX3_gather_65 (lv_at hl 0 rfl) ?_
              refine z_iald (i := 61) hx hb hK hW rfl (z_ix rfl (by omega) (by omega)) dX3_gather_67 ?_
              refine lv_topi (fun x42 ex42 => ?_)
              have hv43 : x42 = I 61 y6.toNatClampNeg := by rw [ex42, lp5fr 61 _ (z_wr_c (by decide))]
              have hw9 := hJw y6.toNatClampNeg (by have := z_clt (x := y6) rfl (by omega); omega)
              rw [← hv43] at hw9
              have hn9 : (I7 1 5).toInt = (I 1 5).toInt := by rw [lp5fr 1 5 (by decide)]
              refine z_ci hW hS hA (va_runV (As := [.int x42]) (rest := []) ⟨hx, hb, hml, hown, hts⟩ (sx_X2_has_e l G ad c I7 ⟨(by show 0 ≤ (I7 1 5).toInt ∧ (I7 1 5).toInt ≤ 30; exact lp5H.1), (by show 0 ≤ (I7 1 11).toInt ∧ (I7 1 11).toInt ≤ 200; exact lp5H.2)⟩ x42 _) (cwV 1 hts gX3_gather_X2_has rfl rfl rfl (by decide +kernel) ⟨Nat.le_of_ble_eq_true rfl, Nat.le_of_ble_eq_true rfl⟩) (z_preV (i := 1) hK hW rfl rfl) rfl rfl hl.1 rfl (lv_room (Nat.le_of_ble_eq_true rfl)) dX3_gather_68 ⟨Nat.le_of_ble_eq_true rfl, Nat.le_of_ble_eq_true rfl⟩) (fun r u1 H locs hp hW hS => ?_)
              obtain ⟨e9, hp⟩ := hp
              rw [e9] at hW
              rcases hp with ⟨rfl, h44⟩ | ⟨rfl, h44⟩
              · have h45 := h44
                have r46 : 0 ≤ (I7 1 5).toInt ∧ (I7 1 5).toInt ≤ 30 := lp5H.1
                refine lv_if_eq (tgt := 150) hx hb dX3_gather_71 (by decide) (fun c47 => absurd c47 (by decide)) (fun c47 => ?_)
                refine lv_aload_n hx hb dX3_gather_74 rfl (lv_at hl 1 rfl) ?_
                refine z_get (T := TX3) (N := 17) (ci := 3) (i := 60) (v := .ref (ad 70)) hx hb hts zj_X3_gather_X3 hown hK hW rfl rfl 10 (by decide) (hts (.fieldLink RX3 39 "PetrolBoard$Journeys" "pooledSeats" "[I") (me_s (me_l (me_l (List.mem_of_getElem? (i := 6) rfl))))) (fun _ h => h) rfl dX3_gather_75 ?_
                refine lv_aload_n hx hb dX3_gather_78 rfl (lv_at hl 1 rfl) ?_
                refine z_get (T := TX3) (N := 17) (ci := 3) (i := 60) (v := .int (I7 60 12)) hx hb hts zj_X3_gather_X3 hown hK hW rfl rfl 12 (by decide) (hts (.fieldLink RX3 76 "PetrolBoard$Journeys" "pooled" "I") (me_s (me_l (me_l (List.mem_of_getElem? (i := 0) rfl))))) (fun _ h => h) rfl dX3_gather_79 ?_
                refine lv_aload_n hx hb dX3_gather_82 rfl (lv_at hl 2 rfl) ?_
                refine z_get (T := TX2) (N := 12) (ci := 2) (i := 1) (v := .ref (ad 4)) hx hb hts zj_X3_gather_X2 hown hK hW rfl rfl 2 (by decide) (hts (.fieldLink RX3 91 "PetrolBoard$Holders" "seats" "[I") (me_s (me_l (me_l (List.mem_of_getElem? (i := 7) rfl))))) (fun _ h => h) rfl dX3_gather_83 ?_
                refine lv_aload_n hx hb dX3_gather_86 rfl (lv_at hl 1 rfl) ?_
                refine z_get (T := TX3) (N := 17) (ci := 3) (i := 60) (v := .ref (ad 61)) hx hb hts zj_X3_gather_X3 hown hK hW rfl rfl 0 (by decide) (hts (.fieldLink RX3 9 "PetrolBoard$Journeys" "holder" "[I") (me_s (me_l (me_l (List.mem_of_getElem? (i := 5) rfl))))) (fun _ h => h) rfl dX3_gather_87 ?_
                refine lv_iload hx hb dX3_gather_90 (lv_at hl 0 rfl) ?_
                refine z_iald (i := 61) hx hb hK hW rfl (z_ix rfl (by omega) (by omega)) dX3_gather_92 ?_
                refine z_topi (v := x42) ex42.symm ?_
                refine z_iald (i := 4) hx hb hK hW rfl (z_ix rfl (by omega) (by omega)) dX3_gather_93 ?_
                refine lv_topi (fun x48 ex48 => ?_)
                have hv49 : x48 = I 4 x42.toNatClampNeg := by rw [ex48, lp5fr 4 _ (z_wr_c (by decide))]
                refine z_iast (i := 70) hx hb hK hW hS rfl (z_ix rfl (by omega) (by omega)) dX3_gather_94 (fun H locs hz1 hW hS => ?_)
                obtain ⟨I50, eI50⟩ : ∃ K : z_I, K = z_up I7 70 (I7 60 12).toNatClampNeg x48 := ⟨_, rfl⟩
                rw [← eI50] at hW
                have f51 := z_fr_a lp5fr (show z_wa L_X3_gather_x 70 = true by decide) eI50
                refine lv_aload_n hx hb dX3_gather_95 rfl (lv_at hl 1 rfl) ?_
                refine z_get (T := TX3) (N := 17) (ci := 3) (i := 60) (v := .ref (ad 71)) hx hb hts zj_X3_gather_X3 hown hK hW rfl rfl 11 (by decide) (hts (.fieldLink RX3 42 "PetrolBoard$Journeys" "pooledCost" "[I") (me_s (me_l (me_l (List.mem_of_getElem? (i := 8) rfl))))) (fun _ h => h) rfl dX3_gather_96 ?_
                refine lv_aload_n hx hb dX3_gather_99 rfl (lv_at hl 1 rfl) ?_
                refine z_get (T := TX3) (N := 17) (ci := 3) (i := 60) (v := .int (I7 60 12)) hx hb hts zj_X3_gather_X3 hown hK hW rfl rfl 12 (by decide) (hts (.fieldLink RX3 76 "PetrolBoard$Journeys" "pooled" "I") (me_s (me_l (me_l (List.mem_of_getElem? (i := 0) rfl))))) (fun _ h => h) (congrArg Value.int (by rw [eI50, z_up_n (by decide)])) dX3_gather_100 ?_
                refine lv_aload_n hx hb dX3_gather_103 rfl (lv_at hl 1 rfl) ?_
                refine z_get (T := TX3) (N := 17) (ci := 3) (i := 60) (v := .ref (ad 62)) hx hb hts zj_X3_gather_X3 hown hK hW rfl rfl 1 (by decide) (hts (.fieldLink RX3 15 "PetrolBoard$Journeys" "miles" "[I") (me_s (me_l (me_l (List.mem_of_getElem? (i := 9) rfl))))) (fun _ h => h) rfl dX3_gather_104 ?_
                refine lv_iload hx hb dX3_gather_107 (lv_at hl 0 rfl) ?_
                refine z_iald (i := 62) hx hb hK hW rfl (z_ix rfl (by omega) (by omega)) dX3_gather_109 ?_
                refine lv_topi (fun x52 ex52 => ?_)
                have hv53 : x52 = I 62 y6.toNatClampNeg := by rw [ex52, f51 62 _ (z_wr_c (by decide))]
                refine lv_aload_n hx hb dX3_gather_110 rfl (lv_at hl 2 rfl) ?_
                refine z_get (T := TX2) (N := 12) (ci := 2) (i := 1) (v := .ref (ad 2)) hx hb hts zj_X3_gather_X2 hown hK hW rfl rfl 0 (by decide) (hts (.fieldLink RX3 94 "PetrolBoard$Holders" "size" "[I") (me_s (me_l (me_l (List.mem_of_getElem? (i := 10) rfl))))) (fun _ h => h) rfl dX3_gather_111 ?_
                refine lv_aload_n hx hb dX3_gather_114 rfl (lv_at hl 1 rfl) ?_
                refine z_get (T := TX3) (N := 17) (ci := 3) (i := 60) (v := .ref (ad 61)) hx hb hts zj_X3_gather_X3 hown hK hW rfl rfl 0 (by decide) (hts (.fieldLink RX3 9 "PetrolBoard$Journeys" "holder" "[I") (me_s (me_l (me_l (List.mem_of_getElem? (i := 5) rfl))))) (fun _ h => h) rfl dX3_gather_115 ?_
                refine lv_iload hx hb dX3_gather_118 (lv_at hl 0 rfl) ?_
                refine z_iald (i := 61) hx hb hK hW rfl (z_ix rfl (by omega) (by omega)) dX3_gather_120 ?_
                refine z_topi (v := x42) (by rw [eI50, z_up_n (by decide)]; exact ex42.symm) ?_
                refine z_iald (i := 2) hx hb hK hW rfl (z_ix rfl (by omega) (by omega)) dX3_gather_121 ?_
                refine lv_topi (fun x54 ex54 => ?_)
                have hv55 : x54 = I 2 x42.toNatClampNeg := by rw [ex54, f51 2 _ (z_wr_c (by decide))]
                refine lv_imul hx hb dX3_gather_122 ?_
                refine lv_topi (fun x56 ex56 => ?_)
                refine z_iast (i := 71) hx hb hK hW hS rfl (z_ix rfl (by omega) (by omega)) dX3_gather_123 (fun H locs hz1 hW hS => ?_)
                obtain ⟨I57, eI57⟩ : ∃ K : z_I, K = z_up I50 71 (I7 60 12).toNatClampNeg x56 := ⟨_, rfl⟩
                rw [← eI57] at hW
                have f58 := z_fr_a f51 (show z_wa L_X3_gather_x 71 = true by decide) eI57
                refine lv_aload_n hx hb dX3_gather_124 rfl (lv_at hl 1 rfl) ?_
                refine lv_dup hx hb dX3_gather_125 rfl ?_
                refine z_get (T := TX3) (N := 17) (ci := 3) (i := 60) (v := .int (I7 60 13)) hx hb hts zj_X3_gather_X3 hown hK hW rfl rfl 13 (by decide) (hts (.fieldLink RX3 87 "PetrolBoard$Journeys" "poolPeople" "I") (me_s (me_l (me_l (List.mem_of_getElem? (i := 1) rfl))))) (fun _ h => h) (congrArg Value.int (by rw [eI57, z_up_n (by decide), eI50, z_up_n (by decide)])) dX3_gather_126 ?_
                refine lv_aload_n hx hb dX3_gather_129 rfl (lv_at hl 1 rfl) ?_
                refine z_get (T := TX3) (N := 17) (ci := 3) (i := 60) (v := .ref (ad 63)) hx hb hts zj_X3_gather_X3 hown hK hW rfl rfl 2 (by decide) (hts (.fieldLink RX3 18 "PetrolBoard$Journeys" "people" "[I") (me_s (me_l (me_l (List.mem_of_getElem? (i := 11) rfl))))) (fun _ h => h) rfl dX3_gather_130 ?_
                refine lv_iload hx hb dX3_gather_133 (lv_at hl 0 rfl) ?_
                refine z_iald (i := 63) hx hb hK hW rfl (z_ix rfl (by omega) (by omega)) dX3_gather_135 ?_
                refine lv_topi (fun x59 ex59 => ?_)
                have hv60 : x59 = I 63 y6.toNatClampNeg := by rw [ex59, f58 63 _ (z_wr_c (by decide))]
                refine lv_iadd hx hb dX3_gather_136 ?_
                refine lv_topi (fun x61 ex61 => ?_)
                refine z_put (T := TX3) (N := 17) (ci := 3) (i := 60) (v := .int x61) (I1 := z_up I57 60 13 x61) (J1 := JX) (P1 := PC c ad) hx hb hts zj_X3_gather_X3 tyX3 tyX3_ok nmX3 hown hK hW hS rfl rfl 13 (by decide) (hts (.fieldLink RX3 87 "PetrolBoard$Journeys" "poolPeople" "I") (me_s (me_l (me_l (List.mem_of_getElem? (i := 1) rfl))))) (fun _ h => h) rfl rfl rfl (by first | rfl | exact congrArg _ z_up_s) (fun a b h ty => z_vI h ty) dX3_gather_137 (fun H locs hz1 hW hS => ?_)
                obtain ⟨I62, eI62⟩ : ∃ K : z_I, K = z_up I57 60 13 x61 := ⟨_, rfl⟩
                rw [← eI62] at hW
                have f63 := z_fr_k f58 (show z_wr L_X3_gather_x 60 13 = true by decide) eI62
                refine lv_aload_n hx hb dX3_gather_140 rfl (lv_at hl 1 rfl) ?_
                refine lv_dup hx hb dX3_gather_141 rfl ?_
                refine z_get (T := TX3) (N := 17) (ci := 3) (i := 60) (v := .int (I7 60 12)) hx hb hts zj_X3_gather_X3 hown hK hW rfl rfl 12 (by decide) (hts (.fieldLink RX3 76 "PetrolBoard$Journeys" "pooled" "I") (me_s (me_l (me_l (List.mem_of_getElem? (i := 0) rfl))))) (fun _ h => h) (congrArg Value.int (by rw [eI62, z_up_k (by decide), eI57, z_up_n (by decide), eI50, z_up_n (by decide)])) dX3_gather_142 ?_
                refine lv_iconst (v := 1) hx hb dX3_gather_145 (by decide) ?_
                refine lv_iadd hx hb dX3_gather_146 ?_
                refine lv_topi (fun x64 ex64 => ?_)
                have tx64 : x64.toInt = (I7 60 12).toInt + 1 := z_tadd ex64 rfl z_l1 (by omega) (by omega)
                refine z_put (T := TX3) (N := 17) (ci := 3) (i := 60) (v := .int x64) (I1 := z_up I62 60 12 x64) (J1 := JX) (P1 := PC c ad) hx hb hts zj_X3_gather_X3 tyX3 tyX3_ok nmX3 hown hK hW hS rfl rfl 12 (by decide) (hts (.fieldLink RX3 76 "PetrolBoard$Journeys" "pooled" "I") (me_s (me_l (me_l (List.mem_of_getElem? (i := 0) rfl))))) (fun _ h => h) rfl rfl rfl (by first | rfl | exact congrArg _ z_up_s) (fun a b h ty => z_vI h ty) dX3_gather_147 (fun H locs hz1 hW hS => ?_)
                obtain ⟨I65, eI65⟩ : ∃ K : z_I, K = z_up I62 60 12 x64 := ⟨_, rfl⟩
                rw [← eI65] at hW
                have f66 := z_fr_k f63 (show z_wr L_X3_gather_x 60 12 = true by decide) eI65
                obtain ⟨x67, ex67⟩ : ∃ y : Int32, y = y6 + 1 := ⟨_, rfl⟩
                have tx67 : x67.toInt = y6.toInt + 1 := z_tadd ex67 rfl z_l1 (by omega) (by omega)
                refine lv_iinc (v := x67) (lv' := [(4, .int x67), (0, .ref (ad 60)), (1, .ref (ad 1)), (2, .int a2), (3, .int a3)]) hx hb dX3_gather_150 hl (k := 0) rfl (by rw [ex67]; rfl) (by decide) rfl (fun ls hl => ?_)
                refine lv_goto (tgt := 13) hx hb dX3_gather_153 (by decide) ?_
                exact lp5ih x67 I65  _ _ _ (by omega) (by omega) ⟨(by show 0 ≤ (I65 60 9).toInt ∧ (I65 60 9).toInt ≤ 60; rw [eI65, z_up_k (by decide), eI62, z_up_k (by decide), eI57, z_up_n (by decide), eI50, z_up_n (by decide)]; exact lp5J.1), (by show 0 ≤ (I65 60 12).toInt ∧ (I65 60 12).toInt ≤ 12; rw [eI65, z_up_s]; omega)⟩ ⟨(by show 0 ≤ (I65 1 5).toInt ∧ (I65 1 5).toInt ≤ 30; rw [eI65, z_up_n (by decide), eI62, z_up_n (by decide), eI57, z_up_n (by decide), eI50, z_up_n (by decide)]; exact lp5H.1), (by show 0 ≤ (I65 1 11).toInt ∧ (I65 1 11).toInt ≤ 200; rw [eI65, z_up_n (by decide), eI62, z_up_n (by decide), eI57, z_up_n (by decide), eI50, z_up_n (by decide)]; exact lp5H.2)⟩ ⟨by rw [(show x67.toNatClampNeg = y6.toNatClampNeg + 1 from z_cln (by omega) (by omega))]; exact zq_B_y lp5G.1 (by omega) (by omega) eI50 eI57 eI62 eI65 rfl rfl (by unfold zq_xS; rw [hv49, hv43]) (by unfold zq_xC; rw [ex56, hv53, hv55, hv43]) (by unfold zq_xP; rw [ex61, hv60]) (by omega), by omega⟩ f66 hW hS (lv_sub hl [0, 1, 2, 3, 4] rfl)
              · have h68 := h44
                have r69 : 0 ≤ (I7 1 5).toInt ∧ (I7 1 5).toInt ≤ 30 := lp5H.1
                refine lv_if_eq (tgt := 150) hx hb dX3_gather_71 (by decide) (fun c70 => ?_) (fun c70 => absurd (by decide) c70)
                obtain ⟨x71, ex71⟩ : ∃ y : Int32, y = y6 + 1 := ⟨_, rfl⟩
                have tx71 : x71.toInt = y6.toInt + 1 := z_tadd ex71 rfl z_l1 (by omega) (by omega)
                refine lv_iinc (v := x71) (lv' := [(4, .int x71), (0, .ref (ad 60)), (1, .ref (ad 1)), (2, .int a2), (3, .int a3)]) hx hb dX3_gather_150 hl (k := 0) rfl (by rw [ex71]; rfl) (by decide) rfl (fun ls hl => ?_)
                refine lv_goto (tgt := 13) hx hb dX3_gather_153 (by decide) ?_
                exact lp5ih x71 I7  _ _ _ (by omega) (by omega) ⟨(by show 0 ≤ (I7 60 9).toInt ∧ (I7 60 9).toInt ≤ 60; exact lp5J.1), (by show 0 ≤ (I7 60 12).toInt ∧ (I7 60 12).toInt ≤ 12; exact lp5J.2)⟩ ⟨(by show 0 ≤ (I7 1 5).toInt ∧ (I7 1 5).toInt ≤ 30; exact lp5H.1), (by show 0 ≤ (I7 1 11).toInt ∧ (I7 1 11).toInt ≤ 200; exact lp5H.2)⟩ ⟨by rw [(show x71.toNatClampNeg = y6.toNatClampNeg + 1 from z_cln (by omega) (by omega))]; exact (by first | exact zq_B_n lp5G.1 (by omega) | (exfalso; omega)), by omega⟩ lp5fr hW hS (lv_sub hl [0, 1, 2, 3, 4] rfl)
  exact lp5 4294967296 (0) I3  _ _ _ (z_m0u _) (by rw [z_l0]; omega) ⟨(by show 0 ≤ (I3 60 9).toInt ∧ (I3 60 9).toInt ≤ 60; rw [eI3, z_up_k (by decide), eI1, z_up_k (by decide)]; exact hJ.1), (by show 0 ≤ (I3 60 12).toInt ∧ (I3 60 12).toInt ≤ 12; rw [eI3, z_up_k (by decide), eI1, z_up_s]; decide)⟩ ⟨(by show 0 ≤ (I3 1 5).toInt ∧ (I3 1 5).toInt ≤ 30; rw [eI3, z_up_n (by decide), eI1, z_up_n (by decide)]; exact hH.1), (by show 0 ≤ (I3 1 11).toInt ∧ (I3 1 11).toInt ≤ 200; rw [eI3, z_up_n (by decide), eI1, z_up_n (by decide)]; exact hH.2)⟩ ⟨zq_B_0 (by rw [eI3, z_up_k (by decide), eI1, z_up_s]) (by rw [eI3, z_up_s]) rfl rfl, by omega⟩ f4 hW hS (lv_sub hl [0, 1, 2, 3, 4] rfl)
noncomputable def L_X3_weigh_x : z_L := [(60, 16), (60, 14), (60, 15)]
set_option maxHeartbeats 8000000 in
set_option maxRecDepth 100000 in
theorem sx_X3_weigh_x (l : Launch) (G : z_G) (ad : Nat → Nat) (c : z_C) (I : z_I) (hJ : z_iJ I) (a1 : Int32) : z_Mv l yX3_weigh wsX3_weigh { frames := 2, cells := 0, slots := 0, locals := 32 } [.ref (ad 60), .int a1] G (shC c, ad, I, JX, PC c ad) (fun u1 => ∃ I1 : z_I, u1 = (shC c, ad, I1, JX, PC c ad) ∧ z_iJ I1 ∧ z_fr L_X3_weigh_x I1 I ∧ ((zq_g I (zq_sum (fun k => I 71 k) a1 (I 60 12).toNatClampNeg) (zq_sum (fun k => I 70 k) a1 (I 60 12).toNatClampNeg) a1 ∧ I1 60 16 = a1 ∧ I1 60 14 = zq_pc a1 ∧ I1 60 15 = zq_sum (fun k => I 71 k) a1 (I 60 12).toNatClampNeg) ∨ (¬ zq_g I (zq_sum (fun k => I 71 k) a1 (I 60 12).toNatClampNeg) (zq_sum (fun k => I 70 k) a1 (I 60 12).toNatClampNeg) a1 ∧ I1 60 16 = I 60 16 ∧ I1 60 14 = I 60 14 ∧ I1 60 15 = I 60 15))) 0 0 := by
  intro sz
  refine z_headQ (cc := cX3_weigh) (maxL := 6) (ret := none) (by decide) rfl (Nat.le_of_ble_eq_true rfl) ?_
  intro p e s m below meth c0 ls hIn hK hsz hW hl
  obtain ⟨hx, hb, hr, hml, hown, hts, hlocks, hname⟩ := hIn
  subst hsz
  have hown : s.vm.findClass RX3 = some m.cls := hown
  have hA : ∀ q : Nat, s.heap.size ≤ q → z_A (shC c, ad, I, JX, PC c ad) s.heap.size q := fun q h => Or.inr h
  generalize hAe : z_A (shC c, ad, I, JX, PC c ad) s.heap.size = A at *
  have hS : va_S A s.heap s.heap [] := va_S.rf
  have hl : lv_has ls 6 [(0, .ref (ad 60)), (1, .int a1)] := hl
  refine lv_iconst (v := 0) hx hb dX3_weigh_0 (by decide) ?_
  refine lv_istore_n (lv' := [(2, .int 0), (0, .ref (ad 60)), (1, .int a1)]) hx hb dX3_weigh_1 rfl hl (by decide) rfl (fun ls hl => ?_)
  refine lv_iconst (v := 0) hx hb dX3_weigh_2 (by decide) ?_
  refine lv_istore_n (lv' := [(3, .int 0), (2, .int 0), (0, .ref (ad 60)), (1, .int a1)]) hx hb dX3_weigh_3 rfl hl (by decide) rfl (fun ls hl => ?_)
  refine lv_iconst (v := 0) hx hb dX3_weigh_4 (by decide) ?_
  refine lv_istore (lv' := [(4, .int 0), (3, .int 0), (2, .int 0), (0, .ref (ad 60)), (1, .int a1)]) hx hb dX3_weigh_5 hl (by decide) rfl (fun ls hl => ?_)
  have lp1 : ∀ (f : Nat) (y2 : Int32) (y3 : Int32) (y4 : Int32) (H : Heap) (locs : List Loc) (ls : Array Slot), (2147483647 < y2.toInt + (f : Int)) → (0 ≤ y2.toInt) → (y4 = zq_sum (fun k => I 70 k) a1 y2.toNatClampNeg ∧ y3 = zq_sum (fun k => I 71 k) a1 y2.toNatClampNeg ∧ y2.toInt ≤ (I 60 12).toInt) → z_W G A (shC c, ad, I, JX, PC c ad) H → va_S A s.heap H locs → lv_has ls 6 [(4, .int y2), (3, .int y3), (2, .int y4), (0, .ref (ad 60)), (1, .int a1)] → W p l e (headSpec wsX3_weigh { frames := 2, cells := 0, slots := 0, locals := 32 }).room s m ([.ref (ad 60), .int a1] : List Value).toArray below meth c0 H locs 0 0 (MQ below (va_Qv (fun (u1 : z_U) => ∃ I1 : z_I, u1 = (shC c, ad, I1, JX, PC c ad) ∧ z_iJ I1 ∧ z_fr L_X3_weigh_x I1 I ∧ ((zq_g I (zq_sum (fun k => I 71 k) a1 (I 60 12).toNatClampNeg) (zq_sum (fun k => I 70 k) a1 (I 60 12).toNatClampNeg) a1 ∧ I1 60 16 = a1 ∧ I1 60 14 = zq_pc a1 ∧ I1 60 15 = zq_sum (fun k => I 71 k) a1 (I 60 12).toNatClampNeg) ∨ (¬ zq_g I (zq_sum (fun k => I 71 k) a1 (I 60 12).toNatClampNeg) (zq_sum (fun k => I 70 k) a1 (I 60 12).toNatClampNeg) a1 ∧ I1 60 16 = I 60 16 ∧ I1 60 14 = I 60 14 ∧ I1 60 15 = I 60 15))) (z_B G A) A) ([.ref (ad 60), .int a1] : List Value).toArray s 0 0 A) (F0 m 7 ls []) := by
    intro f
    induction f with
    | zero => intro y2 y3 y4 H locs ls lp1m lp1l4 lp1W hW hS hl; exact absurd lp1m (by have := Int32.toInt_lt y2; have := Int32.le_toInt y2; omega)
    | succ f lp1ih =>
      intro y2 y3 y4 H locs ls lp1m lp1l4 lp1W hW hS hl
      refine lv_iload hx hb dX3_weigh_7 (lv_at hl 0 rfl) ?_
      refine lv_aload_n hx hb dX3_weigh_9 rfl (lv_at hl 3 rfl) ?_
      have r5 : 0 ≤ (I 60 12).toInt ∧ (I 60 12).toInt ≤ 12 := hJ.2
      refine z_get (T := TX3) (N := 17) (ci := 3) (i := 60) (v := .int (I 60 12)) hx hb hts zj_X3_weigh_X3 hown hK hW rfl rfl 12 (by decide) (hts (.fieldLink RX3 76 "PetrolBoard$Journeys" "pooled" "I") (me_s (me_l (List.mem_of_getElem? (i := 0) rfl)))) (fun _ h => h) rfl dX3_weigh_10 ?_
      refine lv_icmp_ge (tgt := 59) hx hb dX3_weigh_13 (by decide) (fun c6 => ?_) (fun c6 => ?_)
      · have g7 := z_f_ge rfl rfl c6
        have b8 := Int32.toInt_lt y2
        refine lv_iload_n hx hb dX3_weigh_59 rfl (lv_at hl 4 rfl) ?_
        refine z_ci hW hS hA (va_runS (As := [.int a1]) (rest := []) ⟨hx, hb, hml, hown, hts⟩ (sx_J6_bitCount_x l G ad c I  a1 _) (va_cwS 1 hts gX3_weigh_J6_bitCount_0f7a4 rfl rfl rfl (by decide +kernel) ⟨Nat.le_of_ble_eq_true rfl, Nat.le_of_ble_eq_true rfl⟩) (z_preS hK hW) rfl rfl hl.1 rfl (lv_room (Nat.le_of_ble_eq_true rfl)) dX3_weigh_60 ⟨Nat.le_of_ble_eq_true rfl, Nat.le_of_ble_eq_true rfl⟩) (fun r u1 H locs hp hW hS => ?_)
        obtain ⟨e9, hp⟩ := hp
        rw [e9] at hW
        refine lv_topi (fun x9 ex9 => ?_)
        rw [← ex9] at hp
        have hv10 := hp
        refine lv_istore (lv' := [(4, .int x9), (3, .int y3), (2, .int y4), (0, .ref (ad 60)), (1, .int a1)]) hx hb dX3_weigh_63 hl (by decide) rfl (fun ls hl => ?_)
        refine lv_aload_n hx hb dX3_weigh_65 rfl (lv_at hl 3 rfl) ?_
        refine z_get (T := TX3) (N := 17) (ci := 3) (i := 60) (v := .int (I 60 16)) hx hb hts zj_X3_weigh_X3 hown hK hW rfl rfl 16 (by decide) (hts (.fieldLink RX3 73 "PetrolBoard$Journeys" "poolSet" "I") (me_s (me_l (List.mem_of_getElem? (i := 3) rfl)))) (fun _ h => h) rfl dX3_weigh_66 ?_
        refine lv_if_eq (tgt := 98) hx hb dX3_weigh_69 (by decide) (fun c11 => ?_) (fun c11 => ?_)
        · have g12 := z_f_eq rfl z_l0 c11
          have b13 := Int32.toInt_lt (I 60 16)
          refine lv_iconst (v := 1) hx hb dX3_weigh_98 (by decide) ?_
          refine lv_goto (tgt := 103) hx hb dX3_weigh_99 (by decide) ?_
          refine lv_istore (lv' := [(5, .int 1), (4, .int x9), (3, .int y3), (2, .int y4), (0, .ref (ad 60)), (1, .int a1)]) hx hb dX3_weigh_103 hl (by decide) rfl (fun ls hl => ?_)
          refine lv_iload_n hx hb dX3_weigh_105 rfl (lv_at hl 3 rfl) ?_
          refine lv_aload_n hx hb dX3_weigh_106 rfl (lv_at hl 4 rfl) ?_
          refine z_get (T := TX3) (N := 17) (ci := 3) (i := 60) (v := .int (I 60 13)) hx hb hts zj_X3_weigh_X3 hown hK hW rfl rfl 13 (by decide) (hts (.fieldLink RX3 87 "PetrolBoard$Journeys" "poolPeople" "I") (me_s (me_l (List.mem_of_getElem? (i := 6) rfl)))) (fun _ h => h) rfl dX3_weigh_107 ?_
          refine lv_icmp_lt (tgt := 134) hx hb dX3_weigh_110 (by decide) (fun c14 => ?_) (fun c14 => ?_)
          · have g15 := z_f_lt rfl rfl c14
            have b16 := Int32.toInt_lt y4
            have b17 := Int32.toInt_lt (I 60 13)
            exact z_vret hx hb hr hK hS (Nat.le_of_ble_eq_true rfl) (Nat.le_of_ble_eq_true rfl) hlocks dX3_weigh_134 (shC c, ad, I, JX, PC c ad) hW ⟨I, rfl, ⟨(by show 0 ≤ (I 60 9).toInt ∧ (I 60 9).toInt ≤ 60; exact hJ.1), (by show 0 ≤ (I 60 12).toInt ∧ (I 60 12).toInt ≤ 12; exact hJ.2)⟩, z_fr_0, (by have e4 : y2.toNatClampNeg = (I 60 12).toNatClampNeg := (by have q1 := z_clt (x := y2) rfl (by omega); have q2 := z_clt (x := I 60 12) rfl (by omega); omega); have w1 := lp1W.1; have w2 := lp1W.2.1; rw [e4] at w1 w2; exact Or.inr ⟨fun q => absurd q (by unfold zq_g; rw [← w1, ← w2, ← hv10]; omega), rfl, rfl, rfl⟩)⟩
          · have g18 := z_f_nlt rfl rfl c14
            have b19 := Int32.toInt_lt y4
            have b20 := Int32.toInt_lt (I 60 13)
            refine lv_iload hx hb dX3_weigh_113 (lv_at hl 0 rfl) ?_
            refine lv_if_eq (tgt := 134) hx hb dX3_weigh_115 (by decide) (fun c21 => absurd c21 (by decide)) (fun c21 => ?_)
            refine lv_aload_n hx hb dX3_weigh_118 rfl (lv_at hl 4 rfl) ?_
            refine lv_iload_n hx hb dX3_weigh_119 rfl (lv_at hl 5 rfl) ?_
            refine z_put (T := TX3) (N := 17) (ci := 3) (i := 60) (v := .int a1) (I1 := z_up I 60 16 a1) (J1 := JX) (P1 := PC c ad) hx hb hts zj_X3_weigh_X3 tyX3 tyX3_ok nmX3 hown hK hW hS rfl rfl 16 (by decide) (hts (.fieldLink RX3 73 "PetrolBoard$Journeys" "poolSet" "I") (me_s (me_l (List.mem_of_getElem? (i := 3) rfl)))) (fun _ h => h) rfl rfl rfl (by first | rfl | exact congrArg _ z_up_s) (fun a b h ty => z_vI h ty) dX3_weigh_120 (fun H locs hz1 hW hS => ?_)
            obtain ⟨I22, eI22⟩ : ∃ K : z_I, K = z_up I 60 16 a1 := ⟨_, rfl⟩
            rw [← eI22] at hW
            have f23 := z_fr_k z_fr_0 (show z_wr L_X3_weigh_x 60 16 = true by decide) eI22
            refine lv_aload_n hx hb dX3_weigh_123 rfl (lv_at hl 4 rfl) ?_
            refine lv_iload hx hb dX3_weigh_124 (lv_at hl 1 rfl) ?_
            refine z_put (T := TX3) (N := 17) (ci := 3) (i := 60) (v := .int x9) (I1 := z_up I22 60 14 x9) (J1 := JX) (P1 := PC c ad) hx hb hts zj_X3_weigh_X3 tyX3 tyX3_ok nmX3 hown hK hW hS rfl rfl 14 (by decide) (hts (.fieldLink RX3 102 "PetrolBoard$Journeys" "poolCars" "I") (me_s (me_l (List.mem_of_getElem? (i := 4) rfl)))) (fun _ h => h) rfl rfl rfl (by first | rfl | exact congrArg _ z_up_s) (fun a b h ty => z_vI h ty) dX3_weigh_126 (fun H locs hz1 hW hS => ?_)
            obtain ⟨I24, eI24⟩ : ∃ K : z_I, K = z_up I22 60 14 x9 := ⟨_, rfl⟩
            rw [← eI24] at hW
            have f25 := z_fr_k f23 (show z_wr L_X3_weigh_x 60 14 = true by decide) eI24
            refine lv_aload_n hx hb dX3_weigh_129 rfl (lv_at hl 4 rfl) ?_
            refine lv_iload_n hx hb dX3_weigh_130 rfl (lv_at hl 2 rfl) ?_
            refine z_put (T := TX3) (N := 17) (ci := 3) (i := 60) (v := .int y3) (I1 := z_up I24 60 15 y3) (J1 := JX) (P1 := PC c ad) hx hb hts zj_X3_weigh_X3 tyX3 tyX3_ok nmX3 hown hK hW hS rfl rfl 15 (by decide) (hts (.fieldLink RX3 105 "PetrolBoard$Journeys" "poolCost" "I") (me_s (me_l (List.mem_of_getElem? (i := 5) rfl)))) (fun _ h => h) rfl rfl rfl (by first | rfl | exact congrArg _ z_up_s) (fun a b h ty => z_vI h ty) dX3_weigh_131 (fun H locs hz1 hW hS => ?_)
            obtain ⟨I26, eI26⟩ : ∃ K : z_I, K = z_up I24 60 15 y3 := ⟨_, rfl⟩
            rw [← eI26] at hW
            have f27 := z_fr_k f25 (show z_wr L_X3_weigh_x 60 15 = true by decide) eI26
            exact z_vret hx hb hr hK hS (Nat.le_of_ble_eq_true rfl) (Nat.le_of_ble_eq_true rfl) hlocks dX3_weigh_134 (shC c, ad, I26, JX, PC c ad) hW ⟨I26, rfl, ⟨(by show 0 ≤ (I26 60 9).toInt ∧ (I26 60 9).toInt ≤ 60; rw [eI26, z_up_k (by decide), eI24, z_up_k (by decide), eI22, z_up_k (by decide)]; exact hJ.1), (by show 0 ≤ (I26 60 12).toInt ∧ (I26 60 12).toInt ≤ 12; rw [eI26, z_up_k (by decide), eI24, z_up_k (by decide), eI22, z_up_k (by decide)]; exact hJ.2)⟩, f27, (by have e4 : y2.toNatClampNeg = (I 60 12).toNatClampNeg := (by have q1 := z_clt (x := y2) rfl (by omega); have q2 := z_clt (x := I 60 12) rfl (by omega); omega); have w1 := lp1W.1; have w2 := lp1W.2.1; rw [e4] at w1 w2; exact Or.inl ⟨(by unfold zq_g; rw [← w1, ← w2, ← hv10]; omega), by rw [eI26, z_up_k (by decide), eI24, z_up_k (by decide), eI22, z_up_s], by rw [eI26, z_up_k (by decide), eI24, z_up_s, hv10], by rw [eI26, z_up_s, w2]⟩)⟩
        · have g28 := z_f_ne rfl z_l0 c11
          have b29 := Int32.toInt_lt (I 60 16)
          refine lv_iload hx hb dX3_weigh_72 (lv_at hl 0 rfl) ?_
          refine lv_aload_n hx hb dX3_weigh_74 rfl (lv_at hl 3 rfl) ?_
          refine z_get (T := TX3) (N := 17) (ci := 3) (i := 60) (v := .int (I 60 14)) hx hb hts zj_X3_weigh_X3 hown hK hW rfl rfl 14 (by decide) (hts (.fieldLink RX3 102 "PetrolBoard$Journeys" "poolCars" "I") (me_s (me_l (List.mem_of_getElem? (i := 4) rfl)))) (fun _ h => h) rfl dX3_weigh_75 ?_
          refine lv_icmp_lt (tgt := 98) hx hb dX3_weigh_78 (by decide) (fun c30 => ?_) (fun c30 => ?_)
          · have g31 := z_f_lt rfl rfl c30
            have b32 := Int32.toInt_lt x9
            have b33 := Int32.toInt_lt (I 60 14)
            refine lv_iconst (v := 1) hx hb dX3_weigh_98 (by decide) ?_
            refine lv_goto (tgt := 103) hx hb dX3_weigh_99 (by decide) ?_
            refine lv_istore (lv' := [(5, .int 1), (4, .int x9), (3, .int y3), (2, .int y4), (0, .ref (ad 60)), (1, .int a1)]) hx hb dX3_weigh_103 hl (by decide) rfl (fun ls hl => ?_)
            refine lv_iload_n hx hb dX3_weigh_105 rfl (lv_at hl 3 rfl) ?_
            refine lv_aload_n hx hb dX3_weigh_106 rfl (lv_at hl 4 rfl) ?_
            refine z_get (T := TX3) (N := 17) (ci := 3) (i := 60) (v := .int (I 60 13)) hx hb hts zj_X3_weigh_X3 hown hK hW rfl rfl 13 (by decide) (hts (.fieldLink RX3 87 "PetrolBoard$Journeys" "poolPeople" "I") (me_s (me_l (List.mem_of_getElem? (i := 6) rfl)))) (fun _ h => h) rfl dX3_weigh_107 ?_
            refine lv_icmp_lt (tgt := 134) hx hb dX3_weigh_110 (by decide) (fun c34 => ?_) (fun c34 => ?_)
            · have g35 := z_f_lt rfl rfl c34
              have b36 := Int32.toInt_lt y4
              have b37 := Int32.toInt_lt (I 60 13)
              exact z_vret hx hb hr hK hS (Nat.le_of_ble_eq_true rfl) (Nat.le_of_ble_eq_true rfl) hlocks dX3_weigh_134 (shC c, ad, I, JX, PC c ad) hW ⟨I, rfl, ⟨(by show 0 ≤ (I 60 9).toInt ∧ (I 60 9).toInt ≤ 60; exact hJ.1), (by show 0 ≤ (I 60 12).toInt ∧ (I 60 12).toInt ≤ 12; exact hJ.2)⟩, z_fr_0, (by have e4 : y2.toNatClampNeg = (I 60 12).toNatClampNeg := (by have q1 := z_clt (x := y2) rfl (by omega); have q2 := z_clt (x := I 60 12) rfl (by omega); omega); have w1 := lp1W.1; have w2 := lp1W.2.1; rw [e4] at w1 w2; exact Or.inr ⟨fun q => absurd q (by unfold zq_g; rw [← w1, ← w2, ← hv10]; omega), rfl, rfl, rfl⟩)⟩
            · have g38 := z_f_nlt rfl rfl c34
              have b39 := Int32.toInt_lt y4
              have b40 := Int32.toInt_lt (I 60 13)
              refine lv_iload hx hb dX3_weigh_113 (lv_at hl 0 rfl) ?_
              refine lv_if_eq (tgt := 134) hx hb dX3_weigh_115 (by decide) (fun c41 => absurd c41 (by decide)) (fun c41 => ?_)
              refine lv_aload_n hx hb dX3_weigh_118 rfl (lv_at hl 4 rfl) ?_
              refine lv_iload_n hx hb dX3_weigh_119 rfl (lv_at hl 5 rfl) ?_
              refine z_put (T := TX3) (N := 17) (ci := 3) (i := 60) (v := .int a1) (I1 := z_up I 60 16 a1) (J1 := JX) (P1 := PC c ad) hx hb hts zj_X3_weigh_X3 tyX3 tyX3_ok nmX3 hown hK hW hS rfl rfl 16 (by decide) (hts (.fieldLink RX3 73 "PetrolBoard$Journeys" "poolSet" "I") (me_s (me_l (List.mem_of_getElem? (i := 3) rfl)))) (fun _ h => h) rfl rfl rfl (by first | rfl | exact congrArg _ z_up_s) (fun a b h ty => z_vI h ty) dX3_weigh_120 (fun H locs hz1 hW hS => ?_)
              obtain ⟨I42, eI42⟩ : ∃ K : z_I, K = z_up I 60 16 a1 := ⟨_, rfl⟩
              rw [← eI42] at hW
              have f43 := z_fr_k z_fr_0 (show z_wr L_X3_weigh_x 60 16 = true by decide) eI42
              refine lv_aload_n hx hb dX3_weigh_123 rfl (lv_at hl 4 rfl) ?_
              refine lv_iload hx hb dX3_weigh_124 (lv_at hl 1 rfl) ?_
              refine z_put (T := TX3) (N := 17) (ci := 3) (i := 60) (v := .int x9) (I1 := z_up I42 60 14 x9) (J1 := JX) (P1 := PC c ad) hx hb hts zj_X3_weigh_X3 tyX3 tyX3_ok nmX3 hown hK hW hS rfl rfl 14 (by decide) (hts (.fieldLink RX3 102 "PetrolBoard$Journeys" "poolCars" "I") (me_s (me_l (List.mem_of_getElem? (i := 4) rfl)))) (fun _ h => h) rfl rfl rfl (by first | rfl | exact congrArg _ z_up_s) (fun a b h ty => z_vI h ty) dX3_weigh_126 (fun H locs hz1 hW hS => ?_)
              obtain ⟨I44, eI44⟩ : ∃ K : z_I, K = z_up I42 60 14 x9 := ⟨_, rfl⟩
              rw [← eI44] at hW
              have f45 := z_fr_k f43 (show z_wr L_X3_weigh_x 60 14 = true by decide) eI44
              refine lv_aload_n hx hb dX3_weigh_129 rfl (lv_at hl 4 rfl) ?_
              refine lv_iload_n hx hb dX3_weigh_130 rfl (lv_at hl 2 rfl) ?_
              refine z_put (T := TX3) (N := 17) (ci := 3) (i := 60) (v := .int y3) (I1 := z_up I44 60 15 y3) (J1 := JX) (P1 := PC c ad) hx hb hts zj_X3_weigh_X3 tyX3 tyX3_ok nmX3 hown hK hW hS rfl rfl 15 (by decide) (hts (.fieldLink RX3 105 "PetrolBoard$Journeys" "poolCost" "I") (me_s (me_l (List.mem_of_getElem? (i := 5) rfl)))) (fun _ h => h) rfl rfl rfl (by first | rfl | exact congrArg _ z_up_s) (fun a b h ty => z_vI h ty) dX3_weigh_131 (fun H locs hz1 hW hS => ?_)
              obtain ⟨I46, eI46⟩ : ∃ K : z_I, K = z_up I44 60 15 y3 := ⟨_, rfl⟩
              rw [← eI46] at hW
              have f47 := z_fr_k f45 (show z_wr L_X3_weigh_x 60 15 = true by decide) eI46
              exact z_vret hx hb hr hK hS (Nat.le_of_ble_eq_true rfl) (Nat.le_of_ble_eq_true rfl) hlocks dX3_weigh_134 (shC c, ad, I46, JX, PC c ad) hW ⟨I46, rfl, ⟨(by show 0 ≤ (I46 60 9).toInt ∧ (I46 60 9).toInt ≤ 60; rw [eI46, z_up_k (by decide), eI44, z_up_k (by decide), eI42, z_up_k (by decide)]; exact hJ.1), (by show 0 ≤ (I46 60 12).toInt ∧ (I46 60 12).toInt ≤ 12; rw [eI46, z_up_k (by decide), eI44, z_up_k (by decide), eI42, z_up_k (by decide)]; exact hJ.2)⟩, f47, (by have e4 : y2.toNatClampNeg = (I 60 12).toNatClampNeg := (by have q1 := z_clt (x := y2) rfl (by omega); have q2 := z_clt (x := I 60 12) rfl (by omega); omega); have w1 := lp1W.1; have w2 := lp1W.2.1; rw [e4] at w1 w2; exact Or.inl ⟨(by unfold zq_g; rw [← w1, ← w2, ← hv10]; omega), by rw [eI46, z_up_k (by decide), eI44, z_up_k (by decide), eI42, z_up_s], by rw [eI46, z_up_k (by decide), eI44, z_up_s, hv10], by rw [eI46, z_up_s, w2]⟩)⟩
          · have g48 := z_f_nlt rfl rfl c30
            have b49 := Int32.toInt_lt x9
            have b50 := Int32.toInt_lt (I 60 14)
            refine lv_iload hx hb dX3_weigh_81 (lv_at hl 0 rfl) ?_
            refine lv_aload_n hx hb dX3_weigh_83 rfl (lv_at hl 3 rfl) ?_
            refine z_get (T := TX3) (N := 17) (ci := 3) (i := 60) (v := .int (I 60 14)) hx hb hts zj_X3_weigh_X3 hown hK hW rfl rfl 14 (by decide) (hts (.fieldLink RX3 102 "PetrolBoard$Journeys" "poolCars" "I") (me_s (me_l (List.mem_of_getElem? (i := 4) rfl)))) (fun _ h => h) rfl dX3_weigh_84 ?_
            refine lv_icmp_ne (tgt := 102) hx hb dX3_weigh_87 (by decide) (fun c51 => ?_) (fun c51 => ?_)
            · have g52 := z_f_ne rfl rfl c51
              refine lv_iconst (v := 0) hx hb dX3_weigh_102 (by decide) ?_
              refine lv_istore (lv' := [(5, .int 0), (4, .int x9), (3, .int y3), (2, .int y4), (0, .ref (ad 60)), (1, .int a1)]) hx hb dX3_weigh_103 hl (by decide) rfl (fun ls hl => ?_)
              refine lv_iload_n hx hb dX3_weigh_105 rfl (lv_at hl 3 rfl) ?_
              refine lv_aload_n hx hb dX3_weigh_106 rfl (lv_at hl 4 rfl) ?_
              refine z_get (T := TX3) (N := 17) (ci := 3) (i := 60) (v := .int (I 60 13)) hx hb hts zj_X3_weigh_X3 hown hK hW rfl rfl 13 (by decide) (hts (.fieldLink RX3 87 "PetrolBoard$Journeys" "poolPeople" "I") (me_s (me_l (List.mem_of_getElem? (i := 6) rfl)))) (fun _ h => h) rfl dX3_weigh_107 ?_
              refine lv_icmp_lt (tgt := 134) hx hb dX3_weigh_110 (by decide) (fun c53 => ?_) (fun c53 => ?_)
              · have g54 := z_f_lt rfl rfl c53
                have b55 := Int32.toInt_lt y4
                have b56 := Int32.toInt_lt (I 60 13)
                exact z_vret hx hb hr hK hS (Nat.le_of_ble_eq_true rfl) (Nat.le_of_ble_eq_true rfl) hlocks dX3_weigh_134 (shC c, ad, I, JX, PC c ad) hW ⟨I, rfl, ⟨(by show 0 ≤ (I 60 9).toInt ∧ (I 60 9).toInt ≤ 60; exact hJ.1), (by show 0 ≤ (I 60 12).toInt ∧ (I 60 12).toInt ≤ 12; exact hJ.2)⟩, z_fr_0, (by have e4 : y2.toNatClampNeg = (I 60 12).toNatClampNeg := (by have q1 := z_clt (x := y2) rfl (by omega); have q2 := z_clt (x := I 60 12) rfl (by omega); omega); have w1 := lp1W.1; have w2 := lp1W.2.1; rw [e4] at w1 w2; exact Or.inr ⟨fun q => absurd q (by unfold zq_g; rw [← w1, ← w2, ← hv10]; omega), rfl, rfl, rfl⟩)⟩
              · have g57 := z_f_nlt rfl rfl c53
                have b58 := Int32.toInt_lt y4
                have b59 := Int32.toInt_lt (I 60 13)
                refine lv_iload hx hb dX3_weigh_113 (lv_at hl 0 rfl) ?_
                refine lv_if_eq (tgt := 134) hx hb dX3_weigh_115 (by decide) (fun c60 => ?_) (fun c60 => absurd (by decide) c60)
                exact z_vret hx hb hr hK hS (Nat.le_of_ble_eq_true rfl) (Nat.le_of_ble_eq_true rfl) hlocks dX3_weigh_134 (shC c, ad, I, JX, PC c ad) hW ⟨I, rfl, ⟨(by show 0 ≤ (I 60 9).toInt ∧ (I 60 9).toInt ≤ 60; exact hJ.1), (by show 0 ≤ (I 60 12).toInt ∧ (I 60 12).toInt ≤ 12; exact hJ.2)⟩, z_fr_0, (by have e4 : y2.toNatClampNeg = (I 60 12).toNatClampNeg := (by have q1 := z_clt (x := y2) rfl (by omega); have q2 := z_clt (x := I 60 12) rfl (by omega); omega); have w1 := lp1W.1; have w2 := lp1W.2.1; rw [e4] at w1 w2; exact Or.inr ⟨fun q => absurd q (by unfold zq_g; rw [← w1, ← w2, ← hv10]; omega), rfl, rfl, rfl⟩)⟩
            · have g61 := z_f_eq rfl rfl c51
              refine lv_iload_n hx hb dX3_weigh_90 rfl (lv_at hl 1 rfl) ?_
              refine lv_aload_n hx hb dX3_weigh_91 rfl (lv_at hl 3 rfl) ?_
              refine z_get (T := TX3) (N := 17) (ci := 3) (i := 60) (v := .int (I 60 15)) hx hb hts zj_X3_weigh_X3 hown hK hW rfl rfl 15 (by decide) (hts (.fieldLink RX3 105 "PetrolBoard$Journeys" "poolCost" "I") (me_s (me_l (List.mem_of_getElem? (i := 5) rfl)))) (fun _ h => h) rfl dX3_weigh_92 ?_
              refine lv_icmp_ge (tgt := 102) hx hb dX3_weigh_95 (by decide) (fun c62 => ?_) (fun c62 => ?_)
              · have g63 := z_f_ge rfl rfl c62
                have b64 := Int32.toInt_lt y3
                have b65 := Int32.toInt_lt (I 60 15)
                refine lv_iconst (v := 0) hx hb dX3_weigh_102 (by decide) ?_
                refine lv_istore (lv' := [(5, .int 0), (4, .int x9), (3, .int y3), (2, .int y4), (0, .ref (ad 60)), (1, .int a1)]) hx hb dX3_weigh_103 hl (by decide) rfl (fun ls hl => ?_)
                refine lv_iload_n hx hb dX3_weigh_105 rfl (lv_at hl 3 rfl) ?_
                refine lv_aload_n hx hb dX3_weigh_106 rfl (lv_at hl 4 rfl) ?_
                refine z_get (T := TX3) (N := 17) (ci := 3) (i := 60) (v := .int (I 60 13)) hx hb hts zj_X3_weigh_X3 hown hK hW rfl rfl 13 (by decide) (hts (.fieldLink RX3 87 "PetrolBoard$Journeys" "poolPeople" "I") (me_s (me_l (List.mem_of_getElem? (i := 6) rfl)))) (fun _ h => h) rfl dX3_weigh_107 ?_
                refine lv_icmp_lt (tgt := 134) hx hb dX3_weigh_110 (by decide) (fun c66 => ?_) (fun c66 => ?_)
                · have g67 := z_f_lt rfl rfl c66
                  have b68 := Int32.toInt_lt y4
                  have b69 := Int32.toInt_lt (I 60 13)
                  exact z_vret hx hb hr hK hS (Nat.le_of_ble_eq_true rfl) (Nat.le_of_ble_eq_true rfl) hlocks dX3_weigh_134 (shC c, ad, I, JX, PC c ad) hW ⟨I, rfl, ⟨(by show 0 ≤ (I 60 9).toInt ∧ (I 60 9).toInt ≤ 60; exact hJ.1), (by show 0 ≤ (I 60 12).toInt ∧ (I 60 12).toInt ≤ 12; exact hJ.2)⟩, z_fr_0, (by have e4 : y2.toNatClampNeg = (I 60 12).toNatClampNeg := (by have q1 := z_clt (x := y2) rfl (by omega); have q2 := z_clt (x := I 60 12) rfl (by omega); omega); have w1 := lp1W.1; have w2 := lp1W.2.1; rw [e4] at w1 w2; exact Or.inr ⟨fun q => absurd q (by unfold zq_g; rw [← w1, ← w2, ← hv10]; omega), rfl, rfl, rfl⟩)⟩
                · have g70 := z_f_nlt rfl rfl c66
                  have b71 := Int32.toInt_lt y4
                  have b72 := Int32.toInt_lt (I 60 13)
                  refine lv_iload hx hb dX3_weigh_113 (lv_at hl 0 rfl) ?_
                  refine lv_if_eq (tgt := 134) hx hb dX3_weigh_115 (by decide) (fun c73 => ?_) (fun c73 => absurd (by decide) c73)
                  exact z_vret hx hb hr hK hS (Nat.le_of_ble_eq_true rfl) (Nat.le_of_ble_eq_true rfl) hlocks dX3_weigh_134 (shC c, ad, I, JX, PC c ad) hW ⟨I, rfl, ⟨(by show 0 ≤ (I 60 9).toInt ∧ (I 60 9).toInt ≤ 60; exact hJ.1), (by show 0 ≤ (I 60 12).toInt ∧ (I 60 12).toInt ≤ 12; exact hJ.2)⟩, z_fr_0, (by have e4 : y2.toNatClampNeg = (I 60 12).toNatClampNeg := (by have q1 := z_clt (x := y2) rfl (by omega); have q2 := z_clt (x := I 60 12) rfl (by omega); omega); have w1 := lp1W.1; have w2 := lp1W.2.1; rw [e4] at w1 w2; exact Or.inr ⟨fun q => absurd q (by unfold zq_g; rw [← w1, ← w2, ← hv10]; omega), rfl, rfl, rfl⟩)⟩
              · have g74 := z_f_nge rfl rfl c62
                have b75 := Int32.toInt_lt y3
                have b76 := Int32.toInt_lt (I 60 15)
                refine lv_iconst (v := 1) hx hb dX3_weigh_98 (by decide) ?_
                refine lv_goto (tgt := 103) hx hb dX3_weigh_99 (by decide) ?_
                refine lv_istore (lv' := [(5, .int 1), (4, .int x9), (3, .int y3), (2, .int y4), (0, .ref (ad 60)), (1, .int a1)]) hx hb dX3_weigh_103 hl (by decide) rfl (fun ls hl => ?_)
                refine lv_iload_n hx hb dX3_weigh_105 rfl (lv_at hl 3 rfl) ?_
                refine lv_aload_n hx hb dX3_weigh_106 rfl (lv_at hl 4 rfl) ?_
                refine z_get (T := TX3) (N := 17) (ci := 3) (i := 60) (v := .int (I 60 13)) hx hb hts zj_X3_weigh_X3 hown hK hW rfl rfl 13 (by decide) (hts (.fieldLink RX3 87 "PetrolBoard$Journeys" "poolPeople" "I") (me_s (me_l (List.mem_of_getElem? (i := 6) rfl)))) (fun _ h => h) rfl dX3_weigh_107 ?_
                refine lv_icmp_lt (tgt := 134) hx hb dX3_weigh_110 (by decide) (fun c77 => ?_) (fun c77 => ?_)
                · have g78 := z_f_lt rfl rfl c77
                  have b79 := Int32.toInt_lt y4
                  have b80 := Int32.toInt_lt (I 60 13)
                  exact z_vret hx hb hr hK hS (Nat.le_of_ble_eq_true rfl) (Nat.le_of_ble_eq_true rfl) hlocks dX3_weigh_134 (shC c, ad, I, JX, PC c ad) hW ⟨I, rfl, ⟨(by show 0 ≤ (I 60 9).toInt ∧ (I 60 9).toInt ≤ 60; exact hJ.1), (by show 0 ≤ (I 60 12).toInt ∧ (I 60 12).toInt ≤ 12; exact hJ.2)⟩, z_fr_0, (by have e4 : y2.toNatClampNeg = (I 60 12).toNatClampNeg := (by have q1 := z_clt (x := y2) rfl (by omega); have q2 := z_clt (x := I 60 12) rfl (by omega); omega); have w1 := lp1W.1; have w2 := lp1W.2.1; rw [e4] at w1 w2; exact Or.inr ⟨fun q => absurd q (by unfold zq_g; rw [← w1, ← w2, ← hv10]; omega), rfl, rfl, rfl⟩)⟩
                · have g81 := z_f_nlt rfl rfl c77
                  have b82 := Int32.toInt_lt y4
                  have b83 := Int32.toInt_lt (I 60 13)
                  refine lv_iload hx hb dX3_weigh_113 (lv_at hl 0 rfl) ?_
                  refine lv_if_eq (tgt := 134) hx hb dX3_weigh_115 (by decide) (fun c84 => absurd c84 (by decide)) (fun c84 => ?_)
                  refine lv_aload_n hx hb dX3_weigh_118 rfl (lv_at hl 4 rfl) ?_
                  refine lv_iload_n hx hb dX3_weigh_119 rfl (lv_at hl 5 rfl) ?_
                  refine z_put (T := TX3) (N := 17) (ci := 3) (i := 60) (v := .int a1) (I1 := z_up I 60 16 a1) (J1 := JX) (P1 := PC c ad) hx hb hts zj_X3_weigh_X3 tyX3 tyX3_ok nmX3 hown hK hW hS rfl rfl 16 (by decide) (hts (.fieldLink RX3 73 "PetrolBoard$Journeys" "poolSet" "I") (me_s (me_l (List.mem_of_getElem? (i := 3) rfl)))) (fun _ h => h) rfl rfl rfl (by first | rfl | exact congrArg _ z_up_s) (fun a b h ty => z_vI h ty) dX3_weigh_120 (fun H locs hz1 hW hS => ?_)
                  obtain ⟨I85, eI85⟩ : ∃ K : z_I, K = z_up I 60 16 a1 := ⟨_, rfl⟩
                  rw [← eI85] at hW
                  have f86 := z_fr_k z_fr_0 (show z_wr L_X3_weigh_x 60 16 = true by decide) eI85
                  refine lv_aload_n hx hb dX3_weigh_123 rfl (lv_at hl 4 rfl) ?_
                  refine lv_iload hx hb dX3_weigh_124 (lv_at hl 1 rfl) ?_
                  refine z_put (T := TX3) (N := 17) (ci := 3) (i := 60) (v := .int x9) (I1 := z_up I85 60 14 x9) (J1 := JX) (P1 := PC c ad) hx hb hts zj_X3_weigh_X3 tyX3 tyX3_ok nmX3 hown hK hW hS rfl rfl 14 (by decide) (hts (.fieldLink RX3 102 "PetrolBoard$Journeys" "poolCars" "I") (me_s (me_l (List.mem_of_getElem? (i := 4) rfl)))) (fun _ h => h) rfl rfl rfl (by first | rfl | exact congrArg _ z_up_s) (fun a b h ty => z_vI h ty) dX3_weigh_126 (fun H locs hz1 hW hS => ?_)
                  obtain ⟨I87, eI87⟩ : ∃ K : z_I, K = z_up I85 60 14 x9 := ⟨_, rfl⟩
                  rw [← eI87] at hW
                  have f88 := z_fr_k f86 (show z_wr L_X3_weigh_x 60 14 = true by decide) eI87
                  refine lv_aload_n hx hb dX3_weigh_129 rfl (lv_at hl 4 rfl) ?_
                  refine lv_iload_n hx hb dX3_weigh_130 rfl (lv_at hl 2 rfl) ?_
                  refine z_put (T := TX3) (N := 17) (ci := 3) (i := 60) (v := .int y3) (I1 := z_up I87 60 15 y3) (J1 := JX) (P1 := PC c ad) hx hb hts zj_X3_weigh_X3 tyX3 tyX3_ok nmX3 hown hK hW hS rfl rfl 15 (by decide) (hts (.fieldLink RX3 105 "PetrolBoard$Journeys" "poolCost" "I") (me_s (me_l (List.mem_of_getElem? (i := 5) rfl)))) (fun _ h => h) rfl rfl rfl (by first | rfl | exact congrArg _ z_up_s) (fun a b h ty => z_vI h ty) dX3_weigh_131 (fun H locs hz1 hW hS => ?_)
                  obtain ⟨I89, eI89⟩ : ∃ K : z_I, K = z_up I87 60 15 y3 := ⟨_, rfl⟩
                  rw [← eI89] at hW
                  have f90 := z_fr_k f88 (show z_wr L_X3_weigh_x 60 15 = true by decide) eI89
                  exact z_vret hx hb hr hK hS (Nat.le_of_ble_eq_true rfl) (Nat.le_of_ble_eq_true rfl) hlocks dX3_weigh_134 (shC c, ad, I89, JX, PC c ad) hW ⟨I89, rfl, ⟨(by show 0 ≤ (I89 60 9).toInt ∧ (I89 60 9).toInt ≤ 60; rw [eI89, z_up_k (by decide), eI87, z_up_k (by decide), eI85, z_up_k (by decide)]; exact hJ.1), (by show 0 ≤ (I89 60 12).toInt ∧ (I89 60 12).toInt ≤ 12; rw [eI89, z_up_k (by decide), eI87, z_up_k (by decide), eI85, z_up_k (by decide)]; exact hJ.2)⟩, f90, (by have e4 : y2.toNatClampNeg = (I 60 12).toNatClampNeg := (by have q1 := z_clt (x := y2) rfl (by omega); have q2 := z_clt (x := I 60 12) rfl (by omega); omega); have w1 := lp1W.1; have w2 := lp1W.2.1; rw [e4] at w1 w2; exact Or.inl ⟨(by unfold zq_g; rw [← w1, ← w2, ← hv10]; omega), by rw [eI89, z_up_k (by decide), eI87, z_up_k (by decide), eI85, z_up_s], by rw [eI89, z_up_k (by decide), eI87, z_up_s, hv10], by rw [eI89, z_up_s, w2]⟩)⟩
      · have g91 := z_f_nge rfl rfl c6
        have b92 := Int32.toInt_lt y2
        refine lv_iload hx hb dX3_weigh_16 (lv_at hl 0 rfl) ?_
        refine lv_bipush (v := 12) hx hb dX3_weigh_18 (by decide) ?_
        refine lv_icmp_ge (tgt := 59) hx hb dX3_weigh_20 (by decide) (fun c93 => (by have g := z_f_ge rfl z_l12 c93; omega)) (fun c93 => ?_)
        have g94 := z_f_nge rfl z_l12 c93
        refine lv_iload_n hx hb dX3_weigh_23 rfl (lv_at hl 4 rfl) ?_
        refine lv_iload hx hb dX3_weigh_24 (lv_at hl 0 rfl) ?_
        refine lv_ishr hx hb dX3_weigh_26 ?_
        refine lv_topi (fun x95 ex95 => ?_)
        refine lv_iconst (v := 1) hx hb dX3_weigh_27 (by decide) ?_
        refine lv_iand hx hb dX3_weigh_28 ?_
        refine lv_topi (fun x96 ex96 => ?_)
        have hb97 : x96 = zq_bt a1 y2 := by rw [ex96, ex95]; rfl
        refine lv_iconst (v := 1) hx hb dX3_weigh_29 (by decide) ?_
        refine lv_icmp_ne (tgt := 53) hx hb dX3_weigh_30 (by decide) (fun c98 => ?_) (fun c98 => ?_)
        · have g99 := z_f_ne rfl z_l1 c98
          have b100 := Int32.toInt_lt x96
          obtain ⟨x101, ex101⟩ : ∃ y : Int32, y = y2 + 1 := ⟨_, rfl⟩
          have tx101 : x101.toInt = y2.toInt + 1 := z_tadd ex101 rfl z_l1 (by omega) (by omega)
          refine lv_iinc (v := x101) (lv' := [(4, .int x101), (3, .int y3), (2, .int y4), (0, .ref (ad 60)), (1, .int a1)]) hx hb dX3_weigh_53 hl (k := 0) rfl (by rw [ex101]; rfl) (by decide) rfl (fun ls hl => ?_)
          refine lv_goto (tgt := 7) hx hb dX3_weigh_56 (by decide) ?_
          exact lp1ih x101 y3 y4 _ _ _ (by omega) (by omega) ⟨by rw [(show x101.toNatClampNeg = y2.toNatClampNeg + 1 from z_cln (by omega) (by omega))]; exact zq_sum_n (by omega) hb97 (by omega) lp1W.1, by rw [(show x101.toNatClampNeg = y2.toNatClampNeg + 1 from z_cln (by omega) (by omega))]; exact zq_sum_n (by omega) hb97 (by omega) lp1W.2.1, by omega⟩ hW hS (lv_sub hl [0, 1, 2, 3, 4] rfl)
        · have g102 := z_f_eq rfl z_l1 c98
          have b103 := Int32.toInt_lt x96
          refine lv_iload_n hx hb dX3_weigh_33 rfl (lv_at hl 2 rfl) ?_
          refine lv_aload_n hx hb dX3_weigh_34 rfl (lv_at hl 3 rfl) ?_
          refine z_get (T := TX3) (N := 17) (ci := 3) (i := 60) (v := .ref (ad 70)) hx hb hts zj_X3_weigh_X3 hown hK hW rfl rfl 10 (by decide) (hts (.fieldLink RX3 39 "PetrolBoard$Journeys" "pooledSeats" "[I") (me_s (me_l (List.mem_of_getElem? (i := 1) rfl)))) (fun _ h => h) rfl dX3_weigh_35 ?_
          refine lv_iload hx hb dX3_weigh_38 (lv_at hl 0 rfl) ?_
          refine z_iald (i := 70) hx hb hK hW rfl (z_ix rfl (by omega) (by omega)) dX3_weigh_40 ?_
          refine lv_topi (fun x104 ex104 => ?_)
          refine lv_iadd hx hb dX3_weigh_41 ?_
          refine lv_topi (fun x105 ex105 => ?_)
          refine lv_istore_n (lv' := [(2, .int x105), (4, .int y2), (3, .int y3), (0, .ref (ad 60)), (1, .int a1)]) hx hb dX3_weigh_42 rfl hl (by decide) rfl (fun ls hl => ?_)
          refine lv_iload_n hx hb dX3_weigh_43 rfl (lv_at hl 2 rfl) ?_
          refine lv_aload_n hx hb dX3_weigh_44 rfl (lv_at hl 3 rfl) ?_
          refine z_get (T := TX3) (N := 17) (ci := 3) (i := 60) (v := .ref (ad 71)) hx hb hts zj_X3_weigh_X3 hown hK hW rfl rfl 11 (by decide) (hts (.fieldLink RX3 42 "PetrolBoard$Journeys" "pooledCost" "[I") (me_s (me_l (List.mem_of_getElem? (i := 2) rfl)))) (fun _ h => h) rfl dX3_weigh_45 ?_
          refine lv_iload hx hb dX3_weigh_48 (lv_at hl 1 rfl) ?_
          refine z_iald (i := 71) hx hb hK hW rfl (z_ix rfl (by omega) (by omega)) dX3_weigh_50 ?_
          refine lv_topi (fun x106 ex106 => ?_)
          refine lv_iadd hx hb dX3_weigh_51 ?_
          refine lv_topi (fun x107 ex107 => ?_)
          refine lv_istore_n (lv' := [(3, .int x107), (2, .int x105), (4, .int y2), (0, .ref (ad 60)), (1, .int a1)]) hx hb dX3_weigh_52 rfl hl (by decide) rfl (fun ls hl => ?_)
          obtain ⟨x108, ex108⟩ : ∃ y : Int32, y = y2 + 1 := ⟨_, rfl⟩
          have tx108 : x108.toInt = y2.toInt + 1 := z_tadd ex108 rfl z_l1 (by omega) (by omega)
          refine lv_iinc (v := x108) (lv' := [(4, .int x108), (3, .int x107), (2, .int x105), (0, .ref (ad 60)), (1, .int a1)]) hx hb dX3_weigh_53 hl (k := 2) rfl (by rw [ex108]; rfl) (by decide) rfl (fun ls hl => ?_)
          refine lv_goto (tgt := 7) hx hb dX3_weigh_56 (by decide) ?_
          exact lp1ih x108 x107 x105 _ _ _ (by omega) (by omega) ⟨by rw [(show x108.toNatClampNeg = y2.toNatClampNeg + 1 from z_cln (by omega) (by omega))]; exact zq_sum_y (by omega) hb97 (by omega) lp1W.1 (by rw [ex105, ex104]), by rw [(show x108.toNatClampNeg = y2.toNatClampNeg + 1 from z_cln (by omega) (by omega))]; exact zq_sum_y (by omega) hb97 (by omega) lp1W.2.1 (by rw [ex107, ex106]), by omega⟩ hW hS (lv_sub hl [0, 1, 2, 3, 4] rfl)
  exact lp1 4294967296 (0) (0) (0) _ _ _ (z_m0u _) (by rw [z_l0]; omega) ⟨rfl, rfl, by omega⟩ hW hS (lv_sub hl [0, 1, 2, 3, 4] rfl)
noncomputable def L_X3_poolOf_x : z_L := [(70, 999), (71, 999), (60, 12), (60, 13), (60, 16), (60, 14), (60, 15)]
set_option maxHeartbeats 8000000 in
set_option maxRecDepth 100000 in
theorem sx_X3_poolOf_x (l : Launch) (G : z_G) (ad : Nat → Nat) (c : z_C) (I : z_I) (hJ : z_iJ I) (hH : z_iH I) (a2 : Int32) (a3 : Int32) (hJw : ∀ j : Nat, (j : Int) < (I 60 9).toInt → 0 ≤ (I 61 j).toInt ∧ (I 61 j).toInt < (I 1 5).toInt) : z_M l yX3_poolOf wsX3_poolOf { frames := 3, cells := 0, slots := 0, locals := 57 } [.ref (ad 60), .ref (ad 1), .int a2, .int a3] G (shC c, ad, I, JX, PC c ad) (fun r u1 => ∃ I1 : z_I, u1 = (shC c, ad, I1, JX, PC c ad) ∧ z_iJ I1 ∧ z_iH I1 ∧ z_fr L_X3_poolOf_x I1 I ∧ (zq_B I I1 a2.toInt a3.toInt (I 60 9).toNatClampNeg ∧ zq_X I I1 a2.toInt a3.toInt (I 60 9).toNatClampNeg (zq_2 (zq_n I a2.toInt a3.toInt (I 60 9).toNatClampNeg)) ∧ ((r = 1 ∧ ¬ (I1 60 16).toInt = 0) ∨ (r = 0 ∧ (I1 60 16).toInt = 0)))) 0 0 := by
  intro sz
  refine z_headQ (cc := cX3_poolOf) (maxL := 6) (ret := (some .boolean)) (by decide) rfl (Nat.le_of_ble_eq_true rfl) ?_
  intro p e s m below meth c0 ls hIn hK hsz hW hl
  obtain ⟨hx, hb, hr, hml, hown, hts, hlocks, hname⟩ := hIn
  subst hsz
  have hown : s.vm.findClass RX3 = some m.cls := hown
  have hA : ∀ q : Nat, s.heap.size ≤ q → z_A (shC c, ad, I, JX, PC c ad) s.heap.size q := fun q h => Or.inr h
  generalize hAe : z_A (shC c, ad, I, JX, PC c ad) s.heap.size = A at *
  have hS : va_S A s.heap s.heap [] := va_S.rf
  have hl : lv_has ls 6 [(0, .ref (ad 60)), (1, .ref (ad 1)), (2, .int a2), (3, .int a3)] := hl
  refine lv_aload_n hx hb dX3_poolOf_0 rfl (lv_at hl 0 rfl) ?_
  refine lv_aload_n hx hb dX3_poolOf_1 rfl (lv_at hl 1 rfl) ?_
  refine lv_iload_n hx hb dX3_poolOf_2 rfl (lv_at hl 2 rfl) ?_
  refine lv_iload_n hx hb dX3_poolOf_3 rfl (lv_at hl 3 rfl) ?_
  refine z_cv hW hS hA (va_runV (As := [.ref (ad 1), .int a2, .int a3]) (rest := []) ⟨hx, hb, hml, hown, hts⟩ (sx_X3_gather_x l G ad c I ⟨(by show 0 ≤ (I 60 9).toInt ∧ (I 60 9).toInt ≤ 60; exact hJ.1), (by show 0 ≤ (I 60 12).toInt ∧ (I 60 12).toInt ≤ 12; exact hJ.2)⟩ ⟨(by show 0 ≤ (I 1 5).toInt ∧ (I 1 5).toInt ≤ 30; exact hH.1), (by show 0 ≤ (I 1 11).toInt ∧ (I 1 11).toInt ≤ 200; exact hH.2)⟩ a2 a3 hJw _) (cwV 3 hts gX3_poolOf_X3_gather rfl rfl rfl (by decide +kernel) ⟨Nat.le_of_ble_eq_true rfl, Nat.le_of_ble_eq_true rfl⟩) (z_preV (i := 60) hK hW rfl rfl) rfl rfl hl.1 rfl (lv_room (Nat.le_of_ble_eq_true rfl)) dX3_poolOf_4 ⟨Nat.le_of_ble_eq_true rfl, Nat.le_of_ble_eq_true rfl⟩) (fun u1 H locs hp hW hS => ?_)
  obtain ⟨I1, e9, hI1J, hI1H, fI1, hp⟩ := hp
  rw [e9] at hW
  have f2 := z_fr_sub (L := L_X3_poolOf_x) z_fr_0 fI1 (by decide)
  have hG3 := hp
  refine lv_aload_n hx hb dX3_poolOf_7 rfl (lv_at hl 0 rfl) ?_
  refine lv_iconst (v := 0) hx hb dX3_poolOf_8 (by decide) ?_
  refine z_put (T := TX3) (N := 17) (ci := 3) (i := 60) (v := .int 0) (I1 := z_up I1 60 16 0) (J1 := JX) (P1 := PC c ad) hx hb hts zj_X3_poolOf_X3 tyX3 tyX3_ok nmX3 hown hK hW hS rfl rfl 16 (by decide) (hts (.fieldLink RX3 73 "PetrolBoard$Journeys" "poolSet" "I") (me_s (me_l (me_l (me_l (List.mem_of_getElem? (i := 0) rfl)))))) (fun _ h => h) rfl rfl rfl (by first | rfl | exact congrArg _ z_up_s) (fun a b h ty => z_vI h ty) dX3_poolOf_9 (fun H locs hz1 hW hS => ?_)
  obtain ⟨I4, eI4⟩ : ∃ K : z_I, K = z_up I1 60 16 0 := ⟨_, rfl⟩
  rw [← eI4] at hW
  have f5 := z_fr_k f2 (show z_wr L_X3_poolOf_x 60 16 = true by decide) eI4
  refine lv_iconst (v := 1) hx hb dX3_poolOf_12 (by decide) ?_
  refine lv_aload_n hx hb dX3_poolOf_13 rfl (lv_at hl 0 rfl) ?_
  have r6 : 0 ≤ (I1 60 12).toInt ∧ (I1 60 12).toInt ≤ 12 := hI1J.2
  refine z_get (T := TX3) (N := 17) (ci := 3) (i := 60) (v := .int (I1 60 12)) hx hb hts zj_X3_poolOf_X3 hown hK hW rfl rfl 12 (by decide) (hts (.fieldLink RX3 76 "PetrolBoard$Journeys" "pooled" "I") (me_s (me_l (me_l (me_l (List.mem_of_getElem? (i := 1) rfl)))))) (fun _ h => h) (congrArg Value.int (by rw [eI4, z_up_k (by decide)])) dX3_poolOf_14 ?_
  refine lv_bipush (v := 12) hx hb dX3_poolOf_17 (by decide) ?_
  refine va_mmin (x := (I1 60 12)) (y := 12) hx hb (hml.trans hl.1.symm) hown (hts (.methodLink RX3 79 Lib.Math.min.name) (me_s (me_l (me_l (me_l (List.mem_of_getElem? (i := 2) rfl)))))) (hts (.static Lib.Math.min.name) (me_s (me_l (me_l (me_l (List.mem_of_getElem? (i := 3) rfl)))))) (hts (.initialized "java/lang/Math") (me_s (me_l (me_l (me_l (List.mem_of_getElem? (i := 4) rfl)))))) (hts (.code Lib.Math.min.name Lib.Math.min.code 2 (some .int)) (me_s (me_l (me_l (me_l (List.mem_of_getElem? (i := 5) rfl)))))) (Nat.le_of_ble_eq_true rfl) (Nat.le_of_ble_eq_true rfl) (Nat.le_of_ble_eq_true rfl) (Nat.le_of_ble_eq_true rfl) dX3_poolOf_19 ?_
  refine lv_topi (fun x7 ex7 => ?_)
  have tx7 := z_tmmin ex7 rfl z_l12
  refine lv_ishl hx hb dX3_poolOf_22 ?_
  refine lv_topi (fun x8 ex8 => ?_)
  have hs9 := zq_sh ex8 (show 0 ≤ x7.toInt ∧ x7.toInt ≤ 12 by omega)
  refine lv_istore (lv' := [(4, .int x8), (0, .ref (ad 60)), (1, .ref (ad 1)), (2, .int a2), (3, .int a3)]) hx hb dX3_poolOf_23 hl (by decide) rfl (fun ls hl => ?_)
  refine lv_iconst (v := 1) hx hb dX3_poolOf_25 (by decide) ?_
  refine lv_istore (lv' := [(5, .int 1), (4, .int x8), (0, .ref (ad 60)), (1, .ref (ad 1)), (2, .int a2), (3, .int a3)]) hx hb dX3_poolOf_26 hl (by decide) rfl (fun ls hl => ?_)
  have lp10 : ∀ (f : Nat) (y11 : Int32) (I12 : z_I) (H : Heap) (locs : List Loc) (ls : Array Slot), (2147483647 < y11.toInt + (f : Int)) → (1 ≤ y11.toInt) → (y11.toInt ≤ 4096) → (z_iJ I12) → (z_iH I12) → (zq_B I I12 a2.toInt a3.toInt (I 60 9).toNatClampNeg ∧ zq_X I I12 a2.toInt a3.toInt (I 60 9).toNatClampNeg (y11.toNatClampNeg - 1) ∧ y11.toInt ≤ x8.toInt) → (z_fr L_X3_poolOf_x I12 I) → z_W G A (shC c, ad, I12, JX, PC c ad) H → va_S A s.heap H locs → lv_has ls 6 [(5, .int y11), (4, .int x8), (0, .ref (ad 60)), (1, .ref (ad 1)), (2, .int a2), (3, .int a3)] → W p l e (headSpec wsX3_poolOf { frames := 3, cells := 0, slots := 0, locals := 57 }).room s m ([.ref (ad 60), .ref (ad 1), .int a2, .int a3] : List Value).toArray below meth c0 H locs 0 0 (MQ below (va_Qi (fun (r : Int32) (u1 : z_U) => ∃ I1 : z_I, u1 = (shC c, ad, I1, JX, PC c ad) ∧ z_iJ I1 ∧ z_iH I1 ∧ z_fr L_X3_poolOf_x I1 I ∧ (zq_B I I1 a2.toInt a3.toInt (I 60 9).toNatClampNeg ∧ zq_X I I1 a2.toInt a3.toInt (I 60 9).toNatClampNeg (zq_2 (zq_n I a2.toInt a3.toInt (I 60 9).toNatClampNeg)) ∧ ((r = 1 ∧ ¬ (I1 60 16).toInt = 0) ∨ (r = 0 ∧ (I1 60 16).toInt = 0)))) (z_B G A) A) ([.ref (ad 60), .ref (ad 1), .int a2, .int a3] : List Value).toArray s 0 0 A) (F0 m 28 ls []) := by
    intro f
    induction f with
    | zero => intro y11 I12  H locs ls lp10m lp10l5 lp10u5 lp10J lp10H lp10P lp10fr hW hS hl; exact absurd lp10m (by have := Int32.toInt_lt y11; have := Int32.le_toInt y11; omega)
    | succ f lp10ih =>
      intro y11 I12  H locs ls lp10m lp10l5 lp10u5 lp10J lp10H lp10P lp10fr hW hS hl
      refine lv_iload hx hb dX3_poolOf_28 (lv_at hl 0 rfl) ?_
      refine lv_iload hx hb dX3_poolOf_30 (lv_at hl 1 rfl) ?_
      refine lv_icmp_ge (tgt := 47) hx hb dX3_poolOf_32 (by decide) (fun c13 => ?_) (fun c13 => ?_)
      · have g14 := z_f_ge rfl rfl c13
        refine lv_aload_n hx hb dX3_poolOf_47 rfl (lv_at hl 2 rfl) ?_
        refine z_get (T := TX3) (N := 17) (ci := 3) (i := 60) (v := .int (I12 60 16)) hx hb hts zj_X3_poolOf_X3 hown hK hW rfl rfl 16 (by decide) (hts (.fieldLink RX3 73 "PetrolBoard$Journeys" "poolSet" "I") (me_s (me_l (me_l (me_l (List.mem_of_getElem? (i := 0) rfl)))))) (fun _ h => h) rfl dX3_poolOf_48 ?_
        refine lv_if_eq (tgt := 58) hx hb dX3_poolOf_51 (by decide) (fun c15 => ?_) (fun c15 => ?_)
        · have g16 := z_f_eq rfl z_l0 c15
          have b17 := Int32.toInt_lt (I12 60 16)
          refine lv_iconst (v := 0) hx hb dX3_poolOf_58 (by decide) ?_
          exact z_zret hx hb hr (by decide) hK hS (Nat.le_of_ble_eq_true rfl) (Nat.le_of_ble_eq_true rfl) hlocks dX3_poolOf_59 (shC c, ad, I12, JX, PC c ad) hW ⟨I12, rfl, ⟨(by show 0 ≤ (I12 60 9).toInt ∧ (I12 60 9).toInt ≤ 60; exact lp10J.1), (by show 0 ≤ (I12 60 12).toInt ∧ (I12 60 12).toInt ≤ 12; exact lp10J.2)⟩, ⟨(by show 0 ≤ (I12 1 5).toInt ∧ (I12 1 5).toInt ≤ 30; exact lp10H.1), (by show 0 ≤ (I12 1 11).toInt ∧ (I12 1 11).toInt ≤ 200; exact lp10H.2)⟩, lp10fr, ⟨lp10P.1, (by have c9 := z_clt (x := y11) rfl (by omega); have q9 : 1 ≤ 2 ^ x7.toNatClampNeg := Nat.one_le_two_pow; have hl9 := lp10P.1.1; have x9 := lp10P.2.1; rw [show y11.toNatClampNeg - 1 = 2 ^ x7.toNatClampNeg - 1 by omega, show x7.toNatClampNeg = zq_n I a2.toInt a3.toInt (I 60 9).toNatClampNeg by have q1 := z_clt (x := x7) rfl (by omega); unfold zq_n; omega] at x9; exact x9), Or.inr ⟨rfl, by omega⟩⟩⟩
        · have g18 := z_f_ne rfl z_l0 c15
          have b19 := Int32.toInt_lt (I12 60 16)
          refine lv_iconst (v := 1) hx hb dX3_poolOf_54 (by decide) ?_
          refine lv_goto (tgt := 59) hx hb dX3_poolOf_55 (by decide) ?_
          exact z_zret hx hb hr (by decide) hK hS (Nat.le_of_ble_eq_true rfl) (Nat.le_of_ble_eq_true rfl) hlocks dX3_poolOf_59 (shC c, ad, I12, JX, PC c ad) hW ⟨I12, rfl, ⟨(by show 0 ≤ (I12 60 9).toInt ∧ (I12 60 9).toInt ≤ 60; exact lp10J.1), (by show 0 ≤ (I12 60 12).toInt ∧ (I12 60 12).toInt ≤ 12; exact lp10J.2)⟩, ⟨(by show 0 ≤ (I12 1 5).toInt ∧ (I12 1 5).toInt ≤ 30; exact lp10H.1), (by show 0 ≤ (I12 1 11).toInt ∧ (I12 1 11).toInt ≤ 200; exact lp10H.2)⟩, lp10fr, ⟨lp10P.1, (by have c9 := z_clt (x := y11) rfl (by omega); have q9 : 1 ≤ 2 ^ x7.toNatClampNeg := Nat.one_le_two_pow; have hl9 := lp10P.1.1; have x9 := lp10P.2.1; rw [show y11.toNatClampNeg - 1 = 2 ^ x7.toNatClampNeg - 1 by omega, show x7.toNatClampNeg = zq_n I a2.toInt a3.toInt (I 60 9).toNatClampNeg by have q1 := z_clt (x := x7) rfl (by omega); unfold zq_n; omega] at x9; exact x9), Or.inl ⟨rfl, by omega⟩⟩⟩
      · have g20 := z_f_nge rfl rfl c13
        refine lv_aload_n hx hb dX3_poolOf_35 rfl (lv_at hl 2 rfl) ?_
        refine lv_iload hx hb dX3_poolOf_36 (lv_at hl 0 rfl) ?_
        refine z_cv hW hS hA (va_runV (As := [.int y11]) (rest := []) ⟨hx, hb, hml, hown, hts⟩ (sx_X3_weigh_x l G ad c I12 ⟨(by show 0 ≤ (I12 60 9).toInt ∧ (I12 60 9).toInt ≤ 60; exact lp10J.1), (by show 0 ≤ (I12 60 12).toInt ∧ (I12 60 12).toInt ≤ 12; exact lp10J.2)⟩ y11 _) (cwV 1 hts gX3_poolOf_X3_weigh rfl rfl rfl (by decide +kernel) ⟨Nat.le_of_ble_eq_true rfl, Nat.le_of_ble_eq_true rfl⟩) (z_preV (i := 60) hK hW rfl rfl) rfl rfl hl.1 rfl (lv_room (Nat.le_of_ble_eq_true rfl)) dX3_poolOf_38 ⟨Nat.le_of_ble_eq_true rfl, Nat.le_of_ble_eq_true rfl⟩) (fun u1 H locs hp hW hS => ?_)
        obtain ⟨I21, e9, hI21J, fI21, hp⟩ := hp
        rw [e9] at hW
        have f22 := z_fr_sub (L := L_X3_poolOf_x) lp10fr fI21 (by decide)
        have k23 : 0 ≤ (I21 1 5).toInt ∧ (I21 1 5).toInt ≤ 30 := by rw [fI21 1 5 (by decide)]; exact (by show 0 ≤ (I12 1 5).toInt ∧ (I12 1 5).toInt ≤ 30; exact lp10H.1)
        have k24 : 0 ≤ (I21 1 11).toInt ∧ (I21 1 11).toInt ≤ 200 := by rw [fI21 1 11 (by decide)]; exact (by show 0 ≤ (I12 1 11).toInt ∧ (I12 1 11).toInt ≤ 200; exact lp10H.2)
        have hG25 := hp
        obtain ⟨x26, ex26⟩ : ∃ y : Int32, y = y11 + 1 := ⟨_, rfl⟩
        have tx26 : x26.toInt = y11.toInt + 1 := z_tadd ex26 rfl z_l1 (by omega) (by omega)
        refine lv_iinc (v := x26) (lv' := [(5, .int x26), (4, .int x8), (0, .ref (ad 60)), (1, .ref (ad 1)), (2, .int a2), (3, .int a3)]) hx hb dX3_poolOf_41 hl (k := 0) rfl (by rw [ex26]; rfl) (by decide) rfl (fun ls hl => ?_)
        refine lv_goto (tgt := 28) hx hb dX3_poolOf_44 (by decide) ?_
        exact lp10ih x26 I21  _ _ _ (by omega) (by omega) (by omega) ⟨(by show 0 ≤ (I21 60 9).toInt ∧ (I21 60 9).toInt ≤ 60; exact hI21J.1), (by show 0 ≤ (I21 60 12).toInt ∧ (I21 60 12).toInt ≤ 12; exact hI21J.2)⟩ ⟨(by show 0 ≤ (I21 1 5).toInt ∧ (I21 1 5).toInt ≤ 30; exact k23), (by show 0 ≤ (I21 1 11).toInt ∧ (I21 1 11).toInt ≤ 200; exact k24)⟩ ⟨zq_B_c lp10P.1 (fI21 60 12 (by decide)) (fI21 60 13 (by decide)) (fun k => ⟨fI21 70 k (z_wr_c (by decide)), fI21 71 k (z_wr_c (by decide))⟩), by have c9 := z_clt (x := y11) rfl (by omega); have d9 := z_clt (x := x26) rfl (by omega); have x9 := zq_wst lp10P.1 lp10P.2.1 (a := y11) (by omega) (by omega) hG25; rw [show x26.toNatClampNeg - 1 = y11.toNatClampNeg - 1 + 1 by omega]; exact x9, by omega⟩ f22 hW hS (lv_sub hl [0, 1, 2, 3, 4, 5] rfl)
  exact lp10 4294967296 (1) I4  _ _ _ (z_m0u _) (by rw [z_l1]; omega) (by rw [z_l1]; omega) ⟨(by show 0 ≤ (I4 60 9).toInt ∧ (I4 60 9).toInt ≤ 60; rw [eI4, z_up_k (by decide)]; exact hI1J.1), (by show 0 ≤ (I4 60 12).toInt ∧ (I4 60 12).toInt ≤ 12; rw [eI4, z_up_k (by decide)]; exact hI1J.2)⟩ ⟨(by show 0 ≤ (I4 1 5).toInt ∧ (I4 1 5).toInt ≤ 30; rw [eI4, z_up_n (by decide)]; exact hI1H.1), (by show 0 ≤ (I4 1 11).toInt ∧ (I4 1 11).toInt ≤ 200; rw [eI4, z_up_n (by decide)]; exact hI1H.2)⟩ ⟨zq_B_c hG3 (by rw [eI4, z_up_k (by decide)]) (by rw [eI4, z_up_k (by decide)]) (fun k => ⟨by rw [eI4, z_up_n (by decide)], by rw [eI4, z_up_n (by decide)]⟩), zq_X_0 (by rw [eI4, z_up_s]) rfl, by have q9 : 1 ≤ 2 ^ x7.toNatClampNeg := Nat.one_le_two_pow; omega⟩ f5 hW hS (lv_sub hl [0, 1, 2, 3, 4, 5] rfl)
noncomputable def L_X11_pool_x : z_L := [(70, 999), (71, 999), (60, 12), (60, 13), (60, 16), (60, 14), (60, 15)]
set_option maxHeartbeats 8000000 in
set_option maxRecDepth 100000 in
theorem sx_X11_pool_x (l : Launch) (G : z_G) (ad : Nat → Nat) (c : z_C) (I : z_I) (hH : z_iH I) (hJ : z_iJ I) (a1 : Int32) (a2 : Int32) (a3 : Int32) (hc : z_okc c) (h10 : c.1 ≤ 10) (hJw : ∀ j : Nat, (j : Int) < (I 60 9).toInt → 0 ≤ (I 61 j).toInt ∧ (I 61 j).toInt < (I 1 5).toInt) : z_M l yX11_pool wsX11_pool { frames := 4, cells := 0, slots := 0, locals := 82 } [.ref (ad 0), .int a1, .int a2, .int a3] G (shC c, ad, I, JX, PC c ad) (fun r u1 => ∃ I1 : z_I, u1 = (shC c, ad, I1, JX, PC c ad) ∧ z_iH I1 ∧ z_iJ I1 ∧ z_fr L_X11_pool_x I1 I ∧ ((((0 ≤ a1.toInt ∧ a1.toInt ≤ 719) ∧ (0 ≤ a2.toInt ∧ a2.toInt ≤ 99 ∧ a2.toInt / 10 ≠ a2.toInt % 10) ∧ 0 ≤ a3.toInt ∧ a3.toInt ≤ 3) ∧ r.toInt = zq_ax I a1.toInt a2.toInt a3.toInt (I 60 9).toNatClampNeg) ∨ (¬ ((0 ≤ a1.toInt ∧ a1.toInt ≤ 719) ∧ (0 ≤ a2.toInt ∧ a2.toInt ≤ 99 ∧ a2.toInt / 10 ≠ a2.toInt % 10) ∧ 0 ≤ a3.toInt ∧ a3.toInt ≤ 3) ∧ r.toInt = -1))) 0 0 := by
  intro sz
  refine z_headQ (cc := cX11_pool) (maxL := 4) (ret := (some .int)) (by decide) rfl (Nat.le_of_ble_eq_true rfl) ?_
  intro p e s m below meth c0 ls hIn hK hsz hW hl
  obtain ⟨hx, hb, hr, hml, hown, hts, hlocks, hname⟩ := hIn
  subst hsz
  have hown : s.vm.findClass RX11 = some m.cls := hown
  have hA : ∀ q : Nat, s.heap.size ≤ q → z_A (shC c, ad, I, JX, PC c ad) s.heap.size q := fun q h => Or.inr h
  generalize hAe : z_A (shC c, ad, I, JX, PC c ad) s.heap.size = A at *
  have hS : va_S A s.heap s.heap [] := va_S.rf
  have hl : lv_has ls 4 [(0, .ref (ad 0)), (1, .int a1), (2, .int a2), (3, .int a3)] := hl
  refine lv_iload_n hx hb dX11_pool_0 rfl (lv_at hl 1 rfl) ?_
  refine z_ci hW hS hA (va_runS (As := [.int a1]) (rest := []) ⟨hx, hb, hml, hown, hts⟩ (sx_X11_isDay_e l G ad c I  a1 _) (va_cwS 1 hts gX11_pool_X11_isDay rfl rfl rfl (by decide +kernel) ⟨Nat.le_of_ble_eq_true rfl, Nat.le_of_ble_eq_true rfl⟩) (z_preS hK hW) rfl rfl hl.1 rfl (lv_room (Nat.le_of_ble_eq_true rfl)) dX11_pool_1 ⟨Nat.le_of_ble_eq_true rfl, Nat.le_of_ble_eq_true rfl⟩) (fun r u1 H locs hp hW hS => ?_)
  obtain ⟨e9, hp⟩ := hp
  rw [e9] at hW
  rcases hp with ⟨rfl, h1⟩ | ⟨rfl, h1⟩
  · have h2 := h1
    refine lv_if_eq (tgt := 23) hx hb dX11_pool_4 (by decide) (fun c3 => absurd c3 (by decide)) (fun c3 => ?_)
    refine lv_iload_n hx hb dX11_pool_7 rfl (lv_at hl 2 rfl) ?_
    refine z_ci hW hS hA (va_runS (As := [.int a2]) (rest := []) ⟨hx, hb, hml, hown, hts⟩ (sx_X11_isWay_e l G ad c I  a2 _) (va_cwS 1 hts gX11_pool_X11_isWay rfl rfl rfl (by decide +kernel) ⟨Nat.le_of_ble_eq_true rfl, Nat.le_of_ble_eq_true rfl⟩) (z_preS hK hW) rfl rfl hl.1 rfl (lv_room (Nat.le_of_ble_eq_true rfl)) dX11_pool_8 ⟨Nat.le_of_ble_eq_true rfl, Nat.le_of_ble_eq_true rfl⟩) (fun r u1 H locs hp hW hS => ?_)
    obtain ⟨e9, hp⟩ := hp
    rw [e9] at hW
    rcases hp with ⟨rfl, h4⟩ | ⟨rfl, h4⟩
    · have h5 := h4
      refine lv_if_eq (tgt := 23) hx hb dX11_pool_11 (by decide) (fun c6 => absurd c6 (by decide)) (fun c6 => ?_)
      refine lv_iload_n hx hb dX11_pool_14 rfl (lv_at hl 3 rfl) ?_
      refine lv_iconst (v := 0) hx hb dX11_pool_15 (by decide) ?_
      refine lv_iconst (v := 3) hx hb dX11_pool_16 (by decide) ?_
      refine z_ci hW hS hA (va_runS (As := [.int a3, .int 0, .int 3]) (rest := []) ⟨hx, hb, hml, hown, hts⟩ (sx_X11_within_e l G ad c I  a3 0 3 _) (va_cwS 3 hts gX11_pool_X11_within rfl rfl rfl (by decide +kernel) ⟨Nat.le_of_ble_eq_true rfl, Nat.le_of_ble_eq_true rfl⟩) (z_preS hK hW) rfl rfl hl.1 rfl (lv_room (Nat.le_of_ble_eq_true rfl)) dX11_pool_17 ⟨Nat.le_of_ble_eq_true rfl, Nat.le_of_ble_eq_true rfl⟩) (fun r u1 H locs hp hW hS => ?_)
      obtain ⟨e9, hp⟩ := hp
      rw [e9] at hW
      rcases hp with ⟨rfl, h7⟩ | ⟨rfl, h7⟩
      · have h8 := h7
        have z9 := z_l0
        have z10 := z_l3
        refine lv_if_ne (tgt := 25) hx hb dX11_pool_20 (by decide) (fun c11 => ?_) (fun c11 => absurd c11 (by decide))
        refine lv_aload_n hx hb dX11_pool_25 rfl (lv_at hl 0 rfl) ?_
        refine z_get (T := TX11) (N := 13) (ci := 11) (i := 0) (v := .ref (ad 60)) hx hb hts zj_X11_pool_X11 hown hK hW rfl rfl 11 (by decide) (hts (.fieldLink RX11 68 "PetrolBoard" "journeys" "LPetrolBoard$Journeys;") (me_s (me_l (me_l (me_l (me_l (List.mem_of_getElem? (i := 0) rfl))))))) (fun _ h => h) rfl dX11_pool_26 ?_
        refine lv_aload_n hx hb dX11_pool_29 rfl (lv_at hl 0 rfl) ?_
        refine z_get (T := TX11) (N := 13) (ci := 11) (i := 0) (v := .ref (ad 1)) hx hb hts zj_X11_pool_X11 hown hK hW rfl rfl 2 (by decide) (hts (.fieldLink RX11 16 "PetrolBoard" "holders" "LPetrolBoard$Holders;") (me_s (me_l (me_l (me_l (me_l (List.mem_of_getElem? (i := 1) rfl))))))) (fun _ h => h) rfl dX11_pool_30 ?_
        refine lv_iload_n hx hb dX11_pool_33 rfl (lv_at hl 1 rfl) ?_
        refine lv_iload_n hx hb dX11_pool_34 rfl (lv_at hl 2 rfl) ?_
        refine z_ci hW hS hA (va_runV (As := [.ref (ad 1), .int a1, .int a2]) (rest := []) ⟨hx, hb, hml, hown, hts⟩ (sx_X3_poolOf_x l G ad c I ⟨(by show 0 ≤ (I 60 9).toInt ∧ (I 60 9).toInt ≤ 60; exact hJ.1), (by show 0 ≤ (I 60 12).toInt ∧ (I 60 12).toInt ≤ 12; exact hJ.2)⟩ ⟨(by show 0 ≤ (I 1 5).toInt ∧ (I 1 5).toInt ≤ 30; exact hH.1), (by show 0 ≤ (I 1 11).toInt ∧ (I 1 11).toInt ≤ 200; exact hH.2)⟩ a1 a2 hJw _) (cwV 3 hts gX11_pool_X3_poolOf rfl rfl rfl (by decide +kernel) ⟨Nat.le_of_ble_eq_true rfl, Nat.le_of_ble_eq_true rfl⟩) (z_preV (i := 60) hK hW rfl rfl) rfl rfl hl.1 rfl (lv_room (Nat.le_of_ble_eq_true rfl)) dX11_pool_35 ⟨Nat.le_of_ble_eq_true rfl, Nat.le_of_ble_eq_true rfl⟩) (fun r u1 H locs hp hW hS => ?_)
        obtain ⟨I12, e9, hI12J, hI12H, fI12, hp⟩ := hp
        rw [e9] at hW
        have f13 := z_fr_sub (L := L_X11_pool_x) z_fr_0 fI12 (by decide)
        obtain ⟨hB14, hX15, hp⟩ := hp
        rcases hp with ⟨rfl, hr16⟩ | ⟨rfl, hr16⟩
        · refine lv_if_ne (tgt := 43) hx hb dX11_pool_38 (by decide) (fun c17 => ?_) (fun c17 => absurd c17 (by decide))
          refine lv_iload_n hx hb dX11_pool_43 rfl (lv_at hl 3 rfl) ?_
          by_cases q18 : a3 = 0
          · refine lv_tableIn (tgt := 72) hx hb dX11_pool_44 (by rw [q18]; decide) (by rw [q18]; decide) (by rw [q18]; rfl) (by decide) ?_
            refine lv_aload_n hx hb dX11_pool_72 rfl (lv_at hl 0 rfl) ?_
            refine z_get (T := TX11) (N := 13) (ci := 11) (i := 0) (v := .ref (ad 60)) hx hb hts zj_X11_pool_X11 hown hK hW rfl rfl 11 (by decide) (hts (.fieldLink RX11 68 "PetrolBoard" "journeys" "LPetrolBoard$Journeys;") (me_s (me_l (me_l (me_l (me_l (List.mem_of_getElem? (i := 0) rfl))))))) (fun _ h => h) rfl dX11_pool_73 ?_
            refine z_get (T := TX3) (N := 17) (ci := 3) (i := 60) (v := .int (I12 60 14)) hx hb hts zj_X11_pool_X3 hown hK hW rfl rfl 14 (by decide) (hts (.fieldLink RX11 353 "PetrolBoard$Journeys" "poolCars" "I") (me_s (me_l (me_l (me_l (me_l (List.mem_of_getElem? (i := 2) rfl))))))) (fun _ h => h) rfl dX11_pool_76 ?_
            exact z_iret hx hb hr hK hS (Nat.le_of_ble_eq_true rfl) (Nat.le_of_ble_eq_true rfl) hlocks dX11_pool_79 (shC c, ad, I12, JX, PC c ad) hW ⟨I12, rfl, ⟨(by show 0 ≤ (I12 1 5).toInt ∧ (I12 1 5).toInt ≤ 30; exact hI12H.1), (by show 0 ≤ (I12 1 11).toInt ∧ (I12 1 11).toInt ≤ 200; exact hI12H.2)⟩, ⟨(by show 0 ≤ (I12 60 9).toInt ∧ (I12 60 9).toInt ≤ 60; exact hI12J.1), (by show 0 ≤ (I12 60 12).toInt ∧ (I12 60 12).toInt ≤ 12; exact hI12J.2)⟩, f13, (Or.inl ⟨by omega, zq_axr hB14 hX15 (by first | exact Or.inl ⟨hr16, by decide⟩ | exact Or.inr (Or.inl ⟨hr16, by omega, rfl⟩) | exact Or.inr (Or.inr (Or.inl ⟨hr16, by omega, rfl⟩)) | exact Or.inr (Or.inr (Or.inr (Or.inl ⟨hr16, by omega, rfl⟩))) | exact Or.inr (Or.inr (Or.inr (Or.inr ⟨hr16, by omega, rfl⟩))))⟩)⟩
          by_cases q19 : a3 = 1
          · refine lv_tableIn (tgt := 80) hx hb dX11_pool_44 (by rw [q19]; decide) (by rw [q19]; decide) (by rw [q19]; rfl) (by decide) ?_
            refine lv_aload_n hx hb dX11_pool_80 rfl (lv_at hl 0 rfl) ?_
            refine z_get (T := TX11) (N := 13) (ci := 11) (i := 0) (v := .ref (ad 60)) hx hb hts zj_X11_pool_X11 hown hK hW rfl rfl 11 (by decide) (hts (.fieldLink RX11 68 "PetrolBoard" "journeys" "LPetrolBoard$Journeys;") (me_s (me_l (me_l (me_l (me_l (List.mem_of_getElem? (i := 0) rfl))))))) (fun _ h => h) rfl dX11_pool_81 ?_
            refine z_get (T := TX3) (N := 17) (ci := 3) (i := 60) (v := .int (I12 60 15)) hx hb hts zj_X11_pool_X3 hown hK hW rfl rfl 15 (by decide) (hts (.fieldLink RX11 356 "PetrolBoard$Journeys" "poolCost" "I") (me_s (me_l (me_l (me_l (me_l (List.mem_of_getElem? (i := 3) rfl))))))) (fun _ h => h) rfl dX11_pool_84 ?_
            exact z_iret hx hb hr hK hS (Nat.le_of_ble_eq_true rfl) (Nat.le_of_ble_eq_true rfl) hlocks dX11_pool_87 (shC c, ad, I12, JX, PC c ad) hW ⟨I12, rfl, ⟨(by show 0 ≤ (I12 1 5).toInt ∧ (I12 1 5).toInt ≤ 30; exact hI12H.1), (by show 0 ≤ (I12 1 11).toInt ∧ (I12 1 11).toInt ≤ 200; exact hI12H.2)⟩, ⟨(by show 0 ≤ (I12 60 9).toInt ∧ (I12 60 9).toInt ≤ 60; exact hI12J.1), (by show 0 ≤ (I12 60 12).toInt ∧ (I12 60 12).toInt ≤ 12; exact hI12J.2)⟩, f13, (Or.inl ⟨by omega, zq_axr hB14 hX15 (by first | exact Or.inl ⟨hr16, by decide⟩ | exact Or.inr (Or.inl ⟨hr16, by omega, rfl⟩) | exact Or.inr (Or.inr (Or.inl ⟨hr16, by omega, rfl⟩)) | exact Or.inr (Or.inr (Or.inr (Or.inl ⟨hr16, by omega, rfl⟩))) | exact Or.inr (Or.inr (Or.inr (Or.inr ⟨hr16, by omega, rfl⟩))))⟩)⟩
          by_cases q20 : a3 = 2
          · refine lv_tableIn (tgt := 88) hx hb dX11_pool_44 (by rw [q20]; decide) (by rw [q20]; decide) (by rw [q20]; rfl) (by decide) ?_
            refine lv_aload_n hx hb dX11_pool_88 rfl (lv_at hl 0 rfl) ?_
            refine z_get (T := TX11) (N := 13) (ci := 11) (i := 0) (v := .ref (ad 60)) hx hb hts zj_X11_pool_X11 hown hK hW rfl rfl 11 (by decide) (hts (.fieldLink RX11 68 "PetrolBoard" "journeys" "LPetrolBoard$Journeys;") (me_s (me_l (me_l (me_l (me_l (List.mem_of_getElem? (i := 0) rfl))))))) (fun _ h => h) rfl dX11_pool_89 ?_
            refine z_get (T := TX3) (N := 17) (ci := 3) (i := 60) (v := .int (I12 60 16)) hx hb hts zj_X11_pool_X3 hown hK hW rfl rfl 16 (by decide) (hts (.fieldLink RX11 359 "PetrolBoard$Journeys" "poolSet" "I") (me_s (me_l (me_l (me_l (me_l (List.mem_of_getElem? (i := 4) rfl))))))) (fun _ h => h) rfl dX11_pool_92 ?_
            exact z_iret hx hb hr hK hS (Nat.le_of_ble_eq_true rfl) (Nat.le_of_ble_eq_true rfl) hlocks dX11_pool_95 (shC c, ad, I12, JX, PC c ad) hW ⟨I12, rfl, ⟨(by show 0 ≤ (I12 1 5).toInt ∧ (I12 1 5).toInt ≤ 30; exact hI12H.1), (by show 0 ≤ (I12 1 11).toInt ∧ (I12 1 11).toInt ≤ 200; exact hI12H.2)⟩, ⟨(by show 0 ≤ (I12 60 9).toInt ∧ (I12 60 9).toInt ≤ 60; exact hI12J.1), (by show 0 ≤ (I12 60 12).toInt ∧ (I12 60 12).toInt ≤ 12; exact hI12J.2)⟩, f13, (Or.inl ⟨by omega, zq_axr hB14 hX15 (by first | exact Or.inl ⟨hr16, by decide⟩ | exact Or.inr (Or.inl ⟨hr16, by omega, rfl⟩) | exact Or.inr (Or.inr (Or.inl ⟨hr16, by omega, rfl⟩)) | exact Or.inr (Or.inr (Or.inr (Or.inl ⟨hr16, by omega, rfl⟩))) | exact Or.inr (Or.inr (Or.inr (Or.inr ⟨hr16, by omega, rfl⟩))))⟩)⟩
          have q18 := z_f_ne rfl z_l0 q18
          have q19 := z_f_ne rfl z_l1 q19
          have q20 := z_f_ne rfl z_l2 q20
          refine lv_tableOut (tgt := 96) hx hb dX11_pool_44 (by omega) (by decide) ?_
          refine lv_aload_n hx hb dX11_pool_96 rfl (lv_at hl 0 rfl) ?_
          refine z_get (T := TX11) (N := 13) (ci := 11) (i := 0) (v := .ref (ad 60)) hx hb hts zj_X11_pool_X11 hown hK hW rfl rfl 11 (by decide) (hts (.fieldLink RX11 68 "PetrolBoard" "journeys" "LPetrolBoard$Journeys;") (me_s (me_l (me_l (me_l (me_l (List.mem_of_getElem? (i := 0) rfl))))))) (fun _ h => h) rfl dX11_pool_97 ?_
          refine z_get (T := TX3) (N := 17) (ci := 3) (i := 60) (v := .int (I12 60 13)) hx hb hts zj_X11_pool_X3 hown hK hW rfl rfl 13 (by decide) (hts (.fieldLink RX11 362 "PetrolBoard$Journeys" "poolPeople" "I") (me_s (me_l (me_l (me_l (me_l (List.mem_of_getElem? (i := 5) rfl))))))) (fun _ h => h) rfl dX11_pool_100 ?_
          exact z_iret hx hb hr hK hS (Nat.le_of_ble_eq_true rfl) (Nat.le_of_ble_eq_true rfl) hlocks dX11_pool_103 (shC c, ad, I12, JX, PC c ad) hW ⟨I12, rfl, ⟨(by show 0 ≤ (I12 1 5).toInt ∧ (I12 1 5).toInt ≤ 30; exact hI12H.1), (by show 0 ≤ (I12 1 11).toInt ∧ (I12 1 11).toInt ≤ 200; exact hI12H.2)⟩, ⟨(by show 0 ≤ (I12 60 9).toInt ∧ (I12 60 9).toInt ≤ 60; exact hI12J.1), (by show 0 ≤ (I12 60 12).toInt ∧ (I12 60 12).toInt ≤ 12; exact hI12J.2)⟩, f13, (Or.inl ⟨by omega, zq_axr hB14 hX15 (by first | exact Or.inl ⟨hr16, by decide⟩ | exact Or.inr (Or.inl ⟨hr16, by omega, rfl⟩) | exact Or.inr (Or.inr (Or.inl ⟨hr16, by omega, rfl⟩)) | exact Or.inr (Or.inr (Or.inr (Or.inl ⟨hr16, by omega, rfl⟩))) | exact Or.inr (Or.inr (Or.inr (Or.inr ⟨hr16, by omega, rfl⟩))))⟩)⟩
        · refine lv_if_ne (tgt := 43) hx hb dX11_pool_38 (by decide) (fun c21 => absurd (by decide) c21) (fun c21 => ?_)
          refine lv_iconst (v := (-1)) hx hb dX11_pool_41 (by decide) ?_
          exact z_iret hx hb hr hK hS (Nat.le_of_ble_eq_true rfl) (Nat.le_of_ble_eq_true rfl) hlocks dX11_pool_42 (shC c, ad, I12, JX, PC c ad) hW ⟨I12, rfl, ⟨(by show 0 ≤ (I12 1 5).toInt ∧ (I12 1 5).toInt ≤ 30; exact hI12H.1), (by show 0 ≤ (I12 1 11).toInt ∧ (I12 1 11).toInt ≤ 200; exact hI12H.2)⟩, ⟨(by show 0 ≤ (I12 60 9).toInt ∧ (I12 60 9).toInt ≤ 60; exact hI12J.1), (by show 0 ≤ (I12 60 12).toInt ∧ (I12 60 12).toInt ≤ 12; exact hI12J.2)⟩, f13, (Or.inl ⟨by omega, zq_axr hB14 hX15 (by first | exact Or.inl ⟨hr16, by decide⟩ | exact Or.inr (Or.inl ⟨hr16, by omega, rfl⟩) | exact Or.inr (Or.inr (Or.inl ⟨hr16, by omega, rfl⟩)) | exact Or.inr (Or.inr (Or.inr (Or.inl ⟨hr16, by omega, rfl⟩))) | exact Or.inr (Or.inr (Or.inr (Or.inr ⟨hr16, by omega, rfl⟩))))⟩)⟩
      · have h22 := h7
        have z23 := z_l0
        have z24 := z_l3
        refine lv_if_ne (tgt := 25) hx hb dX11_pool_20 (by decide) (fun c25 => absurd (by decide) c25) (fun c25 => ?_)
        refine lv_iconst (v := (-1)) hx hb dX11_pool_23 (by decide) ?_
        exact z_iret hx hb hr hK hS (Nat.le_of_ble_eq_true rfl) (Nat.le_of_ble_eq_true rfl) hlocks dX11_pool_24 (shC c, ad, I, JX, PC c ad) hW ⟨I, rfl, ⟨(by show 0 ≤ (I 1 5).toInt ∧ (I 1 5).toInt ≤ 30; exact hH.1), (by show 0 ≤ (I 1 11).toInt ∧ (I 1 11).toInt ≤ 200; exact hH.2)⟩, ⟨(by show 0 ≤ (I 60 9).toInt ∧ (I 60 9).toInt ≤ 60; exact hJ.1), (by show 0 ≤ (I 60 12).toInt ∧ (I 60 12).toInt ≤ 12; exact hJ.2)⟩, z_fr_0, (Or.inr ⟨by omega, by decide⟩)⟩
    · have h26 := h4
      refine lv_if_eq (tgt := 23) hx hb dX11_pool_11 (by decide) (fun c27 => ?_) (fun c27 => absurd (by decide) c27)
      refine lv_iconst (v := (-1)) hx hb dX11_pool_23 (by decide) ?_
      exact z_iret hx hb hr hK hS (Nat.le_of_ble_eq_true rfl) (Nat.le_of_ble_eq_true rfl) hlocks dX11_pool_24 (shC c, ad, I, JX, PC c ad) hW ⟨I, rfl, ⟨(by show 0 ≤ (I 1 5).toInt ∧ (I 1 5).toInt ≤ 30; exact hH.1), (by show 0 ≤ (I 1 11).toInt ∧ (I 1 11).toInt ≤ 200; exact hH.2)⟩, ⟨(by show 0 ≤ (I 60 9).toInt ∧ (I 60 9).toInt ≤ 60; exact hJ.1), (by show 0 ≤ (I 60 12).toInt ∧ (I 60 12).toInt ≤ 12; exact hJ.2)⟩, z_fr_0, (Or.inr ⟨by omega, by decide⟩)⟩
  · have h28 := h1
    refine lv_if_eq (tgt := 23) hx hb dX11_pool_4 (by decide) (fun c29 => ?_) (fun c29 => absurd (by decide) c29)
    refine lv_iconst (v := (-1)) hx hb dX11_pool_23 (by decide) ?_
    exact z_iret hx hb hr hK hS (Nat.le_of_ble_eq_true rfl) (Nat.le_of_ble_eq_true rfl) hlocks dX11_pool_24 (shC c, ad, I, JX, PC c ad) hW ⟨I, rfl, ⟨(by show 0 ≤ (I 1 5).toInt ∧ (I 1 5).toInt ≤ 30; exact hH.1), (by show 0 ≤ (I 1 11).toInt ∧ (I 1 11).toInt ≤ 200; exact hH.2)⟩, ⟨(by show 0 ≤ (I 60 9).toInt ∧ (I 60 9).toInt ≤ 60; exact hJ.1), (by show 0 ≤ (I 60 12).toInt ∧ (I 60 12).toInt ≤ 12; exact hJ.2)⟩, z_fr_0, (Or.inr ⟨by omega, by decide⟩)⟩
set_option maxHeartbeats 8000000 in
set_option maxRecDepth 100000 in
theorem sx_X12_bits_x (l : Launch) (G : z_G) (ad : Nat → Nat) (I : z_I) (J : z_J) (a1 : Int32) (q1 : 0 ≤ a1.toInt ∧ a1.toInt ≤ 4095) : z_M l yX12_bits wsX12_bits { frames := 1, cells := 0, slots := 0, locals := 12 } [.int a1] G (shM, ad, I, J, PM ad) (fun r u1 => u1 = (shM, ad, I, J, PM ad) ∧ (r.toInt = (zq_pn a1.toNatClampNeg : Int))) 0 0 := by
  intro sz
  refine z_headQ (cc := cX12_bits) (maxL := 3) (ret := (some .int)) (by decide) rfl (Nat.le_of_ble_eq_true rfl) ?_
  intro p e s m below meth c0 ls hIn hK hsz hW hl
  obtain ⟨hx, hb, hr, hml, hown, hts, hlocks, hname⟩ := hIn
  subst hsz
  have hown : s.vm.findClass RX12 = some m.cls := hown
  have hA : ∀ q : Nat, s.heap.size ≤ q → z_A (shM, ad, I, J, PM ad) s.heap.size q := fun q h => Or.inr h
  generalize hAe : z_A (shM, ad, I, J, PM ad) s.heap.size = A at *
  have hS : va_S A s.heap s.heap [] := va_S.rf
  have hl : lv_has ls 3 [(0, .int a1)] := hl
  have hp12 := zq_pn_b a1.toNatClampNeg
  refine lv_iconst (v := 0) hx hb dX12_bits_0 (by decide) ?_
  refine lv_istore_n (lv' := [(1, .int 0), (0, .int a1)]) hx hb dX12_bits_1 rfl hl (by decide) rfl (fun ls hl => ?_)
  refine lv_iload_n hx hb dX12_bits_2 rfl (lv_at hl 1 rfl) ?_
  refine lv_istore_n (lv' := [(2, .int a1), (1, .int 0), (0, .int a1)]) hx hb dX12_bits_3 rfl hl (by decide) rfl (fun ls hl => ?_)
  have lp1 : ∀ (f : Nat) (y2 : Int32) (y3 : Int32) (H : Heap) (locs : List Loc) (ls : Array Slot), (y2.toInt + 2147483648 < (f : Int)) → (0 ≤ y2.toInt) → (y2.toInt ≤ 4095) → (0 ≤ y3.toInt) → (y3.toInt ≤ 32) → (y2.toInt ≤ a1.toInt) → (y3.toInt + (zq_pn y2.toNatClampNeg : Int) = (zq_pn a1.toNatClampNeg : Int)) → z_W G A (shM, ad, I, J, PM ad) H → va_S A s.heap H locs → lv_has ls 3 [(2, .int y2), (1, .int y3), (0, .int a1)] → W p l e (headSpec wsX12_bits { frames := 1, cells := 0, slots := 0, locals := 12 }).room s m ([.int a1] : List Value).toArray below meth c0 H locs 0 0 (MQ below (va_Qi (fun (r : Int32) (u1 : z_U) => u1 = (shM, ad, I, J, PM ad) ∧ (r.toInt = (zq_pn a1.toNatClampNeg : Int))) (z_B G A) A) ([.int a1] : List Value).toArray s 0 0 A) (F0 m 4 ls []) := by
    intro f
    induction f with
    | zero => intro y2 y3 H locs ls lp1m lp1l2 lp1u2 lp1l1 lp1u1 lp1z lp1B hW hS hl; exact absurd lp1m (by have := Int32.toInt_lt y2; have := Int32.le_toInt y2; omega)
    | succ f lp1ih =>
      intro y2 y3 H locs ls lp1m lp1l2 lp1u2 lp1l1 lp1u1 lp1z lp1B hW hS hl
      refine lv_iload_n hx hb dX12_bits_4 rfl (lv_at hl 0 rfl) ?_
      refine lv_if_eq (tgt := 20) hx hb dX12_bits_5 (by decide) (fun c4 => ?_) (fun c4 => ?_)
      · have g5 := z_f_eq rfl z_l0 c4
        refine lv_iload_n hx hb dX12_bits_20 rfl (lv_at hl 1 rfl) ?_
        exact z_iret hx hb hr hK hS (Nat.le_of_ble_eq_true rfl) (Nat.le_of_ble_eq_true rfl) hlocks dX12_bits_21 (shM, ad, I, J, PM ad) hW ⟨rfl, (by have q7 := lp1B; have c9 := z_clt (x := y2) rfl (by omega); rw [show y2.toNatClampNeg = 0 by omega, zq_pn_0] at q7; omega)⟩
      · have g6 := z_f_ne rfl z_l0 c4
        obtain ⟨x7, ex7⟩ : ∃ y : Int32, y = y3 + 1 := ⟨_, rfl⟩
        have tx7 : x7.toInt = y3.toInt + 1 := z_tadd ex7 rfl z_l1 (by omega) (by omega)
        refine lv_iinc (v := x7) (lv' := [(1, .int x7), (2, .int y2), (0, .int a1)]) hx hb dX12_bits_8 hl (k := 1) rfl (by rw [ex7]; rfl) (by decide) rfl (fun ls hl => ?_)
        refine lv_iload_n hx hb dX12_bits_11 rfl (lv_at hl 1 rfl) ?_
        refine lv_iload_n hx hb dX12_bits_12 rfl (lv_at hl 1 rfl) ?_
        refine lv_iconst (v := 1) hx hb dX12_bits_13 (by decide) ?_
        refine lv_isub hx hb dX12_bits_14 ?_
        refine lv_topi (fun x8 ex8 => ?_)
        have tx8 : x8.toInt = y2.toInt - 1 := z_tsub ex8 rfl z_l1 (by omega) (by omega)
        refine lv_iand hx hb dX12_bits_15 ?_
        refine lv_topi (fun x9 ex9 => ?_)
        have tx9 := z_tbits ex9 ex8 (by omega)
        refine lv_istore_n (lv' := [(2, .int x9), (1, .int x7), (0, .int a1)]) hx hb dX12_bits_16 rfl hl (by decide) rfl (fun ls hl => ?_)
        refine lv_goto (tgt := 4) hx hb dX12_bits_17 (by decide) ?_
        exact lp1ih x9 x7 _ _ _ (by omega) (by omega) (by omega) (by omega) (by omega) (by omega) (by have c9 := z_clt (x := y2) rfl (by omega); have q9 := zq_x1 ex9 ex8 (by omega); have q8 := zq_an (n := y2.toNatClampNeg) (by omega) (by omega); rw [← q9] at q8; have q7 := lp1B; omega) hW hS (lv_sub hl [0, 1, 2] rfl)
  exact lp1 4294967296 a1 (0) _ _ _ (z_m0d _) (by omega) (by omega) (by rw [z_l0]; omega) (by rw [z_l0]; omega) (by omega) (by have q9 := z_l0; omega) hW hS (lv_sub hl [0, 1, 2] rfl)
noncomputable def L_X12_pool_x : z_L := [(68, 999)]
set_option maxHeartbeats 8000000 in
set_option maxRecDepth 100000 in
theorem sx_X12_pool_x (l : Launch) (G : z_G) (ad : Nat → Nat) (I : z_I) (J : z_J) (hma : z_ima I) (hmj : z_imj I) (hApl : z_rg 68 0 59 I) (hAjw : z_rg 59 0 29 I) (a1 : Int32) (a2 : Int32) (a3 : Int32) : z_M l yX12_pool wsX12_pool { frames := 2, cells := 0, slots := 0, locals := 34 } [.ref (ad 0), .int a1, .int a2, .int a3] G (shM, ad, I, J, PM ad) (fun r u1 => ∃ (I1 : z_I) (J1 : z_J), u1 = (shM, ad, I1, J1, PM ad) ∧ z_ima I1 ∧ z_imj I1 ∧ z_rg 68 0 59 I1 ∧ z_rg 59 0 29 I1 ∧ z_fr L_X12_pool_x I1 I ∧ (((0 ≤ a3.toInt ∧ a3.toInt ≤ 3) ∧ r.toInt = zq_am I a1.toInt a2.toInt a3.toInt (I 0 83).toNatClampNeg) ∨ (¬ (0 ≤ a3.toInt ∧ a3.toInt ≤ 3) ∧ r.toInt = -1))) 0 0 := by
  intro sz
  refine z_headQ (cc := cX12_pool) (maxL := 12) (ret := (some .int)) (by decide) rfl (Nat.le_of_ble_eq_true rfl) ?_
  intro p e s m below meth c0 ls hIn hK hsz hW hl
  obtain ⟨hx, hb, hr, hml, hown, hts, hlocks, hname⟩ := hIn
  subst hsz
  have hown : s.vm.findClass RX12 = some m.cls := hown
  have hA : ∀ q : Nat, s.heap.size ≤ q → z_A (shM, ad, I, J, PM ad) s.heap.size q := fun q h => Or.inr h
  generalize hAe : z_A (shM, ad, I, J, PM ad) s.heap.size = A at *
  have hS : va_S A s.heap s.heap [] := va_S.rf
  have hl : lv_has ls 12 [(0, .ref (ad 0)), (1, .int a1), (2, .int a2), (3, .int a3)] := hl
  refine lv_iload_n hx hb dX12_pool_0 rfl (lv_at hl 3 rfl) ?_
  refine lv_iconst (v := 0) hx hb dX12_pool_1 (by decide) ?_
  refine lv_iconst (v := 3) hx hb dX12_pool_2 (by decide) ?_
  refine z_ci hW hS hA (va_runS (As := [.int a3, .int 0, .int 3]) (rest := []) ⟨hx, hb, hml, hown, hts⟩ (sx_X12_within_e l G ad I J  a3 0 3 _) (va_cwS 3 hts gX12_pool_X12_within rfl rfl rfl (by decide +kernel) ⟨Nat.le_of_ble_eq_true rfl, Nat.le_of_ble_eq_true rfl⟩) (z_preS hK hW) rfl rfl hl.1 rfl (lv_room (Nat.le_of_ble_eq_true rfl)) dX12_pool_3 ⟨Nat.le_of_ble_eq_true rfl, Nat.le_of_ble_eq_true rfl⟩) (fun r u1 H locs hp hW hS => ?_)
  obtain ⟨e9, hp⟩ := hp
  rw [e9] at hW
  rcases hp with ⟨rfl, h1⟩ | ⟨rfl, h1⟩
  · have h2 := h1
    have z3 := z_l0
    have z4 := z_l3
    refine lv_if_ne (tgt := 11) hx hb dX12_pool_6 (by decide) (fun c5 => ?_) (fun c5 => absurd c5 (by decide))
    refine lv_iconst (v := 0) hx hb dX12_pool_11 (by decide) ?_
    refine lv_istore (lv' := [(4, .int 0), (0, .ref (ad 0)), (1, .int a1), (2, .int a2), (3, .int a3)]) hx hb dX12_pool_12 hl (by decide) rfl (fun ls hl => ?_)
    refine lv_iconst (v := 0) hx hb dX12_pool_14 (by decide) ?_
    refine lv_istore (lv' := [(5, .int 0), (4, .int 0), (0, .ref (ad 0)), (1, .int a1), (2, .int a2), (3, .int a3)]) hx hb dX12_pool_15 hl (by decide) rfl (fun ls hl => ?_)
    refine lv_iconst (v := 0) hx hb dX12_pool_17 (by decide) ?_
    refine lv_istore (lv' := [(6, .int 0), (5, .int 0), (4, .int 0), (0, .ref (ad 0)), (1, .int a1), (2, .int a2), (3, .int a3)]) hx hb dX12_pool_18 hl (by decide) rfl (fun ls hl => ?_)
    have lp6 : ∀ (f : Nat) (y7 : Int32) (y8 : Int32) (y9 : Int32) (I10 : z_I) (J11 : z_J) (H : Heap) (locs : List Loc) (ls : Array Slot), (2147483647 < y7.toInt + (f : Int)) → (0 ≤ y7.toInt) → (0 ≤ y9.toInt) → (y9.toInt ≤ 12) → (z_ima I10) → (z_imj I10) → (z_rg 68 0 59 I10) → (z_rg 59 0 29 I10) → (zq_mB I I10 a1.toInt a2.toInt y9 y8 y7 ∧ y7.toInt ≤ (I 0 83).toInt) → (z_fr L_X12_pool_x I10 I) → z_W G A (shM, ad, I10, J11, PM ad) H → va_S A s.heap H locs → lv_has ls 12 [(6, .int y7), (5, .int y8), (4, .int y9), (0, .ref (ad 0)), (1, .int a1), (2, .int a2), (3, .int a3)] → W p l e (headSpec wsX12_pool { frames := 2, cells := 0, slots := 0, locals := 34 }).room s m ([.ref (ad 0), .int a1, .int a2, .int a3] : List Value).toArray below meth c0 H locs 0 0 (MQ below (va_Qi (fun (r : Int32) (u1 : z_U) => ∃ (I1 : z_I) (J1 : z_J), u1 = (shM, ad, I1, J1, PM ad) ∧ z_ima I1 ∧ z_imj I1 ∧ z_rg 68 0 59 I1 ∧ z_rg 59 0 29 I1 ∧ z_fr L_X12_pool_x I1 I ∧ (((0 ≤ a3.toInt ∧ a3.toInt ≤ 3) ∧ r.toInt = zq_am I a1.toInt a2.toInt a3.toInt (I 0 83).toNatClampNeg) ∨ (¬ (0 ≤ a3.toInt ∧ a3.toInt ≤ 3) ∧ r.toInt = -1))) (z_B G A) A) ([.ref (ad 0), .int a1, .int a2, .int a3] : List Value).toArray s 0 0 A) (F0 m 20 ls []) := by
      intro f
      induction f with
      | zero => intro y7 y8 y9 I10 J11 H locs ls lp6m lp6l6 lp6l4 lp6u4 lp6ma lp6mj lp6Apl lp6Ajw lp6M lp6fr hW hS hl; exact absurd lp6m (by have := Int32.toInt_lt y7; have := Int32.le_toInt y7; omega)
      | succ f lp6ih =>
        intro y7 y8 y9 I10 J11 H locs ls lp6m lp6l6 lp6l4 lp6u4 lp6ma lp6mj lp6Apl lp6Ajw lp6M lp6fr hW hS hl
        refine lv_iload hx hb dX12_pool_20 (lv_at hl 0 rfl) ?_
        refine lv_aload_n hx hb dX12_pool_22 rfl (lv_at hl 3 rfl) ?_
        have r12 : 0 ≤ (I10 0 83).toInt ∧ (I10 0 83).toInt ≤ 60 := lp6mj
        refine z_get (T := TX12) (N := 96) (ci := 12) (i := 0) (v := .int (I10 0 83)) hx hb hts zj_X12_pool_X12 hown hK hW rfl rfl 83 (by decide) (hts (.fieldLink RX12 505 "PetrolBoardModel" "journeys" "I") (me_s (me_l (List.mem_of_getElem? (i := 0) rfl)))) (fun _ h => h) rfl dX12_pool_23 ?_
        refine lv_icmp_ge (tgt := 91) hx hb dX12_pool_26 (by decide) (fun c13 => ?_) (fun c13 => ?_)
        · have g14 := z_f_ge rfl rfl c13
          have b15 := Int32.toInt_lt y7
          obtain ⟨⟨gm1, gm2, gm3⟩, gm4⟩ := lp6M
          have cj9 := z_clt (x := y7) rfl (by omega)
          have cn9 := z_clt (x := (I 0 83)) rfl (by omega)
          have c49 := z_clt (x := y9) rfl (by omega)
          have he9 : zq_ml I a1.toInt a2.toInt (I 0 83).toNatClampNeg = zq_ml I a1.toInt a2.toInt y7.toNatClampNeg := zq_end (by unfold zq_ml at gm1; omega)
          rw [← he9] at gm1 gm2 gm3
          have hn9 : y9.toNatClampNeg = zq_mn I a1.toInt a2.toInt (I 0 83).toNatClampNeg := by unfold zq_mn; omega
          have hP9 : (zq_mPP I a1.toInt a2.toInt (I 0 83).toNatClampNeg).toInt = y8.toInt := congrArg Int32.toInt gm2.symm
          refine lv_iload hx hb dX12_pool_91 (lv_at hl 2 rfl) ?_
          refine lv_if_ne (tgt := 98) hx hb dX12_pool_93 (by decide) (fun c16 => ?_) (fun c16 => ?_)
          · have g17 := z_f_ne rfl z_l0 c16
            refine lv_iconst (v := (-1)) hx hb dX12_pool_98 (by decide) ?_
            refine lv_istore (lv' := [(6, .int (-1)), (5, .int y8), (4, .int y9), (0, .ref (ad 0)), (1, .int a1), (2, .int a2), (3, .int a3)]) hx hb dX12_pool_99 hl (by decide) rfl (fun ls hl => ?_)
            refine lv_iconst (v := 0) hx hb dX12_pool_101 (by decide) ?_
            refine lv_istore (lv' := [(7, .int 0), (6, .int (-1)), (5, .int y8), (4, .int y9), (0, .ref (ad 0)), (1, .int a1), (2, .int a2), (3, .int a3)]) hx hb dX12_pool_102 hl (by decide) rfl (fun ls hl => ?_)
            refine lv_iconst (v := 1) hx hb dX12_pool_104 (by decide) ?_
            refine lv_istore (lv' := [(8, .int 1), (7, .int 0), (6, .int (-1)), (5, .int y8), (4, .int y9), (0, .ref (ad 0)), (1, .int a1), (2, .int a2), (3, .int a3)]) hx hb dX12_pool_105 hl (by decide) rfl (fun ls hl => ?_)
            have lp18 : ∀ (f : Nat) (y19 : Int32) (y20 : Int32) (y21 : Int32) (H : Heap) (locs : List Loc) (ls : Array Slot), (2147483647 < y19.toInt + (f : Int)) → (1 ≤ y19.toInt) → (y19.toInt ≤ 4096) → ((-1) ≤ y21.toInt) → (y21.toInt ≤ 4095) → (zq_mX I a1.toInt a2.toInt (I 0 83).toNatClampNeg (y19.toNatClampNeg - 1) y21 y20 ∧ y19.toInt ≤ ((2 ^ zq_mn I a1.toInt a2.toInt (I 0 83).toNatClampNeg : Nat) : Int)) → z_W G A (shM, ad, I10, J11, PM ad) H → va_S A s.heap H locs → lv_has ls 12 [(8, .int y19), (7, .int y20), (6, .int y21), (5, .int y8), (4, .int y9), (0, .ref (ad 0)), (1, .int a1), (2, .int a2), (3, .int a3)] → W p l e (headSpec wsX12_pool { frames := 2, cells := 0, slots := 0, locals := 34 }).room s m ([.ref (ad 0), .int a1, .int a2, .int a3] : List Value).toArray below meth c0 H locs 0 0 (MQ below (va_Qi (fun (r : Int32) (u1 : z_U) => ∃ (I1 : z_I) (J1 : z_J), u1 = (shM, ad, I1, J1, PM ad) ∧ z_ima I1 ∧ z_imj I1 ∧ z_rg 68 0 59 I1 ∧ z_rg 59 0 29 I1 ∧ z_fr L_X12_pool_x I1 I ∧ (((0 ≤ a3.toInt ∧ a3.toInt ≤ 3) ∧ r.toInt = zq_am I a1.toInt a2.toInt a3.toInt (I 0 83).toNatClampNeg) ∨ (¬ (0 ≤ a3.toInt ∧ a3.toInt ≤ 3) ∧ r.toInt = -1))) (z_B G A) A) ([.ref (ad 0), .int a1, .int a2, .int a3] : List Value).toArray s 0 0 A) (F0 m 107 ls []) := by
              intro f
              induction f with
              | zero => intro y19 y20 y21 H locs ls lp18m lp18l8 lp18u8 lp18l6 lp18u6 lp18X hW hS hl; exact absurd lp18m (by have := Int32.toInt_lt y19; have := Int32.le_toInt y19; omega)
              | succ f lp18ih =>
                intro y19 y20 y21 H locs ls lp18m lp18l8 lp18u8 lp18l6 lp18u6 lp18X hW hS hl
                refine lv_iload hx hb dX12_pool_107 (lv_at hl 0 rfl) ?_
                refine lv_iconst (v := 1) hx hb dX12_pool_109 (by decide) ?_
                refine lv_iload hx hb dX12_pool_110 (lv_at hl 4 rfl) ?_
                refine lv_ishl hx hb dX12_pool_112 ?_
                refine lv_topi (fun x22 ex22 => ?_)
                have hs23 := zq_sh ex22 (show 0 ≤ y9.toInt ∧ y9.toInt ≤ 12 by omega)
                rw [hn9] at hs23
                refine lv_icmp_ge (tgt := 270) hx hb dX12_pool_113 (by decide) (fun c24 => ?_) (fun c24 => ?_)
                · have g25 := z_f_ge rfl rfl c24
                  refine lv_iload hx hb dX12_pool_270 (lv_at hl 2 rfl) ?_
                  refine lv_if_ge (tgt := 277) hx hb dX12_pool_272 (by decide) (fun c26 => ?_) (fun c26 => ?_)
                  · have g27 := z_f_ge rfl z_l0 c26
                    refine lv_iload_n hx hb dX12_pool_277 rfl (lv_at hl 8 rfl) ?_
                    refine lv_if_ne (tgt := 289) hx hb dX12_pool_278 (by decide) (fun c28 => ?_) (fun c28 => ?_)
                    · have g29 := z_f_ne rfl z_l0 c28
                      refine lv_iload_n hx hb dX12_pool_289 rfl (lv_at hl 8 rfl) ?_
                      refine lv_iconst (v := 1) hx hb dX12_pool_290 (by decide) ?_
                      refine lv_icmp_ne (tgt := 299) hx hb dX12_pool_291 (by decide) (fun c30 => ?_) (fun c30 => ?_)
                      · have g31 := z_f_ne rfl z_l1 c30
                        refine lv_iload_n hx hb dX12_pool_299 rfl (lv_at hl 8 rfl) ?_
                        refine lv_iconst (v := 2) hx hb dX12_pool_300 (by decide) ?_
                        refine lv_icmp_ne (tgt := 309) hx hb dX12_pool_301 (by decide) (fun c32 => ?_) (fun c32 => ?_)
                        · have g33 := z_f_ne rfl z_l2 c32
                          refine lv_iload hx hb dX12_pool_309 (lv_at hl 3 rfl) ?_
                          exact z_iret hx hb hr hK hS (Nat.le_of_ble_eq_true rfl) (Nat.le_of_ble_eq_true rfl) hlocks dX12_pool_311 (shM, ad, I10, J11, PM ad) hW ⟨I10, J11, rfl, ⟨(by show 0 ≤ (I10 0 0).toInt ∧ (I10 0 0).toInt ≤ 719; exact lp6ma.1), (by show 0 ≤ (I10 0 1).toInt ∧ (I10 0 1).toInt ≤ 30; exact lp6ma.2.1), (by show 0 ≤ (I10 0 2).toInt ∧ (I10 0 2).toInt ≤ 200; exact lp6ma.2.2)⟩, (by show 0 ≤ (I10 0 83).toInt ∧ (I10 0 83).toInt ≤ 60; exact lp6mj), lp6Apl, lp6Ajw, lp6fr, (Or.inl ⟨by omega, (by have c9 := z_clt (x := y19) rfl (by omega); have q9 : 1 ≤ 2 ^ zq_mn I a1.toInt a2.toInt (I 0 83).toNatClampNeg := Nat.one_le_two_pow; have x9 := lp18X.1; rw [show y19.toNatClampNeg - 1 = zq_2 (zq_mn I a1.toInt a2.toInt (I 0 83).toNatClampNeg) by unfold zq_2; omega] at x9; exact zq_amr x9 (Or.inr (Or.inr (Or.inr (Or.inr ⟨by omega, by omega, hP9.symm⟩)))))⟩)⟩
                        · have g34 := z_f_eq rfl z_l2 c32
                          refine lv_iload hx hb dX12_pool_304 (lv_at hl 2 rfl) ?_
                          refine lv_goto (tgt := 311) hx hb dX12_pool_306 (by decide) ?_
                          exact z_iret hx hb hr hK hS (Nat.le_of_ble_eq_true rfl) (Nat.le_of_ble_eq_true rfl) hlocks dX12_pool_311 (shM, ad, I10, J11, PM ad) hW ⟨I10, J11, rfl, ⟨(by show 0 ≤ (I10 0 0).toInt ∧ (I10 0 0).toInt ≤ 719; exact lp6ma.1), (by show 0 ≤ (I10 0 1).toInt ∧ (I10 0 1).toInt ≤ 30; exact lp6ma.2.1), (by show 0 ≤ (I10 0 2).toInt ∧ (I10 0 2).toInt ≤ 200; exact lp6ma.2.2)⟩, (by show 0 ≤ (I10 0 83).toInt ∧ (I10 0 83).toInt ≤ 60; exact lp6mj), lp6Apl, lp6Ajw, lp6fr, (Or.inl ⟨by omega, (by have c9 := z_clt (x := y19) rfl (by omega); have q9 : 1 ≤ 2 ^ zq_mn I a1.toInt a2.toInt (I 0 83).toNatClampNeg := Nat.one_le_two_pow; have x9 := lp18X.1; rw [show y19.toNatClampNeg - 1 = zq_2 (zq_mn I a1.toInt a2.toInt (I 0 83).toNatClampNeg) by unfold zq_2; omega] at x9; exact zq_amr x9 (Or.inr (Or.inr (Or.inr (Or.inl ⟨by omega, by omega, rfl⟩)))))⟩)⟩
                      · have g35 := z_f_eq rfl z_l1 c30
                        refine lv_iload hx hb dX12_pool_294 (lv_at hl 1 rfl) ?_
                        refine lv_goto (tgt := 311) hx hb dX12_pool_296 (by decide) ?_
                        exact z_iret hx hb hr hK hS (Nat.le_of_ble_eq_true rfl) (Nat.le_of_ble_eq_true rfl) hlocks dX12_pool_311 (shM, ad, I10, J11, PM ad) hW ⟨I10, J11, rfl, ⟨(by show 0 ≤ (I10 0 0).toInt ∧ (I10 0 0).toInt ≤ 719; exact lp6ma.1), (by show 0 ≤ (I10 0 1).toInt ∧ (I10 0 1).toInt ≤ 30; exact lp6ma.2.1), (by show 0 ≤ (I10 0 2).toInt ∧ (I10 0 2).toInt ≤ 200; exact lp6ma.2.2)⟩, (by show 0 ≤ (I10 0 83).toInt ∧ (I10 0 83).toInt ≤ 60; exact lp6mj), lp6Apl, lp6Ajw, lp6fr, (Or.inl ⟨by omega, (by have c9 := z_clt (x := y19) rfl (by omega); have q9 : 1 ≤ 2 ^ zq_mn I a1.toInt a2.toInt (I 0 83).toNatClampNeg := Nat.one_le_two_pow; have x9 := lp18X.1; rw [show y19.toNatClampNeg - 1 = zq_2 (zq_mn I a1.toInt a2.toInt (I 0 83).toNatClampNeg) by unfold zq_2; omega] at x9; exact zq_amr x9 (Or.inr (Or.inr (Or.inl ⟨by omega, by omega, rfl⟩))))⟩)⟩
                    · have g36 := z_f_eq rfl z_l0 c28
                      refine lv_iload hx hb dX12_pool_281 (lv_at hl 2 rfl) ?_
                      refine z_ci hW hS hA (va_runS (As := [.int y21]) (rest := []) ⟨hx, hb, hml, hown, hts⟩ (sx_X12_bits_x l G ad I10 J11 y21 (by omega) _) (va_cwS 1 hts gX12_pool_X12_bits rfl rfl rfl (by decide +kernel) ⟨Nat.le_of_ble_eq_true rfl, Nat.le_of_ble_eq_true rfl⟩) (z_preS hK hW) rfl rfl hl.1 rfl (lv_room (Nat.le_of_ble_eq_true rfl)) dX12_pool_283 ⟨Nat.le_of_ble_eq_true rfl, Nat.le_of_ble_eq_true rfl⟩) (fun r u1 H locs hp hW hS => ?_)
                      obtain ⟨e9, hp⟩ := hp
                      rw [e9] at hW
                      refine lv_topi (fun x37 ex37 => ?_)
                      rw [← ex37] at hp
                      have hv38 := hp
                      refine lv_goto (tgt := 311) hx hb dX12_pool_286 (by decide) ?_
                      exact z_iret hx hb hr hK hS (Nat.le_of_ble_eq_true rfl) (Nat.le_of_ble_eq_true rfl) hlocks dX12_pool_311 (shM, ad, I10, J11, PM ad) hW ⟨I10, J11, rfl, ⟨(by show 0 ≤ (I10 0 0).toInt ∧ (I10 0 0).toInt ≤ 719; exact lp6ma.1), (by show 0 ≤ (I10 0 1).toInt ∧ (I10 0 1).toInt ≤ 30; exact lp6ma.2.1), (by show 0 ≤ (I10 0 2).toInt ∧ (I10 0 2).toInt ≤ 200; exact lp6ma.2.2)⟩, (by show 0 ≤ (I10 0 83).toInt ∧ (I10 0 83).toInt ≤ 60; exact lp6mj), lp6Apl, lp6Ajw, lp6fr, (Or.inl ⟨by omega, (by have c9 := z_clt (x := y19) rfl (by omega); have q9 : 1 ≤ 2 ^ zq_mn I a1.toInt a2.toInt (I 0 83).toNatClampNeg := Nat.one_le_two_pow; have x9 := lp18X.1; rw [show y19.toNatClampNeg - 1 = zq_2 (zq_mn I a1.toInt a2.toInt (I 0 83).toNatClampNeg) by unfold zq_2; omega] at x9; exact zq_amr x9 (Or.inr (Or.inl ⟨by omega, by omega, hv38⟩)))⟩)⟩
                  · have g39 := z_f_nge rfl z_l0 c26
                    refine lv_iconst (v := (-1)) hx hb dX12_pool_275 (by decide) ?_
                    exact z_iret hx hb hr hK hS (Nat.le_of_ble_eq_true rfl) (Nat.le_of_ble_eq_true rfl) hlocks dX12_pool_276 (shM, ad, I10, J11, PM ad) hW ⟨I10, J11, rfl, ⟨(by show 0 ≤ (I10 0 0).toInt ∧ (I10 0 0).toInt ≤ 719; exact lp6ma.1), (by show 0 ≤ (I10 0 1).toInt ∧ (I10 0 1).toInt ≤ 30; exact lp6ma.2.1), (by show 0 ≤ (I10 0 2).toInt ∧ (I10 0 2).toInt ≤ 200; exact lp6ma.2.2)⟩, (by show 0 ≤ (I10 0 83).toInt ∧ (I10 0 83).toInt ≤ 60; exact lp6mj), lp6Apl, lp6Ajw, lp6fr, (Or.inl ⟨by omega, (by have c9 := z_clt (x := y19) rfl (by omega); have q9 : 1 ≤ 2 ^ zq_mn I a1.toInt a2.toInt (I 0 83).toNatClampNeg := Nat.one_le_two_pow; have x9 := lp18X.1; rw [show y19.toNatClampNeg - 1 = zq_2 (zq_mn I a1.toInt a2.toInt (I 0 83).toNatClampNeg) by unfold zq_2; omega] at x9; exact zq_amr x9 (Or.inl ⟨by omega, by decide⟩))⟩)⟩
                · have g40 := z_f_nge rfl rfl c24
                  refine lv_iconst (v := 0) hx hb dX12_pool_116 (by decide) ?_
                  refine lv_istore (lv' := [(9, .int 0), (8, .int y19), (7, .int y20), (6, .int y21), (5, .int y8), (4, .int y9), (0, .ref (ad 0)), (1, .int a1), (2, .int a2), (3, .int a3)]) hx hb dX12_pool_117 hl (by decide) rfl (fun ls hl => ?_)
                  refine lv_iconst (v := 0) hx hb dX12_pool_119 (by decide) ?_
                  refine lv_istore (lv' := [(10, .int 0), (9, .int 0), (8, .int y19), (7, .int y20), (6, .int y21), (5, .int y8), (4, .int y9), (0, .ref (ad 0)), (1, .int a1), (2, .int a2), (3, .int a3)]) hx hb dX12_pool_120 hl (by decide) rfl (fun ls hl => ?_)
                  refine lv_iconst (v := 0) hx hb dX12_pool_122 (by decide) ?_
                  refine lv_istore (lv' := [(11, .int 0), (10, .int 0), (9, .int 0), (8, .int y19), (7, .int y20), (6, .int y21), (5, .int y8), (4, .int y9), (0, .ref (ad 0)), (1, .int a1), (2, .int a2), (3, .int a3)]) hx hb dX12_pool_123 hl (by decide) rfl (fun ls hl => ?_)
                  have lp41 : ∀ (f : Nat) (y42 : Int32) (y43 : Int32) (y44 : Int32) (H : Heap) (locs : List Loc) (ls : Array Slot), (2147483647 < y42.toInt + (f : Int)) → (0 ≤ y42.toInt) → (y44 = zq_sum (zq_mSS I a1.toInt a2.toInt (I 0 83).toNatClampNeg) y19 y42.toNatClampNeg ∧ y43 = zq_sum (zq_mCC I a1.toInt a2.toInt (I 0 83).toNatClampNeg) y19 y42.toNatClampNeg ∧ y42.toInt ≤ y9.toInt) → z_W G A (shM, ad, I10, J11, PM ad) H → va_S A s.heap H locs → lv_has ls 12 [(11, .int y42), (10, .int y43), (9, .int y44), (8, .int y19), (7, .int y20), (6, .int y21), (5, .int y8), (4, .int y9), (0, .ref (ad 0)), (1, .int a1), (2, .int a2), (3, .int a3)] → W p l e (headSpec wsX12_pool { frames := 2, cells := 0, slots := 0, locals := 34 }).room s m ([.ref (ad 0), .int a1, .int a2, .int a3] : List Value).toArray below meth c0 H locs 0 0 (MQ below (va_Qi (fun (r : Int32) (u1 : z_U) => ∃ (I1 : z_I) (J1 : z_J), u1 = (shM, ad, I1, J1, PM ad) ∧ z_ima I1 ∧ z_imj I1 ∧ z_rg 68 0 59 I1 ∧ z_rg 59 0 29 I1 ∧ z_fr L_X12_pool_x I1 I ∧ (((0 ≤ a3.toInt ∧ a3.toInt ≤ 3) ∧ r.toInt = zq_am I a1.toInt a2.toInt a3.toInt (I 0 83).toNatClampNeg) ∨ (¬ (0 ≤ a3.toInt ∧ a3.toInt ≤ 3) ∧ r.toInt = -1))) (z_B G A) A) ([.ref (ad 0), .int a1, .int a2, .int a3] : List Value).toArray s 0 0 A) (F0 m 125 ls []) := by
                    intro f
                    induction f with
                    | zero => intro y42 y43 y44 H locs ls lp41m lp41l11 lp41S hW hS hl; exact absurd lp41m (by have := Int32.toInt_lt y42; have := Int32.le_toInt y42; omega)
                    | succ f lp41ih =>
                      intro y42 y43 y44 H locs ls lp41m lp41l11 lp41S hW hS hl
                      refine lv_iload hx hb dX12_pool_125 (lv_at hl 0 rfl) ?_
                      refine lv_iload hx hb dX12_pool_127 (lv_at hl 7 rfl) ?_
                      refine lv_icmp_ge (tgt := 208) hx hb dX12_pool_129 (by decide) (fun c45 => ?_) (fun c45 => ?_)
                      · have g46 := z_f_ge rfl rfl c45
                        have b47 := Int32.toInt_lt y42
                        refine lv_iload hx hb dX12_pool_208 (lv_at hl 2 rfl) ?_
                        refine lv_iload hx hb dX12_pool_210 (lv_at hl 6 rfl) ?_
                        refine lv_icmp_lt (tgt := 264) hx hb dX12_pool_212 (by decide) (fun c48 => ?_) (fun c48 => ?_)
                        · have g49 := z_f_lt rfl rfl c48
                          have b50 := Int32.toInt_lt y44
                          have b51 := Int32.toInt_lt y8
                          obtain ⟨x52, ex52⟩ : ∃ y : Int32, y = y19 + 1 := ⟨_, rfl⟩
                          have tx52 : x52.toInt = y19.toInt + 1 := z_tadd ex52 rfl z_l1 (by omega) (by omega)
                          refine lv_iinc (v := x52) (lv' := [(8, .int x52), (11, .int y42), (10, .int y43), (9, .int y44), (7, .int y20), (6, .int y21), (5, .int y8), (4, .int y9), (0, .ref (ad 0)), (1, .int a1), (2, .int a2), (3, .int a3)]) hx hb dX12_pool_264 hl (k := 3) rfl (by rw [ex52]; rfl) (by decide) rfl (fun ls hl => ?_)
                          refine lv_goto (tgt := 107) hx hb dX12_pool_267 (by decide) ?_
                          exact lp18ih x52 y20 y21 _ _ _ (by omega) (by omega) (by omega) (by omega) (by omega) ⟨(by have c9 := z_clt (x := y19) rfl (by omega); have d9 := z_clt (x := x52) rfl (by omega); have k9 := z_clt (x := y42) rfl (by omega); have ek : y42.toNatClampNeg = zq_mn I a1.toInt a2.toInt (I 0 83).toNatClampNeg := (by omega); have s1 := lp41S.1; have s2 := lp41S.2.1; rw [ek] at s1 s2; rw [show x52.toNatClampNeg - 1 = y19.toNatClampNeg - 1 + 1 by omega]; exact zq_mX_n (pb := 0) lp18X.1 (b1 := y19) (by omega) s1 s2 (fun q => absurd q (by omega)) (by rw [(show y19.toNatClampNeg - 1 + 1 = y19.toNatClampNeg by omega), hP9]; omega)), by omega⟩ hW hS (lv_sub hl [0, 4, 5, 6, 7, 8, 9, 10, 11] rfl)
                        · have g53 := z_f_nlt rfl rfl c48
                          have b54 := Int32.toInt_lt y44
                          have b55 := Int32.toInt_lt y8
                          refine lv_iload hx hb dX12_pool_215 (lv_at hl 5 rfl) ?_
                          refine lv_if_lt (tgt := 256) hx hb dX12_pool_217 (by decide) (fun c56 => ?_) (fun c56 => ?_)
                          · have g57 := z_f_lt rfl z_l0 c56
                            refine lv_iload hx hb dX12_pool_256 (lv_at hl 3 rfl) ?_
                            refine lv_istore (lv' := [(6, .int y19), (11, .int y42), (10, .int y43), (9, .int y44), (8, .int y19), (7, .int y20), (5, .int y8), (4, .int y9), (0, .ref (ad 0)), (1, .int a1), (2, .int a2), (3, .int a3)]) hx hb dX12_pool_258 hl (by decide) rfl (fun ls hl => ?_)
                            refine lv_iload hx hb dX12_pool_260 (lv_at hl 2 rfl) ?_
                            refine lv_istore (lv' := [(7, .int y43), (6, .int y19), (11, .int y42), (10, .int y43), (9, .int y44), (8, .int y19), (5, .int y8), (4, .int y9), (0, .ref (ad 0)), (1, .int a1), (2, .int a2), (3, .int a3)]) hx hb dX12_pool_262 hl (by decide) rfl (fun ls hl => ?_)
                            obtain ⟨x58, ex58⟩ : ∃ y : Int32, y = y19 + 1 := ⟨_, rfl⟩
                            have tx58 : x58.toInt = y19.toInt + 1 := z_tadd ex58 rfl z_l1 (by omega) (by omega)
                            refine lv_iinc (v := x58) (lv' := [(8, .int x58), (7, .int y43), (6, .int y19), (11, .int y42), (10, .int y43), (9, .int y44), (5, .int y8), (4, .int y9), (0, .ref (ad 0)), (1, .int a1), (2, .int a2), (3, .int a3)]) hx hb dX12_pool_264 hl (k := 5) rfl (by rw [ex58]; rfl) (by decide) rfl (fun ls hl => ?_)
                            refine lv_goto (tgt := 107) hx hb dX12_pool_267 (by decide) ?_
                            exact lp18ih x58 y43 y19 _ _ _ (by omega) (by omega) (by omega) (by omega) (by omega) ⟨(by have c9 := z_clt (x := y19) rfl (by omega); have d9 := z_clt (x := x58) rfl (by omega); have k9 := z_clt (x := y42) rfl (by omega); have ek : y42.toNatClampNeg = zq_mn I a1.toInt a2.toInt (I 0 83).toNatClampNeg := (by omega); have s1 := lp41S.1; have s2 := lp41S.2.1; rw [ek] at s1 s2; rw [show x58.toNatClampNeg - 1 = y19.toNatClampNeg - 1 + 1 by omega]; exact zq_mX_y (pb := 0) lp18X.1 (by omega) s1 s2 (by rw [hP9]; omega) (fun q => absurd q (by omega)) (by rw [(show y19.toNatClampNeg - 1 + 1 = y19.toNatClampNeg by omega)]; omega)), by omega⟩ hW hS (lv_sub hl [0, 1, 2, 6, 7, 8, 9, 10, 11] rfl)
                          · have g59 := z_f_nlt rfl z_l0 c56
                            refine lv_iload hx hb dX12_pool_220 (lv_at hl 3 rfl) ?_
                            refine z_ci hW hS hA (va_runS (As := [.int y19]) (rest := []) ⟨hx, hb, hml, hown, hts⟩ (sx_X12_bits_x l G ad I10 J11 y19 (by omega) _) (va_cwS 1 hts gX12_pool_X12_bits rfl rfl rfl (by decide +kernel) ⟨Nat.le_of_ble_eq_true rfl, Nat.le_of_ble_eq_true rfl⟩) (z_preS hK hW) rfl rfl hl.1 rfl (lv_room (Nat.le_of_ble_eq_true rfl)) dX12_pool_222 ⟨Nat.le_of_ble_eq_true rfl, Nat.le_of_ble_eq_true rfl⟩) (fun r u1 H locs hp hW hS => ?_)
                            obtain ⟨e9, hp⟩ := hp
                            rw [e9] at hW
                            refine lv_topi (fun x60 ex60 => ?_)
                            rw [← ex60] at hp
                            have hv61 := hp
                            refine lv_iload hx hb dX12_pool_225 (lv_at hl 5 rfl) ?_
                            refine z_ci hW hS hA (va_runS (As := [.int y21]) (rest := [.int x60]) ⟨hx, hb, hml, hown, hts⟩ (sx_X12_bits_x l G ad I10 J11 y21 (by omega) _) (va_cwS 1 hts gX12_pool_X12_bits rfl rfl rfl (by decide +kernel) ⟨Nat.le_of_ble_eq_true rfl, Nat.le_of_ble_eq_true rfl⟩) (z_preS hK hW) rfl rfl hl.1 rfl (lv_room (Nat.le_of_ble_eq_true rfl)) dX12_pool_227 ⟨Nat.le_of_ble_eq_true rfl, Nat.le_of_ble_eq_true rfl⟩) (fun r u1 H locs hp hW hS => ?_)
                            obtain ⟨e9, hp⟩ := hp
                            rw [e9] at hW
                            refine lv_topi (fun x62 ex62 => ?_)
                            rw [← ex62] at hp
                            have hv63 := hp
                            refine lv_icmp_gt (tgt := 264) hx hb dX12_pool_230 (by decide) (fun c64 => ?_) (fun c64 => ?_)
                            · have g65 := z_f_gt rfl rfl c64
                              have b66 := Int32.toInt_lt x60
                              have b67 := Int32.toInt_lt x62
                              obtain ⟨x68, ex68⟩ : ∃ y : Int32, y = y19 + 1 := ⟨_, rfl⟩
                              have tx68 : x68.toInt = y19.toInt + 1 := z_tadd ex68 rfl z_l1 (by omega) (by omega)
                              refine lv_iinc (v := x68) (lv' := [(8, .int x68), (11, .int y42), (10, .int y43), (9, .int y44), (7, .int y20), (6, .int y21), (5, .int y8), (4, .int y9), (0, .ref (ad 0)), (1, .int a1), (2, .int a2), (3, .int a3)]) hx hb dX12_pool_264 hl (k := 3) rfl (by rw [ex68]; rfl) (by decide) rfl (fun ls hl => ?_)
                              refine lv_goto (tgt := 107) hx hb dX12_pool_267 (by decide) ?_
                              exact lp18ih x68 y20 y21 _ _ _ (by omega) (by omega) (by omega) (by omega) (by omega) ⟨(by have c9 := z_clt (x := y19) rfl (by omega); have d9 := z_clt (x := x68) rfl (by omega); have k9 := z_clt (x := y42) rfl (by omega); have ek : y42.toNatClampNeg = zq_mn I a1.toInt a2.toInt (I 0 83).toNatClampNeg := (by omega); have s1 := lp41S.1; have s2 := lp41S.2.1; rw [ek] at s1 s2; rw [show x68.toNatClampNeg - 1 = y19.toNatClampNeg - 1 + 1 by omega]; exact zq_mX_n (pb := x62.toInt) lp18X.1 (b1 := y19) (by omega) s1 s2 (fun _ => hv63) (by rw [(show y19.toNatClampNeg - 1 + 1 = y19.toNatClampNeg by omega), hP9]; omega)), by omega⟩ hW hS (lv_sub hl [0, 4, 5, 6, 7, 8, 9, 10, 11] rfl)
                            · have g69 := z_f_ngt rfl rfl c64
                              have b70 := Int32.toInt_lt x60
                              have b71 := Int32.toInt_lt x62
                              refine lv_iload hx hb dX12_pool_233 (lv_at hl 3 rfl) ?_
                              refine z_ci hW hS hA (va_runS (As := [.int y19]) (rest := []) ⟨hx, hb, hml, hown, hts⟩ (sx_X12_bits_x l G ad I10 J11 y19 (by omega) _) (va_cwS 1 hts gX12_pool_X12_bits rfl rfl rfl (by decide +kernel) ⟨Nat.le_of_ble_eq_true rfl, Nat.le_of_ble_eq_true rfl⟩) (z_preS hK hW) rfl rfl hl.1 rfl (lv_room (Nat.le_of_ble_eq_true rfl)) dX12_pool_235 ⟨Nat.le_of_ble_eq_true rfl, Nat.le_of_ble_eq_true rfl⟩) (fun r u1 H locs hp hW hS => ?_)
                              obtain ⟨e9, hp⟩ := hp
                              rw [e9] at hW
                              refine lv_topi (fun x72 ex72 => ?_)
                              rw [← ex72] at hp
                              have hv73 := hp
                              refine lv_iload hx hb dX12_pool_238 (lv_at hl 5 rfl) ?_
                              refine z_ci hW hS hA (va_runS (As := [.int y21]) (rest := [.int x72]) ⟨hx, hb, hml, hown, hts⟩ (sx_X12_bits_x l G ad I10 J11 y21 (by omega) _) (va_cwS 1 hts gX12_pool_X12_bits rfl rfl rfl (by decide +kernel) ⟨Nat.le_of_ble_eq_true rfl, Nat.le_of_ble_eq_true rfl⟩) (z_preS hK hW) rfl rfl hl.1 rfl (lv_room (Nat.le_of_ble_eq_true rfl)) dX12_pool_240 ⟨Nat.le_of_ble_eq_true rfl, Nat.le_of_ble_eq_true rfl⟩) (fun r u1 H locs hp hW hS => ?_)
                              obtain ⟨e9, hp⟩ := hp
                              rw [e9] at hW
                              refine lv_topi (fun x74 ex74 => ?_)
                              rw [← ex74] at hp
                              have hv75 := hp
                              refine lv_icmp_ne (tgt := 256) hx hb dX12_pool_243 (by decide) (fun c76 => ?_) (fun c76 => ?_)
                              · have g77 := z_f_ne rfl rfl c76
                                have b78 := Int32.toInt_lt x72
                                have b79 := Int32.toInt_lt x74
                                refine lv_iload hx hb dX12_pool_256 (lv_at hl 3 rfl) ?_
                                refine lv_istore (lv' := [(6, .int y19), (11, .int y42), (10, .int y43), (9, .int y44), (8, .int y19), (7, .int y20), (5, .int y8), (4, .int y9), (0, .ref (ad 0)), (1, .int a1), (2, .int a2), (3, .int a3)]) hx hb dX12_pool_258 hl (by decide) rfl (fun ls hl => ?_)
                                refine lv_iload hx hb dX12_pool_260 (lv_at hl 2 rfl) ?_
                                refine lv_istore (lv' := [(7, .int y43), (6, .int y19), (11, .int y42), (10, .int y43), (9, .int y44), (8, .int y19), (5, .int y8), (4, .int y9), (0, .ref (ad 0)), (1, .int a1), (2, .int a2), (3, .int a3)]) hx hb dX12_pool_262 hl (by decide) rfl (fun ls hl => ?_)
                                obtain ⟨x80, ex80⟩ : ∃ y : Int32, y = y19 + 1 := ⟨_, rfl⟩
                                have tx80 : x80.toInt = y19.toInt + 1 := z_tadd ex80 rfl z_l1 (by omega) (by omega)
                                refine lv_iinc (v := x80) (lv' := [(8, .int x80), (7, .int y43), (6, .int y19), (11, .int y42), (10, .int y43), (9, .int y44), (5, .int y8), (4, .int y9), (0, .ref (ad 0)), (1, .int a1), (2, .int a2), (3, .int a3)]) hx hb dX12_pool_264 hl (k := 5) rfl (by rw [ex80]; rfl) (by decide) rfl (fun ls hl => ?_)
                                refine lv_goto (tgt := 107) hx hb dX12_pool_267 (by decide) ?_
                                exact lp18ih x80 y43 y19 _ _ _ (by omega) (by omega) (by omega) (by omega) (by omega) ⟨(by have c9 := z_clt (x := y19) rfl (by omega); have d9 := z_clt (x := x80) rfl (by omega); have k9 := z_clt (x := y42) rfl (by omega); have ek : y42.toNatClampNeg = zq_mn I a1.toInt a2.toInt (I 0 83).toNatClampNeg := (by omega); have s1 := lp41S.1; have s2 := lp41S.2.1; rw [ek] at s1 s2; rw [show x80.toNatClampNeg - 1 = y19.toNatClampNeg - 1 + 1 by omega]; exact zq_mX_y (pb := x74.toInt) lp18X.1 (by omega) s1 s2 (by rw [hP9]; omega) (fun _ => hv75) (by rw [(show y19.toNatClampNeg - 1 + 1 = y19.toNatClampNeg by omega)]; omega)), by omega⟩ hW hS (lv_sub hl [0, 1, 2, 6, 7, 8, 9, 10, 11] rfl)
                              · have g81 := z_f_eq rfl rfl c76
                                have b82 := Int32.toInt_lt x72
                                have b83 := Int32.toInt_lt x74
                                refine lv_iload hx hb dX12_pool_246 (lv_at hl 1 rfl) ?_
                                refine lv_iload hx hb dX12_pool_248 (lv_at hl 4 rfl) ?_
                                refine lv_icmp_lt (tgt := 256) hx hb dX12_pool_250 (by decide) (fun c84 => ?_) (fun c84 => ?_)
                                · have g85 := z_f_lt rfl rfl c84
                                  have b86 := Int32.toInt_lt y43
                                  have b87 := Int32.toInt_lt y20
                                  refine lv_iload hx hb dX12_pool_256 (lv_at hl 3 rfl) ?_
                                  refine lv_istore (lv' := [(6, .int y19), (11, .int y42), (10, .int y43), (9, .int y44), (8, .int y19), (7, .int y20), (5, .int y8), (4, .int y9), (0, .ref (ad 0)), (1, .int a1), (2, .int a2), (3, .int a3)]) hx hb dX12_pool_258 hl (by decide) rfl (fun ls hl => ?_)
                                  refine lv_iload hx hb dX12_pool_260 (lv_at hl 2 rfl) ?_
                                  refine lv_istore (lv' := [(7, .int y43), (6, .int y19), (11, .int y42), (10, .int y43), (9, .int y44), (8, .int y19), (5, .int y8), (4, .int y9), (0, .ref (ad 0)), (1, .int a1), (2, .int a2), (3, .int a3)]) hx hb dX12_pool_262 hl (by decide) rfl (fun ls hl => ?_)
                                  obtain ⟨x88, ex88⟩ : ∃ y : Int32, y = y19 + 1 := ⟨_, rfl⟩
                                  have tx88 : x88.toInt = y19.toInt + 1 := z_tadd ex88 rfl z_l1 (by omega) (by omega)
                                  refine lv_iinc (v := x88) (lv' := [(8, .int x88), (7, .int y43), (6, .int y19), (11, .int y42), (10, .int y43), (9, .int y44), (5, .int y8), (4, .int y9), (0, .ref (ad 0)), (1, .int a1), (2, .int a2), (3, .int a3)]) hx hb dX12_pool_264 hl (k := 5) rfl (by rw [ex88]; rfl) (by decide) rfl (fun ls hl => ?_)
                                  refine lv_goto (tgt := 107) hx hb dX12_pool_267 (by decide) ?_
                                  exact lp18ih x88 y43 y19 _ _ _ (by omega) (by omega) (by omega) (by omega) (by omega) ⟨(by have c9 := z_clt (x := y19) rfl (by omega); have d9 := z_clt (x := x88) rfl (by omega); have k9 := z_clt (x := y42) rfl (by omega); have ek : y42.toNatClampNeg = zq_mn I a1.toInt a2.toInt (I 0 83).toNatClampNeg := (by omega); have s1 := lp41S.1; have s2 := lp41S.2.1; rw [ek] at s1 s2; rw [show x88.toNatClampNeg - 1 = y19.toNatClampNeg - 1 + 1 by omega]; exact zq_mX_y (pb := x74.toInt) lp18X.1 (by omega) s1 s2 (by rw [hP9]; omega) (fun _ => hv75) (by rw [(show y19.toNatClampNeg - 1 + 1 = y19.toNatClampNeg by omega)]; omega)), by omega⟩ hW hS (lv_sub hl [0, 1, 2, 6, 7, 8, 9, 10, 11] rfl)
                                · have g89 := z_f_nlt rfl rfl c84
                                  have b90 := Int32.toInt_lt y43
                                  have b91 := Int32.toInt_lt y20
                                  refine lv_goto (tgt := 264) hx hb dX12_pool_253 (by decide) ?_
                                  obtain ⟨x92, ex92⟩ : ∃ y : Int32, y = y19 + 1 := ⟨_, rfl⟩
                                  have tx92 : x92.toInt = y19.toInt + 1 := z_tadd ex92 rfl z_l1 (by omega) (by omega)
                                  refine lv_iinc (v := x92) (lv' := [(8, .int x92), (11, .int y42), (10, .int y43), (9, .int y44), (7, .int y20), (6, .int y21), (5, .int y8), (4, .int y9), (0, .ref (ad 0)), (1, .int a1), (2, .int a2), (3, .int a3)]) hx hb dX12_pool_264 hl (k := 3) rfl (by rw [ex92]; rfl) (by decide) rfl (fun ls hl => ?_)
                                  refine lv_goto (tgt := 107) hx hb dX12_pool_267 (by decide) ?_
                                  exact lp18ih x92 y20 y21 _ _ _ (by omega) (by omega) (by omega) (by omega) (by omega) ⟨(by have c9 := z_clt (x := y19) rfl (by omega); have d9 := z_clt (x := x92) rfl (by omega); have k9 := z_clt (x := y42) rfl (by omega); have ek : y42.toNatClampNeg = zq_mn I a1.toInt a2.toInt (I 0 83).toNatClampNeg := (by omega); have s1 := lp41S.1; have s2 := lp41S.2.1; rw [ek] at s1 s2; rw [show x92.toNatClampNeg - 1 = y19.toNatClampNeg - 1 + 1 by omega]; exact zq_mX_n (pb := x74.toInt) lp18X.1 (b1 := y19) (by omega) s1 s2 (fun _ => hv75) (by rw [(show y19.toNatClampNeg - 1 + 1 = y19.toNatClampNeg by omega), hP9]; omega)), by omega⟩ hW hS (lv_sub hl [0, 4, 5, 6, 7, 8, 9, 10, 11] rfl)
                      · have g93 := z_f_nge rfl rfl c45
                        have b94 := Int32.toInt_lt y42
                        refine lv_iload hx hb dX12_pool_132 (lv_at hl 3 rfl) ?_
                        refine lv_iload hx hb dX12_pool_134 (lv_at hl 0 rfl) ?_
                        refine lv_ishr hx hb dX12_pool_136 ?_
                        refine lv_topi (fun x95 ex95 => ?_)
                        refine lv_iconst (v := 1) hx hb dX12_pool_137 (by decide) ?_
                        refine lv_iand hx hb dX12_pool_138 ?_
                        refine lv_topi (fun x96 ex96 => ?_)
                        have hb97 : x96 = zq_bt y19 y42 := by rw [ex96, ex95]; rfl
                        have h98 := zq_bt01 y19 y42
                        rw [← hb97] at h98
                        refine lv_if_ne (tgt := 145) hx hb dX12_pool_139 (by decide) (fun c99 => ?_) (fun c99 => ?_)
                        · have g100 := z_f_ne rfl z_l0 c99
                          have b101 := Int32.toInt_lt x96
                          refine lv_iload hx hb dX12_pool_145 (lv_at hl 2 rfl) ?_
                          refine lv_aload_n hx hb dX12_pool_147 rfl (lv_at hl 8 rfl) ?_
                          refine z_get (T := TX12) (N := 96) (ci := 12) (i := 0) (v := .ref (ad 3)) hx hb hts zj_X12_pool_X12 hown hK hW rfl rfl 5 (by decide) (hts (.fieldLink RX12 16 "PetrolBoardModel" "seatsOf" "[I") (me_s (me_l (List.mem_of_getElem? (i := 5) rfl)))) (fun _ h => h) rfl dX12_pool_148 ?_
                          refine lv_aload_n hx hb dX12_pool_151 rfl (lv_at hl 8 rfl) ?_
                          refine z_get (T := TX12) (N := 96) (ci := 12) (i := 0) (v := .ref (ad 59)) hx hb hts zj_X12_pool_X12 hown hK hW rfl rfl 84 (by decide) (hts (.fieldLink RX12 193 "PetrolBoardModel" "jWho" "[I") (me_s (me_l (List.mem_of_getElem? (i := 6) rfl)))) (fun _ h => h) rfl dX12_pool_152 ?_
                          refine lv_aload_n hx hb dX12_pool_155 rfl (lv_at hl 8 rfl) ?_
                          refine z_get (T := TX12) (N := 96) (ci := 12) (i := 0) (v := .ref (ad 68)) hx hb hts zj_X12_pool_X12 hown hK hW rfl rfl 93 (by decide) (hts (.fieldLink RX12 220 "PetrolBoardModel" "pool" "[I") (me_s (me_l (List.mem_of_getElem? (i := 3) rfl)))) (fun _ h => h) rfl dX12_pool_156 ?_
                          refine lv_iload hx hb dX12_pool_159 (lv_at hl 0 rfl) ?_
                          refine z_iald (i := 68) hx hb hK hW rfl (z_ix rfl (by omega) (by omega)) dX12_pool_161 ?_
                          refine lv_topi (fun x102 ex102 => ?_)
                          have h103 : 0 ≤ x102.toInt ∧ x102.toInt ≤ 59 := by rw [ex102]; exact lp6Apl _
                          have hk104 : x102.toNatClampNeg = (zq_ml I a1.toInt a2.toInt (I 0 83).toNatClampNeg).getD y42.toNatClampNeg 0 := by have q1 := gm3 y42.toNatClampNeg (by have := z_clt (x := y42) rfl (by omega); omega); rw [← ex102] at q1; have q2 := z_clt (x := x102) rfl (by omega); omega
                          refine z_iald (i := 59) hx hb hK hW rfl (z_ix rfl (by omega) (by omega)) dX12_pool_162 ?_
                          refine lv_topi (fun x105 ex105 => ?_)
                          have h106 : 0 ≤ x105.toInt ∧ x105.toInt ≤ 29 := by rw [ex105]; exact lp6Ajw _
                          have hv107 : x105 = I 59 x102.toNatClampNeg := by rw [ex105, lp6fr 59 _ (z_wr_c (by decide))]
                          refine z_iald (i := 3) hx hb hK hW rfl (z_ix rfl (by omega) (by omega)) dX12_pool_163 ?_
                          refine lv_topi (fun x108 ex108 => ?_)
                          have hv109 : x108 = I 3 x105.toNatClampNeg := by rw [ex108, lp6fr 3 _ (z_wr_c (by decide))]
                          refine lv_iadd hx hb dX12_pool_164 ?_
                          refine lv_topi (fun x110 ex110 => ?_)
                          refine lv_istore (lv' := [(9, .int x110), (11, .int y42), (10, .int y43), (8, .int y19), (7, .int y20), (6, .int y21), (5, .int y8), (4, .int y9), (0, .ref (ad 0)), (1, .int a1), (2, .int a2), (3, .int a3)]) hx hb dX12_pool_165 hl (by decide) rfl (fun ls hl => ?_)
                          refine lv_iload hx hb dX12_pool_167 (lv_at hl 2 rfl) ?_
                          refine lv_aload_n hx hb dX12_pool_169 rfl (lv_at hl 8 rfl) ?_
                          refine z_get (T := TX12) (N := 96) (ci := 12) (i := 0) (v := .ref (ad 60)) hx hb hts zj_X12_pool_X12 hown hK hW rfl rfl 85 (by decide) (hts (.fieldLink RX12 196 "PetrolBoardModel" "jMiles" "[I") (me_s (me_l (List.mem_of_getElem? (i := 7) rfl)))) (fun _ h => h) rfl dX12_pool_170 ?_
                          refine lv_aload_n hx hb dX12_pool_173 rfl (lv_at hl 8 rfl) ?_
                          refine z_get (T := TX12) (N := 96) (ci := 12) (i := 0) (v := .ref (ad 68)) hx hb hts zj_X12_pool_X12 hown hK hW rfl rfl 93 (by decide) (hts (.fieldLink RX12 220 "PetrolBoardModel" "pool" "[I") (me_s (me_l (List.mem_of_getElem? (i := 3) rfl)))) (fun _ h => h) rfl dX12_pool_174 ?_
                          refine lv_iload hx hb dX12_pool_177 (lv_at hl 1 rfl) ?_
                          refine z_iald (i := 68) hx hb hK hW rfl (z_ix rfl (by omega) (by omega)) dX12_pool_179 ?_
                          refine z_topi (v := x102) ex102.symm ?_
                          refine z_iald (i := 60) hx hb hK hW rfl (z_ix rfl (by omega) (by omega)) dX12_pool_180 ?_
                          refine lv_topi (fun x111 ex111 => ?_)
                          have hv112 : x111 = I 60 x102.toNatClampNeg := by rw [ex111, lp6fr 60 _ (z_wr_c (by decide))]
                          refine lv_aload_n hx hb dX12_pool_181 rfl (lv_at hl 8 rfl) ?_
                          refine z_get (T := TX12) (N := 96) (ci := 12) (i := 0) (v := .ref (ad 1)) hx hb hts zj_X12_pool_X12 hown hK hW rfl rfl 3 (by decide) (hts (.fieldLink RX12 7 "PetrolBoardModel" "sizeOf" "[I") (me_s (me_l (List.mem_of_getElem? (i := 8) rfl)))) (fun _ h => h) rfl dX12_pool_182 ?_
                          refine lv_aload_n hx hb dX12_pool_185 rfl (lv_at hl 8 rfl) ?_
                          refine z_get (T := TX12) (N := 96) (ci := 12) (i := 0) (v := .ref (ad 59)) hx hb hts zj_X12_pool_X12 hown hK hW rfl rfl 84 (by decide) (hts (.fieldLink RX12 193 "PetrolBoardModel" "jWho" "[I") (me_s (me_l (List.mem_of_getElem? (i := 6) rfl)))) (fun _ h => h) rfl dX12_pool_186 ?_
                          refine lv_aload_n hx hb dX12_pool_189 rfl (lv_at hl 8 rfl) ?_
                          refine z_get (T := TX12) (N := 96) (ci := 12) (i := 0) (v := .ref (ad 68)) hx hb hts zj_X12_pool_X12 hown hK hW rfl rfl 93 (by decide) (hts (.fieldLink RX12 220 "PetrolBoardModel" "pool" "[I") (me_s (me_l (List.mem_of_getElem? (i := 3) rfl)))) (fun _ h => h) rfl dX12_pool_190 ?_
                          refine lv_iload hx hb dX12_pool_193 (lv_at hl 1 rfl) ?_
                          refine z_iald (i := 68) hx hb hK hW rfl (z_ix rfl (by omega) (by omega)) dX12_pool_195 ?_
                          refine z_topi (v := x102) ex102.symm ?_
                          refine z_iald (i := 59) hx hb hK hW rfl (z_ix rfl (by omega) (by omega)) dX12_pool_196 ?_
                          refine z_topi (v := x105) ex105.symm ?_
                          refine z_iald (i := 1) hx hb hK hW rfl (z_ix rfl (by omega) (by omega)) dX12_pool_197 ?_
                          refine lv_topi (fun x113 ex113 => ?_)
                          have hv114 : x113 = I 1 x105.toNatClampNeg := by rw [ex113, lp6fr 1 _ (z_wr_c (by decide))]
                          refine lv_imul hx hb dX12_pool_198 ?_
                          refine lv_topi (fun x115 ex115 => ?_)
                          refine lv_iadd hx hb dX12_pool_199 ?_
                          refine lv_topi (fun x116 ex116 => ?_)
                          refine lv_istore (lv' := [(10, .int x116), (9, .int x110), (11, .int y42), (8, .int y19), (7, .int y20), (6, .int y21), (5, .int y8), (4, .int y9), (0, .ref (ad 0)), (1, .int a1), (2, .int a2), (3, .int a3)]) hx hb dX12_pool_200 hl (by decide) rfl (fun ls hl => ?_)
                          obtain ⟨x117, ex117⟩ : ∃ y : Int32, y = y42 + 1 := ⟨_, rfl⟩
                          have tx117 : x117.toInt = y42.toInt + 1 := z_tadd ex117 rfl z_l1 (by omega) (by omega)
                          refine lv_iinc (v := x117) (lv' := [(11, .int x117), (10, .int x116), (9, .int x110), (8, .int y19), (7, .int y20), (6, .int y21), (5, .int y8), (4, .int y9), (0, .ref (ad 0)), (1, .int a1), (2, .int a2), (3, .int a3)]) hx hb dX12_pool_202 hl (k := 2) rfl (by rw [ex117]; rfl) (by decide) rfl (fun ls hl => ?_)
                          refine lv_goto (tgt := 125) hx hb dX12_pool_205 (by decide) ?_
                          exact lp41ih x117 x116 x110 _ _ _ (by omega) (by omega) ⟨by rw [(show x117.toNatClampNeg = y42.toNatClampNeg + 1 from z_cln (by omega) (by omega))]; exact zq_sum_y (by omega) hb97 (by omega) lp41S.1 (by unfold zq_mSS zq_mS; rw [ex110, hv109, hv107, hk104]), by rw [(show x117.toNatClampNeg = y42.toNatClampNeg + 1 from z_cln (by omega) (by omega))]; exact zq_sum_y (by omega) hb97 (by omega) lp41S.2.1 (by unfold zq_mCC zq_mC; rw [ex116, ex115, hv112, hv114, hv107, hk104]), by omega⟩ hW hS (lv_sub hl [0, 1, 2, 3, 4, 5, 6, 7, 8, 9, 10, 11] rfl)
                        · have g118 := z_f_eq rfl z_l0 c99
                          have b119 := Int32.toInt_lt x96
                          refine lv_goto (tgt := 202) hx hb dX12_pool_142 (by decide) ?_
                          obtain ⟨x120, ex120⟩ : ∃ y : Int32, y = y42 + 1 := ⟨_, rfl⟩
                          have tx120 : x120.toInt = y42.toInt + 1 := z_tadd ex120 rfl z_l1 (by omega) (by omega)
                          refine lv_iinc (v := x120) (lv' := [(11, .int x120), (10, .int y43), (9, .int y44), (8, .int y19), (7, .int y20), (6, .int y21), (5, .int y8), (4, .int y9), (0, .ref (ad 0)), (1, .int a1), (2, .int a2), (3, .int a3)]) hx hb dX12_pool_202 hl (k := 0) rfl (by rw [ex120]; rfl) (by decide) rfl (fun ls hl => ?_)
                          refine lv_goto (tgt := 125) hx hb dX12_pool_205 (by decide) ?_
                          exact lp41ih x120 y43 y44 _ _ _ (by omega) (by omega) ⟨by rw [(show x120.toNatClampNeg = y42.toNatClampNeg + 1 from z_cln (by omega) (by omega))]; exact zq_sum_n (by omega) hb97 (by omega) lp41S.1, by rw [(show x120.toNatClampNeg = y42.toNatClampNeg + 1 from z_cln (by omega) (by omega))]; exact zq_sum_n (by omega) hb97 (by omega) lp41S.2.1, by omega⟩ hW hS (lv_sub hl [0, 1, 2, 3, 4, 5, 6, 7, 8, 9, 10, 11] rfl)
                  exact lp41 4294967296 (0) (0) (0) _ _ _ (z_m0u _) (by rw [z_l0]; omega) ⟨rfl, rfl, by omega⟩ hW hS (lv_sub hl [0, 1, 2, 3, 4, 5, 6, 7, 8, 9, 10, 11] rfl)
            exact lp18 4294967296 (1) (0) ((-1)) _ _ _ (z_m0u _) (by rw [z_l1]; omega) (by rw [z_l1]; omega) (by rw [z_lm1]; omega) (by rw [z_lm1]; omega) ⟨Or.inl ⟨rfl, by decide⟩, by have q9 : 1 ≤ 2 ^ zq_mn I a1.toInt a2.toInt (I 0 83).toNatClampNeg := Nat.one_le_two_pow; have q8 := z_l1; omega⟩ hW hS (lv_sub hl [0, 1, 2, 3, 4, 5, 6, 7, 8] rfl)
          · have g121 := z_f_eq rfl z_l0 c16
            refine lv_iconst (v := (-1)) hx hb dX12_pool_96 (by decide) ?_
            exact z_iret hx hb hr hK hS (Nat.le_of_ble_eq_true rfl) (Nat.le_of_ble_eq_true rfl) hlocks dX12_pool_97 (shM, ad, I10, J11, PM ad) hW ⟨I10, J11, rfl, ⟨(by show 0 ≤ (I10 0 0).toInt ∧ (I10 0 0).toInt ≤ 719; exact lp6ma.1), (by show 0 ≤ (I10 0 1).toInt ∧ (I10 0 1).toInt ≤ 30; exact lp6ma.2.1), (by show 0 ≤ (I10 0 2).toInt ∧ (I10 0 2).toInt ≤ 200; exact lp6ma.2.2)⟩, (by show 0 ≤ (I10 0 83).toInt ∧ (I10 0 83).toInt ≤ 60; exact lp6mj), lp6Apl, lp6Ajw, lp6fr, (Or.inl ⟨by omega, by rw [zq_am_0 (by unfold zq_mn at hn9; omega)]; decide⟩)⟩
        · have g122 := z_f_nge rfl rfl c13
          have b123 := Int32.toInt_lt y7
          refine lv_iload hx hb dX12_pool_29 (lv_at hl 2 rfl) ?_
          refine lv_bipush (v := 12) hx hb dX12_pool_31 (by decide) ?_
          refine lv_icmp_ge (tgt := 91) hx hb dX12_pool_33 (by decide) (fun c124 => ?_) (fun c124 => ?_)
          · have g125 := z_f_ge rfl z_l12 c124
            obtain ⟨⟨gm1, gm2, gm3⟩, gm4⟩ := lp6M
            have cj9 := z_clt (x := y7) rfl (by omega)
            have cn9 := z_clt (x := (I 0 83)) rfl (by omega)
            have c49 := z_clt (x := y9) rfl (by omega)
            have he9 : zq_ml I a1.toInt a2.toInt (I 0 83).toNatClampNeg = zq_ml I a1.toInt a2.toInt y7.toNatClampNeg := zq_end (by unfold zq_ml at gm1; omega)
            rw [← he9] at gm1 gm2 gm3
            have hn9 : y9.toNatClampNeg = zq_mn I a1.toInt a2.toInt (I 0 83).toNatClampNeg := by unfold zq_mn; omega
            have hP9 : (zq_mPP I a1.toInt a2.toInt (I 0 83).toNatClampNeg).toInt = y8.toInt := congrArg Int32.toInt gm2.symm
            refine lv_iload hx hb dX12_pool_91 (lv_at hl 2 rfl) ?_
            refine lv_if_ne (tgt := 98) hx hb dX12_pool_93 (by decide) (fun c126 => ?_) (fun c126 => (by have g := z_f_eq rfl z_l0 c126; omega))
            have g127 := z_f_ne rfl z_l0 c126
            refine lv_iconst (v := (-1)) hx hb dX12_pool_98 (by decide) ?_
            refine lv_istore (lv' := [(6, .int (-1)), (5, .int y8), (4, .int y9), (0, .ref (ad 0)), (1, .int a1), (2, .int a2), (3, .int a3)]) hx hb dX12_pool_99 hl (by decide) rfl (fun ls hl => ?_)
            refine lv_iconst (v := 0) hx hb dX12_pool_101 (by decide) ?_
            refine lv_istore (lv' := [(7, .int 0), (6, .int (-1)), (5, .int y8), (4, .int y9), (0, .ref (ad 0)), (1, .int a1), (2, .int a2), (3, .int a3)]) hx hb dX12_pool_102 hl (by decide) rfl (fun ls hl => ?_)
            refine lv_iconst (v := 1) hx hb dX12_pool_104 (by decide) ?_
            refine lv_istore (lv' := [(8, .int 1), (7, .int 0), (6, .int (-1)), (5, .int y8), (4, .int y9), (0, .ref (ad 0)), (1, .int a1), (2, .int a2), (3, .int a3)]) hx hb dX12_pool_105 hl (by decide) rfl (fun ls hl => ?_)
            have lp128 : ∀ (f : Nat) (y129 : Int32) (y130 : Int32) (y131 : Int32) (H : Heap) (locs : List Loc) (ls : Array Slot), (2147483647 < y129.toInt + (f : Int)) → (1 ≤ y129.toInt) → (y129.toInt ≤ 4096) → ((-1) ≤ y131.toInt) → (y131.toInt ≤ 4095) → (zq_mX I a1.toInt a2.toInt (I 0 83).toNatClampNeg (y129.toNatClampNeg - 1) y131 y130 ∧ y129.toInt ≤ ((2 ^ zq_mn I a1.toInt a2.toInt (I 0 83).toNatClampNeg : Nat) : Int)) → z_W G A (shM, ad, I10, J11, PM ad) H → va_S A s.heap H locs → lv_has ls 12 [(8, .int y129), (7, .int y130), (6, .int y131), (5, .int y8), (4, .int y9), (0, .ref (ad 0)), (1, .int a1), (2, .int a2), (3, .int a3)] → W p l e (headSpec wsX12_pool { frames := 2, cells := 0, slots := 0, locals := 34 }).room s m ([.ref (ad 0), .int a1, .int a2, .int a3] : List Value).toArray below meth c0 H locs 0 0 (MQ below (va_Qi (fun (r : Int32) (u1 : z_U) => ∃ (I1 : z_I) (J1 : z_J), u1 = (shM, ad, I1, J1, PM ad) ∧ z_ima I1 ∧ z_imj I1 ∧ z_rg 68 0 59 I1 ∧ z_rg 59 0 29 I1 ∧ z_fr L_X12_pool_x I1 I ∧ (((0 ≤ a3.toInt ∧ a3.toInt ≤ 3) ∧ r.toInt = zq_am I a1.toInt a2.toInt a3.toInt (I 0 83).toNatClampNeg) ∨ (¬ (0 ≤ a3.toInt ∧ a3.toInt ≤ 3) ∧ r.toInt = -1))) (z_B G A) A) ([.ref (ad 0), .int a1, .int a2, .int a3] : List Value).toArray s 0 0 A) (F0 m 107 ls []) := by
              intro f
              induction f with
              | zero => intro y129 y130 y131 H locs ls lp128m lp128l8 lp128u8 lp128l6 lp128u6 lp128X hW hS hl; exact absurd lp128m (by have := Int32.toInt_lt y129; have := Int32.le_toInt y129; omega)
              | succ f lp128ih =>
                intro y129 y130 y131 H locs ls lp128m lp128l8 lp128u8 lp128l6 lp128u6 lp128X hW hS hl
                refine lv_iload hx hb dX12_pool_107 (lv_at hl 0 rfl) ?_
                refine lv_iconst (v := 1) hx hb dX12_pool_109 (by decide) ?_
                refine lv_iload hx hb dX12_pool_110 (lv_at hl 4 rfl) ?_
                refine lv_ishl hx hb dX12_pool_112 ?_
                refine lv_topi (fun x132 ex132 => ?_)
                have hs133 := zq_sh ex132 (show 0 ≤ y9.toInt ∧ y9.toInt ≤ 12 by omega)
                rw [hn9] at hs133
                refine lv_icmp_ge (tgt := 270) hx hb dX12_pool_113 (by decide) (fun c134 => ?_) (fun c134 => ?_)
                · have g135 := z_f_ge rfl rfl c134
                  refine lv_iload hx hb dX12_pool_270 (lv_at hl 2 rfl) ?_
                  refine lv_if_ge (tgt := 277) hx hb dX12_pool_272 (by decide) (fun c136 => ?_) (fun c136 => ?_)
                  · have g137 := z_f_ge rfl z_l0 c136
                    refine lv_iload_n hx hb dX12_pool_277 rfl (lv_at hl 8 rfl) ?_
                    refine lv_if_ne (tgt := 289) hx hb dX12_pool_278 (by decide) (fun c138 => ?_) (fun c138 => ?_)
                    · have g139 := z_f_ne rfl z_l0 c138
                      refine lv_iload_n hx hb dX12_pool_289 rfl (lv_at hl 8 rfl) ?_
                      refine lv_iconst (v := 1) hx hb dX12_pool_290 (by decide) ?_
                      refine lv_icmp_ne (tgt := 299) hx hb dX12_pool_291 (by decide) (fun c140 => ?_) (fun c140 => ?_)
                      · have g141 := z_f_ne rfl z_l1 c140
                        refine lv_iload_n hx hb dX12_pool_299 rfl (lv_at hl 8 rfl) ?_
                        refine lv_iconst (v := 2) hx hb dX12_pool_300 (by decide) ?_
                        refine lv_icmp_ne (tgt := 309) hx hb dX12_pool_301 (by decide) (fun c142 => ?_) (fun c142 => ?_)
                        · have g143 := z_f_ne rfl z_l2 c142
                          refine lv_iload hx hb dX12_pool_309 (lv_at hl 3 rfl) ?_
                          exact z_iret hx hb hr hK hS (Nat.le_of_ble_eq_true rfl) (Nat.le_of_ble_eq_true rfl) hlocks dX12_pool_311 (shM, ad, I10, J11, PM ad) hW ⟨I10, J11, rfl, ⟨(by show 0 ≤ (I10 0 0).toInt ∧ (I10 0 0).toInt ≤ 719; exact lp6ma.1), (by show 0 ≤ (I10 0 1).toInt ∧ (I10 0 1).toInt ≤ 30; exact lp6ma.2.1), (by show 0 ≤ (I10 0 2).toInt ∧ (I10 0 2).toInt ≤ 200; exact lp6ma.2.2)⟩, (by show 0 ≤ (I10 0 83).toInt ∧ (I10 0 83).toInt ≤ 60; exact lp6mj), lp6Apl, lp6Ajw, lp6fr, (Or.inl ⟨by omega, (by have c9 := z_clt (x := y129) rfl (by omega); have q9 : 1 ≤ 2 ^ zq_mn I a1.toInt a2.toInt (I 0 83).toNatClampNeg := Nat.one_le_two_pow; have x9 := lp128X.1; rw [show y129.toNatClampNeg - 1 = zq_2 (zq_mn I a1.toInt a2.toInt (I 0 83).toNatClampNeg) by unfold zq_2; omega] at x9; exact zq_amr x9 (Or.inr (Or.inr (Or.inr (Or.inr ⟨by omega, by omega, hP9.symm⟩)))))⟩)⟩
                        · have g144 := z_f_eq rfl z_l2 c142
                          refine lv_iload hx hb dX12_pool_304 (lv_at hl 2 rfl) ?_
                          refine lv_goto (tgt := 311) hx hb dX12_pool_306 (by decide) ?_
                          exact z_iret hx hb hr hK hS (Nat.le_of_ble_eq_true rfl) (Nat.le_of_ble_eq_true rfl) hlocks dX12_pool_311 (shM, ad, I10, J11, PM ad) hW ⟨I10, J11, rfl, ⟨(by show 0 ≤ (I10 0 0).toInt ∧ (I10 0 0).toInt ≤ 719; exact lp6ma.1), (by show 0 ≤ (I10 0 1).toInt ∧ (I10 0 1).toInt ≤ 30; exact lp6ma.2.1), (by show 0 ≤ (I10 0 2).toInt ∧ (I10 0 2).toInt ≤ 200; exact lp6ma.2.2)⟩, (by show 0 ≤ (I10 0 83).toInt ∧ (I10 0 83).toInt ≤ 60; exact lp6mj), lp6Apl, lp6Ajw, lp6fr, (Or.inl ⟨by omega, (by have c9 := z_clt (x := y129) rfl (by omega); have q9 : 1 ≤ 2 ^ zq_mn I a1.toInt a2.toInt (I 0 83).toNatClampNeg := Nat.one_le_two_pow; have x9 := lp128X.1; rw [show y129.toNatClampNeg - 1 = zq_2 (zq_mn I a1.toInt a2.toInt (I 0 83).toNatClampNeg) by unfold zq_2; omega] at x9; exact zq_amr x9 (Or.inr (Or.inr (Or.inr (Or.inl ⟨by omega, by omega, rfl⟩)))))⟩)⟩
                      · have g145 := z_f_eq rfl z_l1 c140
                        refine lv_iload hx hb dX12_pool_294 (lv_at hl 1 rfl) ?_
                        refine lv_goto (tgt := 311) hx hb dX12_pool_296 (by decide) ?_
                        exact z_iret hx hb hr hK hS (Nat.le_of_ble_eq_true rfl) (Nat.le_of_ble_eq_true rfl) hlocks dX12_pool_311 (shM, ad, I10, J11, PM ad) hW ⟨I10, J11, rfl, ⟨(by show 0 ≤ (I10 0 0).toInt ∧ (I10 0 0).toInt ≤ 719; exact lp6ma.1), (by show 0 ≤ (I10 0 1).toInt ∧ (I10 0 1).toInt ≤ 30; exact lp6ma.2.1), (by show 0 ≤ (I10 0 2).toInt ∧ (I10 0 2).toInt ≤ 200; exact lp6ma.2.2)⟩, (by show 0 ≤ (I10 0 83).toInt ∧ (I10 0 83).toInt ≤ 60; exact lp6mj), lp6Apl, lp6Ajw, lp6fr, (Or.inl ⟨by omega, (by have c9 := z_clt (x := y129) rfl (by omega); have q9 : 1 ≤ 2 ^ zq_mn I a1.toInt a2.toInt (I 0 83).toNatClampNeg := Nat.one_le_two_pow; have x9 := lp128X.1; rw [show y129.toNatClampNeg - 1 = zq_2 (zq_mn I a1.toInt a2.toInt (I 0 83).toNatClampNeg) by unfold zq_2; omega] at x9; exact zq_amr x9 (Or.inr (Or.inr (Or.inl ⟨by omega, by omega, rfl⟩))))⟩)⟩
                    · have g146 := z_f_eq rfl z_l0 c138
                      refine lv_iload hx hb dX12_pool_281 (lv_at hl 2 rfl) ?_
                      refine z_ci hW hS hA (va_runS (As := [.int y131]) (rest := []) ⟨hx, hb, hml, hown, hts⟩ (sx_X12_bits_x l G ad I10 J11 y131 (by omega) _) (va_cwS 1 hts gX12_pool_X12_bits rfl rfl rfl (by decide +kernel) ⟨Nat.le_of_ble_eq_true rfl, Nat.le_of_ble_eq_true rfl⟩) (z_preS hK hW) rfl rfl hl.1 rfl (lv_room (Nat.le_of_ble_eq_true rfl)) dX12_pool_283 ⟨Nat.le_of_ble_eq_true rfl, Nat.le_of_ble_eq_true rfl⟩) (fun r u1 H locs hp hW hS => ?_)
                      obtain ⟨e9, hp⟩ := hp
                      rw [e9] at hW
                      refine lv_topi (fun x147 ex147 => ?_)
                      rw [← ex147] at hp
                      have hv148 := hp
                      refine lv_goto (tgt := 311) hx hb dX12_pool_286 (by decide) ?_
                      exact z_iret hx hb hr hK hS (Nat.le_of_ble_eq_true rfl) (Nat.le_of_ble_eq_true rfl) hlocks dX12_pool_311 (shM, ad, I10, J11, PM ad) hW ⟨I10, J11, rfl, ⟨(by show 0 ≤ (I10 0 0).toInt ∧ (I10 0 0).toInt ≤ 719; exact lp6ma.1), (by show 0 ≤ (I10 0 1).toInt ∧ (I10 0 1).toInt ≤ 30; exact lp6ma.2.1), (by show 0 ≤ (I10 0 2).toInt ∧ (I10 0 2).toInt ≤ 200; exact lp6ma.2.2)⟩, (by show 0 ≤ (I10 0 83).toInt ∧ (I10 0 83).toInt ≤ 60; exact lp6mj), lp6Apl, lp6Ajw, lp6fr, (Or.inl ⟨by omega, (by have c9 := z_clt (x := y129) rfl (by omega); have q9 : 1 ≤ 2 ^ zq_mn I a1.toInt a2.toInt (I 0 83).toNatClampNeg := Nat.one_le_two_pow; have x9 := lp128X.1; rw [show y129.toNatClampNeg - 1 = zq_2 (zq_mn I a1.toInt a2.toInt (I 0 83).toNatClampNeg) by unfold zq_2; omega] at x9; exact zq_amr x9 (Or.inr (Or.inl ⟨by omega, by omega, hv148⟩)))⟩)⟩
                  · have g149 := z_f_nge rfl z_l0 c136
                    refine lv_iconst (v := (-1)) hx hb dX12_pool_275 (by decide) ?_
                    exact z_iret hx hb hr hK hS (Nat.le_of_ble_eq_true rfl) (Nat.le_of_ble_eq_true rfl) hlocks dX12_pool_276 (shM, ad, I10, J11, PM ad) hW ⟨I10, J11, rfl, ⟨(by show 0 ≤ (I10 0 0).toInt ∧ (I10 0 0).toInt ≤ 719; exact lp6ma.1), (by show 0 ≤ (I10 0 1).toInt ∧ (I10 0 1).toInt ≤ 30; exact lp6ma.2.1), (by show 0 ≤ (I10 0 2).toInt ∧ (I10 0 2).toInt ≤ 200; exact lp6ma.2.2)⟩, (by show 0 ≤ (I10 0 83).toInt ∧ (I10 0 83).toInt ≤ 60; exact lp6mj), lp6Apl, lp6Ajw, lp6fr, (Or.inl ⟨by omega, (by have c9 := z_clt (x := y129) rfl (by omega); have q9 : 1 ≤ 2 ^ zq_mn I a1.toInt a2.toInt (I 0 83).toNatClampNeg := Nat.one_le_two_pow; have x9 := lp128X.1; rw [show y129.toNatClampNeg - 1 = zq_2 (zq_mn I a1.toInt a2.toInt (I 0 83).toNatClampNeg) by unfold zq_2; omega] at x9; exact zq_amr x9 (Or.inl ⟨by omega, by decide⟩))⟩)⟩
                · have g150 := z_f_nge rfl rfl c134
                  refine lv_iconst (v := 0) hx hb dX12_pool_116 (by decide) ?_
                  refine lv_istore (lv' := [(9, .int 0), (8, .int y129), (7, .int y130), (6, .int y131), (5, .int y8), (4, .int y9), (0, .ref (ad 0)), (1, .int a1), (2, .int a2), (3, .int a3)]) hx hb dX12_pool_117 hl (by decide) rfl (fun ls hl => ?_)
                  refine lv_iconst (v := 0) hx hb dX12_pool_119 (by decide) ?_
                  refine lv_istore (lv' := [(10, .int 0), (9, .int 0), (8, .int y129), (7, .int y130), (6, .int y131), (5, .int y8), (4, .int y9), (0, .ref (ad 0)), (1, .int a1), (2, .int a2), (3, .int a3)]) hx hb dX12_pool_120 hl (by decide) rfl (fun ls hl => ?_)
                  refine lv_iconst (v := 0) hx hb dX12_pool_122 (by decide) ?_
                  refine lv_istore (lv' := [(11, .int 0), (10, .int 0), (9, .int 0), (8, .int y129), (7, .int y130), (6, .int y131), (5, .int y8), (4, .int y9), (0, .ref (ad 0)), (1, .int a1), (2, .int a2), (3, .int a3)]) hx hb dX12_pool_123 hl (by decide) rfl (fun ls hl => ?_)
                  have lp151 : ∀ (f : Nat) (y152 : Int32) (y153 : Int32) (y154 : Int32) (H : Heap) (locs : List Loc) (ls : Array Slot), (2147483647 < y152.toInt + (f : Int)) → (0 ≤ y152.toInt) → (y154 = zq_sum (zq_mSS I a1.toInt a2.toInt (I 0 83).toNatClampNeg) y129 y152.toNatClampNeg ∧ y153 = zq_sum (zq_mCC I a1.toInt a2.toInt (I 0 83).toNatClampNeg) y129 y152.toNatClampNeg ∧ y152.toInt ≤ y9.toInt) → z_W G A (shM, ad, I10, J11, PM ad) H → va_S A s.heap H locs → lv_has ls 12 [(11, .int y152), (10, .int y153), (9, .int y154), (8, .int y129), (7, .int y130), (6, .int y131), (5, .int y8), (4, .int y9), (0, .ref (ad 0)), (1, .int a1), (2, .int a2), (3, .int a3)] → W p l e (headSpec wsX12_pool { frames := 2, cells := 0, slots := 0, locals := 34 }).room s m ([.ref (ad 0), .int a1, .int a2, .int a3] : List Value).toArray below meth c0 H locs 0 0 (MQ below (va_Qi (fun (r : Int32) (u1 : z_U) => ∃ (I1 : z_I) (J1 : z_J), u1 = (shM, ad, I1, J1, PM ad) ∧ z_ima I1 ∧ z_imj I1 ∧ z_rg 68 0 59 I1 ∧ z_rg 59 0 29 I1 ∧ z_fr L_X12_pool_x I1 I ∧ (((0 ≤ a3.toInt ∧ a3.toInt ≤ 3) ∧ r.toInt = zq_am I a1.toInt a2.toInt a3.toInt (I 0 83).toNatClampNeg) ∨ (¬ (0 ≤ a3.toInt ∧ a3.toInt ≤ 3) ∧ r.toInt = -1))) (z_B G A) A) ([.ref (ad 0), .int a1, .int a2, .int a3] : List Value).toArray s 0 0 A) (F0 m 125 ls []) := by
                    intro f
                    induction f with
                    | zero => intro y152 y153 y154 H locs ls lp151m lp151l11 lp151S hW hS hl; exact absurd lp151m (by have := Int32.toInt_lt y152; have := Int32.le_toInt y152; omega)
                    | succ f lp151ih =>
                      intro y152 y153 y154 H locs ls lp151m lp151l11 lp151S hW hS hl
                      refine lv_iload hx hb dX12_pool_125 (lv_at hl 0 rfl) ?_
                      refine lv_iload hx hb dX12_pool_127 (lv_at hl 7 rfl) ?_
                      refine lv_icmp_ge (tgt := 208) hx hb dX12_pool_129 (by decide) (fun c155 => ?_) (fun c155 => ?_)
                      · have g156 := z_f_ge rfl rfl c155
                        have b157 := Int32.toInt_lt y152
                        refine lv_iload hx hb dX12_pool_208 (lv_at hl 2 rfl) ?_
                        refine lv_iload hx hb dX12_pool_210 (lv_at hl 6 rfl) ?_
                        refine lv_icmp_lt (tgt := 264) hx hb dX12_pool_212 (by decide) (fun c158 => ?_) (fun c158 => ?_)
                        · have g159 := z_f_lt rfl rfl c158
                          have b160 := Int32.toInt_lt y154
                          have b161 := Int32.toInt_lt y8
                          obtain ⟨x162, ex162⟩ : ∃ y : Int32, y = y129 + 1 := ⟨_, rfl⟩
                          have tx162 : x162.toInt = y129.toInt + 1 := z_tadd ex162 rfl z_l1 (by omega) (by omega)
                          refine lv_iinc (v := x162) (lv' := [(8, .int x162), (11, .int y152), (10, .int y153), (9, .int y154), (7, .int y130), (6, .int y131), (5, .int y8), (4, .int y9), (0, .ref (ad 0)), (1, .int a1), (2, .int a2), (3, .int a3)]) hx hb dX12_pool_264 hl (k := 3) rfl (by rw [ex162]; rfl) (by decide) rfl (fun ls hl => ?_)
                          refine lv_goto (tgt := 107) hx hb dX12_pool_267 (by decide) ?_
                          exact lp128ih x162 y130 y131 _ _ _ (by omega) (by omega) (by omega) (by omega) (by omega) ⟨(by have c9 := z_clt (x := y129) rfl (by omega); have d9 := z_clt (x := x162) rfl (by omega); have k9 := z_clt (x := y152) rfl (by omega); have ek : y152.toNatClampNeg = zq_mn I a1.toInt a2.toInt (I 0 83).toNatClampNeg := (by omega); have s1 := lp151S.1; have s2 := lp151S.2.1; rw [ek] at s1 s2; rw [show x162.toNatClampNeg - 1 = y129.toNatClampNeg - 1 + 1 by omega]; exact zq_mX_n (pb := 0) lp128X.1 (b1 := y129) (by omega) s1 s2 (fun q => absurd q (by omega)) (by rw [(show y129.toNatClampNeg - 1 + 1 = y129.toNatClampNeg by omega), hP9]; omega)), by omega⟩ hW hS (lv_sub hl [0, 4, 5, 6, 7, 8, 9, 10, 11] rfl)
                        · have g163 := z_f_nlt rfl rfl c158
                          have b164 := Int32.toInt_lt y154
                          have b165 := Int32.toInt_lt y8
                          refine lv_iload hx hb dX12_pool_215 (lv_at hl 5 rfl) ?_
                          refine lv_if_lt (tgt := 256) hx hb dX12_pool_217 (by decide) (fun c166 => ?_) (fun c166 => ?_)
                          · have g167 := z_f_lt rfl z_l0 c166
                            refine lv_iload hx hb dX12_pool_256 (lv_at hl 3 rfl) ?_
                            refine lv_istore (lv' := [(6, .int y129), (11, .int y152), (10, .int y153), (9, .int y154), (8, .int y129), (7, .int y130), (5, .int y8), (4, .int y9), (0, .ref (ad 0)), (1, .int a1), (2, .int a2), (3, .int a3)]) hx hb dX12_pool_258 hl (by decide) rfl (fun ls hl => ?_)
                            refine lv_iload hx hb dX12_pool_260 (lv_at hl 2 rfl) ?_
                            refine lv_istore (lv' := [(7, .int y153), (6, .int y129), (11, .int y152), (10, .int y153), (9, .int y154), (8, .int y129), (5, .int y8), (4, .int y9), (0, .ref (ad 0)), (1, .int a1), (2, .int a2), (3, .int a3)]) hx hb dX12_pool_262 hl (by decide) rfl (fun ls hl => ?_)
                            obtain ⟨x168, ex168⟩ : ∃ y : Int32, y = y129 + 1 := ⟨_, rfl⟩
                            have tx168 : x168.toInt = y129.toInt + 1 := z_tadd ex168 rfl z_l1 (by omega) (by omega)
                            refine lv_iinc (v := x168) (lv' := [(8, .int x168), (7, .int y153), (6, .int y129), (11, .int y152), (10, .int y153), (9, .int y154), (5, .int y8), (4, .int y9), (0, .ref (ad 0)), (1, .int a1), (2, .int a2), (3, .int a3)]) hx hb dX12_pool_264 hl (k := 5) rfl (by rw [ex168]; rfl) (by decide) rfl (fun ls hl => ?_)
                            refine lv_goto (tgt := 107) hx hb dX12_pool_267 (by decide) ?_
                            exact lp128ih x168 y153 y129 _ _ _ (by omega) (by omega) (by omega) (by omega) (by omega) ⟨(by have c9 := z_clt (x := y129) rfl (by omega); have d9 := z_clt (x := x168) rfl (by omega); have k9 := z_clt (x := y152) rfl (by omega); have ek : y152.toNatClampNeg = zq_mn I a1.toInt a2.toInt (I 0 83).toNatClampNeg := (by omega); have s1 := lp151S.1; have s2 := lp151S.2.1; rw [ek] at s1 s2; rw [show x168.toNatClampNeg - 1 = y129.toNatClampNeg - 1 + 1 by omega]; exact zq_mX_y (pb := 0) lp128X.1 (by omega) s1 s2 (by rw [hP9]; omega) (fun q => absurd q (by omega)) (by rw [(show y129.toNatClampNeg - 1 + 1 = y129.toNatClampNeg by omega)]; omega)), by omega⟩ hW hS (lv_sub hl [0, 1, 2, 6, 7, 8, 9, 10, 11] rfl)
                          · have g169 := z_f_nlt rfl z_l0 c166
                            refine lv_iload hx hb dX12_pool_220 (lv_at hl 3 rfl) ?_
                            refine z_ci hW hS hA (va_runS (As := [.int y129]) (rest := []) ⟨hx, hb, hml, hown, hts⟩ (sx_X12_bits_x l G ad I10 J11 y129 (by omega) _) (va_cwS 1 hts gX12_pool_X12_bits rfl rfl rfl (by decide +kernel) ⟨Nat.le_of_ble_eq_true rfl, Nat.le_of_ble_eq_true rfl⟩) (z_preS hK hW) rfl rfl hl.1 rfl (lv_room (Nat.le_of_ble_eq_true rfl)) dX12_pool_222 ⟨Nat.le_of_ble_eq_true rfl, Nat.le_of_ble_eq_true rfl⟩) (fun r u1 H locs hp hW hS => ?_)
                            obtain ⟨e9, hp⟩ := hp
                            rw [e9] at hW
                            refine lv_topi (fun x170 ex170 => ?_)
                            rw [← ex170] at hp
                            have hv171 := hp
                            refine lv_iload hx hb dX12_pool_225 (lv_at hl 5 rfl) ?_
                            refine z_ci hW hS hA (va_runS (As := [.int y131]) (rest := [.int x170]) ⟨hx, hb, hml, hown, hts⟩ (sx_X12_bits_x l G ad I10 J11 y131 (by omega) _) (va_cwS 1 hts gX12_pool_X12_bits rfl rfl rfl (by decide +kernel) ⟨Nat.le_of_ble_eq_true rfl, Nat.le_of_ble_eq_true rfl⟩) (z_preS hK hW) rfl rfl hl.1 rfl (lv_room (Nat.le_of_ble_eq_true rfl)) dX12_pool_227 ⟨Nat.le_of_ble_eq_true rfl, Nat.le_of_ble_eq_true rfl⟩) (fun r u1 H locs hp hW hS => ?_)
                            obtain ⟨e9, hp⟩ := hp
                            rw [e9] at hW
                            refine lv_topi (fun x172 ex172 => ?_)
                            rw [← ex172] at hp
                            have hv173 := hp
                            refine lv_icmp_gt (tgt := 264) hx hb dX12_pool_230 (by decide) (fun c174 => ?_) (fun c174 => ?_)
                            · have g175 := z_f_gt rfl rfl c174
                              have b176 := Int32.toInt_lt x170
                              have b177 := Int32.toInt_lt x172
                              obtain ⟨x178, ex178⟩ : ∃ y : Int32, y = y129 + 1 := ⟨_, rfl⟩
                              have tx178 : x178.toInt = y129.toInt + 1 := z_tadd ex178 rfl z_l1 (by omega) (by omega)
                              refine lv_iinc (v := x178) (lv' := [(8, .int x178), (11, .int y152), (10, .int y153), (9, .int y154), (7, .int y130), (6, .int y131), (5, .int y8), (4, .int y9), (0, .ref (ad 0)), (1, .int a1), (2, .int a2), (3, .int a3)]) hx hb dX12_pool_264 hl (k := 3) rfl (by rw [ex178]; rfl) (by decide) rfl (fun ls hl => ?_)
                              refine lv_goto (tgt := 107) hx hb dX12_pool_267 (by decide) ?_
                              exact lp128ih x178 y130 y131 _ _ _ (by omega) (by omega) (by omega) (by omega) (by omega) ⟨(by have c9 := z_clt (x := y129) rfl (by omega); have d9 := z_clt (x := x178) rfl (by omega); have k9 := z_clt (x := y152) rfl (by omega); have ek : y152.toNatClampNeg = zq_mn I a1.toInt a2.toInt (I 0 83).toNatClampNeg := (by omega); have s1 := lp151S.1; have s2 := lp151S.2.1; rw [ek] at s1 s2; rw [show x178.toNatClampNeg - 1 = y129.toNatClampNeg - 1 + 1 by omega]; exact zq_mX_n (pb := x172.toInt) lp128X.1 (b1 := y129) (by omega) s1 s2 (fun _ => hv173) (by rw [(show y129.toNatClampNeg - 1 + 1 = y129.toNatClampNeg by omega), hP9]; omega)), by omega⟩ hW hS (lv_sub hl [0, 4, 5, 6, 7, 8, 9, 10, 11] rfl)
                            · have g179 := z_f_ngt rfl rfl c174
                              have b180 := Int32.toInt_lt x170
                              have b181 := Int32.toInt_lt x172
                              refine lv_iload hx hb dX12_pool_233 (lv_at hl 3 rfl) ?_
                              refine z_ci hW hS hA (va_runS (As := [.int y129]) (rest := []) ⟨hx, hb, hml, hown, hts⟩ (sx_X12_bits_x l G ad I10 J11 y129 (by omega) _) (va_cwS 1 hts gX12_pool_X12_bits rfl rfl rfl (by decide +kernel) ⟨Nat.le_of_ble_eq_true rfl, Nat.le_of_ble_eq_true rfl⟩) (z_preS hK hW) rfl rfl hl.1 rfl (lv_room (Nat.le_of_ble_eq_true rfl)) dX12_pool_235 ⟨Nat.le_of_ble_eq_true rfl, Nat.le_of_ble_eq_true rfl⟩) (fun r u1 H locs hp hW hS => ?_)
                              obtain ⟨e9, hp⟩ := hp
                              rw [e9] at hW
                              refine lv_topi (fun x182 ex182 => ?_)
                              rw [← ex182] at hp
                              have hv183 := hp
                              refine lv_iload hx hb dX12_pool_238 (lv_at hl 5 rfl) ?_
                              refine z_ci hW hS hA (va_runS (As := [.int y131]) (rest := [.int x182]) ⟨hx, hb, hml, hown, hts⟩ (sx_X12_bits_x l G ad I10 J11 y131 (by omega) _) (va_cwS 1 hts gX12_pool_X12_bits rfl rfl rfl (by decide +kernel) ⟨Nat.le_of_ble_eq_true rfl, Nat.le_of_ble_eq_true rfl⟩) (z_preS hK hW) rfl rfl hl.1 rfl (lv_room (Nat.le_of_ble_eq_true rfl)) dX12_pool_240 ⟨Nat.le_of_ble_eq_true rfl, Nat.le_of_ble_eq_true rfl⟩) (fun r u1 H locs hp hW hS => ?_)
                              obtain ⟨e9, hp⟩ := hp
                              rw [e9] at hW
                              refine lv_topi (fun x184 ex184 => ?_)
                              rw [← ex184] at hp
                              have hv185 := hp
                              refine lv_icmp_ne (tgt := 256) hx hb dX12_pool_243 (by decide) (fun c186 => ?_) (fun c186 => ?_)
                              · have g187 := z_f_ne rfl rfl c186
                                have b188 := Int32.toInt_lt x182
                                have b189 := Int32.toInt_lt x184
                                refine lv_iload hx hb dX12_pool_256 (lv_at hl 3 rfl) ?_
                                refine lv_istore (lv' := [(6, .int y129), (11, .int y152), (10, .int y153), (9, .int y154), (8, .int y129), (7, .int y130), (5, .int y8), (4, .int y9), (0, .ref (ad 0)), (1, .int a1), (2, .int a2), (3, .int a3)]) hx hb dX12_pool_258 hl (by decide) rfl (fun ls hl => ?_)
                                refine lv_iload hx hb dX12_pool_260 (lv_at hl 2 rfl) ?_
                                refine lv_istore (lv' := [(7, .int y153), (6, .int y129), (11, .int y152), (10, .int y153), (9, .int y154), (8, .int y129), (5, .int y8), (4, .int y9), (0, .ref (ad 0)), (1, .int a1), (2, .int a2), (3, .int a3)]) hx hb dX12_pool_262 hl (by decide) rfl (fun ls hl => ?_)
                                obtain ⟨x190, ex190⟩ : ∃ y : Int32, y = y129 + 1 := ⟨_, rfl⟩
                                have tx190 : x190.toInt = y129.toInt + 1 := z_tadd ex190 rfl z_l1 (by omega) (by omega)
                                refine lv_iinc (v := x190) (lv' := [(8, .int x190), (7, .int y153), (6, .int y129), (11, .int y152), (10, .int y153), (9, .int y154), (5, .int y8), (4, .int y9), (0, .ref (ad 0)), (1, .int a1), (2, .int a2), (3, .int a3)]) hx hb dX12_pool_264 hl (k := 5) rfl (by rw [ex190]; rfl) (by decide) rfl (fun ls hl => ?_)
                                refine lv_goto (tgt := 107) hx hb dX12_pool_267 (by decide) ?_
                                exact lp128ih x190 y153 y129 _ _ _ (by omega) (by omega) (by omega) (by omega) (by omega) ⟨(by have c9 := z_clt (x := y129) rfl (by omega); have d9 := z_clt (x := x190) rfl (by omega); have k9 := z_clt (x := y152) rfl (by omega); have ek : y152.toNatClampNeg = zq_mn I a1.toInt a2.toInt (I 0 83).toNatClampNeg := (by omega); have s1 := lp151S.1; have s2 := lp151S.2.1; rw [ek] at s1 s2; rw [show x190.toNatClampNeg - 1 = y129.toNatClampNeg - 1 + 1 by omega]; exact zq_mX_y (pb := x184.toInt) lp128X.1 (by omega) s1 s2 (by rw [hP9]; omega) (fun _ => hv185) (by rw [(show y129.toNatClampNeg - 1 + 1 = y129.toNatClampNeg by omega)]; omega)), by omega⟩ hW hS (lv_sub hl [0, 1, 2, 6, 7, 8, 9, 10, 11] rfl)
                              · have g191 := z_f_eq rfl rfl c186
                                have b192 := Int32.toInt_lt x182
                                have b193 := Int32.toInt_lt x184
                                refine lv_iload hx hb dX12_pool_246 (lv_at hl 1 rfl) ?_
                                refine lv_iload hx hb dX12_pool_248 (lv_at hl 4 rfl) ?_
                                refine lv_icmp_lt (tgt := 256) hx hb dX12_pool_250 (by decide) (fun c194 => ?_) (fun c194 => ?_)
                                · have g195 := z_f_lt rfl rfl c194
                                  have b196 := Int32.toInt_lt y153
                                  have b197 := Int32.toInt_lt y130
                                  refine lv_iload hx hb dX12_pool_256 (lv_at hl 3 rfl) ?_
                                  refine lv_istore (lv' := [(6, .int y129), (11, .int y152), (10, .int y153), (9, .int y154), (8, .int y129), (7, .int y130), (5, .int y8), (4, .int y9), (0, .ref (ad 0)), (1, .int a1), (2, .int a2), (3, .int a3)]) hx hb dX12_pool_258 hl (by decide) rfl (fun ls hl => ?_)
                                  refine lv_iload hx hb dX12_pool_260 (lv_at hl 2 rfl) ?_
                                  refine lv_istore (lv' := [(7, .int y153), (6, .int y129), (11, .int y152), (10, .int y153), (9, .int y154), (8, .int y129), (5, .int y8), (4, .int y9), (0, .ref (ad 0)), (1, .int a1), (2, .int a2), (3, .int a3)]) hx hb dX12_pool_262 hl (by decide) rfl (fun ls hl => ?_)
                                  obtain ⟨x198, ex198⟩ : ∃ y : Int32, y = y129 + 1 := ⟨_, rfl⟩
                                  have tx198 : x198.toInt = y129.toInt + 1 := z_tadd ex198 rfl z_l1 (by omega) (by omega)
                                  refine lv_iinc (v := x198) (lv' := [(8, .int x198), (7, .int y153), (6, .int y129), (11, .int y152), (10, .int y153), (9, .int y154), (5, .int y8), (4, .int y9), (0, .ref (ad 0)), (1, .int a1), (2, .int a2), (3, .int a3)]) hx hb dX12_pool_264 hl (k := 5) rfl (by rw [ex198]; rfl) (by decide) rfl (fun ls hl => ?_)
                                  refine lv_goto (tgt := 107) hx hb dX12_pool_267 (by decide) ?_
                                  exact lp128ih x198 y153 y129 _ _ _ (by omega) (by omega) (by omega) (by omega) (by omega) ⟨(by have c9 := z_clt (x := y129) rfl (by omega); have d9 := z_clt (x := x198) rfl (by omega); have k9 := z_clt (x := y152) rfl (by omega); have ek : y152.toNatClampNeg = zq_mn I a1.toInt a2.toInt (I 0 83).toNatClampNeg := (by omega); have s1 := lp151S.1; have s2 := lp151S.2.1; rw [ek] at s1 s2; rw [show x198.toNatClampNeg - 1 = y129.toNatClampNeg - 1 + 1 by omega]; exact zq_mX_y (pb := x184.toInt) lp128X.1 (by omega) s1 s2 (by rw [hP9]; omega) (fun _ => hv185) (by rw [(show y129.toNatClampNeg - 1 + 1 = y129.toNatClampNeg by omega)]; omega)), by omega⟩ hW hS (lv_sub hl [0, 1, 2, 6, 7, 8, 9, 10, 11] rfl)
                                · have g199 := z_f_nlt rfl rfl c194
                                  have b200 := Int32.toInt_lt y153
                                  have b201 := Int32.toInt_lt y130
                                  refine lv_goto (tgt := 264) hx hb dX12_pool_253 (by decide) ?_
                                  obtain ⟨x202, ex202⟩ : ∃ y : Int32, y = y129 + 1 := ⟨_, rfl⟩
                                  have tx202 : x202.toInt = y129.toInt + 1 := z_tadd ex202 rfl z_l1 (by omega) (by omega)
                                  refine lv_iinc (v := x202) (lv' := [(8, .int x202), (11, .int y152), (10, .int y153), (9, .int y154), (7, .int y130), (6, .int y131), (5, .int y8), (4, .int y9), (0, .ref (ad 0)), (1, .int a1), (2, .int a2), (3, .int a3)]) hx hb dX12_pool_264 hl (k := 3) rfl (by rw [ex202]; rfl) (by decide) rfl (fun ls hl => ?_)
                                  refine lv_goto (tgt := 107) hx hb dX12_pool_267 (by decide) ?_
                                  exact lp128ih x202 y130 y131 _ _ _ (by omega) (by omega) (by omega) (by omega) (by omega) ⟨(by have c9 := z_clt (x := y129) rfl (by omega); have d9 := z_clt (x := x202) rfl (by omega); have k9 := z_clt (x := y152) rfl (by omega); have ek : y152.toNatClampNeg = zq_mn I a1.toInt a2.toInt (I 0 83).toNatClampNeg := (by omega); have s1 := lp151S.1; have s2 := lp151S.2.1; rw [ek] at s1 s2; rw [show x202.toNatClampNeg - 1 = y129.toNatClampNeg - 1 + 1 by omega]; exact zq_mX_n (pb := x184.toInt) lp128X.1 (b1 := y129) (by omega) s1 s2 (fun _ => hv185) (by rw [(show y129.toNatClampNeg - 1 + 1 = y129.toNatClampNeg by omega), hP9]; omega)), by omega⟩ hW hS (lv_sub hl [0, 4, 5, 6, 7, 8, 9, 10, 11] rfl)
                      · have g203 := z_f_nge rfl rfl c155
                        have b204 := Int32.toInt_lt y152
                        refine lv_iload hx hb dX12_pool_132 (lv_at hl 3 rfl) ?_
                        refine lv_iload hx hb dX12_pool_134 (lv_at hl 0 rfl) ?_
                        refine lv_ishr hx hb dX12_pool_136 ?_
                        refine lv_topi (fun x205 ex205 => ?_)
                        refine lv_iconst (v := 1) hx hb dX12_pool_137 (by decide) ?_
                        refine lv_iand hx hb dX12_pool_138 ?_
                        refine lv_topi (fun x206 ex206 => ?_)
                        have hb207 : x206 = zq_bt y129 y152 := by rw [ex206, ex205]; rfl
                        have h208 := zq_bt01 y129 y152
                        rw [← hb207] at h208
                        refine lv_if_ne (tgt := 145) hx hb dX12_pool_139 (by decide) (fun c209 => ?_) (fun c209 => ?_)
                        · have g210 := z_f_ne rfl z_l0 c209
                          have b211 := Int32.toInt_lt x206
                          refine lv_iload hx hb dX12_pool_145 (lv_at hl 2 rfl) ?_
                          refine lv_aload_n hx hb dX12_pool_147 rfl (lv_at hl 8 rfl) ?_
                          refine z_get (T := TX12) (N := 96) (ci := 12) (i := 0) (v := .ref (ad 3)) hx hb hts zj_X12_pool_X12 hown hK hW rfl rfl 5 (by decide) (hts (.fieldLink RX12 16 "PetrolBoardModel" "seatsOf" "[I") (me_s (me_l (List.mem_of_getElem? (i := 5) rfl)))) (fun _ h => h) rfl dX12_pool_148 ?_
                          refine lv_aload_n hx hb dX12_pool_151 rfl (lv_at hl 8 rfl) ?_
                          refine z_get (T := TX12) (N := 96) (ci := 12) (i := 0) (v := .ref (ad 59)) hx hb hts zj_X12_pool_X12 hown hK hW rfl rfl 84 (by decide) (hts (.fieldLink RX12 193 "PetrolBoardModel" "jWho" "[I") (me_s (me_l (List.mem_of_getElem? (i := 6) rfl)))) (fun _ h => h) rfl dX12_pool_152 ?_
                          refine lv_aload_n hx hb dX12_pool_155 rfl (lv_at hl 8 rfl) ?_
                          refine z_get (T := TX12) (N := 96) (ci := 12) (i := 0) (v := .ref (ad 68)) hx hb hts zj_X12_pool_X12 hown hK hW rfl rfl 93 (by decide) (hts (.fieldLink RX12 220 "PetrolBoardModel" "pool" "[I") (me_s (me_l (List.mem_of_getElem? (i := 3) rfl)))) (fun _ h => h) rfl dX12_pool_156 ?_
                          refine lv_iload hx hb dX12_pool_159 (lv_at hl 0 rfl) ?_
                          refine z_iald (i := 68) hx hb hK hW rfl (z_ix rfl (by omega) (by omega)) dX12_pool_161 ?_
                          refine lv_topi (fun x212 ex212 => ?_)
                          have h213 : 0 ≤ x212.toInt ∧ x212.toInt ≤ 59 := by rw [ex212]; exact lp6Apl _
                          have hk214 : x212.toNatClampNeg = (zq_ml I a1.toInt a2.toInt (I 0 83).toNatClampNeg).getD y152.toNatClampNeg 0 := by have q1 := gm3 y152.toNatClampNeg (by have := z_clt (x := y152) rfl (by omega); omega); rw [← ex212] at q1; have q2 := z_clt (x := x212) rfl (by omega); omega
                          refine z_iald (i := 59) hx hb hK hW rfl (z_ix rfl (by omega) (by omega)) dX12_pool_162 ?_
                          refine lv_topi (fun x215 ex215 => ?_)
                          have h216 : 0 ≤ x215.toInt ∧ x215.toInt ≤ 29 := by rw [ex215]; exact lp6Ajw _
                          have hv217 : x215 = I 59 x212.toNatClampNeg := by rw [ex215, lp6fr 59 _ (z_wr_c (by decide))]
                          refine z_iald (i := 3) hx hb hK hW rfl (z_ix rfl (by omega) (by omega)) dX12_pool_163 ?_
                          refine lv_topi (fun x218 ex218 => ?_)
                          have hv219 : x218 = I 3 x215.toNatClampNeg := by rw [ex218, lp6fr 3 _ (z_wr_c (by decide))]
                          refine lv_iadd hx hb dX12_pool_164 ?_
                          refine lv_topi (fun x220 ex220 => ?_)
                          refine lv_istore (lv' := [(9, .int x220), (11, .int y152), (10, .int y153), (8, .int y129), (7, .int y130), (6, .int y131), (5, .int y8), (4, .int y9), (0, .ref (ad 0)), (1, .int a1), (2, .int a2), (3, .int a3)]) hx hb dX12_pool_165 hl (by decide) rfl (fun ls hl => ?_)
                          refine lv_iload hx hb dX12_pool_167 (lv_at hl 2 rfl) ?_
                          refine lv_aload_n hx hb dX12_pool_169 rfl (lv_at hl 8 rfl) ?_
                          refine z_get (T := TX12) (N := 96) (ci := 12) (i := 0) (v := .ref (ad 60)) hx hb hts zj_X12_pool_X12 hown hK hW rfl rfl 85 (by decide) (hts (.fieldLink RX12 196 "PetrolBoardModel" "jMiles" "[I") (me_s (me_l (List.mem_of_getElem? (i := 7) rfl)))) (fun _ h => h) rfl dX12_pool_170 ?_
                          refine lv_aload_n hx hb dX12_pool_173 rfl (lv_at hl 8 rfl) ?_
                          refine z_get (T := TX12) (N := 96) (ci := 12) (i := 0) (v := .ref (ad 68)) hx hb hts zj_X12_pool_X12 hown hK hW rfl rfl 93 (by decide) (hts (.fieldLink RX12 220 "PetrolBoardModel" "pool" "[I") (me_s (me_l (List.mem_of_getElem? (i := 3) rfl)))) (fun _ h => h) rfl dX12_pool_174 ?_
                          refine lv_iload hx hb dX12_pool_177 (lv_at hl 1 rfl) ?_
                          refine z_iald (i := 68) hx hb hK hW rfl (z_ix rfl (by omega) (by omega)) dX12_pool_179 ?_
                          refine z_topi (v := x212) ex212.symm ?_
                          refine z_iald (i := 60) hx hb hK hW rfl (z_ix rfl (by omega) (by omega)) dX12_pool_180 ?_
                          refine lv_topi (fun x221 ex221 => ?_)
                          have hv222 : x221 = I 60 x212.toNatClampNeg := by rw [ex221, lp6fr 60 _ (z_wr_c (by decide))]
                          refine lv_aload_n hx hb dX12_pool_181 rfl (lv_at hl 8 rfl) ?_
                          refine z_get (T := TX12) (N := 96) (ci := 12) (i := 0) (v := .ref (ad 1)) hx hb hts zj_X12_pool_X12 hown hK hW rfl rfl 3 (by decide) (hts (.fieldLink RX12 7 "PetrolBoardModel" "sizeOf" "[I") (me_s (me_l (List.mem_of_getElem? (i := 8) rfl)))) (fun _ h => h) rfl dX12_pool_182 ?_
                          refine lv_aload_n hx hb dX12_pool_185 rfl (lv_at hl 8 rfl) ?_
                          refine z_get (T := TX12) (N := 96) (ci := 12) (i := 0) (v := .ref (ad 59)) hx hb hts zj_X12_pool_X12 hown hK hW rfl rfl 84 (by decide) (hts (.fieldLink RX12 193 "PetrolBoardModel" "jWho" "[I") (me_s (me_l (List.mem_of_getElem? (i := 6) rfl)))) (fun _ h => h) rfl dX12_pool_186 ?_
                          refine lv_aload_n hx hb dX12_pool_189 rfl (lv_at hl 8 rfl) ?_
                          refine z_get (T := TX12) (N := 96) (ci := 12) (i := 0) (v := .ref (ad 68)) hx hb hts zj_X12_pool_X12 hown hK hW rfl rfl 93 (by decide) (hts (.fieldLink RX12 220 "PetrolBoardModel" "pool" "[I") (me_s (me_l (List.mem_of_getElem? (i := 3) rfl)))) (fun _ h => h) rfl dX12_pool_190 ?_
                          refine lv_iload hx hb dX12_pool_193 (lv_at hl 1 rfl) ?_
                          refine z_iald (i := 68) hx hb hK hW rfl (z_ix rfl (by omega) (by omega)) dX12_pool_195 ?_
                          refine z_topi (v := x212) ex212.symm ?_
                          refine z_iald (i := 59) hx hb hK hW rfl (z_ix rfl (by omega) (by omega)) dX12_pool_196 ?_
                          refine z_topi (v := x215) ex215.symm ?_
                          refine z_iald (i := 1) hx hb hK hW rfl (z_ix rfl (by omega) (by omega)) dX12_pool_197 ?_
                          refine lv_topi (fun x223 ex223 => ?_)
                          have hv224 : x223 = I 1 x215.toNatClampNeg := by rw [ex223, lp6fr 1 _ (z_wr_c (by decide))]
                          refine lv_imul hx hb dX12_pool_198 ?_
                          refine lv_topi (fun x225 ex225 => ?_)
                          refine lv_iadd hx hb dX12_pool_199 ?_
                          refine lv_topi (fun x226 ex226 => ?_)
                          refine lv_istore (lv' := [(10, .int x226), (9, .int x220), (11, .int y152), (8, .int y129), (7, .int y130), (6, .int y131), (5, .int y8), (4, .int y9), (0, .ref (ad 0)), (1, .int a1), (2, .int a2), (3, .int a3)]) hx hb dX12_pool_200 hl (by decide) rfl (fun ls hl => ?_)
                          obtain ⟨x227, ex227⟩ : ∃ y : Int32, y = y152 + 1 := ⟨_, rfl⟩
                          have tx227 : x227.toInt = y152.toInt + 1 := z_tadd ex227 rfl z_l1 (by omega) (by omega)
                          refine lv_iinc (v := x227) (lv' := [(11, .int x227), (10, .int x226), (9, .int x220), (8, .int y129), (7, .int y130), (6, .int y131), (5, .int y8), (4, .int y9), (0, .ref (ad 0)), (1, .int a1), (2, .int a2), (3, .int a3)]) hx hb dX12_pool_202 hl (k := 2) rfl (by rw [ex227]; rfl) (by decide) rfl (fun ls hl => ?_)
                          refine lv_goto (tgt := 125) hx hb dX12_pool_205 (by decide) ?_
                          exact lp151ih x227 x226 x220 _ _ _ (by omega) (by omega) ⟨by rw [(show x227.toNatClampNeg = y152.toNatClampNeg + 1 from z_cln (by omega) (by omega))]; exact zq_sum_y (by omega) hb207 (by omega) lp151S.1 (by unfold zq_mSS zq_mS; rw [ex220, hv219, hv217, hk214]), by rw [(show x227.toNatClampNeg = y152.toNatClampNeg + 1 from z_cln (by omega) (by omega))]; exact zq_sum_y (by omega) hb207 (by omega) lp151S.2.1 (by unfold zq_mCC zq_mC; rw [ex226, ex225, hv222, hv224, hv217, hk214]), by omega⟩ hW hS (lv_sub hl [0, 1, 2, 3, 4, 5, 6, 7, 8, 9, 10, 11] rfl)
                        · have g228 := z_f_eq rfl z_l0 c209
                          have b229 := Int32.toInt_lt x206
                          refine lv_goto (tgt := 202) hx hb dX12_pool_142 (by decide) ?_
                          obtain ⟨x230, ex230⟩ : ∃ y : Int32, y = y152 + 1 := ⟨_, rfl⟩
                          have tx230 : x230.toInt = y152.toInt + 1 := z_tadd ex230 rfl z_l1 (by omega) (by omega)
                          refine lv_iinc (v := x230) (lv' := [(11, .int x230), (10, .int y153), (9, .int y154), (8, .int y129), (7, .int y130), (6, .int y131), (5, .int y8), (4, .int y9), (0, .ref (ad 0)), (1, .int a1), (2, .int a2), (3, .int a3)]) hx hb dX12_pool_202 hl (k := 0) rfl (by rw [ex230]; rfl) (by decide) rfl (fun ls hl => ?_)
                          refine lv_goto (tgt := 125) hx hb dX12_pool_205 (by decide) ?_
                          exact lp151ih x230 y153 y154 _ _ _ (by omega) (by omega) ⟨by rw [(show x230.toNatClampNeg = y152.toNatClampNeg + 1 from z_cln (by omega) (by omega))]; exact zq_sum_n (by omega) hb207 (by omega) lp151S.1, by rw [(show x230.toNatClampNeg = y152.toNatClampNeg + 1 from z_cln (by omega) (by omega))]; exact zq_sum_n (by omega) hb207 (by omega) lp151S.2.1, by omega⟩ hW hS (lv_sub hl [0, 1, 2, 3, 4, 5, 6, 7, 8, 9, 10, 11] rfl)
                  exact lp151 4294967296 (0) (0) (0) _ _ _ (z_m0u _) (by rw [z_l0]; omega) ⟨rfl, rfl, by omega⟩ hW hS (lv_sub hl [0, 1, 2, 3, 4, 5, 6, 7, 8, 9, 10, 11] rfl)
            exact lp128 4294967296 (1) (0) ((-1)) _ _ _ (z_m0u _) (by rw [z_l1]; omega) (by rw [z_l1]; omega) (by rw [z_lm1]; omega) (by rw [z_lm1]; omega) ⟨Or.inl ⟨rfl, by decide⟩, by have q9 : 1 ≤ 2 ^ zq_mn I a1.toInt a2.toInt (I 0 83).toNatClampNeg := Nat.one_le_two_pow; have q8 := z_l1; omega⟩ hW hS (lv_sub hl [0, 1, 2, 3, 4, 5, 6, 7, 8] rfl)
          · have g231 := z_f_nge rfl z_l12 c124
            refine lv_aload_n hx hb dX12_pool_36 rfl (lv_at hl 3 rfl) ?_
            refine z_get (T := TX12) (N := 96) (ci := 12) (i := 0) (v := .ref (ad 63)) hx hb hts zj_X12_pool_X12 hown hK hW rfl rfl 88 (by decide) (hts (.fieldLink RX12 205 "PetrolBoardModel" "jDay" "[I") (me_s (me_l (List.mem_of_getElem? (i := 1) rfl)))) (fun _ h => h) rfl dX12_pool_37 ?_
            refine lv_iload hx hb dX12_pool_40 (lv_at hl 0 rfl) ?_
            refine z_iald (i := 63) hx hb hK hW rfl (z_ix rfl (by omega) (by omega)) dX12_pool_42 ?_
            refine lv_topi (fun x232 ex232 => ?_)
            have hv233 : x232 = I 63 y7.toNatClampNeg := by rw [ex232, lp6fr 63 _ (z_wr_c (by decide))]
            have h234 : zq_mD I y7.toNatClampNeg = x232.toInt := by unfold zq_mD; rw [hv233]
            refine lv_iload_n hx hb dX12_pool_43 rfl (lv_at hl 4 rfl) ?_
            refine lv_icmp_ne (tgt := 85) hx hb dX12_pool_44 (by decide) (fun c235 => ?_) (fun c235 => ?_)
            · have g236 := z_f_ne rfl rfl c235
              have b237 := Int32.toInt_lt x232
              have b238 := Int32.toInt_lt a1
              obtain ⟨x239, ex239⟩ : ∃ y : Int32, y = y7 + 1 := ⟨_, rfl⟩
              have tx239 : x239.toInt = y7.toInt + 1 := z_tadd ex239 rfl z_l1 (by omega) (by omega)
              refine lv_iinc (v := x239) (lv' := [(6, .int x239), (5, .int y8), (4, .int y9), (0, .ref (ad 0)), (1, .int a1), (2, .int a2), (3, .int a3)]) hx hb dX12_pool_85 hl (k := 0) rfl (by rw [ex239]; rfl) (by decide) rfl (fun ls hl => ?_)
              refine lv_goto (tgt := 20) hx hb dX12_pool_88 (by decide) ?_
              exact lp6ih x239 y8 y9 I10 J11 _ _ _ (by omega) (by omega) (by omega) (by omega) ⟨(by show 0 ≤ (I10 0 0).toInt ∧ (I10 0 0).toInt ≤ 719; exact lp6ma.1), (by show 0 ≤ (I10 0 1).toInt ∧ (I10 0 1).toInt ≤ 30; exact lp6ma.2.1), (by show 0 ≤ (I10 0 2).toInt ∧ (I10 0 2).toInt ≤ 200; exact lp6ma.2.2)⟩ (by show 0 ≤ (I10 0 83).toInt ∧ (I10 0 83).toInt ≤ 60; exact lp6mj) lp6Apl lp6Ajw ⟨zq_mB_n lp6M.1 (by omega) (by omega) (by omega), by omega⟩ lp6fr hW hS (lv_sub hl [0, 1, 2, 3, 4, 5, 6] rfl)
            · have g240 := z_f_eq rfl rfl c235
              have b241 := Int32.toInt_lt x232
              have b242 := Int32.toInt_lt a1
              refine lv_aload_n hx hb dX12_pool_47 rfl (lv_at hl 3 rfl) ?_
              refine z_get (T := TX12) (N := 96) (ci := 12) (i := 0) (v := .ref (ad 64)) hx hb hts zj_X12_pool_X12 hown hK hW rfl rfl 89 (by decide) (hts (.fieldLink RX12 208 "PetrolBoardModel" "jWay" "[I") (me_s (me_l (List.mem_of_getElem? (i := 2) rfl)))) (fun _ h => h) rfl dX12_pool_48 ?_
              refine lv_iload hx hb dX12_pool_51 (lv_at hl 0 rfl) ?_
              refine z_iald (i := 64) hx hb hK hW rfl (z_ix rfl (by omega) (by omega)) dX12_pool_53 ?_
              refine lv_topi (fun x243 ex243 => ?_)
              have hv244 : x243 = I 64 y7.toNatClampNeg := by rw [ex243, lp6fr 64 _ (z_wr_c (by decide))]
              have h245 : zq_mW I y7.toNatClampNeg = x243.toInt := by unfold zq_mW; rw [hv244]
              refine lv_iload_n hx hb dX12_pool_54 rfl (lv_at hl 5 rfl) ?_
              refine lv_icmp_eq (tgt := 61) hx hb dX12_pool_55 (by decide) (fun c246 => ?_) (fun c246 => ?_)
              · have g247 := z_f_eq rfl rfl c246
                have b248 := Int32.toInt_lt x243
                have b249 := Int32.toInt_lt a2
                refine lv_aload_n hx hb dX12_pool_61 rfl (lv_at hl 3 rfl) ?_
                refine z_get (T := TX12) (N := 96) (ci := 12) (i := 0) (v := .ref (ad 68)) hx hb hts zj_X12_pool_X12 hown hK hW rfl rfl 93 (by decide) (hts (.fieldLink RX12 220 "PetrolBoardModel" "pool" "[I") (me_s (me_l (List.mem_of_getElem? (i := 3) rfl)))) (fun _ h => h) rfl dX12_pool_62 ?_
                refine lv_iload hx hb dX12_pool_65 (lv_at hl 2 rfl) ?_
                refine lv_iload hx hb dX12_pool_67 (lv_at hl 0 rfl) ?_
                refine z_iast (i := 68) hx hb hK hW hS rfl (z_ix rfl (by omega) (by omega)) dX12_pool_69 (fun H locs hz1 hW hS => ?_)
                obtain ⟨I250, eI250⟩ : ∃ K : z_I, K = z_up I10 68 y9.toNatClampNeg y7 := ⟨_, rfl⟩
                rw [← eI250] at hW
                have f251 := z_fr_a lp6fr (show z_wa L_X12_pool_x 68 = true by decide) eI250
                have a252 := z_rg_a lp6Apl (by omega) eI250
                have a253 := z_rg_n lp6Ajw (by decide) eI250
                refine lv_iload hx hb dX12_pool_70 (lv_at hl 1 rfl) ?_
                refine lv_aload_n hx hb dX12_pool_72 rfl (lv_at hl 3 rfl) ?_
                refine z_get (T := TX12) (N := 96) (ci := 12) (i := 0) (v := .ref (ad 61)) hx hb hts zj_X12_pool_X12 hown hK hW rfl rfl 86 (by decide) (hts (.fieldLink RX12 199 "PetrolBoardModel" "jPeople" "[I") (me_s (me_l (List.mem_of_getElem? (i := 4) rfl)))) (fun _ h => h) rfl dX12_pool_73 ?_
                refine lv_iload hx hb dX12_pool_76 (lv_at hl 0 rfl) ?_
                refine z_iald (i := 61) hx hb hK hW rfl (z_ix rfl (by omega) (by omega)) dX12_pool_78 ?_
                refine lv_topi (fun x254 ex254 => ?_)
                have hv255 : x254 = I 61 y7.toNatClampNeg := by rw [ex254, f251 61 _ (z_wr_c (by decide))]
                refine lv_iadd hx hb dX12_pool_79 ?_
                refine lv_topi (fun x256 ex256 => ?_)
                refine lv_istore (lv' := [(5, .int x256), (6, .int y7), (4, .int y9), (0, .ref (ad 0)), (1, .int a1), (2, .int a2), (3, .int a3)]) hx hb dX12_pool_80 hl (by decide) rfl (fun ls hl => ?_)
                obtain ⟨x257, ex257⟩ : ∃ y : Int32, y = y9 + 1 := ⟨_, rfl⟩
                have tx257 : x257.toInt = y9.toInt + 1 := z_tadd ex257 rfl z_l1 (by omega) (by omega)
                refine lv_iinc (v := x257) (lv' := [(4, .int x257), (5, .int x256), (6, .int y7), (0, .ref (ad 0)), (1, .int a1), (2, .int a2), (3, .int a3)]) hx hb dX12_pool_82 hl (k := 2) rfl (by rw [ex257]; rfl) (by decide) rfl (fun ls hl => ?_)
                obtain ⟨x258, ex258⟩ : ∃ y : Int32, y = y7 + 1 := ⟨_, rfl⟩
                have tx258 : x258.toInt = y7.toInt + 1 := z_tadd ex258 rfl z_l1 (by omega) (by omega)
                refine lv_iinc (v := x258) (lv' := [(6, .int x258), (4, .int x257), (5, .int x256), (0, .ref (ad 0)), (1, .int a1), (2, .int a2), (3, .int a3)]) hx hb dX12_pool_85 hl (k := 2) rfl (by rw [ex258]; rfl) (by decide) rfl (fun ls hl => ?_)
                refine lv_goto (tgt := 20) hx hb dX12_pool_88 (by decide) ?_
                exact lp6ih x258 x256 x257 I250 J11 _ _ _ (by omega) (by omega) (by omega) (by omega) ⟨(by show 0 ≤ (I250 0 0).toInt ∧ (I250 0 0).toInt ≤ 719; rw [eI250, z_up_n (by decide)]; exact lp6ma.1), (by show 0 ≤ (I250 0 1).toInt ∧ (I250 0 1).toInt ≤ 30; rw [eI250, z_up_n (by decide)]; exact lp6ma.2.1), (by show 0 ≤ (I250 0 2).toInt ∧ (I250 0 2).toInt ≤ 200; rw [eI250, z_up_n (by decide)]; exact lp6ma.2.2)⟩ (by show 0 ≤ (I250 0 83).toInt ∧ (I250 0 83).toInt ≤ 60; rw [eI250, z_up_n (by decide)]; exact lp6mj) a252 a253 ⟨zq_mB_y lp6M.1 (by omega) (by omega) (by omega) (by omega) eI250 rfl (by omega) (by unfold zq_mP; rw [ex256, hv255]), by omega⟩ f251 hW hS (lv_sub hl [0, 2, 1, 3, 4, 5, 6] rfl)
              · have g259 := z_f_ne rfl rfl c246
                have b260 := Int32.toInt_lt x243
                have b261 := Int32.toInt_lt a2
                refine lv_goto (tgt := 85) hx hb dX12_pool_58 (by decide) ?_
                obtain ⟨x262, ex262⟩ : ∃ y : Int32, y = y7 + 1 := ⟨_, rfl⟩
                have tx262 : x262.toInt = y7.toInt + 1 := z_tadd ex262 rfl z_l1 (by omega) (by omega)
                refine lv_iinc (v := x262) (lv' := [(6, .int x262), (5, .int y8), (4, .int y9), (0, .ref (ad 0)), (1, .int a1), (2, .int a2), (3, .int a3)]) hx hb dX12_pool_85 hl (k := 0) rfl (by rw [ex262]; rfl) (by decide) rfl (fun ls hl => ?_)
                refine lv_goto (tgt := 20) hx hb dX12_pool_88 (by decide) ?_
                exact lp6ih x262 y8 y9 I10 J11 _ _ _ (by omega) (by omega) (by omega) (by omega) ⟨(by show 0 ≤ (I10 0 0).toInt ∧ (I10 0 0).toInt ≤ 719; exact lp6ma.1), (by show 0 ≤ (I10 0 1).toInt ∧ (I10 0 1).toInt ≤ 30; exact lp6ma.2.1), (by show 0 ≤ (I10 0 2).toInt ∧ (I10 0 2).toInt ≤ 200; exact lp6ma.2.2)⟩ (by show 0 ≤ (I10 0 83).toInt ∧ (I10 0 83).toInt ≤ 60; exact lp6mj) lp6Apl lp6Ajw ⟨zq_mB_n lp6M.1 (by omega) (by omega) (by omega), by omega⟩ lp6fr hW hS (lv_sub hl [0, 1, 2, 3, 4, 5, 6] rfl)
    exact lp6 4294967296 (0) (0) (0) I J _ _ _ (z_m0u _) (by rw [z_l0]; omega) (by rw [z_l0]; omega) (by rw [z_l0]; omega) ⟨(by show 0 ≤ (I 0 0).toInt ∧ (I 0 0).toInt ≤ 719; exact hma.1), (by show 0 ≤ (I 0 1).toInt ∧ (I 0 1).toInt ≤ 30; exact hma.2.1), (by show 0 ≤ (I 0 2).toInt ∧ (I 0 2).toInt ≤ 200; exact hma.2.2)⟩ (by show 0 ≤ (I 0 83).toInt ∧ (I 0 83).toInt ≤ 60; exact hmj) hApl hAjw ⟨zq_mB_0 rfl rfl rfl, by omega⟩ z_fr_0 hW hS (lv_sub hl [0, 1, 2, 3, 4, 5, 6] rfl)
  · have h263 := h1
    have z264 := z_l0
    have z265 := z_l3
    refine lv_if_ne (tgt := 11) hx hb dX12_pool_6 (by decide) (fun c266 => absurd (by decide) c266) (fun c266 => ?_)
    refine lv_iconst (v := (-1)) hx hb dX12_pool_9 (by decide) ?_
    exact z_iret hx hb hr hK hS (Nat.le_of_ble_eq_true rfl) (Nat.le_of_ble_eq_true rfl) hlocks dX12_pool_10 (shM, ad, I, J, PM ad) hW ⟨I, J, rfl, ⟨(by show 0 ≤ (I 0 0).toInt ∧ (I 0 0).toInt ≤ 719; exact hma.1), (by show 0 ≤ (I 0 1).toInt ∧ (I 0 1).toInt ≤ 30; exact hma.2.1), (by show 0 ≤ (I 0 2).toInt ∧ (I 0 2).toInt ≤ 200; exact hma.2.2)⟩, (by show 0 ≤ (I 0 83).toInt ∧ (I 0 83).toInt ≤ 60; exact hmj), hApl, hAjw, z_fr_0, (Or.inr ⟨by omega, by decide⟩)⟩
end SG60z7
section SG60zj


/-! SUMS: the lowest first LEVEL backwards, the highest and the least forwards -/
/-- backwards: the lowest LEVEL of the place n - d from which LEVELS go on to the end; -1: none -/
noncomputable def zu_B (l h v : Nat → Int) (n : Nat) : Nat → Int
  | 0 => l n
  | d + 1 => if zu_B l h v n d = -1 then -1 else if h (n - 1 - d) < max (l (n - 1 - d)) (zu_B l h v n d - v (n - 1 - d)) then -1 else max (l (n - 1 - d)) (zu_B l h v n d - v (n - 1 - d))
theorem zu_B_y {l h v : Nat → Int} {n d : Nat} (q : ¬ zu_B l h v n d = -1) (w : ¬ h (n - 1 - d) < max (l (n - 1 - d)) (zu_B l h v n d - v (n - 1 - d))) : zu_B l h v n (d + 1) = max (l (n - 1 - d)) (zu_B l h v n d - v (n - 1 - d)) := by
  rw [zu_B, if_neg q, if_neg w]
theorem zu_B_n {l h v : Nat → Int} {n d : Nat} (q : zu_B l h v n d = -1 ∨ h (n - 1 - d) < max (l (n - 1 - d)) (zu_B l h v n d - v (n - 1 - d))) : zu_B l h v n (d + 1) = -1 := by
  rw [zu_B]
  by_cases w : zu_B l h v n d = -1
  · rw [if_pos w]
  · rw [if_neg w, if_pos (q.resolve_left w)]
theorem zu_B_st {l h v : Nat → Int} {n d : Nat} (q : zu_B l h v n d = -1) : ∀ e : Nat, zu_B l h v n (d + e) = -1
  | 0 => q
  | e + 1 => zu_B_n (Or.inl (zu_B_st q e))
theorem zu_B_m {l h v : Nat → Int} {n d e : Nat} (q : zu_B l h v n d = -1) (hd : d ≤ e) : zu_B l h v n e = -1 := by
  have w := zu_B_st q (e - d)
  rw [show d + (e - d) = e by omega] at w
  exact w
/-- forwards: the highest LEVEL of a place -/
noncomputable def zu_H (h v : Nat → Int) : Nat → Int
  | 0 => h 0
  | k + 1 => min (h (k + 1)) (zu_H h v k + v k)
/-- the least first LEVEL, and the last one, as the reference keeps them -/
noncomputable def zu_L (l v : Nat → Int) : Nat → Int
  | 0 => l 0
  | k + 1 => max (zu_L l v k) (l (k + 1) - zu_s v (k + 1))
noncomputable def zu_Z (h v : Nat → Int) : Nat → Int
  | 0 => 0
  | k + 1 => if k = 0 then h 1 else min (h (k + 1)) (zu_Z h v k + v k)
/-- as high as it goes from the first LEVEL -/
noncomputable def zu_U (h v : Nat → Int) (f : Int) : Nat → Int
  | 0 => f
  | k + 1 => min (h (k + 1)) (zu_U h v f k + v k)
theorem zu_U_Z {h v : Nat → Int} {f : Int} : ∀ k : Nat, zu_U h v f (k + 1) = min (zu_Z h v (k + 1)) (f + zu_s v (k + 1))
  | 0 => by
    show min (h 1) (f + v 0) = min (zu_Z h v 1) (f + (0 + v 0))
    rw [show zu_Z h v 1 = h 1 from rfl, Int.zero_add]
  | k + 1 => by
    have ih := zu_U_Z (h := h) (v := v) (f := f) k
    have e : zu_Z h v (k + 1 + 1) = min (h (k + 1 + 1)) (zu_Z h v (k + 1) + v (k + 1)) := by rw [zu_Z, if_neg (by omega)]
    rw [zu_U, ih, e, zu_s_s (n := k + 1)]
    omega
section ZUF
variable {l h v : Nat → Int} {n : Nat}
theorem zu_B_0 (hl : ∀ k, k ≤ n → 0 ≤ l k) : ∀ d : Nat, d ≤ n → zu_B l h v n d = -1 ∨ 0 ≤ zu_B l h v n d
  | 0, _ => Or.inr (hl n (Nat.le_refl n))
  | d + 1, hd => by
    by_cases q : zu_B l h v n d = -1 ∨ h (n - 1 - d) < max (l (n - 1 - d)) (zu_B l h v n d - v (n - 1 - d))
    · exact Or.inl (zu_B_n q)
    · have q1 : ¬ zu_B l h v n d = -1 := fun w => q (Or.inl w)
      have q2 : ¬ h (n - 1 - d) < max (l (n - 1 - d)) (zu_B l h v n d - v (n - 1 - d)) := fun w => q (Or.inr w)
      have w := hl (n - 1 - d) (by omega)
      refine Or.inr ?_
      rw [zu_B_y q1 q2]
      omega
/-- what stands in a row that goes on -/
theorem zu_B_i (hlh : ∀ k, k ≤ n → l k ≤ h k) (hB : ¬ zu_B l h v n n = -1) : ∀ k : Nat, k ≤ n → l k ≤ zu_B l h v n (n - k) ∧ zu_B l h v n (n - k) ≤ h k ∧ (k < n → zu_B l h v n (n - (k + 1)) ≤ zu_B l h v n (n - k) + v k) := fun k hk => by
  have hne : ∀ d, d ≤ n → ¬ zu_B l h v n d = -1 := fun d hd w => hB (zu_B_m w hd)
  by_cases e : k = n
  · subst e
    rw [Nat.sub_self]
    exact ⟨Int.le_refl _, hlh k hk, fun w => absurd w (Nat.lt_irrefl k)⟩
  · have h1 := hne (n - (k + 1)) (by omega)
    have h2 := hne (n - k) (by omega)
    have ek : n - 1 - (n - (k + 1)) = k := by omega
    have en : n - k = n - (k + 1) + 1 := by omega
    have w : ¬ h (n - 1 - (n - (k + 1))) < max (l (n - 1 - (n - (k + 1)))) (zu_B l h v n (n - (k + 1)) - v (n - 1 - (n - (k + 1)))) := fun w => h2 (by rw [en]; exact zu_B_n (Or.inr w))
    have e2 := zu_B_y h1 w
    rw [ek] at w e2
    rw [en, e2]
    refine ⟨by omega, by omega, fun _ => by omega⟩
theorem zu_BH (hlh : ∀ k, k ≤ n → l k ≤ h k) (hB : ¬ zu_B l h v n n = -1) : ∀ k : Nat, k ≤ n → zu_B l h v n (n - k) ≤ zu_H h v k
  | 0, hk => (zu_B_i hlh hB 0 hk).2.1
  | k + 1, hk => by
    have ih := zu_BH hlh hB k (by omega)
    have w1 := zu_B_i hlh hB k (by omega)
    have w2 := zu_B_i hlh hB (k + 1) hk
    have w3 := w1.2.2 (by omega)
    rw [zu_H]
    omega
theorem zu_HB (h0 : l 0 ≤ h 0) (hH : ∀ k, 1 ≤ k → k ≤ n → l k ≤ zu_H h v k) (hn : 1 ≤ n) (hl : ∀ k, k ≤ n → 0 ≤ l k) : ∀ d : Nat, d ≤ n → ¬ zu_B l h v n d = -1 ∧ zu_B l h v n d ≤ zu_H h v (n - d)
  | 0, _ => ⟨fun w => by
      have w1 := hl n (Nat.le_refl n)
      have w2 : zu_B l h v n 0 = l n := rfl
      omega, hH n hn (Nat.le_refl n)⟩
  | d + 1, hd => by
    obtain ⟨ih1, ih2⟩ := zu_HB h0 hH hn hl d (by omega)
    have en : n - d = (n - 1 - d) + 1 := by omega
    rw [en, zu_H] at ih2
    have hk : l (n - 1 - d) ≤ zu_H h v (n - 1 - d) := by
      by_cases e : n - 1 - d = 0
      · rw [e]
        exact h0
      · exact hH _ (by omega) (by omega)
    have hh : zu_H h v (n - 1 - d) ≤ h (n - 1 - d) := by
      cases e : n - 1 - d with
      | zero => exact Int.le_refl _
      | succ m => rw [zu_H]; omega
    have w : ¬ h (n - 1 - d) < max (l (n - 1 - d)) (zu_B l h v n d - v (n - 1 - d)) := by omega
    have e2 := zu_B_y ih1 w
    have l0 := hl (n - 1 - d) (by omega)
    rw [e2, show n - (d + 1) = n - 1 - d by omega]
    exact ⟨by omega, by omega⟩
/-- both ways find the same first LEVEL -/
theorem zu_BL (hB : ¬ zu_B l h v n n = -1) : ∀ k : Nat, k ≤ n → max (zu_L l v (n - k)) (zu_B l h v n k - zu_s v (n - k)) = zu_L l v n
  | 0, _ => by
    show max (zu_L l v n) (l n - zu_s v n) = zu_L l v n
    cases n with
    | zero =>
      show max (l 0) (l 0 - 0) = l 0
      omega
    | succ m =>
      rw [zu_L]
      omega
  | k + 1, hk => by
    have ih := zu_BL hB k (by omega)
    have h1 : ¬ zu_B l h v n k = -1 := fun w => hB (zu_B_m w (by omega))
    have h2 : ¬ zu_B l h v n (k + 1) = -1 := fun w => hB (zu_B_m w hk)
    have w : ¬ h (n - 1 - k) < max (l (n - 1 - k)) (zu_B l h v n k - v (n - 1 - k)) := fun w => h2 (zu_B_n (Or.inr w))
    have e2 := zu_B_y h1 w
    have en : n - k = (n - 1 - k) + 1 := by omega
    have hlk : l (n - 1 - k + 1) ≤ zu_B l h v n k := by
      cases k with
      | zero =>
        rw [show n - 1 - 0 + 1 = n by omega]
        exact Int.le_refl _
      | succ j =>
        have h3 : ¬ zu_B l h v n j = -1 := fun w => hB (zu_B_m w (by omega))
        have w3 : ¬ h (n - 1 - j) < max (l (n - 1 - j)) (zu_B l h v n j - v (n - 1 - j)) := fun w => h1 (zu_B_n (Or.inr w))
        rw [zu_B_y h3 w3, show n - 1 - (j + 1) + 1 = n - 1 - j by omega]
        omega
    have hT : l (n - 1 - k) - zu_s v (n - 1 - k) ≤ zu_L l v (n - 1 - k) := by
      cases e : n - 1 - k with
      | zero =>
        show l 0 - 0 ≤ l 0
        omega
      | succ m =>
        rw [zu_L]
        omega
    rw [en, zu_L, zu_s_s] at ih
    rw [e2, show n - (k + 1) = n - 1 - k by omega]
    omega
theorem zu_BT (hn : 1 ≤ n) (hB : ¬ zu_B l h v n n = -1) (hlh : ∀ k, k ≤ n → l k ≤ h k) : zu_B l h v n n = zu_L l v n := by
  have w := zu_BL hB n (Nat.le_refl n)
  have w2 := (zu_B_i hlh hB 0 (by omega)).1
  rw [Nat.sub_self] at w
  rw [Nat.sub_zero] at w2
  have w3 : zu_L l v 0 = l 0 := rfl
  have w4 : zu_s v 0 = 0 := rfl
  omega
end ZUF
/-- SUMS, the class: by what it is asked -/
noncomputable def zu_X (l h v : Nat → Int) (n : Nat) (w : Int) : Int := if zu_B l h v n n = -1 then -3 else if w = 0 then zu_s v n + zu_B l h v n n - zu_U h v (zu_B l h v n n) n else zu_s v n + h 0 - l n
/-- SUMS, the reference -/
noncomputable def zu_ok (l h v : Nat → Int) (n : Nat) : Prop := ∀ k : Nat, 1 ≤ k → k ≤ n → l k ≤ zu_H h v k
theorem zu_XY {l h v : Nat → Int} {n : Nat} {w r : Int} (hn : 1 ≤ n) (hl : ∀ k, k ≤ n → 0 ≤ l k) (hlh : ∀ k, k ≤ n → l k ≤ h k) (hw : w = 0 ∨ w = 1) (hr : (¬ zu_ok l h v n ∧ r = -3) ∨ (zu_ok l h v n ∧ ((w = 1 ∧ r = zu_s v n + h 0 - l n) ∨ (w = 0 ∧ r = max 0 (zu_s v n + zu_L l v n - zu_Z h v n))))) : zu_X l h v n w = r := by
  unfold zu_X
  by_cases hB : zu_B l h v n n = -1
  · rw [if_pos hB]
    rcases hr with ⟨_, q⟩ | ⟨q, _⟩
    · exact q.symm
    · exact absurd hB (zu_HB (hlh 0 (by omega)) q hn hl n (Nat.le_refl n)).1
  · rw [if_neg hB]
    have hok : zu_ok l h v n := fun k h1 hk => by
      have w1 := zu_BH hlh hB k hk
      have w2 := (zu_B_i hlh hB k hk).1
      omega
    rcases hr with ⟨q, _⟩ | ⟨_, ⟨q, e⟩ | ⟨q, e⟩⟩
    · exact absurd hok q
    · rw [if_neg (by omega), e]
    · obtain ⟨m, rfl⟩ : ∃ m, n = m + 1 := ⟨n - 1, by omega⟩
      rw [if_pos q, e, zu_U_Z, ← zu_BT hn hB hlh]
      omega
theorem zu_s_sh {f g : Nat → Int} {i : Nat} (e : ∀ k, g k = f (i + k)) : ∀ n : Nat, zu_s g n = zu_s f (i + n) - zu_s f i
  | 0 => by
    show (0 : Int) = zu_s f i - zu_s f i
    omega
  | n + 1 => by
    rw [zu_s, zu_s_sh e n, e n, show i + (n + 1) = i + n + 1 from rfl, zu_s]
    omega
/-! the rows low, high, in alone are written -/
noncomputable def zu_q (K I : z_I) : Prop := zu_k K I ∧ ∀ a j : Nat, a < 100 → K a j = I a j
theorem zu_q_0 {I : z_I} : zu_q I I := ⟨zu_k_0, fun _ _ _ => rfl⟩
theorem zu_q_t {K I I0 : z_I} (h1 : zu_q K I) (h2 : zu_q I I0) : zu_q K I0 := ⟨zu_k_t h1.1 h2.1, fun a j ha => (h1.2 a j ha).trans (h2.2 a j ha)⟩
theorem zu_q_a {K I I0 : z_I} {r i j : Nat} {v : Int32} (h : zu_q I I0) (hi : 5 ≤ i ∧ i ≤ 7) (hr : r < 10) (e : K = z_up I (100 + 8 * r + i) j v) : zu_q K I0 := ⟨zu_k_a h.1 hi hr e, fun a k ha => by
  rw [e, z_up_n (by omega)]
  exact h.2 a k ha⟩
noncomputable def zu_do (c : z_C) (I : z_I) (k j : Nat) : Int := zb_ax c I 4 ((I (100 + 8 * k + 2) j).toInt / 30) (I 0 0).toInt
noncomputable def zu_lo (c : z_C) (I : z_I) (k j : Nat) : Int := max 0 ((I (100 + 8 * k + 1) j).toInt - zu_do c I k j)
noncomputable def zu_hi (c : z_C) (I : z_I) (k j : Nat) : Int := (I (100 + 8 * k + 1) j).toInt + zu_do c I k j
section ZUQ
variable {c : z_C} {K I : z_I} {k j : Nat}
theorem zu_do_q (h : zu_q K I) (hk : k < 10) : zu_do c K k j = zu_do c I k j := by
  unfold zu_do
  rw [h.1.2 k 2 j hk (by decide) (by decide), h.2 0 0 (by decide), zb_ax_c (fun a q ha => h.1.1.2 a q ha)]
theorem zu_f_q (h : zu_q K I) {s : Int} : zu_f K s = zu_f I s := funext fun p => by
  unfold zu_f
  rw [h.2 31 p (by decide), h.2 36 p (by decide), h.2 35 p (by decide)]
theorem zu_I_q (h : zu_q K I) (hk : k < 10) {s : Int} : zu_I c K k s j = zu_I c I k s j := by
  unfold zu_I
  rw [zu_f_q h, h.1.2 k 3 (j + 1) hk (by decide) (by decide), h.1.2 k 3 j hk (by decide) (by decide), h.1.2 k 4 (j + 1) hk (by decide) (by decide), h.1.2 k 4 j hk (by decide) (by decide), h.1.2 k 2 (j + 1) hk (by decide) (by decide), h.1.2 k 2 j hk (by decide) (by decide), h.2 0 0 (by decide), zb_ax_c (fun a q ha => h.1.1.2 a q ha)]
theorem zu_D_q (h : zu_q K I) (hk : k < 10) (d : zu_D I k) : zu_D K k := fun i hi => by
  rw [h.1.1.1 k 4 hk] at hi
  rw [h.1.2 k 1 i hk (by decide) (by decide), h.1.2 k 2 i hk (by decide) (by decide), h.1.2 k 3 i hk (by decide) (by decide), h.1.2 k 4 i hk (by decide) (by decide), h.2 30 8 (by decide)]
  exact d i hi
theorem zu_M_q (h : zu_q K I) (hk : k < 10) (d : zu_M I k) : zu_M K k := fun i hi => by
  rw [h.1.1.1 k 4 hk] at hi
  rw [h.1.2 k 4 i hk (by decide) (by decide), h.1.2 k 4 (i + 1) hk (by decide) (by decide)]
  exact d i hi
theorem zu_ab_q (h : zu_q K I) (d : ∀ (t : Int) (q : Nat), 0 ≤ t → q < c.2.1 → 0 ≤ zi_ax c I t q ∧ zi_ax c I t q ≤ 999999) : ∀ (t : Int) (q : Nat), 0 ≤ t → q < c.2.1 → 0 ≤ zi_ax c K t q ∧ zi_ax c K t q ≤ 999999 := fun t q ht hq => by
  have e4 : zi_hd K (200 + 5 * q) = zi_hd I (200 + 5 * q) := funext fun i => by unfold zi_hd; rw [h.1.1.2 _ _ (by omega)]
  have e5 : zi_nu K (200 + 5 * q) = zi_nu I (200 + 5 * q) := funext fun i => by unfold zi_nu; rw [h.1.1.2 _ _ (by omega)]
  have e6 : zi_ax c K t q = zi_ax c I t q := by
    unfold zi_ax
    rw [e4, e5]
  rw [e6]
  exact d t q ht hq
theorem zu_Te_q (h : zu_q K I) (d : ∀ p : Nat, (p : Int) < (I 30 8).toInt → 0 ≤ (I 35 p).toInt ∧ (I 35 p).toInt ≤ 999999) : ∀ p : Nat, (p : Int) < (K 30 8).toInt → 0 ≤ (K 35 p).toInt ∧ (K 35 p).toInt ≤ 999999 := fun p hp => by
  rw [h.2 30 8 (by decide)] at hp
  rw [h.2 35 p (by decide)]
  exact d p hp
theorem zu_on_q (h : zu_q K I) (d : (I 21 2).toInt = (c.2.1 : Int)) : (K 21 2).toInt = (c.2.1 : Int) := by
  rw [h.2 21 2 (by decide)]
  exact d
theorem zu_mo_q (h : zu_q K I) (d : ∀ j, j < c.2.1 → 0 ≤ (I (200 + 5 * j) 0).toInt) : ∀ j, j < c.2.1 → 0 ≤ (K (200 + 5 * j) 0).toInt := fun i hi => by
  rw [h.1.1.2 (200 + 5 * i) 0 (by omega)]
  exact d i hi
/-- what is laid in the places from a to b (in: ahead of e) -/
noncomputable def zu_P (c : z_C) (I K : z_I) (k : Nat) (s : Int) (a b e : Nat) : Prop := ∀ m : Nat, a ≤ m → m < b → (K (100 + 8 * k + 5) m).toInt = zu_lo c I k m ∧ (K (100 + 8 * k + 6) m).toInt = zu_hi c I k m ∧ (m < e → (K (100 + 8 * k + 7) m).toInt = zu_I c I k s m ∧ -1100000000 ≤ zu_I c I k s m ∧ zu_I c I k s m ≤ 1100000000)
theorem zu_P_0 {s : Int} {a e : Nat} : zu_P c I K k s a a e := fun m h1 h2 => absurd h2 (by omega)
theorem zu_P_s {s : Int} {a e y : Nat} {v5 v6 v7 : Int32} {K1 K2 K3 : z_I} (h : zu_P c I K k s a y e) (e1 : K1 = z_up K (100 + 8 * k + 5) y v5) (e2 : K2 = z_up K1 (100 + 8 * k + 6) y v6) (e3 : K3 = z_up K2 (100 + 8 * k + 7) y v7) (h5 : v5.toInt = zu_lo c I k y) (h6 : v6.toInt = zu_hi c I k y) (h7 : y < e → v7.toInt = zu_I c I k s y ∧ -1100000000 ≤ zu_I c I k s y ∧ zu_I c I k s y ≤ 1100000000) : zu_P c I K3 k s a (y + 1) e := fun m h1 h2 => by
  by_cases q : m = y
  · rw [q]
    refine ⟨?_, ?_, fun w => ?_⟩
    · rw [e3, z_up_n (by omega), e2, z_up_n (by omega), e1, z_up_s]
      exact h5
    · rw [e3, z_up_n (by omega), e2, z_up_s]
      exact h6
    · rw [e3, z_up_s]
      exact h7 w
  · obtain ⟨g1, g2, g3⟩ := h m h1 (by omega)
    refine ⟨?_, ?_, fun w => ?_⟩
    · rw [e3, z_up_n (by omega), e2, z_up_n (by omega), e1, z_up_k q]
      exact g1
    · rw [e3, z_up_n (by omega), e2, z_up_k q, e1, z_up_n (by omega)]
      exact g2
    · rw [e3, z_up_k q, e2, z_up_n (by omega), e1, z_up_n (by omega)]
      exact g3 w
end ZUQ
/-! the rows from the place a on -/
noncomputable def zu_rl (I : z_I) (k a m : Nat) : Int := (I (100 + 8 * k + 5) (a + m)).toInt
noncomputable def zu_rh (I : z_I) (k a m : Nat) : Int := (I (100 + 8 * k + 6) (a + m)).toInt
noncomputable def zu_rv (I : z_I) (k a m : Nat) : Int := (I (100 + 8 * k + 7) (a + m)).toInt
noncomputable def zu_gb (I : z_I) (k a n : Nat) : Prop := ∀ m : Nat, m ≤ n → (0 ≤ zu_rl I k a m ∧ zu_rl I k a m ≤ 200000) ∧ (zu_rl I k a m ≤ zu_rh I k a m ∧ zu_rh I k a m ≤ 1199999) ∧ (m < n → -1100000000 ≤ zu_rv I k a m ∧ zu_rv I k a m ≤ 1100000000)
theorem zu_B_up {l h v : Nat → Int} {n d : Nat} {b x y z w : Int} (hb : zu_B l h v n d = b) (h0 : 0 ≤ b) (el : l (n - 1 - d) = x) (ev : v (n - 1 - d) = y) (eh : h (n - 1 - d) = z) (e : w = max x (b - y)) : (w ≤ z → zu_B l h v n (d + 1) = w) ∧ (z < w → zu_B l h v n (d + 1) = -1) := by
  refine ⟨fun q => ?_, fun q => ?_⟩
  · rw [zu_B_y (by omega) (by rw [el, ev, eh, hb]; omega), el, ev, hb, e]
  · exact zu_B_n (Or.inr (by rw [el, ev, eh, hb]; omega))
theorem zu_B_g {I : z_I} {k a n : Nat} (hg : zu_gb I k a n) : zu_B (zu_rl I k a) (zu_rh I k a) (zu_rv I k a) n n = -1 ∨ (0 ≤ zu_B (zu_rl I k a) (zu_rh I k a) (zu_rv I k a) n n ∧ zu_B (zu_rl I k a) (zu_rh I k a) (zu_rv I k a) n n ≤ 1199999) := by
  by_cases q : zu_B (zu_rl I k a) (zu_rh I k a) (zu_rv I k a) n n = -1
  · exact Or.inl q
  · have w := zu_B_i (l := zu_rl I k a) (h := zu_rh I k a) (v := zu_rv I k a) (fun m hm => (hg m hm).2.1.1) q 0 (Nat.zero_le n)
    have g := hg 0 (Nat.zero_le n)
    rw [Nat.sub_zero] at w
    exact Or.inr ⟨by omega, by omega⟩
/-! what SUMS rest on, as they are told -/
noncomputable def zu_cl (c : z_C) (I : z_I) (k a m : Nat) : Int := zu_lo c I k (a + m)
noncomputable def zu_ch (c : z_C) (I : z_I) (k a m : Nat) : Int := zu_hi c I k (a + m)
noncomputable def zu_cv (c : z_C) (I : z_I) (k : Nat) (s : Int) (a m : Nat) : Int := zu_I c I k s (a + m)
theorem zu_do_b {c : z_C} {I : z_I} {k j : Nat} (hab : ∀ (t : Int) (q : Nat), 0 ≤ t → q < c.2.1 → 0 ≤ zi_ax c I t q ∧ zi_ax c I t q ≤ 999999) : 0 ≤ zu_do c I k j ∧ zu_do c I k j ≤ 999999 := by
  unfold zu_do
  obtain ⟨r, hr⟩ := zu_R_ex (mo := zi_mo I) (td := zi_td I) (m := (I (100 + 8 * k + 2) j).toInt / 30) (k := (I 0 0).toInt) (n := c.2.1) (u := zi_us 4) (a := zi_ax c I 4)
  have e : r = zb_ax c I 4 ((I (100 + 8 * k + 2) j).toInt / 30) (I 0 0).toInt := zb_f_e hr
  rw [← e]
  exact zu_R_b hr (fun q hq => hab 4 q (by decide) hq)
theorem zu_g_P {c : z_C} {I K : z_I} {k a b : Nat} {s : Int} (hP : zu_P c I K k s a (b + 1) b) (hD : zu_D I k) (hab : ∀ (t : Int) (q : Nat), 0 ≤ t → q < c.2.1 → 0 ≤ zi_ax c I t q ∧ zi_ax c I t q ≤ 999999) (h1 : a < b) (h2 : (b : Int) < (I (100 + 8 * k) 4).toInt) : zu_gb K k a (b - a) := fun m hm => by
  obtain ⟨g1, g2, g3⟩ := hP (a + m) (by omega) (by omega)
  have d := hD (a + m) (by omega)
  have w := zu_do_b (k := k) (j := a + m) hab
  unfold zu_rl zu_rh zu_rv
  rw [g1, g2]
  unfold zu_lo zu_hi
  refine ⟨⟨by omega, by omega⟩, ⟨by omega, by omega⟩, fun q => ?_⟩
  obtain ⟨e1, e2⟩ := g3 (by omega)
  rw [e1]
  exact e2
theorem zu_B_c {l h v l1 h1 v1 : Nat → Int} {n : Nat} (hl : ∀ m, m ≤ n → l1 m = l m) (hh : ∀ m, m ≤ n → h1 m = h m) (hv : ∀ m, m < n → v1 m = v m) : ∀ d : Nat, d ≤ n → zu_B l1 h1 v1 n d = zu_B l h v n d
  | 0, _ => hl n (Nat.le_refl n)
  | d + 1, hd => by
    rw [zu_B, zu_B, zu_B_c hl hh hv d (by omega), hl (n - 1 - d) (by omega), hh (n - 1 - d) (by omega), hv (n - 1 - d) (by omega)]
theorem zu_U_c {h v h1 v1 : Nat → Int} {n : Nat} {f : Int} (hh : ∀ m, m ≤ n → h1 m = h m) (hv : ∀ m, m < n → v1 m = v m) : ∀ d : Nat, d ≤ n → zu_U h1 v1 f d = zu_U h v f d
  | 0, _ => rfl
  | d + 1, hd => by rw [zu_U, zu_U, zu_U_c hh hv d (by omega), hh (d + 1) hd, hv d (by omega)]
theorem zu_X_c {l h v l1 h1 v1 : Nat → Int} {n : Nat} {w : Int} (hl : ∀ m, m ≤ n → l1 m = l m) (hh : ∀ m, m ≤ n → h1 m = h m) (hv : ∀ m, m < n → v1 m = v m) : zu_X l1 h1 v1 n w = zu_X l h v n w := by
  unfold zu_X
  rw [zu_B_c hl hh hv n (Nat.le_refl n), zu_U_c hh hv n (Nat.le_refl n), zu_s_c n hv, hh 0 (Nat.zero_le n), hl n (Nat.le_refl n)]
theorem zu_X_P {c : z_C} {I K : z_I} {k a b : Nat} {s w : Int} (hP : zu_P c I K k s a (b + 1) b) (h1 : a < b) : zu_X (zu_rl K k a) (zu_rh K k a) (zu_rv K k a) (b - a) w = zu_X (zu_cl c I k a) (zu_ch c I k a) (zu_cv c I k s a) (b - a) w :=
  zu_X_c (fun m hm => (hP (a + m) (by omega) (by omega)).1) (fun m hm => (hP (a + m) (by omega) (by omega)).2.1) (fun m hm => ((hP (a + m) (by omega) (by omega)).2.2 (by omega)).1)
/-! the reference's -/
noncomputable def zu_md (I : z_I) (p : Nat) : Int := zb_am I 4 ((I 49 p).toInt / 30) (I 0 0).toInt
noncomputable def zu_ml (I : z_I) (p : Nat) : Int := max 0 ((I 48 p).toInt - zu_md I p)
noncomputable def zu_mh (I : z_I) (p : Nat) : Int := (I 48 p).toInt + zu_md I p
noncomputable def zu_kl (I : z_I) (s a m : Nat) : Int := zu_ml I (30 * s + (a + m))
noncomputable def zu_kh (I : z_I) (s a m : Nat) : Int := zu_mh I (30 * s + (a + m))
noncomputable def zu_kv (I : z_I) (s a m : Nat) : Int := zu_J I s (a + m)
theorem zu_Z_s {h v : Nat → Int} {k : Nat} : zu_Z h v (k + 1) = if k = 0 then h (k + 1) else min (h (k + 1)) (zu_Z h v k + v k) := by
  rw [zu_Z]
  by_cases q : k = 0
  · rw [if_pos q, if_pos q, q]
  · rw [if_neg q, if_neg q]
noncomputable def zu_Y (l h v : Nat → Int) (n : Nat) (w r : Int) : Prop := (¬ zu_ok l h v n ∧ r = -3) ∨ (zu_ok l h v n ∧ ((w = 1 ∧ r = zu_s v n + h 0 - l n) ∨ (w = 0 ∧ r = max 0 (zu_s v n + zu_L l v n - zu_Z h v n))))
/-- both are told the same -/
theorem zu_XM {c : z_C} {Ix Im : z_I} {q : Int} {s a b : Nat} {w r : Int} (h : zu_T Ix Im q) (hS : z_RS Ix Im) (hP : z_RP Ix Im) (hO : z_OW c Ix Im) (hn : (Im 0 13).toNatClampNeg = c.2.1) (hN : (Im 0 55).toInt = (Ix 30 8).toInt) (hN0 : 0 ≤ (Ix 30 8).toInt) (hT : (Im 0 0).toInt = (Ix 0 0).toInt) (hg : z_rg 43 0 30 Im) (hs : s < 10) (hab : a < b) (hb : (b : Int) < (Im 47 s).toInt) (hw : w = 0 ∨ w = 1) (hr : zu_Y (zu_kl Im s a) (zu_kh Im s a) (zu_kv Im s a) (b - a) w r) : zu_X (zu_cl c Ix s a) (zu_ch c Ix s a) (zu_cv c Ix s (s : Int) a) (b - a) w = r := by
  have hd : ∀ j : Nat, (j : Int) < (Im 47 s).toInt → zu_do c Ix s j = zu_md Im (30 * s + j) ∧ (Ix (100 + 8 * s + 1) j).toInt = (Im 48 (30 * s + j)).toInt ∧ 0 ≤ (Im 48 (30 * s + j)).toInt ∧ 0 ≤ zu_md Im (30 * s + j) := fun j hj => by
    obtain ⟨_, _, b3, _⟩ := h.2.2 s hs
    obtain ⟨⟨d1, d2⟩, _, d4, _⟩ := b3 j hj
    have e : zu_do c Ix s j = zu_md Im (30 * s + j) := by
      unfold zu_do zu_md
      rw [d1, hT, zb_a_e hO hn (by decide)]
    have g := zu_ax_b (m := (Ix (100 + 8 * s + 2) j).toInt / 30) (k := (Ix 0 0).toInt) hO (t := 4) (by decide)
    have e2 : zu_do c Ix s j = zb_ax c Ix 4 ((Ix (100 + 8 * s + 2) j).toInt / 30) (Ix 0 0).toInt := rfl
    exact ⟨e, congrArg Int32.toInt d2, d4.1, by rw [← e, e2]; exact g.1⟩
  have hl : ∀ m, m ≤ b - a → zu_cl c Ix s a m = zu_kl Im s a m := fun m hm => by
    obtain ⟨e1, e2, _⟩ := hd (a + m) (by omega)
    unfold zu_cl zu_kl zu_lo zu_ml
    rw [e1, e2]
  have hh : ∀ m, m ≤ b - a → zu_ch c Ix s a m = zu_kh Im s a m := fun m hm => by
    obtain ⟨e1, e2, _⟩ := hd (a + m) (by omega)
    unfold zu_ch zu_kh zu_hi zu_mh
    rw [e1, e2]
  have hv : ∀ m, m < b - a → zu_cv c Ix s (s : Int) a m = zu_kv Im s a m := fun m hm => by
    unfold zu_cv zu_kv
    exact zu_IJ h hP hO hn hN hN0 hT hg hs (by omega)
  rw [zu_X_c hl hh hv]
  refine zu_XY (by omega) (fun m hm => ?_) (fun m hm => ?_) hw hr
  · unfold zu_kl zu_ml
    omega
  · obtain ⟨_, _, e3, e4⟩ := hd (a + m) (by omega)
    unfold zu_kl zu_kh zu_ml zu_mh
    omega
noncomputable def L_X11_putBounds_u : z_L := [(1000, 999)]
set_option maxHeartbeats 8000000 in
set_option maxRecDepth 100000 in
theorem sx_X11_putBounds_u (l : Launch) (G : z_G) (ad : Nat → Nat) (c : z_C) (I : z_I) (hO : z_iO I) (hB : z_iB I) (hP : z_iP I) (k : Nat) (a2 : Int32) (a3 : Int32) (a4 : Int32) (hk : k < c.1) (hc : z_okc c) (h10 : c.1 ≤ 10) (hon : (I 21 2).toInt = (c.2.1 : Int)) (hmo : ∀ j, j < c.2.1 → 0 ≤ (I (200 + 5 * j) 0).toInt) (hab : ∀ (t : Int) (q : Nat), 0 ≤ t → q < c.2.1 → 0 ≤ zi_ax c I t q ∧ zi_ax c I t q ≤ 999999) (hTe : ∀ p : Nat, (p : Int) < (I 30 8).toInt → 0 ≤ (I 35 p).toInt ∧ (I 35 p).toInt ≤ 999999) (hD : zu_D I k) (hM : zu_M I k) (q3 : 0 ≤ a3.toInt ∧ a3.toInt < a4.toInt) (q4 : a4.toInt < (I (100 + 8 * k) 4).toInt) (hS0 : z_iS c I) : z_MvS l yX11_putBounds wsX11_putBounds { frames := 5, cells := 0, slots := 0, locals := 111 } [.ref (ad 0), .ref (ad (100 + 8 * k)), .int a2, .int a3, .int a4] G (shC c, ad, I, JX, PC c ad) (fun u1 => ∃ I1 : z_I, u1 = (shC c, ad, I1, JX, PC c ad) ∧ z_iO I1 ∧ z_iB I1 ∧ z_iP I1 ∧ z_fr L_X11_putBounds_u I1 I ∧ z_iS c I1 ∧ zu_q I1 I ∧ zu_P c I I1 k a2.toInt a3.toNatClampNeg (a4.toNatClampNeg + 1) a4.toNatClampNeg) 0 0 := by
  intro sz
  refine z_headS (cc := cX11_putBounds) (maxL := 7) (ret := none) (by decide) rfl (Nat.le_of_ble_eq_true rfl) ?_
  intro p e s m below meth c0 ls hIn hK hsz hW hl hSt
  obtain ⟨hx, hb, hr, hml, hown, hts, hlocks, hname⟩ := hIn
  subst hsz
  have hown : s.vm.findClass RX11 = some m.cls := hown
  have hA : ∀ q : Nat, s.heap.size ≤ q → z_A (shC c, ad, I, JX, PC c ad) s.heap.size q := fun q h => Or.inr h
  generalize hAe : z_A (shC c, ad, I, JX, PC c ad) s.heap.size = A at *
  have hS : va_S A s.heap s.heap [] := va_S.rf
  have hl : lv_has ls 7 [(0, .ref (ad 0)), (1, .ref (ad (100 + 8 * k))), (2, .int a2), (3, .int a3), (4, .int a4)] := hl
  have s9 : 0 ≤ (I (100 + 8 * k) 4).toInt ∧ (I (100 + 8 * k) 4).toInt ≤ 30 := hS0 k hk
  refine lv_iload_n hx hb dX11_putBounds_0 rfl (lv_at hl 3 rfl) ?_
  refine lv_iconst (v := 0) hx hb dX11_putBounds_1 (by decide) ?_
  refine va_mmax (x := a3) (y := 0) hx hb (hml.trans hl.1.symm) hown (hts (.methodLink RX11 274 Lib.Math.max.name) (me_s (me_l (me_l (me_l (me_l (me_l (me_l (List.mem_of_getElem? (i := 0) rfl))))))))) (hts (.static Lib.Math.max.name) (me_s (me_l (me_l (me_l (me_l (me_l (me_l (List.mem_of_getElem? (i := 1) rfl))))))))) (hts (.initialized "java/lang/Math") (me_s (me_l (me_l (me_l (me_l (me_l (me_l (List.mem_of_getElem? (i := 2) rfl))))))))) (hts (.code Lib.Math.max.name Lib.Math.max.code 2 (some .int)) (me_s (me_l (me_l (me_l (me_l (me_l (me_l (List.mem_of_getElem? (i := 3) rfl))))))))) (Nat.le_of_ble_eq_true rfl) (Nat.le_of_ble_eq_true rfl) (Nat.le_of_ble_eq_true rfl) (Nat.le_of_ble_eq_true rfl) dX11_putBounds_2 ?_
  refine lv_topi (fun x1 ex1 => ?_)
  have tx1 := z_tmmax ex1 rfl z_l0
  refine lv_istore (lv' := [(5, .int x1), (0, .ref (ad 0)), (1, .ref (ad (100 + 8 * k))), (2, .int a2), (3, .int a3), (4, .int a4)]) hx hb dX11_putBounds_5 hl (by decide) rfl (fun ls hl => ?_)
  have lp2 : ∀ (f : Nat) (y3 : Int32) (I4 : z_I) (H : Heap) (locs : List Loc) (ls : Array Slot), (2147483647 < y3.toInt + (f : Int)) → (0 ≤ y3.toInt) → (z_iO I4) → (z_iB I4) → (z_iP I4) → (x1.toInt ≤ y3.toInt) → (zu_P c I I4 k a2.toInt a3.toNatClampNeg y3.toNatClampNeg a4.toNatClampNeg ∧ y3.toInt ≤ a4.toInt + 1) → (z_iS c I4) → (zu_q I4 I) → (z_fr L_X11_putBounds_u I4 I) → z_W G A (shC c, ad, I4, JX, PC c ad) H → va_S A s.heap H locs → lv_has ls 7 [(5, .int y3), (0, .ref (ad 0)), (1, .ref (ad (100 + 8 * k))), (2, .int a2), (3, .int a3), (4, .int a4)] → W p l e (headSpec wsX11_putBounds { frames := 5, cells := 0, slots := 0, locals := 111 }).room s m ([.ref (ad 0), .ref (ad (100 + 8 * k)), .int a2, .int a3, .int a4] : List Value).toArray below meth c0 H locs 0 0 (MQ below (va_Qv (fun (u1 : z_U) => ∃ I1 : z_I, u1 = (shC c, ad, I1, JX, PC c ad) ∧ z_iO I1 ∧ z_iB I1 ∧ z_iP I1 ∧ z_fr L_X11_putBounds_u I1 I ∧ z_iS c I1 ∧ zu_q I1 I ∧ zu_P c I I1 k a2.toInt a3.toNatClampNeg (a4.toNatClampNeg + 1) a4.toNatClampNeg) (z_B G A) A) ([.ref (ad 0), .ref (ad (100 + 8 * k)), .int a2, .int a3, .int a4] : List Value).toArray s 0 0 A) (F0 m 7 ls []) := by
    intro f
    induction f with
    | zero => intro y3 I4  H locs ls lp2m lp2l5 lp2O lp2B lp2P lp2z lp2Q lp2S lp2SS lp2fr hW hS hl; exact absurd lp2m (by have := Int32.toInt_lt y3; have := Int32.le_toInt y3; omega)
    | succ f lp2ih =>
      intro y3 I4  H locs ls lp2m lp2l5 lp2O lp2B lp2P lp2z lp2Q lp2S lp2SS lp2fr hW hS hl
      refine lv_iload hx hb dX11_putBounds_7 (lv_at hl 0 rfl) ?_
      refine lv_iload hx hb dX11_putBounds_9 (lv_at hl 5 rfl) ?_
      refine lv_icmp_gt (tgt := 115) hx hb dX11_putBounds_11 (by decide) (fun c5 => ?_) (fun c5 => ?_)
      · have g6 := z_f_gt rfl rfl c5
        have b7 := Int32.toInt_lt y3
        exact z_vret hx hb hr hK hS (Nat.le_of_ble_eq_true rfl) (Nat.le_of_ble_eq_true rfl) hlocks dX11_putBounds_115 (shC c, ad, I4, JX, PC c ad) hW ⟨I4, rfl, (by show 0 ≤ (I4 21 2).toInt ∧ (I4 21 2).toInt ≤ 12; exact lp2O), ⟨(by show 0 ≤ (I4 0 0).toInt ∧ (I4 0 0).toInt ≤ 719; exact lp2B.1), (by show 0 ≤ (I4 0 8).toInt ∧ (I4 0 8).toInt ≤ 10; exact lp2B.2)⟩, (by show 0 ≤ (I4 30 8).toInt ∧ (I4 30 8).toInt ≤ 300; exact lp2P), lp2fr, lp2S, ⟨lp2SS, (by have c9 := z_clt (x := y3) rfl (by omega); have c8 := z_clt (x := a4) rfl (by omega); first | (rw [show a4.toNatClampNeg + 1 = y3.toNatClampNeg by omega]; exact lp2Q.1) | (exfalso; omega))⟩⟩
      · have g8 := z_f_ngt rfl rfl c5
        have b9 := Int32.toInt_lt y3
        refine lv_iload hx hb dX11_putBounds_14 (lv_at hl 0 rfl) ?_
        refine lv_bipush (v := 30) hx hb dX11_putBounds_16 (by decide) ?_
        refine lv_icmp_ge (tgt := 115) hx hb dX11_putBounds_18 (by decide) (fun c10 => (by have g := z_f_ge rfl z_l30 c10; omega)) (fun c10 => ?_)
        have g11 := z_f_nge rfl z_l30 c10
        have c9 := z_clt (x := y3) rfl (by omega)
        have d9 := hD y3.toNatClampNeg (by omega)
        refine lv_aload_n hx hb dX11_putBounds_21 rfl (lv_at hl 1 rfl) ?_
        refine z_get (T := TX11) (N := 13) (ci := 11) (i := 0) (v := .ref (ad 21)) hx hb hts zj_X11_putBounds_X11 hown hK hW rfl rfl 4 (by decide) (hts (.fieldLink RX11 30 "PetrolBoard" "orderBook" "LPetrolBoard$OrderBook;") (me_s (me_l (me_l (me_l (me_l (me_l (me_l (List.mem_of_getElem? (i := 4) rfl))))))))) (fun _ h => h) rfl dX11_putBounds_22 ?_
        refine lv_iconst (v := 4) hx hb dX11_putBounds_25 (by decide) ?_
        refine lv_aload_n hx hb dX11_putBounds_26 rfl (lv_at hl 2 rfl) ?_
        refine z_get (T := TX10) (N := 10) (ci := 10) (i := (100 + 8 * k)) (v := .ref (ad (100 + 8 * k + 2))) hx hb hts zj_X11_putBounds_X10 hown hK hW (z_ss0 hk h10) rfl 1 (by decide) (hts (.fieldLink RX11 246 "PetrolBoard$Station" "dipDay" "[I") (me_s (me_l (me_l (me_l (me_l (me_l (me_l (List.mem_of_getElem? (i := 5) rfl))))))))) (fun _ h => h) (z_pS hk h10 rfl rfl) dX11_putBounds_27 ?_
        refine lv_iload hx hb dX11_putBounds_30 (lv_at hl 0 rfl) ?_
        refine z_iald (i := (100 + 8 * k + 2)) hx hb hK hW (z_ssj hk h10 (by decide)) (z_ix rfl (by omega) (by omega)) dX11_putBounds_32 ?_
        refine lv_topi (fun x12 ex12 => ?_)
        have hv13 : (I (100 + 8 * k + 2) y3.toNatClampNeg).toInt = x12.toInt := by rw [ex12, lp2SS.1.2 k 2 _ (by omega) (by decide) (by decide)]
        refine lv_bipush (v := 30) hx hb dX11_putBounds_33 (by decide) ?_
        refine lv_idiv hx hb dX11_putBounds_35 (by decide) ?_
        refine lv_topi (fun x14 ex14 => ?_)
        have tx14 := z_tdiv ex14 rfl z_l30 (by decide)
        refine lv_aload_n hx hb dX11_putBounds_36 rfl (lv_at hl 1 rfl) ?_
        have r15 : 0 ≤ (I4 0 0).toInt ∧ (I4 0 0).toInt ≤ 719 := lp2B.1
        refine z_get (T := TX11) (N := 13) (ci := 11) (i := 0) (v := .int (I4 0 0)) hx hb hts zj_X11_putBounds_X11 hown hK hW rfl rfl 0 (by decide) (hts (.fieldLink RX11 85 "PetrolBoard" "today" "I") (me_s (me_l (me_l (me_l (me_l (me_l (me_l (List.mem_of_getElem? (i := 6) rfl))))))))) (fun _ h => h) rfl dX11_putBounds_37 ?_
        refine z_ci hW hS hA (va_runV (As := [.int 4, .int x14, .int (I4 0 0)]) (rest := []) ⟨hx, hb, hml, hown, hts⟩ (sx_X6_amount_x l G ad c I4 (by show 0 ≤ (I4 21 2).toInt ∧ (I4 21 2).toInt ≤ 12; exact lp2O) 4 x14 (I4 0 0) hc (zu_on_q lp2SS hon) (zu_mo_q lp2SS hmo) (by decide) _) (cwV 3 hts gX11_putBounds_X6_amount rfl rfl rfl (by decide +kernel) ⟨Nat.le_of_ble_eq_true rfl, Nat.le_of_ble_eq_true rfl⟩) (z_preVS (i := 21) hK hW hS hA hSt rfl rfl) rfl rfl hl.1 rfl (lv_room (Nat.le_of_ble_eq_true rfl)) dX11_putBounds_40 ⟨Nat.le_of_ble_eq_true rfl, Nat.le_of_ble_eq_true rfl⟩) (fun r u1 H locs hp hW hS => ?_)
        obtain ⟨e9, hp⟩ := hp
        rw [e9] at hW
        refine lv_topi (fun x16 ex16 => ?_)
        rw [← ex16, show (4 : Int32).toInt = 4 by decide] at hp
        have hb18 := zu_R_b hp (fun q hq => zu_ab_q lp2SS hab 4 q (by decide) hq)
        have hM17 : x16.toInt = zu_do c I k y3.toNatClampNeg := by rw [zb_f_e hp]; show zb_ax c I4 4 _ _ = _; unfold zu_do; rw [zb_ax_c (fun a i ha => lp2SS.1.1.2 a i ha), show x14.toInt = (I (100 + 8 * k + 2) y3.toNatClampNeg).toInt / 30 by omega, lp2SS.2 0 0 (by decide)]
        refine lv_istore (lv' := [(6, .int x16), (5, .int y3), (0, .ref (ad 0)), (1, .ref (ad (100 + 8 * k))), (2, .int a2), (3, .int a3), (4, .int a4)]) hx hb dX11_putBounds_43 hl (by decide) rfl (fun ls hl => ?_)
        refine lv_aload_n hx hb dX11_putBounds_45 rfl (lv_at hl 3 rfl) ?_
        refine z_get (T := TX10) (N := 10) (ci := 10) (i := (100 + 8 * k)) (v := .ref (ad (100 + 8 * k + 5))) hx hb hts zj_X11_putBounds_X10 hown hK hW (z_ss0 hk h10) rfl 7 (by decide) (hts (.fieldLink RX11 279 "PetrolBoard$Station" "low" "[I") (me_s (me_l (me_l (me_l (me_l (me_l (me_l (List.mem_of_getElem? (i := 7) rfl))))))))) (fun _ h => h) (z_pS hk h10 rfl rfl) dX11_putBounds_46 ?_
        refine lv_iload hx hb dX11_putBounds_49 (lv_at hl 1 rfl) ?_
        refine lv_iconst (v := 0) hx hb dX11_putBounds_51 (by decide) ?_
        refine lv_aload_n hx hb dX11_putBounds_52 rfl (lv_at hl 3 rfl) ?_
        refine z_get (T := TX10) (N := 10) (ci := 10) (i := (100 + 8 * k)) (v := .ref (ad (100 + 8 * k + 1))) hx hb hts zj_X11_putBounds_X10 hown hK hW (z_ss0 hk h10) rfl 0 (by decide) (hts (.fieldLink RX11 282 "PetrolBoard$Station" "told" "[I") (me_s (me_l (me_l (me_l (me_l (me_l (me_l (List.mem_of_getElem? (i := 8) rfl))))))))) (fun _ h => h) (z_pS hk h10 rfl rfl) dX11_putBounds_53 ?_
        refine lv_iload hx hb dX11_putBounds_56 (lv_at hl 1 rfl) ?_
        refine z_iald (i := (100 + 8 * k + 1)) hx hb hK hW (z_ssj hk h10 (by decide)) (z_ix rfl (by omega) (by omega)) dX11_putBounds_58 ?_
        refine lv_topi (fun x19 ex19 => ?_)
        have hv20 : (I (100 + 8 * k + 1) y3.toNatClampNeg).toInt = x19.toInt := by rw [ex19, lp2SS.1.2 k 1 _ (by omega) (by decide) (by decide)]
        refine lv_iload hx hb dX11_putBounds_59 (lv_at hl 0 rfl) ?_
        refine lv_isub hx hb dX11_putBounds_61 ?_
        refine lv_topi (fun x21 ex21 => ?_)
        have tx21 : x21.toInt = x19.toInt - x16.toInt := z_tsub ex21 rfl rfl (by omega) (by omega)
        refine va_mmax (x := 0) (y := x21) hx hb (hml.trans hl.1.symm) hown (hts (.methodLink RX11 274 Lib.Math.max.name) (me_s (me_l (me_l (me_l (me_l (me_l (me_l (List.mem_of_getElem? (i := 0) rfl))))))))) (hts (.static Lib.Math.max.name) (me_s (me_l (me_l (me_l (me_l (me_l (me_l (List.mem_of_getElem? (i := 1) rfl))))))))) (hts (.initialized "java/lang/Math") (me_s (me_l (me_l (me_l (me_l (me_l (me_l (List.mem_of_getElem? (i := 2) rfl))))))))) (hts (.code Lib.Math.max.name Lib.Math.max.code 2 (some .int)) (me_s (me_l (me_l (me_l (me_l (me_l (me_l (List.mem_of_getElem? (i := 3) rfl))))))))) (Nat.le_of_ble_eq_true rfl) (Nat.le_of_ble_eq_true rfl) (Nat.le_of_ble_eq_true rfl) (Nat.le_of_ble_eq_true rfl) dX11_putBounds_62 ?_
        refine lv_topi (fun x22 ex22 => ?_)
        have tx22 := z_tmmax ex22 z_l0 rfl
        refine z_iast (i := (100 + 8 * k + 5)) hx hb hK hW hS (z_ssj hk h10 (by decide)) (z_ix rfl (by omega) (by omega)) dX11_putBounds_65 (fun H locs hz1 hW hS => ?_)
        obtain ⟨I23, eI23⟩ : ∃ K : z_I, K = z_up I4 (100 + 8 * k + 5) y3.toNatClampNeg x22 := ⟨_, rfl⟩
        rw [← eI23] at hW
        have f24 := z_fr_a lp2fr (z_wad (L := L_X11_putBounds_u) (by decide) (by omega)) eI23
        have hS25 := z_iS_a lp2S (by decide) eI23
        have hZ26 := zu_q_a lp2SS (by decide) (by omega) eI23
        refine lv_aload_n hx hb dX11_putBounds_66 rfl (lv_at hl 3 rfl) ?_
        refine z_get (T := TX10) (N := 10) (ci := 10) (i := (100 + 8 * k)) (v := .ref (ad (100 + 8 * k + 6))) hx hb hts zj_X11_putBounds_X10 hown hK hW (z_ss0 hk h10) rfl 8 (by decide) (hts (.fieldLink RX11 285 "PetrolBoard$Station" "high" "[I") (me_s (me_l (me_l (me_l (me_l (me_l (me_l (List.mem_of_getElem? (i := 9) rfl))))))))) (fun _ h => h) (z_pS hk h10 rfl rfl) dX11_putBounds_67 ?_
        refine lv_iload hx hb dX11_putBounds_70 (lv_at hl 1 rfl) ?_
        refine lv_aload_n hx hb dX11_putBounds_72 rfl (lv_at hl 3 rfl) ?_
        refine z_get (T := TX10) (N := 10) (ci := 10) (i := (100 + 8 * k)) (v := .ref (ad (100 + 8 * k + 1))) hx hb hts zj_X11_putBounds_X10 hown hK hW (z_ss0 hk h10) rfl 0 (by decide) (hts (.fieldLink RX11 282 "PetrolBoard$Station" "told" "[I") (me_s (me_l (me_l (me_l (me_l (me_l (me_l (List.mem_of_getElem? (i := 8) rfl))))))))) (fun _ h => h) (z_pS hk h10 rfl rfl) dX11_putBounds_73 ?_
        refine lv_iload hx hb dX11_putBounds_76 (lv_at hl 1 rfl) ?_
        refine z_iald (i := (100 + 8 * k + 1)) hx hb hK hW (z_ssj hk h10 (by decide)) (z_ix rfl (by omega) (by omega)) dX11_putBounds_78 ?_
        refine z_topi (v := x19) (by rw [eI23, z_up_n (by omega)]; exact ex19.symm) ?_
        refine lv_iload hx hb dX11_putBounds_79 (lv_at hl 0 rfl) ?_
        refine lv_iadd hx hb dX11_putBounds_81 ?_
        refine lv_topi (fun x27 ex27 => ?_)
        have tx27 : x27.toInt = x19.toInt + x16.toInt := z_tadd ex27 rfl rfl (by omega) (by omega)
        refine z_iast (i := (100 + 8 * k + 6)) hx hb hK hW hS (z_ssj hk h10 (by decide)) (z_ix rfl (by omega) (by omega)) dX11_putBounds_82 (fun H locs hz1 hW hS => ?_)
        obtain ⟨I28, eI28⟩ : ∃ K : z_I, K = z_up I23 (100 + 8 * k + 6) y3.toNatClampNeg x27 := ⟨_, rfl⟩
        rw [← eI28] at hW
        have f29 := z_fr_a f24 (z_wad (L := L_X11_putBounds_u) (by decide) (by omega)) eI28
        have hS30 := z_iS_a hS25 (by decide) eI28
        have hZ31 := zu_q_a hZ26 (by decide) (by omega) eI28
        refine lv_aload_n hx hb dX11_putBounds_83 rfl (lv_at hl 3 rfl) ?_
        refine z_get (T := TX10) (N := 10) (ci := 10) (i := (100 + 8 * k)) (v := .ref (ad (100 + 8 * k + 7))) hx hb hts zj_X11_putBounds_X10 hown hK hW (z_ss0 hk h10) rfl 9 (by decide) (hts (.fieldLink RX11 288 "PetrolBoard$Station" "in" "[I") (me_s (me_l (me_l (me_l (me_l (me_l (me_l (List.mem_of_getElem? (i := 10) rfl))))))))) (fun _ h => h) (z_pS hk h10 rfl rfl) dX11_putBounds_84 ?_
        refine lv_iload hx hb dX11_putBounds_87 (lv_at hl 1 rfl) ?_
        refine lv_iload hx hb dX11_putBounds_89 (lv_at hl 1 rfl) ?_
        refine lv_iload hx hb dX11_putBounds_91 (lv_at hl 6 rfl) ?_
        refine lv_icmp_ge (tgt := 107) hx hb dX11_putBounds_93 (by decide) (fun c32 => ?_) (fun c32 => ?_)
        · have g33 := z_f_ge rfl rfl c32
          refine lv_iconst (v := 0) hx hb dX11_putBounds_107 (by decide) ?_
          refine z_iast (i := (100 + 8 * k + 7)) hx hb hK hW hS (z_ssj hk h10 (by decide)) (z_ix rfl (by omega) (by omega)) dX11_putBounds_108 (fun H locs hz1 hW hS => ?_)
          obtain ⟨I34, eI34⟩ : ∃ K : z_I, K = z_up I28 (100 + 8 * k + 7) y3.toNatClampNeg 0 := ⟨_, rfl⟩
          rw [← eI34] at hW
          have f35 := z_fr_a f29 (z_wad (L := L_X11_putBounds_u) (by decide) (by omega)) eI34
          have hS36 := z_iS_a hS30 (by decide) eI34
          have hZ37 := zu_q_a hZ31 (by decide) (by omega) eI34
          obtain ⟨x38, ex38⟩ : ∃ y : Int32, y = y3 + 1 := ⟨_, rfl⟩
          have tx38 : x38.toInt = y3.toInt + 1 := z_tadd ex38 rfl z_l1 (by omega) (by omega)
          refine lv_iinc (v := x38) (lv' := [(5, .int x38), (6, .int x16), (0, .ref (ad 0)), (1, .ref (ad (100 + 8 * k))), (2, .int a2), (3, .int a3), (4, .int a4)]) hx hb dX11_putBounds_109 hl (k := 1) rfl (by rw [ex38]; rfl) (by decide) rfl (fun ls hl => ?_)
          refine lv_goto (tgt := 7) hx hb dX11_putBounds_112 (by decide) ?_
          exact lp2ih x38 I34  _ _ _ (by omega) (by omega) (by show 0 ≤ (I34 21 2).toInt ∧ (I34 21 2).toInt ≤ 12; rw [eI34, z_up_n (by omega), eI28, z_up_n (by omega), eI23, z_up_n (by omega)]; exact lp2O) ⟨(by show 0 ≤ (I34 0 0).toInt ∧ (I34 0 0).toInt ≤ 719; rw [eI34, z_up_n (by omega), eI28, z_up_n (by omega), eI23, z_up_n (by omega)]; exact lp2B.1), (by show 0 ≤ (I34 0 8).toInt ∧ (I34 0 8).toInt ≤ 10; rw [eI34, z_up_n (by omega), eI28, z_up_n (by omega), eI23, z_up_n (by omega)]; exact lp2B.2)⟩ (by show 0 ≤ (I34 30 8).toInt ∧ (I34 30 8).toInt ≤ 300; rw [eI34, z_up_n (by omega), eI28, z_up_n (by omega), eI23, z_up_n (by omega)]; exact lp2P) (by omega) (by have c8 := z_clt (x := a4) rfl (by omega); exact ⟨by rw [show x38.toNatClampNeg = y3.toNatClampNeg + 1 from z_cln (by omega) (by omega)]; exact zu_P_s lp2Q.1 eI23 eI28 eI34 (by unfold zu_lo; omega) (by unfold zu_hi; omega) (fun w9 => absurd w9 (by omega)), by omega⟩) hS36 hZ37 f35 hW hS (lv_sub hl [0, 2, 3, 4, 5, 6] rfl)
        · have g39 := z_f_nge rfl rfl c32
          refine lv_aload_n hx hb dX11_putBounds_96 rfl (lv_at hl 2 rfl) ?_
          refine lv_aload_n hx hb dX11_putBounds_97 rfl (lv_at hl 3 rfl) ?_
          refine lv_iload_n hx hb dX11_putBounds_98 rfl (lv_at hl 4 rfl) ?_
          refine lv_iload hx hb dX11_putBounds_99 (lv_at hl 1 rfl) ?_
          refine z_ci hW hS hA (va_runV (As := [.ref (ad (100 + 8 * k)), .int a2, .int y3]) (rest := [.int y3, .ref (ad (100 + 8 * k + 7))]) ⟨hx, hb, hml, hown, hts⟩ (sx_X11_inBehind_u l G ad c I28 (by show 0 ≤ (I28 21 2).toInt ∧ (I28 21 2).toInt ≤ 12; rw [eI28, z_up_n (by omega), eI23, z_up_n (by omega)]; exact lp2O) ⟨(by show 0 ≤ (I28 0 0).toInt ∧ (I28 0 0).toInt ≤ 719; rw [eI28, z_up_n (by omega), eI23, z_up_n (by omega)]; exact lp2B.1), (by show 0 ≤ (I28 0 8).toInt ∧ (I28 0 8).toInt ≤ 10; rw [eI28, z_up_n (by omega), eI23, z_up_n (by omega)]; exact lp2B.2)⟩ (by show 0 ≤ (I28 30 8).toInt ∧ (I28 30 8).toInt ≤ 300; rw [eI28, z_up_n (by omega), eI23, z_up_n (by omega)]; exact lp2P) k a2 y3 hk hc h10 (zu_on_q hZ31 hon) (zu_mo_q hZ31 hmo) (zu_ab_q hZ31 hab) (zu_Te_q hZ31 hTe) (zu_D_q hZ31 (by omega) hD) (zu_M_q hZ31 (by omega) hM) (by rw [hZ31.1.1.1 k 4 (by omega)]; omega) hS30 _) (cwV 3 hts gX11_putBounds_X11_inBehind rfl rfl rfl (by decide +kernel) ⟨Nat.le_of_ble_eq_true rfl, Nat.le_of_ble_eq_true rfl⟩) (z_preVS (i := 0) hK hW hS hA hSt rfl rfl) rfl rfl hl.1 rfl (lv_room (Nat.le_of_ble_eq_true rfl)) dX11_putBounds_101 ⟨Nat.le_of_ble_eq_true rfl, Nat.le_of_ble_eq_true rfl⟩) (fun r u1 H locs hp hW hS => ?_)
          obtain ⟨e9, hp⟩ := hp
          rw [e9] at hW
          refine lv_topi (fun x40 ex40 => ?_)
          rw [← ex40, zu_I_q hZ31 (by omega)] at hp
          have hI41 := hp
          refine lv_goto (tgt := 108) hx hb dX11_putBounds_104 (by decide) ?_
          refine z_iast (i := (100 + 8 * k + 7)) hx hb hK hW hS (z_ssj hk h10 (by decide)) (z_ix rfl (by omega) (by omega)) dX11_putBounds_108 (fun H locs hz1 hW hS => ?_)
          obtain ⟨I42, eI42⟩ : ∃ K : z_I, K = z_up I28 (100 + 8 * k + 7) y3.toNatClampNeg x40 := ⟨_, rfl⟩
          rw [← eI42] at hW
          have f43 := z_fr_a f29 (z_wad (L := L_X11_putBounds_u) (by decide) (by omega)) eI42
          have hS44 := z_iS_a hS30 (by decide) eI42
          have hZ45 := zu_q_a hZ31 (by decide) (by omega) eI42
          obtain ⟨x46, ex46⟩ : ∃ y : Int32, y = y3 + 1 := ⟨_, rfl⟩
          have tx46 : x46.toInt = y3.toInt + 1 := z_tadd ex46 rfl z_l1 (by omega) (by omega)
          refine lv_iinc (v := x46) (lv' := [(5, .int x46), (6, .int x16), (0, .ref (ad 0)), (1, .ref (ad (100 + 8 * k))), (2, .int a2), (3, .int a3), (4, .int a4)]) hx hb dX11_putBounds_109 hl (k := 1) rfl (by rw [ex46]; rfl) (by decide) rfl (fun ls hl => ?_)
          refine lv_goto (tgt := 7) hx hb dX11_putBounds_112 (by decide) ?_
          exact lp2ih x46 I42  _ _ _ (by omega) (by omega) (by show 0 ≤ (I42 21 2).toInt ∧ (I42 21 2).toInt ≤ 12; rw [eI42, z_up_n (by omega), eI28, z_up_n (by omega), eI23, z_up_n (by omega)]; exact lp2O) ⟨(by show 0 ≤ (I42 0 0).toInt ∧ (I42 0 0).toInt ≤ 719; rw [eI42, z_up_n (by omega), eI28, z_up_n (by omega), eI23, z_up_n (by omega)]; exact lp2B.1), (by show 0 ≤ (I42 0 8).toInt ∧ (I42 0 8).toInt ≤ 10; rw [eI42, z_up_n (by omega), eI28, z_up_n (by omega), eI23, z_up_n (by omega)]; exact lp2B.2)⟩ (by show 0 ≤ (I42 30 8).toInt ∧ (I42 30 8).toInt ≤ 300; rw [eI42, z_up_n (by omega), eI28, z_up_n (by omega), eI23, z_up_n (by omega)]; exact lp2P) (by omega) (by have c8 := z_clt (x := a4) rfl (by omega); exact ⟨by rw [show x46.toNatClampNeg = y3.toNatClampNeg + 1 from z_cln (by omega) (by omega)]; exact zu_P_s lp2Q.1 eI23 eI28 eI42 (by unfold zu_lo; omega) (by unfold zu_hi; omega) (fun _ => ⟨hI41.1, by have i9 := hI41; omega, by have i9 := hI41; omega⟩), by omega⟩) hS44 hZ45 f43 hW hS (lv_sub hl [0, 2, 3, 4, 5, 6] rfl)
  exact lp2 4294967296 x1 I  _ _ _ (z_m0u _) (by omega) (by show 0 ≤ (I 21 2).toInt ∧ (I 21 2).toInt ≤ 12; exact hO) ⟨(by show 0 ≤ (I 0 0).toInt ∧ (I 0 0).toInt ≤ 719; exact hB.1), (by show 0 ≤ (I 0 8).toInt ∧ (I 0 8).toInt ≤ 10; exact hB.2)⟩ (by show 0 ≤ (I 30 8).toInt ∧ (I 30 8).toInt ≤ 300; exact hP) (by omega) ⟨by rw [show x1.toNatClampNeg = a3.toNatClampNeg from congrArg Int.toNat (show x1.toInt = a3.toInt by omega)]; exact zu_P_0, by omega⟩ hS0 zu_q_0 z_fr_0 hW hS (lv_sub hl [0, 1, 2, 3, 4, 5] rfl)
set_option maxHeartbeats 8000000 in
set_option maxRecDepth 100000 in
theorem sx_X10_hasSpan_u (l : Launch) (G : z_G) (ad : Nat → Nat) (c : z_C) (I : z_I) (k : Nat) (a1 : Int32) (a2 : Int32) (hk : k < c.1) (h10 : c.1 ≤ 10) (hS0 : z_iS c I) : z_M l yX10_hasSpan wsX10_hasSpan { frames := 1, cells := 0, slots := 0, locals := 12 } [.ref (ad (100 + 8 * k)), .int a1, .int a2] G (shC c, ad, I, JX, PC c ad) (fun r u1 => u1 = (shC c, ad, I, JX, PC c ad) ∧ ((r = 1 ∧ (0 ≤ a1.toInt ∧ a1.toInt < a2.toInt) ∧ a2.toInt < (I (100 + 8 * k) 4).toInt) ∨ (r = 0 ∧ ¬ ((0 ≤ a1.toInt ∧ a1.toInt < a2.toInt) ∧ a2.toInt < (I (100 + 8 * k) 4).toInt)))) 0 0 := by
  intro sz
  refine z_headQ (cc := cX10_hasSpan) (maxL := 3) (ret := (some .boolean)) (by decide) rfl (Nat.le_of_ble_eq_true rfl) ?_
  intro p e s m below meth c0 ls hIn hK hsz hW hl
  obtain ⟨hx, hb, hr, hml, hown, hts, hlocks, hname⟩ := hIn
  subst hsz
  have hown : s.vm.findClass RX10 = some m.cls := hown
  have hA : ∀ q : Nat, s.heap.size ≤ q → z_A (shC c, ad, I, JX, PC c ad) s.heap.size q := fun q h => Or.inr h
  generalize hAe : z_A (shC c, ad, I, JX, PC c ad) s.heap.size = A at *
  have hS : va_S A s.heap s.heap [] := va_S.rf
  have hl : lv_has ls 3 [(0, .ref (ad (100 + 8 * k))), (1, .int a1), (2, .int a2)] := hl
  have s9 : 0 ≤ (I (100 + 8 * k) 4).toInt ∧ (I (100 + 8 * k) 4).toInt ≤ 30 := hS0 k hk
  refine lv_iload_n hx hb dX10_hasSpan_0 rfl (lv_at hl 1 rfl) ?_
  refine lv_if_lt (tgt := 27) hx hb dX10_hasSpan_1 (by decide) (fun c1 => ?_) (fun c1 => ?_)
  · have g2 := z_f_lt rfl z_l0 c1
    have b3 := Int32.toInt_lt a1
    refine lv_iconst (v := 0) hx hb dX10_hasSpan_27 (by decide) ?_
    exact z_zret hx hb hr (by decide) hK hS (Nat.le_of_ble_eq_true rfl) (Nat.le_of_ble_eq_true rfl) hlocks dX10_hasSpan_28 (shC c, ad, I, JX, PC c ad) hW ⟨rfl, (Or.inr ⟨rfl, by omega⟩)⟩
  · have g4 := z_f_nlt rfl z_l0 c1
    have b5 := Int32.toInt_lt a1
    refine lv_iload_n hx hb dX10_hasSpan_4 rfl (lv_at hl 1 rfl) ?_
    refine lv_iload_n hx hb dX10_hasSpan_5 rfl (lv_at hl 2 rfl) ?_
    refine lv_icmp_ge (tgt := 27) hx hb dX10_hasSpan_6 (by decide) (fun c6 => ?_) (fun c6 => ?_)
    · have g7 := z_f_ge rfl rfl c6
      have b8 := Int32.toInt_lt a2
      refine lv_iconst (v := 0) hx hb dX10_hasSpan_27 (by decide) ?_
      exact z_zret hx hb hr (by decide) hK hS (Nat.le_of_ble_eq_true rfl) (Nat.le_of_ble_eq_true rfl) hlocks dX10_hasSpan_28 (shC c, ad, I, JX, PC c ad) hW ⟨rfl, (Or.inr ⟨rfl, by omega⟩)⟩
    · have g9 := z_f_nge rfl rfl c6
      have b10 := Int32.toInt_lt a2
      refine lv_iload_n hx hb dX10_hasSpan_9 rfl (lv_at hl 2 rfl) ?_
      refine lv_aload_n hx hb dX10_hasSpan_10 rfl (lv_at hl 0 rfl) ?_
      have r11 : 0 ≤ (I (100 + 8 * k) 4).toInt ∧ (I (100 + 8 * k) 4).toInt ≤ 30 := (hS0 k hk)
      refine z_get (T := TX10) (N := 10) (ci := 10) (i := (100 + 8 * k)) (v := .int (I (100 + 8 * k) 4)) hx hb hts zj_X10_hasSpan_X10 hown hK hW (z_ss0 hk h10) rfl 4 (by decide) (hts (.fieldLink RX10 40 "PetrolBoard$Station" "dips" "I") (me_s (me_l (List.mem_of_getElem? (i := 0) rfl)))) (fun _ h => h) rfl dX10_hasSpan_11 ?_
      refine lv_icmp_ge (tgt := 27) hx hb dX10_hasSpan_14 (by decide) (fun c12 => ?_) (fun c12 => ?_)
      · have g13 := z_f_ge rfl rfl c12
        refine lv_iconst (v := 0) hx hb dX10_hasSpan_27 (by decide) ?_
        exact z_zret hx hb hr (by decide) hK hS (Nat.le_of_ble_eq_true rfl) (Nat.le_of_ble_eq_true rfl) hlocks dX10_hasSpan_28 (shC c, ad, I, JX, PC c ad) hW ⟨rfl, (Or.inr ⟨rfl, by omega⟩)⟩
      · have g14 := z_f_nge rfl rfl c12
        refine lv_iload_n hx hb dX10_hasSpan_17 rfl (lv_at hl 2 rfl) ?_
        refine lv_bipush (v := 30) hx hb dX10_hasSpan_18 (by decide) ?_
        refine lv_icmp_ge (tgt := 27) hx hb dX10_hasSpan_20 (by decide) (fun c15 => (by have g := z_f_ge rfl z_l30 c15; omega)) (fun c15 => ?_)
        have g16 := z_f_nge rfl z_l30 c15
        refine lv_iconst (v := 1) hx hb dX10_hasSpan_23 (by decide) ?_
        refine lv_goto (tgt := 28) hx hb dX10_hasSpan_24 (by decide) ?_
        exact z_zret hx hb hr (by decide) hK hS (Nat.le_of_ble_eq_true rfl) (Nat.le_of_ble_eq_true rfl) hlocks dX10_hasSpan_28 (shC c, ad, I, JX, PC c ad) hW ⟨rfl, (Or.inl ⟨rfl, by omega⟩)⟩
set_option maxHeartbeats 8000000 in
set_option maxRecDepth 100000 in
theorem sx_X10_lowestFirst_u (l : Launch) (G : z_G) (ad : Nat → Nat) (c : z_C) (I : z_I) (k : Nat) (a1 : Int32) (a2 : Int32) (hk : k < c.1) (h10 : c.1 ≤ 10) (hsp : (0 ≤ a1.toInt ∧ a1.toInt < a2.toInt) ∧ a2.toInt < (I (100 + 8 * k) 4).toInt) (hg : zu_gb I k a1.toNatClampNeg (a2.toNatClampNeg - a1.toNatClampNeg)) (hS0 : z_iS c I) : z_Ml l yX10_lowestFirst wsX10_lowestFirst { frames := 2, cells := 0, slots := 0, locals := 40 } [.ref (ad (100 + 8 * k)), .int a1, .int a2] G (shC c, ad, I, JX, PC c ad) (fun r u1 => u1 = (shC c, ad, I, JX, PC c ad) ∧ (r.toInt = zu_B (zu_rl I k a1.toNatClampNeg) (zu_rh I k a1.toNatClampNeg) (zu_rv I k a1.toNatClampNeg) (a2.toNatClampNeg - a1.toNatClampNeg) (a2.toNatClampNeg - a1.toNatClampNeg))) 0 0 := by
  intro sz
  refine z_headQ (cc := cX10_lowestFirst) (maxL := 6) (ret := (some .long)) (by decide) rfl (Nat.le_of_ble_eq_true rfl) ?_
  intro p e s m below meth c0 ls hIn hK hsz hW hl
  obtain ⟨hx, hb, hr, hml, hown, hts, hlocks, hname⟩ := hIn
  subst hsz
  have hown : s.vm.findClass RX10 = some m.cls := hown
  have hA : ∀ q : Nat, s.heap.size ≤ q → z_A (shC c, ad, I, JX, PC c ad) s.heap.size q := fun q h => Or.inr h
  generalize hAe : z_A (shC c, ad, I, JX, PC c ad) s.heap.size = A at *
  have hS : va_S A s.heap s.heap [] := va_S.rf
  have hl : lv_has ls 6 [(0, .ref (ad (100 + 8 * k))), (1, .int a1), (2, .int a2)] := hl
  have s9 : 0 ≤ (I (100 + 8 * k) 4).toInt ∧ (I (100 + 8 * k) 4).toInt ≤ 30 := hS0 k hk
  have ca1 := z_clt (x := a1) rfl (by omega)
  have ca2 := z_clt (x := a2) rfl (by omega)
  refine lv_aload_n hx hb dX10_lowestFirst_0 rfl (lv_at hl 0 rfl) ?_
  refine lv_iload_n hx hb dX10_lowestFirst_1 rfl (lv_at hl 1 rfl) ?_
  refine lv_iload_n hx hb dX10_lowestFirst_2 rfl (lv_at hl 2 rfl) ?_
  refine z_ci hW hS hA (va_runV (As := [.int a1, .int a2]) (rest := []) ⟨hx, hb, hml, hown, hts⟩ (sx_X10_hasSpan_u l G ad c I  k a1 a2 hk h10  hS0 _) (cwV 2 hts gX10_lowestFirst_X10_hasSpan rfl rfl rfl (by decide +kernel) ⟨Nat.le_of_ble_eq_true rfl, Nat.le_of_ble_eq_true rfl⟩) (z_preV (i := (100 + 8 * k)) hK hW (z_ss0 hk h10) rfl) rfl rfl hl.1 rfl (lv_room (Nat.le_of_ble_eq_true rfl)) dX10_lowestFirst_3 ⟨Nat.le_of_ble_eq_true rfl, Nat.le_of_ble_eq_true rfl⟩) (fun r u1 H locs hp hW hS => ?_)
  obtain ⟨e9, hp⟩ := hp
  rw [e9] at hW
  rcases hp with ⟨rfl, hs1⟩ | ⟨rfl, hs1⟩
  · refine lv_if_ne (tgt := 11) hx hb dX10_lowestFirst_6 (by decide) (fun c2 => ?_) (fun c2 => absurd c2 (by decide))
    refine lv_aload_n hx hb dX10_lowestFirst_11 rfl (lv_at hl 0 rfl) ?_
    refine z_get (T := TX10) (N := 10) (ci := 10) (i := (100 + 8 * k)) (v := .ref (ad (100 + 8 * k + 5))) hx hb hts zj_X10_lowestFirst_X10 hown hK hW (z_ss0 hk h10) rfl 7 (by decide) (hts (.fieldLink RX10 24 "PetrolBoard$Station" "low" "[I") (me_s (me_l (List.mem_of_getElem? (i := 0) rfl)))) (fun _ h => h) (z_pS hk h10 rfl rfl) dX10_lowestFirst_12 ?_
    refine lv_iload_n hx hb dX10_lowestFirst_15 rfl (lv_at hl 2 rfl) ?_
    refine z_iald (i := (100 + 8 * k + 5)) hx hb hK hW (z_ssj hk h10 (by decide)) (z_ix rfl (by omega) (by omega)) dX10_lowestFirst_16 ?_
    refine lv_topi (fun x3 ex3 => ?_)
    have hv4 : zu_rl I k a1.toNatClampNeg (a2.toNatClampNeg - a1.toNatClampNeg) = x3.toInt := by unfold zu_rl; rw [ex3, show a1.toNatClampNeg + (a2.toNatClampNeg - a1.toNatClampNeg) = a2.toNatClampNeg by omega]
    have hu5 := hg (a2.toNatClampNeg - a1.toNatClampNeg) (by omega)
    refine lv_i2l (v := x3.toInt64) hx hb dX10_lowestFirst_17 rfl ?_
    refine lv_topl (fun w6 ew6 => ?_)
    have tw6 : w6.toInt = x3.toInt := z_ti2l ew6 rfl
    refine lv_lstore_n (lv' := [(3, .long w6), (0, .ref (ad (100 + 8 * k))), (1, .int a1), (2, .int a2)]) hx hb dX10_lowestFirst_18 rfl hl (by decide) rfl (fun ls hl => ?_)
    refine lv_iload_n hx hb dX10_lowestFirst_19 rfl (lv_at hl 3 rfl) ?_
    refine lv_iconst (v := 1) hx hb dX10_lowestFirst_20 (by decide) ?_
    refine lv_isub hx hb dX10_lowestFirst_21 ?_
    refine lv_topi (fun x7 ex7 => ?_)
    have tx7 : x7.toInt = a2.toInt - 1 := z_tsub ex7 rfl z_l1 (by omega) (by omega)
    refine lv_istore (lv' := [(5, .int x7), (3, .long w6), (0, .ref (ad (100 + 8 * k))), (1, .int a1), (2, .int a2)]) hx hb dX10_lowestFirst_22 hl (by decide) rfl (fun ls hl => ?_)
    have lp8 : ∀ (f : Nat) (y9 : Int32) (w10 : Int64) (H : Heap) (locs : List Loc) (ls : Array Slot), (y9.toInt + 2147483648 < (f : Int)) → ((-1) ≤ y9.toInt) → (y9.toInt ≤ 28) → (y9.toInt ≤ x7.toInt) → (zu_B (zu_rl I k a1.toNatClampNeg) (zu_rh I k a1.toNatClampNeg) (zu_rv I k a1.toNatClampNeg) (a2.toNatClampNeg - a1.toNatClampNeg) (a2.toInt - 1 - y9.toInt).toNat = w10.toInt ∧ 0 ≤ w10.toInt ∧ w10.toInt ≤ 1199999 ∧ a1.toInt - 1 ≤ y9.toInt ∧ y9.toInt ≤ a2.toInt - 1) → z_W G A (shC c, ad, I, JX, PC c ad) H → va_S A s.heap H locs → lv_has ls 6 [(5, .int y9), (3, .long w10), (0, .ref (ad (100 + 8 * k))), (1, .int a1), (2, .int a2)] → W p l e (headSpec wsX10_lowestFirst { frames := 2, cells := 0, slots := 0, locals := 40 }).room s m ([.ref (ad (100 + 8 * k)), .int a1, .int a2] : List Value).toArray below meth c0 H locs 0 0 (MQ below (va_Ql (fun (r : Int64) (u1 : z_U) => u1 = (shC c, ad, I, JX, PC c ad) ∧ (r.toInt = zu_B (zu_rl I k a1.toNatClampNeg) (zu_rh I k a1.toNatClampNeg) (zu_rv I k a1.toNatClampNeg) (a2.toNatClampNeg - a1.toNatClampNeg) (a2.toNatClampNeg - a1.toNatClampNeg))) (z_B G A) A) ([.ref (ad (100 + 8 * k)), .int a1, .int a2] : List Value).toArray s 0 0 A) (F0 m 24 ls []) := by
      intro f
      induction f with
      | zero => intro y9 w10 H locs ls lp8m lp8l5 lp8u5 lp8z lp8B hW hS hl; exact absurd lp8m (by have := Int32.toInt_lt y9; have := Int32.le_toInt y9; omega)
      | succ f lp8ih =>
        intro y9 w10 H locs ls lp8m lp8l5 lp8u5 lp8z lp8B hW hS hl
        refine lv_iload hx hb dX10_lowestFirst_24 (lv_at hl 0 rfl) ?_
        refine lv_iload_n hx hb dX10_lowestFirst_26 rfl (lv_at hl 3 rfl) ?_
        refine lv_icmp_lt (tgt := 80) hx hb dX10_lowestFirst_27 (by decide) (fun c11 => ?_) (fun c11 => ?_)
        · have g12 := z_f_lt rfl rfl c11
          refine lv_lload_n hx hb dX10_lowestFirst_80 rfl (lv_at hl 1 rfl) ?_
          exact z_lret hx hb hr hK hS (Nat.le_of_ble_eq_true rfl) (Nat.le_of_ble_eq_true rfl) hlocks dX10_lowestFirst_81 (shC c, ad, I, JX, PC c ad) hW ⟨rfl, (by have b9 := lp8B.1; rw [show (a2.toInt - 1 - y9.toInt).toNat = (a2.toNatClampNeg - a1.toNatClampNeg) by omega] at b9; exact b9.symm)⟩
        · have g13 := z_f_nlt rfl rfl c11
          refine lv_iload hx hb dX10_lowestFirst_30 (lv_at hl 0 rfl) ?_
          refine lv_if_lt (tgt := 80) hx hb dX10_lowestFirst_32 (by decide) (fun c14 => (by have g := z_f_lt rfl z_l0 c14; omega)) (fun c14 => ?_)
          have g15 := z_f_nlt rfl z_l0 c14
          have c9 := z_clt (x := y9) rfl (by omega)
          refine lv_aload_n hx hb dX10_lowestFirst_35 rfl (lv_at hl 2 rfl) ?_
          refine z_get (T := TX10) (N := 10) (ci := 10) (i := (100 + 8 * k)) (v := .ref (ad (100 + 8 * k + 5))) hx hb hts zj_X10_lowestFirst_X10 hown hK hW (z_ss0 hk h10) rfl 7 (by decide) (hts (.fieldLink RX10 24 "PetrolBoard$Station" "low" "[I") (me_s (me_l (List.mem_of_getElem? (i := 0) rfl)))) (fun _ h => h) (z_pS hk h10 rfl rfl) dX10_lowestFirst_36 ?_
          refine lv_iload hx hb dX10_lowestFirst_39 (lv_at hl 0 rfl) ?_
          refine z_iald (i := (100 + 8 * k + 5)) hx hb hK hW (z_ssj hk h10 (by decide)) (z_ix rfl (by omega) (by omega)) dX10_lowestFirst_41 ?_
          refine lv_topi (fun x16 ex16 => ?_)
          have hv17 : zu_rl I k a1.toNatClampNeg ((a2.toNatClampNeg - a1.toNatClampNeg) - 1 - (a2.toInt - 1 - y9.toInt).toNat) = x16.toInt := by unfold zu_rl; rw [ex16, show a1.toNatClampNeg + ((a2.toNatClampNeg - a1.toNatClampNeg) - 1 - (a2.toInt - 1 - y9.toInt).toNat) = y9.toNatClampNeg by omega]
          have hu18 := hg ((a2.toNatClampNeg - a1.toNatClampNeg) - 1 - (a2.toInt - 1 - y9.toInt).toNat) (by omega)
          refine lv_i2l (v := x16.toInt64) hx hb dX10_lowestFirst_42 rfl ?_
          refine lv_topl (fun w19 ew19 => ?_)
          have tw19 : w19.toInt = x16.toInt := z_ti2l ew19 rfl
          refine lv_lload_n hx hb dX10_lowestFirst_43 rfl (lv_at hl 1 rfl) ?_
          refine lv_aload_n hx hb dX10_lowestFirst_44 rfl (lv_at hl 2 rfl) ?_
          refine z_get (T := TX10) (N := 10) (ci := 10) (i := (100 + 8 * k)) (v := .ref (ad (100 + 8 * k + 7))) hx hb hts zj_X10_lowestFirst_X10 hown hK hW (z_ss0 hk h10) rfl 9 (by decide) (hts (.fieldLink RX10 30 "PetrolBoard$Station" "in" "[I") (me_s (me_l (List.mem_of_getElem? (i := 1) rfl)))) (fun _ h => h) (z_pS hk h10 rfl rfl) dX10_lowestFirst_45 ?_
          refine lv_iload hx hb dX10_lowestFirst_48 (lv_at hl 0 rfl) ?_
          refine z_iald (i := (100 + 8 * k + 7)) hx hb hK hW (z_ssj hk h10 (by decide)) (z_ix rfl (by omega) (by omega)) dX10_lowestFirst_50 ?_
          refine lv_topi (fun x20 ex20 => ?_)
          have hv21 : zu_rv I k a1.toNatClampNeg ((a2.toNatClampNeg - a1.toNatClampNeg) - 1 - (a2.toInt - 1 - y9.toInt).toNat) = x20.toInt := by unfold zu_rv; rw [ex20, show a1.toNatClampNeg + ((a2.toNatClampNeg - a1.toNatClampNeg) - 1 - (a2.toInt - 1 - y9.toInt).toNat) = y9.toNatClampNeg by omega]
          have hu22 := hg ((a2.toNatClampNeg - a1.toNatClampNeg) - 1 - (a2.toInt - 1 - y9.toInt).toNat) (by omega)
          refine lv_i2l (v := x20.toInt64) hx hb dX10_lowestFirst_51 rfl ?_
          refine lv_topl (fun w23 ew23 => ?_)
          have tw23 : w23.toInt = x20.toInt := z_ti2l ew23 rfl
          refine lv_lsub hx hb dX10_lowestFirst_52 ?_
          refine lv_topl (fun w24 ew24 => ?_)
          have tw24 : w24.toInt = w10.toInt - x20.toInt := z_tlsub ew24 rfl tw23 (by omega) (by omega)
          refine va_mmax_long (x := w19) (y := w24) hx hb (hml.trans hl.1.symm) hown (hts (.methodLink RX10 47 Lib.MathLoose.max_long.x) (me_s (me_l (List.mem_of_getElem? (i := 2) rfl)))) (hts (.static Lib.MathLoose.max_long.x) (me_s (me_l (List.mem_of_getElem? (i := 3) rfl)))) (hts (.initialized "java/lang/Math") (me_s (me_l (List.mem_of_getElem? (i := 4) rfl)))) (hts (.code Lib.MathLoose.max_long.x Lib.MathLoose.max_long.code 4 (some .long)) (me_s (me_l (List.mem_of_getElem? (i := 5) rfl)))) (Nat.le_of_ble_eq_true rfl) (Nat.le_of_ble_eq_true rfl) (Nat.le_of_ble_eq_true rfl) (Nat.le_of_ble_eq_true rfl) dX10_lowestFirst_53 ?_
          refine lv_topl (fun w25 ew25 => ?_)
          have tw25 := z_tlmax ew25 tw19 tw24
          refine lv_lstore_n (lv' := [(3, .long w25), (5, .int y9), (0, .ref (ad (100 + 8 * k))), (1, .int a1), (2, .int a2)]) hx hb dX10_lowestFirst_56 rfl hl (by decide) rfl (fun ls hl => ?_)
          refine lv_lload_n hx hb dX10_lowestFirst_57 rfl (lv_at hl 0 rfl) ?_
          refine lv_aload_n hx hb dX10_lowestFirst_58 rfl (lv_at hl 2 rfl) ?_
          refine z_get (T := TX10) (N := 10) (ci := 10) (i := (100 + 8 * k)) (v := .ref (ad (100 + 8 * k + 6))) hx hb hts zj_X10_lowestFirst_X10 hown hK hW (z_ss0 hk h10) rfl 8 (by decide) (hts (.fieldLink RX10 27 "PetrolBoard$Station" "high" "[I") (me_s (me_l (List.mem_of_getElem? (i := 6) rfl)))) (fun _ h => h) (z_pS hk h10 rfl rfl) dX10_lowestFirst_59 ?_
          refine lv_iload hx hb dX10_lowestFirst_62 (lv_at hl 1 rfl) ?_
          refine z_iald (i := (100 + 8 * k + 6)) hx hb hK hW (z_ssj hk h10 (by decide)) (z_ix rfl (by omega) (by omega)) dX10_lowestFirst_64 ?_
          refine lv_topi (fun x26 ex26 => ?_)
          have hv27 : zu_rh I k a1.toNatClampNeg ((a2.toNatClampNeg - a1.toNatClampNeg) - 1 - (a2.toInt - 1 - y9.toInt).toNat) = x26.toInt := by unfold zu_rh; rw [ex26, show a1.toNatClampNeg + ((a2.toNatClampNeg - a1.toNatClampNeg) - 1 - (a2.toInt - 1 - y9.toInt).toNat) = y9.toNatClampNeg by omega]
          have hu28 := hg ((a2.toNatClampNeg - a1.toNatClampNeg) - 1 - (a2.toInt - 1 - y9.toInt).toNat) (by omega)
          refine lv_i2l (v := x26.toInt64) hx hb dX10_lowestFirst_65 rfl ?_
          refine lv_topl (fun w29 ew29 => ?_)
          have tw29 : w29.toInt = x26.toInt := z_ti2l ew29 rfl
          refine W.lcmp hx hb dX10_lowestFirst_66 ?_
          refine lv_topi (fun x30 ex30 => ?_)
          have tx30 := z_tcmp ex30
          have h31 := z_tlcmp ex30 rfl tw29
          refine lv_if_le (tgt := 74) hx hb dX10_lowestFirst_67 (by decide) (fun c32 => ?_) (fun c32 => ?_)
          · have g33 := z_f_le rfl z_l0 c32
            obtain ⟨x34, ex34⟩ : ∃ y : Int32, y = y9 + (-1) := ⟨_, rfl⟩
            have tx34 : x34.toInt = y9.toInt + (-1) := z_tadd ex34 rfl z_lm1 (by omega) (by omega)
            refine lv_iinc (v := x34) (lv' := [(5, .int x34), (3, .long w25), (0, .ref (ad (100 + 8 * k))), (1, .int a1), (2, .int a2)]) hx hb dX10_lowestFirst_74 hl (k := 1) rfl (by rw [ex34]; rfl) (by decide) rfl (fun ls hl => ?_)
            refine lv_goto (tgt := 24) hx hb dX10_lowestFirst_77 (by decide) ?_
            exact lp8ih x34 w25 _ _ _ (by omega) (by omega) (by omega) (by omega) (by have u9 := zu_B_up (l := (zu_rl I k a1.toNatClampNeg)) (h := (zu_rh I k a1.toNatClampNeg)) (v := (zu_rv I k a1.toNatClampNeg)) (n := (a2.toNatClampNeg - a1.toNatClampNeg)) (d := (a2.toInt - 1 - y9.toInt).toNat) lp8B.1 lp8B.2.1 hv17 hv21 hv27 (w := w25.toInt) (by omega); exact ⟨by rw [show (a2.toInt - 1 - x34.toInt).toNat = (a2.toInt - 1 - y9.toInt).toNat + 1 by omega]; exact u9.1 (by omega), by omega, by omega, by omega, by omega⟩) hW hS (lv_sub hl [0, 1, 2, 3, 4] rfl)
          · have g35 := z_f_nle rfl z_l0 c32
            refine lv_ldc2 (v := (-1)) hx hb hown (hts (.constantLong RX10 53 (-1)) (me_s (me_l (List.mem_of_getElem? (i := 7) rfl)))) dX10_lowestFirst_70 ?_
            exact z_lret hx hb hr hK hS (Nat.le_of_ble_eq_true rfl) (Nat.le_of_ble_eq_true rfl) hlocks dX10_lowestFirst_73 (shC c, ad, I, JX, PC c ad) hW ⟨rfl, (by have u9 := zu_B_up (l := (zu_rl I k a1.toNatClampNeg)) (h := (zu_rh I k a1.toNatClampNeg)) (v := (zu_rv I k a1.toNatClampNeg)) (n := (a2.toNatClampNeg - a1.toNatClampNeg)) (d := (a2.toInt - 1 - y9.toInt).toNat) lp8B.1 lp8B.2.1 hv17 hv21 hv27 (w := w25.toInt) (by omega); have b9 := u9.2 (by omega); rw [zu_B_m b9 (by omega)]; decide)⟩
    exact lp8 4294967296 x7 w6 _ _ _ (z_m0d _) (by omega) (by omega) (by omega) ⟨by rw [show (a2.toInt - 1 - x7.toInt).toNat = 0 by omega]; show zu_rl I k a1.toNatClampNeg (a2.toNatClampNeg - a1.toNatClampNeg) = _; omega, by omega, by omega, by omega, by omega⟩ hW hS (lv_sub hl [0, 1, 2, 3, 4] rfl)
  · refine lv_if_ne (tgt := 11) hx hb dX10_lowestFirst_6 (by decide) (fun c36 => absurd (by decide) c36) (fun c36 => ?_)
    refine lv_lconst (v := 0) hx hb dX10_lowestFirst_9 (by decide) ?_
    exact z_lret hx hb hr hK hS (Nat.le_of_ble_eq_true rfl) (Nat.le_of_ble_eq_true rfl) hlocks dX10_lowestFirst_10 (shC c, ad, I, JX, PC c ad) hW ⟨rfl, (by exfalso; omega)⟩
set_option maxHeartbeats 8000000 in
set_option maxRecDepth 100000 in
theorem sx_X10_inTogether_u (l : Launch) (G : z_G) (ad : Nat → Nat) (c : z_C) (I : z_I) (k : Nat) (a1 : Int32) (a2 : Int32) (hk : k < c.1) (h10 : c.1 ≤ 10) (hsp : (0 ≤ a1.toInt ∧ a1.toInt < a2.toInt) ∧ a2.toInt < (I (100 + 8 * k) 4).toInt) (hg : zu_gb I k a1.toNatClampNeg (a2.toNatClampNeg - a1.toNatClampNeg)) (hS0 : z_iS c I) : z_Ml l yX10_inTogether wsX10_inTogether { frames := 1, cells := 0, slots := 0, locals := 40 } [.ref (ad (100 + 8 * k)), .int a1, .int a2] G (shC c, ad, I, JX, PC c ad) (fun r u1 => u1 = (shC c, ad, I, JX, PC c ad) ∧ (r.toInt = zu_s (zu_rv I k a1.toNatClampNeg) (a2.toNatClampNeg - a1.toNatClampNeg) ∧ -31900000000 ≤ r.toInt ∧ r.toInt ≤ 31900000000)) 0 0 := by
  intro sz
  refine z_headQ (cc := cX10_inTogether) (maxL := 6) (ret := (some .long)) (by decide) rfl (Nat.le_of_ble_eq_true rfl) ?_
  intro p e s m below meth c0 ls hIn hK hsz hW hl
  obtain ⟨hx, hb, hr, hml, hown, hts, hlocks, hname⟩ := hIn
  subst hsz
  have hown : s.vm.findClass RX10 = some m.cls := hown
  have hA : ∀ q : Nat, s.heap.size ≤ q → z_A (shC c, ad, I, JX, PC c ad) s.heap.size q := fun q h => Or.inr h
  generalize hAe : z_A (shC c, ad, I, JX, PC c ad) s.heap.size = A at *
  have hS : va_S A s.heap s.heap [] := va_S.rf
  have hl : lv_has ls 6 [(0, .ref (ad (100 + 8 * k))), (1, .int a1), (2, .int a2)] := hl
  have s9 : 0 ≤ (I (100 + 8 * k) 4).toInt ∧ (I (100 + 8 * k) 4).toInt ≤ 30 := hS0 k hk
  have ca1 := z_clt (x := a1) rfl (by omega)
  have ca2 := z_clt (x := a2) rfl (by omega)
  refine lv_lconst (v := 0) hx hb dX10_inTogether_0 (by decide) ?_
  refine lv_lstore_n (lv' := [(3, .long 0), (0, .ref (ad (100 + 8 * k))), (1, .int a1), (2, .int a2)]) hx hb dX10_inTogether_1 rfl hl (by decide) rfl (fun ls hl => ?_)
  refine lv_iload_n hx hb dX10_inTogether_2 rfl (lv_at hl 2 rfl) ?_
  refine lv_iconst (v := 0) hx hb dX10_inTogether_3 (by decide) ?_
  refine va_mmax (x := a1) (y := 0) hx hb (hml.trans hl.1.symm) hown (hts (.methodLink RX10 55 Lib.Math.max.name) (me_s (me_l (List.mem_of_getElem? (i := 0) rfl)))) (hts (.static Lib.Math.max.name) (me_s (me_l (List.mem_of_getElem? (i := 1) rfl)))) (hts (.initialized "java/lang/Math") (me_s (me_l (List.mem_of_getElem? (i := 2) rfl)))) (hts (.code Lib.Math.max.name Lib.Math.max.code 2 (some .int)) (me_s (me_l (List.mem_of_getElem? (i := 3) rfl)))) (Nat.le_of_ble_eq_true rfl) (Nat.le_of_ble_eq_true rfl) (Nat.le_of_ble_eq_true rfl) (Nat.le_of_ble_eq_true rfl) dX10_inTogether_4 ?_
  refine lv_topi (fun x1 ex1 => ?_)
  have tx1 := z_tmmax ex1 rfl z_l0
  refine lv_istore (lv' := [(5, .int x1), (3, .long 0), (0, .ref (ad (100 + 8 * k))), (1, .int a1), (2, .int a2)]) hx hb dX10_inTogether_7 hl (by decide) rfl (fun ls hl => ?_)
  have lp2 : ∀ (f : Nat) (y3 : Int32) (w4 : Int64) (H : Heap) (locs : List Loc) (ls : Array Slot), (2147483647 < y3.toInt + (f : Int)) → (0 ≤ y3.toInt) → (y3.toInt ≤ 29) → (x1.toInt ≤ y3.toInt) → (w4.toInt = zu_s (zu_rv I k a1.toNatClampNeg) (y3.toInt - a1.toInt).toNat ∧ -1100000000 * (y3.toInt - a1.toInt) ≤ w4.toInt ∧ w4.toInt ≤ 1100000000 * (y3.toInt - a1.toInt) ∧ a1.toInt ≤ y3.toInt ∧ y3.toInt ≤ a2.toInt) → z_W G A (shC c, ad, I, JX, PC c ad) H → va_S A s.heap H locs → lv_has ls 6 [(5, .int y3), (3, .long w4), (0, .ref (ad (100 + 8 * k))), (1, .int a1), (2, .int a2)] → W p l e (headSpec wsX10_inTogether { frames := 1, cells := 0, slots := 0, locals := 40 }).room s m ([.ref (ad (100 + 8 * k)), .int a1, .int a2] : List Value).toArray below meth c0 H locs 0 0 (MQ below (va_Ql (fun (r : Int64) (u1 : z_U) => u1 = (shC c, ad, I, JX, PC c ad) ∧ (r.toInt = zu_s (zu_rv I k a1.toNatClampNeg) (a2.toNatClampNeg - a1.toNatClampNeg) ∧ -31900000000 ≤ r.toInt ∧ r.toInt ≤ 31900000000)) (z_B G A) A) ([.ref (ad (100 + 8 * k)), .int a1, .int a2] : List Value).toArray s 0 0 A) (F0 m 9 ls []) := by
    intro f
    induction f with
    | zero => intro y3 w4 H locs ls lp2m lp2l5 lp2u5 lp2z lp2T hW hS hl; exact absurd lp2m (by have := Int32.toInt_lt y3; have := Int32.le_toInt y3; omega)
    | succ f lp2ih =>
      intro y3 w4 H locs ls lp2m lp2l5 lp2u5 lp2z lp2T hW hS hl
      refine lv_iload hx hb dX10_inTogether_9 (lv_at hl 0 rfl) ?_
      refine lv_iload_n hx hb dX10_inTogether_11 rfl (lv_at hl 4 rfl) ?_
      refine lv_icmp_ge (tgt := 39) hx hb dX10_inTogether_12 (by decide) (fun c5 => ?_) (fun c5 => ?_)
      · have g6 := z_f_ge rfl rfl c5
        refine lv_lload_n hx hb dX10_inTogether_39 rfl (lv_at hl 1 rfl) ?_
        exact z_lret hx hb hr hK hS (Nat.le_of_ble_eq_true rfl) (Nat.le_of_ble_eq_true rfl) hlocks dX10_inTogether_40 (shC c, ad, I, JX, PC c ad) hW ⟨rfl, (by have b9 := lp2T; rw [show (y3.toInt - a1.toInt).toNat = (a2.toNatClampNeg - a1.toNatClampNeg) by omega] at b9; exact ⟨b9.1, by omega, by omega⟩)⟩
      · have g7 := z_f_nge rfl rfl c5
        refine lv_iload hx hb dX10_inTogether_15 (lv_at hl 0 rfl) ?_
        refine lv_bipush (v := 30) hx hb dX10_inTogether_17 (by decide) ?_
        refine lv_icmp_ge (tgt := 39) hx hb dX10_inTogether_19 (by decide) (fun c8 => (by have g := z_f_ge rfl z_l30 c8; omega)) (fun c8 => ?_)
        have g9 := z_f_nge rfl z_l30 c8
        have c9 := z_clt (x := y3) rfl (by omega)
        refine lv_lload_n hx hb dX10_inTogether_22 rfl (lv_at hl 1 rfl) ?_
        refine lv_aload_n hx hb dX10_inTogether_23 rfl (lv_at hl 2 rfl) ?_
        refine z_get (T := TX10) (N := 10) (ci := 10) (i := (100 + 8 * k)) (v := .ref (ad (100 + 8 * k + 7))) hx hb hts zj_X10_inTogether_X10 hown hK hW (z_ss0 hk h10) rfl 9 (by decide) (hts (.fieldLink RX10 30 "PetrolBoard$Station" "in" "[I") (me_s (me_l (List.mem_of_getElem? (i := 4) rfl)))) (fun _ h => h) (z_pS hk h10 rfl rfl) dX10_inTogether_24 ?_
        refine lv_iload hx hb dX10_inTogether_27 (lv_at hl 0 rfl) ?_
        refine z_iald (i := (100 + 8 * k + 7)) hx hb hK hW (z_ssj hk h10 (by decide)) (z_ix rfl (by omega) (by omega)) dX10_inTogether_29 ?_
        refine lv_topi (fun x10 ex10 => ?_)
        have hv11 : zu_rv I k a1.toNatClampNeg (y3.toInt - a1.toInt).toNat = x10.toInt := by unfold zu_rv; rw [ex10, show a1.toNatClampNeg + (y3.toInt - a1.toInt).toNat = y3.toNatClampNeg by omega]
        have hu12 := hg (y3.toInt - a1.toInt).toNat (by omega)
        refine lv_i2l (v := x10.toInt64) hx hb dX10_inTogether_30 rfl ?_
        refine lv_topl (fun w13 ew13 => ?_)
        have tw13 : w13.toInt = x10.toInt := z_ti2l ew13 rfl
        refine lv_ladd hx hb dX10_inTogether_31 ?_
        refine lv_topl (fun w14 ew14 => ?_)
        have tw14 : w14.toInt = w4.toInt + x10.toInt := z_tladd ew14 rfl tw13 (by omega) (by omega)
        refine lv_lstore_n (lv' := [(3, .long w14), (5, .int y3), (0, .ref (ad (100 + 8 * k))), (1, .int a1), (2, .int a2)]) hx hb dX10_inTogether_32 rfl hl (by decide) rfl (fun ls hl => ?_)
        obtain ⟨x15, ex15⟩ : ∃ y : Int32, y = y3 + 1 := ⟨_, rfl⟩
        have tx15 : x15.toInt = y3.toInt + 1 := z_tadd ex15 rfl z_l1 (by omega) (by omega)
        refine lv_iinc (v := x15) (lv' := [(5, .int x15), (3, .long w14), (0, .ref (ad (100 + 8 * k))), (1, .int a1), (2, .int a2)]) hx hb dX10_inTogether_33 hl (k := 1) rfl (by rw [ex15]; rfl) (by decide) rfl (fun ls hl => ?_)
        refine lv_goto (tgt := 9) hx hb dX10_inTogether_36 (by decide) ?_
        exact lp2ih x15 w14 _ _ _ (by omega) (by omega) (by omega) (by omega) ⟨by rw [show (x15.toInt - a1.toInt).toNat = (y3.toInt - a1.toInt).toNat + 1 by omega, zu_s_s, hv11]; have q9 := lp2T.1; omega, by omega, by omega, by omega, by omega⟩ hW hS (lv_sub hl [0, 1, 2, 3, 4] rfl)
  exact lp2 4294967296 x1 0 _ _ _ (z_m0u _) (by omega) (by omega) (by omega) (by have q0 : (0 : Int64).toInt = 0 := (by decide); exact ⟨by rw [show (x1.toInt - a1.toInt).toNat = 0 by omega]; exact q0, by omega, by omega, by omega, by omega⟩) hW hS (lv_sub hl [0, 1, 2, 3, 4] rfl)
set_option maxHeartbeats 8000000 in
set_option maxRecDepth 100000 in
theorem sx_X10_mostBlack_u (l : Launch) (G : z_G) (ad : Nat → Nat) (c : z_C) (I : z_I) (k : Nat) (a1 : Int32) (a2 : Int32) (hk : k < c.1) (h10 : c.1 ≤ 10) (hsp : (0 ≤ a1.toInt ∧ a1.toInt < a2.toInt) ∧ a2.toInt < (I (100 + 8 * k) 4).toInt) (hg : zu_gb I k a1.toNatClampNeg (a2.toNatClampNeg - a1.toNatClampNeg)) (hS0 : z_iS c I) : z_Ml l yX10_mostBlack wsX10_mostBlack { frames := 3, cells := 0, slots := 0, locals := 65 } [.ref (ad (100 + 8 * k)), .int a1, .int a2] G (shC c, ad, I, JX, PC c ad) (fun r u1 => u1 = (shC c, ad, I, JX, PC c ad) ∧ (r.toInt = zu_X (zu_rl I k a1.toNatClampNeg) (zu_rh I k a1.toNatClampNeg) (zu_rv I k a1.toNatClampNeg) (a2.toNatClampNeg - a1.toNatClampNeg) 1)) 0 0 := by
  intro sz
  refine z_headQ (cc := cX10_mostBlack) (maxL := 3) (ret := (some .long)) (by decide) rfl (Nat.le_of_ble_eq_true rfl) ?_
  intro p e s m below meth c0 ls hIn hK hsz hW hl
  obtain ⟨hx, hb, hr, hml, hown, hts, hlocks, hname⟩ := hIn
  subst hsz
  have hown : s.vm.findClass RX10 = some m.cls := hown
  have hA : ∀ q : Nat, s.heap.size ≤ q → z_A (shC c, ad, I, JX, PC c ad) s.heap.size q := fun q h => Or.inr h
  generalize hAe : z_A (shC c, ad, I, JX, PC c ad) s.heap.size = A at *
  have hS : va_S A s.heap s.heap [] := va_S.rf
  have hl : lv_has ls 3 [(0, .ref (ad (100 + 8 * k))), (1, .int a1), (2, .int a2)] := hl
  have s9 : 0 ≤ (I (100 + 8 * k) 4).toInt ∧ (I (100 + 8 * k) 4).toInt ≤ 30 := hS0 k hk
  have ca1 := z_clt (x := a1) rfl (by omega)
  have ca2 := z_clt (x := a2) rfl (by omega)
  refine lv_aload_n hx hb dX10_mostBlack_0 rfl (lv_at hl 0 rfl) ?_
  refine lv_iload_n hx hb dX10_mostBlack_1 rfl (lv_at hl 1 rfl) ?_
  refine lv_iload_n hx hb dX10_mostBlack_2 rfl (lv_at hl 2 rfl) ?_
  refine z_ci hW hS hA (va_runV (As := [.int a1, .int a2]) (rest := []) ⟨hx, hb, hml, hown, hts⟩ (sx_X10_hasSpan_u l G ad c I  k a1 a2 hk h10  hS0 _) (cwV 2 hts gX10_mostBlack_X10_hasSpan rfl rfl rfl (by decide +kernel) ⟨Nat.le_of_ble_eq_true rfl, Nat.le_of_ble_eq_true rfl⟩) (z_preV (i := (100 + 8 * k)) hK hW (z_ss0 hk h10) rfl) rfl rfl hl.1 rfl (lv_room (Nat.le_of_ble_eq_true rfl)) dX10_mostBlack_3 ⟨Nat.le_of_ble_eq_true rfl, Nat.le_of_ble_eq_true rfl⟩) (fun r u1 H locs hp hW hS => ?_)
  obtain ⟨e9, hp⟩ := hp
  rw [e9] at hW
  rcases hp with ⟨rfl, hs1⟩ | ⟨rfl, hs1⟩
  · refine lv_if_ne (tgt := 13) hx hb dX10_mostBlack_6 (by decide) (fun c2 => ?_) (fun c2 => absurd c2 (by decide))
    refine lv_aload_n hx hb dX10_mostBlack_13 rfl (lv_at hl 0 rfl) ?_
    refine lv_iload_n hx hb dX10_mostBlack_14 rfl (lv_at hl 1 rfl) ?_
    refine lv_iload_n hx hb dX10_mostBlack_15 rfl (lv_at hl 2 rfl) ?_
    refine z_cl hW hS hA (va_runV (As := [.int a1, .int a2]) (rest := []) ⟨hx, hb, hml, hown, hts⟩ (sx_X10_lowestFirst_u l G ad c I  k a1 a2 hk h10 hsp hg hS0 _) (cwV 2 hts gX10_mostBlack_X10_lowestFirst rfl rfl rfl (by decide +kernel) ⟨Nat.le_of_ble_eq_true rfl, Nat.le_of_ble_eq_true rfl⟩) (z_preV (i := (100 + 8 * k)) hK hW (z_ss0 hk h10) rfl) rfl rfl hl.1 rfl (lv_room (Nat.le_of_ble_eq_true rfl)) dX10_mostBlack_16 ⟨Nat.le_of_ble_eq_true rfl, Nat.le_of_ble_eq_true rfl⟩) (fun r u1 H locs hp hW hS => ?_)
    obtain ⟨e9, hp⟩ := hp
    rw [e9] at hW
    refine lv_topl (fun w3 ew3 => ?_)
    rw [← ew3] at hp
    have hl4 := hp
    have hb5 := zu_B_g hg
    refine lv_ldc2 (v := (-1)) hx hb hown (hts (.constantLong RX10 53 (-1)) (me_s (me_l (me_l (List.mem_of_getElem? (i := 0) rfl))))) dX10_mostBlack_19 ?_
    refine W.lcmp hx hb dX10_mostBlack_22 ?_
    refine lv_topi (fun x6 ex6 => ?_)
    have tx6 := z_tcmp ex6
    have h7 := z_tlcmp ex6 rfl (show ((-1) : Int64).toInt = (-1) by decide)
    refine lv_if_ne (tgt := 30) hx hb dX10_mostBlack_23 (by decide) (fun c8 => ?_) (fun c8 => ?_)
    · have g9 := z_f_ne rfl z_l0 c8
      refine lv_aload_n hx hb dX10_mostBlack_30 rfl (lv_at hl 0 rfl) ?_
      refine lv_iload_n hx hb dX10_mostBlack_31 rfl (lv_at hl 1 rfl) ?_
      refine lv_iload_n hx hb dX10_mostBlack_32 rfl (lv_at hl 2 rfl) ?_
      refine z_cl hW hS hA (va_runV (As := [.int a1, .int a2]) (rest := []) ⟨hx, hb, hml, hown, hts⟩ (sx_X10_inTogether_u l G ad c I  k a1 a2 hk h10 hsp hg hS0 _) (cwV 2 hts gX10_mostBlack_X10_inTogether rfl rfl rfl (by decide +kernel) ⟨Nat.le_of_ble_eq_true rfl, Nat.le_of_ble_eq_true rfl⟩) (z_preV (i := (100 + 8 * k)) hK hW (z_ss0 hk h10) rfl) rfl rfl hl.1 rfl (lv_room (Nat.le_of_ble_eq_true rfl)) dX10_mostBlack_33 ⟨Nat.le_of_ble_eq_true rfl, Nat.le_of_ble_eq_true rfl⟩) (fun r u1 H locs hp hW hS => ?_)
      obtain ⟨e9, hp⟩ := hp
      rw [e9] at hW
      refine lv_topl (fun w10 ew10 => ?_)
      rw [← ew10] at hp
      have hl11 := hp
      refine lv_aload_n hx hb dX10_mostBlack_36 rfl (lv_at hl 0 rfl) ?_
      refine z_get (T := TX10) (N := 10) (ci := 10) (i := (100 + 8 * k)) (v := .ref (ad (100 + 8 * k + 6))) hx hb hts zj_X10_mostBlack_X10 hown hK hW (z_ss0 hk h10) rfl 8 (by decide) (hts (.fieldLink RX10 27 "PetrolBoard$Station" "high" "[I") (me_s (me_l (me_l (List.mem_of_getElem? (i := 2) rfl))))) (fun _ h => h) (z_pS hk h10 rfl rfl) dX10_mostBlack_37 ?_
      refine lv_iload_n hx hb dX10_mostBlack_40 rfl (lv_at hl 1 rfl) ?_
      refine z_iald (i := (100 + 8 * k + 6)) hx hb hK hW (z_ssj hk h10 (by decide)) (z_ix rfl (by omega) (by omega)) dX10_mostBlack_41 ?_
      refine lv_topi (fun x12 ex12 => ?_)
      have hv13 : zu_rh I k a1.toNatClampNeg 0 = x12.toInt := by unfold zu_rh; rw [ex12, show a1.toNatClampNeg + 0 = a1.toNatClampNeg by omega]
      have hu14 := hg 0 (by omega)
      refine lv_i2l (v := x12.toInt64) hx hb dX10_mostBlack_42 rfl ?_
      refine lv_topl (fun w15 ew15 => ?_)
      have tw15 : w15.toInt = x12.toInt := z_ti2l ew15 rfl
      refine lv_ladd hx hb dX10_mostBlack_43 ?_
      refine lv_topl (fun w16 ew16 => ?_)
      have tw16 : w16.toInt = w10.toInt + x12.toInt := z_tladd ew16 rfl tw15 (by omega) (by omega)
      refine lv_aload_n hx hb dX10_mostBlack_44 rfl (lv_at hl 0 rfl) ?_
      refine z_get (T := TX10) (N := 10) (ci := 10) (i := (100 + 8 * k)) (v := .ref (ad (100 + 8 * k + 5))) hx hb hts zj_X10_mostBlack_X10 hown hK hW (z_ss0 hk h10) rfl 7 (by decide) (hts (.fieldLink RX10 24 "PetrolBoard$Station" "low" "[I") (me_s (me_l (me_l (List.mem_of_getElem? (i := 3) rfl))))) (fun _ h => h) (z_pS hk h10 rfl rfl) dX10_mostBlack_45 ?_
      refine lv_iload_n hx hb dX10_mostBlack_48 rfl (lv_at hl 2 rfl) ?_
      refine z_iald (i := (100 + 8 * k + 5)) hx hb hK hW (z_ssj hk h10 (by decide)) (z_ix rfl (by omega) (by omega)) dX10_mostBlack_49 ?_
      refine lv_topi (fun x17 ex17 => ?_)
      have hv18 : zu_rl I k a1.toNatClampNeg (a2.toNatClampNeg - a1.toNatClampNeg) = x17.toInt := by unfold zu_rl; rw [ex17, show a1.toNatClampNeg + (a2.toNatClampNeg - a1.toNatClampNeg) = a2.toNatClampNeg by omega]
      have hu19 := hg (a2.toNatClampNeg - a1.toNatClampNeg) (by omega)
      refine lv_i2l (v := x17.toInt64) hx hb dX10_mostBlack_50 rfl ?_
      refine lv_topl (fun w20 ew20 => ?_)
      have tw20 : w20.toInt = x17.toInt := z_ti2l ew20 rfl
      refine lv_lsub hx hb dX10_mostBlack_51 ?_
      refine lv_topl (fun w21 ew21 => ?_)
      have tw21 : w21.toInt = (w10.toInt + x12.toInt) - x17.toInt := z_tlsub ew21 tw16 tw20 (by omega) (by omega)
      exact z_lret hx hb hr hK hS (Nat.le_of_ble_eq_true rfl) (Nat.le_of_ble_eq_true rfl) hlocks dX10_mostBlack_52 (shC c, ad, I, JX, PC c ad) hW ⟨rfl, (by unfold zu_X; rw [if_neg (by omega), if_neg (by decide)]; omega)⟩
    · have g22 := z_f_eq rfl z_l0 c8
      refine lv_ldc2 (v := (-3)) hx hb hown (hts (.constantLong RX10 62 (-3)) (me_s (me_l (me_l (List.mem_of_getElem? (i := 1) rfl))))) dX10_mostBlack_26 ?_
      exact z_lret hx hb hr hK hS (Nat.le_of_ble_eq_true rfl) (Nat.le_of_ble_eq_true rfl) hlocks dX10_mostBlack_29 (shC c, ad, I, JX, PC c ad) hW ⟨rfl, (by unfold zu_X; rw [if_pos (by omega)]; decide)⟩
  · refine lv_if_ne (tgt := 13) hx hb dX10_mostBlack_6 (by decide) (fun c23 => absurd (by decide) c23) (fun c23 => ?_)
    refine lv_ldc2 (v := (-1)) hx hb hown (hts (.constantLong RX10 53 (-1)) (me_s (me_l (me_l (List.mem_of_getElem? (i := 0) rfl))))) dX10_mostBlack_9 ?_
    exact z_lret hx hb hr hK hS (Nat.le_of_ble_eq_true rfl) (Nat.le_of_ble_eq_true rfl) hlocks dX10_mostBlack_12 (shC c, ad, I, JX, PC c ad) hW ⟨rfl, (by exfalso; omega)⟩
set_option maxHeartbeats 8000000 in
set_option maxRecDepth 100000 in
theorem sx_X10_leastBlack_u (l : Launch) (G : z_G) (ad : Nat → Nat) (c : z_C) (I : z_I) (k : Nat) (a1 : Int32) (a2 : Int32) (hk : k < c.1) (h10 : c.1 ≤ 10) (hsp : (0 ≤ a1.toInt ∧ a1.toInt < a2.toInt) ∧ a2.toInt < (I (100 + 8 * k) 4).toInt) (hg : zu_gb I k a1.toNatClampNeg (a2.toNatClampNeg - a1.toNatClampNeg)) (hS0 : z_iS c I) : z_Ml l yX10_leastBlack wsX10_leastBlack { frames := 3, cells := 0, slots := 0, locals := 65 } [.ref (ad (100 + 8 * k)), .int a1, .int a2] G (shC c, ad, I, JX, PC c ad) (fun r u1 => u1 = (shC c, ad, I, JX, PC c ad) ∧ (r.toInt = zu_X (zu_rl I k a1.toNatClampNeg) (zu_rh I k a1.toNatClampNeg) (zu_rv I k a1.toNatClampNeg) (a2.toNatClampNeg - a1.toNatClampNeg) 0)) 0 0 := by
  intro sz
  refine z_headQ (cc := cX10_leastBlack) (maxL := 8) (ret := (some .long)) (by decide) rfl (Nat.le_of_ble_eq_true rfl) ?_
  intro p e s m below meth c0 ls hIn hK hsz hW hl
  obtain ⟨hx, hb, hr, hml, hown, hts, hlocks, hname⟩ := hIn
  subst hsz
  have hown : s.vm.findClass RX10 = some m.cls := hown
  have hA : ∀ q : Nat, s.heap.size ≤ q → z_A (shC c, ad, I, JX, PC c ad) s.heap.size q := fun q h => Or.inr h
  generalize hAe : z_A (shC c, ad, I, JX, PC c ad) s.heap.size = A at *
  have hS : va_S A s.heap s.heap [] := va_S.rf
  have hl : lv_has ls 8 [(0, .ref (ad (100 + 8 * k))), (1, .int a1), (2, .int a2)] := hl
  have s9 : 0 ≤ (I (100 + 8 * k) 4).toInt ∧ (I (100 + 8 * k) 4).toInt ≤ 30 := hS0 k hk
  have ca1 := z_clt (x := a1) rfl (by omega)
  have ca2 := z_clt (x := a2) rfl (by omega)
  refine lv_aload_n hx hb dX10_leastBlack_0 rfl (lv_at hl 0 rfl) ?_
  refine lv_iload_n hx hb dX10_leastBlack_1 rfl (lv_at hl 1 rfl) ?_
  refine lv_iload_n hx hb dX10_leastBlack_2 rfl (lv_at hl 2 rfl) ?_
  refine z_ci hW hS hA (va_runV (As := [.int a1, .int a2]) (rest := []) ⟨hx, hb, hml, hown, hts⟩ (sx_X10_hasSpan_u l G ad c I  k a1 a2 hk h10  hS0 _) (cwV 2 hts gX10_leastBlack_X10_hasSpan rfl rfl rfl (by decide +kernel) ⟨Nat.le_of_ble_eq_true rfl, Nat.le_of_ble_eq_true rfl⟩) (z_preV (i := (100 + 8 * k)) hK hW (z_ss0 hk h10) rfl) rfl rfl hl.1 rfl (lv_room (Nat.le_of_ble_eq_true rfl)) dX10_leastBlack_3 ⟨Nat.le_of_ble_eq_true rfl, Nat.le_of_ble_eq_true rfl⟩) (fun r u1 H locs hp hW hS => ?_)
  obtain ⟨e9, hp⟩ := hp
  rw [e9] at hW
  rcases hp with ⟨rfl, hs1⟩ | ⟨rfl, hs1⟩
  · refine lv_if_ne (tgt := 13) hx hb dX10_leastBlack_6 (by decide) (fun c2 => ?_) (fun c2 => absurd c2 (by decide))
    refine lv_aload_n hx hb dX10_leastBlack_13 rfl (lv_at hl 0 rfl) ?_
    refine lv_iload_n hx hb dX10_leastBlack_14 rfl (lv_at hl 1 rfl) ?_
    refine lv_iload_n hx hb dX10_leastBlack_15 rfl (lv_at hl 2 rfl) ?_
    refine z_cl hW hS hA (va_runV (As := [.int a1, .int a2]) (rest := []) ⟨hx, hb, hml, hown, hts⟩ (sx_X10_lowestFirst_u l G ad c I  k a1 a2 hk h10 hsp hg hS0 _) (cwV 2 hts gX10_leastBlack_X10_lowestFirst rfl rfl rfl (by decide +kernel) ⟨Nat.le_of_ble_eq_true rfl, Nat.le_of_ble_eq_true rfl⟩) (z_preV (i := (100 + 8 * k)) hK hW (z_ss0 hk h10) rfl) rfl rfl hl.1 rfl (lv_room (Nat.le_of_ble_eq_true rfl)) dX10_leastBlack_16 ⟨Nat.le_of_ble_eq_true rfl, Nat.le_of_ble_eq_true rfl⟩) (fun r u1 H locs hp hW hS => ?_)
    obtain ⟨e9, hp⟩ := hp
    rw [e9] at hW
    refine lv_topl (fun w3 ew3 => ?_)
    rw [← ew3] at hp
    have hl4 := hp
    have hb5 := zu_B_g hg
    refine lv_lstore_n (lv' := [(3, .long w3), (0, .ref (ad (100 + 8 * k))), (1, .int a1), (2, .int a2)]) hx hb dX10_leastBlack_19 rfl hl (by decide) rfl (fun ls hl => ?_)
    refine lv_lload_n hx hb dX10_leastBlack_20 rfl (lv_at hl 0 rfl) ?_
    refine lv_ldc2 (v := (-1)) hx hb hown (hts (.constantLong RX10 53 (-1)) (me_s (me_l (me_l (List.mem_of_getElem? (i := 0) rfl))))) dX10_leastBlack_21 ?_
    refine W.lcmp hx hb dX10_leastBlack_24 ?_
    refine lv_topi (fun x6 ex6 => ?_)
    have tx6 := z_tcmp ex6
    have h7 := z_tlcmp ex6 rfl (show ((-1) : Int64).toInt = (-1) by decide)
    refine lv_if_ne (tgt := 32) hx hb dX10_leastBlack_25 (by decide) (fun c8 => ?_) (fun c8 => ?_)
    · have g9 := z_f_ne rfl z_l0 c8
      refine lv_lload_n hx hb dX10_leastBlack_32 rfl (lv_at hl 0 rfl) ?_
      refine lv_lstore (lv' := [(5, .long w3), (3, .long w3), (0, .ref (ad (100 + 8 * k))), (1, .int a1), (2, .int a2)]) hx hb dX10_leastBlack_33 hl (by decide) rfl (fun ls hl => ?_)
      refine lv_iload_n hx hb dX10_leastBlack_35 rfl (lv_at hl 3 rfl) ?_
      refine lv_iconst (v := 1) hx hb dX10_leastBlack_36 (by decide) ?_
      refine lv_iadd hx hb dX10_leastBlack_37 ?_
      refine lv_topi (fun x10 ex10 => ?_)
      have tx10 : x10.toInt = a1.toInt + 1 := z_tadd ex10 rfl z_l1 (by omega) (by omega)
      refine lv_istore (lv' := [(7, .int x10), (5, .long w3), (3, .long w3), (0, .ref (ad (100 + 8 * k))), (1, .int a1), (2, .int a2)]) hx hb dX10_leastBlack_38 hl (by decide) rfl (fun ls hl => ?_)
      have lp11 : ∀ (f : Nat) (y12 : Int32) (w13 : Int64) (H : Heap) (locs : List Loc) (ls : Array Slot), (2147483647 < y12.toInt + (f : Int)) → (1 ≤ y12.toInt) → (y12.toInt ≤ 30) → (x10.toInt ≤ y12.toInt) → (w13.toInt = zu_U (zu_rh I k a1.toNatClampNeg) (zu_rv I k a1.toNatClampNeg) (zu_B (zu_rl I k a1.toNatClampNeg) (zu_rh I k a1.toNatClampNeg) (zu_rv I k a1.toNatClampNeg) (a2.toNatClampNeg - a1.toNatClampNeg) (a2.toNatClampNeg - a1.toNatClampNeg)) (y12.toInt - 1 - a1.toInt).toNat ∧ -1100000000 * (y12.toInt - 1 - a1.toInt) ≤ w13.toInt ∧ w13.toInt ≤ 1199999 ∧ a1.toInt + 1 ≤ y12.toInt ∧ y12.toInt ≤ a2.toInt + 1) → z_W G A (shC c, ad, I, JX, PC c ad) H → va_S A s.heap H locs → lv_has ls 8 [(7, .int y12), (5, .long w13), (3, .long w3), (0, .ref (ad (100 + 8 * k))), (1, .int a1), (2, .int a2)] → W p l e (headSpec wsX10_leastBlack { frames := 3, cells := 0, slots := 0, locals := 65 }).room s m ([.ref (ad (100 + 8 * k)), .int a1, .int a2] : List Value).toArray below meth c0 H locs 0 0 (MQ below (va_Ql (fun (r : Int64) (u1 : z_U) => u1 = (shC c, ad, I, JX, PC c ad) ∧ (r.toInt = zu_X (zu_rl I k a1.toNatClampNeg) (zu_rh I k a1.toNatClampNeg) (zu_rv I k a1.toNatClampNeg) (a2.toNatClampNeg - a1.toNatClampNeg) 0)) (z_B G A) A) ([.ref (ad (100 + 8 * k)), .int a1, .int a2] : List Value).toArray s 0 0 A) (F0 m 40 ls []) := by
        intro f
        induction f with
        | zero => intro y12 w13 H locs ls lp11m lp11l7 lp11u7 lp11z lp11U hW hS hl; exact absurd lp11m (by have := Int32.toInt_lt y12; have := Int32.le_toInt y12; omega)
        | succ f lp11ih =>
          intro y12 w13 H locs ls lp11m lp11l7 lp11u7 lp11z lp11U hW hS hl
          refine lv_iload hx hb dX10_leastBlack_40 (lv_at hl 0 rfl) ?_
          refine lv_iload_n hx hb dX10_leastBlack_42 rfl (lv_at hl 5 rfl) ?_
          refine lv_icmp_gt (tgt := 85) hx hb dX10_leastBlack_43 (by decide) (fun c14 => ?_) (fun c14 => ?_)
          · have g15 := z_f_gt rfl rfl c14
            refine lv_aload_n hx hb dX10_leastBlack_85 rfl (lv_at hl 3 rfl) ?_
            refine lv_iload_n hx hb dX10_leastBlack_86 rfl (lv_at hl 4 rfl) ?_
            refine lv_iload_n hx hb dX10_leastBlack_87 rfl (lv_at hl 5 rfl) ?_
            refine z_cl hW hS hA (va_runV (As := [.int a1, .int a2]) (rest := []) ⟨hx, hb, hml, hown, hts⟩ (sx_X10_inTogether_u l G ad c I  k a1 a2 hk h10 hsp hg hS0 _) (cwV 2 hts gX10_leastBlack_X10_inTogether rfl rfl rfl (by decide +kernel) ⟨Nat.le_of_ble_eq_true rfl, Nat.le_of_ble_eq_true rfl⟩) (z_preV (i := (100 + 8 * k)) hK hW (z_ss0 hk h10) rfl) rfl rfl hl.1 rfl (lv_room (Nat.le_of_ble_eq_true rfl)) dX10_leastBlack_88 ⟨Nat.le_of_ble_eq_true rfl, Nat.le_of_ble_eq_true rfl⟩) (fun r u1 H locs hp hW hS => ?_)
            obtain ⟨e9, hp⟩ := hp
            rw [e9] at hW
            refine lv_topl (fun w16 ew16 => ?_)
            rw [← ew16] at hp
            have hl17 := hp
            refine lv_lload_n hx hb dX10_leastBlack_91 rfl (lv_at hl 2 rfl) ?_
            refine lv_ladd hx hb dX10_leastBlack_92 ?_
            refine lv_topl (fun w18 ew18 => ?_)
            have tw18 : w18.toInt = w16.toInt + w3.toInt := z_tladd ew18 rfl rfl (by omega) (by omega)
            refine lv_lload hx hb dX10_leastBlack_93 (lv_at hl 1 rfl) ?_
            refine lv_lsub hx hb dX10_leastBlack_95 ?_
            refine lv_topl (fun w19 ew19 => ?_)
            have tw19 : w19.toInt = (w16.toInt + w3.toInt) - w13.toInt := z_tlsub ew19 tw18 rfl (by omega) (by omega)
            exact z_lret hx hb hr hK hS (Nat.le_of_ble_eq_true rfl) (Nat.le_of_ble_eq_true rfl) hlocks dX10_leastBlack_96 (shC c, ad, I, JX, PC c ad) hW ⟨rfl, (by have b9 := lp11U.1; rw [show (y12.toInt - 1 - a1.toInt).toNat = (a2.toNatClampNeg - a1.toNatClampNeg) by omega] at b9; unfold zu_X; rw [if_neg (by omega), if_pos rfl]; omega)⟩
          · have g20 := z_f_ngt rfl rfl c14
            refine lv_iload hx hb dX10_leastBlack_46 (lv_at hl 0 rfl) ?_
            refine lv_bipush (v := 30) hx hb dX10_leastBlack_48 (by decide) ?_
            refine lv_icmp_ge (tgt := 85) hx hb dX10_leastBlack_50 (by decide) (fun c21 => (by have g := z_f_ge rfl z_l30 c21; omega)) (fun c21 => ?_)
            have g22 := z_f_nge rfl z_l30 c21
            have c9 := z_clt (x := y12) rfl (by omega)
            refine lv_aload_n hx hb dX10_leastBlack_53 rfl (lv_at hl 3 rfl) ?_
            refine z_get (T := TX10) (N := 10) (ci := 10) (i := (100 + 8 * k)) (v := .ref (ad (100 + 8 * k + 6))) hx hb hts zj_X10_leastBlack_X10 hown hK hW (z_ss0 hk h10) rfl 8 (by decide) (hts (.fieldLink RX10 27 "PetrolBoard$Station" "high" "[I") (me_s (me_l (me_l (List.mem_of_getElem? (i := 2) rfl))))) (fun _ h => h) (z_pS hk h10 rfl rfl) dX10_leastBlack_54 ?_
            refine lv_iload hx hb dX10_leastBlack_57 (lv_at hl 0 rfl) ?_
            refine z_iald (i := (100 + 8 * k + 6)) hx hb hK hW (z_ssj hk h10 (by decide)) (z_ix rfl (by omega) (by omega)) dX10_leastBlack_59 ?_
            refine lv_topi (fun x23 ex23 => ?_)
            have hv24 : zu_rh I k a1.toNatClampNeg ((y12.toInt - 1 - a1.toInt).toNat + 1) = x23.toInt := by unfold zu_rh; rw [ex23, show a1.toNatClampNeg + ((y12.toInt - 1 - a1.toInt).toNat + 1) = y12.toNatClampNeg by omega]
            have hu25 := hg ((y12.toInt - 1 - a1.toInt).toNat + 1) (by omega)
            refine lv_i2l (v := x23.toInt64) hx hb dX10_leastBlack_60 rfl ?_
            refine lv_topl (fun w26 ew26 => ?_)
            have tw26 : w26.toInt = x23.toInt := z_ti2l ew26 rfl
            refine lv_lload hx hb dX10_leastBlack_61 (lv_at hl 1 rfl) ?_
            refine lv_aload_n hx hb dX10_leastBlack_63 rfl (lv_at hl 3 rfl) ?_
            refine z_get (T := TX10) (N := 10) (ci := 10) (i := (100 + 8 * k)) (v := .ref (ad (100 + 8 * k + 7))) hx hb hts zj_X10_leastBlack_X10 hown hK hW (z_ss0 hk h10) rfl 9 (by decide) (hts (.fieldLink RX10 30 "PetrolBoard$Station" "in" "[I") (me_s (me_l (me_l (List.mem_of_getElem? (i := 3) rfl))))) (fun _ h => h) (z_pS hk h10 rfl rfl) dX10_leastBlack_64 ?_
            refine lv_iload hx hb dX10_leastBlack_67 (lv_at hl 0 rfl) ?_
            refine lv_iconst (v := 1) hx hb dX10_leastBlack_69 (by decide) ?_
            refine lv_isub hx hb dX10_leastBlack_70 ?_
            refine lv_topi (fun x27 ex27 => ?_)
            have tx27 : x27.toInt = y12.toInt - 1 := z_tsub ex27 rfl z_l1 (by omega) (by omega)
            refine z_iald (i := (100 + 8 * k + 7)) hx hb hK hW (z_ssj hk h10 (by decide)) (z_ix rfl (by omega) (by omega)) dX10_leastBlack_71 ?_
            refine lv_topi (fun x28 ex28 => ?_)
            have hv29 : zu_rv I k a1.toNatClampNeg (y12.toInt - 1 - a1.toInt).toNat = x28.toInt := by unfold zu_rv; rw [ex28, show a1.toNatClampNeg + (y12.toInt - 1 - a1.toInt).toNat = x27.toNatClampNeg by omega]
            have hu30 := hg (y12.toInt - 1 - a1.toInt).toNat (by omega)
            refine lv_i2l (v := x28.toInt64) hx hb dX10_leastBlack_72 rfl ?_
            refine lv_topl (fun w31 ew31 => ?_)
            have tw31 : w31.toInt = x28.toInt := z_ti2l ew31 rfl
            refine lv_ladd hx hb dX10_leastBlack_73 ?_
            refine lv_topl (fun w32 ew32 => ?_)
            have tw32 : w32.toInt = w13.toInt + x28.toInt := z_tladd ew32 rfl tw31 (by omega) (by omega)
            refine va_mmin_long (x := w26) (y := w32) hx hb (hml.trans hl.1.symm) hown (hts (.methodLink RX10 67 Lib.MathLoose.min_long.x) (me_s (me_l (me_l (List.mem_of_getElem? (i := 4) rfl))))) (hts (.static Lib.MathLoose.min_long.x) (me_s (me_l (me_l (List.mem_of_getElem? (i := 5) rfl))))) (hts (.initialized "java/lang/Math") (me_s (me_l (me_l (List.mem_of_getElem? (i := 6) rfl))))) (hts (.code Lib.MathLoose.min_long.x Lib.MathLoose.min_long.code 4 (some .long)) (me_s (me_l (me_l (List.mem_of_getElem? (i := 7) rfl))))) (Nat.le_of_ble_eq_true rfl) (Nat.le_of_ble_eq_true rfl) (Nat.le_of_ble_eq_true rfl) (Nat.le_of_ble_eq_true rfl) dX10_leastBlack_74 ?_
            refine lv_topl (fun w33 ew33 => ?_)
            have tw33 := z_tlmin ew33 tw26 tw32
            refine lv_lstore (lv' := [(5, .long w33), (7, .int y12), (3, .long w3), (0, .ref (ad (100 + 8 * k))), (1, .int a1), (2, .int a2)]) hx hb dX10_leastBlack_77 hl (by decide) rfl (fun ls hl => ?_)
            obtain ⟨x34, ex34⟩ : ∃ y : Int32, y = y12 + 1 := ⟨_, rfl⟩
            have tx34 : x34.toInt = y12.toInt + 1 := z_tadd ex34 rfl z_l1 (by omega) (by omega)
            refine lv_iinc (v := x34) (lv' := [(7, .int x34), (5, .long w33), (3, .long w3), (0, .ref (ad (100 + 8 * k))), (1, .int a1), (2, .int a2)]) hx hb dX10_leastBlack_79 hl (k := 1) rfl (by rw [ex34]; rfl) (by decide) rfl (fun ls hl => ?_)
            refine lv_goto (tgt := 40) hx hb dX10_leastBlack_82 (by decide) ?_
            exact lp11ih x34 w33 _ _ _ (by omega) (by omega) (by omega) (by omega) ⟨by rw [show (x34.toInt - 1 - a1.toInt).toNat = (y12.toInt - 1 - a1.toInt).toNat + 1 by omega, zu_U, hv24, hv29]; have q9 := lp11U.1; omega, by omega, by omega, by omega, by omega⟩ hW hS (lv_sub hl [0, 1, 2, 3, 4, 5] rfl)
      exact lp11 4294967296 x10 w3 _ _ _ (z_m0u _) (by omega) (by omega) (by omega) ⟨by rw [show (x10.toInt - 1 - a1.toInt).toNat = 0 by omega]; show _ = (zu_B (zu_rl I k a1.toNatClampNeg) (zu_rh I k a1.toNatClampNeg) (zu_rv I k a1.toNatClampNeg) (a2.toNatClampNeg - a1.toNatClampNeg) (a2.toNatClampNeg - a1.toNatClampNeg)); omega, by omega, by omega, by omega, by omega⟩ hW hS (lv_sub hl [0, 1, 2, 3, 4, 5] rfl)
    · have g35 := z_f_eq rfl z_l0 c8
      refine lv_ldc2 (v := (-3)) hx hb hown (hts (.constantLong RX10 62 (-3)) (me_s (me_l (me_l (List.mem_of_getElem? (i := 1) rfl))))) dX10_leastBlack_28 ?_
      exact z_lret hx hb hr hK hS (Nat.le_of_ble_eq_true rfl) (Nat.le_of_ble_eq_true rfl) hlocks dX10_leastBlack_31 (shC c, ad, I, JX, PC c ad) hW ⟨rfl, (by unfold zu_X; rw [if_pos (by omega)]; decide)⟩
  · refine lv_if_ne (tgt := 13) hx hb dX10_leastBlack_6 (by decide) (fun c36 => absurd (by decide) c36) (fun c36 => ?_)
    refine lv_ldc2 (v := (-1)) hx hb hown (hts (.constantLong RX10 53 (-1)) (me_s (me_l (me_l (List.mem_of_getElem? (i := 0) rfl))))) dX10_leastBlack_9 ?_
    exact z_lret hx hb hr hK hS (Nat.le_of_ble_eq_true rfl) (Nat.le_of_ble_eq_true rfl) hlocks dX10_leastBlack_12 (shC c, ad, I, JX, PC c ad) hW ⟨rfl, (by exfalso; omega)⟩
noncomputable def L_X11_sums_u : z_L := [(1000, 999)]
set_option maxHeartbeats 8000000 in
set_option maxRecDepth 100000 in
theorem sx_X11_sums_u (l : Launch) (G : z_G) (ad : Nat → Nat) (c : z_C) (I : z_I) (hO : z_iO I) (hB : z_iB I) (hP : z_iP I) (a1 : Int32) (a2 : Int32) (a3 : Int32) (a4 : Int32) (hc : z_okc c) (h10 : c.1 ≤ 10) (hon : (I 21 2).toInt = (c.2.1 : Int)) (hmo : ∀ j, j < c.2.1 → 0 ≤ (I (200 + 5 * j) 0).toInt) (hsn : (I 0 8).toInt = (c.1 : Int)) (hab : ∀ (t : Int) (q : Nat), 0 ≤ t → q < c.2.1 → 0 ≤ zi_ax c I t q ∧ zi_ax c I t q ≤ 999999) (hTe : ∀ p : Nat, (p : Int) < (I 30 8).toInt → 0 ≤ (I 35 p).toInt ∧ (I 35 p).toInt ≤ 999999) (hDa : ∀ k, k < c.1 → zu_D I k ∧ zu_M I k) (hS0 : z_iS c I) : z_MlS l yX11_sums wsX11_sums { frames := 6, cells := 0, slots := 0, locals := 137 } [.ref (ad 0), .int a1, .int a2, .int a3, .int a4] G (shC c, ad, I, JX, PC c ad) (fun r u1 => ∃ I1 : z_I, u1 = (shC c, ad, I1, JX, PC c ad) ∧ z_iO I1 ∧ z_iB I1 ∧ z_iP I1 ∧ z_fr L_X11_sums_u I1 I ∧ z_iS c I1 ∧ ((((0 ≤ a1.toInt ∧ a1.toInt < (I 0 8).toInt) ∧ ((0 ≤ a2.toInt ∧ a2.toInt < a3.toInt) ∧ a3.toInt < (I (100 + 8 * a1.toNatClampNeg) 4).toInt) ∧ 0 ≤ a4.toInt ∧ a4.toInt ≤ 1) ∧ r.toInt = zu_X (zu_cl c I a1.toNatClampNeg a2.toNatClampNeg) (zu_ch c I a1.toNatClampNeg a2.toNatClampNeg) (zu_cv c I a1.toNatClampNeg a1.toInt a2.toNatClampNeg) (a3.toNatClampNeg - a2.toNatClampNeg) a4.toInt) ∨ (¬ ((0 ≤ a1.toInt ∧ a1.toInt < (I 0 8).toInt) ∧ ((0 ≤ a2.toInt ∧ a2.toInt < a3.toInt) ∧ a3.toInt < (I (100 + 8 * a1.toNatClampNeg) 4).toInt) ∧ 0 ≤ a4.toInt ∧ a4.toInt ≤ 1) ∧ r.toInt = -1))) 0 0 := by
  intro sz
  refine z_headS (cc := cX11_sums) (maxL := 6) (ret := (some .long)) (by decide) rfl (Nat.le_of_ble_eq_true rfl) ?_
  intro p e s m below meth c0 ls hIn hK hsz hW hl hSt
  obtain ⟨hx, hb, hr, hml, hown, hts, hlocks, hname⟩ := hIn
  subst hsz
  have hown : s.vm.findClass RX11 = some m.cls := hown
  have hA : ∀ q : Nat, s.heap.size ≤ q → z_A (shC c, ad, I, JX, PC c ad) s.heap.size q := fun q h => Or.inr h
  generalize hAe : z_A (shC c, ad, I, JX, PC c ad) s.heap.size = A at *
  have hS : va_S A s.heap s.heap [] := va_S.rf
  have hl : lv_has ls 6 [(0, .ref (ad 0)), (1, .int a1), (2, .int a2), (3, .int a3), (4, .int a4)] := hl
  refine lv_aload_n hx hb dX11_sums_0 rfl (lv_at hl 0 rfl) ?_
  refine lv_iload_n hx hb dX11_sums_1 rfl (lv_at hl 1 rfl) ?_
  refine z_cq hW hS hA (va_runV (As := [.int a1]) (rest := []) ⟨hx, hb, hml, hown, hts⟩ (sx_X11_stationAt_e l G ad c I ⟨(by show 0 ≤ (I 0 0).toInt ∧ (I 0 0).toInt ≤ 719; exact hB.1), (by show 0 ≤ (I 0 8).toInt ∧ (I 0 8).toInt ≤ 10; exact hB.2)⟩ a1 hc h10 hsn _) (cwV 1 hts gX11_sums_X11_stationAt rfl rfl rfl (by decide +kernel) ⟨Nat.le_of_ble_eq_true rfl, Nat.le_of_ble_eq_true rfl⟩) (z_preV (i := 0) hK hW rfl rfl) rfl rfl hl.1 rfl (lv_room (Nat.le_of_ble_eq_true rfl)) dX11_sums_2 ⟨Nat.le_of_ble_eq_true rfl, Nat.le_of_ble_eq_true rfl⟩) (fun r u1 H locs hp hW hS => ?_)
  obtain ⟨e9, hp⟩ := hp
  rw [e9] at hW
  rcases hp with ⟨rfl, h2⟩ | ⟨k1, hk1, ek1, h3, rfl⟩
  · refine W.eq (g2 := F0 m 5 ls (.null :: [])) rfl ?_
    refine lv_astoreN (lv' := [(5, .null), (0, .ref (ad 0)), (1, .int a1), (2, .int a2), (3, .int a3), (4, .int a4)]) hx hb dX11_sums_5 hl (by decide) rfl (fun ls hl => ?_)
    refine lv_aloadN hx hb dX11_sums_7 (lv_at hl 0 rfl) ?_
    refine lv_ifnullN (tgt := 32) hx hb dX11_sums_9 (by decide) ?_
    refine lv_ldc2 (v := (-1)) hx hb hown (hts (.constantLong RX11 261 (-1)) (me_s (me_l (me_l (me_l (me_l (me_l (me_l (List.mem_of_getElem? (i := 0) rfl))))))))) dX11_sums_32 ?_
    exact z_lret hx hb hr hK hS (Nat.le_of_ble_eq_true rfl) (Nat.le_of_ble_eq_true rfl) hlocks dX11_sums_35 (shC c, ad, I, JX, PC c ad) hW ⟨I, rfl, (by show 0 ≤ (I 21 2).toInt ∧ (I 21 2).toInt ≤ 12; exact hO), ⟨(by show 0 ≤ (I 0 0).toInt ∧ (I 0 0).toInt ≤ 719; exact hB.1), (by show 0 ≤ (I 0 8).toInt ∧ (I 0 8).toInt ≤ 10; exact hB.2)⟩, (by show 0 ≤ (I 30 8).toInt ∧ (I 30 8).toInt ≤ 300; exact hP), z_fr_0, hS0, (Or.inr ⟨by omega, by decide⟩)⟩
  · refine W.eq (g2 := F0 m 5 ls (.ref (ad (100 + 8 * k1)) :: [])) rfl ?_
    refine lv_astore (lv' := [(5, .ref (ad (100 + 8 * k1))), (0, .ref (ad 0)), (1, .int a1), (2, .int a2), (3, .int a3), (4, .int a4)]) hx hb dX11_sums_5 hl (by decide) rfl (fun ls hl => ?_)
    refine lv_aload hx hb dX11_sums_7 (lv_at hl 0 rfl) ?_
    refine lv_ifnull hx hb dX11_sums_9 ?_
    refine lv_aload hx hb dX11_sums_12 (lv_at hl 0 rfl) ?_
    refine lv_iload_n hx hb dX11_sums_14 rfl (lv_at hl 3 rfl) ?_
    refine lv_iload_n hx hb dX11_sums_15 rfl (lv_at hl 4 rfl) ?_
    refine z_ci hW hS hA (va_runV (As := [.int a2, .int a3]) (rest := []) ⟨hx, hb, hml, hown, hts⟩ (sx_X10_hasSpan_u l G ad c I  k1 a2 a3 hk1 h10  hS0 _) (cwV 2 hts gX11_sums_X10_hasSpan rfl rfl rfl (by decide +kernel) ⟨Nat.le_of_ble_eq_true rfl, Nat.le_of_ble_eq_true rfl⟩) (z_preV (i := (100 + 8 * k1)) hK hW (z_ss0 hk1 h10) rfl) rfl rfl hl.1 rfl (lv_room (Nat.le_of_ble_eq_true rfl)) dX11_sums_16 ⟨Nat.le_of_ble_eq_true rfl, Nat.le_of_ble_eq_true rfl⟩) (fun r u1 H locs hp hW hS => ?_)
    obtain ⟨e9, hp⟩ := hp
    rw [e9] at hW
    rcases hp with ⟨rfl, hs4⟩ | ⟨rfl, hs4⟩
    · refine lv_if_eq (tgt := 32) hx hb dX11_sums_19 (by decide) (fun c5 => absurd c5 (by decide)) (fun c5 => ?_)
      refine lv_iload hx hb dX11_sums_22 (lv_at hl 5 rfl) ?_
      refine lv_iconst (v := 0) hx hb dX11_sums_24 (by decide) ?_
      refine lv_iconst (v := 1) hx hb dX11_sums_25 (by decide) ?_
      refine z_ci hW hS hA (va_runS (As := [.int a4, .int 0, .int 1]) (rest := []) ⟨hx, hb, hml, hown, hts⟩ (sx_X11_within_e l G ad c I  a4 0 1 _) (va_cwS 3 hts gX11_sums_X11_within rfl rfl rfl (by decide +kernel) ⟨Nat.le_of_ble_eq_true rfl, Nat.le_of_ble_eq_true rfl⟩) (z_preS hK hW) rfl rfl hl.1 rfl (lv_room (Nat.le_of_ble_eq_true rfl)) dX11_sums_26 ⟨Nat.le_of_ble_eq_true rfl, Nat.le_of_ble_eq_true rfl⟩) (fun r u1 H locs hp hW hS => ?_)
      obtain ⟨e9, hp⟩ := hp
      rw [e9] at hW
      rcases hp with ⟨rfl, h6⟩ | ⟨rfl, h6⟩
      · have h7 := h6
        have z8 := z_l0
        have z9 := z_l1
        refine lv_if_ne (tgt := 36) hx hb dX11_sums_29 (by decide) (fun c10 => ?_) (fun c10 => absurd c10 (by decide))
        refine lv_aload_n hx hb dX11_sums_36 rfl (lv_at hl 1 rfl) ?_
        refine lv_aload hx hb dX11_sums_37 (lv_at hl 0 rfl) ?_
        refine lv_iload_n hx hb dX11_sums_39 rfl (lv_at hl 2 rfl) ?_
        refine lv_iload_n hx hb dX11_sums_40 rfl (lv_at hl 3 rfl) ?_
        refine lv_iload_n hx hb dX11_sums_41 rfl (lv_at hl 4 rfl) ?_
        refine z_cv hW hS hA (va_runV (As := [.ref (ad (100 + 8 * k1)), .int a1, .int a2, .int a3]) (rest := []) ⟨hx, hb, hml, hown, hts⟩ (sx_X11_putBounds_u l G ad c I (by show 0 ≤ (I 21 2).toInt ∧ (I 21 2).toInt ≤ 12; exact hO) ⟨(by show 0 ≤ (I 0 0).toInt ∧ (I 0 0).toInt ≤ 719; exact hB.1), (by show 0 ≤ (I 0 8).toInt ∧ (I 0 8).toInt ≤ 10; exact hB.2)⟩ (by show 0 ≤ (I 30 8).toInt ∧ (I 30 8).toInt ≤ 300; exact hP) k1 a1 a2 a3 hk1 hc h10 hon hmo hab hTe (hDa k1 hk1).1 (hDa k1 hk1).2 (by omega) (by omega) hS0 _) (cwV 4 hts gX11_sums_X11_putBounds rfl rfl rfl (by decide +kernel) ⟨Nat.le_of_ble_eq_true rfl, Nat.le_of_ble_eq_true rfl⟩) (z_preVS (i := 0) hK hW hS hA hSt rfl rfl) rfl rfl hl.1 rfl (lv_room (Nat.le_of_ble_eq_true rfl)) dX11_sums_42 ⟨Nat.le_of_ble_eq_true rfl, Nat.le_of_ble_eq_true rfl⟩) (fun u1 H locs hp hW hS => ?_)
        obtain ⟨I11, e9, hI11O, hI11B, hI11P, fI11, SI11, hp⟩ := hp
        rw [e9] at hW
        have f12 := z_fr_sub (L := L_X11_sums_u) z_fr_0 fI11 (by decide)
        obtain ⟨hq9, hP9⟩ := hp
        refine lv_iload hx hb dX11_sums_45 (lv_at hl 5 rfl) ?_
        refine lv_if_ne (tgt := 60) hx hb dX11_sums_47 (by decide) (fun c13 => ?_) (fun c13 => ?_)
        · have g14 := z_f_ne rfl z_l0 c13
          refine lv_aload hx hb dX11_sums_60 (lv_at hl 0 rfl) ?_
          refine lv_iload_n hx hb dX11_sums_62 rfl (lv_at hl 3 rfl) ?_
          refine lv_iload_n hx hb dX11_sums_63 rfl (lv_at hl 4 rfl) ?_
          refine z_cl hW hS hA (va_runV (As := [.int a2, .int a3]) (rest := []) ⟨hx, hb, hml, hown, hts⟩ (sx_X10_mostBlack_u l G ad c I11  k1 a2 a3 hk1 h10 (by rw [hq9.1.1.1 k1 4 (by omega)]; omega) (by have cb2 := z_clt (x := a2) rfl (by omega); have cb3 := z_clt (x := a3) rfl (by omega); exact zu_g_P hP9 (hDa k1 hk1).1 hab (by omega) (by omega)) SI11 _) (cwV 2 hts gX11_sums_X10_mostBlack rfl rfl rfl (by decide +kernel) ⟨Nat.le_of_ble_eq_true rfl, Nat.le_of_ble_eq_true rfl⟩) (z_preV (i := (100 + 8 * k1)) hK hW (z_ss0 hk1 h10) rfl) rfl rfl hl.1 rfl (lv_room (Nat.le_of_ble_eq_true rfl)) dX11_sums_64 ⟨Nat.le_of_ble_eq_true rfl, Nat.le_of_ble_eq_true rfl⟩) (fun r u1 H locs hp hW hS => ?_)
          obtain ⟨e9, hp⟩ := hp
          rw [e9] at hW
          refine lv_topl (fun w15 ew15 => ?_)
          rw [← ew15] at hp
          have hr16 := hp
          exact z_lret hx hb hr hK hS (Nat.le_of_ble_eq_true rfl) (Nat.le_of_ble_eq_true rfl) hlocks dX11_sums_67 (shC c, ad, I11, JX, PC c ad) hW ⟨I11, rfl, (by show 0 ≤ (I11 21 2).toInt ∧ (I11 21 2).toInt ≤ 12; exact hI11O), ⟨(by show 0 ≤ (I11 0 0).toInt ∧ (I11 0 0).toInt ≤ 719; exact hI11B.1), (by show 0 ≤ (I11 0 8).toInt ∧ (I11 0 8).toInt ≤ 10; exact hI11B.2)⟩, (by show 0 ≤ (I11 30 8).toInt ∧ (I11 30 8).toInt ≤ 300; exact hI11P), f12, SI11, (Or.inl ⟨by rw [ek1]; omega, by rw [ek1, hr16]; have cb2 := z_clt (x := a2) rfl (by omega); have cb3 := z_clt (x := a3) rfl (by omega); first | (rw [show a4.toInt = 0 by omega]; exact zu_X_P hP9 (by omega)) | (rw [show a4.toInt = 1 by omega]; exact zu_X_P hP9 (by omega))⟩)⟩
        · have g17 := z_f_eq rfl z_l0 c13
          refine lv_aload hx hb dX11_sums_50 (lv_at hl 0 rfl) ?_
          refine lv_iload_n hx hb dX11_sums_52 rfl (lv_at hl 3 rfl) ?_
          refine lv_iload_n hx hb dX11_sums_53 rfl (lv_at hl 4 rfl) ?_
          refine z_cl hW hS hA (va_runV (As := [.int a2, .int a3]) (rest := []) ⟨hx, hb, hml, hown, hts⟩ (sx_X10_leastBlack_u l G ad c I11  k1 a2 a3 hk1 h10 (by rw [hq9.1.1.1 k1 4 (by omega)]; omega) (by have cb2 := z_clt (x := a2) rfl (by omega); have cb3 := z_clt (x := a3) rfl (by omega); exact zu_g_P hP9 (hDa k1 hk1).1 hab (by omega) (by omega)) SI11 _) (cwV 2 hts gX11_sums_X10_leastBlack rfl rfl rfl (by decide +kernel) ⟨Nat.le_of_ble_eq_true rfl, Nat.le_of_ble_eq_true rfl⟩) (z_preV (i := (100 + 8 * k1)) hK hW (z_ss0 hk1 h10) rfl) rfl rfl hl.1 rfl (lv_room (Nat.le_of_ble_eq_true rfl)) dX11_sums_54 ⟨Nat.le_of_ble_eq_true rfl, Nat.le_of_ble_eq_true rfl⟩) (fun r u1 H locs hp hW hS => ?_)
          obtain ⟨e9, hp⟩ := hp
          rw [e9] at hW
          refine lv_topl (fun w18 ew18 => ?_)
          rw [← ew18] at hp
          have hr19 := hp
          refine lv_goto (tgt := 67) hx hb dX11_sums_57 (by decide) ?_
          exact z_lret hx hb hr hK hS (Nat.le_of_ble_eq_true rfl) (Nat.le_of_ble_eq_true rfl) hlocks dX11_sums_67 (shC c, ad, I11, JX, PC c ad) hW ⟨I11, rfl, (by show 0 ≤ (I11 21 2).toInt ∧ (I11 21 2).toInt ≤ 12; exact hI11O), ⟨(by show 0 ≤ (I11 0 0).toInt ∧ (I11 0 0).toInt ≤ 719; exact hI11B.1), (by show 0 ≤ (I11 0 8).toInt ∧ (I11 0 8).toInt ≤ 10; exact hI11B.2)⟩, (by show 0 ≤ (I11 30 8).toInt ∧ (I11 30 8).toInt ≤ 300; exact hI11P), f12, SI11, (Or.inl ⟨by rw [ek1]; omega, by rw [ek1, hr19]; have cb2 := z_clt (x := a2) rfl (by omega); have cb3 := z_clt (x := a3) rfl (by omega); first | (rw [show a4.toInt = 0 by omega]; exact zu_X_P hP9 (by omega)) | (rw [show a4.toInt = 1 by omega]; exact zu_X_P hP9 (by omega))⟩)⟩
      · have h20 := h6
        have z21 := z_l0
        have z22 := z_l1
        refine lv_if_ne (tgt := 36) hx hb dX11_sums_29 (by decide) (fun c23 => absurd (by decide) c23) (fun c23 => ?_)
        refine lv_ldc2 (v := (-1)) hx hb hown (hts (.constantLong RX11 261 (-1)) (me_s (me_l (me_l (me_l (me_l (me_l (me_l (List.mem_of_getElem? (i := 0) rfl))))))))) dX11_sums_32 ?_
        exact z_lret hx hb hr hK hS (Nat.le_of_ble_eq_true rfl) (Nat.le_of_ble_eq_true rfl) hlocks dX11_sums_35 (shC c, ad, I, JX, PC c ad) hW ⟨I, rfl, (by show 0 ≤ (I 21 2).toInt ∧ (I 21 2).toInt ≤ 12; exact hO), ⟨(by show 0 ≤ (I 0 0).toInt ∧ (I 0 0).toInt ≤ 719; exact hB.1), (by show 0 ≤ (I 0 8).toInt ∧ (I 0 8).toInt ≤ 10; exact hB.2)⟩, (by show 0 ≤ (I 30 8).toInt ∧ (I 30 8).toInt ≤ 300; exact hP), z_fr_0, hS0, (Or.inr ⟨by rw [ek1]; omega, by decide⟩)⟩
    · refine lv_if_eq (tgt := 32) hx hb dX11_sums_19 (by decide) (fun c24 => ?_) (fun c24 => absurd (by decide) c24)
      refine lv_ldc2 (v := (-1)) hx hb hown (hts (.constantLong RX11 261 (-1)) (me_s (me_l (me_l (me_l (me_l (me_l (me_l (List.mem_of_getElem? (i := 0) rfl))))))))) dX11_sums_32 ?_
      exact z_lret hx hb hr hK hS (Nat.le_of_ble_eq_true rfl) (Nat.le_of_ble_eq_true rfl) hlocks dX11_sums_35 (shC c, ad, I, JX, PC c ad) hW ⟨I, rfl, (by show 0 ≤ (I 21 2).toInt ∧ (I 21 2).toInt ≤ 12; exact hO), ⟨(by show 0 ≤ (I 0 0).toInt ∧ (I 0 0).toInt ≤ 719; exact hB.1), (by show 0 ≤ (I 0 8).toInt ∧ (I 0 8).toInt ≤ 10; exact hB.2)⟩, (by show 0 ≤ (I 30 8).toInt ∧ (I 30 8).toInt ≤ 300; exact hP), z_fr_0, hS0, (Or.inr ⟨by rw [ek1]; omega, by decide⟩)⟩
set_option maxHeartbeats 8000000 in
set_option maxRecDepth 100000 in
theorem sx_X12_lowOf_u (l : Launch) (G : z_G) (ad : Nat → Nat) (I : z_I) (J : z_J) (hma : z_ima I) (hmb : z_imb I) (hAtf : z_rg 11 0 288 I) (hAtm : z_rg 12 0 24 I) (a1 : Int32) (hab : ∀ (t : Int) (q : Nat), 0 ≤ t → q < (I 0 13).toNatClampNeg → 0 ≤ zi_am I t q ∧ zi_am I t q ≤ 999999) (q1 : 0 ≤ a1.toInt ∧ a1.toInt ≤ 299) (q2 : (0 ≤ (I 48 a1.toNatClampNeg).toInt ∧ (I 48 a1.toNatClampNeg).toInt ≤ 200000) ∧ 0 ≤ (I 49 a1.toNatClampNeg).toInt ∧ (I 49 a1.toNatClampNeg).toInt ≤ 719) : z_Ml l yX12_lowOf wsX12_lowOf { frames := 3, cells := 0, slots := 0, locals := 62 } [.ref (ad 0), .int a1] G (shM, ad, I, J, PM ad) (fun r u1 => u1 = (shM, ad, I, J, PM ad) ∧ (r.toInt = zu_ml I a1.toNatClampNeg ∧ 0 ≤ r.toInt ∧ r.toInt ≤ 200000)) 0 0 := by
  intro sz
  refine z_headQ (cc := cX12_lowOf) (maxL := 4) (ret := (some .long)) (by decide) rfl (Nat.le_of_ble_eq_true rfl) ?_
  intro p e s m below meth c0 ls hIn hK hsz hW hl
  obtain ⟨hx, hb, hr, hml, hown, hts, hlocks, hname⟩ := hIn
  subst hsz
  have hown : s.vm.findClass RX12 = some m.cls := hown
  have hA : ∀ q : Nat, s.heap.size ≤ q → z_A (shM, ad, I, J, PM ad) s.heap.size q := fun q h => Or.inr h
  generalize hAe : z_A (shM, ad, I, J, PM ad) s.heap.size = A at *
  have hS : va_S A s.heap s.heap [] := va_S.rf
  have hl : lv_has ls 4 [(0, .ref (ad 0)), (1, .int a1)] := hl
  refine lv_aload_n hx hb dX12_lowOf_0 rfl (lv_at hl 0 rfl) ?_
  refine z_get (T := TX12) (N := 96) (ci := 12) (i := 0) (v := .ref (ad 48)) hx hb hts zj_X12_lowOf_X12 hown hK hW rfl rfl 71 (by decide) (hts (.fieldLink RX12 160 "PetrolBoardModel" "dipTold" "[I") (me_s (me_l (List.mem_of_getElem? (i := 0) rfl)))) (fun _ h => h) rfl dX12_lowOf_1 ?_
  refine lv_iload_n hx hb dX12_lowOf_4 rfl (lv_at hl 1 rfl) ?_
  refine z_iald (i := 48) hx hb hK hW rfl (z_ix rfl (by omega) (by omega)) dX12_lowOf_5 ?_
  refine lv_topi (fun x1 ex1 => ?_)
  have hv2 : (I 48 a1.toNatClampNeg).toInt = x1.toInt := by rw [ex1]
  refine lv_i2l (v := x1.toInt64) hx hb dX12_lowOf_6 rfl ?_
  refine lv_topl (fun w3 ew3 => ?_)
  have tw3 : w3.toInt = x1.toInt := z_ti2l ew3 rfl
  refine lv_aload_n hx hb dX12_lowOf_7 rfl (lv_at hl 0 rfl) ?_
  refine lv_aload_n hx hb dX12_lowOf_8 rfl (lv_at hl 0 rfl) ?_
  refine z_get (T := TX12) (N := 96) (ci := 12) (i := 0) (v := .ref (ad 49)) hx hb hts zj_X12_lowOf_X12 hown hK hW rfl rfl 72 (by decide) (hts (.fieldLink RX12 163 "PetrolBoardModel" "dipDay" "[I") (me_s (me_l (List.mem_of_getElem? (i := 1) rfl)))) (fun _ h => h) rfl dX12_lowOf_9 ?_
  refine lv_iload_n hx hb dX12_lowOf_12 rfl (lv_at hl 1 rfl) ?_
  refine z_iald (i := 49) hx hb hK hW rfl (z_ix rfl (by omega) (by omega)) dX12_lowOf_13 ?_
  refine lv_topi (fun x4 ex4 => ?_)
  have hv5 : (I 49 a1.toNatClampNeg).toInt = x4.toInt := by rw [ex4]
  refine lv_bipush (v := 30) hx hb dX12_lowOf_14 (by decide) ?_
  refine lv_idiv hx hb dX12_lowOf_16 (by decide) ?_
  refine lv_topi (fun x6 ex6 => ?_)
  have tx6 := z_tdiv ex6 rfl z_l30 (by decide)
  refine lv_aload_n hx hb dX12_lowOf_17 rfl (lv_at hl 0 rfl) ?_
  have r7 : 0 ≤ (I 0 0).toInt ∧ (I 0 0).toInt ≤ 719 := hma.1
  refine z_get (T := TX12) (N := 96) (ci := 12) (i := 0) (v := .int (I 0 0)) hx hb hts zj_X12_lowOf_X12 hown hK hW rfl rfl 0 (by decide) (hts (.fieldLink RX12 232 "PetrolBoardModel" "today" "I") (me_s (me_l (List.mem_of_getElem? (i := 2) rfl)))) (fun _ h => h) rfl dX12_lowOf_18 ?_
  refine lv_bipush (v := 7) hx hb dX12_lowOf_21 (by decide) ?_
  refine z_ci hW hS hA (va_runV (As := [.int x6, .int (I 0 0), .int 7]) (rest := [.long w3]) ⟨hx, hb, hml, hown, hts⟩ (sx_X12_number_x l G ad I J ⟨(by show 0 ≤ (I 0 13).toInt ∧ (I 0 13).toInt ≤ 12; exact hmb.1), (by show 0 ≤ (I 0 14).toInt ∧ (I 0 14).toInt ≤ 288; exact hmb.2)⟩ hAtf hAtm x6 (I 0 0) 7 (by decide) _) (cwV 3 hts gX12_lowOf_X12_number rfl rfl rfl (by decide +kernel) ⟨Nat.le_of_ble_eq_true rfl, Nat.le_of_ble_eq_true rfl⟩) (z_preV (i := 0) hK hW rfl rfl) rfl rfl hl.1 rfl (lv_room (Nat.le_of_ble_eq_true rfl)) dX12_lowOf_23 ⟨Nat.le_of_ble_eq_true rfl, Nat.le_of_ble_eq_true rfl⟩) (fun r u1 H locs hp hW hS => ?_)
  obtain ⟨e9, hp⟩ := hp
  rw [e9] at hW
  refine lv_topi (fun x8 ex8 => ?_)
  rw [← ex8, show (7 : Int32).toInt - 3 = 4 by decide] at hp
  have hb10 := zu_R_b hp (fun q hq => hab 4 q (by decide) hq)
  have hM9 : x8.toInt = zu_md I a1.toNatClampNeg := by rw [zb_f_e hp]; show zb_am I 4 x6.toInt _ = _; unfold zu_md; rw [show x6.toInt = (I 49 a1.toNatClampNeg).toInt / 30 by omega]
  refine lv_i2l (v := x8.toInt64) hx hb dX12_lowOf_26 rfl ?_
  refine lv_topl (fun w11 ew11 => ?_)
  have tw11 : w11.toInt = x8.toInt := z_ti2l ew11 rfl
  refine lv_lsub hx hb dX12_lowOf_27 ?_
  refine lv_topl (fun w12 ew12 => ?_)
  have tw12 : w12.toInt = x1.toInt - x8.toInt := z_tlsub ew12 tw3 tw11 (by omega) (by omega)
  refine lv_lstore_n (lv' := [(2, .long w12), (0, .ref (ad 0)), (1, .int a1)]) hx hb dX12_lowOf_28 rfl hl (by decide) rfl (fun ls hl => ?_)
  refine lv_lload_n hx hb dX12_lowOf_29 rfl (lv_at hl 0 rfl) ?_
  refine lv_lconst (v := 0) hx hb dX12_lowOf_30 (by decide) ?_
  refine W.lcmp hx hb dX12_lowOf_31 ?_
  refine lv_topi (fun x13 ex13 => ?_)
  have tx13 := z_tcmp ex13
  have h14 := z_tlcmp ex13 tw12 (show (0 : Int64).toInt = 0 by decide)
  refine lv_if_ge (tgt := 39) hx hb dX12_lowOf_32 (by decide) (fun c15 => ?_) (fun c15 => ?_)
  · have g16 := z_f_ge rfl z_l0 c15
    refine lv_lload_n hx hb dX12_lowOf_39 rfl (lv_at hl 0 rfl) ?_
    exact z_lret hx hb hr hK hS (Nat.le_of_ble_eq_true rfl) (Nat.le_of_ble_eq_true rfl) hlocks dX12_lowOf_40 (shM, ad, I, J, PM ad) hW ⟨rfl, (by have q0 : (0 : Int64).toInt = 0 := (by decide); exact ⟨by unfold zu_ml; omega, by omega, by omega⟩)⟩
  · have g17 := z_f_nge rfl z_l0 c15
    refine lv_lconst (v := 0) hx hb dX12_lowOf_35 (by decide) ?_
    refine lv_goto (tgt := 40) hx hb dX12_lowOf_36 (by decide) ?_
    exact z_lret hx hb hr hK hS (Nat.le_of_ble_eq_true rfl) (Nat.le_of_ble_eq_true rfl) hlocks dX12_lowOf_40 (shM, ad, I, J, PM ad) hW ⟨rfl, (by have q0 : (0 : Int64).toInt = 0 := (by decide); exact ⟨by unfold zu_ml; omega, by omega, by omega⟩)⟩
set_option maxHeartbeats 8000000 in
set_option maxRecDepth 100000 in
theorem sx_X12_highOf_u (l : Launch) (G : z_G) (ad : Nat → Nat) (I : z_I) (J : z_J) (hma : z_ima I) (hmb : z_imb I) (hAtf : z_rg 11 0 288 I) (hAtm : z_rg 12 0 24 I) (a1 : Int32) (hab : ∀ (t : Int) (q : Nat), 0 ≤ t → q < (I 0 13).toNatClampNeg → 0 ≤ zi_am I t q ∧ zi_am I t q ≤ 999999) (q1 : 0 ≤ a1.toInt ∧ a1.toInt ≤ 299) (q2 : (0 ≤ (I 48 a1.toNatClampNeg).toInt ∧ (I 48 a1.toNatClampNeg).toInt ≤ 200000) ∧ 0 ≤ (I 49 a1.toNatClampNeg).toInt ∧ (I 49 a1.toNatClampNeg).toInt ≤ 719) : z_Ml l yX12_highOf wsX12_highOf { frames := 3, cells := 0, slots := 0, locals := 62 } [.ref (ad 0), .int a1] G (shM, ad, I, J, PM ad) (fun r u1 => u1 = (shM, ad, I, J, PM ad) ∧ (r.toInt = zu_mh I a1.toNatClampNeg ∧ 0 ≤ r.toInt ∧ r.toInt ≤ 1199999)) 0 0 := by
  intro sz
  refine z_headQ (cc := cX12_highOf) (maxL := 2) (ret := (some .long)) (by decide) rfl (Nat.le_of_ble_eq_true rfl) ?_
  intro p e s m below meth c0 ls hIn hK hsz hW hl
  obtain ⟨hx, hb, hr, hml, hown, hts, hlocks, hname⟩ := hIn
  subst hsz
  have hown : s.vm.findClass RX12 = some m.cls := hown
  have hA : ∀ q : Nat, s.heap.size ≤ q → z_A (shM, ad, I, J, PM ad) s.heap.size q := fun q h => Or.inr h
  generalize hAe : z_A (shM, ad, I, J, PM ad) s.heap.size = A at *
  have hS : va_S A s.heap s.heap [] := va_S.rf
  have hl : lv_has ls 2 [(0, .ref (ad 0)), (1, .int a1)] := hl
  refine lv_aload_n hx hb dX12_highOf_0 rfl (lv_at hl 0 rfl) ?_
  refine z_get (T := TX12) (N := 96) (ci := 12) (i := 0) (v := .ref (ad 48)) hx hb hts zj_X12_highOf_X12 hown hK hW rfl rfl 71 (by decide) (hts (.fieldLink RX12 160 "PetrolBoardModel" "dipTold" "[I") (me_s (me_l (List.mem_of_getElem? (i := 0) rfl)))) (fun _ h => h) rfl dX12_highOf_1 ?_
  refine lv_iload_n hx hb dX12_highOf_4 rfl (lv_at hl 1 rfl) ?_
  refine z_iald (i := 48) hx hb hK hW rfl (z_ix rfl (by omega) (by omega)) dX12_highOf_5 ?_
  refine lv_topi (fun x1 ex1 => ?_)
  have hv2 : (I 48 a1.toNatClampNeg).toInt = x1.toInt := by rw [ex1]
  refine lv_i2l (v := x1.toInt64) hx hb dX12_highOf_6 rfl ?_
  refine lv_topl (fun w3 ew3 => ?_)
  have tw3 : w3.toInt = x1.toInt := z_ti2l ew3 rfl
  refine lv_aload_n hx hb dX12_highOf_7 rfl (lv_at hl 0 rfl) ?_
  refine lv_aload_n hx hb dX12_highOf_8 rfl (lv_at hl 0 rfl) ?_
  refine z_get (T := TX12) (N := 96) (ci := 12) (i := 0) (v := .ref (ad 49)) hx hb hts zj_X12_highOf_X12 hown hK hW rfl rfl 72 (by decide) (hts (.fieldLink RX12 163 "PetrolBoardModel" "dipDay" "[I") (me_s (me_l (List.mem_of_getElem? (i := 1) rfl)))) (fun _ h => h) rfl dX12_highOf_9 ?_
  refine lv_iload_n hx hb dX12_highOf_12 rfl (lv_at hl 1 rfl) ?_
  refine z_iald (i := 49) hx hb hK hW rfl (z_ix rfl (by omega) (by omega)) dX12_highOf_13 ?_
  refine lv_topi (fun x4 ex4 => ?_)
  have hv5 : (I 49 a1.toNatClampNeg).toInt = x4.toInt := by rw [ex4]
  refine lv_bipush (v := 30) hx hb dX12_highOf_14 (by decide) ?_
  refine lv_idiv hx hb dX12_highOf_16 (by decide) ?_
  refine lv_topi (fun x6 ex6 => ?_)
  have tx6 := z_tdiv ex6 rfl z_l30 (by decide)
  refine lv_aload_n hx hb dX12_highOf_17 rfl (lv_at hl 0 rfl) ?_
  have r7 : 0 ≤ (I 0 0).toInt ∧ (I 0 0).toInt ≤ 719 := hma.1
  refine z_get (T := TX12) (N := 96) (ci := 12) (i := 0) (v := .int (I 0 0)) hx hb hts zj_X12_highOf_X12 hown hK hW rfl rfl 0 (by decide) (hts (.fieldLink RX12 232 "PetrolBoardModel" "today" "I") (me_s (me_l (List.mem_of_getElem? (i := 2) rfl)))) (fun _ h => h) rfl dX12_highOf_18 ?_
  refine lv_bipush (v := 7) hx hb dX12_highOf_21 (by decide) ?_
  refine z_ci hW hS hA (va_runV (As := [.int x6, .int (I 0 0), .int 7]) (rest := [.long w3]) ⟨hx, hb, hml, hown, hts⟩ (sx_X12_number_x l G ad I J ⟨(by show 0 ≤ (I 0 13).toInt ∧ (I 0 13).toInt ≤ 12; exact hmb.1), (by show 0 ≤ (I 0 14).toInt ∧ (I 0 14).toInt ≤ 288; exact hmb.2)⟩ hAtf hAtm x6 (I 0 0) 7 (by decide) _) (cwV 3 hts gX12_highOf_X12_number rfl rfl rfl (by decide +kernel) ⟨Nat.le_of_ble_eq_true rfl, Nat.le_of_ble_eq_true rfl⟩) (z_preV (i := 0) hK hW rfl rfl) rfl rfl hl.1 rfl (lv_room (Nat.le_of_ble_eq_true rfl)) dX12_highOf_23 ⟨Nat.le_of_ble_eq_true rfl, Nat.le_of_ble_eq_true rfl⟩) (fun r u1 H locs hp hW hS => ?_)
  obtain ⟨e9, hp⟩ := hp
  rw [e9] at hW
  refine lv_topi (fun x8 ex8 => ?_)
  rw [← ex8, show (7 : Int32).toInt - 3 = 4 by decide] at hp
  have hb10 := zu_R_b hp (fun q hq => hab 4 q (by decide) hq)
  have hM9 : x8.toInt = zu_md I a1.toNatClampNeg := by rw [zb_f_e hp]; show zb_am I 4 x6.toInt _ = _; unfold zu_md; rw [show x6.toInt = (I 49 a1.toNatClampNeg).toInt / 30 by omega]
  refine lv_i2l (v := x8.toInt64) hx hb dX12_highOf_26 rfl ?_
  refine lv_topl (fun w11 ew11 => ?_)
  have tw11 : w11.toInt = x8.toInt := z_ti2l ew11 rfl
  refine lv_ladd hx hb dX12_highOf_27 ?_
  refine lv_topl (fun w12 ew12 => ?_)
  have tw12 : w12.toInt = x1.toInt + x8.toInt := z_tladd ew12 tw3 tw11 (by omega) (by omega)
  exact z_lret hx hb hr hK hS (Nat.le_of_ble_eq_true rfl) (Nat.le_of_ble_eq_true rfl) hlocks dX12_highOf_28 (shM, ad, I, J, PM ad) hW ⟨rfl, (by have q0 : (0 : Int64).toInt = 0 := (by decide); exact ⟨by unfold zu_mh; omega, by omega, by omega⟩)⟩
set_option maxHeartbeats 8000000 in
set_option maxRecDepth 100000 in
theorem sx_X12_sums_u (l : Launch) (G : z_G) (ad : Nat → Nat) (I : z_I) (J : z_J) (hms : z_ims I) (hma : z_ima I) (hAgm : z_rg 43 0 30 I) (hAdm : z_rg 47 0 30 I) (hmb : z_imb I) (hAtf : z_rg 11 0 288 I) (hAtm : z_rg 12 0 24 I) (a1 : Int32) (a2 : Int32) (a3 : Int32) (a4 : Int32) (hab : ∀ (t : Int) (q : Nat), 0 ≤ t → q < (I 0 13).toNatClampNeg → 0 ≤ zi_am I t q ∧ zi_am I t q ≤ 999999) (hTe : ∀ p : Nat, (p : Int) < (I 0 55).toInt → 0 ≤ (I 38 p).toInt ∧ (I 38 p).toInt ≤ 999999) (hGv : ∀ s : Nat, s < 10 → ∀ g : Nat, (g : Int) < (I 43 s).toInt → 0 ≤ (I 45 (30 * s + g)).toInt ∧ (I 45 (30 * s + g)).toInt ≤ 100000) (hDm : ∀ s : Nat, s < 10 → ∀ k : Nat, (k : Int) < (I 47 s).toInt → 0 ≤ (I 49 (30 * s + k)).toInt ∧ (I 49 (30 * s + k)).toInt ≤ 719) (hTo : ∀ s : Nat, s < 10 → ∀ k : Nat, (k : Int) < (I 47 s).toInt → 0 ≤ (I 48 (30 * s + k)).toInt ∧ (I 48 (30 * s + k)).toInt ≤ 200000) : z_Ml l yX12_sums_ wsX12_sums_ { frames := 4, cells := 0, slots := 0, locals := 89 } [.ref (ad 0), .int a1, .int a2, .int a3, .int a4] G (shM, ad, I, J, PM ad) (fun r u1 => u1 = (shM, ad, I, J, PM ad) ∧ ((((0 ≤ a1.toInt ∧ a1.toInt < (I 0 54).toInt) ∧ ((0 ≤ a2.toInt ∧ a2.toInt < a3.toInt) ∧ a3.toInt < (I 47 a1.toNatClampNeg).toInt) ∧ 0 ≤ a4.toInt ∧ a4.toInt ≤ 1) ∧ zu_Y (zu_kl I a1.toNatClampNeg a2.toNatClampNeg) (zu_kh I a1.toNatClampNeg a2.toNatClampNeg) (zu_kv I a1.toNatClampNeg a2.toNatClampNeg) (a3.toNatClampNeg - a2.toNatClampNeg) a4.toInt r.toInt) ∨ (¬ ((0 ≤ a1.toInt ∧ a1.toInt < (I 0 54).toInt) ∧ ((0 ≤ a2.toInt ∧ a2.toInt < a3.toInt) ∧ a3.toInt < (I 47 a1.toNatClampNeg).toInt) ∧ 0 ≤ a4.toInt ∧ a4.toInt ≤ 1) ∧ r.toInt = -1))) 0 0 := by
  intro sz
  refine z_headQ (cc := cX12_sums_) (maxL := 18) (ret := (some .long)) (by decide) rfl (Nat.le_of_ble_eq_true rfl) ?_
  intro p e s m below meth c0 ls hIn hK hsz hW hl
  obtain ⟨hx, hb, hr, hml, hown, hts, hlocks, hname⟩ := hIn
  subst hsz
  have hown : s.vm.findClass RX12 = some m.cls := hown
  have hA : ∀ q : Nat, s.heap.size ≤ q → z_A (shM, ad, I, J, PM ad) s.heap.size q := fun q h => Or.inr h
  generalize hAe : z_A (shM, ad, I, J, PM ad) s.heap.size = A at *
  have hS : va_S A s.heap s.heap [] := va_S.rf
  have hl : lv_has ls 18 [(0, .ref (ad 0)), (1, .int a1), (2, .int a2), (3, .int a3), (4, .int a4)] := hl
  refine lv_aload_n hx hb dX12_sums__0 rfl (lv_at hl 0 rfl) ?_
  refine lv_iload_n hx hb dX12_sums__1 rfl (lv_at hl 1 rfl) ?_
  refine z_ci hW hS hA (va_runV (As := [.int a1]) (rest := []) ⟨hx, hb, hml, hown, hts⟩ (sx_X12_isStation_e l G ad I J ⟨(by show 0 ≤ (I 0 54).toInt ∧ (I 0 54).toInt ≤ 10; exact hms.1), (by show 0 ≤ (I 0 55).toInt ∧ (I 0 55).toInt ≤ 300; exact hms.2)⟩ a1 _) (cwV 1 hts gX12_sums__X12_isStation rfl rfl rfl (by decide +kernel) ⟨Nat.le_of_ble_eq_true rfl, Nat.le_of_ble_eq_true rfl⟩) (z_preV (i := 0) hK hW rfl rfl) rfl rfl hl.1 rfl (lv_room (Nat.le_of_ble_eq_true rfl)) dX12_sums__2 ⟨Nat.le_of_ble_eq_true rfl, Nat.le_of_ble_eq_true rfl⟩) (fun r u1 H locs hp hW hS => ?_)
  obtain ⟨e9, hp⟩ := hp
  rw [e9] at hW
  rcases hp with ⟨rfl, h1⟩ | ⟨rfl, h1⟩
  · have h2 := h1
    have r3 : 0 ≤ (I 0 54).toInt ∧ (I 0 54).toInt ≤ 10 := hms.1
    refine lv_if_eq (tgt := 37) hx hb dX12_sums__5 (by decide) (fun c4 => absurd c4 (by decide)) (fun c4 => ?_)
    refine lv_iload_n hx hb dX12_sums__8 rfl (lv_at hl 2 rfl) ?_
    refine lv_if_lt (tgt := 37) hx hb dX12_sums__9 (by decide) (fun c5 => ?_) (fun c5 => ?_)
    · have g6 := z_f_lt rfl z_l0 c5
      have b7 := Int32.toInt_lt a2
      refine lv_ldc2 (v := (-1)) hx hb hown (hts (.constantLong RX12 269 (-1)) (me_s (me_l (me_l (List.mem_of_getElem? (i := 1) rfl))))) dX12_sums__37 ?_
      exact z_lret hx hb hr hK hS (Nat.le_of_ble_eq_true rfl) (Nat.le_of_ble_eq_true rfl) hlocks dX12_sums__40 (shM, ad, I, J, PM ad) hW ⟨rfl, (Or.inr ⟨by omega, by decide⟩)⟩
    · have g8 := z_f_nlt rfl z_l0 c5
      have b9 := Int32.toInt_lt a2
      refine lv_iload_n hx hb dX12_sums__12 rfl (lv_at hl 3 rfl) ?_
      refine lv_iload_n hx hb dX12_sums__13 rfl (lv_at hl 2 rfl) ?_
      refine lv_icmp_le (tgt := 37) hx hb dX12_sums__14 (by decide) (fun c10 => ?_) (fun c10 => ?_)
      · have g11 := z_f_le rfl rfl c10
        have b12 := Int32.toInt_lt a3
        refine lv_ldc2 (v := (-1)) hx hb hown (hts (.constantLong RX12 269 (-1)) (me_s (me_l (me_l (List.mem_of_getElem? (i := 1) rfl))))) dX12_sums__37 ?_
        exact z_lret hx hb hr hK hS (Nat.le_of_ble_eq_true rfl) (Nat.le_of_ble_eq_true rfl) hlocks dX12_sums__40 (shM, ad, I, J, PM ad) hW ⟨rfl, (Or.inr ⟨by omega, by decide⟩)⟩
      · have g13 := z_f_nle rfl rfl c10
        have b14 := Int32.toInt_lt a3
        refine lv_iload_n hx hb dX12_sums__17 rfl (lv_at hl 3 rfl) ?_
        refine lv_aload_n hx hb dX12_sums__18 rfl (lv_at hl 0 rfl) ?_
        refine z_get (T := TX12) (N := 96) (ci := 12) (i := 0) (v := .ref (ad 47)) hx hb hts zj_X12_sums__X12 hown hK hW rfl rfl 70 (by decide) (hts (.fieldLink RX12 157 "PetrolBoardModel" "dipMany" "[I") (me_s (me_l (me_l (List.mem_of_getElem? (i := 0) rfl))))) (fun _ h => h) rfl dX12_sums__19 ?_
        refine lv_iload_n hx hb dX12_sums__22 rfl (lv_at hl 1 rfl) ?_
        refine z_iald (i := 47) hx hb hK hW rfl (z_ix rfl (by omega) (by omega)) dX12_sums__23 ?_
        refine lv_topi (fun x15 ex15 => ?_)
        have h16 : 0 ≤ x15.toInt ∧ x15.toInt ≤ 30 := by rw [ex15]; exact hAdm _
        have hv17 : (I 47 a1.toNatClampNeg).toInt = x15.toInt := by rw [ex15]
        refine lv_icmp_ge (tgt := 37) hx hb dX12_sums__24 (by decide) (fun c18 => ?_) (fun c18 => ?_)
        · have g19 := z_f_ge rfl rfl c18
          refine lv_ldc2 (v := (-1)) hx hb hown (hts (.constantLong RX12 269 (-1)) (me_s (me_l (me_l (List.mem_of_getElem? (i := 1) rfl))))) dX12_sums__37 ?_
          exact z_lret hx hb hr hK hS (Nat.le_of_ble_eq_true rfl) (Nat.le_of_ble_eq_true rfl) hlocks dX12_sums__40 (shM, ad, I, J, PM ad) hW ⟨rfl, (Or.inr ⟨by omega, by decide⟩)⟩
        · have g20 := z_f_nge rfl rfl c18
          refine lv_iload hx hb dX12_sums__27 (lv_at hl 4 rfl) ?_
          refine lv_iconst (v := 0) hx hb dX12_sums__29 (by decide) ?_
          refine lv_iconst (v := 1) hx hb dX12_sums__30 (by decide) ?_
          refine z_ci hW hS hA (va_runS (As := [.int a4, .int 0, .int 1]) (rest := []) ⟨hx, hb, hml, hown, hts⟩ (sx_X12_within_e l G ad I J  a4 0 1 _) (va_cwS 3 hts gX12_sums__X12_within rfl rfl rfl (by decide +kernel) ⟨Nat.le_of_ble_eq_true rfl, Nat.le_of_ble_eq_true rfl⟩) (z_preS hK hW) rfl rfl hl.1 rfl (lv_room (Nat.le_of_ble_eq_true rfl)) dX12_sums__31 ⟨Nat.le_of_ble_eq_true rfl, Nat.le_of_ble_eq_true rfl⟩) (fun r u1 H locs hp hW hS => ?_)
          obtain ⟨e9, hp⟩ := hp
          rw [e9] at hW
          rcases hp with ⟨rfl, h21⟩ | ⟨rfl, h21⟩
          · have h22 := h21
            have z23 := z_l0
            have z24 := z_l1
            refine lv_if_ne (tgt := 41) hx hb dX12_sums__34 (by decide) (fun c25 => ?_) (fun c25 => absurd c25 (by decide))
            refine lv_bipush (v := 30) hx hb dX12_sums__41 (by decide) ?_
            refine lv_iload_n hx hb dX12_sums__43 rfl (lv_at hl 1 rfl) ?_
            refine lv_imul hx hb dX12_sums__44 ?_
            refine lv_topi (fun x26 ex26 => ?_)
            have tx26 : x26.toInt = 30 * a1.toInt := z_tmul ex26 z_l30 rfl (by omega) (by omega)
            refine lv_istore (lv' := [(5, .int x26), (0, .ref (ad 0)), (1, .int a1), (2, .int a2), (3, .int a3), (4, .int a4)]) hx hb dX12_sums__45 hl (by decide) rfl (fun ls hl => ?_)
            refine lv_aload_n hx hb dX12_sums__47 rfl (lv_at hl 1 rfl) ?_
            refine lv_iload hx hb dX12_sums__48 (lv_at hl 0 rfl) ?_
            refine lv_iload_n hx hb dX12_sums__50 rfl (lv_at hl 3 rfl) ?_
            refine lv_iadd hx hb dX12_sums__51 ?_
            refine lv_topi (fun x27 ex27 => ?_)
            have tx27 : x27.toInt = x26.toInt + a2.toInt := z_tadd ex27 rfl rfl (by omega) (by omega)
            refine z_cl hW hS hA (va_runV (As := [.int x27]) (rest := []) ⟨hx, hb, hml, hown, hts⟩ (sx_X12_highOf_u l G ad I J ⟨(by show 0 ≤ (I 0 0).toInt ∧ (I 0 0).toInt ≤ 719; exact hma.1), (by show 0 ≤ (I 0 1).toInt ∧ (I 0 1).toInt ≤ 30; exact hma.2.1), (by show 0 ≤ (I 0 2).toInt ∧ (I 0 2).toInt ≤ 200; exact hma.2.2)⟩ ⟨(by show 0 ≤ (I 0 13).toInt ∧ (I 0 13).toInt ≤ 12; exact hmb.1), (by show 0 ≤ (I 0 14).toInt ∧ (I 0 14).toInt ≤ 288; exact hmb.2)⟩ hAtf hAtm x27 hab (by omega) (by have c1 := z_clt (x := a1) rfl (by omega); have c2 := z_clt (x := a2) rfl (by omega); have c3 := z_clt (x := a3) rfl (by omega); have c4 := z_clt (x := x27) rfl (by omega); rw [show x27.toNatClampNeg = 30 * a1.toNatClampNeg + a2.toNatClampNeg by omega]; exact ⟨hTo a1.toNatClampNeg (by omega) a2.toNatClampNeg (by omega), hDm a1.toNatClampNeg (by omega) a2.toNatClampNeg (by omega)⟩) _) (cwV 1 hts gX12_sums__X12_highOf rfl rfl rfl (by decide +kernel) ⟨Nat.le_of_ble_eq_true rfl, Nat.le_of_ble_eq_true rfl⟩) (z_preV (i := 0) hK hW rfl rfl) rfl rfl hl.1 rfl (lv_room (Nat.le_of_ble_eq_true rfl)) dX12_sums__52 ⟨Nat.le_of_ble_eq_true rfl, Nat.le_of_ble_eq_true rfl⟩) (fun r u1 H locs hp hW hS => ?_)
            obtain ⟨e9, hp⟩ := hp
            rw [e9] at hW
            refine lv_topl (fun w28 ew28 => ?_)
            rw [← ew28] at hp
            have hb30 := hp.2
            have hl29 : zu_kh I a1.toNatClampNeg a2.toNatClampNeg 0 = w28.toInt := by have c1 := z_clt (x := a1) rfl (by omega); have c2 := z_clt (x := a2) rfl (by omega); have c3 := z_clt (x := a3) rfl (by omega); have c4 := z_clt (x := x27) rfl (by omega); unfold zu_kh; rw [show 30 * a1.toNatClampNeg + (a2.toNatClampNeg + 0) = x27.toNatClampNeg by omega]; exact hp.1.symm
            refine lv_lstore (lv' := [(6, .long w28), (5, .int x26), (0, .ref (ad 0)), (1, .int a1), (2, .int a2), (3, .int a3), (4, .int a4)]) hx hb dX12_sums__55 hl (by decide) rfl (fun ls hl => ?_)
            refine lv_aload_n hx hb dX12_sums__57 rfl (lv_at hl 2 rfl) ?_
            refine lv_iload hx hb dX12_sums__58 (lv_at hl 1 rfl) ?_
            refine lv_iload_n hx hb dX12_sums__60 rfl (lv_at hl 4 rfl) ?_
            refine lv_iadd hx hb dX12_sums__61 ?_
            refine lv_topi (fun x31 ex31 => ?_)
            have tx31 : x31.toInt = x26.toInt + a2.toInt := z_tadd ex31 rfl rfl (by omega) (by omega)
            refine z_cl hW hS hA (va_runV (As := [.int x31]) (rest := []) ⟨hx, hb, hml, hown, hts⟩ (sx_X12_lowOf_u l G ad I J ⟨(by show 0 ≤ (I 0 0).toInt ∧ (I 0 0).toInt ≤ 719; exact hma.1), (by show 0 ≤ (I 0 1).toInt ∧ (I 0 1).toInt ≤ 30; exact hma.2.1), (by show 0 ≤ (I 0 2).toInt ∧ (I 0 2).toInt ≤ 200; exact hma.2.2)⟩ ⟨(by show 0 ≤ (I 0 13).toInt ∧ (I 0 13).toInt ≤ 12; exact hmb.1), (by show 0 ≤ (I 0 14).toInt ∧ (I 0 14).toInt ≤ 288; exact hmb.2)⟩ hAtf hAtm x31 hab (by omega) (by have c1 := z_clt (x := a1) rfl (by omega); have c2 := z_clt (x := a2) rfl (by omega); have c3 := z_clt (x := a3) rfl (by omega); have c4 := z_clt (x := x31) rfl (by omega); rw [show x31.toNatClampNeg = 30 * a1.toNatClampNeg + a2.toNatClampNeg by omega]; exact ⟨hTo a1.toNatClampNeg (by omega) a2.toNatClampNeg (by omega), hDm a1.toNatClampNeg (by omega) a2.toNatClampNeg (by omega)⟩) _) (cwV 1 hts gX12_sums__X12_lowOf rfl rfl rfl (by decide +kernel) ⟨Nat.le_of_ble_eq_true rfl, Nat.le_of_ble_eq_true rfl⟩) (z_preV (i := 0) hK hW rfl rfl) rfl rfl hl.1 rfl (lv_room (Nat.le_of_ble_eq_true rfl)) dX12_sums__62 ⟨Nat.le_of_ble_eq_true rfl, Nat.le_of_ble_eq_true rfl⟩) (fun r u1 H locs hp hW hS => ?_)
            obtain ⟨e9, hp⟩ := hp
            rw [e9] at hW
            refine lv_topl (fun w32 ew32 => ?_)
            rw [← ew32] at hp
            have hb34 := hp.2
            have hl33 : zu_kl I a1.toNatClampNeg a2.toNatClampNeg 0 = w32.toInt := by have c1 := z_clt (x := a1) rfl (by omega); have c2 := z_clt (x := a2) rfl (by omega); have c3 := z_clt (x := a3) rfl (by omega); have c4 := z_clt (x := x31) rfl (by omega); unfold zu_kl; rw [show 30 * a1.toNatClampNeg + (a2.toNatClampNeg + 0) = x31.toNatClampNeg by omega]; exact hp.1.symm
            refine lv_lstore (lv' := [(8, .long w32), (6, .long w28), (5, .int x26), (0, .ref (ad 0)), (1, .int a1), (2, .int a2), (3, .int a3), (4, .int a4)]) hx hb dX12_sums__65 hl (by decide) rfl (fun ls hl => ?_)
            refine lv_lconst (v := 0) hx hb dX12_sums__67 (by decide) ?_
            refine lv_lstore (lv' := [(10, .long 0), (8, .long w32), (6, .long w28), (5, .int x26), (0, .ref (ad 0)), (1, .int a1), (2, .int a2), (3, .int a3), (4, .int a4)]) hx hb dX12_sums__68 hl (by decide) rfl (fun ls hl => ?_)
            refine lv_iconst (v := 0) hx hb dX12_sums__70 (by decide) ?_
            refine lv_istore (lv' := [(12, .int 0), (10, .long 0), (8, .long w32), (6, .long w28), (5, .int x26), (0, .ref (ad 0)), (1, .int a1), (2, .int a2), (3, .int a3), (4, .int a4)]) hx hb dX12_sums__71 hl (by decide) rfl (fun ls hl => ?_)
            refine lv_lconst (v := 0) hx hb dX12_sums__73 (by decide) ?_
            refine lv_lstore (lv' := [(13, .long 0), (12, .int 0), (10, .long 0), (8, .long w32), (6, .long w28), (5, .int x26), (0, .ref (ad 0)), (1, .int a1), (2, .int a2), (3, .int a3), (4, .int a4)]) hx hb dX12_sums__74 hl (by decide) rfl (fun ls hl => ?_)
            refine lv_iload_n hx hb dX12_sums__76 rfl (lv_at hl 8 rfl) ?_
            refine lv_istore (lv' := [(15, .int a2), (13, .long 0), (12, .int 0), (10, .long 0), (8, .long w32), (6, .long w28), (5, .int x26), (0, .ref (ad 0)), (1, .int a1), (2, .int a2), (3, .int a3), (4, .int a4)]) hx hb dX12_sums__77 hl (by decide) rfl (fun ls hl => ?_)
            have lp35 : ∀ (f : Nat) (y36 : Int32) (w37 : Int64) (y38 : Int32) (w39 : Int64) (w40 : Int64) (w41 : Int64) (H : Heap) (locs : List Loc) (ls : Array Slot), (2147483647 < y36.toInt + (f : Int)) → (0 ≤ y36.toInt) → (y36.toInt ≤ 29) → (0 ≤ y38.toInt) → (y38.toInt ≤ 1) → (a2.toInt ≤ y36.toInt) → ((w37.toInt = zu_s (zu_kv I a1.toNatClampNeg a2.toNatClampNeg) (y36.toInt - a2.toInt).toNat ∧ -1100000000 * (y36.toInt - a2.toInt) ≤ w37.toInt ∧ w37.toInt ≤ 1100000000 * (y36.toInt - a2.toInt)) ∧ (w41.toInt = zu_H (zu_kh I a1.toNatClampNeg a2.toNatClampNeg) (zu_kv I a1.toNatClampNeg a2.toNatClampNeg) (y36.toInt - a2.toInt).toNat ∧ -1100000000 * (y36.toInt - a2.toInt) ≤ w41.toInt ∧ w41.toInt ≤ 1199999) ∧ (w40.toInt = zu_L (zu_kl I a1.toNatClampNeg a2.toNatClampNeg) (zu_kv I a1.toNatClampNeg a2.toNatClampNeg) (y36.toInt - a2.toInt).toNat ∧ 0 ≤ w40.toInt ∧ w40.toInt ≤ 200000 + 1100000000 * (y36.toInt - a2.toInt)) ∧ (w39.toInt = zu_Z (zu_kh I a1.toNatClampNeg a2.toNatClampNeg) (zu_kv I a1.toNatClampNeg a2.toNatClampNeg) (y36.toInt - a2.toInt).toNat ∧ -1100000000 * (y36.toInt - a2.toInt) ≤ w39.toInt ∧ w39.toInt ≤ 1199999) ∧ ((y38.toInt = 0 ∧ y36.toInt = a2.toInt) ∨ (y38.toInt = 1 ∧ a2.toInt < y36.toInt)) ∧ a2.toInt ≤ y36.toInt ∧ y36.toInt ≤ a3.toInt) → (∀ q : Nat, 1 ≤ q → q ≤ (y36.toInt - a2.toInt).toNat → zu_kl I a1.toNatClampNeg a2.toNatClampNeg q ≤ zu_H (zu_kh I a1.toNatClampNeg a2.toNatClampNeg) (zu_kv I a1.toNatClampNeg a2.toNatClampNeg) q) → z_W G A (shM, ad, I, J, PM ad) H → va_S A s.heap H locs → lv_has ls 18 [(15, .int y36), (13, .long w37), (12, .int y38), (10, .long w39), (8, .long w40), (6, .long w41), (5, .int x26), (0, .ref (ad 0)), (1, .int a1), (2, .int a2), (3, .int a3), (4, .int a4)] → W p l e (headSpec wsX12_sums_ { frames := 4, cells := 0, slots := 0, locals := 89 }).room s m ([.ref (ad 0), .int a1, .int a2, .int a3, .int a4] : List Value).toArray below meth c0 H locs 0 0 (MQ below (va_Ql (fun (r : Int64) (u1 : z_U) => u1 = (shM, ad, I, J, PM ad) ∧ ((((0 ≤ a1.toInt ∧ a1.toInt < (I 0 54).toInt) ∧ ((0 ≤ a2.toInt ∧ a2.toInt < a3.toInt) ∧ a3.toInt < (I 47 a1.toNatClampNeg).toInt) ∧ 0 ≤ a4.toInt ∧ a4.toInt ≤ 1) ∧ zu_Y (zu_kl I a1.toNatClampNeg a2.toNatClampNeg) (zu_kh I a1.toNatClampNeg a2.toNatClampNeg) (zu_kv I a1.toNatClampNeg a2.toNatClampNeg) (a3.toNatClampNeg - a2.toNatClampNeg) a4.toInt r.toInt) ∨ (¬ ((0 ≤ a1.toInt ∧ a1.toInt < (I 0 54).toInt) ∧ ((0 ≤ a2.toInt ∧ a2.toInt < a3.toInt) ∧ a3.toInt < (I 47 a1.toNatClampNeg).toInt) ∧ 0 ≤ a4.toInt ∧ a4.toInt ≤ 1) ∧ r.toInt = -1))) (z_B G A) A) ([.ref (ad 0), .int a1, .int a2, .int a3, .int a4] : List Value).toArray s 0 0 A) (F0 m 79 ls []) := by
              intro f
              induction f with
              | zero => intro y36 w37 y38 w39 w40 w41 H locs ls lp35m lp35l15 lp35u15 lp35l12 lp35u12 lp35z lp35S lp35K hW hS hl; exact absurd lp35m (by have := Int32.toInt_lt y36; have := Int32.le_toInt y36; omega)
              | succ f lp35ih =>
                intro y36 w37 y38 w39 w40 w41 H locs ls lp35m lp35l15 lp35u15 lp35l12 lp35u12 lp35z lp35S lp35K hW hS hl
                refine lv_iload hx hb dX12_sums__79 (lv_at hl 0 rfl) ?_
                refine lv_iload_n hx hb dX12_sums__81 rfl (lv_at hl 10 rfl) ?_
                refine lv_icmp_ge (tgt := 246) hx hb dX12_sums__82 (by decide) (fun c42 => ?_) (fun c42 => ?_)
                · have g43 := z_f_ge rfl rfl c42
                  refine lv_iload hx hb dX12_sums__246 (lv_at hl 11 rfl) ?_
                  refine lv_iconst (v := 1) hx hb dX12_sums__248 (by decide) ?_
                  refine lv_icmp_ne (tgt := 273) hx hb dX12_sums__249 (by decide) (fun c44 => ?_) (fun c44 => ?_)
                  · have g45 := z_f_ne rfl z_l1 c44
                    refine lv_lload hx hb dX12_sums__273 (lv_at hl 1 rfl) ?_
                    refine lv_lload hx hb dX12_sums__275 (lv_at hl 4 rfl) ?_
                    refine lv_ladd hx hb dX12_sums__277 ?_
                    refine lv_topl (fun w46 ew46 => ?_)
                    have tw46 : w46.toInt = w37.toInt + w40.toInt := z_tladd ew46 rfl rfl (by omega) (by omega)
                    refine lv_lload hx hb dX12_sums__278 (lv_at hl 3 rfl) ?_
                    refine lv_lsub hx hb dX12_sums__280 ?_
                    refine lv_topl (fun w47 ew47 => ?_)
                    have tw47 : w47.toInt = (w37.toInt + w40.toInt) - w39.toInt := z_tlsub ew47 tw46 rfl (by omega) (by omega)
                    refine lv_lstore (lv' := [(15, .long w47), (13, .long w37), (12, .int y38), (10, .long w39), (8, .long w40), (6, .long w41), (5, .int x26), (0, .ref (ad 0)), (1, .int a1), (2, .int a2), (3, .int a3), (4, .int a4)]) hx hb dX12_sums__281 hl (by decide) rfl (fun ls hl => ?_)
                    refine lv_lload hx hb dX12_sums__283 (lv_at hl 0 rfl) ?_
                    refine lv_lconst (v := 0) hx hb dX12_sums__285 (by decide) ?_
                    refine W.lcmp hx hb dX12_sums__286 ?_
                    refine lv_topi (fun x48 ex48 => ?_)
                    have tx48 := z_tcmp ex48
                    have h49 := z_tlcmp ex48 tw47 (show (0 : Int64).toInt = 0 by decide)
                    refine lv_if_ge (tgt := 294) hx hb dX12_sums__287 (by decide) (fun c50 => ?_) (fun c50 => ?_)
                    · have g51 := z_f_ge rfl z_l0 c50
                      refine lv_lload hx hb dX12_sums__294 (lv_at hl 0 rfl) ?_
                      exact z_lret hx hb hr hK hS (Nat.le_of_ble_eq_true rfl) (Nat.le_of_ble_eq_true rfl) hlocks dX12_sums__296 (shM, ad, I, J, PM ad) hW ⟨rfl, (by have q9 := lp35S; obtain ⟨⟨s1, s2, s3⟩, ⟨s4, s5, s6⟩, ⟨s7, s8, s9⟩, ⟨t1, t2, t3⟩, t4, t5, t6⟩ := q9; have c1 := z_clt (x := a1) rfl (by omega); have c2 := z_clt (x := a2) rfl (by omega); have c3 := z_clt (x := a3) rfl (by omega); have e9 : (y36.toInt - a2.toInt).toNat = (a3.toNatClampNeg - a2.toNatClampNeg) := (by omega); have k9 := lp35K; rw [e9] at s1 s4 s7 t1 k9; have q0 : (0 : Int64).toInt = 0 := (by decide); refine Or.inl ⟨by omega, Or.inr ⟨k9, ?_⟩⟩; first | exact Or.inl ⟨by omega, by omega⟩ | exact Or.inr ⟨by omega, by omega⟩)⟩
                    · have g52 := z_f_nge rfl z_l0 c50
                      refine lv_lconst (v := 0) hx hb dX12_sums__290 (by decide) ?_
                      refine lv_goto (tgt := 296) hx hb dX12_sums__291 (by decide) ?_
                      exact z_lret hx hb hr hK hS (Nat.le_of_ble_eq_true rfl) (Nat.le_of_ble_eq_true rfl) hlocks dX12_sums__296 (shM, ad, I, J, PM ad) hW ⟨rfl, (by have q9 := lp35S; obtain ⟨⟨s1, s2, s3⟩, ⟨s4, s5, s6⟩, ⟨s7, s8, s9⟩, ⟨t1, t2, t3⟩, t4, t5, t6⟩ := q9; have c1 := z_clt (x := a1) rfl (by omega); have c2 := z_clt (x := a2) rfl (by omega); have c3 := z_clt (x := a3) rfl (by omega); have e9 : (y36.toInt - a2.toInt).toNat = (a3.toNatClampNeg - a2.toNatClampNeg) := (by omega); have k9 := lp35K; rw [e9] at s1 s4 s7 t1 k9; have q0 : (0 : Int64).toInt = 0 := (by decide); refine Or.inl ⟨by omega, Or.inr ⟨k9, ?_⟩⟩; first | exact Or.inl ⟨by omega, by omega⟩ | exact Or.inr ⟨by omega, by omega⟩)⟩
                  · have g53 := z_f_eq rfl z_l1 c44
                    refine lv_lload hx hb dX12_sums__252 (lv_at hl 1 rfl) ?_
                    refine lv_aload_n hx hb dX12_sums__254 rfl (lv_at hl 7 rfl) ?_
                    refine lv_iload hx hb dX12_sums__255 (lv_at hl 6 rfl) ?_
                    refine lv_iload_n hx hb dX12_sums__257 rfl (lv_at hl 9 rfl) ?_
                    refine lv_iadd hx hb dX12_sums__258 ?_
                    refine lv_topi (fun x54 ex54 => ?_)
                    have tx54 : x54.toInt = x26.toInt + a2.toInt := z_tadd ex54 rfl rfl (by omega) (by omega)
                    refine z_cl hW hS hA (va_runV (As := [.int x54]) (rest := [.long w37]) ⟨hx, hb, hml, hown, hts⟩ (sx_X12_highOf_u l G ad I J ⟨(by show 0 ≤ (I 0 0).toInt ∧ (I 0 0).toInt ≤ 719; exact hma.1), (by show 0 ≤ (I 0 1).toInt ∧ (I 0 1).toInt ≤ 30; exact hma.2.1), (by show 0 ≤ (I 0 2).toInt ∧ (I 0 2).toInt ≤ 200; exact hma.2.2)⟩ ⟨(by show 0 ≤ (I 0 13).toInt ∧ (I 0 13).toInt ≤ 12; exact hmb.1), (by show 0 ≤ (I 0 14).toInt ∧ (I 0 14).toInt ≤ 288; exact hmb.2)⟩ hAtf hAtm x54 hab (by omega) (by have c1 := z_clt (x := a1) rfl (by omega); have c2 := z_clt (x := a2) rfl (by omega); have c3 := z_clt (x := a3) rfl (by omega); have c4 := z_clt (x := x54) rfl (by omega); rw [show x54.toNatClampNeg = 30 * a1.toNatClampNeg + a2.toNatClampNeg by omega]; exact ⟨hTo a1.toNatClampNeg (by omega) a2.toNatClampNeg (by omega), hDm a1.toNatClampNeg (by omega) a2.toNatClampNeg (by omega)⟩) _) (cwV 1 hts gX12_sums__X12_highOf rfl rfl rfl (by decide +kernel) ⟨Nat.le_of_ble_eq_true rfl, Nat.le_of_ble_eq_true rfl⟩) (z_preV (i := 0) hK hW rfl rfl) rfl rfl hl.1 rfl (lv_room (Nat.le_of_ble_eq_true rfl)) dX12_sums__259 ⟨Nat.le_of_ble_eq_true rfl, Nat.le_of_ble_eq_true rfl⟩) (fun r u1 H locs hp hW hS => ?_)
                    obtain ⟨e9, hp⟩ := hp
                    rw [e9] at hW
                    refine lv_topl (fun w55 ew55 => ?_)
                    rw [← ew55] at hp
                    have hb57 := hp.2
                    have hl56 : zu_kh I a1.toNatClampNeg a2.toNatClampNeg 0 = w55.toInt := by have c1 := z_clt (x := a1) rfl (by omega); have c2 := z_clt (x := a2) rfl (by omega); have c3 := z_clt (x := a3) rfl (by omega); have c4 := z_clt (x := x54) rfl (by omega); unfold zu_kh; rw [show 30 * a1.toNatClampNeg + (a2.toNatClampNeg + 0) = x54.toNatClampNeg by omega]; exact hp.1.symm
                    refine lv_ladd hx hb dX12_sums__262 ?_
                    refine lv_topl (fun w58 ew58 => ?_)
                    have tw58 : w58.toInt = w37.toInt + w55.toInt := z_tladd ew58 rfl rfl (by omega) (by omega)
                    refine lv_aload_n hx hb dX12_sums__263 rfl (lv_at hl 7 rfl) ?_
                    refine lv_iload hx hb dX12_sums__264 (lv_at hl 6 rfl) ?_
                    refine lv_iload_n hx hb dX12_sums__266 rfl (lv_at hl 10 rfl) ?_
                    refine lv_iadd hx hb dX12_sums__267 ?_
                    refine lv_topi (fun x59 ex59 => ?_)
                    have tx59 : x59.toInt = x26.toInt + a3.toInt := z_tadd ex59 rfl rfl (by omega) (by omega)
                    refine z_cl hW hS hA (va_runV (As := [.int x59]) (rest := [.long w58]) ⟨hx, hb, hml, hown, hts⟩ (sx_X12_lowOf_u l G ad I J ⟨(by show 0 ≤ (I 0 0).toInt ∧ (I 0 0).toInt ≤ 719; exact hma.1), (by show 0 ≤ (I 0 1).toInt ∧ (I 0 1).toInt ≤ 30; exact hma.2.1), (by show 0 ≤ (I 0 2).toInt ∧ (I 0 2).toInt ≤ 200; exact hma.2.2)⟩ ⟨(by show 0 ≤ (I 0 13).toInt ∧ (I 0 13).toInt ≤ 12; exact hmb.1), (by show 0 ≤ (I 0 14).toInt ∧ (I 0 14).toInt ≤ 288; exact hmb.2)⟩ hAtf hAtm x59 hab (by omega) (by have c1 := z_clt (x := a1) rfl (by omega); have c2 := z_clt (x := a2) rfl (by omega); have c3 := z_clt (x := a3) rfl (by omega); have c4 := z_clt (x := x59) rfl (by omega); rw [show x59.toNatClampNeg = 30 * a1.toNatClampNeg + a3.toNatClampNeg by omega]; exact ⟨hTo a1.toNatClampNeg (by omega) a3.toNatClampNeg (by omega), hDm a1.toNatClampNeg (by omega) a3.toNatClampNeg (by omega)⟩) _) (cwV 1 hts gX12_sums__X12_lowOf rfl rfl rfl (by decide +kernel) ⟨Nat.le_of_ble_eq_true rfl, Nat.le_of_ble_eq_true rfl⟩) (z_preV (i := 0) hK hW rfl rfl) rfl rfl hl.1 rfl (lv_room (Nat.le_of_ble_eq_true rfl)) dX12_sums__268 ⟨Nat.le_of_ble_eq_true rfl, Nat.le_of_ble_eq_true rfl⟩) (fun r u1 H locs hp hW hS => ?_)
                    obtain ⟨e9, hp⟩ := hp
                    rw [e9] at hW
                    refine lv_topl (fun w60 ew60 => ?_)
                    rw [← ew60] at hp
                    have hb62 := hp.2
                    have hl61 : zu_kl I a1.toNatClampNeg a2.toNatClampNeg (a3.toNatClampNeg - a2.toNatClampNeg) = w60.toInt := by have c1 := z_clt (x := a1) rfl (by omega); have c2 := z_clt (x := a2) rfl (by omega); have c3 := z_clt (x := a3) rfl (by omega); have c4 := z_clt (x := x59) rfl (by omega); unfold zu_kl; rw [show 30 * a1.toNatClampNeg + (a2.toNatClampNeg + (a3.toNatClampNeg - a2.toNatClampNeg)) = x59.toNatClampNeg by omega]; exact hp.1.symm
                    refine lv_lsub hx hb dX12_sums__271 ?_
                    refine lv_topl (fun w63 ew63 => ?_)
                    have tw63 : w63.toInt = (w37.toInt + w55.toInt) - w60.toInt := z_tlsub ew63 tw58 rfl (by omega) (by omega)
                    exact z_lret hx hb hr hK hS (Nat.le_of_ble_eq_true rfl) (Nat.le_of_ble_eq_true rfl) hlocks dX12_sums__272 (shM, ad, I, J, PM ad) hW ⟨rfl, (by have q9 := lp35S; obtain ⟨⟨s1, s2, s3⟩, ⟨s4, s5, s6⟩, ⟨s7, s8, s9⟩, ⟨t1, t2, t3⟩, t4, t5, t6⟩ := q9; have c1 := z_clt (x := a1) rfl (by omega); have c2 := z_clt (x := a2) rfl (by omega); have c3 := z_clt (x := a3) rfl (by omega); have e9 : (y36.toInt - a2.toInt).toNat = (a3.toNatClampNeg - a2.toNatClampNeg) := (by omega); have k9 := lp35K; rw [e9] at s1 s4 s7 t1 k9; have q0 : (0 : Int64).toInt = 0 := (by decide); refine Or.inl ⟨by omega, Or.inr ⟨k9, ?_⟩⟩; first | exact Or.inl ⟨by omega, by omega⟩ | exact Or.inr ⟨by omega, by omega⟩)⟩
                · have g64 := z_f_nge rfl rfl c42
                  refine lv_aload_n hx hb dX12_sums__85 rfl (lv_at hl 7 rfl) ?_
                  refine lv_iload_n hx hb dX12_sums__86 rfl (lv_at hl 8 rfl) ?_
                  refine lv_iload hx hb dX12_sums__87 (lv_at hl 0 rfl) ?_
                  refine z_cl hW hS hA (va_runV (As := [.int a1, .int y36]) (rest := []) ⟨hx, hb, hml, hown, hts⟩ (sx_X12_inOf_u l G ad I J ⟨(by show 0 ≤ (I 0 54).toInt ∧ (I 0 54).toInt ≤ 10; exact hms.1), (by show 0 ≤ (I 0 55).toInt ∧ (I 0 55).toInt ≤ 300; exact hms.2)⟩ ⟨(by show 0 ≤ (I 0 0).toInt ∧ (I 0 0).toInt ≤ 719; exact hma.1), (by show 0 ≤ (I 0 1).toInt ∧ (I 0 1).toInt ≤ 30; exact hma.2.1), (by show 0 ≤ (I 0 2).toInt ∧ (I 0 2).toInt ≤ 200; exact hma.2.2)⟩ hAgm ⟨(by show 0 ≤ (I 0 13).toInt ∧ (I 0 13).toInt ≤ 12; exact hmb.1), (by show 0 ≤ (I 0 14).toInt ∧ (I 0 14).toInt ≤ 288; exact hmb.2)⟩ hAtf hAtm a1 y36 hab hTe hGv hDm (by omega) (by omega) _) (cwV 2 hts gX12_sums__X12_inOf rfl rfl rfl (by decide +kernel) ⟨Nat.le_of_ble_eq_true rfl, Nat.le_of_ble_eq_true rfl⟩) (z_preV (i := 0) hK hW rfl rfl) rfl rfl hl.1 rfl (lv_room (Nat.le_of_ble_eq_true rfl)) dX12_sums__89 ⟨Nat.le_of_ble_eq_true rfl, Nat.le_of_ble_eq_true rfl⟩) (fun r u1 H locs hp hW hS => ?_)
                  obtain ⟨e9, hp⟩ := hp
                  rw [e9] at hW
                  refine lv_topl (fun w65 ew65 => ?_)
                  rw [← ew65] at hp
                  have hb67 := hp.2
                  have hJ66 : zu_kv I a1.toNatClampNeg a2.toNatClampNeg (y36.toInt - a2.toInt).toNat = w65.toInt := by have c1 := z_clt (x := a1) rfl (by omega); have c2 := z_clt (x := a2) rfl (by omega); have c3 := z_clt (x := a3) rfl (by omega); have c4 := z_clt (x := y36) rfl (by omega); unfold zu_kv; rw [show a2.toNatClampNeg + (y36.toInt - a2.toInt).toNat = y36.toNatClampNeg by omega]; exact hp.1.symm
                  refine lv_lstore (lv' := [(16, .long w65), (15, .int y36), (13, .long w37), (12, .int y38), (10, .long w39), (8, .long w40), (6, .long w41), (5, .int x26), (0, .ref (ad 0)), (1, .int a1), (2, .int a2), (3, .int a3), (4, .int a4)]) hx hb dX12_sums__92 hl (by decide) rfl (fun ls hl => ?_)
                  refine lv_lload hx hb dX12_sums__94 (lv_at hl 2 rfl) ?_
                  refine lv_lload hx hb dX12_sums__96 (lv_at hl 0 rfl) ?_
                  refine lv_ladd hx hb dX12_sums__98 ?_
                  refine lv_topl (fun w68 ew68 => ?_)
                  have tw68 : w68.toInt = w37.toInt + w65.toInt := z_tladd ew68 rfl rfl (by omega) (by omega)
                  refine lv_lstore (lv' := [(13, .long w68), (16, .long w65), (15, .int y36), (12, .int y38), (10, .long w39), (8, .long w40), (6, .long w41), (5, .int x26), (0, .ref (ad 0)), (1, .int a1), (2, .int a2), (3, .int a3), (4, .int a4)]) hx hb dX12_sums__99 hl (by decide) rfl (fun ls hl => ?_)
                  refine lv_lload hx hb dX12_sums__101 (lv_at hl 6 rfl) ?_
                  refine lv_lload hx hb dX12_sums__103 (lv_at hl 1 rfl) ?_
                  refine lv_ladd hx hb dX12_sums__105 ?_
                  refine lv_topl (fun w69 ew69 => ?_)
                  have tw69 : w69.toInt = w41.toInt + w65.toInt := z_tladd ew69 rfl rfl (by omega) (by omega)
                  refine lv_lstore (lv' := [(6, .long w69), (13, .long w68), (16, .long w65), (15, .int y36), (12, .int y38), (10, .long w39), (8, .long w40), (5, .int x26), (0, .ref (ad 0)), (1, .int a1), (2, .int a2), (3, .int a3), (4, .int a4)]) hx hb dX12_sums__106 hl (by decide) rfl (fun ls hl => ?_)
                  refine lv_lload hx hb dX12_sums__108 (lv_at hl 5 rfl) ?_
                  refine lv_lload hx hb dX12_sums__110 (lv_at hl 2 rfl) ?_
                  refine lv_ladd hx hb dX12_sums__112 ?_
                  refine lv_topl (fun w70 ew70 => ?_)
                  have tw70 : w70.toInt = w39.toInt + w65.toInt := z_tladd ew70 rfl rfl (by omega) (by omega)
                  refine lv_lstore (lv' := [(10, .long w70), (6, .long w69), (13, .long w68), (16, .long w65), (15, .int y36), (12, .int y38), (8, .long w40), (5, .int x26), (0, .ref (ad 0)), (1, .int a1), (2, .int a2), (3, .int a3), (4, .int a4)]) hx hb dX12_sums__113 hl (by decide) rfl (fun ls hl => ?_)
                  refine lv_aload_n hx hb dX12_sums__115 rfl (lv_at hl 8 rfl) ?_
                  refine lv_iload hx hb dX12_sums__116 (lv_at hl 7 rfl) ?_
                  refine lv_iload hx hb dX12_sums__118 (lv_at hl 4 rfl) ?_
                  refine lv_iadd hx hb dX12_sums__120 ?_
                  refine lv_topi (fun x71 ex71 => ?_)
                  have tx71 : x71.toInt = x26.toInt + y36.toInt := z_tadd ex71 rfl rfl (by omega) (by omega)
                  refine lv_iconst (v := 1) hx hb dX12_sums__121 (by decide) ?_
                  refine lv_iadd hx hb dX12_sums__122 ?_
                  refine lv_topi (fun x72 ex72 => ?_)
                  have tx72 : x72.toInt = x71.toInt + 1 := z_tadd ex72 rfl z_l1 (by omega) (by omega)
                  refine z_cl hW hS hA (va_runV (As := [.int x72]) (rest := []) ⟨hx, hb, hml, hown, hts⟩ (sx_X12_highOf_u l G ad I J ⟨(by show 0 ≤ (I 0 0).toInt ∧ (I 0 0).toInt ≤ 719; exact hma.1), (by show 0 ≤ (I 0 1).toInt ∧ (I 0 1).toInt ≤ 30; exact hma.2.1), (by show 0 ≤ (I 0 2).toInt ∧ (I 0 2).toInt ≤ 200; exact hma.2.2)⟩ ⟨(by show 0 ≤ (I 0 13).toInt ∧ (I 0 13).toInt ≤ 12; exact hmb.1), (by show 0 ≤ (I 0 14).toInt ∧ (I 0 14).toInt ≤ 288; exact hmb.2)⟩ hAtf hAtm x72 hab (by omega) (by have c1 := z_clt (x := a1) rfl (by omega); have c2 := z_clt (x := a2) rfl (by omega); have c3 := z_clt (x := a3) rfl (by omega); have c4 := z_clt (x := x72) rfl (by omega); rw [show x72.toNatClampNeg = 30 * a1.toNatClampNeg + (y36.toNatClampNeg + 1) by omega]; exact ⟨hTo a1.toNatClampNeg (by omega) (y36.toNatClampNeg + 1) (by omega), hDm a1.toNatClampNeg (by omega) (y36.toNatClampNeg + 1) (by omega)⟩) _) (cwV 1 hts gX12_sums__X12_highOf rfl rfl rfl (by decide +kernel) ⟨Nat.le_of_ble_eq_true rfl, Nat.le_of_ble_eq_true rfl⟩) (z_preV (i := 0) hK hW rfl rfl) rfl rfl hl.1 rfl (lv_room (Nat.le_of_ble_eq_true rfl)) dX12_sums__123 ⟨Nat.le_of_ble_eq_true rfl, Nat.le_of_ble_eq_true rfl⟩) (fun r u1 H locs hp hW hS => ?_)
                  obtain ⟨e9, hp⟩ := hp
                  rw [e9] at hW
                  refine lv_topl (fun w73 ew73 => ?_)
                  rw [← ew73] at hp
                  have hb75 := hp.2
                  have hl74 : zu_kh I a1.toNatClampNeg a2.toNatClampNeg ((y36.toInt - a2.toInt).toNat + 1) = w73.toInt := by have c1 := z_clt (x := a1) rfl (by omega); have c2 := z_clt (x := a2) rfl (by omega); have c3 := z_clt (x := a3) rfl (by omega); have c4 := z_clt (x := x72) rfl (by omega); unfold zu_kh; rw [show 30 * a1.toNatClampNeg + (a2.toNatClampNeg + ((y36.toInt - a2.toInt).toNat + 1)) = x72.toNatClampNeg by omega]; exact hp.1.symm
                  refine lv_lload hx hb dX12_sums__126 (lv_at hl 1 rfl) ?_
                  refine W.lcmp hx hb dX12_sums__128 ?_
                  refine lv_topi (fun x76 ex76 => ?_)
                  have tx76 := z_tcmp ex76
                  have h77 := z_tlcmp ex76 rfl tw69
                  refine lv_if_ge (tgt := 145) hx hb dX12_sums__129 (by decide) (fun c78 => ?_) (fun c78 => ?_)
                  · have g79 := z_f_ge rfl z_l0 c78
                    refine lv_iload hx hb dX12_sums__145 (lv_at hl 5 rfl) ?_
                    refine lv_if_eq (tgt := 167) hx hb dX12_sums__147 (by decide) (fun c80 => ?_) (fun c80 => ?_)
                    · have g81 := z_f_eq rfl z_l0 c80
                      refine lv_aload_n hx hb dX12_sums__167 rfl (lv_at hl 8 rfl) ?_
                      refine lv_iload hx hb dX12_sums__168 (lv_at hl 7 rfl) ?_
                      refine lv_iload hx hb dX12_sums__170 (lv_at hl 4 rfl) ?_
                      refine lv_iadd hx hb dX12_sums__172 ?_
                      refine lv_topi (fun x82 ex82 => ?_)
                      have tx82 : x82.toInt = x26.toInt + y36.toInt := z_tadd ex82 rfl rfl (by omega) (by omega)
                      refine lv_iconst (v := 1) hx hb dX12_sums__173 (by decide) ?_
                      refine lv_iadd hx hb dX12_sums__174 ?_
                      refine lv_topi (fun x83 ex83 => ?_)
                      have tx83 : x83.toInt = x82.toInt + 1 := z_tadd ex83 rfl z_l1 (by omega) (by omega)
                      refine z_cl hW hS hA (va_runV (As := [.int x83]) (rest := []) ⟨hx, hb, hml, hown, hts⟩ (sx_X12_highOf_u l G ad I J ⟨(by show 0 ≤ (I 0 0).toInt ∧ (I 0 0).toInt ≤ 719; exact hma.1), (by show 0 ≤ (I 0 1).toInt ∧ (I 0 1).toInt ≤ 30; exact hma.2.1), (by show 0 ≤ (I 0 2).toInt ∧ (I 0 2).toInt ≤ 200; exact hma.2.2)⟩ ⟨(by show 0 ≤ (I 0 13).toInt ∧ (I 0 13).toInt ≤ 12; exact hmb.1), (by show 0 ≤ (I 0 14).toInt ∧ (I 0 14).toInt ≤ 288; exact hmb.2)⟩ hAtf hAtm x83 hab (by omega) (by have c1 := z_clt (x := a1) rfl (by omega); have c2 := z_clt (x := a2) rfl (by omega); have c3 := z_clt (x := a3) rfl (by omega); have c4 := z_clt (x := x83) rfl (by omega); rw [show x83.toNatClampNeg = 30 * a1.toNatClampNeg + (y36.toNatClampNeg + 1) by omega]; exact ⟨hTo a1.toNatClampNeg (by omega) (y36.toNatClampNeg + 1) (by omega), hDm a1.toNatClampNeg (by omega) (y36.toNatClampNeg + 1) (by omega)⟩) _) (cwV 1 hts gX12_sums__X12_highOf rfl rfl rfl (by decide +kernel) ⟨Nat.le_of_ble_eq_true rfl, Nat.le_of_ble_eq_true rfl⟩) (z_preV (i := 0) hK hW rfl rfl) rfl rfl hl.1 rfl (lv_room (Nat.le_of_ble_eq_true rfl)) dX12_sums__175 ⟨Nat.le_of_ble_eq_true rfl, Nat.le_of_ble_eq_true rfl⟩) (fun r u1 H locs hp hW hS => ?_)
                      obtain ⟨e9, hp⟩ := hp
                      rw [e9] at hW
                      refine lv_topl (fun w84 ew84 => ?_)
                      rw [← ew84] at hp
                      have hb86 := hp.2
                      have hl85 : zu_kh I a1.toNatClampNeg a2.toNatClampNeg ((y36.toInt - a2.toInt).toNat + 1) = w84.toInt := by have c1 := z_clt (x := a1) rfl (by omega); have c2 := z_clt (x := a2) rfl (by omega); have c3 := z_clt (x := a3) rfl (by omega); have c4 := z_clt (x := x83) rfl (by omega); unfold zu_kh; rw [show 30 * a1.toNatClampNeg + (a2.toNatClampNeg + ((y36.toInt - a2.toInt).toNat + 1)) = x83.toNatClampNeg by omega]; exact hp.1.symm
                      refine lv_lstore (lv' := [(10, .long w84), (6, .long w69), (13, .long w68), (16, .long w65), (15, .int y36), (12, .int y38), (8, .long w40), (5, .int x26), (0, .ref (ad 0)), (1, .int a1), (2, .int a2), (3, .int a3), (4, .int a4)]) hx hb dX12_sums__178 hl (by decide) rfl (fun ls hl => ?_)
                      refine lv_iconst (v := 1) hx hb dX12_sums__180 (by decide) ?_
                      refine lv_istore (lv' := [(12, .int 1), (10, .long w84), (6, .long w69), (13, .long w68), (16, .long w65), (15, .int y36), (8, .long w40), (5, .int x26), (0, .ref (ad 0)), (1, .int a1), (2, .int a2), (3, .int a3), (4, .int a4)]) hx hb dX12_sums__181 hl (by decide) rfl (fun ls hl => ?_)
                      refine lv_lload hx hb dX12_sums__183 (lv_at hl 2 rfl) ?_
                      refine lv_aload_n hx hb dX12_sums__185 rfl (lv_at hl 8 rfl) ?_
                      refine lv_iload hx hb dX12_sums__186 (lv_at hl 7 rfl) ?_
                      refine lv_iload hx hb dX12_sums__188 (lv_at hl 5 rfl) ?_
                      refine lv_iadd hx hb dX12_sums__190 ?_
                      refine lv_topi (fun x87 ex87 => ?_)
                      have tx87 : x87.toInt = x26.toInt + y36.toInt := z_tadd ex87 rfl rfl (by omega) (by omega)
                      refine lv_iconst (v := 1) hx hb dX12_sums__191 (by decide) ?_
                      refine lv_iadd hx hb dX12_sums__192 ?_
                      refine lv_topi (fun x88 ex88 => ?_)
                      have tx88 : x88.toInt = x87.toInt + 1 := z_tadd ex88 rfl z_l1 (by omega) (by omega)
                      refine z_cl hW hS hA (va_runV (As := [.int x88]) (rest := [.long w69]) ⟨hx, hb, hml, hown, hts⟩ (sx_X12_lowOf_u l G ad I J ⟨(by show 0 ≤ (I 0 0).toInt ∧ (I 0 0).toInt ≤ 719; exact hma.1), (by show 0 ≤ (I 0 1).toInt ∧ (I 0 1).toInt ≤ 30; exact hma.2.1), (by show 0 ≤ (I 0 2).toInt ∧ (I 0 2).toInt ≤ 200; exact hma.2.2)⟩ ⟨(by show 0 ≤ (I 0 13).toInt ∧ (I 0 13).toInt ≤ 12; exact hmb.1), (by show 0 ≤ (I 0 14).toInt ∧ (I 0 14).toInt ≤ 288; exact hmb.2)⟩ hAtf hAtm x88 hab (by omega) (by have c1 := z_clt (x := a1) rfl (by omega); have c2 := z_clt (x := a2) rfl (by omega); have c3 := z_clt (x := a3) rfl (by omega); have c4 := z_clt (x := x88) rfl (by omega); rw [show x88.toNatClampNeg = 30 * a1.toNatClampNeg + (y36.toNatClampNeg + 1) by omega]; exact ⟨hTo a1.toNatClampNeg (by omega) (y36.toNatClampNeg + 1) (by omega), hDm a1.toNatClampNeg (by omega) (y36.toNatClampNeg + 1) (by omega)⟩) _) (cwV 1 hts gX12_sums__X12_lowOf rfl rfl rfl (by decide +kernel) ⟨Nat.le_of_ble_eq_true rfl, Nat.le_of_ble_eq_true rfl⟩) (z_preV (i := 0) hK hW rfl rfl) rfl rfl hl.1 rfl (lv_room (Nat.le_of_ble_eq_true rfl)) dX12_sums__193 ⟨Nat.le_of_ble_eq_true rfl, Nat.le_of_ble_eq_true rfl⟩) (fun r u1 H locs hp hW hS => ?_)
                      obtain ⟨e9, hp⟩ := hp
                      rw [e9] at hW
                      refine lv_topl (fun w89 ew89 => ?_)
                      rw [← ew89] at hp
                      have hb91 := hp.2
                      have hl90 : zu_kl I a1.toNatClampNeg a2.toNatClampNeg ((y36.toInt - a2.toInt).toNat + 1) = w89.toInt := by have c1 := z_clt (x := a1) rfl (by omega); have c2 := z_clt (x := a2) rfl (by omega); have c3 := z_clt (x := a3) rfl (by omega); have c4 := z_clt (x := x88) rfl (by omega); unfold zu_kl; rw [show 30 * a1.toNatClampNeg + (a2.toNatClampNeg + ((y36.toInt - a2.toInt).toNat + 1)) = x88.toNatClampNeg by omega]; exact hp.1.symm
                      refine W.lcmp hx hb dX12_sums__196 ?_
                      refine lv_topi (fun x92 ex92 => ?_)
                      have tx92 := z_tcmp ex92
                      have h93 := z_tlcmp ex92 tw69 rfl
                      refine lv_if_ge (tgt := 204) hx hb dX12_sums__197 (by decide) (fun c94 => ?_) (fun c94 => ?_)
                      · have g95 := z_f_ge rfl z_l0 c94
                        refine lv_aload_n hx hb dX12_sums__204 rfl (lv_at hl 8 rfl) ?_
                        refine lv_iload hx hb dX12_sums__205 (lv_at hl 7 rfl) ?_
                        refine lv_iload hx hb dX12_sums__207 (lv_at hl 5 rfl) ?_
                        refine lv_iadd hx hb dX12_sums__209 ?_
                        refine lv_topi (fun x96 ex96 => ?_)
                        have tx96 : x96.toInt = x26.toInt + y36.toInt := z_tadd ex96 rfl rfl (by omega) (by omega)
                        refine lv_iconst (v := 1) hx hb dX12_sums__210 (by decide) ?_
                        refine lv_iadd hx hb dX12_sums__211 ?_
                        refine lv_topi (fun x97 ex97 => ?_)
                        have tx97 : x97.toInt = x96.toInt + 1 := z_tadd ex97 rfl z_l1 (by omega) (by omega)
                        refine z_cl hW hS hA (va_runV (As := [.int x97]) (rest := []) ⟨hx, hb, hml, hown, hts⟩ (sx_X12_lowOf_u l G ad I J ⟨(by show 0 ≤ (I 0 0).toInt ∧ (I 0 0).toInt ≤ 719; exact hma.1), (by show 0 ≤ (I 0 1).toInt ∧ (I 0 1).toInt ≤ 30; exact hma.2.1), (by show 0 ≤ (I 0 2).toInt ∧ (I 0 2).toInt ≤ 200; exact hma.2.2)⟩ ⟨(by show 0 ≤ (I 0 13).toInt ∧ (I 0 13).toInt ≤ 12; exact hmb.1), (by show 0 ≤ (I 0 14).toInt ∧ (I 0 14).toInt ≤ 288; exact hmb.2)⟩ hAtf hAtm x97 hab (by omega) (by have c1 := z_clt (x := a1) rfl (by omega); have c2 := z_clt (x := a2) rfl (by omega); have c3 := z_clt (x := a3) rfl (by omega); have c4 := z_clt (x := x97) rfl (by omega); rw [show x97.toNatClampNeg = 30 * a1.toNatClampNeg + (y36.toNatClampNeg + 1) by omega]; exact ⟨hTo a1.toNatClampNeg (by omega) (y36.toNatClampNeg + 1) (by omega), hDm a1.toNatClampNeg (by omega) (y36.toNatClampNeg + 1) (by omega)⟩) _) (cwV 1 hts gX12_sums__X12_lowOf rfl rfl rfl (by decide +kernel) ⟨Nat.le_of_ble_eq_true rfl, Nat.le_of_ble_eq_true rfl⟩) (z_preV (i := 0) hK hW rfl rfl) rfl rfl hl.1 rfl (lv_room (Nat.le_of_ble_eq_true rfl)) dX12_sums__212 ⟨Nat.le_of_ble_eq_true rfl, Nat.le_of_ble_eq_true rfl⟩) (fun r u1 H locs hp hW hS => ?_)
                        obtain ⟨e9, hp⟩ := hp
                        rw [e9] at hW
                        refine lv_topl (fun w98 ew98 => ?_)
                        rw [← ew98] at hp
                        have hb100 := hp.2
                        have hl99 : zu_kl I a1.toNatClampNeg a2.toNatClampNeg ((y36.toInt - a2.toInt).toNat + 1) = w98.toInt := by have c1 := z_clt (x := a1) rfl (by omega); have c2 := z_clt (x := a2) rfl (by omega); have c3 := z_clt (x := a3) rfl (by omega); have c4 := z_clt (x := x97) rfl (by omega); unfold zu_kl; rw [show 30 * a1.toNatClampNeg + (a2.toNatClampNeg + ((y36.toInt - a2.toInt).toNat + 1)) = x97.toNatClampNeg by omega]; exact hp.1.symm
                        refine lv_lload hx hb dX12_sums__215 (lv_at hl 3 rfl) ?_
                        refine lv_lsub hx hb dX12_sums__217 ?_
                        refine lv_topl (fun w101 ew101 => ?_)
                        have tw101 : w101.toInt = w98.toInt - (w37.toInt + w65.toInt) := z_tlsub ew101 rfl tw68 (by omega) (by omega)
                        refine lv_lload hx hb dX12_sums__218 (lv_at hl 6 rfl) ?_
                        refine W.lcmp hx hb dX12_sums__220 ?_
                        refine lv_topi (fun x102 ex102 => ?_)
                        have tx102 := z_tcmp ex102
                        have h103 := z_tlcmp ex102 tw101 rfl
                        refine lv_if_le (tgt := 240) hx hb dX12_sums__221 (by decide) (fun c104 => ?_) (fun c104 => ?_)
                        · have g105 := z_f_le rfl z_l0 c104
                          obtain ⟨x106, ex106⟩ : ∃ y : Int32, y = y36 + 1 := ⟨_, rfl⟩
                          have tx106 : x106.toInt = y36.toInt + 1 := z_tadd ex106 rfl z_l1 (by omega) (by omega)
                          refine lv_iinc (v := x106) (lv' := [(15, .int x106), (12, .int 1), (10, .long w84), (6, .long w69), (13, .long w68), (16, .long w65), (8, .long w40), (5, .int x26), (0, .ref (ad 0)), (1, .int a1), (2, .int a2), (3, .int a3), (4, .int a4)]) hx hb dX12_sums__240 hl (k := 5) rfl (by rw [ex106]; rfl) (by decide) rfl (fun ls hl => ?_)
                          refine lv_goto (tgt := 79) hx hb dX12_sums__243 (by decide) ?_
                          exact lp35ih x106 w68 (1) w84 w40 w69 _ _ _ (by omega) (by omega) (by omega) (by rw [z_l1]; omega) (by rw [z_l1]; omega) (by omega) (by have q9 := lp35S; obtain ⟨⟨s1, s2, s3⟩, ⟨s4, s5, s6⟩, ⟨s7, s8, s9⟩, ⟨t1, t2, t3⟩, t4, t5, t6⟩ := q9; have q1 := z_l1; have q0 := z_l0; exact ⟨⟨by rw [show (x106.toInt - a2.toInt).toNat = (y36.toInt - a2.toInt).toNat + 1 by omega, zu_s_s, hJ66]; omega, by omega, by omega⟩, ⟨by rw [show (x106.toInt - a2.toInt).toNat = (y36.toInt - a2.toInt).toNat + 1 by omega, zu_H, hJ66]; omega, by omega, by omega⟩, ⟨by rw [show (x106.toInt - a2.toInt).toNat = (y36.toInt - a2.toInt).toNat + 1 by omega, zu_L, zu_s_s, hJ66]; omega, by omega, by omega⟩, ⟨by rw [show (x106.toInt - a2.toInt).toNat = (y36.toInt - a2.toInt).toNat + 1 by omega, zu_Z_s, hJ66]; split <;> omega, by omega, by omega⟩, by omega, by omega, by omega⟩) (fun q h1 h2 => by have q9 := lp35S; obtain ⟨_, ⟨s4, _⟩, _⟩ := q9; by_cases e : q = (y36.toInt - a2.toInt).toNat + 1; (· rw [e, zu_H, hJ66]; omega); (· exact lp35K q h1 (by omega))) hW hS (lv_sub hl [0, 4, 1, 2, 6, 3, 7, 8, 9, 10, 11, 12] rfl)
                        · have g107 := z_f_nle rfl z_l0 c104
                          refine lv_aload_n hx hb dX12_sums__224 rfl (lv_at hl 8 rfl) ?_
                          refine lv_iload hx hb dX12_sums__225 (lv_at hl 7 rfl) ?_
                          refine lv_iload hx hb dX12_sums__227 (lv_at hl 5 rfl) ?_
                          refine lv_iadd hx hb dX12_sums__229 ?_
                          refine lv_topi (fun x108 ex108 => ?_)
                          have tx108 : x108.toInt = x26.toInt + y36.toInt := z_tadd ex108 rfl rfl (by omega) (by omega)
                          refine lv_iconst (v := 1) hx hb dX12_sums__230 (by decide) ?_
                          refine lv_iadd hx hb dX12_sums__231 ?_
                          refine lv_topi (fun x109 ex109 => ?_)
                          have tx109 : x109.toInt = x108.toInt + 1 := z_tadd ex109 rfl z_l1 (by omega) (by omega)
                          refine z_cl hW hS hA (va_runV (As := [.int x109]) (rest := []) ⟨hx, hb, hml, hown, hts⟩ (sx_X12_lowOf_u l G ad I J ⟨(by show 0 ≤ (I 0 0).toInt ∧ (I 0 0).toInt ≤ 719; exact hma.1), (by show 0 ≤ (I 0 1).toInt ∧ (I 0 1).toInt ≤ 30; exact hma.2.1), (by show 0 ≤ (I 0 2).toInt ∧ (I 0 2).toInt ≤ 200; exact hma.2.2)⟩ ⟨(by show 0 ≤ (I 0 13).toInt ∧ (I 0 13).toInt ≤ 12; exact hmb.1), (by show 0 ≤ (I 0 14).toInt ∧ (I 0 14).toInt ≤ 288; exact hmb.2)⟩ hAtf hAtm x109 hab (by omega) (by have c1 := z_clt (x := a1) rfl (by omega); have c2 := z_clt (x := a2) rfl (by omega); have c3 := z_clt (x := a3) rfl (by omega); have c4 := z_clt (x := x109) rfl (by omega); rw [show x109.toNatClampNeg = 30 * a1.toNatClampNeg + (y36.toNatClampNeg + 1) by omega]; exact ⟨hTo a1.toNatClampNeg (by omega) (y36.toNatClampNeg + 1) (by omega), hDm a1.toNatClampNeg (by omega) (y36.toNatClampNeg + 1) (by omega)⟩) _) (cwV 1 hts gX12_sums__X12_lowOf rfl rfl rfl (by decide +kernel) ⟨Nat.le_of_ble_eq_true rfl, Nat.le_of_ble_eq_true rfl⟩) (z_preV (i := 0) hK hW rfl rfl) rfl rfl hl.1 rfl (lv_room (Nat.le_of_ble_eq_true rfl)) dX12_sums__232 ⟨Nat.le_of_ble_eq_true rfl, Nat.le_of_ble_eq_true rfl⟩) (fun r u1 H locs hp hW hS => ?_)
                          obtain ⟨e9, hp⟩ := hp
                          rw [e9] at hW
                          refine lv_topl (fun w110 ew110 => ?_)
                          rw [← ew110] at hp
                          have hb112 := hp.2
                          have hl111 : zu_kl I a1.toNatClampNeg a2.toNatClampNeg ((y36.toInt - a2.toInt).toNat + 1) = w110.toInt := by have c1 := z_clt (x := a1) rfl (by omega); have c2 := z_clt (x := a2) rfl (by omega); have c3 := z_clt (x := a3) rfl (by omega); have c4 := z_clt (x := x109) rfl (by omega); unfold zu_kl; rw [show 30 * a1.toNatClampNeg + (a2.toNatClampNeg + ((y36.toInt - a2.toInt).toNat + 1)) = x109.toNatClampNeg by omega]; exact hp.1.symm
                          refine lv_lload hx hb dX12_sums__235 (lv_at hl 3 rfl) ?_
                          refine lv_lsub hx hb dX12_sums__237 ?_
                          refine lv_topl (fun w113 ew113 => ?_)
                          have tw113 : w113.toInt = w110.toInt - (w37.toInt + w65.toInt) := z_tlsub ew113 rfl tw68 (by omega) (by omega)
                          refine lv_lstore (lv' := [(8, .long w113), (12, .int 1), (10, .long w84), (6, .long w69), (13, .long w68), (16, .long w65), (15, .int y36), (5, .int x26), (0, .ref (ad 0)), (1, .int a1), (2, .int a2), (3, .int a3), (4, .int a4)]) hx hb dX12_sums__238 hl (by decide) rfl (fun ls hl => ?_)
                          obtain ⟨x114, ex114⟩ : ∃ y : Int32, y = y36 + 1 := ⟨_, rfl⟩
                          have tx114 : x114.toInt = y36.toInt + 1 := z_tadd ex114 rfl z_l1 (by omega) (by omega)
                          refine lv_iinc (v := x114) (lv' := [(15, .int x114), (8, .long w113), (12, .int 1), (10, .long w84), (6, .long w69), (13, .long w68), (16, .long w65), (5, .int x26), (0, .ref (ad 0)), (1, .int a1), (2, .int a2), (3, .int a3), (4, .int a4)]) hx hb dX12_sums__240 hl (k := 6) rfl (by rw [ex114]; rfl) (by decide) rfl (fun ls hl => ?_)
                          refine lv_goto (tgt := 79) hx hb dX12_sums__243 (by decide) ?_
                          exact lp35ih x114 w68 (1) w84 w113 w69 _ _ _ (by omega) (by omega) (by omega) (by rw [z_l1]; omega) (by rw [z_l1]; omega) (by omega) (by have q9 := lp35S; obtain ⟨⟨s1, s2, s3⟩, ⟨s4, s5, s6⟩, ⟨s7, s8, s9⟩, ⟨t1, t2, t3⟩, t4, t5, t6⟩ := q9; have q1 := z_l1; have q0 := z_l0; exact ⟨⟨by rw [show (x114.toInt - a2.toInt).toNat = (y36.toInt - a2.toInt).toNat + 1 by omega, zu_s_s, hJ66]; omega, by omega, by omega⟩, ⟨by rw [show (x114.toInt - a2.toInt).toNat = (y36.toInt - a2.toInt).toNat + 1 by omega, zu_H, hJ66]; omega, by omega, by omega⟩, ⟨by rw [show (x114.toInt - a2.toInt).toNat = (y36.toInt - a2.toInt).toNat + 1 by omega, zu_L, zu_s_s, hJ66]; omega, by omega, by omega⟩, ⟨by rw [show (x114.toInt - a2.toInt).toNat = (y36.toInt - a2.toInt).toNat + 1 by omega, zu_Z_s, hJ66]; split <;> omega, by omega, by omega⟩, by omega, by omega, by omega⟩) (fun q h1 h2 => by have q9 := lp35S; obtain ⟨_, ⟨s4, _⟩, _⟩ := q9; by_cases e : q = (y36.toInt - a2.toInt).toNat + 1; (· rw [e, zu_H, hJ66]; omega); (· exact lp35K q h1 (by omega))) hW hS (lv_sub hl [0, 5, 2, 3, 1, 4, 7, 8, 9, 10, 11, 12] rfl)
                      · have g115 := z_f_nge rfl z_l0 c94
                        refine lv_ldc2 (v := (-3)) hx hb hown (hts (.constantLong RX12 490 (-3)) (me_s (me_l (me_l (List.mem_of_getElem? (i := 2) rfl))))) dX12_sums__200 ?_
                        exact z_lret hx hb hr hK hS (Nat.le_of_ble_eq_true rfl) (Nat.le_of_ble_eq_true rfl) hlocks dX12_sums__203 (shM, ad, I, J, PM ad) hW ⟨rfl, (Or.inl ⟨by omega, Or.inl ⟨fun ok => absurd (ok ((y36.toInt - a2.toInt).toNat + 1) (by omega) (by have c1 := z_clt (x := a1) rfl (by omega); have c2 := z_clt (x := a2) rfl (by omega); have c3 := z_clt (x := a3) rfl (by omega); have q9 := lp35S; omega)) (by have q9 := lp35S; obtain ⟨_, ⟨s4, _⟩, _⟩ := q9; rw [zu_H, hJ66]; omega), by decide⟩⟩)⟩
                    · have g116 := z_f_ne rfl z_l0 c80
                      refine lv_aload_n hx hb dX12_sums__150 rfl (lv_at hl 8 rfl) ?_
                      refine lv_iload hx hb dX12_sums__151 (lv_at hl 7 rfl) ?_
                      refine lv_iload hx hb dX12_sums__153 (lv_at hl 4 rfl) ?_
                      refine lv_iadd hx hb dX12_sums__155 ?_
                      refine lv_topi (fun x117 ex117 => ?_)
                      have tx117 : x117.toInt = x26.toInt + y36.toInt := z_tadd ex117 rfl rfl (by omega) (by omega)
                      refine lv_iconst (v := 1) hx hb dX12_sums__156 (by decide) ?_
                      refine lv_iadd hx hb dX12_sums__157 ?_
                      refine lv_topi (fun x118 ex118 => ?_)
                      have tx118 : x118.toInt = x117.toInt + 1 := z_tadd ex118 rfl z_l1 (by omega) (by omega)
                      refine z_cl hW hS hA (va_runV (As := [.int x118]) (rest := []) ⟨hx, hb, hml, hown, hts⟩ (sx_X12_highOf_u l G ad I J ⟨(by show 0 ≤ (I 0 0).toInt ∧ (I 0 0).toInt ≤ 719; exact hma.1), (by show 0 ≤ (I 0 1).toInt ∧ (I 0 1).toInt ≤ 30; exact hma.2.1), (by show 0 ≤ (I 0 2).toInt ∧ (I 0 2).toInt ≤ 200; exact hma.2.2)⟩ ⟨(by show 0 ≤ (I 0 13).toInt ∧ (I 0 13).toInt ≤ 12; exact hmb.1), (by show 0 ≤ (I 0 14).toInt ∧ (I 0 14).toInt ≤ 288; exact hmb.2)⟩ hAtf hAtm x118 hab (by omega) (by have c1 := z_clt (x := a1) rfl (by omega); have c2 := z_clt (x := a2) rfl (by omega); have c3 := z_clt (x := a3) rfl (by omega); have c4 := z_clt (x := x118) rfl (by omega); rw [show x118.toNatClampNeg = 30 * a1.toNatClampNeg + (y36.toNatClampNeg + 1) by omega]; exact ⟨hTo a1.toNatClampNeg (by omega) (y36.toNatClampNeg + 1) (by omega), hDm a1.toNatClampNeg (by omega) (y36.toNatClampNeg + 1) (by omega)⟩) _) (cwV 1 hts gX12_sums__X12_highOf rfl rfl rfl (by decide +kernel) ⟨Nat.le_of_ble_eq_true rfl, Nat.le_of_ble_eq_true rfl⟩) (z_preV (i := 0) hK hW rfl rfl) rfl rfl hl.1 rfl (lv_room (Nat.le_of_ble_eq_true rfl)) dX12_sums__158 ⟨Nat.le_of_ble_eq_true rfl, Nat.le_of_ble_eq_true rfl⟩) (fun r u1 H locs hp hW hS => ?_)
                      obtain ⟨e9, hp⟩ := hp
                      rw [e9] at hW
                      refine lv_topl (fun w119 ew119 => ?_)
                      rw [← ew119] at hp
                      have hb121 := hp.2
                      have hl120 : zu_kh I a1.toNatClampNeg a2.toNatClampNeg ((y36.toInt - a2.toInt).toNat + 1) = w119.toInt := by have c1 := z_clt (x := a1) rfl (by omega); have c2 := z_clt (x := a2) rfl (by omega); have c3 := z_clt (x := a3) rfl (by omega); have c4 := z_clt (x := x118) rfl (by omega); unfold zu_kh; rw [show 30 * a1.toNatClampNeg + (a2.toNatClampNeg + ((y36.toInt - a2.toInt).toNat + 1)) = x118.toNatClampNeg by omega]; exact hp.1.symm
                      refine lv_lload hx hb dX12_sums__161 (lv_at hl 0 rfl) ?_
                      refine W.lcmp hx hb dX12_sums__163 ?_
                      refine lv_topi (fun x122 ex122 => ?_)
                      have tx122 := z_tcmp ex122
                      have h123 := z_tlcmp ex122 rfl tw70
                      refine lv_if_ge (tgt := 180) hx hb dX12_sums__164 (by decide) (fun c124 => ?_) (fun c124 => ?_)
                      · have g125 := z_f_ge rfl z_l0 c124
                        refine lv_iconst (v := 1) hx hb dX12_sums__180 (by decide) ?_
                        refine lv_istore (lv' := [(12, .int 1), (10, .long w70), (6, .long w69), (13, .long w68), (16, .long w65), (15, .int y36), (8, .long w40), (5, .int x26), (0, .ref (ad 0)), (1, .int a1), (2, .int a2), (3, .int a3), (4, .int a4)]) hx hb dX12_sums__181 hl (by decide) rfl (fun ls hl => ?_)
                        refine lv_lload hx hb dX12_sums__183 (lv_at hl 2 rfl) ?_
                        refine lv_aload_n hx hb dX12_sums__185 rfl (lv_at hl 8 rfl) ?_
                        refine lv_iload hx hb dX12_sums__186 (lv_at hl 7 rfl) ?_
                        refine lv_iload hx hb dX12_sums__188 (lv_at hl 5 rfl) ?_
                        refine lv_iadd hx hb dX12_sums__190 ?_
                        refine lv_topi (fun x126 ex126 => ?_)
                        have tx126 : x126.toInt = x26.toInt + y36.toInt := z_tadd ex126 rfl rfl (by omega) (by omega)
                        refine lv_iconst (v := 1) hx hb dX12_sums__191 (by decide) ?_
                        refine lv_iadd hx hb dX12_sums__192 ?_
                        refine lv_topi (fun x127 ex127 => ?_)
                        have tx127 : x127.toInt = x126.toInt + 1 := z_tadd ex127 rfl z_l1 (by omega) (by omega)
                        refine z_cl hW hS hA (va_runV (As := [.int x127]) (rest := [.long w69]) ⟨hx, hb, hml, hown, hts⟩ (sx_X12_lowOf_u l G ad I J ⟨(by show 0 ≤ (I 0 0).toInt ∧ (I 0 0).toInt ≤ 719; exact hma.1), (by show 0 ≤ (I 0 1).toInt ∧ (I 0 1).toInt ≤ 30; exact hma.2.1), (by show 0 ≤ (I 0 2).toInt ∧ (I 0 2).toInt ≤ 200; exact hma.2.2)⟩ ⟨(by show 0 ≤ (I 0 13).toInt ∧ (I 0 13).toInt ≤ 12; exact hmb.1), (by show 0 ≤ (I 0 14).toInt ∧ (I 0 14).toInt ≤ 288; exact hmb.2)⟩ hAtf hAtm x127 hab (by omega) (by have c1 := z_clt (x := a1) rfl (by omega); have c2 := z_clt (x := a2) rfl (by omega); have c3 := z_clt (x := a3) rfl (by omega); have c4 := z_clt (x := x127) rfl (by omega); rw [show x127.toNatClampNeg = 30 * a1.toNatClampNeg + (y36.toNatClampNeg + 1) by omega]; exact ⟨hTo a1.toNatClampNeg (by omega) (y36.toNatClampNeg + 1) (by omega), hDm a1.toNatClampNeg (by omega) (y36.toNatClampNeg + 1) (by omega)⟩) _) (cwV 1 hts gX12_sums__X12_lowOf rfl rfl rfl (by decide +kernel) ⟨Nat.le_of_ble_eq_true rfl, Nat.le_of_ble_eq_true rfl⟩) (z_preV (i := 0) hK hW rfl rfl) rfl rfl hl.1 rfl (lv_room (Nat.le_of_ble_eq_true rfl)) dX12_sums__193 ⟨Nat.le_of_ble_eq_true rfl, Nat.le_of_ble_eq_true rfl⟩) (fun r u1 H locs hp hW hS => ?_)
                        obtain ⟨e9, hp⟩ := hp
                        rw [e9] at hW
                        refine lv_topl (fun w128 ew128 => ?_)
                        rw [← ew128] at hp
                        have hb130 := hp.2
                        have hl129 : zu_kl I a1.toNatClampNeg a2.toNatClampNeg ((y36.toInt - a2.toInt).toNat + 1) = w128.toInt := by have c1 := z_clt (x := a1) rfl (by omega); have c2 := z_clt (x := a2) rfl (by omega); have c3 := z_clt (x := a3) rfl (by omega); have c4 := z_clt (x := x127) rfl (by omega); unfold zu_kl; rw [show 30 * a1.toNatClampNeg + (a2.toNatClampNeg + ((y36.toInt - a2.toInt).toNat + 1)) = x127.toNatClampNeg by omega]; exact hp.1.symm
                        refine W.lcmp hx hb dX12_sums__196 ?_
                        refine lv_topi (fun x131 ex131 => ?_)
                        have tx131 := z_tcmp ex131
                        have h132 := z_tlcmp ex131 tw69 rfl
                        refine lv_if_ge (tgt := 204) hx hb dX12_sums__197 (by decide) (fun c133 => ?_) (fun c133 => ?_)
                        · have g134 := z_f_ge rfl z_l0 c133
                          refine lv_aload_n hx hb dX12_sums__204 rfl (lv_at hl 8 rfl) ?_
                          refine lv_iload hx hb dX12_sums__205 (lv_at hl 7 rfl) ?_
                          refine lv_iload hx hb dX12_sums__207 (lv_at hl 5 rfl) ?_
                          refine lv_iadd hx hb dX12_sums__209 ?_
                          refine lv_topi (fun x135 ex135 => ?_)
                          have tx135 : x135.toInt = x26.toInt + y36.toInt := z_tadd ex135 rfl rfl (by omega) (by omega)
                          refine lv_iconst (v := 1) hx hb dX12_sums__210 (by decide) ?_
                          refine lv_iadd hx hb dX12_sums__211 ?_
                          refine lv_topi (fun x136 ex136 => ?_)
                          have tx136 : x136.toInt = x135.toInt + 1 := z_tadd ex136 rfl z_l1 (by omega) (by omega)
                          refine z_cl hW hS hA (va_runV (As := [.int x136]) (rest := []) ⟨hx, hb, hml, hown, hts⟩ (sx_X12_lowOf_u l G ad I J ⟨(by show 0 ≤ (I 0 0).toInt ∧ (I 0 0).toInt ≤ 719; exact hma.1), (by show 0 ≤ (I 0 1).toInt ∧ (I 0 1).toInt ≤ 30; exact hma.2.1), (by show 0 ≤ (I 0 2).toInt ∧ (I 0 2).toInt ≤ 200; exact hma.2.2)⟩ ⟨(by show 0 ≤ (I 0 13).toInt ∧ (I 0 13).toInt ≤ 12; exact hmb.1), (by show 0 ≤ (I 0 14).toInt ∧ (I 0 14).toInt ≤ 288; exact hmb.2)⟩ hAtf hAtm x136 hab (by omega) (by have c1 := z_clt (x := a1) rfl (by omega); have c2 := z_clt (x := a2) rfl (by omega); have c3 := z_clt (x := a3) rfl (by omega); have c4 := z_clt (x := x136) rfl (by omega); rw [show x136.toNatClampNeg = 30 * a1.toNatClampNeg + (y36.toNatClampNeg + 1) by omega]; exact ⟨hTo a1.toNatClampNeg (by omega) (y36.toNatClampNeg + 1) (by omega), hDm a1.toNatClampNeg (by omega) (y36.toNatClampNeg + 1) (by omega)⟩) _) (cwV 1 hts gX12_sums__X12_lowOf rfl rfl rfl (by decide +kernel) ⟨Nat.le_of_ble_eq_true rfl, Nat.le_of_ble_eq_true rfl⟩) (z_preV (i := 0) hK hW rfl rfl) rfl rfl hl.1 rfl (lv_room (Nat.le_of_ble_eq_true rfl)) dX12_sums__212 ⟨Nat.le_of_ble_eq_true rfl, Nat.le_of_ble_eq_true rfl⟩) (fun r u1 H locs hp hW hS => ?_)
                          obtain ⟨e9, hp⟩ := hp
                          rw [e9] at hW
                          refine lv_topl (fun w137 ew137 => ?_)
                          rw [← ew137] at hp
                          have hb139 := hp.2
                          have hl138 : zu_kl I a1.toNatClampNeg a2.toNatClampNeg ((y36.toInt - a2.toInt).toNat + 1) = w137.toInt := by have c1 := z_clt (x := a1) rfl (by omega); have c2 := z_clt (x := a2) rfl (by omega); have c3 := z_clt (x := a3) rfl (by omega); have c4 := z_clt (x := x136) rfl (by omega); unfold zu_kl; rw [show 30 * a1.toNatClampNeg + (a2.toNatClampNeg + ((y36.toInt - a2.toInt).toNat + 1)) = x136.toNatClampNeg by omega]; exact hp.1.symm
                          refine lv_lload hx hb dX12_sums__215 (lv_at hl 3 rfl) ?_
                          refine lv_lsub hx hb dX12_sums__217 ?_
                          refine lv_topl (fun w140 ew140 => ?_)
                          have tw140 : w140.toInt = w137.toInt - (w37.toInt + w65.toInt) := z_tlsub ew140 rfl tw68 (by omega) (by omega)
                          refine lv_lload hx hb dX12_sums__218 (lv_at hl 6 rfl) ?_
                          refine W.lcmp hx hb dX12_sums__220 ?_
                          refine lv_topi (fun x141 ex141 => ?_)
                          have tx141 := z_tcmp ex141
                          have h142 := z_tlcmp ex141 tw140 rfl
                          refine lv_if_le (tgt := 240) hx hb dX12_sums__221 (by decide) (fun c143 => ?_) (fun c143 => ?_)
                          · have g144 := z_f_le rfl z_l0 c143
                            obtain ⟨x145, ex145⟩ : ∃ y : Int32, y = y36 + 1 := ⟨_, rfl⟩
                            have tx145 : x145.toInt = y36.toInt + 1 := z_tadd ex145 rfl z_l1 (by omega) (by omega)
                            refine lv_iinc (v := x145) (lv' := [(15, .int x145), (12, .int 1), (10, .long w70), (6, .long w69), (13, .long w68), (16, .long w65), (8, .long w40), (5, .int x26), (0, .ref (ad 0)), (1, .int a1), (2, .int a2), (3, .int a3), (4, .int a4)]) hx hb dX12_sums__240 hl (k := 5) rfl (by rw [ex145]; rfl) (by decide) rfl (fun ls hl => ?_)
                            refine lv_goto (tgt := 79) hx hb dX12_sums__243 (by decide) ?_
                            exact lp35ih x145 w68 (1) w70 w40 w69 _ _ _ (by omega) (by omega) (by omega) (by rw [z_l1]; omega) (by rw [z_l1]; omega) (by omega) (by have q9 := lp35S; obtain ⟨⟨s1, s2, s3⟩, ⟨s4, s5, s6⟩, ⟨s7, s8, s9⟩, ⟨t1, t2, t3⟩, t4, t5, t6⟩ := q9; have q1 := z_l1; have q0 := z_l0; exact ⟨⟨by rw [show (x145.toInt - a2.toInt).toNat = (y36.toInt - a2.toInt).toNat + 1 by omega, zu_s_s, hJ66]; omega, by omega, by omega⟩, ⟨by rw [show (x145.toInt - a2.toInt).toNat = (y36.toInt - a2.toInt).toNat + 1 by omega, zu_H, hJ66]; omega, by omega, by omega⟩, ⟨by rw [show (x145.toInt - a2.toInt).toNat = (y36.toInt - a2.toInt).toNat + 1 by omega, zu_L, zu_s_s, hJ66]; omega, by omega, by omega⟩, ⟨by rw [show (x145.toInt - a2.toInt).toNat = (y36.toInt - a2.toInt).toNat + 1 by omega, zu_Z_s, hJ66]; split <;> omega, by omega, by omega⟩, by omega, by omega, by omega⟩) (fun q h1 h2 => by have q9 := lp35S; obtain ⟨_, ⟨s4, _⟩, _⟩ := q9; by_cases e : q = (y36.toInt - a2.toInt).toNat + 1; (· rw [e, zu_H, hJ66]; omega); (· exact lp35K q h1 (by omega))) hW hS (lv_sub hl [0, 4, 1, 2, 6, 3, 7, 8, 9, 10, 11, 12] rfl)
                          · have g146 := z_f_nle rfl z_l0 c143
                            refine lv_aload_n hx hb dX12_sums__224 rfl (lv_at hl 8 rfl) ?_
                            refine lv_iload hx hb dX12_sums__225 (lv_at hl 7 rfl) ?_
                            refine lv_iload hx hb dX12_sums__227 (lv_at hl 5 rfl) ?_
                            refine lv_iadd hx hb dX12_sums__229 ?_
                            refine lv_topi (fun x147 ex147 => ?_)
                            have tx147 : x147.toInt = x26.toInt + y36.toInt := z_tadd ex147 rfl rfl (by omega) (by omega)
                            refine lv_iconst (v := 1) hx hb dX12_sums__230 (by decide) ?_
                            refine lv_iadd hx hb dX12_sums__231 ?_
                            refine lv_topi (fun x148 ex148 => ?_)
                            have tx148 : x148.toInt = x147.toInt + 1 := z_tadd ex148 rfl z_l1 (by omega) (by omega)
                            refine z_cl hW hS hA (va_runV (As := [.int x148]) (rest := []) ⟨hx, hb, hml, hown, hts⟩ (sx_X12_lowOf_u l G ad I J ⟨(by show 0 ≤ (I 0 0).toInt ∧ (I 0 0).toInt ≤ 719; exact hma.1), (by show 0 ≤ (I 0 1).toInt ∧ (I 0 1).toInt ≤ 30; exact hma.2.1), (by show 0 ≤ (I 0 2).toInt ∧ (I 0 2).toInt ≤ 200; exact hma.2.2)⟩ ⟨(by show 0 ≤ (I 0 13).toInt ∧ (I 0 13).toInt ≤ 12; exact hmb.1), (by show 0 ≤ (I 0 14).toInt ∧ (I 0 14).toInt ≤ 288; exact hmb.2)⟩ hAtf hAtm x148 hab (by omega) (by have c1 := z_clt (x := a1) rfl (by omega); have c2 := z_clt (x := a2) rfl (by omega); have c3 := z_clt (x := a3) rfl (by omega); have c4 := z_clt (x := x148) rfl (by omega); rw [show x148.toNatClampNeg = 30 * a1.toNatClampNeg + (y36.toNatClampNeg + 1) by omega]; exact ⟨hTo a1.toNatClampNeg (by omega) (y36.toNatClampNeg + 1) (by omega), hDm a1.toNatClampNeg (by omega) (y36.toNatClampNeg + 1) (by omega)⟩) _) (cwV 1 hts gX12_sums__X12_lowOf rfl rfl rfl (by decide +kernel) ⟨Nat.le_of_ble_eq_true rfl, Nat.le_of_ble_eq_true rfl⟩) (z_preV (i := 0) hK hW rfl rfl) rfl rfl hl.1 rfl (lv_room (Nat.le_of_ble_eq_true rfl)) dX12_sums__232 ⟨Nat.le_of_ble_eq_true rfl, Nat.le_of_ble_eq_true rfl⟩) (fun r u1 H locs hp hW hS => ?_)
                            obtain ⟨e9, hp⟩ := hp
                            rw [e9] at hW
                            refine lv_topl (fun w149 ew149 => ?_)
                            rw [← ew149] at hp
                            have hb151 := hp.2
                            have hl150 : zu_kl I a1.toNatClampNeg a2.toNatClampNeg ((y36.toInt - a2.toInt).toNat + 1) = w149.toInt := by have c1 := z_clt (x := a1) rfl (by omega); have c2 := z_clt (x := a2) rfl (by omega); have c3 := z_clt (x := a3) rfl (by omega); have c4 := z_clt (x := x148) rfl (by omega); unfold zu_kl; rw [show 30 * a1.toNatClampNeg + (a2.toNatClampNeg + ((y36.toInt - a2.toInt).toNat + 1)) = x148.toNatClampNeg by omega]; exact hp.1.symm
                            refine lv_lload hx hb dX12_sums__235 (lv_at hl 3 rfl) ?_
                            refine lv_lsub hx hb dX12_sums__237 ?_
                            refine lv_topl (fun w152 ew152 => ?_)
                            have tw152 : w152.toInt = w149.toInt - (w37.toInt + w65.toInt) := z_tlsub ew152 rfl tw68 (by omega) (by omega)
                            refine lv_lstore (lv' := [(8, .long w152), (12, .int 1), (10, .long w70), (6, .long w69), (13, .long w68), (16, .long w65), (15, .int y36), (5, .int x26), (0, .ref (ad 0)), (1, .int a1), (2, .int a2), (3, .int a3), (4, .int a4)]) hx hb dX12_sums__238 hl (by decide) rfl (fun ls hl => ?_)
                            obtain ⟨x153, ex153⟩ : ∃ y : Int32, y = y36 + 1 := ⟨_, rfl⟩
                            have tx153 : x153.toInt = y36.toInt + 1 := z_tadd ex153 rfl z_l1 (by omega) (by omega)
                            refine lv_iinc (v := x153) (lv' := [(15, .int x153), (8, .long w152), (12, .int 1), (10, .long w70), (6, .long w69), (13, .long w68), (16, .long w65), (5, .int x26), (0, .ref (ad 0)), (1, .int a1), (2, .int a2), (3, .int a3), (4, .int a4)]) hx hb dX12_sums__240 hl (k := 6) rfl (by rw [ex153]; rfl) (by decide) rfl (fun ls hl => ?_)
                            refine lv_goto (tgt := 79) hx hb dX12_sums__243 (by decide) ?_
                            exact lp35ih x153 w68 (1) w70 w152 w69 _ _ _ (by omega) (by omega) (by omega) (by rw [z_l1]; omega) (by rw [z_l1]; omega) (by omega) (by have q9 := lp35S; obtain ⟨⟨s1, s2, s3⟩, ⟨s4, s5, s6⟩, ⟨s7, s8, s9⟩, ⟨t1, t2, t3⟩, t4, t5, t6⟩ := q9; have q1 := z_l1; have q0 := z_l0; exact ⟨⟨by rw [show (x153.toInt - a2.toInt).toNat = (y36.toInt - a2.toInt).toNat + 1 by omega, zu_s_s, hJ66]; omega, by omega, by omega⟩, ⟨by rw [show (x153.toInt - a2.toInt).toNat = (y36.toInt - a2.toInt).toNat + 1 by omega, zu_H, hJ66]; omega, by omega, by omega⟩, ⟨by rw [show (x153.toInt - a2.toInt).toNat = (y36.toInt - a2.toInt).toNat + 1 by omega, zu_L, zu_s_s, hJ66]; omega, by omega, by omega⟩, ⟨by rw [show (x153.toInt - a2.toInt).toNat = (y36.toInt - a2.toInt).toNat + 1 by omega, zu_Z_s, hJ66]; split <;> omega, by omega, by omega⟩, by omega, by omega, by omega⟩) (fun q h1 h2 => by have q9 := lp35S; obtain ⟨_, ⟨s4, _⟩, _⟩ := q9; by_cases e : q = (y36.toInt - a2.toInt).toNat + 1; (· rw [e, zu_H, hJ66]; omega); (· exact lp35K q h1 (by omega))) hW hS (lv_sub hl [0, 5, 2, 3, 1, 4, 7, 8, 9, 10, 11, 12] rfl)
                        · have g154 := z_f_nge rfl z_l0 c133
                          refine lv_ldc2 (v := (-3)) hx hb hown (hts (.constantLong RX12 490 (-3)) (me_s (me_l (me_l (List.mem_of_getElem? (i := 2) rfl))))) dX12_sums__200 ?_
                          exact z_lret hx hb hr hK hS (Nat.le_of_ble_eq_true rfl) (Nat.le_of_ble_eq_true rfl) hlocks dX12_sums__203 (shM, ad, I, J, PM ad) hW ⟨rfl, (Or.inl ⟨by omega, Or.inl ⟨fun ok => absurd (ok ((y36.toInt - a2.toInt).toNat + 1) (by omega) (by have c1 := z_clt (x := a1) rfl (by omega); have c2 := z_clt (x := a2) rfl (by omega); have c3 := z_clt (x := a3) rfl (by omega); have q9 := lp35S; omega)) (by have q9 := lp35S; obtain ⟨_, ⟨s4, _⟩, _⟩ := q9; rw [zu_H, hJ66]; omega), by decide⟩⟩)⟩
                      · have g155 := z_f_nge rfl z_l0 c124
                        refine lv_aload_n hx hb dX12_sums__167 rfl (lv_at hl 8 rfl) ?_
                        refine lv_iload hx hb dX12_sums__168 (lv_at hl 7 rfl) ?_
                        refine lv_iload hx hb dX12_sums__170 (lv_at hl 4 rfl) ?_
                        refine lv_iadd hx hb dX12_sums__172 ?_
                        refine lv_topi (fun x156 ex156 => ?_)
                        have tx156 : x156.toInt = x26.toInt + y36.toInt := z_tadd ex156 rfl rfl (by omega) (by omega)
                        refine lv_iconst (v := 1) hx hb dX12_sums__173 (by decide) ?_
                        refine lv_iadd hx hb dX12_sums__174 ?_
                        refine lv_topi (fun x157 ex157 => ?_)
                        have tx157 : x157.toInt = x156.toInt + 1 := z_tadd ex157 rfl z_l1 (by omega) (by omega)
                        refine z_cl hW hS hA (va_runV (As := [.int x157]) (rest := []) ⟨hx, hb, hml, hown, hts⟩ (sx_X12_highOf_u l G ad I J ⟨(by show 0 ≤ (I 0 0).toInt ∧ (I 0 0).toInt ≤ 719; exact hma.1), (by show 0 ≤ (I 0 1).toInt ∧ (I 0 1).toInt ≤ 30; exact hma.2.1), (by show 0 ≤ (I 0 2).toInt ∧ (I 0 2).toInt ≤ 200; exact hma.2.2)⟩ ⟨(by show 0 ≤ (I 0 13).toInt ∧ (I 0 13).toInt ≤ 12; exact hmb.1), (by show 0 ≤ (I 0 14).toInt ∧ (I 0 14).toInt ≤ 288; exact hmb.2)⟩ hAtf hAtm x157 hab (by omega) (by have c1 := z_clt (x := a1) rfl (by omega); have c2 := z_clt (x := a2) rfl (by omega); have c3 := z_clt (x := a3) rfl (by omega); have c4 := z_clt (x := x157) rfl (by omega); rw [show x157.toNatClampNeg = 30 * a1.toNatClampNeg + (y36.toNatClampNeg + 1) by omega]; exact ⟨hTo a1.toNatClampNeg (by omega) (y36.toNatClampNeg + 1) (by omega), hDm a1.toNatClampNeg (by omega) (y36.toNatClampNeg + 1) (by omega)⟩) _) (cwV 1 hts gX12_sums__X12_highOf rfl rfl rfl (by decide +kernel) ⟨Nat.le_of_ble_eq_true rfl, Nat.le_of_ble_eq_true rfl⟩) (z_preV (i := 0) hK hW rfl rfl) rfl rfl hl.1 rfl (lv_room (Nat.le_of_ble_eq_true rfl)) dX12_sums__175 ⟨Nat.le_of_ble_eq_true rfl, Nat.le_of_ble_eq_true rfl⟩) (fun r u1 H locs hp hW hS => ?_)
                        obtain ⟨e9, hp⟩ := hp
                        rw [e9] at hW
                        refine lv_topl (fun w158 ew158 => ?_)
                        rw [← ew158] at hp
                        have hb160 := hp.2
                        have hl159 : zu_kh I a1.toNatClampNeg a2.toNatClampNeg ((y36.toInt - a2.toInt).toNat + 1) = w158.toInt := by have c1 := z_clt (x := a1) rfl (by omega); have c2 := z_clt (x := a2) rfl (by omega); have c3 := z_clt (x := a3) rfl (by omega); have c4 := z_clt (x := x157) rfl (by omega); unfold zu_kh; rw [show 30 * a1.toNatClampNeg + (a2.toNatClampNeg + ((y36.toInt - a2.toInt).toNat + 1)) = x157.toNatClampNeg by omega]; exact hp.1.symm
                        refine lv_lstore (lv' := [(10, .long w158), (6, .long w69), (13, .long w68), (16, .long w65), (15, .int y36), (12, .int y38), (8, .long w40), (5, .int x26), (0, .ref (ad 0)), (1, .int a1), (2, .int a2), (3, .int a3), (4, .int a4)]) hx hb dX12_sums__178 hl (by decide) rfl (fun ls hl => ?_)
                        refine lv_iconst (v := 1) hx hb dX12_sums__180 (by decide) ?_
                        refine lv_istore (lv' := [(12, .int 1), (10, .long w158), (6, .long w69), (13, .long w68), (16, .long w65), (15, .int y36), (8, .long w40), (5, .int x26), (0, .ref (ad 0)), (1, .int a1), (2, .int a2), (3, .int a3), (4, .int a4)]) hx hb dX12_sums__181 hl (by decide) rfl (fun ls hl => ?_)
                        refine lv_lload hx hb dX12_sums__183 (lv_at hl 2 rfl) ?_
                        refine lv_aload_n hx hb dX12_sums__185 rfl (lv_at hl 8 rfl) ?_
                        refine lv_iload hx hb dX12_sums__186 (lv_at hl 7 rfl) ?_
                        refine lv_iload hx hb dX12_sums__188 (lv_at hl 5 rfl) ?_
                        refine lv_iadd hx hb dX12_sums__190 ?_
                        refine lv_topi (fun x161 ex161 => ?_)
                        have tx161 : x161.toInt = x26.toInt + y36.toInt := z_tadd ex161 rfl rfl (by omega) (by omega)
                        refine lv_iconst (v := 1) hx hb dX12_sums__191 (by decide) ?_
                        refine lv_iadd hx hb dX12_sums__192 ?_
                        refine lv_topi (fun x162 ex162 => ?_)
                        have tx162 : x162.toInt = x161.toInt + 1 := z_tadd ex162 rfl z_l1 (by omega) (by omega)
                        refine z_cl hW hS hA (va_runV (As := [.int x162]) (rest := [.long w69]) ⟨hx, hb, hml, hown, hts⟩ (sx_X12_lowOf_u l G ad I J ⟨(by show 0 ≤ (I 0 0).toInt ∧ (I 0 0).toInt ≤ 719; exact hma.1), (by show 0 ≤ (I 0 1).toInt ∧ (I 0 1).toInt ≤ 30; exact hma.2.1), (by show 0 ≤ (I 0 2).toInt ∧ (I 0 2).toInt ≤ 200; exact hma.2.2)⟩ ⟨(by show 0 ≤ (I 0 13).toInt ∧ (I 0 13).toInt ≤ 12; exact hmb.1), (by show 0 ≤ (I 0 14).toInt ∧ (I 0 14).toInt ≤ 288; exact hmb.2)⟩ hAtf hAtm x162 hab (by omega) (by have c1 := z_clt (x := a1) rfl (by omega); have c2 := z_clt (x := a2) rfl (by omega); have c3 := z_clt (x := a3) rfl (by omega); have c4 := z_clt (x := x162) rfl (by omega); rw [show x162.toNatClampNeg = 30 * a1.toNatClampNeg + (y36.toNatClampNeg + 1) by omega]; exact ⟨hTo a1.toNatClampNeg (by omega) (y36.toNatClampNeg + 1) (by omega), hDm a1.toNatClampNeg (by omega) (y36.toNatClampNeg + 1) (by omega)⟩) _) (cwV 1 hts gX12_sums__X12_lowOf rfl rfl rfl (by decide +kernel) ⟨Nat.le_of_ble_eq_true rfl, Nat.le_of_ble_eq_true rfl⟩) (z_preV (i := 0) hK hW rfl rfl) rfl rfl hl.1 rfl (lv_room (Nat.le_of_ble_eq_true rfl)) dX12_sums__193 ⟨Nat.le_of_ble_eq_true rfl, Nat.le_of_ble_eq_true rfl⟩) (fun r u1 H locs hp hW hS => ?_)
                        obtain ⟨e9, hp⟩ := hp
                        rw [e9] at hW
                        refine lv_topl (fun w163 ew163 => ?_)
                        rw [← ew163] at hp
                        have hb165 := hp.2
                        have hl164 : zu_kl I a1.toNatClampNeg a2.toNatClampNeg ((y36.toInt - a2.toInt).toNat + 1) = w163.toInt := by have c1 := z_clt (x := a1) rfl (by omega); have c2 := z_clt (x := a2) rfl (by omega); have c3 := z_clt (x := a3) rfl (by omega); have c4 := z_clt (x := x162) rfl (by omega); unfold zu_kl; rw [show 30 * a1.toNatClampNeg + (a2.toNatClampNeg + ((y36.toInt - a2.toInt).toNat + 1)) = x162.toNatClampNeg by omega]; exact hp.1.symm
                        refine W.lcmp hx hb dX12_sums__196 ?_
                        refine lv_topi (fun x166 ex166 => ?_)
                        have tx166 := z_tcmp ex166
                        have h167 := z_tlcmp ex166 tw69 rfl
                        refine lv_if_ge (tgt := 204) hx hb dX12_sums__197 (by decide) (fun c168 => ?_) (fun c168 => ?_)
                        · have g169 := z_f_ge rfl z_l0 c168
                          refine lv_aload_n hx hb dX12_sums__204 rfl (lv_at hl 8 rfl) ?_
                          refine lv_iload hx hb dX12_sums__205 (lv_at hl 7 rfl) ?_
                          refine lv_iload hx hb dX12_sums__207 (lv_at hl 5 rfl) ?_
                          refine lv_iadd hx hb dX12_sums__209 ?_
                          refine lv_topi (fun x170 ex170 => ?_)
                          have tx170 : x170.toInt = x26.toInt + y36.toInt := z_tadd ex170 rfl rfl (by omega) (by omega)
                          refine lv_iconst (v := 1) hx hb dX12_sums__210 (by decide) ?_
                          refine lv_iadd hx hb dX12_sums__211 ?_
                          refine lv_topi (fun x171 ex171 => ?_)
                          have tx171 : x171.toInt = x170.toInt + 1 := z_tadd ex171 rfl z_l1 (by omega) (by omega)
                          refine z_cl hW hS hA (va_runV (As := [.int x171]) (rest := []) ⟨hx, hb, hml, hown, hts⟩ (sx_X12_lowOf_u l G ad I J ⟨(by show 0 ≤ (I 0 0).toInt ∧ (I 0 0).toInt ≤ 719; exact hma.1), (by show 0 ≤ (I 0 1).toInt ∧ (I 0 1).toInt ≤ 30; exact hma.2.1), (by show 0 ≤ (I 0 2).toInt ∧ (I 0 2).toInt ≤ 200; exact hma.2.2)⟩ ⟨(by show 0 ≤ (I 0 13).toInt ∧ (I 0 13).toInt ≤ 12; exact hmb.1), (by show 0 ≤ (I 0 14).toInt ∧ (I 0 14).toInt ≤ 288; exact hmb.2)⟩ hAtf hAtm x171 hab (by omega) (by have c1 := z_clt (x := a1) rfl (by omega); have c2 := z_clt (x := a2) rfl (by omega); have c3 := z_clt (x := a3) rfl (by omega); have c4 := z_clt (x := x171) rfl (by omega); rw [show x171.toNatClampNeg = 30 * a1.toNatClampNeg + (y36.toNatClampNeg + 1) by omega]; exact ⟨hTo a1.toNatClampNeg (by omega) (y36.toNatClampNeg + 1) (by omega), hDm a1.toNatClampNeg (by omega) (y36.toNatClampNeg + 1) (by omega)⟩) _) (cwV 1 hts gX12_sums__X12_lowOf rfl rfl rfl (by decide +kernel) ⟨Nat.le_of_ble_eq_true rfl, Nat.le_of_ble_eq_true rfl⟩) (z_preV (i := 0) hK hW rfl rfl) rfl rfl hl.1 rfl (lv_room (Nat.le_of_ble_eq_true rfl)) dX12_sums__212 ⟨Nat.le_of_ble_eq_true rfl, Nat.le_of_ble_eq_true rfl⟩) (fun r u1 H locs hp hW hS => ?_)
                          obtain ⟨e9, hp⟩ := hp
                          rw [e9] at hW
                          refine lv_topl (fun w172 ew172 => ?_)
                          rw [← ew172] at hp
                          have hb174 := hp.2
                          have hl173 : zu_kl I a1.toNatClampNeg a2.toNatClampNeg ((y36.toInt - a2.toInt).toNat + 1) = w172.toInt := by have c1 := z_clt (x := a1) rfl (by omega); have c2 := z_clt (x := a2) rfl (by omega); have c3 := z_clt (x := a3) rfl (by omega); have c4 := z_clt (x := x171) rfl (by omega); unfold zu_kl; rw [show 30 * a1.toNatClampNeg + (a2.toNatClampNeg + ((y36.toInt - a2.toInt).toNat + 1)) = x171.toNatClampNeg by omega]; exact hp.1.symm
                          refine lv_lload hx hb dX12_sums__215 (lv_at hl 3 rfl) ?_
                          refine lv_lsub hx hb dX12_sums__217 ?_
                          refine lv_topl (fun w175 ew175 => ?_)
                          have tw175 : w175.toInt = w172.toInt - (w37.toInt + w65.toInt) := z_tlsub ew175 rfl tw68 (by omega) (by omega)
                          refine lv_lload hx hb dX12_sums__218 (lv_at hl 6 rfl) ?_
                          refine W.lcmp hx hb dX12_sums__220 ?_
                          refine lv_topi (fun x176 ex176 => ?_)
                          have tx176 := z_tcmp ex176
                          have h177 := z_tlcmp ex176 tw175 rfl
                          refine lv_if_le (tgt := 240) hx hb dX12_sums__221 (by decide) (fun c178 => ?_) (fun c178 => ?_)
                          · have g179 := z_f_le rfl z_l0 c178
                            obtain ⟨x180, ex180⟩ : ∃ y : Int32, y = y36 + 1 := ⟨_, rfl⟩
                            have tx180 : x180.toInt = y36.toInt + 1 := z_tadd ex180 rfl z_l1 (by omega) (by omega)
                            refine lv_iinc (v := x180) (lv' := [(15, .int x180), (12, .int 1), (10, .long w158), (6, .long w69), (13, .long w68), (16, .long w65), (8, .long w40), (5, .int x26), (0, .ref (ad 0)), (1, .int a1), (2, .int a2), (3, .int a3), (4, .int a4)]) hx hb dX12_sums__240 hl (k := 5) rfl (by rw [ex180]; rfl) (by decide) rfl (fun ls hl => ?_)
                            refine lv_goto (tgt := 79) hx hb dX12_sums__243 (by decide) ?_
                            exact lp35ih x180 w68 (1) w158 w40 w69 _ _ _ (by omega) (by omega) (by omega) (by rw [z_l1]; omega) (by rw [z_l1]; omega) (by omega) (by have q9 := lp35S; obtain ⟨⟨s1, s2, s3⟩, ⟨s4, s5, s6⟩, ⟨s7, s8, s9⟩, ⟨t1, t2, t3⟩, t4, t5, t6⟩ := q9; have q1 := z_l1; have q0 := z_l0; exact ⟨⟨by rw [show (x180.toInt - a2.toInt).toNat = (y36.toInt - a2.toInt).toNat + 1 by omega, zu_s_s, hJ66]; omega, by omega, by omega⟩, ⟨by rw [show (x180.toInt - a2.toInt).toNat = (y36.toInt - a2.toInt).toNat + 1 by omega, zu_H, hJ66]; omega, by omega, by omega⟩, ⟨by rw [show (x180.toInt - a2.toInt).toNat = (y36.toInt - a2.toInt).toNat + 1 by omega, zu_L, zu_s_s, hJ66]; omega, by omega, by omega⟩, ⟨by rw [show (x180.toInt - a2.toInt).toNat = (y36.toInt - a2.toInt).toNat + 1 by omega, zu_Z_s, hJ66]; split <;> omega, by omega, by omega⟩, by omega, by omega, by omega⟩) (fun q h1 h2 => by have q9 := lp35S; obtain ⟨_, ⟨s4, _⟩, _⟩ := q9; by_cases e : q = (y36.toInt - a2.toInt).toNat + 1; (· rw [e, zu_H, hJ66]; omega); (· exact lp35K q h1 (by omega))) hW hS (lv_sub hl [0, 4, 1, 2, 6, 3, 7, 8, 9, 10, 11, 12] rfl)
                          · have g181 := z_f_nle rfl z_l0 c178
                            refine lv_aload_n hx hb dX12_sums__224 rfl (lv_at hl 8 rfl) ?_
                            refine lv_iload hx hb dX12_sums__225 (lv_at hl 7 rfl) ?_
                            refine lv_iload hx hb dX12_sums__227 (lv_at hl 5 rfl) ?_
                            refine lv_iadd hx hb dX12_sums__229 ?_
                            refine lv_topi (fun x182 ex182 => ?_)
                            have tx182 : x182.toInt = x26.toInt + y36.toInt := z_tadd ex182 rfl rfl (by omega) (by omega)
                            refine lv_iconst (v := 1) hx hb dX12_sums__230 (by decide) ?_
                            refine lv_iadd hx hb dX12_sums__231 ?_
                            refine lv_topi (fun x183 ex183 => ?_)
                            have tx183 : x183.toInt = x182.toInt + 1 := z_tadd ex183 rfl z_l1 (by omega) (by omega)
                            refine z_cl hW hS hA (va_runV (As := [.int x183]) (rest := []) ⟨hx, hb, hml, hown, hts⟩ (sx_X12_lowOf_u l G ad I J ⟨(by show 0 ≤ (I 0 0).toInt ∧ (I 0 0).toInt ≤ 719; exact hma.1), (by show 0 ≤ (I 0 1).toInt ∧ (I 0 1).toInt ≤ 30; exact hma.2.1), (by show 0 ≤ (I 0 2).toInt ∧ (I 0 2).toInt ≤ 200; exact hma.2.2)⟩ ⟨(by show 0 ≤ (I 0 13).toInt ∧ (I 0 13).toInt ≤ 12; exact hmb.1), (by show 0 ≤ (I 0 14).toInt ∧ (I 0 14).toInt ≤ 288; exact hmb.2)⟩ hAtf hAtm x183 hab (by omega) (by have c1 := z_clt (x := a1) rfl (by omega); have c2 := z_clt (x := a2) rfl (by omega); have c3 := z_clt (x := a3) rfl (by omega); have c4 := z_clt (x := x183) rfl (by omega); rw [show x183.toNatClampNeg = 30 * a1.toNatClampNeg + (y36.toNatClampNeg + 1) by omega]; exact ⟨hTo a1.toNatClampNeg (by omega) (y36.toNatClampNeg + 1) (by omega), hDm a1.toNatClampNeg (by omega) (y36.toNatClampNeg + 1) (by omega)⟩) _) (cwV 1 hts gX12_sums__X12_lowOf rfl rfl rfl (by decide +kernel) ⟨Nat.le_of_ble_eq_true rfl, Nat.le_of_ble_eq_true rfl⟩) (z_preV (i := 0) hK hW rfl rfl) rfl rfl hl.1 rfl (lv_room (Nat.le_of_ble_eq_true rfl)) dX12_sums__232 ⟨Nat.le_of_ble_eq_true rfl, Nat.le_of_ble_eq_true rfl⟩) (fun r u1 H locs hp hW hS => ?_)
                            obtain ⟨e9, hp⟩ := hp
                            rw [e9] at hW
                            refine lv_topl (fun w184 ew184 => ?_)
                            rw [← ew184] at hp
                            have hb186 := hp.2
                            have hl185 : zu_kl I a1.toNatClampNeg a2.toNatClampNeg ((y36.toInt - a2.toInt).toNat + 1) = w184.toInt := by have c1 := z_clt (x := a1) rfl (by omega); have c2 := z_clt (x := a2) rfl (by omega); have c3 := z_clt (x := a3) rfl (by omega); have c4 := z_clt (x := x183) rfl (by omega); unfold zu_kl; rw [show 30 * a1.toNatClampNeg + (a2.toNatClampNeg + ((y36.toInt - a2.toInt).toNat + 1)) = x183.toNatClampNeg by omega]; exact hp.1.symm
                            refine lv_lload hx hb dX12_sums__235 (lv_at hl 3 rfl) ?_
                            refine lv_lsub hx hb dX12_sums__237 ?_
                            refine lv_topl (fun w187 ew187 => ?_)
                            have tw187 : w187.toInt = w184.toInt - (w37.toInt + w65.toInt) := z_tlsub ew187 rfl tw68 (by omega) (by omega)
                            refine lv_lstore (lv' := [(8, .long w187), (12, .int 1), (10, .long w158), (6, .long w69), (13, .long w68), (16, .long w65), (15, .int y36), (5, .int x26), (0, .ref (ad 0)), (1, .int a1), (2, .int a2), (3, .int a3), (4, .int a4)]) hx hb dX12_sums__238 hl (by decide) rfl (fun ls hl => ?_)
                            obtain ⟨x188, ex188⟩ : ∃ y : Int32, y = y36 + 1 := ⟨_, rfl⟩
                            have tx188 : x188.toInt = y36.toInt + 1 := z_tadd ex188 rfl z_l1 (by omega) (by omega)
                            refine lv_iinc (v := x188) (lv' := [(15, .int x188), (8, .long w187), (12, .int 1), (10, .long w158), (6, .long w69), (13, .long w68), (16, .long w65), (5, .int x26), (0, .ref (ad 0)), (1, .int a1), (2, .int a2), (3, .int a3), (4, .int a4)]) hx hb dX12_sums__240 hl (k := 6) rfl (by rw [ex188]; rfl) (by decide) rfl (fun ls hl => ?_)
                            refine lv_goto (tgt := 79) hx hb dX12_sums__243 (by decide) ?_
                            exact lp35ih x188 w68 (1) w158 w187 w69 _ _ _ (by omega) (by omega) (by omega) (by rw [z_l1]; omega) (by rw [z_l1]; omega) (by omega) (by have q9 := lp35S; obtain ⟨⟨s1, s2, s3⟩, ⟨s4, s5, s6⟩, ⟨s7, s8, s9⟩, ⟨t1, t2, t3⟩, t4, t5, t6⟩ := q9; have q1 := z_l1; have q0 := z_l0; exact ⟨⟨by rw [show (x188.toInt - a2.toInt).toNat = (y36.toInt - a2.toInt).toNat + 1 by omega, zu_s_s, hJ66]; omega, by omega, by omega⟩, ⟨by rw [show (x188.toInt - a2.toInt).toNat = (y36.toInt - a2.toInt).toNat + 1 by omega, zu_H, hJ66]; omega, by omega, by omega⟩, ⟨by rw [show (x188.toInt - a2.toInt).toNat = (y36.toInt - a2.toInt).toNat + 1 by omega, zu_L, zu_s_s, hJ66]; omega, by omega, by omega⟩, ⟨by rw [show (x188.toInt - a2.toInt).toNat = (y36.toInt - a2.toInt).toNat + 1 by omega, zu_Z_s, hJ66]; split <;> omega, by omega, by omega⟩, by omega, by omega, by omega⟩) (fun q h1 h2 => by have q9 := lp35S; obtain ⟨_, ⟨s4, _⟩, _⟩ := q9; by_cases e : q = (y36.toInt - a2.toInt).toNat + 1; (· rw [e, zu_H, hJ66]; omega); (· exact lp35K q h1 (by omega))) hW hS (lv_sub hl [0, 5, 2, 3, 1, 4, 7, 8, 9, 10, 11, 12] rfl)
                        · have g189 := z_f_nge rfl z_l0 c168
                          refine lv_ldc2 (v := (-3)) hx hb hown (hts (.constantLong RX12 490 (-3)) (me_s (me_l (me_l (List.mem_of_getElem? (i := 2) rfl))))) dX12_sums__200 ?_
                          exact z_lret hx hb hr hK hS (Nat.le_of_ble_eq_true rfl) (Nat.le_of_ble_eq_true rfl) hlocks dX12_sums__203 (shM, ad, I, J, PM ad) hW ⟨rfl, (Or.inl ⟨by omega, Or.inl ⟨fun ok => absurd (ok ((y36.toInt - a2.toInt).toNat + 1) (by omega) (by have c1 := z_clt (x := a1) rfl (by omega); have c2 := z_clt (x := a2) rfl (by omega); have c3 := z_clt (x := a3) rfl (by omega); have q9 := lp35S; omega)) (by have q9 := lp35S; obtain ⟨_, ⟨s4, _⟩, _⟩ := q9; rw [zu_H, hJ66]; omega), by decide⟩⟩)⟩
                  · have g190 := z_f_nge rfl z_l0 c78
                    refine lv_aload_n hx hb dX12_sums__132 rfl (lv_at hl 8 rfl) ?_
                    refine lv_iload hx hb dX12_sums__133 (lv_at hl 7 rfl) ?_
                    refine lv_iload hx hb dX12_sums__135 (lv_at hl 4 rfl) ?_
                    refine lv_iadd hx hb dX12_sums__137 ?_
                    refine lv_topi (fun x191 ex191 => ?_)
                    have tx191 : x191.toInt = x26.toInt + y36.toInt := z_tadd ex191 rfl rfl (by omega) (by omega)
                    refine lv_iconst (v := 1) hx hb dX12_sums__138 (by decide) ?_
                    refine lv_iadd hx hb dX12_sums__139 ?_
                    refine lv_topi (fun x192 ex192 => ?_)
                    have tx192 : x192.toInt = x191.toInt + 1 := z_tadd ex192 rfl z_l1 (by omega) (by omega)
                    refine z_cl hW hS hA (va_runV (As := [.int x192]) (rest := []) ⟨hx, hb, hml, hown, hts⟩ (sx_X12_highOf_u l G ad I J ⟨(by show 0 ≤ (I 0 0).toInt ∧ (I 0 0).toInt ≤ 719; exact hma.1), (by show 0 ≤ (I 0 1).toInt ∧ (I 0 1).toInt ≤ 30; exact hma.2.1), (by show 0 ≤ (I 0 2).toInt ∧ (I 0 2).toInt ≤ 200; exact hma.2.2)⟩ ⟨(by show 0 ≤ (I 0 13).toInt ∧ (I 0 13).toInt ≤ 12; exact hmb.1), (by show 0 ≤ (I 0 14).toInt ∧ (I 0 14).toInt ≤ 288; exact hmb.2)⟩ hAtf hAtm x192 hab (by omega) (by have c1 := z_clt (x := a1) rfl (by omega); have c2 := z_clt (x := a2) rfl (by omega); have c3 := z_clt (x := a3) rfl (by omega); have c4 := z_clt (x := x192) rfl (by omega); rw [show x192.toNatClampNeg = 30 * a1.toNatClampNeg + (y36.toNatClampNeg + 1) by omega]; exact ⟨hTo a1.toNatClampNeg (by omega) (y36.toNatClampNeg + 1) (by omega), hDm a1.toNatClampNeg (by omega) (y36.toNatClampNeg + 1) (by omega)⟩) _) (cwV 1 hts gX12_sums__X12_highOf rfl rfl rfl (by decide +kernel) ⟨Nat.le_of_ble_eq_true rfl, Nat.le_of_ble_eq_true rfl⟩) (z_preV (i := 0) hK hW rfl rfl) rfl rfl hl.1 rfl (lv_room (Nat.le_of_ble_eq_true rfl)) dX12_sums__140 ⟨Nat.le_of_ble_eq_true rfl, Nat.le_of_ble_eq_true rfl⟩) (fun r u1 H locs hp hW hS => ?_)
                    obtain ⟨e9, hp⟩ := hp
                    rw [e9] at hW
                    refine lv_topl (fun w193 ew193 => ?_)
                    rw [← ew193] at hp
                    have hb195 := hp.2
                    have hl194 : zu_kh I a1.toNatClampNeg a2.toNatClampNeg ((y36.toInt - a2.toInt).toNat + 1) = w193.toInt := by have c1 := z_clt (x := a1) rfl (by omega); have c2 := z_clt (x := a2) rfl (by omega); have c3 := z_clt (x := a3) rfl (by omega); have c4 := z_clt (x := x192) rfl (by omega); unfold zu_kh; rw [show 30 * a1.toNatClampNeg + (a2.toNatClampNeg + ((y36.toInt - a2.toInt).toNat + 1)) = x192.toNatClampNeg by omega]; exact hp.1.symm
                    refine lv_lstore (lv' := [(6, .long w193), (10, .long w70), (13, .long w68), (16, .long w65), (15, .int y36), (12, .int y38), (8, .long w40), (5, .int x26), (0, .ref (ad 0)), (1, .int a1), (2, .int a2), (3, .int a3), (4, .int a4)]) hx hb dX12_sums__143 hl (by decide) rfl (fun ls hl => ?_)
                    refine lv_iload hx hb dX12_sums__145 (lv_at hl 5 rfl) ?_
                    refine lv_if_eq (tgt := 167) hx hb dX12_sums__147 (by decide) (fun c196 => ?_) (fun c196 => ?_)
                    · have g197 := z_f_eq rfl z_l0 c196
                      refine lv_aload_n hx hb dX12_sums__167 rfl (lv_at hl 8 rfl) ?_
                      refine lv_iload hx hb dX12_sums__168 (lv_at hl 7 rfl) ?_
                      refine lv_iload hx hb dX12_sums__170 (lv_at hl 4 rfl) ?_
                      refine lv_iadd hx hb dX12_sums__172 ?_
                      refine lv_topi (fun x198 ex198 => ?_)
                      have tx198 : x198.toInt = x26.toInt + y36.toInt := z_tadd ex198 rfl rfl (by omega) (by omega)
                      refine lv_iconst (v := 1) hx hb dX12_sums__173 (by decide) ?_
                      refine lv_iadd hx hb dX12_sums__174 ?_
                      refine lv_topi (fun x199 ex199 => ?_)
                      have tx199 : x199.toInt = x198.toInt + 1 := z_tadd ex199 rfl z_l1 (by omega) (by omega)
                      refine z_cl hW hS hA (va_runV (As := [.int x199]) (rest := []) ⟨hx, hb, hml, hown, hts⟩ (sx_X12_highOf_u l G ad I J ⟨(by show 0 ≤ (I 0 0).toInt ∧ (I 0 0).toInt ≤ 719; exact hma.1), (by show 0 ≤ (I 0 1).toInt ∧ (I 0 1).toInt ≤ 30; exact hma.2.1), (by show 0 ≤ (I 0 2).toInt ∧ (I 0 2).toInt ≤ 200; exact hma.2.2)⟩ ⟨(by show 0 ≤ (I 0 13).toInt ∧ (I 0 13).toInt ≤ 12; exact hmb.1), (by show 0 ≤ (I 0 14).toInt ∧ (I 0 14).toInt ≤ 288; exact hmb.2)⟩ hAtf hAtm x199 hab (by omega) (by have c1 := z_clt (x := a1) rfl (by omega); have c2 := z_clt (x := a2) rfl (by omega); have c3 := z_clt (x := a3) rfl (by omega); have c4 := z_clt (x := x199) rfl (by omega); rw [show x199.toNatClampNeg = 30 * a1.toNatClampNeg + (y36.toNatClampNeg + 1) by omega]; exact ⟨hTo a1.toNatClampNeg (by omega) (y36.toNatClampNeg + 1) (by omega), hDm a1.toNatClampNeg (by omega) (y36.toNatClampNeg + 1) (by omega)⟩) _) (cwV 1 hts gX12_sums__X12_highOf rfl rfl rfl (by decide +kernel) ⟨Nat.le_of_ble_eq_true rfl, Nat.le_of_ble_eq_true rfl⟩) (z_preV (i := 0) hK hW rfl rfl) rfl rfl hl.1 rfl (lv_room (Nat.le_of_ble_eq_true rfl)) dX12_sums__175 ⟨Nat.le_of_ble_eq_true rfl, Nat.le_of_ble_eq_true rfl⟩) (fun r u1 H locs hp hW hS => ?_)
                      obtain ⟨e9, hp⟩ := hp
                      rw [e9] at hW
                      refine lv_topl (fun w200 ew200 => ?_)
                      rw [← ew200] at hp
                      have hb202 := hp.2
                      have hl201 : zu_kh I a1.toNatClampNeg a2.toNatClampNeg ((y36.toInt - a2.toInt).toNat + 1) = w200.toInt := by have c1 := z_clt (x := a1) rfl (by omega); have c2 := z_clt (x := a2) rfl (by omega); have c3 := z_clt (x := a3) rfl (by omega); have c4 := z_clt (x := x199) rfl (by omega); unfold zu_kh; rw [show 30 * a1.toNatClampNeg + (a2.toNatClampNeg + ((y36.toInt - a2.toInt).toNat + 1)) = x199.toNatClampNeg by omega]; exact hp.1.symm
                      refine lv_lstore (lv' := [(10, .long w200), (6, .long w193), (13, .long w68), (16, .long w65), (15, .int y36), (12, .int y38), (8, .long w40), (5, .int x26), (0, .ref (ad 0)), (1, .int a1), (2, .int a2), (3, .int a3), (4, .int a4)]) hx hb dX12_sums__178 hl (by decide) rfl (fun ls hl => ?_)
                      refine lv_iconst (v := 1) hx hb dX12_sums__180 (by decide) ?_
                      refine lv_istore (lv' := [(12, .int 1), (10, .long w200), (6, .long w193), (13, .long w68), (16, .long w65), (15, .int y36), (8, .long w40), (5, .int x26), (0, .ref (ad 0)), (1, .int a1), (2, .int a2), (3, .int a3), (4, .int a4)]) hx hb dX12_sums__181 hl (by decide) rfl (fun ls hl => ?_)
                      refine lv_lload hx hb dX12_sums__183 (lv_at hl 2 rfl) ?_
                      refine lv_aload_n hx hb dX12_sums__185 rfl (lv_at hl 8 rfl) ?_
                      refine lv_iload hx hb dX12_sums__186 (lv_at hl 7 rfl) ?_
                      refine lv_iload hx hb dX12_sums__188 (lv_at hl 5 rfl) ?_
                      refine lv_iadd hx hb dX12_sums__190 ?_
                      refine lv_topi (fun x203 ex203 => ?_)
                      have tx203 : x203.toInt = x26.toInt + y36.toInt := z_tadd ex203 rfl rfl (by omega) (by omega)
                      refine lv_iconst (v := 1) hx hb dX12_sums__191 (by decide) ?_
                      refine lv_iadd hx hb dX12_sums__192 ?_
                      refine lv_topi (fun x204 ex204 => ?_)
                      have tx204 : x204.toInt = x203.toInt + 1 := z_tadd ex204 rfl z_l1 (by omega) (by omega)
                      refine z_cl hW hS hA (va_runV (As := [.int x204]) (rest := [.long w193]) ⟨hx, hb, hml, hown, hts⟩ (sx_X12_lowOf_u l G ad I J ⟨(by show 0 ≤ (I 0 0).toInt ∧ (I 0 0).toInt ≤ 719; exact hma.1), (by show 0 ≤ (I 0 1).toInt ∧ (I 0 1).toInt ≤ 30; exact hma.2.1), (by show 0 ≤ (I 0 2).toInt ∧ (I 0 2).toInt ≤ 200; exact hma.2.2)⟩ ⟨(by show 0 ≤ (I 0 13).toInt ∧ (I 0 13).toInt ≤ 12; exact hmb.1), (by show 0 ≤ (I 0 14).toInt ∧ (I 0 14).toInt ≤ 288; exact hmb.2)⟩ hAtf hAtm x204 hab (by omega) (by have c1 := z_clt (x := a1) rfl (by omega); have c2 := z_clt (x := a2) rfl (by omega); have c3 := z_clt (x := a3) rfl (by omega); have c4 := z_clt (x := x204) rfl (by omega); rw [show x204.toNatClampNeg = 30 * a1.toNatClampNeg + (y36.toNatClampNeg + 1) by omega]; exact ⟨hTo a1.toNatClampNeg (by omega) (y36.toNatClampNeg + 1) (by omega), hDm a1.toNatClampNeg (by omega) (y36.toNatClampNeg + 1) (by omega)⟩) _) (cwV 1 hts gX12_sums__X12_lowOf rfl rfl rfl (by decide +kernel) ⟨Nat.le_of_ble_eq_true rfl, Nat.le_of_ble_eq_true rfl⟩) (z_preV (i := 0) hK hW rfl rfl) rfl rfl hl.1 rfl (lv_room (Nat.le_of_ble_eq_true rfl)) dX12_sums__193 ⟨Nat.le_of_ble_eq_true rfl, Nat.le_of_ble_eq_true rfl⟩) (fun r u1 H locs hp hW hS => ?_)
                      obtain ⟨e9, hp⟩ := hp
                      rw [e9] at hW
                      refine lv_topl (fun w205 ew205 => ?_)
                      rw [← ew205] at hp
                      have hb207 := hp.2
                      have hl206 : zu_kl I a1.toNatClampNeg a2.toNatClampNeg ((y36.toInt - a2.toInt).toNat + 1) = w205.toInt := by have c1 := z_clt (x := a1) rfl (by omega); have c2 := z_clt (x := a2) rfl (by omega); have c3 := z_clt (x := a3) rfl (by omega); have c4 := z_clt (x := x204) rfl (by omega); unfold zu_kl; rw [show 30 * a1.toNatClampNeg + (a2.toNatClampNeg + ((y36.toInt - a2.toInt).toNat + 1)) = x204.toNatClampNeg by omega]; exact hp.1.symm
                      refine W.lcmp hx hb dX12_sums__196 ?_
                      refine lv_topi (fun x208 ex208 => ?_)
                      have tx208 := z_tcmp ex208
                      have h209 := z_tlcmp ex208 rfl rfl
                      refine lv_if_ge (tgt := 204) hx hb dX12_sums__197 (by decide) (fun c210 => ?_) (fun c210 => ?_)
                      · have g211 := z_f_ge rfl z_l0 c210
                        refine lv_aload_n hx hb dX12_sums__204 rfl (lv_at hl 8 rfl) ?_
                        refine lv_iload hx hb dX12_sums__205 (lv_at hl 7 rfl) ?_
                        refine lv_iload hx hb dX12_sums__207 (lv_at hl 5 rfl) ?_
                        refine lv_iadd hx hb dX12_sums__209 ?_
                        refine lv_topi (fun x212 ex212 => ?_)
                        have tx212 : x212.toInt = x26.toInt + y36.toInt := z_tadd ex212 rfl rfl (by omega) (by omega)
                        refine lv_iconst (v := 1) hx hb dX12_sums__210 (by decide) ?_
                        refine lv_iadd hx hb dX12_sums__211 ?_
                        refine lv_topi (fun x213 ex213 => ?_)
                        have tx213 : x213.toInt = x212.toInt + 1 := z_tadd ex213 rfl z_l1 (by omega) (by omega)
                        refine z_cl hW hS hA (va_runV (As := [.int x213]) (rest := []) ⟨hx, hb, hml, hown, hts⟩ (sx_X12_lowOf_u l G ad I J ⟨(by show 0 ≤ (I 0 0).toInt ∧ (I 0 0).toInt ≤ 719; exact hma.1), (by show 0 ≤ (I 0 1).toInt ∧ (I 0 1).toInt ≤ 30; exact hma.2.1), (by show 0 ≤ (I 0 2).toInt ∧ (I 0 2).toInt ≤ 200; exact hma.2.2)⟩ ⟨(by show 0 ≤ (I 0 13).toInt ∧ (I 0 13).toInt ≤ 12; exact hmb.1), (by show 0 ≤ (I 0 14).toInt ∧ (I 0 14).toInt ≤ 288; exact hmb.2)⟩ hAtf hAtm x213 hab (by omega) (by have c1 := z_clt (x := a1) rfl (by omega); have c2 := z_clt (x := a2) rfl (by omega); have c3 := z_clt (x := a3) rfl (by omega); have c4 := z_clt (x := x213) rfl (by omega); rw [show x213.toNatClampNeg = 30 * a1.toNatClampNeg + (y36.toNatClampNeg + 1) by omega]; exact ⟨hTo a1.toNatClampNeg (by omega) (y36.toNatClampNeg + 1) (by omega), hDm a1.toNatClampNeg (by omega) (y36.toNatClampNeg + 1) (by omega)⟩) _) (cwV 1 hts gX12_sums__X12_lowOf rfl rfl rfl (by decide +kernel) ⟨Nat.le_of_ble_eq_true rfl, Nat.le_of_ble_eq_true rfl⟩) (z_preV (i := 0) hK hW rfl rfl) rfl rfl hl.1 rfl (lv_room (Nat.le_of_ble_eq_true rfl)) dX12_sums__212 ⟨Nat.le_of_ble_eq_true rfl, Nat.le_of_ble_eq_true rfl⟩) (fun r u1 H locs hp hW hS => ?_)
                        obtain ⟨e9, hp⟩ := hp
                        rw [e9] at hW
                        refine lv_topl (fun w214 ew214 => ?_)
                        rw [← ew214] at hp
                        have hb216 := hp.2
                        have hl215 : zu_kl I a1.toNatClampNeg a2.toNatClampNeg ((y36.toInt - a2.toInt).toNat + 1) = w214.toInt := by have c1 := z_clt (x := a1) rfl (by omega); have c2 := z_clt (x := a2) rfl (by omega); have c3 := z_clt (x := a3) rfl (by omega); have c4 := z_clt (x := x213) rfl (by omega); unfold zu_kl; rw [show 30 * a1.toNatClampNeg + (a2.toNatClampNeg + ((y36.toInt - a2.toInt).toNat + 1)) = x213.toNatClampNeg by omega]; exact hp.1.symm
                        refine lv_lload hx hb dX12_sums__215 (lv_at hl 3 rfl) ?_
                        refine lv_lsub hx hb dX12_sums__217 ?_
                        refine lv_topl (fun w217 ew217 => ?_)
                        have tw217 : w217.toInt = w214.toInt - (w37.toInt + w65.toInt) := z_tlsub ew217 rfl tw68 (by omega) (by omega)
                        refine lv_lload hx hb dX12_sums__218 (lv_at hl 6 rfl) ?_
                        refine W.lcmp hx hb dX12_sums__220 ?_
                        refine lv_topi (fun x218 ex218 => ?_)
                        have tx218 := z_tcmp ex218
                        have h219 := z_tlcmp ex218 tw217 rfl
                        refine lv_if_le (tgt := 240) hx hb dX12_sums__221 (by decide) (fun c220 => ?_) (fun c220 => ?_)
                        · have g221 := z_f_le rfl z_l0 c220
                          obtain ⟨x222, ex222⟩ : ∃ y : Int32, y = y36 + 1 := ⟨_, rfl⟩
                          have tx222 : x222.toInt = y36.toInt + 1 := z_tadd ex222 rfl z_l1 (by omega) (by omega)
                          refine lv_iinc (v := x222) (lv' := [(15, .int x222), (12, .int 1), (10, .long w200), (6, .long w193), (13, .long w68), (16, .long w65), (8, .long w40), (5, .int x26), (0, .ref (ad 0)), (1, .int a1), (2, .int a2), (3, .int a3), (4, .int a4)]) hx hb dX12_sums__240 hl (k := 5) rfl (by rw [ex222]; rfl) (by decide) rfl (fun ls hl => ?_)
                          refine lv_goto (tgt := 79) hx hb dX12_sums__243 (by decide) ?_
                          exact lp35ih x222 w68 (1) w200 w40 w193 _ _ _ (by omega) (by omega) (by omega) (by rw [z_l1]; omega) (by rw [z_l1]; omega) (by omega) (by have q9 := lp35S; obtain ⟨⟨s1, s2, s3⟩, ⟨s4, s5, s6⟩, ⟨s7, s8, s9⟩, ⟨t1, t2, t3⟩, t4, t5, t6⟩ := q9; have q1 := z_l1; have q0 := z_l0; exact ⟨⟨by rw [show (x222.toInt - a2.toInt).toNat = (y36.toInt - a2.toInt).toNat + 1 by omega, zu_s_s, hJ66]; omega, by omega, by omega⟩, ⟨by rw [show (x222.toInt - a2.toInt).toNat = (y36.toInt - a2.toInt).toNat + 1 by omega, zu_H, hJ66]; omega, by omega, by omega⟩, ⟨by rw [show (x222.toInt - a2.toInt).toNat = (y36.toInt - a2.toInt).toNat + 1 by omega, zu_L, zu_s_s, hJ66]; omega, by omega, by omega⟩, ⟨by rw [show (x222.toInt - a2.toInt).toNat = (y36.toInt - a2.toInt).toNat + 1 by omega, zu_Z_s, hJ66]; split <;> omega, by omega, by omega⟩, by omega, by omega, by omega⟩) (fun q h1 h2 => by have q9 := lp35S; obtain ⟨_, ⟨s4, _⟩, _⟩ := q9; by_cases e : q = (y36.toInt - a2.toInt).toNat + 1; (· rw [e, zu_H, hJ66]; omega); (· exact lp35K q h1 (by omega))) hW hS (lv_sub hl [0, 4, 1, 2, 6, 3, 7, 8, 9, 10, 11, 12] rfl)
                        · have g223 := z_f_nle rfl z_l0 c220
                          refine lv_aload_n hx hb dX12_sums__224 rfl (lv_at hl 8 rfl) ?_
                          refine lv_iload hx hb dX12_sums__225 (lv_at hl 7 rfl) ?_
                          refine lv_iload hx hb dX12_sums__227 (lv_at hl 5 rfl) ?_
                          refine lv_iadd hx hb dX12_sums__229 ?_
                          refine lv_topi (fun x224 ex224 => ?_)
                          have tx224 : x224.toInt = x26.toInt + y36.toInt := z_tadd ex224 rfl rfl (by omega) (by omega)
                          refine lv_iconst (v := 1) hx hb dX12_sums__230 (by decide) ?_
                          refine lv_iadd hx hb dX12_sums__231 ?_
                          refine lv_topi (fun x225 ex225 => ?_)
                          have tx225 : x225.toInt = x224.toInt + 1 := z_tadd ex225 rfl z_l1 (by omega) (by omega)
                          refine z_cl hW hS hA (va_runV (As := [.int x225]) (rest := []) ⟨hx, hb, hml, hown, hts⟩ (sx_X12_lowOf_u l G ad I J ⟨(by show 0 ≤ (I 0 0).toInt ∧ (I 0 0).toInt ≤ 719; exact hma.1), (by show 0 ≤ (I 0 1).toInt ∧ (I 0 1).toInt ≤ 30; exact hma.2.1), (by show 0 ≤ (I 0 2).toInt ∧ (I 0 2).toInt ≤ 200; exact hma.2.2)⟩ ⟨(by show 0 ≤ (I 0 13).toInt ∧ (I 0 13).toInt ≤ 12; exact hmb.1), (by show 0 ≤ (I 0 14).toInt ∧ (I 0 14).toInt ≤ 288; exact hmb.2)⟩ hAtf hAtm x225 hab (by omega) (by have c1 := z_clt (x := a1) rfl (by omega); have c2 := z_clt (x := a2) rfl (by omega); have c3 := z_clt (x := a3) rfl (by omega); have c4 := z_clt (x := x225) rfl (by omega); rw [show x225.toNatClampNeg = 30 * a1.toNatClampNeg + (y36.toNatClampNeg + 1) by omega]; exact ⟨hTo a1.toNatClampNeg (by omega) (y36.toNatClampNeg + 1) (by omega), hDm a1.toNatClampNeg (by omega) (y36.toNatClampNeg + 1) (by omega)⟩) _) (cwV 1 hts gX12_sums__X12_lowOf rfl rfl rfl (by decide +kernel) ⟨Nat.le_of_ble_eq_true rfl, Nat.le_of_ble_eq_true rfl⟩) (z_preV (i := 0) hK hW rfl rfl) rfl rfl hl.1 rfl (lv_room (Nat.le_of_ble_eq_true rfl)) dX12_sums__232 ⟨Nat.le_of_ble_eq_true rfl, Nat.le_of_ble_eq_true rfl⟩) (fun r u1 H locs hp hW hS => ?_)
                          obtain ⟨e9, hp⟩ := hp
                          rw [e9] at hW
                          refine lv_topl (fun w226 ew226 => ?_)
                          rw [← ew226] at hp
                          have hb228 := hp.2
                          have hl227 : zu_kl I a1.toNatClampNeg a2.toNatClampNeg ((y36.toInt - a2.toInt).toNat + 1) = w226.toInt := by have c1 := z_clt (x := a1) rfl (by omega); have c2 := z_clt (x := a2) rfl (by omega); have c3 := z_clt (x := a3) rfl (by omega); have c4 := z_clt (x := x225) rfl (by omega); unfold zu_kl; rw [show 30 * a1.toNatClampNeg + (a2.toNatClampNeg + ((y36.toInt - a2.toInt).toNat + 1)) = x225.toNatClampNeg by omega]; exact hp.1.symm
                          refine lv_lload hx hb dX12_sums__235 (lv_at hl 3 rfl) ?_
                          refine lv_lsub hx hb dX12_sums__237 ?_
                          refine lv_topl (fun w229 ew229 => ?_)
                          have tw229 : w229.toInt = w226.toInt - (w37.toInt + w65.toInt) := z_tlsub ew229 rfl tw68 (by omega) (by omega)
                          refine lv_lstore (lv' := [(8, .long w229), (12, .int 1), (10, .long w200), (6, .long w193), (13, .long w68), (16, .long w65), (15, .int y36), (5, .int x26), (0, .ref (ad 0)), (1, .int a1), (2, .int a2), (3, .int a3), (4, .int a4)]) hx hb dX12_sums__238 hl (by decide) rfl (fun ls hl => ?_)
                          obtain ⟨x230, ex230⟩ : ∃ y : Int32, y = y36 + 1 := ⟨_, rfl⟩
                          have tx230 : x230.toInt = y36.toInt + 1 := z_tadd ex230 rfl z_l1 (by omega) (by omega)
                          refine lv_iinc (v := x230) (lv' := [(15, .int x230), (8, .long w229), (12, .int 1), (10, .long w200), (6, .long w193), (13, .long w68), (16, .long w65), (5, .int x26), (0, .ref (ad 0)), (1, .int a1), (2, .int a2), (3, .int a3), (4, .int a4)]) hx hb dX12_sums__240 hl (k := 6) rfl (by rw [ex230]; rfl) (by decide) rfl (fun ls hl => ?_)
                          refine lv_goto (tgt := 79) hx hb dX12_sums__243 (by decide) ?_
                          exact lp35ih x230 w68 (1) w200 w229 w193 _ _ _ (by omega) (by omega) (by omega) (by rw [z_l1]; omega) (by rw [z_l1]; omega) (by omega) (by have q9 := lp35S; obtain ⟨⟨s1, s2, s3⟩, ⟨s4, s5, s6⟩, ⟨s7, s8, s9⟩, ⟨t1, t2, t3⟩, t4, t5, t6⟩ := q9; have q1 := z_l1; have q0 := z_l0; exact ⟨⟨by rw [show (x230.toInt - a2.toInt).toNat = (y36.toInt - a2.toInt).toNat + 1 by omega, zu_s_s, hJ66]; omega, by omega, by omega⟩, ⟨by rw [show (x230.toInt - a2.toInt).toNat = (y36.toInt - a2.toInt).toNat + 1 by omega, zu_H, hJ66]; omega, by omega, by omega⟩, ⟨by rw [show (x230.toInt - a2.toInt).toNat = (y36.toInt - a2.toInt).toNat + 1 by omega, zu_L, zu_s_s, hJ66]; omega, by omega, by omega⟩, ⟨by rw [show (x230.toInt - a2.toInt).toNat = (y36.toInt - a2.toInt).toNat + 1 by omega, zu_Z_s, hJ66]; split <;> omega, by omega, by omega⟩, by omega, by omega, by omega⟩) (fun q h1 h2 => by have q9 := lp35S; obtain ⟨_, ⟨s4, _⟩, _⟩ := q9; by_cases e : q = (y36.toInt - a2.toInt).toNat + 1; (· rw [e, zu_H, hJ66]; omega); (· exact lp35K q h1 (by omega))) hW hS (lv_sub hl [0, 5, 2, 3, 1, 4, 7, 8, 9, 10, 11, 12] rfl)
                      · have g231 := z_f_nge rfl z_l0 c210
                        refine lv_ldc2 (v := (-3)) hx hb hown (hts (.constantLong RX12 490 (-3)) (me_s (me_l (me_l (List.mem_of_getElem? (i := 2) rfl))))) dX12_sums__200 ?_
                        exact z_lret hx hb hr hK hS (Nat.le_of_ble_eq_true rfl) (Nat.le_of_ble_eq_true rfl) hlocks dX12_sums__203 (shM, ad, I, J, PM ad) hW ⟨rfl, (Or.inl ⟨by omega, Or.inl ⟨fun ok => absurd (ok ((y36.toInt - a2.toInt).toNat + 1) (by omega) (by have c1 := z_clt (x := a1) rfl (by omega); have c2 := z_clt (x := a2) rfl (by omega); have c3 := z_clt (x := a3) rfl (by omega); have q9 := lp35S; omega)) (by have q9 := lp35S; obtain ⟨_, ⟨s4, _⟩, _⟩ := q9; rw [zu_H, hJ66]; omega), by decide⟩⟩)⟩
                    · have g232 := z_f_ne rfl z_l0 c196
                      refine lv_aload_n hx hb dX12_sums__150 rfl (lv_at hl 8 rfl) ?_
                      refine lv_iload hx hb dX12_sums__151 (lv_at hl 7 rfl) ?_
                      refine lv_iload hx hb dX12_sums__153 (lv_at hl 4 rfl) ?_
                      refine lv_iadd hx hb dX12_sums__155 ?_
                      refine lv_topi (fun x233 ex233 => ?_)
                      have tx233 : x233.toInt = x26.toInt + y36.toInt := z_tadd ex233 rfl rfl (by omega) (by omega)
                      refine lv_iconst (v := 1) hx hb dX12_sums__156 (by decide) ?_
                      refine lv_iadd hx hb dX12_sums__157 ?_
                      refine lv_topi (fun x234 ex234 => ?_)
                      have tx234 : x234.toInt = x233.toInt + 1 := z_tadd ex234 rfl z_l1 (by omega) (by omega)
                      refine z_cl hW hS hA (va_runV (As := [.int x234]) (rest := []) ⟨hx, hb, hml, hown, hts⟩ (sx_X12_highOf_u l G ad I J ⟨(by show 0 ≤ (I 0 0).toInt ∧ (I 0 0).toInt ≤ 719; exact hma.1), (by show 0 ≤ (I 0 1).toInt ∧ (I 0 1).toInt ≤ 30; exact hma.2.1), (by show 0 ≤ (I 0 2).toInt ∧ (I 0 2).toInt ≤ 200; exact hma.2.2)⟩ ⟨(by show 0 ≤ (I 0 13).toInt ∧ (I 0 13).toInt ≤ 12; exact hmb.1), (by show 0 ≤ (I 0 14).toInt ∧ (I 0 14).toInt ≤ 288; exact hmb.2)⟩ hAtf hAtm x234 hab (by omega) (by have c1 := z_clt (x := a1) rfl (by omega); have c2 := z_clt (x := a2) rfl (by omega); have c3 := z_clt (x := a3) rfl (by omega); have c4 := z_clt (x := x234) rfl (by omega); rw [show x234.toNatClampNeg = 30 * a1.toNatClampNeg + (y36.toNatClampNeg + 1) by omega]; exact ⟨hTo a1.toNatClampNeg (by omega) (y36.toNatClampNeg + 1) (by omega), hDm a1.toNatClampNeg (by omega) (y36.toNatClampNeg + 1) (by omega)⟩) _) (cwV 1 hts gX12_sums__X12_highOf rfl rfl rfl (by decide +kernel) ⟨Nat.le_of_ble_eq_true rfl, Nat.le_of_ble_eq_true rfl⟩) (z_preV (i := 0) hK hW rfl rfl) rfl rfl hl.1 rfl (lv_room (Nat.le_of_ble_eq_true rfl)) dX12_sums__158 ⟨Nat.le_of_ble_eq_true rfl, Nat.le_of_ble_eq_true rfl⟩) (fun r u1 H locs hp hW hS => ?_)
                      obtain ⟨e9, hp⟩ := hp
                      rw [e9] at hW
                      refine lv_topl (fun w235 ew235 => ?_)
                      rw [← ew235] at hp
                      have hb237 := hp.2
                      have hl236 : zu_kh I a1.toNatClampNeg a2.toNatClampNeg ((y36.toInt - a2.toInt).toNat + 1) = w235.toInt := by have c1 := z_clt (x := a1) rfl (by omega); have c2 := z_clt (x := a2) rfl (by omega); have c3 := z_clt (x := a3) rfl (by omega); have c4 := z_clt (x := x234) rfl (by omega); unfold zu_kh; rw [show 30 * a1.toNatClampNeg + (a2.toNatClampNeg + ((y36.toInt - a2.toInt).toNat + 1)) = x234.toNatClampNeg by omega]; exact hp.1.symm
                      refine lv_lload hx hb dX12_sums__161 (lv_at hl 1 rfl) ?_
                      refine W.lcmp hx hb dX12_sums__163 ?_
                      refine lv_topi (fun x238 ex238 => ?_)
                      have tx238 := z_tcmp ex238
                      have h239 := z_tlcmp ex238 rfl tw70
                      refine lv_if_ge (tgt := 180) hx hb dX12_sums__164 (by decide) (fun c240 => ?_) (fun c240 => ?_)
                      · have g241 := z_f_ge rfl z_l0 c240
                        refine lv_iconst (v := 1) hx hb dX12_sums__180 (by decide) ?_
                        refine lv_istore (lv' := [(12, .int 1), (6, .long w193), (10, .long w70), (13, .long w68), (16, .long w65), (15, .int y36), (8, .long w40), (5, .int x26), (0, .ref (ad 0)), (1, .int a1), (2, .int a2), (3, .int a3), (4, .int a4)]) hx hb dX12_sums__181 hl (by decide) rfl (fun ls hl => ?_)
                        refine lv_lload hx hb dX12_sums__183 (lv_at hl 1 rfl) ?_
                        refine lv_aload_n hx hb dX12_sums__185 rfl (lv_at hl 8 rfl) ?_
                        refine lv_iload hx hb dX12_sums__186 (lv_at hl 7 rfl) ?_
                        refine lv_iload hx hb dX12_sums__188 (lv_at hl 5 rfl) ?_
                        refine lv_iadd hx hb dX12_sums__190 ?_
                        refine lv_topi (fun x242 ex242 => ?_)
                        have tx242 : x242.toInt = x26.toInt + y36.toInt := z_tadd ex242 rfl rfl (by omega) (by omega)
                        refine lv_iconst (v := 1) hx hb dX12_sums__191 (by decide) ?_
                        refine lv_iadd hx hb dX12_sums__192 ?_
                        refine lv_topi (fun x243 ex243 => ?_)
                        have tx243 : x243.toInt = x242.toInt + 1 := z_tadd ex243 rfl z_l1 (by omega) (by omega)
                        refine z_cl hW hS hA (va_runV (As := [.int x243]) (rest := [.long w193]) ⟨hx, hb, hml, hown, hts⟩ (sx_X12_lowOf_u l G ad I J ⟨(by show 0 ≤ (I 0 0).toInt ∧ (I 0 0).toInt ≤ 719; exact hma.1), (by show 0 ≤ (I 0 1).toInt ∧ (I 0 1).toInt ≤ 30; exact hma.2.1), (by show 0 ≤ (I 0 2).toInt ∧ (I 0 2).toInt ≤ 200; exact hma.2.2)⟩ ⟨(by show 0 ≤ (I 0 13).toInt ∧ (I 0 13).toInt ≤ 12; exact hmb.1), (by show 0 ≤ (I 0 14).toInt ∧ (I 0 14).toInt ≤ 288; exact hmb.2)⟩ hAtf hAtm x243 hab (by omega) (by have c1 := z_clt (x := a1) rfl (by omega); have c2 := z_clt (x := a2) rfl (by omega); have c3 := z_clt (x := a3) rfl (by omega); have c4 := z_clt (x := x243) rfl (by omega); rw [show x243.toNatClampNeg = 30 * a1.toNatClampNeg + (y36.toNatClampNeg + 1) by omega]; exact ⟨hTo a1.toNatClampNeg (by omega) (y36.toNatClampNeg + 1) (by omega), hDm a1.toNatClampNeg (by omega) (y36.toNatClampNeg + 1) (by omega)⟩) _) (cwV 1 hts gX12_sums__X12_lowOf rfl rfl rfl (by decide +kernel) ⟨Nat.le_of_ble_eq_true rfl, Nat.le_of_ble_eq_true rfl⟩) (z_preV (i := 0) hK hW rfl rfl) rfl rfl hl.1 rfl (lv_room (Nat.le_of_ble_eq_true rfl)) dX12_sums__193 ⟨Nat.le_of_ble_eq_true rfl, Nat.le_of_ble_eq_true rfl⟩) (fun r u1 H locs hp hW hS => ?_)
                        obtain ⟨e9, hp⟩ := hp
                        rw [e9] at hW
                        refine lv_topl (fun w244 ew244 => ?_)
                        rw [← ew244] at hp
                        have hb246 := hp.2
                        have hl245 : zu_kl I a1.toNatClampNeg a2.toNatClampNeg ((y36.toInt - a2.toInt).toNat + 1) = w244.toInt := by have c1 := z_clt (x := a1) rfl (by omega); have c2 := z_clt (x := a2) rfl (by omega); have c3 := z_clt (x := a3) rfl (by omega); have c4 := z_clt (x := x243) rfl (by omega); unfold zu_kl; rw [show 30 * a1.toNatClampNeg + (a2.toNatClampNeg + ((y36.toInt - a2.toInt).toNat + 1)) = x243.toNatClampNeg by omega]; exact hp.1.symm
                        refine W.lcmp hx hb dX12_sums__196 ?_
                        refine lv_topi (fun x247 ex247 => ?_)
                        have tx247 := z_tcmp ex247
                        have h248 := z_tlcmp ex247 rfl rfl
                        refine lv_if_ge (tgt := 204) hx hb dX12_sums__197 (by decide) (fun c249 => ?_) (fun c249 => ?_)
                        · have g250 := z_f_ge rfl z_l0 c249
                          refine lv_aload_n hx hb dX12_sums__204 rfl (lv_at hl 8 rfl) ?_
                          refine lv_iload hx hb dX12_sums__205 (lv_at hl 7 rfl) ?_
                          refine lv_iload hx hb dX12_sums__207 (lv_at hl 5 rfl) ?_
                          refine lv_iadd hx hb dX12_sums__209 ?_
                          refine lv_topi (fun x251 ex251 => ?_)
                          have tx251 : x251.toInt = x26.toInt + y36.toInt := z_tadd ex251 rfl rfl (by omega) (by omega)
                          refine lv_iconst (v := 1) hx hb dX12_sums__210 (by decide) ?_
                          refine lv_iadd hx hb dX12_sums__211 ?_
                          refine lv_topi (fun x252 ex252 => ?_)
                          have tx252 : x252.toInt = x251.toInt + 1 := z_tadd ex252 rfl z_l1 (by omega) (by omega)
                          refine z_cl hW hS hA (va_runV (As := [.int x252]) (rest := []) ⟨hx, hb, hml, hown, hts⟩ (sx_X12_lowOf_u l G ad I J ⟨(by show 0 ≤ (I 0 0).toInt ∧ (I 0 0).toInt ≤ 719; exact hma.1), (by show 0 ≤ (I 0 1).toInt ∧ (I 0 1).toInt ≤ 30; exact hma.2.1), (by show 0 ≤ (I 0 2).toInt ∧ (I 0 2).toInt ≤ 200; exact hma.2.2)⟩ ⟨(by show 0 ≤ (I 0 13).toInt ∧ (I 0 13).toInt ≤ 12; exact hmb.1), (by show 0 ≤ (I 0 14).toInt ∧ (I 0 14).toInt ≤ 288; exact hmb.2)⟩ hAtf hAtm x252 hab (by omega) (by have c1 := z_clt (x := a1) rfl (by omega); have c2 := z_clt (x := a2) rfl (by omega); have c3 := z_clt (x := a3) rfl (by omega); have c4 := z_clt (x := x252) rfl (by omega); rw [show x252.toNatClampNeg = 30 * a1.toNatClampNeg + (y36.toNatClampNeg + 1) by omega]; exact ⟨hTo a1.toNatClampNeg (by omega) (y36.toNatClampNeg + 1) (by omega), hDm a1.toNatClampNeg (by omega) (y36.toNatClampNeg + 1) (by omega)⟩) _) (cwV 1 hts gX12_sums__X12_lowOf rfl rfl rfl (by decide +kernel) ⟨Nat.le_of_ble_eq_true rfl, Nat.le_of_ble_eq_true rfl⟩) (z_preV (i := 0) hK hW rfl rfl) rfl rfl hl.1 rfl (lv_room (Nat.le_of_ble_eq_true rfl)) dX12_sums__212 ⟨Nat.le_of_ble_eq_true rfl, Nat.le_of_ble_eq_true rfl⟩) (fun r u1 H locs hp hW hS => ?_)
                          obtain ⟨e9, hp⟩ := hp
                          rw [e9] at hW
                          refine lv_topl (fun w253 ew253 => ?_)
                          rw [← ew253] at hp
                          have hb255 := hp.2
                          have hl254 : zu_kl I a1.toNatClampNeg a2.toNatClampNeg ((y36.toInt - a2.toInt).toNat + 1) = w253.toInt := by have c1 := z_clt (x := a1) rfl (by omega); have c2 := z_clt (x := a2) rfl (by omega); have c3 := z_clt (x := a3) rfl (by omega); have c4 := z_clt (x := x252) rfl (by omega); unfold zu_kl; rw [show 30 * a1.toNatClampNeg + (a2.toNatClampNeg + ((y36.toInt - a2.toInt).toNat + 1)) = x252.toNatClampNeg by omega]; exact hp.1.symm
                          refine lv_lload hx hb dX12_sums__215 (lv_at hl 3 rfl) ?_
                          refine lv_lsub hx hb dX12_sums__217 ?_
                          refine lv_topl (fun w256 ew256 => ?_)
                          have tw256 : w256.toInt = w253.toInt - (w37.toInt + w65.toInt) := z_tlsub ew256 rfl tw68 (by omega) (by omega)
                          refine lv_lload hx hb dX12_sums__218 (lv_at hl 6 rfl) ?_
                          refine W.lcmp hx hb dX12_sums__220 ?_
                          refine lv_topi (fun x257 ex257 => ?_)
                          have tx257 := z_tcmp ex257
                          have h258 := z_tlcmp ex257 tw256 rfl
                          refine lv_if_le (tgt := 240) hx hb dX12_sums__221 (by decide) (fun c259 => ?_) (fun c259 => ?_)
                          · have g260 := z_f_le rfl z_l0 c259
                            obtain ⟨x261, ex261⟩ : ∃ y : Int32, y = y36 + 1 := ⟨_, rfl⟩
                            have tx261 : x261.toInt = y36.toInt + 1 := z_tadd ex261 rfl z_l1 (by omega) (by omega)
                            refine lv_iinc (v := x261) (lv' := [(15, .int x261), (12, .int 1), (6, .long w193), (10, .long w70), (13, .long w68), (16, .long w65), (8, .long w40), (5, .int x26), (0, .ref (ad 0)), (1, .int a1), (2, .int a2), (3, .int a3), (4, .int a4)]) hx hb dX12_sums__240 hl (k := 5) rfl (by rw [ex261]; rfl) (by decide) rfl (fun ls hl => ?_)
                            refine lv_goto (tgt := 79) hx hb dX12_sums__243 (by decide) ?_
                            exact lp35ih x261 w68 (1) w70 w40 w193 _ _ _ (by omega) (by omega) (by omega) (by rw [z_l1]; omega) (by rw [z_l1]; omega) (by omega) (by have q9 := lp35S; obtain ⟨⟨s1, s2, s3⟩, ⟨s4, s5, s6⟩, ⟨s7, s8, s9⟩, ⟨t1, t2, t3⟩, t4, t5, t6⟩ := q9; have q1 := z_l1; have q0 := z_l0; exact ⟨⟨by rw [show (x261.toInt - a2.toInt).toNat = (y36.toInt - a2.toInt).toNat + 1 by omega, zu_s_s, hJ66]; omega, by omega, by omega⟩, ⟨by rw [show (x261.toInt - a2.toInt).toNat = (y36.toInt - a2.toInt).toNat + 1 by omega, zu_H, hJ66]; omega, by omega, by omega⟩, ⟨by rw [show (x261.toInt - a2.toInt).toNat = (y36.toInt - a2.toInt).toNat + 1 by omega, zu_L, zu_s_s, hJ66]; omega, by omega, by omega⟩, ⟨by rw [show (x261.toInt - a2.toInt).toNat = (y36.toInt - a2.toInt).toNat + 1 by omega, zu_Z_s, hJ66]; split <;> omega, by omega, by omega⟩, by omega, by omega, by omega⟩) (fun q h1 h2 => by have q9 := lp35S; obtain ⟨_, ⟨s4, _⟩, _⟩ := q9; by_cases e : q = (y36.toInt - a2.toInt).toNat + 1; (· rw [e, zu_H, hJ66]; omega); (· exact lp35K q h1 (by omega))) hW hS (lv_sub hl [0, 4, 1, 3, 6, 2, 7, 8, 9, 10, 11, 12] rfl)
                          · have g262 := z_f_nle rfl z_l0 c259
                            refine lv_aload_n hx hb dX12_sums__224 rfl (lv_at hl 8 rfl) ?_
                            refine lv_iload hx hb dX12_sums__225 (lv_at hl 7 rfl) ?_
                            refine lv_iload hx hb dX12_sums__227 (lv_at hl 5 rfl) ?_
                            refine lv_iadd hx hb dX12_sums__229 ?_
                            refine lv_topi (fun x263 ex263 => ?_)
                            have tx263 : x263.toInt = x26.toInt + y36.toInt := z_tadd ex263 rfl rfl (by omega) (by omega)
                            refine lv_iconst (v := 1) hx hb dX12_sums__230 (by decide) ?_
                            refine lv_iadd hx hb dX12_sums__231 ?_
                            refine lv_topi (fun x264 ex264 => ?_)
                            have tx264 : x264.toInt = x263.toInt + 1 := z_tadd ex264 rfl z_l1 (by omega) (by omega)
                            refine z_cl hW hS hA (va_runV (As := [.int x264]) (rest := []) ⟨hx, hb, hml, hown, hts⟩ (sx_X12_lowOf_u l G ad I J ⟨(by show 0 ≤ (I 0 0).toInt ∧ (I 0 0).toInt ≤ 719; exact hma.1), (by show 0 ≤ (I 0 1).toInt ∧ (I 0 1).toInt ≤ 30; exact hma.2.1), (by show 0 ≤ (I 0 2).toInt ∧ (I 0 2).toInt ≤ 200; exact hma.2.2)⟩ ⟨(by show 0 ≤ (I 0 13).toInt ∧ (I 0 13).toInt ≤ 12; exact hmb.1), (by show 0 ≤ (I 0 14).toInt ∧ (I 0 14).toInt ≤ 288; exact hmb.2)⟩ hAtf hAtm x264 hab (by omega) (by have c1 := z_clt (x := a1) rfl (by omega); have c2 := z_clt (x := a2) rfl (by omega); have c3 := z_clt (x := a3) rfl (by omega); have c4 := z_clt (x := x264) rfl (by omega); rw [show x264.toNatClampNeg = 30 * a1.toNatClampNeg + (y36.toNatClampNeg + 1) by omega]; exact ⟨hTo a1.toNatClampNeg (by omega) (y36.toNatClampNeg + 1) (by omega), hDm a1.toNatClampNeg (by omega) (y36.toNatClampNeg + 1) (by omega)⟩) _) (cwV 1 hts gX12_sums__X12_lowOf rfl rfl rfl (by decide +kernel) ⟨Nat.le_of_ble_eq_true rfl, Nat.le_of_ble_eq_true rfl⟩) (z_preV (i := 0) hK hW rfl rfl) rfl rfl hl.1 rfl (lv_room (Nat.le_of_ble_eq_true rfl)) dX12_sums__232 ⟨Nat.le_of_ble_eq_true rfl, Nat.le_of_ble_eq_true rfl⟩) (fun r u1 H locs hp hW hS => ?_)
                            obtain ⟨e9, hp⟩ := hp
                            rw [e9] at hW
                            refine lv_topl (fun w265 ew265 => ?_)
                            rw [← ew265] at hp
                            have hb267 := hp.2
                            have hl266 : zu_kl I a1.toNatClampNeg a2.toNatClampNeg ((y36.toInt - a2.toInt).toNat + 1) = w265.toInt := by have c1 := z_clt (x := a1) rfl (by omega); have c2 := z_clt (x := a2) rfl (by omega); have c3 := z_clt (x := a3) rfl (by omega); have c4 := z_clt (x := x264) rfl (by omega); unfold zu_kl; rw [show 30 * a1.toNatClampNeg + (a2.toNatClampNeg + ((y36.toInt - a2.toInt).toNat + 1)) = x264.toNatClampNeg by omega]; exact hp.1.symm
                            refine lv_lload hx hb dX12_sums__235 (lv_at hl 3 rfl) ?_
                            refine lv_lsub hx hb dX12_sums__237 ?_
                            refine lv_topl (fun w268 ew268 => ?_)
                            have tw268 : w268.toInt = w265.toInt - (w37.toInt + w65.toInt) := z_tlsub ew268 rfl tw68 (by omega) (by omega)
                            refine lv_lstore (lv' := [(8, .long w268), (12, .int 1), (6, .long w193), (10, .long w70), (13, .long w68), (16, .long w65), (15, .int y36), (5, .int x26), (0, .ref (ad 0)), (1, .int a1), (2, .int a2), (3, .int a3), (4, .int a4)]) hx hb dX12_sums__238 hl (by decide) rfl (fun ls hl => ?_)
                            obtain ⟨x269, ex269⟩ : ∃ y : Int32, y = y36 + 1 := ⟨_, rfl⟩
                            have tx269 : x269.toInt = y36.toInt + 1 := z_tadd ex269 rfl z_l1 (by omega) (by omega)
                            refine lv_iinc (v := x269) (lv' := [(15, .int x269), (8, .long w268), (12, .int 1), (6, .long w193), (10, .long w70), (13, .long w68), (16, .long w65), (5, .int x26), (0, .ref (ad 0)), (1, .int a1), (2, .int a2), (3, .int a3), (4, .int a4)]) hx hb dX12_sums__240 hl (k := 6) rfl (by rw [ex269]; rfl) (by decide) rfl (fun ls hl => ?_)
                            refine lv_goto (tgt := 79) hx hb dX12_sums__243 (by decide) ?_
                            exact lp35ih x269 w68 (1) w70 w268 w193 _ _ _ (by omega) (by omega) (by omega) (by rw [z_l1]; omega) (by rw [z_l1]; omega) (by omega) (by have q9 := lp35S; obtain ⟨⟨s1, s2, s3⟩, ⟨s4, s5, s6⟩, ⟨s7, s8, s9⟩, ⟨t1, t2, t3⟩, t4, t5, t6⟩ := q9; have q1 := z_l1; have q0 := z_l0; exact ⟨⟨by rw [show (x269.toInt - a2.toInt).toNat = (y36.toInt - a2.toInt).toNat + 1 by omega, zu_s_s, hJ66]; omega, by omega, by omega⟩, ⟨by rw [show (x269.toInt - a2.toInt).toNat = (y36.toInt - a2.toInt).toNat + 1 by omega, zu_H, hJ66]; omega, by omega, by omega⟩, ⟨by rw [show (x269.toInt - a2.toInt).toNat = (y36.toInt - a2.toInt).toNat + 1 by omega, zu_L, zu_s_s, hJ66]; omega, by omega, by omega⟩, ⟨by rw [show (x269.toInt - a2.toInt).toNat = (y36.toInt - a2.toInt).toNat + 1 by omega, zu_Z_s, hJ66]; split <;> omega, by omega, by omega⟩, by omega, by omega, by omega⟩) (fun q h1 h2 => by have q9 := lp35S; obtain ⟨_, ⟨s4, _⟩, _⟩ := q9; by_cases e : q = (y36.toInt - a2.toInt).toNat + 1; (· rw [e, zu_H, hJ66]; omega); (· exact lp35K q h1 (by omega))) hW hS (lv_sub hl [0, 5, 2, 4, 1, 3, 7, 8, 9, 10, 11, 12] rfl)
                        · have g270 := z_f_nge rfl z_l0 c249
                          refine lv_ldc2 (v := (-3)) hx hb hown (hts (.constantLong RX12 490 (-3)) (me_s (me_l (me_l (List.mem_of_getElem? (i := 2) rfl))))) dX12_sums__200 ?_
                          exact z_lret hx hb hr hK hS (Nat.le_of_ble_eq_true rfl) (Nat.le_of_ble_eq_true rfl) hlocks dX12_sums__203 (shM, ad, I, J, PM ad) hW ⟨rfl, (Or.inl ⟨by omega, Or.inl ⟨fun ok => absurd (ok ((y36.toInt - a2.toInt).toNat + 1) (by omega) (by have c1 := z_clt (x := a1) rfl (by omega); have c2 := z_clt (x := a2) rfl (by omega); have c3 := z_clt (x := a3) rfl (by omega); have q9 := lp35S; omega)) (by have q9 := lp35S; obtain ⟨_, ⟨s4, _⟩, _⟩ := q9; rw [zu_H, hJ66]; omega), by decide⟩⟩)⟩
                      · have g271 := z_f_nge rfl z_l0 c240
                        refine lv_aload_n hx hb dX12_sums__167 rfl (lv_at hl 8 rfl) ?_
                        refine lv_iload hx hb dX12_sums__168 (lv_at hl 7 rfl) ?_
                        refine lv_iload hx hb dX12_sums__170 (lv_at hl 4 rfl) ?_
                        refine lv_iadd hx hb dX12_sums__172 ?_
                        refine lv_topi (fun x272 ex272 => ?_)
                        have tx272 : x272.toInt = x26.toInt + y36.toInt := z_tadd ex272 rfl rfl (by omega) (by omega)
                        refine lv_iconst (v := 1) hx hb dX12_sums__173 (by decide) ?_
                        refine lv_iadd hx hb dX12_sums__174 ?_
                        refine lv_topi (fun x273 ex273 => ?_)
                        have tx273 : x273.toInt = x272.toInt + 1 := z_tadd ex273 rfl z_l1 (by omega) (by omega)
                        refine z_cl hW hS hA (va_runV (As := [.int x273]) (rest := []) ⟨hx, hb, hml, hown, hts⟩ (sx_X12_highOf_u l G ad I J ⟨(by show 0 ≤ (I 0 0).toInt ∧ (I 0 0).toInt ≤ 719; exact hma.1), (by show 0 ≤ (I 0 1).toInt ∧ (I 0 1).toInt ≤ 30; exact hma.2.1), (by show 0 ≤ (I 0 2).toInt ∧ (I 0 2).toInt ≤ 200; exact hma.2.2)⟩ ⟨(by show 0 ≤ (I 0 13).toInt ∧ (I 0 13).toInt ≤ 12; exact hmb.1), (by show 0 ≤ (I 0 14).toInt ∧ (I 0 14).toInt ≤ 288; exact hmb.2)⟩ hAtf hAtm x273 hab (by omega) (by have c1 := z_clt (x := a1) rfl (by omega); have c2 := z_clt (x := a2) rfl (by omega); have c3 := z_clt (x := a3) rfl (by omega); have c4 := z_clt (x := x273) rfl (by omega); rw [show x273.toNatClampNeg = 30 * a1.toNatClampNeg + (y36.toNatClampNeg + 1) by omega]; exact ⟨hTo a1.toNatClampNeg (by omega) (y36.toNatClampNeg + 1) (by omega), hDm a1.toNatClampNeg (by omega) (y36.toNatClampNeg + 1) (by omega)⟩) _) (cwV 1 hts gX12_sums__X12_highOf rfl rfl rfl (by decide +kernel) ⟨Nat.le_of_ble_eq_true rfl, Nat.le_of_ble_eq_true rfl⟩) (z_preV (i := 0) hK hW rfl rfl) rfl rfl hl.1 rfl (lv_room (Nat.le_of_ble_eq_true rfl)) dX12_sums__175 ⟨Nat.le_of_ble_eq_true rfl, Nat.le_of_ble_eq_true rfl⟩) (fun r u1 H locs hp hW hS => ?_)
                        obtain ⟨e9, hp⟩ := hp
                        rw [e9] at hW
                        refine lv_topl (fun w274 ew274 => ?_)
                        rw [← ew274] at hp
                        have hb276 := hp.2
                        have hl275 : zu_kh I a1.toNatClampNeg a2.toNatClampNeg ((y36.toInt - a2.toInt).toNat + 1) = w274.toInt := by have c1 := z_clt (x := a1) rfl (by omega); have c2 := z_clt (x := a2) rfl (by omega); have c3 := z_clt (x := a3) rfl (by omega); have c4 := z_clt (x := x273) rfl (by omega); unfold zu_kh; rw [show 30 * a1.toNatClampNeg + (a2.toNatClampNeg + ((y36.toInt - a2.toInt).toNat + 1)) = x273.toNatClampNeg by omega]; exact hp.1.symm
                        refine lv_lstore (lv' := [(10, .long w274), (6, .long w193), (13, .long w68), (16, .long w65), (15, .int y36), (12, .int y38), (8, .long w40), (5, .int x26), (0, .ref (ad 0)), (1, .int a1), (2, .int a2), (3, .int a3), (4, .int a4)]) hx hb dX12_sums__178 hl (by decide) rfl (fun ls hl => ?_)
                        refine lv_iconst (v := 1) hx hb dX12_sums__180 (by decide) ?_
                        refine lv_istore (lv' := [(12, .int 1), (10, .long w274), (6, .long w193), (13, .long w68), (16, .long w65), (15, .int y36), (8, .long w40), (5, .int x26), (0, .ref (ad 0)), (1, .int a1), (2, .int a2), (3, .int a3), (4, .int a4)]) hx hb dX12_sums__181 hl (by decide) rfl (fun ls hl => ?_)
                        refine lv_lload hx hb dX12_sums__183 (lv_at hl 2 rfl) ?_
                        refine lv_aload_n hx hb dX12_sums__185 rfl (lv_at hl 8 rfl) ?_
                        refine lv_iload hx hb dX12_sums__186 (lv_at hl 7 rfl) ?_
                        refine lv_iload hx hb dX12_sums__188 (lv_at hl 5 rfl) ?_
                        refine lv_iadd hx hb dX12_sums__190 ?_
                        refine lv_topi (fun x277 ex277 => ?_)
                        have tx277 : x277.toInt = x26.toInt + y36.toInt := z_tadd ex277 rfl rfl (by omega) (by omega)
                        refine lv_iconst (v := 1) hx hb dX12_sums__191 (by decide) ?_
                        refine lv_iadd hx hb dX12_sums__192 ?_
                        refine lv_topi (fun x278 ex278 => ?_)
                        have tx278 : x278.toInt = x277.toInt + 1 := z_tadd ex278 rfl z_l1 (by omega) (by omega)
                        refine z_cl hW hS hA (va_runV (As := [.int x278]) (rest := [.long w193]) ⟨hx, hb, hml, hown, hts⟩ (sx_X12_lowOf_u l G ad I J ⟨(by show 0 ≤ (I 0 0).toInt ∧ (I 0 0).toInt ≤ 719; exact hma.1), (by show 0 ≤ (I 0 1).toInt ∧ (I 0 1).toInt ≤ 30; exact hma.2.1), (by show 0 ≤ (I 0 2).toInt ∧ (I 0 2).toInt ≤ 200; exact hma.2.2)⟩ ⟨(by show 0 ≤ (I 0 13).toInt ∧ (I 0 13).toInt ≤ 12; exact hmb.1), (by show 0 ≤ (I 0 14).toInt ∧ (I 0 14).toInt ≤ 288; exact hmb.2)⟩ hAtf hAtm x278 hab (by omega) (by have c1 := z_clt (x := a1) rfl (by omega); have c2 := z_clt (x := a2) rfl (by omega); have c3 := z_clt (x := a3) rfl (by omega); have c4 := z_clt (x := x278) rfl (by omega); rw [show x278.toNatClampNeg = 30 * a1.toNatClampNeg + (y36.toNatClampNeg + 1) by omega]; exact ⟨hTo a1.toNatClampNeg (by omega) (y36.toNatClampNeg + 1) (by omega), hDm a1.toNatClampNeg (by omega) (y36.toNatClampNeg + 1) (by omega)⟩) _) (cwV 1 hts gX12_sums__X12_lowOf rfl rfl rfl (by decide +kernel) ⟨Nat.le_of_ble_eq_true rfl, Nat.le_of_ble_eq_true rfl⟩) (z_preV (i := 0) hK hW rfl rfl) rfl rfl hl.1 rfl (lv_room (Nat.le_of_ble_eq_true rfl)) dX12_sums__193 ⟨Nat.le_of_ble_eq_true rfl, Nat.le_of_ble_eq_true rfl⟩) (fun r u1 H locs hp hW hS => ?_)
                        obtain ⟨e9, hp⟩ := hp
                        rw [e9] at hW
                        refine lv_topl (fun w279 ew279 => ?_)
                        rw [← ew279] at hp
                        have hb281 := hp.2
                        have hl280 : zu_kl I a1.toNatClampNeg a2.toNatClampNeg ((y36.toInt - a2.toInt).toNat + 1) = w279.toInt := by have c1 := z_clt (x := a1) rfl (by omega); have c2 := z_clt (x := a2) rfl (by omega); have c3 := z_clt (x := a3) rfl (by omega); have c4 := z_clt (x := x278) rfl (by omega); unfold zu_kl; rw [show 30 * a1.toNatClampNeg + (a2.toNatClampNeg + ((y36.toInt - a2.toInt).toNat + 1)) = x278.toNatClampNeg by omega]; exact hp.1.symm
                        refine W.lcmp hx hb dX12_sums__196 ?_
                        refine lv_topi (fun x282 ex282 => ?_)
                        have tx282 := z_tcmp ex282
                        have h283 := z_tlcmp ex282 rfl rfl
                        refine lv_if_ge (tgt := 204) hx hb dX12_sums__197 (by decide) (fun c284 => ?_) (fun c284 => ?_)
                        · have g285 := z_f_ge rfl z_l0 c284
                          refine lv_aload_n hx hb dX12_sums__204 rfl (lv_at hl 8 rfl) ?_
                          refine lv_iload hx hb dX12_sums__205 (lv_at hl 7 rfl) ?_
                          refine lv_iload hx hb dX12_sums__207 (lv_at hl 5 rfl) ?_
                          refine lv_iadd hx hb dX12_sums__209 ?_
                          refine lv_topi (fun x286 ex286 => ?_)
                          have tx286 : x286.toInt = x26.toInt + y36.toInt := z_tadd ex286 rfl rfl (by omega) (by omega)
                          refine lv_iconst (v := 1) hx hb dX12_sums__210 (by decide) ?_
                          refine lv_iadd hx hb dX12_sums__211 ?_
                          refine lv_topi (fun x287 ex287 => ?_)
                          have tx287 : x287.toInt = x286.toInt + 1 := z_tadd ex287 rfl z_l1 (by omega) (by omega)
                          refine z_cl hW hS hA (va_runV (As := [.int x287]) (rest := []) ⟨hx, hb, hml, hown, hts⟩ (sx_X12_lowOf_u l G ad I J ⟨(by show 0 ≤ (I 0 0).toInt ∧ (I 0 0).toInt ≤ 719; exact hma.1), (by show 0 ≤ (I 0 1).toInt ∧ (I 0 1).toInt ≤ 30; exact hma.2.1), (by show 0 ≤ (I 0 2).toInt ∧ (I 0 2).toInt ≤ 200; exact hma.2.2)⟩ ⟨(by show 0 ≤ (I 0 13).toInt ∧ (I 0 13).toInt ≤ 12; exact hmb.1), (by show 0 ≤ (I 0 14).toInt ∧ (I 0 14).toInt ≤ 288; exact hmb.2)⟩ hAtf hAtm x287 hab (by omega) (by have c1 := z_clt (x := a1) rfl (by omega); have c2 := z_clt (x := a2) rfl (by omega); have c3 := z_clt (x := a3) rfl (by omega); have c4 := z_clt (x := x287) rfl (by omega); rw [show x287.toNatClampNeg = 30 * a1.toNatClampNeg + (y36.toNatClampNeg + 1) by omega]; exact ⟨hTo a1.toNatClampNeg (by omega) (y36.toNatClampNeg + 1) (by omega), hDm a1.toNatClampNeg (by omega) (y36.toNatClampNeg + 1) (by omega)⟩) _) (cwV 1 hts gX12_sums__X12_lowOf rfl rfl rfl (by decide +kernel) ⟨Nat.le_of_ble_eq_true rfl, Nat.le_of_ble_eq_true rfl⟩) (z_preV (i := 0) hK hW rfl rfl) rfl rfl hl.1 rfl (lv_room (Nat.le_of_ble_eq_true rfl)) dX12_sums__212 ⟨Nat.le_of_ble_eq_true rfl, Nat.le_of_ble_eq_true rfl⟩) (fun r u1 H locs hp hW hS => ?_)
                          obtain ⟨e9, hp⟩ := hp
                          rw [e9] at hW
                          refine lv_topl (fun w288 ew288 => ?_)
                          rw [← ew288] at hp
                          have hb290 := hp.2
                          have hl289 : zu_kl I a1.toNatClampNeg a2.toNatClampNeg ((y36.toInt - a2.toInt).toNat + 1) = w288.toInt := by have c1 := z_clt (x := a1) rfl (by omega); have c2 := z_clt (x := a2) rfl (by omega); have c3 := z_clt (x := a3) rfl (by omega); have c4 := z_clt (x := x287) rfl (by omega); unfold zu_kl; rw [show 30 * a1.toNatClampNeg + (a2.toNatClampNeg + ((y36.toInt - a2.toInt).toNat + 1)) = x287.toNatClampNeg by omega]; exact hp.1.symm
                          refine lv_lload hx hb dX12_sums__215 (lv_at hl 3 rfl) ?_
                          refine lv_lsub hx hb dX12_sums__217 ?_
                          refine lv_topl (fun w291 ew291 => ?_)
                          have tw291 : w291.toInt = w288.toInt - (w37.toInt + w65.toInt) := z_tlsub ew291 rfl tw68 (by omega) (by omega)
                          refine lv_lload hx hb dX12_sums__218 (lv_at hl 6 rfl) ?_
                          refine W.lcmp hx hb dX12_sums__220 ?_
                          refine lv_topi (fun x292 ex292 => ?_)
                          have tx292 := z_tcmp ex292
                          have h293 := z_tlcmp ex292 tw291 rfl
                          refine lv_if_le (tgt := 240) hx hb dX12_sums__221 (by decide) (fun c294 => ?_) (fun c294 => ?_)
                          · have g295 := z_f_le rfl z_l0 c294
                            obtain ⟨x296, ex296⟩ : ∃ y : Int32, y = y36 + 1 := ⟨_, rfl⟩
                            have tx296 : x296.toInt = y36.toInt + 1 := z_tadd ex296 rfl z_l1 (by omega) (by omega)
                            refine lv_iinc (v := x296) (lv' := [(15, .int x296), (12, .int 1), (10, .long w274), (6, .long w193), (13, .long w68), (16, .long w65), (8, .long w40), (5, .int x26), (0, .ref (ad 0)), (1, .int a1), (2, .int a2), (3, .int a3), (4, .int a4)]) hx hb dX12_sums__240 hl (k := 5) rfl (by rw [ex296]; rfl) (by decide) rfl (fun ls hl => ?_)
                            refine lv_goto (tgt := 79) hx hb dX12_sums__243 (by decide) ?_
                            exact lp35ih x296 w68 (1) w274 w40 w193 _ _ _ (by omega) (by omega) (by omega) (by rw [z_l1]; omega) (by rw [z_l1]; omega) (by omega) (by have q9 := lp35S; obtain ⟨⟨s1, s2, s3⟩, ⟨s4, s5, s6⟩, ⟨s7, s8, s9⟩, ⟨t1, t2, t3⟩, t4, t5, t6⟩ := q9; have q1 := z_l1; have q0 := z_l0; exact ⟨⟨by rw [show (x296.toInt - a2.toInt).toNat = (y36.toInt - a2.toInt).toNat + 1 by omega, zu_s_s, hJ66]; omega, by omega, by omega⟩, ⟨by rw [show (x296.toInt - a2.toInt).toNat = (y36.toInt - a2.toInt).toNat + 1 by omega, zu_H, hJ66]; omega, by omega, by omega⟩, ⟨by rw [show (x296.toInt - a2.toInt).toNat = (y36.toInt - a2.toInt).toNat + 1 by omega, zu_L, zu_s_s, hJ66]; omega, by omega, by omega⟩, ⟨by rw [show (x296.toInt - a2.toInt).toNat = (y36.toInt - a2.toInt).toNat + 1 by omega, zu_Z_s, hJ66]; split <;> omega, by omega, by omega⟩, by omega, by omega, by omega⟩) (fun q h1 h2 => by have q9 := lp35S; obtain ⟨_, ⟨s4, _⟩, _⟩ := q9; by_cases e : q = (y36.toInt - a2.toInt).toNat + 1; (· rw [e, zu_H, hJ66]; omega); (· exact lp35K q h1 (by omega))) hW hS (lv_sub hl [0, 4, 1, 2, 6, 3, 7, 8, 9, 10, 11, 12] rfl)
                          · have g297 := z_f_nle rfl z_l0 c294
                            refine lv_aload_n hx hb dX12_sums__224 rfl (lv_at hl 8 rfl) ?_
                            refine lv_iload hx hb dX12_sums__225 (lv_at hl 7 rfl) ?_
                            refine lv_iload hx hb dX12_sums__227 (lv_at hl 5 rfl) ?_
                            refine lv_iadd hx hb dX12_sums__229 ?_
                            refine lv_topi (fun x298 ex298 => ?_)
                            have tx298 : x298.toInt = x26.toInt + y36.toInt := z_tadd ex298 rfl rfl (by omega) (by omega)
                            refine lv_iconst (v := 1) hx hb dX12_sums__230 (by decide) ?_
                            refine lv_iadd hx hb dX12_sums__231 ?_
                            refine lv_topi (fun x299 ex299 => ?_)
                            have tx299 : x299.toInt = x298.toInt + 1 := z_tadd ex299 rfl z_l1 (by omega) (by omega)
                            refine z_cl hW hS hA (va_runV (As := [.int x299]) (rest := []) ⟨hx, hb, hml, hown, hts⟩ (sx_X12_lowOf_u l G ad I J ⟨(by show 0 ≤ (I 0 0).toInt ∧ (I 0 0).toInt ≤ 719; exact hma.1), (by show 0 ≤ (I 0 1).toInt ∧ (I 0 1).toInt ≤ 30; exact hma.2.1), (by show 0 ≤ (I 0 2).toInt ∧ (I 0 2).toInt ≤ 200; exact hma.2.2)⟩ ⟨(by show 0 ≤ (I 0 13).toInt ∧ (I 0 13).toInt ≤ 12; exact hmb.1), (by show 0 ≤ (I 0 14).toInt ∧ (I 0 14).toInt ≤ 288; exact hmb.2)⟩ hAtf hAtm x299 hab (by omega) (by have c1 := z_clt (x := a1) rfl (by omega); have c2 := z_clt (x := a2) rfl (by omega); have c3 := z_clt (x := a3) rfl (by omega); have c4 := z_clt (x := x299) rfl (by omega); rw [show x299.toNatClampNeg = 30 * a1.toNatClampNeg + (y36.toNatClampNeg + 1) by omega]; exact ⟨hTo a1.toNatClampNeg (by omega) (y36.toNatClampNeg + 1) (by omega), hDm a1.toNatClampNeg (by omega) (y36.toNatClampNeg + 1) (by omega)⟩) _) (cwV 1 hts gX12_sums__X12_lowOf rfl rfl rfl (by decide +kernel) ⟨Nat.le_of_ble_eq_true rfl, Nat.le_of_ble_eq_true rfl⟩) (z_preV (i := 0) hK hW rfl rfl) rfl rfl hl.1 rfl (lv_room (Nat.le_of_ble_eq_true rfl)) dX12_sums__232 ⟨Nat.le_of_ble_eq_true rfl, Nat.le_of_ble_eq_true rfl⟩) (fun r u1 H locs hp hW hS => ?_)
                            obtain ⟨e9, hp⟩ := hp
                            rw [e9] at hW
                            refine lv_topl (fun w300 ew300 => ?_)
                            rw [← ew300] at hp
                            have hb302 := hp.2
                            have hl301 : zu_kl I a1.toNatClampNeg a2.toNatClampNeg ((y36.toInt - a2.toInt).toNat + 1) = w300.toInt := by have c1 := z_clt (x := a1) rfl (by omega); have c2 := z_clt (x := a2) rfl (by omega); have c3 := z_clt (x := a3) rfl (by omega); have c4 := z_clt (x := x299) rfl (by omega); unfold zu_kl; rw [show 30 * a1.toNatClampNeg + (a2.toNatClampNeg + ((y36.toInt - a2.toInt).toNat + 1)) = x299.toNatClampNeg by omega]; exact hp.1.symm
                            refine lv_lload hx hb dX12_sums__235 (lv_at hl 3 rfl) ?_
                            refine lv_lsub hx hb dX12_sums__237 ?_
                            refine lv_topl (fun w303 ew303 => ?_)
                            have tw303 : w303.toInt = w300.toInt - (w37.toInt + w65.toInt) := z_tlsub ew303 rfl tw68 (by omega) (by omega)
                            refine lv_lstore (lv' := [(8, .long w303), (12, .int 1), (10, .long w274), (6, .long w193), (13, .long w68), (16, .long w65), (15, .int y36), (5, .int x26), (0, .ref (ad 0)), (1, .int a1), (2, .int a2), (3, .int a3), (4, .int a4)]) hx hb dX12_sums__238 hl (by decide) rfl (fun ls hl => ?_)
                            obtain ⟨x304, ex304⟩ : ∃ y : Int32, y = y36 + 1 := ⟨_, rfl⟩
                            have tx304 : x304.toInt = y36.toInt + 1 := z_tadd ex304 rfl z_l1 (by omega) (by omega)
                            refine lv_iinc (v := x304) (lv' := [(15, .int x304), (8, .long w303), (12, .int 1), (10, .long w274), (6, .long w193), (13, .long w68), (16, .long w65), (5, .int x26), (0, .ref (ad 0)), (1, .int a1), (2, .int a2), (3, .int a3), (4, .int a4)]) hx hb dX12_sums__240 hl (k := 6) rfl (by rw [ex304]; rfl) (by decide) rfl (fun ls hl => ?_)
                            refine lv_goto (tgt := 79) hx hb dX12_sums__243 (by decide) ?_
                            exact lp35ih x304 w68 (1) w274 w303 w193 _ _ _ (by omega) (by omega) (by omega) (by rw [z_l1]; omega) (by rw [z_l1]; omega) (by omega) (by have q9 := lp35S; obtain ⟨⟨s1, s2, s3⟩, ⟨s4, s5, s6⟩, ⟨s7, s8, s9⟩, ⟨t1, t2, t3⟩, t4, t5, t6⟩ := q9; have q1 := z_l1; have q0 := z_l0; exact ⟨⟨by rw [show (x304.toInt - a2.toInt).toNat = (y36.toInt - a2.toInt).toNat + 1 by omega, zu_s_s, hJ66]; omega, by omega, by omega⟩, ⟨by rw [show (x304.toInt - a2.toInt).toNat = (y36.toInt - a2.toInt).toNat + 1 by omega, zu_H, hJ66]; omega, by omega, by omega⟩, ⟨by rw [show (x304.toInt - a2.toInt).toNat = (y36.toInt - a2.toInt).toNat + 1 by omega, zu_L, zu_s_s, hJ66]; omega, by omega, by omega⟩, ⟨by rw [show (x304.toInt - a2.toInt).toNat = (y36.toInt - a2.toInt).toNat + 1 by omega, zu_Z_s, hJ66]; split <;> omega, by omega, by omega⟩, by omega, by omega, by omega⟩) (fun q h1 h2 => by have q9 := lp35S; obtain ⟨_, ⟨s4, _⟩, _⟩ := q9; by_cases e : q = (y36.toInt - a2.toInt).toNat + 1; (· rw [e, zu_H, hJ66]; omega); (· exact lp35K q h1 (by omega))) hW hS (lv_sub hl [0, 5, 2, 3, 1, 4, 7, 8, 9, 10, 11, 12] rfl)
                        · have g305 := z_f_nge rfl z_l0 c284
                          refine lv_ldc2 (v := (-3)) hx hb hown (hts (.constantLong RX12 490 (-3)) (me_s (me_l (me_l (List.mem_of_getElem? (i := 2) rfl))))) dX12_sums__200 ?_
                          exact z_lret hx hb hr hK hS (Nat.le_of_ble_eq_true rfl) (Nat.le_of_ble_eq_true rfl) hlocks dX12_sums__203 (shM, ad, I, J, PM ad) hW ⟨rfl, (Or.inl ⟨by omega, Or.inl ⟨fun ok => absurd (ok ((y36.toInt - a2.toInt).toNat + 1) (by omega) (by have c1 := z_clt (x := a1) rfl (by omega); have c2 := z_clt (x := a2) rfl (by omega); have c3 := z_clt (x := a3) rfl (by omega); have q9 := lp35S; omega)) (by have q9 := lp35S; obtain ⟨_, ⟨s4, _⟩, _⟩ := q9; rw [zu_H, hJ66]; omega), by decide⟩⟩)⟩
            exact lp35 4294967296 a2 0 (0) 0 w32 w28 _ _ _ (z_m0u _) (by omega) (by omega) (by rw [z_l0]; omega) (by rw [z_l0]; omega) (by omega) (by have q0 : (0 : Int64).toInt = 0 := (by decide); have q1 := z_l0; exact ⟨⟨by rw [show (a2.toInt - a2.toInt).toNat = 0 by omega]; exact q0, by omega, by omega⟩, ⟨by rw [show (a2.toInt - a2.toInt).toNat = 0 by omega]; show _ = zu_kh I a1.toNatClampNeg a2.toNatClampNeg 0; omega, by omega, by omega⟩, ⟨by rw [show (a2.toInt - a2.toInt).toNat = 0 by omega]; show _ = zu_kl I a1.toNatClampNeg a2.toNatClampNeg 0; omega, by omega, by omega⟩, ⟨by rw [show (a2.toInt - a2.toInt).toNat = 0 by omega]; exact q0, by omega, by omega⟩, by omega, by omega, by omega⟩) (fun q h1 h2 => absurd h2 (by omega)) hW hS (lv_sub hl [0, 1, 2, 3, 4, 5, 6, 7, 8, 9, 10, 11] rfl)
          · have h306 := h21
            have z307 := z_l0
            have z308 := z_l1
            refine lv_if_ne (tgt := 41) hx hb dX12_sums__34 (by decide) (fun c309 => absurd (by decide) c309) (fun c309 => ?_)
            refine lv_ldc2 (v := (-1)) hx hb hown (hts (.constantLong RX12 269 (-1)) (me_s (me_l (me_l (List.mem_of_getElem? (i := 1) rfl))))) dX12_sums__37 ?_
            exact z_lret hx hb hr hK hS (Nat.le_of_ble_eq_true rfl) (Nat.le_of_ble_eq_true rfl) hlocks dX12_sums__40 (shM, ad, I, J, PM ad) hW ⟨rfl, (Or.inr ⟨by omega, by decide⟩)⟩
  · have h310 := h1
    have r311 : 0 ≤ (I 0 54).toInt ∧ (I 0 54).toInt ≤ 10 := hms.1
    refine lv_if_eq (tgt := 37) hx hb dX12_sums__5 (by decide) (fun c312 => ?_) (fun c312 => absurd (by decide) c312)
    refine lv_ldc2 (v := (-1)) hx hb hown (hts (.constantLong RX12 269 (-1)) (me_s (me_l (me_l (List.mem_of_getElem? (i := 1) rfl))))) dX12_sums__37 ?_
    exact z_lret hx hb hr hK hS (Nat.le_of_ble_eq_true rfl) (Nat.le_of_ble_eq_true rfl) hlocks dX12_sums__40 (shM, ad, I, J, PM ad) hW ⟨rfl, (Or.inr ⟨by omega, by decide⟩)⟩

end SG60zj
