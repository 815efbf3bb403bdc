

/-! the reference's reader in a memory -/
noncomputable def zm_h (I : z_I) (p : Nat) : Int := if (I 0 33).toInt ≤ (p : Int) then -1 else (I 25 p &&& 255).toInt
theorem zm_hr {I : z_I} {x : Int32} (h0 : 0 ≤ (I 0 34).toInt) (hx : x = z_hr I) : x.toInt = zm_h I (I 0 34).toNatClampNeg := by
  have q : ((I 0 34).toNatClampNeg : Int) = (I 0 34).toInt := z_clt rfl h0
  rw [hx]
  unfold z_hr zm_h
  rw [q]
  split
  · decide
  · rfl
theorem zm_hK {I K : z_I} (h1 : K 0 33 = I 0 33) (h2 : ∀ k, K 25 k = I 25 k) : zm_h K = zm_h I := funext fun p => by
  unfold zm_h
  rw [h1, h2]
theorem zm_h_fr {L : z_L} {I K : z_I} (hf : z_fr L K I) (h1 : z_wr L 0 33 = false) (h2 : L.all (fun e => e.1 != 25 && e.1 != 1000) = true) : zm_h K = zm_h I := zm_hK (hf 0 33 h1) (fun k => hf 25 k (z_wr_c h2))
/-- here() in a memory K of which only the reader's own is changed since I -/
theorem zm_c {L : z_L} {I K : z_I} {x : Int32} {p : Nat} (hf : z_fr L K I) (h1 : z_wr L 0 33 = false) (h2 : L.all (fun e => e.1 != 25 && e.1 != 1000) = true) (hp : (K 0 34).toInt = (p : Int)) (hx : x = z_hr K) : x.toInt = zm_h I p := by
  have q : (K 0 34).toNatClampNeg = p := by
    have := z_clt hp (by omega)
    omega
  rw [zm_hr (by omega) hx, q, zm_h_fr hf h1 h2]
noncomputable def zm_B (I K : z_I) : Prop := ∃ p : Nat, (K 0 34).toInt = (p : Int) ∧ (I 0 34).toNatClampNeg ≤ p ∧ ∀ j : Nat, (I 0 34).toNatClampNeg ≤ j → j < p → zp_bl (zm_h I j)
theorem zm_B_0 {I : z_I} (h : 0 ≤ (I 0 34).toInt) : zm_B I I := ⟨(I 0 34).toNatClampNeg, (z_clt rfl h).symm, Nat.le_refl _, fun j a b => absurd b (by omega)⟩
theorem zm_B_s {I K K1 : z_I} {p : Nat} {c : Int} (hp : (K 0 34).toInt = (p : Int)) (h1 : (I 0 34).toNatClampNeg ≤ p) (h2 : ∀ j : Nat, (I 0 34).toNatClampNeg ≤ j → j < p → zp_bl (zm_h I j)) (e : (K1 0 34).toInt = (p : Int) + 1) (hc : c = zm_h I p) (hb : c = 32 ∨ c = 10) : zm_B I K1 := by
  refine ⟨p + 1, by omega, by omega, fun j a b => ?_⟩
  by_cases q : j = p
  · rw [q]
    unfold zp_bl
    omega
  · exact h2 j a (by omega)
/-- what next() tells: a token behind blanks -/
noncomputable def zm_N (I K : z_I) (J : z_J) : Prop := ∃ (f e : Nat) (t v : Int), (K 0 35).toInt = (f : Int) ∧ (K 0 34).toInt = (e : Int) ∧ zp_sk (zm_h I) (I 0 34).toNatClampNeg f ∧ zp_tk (zm_h I) f e t v ∧ zp_TR (zm_h I) f e t v (K 0 36).toInt (J 0 41).toInt (K 0 37).toInt (K 0 38).toInt
theorem zm_and (a : Int32) : 0 ≤ (a &&& 255).toInt ∧ (a &&& 255).toInt ≤ 255 := by
  have h1 : (a &&& 255).toBitVec.toNat = a.toBitVec.toNat &&& 255 := rfl
  have h2 : (a &&& 255).toBitVec.toNat ≤ 255 := by
    rw [h1]
    exact Nat.and_le_right
  have h3 : (a &&& 255).toInt = ((a &&& 255).toBitVec.toNat : Int) := by
    show (a &&& 255).toBitVec.toInt = _
    rw [BitVec.toInt_eq_toNat_cond, if_pos (by omega)]
  omega
theorem zm_hb {I : z_I} {p : Nat} : -1 ≤ zm_h I p ∧ zm_h I p ≤ 255 := by
  unfold zm_h
  have := zm_and (I 25 p)
  split <;> omega
theorem zm_w27 {j w w2 w3 : Int64} {z : Int32} {d : Int} (e1 : w = j * 27) (e2 : w2 = z.toInt64) (e3 : w3 = w + w2) (hz : z.toInt = d) (h1 : -9223372036854775808 ≤ j.toInt * 27 + d) (h2 : j.toInt * 27 + d ≤ 9223372036854775807) (h3 : -341606371735362066 ≤ j.toInt) (h4 : j.toInt ≤ 341606371735362066) : w3.toInt = j.toInt * 27 + d := by
  have q1 : w.toInt = j.toInt * 27 := by
    rw [e1, Int64.toInt_mul]
    exact Int.bmod_eq_of_le (by show -(18446744073709551616 / 2) ≤ j.toInt * 27; omega) (by show j.toInt * 27 < (18446744073709551616 + 1) / 2; omega)
  have q2 : w2.toInt = d := by
    rw [e2, Int32.toInt_toInt64, hz]
  rw [e3, Int64.toInt_add, q1, q2]
  exact Int.bmod_eq_of_le (by show -(18446744073709551616 / 2) ≤ j.toInt * 27 + d; omega) (by show j.toInt * 27 + d < (18446744073709551616 + 1) / 2; omega)
section ZMN
variable {I K : z_I} {J : z_J} {f e : Nat} {c : Int} {h : Nat → Int}
theorem zm_sk {p : Nat} (h1 : (I 0 34).toNatClampNeg ≤ p) (h2 : ∀ j : Nat, (I 0 34).toNatClampNeg ≤ j → j < p → zp_bl (zm_h I j)) (hc : c = zm_h I p) (n1 : c ≠ 32) (n2 : c ≠ 10) : zp_sk (zm_h I) (I 0 34).toNatClampNeg p := ⟨h1, h2, by
  unfold zp_bl
  omega⟩
theorem zm_N0 (hs : zp_sk (zm_h I) (I 0 34).toNatClampNeg f) (hc : c = zm_h I f) (h0 : c < 0) (eF : (K 0 35).toInt = (f : Int)) (eP : (K 0 34).toInt = (f : Int)) (eT : (K 0 36).toInt = 0) : zm_N I K J := ⟨f, f, 401, 0, eF, eP, hs, Or.inl ⟨by omega, rfl, rfl⟩, Or.inl ⟨eT, rfl⟩⟩
theorem zm_N3 (hs : zp_sk (zm_h I) (I 0 34).toNatClampNeg f) (hc : c = zm_h I f) (h0 : zp_sg c) (eF : (K 0 35).toInt = (f : Int)) (eP : (K 0 34).toInt = (f : Int) + 1) (eT : (K 0 36).toInt = 3) (eS : (K 0 37).toInt = c) : zm_N I K J := ⟨f, f + 1, c, 0, eF, by omega, hs, Or.inr (Or.inr (Or.inr (Or.inl ⟨by rw [← hc]; exact h0, rfl, hc⟩))), Or.inr (Or.inr (Or.inr (Or.inl ⟨eT, eS.symm, by rw [eS]; exact h0⟩)))⟩
theorem zm_N4 (hs : zp_sk (zm_h I) (I 0 34).toNatClampNeg f) (hc : c = zm_h I f) (h0 : 0 ≤ c) (h1 : c < 97 ∨ 122 < c) (h2 : c < 48 ∨ 57 < c) (h3 : ¬ zp_sg c) (eF : (K 0 35).toInt = (f : Int)) (eP : (K 0 34).toInt = (f : Int) + 1) (eT : (K 0 36).toInt = 4) : zm_N I K J := ⟨f, f + 1, 402, 0, eF, by omega, hs, Or.inr (Or.inr (Or.inr (Or.inr ⟨by omega, by unfold zp_al; omega, by unfold zp_dg; omega, by rw [← hc]; exact h3, rfl, rfl⟩))), Or.inr (Or.inr (Or.inr (Or.inr ⟨eT, rfl⟩)))⟩
/-- letters -/
noncomputable def zm_A (I K : z_I) (J : z_J) : Prop := ∃ f e : Nat, (K 0 35).toInt = (f : Int) ∧ (K 0 34).toInt = (e : Int) ∧ zp_sk (zm_h I) (I 0 34).toNatClampNeg f ∧ f ≤ e ∧ zp_al (zm_h I f) ∧ (∀ j, f ≤ j → j < e → zp_al (zm_h I j)) ∧ (K 0 36).toInt = 1 ∧ (J 0 41).toInt = if e ≤ f + 10 then zp_f7 (zm_h I) f (e - f) else -1
theorem zm_A_0 (hs : zp_sk (zm_h I) (I 0 34).toNatClampNeg f) (hc : c = zm_h I f) (h0 : 97 ≤ c ∧ c ≤ 122) (eF : (K 0 35).toInt = (f : Int)) (eP : (K 0 34).toInt = (f : Int)) (eT : (K 0 36).toInt = 1) (eW : (J 0 41).toInt = 0) : zm_A I K J := by
  refine ⟨f, f, eF, eP, hs, Nat.le_refl f, by rw [← hc]; exact h0, fun j a b => absurd b (by omega), eT, ?_⟩
  rw [eW, if_pos (by omega), Nat.sub_self]
  rfl
theorem zp_f7_b {h : Nat → Int} {f : Nat} : ∀ m : Nat, (∀ j, f ≤ j → j < f + m → zp_al (h j)) → 0 ≤ zp_f7 h f m ∧ zp_f7 h f m + 1 ≤ 27 ^ m
  | 0, _ => ⟨Int.le_refl 0, by show (0 : Int) + 1 ≤ 27 ^ 0; decide⟩
  | m + 1, hl => by
    obtain ⟨h1, h2⟩ := zp_f7_b m (fun j a b => hl j a (by omega))
    have h3 := hl (f + m) (by omega) (by omega)
    unfold zp_al at h3
    have e : zp_f7 h f (m + 1) = zp_f7 h f m * 27 + (h (f + m) - 96) := rfl
    rw [e, Int.pow_succ]
    omega
theorem zm_f7_9 {h : Nat → Int} {f m : Nat} (hl : ∀ j, f ≤ j → j < f + m → zp_al (h j)) (hm : m ≤ 9) : 0 ≤ zp_f7 h f m ∧ zp_f7 h f m ≤ 7625597484987 := by
  obtain ⟨h1, h2⟩ := zp_f7_b m hl
  refine ⟨h1, ?_⟩
  have hp : (27 : Int) ^ m ≤ 7625597484987 := by
    have : m = 0 ∨ m = 1 ∨ m = 2 ∨ m = 3 ∨ m = 4 ∨ m = 5 ∨ m = 6 ∨ m = 7 ∨ m = 8 ∨ m = 9 := by omega
    rcases this with rfl | rfl | rfl | rfl | rfl | rfl | rfl | rfl | rfl | rfl <;> decide
  omega
theorem zm_A_s {K1 : z_I} {J1 : z_J} (h : zm_A I K J) (hc : ∀ p : Nat, (K 0 34).toInt = (p : Int) → c = zm_h I p) (h0 : 97 ≤ c ∧ c ≤ 122) (eF : K1 0 35 = K 0 35) (eP : (K1 0 34).toInt = (K 0 34).toInt + 1) (eT : K1 0 36 = K 0 36) (eW : ((K 0 34).toInt - (K 0 35).toInt < 10 → -9223372036854775808 ≤ (J 0 41).toInt * 27 + (c - 96) → (J 0 41).toInt * 27 + (c - 96) ≤ 9223372036854775807 → -341606371735362066 ≤ (J 0 41).toInt → (J 0 41).toInt ≤ 341606371735362066 → (J1 0 41).toInt = (J 0 41).toInt * 27 + (c - 96)) ∧ (10 ≤ (K 0 34).toInt - (K 0 35).toInt → (J1 0 41).toInt = -1)) : zm_A I K1 J1 := by
  obtain ⟨f, e, a1, a2, a3, a4, a5, a6, a7, a8⟩ := h
  have hc := hc e a2
  refine ⟨f, e + 1, by rw [eF]; exact a1, by omega, a3, by omega, a5, fun j b1 b2 => ?_, by rw [eT]; exact a7, ?_⟩
  · by_cases q : j = e
    · rw [q]
      unfold zp_al
      omega
    · exact a6 j b1 (by omega)
  · by_cases q : e < f + 10
    · rw [if_pos (by omega)] at a8
      rw [if_pos (by omega)]
      have hb := zm_f7_9 (h := zm_h I) (f := f) (m := e - f) (fun j b1 b2 => a6 j b1 (by omega)) (by omega)
      have e1 := eW.1 (by omega) (by omega) (by omega) (by omega) (by omega)
      have e2 : e + 1 - f = (e - f) + 1 := by omega
      have e3 : f + (e - f) = e := by omega
      rw [e2]
      show (J1 0 41).toInt = zp_f7 (zm_h I) f (e - f) * 27 + (zm_h I (f + (e - f)) - 96)
      rw [e3, e1, a8, hc]
    · rw [if_neg (by omega)]
      exact eW.2 (by omega)
theorem zm_wo {h : Nat → Int} {f e : Nat} : ∃ t, zp_wo h f e t := by
  by_cases q : ∃ i : Nat, i < 21 ∧ zp_mw h f e (zp_W.getD i [])
  · obtain ⟨i, hi, hm⟩ := q
    exact ⟨300 + (i : Int), Or.inl ⟨i, hi, rfl, hm⟩⟩
  · exact ⟨402, Or.inr ⟨rfl, fun i hi hm => q ⟨i, hi, hm⟩⟩⟩
theorem zm_A_e (h : zm_A I K J) (hc : ∀ p : Nat, (K 0 34).toInt = (p : Int) → c = zm_h I p) (h0 : c < 97 ∨ 122 < c) : zm_N I K J := by
  obtain ⟨f, e, a1, a2, a3, a4, a5, a6, a7, a8⟩ := h
  have hc := hc e a2
  have hfe : f < e := by
    rcases Nat.lt_or_ge f e with q | q
    · exact q
    · have e1 : e = f := by omega
      rw [e1] at hc
      unfold zp_al at a5
      omega
  have hr : zp_ru (zm_h I) zp_al f e := ⟨hfe, a6, by
    unfold zp_al
    omega⟩
  obtain ⟨t, ht⟩ := zm_wo (h := zm_h I) (f := f) (e := e)
  exact ⟨f, e, t, 0, a1, a2, a3, Or.inr (Or.inl ⟨a5, hr, ht⟩), Or.inr (Or.inl ⟨a7, hr, ht, a8⟩)⟩
/-- digits -/
noncomputable def zm_D (I K : z_I) : Prop := ∃ f e : Nat, (K 0 35).toInt = (f : Int) ∧ (K 0 34).toInt = (e : Int) ∧ zp_sk (zm_h I) (I 0 34).toNatClampNeg f ∧ f ≤ e ∧ zp_dg (zm_h I f) ∧ (∀ j, f ≤ j → j < e → zp_dg (zm_h I j)) ∧ (0 ≤ (K 0 38).toInt ∧ (K 0 38).toInt ≤ 200000000) ∧ (e ≤ f + 6 → (K 0 38).toInt = zp_nm (zm_h I) f (e - f))
theorem zm_D_0 (hs : zp_sk (zm_h I) (I 0 34).toNatClampNeg f) (hc : c = zm_h I f) (h0 : 48 ≤ c ∧ c ≤ 57) (eF : (K 0 35).toInt = (f : Int)) (eP : (K 0 34).toInt = (f : Int)) (eV : (K 0 38).toInt = 0) : zm_D I K := by
  refine ⟨f, f, eF, eP, hs, Nat.le_refl f, by rw [← hc]; exact h0, fun j a b => absurd b (by omega), by omega, fun _ => ?_⟩
  rw [eV, Nat.sub_self]
  rfl
theorem zp_nm_b {h : Nat → Int} {f : Nat} : ∀ m : Nat, (∀ j, f ≤ j → j < f + m → zp_dg (h j)) → 0 ≤ zp_nm h f m ∧ zp_nm h f m + 1 ≤ 10 ^ m
  | 0, _ => ⟨Int.le_refl 0, by show (0 : Int) + 1 ≤ 10 ^ 0; decide⟩
  | m + 1, hl => by
    obtain ⟨h1, h2⟩ := zp_nm_b m (fun j a b => hl j a (by omega))
    have h3 := hl (f + m) (by omega) (by omega)
    unfold zp_dg at h3
    have e : zp_nm h f (m + 1) = zp_nm h f m * 10 + (h (f + m) - 48) := rfl
    rw [e, Int.pow_succ]
    omega
theorem zp_nm_6 {h : Nat → Int} {f m : Nat} (hl : ∀ j, f ≤ j → j < f + m → zp_dg (h j)) (hm : m ≤ 6) : 0 ≤ zp_nm h f m ∧ zp_nm h f m ≤ 999999 := by
  obtain ⟨h1, h2⟩ := zp_nm_b m hl
  refine ⟨h1, ?_⟩
  have hp : (10 : Int) ^ m ≤ 1000000 := by
    have : m = 0 ∨ m = 1 ∨ m = 2 ∨ m = 3 ∨ m = 4 ∨ m = 5 ∨ m = 6 := by omega
    rcases this with rfl | rfl | rfl | rfl | rfl | rfl | rfl <;> decide
  omega
theorem zm_D_s {K1 : z_I} {mn : Int} (h : zm_D I K) (hc : ∀ p : Nat, (K 0 34).toInt = (p : Int) → c = zm_h I p) (h0 : 48 ≤ c ∧ c ≤ 57) (eF : K1 0 35 = K 0 35) (eP : (K1 0 34).toInt = (K 0 34).toInt + 1) (hm : mn ≤ (K 0 38).toInt ∧ mn ≤ 10000000 ∧ (mn = (K 0 38).toInt ∨ mn = 10000000)) (eV : (K1 0 38).toInt = mn * 10 + c - 48) : zm_D I K1 := by
  obtain ⟨f, e, a1, a2, a3, a4, a5, a6, a7, a8⟩ := h
  have hc := hc e a2
  refine ⟨f, e + 1, by rw [eF]; exact a1, by omega, a3, by omega, a5, fun j b1 b2 => ?_, by omega, fun q => ?_⟩
  · by_cases q : j = e
    · rw [q]
      unfold zp_dg
      omega
    · exact a6 j b1 (by omega)
  · have e1 := a8 (by omega)
    have hb := zp_nm_6 (h := zm_h I) (f := f) (m := e - f) (fun j b1 b2 => a6 j b1 (by omega)) (by omega)
    have e2 : e + 1 - f = (e - f) + 1 := by omega
    have e3 : f + (e - f) = e := by omega
    rw [e2]
    show (K1 0 38).toInt = zp_nm (zm_h I) f (e - f) * 10 + (zm_h I (f + (e - f)) - 48)
    rw [e3]
    omega
theorem zm_D_e {K1 : z_I} (h : zm_D I K) (hc : ∀ p : Nat, (K 0 34).toInt = (p : Int) → c = zm_h I p) (h0 : c < 48 ∨ 57 < c) (eF : K1 0 35 = K 0 35) (eP : K1 0 34 = K 0 34) (eV : K1 0 38 = K 0 38) (eT : ((K 0 34).toInt - (K 0 35).toInt ≤ 6 ∧ (K1 0 36).toInt = 2) ∨ (6 < (K 0 34).toInt - (K 0 35).toInt ∧ (K1 0 36).toInt = 4)) : zm_N I K1 J := by
  obtain ⟨f, e, a1, a2, a3, a4, a5, a6, a7, a8⟩ := h
  have hc := hc e a2
  have hfe : f < e := by
    rcases Nat.lt_or_ge f e with q | q
    · exact q
    · have e1 : e = f := by omega
      rw [e1] at hc
      unfold zp_dg at a5
      omega
  have hr : zp_ru (zm_h I) zp_dg f e := ⟨hfe, a6, by
    unfold zp_dg
    omega⟩
  rcases eT with ⟨q, eT⟩ | ⟨q, eT⟩
  · have hq : e ≤ f + 6 := by omega
    exact ⟨f, e, 400, (K1 0 38).toInt, by rw [eF]; exact a1, by rw [eP]; exact a2, a3, Or.inr (Or.inr (Or.inl ⟨a5, hr, Or.inl ⟨hq, rfl, by rw [eV]; exact a8 hq⟩⟩)), Or.inr (Or.inr (Or.inl ⟨eT, rfl, rfl⟩))⟩
  · have hq : f + 6 < e := by omega
    exact ⟨f, e, 402, 0, by rw [eF]; exact a1, by rw [eP]; exact a2, a3, Or.inr (Or.inr (Or.inl ⟨a5, hr, Or.inr ⟨hq, rfl⟩⟩)), Or.inr (Or.inr (Or.inr (Or.inr ⟨eT, rfl⟩)))⟩
theorem zm_A_lt (h : zm_A I K J) (hc : ∀ p : Nat, (K 0 34).toInt = (p : Int) → c = zm_h I p) (h0 : c < 97 ∨ 122 < c) : (K 0 35).toInt + 1 ≤ (K 0 34).toInt := by
  obtain ⟨f, e, t, v, a1, a2, a3, a4, a5⟩ := zm_A_e h hc h0
  rcases a4 with ⟨b1, b2, b3⟩ | ⟨b1, b2, b3⟩ | ⟨b1, b2, b3⟩ | ⟨b1, b2, b3⟩ | ⟨b1, b2, b3, b4, b5, b6⟩
  · exfalso
    obtain ⟨f, e, c1, c2, c3, c4, c5, c6, c7, c8⟩ := h
    rcases a5 with ⟨d1, d2⟩ | ⟨d1, d2, d3, d4⟩ | ⟨d1, d2, d3⟩ | ⟨d1, d2, d3⟩ | ⟨d1, d2⟩
    · omega
    · have := d2.1
      omega
    · omega
    · omega
    · omega
  · have := b2.1
    omega
  · have := b2.1
    omega
  · omega
  · omega
theorem zm_D_lt (h : zm_D I K) (hc : ∀ p : Nat, (K 0 34).toInt = (p : Int) → c = zm_h I p) (h0 : c < 48 ∨ 57 < c) : (K 0 35).toInt + 1 ≤ (K 0 34).toInt := by
  obtain ⟨f, e, a1, a2, a3, a4, a5, a6, a7, a8⟩ := h
  have hc := hc e a2
  rcases Nat.lt_or_ge f e with q | q
  · omega
  · exfalso
    have e1 : e = f := by omega
    rw [e1] at hc
    unfold zp_dg at a5
    omega
theorem zm_D_v (h : zm_D I K) : 0 ≤ (K 0 38).toInt ∧ (K 0 38).toInt ≤ 200000000 := by
  obtain ⟨f, e, a1, a2, a3, a4, a5, a6, a7, a8⟩ := h
  exact a7
end ZMN
set_option maxHeartbeats 8000000 in
set_option maxRecDepth 100000 in
theorem sx_X12_isSignByte_x (l : Launch) (G : z_G) (ad : Nat → Nat) (I : z_I) (J : z_J) (a1 : Int32) : z_M l yX12_isSignByte wsX12_isSignByte { frames := 1, cells := 0, slots := 0, locals := 12 } [.int a1] G (shM, ad, I, J, PM ad) (fun r u1 => u1 = (shM, ad, I, J, PM ad) ∧ ((r = 1 ∧ zp_sg a1.toInt) ∨ (r = 0 ∧ ¬ zp_sg a1.toInt))) 0 0 := by
  intro sz
  refine z_headQ (cc := cX12_isSignByte) (maxL := 1) (ret := (some .boolean)) (by decide) rfl (Nat.le_of_ble_eq_true rfl) ?_
  intro p e s m below meth c0 ls hIn hK hsz hW hl
  obtain ⟨hx, hb, hr, hml, hown, hts, hlocks, hname⟩ := hIn
  subst hsz
  have hown : s.vm.findClass RX12 = some m.cls := hown
  have hA : ∀ q : Nat, s.heap.size ≤ q → z_A (shM, ad, I, J, PM ad) s.heap.size q := fun q h => Or.inr h
  generalize hAe : z_A (shM, ad, I, J, PM ad) s.heap.size = A at *
  have hS : va_S A s.heap s.heap [] := va_S.rf
  have hl : lv_has ls 1 [(0, .int a1)] := hl
  refine lv_iload_n hx hb dX12_isSignByte_0 rfl (lv_at hl 0 rfl) ?_
  refine lv_bipush (v := 59) hx hb dX12_isSignByte_1 (by decide) ?_
  refine lv_icmp_eq (tgt := 78) hx hb dX12_isSignByte_3 (by decide) (fun c1 => ?_) (fun c1 => ?_)
  · have g2 := z_f_eq rfl z_l59 c1
    have b3 := Int32.toInt_lt a1
    refine lv_iconst (v := 1) hx hb dX12_isSignByte_78 (by decide) ?_
    refine lv_goto (tgt := 83) hx hb dX12_isSignByte_79 (by decide) ?_
    exact z_zret hx hb hr (by decide) hK hS (Nat.le_of_ble_eq_true rfl) (Nat.le_of_ble_eq_true rfl) hlocks dX12_isSignByte_83 (shM, ad, I, J, PM ad) hW ⟨rfl, (Or.inl ⟨rfl, by unfold zp_sg; omega⟩)⟩
  · have g4 := z_f_ne rfl z_l59 c1
    have b5 := Int32.toInt_lt a1
    refine lv_iload_n hx hb dX12_isSignByte_6 rfl (lv_at hl 0 rfl) ?_
    refine lv_bipush (v := 40) hx hb dX12_isSignByte_7 (by decide) ?_
    refine lv_icmp_eq (tgt := 78) hx hb dX12_isSignByte_9 (by decide) (fun c6 => ?_) (fun c6 => ?_)
    · have g7 := z_f_eq rfl z_l40 c6
      refine lv_iconst (v := 1) hx hb dX12_isSignByte_78 (by decide) ?_
      refine lv_goto (tgt := 83) hx hb dX12_isSignByte_79 (by decide) ?_
      exact z_zret hx hb hr (by decide) hK hS (Nat.le_of_ble_eq_true rfl) (Nat.le_of_ble_eq_true rfl) hlocks dX12_isSignByte_83 (shM, ad, I, J, PM ad) hW ⟨rfl, (Or.inl ⟨rfl, by unfold zp_sg; omega⟩)⟩
    · have g8 := z_f_ne rfl z_l40 c6
      refine lv_iload_n hx hb dX12_isSignByte_12 rfl (lv_at hl 0 rfl) ?_
      refine lv_bipush (v := 41) hx hb dX12_isSignByte_13 (by decide) ?_
      refine lv_icmp_eq (tgt := 78) hx hb dX12_isSignByte_15 (by decide) (fun c9 => ?_) (fun c9 => ?_)
      · have g10 := z_f_eq rfl z_l41 c9
        refine lv_iconst (v := 1) hx hb dX12_isSignByte_78 (by decide) ?_
        refine lv_goto (tgt := 83) hx hb dX12_isSignByte_79 (by decide) ?_
        exact z_zret hx hb hr (by decide) hK hS (Nat.le_of_ble_eq_true rfl) (Nat.le_of_ble_eq_true rfl) hlocks dX12_isSignByte_83 (shM, ad, I, J, PM ad) hW ⟨rfl, (Or.inl ⟨rfl, by unfold zp_sg; omega⟩)⟩
      · have g11 := z_f_ne rfl z_l41 c9
        refine lv_iload_n hx hb dX12_isSignByte_18 rfl (lv_at hl 0 rfl) ?_
        refine lv_bipush (v := 123) hx hb dX12_isSignByte_19 (by decide) ?_
        refine lv_icmp_eq (tgt := 78) hx hb dX12_isSignByte_21 (by decide) (fun c12 => ?_) (fun c12 => ?_)
        · have g13 := z_f_eq rfl z_l123 c12
          refine lv_iconst (v := 1) hx hb dX12_isSignByte_78 (by decide) ?_
          refine lv_goto (tgt := 83) hx hb dX12_isSignByte_79 (by decide) ?_
          exact z_zret hx hb hr (by decide) hK hS (Nat.le_of_ble_eq_true rfl) (Nat.le_of_ble_eq_true rfl) hlocks dX12_isSignByte_83 (shM, ad, I, J, PM ad) hW ⟨rfl, (Or.inl ⟨rfl, by unfold zp_sg; omega⟩)⟩
        · have g14 := z_f_ne rfl z_l123 c12
          refine lv_iload_n hx hb dX12_isSignByte_24 rfl (lv_at hl 0 rfl) ?_
          refine lv_bipush (v := 125) hx hb dX12_isSignByte_25 (by decide) ?_
          refine lv_icmp_eq (tgt := 78) hx hb dX12_isSignByte_27 (by decide) (fun c15 => ?_) (fun c15 => ?_)
          · have g16 := z_f_eq rfl z_l125 c15
            refine lv_iconst (v := 1) hx hb dX12_isSignByte_78 (by decide) ?_
            refine lv_goto (tgt := 83) hx hb dX12_isSignByte_79 (by decide) ?_
            exact z_zret hx hb hr (by decide) hK hS (Nat.le_of_ble_eq_true rfl) (Nat.le_of_ble_eq_true rfl) hlocks dX12_isSignByte_83 (shM, ad, I, J, PM ad) hW ⟨rfl, (Or.inl ⟨rfl, by unfold zp_sg; omega⟩)⟩
          · have g17 := z_f_ne rfl z_l125 c15
            refine lv_iload_n hx hb dX12_isSignByte_30 rfl (lv_at hl 0 rfl) ?_
            refine lv_bipush (v := 44) hx hb dX12_isSignByte_31 (by decide) ?_
            refine lv_icmp_eq (tgt := 78) hx hb dX12_isSignByte_33 (by decide) (fun c18 => ?_) (fun c18 => ?_)
            · have g19 := z_f_eq rfl z_l44 c18
              refine lv_iconst (v := 1) hx hb dX12_isSignByte_78 (by decide) ?_
              refine lv_goto (tgt := 83) hx hb dX12_isSignByte_79 (by decide) ?_
              exact z_zret hx hb hr (by decide) hK hS (Nat.le_of_ble_eq_true rfl) (Nat.le_of_ble_eq_true rfl) hlocks dX12_isSignByte_83 (shM, ad, I, J, PM ad) hW ⟨rfl, (Or.inl ⟨rfl, by unfold zp_sg; omega⟩)⟩
            · have g20 := z_f_ne rfl z_l44 c18
              refine lv_iload_n hx hb dX12_isSignByte_36 rfl (lv_at hl 0 rfl) ?_
              refine lv_bipush (v := 60) hx hb dX12_isSignByte_37 (by decide) ?_
              refine lv_icmp_eq (tgt := 78) hx hb dX12_isSignByte_39 (by decide) (fun c21 => ?_) (fun c21 => ?_)
              · have g22 := z_f_eq rfl z_l60 c21
                refine lv_iconst (v := 1) hx hb dX12_isSignByte_78 (by decide) ?_
                refine lv_goto (tgt := 83) hx hb dX12_isSignByte_79 (by decide) ?_
                exact z_zret hx hb hr (by decide) hK hS (Nat.le_of_ble_eq_true rfl) (Nat.le_of_ble_eq_true rfl) hlocks dX12_isSignByte_83 (shM, ad, I, J, PM ad) hW ⟨rfl, (Or.inl ⟨rfl, by unfold zp_sg; omega⟩)⟩
              · have g23 := z_f_ne rfl z_l60 c21
                refine lv_iload_n hx hb dX12_isSignByte_42 rfl (lv_at hl 0 rfl) ?_
                refine lv_bipush (v := 62) hx hb dX12_isSignByte_43 (by decide) ?_
                refine lv_icmp_eq (tgt := 78) hx hb dX12_isSignByte_45 (by decide) (fun c24 => ?_) (fun c24 => ?_)
                · have g25 := z_f_eq rfl z_l62 c24
                  refine lv_iconst (v := 1) hx hb dX12_isSignByte_78 (by decide) ?_
                  refine lv_goto (tgt := 83) hx hb dX12_isSignByte_79 (by decide) ?_
                  exact z_zret hx hb hr (by decide) hK hS (Nat.le_of_ble_eq_true rfl) (Nat.le_of_ble_eq_true rfl) hlocks dX12_isSignByte_83 (shM, ad, I, J, PM ad) hW ⟨rfl, (Or.inl ⟨rfl, by unfold zp_sg; omega⟩)⟩
                · have g26 := z_f_ne rfl z_l62 c24
                  refine lv_iload_n hx hb dX12_isSignByte_48 rfl (lv_at hl 0 rfl) ?_
                  refine lv_bipush (v := 61) hx hb dX12_isSignByte_49 (by decide) ?_
                  refine lv_icmp_eq (tgt := 78) hx hb dX12_isSignByte_51 (by decide) (fun c27 => ?_) (fun c27 => ?_)
                  · have g28 := z_f_eq rfl z_l61 c27
                    refine lv_iconst (v := 1) hx hb dX12_isSignByte_78 (by decide) ?_
                    refine lv_goto (tgt := 83) hx hb dX12_isSignByte_79 (by decide) ?_
                    exact z_zret hx hb hr (by decide) hK hS (Nat.le_of_ble_eq_true rfl) (Nat.le_of_ble_eq_true rfl) hlocks dX12_isSignByte_83 (shM, ad, I, J, PM ad) hW ⟨rfl, (Or.inl ⟨rfl, by unfold zp_sg; omega⟩)⟩
                  · have g29 := z_f_ne rfl z_l61 c27
                    refine lv_iload_n hx hb dX12_isSignByte_54 rfl (lv_at hl 0 rfl) ?_
                    refine lv_bipush (v := 43) hx hb dX12_isSignByte_55 (by decide) ?_
                    refine lv_icmp_eq (tgt := 78) hx hb dX12_isSignByte_57 (by decide) (fun c30 => ?_) (fun c30 => ?_)
                    · have g31 := z_f_eq rfl z_l43 c30
                      refine lv_iconst (v := 1) hx hb dX12_isSignByte_78 (by decide) ?_
                      refine lv_goto (tgt := 83) hx hb dX12_isSignByte_79 (by decide) ?_
                      exact z_zret hx hb hr (by decide) hK hS (Nat.le_of_ble_eq_true rfl) (Nat.le_of_ble_eq_true rfl) hlocks dX12_isSignByte_83 (shM, ad, I, J, PM ad) hW ⟨rfl, (Or.inl ⟨rfl, by unfold zp_sg; omega⟩)⟩
                    · have g32 := z_f_ne rfl z_l43 c30
                      refine lv_iload_n hx hb dX12_isSignByte_60 rfl (lv_at hl 0 rfl) ?_
                      refine lv_bipush (v := 45) hx hb dX12_isSignByte_61 (by decide) ?_
                      refine lv_icmp_eq (tgt := 78) hx hb dX12_isSignByte_63 (by decide) (fun c33 => ?_) (fun c33 => ?_)
                      · have g34 := z_f_eq rfl z_l45 c33
                        refine lv_iconst (v := 1) hx hb dX12_isSignByte_78 (by decide) ?_
                        refine lv_goto (tgt := 83) hx hb dX12_isSignByte_79 (by decide) ?_
                        exact z_zret hx hb hr (by decide) hK hS (Nat.le_of_ble_eq_true rfl) (Nat.le_of_ble_eq_true rfl) hlocks dX12_isSignByte_83 (shM, ad, I, J, PM ad) hW ⟨rfl, (Or.inl ⟨rfl, by unfold zp_sg; omega⟩)⟩
                      · have g35 := z_f_ne rfl z_l45 c33
                        refine lv_iload_n hx hb dX12_isSignByte_66 rfl (lv_at hl 0 rfl) ?_
                        refine lv_bipush (v := 42) hx hb dX12_isSignByte_67 (by decide) ?_
                        refine lv_icmp_eq (tgt := 78) hx hb dX12_isSignByte_69 (by decide) (fun c36 => ?_) (fun c36 => ?_)
                        · have g37 := z_f_eq rfl z_l42 c36
                          refine lv_iconst (v := 1) hx hb dX12_isSignByte_78 (by decide) ?_
                          refine lv_goto (tgt := 83) hx hb dX12_isSignByte_79 (by decide) ?_
                          exact z_zret hx hb hr (by decide) hK hS (Nat.le_of_ble_eq_true rfl) (Nat.le_of_ble_eq_true rfl) hlocks dX12_isSignByte_83 (shM, ad, I, J, PM ad) hW ⟨rfl, (Or.inl ⟨rfl, by unfold zp_sg; omega⟩)⟩
                        · have g38 := z_f_ne rfl z_l42 c36
                          refine lv_iload_n hx hb dX12_isSignByte_72 rfl (lv_at hl 0 rfl) ?_
                          refine lv_bipush (v := 47) hx hb dX12_isSignByte_73 (by decide) ?_
                          refine lv_icmp_ne (tgt := 82) hx hb dX12_isSignByte_75 (by decide) (fun c39 => ?_) (fun c39 => ?_)
                          · have g40 := z_f_ne rfl z_l47 c39
                            refine lv_iconst (v := 0) hx hb dX12_isSignByte_82 (by decide) ?_
                            exact z_zret hx hb hr (by decide) hK hS (Nat.le_of_ble_eq_true rfl) (Nat.le_of_ble_eq_true rfl) hlocks dX12_isSignByte_83 (shM, ad, I, J, PM ad) hW ⟨rfl, (Or.inr ⟨rfl, by unfold zp_sg; omega⟩)⟩
                          · have g41 := z_f_eq rfl z_l47 c39
                            refine lv_iconst (v := 1) hx hb dX12_isSignByte_78 (by decide) ?_
                            refine lv_goto (tgt := 83) hx hb dX12_isSignByte_79 (by decide) ?_
                            exact z_zret hx hb hr (by decide) hK hS (Nat.le_of_ble_eq_true rfl) (Nat.le_of_ble_eq_true rfl) hlocks dX12_isSignByte_83 (shM, ad, I, J, PM ad) hW ⟨rfl, (Or.inl ⟨rfl, by unfold zp_sg; omega⟩)⟩
noncomputable def L_X12_next_x : z_L := [(0, 35), (0, 36), (0, 37), (0, 38), (0, 34)]
set_option maxHeartbeats 8000000 in
set_option maxRecDepth 100000 in
theorem sx_X12_next_x (l : Launch) (G : z_G) (ad : Nat → Nat) (I : z_I) (J : z_J) (hmp : z_imp I) (hmt : z_imt I) (hrq : z_irq I) : z_Mv l yX12_next wsX12_next { frames := 2, cells := 0, slots := 0, locals := 34 } [.ref (ad 0)] G (shM, ad, I, J, PM ad) (fun u1 => ∃ (I1 : z_I) (J1 : z_J), u1 = (shM, ad, I1, J1, PM ad) ∧ z_imp I1 ∧ z_imt I1 ∧ z_irp I1 ∧ z_fr L_X12_next_x I1 I ∧ ((I 0 34).toInt ≤ (I1 0 35).toInt ∧ zm_N I I1 J1)) 0 0 := by
  intro sz
  refine z_headQ (cc := cX12_next) (maxL := 2) (ret := none) (by decide) rfl (Nat.le_of_ble_eq_true rfl) ?_
  intro p e s m below meth c0 ls hIn hK hsz hW hl
  obtain ⟨hx, hb, hr, hml, hown, hts, hlocks, hname⟩ := hIn
  subst hsz
  have hown : s.vm.findClass RX12 = some m.cls := hown
  have hA : ∀ q : Nat, s.heap.size ≤ q → z_A (shM, ad, I, J, PM ad) s.heap.size q := fun q h => Or.inr h
  generalize hAe : z_A (shM, ad, I, J, PM ad) s.heap.size = A at *
  have hS : va_S A s.heap s.heap [] := va_S.rf
  have hl : lv_has ls 2 [(0, .ref (ad 0))] := hl
  have krq : 0 ≤ (I 0 34).toInt ∧ (I 0 34).toInt ≤ (I 0 33).toInt ∧ (I 0 33).toInt ≤ 500 := hrq
  have lp1 : ∀ (f : Nat)  (I2 : z_I) (J3 : z_J) (H : Heap) (locs : List Loc) (ls : Array Slot), (501 - (I2 0 34).toInt ≤ (f : Int)) → (z_imp I2) → (z_imt I2) → (z_irq I2) → ((I 0 34).toInt ≤ (I2 0 34).toInt) → (zm_B I I2) → (z_fr L_X12_next_x I2 I) → z_W G A (shM, ad, I2, J3, PM ad) H → va_S A s.heap H locs → lv_has ls 2 [(0, .ref (ad 0))] → W p l e (headSpec wsX12_next { frames := 2, cells := 0, slots := 0, locals := 34 }).room s m ([.ref (ad 0)] : List Value).toArray below meth c0 H locs 0 0 (MQ below (va_Qv (fun (u1 : z_U) => ∃ (I1 : z_I) (J1 : z_J), u1 = (shM, ad, I1, J1, PM ad) ∧ z_imp I1 ∧ z_imt I1 ∧ z_irp I1 ∧ z_fr L_X12_next_x I1 I ∧ ((I 0 34).toInt ≤ (I1 0 35).toInt ∧ zm_N I I1 J1)) (z_B G A) A) ([.ref (ad 0)] : List Value).toArray s 0 0 A) (F0 m 0 ls []) := by
    intro f
    induction f with
    | zero => intro  I2 J3 H locs ls lp1m lp1mp lp1mt lp1rq lp1P0 lp1B lp1fr hW hS hl; exact False.elim (by have : 0 ≤ (I2 0 34).toInt ∧ (I2 0 34).toInt ≤ (I2 0 33).toInt ∧ (I2 0 33).toInt ≤ 500 := lp1rq; omega)
    | succ f lp1ih =>
      intro  I2 J3 H locs ls lp1m lp1mp lp1mt lp1rq lp1P0 lp1B lp1fr hW hS hl
      have k4 : 0 ≤ (I2 0 34).toInt ∧ (I2 0 34).toInt ≤ (I2 0 33).toInt ∧ (I2 0 33).toInt ≤ 500 := lp1rq
      refine lv_aload_n hx hb dX12_next_0 rfl (lv_at hl 0 rfl) ?_
      obtain ⟨pb, hpb, hpb1, hpb2⟩ := lp1B
      refine z_ci hW hS hA (va_runV (As := []) (rest := []) ⟨hx, hb, hml, hown, hts⟩ (sx_X12_here l G ad I2 J3 ⟨(by show 0 ≤ (I2 0 31).toInt ∧ (I2 0 31).toInt ≤ 500; exact lp1mp.1), (by show 0 ≤ (I2 0 33).toInt ∧ (I2 0 33).toInt ≤ 500; exact lp1mp.2.1), (by show 0 ≤ (I2 0 34).toInt ∧ (I2 0 34).toInt ≤ 500; exact lp1mp.2.2.1), (by show 0 ≤ (I2 0 35).toInt ∧ (I2 0 35).toInt ≤ 500; exact lp1mp.2.2.2)⟩ (by show 0 ≤ (I2 0 34).toInt ∧ (I2 0 34).toInt ≤ (I2 0 33).toInt ∧ (I2 0 33).toInt ≤ 500; first | omega | decide)  _) (cwV 0 hts gX12_next_X12_here rfl rfl rfl (by decide +kernel) ⟨Nat.le_of_ble_eq_true rfl, Nat.le_of_ble_eq_true rfl⟩) (z_preV (i := 0) hK hW rfl rfl) rfl rfl hl.1 rfl (lv_room (Nat.le_of_ble_eq_true rfl)) dX12_next_1 ⟨Nat.le_of_ble_eq_true rfl, Nat.le_of_ble_eq_true rfl⟩) (fun r u1 H locs hp hW hS => ?_)
      obtain ⟨e9, hp⟩ := hp
      rw [e9] at hW
      refine lv_topi (fun x5 ex5 => ?_)
      have hhx5 : x5 = z_hr I2 := ex5.trans hp.1
      have h6 := hp.2
      rw [← ex5] at h6
      have hzx5 : x5.toInt = zm_h I pb := zm_c lp1fr (by decide) (by decide) (by show (I2 0 34).toInt = (pb : Int); first | omega | decide) hhx5
      have hbx5 : -1 ≤ x5.toInt ∧ x5.toInt ≤ 255 := by rw [hzx5]; exact zm_hb
      refine lv_bipush (v := 32) hx hb dX12_next_4 (by decide) ?_
      refine lv_icmp_eq (tgt := 18) hx hb dX12_next_6 (by decide) (fun c7 => ?_) (fun c7 => ?_)
      · have g8 := z_f_eq rfl z_l32 c7
        refine lv_aload_n hx hb dX12_next_18 rfl (lv_at hl 0 rfl) ?_
        refine lv_dup hx hb dX12_next_19 rfl ?_
        have r9 : 0 ≤ (I2 0 34).toInt ∧ (I2 0 34).toInt ≤ 500 := lp1mp.2.2.1
        refine z_get (T := TX12) (N := 96) (ci := 12) (i := 0) (v := .int (I2 0 34)) hx hb hts zj_X12_next_X12 hown hK hW rfl rfl 34 (by decide) (hts (.fieldLink RX12 256 "PetrolBoardModel" "point" "I") (me_s (me_l (me_l (List.mem_of_getElem? (i := 0) rfl))))) (fun _ h => h) rfl dX12_next_20 ?_
        refine lv_iconst (v := 1) hx hb dX12_next_23 (by decide) ?_
        refine lv_iadd hx hb dX12_next_24 ?_
        refine lv_topi (fun x10 ex10 => ?_)
        have tx10 : x10.toInt = (I2 0 34).toInt + 1 := z_tadd ex10 rfl z_l1 (by omega) (by omega)
        refine z_put (T := TX12) (N := 96) (ci := 12) (i := 0) (v := .int x10) (I1 := z_up I2 0 34 x10) (J1 := J3) (P1 := PM ad) hx hb hts zj_X12_next_X12 tyX12 tyX12_ok nmX12 hown hK hW hS rfl rfl 34 (by decide) (hts (.fieldLink RX12 256 "PetrolBoardModel" "point" "I") (me_s (me_l (me_l (List.mem_of_getElem? (i := 0) rfl))))) (fun _ h => h) rfl rfl rfl (by first | rfl | exact congrArg _ z_up_s) (fun a b h ty => z_vI h ty) dX12_next_25 (fun H locs hz1 hW hS => ?_)
        obtain ⟨I11, eI11⟩ : ∃ K : z_I, K = z_up I2 0 34 x10 := ⟨_, rfl⟩
        rw [← eI11] at hW
        have f12 := z_fr_k lp1fr (show z_wr L_X12_next_x 0 34 = true by decide) eI11
        refine lv_goto (tgt := 0) hx hb dX12_next_28 (by decide) ?_
        exact lp1ih  I11 J3 _ _ _ (by show 501 - (I11 0 34).toInt ≤ (f : Int); have q9 : (I11 0 34) = x10 := (by rw [eI11, z_up_s]); rw [q9]; first | omega | decide) ⟨(by show 0 ≤ (I11 0 31).toInt ∧ (I11 0 31).toInt ≤ 500; rw [eI11, z_up_k (by decide)]; exact lp1mp.1), (by show 0 ≤ (I11 0 33).toInt ∧ (I11 0 33).toInt ≤ 500; rw [eI11, z_up_k (by decide)]; exact lp1mp.2.1), (by show 0 ≤ (I11 0 34).toInt ∧ (I11 0 34).toInt ≤ 500; rw [eI11, z_up_s]; omega), (by show 0 ≤ (I11 0 35).toInt ∧ (I11 0 35).toInt ≤ 500; rw [eI11, z_up_k (by decide)]; exact lp1mp.2.2.2)⟩ ⟨(by show 0 ≤ (I11 0 36).toInt ∧ (I11 0 36).toInt ≤ 4; rw [eI11, z_up_k (by decide)]; exact lp1mt.1), (by show 0 ≤ (I11 0 42).toInt ∧ (I11 0 42).toInt ≤ 1; rw [eI11, z_up_k (by decide)]; exact lp1mt.2)⟩ (by have q0 : (I11 0 34) = x10 := (by rw [eI11, z_up_s]); have q1 : (I11 0 33) = (I2 0 33) := (by rw [eI11, z_up_k (by decide)]); show 0 ≤ (I11 0 34).toInt ∧ (I11 0 34).toInt ≤ (I11 0 33).toInt ∧ (I11 0 33).toInt ≤ 500; rw [q0, q1]; first | omega | decide) (by have q0 : (I11 0 34) = x10 := (by rw [eI11, z_up_s]); show (I 0 34).toInt ≤ (I11 0 34).toInt; rw [q0]; omega) (zm_B_s hpb hpb1 hpb2 (by show (I11 0 34).toInt = (pb : Int) + 1; have q9 : (I11 0 34) = x10 := (by rw [eI11, z_up_s]); rw [q9]; first | omega | decide) hzx5 (by omega)) f12 hW hS (lv_sub hl [0] rfl)
      · have g13 := z_f_ne rfl z_l32 c7
        refine lv_aload_n hx hb dX12_next_9 rfl (lv_at hl 0 rfl) ?_
        refine z_ci hW hS hA (va_runV (As := []) (rest := []) ⟨hx, hb, hml, hown, hts⟩ (sx_X12_here l G ad I2 J3 ⟨(by show 0 ≤ (I2 0 31).toInt ∧ (I2 0 31).toInt ≤ 500; exact lp1mp.1), (by show 0 ≤ (I2 0 33).toInt ∧ (I2 0 33).toInt ≤ 500; exact lp1mp.2.1), (by show 0 ≤ (I2 0 34).toInt ∧ (I2 0 34).toInt ≤ 500; exact lp1mp.2.2.1), (by show 0 ≤ (I2 0 35).toInt ∧ (I2 0 35).toInt ≤ 500; exact lp1mp.2.2.2)⟩ (by show 0 ≤ (I2 0 34).toInt ∧ (I2 0 34).toInt ≤ (I2 0 33).toInt ∧ (I2 0 33).toInt ≤ 500; first | omega | decide)  _) (cwV 0 hts gX12_next_X12_here rfl rfl rfl (by decide +kernel) ⟨Nat.le_of_ble_eq_true rfl, Nat.le_of_ble_eq_true rfl⟩) (z_preV (i := 0) hK hW rfl rfl) rfl rfl hl.1 rfl (lv_room (Nat.le_of_ble_eq_true rfl)) dX12_next_10 ⟨Nat.le_of_ble_eq_true rfl, Nat.le_of_ble_eq_true rfl⟩) (fun r u1 H locs hp hW hS => ?_)
        obtain ⟨e9, hp⟩ := hp
        rw [e9] at hW
        refine lv_topi (fun x14 ex14 => ?_)
        have hhx14 : x14 = z_hr I2 := ex14.trans hp.1
        have h15 := hp.2
        rw [← ex14] at h15
        have hzx14 : x14.toInt = zm_h I pb := zm_c lp1fr (by decide) (by decide) (by show (I2 0 34).toInt = (pb : Int); first | omega | decide) hhx14
        have hbx14 : -1 ≤ x14.toInt ∧ x14.toInt ≤ 255 := by rw [hzx14]; exact zm_hb
        refine lv_bipush (v := 10) hx hb dX12_next_13 (by decide) ?_
        refine lv_icmp_ne (tgt := 31) hx hb dX12_next_15 (by decide) (fun c16 => ?_) (fun c16 => ?_)
        · have g17 := z_f_ne rfl z_l10 c16
          refine lv_aload_n hx hb dX12_next_31 rfl (lv_at hl 0 rfl) ?_
          refine lv_aload_n hx hb dX12_next_32 rfl (lv_at hl 0 rfl) ?_
          have r18 : 0 ≤ (I2 0 34).toInt ∧ (I2 0 34).toInt ≤ 500 := lp1mp.2.2.1
          refine z_get (T := TX12) (N := 96) (ci := 12) (i := 0) (v := .int (I2 0 34)) hx hb hts zj_X12_next_X12 hown hK hW rfl rfl 34 (by decide) (hts (.fieldLink RX12 256 "PetrolBoardModel" "point" "I") (me_s (me_l (me_l (List.mem_of_getElem? (i := 0) rfl))))) (fun _ h => h) rfl dX12_next_33 ?_
          refine z_put (T := TX12) (N := 96) (ci := 12) (i := 0) (v := .int (I2 0 34)) (I1 := z_up I2 0 35 (I2 0 34)) (J1 := J3) (P1 := PM ad) hx hb hts zj_X12_next_X12 tyX12 tyX12_ok nmX12 hown hK hW hS rfl rfl 35 (by decide) (hts (.fieldLink RX12 266 "PetrolBoardModel" "from" "I") (me_s (me_l (me_l (List.mem_of_getElem? (i := 1) rfl))))) (fun _ h => h) rfl rfl rfl (by first | rfl | exact congrArg _ z_up_s) (fun a b h ty => z_vI h ty) dX12_next_36 (fun H locs hz1 hW hS => ?_)
          obtain ⟨I19, eI19⟩ : ∃ K : z_I, K = z_up I2 0 35 (I2 0 34) := ⟨_, rfl⟩
          rw [← eI19] at hW
          have f20 := z_fr_k lp1fr (show z_wr L_X12_next_x 0 35 = true by decide) eI19
          refine lv_aload_n hx hb dX12_next_39 rfl (lv_at hl 0 rfl) ?_
          refine z_ci hW hS hA (va_runV (As := []) (rest := []) ⟨hx, hb, hml, hown, hts⟩ (sx_X12_here l G ad I19 J3 ⟨(by show 0 ≤ (I19 0 31).toInt ∧ (I19 0 31).toInt ≤ 500; rw [eI19, z_up_k (by decide)]; exact lp1mp.1), (by show 0 ≤ (I19 0 33).toInt ∧ (I19 0 33).toInt ≤ 500; rw [eI19, z_up_k (by decide)]; exact lp1mp.2.1), (by show 0 ≤ (I19 0 34).toInt ∧ (I19 0 34).toInt ≤ 500; rw [eI19, z_up_k (by decide)]; exact lp1mp.2.2.1), (by show 0 ≤ (I19 0 35).toInt ∧ (I19 0 35).toInt ≤ 500; rw [eI19, z_up_s]; omega)⟩ (by have q0 : (I19 0 34) = (I2 0 34) := (by rw [eI19, z_up_k (by decide)]); have q1 : (I19 0 33) = (I2 0 33) := (by rw [eI19, z_up_k (by decide)]); show 0 ≤ (I19 0 34).toInt ∧ (I19 0 34).toInt ≤ (I19 0 33).toInt ∧ (I19 0 33).toInt ≤ 500; rw [q0, q1]; first | omega | decide)  _) (cwV 0 hts gX12_next_X12_here rfl rfl rfl (by decide +kernel) ⟨Nat.le_of_ble_eq_true rfl, Nat.le_of_ble_eq_true rfl⟩) (z_preV (i := 0) hK hW rfl rfl) rfl rfl hl.1 rfl (lv_room (Nat.le_of_ble_eq_true rfl)) dX12_next_40 ⟨Nat.le_of_ble_eq_true rfl, Nat.le_of_ble_eq_true rfl⟩) (fun r u1 H locs hp hW hS => ?_)
          obtain ⟨e9, hp⟩ := hp
          rw [e9] at hW
          refine lv_topi (fun x21 ex21 => ?_)
          have hhx21 : x21 = z_hr I19 := ex21.trans hp.1
          have h22 := hp.2
          rw [← ex21] at h22
          rw [show (I19 0 34) = (I2 0 34) from by rw [eI19, z_up_k (by decide)]] at h22
          rw [show (I19 0 33) = (I2 0 33) from by rw [eI19, z_up_k (by decide)]] at h22
          have hzx21 : x21.toInt = zm_h I pb := zm_c f20 (by decide) (by decide) (by show (I19 0 34).toInt = (pb : Int); have q9 : (I19 0 34) = (I2 0 34) := (by rw [eI19, z_up_k (by decide)]); rw [q9]; first | omega | decide) hhx21
          have hbx21 : -1 ≤ x21.toInt ∧ x21.toInt ≤ 255 := by rw [hzx21]; exact zm_hb
          refine lv_istore_n (lv' := [(1, .int x21), (0, .ref (ad 0))]) hx hb dX12_next_43 rfl hl (by decide) rfl (fun ls hl => ?_)
          have hsk := zm_sk hpb1 hpb2 hzx21 (by omega) (by omega)
          refine lv_aload_n hx hb dX12_next_44 rfl (lv_at hl 1 rfl) ?_
          refine lv_ldc2 (v := (-1)) hx hb hown (hts (.constantLong RX12 269 (-1)) (me_s (me_l (me_l (List.mem_of_getElem? (i := 2) rfl))))) dX12_next_45 ?_
          refine z_put (T := TX12) (N := 96) (ci := 12) (i := 0) (v := .long (-1)) (I1 := I19) (J1 := z_up J3 0 41 (-1)) (P1 := PM ad) hx hb hts zj_X12_next_X12 tyX12 tyX12_ok nmX12 hown hK hW hS rfl rfl 41 (by decide) (hts (.fieldLink RX12 271 "PetrolBoardModel" "word" "J") (me_s (me_l (me_l (List.mem_of_getElem? (i := 3) rfl))))) (fun _ h => h) rfl rfl rfl (by first | rfl | exact congrArg _ z_up_s) (fun a b h ty => z_vJ h ty) dX12_next_48 (fun H locs hz1 hW hS => ?_)
          obtain ⟨J23, eJ23⟩ : ∃ K : z_J, K = z_up J3 0 41 (-1) := ⟨_, rfl⟩
          rw [← eJ23] at hW
          refine lv_aload_n hx hb dX12_next_51 rfl (lv_at hl 1 rfl) ?_
          refine lv_iconst (v := 0) hx hb dX12_next_52 (by decide) ?_
          refine z_put (T := TX12) (N := 96) (ci := 12) (i := 0) (v := .int 0) (I1 := z_up I19 0 37 0) (J1 := J23) (P1 := PM ad) hx hb hts zj_X12_next_X12 tyX12 tyX12_ok nmX12 hown hK hW hS rfl rfl 37 (by decide) (hts (.fieldLink RX12 275 "PetrolBoardModel" "sign" "I") (me_s (me_l (me_l (List.mem_of_getElem? (i := 4) rfl))))) (fun _ h => h) rfl rfl rfl (by first | rfl | exact congrArg _ z_up_s) (fun a b h ty => z_vI h ty) dX12_next_53 (fun H locs hz1 hW hS => ?_)
          obtain ⟨I24, eI24⟩ : ∃ K : z_I, K = z_up I19 0 37 0 := ⟨_, rfl⟩
          rw [← eI24] at hW
          have f25 := z_fr_k f20 (show z_wr L_X12_next_x 0 37 = true by decide) eI24
          refine lv_aload_n hx hb dX12_next_56 rfl (lv_at hl 1 rfl) ?_
          refine lv_iconst (v := 0) hx hb dX12_next_57 (by decide) ?_
          refine z_put (T := TX12) (N := 96) (ci := 12) (i := 0) (v := .int 0) (I1 := z_up I24 0 38 0) (J1 := J23) (P1 := PM ad) hx hb hts zj_X12_next_X12 tyX12 tyX12_ok nmX12 hown hK hW hS rfl rfl 38 (by decide) (hts (.fieldLink RX12 278 "PetrolBoardModel" "value" "I") (me_s (me_l (me_l (List.mem_of_getElem? (i := 5) rfl))))) (fun _ h => h) rfl rfl rfl (by first | rfl | exact congrArg _ z_up_s) (fun a b h ty => z_vI h ty) dX12_next_58 (fun H locs hz1 hW hS => ?_)
          obtain ⟨I26, eI26⟩ : ∃ K : z_I, K = z_up I24 0 38 0 := ⟨_, rfl⟩
          rw [← eI26] at hW
          have f27 := z_fr_k f25 (show z_wr L_X12_next_x 0 38 = true by decide) eI26
          refine lv_iload_n hx hb dX12_next_61 rfl (lv_at hl 0 rfl) ?_
          refine lv_if_ge (tgt := 73) hx hb dX12_next_62 (by decide) (fun c28 => ?_) (fun c28 => ?_)
          · have g29 := z_f_ge rfl z_l0 c28
            refine lv_iload_n hx hb dX12_next_73 rfl (lv_at hl 0 rfl) ?_
            refine lv_bipush (v := 97) hx hb dX12_next_74 (by decide) ?_
            refine lv_bipush (v := 122) hx hb dX12_next_76 (by decide) ?_
            refine z_ci hW hS hA (va_runS (As := [.int x21, .int 97, .int 122]) (rest := []) ⟨hx, hb, hml, hown, hts⟩ (sx_X12_within2 l G ad I26 J23  x21 97 122 _) (va_cwS 3 hts gX12_next_X12_within rfl rfl rfl (by decide +kernel) ⟨Nat.le_of_ble_eq_true rfl, Nat.le_of_ble_eq_true rfl⟩) (z_preS hK hW) rfl rfl hl.1 rfl (lv_room (Nat.le_of_ble_eq_true rfl)) dX12_next_78 ⟨Nat.le_of_ble_eq_true rfl, Nat.le_of_ble_eq_true rfl⟩) (fun r u1 H locs hp hW hS => ?_)
            obtain ⟨e9, hp⟩ := hp
            rw [e9] at hW
            rcases hp with ⟨rfl, h8, h9⟩ | ⟨rfl, h8⟩
            · have h30 := z_t_le z_l97 rfl h8
              have h31 := z_t_le rfl z_l122 h9
              refine lv_if_eq (tgt := 162) hx hb dX12_next_81 (by decide) (fun c32 => absurd c32 (by decide)) (fun c32 => ?_)
              refine lv_aload_n hx hb dX12_next_84 rfl (lv_at hl 1 rfl) ?_
              refine lv_iconst (v := 1) hx hb dX12_next_85 (by decide) ?_
              refine z_put (T := TX12) (N := 96) (ci := 12) (i := 0) (v := .int 1) (I1 := z_up I26 0 36 1) (J1 := J23) (P1 := PM ad) hx hb hts zj_X12_next_X12 tyX12 tyX12_ok nmX12 hown hK hW hS rfl rfl 36 (by decide) (hts (.fieldLink RX12 281 "PetrolBoardModel" "token" "I") (me_s (me_l (me_l (List.mem_of_getElem? (i := 6) rfl))))) (fun _ h => h) rfl rfl rfl (by first | rfl | exact congrArg _ z_up_s) (fun a b h ty => z_vI h ty) dX12_next_86 (fun H locs hz1 hW hS => ?_)
              obtain ⟨I33, eI33⟩ : ∃ K : z_I, K = z_up I26 0 36 1 := ⟨_, rfl⟩
              rw [← eI33] at hW
              have f34 := z_fr_k f27 (show z_wr L_X12_next_x 0 36 = true by decide) eI33
              refine lv_aload_n hx hb dX12_next_89 rfl (lv_at hl 1 rfl) ?_
              refine lv_lconst (v := 0) hx hb dX12_next_90 (by decide) ?_
              refine z_put (T := TX12) (N := 96) (ci := 12) (i := 0) (v := .long 0) (I1 := I33) (J1 := z_up J23 0 41 0) (P1 := PM ad) hx hb hts zj_X12_next_X12 tyX12 tyX12_ok nmX12 hown hK hW hS rfl rfl 41 (by decide) (hts (.fieldLink RX12 271 "PetrolBoardModel" "word" "J") (me_s (me_l (me_l (List.mem_of_getElem? (i := 3) rfl))))) (fun _ h => h) rfl rfl rfl (by first | rfl | exact congrArg _ z_up_s) (fun a b h ty => z_vJ h ty) dX12_next_91 (fun H locs hz1 hW hS => ?_)
              obtain ⟨J35, eJ35⟩ : ∃ K : z_J, K = z_up J23 0 41 0 := ⟨_, rfl⟩
              rw [← eJ35] at hW
              have lp36 : ∀ (f : Nat)  (I37 : z_I) (J38 : z_J) (H : Heap) (locs : List Loc) (ls : Array Slot), (501 - (I37 0 34).toInt ≤ (f : Int)) → (z_imp I37) → (z_imt I37) → (z_iru I37) → ((I 0 34).toInt ≤ (I37 0 35).toInt) → (zm_A I I37 J38) → (z_fr L_X12_next_x I37 I) → z_W G A (shM, ad, I37, J38, PM ad) H → va_S A s.heap H locs → lv_has ls 2 [(1, .int x21), (0, .ref (ad 0))] → W p l e (headSpec wsX12_next { frames := 2, cells := 0, slots := 0, locals := 34 }).room s m ([.ref (ad 0)] : List Value).toArray below meth c0 H locs 0 0 (MQ below (va_Qv (fun (u1 : z_U) => ∃ (I1 : z_I) (J1 : z_J), u1 = (shM, ad, I1, J1, PM ad) ∧ z_imp I1 ∧ z_imt I1 ∧ z_irp I1 ∧ z_fr L_X12_next_x I1 I ∧ ((I 0 34).toInt ≤ (I1 0 35).toInt ∧ zm_N I I1 J1)) (z_B G A) A) ([.ref (ad 0)] : List Value).toArray s 0 0 A) (F0 m 94 ls []) := by
                intro f
                induction f with
                | zero => intro  I37 J38 H locs ls lp36m lp36mp lp36mt lp36ru lp36P0 lp36A lp36fr hW hS hl; exact False.elim (by have : 0 ≤ (I37 0 35).toInt ∧ (I37 0 35).toInt ≤ (I37 0 34).toInt ∧ (I37 0 34).toInt ≤ (I37 0 33).toInt ∧ (I37 0 33).toInt ≤ 500 := lp36ru; omega)
                | succ f lp36ih =>
                  intro  I37 J38 H locs ls lp36m lp36mp lp36mt lp36ru lp36P0 lp36A lp36fr hW hS hl
                  have k39 : 0 ≤ (I37 0 35).toInt ∧ (I37 0 35).toInt ≤ (I37 0 34).toInt ∧ (I37 0 34).toInt ≤ (I37 0 33).toInt ∧ (I37 0 33).toInt ≤ 500 := lp36ru
                  refine lv_aload_n hx hb dX12_next_94 rfl (lv_at hl 1 rfl) ?_
                  refine z_ci hW hS hA (va_runV (As := []) (rest := []) ⟨hx, hb, hml, hown, hts⟩ (sx_X12_here l G ad I37 J38 ⟨(by show 0 ≤ (I37 0 31).toInt ∧ (I37 0 31).toInt ≤ 500; exact lp36mp.1), (by show 0 ≤ (I37 0 33).toInt ∧ (I37 0 33).toInt ≤ 500; exact lp36mp.2.1), (by show 0 ≤ (I37 0 34).toInt ∧ (I37 0 34).toInt ≤ 500; exact lp36mp.2.2.1), (by show 0 ≤ (I37 0 35).toInt ∧ (I37 0 35).toInt ≤ 500; exact lp36mp.2.2.2)⟩ (by show 0 ≤ (I37 0 34).toInt ∧ (I37 0 34).toInt ≤ (I37 0 33).toInt ∧ (I37 0 33).toInt ≤ 500; first | omega | decide)  _) (cwV 0 hts gX12_next_X12_here rfl rfl rfl (by decide +kernel) ⟨Nat.le_of_ble_eq_true rfl, Nat.le_of_ble_eq_true rfl⟩) (z_preV (i := 0) hK hW rfl rfl) rfl rfl hl.1 rfl (lv_room (Nat.le_of_ble_eq_true rfl)) dX12_next_95 ⟨Nat.le_of_ble_eq_true rfl, Nat.le_of_ble_eq_true rfl⟩) (fun r u1 H locs hp hW hS => ?_)
                  obtain ⟨e9, hp⟩ := hp
                  rw [e9] at hW
                  refine lv_topi (fun x40 ex40 => ?_)
                  have hhx40 : x40 = z_hr I37 := ex40.trans hp.1
                  have h41 := hp.2
                  rw [← ex40] at h41
                  have hcx40 : ∀ p : Nat, (I37 0 34).toInt = (p : Int) → x40.toInt = zm_h I p := fun p hp => zm_c lp36fr (by decide) (by decide) hp hhx40
                  have hbx40 : -1 ≤ x40.toInt ∧ x40.toInt ≤ 255 := by rw [hcx40 _ (z_clt rfl (by omega)).symm]; exact zm_hb
                  refine lv_bipush (v := 97) hx hb dX12_next_98 (by decide) ?_
                  refine lv_bipush (v := 122) hx hb dX12_next_100 (by decide) ?_
                  refine z_ci hW hS hA (va_runS (As := [.int x40, .int 97, .int 122]) (rest := []) ⟨hx, hb, hml, hown, hts⟩ (sx_X12_within2 l G ad I37 J38  x40 97 122 _) (va_cwS 3 hts gX12_next_X12_within rfl rfl rfl (by decide +kernel) ⟨Nat.le_of_ble_eq_true rfl, Nat.le_of_ble_eq_true rfl⟩) (z_preS hK hW) rfl rfl hl.1 rfl (lv_room (Nat.le_of_ble_eq_true rfl)) dX12_next_102 ⟨Nat.le_of_ble_eq_true rfl, Nat.le_of_ble_eq_true rfl⟩) (fun r u1 H locs hp hW hS => ?_)
                  obtain ⟨e9, hp⟩ := hp
                  rw [e9] at hW
                  rcases hp with ⟨rfl, h8, h9⟩ | ⟨rfl, h8⟩
                  · have h42 := z_t_le z_l97 rfl h8
                    have h43 := z_t_le rfl z_l122 h9
                    refine lv_if_eq (tgt := 282) hx hb dX12_next_105 (by decide) (fun c44 => absurd c44 (by decide)) (fun c44 => ?_)
                    refine lv_aload_n hx hb dX12_next_108 rfl (lv_at hl 1 rfl) ?_
                    refine lv_aload_n hx hb dX12_next_109 rfl (lv_at hl 1 rfl) ?_
                    have r45 : 0 ≤ (I37 0 34).toInt ∧ (I37 0 34).toInt ≤ 500 := lp36mp.2.2.1
                    refine z_get (T := TX12) (N := 96) (ci := 12) (i := 0) (v := .int (I37 0 34)) hx hb hts zj_X12_next_X12 hown hK hW rfl rfl 34 (by decide) (hts (.fieldLink RX12 256 "PetrolBoardModel" "point" "I") (me_s (me_l (me_l (List.mem_of_getElem? (i := 0) rfl))))) (fun _ h => h) rfl dX12_next_110 ?_
                    refine lv_aload_n hx hb dX12_next_113 rfl (lv_at hl 1 rfl) ?_
                    have r46 : 0 ≤ (I37 0 35).toInt ∧ (I37 0 35).toInt ≤ 500 := lp36mp.2.2.2
                    refine z_get (T := TX12) (N := 96) (ci := 12) (i := 0) (v := .int (I37 0 35)) hx hb hts zj_X12_next_X12 hown hK hW rfl rfl 35 (by decide) (hts (.fieldLink RX12 266 "PetrolBoardModel" "from" "I") (me_s (me_l (me_l (List.mem_of_getElem? (i := 1) rfl))))) (fun _ h => h) rfl dX12_next_114 ?_
                    refine lv_isub hx hb dX12_next_117 ?_
                    refine lv_topi (fun x47 ex47 => ?_)
                    have tx47 : x47.toInt = (I37 0 34).toInt - (I37 0 35).toInt := z_tsub ex47 rfl rfl (by omega) (by omega)
                    refine lv_bipush (v := 10) hx hb dX12_next_118 (by decide) ?_
                    refine lv_icmp_ge (tgt := 143) hx hb dX12_next_120 (by decide) (fun c48 => ?_) (fun c48 => ?_)
                    · have g49 := z_f_ge rfl z_l10 c48
                      refine lv_ldc2 (v := (-1)) hx hb hown (hts (.constantLong RX12 269 (-1)) (me_s (me_l (me_l (List.mem_of_getElem? (i := 2) rfl))))) dX12_next_143 ?_
                      refine z_put (T := TX12) (N := 96) (ci := 12) (i := 0) (v := .long (-1)) (I1 := I37) (J1 := z_up J38 0 41 (-1)) (P1 := PM ad) hx hb hts zj_X12_next_X12 tyX12 tyX12_ok nmX12 hown hK hW hS rfl rfl 41 (by decide) (hts (.fieldLink RX12 271 "PetrolBoardModel" "word" "J") (me_s (me_l (me_l (List.mem_of_getElem? (i := 3) rfl))))) (fun _ h => h) rfl rfl rfl (by first | rfl | exact congrArg _ z_up_s) (fun a b h ty => z_vJ h ty) dX12_next_146 (fun H locs hz1 hW hS => ?_)
                      obtain ⟨J50, eJ50⟩ : ∃ K : z_J, K = z_up J38 0 41 (-1) := ⟨_, rfl⟩
                      rw [← eJ50] at hW
                      refine lv_aload_n hx hb dX12_next_149 rfl (lv_at hl 1 rfl) ?_
                      refine lv_dup hx hb dX12_next_150 rfl ?_
                      refine z_get (T := TX12) (N := 96) (ci := 12) (i := 0) (v := .int (I37 0 34)) hx hb hts zj_X12_next_X12 hown hK hW rfl rfl 34 (by decide) (hts (.fieldLink RX12 256 "PetrolBoardModel" "point" "I") (me_s (me_l (me_l (List.mem_of_getElem? (i := 0) rfl))))) (fun _ h => h) rfl dX12_next_151 ?_
                      refine lv_iconst (v := 1) hx hb dX12_next_154 (by decide) ?_
                      refine lv_iadd hx hb dX12_next_155 ?_
                      refine lv_topi (fun x51 ex51 => ?_)
                      have tx51 : x51.toInt = (I37 0 34).toInt + 1 := z_tadd ex51 rfl z_l1 (by omega) (by omega)
                      refine z_put (T := TX12) (N := 96) (ci := 12) (i := 0) (v := .int x51) (I1 := z_up I37 0 34 x51) (J1 := J50) (P1 := PM ad) hx hb hts zj_X12_next_X12 tyX12 tyX12_ok nmX12 hown hK hW hS rfl rfl 34 (by decide) (hts (.fieldLink RX12 256 "PetrolBoardModel" "point" "I") (me_s (me_l (me_l (List.mem_of_getElem? (i := 0) rfl))))) (fun _ h => h) rfl rfl rfl (by first | rfl | exact congrArg _ z_up_s) (fun a b h ty => z_vI h ty) dX12_next_156 (fun H locs hz1 hW hS => ?_)
                      obtain ⟨I52, eI52⟩ : ∃ K : z_I, K = z_up I37 0 34 x51 := ⟨_, rfl⟩
                      rw [← eI52] at hW
                      have f53 := z_fr_k lp36fr (show z_wr L_X12_next_x 0 34 = true by decide) eI52
                      refine lv_goto (tgt := 94) hx hb dX12_next_159 (by decide) ?_
                      exact lp36ih  I52 J50 _ _ _ (by show 501 - (I52 0 34).toInt ≤ (f : Int); have q9 : (I52 0 34) = x51 := (by rw [eI52, z_up_s]); rw [q9]; first | omega | decide) ⟨(by show 0 ≤ (I52 0 31).toInt ∧ (I52 0 31).toInt ≤ 500; rw [eI52, z_up_k (by decide)]; exact lp36mp.1), (by show 0 ≤ (I52 0 33).toInt ∧ (I52 0 33).toInt ≤ 500; rw [eI52, z_up_k (by decide)]; exact lp36mp.2.1), (by show 0 ≤ (I52 0 34).toInt ∧ (I52 0 34).toInt ≤ 500; rw [eI52, z_up_s]; omega), (by show 0 ≤ (I52 0 35).toInt ∧ (I52 0 35).toInt ≤ 500; rw [eI52, z_up_k (by decide)]; exact lp36mp.2.2.2)⟩ ⟨(by show 0 ≤ (I52 0 36).toInt ∧ (I52 0 36).toInt ≤ 4; rw [eI52, z_up_k (by decide)]; exact lp36mt.1), (by show 0 ≤ (I52 0 42).toInt ∧ (I52 0 42).toInt ≤ 1; rw [eI52, z_up_k (by decide)]; exact lp36mt.2)⟩ (by have q0 : (I52 0 35) = (I37 0 35) := (by rw [eI52, z_up_k (by decide)]); have q1 : (I52 0 34) = x51 := (by rw [eI52, z_up_s]); have q2 : (I52 0 33) = (I37 0 33) := (by rw [eI52, z_up_k (by decide)]); show 0 ≤ (I52 0 35).toInt ∧ (I52 0 35).toInt ≤ (I52 0 34).toInt ∧ (I52 0 34).toInt ≤ (I52 0 33).toInt ∧ (I52 0 33).toInt ≤ 500; rw [q0, q1, q2]; first | omega | decide) (by have q0 : (I52 0 35) = (I37 0 35) := (by rw [eI52, z_up_k (by decide)]); show (I 0 34).toInt ≤ (I52 0 35).toInt; rw [q0]; omega) (zm_A_s lp36A hcx40 (by omega) (by rw [eI52, z_up_k (by decide)]) (by show (I52 0 34).toInt = (I37 0 34).toInt + 1; have q9 : (I52 0 34) = x51 := (by rw [eI52, z_up_s]); rw [q9]; first | omega | decide) (by rw [eI52, z_up_k (by decide)]) ⟨fun q => absurd q (by omega), fun _ => by rw [eJ50, z_up_s]; decide⟩) f53 hW hS (lv_sub hl [0, 1] rfl)
                    · have g54 := z_f_nge rfl z_l10 c48
                      refine lv_aload_n hx hb dX12_next_123 rfl (lv_at hl 1 rfl) ?_
                      refine z_get (T := TX12) (N := 96) (ci := 12) (i := 0) (v := .long (J38 0 41)) hx hb hts zj_X12_next_X12 hown hK hW rfl rfl 41 (by decide) (hts (.fieldLink RX12 271 "PetrolBoardModel" "word" "J") (me_s (me_l (me_l (List.mem_of_getElem? (i := 3) rfl))))) (fun _ h => h) rfl dX12_next_124 ?_
                      refine lv_ldc2 (v := 27) hx hb hown (hts (.constantLong RX12 284 (27)) (me_s (me_l (me_l (List.mem_of_getElem? (i := 7) rfl))))) dX12_next_127 ?_
                      refine lv_lmul hx hb dX12_next_130 ?_
                      refine lv_topl (fun w55 ew55 => ?_)
                      refine lv_aload_n hx hb dX12_next_131 rfl (lv_at hl 1 rfl) ?_
                      refine z_ci hW hS hA (va_runV (As := []) (rest := [.long w55, .ref (ad 0)]) ⟨hx, hb, hml, hown, hts⟩ (sx_X12_here l G ad I37 J38 ⟨(by show 0 ≤ (I37 0 31).toInt ∧ (I37 0 31).toInt ≤ 500; exact lp36mp.1), (by show 0 ≤ (I37 0 33).toInt ∧ (I37 0 33).toInt ≤ 500; exact lp36mp.2.1), (by show 0 ≤ (I37 0 34).toInt ∧ (I37 0 34).toInt ≤ 500; exact lp36mp.2.2.1), (by show 0 ≤ (I37 0 35).toInt ∧ (I37 0 35).toInt ≤ 500; exact lp36mp.2.2.2)⟩ (by show 0 ≤ (I37 0 34).toInt ∧ (I37 0 34).toInt ≤ (I37 0 33).toInt ∧ (I37 0 33).toInt ≤ 500; first | omega | decide)  _) (cwV 0 hts gX12_next_X12_here rfl rfl rfl (by decide +kernel) ⟨Nat.le_of_ble_eq_true rfl, Nat.le_of_ble_eq_true rfl⟩) (z_preV (i := 0) hK hW rfl rfl) rfl rfl hl.1 rfl (lv_room (Nat.le_of_ble_eq_true rfl)) dX12_next_132 ⟨Nat.le_of_ble_eq_true rfl, Nat.le_of_ble_eq_true rfl⟩) (fun r u1 H locs hp hW hS => ?_)
                      obtain ⟨e9, hp⟩ := hp
                      rw [e9] at hW
                      refine lv_topi (fun x56 ex56 => ?_)
                      have hhx56 : x56 = z_hr I37 := ex56.trans hp.1
                      have h57 := hp.2
                      rw [← ex56] at h57
                      have hcx56 : ∀ p : Nat, (I37 0 34).toInt = (p : Int) → x56.toInt = zm_h I p := fun p hp => zm_c lp36fr (by decide) (by decide) hp hhx56
                      have hbx56 : -1 ≤ x56.toInt ∧ x56.toInt ≤ 255 := by rw [hcx56 _ (z_clt rfl (by omega)).symm]; exact zm_hb
                      refine lv_bipush (v := 96) hx hb dX12_next_135 (by decide) ?_
                      refine lv_isub hx hb dX12_next_137 ?_
                      refine lv_topi (fun x58 ex58 => ?_)
                      have tx58 : x58.toInt = x56.toInt - 96 := z_tsub ex58 rfl z_l96 (by omega) (by omega)
                      refine lv_i2l (v := x58.toInt64) hx hb dX12_next_138 rfl ?_
                      refine lv_topl (fun w59 ew59 => ?_)
                      refine lv_ladd hx hb dX12_next_139 ?_
                      refine lv_topl (fun w60 ew60 => ?_)
                      refine lv_goto (tgt := 146) hx hb dX12_next_140 (by decide) ?_
                      refine z_put (T := TX12) (N := 96) (ci := 12) (i := 0) (v := .long w60) (I1 := I37) (J1 := z_up J38 0 41 w60) (P1 := PM ad) hx hb hts zj_X12_next_X12 tyX12 tyX12_ok nmX12 hown hK hW hS rfl rfl 41 (by decide) (hts (.fieldLink RX12 271 "PetrolBoardModel" "word" "J") (me_s (me_l (me_l (List.mem_of_getElem? (i := 3) rfl))))) (fun _ h => h) rfl rfl rfl (by first | rfl | exact congrArg _ z_up_s) (fun a b h ty => z_vJ h ty) dX12_next_146 (fun H locs hz1 hW hS => ?_)
                      obtain ⟨J61, eJ61⟩ : ∃ K : z_J, K = z_up J38 0 41 w60 := ⟨_, rfl⟩
                      rw [← eJ61] at hW
                      refine lv_aload_n hx hb dX12_next_149 rfl (lv_at hl 1 rfl) ?_
                      refine lv_dup hx hb dX12_next_150 rfl ?_
                      refine z_get (T := TX12) (N := 96) (ci := 12) (i := 0) (v := .int (I37 0 34)) hx hb hts zj_X12_next_X12 hown hK hW rfl rfl 34 (by decide) (hts (.fieldLink RX12 256 "PetrolBoardModel" "point" "I") (me_s (me_l (me_l (List.mem_of_getElem? (i := 0) rfl))))) (fun _ h => h) rfl dX12_next_151 ?_
                      refine lv_iconst (v := 1) hx hb dX12_next_154 (by decide) ?_
                      refine lv_iadd hx hb dX12_next_155 ?_
                      refine lv_topi (fun x62 ex62 => ?_)
                      have tx62 : x62.toInt = (I37 0 34).toInt + 1 := z_tadd ex62 rfl z_l1 (by omega) (by omega)
                      refine z_put (T := TX12) (N := 96) (ci := 12) (i := 0) (v := .int x62) (I1 := z_up I37 0 34 x62) (J1 := J61) (P1 := PM ad) hx hb hts zj_X12_next_X12 tyX12 tyX12_ok nmX12 hown hK hW hS rfl rfl 34 (by decide) (hts (.fieldLink RX12 256 "PetrolBoardModel" "point" "I") (me_s (me_l (me_l (List.mem_of_getElem? (i := 0) rfl))))) (fun _ h => h) rfl rfl rfl (by first | rfl | exact congrArg _ z_up_s) (fun a b h ty => z_vI h ty) dX12_next_156 (fun H locs hz1 hW hS => ?_)
                      obtain ⟨I63, eI63⟩ : ∃ K : z_I, K = z_up I37 0 34 x62 := ⟨_, rfl⟩
                      rw [← eI63] at hW
                      have f64 := z_fr_k lp36fr (show z_wr L_X12_next_x 0 34 = true by decide) eI63
                      refine lv_goto (tgt := 94) hx hb dX12_next_159 (by decide) ?_
                      exact lp36ih  I63 J61 _ _ _ (by show 501 - (I63 0 34).toInt ≤ (f : Int); have q9 : (I63 0 34) = x62 := (by rw [eI63, z_up_s]); rw [q9]; first | omega | decide) ⟨(by show 0 ≤ (I63 0 31).toInt ∧ (I63 0 31).toInt ≤ 500; rw [eI63, z_up_k (by decide)]; exact lp36mp.1), (by show 0 ≤ (I63 0 33).toInt ∧ (I63 0 33).toInt ≤ 500; rw [eI63, z_up_k (by decide)]; exact lp36mp.2.1), (by show 0 ≤ (I63 0 34).toInt ∧ (I63 0 34).toInt ≤ 500; rw [eI63, z_up_s]; omega), (by show 0 ≤ (I63 0 35).toInt ∧ (I63 0 35).toInt ≤ 500; rw [eI63, z_up_k (by decide)]; exact lp36mp.2.2.2)⟩ ⟨(by show 0 ≤ (I63 0 36).toInt ∧ (I63 0 36).toInt ≤ 4; rw [eI63, z_up_k (by decide)]; exact lp36mt.1), (by show 0 ≤ (I63 0 42).toInt ∧ (I63 0 42).toInt ≤ 1; rw [eI63, z_up_k (by decide)]; exact lp36mt.2)⟩ (by have q0 : (I63 0 35) = (I37 0 35) := (by rw [eI63, z_up_k (by decide)]); have q1 : (I63 0 34) = x62 := (by rw [eI63, z_up_s]); have q2 : (I63 0 33) = (I37 0 33) := (by rw [eI63, z_up_k (by decide)]); show 0 ≤ (I63 0 35).toInt ∧ (I63 0 35).toInt ≤ (I63 0 34).toInt ∧ (I63 0 34).toInt ≤ (I63 0 33).toInt ∧ (I63 0 33).toInt ≤ 500; rw [q0, q1, q2]; first | omega | decide) (by have q0 : (I63 0 35) = (I37 0 35) := (by rw [eI63, z_up_k (by decide)]); show (I 0 34).toInt ≤ (I63 0 35).toInt; rw [q0]; omega) (zm_A_s lp36A hcx40 (by omega) (by rw [eI63, z_up_k (by decide)]) (by show (I63 0 34).toInt = (I37 0 34).toInt + 1; have q9 : (I63 0 34) = x62 := (by rw [eI63, z_up_s]); rw [q9]; first | omega | decide) (by rw [eI63, z_up_k (by decide)]) ⟨fun _ q1 q2 q3 q4 => (by rw [eJ61, z_up_s]; exact zm_w27 ew55 ew59 ew60 (show x58.toInt = x40.toInt - 96 by have := hhx40; have := hhx56; have q9 : x56 = x40 := hhx56.trans hhx40.symm; rw [← q9]; omega) q1 q2 q3 q4), fun q => absurd q (by omega)⟩) f64 hW hS (lv_sub hl [0, 1] rfl)
                  · rw [z_l97, z_l122] at h8
                    have h65 := h8
                    refine lv_if_eq (tgt := 282) hx hb dX12_next_105 (by decide) (fun c66 => ?_) (fun c66 => absurd (by decide) c66)
                    have h67 := zm_A_lt lp36A hcx40 (by omega)
                    exact z_vret hx hb hr hK hS (Nat.le_of_ble_eq_true rfl) (Nat.le_of_ble_eq_true rfl) hlocks dX12_next_282 (shM, ad, I37, J38, PM ad) hW ⟨I37, J38, rfl, ⟨(by show 0 ≤ (I37 0 31).toInt ∧ (I37 0 31).toInt ≤ 500; exact lp36mp.1), (by show 0 ≤ (I37 0 33).toInt ∧ (I37 0 33).toInt ≤ 500; exact lp36mp.2.1), (by show 0 ≤ (I37 0 34).toInt ∧ (I37 0 34).toInt ≤ 500; exact lp36mp.2.2.1), (by show 0 ≤ (I37 0 35).toInt ∧ (I37 0 35).toInt ≤ 500; exact lp36mp.2.2.2)⟩, ⟨(by show 0 ≤ (I37 0 36).toInt ∧ (I37 0 36).toInt ≤ 4; exact lp36mt.1), (by show 0 ≤ (I37 0 42).toInt ∧ (I37 0 42).toInt ≤ 1; exact lp36mt.2)⟩, (by show 0 ≤ (I37 0 35).toInt ∧ (I37 0 35).toInt ≤ (I37 0 34).toInt ∧ (I37 0 34).toInt ≤ (I37 0 33).toInt ∧ (I37 0 33).toInt ≤ 500 ∧ ((I37 0 36).toInt = 0 ∨ (I37 0 35).toInt + 1 ≤ (I37 0 34).toInt); first | omega | decide), lp36fr, ⟨(by show (I 0 34).toInt ≤ (I37 0 35).toInt; omega), (zm_A_e lp36A hcx40 (by omega))⟩⟩
              exact lp36 502  I33 J35 _ _ _ (by show 501 - (I33 0 34).toInt ≤ ((502 : Nat) : Int); have q9 : (I33 0 34) = (I2 0 34) := (by rw [eI33, z_up_k (by decide), eI26, z_up_k (by decide), eI24, z_up_k (by decide), eI19, z_up_k (by decide)]); rw [q9]; first | omega | decide) ⟨(by show 0 ≤ (I33 0 31).toInt ∧ (I33 0 31).toInt ≤ 500; rw [eI33, z_up_k (by decide), eI26, z_up_k (by decide), eI24, z_up_k (by decide), eI19, z_up_k (by decide)]; exact lp1mp.1), (by show 0 ≤ (I33 0 33).toInt ∧ (I33 0 33).toInt ≤ 500; rw [eI33, z_up_k (by decide), eI26, z_up_k (by decide), eI24, z_up_k (by decide), eI19, z_up_k (by decide)]; exact lp1mp.2.1), (by show 0 ≤ (I33 0 34).toInt ∧ (I33 0 34).toInt ≤ 500; rw [eI33, z_up_k (by decide), eI26, z_up_k (by decide), eI24, z_up_k (by decide), eI19, z_up_k (by decide)]; exact lp1mp.2.2.1), (by show 0 ≤ (I33 0 35).toInt ∧ (I33 0 35).toInt ≤ 500; rw [eI33, z_up_k (by decide), eI26, z_up_k (by decide), eI24, z_up_k (by decide), eI19, z_up_s]; omega)⟩ ⟨(by show 0 ≤ (I33 0 36).toInt ∧ (I33 0 36).toInt ≤ 4; rw [eI33, z_up_s]; decide), (by show 0 ≤ (I33 0 42).toInt ∧ (I33 0 42).toInt ≤ 1; rw [eI33, z_up_k (by decide), eI26, z_up_k (by decide), eI24, z_up_k (by decide), eI19, z_up_k (by decide)]; exact lp1mt.2)⟩ (by have q0 : (I33 0 35) = (I2 0 34) := (by rw [eI33, z_up_k (by decide), eI26, z_up_k (by decide), eI24, z_up_k (by decide), eI19, z_up_s]); have q1 : (I33 0 34) = (I2 0 34) := (by rw [eI33, z_up_k (by decide), eI26, z_up_k (by decide), eI24, z_up_k (by decide), eI19, z_up_k (by decide)]); have q2 : (I33 0 33) = (I2 0 33) := (by rw [eI33, z_up_k (by decide), eI26, z_up_k (by decide), eI24, z_up_k (by decide), eI19, z_up_k (by decide)]); show 0 ≤ (I33 0 35).toInt ∧ (I33 0 35).toInt ≤ (I33 0 34).toInt ∧ (I33 0 34).toInt ≤ (I33 0 33).toInt ∧ (I33 0 33).toInt ≤ 500; rw [q0, q1, q2]; first | omega | decide) (by have q0 : (I33 0 35) = (I2 0 34) := (by rw [eI33, z_up_k (by decide), eI26, z_up_k (by decide), eI24, z_up_k (by decide), eI19, z_up_s]); show (I 0 34).toInt ≤ (I33 0 35).toInt; rw [q0]; omega) (zm_A_0 hsk hzx21 (by omega) (by show (I33 0 35).toInt = (pb : Int); have q9 : (I33 0 35) = (I2 0 34) := (by rw [eI33, z_up_k (by decide), eI26, z_up_k (by decide), eI24, z_up_k (by decide), eI19, z_up_s]); rw [q9]; first | omega | decide) (by show (I33 0 34).toInt = (pb : Int); have q9 : (I33 0 34) = (I2 0 34) := (by rw [eI33, z_up_k (by decide), eI26, z_up_k (by decide), eI24, z_up_k (by decide), eI19, z_up_k (by decide)]); rw [q9]; first | omega | decide) (by show (I33 0 36).toInt = 1; have q9 : (I33 0 36) = 1 := (by rw [eI33, z_up_s]); rw [q9]; first | omega | decide) (by rw [eJ35, z_up_s]; decide)) f34 hW hS (lv_sub hl [0, 1] rfl)
            · rw [z_l97, z_l122] at h8
              have h68 := h8
              refine lv_if_eq (tgt := 162) hx hb dX12_next_81 (by decide) (fun c69 => ?_) (fun c69 => absurd (by decide) c69)
              refine lv_iload_n hx hb dX12_next_162 rfl (lv_at hl 0 rfl) ?_
              refine lv_bipush (v := 48) hx hb dX12_next_163 (by decide) ?_
              refine lv_bipush (v := 57) hx hb dX12_next_165 (by decide) ?_
              refine z_ci hW hS hA (va_runS (As := [.int x21, .int 48, .int 57]) (rest := []) ⟨hx, hb, hml, hown, hts⟩ (sx_X12_within2 l G ad I26 J23  x21 48 57 _) (va_cwS 3 hts gX12_next_X12_within rfl rfl rfl (by decide +kernel) ⟨Nat.le_of_ble_eq_true rfl, Nat.le_of_ble_eq_true rfl⟩) (z_preS hK hW) rfl rfl hl.1 rfl (lv_room (Nat.le_of_ble_eq_true rfl)) dX12_next_167 ⟨Nat.le_of_ble_eq_true rfl, Nat.le_of_ble_eq_true rfl⟩) (fun r u1 H locs hp hW hS => ?_)
              obtain ⟨e9, hp⟩ := hp
              rw [e9] at hW
              rcases hp with ⟨rfl, h8, h9⟩ | ⟨rfl, h8⟩
              · have h70 := z_t_le z_l48 rfl h8
                have h71 := z_t_le rfl z_l57 h9
                refine lv_if_eq (tgt := 251) hx hb dX12_next_170 (by decide) (fun c72 => absurd c72 (by decide)) (fun c72 => ?_)
                have lp73 : ∀ (f : Nat)  (I74 : z_I) (J75 : z_J) (H : Heap) (locs : List Loc) (ls : Array Slot), (501 - (I74 0 34).toInt ≤ (f : Int)) → (z_imp I74) → (z_imt I74) → (z_iru I74) → ((I 0 34).toInt ≤ (I74 0 35).toInt) → (zm_D I I74) → (z_fr L_X12_next_x I74 I) → z_W G A (shM, ad, I74, J75, PM ad) H → va_S A s.heap H locs → lv_has ls 2 [(1, .int x21), (0, .ref (ad 0))] → W p l e (headSpec wsX12_next { frames := 2, cells := 0, slots := 0, locals := 34 }).room s m ([.ref (ad 0)] : List Value).toArray below meth c0 H locs 0 0 (MQ below (va_Qv (fun (u1 : z_U) => ∃ (I1 : z_I) (J1 : z_J), u1 = (shM, ad, I1, J1, PM ad) ∧ z_imp I1 ∧ z_imt I1 ∧ z_irp I1 ∧ z_fr L_X12_next_x I1 I ∧ ((I 0 34).toInt ≤ (I1 0 35).toInt ∧ zm_N I I1 J1)) (z_B G A) A) ([.ref (ad 0)] : List Value).toArray s 0 0 A) (F0 m 173 ls []) := by
                  intro f
                  induction f with
                  | zero => intro  I74 J75 H locs ls lp73m lp73mp lp73mt lp73ru lp73P0 lp73D lp73fr hW hS hl; exact False.elim (by have : 0 ≤ (I74 0 35).toInt ∧ (I74 0 35).toInt ≤ (I74 0 34).toInt ∧ (I74 0 34).toInt ≤ (I74 0 33).toInt ∧ (I74 0 33).toInt ≤ 500 := lp73ru; omega)
                  | succ f lp73ih =>
                    intro  I74 J75 H locs ls lp73m lp73mp lp73mt lp73ru lp73P0 lp73D lp73fr hW hS hl
                    have k76 : 0 ≤ (I74 0 35).toInt ∧ (I74 0 35).toInt ≤ (I74 0 34).toInt ∧ (I74 0 34).toInt ≤ (I74 0 33).toInt ∧ (I74 0 33).toInt ≤ 500 := lp73ru
                    refine lv_aload_n hx hb dX12_next_173 rfl (lv_at hl 1 rfl) ?_
                    have hvl := zm_D_v lp73D
                    refine z_ci hW hS hA (va_runV (As := []) (rest := []) ⟨hx, hb, hml, hown, hts⟩ (sx_X12_here l G ad I74 J75 ⟨(by show 0 ≤ (I74 0 31).toInt ∧ (I74 0 31).toInt ≤ 500; exact lp73mp.1), (by show 0 ≤ (I74 0 33).toInt ∧ (I74 0 33).toInt ≤ 500; exact lp73mp.2.1), (by show 0 ≤ (I74 0 34).toInt ∧ (I74 0 34).toInt ≤ 500; exact lp73mp.2.2.1), (by show 0 ≤ (I74 0 35).toInt ∧ (I74 0 35).toInt ≤ 500; exact lp73mp.2.2.2)⟩ (by show 0 ≤ (I74 0 34).toInt ∧ (I74 0 34).toInt ≤ (I74 0 33).toInt ∧ (I74 0 33).toInt ≤ 500; first | omega | decide)  _) (cwV 0 hts gX12_next_X12_here rfl rfl rfl (by decide +kernel) ⟨Nat.le_of_ble_eq_true rfl, Nat.le_of_ble_eq_true rfl⟩) (z_preV (i := 0) hK hW rfl rfl) rfl rfl hl.1 rfl (lv_room (Nat.le_of_ble_eq_true rfl)) dX12_next_174 ⟨Nat.le_of_ble_eq_true rfl, Nat.le_of_ble_eq_true rfl⟩) (fun r u1 H locs hp hW hS => ?_)
                    obtain ⟨e9, hp⟩ := hp
                    rw [e9] at hW
                    refine lv_topi (fun x77 ex77 => ?_)
                    have hhx77 : x77 = z_hr I74 := ex77.trans hp.1
                    have h78 := hp.2
                    rw [← ex77] at h78
                    have hcx77 : ∀ p : Nat, (I74 0 34).toInt = (p : Int) → x77.toInt = zm_h I p := fun p hp => zm_c lp73fr (by decide) (by decide) hp hhx77
                    have hbx77 : -1 ≤ x77.toInt ∧ x77.toInt ≤ 255 := by rw [hcx77 _ (z_clt rfl (by omega)).symm]; exact zm_hb
                    refine lv_bipush (v := 48) hx hb dX12_next_177 (by decide) ?_
                    refine lv_bipush (v := 57) hx hb dX12_next_179 (by decide) ?_
                    refine z_ci hW hS hA (va_runS (As := [.int x77, .int 48, .int 57]) (rest := []) ⟨hx, hb, hml, hown, hts⟩ (sx_X12_within2 l G ad I74 J75  x77 48 57 _) (va_cwS 3 hts gX12_next_X12_within rfl rfl rfl (by decide +kernel) ⟨Nat.le_of_ble_eq_true rfl, Nat.le_of_ble_eq_true rfl⟩) (z_preS hK hW) rfl rfl hl.1 rfl (lv_room (Nat.le_of_ble_eq_true rfl)) dX12_next_181 ⟨Nat.le_of_ble_eq_true rfl, Nat.le_of_ble_eq_true rfl⟩) (fun r u1 H locs hp hW hS => ?_)
                    obtain ⟨e9, hp⟩ := hp
                    rw [e9] at hW
                    rcases hp with ⟨rfl, h8, h9⟩ | ⟨rfl, h8⟩
                    · have h79 := z_t_le z_l48 rfl h8
                      have h80 := z_t_le rfl z_l57 h9
                      refine lv_if_eq (tgt := 225) hx hb dX12_next_184 (by decide) (fun c81 => absurd c81 (by decide)) (fun c81 => ?_)
                      refine lv_aload_n hx hb dX12_next_187 rfl (lv_at hl 1 rfl) ?_
                      refine lv_aload_n hx hb dX12_next_188 rfl (lv_at hl 1 rfl) ?_
                      have r82 : 0 ≤ (I74 0 38).toInt ∧ (I74 0 38).toInt ≤ 200000000 := hvl
                      refine z_get (T := TX12) (N := 96) (ci := 12) (i := 0) (v := .int (I74 0 38)) hx hb hts zj_X12_next_X12 hown hK hW rfl rfl 38 (by decide) (hts (.fieldLink RX12 278 "PetrolBoardModel" "value" "I") (me_s (me_l (me_l (List.mem_of_getElem? (i := 5) rfl))))) (fun _ h => h) rfl dX12_next_189 ?_
                      refine lv_ldcw (v := 10000000) hx hb hown (hts (.constant RX12 286 (10000000)) (me_s (me_l (me_l (List.mem_of_getElem? (i := 8) rfl))))) dX12_next_192 ?_
                      refine z_ci hW hS hA (va_runS (As := [.int (I74 0 38), .int 10000000]) (rest := [.ref (ad 0)]) ⟨hx, hb, hml, hown, hts⟩ (sx_X12_min2 l G ad I74 J75  (I74 0 38) 10000000 _) (va_cwS 2 hts gX12_next_X12_min rfl rfl rfl (by decide +kernel) ⟨Nat.le_of_ble_eq_true rfl, Nat.le_of_ble_eq_true rfl⟩) (z_preS hK hW) rfl rfl hl.1 rfl (lv_room (Nat.le_of_ble_eq_true rfl)) dX12_next_195 ⟨Nat.le_of_ble_eq_true rfl, Nat.le_of_ble_eq_true rfl⟩) (fun r u1 H locs hp hW hS => ?_)
                      obtain ⟨e9, hp⟩ := hp
                      rw [e9] at hW
                      refine lv_topi (fun x83 ex83 => ?_)
                      rw [← ex83] at hp
                      obtain ⟨h84, h85, h86⟩ := hp
                      have z87 := z_l10000000
                      refine lv_bipush (v := 10) hx hb dX12_next_198 (by decide) ?_
                      refine lv_imul hx hb dX12_next_200 ?_
                      refine lv_topi (fun x88 ex88 => ?_)
                      have tx88 : x88.toInt = x83.toInt * 10 := z_tmul ex88 rfl z_l10 (by omega) (by omega)
                      refine lv_aload_n hx hb dX12_next_201 rfl (lv_at hl 1 rfl) ?_
                      refine z_ci hW hS hA (va_runV (As := []) (rest := [.int x88, .ref (ad 0)]) ⟨hx, hb, hml, hown, hts⟩ (sx_X12_here l G ad I74 J75 ⟨(by show 0 ≤ (I74 0 31).toInt ∧ (I74 0 31).toInt ≤ 500; exact lp73mp.1), (by show 0 ≤ (I74 0 33).toInt ∧ (I74 0 33).toInt ≤ 500; exact lp73mp.2.1), (by show 0 ≤ (I74 0 34).toInt ∧ (I74 0 34).toInt ≤ 500; exact lp73mp.2.2.1), (by show 0 ≤ (I74 0 35).toInt ∧ (I74 0 35).toInt ≤ 500; exact lp73mp.2.2.2)⟩ (by show 0 ≤ (I74 0 34).toInt ∧ (I74 0 34).toInt ≤ (I74 0 33).toInt ∧ (I74 0 33).toInt ≤ 500; first | omega | decide)  _) (cwV 0 hts gX12_next_X12_here rfl rfl rfl (by decide +kernel) ⟨Nat.le_of_ble_eq_true rfl, Nat.le_of_ble_eq_true rfl⟩) (z_preV (i := 0) hK hW rfl rfl) rfl rfl hl.1 rfl (lv_room (Nat.le_of_ble_eq_true rfl)) dX12_next_202 ⟨Nat.le_of_ble_eq_true rfl, Nat.le_of_ble_eq_true rfl⟩) (fun r u1 H locs hp hW hS => ?_)
                      obtain ⟨e9, hp⟩ := hp
                      rw [e9] at hW
                      refine lv_topi (fun x89 ex89 => ?_)
                      have hhx89 : x89 = z_hr I74 := ex89.trans hp.1
                      have h90 := hp.2
                      rw [← ex89] at h90
                      have hcx89 : ∀ p : Nat, (I74 0 34).toInt = (p : Int) → x89.toInt = zm_h I p := fun p hp => zm_c lp73fr (by decide) (by decide) hp hhx89
                      have hbx89 : -1 ≤ x89.toInt ∧ x89.toInt ≤ 255 := by rw [hcx89 _ (z_clt rfl (by omega)).symm]; exact zm_hb
                      refine lv_iadd hx hb dX12_next_205 ?_
                      refine lv_topi (fun x91 ex91 => ?_)
                      have tx91 : x91.toInt = x88.toInt + x89.toInt := z_tadd ex91 rfl rfl (by omega) (by omega)
                      refine lv_bipush (v := 48) hx hb dX12_next_206 (by decide) ?_
                      refine lv_isub hx hb dX12_next_208 ?_
                      refine lv_topi (fun x92 ex92 => ?_)
                      have tx92 : x92.toInt = x91.toInt - 48 := z_tsub ex92 rfl z_l48 (by omega) (by omega)
                      refine z_put (T := TX12) (N := 96) (ci := 12) (i := 0) (v := .int x92) (I1 := z_up I74 0 38 x92) (J1 := J75) (P1 := PM ad) hx hb hts zj_X12_next_X12 tyX12 tyX12_ok nmX12 hown hK hW hS rfl rfl 38 (by decide) (hts (.fieldLink RX12 278 "PetrolBoardModel" "value" "I") (me_s (me_l (me_l (List.mem_of_getElem? (i := 5) rfl))))) (fun _ h => h) rfl rfl rfl (by first | rfl | exact congrArg _ z_up_s) (fun a b h ty => z_vI h ty) dX12_next_209 (fun H locs hz1 hW hS => ?_)
                      obtain ⟨I93, eI93⟩ : ∃ K : z_I, K = z_up I74 0 38 x92 := ⟨_, rfl⟩
                      rw [← eI93] at hW
                      have f94 := z_fr_k lp73fr (show z_wr L_X12_next_x 0 38 = true by decide) eI93
                      refine lv_aload_n hx hb dX12_next_212 rfl (lv_at hl 1 rfl) ?_
                      refine lv_dup hx hb dX12_next_213 rfl ?_
                      have r95 : 0 ≤ (I74 0 34).toInt ∧ (I74 0 34).toInt ≤ 500 := lp73mp.2.2.1
                      refine z_get (T := TX12) (N := 96) (ci := 12) (i := 0) (v := .int (I74 0 34)) hx hb hts zj_X12_next_X12 hown hK hW rfl rfl 34 (by decide) (hts (.fieldLink RX12 256 "PetrolBoardModel" "point" "I") (me_s (me_l (me_l (List.mem_of_getElem? (i := 0) rfl))))) (fun _ h => h) (congrArg Value.int (by rw [eI93, z_up_k (by decide)])) dX12_next_214 ?_
                      refine lv_iconst (v := 1) hx hb dX12_next_217 (by decide) ?_
                      refine lv_iadd hx hb dX12_next_218 ?_
                      refine lv_topi (fun x96 ex96 => ?_)
                      have tx96 : x96.toInt = (I74 0 34).toInt + 1 := z_tadd ex96 rfl z_l1 (by omega) (by omega)
                      refine z_put (T := TX12) (N := 96) (ci := 12) (i := 0) (v := .int x96) (I1 := z_up I93 0 34 x96) (J1 := J75) (P1 := PM ad) hx hb hts zj_X12_next_X12 tyX12 tyX12_ok nmX12 hown hK hW hS rfl rfl 34 (by decide) (hts (.fieldLink RX12 256 "PetrolBoardModel" "point" "I") (me_s (me_l (me_l (List.mem_of_getElem? (i := 0) rfl))))) (fun _ h => h) rfl rfl rfl (by first | rfl | exact congrArg _ z_up_s) (fun a b h ty => z_vI h ty) dX12_next_219 (fun H locs hz1 hW hS => ?_)
                      obtain ⟨I97, eI97⟩ : ∃ K : z_I, K = z_up I93 0 34 x96 := ⟨_, rfl⟩
                      rw [← eI97] at hW
                      have f98 := z_fr_k f94 (show z_wr L_X12_next_x 0 34 = true by decide) eI97
                      refine lv_goto (tgt := 173) hx hb dX12_next_222 (by decide) ?_
                      exact lp73ih  I97 J75 _ _ _ (by show 501 - (I97 0 34).toInt ≤ (f : Int); have q9 : (I97 0 34) = x96 := (by rw [eI97, z_up_s]); rw [q9]; first | omega | decide) ⟨(by show 0 ≤ (I97 0 31).toInt ∧ (I97 0 31).toInt ≤ 500; rw [eI97, z_up_k (by decide), eI93, z_up_k (by decide)]; exact lp73mp.1), (by show 0 ≤ (I97 0 33).toInt ∧ (I97 0 33).toInt ≤ 500; rw [eI97, z_up_k (by decide), eI93, z_up_k (by decide)]; exact lp73mp.2.1), (by show 0 ≤ (I97 0 34).toInt ∧ (I97 0 34).toInt ≤ 500; rw [eI97, z_up_s]; omega), (by show 0 ≤ (I97 0 35).toInt ∧ (I97 0 35).toInt ≤ 500; rw [eI97, z_up_k (by decide), eI93, z_up_k (by decide)]; exact lp73mp.2.2.2)⟩ ⟨(by show 0 ≤ (I97 0 36).toInt ∧ (I97 0 36).toInt ≤ 4; rw [eI97, z_up_k (by decide), eI93, z_up_k (by decide)]; exact lp73mt.1), (by show 0 ≤ (I97 0 42).toInt ∧ (I97 0 42).toInt ≤ 1; rw [eI97, z_up_k (by decide), eI93, z_up_k (by decide)]; exact lp73mt.2)⟩ (by have q0 : (I97 0 35) = (I74 0 35) := (by rw [eI97, z_up_k (by decide), eI93, z_up_k (by decide)]); have q1 : (I97 0 34) = x96 := (by rw [eI97, z_up_s]); have q2 : (I97 0 33) = (I74 0 33) := (by rw [eI97, z_up_k (by decide), eI93, z_up_k (by decide)]); show 0 ≤ (I97 0 35).toInt ∧ (I97 0 35).toInt ≤ (I97 0 34).toInt ∧ (I97 0 34).toInt ≤ (I97 0 33).toInt ∧ (I97 0 33).toInt ≤ 500; rw [q0, q1, q2]; first | omega | decide) (by have q0 : (I97 0 35) = (I74 0 35) := (by rw [eI97, z_up_k (by decide), eI93, z_up_k (by decide)]); show (I 0 34).toInt ≤ (I97 0 35).toInt; rw [q0]; omega) (zm_D_s (mn := x83.toInt) lp73D hcx77 (by omega) (by rw [eI97, z_up_k (by decide), eI93, z_up_k (by decide)]) (by show (I97 0 34).toInt = (I74 0 34).toInt + 1; have q9 : (I97 0 34) = x96 := (by rw [eI97, z_up_s]); rw [q9]; first | omega | decide) ⟨by omega, by omega, by omega⟩ (by have q9 := congrArg Int32.toInt (hhx89.trans hhx77.symm); have q8 : (I97 0 38).toInt = x83.toInt * 10 + x89.toInt - 48 := (by show (I97 0 38).toInt = x83.toInt * 10 + x89.toInt - 48; have q9 : (I97 0 38) = x92 := (by rw [eI97, z_up_k (by decide), eI93, z_up_s]); rw [q9]; first | omega | decide); omega)) f98 hW hS (lv_sub hl [0, 1] rfl)
                    · rw [z_l48, z_l57] at h8
                      have h99 := h8
                      refine lv_if_eq (tgt := 225) hx hb dX12_next_184 (by decide) (fun c100 => ?_) (fun c100 => absurd (by decide) c100)
                      have h101 := zm_D_lt lp73D hcx77 (by omega)
                      refine lv_aload_n hx hb dX12_next_225 rfl (lv_at hl 1 rfl) ?_
                      refine lv_aload_n hx hb dX12_next_226 rfl (lv_at hl 1 rfl) ?_
                      have r102 : 0 ≤ (I74 0 34).toInt ∧ (I74 0 34).toInt ≤ 500 := lp73mp.2.2.1
                      refine z_get (T := TX12) (N := 96) (ci := 12) (i := 0) (v := .int (I74 0 34)) hx hb hts zj_X12_next_X12 hown hK hW rfl rfl 34 (by decide) (hts (.fieldLink RX12 256 "PetrolBoardModel" "point" "I") (me_s (me_l (me_l (List.mem_of_getElem? (i := 0) rfl))))) (fun _ h => h) rfl dX12_next_227 ?_
                      refine lv_aload_n hx hb dX12_next_230 rfl (lv_at hl 1 rfl) ?_
                      have r103 : 0 ≤ (I74 0 35).toInt ∧ (I74 0 35).toInt ≤ 500 := lp73mp.2.2.2
                      refine z_get (T := TX12) (N := 96) (ci := 12) (i := 0) (v := .int (I74 0 35)) hx hb hts zj_X12_next_X12 hown hK hW rfl rfl 35 (by decide) (hts (.fieldLink RX12 266 "PetrolBoardModel" "from" "I") (me_s (me_l (me_l (List.mem_of_getElem? (i := 1) rfl))))) (fun _ h => h) rfl dX12_next_231 ?_
                      refine lv_isub hx hb dX12_next_234 ?_
                      refine lv_topi (fun x104 ex104 => ?_)
                      have tx104 : x104.toInt = (I74 0 34).toInt - (I74 0 35).toInt := z_tsub ex104 rfl rfl (by omega) (by omega)
                      refine lv_bipush (v := 6) hx hb dX12_next_235 (by decide) ?_
                      refine lv_icmp_gt (tgt := 244) hx hb dX12_next_237 (by decide) (fun c105 => ?_) (fun c105 => ?_)
                      · have g106 := z_f_gt rfl z_l6 c105
                        refine lv_iconst (v := 4) hx hb dX12_next_244 (by decide) ?_
                        refine z_put (T := TX12) (N := 96) (ci := 12) (i := 0) (v := .int 4) (I1 := z_up I74 0 36 4) (J1 := J75) (P1 := PM ad) hx hb hts zj_X12_next_X12 tyX12 tyX12_ok nmX12 hown hK hW hS rfl rfl 36 (by decide) (hts (.fieldLink RX12 281 "PetrolBoardModel" "token" "I") (me_s (me_l (me_l (List.mem_of_getElem? (i := 6) rfl))))) (fun _ h => h) rfl rfl rfl (by first | rfl | exact congrArg _ z_up_s) (fun a b h ty => z_vI h ty) dX12_next_245 (fun H locs hz1 hW hS => ?_)
                        obtain ⟨I107, eI107⟩ : ∃ K : z_I, K = z_up I74 0 36 4 := ⟨_, rfl⟩
                        rw [← eI107] at hW
                        have f108 := z_fr_k lp73fr (show z_wr L_X12_next_x 0 36 = true by decide) eI107
                        refine lv_goto (tgt := 282) hx hb dX12_next_248 (by decide) ?_
                        exact z_vret hx hb hr hK hS (Nat.le_of_ble_eq_true rfl) (Nat.le_of_ble_eq_true rfl) hlocks dX12_next_282 (shM, ad, I107, J75, PM ad) hW ⟨I107, J75, rfl, ⟨(by show 0 ≤ (I107 0 31).toInt ∧ (I107 0 31).toInt ≤ 500; rw [eI107, z_up_k (by decide)]; exact lp73mp.1), (by show 0 ≤ (I107 0 33).toInt ∧ (I107 0 33).toInt ≤ 500; rw [eI107, z_up_k (by decide)]; exact lp73mp.2.1), (by show 0 ≤ (I107 0 34).toInt ∧ (I107 0 34).toInt ≤ 500; rw [eI107, z_up_k (by decide)]; exact lp73mp.2.2.1), (by show 0 ≤ (I107 0 35).toInt ∧ (I107 0 35).toInt ≤ 500; rw [eI107, z_up_k (by decide)]; exact lp73mp.2.2.2)⟩, ⟨(by show 0 ≤ (I107 0 36).toInt ∧ (I107 0 36).toInt ≤ 4; rw [eI107, z_up_s]; decide), (by show 0 ≤ (I107 0 42).toInt ∧ (I107 0 42).toInt ≤ 1; rw [eI107, z_up_k (by decide)]; exact lp73mt.2)⟩, (by have q0 : (I107 0 35) = (I74 0 35) := (by rw [eI107, z_up_k (by decide)]); have q1 : (I107 0 34) = (I74 0 34) := (by rw [eI107, z_up_k (by decide)]); have q2 : (I107 0 33) = (I74 0 33) := (by rw [eI107, z_up_k (by decide)]); have q3 : (I107 0 36) = 4 := (by rw [eI107, z_up_s]); have z3 := z_l4; show 0 ≤ (I107 0 35).toInt ∧ (I107 0 35).toInt ≤ (I107 0 34).toInt ∧ (I107 0 34).toInt ≤ (I107 0 33).toInt ∧ (I107 0 33).toInt ≤ 500 ∧ ((I107 0 36).toInt = 0 ∨ (I107 0 35).toInt + 1 ≤ (I107 0 34).toInt); rw [q0, q1, q2, q3]; first | omega | decide), f108, ⟨(by have q0 : (I107 0 35) = (I74 0 35) := (by rw [eI107, z_up_k (by decide)]); show (I 0 34).toInt ≤ (I107 0 35).toInt; rw [q0]; omega), (zm_D_e lp73D hcx77 (by omega) (by rw [eI107, z_up_k (by decide)]) (by rw [eI107, z_up_k (by decide)]) (by rw [eI107, z_up_k (by decide)]) (Or.inr ⟨by omega, (by rw [eI107, z_up_s] <;> decide)⟩))⟩⟩
                      · have g109 := z_f_ngt rfl z_l6 c105
                        refine lv_iconst (v := 2) hx hb dX12_next_240 (by decide) ?_
                        refine lv_goto (tgt := 245) hx hb dX12_next_241 (by decide) ?_
                        refine z_put (T := TX12) (N := 96) (ci := 12) (i := 0) (v := .int 2) (I1 := z_up I74 0 36 2) (J1 := J75) (P1 := PM ad) hx hb hts zj_X12_next_X12 tyX12 tyX12_ok nmX12 hown hK hW hS rfl rfl 36 (by decide) (hts (.fieldLink RX12 281 "PetrolBoardModel" "token" "I") (me_s (me_l (me_l (List.mem_of_getElem? (i := 6) rfl))))) (fun _ h => h) rfl rfl rfl (by first | rfl | exact congrArg _ z_up_s) (fun a b h ty => z_vI h ty) dX12_next_245 (fun H locs hz1 hW hS => ?_)
                        obtain ⟨I110, eI110⟩ : ∃ K : z_I, K = z_up I74 0 36 2 := ⟨_, rfl⟩
                        rw [← eI110] at hW
                        have f111 := z_fr_k lp73fr (show z_wr L_X12_next_x 0 36 = true by decide) eI110
                        refine lv_goto (tgt := 282) hx hb dX12_next_248 (by decide) ?_
                        exact z_vret hx hb hr hK hS (Nat.le_of_ble_eq_true rfl) (Nat.le_of_ble_eq_true rfl) hlocks dX12_next_282 (shM, ad, I110, J75, PM ad) hW ⟨I110, J75, rfl, ⟨(by show 0 ≤ (I110 0 31).toInt ∧ (I110 0 31).toInt ≤ 500; rw [eI110, z_up_k (by decide)]; exact lp73mp.1), (by show 0 ≤ (I110 0 33).toInt ∧ (I110 0 33).toInt ≤ 500; rw [eI110, z_up_k (by decide)]; exact lp73mp.2.1), (by show 0 ≤ (I110 0 34).toInt ∧ (I110 0 34).toInt ≤ 500; rw [eI110, z_up_k (by decide)]; exact lp73mp.2.2.1), (by show 0 ≤ (I110 0 35).toInt ∧ (I110 0 35).toInt ≤ 500; rw [eI110, z_up_k (by decide)]; exact lp73mp.2.2.2)⟩, ⟨(by show 0 ≤ (I110 0 36).toInt ∧ (I110 0 36).toInt ≤ 4; rw [eI110, z_up_s]; decide), (by show 0 ≤ (I110 0 42).toInt ∧ (I110 0 42).toInt ≤ 1; rw [eI110, z_up_k (by decide)]; exact lp73mt.2)⟩, (by have q0 : (I110 0 35) = (I74 0 35) := (by rw [eI110, z_up_k (by decide)]); have q1 : (I110 0 34) = (I74 0 34) := (by rw [eI110, z_up_k (by decide)]); have q2 : (I110 0 33) = (I74 0 33) := (by rw [eI110, z_up_k (by decide)]); have q3 : (I110 0 36) = 2 := (by rw [eI110, z_up_s]); have z3 := z_l2; show 0 ≤ (I110 0 35).toInt ∧ (I110 0 35).toInt ≤ (I110 0 34).toInt ∧ (I110 0 34).toInt ≤ (I110 0 33).toInt ∧ (I110 0 33).toInt ≤ 500 ∧ ((I110 0 36).toInt = 0 ∨ (I110 0 35).toInt + 1 ≤ (I110 0 34).toInt); rw [q0, q1, q2, q3]; first | omega | decide), f111, ⟨(by have q0 : (I110 0 35) = (I74 0 35) := (by rw [eI110, z_up_k (by decide)]); show (I 0 34).toInt ≤ (I110 0 35).toInt; rw [q0]; omega), (zm_D_e lp73D hcx77 (by omega) (by rw [eI110, z_up_k (by decide)]) (by rw [eI110, z_up_k (by decide)]) (by rw [eI110, z_up_k (by decide)]) (Or.inl ⟨by omega, (by rw [eI110, z_up_s] <;> decide)⟩))⟩⟩
                exact lp73 502  I26 J23 _ _ _ (by show 501 - (I26 0 34).toInt ≤ ((502 : Nat) : Int); have q9 : (I26 0 34) = (I2 0 34) := (by rw [eI26, z_up_k (by decide), eI24, z_up_k (by decide), eI19, z_up_k (by decide)]); rw [q9]; first | omega | decide) ⟨(by show 0 ≤ (I26 0 31).toInt ∧ (I26 0 31).toInt ≤ 500; rw [eI26, z_up_k (by decide), eI24, z_up_k (by decide), eI19, z_up_k (by decide)]; exact lp1mp.1), (by show 0 ≤ (I26 0 33).toInt ∧ (I26 0 33).toInt ≤ 500; rw [eI26, z_up_k (by decide), eI24, z_up_k (by decide), eI19, z_up_k (by decide)]; exact lp1mp.2.1), (by show 0 ≤ (I26 0 34).toInt ∧ (I26 0 34).toInt ≤ 500; rw [eI26, z_up_k (by decide), eI24, z_up_k (by decide), eI19, z_up_k (by decide)]; exact lp1mp.2.2.1), (by show 0 ≤ (I26 0 35).toInt ∧ (I26 0 35).toInt ≤ 500; rw [eI26, z_up_k (by decide), eI24, z_up_k (by decide), eI19, z_up_s]; omega)⟩ ⟨(by show 0 ≤ (I26 0 36).toInt ∧ (I26 0 36).toInt ≤ 4; rw [eI26, z_up_k (by decide), eI24, z_up_k (by decide), eI19, z_up_k (by decide)]; exact lp1mt.1), (by show 0 ≤ (I26 0 42).toInt ∧ (I26 0 42).toInt ≤ 1; rw [eI26, z_up_k (by decide), eI24, z_up_k (by decide), eI19, z_up_k (by decide)]; exact lp1mt.2)⟩ (by have q0 : (I26 0 35) = (I2 0 34) := (by rw [eI26, z_up_k (by decide), eI24, z_up_k (by decide), eI19, z_up_s]); have q1 : (I26 0 34) = (I2 0 34) := (by rw [eI26, z_up_k (by decide), eI24, z_up_k (by decide), eI19, z_up_k (by decide)]); have q2 : (I26 0 33) = (I2 0 33) := (by rw [eI26, z_up_k (by decide), eI24, z_up_k (by decide), eI19, z_up_k (by decide)]); show 0 ≤ (I26 0 35).toInt ∧ (I26 0 35).toInt ≤ (I26 0 34).toInt ∧ (I26 0 34).toInt ≤ (I26 0 33).toInt ∧ (I26 0 33).toInt ≤ 500; rw [q0, q1, q2]; first | omega | decide) (by have q0 : (I26 0 35) = (I2 0 34) := (by rw [eI26, z_up_k (by decide), eI24, z_up_k (by decide), eI19, z_up_s]); show (I 0 34).toInt ≤ (I26 0 35).toInt; rw [q0]; omega) (zm_D_0 hsk hzx21 (by omega) (by show (I26 0 35).toInt = (pb : Int); have q9 : (I26 0 35) = (I2 0 34) := (by rw [eI26, z_up_k (by decide), eI24, z_up_k (by decide), eI19, z_up_s]); rw [q9]; first | omega | decide) (by show (I26 0 34).toInt = (pb : Int); have q9 : (I26 0 34) = (I2 0 34) := (by rw [eI26, z_up_k (by decide), eI24, z_up_k (by decide), eI19, z_up_k (by decide)]); rw [q9]; first | omega | decide) (by show (I26 0 38).toInt = 0; have q9 : (I26 0 38) = 0 := (by rw [eI26, z_up_s]); rw [q9]; first | omega | decide)) f27 hW hS (lv_sub hl [0, 1] rfl)
              · rw [z_l48, z_l57] at h8
                have h112 := h8
                refine lv_if_eq (tgt := 251) hx hb dX12_next_170 (by decide) (fun c113 => ?_) (fun c113 => absurd (by decide) c113)
                refine lv_aload_n hx hb dX12_next_251 rfl (lv_at hl 1 rfl) ?_
                refine lv_iload_n hx hb dX12_next_252 rfl (lv_at hl 0 rfl) ?_
                refine z_ci hW hS hA (va_runS (As := [.int x21]) (rest := [.ref (ad 0)]) ⟨hx, hb, hml, hown, hts⟩ (sx_X12_isSignByte_x l G ad I26 J23  x21 _) (va_cwS 1 hts gX12_next_X12_isSignByte rfl rfl rfl (by decide +kernel) ⟨Nat.le_of_ble_eq_true rfl, Nat.le_of_ble_eq_true rfl⟩) (z_preS hK hW) rfl rfl hl.1 rfl (lv_room (Nat.le_of_ble_eq_true rfl)) dX12_next_253 ⟨Nat.le_of_ble_eq_true rfl, Nat.le_of_ble_eq_true rfl⟩) (fun r u1 H locs hp hW hS => ?_)
                obtain ⟨e9, hp⟩ := hp
                rw [e9] at hW
                rcases hp with ⟨rfl, h114⟩ | ⟨rfl, h114⟩
                · have h115 := h114
                  refine lv_if_eq (tgt := 263) hx hb dX12_next_256 (by decide) (fun c116 => absurd c116 (by decide)) (fun c116 => ?_)
                  refine lv_iconst (v := 3) hx hb dX12_next_259 (by decide) ?_
                  refine lv_goto (tgt := 264) hx hb dX12_next_260 (by decide) ?_
                  refine z_put (T := TX12) (N := 96) (ci := 12) (i := 0) (v := .int 3) (I1 := z_up I26 0 36 3) (J1 := J23) (P1 := PM ad) hx hb hts zj_X12_next_X12 tyX12 tyX12_ok nmX12 hown hK hW hS rfl rfl 36 (by decide) (hts (.fieldLink RX12 281 "PetrolBoardModel" "token" "I") (me_s (me_l (me_l (List.mem_of_getElem? (i := 6) rfl))))) (fun _ h => h) rfl rfl rfl (by first | rfl | exact congrArg _ z_up_s) (fun a b h ty => z_vI h ty) dX12_next_264 (fun H locs hz1 hW hS => ?_)
                  obtain ⟨I117, eI117⟩ : ∃ K : z_I, K = z_up I26 0 36 3 := ⟨_, rfl⟩
                  rw [← eI117] at hW
                  have f118 := z_fr_k f27 (show z_wr L_X12_next_x 0 36 = true by decide) eI117
                  refine lv_aload_n hx hb dX12_next_267 rfl (lv_at hl 1 rfl) ?_
                  refine lv_iload_n hx hb dX12_next_268 rfl (lv_at hl 0 rfl) ?_
                  refine z_put (T := TX12) (N := 96) (ci := 12) (i := 0) (v := .int x21) (I1 := z_up I117 0 37 x21) (J1 := J23) (P1 := PM ad) hx hb hts zj_X12_next_X12 tyX12 tyX12_ok nmX12 hown hK hW hS rfl rfl 37 (by decide) (hts (.fieldLink RX12 275 "PetrolBoardModel" "sign" "I") (me_s (me_l (me_l (List.mem_of_getElem? (i := 4) rfl))))) (fun _ h => h) rfl rfl rfl (by first | rfl | exact congrArg _ z_up_s) (fun a b h ty => z_vI h ty) dX12_next_269 (fun H locs hz1 hW hS => ?_)
                  obtain ⟨I119, eI119⟩ : ∃ K : z_I, K = z_up I117 0 37 x21 := ⟨_, rfl⟩
                  rw [← eI119] at hW
                  have f120 := z_fr_k f118 (show z_wr L_X12_next_x 0 37 = true by decide) eI119
                  refine lv_aload_n hx hb dX12_next_272 rfl (lv_at hl 1 rfl) ?_
                  refine lv_dup hx hb dX12_next_273 rfl ?_
                  refine z_get (T := TX12) (N := 96) (ci := 12) (i := 0) (v := .int (I2 0 34)) hx hb hts zj_X12_next_X12 hown hK hW rfl rfl 34 (by decide) (hts (.fieldLink RX12 256 "PetrolBoardModel" "point" "I") (me_s (me_l (me_l (List.mem_of_getElem? (i := 0) rfl))))) (fun _ h => h) (congrArg Value.int (by rw [eI119, z_up_k (by decide), eI117, z_up_k (by decide), eI26, z_up_k (by decide), eI24, z_up_k (by decide), eI19, z_up_k (by decide)])) dX12_next_274 ?_
                  refine lv_iconst (v := 1) hx hb dX12_next_277 (by decide) ?_
                  refine lv_iadd hx hb dX12_next_278 ?_
                  refine lv_topi (fun x121 ex121 => ?_)
                  have tx121 : x121.toInt = (I2 0 34).toInt + 1 := z_tadd ex121 rfl z_l1 (by omega) (by omega)
                  refine z_put (T := TX12) (N := 96) (ci := 12) (i := 0) (v := .int x121) (I1 := z_up I119 0 34 x121) (J1 := J23) (P1 := PM ad) hx hb hts zj_X12_next_X12 tyX12 tyX12_ok nmX12 hown hK hW hS rfl rfl 34 (by decide) (hts (.fieldLink RX12 256 "PetrolBoardModel" "point" "I") (me_s (me_l (me_l (List.mem_of_getElem? (i := 0) rfl))))) (fun _ h => h) rfl rfl rfl (by first | rfl | exact congrArg _ z_up_s) (fun a b h ty => z_vI h ty) dX12_next_279 (fun H locs hz1 hW hS => ?_)
                  obtain ⟨I122, eI122⟩ : ∃ K : z_I, K = z_up I119 0 34 x121 := ⟨_, rfl⟩
                  rw [← eI122] at hW
                  have f123 := z_fr_k f120 (show z_wr L_X12_next_x 0 34 = true by decide) eI122
                  exact z_vret hx hb hr hK hS (Nat.le_of_ble_eq_true rfl) (Nat.le_of_ble_eq_true rfl) hlocks dX12_next_282 (shM, ad, I122, J23, PM ad) hW ⟨I122, J23, rfl, ⟨(by show 0 ≤ (I122 0 31).toInt ∧ (I122 0 31).toInt ≤ 500; rw [eI122, z_up_k (by decide), eI119, z_up_k (by decide), eI117, z_up_k (by decide), eI26, z_up_k (by decide), eI24, z_up_k (by decide), eI19, z_up_k (by decide)]; exact lp1mp.1), (by show 0 ≤ (I122 0 33).toInt ∧ (I122 0 33).toInt ≤ 500; rw [eI122, z_up_k (by decide), eI119, z_up_k (by decide), eI117, z_up_k (by decide), eI26, z_up_k (by decide), eI24, z_up_k (by decide), eI19, z_up_k (by decide)]; exact lp1mp.2.1), (by show 0 ≤ (I122 0 34).toInt ∧ (I122 0 34).toInt ≤ 500; rw [eI122, z_up_s]; omega), (by show 0 ≤ (I122 0 35).toInt ∧ (I122 0 35).toInt ≤ 500; rw [eI122, z_up_k (by decide), eI119, z_up_k (by decide), eI117, z_up_k (by decide), eI26, z_up_k (by decide), eI24, z_up_k (by decide), eI19, z_up_s]; omega)⟩, ⟨(by show 0 ≤ (I122 0 36).toInt ∧ (I122 0 36).toInt ≤ 4; rw [eI122, z_up_k (by decide), eI119, z_up_k (by decide), eI117, z_up_s]; decide), (by show 0 ≤ (I122 0 42).toInt ∧ (I122 0 42).toInt ≤ 1; rw [eI122, z_up_k (by decide), eI119, z_up_k (by decide), eI117, z_up_k (by decide), eI26, z_up_k (by decide), eI24, z_up_k (by decide), eI19, z_up_k (by decide)]; exact lp1mt.2)⟩, (by have q0 : (I122 0 35) = (I2 0 34) := (by rw [eI122, z_up_k (by decide), eI119, z_up_k (by decide), eI117, z_up_k (by decide), eI26, z_up_k (by decide), eI24, z_up_k (by decide), eI19, z_up_s]); have q1 : (I122 0 34) = x121 := (by rw [eI122, z_up_s]); have q2 : (I122 0 33) = (I2 0 33) := (by rw [eI122, z_up_k (by decide), eI119, z_up_k (by decide), eI117, z_up_k (by decide), eI26, z_up_k (by decide), eI24, z_up_k (by decide), eI19, z_up_k (by decide)]); have q3 : (I122 0 36) = 3 := (by rw [eI122, z_up_k (by decide), eI119, z_up_k (by decide), eI117, z_up_s]); have z3 := z_l3; show 0 ≤ (I122 0 35).toInt ∧ (I122 0 35).toInt ≤ (I122 0 34).toInt ∧ (I122 0 34).toInt ≤ (I122 0 33).toInt ∧ (I122 0 33).toInt ≤ 500 ∧ ((I122 0 36).toInt = 0 ∨ (I122 0 35).toInt + 1 ≤ (I122 0 34).toInt); rw [q0, q1, q2, q3]; first | omega | decide), f123, ⟨(by have q0 : (I122 0 35) = (I2 0 34) := (by rw [eI122, z_up_k (by decide), eI119, z_up_k (by decide), eI117, z_up_k (by decide), eI26, z_up_k (by decide), eI24, z_up_k (by decide), eI19, z_up_s]); show (I 0 34).toInt ≤ (I122 0 35).toInt; rw [q0]; omega), (zm_N3 hsk hzx21 h114 (by show (I122 0 35).toInt = (pb : Int); have q9 : (I122 0 35) = (I2 0 34) := (by rw [eI122, z_up_k (by decide), eI119, z_up_k (by decide), eI117, z_up_k (by decide), eI26, z_up_k (by decide), eI24, z_up_k (by decide), eI19, z_up_s]); rw [q9]; first | omega | decide) (by show (I122 0 34).toInt = (pb : Int) + 1; have q9 : (I122 0 34) = x121 := (by rw [eI122, z_up_s]); rw [q9]; first | omega | decide) (by show (I122 0 36).toInt = 3; have q9 : (I122 0 36) = 3 := (by rw [eI122, z_up_k (by decide), eI119, z_up_k (by decide), eI117, z_up_s]); rw [q9]; first | omega | decide) (by show (I122 0 37).toInt = x21.toInt; have q9 : (I122 0 37) = x21 := (by rw [eI122, z_up_k (by decide), eI119, z_up_s]); rw [q9] <;> first | omega | decide))⟩⟩
                · have h124 := h114
                  refine lv_if_eq (tgt := 263) hx hb dX12_next_256 (by decide) (fun c125 => ?_) (fun c125 => absurd (by decide) c125)
                  refine lv_iconst (v := 4) hx hb dX12_next_263 (by decide) ?_
                  refine z_put (T := TX12) (N := 96) (ci := 12) (i := 0) (v := .int 4) (I1 := z_up I26 0 36 4) (J1 := J23) (P1 := PM ad) hx hb hts zj_X12_next_X12 tyX12 tyX12_ok nmX12 hown hK hW hS rfl rfl 36 (by decide) (hts (.fieldLink RX12 281 "PetrolBoardModel" "token" "I") (me_s (me_l (me_l (List.mem_of_getElem? (i := 6) rfl))))) (fun _ h => h) rfl rfl rfl (by first | rfl | exact congrArg _ z_up_s) (fun a b h ty => z_vI h ty) dX12_next_264 (fun H locs hz1 hW hS => ?_)
                  obtain ⟨I126, eI126⟩ : ∃ K : z_I, K = z_up I26 0 36 4 := ⟨_, rfl⟩
                  rw [← eI126] at hW
                  have f127 := z_fr_k f27 (show z_wr L_X12_next_x 0 36 = true by decide) eI126
                  refine lv_aload_n hx hb dX12_next_267 rfl (lv_at hl 1 rfl) ?_
                  refine lv_iload_n hx hb dX12_next_268 rfl (lv_at hl 0 rfl) ?_
                  refine z_put (T := TX12) (N := 96) (ci := 12) (i := 0) (v := .int x21) (I1 := z_up I126 0 37 x21) (J1 := J23) (P1 := PM ad) hx hb hts zj_X12_next_X12 tyX12 tyX12_ok nmX12 hown hK hW hS rfl rfl 37 (by decide) (hts (.fieldLink RX12 275 "PetrolBoardModel" "sign" "I") (me_s (me_l (me_l (List.mem_of_getElem? (i := 4) rfl))))) (fun _ h => h) rfl rfl rfl (by first | rfl | exact congrArg _ z_up_s) (fun a b h ty => z_vI h ty) dX12_next_269 (fun H locs hz1 hW hS => ?_)
                  obtain ⟨I128, eI128⟩ : ∃ K : z_I, K = z_up I126 0 37 x21 := ⟨_, rfl⟩
                  rw [← eI128] at hW
                  have f129 := z_fr_k f127 (show z_wr L_X12_next_x 0 37 = true by decide) eI128
                  refine lv_aload_n hx hb dX12_next_272 rfl (lv_at hl 1 rfl) ?_
                  refine lv_dup hx hb dX12_next_273 rfl ?_
                  refine z_get (T := TX12) (N := 96) (ci := 12) (i := 0) (v := .int (I2 0 34)) hx hb hts zj_X12_next_X12 hown hK hW rfl rfl 34 (by decide) (hts (.fieldLink RX12 256 "PetrolBoardModel" "point" "I") (me_s (me_l (me_l (List.mem_of_getElem? (i := 0) rfl))))) (fun _ h => h) (congrArg Value.int (by rw [eI128, z_up_k (by decide), eI126, z_up_k (by decide), eI26, z_up_k (by decide), eI24, z_up_k (by decide), eI19, z_up_k (by decide)])) dX12_next_274 ?_
                  refine lv_iconst (v := 1) hx hb dX12_next_277 (by decide) ?_
                  refine lv_iadd hx hb dX12_next_278 ?_
                  refine lv_topi (fun x130 ex130 => ?_)
                  have tx130 : x130.toInt = (I2 0 34).toInt + 1 := z_tadd ex130 rfl z_l1 (by omega) (by omega)
                  refine z_put (T := TX12) (N := 96) (ci := 12) (i := 0) (v := .int x130) (I1 := z_up I128 0 34 x130) (J1 := J23) (P1 := PM ad) hx hb hts zj_X12_next_X12 tyX12 tyX12_ok nmX12 hown hK hW hS rfl rfl 34 (by decide) (hts (.fieldLink RX12 256 "PetrolBoardModel" "point" "I") (me_s (me_l (me_l (List.mem_of_getElem? (i := 0) rfl))))) (fun _ h => h) rfl rfl rfl (by first | rfl | exact congrArg _ z_up_s) (fun a b h ty => z_vI h ty) dX12_next_279 (fun H locs hz1 hW hS => ?_)
                  obtain ⟨I131, eI131⟩ : ∃ K : z_I, K = z_up I128 0 34 x130 := ⟨_, rfl⟩
                  rw [← eI131] at hW
                  have f132 := z_fr_k f129 (show z_wr L_X12_next_x 0 34 = true by decide) eI131
                  exact z_vret hx hb hr hK hS (Nat.le_of_ble_eq_true rfl) (Nat.le_of_ble_eq_true rfl) hlocks dX12_next_282 (shM, ad, I131, J23, PM ad) hW ⟨I131, J23, rfl, ⟨(by show 0 ≤ (I131 0 31).toInt ∧ (I131 0 31).toInt ≤ 500; rw [eI131, z_up_k (by decide), eI128, z_up_k (by decide), eI126, z_up_k (by decide), eI26, z_up_k (by decide), eI24, z_up_k (by decide), eI19, z_up_k (by decide)]; exact lp1mp.1), (by show 0 ≤ (I131 0 33).toInt ∧ (I131 0 33).toInt ≤ 500; rw [eI131, z_up_k (by decide), eI128, z_up_k (by decide), eI126, z_up_k (by decide), eI26, z_up_k (by decide), eI24, z_up_k (by decide), eI19, z_up_k (by decide)]; exact lp1mp.2.1), (by show 0 ≤ (I131 0 34).toInt ∧ (I131 0 34).toInt ≤ 500; rw [eI131, z_up_s]; omega), (by show 0 ≤ (I131 0 35).toInt ∧ (I131 0 35).toInt ≤ 500; rw [eI131, z_up_k (by decide), eI128, z_up_k (by decide), eI126, z_up_k (by decide), eI26, z_up_k (by decide), eI24, z_up_k (by decide), eI19, z_up_s]; omega)⟩, ⟨(by show 0 ≤ (I131 0 36).toInt ∧ (I131 0 36).toInt ≤ 4; rw [eI131, z_up_k (by decide), eI128, z_up_k (by decide), eI126, z_up_s]; decide), (by show 0 ≤ (I131 0 42).toInt ∧ (I131 0 42).toInt ≤ 1; rw [eI131, z_up_k (by decide), eI128, z_up_k (by decide), eI126, z_up_k (by decide), eI26, z_up_k (by decide), eI24, z_up_k (by decide), eI19, z_up_k (by decide)]; exact lp1mt.2)⟩, (by have q0 : (I131 0 35) = (I2 0 34) := (by rw [eI131, z_up_k (by decide), eI128, z_up_k (by decide), eI126, z_up_k (by decide), eI26, z_up_k (by decide), eI24, z_up_k (by decide), eI19, z_up_s]); have q1 : (I131 0 34) = x130 := (by rw [eI131, z_up_s]); have q2 : (I131 0 33) = (I2 0 33) := (by rw [eI131, z_up_k (by decide), eI128, z_up_k (by decide), eI126, z_up_k (by decide), eI26, z_up_k (by decide), eI24, z_up_k (by decide), eI19, z_up_k (by decide)]); have q3 : (I131 0 36) = 4 := (by rw [eI131, z_up_k (by decide), eI128, z_up_k (by decide), eI126, z_up_s]); have z3 := z_l4; show 0 ≤ (I131 0 35).toInt ∧ (I131 0 35).toInt ≤ (I131 0 34).toInt ∧ (I131 0 34).toInt ≤ (I131 0 33).toInt ∧ (I131 0 33).toInt ≤ 500 ∧ ((I131 0 36).toInt = 0 ∨ (I131 0 35).toInt + 1 ≤ (I131 0 34).toInt); rw [q0, q1, q2, q3]; first | omega | decide), f132, ⟨(by have q0 : (I131 0 35) = (I2 0 34) := (by rw [eI131, z_up_k (by decide), eI128, z_up_k (by decide), eI126, z_up_k (by decide), eI26, z_up_k (by decide), eI24, z_up_k (by decide), eI19, z_up_s]); show (I 0 34).toInt ≤ (I131 0 35).toInt; rw [q0]; omega), (zm_N4 hsk hzx21 (by omega) (by omega) (by omega) h114 (by show (I131 0 35).toInt = (pb : Int); have q9 : (I131 0 35) = (I2 0 34) := (by rw [eI131, z_up_k (by decide), eI128, z_up_k (by decide), eI126, z_up_k (by decide), eI26, z_up_k (by decide), eI24, z_up_k (by decide), eI19, z_up_s]); rw [q9]; first | omega | decide) (by show (I131 0 34).toInt = (pb : Int) + 1; have q9 : (I131 0 34) = x130 := (by rw [eI131, z_up_s]); rw [q9]; first | omega | decide) (by show (I131 0 36).toInt = 4; have q9 : (I131 0 36) = 4 := (by rw [eI131, z_up_k (by decide), eI128, z_up_k (by decide), eI126, z_up_s]); rw [q9]; first | omega | decide))⟩⟩
          · have g133 := z_f_nge rfl z_l0 c28
            refine lv_aload_n hx hb dX12_next_65 rfl (lv_at hl 1 rfl) ?_
            refine lv_iconst (v := 0) hx hb dX12_next_66 (by decide) ?_
            refine z_put (T := TX12) (N := 96) (ci := 12) (i := 0) (v := .int 0) (I1 := z_up I26 0 36 0) (J1 := J23) (P1 := PM ad) hx hb hts zj_X12_next_X12 tyX12 tyX12_ok nmX12 hown hK hW hS rfl rfl 36 (by decide) (hts (.fieldLink RX12 281 "PetrolBoardModel" "token" "I") (me_s (me_l (me_l (List.mem_of_getElem? (i := 6) rfl))))) (fun _ h => h) rfl rfl rfl (by first | rfl | exact congrArg _ z_up_s) (fun a b h ty => z_vI h ty) dX12_next_67 (fun H locs hz1 hW hS => ?_)
            obtain ⟨I134, eI134⟩ : ∃ K : z_I, K = z_up I26 0 36 0 := ⟨_, rfl⟩
            rw [← eI134] at hW
            have f135 := z_fr_k f27 (show z_wr L_X12_next_x 0 36 = true by decide) eI134
            refine lv_goto (tgt := 282) hx hb dX12_next_70 (by decide) ?_
            exact z_vret hx hb hr hK hS (Nat.le_of_ble_eq_true rfl) (Nat.le_of_ble_eq_true rfl) hlocks dX12_next_282 (shM, ad, I134, J23, PM ad) hW ⟨I134, J23, rfl, ⟨(by show 0 ≤ (I134 0 31).toInt ∧ (I134 0 31).toInt ≤ 500; rw [eI134, z_up_k (by decide), eI26, z_up_k (by decide), eI24, z_up_k (by decide), eI19, z_up_k (by decide)]; exact lp1mp.1), (by show 0 ≤ (I134 0 33).toInt ∧ (I134 0 33).toInt ≤ 500; rw [eI134, z_up_k (by decide), eI26, z_up_k (by decide), eI24, z_up_k (by decide), eI19, z_up_k (by decide)]; exact lp1mp.2.1), (by show 0 ≤ (I134 0 34).toInt ∧ (I134 0 34).toInt ≤ 500; rw [eI134, z_up_k (by decide), eI26, z_up_k (by decide), eI24, z_up_k (by decide), eI19, z_up_k (by decide)]; exact lp1mp.2.2.1), (by show 0 ≤ (I134 0 35).toInt ∧ (I134 0 35).toInt ≤ 500; rw [eI134, z_up_k (by decide), eI26, z_up_k (by decide), eI24, z_up_k (by decide), eI19, z_up_s]; omega)⟩, ⟨(by show 0 ≤ (I134 0 36).toInt ∧ (I134 0 36).toInt ≤ 4; rw [eI134, z_up_s]; decide), (by show 0 ≤ (I134 0 42).toInt ∧ (I134 0 42).toInt ≤ 1; rw [eI134, z_up_k (by decide), eI26, z_up_k (by decide), eI24, z_up_k (by decide), eI19, z_up_k (by decide)]; exact lp1mt.2)⟩, (by have q0 : (I134 0 35) = (I2 0 34) := (by rw [eI134, z_up_k (by decide), eI26, z_up_k (by decide), eI24, z_up_k (by decide), eI19, z_up_s]); have q1 : (I134 0 34) = (I2 0 34) := (by rw [eI134, z_up_k (by decide), eI26, z_up_k (by decide), eI24, z_up_k (by decide), eI19, z_up_k (by decide)]); have q2 : (I134 0 33) = (I2 0 33) := (by rw [eI134, z_up_k (by decide), eI26, z_up_k (by decide), eI24, z_up_k (by decide), eI19, z_up_k (by decide)]); have q3 : (I134 0 36) = 0 := (by rw [eI134, z_up_s]); have z3 := z_l0; show 0 ≤ (I134 0 35).toInt ∧ (I134 0 35).toInt ≤ (I134 0 34).toInt ∧ (I134 0 34).toInt ≤ (I134 0 33).toInt ∧ (I134 0 33).toInt ≤ 500 ∧ ((I134 0 36).toInt = 0 ∨ (I134 0 35).toInt + 1 ≤ (I134 0 34).toInt); rw [q0, q1, q2, q3]; first | omega | decide), f135, ⟨(by have q0 : (I134 0 35) = (I2 0 34) := (by rw [eI134, z_up_k (by decide), eI26, z_up_k (by decide), eI24, z_up_k (by decide), eI19, z_up_s]); show (I 0 34).toInt ≤ (I134 0 35).toInt; rw [q0]; omega), (zm_N0 hsk hzx21 (by omega) (by show (I134 0 35).toInt = (pb : Int); have q9 : (I134 0 35) = (I2 0 34) := (by rw [eI134, z_up_k (by decide), eI26, z_up_k (by decide), eI24, z_up_k (by decide), eI19, z_up_s]); rw [q9]; first | omega | decide) (by show (I134 0 34).toInt = (pb : Int); have q9 : (I134 0 34) = (I2 0 34) := (by rw [eI134, z_up_k (by decide), eI26, z_up_k (by decide), eI24, z_up_k (by decide), eI19, z_up_k (by decide)]); rw [q9]; first | omega | decide) (by show (I134 0 36).toInt = 0; have q9 : (I134 0 36) = 0 := (by rw [eI134, z_up_s]); rw [q9]; first | omega | decide))⟩⟩
        · have g136 := z_f_eq rfl z_l10 c16
          refine lv_aload_n hx hb dX12_next_18 rfl (lv_at hl 0 rfl) ?_
          refine lv_dup hx hb dX12_next_19 rfl ?_
          have r137 : 0 ≤ (I2 0 34).toInt ∧ (I2 0 34).toInt ≤ 500 := lp1mp.2.2.1
          refine z_get (T := TX12) (N := 96) (ci := 12) (i := 0) (v := .int (I2 0 34)) hx hb hts zj_X12_next_X12 hown hK hW rfl rfl 34 (by decide) (hts (.fieldLink RX12 256 "PetrolBoardModel" "point" "I") (me_s (me_l (me_l (List.mem_of_getElem? (i := 0) rfl))))) (fun _ h => h) rfl dX12_next_20 ?_
          refine lv_iconst (v := 1) hx hb dX12_next_23 (by decide) ?_
          refine lv_iadd hx hb dX12_next_24 ?_
          refine lv_topi (fun x138 ex138 => ?_)
          have tx138 : x138.toInt = (I2 0 34).toInt + 1 := z_tadd ex138 rfl z_l1 (by omega) (by omega)
          refine z_put (T := TX12) (N := 96) (ci := 12) (i := 0) (v := .int x138) (I1 := z_up I2 0 34 x138) (J1 := J3) (P1 := PM ad) hx hb hts zj_X12_next_X12 tyX12 tyX12_ok nmX12 hown hK hW hS rfl rfl 34 (by decide) (hts (.fieldLink RX12 256 "PetrolBoardModel" "point" "I") (me_s (me_l (me_l (List.mem_of_getElem? (i := 0) rfl))))) (fun _ h => h) rfl rfl rfl (by first | rfl | exact congrArg _ z_up_s) (fun a b h ty => z_vI h ty) dX12_next_25 (fun H locs hz1 hW hS => ?_)
          obtain ⟨I139, eI139⟩ : ∃ K : z_I, K = z_up I2 0 34 x138 := ⟨_, rfl⟩
          rw [← eI139] at hW
          have f140 := z_fr_k lp1fr (show z_wr L_X12_next_x 0 34 = true by decide) eI139
          refine lv_goto (tgt := 0) hx hb dX12_next_28 (by decide) ?_
          exact lp1ih  I139 J3 _ _ _ (by show 501 - (I139 0 34).toInt ≤ (f : Int); have q9 : (I139 0 34) = x138 := (by rw [eI139, z_up_s]); rw [q9]; first | omega | decide) ⟨(by show 0 ≤ (I139 0 31).toInt ∧ (I139 0 31).toInt ≤ 500; rw [eI139, z_up_k (by decide)]; exact lp1mp.1), (by show 0 ≤ (I139 0 33).toInt ∧ (I139 0 33).toInt ≤ 500; rw [eI139, z_up_k (by decide)]; exact lp1mp.2.1), (by show 0 ≤ (I139 0 34).toInt ∧ (I139 0 34).toInt ≤ 500; rw [eI139, z_up_s]; omega), (by show 0 ≤ (I139 0 35).toInt ∧ (I139 0 35).toInt ≤ 500; rw [eI139, z_up_k (by decide)]; exact lp1mp.2.2.2)⟩ ⟨(by show 0 ≤ (I139 0 36).toInt ∧ (I139 0 36).toInt ≤ 4; rw [eI139, z_up_k (by decide)]; exact lp1mt.1), (by show 0 ≤ (I139 0 42).toInt ∧ (I139 0 42).toInt ≤ 1; rw [eI139, z_up_k (by decide)]; exact lp1mt.2)⟩ (by have q0 : (I139 0 34) = x138 := (by rw [eI139, z_up_s]); have q1 : (I139 0 33) = (I2 0 33) := (by rw [eI139, z_up_k (by decide)]); show 0 ≤ (I139 0 34).toInt ∧ (I139 0 34).toInt ≤ (I139 0 33).toInt ∧ (I139 0 33).toInt ≤ 500; rw [q0, q1]; first | omega | decide) (by have q0 : (I139 0 34) = x138 := (by rw [eI139, z_up_s]); show (I 0 34).toInt ≤ (I139 0 34).toInt; rw [q0]; omega) (zm_B_s hpb hpb1 hpb2 (by show (I139 0 34).toInt = (pb : Int) + 1; have q9 : (I139 0 34) = x138 := (by rw [eI139, z_up_s]); rw [q9]; first | omega | decide) hzx14 (by omega)) f140 hW hS (lv_sub hl [0] rfl)
  exact lp1 502  I J _ _ _ (by show 501 - (I 0 34).toInt ≤ ((502 : Nat) : Int); first | omega | decide) ⟨(by show 0 ≤ (I 0 31).toInt ∧ (I 0 31).toInt ≤ 500; exact hmp.1), (by show 0 ≤ (I 0 33).toInt ∧ (I 0 33).toInt ≤ 500; exact hmp.2.1), (by show 0 ≤ (I 0 34).toInt ∧ (I 0 34).toInt ≤ 500; exact hmp.2.2.1), (by show 0 ≤ (I 0 35).toInt ∧ (I 0 35).toInt ≤ 500; exact hmp.2.2.2)⟩ ⟨(by show 0 ≤ (I 0 36).toInt ∧ (I 0 36).toInt ≤ 4; exact hmt.1), (by show 0 ≤ (I 0 42).toInt ∧ (I 0 42).toInt ≤ 1; exact hmt.2)⟩ (by show 0 ≤ (I 0 34).toInt ∧ (I 0 34).toInt ≤ (I 0 33).toInt ∧ (I 0 33).toInt ≤ 500; first | omega | decide) (by show (I 0 34).toInt ≤ (I 0 34).toInt; omega) (zm_B_0 (by omega)) z_fr_0 hW hS (lv_sub hl [0] rfl)
