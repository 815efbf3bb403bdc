

/-! the last row of a word, or what is usual -/
noncomputable def zi_A (hd nu : Nat → Int) (w d : Int) : Nat → Int
  | 0 => d
  | n + 1 => if hd n = w then nu n else zi_A hd nu w d n
section ZIA
variable {hd nu hd1 nu1 : Nat → Int} {w w1 d : Int}
theorem zi_A_y {n : Nat} (h : hd n = w) : zi_A hd nu w d (n + 1) = nu n := if_pos h
theorem zi_A_n {n : Nat} (h : ¬ hd n = w) : zi_A hd nu w d (n + 1) = zi_A hd nu w d n := if_neg h
theorem zi_A_c : ∀ n : Nat, (∀ j, j < n → (hd1 j = w1 ↔ hd j = w) ∧ (hd j = w → nu1 j = nu j)) → zi_A hd1 nu1 w1 d n = zi_A hd nu w d n
  | 0, _ => rfl
  | n + 1, h => by
    obtain ⟨h1, h2⟩ := h n (Nat.lt_succ_self n)
    have ih := zi_A_c n (fun j hj => h j (by omega))
    by_cases q : hd n = w
    · rw [zi_A_y q, zi_A_y (h1.mpr q), h2 q]
    · rw [zi_A_n q, zi_A_n (fun z => q (h1.mp z)), ih]
end ZIA
noncomputable def zi_us (t : Int) : Int := if t = 0 then 10 else if t = 1 then 1 else if t = 2 then 5 else if t = 3 then 0 else 20
theorem zi_us_0 {t : Int} (h : t = 0) : zi_us t = 10 := if_pos h
theorem zi_us_1 {t : Int} (h : t = 1) : zi_us t = 1 := (if_neg (by omega)).trans (if_pos h)
theorem zi_us_2 {t : Int} (h : t = 2) : zi_us t = 5 := (if_neg (by omega)).trans ((if_neg (by omega)).trans (if_pos h))
theorem zi_us_3 {t : Int} (h : t = 3) : zi_us t = 0 := (if_neg (by omega)).trans ((if_neg (by omega)).trans ((if_neg (by omega)).trans (if_pos h)))
theorem zi_us_4 {t : Int} (h : ¬ t = 0 ∧ ¬ t = 1 ∧ ¬ t = 2 ∧ ¬ t = 3) : zi_us t = 20 := (if_neg h.1).trans ((if_neg h.2.1).trans ((if_neg h.2.2.1).trans (if_neg h.2.2.2)))
noncomputable def zi_hd (I : z_I) (o j : Nat) : Int := (I (o + 1) j).toInt
noncomputable def zi_nu (I : z_I) (o j : Nat) : Int := (I (o + 2) j).toInt
noncomputable def zi_kh (K : z_I) (st j : Nat) : Int := (K 15 (st + j)).toInt
noncomputable def zi_kn (K : z_I) (st j : Nat) : Int := (K 16 (st + j)).toInt
theorem zm_RS_g {K : z_I} : ∀ (rs : List zm_row) (i F0 j : Nat) (s : zp_T), zm_RS K i F0 rs → (rs.map Prod.fst)[j]? = some s → (K 15 (i + j)).toInt = s.1 - 300 ∧ (303 ≤ s.1 → (K 16 (i + j)).toInt = s.2.1)
  | [], _, _, j, s, _, h => by simp at h
  | (s1, a, b) :: rs, i, F0, 0, s, h, e => by
    have e : s1 = s := by simpa using e
    subst e
    exact ⟨h.1.1, h.1.2.1⟩
  | (s1, a, b) :: rs, i, F0, j + 1, s, h, e => by
    have e : (rs.map Prod.fst)[j]? = some s := by simpa using e
    have q := zm_RS_g rs (i + 1) _ j s h.2 e
    rw [show i + 1 + j = i + (j + 1) by omega] at q
    exact q
/-- both sides tell the same amount -/
theorem z_OW_A {c : z_C} {I K : z_I} {k : Nat} {t d : Int} (h : z_OW c I K) (hk : k < c.2.1) (ht : 0 ≤ t) : zi_A (zi_hd I (200 + 5 * k)) (zi_nu I (200 + 5 * k)) (303 + t) d (c.2.2.1 k) = zi_A (zi_kh K (K 11 k).toNatClampNeg) (zi_kn K (K 11 k).toNatClampNeg) (3 + t) d (c.2.2.1 k) := by
  obtain ⟨rs, F0, h1, h2, h3, h4, h5, h6, h7, h8, h9, h10, h11⟩ := h k hk
  refine zi_A_c _ (fun j hj => ?_)
  rw [h6] at hj
  have hl : j < (rs.map Prod.fst).length := by rw [List.length_map]; exact hj
  obtain ⟨s, hs⟩ : ∃ s, (rs.map Prod.fst)[j]? = some s := ⟨_, List.getElem?_eq_getElem hl⟩
  have g1 := (h11 j s hs).1
  have g2 := zm_RS_g rs _ _ j s h9 hs
  have e1 : zi_hd I (200 + 5 * k) j = s.1 := g1.1
  have e2 : zi_kh K (K 11 k).toNatClampNeg j = s.1 - 300 := g2.1
  refine ⟨by omega, fun z => ?_⟩
  have e3 : zi_nu I (200 + 5 * k) j = s.2.1 := g1.2.2.1 (by omega)
  have e4 : zi_kn K (K 11 k).toNatClampNeg j = s.2.1 := g2.2 (by omega)
  rw [e3, e4]
/-! rule -/
/-- what ORDERS in force tell of a word t: b is which, a the amount of the k-th, u what is usual -/
noncomputable def zi_R (mo td : Nat → Int) (m k : Int) (n : Nat) (u : Int) (a : Nat → Int) (r : Int) : Prop := ∃ b : Int, zi_B mo td m k n b ∧ ((b = -1 ∧ r = u) ∨ ∃ q : Nat, (q : Int) = b ∧ q < n ∧ r = a q)
theorem zi_R_u {mo td mo1 td1 : Nat → Int} {m k : Int} {n : Nat} {u r r1 : Int} {a a1 : Nat → Int} (h : zi_R mo td m k n u a r) (h2 : zi_R mo1 td1 m k n u a1 r1) (hc : ∀ j, j < n → mo1 j = mo j ∧ td1 j = td j) (ha : ∀ j, j < n → a j = a1 j) : r = r1 := by
  obtain ⟨b, g1, g2⟩ := h
  obtain ⟨b1, g3, g4⟩ := h2
  have e := zi_B_u (zi_B_c hc g1) g3
  rcases g2 with ⟨x1, x2⟩ | ⟨q, x1, x2, x3⟩ <;> rcases g4 with ⟨y1, y2⟩ | ⟨p, y1, y2, y3⟩
  · rw [x2, y2]
  · omega
  · omega
  · have e2 : q = p := by omega
    subst e2
    rw [x3, y3, ha q x2]
/-- one rule: what may be asked, and what is told -/
noncomputable def zi_rule (mo td : Nat → Int) (n : Nat) (a : Int → Nat → Int) (m k t r : Int) : Prop := (¬ (0 ≤ m ∧ m ≤ 23 ∧ 0 ≤ k ∧ k ≤ 719) ∧ r = -1) ∨ ((0 ≤ m ∧ m ≤ 23 ∧ 0 ≤ k ∧ k ≤ 719) ∧ ((t = 5 ∧ zi_B mo td m k n r) ∨ (¬ (0 ≤ t ∧ t ≤ 5) ∧ r = -1) ∨ (0 ≤ t ∧ t ≤ 4 ∧ zi_R mo td m k n (zi_us t) (a t) r)))
theorem zi_rule_u {mo td mo1 td1 : Nat → Int} {n : Nat} {a a1 : Int → Nat → Int} {m k t r r1 : Int} (h : zi_rule mo td n a m k t r) (h2 : zi_rule mo1 td1 n a1 m k t r1) (hc : ∀ j, j < n → mo1 j = mo j ∧ td1 j = td j) (ha : 0 ≤ t → t ≤ 4 → ∀ j, j < n → a t j = a1 t j) : r = r1 := by
  rcases h with ⟨x1, x2⟩ | ⟨x1, x2⟩ <;> rcases h2 with ⟨y1, y2⟩ | ⟨y1, y2⟩
  · omega
  · exact absurd y1 x1
  · exact absurd x1 y1
  · rcases x2 with ⟨z1, z2⟩ | ⟨z1, z2⟩ | ⟨z1, z2, z3⟩ <;> rcases y2 with ⟨w1, w2⟩ | ⟨w1, w2⟩ | ⟨w1, w2, w3⟩
    · exact zi_B_u (zi_B_c hc z2) w2
    · omega
    · omega
    · omega
    · omega
    · omega
    · omega
    · omega
    · exact zi_R_u z3 w3 hc (ha z1 z2)
theorem zi_un_us {x : Int32} (h0 : 0 ≤ x.toInt) (h4 : x.toInt ≤ 4) : (z_un x.toNatClampNeg).toInt = zi_us x.toInt := by
  have e := z_clt (x := x) rfl h0
  have hc : x.toInt = 0 ∨ x.toInt = 1 ∨ x.toInt = 2 ∨ x.toInt = 3 ∨ x.toInt = 4 := by omega
  rcases hc with q | q | q | q | q
  · rw [show x.toNatClampNeg = 0 by omega, q]
    decide
  · rw [show x.toNatClampNeg = 1 by omega, q]
    decide
  · rw [show x.toNatClampNeg = 2 by omega, q]
    decide
  · rw [show x.toNatClampNeg = 3 by omega, q]
    decide
  · rw [show x.toNatClampNeg = 4 by omega, q]
    decide
noncomputable def zi_ax (c : z_C) (I : z_I) (t : Int) (k : Nat) : Int := zi_A (zi_hd I (200 + 5 * k)) (zi_nu I (200 + 5 * k)) (303 + t) (zi_us t) (c.2.2.1 k)
noncomputable def zi_am (K : z_I) (t : Int) (k : Nat) : Int := zi_A (zi_kh K (K 11 k).toNatClampNeg) (zi_kn K (K 11 k).toNatClampNeg) (3 + t) (zi_us t) (K 12 k).toNatClampNeg
theorem zi_axm {c : z_C} {I K : z_I} {t : Int} (h : z_OW c I K) (ht : 0 ≤ t) : ∀ k, k < c.2.1 → zi_ax c I t k = zi_am K t k := fun k hk => by
  unfold zi_ax zi_am
  rw [z_OW_A h hk ht]
  obtain ⟨rs, F0, h1, h2, h3, h4, h5, h6, h7, h8, h9, h10, h11⟩ := h k hk
  have e := z_clt (x := K 12 k) rfl (by omega)
  rw [show (K 12 k).toNatClampNeg = c.2.2.1 k by omega]
/-- p10's answers -/
theorem z_OW_rule {c : z_C} {I K : z_I} {m k t r r1 : Int} {n1 : Nat} (h : z_OW c I K) (hn : n1 = c.2.1) (h1 : zi_rule (zi_mo I) (zi_td I) c.2.1 (zi_ax c I) m k t r) (h2 : zi_rule (zi_km K) (zi_kt K) n1 (zi_am K) m k t r1) : r = r1 := by
  rw [hn] at h2
  refine zi_rule_u h1 h2 (fun j hj => ?_) (fun t0 _ j hj => zi_axm h t0 j hj)
  obtain ⟨rs, F0, g1, g2, g3, _⟩ := h j hj
  exact ⟨g1.symm, g3.symm⟩
set_option maxHeartbeats 8000000 in
set_option maxRecDepth 100000 in
theorem sx_X11_usual_x (l : Launch) (G : z_G) (ad : Nat → Nat) (c : z_C) (I : z_I) (a1 : Int32) (q1 : 0 ≤ a1.toInt ∧ a1.toInt ≤ 4) : z_MS l yX11_usual wsX11_usual { frames := 1, cells := 0, slots := 0, locals := 12 } [.int a1] G (shC c, ad, I, JX, PC c ad) (fun r u1 => u1 = (shC c, ad, I, JX, PC c ad) ∧ (r = z_un a1.toNatClampNeg)) 0 0 := by
  intro sz
  refine z_headS (cc := cX11_usual) (maxL := 1) (ret := (some .int)) (by decide) rfl (Nat.le_of_ble_eq_true rfl) ?_
  intro p e s m below meth c0 ls hIn hK hsz hW hl hSt
  obtain ⟨hx, hb, hr, hml, hown, hts, hlocks, hname⟩ := hIn
  subst hsz
  have hown : s.vm.findClass RX11 = some m.cls := hown
  have hA : ∀ q : Nat, s.heap.size ≤ q → z_A (shC c, ad, I, JX, PC c ad) s.heap.size q := fun q h => Or.inr h
  generalize hAe : z_A (shC c, ad, I, JX, PC c ad) s.heap.size = A at *
  have hS : va_S A s.heap s.heap [] := va_S.rf
  have hl : lv_has ls 1 [(0, .int a1)] := hl
  obtain ⟨t0, hZ, hT⟩ := hSt
  refine lv_iload_n hx hb dX11_usual_0 rfl (lv_at hl 0 rfl) ?_
  refine lv_if_lt (tgt := 20) hx hb dX11_usual_1 (by decide) (fun c1 => (by have g := z_f_lt rfl z_l0 c1; omega)) (fun c1 => ?_)
  have g2 := z_f_nlt rfl z_l0 c1
  refine lv_iload_n hx hb dX11_usual_4 rfl (lv_at hl 0 rfl) ?_
  refine va_gets hx hb hZ hS hown (hts (.fieldLink RX11 426 "PetrolBoard" "USUAL" "[I") (me_s (List.mem_of_getElem? (i := 0) rfl))) (fun _ h => h) dX11_usual_5 ?_
  refine va_tlen (v := 5) hx hb hT hS rfl dX11_usual_8 ?_
  refine lv_icmp_ge (tgt := 20) hx hb dX11_usual_9 (by decide) (fun c3 => (by have g := z_f_ge rfl z_l5 c3; omega)) (fun c3 => ?_)
  have g4 := z_f_nge rfl z_l5 c3
  refine va_gets hx hb hZ hS hown (hts (.fieldLink RX11 426 "PetrolBoard" "USUAL" "[I") (me_s (List.mem_of_getElem? (i := 0) rfl))) (fun _ h => h) dX11_usual_12 ?_
  refine lv_iload_n hx hb dX11_usual_15 rfl (lv_at hl 0 rfl) ?_
  refine va_ti (v := .int (z_un (a1 : Int32).toNatClampNeg)) hx hb hT hS (z_ix rfl (by omega) (by omega)) rfl dX11_usual_16 ?_
  refine lv_topi (fun x5 ex5 => ?_)
  refine lv_goto (tgt := 21) hx hb dX11_usual_17 (by decide) ?_
  exact z_iret hx hb hr hK hS (Nat.le_of_ble_eq_true rfl) (Nat.le_of_ble_eq_true rfl) hlocks dX11_usual_21 (shC c, ad, I, JX, PC c ad) hW ⟨rfl, (by first | rfl | exact ex5 | exact ex5.symm)⟩
set_option maxHeartbeats 8000000 in
set_option maxRecDepth 100000 in
theorem sx_X7_amount_x (l : Launch) (G : z_G) (ad : Nat → Nat) (c : z_C) (I : z_I) (k : Nat) (a1 : Int32) (hk : k < c.2.1) (hc : z_okc c) (q1 : 0 ≤ a1.toInt ∧ a1.toInt ≤ 4) : z_MS l yX7_amount wsX7_amount { frames := 2, cells := 0, slots := 0, locals := 32 } [.ref (ad (200 + 5 * k)), .int a1] G (shC c, ad, I, JX, PC c ad) (fun r u1 => u1 = (shC c, ad, I, JX, PC c ad) ∧ (r.toInt = zi_A (zi_hd I (200 + 5 * k)) (zi_nu I (200 + 5 * k)) (303 + a1.toInt) (z_un a1.toNatClampNeg).toInt (c.2.2.1 k))) 0 0 := by
  intro sz
  refine z_headS (cc := cX7_amount) (maxL := 3) (ret := (some .int)) (by decide) rfl (Nat.le_of_ble_eq_true rfl) ?_
  intro p e s m below meth c0 ls hIn hK hsz hW hl hSt
  obtain ⟨hx, hb, hr, hml, hown, hts, hlocks, hname⟩ := hIn
  subst hsz
  have hown : s.vm.findClass RX7 = some m.cls := hown
  have hA : ∀ q : Nat, s.heap.size ≤ q → z_A (shC c, ad, I, JX, PC c ad) s.heap.size q := fun q h => Or.inr h
  generalize hAe : z_A (shC c, ad, I, JX, PC c ad) s.heap.size = A at *
  have hS : va_S A s.heap s.heap [] := va_S.rf
  have hl : lv_has ls 3 [(0, .ref (ad (200 + 5 * k))), (1, .int a1)] := hl
  refine lv_aload_n hx hb dX7_amount_0 rfl (lv_at hl 0 rfl) ?_
  refine z_get (T := TX7) (N := 6) (ci := 7) (i := (200 + 5 * k)) (v := .ref (ad (200 + 5 * k + 2))) hx hb hts zj_X7_amount_X7 hown hK hW (z_so0 hk) rfl 3 (by decide) (hts (.fieldLink RX7 44 "PetrolBoard$Orders" "first" "[I") (me_s (me_l (List.mem_of_getElem? (i := 0) rfl)))) (fun _ h => h) (z_pO rfl rfl) dX7_amount_1 ?_
  have r1 := (hc k hk).1
  refine z_alen (i := (200 + 5 * k + 2)) (v := (c.2.2.1 k).toInt32) hx hb hK hW (z_so123 hk (by decide)) (by simp [z_tys]) (by rfl) dX7_amount_4 ?_
  refine lv_iconst (v := 1) hx hb dX7_amount_5 (by decide) ?_
  refine lv_isub hx hb dX7_amount_6 ?_
  refine lv_topi (fun x2 ex2 => ?_)
  have tx2 : x2.toInt = ((c.2.2.1 k : Nat) : Int) - 1 := z_tsub ex2 (z_len (Nat.le_trans (hc k hk).1 (by decide))) z_l1 (by omega) (by omega)
  refine lv_istore_n (lv' := [(2, .int x2), (0, .ref (ad (200 + 5 * k))), (1, .int a1)]) hx hb dX7_amount_7 rfl hl (by decide) rfl (fun ls hl => ?_)
  have lp3 : ∀ (f : Nat) (y4 : Int32) (H : Heap) (locs : List Loc) (ls : Array Slot), (y4.toInt + 2147483648 < (f : Int)) → (y4.toInt ≤ 23) → (y4.toInt ≤ x2.toInt) → (∃ i : Nat, (i : Int) = y4.toInt + 1 ∧ i ≤ c.2.2.1 k ∧ zi_A (zi_hd I (200 + 5 * k)) (zi_nu I (200 + 5 * k)) (303 + a1.toInt) (z_un a1.toNatClampNeg).toInt i = zi_A (zi_hd I (200 + 5 * k)) (zi_nu I (200 + 5 * k)) (303 + a1.toInt) (z_un a1.toNatClampNeg).toInt (c.2.2.1 k)) → z_W G A (shC c, ad, I, JX, PC c ad) H → va_S A s.heap H locs → lv_has ls 3 [(2, .int y4), (0, .ref (ad (200 + 5 * k))), (1, .int a1)] → W p l e (headSpec wsX7_amount { frames := 2, cells := 0, slots := 0, locals := 32 }).room s m ([.ref (ad (200 + 5 * k)), .int a1] : List Value).toArray below meth c0 H locs 0 0 (MQ below (va_Qi (fun (r : Int32) (u1 : z_U) => u1 = (shC c, ad, I, JX, PC c ad) ∧ (r.toInt = zi_A (zi_hd I (200 + 5 * k)) (zi_nu I (200 + 5 * k)) (303 + a1.toInt) (z_un a1.toNatClampNeg).toInt (c.2.2.1 k))) (z_B G A) A) ([.ref (ad (200 + 5 * k)), .int a1] : List Value).toArray s 0 0 A) (F0 m 8 ls []) := by
    intro f
    induction f with
    | zero => intro y4 H locs ls lp3m lp3u2 lp3z lp3B hW hS hl; exact absurd lp3m (by have := Int32.toInt_lt y4; have := Int32.le_toInt y4; omega)
    | succ f lp3ih =>
      intro y4 H locs ls lp3m lp3u2 lp3z lp3B hW hS hl
      refine lv_iload_n hx hb dX7_amount_8 rfl (lv_at hl 0 rfl) ?_
      refine lv_if_lt (tgt := 48) hx hb dX7_amount_9 (by decide) (fun c5 => ?_) (fun c5 => ?_)
      · have g6 := z_f_lt rfl z_l0 c5
        refine lv_iload_n hx hb dX7_amount_48 rfl (lv_at hl 2 rfl) ?_
        refine z_ci hW hS hA (va_runSN (As := [.int a1]) (rest := []) ⟨hx, hb, hml, hown, hts⟩ (sx_X11_usual_x l G ad c I a1 (by omega) _) ⟨va_cnB 1 hts gX7_amount_X11_usual_n53 rfl rfl rfl (hK.2.2.1 _ (List.mem_of_getElem? (i := 10) rfl)) (hts (.initialized RX11) (me_s (me_l (List.mem_of_getElem? (i := 3) rfl)))) (by decide +kernel) ⟨Nat.le_of_ble_eq_true rfl, Nat.le_of_ble_eq_true rfl⟩, (hts (.static yX11_usual) (me_s (me_l (List.mem_of_getElem? (i := 2) rfl)))), trivial⟩ (z_preSS hK hW hS hA hSt) rfl rfl hl.1 rfl (lv_room (Nat.le_of_ble_eq_true rfl)) dX7_amount_49 ⟨Nat.le_of_ble_eq_true rfl, Nat.le_of_ble_eq_true rfl⟩) (fun r u1 H locs hp hW hS => ?_)
        obtain ⟨e9, hp⟩ := hp
        rw [e9] at hW
        refine lv_topi (fun x7 ex7 => ?_)
        rw [← ex7] at hp
        have hux7 := hp
        exact z_iret hx hb hr hK hS (Nat.le_of_ble_eq_true rfl) (Nat.le_of_ble_eq_true rfl) hlocks dX7_amount_52 (shC c, ad, I, JX, PC c ad) hW ⟨rfl, (by obtain ⟨i9, hi9, hn9, hB9⟩ := lp3B; rw [← hB9, show i9 = 0 by omega, hux7]; rfl)⟩
      · have g8 := z_f_nlt rfl z_l0 c5
        refine lv_iload_n hx hb dX7_amount_12 rfl (lv_at hl 0 rfl) ?_
        refine lv_aload_n hx hb dX7_amount_13 rfl (lv_at hl 1 rfl) ?_
        refine z_get (T := TX7) (N := 6) (ci := 7) (i := (200 + 5 * k)) (v := .ref (ad (200 + 5 * k + 1))) hx hb hts zj_X7_amount_X7 hown hK hW (z_so0 hk) rfl 2 (by decide) (hts (.fieldLink RX7 40 "PetrolBoard$Orders" "head" "[I") (me_s (me_l (List.mem_of_getElem? (i := 1) rfl)))) (fun _ h => h) (z_pO rfl rfl) dX7_amount_14 ?_
        have r9 := (hc k hk).1
        refine z_alen (i := (200 + 5 * k + 1)) (v := (c.2.2.1 k).toInt32) hx hb hK hW (z_so123 hk (by decide)) (by simp [z_tys]) (by rfl) dX7_amount_17 ?_
        refine lv_icmp_ge (tgt := 42) hx hb dX7_amount_18 (by decide) (fun c10 => ?_) (fun c10 => ?_)
        · have g11 := z_f_ge rfl (z_len (Nat.le_trans (hc k hk).1 (by decide))) c10
          obtain ⟨x12, ex12⟩ : ∃ y : Int32, y = y4 + (-1) := ⟨_, rfl⟩
          have tx12 : x12.toInt = y4.toInt + (-1) := z_tadd ex12 rfl z_lm1 (by omega) (by omega)
          refine lv_iinc (v := x12) (lv' := [(2, .int x12), (0, .ref (ad (200 + 5 * k))), (1, .int a1)]) hx hb dX7_amount_42 hl (k := 0) rfl (by rw [ex12]; rfl) (by decide) rfl (fun ls hl => ?_)
          refine lv_goto (tgt := 8) hx hb dX7_amount_45 (by decide) ?_
          exact lp3ih x12 _ _ _ (by omega) (by omega) (by omega) (by obtain ⟨i9, hi9, hn9, hB9⟩ := lp3B; first | (exfalso; omega) | exact ⟨y4.toNatClampNeg, by omega, by omega, by rw [← hB9, show i9 = y4.toNatClampNeg + 1 by omega]; exact (zi_A_n (by omega)).symm⟩) hW hS (lv_sub hl [0, 1, 2] rfl)
        · have g13 := z_f_nge rfl (z_len (Nat.le_trans (hc k hk).1 (by decide))) c10
          refine lv_aload_n hx hb dX7_amount_21 rfl (lv_at hl 1 rfl) ?_
          refine z_get (T := TX7) (N := 6) (ci := 7) (i := (200 + 5 * k)) (v := .ref (ad (200 + 5 * k + 1))) hx hb hts zj_X7_amount_X7 hown hK hW (z_so0 hk) rfl 2 (by decide) (hts (.fieldLink RX7 40 "PetrolBoard$Orders" "head" "[I") (me_s (me_l (List.mem_of_getElem? (i := 1) rfl)))) (fun _ h => h) (z_pO rfl rfl) dX7_amount_22 ?_
          refine lv_iload_n hx hb dX7_amount_25 rfl (lv_at hl 0 rfl) ?_
          refine z_iald (i := (200 + 5 * k + 1)) hx hb hK hW (z_so123 hk (by decide)) (z_ix rfl (by omega) (by omega)) dX7_amount_26 ?_
          refine lv_topi (fun x14 ex14 => ?_)
          have h15 : zi_hd I (200 + 5 * k) y4.toNatClampNeg = x14.toInt := by unfold zi_hd; rw [ex14]
          have h16 := z_clt (x := y4) rfl (by omega)
          refine lv_sipush (v := 303) hx hb dX7_amount_27 (by decide) ?_
          refine lv_iload_n hx hb dX7_amount_30 rfl (lv_at hl 2 rfl) ?_
          refine lv_iadd hx hb dX7_amount_31 ?_
          refine lv_topi (fun x17 ex17 => ?_)
          have tx17 : x17.toInt = 303 + a1.toInt := z_tadd ex17 z_l303 rfl (by omega) (by omega)
          refine lv_icmp_ne (tgt := 42) hx hb dX7_amount_32 (by decide) (fun c18 => ?_) (fun c18 => ?_)
          · have g19 := z_f_ne rfl rfl c18
            have b20 := Int32.toInt_lt x14
            obtain ⟨x21, ex21⟩ : ∃ y : Int32, y = y4 + (-1) := ⟨_, rfl⟩
            have tx21 : x21.toInt = y4.toInt + (-1) := z_tadd ex21 rfl z_lm1 (by omega) (by omega)
            refine lv_iinc (v := x21) (lv' := [(2, .int x21), (0, .ref (ad (200 + 5 * k))), (1, .int a1)]) hx hb dX7_amount_42 hl (k := 0) rfl (by rw [ex21]; rfl) (by decide) rfl (fun ls hl => ?_)
            refine lv_goto (tgt := 8) hx hb dX7_amount_45 (by decide) ?_
            exact lp3ih x21 _ _ _ (by omega) (by omega) (by omega) (by obtain ⟨i9, hi9, hn9, hB9⟩ := lp3B; first | (exfalso; omega) | exact ⟨y4.toNatClampNeg, by omega, by omega, by rw [← hB9, show i9 = y4.toNatClampNeg + 1 by omega]; exact (zi_A_n (by omega)).symm⟩) hW hS (lv_sub hl [0, 1, 2] rfl)
          · have g22 := z_f_eq rfl rfl c18
            have b23 := Int32.toInt_lt x14
            refine lv_aload_n hx hb dX7_amount_35 rfl (lv_at hl 1 rfl) ?_
            refine z_get (T := TX7) (N := 6) (ci := 7) (i := (200 + 5 * k)) (v := .ref (ad (200 + 5 * k + 2))) hx hb hts zj_X7_amount_X7 hown hK hW (z_so0 hk) rfl 3 (by decide) (hts (.fieldLink RX7 44 "PetrolBoard$Orders" "first" "[I") (me_s (me_l (List.mem_of_getElem? (i := 0) rfl)))) (fun _ h => h) (z_pO rfl rfl) dX7_amount_36 ?_
            refine lv_iload_n hx hb dX7_amount_39 rfl (lv_at hl 0 rfl) ?_
            refine z_iald (i := (200 + 5 * k + 2)) hx hb hK hW (z_so123 hk (by decide)) (z_ix rfl (by omega) (by omega)) dX7_amount_40 ?_
            refine lv_topi (fun x24 ex24 => ?_)
            have h25 : zi_nu I (200 + 5 * k) y4.toNatClampNeg = x24.toInt := by unfold zi_nu; rw [ex24]
            have h26 := z_clt (x := y4) rfl (by omega)
            exact z_iret hx hb hr hK hS (Nat.le_of_ble_eq_true rfl) (Nat.le_of_ble_eq_true rfl) hlocks dX7_amount_41 (shC c, ad, I, JX, PC c ad) hW ⟨rfl, (by obtain ⟨i9, hi9, hn9, hB9⟩ := lp3B; rw [← hB9, show i9 = y4.toNatClampNeg + 1 by omega, zi_A_y (by omega)]; omega)⟩
  exact lp3 4294967296 x2 _ _ _ (z_m0d _) (by omega) (by omega) ⟨c.2.2.1 k, by omega, Nat.le_refl _, rfl⟩ hW hS (lv_sub hl [0, 1, 2] rfl)
set_option maxHeartbeats 8000000 in
set_option maxRecDepth 100000 in
theorem sx_X12_number_x (l : Launch) (G : z_G) (ad : Nat → Nat) (I : z_I) (J : z_J) (hmb : z_imb I) (hAtf : z_rg 11 0 288 I) (hAtm : z_rg 12 0 24 I) (a1 : Int32) (a2 : Int32) (a3 : Int32) (q1 : 3 ≤ a3.toInt ∧ a3.toInt ≤ 7) : z_M l yX12_number wsX12_number { frames := 2, cells := 0, slots := 0, locals := 36 } [.ref (ad 0), .int a1, .int a2, .int a3] G (shM, ad, I, J, PM ad) (fun r u1 => u1 = (shM, ad, I, J, PM ad) ∧ (zi_R (zi_km I) (zi_kt I) a1.toInt a2.toInt (I 0 13).toNatClampNeg (zi_us (a3.toInt - 3)) (zi_am I (a3.toInt - 3)) r.toInt)) 0 0 := by
  intro sz
  refine z_headQ (cc := cX12_number) (maxL := 7) (ret := (some .int)) (by decide) rfl (Nat.le_of_ble_eq_true rfl) ?_
  intro p e s m below meth c0 ls hIn hK hsz hW hl
  obtain ⟨hx, hb, hr, hml, hown, hts, hlocks, hname⟩ := hIn
  subst hsz
  have hown : s.vm.findClass RX12 = some m.cls := hown
  have hA : ∀ q : Nat, s.heap.size ≤ q → z_A (shM, ad, I, J, PM ad) s.heap.size q := fun q h => Or.inr h
  generalize hAe : z_A (shM, ad, I, J, PM ad) s.heap.size = A at *
  have hS : va_S A s.heap s.heap [] := va_S.rf
  have hl : lv_has ls 7 [(0, .ref (ad 0)), (1, .int a1), (2, .int a2), (3, .int a3)] := hl
  refine lv_iload_n hx hb dX12_number_0 rfl (lv_at hl 3 rfl) ?_
  refine lv_iconst (v := 3) hx hb dX12_number_1 (by decide) ?_
  refine lv_icmp_ne (tgt := 10) hx hb dX12_number_2 (by decide) (fun c1 => ?_) (fun c1 => ?_)
  · have g2 := z_f_ne rfl z_l3 c1
    refine lv_iload_n hx hb dX12_number_10 rfl (lv_at hl 3 rfl) ?_
    refine lv_iconst (v := 4) hx hb dX12_number_11 (by decide) ?_
    refine lv_icmp_ne (tgt := 19) hx hb dX12_number_12 (by decide) (fun c3 => ?_) (fun c3 => ?_)
    · have g4 := z_f_ne rfl z_l4 c3
      refine lv_iload_n hx hb dX12_number_19 rfl (lv_at hl 3 rfl) ?_
      refine lv_iconst (v := 5) hx hb dX12_number_20 (by decide) ?_
      refine lv_icmp_ne (tgt := 28) hx hb dX12_number_21 (by decide) (fun c5 => ?_) (fun c5 => ?_)
      · have g6 := z_f_ne rfl z_l5 c5
        refine lv_iload_n hx hb dX12_number_28 rfl (lv_at hl 3 rfl) ?_
        refine lv_bipush (v := 6) hx hb dX12_number_29 (by decide) ?_
        refine lv_icmp_ne (tgt := 38) hx hb dX12_number_31 (by decide) (fun c7 => ?_) (fun c7 => ?_)
        · have g8 := z_f_ne rfl z_l6 c7
          refine lv_bipush (v := 20) hx hb dX12_number_38 (by decide) ?_
          refine lv_istore (lv' := [(4, .int 20), (0, .ref (ad 0)), (1, .int a1), (2, .int a2), (3, .int a3)]) hx hb dX12_number_40 hl (by decide) rfl (fun ls hl => ?_)
          refine lv_aload_n hx hb dX12_number_42 rfl (lv_at hl 1 rfl) ?_
          refine lv_iload_n hx hb dX12_number_43 rfl (lv_at hl 2 rfl) ?_
          refine lv_iload_n hx hb dX12_number_44 rfl (lv_at hl 3 rfl) ?_
          refine z_ci hW hS hA (va_runV (As := [.int a1, .int a2]) (rest := []) ⟨hx, hb, hml, hown, hts⟩ (sx_X12_inForce_x l G ad I J ⟨(by show 0 ≤ (I 0 13).toInt ∧ (I 0 13).toInt ≤ 12; exact hmb.1), (by show 0 ≤ (I 0 14).toInt ∧ (I 0 14).toInt ≤ 288; exact hmb.2)⟩ a1 a2 _) (cwV 2 hts gX12_number_X12_inForce rfl rfl rfl (by decide +kernel) ⟨Nat.le_of_ble_eq_true rfl, Nat.le_of_ble_eq_true rfl⟩) (z_preV (i := 0) hK hW rfl rfl) rfl rfl hl.1 rfl (lv_room (Nat.le_of_ble_eq_true rfl)) dX12_number_45 ⟨Nat.le_of_ble_eq_true rfl, Nat.le_of_ble_eq_true rfl⟩) (fun r u1 H locs hp hW hS => ?_)
          obtain ⟨e9, hp⟩ := hp
          rw [e9] at hW
          refine lv_topi (fun x9 ex9 => ?_)
          rw [← ex9] at hp
          obtain ⟨hB_x9, h11⟩ := hp
          refine lv_istore (lv' := [(5, .int x9), (4, .int 20), (0, .ref (ad 0)), (1, .int a1), (2, .int a2), (3, .int a3)]) hx hb dX12_number_48 hl (by decide) rfl (fun ls hl => ?_)
          refine lv_iload hx hb dX12_number_50 (lv_at hl 0 rfl) ?_
          refine lv_if_ge (tgt := 58) hx hb dX12_number_52 (by decide) (fun c12 => ?_) (fun c12 => ?_)
          · have g13 := z_f_ge rfl z_l0 c12
            refine lv_aload_n hx hb dX12_number_58 rfl (lv_at hl 2 rfl) ?_
            refine z_get (T := TX12) (N := 96) (ci := 12) (i := 0) (v := .ref (ad 11)) hx hb hts zj_X12_number_X12 hown hK hW rfl rfl 16 (by decide) (hts (.fieldLink RX12 40 "PetrolBoardModel" "textFirst" "[I") (me_s (me_l (List.mem_of_getElem? (i := 0) rfl)))) (fun _ h => h) rfl dX12_number_59 ?_
            refine lv_iload hx hb dX12_number_62 (lv_at hl 0 rfl) ?_
            refine z_iald (i := 11) hx hb hK hW rfl (z_ix rfl (by omega) (by omega)) dX12_number_64 ?_
            refine lv_topi (fun x14 ex14 => ?_)
            have h15 : 0 ≤ x14.toInt ∧ x14.toInt ≤ 288 := by rw [ex14]; exact hAtf _
            have h16 : (I 11 x9.toNatClampNeg).toInt = x14.toInt := by rw [ex14]
            refine lv_istore (lv' := [(6, .int x14), (5, .int x9), (4, .int 20), (0, .ref (ad 0)), (1, .int a1), (2, .int a2), (3, .int a3)]) hx hb dX12_number_65 hl (by decide) rfl (fun ls hl => ?_)
            have lp17 : ∀ (f : Nat) (y18 : Int32) (y19 : Int32) (H : Heap) (locs : List Loc) (ls : Array Slot), (2147483647 < y18.toInt + (f : Int)) → (0 ≤ y18.toInt) → (x14.toInt ≤ y18.toInt) → (∃ i : Nat, y18.toInt = (I 11 x9.toNatClampNeg).toInt + (i : Int) ∧ (i : Int) ≤ (I 12 x9.toNatClampNeg).toInt ∧ y19.toInt = zi_A (zi_kh I (I 11 x9.toNatClampNeg).toNatClampNeg) (zi_kn I (I 11 x9.toNatClampNeg).toNatClampNeg) a3.toInt (20 : Int) i) → z_W G A (shM, ad, I, J, PM ad) H → va_S A s.heap H locs → lv_has ls 7 [(6, .int y18), (5, .int x9), (4, .int y19), (0, .ref (ad 0)), (1, .int a1), (2, .int a2), (3, .int a3)] → W p l e (headSpec wsX12_number { frames := 2, cells := 0, slots := 0, locals := 36 }).room s m ([.ref (ad 0), .int a1, .int a2, .int a3] : List Value).toArray below meth c0 H locs 0 0 (MQ below (va_Qi (fun (r : Int32) (u1 : z_U) => u1 = (shM, ad, I, J, PM ad) ∧ (zi_R (zi_km I) (zi_kt I) a1.toInt a2.toInt (I 0 13).toNatClampNeg (zi_us (a3.toInt - 3)) (zi_am I (a3.toInt - 3)) r.toInt)) (z_B G A) A) ([.ref (ad 0), .int a1, .int a2, .int a3] : List Value).toArray s 0 0 A) (F0 m 67 ls []) := by
              intro f
              induction f with
              | zero => intro y18 y19 H locs ls lp17m lp17l6 lp17z lp17B hW hS hl; exact absurd lp17m (by have := Int32.toInt_lt y18; have := Int32.le_toInt y18; omega)
              | succ f lp17ih =>
                intro y18 y19 H locs ls lp17m lp17l6 lp17z lp17B hW hS hl
                refine lv_iload hx hb dX12_number_67 (lv_at hl 0 rfl) ?_
                refine lv_aload_n hx hb dX12_number_69 rfl (lv_at hl 3 rfl) ?_
                refine z_get (T := TX12) (N := 96) (ci := 12) (i := 0) (v := .ref (ad 11)) hx hb hts zj_X12_number_X12 hown hK hW rfl rfl 16 (by decide) (hts (.fieldLink RX12 40 "PetrolBoardModel" "textFirst" "[I") (me_s (me_l (List.mem_of_getElem? (i := 0) rfl)))) (fun _ h => h) rfl dX12_number_70 ?_
                refine lv_iload hx hb dX12_number_73 (lv_at hl 1 rfl) ?_
                refine z_iald (i := 11) hx hb hK hW rfl (z_ix rfl (by omega) (by omega)) dX12_number_75 ?_
                refine z_topi (v := x14) ex14.symm ?_
                refine lv_aload_n hx hb dX12_number_76 rfl (lv_at hl 3 rfl) ?_
                refine z_get (T := TX12) (N := 96) (ci := 12) (i := 0) (v := .ref (ad 12)) hx hb hts zj_X12_number_X12 hown hK hW rfl rfl 17 (by decide) (hts (.fieldLink RX12 43 "PetrolBoardModel" "textMany" "[I") (me_s (me_l (List.mem_of_getElem? (i := 1) rfl)))) (fun _ h => h) rfl dX12_number_77 ?_
                refine lv_iload hx hb dX12_number_80 (lv_at hl 1 rfl) ?_
                refine z_iald (i := 12) hx hb hK hW rfl (z_ix rfl (by omega) (by omega)) dX12_number_82 ?_
                refine lv_topi (fun x20 ex20 => ?_)
                have h21 : 0 ≤ x20.toInt ∧ x20.toInt ≤ 24 := by rw [ex20]; exact hAtm _
                have h22 : (I 12 x9.toNatClampNeg).toInt = x20.toInt := by rw [ex20]
                refine lv_iadd hx hb dX12_number_83 ?_
                refine lv_topi (fun x23 ex23 => ?_)
                have tx23 : x23.toInt = x14.toInt + x20.toInt := z_tadd ex23 rfl rfl (by omega) (by omega)
                refine lv_icmp_ge (tgt := 113) hx hb dX12_number_84 (by decide) (fun c24 => ?_) (fun c24 => ?_)
                · have g25 := z_f_ge rfl rfl c24
                  have b26 := Int32.toInt_lt y18
                  refine lv_iload hx hb dX12_number_113 (lv_at hl 2 rfl) ?_
                  exact z_iret hx hb hr hK hS (Nat.le_of_ble_eq_true rfl) (Nat.le_of_ble_eq_true rfl) hlocks dX12_number_115 (shM, ad, I, J, PM ad) hW ⟨rfl, ⟨x9.toInt, hB_x9, Or.inr ⟨x9.toNatClampNeg, z_clt (x := x9) rfl (by omega), by have z9 := z_clt (x := x9) rfl (by omega); rcases hB_x9 with ⟨z1, _⟩ | ⟨q9, z1, z2, _⟩ <;> omega, by obtain ⟨i9, hi9, hn9, hB9⟩ := lp17B; have m9 := z_clt (x := (I 12 x9.toNatClampNeg)) rfl (by omega); unfold zi_am; rw [show 3 + (a3.toInt - 3) = a3.toInt by omega, (show zi_us (a3.toInt - 3) = (20 : Int) from zi_us_4 (by omega)), show (I 12 x9.toNatClampNeg).toNatClampNeg = i9 by omega]; exact hB9⟩⟩⟩
                · have g27 := z_f_nge rfl rfl c24
                  have b28 := Int32.toInt_lt y18
                  refine lv_aload_n hx hb dX12_number_87 rfl (lv_at hl 3 rfl) ?_
                  refine z_get (T := TX12) (N := 96) (ci := 12) (i := 0) (v := .ref (ad 15)) hx hb hts zj_X12_number_X12 hown hK hW rfl rfl 20 (by decide) (hts (.fieldLink RX12 52 "PetrolBoardModel" "stRule" "[I") (me_s (me_l (List.mem_of_getElem? (i := 2) rfl)))) (fun _ h => h) rfl dX12_number_88 ?_
                  refine lv_iload hx hb dX12_number_91 (lv_at hl 0 rfl) ?_
                  refine z_iald (i := 15) hx hb hK hW rfl (z_ix rfl (by omega) (by omega)) dX12_number_93 ?_
                  refine lv_topi (fun x29 ex29 => ?_)
                  refine lv_iload_n hx hb dX12_number_94 rfl (lv_at hl 6 rfl) ?_
                  refine lv_icmp_ne (tgt := 107) hx hb dX12_number_95 (by decide) (fun c30 => ?_) (fun c30 => ?_)
                  · have g31 := z_f_ne rfl rfl c30
                    have b32 := Int32.toInt_lt x29
                    obtain ⟨x33, ex33⟩ : ∃ y : Int32, y = y18 + 1 := ⟨_, rfl⟩
                    have tx33 : x33.toInt = y18.toInt + 1 := z_tadd ex33 rfl z_l1 (by omega) (by omega)
                    refine lv_iinc (v := x33) (lv' := [(6, .int x33), (5, .int x9), (4, .int y19), (0, .ref (ad 0)), (1, .int a1), (2, .int a2), (3, .int a3)]) hx hb dX12_number_107 hl (k := 0) rfl (by rw [ex33]; rfl) (by decide) rfl (fun ls hl => ?_)
                    refine lv_goto (tgt := 67) hx hb dX12_number_110 (by decide) ?_
                    exact lp17ih x33 y19 _ _ _ (by omega) (by omega) (by omega) (by obtain ⟨i9, hi9, hn9, hB9⟩ := lp17B; have c9 := z_clt (x := (I 11 x9.toNatClampNeg)) rfl (by omega); have d9 := z_clt (x := y18) rfl (by omega); have e9 : (I 11 x9.toNatClampNeg).toNatClampNeg + i9 = y18.toNatClampNeg := (by omega); have q9 : zi_kh I (I 11 x9.toNatClampNeg).toNatClampNeg i9 = x29.toInt := (by unfold zi_kh; rw [e9, ex29]); exact ⟨i9 + 1, by omega, by omega, by rw [zi_A_n (by omega)]; exact hB9⟩) hW hS (lv_sub hl [0, 1, 2, 3, 4, 5, 6] rfl)
                  · have g34 := z_f_eq rfl rfl c30
                    have b35 := Int32.toInt_lt x29
                    refine lv_aload_n hx hb dX12_number_98 rfl (lv_at hl 3 rfl) ?_
                    refine z_get (T := TX12) (N := 96) (ci := 12) (i := 0) (v := .ref (ad 16)) hx hb hts zj_X12_number_X12 hown hK hW rfl rfl 21 (by decide) (hts (.fieldLink RX12 55 "PetrolBoardModel" "stNumber" "[I") (me_s (me_l (List.mem_of_getElem? (i := 3) rfl)))) (fun _ h => h) rfl dX12_number_99 ?_
                    refine lv_iload hx hb dX12_number_102 (lv_at hl 0 rfl) ?_
                    refine z_iald (i := 16) hx hb hK hW rfl (z_ix rfl (by omega) (by omega)) dX12_number_104 ?_
                    refine lv_topi (fun x36 ex36 => ?_)
                    refine lv_istore (lv' := [(4, .int x36), (6, .int y18), (5, .int x9), (0, .ref (ad 0)), (1, .int a1), (2, .int a2), (3, .int a3)]) hx hb dX12_number_105 hl (by decide) rfl (fun ls hl => ?_)
                    obtain ⟨x37, ex37⟩ : ∃ y : Int32, y = y18 + 1 := ⟨_, rfl⟩
                    have tx37 : x37.toInt = y18.toInt + 1 := z_tadd ex37 rfl z_l1 (by omega) (by omega)
                    refine lv_iinc (v := x37) (lv' := [(6, .int x37), (4, .int x36), (5, .int x9), (0, .ref (ad 0)), (1, .int a1), (2, .int a2), (3, .int a3)]) hx hb dX12_number_107 hl (k := 1) rfl (by rw [ex37]; rfl) (by decide) rfl (fun ls hl => ?_)
                    refine lv_goto (tgt := 67) hx hb dX12_number_110 (by decide) ?_
                    exact lp17ih x37 x36 _ _ _ (by omega) (by omega) (by omega) (by obtain ⟨i9, hi9, hn9, hB9⟩ := lp17B; have c9 := z_clt (x := (I 11 x9.toNatClampNeg)) rfl (by omega); have d9 := z_clt (x := y18) rfl (by omega); have e9 : (I 11 x9.toNatClampNeg).toNatClampNeg + i9 = y18.toNatClampNeg := (by omega); have q9 : zi_kh I (I 11 x9.toNatClampNeg).toNatClampNeg i9 = x29.toInt := (by unfold zi_kh; rw [e9, ex29]); have p9 : zi_kn I (I 11 x9.toNatClampNeg).toNatClampNeg i9 = x36.toInt := (by unfold zi_kn; rw [e9, ex36]); exact ⟨i9 + 1, by omega, by omega, by rw [zi_A_y (by omega)]; exact p9.symm⟩) hW hS (lv_sub hl [0, 2, 1, 3, 4, 5, 6] rfl)
            exact lp17 4294967296 x14 (20) _ _ _ (z_m0u _) (by omega) (by omega) ⟨0, by omega, by have q9 := hAtm x9.toNatClampNeg; omega, by show _ = (20 : Int); first | omega | decide⟩ hW hS (lv_sub hl [0, 1, 2, 3, 4, 5, 6] rfl)
          · have g38 := z_f_nge rfl z_l0 c12
            refine lv_iload hx hb dX12_number_55 (lv_at hl 1 rfl) ?_
            exact z_iret hx hb hr hK hS (Nat.le_of_ble_eq_true rfl) (Nat.le_of_ble_eq_true rfl) hlocks dX12_number_57 (shM, ad, I, J, PM ad) hW ⟨rfl, ⟨x9.toInt, hB_x9, Or.inl ⟨by omega, by rw [(show zi_us (a3.toInt - 3) = (20 : Int) from zi_us_4 (by omega))]; first | omega | decide⟩⟩⟩
        · have g39 := z_f_eq rfl z_l6 c7
          refine lv_iconst (v := 0) hx hb dX12_number_34 (by decide) ?_
          refine lv_goto (tgt := 40) hx hb dX12_number_35 (by decide) ?_
          refine lv_istore (lv' := [(4, .int 0), (0, .ref (ad 0)), (1, .int a1), (2, .int a2), (3, .int a3)]) hx hb dX12_number_40 hl (by decide) rfl (fun ls hl => ?_)
          refine lv_aload_n hx hb dX12_number_42 rfl (lv_at hl 1 rfl) ?_
          refine lv_iload_n hx hb dX12_number_43 rfl (lv_at hl 2 rfl) ?_
          refine lv_iload_n hx hb dX12_number_44 rfl (lv_at hl 3 rfl) ?_
          refine z_ci hW hS hA (va_runV (As := [.int a1, .int a2]) (rest := []) ⟨hx, hb, hml, hown, hts⟩ (sx_X12_inForce_x l G ad I J ⟨(by show 0 ≤ (I 0 13).toInt ∧ (I 0 13).toInt ≤ 12; exact hmb.1), (by show 0 ≤ (I 0 14).toInt ∧ (I 0 14).toInt ≤ 288; exact hmb.2)⟩ a1 a2 _) (cwV 2 hts gX12_number_X12_inForce rfl rfl rfl (by decide +kernel) ⟨Nat.le_of_ble_eq_true rfl, Nat.le_of_ble_eq_true rfl⟩) (z_preV (i := 0) hK hW rfl rfl) rfl rfl hl.1 rfl (lv_room (Nat.le_of_ble_eq_true rfl)) dX12_number_45 ⟨Nat.le_of_ble_eq_true rfl, Nat.le_of_ble_eq_true rfl⟩) (fun r u1 H locs hp hW hS => ?_)
          obtain ⟨e9, hp⟩ := hp
          rw [e9] at hW
          refine lv_topi (fun x40 ex40 => ?_)
          rw [← ex40] at hp
          obtain ⟨hB_x40, h41⟩ := hp
          refine lv_istore (lv' := [(5, .int x40), (4, .int 0), (0, .ref (ad 0)), (1, .int a1), (2, .int a2), (3, .int a3)]) hx hb dX12_number_48 hl (by decide) rfl (fun ls hl => ?_)
          refine lv_iload hx hb dX12_number_50 (lv_at hl 0 rfl) ?_
          refine lv_if_ge (tgt := 58) hx hb dX12_number_52 (by decide) (fun c42 => ?_) (fun c42 => ?_)
          · have g43 := z_f_ge rfl z_l0 c42
            refine lv_aload_n hx hb dX12_number_58 rfl (lv_at hl 2 rfl) ?_
            refine z_get (T := TX12) (N := 96) (ci := 12) (i := 0) (v := .ref (ad 11)) hx hb hts zj_X12_number_X12 hown hK hW rfl rfl 16 (by decide) (hts (.fieldLink RX12 40 "PetrolBoardModel" "textFirst" "[I") (me_s (me_l (List.mem_of_getElem? (i := 0) rfl)))) (fun _ h => h) rfl dX12_number_59 ?_
            refine lv_iload hx hb dX12_number_62 (lv_at hl 0 rfl) ?_
            refine z_iald (i := 11) hx hb hK hW rfl (z_ix rfl (by omega) (by omega)) dX12_number_64 ?_
            refine lv_topi (fun x44 ex44 => ?_)
            have h45 : 0 ≤ x44.toInt ∧ x44.toInt ≤ 288 := by rw [ex44]; exact hAtf _
            have h46 : (I 11 x40.toNatClampNeg).toInt = x44.toInt := by rw [ex44]
            refine lv_istore (lv' := [(6, .int x44), (5, .int x40), (4, .int 0), (0, .ref (ad 0)), (1, .int a1), (2, .int a2), (3, .int a3)]) hx hb dX12_number_65 hl (by decide) rfl (fun ls hl => ?_)
            have lp47 : ∀ (f : Nat) (y48 : Int32) (y49 : Int32) (H : Heap) (locs : List Loc) (ls : Array Slot), (2147483647 < y48.toInt + (f : Int)) → (0 ≤ y48.toInt) → (x44.toInt ≤ y48.toInt) → (∃ i : Nat, y48.toInt = (I 11 x40.toNatClampNeg).toInt + (i : Int) ∧ (i : Int) ≤ (I 12 x40.toNatClampNeg).toInt ∧ y49.toInt = zi_A (zi_kh I (I 11 x40.toNatClampNeg).toNatClampNeg) (zi_kn I (I 11 x40.toNatClampNeg).toNatClampNeg) a3.toInt (0 : Int) i) → z_W G A (shM, ad, I, J, PM ad) H → va_S A s.heap H locs → lv_has ls 7 [(6, .int y48), (5, .int x40), (4, .int y49), (0, .ref (ad 0)), (1, .int a1), (2, .int a2), (3, .int a3)] → W p l e (headSpec wsX12_number { frames := 2, cells := 0, slots := 0, locals := 36 }).room s m ([.ref (ad 0), .int a1, .int a2, .int a3] : List Value).toArray below meth c0 H locs 0 0 (MQ below (va_Qi (fun (r : Int32) (u1 : z_U) => u1 = (shM, ad, I, J, PM ad) ∧ (zi_R (zi_km I) (zi_kt I) a1.toInt a2.toInt (I 0 13).toNatClampNeg (zi_us (a3.toInt - 3)) (zi_am I (a3.toInt - 3)) r.toInt)) (z_B G A) A) ([.ref (ad 0), .int a1, .int a2, .int a3] : List Value).toArray s 0 0 A) (F0 m 67 ls []) := by
              intro f
              induction f with
              | zero => intro y48 y49 H locs ls lp47m lp47l6 lp47z lp47B hW hS hl; exact absurd lp47m (by have := Int32.toInt_lt y48; have := Int32.le_toInt y48; omega)
              | succ f lp47ih =>
                intro y48 y49 H locs ls lp47m lp47l6 lp47z lp47B hW hS hl
                refine lv_iload hx hb dX12_number_67 (lv_at hl 0 rfl) ?_
                refine lv_aload_n hx hb dX12_number_69 rfl (lv_at hl 3 rfl) ?_
                refine z_get (T := TX12) (N := 96) (ci := 12) (i := 0) (v := .ref (ad 11)) hx hb hts zj_X12_number_X12 hown hK hW rfl rfl 16 (by decide) (hts (.fieldLink RX12 40 "PetrolBoardModel" "textFirst" "[I") (me_s (me_l (List.mem_of_getElem? (i := 0) rfl)))) (fun _ h => h) rfl dX12_number_70 ?_
                refine lv_iload hx hb dX12_number_73 (lv_at hl 1 rfl) ?_
                refine z_iald (i := 11) hx hb hK hW rfl (z_ix rfl (by omega) (by omega)) dX12_number_75 ?_
                refine z_topi (v := x44) ex44.symm ?_
                refine lv_aload_n hx hb dX12_number_76 rfl (lv_at hl 3 rfl) ?_
                refine z_get (T := TX12) (N := 96) (ci := 12) (i := 0) (v := .ref (ad 12)) hx hb hts zj_X12_number_X12 hown hK hW rfl rfl 17 (by decide) (hts (.fieldLink RX12 43 "PetrolBoardModel" "textMany" "[I") (me_s (me_l (List.mem_of_getElem? (i := 1) rfl)))) (fun _ h => h) rfl dX12_number_77 ?_
                refine lv_iload hx hb dX12_number_80 (lv_at hl 1 rfl) ?_
                refine z_iald (i := 12) hx hb hK hW rfl (z_ix rfl (by omega) (by omega)) dX12_number_82 ?_
                refine lv_topi (fun x50 ex50 => ?_)
                have h51 : 0 ≤ x50.toInt ∧ x50.toInt ≤ 24 := by rw [ex50]; exact hAtm _
                have h52 : (I 12 x40.toNatClampNeg).toInt = x50.toInt := by rw [ex50]
                refine lv_iadd hx hb dX12_number_83 ?_
                refine lv_topi (fun x53 ex53 => ?_)
                have tx53 : x53.toInt = x44.toInt + x50.toInt := z_tadd ex53 rfl rfl (by omega) (by omega)
                refine lv_icmp_ge (tgt := 113) hx hb dX12_number_84 (by decide) (fun c54 => ?_) (fun c54 => ?_)
                · have g55 := z_f_ge rfl rfl c54
                  have b56 := Int32.toInt_lt y48
                  refine lv_iload hx hb dX12_number_113 (lv_at hl 2 rfl) ?_
                  exact z_iret hx hb hr hK hS (Nat.le_of_ble_eq_true rfl) (Nat.le_of_ble_eq_true rfl) hlocks dX12_number_115 (shM, ad, I, J, PM ad) hW ⟨rfl, ⟨x40.toInt, hB_x40, Or.inr ⟨x40.toNatClampNeg, z_clt (x := x40) rfl (by omega), by have z9 := z_clt (x := x40) rfl (by omega); rcases hB_x40 with ⟨z1, _⟩ | ⟨q9, z1, z2, _⟩ <;> omega, by obtain ⟨i9, hi9, hn9, hB9⟩ := lp47B; have m9 := z_clt (x := (I 12 x40.toNatClampNeg)) rfl (by omega); unfold zi_am; rw [show 3 + (a3.toInt - 3) = a3.toInt by omega, (show zi_us (a3.toInt - 3) = (0 : Int) from zi_us_3 (by omega)), show (I 12 x40.toNatClampNeg).toNatClampNeg = i9 by omega]; exact hB9⟩⟩⟩
                · have g57 := z_f_nge rfl rfl c54
                  have b58 := Int32.toInt_lt y48
                  refine lv_aload_n hx hb dX12_number_87 rfl (lv_at hl 3 rfl) ?_
                  refine z_get (T := TX12) (N := 96) (ci := 12) (i := 0) (v := .ref (ad 15)) hx hb hts zj_X12_number_X12 hown hK hW rfl rfl 20 (by decide) (hts (.fieldLink RX12 52 "PetrolBoardModel" "stRule" "[I") (me_s (me_l (List.mem_of_getElem? (i := 2) rfl)))) (fun _ h => h) rfl dX12_number_88 ?_
                  refine lv_iload hx hb dX12_number_91 (lv_at hl 0 rfl) ?_
                  refine z_iald (i := 15) hx hb hK hW rfl (z_ix rfl (by omega) (by omega)) dX12_number_93 ?_
                  refine lv_topi (fun x59 ex59 => ?_)
                  refine lv_iload_n hx hb dX12_number_94 rfl (lv_at hl 6 rfl) ?_
                  refine lv_icmp_ne (tgt := 107) hx hb dX12_number_95 (by decide) (fun c60 => ?_) (fun c60 => ?_)
                  · have g61 := z_f_ne rfl rfl c60
                    have b62 := Int32.toInt_lt x59
                    obtain ⟨x63, ex63⟩ : ∃ y : Int32, y = y48 + 1 := ⟨_, rfl⟩
                    have tx63 : x63.toInt = y48.toInt + 1 := z_tadd ex63 rfl z_l1 (by omega) (by omega)
                    refine lv_iinc (v := x63) (lv' := [(6, .int x63), (5, .int x40), (4, .int y49), (0, .ref (ad 0)), (1, .int a1), (2, .int a2), (3, .int a3)]) hx hb dX12_number_107 hl (k := 0) rfl (by rw [ex63]; rfl) (by decide) rfl (fun ls hl => ?_)
                    refine lv_goto (tgt := 67) hx hb dX12_number_110 (by decide) ?_
                    exact lp47ih x63 y49 _ _ _ (by omega) (by omega) (by omega) (by obtain ⟨i9, hi9, hn9, hB9⟩ := lp47B; have c9 := z_clt (x := (I 11 x40.toNatClampNeg)) rfl (by omega); have d9 := z_clt (x := y48) rfl (by omega); have e9 : (I 11 x40.toNatClampNeg).toNatClampNeg + i9 = y48.toNatClampNeg := (by omega); have q9 : zi_kh I (I 11 x40.toNatClampNeg).toNatClampNeg i9 = x59.toInt := (by unfold zi_kh; rw [e9, ex59]); exact ⟨i9 + 1, by omega, by omega, by rw [zi_A_n (by omega)]; exact hB9⟩) hW hS (lv_sub hl [0, 1, 2, 3, 4, 5, 6] rfl)
                  · have g64 := z_f_eq rfl rfl c60
                    have b65 := Int32.toInt_lt x59
                    refine lv_aload_n hx hb dX12_number_98 rfl (lv_at hl 3 rfl) ?_
                    refine z_get (T := TX12) (N := 96) (ci := 12) (i := 0) (v := .ref (ad 16)) hx hb hts zj_X12_number_X12 hown hK hW rfl rfl 21 (by decide) (hts (.fieldLink RX12 55 "PetrolBoardModel" "stNumber" "[I") (me_s (me_l (List.mem_of_getElem? (i := 3) rfl)))) (fun _ h => h) rfl dX12_number_99 ?_
                    refine lv_iload hx hb dX12_number_102 (lv_at hl 0 rfl) ?_
                    refine z_iald (i := 16) hx hb hK hW rfl (z_ix rfl (by omega) (by omega)) dX12_number_104 ?_
                    refine lv_topi (fun x66 ex66 => ?_)
                    refine lv_istore (lv' := [(4, .int x66), (6, .int y48), (5, .int x40), (0, .ref (ad 0)), (1, .int a1), (2, .int a2), (3, .int a3)]) hx hb dX12_number_105 hl (by decide) rfl (fun ls hl => ?_)
                    obtain ⟨x67, ex67⟩ : ∃ y : Int32, y = y48 + 1 := ⟨_, rfl⟩
                    have tx67 : x67.toInt = y48.toInt + 1 := z_tadd ex67 rfl z_l1 (by omega) (by omega)
                    refine lv_iinc (v := x67) (lv' := [(6, .int x67), (4, .int x66), (5, .int x40), (0, .ref (ad 0)), (1, .int a1), (2, .int a2), (3, .int a3)]) hx hb dX12_number_107 hl (k := 1) rfl (by rw [ex67]; rfl) (by decide) rfl (fun ls hl => ?_)
                    refine lv_goto (tgt := 67) hx hb dX12_number_110 (by decide) ?_
                    exact lp47ih x67 x66 _ _ _ (by omega) (by omega) (by omega) (by obtain ⟨i9, hi9, hn9, hB9⟩ := lp47B; have c9 := z_clt (x := (I 11 x40.toNatClampNeg)) rfl (by omega); have d9 := z_clt (x := y48) rfl (by omega); have e9 : (I 11 x40.toNatClampNeg).toNatClampNeg + i9 = y48.toNatClampNeg := (by omega); have q9 : zi_kh I (I 11 x40.toNatClampNeg).toNatClampNeg i9 = x59.toInt := (by unfold zi_kh; rw [e9, ex59]); have p9 : zi_kn I (I 11 x40.toNatClampNeg).toNatClampNeg i9 = x66.toInt := (by unfold zi_kn; rw [e9, ex66]); exact ⟨i9 + 1, by omega, by omega, by rw [zi_A_y (by omega)]; exact p9.symm⟩) hW hS (lv_sub hl [0, 2, 1, 3, 4, 5, 6] rfl)
            exact lp47 4294967296 x44 (0) _ _ _ (z_m0u _) (by omega) (by omega) ⟨0, by omega, by have q9 := hAtm x40.toNatClampNeg; omega, by show _ = (0 : Int); first | omega | decide⟩ hW hS (lv_sub hl [0, 1, 2, 3, 4, 5, 6] rfl)
          · have g68 := z_f_nge rfl z_l0 c42
            refine lv_iload hx hb dX12_number_55 (lv_at hl 1 rfl) ?_
            exact z_iret hx hb hr hK hS (Nat.le_of_ble_eq_true rfl) (Nat.le_of_ble_eq_true rfl) hlocks dX12_number_57 (shM, ad, I, J, PM ad) hW ⟨rfl, ⟨x40.toInt, hB_x40, Or.inl ⟨by omega, by rw [(show zi_us (a3.toInt - 3) = (0 : Int) from zi_us_3 (by omega))]; first | omega | decide⟩⟩⟩
      · have g69 := z_f_eq rfl z_l5 c5
        refine lv_iconst (v := 5) hx hb dX12_number_24 (by decide) ?_
        refine lv_goto (tgt := 40) hx hb dX12_number_25 (by decide) ?_
        refine lv_istore (lv' := [(4, .int 5), (0, .ref (ad 0)), (1, .int a1), (2, .int a2), (3, .int a3)]) hx hb dX12_number_40 hl (by decide) rfl (fun ls hl => ?_)
        refine lv_aload_n hx hb dX12_number_42 rfl (lv_at hl 1 rfl) ?_
        refine lv_iload_n hx hb dX12_number_43 rfl (lv_at hl 2 rfl) ?_
        refine lv_iload_n hx hb dX12_number_44 rfl (lv_at hl 3 rfl) ?_
        refine z_ci hW hS hA (va_runV (As := [.int a1, .int a2]) (rest := []) ⟨hx, hb, hml, hown, hts⟩ (sx_X12_inForce_x l G ad I J ⟨(by show 0 ≤ (I 0 13).toInt ∧ (I 0 13).toInt ≤ 12; exact hmb.1), (by show 0 ≤ (I 0 14).toInt ∧ (I 0 14).toInt ≤ 288; exact hmb.2)⟩ a1 a2 _) (cwV 2 hts gX12_number_X12_inForce rfl rfl rfl (by decide +kernel) ⟨Nat.le_of_ble_eq_true rfl, Nat.le_of_ble_eq_true rfl⟩) (z_preV (i := 0) hK hW rfl rfl) rfl rfl hl.1 rfl (lv_room (Nat.le_of_ble_eq_true rfl)) dX12_number_45 ⟨Nat.le_of_ble_eq_true rfl, Nat.le_of_ble_eq_true rfl⟩) (fun r u1 H locs hp hW hS => ?_)
        obtain ⟨e9, hp⟩ := hp
        rw [e9] at hW
        refine lv_topi (fun x70 ex70 => ?_)
        rw [← ex70] at hp
        obtain ⟨hB_x70, h71⟩ := hp
        refine lv_istore (lv' := [(5, .int x70), (4, .int 5), (0, .ref (ad 0)), (1, .int a1), (2, .int a2), (3, .int a3)]) hx hb dX12_number_48 hl (by decide) rfl (fun ls hl => ?_)
        refine lv_iload hx hb dX12_number_50 (lv_at hl 0 rfl) ?_
        refine lv_if_ge (tgt := 58) hx hb dX12_number_52 (by decide) (fun c72 => ?_) (fun c72 => ?_)
        · have g73 := z_f_ge rfl z_l0 c72
          refine lv_aload_n hx hb dX12_number_58 rfl (lv_at hl 2 rfl) ?_
          refine z_get (T := TX12) (N := 96) (ci := 12) (i := 0) (v := .ref (ad 11)) hx hb hts zj_X12_number_X12 hown hK hW rfl rfl 16 (by decide) (hts (.fieldLink RX12 40 "PetrolBoardModel" "textFirst" "[I") (me_s (me_l (List.mem_of_getElem? (i := 0) rfl)))) (fun _ h => h) rfl dX12_number_59 ?_
          refine lv_iload hx hb dX12_number_62 (lv_at hl 0 rfl) ?_
          refine z_iald (i := 11) hx hb hK hW rfl (z_ix rfl (by omega) (by omega)) dX12_number_64 ?_
          refine lv_topi (fun x74 ex74 => ?_)
          have h75 : 0 ≤ x74.toInt ∧ x74.toInt ≤ 288 := by rw [ex74]; exact hAtf _
          have h76 : (I 11 x70.toNatClampNeg).toInt = x74.toInt := by rw [ex74]
          refine lv_istore (lv' := [(6, .int x74), (5, .int x70), (4, .int 5), (0, .ref (ad 0)), (1, .int a1), (2, .int a2), (3, .int a3)]) hx hb dX12_number_65 hl (by decide) rfl (fun ls hl => ?_)
          have lp77 : ∀ (f : Nat) (y78 : Int32) (y79 : Int32) (H : Heap) (locs : List Loc) (ls : Array Slot), (2147483647 < y78.toInt + (f : Int)) → (0 ≤ y78.toInt) → (x74.toInt ≤ y78.toInt) → (∃ i : Nat, y78.toInt = (I 11 x70.toNatClampNeg).toInt + (i : Int) ∧ (i : Int) ≤ (I 12 x70.toNatClampNeg).toInt ∧ y79.toInt = zi_A (zi_kh I (I 11 x70.toNatClampNeg).toNatClampNeg) (zi_kn I (I 11 x70.toNatClampNeg).toNatClampNeg) a3.toInt (5 : Int) i) → z_W G A (shM, ad, I, J, PM ad) H → va_S A s.heap H locs → lv_has ls 7 [(6, .int y78), (5, .int x70), (4, .int y79), (0, .ref (ad 0)), (1, .int a1), (2, .int a2), (3, .int a3)] → W p l e (headSpec wsX12_number { frames := 2, cells := 0, slots := 0, locals := 36 }).room s m ([.ref (ad 0), .int a1, .int a2, .int a3] : List Value).toArray below meth c0 H locs 0 0 (MQ below (va_Qi (fun (r : Int32) (u1 : z_U) => u1 = (shM, ad, I, J, PM ad) ∧ (zi_R (zi_km I) (zi_kt I) a1.toInt a2.toInt (I 0 13).toNatClampNeg (zi_us (a3.toInt - 3)) (zi_am I (a3.toInt - 3)) r.toInt)) (z_B G A) A) ([.ref (ad 0), .int a1, .int a2, .int a3] : List Value).toArray s 0 0 A) (F0 m 67 ls []) := by
            intro f
            induction f with
            | zero => intro y78 y79 H locs ls lp77m lp77l6 lp77z lp77B hW hS hl; exact absurd lp77m (by have := Int32.toInt_lt y78; have := Int32.le_toInt y78; omega)
            | succ f lp77ih =>
              intro y78 y79 H locs ls lp77m lp77l6 lp77z lp77B hW hS hl
              refine lv_iload hx hb dX12_number_67 (lv_at hl 0 rfl) ?_
              refine lv_aload_n hx hb dX12_number_69 rfl (lv_at hl 3 rfl) ?_
              refine z_get (T := TX12) (N := 96) (ci := 12) (i := 0) (v := .ref (ad 11)) hx hb hts zj_X12_number_X12 hown hK hW rfl rfl 16 (by decide) (hts (.fieldLink RX12 40 "PetrolBoardModel" "textFirst" "[I") (me_s (me_l (List.mem_of_getElem? (i := 0) rfl)))) (fun _ h => h) rfl dX12_number_70 ?_
              refine lv_iload hx hb dX12_number_73 (lv_at hl 1 rfl) ?_
              refine z_iald (i := 11) hx hb hK hW rfl (z_ix rfl (by omega) (by omega)) dX12_number_75 ?_
              refine z_topi (v := x74) ex74.symm ?_
              refine lv_aload_n hx hb dX12_number_76 rfl (lv_at hl 3 rfl) ?_
              refine z_get (T := TX12) (N := 96) (ci := 12) (i := 0) (v := .ref (ad 12)) hx hb hts zj_X12_number_X12 hown hK hW rfl rfl 17 (by decide) (hts (.fieldLink RX12 43 "PetrolBoardModel" "textMany" "[I") (me_s (me_l (List.mem_of_getElem? (i := 1) rfl)))) (fun _ h => h) rfl dX12_number_77 ?_
              refine lv_iload hx hb dX12_number_80 (lv_at hl 1 rfl) ?_
              refine z_iald (i := 12) hx hb hK hW rfl (z_ix rfl (by omega) (by omega)) dX12_number_82 ?_
              refine lv_topi (fun x80 ex80 => ?_)
              have h81 : 0 ≤ x80.toInt ∧ x80.toInt ≤ 24 := by rw [ex80]; exact hAtm _
              have h82 : (I 12 x70.toNatClampNeg).toInt = x80.toInt := by rw [ex80]
              refine lv_iadd hx hb dX12_number_83 ?_
              refine lv_topi (fun x83 ex83 => ?_)
              have tx83 : x83.toInt = x74.toInt + x80.toInt := z_tadd ex83 rfl rfl (by omega) (by omega)
              refine lv_icmp_ge (tgt := 113) hx hb dX12_number_84 (by decide) (fun c84 => ?_) (fun c84 => ?_)
              · have g85 := z_f_ge rfl rfl c84
                have b86 := Int32.toInt_lt y78
                refine lv_iload hx hb dX12_number_113 (lv_at hl 2 rfl) ?_
                exact z_iret hx hb hr hK hS (Nat.le_of_ble_eq_true rfl) (Nat.le_of_ble_eq_true rfl) hlocks dX12_number_115 (shM, ad, I, J, PM ad) hW ⟨rfl, ⟨x70.toInt, hB_x70, Or.inr ⟨x70.toNatClampNeg, z_clt (x := x70) rfl (by omega), by have z9 := z_clt (x := x70) rfl (by omega); rcases hB_x70 with ⟨z1, _⟩ | ⟨q9, z1, z2, _⟩ <;> omega, by obtain ⟨i9, hi9, hn9, hB9⟩ := lp77B; have m9 := z_clt (x := (I 12 x70.toNatClampNeg)) rfl (by omega); unfold zi_am; rw [show 3 + (a3.toInt - 3) = a3.toInt by omega, (show zi_us (a3.toInt - 3) = (5 : Int) from zi_us_2 (by omega)), show (I 12 x70.toNatClampNeg).toNatClampNeg = i9 by omega]; exact hB9⟩⟩⟩
              · have g87 := z_f_nge rfl rfl c84
                have b88 := Int32.toInt_lt y78
                refine lv_aload_n hx hb dX12_number_87 rfl (lv_at hl 3 rfl) ?_
                refine z_get (T := TX12) (N := 96) (ci := 12) (i := 0) (v := .ref (ad 15)) hx hb hts zj_X12_number_X12 hown hK hW rfl rfl 20 (by decide) (hts (.fieldLink RX12 52 "PetrolBoardModel" "stRule" "[I") (me_s (me_l (List.mem_of_getElem? (i := 2) rfl)))) (fun _ h => h) rfl dX12_number_88 ?_
                refine lv_iload hx hb dX12_number_91 (lv_at hl 0 rfl) ?_
                refine z_iald (i := 15) hx hb hK hW rfl (z_ix rfl (by omega) (by omega)) dX12_number_93 ?_
                refine lv_topi (fun x89 ex89 => ?_)
                refine lv_iload_n hx hb dX12_number_94 rfl (lv_at hl 6 rfl) ?_
                refine lv_icmp_ne (tgt := 107) hx hb dX12_number_95 (by decide) (fun c90 => ?_) (fun c90 => ?_)
                · have g91 := z_f_ne rfl rfl c90
                  have b92 := Int32.toInt_lt x89
                  obtain ⟨x93, ex93⟩ : ∃ y : Int32, y = y78 + 1 := ⟨_, rfl⟩
                  have tx93 : x93.toInt = y78.toInt + 1 := z_tadd ex93 rfl z_l1 (by omega) (by omega)
                  refine lv_iinc (v := x93) (lv' := [(6, .int x93), (5, .int x70), (4, .int y79), (0, .ref (ad 0)), (1, .int a1), (2, .int a2), (3, .int a3)]) hx hb dX12_number_107 hl (k := 0) rfl (by rw [ex93]; rfl) (by decide) rfl (fun ls hl => ?_)
                  refine lv_goto (tgt := 67) hx hb dX12_number_110 (by decide) ?_
                  exact lp77ih x93 y79 _ _ _ (by omega) (by omega) (by omega) (by obtain ⟨i9, hi9, hn9, hB9⟩ := lp77B; have c9 := z_clt (x := (I 11 x70.toNatClampNeg)) rfl (by omega); have d9 := z_clt (x := y78) rfl (by omega); have e9 : (I 11 x70.toNatClampNeg).toNatClampNeg + i9 = y78.toNatClampNeg := (by omega); have q9 : zi_kh I (I 11 x70.toNatClampNeg).toNatClampNeg i9 = x89.toInt := (by unfold zi_kh; rw [e9, ex89]); exact ⟨i9 + 1, by omega, by omega, by rw [zi_A_n (by omega)]; exact hB9⟩) hW hS (lv_sub hl [0, 1, 2, 3, 4, 5, 6] rfl)
                · have g94 := z_f_eq rfl rfl c90
                  have b95 := Int32.toInt_lt x89
                  refine lv_aload_n hx hb dX12_number_98 rfl (lv_at hl 3 rfl) ?_
                  refine z_get (T := TX12) (N := 96) (ci := 12) (i := 0) (v := .ref (ad 16)) hx hb hts zj_X12_number_X12 hown hK hW rfl rfl 21 (by decide) (hts (.fieldLink RX12 55 "PetrolBoardModel" "stNumber" "[I") (me_s (me_l (List.mem_of_getElem? (i := 3) rfl)))) (fun _ h => h) rfl dX12_number_99 ?_
                  refine lv_iload hx hb dX12_number_102 (lv_at hl 0 rfl) ?_
                  refine z_iald (i := 16) hx hb hK hW rfl (z_ix rfl (by omega) (by omega)) dX12_number_104 ?_
                  refine lv_topi (fun x96 ex96 => ?_)
                  refine lv_istore (lv' := [(4, .int x96), (6, .int y78), (5, .int x70), (0, .ref (ad 0)), (1, .int a1), (2, .int a2), (3, .int a3)]) hx hb dX12_number_105 hl (by decide) rfl (fun ls hl => ?_)
                  obtain ⟨x97, ex97⟩ : ∃ y : Int32, y = y78 + 1 := ⟨_, rfl⟩
                  have tx97 : x97.toInt = y78.toInt + 1 := z_tadd ex97 rfl z_l1 (by omega) (by omega)
                  refine lv_iinc (v := x97) (lv' := [(6, .int x97), (4, .int x96), (5, .int x70), (0, .ref (ad 0)), (1, .int a1), (2, .int a2), (3, .int a3)]) hx hb dX12_number_107 hl (k := 1) rfl (by rw [ex97]; rfl) (by decide) rfl (fun ls hl => ?_)
                  refine lv_goto (tgt := 67) hx hb dX12_number_110 (by decide) ?_
                  exact lp77ih x97 x96 _ _ _ (by omega) (by omega) (by omega) (by obtain ⟨i9, hi9, hn9, hB9⟩ := lp77B; have c9 := z_clt (x := (I 11 x70.toNatClampNeg)) rfl (by omega); have d9 := z_clt (x := y78) rfl (by omega); have e9 : (I 11 x70.toNatClampNeg).toNatClampNeg + i9 = y78.toNatClampNeg := (by omega); have q9 : zi_kh I (I 11 x70.toNatClampNeg).toNatClampNeg i9 = x89.toInt := (by unfold zi_kh; rw [e9, ex89]); have p9 : zi_kn I (I 11 x70.toNatClampNeg).toNatClampNeg i9 = x96.toInt := (by unfold zi_kn; rw [e9, ex96]); exact ⟨i9 + 1, by omega, by omega, by rw [zi_A_y (by omega)]; exact p9.symm⟩) hW hS (lv_sub hl [0, 2, 1, 3, 4, 5, 6] rfl)
          exact lp77 4294967296 x74 (5) _ _ _ (z_m0u _) (by omega) (by omega) ⟨0, by omega, by have q9 := hAtm x70.toNatClampNeg; omega, by show _ = (5 : Int); first | omega | decide⟩ hW hS (lv_sub hl [0, 1, 2, 3, 4, 5, 6] rfl)
        · have g98 := z_f_nge rfl z_l0 c72
          refine lv_iload hx hb dX12_number_55 (lv_at hl 1 rfl) ?_
          exact z_iret hx hb hr hK hS (Nat.le_of_ble_eq_true rfl) (Nat.le_of_ble_eq_true rfl) hlocks dX12_number_57 (shM, ad, I, J, PM ad) hW ⟨rfl, ⟨x70.toInt, hB_x70, Or.inl ⟨by omega, by rw [(show zi_us (a3.toInt - 3) = (5 : Int) from zi_us_2 (by omega))]; first | omega | decide⟩⟩⟩
    · have g99 := z_f_eq rfl z_l4 c3
      refine lv_iconst (v := 1) hx hb dX12_number_15 (by decide) ?_
      refine lv_goto (tgt := 40) hx hb dX12_number_16 (by decide) ?_
      refine lv_istore (lv' := [(4, .int 1), (0, .ref (ad 0)), (1, .int a1), (2, .int a2), (3, .int a3)]) hx hb dX12_number_40 hl (by decide) rfl (fun ls hl => ?_)
      refine lv_aload_n hx hb dX12_number_42 rfl (lv_at hl 1 rfl) ?_
      refine lv_iload_n hx hb dX12_number_43 rfl (lv_at hl 2 rfl) ?_
      refine lv_iload_n hx hb dX12_number_44 rfl (lv_at hl 3 rfl) ?_
      refine z_ci hW hS hA (va_runV (As := [.int a1, .int a2]) (rest := []) ⟨hx, hb, hml, hown, hts⟩ (sx_X12_inForce_x l G ad I J ⟨(by show 0 ≤ (I 0 13).toInt ∧ (I 0 13).toInt ≤ 12; exact hmb.1), (by show 0 ≤ (I 0 14).toInt ∧ (I 0 14).toInt ≤ 288; exact hmb.2)⟩ a1 a2 _) (cwV 2 hts gX12_number_X12_inForce rfl rfl rfl (by decide +kernel) ⟨Nat.le_of_ble_eq_true rfl, Nat.le_of_ble_eq_true rfl⟩) (z_preV (i := 0) hK hW rfl rfl) rfl rfl hl.1 rfl (lv_room (Nat.le_of_ble_eq_true rfl)) dX12_number_45 ⟨Nat.le_of_ble_eq_true rfl, Nat.le_of_ble_eq_true rfl⟩) (fun r u1 H locs hp hW hS => ?_)
      obtain ⟨e9, hp⟩ := hp
      rw [e9] at hW
      refine lv_topi (fun x100 ex100 => ?_)
      rw [← ex100] at hp
      obtain ⟨hB_x100, h101⟩ := hp
      refine lv_istore (lv' := [(5, .int x100), (4, .int 1), (0, .ref (ad 0)), (1, .int a1), (2, .int a2), (3, .int a3)]) hx hb dX12_number_48 hl (by decide) rfl (fun ls hl => ?_)
      refine lv_iload hx hb dX12_number_50 (lv_at hl 0 rfl) ?_
      refine lv_if_ge (tgt := 58) hx hb dX12_number_52 (by decide) (fun c102 => ?_) (fun c102 => ?_)
      · have g103 := z_f_ge rfl z_l0 c102
        refine lv_aload_n hx hb dX12_number_58 rfl (lv_at hl 2 rfl) ?_
        refine z_get (T := TX12) (N := 96) (ci := 12) (i := 0) (v := .ref (ad 11)) hx hb hts zj_X12_number_X12 hown hK hW rfl rfl 16 (by decide) (hts (.fieldLink RX12 40 "PetrolBoardModel" "textFirst" "[I") (me_s (me_l (List.mem_of_getElem? (i := 0) rfl)))) (fun _ h => h) rfl dX12_number_59 ?_
        refine lv_iload hx hb dX12_number_62 (lv_at hl 0 rfl) ?_
        refine z_iald (i := 11) hx hb hK hW rfl (z_ix rfl (by omega) (by omega)) dX12_number_64 ?_
        refine lv_topi (fun x104 ex104 => ?_)
        have h105 : 0 ≤ x104.toInt ∧ x104.toInt ≤ 288 := by rw [ex104]; exact hAtf _
        have h106 : (I 11 x100.toNatClampNeg).toInt = x104.toInt := by rw [ex104]
        refine lv_istore (lv' := [(6, .int x104), (5, .int x100), (4, .int 1), (0, .ref (ad 0)), (1, .int a1), (2, .int a2), (3, .int a3)]) hx hb dX12_number_65 hl (by decide) rfl (fun ls hl => ?_)
        have lp107 : ∀ (f : Nat) (y108 : Int32) (y109 : Int32) (H : Heap) (locs : List Loc) (ls : Array Slot), (2147483647 < y108.toInt + (f : Int)) → (0 ≤ y108.toInt) → (x104.toInt ≤ y108.toInt) → (∃ i : Nat, y108.toInt = (I 11 x100.toNatClampNeg).toInt + (i : Int) ∧ (i : Int) ≤ (I 12 x100.toNatClampNeg).toInt ∧ y109.toInt = zi_A (zi_kh I (I 11 x100.toNatClampNeg).toNatClampNeg) (zi_kn I (I 11 x100.toNatClampNeg).toNatClampNeg) a3.toInt (1 : Int) i) → z_W G A (shM, ad, I, J, PM ad) H → va_S A s.heap H locs → lv_has ls 7 [(6, .int y108), (5, .int x100), (4, .int y109), (0, .ref (ad 0)), (1, .int a1), (2, .int a2), (3, .int a3)] → W p l e (headSpec wsX12_number { frames := 2, cells := 0, slots := 0, locals := 36 }).room s m ([.ref (ad 0), .int a1, .int a2, .int a3] : List Value).toArray below meth c0 H locs 0 0 (MQ below (va_Qi (fun (r : Int32) (u1 : z_U) => u1 = (shM, ad, I, J, PM ad) ∧ (zi_R (zi_km I) (zi_kt I) a1.toInt a2.toInt (I 0 13).toNatClampNeg (zi_us (a3.toInt - 3)) (zi_am I (a3.toInt - 3)) r.toInt)) (z_B G A) A) ([.ref (ad 0), .int a1, .int a2, .int a3] : List Value).toArray s 0 0 A) (F0 m 67 ls []) := by
          intro f
          induction f with
          | zero => intro y108 y109 H locs ls lp107m lp107l6 lp107z lp107B hW hS hl; exact absurd lp107m (by have := Int32.toInt_lt y108; have := Int32.le_toInt y108; omega)
          | succ f lp107ih =>
            intro y108 y109 H locs ls lp107m lp107l6 lp107z lp107B hW hS hl
            refine lv_iload hx hb dX12_number_67 (lv_at hl 0 rfl) ?_
            refine lv_aload_n hx hb dX12_number_69 rfl (lv_at hl 3 rfl) ?_
            refine z_get (T := TX12) (N := 96) (ci := 12) (i := 0) (v := .ref (ad 11)) hx hb hts zj_X12_number_X12 hown hK hW rfl rfl 16 (by decide) (hts (.fieldLink RX12 40 "PetrolBoardModel" "textFirst" "[I") (me_s (me_l (List.mem_of_getElem? (i := 0) rfl)))) (fun _ h => h) rfl dX12_number_70 ?_
            refine lv_iload hx hb dX12_number_73 (lv_at hl 1 rfl) ?_
            refine z_iald (i := 11) hx hb hK hW rfl (z_ix rfl (by omega) (by omega)) dX12_number_75 ?_
            refine z_topi (v := x104) ex104.symm ?_
            refine lv_aload_n hx hb dX12_number_76 rfl (lv_at hl 3 rfl) ?_
            refine z_get (T := TX12) (N := 96) (ci := 12) (i := 0) (v := .ref (ad 12)) hx hb hts zj_X12_number_X12 hown hK hW rfl rfl 17 (by decide) (hts (.fieldLink RX12 43 "PetrolBoardModel" "textMany" "[I") (me_s (me_l (List.mem_of_getElem? (i := 1) rfl)))) (fun _ h => h) rfl dX12_number_77 ?_
            refine lv_iload hx hb dX12_number_80 (lv_at hl 1 rfl) ?_
            refine z_iald (i := 12) hx hb hK hW rfl (z_ix rfl (by omega) (by omega)) dX12_number_82 ?_
            refine lv_topi (fun x110 ex110 => ?_)
            have h111 : 0 ≤ x110.toInt ∧ x110.toInt ≤ 24 := by rw [ex110]; exact hAtm _
            have h112 : (I 12 x100.toNatClampNeg).toInt = x110.toInt := by rw [ex110]
            refine lv_iadd hx hb dX12_number_83 ?_
            refine lv_topi (fun x113 ex113 => ?_)
            have tx113 : x113.toInt = x104.toInt + x110.toInt := z_tadd ex113 rfl rfl (by omega) (by omega)
            refine lv_icmp_ge (tgt := 113) hx hb dX12_number_84 (by decide) (fun c114 => ?_) (fun c114 => ?_)
            · have g115 := z_f_ge rfl rfl c114
              have b116 := Int32.toInt_lt y108
              refine lv_iload hx hb dX12_number_113 (lv_at hl 2 rfl) ?_
              exact z_iret hx hb hr hK hS (Nat.le_of_ble_eq_true rfl) (Nat.le_of_ble_eq_true rfl) hlocks dX12_number_115 (shM, ad, I, J, PM ad) hW ⟨rfl, ⟨x100.toInt, hB_x100, Or.inr ⟨x100.toNatClampNeg, z_clt (x := x100) rfl (by omega), by have z9 := z_clt (x := x100) rfl (by omega); rcases hB_x100 with ⟨z1, _⟩ | ⟨q9, z1, z2, _⟩ <;> omega, by obtain ⟨i9, hi9, hn9, hB9⟩ := lp107B; have m9 := z_clt (x := (I 12 x100.toNatClampNeg)) rfl (by omega); unfold zi_am; rw [show 3 + (a3.toInt - 3) = a3.toInt by omega, (show zi_us (a3.toInt - 3) = (1 : Int) from zi_us_1 (by omega)), show (I 12 x100.toNatClampNeg).toNatClampNeg = i9 by omega]; exact hB9⟩⟩⟩
            · have g117 := z_f_nge rfl rfl c114
              have b118 := Int32.toInt_lt y108
              refine lv_aload_n hx hb dX12_number_87 rfl (lv_at hl 3 rfl) ?_
              refine z_get (T := TX12) (N := 96) (ci := 12) (i := 0) (v := .ref (ad 15)) hx hb hts zj_X12_number_X12 hown hK hW rfl rfl 20 (by decide) (hts (.fieldLink RX12 52 "PetrolBoardModel" "stRule" "[I") (me_s (me_l (List.mem_of_getElem? (i := 2) rfl)))) (fun _ h => h) rfl dX12_number_88 ?_
              refine lv_iload hx hb dX12_number_91 (lv_at hl 0 rfl) ?_
              refine z_iald (i := 15) hx hb hK hW rfl (z_ix rfl (by omega) (by omega)) dX12_number_93 ?_
              refine lv_topi (fun x119 ex119 => ?_)
              refine lv_iload_n hx hb dX12_number_94 rfl (lv_at hl 6 rfl) ?_
              refine lv_icmp_ne (tgt := 107) hx hb dX12_number_95 (by decide) (fun c120 => ?_) (fun c120 => ?_)
              · have g121 := z_f_ne rfl rfl c120
                have b122 := Int32.toInt_lt x119
                obtain ⟨x123, ex123⟩ : ∃ y : Int32, y = y108 + 1 := ⟨_, rfl⟩
                have tx123 : x123.toInt = y108.toInt + 1 := z_tadd ex123 rfl z_l1 (by omega) (by omega)
                refine lv_iinc (v := x123) (lv' := [(6, .int x123), (5, .int x100), (4, .int y109), (0, .ref (ad 0)), (1, .int a1), (2, .int a2), (3, .int a3)]) hx hb dX12_number_107 hl (k := 0) rfl (by rw [ex123]; rfl) (by decide) rfl (fun ls hl => ?_)
                refine lv_goto (tgt := 67) hx hb dX12_number_110 (by decide) ?_
                exact lp107ih x123 y109 _ _ _ (by omega) (by omega) (by omega) (by obtain ⟨i9, hi9, hn9, hB9⟩ := lp107B; have c9 := z_clt (x := (I 11 x100.toNatClampNeg)) rfl (by omega); have d9 := z_clt (x := y108) rfl (by omega); have e9 : (I 11 x100.toNatClampNeg).toNatClampNeg + i9 = y108.toNatClampNeg := (by omega); have q9 : zi_kh I (I 11 x100.toNatClampNeg).toNatClampNeg i9 = x119.toInt := (by unfold zi_kh; rw [e9, ex119]); exact ⟨i9 + 1, by omega, by omega, by rw [zi_A_n (by omega)]; exact hB9⟩) hW hS (lv_sub hl [0, 1, 2, 3, 4, 5, 6] rfl)
              · have g124 := z_f_eq rfl rfl c120
                have b125 := Int32.toInt_lt x119
                refine lv_aload_n hx hb dX12_number_98 rfl (lv_at hl 3 rfl) ?_
                refine z_get (T := TX12) (N := 96) (ci := 12) (i := 0) (v := .ref (ad 16)) hx hb hts zj_X12_number_X12 hown hK hW rfl rfl 21 (by decide) (hts (.fieldLink RX12 55 "PetrolBoardModel" "stNumber" "[I") (me_s (me_l (List.mem_of_getElem? (i := 3) rfl)))) (fun _ h => h) rfl dX12_number_99 ?_
                refine lv_iload hx hb dX12_number_102 (lv_at hl 0 rfl) ?_
                refine z_iald (i := 16) hx hb hK hW rfl (z_ix rfl (by omega) (by omega)) dX12_number_104 ?_
                refine lv_topi (fun x126 ex126 => ?_)
                refine lv_istore (lv' := [(4, .int x126), (6, .int y108), (5, .int x100), (0, .ref (ad 0)), (1, .int a1), (2, .int a2), (3, .int a3)]) hx hb dX12_number_105 hl (by decide) rfl (fun ls hl => ?_)
                obtain ⟨x127, ex127⟩ : ∃ y : Int32, y = y108 + 1 := ⟨_, rfl⟩
                have tx127 : x127.toInt = y108.toInt + 1 := z_tadd ex127 rfl z_l1 (by omega) (by omega)
                refine lv_iinc (v := x127) (lv' := [(6, .int x127), (4, .int x126), (5, .int x100), (0, .ref (ad 0)), (1, .int a1), (2, .int a2), (3, .int a3)]) hx hb dX12_number_107 hl (k := 1) rfl (by rw [ex127]; rfl) (by decide) rfl (fun ls hl => ?_)
                refine lv_goto (tgt := 67) hx hb dX12_number_110 (by decide) ?_
                exact lp107ih x127 x126 _ _ _ (by omega) (by omega) (by omega) (by obtain ⟨i9, hi9, hn9, hB9⟩ := lp107B; have c9 := z_clt (x := (I 11 x100.toNatClampNeg)) rfl (by omega); have d9 := z_clt (x := y108) rfl (by omega); have e9 : (I 11 x100.toNatClampNeg).toNatClampNeg + i9 = y108.toNatClampNeg := (by omega); have q9 : zi_kh I (I 11 x100.toNatClampNeg).toNatClampNeg i9 = x119.toInt := (by unfold zi_kh; rw [e9, ex119]); have p9 : zi_kn I (I 11 x100.toNatClampNeg).toNatClampNeg i9 = x126.toInt := (by unfold zi_kn; rw [e9, ex126]); exact ⟨i9 + 1, by omega, by omega, by rw [zi_A_y (by omega)]; exact p9.symm⟩) hW hS (lv_sub hl [0, 2, 1, 3, 4, 5, 6] rfl)
        exact lp107 4294967296 x104 (1) _ _ _ (z_m0u _) (by omega) (by omega) ⟨0, by omega, by have q9 := hAtm x100.toNatClampNeg; omega, by show _ = (1 : Int); first | omega | decide⟩ hW hS (lv_sub hl [0, 1, 2, 3, 4, 5, 6] rfl)
      · have g128 := z_f_nge rfl z_l0 c102
        refine lv_iload hx hb dX12_number_55 (lv_at hl 1 rfl) ?_
        exact z_iret hx hb hr hK hS (Nat.le_of_ble_eq_true rfl) (Nat.le_of_ble_eq_true rfl) hlocks dX12_number_57 (shM, ad, I, J, PM ad) hW ⟨rfl, ⟨x100.toInt, hB_x100, Or.inl ⟨by omega, by rw [(show zi_us (a3.toInt - 3) = (1 : Int) from zi_us_1 (by omega))]; first | omega | decide⟩⟩⟩
  · have g129 := z_f_eq rfl z_l3 c1
    refine lv_bipush (v := 10) hx hb dX12_number_5 (by decide) ?_
    refine lv_goto (tgt := 40) hx hb dX12_number_7 (by decide) ?_
    refine lv_istore (lv' := [(4, .int 10), (0, .ref (ad 0)), (1, .int a1), (2, .int a2), (3, .int a3)]) hx hb dX12_number_40 hl (by decide) rfl (fun ls hl => ?_)
    refine lv_aload_n hx hb dX12_number_42 rfl (lv_at hl 1 rfl) ?_
    refine lv_iload_n hx hb dX12_number_43 rfl (lv_at hl 2 rfl) ?_
    refine lv_iload_n hx hb dX12_number_44 rfl (lv_at hl 3 rfl) ?_
    refine z_ci hW hS hA (va_runV (As := [.int a1, .int a2]) (rest := []) ⟨hx, hb, hml, hown, hts⟩ (sx_X12_inForce_x l G ad I J ⟨(by show 0 ≤ (I 0 13).toInt ∧ (I 0 13).toInt ≤ 12; exact hmb.1), (by show 0 ≤ (I 0 14).toInt ∧ (I 0 14).toInt ≤ 288; exact hmb.2)⟩ a1 a2 _) (cwV 2 hts gX12_number_X12_inForce rfl rfl rfl (by decide +kernel) ⟨Nat.le_of_ble_eq_true rfl, Nat.le_of_ble_eq_true rfl⟩) (z_preV (i := 0) hK hW rfl rfl) rfl rfl hl.1 rfl (lv_room (Nat.le_of_ble_eq_true rfl)) dX12_number_45 ⟨Nat.le_of_ble_eq_true rfl, Nat.le_of_ble_eq_true rfl⟩) (fun r u1 H locs hp hW hS => ?_)
    obtain ⟨e9, hp⟩ := hp
    rw [e9] at hW
    refine lv_topi (fun x130 ex130 => ?_)
    rw [← ex130] at hp
    obtain ⟨hB_x130, h131⟩ := hp
    refine lv_istore (lv' := [(5, .int x130), (4, .int 10), (0, .ref (ad 0)), (1, .int a1), (2, .int a2), (3, .int a3)]) hx hb dX12_number_48 hl (by decide) rfl (fun ls hl => ?_)
    refine lv_iload hx hb dX12_number_50 (lv_at hl 0 rfl) ?_
    refine lv_if_ge (tgt := 58) hx hb dX12_number_52 (by decide) (fun c132 => ?_) (fun c132 => ?_)
    · have g133 := z_f_ge rfl z_l0 c132
      refine lv_aload_n hx hb dX12_number_58 rfl (lv_at hl 2 rfl) ?_
      refine z_get (T := TX12) (N := 96) (ci := 12) (i := 0) (v := .ref (ad 11)) hx hb hts zj_X12_number_X12 hown hK hW rfl rfl 16 (by decide) (hts (.fieldLink RX12 40 "PetrolBoardModel" "textFirst" "[I") (me_s (me_l (List.mem_of_getElem? (i := 0) rfl)))) (fun _ h => h) rfl dX12_number_59 ?_
      refine lv_iload hx hb dX12_number_62 (lv_at hl 0 rfl) ?_
      refine z_iald (i := 11) hx hb hK hW rfl (z_ix rfl (by omega) (by omega)) dX12_number_64 ?_
      refine lv_topi (fun x134 ex134 => ?_)
      have h135 : 0 ≤ x134.toInt ∧ x134.toInt ≤ 288 := by rw [ex134]; exact hAtf _
      have h136 : (I 11 x130.toNatClampNeg).toInt = x134.toInt := by rw [ex134]
      refine lv_istore (lv' := [(6, .int x134), (5, .int x130), (4, .int 10), (0, .ref (ad 0)), (1, .int a1), (2, .int a2), (3, .int a3)]) hx hb dX12_number_65 hl (by decide) rfl (fun ls hl => ?_)
      have lp137 : ∀ (f : Nat) (y138 : Int32) (y139 : Int32) (H : Heap) (locs : List Loc) (ls : Array Slot), (2147483647 < y138.toInt + (f : Int)) → (0 ≤ y138.toInt) → (x134.toInt ≤ y138.toInt) → (∃ i : Nat, y138.toInt = (I 11 x130.toNatClampNeg).toInt + (i : Int) ∧ (i : Int) ≤ (I 12 x130.toNatClampNeg).toInt ∧ y139.toInt = zi_A (zi_kh I (I 11 x130.toNatClampNeg).toNatClampNeg) (zi_kn I (I 11 x130.toNatClampNeg).toNatClampNeg) a3.toInt (10 : Int) i) → z_W G A (shM, ad, I, J, PM ad) H → va_S A s.heap H locs → lv_has ls 7 [(6, .int y138), (5, .int x130), (4, .int y139), (0, .ref (ad 0)), (1, .int a1), (2, .int a2), (3, .int a3)] → W p l e (headSpec wsX12_number { frames := 2, cells := 0, slots := 0, locals := 36 }).room s m ([.ref (ad 0), .int a1, .int a2, .int a3] : List Value).toArray below meth c0 H locs 0 0 (MQ below (va_Qi (fun (r : Int32) (u1 : z_U) => u1 = (shM, ad, I, J, PM ad) ∧ (zi_R (zi_km I) (zi_kt I) a1.toInt a2.toInt (I 0 13).toNatClampNeg (zi_us (a3.toInt - 3)) (zi_am I (a3.toInt - 3)) r.toInt)) (z_B G A) A) ([.ref (ad 0), .int a1, .int a2, .int a3] : List Value).toArray s 0 0 A) (F0 m 67 ls []) := by
        intro f
        induction f with
        | zero => intro y138 y139 H locs ls lp137m lp137l6 lp137z lp137B hW hS hl; exact absurd lp137m (by have := Int32.toInt_lt y138; have := Int32.le_toInt y138; omega)
        | succ f lp137ih =>
          intro y138 y139 H locs ls lp137m lp137l6 lp137z lp137B hW hS hl
          refine lv_iload hx hb dX12_number_67 (lv_at hl 0 rfl) ?_
          refine lv_aload_n hx hb dX12_number_69 rfl (lv_at hl 3 rfl) ?_
          refine z_get (T := TX12) (N := 96) (ci := 12) (i := 0) (v := .ref (ad 11)) hx hb hts zj_X12_number_X12 hown hK hW rfl rfl 16 (by decide) (hts (.fieldLink RX12 40 "PetrolBoardModel" "textFirst" "[I") (me_s (me_l (List.mem_of_getElem? (i := 0) rfl)))) (fun _ h => h) rfl dX12_number_70 ?_
          refine lv_iload hx hb dX12_number_73 (lv_at hl 1 rfl) ?_
          refine z_iald (i := 11) hx hb hK hW rfl (z_ix rfl (by omega) (by omega)) dX12_number_75 ?_
          refine z_topi (v := x134) ex134.symm ?_
          refine lv_aload_n hx hb dX12_number_76 rfl (lv_at hl 3 rfl) ?_
          refine z_get (T := TX12) (N := 96) (ci := 12) (i := 0) (v := .ref (ad 12)) hx hb hts zj_X12_number_X12 hown hK hW rfl rfl 17 (by decide) (hts (.fieldLink RX12 43 "PetrolBoardModel" "textMany" "[I") (me_s (me_l (List.mem_of_getElem? (i := 1) rfl)))) (fun _ h => h) rfl dX12_number_77 ?_
          refine lv_iload hx hb dX12_number_80 (lv_at hl 1 rfl) ?_
          refine z_iald (i := 12) hx hb hK hW rfl (z_ix rfl (by omega) (by omega)) dX12_number_82 ?_
          refine lv_topi (fun x140 ex140 => ?_)
          have h141 : 0 ≤ x140.toInt ∧ x140.toInt ≤ 24 := by rw [ex140]; exact hAtm _
          have h142 : (I 12 x130.toNatClampNeg).toInt = x140.toInt := by rw [ex140]
          refine lv_iadd hx hb dX12_number_83 ?_
          refine lv_topi (fun x143 ex143 => ?_)
          have tx143 : x143.toInt = x134.toInt + x140.toInt := z_tadd ex143 rfl rfl (by omega) (by omega)
          refine lv_icmp_ge (tgt := 113) hx hb dX12_number_84 (by decide) (fun c144 => ?_) (fun c144 => ?_)
          · have g145 := z_f_ge rfl rfl c144
            have b146 := Int32.toInt_lt y138
            refine lv_iload hx hb dX12_number_113 (lv_at hl 2 rfl) ?_
            exact z_iret hx hb hr hK hS (Nat.le_of_ble_eq_true rfl) (Nat.le_of_ble_eq_true rfl) hlocks dX12_number_115 (shM, ad, I, J, PM ad) hW ⟨rfl, ⟨x130.toInt, hB_x130, Or.inr ⟨x130.toNatClampNeg, z_clt (x := x130) rfl (by omega), by have z9 := z_clt (x := x130) rfl (by omega); rcases hB_x130 with ⟨z1, _⟩ | ⟨q9, z1, z2, _⟩ <;> omega, by obtain ⟨i9, hi9, hn9, hB9⟩ := lp137B; have m9 := z_clt (x := (I 12 x130.toNatClampNeg)) rfl (by omega); unfold zi_am; rw [show 3 + (a3.toInt - 3) = a3.toInt by omega, (show zi_us (a3.toInt - 3) = (10 : Int) from zi_us_0 (by omega)), show (I 12 x130.toNatClampNeg).toNatClampNeg = i9 by omega]; exact hB9⟩⟩⟩
          · have g147 := z_f_nge rfl rfl c144
            have b148 := Int32.toInt_lt y138
            refine lv_aload_n hx hb dX12_number_87 rfl (lv_at hl 3 rfl) ?_
            refine z_get (T := TX12) (N := 96) (ci := 12) (i := 0) (v := .ref (ad 15)) hx hb hts zj_X12_number_X12 hown hK hW rfl rfl 20 (by decide) (hts (.fieldLink RX12 52 "PetrolBoardModel" "stRule" "[I") (me_s (me_l (List.mem_of_getElem? (i := 2) rfl)))) (fun _ h => h) rfl dX12_number_88 ?_
            refine lv_iload hx hb dX12_number_91 (lv_at hl 0 rfl) ?_
            refine z_iald (i := 15) hx hb hK hW rfl (z_ix rfl (by omega) (by omega)) dX12_number_93 ?_
            refine lv_topi (fun x149 ex149 => ?_)
            refine lv_iload_n hx hb dX12_number_94 rfl (lv_at hl 6 rfl) ?_
            refine lv_icmp_ne (tgt := 107) hx hb dX12_number_95 (by decide) (fun c150 => ?_) (fun c150 => ?_)
            · have g151 := z_f_ne rfl rfl c150
              have b152 := Int32.toInt_lt x149
              obtain ⟨x153, ex153⟩ : ∃ y : Int32, y = y138 + 1 := ⟨_, rfl⟩
              have tx153 : x153.toInt = y138.toInt + 1 := z_tadd ex153 rfl z_l1 (by omega) (by omega)
              refine lv_iinc (v := x153) (lv' := [(6, .int x153), (5, .int x130), (4, .int y139), (0, .ref (ad 0)), (1, .int a1), (2, .int a2), (3, .int a3)]) hx hb dX12_number_107 hl (k := 0) rfl (by rw [ex153]; rfl) (by decide) rfl (fun ls hl => ?_)
              refine lv_goto (tgt := 67) hx hb dX12_number_110 (by decide) ?_
              exact lp137ih x153 y139 _ _ _ (by omega) (by omega) (by omega) (by obtain ⟨i9, hi9, hn9, hB9⟩ := lp137B; have c9 := z_clt (x := (I 11 x130.toNatClampNeg)) rfl (by omega); have d9 := z_clt (x := y138) rfl (by omega); have e9 : (I 11 x130.toNatClampNeg).toNatClampNeg + i9 = y138.toNatClampNeg := (by omega); have q9 : zi_kh I (I 11 x130.toNatClampNeg).toNatClampNeg i9 = x149.toInt := (by unfold zi_kh; rw [e9, ex149]); exact ⟨i9 + 1, by omega, by omega, by rw [zi_A_n (by omega)]; exact hB9⟩) hW hS (lv_sub hl [0, 1, 2, 3, 4, 5, 6] rfl)
            · have g154 := z_f_eq rfl rfl c150
              have b155 := Int32.toInt_lt x149
              refine lv_aload_n hx hb dX12_number_98 rfl (lv_at hl 3 rfl) ?_
              refine z_get (T := TX12) (N := 96) (ci := 12) (i := 0) (v := .ref (ad 16)) hx hb hts zj_X12_number_X12 hown hK hW rfl rfl 21 (by decide) (hts (.fieldLink RX12 55 "PetrolBoardModel" "stNumber" "[I") (me_s (me_l (List.mem_of_getElem? (i := 3) rfl)))) (fun _ h => h) rfl dX12_number_99 ?_
              refine lv_iload hx hb dX12_number_102 (lv_at hl 0 rfl) ?_
              refine z_iald (i := 16) hx hb hK hW rfl (z_ix rfl (by omega) (by omega)) dX12_number_104 ?_
              refine lv_topi (fun x156 ex156 => ?_)
              refine lv_istore (lv' := [(4, .int x156), (6, .int y138), (5, .int x130), (0, .ref (ad 0)), (1, .int a1), (2, .int a2), (3, .int a3)]) hx hb dX12_number_105 hl (by decide) rfl (fun ls hl => ?_)
              obtain ⟨x157, ex157⟩ : ∃ y : Int32, y = y138 + 1 := ⟨_, rfl⟩
              have tx157 : x157.toInt = y138.toInt + 1 := z_tadd ex157 rfl z_l1 (by omega) (by omega)
              refine lv_iinc (v := x157) (lv' := [(6, .int x157), (4, .int x156), (5, .int x130), (0, .ref (ad 0)), (1, .int a1), (2, .int a2), (3, .int a3)]) hx hb dX12_number_107 hl (k := 1) rfl (by rw [ex157]; rfl) (by decide) rfl (fun ls hl => ?_)
              refine lv_goto (tgt := 67) hx hb dX12_number_110 (by decide) ?_
              exact lp137ih x157 x156 _ _ _ (by omega) (by omega) (by omega) (by obtain ⟨i9, hi9, hn9, hB9⟩ := lp137B; have c9 := z_clt (x := (I 11 x130.toNatClampNeg)) rfl (by omega); have d9 := z_clt (x := y138) rfl (by omega); have e9 : (I 11 x130.toNatClampNeg).toNatClampNeg + i9 = y138.toNatClampNeg := (by omega); have q9 : zi_kh I (I 11 x130.toNatClampNeg).toNatClampNeg i9 = x149.toInt := (by unfold zi_kh; rw [e9, ex149]); have p9 : zi_kn I (I 11 x130.toNatClampNeg).toNatClampNeg i9 = x156.toInt := (by unfold zi_kn; rw [e9, ex156]); exact ⟨i9 + 1, by omega, by omega, by rw [zi_A_y (by omega)]; exact p9.symm⟩) hW hS (lv_sub hl [0, 2, 1, 3, 4, 5, 6] rfl)
      exact lp137 4294967296 x134 (10) _ _ _ (z_m0u _) (by omega) (by omega) ⟨0, by omega, by have q9 := hAtm x130.toNatClampNeg; omega, by show _ = (10 : Int); first | omega | decide⟩ hW hS (lv_sub hl [0, 1, 2, 3, 4, 5, 6] rfl)
    · have g158 := z_f_nge rfl z_l0 c132
      refine lv_iload hx hb dX12_number_55 (lv_at hl 1 rfl) ?_
      exact z_iret hx hb hr hK hS (Nat.le_of_ble_eq_true rfl) (Nat.le_of_ble_eq_true rfl) hlocks dX12_number_57 (shM, ad, I, J, PM ad) hW ⟨rfl, ⟨x130.toInt, hB_x130, Or.inl ⟨by omega, by rw [(show zi_us (a3.toInt - 3) = (10 : Int) from zi_us_0 (by omega))]; first | omega | decide⟩⟩⟩
