

/-! a text of the reference -/
noncomputable def zm_F (gt gv : Nat → Int) (ss : List zp_T) (ke ff : Nat) : Prop := gt ke ≠ 401 ∧ ((ss.length = 24 ∧ ff = ke) ∨ (ss.length < 24 ∧ (zp_sn gt gv ke ff ∨ ∃ k1 s, zp_sm gt gv ke k1 s ∧ gt k1 ≠ 59 ∧ ff = k1)))
noncomputable abbrev zm_row : Type := zp_T × List zp_N × List zp_N
noncomputable def zm_fl : List zm_row → List zp_N
  | [] => []
  | (_, a, b) :: rs => a ++ (b ++ zm_fl rs)
theorem zm_fl_snoc (s : zp_T) (a b : List zp_N) : ∀ rs : List zm_row, zm_fl (rs ++ [(s, a, b)]) = zm_fl rs ++ (a ++ b)
  | [] => by
    show a ++ (b ++ []) = [] ++ (a ++ b)
    rw [List.append_nil, List.nil_append]
  | (s1, a1, b1) :: rs => by
    show a1 ++ (b1 ++ zm_fl (rs ++ [(s, a, b)])) = (a1 ++ (b1 ++ zm_fl rs)) ++ (a ++ b)
    rw [zm_fl_snoc s a b rs, List.append_assoc, List.append_assoc]
noncomputable def zm_q6 (K I : z_I) (j : Nat) : Prop := K 15 j = I 15 j ∧ K 16 j = I 16 j ∧ K 17 j = I 17 j ∧ K 18 j = I 18 j ∧ K 19 j = I 19 j ∧ K 20 j = I 20 j
theorem zm_q6_t {I K M : z_I} {j : Nat} (h : zm_q6 M K j) (h2 : zm_q6 K I j) : zm_q6 M I j := ⟨h.1.trans h2.1, h.2.1.trans h2.2.1, h.2.2.1.trans h2.2.2.1, h.2.2.2.1.trans h2.2.2.2.1, h.2.2.2.2.1.trans h2.2.2.2.2.1, h.2.2.2.2.2.trans h2.2.2.2.2.2⟩
theorem zm_q6_z {I K : z_I} {n j : Nat} {v : Int32} (e : K = z_up I 0 n v) : zm_q6 K I j := ⟨by rw [e, z_up_n (by decide)], by rw [e, z_up_n (by decide)], by rw [e, z_up_n (by decide)], by rw [e, z_up_n (by decide)], by rw [e, z_up_n (by decide)], by rw [e, z_up_n (by decide)]⟩
theorem zm_rw_c {I K : z_I} {F0 i : Nat} {s : zp_T} {a b : List zp_N} (hc : zm_q6 K I i) (h : zm_rw I F0 i s a b) : zm_rw K F0 i s a b := by
  obtain ⟨c1, c2, c3, c4, c5, c6⟩ := hc
  unfold zm_rw
  rw [c1, c2, c3, c4, c5, c6]
  exact h
noncomputable def zm_RS (K : z_I) : Nat → Nat → List zm_row → Prop
  | _, _, [] => True
  | i, F0, (s, a, b) :: rs => zm_rw K F0 i s a b ∧ zm_RS K (i + 1) (F0 + a.length + b.length) rs
theorem zm_RS_c {I K : z_I} : ∀ (rs : List zm_row) (i F0 : Nat), (∀ j, i ≤ j → j < i + rs.length → zm_q6 K I j) → zm_RS I i F0 rs → zm_RS K i F0 rs
  | [], _, _, _, _ => trivial
  | (s, a, b) :: rs, i, F0, hc, h => by
    rw [List.length_cons] at hc
    exact ⟨zm_rw_c (hc i (by omega) (by omega)) h.1, zm_RS_c rs (i + 1) _ (fun j p q => hc j (by omega) (by omega)) h.2⟩
theorem zm_RS_snoc {K : z_I} {s : zp_T} {a b : List zp_N} : ∀ (rs : List zm_row) (i F0 : Nat), zm_RS K i F0 rs → zm_rw K (F0 + (zm_fl rs).length) (i + rs.length) s a b → zm_RS K i F0 (rs ++ [(s, a, b)])
  | [], i, F0, _, h => ⟨h, trivial⟩
  | (s1, a1, b1) :: rs, i, F0, h, hr => by
    refine ⟨h.1, zm_RS_snoc rs (i + 1) _ h.2 ?_⟩
    have e1 : F0 + a1.length + b1.length + (zm_fl rs).length = F0 + (zm_fl ((s1, a1, b1) :: rs)).length := by
      show _ = F0 + (a1 ++ (b1 ++ zm_fl rs)).length
      rw [List.length_append, List.length_append]
      omega
    have e2 : i + 1 + rs.length = i + ((s1, a1, b1) :: rs).length := by
      rw [List.length_cons]
      omega
    rw [e1, e2]
    exact hr
section ZMO
variable {{gt gv : Nat → Int}} {{gp ge : Nat → Nat}} {{gh : Nat → Int}} {{gm n0 : Nat}} {{gI : z_I}} {I I0 I1 K : z_I} {J J1 : z_J} {k ff keT ke1 st0 : Nat} {S FS FS8 : List zp_F} {o g o8 g8 : Int} {N : List zp_N} {ssT ss2 ss3 : List zp_T} {rs : List zm_row}
/-- a place that the reader doesn't use is written -/
theorem zm_E_z {c n : Nat} {v : Int32} (h : zm_E gt gv gp ge gh gm n0 gI I J (.inr (k, S, o, g, N))) (e : K = z_up I c n v) (hc : (c = 0 ∧ n ≠ 35 ∧ n ≠ 34 ∧ n ≠ 36 ∧ n ≠ 37 ∧ n ≠ 38 ∧ n ≠ 33 ∧ n ≠ 32 ∧ n ≠ 42 ∧ n ≠ 47 ∧ n ≠ 39 ∧ n ≠ 40 ∧ n ≠ 15) ∨ (c ≠ 0 ∧ c ≠ 25 ∧ c ≠ 26 ∧ c ≠ 27 ∧ c ≠ 28 ∧ c ≠ 29 ∧ c ≠ 21 ∧ c ≠ 22 ∧ c ≠ 23)) : zm_E gt gv gp ge gh gm n0 gI K J (.inr (k, S, o, g, N)) := by
  have h0 : ∀ q, (q = 35 ∨ q = 34 ∨ q = 36 ∨ q = 37 ∨ q = 38 ∨ q = 33 ∨ q = 32 ∨ q = 42 ∨ q = 47 ∨ q = 39 ∨ q = 40 ∨ q = 15) → K 0 q = I 0 q := fun q hq => by
    rcases hc with ⟨hz, hn⟩ | hn
    · rw [e, hz]
      exact z_up_k (by omega)
    · rw [e]
      exact z_up_n (by omega)
  have h4 : ∀ d i, (d = 25 ∨ d = 26 ∨ d = 27 ∨ d = 28 ∨ d = 29 ∨ d = 21 ∨ d = 22 ∨ d = 23) → K d i = I d i := fun d i hd => by
    rw [e]
    exact z_up_n (by omega)
  obtain ⟨b1, b2, b3, b4, b5, b6, b7, b8, b9, b10⟩ := h
  exact ⟨by rw [h0 _ (by decide)]; exact b1, b2, zm_T_c b3 (fun q hq => h0 q (by omega)) (fun j => h4 _ _ (by decide)) rfl, by rw [h0 _ (by decide)]; exact b4, zm_S_c S (fun i _ => ⟨h4 _ _ (by decide), h4 _ _ (by decide), h4 _ _ (by decide), h4 _ _ (by decide)⟩) b5, by rw [h0 _ (by decide)]; exact b6, by rw [h0 _ (by decide)]; exact b7, by rw [h0 _ (by decide)]; exact b8, zm_Q_c N n0 (fun j _ _ => ⟨h4 _ _ (by decide), h4 _ _ (by decide), h4 _ _ (by decide)⟩) b9, zm_O_c b10 (fun j _ => ⟨h4 _ _ (by decide), h4 _ _ (by decide), h4 _ _ (by decide)⟩)⟩
/-- the first token -/
theorem zm_E_st (hM : zp_SM gh gt gv gp ge gm) (hN : zm_N I0 I1 J1) (hg : zm_h I0 = gh) (hh : zm_h I1 = zm_h I0) (hp : (I0 0 34).toInt = 0) (hw : (I1 0 42).toInt = 0) (hd : 0 ≤ (I1 0 47).toInt) (hn : (I1 0 15).toInt = (n0 : Int)) (hfa : (I1 0 32).toInt = -1) (hO : zm_O gI I1 n0) : ∃ FS o g, zm_E gt gv gp ge gh gm n0 gI I1 J1 (.inr (0, FS, o, g, [])) := by
  obtain ⟨f, e, t, v, b1, b2, b3, b4, b5⟩ := hN
  have q : (I0 0 34).toNatClampNeg = 0 := by
    have := z_clt (x := I0 0 34) rfl (by omega)
    omega
  rw [hg, q] at b3
  rw [hg] at b4 b5
  have c1 := zp_sk_u b3 hM.1
  subst c1
  obtain ⟨d1, d2, d3⟩ := zp_tk_u b4 (hM.2.1 0 (Nat.zero_le _))
  subst d1
  obtain ⟨S, s1, s2⟩ := zm_S_ex (I := I1) (I1 0 47).toNatClampNeg
  refine ⟨S, (I1 0 39).toInt, (I1 0 40).toInt, hw, Nat.zero_le _, ⟨b1, b2, ?_, hh.trans hg, hfa⟩, by rw [s1]; exact (z_clt rfl hd).symm, s2, rfl, rfl, by rw [hn, List.length_nil]; omega, trivial, hO⟩
  rw [← d2]
  rcases b5 with ⟨c1, c2⟩ | c1 | ⟨c1, c2, c3⟩ | c1 | c1
  · exact Or.inl ⟨c1, c2⟩
  · exact Or.inr (Or.inl c1)
  · exact Or.inr (Or.inr (Or.inl ⟨c1, c2, c3.trans (d3 c2)⟩))
  · exact Or.inr (Or.inr (Or.inr (Or.inl c1)))
  · exact Or.inr (Or.inr (Or.inr (Or.inr c1)))
/-- rs is read, ss2 is still to come -/
noncomputable def zm_OA (gt gv : Nat → Int) (gp ge : Nat → Nat) (gh : Nat → Int) (gm n0 : Nat) (gI : z_I) (st0 : Nat) (ssT : List zp_T) (keT : Nat) (rs : List zm_row) (ss2 : List zp_T) (ke1 : Nat) (FS : List zp_F) (o g : Int) (K : z_I) (J : z_J) : Prop := ssT = rs.map Prod.fst ++ ss2 ∧ zp_ts gt gv ke1 ss2 keT ∧ zm_E gt gv gp ge gh gm n0 gI K J (.inr (ke1, FS, o, g, zm_fl rs)) ∧ (K 0 14).toInt = (st0 : Int) + (rs.length : Int) ∧ zm_RS K st0 n0 rs ∧ ∀ j, j < st0 → zm_q6 K gI j
noncomputable def zm_OL (gt gv : Nat → Int) (gp ge : Nat → Nat) (gh : Nat → Int) (gm n0 : Nat) (gI : z_I) (st0 : Nat) (ssT : List zp_T) (keT ff : Nat) (K : z_I) (J : z_J) : Prop := (∃ rs ss2 ke1 FS o g, zm_OA gt gv gp ge gh gm n0 gI st0 ssT keT rs ss2 ke1 FS o g K J) ∨ (zm_F gt gv ssT keT ff ∧ zm_E gt gv gp ge gh gm n0 gI K J (.inl ff) ∧ ∀ j, j < st0 → zm_q6 K gI j)
theorem zm_OL_0 (hT : zp_ts gt gv 0 ssT keT) (hE : zm_E gt gv gp ge gh gm n0 gI K J (.inr (0, FS, o, g, []))) (hs : (K 0 14).toInt = (st0 : Int)) (hq : ∀ j, j < st0 → zm_q6 K gI j) : zm_OL gt gv gp ge gh gm n0 gI st0 ssT keT ff K J := Or.inl ⟨[], ssT, 0, FS, o, g, rfl, hT, hE, by rw [hs, List.length_nil]; omega, trivial, hq⟩
theorem zm_O_24 (eS : ssT = rs.map Prod.fst ++ ss2) (hl : ssT.length ≤ 24) (h24 : rs.length = 24) (hT : zp_ts gt gv ke1 ss2 keT) (h401 : gt ke1 ≠ 401) (hO : gt keT = 401 ∨ zm_F gt gv ssT keT ff) : zm_F gt gv ssT keT ff ∧ ff = ke1 := by
  have hL : ssT.length = rs.length + ss2.length := by rw [eS, List.length_append, List.length_map]
  cases ss2 with
  | nil =>
    have e : keT = ke1 := hT
    rw [List.length_nil] at hL
    rcases hO with q | q
    · exact absurd (e ▸ q) h401
    · refine ⟨q, ?_⟩
      rcases q.2 with ⟨_, q2⟩ | ⟨q2, _⟩
      · rw [q2, e]
      · omega
  | cons s ss3 =>
    rw [List.length_cons] at hL
    omega
theorem zm_O_st {i : Nat} (eS : ssT = rs.map Prod.fst ++ ss2) (hT : zp_ts gt gv ke1 ss2 keT) (hSR : zm_SR gt gv gp ge gh gm n0 gI ke1 (zm_fl rs) i K J) (hne : rs.length ≠ 24) (h401 : gt ke1 ≠ 401) (hO : gt keT = 401 ∨ zm_F gt gv ssT keT ff) : (∃ s sg1 sg2 ss3 k8 FS8 o8 g8, ss2 = s :: ss3 ∧ zp_ts gt gv (k8 + 1) ss3 keT ∧ zm_E gt gv gp ge gh gm n0 gI K J (.inr (k8 + 1, FS8, o8, g8, zm_fl rs ++ (sg1 ++ sg2))) ∧ zm_rw K (n0 + (zm_fl rs).length) i s sg1 sg2) ∨ (zm_F gt gv ssT keT ff ∧ zm_E gt gv gp ge gh gm n0 gI K J (.inl ff)) := by
  cases ss2 with
  | nil =>
    right
    have e : keT = ke1 := hT
    have hL : ssT.length = rs.length := by rw [eS, List.append_nil, List.length_map]
    subst e
    rcases hO with q | q
    · exact absurd q h401
    · refine ⟨q, hSR.2 ff ?_⟩
      rcases q.2 with ⟨q1, _⟩ | ⟨_, q2⟩
      · omega
      · exact q2
  | cons s ss3 =>
    left
    obtain ⟨k8, hs, h59, ht⟩ := hT
    obtain ⟨FS8, o8, g8, sg1, sg2, hE, hr⟩ := hSR.1 k8 s hs h59
    exact ⟨s, sg1, sg2, ss3, k8, FS8, o8, g8, rfl, ht, hE, hr⟩
theorem zm_O_end (hT : zp_ts gt gv ke1 ss2 keT) (h401 : gt ke1 = 401) : ss2 = [] ∧ keT = ke1 := by
  cases ss2 with
  | nil => exact ⟨rfl, hT⟩
  | cons s ss3 =>
    obtain ⟨k8, hs, h59, ht⟩ := hT
    have := zp_sm_x hs
    omega
theorem zm_OL_s {s8 : zp_T} {sg1 sg2 : List zp_N} {k8 : Nat} (eS : ssT = rs.map Prod.fst ++ ss2) (hC : (I0 0 14).toInt = (st0 : Int) + (rs.length : Int)) (hR : zm_RS I0 st0 n0 rs) (hQ : ∀ j, j < st0 → zm_q6 I0 gI j) (e8 : ss2 = s8 :: ss3) (t8 : zp_ts gt gv (k8 + 1) ss3 keT) (hE : zm_E gt gv gp ge gh gm n0 gI K J (.inr (k8 + 1, FS8, o8, g8, zm_fl rs ++ (sg1 ++ sg2)))) (hn : (K 0 14).toInt = (I0 0 14).toInt + 1) {v : Int32} {n : Nat} (eK : K = z_up I1 0 n v) (hs : ∀ j, j ≠ (I0 0 14).toNatClampNeg → zm_q6 I1 I0 j) (hr : zm_rw I1 (n0 + (zm_fl rs).length) (I0 0 14).toNatClampNeg s8 sg1 sg2) : zm_OL gt gv gp ge gh gm n0 gI st0 ssT keT ff K J := by
  have hd : (I0 0 14).toNatClampNeg = st0 + rs.length := by
    have := z_clt (x := I0 0 14) rfl (by omega)
    omega
  rw [hd] at hs hr
  refine Or.inl ⟨rs ++ [(s8, sg1, sg2)], ss3, k8 + 1, FS8, o8, g8, ?_, t8, ?_, ?_, ?_, fun j hj => ?_⟩
  · rw [eS, e8, List.map_append, List.append_assoc]
    rfl
  · rw [zm_fl_snoc]
    exact hE
  · rw [hn, hC, List.length_append, List.length_cons, List.length_nil]
    omega
  · refine zm_RS_snoc rs _ _ (zm_RS_c rs _ _ (fun j p q => zm_q6_t (zm_q6_z eK) (hs j (by omega))) hR) (zm_rw_c (zm_q6_z eK) hr)
  · exact zm_q6_t (zm_q6_z eK) (zm_q6_t (hs j (by omega)) (hQ j hj))
theorem zm_E_fa (h : zm_E gt gv gp ge gh gm n0 gI I J (.inl ff)) : (I 0 32).toInt = (gp ff : Int) ∧ ff ≤ gm ∧ zm_O gI I n0 := h.2
theorem zm_E_en (h : zm_E gt gv gp ge gh gm n0 gI I J (.inr (k, S, o, g, N))) : (I 0 32).toInt = -1 ∧ (I 0 15).toInt = (n0 : Int) + (N.length : Int) ∧ zm_Q I n0 N ∧ zm_O gI I n0 := ⟨h.2.2.1.2.2.2.2, h.2.2.2.2.2.2.2⟩
noncomputable def zm_ok (I : z_I) (n mo : Int) : Prop := 0 ≤ n ∧ n ≤ (I 0 31).toInt ∧ 0 ≤ mo ∧ mo ≤ 23
noncomputable def zm_tx (K I : z_I) (j : Nat) : Prop := K 11 j = I 11 j ∧ K 12 j = I 12 j ∧ K 13 j = I 13 j ∧ K 14 j = I 14 j
/-- what orders() does -/
noncomputable def zm_PO (gt gv : Nat → Int) (gp : Nat → Nat) (I K : z_I) (J J1 : z_J) (n mo r : Int) (n0 st0 x0 : Nat) (ssT : List zp_T) (keT ff : Nat) : Prop :=
  (r = -2 ∧ ¬ zm_ok I n mo ∧ K = I ∧ J1 = J) ∨ (r = -3 ∧ zm_ok I n mo ∧ (I 0 13).toInt = 12 ∧ K = I ∧ J1 = J) ∨
  (zm_ok I n mo ∧ (I 0 13).toInt ≠ 12 ∧ (K 0 31).toInt = 0 ∧ (∀ j, j < st0 → zm_q6 K I j) ∧ zm_O I K n0 ∧
    ((r = -1 ∧ zm_F gt gv ssT keT ff ∧ (K 0 32).toInt = (gp ff : Int) ∧ (K 0 13).toInt = (x0 : Int) ∧ (K 0 14).toInt = (st0 : Int) ∧ (K 0 15).toInt = (n0 : Int) ∧ ∀ j, zm_tx K I j) ∨
     (r = (x0 : Int) ∧ gt keT = 401 ∧ (K 0 32).toInt = -1 ∧ (K 0 13).toInt = (x0 : Int) + 1 ∧ (∀ j, j ≠ x0 → zm_tx K I j) ∧ (K 11 x0).toInt = (st0 : Int) ∧ (K 12 x0).toInt = (ssT.length : Int) ∧ (K 13 x0).toInt = mo ∧ K 14 x0 = I 0 0 ∧ (K 0 14).toInt = (st0 : Int) + (ssT.length : Int) ∧ ∃ rs : List zm_row, rs.map Prod.fst = ssT ∧ zm_RS K st0 n0 rs ∧ (K 0 15).toInt = (n0 : Int) + ((zm_fl rs).length : Int) ∧ zm_Q K n0 (zm_fl rs))))
end ZMO
set_option maxHeartbeats 8000000 in
set_option maxRecDepth 100000 in
theorem sx_X12_isMonth_e (l : Launch) (G : z_G) (ad : Nat → Nat) (I : z_I) (J : z_J) (a1 : Int32) : z_M l yX12_isMonth wsX12_isMonth { frames := 1, cells := 0, slots := 0, locals := 12 } [.int a1] G (shM, ad, I, J, PM ad) (fun r u1 => u1 = (shM, ad, I, J, PM ad) ∧ ((r = 1 ∧ 0 ≤ a1.toInt ∧ a1.toInt ≤ 23) ∨ (r = 0 ∧ ¬ (0 ≤ a1.toInt ∧ a1.toInt ≤ 23)))) 0 0 := by
  intro sz
  refine z_headQ (cc := cX12_isMonth) (maxL := 1) (ret := (some .boolean)) (by decide) rfl (Nat.le_of_ble_eq_true rfl) ?_
  intro p e s m below meth c0 ls hIn hK hsz hW hl
  obtain ⟨hx, hb, hr, hml, hown, hts, hlocks, hname⟩ := hIn
  subst hsz
  have hown : s.vm.findClass RX12 = some m.cls := hown
  have hA : ∀ q : Nat, s.heap.size ≤ q → z_A (shM, ad, I, J, PM ad) s.heap.size q := fun q h => Or.inr h
  generalize hAe : z_A (shM, ad, I, J, PM ad) s.heap.size = A at *
  have hS : va_S A s.heap s.heap [] := va_S.rf
  have hl : lv_has ls 1 [(0, .int a1)] := hl
  refine lv_iload_n hx hb dX12_isMonth_0 rfl (lv_at hl 0 rfl) ?_
  refine lv_if_lt (tgt := 14) hx hb dX12_isMonth_1 (by decide) (fun c1 => ?_) (fun c1 => ?_)
  · have g2 := z_f_lt rfl z_l0 c1
    have b3 := Int32.toInt_lt a1
    refine lv_iconst (v := 0) hx hb dX12_isMonth_14 (by decide) ?_
    exact z_zret hx hb hr (by decide) hK hS (Nat.le_of_ble_eq_true rfl) (Nat.le_of_ble_eq_true rfl) hlocks dX12_isMonth_15 (shM, ad, I, J, PM ad) hW ⟨rfl, (Or.inr ⟨rfl, by omega⟩)⟩
  · have g4 := z_f_nlt rfl z_l0 c1
    have b5 := Int32.toInt_lt a1
    refine lv_iload_n hx hb dX12_isMonth_4 rfl (lv_at hl 0 rfl) ?_
    refine lv_bipush (v := 23) hx hb dX12_isMonth_5 (by decide) ?_
    refine lv_icmp_gt (tgt := 14) hx hb dX12_isMonth_7 (by decide) (fun c6 => ?_) (fun c6 => ?_)
    · have g7 := z_f_gt rfl z_l23 c6
      refine lv_iconst (v := 0) hx hb dX12_isMonth_14 (by decide) ?_
      exact z_zret hx hb hr (by decide) hK hS (Nat.le_of_ble_eq_true rfl) (Nat.le_of_ble_eq_true rfl) hlocks dX12_isMonth_15 (shM, ad, I, J, PM ad) hW ⟨rfl, (Or.inr ⟨rfl, by omega⟩)⟩
    · have g8 := z_f_ngt rfl z_l23 c6
      refine lv_iconst (v := 1) hx hb dX12_isMonth_10 (by decide) ?_
      refine lv_goto (tgt := 15) hx hb dX12_isMonth_11 (by decide) ?_
      exact z_zret hx hb hr (by decide) hK hS (Nat.le_of_ble_eq_true rfl) (Nat.le_of_ble_eq_true rfl) hlocks dX12_isMonth_15 (shM, ad, I, J, PM ad) hW ⟨rfl, (Or.inl ⟨rfl, by omega⟩)⟩
noncomputable def L_X12_orders_x : z_L := [(0, 35), (0, 36), (0, 37), (0, 38), (0, 34), (0, 42), (0, 32), (0, 39), (21, 999), (22, 999), (23, 999), (0, 15), (26, 999), (27, 999), (28, 999), (29, 999), (0, 47), (0, 40), (16, 999), (17, 999), (18, 999), (19, 999), (15, 999), (20, 999), (0, 33), (0, 31), (0, 14), (0, 13), (11, 999), (12, 999), (13, 999), (14, 999)]
set_option maxHeartbeats 8000000 in
set_option maxRecDepth 100000 in
theorem sx_X12_orders_x (l : Launch) (G : z_G) (ad : Nat → Nat) (I : z_I) (J : z_J) (hma : z_ima I) (hmb : z_imb I) (hmp : z_imp I) (hmt : z_imt I) (hmd : z_imd I) (hmg : z_img I) (hmn : z_imn I) (hNd : z_Nd I) (hAtf : z_rg 11 0 288 I) (hAtm : z_rg 12 0 24 I) (hAsf : z_rg 19 0 6200 I) (hAst : z_rg 20 0 6200 I) (hAsc : z_rg 18 (-1) 6199 I) (hEx : z_Ex I) (hro : z_iro I) (gt gv : Nat → Int) (gp ge : Nat → Nat) (gh : Nat → Int) (gm n0 st0 x0 : Nat) (ssT : List zp_T) (keT ff : Nat) (a1 : Int32) (a2 : Int32) (hC : zm_ok I a1.toInt a2.toInt → (I 0 13).toInt ≠ 12 → gh = zm_h (z_up I 0 33 a1) ∧ zp_SM gh gt gv gp ge gm ∧ (∀ k, gt k = 400 → 0 ≤ gv k ∧ gv k ≤ 999999) ∧ zp_ts gt gv 0 ssT keT ∧ ssT.length ≤ 24 ∧ (gt keT = 401 ∨ zm_F gt gv ssT keT ff)) (hn0 : (I 0 15).toInt = (n0 : Int)) (hs0 : (I 0 14).toInt = (st0 : Int)) (hx0 : (I 0 13).toInt = (x0 : Int)) : z_M l yX12_orders wsX12_orders { frames := 7, cells := 0, slots := 0, locals := 143 } [.ref (ad 0), .int a1, .int a2] G (shM, ad, I, J, PM ad) (fun r u1 => ∃ (I1 : z_I) (J1 : z_J), u1 = (shM, ad, I1, J1, PM ad) ∧ z_ima I1 ∧ z_imb I1 ∧ z_imp I1 ∧ z_imt I1 ∧ z_imd I1 ∧ z_img I1 ∧ z_imn I1 ∧ z_Nd I1 ∧ z_rg 11 0 288 I1 ∧ z_rg 12 0 24 I1 ∧ z_rg 19 0 6200 I1 ∧ z_rg 20 0 6200 I1 ∧ z_rg 18 (-1) 6199 I1 ∧ z_Ex I1 ∧ z_iro I1 ∧ z_fr L_X12_orders_x I1 I ∧ zm_PO gt gv gp I I1 J J1 a1.toInt a2.toInt r.toInt n0 st0 x0 ssT keT ff) 0 0 := by
  intro sz
  refine z_headQ (cc := cX12_orders) (maxL := 5) (ret := (some .int)) (by decide) rfl (Nat.le_of_ble_eq_true rfl) ?_
  intro p e s m below meth c0 ls hIn hK hsz hW hl
  obtain ⟨hx, hb, hr, hml, hown, hts, hlocks, hname⟩ := hIn
  subst hsz
  have hown : s.vm.findClass RX12 = some m.cls := hown
  have hA : ∀ q : Nat, s.heap.size ≤ q → z_A (shM, ad, I, J, PM ad) s.heap.size q := fun q h => Or.inr h
  generalize hAe : z_A (shM, ad, I, J, PM ad) s.heap.size = A at *
  have hS : va_S A s.heap s.heap [] := va_S.rf
  have hl : lv_has ls 5 [(0, .ref (ad 0)), (1, .int a1), (2, .int a2)] := hl
  have kro : (I 0 14).toInt ≤ 24 * (I 0 13).toInt ∧ (I 0 15).toInt ≤ 505 * (I 0 13).toInt := hro
  refine lv_iload_n hx hb dX12_orders_0 rfl (lv_at hl 1 rfl) ?_
  refine lv_if_lt (tgt := 19) hx hb dX12_orders_1 (by decide) (fun c1 => ?_) (fun c1 => ?_)
  · have g2 := z_f_lt rfl z_l0 c1
    have b3 := Int32.toInt_lt a1
    refine lv_bipush (v := (-2)) hx hb dX12_orders_19 (by decide) ?_
    exact z_iret hx hb hr hK hS (Nat.le_of_ble_eq_true rfl) (Nat.le_of_ble_eq_true rfl) hlocks dX12_orders_21 (shM, ad, I, J, PM ad) hW ⟨I, J, rfl, ⟨(by show 0 ≤ (I 0 0).toInt ∧ (I 0 0).toInt ≤ 719; exact hma.1), (by show 0 ≤ (I 0 1).toInt ∧ (I 0 1).toInt ≤ 30; exact hma.2.1), (by show 0 ≤ (I 0 2).toInt ∧ (I 0 2).toInt ≤ 200; exact hma.2.2)⟩, ⟨(by show 0 ≤ (I 0 13).toInt ∧ (I 0 13).toInt ≤ 12; exact hmb.1), (by show 0 ≤ (I 0 14).toInt ∧ (I 0 14).toInt ≤ 288; exact hmb.2)⟩, ⟨(by show 0 ≤ (I 0 31).toInt ∧ (I 0 31).toInt ≤ 500; exact hmp.1), (by show 0 ≤ (I 0 33).toInt ∧ (I 0 33).toInt ≤ 500; exact hmp.2.1), (by show 0 ≤ (I 0 34).toInt ∧ (I 0 34).toInt ≤ 500; exact hmp.2.2.1), (by show 0 ≤ (I 0 35).toInt ∧ (I 0 35).toInt ≤ 500; exact hmp.2.2.2)⟩, ⟨(by show 0 ≤ (I 0 36).toInt ∧ (I 0 36).toInt ≤ 4; exact hmt.1), (by show 0 ≤ (I 0 42).toInt ∧ (I 0 42).toInt ≤ 1; exact hmt.2)⟩, ⟨(by show 0 ≤ (I 0 47).toInt ∧ (I 0 47).toInt ≤ 119; exact hmd.1), (by show 0 ≤ (I 0 39).toInt ∧ (I 0 39).toInt ≤ 100; exact hmd.2)⟩, (by show 0 ≤ (I 0 40).toInt ∧ (I 0 40).toInt ≤ 6199; exact hmg), (by show 0 ≤ (I 0 15).toInt ∧ (I 0 15).toInt ≤ 6100; exact hmn), hNd, hAtf, hAtm, hAsf, hAst, hAsc, hEx, (by show (I 0 14).toInt ≤ 24 * (I 0 13).toInt ∧ (I 0 15).toInt ≤ 505 * (I 0 13).toInt; first | omega | decide), z_fr_0, (Or.inl ⟨by decide, fun q => by unfold zm_ok at q; omega, rfl, rfl⟩)⟩
  · have g4 := z_f_nlt rfl z_l0 c1
    have b5 := Int32.toInt_lt a1
    refine lv_iload_n hx hb dX12_orders_4 rfl (lv_at hl 1 rfl) ?_
    refine lv_aload_n hx hb dX12_orders_5 rfl (lv_at hl 0 rfl) ?_
    have r6 : 0 ≤ (I 0 31).toInt ∧ (I 0 31).toInt ≤ 500 := hmp.1
    refine z_get (T := TX12) (N := 96) (ci := 12) (i := 0) (v := .int (I 0 31)) hx hb hts zj_X12_orders_X12 hown hK hW rfl rfl 31 (by decide) (hts (.fieldLink RX12 253 "PetrolBoardModel" "taped" "I") (me_s (me_l (me_l (List.mem_of_getElem? (i := 0) rfl))))) (fun _ h => h) rfl dX12_orders_6 ?_
    refine lv_icmp_gt (tgt := 19) hx hb dX12_orders_9 (by decide) (fun c7 => ?_) (fun c7 => ?_)
    · have g8 := z_f_gt rfl rfl c7
      refine lv_bipush (v := (-2)) hx hb dX12_orders_19 (by decide) ?_
      exact z_iret hx hb hr hK hS (Nat.le_of_ble_eq_true rfl) (Nat.le_of_ble_eq_true rfl) hlocks dX12_orders_21 (shM, ad, I, J, PM ad) hW ⟨I, J, rfl, ⟨(by show 0 ≤ (I 0 0).toInt ∧ (I 0 0).toInt ≤ 719; exact hma.1), (by show 0 ≤ (I 0 1).toInt ∧ (I 0 1).toInt ≤ 30; exact hma.2.1), (by show 0 ≤ (I 0 2).toInt ∧ (I 0 2).toInt ≤ 200; exact hma.2.2)⟩, ⟨(by show 0 ≤ (I 0 13).toInt ∧ (I 0 13).toInt ≤ 12; exact hmb.1), (by show 0 ≤ (I 0 14).toInt ∧ (I 0 14).toInt ≤ 288; exact hmb.2)⟩, ⟨(by show 0 ≤ (I 0 31).toInt ∧ (I 0 31).toInt ≤ 500; exact hmp.1), (by show 0 ≤ (I 0 33).toInt ∧ (I 0 33).toInt ≤ 500; exact hmp.2.1), (by show 0 ≤ (I 0 34).toInt ∧ (I 0 34).toInt ≤ 500; exact hmp.2.2.1), (by show 0 ≤ (I 0 35).toInt ∧ (I 0 35).toInt ≤ 500; exact hmp.2.2.2)⟩, ⟨(by show 0 ≤ (I 0 36).toInt ∧ (I 0 36).toInt ≤ 4; exact hmt.1), (by show 0 ≤ (I 0 42).toInt ∧ (I 0 42).toInt ≤ 1; exact hmt.2)⟩, ⟨(by show 0 ≤ (I 0 47).toInt ∧ (I 0 47).toInt ≤ 119; exact hmd.1), (by show 0 ≤ (I 0 39).toInt ∧ (I 0 39).toInt ≤ 100; exact hmd.2)⟩, (by show 0 ≤ (I 0 40).toInt ∧ (I 0 40).toInt ≤ 6199; exact hmg), (by show 0 ≤ (I 0 15).toInt ∧ (I 0 15).toInt ≤ 6100; exact hmn), hNd, hAtf, hAtm, hAsf, hAst, hAsc, hEx, (by show (I 0 14).toInt ≤ 24 * (I 0 13).toInt ∧ (I 0 15).toInt ≤ 505 * (I 0 13).toInt; first | omega | decide), z_fr_0, (Or.inl ⟨by decide, fun q => by unfold zm_ok at q; omega, rfl, rfl⟩)⟩
    · have g9 := z_f_ngt rfl rfl c7
      refine lv_iload_n hx hb dX12_orders_12 rfl (lv_at hl 2 rfl) ?_
      refine z_ci hW hS hA (va_runS (As := [.int a2]) (rest := []) ⟨hx, hb, hml, hown, hts⟩ (sx_X12_isMonth_e l G ad I J  a2 _) (va_cwS 1 hts gX12_orders_X12_isMonth rfl rfl rfl (by decide +kernel) ⟨Nat.le_of_ble_eq_true rfl, Nat.le_of_ble_eq_true rfl⟩) (z_preS hK hW) rfl rfl hl.1 rfl (lv_room (Nat.le_of_ble_eq_true rfl)) dX12_orders_13 ⟨Nat.le_of_ble_eq_true rfl, Nat.le_of_ble_eq_true rfl⟩) (fun r u1 H locs hp hW hS => ?_)
      obtain ⟨e9, hp⟩ := hp
      rw [e9] at hW
      rcases hp with ⟨rfl, h11⟩ | ⟨rfl, h11⟩
      · have h12 := h11
        refine lv_if_ne (tgt := 22) hx hb dX12_orders_16 (by decide) (fun c13 => ?_) (fun c13 => absurd c13 (by decide))
        refine lv_aload_n hx hb dX12_orders_22 rfl (lv_at hl 0 rfl) ?_
        have r14 : 0 ≤ (I 0 13).toInt ∧ (I 0 13).toInt ≤ 12 := hmb.1
        refine z_get (T := TX12) (N := 96) (ci := 12) (i := 0) (v := .int (I 0 13)) hx hb hts zj_X12_orders_X12 hown hK hW rfl rfl 13 (by decide) (hts (.fieldLink RX12 408 "PetrolBoardModel" "texts" "I") (me_s (me_l (me_l (List.mem_of_getElem? (i := 1) rfl))))) (fun _ h => h) rfl dX12_orders_23 ?_
        refine lv_bipush (v := 12) hx hb dX12_orders_26 (by decide) ?_
        refine lv_icmp_ne (tgt := 34) hx hb dX12_orders_28 (by decide) (fun c15 => ?_) (fun c15 => ?_)
        · have g16 := z_f_ne rfl z_l12 c15
          obtain ⟨hgh, hSM, hva, hT0, h24, hO⟩ := hC ⟨by omega, by omega, by omega, by omega⟩ (by omega)
          refine lv_aload_n hx hb dX12_orders_34 rfl (lv_at hl 0 rfl) ?_
          refine lv_iload_n hx hb dX12_orders_35 rfl (lv_at hl 1 rfl) ?_
          refine z_put (T := TX12) (N := 96) (ci := 12) (i := 0) (v := .int a1) (I1 := z_up I 0 33 a1) (J1 := J) (P1 := PM ad) hx hb hts zj_X12_orders_X12 tyX12 tyX12_ok nmX12 hown hK hW hS rfl rfl 33 (by decide) (hts (.fieldLink RX12 259 "PetrolBoardModel" "limit" "I") (me_s (me_l (me_l (List.mem_of_getElem? (i := 2) rfl))))) (fun _ h => h) rfl rfl rfl (by first | rfl | exact congrArg _ z_up_s) (fun a b h ty => z_vI h ty) dX12_orders_36 (fun H locs hz1 hW hS => ?_)
          obtain ⟨I17, eI17⟩ : ∃ K : z_I, K = z_up I 0 33 a1 := ⟨_, rfl⟩
          rw [← eI17] at hW
          have f18 := z_fr_k z_fr_0 (show z_wr L_X12_orders_x 0 33 = true by decide) eI17
          have a19 := z_Nd_n hNd (by decide) eI17
          have a20 := z_rg_n hAtf (by decide) eI17
          have a21 := z_rg_n hAtm (by decide) eI17
          have a22 := z_rg_n hAsf (by decide) eI17
          have a23 := z_rg_n hAst (by decide) eI17
          have a24 := z_rg_n hAsc (by decide) eI17
          have a25 := z_Ex_n hEx (by decide) eI17
          refine lv_aload_n hx hb dX12_orders_39 rfl (lv_at hl 0 rfl) ?_
          refine lv_iconst (v := 0) hx hb dX12_orders_40 (by decide) ?_
          refine z_put (T := TX12) (N := 96) (ci := 12) (i := 0) (v := .int 0) (I1 := z_up I17 0 31 0) (J1 := J) (P1 := PM ad) hx hb hts zj_X12_orders_X12 tyX12 tyX12_ok nmX12 hown hK hW hS rfl rfl 31 (by decide) (hts (.fieldLink RX12 253 "PetrolBoardModel" "taped" "I") (me_s (me_l (me_l (List.mem_of_getElem? (i := 0) rfl))))) (fun _ h => h) rfl rfl rfl (by first | rfl | exact congrArg _ z_up_s) (fun a b h ty => z_vI h ty) dX12_orders_41 (fun H locs hz1 hW hS => ?_)
          obtain ⟨I26, eI26⟩ : ∃ K : z_I, K = z_up I17 0 31 0 := ⟨_, rfl⟩
          rw [← eI26] at hW
          have f27 := z_fr_k f18 (show z_wr L_X12_orders_x 0 31 = true by decide) eI26
          have a28 := z_Nd_n a19 (by decide) eI26
          have a29 := z_rg_n a20 (by decide) eI26
          have a30 := z_rg_n a21 (by decide) eI26
          have a31 := z_rg_n a22 (by decide) eI26
          have a32 := z_rg_n a23 (by decide) eI26
          have a33 := z_rg_n a24 (by decide) eI26
          have a34 := z_Ex_n a25 (by decide) eI26
          refine lv_aload_n hx hb dX12_orders_44 rfl (lv_at hl 0 rfl) ?_
          refine lv_iconst (v := 0) hx hb dX12_orders_45 (by decide) ?_
          refine z_put (T := TX12) (N := 96) (ci := 12) (i := 0) (v := .int 0) (I1 := z_up I26 0 34 0) (J1 := J) (P1 := PM ad) hx hb hts zj_X12_orders_X12 tyX12 tyX12_ok nmX12 hown hK hW hS rfl rfl 34 (by decide) (hts (.fieldLink RX12 256 "PetrolBoardModel" "point" "I") (me_s (me_l (me_l (List.mem_of_getElem? (i := 3) rfl))))) (fun _ h => h) rfl rfl rfl (by first | rfl | exact congrArg _ z_up_s) (fun a b h ty => z_vI h ty) dX12_orders_46 (fun H locs hz1 hW hS => ?_)
          obtain ⟨I35, eI35⟩ : ∃ K : z_I, K = z_up I26 0 34 0 := ⟨_, rfl⟩
          rw [← eI35] at hW
          have f36 := z_fr_k f27 (show z_wr L_X12_orders_x 0 34 = true by decide) eI35
          have a37 := z_Nd_n a28 (by decide) eI35
          have a38 := z_rg_n a29 (by decide) eI35
          have a39 := z_rg_n a30 (by decide) eI35
          have a40 := z_rg_n a31 (by decide) eI35
          have a41 := z_rg_n a32 (by decide) eI35
          have a42 := z_rg_n a33 (by decide) eI35
          have a43 := z_Ex_n a34 (by decide) eI35
          refine lv_aload_n hx hb dX12_orders_49 rfl (lv_at hl 0 rfl) ?_
          refine lv_iconst (v := (-1)) hx hb dX12_orders_50 (by decide) ?_
          refine z_put (T := TX12) (N := 96) (ci := 12) (i := 0) (v := .int (-1)) (I1 := z_up I35 0 32 (-1)) (J1 := J) (P1 := PM ad) hx hb hts zj_X12_orders_X12 tyX12 tyX12_ok nmX12 hown hK hW hS rfl rfl 32 (by decide) (hts (.fieldLink RX12 87 "PetrolBoardModel" "faultAt" "I") (me_s (me_l (me_l (List.mem_of_getElem? (i := 4) rfl))))) (fun _ h => h) rfl rfl rfl (by first | rfl | exact congrArg _ z_up_s) (fun a b h ty => z_vI h ty) dX12_orders_51 (fun H locs hz1 hW hS => ?_)
          obtain ⟨I44, eI44⟩ : ∃ K : z_I, K = z_up I35 0 32 (-1) := ⟨_, rfl⟩
          rw [← eI44] at hW
          have f45 := z_fr_k f36 (show z_wr L_X12_orders_x 0 32 = true by decide) eI44
          have a46 := z_Nd_n a37 (by decide) eI44
          have a47 := z_rg_n a38 (by decide) eI44
          have a48 := z_rg_n a39 (by decide) eI44
          have a49 := z_rg_n a40 (by decide) eI44
          have a50 := z_rg_n a41 (by decide) eI44
          have a51 := z_rg_n a42 (by decide) eI44
          have a52 := z_Ex_n a43 (by decide) eI44
          refine lv_aload_n hx hb dX12_orders_54 rfl (lv_at hl 0 rfl) ?_
          refine lv_iconst (v := 0) hx hb dX12_orders_55 (by decide) ?_
          refine z_put (T := TX12) (N := 96) (ci := 12) (i := 0) (v := .int 0) (I1 := z_up I44 0 42 0) (J1 := J) (P1 := PM ad) hx hb hts zj_X12_orders_X12 tyX12 tyX12_ok nmX12 hown hK hW hS rfl rfl 42 (by decide) (hts (.fieldLink RX12 294 "PetrolBoardModel" "isWrong" "Z") (me_s (me_l (me_l (List.mem_of_getElem? (i := 5) rfl))))) (fun _ h => h) rfl (by decide) rfl (by first | rfl | exact congrArg _ z_up_s) (fun a b h ty => z_vI h ty) dX12_orders_56 (fun H locs hz1 hW hS => ?_)
          obtain ⟨I53, eI53⟩ : ∃ K : z_I, K = z_up I44 0 42 0 := ⟨_, rfl⟩
          rw [← eI53] at hW
          have f54 := z_fr_k f45 (show z_wr L_X12_orders_x 0 42 = true by decide) eI53
          have a55 := z_Nd_n a46 (by decide) eI53
          have a56 := z_rg_n a47 (by decide) eI53
          have a57 := z_rg_n a48 (by decide) eI53
          have a58 := z_rg_n a49 (by decide) eI53
          have a59 := z_rg_n a50 (by decide) eI53
          have a60 := z_rg_n a51 (by decide) eI53
          have a61 := z_Ex_n a52 (by decide) eI53
          refine lv_aload_n hx hb dX12_orders_59 rfl (lv_at hl 0 rfl) ?_
          have r62 : 0 ≤ (I 0 14).toInt ∧ (I 0 14).toInt ≤ 288 := hmb.2
          refine z_get (T := TX12) (N := 96) (ci := 12) (i := 0) (v := .int (I 0 14)) hx hb hts zj_X12_orders_X12 hown hK hW rfl rfl 14 (by decide) (hts (.fieldLink RX12 411 "PetrolBoardModel" "statements" "I") (me_s (me_l (me_l (List.mem_of_getElem? (i := 6) rfl))))) (fun _ h => h) (congrArg Value.int (by rw [eI53, z_up_k (by decide), eI44, z_up_k (by decide), eI35, z_up_k (by decide), eI26, z_up_k (by decide), eI17, z_up_k (by decide)])) dX12_orders_60 ?_
          refine lv_istore_n (lv' := [(3, .int (I 0 14)), (0, .ref (ad 0)), (1, .int a1), (2, .int a2)]) hx hb dX12_orders_63 rfl hl (by decide) rfl (fun ls hl => ?_)
          refine lv_aload_n hx hb dX12_orders_64 rfl (lv_at hl 1 rfl) ?_
          have r63 : 0 ≤ (I 0 15).toInt ∧ (I 0 15).toInt ≤ 6100 := hmn
          refine z_get (T := TX12) (N := 96) (ci := 12) (i := 0) (v := .int (I 0 15)) hx hb hts zj_X12_orders_X12 hown hK hW rfl rfl 15 (by decide) (hts (.fieldLink RX12 337 "PetrolBoardModel" "nodes" "I") (me_s (me_l (me_l (List.mem_of_getElem? (i := 7) rfl))))) (fun _ h => h) (congrArg Value.int (by rw [eI53, z_up_k (by decide), eI44, z_up_k (by decide), eI35, z_up_k (by decide), eI26, z_up_k (by decide), eI17, z_up_k (by decide)])) dX12_orders_65 ?_
          refine lv_istore (lv' := [(4, .int (I 0 15)), (3, .int (I 0 14)), (0, .ref (ad 0)), (1, .int a1), (2, .int a2)]) hx hb dX12_orders_68 hl (by decide) rfl (fun ls hl => ?_)
          refine lv_aload_n hx hb dX12_orders_70 rfl (lv_at hl 2 rfl) ?_
          refine z_cv hW hS hA (va_runV (As := []) (rest := []) ⟨hx, hb, hml, hown, hts⟩ (sx_X12_next_x l G ad I53 J ⟨(by show 0 ≤ (I53 0 31).toInt ∧ (I53 0 31).toInt ≤ 500; rw [eI53, z_up_k (by decide), eI44, z_up_k (by decide), eI35, z_up_k (by decide), eI26, z_up_s]; decide), (by show 0 ≤ (I53 0 33).toInt ∧ (I53 0 33).toInt ≤ 500; rw [eI53, z_up_k (by decide), eI44, z_up_k (by decide), eI35, z_up_k (by decide), eI26, z_up_k (by decide), eI17, z_up_s]; omega), (by show 0 ≤ (I53 0 34).toInt ∧ (I53 0 34).toInt ≤ 500; rw [eI53, z_up_k (by decide), eI44, z_up_k (by decide), eI35, z_up_s]; decide), (by show 0 ≤ (I53 0 35).toInt ∧ (I53 0 35).toInt ≤ 500; rw [eI53, z_up_k (by decide), eI44, z_up_k (by decide), eI35, z_up_k (by decide), eI26, z_up_k (by decide), eI17, z_up_k (by decide)]; exact hmp.2.2.2)⟩ ⟨(by show 0 ≤ (I53 0 36).toInt ∧ (I53 0 36).toInt ≤ 4; rw [eI53, z_up_k (by decide), eI44, z_up_k (by decide), eI35, z_up_k (by decide), eI26, z_up_k (by decide), eI17, z_up_k (by decide)]; exact hmt.1), (by show 0 ≤ (I53 0 42).toInt ∧ (I53 0 42).toInt ≤ 1; rw [eI53, z_up_s]; decide)⟩ (by have q0 : (I53 0 34) = 0 := (by rw [eI53, z_up_k (by decide), eI44, z_up_k (by decide), eI35, z_up_s]); have z0 := z_l0; have q1 : (I53 0 33) = a1 := (by rw [eI53, z_up_k (by decide), eI44, z_up_k (by decide), eI35, z_up_k (by decide), eI26, z_up_k (by decide), eI17, z_up_s]); show 0 ≤ (I53 0 34).toInt ∧ (I53 0 34).toInt ≤ (I53 0 33).toInt ∧ (I53 0 33).toInt ≤ 500; rw [q0, q1]; first | omega | decide)  _) (cwV 0 hts gX12_orders_X12_next rfl rfl rfl (by decide +kernel) ⟨Nat.le_of_ble_eq_true rfl, Nat.le_of_ble_eq_true rfl⟩) (z_preV (i := 0) hK hW rfl rfl) rfl rfl hl.1 rfl (lv_room (Nat.le_of_ble_eq_true rfl)) dX12_orders_71 ⟨Nat.le_of_ble_eq_true rfl, Nat.le_of_ble_eq_true rfl⟩) (fun u1 H locs hp hW hS => ?_)
          obtain ⟨I64, J66, e9, hI64mp, hI64mt, hI64rp, fI64, hp⟩ := hp
          rw [e9] at hW
          have f65 := z_fr_sub (L := L_X12_orders_x) f54 fI64 (by decide)
          have k67 : 0 ≤ (I64 0 0).toInt ∧ (I64 0 0).toInt ≤ 719 := by rw [fI64 0 0 (by decide)]; exact (by show 0 ≤ (I53 0 0).toInt ∧ (I53 0 0).toInt ≤ 719; rw [eI53, z_up_k (by decide), eI44, z_up_k (by decide), eI35, z_up_k (by decide), eI26, z_up_k (by decide), eI17, z_up_k (by decide)]; exact hma.1)
          have k68 : 0 ≤ (I64 0 1).toInt ∧ (I64 0 1).toInt ≤ 30 := by rw [fI64 0 1 (by decide)]; exact (by show 0 ≤ (I53 0 1).toInt ∧ (I53 0 1).toInt ≤ 30; rw [eI53, z_up_k (by decide), eI44, z_up_k (by decide), eI35, z_up_k (by decide), eI26, z_up_k (by decide), eI17, z_up_k (by decide)]; exact hma.2.1)
          have k69 : 0 ≤ (I64 0 2).toInt ∧ (I64 0 2).toInt ≤ 200 := by rw [fI64 0 2 (by decide)]; exact (by show 0 ≤ (I53 0 2).toInt ∧ (I53 0 2).toInt ≤ 200; rw [eI53, z_up_k (by decide), eI44, z_up_k (by decide), eI35, z_up_k (by decide), eI26, z_up_k (by decide), eI17, z_up_k (by decide)]; exact hma.2.2)
          have k70 : 0 ≤ (I64 0 13).toInt ∧ (I64 0 13).toInt ≤ 12 := by rw [fI64 0 13 (by decide)]; exact (by show 0 ≤ (I53 0 13).toInt ∧ (I53 0 13).toInt ≤ 12; rw [eI53, z_up_k (by decide), eI44, z_up_k (by decide), eI35, z_up_k (by decide), eI26, z_up_k (by decide), eI17, z_up_k (by decide)]; exact hmb.1)
          have k71 : 0 ≤ (I64 0 14).toInt ∧ (I64 0 14).toInt ≤ 288 := by rw [fI64 0 14 (by decide)]; exact (by show 0 ≤ (I53 0 14).toInt ∧ (I53 0 14).toInt ≤ 288; rw [eI53, z_up_k (by decide), eI44, z_up_k (by decide), eI35, z_up_k (by decide), eI26, z_up_k (by decide), eI17, z_up_k (by decide)]; exact hmb.2)
          have k72 : 0 ≤ (I64 0 47).toInt ∧ (I64 0 47).toInt ≤ 119 := by rw [fI64 0 47 (by decide)]; exact (by show 0 ≤ (I53 0 47).toInt ∧ (I53 0 47).toInt ≤ 119; rw [eI53, z_up_k (by decide), eI44, z_up_k (by decide), eI35, z_up_k (by decide), eI26, z_up_k (by decide), eI17, z_up_k (by decide)]; exact hmd.1)
          have k73 : 0 ≤ (I64 0 39).toInt ∧ (I64 0 39).toInt ≤ 100 := by rw [fI64 0 39 (by decide)]; exact (by show 0 ≤ (I53 0 39).toInt ∧ (I53 0 39).toInt ≤ 100; rw [eI53, z_up_k (by decide), eI44, z_up_k (by decide), eI35, z_up_k (by decide), eI26, z_up_k (by decide), eI17, z_up_k (by decide)]; exact hmd.2)
          have k74 : 0 ≤ (I64 0 40).toInt ∧ (I64 0 40).toInt ≤ 6199 := by rw [fI64 0 40 (by decide)]; exact (by show 0 ≤ (I53 0 40).toInt ∧ (I53 0 40).toInt ≤ 6199; rw [eI53, z_up_k (by decide), eI44, z_up_k (by decide), eI35, z_up_k (by decide), eI26, z_up_k (by decide), eI17, z_up_k (by decide)]; exact hmg)
          have k75 : 0 ≤ (I64 0 15).toInt ∧ (I64 0 15).toInt ≤ 6100 := by rw [fI64 0 15 (by decide)]; exact (by show 0 ≤ (I53 0 15).toInt ∧ (I53 0 15).toInt ≤ 6100; rw [eI53, z_up_k (by decide), eI44, z_up_k (by decide), eI35, z_up_k (by decide), eI26, z_up_k (by decide), eI17, z_up_k (by decide)]; exact hmn)
          have k76 : 0 ≤ (I64 0 35).toInt ∧ (I64 0 35).toInt ≤ (I64 0 34).toInt ∧ (I64 0 34).toInt ≤ (I64 0 33).toInt ∧ (I64 0 33).toInt ≤ 500 ∧ ((I64 0 36).toInt = 0 ∨ (I64 0 35).toInt + 1 ≤ (I64 0 34).toInt) := hI64rp
          have k77 : (I64 0 42).toInt = 0 := by rw [fI64 0 42 (by decide), eI53, z_up_s]; exact z_l0
          have k78 : (I64 0 47).toInt = (I 0 47).toInt := by rw [fI64 0 47 (by decide), eI53, z_up_k (by decide), eI44, z_up_k (by decide), eI35, z_up_k (by decide), eI26, z_up_k (by decide), eI17, z_up_k (by decide)]
          have k79 : (I64 0 39).toInt = (I 0 39).toInt := by rw [fI64 0 39 (by decide), eI53, z_up_k (by decide), eI44, z_up_k (by decide), eI35, z_up_k (by decide), eI26, z_up_k (by decide), eI17, z_up_k (by decide)]
          have k80 : (I64 0 15).toInt = (I 0 15).toInt := by rw [fI64 0 15 (by decide), eI53, z_up_k (by decide), eI44, z_up_k (by decide), eI35, z_up_k (by decide), eI26, z_up_k (by decide), eI17, z_up_k (by decide)]
          have k81 : (I64 0 40).toInt = (I 0 40).toInt := by rw [fI64 0 40 (by decide), eI53, z_up_k (by decide), eI44, z_up_k (by decide), eI35, z_up_k (by decide), eI26, z_up_k (by decide), eI17, z_up_k (by decide)]
          have k82 : (I64 0 14).toInt = (I 0 14).toInt := by rw [fI64 0 14 (by decide), eI53, z_up_k (by decide), eI44, z_up_k (by decide), eI35, z_up_k (by decide), eI26, z_up_k (by decide), eI17, z_up_k (by decide)]
          have k83 : (I64 0 13).toInt = (I 0 13).toInt := by rw [fI64 0 13 (by decide), eI53, z_up_k (by decide), eI44, z_up_k (by decide), eI35, z_up_k (by decide), eI26, z_up_k (by decide), eI17, z_up_k (by decide)]
          have k84 : (I64 0 32).toInt = (-1) := by rw [fI64 0 32 (by decide), eI53, z_up_k (by decide), eI44, z_up_s]; exact z_lm1
          have k85 : (I64 0 31).toInt = 0 := by rw [fI64 0 31 (by decide), eI53, z_up_k (by decide), eI44, z_up_k (by decide), eI35, z_up_k (by decide), eI26, z_up_s]; exact z_l0
          obtain ⟨hp, hp86⟩ := hp
          have h87 := hp
          rw [show (I53 0 34) = 0 from by rw [eI53, z_up_k (by decide), eI44, z_up_k (by decide), eI35, z_up_s]] at h87
          obtain ⟨FS0, o0, g0, hE0⟩ := zm_E_st (gI := I) hSM hp86 ((zm_hK (by rw [eI53, z_up_k (by decide), eI44, z_up_k (by decide), eI35, z_up_k (by decide), eI26, z_up_k (by decide), eI17, z_up_s]) (fun k => by rw [eI53, z_up_n (by decide), eI44, z_up_n (by decide), eI35, z_up_n (by decide), eI26, z_up_n (by decide), eI17, z_up_n (by decide)])).trans hgh.symm) (zm_h_fr fI64 (by decide) (by decide)) (by show (I53 0 34).toInt = 0; have q9 : (I53 0 34) = 0 := (by rw [eI53, z_up_k (by decide), eI44, z_up_k (by decide), eI35, z_up_s]); rw [q9]; first | omega | decide) (by show (I64 0 42).toInt = 0; first | omega | decide) (show 0 ≤ (I64 0 47).toInt ∧ (I64 0 47).toInt ≤ 119 from (by show 0 ≤ (I64 0 47).toInt ∧ (I64 0 47).toInt ≤ 119; exact k72)).1 (by show (I64 0 15).toInt = (n0 : Int); omega) (by show (I64 0 32).toInt = -1; first | omega | decide) (fun j _ => ⟨by rw [fI64 21 j (z_wr_c (by decide)), eI53, z_up_n (by decide), eI44, z_up_n (by decide), eI35, z_up_n (by decide), eI26, z_up_n (by decide), eI17, z_up_n (by decide)], by rw [fI64 22 j (z_wr_c (by decide)), eI53, z_up_n (by decide), eI44, z_up_n (by decide), eI35, z_up_n (by decide), eI26, z_up_n (by decide), eI17, z_up_n (by decide)], by rw [fI64 23 j (z_wr_c (by decide)), eI53, z_up_n (by decide), eI44, z_up_n (by decide), eI35, z_up_n (by decide), eI26, z_up_n (by decide), eI17, z_up_n (by decide)]⟩)
          have lp88 : ∀ (f : Nat)  (I89 : z_I) (J90 : z_J) (H : Heap) (locs : List Loc) (ls : Array Slot), ((¬ (I89 0 42).toInt = 0 ∧ 1 ≤ (f : Int)) ∨ (26 - ((I89 0 14).toInt - (I 0 14).toInt) ≤ (f : Int) ∧ 0 ≤ ((I89 0 14).toInt - (I 0 14).toInt) ∧ ((I89 0 14).toInt - (I 0 14).toInt) ≤ 24 ∧ 1010 * (500 - (I89 0 35).toInt) + 1000 * (I89 0 15).toInt ≤ 505000 + 1000 * (I 0 15).toInt + 20 * ((I89 0 14).toInt - (I 0 14).toInt))) → (z_ima I89) → (z_imb I89) → (z_imp I89) → (z_imt I89) → (z_imd I89) → (z_img I89) → (z_imn I89) → (z_Nd I89) → (z_rg 11 0 288 I89) → (z_rg 12 0 24 I89) → (z_rg 19 0 6200 I89) → (z_rg 20 0 6200 I89) → (z_rg 18 (-1) 6199 I89) → (z_Ex I89) → (z_irp I89) → ((I89 0 13).toInt = (I 0 13).toInt) → (I89 0 0 = I 0 0 ∧ (I89 0 31).toInt = 0 ∧ ∀ j, zm_tx I89 I j) → (zm_OL gt gv gp ge gh gm n0 I st0 ssT keT ff I89 J90) → (z_fr L_X12_orders_x I89 I) → z_W G A (shM, ad, I89, J90, PM ad) H → va_S A s.heap H locs → lv_has ls 5 [(4, .int (I 0 15)), (3, .int (I 0 14)), (0, .ref (ad 0)), (1, .int a1), (2, .int a2)] → W p l e (headSpec wsX12_orders { frames := 7, cells := 0, slots := 0, locals := 143 }).room s m ([.ref (ad 0), .int a1, .int a2] : List Value).toArray below meth c0 H locs 0 0 (MQ below (va_Qi (fun (r : Int32) (u1 : z_U) => ∃ (I1 : z_I) (J1 : z_J), u1 = (shM, ad, I1, J1, PM ad) ∧ z_ima I1 ∧ z_imb I1 ∧ z_imp I1 ∧ z_imt I1 ∧ z_imd I1 ∧ z_img I1 ∧ z_imn I1 ∧ z_Nd I1 ∧ z_rg 11 0 288 I1 ∧ z_rg 12 0 24 I1 ∧ z_rg 19 0 6200 I1 ∧ z_rg 20 0 6200 I1 ∧ z_rg 18 (-1) 6199 I1 ∧ z_Ex I1 ∧ z_iro I1 ∧ z_fr L_X12_orders_x I1 I ∧ zm_PO gt gv gp I I1 J J1 a1.toInt a2.toInt r.toInt n0 st0 x0 ssT keT ff) (z_B G A) A) ([.ref (ad 0), .int a1, .int a2] : List Value).toArray s 0 0 A) (F0 m 74 ls []) := by
            intro f
            induction f with
            | zero => intro  I89 J90 H locs ls lp88m lp88ma lp88mb lp88mp lp88mt lp88md lp88mg lp88mn lp88Nd lp88Atf lp88Atm lp88Asf lp88Ast lp88Asc lp88Ex lp88rp lp88T lp88K lp88E lp88fr hW hS hl; exact False.elim (by omega)
            | succ f lp88ih =>
              intro  I89 J90 H locs ls lp88m lp88ma lp88mb lp88mp lp88mt lp88md lp88mg lp88mn lp88Nd lp88Atf lp88Atm lp88Asf lp88Ast lp88Asc lp88Ex lp88rp lp88T lp88K lp88E lp88fr hW hS hl
              have k91 : 0 ≤ (I89 0 35).toInt ∧ (I89 0 35).toInt ≤ (I89 0 34).toInt ∧ (I89 0 34).toInt ≤ (I89 0 33).toInt ∧ (I89 0 33).toInt ≤ 500 ∧ ((I89 0 36).toInt = 0 ∨ (I89 0 35).toInt + 1 ≤ (I89 0 34).toInt) := lp88rp
              refine lv_aload_n hx hb dX12_orders_74 rfl (lv_at hl 2 rfl) ?_
              rcases lp88E with ⟨rs, ss2, ke1, FS9, o9, g9, eS, hT9, hE9, hC9, hR9, hQ9⟩ | ⟨hF9, hE9, hQ9⟩
              · have h92 := zm_E_W hE9
                have h93 := zm_E_D hE9
                have h94 := zm_E_nu hE9
                have r95 : 0 ≤ (I89 0 36).toInt ∧ (I89 0 36).toInt ≤ 4 := lp88mt.1
                refine z_get (T := TX12) (N := 96) (ci := 12) (i := 0) (v := .int (I89 0 36)) hx hb hts zj_X12_orders_X12 hown hK hW rfl rfl 36 (by decide) (hts (.fieldLink RX12 281 "PetrolBoardModel" "token" "I") (me_s (me_l (me_l (List.mem_of_getElem? (i := 8) rfl))))) (fun _ h => h) rfl dX12_orders_75 ?_
                refine lv_if_eq (tgt := 134) hx hb dX12_orders_78 (by decide) (fun c96 => ?_) (fun c96 => ?_)
                · have g97 := z_f_eq rfl z_l0 c96
                  refine lv_aload_n hx hb dX12_orders_134 rfl (lv_at hl 2 rfl) ?_
                  have r98 : 0 ≤ (I89 0 42).toInt ∧ (I89 0 42).toInt ≤ 1 := lp88mt.2
                  refine z_get (T := TX12) (N := 96) (ci := 12) (i := 0) (v := .int (I89 0 42)) hx hb hts zj_X12_orders_X12 hown hK hW rfl rfl 42 (by decide) (hts (.fieldLink RX12 294 "PetrolBoardModel" "isWrong" "Z") (me_s (me_l (me_l (List.mem_of_getElem? (i := 5) rfl))))) (fun _ h => h) rfl dX12_orders_135 ?_
                  refine lv_if_eq (tgt := 154) hx hb dX12_orders_138 (by decide) (fun c99 => ?_) (fun c99 => (by have g := z_f_ne rfl z_l0 c99; omega))
                  have g100 := z_f_eq rfl z_l0 c99
                  refine lv_aload_n hx hb dX12_orders_154 rfl (lv_at hl 2 rfl) ?_
                  refine z_get (T := TX12) (N := 96) (ci := 12) (i := 0) (v := .ref (ad 11)) hx hb hts zj_X12_orders_X12 hown hK hW rfl rfl 16 (by decide) (hts (.fieldLink RX12 40 "PetrolBoardModel" "textFirst" "[I") (me_s (me_l (me_l (List.mem_of_getElem? (i := 9) rfl))))) (fun _ h => h) rfl dX12_orders_155 ?_
                  refine lv_aload_n hx hb dX12_orders_158 rfl (lv_at hl 2 rfl) ?_
                  have r101 : 0 ≤ (I89 0 13).toInt ∧ (I89 0 13).toInt ≤ 12 := lp88mb.1
                  refine z_get (T := TX12) (N := 96) (ci := 12) (i := 0) (v := .int (I89 0 13)) hx hb hts zj_X12_orders_X12 hown hK hW rfl rfl 13 (by decide) (hts (.fieldLink RX12 408 "PetrolBoardModel" "texts" "I") (me_s (me_l (me_l (List.mem_of_getElem? (i := 1) rfl))))) (fun _ h => h) rfl dX12_orders_159 ?_
                  refine lv_iload_n hx hb dX12_orders_162 rfl (lv_at hl 1 rfl) ?_
                  refine z_iast (i := 11) hx hb hK hW hS rfl (z_ix rfl (by omega) (by omega)) dX12_orders_163 (fun H locs hz1 hW hS => ?_)
                  obtain ⟨I102, eI102⟩ : ∃ K : z_I, K = z_up I89 11 (I89 0 13).toNatClampNeg (I 0 14) := ⟨_, rfl⟩
                  rw [← eI102] at hW
                  have f103 := z_fr_a lp88fr (show z_wa L_X12_orders_x 11 = true by decide) eI102
                  have a104 := z_Nd_n lp88Nd (by decide) eI102
                  have a105 := z_rg_a lp88Atf (by omega) eI102
                  have a106 := z_rg_n lp88Atm (by decide) eI102
                  have a107 := z_rg_n lp88Asf (by decide) eI102
                  have a108 := z_rg_n lp88Ast (by decide) eI102
                  have a109 := z_rg_n lp88Asc (by decide) eI102
                  have a110 := z_Ex_n lp88Ex (by decide) eI102
                  have hE111 : zm_E gt gv gp ge gh gm n0 I I102 J90 (.inr (ke1, FS9, o9, g9, (zm_fl rs))) := zm_E_z hE9 eI102 (Or.inr (by decide))
                  refine lv_aload_n hx hb dX12_orders_164 rfl (lv_at hl 2 rfl) ?_
                  refine z_get (T := TX12) (N := 96) (ci := 12) (i := 0) (v := .ref (ad 12)) hx hb hts zj_X12_orders_X12 hown hK hW rfl rfl 17 (by decide) (hts (.fieldLink RX12 43 "PetrolBoardModel" "textMany" "[I") (me_s (me_l (me_l (List.mem_of_getElem? (i := 10) rfl))))) (fun _ h => h) rfl dX12_orders_165 ?_
                  refine lv_aload_n hx hb dX12_orders_168 rfl (lv_at hl 2 rfl) ?_
                  refine z_get (T := TX12) (N := 96) (ci := 12) (i := 0) (v := .int (I89 0 13)) hx hb hts zj_X12_orders_X12 hown hK hW rfl rfl 13 (by decide) (hts (.fieldLink RX12 408 "PetrolBoardModel" "texts" "I") (me_s (me_l (me_l (List.mem_of_getElem? (i := 1) rfl))))) (fun _ h => h) (congrArg Value.int (by rw [eI102, z_up_n (by decide)])) dX12_orders_169 ?_
                  refine lv_aload_n hx hb dX12_orders_172 rfl (lv_at hl 2 rfl) ?_
                  have r112 : 0 ≤ (I89 0 14).toInt ∧ (I89 0 14).toInt ≤ 288 := lp88mb.2
                  refine z_get (T := TX12) (N := 96) (ci := 12) (i := 0) (v := .int (I89 0 14)) hx hb hts zj_X12_orders_X12 hown hK hW rfl rfl 14 (by decide) (hts (.fieldLink RX12 411 "PetrolBoardModel" "statements" "I") (me_s (me_l (me_l (List.mem_of_getElem? (i := 6) rfl))))) (fun _ h => h) (congrArg Value.int (by rw [eI102, z_up_n (by decide)])) dX12_orders_173 ?_
                  refine lv_iload_n hx hb dX12_orders_176 rfl (lv_at hl 1 rfl) ?_
                  refine lv_isub hx hb dX12_orders_177 ?_
                  refine lv_topi (fun x113 ex113 => ?_)
                  have tx113 : x113.toInt = (I89 0 14).toInt - (I 0 14).toInt := z_tsub ex113 rfl rfl (by omega) (by omega)
                  refine z_iast (i := 12) hx hb hK hW hS rfl (z_ix rfl (by omega) (by omega)) dX12_orders_178 (fun H locs hz1 hW hS => ?_)
                  obtain ⟨I114, eI114⟩ : ∃ K : z_I, K = z_up I102 12 (I89 0 13).toNatClampNeg x113 := ⟨_, rfl⟩
                  rw [← eI114] at hW
                  have f115 := z_fr_a f103 (show z_wa L_X12_orders_x 12 = true by decide) eI114
                  have a116 := z_Nd_n a104 (by decide) eI114
                  have a117 := z_rg_n a105 (by decide) eI114
                  have a118 := z_rg_a a106 (by omega) eI114
                  have a119 := z_rg_n a107 (by decide) eI114
                  have a120 := z_rg_n a108 (by decide) eI114
                  have a121 := z_rg_n a109 (by decide) eI114
                  have a122 := z_Ex_n a110 (by decide) eI114
                  have hE123 : zm_E gt gv gp ge gh gm n0 I I114 J90 (.inr (ke1, FS9, o9, g9, (zm_fl rs))) := zm_E_z hE111 eI114 (Or.inr (by decide))
                  refine lv_aload_n hx hb dX12_orders_179 rfl (lv_at hl 2 rfl) ?_
                  refine z_get (T := TX12) (N := 96) (ci := 12) (i := 0) (v := .ref (ad 13)) hx hb hts zj_X12_orders_X12 hown hK hW rfl rfl 18 (by decide) (hts (.fieldLink RX12 46 "PetrolBoardModel" "textMonth" "[I") (me_s (me_l (me_l (List.mem_of_getElem? (i := 11) rfl))))) (fun _ h => h) rfl dX12_orders_180 ?_
                  refine lv_aload_n hx hb dX12_orders_183 rfl (lv_at hl 2 rfl) ?_
                  refine z_get (T := TX12) (N := 96) (ci := 12) (i := 0) (v := .int (I89 0 13)) hx hb hts zj_X12_orders_X12 hown hK hW rfl rfl 13 (by decide) (hts (.fieldLink RX12 408 "PetrolBoardModel" "texts" "I") (me_s (me_l (me_l (List.mem_of_getElem? (i := 1) rfl))))) (fun _ h => h) (congrArg Value.int (by rw [eI114, z_up_n (by decide), eI102, z_up_n (by decide)])) dX12_orders_184 ?_
                  refine lv_iload_n hx hb dX12_orders_187 rfl (lv_at hl 4 rfl) ?_
                  refine z_iast (i := 13) hx hb hK hW hS rfl (z_ix rfl (by omega) (by omega)) dX12_orders_188 (fun H locs hz1 hW hS => ?_)
                  obtain ⟨I124, eI124⟩ : ∃ K : z_I, K = z_up I114 13 (I89 0 13).toNatClampNeg a2 := ⟨_, rfl⟩
                  rw [← eI124] at hW
                  have f125 := z_fr_a f115 (show z_wa L_X12_orders_x 13 = true by decide) eI124
                  have a126 := z_Nd_n a116 (by decide) eI124
                  have a127 := z_rg_n a117 (by decide) eI124
                  have a128 := z_rg_n a118 (by decide) eI124
                  have a129 := z_rg_n a119 (by decide) eI124
                  have a130 := z_rg_n a120 (by decide) eI124
                  have a131 := z_rg_n a121 (by decide) eI124
                  have a132 := z_Ex_n a122 (by decide) eI124
                  have hE133 : zm_E gt gv gp ge gh gm n0 I I124 J90 (.inr (ke1, FS9, o9, g9, (zm_fl rs))) := zm_E_z hE123 eI124 (Or.inr (by decide))
                  refine lv_aload_n hx hb dX12_orders_189 rfl (lv_at hl 2 rfl) ?_
                  refine z_get (T := TX12) (N := 96) (ci := 12) (i := 0) (v := .ref (ad 14)) hx hb hts zj_X12_orders_X12 hown hK hW rfl rfl 19 (by decide) (hts (.fieldLink RX12 49 "PetrolBoardModel" "textTold" "[I") (me_s (me_l (me_l (List.mem_of_getElem? (i := 12) rfl))))) (fun _ h => h) rfl dX12_orders_190 ?_
                  refine lv_aload_n hx hb dX12_orders_193 rfl (lv_at hl 2 rfl) ?_
                  refine z_get (T := TX12) (N := 96) (ci := 12) (i := 0) (v := .int (I89 0 13)) hx hb hts zj_X12_orders_X12 hown hK hW rfl rfl 13 (by decide) (hts (.fieldLink RX12 408 "PetrolBoardModel" "texts" "I") (me_s (me_l (me_l (List.mem_of_getElem? (i := 1) rfl))))) (fun _ h => h) (congrArg Value.int (by rw [eI124, z_up_n (by decide), eI114, z_up_n (by decide), eI102, z_up_n (by decide)])) dX12_orders_194 ?_
                  refine lv_aload_n hx hb dX12_orders_197 rfl (lv_at hl 2 rfl) ?_
                  have r134 : 0 ≤ (I89 0 0).toInt ∧ (I89 0 0).toInt ≤ 719 := lp88ma.1
                  refine z_get (T := TX12) (N := 96) (ci := 12) (i := 0) (v := .int (I89 0 0)) hx hb hts zj_X12_orders_X12 hown hK hW rfl rfl 0 (by decide) (hts (.fieldLink RX12 232 "PetrolBoardModel" "today" "I") (me_s (me_l (me_l (List.mem_of_getElem? (i := 13) rfl))))) (fun _ h => h) (congrArg Value.int (by rw [eI124, z_up_n (by decide), eI114, z_up_n (by decide), eI102, z_up_n (by decide)])) dX12_orders_198 ?_
                  refine z_iast (i := 14) hx hb hK hW hS rfl (z_ix rfl (by omega) (by omega)) dX12_orders_201 (fun H locs hz1 hW hS => ?_)
                  obtain ⟨I135, eI135⟩ : ∃ K : z_I, K = z_up I124 14 (I89 0 13).toNatClampNeg (I89 0 0) := ⟨_, rfl⟩
                  rw [← eI135] at hW
                  have f136 := z_fr_a f125 (show z_wa L_X12_orders_x 14 = true by decide) eI135
                  have a137 := z_Nd_n a126 (by decide) eI135
                  have a138 := z_rg_n a127 (by decide) eI135
                  have a139 := z_rg_n a128 (by decide) eI135
                  have a140 := z_rg_n a129 (by decide) eI135
                  have a141 := z_rg_n a130 (by decide) eI135
                  have a142 := z_rg_n a131 (by decide) eI135
                  have a143 := z_Ex_n a132 (by decide) eI135
                  have hE144 : zm_E gt gv gp ge gh gm n0 I I135 J90 (.inr (ke1, FS9, o9, g9, (zm_fl rs))) := zm_E_z hE133 eI135 (Or.inr (by decide))
                  refine lv_aload_n hx hb dX12_orders_202 rfl (lv_at hl 2 rfl) ?_
                  refine lv_dup hx hb dX12_orders_203 rfl ?_
                  refine z_get (T := TX12) (N := 96) (ci := 12) (i := 0) (v := .int (I89 0 13)) hx hb hts zj_X12_orders_X12 hown hK hW rfl rfl 13 (by decide) (hts (.fieldLink RX12 408 "PetrolBoardModel" "texts" "I") (me_s (me_l (me_l (List.mem_of_getElem? (i := 1) rfl))))) (fun _ h => h) (congrArg Value.int (by rw [eI135, z_up_n (by decide), eI124, z_up_n (by decide), eI114, z_up_n (by decide), eI102, z_up_n (by decide)])) dX12_orders_204 ?_
                  refine lv_iconst (v := 1) hx hb dX12_orders_207 (by decide) ?_
                  refine lv_iadd hx hb dX12_orders_208 ?_
                  refine lv_topi (fun x145 ex145 => ?_)
                  have tx145 : x145.toInt = (I89 0 13).toInt + 1 := z_tadd ex145 rfl z_l1 (by omega) (by omega)
                  refine z_put (T := TX12) (N := 96) (ci := 12) (i := 0) (v := .int x145) (I1 := z_up I135 0 13 x145) (J1 := J90) (P1 := PM ad) hx hb hts zj_X12_orders_X12 tyX12 tyX12_ok nmX12 hown hK hW hS rfl rfl 13 (by decide) (hts (.fieldLink RX12 408 "PetrolBoardModel" "texts" "I") (me_s (me_l (me_l (List.mem_of_getElem? (i := 1) rfl))))) (fun _ h => h) rfl rfl rfl (by first | rfl | exact congrArg _ z_up_s) (fun a b h ty => z_vI h ty) dX12_orders_209 (fun H locs hz1 hW hS => ?_)
                  obtain ⟨I146, eI146⟩ : ∃ K : z_I, K = z_up I135 0 13 x145 := ⟨_, rfl⟩
                  rw [← eI146] at hW
                  have f147 := z_fr_k f136 (show z_wr L_X12_orders_x 0 13 = true by decide) eI146
                  have a148 := z_Nd_n a137 (by decide) eI146
                  have a149 := z_rg_n a138 (by decide) eI146
                  have a150 := z_rg_n a139 (by decide) eI146
                  have a151 := z_rg_n a140 (by decide) eI146
                  have a152 := z_rg_n a141 (by decide) eI146
                  have a153 := z_rg_n a142 (by decide) eI146
                  have a154 := z_Ex_n a143 (by decide) eI146
                  have hE155 : zm_E gt gv gp ge gh gm n0 I I146 J90 (.inr (ke1, FS9, o9, g9, (zm_fl rs))) := zm_E_z hE144 eI146 (Or.inl (by decide))
                  refine lv_aload_n hx hb dX12_orders_212 rfl (lv_at hl 2 rfl) ?_
                  refine z_get (T := TX12) (N := 96) (ci := 12) (i := 0) (v := .int x145) hx hb hts zj_X12_orders_X12 hown hK hW rfl rfl 13 (by decide) (hts (.fieldLink RX12 408 "PetrolBoardModel" "texts" "I") (me_s (me_l (me_l (List.mem_of_getElem? (i := 1) rfl))))) (fun _ h => h) (congrArg Value.int (by rw [eI146, z_up_s])) dX12_orders_213 ?_
                  refine lv_iconst (v := 1) hx hb dX12_orders_216 (by decide) ?_
                  refine lv_isub hx hb dX12_orders_217 ?_
                  refine lv_topi (fun x156 ex156 => ?_)
                  have tx156 : x156.toInt = x145.toInt - 1 := z_tsub ex156 rfl z_l1 (by omega) (by omega)
                  obtain ⟨e2, ek⟩ := zm_O_end hT9 (by omega)
                  rw [e2, List.append_nil] at eS
                  have eL : ssT.length = rs.length := by rw [eS, List.length_map]
                  exact z_iret hx hb hr hK hS (Nat.le_of_ble_eq_true rfl) (Nat.le_of_ble_eq_true rfl) hlocks dX12_orders_218 (shM, ad, I146, J90, PM ad) hW ⟨I146, J90, rfl, ⟨(by show 0 ≤ (I146 0 0).toInt ∧ (I146 0 0).toInt ≤ 719; rw [eI146, z_up_k (by decide), eI135, z_up_n (by decide), eI124, z_up_n (by decide), eI114, z_up_n (by decide), eI102, z_up_n (by decide)]; exact lp88ma.1), (by show 0 ≤ (I146 0 1).toInt ∧ (I146 0 1).toInt ≤ 30; rw [eI146, z_up_k (by decide), eI135, z_up_n (by decide), eI124, z_up_n (by decide), eI114, z_up_n (by decide), eI102, z_up_n (by decide)]; exact lp88ma.2.1), (by show 0 ≤ (I146 0 2).toInt ∧ (I146 0 2).toInt ≤ 200; rw [eI146, z_up_k (by decide), eI135, z_up_n (by decide), eI124, z_up_n (by decide), eI114, z_up_n (by decide), eI102, z_up_n (by decide)]; exact lp88ma.2.2)⟩, ⟨(by show 0 ≤ (I146 0 13).toInt ∧ (I146 0 13).toInt ≤ 12; rw [eI146, z_up_s]; omega), (by show 0 ≤ (I146 0 14).toInt ∧ (I146 0 14).toInt ≤ 288; rw [eI146, z_up_k (by decide), eI135, z_up_n (by decide), eI124, z_up_n (by decide), eI114, z_up_n (by decide), eI102, z_up_n (by decide)]; exact lp88mb.2)⟩, ⟨(by show 0 ≤ (I146 0 31).toInt ∧ (I146 0 31).toInt ≤ 500; rw [eI146, z_up_k (by decide), eI135, z_up_n (by decide), eI124, z_up_n (by decide), eI114, z_up_n (by decide), eI102, z_up_n (by decide)]; exact lp88mp.1), (by show 0 ≤ (I146 0 33).toInt ∧ (I146 0 33).toInt ≤ 500; rw [eI146, z_up_k (by decide), eI135, z_up_n (by decide), eI124, z_up_n (by decide), eI114, z_up_n (by decide), eI102, z_up_n (by decide)]; exact lp88mp.2.1), (by show 0 ≤ (I146 0 34).toInt ∧ (I146 0 34).toInt ≤ 500; rw [eI146, z_up_k (by decide), eI135, z_up_n (by decide), eI124, z_up_n (by decide), eI114, z_up_n (by decide), eI102, z_up_n (by decide)]; exact lp88mp.2.2.1), (by show 0 ≤ (I146 0 35).toInt ∧ (I146 0 35).toInt ≤ 500; rw [eI146, z_up_k (by decide), eI135, z_up_n (by decide), eI124, z_up_n (by decide), eI114, z_up_n (by decide), eI102, z_up_n (by decide)]; exact lp88mp.2.2.2)⟩, ⟨(by show 0 ≤ (I146 0 36).toInt ∧ (I146 0 36).toInt ≤ 4; rw [eI146, z_up_k (by decide), eI135, z_up_n (by decide), eI124, z_up_n (by decide), eI114, z_up_n (by decide), eI102, z_up_n (by decide)]; exact lp88mt.1), (by show 0 ≤ (I146 0 42).toInt ∧ (I146 0 42).toInt ≤ 1; rw [eI146, z_up_k (by decide), eI135, z_up_n (by decide), eI124, z_up_n (by decide), eI114, z_up_n (by decide), eI102, z_up_n (by decide)]; exact lp88mt.2)⟩, ⟨(by show 0 ≤ (I146 0 47).toInt ∧ (I146 0 47).toInt ≤ 119; rw [eI146, z_up_k (by decide), eI135, z_up_n (by decide), eI124, z_up_n (by decide), eI114, z_up_n (by decide), eI102, z_up_n (by decide)]; exact lp88md.1), (by show 0 ≤ (I146 0 39).toInt ∧ (I146 0 39).toInt ≤ 100; rw [eI146, z_up_k (by decide), eI135, z_up_n (by decide), eI124, z_up_n (by decide), eI114, z_up_n (by decide), eI102, z_up_n (by decide)]; exact lp88md.2)⟩, (by show 0 ≤ (I146 0 40).toInt ∧ (I146 0 40).toInt ≤ 6199; rw [eI146, z_up_k (by decide), eI135, z_up_n (by decide), eI124, z_up_n (by decide), eI114, z_up_n (by decide), eI102, z_up_n (by decide)]; exact lp88mg), (by show 0 ≤ (I146 0 15).toInt ∧ (I146 0 15).toInt ≤ 6100; rw [eI146, z_up_k (by decide), eI135, z_up_n (by decide), eI124, z_up_n (by decide), eI114, z_up_n (by decide), eI102, z_up_n (by decide)]; exact lp88mn), a148, a149, a150, a151, a152, a153, a154, (by have q0 : (I146 0 13) = x145 := (by rw [eI146, z_up_s]); have q1 : (I146 0 14) = (I89 0 14) := (by rw [eI146, z_up_k (by decide), eI135, z_up_n (by decide), eI124, z_up_n (by decide), eI114, z_up_n (by decide), eI102, z_up_n (by decide)]); have q2 : (I146 0 15) = (I89 0 15) := (by rw [eI146, z_up_k (by decide), eI135, z_up_n (by decide), eI124, z_up_n (by decide), eI114, z_up_n (by decide), eI102, z_up_n (by decide)]); show (I146 0 14).toInt ≤ 24 * (I146 0 13).toInt ∧ (I146 0 15).toInt ≤ 505 * (I146 0 13).toInt; rw [q0, q1, q2]; first | omega | decide), f147, (Or.inr (Or.inr ⟨⟨by omega, by omega, by omega, by omega⟩, by omega, (by rw [show I146 0 31 = I89 0 31 from by rw [eI146, z_up_k (by decide), eI135, z_up_n (by decide), eI124, z_up_n (by decide), eI114, z_up_n (by decide), eI102, z_up_n (by decide)]]; exact lp88K.2.1), (fun j hj => zm_q6_t ⟨by rw [eI146, z_up_n (by decide), eI135, z_up_n (by decide), eI124, z_up_n (by decide), eI114, z_up_n (by decide), eI102, z_up_n (by decide)], by rw [eI146, z_up_n (by decide), eI135, z_up_n (by decide), eI124, z_up_n (by decide), eI114, z_up_n (by decide), eI102, z_up_n (by decide)], by rw [eI146, z_up_n (by decide), eI135, z_up_n (by decide), eI124, z_up_n (by decide), eI114, z_up_n (by decide), eI102, z_up_n (by decide)], by rw [eI146, z_up_n (by decide), eI135, z_up_n (by decide), eI124, z_up_n (by decide), eI114, z_up_n (by decide), eI102, z_up_n (by decide)], by rw [eI146, z_up_n (by decide), eI135, z_up_n (by decide), eI124, z_up_n (by decide), eI114, z_up_n (by decide), eI102, z_up_n (by decide)], by rw [eI146, z_up_n (by decide), eI135, z_up_n (by decide), eI124, z_up_n (by decide), eI114, z_up_n (by decide), eI102, z_up_n (by decide)]⟩ (hQ9 j hj)), (zm_E_en hE155).2.2.2, Or.inr ⟨by omega, by rw [ek]; omega, (zm_E_en hE155).1, (by have q0 : (I146 0 13) = x145 := (by rw [eI146, z_up_s]); show (I146 0 13).toInt = (x0 : Int) + 1; rw [q0]; omega), by rw [(show x0 = (I89 0 13).toNatClampNeg from by have := z_clt (x := I89 0 13) rfl (by omega); omega)]; exact fun j hj => ⟨((show I146 11 j = I89 11 j from by rw [eI146, z_up_n (by decide), eI135, z_up_n (by decide), eI124, z_up_n (by decide), eI114, z_up_n (by decide), eI102, z_up_k hj]).trans (lp88K.2.2 j).1), ((show I146 12 j = I89 12 j from by rw [eI146, z_up_n (by decide), eI135, z_up_n (by decide), eI124, z_up_n (by decide), eI114, z_up_k hj, eI102, z_up_n (by decide)]).trans (lp88K.2.2 j).2.1), ((show I146 13 j = I89 13 j from by rw [eI146, z_up_n (by decide), eI135, z_up_n (by decide), eI124, z_up_k hj, eI114, z_up_n (by decide), eI102, z_up_n (by decide)]).trans (lp88K.2.2 j).2.2.1), ((show I146 14 j = I89 14 j from by rw [eI146, z_up_n (by decide), eI135, z_up_k hj, eI124, z_up_n (by decide), eI114, z_up_n (by decide), eI102, z_up_n (by decide)]).trans (lp88K.2.2 j).2.2.2)⟩, (by rw [(show x0 = (I89 0 13).toNatClampNeg from by have := z_clt (x := I89 0 13) rfl (by omega); omega), eI146, z_up_n (by decide), eI135, z_up_n (by decide), eI124, z_up_n (by decide), eI114, z_up_n (by decide), eI102, z_up_s] <;> omega), (by rw [(show x0 = (I89 0 13).toNatClampNeg from by have := z_clt (x := I89 0 13) rfl (by omega); omega), eI146, z_up_n (by decide), eI135, z_up_n (by decide), eI124, z_up_n (by decide), eI114, z_up_s] <;> omega), (by rw [(show x0 = (I89 0 13).toNatClampNeg from by have := z_clt (x := I89 0 13) rfl (by omega); omega), eI146, z_up_n (by decide), eI135, z_up_n (by decide), eI124, z_up_s] <;> omega), (by rw [(show x0 = (I89 0 13).toNatClampNeg from by have := z_clt (x := I89 0 13) rfl (by omega); omega), eI146, z_up_n (by decide), eI135, z_up_s]; exact lp88K.1), (by have q0 : (I146 0 14) = (I89 0 14) := (by rw [eI146, z_up_k (by decide), eI135, z_up_n (by decide), eI124, z_up_n (by decide), eI114, z_up_n (by decide), eI102, z_up_n (by decide)]); show (I146 0 14).toInt = (st0 : Int) + (ssT.length : Int); rw [q0]; omega), rs, eS.symm, zm_RS_c rs _ _ (fun j _ _ => ⟨by rw [eI146, z_up_n (by decide), eI135, z_up_n (by decide), eI124, z_up_n (by decide), eI114, z_up_n (by decide), eI102, z_up_n (by decide)], by rw [eI146, z_up_n (by decide), eI135, z_up_n (by decide), eI124, z_up_n (by decide), eI114, z_up_n (by decide), eI102, z_up_n (by decide)], by rw [eI146, z_up_n (by decide), eI135, z_up_n (by decide), eI124, z_up_n (by decide), eI114, z_up_n (by decide), eI102, z_up_n (by decide)], by rw [eI146, z_up_n (by decide), eI135, z_up_n (by decide), eI124, z_up_n (by decide), eI114, z_up_n (by decide), eI102, z_up_n (by decide)], by rw [eI146, z_up_n (by decide), eI135, z_up_n (by decide), eI124, z_up_n (by decide), eI114, z_up_n (by decide), eI102, z_up_n (by decide)], by rw [eI146, z_up_n (by decide), eI135, z_up_n (by decide), eI124, z_up_n (by decide), eI114, z_up_n (by decide), eI102, z_up_n (by decide)]⟩) hR9, (zm_E_en hE155).2.1, (zm_E_en hE155).2.2.1⟩⟩))⟩
                · have g157 := z_f_ne rfl z_l0 c96
                  refine lv_aload_n hx hb dX12_orders_81 rfl (lv_at hl 2 rfl) ?_
                  have r158 : 0 ≤ (I89 0 42).toInt ∧ (I89 0 42).toInt ≤ 1 := lp88mt.2
                  refine z_get (T := TX12) (N := 96) (ci := 12) (i := 0) (v := .int (I89 0 42)) hx hb hts zj_X12_orders_X12 hown hK hW rfl rfl 42 (by decide) (hts (.fieldLink RX12 294 "PetrolBoardModel" "isWrong" "Z") (me_s (me_l (me_l (List.mem_of_getElem? (i := 5) rfl))))) (fun _ h => h) rfl dX12_orders_82 ?_
                  refine lv_if_ne (tgt := 134) hx hb dX12_orders_85 (by decide) (fun c159 => (by have g := z_f_ne rfl z_l0 c159; omega)) (fun c159 => ?_)
                  have g160 := z_f_eq rfl z_l0 c159
                  refine lv_aload_n hx hb dX12_orders_88 rfl (lv_at hl 2 rfl) ?_
                  have r161 : 0 ≤ (I89 0 14).toInt ∧ (I89 0 14).toInt ≤ 288 := lp88mb.2
                  refine z_get (T := TX12) (N := 96) (ci := 12) (i := 0) (v := .int (I89 0 14)) hx hb hts zj_X12_orders_X12 hown hK hW rfl rfl 14 (by decide) (hts (.fieldLink RX12 411 "PetrolBoardModel" "statements" "I") (me_s (me_l (me_l (List.mem_of_getElem? (i := 6) rfl))))) (fun _ h => h) rfl dX12_orders_89 ?_
                  refine lv_iload_n hx hb dX12_orders_92 rfl (lv_at hl 1 rfl) ?_
                  refine lv_isub hx hb dX12_orders_93 ?_
                  refine lv_topi (fun x162 ex162 => ?_)
                  have tx162 : x162.toInt = (I89 0 14).toInt - (I 0 14).toInt := z_tsub ex162 rfl rfl (by omega) (by omega)
                  refine lv_bipush (v := 24) hx hb dX12_orders_94 (by decide) ?_
                  refine lv_icmp_ne (tgt := 106) hx hb dX12_orders_96 (by decide) (fun c163 => ?_) (fun c163 => ?_)
                  · have g164 := z_f_ne rfl z_l24 c163
                    refine lv_aload_n hx hb dX12_orders_106 rfl (lv_at hl 2 rfl) ?_
                    refine lv_aload_n hx hb dX12_orders_107 rfl (lv_at hl 2 rfl) ?_
                    refine z_get (T := TX12) (N := 96) (ci := 12) (i := 0) (v := .int (I89 0 14)) hx hb hts zj_X12_orders_X12 hown hK hW rfl rfl 14 (by decide) (hts (.fieldLink RX12 411 "PetrolBoardModel" "statements" "I") (me_s (me_l (me_l (List.mem_of_getElem? (i := 6) rfl))))) (fun _ h => h) rfl dX12_orders_108 ?_
                    refine z_cv hW hS hA (va_runV (As := [.int (I89 0 14)]) (rest := []) ⟨hx, hb, hml, hown, hts⟩ (sx_X12_statement_x l G ad I89 J90 ⟨(by show 0 ≤ (I89 0 31).toInt ∧ (I89 0 31).toInt ≤ 500; exact lp88mp.1), (by show 0 ≤ (I89 0 33).toInt ∧ (I89 0 33).toInt ≤ 500; exact lp88mp.2.1), (by show 0 ≤ (I89 0 34).toInt ∧ (I89 0 34).toInt ≤ 500; exact lp88mp.2.2.1), (by show 0 ≤ (I89 0 35).toInt ∧ (I89 0 35).toInt ≤ 500; exact lp88mp.2.2.2)⟩ ⟨(by show 0 ≤ (I89 0 36).toInt ∧ (I89 0 36).toInt ≤ 4; exact lp88mt.1), (by show 0 ≤ (I89 0 42).toInt ∧ (I89 0 42).toInt ≤ 1; exact lp88mt.2)⟩ ⟨(by show 0 ≤ (I89 0 47).toInt ∧ (I89 0 47).toInt ≤ 119; exact lp88md.1), (by show 0 ≤ (I89 0 39).toInt ∧ (I89 0 39).toInt ≤ 100; exact lp88md.2)⟩ (by show 0 ≤ (I89 0 40).toInt ∧ (I89 0 40).toInt ≤ 6199; exact lp88mg) (by show 0 ≤ (I89 0 15).toInt ∧ (I89 0 15).toInt ≤ 6100; exact lp88mn) lp88Nd (by show 0 ≤ (I89 0 35).toInt ∧ (I89 0 35).toInt ≤ (I89 0 34).toInt ∧ (I89 0 34).toInt ≤ (I89 0 33).toInt ∧ (I89 0 33).toInt ≤ 500 ∧ ((I89 0 36).toInt = 0 ∨ (I89 0 35).toInt + 1 ≤ (I89 0 34).toInt); first | omega | decide) lp88Asf lp88Ast lp88Asc lp88Ex gt gv gp ge gh gm n0 I (ke1) (FS9) (o9) (g9) ((zm_fl rs)) (I89 0 14) (by first | omega | decide) (by show 1010 * (500 - (I89 0 35).toInt) + 1000 * (I89 0 15).toInt + 20 ≤ 6100000; omega) hE9 hSM hva _) (cwV 1 hts gX12_orders_X12_statement rfl rfl rfl (by decide +kernel) ⟨Nat.le_of_ble_eq_true rfl, Nat.le_of_ble_eq_true rfl⟩) (z_preV (i := 0) hK hW rfl rfl) rfl rfl hl.1 rfl (lv_room (Nat.le_of_ble_eq_true rfl)) dX12_orders_111 ⟨Nat.le_of_ble_eq_true rfl, Nat.le_of_ble_eq_true rfl⟩) (fun u1 H locs hp hW hS => ?_)
                    obtain ⟨I165, J167, e9, hI165mp, hI165mt, hI165md, hI165mg, hI165mn, hI165Nd, hI165rp, hI165Asf, hI165Ast, hI165Asc, hI165Ex, fI165, hp⟩ := hp
                    rw [e9] at hW
                    have f166 := z_fr_sub (L := L_X12_orders_x) lp88fr fI165 (by decide)
                    have k168 : 0 ≤ (I165 0 0).toInt ∧ (I165 0 0).toInt ≤ 719 := by rw [fI165 0 0 (by decide)]; exact (by show 0 ≤ (I89 0 0).toInt ∧ (I89 0 0).toInt ≤ 719; exact lp88ma.1)
                    have k169 : 0 ≤ (I165 0 1).toInt ∧ (I165 0 1).toInt ≤ 30 := by rw [fI165 0 1 (by decide)]; exact (by show 0 ≤ (I89 0 1).toInt ∧ (I89 0 1).toInt ≤ 30; exact lp88ma.2.1)
                    have k170 : 0 ≤ (I165 0 2).toInt ∧ (I165 0 2).toInt ≤ 200 := by rw [fI165 0 2 (by decide)]; exact (by show 0 ≤ (I89 0 2).toInt ∧ (I89 0 2).toInt ≤ 200; exact lp88ma.2.2)
                    have k171 : 0 ≤ (I165 0 13).toInt ∧ (I165 0 13).toInt ≤ 12 := by rw [fI165 0 13 (by decide)]; exact (by show 0 ≤ (I89 0 13).toInt ∧ (I89 0 13).toInt ≤ 12; exact lp88mb.1)
                    have k172 : 0 ≤ (I165 0 14).toInt ∧ (I165 0 14).toInt ≤ 288 := by rw [fI165 0 14 (by decide)]; exact (by show 0 ≤ (I89 0 14).toInt ∧ (I89 0 14).toInt ≤ 288; exact lp88mb.2)
                    have k173 : 0 ≤ (I165 0 35).toInt ∧ (I165 0 35).toInt ≤ (I165 0 34).toInt ∧ (I165 0 34).toInt ≤ (I165 0 33).toInt ∧ (I165 0 33).toInt ≤ 500 ∧ ((I165 0 36).toInt = 0 ∨ (I165 0 35).toInt + 1 ≤ (I165 0 34).toInt) := hI165rp
                    have k174 : (I165 0 14).toInt = (I89 0 14).toInt := by rw [fI165 0 14 (by decide)]
                    have k175 : (I165 0 13).toInt = (I89 0 13).toInt := by rw [fI165 0 13 (by decide)]
                    have k176 : (I165 0 31).toInt = (I89 0 31).toInt := by rw [fI165 0 31 (by decide)]
                    obtain ⟨h177, hSR178, hs179⟩ := hp
                    rcases zm_O_st eS hT9 hSR178 (by omega) (by omega) hO with ⟨s8, sg1, sg2, ss3, k8, FS8, o8, g8, e8, t8, hE8, hr8⟩ | ⟨hF8, hE8⟩
                    · have h180 := zm_E_W hE8
                      refine lv_aload_n hx hb dX12_orders_114 rfl (lv_at hl 2 rfl) ?_
                      have r181 : 0 ≤ (I165 0 42).toInt ∧ (I165 0 42).toInt ≤ 1 := hI165mt.2
                      refine z_get (T := TX12) (N := 96) (ci := 12) (i := 0) (v := .int (I165 0 42)) hx hb hts zj_X12_orders_X12 hown hK hW rfl rfl 42 (by decide) (hts (.fieldLink RX12 294 "PetrolBoardModel" "isWrong" "Z") (me_s (me_l (me_l (List.mem_of_getElem? (i := 5) rfl))))) (fun _ h => h) rfl dX12_orders_115 ?_
                      refine lv_if_ne (tgt := 74) hx hb dX12_orders_118 (by decide) (fun c182 => (by have g := z_f_ne rfl z_l0 c182; omega)) (fun c182 => ?_)
                      have g183 := z_f_eq rfl z_l0 c182
                      refine lv_aload_n hx hb dX12_orders_121 rfl (lv_at hl 2 rfl) ?_
                      refine lv_dup hx hb dX12_orders_122 rfl ?_
                      have r184 : 0 ≤ (I165 0 14).toInt ∧ (I165 0 14).toInt ≤ 288 := k172
                      refine z_get (T := TX12) (N := 96) (ci := 12) (i := 0) (v := .int (I165 0 14)) hx hb hts zj_X12_orders_X12 hown hK hW rfl rfl 14 (by decide) (hts (.fieldLink RX12 411 "PetrolBoardModel" "statements" "I") (me_s (me_l (me_l (List.mem_of_getElem? (i := 6) rfl))))) (fun _ h => h) rfl dX12_orders_123 ?_
                      refine lv_iconst (v := 1) hx hb dX12_orders_126 (by decide) ?_
                      refine lv_iadd hx hb dX12_orders_127 ?_
                      refine lv_topi (fun x185 ex185 => ?_)
                      have tx185 : x185.toInt = (I165 0 14).toInt + 1 := z_tadd ex185 rfl z_l1 (by omega) (by omega)
                      refine z_put (T := TX12) (N := 96) (ci := 12) (i := 0) (v := .int x185) (I1 := z_up I165 0 14 x185) (J1 := J167) (P1 := PM ad) hx hb hts zj_X12_orders_X12 tyX12 tyX12_ok nmX12 hown hK hW hS rfl rfl 14 (by decide) (hts (.fieldLink RX12 411 "PetrolBoardModel" "statements" "I") (me_s (me_l (me_l (List.mem_of_getElem? (i := 6) rfl))))) (fun _ h => h) rfl rfl rfl (by first | rfl | exact congrArg _ z_up_s) (fun a b h ty => z_vI h ty) dX12_orders_128 (fun H locs hz1 hW hS => ?_)
                      obtain ⟨I186, eI186⟩ : ∃ K : z_I, K = z_up I165 0 14 x185 := ⟨_, rfl⟩
                      rw [← eI186] at hW
                      have f187 := z_fr_k f166 (show z_wr L_X12_orders_x 0 14 = true by decide) eI186
                      have a188 := z_Nd_n hI165Nd (by decide) eI186
                      have a189 := z_rg_n (z_rg_fr lp88Atf fI165 (by decide)) (by decide) eI186
                      have a190 := z_rg_n (z_rg_fr lp88Atm fI165 (by decide)) (by decide) eI186
                      have a191 := z_rg_n hI165Asf (by decide) eI186
                      have a192 := z_rg_n hI165Ast (by decide) eI186
                      have a193 := z_rg_n hI165Asc (by decide) eI186
                      have a194 := z_Ex_n hI165Ex (by decide) eI186
                      have hE195 : zm_E gt gv gp ge gh gm n0 I I186 J167 (.inr (k8 + 1, FS8, o8, g8, (zm_fl rs ++ (sg1 ++ sg2)))) := zm_E_z hE8 eI186 (Or.inl (by decide))
                      refine lv_goto (tgt := 74) hx hb dX12_orders_131 (by decide) ?_
                      exact lp88ih  I186 J167 _ _ _ (by have q0 : (I186 0 42) = (I165 0 42) := (by rw [eI186, z_up_k (by decide)]); have q1 : (I186 0 14) = x185 := (by rw [eI186, z_up_s]); have q2 : (I186 0 35) = (I165 0 35) := (by rw [eI186, z_up_k (by decide)]); have q3 : (I186 0 15) = (I165 0 15) := (by rw [eI186, z_up_k (by decide)]); show (¬ (I186 0 42).toInt = 0 ∧ 1 ≤ (f : Int)) ∨ (26 - ((I186 0 14).toInt - (I 0 14).toInt) ≤ (f : Int) ∧ 0 ≤ ((I186 0 14).toInt - (I 0 14).toInt) ∧ ((I186 0 14).toInt - (I 0 14).toInt) ≤ 24 ∧ 1010 * (500 - (I186 0 35).toInt) + 1000 * (I186 0 15).toInt ≤ 505000 + 1000 * (I 0 15).toInt + 20 * ((I186 0 14).toInt - (I 0 14).toInt)); rw [q0, q1, q2, q3]; omega) ⟨(by show 0 ≤ (I186 0 0).toInt ∧ (I186 0 0).toInt ≤ 719; rw [eI186, z_up_k (by decide)]; exact k168), (by show 0 ≤ (I186 0 1).toInt ∧ (I186 0 1).toInt ≤ 30; rw [eI186, z_up_k (by decide)]; exact k169), (by show 0 ≤ (I186 0 2).toInt ∧ (I186 0 2).toInt ≤ 200; rw [eI186, z_up_k (by decide)]; exact k170)⟩ ⟨(by show 0 ≤ (I186 0 13).toInt ∧ (I186 0 13).toInt ≤ 12; rw [eI186, z_up_k (by decide)]; exact k171), (by show 0 ≤ (I186 0 14).toInt ∧ (I186 0 14).toInt ≤ 288; rw [eI186, z_up_s]; omega)⟩ ⟨(by show 0 ≤ (I186 0 31).toInt ∧ (I186 0 31).toInt ≤ 500; rw [eI186, z_up_k (by decide)]; exact hI165mp.1), (by show 0 ≤ (I186 0 33).toInt ∧ (I186 0 33).toInt ≤ 500; rw [eI186, z_up_k (by decide)]; exact hI165mp.2.1), (by show 0 ≤ (I186 0 34).toInt ∧ (I186 0 34).toInt ≤ 500; rw [eI186, z_up_k (by decide)]; exact hI165mp.2.2.1), (by show 0 ≤ (I186 0 35).toInt ∧ (I186 0 35).toInt ≤ 500; rw [eI186, z_up_k (by decide)]; exact hI165mp.2.2.2)⟩ ⟨(by show 0 ≤ (I186 0 36).toInt ∧ (I186 0 36).toInt ≤ 4; rw [eI186, z_up_k (by decide)]; exact hI165mt.1), (by show 0 ≤ (I186 0 42).toInt ∧ (I186 0 42).toInt ≤ 1; rw [eI186, z_up_k (by decide)]; exact hI165mt.2)⟩ ⟨(by show 0 ≤ (I186 0 47).toInt ∧ (I186 0 47).toInt ≤ 119; rw [eI186, z_up_k (by decide)]; exact hI165md.1), (by show 0 ≤ (I186 0 39).toInt ∧ (I186 0 39).toInt ≤ 100; rw [eI186, z_up_k (by decide)]; exact hI165md.2)⟩ (by show 0 ≤ (I186 0 40).toInt ∧ (I186 0 40).toInt ≤ 6199; rw [eI186, z_up_k (by decide)]; exact hI165mg) (by show 0 ≤ (I186 0 15).toInt ∧ (I186 0 15).toInt ≤ 6100; rw [eI186, z_up_k (by decide)]; exact hI165mn) a188 a189 a190 a191 a192 a193 a194 (by have q0 : (I186 0 35) = (I165 0 35) := (by rw [eI186, z_up_k (by decide)]); have q1 : (I186 0 34) = (I165 0 34) := (by rw [eI186, z_up_k (by decide)]); have q2 : (I186 0 33) = (I165 0 33) := (by rw [eI186, z_up_k (by decide)]); have q3 : (I186 0 36) = (I165 0 36) := (by rw [eI186, z_up_k (by decide)]); show 0 ≤ (I186 0 35).toInt ∧ (I186 0 35).toInt ≤ (I186 0 34).toInt ∧ (I186 0 34).toInt ≤ (I186 0 33).toInt ∧ (I186 0 33).toInt ≤ 500 ∧ ((I186 0 36).toInt = 0 ∨ (I186 0 35).toInt + 1 ≤ (I186 0 34).toInt); rw [q0, q1, q2, q3]; first | omega | decide) (by have q0 : (I186 0 13) = (I165 0 13) := (by rw [eI186, z_up_k (by decide)]); show (I186 0 13).toInt = (I 0 13).toInt; rw [q0]; omega) ⟨((show I186 0 0 = I89 0 0 from by rw [eI186, z_up_k (by decide), fI165 0 0 (by decide)]).trans lp88K.1), (by rw [show I186 0 31 = I89 0 31 from by rw [eI186, z_up_k (by decide), fI165 0 31 (by decide)]]; exact lp88K.2.1), fun j => ⟨((show I186 11 j = I89 11 j from by rw [eI186, z_up_n (by decide), fI165 11 j (z_wr_c (by decide))]).trans (lp88K.2.2 j).1), ((show I186 12 j = I89 12 j from by rw [eI186, z_up_n (by decide), fI165 12 j (z_wr_c (by decide))]).trans (lp88K.2.2 j).2.1), ((show I186 13 j = I89 13 j from by rw [eI186, z_up_n (by decide), fI165 13 j (z_wr_c (by decide))]).trans (lp88K.2.2 j).2.2.1), ((show I186 14 j = I89 14 j from by rw [eI186, z_up_n (by decide), fI165 14 j (z_wr_c (by decide))]).trans (lp88K.2.2 j).2.2.2)⟩⟩ (zm_OL_s eS hC9 hR9 hQ9 e8 t8 hE195 (by have q0 : (I186 0 14) = x185 := (by rw [eI186, z_up_s]); show (I186 0 14).toInt = (I89 0 14).toInt + 1; rw [q0]; omega) eI186 hs179 hr8) f187 hW hS (lv_sub hl [0, 1, 2, 3, 4] rfl)
                    · have h196 := zm_E_L hE8
                      refine lv_aload_n hx hb dX12_orders_114 rfl (lv_at hl 2 rfl) ?_
                      have r197 : 0 ≤ (I165 0 42).toInt ∧ (I165 0 42).toInt ≤ 1 := hI165mt.2
                      refine z_get (T := TX12) (N := 96) (ci := 12) (i := 0) (v := .int (I165 0 42)) hx hb hts zj_X12_orders_X12 hown hK hW rfl rfl 42 (by decide) (hts (.fieldLink RX12 294 "PetrolBoardModel" "isWrong" "Z") (me_s (me_l (me_l (List.mem_of_getElem? (i := 5) rfl))))) (fun _ h => h) rfl dX12_orders_115 ?_
                      refine lv_if_ne (tgt := 74) hx hb dX12_orders_118 (by decide) (fun c198 => ?_) (fun c198 => (by have g := z_f_eq rfl z_l0 c198; omega))
                      have g199 := z_f_ne rfl z_l0 c198
                      exact lp88ih  I165 J167 _ _ _ (by show (¬ (I165 0 42).toInt = 0 ∧ 1 ≤ (f : Int)) ∨ (26 - ((I165 0 14).toInt - (I 0 14).toInt) ≤ (f : Int) ∧ 0 ≤ ((I165 0 14).toInt - (I 0 14).toInt) ∧ ((I165 0 14).toInt - (I 0 14).toInt) ≤ 24 ∧ 1010 * (500 - (I165 0 35).toInt) + 1000 * (I165 0 15).toInt ≤ 505000 + 1000 * (I 0 15).toInt + 20 * ((I165 0 14).toInt - (I 0 14).toInt)); omega) ⟨(by show 0 ≤ (I165 0 0).toInt ∧ (I165 0 0).toInt ≤ 719; exact k168), (by show 0 ≤ (I165 0 1).toInt ∧ (I165 0 1).toInt ≤ 30; exact k169), (by show 0 ≤ (I165 0 2).toInt ∧ (I165 0 2).toInt ≤ 200; exact k170)⟩ ⟨(by show 0 ≤ (I165 0 13).toInt ∧ (I165 0 13).toInt ≤ 12; exact k171), (by show 0 ≤ (I165 0 14).toInt ∧ (I165 0 14).toInt ≤ 288; exact k172)⟩ ⟨(by show 0 ≤ (I165 0 31).toInt ∧ (I165 0 31).toInt ≤ 500; exact hI165mp.1), (by show 0 ≤ (I165 0 33).toInt ∧ (I165 0 33).toInt ≤ 500; exact hI165mp.2.1), (by show 0 ≤ (I165 0 34).toInt ∧ (I165 0 34).toInt ≤ 500; exact hI165mp.2.2.1), (by show 0 ≤ (I165 0 35).toInt ∧ (I165 0 35).toInt ≤ 500; exact hI165mp.2.2.2)⟩ ⟨(by show 0 ≤ (I165 0 36).toInt ∧ (I165 0 36).toInt ≤ 4; exact hI165mt.1), (by show 0 ≤ (I165 0 42).toInt ∧ (I165 0 42).toInt ≤ 1; exact hI165mt.2)⟩ ⟨(by show 0 ≤ (I165 0 47).toInt ∧ (I165 0 47).toInt ≤ 119; exact hI165md.1), (by show 0 ≤ (I165 0 39).toInt ∧ (I165 0 39).toInt ≤ 100; exact hI165md.2)⟩ (by show 0 ≤ (I165 0 40).toInt ∧ (I165 0 40).toInt ≤ 6199; exact hI165mg) (by show 0 ≤ (I165 0 15).toInt ∧ (I165 0 15).toInt ≤ 6100; exact hI165mn) hI165Nd (z_rg_fr lp88Atf fI165 (by decide)) (z_rg_fr lp88Atm fI165 (by decide)) hI165Asf hI165Ast hI165Asc hI165Ex (by show 0 ≤ (I165 0 35).toInt ∧ (I165 0 35).toInt ≤ (I165 0 34).toInt ∧ (I165 0 34).toInt ≤ (I165 0 33).toInt ∧ (I165 0 33).toInt ≤ 500 ∧ ((I165 0 36).toInt = 0 ∨ (I165 0 35).toInt + 1 ≤ (I165 0 34).toInt); first | omega | decide) (by show (I165 0 13).toInt = (I 0 13).toInt; omega) ⟨((show I165 0 0 = I89 0 0 from by rw [fI165 0 0 (by decide)]).trans lp88K.1), (by rw [show I165 0 31 = I89 0 31 from by rw [fI165 0 31 (by decide)]]; exact lp88K.2.1), fun j => ⟨((show I165 11 j = I89 11 j from by rw [fI165 11 j (z_wr_c (by decide))]).trans (lp88K.2.2 j).1), ((show I165 12 j = I89 12 j from by rw [fI165 12 j (z_wr_c (by decide))]).trans (lp88K.2.2 j).2.1), ((show I165 13 j = I89 13 j from by rw [fI165 13 j (z_wr_c (by decide))]).trans (lp88K.2.2 j).2.2.1), ((show I165 14 j = I89 14 j from by rw [fI165 14 j (z_wr_c (by decide))]).trans (lp88K.2.2 j).2.2.2)⟩⟩ (Or.inr ⟨hF8, hE8, fun j hj => zm_q6_t (hs179 j (by have := z_clt (x := I89 0 14) rfl (by omega); omega)) (hQ9 j hj)⟩) f166 hW hS (lv_sub hl [0, 1, 2, 3, 4] rfl)
                  · have g200 := z_f_eq rfl z_l24 c163
                    refine lv_aload_n hx hb dX12_orders_99 rfl (lv_at hl 2 rfl) ?_
                    refine z_cv hW hS hA (va_runV (As := []) (rest := []) ⟨hx, hb, hml, hown, hts⟩ (sx_X12_errs_x l G ad I89 J90 ⟨(by show 0 ≤ (I89 0 36).toInt ∧ (I89 0 36).toInt ≤ 4; exact lp88mt.1), (by show 0 ≤ (I89 0 42).toInt ∧ (I89 0 42).toInt ≤ 1; exact lp88mt.2)⟩  _) (cwV 0 hts gX12_orders_X12_errs rfl rfl rfl (by decide +kernel) ⟨Nat.le_of_ble_eq_true rfl, Nat.le_of_ble_eq_true rfl⟩) (z_preV (i := 0) hK hW rfl rfl) rfl rfl hl.1 rfl (lv_room (Nat.le_of_ble_eq_true rfl)) dX12_orders_100 ⟨Nat.le_of_ble_eq_true rfl, Nat.le_of_ble_eq_true rfl⟩) (fun u1 H locs hp hW hS => ?_)
                    obtain ⟨I201, J203, e9, hI201mt, fI201, hp⟩ := hp
                    rw [e9] at hW
                    have f202 := z_fr_sub (L := L_X12_orders_x) lp88fr fI201 (by decide)
                    have k204 : 0 ≤ (I201 0 0).toInt ∧ (I201 0 0).toInt ≤ 719 := by rw [fI201 0 0 (by decide)]; exact (by show 0 ≤ (I89 0 0).toInt ∧ (I89 0 0).toInt ≤ 719; exact lp88ma.1)
                    have k205 : 0 ≤ (I201 0 1).toInt ∧ (I201 0 1).toInt ≤ 30 := by rw [fI201 0 1 (by decide)]; exact (by show 0 ≤ (I89 0 1).toInt ∧ (I89 0 1).toInt ≤ 30; exact lp88ma.2.1)
                    have k206 : 0 ≤ (I201 0 2).toInt ∧ (I201 0 2).toInt ≤ 200 := by rw [fI201 0 2 (by decide)]; exact (by show 0 ≤ (I89 0 2).toInt ∧ (I89 0 2).toInt ≤ 200; exact lp88ma.2.2)
                    have k207 : 0 ≤ (I201 0 13).toInt ∧ (I201 0 13).toInt ≤ 12 := by rw [fI201 0 13 (by decide)]; exact (by show 0 ≤ (I89 0 13).toInt ∧ (I89 0 13).toInt ≤ 12; exact lp88mb.1)
                    have k208 : 0 ≤ (I201 0 14).toInt ∧ (I201 0 14).toInt ≤ 288 := by rw [fI201 0 14 (by decide)]; exact (by show 0 ≤ (I89 0 14).toInt ∧ (I89 0 14).toInt ≤ 288; exact lp88mb.2)
                    have k209 : 0 ≤ (I201 0 31).toInt ∧ (I201 0 31).toInt ≤ 500 := by rw [fI201 0 31 (by decide)]; exact (by show 0 ≤ (I89 0 31).toInt ∧ (I89 0 31).toInt ≤ 500; exact lp88mp.1)
                    have k210 : 0 ≤ (I201 0 33).toInt ∧ (I201 0 33).toInt ≤ 500 := by rw [fI201 0 33 (by decide)]; exact (by show 0 ≤ (I89 0 33).toInt ∧ (I89 0 33).toInt ≤ 500; exact lp88mp.2.1)
                    have k211 : 0 ≤ (I201 0 34).toInt ∧ (I201 0 34).toInt ≤ 500 := by rw [fI201 0 34 (by decide)]; exact (by show 0 ≤ (I89 0 34).toInt ∧ (I89 0 34).toInt ≤ 500; exact lp88mp.2.2.1)
                    have k212 : 0 ≤ (I201 0 35).toInt ∧ (I201 0 35).toInt ≤ 500 := by rw [fI201 0 35 (by decide)]; exact (by show 0 ≤ (I89 0 35).toInt ∧ (I89 0 35).toInt ≤ 500; exact lp88mp.2.2.2)
                    have k213 : 0 ≤ (I201 0 47).toInt ∧ (I201 0 47).toInt ≤ 119 := by rw [fI201 0 47 (by decide)]; exact (by show 0 ≤ (I89 0 47).toInt ∧ (I89 0 47).toInt ≤ 119; exact lp88md.1)
                    have k214 : 0 ≤ (I201 0 39).toInt ∧ (I201 0 39).toInt ≤ 100 := by rw [fI201 0 39 (by decide)]; exact (by show 0 ≤ (I89 0 39).toInt ∧ (I89 0 39).toInt ≤ 100; exact lp88md.2)
                    have k215 : 0 ≤ (I201 0 40).toInt ∧ (I201 0 40).toInt ≤ 6199 := by rw [fI201 0 40 (by decide)]; exact (by show 0 ≤ (I89 0 40).toInt ∧ (I89 0 40).toInt ≤ 6199; exact lp88mg)
                    have k216 : 0 ≤ (I201 0 15).toInt ∧ (I201 0 15).toInt ≤ 6100 := by rw [fI201 0 15 (by decide)]; exact (by show 0 ≤ (I89 0 15).toInt ∧ (I89 0 15).toInt ≤ 6100; exact lp88mn)
                    have k217 : 0 ≤ (I201 0 35).toInt ∧ (I201 0 35).toInt ≤ (I201 0 34).toInt ∧ (I201 0 34).toInt ≤ (I201 0 33).toInt ∧ (I201 0 33).toInt ≤ 500 ∧ ((I201 0 36).toInt = 0 ∨ (I201 0 35).toInt + 1 ≤ (I201 0 34).toInt) := (by have q0 : (I201 0 35) = (I89 0 35) := (by rw [fI201 0 35 (by decide)]); have q1 : (I201 0 34) = (I89 0 34) := (by rw [fI201 0 34 (by decide)]); have q2 : (I201 0 33) = (I89 0 33) := (by rw [fI201 0 33 (by decide)]); have q3 : (I201 0 36) = (I89 0 36) := (by rw [fI201 0 36 (by decide)]); show 0 ≤ (I201 0 35).toInt ∧ (I201 0 35).toInt ≤ (I201 0 34).toInt ∧ (I201 0 34).toInt ≤ (I201 0 33).toInt ∧ (I201 0 33).toInt ≤ 500 ∧ ((I201 0 36).toInt = 0 ∨ (I201 0 35).toInt + 1 ≤ (I201 0 34).toInt); rw [q0, q1, q2, q3]; first | omega | decide)
                    have k218 : (I201 0 35).toInt = (I89 0 35).toInt := by rw [fI201 0 35 (by decide)]
                    have k219 : (I201 0 34).toInt = (I89 0 34).toInt := by rw [fI201 0 34 (by decide)]
                    have k220 : (I201 0 36).toInt = (I89 0 36).toInt := by rw [fI201 0 36 (by decide)]
                    have k221 : (I201 0 47).toInt = (I89 0 47).toInt := by rw [fI201 0 47 (by decide)]
                    have k222 : (I201 0 39).toInt = (I89 0 39).toInt := by rw [fI201 0 39 (by decide)]
                    have k223 : (I201 0 15).toInt = (I89 0 15).toInt := by rw [fI201 0 15 (by decide)]
                    have k224 : (I201 0 40).toInt = (I89 0 40).toInt := by rw [fI201 0 40 (by decide)]
                    have k225 : (I201 0 14).toInt = (I89 0 14).toInt := by rw [fI201 0 14 (by decide)]
                    have k226 : (I201 0 13).toInt = (I89 0 13).toInt := by rw [fI201 0 13 (by decide)]
                    have k227 : (I201 0 31).toInt = (I89 0 31).toInt := by rw [fI201 0 31 (by decide)]
                    obtain ⟨h228, h229, hJ230⟩ := hp
                    have h231 : ¬ (I201 0 42).toInt = 0 := by omega
                    have hE232 : zm_E gt gv gp ge gh gm n0 I I201 J203 (.inl (ke1)) := zm_E_errs hE9 h228 h229 (fun j => ⟨fI201 21 j (z_wr_c (by decide)), fI201 22 j (z_wr_c (by decide)), fI201 23 j (z_wr_c (by decide))⟩)
                    have h233 := zm_E_L hE232
                    refine lv_goto (tgt := 74) hx hb dX12_orders_103 (by decide) ?_
                    exact lp88ih  I201 J203 _ _ _ (by show (¬ (I201 0 42).toInt = 0 ∧ 1 ≤ (f : Int)) ∨ (26 - ((I201 0 14).toInt - (I 0 14).toInt) ≤ (f : Int) ∧ 0 ≤ ((I201 0 14).toInt - (I 0 14).toInt) ∧ ((I201 0 14).toInt - (I 0 14).toInt) ≤ 24 ∧ 1010 * (500 - (I201 0 35).toInt) + 1000 * (I201 0 15).toInt ≤ 505000 + 1000 * (I 0 15).toInt + 20 * ((I201 0 14).toInt - (I 0 14).toInt)); omega) ⟨(by show 0 ≤ (I201 0 0).toInt ∧ (I201 0 0).toInt ≤ 719; exact k204), (by show 0 ≤ (I201 0 1).toInt ∧ (I201 0 1).toInt ≤ 30; exact k205), (by show 0 ≤ (I201 0 2).toInt ∧ (I201 0 2).toInt ≤ 200; exact k206)⟩ ⟨(by show 0 ≤ (I201 0 13).toInt ∧ (I201 0 13).toInt ≤ 12; exact k207), (by show 0 ≤ (I201 0 14).toInt ∧ (I201 0 14).toInt ≤ 288; exact k208)⟩ ⟨(by show 0 ≤ (I201 0 31).toInt ∧ (I201 0 31).toInt ≤ 500; exact k209), (by show 0 ≤ (I201 0 33).toInt ∧ (I201 0 33).toInt ≤ 500; exact k210), (by show 0 ≤ (I201 0 34).toInt ∧ (I201 0 34).toInt ≤ 500; exact k211), (by show 0 ≤ (I201 0 35).toInt ∧ (I201 0 35).toInt ≤ 500; exact k212)⟩ ⟨(by show 0 ≤ (I201 0 36).toInt ∧ (I201 0 36).toInt ≤ 4; exact hI201mt.1), (by show 0 ≤ (I201 0 42).toInt ∧ (I201 0 42).toInt ≤ 1; exact hI201mt.2)⟩ ⟨(by show 0 ≤ (I201 0 47).toInt ∧ (I201 0 47).toInt ≤ 119; exact k213), (by show 0 ≤ (I201 0 39).toInt ∧ (I201 0 39).toInt ≤ 100; exact k214)⟩ (by show 0 ≤ (I201 0 40).toInt ∧ (I201 0 40).toInt ≤ 6199; exact k215) (by show 0 ≤ (I201 0 15).toInt ∧ (I201 0 15).toInt ≤ 6100; exact k216) (z_Nd_fr lp88Nd fI201 (by decide)) (z_rg_fr lp88Atf fI201 (by decide)) (z_rg_fr lp88Atm fI201 (by decide)) (z_rg_fr lp88Asf fI201 (by decide)) (z_rg_fr lp88Ast fI201 (by decide)) (z_rg_fr lp88Asc fI201 (by decide)) (z_Ex_fr lp88Ex fI201 (by decide)) (by show 0 ≤ (I201 0 35).toInt ∧ (I201 0 35).toInt ≤ (I201 0 34).toInt ∧ (I201 0 34).toInt ≤ (I201 0 33).toInt ∧ (I201 0 33).toInt ≤ 500 ∧ ((I201 0 36).toInt = 0 ∨ (I201 0 35).toInt + 1 ≤ (I201 0 34).toInt); first | omega | decide) (by show (I201 0 13).toInt = (I 0 13).toInt; omega) ⟨((show I201 0 0 = I89 0 0 from by rw [fI201 0 0 (by decide)]).trans lp88K.1), (by rw [show I201 0 31 = I89 0 31 from by rw [fI201 0 31 (by decide)]]; exact lp88K.2.1), fun j => ⟨((show I201 11 j = I89 11 j from by rw [fI201 11 j (z_wr_c (by decide))]).trans (lp88K.2.2 j).1), ((show I201 12 j = I89 12 j from by rw [fI201 12 j (z_wr_c (by decide))]).trans (lp88K.2.2 j).2.1), ((show I201 13 j = I89 13 j from by rw [fI201 13 j (z_wr_c (by decide))]).trans (lp88K.2.2 j).2.2.1), ((show I201 14 j = I89 14 j from by rw [fI201 14 j (z_wr_c (by decide))]).trans (lp88K.2.2 j).2.2.2)⟩⟩ (by obtain ⟨z234, q235⟩ := zm_O_24 eS h24 (by omega) hT9 (by omega) hO; exact Or.inr ⟨z234, by rw [q235]; exact hE232, fun j hj => zm_q6_t ⟨by rw [fI201 15 j (z_wr_c (by decide))], by rw [fI201 16 j (z_wr_c (by decide))], by rw [fI201 17 j (z_wr_c (by decide))], by rw [fI201 18 j (z_wr_c (by decide))], by rw [fI201 19 j (z_wr_c (by decide))], by rw [fI201 20 j (z_wr_c (by decide))]⟩ (hQ9 j hj)⟩) f202 hW hS (lv_sub hl [0, 1, 2, 3, 4] rfl)
              · have h236 := zm_E_L hE9
                have r237 : 0 ≤ (I89 0 36).toInt ∧ (I89 0 36).toInt ≤ 4 := lp88mt.1
                refine z_get (T := TX12) (N := 96) (ci := 12) (i := 0) (v := .int (I89 0 36)) hx hb hts zj_X12_orders_X12 hown hK hW rfl rfl 36 (by decide) (hts (.fieldLink RX12 281 "PetrolBoardModel" "token" "I") (me_s (me_l (me_l (List.mem_of_getElem? (i := 8) rfl))))) (fun _ h => h) rfl dX12_orders_75 ?_
                refine lv_if_eq (tgt := 134) hx hb dX12_orders_78 (by decide) (fun c238 => ?_) (fun c238 => ?_)
                · have g239 := z_f_eq rfl z_l0 c238
                  refine lv_aload_n hx hb dX12_orders_134 rfl (lv_at hl 2 rfl) ?_
                  have r240 : 0 ≤ (I89 0 42).toInt ∧ (I89 0 42).toInt ≤ 1 := lp88mt.2
                  refine z_get (T := TX12) (N := 96) (ci := 12) (i := 0) (v := .int (I89 0 42)) hx hb hts zj_X12_orders_X12 hown hK hW rfl rfl 42 (by decide) (hts (.fieldLink RX12 294 "PetrolBoardModel" "isWrong" "Z") (me_s (me_l (me_l (List.mem_of_getElem? (i := 5) rfl))))) (fun _ h => h) rfl dX12_orders_135 ?_
                  refine lv_if_eq (tgt := 154) hx hb dX12_orders_138 (by decide) (fun c241 => (by have g := z_f_eq rfl z_l0 c241; omega)) (fun c241 => ?_)
                  have g242 := z_f_ne rfl z_l0 c241
                  refine lv_aload_n hx hb dX12_orders_141 rfl (lv_at hl 2 rfl) ?_
                  refine lv_iload_n hx hb dX12_orders_142 rfl (lv_at hl 1 rfl) ?_
                  refine z_put (T := TX12) (N := 96) (ci := 12) (i := 0) (v := .int (I 0 14)) (I1 := z_up I89 0 14 (I 0 14)) (J1 := J90) (P1 := PM ad) hx hb hts zj_X12_orders_X12 tyX12 tyX12_ok nmX12 hown hK hW hS rfl rfl 14 (by decide) (hts (.fieldLink RX12 411 "PetrolBoardModel" "statements" "I") (me_s (me_l (me_l (List.mem_of_getElem? (i := 6) rfl))))) (fun _ h => h) rfl rfl rfl (by first | rfl | exact congrArg _ z_up_s) (fun a b h ty => z_vI h ty) dX12_orders_143 (fun H locs hz1 hW hS => ?_)
                  obtain ⟨I243, eI243⟩ : ∃ K : z_I, K = z_up I89 0 14 (I 0 14) := ⟨_, rfl⟩
                  rw [← eI243] at hW
                  have f244 := z_fr_k lp88fr (show z_wr L_X12_orders_x 0 14 = true by decide) eI243
                  have a245 := z_Nd_n lp88Nd (by decide) eI243
                  have a246 := z_rg_n lp88Atf (by decide) eI243
                  have a247 := z_rg_n lp88Atm (by decide) eI243
                  have a248 := z_rg_n lp88Asf (by decide) eI243
                  have a249 := z_rg_n lp88Ast (by decide) eI243
                  have a250 := z_rg_n lp88Asc (by decide) eI243
                  have a251 := z_Ex_n lp88Ex (by decide) eI243
                  have hE252 : zm_E gt gv gp ge gh gm n0 I I243 J90 (.inl (ff)) := zm_E_k hE9 eI243 (by decide)
                  refine lv_aload_n hx hb dX12_orders_146 rfl (lv_at hl 2 rfl) ?_
                  refine lv_iload hx hb dX12_orders_147 (lv_at hl 0 rfl) ?_
                  refine z_put (T := TX12) (N := 96) (ci := 12) (i := 0) (v := .int (I 0 15)) (I1 := z_up I243 0 15 (I 0 15)) (J1 := J90) (P1 := PM ad) hx hb hts zj_X12_orders_X12 tyX12 tyX12_ok nmX12 hown hK hW hS rfl rfl 15 (by decide) (hts (.fieldLink RX12 337 "PetrolBoardModel" "nodes" "I") (me_s (me_l (me_l (List.mem_of_getElem? (i := 7) rfl))))) (fun _ h => h) rfl rfl rfl (by first | rfl | exact congrArg _ z_up_s) (fun a b h ty => z_vI h ty) dX12_orders_149 (fun H locs hz1 hW hS => ?_)
                  obtain ⟨I253, eI253⟩ : ∃ K : z_I, K = z_up I243 0 15 (I 0 15) := ⟨_, rfl⟩
                  rw [← eI253] at hW
                  have f254 := z_fr_k f244 (show z_wr L_X12_orders_x 0 15 = true by decide) eI253
                  have a255 := z_Nd_n a245 (by decide) eI253
                  have a256 := z_rg_n a246 (by decide) eI253
                  have a257 := z_rg_n a247 (by decide) eI253
                  have a258 := z_rg_n a248 (by decide) eI253
                  have a259 := z_rg_n a249 (by decide) eI253
                  have a260 := z_rg_n a250 (by decide) eI253
                  have a261 := z_Ex_n a251 (by decide) eI253
                  have hE262 : zm_E gt gv gp ge gh gm n0 I I253 J90 (.inl (ff)) := zm_E_k hE252 eI253 (by decide)
                  refine lv_iconst (v := (-1)) hx hb dX12_orders_152 (by decide) ?_
                  exact z_iret hx hb hr hK hS (Nat.le_of_ble_eq_true rfl) (Nat.le_of_ble_eq_true rfl) hlocks dX12_orders_153 (shM, ad, I253, J90, PM ad) hW ⟨I253, J90, rfl, ⟨(by show 0 ≤ (I253 0 0).toInt ∧ (I253 0 0).toInt ≤ 719; rw [eI253, z_up_k (by decide), eI243, z_up_k (by decide)]; exact lp88ma.1), (by show 0 ≤ (I253 0 1).toInt ∧ (I253 0 1).toInt ≤ 30; rw [eI253, z_up_k (by decide), eI243, z_up_k (by decide)]; exact lp88ma.2.1), (by show 0 ≤ (I253 0 2).toInt ∧ (I253 0 2).toInt ≤ 200; rw [eI253, z_up_k (by decide), eI243, z_up_k (by decide)]; exact lp88ma.2.2)⟩, ⟨(by show 0 ≤ (I253 0 13).toInt ∧ (I253 0 13).toInt ≤ 12; rw [eI253, z_up_k (by decide), eI243, z_up_k (by decide)]; exact lp88mb.1), (by show 0 ≤ (I253 0 14).toInt ∧ (I253 0 14).toInt ≤ 288; rw [eI253, z_up_k (by decide), eI243, z_up_s]; omega)⟩, ⟨(by show 0 ≤ (I253 0 31).toInt ∧ (I253 0 31).toInt ≤ 500; rw [eI253, z_up_k (by decide), eI243, z_up_k (by decide)]; exact lp88mp.1), (by show 0 ≤ (I253 0 33).toInt ∧ (I253 0 33).toInt ≤ 500; rw [eI253, z_up_k (by decide), eI243, z_up_k (by decide)]; exact lp88mp.2.1), (by show 0 ≤ (I253 0 34).toInt ∧ (I253 0 34).toInt ≤ 500; rw [eI253, z_up_k (by decide), eI243, z_up_k (by decide)]; exact lp88mp.2.2.1), (by show 0 ≤ (I253 0 35).toInt ∧ (I253 0 35).toInt ≤ 500; rw [eI253, z_up_k (by decide), eI243, z_up_k (by decide)]; exact lp88mp.2.2.2)⟩, ⟨(by show 0 ≤ (I253 0 36).toInt ∧ (I253 0 36).toInt ≤ 4; rw [eI253, z_up_k (by decide), eI243, z_up_k (by decide)]; exact lp88mt.1), (by show 0 ≤ (I253 0 42).toInt ∧ (I253 0 42).toInt ≤ 1; rw [eI253, z_up_k (by decide), eI243, z_up_k (by decide)]; exact lp88mt.2)⟩, ⟨(by show 0 ≤ (I253 0 47).toInt ∧ (I253 0 47).toInt ≤ 119; rw [eI253, z_up_k (by decide), eI243, z_up_k (by decide)]; exact lp88md.1), (by show 0 ≤ (I253 0 39).toInt ∧ (I253 0 39).toInt ≤ 100; rw [eI253, z_up_k (by decide), eI243, z_up_k (by decide)]; exact lp88md.2)⟩, (by show 0 ≤ (I253 0 40).toInt ∧ (I253 0 40).toInt ≤ 6199; rw [eI253, z_up_k (by decide), eI243, z_up_k (by decide)]; exact lp88mg), (by show 0 ≤ (I253 0 15).toInt ∧ (I253 0 15).toInt ≤ 6100; rw [eI253, z_up_s]; omega), a255, a256, a257, a258, a259, a260, a261, (by have q0 : (I253 0 13) = (I89 0 13) := (by rw [eI253, z_up_k (by decide), eI243, z_up_k (by decide)]); have q1 : (I253 0 14) = (I 0 14) := (by rw [eI253, z_up_k (by decide), eI243, z_up_s]); have q2 : (I253 0 15) = (I 0 15) := (by rw [eI253, z_up_s]); show (I253 0 14).toInt ≤ 24 * (I253 0 13).toInt ∧ (I253 0 15).toInt ≤ 505 * (I253 0 13).toInt; rw [q0, q1, q2]; first | omega | decide), f254, (Or.inr (Or.inr ⟨⟨by omega, by omega, by omega, by omega⟩, by omega, (by rw [show I253 0 31 = I89 0 31 from by rw [eI253, z_up_k (by decide), eI243, z_up_k (by decide)]]; exact lp88K.2.1), (fun j hj => zm_q6_t ⟨by rw [eI253, z_up_n (by decide), eI243, z_up_n (by decide)], by rw [eI253, z_up_n (by decide), eI243, z_up_n (by decide)], by rw [eI253, z_up_n (by decide), eI243, z_up_n (by decide)], by rw [eI253, z_up_n (by decide), eI243, z_up_n (by decide)], by rw [eI253, z_up_n (by decide), eI243, z_up_n (by decide)], by rw [eI253, z_up_n (by decide), eI243, z_up_n (by decide)]⟩ (hQ9 j hj)), (zm_E_fa hE262).2.2, Or.inl ⟨by decide, hF9, (zm_E_fa hE262).1, (by have q0 : (I253 0 13) = (I89 0 13) := (by rw [eI253, z_up_k (by decide), eI243, z_up_k (by decide)]); show (I253 0 13).toInt = (x0 : Int); rw [q0]; omega), (by have q0 : (I253 0 14) = (I 0 14) := (by rw [eI253, z_up_k (by decide), eI243, z_up_s]); show (I253 0 14).toInt = (st0 : Int); rw [q0]; omega), (by have q0 : (I253 0 15) = (I 0 15) := (by rw [eI253, z_up_s]); show (I253 0 15).toInt = (n0 : Int); rw [q0]; omega), fun j => ⟨((show I253 11 j = I89 11 j from by rw [eI253, z_up_n (by decide), eI243, z_up_n (by decide)]).trans (lp88K.2.2 j).1), ((show I253 12 j = I89 12 j from by rw [eI253, z_up_n (by decide), eI243, z_up_n (by decide)]).trans (lp88K.2.2 j).2.1), ((show I253 13 j = I89 13 j from by rw [eI253, z_up_n (by decide), eI243, z_up_n (by decide)]).trans (lp88K.2.2 j).2.2.1), ((show I253 14 j = I89 14 j from by rw [eI253, z_up_n (by decide), eI243, z_up_n (by decide)]).trans (lp88K.2.2 j).2.2.2)⟩⟩⟩))⟩
                · have g263 := z_f_ne rfl z_l0 c238
                  refine lv_aload_n hx hb dX12_orders_81 rfl (lv_at hl 2 rfl) ?_
                  have r264 : 0 ≤ (I89 0 42).toInt ∧ (I89 0 42).toInt ≤ 1 := lp88mt.2
                  refine z_get (T := TX12) (N := 96) (ci := 12) (i := 0) (v := .int (I89 0 42)) hx hb hts zj_X12_orders_X12 hown hK hW rfl rfl 42 (by decide) (hts (.fieldLink RX12 294 "PetrolBoardModel" "isWrong" "Z") (me_s (me_l (me_l (List.mem_of_getElem? (i := 5) rfl))))) (fun _ h => h) rfl dX12_orders_82 ?_
                  refine lv_if_ne (tgt := 134) hx hb dX12_orders_85 (by decide) (fun c265 => ?_) (fun c265 => (by have g := z_f_eq rfl z_l0 c265; omega))
                  have g266 := z_f_ne rfl z_l0 c265
                  refine lv_aload_n hx hb dX12_orders_134 rfl (lv_at hl 2 rfl) ?_
                  refine z_get (T := TX12) (N := 96) (ci := 12) (i := 0) (v := .int (I89 0 42)) hx hb hts zj_X12_orders_X12 hown hK hW rfl rfl 42 (by decide) (hts (.fieldLink RX12 294 "PetrolBoardModel" "isWrong" "Z") (me_s (me_l (me_l (List.mem_of_getElem? (i := 5) rfl))))) (fun _ h => h) rfl dX12_orders_135 ?_
                  refine lv_if_eq (tgt := 154) hx hb dX12_orders_138 (by decide) (fun c267 => (by have g := z_f_eq rfl z_l0 c267; omega)) (fun c267 => ?_)
                  have g268 := z_f_ne rfl z_l0 c267
                  refine lv_aload_n hx hb dX12_orders_141 rfl (lv_at hl 2 rfl) ?_
                  refine lv_iload_n hx hb dX12_orders_142 rfl (lv_at hl 1 rfl) ?_
                  refine z_put (T := TX12) (N := 96) (ci := 12) (i := 0) (v := .int (I 0 14)) (I1 := z_up I89 0 14 (I 0 14)) (J1 := J90) (P1 := PM ad) hx hb hts zj_X12_orders_X12 tyX12 tyX12_ok nmX12 hown hK hW hS rfl rfl 14 (by decide) (hts (.fieldLink RX12 411 "PetrolBoardModel" "statements" "I") (me_s (me_l (me_l (List.mem_of_getElem? (i := 6) rfl))))) (fun _ h => h) rfl rfl rfl (by first | rfl | exact congrArg _ z_up_s) (fun a b h ty => z_vI h ty) dX12_orders_143 (fun H locs hz1 hW hS => ?_)
                  obtain ⟨I269, eI269⟩ : ∃ K : z_I, K = z_up I89 0 14 (I 0 14) := ⟨_, rfl⟩
                  rw [← eI269] at hW
                  have f270 := z_fr_k lp88fr (show z_wr L_X12_orders_x 0 14 = true by decide) eI269
                  have a271 := z_Nd_n lp88Nd (by decide) eI269
                  have a272 := z_rg_n lp88Atf (by decide) eI269
                  have a273 := z_rg_n lp88Atm (by decide) eI269
                  have a274 := z_rg_n lp88Asf (by decide) eI269
                  have a275 := z_rg_n lp88Ast (by decide) eI269
                  have a276 := z_rg_n lp88Asc (by decide) eI269
                  have a277 := z_Ex_n lp88Ex (by decide) eI269
                  have hE278 : zm_E gt gv gp ge gh gm n0 I I269 J90 (.inl (ff)) := zm_E_k hE9 eI269 (by decide)
                  refine lv_aload_n hx hb dX12_orders_146 rfl (lv_at hl 2 rfl) ?_
                  refine lv_iload hx hb dX12_orders_147 (lv_at hl 0 rfl) ?_
                  refine z_put (T := TX12) (N := 96) (ci := 12) (i := 0) (v := .int (I 0 15)) (I1 := z_up I269 0 15 (I 0 15)) (J1 := J90) (P1 := PM ad) hx hb hts zj_X12_orders_X12 tyX12 tyX12_ok nmX12 hown hK hW hS rfl rfl 15 (by decide) (hts (.fieldLink RX12 337 "PetrolBoardModel" "nodes" "I") (me_s (me_l (me_l (List.mem_of_getElem? (i := 7) rfl))))) (fun _ h => h) rfl rfl rfl (by first | rfl | exact congrArg _ z_up_s) (fun a b h ty => z_vI h ty) dX12_orders_149 (fun H locs hz1 hW hS => ?_)
                  obtain ⟨I279, eI279⟩ : ∃ K : z_I, K = z_up I269 0 15 (I 0 15) := ⟨_, rfl⟩
                  rw [← eI279] at hW
                  have f280 := z_fr_k f270 (show z_wr L_X12_orders_x 0 15 = true by decide) eI279
                  have a281 := z_Nd_n a271 (by decide) eI279
                  have a282 := z_rg_n a272 (by decide) eI279
                  have a283 := z_rg_n a273 (by decide) eI279
                  have a284 := z_rg_n a274 (by decide) eI279
                  have a285 := z_rg_n a275 (by decide) eI279
                  have a286 := z_rg_n a276 (by decide) eI279
                  have a287 := z_Ex_n a277 (by decide) eI279
                  have hE288 : zm_E gt gv gp ge gh gm n0 I I279 J90 (.inl (ff)) := zm_E_k hE278 eI279 (by decide)
                  refine lv_iconst (v := (-1)) hx hb dX12_orders_152 (by decide) ?_
                  exact z_iret hx hb hr hK hS (Nat.le_of_ble_eq_true rfl) (Nat.le_of_ble_eq_true rfl) hlocks dX12_orders_153 (shM, ad, I279, J90, PM ad) hW ⟨I279, J90, rfl, ⟨(by show 0 ≤ (I279 0 0).toInt ∧ (I279 0 0).toInt ≤ 719; rw [eI279, z_up_k (by decide), eI269, z_up_k (by decide)]; exact lp88ma.1), (by show 0 ≤ (I279 0 1).toInt ∧ (I279 0 1).toInt ≤ 30; rw [eI279, z_up_k (by decide), eI269, z_up_k (by decide)]; exact lp88ma.2.1), (by show 0 ≤ (I279 0 2).toInt ∧ (I279 0 2).toInt ≤ 200; rw [eI279, z_up_k (by decide), eI269, z_up_k (by decide)]; exact lp88ma.2.2)⟩, ⟨(by show 0 ≤ (I279 0 13).toInt ∧ (I279 0 13).toInt ≤ 12; rw [eI279, z_up_k (by decide), eI269, z_up_k (by decide)]; exact lp88mb.1), (by show 0 ≤ (I279 0 14).toInt ∧ (I279 0 14).toInt ≤ 288; rw [eI279, z_up_k (by decide), eI269, z_up_s]; omega)⟩, ⟨(by show 0 ≤ (I279 0 31).toInt ∧ (I279 0 31).toInt ≤ 500; rw [eI279, z_up_k (by decide), eI269, z_up_k (by decide)]; exact lp88mp.1), (by show 0 ≤ (I279 0 33).toInt ∧ (I279 0 33).toInt ≤ 500; rw [eI279, z_up_k (by decide), eI269, z_up_k (by decide)]; exact lp88mp.2.1), (by show 0 ≤ (I279 0 34).toInt ∧ (I279 0 34).toInt ≤ 500; rw [eI279, z_up_k (by decide), eI269, z_up_k (by decide)]; exact lp88mp.2.2.1), (by show 0 ≤ (I279 0 35).toInt ∧ (I279 0 35).toInt ≤ 500; rw [eI279, z_up_k (by decide), eI269, z_up_k (by decide)]; exact lp88mp.2.2.2)⟩, ⟨(by show 0 ≤ (I279 0 36).toInt ∧ (I279 0 36).toInt ≤ 4; rw [eI279, z_up_k (by decide), eI269, z_up_k (by decide)]; exact lp88mt.1), (by show 0 ≤ (I279 0 42).toInt ∧ (I279 0 42).toInt ≤ 1; rw [eI279, z_up_k (by decide), eI269, z_up_k (by decide)]; exact lp88mt.2)⟩, ⟨(by show 0 ≤ (I279 0 47).toInt ∧ (I279 0 47).toInt ≤ 119; rw [eI279, z_up_k (by decide), eI269, z_up_k (by decide)]; exact lp88md.1), (by show 0 ≤ (I279 0 39).toInt ∧ (I279 0 39).toInt ≤ 100; rw [eI279, z_up_k (by decide), eI269, z_up_k (by decide)]; exact lp88md.2)⟩, (by show 0 ≤ (I279 0 40).toInt ∧ (I279 0 40).toInt ≤ 6199; rw [eI279, z_up_k (by decide), eI269, z_up_k (by decide)]; exact lp88mg), (by show 0 ≤ (I279 0 15).toInt ∧ (I279 0 15).toInt ≤ 6100; rw [eI279, z_up_s]; omega), a281, a282, a283, a284, a285, a286, a287, (by have q0 : (I279 0 13) = (I89 0 13) := (by rw [eI279, z_up_k (by decide), eI269, z_up_k (by decide)]); have q1 : (I279 0 14) = (I 0 14) := (by rw [eI279, z_up_k (by decide), eI269, z_up_s]); have q2 : (I279 0 15) = (I 0 15) := (by rw [eI279, z_up_s]); show (I279 0 14).toInt ≤ 24 * (I279 0 13).toInt ∧ (I279 0 15).toInt ≤ 505 * (I279 0 13).toInt; rw [q0, q1, q2]; first | omega | decide), f280, (Or.inr (Or.inr ⟨⟨by omega, by omega, by omega, by omega⟩, by omega, (by rw [show I279 0 31 = I89 0 31 from by rw [eI279, z_up_k (by decide), eI269, z_up_k (by decide)]]; exact lp88K.2.1), (fun j hj => zm_q6_t ⟨by rw [eI279, z_up_n (by decide), eI269, z_up_n (by decide)], by rw [eI279, z_up_n (by decide), eI269, z_up_n (by decide)], by rw [eI279, z_up_n (by decide), eI269, z_up_n (by decide)], by rw [eI279, z_up_n (by decide), eI269, z_up_n (by decide)], by rw [eI279, z_up_n (by decide), eI269, z_up_n (by decide)], by rw [eI279, z_up_n (by decide), eI269, z_up_n (by decide)]⟩ (hQ9 j hj)), (zm_E_fa hE288).2.2, Or.inl ⟨by decide, hF9, (zm_E_fa hE288).1, (by have q0 : (I279 0 13) = (I89 0 13) := (by rw [eI279, z_up_k (by decide), eI269, z_up_k (by decide)]); show (I279 0 13).toInt = (x0 : Int); rw [q0]; omega), (by have q0 : (I279 0 14) = (I 0 14) := (by rw [eI279, z_up_k (by decide), eI269, z_up_s]); show (I279 0 14).toInt = (st0 : Int); rw [q0]; omega), (by have q0 : (I279 0 15) = (I 0 15) := (by rw [eI279, z_up_s]); show (I279 0 15).toInt = (n0 : Int); rw [q0]; omega), fun j => ⟨((show I279 11 j = I89 11 j from by rw [eI279, z_up_n (by decide), eI269, z_up_n (by decide)]).trans (lp88K.2.2 j).1), ((show I279 12 j = I89 12 j from by rw [eI279, z_up_n (by decide), eI269, z_up_n (by decide)]).trans (lp88K.2.2 j).2.1), ((show I279 13 j = I89 13 j from by rw [eI279, z_up_n (by decide), eI269, z_up_n (by decide)]).trans (lp88K.2.2 j).2.2.1), ((show I279 14 j = I89 14 j from by rw [eI279, z_up_n (by decide), eI269, z_up_n (by decide)]).trans (lp88K.2.2 j).2.2.2)⟩⟩⟩))⟩
          exact lp88 30  I64 J66 _ _ _ (by show (¬ (I64 0 42).toInt = 0 ∧ 1 ≤ ((30 : Nat) : Int)) ∨ (26 - ((I64 0 14).toInt - (I 0 14).toInt) ≤ ((30 : Nat) : Int) ∧ 0 ≤ ((I64 0 14).toInt - (I 0 14).toInt) ∧ ((I64 0 14).toInt - (I 0 14).toInt) ≤ 24 ∧ 1010 * (500 - (I64 0 35).toInt) + 1000 * (I64 0 15).toInt ≤ 505000 + 1000 * (I 0 15).toInt + 20 * ((I64 0 14).toInt - (I 0 14).toInt)); omega) ⟨(by show 0 ≤ (I64 0 0).toInt ∧ (I64 0 0).toInt ≤ 719; exact k67), (by show 0 ≤ (I64 0 1).toInt ∧ (I64 0 1).toInt ≤ 30; exact k68), (by show 0 ≤ (I64 0 2).toInt ∧ (I64 0 2).toInt ≤ 200; exact k69)⟩ ⟨(by show 0 ≤ (I64 0 13).toInt ∧ (I64 0 13).toInt ≤ 12; exact k70), (by show 0 ≤ (I64 0 14).toInt ∧ (I64 0 14).toInt ≤ 288; exact k71)⟩ ⟨(by show 0 ≤ (I64 0 31).toInt ∧ (I64 0 31).toInt ≤ 500; exact hI64mp.1), (by show 0 ≤ (I64 0 33).toInt ∧ (I64 0 33).toInt ≤ 500; exact hI64mp.2.1), (by show 0 ≤ (I64 0 34).toInt ∧ (I64 0 34).toInt ≤ 500; exact hI64mp.2.2.1), (by show 0 ≤ (I64 0 35).toInt ∧ (I64 0 35).toInt ≤ 500; exact hI64mp.2.2.2)⟩ ⟨(by show 0 ≤ (I64 0 36).toInt ∧ (I64 0 36).toInt ≤ 4; exact hI64mt.1), (by show 0 ≤ (I64 0 42).toInt ∧ (I64 0 42).toInt ≤ 1; exact hI64mt.2)⟩ ⟨(by show 0 ≤ (I64 0 47).toInt ∧ (I64 0 47).toInt ≤ 119; exact k72), (by show 0 ≤ (I64 0 39).toInt ∧ (I64 0 39).toInt ≤ 100; exact k73)⟩ (by show 0 ≤ (I64 0 40).toInt ∧ (I64 0 40).toInt ≤ 6199; exact k74) (by show 0 ≤ (I64 0 15).toInt ∧ (I64 0 15).toInt ≤ 6100; exact k75) (z_Nd_fr a55 fI64 (by decide)) (z_rg_fr a56 fI64 (by decide)) (z_rg_fr a57 fI64 (by decide)) (z_rg_fr a58 fI64 (by decide)) (z_rg_fr a59 fI64 (by decide)) (z_rg_fr a60 fI64 (by decide)) (z_Ex_fr a61 fI64 (by decide)) (by show 0 ≤ (I64 0 35).toInt ∧ (I64 0 35).toInt ≤ (I64 0 34).toInt ∧ (I64 0 34).toInt ≤ (I64 0 33).toInt ∧ (I64 0 33).toInt ≤ 500 ∧ ((I64 0 36).toInt = 0 ∨ (I64 0 35).toInt + 1 ≤ (I64 0 34).toInt); first | omega | decide) (by show (I64 0 13).toInt = (I 0 13).toInt; omega) ⟨(by rw [fI64 0 0 (by decide), eI53, z_up_k (by decide), eI44, z_up_k (by decide), eI35, z_up_k (by decide), eI26, z_up_k (by decide), eI17, z_up_k (by decide)]), (by show (I64 0 31).toInt = 0; first | omega | decide), fun j => ⟨(by rw [fI64 11 j (z_wr_c (by decide)), eI53, z_up_n (by decide), eI44, z_up_n (by decide), eI35, z_up_n (by decide), eI26, z_up_n (by decide), eI17, z_up_n (by decide)]), (by rw [fI64 12 j (z_wr_c (by decide)), eI53, z_up_n (by decide), eI44, z_up_n (by decide), eI35, z_up_n (by decide), eI26, z_up_n (by decide), eI17, z_up_n (by decide)]), (by rw [fI64 13 j (z_wr_c (by decide)), eI53, z_up_n (by decide), eI44, z_up_n (by decide), eI35, z_up_n (by decide), eI26, z_up_n (by decide), eI17, z_up_n (by decide)]), (by rw [fI64 14 j (z_wr_c (by decide)), eI53, z_up_n (by decide), eI44, z_up_n (by decide), eI35, z_up_n (by decide), eI26, z_up_n (by decide), eI17, z_up_n (by decide)])⟩⟩ (zm_OL_0 hT0 hE0 (by show (I64 0 14).toInt = (st0 : Int); omega) (fun j _ => ⟨by rw [fI64 15 j (z_wr_c (by decide)), eI53, z_up_n (by decide), eI44, z_up_n (by decide), eI35, z_up_n (by decide), eI26, z_up_n (by decide), eI17, z_up_n (by decide)], by rw [fI64 16 j (z_wr_c (by decide)), eI53, z_up_n (by decide), eI44, z_up_n (by decide), eI35, z_up_n (by decide), eI26, z_up_n (by decide), eI17, z_up_n (by decide)], by rw [fI64 17 j (z_wr_c (by decide)), eI53, z_up_n (by decide), eI44, z_up_n (by decide), eI35, z_up_n (by decide), eI26, z_up_n (by decide), eI17, z_up_n (by decide)], by rw [fI64 18 j (z_wr_c (by decide)), eI53, z_up_n (by decide), eI44, z_up_n (by decide), eI35, z_up_n (by decide), eI26, z_up_n (by decide), eI17, z_up_n (by decide)], by rw [fI64 19 j (z_wr_c (by decide)), eI53, z_up_n (by decide), eI44, z_up_n (by decide), eI35, z_up_n (by decide), eI26, z_up_n (by decide), eI17, z_up_n (by decide)], by rw [fI64 20 j (z_wr_c (by decide)), eI53, z_up_n (by decide), eI44, z_up_n (by decide), eI35, z_up_n (by decide), eI26, z_up_n (by decide), eI17, z_up_n (by decide)]⟩)) f65 hW hS (lv_sub hl [0, 1, 2, 3, 4] rfl)
        · have g289 := z_f_eq rfl z_l12 c15
          refine lv_bipush (v := (-3)) hx hb dX12_orders_31 (by decide) ?_
          exact z_iret hx hb hr hK hS (Nat.le_of_ble_eq_true rfl) (Nat.le_of_ble_eq_true rfl) hlocks dX12_orders_33 (shM, ad, I, J, PM ad) hW ⟨I, J, rfl, ⟨(by show 0 ≤ (I 0 0).toInt ∧ (I 0 0).toInt ≤ 719; exact hma.1), (by show 0 ≤ (I 0 1).toInt ∧ (I 0 1).toInt ≤ 30; exact hma.2.1), (by show 0 ≤ (I 0 2).toInt ∧ (I 0 2).toInt ≤ 200; exact hma.2.2)⟩, ⟨(by show 0 ≤ (I 0 13).toInt ∧ (I 0 13).toInt ≤ 12; exact hmb.1), (by show 0 ≤ (I 0 14).toInt ∧ (I 0 14).toInt ≤ 288; exact hmb.2)⟩, ⟨(by show 0 ≤ (I 0 31).toInt ∧ (I 0 31).toInt ≤ 500; exact hmp.1), (by show 0 ≤ (I 0 33).toInt ∧ (I 0 33).toInt ≤ 500; exact hmp.2.1), (by show 0 ≤ (I 0 34).toInt ∧ (I 0 34).toInt ≤ 500; exact hmp.2.2.1), (by show 0 ≤ (I 0 35).toInt ∧ (I 0 35).toInt ≤ 500; exact hmp.2.2.2)⟩, ⟨(by show 0 ≤ (I 0 36).toInt ∧ (I 0 36).toInt ≤ 4; exact hmt.1), (by show 0 ≤ (I 0 42).toInt ∧ (I 0 42).toInt ≤ 1; exact hmt.2)⟩, ⟨(by show 0 ≤ (I 0 47).toInt ∧ (I 0 47).toInt ≤ 119; exact hmd.1), (by show 0 ≤ (I 0 39).toInt ∧ (I 0 39).toInt ≤ 100; exact hmd.2)⟩, (by show 0 ≤ (I 0 40).toInt ∧ (I 0 40).toInt ≤ 6199; exact hmg), (by show 0 ≤ (I 0 15).toInt ∧ (I 0 15).toInt ≤ 6100; exact hmn), hNd, hAtf, hAtm, hAsf, hAst, hAsc, hEx, (by show (I 0 14).toInt ≤ 24 * (I 0 13).toInt ∧ (I 0 15).toInt ≤ 505 * (I 0 13).toInt; first | omega | decide), z_fr_0, (Or.inr (Or.inl ⟨by decide, ⟨by omega, by omega, by omega, by omega⟩, by omega, rfl, rfl⟩))⟩
      · have h290 := h11
        refine lv_if_ne (tgt := 22) hx hb dX12_orders_16 (by decide) (fun c291 => absurd (by decide) c291) (fun c291 => ?_)
        refine lv_bipush (v := (-2)) hx hb dX12_orders_19 (by decide) ?_
        exact z_iret hx hb hr hK hS (Nat.le_of_ble_eq_true rfl) (Nat.le_of_ble_eq_true rfl) hlocks dX12_orders_21 (shM, ad, I, J, PM ad) hW ⟨I, J, rfl, ⟨(by show 0 ≤ (I 0 0).toInt ∧ (I 0 0).toInt ≤ 719; exact hma.1), (by show 0 ≤ (I 0 1).toInt ∧ (I 0 1).toInt ≤ 30; exact hma.2.1), (by show 0 ≤ (I 0 2).toInt ∧ (I 0 2).toInt ≤ 200; exact hma.2.2)⟩, ⟨(by show 0 ≤ (I 0 13).toInt ∧ (I 0 13).toInt ≤ 12; exact hmb.1), (by show 0 ≤ (I 0 14).toInt ∧ (I 0 14).toInt ≤ 288; exact hmb.2)⟩, ⟨(by show 0 ≤ (I 0 31).toInt ∧ (I 0 31).toInt ≤ 500; exact hmp.1), (by show 0 ≤ (I 0 33).toInt ∧ (I 0 33).toInt ≤ 500; exact hmp.2.1), (by show 0 ≤ (I 0 34).toInt ∧ (I 0 34).toInt ≤ 500; exact hmp.2.2.1), (by show 0 ≤ (I 0 35).toInt ∧ (I 0 35).toInt ≤ 500; exact hmp.2.2.2)⟩, ⟨(by show 0 ≤ (I 0 36).toInt ∧ (I 0 36).toInt ≤ 4; exact hmt.1), (by show 0 ≤ (I 0 42).toInt ∧ (I 0 42).toInt ≤ 1; exact hmt.2)⟩, ⟨(by show 0 ≤ (I 0 47).toInt ∧ (I 0 47).toInt ≤ 119; exact hmd.1), (by show 0 ≤ (I 0 39).toInt ∧ (I 0 39).toInt ≤ 100; exact hmd.2)⟩, (by show 0 ≤ (I 0 40).toInt ∧ (I 0 40).toInt ≤ 6199; exact hmg), (by show 0 ≤ (I 0 15).toInt ∧ (I 0 15).toInt ≤ 6100; exact hmn), hNd, hAtf, hAtm, hAsf, hAst, hAsc, hEx, (by show (I 0 14).toInt ≤ 24 * (I 0 13).toInt ∧ (I 0 15).toInt ≤ 505 * (I 0 13).toInt; first | omega | decide), z_fr_0, (Or.inl ⟨by decide, fun q => by unfold zm_ok at q; omega, rfl, rfl⟩)⟩
