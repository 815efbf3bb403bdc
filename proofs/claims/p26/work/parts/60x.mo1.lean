

/-! a text of the reference -/
def zm_F (gt gv : Nat → Int) (ss : List zp_T) (ke ff : Nat) : Prop := gt ke ≠ 401 ∧ ((ss.length = 24 ∧ ff = ke) ∨ (ss.length < 24 ∧ (zp_sn gt gv ke ff ∨ ∃ k1 s, zp_sm gt gv ke k1 s ∧ gt k1 ≠ 59 ∧ ff = k1)))
abbrev zm_row : Type := zp_T × List zp_N × List zp_N
def zm_fl : List zm_row → List zp_N
  | [] => []
  | (_, a, b) :: rs => a ++ (b ++ zm_fl rs)
theorem zm_fl_snoc (s : zp_T) (a b : List zp_N) : ∀ rs : List zm_row, zm_fl (rs ++ [(s, a, b)]) = zm_fl rs ++ (a ++ b)
  | [] => by
    show a ++ (b ++ []) = [] ++ (a ++ b)
    rw [List.append_nil, List.nil_append]
  | (s1, a1, b1) :: rs => by
    show a1 ++ (b1 ++ zm_fl (rs ++ [(s, a, b)])) = (a1 ++ (b1 ++ zm_fl rs)) ++ (a ++ b)
    rw [zm_fl_snoc s a b rs, List.append_assoc, List.append_assoc]
def zm_q6 (K I : z_I) (j : Nat) : Prop := K 15 j = I 15 j ∧ K 16 j = I 16 j ∧ K 17 j = I 17 j ∧ K 18 j = I 18 j ∧ K 19 j = I 19 j ∧ K 20 j = I 20 j
theorem zm_q6_t {I K M : z_I} {j : Nat} (h : zm_q6 M K j) (h2 : zm_q6 K I j) : zm_q6 M I j := ⟨h.1.trans h2.1, h.2.1.trans h2.2.1, h.2.2.1.trans h2.2.2.1, h.2.2.2.1.trans h2.2.2.2.1, h.2.2.2.2.1.trans h2.2.2.2.2.1, h.2.2.2.2.2.trans h2.2.2.2.2.2⟩
theorem zm_q6_z {I K : z_I} {n j : Nat} {v : Int32} (e : K = z_up I 0 n v) : zm_q6 K I j := ⟨by rw [e, z_up_n (by decide)], by rw [e, z_up_n (by decide)], by rw [e, z_up_n (by decide)], by rw [e, z_up_n (by decide)], by rw [e, z_up_n (by decide)], by rw [e, z_up_n (by decide)]⟩
theorem zm_rw_c {I K : z_I} {F0 i : Nat} {s : zp_T} {a b : List zp_N} (hc : zm_q6 K I i) (h : zm_rw I F0 i s a b) : zm_rw K F0 i s a b := by
  obtain ⟨c1, c2, c3, c4, c5, c6⟩ := hc
  unfold zm_rw
  rw [c1, c2, c3, c4, c5, c6]
  exact h
def zm_RS (K : z_I) : Nat → Nat → List zm_row → Prop
  | _, _, [] => True
  | i, F0, (s, a, b) :: rs => zm_rw K F0 i s a b ∧ zm_RS K (i + 1) (F0 + a.length + b.length) rs
theorem zm_RS_c {I K : z_I} : ∀ (rs : List zm_row) (i F0 : Nat), (∀ j, i ≤ j → j < i + rs.length → zm_q6 K I j) → zm_RS I i F0 rs → zm_RS K i F0 rs
  | [], _, _, _, _ => trivial
  | (s, a, b) :: rs, i, F0, hc, h => by
    rw [List.length_cons] at hc
    exact ⟨zm_rw_c (hc i (by omega) (by omega)) h.1, zm_RS_c rs (i + 1) _ (fun j p q => hc j (by omega) (by omega)) h.2⟩
theorem zm_RS_snoc {K : z_I} {s : zp_T} {a b : List zp_N} : ∀ (rs : List zm_row) (i F0 : Nat), zm_RS K i F0 rs → zm_rw K (F0 + (zm_fl rs).length) (i + rs.length) s a b → zm_RS K i F0 (rs ++ [(s, a, b)])
  | [], i, F0, _, h => ⟨h, trivial⟩
  | (s1, a1, b1) :: rs, i, F0, h, hr => by
    refine ⟨h.1, zm_RS_snoc rs (i + 1) _ h.2 ?_⟩
    have e1 : F0 + a1.length + b1.length + (zm_fl rs).length = F0 + (zm_fl ((s1, a1, b1) :: rs)).length := by
      show _ = F0 + (a1 ++ (b1 ++ zm_fl rs)).length
      rw [List.length_append, List.length_append]
      omega
    have e2 : i + 1 + rs.length = i + ((s1, a1, b1) :: rs).length := by
      rw [List.length_cons]
      omega
    rw [e1, e2]
    exact hr
section ZMO
variable {{gt gv : Nat → Int}} {{gp ge : Nat → Nat}} {{gh : Nat → Int}} {{gm n0 : Nat}} {{gI : z_I}} {I I0 I1 K : z_I} {J J1 : z_J} {k ff keT ke1 st0 : Nat} {S FS FS8 : List zp_F} {o g o8 g8 : Int} {N : List zp_N} {ssT ss2 ss3 : List zp_T} {rs : List zm_row}
/-- a place that the reader doesn't use is written -/
theorem zm_E_z {c n : Nat} {v : Int32} (h : zm_E gt gv gp ge gh gm n0 gI I J (.inr (k, S, o, g, N))) (e : K = z_up I c n v) (hc : (c = 0 ∧ n ≠ 35 ∧ n ≠ 34 ∧ n ≠ 36 ∧ n ≠ 37 ∧ n ≠ 38 ∧ n ≠ 33 ∧ n ≠ 32 ∧ n ≠ 42 ∧ n ≠ 47 ∧ n ≠ 39 ∧ n ≠ 40 ∧ n ≠ 15) ∨ (c ≠ 0 ∧ c ≠ 25 ∧ c ≠ 26 ∧ c ≠ 27 ∧ c ≠ 28 ∧ c ≠ 29 ∧ c ≠ 21 ∧ c ≠ 22 ∧ c ≠ 23)) : zm_E gt gv gp ge gh gm n0 gI K J (.inr (k, S, o, g, N)) := by
  have h0 : ∀ q, (q = 35 ∨ q = 34 ∨ q = 36 ∨ q = 37 ∨ q = 38 ∨ q = 33 ∨ q = 32 ∨ q = 42 ∨ q = 47 ∨ q = 39 ∨ q = 40 ∨ q = 15) → K 0 q = I 0 q := fun q hq => by
    rcases hc with ⟨hz, hn⟩ | hn
    · rw [e, hz]
      exact z_up_k (by omega)
    · rw [e]
      exact z_up_n (by omega)
  have h4 : ∀ d i, (d = 25 ∨ d = 26 ∨ d = 27 ∨ d = 28 ∨ d = 29 ∨ d = 21 ∨ d = 22 ∨ d = 23) → K d i = I d i := fun d i hd => by
    rw [e]
    exact z_up_n (by omega)
  obtain ⟨b1, b2, b3, b4, b5, b6, b7, b8, b9, b10⟩ := h
  exact ⟨by rw [h0 _ (by decide)]; exact b1, b2, zm_T_c b3 (fun q hq => h0 q (by omega)) (fun j => h4 _ _ (by decide)) rfl, by rw [h0 _ (by decide)]; exact b4, zm_S_c S (fun i _ => ⟨h4 _ _ (by decide), h4 _ _ (by decide), h4 _ _ (by decide), h4 _ _ (by decide)⟩) b5, by rw [h0 _ (by decide)]; exact b6, by rw [h0 _ (by decide)]; exact b7, by rw [h0 _ (by decide)]; exact b8, zm_Q_c N n0 (fun j _ _ => ⟨h4 _ _ (by decide), h4 _ _ (by decide), h4 _ _ (by decide)⟩) b9, zm_O_c b10 (fun j _ => ⟨h4 _ _ (by decide), h4 _ _ (by decide), h4 _ _ (by decide)⟩)⟩
/-- the first token -/
theorem zm_E_st (hM : zp_SM gh gt gv gp ge gm) (hN : zm_N I0 I1 J1) (hg : zm_h I0 = gh) (hh : zm_h I1 = zm_h I0) (hp : (I0 0 34).toInt = 0) (hw : (I1 0 42).toInt = 0) (hd : 0 ≤ (I1 0 47).toInt) (hn : (I1 0 15).toInt = (n0 : Int)) (hfa : (I1 0 32).toInt = -1) (hO : zm_O gI I1 n0) : ∃ FS o g, zm_E gt gv gp ge gh gm n0 gI I1 J1 (.inr (0, FS, o, g, [])) := by
  obtain ⟨f, e, t, v, b1, b2, b3, b4, b5⟩ := hN
  have q : (I0 0 34).toNatClampNeg = 0 := by
    have := z_clt (x := I0 0 34) rfl (by omega)
    omega
  rw [hg, q] at b3
  rw [hg] at b4 b5
  have c1 := zp_sk_u b3 hM.1
  subst c1
  obtain ⟨d1, d2, d3⟩ := zp_tk_u b4 (hM.2.1 0 (Nat.zero_le _))
  subst d1
  obtain ⟨S, s1, s2⟩ := zm_S_ex (I := I1) (I1 0 47).toNatClampNeg
  refine ⟨S, (I1 0 39).toInt, (I1 0 40).toInt, hw, Nat.zero_le _, ⟨b1, b2, ?_, hh.trans hg, hfa⟩, by rw [s1]; exact (z_clt rfl hd).symm, s2, rfl, rfl, by rw [hn, List.length_nil]; omega, trivial, hO⟩
  rw [← d2]
  rcases b5 with ⟨c1, c2⟩ | c1 | ⟨c1, c2, c3⟩ | c1 | c1
  · exact Or.inl ⟨c1, c2⟩
  · exact Or.inr (Or.inl c1)
  · exact Or.inr (Or.inr (Or.inl ⟨c1, c2, c3.trans (d3 c2)⟩))
  · exact Or.inr (Or.inr (Or.inr (Or.inl c1)))
  · exact Or.inr (Or.inr (Or.inr (Or.inr c1)))
/-- rs is read, ss2 is still to come -/
def zm_OA (gt gv : Nat → Int) (gp ge : Nat → Nat) (gh : Nat → Int) (gm n0 : Nat) (gI : z_I) (st0 : Nat) (ssT : List zp_T) (keT : Nat) (rs : List zm_row) (ss2 : List zp_T) (ke1 : Nat) (FS : List zp_F) (o g : Int) (K : z_I) (J : z_J) : Prop := ssT = rs.map Prod.fst ++ ss2 ∧ zp_ts gt gv ke1 ss2 keT ∧ zm_E gt gv gp ge gh gm n0 gI K J (.inr (ke1, FS, o, g, zm_fl rs)) ∧ (K 0 14).toInt = (st0 : Int) + (rs.length : Int) ∧ zm_RS K st0 n0 rs ∧ ∀ j, j < st0 → zm_q6 K gI j
def zm_OL (gt gv : Nat → Int) (gp ge : Nat → Nat) (gh : Nat → Int) (gm n0 : Nat) (gI : z_I) (st0 : Nat) (ssT : List zp_T) (keT ff : Nat) (K : z_I) (J : z_J) : Prop := (∃ rs ss2 ke1 FS o g, zm_OA gt gv gp ge gh gm n0 gI st0 ssT keT rs ss2 ke1 FS o g K J) ∨ (zm_F gt gv ssT keT ff ∧ zm_E gt gv gp ge gh gm n0 gI K J (.inl ff) ∧ ∀ j, j < st0 → zm_q6 K gI j)
theorem zm_OL_0 (hT : zp_ts gt gv 0 ssT keT) (hE : zm_E gt gv gp ge gh gm n0 gI K J (.inr (0, FS, o, g, []))) (hs : (K 0 14).toInt = (st0 : Int)) (hq : ∀ j, j < st0 → zm_q6 K gI j) : zm_OL gt gv gp ge gh gm n0 gI st0 ssT keT ff K J := Or.inl ⟨[], ssT, 0, FS, o, g, rfl, hT, hE, by rw [hs, List.length_nil]; omega, trivial, hq⟩
theorem zm_O_24 (eS : ssT = rs.map Prod.fst ++ ss2) (hl : ssT.length ≤ 24) (h24 : rs.length = 24) (hT : zp_ts gt gv ke1 ss2 keT) (h401 : gt ke1 ≠ 401) (hO : gt keT = 401 ∨ zm_F gt gv ssT keT ff) : zm_F gt gv ssT keT ff ∧ ff = ke1 := by
  have hL : ssT.length = rs.length + ss2.length := by rw [eS, List.length_append, List.length_map]
  cases ss2 with
  | nil =>
    have e : keT = ke1 := hT
    rw [List.length_nil] at hL
    rcases hO with q | q
    · exact absurd (e ▸ q) h401
    · refine ⟨q, ?_⟩
      rcases q.2 with ⟨_, q2⟩ | ⟨q2, _⟩
      · rw [q2, e]
      · omega
  | cons s ss3 =>
    rw [List.length_cons] at hL
    omega
theorem zm_O_st {i : Nat} (eS : ssT = rs.map Prod.fst ++ ss2) (hT : zp_ts gt gv ke1 ss2 keT) (hSR : zm_SR gt gv gp ge gh gm n0 gI ke1 (zm_fl rs) i K J) (hne : rs.length ≠ 24) (h401 : gt ke1 ≠ 401) (hO : gt keT = 401 ∨ zm_F gt gv ssT keT ff) : (∃ s sg1 sg2 ss3 k8 FS8 o8 g8, ss2 = s :: ss3 ∧ zp_ts gt gv (k8 + 1) ss3 keT ∧ zm_E gt gv gp ge gh gm n0 gI K J (.inr (k8 + 1, FS8, o8, g8, zm_fl rs ++ (sg1 ++ sg2))) ∧ zm_rw K (n0 + (zm_fl rs).length) i s sg1 sg2) ∨ (zm_F gt gv ssT keT ff ∧ zm_E gt gv gp ge gh gm n0 gI K J (.inl ff)) := by
  cases ss2 with
  | nil =>
    right
    have e : keT = ke1 := hT
    have hL : ssT.length = rs.length := by rw [eS, List.append_nil, List.length_map]
    subst e
    rcases hO with q | q
    · exact absurd q h401
    · refine ⟨q, hSR.2 ff ?_⟩
      rcases q.2 with ⟨q1, _⟩ | ⟨_, q2⟩
      · omega
      · exact q2
  | cons s ss3 =>
    left
    obtain ⟨k8, hs, h59, ht⟩ := hT
    obtain ⟨FS8, o8, g8, sg1, sg2, hE, hr⟩ := hSR.1 k8 s hs h59
    exact ⟨s, sg1, sg2, ss3, k8, FS8, o8, g8, rfl, ht, hE, hr⟩
theorem zm_O_end (hT : zp_ts gt gv ke1 ss2 keT) (h401 : gt ke1 = 401) : ss2 = [] ∧ keT = ke1 := by
  cases ss2 with
  | nil => exact ⟨rfl, hT⟩
  | cons s ss3 =>
    obtain ⟨k8, hs, h59, ht⟩ := hT
    have := zp_sm_x hs
    omega
theorem zm_OL_s {s8 : zp_T} {sg1 sg2 : List zp_N} {k8 : Nat} (eS : ssT = rs.map Prod.fst ++ ss2) (hC : (I0 0 14).toInt = (st0 : Int) + (rs.length : Int)) (hR : zm_RS I0 st0 n0 rs) (hQ : ∀ j, j < st0 → zm_q6 I0 gI j) (e8 : ss2 = s8 :: ss3) (t8 : zp_ts gt gv (k8 + 1) ss3 keT) (hE : zm_E gt gv gp ge gh gm n0 gI K J (.inr (k8 + 1, FS8, o8, g8, zm_fl rs ++ (sg1 ++ sg2)))) (hn : (K 0 14).toInt = (I0 0 14).toInt + 1) {v : Int32} {n : Nat} (eK : K = z_up I1 0 n v) (hs : ∀ j, j ≠ (I0 0 14).toNatClampNeg → zm_q6 I1 I0 j) (hr : zm_rw I1 (n0 + (zm_fl rs).length) (I0 0 14).toNatClampNeg s8 sg1 sg2) : zm_OL gt gv gp ge gh gm n0 gI st0 ssT keT ff K J := by
  have hd : (I0 0 14).toNatClampNeg = st0 + rs.length := by
    have := z_clt (x := I0 0 14) rfl (by omega)
    omega
  rw [hd] at hs hr
  refine Or.inl ⟨rs ++ [(s8, sg1, sg2)], ss3, k8 + 1, FS8, o8, g8, ?_, t8, ?_, ?_, ?_, fun j hj => ?_⟩
  · rw [eS, e8, List.map_append, List.append_assoc]
    rfl
  · rw [zm_fl_snoc]
    exact hE
  · rw [hn, hC, List.length_append, List.length_cons, List.length_nil]
    omega
  · refine zm_RS_snoc rs _ _ (zm_RS_c rs _ _ (fun j p q => zm_q6_t (zm_q6_z eK) (hs j (by omega))) hR) (zm_rw_c (zm_q6_z eK) hr)
  · exact zm_q6_t (zm_q6_z eK) (zm_q6_t (hs j (by omega)) (hQ j hj))
theorem zm_E_fa (h : zm_E gt gv gp ge gh gm n0 gI I J (.inl ff)) : (I 0 32).toInt = (gp ff : Int) ∧ ff ≤ gm ∧ zm_O gI I n0 := h.2
theorem zm_E_en (h : zm_E gt gv gp ge gh gm n0 gI I J (.inr (k, S, o, g, N))) : (I 0 32).toInt = -1 ∧ (I 0 15).toInt = (n0 : Int) + (N.length : Int) ∧ zm_Q I n0 N ∧ zm_O gI I n0 := ⟨h.2.2.1.2.2.2.2, h.2.2.2.2.2.2.2⟩
def zm_ok (I : z_I) (n mo : Int) : Prop := 0 ≤ n ∧ n ≤ (I 0 31).toInt ∧ 0 ≤ mo ∧ mo ≤ 23
def zm_tx (K I : z_I) (j : Nat) : Prop := K 11 j = I 11 j ∧ K 12 j = I 12 j ∧ K 13 j = I 13 j ∧ K 14 j = I 14 j
/-- what orders() does -/
def zm_PO (gt gv : Nat → Int) (gp : Nat → Nat) (I K : z_I) (J J1 : z_J) (n mo r : Int) (n0 st0 x0 : Nat) (ssT : List zp_T) (keT ff : Nat) : Prop :=
  (r = -2 ∧ ¬ zm_ok I n mo ∧ K = I ∧ J1 = J) ∨ (r = -3 ∧ zm_ok I n mo ∧ (I 0 13).toInt = 12 ∧ K = I ∧ J1 = J) ∨
  (zm_ok I n mo ∧ (I 0 13).toInt ≠ 12 ∧ (K 0 31).toInt = 0 ∧ (∀ j, j < st0 → zm_q6 K I j) ∧ zm_O I K n0 ∧
    ((r = -1 ∧ zm_F gt gv ssT keT ff ∧ (K 0 32).toInt = (gp ff : Int) ∧ (K 0 13).toInt = (x0 : Int) ∧ (K 0 14).toInt = (st0 : Int) ∧ (K 0 15).toInt = (n0 : Int) ∧ ∀ j, zm_tx K I j) ∨
     (r = (x0 : Int) ∧ gt keT = 401 ∧ (K 0 32).toInt = -1 ∧ (K 0 13).toInt = (x0 : Int) + 1 ∧ (∀ j, j ≠ x0 → zm_tx K I j) ∧ (K 11 x0).toInt = (st0 : Int) ∧ (K 12 x0).toInt = (ssT.length : Int) ∧ (K 13 x0).toInt = mo ∧ K 14 x0 = I 0 0 ∧ (K 0 14).toInt = (st0 : Int) + (ssT.length : Int) ∧ ∃ rs : List zm_row, rs.map Prod.fst = ssT ∧ zm_RS K st0 n0 rs ∧ (K 0 15).toInt = (n0 : Int) + ((zm_fl rs).length : Int) ∧ zm_Q K n0 (zm_fl rs))))
end ZMO
set_option maxHeartbeats 8000000 in
set_option maxRecDepth 100000 in
theorem sx_X12_isMonth_e (l : Launch) (G : z_G) (ad : Nat → Nat) (I : z_I) (J : z_J) (a1 : Int32) : z_M l yX12_isMonth wsX12_isMonth { frames := 1, cells := 0, slots := 0, locals := 12 } [.int a1] G (shM, ad, I, J, PM ad) (fun r u1 => u1 = (shM, ad, I, J, PM ad) ∧ ((r = 1 ∧ 0 ≤ a1.toInt ∧ a1.toInt ≤ 23) ∨ (r = 0 ∧ ¬ (0 ≤ a1.toInt ∧ a1.toInt ≤ 23)))) 0 0 := by
  intro sz
  refine z_headQ (cc := cX12_isMonth) (maxL := 1) (ret := (some .boolean)) (by decide) rfl (Nat.le_of_ble_eq_true rfl) ?_
  intro p e s m below meth c0 ls hIn hK hsz hW hl
  obtain ⟨hx, hb, hr, hml, hown, hts, hlocks, hname⟩ := hIn
  subst hsz
  have hown : s.vm.findClass RX12 = some m.cls := hown
  have hA : ∀ q : Nat, s.heap.size ≤ q → z_A (shM, ad, I, J, PM ad) s.heap.size q := fun q h => Or.inr h
  generalize hAe : z_A (shM, ad, I, J, PM ad) s.heap.size = A at *
  have hS : va_S A s.heap s.heap [] := va_S.rf
  have hl : lv_has ls 1 [(0, .int a1)] := hl
  refine lv_iload_n hx hb dX12_isMonth_0 rfl (lv_at hl 0 rfl) ?_
  refine lv_if_lt (tgt := 14) hx hb dX12_isMonth_1 (by decide) (fun c1 => ?_) (fun c1 => ?_)
  · have g2 := z_f_lt rfl z_l0 c1
    have b3 := Int32.toInt_lt a1
    refine lv_iconst (v := 0) hx hb dX12_isMonth_14 (by decide) ?_
    exact z_zret hx hb hr (by decide) hK hS (Nat.le_of_ble_eq_true rfl) (Nat.le_of_ble_eq_true rfl) hlocks dX12_isMonth_15 (shM, ad, I, J, PM ad) hW ⟨rfl, (Or.inr ⟨rfl, by omega⟩)⟩
  · have g4 := z_f_nlt rfl z_l0 c1
    have b5 := Int32.toInt_lt a1
    refine lv_iload_n hx hb dX12_isMonth_4 rfl (lv_at hl 0 rfl) ?_
    refine lv_bipush (v := 23) hx hb dX12_isMonth_5 (by decide) ?_
    refine lv_icmp_gt (tgt := 14) hx hb dX12_isMonth_7 (by decide) (fun c6 => ?_) (fun c6 => ?_)
    · have g7 := z_f_gt rfl z_l23 c6
      refine lv_iconst (v := 0) hx hb dX12_isMonth_14 (by decide) ?_
      exact z_zret hx hb hr (by decide) hK hS (Nat.le_of_ble_eq_true rfl) (Nat.le_of_ble_eq_true rfl) hlocks dX12_isMonth_15 (shM, ad, I, J, PM ad) hW ⟨rfl, (Or.inr ⟨rfl, by omega⟩)⟩
    · have g8 := z_f_ngt rfl z_l23 c6
      refine lv_iconst (v := 1) hx hb dX12_isMonth_10 (by decide) ?_
      refine lv_goto (tgt := 15) hx hb dX12_isMonth_11 (by decide) ?_
      exact z_zret hx hb hr (by decide) hK hS (Nat.le_of_ble_eq_true rfl) (Nat.le_of_ble_eq_true rfl) hlocks dX12_isMonth_15 (shM, ad, I, J, PM ad) hW ⟨rfl, (Or.inl ⟨rfl, by omega⟩)⟩
def L_X12_orders_x : z_L := [(0, 35), (0, 36), (0, 37), (0, 38), (0, 34), (0, 42), (0, 32), (0, 39), (21, 999), (22, 999), (23, 999), (0, 15), (26, 999), (27, 999), (28, 999), (29, 999), (0, 47), (0, 40), (16, 999), (17, 999), (18, 999), (19, 999), (15, 999), (20, 999), (0, 33), (0, 31), (0, 14), (0, 13), (11, 999), (12, 999), (13, 999), (14, 999)]
set_option maxHeartbeats 8000000 in
set_option maxRecDepth 100000 in
theorem sx_X12_orders_x (l : Launch) (G : z_G) (ad : Nat → Nat) (I : z_I) (J : z_J) (hma : z_ima I) (hmb : z_imb I) (hmp : z_imp I) (hmt : z_imt I) (hmd : z_imd I) (hmg : z_img I) (hmn : z_imn I) (hNd : z_Nd I) (hAtf : z_rg 11 0 288 I) (hAtm : z_rg 12 0 24 I) (hAsf : z_rg 19 0 6200 I) (hAst : z_rg 20 0 6200 I) (hAsc : z_rg 18 (-1) 6199 I) (hEx : z_Ex I) (hro : z_iro I) (gt gv : Nat → Int) (gp ge : Nat → Nat) (gh : Nat → Int) (gm n0 st0 x0 : Nat) (ssT : List zp_T) (keT ff : Nat) (a1 : Int32) (a2 : Int32) (hC : zm_ok I a1.toInt a2.toInt → (I 0 13).toInt ≠ 12 → gh = zm_h (z_up I 0 33 a1) ∧ zp_SM gh gt gv gp ge gm ∧ (∀ k, gt k = 400 → 0 ≤ gv k ∧ gv k ≤ 999999) ∧ zp_ts gt gv 0 ssT keT ∧ ssT.length ≤ 24 ∧ (gt keT = 401 ∨ zm_F gt gv ssT keT ff)) (hn0 : (I 0 15).toInt = (n0 : Int)) (hs0 : (I 0 14).toInt = (st0 : Int)) (hx0 : (I 0 13).toInt = (x0 : Int)) : z_M l yX12_orders wsX12_orders { frames := 7, cells := 0, slots := 0, locals := 143 } [.ref (ad 0), .int a1, .int a2] G (shM, ad, I, J, PM ad) (fun r u1 => ∃ (I1 : z_I) (J1 : z_J), u1 = (shM, ad, I1, J1, PM ad) ∧ z_ima I1 ∧ z_imb I1 ∧ z_imp I1 ∧ z_imt I1 ∧ z_imd I1 ∧ z_img I1 ∧ z_imn I1 ∧ z_Nd I1 ∧ z_rg 11 0 288 I1 ∧ z_rg 12 0 24 I1 ∧ z_rg 19 0 6200 I1 ∧ z_rg 20 0 6200 I1 ∧ z_rg 18 (-1) 6199 I1 ∧ z_Ex I1 ∧ z_iro I1 ∧ z_fr L_X12_orders_x I1 I ∧ zm_PO gt gv gp I I1 J J1 a1.toInt a2.toInt r.toInt n0 st0 x0 ssT keT ff) 0 0 := by
  intro sz
  refine z_headQ (cc := cX12_orders) (maxL := 5) (ret := (some .int)) (by decide) rfl (Nat.le_of_ble_eq_true rfl) ?_
  intro p e s m below meth c0 ls hIn hK hsz hW hl
  obtain ⟨hx, hb, hr, hml, hown, hts, hlocks, hname⟩ := hIn
  subst hsz
  have hown : s.vm.findClass RX12 = some m.cls := hown
  have hA : ∀ q : Nat, s.heap.size ≤ q → z_A (shM, ad, I, J, PM ad) s.heap.size q := fun q h => Or.inr h
  generalize hAe : z_A (shM, ad, I, J, PM ad) s.heap.size = A at *
  have hS : va_S A s.heap s.heap [] := va_S.rf
  have hl : lv_has ls 5 [(0, .ref (ad 0)), (1, .int a1), (2, .int a2)] := hl
  have kro : (I 0 14).toInt ≤ 24 * (I 0 13).toInt ∧ (I 0 15).toInt ≤ 505 * (I 0 13).toInt := hro
  refine lv_iload_n hx hb dX12_orders_0 rfl (lv_at hl 1 rfl) ?_
  refine lv_if_lt (tgt := 19) hx hb dX12_orders_1 (by decide) (fun c1 => ?_) (fun c1 => ?_)
  · have g2 := z_f_lt rfl z_l0 c1
    have b3 := Int32.toInt_lt a1
    refine lv_bipush (v := (-2)) hx hb dX12_orders_19 (by decide) ?_
    exact z_iret hx hb hr hK hS (Nat.le_of_ble_eq_true rfl) (Nat.le_of_ble_eq_true rfl) hlocks dX12_orders_21 (shM, ad, I, J, PM ad) hW ⟨I, J, rfl, ⟨(by show 0 ≤ (I 0 0).toInt ∧ (I 0 0).toInt ≤ 719; exact hma.1), (by show 0 ≤ (I 0 1).toInt ∧ (I 0 1).toInt ≤ 30; exact hma.2.1), (by show 0 ≤ (I 0 2).toInt ∧ (I 0 2).toInt ≤ 200; exact hma.2.2)⟩, ⟨(by show 0 ≤ (I 0 13).toInt ∧ (I 0 13).toInt ≤ 12; exact hmb.1), (by show 0 ≤ (I 0 14).toInt ∧ (I 0 14).toInt ≤ 288; exact hmb.2)⟩, ⟨(by show 0 ≤ (I 0 31).toInt ∧ (I 0 31).toInt ≤ 500; exact hmp.1), (by show 0 ≤ (I 0 33).toInt ∧ (I 0 33).toInt ≤ 500; exact hmp.2.1), (by show 0 ≤ (I 0 34).toInt ∧ (I 0 34).toInt ≤ 500; exact hmp.2.2.1), (by show 0 ≤ (I 0 35).toInt ∧ (I 0 35).toInt ≤ 500; exact hmp.2.2.2)⟩, ⟨(by show 0 ≤ (I 0 36).toInt ∧ (I 0 36).toInt ≤ 4; exact hmt.1), (by show 0 ≤ (I 0 42).toInt ∧ (I 0 42).toInt ≤ 1; exact hmt.2)⟩, ⟨(by show 0 ≤ (I 0 47).toInt ∧ (I 0 47).toInt ≤ 119; exact hmd.1), (by show 0 ≤ (I 0 39).toInt ∧ (I 0 39).toInt ≤ 100; exact hmd.2)⟩, (by show 0 ≤ (I 0 40).toInt ∧ (I 0 40).toInt ≤ 6199; exact hmg), (by show 0 ≤ (I 0 15).toInt ∧ (I 0 15).toInt ≤ 6100; exact hmn), hNd, hAtf, hAtm, hAsf, hAst, hAsc, hEx, (by show (I 0 14).toInt ≤ 24 * (I 0 13).toInt ∧ (I 0 15).toInt ≤ 505 * (I 0 13).toInt; first | omega | decide), z_fr_0, (Or.inl ⟨by decide, fun q => by unfold zm_ok at q; omega, rfl, rfl⟩)⟩
  · have g4 := z_f_nlt rfl z_l0 c1
    have b5 := Int32.toInt_lt a1
    refine lv_iload_n hx hb dX12_orders_4 rfl (lv_at hl 1 rfl) ?_
    refine lv_aload_n hx hb dX12_orders_5 rfl (lv_at hl 0 rfl) ?_
    have r6 : 0 ≤ (I 0 31).toInt ∧ (I 0 31).toInt ≤ 500 := hmp.1
    refine z_get (T := TX12) (N := 96) (ci := 12) (i := 0) (v := .int (I 0 31)) hx hb hts zj_X12_orders_X12 hown hK hW rfl rfl 31 (by decide) (hts (.fieldLink RX12 253 "PetrolBoardModel" "taped" "I") (List.mem_of_getElem? (i := 1) rfl)) (fun _ h => h) rfl dX12_orders_6 ?_
    refine lv_icmp_gt (tgt := 19) hx hb dX12_orders_9 (by decide) (fun c7 => ?_) (fun c7 => ?_)
    · have g8 := z_f_gt rfl rfl c7
      refine lv_bipush (v := (-2)) hx hb dX12_orders_19 (by decide) ?_
      exact z_iret hx hb hr hK hS (Nat.le_of_ble_eq_true rfl) (Nat.le_of_ble_eq_true rfl) hlocks dX12_orders_21 (shM, ad, I, J, PM ad) hW ⟨I, J, rfl, ⟨(by show 0 ≤ (I 0 0).toInt ∧ (I 0 0).toInt ≤ 719; exact hma.1), (by show 0 ≤ (I 0 1).toInt ∧ (I 0 1).toInt ≤ 30; exact hma.2.1), (by show 0 ≤ (I 0 2).toInt ∧ (I 0 2).toInt ≤ 200; exact hma.2.2)⟩, ⟨(by show 0 ≤ (I 0 13).toInt ∧ (I 0 13).toInt ≤ 12; exact hmb.1), (by show 0 ≤ (I 0 14).toInt ∧ (I 0 14).toInt ≤ 288; exact hmb.2)⟩, ⟨(by show 0 ≤ (I 0 31).toInt ∧ (I 0 31).toInt ≤ 500; exact hmp.1), (by show 0 ≤ (I 0 33).toInt ∧ (I 0 33).toInt ≤ 500; exact hmp.2.1), (by show 0 ≤ (I 0 34).toInt ∧ (I 0 34).toInt ≤ 500; exact hmp.2.2.1), (by show 0 ≤ (I 0 35).toInt ∧ (I 0 35).toInt ≤ 500; exact hmp.2.2.2)⟩, ⟨(by show 0 ≤ (I 0 36).toInt ∧ (I 0 36).toInt ≤ 4; exact hmt.1), (by show 0 ≤ (I 0 42).toInt ∧ (I 0 42).toInt ≤ 1; exact hmt.2)⟩, ⟨(by show 0 ≤ (I 0 47).toInt ∧ (I 0 47).toInt ≤ 119; exact hmd.1), (by show 0 ≤ (I 0 39).toInt ∧ (I 0 39).toInt ≤ 100; exact hmd.2)⟩, (by show 0 ≤ (I 0 40).toInt ∧ (I 0 40).toInt ≤ 6199; exact hmg), (by show 0 ≤ (I 0 15).toInt ∧ (I 0 15).toInt ≤ 6100; exact hmn), hNd, hAtf, hAtm, hAsf, hAst, hAsc, hEx, (by show (I 0 14).toInt ≤ 24 * (I 0 13).toInt ∧ (I 0 15).toInt ≤ 505 * (I 0 13).toInt; first | omega | decide), z_fr_0, (Or.inl ⟨by decide, fun q => by unfold zm_ok at q; omega, rfl, rfl⟩)⟩
    · have g9 := z_f_ngt rfl rfl c7
      refine lv_iload_n hx hb dX12_orders_12 rfl (lv_at hl 2 rfl) ?_
      refine z_ci hW hS hA (va_runS (As := [.int a2]) (rest := []) ⟨hx, hb, hml, hown, hts⟩ (sx_X12_isMonth_e l G ad I J  a2 _) (va_cwS 1 hts gX12_orders_X12_isMonth rfl rfl rfl (by decide +kernel) ⟨Nat.le_of_ble_eq_true rfl, Nat.le_of_ble_eq_true rfl⟩) (z_preS hK hW) rfl rfl hl.1 rfl (lv_room (Nat.le_of_ble_eq_true rfl)) dX12_orders_13 ⟨Nat.le_of_ble_eq_true rfl, Nat.le_of_ble_eq_true rfl⟩) (fun r u1 H locs hp hW hS => ?_)
      obtain ⟨e9, hp⟩ := hp
      rw [e9] at hW
      rcases hp with ⟨rfl, h11⟩ | ⟨rfl, h11⟩
      · have h12 := h11
        refine lv_if_ne (tgt := 22) hx hb dX12_orders_16 (by decide) (fun c13 => ?_) (fun c13 => absurd c13 (by decide))
        refine lv_aload_n hx hb dX12_orders_22 rfl (lv_at hl 0 rfl) ?_
        have r14 : 0 ≤ (I 0 13).toInt ∧ (I 0 13).toInt ≤ 12 := hmb.1
        refine z_get (T := TX12) (N := 96) (ci := 12) (i := 0) (v := .int (I 0 13)) hx hb hts zj_X12_orders_X12 hown hK hW rfl rfl 13 (by decide) (hts (.fieldLink RX12 408 "PetrolBoardModel" "texts" "I") (List.mem_of_getElem? (i := 2) rfl)) (fun _ h => h) rfl dX12_orders_23 ?_
        refine lv_bipush (v := 12) hx hb dX12_orders_26 (by decide) ?_
        refine lv_icmp_ne (tgt := 34) hx hb dX12_orders_28 (by decide) (fun c15 => ?_) (fun c15 => ?_)
        · have g16 := z_f_ne rfl z_l12 c15
          obtain ⟨hgh, hSM, hva, hT0, h24, hO⟩ := hC ⟨by omega, by omega, by omega, by omega⟩ (by omega)
          refine lv_aload_n hx hb dX12_orders_34 rfl (lv_at hl 0 rfl) ?_
          refine lv_iload_n hx hb dX12_orders_35 rfl (lv_at hl 1 rfl) ?_
          refine z_put (T := TX12) (N := 96) (ci := 12) (i := 0) (v := .int a1) (I1 := z_up I 0 33 a1) (J1 := J) (P1 := PM ad) hx hb hts zj_X12_orders_X12 tyX12 tyX12_ok nmX12 hown hK hW hS rfl rfl 33 (by decide) (hts (.fieldLink RX12 259 "PetrolBoardModel" "limit" "I") (List.mem_of_getElem? (i := 3) rfl)) (fun _ h => h) rfl rfl rfl (by first | rfl | exact congrArg _ z_up_s) (fun a b h ty => z_vI h ty) dX12_orders_36 (fun H locs hz1 hW hS => ?_)
          obtain ⟨I17, eI17⟩ : ∃ K : z_I, K = z_up I 0 33 a1 := ⟨_, rfl⟩
          rw [← eI17] at hW
          have f18 := z_fr_k z_fr_0 (show z_wr L_X12_orders_x 0 33 = true by decide) eI17
          have a19 := z_Nd_n hNd (by decide) eI17
          have a20 := z_rg_n hAtf (by decide) eI17
          have a21 := z_rg_n hAtm (by decide) eI17
          have a22 := z_rg_n hAsf (by decide) eI17
          have a23 := z_rg_n hAst (by decide) eI17
          have a24 := z_rg_n hAsc (by decide) eI17
          have a25 := z_Ex_n hEx (by decide) eI17
          refine lv_aload_n hx hb dX12_orders_39 rfl (lv_at hl 0 rfl) ?_
          refine lv_iconst (v := 0) hx hb dX12_orders_40 (by decide) ?_
          refine z_put (T := TX12) (N := 96) (ci := 12) (i := 0) (v := .int 0) (I1 := z_up I17 0 31 0) (J1 := J) (P1 := PM ad) hx hb hts zj_X12_orders_X12 tyX12 tyX12_ok nmX12 hown hK hW hS rfl rfl 31 (by decide) (hts (.fieldLink RX12 253 "PetrolBoardModel" "taped" "I") (List.mem_of_getElem? (i := 1) rfl)) (fun _ h => h) rfl rfl rfl (by first | rfl | exact congrArg _ z_up_s) (fun a b h ty => z_vI h ty) dX12_orders_41 (fun H locs hz1 hW hS => ?_)
          obtain ⟨I26, eI26⟩ : ∃ K : z_I, K = z_up I17 0 31 0 := ⟨_, rfl⟩
          rw [← eI26] at hW
          have f27 := z_fr_k f18 (show z_wr L_X12_orders_x 0 31 = true by decide) eI26
          have a28 := z_Nd_n a19 (by decide) eI26
          have a29 := z_rg_n a20 (by decide) eI26
          have a30 := z_rg_n a21 (by decide) eI26
          have a31 := z_rg_n a22 (by decide) eI26
          have a32 := z_rg_n a23 (by decide) eI26
          have a33 := z_rg_n a24 (by decide) eI26
          have a34 := z_Ex_n a25 (by decide) eI26
          refine lv_aload_n hx hb dX12_orders_44 rfl (lv_at hl 0 rfl) ?_
          refine lv_iconst (v := 0) hx hb dX12_orders_45 (by decide) ?_
          refine z_put (T := TX12) (N := 96) (ci := 12) (i := 0) (v := .int 0) (I1 := z_up I26 0 34 0) (J1 := J) (P1 := PM ad) hx hb hts zj_X12_orders_X12 tyX12 tyX12_ok nmX12 hown hK hW hS rfl rfl 34 (by decide) (hts (.fieldLink RX12 256 "PetrolBoardModel" "point" "I") (List.mem_of_getElem? (i := 4) rfl)) (fun _ h => h) rfl rfl rfl (by first | rfl | exact congrArg _ z_up_s) (fun a b h ty => z_vI h ty) dX12_orders_46 (fun H locs hz1 hW hS => ?_)
          obtain ⟨I35, eI35⟩ : ∃ K : z_I, K = z_up I26 0 34 0 := ⟨_, rfl⟩
          rw [← eI35] at hW
          have f36 := z_fr_k f27 (show z_wr L_X12_orders_x 0 34 = true by decide) eI35
          have a37 := z_Nd_n a28 (by decide) eI35
          have a38 := z_rg_n a29 (by decide) eI35
          have a39 := z_rg_n a30 (by decide) eI35
          have a40 := z_rg_n a31 (by decide) eI35
          have a41 := z_rg_n a32 (by decide) eI35
          have a42 := z_rg_n a33 (by decide) eI35
          have a43 := z_Ex_n a34 (by decide) eI35
          refine lv_aload_n hx hb dX12_orders_49 rfl (lv_at hl 0 rfl) ?_
          refine lv_iconst (v := (-1)) hx hb dX12_orders_50 (by decide) ?_
          refine z_put (T := TX12) (N := 96) (ci := 12) (i := 0) (v := .int (-1)) (I1 := z_up I35 0 32 (-1)) (J1 := J) (P1 := PM ad) hx hb hts zj_X12_orders_X12 tyX12 tyX12_ok nmX12 hown hK hW hS rfl rfl 32 (by decide) (hts (.fieldLink RX12 87 "PetrolBoardModel" "faultAt" "I") (List.mem_of_getElem? (i := 5) rfl)) (fun _ h => h) rfl rfl rfl (by first | rfl | exact congrArg _ z_up_s) (fun a b h ty => z_vI h ty) dX12_orders_51 (fun H locs hz1 hW hS => ?_)
          obtain ⟨I44, eI44⟩ : ∃ K : z_I, K = z_up I35 0 32 (-1) := ⟨_, rfl⟩
          rw [← eI44] at hW
          have f45 := z_fr_k f36 (show z_wr L_X12_orders_x 0 32 = true by decide) eI44
          have a46 := z_Nd_n a37 (by decide) eI44
          have a47 := z_rg_n a38 (by decide) eI44
          have a48 := z_rg_n a39 (by decide) eI44
          have a49 := z_rg_n a40 (by decide) eI44
          have a50 := z_rg_n a41 (by decide) eI44
          have a51 := z_rg_n a42 (by decide) eI44
          have a52 := z_Ex_n a43 (by decide) eI44
          refine lv_aload_n hx hb dX12_orders_54 rfl (lv_at hl 0 rfl) ?_
          refine lv_iconst (v := 0) hx hb dX12_orders_55 (by decide) ?_
          refine z_put (T := TX12) (N := 96) (ci := 12) (i := 0) (v := .int 0) (I1 := z_up I44 0 42 0) (J1 := J) (P1 := PM ad) hx hb hts zj_X12_orders_X12 tyX12 tyX12_ok nmX12 hown hK hW hS rfl rfl 42 (by decide) (hts (.fieldLink RX12 294 "PetrolBoardModel" "isWrong" "Z") (List.mem_of_getElem? (i := 6) rfl)) (fun _ h => h) rfl (by decide) rfl (by first | rfl | exact congrArg _ z_up_s) (fun a b h ty => z_vI h ty) dX12_orders_56 (fun H locs hz1 hW hS => ?_)
          obtain ⟨I53, eI53⟩ : ∃ K : z_I, K = z_up I44 0 42 0 := ⟨_, rfl⟩
          rw [← eI53] at hW
          have f54 := z_fr_k f45 (show z_wr L_X12_orders_x 0 42 = true by decide) eI53
          have a55 := z_Nd_n a46 (by decide) eI53
          have a56 := z_rg_n a47 (by decide) eI53
          have a57 := z_rg_n a48 (by decide) eI53
          have a58 := z_rg_n a49 (by decide) eI53
          have a59 := z_rg_n a50 (by decide) eI53
          have a60 := z_rg_n a51 (by decide) eI53
          have a61 := z_Ex_n a52 (by decide) eI53
          refine lv_aload_n hx hb dX12_orders_59 rfl (lv_at hl 0 rfl) ?_
          have r62 : 0 ≤ (I 0 14).toInt ∧ (I 0 14).toInt ≤ 288 := hmb.2
          refine z_get (T := TX12) (N := 96) (ci := 12) (i := 0) (v := .int (I 0 14)) hx hb hts zj_X12_orders_X12 hown hK hW rfl rfl 14 (by decide) (hts (.fieldLink RX12 411 "PetrolBoardModel" "statements" "I") (List.mem_of_getElem? (i := 7) rfl)) (fun _ h => h) (congrArg Value.int (by rw [eI53, z_up_k (by decide), eI44, z_up_k (by decide), eI35, z_up_k (by decide), eI26, z_up_k (by decide), eI17, z_up_k (by decide)])) dX12_orders_60 ?_
          refine lv_istore_n (lv' := [(3, .int (I 0 14)), (0, .ref (ad 0)), (1, .int a1), (2, .int a2)]) hx hb dX12_orders_63 rfl hl (by decide) rfl (fun ls hl => ?_)
          refine lv_aload_n hx hb dX12_orders_64 rfl (lv_at hl 1 rfl) ?_
          have r63 : 0 ≤ (I 0 15).toInt ∧ (I 0 15).toInt ≤ 6100 := hmn
          refine z_get (T := TX12) (N := 96) (ci := 12) (i := 0) (v := .int (I 0 15)) hx hb hts zj_X12_orders_X12 hown hK hW rfl rfl 15 (by decide) (hts (.fieldLink RX12 337 "PetrolBoardModel" "nodes" "I") (List.mem_of_getElem? (i := 8) rfl)) (fun _ h => h) (congrArg Value.int (by rw [eI53, z_up_k (by decide), eI44, z_up_k (by decide), eI35, z_up_k (by decide), eI26, z_up_k (by decide), eI17, z_up_k (by decide)])) dX12_orders_65 ?_
          refine lv_istore (lv' := [(4, .int (I 0 15)), (3, .int (I 0 14)), (0, .ref (ad 0)), (1, .int a1), (2, .int a2)]) hx hb dX12_orders_68 hl (by decide) rfl (fun ls hl => ?_)
          refine lv_aload_n hx hb dX12_orders_70 rfl (lv_at hl 2 rfl) ?_
          refine z_cv hW hS hA (va_runV (As := []) (rest := []) ⟨hx, hb, hml, hown, hts⟩ (sx_X12_next_x l G ad I53 J ⟨(by show 0 ≤ (I53 0 31).toInt ∧ (I53 0 31).toInt ≤ 500; rw [eI53, z_up_k (by decide), eI44, z_up_k (by decide), eI35, z_up_k (by decide), eI26, z_up_s]; decide), (by show 0 ≤ (I53 0 33).toInt ∧ (I53 0 33).toInt ≤ 500; rw [eI53, z_up_k (by decide), eI44, z_up_k (by decide), eI35, z_up_k (by decide), eI26, z_up_k (by decide), eI17, z_up_s]; omega), (by show 0 ≤ (I53 0 34).toInt ∧ (I53 0 34).toInt ≤ 500; rw [eI53, z_up_k (by decide), eI44, z_up_k (by decide), eI35, z_up_s]; decide), (by show 0 ≤ (I53 0 35).toInt ∧ (I53 0 35).toInt ≤ 500; rw [eI53, z_up_k (by decide), eI44, z_up_k (by decide), eI35, z_up_k (by decide), eI26, z_up_k (by decide), eI17, z_up_k (by decide)]; exact hmp.2.2.2)⟩ ⟨(by show 0 ≤ (I53 0 36).toInt ∧ (I53 0 36).toInt ≤ 4; rw [eI53, z_up_k (by decide), eI44, z_up_k (by decide), eI35, z_up_k (by decide), eI26, z_up_k (by decide), eI17, z_up_k (by decide)]; exact hmt.1), (by show 0 ≤ (I53 0 42).toInt ∧ (I53 0 42).toInt ≤ 1; rw [eI53, z_up_s]; decide)⟩ (by have q0 : (I53 0 34) = 0 := (by rw [eI53, z_up_k (by decide), eI44, z_up_k (by decide), eI35, z_up_s]); have z0 := z_l0; have q1 : (I53 0 33) = a1 := (by rw [eI53, z_up_k (by decide), eI44, z_up_k (by decide), eI35, z_up_k (by decide), eI26, z_up_k (by decide), eI17, z_up_s]); show 0 ≤ (I53 0 34).toInt ∧ (I53 0 34).toInt ≤ (I53 0 33).toInt ∧ (I53 0 33).toInt ≤ 500; rw [q0, q1]; first | omega | decide)  _) (cwV 0 hts gX12_orders_X12_next rfl rfl rfl (by decide +kernel) ⟨Nat.le_of_ble_eq_true rfl, Nat.le_of_ble_eq_true rfl⟩) (z_preV (i := 0) hK hW rfl rfl) rfl rfl hl.1 rfl (lv_room (Nat.le_of_ble_eq_true rfl)) dX12_orders_71 ⟨Nat.le_of_ble_eq_true rfl, Nat.le_of_ble_eq_true rfl⟩) (fun u1 H locs hp hW hS => ?_)
          obtain ⟨I64, J66, e9, hI64mp, hI64mt, hI64rp, fI64, hp⟩ := hp
          rw [e9] at hW
          have f65 := z_fr_sub (L := L_X12_orders_x) f54 fI64 (by decide)
          have k67 : 0 ≤ (I64 0 0).toInt ∧ (I64 0 0).toInt ≤ 719 := by rw [fI64 0 0 (by decide)]; exact (by show 0 ≤ (I53 0 0).toInt ∧ (I53 0 0).toInt ≤ 719; rw [eI53, z_up_k (by decide), eI44, z_up_k (by decide), eI35, z_up_k (by decide), eI26, z_up_k (by decide), eI17, z_up_k (by decide)]; exact hma.1)
          have k68 : 0 ≤ (I64 0 1).toInt ∧ (I64 0 1).toInt ≤ 30 := by rw [fI64 0 1 (by decide)]; exact (by show 0 ≤ (I53 0 1).toInt ∧ (I53 0 1).toInt ≤ 30; rw [eI53, z_up_k (by decide), eI44, z_up_k (by decide), eI35, z_up_k (by decide), eI26, z_up_k (by decide), eI17, z_up_k (by decide)]; exact hma.2.1)
          have k69 : 0 ≤ (I64 0 2).toInt ∧ (I64 0 2).toInt ≤ 200 := by rw [fI64 0 2 (by decide)]; exact (by show 0 ≤ (I53 0 2).toInt ∧ (I53 0 2).toInt ≤ 200; rw [eI53, z_up_k (by decide), eI44, z_up_k (by decide), eI35, z_up_k (by decide), eI26, z_up_k (by decide), eI17, z_up_k (by decide)]; exact hma.2.2)
          have k70 : 0 ≤ (I64 0 13).toInt ∧ (I64 0 13).toInt ≤ 12 := by rw [fI64 0 13 (by decide)]; exact (by show 0 ≤ (I53 0 13).toInt ∧ (I53 0 13).toInt ≤ 12; rw [eI53, z_up_k (by decide), eI44, z_up_k (by decide), eI35, z_up_k (by decide), eI26, z_up_k (by decide), eI17, z_up_k (by decide)]; exact hmb.1)
          have k71 : 0 ≤ (I64 0 14).toInt ∧ (I64 0 14).toInt ≤ 288 := by rw [fI64 0 14 (by decide)]; exact (by show 0 ≤ (I53 0 14).toInt ∧ (I53 0 14).toInt ≤ 288; rw [eI53, z_up_k (by decide), eI44, z_up_k (by decide), eI35, z_up_k (by decide), eI26, z_up_k (by decide), eI17, z_up_k (by decide)]; exact hmb.2)
          have k72 : 0 ≤ (I64 0 47).toInt ∧ (I64 0 47).toInt ≤ 119 := by rw [fI64 0 47 (by decide)]; exact (by show 0 ≤ (I53 0 47).toInt ∧ (I53 0 47).toInt ≤ 119; rw [eI53, z_up_k (by decide), eI44, z_up_k (by decide), eI35, z_up_k (by decide), eI26, z_up_k (by decide), eI17, z_up_k (by decide)]; exact hmd.1)
          have k73 : 0 ≤ (I64 0 39).toInt ∧ (I64 0 39).toInt ≤ 100 := by rw [fI64 0 39 (by decide)]; exact (by show 0 ≤ (I53 0 39).toInt ∧ (I53 0 39).toInt ≤ 100; rw [eI53, z_up_k (by decide), eI44, z_up_k (by decide), eI35, z_up_k (by decide), eI26, z_up_k (by decide), eI17, z_up_k (by decide)]; exact hmd.2)
          have k74 : 0 ≤ (I64 0 40).toInt ∧ (I64 0 40).toInt ≤ 6199 := by rw [fI64 0 40 (by decide)]; exact (by show 0 ≤ (I53 0 40).toInt ∧ (I53 0 40).toInt ≤ 6199; rw [eI53, z_up_k (by decide), eI44, z_up_k (by decide), eI35, z_up_k (by decide), eI26, z_up_k (by decide), eI17, z_up_k (by decide)]; exact hmg)
          have k75 : 0 ≤ (I64 0 15).toInt ∧ (I64 0 15).toInt ≤ 6100 := by rw [fI64 0 15 (by decide)]; exact (by show 0 ≤ (I53 0 15).toInt ∧ (I53 0 15).toInt ≤ 6100; rw [eI53, z_up_k (by decide), eI44, z_up_k (by decide), eI35, z_up_k (by decide), eI26, z_up_k (by decide), eI17, z_up_k (by decide)]; exact hmn)
          have k76 : 0 ≤ (I64 0 35).toInt ∧ (I64 0 35).toInt ≤ (I64 0 34).toInt ∧ (I64 0 34).toInt ≤ (I64 0 33).toInt ∧ (I64 0 33).toInt ≤ 500 ∧ ((I64 0 36).toInt = 0 ∨ (I64 0 35).toInt + 1 ≤ (I64 0 34).toInt) := hI64rp
          have k77 : (I64 0 42).toInt = 0 := by rw [fI64 0 42 (by decide), eI53, z_up_s]; exact z_l0
          have k78 : (I64 0 47).toInt = (I 0 47).toInt := by rw [fI64 0 47 (by decide), eI53, z_up_k (by decide), eI44, z_up_k (by decide), eI35, z_up_k (by decide), eI26, z_up_k (by decide), eI17, z_up_k (by decide)]
          have k79 : (I64 0 39).toInt = (I 0 39).toInt := by rw [fI64 0 39 (by decide), eI53, z_up_k (by decide), eI44, z_up_k (by decide), eI35, z_up_k (by decide), eI26, z_up_k (by decide), eI17, z_up_k (by decide)]
          have k80 : (I64 0 15).toInt = (I 0 15).toInt := by rw [fI64 0 15 (by decide), eI53, z_up_k (by decide), eI44, z_up_k (by decide), eI35, z_up_k (by decide), eI26, z_up_k (by decide), eI17, z_up_k (by decide)]
          have k81 : (I64 0 40).toInt = (I 0 40).toInt := by rw [fI64 0 40 (by decide), eI53, z_up_k (by decide), eI44, z_up_k (by decide), eI35, z_up_k (by decide), eI26, z_up_k (by decide), eI17, z_up_k (by decide)]
          have k82 : (I64 0 14).toInt = (I 0 14).toInt := by rw [fI64 0 14 (by decide), eI53, z_up_k (by decide), eI44, z_up_k (by decide), eI35, z_up_k (by decide), eI26, z_up_k (by decide), eI17, z_up_k (by decide)]
          have k83 : (I64 0 13).toInt = (I 0 13).toInt := by rw [fI64 0 13 (by decide), eI53, z_up_k (by decide), eI44, z_up_k (by decide), eI35, z_up_k (by decide), eI26, z_up_k (by decide), eI17, z_up_k (by decide)]
          obtain ⟨hp, hp84⟩ := hp
          have h85 := hp
          rw [show (I53 0 34) = 0 from by rw [eI53, z_up_k (by decide), eI44, z_up_k (by decide), eI35, z_up_s]] at h85
          obtain ⟨FS0, o0, g0, hE0⟩ := zm_E_st (gI := I) hSM hp84 ((zm_hK (by rw [eI53, z_up_k (by decide), eI44, z_up_k (by decide), eI35, z_up_k (by decide), eI26, z_up_k (by decide), eI17, z_up_s, z_up_s]) (fun k => by rw [eI53, z_up_n (by decide), eI44, z_up_n (by decide), eI35, z_up_n (by decide), eI26, z_up_n (by decide), eI17, z_up_n (by decide), z_up_n (by decide)])).trans hgh.symm) (zm_h_fr fI64 (by decide) (by decide)) (by show (I53 0 34).toInt = 0; have q9 : (I53 0 34) = 0 := (by rw [eI53, z_up_k (by decide), eI44, z_up_k (by decide), eI35, z_up_s]); rw [q9]; first | omega | decide) (by show (I64 0 42).toInt = 0; first | omega | decide) (show 0 ≤ (I64 0 47).toInt ∧ (I64 0 47).toInt ≤ 119 from (by show 0 ≤ (I64 0 47).toInt ∧ (I64 0 47).toInt ≤ 119; exact k72)).1 (by show (I64 0 15).toInt = (n0 : Int); omega) (by show (I64 0 32).toInt = -1; first | omega | decide) (fun j _ => ⟨by rw [fI64 21 j (z_wr_c (by decide)), eI53, z_up_n (by decide), eI44, z_up_n (by decide), eI35, z_up_n (by decide), eI26, z_up_n (by decide), eI17, z_up_n (by decide)], by rw [fI64 22 j (z_wr_c (by decide)), eI53, z_up_n (by decide), eI44, z_up_n (by decide), eI35, z_up_n (by decide), eI26, z_up_n (by decide), eI17, z_up_n (by decide)], by rw [fI64 23 j (z_wr_c (by decide)), eI53, z_up_n (by decide), eI44, z_up_n (by decide), eI35, z_up_n (by decide), eI26, z_up_n (by decide), eI17, z_up_n (by decide)]⟩)
          have lp86 : ∀ (f : Nat)  (I87 : z_I) (J88 : z_J) (H : Heap) (locs : List Loc) (ls : Array Slot), ((¬ (I87 0 42).toInt = 0 ∧ 1 ≤ (f : Int)) ∨ (26 - ((I87 0 14).toInt - (I 0 14).toInt) ≤ (f : Int) ∧ 0 ≤ ((I87 0 14).toInt - (I 0 14).toInt) ∧ ((I87 0 14).toInt - (I 0 14).toInt) ≤ 24 ∧ 1010 * (500 - (I87 0 35).toInt) + 1000 * (I87 0 15).toInt ≤ 505000 + 1000 * (I 0 15).toInt + 20 * ((I87 0 14).toInt - (I 0 14).toInt))) → (z_ima I87) → (z_imb I87) → (z_imp I87) → (z_imt I87) → (z_imd I87) → (z_img I87) → (z_imn I87) → (z_Nd I87) → (z_rg 11 0 288 I87) → (z_rg 12 0 24 I87) → (z_rg 19 0 6200 I87) → (z_rg 20 0 6200 I87) → (z_rg 18 (-1) 6199 I87) → (z_Ex I87) → (z_irp I87) → ((I87 0 13).toInt = (I 0 13).toInt) → (I87 0 0 = I 0 0 ∧ (I87 0 31).toInt = 0 ∧ ∀ j, zm_tx I87 I j) → (zm_OL gt gv gp ge gh gm n0 I st0 ssT keT ff I87 J88) → (z_fr L_X12_orders_x I87 I) → z_W G A (shM, ad, I87, J88, PM ad) H → va_S A s.heap H locs → lv_has ls 5 [(4, .int (I 0 15)), (3, .int (I 0 14)), (0, .ref (ad 0)), (1, .int a1), (2, .int a2)] → W p l e (headSpec wsX12_orders { frames := 7, cells := 0, slots := 0, locals := 143 }).room s m ([.ref (ad 0), .int a1, .int a2] : List Value).toArray below meth c0 H locs 0 0 (MQ below (va_Qi (fun (r : Int32) (u1 : z_U) => ∃ (I1 : z_I) (J1 : z_J), u1 = (shM, ad, I1, J1, PM ad) ∧ z_ima I1 ∧ z_imb I1 ∧ z_imp I1 ∧ z_imt I1 ∧ z_imd I1 ∧ z_img I1 ∧ z_imn I1 ∧ z_Nd I1 ∧ z_rg 11 0 288 I1 ∧ z_rg 12 0 24 I1 ∧ z_rg 19 0 6200 I1 ∧ z_rg 20 0 6200 I1 ∧ z_rg 18 (-1) 6199 I1 ∧ z_Ex I1 ∧ z_iro I1 ∧ z_fr L_X12_orders_x I1 I ∧ zm_PO gt gv gp I I1 J J1 a1.toInt a2.toInt r.toInt n0 st0 x0 ssT keT ff) (z_B G A) A) ([.ref (ad 0), .int a1, .int a2] : List Value).toArray s 0 0 A) (F0 m 74 ls []) := by
            intro f
            induction f with
            | zero => intro  I87 J88 H locs ls lp86m lp86ma lp86mb lp86mp lp86mt lp86md lp86mg lp86mn lp86Nd lp86Atf lp86Atm lp86Asf lp86Ast lp86Asc lp86Ex lp86rp lp86T lp86K lp86E lp86fr hW hS hl; exact False.elim (by omega)
            | succ f lp86ih =>
              intro  I87 J88 H locs ls lp86m lp86ma lp86mb lp86mp lp86mt lp86md lp86mg lp86mn lp86Nd lp86Atf lp86Atm lp86Asf lp86Ast lp86Asc lp86Ex lp86rp lp86T lp86K lp86E lp86fr hW hS hl
              have k89 : 0 ≤ (I87 0 35).toInt ∧ (I87 0 35).toInt ≤ (I87 0 34).toInt ∧ (I87 0 34).toInt ≤ (I87 0 33).toInt ∧ (I87 0 33).toInt ≤ 500 ∧ ((I87 0 36).toInt = 0 ∨ (I87 0 35).toInt + 1 ≤ (I87 0 34).toInt) := lp86rp
              refine lv_aload_n hx hb dX12_orders_74 rfl (lv_at hl 2 rfl) ?_
              rcases lp86E with ⟨rs, ss2, ke1, FS9, o9, g9, eS, hT9, hE9, hC9, hR9, hQ9⟩ | ⟨hF9, hE9, hQ9⟩
              · have h90 := zm_E_W hE9
                have h91 := zm_E_D hE9
                have h92 := zm_E_nu hE9
                have r93 : 0 ≤ (I87 0 36).toInt ∧ (I87 0 36).toInt ≤ 4 := lp86mt.1
                refine z_get (T := TX12) (N := 96) (ci := 12) (i := 0) (v := .int (I87 0 36)) hx hb hts zj_X12_orders_X12 hown hK hW rfl rfl 36 (by decide) (hts (.fieldLink RX12 281 "PetrolBoardModel" "token" "I") (List.mem_of_getElem? (i := 9) rfl)) (fun _ h => h) rfl dX12_orders_75 ?_
                refine lv_if_eq (tgt := 134) hx hb dX12_orders_78 (by decide) (fun c94 => ?_) (fun c94 => ?_)
                · have g95 := z_f_eq rfl z_l0 c94
                  refine lv_aload_n hx hb dX12_orders_134 rfl (lv_at hl 2 rfl) ?_
                  have r96 : 0 ≤ (I87 0 42).toInt ∧ (I87 0 42).toInt ≤ 1 := lp86mt.2
                  refine z_get (T := TX12) (N := 96) (ci := 12) (i := 0) (v := .int (I87 0 42)) hx hb hts zj_X12_orders_X12 hown hK hW rfl rfl 42 (by decide) (hts (.fieldLink RX12 294 "PetrolBoardModel" "isWrong" "Z") (List.mem_of_getElem? (i := 6) rfl)) (fun _ h => h) rfl dX12_orders_135 ?_
                  refine lv_if_eq (tgt := 154) hx hb dX12_orders_138 (by decide) (fun c97 => ?_) (fun c97 => (by have g := z_f_ne rfl z_l0 c97; omega))
                  have g98 := z_f_eq rfl z_l0 c97
                  refine lv_aload_n hx hb dX12_orders_154 rfl (lv_at hl 2 rfl) ?_
                  refine z_get (T := TX12) (N := 96) (ci := 12) (i := 0) (v := .ref (ad 11)) hx hb hts zj_X12_orders_X12 hown hK hW rfl rfl 16 (by decide) (hts (.fieldLink RX12 40 "PetrolBoardModel" "textFirst" "[I") (List.mem_of_getElem? (i := 10) rfl)) (fun _ h => h) rfl dX12_orders_155 ?_
                  refine lv_aload_n hx hb dX12_orders_158 rfl (lv_at hl 2 rfl) ?_
                  have r99 : 0 ≤ (I87 0 13).toInt ∧ (I87 0 13).toInt ≤ 12 := lp86mb.1
                  refine z_get (T := TX12) (N := 96) (ci := 12) (i := 0) (v := .int (I87 0 13)) hx hb hts zj_X12_orders_X12 hown hK hW rfl rfl 13 (by decide) (hts (.fieldLink RX12 408 "PetrolBoardModel" "texts" "I") (List.mem_of_getElem? (i := 2) rfl)) (fun _ h => h) rfl dX12_orders_159 ?_
                  refine lv_iload_n hx hb dX12_orders_162 rfl (lv_at hl 1 rfl) ?_
                  refine z_iast (i := 11) hx hb hK hW hS rfl (z_ix rfl (by omega) (by omega)) dX12_orders_163 (fun H locs hz1 hW hS => ?_)
                  obtain ⟨I100, eI100⟩ : ∃ K : z_I, K = z_up I87 11 (I87 0 13).toNatClampNeg (I 0 14) := ⟨_, rfl⟩
                  rw [← eI100] at hW
                  have f101 := z_fr_a lp86fr (show z_wa L_X12_orders_x 11 = true by decide) eI100
                  have a102 := z_Nd_n lp86Nd (by decide) eI100
                  have a103 := z_rg_a lp86Atf (by omega) eI100
                  have a104 := z_rg_n lp86Atm (by decide) eI100
                  have a105 := z_rg_n lp86Asf (by decide) eI100
                  have a106 := z_rg_n lp86Ast (by decide) eI100
                  have a107 := z_rg_n lp86Asc (by decide) eI100
                  have a108 := z_Ex_n lp86Ex (by decide) eI100
                  have hE109 : zm_E gt gv gp ge gh gm n0 I I100 J88 (.inr (ke1, FS9, o9, g9, (zm_fl rs))) := zm_E_z hE9 eI100 (by decide)
                  refine lv_aload_n hx hb dX12_orders_164 rfl (lv_at hl 2 rfl) ?_
                  refine z_get (T := TX12) (N := 96) (ci := 12) (i := 0) (v := .ref (ad 12)) hx hb hts zj_X12_orders_X12 hown hK hW rfl rfl 17 (by decide) (hts (.fieldLink RX12 43 "PetrolBoardModel" "textMany" "[I") (List.mem_of_getElem? (i := 11) rfl)) (fun _ h => h) rfl dX12_orders_165 ?_
                  refine lv_aload_n hx hb dX12_orders_168 rfl (lv_at hl 2 rfl) ?_
                  refine z_get (T := TX12) (N := 96) (ci := 12) (i := 0) (v := .int (I87 0 13)) hx hb hts zj_X12_orders_X12 hown hK hW rfl rfl 13 (by decide) (hts (.fieldLink RX12 408 "PetrolBoardModel" "texts" "I") (List.mem_of_getElem? (i := 2) rfl)) (fun _ h => h) (congrArg Value.int (by rw [eI100, z_up_n (by decide)])) dX12_orders_169 ?_
                  refine lv_aload_n hx hb dX12_orders_172 rfl (lv_at hl 2 rfl) ?_
                  have r110 : 0 ≤ (I87 0 14).toInt ∧ (I87 0 14).toInt ≤ 288 := lp86mb.2
                  refine z_get (T := TX12) (N := 96) (ci := 12) (i := 0) (v := .int (I87 0 14)) hx hb hts zj_X12_orders_X12 hown hK hW rfl rfl 14 (by decide) (hts (.fieldLink RX12 411 "PetrolBoardModel" "statements" "I") (List.mem_of_getElem? (i := 7) rfl)) (fun _ h => h) (congrArg Value.int (by rw [eI100, z_up_n (by decide)])) dX12_orders_173 ?_
                  refine lv_iload_n hx hb dX12_orders_176 rfl (lv_at hl 1 rfl) ?_
                  refine lv_isub hx hb dX12_orders_177 ?_
                  refine lv_topi (fun x111 ex111 => ?_)
                  have tx111 : x111.toInt = (I87 0 14).toInt - (I 0 14).toInt := z_tsub ex111 rfl rfl (by omega) (by omega)
                  refine z_iast (i := 12) hx hb hK hW hS rfl (z_ix rfl (by omega) (by omega)) dX12_orders_178 (fun H locs hz1 hW hS => ?_)
                  obtain ⟨I112, eI112⟩ : ∃ K : z_I, K = z_up I100 12 (I87 0 13).toNatClampNeg x111 := ⟨_, rfl⟩
                  rw [← eI112] at hW
                  have f113 := z_fr_a f101 (show z_wa L_X12_orders_x 12 = true by decide) eI112
                  have a114 := z_Nd_n a102 (by decide) eI112
                  have a115 := z_rg_n a103 (by decide) eI112
                  have a116 := z_rg_a a104 (by omega) eI112
                  have a117 := z_rg_n a105 (by decide) eI112
                  have a118 := z_rg_n a106 (by decide) eI112
                  have a119 := z_rg_n a107 (by decide) eI112
                  have a120 := z_Ex_n a108 (by decide) eI112
                  have hE121 : zm_E gt gv gp ge gh gm n0 I I112 J88 (.inr (ke1, FS9, o9, g9, (zm_fl rs))) := zm_E_z hE109 eI112 (by decide)
                  refine lv_aload_n hx hb dX12_orders_179 rfl (lv_at hl 2 rfl) ?_
                  refine z_get (T := TX12) (N := 96) (ci := 12) (i := 0) (v := .ref (ad 13)) hx hb hts zj_X12_orders_X12 hown hK hW rfl rfl 18 (by decide) (hts (.fieldLink RX12 46 "PetrolBoardModel" "textMonth" "[I") (List.mem_of_getElem? (i := 12) rfl)) (fun _ h => h) rfl dX12_orders_180 ?_
                  refine lv_aload_n hx hb dX12_orders_183 rfl (lv_at hl 2 rfl) ?_
                  refine z_get (T := TX12) (N := 96) (ci := 12) (i := 0) (v := .int (I87 0 13)) hx hb hts zj_X12_orders_X12 hown hK hW rfl rfl 13 (by decide) (hts (.fieldLink RX12 408 "PetrolBoardModel" "texts" "I") (List.mem_of_getElem? (i := 2) rfl)) (fun _ h => h) (congrArg Value.int (by rw [eI112, z_up_n (by decide), eI100, z_up_n (by decide)])) dX12_orders_184 ?_
                  refine lv_iload_n hx hb dX12_orders_187 rfl (lv_at hl 4 rfl) ?_
                  refine z_iast (i := 13) hx hb hK hW hS rfl (z_ix rfl (by omega) (by omega)) dX12_orders_188 (fun H locs hz1 hW hS => ?_)
                  obtain ⟨I122, eI122⟩ : ∃ K : z_I, K = z_up I112 13 (I87 0 13).toNatClampNeg a2 := ⟨_, rfl⟩
                  rw [← eI122] at hW
                  have f123 := z_fr_a f113 (show z_wa L_X12_orders_x 13 = true by decide) eI122
                  have a124 := z_Nd_n a114 (by decide) eI122
                  have a125 := z_rg_n a115 (by decide) eI122
                  have a126 := z_rg_n a116 (by decide) eI122
                  have a127 := z_rg_n a117 (by decide) eI122
                  have a128 := z_rg_n a118 (by decide) eI122
                  have a129 := z_rg_n a119 (by decide) eI122
                  have a130 := z_Ex_n a120 (by decide) eI122
                  have hE131 : zm_E gt gv gp ge gh gm n0 I I122 J88 (.inr (ke1, FS9, o9, g9, (zm_fl rs))) := zm_E_z hE121 eI122 (by decide)
                  refine lv_aload_n hx hb dX12_orders_189 rfl (lv_at hl 2 rfl) ?_
                  refine z_get (T := TX12) (N := 96) (ci := 12) (i := 0) (v := .ref (ad 14)) hx hb hts zj_X12_orders_X12 hown hK hW rfl rfl 19 (by decide) (hts (.fieldLink RX12 49 "PetrolBoardModel" "textTold" "[I") (List.mem_of_getElem? (i := 13) rfl)) (fun _ h => h) rfl dX12_orders_190 ?_
                  refine lv_aload_n hx hb dX12_orders_193 rfl (lv_at hl 2 rfl) ?_
                  refine z_get (T := TX12) (N := 96) (ci := 12) (i := 0) (v := .int (I87 0 13)) hx hb hts zj_X12_orders_X12 hown hK hW rfl rfl 13 (by decide) (hts (.fieldLink RX12 408 "PetrolBoardModel" "texts" "I") (List.mem_of_getElem? (i := 2) rfl)) (fun _ h => h) (congrArg Value.int (by rw [eI122, z_up_n (by decide), eI112, z_up_n (by decide), eI100, z_up_n (by decide)])) dX12_orders_194 ?_
                  refine lv_aload_n hx hb dX12_orders_197 rfl (lv_at hl 2 rfl) ?_
                  have r132 : 0 ≤ (I87 0 0).toInt ∧ (I87 0 0).toInt ≤ 719 := lp86ma.1
                  refine z_get (T := TX12) (N := 96) (ci := 12) (i := 0) (v := .int (I87 0 0)) hx hb hts zj_X12_orders_X12 hown hK hW rfl rfl 0 (by decide) (hts (.fieldLink RX12 232 "PetrolBoardModel" "today" "I") (List.mem_of_getElem? (i := 14) rfl)) (fun _ h => h) (congrArg Value.int (by rw [eI122, z_up_n (by decide), eI112, z_up_n (by decide), eI100, z_up_n (by decide)])) dX12_orders_198 ?_
                  refine z_iast (i := 14) hx hb hK hW hS rfl (z_ix rfl (by omega) (by omega)) dX12_orders_201 (fun H locs hz1 hW hS => ?_)
                  obtain ⟨I133, eI133⟩ : ∃ K : z_I, K = z_up I122 14 (I87 0 13).toNatClampNeg (I87 0 0) := ⟨_, rfl⟩
                  rw [← eI133] at hW
                  have f134 := z_fr_a f123 (show z_wa L_X12_orders_x 14 = true by decide) eI133
                  have a135 := z_Nd_n a124 (by decide) eI133
                  have a136 := z_rg_n a125 (by decide) eI133
                  have a137 := z_rg_n a126 (by decide) eI133
                  have a138 := z_rg_n a127 (by decide) eI133
                  have a139 := z_rg_n a128 (by decide) eI133
                  have a140 := z_rg_n a129 (by decide) eI133
                  have a141 := z_Ex_n a130 (by decide) eI133
                  have hE142 : zm_E gt gv gp ge gh gm n0 I I133 J88 (.inr (ke1, FS9, o9, g9, (zm_fl rs))) := zm_E_z hE131 eI133 (by decide)
                  refine lv_aload_n hx hb dX12_orders_202 rfl (lv_at hl 2 rfl) ?_
                  refine lv_dup hx hb dX12_orders_203 rfl ?_
                  refine z_get (T := TX12) (N := 96) (ci := 12) (i := 0) (v := .int (I87 0 13)) hx hb hts zj_X12_orders_X12 hown hK hW rfl rfl 13 (by decide) (hts (.fieldLink RX12 408 "PetrolBoardModel" "texts" "I") (List.mem_of_getElem? (i := 2) rfl)) (fun _ h => h) (congrArg Value.int (by rw [eI133, z_up_n (by decide), eI122, z_up_n (by decide), eI112, z_up_n (by decide), eI100, z_up_n (by decide)])) dX12_orders_204 ?_
                  refine lv_iconst (v := 1) hx hb dX12_orders_207 (by decide) ?_
                  refine lv_iadd hx hb dX12_orders_208 ?_
                  refine lv_topi (fun x143 ex143 => ?_)
                  have tx143 : x143.toInt = (I87 0 13).toInt + 1 := z_tadd ex143 rfl z_l1 (by omega) (by omega)
                  refine z_put (T := TX12) (N := 96) (ci := 12) (i := 0) (v := .int x143) (I1 := z_up I133 0 13 x143) (J1 := J88) (P1 := PM ad) hx hb hts zj_X12_orders_X12 tyX12 tyX12_ok nmX12 hown hK hW hS rfl rfl 13 (by decide) (hts (.fieldLink RX12 408 "PetrolBoardModel" "texts" "I") (List.mem_of_getElem? (i := 2) rfl)) (fun _ h => h) rfl rfl rfl (by first | rfl | exact congrArg _ z_up_s) (fun a b h ty => z_vI h ty) dX12_orders_209 (fun H locs hz1 hW hS => ?_)
                  obtain ⟨I144, eI144⟩ : ∃ K : z_I, K = z_up I133 0 13 x143 := ⟨_, rfl⟩
                  rw [← eI144] at hW
                  have f145 := z_fr_k f134 (show z_wr L_X12_orders_x 0 13 = true by decide) eI144
                  have a146 := z_Nd_n a135 (by decide) eI144
                  have a147 := z_rg_n a136 (by decide) eI144
                  have a148 := z_rg_n a137 (by decide) eI144
                  have a149 := z_rg_n a138 (by decide) eI144
                  have a150 := z_rg_n a139 (by decide) eI144
                  have a151 := z_rg_n a140 (by decide) eI144
                  have a152 := z_Ex_n a141 (by decide) eI144
                  have hE153 : zm_E gt gv gp ge gh gm n0 I I144 J88 (.inr (ke1, FS9, o9, g9, (zm_fl rs))) := zm_E_z hE142 eI144 (by decide)
                  refine lv_aload_n hx hb dX12_orders_212 rfl (lv_at hl 2 rfl) ?_
                  refine z_get (T := TX12) (N := 96) (ci := 12) (i := 0) (v := .int x143) hx hb hts zj_X12_orders_X12 hown hK hW rfl rfl 13 (by decide) (hts (.fieldLink RX12 408 "PetrolBoardModel" "texts" "I") (List.mem_of_getElem? (i := 2) rfl)) (fun _ h => h) (congrArg Value.int (by rw [eI144, z_up_s])) dX12_orders_213 ?_
                  refine lv_iconst (v := 1) hx hb dX12_orders_216 (by decide) ?_
                  refine lv_isub hx hb dX12_orders_217 ?_
                  refine lv_topi (fun x154 ex154 => ?_)
                  have tx154 : x154.toInt = x143.toInt - 1 := z_tsub ex154 rfl z_l1 (by omega) (by omega)
                  obtain ⟨e2, ek⟩ := zm_O_end hT9 (by omega)
                  rw [e2, List.append_nil] at eS
                  have eL : ssT.length = rs.length := by rw [eS, List.length_map]
                  exact z_iret hx hb hr hK hS (Nat.le_of_ble_eq_true rfl) (Nat.le_of_ble_eq_true rfl) hlocks dX12_orders_218 (shM, ad, I144, J88, PM ad) hW ⟨I144, J88, rfl, ⟨(by show 0 ≤ (I144 0 0).toInt ∧ (I144 0 0).toInt ≤ 719; rw [eI144, z_up_k (by decide), eI133, z_up_n (by decide), eI122, z_up_n (by decide), eI112, z_up_n (by decide), eI100, z_up_n (by decide)]; exact lp86ma.1), (by show 0 ≤ (I144 0 1).toInt ∧ (I144 0 1).toInt ≤ 30; rw [eI144, z_up_k (by decide), eI133, z_up_n (by decide), eI122, z_up_n (by decide), eI112, z_up_n (by decide), eI100, z_up_n (by decide)]; exact lp86ma.2.1), (by show 0 ≤ (I144 0 2).toInt ∧ (I144 0 2).toInt ≤ 200; rw [eI144, z_up_k (by decide), eI133, z_up_n (by decide), eI122, z_up_n (by decide), eI112, z_up_n (by decide), eI100, z_up_n (by decide)]; exact lp86ma.2.2)⟩, ⟨(by show 0 ≤ (I144 0 13).toInt ∧ (I144 0 13).toInt ≤ 12; rw [eI144, z_up_s]; omega), (by show 0 ≤ (I144 0 14).toInt ∧ (I144 0 14).toInt ≤ 288; rw [eI144, z_up_k (by decide), eI133, z_up_n (by decide), eI122, z_up_n (by decide), eI112, z_up_n (by decide), eI100, z_up_n (by decide)]; exact lp86mb.2)⟩, ⟨(by show 0 ≤ (I144 0 31).toInt ∧ (I144 0 31).toInt ≤ 500; rw [eI144, z_up_k (by decide), eI133, z_up_n (by decide), eI122, z_up_n (by decide), eI112, z_up_n (by decide), eI100, z_up_n (by decide)]; exact lp86mp.1), (by show 0 ≤ (I144 0 33).toInt ∧ (I144 0 33).toInt ≤ 500; rw [eI144, z_up_k (by decide), eI133, z_up_n (by decide), eI122, z_up_n (by decide), eI112, z_up_n (by decide), eI100, z_up_n (by decide)]; exact lp86mp.2.1), (by show 0 ≤ (I144 0 34).toInt ∧ (I144 0 34).toInt ≤ 500; rw [eI144, z_up_k (by decide), eI133, z_up_n (by decide), eI122, z_up_n (by decide), eI112, z_up_n (by decide), eI100, z_up_n (by decide)]; exact lp86mp.2.2.1), (by show 0 ≤ (I144 0 35).toInt ∧ (I144 0 35).toInt ≤ 500; rw [eI144, z_up_k (by decide), eI133, z_up_n (by decide), eI122, z_up_n (by decide), eI112, z_up_n (by decide), eI100, z_up_n (by decide)]; exact lp86mp.2.2.2)⟩, ⟨(by show 0 ≤ (I144 0 36).toInt ∧ (I144 0 36).toInt ≤ 4; rw [eI144, z_up_k (by decide), eI133, z_up_n (by decide), eI122, z_up_n (by decide), eI112, z_up_n (by decide), eI100, z_up_n (by decide)]; exact lp86mt.1), (by show 0 ≤ (I144 0 42).toInt ∧ (I144 0 42).toInt ≤ 1; rw [eI144, z_up_k (by decide), eI133, z_up_n (by decide), eI122, z_up_n (by decide), eI112, z_up_n (by decide), eI100, z_up_n (by decide)]; exact lp86mt.2)⟩, ⟨(by show 0 ≤ (I144 0 47).toInt ∧ (I144 0 47).toInt ≤ 119; rw [eI144, z_up_k (by decide), eI133, z_up_n (by decide), eI122, z_up_n (by decide), eI112, z_up_n (by decide), eI100, z_up_n (by decide)]; exact lp86md.1), (by show 0 ≤ (I144 0 39).toInt ∧ (I144 0 39).toInt ≤ 100; rw [eI144, z_up_k (by decide), eI133, z_up_n (by decide), eI122, z_up_n (by decide), eI112, z_up_n (by decide), eI100, z_up_n (by decide)]; exact lp86md.2)⟩, (by show 0 ≤ (I144 0 40).toInt ∧ (I144 0 40).toInt ≤ 6199; rw [eI144, z_up_k (by decide), eI133, z_up_n (by decide), eI122, z_up_n (by decide), eI112, z_up_n (by decide), eI100, z_up_n (by decide)]; exact lp86mg), (by show 0 ≤ (I144 0 15).toInt ∧ (I144 0 15).toInt ≤ 6100; rw [eI144, z_up_k (by decide), eI133, z_up_n (by decide), eI122, z_up_n (by decide), eI112, z_up_n (by decide), eI100, z_up_n (by decide)]; exact lp86mn), a146, a147, a148, a149, a150, a151, a152, (by have q0 : (I144 0 13) = x143 := (by rw [eI144, z_up_s]); have q1 : (I144 0 14) = (I87 0 14) := (by rw [eI144, z_up_k (by decide), eI133, z_up_n (by decide), eI122, z_up_n (by decide), eI112, z_up_n (by decide), eI100, z_up_n (by decide)]); have q2 : (I144 0 15) = (I87 0 15) := (by rw [eI144, z_up_k (by decide), eI133, z_up_n (by decide), eI122, z_up_n (by decide), eI112, z_up_n (by decide), eI100, z_up_n (by decide)]); show (I144 0 14).toInt ≤ 24 * (I144 0 13).toInt ∧ (I144 0 15).toInt ≤ 505 * (I144 0 13).toInt; rw [q0, q1, q2]; first | omega | decide), f145, (Or.inr (Or.inr ⟨⟨by omega, by omega, by omega, by omega⟩, by omega, (by rw [show I144 0 31 = I87 0 31 from by rw [eI144, z_up_k hj, eI133, z_up_n (by decide), eI122, z_up_n (by decide), eI112, z_up_n (by decide), eI100, z_up_n (by decide)]]; exact lp86K.2.1), (fun j hj => zm_q6_t ⟨by rw [eI144, z_up_n (by decide), eI133, z_up_n (by decide), eI122, z_up_n (by decide), eI112, z_up_n (by decide), eI100, z_up_n (by decide)], by rw [eI144, z_up_n (by decide), eI133, z_up_n (by decide), eI122, z_up_n (by decide), eI112, z_up_n (by decide), eI100, z_up_n (by decide)], by rw [eI144, z_up_n (by decide), eI133, z_up_n (by decide), eI122, z_up_n (by decide), eI112, z_up_n (by decide), eI100, z_up_n (by decide)], by rw [eI144, z_up_n (by decide), eI133, z_up_n (by decide), eI122, z_up_n (by decide), eI112, z_up_n (by decide), eI100, z_up_n (by decide)], by rw [eI144, z_up_n (by decide), eI133, z_up_n (by decide), eI122, z_up_n (by decide), eI112, z_up_n (by decide), eI100, z_up_n (by decide)], by rw [eI144, z_up_n (by decide), eI133, z_up_n (by decide), eI122, z_up_n (by decide), eI112, z_up_n (by decide), eI100, z_up_n (by decide)]⟩ (hQ9 j hj)), (zm_E_en hE153).2.2.2, Or.inr ⟨by omega, by rw [ek]; omega, (zm_E_en hE153).1, (by have q0 : (I144 0 13) = x143 := (by rw [eI144, z_up_s]); show (I144 0 13).toInt = (x0 : Int) + 1; rw [q0]; omega), by rw [(show x0 = (I87 0 13).toNatClampNeg from by have := z_clt (x := I87 0 13) rfl (by omega); omega)]; exact fun j hj => ⟨((show I144 11 j = I87 11 j from by rw [eI144, z_up_n (by decide), eI133, z_up_n (by decide), eI122, z_up_n (by decide), eI112, z_up_n (by decide), eI100, z_up_k hj]).trans (lp86K.2.2 j).1), ((show I144 12 j = I87 12 j from by rw [eI144, z_up_n (by decide), eI133, z_up_n (by decide), eI122, z_up_n (by decide), eI112, z_up_k hj, eI100, z_up_n (by decide)]).trans (lp86K.2.2 j).2.1), ((show I144 13 j = I87 13 j from by rw [eI144, z_up_n (by decide), eI133, z_up_n (by decide), eI122, z_up_k hj, eI112, z_up_n (by decide), eI100, z_up_n (by decide)]).trans (lp86K.2.2 j).2.2.1), ((show I144 14 j = I87 14 j from by rw [eI144, z_up_n (by decide), eI133, z_up_k hj, eI122, z_up_n (by decide), eI112, z_up_n (by decide), eI100, z_up_n (by decide)]).trans (lp86K.2.2 j).2.2.2)⟩, (by rw [(show x0 = (I87 0 13).toNatClampNeg from by have := z_clt (x := I87 0 13) rfl (by omega); omega), eI144, z_up_n (by decide), eI133, z_up_n (by decide), eI122, z_up_n (by decide), eI112, z_up_n (by decide), eI100, z_up_s]; have := rfl; omega), (by rw [(show x0 = (I87 0 13).toNatClampNeg from by have := z_clt (x := I87 0 13) rfl (by omega); omega), eI144, z_up_n (by decide), eI133, z_up_n (by decide), eI122, z_up_n (by decide), eI112, z_up_s]; have := rfl; omega), (by rw [(show x0 = (I87 0 13).toNatClampNeg from by have := z_clt (x := I87 0 13) rfl (by omega); omega), eI144, z_up_n (by decide), eI133, z_up_n (by decide), eI122, z_up_s]; have := rfl; omega), (by rw [(show x0 = (I87 0 13).toNatClampNeg from by have := z_clt (x := I87 0 13) rfl (by omega); omega), eI144, z_up_n (by decide), eI133, z_up_s]; exact lp86K.1), (by have q0 : (I144 0 14) = (I87 0 14) := (by rw [eI144, z_up_k (by decide), eI133, z_up_n (by decide), eI122, z_up_n (by decide), eI112, z_up_n (by decide), eI100, z_up_n (by decide)]); show (I144 0 14).toInt = (st0 : Int) + (ssT.length : Int); rw [q0]; omega), rs, eS.symm, zm_RS_c rs _ _ (fun j _ _ => ⟨by rw [eI144, z_up_n (by decide), eI133, z_up_n (by decide), eI122, z_up_n (by decide), eI112, z_up_n (by decide), eI100, z_up_n (by decide)], by rw [eI144, z_up_n (by decide), eI133, z_up_n (by decide), eI122, z_up_n (by decide), eI112, z_up_n (by decide), eI100, z_up_n (by decide)], by rw [eI144, z_up_n (by decide), eI133, z_up_n (by decide), eI122, z_up_n (by decide), eI112, z_up_n (by decide), eI100, z_up_n (by decide)], by rw [eI144, z_up_n (by decide), eI133, z_up_n (by decide), eI122, z_up_n (by decide), eI112, z_up_n (by decide), eI100, z_up_n (by decide)], by rw [eI144, z_up_n (by decide), eI133, z_up_n (by decide), eI122, z_up_n (by decide), eI112, z_up_n (by decide), eI100, z_up_n (by decide)], by rw [eI144, z_up_n (by decide), eI133, z_up_n (by decide), eI122, z_up_n (by decide), eI112, z_up_n (by decide), eI100, z_up_n (by decide)]⟩) hR9, (zm_E_en hE153).2.1, (zm_E_en hE153).2.2.1⟩⟩))⟩
                · have g155 := z_f_ne rfl z_l0 c94
                  refine lv_aload_n hx hb dX12_orders_81 rfl (lv_at hl 2 rfl) ?_
                  have r156 : 0 ≤ (I87 0 42).toInt ∧ (I87 0 42).toInt ≤ 1 := lp86mt.2
                  refine z_get (T := TX12) (N := 96) (ci := 12) (i := 0) (v := .int (I87 0 42)) hx hb hts zj_X12_orders_X12 hown hK hW rfl rfl 42 (by decide) (hts (.fieldLink RX12 294 "PetrolBoardModel" "isWrong" "Z") (List.mem_of_getElem? (i := 6) rfl)) (fun _ h => h) rfl dX12_orders_82 ?_
                  refine lv_if_ne (tgt := 134) hx hb dX12_orders_85 (by decide) (fun c157 => (by have g := z_f_ne rfl z_l0 c157; omega)) (fun c157 => ?_)
                  have g158 := z_f_eq rfl z_l0 c157
                  refine lv_aload_n hx hb dX12_orders_88 rfl (lv_at hl 2 rfl) ?_
                  have r159 : 0 ≤ (I87 0 14).toInt ∧ (I87 0 14).toInt ≤ 288 := lp86mb.2
                  refine z_get (T := TX12) (N := 96) (ci := 12) (i := 0) (v := .int (I87 0 14)) hx hb hts zj_X12_orders_X12 hown hK hW rfl rfl 14 (by decide) (hts (.fieldLink RX12 411 "PetrolBoardModel" "statements" "I") (List.mem_of_getElem? (i := 7) rfl)) (fun _ h => h) rfl dX12_orders_89 ?_
                  refine lv_iload_n hx hb dX12_orders_92 rfl (lv_at hl 1 rfl) ?_
                  refine lv_isub hx hb dX12_orders_93 ?_
                  refine lv_topi (fun x160 ex160 => ?_)
                  have tx160 : x160.toInt = (I87 0 14).toInt - (I 0 14).toInt := z_tsub ex160 rfl rfl (by omega) (by omega)
                  refine lv_bipush (v := 24) hx hb dX12_orders_94 (by decide) ?_
                  refine lv_icmp_ne (tgt := 106) hx hb dX12_orders_96 (by decide) (fun c161 => ?_) (fun c161 => ?_)
                  · have g162 := z_f_ne rfl z_l24 c161
                    refine lv_aload_n hx hb dX12_orders_106 rfl (lv_at hl 2 rfl) ?_
                    refine lv_aload_n hx hb dX12_orders_107 rfl (lv_at hl 2 rfl) ?_
                    refine z_get (T := TX12) (N := 96) (ci := 12) (i := 0) (v := .int (I87 0 14)) hx hb hts zj_X12_orders_X12 hown hK hW rfl rfl 14 (by decide) (hts (.fieldLink RX12 411 "PetrolBoardModel" "statements" "I") (List.mem_of_getElem? (i := 7) rfl)) (fun _ h => h) rfl dX12_orders_108 ?_
                    refine z_cv hW hS hA (va_runV (As := [.int (I87 0 14)]) (rest := []) ⟨hx, hb, hml, hown, hts⟩ (sx_X12_statement_x l G ad I87 J88 ⟨(by show 0 ≤ (I87 0 31).toInt ∧ (I87 0 31).toInt ≤ 500; exact lp86mp.1), (by show 0 ≤ (I87 0 33).toInt ∧ (I87 0 33).toInt ≤ 500; exact lp86mp.2.1), (by show 0 ≤ (I87 0 34).toInt ∧ (I87 0 34).toInt ≤ 500; exact lp86mp.2.2.1), (by show 0 ≤ (I87 0 35).toInt ∧ (I87 0 35).toInt ≤ 500; exact lp86mp.2.2.2)⟩ ⟨(by show 0 ≤ (I87 0 36).toInt ∧ (I87 0 36).toInt ≤ 4; exact lp86mt.1), (by show 0 ≤ (I87 0 42).toInt ∧ (I87 0 42).toInt ≤ 1; exact lp86mt.2)⟩ ⟨(by show 0 ≤ (I87 0 47).toInt ∧ (I87 0 47).toInt ≤ 119; exact lp86md.1), (by show 0 ≤ (I87 0 39).toInt ∧ (I87 0 39).toInt ≤ 100; exact lp86md.2)⟩ (by show 0 ≤ (I87 0 40).toInt ∧ (I87 0 40).toInt ≤ 6199; exact lp86mg) (by show 0 ≤ (I87 0 15).toInt ∧ (I87 0 15).toInt ≤ 6100; exact lp86mn) lp86Nd (by show 0 ≤ (I87 0 35).toInt ∧ (I87 0 35).toInt ≤ (I87 0 34).toInt ∧ (I87 0 34).toInt ≤ (I87 0 33).toInt ∧ (I87 0 33).toInt ≤ 500 ∧ ((I87 0 36).toInt = 0 ∨ (I87 0 35).toInt + 1 ≤ (I87 0 34).toInt); first | omega | decide) lp86Asf lp86Ast lp86Asc lp86Ex gt gv gp ge gh gm n0 I (ke1) (FS9) (o9) (g9) ((zm_fl rs)) (I87 0 14) (by first | omega | decide) (by show 1010 * (500 - (I87 0 35).toInt) + 1000 * (I87 0 15).toInt + 20 ≤ 6100000; omega) hE9 hSM hva _) (cwV 1 hts gX12_orders_X12_statement rfl rfl rfl (by decide +kernel) ⟨Nat.le_of_ble_eq_true rfl, Nat.le_of_ble_eq_true rfl⟩) (z_preV (i := 0) hK hW rfl rfl) rfl rfl hl.1 rfl (lv_room (Nat.le_of_ble_eq_true rfl)) dX12_orders_111 ⟨Nat.le_of_ble_eq_true rfl, Nat.le_of_ble_eq_true rfl⟩) (fun u1 H locs hp hW hS => ?_)
                    obtain ⟨I163, J165, e9, hI163mp, hI163mt, hI163md, hI163mg, hI163mn, hI163Nd, hI163rp, hI163Asf, hI163Ast, hI163Asc, hI163Ex, fI163, hp⟩ := hp
                    rw [e9] at hW
                    have f164 := z_fr_sub (L := L_X12_orders_x) lp86fr fI163 (by decide)
                    have k166 : 0 ≤ (I163 0 0).toInt ∧ (I163 0 0).toInt ≤ 719 := by rw [fI163 0 0 (by decide)]; exact (by show 0 ≤ (I87 0 0).toInt ∧ (I87 0 0).toInt ≤ 719; exact lp86ma.1)
                    have k167 : 0 ≤ (I163 0 1).toInt ∧ (I163 0 1).toInt ≤ 30 := by rw [fI163 0 1 (by decide)]; exact (by show 0 ≤ (I87 0 1).toInt ∧ (I87 0 1).toInt ≤ 30; exact lp86ma.2.1)
                    have k168 : 0 ≤ (I163 0 2).toInt ∧ (I163 0 2).toInt ≤ 200 := by rw [fI163 0 2 (by decide)]; exact (by show 0 ≤ (I87 0 2).toInt ∧ (I87 0 2).toInt ≤ 200; exact lp86ma.2.2)
                    have k169 : 0 ≤ (I163 0 13).toInt ∧ (I163 0 13).toInt ≤ 12 := by rw [fI163 0 13 (by decide)]; exact (by show 0 ≤ (I87 0 13).toInt ∧ (I87 0 13).toInt ≤ 12; exact lp86mb.1)
                    have k170 : 0 ≤ (I163 0 14).toInt ∧ (I163 0 14).toInt ≤ 288 := by rw [fI163 0 14 (by decide)]; exact (by show 0 ≤ (I87 0 14).toInt ∧ (I87 0 14).toInt ≤ 288; exact lp86mb.2)
                    have k171 : 0 ≤ (I163 0 35).toInt ∧ (I163 0 35).toInt ≤ (I163 0 34).toInt ∧ (I163 0 34).toInt ≤ (I163 0 33).toInt ∧ (I163 0 33).toInt ≤ 500 ∧ ((I163 0 36).toInt = 0 ∨ (I163 0 35).toInt + 1 ≤ (I163 0 34).toInt) := hI163rp
                    have k172 : (I163 0 14).toInt = (I87 0 14).toInt := by rw [fI163 0 14 (by decide)]
                    have k173 : (I163 0 13).toInt = (I87 0 13).toInt := by rw [fI163 0 13 (by decide)]
                    obtain ⟨h174, hSR175, hs176⟩ := hp
                    rcases zm_O_st eS hT9 hSR175 (by omega) (by omega) hO with ⟨s8, sg1, sg2, ss3, k8, FS8, o8, g8, e8, t8, hE8, hr8⟩ | ⟨hF8, hE8⟩
                    · have h177 := zm_E_W hE8
                      refine lv_aload_n hx hb dX12_orders_114 rfl (lv_at hl 2 rfl) ?_
                      have r178 : 0 ≤ (I163 0 42).toInt ∧ (I163 0 42).toInt ≤ 1 := hI163mt.2
                      refine z_get (T := TX12) (N := 96) (ci := 12) (i := 0) (v := .int (I163 0 42)) hx hb hts zj_X12_orders_X12 hown hK hW rfl rfl 42 (by decide) (hts (.fieldLink RX12 294 "PetrolBoardModel" "isWrong" "Z") (List.mem_of_getElem? (i := 6) rfl)) (fun _ h => h) rfl dX12_orders_115 ?_
                      refine lv_if_ne (tgt := 74) hx hb dX12_orders_118 (by decide) (fun c179 => (by have g := z_f_ne rfl z_l0 c179; omega)) (fun c179 => ?_)
                      have g180 := z_f_eq rfl z_l0 c179
                      refine lv_aload_n hx hb dX12_orders_121 rfl (lv_at hl 2 rfl) ?_
                      refine lv_dup hx hb dX12_orders_122 rfl ?_
                      have r181 : 0 ≤ (I163 0 14).toInt ∧ (I163 0 14).toInt ≤ 288 := k170
                      refine z_get (T := TX12) (N := 96) (ci := 12) (i := 0) (v := .int (I163 0 14)) hx hb hts zj_X12_orders_X12 hown hK hW rfl rfl 14 (by decide) (hts (.fieldLink RX12 411 "PetrolBoardModel" "statements" "I") (List.mem_of_getElem? (i := 7) rfl)) (fun _ h => h) rfl dX12_orders_123 ?_
                      refine lv_iconst (v := 1) hx hb dX12_orders_126 (by decide) ?_
                      refine lv_iadd hx hb dX12_orders_127 ?_
                      refine lv_topi (fun x182 ex182 => ?_)
                      have tx182 : x182.toInt = (I163 0 14).toInt + 1 := z_tadd ex182 rfl z_l1 (by omega) (by omega)
                      refine z_put (T := TX12) (N := 96) (ci := 12) (i := 0) (v := .int x182) (I1 := z_up I163 0 14 x182) (J1 := J165) (P1 := PM ad) hx hb hts zj_X12_orders_X12 tyX12 tyX12_ok nmX12 hown hK hW hS rfl rfl 14 (by decide) (hts (.fieldLink RX12 411 "PetrolBoardModel" "statements" "I") (List.mem_of_getElem? (i := 7) rfl)) (fun _ h => h) rfl rfl rfl (by first | rfl | exact congrArg _ z_up_s) (fun a b h ty => z_vI h ty) dX12_orders_128 (fun H locs hz1 hW hS => ?_)
                      obtain ⟨I183, eI183⟩ : ∃ K : z_I, K = z_up I163 0 14 x182 := ⟨_, rfl⟩
                      rw [← eI183] at hW
                      have f184 := z_fr_k f164 (show z_wr L_X12_orders_x 0 14 = true by decide) eI183
                      have a185 := z_Nd_n hI163Nd (by decide) eI183
                      have a186 := z_rg_n (z_rg_fr lp86Atf fI163 (by decide)) (by decide) eI183
                      have a187 := z_rg_n (z_rg_fr lp86Atm fI163 (by decide)) (by decide) eI183
                      have a188 := z_rg_n hI163Asf (by decide) eI183
                      have a189 := z_rg_n hI163Ast (by decide) eI183
                      have a190 := z_rg_n hI163Asc (by decide) eI183
                      have a191 := z_Ex_n hI163Ex (by decide) eI183
                      have hE192 : zm_E gt gv gp ge gh gm n0 I I183 J165 (.inr (k8 + 1, FS8, o8, g8, (zm_fl rs ++ (sg1 ++ sg2)))) := zm_E_z hE8 eI183 (by decide)
                      refine lv_goto (tgt := 74) hx hb dX12_orders_131 (by decide) ?_
                      exact lp86ih  I183 J165 _ _ _ (by have q0 : (I183 0 42) = (I163 0 42) := (by rw [eI183, z_up_k (by decide)]); have q1 : (I183 0 14) = x182 := (by rw [eI183, z_up_s]); have q2 : (I183 0 35) = (I163 0 35) := (by rw [eI183, z_up_k (by decide)]); have q3 : (I183 0 15) = (I163 0 15) := (by rw [eI183, z_up_k (by decide)]); show (¬ (I183 0 42).toInt = 0 ∧ 1 ≤ (f : Int)) ∨ (26 - ((I183 0 14).toInt - (I 0 14).toInt) ≤ (f : Int) ∧ 0 ≤ ((I183 0 14).toInt - (I 0 14).toInt) ∧ ((I183 0 14).toInt - (I 0 14).toInt) ≤ 24 ∧ 1010 * (500 - (I183 0 35).toInt) + 1000 * (I183 0 15).toInt ≤ 505000 + 1000 * (I 0 15).toInt + 20 * ((I183 0 14).toInt - (I 0 14).toInt)); rw [q0, q1, q2, q3]; omega) ⟨(by show 0 ≤ (I183 0 0).toInt ∧ (I183 0 0).toInt ≤ 719; rw [eI183, z_up_k (by decide)]; exact k166), (by show 0 ≤ (I183 0 1).toInt ∧ (I183 0 1).toInt ≤ 30; rw [eI183, z_up_k (by decide)]; exact k167), (by show 0 ≤ (I183 0 2).toInt ∧ (I183 0 2).toInt ≤ 200; rw [eI183, z_up_k (by decide)]; exact k168)⟩ ⟨(by show 0 ≤ (I183 0 13).toInt ∧ (I183 0 13).toInt ≤ 12; rw [eI183, z_up_k (by decide)]; exact k169), (by show 0 ≤ (I183 0 14).toInt ∧ (I183 0 14).toInt ≤ 288; rw [eI183, z_up_s]; omega)⟩ ⟨(by show 0 ≤ (I183 0 31).toInt ∧ (I183 0 31).toInt ≤ 500; rw [eI183, z_up_k (by decide)]; exact hI163mp.1), (by show 0 ≤ (I183 0 33).toInt ∧ (I183 0 33).toInt ≤ 500; rw [eI183, z_up_k (by decide)]; exact hI163mp.2.1), (by show 0 ≤ (I183 0 34).toInt ∧ (I183 0 34).toInt ≤ 500; rw [eI183, z_up_k (by decide)]; exact hI163mp.2.2.1), (by show 0 ≤ (I183 0 35).toInt ∧ (I183 0 35).toInt ≤ 500; rw [eI183, z_up_k (by decide)]; exact hI163mp.2.2.2)⟩ ⟨(by show 0 ≤ (I183 0 36).toInt ∧ (I183 0 36).toInt ≤ 4; rw [eI183, z_up_k (by decide)]; exact hI163mt.1), (by show 0 ≤ (I183 0 42).toInt ∧ (I183 0 42).toInt ≤ 1; rw [eI183, z_up_k (by decide)]; exact hI163mt.2)⟩ ⟨(by show 0 ≤ (I183 0 47).toInt ∧ (I183 0 47).toInt ≤ 119; rw [eI183, z_up_k (by decide)]; exact hI163md.1), (by show 0 ≤ (I183 0 39).toInt ∧ (I183 0 39).toInt ≤ 100; rw [eI183, z_up_k (by decide)]; exact hI163md.2)⟩ (by show 0 ≤ (I183 0 40).toInt ∧ (I183 0 40).toInt ≤ 6199; rw [eI183, z_up_k (by decide)]; exact hI163mg) (by show 0 ≤ (I183 0 15).toInt ∧ (I183 0 15).toInt ≤ 6100; rw [eI183, z_up_k (by decide)]; exact hI163mn) a185 a186 a187 a188 a189 a190 a191 (by have q0 : (I183 0 35) = (I163 0 35) := (by rw [eI183, z_up_k (by decide)]); have q1 : (I183 0 34) = (I163 0 34) := (by rw [eI183, z_up_k (by decide)]); have q2 : (I183 0 33) = (I163 0 33) := (by rw [eI183, z_up_k (by decide)]); have q3 : (I183 0 36) = (I163 0 36) := (by rw [eI183, z_up_k (by decide)]); show 0 ≤ (I183 0 35).toInt ∧ (I183 0 35).toInt ≤ (I183 0 34).toInt ∧ (I183 0 34).toInt ≤ (I183 0 33).toInt ∧ (I183 0 33).toInt ≤ 500 ∧ ((I183 0 36).toInt = 0 ∨ (I183 0 35).toInt + 1 ≤ (I183 0 34).toInt); rw [q0, q1, q2, q3]; first | omega | decide) (by have q0 : (I183 0 13) = (I163 0 13) := (by rw [eI183, z_up_k (by decide)]); show (I183 0 13).toInt = (I 0 13).toInt; rw [q0]; omega) ⟨((show I183 0 0 = I163 0 0 from by rw [eI183, z_up_k hj, fI163 0 0 (z_wr_c (by decide))]).trans lp86K.1), (by rw [show I183 0 31 = I163 0 31 from by rw [eI183, z_up_k hj, fI163 0 31 (z_wr_c (by decide))]]; exact lp86K.2.1), fun j => ⟨((show I183 11 j = I163 11 j from by rw [eI183, z_up_n (by decide), fI163 11 j (z_wr_c (by decide))]).trans (lp86K.2.2 j).1), ((show I183 12 j = I163 12 j from by rw [eI183, z_up_n (by decide), fI163 12 j (z_wr_c (by decide))]).trans (lp86K.2.2 j).2.1), ((show I183 13 j = I163 13 j from by rw [eI183, z_up_n (by decide), fI163 13 j (z_wr_c (by decide))]).trans (lp86K.2.2 j).2.2.1), ((show I183 14 j = I163 14 j from by rw [eI183, z_up_n (by decide), fI163 14 j (z_wr_c (by decide))]).trans (lp86K.2.2 j).2.2.2)⟩⟩ (zm_OL_s eS hC9 hR9 hQ9 e8 t8 hE192 (by have q0 : (I183 0 14) = x182 := (by rw [eI183, z_up_s]); show (I183 0 14).toInt = (I163 0 14).toInt + 1; rw [q0]; omega) eI183 hs176 hr8) f184 hW hS (lv_sub hl [0, 1, 2, 3, 4] rfl)
                    · have h193 := zm_E_L hE8
                      refine lv_aload_n hx hb dX12_orders_114 rfl (lv_at hl 2 rfl) ?_
                      have r194 : 0 ≤ (I163 0 42).toInt ∧ (I163 0 42).toInt ≤ 1 := hI163mt.2
                      refine z_get (T := TX12) (N := 96) (ci := 12) (i := 0) (v := .int (I163 0 42)) hx hb hts zj_X12_orders_X12 hown hK hW rfl rfl 42 (by decide) (hts (.fieldLink RX12 294 "PetrolBoardModel" "isWrong" "Z") (List.mem_of_getElem? (i := 6) rfl)) (fun _ h => h) rfl dX12_orders_115 ?_
                      refine lv_if_ne (tgt := 74) hx hb dX12_orders_118 (by decide) (fun c195 => ?_) (fun c195 => (by have g := z_f_eq rfl z_l0 c195; omega))
                      have g196 := z_f_ne rfl z_l0 c195
                      exact lp86ih  I163 J165 _ _ _ (by show (¬ (I163 0 42).toInt = 0 ∧ 1 ≤ (f : Int)) ∨ (26 - ((I163 0 14).toInt - (I 0 14).toInt) ≤ (f : Int) ∧ 0 ≤ ((I163 0 14).toInt - (I 0 14).toInt) ∧ ((I163 0 14).toInt - (I 0 14).toInt) ≤ 24 ∧ 1010 * (500 - (I163 0 35).toInt) + 1000 * (I163 0 15).toInt ≤ 505000 + 1000 * (I 0 15).toInt + 20 * ((I163 0 14).toInt - (I 0 14).toInt)); omega) ⟨(by show 0 ≤ (I163 0 0).toInt ∧ (I163 0 0).toInt ≤ 719; exact k166), (by show 0 ≤ (I163 0 1).toInt ∧ (I163 0 1).toInt ≤ 30; exact k167), (by show 0 ≤ (I163 0 2).toInt ∧ (I163 0 2).toInt ≤ 200; exact k168)⟩ ⟨(by show 0 ≤ (I163 0 13).toInt ∧ (I163 0 13).toInt ≤ 12; exact k169), (by show 0 ≤ (I163 0 14).toInt ∧ (I163 0 14).toInt ≤ 288; exact k170)⟩ ⟨(by show 0 ≤ (I163 0 31).toInt ∧ (I163 0 31).toInt ≤ 500; exact hI163mp.1), (by show 0 ≤ (I163 0 33).toInt ∧ (I163 0 33).toInt ≤ 500; exact hI163mp.2.1), (by show 0 ≤ (I163 0 34).toInt ∧ (I163 0 34).toInt ≤ 500; exact hI163mp.2.2.1), (by show 0 ≤ (I163 0 35).toInt ∧ (I163 0 35).toInt ≤ 500; exact hI163mp.2.2.2)⟩ ⟨(by show 0 ≤ (I163 0 36).toInt ∧ (I163 0 36).toInt ≤ 4; exact hI163mt.1), (by show 0 ≤ (I163 0 42).toInt ∧ (I163 0 42).toInt ≤ 1; exact hI163mt.2)⟩ ⟨(by show 0 ≤ (I163 0 47).toInt ∧ (I163 0 47).toInt ≤ 119; exact hI163md.1), (by show 0 ≤ (I163 0 39).toInt ∧ (I163 0 39).toInt ≤ 100; exact hI163md.2)⟩ (by show 0 ≤ (I163 0 40).toInt ∧ (I163 0 40).toInt ≤ 6199; exact hI163mg) (by show 0 ≤ (I163 0 15).toInt ∧ (I163 0 15).toInt ≤ 6100; exact hI163mn) hI163Nd (z_rg_fr lp86Atf fI163 (by decide)) (z_rg_fr lp86Atm fI163 (by decide)) hI163Asf hI163Ast hI163Asc hI163Ex (by show 0 ≤ (I163 0 35).toInt ∧ (I163 0 35).toInt ≤ (I163 0 34).toInt ∧ (I163 0 34).toInt ≤ (I163 0 33).toInt ∧ (I163 0 33).toInt ≤ 500 ∧ ((I163 0 36).toInt = 0 ∨ (I163 0 35).toInt + 1 ≤ (I163 0 34).toInt); first | omega | decide) (by show (I163 0 13).toInt = (I 0 13).toInt; omega) ⟨((show I163 0 0 = I163 0 0 from by rw [fI163 0 0 (z_wr_c (by decide))]).trans lp86K.1), (by rw [show I163 0 31 = I163 0 31 from by rw [fI163 0 31 (z_wr_c (by decide))]]; exact lp86K.2.1), fun j => ⟨((show I163 11 j = I163 11 j from by rw [fI163 11 j (z_wr_c (by decide))]).trans (lp86K.2.2 j).1), ((show I163 12 j = I163 12 j from by rw [fI163 12 j (z_wr_c (by decide))]).trans (lp86K.2.2 j).2.1), ((show I163 13 j = I163 13 j from by rw [fI163 13 j (z_wr_c (by decide))]).trans (lp86K.2.2 j).2.2.1), ((show I163 14 j = I163 14 j from by rw [fI163 14 j (z_wr_c (by decide))]).trans (lp86K.2.2 j).2.2.2)⟩⟩ (Or.inr ⟨hF8, hE8, fun j hj => zm_q6_t (hs176 j (by have := z_clt (x := I163 0 14) rfl (by omega); omega)) (hQ9 j hj)⟩) f164 hW hS (lv_sub hl [0, 1, 2, 3, 4] rfl)
                  · have g197 := z_f_eq rfl z_l24 c161
                    refine lv_aload_n hx hb dX12_orders_99 rfl (lv_at hl 2 rfl) ?_
                    refine z_cv hW hS hA (va_runV (As := []) (rest := []) ⟨hx, hb, hml, hown, hts⟩ (sx_X12_errs_x l G ad I87 J88 ⟨(by show 0 ≤ (I87 0 36).toInt ∧ (I87 0 36).toInt ≤ 4; exact lp86mt.1), (by show 0 ≤ (I87 0 42).toInt ∧ (I87 0 42).toInt ≤ 1; exact lp86mt.2)⟩  _) (cwV 0 hts gX12_orders_X12_errs rfl rfl rfl (by decide +kernel) ⟨Nat.le_of_ble_eq_true rfl, Nat.le_of_ble_eq_true rfl⟩) (z_preV (i := 0) hK hW rfl rfl) rfl rfl hl.1 rfl (lv_room (Nat.le_of_ble_eq_true rfl)) dX12_orders_100 ⟨Nat.le_of_ble_eq_true rfl, Nat.le_of_ble_eq_true rfl⟩) (fun u1 H locs hp hW hS => ?_)
                    obtain ⟨I198, J200, e9, hI198mt, fI198, hp⟩ := hp
                    rw [e9] at hW
                    have f199 := z_fr_sub (L := L_X12_orders_x) lp86fr fI198 (by decide)
                    have k201 : 0 ≤ (I198 0 0).toInt ∧ (I198 0 0).toInt ≤ 719 := by rw [fI198 0 0 (by decide)]; exact (by show 0 ≤ (I87 0 0).toInt ∧ (I87 0 0).toInt ≤ 719; exact lp86ma.1)
                    have k202 : 0 ≤ (I198 0 1).toInt ∧ (I198 0 1).toInt ≤ 30 := by rw [fI198 0 1 (by decide)]; exact (by show 0 ≤ (I87 0 1).toInt ∧ (I87 0 1).toInt ≤ 30; exact lp86ma.2.1)
                    have k203 : 0 ≤ (I198 0 2).toInt ∧ (I198 0 2).toInt ≤ 200 := by rw [fI198 0 2 (by decide)]; exact (by show 0 ≤ (I87 0 2).toInt ∧ (I87 0 2).toInt ≤ 200; exact lp86ma.2.2)
                    have k204 : 0 ≤ (I198 0 13).toInt ∧ (I198 0 13).toInt ≤ 12 := by rw [fI198 0 13 (by decide)]; exact (by show 0 ≤ (I87 0 13).toInt ∧ (I87 0 13).toInt ≤ 12; exact lp86mb.1)
                    have k205 : 0 ≤ (I198 0 14).toInt ∧ (I198 0 14).toInt ≤ 288 := by rw [fI198 0 14 (by decide)]; exact (by show 0 ≤ (I87 0 14).toInt ∧ (I87 0 14).toInt ≤ 288; exact lp86mb.2)
                    have k206 : 0 ≤ (I198 0 31).toInt ∧ (I198 0 31).toInt ≤ 500 := by rw [fI198 0 31 (by decide)]; exact (by show 0 ≤ (I87 0 31).toInt ∧ (I87 0 31).toInt ≤ 500; exact lp86mp.1)
                    have k207 : 0 ≤ (I198 0 33).toInt ∧ (I198 0 33).toInt ≤ 500 := by rw [fI198 0 33 (by decide)]; exact (by show 0 ≤ (I87 0 33).toInt ∧ (I87 0 33).toInt ≤ 500; exact lp86mp.2.1)
                    have k208 : 0 ≤ (I198 0 34).toInt ∧ (I198 0 34).toInt ≤ 500 := by rw [fI198 0 34 (by decide)]; exact (by show 0 ≤ (I87 0 34).toInt ∧ (I87 0 34).toInt ≤ 500; exact lp86mp.2.2.1)
                    have k209 : 0 ≤ (I198 0 35).toInt ∧ (I198 0 35).toInt ≤ 500 := by rw [fI198 0 35 (by decide)]; exact (by show 0 ≤ (I87 0 35).toInt ∧ (I87 0 35).toInt ≤ 500; exact lp86mp.2.2.2)
                    have k210 : 0 ≤ (I198 0 47).toInt ∧ (I198 0 47).toInt ≤ 119 := by rw [fI198 0 47 (by decide)]; exact (by show 0 ≤ (I87 0 47).toInt ∧ (I87 0 47).toInt ≤ 119; exact lp86md.1)
                    have k211 : 0 ≤ (I198 0 39).toInt ∧ (I198 0 39).toInt ≤ 100 := by rw [fI198 0 39 (by decide)]; exact (by show 0 ≤ (I87 0 39).toInt ∧ (I87 0 39).toInt ≤ 100; exact lp86md.2)
                    have k212 : 0 ≤ (I198 0 40).toInt ∧ (I198 0 40).toInt ≤ 6199 := by rw [fI198 0 40 (by decide)]; exact (by show 0 ≤ (I87 0 40).toInt ∧ (I87 0 40).toInt ≤ 6199; exact lp86mg)
                    have k213 : 0 ≤ (I198 0 15).toInt ∧ (I198 0 15).toInt ≤ 6100 := by rw [fI198 0 15 (by decide)]; exact (by show 0 ≤ (I87 0 15).toInt ∧ (I87 0 15).toInt ≤ 6100; exact lp86mn)
                    have k214 : 0 ≤ (I198 0 35).toInt ∧ (I198 0 35).toInt ≤ (I198 0 34).toInt ∧ (I198 0 34).toInt ≤ (I198 0 33).toInt ∧ (I198 0 33).toInt ≤ 500 ∧ ((I198 0 36).toInt = 0 ∨ (I198 0 35).toInt + 1 ≤ (I198 0 34).toInt) := (by have q0 : (I198 0 35) = (I87 0 35) := (by rw [fI198 0 35 (by decide)]); have q1 : (I198 0 34) = (I87 0 34) := (by rw [fI198 0 34 (by decide)]); have q2 : (I198 0 33) = (I87 0 33) := (by rw [fI198 0 33 (by decide)]); have q3 : (I198 0 36) = (I87 0 36) := (by rw [fI198 0 36 (by decide)]); show 0 ≤ (I198 0 35).toInt ∧ (I198 0 35).toInt ≤ (I198 0 34).toInt ∧ (I198 0 34).toInt ≤ (I198 0 33).toInt ∧ (I198 0 33).toInt ≤ 500 ∧ ((I198 0 36).toInt = 0 ∨ (I198 0 35).toInt + 1 ≤ (I198 0 34).toInt); rw [q0, q1, q2, q3]; first | omega | decide)
                    have k215 : (I198 0 35).toInt = (I87 0 35).toInt := by rw [fI198 0 35 (by decide)]
                    have k216 : (I198 0 34).toInt = (I87 0 34).toInt := by rw [fI198 0 34 (by decide)]
                    have k217 : (I198 0 36).toInt = (I87 0 36).toInt := by rw [fI198 0 36 (by decide)]
                    have k218 : (I198 0 47).toInt = (I87 0 47).toInt := by rw [fI198 0 47 (by decide)]
                    have k219 : (I198 0 39).toInt = (I87 0 39).toInt := by rw [fI198 0 39 (by decide)]
                    have k220 : (I198 0 15).toInt = (I87 0 15).toInt := by rw [fI198 0 15 (by decide)]
                    have k221 : (I198 0 40).toInt = (I87 0 40).toInt := by rw [fI198 0 40 (by decide)]
                    have k222 : (I198 0 14).toInt = (I87 0 14).toInt := by rw [fI198 0 14 (by decide)]
                    have k223 : (I198 0 13).toInt = (I87 0 13).toInt := by rw [fI198 0 13 (by decide)]
                    obtain ⟨h224, h225, hJ226⟩ := hp
                    have h227 : ¬ (I198 0 42).toInt = 0 := by omega
                    have hE228 : zm_E gt gv gp ge gh gm n0 I I198 J200 (.inl (ke1)) := zm_E_errs hE9 h224 h225 (fun j => ⟨fI198 21 j (z_wr_c (by decide)), fI198 22 j (z_wr_c (by decide)), fI198 23 j (z_wr_c (by decide))⟩)
                    have h229 := zm_E_L hE228
                    refine lv_goto (tgt := 74) hx hb dX12_orders_103 (by decide) ?_
                    exact lp86ih  I198 J200 _ _ _ (by show (¬ (I198 0 42).toInt = 0 ∧ 1 ≤ (f : Int)) ∨ (26 - ((I198 0 14).toInt - (I 0 14).toInt) ≤ (f : Int) ∧ 0 ≤ ((I198 0 14).toInt - (I 0 14).toInt) ∧ ((I198 0 14).toInt - (I 0 14).toInt) ≤ 24 ∧ 1010 * (500 - (I198 0 35).toInt) + 1000 * (I198 0 15).toInt ≤ 505000 + 1000 * (I 0 15).toInt + 20 * ((I198 0 14).toInt - (I 0 14).toInt)); omega) ⟨(by show 0 ≤ (I198 0 0).toInt ∧ (I198 0 0).toInt ≤ 719; exact k201), (by show 0 ≤ (I198 0 1).toInt ∧ (I198 0 1).toInt ≤ 30; exact k202), (by show 0 ≤ (I198 0 2).toInt ∧ (I198 0 2).toInt ≤ 200; exact k203)⟩ ⟨(by show 0 ≤ (I198 0 13).toInt ∧ (I198 0 13).toInt ≤ 12; exact k204), (by show 0 ≤ (I198 0 14).toInt ∧ (I198 0 14).toInt ≤ 288; exact k205)⟩ ⟨(by show 0 ≤ (I198 0 31).toInt ∧ (I198 0 31).toInt ≤ 500; exact k206), (by show 0 ≤ (I198 0 33).toInt ∧ (I198 0 33).toInt ≤ 500; exact k207), (by show 0 ≤ (I198 0 34).toInt ∧ (I198 0 34).toInt ≤ 500; exact k208), (by show 0 ≤ (I198 0 35).toInt ∧ (I198 0 35).toInt ≤ 500; exact k209)⟩ ⟨(by show 0 ≤ (I198 0 36).toInt ∧ (I198 0 36).toInt ≤ 4; exact hI198mt.1), (by show 0 ≤ (I198 0 42).toInt ∧ (I198 0 42).toInt ≤ 1; exact hI198mt.2)⟩ ⟨(by show 0 ≤ (I198 0 47).toInt ∧ (I198 0 47).toInt ≤ 119; exact k210), (by show 0 ≤ (I198 0 39).toInt ∧ (I198 0 39).toInt ≤ 100; exact k211)⟩ (by show 0 ≤ (I198 0 40).toInt ∧ (I198 0 40).toInt ≤ 6199; exact k212) (by show 0 ≤ (I198 0 15).toInt ∧ (I198 0 15).toInt ≤ 6100; exact k213) (z_Nd_fr lp86Nd fI198 (by decide)) (z_rg_fr lp86Atf fI198 (by decide)) (z_rg_fr lp86Atm fI198 (by decide)) (z_rg_fr lp86Asf fI198 (by decide)) (z_rg_fr lp86Ast fI198 (by decide)) (z_rg_fr lp86Asc fI198 (by decide)) (z_Ex_fr lp86Ex fI198 (by decide)) (by show 0 ≤ (I198 0 35).toInt ∧ (I198 0 35).toInt ≤ (I198 0 34).toInt ∧ (I198 0 34).toInt ≤ (I198 0 33).toInt ∧ (I198 0 33).toInt ≤ 500 ∧ ((I198 0 36).toInt = 0 ∨ (I198 0 35).toInt + 1 ≤ (I198 0 34).toInt); first | omega | decide) (by show (I198 0 13).toInt = (I 0 13).toInt; omega) ⟨((show I198 0 0 = I198 0 0 from by rw [fI198 0 0 (z_wr_c (by decide))]).trans lp86K.1), (by rw [show I198 0 31 = I198 0 31 from by rw [fI198 0 31 (z_wr_c (by decide))]]; exact lp86K.2.1), fun j => ⟨((show I198 11 j = I198 11 j from by rw [fI198 11 j (z_wr_c (by decide))]).trans (lp86K.2.2 j).1), ((show I198 12 j = I198 12 j from by rw [fI198 12 j (z_wr_c (by decide))]).trans (lp86K.2.2 j).2.1), ((show I198 13 j = I198 13 j from by rw [fI198 13 j (z_wr_c (by decide))]).trans (lp86K.2.2 j).2.2.1), ((show I198 14 j = I198 14 j from by rw [fI198 14 j (z_wr_c (by decide))]).trans (lp86K.2.2 j).2.2.2)⟩⟩ (by obtain ⟨z230, q231⟩ := zm_O_24 eS h24 (by omega) hT9 (by omega) hO; exact Or.inr ⟨z230, by rw [q231]; exact hE228, fun j hj => zm_q6_t ⟨by rw [fI198 15 j (z_wr_c (by decide))], by rw [fI198 16 j (z_wr_c (by decide))], by rw [fI198 17 j (z_wr_c (by decide))], by rw [fI198 18 j (z_wr_c (by decide))], by rw [fI198 19 j (z_wr_c (by decide))], by rw [fI198 20 j (z_wr_c (by decide))]⟩ (hQ9 j hj)⟩) f199 hW hS (lv_sub hl [0, 1, 2, 3, 4] rfl)
              · have h232 := zm_E_L hE9
                have r233 : 0 ≤ (I87 0 36).toInt ∧ (I87 0 36).toInt ≤ 4 := lp86mt.1
                refine z_get (T := TX12) (N := 96) (ci := 12) (i := 0) (v := .int (I87 0 36)) hx hb hts zj_X12_orders_X12 hown hK hW rfl rfl 36 (by decide) (hts (.fieldLink RX12 281 "PetrolBoardModel" "token" "I") (List.mem_of_getElem? (i := 9) rfl)) (fun _ h => h) rfl dX12_orders_75 ?_
                refine lv_if_eq (tgt := 134) hx hb dX12_orders_78 (by decide) (fun c234 => ?_) (fun c234 => ?_)
                · have g235 := z_f_eq rfl z_l0 c234
                  refine lv_aload_n hx hb dX12_orders_134 rfl (lv_at hl 2 rfl) ?_
                  have r236 : 0 ≤ (I87 0 42).toInt ∧ (I87 0 42).toInt ≤ 1 := lp86mt.2
                  refine z_get (T := TX12) (N := 96) (ci := 12) (i := 0) (v := .int (I87 0 42)) hx hb hts zj_X12_orders_X12 hown hK hW rfl rfl 42 (by decide) (hts (.fieldLink RX12 294 "PetrolBoardModel" "isWrong" "Z") (List.mem_of_getElem? (i := 6) rfl)) (fun _ h => h) rfl dX12_orders_135 ?_
                  refine lv_if_eq (tgt := 154) hx hb dX12_orders_138 (by decide) (fun c237 => (by have g := z_f_eq rfl z_l0 c237; omega)) (fun c237 => ?_)
                  have g238 := z_f_ne rfl z_l0 c237
                  refine lv_aload_n hx hb dX12_orders_141 rfl (lv_at hl 2 rfl) ?_
                  refine lv_iload_n hx hb dX12_orders_142 rfl (lv_at hl 1 rfl) ?_
                  refine z_put (T := TX12) (N := 96) (ci := 12) (i := 0) (v := .int (I 0 14)) (I1 := z_up I87 0 14 (I 0 14)) (J1 := J88) (P1 := PM ad) hx hb hts zj_X12_orders_X12 tyX12 tyX12_ok nmX12 hown hK hW hS rfl rfl 14 (by decide) (hts (.fieldLink RX12 411 "PetrolBoardModel" "statements" "I") (List.mem_of_getElem? (i := 7) rfl)) (fun _ h => h) rfl rfl rfl (by first | rfl | exact congrArg _ z_up_s) (fun a b h ty => z_vI h ty) dX12_orders_143 (fun H locs hz1 hW hS => ?_)
                  obtain ⟨I239, eI239⟩ : ∃ K : z_I, K = z_up I87 0 14 (I 0 14) := ⟨_, rfl⟩
                  rw [← eI239] at hW
                  have f240 := z_fr_k lp86fr (show z_wr L_X12_orders_x 0 14 = true by decide) eI239
                  have a241 := z_Nd_n lp86Nd (by decide) eI239
                  have a242 := z_rg_n lp86Atf (by decide) eI239
                  have a243 := z_rg_n lp86Atm (by decide) eI239
                  have a244 := z_rg_n lp86Asf (by decide) eI239
                  have a245 := z_rg_n lp86Ast (by decide) eI239
                  have a246 := z_rg_n lp86Asc (by decide) eI239
                  have a247 := z_Ex_n lp86Ex (by decide) eI239
                  have hE248 : zm_E gt gv gp ge gh gm n0 I I239 J88 (.inl (ff)) := zm_E_k hE9 eI239 (by decide)
                  refine lv_aload_n hx hb dX12_orders_146 rfl (lv_at hl 2 rfl) ?_
                  refine lv_iload hx hb dX12_orders_147 (lv_at hl 0 rfl) ?_
                  refine z_put (T := TX12) (N := 96) (ci := 12) (i := 0) (v := .int (I 0 15)) (I1 := z_up I239 0 15 (I 0 15)) (J1 := J88) (P1 := PM ad) hx hb hts zj_X12_orders_X12 tyX12 tyX12_ok nmX12 hown hK hW hS rfl rfl 15 (by decide) (hts (.fieldLink RX12 337 "PetrolBoardModel" "nodes" "I") (List.mem_of_getElem? (i := 8) rfl)) (fun _ h => h) rfl rfl rfl (by first | rfl | exact congrArg _ z_up_s) (fun a b h ty => z_vI h ty) dX12_orders_149 (fun H locs hz1 hW hS => ?_)
                  obtain ⟨I249, eI249⟩ : ∃ K : z_I, K = z_up I239 0 15 (I 0 15) := ⟨_, rfl⟩
                  rw [← eI249] at hW
                  have f250 := z_fr_k f240 (show z_wr L_X12_orders_x 0 15 = true by decide) eI249
                  have a251 := z_Nd_n a241 (by decide) eI249
                  have a252 := z_rg_n a242 (by decide) eI249
                  have a253 := z_rg_n a243 (by decide) eI249
                  have a254 := z_rg_n a244 (by decide) eI249
                  have a255 := z_rg_n a245 (by decide) eI249
                  have a256 := z_rg_n a246 (by decide) eI249
                  have a257 := z_Ex_n a247 (by decide) eI249
                  have hE258 : zm_E gt gv gp ge gh gm n0 I I249 J88 (.inl (ff)) := zm_E_k hE248 eI249 (by decide)
                  refine lv_iconst (v := (-1)) hx hb dX12_orders_152 (by decide) ?_
                  exact z_iret hx hb hr hK hS (Nat.le_of_ble_eq_true rfl) (Nat.le_of_ble_eq_true rfl) hlocks dX12_orders_153 (shM, ad, I249, J88, PM ad) hW ⟨I249, J88, rfl, ⟨(by show 0 ≤ (I249 0 0).toInt ∧ (I249 0 0).toInt ≤ 719; rw [eI249, z_up_k (by decide), eI239, z_up_k (by decide)]; exact lp86ma.1), (by show 0 ≤ (I249 0 1).toInt ∧ (I249 0 1).toInt ≤ 30; rw [eI249, z_up_k (by decide), eI239, z_up_k (by decide)]; exact lp86ma.2.1), (by show 0 ≤ (I249 0 2).toInt ∧ (I249 0 2).toInt ≤ 200; rw [eI249, z_up_k (by decide), eI239, z_up_k (by decide)]; exact lp86ma.2.2)⟩, ⟨(by show 0 ≤ (I249 0 13).toInt ∧ (I249 0 13).toInt ≤ 12; rw [eI249, z_up_k (by decide), eI239, z_up_k (by decide)]; exact lp86mb.1), (by show 0 ≤ (I249 0 14).toInt ∧ (I249 0 14).toInt ≤ 288; rw [eI249, z_up_k (by decide), eI239, z_up_s]; omega)⟩, ⟨(by show 0 ≤ (I249 0 31).toInt ∧ (I249 0 31).toInt ≤ 500; rw [eI249, z_up_k (by decide), eI239, z_up_k (by decide)]; exact lp86mp.1), (by show 0 ≤ (I249 0 33).toInt ∧ (I249 0 33).toInt ≤ 500; rw [eI249, z_up_k (by decide), eI239, z_up_k (by decide)]; exact lp86mp.2.1), (by show 0 ≤ (I249 0 34).toInt ∧ (I249 0 34).toInt ≤ 500; rw [eI249, z_up_k (by decide), eI239, z_up_k (by decide)]; exact lp86mp.2.2.1), (by show 0 ≤ (I249 0 35).toInt ∧ (I249 0 35).toInt ≤ 500; rw [eI249, z_up_k (by decide), eI239, z_up_k (by decide)]; exact lp86mp.2.2.2)⟩, ⟨(by show 0 ≤ (I249 0 36).toInt ∧ (I249 0 36).toInt ≤ 4; rw [eI249, z_up_k (by decide), eI239, z_up_k (by decide)]; exact lp86mt.1), (by show 0 ≤ (I249 0 42).toInt ∧ (I249 0 42).toInt ≤ 1; rw [eI249, z_up_k (by decide), eI239, z_up_k (by decide)]; exact lp86mt.2)⟩, ⟨(by show 0 ≤ (I249 0 47).toInt ∧ (I249 0 47).toInt ≤ 119; rw [eI249, z_up_k (by decide), eI239, z_up_k (by decide)]; exact lp86md.1), (by show 0 ≤ (I249 0 39).toInt ∧ (I249 0 39).toInt ≤ 100; rw [eI249, z_up_k (by decide), eI239, z_up_k (by decide)]; exact lp86md.2)⟩, (by show 0 ≤ (I249 0 40).toInt ∧ (I249 0 40).toInt ≤ 6199; rw [eI249, z_up_k (by decide), eI239, z_up_k (by decide)]; exact lp86mg), (by show 0 ≤ (I249 0 15).toInt ∧ (I249 0 15).toInt ≤ 6100; rw [eI249, z_up_s]; omega), a251, a252, a253, a254, a255, a256, a257, (by have q0 : (I249 0 13) = (I87 0 13) := (by rw [eI249, z_up_k (by decide), eI239, z_up_k (by decide)]); have q1 : (I249 0 14) = (I 0 14) := (by rw [eI249, z_up_k (by decide), eI239, z_up_s]); have q2 : (I249 0 15) = (I 0 15) := (by rw [eI249, z_up_s]); show (I249 0 14).toInt ≤ 24 * (I249 0 13).toInt ∧ (I249 0 15).toInt ≤ 505 * (I249 0 13).toInt; rw [q0, q1, q2]; first | omega | decide), f250, (Or.inr (Or.inr ⟨⟨by omega, by omega, by omega, by omega⟩, by omega, (by rw [show I249 0 31 = I87 0 31 from by rw [eI249, z_up_k hj, eI239, z_up_k hj]]; exact lp86K.2.1), (fun j hj => zm_q6_t ⟨by rw [eI249, z_up_n (by decide), eI239, z_up_n (by decide)], by rw [eI249, z_up_n (by decide), eI239, z_up_n (by decide)], by rw [eI249, z_up_n (by decide), eI239, z_up_n (by decide)], by rw [eI249, z_up_n (by decide), eI239, z_up_n (by decide)], by rw [eI249, z_up_n (by decide), eI239, z_up_n (by decide)], by rw [eI249, z_up_n (by decide), eI239, z_up_n (by decide)]⟩ (hQ9 j hj)), (zm_E_fa hE258).2.2, Or.inl ⟨by decide, hF9, (zm_E_fa hE258).1, (by have q0 : (I249 0 13) = (I87 0 13) := (by rw [eI249, z_up_k (by decide), eI239, z_up_k (by decide)]); show (I249 0 13).toInt = (x0 : Int); rw [q0]; omega), (by have q0 : (I249 0 14) = (I 0 14) := (by rw [eI249, z_up_k (by decide), eI239, z_up_s]); show (I249 0 14).toInt = (st0 : Int); rw [q0]; omega), (by have q0 : (I249 0 15) = (I 0 15) := (by rw [eI249, z_up_s]); show (I249 0 15).toInt = (n0 : Int); rw [q0]; omega), fun j => ⟨((show I249 11 j = I87 11 j from by rw [eI249, z_up_n (by decide), eI239, z_up_n (by decide)]).trans (lp86K.2.2 j).1), ((show I249 12 j = I87 12 j from by rw [eI249, z_up_n (by decide), eI239, z_up_n (by decide)]).trans (lp86K.2.2 j).2.1), ((show I249 13 j = I87 13 j from by rw [eI249, z_up_n (by decide), eI239, z_up_n (by decide)]).trans (lp86K.2.2 j).2.2.1), ((show I249 14 j = I87 14 j from by rw [eI249, z_up_n (by decide), eI239, z_up_n (by decide)]).trans (lp86K.2.2 j).2.2.2)⟩⟩⟩))⟩
                · have g259 := z_f_ne rfl z_l0 c234
                  refine lv_aload_n hx hb dX12_orders_81 rfl (lv_at hl 2 rfl) ?_
                  have r260 : 0 ≤ (I87 0 42).toInt ∧ (I87 0 42).toInt ≤ 1 := lp86mt.2
                  refine z_get (T := TX12) (N := 96) (ci := 12) (i := 0) (v := .int (I87 0 42)) hx hb hts zj_X12_orders_X12 hown hK hW rfl rfl 42 (by decide) (hts (.fieldLink RX12 294 "PetrolBoardModel" "isWrong" "Z") (List.mem_of_getElem? (i := 6) rfl)) (fun _ h => h) rfl dX12_orders_82 ?_
                  refine lv_if_ne (tgt := 134) hx hb dX12_orders_85 (by decide) (fun c261 => ?_) (fun c261 => (by have g := z_f_eq rfl z_l0 c261; omega))
                  have g262 := z_f_ne rfl z_l0 c261
                  refine lv_aload_n hx hb dX12_orders_134 rfl (lv_at hl 2 rfl) ?_
                  refine z_get (T := TX12) (N := 96) (ci := 12) (i := 0) (v := .int (I87 0 42)) hx hb hts zj_X12_orders_X12 hown hK hW rfl rfl 42 (by decide) (hts (.fieldLink RX12 294 "PetrolBoardModel" "isWrong" "Z") (List.mem_of_getElem? (i := 6) rfl)) (fun _ h => h) rfl dX12_orders_135 ?_
                  refine lv_if_eq (tgt := 154) hx hb dX12_orders_138 (by decide) (fun c263 => (by have g := z_f_eq rfl z_l0 c263; omega)) (fun c263 => ?_)
                  have g264 := z_f_ne rfl z_l0 c263
                  refine lv_aload_n hx hb dX12_orders_141 rfl (lv_at hl 2 rfl) ?_
                  refine lv_iload_n hx hb dX12_orders_142 rfl (lv_at hl 1 rfl) ?_
                  refine z_put (T := TX12) (N := 96) (ci := 12) (i := 0) (v := .int (I 0 14)) (I1 := z_up I87 0 14 (I 0 14)) (J1 := J88) (P1 := PM ad) hx hb hts zj_X12_orders_X12 tyX12 tyX12_ok nmX12 hown hK hW hS rfl rfl 14 (by decide) (hts (.fieldLink RX12 411 "PetrolBoardModel" "statements" "I") (List.mem_of_getElem? (i := 7) rfl)) (fun _ h => h) rfl rfl rfl (by first | rfl | exact congrArg _ z_up_s) (fun a b h ty => z_vI h ty) dX12_orders_143 (fun H locs hz1 hW hS => ?_)
                  obtain ⟨I265, eI265⟩ : ∃ K : z_I, K = z_up I87 0 14 (I 0 14) := ⟨_, rfl⟩
                  rw [← eI265] at hW
                  have f266 := z_fr_k lp86fr (show z_wr L_X12_orders_x 0 14 = true by decide) eI265
                  have a267 := z_Nd_n lp86Nd (by decide) eI265
                  have a268 := z_rg_n lp86Atf (by decide) eI265
                  have a269 := z_rg_n lp86Atm (by decide) eI265
                  have a270 := z_rg_n lp86Asf (by decide) eI265
                  have a271 := z_rg_n lp86Ast (by decide) eI265
                  have a272 := z_rg_n lp86Asc (by decide) eI265
                  have a273 := z_Ex_n lp86Ex (by decide) eI265
                  have hE274 : zm_E gt gv gp ge gh gm n0 I I265 J88 (.inl (ff)) := zm_E_k hE9 eI265 (by decide)
                  refine lv_aload_n hx hb dX12_orders_146 rfl (lv_at hl 2 rfl) ?_
                  refine lv_iload hx hb dX12_orders_147 (lv_at hl 0 rfl) ?_
                  refine z_put (T := TX12) (N := 96) (ci := 12) (i := 0) (v := .int (I 0 15)) (I1 := z_up I265 0 15 (I 0 15)) (J1 := J88) (P1 := PM ad) hx hb hts zj_X12_orders_X12 tyX12 tyX12_ok nmX12 hown hK hW hS rfl rfl 15 (by decide) (hts (.fieldLink RX12 337 "PetrolBoardModel" "nodes" "I") (List.mem_of_getElem? (i := 8) rfl)) (fun _ h => h) rfl rfl rfl (by first | rfl | exact congrArg _ z_up_s) (fun a b h ty => z_vI h ty) dX12_orders_149 (fun H locs hz1 hW hS => ?_)
                  obtain ⟨I275, eI275⟩ : ∃ K : z_I, K = z_up I265 0 15 (I 0 15) := ⟨_, rfl⟩
                  rw [← eI275] at hW
                  have f276 := z_fr_k f266 (show z_wr L_X12_orders_x 0 15 = true by decide) eI275
                  have a277 := z_Nd_n a267 (by decide) eI275
                  have a278 := z_rg_n a268 (by decide) eI275
                  have a279 := z_rg_n a269 (by decide) eI275
                  have a280 := z_rg_n a270 (by decide) eI275
                  have a281 := z_rg_n a271 (by decide) eI275
                  have a282 := z_rg_n a272 (by decide) eI275
                  have a283 := z_Ex_n a273 (by decide) eI275
                  have hE284 : zm_E gt gv gp ge gh gm n0 I I275 J88 (.inl (ff)) := zm_E_k hE274 eI275 (by decide)
                  refine lv_iconst (v := (-1)) hx hb dX12_orders_152 (by decide) ?_
                  exact z_iret hx hb hr hK hS (Nat.le_of_ble_eq_true rfl) (Nat.le_of_ble_eq_true rfl) hlocks dX12_orders_153 (shM, ad, I275, J88, PM ad) hW ⟨I275, J88, rfl, ⟨(by show 0 ≤ (I275 0 0).toInt ∧ (I275 0 0).toInt ≤ 719; rw [eI275, z_up_k (by decide), eI265, z_up_k (by decide)]; exact lp86ma.1), (by show 0 ≤ (I275 0 1).toInt ∧ (I275 0 1).toInt ≤ 30; rw [eI275, z_up_k (by decide), eI265, z_up_k (by decide)]; exact lp86ma.2.1), (by show 0 ≤ (I275 0 2).toInt ∧ (I275 0 2).toInt ≤ 200; rw [eI275, z_up_k (by decide), eI265, z_up_k (by decide)]; exact lp86ma.2.2)⟩, ⟨(by show 0 ≤ (I275 0 13).toInt ∧ (I275 0 13).toInt ≤ 12; rw [eI275, z_up_k (by decide), eI265, z_up_k (by decide)]; exact lp86mb.1), (by show 0 ≤ (I275 0 14).toInt ∧ (I275 0 14).toInt ≤ 288; rw [eI275, z_up_k (by decide), eI265, z_up_s]; omega)⟩, ⟨(by show 0 ≤ (I275 0 31).toInt ∧ (I275 0 31).toInt ≤ 500; rw [eI275, z_up_k (by decide), eI265, z_up_k (by decide)]; exact lp86mp.1), (by show 0 ≤ (I275 0 33).toInt ∧ (I275 0 33).toInt ≤ 500; rw [eI275, z_up_k (by decide), eI265, z_up_k (by decide)]; exact lp86mp.2.1), (by show 0 ≤ (I275 0 34).toInt ∧ (I275 0 34).toInt ≤ 500; rw [eI275, z_up_k (by decide), eI265, z_up_k (by decide)]; exact lp86mp.2.2.1), (by show 0 ≤ (I275 0 35).toInt ∧ (I275 0 35).toInt ≤ 500; rw [eI275, z_up_k (by decide), eI265, z_up_k (by decide)]; exact lp86mp.2.2.2)⟩, ⟨(by show 0 ≤ (I275 0 36).toInt ∧ (I275 0 36).toInt ≤ 4; rw [eI275, z_up_k (by decide), eI265, z_up_k (by decide)]; exact lp86mt.1), (by show 0 ≤ (I275 0 42).toInt ∧ (I275 0 42).toInt ≤ 1; rw [eI275, z_up_k (by decide), eI265, z_up_k (by decide)]; exact lp86mt.2)⟩, ⟨(by show 0 ≤ (I275 0 47).toInt ∧ (I275 0 47).toInt ≤ 119; rw [eI275, z_up_k (by decide), eI265, z_up_k (by decide)]; exact lp86md.1), (by show 0 ≤ (I275 0 39).toInt ∧ (I275 0 39).toInt ≤ 100; rw [eI275, z_up_k (by decide), eI265, z_up_k (by decide)]; exact lp86md.2)⟩, (by show 0 ≤ (I275 0 40).toInt ∧ (I275 0 40).toInt ≤ 6199; rw [eI275, z_up_k (by decide), eI265, z_up_k (by decide)]; exact lp86mg), (by show 0 ≤ (I275 0 15).toInt ∧ (I275 0 15).toInt ≤ 6100; rw [eI275, z_up_s]; omega), a277, a278, a279, a280, a281, a282, a283, (by have q0 : (I275 0 13) = (I87 0 13) := (by rw [eI275, z_up_k (by decide), eI265, z_up_k (by decide)]); have q1 : (I275 0 14) = (I 0 14) := (by rw [eI275, z_up_k (by decide), eI265, z_up_s]); have q2 : (I275 0 15) = (I 0 15) := (by rw [eI275, z_up_s]); show (I275 0 14).toInt ≤ 24 * (I275 0 13).toInt ∧ (I275 0 15).toInt ≤ 505 * (I275 0 13).toInt; rw [q0, q1, q2]; first | omega | decide), f276, (Or.inr (Or.inr ⟨⟨by omega, by omega, by omega, by omega⟩, by omega, (by rw [show I275 0 31 = I87 0 31 from by rw [eI275, z_up_k hj, eI265, z_up_k hj]]; exact lp86K.2.1), (fun j hj => zm_q6_t ⟨by rw [eI275, z_up_n (by decide), eI265, z_up_n (by decide)], by rw [eI275, z_up_n (by decide), eI265, z_up_n (by decide)], by rw [eI275, z_up_n (by decide), eI265, z_up_n (by decide)], by rw [eI275, z_up_n (by decide), eI265, z_up_n (by decide)], by rw [eI275, z_up_n (by decide), eI265, z_up_n (by decide)], by rw [eI275, z_up_n (by decide), eI265, z_up_n (by decide)]⟩ (hQ9 j hj)), (zm_E_fa hE284).2.2, Or.inl ⟨by decide, hF9, (zm_E_fa hE284).1, (by have q0 : (I275 0 13) = (I87 0 13) := (by rw [eI275, z_up_k (by decide), eI265, z_up_k (by decide)]); show (I275 0 13).toInt = (x0 : Int); rw [q0]; omega), (by have q0 : (I275 0 14) = (I 0 14) := (by rw [eI275, z_up_k (by decide), eI265, z_up_s]); show (I275 0 14).toInt = (st0 : Int); rw [q0]; omega), (by have q0 : (I275 0 15) = (I 0 15) := (by rw [eI275, z_up_s]); show (I275 0 15).toInt = (n0 : Int); rw [q0]; omega), fun j => ⟨((show I275 11 j = I87 11 j from by rw [eI275, z_up_n (by decide), eI265, z_up_n (by decide)]).trans (lp86K.2.2 j).1), ((show I275 12 j = I87 12 j from by rw [eI275, z_up_n (by decide), eI265, z_up_n (by decide)]).trans (lp86K.2.2 j).2.1), ((show I275 13 j = I87 13 j from by rw [eI275, z_up_n (by decide), eI265, z_up_n (by decide)]).trans (lp86K.2.2 j).2.2.1), ((show I275 14 j = I87 14 j from by rw [eI275, z_up_n (by decide), eI265, z_up_n (by decide)]).trans (lp86K.2.2 j).2.2.2)⟩⟩⟩))⟩
          exact lp86 30  I64 J66 _ _ _ (by show (¬ (I64 0 42).toInt = 0 ∧ 1 ≤ ((30 : Nat) : Int)) ∨ (26 - ((I64 0 14).toInt - (I 0 14).toInt) ≤ ((30 : Nat) : Int) ∧ 0 ≤ ((I64 0 14).toInt - (I 0 14).toInt) ∧ ((I64 0 14).toInt - (I 0 14).toInt) ≤ 24 ∧ 1010 * (500 - (I64 0 35).toInt) + 1000 * (I64 0 15).toInt ≤ 505000 + 1000 * (I 0 15).toInt + 20 * ((I64 0 14).toInt - (I 0 14).toInt)); omega) ⟨(by show 0 ≤ (I64 0 0).toInt ∧ (I64 0 0).toInt ≤ 719; exact k67), (by show 0 ≤ (I64 0 1).toInt ∧ (I64 0 1).toInt ≤ 30; exact k68), (by show 0 ≤ (I64 0 2).toInt ∧ (I64 0 2).toInt ≤ 200; exact k69)⟩ ⟨(by show 0 ≤ (I64 0 13).toInt ∧ (I64 0 13).toInt ≤ 12; exact k70), (by show 0 ≤ (I64 0 14).toInt ∧ (I64 0 14).toInt ≤ 288; exact k71)⟩ ⟨(by show 0 ≤ (I64 0 31).toInt ∧ (I64 0 31).toInt ≤ 500; exact hI64mp.1), (by show 0 ≤ (I64 0 33).toInt ∧ (I64 0 33).toInt ≤ 500; exact hI64mp.2.1), (by show 0 ≤ (I64 0 34).toInt ∧ (I64 0 34).toInt ≤ 500; exact hI64mp.2.2.1), (by show 0 ≤ (I64 0 35).toInt ∧ (I64 0 35).toInt ≤ 500; exact hI64mp.2.2.2)⟩ ⟨(by show 0 ≤ (I64 0 36).toInt ∧ (I64 0 36).toInt ≤ 4; exact hI64mt.1), (by show 0 ≤ (I64 0 42).toInt ∧ (I64 0 42).toInt ≤ 1; exact hI64mt.2)⟩ ⟨(by show 0 ≤ (I64 0 47).toInt ∧ (I64 0 47).toInt ≤ 119; exact k72), (by show 0 ≤ (I64 0 39).toInt ∧ (I64 0 39).toInt ≤ 100; exact k73)⟩ (by show 0 ≤ (I64 0 40).toInt ∧ (I64 0 40).toInt ≤ 6199; exact k74) (by show 0 ≤ (I64 0 15).toInt ∧ (I64 0 15).toInt ≤ 6100; exact k75) (z_Nd_fr a55 fI64 (by decide)) (z_rg_fr a56 fI64 (by decide)) (z_rg_fr a57 fI64 (by decide)) (z_rg_fr a58 fI64 (by decide)) (z_rg_fr a59 fI64 (by decide)) (z_rg_fr a60 fI64 (by decide)) (z_Ex_fr a61 fI64 (by decide)) (by show 0 ≤ (I64 0 35).toInt ∧ (I64 0 35).toInt ≤ (I64 0 34).toInt ∧ (I64 0 34).toInt ≤ (I64 0 33).toInt ∧ (I64 0 33).toInt ≤ 500 ∧ ((I64 0 36).toInt = 0 ∨ (I64 0 35).toInt + 1 ≤ (I64 0 34).toInt); first | omega | decide) (by show (I64 0 13).toInt = (I 0 13).toInt; omega) ⟨(by rw [fI64 0 0 (z_wr_c (by decide)), eI53, z_up_k hj, eI44, z_up_k hj, eI35, z_up_k hj, eI26, z_up_k hj, eI17, z_up_k hj]), (by show (I64 0 31).toInt = 0; first | omega | decide), fun j => ⟨(by rw [fI64 11 j (z_wr_c (by decide)), eI53, z_up_n (by decide), eI44, z_up_n (by decide), eI35, z_up_n (by decide), eI26, z_up_n (by decide), eI17, z_up_n (by decide)]), (by rw [fI64 12 j (z_wr_c (by decide)), eI53, z_up_n (by decide), eI44, z_up_n (by decide), eI35, z_up_n (by decide), eI26, z_up_n (by decide), eI17, z_up_n (by decide)]), (by rw [fI64 13 j (z_wr_c (by decide)), eI53, z_up_n (by decide), eI44, z_up_n (by decide), eI35, z_up_n (by decide), eI26, z_up_n (by decide), eI17, z_up_n (by decide)]), (by rw [fI64 14 j (z_wr_c (by decide)), eI53, z_up_n (by decide), eI44, z_up_n (by decide), eI35, z_up_n (by decide), eI26, z_up_n (by decide), eI17, z_up_n (by decide)])⟩⟩ (zm_OL_0 hT0 hE0 (by show (I64 0 14).toInt = (st0 : Int); omega) (fun j _ => ⟨by rw [fI64 15 j (z_wr_c (by decide)), eI53, z_up_n (by decide), eI44, z_up_n (by decide), eI35, z_up_n (by decide), eI26, z_up_n (by decide), eI17, z_up_n (by decide)], by rw [fI64 16 j (z_wr_c (by decide)), eI53, z_up_n (by decide), eI44, z_up_n (by decide), eI35, z_up_n (by decide), eI26, z_up_n (by decide), eI17, z_up_n (by decide)], by rw [fI64 17 j (z_wr_c (by decide)), eI53, z_up_n (by decide), eI44, z_up_n (by decide), eI35, z_up_n (by decide), eI26, z_up_n (by decide), eI17, z_up_n (by decide)], by rw [fI64 18 j (z_wr_c (by decide)), eI53, z_up_n (by decide), eI44, z_up_n (by decide), eI35, z_up_n (by decide), eI26, z_up_n (by decide), eI17, z_up_n (by decide)], by rw [fI64 19 j (z_wr_c (by decide)), eI53, z_up_n (by decide), eI44, z_up_n (by decide), eI35, z_up_n (by decide), eI26, z_up_n (by decide), eI17, z_up_n (by decide)], by rw [fI64 20 j (z_wr_c (by decide)), eI53, z_up_n (by decide), eI44, z_up_n (by decide), eI35, z_up_n (by decide), eI26, z_up_n (by decide), eI17, z_up_n (by decide)]⟩)) f65 hW hS (lv_sub hl [0, 1, 2, 3, 4] rfl)
        · have g285 := z_f_eq rfl z_l12 c15
          refine lv_bipush (v := (-3)) hx hb dX12_orders_31 (by decide) ?_
          exact z_iret hx hb hr hK hS (Nat.le_of_ble_eq_true rfl) (Nat.le_of_ble_eq_true rfl) hlocks dX12_orders_33 (shM, ad, I, J, PM ad) hW ⟨I, J, rfl, ⟨(by show 0 ≤ (I 0 0).toInt ∧ (I 0 0).toInt ≤ 719; exact hma.1), (by show 0 ≤ (I 0 1).toInt ∧ (I 0 1).toInt ≤ 30; exact hma.2.1), (by show 0 ≤ (I 0 2).toInt ∧ (I 0 2).toInt ≤ 200; exact hma.2.2)⟩, ⟨(by show 0 ≤ (I 0 13).toInt ∧ (I 0 13).toInt ≤ 12; exact hmb.1), (by show 0 ≤ (I 0 14).toInt ∧ (I 0 14).toInt ≤ 288; exact hmb.2)⟩, ⟨(by show 0 ≤ (I 0 31).toInt ∧ (I 0 31).toInt ≤ 500; exact hmp.1), (by show 0 ≤ (I 0 33).toInt ∧ (I 0 33).toInt ≤ 500; exact hmp.2.1), (by show 0 ≤ (I 0 34).toInt ∧ (I 0 34).toInt ≤ 500; exact hmp.2.2.1), (by show 0 ≤ (I 0 35).toInt ∧ (I 0 35).toInt ≤ 500; exact hmp.2.2.2)⟩, ⟨(by show 0 ≤ (I 0 36).toInt ∧ (I 0 36).toInt ≤ 4; exact hmt.1), (by show 0 ≤ (I 0 42).toInt ∧ (I 0 42).toInt ≤ 1; exact hmt.2)⟩, ⟨(by show 0 ≤ (I 0 47).toInt ∧ (I 0 47).toInt ≤ 119; exact hmd.1), (by show 0 ≤ (I 0 39).toInt ∧ (I 0 39).toInt ≤ 100; exact hmd.2)⟩, (by show 0 ≤ (I 0 40).toInt ∧ (I 0 40).toInt ≤ 6199; exact hmg), (by show 0 ≤ (I 0 15).toInt ∧ (I 0 15).toInt ≤ 6100; exact hmn), hNd, hAtf, hAtm, hAsf, hAst, hAsc, hEx, (by show (I 0 14).toInt ≤ 24 * (I 0 13).toInt ∧ (I 0 15).toInt ≤ 505 * (I 0 13).toInt; first | omega | decide), z_fr_0, (Or.inr (Or.inl ⟨by decide, ⟨by omega, by omega, by omega, by omega⟩, by omega, rfl, rfl⟩))⟩
      · have h286 := h11
        refine lv_if_ne (tgt := 22) hx hb dX12_orders_16 (by decide) (fun c287 => absurd (by decide) c287) (fun c287 => ?_)
        refine lv_bipush (v := (-2)) hx hb dX12_orders_19 (by decide) ?_
        exact z_iret hx hb hr hK hS (Nat.le_of_ble_eq_true rfl) (Nat.le_of_ble_eq_true rfl) hlocks dX12_orders_21 (shM, ad, I, J, PM ad) hW ⟨I, J, rfl, ⟨(by show 0 ≤ (I 0 0).toInt ∧ (I 0 0).toInt ≤ 719; exact hma.1), (by show 0 ≤ (I 0 1).toInt ∧ (I 0 1).toInt ≤ 30; exact hma.2.1), (by show 0 ≤ (I 0 2).toInt ∧ (I 0 2).toInt ≤ 200; exact hma.2.2)⟩, ⟨(by show 0 ≤ (I 0 13).toInt ∧ (I 0 13).toInt ≤ 12; exact hmb.1), (by show 0 ≤ (I 0 14).toInt ∧ (I 0 14).toInt ≤ 288; exact hmb.2)⟩, ⟨(by show 0 ≤ (I 0 31).toInt ∧ (I 0 31).toInt ≤ 500; exact hmp.1), (by show 0 ≤ (I 0 33).toInt ∧ (I 0 33).toInt ≤ 500; exact hmp.2.1), (by show 0 ≤ (I 0 34).toInt ∧ (I 0 34).toInt ≤ 500; exact hmp.2.2.1), (by show 0 ≤ (I 0 35).toInt ∧ (I 0 35).toInt ≤ 500; exact hmp.2.2.2)⟩, ⟨(by show 0 ≤ (I 0 36).toInt ∧ (I 0 36).toInt ≤ 4; exact hmt.1), (by show 0 ≤ (I 0 42).toInt ∧ (I 0 42).toInt ≤ 1; exact hmt.2)⟩, ⟨(by show 0 ≤ (I 0 47).toInt ∧ (I 0 47).toInt ≤ 119; exact hmd.1), (by show 0 ≤ (I 0 39).toInt ∧ (I 0 39).toInt ≤ 100; exact hmd.2)⟩, (by show 0 ≤ (I 0 40).toInt ∧ (I 0 40).toInt ≤ 6199; exact hmg), (by show 0 ≤ (I 0 15).toInt ∧ (I 0 15).toInt ≤ 6100; exact hmn), hNd, hAtf, hAtm, hAsf, hAst, hAsc, hEx, (by show (I 0 14).toInt ≤ 24 * (I 0 13).toInt ∧ (I 0 15).toInt ≤ 505 * (I 0 13).toInt; first | omega | decide), z_fr_0, (Or.inl ⟨by decide, fun q => by unfold zm_ok at q; omega, rfl, rfl⟩)⟩
