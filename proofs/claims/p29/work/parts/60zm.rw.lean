

/-! wants and ROADS -/
noncomputable def zy_wr1 (c : Nat) (I1 I : z_I) (n : Nat) (v : Int32) : Prop := ∀ j, I1 c j = if j = n then v else I c j
noncomputable def zy_wr0 (c : Nat) (I1 I : z_I) : Prop := ∀ j, I1 c j = I c j
noncomputable def zy_rr1 (I1 I : z_I) (p s : Nat) (v : Int32) : Prop := ∀ q j, q < 4 → I1 (45 + q) j = if q = p ∧ j = s then v else I (45 + q) j
noncomputable def zy_rr0 (I1 I : z_I) : Prop := ∀ q j, q < 4 → I1 (45 + q) j = I (45 + q) j
theorem zy_45 {I1 I : z_I} (h1 : ∀ j, I1 45 j = I 45 j) (h2 : ∀ j, I1 46 j = I 46 j) (h3 : ∀ j, I1 47 j = I 47 j) (h4 : ∀ j, I1 48 j = I 48 j) : zy_rr0 I1 I := fun q j hq => match q, hq with
  | 0, _ => h1 j
  | 1, _ => h2 j
  | 2, _ => h3 j
  | 3, _ => h4 j
theorem zy_rr1_u {I1 I : z_I} {p k s : Nat} {v : Int32} (e : I1 = z_up I (45 + k) s v) (ek : p = k) : zy_rr1 I1 I p s v := fun q j hq => by
  subst ek
  rw [e]
  by_cases w : q = p
  · subst w
    by_cases w2 : j = s
    · rw [if_pos ⟨rfl, w2⟩, w2, z_up_s]
    · rw [if_neg (fun z => w2 z.2), z_up_k w2]
  · rw [if_neg (fun z => w z.1), z_up_n (by omega)]
/-- the boards are the same on both sides -/
noncomputable def zy_RF (Ix Im : z_I) : Prop := (∀ p : Nat, p < 4 → Ix 42 p = Im 52 p ∧ (0 ≤ (Ix 42 p).toInt ∧ (Ix 42 p).toInt ≤ 50) ∧ ((Ix 41 10).toInt ≤ (p : Int) → (Ix 42 p).toInt = 0)) ∧ (∀ s : Nat, s < 10 → Ix 43 s = Im 53 s ∧ (0 ≤ (Ix 43 s).toInt ∧ (Ix 43 s).toInt ≤ 20) ∧ ((Ix 0 8).toInt ≤ (s : Int) → (Ix 43 s).toInt = 0)) ∧ ∀ p s : Nat, p < 4 → s < 10 → Ix (45 + p) s = Im 54 (10 * p + s) ∧ (0 ≤ (Ix (45 + p) s).toInt ∧ (Ix (45 + p) s).toInt ≤ 999) ∧ ((Ix 41 10).toInt ≤ (p : Int) ∨ (Ix 0 8).toInt ≤ (s : Int) → (Ix (45 + p) s).toInt = 0)
theorem zy_RF_same {Ix Im Ix1 Im1 : z_I} (h : zy_RF Ix Im) (ep : (Ix1 41 10).toInt = (Ix 41 10).toInt) (es : (Ix 0 8).toInt ≤ (Ix1 0 8).toInt) (x1 : zy_wr0 42 Ix1 Ix) (x2 : zy_wr0 43 Ix1 Ix) (x3 : zy_rr0 Ix1 Ix) (m1 : zy_wr0 52 Im1 Im) (m2 : zy_wr0 53 Im1 Im) (m3 : zy_wr0 54 Im1 Im) : zy_RF Ix1 Im1 := by
  refine ⟨fun p hp => ?_, fun s hs => ?_, fun p s hp hs => ?_⟩
  · obtain ⟨a, b, d⟩ := h.1 p hp
    rw [x1 p, m1 p, ep]
    exact ⟨a, b, d⟩
  · obtain ⟨a, b, d⟩ := h.2.1 s hs
    rw [x2 s, m2 s]
    exact ⟨a, b, fun z => d (by omega)⟩
  · obtain ⟨a, b, d⟩ := h.2.2 p s hp hs
    rw [x3 p s hp, m3 (10 * p + s), ep]
    exact ⟨a, b, fun z => d (by omega)⟩
theorem zy_RF_port {Ix Im Ix1 Im1 : z_I} {n n1 : Nat} {a b : Int32} (h : zy_RF Ix Im) (ep : (Ix1 41 10).toInt = (Ix 41 10).toInt + 1) (es : (Ix1 0 8).toInt = (Ix 0 8).toInt) (en : (n : Int) = (Ix 41 10).toInt) (en1 : n1 = n) (x1 : zy_wr1 42 Ix1 Ix n a) (x2 : zy_wr0 43 Ix1 Ix) (x3 : zy_rr0 Ix1 Ix) (m1 : zy_wr1 52 Im1 Im n1 b) (m2 : zy_wr0 53 Im1 Im) (m3 : zy_wr0 54 Im1 Im) (eab : b = a) (hb : 0 ≤ a.toInt ∧ a.toInt ≤ 50) : zy_RF Ix1 Im1 := by
  subst en1 eab
  refine ⟨fun p hp => ?_, fun s hs => ?_, fun p s hp hs => ?_⟩
  · obtain ⟨g1, g2, g3⟩ := h.1 p hp
    rw [x1 p, m1 p, ep]
    by_cases q : p = n1
    · rw [if_pos q, if_pos q]
      exact ⟨rfl, hb, fun z => by omega⟩
    · rw [if_neg q, if_neg q]
      exact ⟨g1, g2, fun z => g3 (by omega)⟩
  · obtain ⟨g1, g2, g3⟩ := h.2.1 s hs
    rw [x2 s, m2 s, es]
    exact ⟨g1, g2, g3⟩
  · obtain ⟨g1, g2, g3⟩ := h.2.2 p s hp hs
    rw [x3 p s hp, m3 (10 * p + s), ep, es]
    exact ⟨g1, g2, fun z => g3 (by omega)⟩
theorem zy_RF_want {Ix Im Ix1 Im1 : z_I} {n n1 : Nat} {a b : Int32} (h : zy_RF Ix Im) (ep : (Ix1 41 10).toInt = (Ix 41 10).toInt) (es : (Ix1 0 8).toInt = (Ix 0 8).toInt) (en : (n : Int) < (Ix 0 8).toInt) (en1 : n1 = n) (x1 : zy_wr0 42 Ix1 Ix) (x2 : zy_wr1 43 Ix1 Ix n a) (x3 : zy_rr0 Ix1 Ix) (m1 : zy_wr0 52 Im1 Im) (m2 : zy_wr1 53 Im1 Im n1 b) (m3 : zy_wr0 54 Im1 Im) (eab : b = a) (hb : 0 ≤ a.toInt ∧ a.toInt ≤ 20) : zy_RF Ix1 Im1 := by
  subst en1 eab
  refine ⟨fun p hp => ?_, fun s hs => ?_, fun p s hp hs => ?_⟩
  · obtain ⟨g1, g2, g3⟩ := h.1 p hp
    rw [x1 p, m1 p, ep]
    exact ⟨g1, g2, g3⟩
  · obtain ⟨g1, g2, g3⟩ := h.2.1 s hs
    rw [x2 s, m2 s, es]
    by_cases q : s = n1
    · rw [if_pos q, if_pos q]
      exact ⟨rfl, hb, fun z => by omega⟩
    · rw [if_neg q, if_neg q]
      exact ⟨g1, g2, g3⟩
  · obtain ⟨g1, g2, g3⟩ := h.2.2 p s hp hs
    rw [x3 p s hp, m3 (10 * p + s), ep, es]
    exact ⟨g1, g2, g3⟩
theorem zy_RF_road {Ix Im Ix1 Im1 : z_I} {n k n1 : Nat} {a b : Int32} (h : zy_RF Ix Im) (ep : (Ix1 41 10).toInt = (Ix 41 10).toInt) (es : (Ix1 0 8).toInt = (Ix 0 8).toInt) (en : (n : Int) < (Ix 41 10).toInt) (ek : (k : Int) < (Ix 0 8).toInt) (hk : k < 10) (en1 : n1 = 10 * n + k) (x1 : zy_wr0 42 Ix1 Ix) (x2 : zy_wr0 43 Ix1 Ix) (x3 : zy_rr1 Ix1 Ix n k a) (m1 : zy_wr0 52 Im1 Im) (m2 : zy_wr0 53 Im1 Im) (m3 : zy_wr1 54 Im1 Im n1 b) (eab : b = a) (hb : 0 ≤ a.toInt ∧ a.toInt ≤ 999) : zy_RF Ix1 Im1 := by
  subst en1 eab
  refine ⟨fun p hp => ?_, fun s hs => ?_, fun p s hp hs => ?_⟩
  · obtain ⟨g1, g2, g3⟩ := h.1 p hp
    rw [x1 p, m1 p, ep]
    exact ⟨g1, g2, g3⟩
  · obtain ⟨g1, g2, g3⟩ := h.2.1 s hs
    rw [x2 s, m2 s, es]
    exact ⟨g1, g2, g3⟩
  · obtain ⟨g1, g2, g3⟩ := h.2.2 p s hp hs
    rw [x3 p s hp, m3 (10 * p + s), ep, es]
    by_cases q : p = n ∧ s = k
    · rw [if_pos q, if_pos (show 10 * p + s = 10 * n + k by omega)]
      exact ⟨rfl, hb, fun z => by omega⟩
    · rw [if_neg q, if_neg (show ¬ 10 * p + s = 10 * n + k by omega)]
      exact ⟨g1, g2, g3⟩
theorem zy_RF_gX {Ix Im : z_I} (h : zy_RF Ix Im) : zy_gX Ix := ⟨fun p hp => (h.1 p hp).2.1, fun s hs => (h.2.1 s hs).2.1, fun p s hp hs => (h.2.2 p s hp hs).2.1⟩
theorem zy_RF_ZM {Ix Im : z_I} (h : zy_RF Ix Im) (ep : (Im 0 75).toInt = (Ix 41 10).toInt) (es : (Im 0 54).toInt = (Ix 0 8).toInt) : zy_ZM Im := by
  refine ⟨fun p hp q => ?_, fun s hs q => ?_, fun p s hp hs q => ?_⟩
  · obtain ⟨g1, g2, g3⟩ := h.1 p hp
    rw [← g1]
    exact g3 (by omega)
  · obtain ⟨g1, g2, g3⟩ := h.2.1 s hs
    rw [← g1]
    exact g3 (by omega)
  · obtain ⟨g1, g2, g3⟩ := h.2.2 p s hp hs
    rw [← g1]
    exact g3 (by omega)
theorem zy_RF_C {Ix Im : z_I} (h : zy_RF Ix Im) : ∀ a b, zy_CM Im a b = zy_CX Ix a b := by
  have e : ∀ a b, zy_fw (fun _ => 0) (fun _ => 0) (zy_mM Im) a b = zy_fw (fun _ => 0) (fun _ => 0) (zy_mX Ix) a b := fun a b => by
    rcases zy_cs a b with ⟨p, hp, g1, g2⟩ | ⟨p, s, hp, hs, g1, g2⟩ | ⟨s, hs, g1, g2⟩ | g1
    · subst g1 g2
      rw [zy_fw_0 hp, zy_fw_0 hp]
    · subst g1 g2
      rw [zy_fw_1 hp hs, zy_fw_1 hp hs]
      unfold zy_mM zy_mX
      rw [(h.2.2 p s hp hs).1]
    · subst g1 g2
      rw [zy_fw_2 hs, zy_fw_2 hs]
    · rw [g1, g1]
  intro a b
  unfold zy_CM zy_CX zy_C
  rw [e, e]
theorem zy_RF_0 {Ix Im : z_I} {sh : Int} (h : zy_RF Ix Im) : ∀ a b, zy_0M Im sh a b = zy_0X Ix sh a b := fun a b => by
  unfold zy_0M zy_0X
  rcases zy_cs a b with ⟨p, hp, g1, g2⟩ | ⟨p, s, hp, hs, g1, g2⟩ | ⟨s, hs, g1, g2⟩ | g1
  · subst g1 g2
    rw [zy_fw_0 hp, zy_fw_0 hp]
    unfold zy_cM zy_cX
    rw [(h.1 p hp).1]
  · subst g1 g2
    rw [zy_fw_1 hp hs, zy_fw_1 hp hs]
    unfold zy_50 zy_mM zy_mX
    rw [(h.2.2 p s hp hs).1]
  · subst g1 g2
    rw [zy_fw_2 hs, zy_fw_2 hs]
    unfold zy_wM zy_wX
    rw [(h.2.1 s hs).1]
  · rw [g1, g1]
/-- both answers are equal -/
theorem zy_EQ {Ix Im : z_I} {sh w : Int} {r1 r2 : Int32} (h : zy_RF Ix Im) (hw : 0 ≤ w ∧ w ≤ 1) (h1 : ∃ (R : Nat → Nat → Int) (x y : Int32), zy_FL (zy_0X Ix sh) R (zy_CX Ix) x y ∧ zy_op R (zy_CX Ix) ∧ (w = 0 → r1 = x) ∧ (w = 1 → r1 = y)) (h2 : ∃ (R : Nat → Nat → Int) (x y : Int32), zy_FL (zy_0M Im sh) R (zy_CM Im) x y ∧ zy_op R (zy_CM Im) ∧ (w = 0 → r2 = x) ∧ (w = 1 → r2 = y)) : r1 = r2 := by
  obtain ⟨R1, x1, y1, f1, o1, a1, b1⟩ := h1
  obtain ⟨R2, x2, y2, f2, o2, a2, b2⟩ := h2
  have g2 := zy_FL_c (R0' := zy_0X Ix sh) (C' := zy_CX Ix) (fun a b _ _ => (zy_RF_0 h a b).symm) (fun a b _ _ => (zy_RF_C h a b).symm) f2
  have p2 := zy_op_c (C' := zy_CX Ix) (fun a b _ _ => (zy_RF_C h a b).symm) o2
  have hg := zy_RF_gX h
  have q := zy_FL_e (fun a b _ _ => ⟨zy_C_a a b, zy_CX_b hg a b⟩) (fun a b _ _ => by
    have q1 := zy_R0_b (w := zy_wX Ix) (m := zy_mX Ix) (zy_gX_c (sh := sh) hg) (fun s hs => hg.2.1 s hs) a b
    have q2 := zy_R0_b (w := zy_wX Ix) (m := zy_mX Ix) (zy_gX_c (sh := sh) hg) (fun s hs => hg.2.1 s hs) b a
    show zy_fw (zy_cX Ix sh) (zy_wX Ix) (zy_50 (zy_mX Ix)) a b + zy_fw (zy_cX Ix sh) (zy_wX Ix) (zy_50 (zy_mX Ix)) b a ≤ 100
    omega) f1 g2 o1 p2
  rcases (show w = 0 ∨ w = 1 by omega) with e | e
  · rw [a1 e, a2 e, q.1]
  · rw [b1 e, b2 e, q.2]
noncomputable def L_X4_putWant_k : z_L := [(43, 999)]
set_option maxHeartbeats 8000000 in
set_option maxRecDepth 100000 in
theorem sx_X4_putWant_k (l : Launch) (G : z_G) (ad : Nat → Nat) (c : z_C) (I : z_I) (a1 : Int32) (a2 : Int32) (q1 : 0 ≤ a1.toInt ∧ a1.toInt ≤ 9) : z_Mv l yX4_putWant wsX4_putWant { frames := 1, cells := 0, slots := 0, locals := 12 } [.ref (ad 41), .int a1, .int a2] G (shC c, ad, I, JX, PC c ad) (fun u1 => ∃ I1 : z_I, u1 = (shC c, ad, I1, JX, PC c ad) ∧ z_fr L_X4_putWant_k I1 I ∧ zy_wr1 43 I1 I a1.toNatClampNeg a2) 0 0 := by
  intro sz
  refine z_headQ (cc := cX4_putWant) (maxL := 3) (ret := none) (by decide) rfl (Nat.le_of_ble_eq_true rfl) ?_
  intro p e s m below meth c0 ls hIn hK hsz hW hl
  obtain ⟨hx, hb, hr, hml, hown, hts, hlocks, hname⟩ := hIn
  subst hsz
  have hown : s.vm.findClass RX4 = some m.cls := hown
  have hA : ∀ q : Nat, s.heap.size ≤ q → z_A (shC c, ad, I, JX, PC c ad) s.heap.size q := fun q h => Or.inr h
  generalize hAe : z_A (shC c, ad, I, JX, PC c ad) s.heap.size = A at *
  have hS : va_S A s.heap s.heap [] := va_S.rf
  have hl : lv_has ls 3 [(0, .ref (ad 41)), (1, .int a1), (2, .int a2)] := hl
  refine lv_iload_n hx hb dX4_putWant_0 rfl (lv_at hl 1 rfl) ?_
  refine lv_if_lt (tgt := 17) hx hb dX4_putWant_1 (by decide) (fun c1 => (by have g := z_f_lt rfl z_l0 c1; omega)) (fun c1 => ?_)
  have g2 := z_f_nlt rfl z_l0 c1
  refine lv_iload_n hx hb dX4_putWant_4 rfl (lv_at hl 1 rfl) ?_
  refine lv_bipush (v := 10) hx hb dX4_putWant_5 (by decide) ?_
  refine lv_icmp_ge (tgt := 17) hx hb dX4_putWant_7 (by decide) (fun c3 => (by have g := z_f_ge rfl z_l10 c3; omega)) (fun c3 => ?_)
  have g4 := z_f_nge rfl z_l10 c3
  refine lv_aload_n hx hb dX4_putWant_10 rfl (lv_at hl 0 rfl) ?_
  refine z_get (T := TX4) (N := 13) (ci := 4) (i := 41) (v := .ref (ad 43)) hx hb hts zj_X4_putWant_X4 hown hK hW rfl rfl 1 (by decide) (hts (.fieldLink RX4 15 "PetrolBoard$Loads" "wanted" "[I") (me_s (me_l (List.mem_of_getElem? (i := 0) rfl)))) (fun _ h => h) rfl dX4_putWant_11 ?_
  refine lv_iload_n hx hb dX4_putWant_14 rfl (lv_at hl 1 rfl) ?_
  refine lv_iload_n hx hb dX4_putWant_15 rfl (lv_at hl 2 rfl) ?_
  refine z_iast (i := 43) hx hb hK hW hS rfl (z_ix rfl (by omega) (by omega)) dX4_putWant_16 (fun H locs hz1 hW hS => ?_)
  obtain ⟨I5, eI5⟩ : ∃ K : z_I, K = z_up I 43 a1.toNatClampNeg a2 := ⟨_, rfl⟩
  rw [← eI5] at hW
  have f6 := z_fr_a z_fr_0 (show z_wa L_X4_putWant_k 43 = true by decide) eI5
  exact z_vret hx hb hr hK hS (Nat.le_of_ble_eq_true rfl) (Nat.le_of_ble_eq_true rfl) hlocks dX4_putWant_17 (shC c, ad, I5, JX, PC c ad) hW ⟨I5, rfl, f6, (fun j => by rw [eI5, z_up_j])⟩
noncomputable def L_X11_want_k : z_L := [(43, 999)]
set_option maxHeartbeats 8000000 in
set_option maxRecDepth 100000 in
theorem sx_X11_want_k (l : Launch) (G : z_G) (ad : Nat → Nat) (c : z_C) (I : z_I) (hB : z_iB I) (a1 : Int32) (a2 : Int32) (hc : z_okc c) (h10 : c.1 ≤ 10) : z_M l yX11_want wsX11_want { frames := 2, cells := 0, slots := 0, locals := 34 } [.ref (ad 0), .int a1, .int a2] G (shC c, ad, I, JX, PC c ad) (fun r u1 => ∃ I1 : z_I, u1 = (shC c, ad, I1, JX, PC c ad) ∧ z_iB I1 ∧ z_fr L_X11_want_k I1 I ∧ ((r = 1 ∧ (0 ≤ a1.toInt ∧ a1.toInt < (I 0 8).toInt ∧ 0 ≤ a2.toInt ∧ a2.toInt ≤ 20) ∧ zy_wr1 43 I1 I a1.toNatClampNeg a2) ∨ (r = 0 ∧ ¬ (0 ≤ a1.toInt ∧ a1.toInt < (I 0 8).toInt ∧ 0 ≤ a2.toInt ∧ a2.toInt ≤ 20) ∧ zy_wr0 43 I1 I))) 0 0 := by
  intro sz
  refine z_headQ (cc := cX11_want) (maxL := 3) (ret := (some .boolean)) (by decide) rfl (Nat.le_of_ble_eq_true rfl) ?_
  intro p e s m below meth c0 ls hIn hK hsz hW hl
  obtain ⟨hx, hb, hr, hml, hown, hts, hlocks, hname⟩ := hIn
  subst hsz
  have hown : s.vm.findClass RX11 = some m.cls := hown
  have hA : ∀ q : Nat, s.heap.size ≤ q → z_A (shC c, ad, I, JX, PC c ad) s.heap.size q := fun q h => Or.inr h
  generalize hAe : z_A (shC c, ad, I, JX, PC c ad) s.heap.size = A at *
  have hS : va_S A s.heap s.heap [] := va_S.rf
  have hl : lv_has ls 3 [(0, .ref (ad 0)), (1, .int a1), (2, .int a2)] := hl
  refine lv_aload_n hx hb dX11_want_0 rfl (lv_at hl 0 rfl) ?_
  refine lv_iload_n hx hb dX11_want_1 rfl (lv_at hl 1 rfl) ?_
  refine z_ci hW hS hA (va_runV (As := [.int a1]) (rest := []) ⟨hx, hb, hml, hown, hts⟩ (sx_X11_hasStation_e l G ad c I ⟨(by show 0 ≤ (I 0 0).toInt ∧ (I 0 0).toInt ≤ 719; exact hB.1), (by show 0 ≤ (I 0 8).toInt ∧ (I 0 8).toInt ≤ 10; exact hB.2)⟩ a1 hc h10 _) (cwV 1 hts gX11_want_X11_hasStation rfl rfl rfl (by decide +kernel) ⟨Nat.le_of_ble_eq_true rfl, Nat.le_of_ble_eq_true rfl⟩) (z_preV (i := 0) hK hW rfl rfl) rfl rfl hl.1 rfl (lv_room (Nat.le_of_ble_eq_true rfl)) dX11_want_2 ⟨Nat.le_of_ble_eq_true rfl, Nat.le_of_ble_eq_true rfl⟩) (fun r u1 H locs hp hW hS => ?_)
  obtain ⟨e9, hp⟩ := hp
  rw [e9] at hW
  rcases hp with ⟨rfl, h1⟩ | ⟨rfl, h1⟩
  · have h2 := h1
    have r3 : 0 ≤ (I 0 8).toInt ∧ (I 0 8).toInt ≤ 10 := hB.2
    refine lv_if_eq (tgt := 18) hx hb dX11_want_5 (by decide) (fun c4 => absurd c4 (by decide)) (fun c4 => ?_)
    refine lv_iload_n hx hb dX11_want_8 rfl (lv_at hl 2 rfl) ?_
    refine lv_iconst (v := 0) hx hb dX11_want_9 (by decide) ?_
    refine lv_bipush (v := 20) hx hb dX11_want_10 (by decide) ?_
    refine z_ci hW hS hA (va_runS (As := [.int a2, .int 0, .int 20]) (rest := []) ⟨hx, hb, hml, hown, hts⟩ (sx_X11_within_e l G ad c I  a2 0 20 _) (va_cwS 3 hts gX11_want_X11_within rfl rfl rfl (by decide +kernel) ⟨Nat.le_of_ble_eq_true rfl, Nat.le_of_ble_eq_true rfl⟩) (z_preS hK hW) rfl rfl hl.1 rfl (lv_room (Nat.le_of_ble_eq_true rfl)) dX11_want_12 ⟨Nat.le_of_ble_eq_true rfl, Nat.le_of_ble_eq_true rfl⟩) (fun r u1 H locs hp hW hS => ?_)
    obtain ⟨e9, hp⟩ := hp
    rw [e9] at hW
    rcases hp with ⟨rfl, h5⟩ | ⟨rfl, h5⟩
    · have h6 := h5
      have z7 := z_l0
      have z8 := z_l20
      refine lv_if_ne (tgt := 20) hx hb dX11_want_15 (by decide) (fun c9 => ?_) (fun c9 => absurd c9 (by decide))
      refine lv_aload_n hx hb dX11_want_20 rfl (lv_at hl 0 rfl) ?_
      refine z_get (T := TX11) (N := 13) (ci := 11) (i := 0) (v := .ref (ad 41)) hx hb hts zj_X11_want_X11 hown hK hW rfl rfl 10 (by decide) (hts (.fieldLink RX11 61 "PetrolBoard" "loads" "LPetrolBoard$Loads;") (me_s (me_l (me_l (List.mem_of_getElem? (i := 0) rfl))))) (fun _ h => h) rfl dX11_want_21 ?_
      refine lv_iload_n hx hb dX11_want_24 rfl (lv_at hl 1 rfl) ?_
      refine lv_iload_n hx hb dX11_want_25 rfl (lv_at hl 2 rfl) ?_
      refine z_cv hW hS hA (va_runV (As := [.int a1, .int a2]) (rest := []) ⟨hx, hb, hml, hown, hts⟩ (sx_X4_putWant_k l G ad c I  a1 a2 (by omega) _) (cwV 2 hts gX11_want_X4_putWant rfl rfl rfl (by decide +kernel) ⟨Nat.le_of_ble_eq_true rfl, Nat.le_of_ble_eq_true rfl⟩) (z_preV (i := 41) hK hW rfl rfl) rfl rfl hl.1 rfl (lv_room (Nat.le_of_ble_eq_true rfl)) dX11_want_26 ⟨Nat.le_of_ble_eq_true rfl, Nat.le_of_ble_eq_true rfl⟩) (fun u1 H locs hp hW hS => ?_)
      obtain ⟨I10, e9, fI10, hp⟩ := hp
      rw [e9] at hW
      have f11 := z_fr_sub (L := L_X11_want_k) z_fr_0 fI10 (by decide)
      have k12 : 0 ≤ (I10 0 0).toInt ∧ (I10 0 0).toInt ≤ 719 := by rw [fI10 0 0 (by decide)]; exact (by show 0 ≤ (I 0 0).toInt ∧ (I 0 0).toInt ≤ 719; exact hB.1)
      have k13 : 0 ≤ (I10 0 8).toInt ∧ (I10 0 8).toInt ≤ 10 := by rw [fI10 0 8 (by decide)]; exact (by show 0 ≤ (I 0 8).toInt ∧ (I 0 8).toInt ≤ 10; exact hB.2)
      have k14 : (I10 0 8).toInt = (I 0 8).toInt := by rw [fI10 0 8 (by decide)]
      have hR15 := hp
      refine lv_iconst (v := 1) hx hb dX11_want_29 (by decide) ?_
      exact z_zret hx hb hr (by decide) hK hS (Nat.le_of_ble_eq_true rfl) (Nat.le_of_ble_eq_true rfl) hlocks dX11_want_30 (shC c, ad, I10, JX, PC c ad) hW ⟨I10, rfl, ⟨(by show 0 ≤ (I10 0 0).toInt ∧ (I10 0 0).toInt ≤ 719; exact k12), (by show 0 ≤ (I10 0 8).toInt ∧ (I10 0 8).toInt ≤ 10; exact k13)⟩, f11, (Or.inl ⟨rfl, by omega, hR15⟩)⟩
    · have h16 := h5
      have z17 := z_l0
      have z18 := z_l20
      refine lv_if_ne (tgt := 20) hx hb dX11_want_15 (by decide) (fun c19 => absurd (by decide) c19) (fun c19 => ?_)
      refine lv_iconst (v := 0) hx hb dX11_want_18 (by decide) ?_
      exact z_zret hx hb hr (by decide) hK hS (Nat.le_of_ble_eq_true rfl) (Nat.le_of_ble_eq_true rfl) hlocks dX11_want_19 (shC c, ad, I, JX, PC c ad) hW ⟨I, rfl, ⟨(by show 0 ≤ (I 0 0).toInt ∧ (I 0 0).toInt ≤ 719; exact hB.1), (by show 0 ≤ (I 0 8).toInt ∧ (I 0 8).toInt ≤ 10; exact hB.2)⟩, z_fr_0, (Or.inr ⟨rfl, by omega, (fun j => rfl)⟩)⟩
  · have h20 := h1
    have r21 : 0 ≤ (I 0 8).toInt ∧ (I 0 8).toInt ≤ 10 := hB.2
    refine lv_if_eq (tgt := 18) hx hb dX11_want_5 (by decide) (fun c22 => ?_) (fun c22 => absurd (by decide) c22)
    refine lv_iconst (v := 0) hx hb dX11_want_18 (by decide) ?_
    exact z_zret hx hb hr (by decide) hK hS (Nat.le_of_ble_eq_true rfl) (Nat.le_of_ble_eq_true rfl) hlocks dX11_want_19 (shC c, ad, I, JX, PC c ad) hW ⟨I, rfl, ⟨(by show 0 ≤ (I 0 0).toInt ∧ (I 0 0).toInt ≤ 719; exact hB.1), (by show 0 ≤ (I 0 8).toInt ∧ (I 0 8).toInt ≤ 10; exact hB.2)⟩, z_fr_0, (Or.inr ⟨rfl, by omega, (fun j => rfl)⟩)⟩
noncomputable def L_X4_putRoad_k : z_L := [(45, 999), (46, 999), (47, 999), (48, 999)]
set_option maxHeartbeats 8000000 in
set_option maxRecDepth 100000 in
theorem sx_X4_putRoad_k (l : Launch) (G : z_G) (ad : Nat → Nat) (c : z_C) (I : z_I) (hL : z_iL I) (a1 : Int32) (a2 : Int32) (a3 : Int32) (q1 : 0 ≤ a1.toInt ∧ a1.toInt < (I 41 10).toInt) (q2 : 0 ≤ a2.toInt ∧ a2.toInt ≤ 9) : z_Mv l yX4_putRoad wsX4_putRoad { frames := 2, cells := 0, slots := 0, locals := 33 } [.ref (ad 41), .int a1, .int a2, .int a3] G (shC c, ad, I, JX, PC c ad) (fun u1 => ∃ I1 : z_I, u1 = (shC c, ad, I1, JX, PC c ad) ∧ z_iL I1 ∧ z_fr L_X4_putRoad_k I1 I ∧ zy_rr1 I1 I a1.toNatClampNeg a2.toNatClampNeg a3) 0 0 := by
  intro sz
  refine z_headQ (cc := cX4_putRoad) (maxL := 4) (ret := none) (by decide) rfl (Nat.le_of_ble_eq_true rfl) ?_
  intro p e s m below meth c0 ls hIn hK hsz hW hl
  obtain ⟨hx, hb, hr, hml, hown, hts, hlocks, hname⟩ := hIn
  subst hsz
  have hown : s.vm.findClass RX4 = some m.cls := hown
  have hA : ∀ q : Nat, s.heap.size ≤ q → z_A (shC c, ad, I, JX, PC c ad) s.heap.size q := fun q h => Or.inr h
  generalize hAe : z_A (shC c, ad, I, JX, PC c ad) s.heap.size = A at *
  have hS : va_S A s.heap s.heap [] := va_S.rf
  have hl : lv_has ls 4 [(0, .ref (ad 41)), (1, .int a1), (2, .int a2), (3, .int a3)] := hl
  refine lv_aload_n hx hb dX4_putRoad_0 rfl (lv_at hl 0 rfl) ?_
  refine lv_iload_n hx hb dX4_putRoad_1 rfl (lv_at hl 1 rfl) ?_
  refine z_ci hW hS hA (va_runV (As := [.int a1]) (rest := []) ⟨hx, hb, hml, hown, hts⟩ (sx_X4_hasPort_e l G ad c I (by show 0 ≤ (I 41 10).toInt ∧ (I 41 10).toInt ≤ 4; exact hL) a1 _) (cwV 1 hts gX4_putRoad_X4_hasPort rfl rfl rfl (by decide +kernel) ⟨Nat.le_of_ble_eq_true rfl, Nat.le_of_ble_eq_true rfl⟩) (z_preV (i := 41) hK hW rfl rfl) rfl rfl hl.1 rfl (lv_room (Nat.le_of_ble_eq_true rfl)) dX4_putRoad_2 ⟨Nat.le_of_ble_eq_true rfl, Nat.le_of_ble_eq_true rfl⟩) (fun r u1 H locs hp hW hS => ?_)
  obtain ⟨e9, hp⟩ := hp
  rw [e9] at hW
  rcases hp with ⟨rfl, h1⟩ | ⟨rfl, h1⟩
  · have h2 := h1
    have r3 : 0 ≤ (I 41 10).toInt ∧ (I 41 10).toInt ≤ 4 := hL
    refine lv_if_eq (tgt := 27) hx hb dX4_putRoad_5 (by decide) (fun c4 => absurd c4 (by decide)) (fun c4 => ?_)
    refine lv_iload_n hx hb dX4_putRoad_8 rfl (lv_at hl 2 rfl) ?_
    refine lv_if_lt (tgt := 27) hx hb dX4_putRoad_9 (by decide) (fun c5 => (by have g := z_f_lt rfl z_l0 c5; omega)) (fun c5 => ?_)
    have g6 := z_f_nlt rfl z_l0 c5
    refine lv_iload_n hx hb dX4_putRoad_12 rfl (lv_at hl 2 rfl) ?_
    refine lv_bipush (v := 10) hx hb dX4_putRoad_13 (by decide) ?_
    refine lv_icmp_ge (tgt := 27) hx hb dX4_putRoad_15 (by decide) (fun c7 => (by have g := z_f_ge rfl z_l10 c7; omega)) (fun c7 => ?_)
    have g8 := z_f_nge rfl z_l10 c7
    refine lv_aload_n hx hb dX4_putRoad_18 rfl (lv_at hl 0 rfl) ?_
    refine z_get (T := TX4) (N := 13) (ci := 4) (i := 41) (v := .ref (ad 44)) hx hb hts zj_X4_putRoad_X4 hown hK hW rfl rfl 2 (by decide) (hts (.fieldLink RX4 20 "PetrolBoard$Loads" "miles" "[[I") (me_s (me_l (List.mem_of_getElem? (i := 0) rfl)))) (fun _ h => h) rfl dX4_putRoad_19 ?_
    refine lv_iload_n hx hb dX4_putRoad_22 rfl (lv_at hl 1 rfl) ?_
    obtain ⟨k9, ek9, hk9⟩ : ∃ k : Nat, a1.toNatClampNeg = k ∧ k < 4 := ⟨_, rfl, z_clN rfl (by omega) (by omega)⟩
    refine z_aald (i := 44) (v := .ref (ad (45 + k9))) hx hb hK hW rfl (by simp [z_tys]) rfl (z_ix rfl (by omega) (by omega)) (z_p44 ek9 hk9) dX4_putRoad_23 ?_
    refine lv_iload_n hx hb dX4_putRoad_24 rfl (lv_at hl 2 rfl) ?_
    refine lv_iload_n hx hb dX4_putRoad_25 rfl (lv_at hl 3 rfl) ?_
    refine z_iast (i := (45 + k9)) hx hb hK hW hS (z_s45 hk9) (z_ix rfl (by omega) (by omega)) dX4_putRoad_26 (fun H locs hz1 hW hS => ?_)
    obtain ⟨I10, eI10⟩ : ∃ K : z_I, K = z_up I (45 + k9) a2.toNatClampNeg a3 := ⟨_, rfl⟩
    rw [← eI10] at hW
    have f11 := z_fr_a z_fr_0 (z_wa45 (L := L_X4_putRoad_k) (by decide) hk9) eI10
    exact z_vret hx hb hr hK hS (Nat.le_of_ble_eq_true rfl) (Nat.le_of_ble_eq_true rfl) hlocks dX4_putRoad_27 (shC c, ad, I10, JX, PC c ad) hW ⟨I10, rfl, (by show 0 ≤ (I10 41 10).toInt ∧ (I10 41 10).toInt ≤ 4; rw [eI10, z_up_n (by omega)]; exact hL), f11, (zy_rr1_u eI10 ek9)⟩
  · have h12 := h1
    have r13 : 0 ≤ (I 41 10).toInt ∧ (I 41 10).toInt ≤ 4 := hL
    refine lv_if_eq (tgt := 27) hx hb dX4_putRoad_5 (by decide) (fun c14 => ?_) (fun c14 => absurd (by decide) c14)
    exact z_vret hx hb hr hK hS (Nat.le_of_ble_eq_true rfl) (Nat.le_of_ble_eq_true rfl) hlocks dX4_putRoad_27 (shC c, ad, I, JX, PC c ad) hW ⟨I, rfl, (by show 0 ≤ (I 41 10).toInt ∧ (I 41 10).toInt ≤ 4; exact hL), z_fr_0, (by exfalso; omega)⟩
noncomputable def L_X11_road_k : z_L := [(45, 999), (46, 999), (47, 999), (48, 999)]
set_option maxHeartbeats 8000000 in
set_option maxRecDepth 100000 in
theorem sx_X11_road_k (l : Launch) (G : z_G) (ad : Nat → Nat) (c : z_C) (I : z_I) (hB : z_iB I) (hL : z_iL I) (a1 : Int32) (a2 : Int32) (a3 : Int32) (hc : z_okc c) (h10 : c.1 ≤ 10) : z_M l yX11_road wsX11_road { frames := 3, cells := 0, slots := 0, locals := 56 } [.ref (ad 0), .int a1, .int a2, .int a3] G (shC c, ad, I, JX, PC c ad) (fun r u1 => ∃ I1 : z_I, u1 = (shC c, ad, I1, JX, PC c ad) ∧ z_iB I1 ∧ z_iL I1 ∧ z_fr L_X11_road_k I1 I ∧ ((r = 1 ∧ (0 ≤ a1.toInt ∧ a1.toInt < (I 41 10).toInt ∧ 0 ≤ a2.toInt ∧ a2.toInt < (I 0 8).toInt ∧ 0 ≤ a3.toInt ∧ a3.toInt ≤ 999) ∧ zy_rr1 I1 I a1.toNatClampNeg a2.toNatClampNeg a3) ∨ (r = 0 ∧ ¬ (0 ≤ a1.toInt ∧ a1.toInt < (I 41 10).toInt ∧ 0 ≤ a2.toInt ∧ a2.toInt < (I 0 8).toInt ∧ 0 ≤ a3.toInt ∧ a3.toInt ≤ 999) ∧ zy_rr0 I1 I))) 0 0 := by
  intro sz
  refine z_headQ (cc := cX11_road) (maxL := 4) (ret := (some .boolean)) (by decide) rfl (Nat.le_of_ble_eq_true rfl) ?_
  intro p e s m below meth c0 ls hIn hK hsz hW hl
  obtain ⟨hx, hb, hr, hml, hown, hts, hlocks, hname⟩ := hIn
  subst hsz
  have hown : s.vm.findClass RX11 = some m.cls := hown
  have hA : ∀ q : Nat, s.heap.size ≤ q → z_A (shC c, ad, I, JX, PC c ad) s.heap.size q := fun q h => Or.inr h
  generalize hAe : z_A (shC c, ad, I, JX, PC c ad) s.heap.size = A at *
  have hS : va_S A s.heap s.heap [] := va_S.rf
  have hl : lv_has ls 4 [(0, .ref (ad 0)), (1, .int a1), (2, .int a2), (3, .int a3)] := hl
  refine lv_aload_n hx hb dX11_road_0 rfl (lv_at hl 0 rfl) ?_
  refine z_get (T := TX11) (N := 13) (ci := 11) (i := 0) (v := .ref (ad 41)) hx hb hts zj_X11_road_X11 hown hK hW rfl rfl 10 (by decide) (hts (.fieldLink RX11 61 "PetrolBoard" "loads" "LPetrolBoard$Loads;") (me_s (me_l (me_l (List.mem_of_getElem? (i := 0) rfl))))) (fun _ h => h) rfl dX11_road_1 ?_
  refine lv_iload_n hx hb dX11_road_4 rfl (lv_at hl 1 rfl) ?_
  refine z_ci hW hS hA (va_runV (As := [.int a1]) (rest := []) ⟨hx, hb, hml, hown, hts⟩ (sx_X4_hasPort_e l G ad c I (by show 0 ≤ (I 41 10).toInt ∧ (I 41 10).toInt ≤ 4; exact hL) a1 _) (cwV 1 hts gX11_road_X4_hasPort rfl rfl rfl (by decide +kernel) ⟨Nat.le_of_ble_eq_true rfl, Nat.le_of_ble_eq_true rfl⟩) (z_preV (i := 41) hK hW rfl rfl) rfl rfl hl.1 rfl (lv_room (Nat.le_of_ble_eq_true rfl)) dX11_road_5 ⟨Nat.le_of_ble_eq_true rfl, Nat.le_of_ble_eq_true rfl⟩) (fun r u1 H locs hp hW hS => ?_)
  obtain ⟨e9, hp⟩ := hp
  rw [e9] at hW
  rcases hp with ⟨rfl, h1⟩ | ⟨rfl, h1⟩
  · have h2 := h1
    have r3 : 0 ≤ (I 41 10).toInt ∧ (I 41 10).toInt ≤ 4 := hL
    refine lv_if_eq (tgt := 30) hx hb dX11_road_8 (by decide) (fun c4 => absurd c4 (by decide)) (fun c4 => ?_)
    refine lv_aload_n hx hb dX11_road_11 rfl (lv_at hl 0 rfl) ?_
    refine lv_iload_n hx hb dX11_road_12 rfl (lv_at hl 2 rfl) ?_
    refine z_ci hW hS hA (va_runV (As := [.int a2]) (rest := []) ⟨hx, hb, hml, hown, hts⟩ (sx_X11_hasStation_e l G ad c I ⟨(by show 0 ≤ (I 0 0).toInt ∧ (I 0 0).toInt ≤ 719; exact hB.1), (by show 0 ≤ (I 0 8).toInt ∧ (I 0 8).toInt ≤ 10; exact hB.2)⟩ a2 hc h10 _) (cwV 1 hts gX11_road_X11_hasStation rfl rfl rfl (by decide +kernel) ⟨Nat.le_of_ble_eq_true rfl, Nat.le_of_ble_eq_true rfl⟩) (z_preV (i := 0) hK hW rfl rfl) rfl rfl hl.1 rfl (lv_room (Nat.le_of_ble_eq_true rfl)) dX11_road_13 ⟨Nat.le_of_ble_eq_true rfl, Nat.le_of_ble_eq_true rfl⟩) (fun r u1 H locs hp hW hS => ?_)
    obtain ⟨e9, hp⟩ := hp
    rw [e9] at hW
    rcases hp with ⟨rfl, h5⟩ | ⟨rfl, h5⟩
    · have h6 := h5
      have r7 : 0 ≤ (I 0 8).toInt ∧ (I 0 8).toInt ≤ 10 := hB.2
      refine lv_if_eq (tgt := 30) hx hb dX11_road_16 (by decide) (fun c8 => absurd c8 (by decide)) (fun c8 => ?_)
      refine lv_iload_n hx hb dX11_road_19 rfl (lv_at hl 3 rfl) ?_
      refine lv_iconst (v := 0) hx hb dX11_road_20 (by decide) ?_
      refine lv_sipush (v := 999) hx hb dX11_road_21 (by decide) ?_
      refine z_ci hW hS hA (va_runS (As := [.int a3, .int 0, .int 999]) (rest := []) ⟨hx, hb, hml, hown, hts⟩ (sx_X11_within_e l G ad c I  a3 0 999 _) (va_cwS 3 hts gX11_road_X11_within rfl rfl rfl (by decide +kernel) ⟨Nat.le_of_ble_eq_true rfl, Nat.le_of_ble_eq_true rfl⟩) (z_preS hK hW) rfl rfl hl.1 rfl (lv_room (Nat.le_of_ble_eq_true rfl)) dX11_road_24 ⟨Nat.le_of_ble_eq_true rfl, Nat.le_of_ble_eq_true rfl⟩) (fun r u1 H locs hp hW hS => ?_)
      obtain ⟨e9, hp⟩ := hp
      rw [e9] at hW
      rcases hp with ⟨rfl, h9⟩ | ⟨rfl, h9⟩
      · have h11 := h9
        have z12 := z_l0
        have z13 := z_l999
        refine lv_if_ne (tgt := 32) hx hb dX11_road_27 (by decide) (fun c14 => ?_) (fun c14 => absurd c14 (by decide))
        refine lv_aload_n hx hb dX11_road_32 rfl (lv_at hl 0 rfl) ?_
        refine z_get (T := TX11) (N := 13) (ci := 11) (i := 0) (v := .ref (ad 41)) hx hb hts zj_X11_road_X11 hown hK hW rfl rfl 10 (by decide) (hts (.fieldLink RX11 61 "PetrolBoard" "loads" "LPetrolBoard$Loads;") (me_s (me_l (me_l (List.mem_of_getElem? (i := 0) rfl))))) (fun _ h => h) rfl dX11_road_33 ?_
        refine lv_iload_n hx hb dX11_road_36 rfl (lv_at hl 1 rfl) ?_
        refine lv_iload_n hx hb dX11_road_37 rfl (lv_at hl 2 rfl) ?_
        refine lv_iload_n hx hb dX11_road_38 rfl (lv_at hl 3 rfl) ?_
        refine z_cv hW hS hA (va_runV (As := [.int a1, .int a2, .int a3]) (rest := []) ⟨hx, hb, hml, hown, hts⟩ (sx_X4_putRoad_k l G ad c I (by show 0 ≤ (I 41 10).toInt ∧ (I 41 10).toInt ≤ 4; exact hL) a1 a2 a3 (by omega) (by omega) _) (cwV 3 hts gX11_road_X4_putRoad rfl rfl rfl (by decide +kernel) ⟨Nat.le_of_ble_eq_true rfl, Nat.le_of_ble_eq_true rfl⟩) (z_preV (i := 41) hK hW rfl rfl) rfl rfl hl.1 rfl (lv_room (Nat.le_of_ble_eq_true rfl)) dX11_road_39 ⟨Nat.le_of_ble_eq_true rfl, Nat.le_of_ble_eq_true rfl⟩) (fun u1 H locs hp hW hS => ?_)
        obtain ⟨I15, e9, hI15L, fI15, hp⟩ := hp
        rw [e9] at hW
        have f16 := z_fr_sub (L := L_X11_road_k) z_fr_0 fI15 (by decide)
        have k17 : 0 ≤ (I15 0 0).toInt ∧ (I15 0 0).toInt ≤ 719 := by rw [fI15 0 0 (by decide)]; exact (by show 0 ≤ (I 0 0).toInt ∧ (I 0 0).toInt ≤ 719; exact hB.1)
        have k18 : 0 ≤ (I15 0 8).toInt ∧ (I15 0 8).toInt ≤ 10 := by rw [fI15 0 8 (by decide)]; exact (by show 0 ≤ (I 0 8).toInt ∧ (I 0 8).toInt ≤ 10; exact hB.2)
        have k19 : (I15 0 8).toInt = (I 0 8).toInt := by rw [fI15 0 8 (by decide)]
        have k20 : (I15 41 10).toInt = (I 41 10).toInt := by rw [fI15 41 10 (by decide)]
        have hR21 := hp
        refine lv_iconst (v := 1) hx hb dX11_road_42 (by decide) ?_
        exact z_zret hx hb hr (by decide) hK hS (Nat.le_of_ble_eq_true rfl) (Nat.le_of_ble_eq_true rfl) hlocks dX11_road_43 (shC c, ad, I15, JX, PC c ad) hW ⟨I15, rfl, ⟨(by show 0 ≤ (I15 0 0).toInt ∧ (I15 0 0).toInt ≤ 719; exact k17), (by show 0 ≤ (I15 0 8).toInt ∧ (I15 0 8).toInt ≤ 10; exact k18)⟩, (by show 0 ≤ (I15 41 10).toInt ∧ (I15 41 10).toInt ≤ 4; exact hI15L), f16, (Or.inl ⟨rfl, by omega, hR21⟩)⟩
      · have h22 := h9
        have z23 := z_l0
        have z24 := z_l999
        refine lv_if_ne (tgt := 32) hx hb dX11_road_27 (by decide) (fun c25 => absurd (by decide) c25) (fun c25 => ?_)
        refine lv_iconst (v := 0) hx hb dX11_road_30 (by decide) ?_
        exact z_zret hx hb hr (by decide) hK hS (Nat.le_of_ble_eq_true rfl) (Nat.le_of_ble_eq_true rfl) hlocks dX11_road_31 (shC c, ad, I, JX, PC c ad) hW ⟨I, rfl, ⟨(by show 0 ≤ (I 0 0).toInt ∧ (I 0 0).toInt ≤ 719; exact hB.1), (by show 0 ≤ (I 0 8).toInt ∧ (I 0 8).toInt ≤ 10; exact hB.2)⟩, (by show 0 ≤ (I 41 10).toInt ∧ (I 41 10).toInt ≤ 4; exact hL), z_fr_0, (Or.inr ⟨rfl, by omega, (fun _ _ _ => rfl)⟩)⟩
    · have h26 := h5
      have r27 : 0 ≤ (I 0 8).toInt ∧ (I 0 8).toInt ≤ 10 := hB.2
      refine lv_if_eq (tgt := 30) hx hb dX11_road_16 (by decide) (fun c28 => ?_) (fun c28 => absurd (by decide) c28)
      refine lv_iconst (v := 0) hx hb dX11_road_30 (by decide) ?_
      exact z_zret hx hb hr (by decide) hK hS (Nat.le_of_ble_eq_true rfl) (Nat.le_of_ble_eq_true rfl) hlocks dX11_road_31 (shC c, ad, I, JX, PC c ad) hW ⟨I, rfl, ⟨(by show 0 ≤ (I 0 0).toInt ∧ (I 0 0).toInt ≤ 719; exact hB.1), (by show 0 ≤ (I 0 8).toInt ∧ (I 0 8).toInt ≤ 10; exact hB.2)⟩, (by show 0 ≤ (I 41 10).toInt ∧ (I 41 10).toInt ≤ 4; exact hL), z_fr_0, (Or.inr ⟨rfl, by omega, (fun _ _ _ => rfl)⟩)⟩
  · have h29 := h1
    have r30 : 0 ≤ (I 41 10).toInt ∧ (I 41 10).toInt ≤ 4 := hL
    refine lv_if_eq (tgt := 30) hx hb dX11_road_8 (by decide) (fun c31 => ?_) (fun c31 => absurd (by decide) c31)
    refine lv_iconst (v := 0) hx hb dX11_road_30 (by decide) ?_
    exact z_zret hx hb hr (by decide) hK hS (Nat.le_of_ble_eq_true rfl) (Nat.le_of_ble_eq_true rfl) hlocks dX11_road_31 (shC c, ad, I, JX, PC c ad) hW ⟨I, rfl, ⟨(by show 0 ≤ (I 0 0).toInt ∧ (I 0 0).toInt ≤ 719; exact hB.1), (by show 0 ≤ (I 0 8).toInt ∧ (I 0 8).toInt ≤ 10; exact hB.2)⟩, (by show 0 ≤ (I 41 10).toInt ∧ (I 41 10).toInt ≤ 4; exact hL), z_fr_0, (Or.inr ⟨rfl, by omega, (fun _ _ _ => rfl)⟩)⟩
noncomputable def L_X12_want_k : z_L := [(53, 999)]
set_option maxHeartbeats 8000000 in
set_option maxRecDepth 100000 in
theorem sx_X12_want_k (l : Launch) (G : z_G) (ad : Nat → Nat) (I : z_I) (J : z_J) (hms : z_ims I) (hAwt : z_rg 53 0 20 I) (a1 : Int32) (a2 : Int32) : z_M l yX12_want wsX12_want { frames := 2, cells := 0, slots := 0, locals := 34 } [.ref (ad 0), .int a1, .int a2] G (shM, ad, I, J, PM ad) (fun r u1 => ∃ (I1 : z_I) (J1 : z_J), u1 = (shM, ad, I1, J1, PM ad) ∧ z_ims I1 ∧ z_rg 53 0 20 I1 ∧ z_fr L_X12_want_k I1 I ∧ ((r = 1 ∧ (0 ≤ a1.toInt ∧ a1.toInt < (I 0 54).toInt ∧ 0 ≤ a2.toInt ∧ a2.toInt ≤ 20) ∧ zy_wr1 53 I1 I a1.toNatClampNeg a2) ∨ (r = 0 ∧ ¬ (0 ≤ a1.toInt ∧ a1.toInt < (I 0 54).toInt ∧ 0 ≤ a2.toInt ∧ a2.toInt ≤ 20) ∧ zy_wr0 53 I1 I))) 0 0 := by
  intro sz
  refine z_headQ (cc := cX12_want) (maxL := 3) (ret := (some .boolean)) (by decide) rfl (Nat.le_of_ble_eq_true rfl) ?_
  intro p e s m below meth c0 ls hIn hK hsz hW hl
  obtain ⟨hx, hb, hr, hml, hown, hts, hlocks, hname⟩ := hIn
  subst hsz
  have hown : s.vm.findClass RX12 = some m.cls := hown
  have hA : ∀ q : Nat, s.heap.size ≤ q → z_A (shM, ad, I, J, PM ad) s.heap.size q := fun q h => Or.inr h
  generalize hAe : z_A (shM, ad, I, J, PM ad) s.heap.size = A at *
  have hS : va_S A s.heap s.heap [] := va_S.rf
  have hl : lv_has ls 3 [(0, .ref (ad 0)), (1, .int a1), (2, .int a2)] := hl
  refine lv_aload_n hx hb dX12_want_0 rfl (lv_at hl 0 rfl) ?_
  refine lv_iload_n hx hb dX12_want_1 rfl (lv_at hl 1 rfl) ?_
  refine z_ci hW hS hA (va_runV (As := [.int a1]) (rest := []) ⟨hx, hb, hml, hown, hts⟩ (sx_X12_isStation_e l G ad I J ⟨(by show 0 ≤ (I 0 54).toInt ∧ (I 0 54).toInt ≤ 10; exact hms.1), (by show 0 ≤ (I 0 55).toInt ∧ (I 0 55).toInt ≤ 300; exact hms.2)⟩ a1 _) (cwV 1 hts gX12_want_X12_isStation rfl rfl rfl (by decide +kernel) ⟨Nat.le_of_ble_eq_true rfl, Nat.le_of_ble_eq_true rfl⟩) (z_preV (i := 0) hK hW rfl rfl) rfl rfl hl.1 rfl (lv_room (Nat.le_of_ble_eq_true rfl)) dX12_want_2 ⟨Nat.le_of_ble_eq_true rfl, Nat.le_of_ble_eq_true rfl⟩) (fun r u1 H locs hp hW hS => ?_)
  obtain ⟨e9, hp⟩ := hp
  rw [e9] at hW
  rcases hp with ⟨rfl, h1⟩ | ⟨rfl, h1⟩
  · have h2 := h1
    have r3 : 0 ≤ (I 0 54).toInt ∧ (I 0 54).toInt ≤ 10 := hms.1
    refine lv_if_eq (tgt := 18) hx hb dX12_want_5 (by decide) (fun c4 => absurd c4 (by decide)) (fun c4 => ?_)
    refine lv_iload_n hx hb dX12_want_8 rfl (lv_at hl 2 rfl) ?_
    refine lv_iconst (v := 0) hx hb dX12_want_9 (by decide) ?_
    refine lv_bipush (v := 20) hx hb dX12_want_10 (by decide) ?_
    refine z_ci hW hS hA (va_runS (As := [.int a2, .int 0, .int 20]) (rest := []) ⟨hx, hb, hml, hown, hts⟩ (sx_X12_within_e l G ad I J  a2 0 20 _) (va_cwS 3 hts gX12_want_X12_within rfl rfl rfl (by decide +kernel) ⟨Nat.le_of_ble_eq_true rfl, Nat.le_of_ble_eq_true rfl⟩) (z_preS hK hW) rfl rfl hl.1 rfl (lv_room (Nat.le_of_ble_eq_true rfl)) dX12_want_12 ⟨Nat.le_of_ble_eq_true rfl, Nat.le_of_ble_eq_true rfl⟩) (fun r u1 H locs hp hW hS => ?_)
    obtain ⟨e9, hp⟩ := hp
    rw [e9] at hW
    rcases hp with ⟨rfl, h5⟩ | ⟨rfl, h5⟩
    · have h6 := h5
      have z7 := z_l0
      have z8 := z_l20
      refine lv_if_ne (tgt := 20) hx hb dX12_want_15 (by decide) (fun c9 => ?_) (fun c9 => absurd c9 (by decide))
      refine lv_aload_n hx hb dX12_want_20 rfl (lv_at hl 0 rfl) ?_
      refine z_get (T := TX12) (N := 96) (ci := 12) (i := 0) (v := .ref (ad 53)) hx hb hts zj_X12_want_X12 hown hK hW rfl rfl 77 (by decide) (hts (.fieldLink RX12 175 "PetrolBoardModel" "wantOf" "[I") (me_s (me_l (List.mem_of_getElem? (i := 0) rfl)))) (fun _ h => h) rfl dX12_want_21 ?_
      refine lv_iload_n hx hb dX12_want_24 rfl (lv_at hl 1 rfl) ?_
      refine lv_iload_n hx hb dX12_want_25 rfl (lv_at hl 2 rfl) ?_
      refine z_iast (i := 53) hx hb hK hW hS rfl (z_ix rfl (by omega) (by omega)) dX12_want_26 (fun H locs hz1 hW hS => ?_)
      obtain ⟨I10, eI10⟩ : ∃ K : z_I, K = z_up I 53 a1.toNatClampNeg a2 := ⟨_, rfl⟩
      rw [← eI10] at hW
      have f11 := z_fr_a z_fr_0 (show z_wa L_X12_want_k 53 = true by decide) eI10
      have a12 := z_rg_a hAwt (by omega) eI10
      refine lv_iconst (v := 1) hx hb dX12_want_27 (by decide) ?_
      exact z_zret hx hb hr (by decide) hK hS (Nat.le_of_ble_eq_true rfl) (Nat.le_of_ble_eq_true rfl) hlocks dX12_want_28 (shM, ad, I10, J, PM ad) hW ⟨I10, J, rfl, ⟨(by show 0 ≤ (I10 0 54).toInt ∧ (I10 0 54).toInt ≤ 10; rw [eI10, z_up_n (by decide)]; exact hms.1), (by show 0 ≤ (I10 0 55).toInt ∧ (I10 0 55).toInt ≤ 300; rw [eI10, z_up_n (by decide)]; exact hms.2)⟩, a12, f11, (Or.inl ⟨rfl, by omega, (fun j => by rw [eI10, z_up_j])⟩)⟩
    · have h13 := h5
      have z14 := z_l0
      have z15 := z_l20
      refine lv_if_ne (tgt := 20) hx hb dX12_want_15 (by decide) (fun c16 => absurd (by decide) c16) (fun c16 => ?_)
      refine lv_iconst (v := 0) hx hb dX12_want_18 (by decide) ?_
      exact z_zret hx hb hr (by decide) hK hS (Nat.le_of_ble_eq_true rfl) (Nat.le_of_ble_eq_true rfl) hlocks dX12_want_19 (shM, ad, I, J, PM ad) hW ⟨I, J, rfl, ⟨(by show 0 ≤ (I 0 54).toInt ∧ (I 0 54).toInt ≤ 10; exact hms.1), (by show 0 ≤ (I 0 55).toInt ∧ (I 0 55).toInt ≤ 300; exact hms.2)⟩, hAwt, z_fr_0, (Or.inr ⟨rfl, by omega, (fun j => rfl)⟩)⟩
  · have h17 := h1
    have r18 : 0 ≤ (I 0 54).toInt ∧ (I 0 54).toInt ≤ 10 := hms.1
    refine lv_if_eq (tgt := 18) hx hb dX12_want_5 (by decide) (fun c19 => ?_) (fun c19 => absurd (by decide) c19)
    refine lv_iconst (v := 0) hx hb dX12_want_18 (by decide) ?_
    exact z_zret hx hb hr (by decide) hK hS (Nat.le_of_ble_eq_true rfl) (Nat.le_of_ble_eq_true rfl) hlocks dX12_want_19 (shM, ad, I, J, PM ad) hW ⟨I, J, rfl, ⟨(by show 0 ≤ (I 0 54).toInt ∧ (I 0 54).toInt ≤ 10; exact hms.1), (by show 0 ≤ (I 0 55).toInt ∧ (I 0 55).toInt ≤ 300; exact hms.2)⟩, hAwt, z_fr_0, (Or.inr ⟨rfl, by omega, (fun j => rfl)⟩)⟩
noncomputable def L_X12_road_k : z_L := [(54, 999)]
set_option maxHeartbeats 8000000 in
set_option maxRecDepth 100000 in
theorem sx_X12_road_k (l : Launch) (G : z_G) (ad : Nat → Nat) (I : z_I) (J : z_J) (hms : z_ims I) (hmr : z_imr I) (hArd : z_rg 54 0 999 I) (a1 : Int32) (a2 : Int32) (a3 : Int32) : z_M l yX12_road wsX12_road { frames := 2, cells := 0, slots := 0, locals := 34 } [.ref (ad 0), .int a1, .int a2, .int a3] G (shM, ad, I, J, PM ad) (fun r u1 => ∃ (I1 : z_I) (J1 : z_J), u1 = (shM, ad, I1, J1, PM ad) ∧ z_ims I1 ∧ z_imr I1 ∧ z_rg 54 0 999 I1 ∧ z_fr L_X12_road_k I1 I ∧ ((r = 1 ∧ (0 ≤ a1.toInt ∧ a1.toInt < (I 0 75).toInt ∧ 0 ≤ a2.toInt ∧ a2.toInt < (I 0 54).toInt ∧ 0 ≤ a3.toInt ∧ a3.toInt ≤ 999) ∧ zy_wr1 54 I1 I (10 * a1.toNatClampNeg + a2.toNatClampNeg) a3) ∨ (r = 0 ∧ ¬ (0 ≤ a1.toInt ∧ a1.toInt < (I 0 75).toInt ∧ 0 ≤ a2.toInt ∧ a2.toInt < (I 0 54).toInt ∧ 0 ≤ a3.toInt ∧ a3.toInt ≤ 999) ∧ zy_wr0 54 I1 I))) 0 0 := by
  intro sz
  refine z_headQ (cc := cX12_road) (maxL := 4) (ret := (some .boolean)) (by decide) rfl (Nat.le_of_ble_eq_true rfl) ?_
  intro p e s m below meth c0 ls hIn hK hsz hW hl
  obtain ⟨hx, hb, hr, hml, hown, hts, hlocks, hname⟩ := hIn
  subst hsz
  have hown : s.vm.findClass RX12 = some m.cls := hown
  have hA : ∀ q : Nat, s.heap.size ≤ q → z_A (shM, ad, I, J, PM ad) s.heap.size q := fun q h => Or.inr h
  generalize hAe : z_A (shM, ad, I, J, PM ad) s.heap.size = A at *
  have hS : va_S A s.heap s.heap [] := va_S.rf
  have hl : lv_has ls 4 [(0, .ref (ad 0)), (1, .int a1), (2, .int a2), (3, .int a3)] := hl
  refine lv_iload_n hx hb dX12_road_0 rfl (lv_at hl 1 rfl) ?_
  refine lv_if_lt (tgt := 31) hx hb dX12_road_1 (by decide) (fun c1 => ?_) (fun c1 => ?_)
  · have g2 := z_f_lt rfl z_l0 c1
    have b3 := Int32.toInt_lt a1
    refine lv_iconst (v := 0) hx hb dX12_road_31 (by decide) ?_
    exact z_zret hx hb hr (by decide) hK hS (Nat.le_of_ble_eq_true rfl) (Nat.le_of_ble_eq_true rfl) hlocks dX12_road_32 (shM, ad, I, J, PM ad) hW ⟨I, J, rfl, ⟨(by show 0 ≤ (I 0 54).toInt ∧ (I 0 54).toInt ≤ 10; exact hms.1), (by show 0 ≤ (I 0 55).toInt ∧ (I 0 55).toInt ≤ 300; exact hms.2)⟩, (by show 0 ≤ (I 0 75).toInt ∧ (I 0 75).toInt ≤ 4; exact hmr), hArd, z_fr_0, (Or.inr ⟨rfl, by omega, (fun j => rfl)⟩)⟩
  · have g4 := z_f_nlt rfl z_l0 c1
    have b5 := Int32.toInt_lt a1
    refine lv_iload_n hx hb dX12_road_4 rfl (lv_at hl 1 rfl) ?_
    refine lv_aload_n hx hb dX12_road_5 rfl (lv_at hl 0 rfl) ?_
    have r6 : 0 ≤ (I 0 75).toInt ∧ (I 0 75).toInt ≤ 4 := hmr
    refine z_get (T := TX12) (N := 96) (ci := 12) (i := 0) (v := .int (I 0 75)) hx hb hts zj_X12_road_X12 hown hK hW rfl rfl 75 (by decide) (hts (.fieldLink RX12 493 "PetrolBoardModel" "ports" "I") (me_s (me_l (List.mem_of_getElem? (i := 0) rfl)))) (fun _ h => h) rfl dX12_road_6 ?_
    refine lv_icmp_ge (tgt := 31) hx hb dX12_road_9 (by decide) (fun c7 => ?_) (fun c7 => ?_)
    · have g8 := z_f_ge rfl rfl c7
      refine lv_iconst (v := 0) hx hb dX12_road_31 (by decide) ?_
      exact z_zret hx hb hr (by decide) hK hS (Nat.le_of_ble_eq_true rfl) (Nat.le_of_ble_eq_true rfl) hlocks dX12_road_32 (shM, ad, I, J, PM ad) hW ⟨I, J, rfl, ⟨(by show 0 ≤ (I 0 54).toInt ∧ (I 0 54).toInt ≤ 10; exact hms.1), (by show 0 ≤ (I 0 55).toInt ∧ (I 0 55).toInt ≤ 300; exact hms.2)⟩, (by show 0 ≤ (I 0 75).toInt ∧ (I 0 75).toInt ≤ 4; exact hmr), hArd, z_fr_0, (Or.inr ⟨rfl, by omega, (fun j => rfl)⟩)⟩
    · have g9 := z_f_nge rfl rfl c7
      refine lv_aload_n hx hb dX12_road_12 rfl (lv_at hl 0 rfl) ?_
      refine lv_iload_n hx hb dX12_road_13 rfl (lv_at hl 2 rfl) ?_
      refine z_ci hW hS hA (va_runV (As := [.int a2]) (rest := []) ⟨hx, hb, hml, hown, hts⟩ (sx_X12_isStation_e l G ad I J ⟨(by show 0 ≤ (I 0 54).toInt ∧ (I 0 54).toInt ≤ 10; exact hms.1), (by show 0 ≤ (I 0 55).toInt ∧ (I 0 55).toInt ≤ 300; exact hms.2)⟩ a2 _) (cwV 1 hts gX12_road_X12_isStation rfl rfl rfl (by decide +kernel) ⟨Nat.le_of_ble_eq_true rfl, Nat.le_of_ble_eq_true rfl⟩) (z_preV (i := 0) hK hW rfl rfl) rfl rfl hl.1 rfl (lv_room (Nat.le_of_ble_eq_true rfl)) dX12_road_14 ⟨Nat.le_of_ble_eq_true rfl, Nat.le_of_ble_eq_true rfl⟩) (fun r u1 H locs hp hW hS => ?_)
      obtain ⟨e9, hp⟩ := hp
      rw [e9] at hW
      rcases hp with ⟨rfl, h11⟩ | ⟨rfl, h11⟩
      · have h12 := h11
        have r13 : 0 ≤ (I 0 54).toInt ∧ (I 0 54).toInt ≤ 10 := hms.1
        refine lv_if_eq (tgt := 31) hx hb dX12_road_17 (by decide) (fun c14 => absurd c14 (by decide)) (fun c14 => ?_)
        refine lv_iload_n hx hb dX12_road_20 rfl (lv_at hl 3 rfl) ?_
        refine lv_iconst (v := 0) hx hb dX12_road_21 (by decide) ?_
        refine lv_sipush (v := 999) hx hb dX12_road_22 (by decide) ?_
        refine z_ci hW hS hA (va_runS (As := [.int a3, .int 0, .int 999]) (rest := []) ⟨hx, hb, hml, hown, hts⟩ (sx_X12_within_e l G ad I J  a3 0 999 _) (va_cwS 3 hts gX12_road_X12_within rfl rfl rfl (by decide +kernel) ⟨Nat.le_of_ble_eq_true rfl, Nat.le_of_ble_eq_true rfl⟩) (z_preS hK hW) rfl rfl hl.1 rfl (lv_room (Nat.le_of_ble_eq_true rfl)) dX12_road_25 ⟨Nat.le_of_ble_eq_true rfl, Nat.le_of_ble_eq_true rfl⟩) (fun r u1 H locs hp hW hS => ?_)
        obtain ⟨e9, hp⟩ := hp
        rw [e9] at hW
        rcases hp with ⟨rfl, h15⟩ | ⟨rfl, h15⟩
        · have h16 := h15
          have z17 := z_l0
          have z18 := z_l999
          refine lv_if_ne (tgt := 33) hx hb dX12_road_28 (by decide) (fun c19 => ?_) (fun c19 => absurd c19 (by decide))
          refine lv_aload_n hx hb dX12_road_33 rfl (lv_at hl 0 rfl) ?_
          refine z_get (T := TX12) (N := 96) (ci := 12) (i := 0) (v := .ref (ad 54)) hx hb hts zj_X12_road_X12 hown hK hW rfl rfl 78 (by decide) (hts (.fieldLink RX12 178 "PetrolBoardModel" "roadOf" "[I") (me_s (me_l (List.mem_of_getElem? (i := 1) rfl)))) (fun _ h => h) rfl dX12_road_34 ?_
          refine lv_bipush (v := 10) hx hb dX12_road_37 (by decide) ?_
          refine lv_iload_n hx hb dX12_road_39 rfl (lv_at hl 1 rfl) ?_
          refine lv_imul hx hb dX12_road_40 ?_
          refine lv_topi (fun x20 ex20 => ?_)
          have tx20 : x20.toInt = 10 * a1.toInt := z_tmul ex20 z_l10 rfl (by omega) (by omega)
          refine lv_iload_n hx hb dX12_road_41 rfl (lv_at hl 2 rfl) ?_
          refine lv_iadd hx hb dX12_road_42 ?_
          refine lv_topi (fun x21 ex21 => ?_)
          have tx21 : x21.toInt = x20.toInt + a2.toInt := z_tadd ex21 rfl rfl (by omega) (by omega)
          refine lv_iload_n hx hb dX12_road_43 rfl (lv_at hl 3 rfl) ?_
          refine z_iast (i := 54) hx hb hK hW hS rfl (z_ix rfl (by omega) (by omega)) dX12_road_44 (fun H locs hz1 hW hS => ?_)
          obtain ⟨I22, eI22⟩ : ∃ K : z_I, K = z_up I 54 x21.toNatClampNeg a3 := ⟨_, rfl⟩
          rw [← eI22] at hW
          have f23 := z_fr_a z_fr_0 (show z_wa L_X12_road_k 54 = true by decide) eI22
          have a24 := z_rg_a hArd (by omega) eI22
          refine lv_iconst (v := 1) hx hb dX12_road_45 (by decide) ?_
          exact z_zret hx hb hr (by decide) hK hS (Nat.le_of_ble_eq_true rfl) (Nat.le_of_ble_eq_true rfl) hlocks dX12_road_46 (shM, ad, I22, J, PM ad) hW ⟨I22, J, rfl, ⟨(by show 0 ≤ (I22 0 54).toInt ∧ (I22 0 54).toInt ≤ 10; rw [eI22, z_up_n (by decide)]; exact hms.1), (by show 0 ≤ (I22 0 55).toInt ∧ (I22 0 55).toInt ≤ 300; rw [eI22, z_up_n (by decide)]; exact hms.2)⟩, (by show 0 ≤ (I22 0 75).toInt ∧ (I22 0 75).toInt ≤ 4; rw [eI22, z_up_n (by decide)]; exact hmr), a24, f23, (Or.inl ⟨rfl, by omega, (fun j => by rw [eI22, z_up_j, show x21.toNatClampNeg = 10 * a1.toNatClampNeg + a2.toNatClampNeg from (by have c1 := z_clt (x := a1) rfl (by omega); have c2 := z_clt (x := a2) rfl (by omega); have c3 := z_clt (x := x21) rfl (by omega); omega)])⟩)⟩
        · have h25 := h15
          have z26 := z_l0
          have z27 := z_l999
          refine lv_if_ne (tgt := 33) hx hb dX12_road_28 (by decide) (fun c28 => absurd (by decide) c28) (fun c28 => ?_)
          refine lv_iconst (v := 0) hx hb dX12_road_31 (by decide) ?_
          exact z_zret hx hb hr (by decide) hK hS (Nat.le_of_ble_eq_true rfl) (Nat.le_of_ble_eq_true rfl) hlocks dX12_road_32 (shM, ad, I, J, PM ad) hW ⟨I, J, rfl, ⟨(by show 0 ≤ (I 0 54).toInt ∧ (I 0 54).toInt ≤ 10; exact hms.1), (by show 0 ≤ (I 0 55).toInt ∧ (I 0 55).toInt ≤ 300; exact hms.2)⟩, (by show 0 ≤ (I 0 75).toInt ∧ (I 0 75).toInt ≤ 4; exact hmr), hArd, z_fr_0, (Or.inr ⟨rfl, by omega, (fun j => rfl)⟩)⟩
      · have h29 := h11
        have r30 : 0 ≤ (I 0 54).toInt ∧ (I 0 54).toInt ≤ 10 := hms.1
        refine lv_if_eq (tgt := 31) hx hb dX12_road_17 (by decide) (fun c31 => ?_) (fun c31 => absurd (by decide) c31)
        refine lv_iconst (v := 0) hx hb dX12_road_31 (by decide) ?_
        exact z_zret hx hb hr (by decide) hK hS (Nat.le_of_ble_eq_true rfl) (Nat.le_of_ble_eq_true rfl) hlocks dX12_road_32 (shM, ad, I, J, PM ad) hW ⟨I, J, rfl, ⟨(by show 0 ≤ (I 0 54).toInt ∧ (I 0 54).toInt ≤ 10; exact hms.1), (by show 0 ≤ (I 0 55).toInt ∧ (I 0 55).toInt ≤ 300; exact hms.2)⟩, (by show 0 ≤ (I 0 75).toInt ∧ (I 0 75).toInt ≤ 4; exact hmr), hArd, z_fr_0, (Or.inr ⟨rfl, by omega, (fun j => rfl)⟩)⟩
