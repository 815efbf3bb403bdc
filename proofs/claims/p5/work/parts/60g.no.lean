

/-! which CLASS the NOTES tell: both sides' ways, as functions of the rows -/
theorem z_wr_d {L : z_L} {c k : Nat} (hc : c < 100) (hL : L.all (fun e => e.1 != c) = true) : z_wr L c k = false := by
  cases hq : z_wr L c k with
  | false => rfl
  | true =>
    exfalso
    unfold z_wr at hq
    rw [List.any_eq_true] at hq
    obtain ⟨e, he, h2⟩ := hq
    rw [List.all_eq_true] at hL
    have h3 := hL e he
    simp only [z_ce, Bool.and_eq_true, Bool.or_eq_true, beq_iff_eq, decide_eq_true_eq, bne_iff_ne, ne_eq] at h2 h3
    omega
theorem z_up_j {α : Type} {f : Nat → Nat → α} {c k j : Nat} {v : α} : z_up f c k v c j = if j = k then v else f c j := by simp [z_up]
/-- the rows of NOTES are the same on both sides -/
noncomputable def z_RN (Ix Im : z_I) : Prop := ∀ j : Nat, (j : Int) < (Ix 1 11).toInt → Ix 7 j = Im 6 j ∧ Ix 8 j = Im 7 j ∧ Ix 9 j = Im 8 j ∧ Ix 10 j = Im 9 j ∧ 0 ≤ (Ix 9 j).toInt ∧ ((Im 10 j).toInt < 0 ∧ (Ix 11 j).toInt = 720 ∨ 0 ≤ (Im 10 j).toInt ∧ (Im 10 j).toInt ≤ 719 ∧ Ix 11 j = Im 10 j)
noncomputable def z_nrX (I1 I : z_I) (n : Nat) (w k f t : Int32) : Prop := (∀ j, I1 7 j = if j = n then w else I 7 j) ∧ (∀ j, I1 8 j = if j = n then k else I 8 j) ∧ (∀ j, I1 9 j = if j = n then f else I 9 j) ∧ (∀ j, I1 10 j = if j = n then t else I 10 j) ∧ ∀ j, I1 11 j = if j = n then 720 else I 11 j
noncomputable def z_nrM (I1 I : z_I) (n : Nat) (w k f t : Int32) : Prop := (∀ j, I1 6 j = if j = n then w else I 6 j) ∧ (∀ j, I1 7 j = if j = n then k else I 7 j) ∧ (∀ j, I1 8 j = if j = n then f else I 8 j) ∧ (∀ j, I1 9 j = if j = n then t else I 9 j) ∧ ∀ j, I1 10 j = if j = n then -1 else I 10 j
noncomputable def z_nsX (I1 I : z_I) : Prop := ∀ j, I1 7 j = I 7 j ∧ I1 8 j = I 8 j ∧ I1 9 j = I 9 j ∧ I1 10 j = I 10 j ∧ I1 11 j = I 11 j
noncomputable def z_nsM (I1 I : z_I) : Prop := ∀ j, I1 6 j = I 6 j ∧ I1 7 j = I 7 j ∧ I1 8 j = I 8 j ∧ I1 9 j = I 9 j ∧ I1 10 j = I 10 j
theorem z_RN_same {Ix Im Ix1 Im1 : z_I} (h : z_RN Ix Im) (eN : (Ix1 1 11).toInt = (Ix 1 11).toInt) (hx : z_nsX Ix1 Ix) (hm : z_nsM Im1 Im) : z_RN Ix1 Im1 := fun j hj => by
  obtain ⟨a1, a2, a3, a4, a5⟩ := hx j
  obtain ⟨b1, b2, b3, b4, b5⟩ := hm j
  rw [a1, a2, a3, a4, a5, b1, b2, b3, b4, b5]
  exact h j (by omega)
theorem z_RN_note {Ix Im Ix1 Im1 : z_I} {n n1 : Nat} {w k f t w1 k1 f1 t1 : Int32} (h : z_RN Ix Im) (eN : (Ix1 1 11).toInt = (Ix 1 11).toInt + 1) (en : (n : Int) = (Ix 1 11).toInt) (en1 : n1 = n) (hx : z_nrX Ix1 Ix n w k f t) (hm : z_nrM Im1 Im n1 w1 k1 f1 t1) (ew : w1 = w) (ek : k1 = k) (ef : f1 = f) (et : t1 = t) (hf : 0 ≤ f.toInt) : z_RN Ix1 Im1 := fun j hj => by
  subst en1 ew ek ef et
  obtain ⟨a1, a2, a3, a4, a5⟩ := hx
  obtain ⟨b1, b2, b3, b4, b5⟩ := hm
  rw [a1, a2, a3, a4, a5, b1, b2, b3, b4, b5]
  by_cases q : j = n1
  · simp only [if_pos q]
    exact ⟨trivial, trivial, trivial, trivial, hf, Or.inl ⟨by decide, by decide⟩⟩
  · simp only [if_neg q]
    exact h j (by omega)
theorem z_RN_undo {Ix Im Ix1 Im1 : z_I} {n n1 : Nat} {t t1 : Int32} (h : z_RN Ix Im) (eN : (Ix1 1 11).toInt = (Ix 1 11).toInt) (en1 : n1 = n) (hx : ∀ j, Ix1 7 j = Ix 7 j ∧ Ix1 8 j = Ix 8 j ∧ Ix1 9 j = Ix 9 j ∧ Ix1 10 j = Ix 10 j) (hx5 : ∀ j, Ix1 11 j = if j = n then t else Ix 11 j) (hm : ∀ j, Im1 6 j = Im 6 j ∧ Im1 7 j = Im 7 j ∧ Im1 8 j = Im 8 j ∧ Im1 9 j = Im 9 j) (hm5 : ∀ j, Im1 10 j = if j = n1 then t1 else Im 10 j) (et : t1 = t) (ht : 0 ≤ t.toInt ∧ t.toInt ≤ 719) : z_RN Ix1 Im1 := fun j hj => by
  subst en1 et
  obtain ⟨a1, a2, a3, a4⟩ := hx j
  obtain ⟨b1, b2, b3, b4⟩ := hm j
  rw [a1, a2, a3, a4, hx5, b1, b2, b3, b4, hm5]
  by_cases q : j = n1
  · simp only [if_pos q]
    obtain ⟨e1, e2, e3, e4, e5, e6⟩ := h j (by omega)
    exact ⟨e1, e2, e3, e4, e5, Or.inr ⟨ht.1, ht.2, trivial⟩⟩
  · simp only [if_neg q]
    exact h j (by omega)
theorem z_RN_uc {Ix Im : z_I} (h : z_RN Ix Im) {x : Int32} (eN : (Ix 1 11).toInt = (Im 0 2).toInt) : (0 ≤ x.toInt ∧ x.toInt < (Ix 1 11).toInt ∧ 720 ≤ (Ix 11 x.toNatClampNeg).toInt) ↔ (0 ≤ x.toInt ∧ x.toInt < (Im 0 2).toInt ∧ (Im 10 x.toNatClampNeg).toInt < 0) := by
  by_cases q : 0 ≤ x.toInt ∧ x.toInt < (Ix 1 11).toInt
  · obtain ⟨e1, e2, e3, e4, e5, e6⟩ := h x.toNatClampNeg (by show ((x.toInt.toNat : Nat) : Int) < _; omega)
    rcases e6 with ⟨q1, q2⟩ | ⟨q1, q2, q3⟩
    · omega
    · rw [q3]; omega
  · omega
noncomputable def L_X2_addNote_r : z_L := [(7, 999), (8, 999), (9, 999), (10, 999), (11, 999), (1, 11)]
set_option maxHeartbeats 8000000 in
set_option maxRecDepth 100000 in
theorem sx_X2_addNote_r (l : Launch) (G : z_G) (ad : Nat → Nat) (c : z_C) (I : z_I) (hH : z_iH I) (a1 : Int32) (a2 : Int32) (a3 : Int32) (a4 : Int32) : z_M l yX2_addNote wsX2_addNote { frames := 1, cells := 0, slots := 0, locals := 12 } [.ref (ad 1), .int a1, .int a2, .int a3, .int a4] G (shC c, ad, I, JX, PC c ad) (fun r u1 => ∃ I1 : z_I, u1 = (shC c, ad, I1, JX, PC c ad) ∧ z_iH I1 ∧ z_fr L_X2_addNote_r I1 I ∧ ((((I 1 11).toInt < 200) ∧ r.toInt = (I 1 11).toInt ∧ (I1 1 11).toInt = (I 1 11).toInt + 1 ∧ z_nrX I1 I (I 1 11).toNatClampNeg a1 a2 a3 a4) ∨ (¬ ((I 1 11).toInt < 200) ∧ r.toInt = -1 ∧ (I1 1 11).toInt = (I 1 11).toInt ∧ z_nsX I1 I))) 0 0 := by
  intro sz
  refine z_headQ (cc := cX2_addNote) (maxL := 5) (ret := (some .int)) (by decide) rfl (Nat.le_of_ble_eq_true rfl) ?_
  intro p e s m below meth c0 ls hIn hK hsz hW hl
  obtain ⟨hx, hb, hr, hml, hown, hts, hlocks, hname⟩ := hIn
  subst hsz
  have hown : s.vm.findClass RX2 = some m.cls := hown
  have hA : ∀ q : Nat, s.heap.size ≤ q → z_A (shC c, ad, I, JX, PC c ad) s.heap.size q := fun q h => Or.inr h
  generalize hAe : z_A (shC c, ad, I, JX, PC c ad) s.heap.size = A at *
  have hS : va_S A s.heap s.heap [] := va_S.rf
  have hl : lv_has ls 5 [(0, .ref (ad 1)), (1, .int a1), (2, .int a2), (3, .int a3), (4, .int a4)] := hl
  refine lv_aload_n hx hb dX2_addNote_0 rfl (lv_at hl 0 rfl) ?_
  have r1 : 0 ≤ (I 1 11).toInt ∧ (I 1 11).toInt ≤ 200 := hH.2
  refine z_get (T := TX2) (N := 12) (ci := 2) (i := 1) (v := .int (I 1 11)) hx hb hts zj_X2_addNote_X2 hown hK hW rfl rfl 11 (by decide) (hts (.fieldLink RX2 46 "PetrolBoard$Holders" "notes" "I") (me_s (me_l (List.mem_of_getElem? (i := 0) rfl)))) (fun _ h => h) rfl dX2_addNote_1 ?_
  refine lv_sipush (v := 200) hx hb dX2_addNote_4 (by decide) ?_
  refine lv_icmp_lt (tgt := 12) hx hb dX2_addNote_7 (by decide) (fun c2 => ?_) (fun c2 => ?_)
  · have g3 := z_f_lt rfl z_l200 c2
    refine lv_aload_n hx hb dX2_addNote_12 rfl (lv_at hl 0 rfl) ?_
    refine z_get (T := TX2) (N := 12) (ci := 2) (i := 1) (v := .ref (ad 7)) hx hb hts zj_X2_addNote_X2 hown hK hW rfl rfl 6 (by decide) (hts (.fieldLink RX2 27 "PetrolBoard$Holders" "noteOf" "[I") (me_s (me_l (List.mem_of_getElem? (i := 1) rfl)))) (fun _ h => h) rfl dX2_addNote_13 ?_
    refine lv_aload_n hx hb dX2_addNote_16 rfl (lv_at hl 0 rfl) ?_
    refine z_get (T := TX2) (N := 12) (ci := 2) (i := 1) (v := .int (I 1 11)) hx hb hts zj_X2_addNote_X2 hown hK hW rfl rfl 11 (by decide) (hts (.fieldLink RX2 46 "PetrolBoard$Holders" "notes" "I") (me_s (me_l (List.mem_of_getElem? (i := 0) rfl)))) (fun _ h => h) rfl dX2_addNote_17 ?_
    refine lv_iload_n hx hb dX2_addNote_20 rfl (lv_at hl 1 rfl) ?_
    refine z_iast (i := 7) hx hb hK hW hS rfl (z_ix rfl (by omega) (by omega)) dX2_addNote_21 (fun H locs hz1 hW hS => ?_)
    obtain ⟨I4, eI4⟩ : ∃ K : z_I, K = z_up I 7 (I 1 11).toNatClampNeg a1 := ⟨_, rfl⟩
    rw [← eI4] at hW
    have f5 := z_fr_a z_fr_0 (show z_wa L_X2_addNote_r 7 = true by decide) eI4
    refine lv_aload_n hx hb dX2_addNote_22 rfl (lv_at hl 0 rfl) ?_
    refine z_get (T := TX2) (N := 12) (ci := 2) (i := 1) (v := .ref (ad 8)) hx hb hts zj_X2_addNote_X2 hown hK hW rfl rfl 7 (by decide) (hts (.fieldLink RX2 30 "PetrolBoard$Holders" "kind" "[I") (me_s (me_l (List.mem_of_getElem? (i := 2) rfl)))) (fun _ h => h) rfl dX2_addNote_23 ?_
    refine lv_aload_n hx hb dX2_addNote_26 rfl (lv_at hl 0 rfl) ?_
    refine z_get (T := TX2) (N := 12) (ci := 2) (i := 1) (v := .int (I 1 11)) hx hb hts zj_X2_addNote_X2 hown hK hW rfl rfl 11 (by decide) (hts (.fieldLink RX2 46 "PetrolBoard$Holders" "notes" "I") (me_s (me_l (List.mem_of_getElem? (i := 0) rfl)))) (fun _ h => h) (congrArg Value.int (by rw [eI4, z_up_n (by decide)])) dX2_addNote_27 ?_
    refine lv_iload_n hx hb dX2_addNote_30 rfl (lv_at hl 2 rfl) ?_
    refine z_iast (i := 8) hx hb hK hW hS rfl (z_ix rfl (by omega) (by omega)) dX2_addNote_31 (fun H locs hz1 hW hS => ?_)
    obtain ⟨I6, eI6⟩ : ∃ K : z_I, K = z_up I4 8 (I 1 11).toNatClampNeg a2 := ⟨_, rfl⟩
    rw [← eI6] at hW
    have f7 := z_fr_a f5 (show z_wa L_X2_addNote_r 8 = true by decide) eI6
    refine lv_aload_n hx hb dX2_addNote_32 rfl (lv_at hl 0 rfl) ?_
    refine z_get (T := TX2) (N := 12) (ci := 2) (i := 1) (v := .ref (ad 9)) hx hb hts zj_X2_addNote_X2 hown hK hW rfl rfl 8 (by decide) (hts (.fieldLink RX2 33 "PetrolBoard$Holders" "from" "[I") (me_s (me_l (List.mem_of_getElem? (i := 3) rfl)))) (fun _ h => h) rfl dX2_addNote_33 ?_
    refine lv_aload_n hx hb dX2_addNote_36 rfl (lv_at hl 0 rfl) ?_
    refine z_get (T := TX2) (N := 12) (ci := 2) (i := 1) (v := .int (I 1 11)) hx hb hts zj_X2_addNote_X2 hown hK hW rfl rfl 11 (by decide) (hts (.fieldLink RX2 46 "PetrolBoard$Holders" "notes" "I") (me_s (me_l (List.mem_of_getElem? (i := 0) rfl)))) (fun _ h => h) (congrArg Value.int (by rw [eI6, z_up_n (by decide), eI4, z_up_n (by decide)])) dX2_addNote_37 ?_
    refine lv_iload_n hx hb dX2_addNote_40 rfl (lv_at hl 3 rfl) ?_
    refine z_iast (i := 9) hx hb hK hW hS rfl (z_ix rfl (by omega) (by omega)) dX2_addNote_41 (fun H locs hz1 hW hS => ?_)
    obtain ⟨I8, eI8⟩ : ∃ K : z_I, K = z_up I6 9 (I 1 11).toNatClampNeg a3 := ⟨_, rfl⟩
    rw [← eI8] at hW
    have f9 := z_fr_a f7 (show z_wa L_X2_addNote_r 9 = true by decide) eI8
    refine lv_aload_n hx hb dX2_addNote_42 rfl (lv_at hl 0 rfl) ?_
    refine z_get (T := TX2) (N := 12) (ci := 2) (i := 1) (v := .ref (ad 10)) hx hb hts zj_X2_addNote_X2 hown hK hW rfl rfl 9 (by decide) (hts (.fieldLink RX2 36 "PetrolBoard$Holders" "toldOn" "[I") (me_s (me_l (List.mem_of_getElem? (i := 4) rfl)))) (fun _ h => h) rfl dX2_addNote_43 ?_
    refine lv_aload_n hx hb dX2_addNote_46 rfl (lv_at hl 0 rfl) ?_
    refine z_get (T := TX2) (N := 12) (ci := 2) (i := 1) (v := .int (I 1 11)) hx hb hts zj_X2_addNote_X2 hown hK hW rfl rfl 11 (by decide) (hts (.fieldLink RX2 46 "PetrolBoard$Holders" "notes" "I") (me_s (me_l (List.mem_of_getElem? (i := 0) rfl)))) (fun _ h => h) (congrArg Value.int (by rw [eI8, z_up_n (by decide), eI6, z_up_n (by decide), eI4, z_up_n (by decide)])) dX2_addNote_47 ?_
    refine lv_iload hx hb dX2_addNote_50 (lv_at hl 4 rfl) ?_
    refine z_iast (i := 10) hx hb hK hW hS rfl (z_ix rfl (by omega) (by omega)) dX2_addNote_52 (fun H locs hz1 hW hS => ?_)
    obtain ⟨I10, eI10⟩ : ∃ K : z_I, K = z_up I8 10 (I 1 11).toNatClampNeg a4 := ⟨_, rfl⟩
    rw [← eI10] at hW
    have f11 := z_fr_a f9 (show z_wa L_X2_addNote_r 10 = true by decide) eI10
    refine lv_aload_n hx hb dX2_addNote_53 rfl (lv_at hl 0 rfl) ?_
    refine z_get (T := TX2) (N := 12) (ci := 2) (i := 1) (v := .ref (ad 11)) hx hb hts zj_X2_addNote_X2 hown hK hW rfl rfl 10 (by decide) (hts (.fieldLink RX2 39 "PetrolBoard$Holders" "undoneOn" "[I") (me_s (me_l (List.mem_of_getElem? (i := 5) rfl)))) (fun _ h => h) rfl dX2_addNote_54 ?_
    refine lv_aload_n hx hb dX2_addNote_57 rfl (lv_at hl 0 rfl) ?_
    refine z_get (T := TX2) (N := 12) (ci := 2) (i := 1) (v := .int (I 1 11)) hx hb hts zj_X2_addNote_X2 hown hK hW rfl rfl 11 (by decide) (hts (.fieldLink RX2 46 "PetrolBoard$Holders" "notes" "I") (me_s (me_l (List.mem_of_getElem? (i := 0) rfl)))) (fun _ h => h) (congrArg Value.int (by rw [eI10, z_up_n (by decide), eI8, z_up_n (by decide), eI6, z_up_n (by decide), eI4, z_up_n (by decide)])) dX2_addNote_58 ?_
    refine lv_sipush (v := 720) hx hb dX2_addNote_61 (by decide) ?_
    refine z_iast (i := 11) hx hb hK hW hS rfl (z_ix rfl (by omega) (by omega)) dX2_addNote_64 (fun H locs hz1 hW hS => ?_)
    obtain ⟨I12, eI12⟩ : ∃ K : z_I, K = z_up I10 11 (I 1 11).toNatClampNeg 720 := ⟨_, rfl⟩
    rw [← eI12] at hW
    have f13 := z_fr_a f11 (show z_wa L_X2_addNote_r 11 = true by decide) eI12
    refine lv_aload_n hx hb dX2_addNote_65 rfl (lv_at hl 0 rfl) ?_
    refine lv_dup hx hb dX2_addNote_66 rfl ?_
    refine z_get (T := TX2) (N := 12) (ci := 2) (i := 1) (v := .int (I 1 11)) hx hb hts zj_X2_addNote_X2 hown hK hW rfl rfl 11 (by decide) (hts (.fieldLink RX2 46 "PetrolBoard$Holders" "notes" "I") (me_s (me_l (List.mem_of_getElem? (i := 0) rfl)))) (fun _ h => h) (congrArg Value.int (by rw [eI12, z_up_n (by decide), eI10, z_up_n (by decide), eI8, z_up_n (by decide), eI6, z_up_n (by decide), eI4, z_up_n (by decide)])) dX2_addNote_67 ?_
    refine lv_iconst (v := 1) hx hb dX2_addNote_70 (by decide) ?_
    refine lv_iadd hx hb dX2_addNote_71 ?_
    refine lv_topi (fun x14 ex14 => ?_)
    have tx14 : x14.toInt = (I 1 11).toInt + 1 := z_tadd ex14 rfl z_l1 (by omega) (by omega)
    refine z_put (T := TX2) (N := 12) (ci := 2) (i := 1) (v := .int x14) (I1 := z_up I12 1 11 x14) (J1 := JX) (P1 := PC c ad) hx hb hts zj_X2_addNote_X2 tyX2 tyX2_ok nmX2 hown hK hW hS rfl rfl 11 (by decide) (hts (.fieldLink RX2 46 "PetrolBoard$Holders" "notes" "I") (me_s (me_l (List.mem_of_getElem? (i := 0) rfl)))) (fun _ h => h) rfl rfl rfl (by first | rfl | exact congrArg _ z_up_s) (fun a b h ty => z_vI h ty) dX2_addNote_72 (fun H locs hz1 hW hS => ?_)
    obtain ⟨I15, eI15⟩ : ∃ K : z_I, K = z_up I12 1 11 x14 := ⟨_, rfl⟩
    rw [← eI15] at hW
    have f16 := z_fr_k f13 (show z_wr L_X2_addNote_r 1 11 = true by decide) eI15
    refine lv_aload_n hx hb dX2_addNote_75 rfl (lv_at hl 0 rfl) ?_
    refine z_get (T := TX2) (N := 12) (ci := 2) (i := 1) (v := .int x14) hx hb hts zj_X2_addNote_X2 hown hK hW rfl rfl 11 (by decide) (hts (.fieldLink RX2 46 "PetrolBoard$Holders" "notes" "I") (me_s (me_l (List.mem_of_getElem? (i := 0) rfl)))) (fun _ h => h) (congrArg Value.int (by rw [eI15, z_up_s])) dX2_addNote_76 ?_
    refine lv_iconst (v := 1) hx hb dX2_addNote_79 (by decide) ?_
    refine lv_isub hx hb dX2_addNote_80 ?_
    refine lv_topi (fun x17 ex17 => ?_)
    have tx17 : x17.toInt = x14.toInt - 1 := z_tsub ex17 rfl z_l1 (by omega) (by omega)
    exact z_iret hx hb hr hK hS (Nat.le_of_ble_eq_true rfl) (Nat.le_of_ble_eq_true rfl) hlocks dX2_addNote_81 (shC c, ad, I15, JX, PC c ad) hW ⟨I15, rfl, ⟨(by show 0 ≤ (I15 1 5).toInt ∧ (I15 1 5).toInt ≤ 30; rw [eI15, z_up_k (by decide), eI12, z_up_n (by decide), eI10, z_up_n (by decide), eI8, z_up_n (by decide), eI6, z_up_n (by decide), eI4, z_up_n (by decide)]; exact hH.1), (by show 0 ≤ (I15 1 11).toInt ∧ (I15 1 11).toInt ≤ 200; rw [eI15, z_up_s]; omega)⟩, f16, (Or.inl ⟨by omega, by omega, (by have q9 : (I15 1 11) = x14 := (by rw [eI15, z_up_s]); show (I15 1 11).toInt = (I 1 11).toInt + 1; rw [q9]; first | done | omega), ⟨(fun j => by rw [eI15, z_up_n (by decide), eI12, z_up_n (by decide), eI10, z_up_n (by decide), eI8, z_up_n (by decide), eI6, z_up_n (by decide), eI4, z_up_j]), (fun j => by rw [eI15, z_up_n (by decide), eI12, z_up_n (by decide), eI10, z_up_n (by decide), eI8, z_up_n (by decide), eI6, z_up_j, eI4, z_up_n (by decide)]), (fun j => by rw [eI15, z_up_n (by decide), eI12, z_up_n (by decide), eI10, z_up_n (by decide), eI8, z_up_j, eI6, z_up_n (by decide), eI4, z_up_n (by decide)]), (fun j => by rw [eI15, z_up_n (by decide), eI12, z_up_n (by decide), eI10, z_up_j, eI8, z_up_n (by decide), eI6, z_up_n (by decide), eI4, z_up_n (by decide)]), (fun j => by rw [eI15, z_up_n (by decide), eI12, z_up_j, eI10, z_up_n (by decide), eI8, z_up_n (by decide), eI6, z_up_n (by decide), eI4, z_up_n (by decide)])⟩⟩)⟩
  · have g18 := z_f_nlt rfl z_l200 c2
    refine lv_iconst (v := (-1)) hx hb dX2_addNote_10 (by decide) ?_
    exact z_iret hx hb hr hK hS (Nat.le_of_ble_eq_true rfl) (Nat.le_of_ble_eq_true rfl) hlocks dX2_addNote_11 (shC c, ad, I, JX, PC c ad) hW ⟨I, rfl, ⟨(by show 0 ≤ (I 1 5).toInt ∧ (I 1 5).toInt ≤ 30; exact hH.1), (by show 0 ≤ (I 1 11).toInt ∧ (I 1 11).toInt ≤ 200; exact hH.2)⟩, z_fr_0, (Or.inr ⟨by omega, by decide, (by show (I 1 11).toInt = (I 1 11).toInt; omega), (fun j => ⟨rfl, rfl, rfl, rfl, rfl⟩)⟩)⟩
noncomputable def L_X11_note_r : z_L := [(7, 999), (8, 999), (9, 999), (10, 999), (11, 999), (1, 11)]
set_option maxHeartbeats 8000000 in
set_option maxRecDepth 100000 in
theorem sx_X11_note_r (l : Launch) (G : z_G) (ad : Nat → Nat) (c : z_C) (I : z_I) (hB : z_iB I) (hH : z_iH I) (a1 : Int32) (a2 : Int32) (a3 : Int32) (hc : z_okc c) (h10 : c.1 ≤ 10) : z_M l yX11_note wsX11_note { frames := 3, cells := 0, slots := 0, locals := 54 } [.ref (ad 0), .int a1, .int a2, .int a3] G (shC c, ad, I, JX, PC c ad) (fun r u1 => ∃ I1 : z_I, u1 = (shC c, ad, I1, JX, PC c ad) ∧ z_iB I1 ∧ z_iH I1 ∧ z_fr L_X11_note_r I1 I ∧ (((0 ≤ a1.toInt ∧ a1.toInt < (I 1 5).toInt ∧ 0 ≤ a2.toInt ∧ a2.toInt ≤ 4 ∧ 0 ≤ a3.toInt ∧ a3.toInt ≤ 719 ∧ (I 1 11).toInt < 200) ∧ r.toInt = (I 1 11).toInt ∧ (I1 1 11).toInt = (I 1 11).toInt + 1 ∧ z_nrX I1 I (I 1 11).toNatClampNeg a1 a2 a3 (I 0 0)) ∨ (¬ (0 ≤ a1.toInt ∧ a1.toInt < (I 1 5).toInt ∧ 0 ≤ a2.toInt ∧ a2.toInt ≤ 4 ∧ 0 ≤ a3.toInt ∧ a3.toInt ≤ 719 ∧ (I 1 11).toInt < 200) ∧ r.toInt = -1 ∧ (I1 1 11).toInt = (I 1 11).toInt ∧ z_nsX I1 I))) 0 0 := by
  intro sz
  refine z_headQ (cc := cX11_note) (maxL := 4) (ret := (some .int)) (by decide) rfl (Nat.le_of_ble_eq_true rfl) ?_
  intro p e s m below meth c0 ls hIn hK hsz hW hl
  obtain ⟨hx, hb, hr, hml, hown, hts, hlocks, hname⟩ := hIn
  subst hsz
  have hown : s.vm.findClass RX11 = some m.cls := hown
  have hA : ∀ q : Nat, s.heap.size ≤ q → z_A (shC c, ad, I, JX, PC c ad) s.heap.size q := fun q h => Or.inr h
  generalize hAe : z_A (shC c, ad, I, JX, PC c ad) s.heap.size = A at *
  have hS : va_S A s.heap s.heap [] := va_S.rf
  have hl : lv_has ls 4 [(0, .ref (ad 0)), (1, .int a1), (2, .int a2), (3, .int a3)] := hl
  refine lv_aload_n hx hb dX11_note_0 rfl (lv_at hl 0 rfl) ?_
  refine z_get (T := TX11) (N := 13) (ci := 11) (i := 0) (v := .ref (ad 1)) hx hb hts zj_X11_note_X11 hown hK hW rfl rfl 2 (by decide) (hts (.fieldLink RX11 16 "PetrolBoard" "holders" "LPetrolBoard$Holders;") (me_s (me_l (me_l (me_l (List.mem_of_getElem? (i := 0) rfl)))))) (fun _ h => h) rfl dX11_note_1 ?_
  refine lv_iload_n hx hb dX11_note_4 rfl (lv_at hl 1 rfl) ?_
  refine z_ci hW hS hA (va_runV (As := [.int a1]) (rest := []) ⟨hx, hb, hml, hown, hts⟩ (sx_X2_has_e l G ad c I ⟨(by show 0 ≤ (I 1 5).toInt ∧ (I 1 5).toInt ≤ 30; exact hH.1), (by show 0 ≤ (I 1 11).toInt ∧ (I 1 11).toInt ≤ 200; exact hH.2)⟩ a1 _) (cwV 1 hts gX11_note_X2_has rfl rfl rfl hy_X2_has ⟨Nat.le_of_ble_eq_true rfl, Nat.le_of_ble_eq_true rfl⟩) (z_preV (i := 1) hK hW rfl rfl) rfl rfl hl.1 rfl (lv_room (Nat.le_of_ble_eq_true rfl)) dX11_note_5 ⟨Nat.le_of_ble_eq_true rfl, Nat.le_of_ble_eq_true rfl⟩) (fun r u1 H locs hp hW hS => ?_)
  obtain ⟨e9, hp⟩ := hp
  rw [e9] at hW
  rcases hp with ⟨rfl, h1⟩ | ⟨rfl, h1⟩
  · have h2 := h1
    have r3 : 0 ≤ (I 1 5).toInt ∧ (I 1 5).toInt ≤ 30 := hH.1
    refine lv_if_eq (tgt := 27) hx hb dX11_note_8 (by decide) (fun c4 => absurd c4 (by decide)) (fun c4 => ?_)
    refine lv_iload_n hx hb dX11_note_11 rfl (lv_at hl 2 rfl) ?_
    refine lv_iconst (v := 0) hx hb dX11_note_12 (by decide) ?_
    refine lv_iconst (v := 4) hx hb dX11_note_13 (by decide) ?_
    refine z_ci hW hS hA (va_runS (As := [.int a2, .int 0, .int 4]) (rest := []) ⟨hx, hb, hml, hown, hts⟩ (sx_X11_within_e l G ad c I  a2 0 4 _) (va_cwS 3 hts gX11_note_X11_within rfl rfl rfl hy_X11_within.2 ⟨Nat.le_of_ble_eq_true rfl, Nat.le_of_ble_eq_true rfl⟩) (z_preS hK hW) rfl rfl hl.1 rfl (lv_room (Nat.le_of_ble_eq_true rfl)) dX11_note_14 ⟨Nat.le_of_ble_eq_true rfl, Nat.le_of_ble_eq_true rfl⟩) (fun r u1 H locs hp hW hS => ?_)
    obtain ⟨e9, hp⟩ := hp
    rw [e9] at hW
    rcases hp with ⟨rfl, h5⟩ | ⟨rfl, h5⟩
    · have h6 := h5
      have z7 := z_l0
      have z8 := z_l4
      refine lv_if_eq (tgt := 27) hx hb dX11_note_17 (by decide) (fun c9 => absurd c9 (by decide)) (fun c9 => ?_)
      refine lv_iload_n hx hb dX11_note_20 rfl (lv_at hl 3 rfl) ?_
      refine z_ci hW hS hA (va_runS (As := [.int a3]) (rest := []) ⟨hx, hb, hml, hown, hts⟩ (sx_X11_isDay_e l G ad c I  a3 _) (va_cwS 1 hts gX11_note_X11_isDay rfl rfl rfl hy_X11_isDay.2 ⟨Nat.le_of_ble_eq_true rfl, Nat.le_of_ble_eq_true rfl⟩) (z_preS hK hW) rfl rfl hl.1 rfl (lv_room (Nat.le_of_ble_eq_true rfl)) dX11_note_21 ⟨Nat.le_of_ble_eq_true rfl, Nat.le_of_ble_eq_true rfl⟩) (fun r u1 H locs hp hW hS => ?_)
      obtain ⟨e9, hp⟩ := hp
      rw [e9] at hW
      rcases hp with ⟨rfl, h11⟩ | ⟨rfl, h11⟩
      · have h12 := h11
        refine lv_if_ne (tgt := 29) hx hb dX11_note_24 (by decide) (fun c13 => ?_) (fun c13 => absurd c13 (by decide))
        refine lv_aload_n hx hb dX11_note_29 rfl (lv_at hl 0 rfl) ?_
        refine z_get (T := TX11) (N := 13) (ci := 11) (i := 0) (v := .ref (ad 1)) hx hb hts zj_X11_note_X11 hown hK hW rfl rfl 2 (by decide) (hts (.fieldLink RX11 16 "PetrolBoard" "holders" "LPetrolBoard$Holders;") (me_s (me_l (me_l (me_l (List.mem_of_getElem? (i := 0) rfl)))))) (fun _ h => h) rfl dX11_note_30 ?_
        refine lv_iload_n hx hb dX11_note_33 rfl (lv_at hl 1 rfl) ?_
        refine lv_iload_n hx hb dX11_note_34 rfl (lv_at hl 2 rfl) ?_
        refine lv_iload_n hx hb dX11_note_35 rfl (lv_at hl 3 rfl) ?_
        refine lv_aload_n hx hb dX11_note_36 rfl (lv_at hl 0 rfl) ?_
        have r14 : 0 ≤ (I 0 0).toInt ∧ (I 0 0).toInt ≤ 719 := hB.1
        refine z_get (T := TX11) (N := 13) (ci := 11) (i := 0) (v := .int (I 0 0)) hx hb hts zj_X11_note_X11 hown hK hW rfl rfl 0 (by decide) (hts (.fieldLink RX11 85 "PetrolBoard" "today" "I") (me_s (me_l (me_l (me_l (List.mem_of_getElem? (i := 1) rfl)))))) (fun _ h => h) rfl dX11_note_37 ?_
        refine z_ci hW hS hA (va_runV (As := [.int a1, .int a2, .int a3, .int (I 0 0)]) (rest := []) ⟨hx, hb, hml, hown, hts⟩ (sx_X2_addNote_r l G ad c I ⟨(by show 0 ≤ (I 1 5).toInt ∧ (I 1 5).toInt ≤ 30; exact hH.1), (by show 0 ≤ (I 1 11).toInt ∧ (I 1 11).toInt ≤ 200; exact hH.2)⟩ a1 a2 a3 (I 0 0) _) (cwV 4 hts gX11_note_X2_addNote rfl rfl rfl hy_X2_addNote ⟨Nat.le_of_ble_eq_true rfl, Nat.le_of_ble_eq_true rfl⟩) (z_preV (i := 1) hK hW rfl rfl) rfl rfl hl.1 rfl (lv_room (Nat.le_of_ble_eq_true rfl)) dX11_note_40 ⟨Nat.le_of_ble_eq_true rfl, Nat.le_of_ble_eq_true rfl⟩) (fun r u1 H locs hp hW hS => ?_)
        obtain ⟨I15, e9, hI15H, fI15, hp⟩ := hp
        rw [e9] at hW
        have f16 := z_fr_sub (L := L_X11_note_r) z_fr_0 fI15 (by decide)
        have k17 : 0 ≤ (I15 0 0).toInt ∧ (I15 0 0).toInt ≤ 719 := by rw [fI15 0 0 (by decide)]; exact (by show 0 ≤ (I 0 0).toInt ∧ (I 0 0).toInt ≤ 719; exact hB.1)
        have k18 : 0 ≤ (I15 0 8).toInt ∧ (I15 0 8).toInt ≤ 10 := by rw [fI15 0 8 (by decide)]; exact (by show 0 ≤ (I 0 8).toInt ∧ (I 0 8).toInt ≤ 10; exact hB.2)
        refine lv_topi (fun x19 ex19 => ?_)
        rw [← ex19] at hp
        rcases hp with ⟨h20, h21, h22, h23⟩ | ⟨h20, h21, h22, h23⟩
        · exact z_iret hx hb hr hK hS (Nat.le_of_ble_eq_true rfl) (Nat.le_of_ble_eq_true rfl) hlocks dX11_note_43 (shC c, ad, I15, JX, PC c ad) hW ⟨I15, rfl, ⟨(by show 0 ≤ (I15 0 0).toInt ∧ (I15 0 0).toInt ≤ 719; exact k17), (by show 0 ≤ (I15 0 8).toInt ∧ (I15 0 8).toInt ≤ 10; exact k18)⟩, ⟨(by show 0 ≤ (I15 1 5).toInt ∧ (I15 1 5).toInt ≤ 30; exact hI15H.1), (by show 0 ≤ (I15 1 11).toInt ∧ (I15 1 11).toInt ≤ 200; exact hI15H.2)⟩, f16, (Or.inl ⟨by omega, by omega, (by show (I15 1 11).toInt = (I 1 11).toInt + 1; omega), h23⟩)⟩
        · exact z_iret hx hb hr hK hS (Nat.le_of_ble_eq_true rfl) (Nat.le_of_ble_eq_true rfl) hlocks dX11_note_43 (shC c, ad, I15, JX, PC c ad) hW ⟨I15, rfl, ⟨(by show 0 ≤ (I15 0 0).toInt ∧ (I15 0 0).toInt ≤ 719; exact k17), (by show 0 ≤ (I15 0 8).toInt ∧ (I15 0 8).toInt ≤ 10; exact k18)⟩, ⟨(by show 0 ≤ (I15 1 5).toInt ∧ (I15 1 5).toInt ≤ 30; exact hI15H.1), (by show 0 ≤ (I15 1 11).toInt ∧ (I15 1 11).toInt ≤ 200; exact hI15H.2)⟩, f16, (Or.inr ⟨by omega, by omega, (by show (I15 1 11).toInt = (I 1 11).toInt; omega), h23⟩)⟩
      · have h24 := h11
        refine lv_if_ne (tgt := 29) hx hb dX11_note_24 (by decide) (fun c25 => absurd (by decide) c25) (fun c25 => ?_)
        refine lv_iconst (v := (-1)) hx hb dX11_note_27 (by decide) ?_
        exact z_iret hx hb hr hK hS (Nat.le_of_ble_eq_true rfl) (Nat.le_of_ble_eq_true rfl) hlocks dX11_note_28 (shC c, ad, I, JX, PC c ad) hW ⟨I, rfl, ⟨(by show 0 ≤ (I 0 0).toInt ∧ (I 0 0).toInt ≤ 719; exact hB.1), (by show 0 ≤ (I 0 8).toInt ∧ (I 0 8).toInt ≤ 10; exact hB.2)⟩, ⟨(by show 0 ≤ (I 1 5).toInt ∧ (I 1 5).toInt ≤ 30; exact hH.1), (by show 0 ≤ (I 1 11).toInt ∧ (I 1 11).toInt ≤ 200; exact hH.2)⟩, z_fr_0, (Or.inr ⟨by omega, by decide, (by show (I 1 11).toInt = (I 1 11).toInt; omega), (fun j => ⟨rfl, rfl, rfl, rfl, rfl⟩)⟩)⟩
    · have h26 := h5
      have z27 := z_l0
      have z28 := z_l4
      refine lv_if_eq (tgt := 27) hx hb dX11_note_17 (by decide) (fun c29 => ?_) (fun c29 => absurd (by decide) c29)
      refine lv_iconst (v := (-1)) hx hb dX11_note_27 (by decide) ?_
      exact z_iret hx hb hr hK hS (Nat.le_of_ble_eq_true rfl) (Nat.le_of_ble_eq_true rfl) hlocks dX11_note_28 (shC c, ad, I, JX, PC c ad) hW ⟨I, rfl, ⟨(by show 0 ≤ (I 0 0).toInt ∧ (I 0 0).toInt ≤ 719; exact hB.1), (by show 0 ≤ (I 0 8).toInt ∧ (I 0 8).toInt ≤ 10; exact hB.2)⟩, ⟨(by show 0 ≤ (I 1 5).toInt ∧ (I 1 5).toInt ≤ 30; exact hH.1), (by show 0 ≤ (I 1 11).toInt ∧ (I 1 11).toInt ≤ 200; exact hH.2)⟩, z_fr_0, (Or.inr ⟨by omega, by decide, (by show (I 1 11).toInt = (I 1 11).toInt; omega), (fun j => ⟨rfl, rfl, rfl, rfl, rfl⟩)⟩)⟩
  · have h30 := h1
    have r31 : 0 ≤ (I 1 5).toInt ∧ (I 1 5).toInt ≤ 30 := hH.1
    refine lv_if_eq (tgt := 27) hx hb dX11_note_8 (by decide) (fun c32 => ?_) (fun c32 => absurd (by decide) c32)
    refine lv_iconst (v := (-1)) hx hb dX11_note_27 (by decide) ?_
    exact z_iret hx hb hr hK hS (Nat.le_of_ble_eq_true rfl) (Nat.le_of_ble_eq_true rfl) hlocks dX11_note_28 (shC c, ad, I, JX, PC c ad) hW ⟨I, rfl, ⟨(by show 0 ≤ (I 0 0).toInt ∧ (I 0 0).toInt ≤ 719; exact hB.1), (by show 0 ≤ (I 0 8).toInt ∧ (I 0 8).toInt ≤ 10; exact hB.2)⟩, ⟨(by show 0 ≤ (I 1 5).toInt ∧ (I 1 5).toInt ≤ 30; exact hH.1), (by show 0 ≤ (I 1 11).toInt ∧ (I 1 11).toInt ≤ 200; exact hH.2)⟩, z_fr_0, (Or.inr ⟨by omega, by decide, (by show (I 1 11).toInt = (I 1 11).toInt; omega), (fun j => ⟨rfl, rfl, rfl, rfl, rfl⟩)⟩)⟩
noncomputable def L_X12_note_r : z_L := [(0, 2), (6, 999), (7, 999), (8, 999), (9, 999), (10, 999)]
set_option maxHeartbeats 8000000 in
set_option maxRecDepth 100000 in
theorem sx_X12_note_r (l : Launch) (G : z_G) (ad : Nat → Nat) (I : z_I) (J : z_J) (hma : z_ima I) (a1 : Int32) (a2 : Int32) (a3 : Int32) : z_M l yX12_note wsX12_note { frames := 2, cells := 0, slots := 0, locals := 34 } [.ref (ad 0), .int a1, .int a2, .int a3] G (shM, ad, I, J, PM ad) (fun r u1 => ∃ (I1 : z_I) (J1 : z_J), u1 = (shM, ad, I1, J1, PM ad) ∧ z_ima I1 ∧ z_fr L_X12_note_r I1 I ∧ (((0 ≤ a1.toInt ∧ a1.toInt < (I 0 1).toInt ∧ 0 ≤ a2.toInt ∧ a2.toInt ≤ 4 ∧ 0 ≤ a3.toInt ∧ a3.toInt ≤ 719 ∧ (I 0 2).toInt < 200) ∧ r.toInt = (I 0 2).toInt ∧ (I1 0 2).toInt = (I 0 2).toInt + 1 ∧ z_nrM I1 I (I 0 2).toNatClampNeg a1 a2 a3 (I 0 0)) ∨ (¬ (0 ≤ a1.toInt ∧ a1.toInt < (I 0 1).toInt ∧ 0 ≤ a2.toInt ∧ a2.toInt ≤ 4 ∧ 0 ≤ a3.toInt ∧ a3.toInt ≤ 719 ∧ (I 0 2).toInt < 200) ∧ r.toInt = -1 ∧ (I1 0 2).toInt = (I 0 2).toInt ∧ z_nsM I1 I))) 0 0 := by
  intro sz
  refine z_headQ (cc := cX12_note) (maxL := 4) (ret := (some .int)) (by decide) rfl (Nat.le_of_ble_eq_true rfl) ?_
  intro p e s m below meth c0 ls hIn hK hsz hW hl
  obtain ⟨hx, hb, hr, hml, hown, hts, hlocks, hname⟩ := hIn
  subst hsz
  have hown : s.vm.findClass RX12 = some m.cls := hown
  have hA : ∀ q : Nat, s.heap.size ≤ q → z_A (shM, ad, I, J, PM ad) s.heap.size q := fun q h => Or.inr h
  generalize hAe : z_A (shM, ad, I, J, PM ad) s.heap.size = A at *
  have hS : va_S A s.heap s.heap [] := va_S.rf
  have hl : lv_has ls 4 [(0, .ref (ad 0)), (1, .int a1), (2, .int a2), (3, .int a3)] := hl
  refine lv_aload_n hx hb dX12_note_0 rfl (lv_at hl 0 rfl) ?_
  refine lv_iload_n hx hb dX12_note_1 rfl (lv_at hl 1 rfl) ?_
  refine z_ci hW hS hA (va_runV (As := [.int a1]) (rest := []) ⟨hx, hb, hml, hown, hts⟩ (sx_X12_isHolder_e l G ad I J ⟨(by show 0 ≤ (I 0 0).toInt ∧ (I 0 0).toInt ≤ 719; exact hma.1), (by show 0 ≤ (I 0 1).toInt ∧ (I 0 1).toInt ≤ 30; exact hma.2.1), (by show 0 ≤ (I 0 2).toInt ∧ (I 0 2).toInt ≤ 200; exact hma.2.2)⟩ a1 _) (cwV 1 hts gX12_note_X12_isHolder rfl rfl rfl hy_X12_isHolder ⟨Nat.le_of_ble_eq_true rfl, Nat.le_of_ble_eq_true rfl⟩) (z_preV (i := 0) hK hW rfl rfl) rfl rfl hl.1 rfl (lv_room (Nat.le_of_ble_eq_true rfl)) dX12_note_2 ⟨Nat.le_of_ble_eq_true rfl, Nat.le_of_ble_eq_true rfl⟩) (fun r u1 H locs hp hW hS => ?_)
  obtain ⟨e9, hp⟩ := hp
  rw [e9] at hW
  rcases hp with ⟨rfl, h1⟩ | ⟨rfl, h1⟩
  · have h2 := h1
    have r3 : 0 ≤ (I 0 1).toInt ∧ (I 0 1).toInt ≤ 30 := hma.2.1
    refine lv_if_eq (tgt := 34) hx hb dX12_note_5 (by decide) (fun c4 => absurd c4 (by decide)) (fun c4 => ?_)
    refine lv_iload_n hx hb dX12_note_8 rfl (lv_at hl 2 rfl) ?_
    refine lv_iconst (v := 0) hx hb dX12_note_9 (by decide) ?_
    refine lv_iconst (v := 4) hx hb dX12_note_10 (by decide) ?_
    refine z_ci hW hS hA (va_runS (As := [.int a2, .int 0, .int 4]) (rest := []) ⟨hx, hb, hml, hown, hts⟩ (sx_X12_within_e l G ad I J  a2 0 4 _) (va_cwS 3 hts gX12_note_X12_within rfl rfl rfl hy_X12_within.2 ⟨Nat.le_of_ble_eq_true rfl, Nat.le_of_ble_eq_true rfl⟩) (z_preS hK hW) rfl rfl hl.1 rfl (lv_room (Nat.le_of_ble_eq_true rfl)) dX12_note_11 ⟨Nat.le_of_ble_eq_true rfl, Nat.le_of_ble_eq_true rfl⟩) (fun r u1 H locs hp hW hS => ?_)
    obtain ⟨e9, hp⟩ := hp
    rw [e9] at hW
    rcases hp with ⟨rfl, h5⟩ | ⟨rfl, h5⟩
    · have h6 := h5
      have z7 := z_l0
      have z8 := z_l4
      refine lv_if_eq (tgt := 34) hx hb dX12_note_14 (by decide) (fun c9 => absurd c9 (by decide)) (fun c9 => ?_)
      refine lv_iload_n hx hb dX12_note_17 rfl (lv_at hl 3 rfl) ?_
      refine z_ci hW hS hA (va_runS (As := [.int a3]) (rest := []) ⟨hx, hb, hml, hown, hts⟩ (sx_X12_isDay_e l G ad I J  a3 _) (va_cwS 1 hts gX12_note_X12_isDay rfl rfl rfl hy_X12_isDay.2 ⟨Nat.le_of_ble_eq_true rfl, Nat.le_of_ble_eq_true rfl⟩) (z_preS hK hW) rfl rfl hl.1 rfl (lv_room (Nat.le_of_ble_eq_true rfl)) dX12_note_18 ⟨Nat.le_of_ble_eq_true rfl, Nat.le_of_ble_eq_true rfl⟩) (fun r u1 H locs hp hW hS => ?_)
      obtain ⟨e9, hp⟩ := hp
      rw [e9] at hW
      rcases hp with ⟨rfl, h11⟩ | ⟨rfl, h11⟩
      · have h12 := h11
        refine lv_if_eq (tgt := 34) hx hb dX12_note_21 (by decide) (fun c13 => absurd c13 (by decide)) (fun c13 => ?_)
        refine lv_aload_n hx hb dX12_note_24 rfl (lv_at hl 0 rfl) ?_
        have r14 : 0 ≤ (I 0 2).toInt ∧ (I 0 2).toInt ≤ 200 := hma.2.2
        refine z_get (T := TX12) (N := 96) (ci := 12) (i := 0) (v := .int (I 0 2)) hx hb hts zj_X12_note_X12 hown hK hW rfl rfl 2 (by decide) (hts (.fieldLink RX12 246 "PetrolBoardModel" "notes" "I") (me_s (me_l (List.mem_of_getElem? (i := 0) rfl)))) (fun _ h => h) rfl dX12_note_25 ?_
        refine lv_sipush (v := 200) hx hb dX12_note_28 (by decide) ?_
        refine lv_icmp_ne (tgt := 36) hx hb dX12_note_31 (by decide) (fun c15 => ?_) (fun c15 => ?_)
        · have g16 := z_f_ne rfl z_l200 c15
          refine lv_aload_n hx hb dX12_note_36 rfl (lv_at hl 0 rfl) ?_
          refine z_get (T := TX12) (N := 96) (ci := 12) (i := 0) (v := .ref (ad 6)) hx hb hts zj_X12_note_X12 hown hK hW rfl rfl 8 (by decide) (hts (.fieldLink RX12 25 "PetrolBoardModel" "noteWho" "[I") (me_s (me_l (List.mem_of_getElem? (i := 1) rfl)))) (fun _ h => h) rfl dX12_note_37 ?_
          refine lv_aload_n hx hb dX12_note_40 rfl (lv_at hl 0 rfl) ?_
          refine z_get (T := TX12) (N := 96) (ci := 12) (i := 0) (v := .int (I 0 2)) hx hb hts zj_X12_note_X12 hown hK hW rfl rfl 2 (by decide) (hts (.fieldLink RX12 246 "PetrolBoardModel" "notes" "I") (me_s (me_l (List.mem_of_getElem? (i := 0) rfl)))) (fun _ h => h) rfl dX12_note_41 ?_
          refine lv_iload_n hx hb dX12_note_44 rfl (lv_at hl 1 rfl) ?_
          refine z_iast (i := 6) hx hb hK hW hS rfl (z_ix rfl (by omega) (by omega)) dX12_note_45 (fun H locs hz1 hW hS => ?_)
          obtain ⟨I17, eI17⟩ : ∃ K : z_I, K = z_up I 6 (I 0 2).toNatClampNeg a1 := ⟨_, rfl⟩
          rw [← eI17] at hW
          have f18 := z_fr_a z_fr_0 (show z_wa L_X12_note_r 6 = true by decide) eI17
          refine lv_aload_n hx hb dX12_note_46 rfl (lv_at hl 0 rfl) ?_
          refine z_get (T := TX12) (N := 96) (ci := 12) (i := 0) (v := .ref (ad 7)) hx hb hts zj_X12_note_X12 hown hK hW rfl rfl 9 (by decide) (hts (.fieldLink RX12 28 "PetrolBoardModel" "noteClass" "[I") (me_s (me_l (List.mem_of_getElem? (i := 2) rfl)))) (fun _ h => h) rfl dX12_note_47 ?_
          refine lv_aload_n hx hb dX12_note_50 rfl (lv_at hl 0 rfl) ?_
          refine z_get (T := TX12) (N := 96) (ci := 12) (i := 0) (v := .int (I 0 2)) hx hb hts zj_X12_note_X12 hown hK hW rfl rfl 2 (by decide) (hts (.fieldLink RX12 246 "PetrolBoardModel" "notes" "I") (me_s (me_l (List.mem_of_getElem? (i := 0) rfl)))) (fun _ h => h) (congrArg Value.int (by rw [eI17, z_up_n (by decide)])) dX12_note_51 ?_
          refine lv_iload_n hx hb dX12_note_54 rfl (lv_at hl 2 rfl) ?_
          refine z_iast (i := 7) hx hb hK hW hS rfl (z_ix rfl (by omega) (by omega)) dX12_note_55 (fun H locs hz1 hW hS => ?_)
          obtain ⟨I19, eI19⟩ : ∃ K : z_I, K = z_up I17 7 (I 0 2).toNatClampNeg a2 := ⟨_, rfl⟩
          rw [← eI19] at hW
          have f20 := z_fr_a f18 (show z_wa L_X12_note_r 7 = true by decide) eI19
          refine lv_aload_n hx hb dX12_note_56 rfl (lv_at hl 0 rfl) ?_
          refine z_get (T := TX12) (N := 96) (ci := 12) (i := 0) (v := .ref (ad 8)) hx hb hts zj_X12_note_X12 hown hK hW rfl rfl 10 (by decide) (hts (.fieldLink RX12 31 "PetrolBoardModel" "noteFrom" "[I") (me_s (me_l (List.mem_of_getElem? (i := 3) rfl)))) (fun _ h => h) rfl dX12_note_57 ?_
          refine lv_aload_n hx hb dX12_note_60 rfl (lv_at hl 0 rfl) ?_
          refine z_get (T := TX12) (N := 96) (ci := 12) (i := 0) (v := .int (I 0 2)) hx hb hts zj_X12_note_X12 hown hK hW rfl rfl 2 (by decide) (hts (.fieldLink RX12 246 "PetrolBoardModel" "notes" "I") (me_s (me_l (List.mem_of_getElem? (i := 0) rfl)))) (fun _ h => h) (congrArg Value.int (by rw [eI19, z_up_n (by decide), eI17, z_up_n (by decide)])) dX12_note_61 ?_
          refine lv_iload_n hx hb dX12_note_64 rfl (lv_at hl 3 rfl) ?_
          refine z_iast (i := 8) hx hb hK hW hS rfl (z_ix rfl (by omega) (by omega)) dX12_note_65 (fun H locs hz1 hW hS => ?_)
          obtain ⟨I21, eI21⟩ : ∃ K : z_I, K = z_up I19 8 (I 0 2).toNatClampNeg a3 := ⟨_, rfl⟩
          rw [← eI21] at hW
          have f22 := z_fr_a f20 (show z_wa L_X12_note_r 8 = true by decide) eI21
          refine lv_aload_n hx hb dX12_note_66 rfl (lv_at hl 0 rfl) ?_
          refine z_get (T := TX12) (N := 96) (ci := 12) (i := 0) (v := .ref (ad 9)) hx hb hts zj_X12_note_X12 hown hK hW rfl rfl 11 (by decide) (hts (.fieldLink RX12 34 "PetrolBoardModel" "noteTold" "[I") (me_s (me_l (List.mem_of_getElem? (i := 4) rfl)))) (fun _ h => h) rfl dX12_note_67 ?_
          refine lv_aload_n hx hb dX12_note_70 rfl (lv_at hl 0 rfl) ?_
          refine z_get (T := TX12) (N := 96) (ci := 12) (i := 0) (v := .int (I 0 2)) hx hb hts zj_X12_note_X12 hown hK hW rfl rfl 2 (by decide) (hts (.fieldLink RX12 246 "PetrolBoardModel" "notes" "I") (me_s (me_l (List.mem_of_getElem? (i := 0) rfl)))) (fun _ h => h) (congrArg Value.int (by rw [eI21, z_up_n (by decide), eI19, z_up_n (by decide), eI17, z_up_n (by decide)])) dX12_note_71 ?_
          refine lv_aload_n hx hb dX12_note_74 rfl (lv_at hl 0 rfl) ?_
          have r23 : 0 ≤ (I 0 0).toInt ∧ (I 0 0).toInt ≤ 719 := hma.1
          refine z_get (T := TX12) (N := 96) (ci := 12) (i := 0) (v := .int (I 0 0)) hx hb hts zj_X12_note_X12 hown hK hW rfl rfl 0 (by decide) (hts (.fieldLink RX12 232 "PetrolBoardModel" "today" "I") (me_s (me_l (List.mem_of_getElem? (i := 5) rfl)))) (fun _ h => h) (congrArg Value.int (by rw [eI21, z_up_n (by decide), eI19, z_up_n (by decide), eI17, z_up_n (by decide)])) dX12_note_75 ?_
          refine z_iast (i := 9) hx hb hK hW hS rfl (z_ix rfl (by omega) (by omega)) dX12_note_78 (fun H locs hz1 hW hS => ?_)
          obtain ⟨I24, eI24⟩ : ∃ K : z_I, K = z_up I21 9 (I 0 2).toNatClampNeg (I 0 0) := ⟨_, rfl⟩
          rw [← eI24] at hW
          have f25 := z_fr_a f22 (show z_wa L_X12_note_r 9 = true by decide) eI24
          refine lv_aload_n hx hb dX12_note_79 rfl (lv_at hl 0 rfl) ?_
          refine z_get (T := TX12) (N := 96) (ci := 12) (i := 0) (v := .ref (ad 10)) hx hb hts zj_X12_note_X12 hown hK hW rfl rfl 12 (by decide) (hts (.fieldLink RX12 37 "PetrolBoardModel" "noteGone" "[I") (me_s (me_l (List.mem_of_getElem? (i := 6) rfl)))) (fun _ h => h) rfl dX12_note_80 ?_
          refine lv_aload_n hx hb dX12_note_83 rfl (lv_at hl 0 rfl) ?_
          refine z_get (T := TX12) (N := 96) (ci := 12) (i := 0) (v := .int (I 0 2)) hx hb hts zj_X12_note_X12 hown hK hW rfl rfl 2 (by decide) (hts (.fieldLink RX12 246 "PetrolBoardModel" "notes" "I") (me_s (me_l (List.mem_of_getElem? (i := 0) rfl)))) (fun _ h => h) (congrArg Value.int (by rw [eI24, z_up_n (by decide), eI21, z_up_n (by decide), eI19, z_up_n (by decide), eI17, z_up_n (by decide)])) dX12_note_84 ?_
          refine lv_iconst (v := (-1)) hx hb dX12_note_87 (by decide) ?_
          refine z_iast (i := 10) hx hb hK hW hS rfl (z_ix rfl (by omega) (by omega)) dX12_note_88 (fun H locs hz1 hW hS => ?_)
          obtain ⟨I26, eI26⟩ : ∃ K : z_I, K = z_up I24 10 (I 0 2).toNatClampNeg (-1) := ⟨_, rfl⟩
          rw [← eI26] at hW
          have f27 := z_fr_a f25 (show z_wa L_X12_note_r 10 = true by decide) eI26
          refine lv_aload_n hx hb dX12_note_89 rfl (lv_at hl 0 rfl) ?_
          refine lv_dup hx hb dX12_note_90 rfl ?_
          refine z_get (T := TX12) (N := 96) (ci := 12) (i := 0) (v := .int (I 0 2)) hx hb hts zj_X12_note_X12 hown hK hW rfl rfl 2 (by decide) (hts (.fieldLink RX12 246 "PetrolBoardModel" "notes" "I") (me_s (me_l (List.mem_of_getElem? (i := 0) rfl)))) (fun _ h => h) (congrArg Value.int (by rw [eI26, z_up_n (by decide), eI24, z_up_n (by decide), eI21, z_up_n (by decide), eI19, z_up_n (by decide), eI17, z_up_n (by decide)])) dX12_note_91 ?_
          refine lv_iconst (v := 1) hx hb dX12_note_94 (by decide) ?_
          refine lv_iadd hx hb dX12_note_95 ?_
          refine lv_topi (fun x28 ex28 => ?_)
          have tx28 : x28.toInt = (I 0 2).toInt + 1 := z_tadd ex28 rfl z_l1 (by omega) (by omega)
          refine z_put (T := TX12) (N := 96) (ci := 12) (i := 0) (v := .int x28) (I1 := z_up I26 0 2 x28) (J1 := J) (P1 := PM ad) hx hb hts zj_X12_note_X12 tyX12 tyX12_ok nmX12 hown hK hW hS rfl rfl 2 (by decide) (hts (.fieldLink RX12 246 "PetrolBoardModel" "notes" "I") (me_s (me_l (List.mem_of_getElem? (i := 0) rfl)))) (fun _ h => h) rfl rfl rfl (by first | rfl | exact congrArg _ z_up_s) (fun a b h ty => z_vI h ty) dX12_note_96 (fun H locs hz1 hW hS => ?_)
          obtain ⟨I29, eI29⟩ : ∃ K : z_I, K = z_up I26 0 2 x28 := ⟨_, rfl⟩
          rw [← eI29] at hW
          have f30 := z_fr_k f27 (show z_wr L_X12_note_r 0 2 = true by decide) eI29
          refine lv_aload_n hx hb dX12_note_99 rfl (lv_at hl 0 rfl) ?_
          refine z_get (T := TX12) (N := 96) (ci := 12) (i := 0) (v := .int x28) hx hb hts zj_X12_note_X12 hown hK hW rfl rfl 2 (by decide) (hts (.fieldLink RX12 246 "PetrolBoardModel" "notes" "I") (me_s (me_l (List.mem_of_getElem? (i := 0) rfl)))) (fun _ h => h) (congrArg Value.int (by rw [eI29, z_up_s])) dX12_note_100 ?_
          refine lv_iconst (v := 1) hx hb dX12_note_103 (by decide) ?_
          refine lv_isub hx hb dX12_note_104 ?_
          refine lv_topi (fun x31 ex31 => ?_)
          have tx31 : x31.toInt = x28.toInt - 1 := z_tsub ex31 rfl z_l1 (by omega) (by omega)
          exact z_iret hx hb hr hK hS (Nat.le_of_ble_eq_true rfl) (Nat.le_of_ble_eq_true rfl) hlocks dX12_note_105 (shM, ad, I29, J, PM ad) hW ⟨I29, J, rfl, ⟨(by show 0 ≤ (I29 0 0).toInt ∧ (I29 0 0).toInt ≤ 719; rw [eI29, z_up_k (by decide), eI26, z_up_n (by decide), eI24, z_up_n (by decide), eI21, z_up_n (by decide), eI19, z_up_n (by decide), eI17, z_up_n (by decide)]; exact hma.1), (by show 0 ≤ (I29 0 1).toInt ∧ (I29 0 1).toInt ≤ 30; rw [eI29, z_up_k (by decide), eI26, z_up_n (by decide), eI24, z_up_n (by decide), eI21, z_up_n (by decide), eI19, z_up_n (by decide), eI17, z_up_n (by decide)]; exact hma.2.1), (by show 0 ≤ (I29 0 2).toInt ∧ (I29 0 2).toInt ≤ 200; rw [eI29, z_up_s]; omega)⟩, f30, (Or.inl ⟨by omega, by omega, (by have q9 : (I29 0 2) = x28 := (by rw [eI29, z_up_s]); show (I29 0 2).toInt = (I 0 2).toInt + 1; rw [q9]; first | done | omega), ⟨(fun j => by rw [eI29, z_up_n (by decide), eI26, z_up_n (by decide), eI24, z_up_n (by decide), eI21, z_up_n (by decide), eI19, z_up_n (by decide), eI17, z_up_j]), (fun j => by rw [eI29, z_up_n (by decide), eI26, z_up_n (by decide), eI24, z_up_n (by decide), eI21, z_up_n (by decide), eI19, z_up_j, eI17, z_up_n (by decide)]), (fun j => by rw [eI29, z_up_n (by decide), eI26, z_up_n (by decide), eI24, z_up_n (by decide), eI21, z_up_j, eI19, z_up_n (by decide), eI17, z_up_n (by decide)]), (fun j => by rw [eI29, z_up_n (by decide), eI26, z_up_n (by decide), eI24, z_up_j, eI21, z_up_n (by decide), eI19, z_up_n (by decide), eI17, z_up_n (by decide)]), (fun j => by rw [eI29, z_up_n (by decide), eI26, z_up_j, eI24, z_up_n (by decide), eI21, z_up_n (by decide), eI19, z_up_n (by decide), eI17, z_up_n (by decide)])⟩⟩)⟩
        · have g32 := z_f_eq rfl z_l200 c15
          refine lv_iconst (v := (-1)) hx hb dX12_note_34 (by decide) ?_
          exact z_iret hx hb hr hK hS (Nat.le_of_ble_eq_true rfl) (Nat.le_of_ble_eq_true rfl) hlocks dX12_note_35 (shM, ad, I, J, PM ad) hW ⟨I, J, rfl, ⟨(by show 0 ≤ (I 0 0).toInt ∧ (I 0 0).toInt ≤ 719; exact hma.1), (by show 0 ≤ (I 0 1).toInt ∧ (I 0 1).toInt ≤ 30; exact hma.2.1), (by show 0 ≤ (I 0 2).toInt ∧ (I 0 2).toInt ≤ 200; exact hma.2.2)⟩, z_fr_0, (Or.inr ⟨by omega, by decide, (by show (I 0 2).toInt = (I 0 2).toInt; omega), (fun j => ⟨rfl, rfl, rfl, rfl, rfl⟩)⟩)⟩
      · have h33 := h11
        refine lv_if_eq (tgt := 34) hx hb dX12_note_21 (by decide) (fun c34 => ?_) (fun c34 => absurd (by decide) c34)
        refine lv_iconst (v := (-1)) hx hb dX12_note_34 (by decide) ?_
        exact z_iret hx hb hr hK hS (Nat.le_of_ble_eq_true rfl) (Nat.le_of_ble_eq_true rfl) hlocks dX12_note_35 (shM, ad, I, J, PM ad) hW ⟨I, J, rfl, ⟨(by show 0 ≤ (I 0 0).toInt ∧ (I 0 0).toInt ≤ 719; exact hma.1), (by show 0 ≤ (I 0 1).toInt ∧ (I 0 1).toInt ≤ 30; exact hma.2.1), (by show 0 ≤ (I 0 2).toInt ∧ (I 0 2).toInt ≤ 200; exact hma.2.2)⟩, z_fr_0, (Or.inr ⟨by omega, by decide, (by show (I 0 2).toInt = (I 0 2).toInt; omega), (fun j => ⟨rfl, rfl, rfl, rfl, rfl⟩)⟩)⟩
    · have h35 := h5
      have z36 := z_l0
      have z37 := z_l4
      refine lv_if_eq (tgt := 34) hx hb dX12_note_14 (by decide) (fun c38 => ?_) (fun c38 => absurd (by decide) c38)
      refine lv_iconst (v := (-1)) hx hb dX12_note_34 (by decide) ?_
      exact z_iret hx hb hr hK hS (Nat.le_of_ble_eq_true rfl) (Nat.le_of_ble_eq_true rfl) hlocks dX12_note_35 (shM, ad, I, J, PM ad) hW ⟨I, J, rfl, ⟨(by show 0 ≤ (I 0 0).toInt ∧ (I 0 0).toInt ≤ 719; exact hma.1), (by show 0 ≤ (I 0 1).toInt ∧ (I 0 1).toInt ≤ 30; exact hma.2.1), (by show 0 ≤ (I 0 2).toInt ∧ (I 0 2).toInt ≤ 200; exact hma.2.2)⟩, z_fr_0, (Or.inr ⟨by omega, by decide, (by show (I 0 2).toInt = (I 0 2).toInt; omega), (fun j => ⟨rfl, rfl, rfl, rfl, rfl⟩)⟩)⟩
  · have h39 := h1
    have r40 : 0 ≤ (I 0 1).toInt ∧ (I 0 1).toInt ≤ 30 := hma.2.1
    refine lv_if_eq (tgt := 34) hx hb dX12_note_5 (by decide) (fun c41 => ?_) (fun c41 => absurd (by decide) c41)
    refine lv_iconst (v := (-1)) hx hb dX12_note_34 (by decide) ?_
    exact z_iret hx hb hr hK hS (Nat.le_of_ble_eq_true rfl) (Nat.le_of_ble_eq_true rfl) hlocks dX12_note_35 (shM, ad, I, J, PM ad) hW ⟨I, J, rfl, ⟨(by show 0 ≤ (I 0 0).toInt ∧ (I 0 0).toInt ≤ 719; exact hma.1), (by show 0 ≤ (I 0 1).toInt ∧ (I 0 1).toInt ≤ 30; exact hma.2.1), (by show 0 ≤ (I 0 2).toInt ∧ (I 0 2).toInt ≤ 200; exact hma.2.2)⟩, z_fr_0, (Or.inr ⟨by omega, by decide, (by show (I 0 2).toInt = (I 0 2).toInt; omega), (fun j => ⟨rfl, rfl, rfl, rfl, rfl⟩)⟩)⟩
noncomputable def L_X2_cancelNote_r : z_L := [(11, 999)]
set_option maxHeartbeats 8000000 in
set_option maxRecDepth 100000 in
theorem sx_X2_cancelNote_r (l : Launch) (G : z_G) (ad : Nat → Nat) (c : z_C) (I : z_I) (hH : z_iH I) (a1 : Int32) (a2 : Int32) : z_M l yX2_cancelNote wsX2_cancelNote { frames := 1, cells := 0, slots := 0, locals := 12 } [.ref (ad 1), .int a1, .int a2] G (shC c, ad, I, JX, PC c ad) (fun r u1 => ∃ I1 : z_I, u1 = (shC c, ad, I1, JX, PC c ad) ∧ z_iH I1 ∧ z_fr L_X2_cancelNote_r I1 I ∧ ((r = 1 ∧ (0 ≤ a1.toInt ∧ a1.toInt < (I 1 11).toInt ∧ 720 ≤ (I 11 a1.toNatClampNeg).toInt) ∧ ∀ j, I1 11 j = if j = a1.toNatClampNeg then a2 else I 11 j) ∨ (r = 0 ∧ ¬ (0 ≤ a1.toInt ∧ a1.toInt < (I 1 11).toInt ∧ 720 ≤ (I 11 a1.toNatClampNeg).toInt) ∧ ∀ j, I1 11 j = I 11 j))) 0 0 := by
  intro sz
  refine z_headQ (cc := cX2_cancelNote) (maxL := 3) (ret := (some .boolean)) (by decide) rfl (Nat.le_of_ble_eq_true rfl) ?_
  intro p e s m below meth c0 ls hIn hK hsz hW hl
  obtain ⟨hx, hb, hr, hml, hown, hts, hlocks, hname⟩ := hIn
  subst hsz
  have hown : s.vm.findClass RX2 = some m.cls := hown
  have hA : ∀ q : Nat, s.heap.size ≤ q → z_A (shC c, ad, I, JX, PC c ad) s.heap.size q := fun q h => Or.inr h
  generalize hAe : z_A (shC c, ad, I, JX, PC c ad) s.heap.size = A at *
  have hS : va_S A s.heap s.heap [] := va_S.rf
  have hl : lv_has ls 3 [(0, .ref (ad 1)), (1, .int a1), (2, .int a2)] := hl
  refine lv_iload_n hx hb dX2_cancelNote_0 rfl (lv_at hl 1 rfl) ?_
  refine lv_if_lt (tgt := 31) hx hb dX2_cancelNote_1 (by decide) (fun c1 => ?_) (fun c1 => ?_)
  · have g2 := z_f_lt rfl z_l0 c1
    have b3 := Int32.toInt_lt a1
    refine lv_iconst (v := 0) hx hb dX2_cancelNote_31 (by decide) ?_
    exact z_zret hx hb hr (by decide) hK hS (Nat.le_of_ble_eq_true rfl) (Nat.le_of_ble_eq_true rfl) hlocks dX2_cancelNote_32 (shC c, ad, I, JX, PC c ad) hW ⟨I, rfl, ⟨(by show 0 ≤ (I 1 5).toInt ∧ (I 1 5).toInt ≤ 30; exact hH.1), (by show 0 ≤ (I 1 11).toInt ∧ (I 1 11).toInt ≤ 200; exact hH.2)⟩, z_fr_0, (Or.inr ⟨rfl, (by omega), (fun j => rfl)⟩)⟩
  · have g4 := z_f_nlt rfl z_l0 c1
    have b5 := Int32.toInt_lt a1
    refine lv_iload_n hx hb dX2_cancelNote_4 rfl (lv_at hl 1 rfl) ?_
    refine lv_aload_n hx hb dX2_cancelNote_5 rfl (lv_at hl 0 rfl) ?_
    have r6 : 0 ≤ (I 1 11).toInt ∧ (I 1 11).toInt ≤ 200 := hH.2
    refine z_get (T := TX2) (N := 12) (ci := 2) (i := 1) (v := .int (I 1 11)) hx hb hts zj_X2_cancelNote_X2 hown hK hW rfl rfl 11 (by decide) (hts (.fieldLink RX2 46 "PetrolBoard$Holders" "notes" "I") (me_s (me_l (List.mem_of_getElem? (i := 0) rfl)))) (fun _ h => h) rfl dX2_cancelNote_6 ?_
    refine lv_icmp_ge (tgt := 31) hx hb dX2_cancelNote_9 (by decide) (fun c7 => ?_) (fun c7 => ?_)
    · have g8 := z_f_ge rfl rfl c7
      refine lv_iconst (v := 0) hx hb dX2_cancelNote_31 (by decide) ?_
      exact z_zret hx hb hr (by decide) hK hS (Nat.le_of_ble_eq_true rfl) (Nat.le_of_ble_eq_true rfl) hlocks dX2_cancelNote_32 (shC c, ad, I, JX, PC c ad) hW ⟨I, rfl, ⟨(by show 0 ≤ (I 1 5).toInt ∧ (I 1 5).toInt ≤ 30; exact hH.1), (by show 0 ≤ (I 1 11).toInt ∧ (I 1 11).toInt ≤ 200; exact hH.2)⟩, z_fr_0, (Or.inr ⟨rfl, (by omega), (fun j => rfl)⟩)⟩
    · have g9 := z_f_nge rfl rfl c7
      refine lv_iload_n hx hb dX2_cancelNote_12 rfl (lv_at hl 1 rfl) ?_
      refine lv_sipush (v := 200) hx hb dX2_cancelNote_13 (by decide) ?_
      refine lv_icmp_ge (tgt := 31) hx hb dX2_cancelNote_16 (by decide) (fun c10 => (by have g := z_f_ge rfl z_l200 c10; omega)) (fun c10 => ?_)
      have g11 := z_f_nge rfl z_l200 c10
      refine lv_aload_n hx hb dX2_cancelNote_19 rfl (lv_at hl 0 rfl) ?_
      refine z_get (T := TX2) (N := 12) (ci := 2) (i := 1) (v := .ref (ad 11)) hx hb hts zj_X2_cancelNote_X2 hown hK hW rfl rfl 10 (by decide) (hts (.fieldLink RX2 39 "PetrolBoard$Holders" "undoneOn" "[I") (me_s (me_l (List.mem_of_getElem? (i := 1) rfl)))) (fun _ h => h) rfl dX2_cancelNote_20 ?_
      refine lv_iload_n hx hb dX2_cancelNote_23 rfl (lv_at hl 1 rfl) ?_
      refine z_iald (i := 11) hx hb hK hW rfl (z_ix rfl (by omega) (by omega)) dX2_cancelNote_24 ?_
      refine lv_topi (fun x12 ex12 => ?_)
      refine lv_sipush (v := 720) hx hb dX2_cancelNote_25 (by decide) ?_
      refine lv_icmp_ge (tgt := 33) hx hb dX2_cancelNote_28 (by decide) (fun c13 => ?_) (fun c13 => ?_)
      · have g14 := z_f_ge rfl z_l720 c13
        have b15 := Int32.toInt_lt x12
        refine lv_aload_n hx hb dX2_cancelNote_33 rfl (lv_at hl 0 rfl) ?_
        refine z_get (T := TX2) (N := 12) (ci := 2) (i := 1) (v := .ref (ad 11)) hx hb hts zj_X2_cancelNote_X2 hown hK hW rfl rfl 10 (by decide) (hts (.fieldLink RX2 39 "PetrolBoard$Holders" "undoneOn" "[I") (me_s (me_l (List.mem_of_getElem? (i := 1) rfl)))) (fun _ h => h) rfl dX2_cancelNote_34 ?_
        refine lv_iload_n hx hb dX2_cancelNote_37 rfl (lv_at hl 1 rfl) ?_
        refine lv_iload_n hx hb dX2_cancelNote_38 rfl (lv_at hl 2 rfl) ?_
        refine z_iast (i := 11) hx hb hK hW hS rfl (z_ix rfl (by omega) (by omega)) dX2_cancelNote_39 (fun H locs hz1 hW hS => ?_)
        obtain ⟨I16, eI16⟩ : ∃ K : z_I, K = z_up I 11 a1.toNatClampNeg a2 := ⟨_, rfl⟩
        rw [← eI16] at hW
        have f17 := z_fr_a z_fr_0 (show z_wa L_X2_cancelNote_r 11 = true by decide) eI16
        refine lv_iconst (v := 1) hx hb dX2_cancelNote_40 (by decide) ?_
        exact z_zret hx hb hr (by decide) hK hS (Nat.le_of_ble_eq_true rfl) (Nat.le_of_ble_eq_true rfl) hlocks dX2_cancelNote_41 (shC c, ad, I16, JX, PC c ad) hW ⟨I16, rfl, ⟨(by show 0 ≤ (I16 1 5).toInt ∧ (I16 1 5).toInt ≤ 30; rw [eI16, z_up_n (by decide)]; exact hH.1), (by show 0 ≤ (I16 1 11).toInt ∧ (I16 1 11).toInt ≤ 200; rw [eI16, z_up_n (by decide)]; exact hH.2)⟩, f17, (Or.inl ⟨rfl, (by have := congrArg Int32.toInt ex12; omega), (fun j => by rw [eI16, z_up_j])⟩)⟩
      · have g18 := z_f_nge rfl z_l720 c13
        have b19 := Int32.toInt_lt x12
        refine lv_iconst (v := 0) hx hb dX2_cancelNote_31 (by decide) ?_
        exact z_zret hx hb hr (by decide) hK hS (Nat.le_of_ble_eq_true rfl) (Nat.le_of_ble_eq_true rfl) hlocks dX2_cancelNote_32 (shC c, ad, I, JX, PC c ad) hW ⟨I, rfl, ⟨(by show 0 ≤ (I 1 5).toInt ∧ (I 1 5).toInt ≤ 30; exact hH.1), (by show 0 ≤ (I 1 11).toInt ∧ (I 1 11).toInt ≤ 200; exact hH.2)⟩, z_fr_0, (Or.inr ⟨rfl, (by have := congrArg Int32.toInt ex12; omega), (fun j => rfl)⟩)⟩
noncomputable def L_X11_undo_r : z_L := [(11, 999)]
set_option maxHeartbeats 8000000 in
set_option maxRecDepth 100000 in
theorem sx_X11_undo_r (l : Launch) (G : z_G) (ad : Nat → Nat) (c : z_C) (I : z_I) (hB : z_iB I) (hH : z_iH I) (a1 : Int32) (hc : z_okc c) (h10 : c.1 ≤ 10) : z_M l yX11_undo wsX11_undo { frames := 2, cells := 0, slots := 0, locals := 34 } [.ref (ad 0), .int a1] G (shC c, ad, I, JX, PC c ad) (fun r u1 => ∃ I1 : z_I, u1 = (shC c, ad, I1, JX, PC c ad) ∧ z_iB I1 ∧ z_iH I1 ∧ z_fr L_X11_undo_r I1 I ∧ ((r = 1 ∧ (0 ≤ a1.toInt ∧ a1.toInt < (I 1 11).toInt ∧ 720 ≤ (I 11 a1.toNatClampNeg).toInt) ∧ ∀ j, I1 11 j = if j = a1.toNatClampNeg then (I 0 0) else I 11 j) ∨ (r = 0 ∧ ¬ (0 ≤ a1.toInt ∧ a1.toInt < (I 1 11).toInt ∧ 720 ≤ (I 11 a1.toNatClampNeg).toInt) ∧ ∀ j, I1 11 j = I 11 j))) 0 0 := by
  intro sz
  refine z_headQ (cc := cX11_undo) (maxL := 2) (ret := (some .boolean)) (by decide) rfl (Nat.le_of_ble_eq_true rfl) ?_
  intro p e s m below meth c0 ls hIn hK hsz hW hl
  obtain ⟨hx, hb, hr, hml, hown, hts, hlocks, hname⟩ := hIn
  subst hsz
  have hown : s.vm.findClass RX11 = some m.cls := hown
  have hA : ∀ q : Nat, s.heap.size ≤ q → z_A (shC c, ad, I, JX, PC c ad) s.heap.size q := fun q h => Or.inr h
  generalize hAe : z_A (shC c, ad, I, JX, PC c ad) s.heap.size = A at *
  have hS : va_S A s.heap s.heap [] := va_S.rf
  have hl : lv_has ls 2 [(0, .ref (ad 0)), (1, .int a1)] := hl
  refine lv_aload_n hx hb dX11_undo_0 rfl (lv_at hl 0 rfl) ?_
  refine z_get (T := TX11) (N := 13) (ci := 11) (i := 0) (v := .ref (ad 1)) hx hb hts zj_X11_undo_X11 hown hK hW rfl rfl 2 (by decide) (hts (.fieldLink RX11 16 "PetrolBoard" "holders" "LPetrolBoard$Holders;") (me_s (me_l (me_l (List.mem_of_getElem? (i := 0) rfl))))) (fun _ h => h) rfl dX11_undo_1 ?_
  refine lv_iload_n hx hb dX11_undo_4 rfl (lv_at hl 1 rfl) ?_
  refine lv_aload_n hx hb dX11_undo_5 rfl (lv_at hl 0 rfl) ?_
  have r1 : 0 ≤ (I 0 0).toInt ∧ (I 0 0).toInt ≤ 719 := hB.1
  refine z_get (T := TX11) (N := 13) (ci := 11) (i := 0) (v := .int (I 0 0)) hx hb hts zj_X11_undo_X11 hown hK hW rfl rfl 0 (by decide) (hts (.fieldLink RX11 85 "PetrolBoard" "today" "I") (me_s (me_l (me_l (List.mem_of_getElem? (i := 1) rfl))))) (fun _ h => h) rfl dX11_undo_6 ?_
  refine z_ci hW hS hA (va_runV (As := [.int a1, .int (I 0 0)]) (rest := []) ⟨hx, hb, hml, hown, hts⟩ (sx_X2_cancelNote_r l G ad c I ⟨(by show 0 ≤ (I 1 5).toInt ∧ (I 1 5).toInt ≤ 30; exact hH.1), (by show 0 ≤ (I 1 11).toInt ∧ (I 1 11).toInt ≤ 200; exact hH.2)⟩ a1 (I 0 0) _) (cwV 2 hts gX11_undo_X2_cancelNote rfl rfl rfl hy_X2_cancelNote ⟨Nat.le_of_ble_eq_true rfl, Nat.le_of_ble_eq_true rfl⟩) (z_preV (i := 1) hK hW rfl rfl) rfl rfl hl.1 rfl (lv_room (Nat.le_of_ble_eq_true rfl)) dX11_undo_9 ⟨Nat.le_of_ble_eq_true rfl, Nat.le_of_ble_eq_true rfl⟩) (fun r u1 H locs hp hW hS => ?_)
  obtain ⟨I2, e9, hI2H, fI2, hp⟩ := hp
  rw [e9] at hW
  have f3 := z_fr_sub (L := L_X11_undo_r) z_fr_0 fI2 (by decide)
  have k4 : 0 ≤ (I2 0 0).toInt ∧ (I2 0 0).toInt ≤ 719 := by rw [fI2 0 0 (by decide)]; exact (by show 0 ≤ (I 0 0).toInt ∧ (I 0 0).toInt ≤ 719; exact hB.1)
  have k5 : 0 ≤ (I2 0 8).toInt ∧ (I2 0 8).toInt ≤ 10 := by rw [fI2 0 8 (by decide)]; exact (by show 0 ≤ (I 0 8).toInt ∧ (I 0 8).toInt ≤ 10; exact hB.2)
  rcases hp with ⟨rfl, h6, h7⟩ | ⟨rfl, h6, h7⟩
  · have h8 := h6
    exact z_zret hx hb hr (by decide) hK hS (Nat.le_of_ble_eq_true rfl) (Nat.le_of_ble_eq_true rfl) hlocks dX11_undo_12 (shC c, ad, I2, JX, PC c ad) hW ⟨I2, rfl, ⟨(by show 0 ≤ (I2 0 0).toInt ∧ (I2 0 0).toInt ≤ 719; exact k4), (by show 0 ≤ (I2 0 8).toInt ∧ (I2 0 8).toInt ≤ 10; exact k5)⟩, ⟨(by show 0 ≤ (I2 1 5).toInt ∧ (I2 1 5).toInt ≤ 30; exact hI2H.1), (by show 0 ≤ (I2 1 11).toInt ∧ (I2 1 11).toInt ≤ 200; exact hI2H.2)⟩, f3, (Or.inl ⟨rfl, (by omega), h7⟩)⟩
  · have h9 := h6
    exact z_zret hx hb hr (by decide) hK hS (Nat.le_of_ble_eq_true rfl) (Nat.le_of_ble_eq_true rfl) hlocks dX11_undo_12 (shC c, ad, I2, JX, PC c ad) hW ⟨I2, rfl, ⟨(by show 0 ≤ (I2 0 0).toInt ∧ (I2 0 0).toInt ≤ 719; exact k4), (by show 0 ≤ (I2 0 8).toInt ∧ (I2 0 8).toInt ≤ 10; exact k5)⟩, ⟨(by show 0 ≤ (I2 1 5).toInt ∧ (I2 1 5).toInt ≤ 30; exact hI2H.1), (by show 0 ≤ (I2 1 11).toInt ∧ (I2 1 11).toInt ≤ 200; exact hI2H.2)⟩, f3, (Or.inr ⟨rfl, (by omega), h7⟩)⟩
noncomputable def L_X12_undo_r : z_L := [(10, 999)]
set_option maxHeartbeats 8000000 in
set_option maxRecDepth 100000 in
theorem sx_X12_undo_r (l : Launch) (G : z_G) (ad : Nat → Nat) (I : z_I) (J : z_J) (hma : z_ima I) (a1 : Int32) : z_M l yX12_undo wsX12_undo { frames := 1, cells := 0, slots := 0, locals := 12 } [.ref (ad 0), .int a1] G (shM, ad, I, J, PM ad) (fun r u1 => ∃ (I1 : z_I) (J1 : z_J), u1 = (shM, ad, I1, J1, PM ad) ∧ z_ima I1 ∧ z_fr L_X12_undo_r I1 I ∧ ((r = 1 ∧ (0 ≤ a1.toInt ∧ a1.toInt < (I 0 2).toInt ∧ (I 10 a1.toNatClampNeg).toInt < 0) ∧ ∀ j, I1 10 j = if j = a1.toNatClampNeg then (I 0 0) else I 10 j) ∨ (r = 0 ∧ ¬ (0 ≤ a1.toInt ∧ a1.toInt < (I 0 2).toInt ∧ (I 10 a1.toNatClampNeg).toInt < 0) ∧ ∀ j, I1 10 j = I 10 j))) 0 0 := by
  intro sz
  refine z_headQ (cc := cX12_undo) (maxL := 2) (ret := (some .boolean)) (by decide) rfl (Nat.le_of_ble_eq_true rfl) ?_
  intro p e s m below meth c0 ls hIn hK hsz hW hl
  obtain ⟨hx, hb, hr, hml, hown, hts, hlocks, hname⟩ := hIn
  subst hsz
  have hown : s.vm.findClass RX12 = some m.cls := hown
  have hA : ∀ q : Nat, s.heap.size ≤ q → z_A (shM, ad, I, J, PM ad) s.heap.size q := fun q h => Or.inr h
  generalize hAe : z_A (shM, ad, I, J, PM ad) s.heap.size = A at *
  have hS : va_S A s.heap s.heap [] := va_S.rf
  have hl : lv_has ls 2 [(0, .ref (ad 0)), (1, .int a1)] := hl
  refine lv_iload_n hx hb dX12_undo_0 rfl (lv_at hl 1 rfl) ?_
  refine lv_if_lt (tgt := 21) hx hb dX12_undo_1 (by decide) (fun c1 => ?_) (fun c1 => ?_)
  · have g2 := z_f_lt rfl z_l0 c1
    have b3 := Int32.toInt_lt a1
    refine lv_iconst (v := 0) hx hb dX12_undo_21 (by decide) ?_
    exact z_zret hx hb hr (by decide) hK hS (Nat.le_of_ble_eq_true rfl) (Nat.le_of_ble_eq_true rfl) hlocks dX12_undo_22 (shM, ad, I, J, PM ad) hW ⟨I, J, rfl, ⟨(by show 0 ≤ (I 0 0).toInt ∧ (I 0 0).toInt ≤ 719; exact hma.1), (by show 0 ≤ (I 0 1).toInt ∧ (I 0 1).toInt ≤ 30; exact hma.2.1), (by show 0 ≤ (I 0 2).toInt ∧ (I 0 2).toInt ≤ 200; exact hma.2.2)⟩, z_fr_0, (Or.inr ⟨rfl, (by omega), (fun j => rfl)⟩)⟩
  · have g4 := z_f_nlt rfl z_l0 c1
    have b5 := Int32.toInt_lt a1
    refine lv_iload_n hx hb dX12_undo_4 rfl (lv_at hl 1 rfl) ?_
    refine lv_aload_n hx hb dX12_undo_5 rfl (lv_at hl 0 rfl) ?_
    have r6 : 0 ≤ (I 0 2).toInt ∧ (I 0 2).toInt ≤ 200 := hma.2.2
    refine z_get (T := TX12) (N := 96) (ci := 12) (i := 0) (v := .int (I 0 2)) hx hb hts zj_X12_undo_X12 hown hK hW rfl rfl 2 (by decide) (hts (.fieldLink RX12 246 "PetrolBoardModel" "notes" "I") (me_s (me_l (List.mem_of_getElem? (i := 0) rfl)))) (fun _ h => h) rfl dX12_undo_6 ?_
    refine lv_icmp_ge (tgt := 21) hx hb dX12_undo_9 (by decide) (fun c7 => ?_) (fun c7 => ?_)
    · have g8 := z_f_ge rfl rfl c7
      refine lv_iconst (v := 0) hx hb dX12_undo_21 (by decide) ?_
      exact z_zret hx hb hr (by decide) hK hS (Nat.le_of_ble_eq_true rfl) (Nat.le_of_ble_eq_true rfl) hlocks dX12_undo_22 (shM, ad, I, J, PM ad) hW ⟨I, J, rfl, ⟨(by show 0 ≤ (I 0 0).toInt ∧ (I 0 0).toInt ≤ 719; exact hma.1), (by show 0 ≤ (I 0 1).toInt ∧ (I 0 1).toInt ≤ 30; exact hma.2.1), (by show 0 ≤ (I 0 2).toInt ∧ (I 0 2).toInt ≤ 200; exact hma.2.2)⟩, z_fr_0, (Or.inr ⟨rfl, (by omega), (fun j => rfl)⟩)⟩
    · have g9 := z_f_nge rfl rfl c7
      refine lv_aload_n hx hb dX12_undo_12 rfl (lv_at hl 0 rfl) ?_
      refine z_get (T := TX12) (N := 96) (ci := 12) (i := 0) (v := .ref (ad 10)) hx hb hts zj_X12_undo_X12 hown hK hW rfl rfl 12 (by decide) (hts (.fieldLink RX12 37 "PetrolBoardModel" "noteGone" "[I") (me_s (me_l (List.mem_of_getElem? (i := 1) rfl)))) (fun _ h => h) rfl dX12_undo_13 ?_
      refine lv_iload_n hx hb dX12_undo_16 rfl (lv_at hl 1 rfl) ?_
      refine z_iald (i := 10) hx hb hK hW rfl (z_ix rfl (by omega) (by omega)) dX12_undo_17 ?_
      refine lv_topi (fun x10 ex10 => ?_)
      refine lv_if_lt (tgt := 23) hx hb dX12_undo_18 (by decide) (fun c11 => ?_) (fun c11 => ?_)
      · have g12 := z_f_lt rfl z_l0 c11
        have b13 := Int32.toInt_lt x10
        refine lv_aload_n hx hb dX12_undo_23 rfl (lv_at hl 0 rfl) ?_
        refine z_get (T := TX12) (N := 96) (ci := 12) (i := 0) (v := .ref (ad 10)) hx hb hts zj_X12_undo_X12 hown hK hW rfl rfl 12 (by decide) (hts (.fieldLink RX12 37 "PetrolBoardModel" "noteGone" "[I") (me_s (me_l (List.mem_of_getElem? (i := 1) rfl)))) (fun _ h => h) rfl dX12_undo_24 ?_
        refine lv_iload_n hx hb dX12_undo_27 rfl (lv_at hl 1 rfl) ?_
        refine lv_aload_n hx hb dX12_undo_28 rfl (lv_at hl 0 rfl) ?_
        have r14 : 0 ≤ (I 0 0).toInt ∧ (I 0 0).toInt ≤ 719 := hma.1
        refine z_get (T := TX12) (N := 96) (ci := 12) (i := 0) (v := .int (I 0 0)) hx hb hts zj_X12_undo_X12 hown hK hW rfl rfl 0 (by decide) (hts (.fieldLink RX12 232 "PetrolBoardModel" "today" "I") (me_s (me_l (List.mem_of_getElem? (i := 2) rfl)))) (fun _ h => h) rfl dX12_undo_29 ?_
        refine z_iast (i := 10) hx hb hK hW hS rfl (z_ix rfl (by omega) (by omega)) dX12_undo_32 (fun H locs hz1 hW hS => ?_)
        obtain ⟨I15, eI15⟩ : ∃ K : z_I, K = z_up I 10 a1.toNatClampNeg (I 0 0) := ⟨_, rfl⟩
        rw [← eI15] at hW
        have f16 := z_fr_a z_fr_0 (show z_wa L_X12_undo_r 10 = true by decide) eI15
        refine lv_iconst (v := 1) hx hb dX12_undo_33 (by decide) ?_
        exact z_zret hx hb hr (by decide) hK hS (Nat.le_of_ble_eq_true rfl) (Nat.le_of_ble_eq_true rfl) hlocks dX12_undo_34 (shM, ad, I15, J, PM ad) hW ⟨I15, J, rfl, ⟨(by show 0 ≤ (I15 0 0).toInt ∧ (I15 0 0).toInt ≤ 719; rw [eI15, z_up_n (by decide)]; exact hma.1), (by show 0 ≤ (I15 0 1).toInt ∧ (I15 0 1).toInt ≤ 30; rw [eI15, z_up_n (by decide)]; exact hma.2.1), (by show 0 ≤ (I15 0 2).toInt ∧ (I15 0 2).toInt ≤ 200; rw [eI15, z_up_n (by decide)]; exact hma.2.2)⟩, f16, (Or.inl ⟨rfl, (by have := congrArg Int32.toInt ex10; omega), (fun j => by rw [eI15, z_up_j])⟩)⟩
      · have g17 := z_f_nlt rfl z_l0 c11
        have b18 := Int32.toInt_lt x10
        refine lv_iconst (v := 0) hx hb dX12_undo_21 (by decide) ?_
        exact z_zret hx hb hr (by decide) hK hS (Nat.le_of_ble_eq_true rfl) (Nat.le_of_ble_eq_true rfl) hlocks dX12_undo_22 (shM, ad, I, J, PM ad) hW ⟨I, J, rfl, ⟨(by show 0 ≤ (I 0 0).toInt ∧ (I 0 0).toInt ≤ 719; exact hma.1), (by show 0 ≤ (I 0 1).toInt ∧ (I 0 1).toInt ≤ 30; exact hma.2.1), (by show 0 ≤ (I 0 2).toInt ∧ (I 0 2).toInt ≤ 200; exact hma.2.2)⟩, z_fr_0, (Or.inr ⟨rfl, (by have := congrArg Int32.toInt ex10; omega), (fun j => rfl)⟩)⟩