section SG60z1


/-! who was POURED dyed fuel -/
noncomputable def z_ld (w : Nat → Int) (d : Nat → Bool) (h : Int) : Nat → Bool
  | 0 => false
  | n + 1 => if w n = h then d n else z_ld w d h n
theorem z_ld_y {w : Nat → Int} {d : Nat → Bool} {h : Int} {n : Nat} (q : w n = h) : z_ld w d h (n + 1) = d n := if_pos q
theorem z_ld_n {w : Nat → Int} {d : Nat → Bool} {h : Int} {n : Nat} (q : ¬ w n = h) : z_ld w d h (n + 1) = z_ld w d h n := if_neg q
theorem z_ld_c {w w1 : Nat → Int} {d d1 : Nat → Bool} {h : Int} : ∀ n : Nat, (∀ j, j < n → w1 j = w j ∧ d1 j = d j) → z_ld w1 d1 h n = z_ld w d h n
  | 0, _ => rfl
  | n + 1, hc => by
    obtain ⟨h1, h2⟩ := hc n (Nat.lt_succ_self n)
    have ih := z_ld_c (h := h) n (fun j hj => hc j (by omega))
    by_cases q : w n = h
    · rw [z_ld_y q, z_ld_y (h1.trans q), h2]
    · rw [z_ld_n q, z_ld_n (fun z => q (h1.symm.trans z)), ih]
theorem z_ld_ne {x : Int} : x ≠ 0 ↔ decide (x ≠ 0) = true := ⟨fun q => decide_eq_true q, fun q => of_decide_eq_true q⟩
noncomputable def z_pw (I : z_I) (j : Nat) : Int := (I 32 j).toInt
noncomputable def z_pd (I : z_I) (j : Nat) : Int := (I 37 j).toInt
noncomputable def z_mw (I : z_I) (j : Nat) : Int := (I 35 j).toInt
noncomputable def z_md (I : z_I) (j : Nat) : Int := (I 42 j).toInt
noncomputable def z_lx (I : z_I) (h : Int) (n : Nat) : Bool := z_ld (z_pw I) (fun j => decide (z_pd I j = 1)) h n
noncomputable def z_lm (I : z_I) (h : Int) (n : Nat) : Bool := z_ld (z_mw I) (fun j => decide (z_md I j ≠ 0)) h n
theorem z_lx_0 {I : z_I} {h : Int} : z_lx I h 0 = false := rfl
theorem z_lx_n {I : z_I} {h : Int} {n : Nat} (q : ¬ z_pw I n = h) : z_lx I h (n + 1) = z_lx I h n := z_ld_n q
theorem z_lx_1 {I : z_I} {h : Int} {n : Nat} (q : z_pw I n = h) (d : z_pd I n = 1) : z_lx I h (n + 1) = true := (z_ld_y q).trans (decide_eq_true d)
theorem z_lx_2 {I : z_I} {h : Int} {n : Nat} (q : z_pw I n = h) (d : ¬ z_pd I n = 1) : z_lx I h (n + 1) = false := (z_ld_y q).trans (decide_eq_false d)
theorem z_lm_n {I : z_I} {h x : Int} {n : Nat} (q : ¬ z_mw I n = h) (b : x ≠ 0 ↔ z_lm I h n = true) : x ≠ 0 ↔ z_lm I h (n + 1) = true := by
  rw [show z_lm I h (n + 1) = z_lm I h n from z_ld_n q]
  exact b
theorem z_lm_y {I : z_I} {h x : Int} {n : Nat} (q : z_mw I n = h) (b : z_md I n = x) : x ≠ 0 ↔ z_lm I h (n + 1) = true := by
  rw [show z_lm I h (n + 1) = decide (z_md I n ≠ 0) from z_ld_y q, b]
  exact z_ld_ne
theorem z_kx_c {I K : z_I} {h d kn : Int} (hc : z_nsX K I) : ∀ n : Nat, z_kx K h d kn n = z_kx I h d kn n
  | 0 => rfl
  | n + 1 => by
    obtain ⟨a1, a2, a3, a4, a5⟩ := hc n
    rw [z_kx, z_kx, z_kx_c hc n, a1, a2, a3, a4, a5]
theorem z_km_c {I K : z_I} {h d kn : Int} (hc : z_nsM K I) : ∀ n : Nat, z_km K h d kn n = z_km I h d kn n
  | 0 => rfl
  | n + 1 => by
    obtain ⟨a1, a2, a3, a4, a5⟩ := hc n
    rw [z_km, z_km, z_km_c hc n, a1, a3, a4, a5, (hc (z_km I h d kn n).toNat).2.2.1]
theorem z_kmr_c {I K : z_I} {h d kn : Int} (hc : z_nsM K I) (n : Nat) : z_kmr K h d kn n = z_kmr I h d kn n := by
  unfold z_kmr
  rw [z_km_c hc n, (hc (z_km I h d kn n).toNat).2.1]
/-- the CLASS of a HOLDER today -/
noncomputable def z_fx (I : z_I) (a : Int32) : Int := (z_kx I a.toInt (I 0 0).toInt (I 0 0).toInt (I 1 11).toNatClampNeg).2
noncomputable def z_fm (I : z_I) (a : Int32) : Int := z_kmr I a.toInt (I 0 0).toInt (I 0 0).toInt (I 0 2).toNatClampNeg
theorem z_fx_c {I K : z_I} {a : Int32} (hc : z_nsX K I) (h1 : K 0 0 = I 0 0) (h2 : K 1 11 = I 1 11) : z_fx K a = z_fx I a := by
  unfold z_fx
  rw [h1, h2, z_kx_c hc]
theorem z_fm_c {I K : z_I} {a : Int32} (hc : z_nsM K I) (h1 : K 0 0 = I 0 0) (h2 : K 0 2 = I 0 2) : z_fm K a = z_fm I a := by
  unfold z_fm
  rw [h1, h2, z_kmr_c hc]
/-- the rows of HOLDER and of dyed are the same on both sides -/
noncomputable def z_RD (Ix Im : z_I) : Prop := ∀ j : Nat, (j : Int) < (Ix 30 8).toInt → Ix 32 j = Im 35 j ∧ ((Ix 37 j).toInt = 1 ↔ (Im 42 j).toInt ≠ 0)
theorem z_RD_same {Ix Im Ix1 Im1 : z_I} (h : z_RD Ix Im) (eN : (Ix1 30 8).toInt = (Ix 30 8).toInt) (hx : ∀ j, Ix1 32 j = Ix 32 j ∧ Ix1 37 j = Ix 37 j) (hm : ∀ j, Im1 35 j = Im 35 j ∧ Im1 42 j = Im 42 j) : z_RD Ix1 Im1 := fun j hj => by
  rw [(hx j).1, (hx j).2, (hm j).1, (hm j).2]
  exact h j (by omega)
theorem z_RD_pour {Ix Im Ix1 Im1 : z_I} {n n1 : Nat} {a b v w : Int32} (h : z_RD Ix Im) (eN : (Ix1 30 8).toInt = (Ix 30 8).toInt + 1) (en : (n : Int) = (Ix 30 8).toInt) (en1 : n1 = n) (hx1 : ∀ j, Ix1 32 j = if j = n then a else Ix 32 j) (hx2 : ∀ j, Ix1 37 j = if j = n then v else Ix 37 j) (hm1 : ∀ j, Im1 35 j = if j = n1 then b else Im 35 j) (hm2 : ∀ j, Im1 42 j = if j = n1 then w else Im 42 j) (ea : b = a) (hv : v.toInt = 1 ↔ w.toInt ≠ 0) : z_RD Ix1 Im1 := fun j hj => by
  subst en1 ea
  rw [hx1, hx2, hm1, hm2]
  by_cases q : j = n1
  · simp only [if_pos q]
    exact ⟨trivial, hv⟩
  · simp only [if_neg q]
    exact h j (by omega)
theorem z_RD_l {Ix Im : z_I} (h : z_RD Ix Im) {n m : Nat} {a : Int} (hn : (n : Int) ≤ (Ix 30 8).toInt) (e : m = n) : z_lx Ix a n = z_lm Im a m := by
  subst e
  unfold z_lx z_lm
  refine z_ld_c _ (fun j hj => ?_)
  obtain ⟨h1, h2⟩ := h j (by omega)
  refine ⟨congrArg Int32.toInt h1, ?_⟩
  show decide ((Ix 37 j).toInt = 1) = decide ((Im 42 j).toInt ≠ 0)
  exact decide_eq_decide.mpr h2
theorem z_RD_found {b1 b2 : Bool} {k1 k2 r1 r2 : Int} {C1 C2 : Prop} (hC : C1 ↔ C2) (hb : b1 = b2) (hk : k1 = k2) (h1 : (¬ C1 ∧ r1 = -1) ∨ (C1 ∧ ((r1 = 1 ∧ b1 = true ∧ ¬ k1 = 2) ∨ (r1 = 0 ∧ ¬ (b1 = true ∧ ¬ k1 = 2))))) (h2 : (¬ C2 ∧ r2 = -1) ∨ (C2 ∧ ((r2 = 1 ∧ b2 = true ∧ ¬ k2 = 2) ∨ (r2 = 0 ∧ ¬ (b2 = true ∧ ¬ k2 = 2))))) : r1 = r2 := by
  subst hb hk
  rcases h1 with ⟨a, b⟩ | ⟨a, ⟨b, c⟩ | ⟨b, c⟩⟩ <;> rcases h2 with ⟨d, e⟩ | ⟨d, ⟨e, f⟩ | ⟨e, f⟩⟩
  · exact b.trans e.symm
  · exact absurd (hC.mpr d) a
  · exact absurd (hC.mpr d) a
  · exact absurd (hC.mp a) d
  · exact b.trans e.symm
  · exact absurd c f
  · exact absurd (hC.mp a) d
  · exact absurd f c
  · exact b.trans e.symm
set_option maxHeartbeats 8000000 in
set_option maxRecDepth 100000 in
theorem sx_X11_isFarmerNow_d (l : Launch) (G : z_G) (ad : Nat → Nat) (c : z_C) (I : z_I) (hH : z_iH I) (hB : z_iB I) (a1 : Int32) (hc : z_okc c) (h10 : c.1 ≤ 10) : z_M l yX11_isFarmerNow wsX11_isFarmerNow { frames := 2, cells := 0, slots := 0, locals := 39 } [.ref (ad 0), .int a1] G (shC c, ad, I, JX, PC c ad) (fun r u1 => u1 = (shC c, ad, I, JX, PC c ad) ∧ ((r = 1 ∧ z_fx I a1 = 2) ∨ (r = 0 ∧ ¬ z_fx I a1 = 2))) 0 0 := by
  intro sz
  refine z_headQ (cc := cX11_isFarmerNow) (maxL := 2) (ret := (some .boolean)) (by decide) rfl (Nat.le_of_ble_eq_true rfl) ?_
  intro p e s m below meth c0 ls hIn hK hsz hW hl
  obtain ⟨hx, hb, hr, hml, hown, hts, hlocks, hname⟩ := hIn
  subst hsz
  have hown : s.vm.findClass RX11 = some m.cls := hown
  have hA : ∀ q : Nat, s.heap.size ≤ q → z_A (shC c, ad, I, JX, PC c ad) s.heap.size q := fun q h => Or.inr h
  generalize hAe : z_A (shC c, ad, I, JX, PC c ad) s.heap.size = A at *
  have hS : va_S A s.heap s.heap [] := va_S.rf
  have hl : lv_has ls 2 [(0, .ref (ad 0)), (1, .int a1)] := hl
  refine lv_aload_n hx hb dX11_isFarmerNow_0 rfl (lv_at hl 0 rfl) ?_
  refine z_get (T := TX11) (N := 13) (ci := 11) (i := 0) (v := .ref (ad 1)) hx hb hts zj_X11_isFarmerNow_X11 hown hK hW rfl rfl 2 (by decide) (hts (.fieldLink RX11 16 "PetrolBoard" "holders" "LPetrolBoard$Holders;") (me_s (me_l (me_l (List.mem_of_getElem? (i := 0) rfl))))) (fun _ h => h) rfl dX11_isFarmerNow_1 ?_
  refine lv_iload_n hx hb dX11_isFarmerNow_4 rfl (lv_at hl 1 rfl) ?_
  refine lv_aload_n hx hb dX11_isFarmerNow_5 rfl (lv_at hl 0 rfl) ?_
  have r1 : 0 ≤ (I 0 0).toInt ∧ (I 0 0).toInt ≤ 719 := hB.1
  refine z_get (T := TX11) (N := 13) (ci := 11) (i := 0) (v := .int (I 0 0)) hx hb hts zj_X11_isFarmerNow_X11 hown hK hW rfl rfl 0 (by decide) (hts (.fieldLink RX11 85 "PetrolBoard" "today" "I") (me_s (me_l (me_l (List.mem_of_getElem? (i := 1) rfl))))) (fun _ h => h) rfl dX11_isFarmerNow_6 ?_
  refine lv_aload_n hx hb dX11_isFarmerNow_9 rfl (lv_at hl 0 rfl) ?_
  refine z_get (T := TX11) (N := 13) (ci := 11) (i := 0) (v := .int (I 0 0)) hx hb hts zj_X11_isFarmerNow_X11 hown hK hW rfl rfl 0 (by decide) (hts (.fieldLink RX11 85 "PetrolBoard" "today" "I") (me_s (me_l (me_l (List.mem_of_getElem? (i := 1) rfl))))) (fun _ h => h) rfl dX11_isFarmerNow_10 ?_
  refine z_ci hW hS hA (va_runV (As := [.int a1, .int (I 0 0), .int (I 0 0)]) (rest := []) ⟨hx, hb, hml, hown, hts⟩ (sx_X2_kindOn_r l G ad c I ⟨(by show 0 ≤ (I 1 5).toInt ∧ (I 1 5).toInt ≤ 30; exact hH.1), (by show 0 ≤ (I 1 11).toInt ∧ (I 1 11).toInt ≤ 200; exact hH.2)⟩ a1 (I 0 0) (I 0 0) _) (cwV 3 hts gX11_isFarmerNow_X2_kindOn rfl rfl rfl (by decide +kernel) ⟨Nat.le_of_ble_eq_true rfl, Nat.le_of_ble_eq_true rfl⟩) (z_preV (i := 1) hK hW rfl rfl) rfl rfl hl.1 rfl (lv_room (Nat.le_of_ble_eq_true rfl)) dX11_isFarmerNow_13 ⟨Nat.le_of_ble_eq_true rfl, Nat.le_of_ble_eq_true rfl⟩) (fun r u1 H locs hp hW hS => ?_)
  obtain ⟨e9, hp⟩ := hp
  rw [e9] at hW
  refine lv_topi (fun x2 ex2 => ?_)
  have h3 := hp
  rw [← ex2] at h3
  refine lv_iconst (v := 2) hx hb dX11_isFarmerNow_16 (by decide) ?_
  refine lv_icmp_ne (tgt := 24) hx hb dX11_isFarmerNow_17 (by decide) (fun c4 => ?_) (fun c4 => ?_)
  · have g5 := z_f_ne rfl z_l2 c4
    have b6 := Int32.toInt_lt x2
    refine lv_iconst (v := 0) hx hb dX11_isFarmerNow_24 (by decide) ?_
    exact z_zret hx hb hr (by decide) hK hS (Nat.le_of_ble_eq_true rfl) (Nat.le_of_ble_eq_true rfl) hlocks dX11_isFarmerNow_25 (shC c, ad, I, JX, PC c ad) hW ⟨rfl, (Or.inr ⟨rfl, (by unfold z_fx; omega)⟩)⟩
  · have g7 := z_f_eq rfl z_l2 c4
    have b8 := Int32.toInt_lt x2
    refine lv_iconst (v := 1) hx hb dX11_isFarmerNow_20 (by decide) ?_
    refine lv_goto (tgt := 25) hx hb dX11_isFarmerNow_21 (by decide) ?_
    exact z_zret hx hb hr (by decide) hK hS (Nat.le_of_ble_eq_true rfl) (Nat.le_of_ble_eq_true rfl) hlocks dX11_isFarmerNow_25 (shC c, ad, I, JX, PC c ad) hW ⟨rfl, (Or.inl ⟨rfl, (by unfold z_fx; omega)⟩)⟩
set_option maxHeartbeats 8000000 in
set_option maxRecDepth 100000 in
theorem sx_X8_lastWasDyed_d (l : Launch) (G : z_G) (ad : Nat → Nat) (c : z_C) (I : z_I) (hP : z_iP I) (a1 : Int32) : z_M l yX8_lastWasDyed wsX8_lastWasDyed { frames := 1, cells := 0, slots := 0, locals := 40 } [.ref (ad 30), .int a1] G (shC c, ad, I, JX, PC c ad) (fun r u1 => u1 = (shC c, ad, I, JX, PC c ad) ∧ ((r = 1 ∧ z_lx I a1.toInt (I 30 8).toNatClampNeg = true) ∨ (r = 0 ∧ z_lx I a1.toInt (I 30 8).toNatClampNeg = false))) 0 0 := by
  intro sz
  refine z_headQ (cc := cX8_lastWasDyed) (maxL := 3) (ret := (some .boolean)) (by decide) rfl (Nat.le_of_ble_eq_true rfl) ?_
  intro p e s m below meth c0 ls hIn hK hsz hW hl
  obtain ⟨hx, hb, hr, hml, hown, hts, hlocks, hname⟩ := hIn
  subst hsz
  have hown : s.vm.findClass RX8 = some m.cls := hown
  have hA : ∀ q : Nat, s.heap.size ≤ q → z_A (shC c, ad, I, JX, PC c ad) s.heap.size q := fun q h => Or.inr h
  generalize hAe : z_A (shC c, ad, I, JX, PC c ad) s.heap.size = A at *
  have hS : va_S A s.heap s.heap [] := va_S.rf
  have hl : lv_has ls 3 [(0, .ref (ad 30)), (1, .int a1)] := hl
  refine lv_aload_n hx hb dX8_lastWasDyed_0 rfl (lv_at hl 0 rfl) ?_
  have r1 : 0 ≤ (I 30 8).toInt ∧ (I 30 8).toInt ≤ 300 := hP
  refine z_get (T := TX8) (N := 9) (ci := 8) (i := 30) (v := .int (I 30 8)) hx hb hts zj_X8_lastWasDyed_X8 hown hK hW rfl rfl 8 (by decide) (hts (.fieldLink RX8 36 "PetrolBoard$Pours" "number" "I") (me_s (me_l (List.mem_of_getElem? (i := 0) rfl)))) (fun _ h => h) rfl dX8_lastWasDyed_1 ?_
  refine lv_sipush (v := 300) hx hb dX8_lastWasDyed_4 (by decide) ?_
  refine va_mmin (x := (I 30 8)) (y := 300) hx hb (hml.trans hl.1.symm) hown (hts (.methodLink RX8 44 Lib.Math.min.name) (me_s (me_l (List.mem_of_getElem? (i := 1) rfl)))) (hts (.static Lib.Math.min.name) (me_s (me_l (List.mem_of_getElem? (i := 2) rfl)))) (hts (.initialized "java/lang/Math") (me_s (me_l (List.mem_of_getElem? (i := 3) rfl)))) (hts (.code Lib.Math.min.name Lib.Math.min.code 2 (some .int)) (me_s (me_l (List.mem_of_getElem? (i := 4) rfl)))) (Nat.le_of_ble_eq_true rfl) (Nat.le_of_ble_eq_true rfl) (Nat.le_of_ble_eq_true rfl) (Nat.le_of_ble_eq_true rfl) dX8_lastWasDyed_7 ?_
  refine lv_topi (fun x2 ex2 => ?_)
  have tx2 := z_tmmin ex2 rfl z_l300
  refine lv_iconst (v := 1) hx hb dX8_lastWasDyed_10 (by decide) ?_
  refine lv_isub hx hb dX8_lastWasDyed_11 ?_
  refine lv_topi (fun x3 ex3 => ?_)
  have tx3 : x3.toInt = x2.toInt - 1 := z_tsub ex3 rfl z_l1 (by omega) (by omega)
  refine lv_istore_n (lv' := [(2, .int x3), (0, .ref (ad 30)), (1, .int a1)]) hx hb dX8_lastWasDyed_12 rfl hl (by decide) rfl (fun ls hl => ?_)
  have lp4 : ∀ (f : Nat) (y5 : Int32) (H : Heap) (locs : List Loc) (ls : Array Slot), (y5.toInt + 2147483648 < (f : Int)) → (y5.toInt ≤ 299) → (y5.toInt ≤ x3.toInt) → (∃ i : Nat, (i : Int) = y5.toInt + 1 ∧ i ≤ (I 30 8).toNatClampNeg ∧ z_lx I a1.toInt i = z_lx I a1.toInt (I 30 8).toNatClampNeg) → z_W G A (shC c, ad, I, JX, PC c ad) H → va_S A s.heap H locs → lv_has ls 3 [(2, .int y5), (0, .ref (ad 30)), (1, .int a1)] → W p l e (headSpec wsX8_lastWasDyed { frames := 1, cells := 0, slots := 0, locals := 40 }).room s m ([.ref (ad 30), .int a1] : List Value).toArray below meth c0 H locs 0 0 (MQ below (va_Qi (fun (r : Int32) (u1 : z_U) => u1 = (shC c, ad, I, JX, PC c ad) ∧ ((r = 1 ∧ z_lx I a1.toInt (I 30 8).toNatClampNeg = true) ∨ (r = 0 ∧ z_lx I a1.toInt (I 30 8).toNatClampNeg = false))) (z_B G A) A) ([.ref (ad 30), .int a1] : List Value).toArray s 0 0 A) (F0 m 13 ls []) := by
    intro f
    induction f with
    | zero => intro y5 H locs ls lp4m lp4u2 lp4z lp4B hW hS hl; exact absurd lp4m (by have := Int32.toInt_lt y5; have := Int32.le_toInt y5; omega)
    | succ f lp4ih =>
      intro y5 H locs ls lp4m lp4u2 lp4z lp4B hW hS hl
      refine lv_iload_n hx hb dX8_lastWasDyed_13 rfl (lv_at hl 0 rfl) ?_
      refine lv_if_lt (tgt := 49) hx hb dX8_lastWasDyed_14 (by decide) (fun c6 => ?_) (fun c6 => ?_)
      · have g7 := z_f_lt rfl z_l0 c6
        refine lv_iconst (v := 0) hx hb dX8_lastWasDyed_49 (by decide) ?_
        exact z_zret hx hb hr (by decide) hK hS (Nat.le_of_ble_eq_true rfl) (Nat.le_of_ble_eq_true rfl) hlocks dX8_lastWasDyed_50 (shC c, ad, I, JX, PC c ad) hW ⟨rfl, (by obtain ⟨i9, hi9, hn9, hB9⟩ := lp4B; rw [← hB9, show i9 = 0 by omega]; exact Or.inr ⟨rfl, z_lx_0⟩)⟩
      · have g8 := z_f_nlt rfl z_l0 c6
        refine lv_aload_n hx hb dX8_lastWasDyed_17 rfl (lv_at hl 1 rfl) ?_
        refine z_get (T := TX8) (N := 9) (ci := 8) (i := 30) (v := .ref (ad 32)) hx hb hts zj_X8_lastWasDyed_X8 hown hK hW rfl rfl 1 (by decide) (hts (.fieldLink RX8 15 "PetrolBoard$Pours" "holder" "[I") (me_s (me_l (List.mem_of_getElem? (i := 5) rfl)))) (fun _ h => h) rfl dX8_lastWasDyed_18 ?_
        refine lv_iload_n hx hb dX8_lastWasDyed_21 rfl (lv_at hl 0 rfl) ?_
        refine z_iald (i := 32) hx hb hK hW rfl (z_ix rfl (by omega) (by omega)) dX8_lastWasDyed_22 ?_
        refine lv_topi (fun x9 ex9 => ?_)
        have h11 : z_pw I y5.toNatClampNeg = x9.toInt := by unfold z_pw; rw [ex9]
        have h12 := z_clt (x := y5) rfl (by omega)
        refine lv_iload_n hx hb dX8_lastWasDyed_23 rfl (lv_at hl 2 rfl) ?_
        refine lv_icmp_ne (tgt := 43) hx hb dX8_lastWasDyed_24 (by decide) (fun c13 => ?_) (fun c13 => ?_)
        · have g14 := z_f_ne rfl rfl c13
          have b15 := Int32.toInt_lt x9
          have b16 := Int32.toInt_lt a1
          obtain ⟨x17, ex17⟩ : ∃ y : Int32, y = y5 + (-1) := ⟨_, rfl⟩
          have tx17 : x17.toInt = y5.toInt + (-1) := z_tadd ex17 rfl z_lm1 (by omega) (by omega)
          refine lv_iinc (v := x17) (lv' := [(2, .int x17), (0, .ref (ad 30)), (1, .int a1)]) hx hb dX8_lastWasDyed_43 hl (k := 0) rfl (by rw [ex17]; rfl) (by decide) rfl (fun ls hl => ?_)
          refine lv_goto (tgt := 13) hx hb dX8_lastWasDyed_46 (by decide) ?_
          exact lp4ih x17 _ _ _ (by omega) (by omega) (by omega) (by obtain ⟨i9, hi9, hn9, hB9⟩ := lp4B; exact ⟨y5.toNatClampNeg, by omega, by omega, by rw [← hB9, show i9 = y5.toNatClampNeg + 1 by omega]; exact (z_lx_n (by omega)).symm⟩) hW hS (lv_sub hl [0, 1, 2] rfl)
        · have g18 := z_f_eq rfl rfl c13
          have b19 := Int32.toInt_lt x9
          have b20 := Int32.toInt_lt a1
          refine lv_aload_n hx hb dX8_lastWasDyed_27 rfl (lv_at hl 1 rfl) ?_
          refine z_get (T := TX8) (N := 9) (ci := 8) (i := 30) (v := .ref (ad 37)) hx hb hts zj_X8_lastWasDyed_X8 hown hK hW rfl rfl 6 (by decide) (hts (.fieldLink RX8 30 "PetrolBoard$Pours" "dyed" "[I") (me_s (me_l (List.mem_of_getElem? (i := 6) rfl)))) (fun _ h => h) rfl dX8_lastWasDyed_28 ?_
          refine lv_iload_n hx hb dX8_lastWasDyed_31 rfl (lv_at hl 0 rfl) ?_
          refine z_iald (i := 37) hx hb hK hW rfl (z_ix rfl (by omega) (by omega)) dX8_lastWasDyed_32 ?_
          refine lv_topi (fun x21 ex21 => ?_)
          have h22 : z_pd I y5.toNatClampNeg = x21.toInt := by unfold z_pd; rw [ex21]
          have h23 := z_clt (x := y5) rfl (by omega)
          refine lv_iconst (v := 1) hx hb dX8_lastWasDyed_33 (by decide) ?_
          refine lv_icmp_ne (tgt := 41) hx hb dX8_lastWasDyed_34 (by decide) (fun c24 => ?_) (fun c24 => ?_)
          · have g25 := z_f_ne rfl z_l1 c24
            have b26 := Int32.toInt_lt x21
            refine lv_iconst (v := 0) hx hb dX8_lastWasDyed_41 (by decide) ?_
            exact z_zret hx hb hr (by decide) hK hS (Nat.le_of_ble_eq_true rfl) (Nat.le_of_ble_eq_true rfl) hlocks dX8_lastWasDyed_42 (shC c, ad, I, JX, PC c ad) hW ⟨rfl, (by obtain ⟨i9, hi9, hn9, hB9⟩ := lp4B; rw [← hB9, show i9 = y5.toNatClampNeg + 1 by omega]; exact Or.inr ⟨rfl, z_lx_2 (by omega) (by omega)⟩)⟩
          · have g27 := z_f_eq rfl z_l1 c24
            have b28 := Int32.toInt_lt x21
            refine lv_iconst (v := 1) hx hb dX8_lastWasDyed_37 (by decide) ?_
            refine lv_goto (tgt := 42) hx hb dX8_lastWasDyed_38 (by decide) ?_
            exact z_zret hx hb hr (by decide) hK hS (Nat.le_of_ble_eq_true rfl) (Nat.le_of_ble_eq_true rfl) hlocks dX8_lastWasDyed_42 (shC c, ad, I, JX, PC c ad) hW ⟨rfl, (by obtain ⟨i9, hi9, hn9, hB9⟩ := lp4B; rw [← hB9, show i9 = y5.toNatClampNeg + 1 by omega]; exact Or.inl ⟨rfl, z_lx_1 (by omega) (by omega)⟩)⟩
  exact lp4 4294967296 x3 _ _ _ (z_m0d _) (by omega) (by omega) ⟨(I 30 8).toNatClampNeg, by have q9 := z_clt (x := I 30 8) rfl (by omega); omega, Nat.le_refl _, rfl⟩ hW hS (lv_sub hl [0, 1, 2] rfl)
set_option maxHeartbeats 8000000 in
set_option maxRecDepth 100000 in
theorem sx_X11_found_d (l : Launch) (G : z_G) (ad : Nat → Nat) (c : z_C) (I : z_I) (hP : z_iP I) (hH : z_iH I) (hB : z_iB I) (a1 : Int32) (hc : z_okc c) (h10 : c.1 ≤ 10) : z_M l yX11_found wsX11_found { frames := 3, cells := 0, slots := 0, locals := 62 } [.ref (ad 0), .int a1] G (shC c, ad, I, JX, PC c ad) (fun r u1 => u1 = (shC c, ad, I, JX, PC c ad) ∧ ((¬ (0 ≤ a1.toInt ∧ a1.toInt < (I 1 5).toInt) ∧ r.toInt = -1) ∨ ((0 ≤ a1.toInt ∧ a1.toInt < (I 1 5).toInt) ∧ ((r.toInt = 1 ∧ z_lx I a1.toInt (I 30 8).toNatClampNeg = true ∧ ¬ z_fx I a1 = 2) ∨ (r.toInt = 0 ∧ ¬ (z_lx I a1.toInt (I 30 8).toNatClampNeg = true ∧ ¬ z_fx I a1 = 2)))))) 0 0 := by
  intro sz
  refine z_headQ (cc := cX11_found) (maxL := 2) (ret := (some .int)) (by decide) rfl (Nat.le_of_ble_eq_true rfl) ?_
  intro p e s m below meth c0 ls hIn hK hsz hW hl
  obtain ⟨hx, hb, hr, hml, hown, hts, hlocks, hname⟩ := hIn
  subst hsz
  have hown : s.vm.findClass RX11 = some m.cls := hown
  have hA : ∀ q : Nat, s.heap.size ≤ q → z_A (shC c, ad, I, JX, PC c ad) s.heap.size q := fun q h => Or.inr h
  generalize hAe : z_A (shC c, ad, I, JX, PC c ad) s.heap.size = A at *
  have hS : va_S A s.heap s.heap [] := va_S.rf
  have hl : lv_has ls 2 [(0, .ref (ad 0)), (1, .int a1)] := hl
  refine lv_aload_n hx hb dX11_found_0 rfl (lv_at hl 0 rfl) ?_
  refine z_get (T := TX11) (N := 13) (ci := 11) (i := 0) (v := .ref (ad 1)) hx hb hts zj_X11_found_X11 hown hK hW rfl rfl 2 (by decide) (hts (.fieldLink RX11 16 "PetrolBoard" "holders" "LPetrolBoard$Holders;") (me_s (me_l (me_l (me_l (me_l (List.mem_of_getElem? (i := 0) rfl))))))) (fun _ h => h) rfl dX11_found_1 ?_
  refine lv_iload_n hx hb dX11_found_4 rfl (lv_at hl 1 rfl) ?_
  refine z_ci hW hS hA (va_runV (As := [.int a1]) (rest := []) ⟨hx, hb, hml, hown, hts⟩ (sx_X2_has_e l G ad c I ⟨(by show 0 ≤ (I 1 5).toInt ∧ (I 1 5).toInt ≤ 30; exact hH.1), (by show 0 ≤ (I 1 11).toInt ∧ (I 1 11).toInt ≤ 200; exact hH.2)⟩ a1 _) (cwV 1 hts gX11_found_X2_has rfl rfl rfl (by decide +kernel) ⟨Nat.le_of_ble_eq_true rfl, Nat.le_of_ble_eq_true rfl⟩) (z_preV (i := 1) hK hW rfl rfl) rfl rfl hl.1 rfl (lv_room (Nat.le_of_ble_eq_true rfl)) dX11_found_5 ⟨Nat.le_of_ble_eq_true rfl, Nat.le_of_ble_eq_true rfl⟩) (fun r u1 H locs hp hW hS => ?_)
  obtain ⟨e9, hp⟩ := hp
  rw [e9] at hW
  rcases hp with ⟨rfl, h1⟩ | ⟨rfl, h1⟩
  · have h2 := h1
    have r3 : 0 ≤ (I 1 5).toInt ∧ (I 1 5).toInt ≤ 30 := hH.1
    refine lv_if_ne (tgt := 13) hx hb dX11_found_8 (by decide) (fun c4 => ?_) (fun c4 => absurd c4 (by decide))
    refine lv_aload_n hx hb dX11_found_13 rfl (lv_at hl 0 rfl) ?_
    refine z_get (T := TX11) (N := 13) (ci := 11) (i := 0) (v := .ref (ad 30)) hx hb hts zj_X11_found_X11 hown hK hW rfl rfl 6 (by decide) (hts (.fieldLink RX11 44 "PetrolBoard" "pours" "LPetrolBoard$Pours;") (me_s (me_l (me_l (me_l (me_l (List.mem_of_getElem? (i := 1) rfl))))))) (fun _ h => h) rfl dX11_found_14 ?_
    refine lv_iload_n hx hb dX11_found_17 rfl (lv_at hl 1 rfl) ?_
    refine z_ci hW hS hA (va_runV (As := [.int a1]) (rest := []) ⟨hx, hb, hml, hown, hts⟩ (sx_X8_lastWasDyed_d l G ad c I (by show 0 ≤ (I 30 8).toInt ∧ (I 30 8).toInt ≤ 300; exact hP) a1 _) (cwV 1 hts gX11_found_X8_lastWasDyed rfl rfl rfl (by decide +kernel) ⟨Nat.le_of_ble_eq_true rfl, Nat.le_of_ble_eq_true rfl⟩) (z_preV (i := 30) hK hW rfl rfl) rfl rfl hl.1 rfl (lv_room (Nat.le_of_ble_eq_true rfl)) dX11_found_18 ⟨Nat.le_of_ble_eq_true rfl, Nat.le_of_ble_eq_true rfl⟩) (fun r u1 H locs hp hW hS => ?_)
    obtain ⟨e9, hp⟩ := hp
    rw [e9] at hW
    rcases hp with ⟨rfl, h5⟩ | ⟨rfl, h5⟩
    · refine lv_if_eq (tgt := 36) hx hb dX11_found_21 (by decide) (fun c6 => absurd c6 (by decide)) (fun c6 => ?_)
      refine lv_aload_n hx hb dX11_found_24 rfl (lv_at hl 0 rfl) ?_
      refine lv_iload_n hx hb dX11_found_25 rfl (lv_at hl 1 rfl) ?_
      refine z_ci hW hS hA (va_runV (As := [.int a1]) (rest := []) ⟨hx, hb, hml, hown, hts⟩ (sx_X11_isFarmerNow_d l G ad c I ⟨(by show 0 ≤ (I 1 5).toInt ∧ (I 1 5).toInt ≤ 30; exact hH.1), (by show 0 ≤ (I 1 11).toInt ∧ (I 1 11).toInt ≤ 200; exact hH.2)⟩ ⟨(by show 0 ≤ (I 0 0).toInt ∧ (I 0 0).toInt ≤ 719; exact hB.1), (by show 0 ≤ (I 0 8).toInt ∧ (I 0 8).toInt ≤ 10; exact hB.2)⟩ a1 hc h10 _) (cwV 1 hts gX11_found_X11_isFarmerNow rfl rfl rfl (by decide +kernel) ⟨Nat.le_of_ble_eq_true rfl, Nat.le_of_ble_eq_true rfl⟩) (z_preV (i := 0) hK hW rfl rfl) rfl rfl hl.1 rfl (lv_room (Nat.le_of_ble_eq_true rfl)) dX11_found_26 ⟨Nat.le_of_ble_eq_true rfl, Nat.le_of_ble_eq_true rfl⟩) (fun r u1 H locs hp hW hS => ?_)
      obtain ⟨e9, hp⟩ := hp
      rw [e9] at hW
      rcases hp with ⟨rfl, h7⟩ | ⟨rfl, h7⟩
      · refine lv_if_ne (tgt := 36) hx hb dX11_found_29 (by decide) (fun c8 => ?_) (fun c8 => absurd c8 (by decide))
        refine lv_iconst (v := 0) hx hb dX11_found_36 (by decide) ?_
        exact z_iret hx hb hr hK hS (Nat.le_of_ble_eq_true rfl) (Nat.le_of_ble_eq_true rfl) hlocks dX11_found_37 (shC c, ad, I, JX, PC c ad) hW ⟨rfl, (Or.inr ⟨by omega, Or.inr ⟨by decide, fun q => q.2 h7⟩⟩)⟩
      · refine lv_if_ne (tgt := 36) hx hb dX11_found_29 (by decide) (fun c9 => absurd (by decide) c9) (fun c9 => ?_)
        refine lv_iconst (v := 1) hx hb dX11_found_32 (by decide) ?_
        refine lv_goto (tgt := 37) hx hb dX11_found_33 (by decide) ?_
        exact z_iret hx hb hr hK hS (Nat.le_of_ble_eq_true rfl) (Nat.le_of_ble_eq_true rfl) hlocks dX11_found_37 (shC c, ad, I, JX, PC c ad) hW ⟨rfl, (Or.inr ⟨by omega, Or.inl ⟨by decide, h5, h7⟩⟩)⟩
    · refine lv_if_eq (tgt := 36) hx hb dX11_found_21 (by decide) (fun c10 => ?_) (fun c10 => absurd (by decide) c10)
      refine lv_iconst (v := 0) hx hb dX11_found_36 (by decide) ?_
      exact z_iret hx hb hr hK hS (Nat.le_of_ble_eq_true rfl) (Nat.le_of_ble_eq_true rfl) hlocks dX11_found_37 (shC c, ad, I, JX, PC c ad) hW ⟨rfl, (Or.inr ⟨by omega, Or.inr ⟨by decide, fun q => absurd (h5.symm.trans q.1) Bool.false_ne_true⟩⟩)⟩
  · have h11 := h1
    have r12 : 0 ≤ (I 1 5).toInt ∧ (I 1 5).toInt ≤ 30 := hH.1
    refine lv_if_ne (tgt := 13) hx hb dX11_found_8 (by decide) (fun c13 => absurd (by decide) c13) (fun c13 => ?_)
    refine lv_iconst (v := (-1)) hx hb dX11_found_11 (by decide) ?_
    exact z_iret hx hb hr hK hS (Nat.le_of_ble_eq_true rfl) (Nat.le_of_ble_eq_true rfl) hlocks dX11_found_12 (shC c, ad, I, JX, PC c ad) hW ⟨rfl, (Or.inl ⟨by omega, by decide⟩)⟩
set_option maxHeartbeats 8000000 in
set_option maxRecDepth 100000 in
theorem sx_X8_has_d (l : Launch) (G : z_G) (ad : Nat → Nat) (c : z_C) (I : z_I) (hP : z_iP I) (a1 : Int32) : z_M l yX8_has wsX8_has { frames := 1, cells := 0, slots := 0, locals := 12 } [.ref (ad 30), .int a1] G (shC c, ad, I, JX, PC c ad) (fun r u1 => u1 = (shC c, ad, I, JX, PC c ad) ∧ ((r = 1 ∧ 0 ≤ a1.toInt ∧ a1.toInt < (I 30 8).toInt) ∨ (r = 0 ∧ ¬ (0 ≤ a1.toInt ∧ a1.toInt < (I 30 8).toInt)))) 0 0 := by
  intro sz
  refine z_headQ (cc := cX8_has) (maxL := 2) (ret := (some .boolean)) (by decide) rfl (Nat.le_of_ble_eq_true rfl) ?_
  intro p e s m below meth c0 ls hIn hK hsz hW hl
  obtain ⟨hx, hb, hr, hml, hown, hts, hlocks, hname⟩ := hIn
  subst hsz
  have hown : s.vm.findClass RX8 = some m.cls := hown
  have hA : ∀ q : Nat, s.heap.size ≤ q → z_A (shC c, ad, I, JX, PC c ad) s.heap.size q := fun q h => Or.inr h
  generalize hAe : z_A (shC c, ad, I, JX, PC c ad) s.heap.size = A at *
  have hS : va_S A s.heap s.heap [] := va_S.rf
  have hl : lv_has ls 2 [(0, .ref (ad 30)), (1, .int a1)] := hl
  refine lv_iload_n hx hb dX8_has_0 rfl (lv_at hl 1 rfl) ?_
  refine lv_if_lt (tgt := 23) hx hb dX8_has_1 (by decide) (fun c1 => ?_) (fun c1 => ?_)
  · have g2 := z_f_lt rfl z_l0 c1
    have b3 := Int32.toInt_lt a1
    refine lv_iconst (v := 0) hx hb dX8_has_23 (by decide) ?_
    exact z_zret hx hb hr (by decide) hK hS (Nat.le_of_ble_eq_true rfl) (Nat.le_of_ble_eq_true rfl) hlocks dX8_has_24 (shC c, ad, I, JX, PC c ad) hW ⟨rfl, (Or.inr ⟨rfl, by omega⟩)⟩
  · have g4 := z_f_nlt rfl z_l0 c1
    have b5 := Int32.toInt_lt a1
    refine lv_iload_n hx hb dX8_has_4 rfl (lv_at hl 1 rfl) ?_
    refine lv_aload_n hx hb dX8_has_5 rfl (lv_at hl 0 rfl) ?_
    have r6 : 0 ≤ (I 30 8).toInt ∧ (I 30 8).toInt ≤ 300 := hP
    refine z_get (T := TX8) (N := 9) (ci := 8) (i := 30) (v := .int (I 30 8)) hx hb hts zj_X8_has_X8 hown hK hW rfl rfl 8 (by decide) (hts (.fieldLink RX8 36 "PetrolBoard$Pours" "number" "I") (me_s (me_l (List.mem_of_getElem? (i := 0) rfl)))) (fun _ h => h) rfl dX8_has_6 ?_
    refine lv_icmp_ge (tgt := 23) hx hb dX8_has_9 (by decide) (fun c7 => ?_) (fun c7 => ?_)
    · have g8 := z_f_ge rfl rfl c7
      refine lv_iconst (v := 0) hx hb dX8_has_23 (by decide) ?_
      exact z_zret hx hb hr (by decide) hK hS (Nat.le_of_ble_eq_true rfl) (Nat.le_of_ble_eq_true rfl) hlocks dX8_has_24 (shC c, ad, I, JX, PC c ad) hW ⟨rfl, (Or.inr ⟨rfl, by omega⟩)⟩
    · have g9 := z_f_nge rfl rfl c7
      refine lv_iload_n hx hb dX8_has_12 rfl (lv_at hl 1 rfl) ?_
      refine lv_sipush (v := 300) hx hb dX8_has_13 (by decide) ?_
      refine lv_icmp_ge (tgt := 23) hx hb dX8_has_16 (by decide) (fun c10 => (by have g := z_f_ge rfl z_l300 c10; omega)) (fun c10 => ?_)
      have g11 := z_f_nge rfl z_l300 c10
      refine lv_iconst (v := 1) hx hb dX8_has_19 (by decide) ?_
      refine lv_goto (tgt := 24) hx hb dX8_has_20 (by decide) ?_
      exact z_zret hx hb hr (by decide) hK hS (Nat.le_of_ble_eq_true rfl) (Nat.le_of_ble_eq_true rfl) hlocks dX8_has_24 (shC c, ad, I, JX, PC c ad) hW ⟨rfl, (Or.inl ⟨rfl, by omega⟩)⟩
noncomputable def L_X8_add_d : z_L := [(31, 999), (32, 999), (33, 999), (34, 999), (36, 999), (30, 8)]
set_option maxHeartbeats 8000000 in
set_option maxRecDepth 100000 in
theorem sx_X8_add_d (l : Launch) (G : z_G) (ad : Nat → Nat) (c : z_C) (I : z_I) (hP : z_iP I) (a1 : Int32) (a2 : Int32) (a3 : Int32) (a4 : Int32) : z_M l yX8_add wsX8_add { frames := 1, cells := 0, slots := 0, locals := 12 } [.ref (ad 30), .int a1, .int a2, .int a3, .int a4] G (shC c, ad, I, JX, PC c ad) (fun r u1 => ∃ I1 : z_I, u1 = (shC c, ad, I1, JX, PC c ad) ∧ z_iP I1 ∧ z_fr L_X8_add_d I1 I ∧ (((I 30 8).toInt < 300 ∧ r.toInt = (I 30 8).toInt ∧ (I1 30 8).toInt = (I 30 8).toInt + 1 ∧ ∀ j, I1 32 j = if j = (I 30 8).toNatClampNeg then a2 else I 32 j) ∨ (¬ (I 30 8).toInt < 300 ∧ r.toInt = -1 ∧ (I1 30 8).toInt = (I 30 8).toInt ∧ ∀ j, I1 32 j = I 32 j))) 0 0 := by
  intro sz
  refine z_headQ (cc := cX8_add) (maxL := 5) (ret := (some .int)) (by decide) rfl (Nat.le_of_ble_eq_true rfl) ?_
  intro p e s m below meth c0 ls hIn hK hsz hW hl
  obtain ⟨hx, hb, hr, hml, hown, hts, hlocks, hname⟩ := hIn
  subst hsz
  have hown : s.vm.findClass RX8 = some m.cls := hown
  have hA : ∀ q : Nat, s.heap.size ≤ q → z_A (shC c, ad, I, JX, PC c ad) s.heap.size q := fun q h => Or.inr h
  generalize hAe : z_A (shC c, ad, I, JX, PC c ad) s.heap.size = A at *
  have hS : va_S A s.heap s.heap [] := va_S.rf
  have hl : lv_has ls 5 [(0, .ref (ad 30)), (1, .int a1), (2, .int a2), (3, .int a3), (4, .int a4)] := hl
  refine lv_aload_n hx hb dX8_add_0 rfl (lv_at hl 0 rfl) ?_
  have r1 : 0 ≤ (I 30 8).toInt ∧ (I 30 8).toInt ≤ 300 := hP
  refine z_get (T := TX8) (N := 9) (ci := 8) (i := 30) (v := .int (I 30 8)) hx hb hts zj_X8_add_X8 hown hK hW rfl rfl 8 (by decide) (hts (.fieldLink RX8 36 "PetrolBoard$Pours" "number" "I") (me_s (me_l (List.mem_of_getElem? (i := 0) rfl)))) (fun _ h => h) rfl dX8_add_1 ?_
  refine lv_sipush (v := 300) hx hb dX8_add_4 (by decide) ?_
  refine lv_icmp_lt (tgt := 12) hx hb dX8_add_7 (by decide) (fun c2 => ?_) (fun c2 => ?_)
  · have g3 := z_f_lt rfl z_l300 c2
    refine lv_aload_n hx hb dX8_add_12 rfl (lv_at hl 0 rfl) ?_
    refine z_get (T := TX8) (N := 9) (ci := 8) (i := 30) (v := .ref (ad 31)) hx hb hts zj_X8_add_X8 hown hK hW rfl rfl 0 (by decide) (hts (.fieldLink RX8 9 "PetrolBoard$Pours" "station" "[I") (me_s (me_l (List.mem_of_getElem? (i := 1) rfl)))) (fun _ h => h) rfl dX8_add_13 ?_
    refine lv_aload_n hx hb dX8_add_16 rfl (lv_at hl 0 rfl) ?_
    refine z_get (T := TX8) (N := 9) (ci := 8) (i := 30) (v := .int (I 30 8)) hx hb hts zj_X8_add_X8 hown hK hW rfl rfl 8 (by decide) (hts (.fieldLink RX8 36 "PetrolBoard$Pours" "number" "I") (me_s (me_l (List.mem_of_getElem? (i := 0) rfl)))) (fun _ h => h) rfl dX8_add_17 ?_
    refine lv_iload_n hx hb dX8_add_20 rfl (lv_at hl 1 rfl) ?_
    refine z_iast (i := 31) hx hb hK hW hS rfl (z_ix rfl (by omega) (by omega)) dX8_add_21 (fun H locs hz1 hW hS => ?_)
    obtain ⟨I4, eI4⟩ : ∃ K : z_I, K = z_up I 31 (I 30 8).toNatClampNeg a1 := ⟨_, rfl⟩
    rw [← eI4] at hW
    have f5 := z_fr_a z_fr_0 (show z_wa L_X8_add_d 31 = true by decide) eI4
    refine lv_aload_n hx hb dX8_add_22 rfl (lv_at hl 0 rfl) ?_
    refine z_get (T := TX8) (N := 9) (ci := 8) (i := 30) (v := .ref (ad 32)) hx hb hts zj_X8_add_X8 hown hK hW rfl rfl 1 (by decide) (hts (.fieldLink RX8 15 "PetrolBoard$Pours" "holder" "[I") (me_s (me_l (List.mem_of_getElem? (i := 2) rfl)))) (fun _ h => h) rfl dX8_add_23 ?_
    refine lv_aload_n hx hb dX8_add_26 rfl (lv_at hl 0 rfl) ?_
    refine z_get (T := TX8) (N := 9) (ci := 8) (i := 30) (v := .int (I 30 8)) hx hb hts zj_X8_add_X8 hown hK hW rfl rfl 8 (by decide) (hts (.fieldLink RX8 36 "PetrolBoard$Pours" "number" "I") (me_s (me_l (List.mem_of_getElem? (i := 0) rfl)))) (fun _ h => h) (congrArg Value.int (by rw [eI4, z_up_n (by decide)])) dX8_add_27 ?_
    refine lv_iload_n hx hb dX8_add_30 rfl (lv_at hl 2 rfl) ?_
    refine z_iast (i := 32) hx hb hK hW hS rfl (z_ix rfl (by omega) (by omega)) dX8_add_31 (fun H locs hz1 hW hS => ?_)
    obtain ⟨I6, eI6⟩ : ∃ K : z_I, K = z_up I4 32 (I 30 8).toNatClampNeg a2 := ⟨_, rfl⟩
    rw [← eI6] at hW
    have f7 := z_fr_a f5 (show z_wa L_X8_add_d 32 = true by decide) eI6
    refine lv_aload_n hx hb dX8_add_32 rfl (lv_at hl 0 rfl) ?_
    refine z_get (T := TX8) (N := 9) (ci := 8) (i := 30) (v := .ref (ad 33)) hx hb hts zj_X8_add_X8 hown hK hW rfl rfl 2 (by decide) (hts (.fieldLink RX8 18 "PetrolBoard$Pours" "coupon" "[I") (me_s (me_l (List.mem_of_getElem? (i := 3) rfl)))) (fun _ h => h) rfl dX8_add_33 ?_
    refine lv_aload_n hx hb dX8_add_36 rfl (lv_at hl 0 rfl) ?_
    refine z_get (T := TX8) (N := 9) (ci := 8) (i := 30) (v := .int (I 30 8)) hx hb hts zj_X8_add_X8 hown hK hW rfl rfl 8 (by decide) (hts (.fieldLink RX8 36 "PetrolBoard$Pours" "number" "I") (me_s (me_l (List.mem_of_getElem? (i := 0) rfl)))) (fun _ h => h) (congrArg Value.int (by rw [eI6, z_up_n (by decide), eI4, z_up_n (by decide)])) dX8_add_37 ?_
    refine lv_iload_n hx hb dX8_add_40 rfl (lv_at hl 3 rfl) ?_
    refine z_iast (i := 33) hx hb hK hW hS rfl (z_ix rfl (by omega) (by omega)) dX8_add_41 (fun H locs hz1 hW hS => ?_)
    obtain ⟨I8, eI8⟩ : ∃ K : z_I, K = z_up I6 33 (I 30 8).toNatClampNeg a3 := ⟨_, rfl⟩
    rw [← eI8] at hW
    have f9 := z_fr_a f7 (show z_wa L_X8_add_d 33 = true by decide) eI8
    refine lv_aload_n hx hb dX8_add_42 rfl (lv_at hl 0 rfl) ?_
    refine z_get (T := TX8) (N := 9) (ci := 8) (i := 30) (v := .ref (ad 34)) hx hb hts zj_X8_add_X8 hown hK hW rfl rfl 3 (by decide) (hts (.fieldLink RX8 21 "PetrolBoard$Pours" "day" "[I") (me_s (me_l (List.mem_of_getElem? (i := 4) rfl)))) (fun _ h => h) rfl dX8_add_43 ?_
    refine lv_aload_n hx hb dX8_add_46 rfl (lv_at hl 0 rfl) ?_
    refine z_get (T := TX8) (N := 9) (ci := 8) (i := 30) (v := .int (I 30 8)) hx hb hts zj_X8_add_X8 hown hK hW rfl rfl 8 (by decide) (hts (.fieldLink RX8 36 "PetrolBoard$Pours" "number" "I") (me_s (me_l (List.mem_of_getElem? (i := 0) rfl)))) (fun _ h => h) (congrArg Value.int (by rw [eI8, z_up_n (by decide), eI6, z_up_n (by decide), eI4, z_up_n (by decide)])) dX8_add_47 ?_
    refine lv_iload hx hb dX8_add_50 (lv_at hl 4 rfl) ?_
    refine z_iast (i := 34) hx hb hK hW hS rfl (z_ix rfl (by omega) (by omega)) dX8_add_52 (fun H locs hz1 hW hS => ?_)
    obtain ⟨I10, eI10⟩ : ∃ K : z_I, K = z_up I8 34 (I 30 8).toNatClampNeg a4 := ⟨_, rfl⟩
    rw [← eI10] at hW
    have f11 := z_fr_a f9 (show z_wa L_X8_add_d 34 = true by decide) eI10
    refine lv_aload_n hx hb dX8_add_53 rfl (lv_at hl 0 rfl) ?_
    refine z_get (T := TX8) (N := 9) (ci := 8) (i := 30) (v := .ref (ad 36)) hx hb hts zj_X8_add_X8 hown hK hW rfl rfl 5 (by decide) (hts (.fieldLink RX8 27 "PetrolBoard$Pours" "verdict" "[I") (me_s (me_l (List.mem_of_getElem? (i := 5) rfl)))) (fun _ h => h) rfl dX8_add_54 ?_
    refine lv_aload_n hx hb dX8_add_57 rfl (lv_at hl 0 rfl) ?_
    refine z_get (T := TX8) (N := 9) (ci := 8) (i := 30) (v := .int (I 30 8)) hx hb hts zj_X8_add_X8 hown hK hW rfl rfl 8 (by decide) (hts (.fieldLink RX8 36 "PetrolBoard$Pours" "number" "I") (me_s (me_l (List.mem_of_getElem? (i := 0) rfl)))) (fun _ h => h) (congrArg Value.int (by rw [eI10, z_up_n (by decide), eI8, z_up_n (by decide), eI6, z_up_n (by decide), eI4, z_up_n (by decide)])) dX8_add_58 ?_
    refine lv_iconst (v := (-1)) hx hb dX8_add_61 (by decide) ?_
    refine z_iast (i := 36) hx hb hK hW hS rfl (z_ix rfl (by omega) (by omega)) dX8_add_62 (fun H locs hz1 hW hS => ?_)
    obtain ⟨I12, eI12⟩ : ∃ K : z_I, K = z_up I10 36 (I 30 8).toNatClampNeg (-1) := ⟨_, rfl⟩
    rw [← eI12] at hW
    have f13 := z_fr_a f11 (show z_wa L_X8_add_d 36 = true by decide) eI12
    refine lv_aload_n hx hb dX8_add_63 rfl (lv_at hl 0 rfl) ?_
    refine lv_dup hx hb dX8_add_64 rfl ?_
    refine z_get (T := TX8) (N := 9) (ci := 8) (i := 30) (v := .int (I 30 8)) hx hb hts zj_X8_add_X8 hown hK hW rfl rfl 8 (by decide) (hts (.fieldLink RX8 36 "PetrolBoard$Pours" "number" "I") (me_s (me_l (List.mem_of_getElem? (i := 0) rfl)))) (fun _ h => h) (congrArg Value.int (by rw [eI12, z_up_n (by decide), eI10, z_up_n (by decide), eI8, z_up_n (by decide), eI6, z_up_n (by decide), eI4, z_up_n (by decide)])) dX8_add_65 ?_
    refine lv_iconst (v := 1) hx hb dX8_add_68 (by decide) ?_
    refine lv_iadd hx hb dX8_add_69 ?_
    refine lv_topi (fun x14 ex14 => ?_)
    have tx14 : x14.toInt = (I 30 8).toInt + 1 := z_tadd ex14 rfl z_l1 (by omega) (by omega)
    refine z_put (T := TX8) (N := 9) (ci := 8) (i := 30) (v := .int x14) (I1 := z_up I12 30 8 x14) (J1 := JX) (P1 := PC c ad) hx hb hts zj_X8_add_X8 tyX8 tyX8_ok nmX8 hown hK hW hS rfl rfl 8 (by decide) (hts (.fieldLink RX8 36 "PetrolBoard$Pours" "number" "I") (me_s (me_l (List.mem_of_getElem? (i := 0) rfl)))) (fun _ h => h) rfl rfl rfl (by first | rfl | exact congrArg _ z_up_s) (fun a b h ty => z_vI h ty) dX8_add_70 (fun H locs hz1 hW hS => ?_)
    obtain ⟨I15, eI15⟩ : ∃ K : z_I, K = z_up I12 30 8 x14 := ⟨_, rfl⟩
    rw [← eI15] at hW
    have f16 := z_fr_k f13 (show z_wr L_X8_add_d 30 8 = true by decide) eI15
    refine lv_aload_n hx hb dX8_add_73 rfl (lv_at hl 0 rfl) ?_
    refine z_get (T := TX8) (N := 9) (ci := 8) (i := 30) (v := .int x14) hx hb hts zj_X8_add_X8 hown hK hW rfl rfl 8 (by decide) (hts (.fieldLink RX8 36 "PetrolBoard$Pours" "number" "I") (me_s (me_l (List.mem_of_getElem? (i := 0) rfl)))) (fun _ h => h) (congrArg Value.int (by rw [eI15, z_up_s])) dX8_add_74 ?_
    refine lv_iconst (v := 1) hx hb dX8_add_77 (by decide) ?_
    refine lv_isub hx hb dX8_add_78 ?_
    refine lv_topi (fun x17 ex17 => ?_)
    have tx17 : x17.toInt = x14.toInt - 1 := z_tsub ex17 rfl z_l1 (by omega) (by omega)
    exact z_iret hx hb hr hK hS (Nat.le_of_ble_eq_true rfl) (Nat.le_of_ble_eq_true rfl) hlocks dX8_add_79 (shC c, ad, I15, JX, PC c ad) hW ⟨I15, rfl, (by show 0 ≤ (I15 30 8).toInt ∧ (I15 30 8).toInt ≤ 300; rw [eI15, z_up_s]; omega), f16, (Or.inl ⟨by omega, by omega, (by have q9 : (I15 30 8) = x14 := (by rw [eI15, z_up_s]); show (I15 30 8).toInt = (I 30 8).toInt + 1; rw [q9]; first | done | omega), (fun j => by rw [eI15, z_up_n (by decide), eI12, z_up_n (by decide), eI10, z_up_n (by decide), eI8, z_up_n (by decide), eI6, z_up_j, eI4, z_up_n (by decide)])⟩)⟩
  · have g18 := z_f_nlt rfl z_l300 c2
    refine lv_iconst (v := (-1)) hx hb dX8_add_10 (by decide) ?_
    exact z_iret hx hb hr hK hS (Nat.le_of_ble_eq_true rfl) (Nat.le_of_ble_eq_true rfl) hlocks dX8_add_11 (shC c, ad, I, JX, PC c ad) hW ⟨I, rfl, (by show 0 ≤ (I 30 8).toInt ∧ (I 30 8).toInt ≤ 300; exact hP), z_fr_0, (Or.inr ⟨by omega, by decide, (by show (I 30 8).toInt = (I 30 8).toInt; omega), (fun j => rfl)⟩)⟩
noncomputable def L_X11_pour_d : z_L := [(31, 999), (32, 999), (33, 999), (34, 999), (36, 999), (30, 8), (35, 999), (37, 999), (38, 999)]
set_option maxHeartbeats 8000000 in
set_option maxRecDepth 100000 in
theorem sx_X11_pour_d (l : Launch) (G : z_G) (ad : Nat → Nat) (c : z_C) (I : z_I) (hP : z_iP I) (hO : z_iO I) (hH : z_iH I) (hB : z_iB I) (hC : z_iC I) (a1 : Int32) (a2 : Int32) (a3 : Int32) (hc : z_okc c) (h10 : c.1 ≤ 10) : z_MS l yX11_pour wsX11_pour { frames := 4, cells := 0, slots := 0, locals := 86 } [.ref (ad 0), .int a1, .int a2, .int a3] G (shC c, ad, I, JX, PC c ad) (fun r u1 => ∃ I1 : z_I, u1 = (shC c, ad, I1, JX, PC c ad) ∧ z_iP I1 ∧ z_iO I1 ∧ z_iH I1 ∧ z_iB I1 ∧ z_iC I1 ∧ z_fr L_X11_pour_d I1 I ∧ (((0 ≤ a1.toInt ∧ a1.toInt < (I 0 8).toInt ∧ 0 ≤ a2.toInt ∧ a2.toInt < (I 1 5).toInt ∧ 0 ≤ a3.toInt ∧ a3.toInt ≤ 99999 ∧ (I 30 8).toInt < 300) ∧ r.toInt = (I 30 8).toInt ∧ (I1 30 8).toInt = (I 30 8).toInt + 1 ∧ (∀ j, I1 32 j = if j = (I 30 8).toNatClampNeg then a2 else I 32 j) ∧ ∃ v : Int32, (v.toInt = 1 ↔ z_fx I a2 = 2) ∧ ∀ j, I1 37 j = if j = (I 30 8).toNatClampNeg then v else I 37 j) ∨ (¬ (0 ≤ a1.toInt ∧ a1.toInt < (I 0 8).toInt ∧ 0 ≤ a2.toInt ∧ a2.toInt < (I 1 5).toInt ∧ 0 ≤ a3.toInt ∧ a3.toInt ≤ 99999 ∧ (I 30 8).toInt < 300) ∧ r.toInt = -1 ∧ (I1 30 8).toInt = (I 30 8).toInt ∧ ∀ j, I1 32 j = I 32 j ∧ I1 37 j = I 37 j))) 0 0 := sorry
noncomputable def L_X12_pour_d : z_L := [(34, 999), (35, 999), (36, 999), (37, 999), (38, 999), (39, 999), (40, 999), (42, 999), (41, 999), (0, 56), (0, 55)]
set_option maxHeartbeats 8000000 in
set_option maxRecDepth 100000 in
theorem sx_X12_pour_d (l : Launch) (G : z_G) (ad : Nat → Nat) (I : z_I) (J : z_J) (hma : z_ima I) (hms : z_ims I) (hApc : z_rg 36 0 99999 I) (hmb : z_imb I) (hAtf : z_rg 11 0 288 I) (hAtm : z_rg 12 0 24 I) (a1 : Int32) (a2 : Int32) (a3 : Int32) : z_M l yX12_pour wsX12_pour { frames := 3, cells := 0, slots := 0, locals := 62 } [.ref (ad 0), .int a1, .int a2, .int a3] G (shM, ad, I, J, PM ad) (fun r u1 => ∃ (I1 : z_I) (J1 : z_J), u1 = (shM, ad, I1, J1, PM ad) ∧ z_ima I1 ∧ z_ims I1 ∧ z_rg 36 0 99999 I1 ∧ z_imb I1 ∧ z_rg 11 0 288 I1 ∧ z_rg 12 0 24 I1 ∧ z_fr L_X12_pour_d I1 I ∧ (((0 ≤ a1.toInt ∧ a1.toInt < (I 0 54).toInt ∧ 0 ≤ a2.toInt ∧ a2.toInt < (I 0 1).toInt ∧ 0 ≤ a3.toInt ∧ a3.toInt ≤ 99999 ∧ (I 0 55).toInt < 300) ∧ r.toInt = (I 0 55).toInt ∧ (I1 0 55).toInt = (I 0 55).toInt + 1 ∧ (∀ j, I1 35 j = if j = (I 0 55).toNatClampNeg then a2 else I 35 j) ∧ ∃ v : Int32, (v.toInt ≠ 0 ↔ z_fm I a2 = 2) ∧ ∀ j, I1 42 j = if j = (I 0 55).toNatClampNeg then v else I 42 j) ∨ (¬ (0 ≤ a1.toInt ∧ a1.toInt < (I 0 54).toInt ∧ 0 ≤ a2.toInt ∧ a2.toInt < (I 0 1).toInt ∧ 0 ≤ a3.toInt ∧ a3.toInt ≤ 99999 ∧ (I 0 55).toInt < 300) ∧ r.toInt = -1 ∧ (I1 0 55).toInt = (I 0 55).toInt ∧ ∀ j, I1 35 j = I 35 j ∧ I1 42 j = I 42 j))) 0 0 := by
  intro sz
  refine z_headQ (cc := cX12_pour) (maxL := 4) (ret := (some .int)) (by decide) rfl (Nat.le_of_ble_eq_true rfl) ?_
  intro p e s m below meth c0 ls hIn hK hsz hW hl
  obtain ⟨hx, hb, hr, hml, hown, hts, hlocks, hname⟩ := hIn
  subst hsz
  have hown : s.vm.findClass RX12 = some m.cls := hown
  have hA : ∀ q : Nat, s.heap.size ≤ q → z_A (shM, ad, I, J, PM ad) s.heap.size q := fun q h => Or.inr h
  generalize hAe : z_A (shM, ad, I, J, PM ad) s.heap.size = A at *
  have hS : va_S A s.heap s.heap [] := va_S.rf
  have hl : lv_has ls 4 [(0, .ref (ad 0)), (1, .int a1), (2, .int a2), (3, .int a3)] := hl
  refine lv_aload_n hx hb dX12_pour_0 rfl (lv_at hl 0 rfl) ?_
  refine lv_iload_n hx hb dX12_pour_1 rfl (lv_at hl 1 rfl) ?_
  refine z_ci hW hS hA (va_runV (As := [.int a1]) (rest := []) ⟨hx, hb, hml, hown, hts⟩ (sx_X12_isStation_e l G ad I J ⟨(by show 0 ≤ (I 0 54).toInt ∧ (I 0 54).toInt ≤ 10; exact hms.1), (by show 0 ≤ (I 0 55).toInt ∧ (I 0 55).toInt ≤ 300; exact hms.2)⟩ a1 _) (cwV 1 hts gX12_pour_X12_isStation rfl rfl rfl (by decide +kernel) ⟨Nat.le_of_ble_eq_true rfl, Nat.le_of_ble_eq_true rfl⟩) (z_preV (i := 0) hK hW rfl rfl) rfl rfl hl.1 rfl (lv_room (Nat.le_of_ble_eq_true rfl)) dX12_pour_2 ⟨Nat.le_of_ble_eq_true rfl, Nat.le_of_ble_eq_true rfl⟩) (fun r u1 H locs hp hW hS => ?_)
  obtain ⟨e9, hp⟩ := hp
  rw [e9] at hW
  rcases hp with ⟨rfl, h1⟩ | ⟨rfl, h1⟩
  · have h2 := h1
    have r3 : 0 ≤ (I 0 54).toInt ∧ (I 0 54).toInt ≤ 10 := hms.1
    refine lv_if_eq (tgt := 37) hx hb dX12_pour_5 (by decide) (fun c4 => absurd c4 (by decide)) (fun c4 => ?_)
    refine lv_aload_n hx hb dX12_pour_8 rfl (lv_at hl 0 rfl) ?_
    refine lv_iload_n hx hb dX12_pour_9 rfl (lv_at hl 2 rfl) ?_
    refine z_ci hW hS hA (va_runV (As := [.int a2]) (rest := []) ⟨hx, hb, hml, hown, hts⟩ (sx_X12_isHolder_e l G ad I J ⟨(by show 0 ≤ (I 0 0).toInt ∧ (I 0 0).toInt ≤ 719; exact hma.1), (by show 0 ≤ (I 0 1).toInt ∧ (I 0 1).toInt ≤ 30; exact hma.2.1), (by show 0 ≤ (I 0 2).toInt ∧ (I 0 2).toInt ≤ 200; exact hma.2.2)⟩ a2 _) (cwV 1 hts gX12_pour_X12_isHolder rfl rfl rfl (by decide +kernel) ⟨Nat.le_of_ble_eq_true rfl, Nat.le_of_ble_eq_true rfl⟩) (z_preV (i := 0) hK hW rfl rfl) rfl rfl hl.1 rfl (lv_room (Nat.le_of_ble_eq_true rfl)) dX12_pour_10 ⟨Nat.le_of_ble_eq_true rfl, Nat.le_of_ble_eq_true rfl⟩) (fun r u1 H locs hp hW hS => ?_)
    obtain ⟨e9, hp⟩ := hp
    rw [e9] at hW
    rcases hp with ⟨rfl, h5⟩ | ⟨rfl, h5⟩
    · have h6 := h5
      have r7 : 0 ≤ (I 0 1).toInt ∧ (I 0 1).toInt ≤ 30 := hma.2.1
      refine lv_if_eq (tgt := 37) hx hb dX12_pour_13 (by decide) (fun c8 => absurd c8 (by decide)) (fun c8 => ?_)
      refine lv_iload_n hx hb dX12_pour_16 rfl (lv_at hl 3 rfl) ?_
      refine lv_iconst (v := 0) hx hb dX12_pour_17 (by decide) ?_
      refine lv_ldcw (v := 99999) hx hb hown (hts (.constant RX12 467 (99999)) (me_s (me_l (me_l (List.mem_of_getElem? (i := 0) rfl))))) dX12_pour_18 ?_
      refine z_ci hW hS hA (va_runS (As := [.int a3, .int 0, .int 99999]) (rest := []) ⟨hx, hb, hml, hown, hts⟩ (sx_X12_within_e l G ad I J  a3 0 99999 _) (va_cwS 3 hts gX12_pour_X12_within rfl rfl rfl (by decide +kernel) ⟨Nat.le_of_ble_eq_true rfl, Nat.le_of_ble_eq_true rfl⟩) (z_preS hK hW) rfl rfl hl.1 rfl (lv_room (Nat.le_of_ble_eq_true rfl)) dX12_pour_21 ⟨Nat.le_of_ble_eq_true rfl, Nat.le_of_ble_eq_true rfl⟩) (fun r u1 H locs hp hW hS => ?_)
      obtain ⟨e9, hp⟩ := hp
      rw [e9] at hW
      rcases hp with ⟨rfl, h9⟩ | ⟨rfl, h9⟩
      · have h11 := h9
        have z12 := z_l0
        have z13 := z_l99999
        refine lv_if_eq (tgt := 37) hx hb dX12_pour_24 (by decide) (fun c14 => absurd c14 (by decide)) (fun c14 => ?_)
        refine lv_aload_n hx hb dX12_pour_27 rfl (lv_at hl 0 rfl) ?_
        have r15 : 0 ≤ (I 0 55).toInt ∧ (I 0 55).toInt ≤ 300 := hms.2
        refine z_get (T := TX12) (N := 96) (ci := 12) (i := 0) (v := .int (I 0 55)) hx hb hts zj_X12_pour_X12 hown hK hW rfl rfl 55 (by decide) (hts (.fieldLink RX12 468 "PetrolBoardModel" "pours" "I") (me_s (me_l (me_l (List.mem_of_getElem? (i := 1) rfl))))) (fun _ h => h) rfl dX12_pour_28 ?_
        refine lv_sipush (v := 300) hx hb dX12_pour_31 (by decide) ?_
        refine lv_icmp_ne (tgt := 39) hx hb dX12_pour_34 (by decide) (fun c16 => ?_) (fun c16 => ?_)
        · have g17 := z_f_ne rfl z_l300 c16
          refine lv_aload_n hx hb dX12_pour_39 rfl (lv_at hl 0 rfl) ?_
          refine z_get (T := TX12) (N := 96) (ci := 12) (i := 0) (v := .ref (ad 34)) hx hb hts zj_X12_pour_X12 hown hK hW rfl rfl 57 (by decide) (hts (.fieldLink RX12 118 "PetrolBoardModel" "pourAt" "[I") (me_s (me_l (me_l (List.mem_of_getElem? (i := 2) rfl))))) (fun _ h => h) rfl dX12_pour_40 ?_
          refine lv_aload_n hx hb dX12_pour_43 rfl (lv_at hl 0 rfl) ?_
          refine z_get (T := TX12) (N := 96) (ci := 12) (i := 0) (v := .int (I 0 55)) hx hb hts zj_X12_pour_X12 hown hK hW rfl rfl 55 (by decide) (hts (.fieldLink RX12 468 "PetrolBoardModel" "pours" "I") (me_s (me_l (me_l (List.mem_of_getElem? (i := 1) rfl))))) (fun _ h => h) rfl dX12_pour_44 ?_
          refine lv_iload_n hx hb dX12_pour_47 rfl (lv_at hl 1 rfl) ?_
          refine z_iast (i := 34) hx hb hK hW hS rfl (z_ix rfl (by omega) (by omega)) dX12_pour_48 (fun H locs hz1 hW hS => ?_)
          obtain ⟨I18, eI18⟩ : ∃ K : z_I, K = z_up I 34 (I 0 55).toNatClampNeg a1 := ⟨_, rfl⟩
          rw [← eI18] at hW
          have f19 := z_fr_a z_fr_0 (show z_wa L_X12_pour_d 34 = true by decide) eI18
          have a20 := z_rg_n hApc (by decide) eI18
          have a21 := z_rg_n hAtf (by decide) eI18
          have a22 := z_rg_n hAtm (by decide) eI18
          refine lv_aload_n hx hb dX12_pour_49 rfl (lv_at hl 0 rfl) ?_
          refine z_get (T := TX12) (N := 96) (ci := 12) (i := 0) (v := .ref (ad 35)) hx hb hts zj_X12_pour_X12 hown hK hW rfl rfl 58 (by decide) (hts (.fieldLink RX12 121 "PetrolBoardModel" "pourWho" "[I") (me_s (me_l (me_l (List.mem_of_getElem? (i := 3) rfl))))) (fun _ h => h) rfl dX12_pour_50 ?_
          refine lv_aload_n hx hb dX12_pour_53 rfl (lv_at hl 0 rfl) ?_
          refine z_get (T := TX12) (N := 96) (ci := 12) (i := 0) (v := .int (I 0 55)) hx hb hts zj_X12_pour_X12 hown hK hW rfl rfl 55 (by decide) (hts (.fieldLink RX12 468 "PetrolBoardModel" "pours" "I") (me_s (me_l (me_l (List.mem_of_getElem? (i := 1) rfl))))) (fun _ h => h) (congrArg Value.int (by rw [eI18, z_up_n (by decide)])) dX12_pour_54 ?_
          refine lv_iload_n hx hb dX12_pour_57 rfl (lv_at hl 2 rfl) ?_
          refine z_iast (i := 35) hx hb hK hW hS rfl (z_ix rfl (by omega) (by omega)) dX12_pour_58 (fun H locs hz1 hW hS => ?_)
          obtain ⟨I23, eI23⟩ : ∃ K : z_I, K = z_up I18 35 (I 0 55).toNatClampNeg a2 := ⟨_, rfl⟩
          rw [← eI23] at hW
          have f24 := z_fr_a f19 (show z_wa L_X12_pour_d 35 = true by decide) eI23
          have a25 := z_rg_n a20 (by decide) eI23
          have a26 := z_rg_n a21 (by decide) eI23
          have a27 := z_rg_n a22 (by decide) eI23
          refine lv_aload_n hx hb dX12_pour_59 rfl (lv_at hl 0 rfl) ?_
          refine z_get (T := TX12) (N := 96) (ci := 12) (i := 0) (v := .ref (ad 36)) hx hb hts zj_X12_pour_X12 hown hK hW rfl rfl 59 (by decide) (hts (.fieldLink RX12 124 "PetrolBoardModel" "pourCoupon" "[I") (me_s (me_l (me_l (List.mem_of_getElem? (i := 4) rfl))))) (fun _ h => h) rfl dX12_pour_60 ?_
          refine lv_aload_n hx hb dX12_pour_63 rfl (lv_at hl 0 rfl) ?_
          refine z_get (T := TX12) (N := 96) (ci := 12) (i := 0) (v := .int (I 0 55)) hx hb hts zj_X12_pour_X12 hown hK hW rfl rfl 55 (by decide) (hts (.fieldLink RX12 468 "PetrolBoardModel" "pours" "I") (me_s (me_l (me_l (List.mem_of_getElem? (i := 1) rfl))))) (fun _ h => h) (congrArg Value.int (by rw [eI23, z_up_n (by decide), eI18, z_up_n (by decide)])) dX12_pour_64 ?_
          refine lv_iload_n hx hb dX12_pour_67 rfl (lv_at hl 3 rfl) ?_
          refine z_iast (i := 36) hx hb hK hW hS rfl (z_ix rfl (by omega) (by omega)) dX12_pour_68 (fun H locs hz1 hW hS => ?_)
          obtain ⟨I28, eI28⟩ : ∃ K : z_I, K = z_up I23 36 (I 0 55).toNatClampNeg a3 := ⟨_, rfl⟩
          rw [← eI28] at hW
          have f29 := z_fr_a f24 (show z_wa L_X12_pour_d 36 = true by decide) eI28
          have a30 := z_rg_a a25 (by omega) eI28
          have a31 := z_rg_n a26 (by decide) eI28
          have a32 := z_rg_n a27 (by decide) eI28
          refine lv_aload_n hx hb dX12_pour_69 rfl (lv_at hl 0 rfl) ?_
          refine z_get (T := TX12) (N := 96) (ci := 12) (i := 0) (v := .ref (ad 37)) hx hb hts zj_X12_pour_X12 hown hK hW rfl rfl 60 (by decide) (hts (.fieldLink RX12 127 "PetrolBoardModel" "pourDay" "[I") (me_s (me_l (me_l (List.mem_of_getElem? (i := 5) rfl))))) (fun _ h => h) rfl dX12_pour_70 ?_
          refine lv_aload_n hx hb dX12_pour_73 rfl (lv_at hl 0 rfl) ?_
          refine z_get (T := TX12) (N := 96) (ci := 12) (i := 0) (v := .int (I 0 55)) hx hb hts zj_X12_pour_X12 hown hK hW rfl rfl 55 (by decide) (hts (.fieldLink RX12 468 "PetrolBoardModel" "pours" "I") (me_s (me_l (me_l (List.mem_of_getElem? (i := 1) rfl))))) (fun _ h => h) (congrArg Value.int (by rw [eI28, z_up_n (by decide), eI23, z_up_n (by decide), eI18, z_up_n (by decide)])) dX12_pour_74 ?_
          refine lv_aload_n hx hb dX12_pour_77 rfl (lv_at hl 0 rfl) ?_
          have r33 : 0 ≤ (I 0 0).toInt ∧ (I 0 0).toInt ≤ 719 := hma.1
          refine z_get (T := TX12) (N := 96) (ci := 12) (i := 0) (v := .int (I 0 0)) hx hb hts zj_X12_pour_X12 hown hK hW rfl rfl 0 (by decide) (hts (.fieldLink RX12 232 "PetrolBoardModel" "today" "I") (me_s (me_l (me_l (List.mem_of_getElem? (i := 6) rfl))))) (fun _ h => h) (congrArg Value.int (by rw [eI28, z_up_n (by decide), eI23, z_up_n (by decide), eI18, z_up_n (by decide)])) dX12_pour_78 ?_
          refine z_iast (i := 37) hx hb hK hW hS rfl (z_ix rfl (by omega) (by omega)) dX12_pour_81 (fun H locs hz1 hW hS => ?_)
          obtain ⟨I34, eI34⟩ : ∃ K : z_I, K = z_up I28 37 (I 0 55).toNatClampNeg (I 0 0) := ⟨_, rfl⟩
          rw [← eI34] at hW
          have f35 := z_fr_a f29 (show z_wa L_X12_pour_d 37 = true by decide) eI34
          have a36 := z_rg_n a30 (by decide) eI34
          have a37 := z_rg_n a31 (by decide) eI34
          have a38 := z_rg_n a32 (by decide) eI34
          refine lv_aload_n hx hb dX12_pour_82 rfl (lv_at hl 0 rfl) ?_
          refine z_get (T := TX12) (N := 96) (ci := 12) (i := 0) (v := .ref (ad 38)) hx hb hts zj_X12_pour_X12 hown hK hW rfl rfl 61 (by decide) (hts (.fieldLink RX12 130 "PetrolBoardModel" "pourTenths" "[I") (me_s (me_l (me_l (List.mem_of_getElem? (i := 7) rfl))))) (fun _ h => h) rfl dX12_pour_83 ?_
          refine lv_aload_n hx hb dX12_pour_86 rfl (lv_at hl 0 rfl) ?_
          refine z_get (T := TX12) (N := 96) (ci := 12) (i := 0) (v := .int (I 0 55)) hx hb hts zj_X12_pour_X12 hown hK hW rfl rfl 55 (by decide) (hts (.fieldLink RX12 468 "PetrolBoardModel" "pours" "I") (me_s (me_l (me_l (List.mem_of_getElem? (i := 1) rfl))))) (fun _ h => h) (congrArg Value.int (by rw [eI34, z_up_n (by decide), eI28, z_up_n (by decide), eI23, z_up_n (by decide), eI18, z_up_n (by decide)])) dX12_pour_87 ?_
          refine lv_aload_n hx hb dX12_pour_90 rfl (lv_at hl 0 rfl) ?_
          refine lv_aload_n hx hb dX12_pour_91 rfl (lv_at hl 0 rfl) ?_
          refine z_get (T := TX12) (N := 96) (ci := 12) (i := 0) (v := .int (I 0 0)) hx hb hts zj_X12_pour_X12 hown hK hW rfl rfl 0 (by decide) (hts (.fieldLink RX12 232 "PetrolBoardModel" "today" "I") (me_s (me_l (me_l (List.mem_of_getElem? (i := 6) rfl))))) (fun _ h => h) (congrArg Value.int (by rw [eI34, z_up_n (by decide), eI28, z_up_n (by decide), eI23, z_up_n (by decide), eI18, z_up_n (by decide)])) dX12_pour_92 ?_
          refine lv_bipush (v := 30) hx hb dX12_pour_95 (by decide) ?_
          refine lv_idiv hx hb dX12_pour_97 (by decide) ?_
          refine lv_topi (fun x39 ex39 => ?_)
          have tx39 := z_tdiv ex39 rfl z_l30 (by decide)
          refine lv_aload_n hx hb dX12_pour_98 rfl (lv_at hl 0 rfl) ?_
          refine z_get (T := TX12) (N := 96) (ci := 12) (i := 0) (v := .int (I 0 0)) hx hb hts zj_X12_pour_X12 hown hK hW rfl rfl 0 (by decide) (hts (.fieldLink RX12 232 "PetrolBoardModel" "today" "I") (me_s (me_l (me_l (List.mem_of_getElem? (i := 6) rfl))))) (fun _ h => h) (congrArg Value.int (by rw [eI34, z_up_n (by decide), eI28, z_up_n (by decide), eI23, z_up_n (by decide), eI18, z_up_n (by decide)])) dX12_pour_99 ?_
          refine lv_iconst (v := 3) hx hb dX12_pour_102 (by decide) ?_
          refine z_ci hW hS hA (va_runV (As := [.int x39, .int (I 0 0), .int 3]) (rest := [.int (I 0 55), .ref (ad 38)]) ⟨hx, hb, hml, hown, hts⟩ (sx_X12_number l G ad I34 J ⟨(by show 0 ≤ (I34 0 13).toInt ∧ (I34 0 13).toInt ≤ 12; rw [eI34, z_up_n (by decide), eI28, z_up_n (by decide), eI23, z_up_n (by decide), eI18, z_up_n (by decide)]; exact hmb.1), (by show 0 ≤ (I34 0 14).toInt ∧ (I34 0 14).toInt ≤ 288; rw [eI34, z_up_n (by decide), eI28, z_up_n (by decide), eI23, z_up_n (by decide), eI18, z_up_n (by decide)]; exact hmb.2)⟩ a37 a38 x39 (I 0 0) 3 _) (cwV 3 hts gX12_pour_X12_number rfl rfl rfl (by decide +kernel) ⟨Nat.le_of_ble_eq_true rfl, Nat.le_of_ble_eq_true rfl⟩) (z_preV (i := 0) hK hW rfl rfl) rfl rfl hl.1 rfl (lv_room (Nat.le_of_ble_eq_true rfl)) dX12_pour_103 ⟨Nat.le_of_ble_eq_true rfl, Nat.le_of_ble_eq_true rfl⟩) (fun r u1 H locs hp hW hS => ?_)
          rw [hp] at hW
          refine lv_topi (fun x40 ex40 => ?_)
          refine z_iast (i := 38) hx hb hK hW hS rfl (z_ix rfl (by omega) (by omega)) dX12_pour_106 (fun H locs hz1 hW hS => ?_)
          obtain ⟨I41, eI41⟩ : ∃ K : z_I, K = z_up I34 38 (I 0 55).toNatClampNeg x40 := ⟨_, rfl⟩
          rw [← eI41] at hW
          have f42 := z_fr_a f35 (show z_wa L_X12_pour_d 38 = true by decide) eI41
          have a43 := z_rg_n a36 (by decide) eI41
          have a44 := z_rg_n a37 (by decide) eI41
          have a45 := z_rg_n a38 (by decide) eI41
          refine lv_aload_n hx hb dX12_pour_107 rfl (lv_at hl 0 rfl) ?_
          refine z_get (T := TX12) (N := 96) (ci := 12) (i := 0) (v := .ref (ad 39)) hx hb hts zj_X12_pour_X12 hown hK hW rfl rfl 62 (by decide) (hts (.fieldLink RX12 133 "PetrolBoardModel" "pourOwner" "[I") (me_s (me_l (me_l (List.mem_of_getElem? (i := 8) rfl))))) (fun _ h => h) rfl dX12_pour_108 ?_
          refine lv_aload_n hx hb dX12_pour_111 rfl (lv_at hl 0 rfl) ?_
          refine z_get (T := TX12) (N := 96) (ci := 12) (i := 0) (v := .int (I 0 55)) hx hb hts zj_X12_pour_X12 hown hK hW rfl rfl 55 (by decide) (hts (.fieldLink RX12 468 "PetrolBoardModel" "pours" "I") (me_s (me_l (me_l (List.mem_of_getElem? (i := 1) rfl))))) (fun _ h => h) (congrArg Value.int (by rw [eI41, z_up_n (by decide), eI34, z_up_n (by decide), eI28, z_up_n (by decide), eI23, z_up_n (by decide), eI18, z_up_n (by decide)])) dX12_pour_112 ?_
          refine lv_aload_n hx hb dX12_pour_115 rfl (lv_at hl 0 rfl) ?_
          refine lv_iload_n hx hb dX12_pour_116 rfl (lv_at hl 3 rfl) ?_
          refine z_ci hW hS hA (va_runV (As := [.int a3]) (rest := [.int (I 0 55), .ref (ad 39)]) ⟨hx, hb, hml, hown, hts⟩ (sx_X12_isCoupon l G ad I41 J  a3 _) (cwV 1 hts gX12_pour_X12_isCoupon rfl rfl rfl (by decide +kernel) ⟨Nat.le_of_ble_eq_true rfl, Nat.le_of_ble_eq_true rfl⟩) (z_preV (i := 0) hK hW rfl rfl) rfl rfl hl.1 rfl (lv_room (Nat.le_of_ble_eq_true rfl)) dX12_pour_117 ⟨Nat.le_of_ble_eq_true rfl, Nat.le_of_ble_eq_true rfl⟩) (fun r u1 H locs hp hW hS => ?_)
          obtain ⟨e9, hp⟩ := hp
          rw [e9] at hW
          rcases hp with ⟨rfl, h46, h47⟩ | rfl
          · refine lv_if_eq (tgt := 131) hx hb dX12_pour_120 (by decide) (fun c48 => absurd c48 (by decide)) (fun c48 => ?_)
            refine lv_aload_n hx hb dX12_pour_123 rfl (lv_at hl 0 rfl) ?_
            refine lv_iload_n hx hb dX12_pour_124 rfl (lv_at hl 3 rfl) ?_
            refine z_ci hW hS hA (va_runV (As := [.int a3]) (rest := [.int (I 0 55), .ref (ad 39)]) ⟨hx, hb, hml, hown, hts⟩ (sx_X12_heldBy l G ad I41 J a3 (by omega) _) (cwV 1 hts gX12_pour_X12_heldBy rfl rfl rfl (by decide +kernel) ⟨Nat.le_of_ble_eq_true rfl, Nat.le_of_ble_eq_true rfl⟩) (z_preV (i := 0) hK hW rfl rfl) rfl rfl hl.1 rfl (lv_room (Nat.le_of_ble_eq_true rfl)) dX12_pour_125 ⟨Nat.le_of_ble_eq_true rfl, Nat.le_of_ble_eq_true rfl⟩) (fun r u1 H locs hp hW hS => ?_)
            rw [hp] at hW
            refine lv_topi (fun x49 ex49 => ?_)
            refine lv_goto (tgt := 132) hx hb dX12_pour_128 (by decide) ?_
            refine z_iast (i := 39) hx hb hK hW hS rfl (z_ix rfl (by omega) (by omega)) dX12_pour_132 (fun H locs hz1 hW hS => ?_)
            obtain ⟨I50, eI50⟩ : ∃ K : z_I, K = z_up I41 39 (I 0 55).toNatClampNeg x49 := ⟨_, rfl⟩
            rw [← eI50] at hW
            have f51 := z_fr_a f42 (show z_wa L_X12_pour_d 39 = true by decide) eI50
            have a52 := z_rg_n a43 (by decide) eI50
            have a53 := z_rg_n a44 (by decide) eI50
            have a54 := z_rg_n a45 (by decide) eI50
            refine lv_aload_n hx hb dX12_pour_133 rfl (lv_at hl 0 rfl) ?_
            refine z_get (T := TX12) (N := 96) (ci := 12) (i := 0) (v := .ref (ad 40)) hx hb hts zj_X12_pour_X12 hown hK hW rfl rfl 63 (by decide) (hts (.fieldLink RX12 136 "PetrolBoardModel" "pourJudged" "[I") (me_s (me_l (me_l (List.mem_of_getElem? (i := 9) rfl))))) (fun _ h => h) rfl dX12_pour_134 ?_
            refine lv_aload_n hx hb dX12_pour_137 rfl (lv_at hl 0 rfl) ?_
            refine z_get (T := TX12) (N := 96) (ci := 12) (i := 0) (v := .int (I 0 55)) hx hb hts zj_X12_pour_X12 hown hK hW rfl rfl 55 (by decide) (hts (.fieldLink RX12 468 "PetrolBoardModel" "pours" "I") (me_s (me_l (me_l (List.mem_of_getElem? (i := 1) rfl))))) (fun _ h => h) (congrArg Value.int (by rw [eI50, z_up_n (by decide), eI41, z_up_n (by decide), eI34, z_up_n (by decide), eI28, z_up_n (by decide), eI23, z_up_n (by decide), eI18, z_up_n (by decide)])) dX12_pour_138 ?_
            refine lv_iconst (v := (-1)) hx hb dX12_pour_141 (by decide) ?_
            refine z_iast (i := 40) hx hb hK hW hS rfl (z_ix rfl (by omega) (by omega)) dX12_pour_142 (fun H locs hz1 hW hS => ?_)
            obtain ⟨I55, eI55⟩ : ∃ K : z_I, K = z_up I50 40 (I 0 55).toNatClampNeg (-1) := ⟨_, rfl⟩
            rw [← eI55] at hW
            have f56 := z_fr_a f51 (show z_wa L_X12_pour_d 40 = true by decide) eI55
            have a57 := z_rg_n a52 (by decide) eI55
            have a58 := z_rg_n a53 (by decide) eI55
            have a59 := z_rg_n a54 (by decide) eI55
            refine lv_aload_n hx hb dX12_pour_143 rfl (lv_at hl 0 rfl) ?_
            refine z_get (T := TX12) (N := 96) (ci := 12) (i := 0) (v := .ref (ad 42)) hx hb hts zj_X12_pour_X12 hown hK hW rfl rfl 65 (by decide) (hts (.fieldLink RX12 142 "PetrolBoardModel" "pourDyed" "[Z") (me_s (me_l (me_l (List.mem_of_getElem? (i := 10) rfl))))) (fun _ h => h) rfl dX12_pour_144 ?_
            refine lv_aload_n hx hb dX12_pour_147 rfl (lv_at hl 0 rfl) ?_
            refine z_get (T := TX12) (N := 96) (ci := 12) (i := 0) (v := .int (I 0 55)) hx hb hts zj_X12_pour_X12 hown hK hW rfl rfl 55 (by decide) (hts (.fieldLink RX12 468 "PetrolBoardModel" "pours" "I") (me_s (me_l (me_l (List.mem_of_getElem? (i := 1) rfl))))) (fun _ h => h) (congrArg Value.int (by rw [eI55, z_up_n (by decide), eI50, z_up_n (by decide), eI41, z_up_n (by decide), eI34, z_up_n (by decide), eI28, z_up_n (by decide), eI23, z_up_n (by decide), eI18, z_up_n (by decide)])) dX12_pour_148 ?_
            refine lv_aload_n hx hb dX12_pour_151 rfl (lv_at hl 0 rfl) ?_
            refine lv_iload_n hx hb dX12_pour_152 rfl (lv_at hl 2 rfl) ?_
            refine lv_aload_n hx hb dX12_pour_153 rfl (lv_at hl 0 rfl) ?_
            refine z_get (T := TX12) (N := 96) (ci := 12) (i := 0) (v := .int (I 0 0)) hx hb hts zj_X12_pour_X12 hown hK hW rfl rfl 0 (by decide) (hts (.fieldLink RX12 232 "PetrolBoardModel" "today" "I") (me_s (me_l (me_l (List.mem_of_getElem? (i := 6) rfl))))) (fun _ h => h) (congrArg Value.int (by rw [eI55, z_up_n (by decide), eI50, z_up_n (by decide), eI41, z_up_n (by decide), eI34, z_up_n (by decide), eI28, z_up_n (by decide), eI23, z_up_n (by decide), eI18, z_up_n (by decide)])) dX12_pour_154 ?_
            refine lv_aload_n hx hb dX12_pour_157 rfl (lv_at hl 0 rfl) ?_
            refine z_get (T := TX12) (N := 96) (ci := 12) (i := 0) (v := .int (I 0 0)) hx hb hts zj_X12_pour_X12 hown hK hW rfl rfl 0 (by decide) (hts (.fieldLink RX12 232 "PetrolBoardModel" "today" "I") (me_s (me_l (me_l (List.mem_of_getElem? (i := 6) rfl))))) (fun _ h => h) (congrArg Value.int (by rw [eI55, z_up_n (by decide), eI50, z_up_n (by decide), eI41, z_up_n (by decide), eI34, z_up_n (by decide), eI28, z_up_n (by decide), eI23, z_up_n (by decide), eI18, z_up_n (by decide)])) dX12_pour_158 ?_
            refine z_ci hW hS hA (va_runV (As := [.int a2, .int (I 0 0), .int (I 0 0)]) (rest := [.int (I 0 55), .ref (ad 42)]) ⟨hx, hb, hml, hown, hts⟩ (sx_X12_kindOn_r l G ad I55 J ⟨(by show 0 ≤ (I55 0 0).toInt ∧ (I55 0 0).toInt ≤ 719; rw [eI55, z_up_n (by decide), eI50, z_up_n (by decide), eI41, z_up_n (by decide), eI34, z_up_n (by decide), eI28, z_up_n (by decide), eI23, z_up_n (by decide), eI18, z_up_n (by decide)]; exact hma.1), (by show 0 ≤ (I55 0 1).toInt ∧ (I55 0 1).toInt ≤ 30; rw [eI55, z_up_n (by decide), eI50, z_up_n (by decide), eI41, z_up_n (by decide), eI34, z_up_n (by decide), eI28, z_up_n (by decide), eI23, z_up_n (by decide), eI18, z_up_n (by decide)]; exact hma.2.1), (by show 0 ≤ (I55 0 2).toInt ∧ (I55 0 2).toInt ≤ 200; rw [eI55, z_up_n (by decide), eI50, z_up_n (by decide), eI41, z_up_n (by decide), eI34, z_up_n (by decide), eI28, z_up_n (by decide), eI23, z_up_n (by decide), eI18, z_up_n (by decide)]; exact hma.2.2)⟩ a2 (I 0 0) (I 0 0) _) (cwV 3 hts gX12_pour_X12_kindOn rfl rfl rfl (by decide +kernel) ⟨Nat.le_of_ble_eq_true rfl, Nat.le_of_ble_eq_true rfl⟩) (z_preV (i := 0) hK hW rfl rfl) rfl rfl hl.1 rfl (lv_room (Nat.le_of_ble_eq_true rfl)) dX12_pour_161 ⟨Nat.le_of_ble_eq_true rfl, Nat.le_of_ble_eq_true rfl⟩) (fun r u1 H locs hp hW hS => ?_)
            obtain ⟨e9, hp⟩ := hp
            rw [e9] at hW
            refine lv_topi (fun x60 ex60 => ?_)
            have h61 := hp
            rw [← ex60] at h61
            refine lv_iconst (v := 2) hx hb dX12_pour_164 (by decide) ?_
            refine lv_icmp_ne (tgt := 172) hx hb dX12_pour_165 (by decide) (fun c62 => ?_) (fun c62 => ?_)
            · have g63 := z_f_ne rfl z_l2 c62
              have b64 := Int32.toInt_lt x60
              refine lv_iconst (v := 0) hx hb dX12_pour_172 (by decide) ?_
              refine z_zast (i := 42) hx hb hK hW hS rfl (z_ix rfl (by omega) (by omega)) dX12_pour_173 (fun H locs hz1 hW hS => ?_)
              obtain ⟨I65, eI65⟩ : ∃ K : z_I, K = z_up I55 42 (I 0 55).toNatClampNeg (vp_nar .boolean 0) := ⟨_, rfl⟩
              rw [← eI65] at hW
              have f66 := z_fr_a f56 (show z_wa L_X12_pour_d 42 = true by decide) eI65
              have a67 := z_rg_n a57 (by decide) eI65
              have a68 := z_rg_n a58 (by decide) eI65
              have a69 := z_rg_n a59 (by decide) eI65
              refine lv_aload_n hx hb dX12_pour_174 rfl (lv_at hl 0 rfl) ?_
              refine z_get (T := TX12) (N := 96) (ci := 12) (i := 0) (v := .ref (ad 41)) hx hb hts zj_X12_pour_X12 hown hK hW rfl rfl 64 (by decide) (hts (.fieldLink RX12 139 "PetrolBoardModel" "pourCome" "[I") (me_s (me_l (me_l (List.mem_of_getElem? (i := 11) rfl))))) (fun _ h => h) rfl dX12_pour_175 ?_
              refine lv_aload_n hx hb dX12_pour_178 rfl (lv_at hl 0 rfl) ?_
              refine z_get (T := TX12) (N := 96) (ci := 12) (i := 0) (v := .int (I 0 55)) hx hb hts zj_X12_pour_X12 hown hK hW rfl rfl 55 (by decide) (hts (.fieldLink RX12 468 "PetrolBoardModel" "pours" "I") (me_s (me_l (me_l (List.mem_of_getElem? (i := 1) rfl))))) (fun _ h => h) (congrArg Value.int (by rw [eI65, z_up_n (by decide), eI55, z_up_n (by decide), eI50, z_up_n (by decide), eI41, z_up_n (by decide), eI34, z_up_n (by decide), eI28, z_up_n (by decide), eI23, z_up_n (by decide), eI18, z_up_n (by decide)])) dX12_pour_179 ?_
              refine lv_aload_n hx hb dX12_pour_182 rfl (lv_at hl 0 rfl) ?_
              refine z_get (T := TX12) (N := 96) (ci := 12) (i := 0) (v := .int (I 0 56)) hx hb hts zj_X12_pour_X12 hown hK hW rfl rfl 56 (by decide) (hts (.fieldLink RX12 471 "PetrolBoardModel" "comes" "I") (me_s (me_l (me_l (List.mem_of_getElem? (i := 12) rfl))))) (fun _ h => h) (congrArg Value.int (by rw [eI65, z_up_n (by decide), eI55, z_up_n (by decide), eI50, z_up_n (by decide), eI41, z_up_n (by decide), eI34, z_up_n (by decide), eI28, z_up_n (by decide), eI23, z_up_n (by decide), eI18, z_up_n (by decide)])) dX12_pour_183 ?_
              refine z_iast (i := 41) hx hb hK hW hS rfl (z_ix rfl (by omega) (by omega)) dX12_pour_186 (fun H locs hz1 hW hS => ?_)
              obtain ⟨I70, eI70⟩ : ∃ K : z_I, K = z_up I65 41 (I 0 55).toNatClampNeg (I 0 56) := ⟨_, rfl⟩
              rw [← eI70] at hW
              have f71 := z_fr_a f66 (show z_wa L_X12_pour_d 41 = true by decide) eI70
              have a72 := z_rg_n a67 (by decide) eI70
              have a73 := z_rg_n a68 (by decide) eI70
              have a74 := z_rg_n a69 (by decide) eI70
              refine lv_aload_n hx hb dX12_pour_187 rfl (lv_at hl 0 rfl) ?_
              refine lv_dup hx hb dX12_pour_188 rfl ?_
              refine z_get (T := TX12) (N := 96) (ci := 12) (i := 0) (v := .int (I 0 56)) hx hb hts zj_X12_pour_X12 hown hK hW rfl rfl 56 (by decide) (hts (.fieldLink RX12 471 "PetrolBoardModel" "comes" "I") (me_s (me_l (me_l (List.mem_of_getElem? (i := 12) rfl))))) (fun _ h => h) (congrArg Value.int (by rw [eI70, z_up_n (by decide), eI65, z_up_n (by decide), eI55, z_up_n (by decide), eI50, z_up_n (by decide), eI41, z_up_n (by decide), eI34, z_up_n (by decide), eI28, z_up_n (by decide), eI23, z_up_n (by decide), eI18, z_up_n (by decide)])) dX12_pour_189 ?_
              refine lv_iconst (v := 1) hx hb dX12_pour_192 (by decide) ?_
              refine lv_iadd hx hb dX12_pour_193 ?_
              refine lv_topi (fun x75 ex75 => ?_)
              refine z_put (T := TX12) (N := 96) (ci := 12) (i := 0) (v := .int x75) (I1 := z_up I70 0 56 x75) (J1 := J) (P1 := PM ad) hx hb hts zj_X12_pour_X12 tyX12 tyX12_ok nmX12 hown hK hW hS rfl rfl 56 (by decide) (hts (.fieldLink RX12 471 "PetrolBoardModel" "comes" "I") (me_s (me_l (me_l (List.mem_of_getElem? (i := 12) rfl))))) (fun _ h => h) rfl rfl rfl (by first | rfl | exact congrArg _ z_up_s) (fun a b h ty => z_vI h ty) dX12_pour_194 (fun H locs hz1 hW hS => ?_)
              obtain ⟨I76, eI76⟩ : ∃ K : z_I, K = z_up I70 0 56 x75 := ⟨_, rfl⟩
              rw [← eI76] at hW
              have f77 := z_fr_k f71 (show z_wr L_X12_pour_d 0 56 = true by decide) eI76
              have a78 := z_rg_n a72 (by decide) eI76
              have a79 := z_rg_n a73 (by decide) eI76
              have a80 := z_rg_n a74 (by decide) eI76
              refine lv_aload_n hx hb dX12_pour_197 rfl (lv_at hl 0 rfl) ?_
              refine lv_dup hx hb dX12_pour_198 rfl ?_
              refine z_get (T := TX12) (N := 96) (ci := 12) (i := 0) (v := .int (I 0 55)) hx hb hts zj_X12_pour_X12 hown hK hW rfl rfl 55 (by decide) (hts (.fieldLink RX12 468 "PetrolBoardModel" "pours" "I") (me_s (me_l (me_l (List.mem_of_getElem? (i := 1) rfl))))) (fun _ h => h) (congrArg Value.int (by rw [eI76, z_up_k (by decide), eI70, z_up_n (by decide), eI65, z_up_n (by decide), eI55, z_up_n (by decide), eI50, z_up_n (by decide), eI41, z_up_n (by decide), eI34, z_up_n (by decide), eI28, z_up_n (by decide), eI23, z_up_n (by decide), eI18, z_up_n (by decide)])) dX12_pour_199 ?_
              refine lv_iconst (v := 1) hx hb dX12_pour_202 (by decide) ?_
              refine lv_iadd hx hb dX12_pour_203 ?_
              refine lv_topi (fun x81 ex81 => ?_)
              have tx81 : x81.toInt = (I 0 55).toInt + 1 := z_tadd ex81 rfl z_l1 (by omega) (by omega)
              refine z_put (T := TX12) (N := 96) (ci := 12) (i := 0) (v := .int x81) (I1 := z_up I76 0 55 x81) (J1 := J) (P1 := PM ad) hx hb hts zj_X12_pour_X12 tyX12 tyX12_ok nmX12 hown hK hW hS rfl rfl 55 (by decide) (hts (.fieldLink RX12 468 "PetrolBoardModel" "pours" "I") (me_s (me_l (me_l (List.mem_of_getElem? (i := 1) rfl))))) (fun _ h => h) rfl rfl rfl (by first | rfl | exact congrArg _ z_up_s) (fun a b h ty => z_vI h ty) dX12_pour_204 (fun H locs hz1 hW hS => ?_)
              obtain ⟨I82, eI82⟩ : ∃ K : z_I, K = z_up I76 0 55 x81 := ⟨_, rfl⟩
              rw [← eI82] at hW
              have f83 := z_fr_k f77 (show z_wr L_X12_pour_d 0 55 = true by decide) eI82
              have a84 := z_rg_n a78 (by decide) eI82
              have a85 := z_rg_n a79 (by decide) eI82
              have a86 := z_rg_n a80 (by decide) eI82
              refine lv_aload_n hx hb dX12_pour_207 rfl (lv_at hl 0 rfl) ?_
              refine z_get (T := TX12) (N := 96) (ci := 12) (i := 0) (v := .int x81) hx hb hts zj_X12_pour_X12 hown hK hW rfl rfl 55 (by decide) (hts (.fieldLink RX12 468 "PetrolBoardModel" "pours" "I") (me_s (me_l (me_l (List.mem_of_getElem? (i := 1) rfl))))) (fun _ h => h) (congrArg Value.int (by rw [eI82, z_up_s])) dX12_pour_208 ?_
              refine lv_iconst (v := 1) hx hb dX12_pour_211 (by decide) ?_
              refine lv_isub hx hb dX12_pour_212 ?_
              refine lv_topi (fun x87 ex87 => ?_)
              have tx87 : x87.toInt = x81.toInt - 1 := z_tsub ex87 rfl z_l1 (by omega) (by omega)
              exact z_iret hx hb hr hK hS (Nat.le_of_ble_eq_true rfl) (Nat.le_of_ble_eq_true rfl) hlocks dX12_pour_213 (shM, ad, I82, J, PM ad) hW ⟨I82, J, rfl, ⟨(by show 0 ≤ (I82 0 0).toInt ∧ (I82 0 0).toInt ≤ 719; rw [eI82, z_up_k (by decide), eI76, z_up_k (by decide), eI70, z_up_n (by decide), eI65, z_up_n (by decide), eI55, z_up_n (by decide), eI50, z_up_n (by decide), eI41, z_up_n (by decide), eI34, z_up_n (by decide), eI28, z_up_n (by decide), eI23, z_up_n (by decide), eI18, z_up_n (by decide)]; exact hma.1), (by show 0 ≤ (I82 0 1).toInt ∧ (I82 0 1).toInt ≤ 30; rw [eI82, z_up_k (by decide), eI76, z_up_k (by decide), eI70, z_up_n (by decide), eI65, z_up_n (by decide), eI55, z_up_n (by decide), eI50, z_up_n (by decide), eI41, z_up_n (by decide), eI34, z_up_n (by decide), eI28, z_up_n (by decide), eI23, z_up_n (by decide), eI18, z_up_n (by decide)]; exact hma.2.1), (by show 0 ≤ (I82 0 2).toInt ∧ (I82 0 2).toInt ≤ 200; rw [eI82, z_up_k (by decide), eI76, z_up_k (by decide), eI70, z_up_n (by decide), eI65, z_up_n (by decide), eI55, z_up_n (by decide), eI50, z_up_n (by decide), eI41, z_up_n (by decide), eI34, z_up_n (by decide), eI28, z_up_n (by decide), eI23, z_up_n (by decide), eI18, z_up_n (by decide)]; exact hma.2.2)⟩, ⟨(by show 0 ≤ (I82 0 54).toInt ∧ (I82 0 54).toInt ≤ 10; rw [eI82, z_up_k (by decide), eI76, z_up_k (by decide), eI70, z_up_n (by decide), eI65, z_up_n (by decide), eI55, z_up_n (by decide), eI50, z_up_n (by decide), eI41, z_up_n (by decide), eI34, z_up_n (by decide), eI28, z_up_n (by decide), eI23, z_up_n (by decide), eI18, z_up_n (by decide)]; exact hms.1), (by show 0 ≤ (I82 0 55).toInt ∧ (I82 0 55).toInt ≤ 300; rw [eI82, z_up_s]; omega)⟩, a84, ⟨(by show 0 ≤ (I82 0 13).toInt ∧ (I82 0 13).toInt ≤ 12; rw [eI82, z_up_k (by decide), eI76, z_up_k (by decide), eI70, z_up_n (by decide), eI65, z_up_n (by decide), eI55, z_up_n (by decide), eI50, z_up_n (by decide), eI41, z_up_n (by decide), eI34, z_up_n (by decide), eI28, z_up_n (by decide), eI23, z_up_n (by decide), eI18, z_up_n (by decide)]; exact hmb.1), (by show 0 ≤ (I82 0 14).toInt ∧ (I82 0 14).toInt ≤ 288; rw [eI82, z_up_k (by decide), eI76, z_up_k (by decide), eI70, z_up_n (by decide), eI65, z_up_n (by decide), eI55, z_up_n (by decide), eI50, z_up_n (by decide), eI41, z_up_n (by decide), eI34, z_up_n (by decide), eI28, z_up_n (by decide), eI23, z_up_n (by decide), eI18, z_up_n (by decide)]; exact hmb.2)⟩, a85, a86, f83, (Or.inl ⟨by omega, by omega, (by have q9 : (I82 0 55) = x81 := (by rw [eI82, z_up_s]); show (I82 0 55).toInt = (I 0 55).toInt + 1; rw [q9]; first | done | omega), (fun j => by rw [eI82, z_up_n (by decide), eI76, z_up_n (by decide), eI70, z_up_n (by decide), eI65, z_up_n (by decide), eI55, z_up_n (by decide), eI50, z_up_n (by decide), eI41, z_up_n (by decide), eI34, z_up_n (by decide), eI28, z_up_n (by decide), eI23, z_up_j, eI18, z_up_n (by decide)]), (vp_nar .boolean 0), ⟨fun q => absurd (show ((vp_nar .boolean 0) : Int32).toInt = 0 by decide) q, fun q => absurd q (by rw [← ((show x60.toInt = z_fm I55 a2 from (by unfold z_fm; rw [f56 0 0 (by decide)]; exact h61)).trans (z_fm_c (a := a2) (fun j => ⟨f56 6 j (z_wr_c (by decide)), f56 7 j (z_wr_c (by decide)), f56 8 j (z_wr_c (by decide)), f56 9 j (z_wr_c (by decide)), f56 10 j (z_wr_c (by decide))⟩) (f56 0 0 (by decide)) (f56 0 2 (by decide))))]; omega)⟩, (fun j => by rw [eI82, z_up_n (by decide), eI76, z_up_n (by decide), eI70, z_up_n (by decide), eI65, z_up_j, eI55, z_up_n (by decide), eI50, z_up_n (by decide), eI41, z_up_n (by decide), eI34, z_up_n (by decide), eI28, z_up_n (by decide), eI23, z_up_n (by decide), eI18, z_up_n (by decide)])⟩)⟩
            · have g88 := z_f_eq rfl z_l2 c62
              have b89 := Int32.toInt_lt x60
              refine lv_iconst (v := 1) hx hb dX12_pour_168 (by decide) ?_
              refine lv_goto (tgt := 173) hx hb dX12_pour_169 (by decide) ?_
              refine z_zast (i := 42) hx hb hK hW hS rfl (z_ix rfl (by omega) (by omega)) dX12_pour_173 (fun H locs hz1 hW hS => ?_)
              obtain ⟨I90, eI90⟩ : ∃ K : z_I, K = z_up I55 42 (I 0 55).toNatClampNeg (vp_nar .boolean 1) := ⟨_, rfl⟩
              rw [← eI90] at hW
              have f91 := z_fr_a f56 (show z_wa L_X12_pour_d 42 = true by decide) eI90
              have a92 := z_rg_n a57 (by decide) eI90
              have a93 := z_rg_n a58 (by decide) eI90
              have a94 := z_rg_n a59 (by decide) eI90
              refine lv_aload_n hx hb dX12_pour_174 rfl (lv_at hl 0 rfl) ?_
              refine z_get (T := TX12) (N := 96) (ci := 12) (i := 0) (v := .ref (ad 41)) hx hb hts zj_X12_pour_X12 hown hK hW rfl rfl 64 (by decide) (hts (.fieldLink RX12 139 "PetrolBoardModel" "pourCome" "[I") (me_s (me_l (me_l (List.mem_of_getElem? (i := 11) rfl))))) (fun _ h => h) rfl dX12_pour_175 ?_
              refine lv_aload_n hx hb dX12_pour_178 rfl (lv_at hl 0 rfl) ?_
              refine z_get (T := TX12) (N := 96) (ci := 12) (i := 0) (v := .int (I 0 55)) hx hb hts zj_X12_pour_X12 hown hK hW rfl rfl 55 (by decide) (hts (.fieldLink RX12 468 "PetrolBoardModel" "pours" "I") (me_s (me_l (me_l (List.mem_of_getElem? (i := 1) rfl))))) (fun _ h => h) (congrArg Value.int (by rw [eI90, z_up_n (by decide), eI55, z_up_n (by decide), eI50, z_up_n (by decide), eI41, z_up_n (by decide), eI34, z_up_n (by decide), eI28, z_up_n (by decide), eI23, z_up_n (by decide), eI18, z_up_n (by decide)])) dX12_pour_179 ?_
              refine lv_aload_n hx hb dX12_pour_182 rfl (lv_at hl 0 rfl) ?_
              refine z_get (T := TX12) (N := 96) (ci := 12) (i := 0) (v := .int (I 0 56)) hx hb hts zj_X12_pour_X12 hown hK hW rfl rfl 56 (by decide) (hts (.fieldLink RX12 471 "PetrolBoardModel" "comes" "I") (me_s (me_l (me_l (List.mem_of_getElem? (i := 12) rfl))))) (fun _ h => h) (congrArg Value.int (by rw [eI90, z_up_n (by decide), eI55, z_up_n (by decide), eI50, z_up_n (by decide), eI41, z_up_n (by decide), eI34, z_up_n (by decide), eI28, z_up_n (by decide), eI23, z_up_n (by decide), eI18, z_up_n (by decide)])) dX12_pour_183 ?_
              refine z_iast (i := 41) hx hb hK hW hS rfl (z_ix rfl (by omega) (by omega)) dX12_pour_186 (fun H locs hz1 hW hS => ?_)
              obtain ⟨I95, eI95⟩ : ∃ K : z_I, K = z_up I90 41 (I 0 55).toNatClampNeg (I 0 56) := ⟨_, rfl⟩
              rw [← eI95] at hW
              have f96 := z_fr_a f91 (show z_wa L_X12_pour_d 41 = true by decide) eI95
              have a97 := z_rg_n a92 (by decide) eI95
              have a98 := z_rg_n a93 (by decide) eI95
              have a99 := z_rg_n a94 (by decide) eI95
              refine lv_aload_n hx hb dX12_pour_187 rfl (lv_at hl 0 rfl) ?_
              refine lv_dup hx hb dX12_pour_188 rfl ?_
              refine z_get (T := TX12) (N := 96) (ci := 12) (i := 0) (v := .int (I 0 56)) hx hb hts zj_X12_pour_X12 hown hK hW rfl rfl 56 (by decide) (hts (.fieldLink RX12 471 "PetrolBoardModel" "comes" "I") (me_s (me_l (me_l (List.mem_of_getElem? (i := 12) rfl))))) (fun _ h => h) (congrArg Value.int (by rw [eI95, z_up_n (by decide), eI90, z_up_n (by decide), eI55, z_up_n (by decide), eI50, z_up_n (by decide), eI41, z_up_n (by decide), eI34, z_up_n (by decide), eI28, z_up_n (by decide), eI23, z_up_n (by decide), eI18, z_up_n (by decide)])) dX12_pour_189 ?_
              refine lv_iconst (v := 1) hx hb dX12_pour_192 (by decide) ?_
              refine lv_iadd hx hb dX12_pour_193 ?_
              refine lv_topi (fun x100 ex100 => ?_)
              refine z_put (T := TX12) (N := 96) (ci := 12) (i := 0) (v := .int x100) (I1 := z_up I95 0 56 x100) (J1 := J) (P1 := PM ad) hx hb hts zj_X12_pour_X12 tyX12 tyX12_ok nmX12 hown hK hW hS rfl rfl 56 (by decide) (hts (.fieldLink RX12 471 "PetrolBoardModel" "comes" "I") (me_s (me_l (me_l (List.mem_of_getElem? (i := 12) rfl))))) (fun _ h => h) rfl rfl rfl (by first | rfl | exact congrArg _ z_up_s) (fun a b h ty => z_vI h ty) dX12_pour_194 (fun H locs hz1 hW hS => ?_)
              obtain ⟨I101, eI101⟩ : ∃ K : z_I, K = z_up I95 0 56 x100 := ⟨_, rfl⟩
              rw [← eI101] at hW
              have f102 := z_fr_k f96 (show z_wr L_X12_pour_d 0 56 = true by decide) eI101
              have a103 := z_rg_n a97 (by decide) eI101
              have a104 := z_rg_n a98 (by decide) eI101
              have a105 := z_rg_n a99 (by decide) eI101
              refine lv_aload_n hx hb dX12_pour_197 rfl (lv_at hl 0 rfl) ?_
              refine lv_dup hx hb dX12_pour_198 rfl ?_
              refine z_get (T := TX12) (N := 96) (ci := 12) (i := 0) (v := .int (I 0 55)) hx hb hts zj_X12_pour_X12 hown hK hW rfl rfl 55 (by decide) (hts (.fieldLink RX12 468 "PetrolBoardModel" "pours" "I") (me_s (me_l (me_l (List.mem_of_getElem? (i := 1) rfl))))) (fun _ h => h) (congrArg Value.int (by rw [eI101, z_up_k (by decide), eI95, z_up_n (by decide), eI90, z_up_n (by decide), eI55, z_up_n (by decide), eI50, z_up_n (by decide), eI41, z_up_n (by decide), eI34, z_up_n (by decide), eI28, z_up_n (by decide), eI23, z_up_n (by decide), eI18, z_up_n (by decide)])) dX12_pour_199 ?_
              refine lv_iconst (v := 1) hx hb dX12_pour_202 (by decide) ?_
              refine lv_iadd hx hb dX12_pour_203 ?_
              refine lv_topi (fun x106 ex106 => ?_)
              have tx106 : x106.toInt = (I 0 55).toInt + 1 := z_tadd ex106 rfl z_l1 (by omega) (by omega)
              refine z_put (T := TX12) (N := 96) (ci := 12) (i := 0) (v := .int x106) (I1 := z_up I101 0 55 x106) (J1 := J) (P1 := PM ad) hx hb hts zj_X12_pour_X12 tyX12 tyX12_ok nmX12 hown hK hW hS rfl rfl 55 (by decide) (hts (.fieldLink RX12 468 "PetrolBoardModel" "pours" "I") (me_s (me_l (me_l (List.mem_of_getElem? (i := 1) rfl))))) (fun _ h => h) rfl rfl rfl (by first | rfl | exact congrArg _ z_up_s) (fun a b h ty => z_vI h ty) dX12_pour_204 (fun H locs hz1 hW hS => ?_)
              obtain ⟨I107, eI107⟩ : ∃ K : z_I, K = z_up I101 0 55 x106 := ⟨_, rfl⟩
              rw [← eI107] at hW
              have f108 := z_fr_k f102 (show z_wr L_X12_pour_d 0 55 = true by decide) eI107
              have a109 := z_rg_n a103 (by decide) eI107
              have a110 := z_rg_n a104 (by decide) eI107
              have a111 := z_rg_n a105 (by decide) eI107
              refine lv_aload_n hx hb dX12_pour_207 rfl (lv_at hl 0 rfl) ?_
              refine z_get (T := TX12) (N := 96) (ci := 12) (i := 0) (v := .int x106) hx hb hts zj_X12_pour_X12 hown hK hW rfl rfl 55 (by decide) (hts (.fieldLink RX12 468 "PetrolBoardModel" "pours" "I") (me_s (me_l (me_l (List.mem_of_getElem? (i := 1) rfl))))) (fun _ h => h) (congrArg Value.int (by rw [eI107, z_up_s])) dX12_pour_208 ?_
              refine lv_iconst (v := 1) hx hb dX12_pour_211 (by decide) ?_
              refine lv_isub hx hb dX12_pour_212 ?_
              refine lv_topi (fun x112 ex112 => ?_)
              have tx112 : x112.toInt = x106.toInt - 1 := z_tsub ex112 rfl z_l1 (by omega) (by omega)
              exact z_iret hx hb hr hK hS (Nat.le_of_ble_eq_true rfl) (Nat.le_of_ble_eq_true rfl) hlocks dX12_pour_213 (shM, ad, I107, J, PM ad) hW ⟨I107, J, rfl, ⟨(by show 0 ≤ (I107 0 0).toInt ∧ (I107 0 0).toInt ≤ 719; rw [eI107, z_up_k (by decide), eI101, z_up_k (by decide), eI95, z_up_n (by decide), eI90, z_up_n (by decide), eI55, z_up_n (by decide), eI50, z_up_n (by decide), eI41, z_up_n (by decide), eI34, z_up_n (by decide), eI28, z_up_n (by decide), eI23, z_up_n (by decide), eI18, z_up_n (by decide)]; exact hma.1), (by show 0 ≤ (I107 0 1).toInt ∧ (I107 0 1).toInt ≤ 30; rw [eI107, z_up_k (by decide), eI101, z_up_k (by decide), eI95, z_up_n (by decide), eI90, z_up_n (by decide), eI55, z_up_n (by decide), eI50, z_up_n (by decide), eI41, z_up_n (by decide), eI34, z_up_n (by decide), eI28, z_up_n (by decide), eI23, z_up_n (by decide), eI18, z_up_n (by decide)]; exact hma.2.1), (by show 0 ≤ (I107 0 2).toInt ∧ (I107 0 2).toInt ≤ 200; rw [eI107, z_up_k (by decide), eI101, z_up_k (by decide), eI95, z_up_n (by decide), eI90, z_up_n (by decide), eI55, z_up_n (by decide), eI50, z_up_n (by decide), eI41, z_up_n (by decide), eI34, z_up_n (by decide), eI28, z_up_n (by decide), eI23, z_up_n (by decide), eI18, z_up_n (by decide)]; exact hma.2.2)⟩, ⟨(by show 0 ≤ (I107 0 54).toInt ∧ (I107 0 54).toInt ≤ 10; rw [eI107, z_up_k (by decide), eI101, z_up_k (by decide), eI95, z_up_n (by decide), eI90, z_up_n (by decide), eI55, z_up_n (by decide), eI50, z_up_n (by decide), eI41, z_up_n (by decide), eI34, z_up_n (by decide), eI28, z_up_n (by decide), eI23, z_up_n (by decide), eI18, z_up_n (by decide)]; exact hms.1), (by show 0 ≤ (I107 0 55).toInt ∧ (I107 0 55).toInt ≤ 300; rw [eI107, z_up_s]; omega)⟩, a109, ⟨(by show 0 ≤ (I107 0 13).toInt ∧ (I107 0 13).toInt ≤ 12; rw [eI107, z_up_k (by decide), eI101, z_up_k (by decide), eI95, z_up_n (by decide), eI90, z_up_n (by decide), eI55, z_up_n (by decide), eI50, z_up_n (by decide), eI41, z_up_n (by decide), eI34, z_up_n (by decide), eI28, z_up_n (by decide), eI23, z_up_n (by decide), eI18, z_up_n (by decide)]; exact hmb.1), (by show 0 ≤ (I107 0 14).toInt ∧ (I107 0 14).toInt ≤ 288; rw [eI107, z_up_k (by decide), eI101, z_up_k (by decide), eI95, z_up_n (by decide), eI90, z_up_n (by decide), eI55, z_up_n (by decide), eI50, z_up_n (by decide), eI41, z_up_n (by decide), eI34, z_up_n (by decide), eI28, z_up_n (by decide), eI23, z_up_n (by decide), eI18, z_up_n (by decide)]; exact hmb.2)⟩, a110, a111, f108, (Or.inl ⟨by omega, by omega, (by have q9 : (I107 0 55) = x106 := (by rw [eI107, z_up_s]); show (I107 0 55).toInt = (I 0 55).toInt + 1; rw [q9]; first | done | omega), (fun j => by rw [eI107, z_up_n (by decide), eI101, z_up_n (by decide), eI95, z_up_n (by decide), eI90, z_up_n (by decide), eI55, z_up_n (by decide), eI50, z_up_n (by decide), eI41, z_up_n (by decide), eI34, z_up_n (by decide), eI28, z_up_n (by decide), eI23, z_up_j, eI18, z_up_n (by decide)]), (vp_nar .boolean 1), ⟨fun _ => by rw [← ((show x60.toInt = z_fm I55 a2 from (by unfold z_fm; rw [f56 0 0 (by decide)]; exact h61)).trans (z_fm_c (a := a2) (fun j => ⟨f56 6 j (z_wr_c (by decide)), f56 7 j (z_wr_c (by decide)), f56 8 j (z_wr_c (by decide)), f56 9 j (z_wr_c (by decide)), f56 10 j (z_wr_c (by decide))⟩) (f56 0 0 (by decide)) (f56 0 2 (by decide))))]; omega, fun _ => by decide⟩, (fun j => by rw [eI107, z_up_n (by decide), eI101, z_up_n (by decide), eI95, z_up_n (by decide), eI90, z_up_j, eI55, z_up_n (by decide), eI50, z_up_n (by decide), eI41, z_up_n (by decide), eI34, z_up_n (by decide), eI28, z_up_n (by decide), eI23, z_up_n (by decide), eI18, z_up_n (by decide)])⟩)⟩
          · refine lv_if_eq (tgt := 131) hx hb dX12_pour_120 (by decide) (fun c113 => ?_) (fun c113 => absurd (by decide) c113)
            refine lv_iconst (v := (-1)) hx hb dX12_pour_131 (by decide) ?_
            refine z_iast (i := 39) hx hb hK hW hS rfl (z_ix rfl (by omega) (by omega)) dX12_pour_132 (fun H locs hz1 hW hS => ?_)
            obtain ⟨I114, eI114⟩ : ∃ K : z_I, K = z_up I41 39 (I 0 55).toNatClampNeg (-1) := ⟨_, rfl⟩
            rw [← eI114] at hW
            have f115 := z_fr_a f42 (show z_wa L_X12_pour_d 39 = true by decide) eI114
            have a116 := z_rg_n a43 (by decide) eI114
            have a117 := z_rg_n a44 (by decide) eI114
            have a118 := z_rg_n a45 (by decide) eI114
            refine lv_aload_n hx hb dX12_pour_133 rfl (lv_at hl 0 rfl) ?_
            refine z_get (T := TX12) (N := 96) (ci := 12) (i := 0) (v := .ref (ad 40)) hx hb hts zj_X12_pour_X12 hown hK hW rfl rfl 63 (by decide) (hts (.fieldLink RX12 136 "PetrolBoardModel" "pourJudged" "[I") (me_s (me_l (me_l (List.mem_of_getElem? (i := 9) rfl))))) (fun _ h => h) rfl dX12_pour_134 ?_
            refine lv_aload_n hx hb dX12_pour_137 rfl (lv_at hl 0 rfl) ?_
            refine z_get (T := TX12) (N := 96) (ci := 12) (i := 0) (v := .int (I 0 55)) hx hb hts zj_X12_pour_X12 hown hK hW rfl rfl 55 (by decide) (hts (.fieldLink RX12 468 "PetrolBoardModel" "pours" "I") (me_s (me_l (me_l (List.mem_of_getElem? (i := 1) rfl))))) (fun _ h => h) (congrArg Value.int (by rw [eI114, z_up_n (by decide), eI41, z_up_n (by decide), eI34, z_up_n (by decide), eI28, z_up_n (by decide), eI23, z_up_n (by decide), eI18, z_up_n (by decide)])) dX12_pour_138 ?_
            refine lv_iconst (v := (-1)) hx hb dX12_pour_141 (by decide) ?_
            refine z_iast (i := 40) hx hb hK hW hS rfl (z_ix rfl (by omega) (by omega)) dX12_pour_142 (fun H locs hz1 hW hS => ?_)
            obtain ⟨I119, eI119⟩ : ∃ K : z_I, K = z_up I114 40 (I 0 55).toNatClampNeg (-1) := ⟨_, rfl⟩
            rw [← eI119] at hW
            have f120 := z_fr_a f115 (show z_wa L_X12_pour_d 40 = true by decide) eI119
            have a121 := z_rg_n a116 (by decide) eI119
            have a122 := z_rg_n a117 (by decide) eI119
            have a123 := z_rg_n a118 (by decide) eI119
            refine lv_aload_n hx hb dX12_pour_143 rfl (lv_at hl 0 rfl) ?_
            refine z_get (T := TX12) (N := 96) (ci := 12) (i := 0) (v := .ref (ad 42)) hx hb hts zj_X12_pour_X12 hown hK hW rfl rfl 65 (by decide) (hts (.fieldLink RX12 142 "PetrolBoardModel" "pourDyed" "[Z") (me_s (me_l (me_l (List.mem_of_getElem? (i := 10) rfl))))) (fun _ h => h) rfl dX12_pour_144 ?_
            refine lv_aload_n hx hb dX12_pour_147 rfl (lv_at hl 0 rfl) ?_
            refine z_get (T := TX12) (N := 96) (ci := 12) (i := 0) (v := .int (I 0 55)) hx hb hts zj_X12_pour_X12 hown hK hW rfl rfl 55 (by decide) (hts (.fieldLink RX12 468 "PetrolBoardModel" "pours" "I") (me_s (me_l (me_l (List.mem_of_getElem? (i := 1) rfl))))) (fun _ h => h) (congrArg Value.int (by rw [eI119, z_up_n (by decide), eI114, z_up_n (by decide), eI41, z_up_n (by decide), eI34, z_up_n (by decide), eI28, z_up_n (by decide), eI23, z_up_n (by decide), eI18, z_up_n (by decide)])) dX12_pour_148 ?_
            refine lv_aload_n hx hb dX12_pour_151 rfl (lv_at hl 0 rfl) ?_
            refine lv_iload_n hx hb dX12_pour_152 rfl (lv_at hl 2 rfl) ?_
            refine lv_aload_n hx hb dX12_pour_153 rfl (lv_at hl 0 rfl) ?_
            refine z_get (T := TX12) (N := 96) (ci := 12) (i := 0) (v := .int (I 0 0)) hx hb hts zj_X12_pour_X12 hown hK hW rfl rfl 0 (by decide) (hts (.fieldLink RX12 232 "PetrolBoardModel" "today" "I") (me_s (me_l (me_l (List.mem_of_getElem? (i := 6) rfl))))) (fun _ h => h) (congrArg Value.int (by rw [eI119, z_up_n (by decide), eI114, z_up_n (by decide), eI41, z_up_n (by decide), eI34, z_up_n (by decide), eI28, z_up_n (by decide), eI23, z_up_n (by decide), eI18, z_up_n (by decide)])) dX12_pour_154 ?_
            refine lv_aload_n hx hb dX12_pour_157 rfl (lv_at hl 0 rfl) ?_
            refine z_get (T := TX12) (N := 96) (ci := 12) (i := 0) (v := .int (I 0 0)) hx hb hts zj_X12_pour_X12 hown hK hW rfl rfl 0 (by decide) (hts (.fieldLink RX12 232 "PetrolBoardModel" "today" "I") (me_s (me_l (me_l (List.mem_of_getElem? (i := 6) rfl))))) (fun _ h => h) (congrArg Value.int (by rw [eI119, z_up_n (by decide), eI114, z_up_n (by decide), eI41, z_up_n (by decide), eI34, z_up_n (by decide), eI28, z_up_n (by decide), eI23, z_up_n (by decide), eI18, z_up_n (by decide)])) dX12_pour_158 ?_
            refine z_ci hW hS hA (va_runV (As := [.int a2, .int (I 0 0), .int (I 0 0)]) (rest := [.int (I 0 55), .ref (ad 42)]) ⟨hx, hb, hml, hown, hts⟩ (sx_X12_kindOn_r l G ad I119 J ⟨(by show 0 ≤ (I119 0 0).toInt ∧ (I119 0 0).toInt ≤ 719; rw [eI119, z_up_n (by decide), eI114, z_up_n (by decide), eI41, z_up_n (by decide), eI34, z_up_n (by decide), eI28, z_up_n (by decide), eI23, z_up_n (by decide), eI18, z_up_n (by decide)]; exact hma.1), (by show 0 ≤ (I119 0 1).toInt ∧ (I119 0 1).toInt ≤ 30; rw [eI119, z_up_n (by decide), eI114, z_up_n (by decide), eI41, z_up_n (by decide), eI34, z_up_n (by decide), eI28, z_up_n (by decide), eI23, z_up_n (by decide), eI18, z_up_n (by decide)]; exact hma.2.1), (by show 0 ≤ (I119 0 2).toInt ∧ (I119 0 2).toInt ≤ 200; rw [eI119, z_up_n (by decide), eI114, z_up_n (by decide), eI41, z_up_n (by decide), eI34, z_up_n (by decide), eI28, z_up_n (by decide), eI23, z_up_n (by decide), eI18, z_up_n (by decide)]; exact hma.2.2)⟩ a2 (I 0 0) (I 0 0) _) (cwV 3 hts gX12_pour_X12_kindOn rfl rfl rfl (by decide +kernel) ⟨Nat.le_of_ble_eq_true rfl, Nat.le_of_ble_eq_true rfl⟩) (z_preV (i := 0) hK hW rfl rfl) rfl rfl hl.1 rfl (lv_room (Nat.le_of_ble_eq_true rfl)) dX12_pour_161 ⟨Nat.le_of_ble_eq_true rfl, Nat.le_of_ble_eq_true rfl⟩) (fun r u1 H locs hp hW hS => ?_)
            obtain ⟨e9, hp⟩ := hp
            rw [e9] at hW
            refine lv_topi (fun x124 ex124 => ?_)
            have h125 := hp
            rw [← ex124] at h125
            refine lv_iconst (v := 2) hx hb dX12_pour_164 (by decide) ?_
            refine lv_icmp_ne (tgt := 172) hx hb dX12_pour_165 (by decide) (fun c126 => ?_) (fun c126 => ?_)
            · have g127 := z_f_ne rfl z_l2 c126
              have b128 := Int32.toInt_lt x124
              refine lv_iconst (v := 0) hx hb dX12_pour_172 (by decide) ?_
              refine z_zast (i := 42) hx hb hK hW hS rfl (z_ix rfl (by omega) (by omega)) dX12_pour_173 (fun H locs hz1 hW hS => ?_)
              obtain ⟨I129, eI129⟩ : ∃ K : z_I, K = z_up I119 42 (I 0 55).toNatClampNeg (vp_nar .boolean 0) := ⟨_, rfl⟩
              rw [← eI129] at hW
              have f130 := z_fr_a f120 (show z_wa L_X12_pour_d 42 = true by decide) eI129
              have a131 := z_rg_n a121 (by decide) eI129
              have a132 := z_rg_n a122 (by decide) eI129
              have a133 := z_rg_n a123 (by decide) eI129
              refine lv_aload_n hx hb dX12_pour_174 rfl (lv_at hl 0 rfl) ?_
              refine z_get (T := TX12) (N := 96) (ci := 12) (i := 0) (v := .ref (ad 41)) hx hb hts zj_X12_pour_X12 hown hK hW rfl rfl 64 (by decide) (hts (.fieldLink RX12 139 "PetrolBoardModel" "pourCome" "[I") (me_s (me_l (me_l (List.mem_of_getElem? (i := 11) rfl))))) (fun _ h => h) rfl dX12_pour_175 ?_
              refine lv_aload_n hx hb dX12_pour_178 rfl (lv_at hl 0 rfl) ?_
              refine z_get (T := TX12) (N := 96) (ci := 12) (i := 0) (v := .int (I 0 55)) hx hb hts zj_X12_pour_X12 hown hK hW rfl rfl 55 (by decide) (hts (.fieldLink RX12 468 "PetrolBoardModel" "pours" "I") (me_s (me_l (me_l (List.mem_of_getElem? (i := 1) rfl))))) (fun _ h => h) (congrArg Value.int (by rw [eI129, z_up_n (by decide), eI119, z_up_n (by decide), eI114, z_up_n (by decide), eI41, z_up_n (by decide), eI34, z_up_n (by decide), eI28, z_up_n (by decide), eI23, z_up_n (by decide), eI18, z_up_n (by decide)])) dX12_pour_179 ?_
              refine lv_aload_n hx hb dX12_pour_182 rfl (lv_at hl 0 rfl) ?_
              refine z_get (T := TX12) (N := 96) (ci := 12) (i := 0) (v := .int (I 0 56)) hx hb hts zj_X12_pour_X12 hown hK hW rfl rfl 56 (by decide) (hts (.fieldLink RX12 471 "PetrolBoardModel" "comes" "I") (me_s (me_l (me_l (List.mem_of_getElem? (i := 12) rfl))))) (fun _ h => h) (congrArg Value.int (by rw [eI129, z_up_n (by decide), eI119, z_up_n (by decide), eI114, z_up_n (by decide), eI41, z_up_n (by decide), eI34, z_up_n (by decide), eI28, z_up_n (by decide), eI23, z_up_n (by decide), eI18, z_up_n (by decide)])) dX12_pour_183 ?_
              refine z_iast (i := 41) hx hb hK hW hS rfl (z_ix rfl (by omega) (by omega)) dX12_pour_186 (fun H locs hz1 hW hS => ?_)
              obtain ⟨I134, eI134⟩ : ∃ K : z_I, K = z_up I129 41 (I 0 55).toNatClampNeg (I 0 56) := ⟨_, rfl⟩
              rw [← eI134] at hW
              have f135 := z_fr_a f130 (show z_wa L_X12_pour_d 41 = true by decide) eI134
              have a136 := z_rg_n a131 (by decide) eI134
              have a137 := z_rg_n a132 (by decide) eI134
              have a138 := z_rg_n a133 (by decide) eI134
              refine lv_aload_n hx hb dX12_pour_187 rfl (lv_at hl 0 rfl) ?_
              refine lv_dup hx hb dX12_pour_188 rfl ?_
              refine z_get (T := TX12) (N := 96) (ci := 12) (i := 0) (v := .int (I 0 56)) hx hb hts zj_X12_pour_X12 hown hK hW rfl rfl 56 (by decide) (hts (.fieldLink RX12 471 "PetrolBoardModel" "comes" "I") (me_s (me_l (me_l (List.mem_of_getElem? (i := 12) rfl))))) (fun _ h => h) (congrArg Value.int (by rw [eI134, z_up_n (by decide), eI129, z_up_n (by decide), eI119, z_up_n (by decide), eI114, z_up_n (by decide), eI41, z_up_n (by decide), eI34, z_up_n (by decide), eI28, z_up_n (by decide), eI23, z_up_n (by decide), eI18, z_up_n (by decide)])) dX12_pour_189 ?_
              refine lv_iconst (v := 1) hx hb dX12_pour_192 (by decide) ?_
              refine lv_iadd hx hb dX12_pour_193 ?_
              refine lv_topi (fun x139 ex139 => ?_)
              refine z_put (T := TX12) (N := 96) (ci := 12) (i := 0) (v := .int x139) (I1 := z_up I134 0 56 x139) (J1 := J) (P1 := PM ad) hx hb hts zj_X12_pour_X12 tyX12 tyX12_ok nmX12 hown hK hW hS rfl rfl 56 (by decide) (hts (.fieldLink RX12 471 "PetrolBoardModel" "comes" "I") (me_s (me_l (me_l (List.mem_of_getElem? (i := 12) rfl))))) (fun _ h => h) rfl rfl rfl (by first | rfl | exact congrArg _ z_up_s) (fun a b h ty => z_vI h ty) dX12_pour_194 (fun H locs hz1 hW hS => ?_)
              obtain ⟨I140, eI140⟩ : ∃ K : z_I, K = z_up I134 0 56 x139 := ⟨_, rfl⟩
              rw [← eI140] at hW
              have f141 := z_fr_k f135 (show z_wr L_X12_pour_d 0 56 = true by decide) eI140
              have a142 := z_rg_n a136 (by decide) eI140
              have a143 := z_rg_n a137 (by decide) eI140
              have a144 := z_rg_n a138 (by decide) eI140
              refine lv_aload_n hx hb dX12_pour_197 rfl (lv_at hl 0 rfl) ?_
              refine lv_dup hx hb dX12_pour_198 rfl ?_
              refine z_get (T := TX12) (N := 96) (ci := 12) (i := 0) (v := .int (I 0 55)) hx hb hts zj_X12_pour_X12 hown hK hW rfl rfl 55 (by decide) (hts (.fieldLink RX12 468 "PetrolBoardModel" "pours" "I") (me_s (me_l (me_l (List.mem_of_getElem? (i := 1) rfl))))) (fun _ h => h) (congrArg Value.int (by rw [eI140, z_up_k (by decide), eI134, z_up_n (by decide), eI129, z_up_n (by decide), eI119, z_up_n (by decide), eI114, z_up_n (by decide), eI41, z_up_n (by decide), eI34, z_up_n (by decide), eI28, z_up_n (by decide), eI23, z_up_n (by decide), eI18, z_up_n (by decide)])) dX12_pour_199 ?_
              refine lv_iconst (v := 1) hx hb dX12_pour_202 (by decide) ?_
              refine lv_iadd hx hb dX12_pour_203 ?_
              refine lv_topi (fun x145 ex145 => ?_)
              have tx145 : x145.toInt = (I 0 55).toInt + 1 := z_tadd ex145 rfl z_l1 (by omega) (by omega)
              refine z_put (T := TX12) (N := 96) (ci := 12) (i := 0) (v := .int x145) (I1 := z_up I140 0 55 x145) (J1 := J) (P1 := PM ad) hx hb hts zj_X12_pour_X12 tyX12 tyX12_ok nmX12 hown hK hW hS rfl rfl 55 (by decide) (hts (.fieldLink RX12 468 "PetrolBoardModel" "pours" "I") (me_s (me_l (me_l (List.mem_of_getElem? (i := 1) rfl))))) (fun _ h => h) rfl rfl rfl (by first | rfl | exact congrArg _ z_up_s) (fun a b h ty => z_vI h ty) dX12_pour_204 (fun H locs hz1 hW hS => ?_)
              obtain ⟨I146, eI146⟩ : ∃ K : z_I, K = z_up I140 0 55 x145 := ⟨_, rfl⟩
              rw [← eI146] at hW
              have f147 := z_fr_k f141 (show z_wr L_X12_pour_d 0 55 = true by decide) eI146
              have a148 := z_rg_n a142 (by decide) eI146
              have a149 := z_rg_n a143 (by decide) eI146
              have a150 := z_rg_n a144 (by decide) eI146
              refine lv_aload_n hx hb dX12_pour_207 rfl (lv_at hl 0 rfl) ?_
              refine z_get (T := TX12) (N := 96) (ci := 12) (i := 0) (v := .int x145) hx hb hts zj_X12_pour_X12 hown hK hW rfl rfl 55 (by decide) (hts (.fieldLink RX12 468 "PetrolBoardModel" "pours" "I") (me_s (me_l (me_l (List.mem_of_getElem? (i := 1) rfl))))) (fun _ h => h) (congrArg Value.int (by rw [eI146, z_up_s])) dX12_pour_208 ?_
              refine lv_iconst (v := 1) hx hb dX12_pour_211 (by decide) ?_
              refine lv_isub hx hb dX12_pour_212 ?_
              refine lv_topi (fun x151 ex151 => ?_)
              have tx151 : x151.toInt = x145.toInt - 1 := z_tsub ex151 rfl z_l1 (by omega) (by omega)
              exact z_iret hx hb hr hK hS (Nat.le_of_ble_eq_true rfl) (Nat.le_of_ble_eq_true rfl) hlocks dX12_pour_213 (shM, ad, I146, J, PM ad) hW ⟨I146, J, rfl, ⟨(by show 0 ≤ (I146 0 0).toInt ∧ (I146 0 0).toInt ≤ 719; rw [eI146, z_up_k (by decide), eI140, z_up_k (by decide), eI134, z_up_n (by decide), eI129, z_up_n (by decide), eI119, z_up_n (by decide), eI114, z_up_n (by decide), eI41, z_up_n (by decide), eI34, z_up_n (by decide), eI28, z_up_n (by decide), eI23, z_up_n (by decide), eI18, z_up_n (by decide)]; exact hma.1), (by show 0 ≤ (I146 0 1).toInt ∧ (I146 0 1).toInt ≤ 30; rw [eI146, z_up_k (by decide), eI140, z_up_k (by decide), eI134, z_up_n (by decide), eI129, z_up_n (by decide), eI119, z_up_n (by decide), eI114, z_up_n (by decide), eI41, z_up_n (by decide), eI34, z_up_n (by decide), eI28, z_up_n (by decide), eI23, z_up_n (by decide), eI18, z_up_n (by decide)]; exact hma.2.1), (by show 0 ≤ (I146 0 2).toInt ∧ (I146 0 2).toInt ≤ 200; rw [eI146, z_up_k (by decide), eI140, z_up_k (by decide), eI134, z_up_n (by decide), eI129, z_up_n (by decide), eI119, z_up_n (by decide), eI114, z_up_n (by decide), eI41, z_up_n (by decide), eI34, z_up_n (by decide), eI28, z_up_n (by decide), eI23, z_up_n (by decide), eI18, z_up_n (by decide)]; exact hma.2.2)⟩, ⟨(by show 0 ≤ (I146 0 54).toInt ∧ (I146 0 54).toInt ≤ 10; rw [eI146, z_up_k (by decide), eI140, z_up_k (by decide), eI134, z_up_n (by decide), eI129, z_up_n (by decide), eI119, z_up_n (by decide), eI114, z_up_n (by decide), eI41, z_up_n (by decide), eI34, z_up_n (by decide), eI28, z_up_n (by decide), eI23, z_up_n (by decide), eI18, z_up_n (by decide)]; exact hms.1), (by show 0 ≤ (I146 0 55).toInt ∧ (I146 0 55).toInt ≤ 300; rw [eI146, z_up_s]; omega)⟩, a148, ⟨(by show 0 ≤ (I146 0 13).toInt ∧ (I146 0 13).toInt ≤ 12; rw [eI146, z_up_k (by decide), eI140, z_up_k (by decide), eI134, z_up_n (by decide), eI129, z_up_n (by decide), eI119, z_up_n (by decide), eI114, z_up_n (by decide), eI41, z_up_n (by decide), eI34, z_up_n (by decide), eI28, z_up_n (by decide), eI23, z_up_n (by decide), eI18, z_up_n (by decide)]; exact hmb.1), (by show 0 ≤ (I146 0 14).toInt ∧ (I146 0 14).toInt ≤ 288; rw [eI146, z_up_k (by decide), eI140, z_up_k (by decide), eI134, z_up_n (by decide), eI129, z_up_n (by decide), eI119, z_up_n (by decide), eI114, z_up_n (by decide), eI41, z_up_n (by decide), eI34, z_up_n (by decide), eI28, z_up_n (by decide), eI23, z_up_n (by decide), eI18, z_up_n (by decide)]; exact hmb.2)⟩, a149, a150, f147, (Or.inl ⟨by omega, by omega, (by have q9 : (I146 0 55) = x145 := (by rw [eI146, z_up_s]); show (I146 0 55).toInt = (I 0 55).toInt + 1; rw [q9]; first | done | omega), (fun j => by rw [eI146, z_up_n (by decide), eI140, z_up_n (by decide), eI134, z_up_n (by decide), eI129, z_up_n (by decide), eI119, z_up_n (by decide), eI114, z_up_n (by decide), eI41, z_up_n (by decide), eI34, z_up_n (by decide), eI28, z_up_n (by decide), eI23, z_up_j, eI18, z_up_n (by decide)]), (vp_nar .boolean 0), ⟨fun q => absurd (show ((vp_nar .boolean 0) : Int32).toInt = 0 by decide) q, fun q => absurd q (by rw [← ((show x124.toInt = z_fm I119 a2 from (by unfold z_fm; rw [f120 0 0 (by decide)]; exact h125)).trans (z_fm_c (a := a2) (fun j => ⟨f120 6 j (z_wr_c (by decide)), f120 7 j (z_wr_c (by decide)), f120 8 j (z_wr_c (by decide)), f120 9 j (z_wr_c (by decide)), f120 10 j (z_wr_c (by decide))⟩) (f120 0 0 (by decide)) (f120 0 2 (by decide))))]; omega)⟩, (fun j => by rw [eI146, z_up_n (by decide), eI140, z_up_n (by decide), eI134, z_up_n (by decide), eI129, z_up_j, eI119, z_up_n (by decide), eI114, z_up_n (by decide), eI41, z_up_n (by decide), eI34, z_up_n (by decide), eI28, z_up_n (by decide), eI23, z_up_n (by decide), eI18, z_up_n (by decide)])⟩)⟩
            · have g152 := z_f_eq rfl z_l2 c126
              have b153 := Int32.toInt_lt x124
              refine lv_iconst (v := 1) hx hb dX12_pour_168 (by decide) ?_
              refine lv_goto (tgt := 173) hx hb dX12_pour_169 (by decide) ?_
              refine z_zast (i := 42) hx hb hK hW hS rfl (z_ix rfl (by omega) (by omega)) dX12_pour_173 (fun H locs hz1 hW hS => ?_)
              obtain ⟨I154, eI154⟩ : ∃ K : z_I, K = z_up I119 42 (I 0 55).toNatClampNeg (vp_nar .boolean 1) := ⟨_, rfl⟩
              rw [← eI154] at hW
              have f155 := z_fr_a f120 (show z_wa L_X12_pour_d 42 = true by decide) eI154
              have a156 := z_rg_n a121 (by decide) eI154
              have a157 := z_rg_n a122 (by decide) eI154
              have a158 := z_rg_n a123 (by decide) eI154
              refine lv_aload_n hx hb dX12_pour_174 rfl (lv_at hl 0 rfl) ?_
              refine z_get (T := TX12) (N := 96) (ci := 12) (i := 0) (v := .ref (ad 41)) hx hb hts zj_X12_pour_X12 hown hK hW rfl rfl 64 (by decide) (hts (.fieldLink RX12 139 "PetrolBoardModel" "pourCome" "[I") (me_s (me_l (me_l (List.mem_of_getElem? (i := 11) rfl))))) (fun _ h => h) rfl dX12_pour_175 ?_
              refine lv_aload_n hx hb dX12_pour_178 rfl (lv_at hl 0 rfl) ?_
              refine z_get (T := TX12) (N := 96) (ci := 12) (i := 0) (v := .int (I 0 55)) hx hb hts zj_X12_pour_X12 hown hK hW rfl rfl 55 (by decide) (hts (.fieldLink RX12 468 "PetrolBoardModel" "pours" "I") (me_s (me_l (me_l (List.mem_of_getElem? (i := 1) rfl))))) (fun _ h => h) (congrArg Value.int (by rw [eI154, z_up_n (by decide), eI119, z_up_n (by decide), eI114, z_up_n (by decide), eI41, z_up_n (by decide), eI34, z_up_n (by decide), eI28, z_up_n (by decide), eI23, z_up_n (by decide), eI18, z_up_n (by decide)])) dX12_pour_179 ?_
              refine lv_aload_n hx hb dX12_pour_182 rfl (lv_at hl 0 rfl) ?_
              refine z_get (T := TX12) (N := 96) (ci := 12) (i := 0) (v := .int (I 0 56)) hx hb hts zj_X12_pour_X12 hown hK hW rfl rfl 56 (by decide) (hts (.fieldLink RX12 471 "PetrolBoardModel" "comes" "I") (me_s (me_l (me_l (List.mem_of_getElem? (i := 12) rfl))))) (fun _ h => h) (congrArg Value.int (by rw [eI154, z_up_n (by decide), eI119, z_up_n (by decide), eI114, z_up_n (by decide), eI41, z_up_n (by decide), eI34, z_up_n (by decide), eI28, z_up_n (by decide), eI23, z_up_n (by decide), eI18, z_up_n (by decide)])) dX12_pour_183 ?_
              refine z_iast (i := 41) hx hb hK hW hS rfl (z_ix rfl (by omega) (by omega)) dX12_pour_186 (fun H locs hz1 hW hS => ?_)
              obtain ⟨I159, eI159⟩ : ∃ K : z_I, K = z_up I154 41 (I 0 55).toNatClampNeg (I 0 56) := ⟨_, rfl⟩
              rw [← eI159] at hW
              have f160 := z_fr_a f155 (show z_wa L_X12_pour_d 41 = true by decide) eI159
              have a161 := z_rg_n a156 (by decide) eI159
              have a162 := z_rg_n a157 (by decide) eI159
              have a163 := z_rg_n a158 (by decide) eI159
              refine lv_aload_n hx hb dX12_pour_187 rfl (lv_at hl 0 rfl) ?_
              refine lv_dup hx hb dX12_pour_188 rfl ?_
              refine z_get (T := TX12) (N := 96) (ci := 12) (i := 0) (v := .int (I 0 56)) hx hb hts zj_X12_pour_X12 hown hK hW rfl rfl 56 (by decide) (hts (.fieldLink RX12 471 "PetrolBoardModel" "comes" "I") (me_s (me_l (me_l (List.mem_of_getElem? (i := 12) rfl))))) (fun _ h => h) (congrArg Value.int (by rw [eI159, z_up_n (by decide), eI154, z_up_n (by decide), eI119, z_up_n (by decide), eI114, z_up_n (by decide), eI41, z_up_n (by decide), eI34, z_up_n (by decide), eI28, z_up_n (by decide), eI23, z_up_n (by decide), eI18, z_up_n (by decide)])) dX12_pour_189 ?_
              refine lv_iconst (v := 1) hx hb dX12_pour_192 (by decide) ?_
              refine lv_iadd hx hb dX12_pour_193 ?_
              refine lv_topi (fun x164 ex164 => ?_)
              refine z_put (T := TX12) (N := 96) (ci := 12) (i := 0) (v := .int x164) (I1 := z_up I159 0 56 x164) (J1 := J) (P1 := PM ad) hx hb hts zj_X12_pour_X12 tyX12 tyX12_ok nmX12 hown hK hW hS rfl rfl 56 (by decide) (hts (.fieldLink RX12 471 "PetrolBoardModel" "comes" "I") (me_s (me_l (me_l (List.mem_of_getElem? (i := 12) rfl))))) (fun _ h => h) rfl rfl rfl (by first | rfl | exact congrArg _ z_up_s) (fun a b h ty => z_vI h ty) dX12_pour_194 (fun H locs hz1 hW hS => ?_)
              obtain ⟨I165, eI165⟩ : ∃ K : z_I, K = z_up I159 0 56 x164 := ⟨_, rfl⟩
              rw [← eI165] at hW
              have f166 := z_fr_k f160 (show z_wr L_X12_pour_d 0 56 = true by decide) eI165
              have a167 := z_rg_n a161 (by decide) eI165
              have a168 := z_rg_n a162 (by decide) eI165
              have a169 := z_rg_n a163 (by decide) eI165
              refine lv_aload_n hx hb dX12_pour_197 rfl (lv_at hl 0 rfl) ?_
              refine lv_dup hx hb dX12_pour_198 rfl ?_
              refine z_get (T := TX12) (N := 96) (ci := 12) (i := 0) (v := .int (I 0 55)) hx hb hts zj_X12_pour_X12 hown hK hW rfl rfl 55 (by decide) (hts (.fieldLink RX12 468 "PetrolBoardModel" "pours" "I") (me_s (me_l (me_l (List.mem_of_getElem? (i := 1) rfl))))) (fun _ h => h) (congrArg Value.int (by rw [eI165, z_up_k (by decide), eI159, z_up_n (by decide), eI154, z_up_n (by decide), eI119, z_up_n (by decide), eI114, z_up_n (by decide), eI41, z_up_n (by decide), eI34, z_up_n (by decide), eI28, z_up_n (by decide), eI23, z_up_n (by decide), eI18, z_up_n (by decide)])) dX12_pour_199 ?_
              refine lv_iconst (v := 1) hx hb dX12_pour_202 (by decide) ?_
              refine lv_iadd hx hb dX12_pour_203 ?_
              refine lv_topi (fun x170 ex170 => ?_)
              have tx170 : x170.toInt = (I 0 55).toInt + 1 := z_tadd ex170 rfl z_l1 (by omega) (by omega)
              refine z_put (T := TX12) (N := 96) (ci := 12) (i := 0) (v := .int x170) (I1 := z_up I165 0 55 x170) (J1 := J) (P1 := PM ad) hx hb hts zj_X12_pour_X12 tyX12 tyX12_ok nmX12 hown hK hW hS rfl rfl 55 (by decide) (hts (.fieldLink RX12 468 "PetrolBoardModel" "pours" "I") (me_s (me_l (me_l (List.mem_of_getElem? (i := 1) rfl))))) (fun _ h => h) rfl rfl rfl (by first | rfl | exact congrArg _ z_up_s) (fun a b h ty => z_vI h ty) dX12_pour_204 (fun H locs hz1 hW hS => ?_)
              obtain ⟨I171, eI171⟩ : ∃ K : z_I, K = z_up I165 0 55 x170 := ⟨_, rfl⟩
              rw [← eI171] at hW
              have f172 := z_fr_k f166 (show z_wr L_X12_pour_d 0 55 = true by decide) eI171
              have a173 := z_rg_n a167 (by decide) eI171
              have a174 := z_rg_n a168 (by decide) eI171
              have a175 := z_rg_n a169 (by decide) eI171
              refine lv_aload_n hx hb dX12_pour_207 rfl (lv_at hl 0 rfl) ?_
              refine z_get (T := TX12) (N := 96) (ci := 12) (i := 0) (v := .int x170) hx hb hts zj_X12_pour_X12 hown hK hW rfl rfl 55 (by decide) (hts (.fieldLink RX12 468 "PetrolBoardModel" "pours" "I") (me_s (me_l (me_l (List.mem_of_getElem? (i := 1) rfl))))) (fun _ h => h) (congrArg Value.int (by rw [eI171, z_up_s])) dX12_pour_208 ?_
              refine lv_iconst (v := 1) hx hb dX12_pour_211 (by decide) ?_
              refine lv_isub hx hb dX12_pour_212 ?_
              refine lv_topi (fun x176 ex176 => ?_)
              have tx176 : x176.toInt = x170.toInt - 1 := z_tsub ex176 rfl z_l1 (by omega) (by omega)
              exact z_iret hx hb hr hK hS (Nat.le_of_ble_eq_true rfl) (Nat.le_of_ble_eq_true rfl) hlocks dX12_pour_213 (shM, ad, I171, J, PM ad) hW ⟨I171, J, rfl, ⟨(by show 0 ≤ (I171 0 0).toInt ∧ (I171 0 0).toInt ≤ 719; rw [eI171, z_up_k (by decide), eI165, z_up_k (by decide), eI159, z_up_n (by decide), eI154, z_up_n (by decide), eI119, z_up_n (by decide), eI114, z_up_n (by decide), eI41, z_up_n (by decide), eI34, z_up_n (by decide), eI28, z_up_n (by decide), eI23, z_up_n (by decide), eI18, z_up_n (by decide)]; exact hma.1), (by show 0 ≤ (I171 0 1).toInt ∧ (I171 0 1).toInt ≤ 30; rw [eI171, z_up_k (by decide), eI165, z_up_k (by decide), eI159, z_up_n (by decide), eI154, z_up_n (by decide), eI119, z_up_n (by decide), eI114, z_up_n (by decide), eI41, z_up_n (by decide), eI34, z_up_n (by decide), eI28, z_up_n (by decide), eI23, z_up_n (by decide), eI18, z_up_n (by decide)]; exact hma.2.1), (by show 0 ≤ (I171 0 2).toInt ∧ (I171 0 2).toInt ≤ 200; rw [eI171, z_up_k (by decide), eI165, z_up_k (by decide), eI159, z_up_n (by decide), eI154, z_up_n (by decide), eI119, z_up_n (by decide), eI114, z_up_n (by decide), eI41, z_up_n (by decide), eI34, z_up_n (by decide), eI28, z_up_n (by decide), eI23, z_up_n (by decide), eI18, z_up_n (by decide)]; exact hma.2.2)⟩, ⟨(by show 0 ≤ (I171 0 54).toInt ∧ (I171 0 54).toInt ≤ 10; rw [eI171, z_up_k (by decide), eI165, z_up_k (by decide), eI159, z_up_n (by decide), eI154, z_up_n (by decide), eI119, z_up_n (by decide), eI114, z_up_n (by decide), eI41, z_up_n (by decide), eI34, z_up_n (by decide), eI28, z_up_n (by decide), eI23, z_up_n (by decide), eI18, z_up_n (by decide)]; exact hms.1), (by show 0 ≤ (I171 0 55).toInt ∧ (I171 0 55).toInt ≤ 300; rw [eI171, z_up_s]; omega)⟩, a173, ⟨(by show 0 ≤ (I171 0 13).toInt ∧ (I171 0 13).toInt ≤ 12; rw [eI171, z_up_k (by decide), eI165, z_up_k (by decide), eI159, z_up_n (by decide), eI154, z_up_n (by decide), eI119, z_up_n (by decide), eI114, z_up_n (by decide), eI41, z_up_n (by decide), eI34, z_up_n (by decide), eI28, z_up_n (by decide), eI23, z_up_n (by decide), eI18, z_up_n (by decide)]; exact hmb.1), (by show 0 ≤ (I171 0 14).toInt ∧ (I171 0 14).toInt ≤ 288; rw [eI171, z_up_k (by decide), eI165, z_up_k (by decide), eI159, z_up_n (by decide), eI154, z_up_n (by decide), eI119, z_up_n (by decide), eI114, z_up_n (by decide), eI41, z_up_n (by decide), eI34, z_up_n (by decide), eI28, z_up_n (by decide), eI23, z_up_n (by decide), eI18, z_up_n (by decide)]; exact hmb.2)⟩, a174, a175, f172, (Or.inl ⟨by omega, by omega, (by have q9 : (I171 0 55) = x170 := (by rw [eI171, z_up_s]); show (I171 0 55).toInt = (I 0 55).toInt + 1; rw [q9]; first | done | omega), (fun j => by rw [eI171, z_up_n (by decide), eI165, z_up_n (by decide), eI159, z_up_n (by decide), eI154, z_up_n (by decide), eI119, z_up_n (by decide), eI114, z_up_n (by decide), eI41, z_up_n (by decide), eI34, z_up_n (by decide), eI28, z_up_n (by decide), eI23, z_up_j, eI18, z_up_n (by decide)]), (vp_nar .boolean 1), ⟨fun _ => by rw [← ((show x124.toInt = z_fm I119 a2 from (by unfold z_fm; rw [f120 0 0 (by decide)]; exact h125)).trans (z_fm_c (a := a2) (fun j => ⟨f120 6 j (z_wr_c (by decide)), f120 7 j (z_wr_c (by decide)), f120 8 j (z_wr_c (by decide)), f120 9 j (z_wr_c (by decide)), f120 10 j (z_wr_c (by decide))⟩) (f120 0 0 (by decide)) (f120 0 2 (by decide))))]; omega, fun _ => by decide⟩, (fun j => by rw [eI171, z_up_n (by decide), eI165, z_up_n (by decide), eI159, z_up_n (by decide), eI154, z_up_j, eI119, z_up_n (by decide), eI114, z_up_n (by decide), eI41, z_up_n (by decide), eI34, z_up_n (by decide), eI28, z_up_n (by decide), eI23, z_up_n (by decide), eI18, z_up_n (by decide)])⟩)⟩
        · have g177 := z_f_eq rfl z_l300 c16
          refine lv_iconst (v := (-1)) hx hb dX12_pour_37 (by decide) ?_
          exact z_iret hx hb hr hK hS (Nat.le_of_ble_eq_true rfl) (Nat.le_of_ble_eq_true rfl) hlocks dX12_pour_38 (shM, ad, I, J, PM ad) hW ⟨I, J, rfl, ⟨(by show 0 ≤ (I 0 0).toInt ∧ (I 0 0).toInt ≤ 719; exact hma.1), (by show 0 ≤ (I 0 1).toInt ∧ (I 0 1).toInt ≤ 30; exact hma.2.1), (by show 0 ≤ (I 0 2).toInt ∧ (I 0 2).toInt ≤ 200; exact hma.2.2)⟩, ⟨(by show 0 ≤ (I 0 54).toInt ∧ (I 0 54).toInt ≤ 10; exact hms.1), (by show 0 ≤ (I 0 55).toInt ∧ (I 0 55).toInt ≤ 300; exact hms.2)⟩, hApc, ⟨(by show 0 ≤ (I 0 13).toInt ∧ (I 0 13).toInt ≤ 12; exact hmb.1), (by show 0 ≤ (I 0 14).toInt ∧ (I 0 14).toInt ≤ 288; exact hmb.2)⟩, hAtf, hAtm, z_fr_0, (Or.inr ⟨by omega, by decide, (by show (I 0 55).toInt = (I 0 55).toInt; omega), (fun j => ⟨rfl, rfl⟩)⟩)⟩
      · have h178 := h9
        have z179 := z_l0
        have z180 := z_l99999
        refine lv_if_eq (tgt := 37) hx hb dX12_pour_24 (by decide) (fun c181 => ?_) (fun c181 => absurd (by decide) c181)
        refine lv_iconst (v := (-1)) hx hb dX12_pour_37 (by decide) ?_
        exact z_iret hx hb hr hK hS (Nat.le_of_ble_eq_true rfl) (Nat.le_of_ble_eq_true rfl) hlocks dX12_pour_38 (shM, ad, I, J, PM ad) hW ⟨I, J, rfl, ⟨(by show 0 ≤ (I 0 0).toInt ∧ (I 0 0).toInt ≤ 719; exact hma.1), (by show 0 ≤ (I 0 1).toInt ∧ (I 0 1).toInt ≤ 30; exact hma.2.1), (by show 0 ≤ (I 0 2).toInt ∧ (I 0 2).toInt ≤ 200; exact hma.2.2)⟩, ⟨(by show 0 ≤ (I 0 54).toInt ∧ (I 0 54).toInt ≤ 10; exact hms.1), (by show 0 ≤ (I 0 55).toInt ∧ (I 0 55).toInt ≤ 300; exact hms.2)⟩, hApc, ⟨(by show 0 ≤ (I 0 13).toInt ∧ (I 0 13).toInt ≤ 12; exact hmb.1), (by show 0 ≤ (I 0 14).toInt ∧ (I 0 14).toInt ≤ 288; exact hmb.2)⟩, hAtf, hAtm, z_fr_0, (Or.inr ⟨by omega, by decide, (by show (I 0 55).toInt = (I 0 55).toInt; omega), (fun j => ⟨rfl, rfl⟩)⟩)⟩
    · have h182 := h5
      have r183 : 0 ≤ (I 0 1).toInt ∧ (I 0 1).toInt ≤ 30 := hma.2.1
      refine lv_if_eq (tgt := 37) hx hb dX12_pour_13 (by decide) (fun c184 => ?_) (fun c184 => absurd (by decide) c184)
      refine lv_iconst (v := (-1)) hx hb dX12_pour_37 (by decide) ?_
      exact z_iret hx hb hr hK hS (Nat.le_of_ble_eq_true rfl) (Nat.le_of_ble_eq_true rfl) hlocks dX12_pour_38 (shM, ad, I, J, PM ad) hW ⟨I, J, rfl, ⟨(by show 0 ≤ (I 0 0).toInt ∧ (I 0 0).toInt ≤ 719; exact hma.1), (by show 0 ≤ (I 0 1).toInt ∧ (I 0 1).toInt ≤ 30; exact hma.2.1), (by show 0 ≤ (I 0 2).toInt ∧ (I 0 2).toInt ≤ 200; exact hma.2.2)⟩, ⟨(by show 0 ≤ (I 0 54).toInt ∧ (I 0 54).toInt ≤ 10; exact hms.1), (by show 0 ≤ (I 0 55).toInt ∧ (I 0 55).toInt ≤ 300; exact hms.2)⟩, hApc, ⟨(by show 0 ≤ (I 0 13).toInt ∧ (I 0 13).toInt ≤ 12; exact hmb.1), (by show 0 ≤ (I 0 14).toInt ∧ (I 0 14).toInt ≤ 288; exact hmb.2)⟩, hAtf, hAtm, z_fr_0, (Or.inr ⟨by omega, by decide, (by show (I 0 55).toInt = (I 0 55).toInt; omega), (fun j => ⟨rfl, rfl⟩)⟩)⟩
  · have h185 := h1
    have r186 : 0 ≤ (I 0 54).toInt ∧ (I 0 54).toInt ≤ 10 := hms.1
    refine lv_if_eq (tgt := 37) hx hb dX12_pour_5 (by decide) (fun c187 => ?_) (fun c187 => absurd (by decide) c187)
    refine lv_iconst (v := (-1)) hx hb dX12_pour_37 (by decide) ?_
    exact z_iret hx hb hr hK hS (Nat.le_of_ble_eq_true rfl) (Nat.le_of_ble_eq_true rfl) hlocks dX12_pour_38 (shM, ad, I, J, PM ad) hW ⟨I, J, rfl, ⟨(by show 0 ≤ (I 0 0).toInt ∧ (I 0 0).toInt ≤ 719; exact hma.1), (by show 0 ≤ (I 0 1).toInt ∧ (I 0 1).toInt ≤ 30; exact hma.2.1), (by show 0 ≤ (I 0 2).toInt ∧ (I 0 2).toInt ≤ 200; exact hma.2.2)⟩, ⟨(by show 0 ≤ (I 0 54).toInt ∧ (I 0 54).toInt ≤ 10; exact hms.1), (by show 0 ≤ (I 0 55).toInt ∧ (I 0 55).toInt ≤ 300; exact hms.2)⟩, hApc, ⟨(by show 0 ≤ (I 0 13).toInt ∧ (I 0 13).toInt ≤ 12; exact hmb.1), (by show 0 ≤ (I 0 14).toInt ∧ (I 0 14).toInt ≤ 288; exact hmb.2)⟩, hAtf, hAtm, z_fr_0, (Or.inr ⟨by omega, by decide, (by show (I 0 55).toInt = (I 0 55).toInt; omega), (fun j => ⟨rfl, rfl⟩)⟩)⟩
set_option maxHeartbeats 8000000 in
set_option maxRecDepth 100000 in
theorem sx_X12_found_d (l : Launch) (G : z_G) (ad : Nat → Nat) (I : z_I) (J : z_J) (hma : z_ima I) (hms : z_ims I) (a1 : Int32) : z_M l yX12_found wsX12_found { frames := 2, cells := 0, slots := 0, locals := 37 } [.ref (ad 0), .int a1] G (shM, ad, I, J, PM ad) (fun r u1 => u1 = (shM, ad, I, J, PM ad) ∧ ((¬ (0 ≤ a1.toInt ∧ a1.toInt < (I 0 1).toInt) ∧ r.toInt = -1) ∨ ((0 ≤ a1.toInt ∧ a1.toInt < (I 0 1).toInt) ∧ ((r.toInt = 1 ∧ z_lm I a1.toInt (I 0 55).toNatClampNeg = true ∧ ¬ z_fm I a1 = 2) ∨ (r.toInt = 0 ∧ ¬ (z_lm I a1.toInt (I 0 55).toNatClampNeg = true ∧ ¬ z_fm I a1 = 2)))))) 0 0 := sorry
end SG60z1
section SG60z3


/-! the class's machine -/
theorem zv_wb {L : z_L} {a k : Nat} (hL : L.all (fun e => decide (e.1 < 100)) = true) (ha : 100 ≤ a) : z_wr L a k = false := by
  cases hq : z_wr L a k with
  | false => rfl
  | true =>
    exfalso
    unfold z_wr at hq
    rw [List.any_eq_true] at hq
    obtain ⟨e, he, h2⟩ := hq
    rw [List.all_eq_true] at hL
    have h3 := hL e he
    simp only [z_ce, Bool.and_eq_true, Bool.or_eq_true, beq_iff_eq, decide_eq_true_eq] at h2 h3
    omega
noncomputable def zv_ax (I : z_I) (j : Int) : Int := if 0 ≤ j ∧ j < 7 then (I 24 j.toNat).toInt else 0
noncomputable def zv_co (I : z_I) (k : Nat) (j : Nat) : Int := (I (200 + 5 * k + 4) j).toInt
noncomputable def zv_bA (A : Int → Int) : Prop := ∀ j, 0 ≤ j → j ≤ 6 → -1000000000 ≤ A j ∧ A j ≤ 1000000000
theorem zv_ax_c {I K : z_I} (h : ∀ j, K 24 j = I 24 j) : zv_ax K = zv_ax I := funext fun j => by
  unfold zv_ax
  rw [h]
theorem zv_ax_y {I : z_I} {x y : Int32} (h0 : 0 ≤ x.toInt) (h1 : x.toInt < 7) (e : y = I 24 x.toNatClampNeg) : y.toInt = zv_ax I x.toInt := by
  unfold zv_ax
  rw [if_pos ⟨h0, h1⟩, e]
  rfl
theorem zv_ax_n {I : z_I} {j : Int} (h : ¬ (0 ≤ j ∧ j < 7)) : zv_ax I j = 0 := if_neg h
theorem zv_ax_b {I : z_I} (h : zv_bA (zv_ax I)) (j : Int) : -1000000000 ≤ zv_ax I j ∧ zv_ax I j ≤ 1000000000 := by
  by_cases q : 0 ≤ j ∧ j < 7
  · exact h j q.1 (by omega)
  · rw [zv_ax_n q]
    omega
theorem zv_hb (v : Int) : -1000000000 ≤ zp_h v ∧ zp_h v ≤ 1000000000 := zp_h_b v
section ZJ
variable {c a b : Int}
theorem zv_jn1 (h : c = -1) : zp_jn c a b = zp_h (a + b) := by subst h; rfl
theorem zv_jn2 (h : c = -2) : zp_jn c a b = zp_h (a - b) := by subst h; rfl
theorem zv_jn3 (h : c = -3) : zp_jn c a b = zp_h (a * b) := by subst h; rfl
theorem zv_jn4 (h : c = -4) (h0 : b = 0) : zp_jn c a b = zp_h 0 := by
  subst h
  show zp_h (if b = 0 then 0 else a.tdiv b) = _
  rw [if_pos h0]
theorem zv_jn4n (h : c = -4) (h0 : ¬ b = 0) : zp_jn c a b = zp_h (a.tdiv b) := by
  subst h
  show zp_h (if b = 0 then 0 else a.tdiv b) = _
  rw [if_neg h0]
theorem zv_jn5 (h : c = -5) (h0 : a < b) : zp_jn c a b = zp_h a := by
  subst h
  show zp_h (if a < b then a else b) = _
  rw [if_pos h0]
theorem zv_jn5n (h : c = -5) (h0 : ¬ a < b) : zp_jn c a b = zp_h b := by
  subst h
  show zp_h (if a < b then a else b) = _
  rw [if_neg h0]
theorem zv_jn6 (h : c = -6) (h0 : b < a) : zp_jn c a b = zp_h a := by
  subst h
  show zp_h (if b < a then a else b) = _
  rw [if_pos h0]
theorem zv_jn6n (h : c = -6) (h0 : ¬ b < a) : zp_jn c a b = zp_h b := by
  subst h
  show zp_h (if b < a then a else b) = _
  rw [if_neg h0]
theorem zv_jn7 (h : c = -7) (h0 : a < b) : zp_jn c a b = zp_h 1 := by
  subst h
  show zp_h (if a < b then 1 else 0) = _
  rw [if_pos h0]
theorem zv_jn7n (h : c = -7) (h0 : ¬ a < b) : zp_jn c a b = zp_h 0 := by
  subst h
  show zp_h (if a < b then 1 else 0) = _
  rw [if_neg h0]
theorem zv_jn8 (h : c = -8) (h0 : b < a) : zp_jn c a b = zp_h 1 := by
  subst h
  show zp_h (if b < a then 1 else 0) = _
  rw [if_pos h0]
theorem zv_jn8n (h : c = -8) (h0 : ¬ b < a) : zp_jn c a b = zp_h 0 := by
  subst h
  show zp_h (if b < a then 1 else 0) = _
  rw [if_neg h0]
theorem zv_jn9 (h : c = -9) (h0 : a = b) : zp_jn c a b = zp_h 1 := by
  subst h
  show zp_h (if a = b then 1 else 0) = _
  rw [if_pos h0]
theorem zv_jn9n (h : c = -9) (h0 : ¬ a = b) : zp_jn c a b = zp_h 0 := by
  subst h
  show zp_h (if a = b then 1 else 0) = _
  rw [if_neg h0]
theorem zv_jn10 {x y z : Int32} (h : c = -10) (e : z = x &&& y) : zp_jn c x.toInt y.toInt = zp_h z.toInt := by
  subst h
  show zp_h ((Int32.ofInt x.toInt &&& Int32.ofInt y.toInt).toInt) = _
  rw [Int32.ofInt_toInt, Int32.ofInt_toInt, e]
theorem zv_jn11 {x y z : Int32} (h : ¬ (-10 ≤ c ∧ c ≤ -1)) (e : z = x ||| y) : zp_jn c x.toInt y.toInt = zp_h z.toInt := by
  unfold zp_jn
  rw [if_neg (by omega), if_neg (by omega), if_neg (by omega), if_neg (by omega), if_neg (by omega), if_neg (by omega), if_neg (by omega), if_neg (by omega), if_neg (by omega), if_neg (by omega), Int32.ofInt_toInt, Int32.ofInt_toInt, e]
end ZJ
/-! a stack of values in the row: the last one at the place of how many lie below it -/
noncomputable def zv_sk (I : z_I) : List Int → Prop
  | [] => True
  | v :: st => (I 25 st.length).toInt = v ∧ zv_sk I st
theorem zv_sk_c {I K : z_I} : ∀ st : List Int, (∀ j, j < st.length → K 25 j = I 25 j) → zv_sk I st → zv_sk K st
  | [], _, _ => trivial
  | v :: st, hc, h => by
    rw [List.length_cons] at hc
    exact ⟨by rw [hc _ (Nat.lt_succ_self _)]; exact h.1, zv_sk_c st (fun j hj => hc j (by omega)) h.2⟩
noncomputable def zv_bd (b : Int) (st : List Int) : Prop := ∀ v, v ∈ st → -b ≤ v ∧ v ≤ b
theorem zv_bd_c {b b1 v : Int} {st : List Int} (h : zv_bd b st) (hb : b ≤ b1) (hv : -b1 ≤ v ∧ v ≤ b1) : zv_bd b1 (v :: st) := fun q hq => by
  rcases List.mem_cons.mp hq with e | e
  · rw [e]
    exact hv
  · have := h q e
    omega
theorem zv_bd_t {b v : Int} {st : List Int} (h : zv_bd b (v :: st)) : (-b ≤ v ∧ v ≤ b) ∧ zv_bd b st := ⟨h v (List.mem_cons_self ..), fun q hq => h q (List.mem_cons_of_mem _ hq)⟩
/-- what is left of the codes at place i: rest -/
noncomputable def zv_rs (cd : Nat → Int) (len i : Nat) (rest : List Int) : Prop := zp_cd cd i (rest ++ [-13]) ∧ (∀ c, c ∈ rest → c ≤ 999999) ∧ i + rest.length < len
theorem zv_next {cd : Nat → Int} {i len : Nat} {rest : List Int} (h : zv_rs cd len i rest) (hn : cd i ≠ -13) : ∃ r1, zv_rs cd len (i + 1) r1 ∧ cd i ≤ 999999 := by
  obtain ⟨h1, h2, h3⟩ := h
  cases rest with
  | nil => exact absurd (show cd i = -13 from h1.1) hn
  | cons c r =>
    rw [List.length_cons] at h3
    have e : cd i = c := h1.1
    exact ⟨r, ⟨h1.2, fun q hq => h2 q (List.mem_cons_of_mem _ hq), by omega⟩, by rw [e]; exact h2 c (List.mem_cons_self ..)⟩
/-- the state of the machine at place i, the values st waiting -/
noncomputable def zv_MB (I K : z_I) (k len p0 : Nat) (at_ top : Int) : Prop := ∃ (i : Nat) (st rest : List Int), (i : Int) = at_ ∧ (st.length : Int) = top ∧ zp_ev (zv_ax I) (zv_co I k) (len - i) i st = zp_ev (zv_ax I) (zv_co I k) (len - p0) p0 [] ∧ zv_sk K st ∧ zv_bd (1000000000 + (i : Int)) st ∧ zv_rs (zv_co I k) len i rest
section ZS
variable {I K K1 : z_I} {A : Int → Int} {cd : Nat → Int} {k len p0 i j : Nat} {st rest r1 : List Int} {v x y c V0 at_ top : Int} {w : Int32}
theorem zv_len (h : i < len) : ∃ f, len - i = f + 1 ∧ len - (i + 1) = f := ⟨len - (i + 1), by omega, rfl⟩
theorem zv_s1 (hl : i < len) (h : cd i = v) (hv : 0 ≤ v) (hs : st.length < 64) : zp_ev A cd (len - (i + 1)) (i + 1) (v :: st) = zp_ev A cd (len - i) i st := by
  obtain ⟨f, e1, e2⟩ := zv_len hl
  rw [e1, e2, zp_ev_num h hv hs]
theorem zv_s2 (hl : i < len) (h : cd i = c) (hv : c ≤ -20) (hs : st.length < 64) : zp_ev A cd (len - (i + 1)) (i + 1) (A (-20 - c) :: st) = zp_ev A cd (len - i) i st := by
  obtain ⟨f, e1, e2⟩ := zv_len hl
  rw [e1, e2, zp_ev_nam (v := -20 - c) (by omega) (by omega) hs]
theorem zv_s3 (hl : i < len) (h : cd i = -12) : zp_ev A cd (len - (i + 1)) (i + 1) ((1 - x) :: st) = zp_ev A cd (len - i) i (x :: st) := by
  obtain ⟨f, e1, e2⟩ := zv_len hl
  rw [e1, e2, zp_ev_not h]
theorem zv_s4 (hl : i < len) (h : cd i = c) (hc : -20 < c ∧ c < 0 ∧ c ≠ -12 ∧ c ≠ -13) : zp_ev A cd (len - (i + 1)) (i + 1) (zp_jn c x y :: st) = zp_ev A cd (len - i) i (y :: x :: st) := by
  obtain ⟨f, e1, e2⟩ := zv_len hl
  rw [e1, e2, zp_ev, h, if_neg (by omega), if_neg (by omega), if_neg (by omega)]
  rfl
theorem zv_z1 (hl : i < len) (h : cd i = c) (hc : 0 ≤ c ∨ c ≤ -20) (hs : 64 ≤ st.length) : zp_ev A cd (len - i) i st = 0 := by
  obtain ⟨f, e1, e2⟩ := zv_len hl
  rw [e1, zp_ev, h, if_neg (by omega), if_pos hc, if_pos hs]
theorem zv_z2 (hl : i < len) (h : cd i = -12) (hs : st.length = 0) : zp_ev A cd (len - i) i st = 0 := by
  obtain ⟨f, e1, e2⟩ := zv_len hl
  have e := List.eq_nil_of_length_eq_zero hs
  subst e
  rw [e1, zp_ev, h, if_neg (by omega), if_neg (by omega), if_pos rfl]
  rfl
theorem zv_z3 (hl : i < len) (h : cd i = c) (hc : -20 < c ∧ c < 0 ∧ c ≠ -12 ∧ c ≠ -13) (hs : st.length < 2) : zp_ev A cd (len - i) i st = 0 := by
  obtain ⟨f, e1, e2⟩ := zv_len hl
  rw [e1, zp_ev, h, if_neg (by omega), if_neg (by omega), if_neg (by omega)]
  match st, hs with
  | [], _ => rfl
  | [_], _ => rfl
theorem zv_e1 (hl : i < len) (h : cd i = -13) (hk : zv_sk K st) (hs : st.length = 1) (e : w = K 25 0) : zp_ev A cd (len - i) i st = w.toInt := by
  obtain ⟨f, e1, e2⟩ := zv_len hl
  rw [e1, zp_ev_end h, if_pos hs]
  match st, hs, hk with
  | [a], _, hk =>
    rw [e]
    exact hk.1.symm
theorem zv_e0 (hl : i < len) (h : cd i = -13) (hs : st.length ≠ 1) : zp_ev A cd (len - i) i st = 0 := by
  obtain ⟨f, e1, e2⟩ := zv_len hl
  rw [e1, zp_ev_end h, if_neg hs]
theorem zv_MB_0 (hp : (p0 : Int) = at_) (ht : 0 = top) (hr : zv_rs (zv_co I k) len p0 rest) : zv_MB I K k len p0 at_ top := ⟨p0, [], rest, hp, ht, rfl, trivial, (fun v hv => absurd hv (by simp)), hr⟩
/-- a value is put upon the others -/
theorem zv_MB_p (hV : zp_ev (zv_ax I) (zv_co I k) (len - i) i st = zp_ev (zv_ax I) (zv_co I k) (len - p0) p0 []) (hE : zp_ev (zv_ax I) (zv_co I k) (len - (i + 1)) (i + 1) (v :: st) = zp_ev (zv_ax I) (zv_co I k) (len - i) i st) (hk : zv_sk K st) (hb : zv_bd (1000000000 + (i : Int)) st) (hv : -1000000000 ≤ v ∧ v ≤ 1000000000) (hr : zv_rs (zv_co I k) len (i + 1) r1) (e : K1 = z_up K 25 j w) (hj : j = st.length) (hw : w.toInt = v) (hi : (i : Int) + 1 = at_) (ht : (st.length : Int) + 1 = top) : zv_MB I K1 k len p0 at_ top := by
  refine ⟨i + 1, v :: st, r1, by omega, by rw [List.length_cons]; omega, hE.trans hV, ⟨?_, zv_sk_c st (fun q hq => by rw [e, z_up_k (by omega)]) hk⟩, zv_bd_c hb (by omega) (by omega), hr⟩
  rw [e, hj, z_up_s]
  exact hw
/-- the last value is another one -/
theorem zv_MB_n (hV : zp_ev (zv_ax I) (zv_co I k) (len - i) i (x :: st) = zp_ev (zv_ax I) (zv_co I k) (len - p0) p0 []) (hE : zp_ev (zv_ax I) (zv_co I k) (len - (i + 1)) (i + 1) (v :: st) = zp_ev (zv_ax I) (zv_co I k) (len - i) i (x :: st)) (hk : zv_sk K (x :: st)) (hb : zv_bd (1000000000 + (i : Int)) (x :: st)) (hv : -(1000000000 + ((i : Int) + 1)) ≤ v ∧ v ≤ 1000000000 + ((i : Int) + 1)) (hr : zv_rs (zv_co I k) len (i + 1) r1) (e : K1 = z_up K 25 j w) (hj : j = st.length) (hw : w.toInt = v) (hi : (i : Int) + 1 = at_) (ht : (st.length : Int) + 1 = top) : zv_MB I K1 k len p0 at_ top := by
  refine ⟨i + 1, v :: st, r1, by omega, by rw [List.length_cons]; omega, hE.trans hV, ⟨?_, zv_sk_c st (fun q hq => by rw [e, z_up_k (by omega)]) hk.2⟩, zv_bd_c (zv_bd_t hb).2 (by omega) (by omega), hr⟩
  rw [e, hj, z_up_s]
  exact hw
/-- two values are joined -/
theorem zv_MB_j (hV : zp_ev (zv_ax I) (zv_co I k) (len - i) i (y :: x :: st) = zp_ev (zv_ax I) (zv_co I k) (len - p0) p0 []) (hE : zp_ev (zv_ax I) (zv_co I k) (len - (i + 1)) (i + 1) (v :: st) = zp_ev (zv_ax I) (zv_co I k) (len - i) i (y :: x :: st)) (hk : zv_sk K (y :: x :: st)) (hb : zv_bd (1000000000 + (i : Int)) (y :: x :: st)) (hv : -1000000000 ≤ v ∧ v ≤ 1000000000) (hr : zv_rs (zv_co I k) len (i + 1) r1) (e : K1 = z_up K 25 j w) (hj : j = st.length) (hw : w.toInt = v) (hi : (i : Int) + 1 = at_) (ht : (st.length : Int) + 1 = top) : zv_MB I K1 k len p0 at_ top := by
  refine ⟨i + 1, v :: st, r1, by omega, by rw [List.length_cons]; omega, hE.trans hV, ⟨?_, zv_sk_c st (fun q hq => by rw [e, z_up_k (by omega)]) hk.2.2⟩, zv_bd_c (zv_bd_t (zv_bd_t hb).2).2 (by omega) (by omega), hr⟩
  rw [e, hj, z_up_s]
  exact hw
end ZS
theorem zv_1 {st : List Int} (h : 1 ≤ st.length) : ∃ x r, st = x :: r := by
  match st, h with
  | x :: r, _ => exact ⟨x, r, rfl⟩
theorem zv_2 {st : List Int} (h : 2 ≤ st.length) : ∃ y x r, st = y :: x :: r := by
  match st, h with
  | y :: x :: r, _ => exact ⟨y, x, r, rfl⟩
set_option maxHeartbeats 8000000 in
set_option maxRecDepth 100000 in
theorem sx_X5_nameValue_x (l : Launch) (G : z_G) (ad : Nat → Nat) (c : z_C) (I : z_I) (a1 : Int32) : z_M l yX5_nameValue wsX5_nameValue { frames := 1, cells := 0, slots := 0, locals := 12 } [.ref (ad 23), .int a1] G (shC c, ad, I, JX, PC c ad) (fun r u1 => u1 = (shC c, ad, I, JX, PC c ad) ∧ (r.toInt = zv_ax I a1.toInt)) 0 0 := by
  intro sz
  refine z_headQ (cc := cX5_nameValue) (maxL := 2) (ret := (some .int)) (by decide) rfl (Nat.le_of_ble_eq_true rfl) ?_
  intro p e s m below meth c0 ls hIn hK hsz hW hl
  obtain ⟨hx, hb, hr, hml, hown, hts, hlocks, hname⟩ := hIn
  subst hsz
  have hown : s.vm.findClass RX5 = some m.cls := hown
  have hA : ∀ q : Nat, s.heap.size ≤ q → z_A (shC c, ad, I, JX, PC c ad) s.heap.size q := fun q h => Or.inr h
  generalize hAe : z_A (shC c, ad, I, JX, PC c ad) s.heap.size = A at *
  have hS : va_S A s.heap s.heap [] := va_S.rf
  have hl : lv_has ls 2 [(0, .ref (ad 23)), (1, .int a1)] := hl
  refine lv_iload_n hx hb dX5_nameValue_0 rfl (lv_at hl 1 rfl) ?_
  refine lv_if_lt (tgt := 22) hx hb dX5_nameValue_1 (by decide) (fun c1 => ?_) (fun c1 => ?_)
  · have g2 := z_f_lt rfl z_l0 c1
    have b3 := Int32.toInt_lt a1
    refine lv_iconst (v := 0) hx hb dX5_nameValue_22 (by decide) ?_
    exact z_iret hx hb hr hK hS (Nat.le_of_ble_eq_true rfl) (Nat.le_of_ble_eq_true rfl) hlocks dX5_nameValue_23 (shC c, ad, I, JX, PC c ad) hW ⟨rfl, (by rw [zv_ax_n (by omega)]; first | done | decide)⟩
  · have g4 := z_f_nlt rfl z_l0 c1
    have b5 := Int32.toInt_lt a1
    refine lv_iload_n hx hb dX5_nameValue_4 rfl (lv_at hl 1 rfl) ?_
    refine lv_aload_n hx hb dX5_nameValue_5 rfl (lv_at hl 0 rfl) ?_
    refine z_get (T := TX5) (N := 2) (ci := 5) (i := 23) (v := .ref (ad 24)) hx hb hts zj_X5_nameValue_X5 hown hK hW rfl rfl 0 (by decide) (hts (.fieldLink RX5 9 "PetrolBoard$Machine" "names" "[I") (me_s (me_l (List.mem_of_getElem? (i := 0) rfl)))) (fun _ h => h) rfl dX5_nameValue_6 ?_
    refine z_alen (i := 24) (v := 7) hx hb hK hW rfl (by simp [z_tys]) (by rfl) dX5_nameValue_9 ?_
    refine lv_icmp_ge (tgt := 22) hx hb dX5_nameValue_10 (by decide) (fun c6 => ?_) (fun c6 => ?_)
    · have g7 := z_f_ge rfl z_l7 c6
      refine lv_iconst (v := 0) hx hb dX5_nameValue_22 (by decide) ?_
      exact z_iret hx hb hr hK hS (Nat.le_of_ble_eq_true rfl) (Nat.le_of_ble_eq_true rfl) hlocks dX5_nameValue_23 (shC c, ad, I, JX, PC c ad) hW ⟨rfl, (by rw [zv_ax_n (by omega)]; first | done | decide)⟩
    · have g8 := z_f_nge rfl z_l7 c6
      refine lv_aload_n hx hb dX5_nameValue_13 rfl (lv_at hl 0 rfl) ?_
      refine z_get (T := TX5) (N := 2) (ci := 5) (i := 23) (v := .ref (ad 24)) hx hb hts zj_X5_nameValue_X5 hown hK hW rfl rfl 0 (by decide) (hts (.fieldLink RX5 9 "PetrolBoard$Machine" "names" "[I") (me_s (me_l (List.mem_of_getElem? (i := 0) rfl)))) (fun _ h => h) rfl dX5_nameValue_14 ?_
      refine lv_iload_n hx hb dX5_nameValue_17 rfl (lv_at hl 1 rfl) ?_
      refine z_iald (i := 24) hx hb hK hW rfl (z_ix rfl (by omega) (by omega)) dX5_nameValue_18 ?_
      refine lv_topi (fun x9 ex9 => ?_)
      refine lv_goto (tgt := 23) hx hb dX5_nameValue_19 (by decide) ?_
      exact z_iret hx hb hr hK hS (Nat.le_of_ble_eq_true rfl) (Nat.le_of_ble_eq_true rfl) hlocks dX5_nameValue_23 (shC c, ad, I, JX, PC c ad) hW ⟨rfl, (zv_ax_y (by omega) (by omega) ex9)⟩
set_option maxHeartbeats 8000000 in
set_option maxRecDepth 100000 in
theorem sx_X5_joined_x (l : Launch) (G : z_G) (ad : Nat → Nat) (c : z_C) (I : z_I) (a1 : Int32) (a2 : Int32) (a3 : Int32) (q2 : (-1100000000 ≤ a2.toInt ∧ a2.toInt ≤ 1100000000)) (q3 : (-1100000000 ≤ a3.toInt ∧ a3.toInt ≤ 1100000000)) : z_M l yX5_joined wsX5_joined { frames := 1, cells := 0, slots := 0, locals := 40 } [.int a1, .int a2, .int a3] G (shC c, ad, I, JX, PC c ad) (fun r u1 => u1 = (shC c, ad, I, JX, PC c ad) ∧ (r.toInt = zp_jn a1.toInt a2.toInt a3.toInt)) 0 0 := sorry
noncomputable def L_X5_result_x : z_L := [(25, 999)]
set_option maxHeartbeats 8000000 in
set_option maxRecDepth 100000 in
theorem sx_X5_result_x (l : Launch) (G : z_G) (ad : Nat → Nat) (c : z_C) (I : z_I) (k : Nat) (cs : List Int) (a2 : Int32) (hk : k < c.2.1) (hc : z_okc c) (q2 : 0 ≤ a2.toInt) (hbA : zv_bA (zv_ax I)) (hcs : zp_cd (zv_co I k) a2.toNatClampNeg (cs ++ [-13])) (hcb : ∀ c, c ∈ cs → c ≤ 999999) (hcl : a2.toNatClampNeg + cs.length < (c.2.2.2 k)) : z_M l yX5_result wsX5_result { frames := 2, cells := 0, slots := 0, locals := 64 } [.ref (ad 23), .ref (ad (200 + 5 * k + 4)), .int a2] G (shC c, ad, I, JX, PC c ad) (fun r u1 => ∃ I1 : z_I, u1 = (shC c, ad, I1, JX, PC c ad) ∧ z_fr L_X5_result_x I1 I ∧ r.toInt = zv_e (zv_ax I) cs) 0 0 := by
  intro sz
  refine z_headQ (cc := cX5_result) (maxL := 6) (ret := (some .int)) (by decide) rfl (Nat.le_of_ble_eq_true rfl) ?_
  intro p e s m below meth c0 ls hIn hK hsz hW hl
  obtain ⟨hx, hb, hr, hml, hown, hts, hlocks, hname⟩ := hIn
  subst hsz
  have hown : s.vm.findClass RX5 = some m.cls := hown
  have hA : ∀ q : Nat, s.heap.size ≤ q → z_A (shC c, ad, I, JX, PC c ad) s.heap.size q := fun q h => Or.inr h
  generalize hAe : z_A (shC c, ad, I, JX, PC c ad) s.heap.size = A at *
  have hS : va_S A s.heap s.heap [] := va_S.rf
  have hl : lv_has ls 6 [(0, .ref (ad 23)), (1, .ref (ad (200 + 5 * k + 4))), (2, .int a2)] := hl
  refine lv_iconst (v := 0) hx hb dX5_result_0 (by decide) ?_
  refine lv_istore_n (lv' := [(3, .int 0), (0, .ref (ad 23)), (1, .ref (ad (200 + 5 * k + 4))), (2, .int a2)]) hx hb dX5_result_1 rfl hl (by decide) rfl (fun ls hl => ?_)
  refine lv_iload_n hx hb dX5_result_2 rfl (lv_at hl 3 rfl) ?_
  refine lv_iconst (v := 0) hx hb dX5_result_3 (by decide) ?_
  refine va_mmax (x := a2) (y := 0) hx hb (hml.trans hl.1.symm) hown (hts (.methodLink RX5 18 Lib.Math.max.name) (me_s (me_l (List.mem_of_getElem? (i := 0) rfl)))) (hts (.static Lib.Math.max.name) (me_s (me_l (List.mem_of_getElem? (i := 1) rfl)))) (hts (.initialized "java/lang/Math") (me_s (me_l (List.mem_of_getElem? (i := 2) rfl)))) (hts (.code Lib.Math.max.name Lib.Math.max.code 2 (some .int)) (me_s (me_l (List.mem_of_getElem? (i := 3) rfl)))) (Nat.le_of_ble_eq_true rfl) (Nat.le_of_ble_eq_true rfl) (Nat.le_of_ble_eq_true rfl) (Nat.le_of_ble_eq_true rfl) dX5_result_4 ?_
  refine lv_topi (fun x1 ex1 => ?_)
  have tx1 := z_tmmax ex1 rfl z_l0
  refine lv_istore (lv' := [(4, .int x1), (3, .int 0), (0, .ref (ad 23)), (1, .ref (ad (200 + 5 * k + 4))), (2, .int a2)]) hx hb dX5_result_7 hl (by decide) rfl (fun ls hl => ?_)
  have lp2 : ∀ (f : Nat) (y3 : Int32) (y4 : Int32) (I5 : z_I) (H : Heap) (locs : List Loc) (ls : Array Slot), (2147483647 < y3.toInt + (f : Int)) → (0 ≤ y3.toInt) → (0 ≤ y4.toInt) → (y4.toInt ≤ 64) → (x1.toInt ≤ y3.toInt) → (zv_MB I I5 k (c.2.2.2 k) a2.toNatClampNeg y3.toInt y4.toInt) → (z_fr L_X5_result_x I5 I) → z_W G A (shC c, ad, I5, JX, PC c ad) H → va_S A s.heap H locs → lv_has ls 6 [(4, .int y3), (3, .int y4), (0, .ref (ad 23)), (1, .ref (ad (200 + 5 * k + 4))), (2, .int a2)] → W p l e (headSpec wsX5_result { frames := 2, cells := 0, slots := 0, locals := 64 }).room s m ([.ref (ad 23), .ref (ad (200 + 5 * k + 4)), .int a2] : List Value).toArray below meth c0 H locs 0 0 (MQ below (va_Qi (fun (r : Int32) (u1 : z_U) => ∃ I1 : z_I, u1 = (shC c, ad, I1, JX, PC c ad) ∧ z_fr L_X5_result_x I1 I ∧ r.toInt = zv_e (zv_ax I) cs) (z_B G A) A) ([.ref (ad 23), .ref (ad (200 + 5 * k + 4)), .int a2] : List Value).toArray s 0 0 A) (F0 m 9 ls []) := by
    intro f
    induction f with
    | zero => intro y3 y4 I5  H locs ls lp2m lp2l4 lp2l3 lp2u3 lp2z lp2B lp2fr hW hS hl; exact absurd lp2m (by have := Int32.toInt_lt y3; have := Int32.le_toInt y3; omega)
    | succ f lp2ih =>
      intro y3 y4 I5  H locs ls lp2m lp2l4 lp2l3 lp2u3 lp2z lp2B lp2fr hW hS hl
      obtain ⟨i9, st9, rest9, hi9, hl9, hV9, hk9, hb9, hr9⟩ := lp2B
      have cq4 := z_clt (x := y3) rfl (by omega)
      have cq3 := z_clt (x := y4) rfl (by omega)
      have e9 : i9 = y3.toNatClampNeg := by omega
      subst e9
      have hlt9 := hr9.2.2
      refine lv_iload hx hb dX5_result_9 (lv_at hl 0 rfl) ?_
      refine lv_aload_n hx hb dX5_result_11 rfl (lv_at hl 3 rfl) ?_
      have r6 := (hc k hk).2
      refine z_alen (i := (200 + 5 * k + 4)) (v := (c.2.2.2 k).toInt32) hx hb hK hW (z_so4 hk) (by simp [z_tys]) (by rfl) dX5_result_12 ?_
      refine lv_icmp_ge (tgt := 163) hx hb dX5_result_13 (by decide) (fun c7 => ?_) (fun c7 => ?_)
      · have g8 := z_f_ge rfl (z_len (Nat.le_trans (hc k hk).2 (by decide))) c7
        have b9 := Int32.toInt_lt y3
        refine lv_iload_n hx hb dX5_result_163 rfl (lv_at hl 1 rfl) ?_
        refine lv_iconst (v := 1) hx hb dX5_result_164 (by decide) ?_
        refine lv_icmp_ne (tgt := 177) hx hb dX5_result_165 (by decide) (fun c10 => ?_) (fun c10 => ?_)
        · have g11 := z_f_ne rfl z_l1 c10
          refine lv_iconst (v := 0) hx hb dX5_result_177 (by decide) ?_
          exact z_iret hx hb hr hK hS (Nat.le_of_ble_eq_true rfl) (Nat.le_of_ble_eq_true rfl) hlocks dX5_result_178 (shC c, ad, I5, JX, PC c ad) hW ⟨I5, rfl, lp2fr, (by exfalso; omega)⟩
        · have g12 := z_f_eq rfl z_l1 c10
          refine lv_aload_n hx hb dX5_result_168 rfl (lv_at hl 2 rfl) ?_
          refine z_get (T := TX5) (N := 2) (ci := 5) (i := 23) (v := .ref (ad 25)) hx hb hts zj_X5_result_X5 hown hK hW rfl rfl 1 (by decide) (hts (.fieldLink RX5 15 "PetrolBoard$Machine" "stack" "[I") (me_s (me_l (List.mem_of_getElem? (i := 4) rfl)))) (fun _ h => h) rfl dX5_result_169 ?_
          refine lv_iconst (v := 0) hx hb dX5_result_172 (by decide) ?_
          refine z_iald (i := 25) hx hb hK hW rfl (z_inl (by decide)) dX5_result_173 ?_
          refine lv_topi (fun x13 ex13 => ?_)
          refine lv_goto (tgt := 178) hx hb dX5_result_174 (by decide) ?_
          exact z_iret hx hb hr hK hS (Nat.le_of_ble_eq_true rfl) (Nat.le_of_ble_eq_true rfl) hlocks dX5_result_178 (shC c, ad, I5, JX, PC c ad) hW ⟨I5, rfl, lp2fr, (by exfalso; omega)⟩
      · have g14 := z_f_nge rfl (z_len (Nat.le_trans (hc k hk).2 (by decide))) c7
        have b15 := Int32.toInt_lt y3
        refine lv_aload_n hx hb dX5_result_16 rfl (lv_at hl 3 rfl) ?_
        refine lv_iload hx hb dX5_result_17 (lv_at hl 0 rfl) ?_
        refine z_iald (i := (200 + 5 * k + 4)) hx hb hK hW (z_so4 hk) (z_ix rfl (by omega) (by omega)) dX5_result_19 ?_
        refine lv_topi (fun x16 ex16 => ?_)
        have hc17 : zv_co I k y3.toNatClampNeg = x16.toInt := by unfold zv_co; rw [ex16, lp2fr _ _ (zv_wb (by decide) (by omega))]
        refine lv_bipush (v := (-13)) hx hb dX5_result_20 (by decide) ?_
        refine lv_icmp_eq (tgt := 163) hx hb dX5_result_22 (by decide) (fun c18 => ?_) (fun c18 => ?_)
        · have g19 := z_f_eq rfl z_lm13 c18
          have b20 := Int32.toInt_lt x16
          refine lv_iload_n hx hb dX5_result_163 rfl (lv_at hl 1 rfl) ?_
          refine lv_iconst (v := 1) hx hb dX5_result_164 (by decide) ?_
          refine lv_icmp_ne (tgt := 177) hx hb dX5_result_165 (by decide) (fun c21 => ?_) (fun c21 => ?_)
          · have g22 := z_f_ne rfl z_l1 c21
            refine lv_iconst (v := 0) hx hb dX5_result_177 (by decide) ?_
            exact z_iret hx hb hr hK hS (Nat.le_of_ble_eq_true rfl) (Nat.le_of_ble_eq_true rfl) hlocks dX5_result_178 (shC c, ad, I5, JX, PC c ad) hW ⟨I5, rfl, lp2fr, (by rw [← zv_e_ev hcs hcl, ← hV9]; rw [zv_e0 (by omega) (by rw [hc17]; omega) (by omega)]; first | done | decide)⟩
          · have g23 := z_f_eq rfl z_l1 c21
            refine lv_aload_n hx hb dX5_result_168 rfl (lv_at hl 2 rfl) ?_
            refine z_get (T := TX5) (N := 2) (ci := 5) (i := 23) (v := .ref (ad 25)) hx hb hts zj_X5_result_X5 hown hK hW rfl rfl 1 (by decide) (hts (.fieldLink RX5 15 "PetrolBoard$Machine" "stack" "[I") (me_s (me_l (List.mem_of_getElem? (i := 4) rfl)))) (fun _ h => h) rfl dX5_result_169 ?_
            refine lv_iconst (v := 0) hx hb dX5_result_172 (by decide) ?_
            refine z_iald (i := 25) hx hb hK hW rfl (z_inl (by decide)) dX5_result_173 ?_
            refine lv_topi (fun x24 ex24 => ?_)
            refine lv_goto (tgt := 178) hx hb dX5_result_174 (by decide) ?_
            exact z_iret hx hb hr hK hS (Nat.le_of_ble_eq_true rfl) (Nat.le_of_ble_eq_true rfl) hlocks dX5_result_178 (shC c, ad, I5, JX, PC c ad) hW ⟨I5, rfl, lp2fr, (by rw [← zv_e_ev hcs hcl, ← hV9]; exact (zv_e1 (by omega) (by rw [hc17]; omega) hk9 (by omega) ex24).symm)⟩
        · have g25 := z_f_ne rfl z_lm13 c18
          have b26 := Int32.toInt_lt x16
          obtain ⟨r19, hr19, hcm9⟩ := zv_next hr9 (by rw [hc17]; omega)
          refine lv_aload_n hx hb dX5_result_25 rfl (lv_at hl 3 rfl) ?_
          refine lv_iload hx hb dX5_result_26 (lv_at hl 0 rfl) ?_
          refine z_iald (i := (200 + 5 * k + 4)) hx hb hK hW (z_so4 hk) (z_ix rfl (by omega) (by omega)) dX5_result_28 ?_
          refine z_topi (v := x16) ex16.symm ?_
          refine lv_istore (lv' := [(5, .int x16), (4, .int y3), (3, .int y4), (0, .ref (ad 23)), (1, .ref (ad (200 + 5 * k + 4))), (2, .int a2)]) hx hb dX5_result_29 hl (by decide) rfl (fun ls hl => ?_)
          refine lv_iload hx hb dX5_result_31 (lv_at hl 0 rfl) ?_
          refine lv_if_ge (tgt := 43) hx hb dX5_result_33 (by decide) (fun c27 => ?_) (fun c27 => ?_)
          · have g28 := z_f_ge rfl z_l0 c27
            refine lv_iload_n hx hb dX5_result_43 rfl (lv_at hl 2 rfl) ?_
            refine lv_aload_n hx hb dX5_result_44 rfl (lv_at hl 3 rfl) ?_
            refine z_get (T := TX5) (N := 2) (ci := 5) (i := 23) (v := .ref (ad 25)) hx hb hts zj_X5_result_X5 hown hK hW rfl rfl 1 (by decide) (hts (.fieldLink RX5 15 "PetrolBoard$Machine" "stack" "[I") (me_s (me_l (List.mem_of_getElem? (i := 4) rfl)))) (fun _ h => h) rfl dX5_result_45 ?_
            refine z_alen (i := 25) (v := 64) hx hb hK hW rfl (by simp [z_tys]) (by rfl) dX5_result_48 ?_
            refine lv_icmp_lt (tgt := 54) hx hb dX5_result_49 (by decide) (fun c29 => ?_) (fun c29 => ?_)
            · have g30 := z_f_lt rfl z_l64 c29
              refine lv_aload_n hx hb dX5_result_54 rfl (lv_at hl 3 rfl) ?_
              refine z_get (T := TX5) (N := 2) (ci := 5) (i := 23) (v := .ref (ad 25)) hx hb hts zj_X5_result_X5 hown hK hW rfl rfl 1 (by decide) (hts (.fieldLink RX5 15 "PetrolBoard$Machine" "stack" "[I") (me_s (me_l (List.mem_of_getElem? (i := 4) rfl)))) (fun _ h => h) rfl dX5_result_55 ?_
              refine lv_iload_n hx hb dX5_result_58 rfl (lv_at hl 2 rfl) ?_
              refine lv_iload hx hb dX5_result_59 (lv_at hl 0 rfl) ?_
              refine lv_if_lt (tgt := 69) hx hb dX5_result_61 (by decide) (fun c31 => (by have g := z_f_lt rfl z_l0 c31; omega)) (fun c31 => ?_)
              have g32 := z_f_nlt rfl z_l0 c31
              refine lv_iload hx hb dX5_result_64 (lv_at hl 0 rfl) ?_
              refine lv_goto (tgt := 78) hx hb dX5_result_66 (by decide) ?_
              refine z_iast (i := 25) hx hb hK hW hS rfl (z_ix rfl (by omega) (by omega)) dX5_result_78 (fun H locs hz1 hW hS => ?_)
              obtain ⟨I33, eI33⟩ : ∃ K : z_I, K = z_up I5 25 y4.toNatClampNeg x16 := ⟨_, rfl⟩
              rw [← eI33] at hW
              have f34 := z_fr_a lp2fr (show z_wa L_X5_result_x 25 = true by decide) eI33
              obtain ⟨x35, ex35⟩ : ∃ y : Int32, y = y4 + 1 := ⟨_, rfl⟩
              have tx35 : x35.toInt = y4.toInt + 1 := z_tadd ex35 rfl z_l1 (by omega) (by omega)
              refine lv_iinc (v := x35) (lv' := [(3, .int x35), (5, .int x16), (4, .int y3), (0, .ref (ad 23)), (1, .ref (ad (200 + 5 * k + 4))), (2, .int a2)]) hx hb dX5_result_79 hl (k := 2) rfl (by rw [ex35]; rfl) (by decide) rfl (fun ls hl => ?_)
              refine lv_goto (tgt := 157) hx hb dX5_result_82 (by decide) ?_
              obtain ⟨x36, ex36⟩ : ∃ y : Int32, y = y3 + 1 := ⟨_, rfl⟩
              have tx36 : x36.toInt = y3.toInt + 1 := z_tadd ex36 rfl z_l1 (by omega) (by omega)
              refine lv_iinc (v := x36) (lv' := [(4, .int x36), (3, .int x35), (5, .int x16), (0, .ref (ad 23)), (1, .ref (ad (200 + 5 * k + 4))), (2, .int a2)]) hx hb dX5_result_157 hl (k := 2) rfl (by rw [ex36]; rfl) (by decide) rfl (fun ls hl => ?_)
              refine lv_goto (tgt := 9) hx hb dX5_result_160 (by decide) ?_
              exact lp2ih x36 x35 I33  _ _ _ (by omega) (by omega) (by omega) (by omega) (by omega) (zv_MB_p hV9 (zv_s1 (by omega) hc17 (by omega) (by omega)) hk9 hb9 (by omega) hr19 eI33 (show y4.toNatClampNeg = st9.length by have := z_clt (x := y4) rfl (by omega); omega) rfl (by omega) (by omega)) f34 hW hS (lv_sub hl [0, 1, 3, 4, 5] rfl)
            · have g37 := z_f_nlt rfl z_l64 c29
              refine lv_iconst (v := 0) hx hb dX5_result_52 (by decide) ?_
              exact z_iret hx hb hr hK hS (Nat.le_of_ble_eq_true rfl) (Nat.le_of_ble_eq_true rfl) hlocks dX5_result_53 (shC c, ad, I5, JX, PC c ad) hW ⟨I5, rfl, lp2fr, (by rw [← zv_e_ev hcs hcl, ← hV9]; rw [zv_z1 (by omega) hc17 (by omega) (by omega)]; first | done | decide)⟩
          · have g38 := z_f_nge rfl z_l0 c27
            refine lv_iload hx hb dX5_result_36 (lv_at hl 0 rfl) ?_
            refine lv_bipush (v := (-20)) hx hb dX5_result_38 (by decide) ?_
            refine lv_icmp_gt (tgt := 85) hx hb dX5_result_40 (by decide) (fun c39 => ?_) (fun c39 => ?_)
            · have g40 := z_f_gt rfl z_lm20 c39
              refine lv_iload hx hb dX5_result_85 (lv_at hl 0 rfl) ?_
              refine lv_bipush (v := (-12)) hx hb dX5_result_87 (by decide) ?_
              refine lv_icmp_ne (tgt := 120) hx hb dX5_result_89 (by decide) (fun c41 => ?_) (fun c41 => ?_)
              · have g42 := z_f_ne rfl z_lm12 c41
                refine lv_iload_n hx hb dX5_result_120 rfl (lv_at hl 2 rfl) ?_
                refine lv_iconst (v := 2) hx hb dX5_result_121 (by decide) ?_
                refine lv_icmp_ge (tgt := 127) hx hb dX5_result_122 (by decide) (fun c43 => ?_) (fun c43 => ?_)
                · have g44 := z_f_ge rfl z_l2 c43
                  obtain ⟨y9, x9, r9, es9⟩ := zv_2 (st := st9) (by omega)
                  subst es9
                  rw [List.length_cons, List.length_cons] at hl9
                  have hy9 := (zv_bd_t hb9).1
                  have hx9 := (zv_bd_t (zv_bd_t hb9).2).1
                  obtain ⟨x45, ex45⟩ : ∃ y : Int32, y = y4 + (-1) := ⟨_, rfl⟩
                  have tx45 : x45.toInt = y4.toInt + (-1) := z_tadd ex45 rfl z_lm1 (by omega) (by omega)
                  refine lv_iinc (v := x45) (lv' := [(3, .int x45), (5, .int x16), (4, .int y3), (0, .ref (ad 23)), (1, .ref (ad (200 + 5 * k + 4))), (2, .int a2)]) hx hb dX5_result_127 hl (k := 2) rfl (by rw [ex45]; rfl) (by decide) rfl (fun ls hl => ?_)
                  refine lv_aload_n hx hb dX5_result_130 rfl (lv_at hl 3 rfl) ?_
                  refine z_get (T := TX5) (N := 2) (ci := 5) (i := 23) (v := .ref (ad 25)) hx hb hts zj_X5_result_X5 hown hK hW rfl rfl 1 (by decide) (hts (.fieldLink RX5 15 "PetrolBoard$Machine" "stack" "[I") (me_s (me_l (List.mem_of_getElem? (i := 4) rfl)))) (fun _ h => h) rfl dX5_result_131 ?_
                  refine lv_iload_n hx hb dX5_result_134 rfl (lv_at hl 0 rfl) ?_
                  refine lv_iconst (v := 1) hx hb dX5_result_135 (by decide) ?_
                  refine lv_isub hx hb dX5_result_136 ?_
                  refine lv_topi (fun x46 ex46 => ?_)
                  have tx46 : x46.toInt = x45.toInt - 1 := z_tsub ex46 rfl z_l1 (by omega) (by omega)
                  refine lv_iload hx hb dX5_result_137 (lv_at hl 1 rfl) ?_
                  refine lv_aload_n hx hb dX5_result_139 rfl (lv_at hl 3 rfl) ?_
                  refine z_get (T := TX5) (N := 2) (ci := 5) (i := 23) (v := .ref (ad 25)) hx hb hts zj_X5_result_X5 hown hK hW rfl rfl 1 (by decide) (hts (.fieldLink RX5 15 "PetrolBoard$Machine" "stack" "[I") (me_s (me_l (List.mem_of_getElem? (i := 4) rfl)))) (fun _ h => h) rfl dX5_result_140 ?_
                  refine lv_iload_n hx hb dX5_result_143 rfl (lv_at hl 0 rfl) ?_
                  refine lv_iconst (v := 1) hx hb dX5_result_144 (by decide) ?_
                  refine lv_isub hx hb dX5_result_145 ?_
                  refine lv_topi (fun x47 ex47 => ?_)
                  have tx47 : x47.toInt = x45.toInt - 1 := z_tsub ex47 rfl z_l1 (by omega) (by omega)
                  refine z_iald (i := 25) hx hb hK hW rfl (z_ix rfl (by omega) (by omega)) dX5_result_146 ?_
                  refine lv_topi (fun x48 ex48 => ?_)
                  refine lv_aload_n hx hb dX5_result_147 rfl (lv_at hl 3 rfl) ?_
                  refine z_get (T := TX5) (N := 2) (ci := 5) (i := 23) (v := .ref (ad 25)) hx hb hts zj_X5_result_X5 hown hK hW rfl rfl 1 (by decide) (hts (.fieldLink RX5 15 "PetrolBoard$Machine" "stack" "[I") (me_s (me_l (List.mem_of_getElem? (i := 4) rfl)))) (fun _ h => h) rfl dX5_result_148 ?_
                  refine lv_iload_n hx hb dX5_result_151 rfl (lv_at hl 0 rfl) ?_
                  refine z_iald (i := 25) hx hb hK hW rfl (z_ix rfl (by omega) (by omega)) dX5_result_152 ?_
                  refine lv_topi (fun x49 ex49 => ?_)
                  have wb9 : x49.toInt = y9 := by rw [ex49, show x45.toNatClampNeg = (x9 :: r9).length by rw [List.length_cons]; have := z_clt (x := x45) rfl (by omega); omega]; exact hk9.1
                  have wa9 : x48.toInt = x9 := by rw [ex48, show x47.toNatClampNeg = r9.length by have := z_clt (x := x47) rfl (by omega); omega]; exact hk9.2.1
                  refine z_ci hW hS hA (va_runS (As := [.int x16, .int x48, .int x49]) (rest := [.int x46, .ref (ad 25)]) ⟨hx, hb, hml, hown, hts⟩ (sx_X5_joined_x l G ad c I5 x16 x48 x49 (by omega) (by omega) _) (va_cwS 3 hts gX5_result_X5_joined rfl rfl rfl (by decide +kernel) ⟨Nat.le_of_ble_eq_true rfl, Nat.le_of_ble_eq_true rfl⟩) (z_preS hK hW) rfl rfl hl.1 rfl (lv_room (Nat.le_of_ble_eq_true rfl)) dX5_result_153 ⟨Nat.le_of_ble_eq_true rfl, Nat.le_of_ble_eq_true rfl⟩) (fun r u1 H locs hp hW hS => ?_)
                  obtain ⟨e9, hp⟩ := hp
                  rw [e9] at hW
                  refine lv_topi (fun x50 ex50 => ?_)
                  rw [← ex50] at hp
                  have hj51 := hp
                  refine z_iast (i := 25) hx hb hK hW hS rfl (z_ix rfl (by omega) (by omega)) dX5_result_156 (fun H locs hz1 hW hS => ?_)
                  obtain ⟨I52, eI52⟩ : ∃ K : z_I, K = z_up I5 25 x46.toNatClampNeg x50 := ⟨_, rfl⟩
                  rw [← eI52] at hW
                  have f53 := z_fr_a lp2fr (show z_wa L_X5_result_x 25 = true by decide) eI52
                  obtain ⟨x54, ex54⟩ : ∃ y : Int32, y = y3 + 1 := ⟨_, rfl⟩
                  have tx54 : x54.toInt = y3.toInt + 1 := z_tadd ex54 rfl z_l1 (by omega) (by omega)
                  refine lv_iinc (v := x54) (lv' := [(4, .int x54), (3, .int x45), (5, .int x16), (0, .ref (ad 23)), (1, .ref (ad (200 + 5 * k + 4))), (2, .int a2)]) hx hb dX5_result_157 hl (k := 2) rfl (by rw [ex54]; rfl) (by decide) rfl (fun ls hl => ?_)
                  refine lv_goto (tgt := 9) hx hb dX5_result_160 (by decide) ?_
                  exact lp2ih x54 x45 I52  _ _ _ (by omega) (by omega) (by omega) (by omega) (by omega) (zv_MB_j hV9 (zv_s4 (by omega) hc17 (by omega)) hk9 hb9 (zv_hb _) hr19 eI52 (show x46.toNatClampNeg = r9.length by have := z_clt (x := x46) rfl (by omega); omega) (by rw [hj51, wa9, wb9]) (by omega) (by omega)) f53 hW hS (lv_sub hl [0, 1, 3, 4, 5] rfl)
                · have g55 := z_f_nge rfl z_l2 c43
                  refine lv_iconst (v := 0) hx hb dX5_result_125 (by decide) ?_
                  exact z_iret hx hb hr hK hS (Nat.le_of_ble_eq_true rfl) (Nat.le_of_ble_eq_true rfl) hlocks dX5_result_126 (shC c, ad, I5, JX, PC c ad) hW ⟨I5, rfl, lp2fr, (by rw [← zv_e_ev hcs hcl, ← hV9]; rw [zv_z3 (by omega) hc17 (by omega) (by omega)]; first | done | decide)⟩
              · have g56 := z_f_eq rfl z_lm12 c41
                refine lv_iload_n hx hb dX5_result_92 rfl (lv_at hl 2 rfl) ?_
                refine lv_iconst (v := 1) hx hb dX5_result_93 (by decide) ?_
                refine lv_icmp_ge (tgt := 99) hx hb dX5_result_94 (by decide) (fun c57 => ?_) (fun c57 => ?_)
                · have g58 := z_f_ge rfl z_l1 c57
                  obtain ⟨x9, r9, es9⟩ := zv_1 (st := st9) (by omega)
                  subst es9
                  rw [List.length_cons] at hl9
                  have hx9 := (zv_bd_t hb9).1
                  refine lv_aload_n hx hb dX5_result_99 rfl (lv_at hl 3 rfl) ?_
                  refine z_get (T := TX5) (N := 2) (ci := 5) (i := 23) (v := .ref (ad 25)) hx hb hts zj_X5_result_X5 hown hK hW rfl rfl 1 (by decide) (hts (.fieldLink RX5 15 "PetrolBoard$Machine" "stack" "[I") (me_s (me_l (List.mem_of_getElem? (i := 4) rfl)))) (fun _ h => h) rfl dX5_result_100 ?_
                  refine lv_iload_n hx hb dX5_result_103 rfl (lv_at hl 2 rfl) ?_
                  refine lv_iconst (v := 1) hx hb dX5_result_104 (by decide) ?_
                  refine lv_isub hx hb dX5_result_105 ?_
                  refine lv_topi (fun x59 ex59 => ?_)
                  have tx59 : x59.toInt = y4.toInt - 1 := z_tsub ex59 rfl z_l1 (by omega) (by omega)
                  refine lv_iconst (v := 1) hx hb dX5_result_106 (by decide) ?_
                  refine lv_aload_n hx hb dX5_result_107 rfl (lv_at hl 3 rfl) ?_
                  refine z_get (T := TX5) (N := 2) (ci := 5) (i := 23) (v := .ref (ad 25)) hx hb hts zj_X5_result_X5 hown hK hW rfl rfl 1 (by decide) (hts (.fieldLink RX5 15 "PetrolBoard$Machine" "stack" "[I") (me_s (me_l (List.mem_of_getElem? (i := 4) rfl)))) (fun _ h => h) rfl dX5_result_108 ?_
                  refine lv_iload_n hx hb dX5_result_111 rfl (lv_at hl 2 rfl) ?_
                  refine lv_iconst (v := 1) hx hb dX5_result_112 (by decide) ?_
                  refine lv_isub hx hb dX5_result_113 ?_
                  refine lv_topi (fun x60 ex60 => ?_)
                  have tx60 : x60.toInt = y4.toInt - 1 := z_tsub ex60 rfl z_l1 (by omega) (by omega)
                  refine z_iald (i := 25) hx hb hK hW rfl (z_ix rfl (by omega) (by omega)) dX5_result_114 ?_
                  refine lv_topi (fun x61 ex61 => ?_)
                  have w9 : x61.toInt = x9 := by rw [ex61, show x60.toNatClampNeg = r9.length by have := z_clt (x := x60) rfl (by omega); omega]; exact hk9.1
                  refine lv_isub hx hb dX5_result_115 ?_
                  refine lv_topi (fun x62 ex62 => ?_)
                  have tx62 : x62.toInt = 1 - x61.toInt := z_tsub ex62 z_l1 rfl (by omega) (by omega)
                  refine z_iast (i := 25) hx hb hK hW hS rfl (z_ix rfl (by omega) (by omega)) dX5_result_116 (fun H locs hz1 hW hS => ?_)
                  obtain ⟨I63, eI63⟩ : ∃ K : z_I, K = z_up I5 25 x59.toNatClampNeg x62 := ⟨_, rfl⟩
                  rw [← eI63] at hW
                  have f64 := z_fr_a lp2fr (show z_wa L_X5_result_x 25 = true by decide) eI63
                  refine lv_goto (tgt := 157) hx hb dX5_result_117 (by decide) ?_
                  obtain ⟨x65, ex65⟩ : ∃ y : Int32, y = y3 + 1 := ⟨_, rfl⟩
                  have tx65 : x65.toInt = y3.toInt + 1 := z_tadd ex65 rfl z_l1 (by omega) (by omega)
                  refine lv_iinc (v := x65) (lv' := [(4, .int x65), (5, .int x16), (3, .int y4), (0, .ref (ad 23)), (1, .ref (ad (200 + 5 * k + 4))), (2, .int a2)]) hx hb dX5_result_157 hl (k := 1) rfl (by rw [ex65]; rfl) (by decide) rfl (fun ls hl => ?_)
                  refine lv_goto (tgt := 9) hx hb dX5_result_160 (by decide) ?_
                  exact lp2ih x65 y4 I63  _ _ _ (by omega) (by omega) (by omega) (by omega) (by omega) (zv_MB_n hV9 (zv_s3 (by omega) (by rw [hc17]; omega)) hk9 hb9 (by omega) hr19 eI63 (show x59.toNatClampNeg = r9.length by have := z_clt (x := x59) rfl (by omega); omega) (by omega) (by omega) (by omega)) f64 hW hS (lv_sub hl [0, 2, 3, 4, 5] rfl)
                · have g66 := z_f_nge rfl z_l1 c57
                  refine lv_iconst (v := 0) hx hb dX5_result_97 (by decide) ?_
                  exact z_iret hx hb hr hK hS (Nat.le_of_ble_eq_true rfl) (Nat.le_of_ble_eq_true rfl) hlocks dX5_result_98 (shC c, ad, I5, JX, PC c ad) hW ⟨I5, rfl, lp2fr, (by rw [← zv_e_ev hcs hcl, ← hV9]; rw [zv_z2 (by omega) (by rw [hc17]; omega) (by omega)]; first | done | decide)⟩
            · have g67 := z_f_ngt rfl z_lm20 c39
              refine lv_iload_n hx hb dX5_result_43 rfl (lv_at hl 2 rfl) ?_
              refine lv_aload_n hx hb dX5_result_44 rfl (lv_at hl 3 rfl) ?_
              refine z_get (T := TX5) (N := 2) (ci := 5) (i := 23) (v := .ref (ad 25)) hx hb hts zj_X5_result_X5 hown hK hW rfl rfl 1 (by decide) (hts (.fieldLink RX5 15 "PetrolBoard$Machine" "stack" "[I") (me_s (me_l (List.mem_of_getElem? (i := 4) rfl)))) (fun _ h => h) rfl dX5_result_45 ?_
              refine z_alen (i := 25) (v := 64) hx hb hK hW rfl (by simp [z_tys]) (by rfl) dX5_result_48 ?_
              refine lv_icmp_lt (tgt := 54) hx hb dX5_result_49 (by decide) (fun c68 => ?_) (fun c68 => ?_)
              · have g69 := z_f_lt rfl z_l64 c68
                refine lv_aload_n hx hb dX5_result_54 rfl (lv_at hl 3 rfl) ?_
                refine z_get (T := TX5) (N := 2) (ci := 5) (i := 23) (v := .ref (ad 25)) hx hb hts zj_X5_result_X5 hown hK hW rfl rfl 1 (by decide) (hts (.fieldLink RX5 15 "PetrolBoard$Machine" "stack" "[I") (me_s (me_l (List.mem_of_getElem? (i := 4) rfl)))) (fun _ h => h) rfl dX5_result_55 ?_
                refine lv_iload_n hx hb dX5_result_58 rfl (lv_at hl 2 rfl) ?_
                refine lv_iload hx hb dX5_result_59 (lv_at hl 0 rfl) ?_
                refine lv_if_lt (tgt := 69) hx hb dX5_result_61 (by decide) (fun c70 => ?_) (fun c70 => (by have g := z_f_nlt rfl z_l0 c70; omega))
                have g71 := z_f_lt rfl z_l0 c70
                refine lv_aload_n hx hb dX5_result_69 rfl (lv_at hl 3 rfl) ?_
                refine lv_bipush (v := (-20)) hx hb dX5_result_70 (by decide) ?_
                refine lv_iload hx hb dX5_result_72 (lv_at hl 0 rfl) ?_
                refine lv_isub hx hb dX5_result_74 ?_
                refine lv_topi (fun x72 ex72 => ?_)
                have tx72 : x72.toInt = (-20) - x16.toInt := z_tsub ex72 z_lm20 rfl (by have := Int32.le_toInt x16; have := Int32.toInt_lt x16; omega) (by have := Int32.le_toInt x16; have := Int32.toInt_lt x16; omega)
                refine z_ci hW hS hA (va_runV (As := [.int x72]) (rest := [.int y4, .ref (ad 25)]) ⟨hx, hb, hml, hown, hts⟩ (sx_X5_nameValue_x l G ad c I5  x72 _) (cwV 1 hts gX5_result_X5_nameValue rfl rfl rfl (by decide +kernel) ⟨Nat.le_of_ble_eq_true rfl, Nat.le_of_ble_eq_true rfl⟩) (z_preV (i := 23) hK hW rfl rfl) rfl rfl hl.1 rfl (lv_room (Nat.le_of_ble_eq_true rfl)) dX5_result_75 ⟨Nat.le_of_ble_eq_true rfl, Nat.le_of_ble_eq_true rfl⟩) (fun r u1 H locs hp hW hS => ?_)
                obtain ⟨e9, hp⟩ := hp
                rw [e9] at hW
                refine lv_topi (fun x73 ex73 => ?_)
                rw [← ex73] at hp
                have hn74 := hp
                refine z_iast (i := 25) hx hb hK hW hS rfl (z_ix rfl (by omega) (by omega)) dX5_result_78 (fun H locs hz1 hW hS => ?_)
                obtain ⟨I75, eI75⟩ : ∃ K : z_I, K = z_up I5 25 y4.toNatClampNeg x73 := ⟨_, rfl⟩
                rw [← eI75] at hW
                have f76 := z_fr_a lp2fr (show z_wa L_X5_result_x 25 = true by decide) eI75
                obtain ⟨x77, ex77⟩ : ∃ y : Int32, y = y4 + 1 := ⟨_, rfl⟩
                have tx77 : x77.toInt = y4.toInt + 1 := z_tadd ex77 rfl z_l1 (by omega) (by omega)
                refine lv_iinc (v := x77) (lv' := [(3, .int x77), (5, .int x16), (4, .int y3), (0, .ref (ad 23)), (1, .ref (ad (200 + 5 * k + 4))), (2, .int a2)]) hx hb dX5_result_79 hl (k := 2) rfl (by rw [ex77]; rfl) (by decide) rfl (fun ls hl => ?_)
                refine lv_goto (tgt := 157) hx hb dX5_result_82 (by decide) ?_
                obtain ⟨x78, ex78⟩ : ∃ y : Int32, y = y3 + 1 := ⟨_, rfl⟩
                have tx78 : x78.toInt = y3.toInt + 1 := z_tadd ex78 rfl z_l1 (by omega) (by omega)
                refine lv_iinc (v := x78) (lv' := [(4, .int x78), (3, .int x77), (5, .int x16), (0, .ref (ad 23)), (1, .ref (ad (200 + 5 * k + 4))), (2, .int a2)]) hx hb dX5_result_157 hl (k := 2) rfl (by rw [ex78]; rfl) (by decide) rfl (fun ls hl => ?_)
                refine lv_goto (tgt := 9) hx hb dX5_result_160 (by decide) ?_
                exact lp2ih x78 x77 I75  _ _ _ (by omega) (by omega) (by omega) (by omega) (by omega) (zv_MB_p hV9 (zv_s2 (by omega) hc17 (by omega) (by omega)) hk9 hb9 (zv_ax_b hbA _) hr19 eI75 (show y4.toNatClampNeg = st9.length by have := z_clt (x := y4) rfl (by omega); omega) (by rw [hn74, (zv_ax_c (fun j => lp2fr 24 j (z_wr_c (by decide)))), show x72.toInt = -20 - x16.toInt by omega]) (by omega) (by omega)) f76 hW hS (lv_sub hl [0, 1, 3, 4, 5] rfl)
              · have g79 := z_f_nlt rfl z_l64 c68
                refine lv_iconst (v := 0) hx hb dX5_result_52 (by decide) ?_
                exact z_iret hx hb hr hK hS (Nat.le_of_ble_eq_true rfl) (Nat.le_of_ble_eq_true rfl) hlocks dX5_result_53 (shC c, ad, I5, JX, PC c ad) hW ⟨I5, rfl, lp2fr, (by rw [← zv_e_ev hcs hcl, ← hV9]; rw [zv_z1 (by omega) hc17 (by omega) (by omega)]; first | done | decide)⟩
  exact lp2 4294967296 x1 (0) I  _ _ _ (z_m0u _) (by omega) (by rw [z_l0]; omega) (by rw [z_l0]; omega) (by omega) (zv_MB_0 (rest := cs) (by have c2 := z_clt (x := a2) rfl q2; omega) (by decide) ⟨hcs, hcb, hcl⟩) z_fr_0 hW hS (lv_sub hl [0, 1, 2, 3, 4] rfl)
end SG60z3
section SG60z4


/-! what ORDERS give -/
theorem zv_row2 {I : z_I} {o j : Nat} {us : Int} {s : zp_T} {x : Int32} (h : zo_row I o us j s) (e : x = I (o + 3) j) (hn : ¬ x.toInt = -1) : s.2.2.2 ≠ [] ∧ ∃ p : Nat, x.toInt = (p : Int) ∧ zp_cd (fun j => (I (o + 4) j).toInt) p (s.2.2.2 ++ [-13]) ∧ (p : Int) + (s.2.2.2.length : Int) < us := by
  rcases h.2.2.2 with ⟨q1, q2⟩ | ⟨q1, q2⟩
  · exact absurd (by rw [e]; exact q2) hn
  · rw [e]
    exact ⟨q1, q2⟩
theorem zv_row2n {I : z_I} {o j : Nat} {us : Int} {s : zp_T} {x : Int32} (h : zo_row I o us j s) (e : x = I (o + 3) j) (hn : x.toInt = -1) : s.2.2.2 = [] := by
  rcases h.2.2.2 with ⟨q1, q2⟩ | ⟨q1, p, q2, _⟩
  · exact q1
  · rw [e] at hn
    omega
theorem zv_row1 {I : z_I} {o j : Nat} {us : Int} {s : zp_T} {x : Int32} (h : zo_row I o us j s) (e : x = I (o + 2) j) (h1 : s.1 ≤ 301) : ∃ p : Nat, x.toInt = (p : Int) ∧ zp_cd (fun j => (I (o + 4) j).toInt) p (s.2.2.1 ++ [-13]) ∧ (p : Int) + (s.2.2.1.length : Int) < us := by
  rw [e]
  exact h.2.1 h1
/-- no number among the codes is too large -/
noncomputable def zv_cb (cs : List Int) : Prop := ∀ c, c ∈ cs → c ≤ 999999
noncomputable def zv_sb (ss : List zp_T) : Prop := ∀ (j : Nat) (s : zp_T), ss[j]? = some s → zv_cb s.2.2.1 ∧ zv_cb s.2.2.2
/-- the rows of the k-th ORDERS are those of ss -/
noncomputable def zv_ss (c : z_C) (I : z_I) (k : Nat) (ss : List zp_T) : Prop := ss.length = c.2.2.1 k ∧ (∀ (j : Nat) (s : zp_T), ss[j]? = some s → zo_row I (200 + 5 * k) (c.2.2.2 k : Int) j s) ∧ zv_sb ss
theorem zv_ss_c {c : z_C} {I K : z_I} {k : Nat} {ss : List zp_T} (h : zv_ss c I k ss) (hc : ∀ a q, 200 ≤ a → K a q = I a q) : zv_ss c K k ss := ⟨h.1, fun j s hj => zo_row_c (fun q _ k => hc _ _ (by omega)) (h.2.1 j s hj), h.2.2⟩
theorem zv_fr2 {L : z_L} {I K : z_I} (hf : z_fr L K I) (hL : L.all (fun e => decide (e.1 < 100)) = true) : ∀ a q, 200 ≤ a → K a q = I a q := fun a q ha => hf a q (zv_wb hL (by omega))
theorem zv_bA_c {I K : z_I} (h : zv_bA (zv_ax I)) (hc : ∀ j, K 24 j = I 24 j) : zv_bA (zv_ax K) := by
  rw [zv_ax_c hc]
  exact h
theorem zv_ax_A {K : z_I} {a0 a1 a2 a3 a4 a5 a6 : Int} (h0 : (K 24 0).toInt = a0) (h1 : (K 24 1).toInt = a1) (h2 : (K 24 2).toInt = a2) (h3 : (K 24 3).toInt = a3) (h4 : (K 24 4).toInt = a4) (h5 : (K 24 5).toInt = a5) (h6 : (K 24 6).toInt = a6) : zv_ax K = zv_A a0 a1 a2 a3 a4 a5 a6 := funext fun j => by
  by_cases q : 0 ≤ j ∧ j < 7
  · have hj : j = 0 ∨ j = 1 ∨ j = 2 ∨ j = 3 ∨ j = 4 ∨ j = 5 ∨ j = 6 := by omega
    unfold zv_ax
    rw [if_pos q]
    rcases hj with rfl | rfl | rfl | rfl | rfl | rfl | rfl
    · exact h0
    · exact h1
    · exact h2
    · exact h3
    · exact h4
    · exact h5
    · exact h6
  · unfold zv_ax zv_A
    rw [if_neg q, if_neg (by omega), if_neg (by omega), if_neg (by omega), if_neg (by omega), if_neg (by omega), if_neg (by omega), if_neg (by omega)]
theorem zv_A_b {a0 a1 a2 a3 a4 a5 a6 : Int} (h0 : -1000000000 ≤ a0 ∧ a0 ≤ 1000000000) (h1 : -1000000000 ≤ a1 ∧ a1 ≤ 1000000000) (h2 : -1000000000 ≤ a2 ∧ a2 ≤ 1000000000) (h3 : -1000000000 ≤ a3 ∧ a3 ≤ 1000000000) (h4 : -1000000000 ≤ a4 ∧ a4 ≤ 1000000000) (h5 : -1000000000 ≤ a5 ∧ a5 ≤ 1000000000) (h6 : -1000000000 ≤ a6 ∧ a6 ≤ 1000000000) : zv_bA (zv_A a0 a1 a2 a3 a4 a5 a6) := fun j _ _ => by
  unfold zv_A
  repeat' split
  all_goals omega
theorem zv_kmm {v w1 r : Int} (h1 : w1 ≤ 99 ∧ w1 ≤ v ∧ (w1 = 99 ∨ w1 = v)) (h2 : 0 ≤ r ∧ w1 ≤ r ∧ (r = 0 ∨ r = w1)) : r = zv_k v := by
  unfold zv_k
  split
  · omega
  · split <;> omega
theorem zv_cI {I K : z_I} {cs : List Int} {b : Bool} (e : zv_ax K = zv_ax I) (h : zv_c (zv_ax K) cs = b) : zv_c (zv_ax I) cs = b := by
  rw [← e]
  exact h
theorem zv_st_tt {A : Int → Int} {ss : List zp_T} (h : zv_st A ss = true) : zv_un A ss = 0 := if_pos h
theorem zv_st_ff {A : Int → Int} {ss : List zp_T} (h : zv_st A ss = false) : zv_un A ss = zv_fi A 300 ss := if_neg (by rw [h]; exact Bool.false_ne_true)
/-! UNITS, the class -/
/-- what UNITS rest on -/
noncomputable def zv_W (c : z_C) (I : z_I) (SS : Nat → List zp_T) : Prop := (I 21 2).toInt = (c.2.1 : Int) ∧ (∀ j, j < c.2.1 → 0 ≤ (I (200 + 5 * j) 0).toInt) ∧ (∀ k, k < c.2.1 → zv_ss c I k (SS k)) ∧ (∀ h d kn : Int, 0 ≤ (z_kx I h d kn (I 1 11).toNatClampNeg).2 ∧ (z_kx I h d kn (I 1 11).toNatClampNeg).2 ≤ 4) ∧ ∀ j : Nat, (j : Int) < (I 1 5).toInt → (1 ≤ (I 2 j).toInt ∧ (I 2 j).toInt ≤ 9) ∧ 0 ≤ (I 3 j).toInt ∧ (I 3 j).toInt ≤ 9
noncomputable def zv_AU (I : z_I) (h : Int32) (m kn : Int) : Int → Int := zv_A (z_kx I h.toInt (m * 30) kn (I 1 11).toNatClampNeg).2 (I 2 h.toNatClampNeg).toInt (I 3 h.toNatClampNeg).toInt m 0 0 0
/-- UNITS of a HOLDER: by the ORDERS in force -/
noncomputable def zv_UX (c : z_C) (I : z_I) (SS : Nat → List zp_T) (h : Int32) (m kn r : Int) : Prop := zi_R (zi_mo I) (zi_td I) m kn c.2.1 0 (fun q => zv_un (zv_AU I h m kn) (SS q)) r
noncomputable def L_X7_holds_x : z_L := [(25, 999)]
set_option maxHeartbeats 8000000 in
set_option maxRecDepth 100000 in
theorem sx_X7_holds_x (l : Launch) (G : z_G) (ad : Nat → Nat) (c : z_C) (I : z_I) (k : Nat) (s : zp_T) (a1 : Int32) (hk : k < c.2.1) (hc : z_okc c) (hbA : zv_bA (zv_ax I)) (hrow : zo_row I (200 + 5 * k) (c.2.2.2 k : Int) a1.toNatClampNeg s) (hcb : zv_cb s.2.2.2) (q1 : 0 ≤ a1.toInt ∧ a1.toInt < (c.2.2.1 k : Int)) : z_M l yX7_holds wsX7_holds { frames := 3, cells := 0, slots := 0, locals := 89 } [.ref (ad (200 + 5 * k)), .int a1, .ref (ad 23)] G (shC c, ad, I, JX, PC c ad) (fun r u1 => ∃ I1 : z_I, u1 = (shC c, ad, I1, JX, PC c ad) ∧ z_fr L_X7_holds_x I1 I ∧ ((r = 1 ∧ zv_c (zv_ax I) s.2.2.2 = true) ∨ (r = 0 ∧ zv_c (zv_ax I) s.2.2.2 = false))) 0 0 := sorry
noncomputable def L_X7_stops_x : z_L := [(25, 999)]
set_option maxHeartbeats 8000000 in
set_option maxRecDepth 100000 in
theorem sx_X7_stops_x (l : Launch) (G : z_G) (ad : Nat → Nat) (c : z_C) (I : z_I) (k : Nat) (ss : List zp_T) (hk : k < c.2.1) (hc : z_okc c) (hbA : zv_bA (zv_ax I)) (hss : zv_ss c I k ss) : z_M l yX7_stops wsX7_stops { frames := 4, cells := 0, slots := 0, locals := 111 } [.ref (ad (200 + 5 * k)), .ref (ad 23)] G (shC c, ad, I, JX, PC c ad) (fun r u1 => ∃ I1 : z_I, u1 = (shC c, ad, I1, JX, PC c ad) ∧ z_fr L_X7_stops_x I1 I ∧ ((r = 1 ∧ zv_st (zv_ax I) ss = true) ∨ (r = 0 ∧ zv_st (zv_ax I) ss = false))) 0 0 := by
  intro sz
  refine z_headQ (cc := cX7_stops) (maxL := 3) (ret := (some .boolean)) (by decide) rfl (Nat.le_of_ble_eq_true rfl) ?_
  intro p e s m below meth c0 ls hIn hK hsz hW hl
  obtain ⟨hx, hb, hr, hml, hown, hts, hlocks, hname⟩ := hIn
  subst hsz
  have hown : s.vm.findClass RX7 = some m.cls := hown
  have hA : ∀ q : Nat, s.heap.size ≤ q → z_A (shC c, ad, I, JX, PC c ad) s.heap.size q := fun q h => Or.inr h
  generalize hAe : z_A (shC c, ad, I, JX, PC c ad) s.heap.size = A at *
  have hS : va_S A s.heap s.heap [] := va_S.rf
  have hl : lv_has ls 3 [(0, .ref (ad (200 + 5 * k))), (1, .ref (ad 23))] := hl
  refine lv_iconst (v := 0) hx hb dX7_stops_0 (by decide) ?_
  refine lv_istore_n (lv' := [(2, .int 0), (0, .ref (ad (200 + 5 * k))), (1, .ref (ad 23))]) hx hb dX7_stops_1 rfl hl (by decide) rfl (fun ls hl => ?_)
  have lp1 : ∀ (f : Nat) (y2 : Int32) (I3 : z_I) (H : Heap) (locs : List Loc) (ls : Array Slot), (2147483647 < y2.toInt + (f : Int)) → (0 ≤ y2.toInt) → (∃ i : Nat, (i : Int) = y2.toInt ∧ i ≤ ss.length ∧ zv_st (zv_ax I) (ss.drop i) = zv_st (zv_ax I) ss) → (z_fr L_X7_stops_x I3 I) → z_W G A (shC c, ad, I3, JX, PC c ad) H → va_S A s.heap H locs → lv_has ls 3 [(2, .int y2), (0, .ref (ad (200 + 5 * k))), (1, .ref (ad 23))] → W p l e (headSpec wsX7_stops { frames := 4, cells := 0, slots := 0, locals := 111 }).room s m ([.ref (ad (200 + 5 * k)), .ref (ad 23)] : List Value).toArray below meth c0 H locs 0 0 (MQ below (va_Qi (fun (r : Int32) (u1 : z_U) => ∃ I1 : z_I, u1 = (shC c, ad, I1, JX, PC c ad) ∧ z_fr L_X7_stops_x I1 I ∧ ((r = 1 ∧ zv_st (zv_ax I) ss = true) ∨ (r = 0 ∧ zv_st (zv_ax I) ss = false))) (z_B G A) A) ([.ref (ad (200 + 5 * k)), .ref (ad 23)] : List Value).toArray s 0 0 A) (F0 m 2 ls []) := by
    intro f
    induction f with
    | zero => intro y2 I3  H locs ls lp1m lp1l2 lp1B lp1fr hW hS hl; exact absurd lp1m (by have := Int32.toInt_lt y2; have := Int32.le_toInt y2; omega)
    | succ f lp1ih =>
      intro y2 I3  H locs ls lp1m lp1l2 lp1B lp1fr hW hS hl
      obtain ⟨i9, hi9, hn9, hB9⟩ := lp1B
      have cq4 := z_clt (x := y2) rfl (by omega)
      have e9 : i9 = y2.toNatClampNeg := by omega
      subst e9
      have hle9 := hss.1
      refine lv_iload_n hx hb dX7_stops_2 rfl (lv_at hl 0 rfl) ?_
      refine lv_aload_n hx hb dX7_stops_3 rfl (lv_at hl 1 rfl) ?_
      refine z_get (T := TX7) (N := 6) (ci := 7) (i := (200 + 5 * k)) (v := .ref (ad (200 + 5 * k + 1))) hx hb hts zj_X7_stops_X7 hown hK hW (z_so0 hk) rfl 2 (by decide) (hts (.fieldLink RX7 40 "PetrolBoard$Orders" "head" "[I") (me_s (me_l (me_l (me_l (List.mem_of_getElem? (i := 0) rfl)))))) (fun _ h => h) (z_pO rfl rfl) dX7_stops_4 ?_
      have r4 := (hc k hk).1
      refine z_alen (i := (200 + 5 * k + 1)) (v := (c.2.2.1 k).toInt32) hx hb hK hW (z_so123 hk (by decide)) (by simp [z_tys]) (by rfl) dX7_stops_7 ?_
      refine lv_icmp_ge (tgt := 40) hx hb dX7_stops_8 (by decide) (fun c5 => ?_) (fun c5 => ?_)
      · have g6 := z_f_ge rfl (z_len (Nat.le_trans (hc k hk).1 (by decide))) c5
        have b7 := Int32.toInt_lt y2
        refine lv_iconst (v := 0) hx hb dX7_stops_40 (by decide) ?_
        exact z_zret hx hb hr (by decide) hK hS (Nat.le_of_ble_eq_true rfl) (Nat.le_of_ble_eq_true rfl) hlocks dX7_stops_41 (shC c, ad, I3, JX, PC c ad) hW ⟨I3, rfl, lp1fr, (Or.inr ⟨rfl, hB9.symm.trans (zv_st_0 (by omega))⟩)⟩
      · have g8 := z_f_nge rfl (z_len (Nat.le_trans (hc k hk).1 (by decide))) c5
        have b9 := Int32.toInt_lt y2
        obtain ⟨s9, hs9⟩ := zv_at ss y2.toNatClampNeg (by omega)
        refine lv_aload_n hx hb dX7_stops_11 rfl (lv_at hl 1 rfl) ?_
        refine z_get (T := TX7) (N := 6) (ci := 7) (i := (200 + 5 * k)) (v := .ref (ad (200 + 5 * k + 1))) hx hb hts zj_X7_stops_X7 hown hK hW (z_so0 hk) rfl 2 (by decide) (hts (.fieldLink RX7 40 "PetrolBoard$Orders" "head" "[I") (me_s (me_l (me_l (me_l (List.mem_of_getElem? (i := 0) rfl)))))) (fun _ h => h) (z_pO rfl rfl) dX7_stops_12 ?_
        refine lv_iload_n hx hb dX7_stops_15 rfl (lv_at hl 0 rfl) ?_
        refine z_iald (i := (200 + 5 * k + 1)) hx hb hK hW (z_so123 hk (by decide)) (z_ix rfl (by omega) (by omega)) dX7_stops_16 ?_
        refine lv_topi (fun x10 ex10 => ?_)
        have h11 : x10.toInt = s9.1 := by rw [ex10]; exact ((zv_ss_c hss (zv_fr2 lp1fr (by decide))).2.1 _ s9 hs9).1
        refine lv_sipush (v := 302) hx hb dX7_stops_17 (by decide) ?_
        refine lv_icmp_ne (tgt := 34) hx hb dX7_stops_20 (by decide) (fun c12 => ?_) (fun c12 => ?_)
        · have g13 := z_f_ne rfl z_l302 c12
          have b14 := Int32.toInt_lt x10
          obtain ⟨x15, ex15⟩ : ∃ y : Int32, y = y2 + 1 := ⟨_, rfl⟩
          have tx15 : x15.toInt = y2.toInt + 1 := z_tadd ex15 rfl z_l1 (by omega) (by omega)
          refine lv_iinc (v := x15) (lv' := [(2, .int x15), (0, .ref (ad (200 + 5 * k))), (1, .ref (ad 23))]) hx hb dX7_stops_34 hl (k := 0) rfl (by rw [ex15]; rfl) (by decide) rfl (fun ls hl => ?_)
          refine lv_goto (tgt := 2) hx hb dX7_stops_37 (by decide) ?_
          exact lp1ih x15 I3  _ _ _ (by omega) (by omega) ⟨_, by omega, by omega, (zv_st_n hs9 (fun q => absurd q.1 (by omega))).trans hB9⟩ lp1fr hW hS (lv_sub hl [0, 1, 2] rfl)
        · have g16 := z_f_eq rfl z_l302 c12
          have b17 := Int32.toInt_lt x10
          refine lv_aload_n hx hb dX7_stops_23 rfl (lv_at hl 1 rfl) ?_
          refine lv_iload_n hx hb dX7_stops_24 rfl (lv_at hl 0 rfl) ?_
          refine lv_aload_n hx hb dX7_stops_25 rfl (lv_at hl 2 rfl) ?_
          refine z_ci hW hS hA (va_runV (As := [.int y2, .ref (ad 23)]) (rest := []) ⟨hx, hb, hml, hown, hts⟩ (sx_X7_holds_x l G ad c I3 k s9 y2 hk hc (zv_bA_c hbA (fun j => lp1fr 24 j (z_wr_c (by decide)))) (by have e8 := (zv_ss_c hss (zv_fr2 lp1fr (by decide))).2.1 _ s9 hs9; exact e8) (hss.2.2 _ s9 hs9).2 (by omega) _) (cwV 2 hts gX7_stops_X7_holds rfl rfl rfl (by decide +kernel) ⟨Nat.le_of_ble_eq_true rfl, Nat.le_of_ble_eq_true rfl⟩) (z_preV (i := (200 + 5 * k)) hK hW (z_so0 hk) rfl) rfl rfl hl.1 rfl (lv_room (Nat.le_of_ble_eq_true rfl)) dX7_stops_26 ⟨Nat.le_of_ble_eq_true rfl, Nat.le_of_ble_eq_true rfl⟩) (fun r u1 H locs hp hW hS => ?_)
          obtain ⟨I18, e9, fI18, hp⟩ := hp
          rw [e9] at hW
          have f19 := z_fr_sub (L := L_X7_stops_x) lp1fr fI18 (by decide)
          rcases hp with ⟨rfl, hb20⟩ | ⟨rfl, hb20⟩
          · refine lv_if_eq (tgt := 34) hx hb dX7_stops_29 (by decide) (fun c21 => absurd c21 (by decide)) (fun c21 => ?_)
            refine lv_iconst (v := 1) hx hb dX7_stops_32 (by decide) ?_
            exact z_zret hx hb hr (by decide) hK hS (Nat.le_of_ble_eq_true rfl) (Nat.le_of_ble_eq_true rfl) hlocks dX7_stops_33 (shC c, ad, I18, JX, PC c ad) hW ⟨I18, rfl, f19, (Or.inl ⟨rfl, hB9.symm.trans (zv_st_y hs9 (by omega) (zv_cI (zv_ax_c (fun j => lp1fr 24 j (z_wr_c (by decide)))) hb20))⟩)⟩
          · refine lv_if_eq (tgt := 34) hx hb dX7_stops_29 (by decide) (fun c22 => ?_) (fun c22 => absurd (by decide) c22)
            obtain ⟨x23, ex23⟩ : ∃ y : Int32, y = y2 + 1 := ⟨_, rfl⟩
            have tx23 : x23.toInt = y2.toInt + 1 := z_tadd ex23 rfl z_l1 (by omega) (by omega)
            refine lv_iinc (v := x23) (lv' := [(2, .int x23), (0, .ref (ad (200 + 5 * k))), (1, .ref (ad 23))]) hx hb dX7_stops_34 hl (k := 0) rfl (by rw [ex23]; rfl) (by decide) rfl (fun ls hl => ?_)
            refine lv_goto (tgt := 2) hx hb dX7_stops_37 (by decide) ?_
            exact lp1ih x23 I18  _ _ _ (by omega) (by omega) ⟨_, by omega, by omega, (zv_st_n hs9 (fun q => absurd ((zv_cI (zv_ax_c (fun j => lp1fr 24 j (z_wr_c (by decide)))) hb20).symm.trans q.2) Bool.false_ne_true)).trans hB9⟩ f19 hW hS (lv_sub hl [0, 1, 2] rfl)
  exact lp1 4294967296 (0) I  _ _ _ (z_m0u _) (by rw [z_l0]; omega) ⟨0, by decide, Nat.zero_le _, rfl⟩ z_fr_0 hW hS (lv_sub hl [0, 1, 2] rfl)
noncomputable def L_X7_dealt_x : z_L := [(25, 999)]
set_option maxHeartbeats 8000000 in
set_option maxRecDepth 100000 in
theorem sx_X7_dealt_x (l : Launch) (G : z_G) (ad : Nat → Nat) (c : z_C) (I : z_I) (k : Nat) (ss : List zp_T) (a1 : Int32) (hk : k < c.2.1) (hc : z_okc c) (hbA : zv_bA (zv_ax I)) (hss : zv_ss c I k ss) (q1 : a1.toInt = 300 ∨ a1.toInt = 301) : z_M l yX7_dealt wsX7_dealt { frames := 4, cells := 0, slots := 0, locals := 111 } [.ref (ad (200 + 5 * k)), .int a1, .ref (ad 23)] G (shC c, ad, I, JX, PC c ad) (fun r u1 => ∃ I1 : z_I, u1 = (shC c, ad, I1, JX, PC c ad) ∧ z_fr L_X7_dealt_x I1 I ∧ r.toInt = zv_fi (zv_ax I) a1.toInt ss) 0 0 := sorry
noncomputable def L_X6_putHolder_x : z_L := [(24, 999)]
set_option maxHeartbeats 8000000 in
set_option maxRecDepth 100000 in
theorem sx_X6_putHolder_x (l : Launch) (G : z_G) (ad : Nat → Nat) (c : z_C) (I : z_I) (hH : z_iH I) (a2 : Int32) (a3 : Int32) (a4 : Int32) (q2 : 0 ≤ a2.toInt ∧ a2.toInt < (I 1 5).toInt) (q3 : 0 ≤ a3.toInt) : z_Mv l yX6_putHolder wsX6_putHolder { frames := 2, cells := 0, slots := 0, locals := 39 } [.ref (ad 21), .ref (ad 1), .int a2, .int a3, .int a4] G (shC c, ad, I, JX, PC c ad) (fun u1 => ∃ I1 : z_I, u1 = (shC c, ad, I1, JX, PC c ad) ∧ z_iH I1 ∧ z_fr L_X6_putHolder_x I1 I ∧ ((I1 24 0).toInt = (z_kx I a2.toInt a3.toInt a4.toInt (I 1 11).toNatClampNeg).2 ∧ I1 24 1 = I 2 a2.toNatClampNeg ∧ I1 24 2 = I 3 a2.toNatClampNeg ∧ (I1 24 3).toInt = a3.toInt / 30 ∧ ∀ j, 4 ≤ j → I1 24 j = I 24 j)) 0 0 := sorry
noncomputable def L_X6_putJourney_x : z_L := [(24, 999)]
set_option maxHeartbeats 8000000 in
set_option maxRecDepth 100000 in
theorem sx_X6_putJourney_x (l : Launch) (G : z_G) (ad : Nat → Nat) (c : z_C) (I : z_I) (a1 : Int32) (a2 : Int32) (a3 : Int32) : z_Mv l yX6_putJourney wsX6_putJourney { frames := 1, cells := 0, slots := 0, locals := 12 } [.ref (ad 21), .int a1, .int a2, .int a3] G (shC c, ad, I, JX, PC c ad) (fun u1 => ∃ I1 : z_I, u1 = (shC c, ad, I1, JX, PC c ad) ∧ z_fr L_X6_putJourney_x I1 I ∧ (I1 24 4 = a1 ∧ I1 24 5 = a2 ∧ I1 24 6 = a3 ∧ ∀ j, j < 4 → I1 24 j = I 24 j)) 0 0 := by
  intro sz
  refine z_headQ (cc := cX6_putJourney) (maxL := 4) (ret := none) (by decide) rfl (Nat.le_of_ble_eq_true rfl) ?_
  intro p e s m below meth c0 ls hIn hK hsz hW hl
  obtain ⟨hx, hb, hr, hml, hown, hts, hlocks, hname⟩ := hIn
  subst hsz
  have hown : s.vm.findClass RX6 = some m.cls := hown
  have hA : ∀ q : Nat, s.heap.size ≤ q → z_A (shC c, ad, I, JX, PC c ad) s.heap.size q := fun q h => Or.inr h
  generalize hAe : z_A (shC c, ad, I, JX, PC c ad) s.heap.size = A at *
  have hS : va_S A s.heap s.heap [] := va_S.rf
  have hl : lv_has ls 4 [(0, .ref (ad 21)), (1, .int a1), (2, .int a2), (3, .int a3)] := hl
  refine lv_aload_n hx hb dX6_putJourney_0 rfl (lv_at hl 0 rfl) ?_
  refine z_get (T := TX6) (N := 3) (ci := 6) (i := 21) (v := .ref (ad 23)) hx hb hts zj_X6_putJourney_X6 hown hK hW rfl rfl 1 (by decide) (hts (.fieldLink RX6 20 "PetrolBoard$OrderBook" "machine" "LPetrolBoard$Machine;") (me_s (me_l (me_l (List.mem_of_getElem? (i := 0) rfl))))) (fun _ h => h) rfl dX6_putJourney_1 ?_
  refine z_get (T := TX5) (N := 2) (ci := 5) (i := 23) (v := .ref (ad 24)) hx hb hts zj_X6_putJourney_X5 hown hK hW rfl rfl 0 (by decide) (hts (.fieldLink RX6 93 "PetrolBoard$Machine" "names" "[I") (me_s (me_l (me_l (List.mem_of_getElem? (i := 1) rfl))))) (fun _ h => h) rfl dX6_putJourney_4 ?_
  refine lv_iconst (v := 4) hx hb dX6_putJourney_7 (by decide) ?_
  refine lv_iload_n hx hb dX6_putJourney_8 rfl (lv_at hl 1 rfl) ?_
  refine z_iast (i := 24) hx hb hK hW hS rfl (z_inl (by decide)) dX6_putJourney_9 (fun H locs hz1 hW hS => ?_)
  obtain ⟨I1, eI1⟩ : ∃ K : z_I, K = z_up I 24 (4 : Int32).toNatClampNeg a1 := ⟨_, rfl⟩
  rw [← eI1] at hW
  have f2 := z_fr_a z_fr_0 (show z_wa L_X6_putJourney_x 24 = true by decide) eI1
  refine lv_aload_n hx hb dX6_putJourney_10 rfl (lv_at hl 0 rfl) ?_
  refine z_get (T := TX6) (N := 3) (ci := 6) (i := 21) (v := .ref (ad 23)) hx hb hts zj_X6_putJourney_X6 hown hK hW rfl rfl 1 (by decide) (hts (.fieldLink RX6 20 "PetrolBoard$OrderBook" "machine" "LPetrolBoard$Machine;") (me_s (me_l (me_l (List.mem_of_getElem? (i := 0) rfl))))) (fun _ h => h) rfl dX6_putJourney_11 ?_
  refine z_get (T := TX5) (N := 2) (ci := 5) (i := 23) (v := .ref (ad 24)) hx hb hts zj_X6_putJourney_X5 hown hK hW rfl rfl 0 (by decide) (hts (.fieldLink RX6 93 "PetrolBoard$Machine" "names" "[I") (me_s (me_l (me_l (List.mem_of_getElem? (i := 1) rfl))))) (fun _ h => h) rfl dX6_putJourney_14 ?_
  refine lv_iconst (v := 5) hx hb dX6_putJourney_17 (by decide) ?_
  refine lv_iload_n hx hb dX6_putJourney_18 rfl (lv_at hl 2 rfl) ?_
  refine z_iast (i := 24) hx hb hK hW hS rfl (z_inl (by decide)) dX6_putJourney_19 (fun H locs hz1 hW hS => ?_)
  obtain ⟨I3, eI3⟩ : ∃ K : z_I, K = z_up I1 24 (5 : Int32).toNatClampNeg a2 := ⟨_, rfl⟩
  rw [← eI3] at hW
  have f4 := z_fr_a f2 (show z_wa L_X6_putJourney_x 24 = true by decide) eI3
  refine lv_aload_n hx hb dX6_putJourney_20 rfl (lv_at hl 0 rfl) ?_
  refine z_get (T := TX6) (N := 3) (ci := 6) (i := 21) (v := .ref (ad 23)) hx hb hts zj_X6_putJourney_X6 hown hK hW rfl rfl 1 (by decide) (hts (.fieldLink RX6 20 "PetrolBoard$OrderBook" "machine" "LPetrolBoard$Machine;") (me_s (me_l (me_l (List.mem_of_getElem? (i := 0) rfl))))) (fun _ h => h) rfl dX6_putJourney_21 ?_
  refine z_get (T := TX5) (N := 2) (ci := 5) (i := 23) (v := .ref (ad 24)) hx hb hts zj_X6_putJourney_X5 hown hK hW rfl rfl 0 (by decide) (hts (.fieldLink RX6 93 "PetrolBoard$Machine" "names" "[I") (me_s (me_l (me_l (List.mem_of_getElem? (i := 1) rfl))))) (fun _ h => h) rfl dX6_putJourney_24 ?_
  refine lv_bipush (v := 6) hx hb dX6_putJourney_27 (by decide) ?_
  refine lv_iload_n hx hb dX6_putJourney_29 rfl (lv_at hl 3 rfl) ?_
  refine z_iast (i := 24) hx hb hK hW hS rfl (z_inl (by decide)) dX6_putJourney_30 (fun H locs hz1 hW hS => ?_)
  obtain ⟨I5, eI5⟩ : ∃ K : z_I, K = z_up I3 24 (6 : Int32).toNatClampNeg a3 := ⟨_, rfl⟩
  rw [← eI5] at hW
  have f6 := z_fr_a f4 (show z_wa L_X6_putJourney_x 24 = true by decide) eI5
  exact z_vret hx hb hr hK hS (Nat.le_of_ble_eq_true rfl) (Nat.le_of_ble_eq_true rfl) hlocks dX6_putJourney_31 (shC c, ad, I5, JX, PC c ad) hW ⟨I5, rfl, f6, ⟨(by rw [eI5, z_up_k (by decide), eI3, z_up_k (by decide), eI1, show (4 : Int32).toNatClampNeg = 4 from by decide, z_up_s]), (by rw [eI5, z_up_k (by decide), eI3, show (5 : Int32).toNatClampNeg = 5 from by decide, z_up_s]), (by rw [eI5, show (6 : Int32).toNatClampNeg = 6 from by decide, z_up_s]), (fun j hj => by rw [eI5, show (6 : Int32).toNatClampNeg = 6 from by decide, z_up_k (by omega), eI3, show (5 : Int32).toNatClampNeg = 5 from by decide, z_up_k (by omega), eI1, show (4 : Int32).toNatClampNeg = 4 from by decide, z_up_k (by omega)])⟩⟩
noncomputable def L_X6_unitsOf_x : z_L := [(24, 999), (25, 999)]
set_option maxHeartbeats 8000000 in
set_option maxRecDepth 100000 in
theorem sx_X6_unitsOf_x (l : Launch) (G : z_G) (ad : Nat → Nat) (c : z_C) (I : z_I) (hO : z_iO I) (hH : z_iH I) (SS : Nat → List zp_T) (a2 : Int32) (a3 : Int32) (a4 : Int32) (hc : z_okc c) (hWu : zv_W c I SS) (q2 : 0 ≤ a2.toInt ∧ a2.toInt < (I 1 5).toInt) (q3 : 0 ≤ a3.toInt ∧ a3.toInt ≤ 23) : z_M l yX6_unitsOf wsX6_unitsOf { frames := 5, cells := 0, slots := 0, locals := 135 } [.ref (ad 21), .ref (ad 1), .int a2, .int a3, .int a4] G (shC c, ad, I, JX, PC c ad) (fun r u1 => ∃ I1 : z_I, u1 = (shC c, ad, I1, JX, PC c ad) ∧ z_iO I1 ∧ z_iH I1 ∧ z_fr L_X6_unitsOf_x I1 I ∧ zv_UX c I SS a2 a3.toInt a4.toInt r.toInt) 0 0 := by
  intro sz
  refine z_headQ (cc := cX6_unitsOf) (maxL := 6) (ret := (some .int)) (by decide) rfl (Nat.le_of_ble_eq_true rfl) ?_
  intro p e s m below meth c0 ls hIn hK hsz hW hl
  obtain ⟨hx, hb, hr, hml, hown, hts, hlocks, hname⟩ := hIn
  subst hsz
  have hown : s.vm.findClass RX6 = some m.cls := hown
  have hA : ∀ q : Nat, s.heap.size ≤ q → z_A (shC c, ad, I, JX, PC c ad) s.heap.size q := fun q h => Or.inr h
  generalize hAe : z_A (shC c, ad, I, JX, PC c ad) s.heap.size = A at *
  have hS : va_S A s.heap s.heap [] := va_S.rf
  have hl : lv_has ls 6 [(0, .ref (ad 21)), (1, .ref (ad 1)), (2, .int a2), (3, .int a3), (4, .int a4)] := hl
  obtain ⟨hon, hmo, hSS9, hkd9, hsz9⟩ := id hWu
  refine lv_aload_n hx hb dX6_unitsOf_0 rfl (lv_at hl 0 rfl) ?_
  refine lv_iload_n hx hb dX6_unitsOf_1 rfl (lv_at hl 3 rfl) ?_
  refine lv_iload hx hb dX6_unitsOf_2 (lv_at hl 4 rfl) ?_
  refine z_cq hW hS hA (va_runV (As := [.int a3, .int a4]) (rest := []) ⟨hx, hb, hml, hown, hts⟩ (sx_X6_ordersOf_x l G ad c I (by show 0 ≤ (I 21 2).toInt ∧ (I 21 2).toInt ≤ 12; exact hO) a3 a4 hon hmo _) (cwV 2 hts gX6_unitsOf_X6_ordersOf rfl rfl rfl (by decide +kernel) ⟨Nat.le_of_ble_eq_true rfl, Nat.le_of_ble_eq_true rfl⟩) (z_preV (i := 21) hK hW rfl rfl) rfl rfl hl.1 rfl (lv_room (Nat.le_of_ble_eq_true rfl)) dX6_unitsOf_4 ⟨Nat.le_of_ble_eq_true rfl, Nat.le_of_ble_eq_true rfl⟩) (fun r u1 H locs hp hW hS => ?_)
  obtain ⟨e9, hp⟩ := hp
  rw [e9] at hW
  rcases hp with ⟨rfl, hb2⟩ | ⟨k1, hk1, rfl, hb2⟩
  · refine W.eq (g2 := F0 m 7 ls (.null :: [])) rfl ?_
    refine lv_astoreN (lv' := [(5, .null), (0, .ref (ad 21)), (1, .ref (ad 1)), (2, .int a2), (3, .int a3), (4, .int a4)]) hx hb dX6_unitsOf_7 hl (by decide) rfl (fun ls hl => ?_)
    refine lv_aloadN hx hb dX6_unitsOf_9 (lv_at hl 0 rfl) ?_
    refine lv_ifnullN (tgt := 22) hx hb dX6_unitsOf_11 (by decide) ?_
    refine lv_iconst (v := 0) hx hb dX6_unitsOf_22 (by decide) ?_
    exact z_iret hx hb hr hK hS (Nat.le_of_ble_eq_true rfl) (Nat.le_of_ble_eq_true rfl) hlocks dX6_unitsOf_23 (shC c, ad, I, JX, PC c ad) hW ⟨I, rfl, (by show 0 ≤ (I 21 2).toInt ∧ (I 21 2).toInt ≤ 12; exact hO), ⟨(by show 0 ≤ (I 1 5).toInt ∧ (I 1 5).toInt ≤ 30; exact hH.1), (by show 0 ≤ (I 1 11).toInt ∧ (I 1 11).toInt ≤ 200; exact hH.2)⟩, z_fr_0, ⟨-1, hb2, Or.inl ⟨rfl, by decide⟩⟩⟩
  · refine W.eq (g2 := F0 m 7 ls (.ref (ad (200 + 5 * k1)) :: [])) rfl ?_
    refine lv_astore (lv' := [(5, .ref (ad (200 + 5 * k1))), (0, .ref (ad 21)), (1, .ref (ad 1)), (2, .int a2), (3, .int a3), (4, .int a4)]) hx hb dX6_unitsOf_7 hl (by decide) rfl (fun ls hl => ?_)
    refine lv_aload hx hb dX6_unitsOf_9 (lv_at hl 0 rfl) ?_
    refine lv_ifnull hx hb dX6_unitsOf_11 ?_
    refine lv_aload_n hx hb dX6_unitsOf_14 rfl (lv_at hl 2 rfl) ?_
    refine lv_iload_n hx hb dX6_unitsOf_15 rfl (lv_at hl 3 rfl) ?_
    refine z_ci hW hS hA (va_runV (As := [.int a2]) (rest := []) ⟨hx, hb, hml, hown, hts⟩ (sx_X2_has_e l G ad c I ⟨(by show 0 ≤ (I 1 5).toInt ∧ (I 1 5).toInt ≤ 30; exact hH.1), (by show 0 ≤ (I 1 11).toInt ∧ (I 1 11).toInt ≤ 200; exact hH.2)⟩ a2 _) (cwV 1 hts gX6_unitsOf_X2_has rfl rfl rfl (by decide +kernel) ⟨Nat.le_of_ble_eq_true rfl, Nat.le_of_ble_eq_true rfl⟩) (z_preV (i := 1) hK hW rfl rfl) rfl rfl hl.1 rfl (lv_room (Nat.le_of_ble_eq_true rfl)) dX6_unitsOf_16 ⟨Nat.le_of_ble_eq_true rfl, Nat.le_of_ble_eq_true rfl⟩) (fun r u1 H locs hp hW hS => ?_)
    obtain ⟨e9, hp⟩ := hp
    rw [e9] at hW
    rcases hp with ⟨rfl, h3⟩ | ⟨rfl, h3⟩
    · have h4 := h3
      have r5 : 0 ≤ (I 1 5).toInt ∧ (I 1 5).toInt ≤ 30 := hH.1
      refine lv_if_ne (tgt := 24) hx hb dX6_unitsOf_19 (by decide) (fun c6 => ?_) (fun c6 => absurd c6 (by decide))
      refine lv_aload_n hx hb dX6_unitsOf_24 rfl (lv_at hl 1 rfl) ?_
      refine lv_aload_n hx hb dX6_unitsOf_25 rfl (lv_at hl 2 rfl) ?_
      refine lv_iload_n hx hb dX6_unitsOf_26 rfl (lv_at hl 3 rfl) ?_
      refine lv_iload_n hx hb dX6_unitsOf_27 rfl (lv_at hl 4 rfl) ?_
      refine lv_bipush (v := 30) hx hb dX6_unitsOf_28 (by decide) ?_
      refine lv_imul hx hb dX6_unitsOf_30 ?_
      refine lv_topi (fun x7 ex7 => ?_)
      have tx7 : x7.toInt = a3.toInt * 30 := z_tmul ex7 rfl z_l30 (by omega) (by omega)
      refine lv_iload hx hb dX6_unitsOf_31 (lv_at hl 5 rfl) ?_
      refine z_cv hW hS hA (va_runV (As := [.ref (ad 1), .int a2, .int x7, .int a4]) (rest := []) ⟨hx, hb, hml, hown, hts⟩ (sx_X6_putHolder_x l G ad c I ⟨(by show 0 ≤ (I 1 5).toInt ∧ (I 1 5).toInt ≤ 30; exact hH.1), (by show 0 ≤ (I 1 11).toInt ∧ (I 1 11).toInt ≤ 200; exact hH.2)⟩ a2 x7 a4 (by omega) (by omega) _) (cwV 4 hts gX6_unitsOf_X6_putHolder rfl rfl rfl (by decide +kernel) ⟨Nat.le_of_ble_eq_true rfl, Nat.le_of_ble_eq_true rfl⟩) (z_preV (i := 21) hK hW rfl rfl) rfl rfl hl.1 rfl (lv_room (Nat.le_of_ble_eq_true rfl)) dX6_unitsOf_33 ⟨Nat.le_of_ble_eq_true rfl, Nat.le_of_ble_eq_true rfl⟩) (fun u1 H locs hp hW hS => ?_)
      obtain ⟨I8, e9, hI8H, fI8, hp⟩ := hp
      rw [e9] at hW
      have f9 := z_fr_sub (L := L_X6_unitsOf_x) z_fr_0 fI8 (by decide)
      have k10 : 0 ≤ (I8 21 2).toInt ∧ (I8 21 2).toInt ≤ 12 := by rw [fI8 21 2 (by decide)]; exact (by show 0 ≤ (I 21 2).toInt ∧ (I 21 2).toInt ≤ 12; exact hO)
      have hP11 := hp
      refine lv_aload_n hx hb dX6_unitsOf_36 rfl (lv_at hl 1 rfl) ?_
      refine lv_iconst (v := 0) hx hb dX6_unitsOf_37 (by decide) ?_
      refine lv_iconst (v := 0) hx hb dX6_unitsOf_38 (by decide) ?_
      refine lv_iconst (v := 0) hx hb dX6_unitsOf_39 (by decide) ?_
      refine z_cv hW hS hA (va_runV (As := [.int 0, .int 0, .int 0]) (rest := []) ⟨hx, hb, hml, hown, hts⟩ (sx_X6_putJourney_x l G ad c I8  0 0 0 _) (cwV 3 hts gX6_unitsOf_X6_putJourney rfl rfl rfl (by decide +kernel) ⟨Nat.le_of_ble_eq_true rfl, Nat.le_of_ble_eq_true rfl⟩) (z_preV (i := 21) hK hW rfl rfl) rfl rfl hl.1 rfl (lv_room (Nat.le_of_ble_eq_true rfl)) dX6_unitsOf_40 ⟨Nat.le_of_ble_eq_true rfl, Nat.le_of_ble_eq_true rfl⟩) (fun u1 H locs hp hW hS => ?_)
      obtain ⟨I12, e9, fI12, hp⟩ := hp
      rw [e9] at hW
      have f13 := z_fr_sub (L := L_X6_unitsOf_x) f9 fI12 (by decide)
      have k14 : 0 ≤ (I12 21 2).toInt ∧ (I12 21 2).toInt ≤ 12 := by rw [fI12 21 2 (by decide)]; exact (by show 0 ≤ (I8 21 2).toInt ∧ (I8 21 2).toInt ≤ 12; exact k10)
      have k15 : 0 ≤ (I12 1 5).toInt ∧ (I12 1 5).toInt ≤ 30 := by rw [fI12 1 5 (by decide)]; exact (by show 0 ≤ (I8 1 5).toInt ∧ (I8 1 5).toInt ≤ 30; exact hI8H.1)
      have k16 : 0 ≤ (I12 1 11).toInt ∧ (I12 1 11).toInt ≤ 200 := by rw [fI12 1 11 (by decide)]; exact (by show 0 ≤ (I8 1 11).toInt ∧ (I8 1 11).toInt ≤ 200; exact hI8H.2)
      have hP17 := hp
      have hA9 : zv_ax I12 = zv_AU I a2 a3.toInt a4.toInt := zv_ax_A (by rw [hP17.2.2.2 0 (by decide)]; rw [hP11.1, show x7.toInt = a3.toInt * 30 by omega]) (by rw [hP17.2.2.2 1 (by decide)]; rw [hP11.2.1]) (by rw [hP17.2.2.2 2 (by decide)]; rw [hP11.2.2.1]) (by rw [hP17.2.2.2 3 (by decide)]; rw [hP11.2.2.2.1]; omega) (by rw [hP17.1]; decide) (by rw [hP17.2.1]; decide) (by rw [hP17.2.2.1]; decide)
      have hsz := hsz9 a2.toNatClampNeg (by have := z_clt (x := a2) rfl (by omega); omega)
      have hkd := hkd9 a2.toInt (a3.toInt * 30) a4.toInt
      have hbA9 : zv_bA (zv_ax I12) := by rw [hA9]; exact zv_A_b (by omega) (by omega) (by omega) (by omega) (by omega) (by omega) (by omega)
      refine lv_aload hx hb dX6_unitsOf_43 (lv_at hl 0 rfl) ?_
      refine lv_aload_n hx hb dX6_unitsOf_45 rfl (lv_at hl 1 rfl) ?_
      refine z_get (T := TX6) (N := 3) (ci := 6) (i := 21) (v := .ref (ad 23)) hx hb hts zj_X6_unitsOf_X6 hown hK hW rfl rfl 1 (by decide) (hts (.fieldLink RX6 20 "PetrolBoard$OrderBook" "machine" "LPetrolBoard$Machine;") (me_s (me_l (me_l (me_l (me_l (me_l (List.mem_of_getElem? (i := 0) rfl)))))))) (fun _ h => h) rfl dX6_unitsOf_46 ?_
      refine z_ci hW hS hA (va_runV (As := [.ref (ad 23)]) (rest := []) ⟨hx, hb, hml, hown, hts⟩ (sx_X7_stops_x l G ad c I12 k1 (SS k1) hk1 hc hbA9 (zv_ss_c (hSS9 k1 hk1) (zv_fr2 f13 (by decide))) _) (cwV 1 hts gX6_unitsOf_X7_stops rfl rfl rfl (by decide +kernel) ⟨Nat.le_of_ble_eq_true rfl, Nat.le_of_ble_eq_true rfl⟩) (z_preV (i := (200 + 5 * k1)) hK hW (z_so0 hk1) rfl) rfl rfl hl.1 rfl (lv_room (Nat.le_of_ble_eq_true rfl)) dX6_unitsOf_49 ⟨Nat.le_of_ble_eq_true rfl, Nat.le_of_ble_eq_true rfl⟩) (fun r u1 H locs hp hW hS => ?_)
      obtain ⟨I18, e9, fI18, hp⟩ := hp
      rw [e9] at hW
      have f19 := z_fr_sub (L := L_X6_unitsOf_x) f13 fI18 (by decide)
      have k20 : 0 ≤ (I18 21 2).toInt ∧ (I18 21 2).toInt ≤ 12 := by rw [fI18 21 2 (by decide)]; exact (by show 0 ≤ (I12 21 2).toInt ∧ (I12 21 2).toInt ≤ 12; exact k14)
      have k21 : 0 ≤ (I18 1 5).toInt ∧ (I18 1 5).toInt ≤ 30 := by rw [fI18 1 5 (by decide)]; exact (by show 0 ≤ (I12 1 5).toInt ∧ (I12 1 5).toInt ≤ 30; exact k15)
      have k22 : 0 ≤ (I18 1 11).toInt ∧ (I18 1 11).toInt ≤ 200 := by rw [fI18 1 11 (by decide)]; exact (by show 0 ≤ (I12 1 11).toInt ∧ (I12 1 11).toInt ≤ 200; exact k16)
      rcases hp with ⟨rfl, hb23⟩ | ⟨rfl, hb23⟩
      · refine lv_if_eq (tgt := 59) hx hb dX6_unitsOf_52 (by decide) (fun c24 => absurd c24 (by decide)) (fun c24 => ?_)
        refine lv_iconst (v := 0) hx hb dX6_unitsOf_55 (by decide) ?_
        refine lv_goto (tgt := 71) hx hb dX6_unitsOf_56 (by decide) ?_
        exact z_iret hx hb hr hK hS (Nat.le_of_ble_eq_true rfl) (Nat.le_of_ble_eq_true rfl) hlocks dX6_unitsOf_71 (shC c, ad, I18, JX, PC c ad) hW ⟨I18, rfl, (by show 0 ≤ (I18 21 2).toInt ∧ (I18 21 2).toInt ≤ 12; exact k20), ⟨(by show 0 ≤ (I18 1 5).toInt ∧ (I18 1 5).toInt ≤ 30; exact k21), (by show 0 ≤ (I18 1 11).toInt ∧ (I18 1 11).toInt ≤ 200; exact k22)⟩, f19, ⟨(k1 : Int), hb2, Or.inr ⟨k1, rfl, hk1, by show _ = zv_un _ _; rw [← hA9, zv_st_tt hb23]; decide⟩⟩⟩
      · refine lv_if_eq (tgt := 59) hx hb dX6_unitsOf_52 (by decide) (fun c25 => ?_) (fun c25 => absurd (by decide) c25)
        refine lv_aload hx hb dX6_unitsOf_59 (lv_at hl 0 rfl) ?_
        refine lv_sipush (v := 300) hx hb dX6_unitsOf_61 (by decide) ?_
        refine lv_aload_n hx hb dX6_unitsOf_64 rfl (lv_at hl 1 rfl) ?_
        refine z_get (T := TX6) (N := 3) (ci := 6) (i := 21) (v := .ref (ad 23)) hx hb hts zj_X6_unitsOf_X6 hown hK hW rfl rfl 1 (by decide) (hts (.fieldLink RX6 20 "PetrolBoard$OrderBook" "machine" "LPetrolBoard$Machine;") (me_s (me_l (me_l (me_l (me_l (me_l (List.mem_of_getElem? (i := 0) rfl)))))))) (fun _ h => h) rfl dX6_unitsOf_65 ?_
        refine z_ci hW hS hA (va_runV (As := [.int 300, .ref (ad 23)]) (rest := []) ⟨hx, hb, hml, hown, hts⟩ (sx_X7_dealt_x l G ad c I18 k1 (SS k1) 300 hk1 hc (zv_bA_c hbA9 (fun j => fI18 24 j (z_wr_c (by decide)))) (zv_ss_c (hSS9 k1 hk1) (zv_fr2 f19 (by decide))) (by decide) _) (cwV 2 hts gX6_unitsOf_X7_dealt rfl rfl rfl (by decide +kernel) ⟨Nat.le_of_ble_eq_true rfl, Nat.le_of_ble_eq_true rfl⟩) (z_preV (i := (200 + 5 * k1)) hK hW (z_so0 hk1) rfl) rfl rfl hl.1 rfl (lv_room (Nat.le_of_ble_eq_true rfl)) dX6_unitsOf_68 ⟨Nat.le_of_ble_eq_true rfl, Nat.le_of_ble_eq_true rfl⟩) (fun r u1 H locs hp hW hS => ?_)
        obtain ⟨I26, e9, fI26, hp⟩ := hp
        rw [e9] at hW
        have f27 := z_fr_sub (L := L_X6_unitsOf_x) f19 fI26 (by decide)
        have k28 : 0 ≤ (I26 21 2).toInt ∧ (I26 21 2).toInt ≤ 12 := by rw [fI26 21 2 (by decide)]; exact (by show 0 ≤ (I18 21 2).toInt ∧ (I18 21 2).toInt ≤ 12; exact k20)
        have k29 : 0 ≤ (I26 1 5).toInt ∧ (I26 1 5).toInt ≤ 30 := by rw [fI26 1 5 (by decide)]; exact (by show 0 ≤ (I18 1 5).toInt ∧ (I18 1 5).toInt ≤ 30; exact k21)
        have k30 : 0 ≤ (I26 1 11).toInt ∧ (I26 1 11).toInt ≤ 200 := by rw [fI26 1 11 (by decide)]; exact (by show 0 ≤ (I18 1 11).toInt ∧ (I18 1 11).toInt ≤ 200; exact k22)
        refine lv_topi (fun x31 ex31 => ?_)
        rw [← ex31] at hp
        have hv32 := hp
        exact z_iret hx hb hr hK hS (Nat.le_of_ble_eq_true rfl) (Nat.le_of_ble_eq_true rfl) hlocks dX6_unitsOf_71 (shC c, ad, I26, JX, PC c ad) hW ⟨I26, rfl, (by show 0 ≤ (I26 21 2).toInt ∧ (I26 21 2).toInt ≤ 12; exact k28), ⟨(by show 0 ≤ (I26 1 5).toInt ∧ (I26 1 5).toInt ≤ 30; exact k29), (by show 0 ≤ (I26 1 11).toInt ∧ (I26 1 11).toInt ≤ 200; exact k30)⟩, f27, ⟨(k1 : Int), hb2, Or.inr ⟨k1, rfl, hk1, by rw [hv32, (zv_ax_c (fun j => fI18 24 j (z_wr_c (by decide))))]; show _ = zv_un _ _; rw [← hA9, zv_st_ff hb23]; rfl⟩⟩⟩
    · have h33 := h3
      have r34 : 0 ≤ (I 1 5).toInt ∧ (I 1 5).toInt ≤ 30 := hH.1
      refine lv_if_ne (tgt := 24) hx hb dX6_unitsOf_19 (by decide) (fun c35 => absurd (by decide) c35) (fun c35 => ?_)
      refine lv_iconst (v := 0) hx hb dX6_unitsOf_22 (by decide) ?_
      exact z_iret hx hb hr hK hS (Nat.le_of_ble_eq_true rfl) (Nat.le_of_ble_eq_true rfl) hlocks dX6_unitsOf_23 (shC c, ad, I, JX, PC c ad) hW ⟨I, rfl, (by show 0 ≤ (I 21 2).toInt ∧ (I 21 2).toInt ≤ 12; exact hO), ⟨(by show 0 ≤ (I 1 5).toInt ∧ (I 1 5).toInt ≤ 30; exact hH.1), (by show 0 ≤ (I 1 11).toInt ∧ (I 1 11).toInt ≤ 200; exact hH.2)⟩, z_fr_0, (by exfalso; omega)⟩
noncomputable def L_X11_units_x : z_L := [(24, 999), (25, 999)]
set_option maxHeartbeats 8000000 in
set_option maxRecDepth 100000 in
theorem sx_X11_units_x (l : Launch) (G : z_G) (ad : Nat → Nat) (c : z_C) (I : z_I) (hO : z_iO I) (hH : z_iH I) (SS : Nat → List zp_T) (a1 : Int32) (a2 : Int32) (a3 : Int32) (hc : z_okc c) (hWu : zv_W c I SS) : z_M l yX11_units wsX11_units { frames := 6, cells := 0, slots := 0, locals := 160 } [.ref (ad 0), .int a1, .int a2, .int a3] G (shC c, ad, I, JX, PC c ad) (fun r u1 => ∃ I1 : z_I, u1 = (shC c, ad, I1, JX, PC c ad) ∧ z_iO I1 ∧ z_iH I1 ∧ z_fr L_X11_units_x I1 I ∧ (((0 ≤ a1.toInt ∧ a1.toInt < (I 1 5).toInt ∧ 0 ≤ a2.toInt ∧ a2.toInt ≤ 23 ∧ 0 ≤ a3.toInt ∧ a3.toInt ≤ 719) ∧ zv_UX c I SS a1 a2.toInt a3.toInt r.toInt) ∨ (¬ (0 ≤ a1.toInt ∧ a1.toInt < (I 1 5).toInt ∧ 0 ≤ a2.toInt ∧ a2.toInt ≤ 23 ∧ 0 ≤ a3.toInt ∧ a3.toInt ≤ 719) ∧ r.toInt = -1))) 0 0 := by
  intro sz
  refine z_headQ (cc := cX11_units) (maxL := 4) (ret := (some .int)) (by decide) rfl (Nat.le_of_ble_eq_true rfl) ?_
  intro p e s m below meth c0 ls hIn hK hsz hW hl
  obtain ⟨hx, hb, hr, hml, hown, hts, hlocks, hname⟩ := hIn
  subst hsz
  have hown : s.vm.findClass RX11 = some m.cls := hown
  have hA : ∀ q : Nat, s.heap.size ≤ q → z_A (shC c, ad, I, JX, PC c ad) s.heap.size q := fun q h => Or.inr h
  generalize hAe : z_A (shC c, ad, I, JX, PC c ad) s.heap.size = A at *
  have hS : va_S A s.heap s.heap [] := va_S.rf
  have hl : lv_has ls 4 [(0, .ref (ad 0)), (1, .int a1), (2, .int a2), (3, .int a3)] := hl
  refine lv_aload_n hx hb dX11_units_0 rfl (lv_at hl 0 rfl) ?_
  refine z_get (T := TX11) (N := 13) (ci := 11) (i := 0) (v := .ref (ad 1)) hx hb hts zj_X11_units_X11 hown hK hW rfl rfl 2 (by decide) (hts (.fieldLink RX11 16 "PetrolBoard" "holders" "LPetrolBoard$Holders;") (me_s (me_l (me_l (me_l (me_l (me_l (me_l (List.mem_of_getElem? (i := 0) rfl))))))))) (fun _ h => h) rfl dX11_units_1 ?_
  refine lv_iload_n hx hb dX11_units_4 rfl (lv_at hl 1 rfl) ?_
  refine z_ci hW hS hA (va_runV (As := [.int a1]) (rest := []) ⟨hx, hb, hml, hown, hts⟩ (sx_X2_has_e l G ad c I ⟨(by show 0 ≤ (I 1 5).toInt ∧ (I 1 5).toInt ≤ 30; exact hH.1), (by show 0 ≤ (I 1 11).toInt ∧ (I 1 11).toInt ≤ 200; exact hH.2)⟩ a1 _) (cwV 1 hts gX11_units_X2_has rfl rfl rfl (by decide +kernel) ⟨Nat.le_of_ble_eq_true rfl, Nat.le_of_ble_eq_true rfl⟩) (z_preV (i := 1) hK hW rfl rfl) rfl rfl hl.1 rfl (lv_room (Nat.le_of_ble_eq_true rfl)) dX11_units_5 ⟨Nat.le_of_ble_eq_true rfl, Nat.le_of_ble_eq_true rfl⟩) (fun r u1 H locs hp hW hS => ?_)
  obtain ⟨e9, hp⟩ := hp
  rw [e9] at hW
  rcases hp with ⟨rfl, h1⟩ | ⟨rfl, h1⟩
  · have h2 := h1
    have r3 : 0 ≤ (I 1 5).toInt ∧ (I 1 5).toInt ≤ 30 := hH.1
    refine lv_if_eq (tgt := 25) hx hb dX11_units_8 (by decide) (fun c4 => absurd c4 (by decide)) (fun c4 => ?_)
    refine lv_iload_n hx hb dX11_units_11 rfl (lv_at hl 2 rfl) ?_
    refine z_ci hW hS hA (va_runS (As := [.int a2]) (rest := []) ⟨hx, hb, hml, hown, hts⟩ (sx_X11_isMonth_e l G ad c I  a2 _) (va_cwS 1 hts gX11_units_X11_isMonth rfl rfl rfl (by decide +kernel) ⟨Nat.le_of_ble_eq_true rfl, Nat.le_of_ble_eq_true rfl⟩) (z_preS hK hW) rfl rfl hl.1 rfl (lv_room (Nat.le_of_ble_eq_true rfl)) dX11_units_12 ⟨Nat.le_of_ble_eq_true rfl, Nat.le_of_ble_eq_true rfl⟩) (fun r u1 H locs hp hW hS => ?_)
    obtain ⟨e9, hp⟩ := hp
    rw [e9] at hW
    rcases hp with ⟨rfl, h5⟩ | ⟨rfl, h5⟩
    · have h6 := h5
      refine lv_if_eq (tgt := 25) hx hb dX11_units_15 (by decide) (fun c7 => absurd c7 (by decide)) (fun c7 => ?_)
      refine lv_iload_n hx hb dX11_units_18 rfl (lv_at hl 3 rfl) ?_
      refine z_ci hW hS hA (va_runS (As := [.int a3]) (rest := []) ⟨hx, hb, hml, hown, hts⟩ (sx_X11_isDay_e l G ad c I  a3 _) (va_cwS 1 hts gX11_units_X11_isDay rfl rfl rfl (by decide +kernel) ⟨Nat.le_of_ble_eq_true rfl, Nat.le_of_ble_eq_true rfl⟩) (z_preS hK hW) rfl rfl hl.1 rfl (lv_room (Nat.le_of_ble_eq_true rfl)) dX11_units_19 ⟨Nat.le_of_ble_eq_true rfl, Nat.le_of_ble_eq_true rfl⟩) (fun r u1 H locs hp hW hS => ?_)
      obtain ⟨e9, hp⟩ := hp
      rw [e9] at hW
      rcases hp with ⟨rfl, h8⟩ | ⟨rfl, h8⟩
      · have h9 := h8
        refine lv_if_ne (tgt := 27) hx hb dX11_units_22 (by decide) (fun c10 => ?_) (fun c10 => absurd c10 (by decide))
        refine lv_aload_n hx hb dX11_units_27 rfl (lv_at hl 0 rfl) ?_
        refine z_get (T := TX11) (N := 13) (ci := 11) (i := 0) (v := .ref (ad 21)) hx hb hts zj_X11_units_X11 hown hK hW rfl rfl 4 (by decide) (hts (.fieldLink RX11 30 "PetrolBoard" "orderBook" "LPetrolBoard$OrderBook;") (me_s (me_l (me_l (me_l (me_l (me_l (me_l (List.mem_of_getElem? (i := 1) rfl))))))))) (fun _ h => h) rfl dX11_units_28 ?_
        refine lv_aload_n hx hb dX11_units_31 rfl (lv_at hl 0 rfl) ?_
        refine z_get (T := TX11) (N := 13) (ci := 11) (i := 0) (v := .ref (ad 1)) hx hb hts zj_X11_units_X11 hown hK hW rfl rfl 2 (by decide) (hts (.fieldLink RX11 16 "PetrolBoard" "holders" "LPetrolBoard$Holders;") (me_s (me_l (me_l (me_l (me_l (me_l (me_l (List.mem_of_getElem? (i := 0) rfl))))))))) (fun _ h => h) rfl dX11_units_32 ?_
        refine lv_iload_n hx hb dX11_units_35 rfl (lv_at hl 1 rfl) ?_
        refine lv_iload_n hx hb dX11_units_36 rfl (lv_at hl 2 rfl) ?_
        refine lv_iload_n hx hb dX11_units_37 rfl (lv_at hl 3 rfl) ?_
        refine z_ci hW hS hA (va_runV (As := [.ref (ad 1), .int a1, .int a2, .int a3]) (rest := []) ⟨hx, hb, hml, hown, hts⟩ (sx_X6_unitsOf_x l G ad c I (by show 0 ≤ (I 21 2).toInt ∧ (I 21 2).toInt ≤ 12; exact hO) ⟨(by show 0 ≤ (I 1 5).toInt ∧ (I 1 5).toInt ≤ 30; exact hH.1), (by show 0 ≤ (I 1 11).toInt ∧ (I 1 11).toInt ≤ 200; exact hH.2)⟩ SS a1 a2 a3 hc hWu (by omega) (by omega) _) (cwV 4 hts gX11_units_X6_unitsOf rfl rfl rfl (by decide +kernel) ⟨Nat.le_of_ble_eq_true rfl, Nat.le_of_ble_eq_true rfl⟩) (z_preV (i := 21) hK hW rfl rfl) rfl rfl hl.1 rfl (lv_room (Nat.le_of_ble_eq_true rfl)) dX11_units_38 ⟨Nat.le_of_ble_eq_true rfl, Nat.le_of_ble_eq_true rfl⟩) (fun r u1 H locs hp hW hS => ?_)
        obtain ⟨I11, e9, hI11O, hI11H, fI11, hp⟩ := hp
        rw [e9] at hW
        have f12 := z_fr_sub (L := L_X11_units_x) z_fr_0 fI11 (by decide)
        refine lv_topi (fun x13 ex13 => ?_)
        rw [← ex13] at hp
        have hU14 := hp
        exact z_iret hx hb hr hK hS (Nat.le_of_ble_eq_true rfl) (Nat.le_of_ble_eq_true rfl) hlocks dX11_units_41 (shC c, ad, I11, JX, PC c ad) hW ⟨I11, rfl, (by show 0 ≤ (I11 21 2).toInt ∧ (I11 21 2).toInt ≤ 12; exact hI11O), ⟨(by show 0 ≤ (I11 1 5).toInt ∧ (I11 1 5).toInt ≤ 30; exact hI11H.1), (by show 0 ≤ (I11 1 11).toInt ∧ (I11 1 11).toInt ≤ 200; exact hI11H.2)⟩, f12, (Or.inl ⟨by omega, hU14⟩)⟩
      · have h15 := h8
        refine lv_if_ne (tgt := 27) hx hb dX11_units_22 (by decide) (fun c16 => absurd (by decide) c16) (fun c16 => ?_)
        refine lv_iconst (v := (-1)) hx hb dX11_units_25 (by decide) ?_
        exact z_iret hx hb hr hK hS (Nat.le_of_ble_eq_true rfl) (Nat.le_of_ble_eq_true rfl) hlocks dX11_units_26 (shC c, ad, I, JX, PC c ad) hW ⟨I, rfl, (by show 0 ≤ (I 21 2).toInt ∧ (I 21 2).toInt ≤ 12; exact hO), ⟨(by show 0 ≤ (I 1 5).toInt ∧ (I 1 5).toInt ≤ 30; exact hH.1), (by show 0 ≤ (I 1 11).toInt ∧ (I 1 11).toInt ≤ 200; exact hH.2)⟩, z_fr_0, (Or.inr ⟨by omega, by decide⟩)⟩
    · have h17 := h5
      refine lv_if_eq (tgt := 25) hx hb dX11_units_15 (by decide) (fun c18 => ?_) (fun c18 => absurd (by decide) c18)
      refine lv_iconst (v := (-1)) hx hb dX11_units_25 (by decide) ?_
      exact z_iret hx hb hr hK hS (Nat.le_of_ble_eq_true rfl) (Nat.le_of_ble_eq_true rfl) hlocks dX11_units_26 (shC c, ad, I, JX, PC c ad) hW ⟨I, rfl, (by show 0 ≤ (I 21 2).toInt ∧ (I 21 2).toInt ≤ 12; exact hO), ⟨(by show 0 ≤ (I 1 5).toInt ∧ (I 1 5).toInt ≤ 30; exact hH.1), (by show 0 ≤ (I 1 11).toInt ∧ (I 1 11).toInt ≤ 200; exact hH.2)⟩, z_fr_0, (Or.inr ⟨by omega, by decide⟩)⟩
  · have h19 := h1
    have r20 : 0 ≤ (I 1 5).toInt ∧ (I 1 5).toInt ≤ 30 := hH.1
    refine lv_if_eq (tgt := 25) hx hb dX11_units_8 (by decide) (fun c21 => ?_) (fun c21 => absurd (by decide) c21)
    refine lv_iconst (v := (-1)) hx hb dX11_units_25 (by decide) ?_
    exact z_iret hx hb hr hK hS (Nat.le_of_ble_eq_true rfl) (Nat.le_of_ble_eq_true rfl) hlocks dX11_units_26 (shC c, ad, I, JX, PC c ad) hW ⟨I, rfl, (by show 0 ≤ (I 21 2).toInt ∧ (I 21 2).toInt ≤ 12; exact hO), ⟨(by show 0 ≤ (I 1 5).toInt ∧ (I 1 5).toInt ≤ 30; exact hH.1), (by show 0 ≤ (I 1 11).toInt ∧ (I 1 11).toInt ≤ 200; exact hH.2)⟩, z_fr_0, (Or.inr ⟨by omega, by decide⟩)⟩
end SG60z4
