

/-! the STATIONS' own fields -/
/-- nothing of ORDERS' copies changes -/
noncomputable def z_hi (K I : z_I) : Prop := ∀ a k, 200 ≤ a → K a k = I a k
theorem z_hi_fr {K I : z_I} {L : z_L} (hf : z_fr L K I) (hL : L.all (fun e => decide (e.1 < 100)) = true) : z_hi K I := fun a k ha => by
  have hw : z_wr L a k = false := by
    cases hz : z_wr L a k with
    | false => rfl
    | true =>
      exfalso
      unfold z_wr at hz
      rw [List.any_eq_true] at hz
      obtain ⟨e, he, h2⟩ := hz
      rw [List.all_eq_true] at hL
      have h3 := hL e he
      simp only [z_ce, Bool.and_eq_true, Bool.or_eq_true, beq_iff_eq, decide_eq_true_eq] at h2 h3
      omega
  exact hf _ _ hw
noncomputable def z_sk (K I : z_I) : Prop := (∀ q k, q < 10 → K (100 + 8 * q) k = I (100 + 8 * q) k) ∧ z_hi K I
theorem z_sk_0 {I : z_I} : z_sk I I := ⟨fun _ _ _ => rfl, fun _ _ _ => rfl⟩
theorem z_sk_t {K I I0 : z_I} (h1 : z_sk K I) (h2 : z_sk I I0) : z_sk K I0 := ⟨fun q k hq => (h1.1 q k hq).trans (h2.1 q k hq), fun a k ha => (h1.2 a k ha).trans (h2.2 a k ha)⟩
theorem z_sk_a {K I I0 : z_I} {r i j : Nat} {v : Int32} (h : z_sk I I0) (hi : 1 ≤ i ∧ i ≤ 7) (hr : r < 10) (e : K = z_up I (100 + 8 * r + i) j v) : z_sk K I0 := by
  refine ⟨fun q k hq => ?_, fun b k hb => ?_⟩
  · rw [e, z_up_n (by omega)]
    exact h.1 q k hq
  · rw [e, z_up_n (by omega)]
    exact h.2 b k hb
noncomputable def z_sn (I1 I : z_I) (n : Nat) : Prop := (∀ q f, q < 10 → I1 (100 + 8 * q) f = if q = n then 0 else I (100 + 8 * q) f) ∧ z_hi I1 I
theorem z_sn_of {c : z_C} {I I2 : z_I} {y : Int32} (h10 : c.1 < 10) (e : I2 = z_up (z_I8 I (z_i0 c)) 0 8 y) : z_sn I2 I c.1 := by
  refine ⟨fun q f hq => ?_, fun a k ha => ?_⟩
  · rw [e, z_up_n (by omega)]
    unfold z_I8 z_i0
    by_cases h : q = c.1
    · rw [if_pos (by omega), if_pos h]
    · rw [if_neg (by omega), if_neg h]
  · rw [e, z_up_n (by omega)]
    unfold z_I8 z_i0
    rw [if_neg (by omega)]
noncomputable def z_dl (I1 I : z_I) (k : Nat) (t : Int32) : Prop := (∀ q f, q < 10 → I1 (100 + 8 * q) f = if q = k ∧ f = 5 then I (100 + 8 * k) 5 + 1 else if q = k ∧ f = 6 then I (100 + 8 * k) 6 + t else I (100 + 8 * q) f) ∧ z_hi I1 I
theorem z_dl_of {I I1 I2 : z_I} {k : Nat} {t x y : Int32} (h10 : k < 10) (e1 : I1 = z_up I (100 + 8 * k) 5 x) (e2 : I2 = z_up I1 (100 + 8 * k) 6 y) (hx : x = I (100 + 8 * k) 5 + 1) (hy : y = I (100 + 8 * k) 6 + t) : z_dl I2 I k t := by
  refine ⟨fun q f hq => ?_, fun a k ha => by rw [e2, e1, z_up_n (by omega), z_up_n (by omega)]⟩
  rw [e2, e1, hx, hy]
  by_cases hk : q = k
  · subst hk
    by_cases f6 : f = 6
    · subst f6
      rw [z_up_s, if_neg (by omega), if_pos ⟨rfl, rfl⟩]
    · rw [z_up_k f6]
      by_cases f5 : f = 5
      · subst f5
        rw [z_up_s, if_pos ⟨rfl, rfl⟩]
      · rw [z_up_k f5, if_neg (fun z => f5 z.2), if_neg (fun z => f6 z.2)]
  · rw [z_up_n (by omega), z_up_n (by omega), if_neg (fun z => hk z.1), if_neg (fun z => hk z.1)]
noncomputable def z_dp (I1 I : z_I) (k : Nat) : Prop := (∀ q f, q < 10 → I1 (100 + 8 * q) f = if q = k ∧ f = 4 then I (100 + 8 * k) 4 + 1 else I (100 + 8 * q) f) ∧ z_hi I1 I
theorem z_dp_of {I I1 I2 : z_I} {k : Nat} {x : Int32} (h10 : k < 10) (h : z_sk I1 I) (e2 : I2 = z_up I1 (100 + 8 * k) 4 x) (hx : x = I (100 + 8 * k) 4 + 1) : z_dp I2 I k := by
  refine ⟨fun q f hq => ?_, fun a k ha => by rw [e2, z_up_n (by omega)]; exact h.2 a k ha⟩
  rw [e2, hx]
  by_cases hk : q = k ∧ f = 4
  · rw [hk.1, hk.2, z_up_s, if_pos ⟨rfl, rfl⟩]
  · rw [if_neg hk]
    by_cases h1 : q = k
    · rw [h1, z_up_k (fun z => hk ⟨h1, z⟩)]
      exact h.1 k f (by omega)
    · rw [z_up_n (by omega)]
      exact h.1 q f hq
noncomputable def L_X11_putBounds_s : z_L := [(1000, 999)]
set_option maxHeartbeats 8000000 in
set_option maxRecDepth 100000 in
theorem sx_X11_putBounds_s (l : Launch) (G : z_G) (ad : Nat → Nat) (c : z_C) (I : z_I) (hO : z_iO I) (hB : z_iB I) (k : Nat) (a2 : Int32) (a3 : Int32) (a4 : Int32) (hk : k < c.1) (h10 : c.1 ≤ 10) (hc : z_okc c) (hS0 : z_iS c I) : z_MvS l yX11_putBounds wsX11_putBounds { frames := 5, cells := 0, slots := 0, locals := 111 } [.ref (ad 0), .ref (ad (100 + 8 * k)), .int a2, .int a3, .int a4] G (shC c, ad, I, JX, PC c ad) (fun u1 => ∃ I1 : z_I, u1 = (shC c, ad, I1, JX, PC c ad) ∧ z_iO I1 ∧ z_iB I1 ∧ z_fr L_X11_putBounds_s I1 I ∧ z_iS c I1 ∧ z_sk I1 I) 0 0 := by
  intro sz
  refine z_headS (cc := cX11_putBounds) (maxL := 7) (ret := none) (by decide) rfl (Nat.le_of_ble_eq_true rfl) ?_
  intro p e s m below meth c0 ls hIn hK hsz hW hl hSt
  obtain ⟨hx, hb, hr, hml, hown, hts, hlocks, hname⟩ := hIn
  subst hsz
  have hown : s.vm.findClass RX11 = some m.cls := hown
  have hA : ∀ q : Nat, s.heap.size ≤ q → z_A (shC c, ad, I, JX, PC c ad) s.heap.size q := fun q h => Or.inr h
  generalize hAe : z_A (shC c, ad, I, JX, PC c ad) s.heap.size = A at *
  have hS : va_S A s.heap s.heap [] := va_S.rf
  have hl : lv_has ls 7 [(0, .ref (ad 0)), (1, .ref (ad (100 + 8 * k))), (2, .int a2), (3, .int a3), (4, .int a4)] := hl
  refine lv_iload_n hx hb dX11_putBounds_0 rfl (lv_at hl 3 rfl) ?_
  refine lv_iconst (v := 0) hx hb dX11_putBounds_1 (by decide) ?_
  refine va_mmax (x := a3) (y := 0) hx hb (hml.trans hl.1.symm) hown (hts (.methodLink RX11 274 Lib.Math.max.name) (me_s (me_l (me_l (me_l (me_l (me_l (me_l (List.mem_of_getElem? (i := 0) rfl))))))))) (hts (.static Lib.Math.max.name) (me_s (me_l (me_l (me_l (me_l (me_l (me_l (List.mem_of_getElem? (i := 1) rfl))))))))) (hts (.initialized "java/lang/Math") (me_s (me_l (me_l (me_l (me_l (me_l (me_l (List.mem_of_getElem? (i := 2) rfl))))))))) (hts (.code Lib.Math.max.name Lib.Math.max.code 2 (some .int)) (me_s (me_l (me_l (me_l (me_l (me_l (me_l (List.mem_of_getElem? (i := 3) rfl))))))))) (Nat.le_of_ble_eq_true rfl) (Nat.le_of_ble_eq_true rfl) (Nat.le_of_ble_eq_true rfl) (Nat.le_of_ble_eq_true rfl) dX11_putBounds_2 ?_
  refine lv_topi (fun x1 ex1 => ?_)
  have tx1 := z_tmmax ex1 rfl z_l0
  refine lv_istore (lv' := [(5, .int x1), (0, .ref (ad 0)), (1, .ref (ad (100 + 8 * k))), (2, .int a2), (3, .int a3), (4, .int a4)]) hx hb dX11_putBounds_5 hl (by decide) rfl (fun ls hl => ?_)
  have lp2 : ∀ (f : Nat) (y3 : Int32) (I4 : z_I) (H : Heap) (locs : List Loc) (ls : Array Slot), (2147483647 < y3.toInt + (f : Int)) → (0 ≤ y3.toInt) → (z_iO I4) → (z_iB I4) → (x1.toInt ≤ y3.toInt) → (z_iS c I4) → (z_sk I4 I) → (z_fr L_X11_putBounds_s I4 I) → z_W G A (shC c, ad, I4, JX, PC c ad) H → va_S A s.heap H locs → lv_has ls 7 [(5, .int y3), (0, .ref (ad 0)), (1, .ref (ad (100 + 8 * k))), (2, .int a2), (3, .int a3), (4, .int a4)] → W p l e (headSpec wsX11_putBounds { frames := 5, cells := 0, slots := 0, locals := 111 }).room s m ([.ref (ad 0), .ref (ad (100 + 8 * k)), .int a2, .int a3, .int a4] : List Value).toArray below meth c0 H locs 0 0 (MQ below (va_Qv (fun (u1 : z_U) => ∃ I1 : z_I, u1 = (shC c, ad, I1, JX, PC c ad) ∧ z_iO I1 ∧ z_iB I1 ∧ z_fr L_X11_putBounds_s I1 I ∧ z_iS c I1 ∧ z_sk I1 I) (z_B G A) A) ([.ref (ad 0), .ref (ad (100 + 8 * k)), .int a2, .int a3, .int a4] : List Value).toArray s 0 0 A) (F0 m 7 ls []) := by
    intro f
    induction f with
    | zero => intro y3 I4  H locs ls lp2m lp2l5 lp2O lp2B lp2z lp2S lp2SS lp2fr hW hS hl; exact absurd lp2m (by have := Int32.toInt_lt y3; have := Int32.le_toInt y3; omega)
    | succ f lp2ih =>
      intro y3 I4  H locs ls lp2m lp2l5 lp2O lp2B lp2z lp2S lp2SS lp2fr hW hS hl
      refine lv_iload hx hb dX11_putBounds_7 (lv_at hl 0 rfl) ?_
      refine lv_iload hx hb dX11_putBounds_9 (lv_at hl 5 rfl) ?_
      refine lv_icmp_gt (tgt := 115) hx hb dX11_putBounds_11 (by decide) (fun c5 => ?_) (fun c5 => ?_)
      · have g6 := z_f_gt rfl rfl c5
        have b7 := Int32.toInt_lt y3
        have b8 := Int32.toInt_lt a4
        exact z_vret hx hb hr hK hS (Nat.le_of_ble_eq_true rfl) (Nat.le_of_ble_eq_true rfl) hlocks dX11_putBounds_115 (shC c, ad, I4, JX, PC c ad) hW ⟨I4, rfl, (by show 0 ≤ (I4 21 2).toInt ∧ (I4 21 2).toInt ≤ 12; exact lp2O), ⟨(by show 0 ≤ (I4 0 0).toInt ∧ (I4 0 0).toInt ≤ 719; exact lp2B.1), (by show 0 ≤ (I4 0 8).toInt ∧ (I4 0 8).toInt ≤ 10; exact lp2B.2)⟩, lp2fr, lp2S, lp2SS⟩
      · have g9 := z_f_ngt rfl rfl c5
        have b10 := Int32.toInt_lt y3
        have b11 := Int32.toInt_lt a4
        refine lv_iload hx hb dX11_putBounds_14 (lv_at hl 0 rfl) ?_
        refine lv_bipush (v := 30) hx hb dX11_putBounds_16 (by decide) ?_
        refine lv_icmp_ge (tgt := 115) hx hb dX11_putBounds_18 (by decide) (fun c12 => ?_) (fun c12 => ?_)
        · have g13 := z_f_ge rfl z_l30 c12
          exact z_vret hx hb hr hK hS (Nat.le_of_ble_eq_true rfl) (Nat.le_of_ble_eq_true rfl) hlocks dX11_putBounds_115 (shC c, ad, I4, JX, PC c ad) hW ⟨I4, rfl, (by show 0 ≤ (I4 21 2).toInt ∧ (I4 21 2).toInt ≤ 12; exact lp2O), ⟨(by show 0 ≤ (I4 0 0).toInt ∧ (I4 0 0).toInt ≤ 719; exact lp2B.1), (by show 0 ≤ (I4 0 8).toInt ∧ (I4 0 8).toInt ≤ 10; exact lp2B.2)⟩, lp2fr, lp2S, lp2SS⟩
        · have g14 := z_f_nge rfl z_l30 c12
          refine lv_aload_n hx hb dX11_putBounds_21 rfl (lv_at hl 1 rfl) ?_
          refine z_get (T := TX11) (N := 13) (ci := 11) (i := 0) (v := .ref (ad 21)) hx hb hts zj_X11_putBounds_X11 hown hK hW rfl rfl 4 (by decide) (hts (.fieldLink RX11 30 "PetrolBoard" "orderBook" "LPetrolBoard$OrderBook;") (me_s (me_l (me_l (me_l (me_l (me_l (me_l (List.mem_of_getElem? (i := 4) rfl))))))))) (fun _ h => h) rfl dX11_putBounds_22 ?_
          refine lv_iconst (v := 4) hx hb dX11_putBounds_25 (by decide) ?_
          refine lv_aload_n hx hb dX11_putBounds_26 rfl (lv_at hl 2 rfl) ?_
          refine z_get (T := TX10) (N := 10) (ci := 10) (i := (100 + 8 * k)) (v := .ref (ad (100 + 8 * k + 2))) hx hb hts zj_X11_putBounds_X10 hown hK hW (z_ss0 hk h10) rfl 1 (by decide) (hts (.fieldLink RX11 246 "PetrolBoard$Station" "dipDay" "[I") (me_s (me_l (me_l (me_l (me_l (me_l (me_l (List.mem_of_getElem? (i := 5) rfl))))))))) (fun _ h => h) (z_pS hk h10 rfl rfl) dX11_putBounds_27 ?_
          refine lv_iload hx hb dX11_putBounds_30 (lv_at hl 0 rfl) ?_
          refine z_iald (i := (100 + 8 * k + 2)) hx hb hK hW (z_ssj hk h10 (by decide)) (z_ix rfl (by omega) (by omega)) dX11_putBounds_32 ?_
          refine lv_topi (fun x15 ex15 => ?_)
          refine lv_bipush (v := 30) hx hb dX11_putBounds_33 (by decide) ?_
          refine lv_idiv hx hb dX11_putBounds_35 (by decide) ?_
          refine lv_topi (fun x16 ex16 => ?_)
          have tx16 := z_tdiv ex16 rfl z_l30 (by decide)
          refine lv_aload_n hx hb dX11_putBounds_36 rfl (lv_at hl 1 rfl) ?_
          have r17 : 0 ≤ (I4 0 0).toInt ∧ (I4 0 0).toInt ≤ 719 := lp2B.1
          refine z_get (T := TX11) (N := 13) (ci := 11) (i := 0) (v := .int (I4 0 0)) hx hb hts zj_X11_putBounds_X11 hown hK hW rfl rfl 0 (by decide) (hts (.fieldLink RX11 85 "PetrolBoard" "today" "I") (me_s (me_l (me_l (me_l (me_l (me_l (me_l (List.mem_of_getElem? (i := 6) rfl))))))))) (fun _ h => h) rfl dX11_putBounds_37 ?_
          refine z_ci hW hS hA (va_runV (As := [.int 4, .int x16, .int (I4 0 0)]) (rest := []) ⟨hx, hb, hml, hown, hts⟩ (sx_X6_amount l G ad c I4 (by show 0 ≤ (I4 21 2).toInt ∧ (I4 21 2).toInt ≤ 12; exact lp2O) 4 x16 (I4 0 0) hc _) (cwV 3 hts gX11_putBounds_X6_amount rfl rfl rfl (by decide +kernel) ⟨Nat.le_of_ble_eq_true rfl, Nat.le_of_ble_eq_true rfl⟩) (z_preVS (i := 21) hK hW hS hA hSt rfl rfl) rfl rfl hl.1 rfl (lv_room (Nat.le_of_ble_eq_true rfl)) dX11_putBounds_40 ⟨Nat.le_of_ble_eq_true rfl, Nat.le_of_ble_eq_true rfl⟩) (fun r u1 H locs hp hW hS => ?_)
          rw [hp] at hW
          refine lv_topi (fun x18 ex18 => ?_)
          refine lv_istore (lv' := [(6, .int x18), (5, .int y3), (0, .ref (ad 0)), (1, .ref (ad (100 + 8 * k))), (2, .int a2), (3, .int a3), (4, .int a4)]) hx hb dX11_putBounds_43 hl (by decide) rfl (fun ls hl => ?_)
          refine lv_aload_n hx hb dX11_putBounds_45 rfl (lv_at hl 3 rfl) ?_
          refine z_get (T := TX10) (N := 10) (ci := 10) (i := (100 + 8 * k)) (v := .ref (ad (100 + 8 * k + 5))) hx hb hts zj_X11_putBounds_X10 hown hK hW (z_ss0 hk h10) rfl 7 (by decide) (hts (.fieldLink RX11 279 "PetrolBoard$Station" "low" "[I") (me_s (me_l (me_l (me_l (me_l (me_l (me_l (List.mem_of_getElem? (i := 7) rfl))))))))) (fun _ h => h) (z_pS hk h10 rfl rfl) dX11_putBounds_46 ?_
          refine lv_iload hx hb dX11_putBounds_49 (lv_at hl 1 rfl) ?_
          refine lv_iconst (v := 0) hx hb dX11_putBounds_51 (by decide) ?_
          refine lv_aload_n hx hb dX11_putBounds_52 rfl (lv_at hl 3 rfl) ?_
          refine z_get (T := TX10) (N := 10) (ci := 10) (i := (100 + 8 * k)) (v := .ref (ad (100 + 8 * k + 1))) hx hb hts zj_X11_putBounds_X10 hown hK hW (z_ss0 hk h10) rfl 0 (by decide) (hts (.fieldLink RX11 282 "PetrolBoard$Station" "told" "[I") (me_s (me_l (me_l (me_l (me_l (me_l (me_l (List.mem_of_getElem? (i := 8) rfl))))))))) (fun _ h => h) (z_pS hk h10 rfl rfl) dX11_putBounds_53 ?_
          refine lv_iload hx hb dX11_putBounds_56 (lv_at hl 1 rfl) ?_
          refine z_iald (i := (100 + 8 * k + 1)) hx hb hK hW (z_ssj hk h10 (by decide)) (z_ix rfl (by omega) (by omega)) dX11_putBounds_58 ?_
          refine lv_topi (fun x19 ex19 => ?_)
          refine lv_iload hx hb dX11_putBounds_59 (lv_at hl 0 rfl) ?_
          refine lv_isub hx hb dX11_putBounds_61 ?_
          refine lv_topi (fun x20 ex20 => ?_)
          refine va_mmax (x := 0) (y := x20) hx hb (hml.trans hl.1.symm) hown (hts (.methodLink RX11 274 Lib.Math.max.name) (me_s (me_l (me_l (me_l (me_l (me_l (me_l (List.mem_of_getElem? (i := 0) rfl))))))))) (hts (.static Lib.Math.max.name) (me_s (me_l (me_l (me_l (me_l (me_l (me_l (List.mem_of_getElem? (i := 1) rfl))))))))) (hts (.initialized "java/lang/Math") (me_s (me_l (me_l (me_l (me_l (me_l (me_l (List.mem_of_getElem? (i := 2) rfl))))))))) (hts (.code Lib.Math.max.name Lib.Math.max.code 2 (some .int)) (me_s (me_l (me_l (me_l (me_l (me_l (me_l (List.mem_of_getElem? (i := 3) rfl))))))))) (Nat.le_of_ble_eq_true rfl) (Nat.le_of_ble_eq_true rfl) (Nat.le_of_ble_eq_true rfl) (Nat.le_of_ble_eq_true rfl) dX11_putBounds_62 ?_
          refine lv_topi (fun x21 ex21 => ?_)
          have tx21 := z_tmmax ex21 z_l0 rfl
          refine z_iast (i := (100 + 8 * k + 5)) hx hb hK hW hS (z_ssj hk h10 (by decide)) (z_ix rfl (by omega) (by omega)) dX11_putBounds_65 (fun H locs hz1 hW hS => ?_)
          obtain ⟨I22, eI22⟩ : ∃ K : z_I, K = z_up I4 (100 + 8 * k + 5) y3.toNatClampNeg x21 := ⟨_, rfl⟩
          rw [← eI22] at hW
          have f23 := z_fr_a lp2fr (z_wad (L := L_X11_putBounds_s) (by decide) (by omega)) eI22
          have hS24 := z_iS_a lp2S (by decide) eI22
          have hZ25 := z_sk_a lp2SS (by decide) (by omega) eI22
          refine lv_aload_n hx hb dX11_putBounds_66 rfl (lv_at hl 3 rfl) ?_
          refine z_get (T := TX10) (N := 10) (ci := 10) (i := (100 + 8 * k)) (v := .ref (ad (100 + 8 * k + 6))) hx hb hts zj_X11_putBounds_X10 hown hK hW (z_ss0 hk h10) rfl 8 (by decide) (hts (.fieldLink RX11 285 "PetrolBoard$Station" "high" "[I") (me_s (me_l (me_l (me_l (me_l (me_l (me_l (List.mem_of_getElem? (i := 9) rfl))))))))) (fun _ h => h) (z_pS hk h10 rfl rfl) dX11_putBounds_67 ?_
          refine lv_iload hx hb dX11_putBounds_70 (lv_at hl 1 rfl) ?_
          refine lv_aload_n hx hb dX11_putBounds_72 rfl (lv_at hl 3 rfl) ?_
          refine z_get (T := TX10) (N := 10) (ci := 10) (i := (100 + 8 * k)) (v := .ref (ad (100 + 8 * k + 1))) hx hb hts zj_X11_putBounds_X10 hown hK hW (z_ss0 hk h10) rfl 0 (by decide) (hts (.fieldLink RX11 282 "PetrolBoard$Station" "told" "[I") (me_s (me_l (me_l (me_l (me_l (me_l (me_l (List.mem_of_getElem? (i := 8) rfl))))))))) (fun _ h => h) (z_pS hk h10 rfl rfl) dX11_putBounds_73 ?_
          refine lv_iload hx hb dX11_putBounds_76 (lv_at hl 1 rfl) ?_
          refine z_iald (i := (100 + 8 * k + 1)) hx hb hK hW (z_ssj hk h10 (by decide)) (z_ix rfl (by omega) (by omega)) dX11_putBounds_78 ?_
          refine z_topi (v := x19) (by rw [eI22, z_up_n (by omega)]; exact ex19.symm) ?_
          refine lv_iload hx hb dX11_putBounds_79 (lv_at hl 0 rfl) ?_
          refine lv_iadd hx hb dX11_putBounds_81 ?_
          refine lv_topi (fun x26 ex26 => ?_)
          refine z_iast (i := (100 + 8 * k + 6)) hx hb hK hW hS (z_ssj hk h10 (by decide)) (z_ix rfl (by omega) (by omega)) dX11_putBounds_82 (fun H locs hz1 hW hS => ?_)
          obtain ⟨I27, eI27⟩ : ∃ K : z_I, K = z_up I22 (100 + 8 * k + 6) y3.toNatClampNeg x26 := ⟨_, rfl⟩
          rw [← eI27] at hW
          have f28 := z_fr_a f23 (z_wad (L := L_X11_putBounds_s) (by decide) (by omega)) eI27
          have hS29 := z_iS_a hS24 (by decide) eI27
          have hZ30 := z_sk_a hZ25 (by decide) (by omega) eI27
          refine lv_aload_n hx hb dX11_putBounds_83 rfl (lv_at hl 3 rfl) ?_
          refine z_get (T := TX10) (N := 10) (ci := 10) (i := (100 + 8 * k)) (v := .ref (ad (100 + 8 * k + 7))) hx hb hts zj_X11_putBounds_X10 hown hK hW (z_ss0 hk h10) rfl 9 (by decide) (hts (.fieldLink RX11 288 "PetrolBoard$Station" "in" "[I") (me_s (me_l (me_l (me_l (me_l (me_l (me_l (List.mem_of_getElem? (i := 10) rfl))))))))) (fun _ h => h) (z_pS hk h10 rfl rfl) dX11_putBounds_84 ?_
          refine lv_iload hx hb dX11_putBounds_87 (lv_at hl 1 rfl) ?_
          refine lv_iload hx hb dX11_putBounds_89 (lv_at hl 1 rfl) ?_
          refine lv_iload hx hb dX11_putBounds_91 (lv_at hl 6 rfl) ?_
          refine lv_icmp_ge (tgt := 107) hx hb dX11_putBounds_93 (by decide) (fun c31 => ?_) (fun c31 => ?_)
          · have g32 := z_f_ge rfl rfl c31
            refine lv_iconst (v := 0) hx hb dX11_putBounds_107 (by decide) ?_
            refine z_iast (i := (100 + 8 * k + 7)) hx hb hK hW hS (z_ssj hk h10 (by decide)) (z_ix rfl (by omega) (by omega)) dX11_putBounds_108 (fun H locs hz1 hW hS => ?_)
            obtain ⟨I33, eI33⟩ : ∃ K : z_I, K = z_up I27 (100 + 8 * k + 7) y3.toNatClampNeg 0 := ⟨_, rfl⟩
            rw [← eI33] at hW
            have f34 := z_fr_a f28 (z_wad (L := L_X11_putBounds_s) (by decide) (by omega)) eI33
            have hS35 := z_iS_a hS29 (by decide) eI33
            have hZ36 := z_sk_a hZ30 (by decide) (by omega) eI33
            obtain ⟨x37, ex37⟩ : ∃ y : Int32, y = y3 + 1 := ⟨_, rfl⟩
            have tx37 : x37.toInt = y3.toInt + 1 := z_tadd ex37 rfl z_l1 (by omega) (by omega)
            refine lv_iinc (v := x37) (lv' := [(5, .int x37), (6, .int x18), (0, .ref (ad 0)), (1, .ref (ad (100 + 8 * k))), (2, .int a2), (3, .int a3), (4, .int a4)]) hx hb dX11_putBounds_109 hl (k := 1) rfl (by rw [ex37]; rfl) (by decide) rfl (fun ls hl => ?_)
            refine lv_goto (tgt := 7) hx hb dX11_putBounds_112 (by decide) ?_
            exact lp2ih x37 I33  _ _ _ (by omega) (by omega) (by show 0 ≤ (I33 21 2).toInt ∧ (I33 21 2).toInt ≤ 12; rw [eI33, z_up_n (by omega), eI27, z_up_n (by omega), eI22, z_up_n (by omega)]; exact lp2O) ⟨(by show 0 ≤ (I33 0 0).toInt ∧ (I33 0 0).toInt ≤ 719; rw [eI33, z_up_n (by omega), eI27, z_up_n (by omega), eI22, z_up_n (by omega)]; exact lp2B.1), (by show 0 ≤ (I33 0 8).toInt ∧ (I33 0 8).toInt ≤ 10; rw [eI33, z_up_n (by omega), eI27, z_up_n (by omega), eI22, z_up_n (by omega)]; exact lp2B.2)⟩ (by omega) hS35 hZ36 f34 hW hS (lv_sub hl [0, 2, 3, 4, 5, 6] rfl)
          · have g38 := z_f_nge rfl rfl c31
            refine lv_aload_n hx hb dX11_putBounds_96 rfl (lv_at hl 2 rfl) ?_
            refine lv_aload_n hx hb dX11_putBounds_97 rfl (lv_at hl 3 rfl) ?_
            refine lv_iload_n hx hb dX11_putBounds_98 rfl (lv_at hl 4 rfl) ?_
            refine lv_iload hx hb dX11_putBounds_99 (lv_at hl 1 rfl) ?_
            refine z_ci hW hS hA (va_runV (As := [.ref (ad (100 + 8 * k)), .int a2, .int y3]) (rest := [.int y3, .ref (ad (100 + 8 * k + 7))]) ⟨hx, hb, hml, hown, hts⟩ (sx_X11_inBehind l G ad c I27 (by show 0 ≤ (I27 21 2).toInt ∧ (I27 21 2).toInt ≤ 12; rw [eI27, z_up_n (by omega), eI22, z_up_n (by omega)]; exact lp2O) ⟨(by show 0 ≤ (I27 0 0).toInt ∧ (I27 0 0).toInt ≤ 719; rw [eI27, z_up_n (by omega), eI22, z_up_n (by omega)]; exact lp2B.1), (by show 0 ≤ (I27 0 8).toInt ∧ (I27 0 8).toInt ≤ 10; rw [eI27, z_up_n (by omega), eI22, z_up_n (by omega)]; exact lp2B.2)⟩ k a2 y3 hk h10 hc (by omega) hS29 _) (cwV 3 hts gX11_putBounds_X11_inBehind rfl rfl rfl (by decide +kernel) ⟨Nat.le_of_ble_eq_true rfl, Nat.le_of_ble_eq_true rfl⟩) (z_preVS (i := 0) hK hW hS hA hSt rfl rfl) rfl rfl hl.1 rfl (lv_room (Nat.le_of_ble_eq_true rfl)) dX11_putBounds_101 ⟨Nat.le_of_ble_eq_true rfl, Nat.le_of_ble_eq_true rfl⟩) (fun r u1 H locs hp hW hS => ?_)
            rw [hp] at hW
            refine lv_topi (fun x39 ex39 => ?_)
            refine lv_goto (tgt := 108) hx hb dX11_putBounds_104 (by decide) ?_
            refine z_iast (i := (100 + 8 * k + 7)) hx hb hK hW hS (z_ssj hk h10 (by decide)) (z_ix rfl (by omega) (by omega)) dX11_putBounds_108 (fun H locs hz1 hW hS => ?_)
            obtain ⟨I40, eI40⟩ : ∃ K : z_I, K = z_up I27 (100 + 8 * k + 7) y3.toNatClampNeg x39 := ⟨_, rfl⟩
            rw [← eI40] at hW
            have f41 := z_fr_a f28 (z_wad (L := L_X11_putBounds_s) (by decide) (by omega)) eI40
            have hS42 := z_iS_a hS29 (by decide) eI40
            have hZ43 := z_sk_a hZ30 (by decide) (by omega) eI40
            obtain ⟨x44, ex44⟩ : ∃ y : Int32, y = y3 + 1 := ⟨_, rfl⟩
            have tx44 : x44.toInt = y3.toInt + 1 := z_tadd ex44 rfl z_l1 (by omega) (by omega)
            refine lv_iinc (v := x44) (lv' := [(5, .int x44), (6, .int x18), (0, .ref (ad 0)), (1, .ref (ad (100 + 8 * k))), (2, .int a2), (3, .int a3), (4, .int a4)]) hx hb dX11_putBounds_109 hl (k := 1) rfl (by rw [ex44]; rfl) (by decide) rfl (fun ls hl => ?_)
            refine lv_goto (tgt := 7) hx hb dX11_putBounds_112 (by decide) ?_
            exact lp2ih x44 I40  _ _ _ (by omega) (by omega) (by show 0 ≤ (I40 21 2).toInt ∧ (I40 21 2).toInt ≤ 12; rw [eI40, z_up_n (by omega), eI27, z_up_n (by omega), eI22, z_up_n (by omega)]; exact lp2O) ⟨(by show 0 ≤ (I40 0 0).toInt ∧ (I40 0 0).toInt ≤ 719; rw [eI40, z_up_n (by omega), eI27, z_up_n (by omega), eI22, z_up_n (by omega)]; exact lp2B.1), (by show 0 ≤ (I40 0 8).toInt ∧ (I40 0 8).toInt ≤ 10; rw [eI40, z_up_n (by omega), eI27, z_up_n (by omega), eI22, z_up_n (by omega)]; exact lp2B.2)⟩ (by omega) hS42 hZ43 f41 hW hS (lv_sub hl [0, 2, 3, 4, 5, 6] rfl)
  exact lp2 4294967296 x1 I  _ _ _ (z_m0u _) (by omega) (by show 0 ≤ (I 21 2).toInt ∧ (I 21 2).toInt ≤ 12; exact hO) ⟨(by show 0 ≤ (I 0 0).toInt ∧ (I 0 0).toInt ≤ 719; exact hB.1), (by show 0 ≤ (I 0 8).toInt ∧ (I 0 8).toInt ≤ 10; exact hB.2)⟩ (by omega) hS0 z_sk_0 z_fr_0 hW hS (lv_sub hl [0, 1, 2, 3, 4, 5] rfl)
noncomputable def L_X11_sums_s : z_L := [(1000, 999)]
set_option maxHeartbeats 8000000 in
set_option maxRecDepth 100000 in
theorem sx_X11_sums_s (l : Launch) (G : z_G) (ad : Nat → Nat) (c : z_C) (I : z_I) (hO : z_iO I) (hB : z_iB I) (a1 : Int32) (a2 : Int32) (a3 : Int32) (a4 : Int32) (hc : z_okc c) (h10 : c.1 ≤ 10) (hS0 : z_iS c I) : z_MlS l yX11_sums wsX11_sums { frames := 6, cells := 0, slots := 0, locals := 137 } [.ref (ad 0), .int a1, .int a2, .int a3, .int a4] G (shC c, ad, I, JX, PC c ad) (fun r u1 => ∃ I1 : z_I, u1 = (shC c, ad, I1, JX, PC c ad) ∧ z_iO I1 ∧ z_iB I1 ∧ z_fr L_X11_sums_s I1 I ∧ z_iS c I1 ∧ z_sk I1 I) 0 0 := by
  intro sz
  refine z_headS (cc := cX11_sums) (maxL := 6) (ret := (some .long)) (by decide) rfl (Nat.le_of_ble_eq_true rfl) ?_
  intro p e s m below meth c0 ls hIn hK hsz hW hl hSt
  obtain ⟨hx, hb, hr, hml, hown, hts, hlocks, hname⟩ := hIn
  subst hsz
  have hown : s.vm.findClass RX11 = some m.cls := hown
  have hA : ∀ q : Nat, s.heap.size ≤ q → z_A (shC c, ad, I, JX, PC c ad) s.heap.size q := fun q h => Or.inr h
  generalize hAe : z_A (shC c, ad, I, JX, PC c ad) s.heap.size = A at *
  have hS : va_S A s.heap s.heap [] := va_S.rf
  have hl : lv_has ls 6 [(0, .ref (ad 0)), (1, .int a1), (2, .int a2), (3, .int a3), (4, .int a4)] := hl
  refine lv_aload_n hx hb dX11_sums_0 rfl (lv_at hl 0 rfl) ?_
  refine lv_iload_n hx hb dX11_sums_1 rfl (lv_at hl 1 rfl) ?_
  refine z_cq hW hS hA (va_runV (As := [.int a1]) (rest := []) ⟨hx, hb, hml, hown, hts⟩ (sx_X11_stationAt l G ad c I ⟨(by show 0 ≤ (I 0 0).toInt ∧ (I 0 0).toInt ≤ 719; exact hB.1), (by show 0 ≤ (I 0 8).toInt ∧ (I 0 8).toInt ≤ 10; exact hB.2)⟩ a1 hc h10 _) (cwV 1 hts gX11_sums_X11_stationAt rfl rfl rfl (by decide +kernel) ⟨Nat.le_of_ble_eq_true rfl, Nat.le_of_ble_eq_true rfl⟩) (z_preV (i := 0) hK hW rfl rfl) rfl rfl hl.1 rfl (lv_room (Nat.le_of_ble_eq_true rfl)) dX11_sums_2 ⟨Nat.le_of_ble_eq_true rfl, Nat.le_of_ble_eq_true rfl⟩) (fun r u1 H locs hp hW hS => ?_)
  obtain ⟨e9, hp⟩ := hp
  rw [e9] at hW
  rcases hp with rfl | ⟨k1, hk1, rfl⟩
  · refine W.eq (g2 := F0 m 5 ls (.null :: [])) rfl ?_
    refine lv_astoreN (lv' := [(5, .null), (0, .ref (ad 0)), (1, .int a1), (2, .int a2), (3, .int a3), (4, .int a4)]) hx hb dX11_sums_5 hl (by decide) rfl (fun ls hl => ?_)
    refine lv_aloadN hx hb dX11_sums_7 (lv_at hl 0 rfl) ?_
    refine lv_ifnullN (tgt := 32) hx hb dX11_sums_9 (by decide) ?_
    refine lv_ldc2 (v := (-1)) hx hb hown (hts (.constantLong RX11 261 (-1)) (me_s (me_l (me_l (me_l (me_l (me_l (me_l (List.mem_of_getElem? (i := 0) rfl))))))))) dX11_sums_32 ?_
    exact z_lret hx hb hr hK hS (Nat.le_of_ble_eq_true rfl) (Nat.le_of_ble_eq_true rfl) hlocks dX11_sums_35 (shC c, ad, I, JX, PC c ad) hW ⟨I, rfl, (by show 0 ≤ (I 21 2).toInt ∧ (I 21 2).toInt ≤ 12; exact hO), ⟨(by show 0 ≤ (I 0 0).toInt ∧ (I 0 0).toInt ≤ 719; exact hB.1), (by show 0 ≤ (I 0 8).toInt ∧ (I 0 8).toInt ≤ 10; exact hB.2)⟩, z_fr_0, hS0, z_sk_0⟩
  · refine W.eq (g2 := F0 m 5 ls (.ref (ad (100 + 8 * k1)) :: [])) rfl ?_
    refine lv_astore (lv' := [(5, .ref (ad (100 + 8 * k1))), (0, .ref (ad 0)), (1, .int a1), (2, .int a2), (3, .int a3), (4, .int a4)]) hx hb dX11_sums_5 hl (by decide) rfl (fun ls hl => ?_)
    refine lv_aload hx hb dX11_sums_7 (lv_at hl 0 rfl) ?_
    refine lv_ifnull hx hb dX11_sums_9 ?_
    refine lv_aload hx hb dX11_sums_12 (lv_at hl 0 rfl) ?_
    refine lv_iload_n hx hb dX11_sums_14 rfl (lv_at hl 3 rfl) ?_
    refine lv_iload_n hx hb dX11_sums_15 rfl (lv_at hl 4 rfl) ?_
    refine z_ci hW hS hA (va_runV (As := [.int a2, .int a3]) (rest := []) ⟨hx, hb, hml, hown, hts⟩ (sx_X10_hasSpan l G ad c I  k1 a2 a3 hk1 h10 hS0 _) (cwV 2 hts gX11_sums_X10_hasSpan rfl rfl rfl (by decide +kernel) ⟨Nat.le_of_ble_eq_true rfl, Nat.le_of_ble_eq_true rfl⟩) (z_preV (i := (100 + 8 * k1)) hK hW (z_ss0 hk1 h10) rfl) rfl rfl hl.1 rfl (lv_room (Nat.le_of_ble_eq_true rfl)) dX11_sums_16 ⟨Nat.le_of_ble_eq_true rfl, Nat.le_of_ble_eq_true rfl⟩) (fun r u1 H locs hp hW hS => ?_)
    obtain ⟨e9, hp⟩ := hp
    rw [e9] at hW
    rcases hp with ⟨rfl, h2, h3, h4⟩ | rfl
    · refine lv_if_eq (tgt := 32) hx hb dX11_sums_19 (by decide) (fun c5 => absurd c5 (by decide)) (fun c5 => ?_)
      refine lv_iload hx hb dX11_sums_22 (lv_at hl 5 rfl) ?_
      refine lv_iconst (v := 0) hx hb dX11_sums_24 (by decide) ?_
      refine lv_iconst (v := 1) hx hb dX11_sums_25 (by decide) ?_
      refine z_ci hW hS hA (va_runS (As := [.int a4, .int 0, .int 1]) (rest := []) ⟨hx, hb, hml, hown, hts⟩ (sx_X11_within_e l G ad c I  a4 0 1 _) (va_cwS 3 hts gX11_sums_X11_within rfl rfl rfl (by decide +kernel) ⟨Nat.le_of_ble_eq_true rfl, Nat.le_of_ble_eq_true rfl⟩) (z_preS hK hW) rfl rfl hl.1 rfl (lv_room (Nat.le_of_ble_eq_true rfl)) dX11_sums_26 ⟨Nat.le_of_ble_eq_true rfl, Nat.le_of_ble_eq_true rfl⟩) (fun r u1 H locs hp hW hS => ?_)
      obtain ⟨e9, hp⟩ := hp
      rw [e9] at hW
      rcases hp with ⟨rfl, h6⟩ | ⟨rfl, h6⟩
      · have h7 := h6
        have z8 := z_l0
        have z9 := z_l1
        refine lv_if_ne (tgt := 36) hx hb dX11_sums_29 (by decide) (fun c10 => ?_) (fun c10 => absurd c10 (by decide))
        refine lv_aload_n hx hb dX11_sums_36 rfl (lv_at hl 1 rfl) ?_
        refine lv_aload hx hb dX11_sums_37 (lv_at hl 0 rfl) ?_
        refine lv_iload_n hx hb dX11_sums_39 rfl (lv_at hl 2 rfl) ?_
        refine lv_iload_n hx hb dX11_sums_40 rfl (lv_at hl 3 rfl) ?_
        refine lv_iload_n hx hb dX11_sums_41 rfl (lv_at hl 4 rfl) ?_
        refine z_cv hW hS hA (va_runV (As := [.ref (ad (100 + 8 * k1)), .int a1, .int a2, .int a3]) (rest := []) ⟨hx, hb, hml, hown, hts⟩ (sx_X11_putBounds_s l G ad c I (by show 0 ≤ (I 21 2).toInt ∧ (I 21 2).toInt ≤ 12; exact hO) ⟨(by show 0 ≤ (I 0 0).toInt ∧ (I 0 0).toInt ≤ 719; exact hB.1), (by show 0 ≤ (I 0 8).toInt ∧ (I 0 8).toInt ≤ 10; exact hB.2)⟩ k1 a1 a2 a3 hk1 h10 hc hS0 _) (cwV 4 hts gX11_sums_X11_putBounds rfl rfl rfl (by decide +kernel) ⟨Nat.le_of_ble_eq_true rfl, Nat.le_of_ble_eq_true rfl⟩) (z_preVS (i := 0) hK hW hS hA hSt rfl rfl) rfl rfl hl.1 rfl (lv_room (Nat.le_of_ble_eq_true rfl)) dX11_sums_42 ⟨Nat.le_of_ble_eq_true rfl, Nat.le_of_ble_eq_true rfl⟩) (fun u1 H locs hp hW hS => ?_)
        obtain ⟨I11, e9, hI11O, hI11B, fI11, SI11, SSI11⟩ := hp
        rw [e9] at hW
        have f12 := z_fr_sub (L := L_X11_sums_s) z_fr_0 fI11 (by decide)
        refine lv_iload hx hb dX11_sums_45 (lv_at hl 5 rfl) ?_
        refine lv_if_ne (tgt := 60) hx hb dX11_sums_47 (by decide) (fun c13 => ?_) (fun c13 => ?_)
        · have g14 := z_f_ne rfl z_l0 c13
          refine lv_aload hx hb dX11_sums_60 (lv_at hl 0 rfl) ?_
          refine lv_iload_n hx hb dX11_sums_62 rfl (lv_at hl 3 rfl) ?_
          refine lv_iload_n hx hb dX11_sums_63 rfl (lv_at hl 4 rfl) ?_
          refine z_cl hW hS hA (va_runV (As := [.int a2, .int a3]) (rest := []) ⟨hx, hb, hml, hown, hts⟩ (sx_X10_mostBlack l G ad c I11  k1 a2 a3 hk1 h10 SI11 _) (cwV 2 hts gX11_sums_X10_mostBlack rfl rfl rfl (by decide +kernel) ⟨Nat.le_of_ble_eq_true rfl, Nat.le_of_ble_eq_true rfl⟩) (z_preV (i := (100 + 8 * k1)) hK hW (z_ss0 hk1 h10) rfl) rfl rfl hl.1 rfl (lv_room (Nat.le_of_ble_eq_true rfl)) dX11_sums_64 ⟨Nat.le_of_ble_eq_true rfl, Nat.le_of_ble_eq_true rfl⟩) (fun r u1 H locs hp hW hS => ?_)
          rw [hp] at hW
          refine lv_topl (fun x15 ex15 => ?_)
          exact z_lret hx hb hr hK hS (Nat.le_of_ble_eq_true rfl) (Nat.le_of_ble_eq_true rfl) hlocks dX11_sums_67 (shC c, ad, I11, JX, PC c ad) hW ⟨I11, rfl, (by show 0 ≤ (I11 21 2).toInt ∧ (I11 21 2).toInt ≤ 12; exact hI11O), ⟨(by show 0 ≤ (I11 0 0).toInt ∧ (I11 0 0).toInt ≤ 719; exact hI11B.1), (by show 0 ≤ (I11 0 8).toInt ∧ (I11 0 8).toInt ≤ 10; exact hI11B.2)⟩, f12, SI11, (z_sk_t SSI11 z_sk_0)⟩
        · have g16 := z_f_eq rfl z_l0 c13
          refine lv_aload hx hb dX11_sums_50 (lv_at hl 0 rfl) ?_
          refine lv_iload_n hx hb dX11_sums_52 rfl (lv_at hl 3 rfl) ?_
          refine lv_iload_n hx hb dX11_sums_53 rfl (lv_at hl 4 rfl) ?_
          refine z_cl hW hS hA (va_runV (As := [.int a2, .int a3]) (rest := []) ⟨hx, hb, hml, hown, hts⟩ (sx_X10_leastBlack l G ad c I11  k1 a2 a3 hk1 h10 SI11 _) (cwV 2 hts gX11_sums_X10_leastBlack rfl rfl rfl (by decide +kernel) ⟨Nat.le_of_ble_eq_true rfl, Nat.le_of_ble_eq_true rfl⟩) (z_preV (i := (100 + 8 * k1)) hK hW (z_ss0 hk1 h10) rfl) rfl rfl hl.1 rfl (lv_room (Nat.le_of_ble_eq_true rfl)) dX11_sums_54 ⟨Nat.le_of_ble_eq_true rfl, Nat.le_of_ble_eq_true rfl⟩) (fun r u1 H locs hp hW hS => ?_)
          rw [hp] at hW
          refine lv_topl (fun x17 ex17 => ?_)
          refine lv_goto (tgt := 67) hx hb dX11_sums_57 (by decide) ?_
          exact z_lret hx hb hr hK hS (Nat.le_of_ble_eq_true rfl) (Nat.le_of_ble_eq_true rfl) hlocks dX11_sums_67 (shC c, ad, I11, JX, PC c ad) hW ⟨I11, rfl, (by show 0 ≤ (I11 21 2).toInt ∧ (I11 21 2).toInt ≤ 12; exact hI11O), ⟨(by show 0 ≤ (I11 0 0).toInt ∧ (I11 0 0).toInt ≤ 719; exact hI11B.1), (by show 0 ≤ (I11 0 8).toInt ∧ (I11 0 8).toInt ≤ 10; exact hI11B.2)⟩, f12, SI11, (z_sk_t SSI11 z_sk_0)⟩
      · have h18 := h6
        have z19 := z_l0
        have z20 := z_l1
        refine lv_if_ne (tgt := 36) hx hb dX11_sums_29 (by decide) (fun c21 => absurd (by decide) c21) (fun c21 => ?_)
        refine lv_ldc2 (v := (-1)) hx hb hown (hts (.constantLong RX11 261 (-1)) (me_s (me_l (me_l (me_l (me_l (me_l (me_l (List.mem_of_getElem? (i := 0) rfl))))))))) dX11_sums_32 ?_
        exact z_lret hx hb hr hK hS (Nat.le_of_ble_eq_true rfl) (Nat.le_of_ble_eq_true rfl) hlocks dX11_sums_35 (shC c, ad, I, JX, PC c ad) hW ⟨I, rfl, (by show 0 ≤ (I 21 2).toInt ∧ (I 21 2).toInt ≤ 12; exact hO), ⟨(by show 0 ≤ (I 0 0).toInt ∧ (I 0 0).toInt ≤ 719; exact hB.1), (by show 0 ≤ (I 0 8).toInt ∧ (I 0 8).toInt ≤ 10; exact hB.2)⟩, z_fr_0, hS0, z_sk_0⟩
    · refine lv_if_eq (tgt := 32) hx hb dX11_sums_19 (by decide) (fun c22 => ?_) (fun c22 => absurd (by decide) c22)
      refine lv_ldc2 (v := (-1)) hx hb hown (hts (.constantLong RX11 261 (-1)) (me_s (me_l (me_l (me_l (me_l (me_l (me_l (List.mem_of_getElem? (i := 0) rfl))))))))) dX11_sums_32 ?_
      exact z_lret hx hb hr hK hS (Nat.le_of_ble_eq_true rfl) (Nat.le_of_ble_eq_true rfl) hlocks dX11_sums_35 (shC c, ad, I, JX, PC c ad) hW ⟨I, rfl, (by show 0 ≤ (I 21 2).toInt ∧ (I 21 2).toInt ≤ 12; exact hO), ⟨(by show 0 ≤ (I 0 0).toInt ∧ (I 0 0).toInt ≤ 719; exact hB.1), (by show 0 ≤ (I 0 8).toInt ∧ (I 0 8).toInt ≤ 10; exact hB.2)⟩, z_fr_0, hS0, z_sk_0⟩
noncomputable def L_X11_judged_s : z_L := [(1000, 999)]
set_option maxHeartbeats 8000000 in
set_option maxRecDepth 100000 in
theorem sx_X11_judged_s (l : Launch) (G : z_G) (ad : Nat → Nat) (c : z_C) (I : z_I) (hO : z_iO I) (hB : z_iB I) (a1 : Int32) (a2 : Int32) (a3 : Int32) (hc : z_okc c) (h10 : c.1 ≤ 10) (hS0 : z_iS c I) : z_MlS l yX11_judged wsX11_judged { frames := 6, cells := 0, slots := 0, locals := 137 } [.ref (ad 0), .int a1, .int a2, .int a3] G (shC c, ad, I, JX, PC c ad) (fun r u1 => ∃ I1 : z_I, u1 = (shC c, ad, I1, JX, PC c ad) ∧ z_iO I1 ∧ z_iB I1 ∧ z_fr L_X11_judged_s I1 I ∧ z_iS c I1 ∧ z_sk I1 I) 0 0 := by
  intro sz
  refine z_headS (cc := cX11_judged) (maxL := 5) (ret := (some .long)) (by decide) rfl (Nat.le_of_ble_eq_true rfl) ?_
  intro p e s m below meth c0 ls hIn hK hsz hW hl hSt
  obtain ⟨hx, hb, hr, hml, hown, hts, hlocks, hname⟩ := hIn
  subst hsz
  have hown : s.vm.findClass RX11 = some m.cls := hown
  have hA : ∀ q : Nat, s.heap.size ≤ q → z_A (shC c, ad, I, JX, PC c ad) s.heap.size q := fun q h => Or.inr h
  generalize hAe : z_A (shC c, ad, I, JX, PC c ad) s.heap.size = A at *
  have hS : va_S A s.heap s.heap [] := va_S.rf
  have hl : lv_has ls 5 [(0, .ref (ad 0)), (1, .int a1), (2, .int a2), (3, .int a3)] := hl
  refine lv_aload_n hx hb dX11_judged_0 rfl (lv_at hl 0 rfl) ?_
  refine lv_iload_n hx hb dX11_judged_1 rfl (lv_at hl 1 rfl) ?_
  refine z_cq hW hS hA (va_runV (As := [.int a1]) (rest := []) ⟨hx, hb, hml, hown, hts⟩ (sx_X11_stationAt l G ad c I ⟨(by show 0 ≤ (I 0 0).toInt ∧ (I 0 0).toInt ≤ 719; exact hB.1), (by show 0 ≤ (I 0 8).toInt ∧ (I 0 8).toInt ≤ 10; exact hB.2)⟩ a1 hc h10 _) (cwV 1 hts gX11_judged_X11_stationAt rfl rfl rfl (by decide +kernel) ⟨Nat.le_of_ble_eq_true rfl, Nat.le_of_ble_eq_true rfl⟩) (z_preV (i := 0) hK hW rfl rfl) rfl rfl hl.1 rfl (lv_room (Nat.le_of_ble_eq_true rfl)) dX11_judged_2 ⟨Nat.le_of_ble_eq_true rfl, Nat.le_of_ble_eq_true rfl⟩) (fun r u1 H locs hp hW hS => ?_)
  obtain ⟨e9, hp⟩ := hp
  rw [e9] at hW
  rcases hp with rfl | ⟨k1, hk1, rfl⟩
  · refine W.eq (g2 := F0 m 5 ls (.null :: [])) rfl ?_
    refine lv_astoreN (lv' := [(4, .null), (0, .ref (ad 0)), (1, .int a1), (2, .int a2), (3, .int a3)]) hx hb dX11_judged_5 hl (by decide) rfl (fun ls hl => ?_)
    refine lv_aloadN hx hb dX11_judged_7 (lv_at hl 0 rfl) ?_
    refine lv_ifnullN (tgt := 22) hx hb dX11_judged_9 (by decide) ?_
    refine lv_ldc2 (v := (-1)) hx hb hown (hts (.constantLong RX11 261 (-1)) (me_s (me_l (me_l (me_l (me_l (me_l (me_l (List.mem_of_getElem? (i := 0) rfl))))))))) dX11_judged_22 ?_
    exact z_lret hx hb hr hK hS (Nat.le_of_ble_eq_true rfl) (Nat.le_of_ble_eq_true rfl) hlocks dX11_judged_25 (shC c, ad, I, JX, PC c ad) hW ⟨I, rfl, (by show 0 ≤ (I 21 2).toInt ∧ (I 21 2).toInt ≤ 12; exact hO), ⟨(by show 0 ≤ (I 0 0).toInt ∧ (I 0 0).toInt ≤ 719; exact hB.1), (by show 0 ≤ (I 0 8).toInt ∧ (I 0 8).toInt ≤ 10; exact hB.2)⟩, z_fr_0, hS0, z_sk_0⟩
  · refine W.eq (g2 := F0 m 5 ls (.ref (ad (100 + 8 * k1)) :: [])) rfl ?_
    refine lv_astore (lv' := [(4, .ref (ad (100 + 8 * k1))), (0, .ref (ad 0)), (1, .int a1), (2, .int a2), (3, .int a3)]) hx hb dX11_judged_5 hl (by decide) rfl (fun ls hl => ?_)
    refine lv_aload hx hb dX11_judged_7 (lv_at hl 0 rfl) ?_
    refine lv_ifnull hx hb dX11_judged_9 ?_
    refine lv_aload hx hb dX11_judged_12 (lv_at hl 0 rfl) ?_
    refine lv_iload_n hx hb dX11_judged_14 rfl (lv_at hl 3 rfl) ?_
    refine lv_iload_n hx hb dX11_judged_15 rfl (lv_at hl 4 rfl) ?_
    refine z_ci hW hS hA (va_runV (As := [.int a2, .int a3]) (rest := []) ⟨hx, hb, hml, hown, hts⟩ (sx_X10_hasSpan l G ad c I  k1 a2 a3 hk1 h10 hS0 _) (cwV 2 hts gX11_judged_X10_hasSpan rfl rfl rfl (by decide +kernel) ⟨Nat.le_of_ble_eq_true rfl, Nat.le_of_ble_eq_true rfl⟩) (z_preV (i := (100 + 8 * k1)) hK hW (z_ss0 hk1 h10) rfl) rfl rfl hl.1 rfl (lv_room (Nat.le_of_ble_eq_true rfl)) dX11_judged_16 ⟨Nat.le_of_ble_eq_true rfl, Nat.le_of_ble_eq_true rfl⟩) (fun r u1 H locs hp hW hS => ?_)
    obtain ⟨e9, hp⟩ := hp
    rw [e9] at hW
    rcases hp with ⟨rfl, h2, h3, h4⟩ | rfl
    · refine lv_if_ne (tgt := 26) hx hb dX11_judged_19 (by decide) (fun c5 => ?_) (fun c5 => absurd c5 (by decide))
      refine lv_aload_n hx hb dX11_judged_26 rfl (lv_at hl 1 rfl) ?_
      refine lv_aload hx hb dX11_judged_27 (lv_at hl 0 rfl) ?_
      refine lv_iload_n hx hb dX11_judged_29 rfl (lv_at hl 2 rfl) ?_
      refine lv_iload_n hx hb dX11_judged_30 rfl (lv_at hl 3 rfl) ?_
      refine lv_iload_n hx hb dX11_judged_31 rfl (lv_at hl 4 rfl) ?_
      refine z_cv hW hS hA (va_runV (As := [.ref (ad (100 + 8 * k1)), .int a1, .int a2, .int a3]) (rest := []) ⟨hx, hb, hml, hown, hts⟩ (sx_X11_putBounds_s l G ad c I (by show 0 ≤ (I 21 2).toInt ∧ (I 21 2).toInt ≤ 12; exact hO) ⟨(by show 0 ≤ (I 0 0).toInt ∧ (I 0 0).toInt ≤ 719; exact hB.1), (by show 0 ≤ (I 0 8).toInt ∧ (I 0 8).toInt ≤ 10; exact hB.2)⟩ k1 a1 a2 a3 hk1 h10 hc hS0 _) (cwV 4 hts gX11_judged_X11_putBounds rfl rfl rfl (by decide +kernel) ⟨Nat.le_of_ble_eq_true rfl, Nat.le_of_ble_eq_true rfl⟩) (z_preVS (i := 0) hK hW hS hA hSt rfl rfl) rfl rfl hl.1 rfl (lv_room (Nat.le_of_ble_eq_true rfl)) dX11_judged_32 ⟨Nat.le_of_ble_eq_true rfl, Nat.le_of_ble_eq_true rfl⟩) (fun u1 H locs hp hW hS => ?_)
      obtain ⟨I6, e9, hI6O, hI6B, fI6, SI6, SSI6⟩ := hp
      rw [e9] at hW
      have f7 := z_fr_sub (L := L_X11_judged_s) z_fr_0 fI6 (by decide)
      refine lv_aload hx hb dX11_judged_35 (lv_at hl 0 rfl) ?_
      refine lv_aload_n hx hb dX11_judged_37 rfl (lv_at hl 1 rfl) ?_
      refine z_get (T := TX11) (N := 13) (ci := 11) (i := 0) (v := .ref (ad 40)) hx hb hts zj_X11_judged_X11 hown hK hW rfl rfl 9 (by decide) (hts (.fieldLink RX11 54 "PetrolBoard" "row" "[I") (me_s (me_l (me_l (me_l (me_l (me_l (me_l (List.mem_of_getElem? (i := 1) rfl))))))))) (fun _ h => h) rfl dX11_judged_38 ?_
      refine lv_iload_n hx hb dX11_judged_41 rfl (lv_at hl 3 rfl) ?_
      refine lv_iload_n hx hb dX11_judged_42 rfl (lv_at hl 4 rfl) ?_
      refine z_cl hW hS hA (va_runV (As := [.ref (ad 40), .int a2, .int a3]) (rest := []) ⟨hx, hb, hml, hown, hts⟩ (sx_X10_blackBy l G ad c I6  k1 a2 a3 hk1 h10 SI6 _) (cwV 3 hts gX11_judged_X10_blackBy rfl rfl rfl (by decide +kernel) ⟨Nat.le_of_ble_eq_true rfl, Nat.le_of_ble_eq_true rfl⟩) (z_preV (i := (100 + 8 * k1)) hK hW (z_ss0 hk1 h10) rfl) rfl rfl hl.1 rfl (lv_room (Nat.le_of_ble_eq_true rfl)) dX11_judged_43 ⟨Nat.le_of_ble_eq_true rfl, Nat.le_of_ble_eq_true rfl⟩) (fun r u1 H locs hp hW hS => ?_)
      rw [hp] at hW
      refine lv_topl (fun x8 ex8 => ?_)
      exact z_lret hx hb hr hK hS (Nat.le_of_ble_eq_true rfl) (Nat.le_of_ble_eq_true rfl) hlocks dX11_judged_46 (shC c, ad, I6, JX, PC c ad) hW ⟨I6, rfl, (by show 0 ≤ (I6 21 2).toInt ∧ (I6 21 2).toInt ≤ 12; exact hI6O), ⟨(by show 0 ≤ (I6 0 0).toInt ∧ (I6 0 0).toInt ≤ 719; exact hI6B.1), (by show 0 ≤ (I6 0 8).toInt ∧ (I6 0 8).toInt ≤ 10; exact hI6B.2)⟩, f7, SI6, (z_sk_t SSI6 z_sk_0)⟩
    · refine lv_if_ne (tgt := 26) hx hb dX11_judged_19 (by decide) (fun c9 => absurd (by decide) c9) (fun c9 => ?_)
      refine lv_ldc2 (v := (-1)) hx hb hown (hts (.constantLong RX11 261 (-1)) (me_s (me_l (me_l (me_l (me_l (me_l (me_l (List.mem_of_getElem? (i := 0) rfl))))))))) dX11_judged_22 ?_
      exact z_lret hx hb hr hK hS (Nat.le_of_ble_eq_true rfl) (Nat.le_of_ble_eq_true rfl) hlocks dX11_judged_25 (shC c, ad, I, JX, PC c ad) hW ⟨I, rfl, (by show 0 ≤ (I 21 2).toInt ∧ (I 21 2).toInt ≤ 12; exact hO), ⟨(by show 0 ≤ (I 0 0).toInt ∧ (I 0 0).toInt ≤ 719; exact hB.1), (by show 0 ≤ (I 0 8).toInt ∧ (I 0 8).toInt ≤ 10; exact hB.2)⟩, z_fr_0, hS0, z_sk_0⟩
set_option maxHeartbeats 8000000 in
set_option maxRecDepth 100000 in
theorem sx_X11_stationAt_e (l : Launch) (G : z_G) (ad : Nat → Nat) (c : z_C) (I : z_I) (hB : z_iB I) (a1 : Int32) (hc : z_okc c) (h10 : c.1 ≤ 10) (hsn : (I 0 8).toInt = (c.1 : Int)) : z_Mq l yX11_stationAt wsX11_stationAt { frames := 1, cells := 0, slots := 0, locals := 12 } [.ref (ad 0), .int a1] G (shC c, ad, I, JX, PC c ad) (fun r u1 => u1 = (shC c, ad, I, JX, PC c ad) ∧ ((r = none ∧ ¬ (0 ≤ a1.toInt ∧ a1.toInt < (I 0 8).toInt)) ∨ ∃ k, k < c.1 ∧ a1.toNatClampNeg = k ∧ (0 ≤ a1.toInt ∧ a1.toInt < (I 0 8).toInt) ∧ r = some (ad (100 + 8 * k)))) 0 0 := by
  intro sz
  refine z_headQ (cc := cX11_stationAt) (maxL := 2) (ret := (some (.object "PetrolBoard$Station"))) (by decide) rfl (Nat.le_of_ble_eq_true rfl) ?_
  intro p e s m below meth c0 ls hIn hK hsz hW hl
  obtain ⟨hx, hb, hr, hml, hown, hts, hlocks, hname⟩ := hIn
  subst hsz
  have hown : s.vm.findClass RX11 = some m.cls := hown
  have hA : ∀ q : Nat, s.heap.size ≤ q → z_A (shC c, ad, I, JX, PC c ad) s.heap.size q := fun q h => Or.inr h
  generalize hAe : z_A (shC c, ad, I, JX, PC c ad) s.heap.size = A at *
  have hS : va_S A s.heap s.heap [] := va_S.rf
  have hl : lv_has ls 2 [(0, .ref (ad 0)), (1, .int a1)] := hl
  refine lv_iload_n hx hb dX11_stationAt_0 rfl (lv_at hl 1 rfl) ?_
  refine lv_if_lt (tgt := 21) hx hb dX11_stationAt_1 (by decide) (fun c1 => ?_) (fun c1 => ?_)
  · have g2 := z_f_lt rfl z_l0 c1
    have b3 := Int32.toInt_lt a1
    refine lv_null hx hb dX11_stationAt_21 ?_
    exact z_nret hx hb hr hK hS (Nat.le_of_ble_eq_true rfl) (Nat.le_of_ble_eq_true rfl) hlocks dX11_stationAt_22 (shC c, ad, I, JX, PC c ad) hW ⟨rfl, Or.inl ⟨rfl, (by omega)⟩⟩
  · have g4 := z_f_nlt rfl z_l0 c1
    have b5 := Int32.toInt_lt a1
    refine lv_iload_n hx hb dX11_stationAt_4 rfl (lv_at hl 1 rfl) ?_
    refine lv_aload_n hx hb dX11_stationAt_5 rfl (lv_at hl 0 rfl) ?_
    have r6 : 0 ≤ (I 0 8).toInt ∧ (I 0 8).toInt ≤ 10 := hB.2
    refine z_get (T := TX11) (N := 13) (ci := 11) (i := 0) (v := .int (I 0 8)) hx hb hts zj_X11_stationAt_X11 hown hK hW rfl rfl 8 (by decide) (hts (.fieldLink RX11 178 "PetrolBoard" "stationNumber" "I") (me_s (me_l (List.mem_of_getElem? (i := 0) rfl)))) (fun _ h => h) rfl dX11_stationAt_6 ?_
    refine lv_icmp_ge (tgt := 21) hx hb dX11_stationAt_9 (by decide) (fun c7 => ?_) (fun c7 => ?_)
    · have g8 := z_f_ge rfl rfl c7
      refine lv_null hx hb dX11_stationAt_21 ?_
      exact z_nret hx hb hr hK hS (Nat.le_of_ble_eq_true rfl) (Nat.le_of_ble_eq_true rfl) hlocks dX11_stationAt_22 (shC c, ad, I, JX, PC c ad) hW ⟨rfl, Or.inl ⟨rfl, (by omega)⟩⟩
    · have g9 := z_f_nge rfl rfl c7
      refine lv_iload_n hx hb dX11_stationAt_12 rfl (lv_at hl 1 rfl) ?_
      refine lv_aload_n hx hb dX11_stationAt_13 rfl (lv_at hl 0 rfl) ?_
      refine z_get (T := TX11) (N := 13) (ci := 11) (i := 0) (v := .ref (ad 39)) hx hb hts zj_X11_stationAt_X11 hown hK hW rfl rfl 7 (by decide) (hts (.fieldLink RX11 50 "PetrolBoard" "stations" "[LPetrolBoard$Station;") (me_s (me_l (List.mem_of_getElem? (i := 1) rfl)))) (fun _ h => h) rfl dX11_stationAt_14 ?_
      refine z_alen (i := 39) (v := 10) hx hb hK hW rfl (by simp [z_tys]) (by rfl) dX11_stationAt_17 ?_
      refine lv_icmp_lt (tgt := 23) hx hb dX11_stationAt_18 (by decide) (fun c10 => ?_) (fun c10 => (by have g := z_f_nlt rfl z_l10 c10; omega))
      have g11 := z_f_lt rfl z_l10 c10
      refine lv_aload_n hx hb dX11_stationAt_23 rfl (lv_at hl 0 rfl) ?_
      refine z_get (T := TX11) (N := 13) (ci := 11) (i := 0) (v := .ref (ad 39)) hx hb hts zj_X11_stationAt_X11 hown hK hW rfl rfl 7 (by decide) (hts (.fieldLink RX11 50 "PetrolBoard" "stations" "[LPetrolBoard$Station;") (me_s (me_l (List.mem_of_getElem? (i := 1) rfl)))) (fun _ h => h) rfl dX11_stationAt_24 ?_
      refine lv_iload_n hx hb dX11_stationAt_27 rfl (lv_at hl 1 rfl) ?_
      obtain ⟨k12, ek12⟩ : ∃ k : Nat, (a1 : Int32).toNatClampNeg = k := ⟨_, rfl⟩
      rcases Nat.lt_or_ge k12 c.1 with hk12 | hk12
      · refine z_aald (i := 39) (v := .ref (ad (100 + 8 * k12))) hx hb hK hW rfl (by simp [z_tys]) rfl (z_ix rfl (by omega) (by omega)) (z_p39 ek12 hk12) dX11_stationAt_28 ?_
        exact z_qretO hx hb hr hK hS (Nat.le_of_ble_eq_true rfl) (Nat.le_of_ble_eq_true rfl) hlocks dX11_stationAt_29 (shC c, ad, I, JX, PC c ad) hW ⟨rfl, Or.inr ⟨k12, hk12, ek12, (by omega), rfl⟩⟩
      · refine z_aald (i := 39) (v := .null) hx hb hK hW rfl (by simp [z_tys]) rfl (z_ix rfl (by omega) (by omega)) (z_p39n (by rw [ek12]; omega)) dX11_stationAt_28 ?_
        exact z_nret hx hb hr hK hS (Nat.le_of_ble_eq_true rfl) (Nat.le_of_ble_eq_true rfl) hlocks dX11_stationAt_29 (shC c, ad, I, JX, PC c ad) hW ⟨rfl, Or.inl ⟨rfl, (by have z9 : a1.toInt.toNat = k12 := ek12; omega)⟩⟩
noncomputable def L_X10_addDelivery_r : z_L := [(1000, 999)]
set_option maxHeartbeats 8000000 in
set_option maxRecDepth 100000 in
theorem sx_X10_addDelivery_r (l : Launch) (G : z_G) (ad : Nat → Nat) (c : z_C) (I : z_I) (k : Nat) (a1 : Int32) (hk : k < c.1) (h10 : c.1 ≤ 10) (hS0 : z_iS c I) : z_M l yX10_addDelivery wsX10_addDelivery { frames := 1, cells := 0, slots := 0, locals := 12 } [.ref (ad (100 + 8 * k)), .int a1] G (shC c, ad, I, JX, PC c ad) (fun r u1 => ∃ I1 : z_I, u1 = (shC c, ad, I1, JX, PC c ad) ∧ z_fr L_X10_addDelivery_r I1 I ∧ z_iS c I1 ∧ ((((I (100 + 8 * k) 5).toInt < 30) ∧ r = (I (100 + 8 * k) 6) + a1 ∧ z_dl I1 I k a1) ∨ (¬ ((I (100 + 8 * k) 5).toInt < 30) ∧ r = -1 ∧ z_sk I1 I))) 0 0 := by
  intro sz
  refine z_headQ (cc := cX10_addDelivery) (maxL := 2) (ret := (some .int)) (by decide) rfl (Nat.le_of_ble_eq_true rfl) ?_
  intro p e s m below meth c0 ls hIn hK hsz hW hl
  obtain ⟨hx, hb, hr, hml, hown, hts, hlocks, hname⟩ := hIn
  subst hsz
  have hown : s.vm.findClass RX10 = some m.cls := hown
  have hA : ∀ q : Nat, s.heap.size ≤ q → z_A (shC c, ad, I, JX, PC c ad) s.heap.size q := fun q h => Or.inr h
  generalize hAe : z_A (shC c, ad, I, JX, PC c ad) s.heap.size = A at *
  have hS : va_S A s.heap s.heap [] := va_S.rf
  have hl : lv_has ls 2 [(0, .ref (ad (100 + 8 * k))), (1, .int a1)] := hl
  refine lv_aload_n hx hb dX10_addDelivery_0 rfl (lv_at hl 0 rfl) ?_
  refine z_get (T := TX10) (N := 10) (ci := 10) (i := (100 + 8 * k)) (v := .int (I (100 + 8 * k) 5)) hx hb hts zj_X10_addDelivery_X10 hown hK hW (z_ss0 hk h10) rfl 5 (by decide) (hts (.fieldLink RX10 33 "PetrolBoard$Station" "deliveries" "I") (me_s (me_l (List.mem_of_getElem? (i := 0) rfl)))) (fun _ h => h) rfl dX10_addDelivery_1 ?_
  refine lv_bipush (v := 30) hx hb dX10_addDelivery_4 (by decide) ?_
  refine lv_icmp_lt (tgt := 11) hx hb dX10_addDelivery_6 (by decide) (fun c1 => ?_) (fun c1 => ?_)
  · have g2 := z_f_lt rfl z_l30 c1
    have b3 := Int32.toInt_lt (I (100 + 8 * k) 5)
    refine lv_aload_n hx hb dX10_addDelivery_11 rfl (lv_at hl 0 rfl) ?_
    refine lv_dup hx hb dX10_addDelivery_12 rfl ?_
    refine z_get (T := TX10) (N := 10) (ci := 10) (i := (100 + 8 * k)) (v := .int (I (100 + 8 * k) 5)) hx hb hts zj_X10_addDelivery_X10 hown hK hW (z_ss0 hk h10) rfl 5 (by decide) (hts (.fieldLink RX10 33 "PetrolBoard$Station" "deliveries" "I") (me_s (me_l (List.mem_of_getElem? (i := 0) rfl)))) (fun _ h => h) rfl dX10_addDelivery_13 ?_
    refine lv_iconst (v := 1) hx hb dX10_addDelivery_16 (by decide) ?_
    refine lv_iadd hx hb dX10_addDelivery_17 ?_
    refine lv_topi (fun x4 ex4 => ?_)
    have tx4 : x4.toInt = (I (100 + 8 * k) 5).toInt + 1 := z_tadd ex4 rfl z_l1 (by have := Int32.le_toInt (I (100 + 8 * k) 5); have := Int32.toInt_lt (I (100 + 8 * k) 5); omega) (by have := Int32.le_toInt (I (100 + 8 * k) 5); have := Int32.toInt_lt (I (100 + 8 * k) 5); omega)
    refine z_put (T := TX10) (N := 10) (ci := 10) (i := (100 + 8 * k)) (v := .int x4) (I1 := z_up I (100 + 8 * k) 5 x4) (J1 := JX) (P1 := PC c ad) hx hb hts zj_X10_addDelivery_X10 tyX10 tyX10_ok nmX10 hown hK hW hS (z_ss0 hk h10) rfl 5 (by decide) (hts (.fieldLink RX10 33 "PetrolBoard$Station" "deliveries" "I") (me_s (me_l (List.mem_of_getElem? (i := 0) rfl)))) (fun _ h => h) rfl rfl rfl (by first | rfl | exact congrArg _ z_up_s) (fun a b h ty => z_vI h ty) dX10_addDelivery_18 (fun H locs hz1 hW hS => ?_)
    obtain ⟨I5, eI5⟩ : ∃ K : z_I, K = z_up I (100 + 8 * k) 5 x4 := ⟨_, rfl⟩
    rw [← eI5] at hW
    have f6 := z_fr_a z_fr_0 (z_wad (L := L_X10_addDelivery_r) (by decide) (by omega)) eI5
    have hS7 := z_iS_k hS0 (by decide) eI5
    refine lv_aload_n hx hb dX10_addDelivery_21 rfl (lv_at hl 0 rfl) ?_
    refine lv_dup hx hb dX10_addDelivery_22 rfl ?_
    refine z_get (T := TX10) (N := 10) (ci := 10) (i := (100 + 8 * k)) (v := .int (I (100 + 8 * k) 6)) hx hb hts zj_X10_addDelivery_X10 hown hK hW (z_ss0 hk h10) rfl 6 (by decide) (hts (.fieldLink RX10 37 "PetrolBoard$Station" "delivered" "I") (me_s (me_l (List.mem_of_getElem? (i := 1) rfl)))) (fun _ h => h) (congrArg Value.int (by rw [eI5, z_up_k (by decide)])) dX10_addDelivery_23 ?_
    refine lv_iload_n hx hb dX10_addDelivery_26 rfl (lv_at hl 1 rfl) ?_
    refine lv_iadd hx hb dX10_addDelivery_27 ?_
    refine lv_topi (fun x8 ex8 => ?_)
    refine z_put (T := TX10) (N := 10) (ci := 10) (i := (100 + 8 * k)) (v := .int x8) (I1 := z_up I5 (100 + 8 * k) 6 x8) (J1 := JX) (P1 := PC c ad) hx hb hts zj_X10_addDelivery_X10 tyX10 tyX10_ok nmX10 hown hK hW hS (z_ss0 hk h10) rfl 6 (by decide) (hts (.fieldLink RX10 37 "PetrolBoard$Station" "delivered" "I") (me_s (me_l (List.mem_of_getElem? (i := 1) rfl)))) (fun _ h => h) rfl rfl rfl (by first | rfl | exact congrArg _ z_up_s) (fun a b h ty => z_vI h ty) dX10_addDelivery_28 (fun H locs hz1 hW hS => ?_)
    obtain ⟨I9, eI9⟩ : ∃ K : z_I, K = z_up I5 (100 + 8 * k) 6 x8 := ⟨_, rfl⟩
    rw [← eI9] at hW
    have f10 := z_fr_a f6 (z_wad (L := L_X10_addDelivery_r) (by decide) (by omega)) eI9
    have hS11 := z_iS_k hS7 (by decide) eI9
    refine lv_aload_n hx hb dX10_addDelivery_31 rfl (lv_at hl 0 rfl) ?_
    refine z_get (T := TX10) (N := 10) (ci := 10) (i := (100 + 8 * k)) (v := .int x8) hx hb hts zj_X10_addDelivery_X10 hown hK hW (z_ss0 hk h10) rfl 6 (by decide) (hts (.fieldLink RX10 37 "PetrolBoard$Station" "delivered" "I") (me_s (me_l (List.mem_of_getElem? (i := 1) rfl)))) (fun _ h => h) (congrArg Value.int (by rw [eI9, z_up_s])) dX10_addDelivery_32 ?_
    exact z_iret hx hb hr hK hS (Nat.le_of_ble_eq_true rfl) (Nat.le_of_ble_eq_true rfl) hlocks dX10_addDelivery_35 (shC c, ad, I9, JX, PC c ad) hW ⟨I9, rfl, f10, hS11, Or.inl ⟨by omega, ex8, z_dl_of (by omega) eI5 eI9 ex4 ex8⟩⟩
  · have g12 := z_f_nlt rfl z_l30 c1
    have b13 := Int32.toInt_lt (I (100 + 8 * k) 5)
    refine lv_iconst (v := (-1)) hx hb dX10_addDelivery_9 (by decide) ?_
    exact z_iret hx hb hr hK hS (Nat.le_of_ble_eq_true rfl) (Nat.le_of_ble_eq_true rfl) hlocks dX10_addDelivery_10 (shC c, ad, I, JX, PC c ad) hW ⟨I, rfl, z_fr_0, hS0, Or.inr ⟨by omega, rfl, z_sk_0⟩⟩
noncomputable def L_X10_addDip_r : z_L := [(1000, 999)]
set_option maxHeartbeats 8000000 in
set_option maxRecDepth 100000 in
theorem sx_X10_addDip_r (l : Launch) (G : z_G) (ad : Nat → Nat) (c : z_C) (I : z_I) (k : Nat) (a1 : Int32) (a2 : Int32) (a3 : Int32) (hk : k < c.1) (h10 : c.1 ≤ 10) (hS0 : z_iS c I) : z_M l yX10_addDip wsX10_addDip { frames := 1, cells := 0, slots := 0, locals := 12 } [.ref (ad (100 + 8 * k)), .int a1, .int a2, .int a3] G (shC c, ad, I, JX, PC c ad) (fun r u1 => ∃ I1 : z_I, u1 = (shC c, ad, I1, JX, PC c ad) ∧ z_fr L_X10_addDip_r I1 I ∧ z_iS c I1 ∧ ((((I (100 + 8 * k) 4).toInt < 30) ∧ r.toInt = (I (100 + 8 * k) 4).toInt ∧ z_dp I1 I k) ∨ (¬ ((I (100 + 8 * k) 4).toInt < 30) ∧ r.toInt = -1 ∧ z_sk I1 I))) 0 0 := by
  intro sz
  refine z_headQ (cc := cX10_addDip) (maxL := 4) (ret := (some .int)) (by decide) rfl (Nat.le_of_ble_eq_true rfl) ?_
  intro p e s m below meth c0 ls hIn hK hsz hW hl
  obtain ⟨hx, hb, hr, hml, hown, hts, hlocks, hname⟩ := hIn
  subst hsz
  have hown : s.vm.findClass RX10 = some m.cls := hown
  have hA : ∀ q : Nat, s.heap.size ≤ q → z_A (shC c, ad, I, JX, PC c ad) s.heap.size q := fun q h => Or.inr h
  generalize hAe : z_A (shC c, ad, I, JX, PC c ad) s.heap.size = A at *
  have hS : va_S A s.heap s.heap [] := va_S.rf
  have hl : lv_has ls 4 [(0, .ref (ad (100 + 8 * k))), (1, .int a1), (2, .int a2), (3, .int a3)] := hl
  refine lv_aload_n hx hb dX10_addDip_0 rfl (lv_at hl 0 rfl) ?_
  have r1 : 0 ≤ (I (100 + 8 * k) 4).toInt ∧ (I (100 + 8 * k) 4).toInt ≤ 30 := (hS0 k hk)
  refine z_get (T := TX10) (N := 10) (ci := 10) (i := (100 + 8 * k)) (v := .int (I (100 + 8 * k) 4)) hx hb hts zj_X10_addDip_X10 hown hK hW (z_ss0 hk h10) rfl 4 (by decide) (hts (.fieldLink RX10 40 "PetrolBoard$Station" "dips" "I") (me_s (me_l (List.mem_of_getElem? (i := 0) rfl)))) (fun _ h => h) rfl dX10_addDip_1 ?_
  refine lv_bipush (v := 30) hx hb dX10_addDip_4 (by decide) ?_
  refine lv_icmp_lt (tgt := 11) hx hb dX10_addDip_6 (by decide) (fun c2 => ?_) (fun c2 => ?_)
  · have g3 := z_f_lt rfl z_l30 c2
    refine lv_aload_n hx hb dX10_addDip_11 rfl (lv_at hl 0 rfl) ?_
    refine z_get (T := TX10) (N := 10) (ci := 10) (i := (100 + 8 * k)) (v := .ref (ad (100 + 8 * k + 1))) hx hb hts zj_X10_addDip_X10 hown hK hW (z_ss0 hk h10) rfl 0 (by decide) (hts (.fieldLink RX10 9 "PetrolBoard$Station" "told" "[I") (me_s (me_l (List.mem_of_getElem? (i := 1) rfl)))) (fun _ h => h) (z_pS hk h10 rfl rfl) dX10_addDip_12 ?_
    refine lv_aload_n hx hb dX10_addDip_15 rfl (lv_at hl 0 rfl) ?_
    refine z_get (T := TX10) (N := 10) (ci := 10) (i := (100 + 8 * k)) (v := .int (I (100 + 8 * k) 4)) hx hb hts zj_X10_addDip_X10 hown hK hW (z_ss0 hk h10) rfl 4 (by decide) (hts (.fieldLink RX10 40 "PetrolBoard$Station" "dips" "I") (me_s (me_l (List.mem_of_getElem? (i := 0) rfl)))) (fun _ h => h) rfl dX10_addDip_16 ?_
    refine lv_iload_n hx hb dX10_addDip_19 rfl (lv_at hl 1 rfl) ?_
    refine z_iast (i := (100 + 8 * k + 1)) hx hb hK hW hS (z_ssj hk h10 (by decide)) (z_ix rfl (by omega) (by omega)) dX10_addDip_20 (fun H locs hz1 hW hS => ?_)
    obtain ⟨I4, eI4⟩ : ∃ K : z_I, K = z_up I (100 + 8 * k + 1) (I (100 + 8 * k) 4).toNatClampNeg a1 := ⟨_, rfl⟩
    rw [← eI4] at hW
    have f5 := z_fr_a z_fr_0 (z_wad (L := L_X10_addDip_r) (by decide) (by omega)) eI4
    have hS6 := z_iS_a hS0 (by decide) eI4
    have hZ7 := z_sk_a z_sk_0 (by decide) (by omega) eI4
    refine lv_aload_n hx hb dX10_addDip_21 rfl (lv_at hl 0 rfl) ?_
    refine z_get (T := TX10) (N := 10) (ci := 10) (i := (100 + 8 * k)) (v := .ref (ad (100 + 8 * k + 2))) hx hb hts zj_X10_addDip_X10 hown hK hW (z_ss0 hk h10) rfl 1 (by decide) (hts (.fieldLink RX10 15 "PetrolBoard$Station" "dipDay" "[I") (me_s (me_l (List.mem_of_getElem? (i := 2) rfl)))) (fun _ h => h) (z_pS hk h10 rfl rfl) dX10_addDip_22 ?_
    refine lv_aload_n hx hb dX10_addDip_25 rfl (lv_at hl 0 rfl) ?_
    refine z_get (T := TX10) (N := 10) (ci := 10) (i := (100 + 8 * k)) (v := .int (I (100 + 8 * k) 4)) hx hb hts zj_X10_addDip_X10 hown hK hW (z_ss0 hk h10) rfl 4 (by decide) (hts (.fieldLink RX10 40 "PetrolBoard$Station" "dips" "I") (me_s (me_l (List.mem_of_getElem? (i := 0) rfl)))) (fun _ h => h) (congrArg Value.int (by rw [eI4, z_up_n (by omega)])) dX10_addDip_26 ?_
    refine lv_iload_n hx hb dX10_addDip_29 rfl (lv_at hl 2 rfl) ?_
    refine z_iast (i := (100 + 8 * k + 2)) hx hb hK hW hS (z_ssj hk h10 (by decide)) (z_ix rfl (by omega) (by omega)) dX10_addDip_30 (fun H locs hz1 hW hS => ?_)
    obtain ⟨I8, eI8⟩ : ∃ K : z_I, K = z_up I4 (100 + 8 * k + 2) (I (100 + 8 * k) 4).toNatClampNeg a2 := ⟨_, rfl⟩
    rw [← eI8] at hW
    have f9 := z_fr_a f5 (z_wad (L := L_X10_addDip_r) (by decide) (by omega)) eI8
    have hS10 := z_iS_a hS6 (by decide) eI8
    have hZ11 := z_sk_a hZ7 (by decide) (by omega) eI8
    refine lv_aload_n hx hb dX10_addDip_31 rfl (lv_at hl 0 rfl) ?_
    refine z_get (T := TX10) (N := 10) (ci := 10) (i := (100 + 8 * k)) (v := .ref (ad (100 + 8 * k + 3))) hx hb hts zj_X10_addDip_X10 hown hK hW (z_ss0 hk h10) rfl 2 (by decide) (hts (.fieldLink RX10 18 "PetrolBoard$Station" "deliveredThen" "[I") (me_s (me_l (List.mem_of_getElem? (i := 3) rfl)))) (fun _ h => h) (z_pS hk h10 rfl rfl) dX10_addDip_32 ?_
    refine lv_aload_n hx hb dX10_addDip_35 rfl (lv_at hl 0 rfl) ?_
    refine z_get (T := TX10) (N := 10) (ci := 10) (i := (100 + 8 * k)) (v := .int (I (100 + 8 * k) 4)) hx hb hts zj_X10_addDip_X10 hown hK hW (z_ss0 hk h10) rfl 4 (by decide) (hts (.fieldLink RX10 40 "PetrolBoard$Station" "dips" "I") (me_s (me_l (List.mem_of_getElem? (i := 0) rfl)))) (fun _ h => h) (congrArg Value.int (by rw [eI8, z_up_n (by omega), eI4, z_up_n (by omega)])) dX10_addDip_36 ?_
    refine lv_aload_n hx hb dX10_addDip_39 rfl (lv_at hl 0 rfl) ?_
    refine z_get (T := TX10) (N := 10) (ci := 10) (i := (100 + 8 * k)) (v := .int (I (100 + 8 * k) 6)) hx hb hts zj_X10_addDip_X10 hown hK hW (z_ss0 hk h10) rfl 6 (by decide) (hts (.fieldLink RX10 37 "PetrolBoard$Station" "delivered" "I") (me_s (me_l (List.mem_of_getElem? (i := 4) rfl)))) (fun _ h => h) (congrArg Value.int (by rw [eI8, z_up_n (by omega), eI4, z_up_n (by omega)])) dX10_addDip_40 ?_
    refine z_iast (i := (100 + 8 * k + 3)) hx hb hK hW hS (z_ssj hk h10 (by decide)) (z_ix rfl (by omega) (by omega)) dX10_addDip_43 (fun H locs hz1 hW hS => ?_)
    obtain ⟨I12, eI12⟩ : ∃ K : z_I, K = z_up I8 (100 + 8 * k + 3) (I (100 + 8 * k) 4).toNatClampNeg (I (100 + 8 * k) 6) := ⟨_, rfl⟩
    rw [← eI12] at hW
    have f13 := z_fr_a f9 (z_wad (L := L_X10_addDip_r) (by decide) (by omega)) eI12
    have hS14 := z_iS_a hS10 (by decide) eI12
    have hZ15 := z_sk_a hZ11 (by decide) (by omega) eI12
    refine lv_aload_n hx hb dX10_addDip_44 rfl (lv_at hl 0 rfl) ?_
    refine z_get (T := TX10) (N := 10) (ci := 10) (i := (100 + 8 * k)) (v := .ref (ad (100 + 8 * k + 4))) hx hb hts zj_X10_addDip_X10 hown hK hW (z_ss0 hk h10) rfl 3 (by decide) (hts (.fieldLink RX10 21 "PetrolBoard$Station" "pouredThen" "[I") (me_s (me_l (List.mem_of_getElem? (i := 5) rfl)))) (fun _ h => h) (z_pS hk h10 rfl rfl) dX10_addDip_45 ?_
    refine lv_aload_n hx hb dX10_addDip_48 rfl (lv_at hl 0 rfl) ?_
    refine z_get (T := TX10) (N := 10) (ci := 10) (i := (100 + 8 * k)) (v := .int (I (100 + 8 * k) 4)) hx hb hts zj_X10_addDip_X10 hown hK hW (z_ss0 hk h10) rfl 4 (by decide) (hts (.fieldLink RX10 40 "PetrolBoard$Station" "dips" "I") (me_s (me_l (List.mem_of_getElem? (i := 0) rfl)))) (fun _ h => h) (congrArg Value.int (by rw [eI12, z_up_n (by omega), eI8, z_up_n (by omega), eI4, z_up_n (by omega)])) dX10_addDip_49 ?_
    refine lv_iload_n hx hb dX10_addDip_52 rfl (lv_at hl 3 rfl) ?_
    refine z_iast (i := (100 + 8 * k + 4)) hx hb hK hW hS (z_ssj hk h10 (by decide)) (z_ix rfl (by omega) (by omega)) dX10_addDip_53 (fun H locs hz1 hW hS => ?_)
    obtain ⟨I16, eI16⟩ : ∃ K : z_I, K = z_up I12 (100 + 8 * k + 4) (I (100 + 8 * k) 4).toNatClampNeg a3 := ⟨_, rfl⟩
    rw [← eI16] at hW
    have f17 := z_fr_a f13 (z_wad (L := L_X10_addDip_r) (by decide) (by omega)) eI16
    have hS18 := z_iS_a hS14 (by decide) eI16
    have hZ19 := z_sk_a hZ15 (by decide) (by omega) eI16
    refine lv_aload_n hx hb dX10_addDip_54 rfl (lv_at hl 0 rfl) ?_
    refine lv_dup hx hb dX10_addDip_55 rfl ?_
    refine z_get (T := TX10) (N := 10) (ci := 10) (i := (100 + 8 * k)) (v := .int (I (100 + 8 * k) 4)) hx hb hts zj_X10_addDip_X10 hown hK hW (z_ss0 hk h10) rfl 4 (by decide) (hts (.fieldLink RX10 40 "PetrolBoard$Station" "dips" "I") (me_s (me_l (List.mem_of_getElem? (i := 0) rfl)))) (fun _ h => h) (congrArg Value.int (by rw [eI16, z_up_n (by omega), eI12, z_up_n (by omega), eI8, z_up_n (by omega), eI4, z_up_n (by omega)])) dX10_addDip_56 ?_
    refine lv_iconst (v := 1) hx hb dX10_addDip_59 (by decide) ?_
    refine lv_iadd hx hb dX10_addDip_60 ?_
    refine lv_topi (fun x20 ex20 => ?_)
    have tx20 : x20.toInt = (I (100 + 8 * k) 4).toInt + 1 := z_tadd ex20 rfl z_l1 (by omega) (by omega)
    refine z_put (T := TX10) (N := 10) (ci := 10) (i := (100 + 8 * k)) (v := .int x20) (I1 := z_up I16 (100 + 8 * k) 4 x20) (J1 := JX) (P1 := PC c ad) hx hb hts zj_X10_addDip_X10 tyX10 tyX10_ok nmX10 hown hK hW hS (z_ss0 hk h10) rfl 4 (by decide) (hts (.fieldLink RX10 40 "PetrolBoard$Station" "dips" "I") (me_s (me_l (List.mem_of_getElem? (i := 0) rfl)))) (fun _ h => h) rfl rfl rfl (by first | rfl | exact congrArg _ z_up_s) (fun a b h ty => z_vI h ty) dX10_addDip_61 (fun H locs hz1 hW hS => ?_)
    obtain ⟨I21, eI21⟩ : ∃ K : z_I, K = z_up I16 (100 + 8 * k) 4 x20 := ⟨_, rfl⟩
    rw [← eI21] at hW
    have f22 := z_fr_a f17 (z_wad (L := L_X10_addDip_r) (by decide) (by omega)) eI21
    have hS23 := z_iS_4 hS18 (by omega) eI21
    refine lv_aload_n hx hb dX10_addDip_64 rfl (lv_at hl 0 rfl) ?_
    refine z_get (T := TX10) (N := 10) (ci := 10) (i := (100 + 8 * k)) (v := .int x20) hx hb hts zj_X10_addDip_X10 hown hK hW (z_ss0 hk h10) rfl 4 (by decide) (hts (.fieldLink RX10 40 "PetrolBoard$Station" "dips" "I") (me_s (me_l (List.mem_of_getElem? (i := 0) rfl)))) (fun _ h => h) (congrArg Value.int (by rw [eI21, z_up_s])) dX10_addDip_65 ?_
    refine lv_iconst (v := 1) hx hb dX10_addDip_68 (by decide) ?_
    refine lv_isub hx hb dX10_addDip_69 ?_
    refine lv_topi (fun x25 ex25 => ?_)
    have tx25 : x25.toInt = x20.toInt - 1 := z_tsub ex25 rfl z_l1 (by omega) (by omega)
    exact z_iret hx hb hr hK hS (Nat.le_of_ble_eq_true rfl) (Nat.le_of_ble_eq_true rfl) hlocks dX10_addDip_70 (shC c, ad, I21, JX, PC c ad) hW ⟨I21, rfl, f22, hS23, Or.inl ⟨by omega, by omega, z_dp_of (by omega) hZ19 eI21 ex20⟩⟩
  · have g26 := z_f_nlt rfl z_l30 c2
    refine lv_iconst (v := (-1)) hx hb dX10_addDip_9 (by decide) ?_
    exact z_iret hx hb hr hK hS (Nat.le_of_ble_eq_true rfl) (Nat.le_of_ble_eq_true rfl) hlocks dX10_addDip_10 (shC c, ad, I, JX, PC c ad) hW ⟨I, rfl, z_fr_0, hS0, Or.inr ⟨by omega, by decide, z_sk_0⟩⟩
noncomputable def L_X11_deliver_r : z_L := [(1000, 999)]
set_option maxHeartbeats 8000000 in
set_option maxRecDepth 100000 in
theorem sx_X11_deliver_r (l : Launch) (G : z_G) (ad : Nat → Nat) (c : z_C) (I : z_I) (hB : z_iB I) (a1 : Int32) (a2 : Int32) (hc : z_okc c) (h10 : c.1 ≤ 10) (hsn : (I 0 8).toInt = (c.1 : Int)) (hS0 : z_iS c I) : z_M l yX11_deliver wsX11_deliver { frames := 2, cells := 0, slots := 0, locals := 34 } [.ref (ad 0), .int a1, .int a2] G (shC c, ad, I, JX, PC c ad) (fun r u1 => ∃ I1 : z_I, u1 = (shC c, ad, I1, JX, PC c ad) ∧ z_iB I1 ∧ z_fr L_X11_deliver_r I1 I ∧ z_iS c I1 ∧ (((0 ≤ a1.toInt ∧ a1.toInt < (I 0 8).toInt ∧ 1 ≤ a2.toInt ∧ a2.toInt ≤ 100000 ∧ (I (100 + 8 * a1.toNatClampNeg) 5).toInt < 30) ∧ r = (I (100 + 8 * a1.toNatClampNeg) 6) + a2 ∧ z_dl I1 I a1.toNatClampNeg a2) ∨ (¬ (0 ≤ a1.toInt ∧ a1.toInt < (I 0 8).toInt ∧ 1 ≤ a2.toInt ∧ a2.toInt ≤ 100000 ∧ (I (100 + 8 * a1.toNatClampNeg) 5).toInt < 30) ∧ r = -1 ∧ z_sk I1 I))) 0 0 := by
  intro sz
  refine z_headQ (cc := cX11_deliver) (maxL := 4) (ret := (some .int)) (by decide) rfl (Nat.le_of_ble_eq_true rfl) ?_
  intro p e s m below meth c0 ls hIn hK hsz hW hl
  obtain ⟨hx, hb, hr, hml, hown, hts, hlocks, hname⟩ := hIn
  subst hsz
  have hown : s.vm.findClass RX11 = some m.cls := hown
  have hA : ∀ q : Nat, s.heap.size ≤ q → z_A (shC c, ad, I, JX, PC c ad) s.heap.size q := fun q h => Or.inr h
  generalize hAe : z_A (shC c, ad, I, JX, PC c ad) s.heap.size = A at *
  have hS : va_S A s.heap s.heap [] := va_S.rf
  have hl : lv_has ls 4 [(0, .ref (ad 0)), (1, .int a1), (2, .int a2)] := hl
  refine lv_aload_n hx hb dX11_deliver_0 rfl (lv_at hl 0 rfl) ?_
  refine lv_iload_n hx hb dX11_deliver_1 rfl (lv_at hl 1 rfl) ?_
  refine z_cq hW hS hA (va_runV (As := [.int a1]) (rest := []) ⟨hx, hb, hml, hown, hts⟩ (sx_X11_stationAt_e l G ad c I ⟨(by show 0 ≤ (I 0 0).toInt ∧ (I 0 0).toInt ≤ 719; exact hB.1), (by show 0 ≤ (I 0 8).toInt ∧ (I 0 8).toInt ≤ 10; exact hB.2)⟩ a1 hc h10 hsn _) (cwV 1 hts gX11_deliver_X11_stationAt rfl rfl rfl (by decide +kernel) ⟨Nat.le_of_ble_eq_true rfl, Nat.le_of_ble_eq_true rfl⟩) (z_preV (i := 0) hK hW rfl rfl) rfl rfl hl.1 rfl (lv_room (Nat.le_of_ble_eq_true rfl)) dX11_deliver_2 ⟨Nat.le_of_ble_eq_true rfl, Nat.le_of_ble_eq_true rfl⟩) (fun r u1 H locs hp hW hS => ?_)
  obtain ⟨e9, hp⟩ := hp
  rw [e9] at hW
  rcases hp with ⟨rfl, h2⟩ | ⟨k1, hk1, ek1, h3, rfl⟩
  · refine W.eq (g2 := F0 m 5 ls (.null :: [])) rfl ?_
    refine lv_astore_nN (lv' := [(3, .null), (0, .ref (ad 0)), (1, .int a1), (2, .int a2)]) hx hb dX11_deliver_5 rfl hl (by decide) rfl (fun ls hl => ?_)
    refine lv_aload_nN hx hb dX11_deliver_6 rfl (lv_at hl 0 rfl) ?_
    refine lv_ifnullN (tgt := 20) hx hb dX11_deliver_7 (by decide) ?_
    refine lv_iconst (v := (-1)) hx hb dX11_deliver_20 (by decide) ?_
    exact z_iret hx hb hr hK hS (Nat.le_of_ble_eq_true rfl) (Nat.le_of_ble_eq_true rfl) hlocks dX11_deliver_21 (shC c, ad, I, JX, PC c ad) hW ⟨I, rfl, ⟨(by show 0 ≤ (I 0 0).toInt ∧ (I 0 0).toInt ≤ 719; exact hB.1), (by show 0 ≤ (I 0 8).toInt ∧ (I 0 8).toInt ≤ 10; exact hB.2)⟩, z_fr_0, hS0, Or.inr ⟨by omega, rfl, z_sk_0⟩⟩
  · refine W.eq (g2 := F0 m 5 ls (.ref (ad (100 + 8 * k1)) :: [])) rfl ?_
    refine lv_astore_n (lv' := [(3, .ref (ad (100 + 8 * k1))), (0, .ref (ad 0)), (1, .int a1), (2, .int a2)]) hx hb dX11_deliver_5 rfl hl (by decide) rfl (fun ls hl => ?_)
    refine lv_aload_n hx hb dX11_deliver_6 rfl (lv_at hl 0 rfl) ?_
    refine lv_ifnull hx hb dX11_deliver_7 ?_
    refine lv_iload_n hx hb dX11_deliver_10 rfl (lv_at hl 3 rfl) ?_
    refine lv_iconst (v := 1) hx hb dX11_deliver_11 (by decide) ?_
    refine lv_ldc (v := 100000) hx hb hown (hts (.constant RX11 230 (100000)) (me_s (me_l (me_l (List.mem_of_getElem? (i := 0) rfl))))) dX11_deliver_12 ?_
    refine z_ci hW hS hA (va_runS (As := [.int a2, .int 1, .int 100000]) (rest := []) ⟨hx, hb, hml, hown, hts⟩ (sx_X11_within_e l G ad c I  a2 1 100000 _) (va_cwS 3 hts gX11_deliver_X11_within rfl rfl rfl (by decide +kernel) ⟨Nat.le_of_ble_eq_true rfl, Nat.le_of_ble_eq_true rfl⟩) (z_preS hK hW) rfl rfl hl.1 rfl (lv_room (Nat.le_of_ble_eq_true rfl)) dX11_deliver_14 ⟨Nat.le_of_ble_eq_true rfl, Nat.le_of_ble_eq_true rfl⟩) (fun r u1 H locs hp hW hS => ?_)
    obtain ⟨e9, hp⟩ := hp
    rw [e9] at hW
    rcases hp with ⟨rfl, h4⟩ | ⟨rfl, h4⟩
    · have h5 := h4
      have z6 := z_l1
      have z7 := z_l100000
      refine lv_if_ne (tgt := 22) hx hb dX11_deliver_17 (by decide) (fun c8 => ?_) (fun c8 => absurd c8 (by decide))
      refine lv_aload_n hx hb dX11_deliver_22 rfl (lv_at hl 0 rfl) ?_
      refine lv_iload_n hx hb dX11_deliver_23 rfl (lv_at hl 3 rfl) ?_
      refine z_ci hW hS hA (va_runV (As := [.int a2]) (rest := []) ⟨hx, hb, hml, hown, hts⟩ (sx_X10_addDelivery_r l G ad c I  k1 a2 hk1 h10 hS0 _) (cwV 1 hts gX11_deliver_X10_addDelivery rfl rfl rfl (by decide +kernel) ⟨Nat.le_of_ble_eq_true rfl, Nat.le_of_ble_eq_true rfl⟩) (z_preV (i := (100 + 8 * k1)) hK hW (z_ss0 hk1 h10) rfl) rfl rfl hl.1 rfl (lv_room (Nat.le_of_ble_eq_true rfl)) dX11_deliver_24 ⟨Nat.le_of_ble_eq_true rfl, Nat.le_of_ble_eq_true rfl⟩) (fun r u1 H locs hp hW hS => ?_)
      obtain ⟨I9, e9, fI9, SI9, hp⟩ := hp
      rw [e9] at hW
      have f10 := z_fr_sub (L := L_X11_deliver_r) z_fr_0 fI9 (by decide)
      have k11 : 0 ≤ (I9 0 0).toInt ∧ (I9 0 0).toInt ≤ 719 := by rw [fI9 0 0 (by decide)]; exact (by show 0 ≤ (I 0 0).toInt ∧ (I 0 0).toInt ≤ 719; exact hB.1)
      have k12 : 0 ≤ (I9 0 8).toInt ∧ (I9 0 8).toInt ≤ 10 := by rw [fI9 0 8 (by decide)]; exact (by show 0 ≤ (I 0 8).toInt ∧ (I 0 8).toInt ≤ 10; exact hB.2)
      refine lv_topi (fun x13 ex13 => ?_)
      rw [← ex13] at hp
      rcases hp with ⟨h14, h15, h16⟩ | ⟨h14, h15, h16⟩
      · exact z_iret hx hb hr hK hS (Nat.le_of_ble_eq_true rfl) (Nat.le_of_ble_eq_true rfl) hlocks dX11_deliver_27 (shC c, ad, I9, JX, PC c ad) hW ⟨I9, rfl, ⟨(by show 0 ≤ (I9 0 0).toInt ∧ (I9 0 0).toInt ≤ 719; exact k11), (by show 0 ≤ (I9 0 8).toInt ∧ (I9 0 8).toInt ≤ 10; exact k12)⟩, f10, SI9, Or.inl ⟨by rw [ek1]; omega, by rw [ek1]; exact h15, by rw [ek1]; exact h16⟩⟩
      · exact z_iret hx hb hr hK hS (Nat.le_of_ble_eq_true rfl) (Nat.le_of_ble_eq_true rfl) hlocks dX11_deliver_27 (shC c, ad, I9, JX, PC c ad) hW ⟨I9, rfl, ⟨(by show 0 ≤ (I9 0 0).toInt ∧ (I9 0 0).toInt ≤ 719; exact k11), (by show 0 ≤ (I9 0 8).toInt ∧ (I9 0 8).toInt ≤ 10; exact k12)⟩, f10, SI9, Or.inr ⟨by rw [ek1]; omega, h15, h16⟩⟩
    · have h17 := h4
      have z18 := z_l1
      have z19 := z_l100000
      refine lv_if_ne (tgt := 22) hx hb dX11_deliver_17 (by decide) (fun c20 => absurd (by decide) c20) (fun c20 => ?_)
      refine lv_iconst (v := (-1)) hx hb dX11_deliver_20 (by decide) ?_
      exact z_iret hx hb hr hK hS (Nat.le_of_ble_eq_true rfl) (Nat.le_of_ble_eq_true rfl) hlocks dX11_deliver_21 (shC c, ad, I, JX, PC c ad) hW ⟨I, rfl, ⟨(by show 0 ≤ (I 0 0).toInt ∧ (I 0 0).toInt ≤ 719; exact hB.1), (by show 0 ≤ (I 0 8).toInt ∧ (I 0 8).toInt ≤ 10; exact hB.2)⟩, z_fr_0, hS0, Or.inr ⟨by omega, rfl, z_sk_0⟩⟩
noncomputable def L_X11_dip_r : z_L := [(1000, 999)]
set_option maxHeartbeats 8000000 in
set_option maxRecDepth 100000 in
theorem sx_X11_dip_r (l : Launch) (G : z_G) (ad : Nat → Nat) (c : z_C) (I : z_I) (hB : z_iB I) (hP : z_iP I) (a1 : Int32) (a2 : Int32) (hc : z_okc c) (h10 : c.1 ≤ 10) (hsn : (I 0 8).toInt = (c.1 : Int)) (hS0 : z_iS c I) : z_M l yX11_dip wsX11_dip { frames := 2, cells := 0, slots := 0, locals := 35 } [.ref (ad 0), .int a1, .int a2] G (shC c, ad, I, JX, PC c ad) (fun r u1 => ∃ I1 : z_I, u1 = (shC c, ad, I1, JX, PC c ad) ∧ z_iB I1 ∧ z_iP I1 ∧ z_fr L_X11_dip_r I1 I ∧ z_iS c I1 ∧ (((0 ≤ a1.toInt ∧ a1.toInt < (I 0 8).toInt ∧ 0 ≤ a2.toInt ∧ a2.toInt ≤ 200000 ∧ (I (100 + 8 * a1.toNatClampNeg) 4).toInt < 30) ∧ r.toInt = (I (100 + 8 * a1.toNatClampNeg) 4).toInt ∧ z_dp I1 I a1.toNatClampNeg) ∨ (¬ (0 ≤ a1.toInt ∧ a1.toInt < (I 0 8).toInt ∧ 0 ≤ a2.toInt ∧ a2.toInt ≤ 200000 ∧ (I (100 + 8 * a1.toNatClampNeg) 4).toInt < 30) ∧ r.toInt = -1 ∧ z_sk I1 I))) 0 0 := by
  intro sz
  refine z_headQ (cc := cX11_dip) (maxL := 4) (ret := (some .int)) (by decide) rfl (Nat.le_of_ble_eq_true rfl) ?_
  intro p e s m below meth c0 ls hIn hK hsz hW hl
  obtain ⟨hx, hb, hr, hml, hown, hts, hlocks, hname⟩ := hIn
  subst hsz
  have hown : s.vm.findClass RX11 = some m.cls := hown
  have hA : ∀ q : Nat, s.heap.size ≤ q → z_A (shC c, ad, I, JX, PC c ad) s.heap.size q := fun q h => Or.inr h
  generalize hAe : z_A (shC c, ad, I, JX, PC c ad) s.heap.size = A at *
  have hS : va_S A s.heap s.heap [] := va_S.rf
  have hl : lv_has ls 4 [(0, .ref (ad 0)), (1, .int a1), (2, .int a2)] := hl
  refine lv_aload_n hx hb dX11_dip_0 rfl (lv_at hl 0 rfl) ?_
  refine lv_iload_n hx hb dX11_dip_1 rfl (lv_at hl 1 rfl) ?_
  refine z_cq hW hS hA (va_runV (As := [.int a1]) (rest := []) ⟨hx, hb, hml, hown, hts⟩ (sx_X11_stationAt_e l G ad c I ⟨(by show 0 ≤ (I 0 0).toInt ∧ (I 0 0).toInt ≤ 719; exact hB.1), (by show 0 ≤ (I 0 8).toInt ∧ (I 0 8).toInt ≤ 10; exact hB.2)⟩ a1 hc h10 hsn _) (cwV 1 hts gX11_dip_X11_stationAt rfl rfl rfl (by decide +kernel) ⟨Nat.le_of_ble_eq_true rfl, Nat.le_of_ble_eq_true rfl⟩) (z_preV (i := 0) hK hW rfl rfl) rfl rfl hl.1 rfl (lv_room (Nat.le_of_ble_eq_true rfl)) dX11_dip_2 ⟨Nat.le_of_ble_eq_true rfl, Nat.le_of_ble_eq_true rfl⟩) (fun r u1 H locs hp hW hS => ?_)
  obtain ⟨e9, hp⟩ := hp
  rw [e9] at hW
  rcases hp with ⟨rfl, h2⟩ | ⟨k1, hk1, ek1, h3, rfl⟩
  · refine W.eq (g2 := F0 m 5 ls (.null :: [])) rfl ?_
    refine lv_astore_nN (lv' := [(3, .null), (0, .ref (ad 0)), (1, .int a1), (2, .int a2)]) hx hb dX11_dip_5 rfl hl (by decide) rfl (fun ls hl => ?_)
    refine lv_aload_nN hx hb dX11_dip_6 rfl (lv_at hl 0 rfl) ?_
    refine lv_ifnullN (tgt := 20) hx hb dX11_dip_7 (by decide) ?_
    refine lv_iconst (v := (-1)) hx hb dX11_dip_20 (by decide) ?_
    exact z_iret hx hb hr hK hS (Nat.le_of_ble_eq_true rfl) (Nat.le_of_ble_eq_true rfl) hlocks dX11_dip_21 (shC c, ad, I, JX, PC c ad) hW ⟨I, rfl, ⟨(by show 0 ≤ (I 0 0).toInt ∧ (I 0 0).toInt ≤ 719; exact hB.1), (by show 0 ≤ (I 0 8).toInt ∧ (I 0 8).toInt ≤ 10; exact hB.2)⟩, (by show 0 ≤ (I 30 8).toInt ∧ (I 30 8).toInt ≤ 300; exact hP), z_fr_0, hS0, Or.inr ⟨by omega, by decide, z_sk_0⟩⟩
  · refine W.eq (g2 := F0 m 5 ls (.ref (ad (100 + 8 * k1)) :: [])) rfl ?_
    refine lv_astore_n (lv' := [(3, .ref (ad (100 + 8 * k1))), (0, .ref (ad 0)), (1, .int a1), (2, .int a2)]) hx hb dX11_dip_5 rfl hl (by decide) rfl (fun ls hl => ?_)
    refine lv_aload_n hx hb dX11_dip_6 rfl (lv_at hl 0 rfl) ?_
    refine lv_ifnull hx hb dX11_dip_7 ?_
    refine lv_iload_n hx hb dX11_dip_10 rfl (lv_at hl 3 rfl) ?_
    refine lv_iconst (v := 0) hx hb dX11_dip_11 (by decide) ?_
    refine lv_ldc (v := 200000) hx hb hown (hts (.constant RX11 234 (200000)) (me_s (me_l (me_l (me_l (me_l (List.mem_of_getElem? (i := 0) rfl))))))) dX11_dip_12 ?_
    refine z_ci hW hS hA (va_runS (As := [.int a2, .int 0, .int 200000]) (rest := []) ⟨hx, hb, hml, hown, hts⟩ (sx_X11_within_e l G ad c I  a2 0 200000 _) (va_cwS 3 hts gX11_dip_X11_within rfl rfl rfl (by decide +kernel) ⟨Nat.le_of_ble_eq_true rfl, Nat.le_of_ble_eq_true rfl⟩) (z_preS hK hW) rfl rfl hl.1 rfl (lv_room (Nat.le_of_ble_eq_true rfl)) dX11_dip_14 ⟨Nat.le_of_ble_eq_true rfl, Nat.le_of_ble_eq_true rfl⟩) (fun r u1 H locs hp hW hS => ?_)
    obtain ⟨e9, hp⟩ := hp
    rw [e9] at hW
    rcases hp with ⟨rfl, h4⟩ | ⟨rfl, h4⟩
    · have h5 := h4
      have z6 := z_l0
      have z7 := z_l200000
      refine lv_if_ne (tgt := 22) hx hb dX11_dip_17 (by decide) (fun c8 => ?_) (fun c8 => absurd c8 (by decide))
      refine lv_aload_n hx hb dX11_dip_22 rfl (lv_at hl 0 rfl) ?_
      refine lv_iload_n hx hb dX11_dip_23 rfl (lv_at hl 3 rfl) ?_
      refine lv_aload_n hx hb dX11_dip_24 rfl (lv_at hl 1 rfl) ?_
      have r9 : 0 ≤ (I 0 0).toInt ∧ (I 0 0).toInt ≤ 719 := hB.1
      refine z_get (T := TX11) (N := 13) (ci := 11) (i := 0) (v := .int (I 0 0)) hx hb hts zj_X11_dip_X11 hown hK hW rfl rfl 0 (by decide) (hts (.fieldLink RX11 85 "PetrolBoard" "today" "I") (me_s (me_l (me_l (me_l (me_l (List.mem_of_getElem? (i := 1) rfl))))))) (fun _ h => h) rfl dX11_dip_25 ?_
      refine lv_aload_n hx hb dX11_dip_28 rfl (lv_at hl 1 rfl) ?_
      refine z_get (T := TX11) (N := 13) (ci := 11) (i := 0) (v := .ref (ad 30)) hx hb hts zj_X11_dip_X11 hown hK hW rfl rfl 6 (by decide) (hts (.fieldLink RX11 44 "PetrolBoard" "pours" "LPetrolBoard$Pours;") (me_s (me_l (me_l (me_l (me_l (List.mem_of_getElem? (i := 2) rfl))))))) (fun _ h => h) rfl dX11_dip_29 ?_
      have r10 : 0 ≤ (I 30 8).toInt ∧ (I 30 8).toInt ≤ 300 := hP
      refine z_get (T := TX8) (N := 9) (ci := 8) (i := 30) (v := .int (I 30 8)) hx hb hts zj_X11_dip_X8 hown hK hW rfl rfl 8 (by decide) (hts (.fieldLink RX11 201 "PetrolBoard$Pours" "number" "I") (me_s (me_l (me_l (me_l (me_l (List.mem_of_getElem? (i := 3) rfl))))))) (fun _ h => h) rfl dX11_dip_32 ?_
      refine z_ci hW hS hA (va_runV (As := [.int a2, .int (I 0 0), .int (I 30 8)]) (rest := []) ⟨hx, hb, hml, hown, hts⟩ (sx_X10_addDip_r l G ad c I  k1 a2 (I 0 0) (I 30 8) hk1 h10 hS0 _) (cwV 3 hts gX11_dip_X10_addDip rfl rfl rfl (by decide +kernel) ⟨Nat.le_of_ble_eq_true rfl, Nat.le_of_ble_eq_true rfl⟩) (z_preV (i := (100 + 8 * k1)) hK hW (z_ss0 hk1 h10) rfl) rfl rfl hl.1 rfl (lv_room (Nat.le_of_ble_eq_true rfl)) dX11_dip_35 ⟨Nat.le_of_ble_eq_true rfl, Nat.le_of_ble_eq_true rfl⟩) (fun r u1 H locs hp hW hS => ?_)
      obtain ⟨I11, e9, fI11, SI11, hp⟩ := hp
      rw [e9] at hW
      have f12 := z_fr_sub (L := L_X11_dip_r) z_fr_0 fI11 (by decide)
      have k13 : 0 ≤ (I11 0 0).toInt ∧ (I11 0 0).toInt ≤ 719 := by rw [fI11 0 0 (by decide)]; exact (by show 0 ≤ (I 0 0).toInt ∧ (I 0 0).toInt ≤ 719; exact hB.1)
      have k14 : 0 ≤ (I11 0 8).toInt ∧ (I11 0 8).toInt ≤ 10 := by rw [fI11 0 8 (by decide)]; exact (by show 0 ≤ (I 0 8).toInt ∧ (I 0 8).toInt ≤ 10; exact hB.2)
      have k15 : 0 ≤ (I11 30 8).toInt ∧ (I11 30 8).toInt ≤ 300 := by rw [fI11 30 8 (by decide)]; exact (by show 0 ≤ (I 30 8).toInt ∧ (I 30 8).toInt ≤ 300; exact hP)
      refine lv_topi (fun x16 ex16 => ?_)
      rw [← ex16] at hp
      rcases hp with ⟨h17, h18, h19⟩ | ⟨h17, h18, h19⟩
      · exact z_iret hx hb hr hK hS (Nat.le_of_ble_eq_true rfl) (Nat.le_of_ble_eq_true rfl) hlocks dX11_dip_38 (shC c, ad, I11, JX, PC c ad) hW ⟨I11, rfl, ⟨(by show 0 ≤ (I11 0 0).toInt ∧ (I11 0 0).toInt ≤ 719; exact k13), (by show 0 ≤ (I11 0 8).toInt ∧ (I11 0 8).toInt ≤ 10; exact k14)⟩, (by show 0 ≤ (I11 30 8).toInt ∧ (I11 30 8).toInt ≤ 300; exact k15), f12, SI11, Or.inl ⟨by rw [ek1]; omega, by rw [ek1]; exact h18, by rw [ek1]; exact h19⟩⟩
      · exact z_iret hx hb hr hK hS (Nat.le_of_ble_eq_true rfl) (Nat.le_of_ble_eq_true rfl) hlocks dX11_dip_38 (shC c, ad, I11, JX, PC c ad) hW ⟨I11, rfl, ⟨(by show 0 ≤ (I11 0 0).toInt ∧ (I11 0 0).toInt ≤ 719; exact k13), (by show 0 ≤ (I11 0 8).toInt ∧ (I11 0 8).toInt ≤ 10; exact k14)⟩, (by show 0 ≤ (I11 30 8).toInt ∧ (I11 30 8).toInt ≤ 300; exact k15), f12, SI11, Or.inr ⟨by rw [ek1]; omega, h18, h19⟩⟩
    · have h20 := h4
      have z21 := z_l0
      have z22 := z_l200000
      refine lv_if_ne (tgt := 22) hx hb dX11_dip_17 (by decide) (fun c23 => absurd (by decide) c23) (fun c23 => ?_)
      refine lv_iconst (v := (-1)) hx hb dX11_dip_20 (by decide) ?_
      exact z_iret hx hb hr hK hS (Nat.le_of_ble_eq_true rfl) (Nat.le_of_ble_eq_true rfl) hlocks dX11_dip_21 (shC c, ad, I, JX, PC c ad) hW ⟨I, rfl, ⟨(by show 0 ≤ (I 0 0).toInt ∧ (I 0 0).toInt ≤ 719; exact hB.1), (by show 0 ≤ (I 0 8).toInt ∧ (I 0 8).toInt ≤ 10; exact hB.2)⟩, (by show 0 ≤ (I 30 8).toInt ∧ (I 30 8).toInt ≤ 300; exact hP), z_fr_0, hS0, Or.inr ⟨by omega, by decide, z_sk_0⟩⟩
set_option maxHeartbeats 8000000 in
set_option maxRecDepth 100000 in
theorem sx_X11_station_s (l : Launch) (G : z_G) (ad : Nat → Nat) (c : z_C) (I : z_I) (h10 : c.1 ≤ 10) (hsn : (I 0 8).toInt = (c.1 : Int)) : z_M l yX11_station wsX11_station { frames := 2, cells := 8, slots := 220, locals := 40 } [.ref (ad 0)] G (shC c, ad, I, JX, PC c ad) (fun r u1 => ∃ (c1 : z_C) (ad1 : Nat → Nat) (I1 : z_I), u1 = (shC c1, ad1, I1, JX, PC c1 ad1) ∧ c1.2 = c.2 ∧ c1.1 ≤ 10 ∧ (I1 0 8).toInt = (c1.1 : Int) ∧ (∀ j, j < 75 → ad1 j = ad j) ∧ (∀ a k, a < 75 → ¬ (a = 0 ∧ k = 8) → I1 a k = I a k) ∧ (z_iS c I → z_iS c1 I1) ∧ (((I 0 8).toInt < 10 ∧ r.toInt = (I 0 8).toInt ∧ (I1 0 8).toInt = (I 0 8).toInt + 1 ∧ z_sn I1 I c.1) ∨ (¬ (I 0 8).toInt < 10 ∧ r.toInt = -1 ∧ (I1 0 8).toInt = (I 0 8).toInt ∧ z_sk I1 I))) 8 220 := by
  intro sz
  refine z_headQ (cc := cX11_station) (maxL := 1) (ret := (some .int)) (by decide) rfl (Nat.le_of_ble_eq_true rfl) ?_
  intro p e s m below meth c0 ls hIn hK hsz hW hl
  obtain ⟨hx, hb, hr, hml, hown, hts, hlocks, hname⟩ := hIn
  subst hsz
  have hown : s.vm.findClass RX11 = some m.cls := hown
  have hA : ∀ q : Nat, s.heap.size ≤ q → z_A (shC c, ad, I, JX, PC c ad) s.heap.size q := fun q h => Or.inr h
  generalize hAe : z_A (shC c, ad, I, JX, PC c ad) s.heap.size = A at *
  have hS : va_S A s.heap s.heap [] := va_S.rf
  have hl : lv_has ls 1 [(0, .ref (ad 0))] := hl
  refine lv_aload_n hx hb dX11_station_0 rfl (lv_at hl 0 rfl) ?_
  refine z_get (T := TX11) (N := 13) (ci := 11) (i := 0) (v := .int (I 0 8)) hx hb hts zj_X11_station_X11 hown hK hW rfl rfl 8 (by decide) (hts (.fieldLink RX11 178 "PetrolBoard" "stationNumber" "I") (me_s (me_l (me_l (List.mem_of_getElem? (i := 0) rfl))))) (fun _ h => h) rfl dX11_station_1 ?_
  refine lv_aload_n hx hb dX11_station_4 rfl (lv_at hl 0 rfl) ?_
  refine z_get (T := TX11) (N := 13) (ci := 11) (i := 0) (v := .ref (ad 39)) hx hb hts zj_X11_station_X11 hown hK hW rfl rfl 7 (by decide) (hts (.fieldLink RX11 50 "PetrolBoard" "stations" "[LPetrolBoard$Station;") (me_s (me_l (me_l (List.mem_of_getElem? (i := 1) rfl))))) (fun _ h => h) rfl dX11_station_5 ?_
  refine z_alen (i := 39) (v := 10) hx hb hK hW rfl (by simp [z_tys]) (by rfl) dX11_station_8 ?_
  refine lv_icmp_lt (tgt := 14) hx hb dX11_station_9 (by decide) (fun c1 => ?_) (fun c1 => ?_)
  · have g1 := z_f_lt rfl (show (10 : Int32).toInt = 10 by decide) c1
    have h9 : c.1 < 10 := by omega
    refine lv_aload_n hx hb dX11_station_14 rfl (lv_at hl 0 rfl) ?_
    refine z_get (T := TX11) (N := 13) (ci := 11) (i := 0) (v := .ref (ad 39)) hx hb hts zj_X11_station_X11 hown hK hW rfl rfl 7 (by decide) (hts (.fieldLink RX11 50 "PetrolBoard" "stations" "[LPetrolBoard$Station;") (me_s (me_l (me_l (List.mem_of_getElem? (i := 1) rfl))))) (fun _ h => h) rfl dX11_station_15 ?_
    refine lv_aload_n hx hb dX11_station_18 rfl (lv_at hl 0 rfl) ?_
    refine z_get (T := TX11) (N := 13) (ci := 11) (i := 0) (v := .int (I 0 8)) hx hb hts zj_X11_station_X11 hown hK hW rfl rfl 8 (by decide) (hts (.fieldLink RX11 178 "PetrolBoard" "stationNumber" "I") (me_s (me_l (me_l (List.mem_of_getElem? (i := 0) rfl))))) (fun _ h => h) rfl dX11_station_19 ?_
    obtain ⟨ad1, ead⟩ : ∃ f, f = z_ad8 ad (z_i0 c) s.heap.size := ⟨_, rfl⟩
    obtain ⟨P1, eP1⟩ : ∃ f, f = z_P8 (PC c ad) (z_i0 c) := ⟨_, rfl⟩
    have hlo : ∀ j, j < 75 → ad1 j = ad j := fun j hj => by rw [ead]; exact if_neg (by unfold z_i0; omega)
    have hnew : ∀ j, j < 8 → ad1 (z_i0 c + j) = s.heap.size + j := fun j hj => by rw [ead]; show (if _ then _ else _) = _; rw [if_pos (by omega)]; omega
    have hW := z_re8 (q := s.heap.size) h9 hW
    rw [← ead, ← eP1] at hW
    have hl : lv_has ls 1 [(0, .ref (ad1 0))] := by rw [hlo 0 (by decide)]; exact hl
    refine W.eq (g2 := F0 m 22 ls [.int (I 0 8), .ref (ad1 39)]) (by rw [hlo 39 (by decide)]) ?_
    refine z_new (z_i0 c) ad1 (T := TX10) (N := 10) (ci := 10) hx hb hts zj_X11_station_X10 tyX10 tyX10_ok hown (hts (.classLink RX11 48 RX10) (me_s (me_l (me_l (List.mem_of_getElem? (i := 2) rfl))))) (hts (.instantiable RX10 10) (me_s (me_l (me_l (List.mem_of_getElem? (i := 3) rfl))))) (hts (.initialized RX10) (me_s (me_l (me_l (List.mem_of_getElem? (i := 4) rfl))))) hK hW hS hA (hnew 0 (by decide)) (fun _ _ => rfl) rfl (fun k hk => (z_v0 (if_pos (by omega)) rfl (by rw [eP1]; exact if_pos rfl) (ndX10 k hk)).symm) (Nat.le_of_ble_eq_true rfl) (Nat.le_of_ble_eq_true rfl) dX11_station_22 (fun H hz1 hW hS => ?_)
    refine lv_dup hx hb dX11_station_25 rfl ?_
    refine z_cc hW hS hA (va_runIN (As := []) (rest := [.ref (ad1 (z_i0 c)), .int (I 0 8), .ref (ad1 39)]) ⟨hx, hb, hml, hown, hts⟩ (sx_X10_init l G (z_sh (shC c) (z_i0 c) (.inr 10)) ad1 (z_I8 I (z_i0 c)) JX P1 (z_i0 c) _ (by simp [z_sh]) (fun j hj => by rw [hz1, Nat.add_assoc, hnew (1 + j) (by omega)]; omega) (fun j hj k => if_pos (by omega))) ⟨va_cnB 0 hts gX11_station_X10_init_n181 rfl rfl rfl (hK.2.2.1 _ (List.mem_of_getElem? (i := 11) rfl)) (hts (.initialized RX10) (me_s (me_l (me_l (List.mem_of_getElem? (i := 4) rfl))))) (by decide +kernel) ⟨(Nat.le_of_ble_eq_true rfl), (Nat.le_of_ble_eq_true rfl)⟩, rfl, (hts (.instanceMethod yX10_init) (me_s (me_l (me_l (List.mem_of_getElem? (i := 5) rfl)))))⟩ (z_preS hK hW) rfl rfl hl.1 rfl (lv_room (Nat.le_of_ble_eq_true rfl)) dX11_station_26 ⟨(Nat.le_of_ble_eq_true rfl), (Nat.le_of_ble_eq_true rfl)⟩) (fun H locs hz1 hW hS => ?_)
    have hsh39 : z_shr (z_sh (shC c) (z_i0 c) (.inr 10)) (z_i0 c) 30 7 39 = some (.inl (.object RX10, 10)) := by rw [z_shC_1 h9]; rfl
    have hsh0 : z_shr (z_sh (shC c) (z_i0 c) (.inr 10)) (z_i0 c) 30 7 0 = some (.inr 11) := by rw [z_shC_1 h9]; rfl
    have hshi : z_shr (z_sh (shC c) (z_i0 c) (.inr 10)) (z_i0 c) 30 7 (z_i0 c) = some (.inr 10) := (z_shr_o 7).trans (by simp [z_sh])
    refine z_aast (i := 39) (j := z_i0 c) (x := I 0 8) (ci := 10) hx hb hK hW hS hsh39 (by simp [z_tys]) hshi rfl (z_ix rfl (by omega) (by omega)) dX11_station_29 (fun H locs hz1 hW hS => ?_)
    have hI8 : z_I8 I (z_i0 c) 0 8 = I 0 8 := if_neg (by unfold z_i0; omega)
    have hx9 : (I 0 8).toNatClampNeg = c.1 := by have := z_clt (x := I 0 8) hsn (by omega); omega
    obtain ⟨P2, eP2⟩ : ∃ f, f = z_up (z_ps z_f10 P1 (z_i0 c) ad1 7) 39 (I 0 8).toNatClampNeg (some (ad1 (z_i0 c))) := ⟨_, rfl⟩
    rw [← eP2] at hW
    refine lv_aload_n hx hb dX11_station_30 rfl (lv_at hl 0 rfl) ?_
    refine lv_dup hx hb dX11_station_31 rfl ?_
    refine z_get (T := TX11) (N := 13) (ci := 11) (i := 0) (v := .int (I 0 8)) hx hb hts zj_X11_station_X11 hown hK hW hsh0 rfl 8 (by decide) (hts (.fieldLink RX11 178 "PetrolBoard" "stationNumber" "I") (me_s (me_l (me_l (List.mem_of_getElem? (i := 0) rfl))))) (fun _ h => h) (congrArg Value.int hI8) dX11_station_32 ?_
    refine lv_iconst (v := 1) hx hb dX11_station_35 (by decide) ?_
    refine lv_iadd hx hb dX11_station_36 ?_
    refine lv_topi (fun y ey => ?_)
    have ty : y.toInt = (c.1 : Int) + 1 := z_tadd ey hsn (show (1 : Int32).toInt = 1 by decide) (by omega) (by omega)
    refine z_put (T := TX11) (N := 13) (ci := 11) (i := 0) (v := .int y) (I1 := z_up (z_I8 I (z_i0 c)) 0 8 y) (J1 := JX) (P1 := P2) hx hb hts zj_X11_station_X11 tyX11 tyX11_ok nmX11 hown hK hW hS hsh0 rfl 8 (by decide) (hts (.fieldLink RX11 178 "PetrolBoard" "stationNumber" "I") (me_s (me_l (me_l (List.mem_of_getElem? (i := 0) rfl))))) (fun _ h => h) rfl rfl rfl (by first | rfl | exact congrArg _ z_up_s) (fun a b h ty => z_vI h ty) dX11_station_37 (fun H locs hz1 hW hS => ?_)
    obtain ⟨I2, eI2⟩ : ∃ f, f = z_up (z_I8 I (z_i0 c)) 0 8 y := ⟨_, rfl⟩
    rw [← eI2] at hW
    refine lv_aload_n hx hb dX11_station_40 rfl (lv_at hl 0 rfl) ?_
    refine z_get (T := TX11) (N := 13) (ci := 11) (i := 0) (v := .int y) hx hb hts zj_X11_station_X11 hown hK hW hsh0 rfl 8 (by decide) (hts (.fieldLink RX11 178 "PetrolBoard" "stationNumber" "I") (me_s (me_l (me_l (List.mem_of_getElem? (i := 0) rfl))))) (fun _ h => h) (congrArg Value.int (by rw [eI2, z_up_s])) dX11_station_41 ?_
    refine lv_iconst (v := 1) hx hb dX11_station_44 (by decide) ?_
    refine lv_isub hx hb dX11_station_45 ?_
    refine lv_topi (fun rr err => ?_)
    have trr : rr.toInt = (c.1 : Int) + 1 - 1 := z_tsub err ty (show (1 : Int32).toInt = 1 by decide) (by omega) (by omega)
    rw [eP2, eP1, ead] at hW
    have hW := z_st1 h9 hx9 hW
    rw [← ead] at hW
    exact z_iret hx hb hr hK hS (Nat.le_of_ble_eq_true rfl) (Nat.le_of_ble_eq_true rfl) hlocks dX11_station_46 (shC (z_c1 c), ad1, I2, JX, PC (z_c1 c) ad1) hW ⟨z_c1 c, ad1, I2, rfl, rfl, (by show c.1 + 1 ≤ 10; omega), (by rw [eI2, z_up_s, ty]; rfl), hlo, (fun a k ha hk => by rw [eI2]; by_cases q : a = 0; (· (rw [z_up_k (fun e => hk ⟨q, e⟩)]; exact if_neg (by unfold z_i0; omega))); (· (rw [z_up_n q]; exact if_neg (by unfold z_i0; omega)))), z_st2 eI2, Or.inl ⟨by omega, by omega, by rw [eI2, z_up_s, ty]; omega, z_sn_of h9 eI2⟩⟩
  · refine lv_iconst (v := (-1)) hx hb dX11_station_12 (by decide) ?_
    exact z_iret hx hb hr hK hS (Nat.le_of_ble_eq_true rfl) (Nat.le_of_ble_eq_true rfl) hlocks dX11_station_13 (shC c, ad, I, JX, PC c ad) hW ⟨c, ad, I, rfl, rfl, h10, hsn, fun _ _ => rfl, fun _ _ _ _ => rfl, fun h => h, Or.inr ⟨by have := z_f_nlt rfl (show (10 : Int32).toInt = 10 by decide) c1; omega, by decide, rfl, z_sk_0⟩⟩
