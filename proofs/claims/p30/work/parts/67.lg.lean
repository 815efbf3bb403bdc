
theorem z_l17 : (17 : Int32).toInt = 17 := by decide
theorem z_l18 : (18 : Int32).toInt = 18 := by decide
theorem z_l19 : (19 : Int32).toInt = 19 := by decide
theorem z_l21 : (21 : Int32).toInt = 21 := by decide
theorem z_l22 : (22 : Int32).toInt = 22 := by decide
theorem z_l25 : (25 : Int32).toInt = 25 := by decide
theorem z_l26 : (26 : Int32).toInt = 26 := by decide
theorem z_l27 : (27 : Int32).toInt = 27 := by decide
theorem z_l28 : (28 : Int32).toInt = 28 := by decide
theorem z_l31 : (31 : Int32).toInt = 31 := by decide
theorem z_l33 : (33 : Int32).toInt = 33 := by decide
theorem z_l34 : (34 : Int32).toInt = 34 := by decide
theorem z_l35 : (35 : Int32).toInt = 35 := by decide
/-! THE CLAIM OUT OF ONE WALK OF THE LAW'S BODY. Your part is whole_start (and what it stands on); all else here is the same for every law, but numbers. -/
noncomputable def R_law : String := "PetrolBoardLaw"
noncomputable def lw_P (b : Addr) (xs : List Int32) (args : Array Value) (s : State) : Prop := args = #[.ref b] ∧ s.IntsAt b xs ∧ xs.length ≤ 3584 ∧ (Jvm.Cond.and given_1 narrow_1).before args s = true
noncomputable def lw_Q (_ : Array Value) (s : State) (o : Outcome) (t : State) : Prop := o = .returned (some (.int 1)) ∧ Framed s o t [] 600000 7302250
noncomputable def lw_Z (below : List Frame) (a : Array Value) (s : State) : State → Prop := fun t => ∃ o, t.status = .running ∧ Ended t below o ∧ lw_Q a s o t
/-- the law's own end, with 1 on the stack, nothing written that was there before, its room as the claim has it -/
theorem lw_ret {p : Program} {l : Launch} {e : Env} {s : State} {m : MethodId} {below : List Frame} {meth : Method} {c : Code} {b : Nat} (hx : p.tables.exec = Jvm.exec) (hb : c.code = code) (hr : meth.sig.returnType = ret) (hlocks : meth.locks = false) {pc : Nat} {H : Heap} {ls : Array Slot} (hdg : decode code pc = .ok (.ireturn, 1)) : W p l e room_1 s m #[Value.ref b] below meth c H [] 600000 7302250 (lw_Z below #[Value.ref b] s) (F0 m pc ls [.int 1]) := by
  intro T hT X
  obtain ⟨fs, hret, hrun, hended, hW, hframe⟩ := X.leave (v := some (.int 1)) (hlocks := hlocks) (fun h => by rw [hr] at h; cases h)
  have hmeth' : T.vm.method? m = some meth := X.method'
  refine ⟨T.setFrames fs, ?_, .returned (some (.int 1)), hrun, hended, rfl, ⟨_, rfl⟩, hW, hframe⟩
  jvm_step X.here [X.here.top, hx, hb, hdg, hmeth', hr, ret, narrow_b1]
  (try refine ⟨rfl, ?_⟩); (try refine ⟨rfl, ?_⟩)
  first | (intro acts; rw [hret _ acts rfl rfl rfl]) | rw [hret _ _ rfl rfl rfl]
  exact Steps.refl _
/-- what holds at the law's entry: the machine, the code, the tables' words (any of lw_tbl by 'hts w (by decide +kernel)'), the script of L ints xs at the cell b, what the Statement gives of the start (any of its parts by flat_of_before) -/
noncomputable def lw_At (p : Program) (s : State) (m : MethodId) (meth : Method) (c : Code) (b L : Nat) (xs : Nat → Int32) : Prop :=
  p.tables.exec = Jvm.exec ∧ c.code = code ∧ meth.sig.returnType = ret ∧ c.maxLocals = 4 ∧ s.vm.findClass R_law = some m.cls ∧ (∀ w ∈ lw_tbl, w.before #[Value.ref b] s = true) ∧ va_X b L xs s s.heap ∧ b < s.heap.size ∧ meth.locks = false ∧ (Jvm.Cond.and given_1 narrow_1).before #[Value.ref b] s = true
noncomputable def z_EQ (Ix Im : z_I) : Prop := Ix 0 0 = Im 0 0 ∧ Ix 1 5 = Im 0 1 ∧ Ix 60 9 = Im 0 83
noncomputable def z_LX (c : z_C) (I : z_I) : Prop := z_iH I ∧ z_iR I ∧ z_iO I ∧ z_iC I ∧ z_iP I ∧ z_iL I ∧ z_iJ I ∧ z_iD I ∧ z_iB I ∧ z_okc c ∧ c.1 ≤ 10 ∧ z_iS c I ∧ (I 0 8).toInt = (c.1 : Int) ∧ (I 21 2).toInt = (c.2.1 : Int)
noncomputable def z_LM (I : z_I) : Prop := (z_ima I) ∧ (z_imb I) ∧ (z_imn I) ∧ (z_imp I) ∧ (z_imt I) ∧ (z_imd I) ∧ (z_img I) ∧ (z_ims I) ∧ (z_imr I) ∧ (z_imj I) ∧ (z_rg 36 0 99999 I) ∧ (z_rg 59 0 29 I) ∧ (z_rg 68 0 59 I) ∧ (z_rg 47 0 30 I) ∧ (z_rg 43 0 30 I) ∧ (z_rg 11 0 288 I) ∧ (z_rg 12 0 24 I) ∧ (z_rg 19 0 6200 I) ∧ (z_rg 20 0 6200 I) ∧ (z_rg 18 (-1) 6199 I) ∧ (z_Nd I) ∧ (z_Ex I) ∧ (z_rg 52 0 50 I) ∧ (z_rg 53 0 20 I) ∧ (z_rg 54 0 999 I) ∧ (z_rg 55 0 100 I) ∧ (z_rg 56 (-999) 999 I) ∧ (z_rg 58 0 15 I) ∧ (z_rg 57 (-300000) 1000000 I) ∧ (z_iro I)
theorem z_wr_b {L : z_L} {a k : Nat} (hL : L.all (fun e => decide (e.1 < 75)) = true) (ha : 75 ≤ a) : z_wr L a k = false := by
  cases hq : z_wr L a k with
  | false => rfl
  | true =>
    exfalso
    unfold z_wr at hq
    rw [List.any_eq_true] at hq
    obtain ⟨e, he, h2⟩ := hq
    rw [List.all_eq_true] at hL
    have h3 := hL e he
    simp only [z_ce, Bool.and_eq_true, Bool.or_eq_true, beq_iff_eq, decide_eq_true_eq] at h2 h3
    omega
theorem z_LX_X11_station {c c1 : z_C} {ad ad1 : Nat → Nat} {I I1 : z_I} (h : z_LX c I) (hq : c1.2 = c.2 ∧ c1.1 ≤ 10 ∧ (I1 0 8).toInt = (c1.1 : Int) ∧ (∀ j, j < 75 → ad1 j = ad j) ∧ (∀ a k, a < 75 → ¬ (a = 0 ∧ k = 8) → I1 a k = I a k) ∧ (z_iS c I → z_iS c1 I1)) : z_LX c1 I1 := by
  obtain ⟨h1, h2, h3, h4, h5, h6⟩ := hq
  exact ⟨⟨(by show 0 ≤ (I1 1 5).toInt ∧ (I1 1 5).toInt ≤ 30; rw [h5 1 5 (by decide) (by decide)]; exact h.1.1), (by show 0 ≤ (I1 1 11).toInt ∧ (I1 1 11).toInt ≤ 200; rw [h5 1 11 (by decide) (by decide)]; exact h.1.2)⟩, ⟨(by show 0 ≤ (I1 12 1).toInt ∧ (I1 12 1).toInt ≤ 500; rw [h5 12 1 (by decide) (by decide)]; exact h.2.1.1), (by show 0 ≤ (I1 12 5).toInt ∧ (I1 12 5).toInt ≤ 501; rw [h5 12 5 (by decide) (by decide)]; exact h.2.1.2.1), (by show (-1) ≤ (I1 12 6).toInt ∧ (I1 12 6).toInt ≤ 1000000; rw [h5 12 6 (by decide) (by decide)]; exact h.2.1.2.2.1), (by show 0 ≤ (I1 12 9).toInt ∧ (I1 12 9).toInt ≤ 500; rw [h5 12 9 (by decide) (by decide)]; exact h.2.1.2.2.2.1), (by show 0 ≤ (I1 12 13).toInt ∧ (I1 12 13).toInt ≤ 24; rw [h5 12 13 (by decide) (by decide)]; exact h.2.1.2.2.2.2)⟩, (by show 0 ≤ (I1 21 2).toInt ∧ (I1 21 2).toInt ≤ 12; rw [h5 21 2 (by decide) (by decide)]; exact h.2.2.1), (by show 0 ≤ (I1 26 4).toInt ∧ (I1 26 4).toInt ≤ 512; rw [h5 26 4 (by decide) (by decide)]; exact h.2.2.2.1), (by show 0 ≤ (I1 30 8).toInt ∧ (I1 30 8).toInt ≤ 300; rw [h5 30 8 (by decide) (by decide)]; exact h.2.2.2.2.1), (by show 0 ≤ (I1 41 10).toInt ∧ (I1 41 10).toInt ≤ 4; rw [h5 41 10 (by decide) (by decide)]; exact h.2.2.2.2.2.1), ⟨(by show 0 ≤ (I1 60 9).toInt ∧ (I1 60 9).toInt ≤ 60; rw [h5 60 9 (by decide) (by decide)]; exact h.2.2.2.2.2.2.1.1), (by show 0 ≤ (I1 60 12).toInt ∧ (I1 60 12).toInt ≤ 12; rw [h5 60 12 (by decide) (by decide)]; exact h.2.2.2.2.2.2.1.2)⟩, (by show 0 ≤ (I1 72 2).toInt ∧ (I1 72 2).toInt ≤ 30; rw [h5 72 2 (by decide) (by decide)]; exact h.2.2.2.2.2.2.2.1), ⟨(by show 0 ≤ (I1 0 0).toInt ∧ (I1 0 0).toInt ≤ 719; rw [h5 0 0 (by decide) (by decide)]; exact h.2.2.2.2.2.2.2.2.1.1), (by rw [h3]; omega)⟩, (by unfold z_okc; rw [h1]; exact h.2.2.2.2.2.2.2.2.2.1), h2, h6 h.2.2.2.2.2.2.2.2.2.2.2.1, h3, (by rw [h5 21 2 (by decide) (by decide), h1]; exact h.2.2.2.2.2.2.2.2.2.2.2.2.2)⟩
theorem z_ad_X11_station {c c1 : z_C} {ad ad1 : Nat → Nat} {I I1 : z_I} (hq : c1.2 = c.2 ∧ c1.1 ≤ 10 ∧ (I1 0 8).toInt = (c1.1 : Int) ∧ (∀ j, j < 75 → ad1 j = ad j) ∧ (∀ a k, a < 75 → ¬ (a = 0 ∧ k = 8) → I1 a k = I a k) ∧ (z_iS c I → z_iS c1 I1)) : ad1 0 = ad 0 := hq.2.2.2.1 0 (by decide)
theorem z_LX_X11_orders {c c1 : z_C} {ad ad1 : Nat → Nat} {I I1 : z_I} (h : z_LX c I) (hq : c1.1 = c.1 ∧ z_okc c1 ∧ (I1 21 2).toInt = (c1.2.1 : Int) ∧ z_iR I1 ∧ z_iO I1 ∧ (∀ j, j < 200 → ad1 j = ad j) ∧ ∀ a k, a < 200 → z_wr L_X11_orders a k = false → I1 a k = I a k) : z_LX c1 I1 := by
  obtain ⟨h1, h2, h3, h4, hO, h6, h7⟩ := hq
  exact ⟨⟨(by show 0 ≤ (I1 1 5).toInt ∧ (I1 1 5).toInt ≤ 30; rw [h7 1 5 (by decide) (by decide)]; exact h.1.1), (by show 0 ≤ (I1 1 11).toInt ∧ (I1 1 11).toInt ≤ 200; rw [h7 1 11 (by decide) (by decide)]; exact h.1.2)⟩, h4, hO, (by show 0 ≤ (I1 26 4).toInt ∧ (I1 26 4).toInt ≤ 512; rw [h7 26 4 (by decide) (by decide)]; exact h.2.2.2.1), (by show 0 ≤ (I1 30 8).toInt ∧ (I1 30 8).toInt ≤ 300; rw [h7 30 8 (by decide) (by decide)]; exact h.2.2.2.2.1), (by show 0 ≤ (I1 41 10).toInt ∧ (I1 41 10).toInt ≤ 4; rw [h7 41 10 (by decide) (by decide)]; exact h.2.2.2.2.2.1), ⟨(by show 0 ≤ (I1 60 9).toInt ∧ (I1 60 9).toInt ≤ 60; rw [h7 60 9 (by decide) (by decide)]; exact h.2.2.2.2.2.2.1.1), (by show 0 ≤ (I1 60 12).toInt ∧ (I1 60 12).toInt ≤ 12; rw [h7 60 12 (by decide) (by decide)]; exact h.2.2.2.2.2.2.1.2)⟩, (by show 0 ≤ (I1 72 2).toInt ∧ (I1 72 2).toInt ≤ 30; rw [h7 72 2 (by decide) (by decide)]; exact h.2.2.2.2.2.2.2.1), ⟨(by show 0 ≤ (I1 0 0).toInt ∧ (I1 0 0).toInt ≤ 719; rw [h7 0 0 (by decide) (by decide)]; exact h.2.2.2.2.2.2.2.2.1.1), (by show 0 ≤ (I1 0 8).toInt ∧ (I1 0 8).toInt ≤ 10; rw [h7 0 8 (by decide) (by decide)]; exact h.2.2.2.2.2.2.2.2.1.2)⟩, h2, (by rw [h1]; exact h.2.2.2.2.2.2.2.2.2.2.1), (fun q hq => by rw [h7 (100 + 8 * q) 4 (by have := h.2.2.2.2.2.2.2.2.2.2.1; omega) (z_wr_b (by decide) (by omega))]; exact h.2.2.2.2.2.2.2.2.2.2.2.1 q (by omega)), (by rw [h7 0 8 (by decide) (by decide), h1]; exact h.2.2.2.2.2.2.2.2.2.2.2.2.1), h3⟩
theorem z_ad_X11_orders {c c1 : z_C} {ad ad1 : Nat → Nat} {I I1 : z_I} (hq : c1.1 = c.1 ∧ z_okc c1 ∧ (I1 21 2).toInt = (c1.2.1 : Int) ∧ z_iR I1 ∧ z_iO I1 ∧ (∀ j, j < 200 → ad1 j = ad j) ∧ ∀ a k, a < 200 → z_wr L_X11_orders a k = false → I1 a k = I a k) : ad1 0 = ad 0 := hq.2.2.2.2.2.1 0 (by decide)
theorem z_shC0 : shC (0, 0, (fun _ => 0), (fun _ => 0)) = shX := by
  funext i
  unfold shC
  by_cases q1 : i < 75
  · rw [if_pos q1]
  · rw [if_neg q1]
    have e : shX i = none := List.getElem?_eq_none (l := zLX) (show zLX.length ≤ i from Nat.le_of_not_lt q1)
    rw [e]
    by_cases q2 : i < 180
    · rw [if_pos q2, if_neg (fun e => absurd e.2 (Nat.not_lt_zero _))]
    · rw [if_neg q2, if_neg (fun e => absurd e.2 (Nat.not_lt_zero _))]
theorem z_toC {G : z_G} {A : Nat → Prop} {ad : Nat → Nat} {I : z_I} {H : Heap} (h : z_W G A (shX, ad, I, JX, PX ad) H) : z_W G A (shC (0, 0, (fun _ => 0), (fun _ => 0)), ad, I, JX, PC (0, 0, (fun _ => 0), (fun _ => 0)) ad) H := by
  rw [z_shC0]
  refine h.re fun i hi => ⟨rfl, fun k => ⟨rfl, rfl, ?_⟩⟩
  have hlt := z_ltX i hi
  unfold PC
  rw [if_pos hlt]
  by_cases q1 : i = 39
  · rw [if_pos q1, if_neg (Nat.not_lt_zero _), q1]
    rfl
  · rw [if_neg q1]
    by_cases q2 : i = 22
    · rw [if_pos q2, if_neg (Nat.not_lt_zero _), q2]
      rfl
    · rw [if_neg q2]
set_option maxRecDepth 20000 in
theorem z_LX0 : z_LX (0, 0, (fun _ => 0), (fun _ => 0)) IX := ⟨⟨(show 0 ≤ (IX 1 5).toInt ∧ (IX 1 5).toInt ≤ 30 by decide), (show 0 ≤ (IX 1 11).toInt ∧ (IX 1 11).toInt ≤ 200 by decide)⟩, ⟨(show 0 ≤ (IX 12 1).toInt ∧ (IX 12 1).toInt ≤ 500 by decide), (show 0 ≤ (IX 12 5).toInt ∧ (IX 12 5).toInt ≤ 501 by decide), (show (-1) ≤ (IX 12 6).toInt ∧ (IX 12 6).toInt ≤ 1000000 by decide), (show 0 ≤ (IX 12 9).toInt ∧ (IX 12 9).toInt ≤ 500 by decide), (show 0 ≤ (IX 12 13).toInt ∧ (IX 12 13).toInt ≤ 24 by decide)⟩, (show 0 ≤ (IX 21 2).toInt ∧ (IX 21 2).toInt ≤ 12 by decide), (show 0 ≤ (IX 26 4).toInt ∧ (IX 26 4).toInt ≤ 512 by decide), (show 0 ≤ (IX 30 8).toInt ∧ (IX 30 8).toInt ≤ 300 by decide), (show 0 ≤ (IX 41 10).toInt ∧ (IX 41 10).toInt ≤ 4 by decide), ⟨(show 0 ≤ (IX 60 9).toInt ∧ (IX 60 9).toInt ≤ 60 by decide), (show 0 ≤ (IX 60 12).toInt ∧ (IX 60 12).toInt ≤ 12 by decide)⟩, (show 0 ≤ (IX 72 2).toInt ∧ (IX 72 2).toInt ≤ 30 by decide), ⟨(show 0 ≤ (IX 0 0).toInt ∧ (IX 0 0).toInt ≤ 719 by decide), (show 0 ≤ (IX 0 8).toInt ∧ (IX 0 8).toInt ≤ 10 by decide)⟩, (fun k hk => absurd hk (Nat.not_lt_zero k)), (by decide), (fun k hk => absurd hk (Nat.not_lt_zero k)), (by decide), (by decide)⟩
set_option maxRecDepth 20000 in
theorem z_LM0 : z_LM IM := ⟨⟨(show 0 ≤ (IM 0 0).toInt ∧ (IM 0 0).toInt ≤ 719 by decide), (show 0 ≤ (IM 0 1).toInt ∧ (IM 0 1).toInt ≤ 30 by decide), (show 0 ≤ (IM 0 2).toInt ∧ (IM 0 2).toInt ≤ 200 by decide)⟩, ⟨(show 0 ≤ (IM 0 13).toInt ∧ (IM 0 13).toInt ≤ 12 by decide), (show 0 ≤ (IM 0 14).toInt ∧ (IM 0 14).toInt ≤ 288 by decide)⟩, (show 0 ≤ (IM 0 15).toInt ∧ (IM 0 15).toInt ≤ 6100 by decide), ⟨(show 0 ≤ (IM 0 31).toInt ∧ (IM 0 31).toInt ≤ 500 by decide), (show 0 ≤ (IM 0 33).toInt ∧ (IM 0 33).toInt ≤ 500 by decide), (show 0 ≤ (IM 0 34).toInt ∧ (IM 0 34).toInt ≤ 500 by decide), (show 0 ≤ (IM 0 35).toInt ∧ (IM 0 35).toInt ≤ 500 by decide)⟩, ⟨(show 0 ≤ (IM 0 36).toInt ∧ (IM 0 36).toInt ≤ 4 by decide), (show 0 ≤ (IM 0 42).toInt ∧ (IM 0 42).toInt ≤ 1 by decide)⟩, ⟨(show 0 ≤ (IM 0 47).toInt ∧ (IM 0 47).toInt ≤ 119 by decide), (show 0 ≤ (IM 0 39).toInt ∧ (IM 0 39).toInt ≤ 100 by decide)⟩, (show 0 ≤ (IM 0 40).toInt ∧ (IM 0 40).toInt ≤ 6199 by decide), ⟨(show 0 ≤ (IM 0 54).toInt ∧ (IM 0 54).toInt ≤ 10 by decide), (show 0 ≤ (IM 0 55).toInt ∧ (IM 0 55).toInt ≤ 300 by decide)⟩, (show 0 ≤ (IM 0 75).toInt ∧ (IM 0 75).toInt ≤ 4 by decide), (show 0 ≤ (IM 0 83).toInt ∧ (IM 0 83).toInt ≤ 60 by decide), (fun k => show 0 ≤ (0 : Int32).toInt ∧ (0 : Int32).toInt ≤ 99999 by decide), (fun k => show 0 ≤ (0 : Int32).toInt ∧ (0 : Int32).toInt ≤ 29 by decide), (fun k => show 0 ≤ (0 : Int32).toInt ∧ (0 : Int32).toInt ≤ 59 by decide), (fun k => show 0 ≤ (0 : Int32).toInt ∧ (0 : Int32).toInt ≤ 30 by decide), (fun k => show 0 ≤ (0 : Int32).toInt ∧ (0 : Int32).toInt ≤ 30 by decide), (fun k => show 0 ≤ (0 : Int32).toInt ∧ (0 : Int32).toInt ≤ 288 by decide), (fun k => show 0 ≤ (0 : Int32).toInt ∧ (0 : Int32).toInt ≤ 24 by decide), (fun k => show 0 ≤ (0 : Int32).toInt ∧ (0 : Int32).toInt ≤ 6200 by decide), (fun k => show 0 ≤ (0 : Int32).toInt ∧ (0 : Int32).toInt ≤ 6200 by decide), (fun k => show (-1) ≤ (0 : Int32).toInt ∧ (0 : Int32).toInt ≤ 6199 by decide), (fun n => ⟨Or.inl (show (0 : Int32).toInt ≤ 1 by decide), Or.inl (show ¬ (0 : Int32).toInt = 1 by decide), Or.inl (show (0 : Int32).toInt ≤ 1 by decide)⟩), (fun n => Or.inr (Or.inr (show 0 ≤ (0 : Int32).toInt ∧ (0 : Int32).toInt ≤ 6199 by decide))), (fun k => show 0 ≤ (0 : Int32).toInt ∧ (0 : Int32).toInt ≤ 50 by decide), (fun k => show 0 ≤ (0 : Int32).toInt ∧ (0 : Int32).toInt ≤ 20 by decide), (fun k => show 0 ≤ (0 : Int32).toInt ∧ (0 : Int32).toInt ≤ 999 by decide), (fun k => show 0 ≤ (0 : Int32).toInt ∧ (0 : Int32).toInt ≤ 100 by decide), (fun k => show (-999) ≤ (0 : Int32).toInt ∧ (0 : Int32).toInt ≤ 999 by decide), (fun k => show 0 ≤ (0 : Int32).toInt ∧ (0 : Int32).toInt ≤ 15 by decide), (fun k => show (-300000) ≤ (0 : Int32).toInt ∧ (0 : Int32).toInt ≤ 1000000 by decide), (show (IM 0 14).toInt ≤ 24 * (IM 0 13).toInt ∧ (IM 0 15).toInt ≤ 505 * (IM 0 13).toInt by decide)⟩
theorem z_EQ0 : z_EQ IX IM := ⟨rfl, rfl, rfl⟩
noncomputable def L_X11_day2 : z_L := [(0, 0)]
set_option maxHeartbeats 8000000 in
set_option maxRecDepth 100000 in
theorem sx_X11_day2 (l : Launch) (G : z_G) (ad : Nat → Nat) (c : z_C) (I : z_I) (hB : z_iB I) (a1 : Int32) : z_M l yX11_day wsX11_day { frames := 1, cells := 0, slots := 0, locals := 12 } [.ref (ad 0), .int a1] G (shC c, ad, I, JX, PC c ad) (fun r u1 => ∃ I1 : z_I, u1 = (shC c, ad, I1, JX, PC c ad) ∧ z_iB I1 ∧ z_fr L_X11_day2 I1 I ∧ ((r = 1 ∧ (I 0 0).toInt < a1.toInt ∧ a1.toInt ≤ 719 ∧ (I1 0 0).toInt = a1.toInt) ∨ (r = 0 ∧ (a1.toInt ≤ (I 0 0).toInt ∨ 719 < a1.toInt) ∧ (I1 0 0).toInt = (I 0 0).toInt))) 0 0 := by
  intro sz
  refine z_headQ (cc := cX11_day) (maxL := 2) (ret := (some .boolean)) (by decide) rfl (Nat.le_of_ble_eq_true rfl) ?_
  intro p e s m below meth c0 ls hIn hK hsz hW hl
  obtain ⟨hx, hb, hr, hml, hown, hts, hlocks, hname⟩ := hIn
  subst hsz
  have hown : s.vm.findClass RX11 = some m.cls := hown
  have hA : ∀ q : Nat, s.heap.size ≤ q → z_A (shC c, ad, I, JX, PC c ad) s.heap.size q := fun q h => Or.inr h
  generalize hAe : z_A (shC c, ad, I, JX, PC c ad) s.heap.size = A at *
  have hS : va_S A s.heap s.heap [] := va_S.rf
  have hl : lv_has ls 2 [(0, .ref (ad 0)), (1, .int a1)] := hl
  refine lv_iload_n hx hb dX11_day_0 rfl (lv_at hl 1 rfl) ?_
  refine lv_aload_n hx hb dX11_day_1 rfl (lv_at hl 0 rfl) ?_
  have r1 : 0 ≤ (I 0 0).toInt ∧ (I 0 0).toInt ≤ 719 := hB.1
  refine z_get (T := TX11) (N := 13) (ci := 11) (i := 0) (v := .int (I 0 0)) hx hb hts zj_X11_day_X11 hown hK hW rfl rfl 0 (by decide) (hts (.fieldLink RX11 85 "PetrolBoard" "today" "I") (me_s (me_l (List.mem_of_getElem? (i := 0) rfl)))) (fun _ h => h) rfl dX11_day_2 ?_
  refine lv_icmp_le (tgt := 15) hx hb dX11_day_5 (by decide) (fun c2 => ?_) (fun c2 => ?_)
  · have g3 := z_f_le rfl rfl c2
    have b4 := Int32.toInt_lt a1
    refine lv_iconst (v := 0) hx hb dX11_day_15 (by decide) ?_
    exact z_zret hx hb hr (by decide) hK hS (Nat.le_of_ble_eq_true rfl) (Nat.le_of_ble_eq_true rfl) hlocks dX11_day_16 (shC c, ad, I, JX, PC c ad) hW ⟨I, rfl, ⟨(by show 0 ≤ (I 0 0).toInt ∧ (I 0 0).toInt ≤ 719; exact hB.1), (by show 0 ≤ (I 0 8).toInt ∧ (I 0 8).toInt ≤ 10; exact hB.2)⟩, z_fr_0, (Or.inr ⟨rfl, by omega, (by show (I 0 0).toInt = (I 0 0).toInt; omega)⟩)⟩
  · have g5 := z_f_nle rfl rfl c2
    have b6 := Int32.toInt_lt a1
    refine lv_iload_n hx hb dX11_day_8 rfl (lv_at hl 1 rfl) ?_
    refine lv_sipush (v := 720) hx hb dX11_day_9 (by decide) ?_
    refine lv_icmp_lt (tgt := 17) hx hb dX11_day_12 (by decide) (fun c7 => ?_) (fun c7 => ?_)
    · have g8 := z_f_lt rfl z_l720 c7
      refine lv_aload_n hx hb dX11_day_17 rfl (lv_at hl 0 rfl) ?_
      refine lv_iload_n hx hb dX11_day_18 rfl (lv_at hl 1 rfl) ?_
      refine z_put (T := TX11) (N := 13) (ci := 11) (i := 0) (v := .int a1) (I1 := z_up I 0 0 a1) (J1 := JX) (P1 := PC c ad) hx hb hts zj_X11_day_X11 tyX11 tyX11_ok nmX11 hown hK hW hS rfl rfl 0 (by decide) (hts (.fieldLink RX11 85 "PetrolBoard" "today" "I") (me_s (me_l (List.mem_of_getElem? (i := 0) rfl)))) (fun _ h => h) rfl rfl rfl (by first | rfl | exact congrArg _ z_up_s) (fun a b h ty => z_vI h ty) dX11_day_19 (fun H locs hz1 hW hS => ?_)
      obtain ⟨I9, eI9⟩ : ∃ K : z_I, K = z_up I 0 0 a1 := ⟨_, rfl⟩
      rw [← eI9] at hW
      have f10 := z_fr_k z_fr_0 (show z_wr L_X11_day2 0 0 = true by decide) eI9
      refine lv_iconst (v := 1) hx hb dX11_day_22 (by decide) ?_
      exact z_zret hx hb hr (by decide) hK hS (Nat.le_of_ble_eq_true rfl) (Nat.le_of_ble_eq_true rfl) hlocks dX11_day_23 (shC c, ad, I9, JX, PC c ad) hW ⟨I9, rfl, ⟨(by show 0 ≤ (I9 0 0).toInt ∧ (I9 0 0).toInt ≤ 719; rw [eI9, z_up_s]; omega), (by show 0 ≤ (I9 0 8).toInt ∧ (I9 0 8).toInt ≤ 10; rw [eI9, z_up_k (by decide)]; exact hB.2)⟩, f10, (Or.inl ⟨rfl, by omega, by omega, (by show (I9 0 0).toInt = a1.toInt; rw [show (I9 0 0) = a1 from by rw [eI9, z_up_s]])⟩)⟩
    · have g11 := z_f_nlt rfl z_l720 c7
      refine lv_iconst (v := 0) hx hb dX11_day_15 (by decide) ?_
      exact z_zret hx hb hr (by decide) hK hS (Nat.le_of_ble_eq_true rfl) (Nat.le_of_ble_eq_true rfl) hlocks dX11_day_16 (shC c, ad, I, JX, PC c ad) hW ⟨I, rfl, ⟨(by show 0 ≤ (I 0 0).toInt ∧ (I 0 0).toInt ≤ 719; exact hB.1), (by show 0 ≤ (I 0 8).toInt ∧ (I 0 8).toInt ≤ 10; exact hB.2)⟩, z_fr_0, (Or.inr ⟨rfl, by omega, (by show (I 0 0).toInt = (I 0 0).toInt; omega)⟩)⟩
noncomputable def L_X12_day2 : z_L := [(0, 0)]
set_option maxHeartbeats 8000000 in
set_option maxRecDepth 100000 in
theorem sx_X12_day2 (l : Launch) (G : z_G) (ad : Nat → Nat) (I : z_I) (J : z_J) (hma : z_ima I) (a1 : Int32) : z_M l yX12_day wsX12_day { frames := 1, cells := 0, slots := 0, locals := 12 } [.ref (ad 0), .int a1] G (shM, ad, I, J, PM ad) (fun r u1 => ∃ (I1 : z_I) (J1 : z_J), u1 = (shM, ad, I1, J1, PM ad) ∧ z_ima I1 ∧ z_fr L_X12_day2 I1 I ∧ ((r = 1 ∧ (I 0 0).toInt < a1.toInt ∧ a1.toInt ≤ 719 ∧ (I1 0 0).toInt = a1.toInt) ∨ (r = 0 ∧ (a1.toInt ≤ (I 0 0).toInt ∨ 719 < a1.toInt) ∧ (I1 0 0).toInt = (I 0 0).toInt))) 0 0 := by
  intro sz
  refine z_headQ (cc := cX12_day) (maxL := 2) (ret := (some .boolean)) (by decide) rfl (Nat.le_of_ble_eq_true rfl) ?_
  intro p e s m below meth c0 ls hIn hK hsz hW hl
  obtain ⟨hx, hb, hr, hml, hown, hts, hlocks, hname⟩ := hIn
  subst hsz
  have hown : s.vm.findClass RX12 = some m.cls := hown
  have hA : ∀ q : Nat, s.heap.size ≤ q → z_A (shM, ad, I, J, PM ad) s.heap.size q := fun q h => Or.inr h
  generalize hAe : z_A (shM, ad, I, J, PM ad) s.heap.size = A at *
  have hS : va_S A s.heap s.heap [] := va_S.rf
  have hl : lv_has ls 2 [(0, .ref (ad 0)), (1, .int a1)] := hl
  refine lv_iload_n hx hb dX12_day_0 rfl (lv_at hl 1 rfl) ?_
  refine lv_aload_n hx hb dX12_day_1 rfl (lv_at hl 0 rfl) ?_
  have r1 : 0 ≤ (I 0 0).toInt ∧ (I 0 0).toInt ≤ 719 := hma.1
  refine z_get (T := TX12) (N := 96) (ci := 12) (i := 0) (v := .int (I 0 0)) hx hb hts zj_X12_day_X12 hown hK hW rfl rfl 0 (by decide) (hts (.fieldLink RX12 232 "PetrolBoardModel" "today" "I") (me_s (me_l (List.mem_of_getElem? (i := 0) rfl)))) (fun _ h => h) rfl dX12_day_2 ?_
  refine lv_icmp_le (tgt := 15) hx hb dX12_day_5 (by decide) (fun c2 => ?_) (fun c2 => ?_)
  · have g3 := z_f_le rfl rfl c2
    have b4 := Int32.toInt_lt a1
    refine lv_iconst (v := 0) hx hb dX12_day_15 (by decide) ?_
    exact z_zret hx hb hr (by decide) hK hS (Nat.le_of_ble_eq_true rfl) (Nat.le_of_ble_eq_true rfl) hlocks dX12_day_16 (shM, ad, I, J, PM ad) hW ⟨I, J, rfl, ⟨(by show 0 ≤ (I 0 0).toInt ∧ (I 0 0).toInt ≤ 719; exact hma.1), (by show 0 ≤ (I 0 1).toInt ∧ (I 0 1).toInt ≤ 30; exact hma.2.1), (by show 0 ≤ (I 0 2).toInt ∧ (I 0 2).toInt ≤ 200; exact hma.2.2)⟩, z_fr_0, (Or.inr ⟨rfl, by omega, (by show (I 0 0).toInt = (I 0 0).toInt; omega)⟩)⟩
  · have g5 := z_f_nle rfl rfl c2
    have b6 := Int32.toInt_lt a1
    refine lv_iload_n hx hb dX12_day_8 rfl (lv_at hl 1 rfl) ?_
    refine lv_sipush (v := 719) hx hb dX12_day_9 (by decide) ?_
    refine lv_icmp_le (tgt := 17) hx hb dX12_day_12 (by decide) (fun c7 => ?_) (fun c7 => ?_)
    · have g8 := z_f_le rfl z_l719 c7
      refine lv_aload_n hx hb dX12_day_17 rfl (lv_at hl 0 rfl) ?_
      refine lv_iload_n hx hb dX12_day_18 rfl (lv_at hl 1 rfl) ?_
      refine z_put (T := TX12) (N := 96) (ci := 12) (i := 0) (v := .int a1) (I1 := z_up I 0 0 a1) (J1 := J) (P1 := PM ad) hx hb hts zj_X12_day_X12 tyX12 tyX12_ok nmX12 hown hK hW hS rfl rfl 0 (by decide) (hts (.fieldLink RX12 232 "PetrolBoardModel" "today" "I") (me_s (me_l (List.mem_of_getElem? (i := 0) rfl)))) (fun _ h => h) rfl rfl rfl (by first | rfl | exact congrArg _ z_up_s) (fun a b h ty => z_vI h ty) dX12_day_19 (fun H locs hz1 hW hS => ?_)
      obtain ⟨I9, eI9⟩ : ∃ K : z_I, K = z_up I 0 0 a1 := ⟨_, rfl⟩
      rw [← eI9] at hW
      have f10 := z_fr_k z_fr_0 (show z_wr L_X12_day2 0 0 = true by decide) eI9
      refine lv_iconst (v := 1) hx hb dX12_day_22 (by decide) ?_
      exact z_zret hx hb hr (by decide) hK hS (Nat.le_of_ble_eq_true rfl) (Nat.le_of_ble_eq_true rfl) hlocks dX12_day_23 (shM, ad, I9, J, PM ad) hW ⟨I9, J, rfl, ⟨(by show 0 ≤ (I9 0 0).toInt ∧ (I9 0 0).toInt ≤ 719; rw [eI9, z_up_s]; omega), (by show 0 ≤ (I9 0 1).toInt ∧ (I9 0 1).toInt ≤ 30; rw [eI9, z_up_k (by decide)]; exact hma.2.1), (by show 0 ≤ (I9 0 2).toInt ∧ (I9 0 2).toInt ≤ 200; rw [eI9, z_up_k (by decide)]; exact hma.2.2)⟩, f10, (Or.inl ⟨rfl, by omega, by omega, (by show (I9 0 0).toInt = a1.toInt; rw [show (I9 0 0) = a1 from by rw [eI9, z_up_s]])⟩)⟩
    · have g11 := z_f_nle rfl z_l719 c7
      refine lv_iconst (v := 0) hx hb dX12_day_15 (by decide) ?_
      exact z_zret hx hb hr (by decide) hK hS (Nat.le_of_ble_eq_true rfl) (Nat.le_of_ble_eq_true rfl) hlocks dX12_day_16 (shM, ad, I, J, PM ad) hW ⟨I, J, rfl, ⟨(by show 0 ≤ (I 0 0).toInt ∧ (I 0 0).toInt ≤ 719; exact hma.1), (by show 0 ≤ (I 0 1).toInt ∧ (I 0 1).toInt ≤ 30; exact hma.2.1), (by show 0 ≤ (I 0 2).toInt ∧ (I 0 2).toInt ≤ 200; exact hma.2.2)⟩, z_fr_0, (Or.inr ⟨rfl, by omega, (by show (I 0 0).toInt = (I 0 0).toInt; omega)⟩)⟩
