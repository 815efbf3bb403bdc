/-! THE PARSER AS A MACHINE OF NUMBERS: tokens by their places (tk), the numbers they hold (va), a stack of open kinds (what, at, one, sort), how many are open, the last node, the nodes made (kind, a, b), or the token at which the text goes wrong -/
noncomputable abbrev zp_F : Type := Int × Int × Int × Int
noncomputable abbrev zp_N : Type := Int × Int × Int
noncomputable abbrev zp_S : Type := Sum Nat (Nat × List zp_F × Int × Int × List zp_N)
noncomputable def zp_op (w t : Int) : Int := if w = 0 then (if t = 43 then 2 else if t = 45 then 3 else 0) else (if t = 42 then 4 else if t = 47 then 5 else 0)
noncomputable def zp_cm (t : Int) : Int := if t = 60 then 8 else if t = 62 then 9 else if t = 61 then 10 else 0
noncomputable def zp_cb (n0 s x g : Int) (N : List zp_N) : Int × List zp_N := if x < 0 then (g, N) else (n0 + N.length, N ++ [(s, x, g)])
noncomputable def zp_st (tk va : Nat → Int) (n0 : Int) : zp_S → zp_S
  | .inl f => .inl f
  | .inr (k, [], o, g, N) => .inr (k, [], o, g, N)
  | .inr (k, (w, a, x, s) :: S, o, g, N) =>
    if w = 0 ∨ w = 1 then
      if a = 0 then .inr (k, (w + 1, 0, -1, 0) :: (w, 1, x, s) :: S, o, g, N)
      else if 0 < zp_op w (tk k) then .inr (k + 1, (w + 1, 0, -1, 0) :: (w, a, (zp_cb n0 s x g N).1, zp_op w (tk k)) :: S, o, g, (zp_cb n0 s x g N).2)
      else .inr (k, S, o, (zp_cb n0 s x g N).1, (zp_cb n0 s x g N).2)
    else if w = 2 then
      if a = 0 then
        if tk k = 400 then .inr (k + 1, S, o, n0 + N.length, N ++ [(0, va k, 0)])
        else if tk k = 40 then (if o = 9 then .inl k else .inr (k + 1, (0, 0, -1, 0) :: (2, 1, x, s) :: S, o + 1, g, N))
        else if tk k = 312 ∨ tk k = 313 then
          (if o = 9 then .inl k else if tk (k + 1) = 40 then .inr (k + 2, (0, 0, -1, 0) :: (2, 2, x, tk k - 306) :: S, o + 1, g, N) else .inl (k + 1))
        else if 314 ≤ tk k ∧ tk k ≤ 320 then .inr (k + 1, S, o, n0 + N.length, N ++ [(1, tk k - 314, 0)])
        else .inl k
      else if a = 2 then (if tk k = 44 then .inr (k + 1, (0, 0, -1, 0) :: (2, 3, g, s) :: S, o, g, N) else .inl k)
      else if tk k = 41 then (if a = 1 then .inr (k + 1, S, o - 1, g, N) else .inr (k + 1, S, o - 1, n0 + N.length, N ++ [(s, x, g)]))
      else .inl k
    else if w = 3 ∨ w = 4 then
      if a = 0 then .inr (k, (w + 1, 0, -1, 0) :: (w, 1, x, s) :: S, o, g, N)
      else if tk k = 306 + w then .inr (k + 1, (w + 1, 0, -1, 0) :: (w, a, (zp_cb n0 (16 - w) x g N).1, s) :: S, o, g, (zp_cb n0 (16 - w) x g N).2)
      else .inr (k, S, o, (zp_cb n0 (16 - w) x g N).1, (zp_cb n0 (16 - w) x g N).2)
    else
      if a = 0 then
        if tk k = 311 then (if o = 9 then .inl k else .inr (k + 1, (5, 0, -1, 0) :: (5, 1, x, s) :: S, o + 1, g, N))
        else if tk k = 123 then (if o = 9 then .inl k else .inr (k + 1, (3, 0, -1, 0) :: (5, 2, x, s) :: S, o + 1, g, N))
        else .inr (k, (0, 0, -1, 0) :: (5, 3, x, s) :: S, o, g, N)
      else if a = 1 then .inr (k, S, o - 1, n0 + N.length, N ++ [(11, g, 0)])
      else if a = 2 then (if tk k = 125 then .inr (k + 1, S, o - 1, g, N) else .inl k)
      else if a = 3 then (if 0 < zp_cm (tk k) then .inr (k + 1, (0, 0, -1, 0) :: (5, 4, g, zp_cm (tk k)) :: S, o, g, N) else .inl k)
      else .inr (k, S, o, n0 + N.length, N ++ [(s, x, g)])
noncomputable def zp_it (tk va : Nat → Int) (n0 : Int) : Nat → zp_S → zp_S
  | 0, a => a
  | n + 1, a => zp_it tk va n0 n (zp_st tk va n0 a)
noncomputable def zp_R (tk va : Nat → Int) (n0 : Int) (a b : zp_S) : Prop := ∃ n, zp_it tk va n0 n a = b
noncomputable def zp_hl : zp_S → Prop
  | .inl _ => True
  | .inr (_, S, _) => S = []
section ZP
variable {tk va : Nat → Int} {n0 : Int}
theorem zp_it_add (m : Nat) : ∀ (n : Nat) (a : zp_S), zp_it tk va n0 (n + m) a = zp_it tk va n0 m (zp_it tk va n0 n a)
  | 0, a => by rw [Nat.zero_add]; rfl
  | n + 1, a => by
    rw [Nat.succ_add]
    exact zp_it_add m n (zp_st tk va n0 a)
theorem zp_R.rf {a : zp_S} : zp_R tk va n0 a a := ⟨0, rfl⟩
theorem zp_R.st {a b c : zp_S} (h : zp_st tk va n0 a = b) (hr : zp_R tk va n0 b c) : zp_R tk va n0 a c := by
  obtain ⟨n, hn⟩ := hr
  refine ⟨n + 1, ?_⟩
  show zp_it tk va n0 n (zp_st tk va n0 a) = c
  rw [h]
  exact hn
theorem zp_R.one {a b : zp_S} (h : zp_st tk va n0 a = b) : zp_R tk va n0 a b := zp_R.st h zp_R.rf
theorem zp_R.tr {a b c : zp_S} (h1 : zp_R tk va n0 a b) (h2 : zp_R tk va n0 b c) : zp_R tk va n0 a c := by
  obtain ⟨n, hn⟩ := h1
  obtain ⟨m, hm⟩ := h2
  refine ⟨n + m, ?_⟩
  rw [zp_it_add, hn]
  exact hm
theorem zp_R.en {a b c : zp_S} (h1 : zp_R tk va n0 a b) (h : zp_st tk va n0 b = c) : zp_R tk va n0 a c := h1.tr (zp_R.one h)
theorem zp_hl_st {a : zp_S} (h : zp_hl a) : zp_st tk va n0 a = a := by
  rcases a with f | ⟨k, S, o, g, N⟩
  · rfl
  · have h' : S = [] := h
    subst h'
    rfl
theorem zp_hl_it {a : zp_S} (h : zp_hl a) : ∀ n, zp_it tk va n0 n a = a
  | 0 => rfl
  | n + 1 => by
    show zp_it tk va n0 n (zp_st tk va n0 a) = a
    rw [zp_hl_st h]
    exact zp_hl_it h n
/-- where it stops is one alone -/
theorem zp_R.det {a b c : zp_S} (h1 : zp_R tk va n0 a b) (h2 : zp_R tk va n0 a c) (hb : zp_hl b) (hc : zp_hl c) : b = c := by
  obtain ⟨n, hn⟩ := h1
  obtain ⟨m, hm⟩ := h2
  rcases Nat.le_total n m with h | h
  · obtain ⟨d, rfl⟩ := Nat.exists_eq_add_of_le h
    rw [zp_it_add, hn, zp_hl_it hb] at hm
    exact hm
  · obtain ⟨d, rfl⟩ := Nat.exists_eq_add_of_le h
    rw [zp_it_add, hm, zp_hl_it hc] at hn
    exact hn.symm
end ZP
/-! what a reading of a kind (0 sum, 1 product, 2 atom, 3 or, 4 and, 5 test) with d open ones does: from token k on to token k1, the code is cs; or it goes wrong at token f -/
noncomputable def zp_en (n : zp_N) : Int := if n.1 = 0 then n.2.1 else if n.1 = 1 then -20 - n.2.1 else if n.1 = 12 then -10 else if n.1 = 13 then -11 else if n.1 = 11 then -12 else 1 - n.1
noncomputable def zp_ok (tk va : Nat → Int) (w d : Int) (k k1 : Nat) (cs : List Int) : Prop := ∀ (n0 : Int) (S : List zp_F) (g : Int) (N : List zp_N), 0 ≤ n0 → ∃ (sg : List zp_N) (g1 : Int), sg.map zp_en = cs ∧ 0 ≤ g1 ∧ zp_R tk va n0 (.inr (k, (w, 0, -1, 0) :: S, d, g, N)) (.inr (k1, S, d, g1, N ++ sg))
noncomputable def zp_no (tk va : Nat → Int) (w d : Int) (k f : Nat) : Prop := ∀ (n0 : Int) (S : List zp_F) (g : Int) (N : List zp_N), 0 ≤ n0 → zp_R tk va n0 (.inr (k, (w, 0, -1, 0) :: S, d, g, N)) (.inl f)
/-- which node a row of like ones makes: of a sum and a product as its sign told, of "or" 13, of "and" 12 -/
noncomputable def zp_so (w s : Int) : Int := if w ≤ 1 then s else 16 - w
noncomputable def zp_go (w t : Int) : Int := if w ≤ 1 then zp_op w t else if t = 306 + w then 16 - w else 0
noncomputable def zp_lp (tk va : Nat → Int) (w d : Int) (k k1 : Nat) (cs : List Int) : Prop := ∀ (n0 : Int) (S : List zp_F) (g : Int) (N : List zp_N), 0 ≤ n0 → ∃ (x s g1 : Int) (N1 sg : List zp_N), zp_R tk va n0 (.inr (k, (w, 0, -1, 0) :: S, d, g, N)) (.inr (k1, (w, 1, x, s) :: S, d, g1, N1)) ∧ (zp_cb n0 (zp_so w s) x g1 N1).2 = N ++ sg ∧ sg.map zp_en = cs ∧ 0 ≤ (zp_cb n0 (zp_so w s) x g1 N1).1
noncomputable def zp_w4 (w : Int) : Prop := w = 0 ∨ w = 1 ∨ w = 3 ∨ w = 4
section ZQ
variable {tk va : Nat → Int} {w d c e : Int} {k k1 k2 f : Nat} {cs cs2 : List Int}
theorem zp_l1s {n0 x s o g : Int} {S : List zp_F} {N : List zp_N} (hw : zp_w4 w) : zp_st tk va n0 (.inr (k, (w, 0, x, s) :: S, o, g, N)) = .inr (k, (w + 1, 0, -1, 0) :: (w, 1, x, s) :: S, o, g, N) := by
  rcases hw with rfl | rfl | rfl | rfl <;> simp [zp_st]
theorem zp_l2s {n0 x s o g : Int} {S : List zp_F} {N : List zp_N} (hw : zp_w4 w) (hg : 0 < zp_go w (tk k)) : ∃ s1, zp_so w s1 = zp_go w (tk k) ∧ zp_st tk va n0 (.inr (k, (w, 1, x, s) :: S, o, g, N)) = .inr (k + 1, (w + 1, 0, -1, 0) :: (w, 1, (zp_cb n0 (zp_so w s) x g N).1, s1) :: S, o, g, (zp_cb n0 (zp_so w s) x g N).2) := by
  rcases hw with rfl | rfl | rfl | rfl
  · have hg : 0 < zp_op 0 (tk k) := hg
    refine ⟨zp_op 0 (tk k), rfl, ?_⟩
    simp [zp_st, zp_so, hg]
  · have hg : 0 < zp_op 1 (tk k) := hg
    refine ⟨zp_op 1 (tk k), rfl, ?_⟩
    simp [zp_st, zp_so, hg]
  · have h9 : tk k = 309 := by
      by_cases q : tk k = 309
      · exact q
      · simp [zp_go, q] at hg
    refine ⟨s, by simp [zp_so, zp_go, h9], ?_⟩
    simp [zp_st, zp_so, h9]
  · have h9 : tk k = 310 := by
      by_cases q : tk k = 310
      · exact q
      · simp [zp_go, q] at hg
    refine ⟨s, by simp [zp_so, zp_go, h9], ?_⟩
    simp [zp_st, zp_so, h9]
theorem zp_l3s {n0 x s o g : Int} {S : List zp_F} {N : List zp_N} (hw : zp_w4 w) (hg : ¬ 0 < zp_go w (tk k)) : zp_st tk va n0 (.inr (k, (w, 1, x, s) :: S, o, g, N)) = .inr (k, S, o, (zp_cb n0 (zp_so w s) x g N).1, (zp_cb n0 (zp_so w s) x g N).2) := by
  rcases hw with rfl | rfl | rfl | rfl
  · have hg : ¬ 0 < zp_op 0 (tk k) := hg
    simp [zp_st, zp_so, hg]
  · have hg : ¬ 0 < zp_op 1 (tk k) := hg
    simp [zp_st, zp_so, hg]
  · have h9 : ¬ tk k = 309 := fun q => hg (by simp [zp_go, q])
    simp [zp_st, zp_so, h9]
  · have h9 : ¬ tk k = 310 := fun q => hg (by simp [zp_go, q])
    simp [zp_st, zp_so, h9]
theorem zp_L1 (hc : w + 1 = c) (hw : zp_w4 w) (h : zp_ok tk va c d k k1 cs) : zp_lp tk va w d k k1 cs := fun n0 S g N hn => by
  subst hc
  obtain ⟨sg, g1, e, hg, r⟩ := h n0 ((w, 1, -1, 0) :: S) g N hn
  refine ⟨-1, 0, g1, N ++ sg, sg, zp_R.st (zp_l1s hw) r, ?_, e, ?_⟩
  · rfl
  · exact hg
theorem zp_L2 (hc : w + 1 = c) (hw : zp_w4 w) (h : zp_lp tk va w d k k1 cs) (hg : 0 < zp_go w (tk k1)) (h2 : zp_ok tk va c d (k1 + 1) k2 cs2) : zp_lp tk va w d k k2 (cs ++ (cs2 ++ [zp_en (zp_go w (tk k1), 0, 0)])) := fun n0 S g N hn => by
  subst hc
  obtain ⟨x, s, g1, N1, sg, r, e1, e2, h0⟩ := h n0 S g N hn
  obtain ⟨s1, es, e3⟩ := zp_l2s (va := va) (n0 := n0) (x := x) (s := s) (o := d) (g := g1) (S := S) (N := N1) hw hg
  obtain ⟨sg2, g2, e4, hg2, r2⟩ := h2 n0 ((w, 1, (zp_cb n0 (zp_so w s) x g1 N1).1, s1) :: S) g1 (zp_cb n0 (zp_so w s) x g1 N1).2 hn
  refine ⟨_, s1, g2, _, sg ++ (sg2 ++ [(zp_go w (tk k1), (zp_cb n0 (zp_so w s) x g1 N1).1, g2)]), r.tr (zp_R.st e3 r2), ?_, ?_, ?_⟩
  · rw [es, zp_cb, if_neg (by omega), e1]
    simp
  · have q : zp_en (zp_go w (tk k1), (zp_cb n0 (zp_so w s) x g1 N1).1, g2) = zp_en (zp_go w (tk k1), 0, 0) := by
      have hk : zp_go w (tk k1) ≠ 0 ∧ zp_go w (tk k1) ≠ 1 := by
        refine ⟨by omega, fun q => ?_⟩
        rcases hw with rfl | rfl | rfl | rfl
        · simp only [zp_go, zp_op] at q
          repeat' split at q
          all_goals omega
        · simp only [zp_go, zp_op] at q
          repeat' split at q
          all_goals omega
        · simp only [zp_go, zp_op] at q
          repeat' split at q
          all_goals omega
        · simp only [zp_go, zp_op] at q
          repeat' split at q
          all_goals omega
      simp [zp_en, hk.1, hk.2]
    rw [List.map_append, List.map_append, List.map_cons, List.map_nil, e2, e4, q]
  · rw [es, zp_cb, if_neg (by omega)]
    show 0 ≤ n0 + _
    omega
theorem zp_L3 (hw : zp_w4 w) (h : zp_lp tk va w d k k1 cs) (hg : ¬ 0 < zp_go w (tk k1)) : zp_ok tk va w d k k1 cs := fun n0 S g N hn => by
  obtain ⟨x, s, g1, N1, sg, r, e1, e2, h0⟩ := h n0 S g N hn
  refine ⟨sg, (zp_cb n0 (zp_so w s) x g1 N1).1, e2, h0, r.en ?_⟩
  rw [zp_l3s hw hg, e1]
theorem zp_L4 (hc : w + 1 = c) (hw : zp_w4 w) (h : zp_no tk va c d k f) : zp_no tk va w d k f := by
  subst hc
  exact fun n0 S g N hn => zp_R.st (zp_l1s hw) (h n0 ((w, 1, -1, 0) :: S) g N hn)
theorem zp_L5 (hc : w + 1 = c) (hw : zp_w4 w) (h : zp_lp tk va w d k k1 cs) (hg : 0 < zp_go w (tk k1)) (h2 : zp_no tk va c d (k1 + 1) f) : zp_no tk va w d k f := fun n0 S g N hn => by
  subst hc
  obtain ⟨x, s, g1, N1, sg, r, e1, e2, h0⟩ := h n0 S g N hn
  obtain ⟨s1, es, e3⟩ := zp_l2s (va := va) (n0 := n0) (x := x) (s := s) (o := d) (g := g1) (S := S) (N := N1) hw hg
  exact r.tr (zp_R.st e3 (h2 n0 ((w, 1, (zp_cb n0 (zp_so w s) x g1 N1).1, s1) :: S) g1 (zp_cb n0 (zp_so w s) x g1 N1).2 hn))
/-! atoms -/
theorem zp_A1 (h : tk k = 400) : zp_ok tk va 2 d k (k + 1) [va k] := fun n0 S g N hn => ⟨[(0, va k, 0)], n0 + N.length, by simp [zp_en], by omega, zp_R.one (by simp [zp_st, h])⟩
theorem zp_A2 (h : 314 ≤ tk k ∧ tk k ≤ 320) : zp_ok tk va 2 d k (k + 1) [-20 - (tk k - 314)] := fun n0 S g N hn => ⟨[(1, tk k - 314, 0)], n0 + N.length, by simp [zp_en], by omega, zp_R.one (by
  have q1 : ¬ tk k = 400 := by omega
  have q2 : ¬ tk k = 40 := by omega
  have q3 : ¬ (tk k = 312 ∨ tk k = 313) := by omega
  simp [zp_st, q1, q2, q3, h])⟩
theorem zp_A3 (h1 : tk k ≠ 400) (h2 : ¬ (314 ≤ tk k ∧ tk k ≤ 320)) (h3 : d = 9 ∨ (tk k ≠ 40 ∧ tk k ≠ 312 ∧ tk k ≠ 313)) : zp_no tk va 2 d k k := fun n0 S g N hn => zp_R.one (by
  by_cases q1 : tk k = 40
  · have q9 : d = 9 := h3.resolve_right (fun z => z.1 q1)
    simp [zp_st, q1, q9]
  · by_cases q2 : tk k = 312 ∨ tk k = 313
    · have q9 : d = 9 := h3.resolve_right (fun z => q2.elim z.2.1 z.2.2)
      simp [zp_st, h1, q1, q2, q9]
    · simp [zp_st, h1, q1, q2, h2])
theorem zp_par {n0 x s o g : Int} {S : List zp_F} {N : List zp_N} (h : tk k = 40) (h9 : o ≠ 9) : zp_st tk va n0 (.inr (k, (2, 0, x, s) :: S, o, g, N)) = .inr (k + 1, (0, 0, -1, 0) :: (2, 1, x, s) :: S, o + 1, g, N) := by simp [zp_st, h, h9]
theorem zp_A4 (hd : d + 1 = e) (h : tk k = 40) (h9 : d ≠ 9) (h1 : zp_ok tk va 0 e (k + 1) k1 cs) (h2 : tk k1 = 41) : zp_ok tk va 2 d k (k1 + 1) cs := fun n0 S g N hn => by
  subst hd
  obtain ⟨sg, g1, e, hg, r⟩ := h1 n0 ((2, 1, -1, 0) :: S) g N hn
  refine ⟨sg, g1, e, hg, zp_R.st (zp_par h h9) (r.en ?_)⟩
  simp [zp_st, h2]
theorem zp_A5 (hd : d + 1 = e) (h : tk k = 40) (h9 : d ≠ 9) (h1 : zp_ok tk va 0 e (k + 1) k1 cs) (h2 : tk k1 ≠ 41) : zp_no tk va 2 d k k1 := fun n0 S g N hn => by
  subst hd
  obtain ⟨sg, g1, e, hg, r⟩ := h1 n0 ((2, 1, -1, 0) :: S) g N hn
  refine zp_R.st (zp_par h h9) (r.en ?_)
  simp [zp_st, h2]
theorem zp_A6 (hd : d + 1 = e) (h : tk k = 40) (h9 : d ≠ 9) (h1 : zp_no tk va 0 e (k + 1) f) : zp_no tk va 2 d k f := by
  subst hd
  exact fun n0 S g N hn => zp_R.st (zp_par h h9) (h1 n0 ((2, 1, -1, 0) :: S) g N hn)
theorem zp_lm {n0 x s o g : Int} {S : List zp_F} {N : List zp_N} (h : tk k = 312 ∨ tk k = 313) (h9 : o ≠ 9) : zp_st tk va n0 (.inr (k, (2, 0, x, s) :: S, o, g, N)) = if tk (k + 1) = 40 then .inr (k + 2, (0, 0, -1, 0) :: (2, 2, x, tk k - 306) :: S, o + 1, g, N) else .inl (k + 1) := by
  rcases h with h | h <;> simp [zp_st, h, h9]
theorem zp_A7 (h : tk k = 312 ∨ tk k = 313) (h9 : d ≠ 9) (h1 : tk (k + 1) ≠ 40) : zp_no tk va 2 d k (k + 1) := fun n0 S g N hn => zp_R.one (by rw [zp_lm h h9, if_neg h1])
theorem zp_A8 (hd : d + 1 = e) (h : tk k = 312 ∨ tk k = 313) (h9 : d ≠ 9) (h1 : tk (k + 1) = 40) (h2 : zp_no tk va 0 e (k + 2) f) : zp_no tk va 2 d k f := by
  subst hd
  exact fun n0 S g N hn => zp_R.st (by rw [zp_lm h h9, if_pos h1]) (h2 n0 _ g N hn)
theorem zp_A9 (hd : d + 1 = e) (h : tk k = 312 ∨ tk k = 313) (h9 : d ≠ 9) (h1 : tk (k + 1) = 40) (h2 : zp_ok tk va 0 e (k + 2) k1 cs) (h3 : tk k1 ≠ 44) : zp_no tk va 2 d k k1 := fun n0 S g N hn => by
  subst hd
  obtain ⟨sg, g1, e, hg, r⟩ := h2 n0 ((2, 2, -1, tk k - 306) :: S) g N hn
  refine zp_R.st (by rw [zp_lm h h9, if_pos h1]) (r.en ?_)
  simp [zp_st, h3]
theorem zp_A10 (hd : d + 1 = e) (h : tk k = 312 ∨ tk k = 313) (h9 : d ≠ 9) (h1 : tk (k + 1) = 40) (h2 : zp_ok tk va 0 e (k + 2) k1 cs) (h3 : tk k1 = 44) (h4 : zp_no tk va 0 e (k1 + 1) f) : zp_no tk va 2 d k f := fun n0 S g N hn => by
  subst hd
  obtain ⟨sg, g1, e, hg, r⟩ := h2 n0 ((2, 2, -1, tk k - 306) :: S) g N hn
  refine zp_R.st (by rw [zp_lm h h9, if_pos h1]) (r.tr (zp_R.st ?_ (h4 n0 ((2, 3, g1, tk k - 306) :: S) g1 (N ++ sg) hn)))
  simp [zp_st, h3]
theorem zp_A11 (hd : d + 1 = e) (h : tk k = 312 ∨ tk k = 313) (h9 : d ≠ 9) (h1 : tk (k + 1) = 40) (h2 : zp_ok tk va 0 e (k + 2) k1 cs) (h3 : tk k1 = 44) (h4 : zp_ok tk va 0 e (k1 + 1) k2 cs2) (h5 : tk k2 ≠ 41) : zp_no tk va 2 d k k2 := fun n0 S g N hn => by
  subst hd
  obtain ⟨sg, g1, e, hg, r⟩ := h2 n0 ((2, 2, -1, tk k - 306) :: S) g N hn
  obtain ⟨sg2, g2, e2, hg2, r2⟩ := h4 n0 ((2, 3, g1, tk k - 306) :: S) g1 (N ++ sg) hn
  refine zp_R.st (by rw [zp_lm h h9, if_pos h1]) (r.tr (zp_R.st ?_ (r2.en ?_)))
  · simp [zp_st, h3]
  · simp [zp_st, h5]
theorem zp_A12 (hd : d + 1 = e) (h : tk k = 312 ∨ tk k = 313) (h9 : d ≠ 9) (h1 : tk (k + 1) = 40) (h2 : zp_ok tk va 0 e (k + 2) k1 cs) (h3 : tk k1 = 44) (h4 : zp_ok tk va 0 e (k1 + 1) k2 cs2) (h5 : tk k2 = 41) : zp_ok tk va 2 d k (k2 + 1) (cs ++ (cs2 ++ [307 - tk k])) := fun n0 S g N hn => by
  subst hd
  obtain ⟨sg, g1, e, hg, r⟩ := h2 n0 ((2, 2, -1, tk k - 306) :: S) g N hn
  obtain ⟨sg2, g2, e2, hg2, r2⟩ := h4 n0 ((2, 3, g1, tk k - 306) :: S) g1 (N ++ sg) hn
  refine ⟨sg ++ (sg2 ++ [(tk k - 306, g1, g2)]), n0 + (N ++ sg ++ sg2).length, ?_, by omega, zp_R.st (by rw [zp_lm h h9, if_pos h1]) (r.tr (zp_R.st ?_ (r2.en ?_)))⟩
  · have q : zp_en (tk k - 306, g1, g2) = 307 - tk k := by rcases h with h | h <;> simp [zp_en, h]
    rw [List.map_append, List.map_append, List.map_cons, List.map_nil, e, e2, q]
  · simp [zp_st, h3]
  · simp [zp_st, h5]
/-! tests -/
theorem zp_T0 (h : tk k = 311 ∨ tk k = 123) : zp_no tk va 5 9 k k := fun n0 S g N hn => zp_R.one (by
  rcases h with h | h <;> simp [zp_st, h])
theorem zp_nt {n0 x s o g : Int} {S : List zp_F} {N : List zp_N} (h : tk k = 311) (h9 : o ≠ 9) : zp_st tk va n0 (.inr (k, (5, 0, x, s) :: S, o, g, N)) = .inr (k + 1, (5, 0, -1, 0) :: (5, 1, x, s) :: S, o + 1, g, N) := by simp [zp_st, h, h9]
theorem zp_T1 (hd : d + 1 = e) (h : tk k = 311) (h9 : d ≠ 9) (h1 : zp_ok tk va 5 e (k + 1) k1 cs) : zp_ok tk va 5 d k k1 (cs ++ [-12]) := fun n0 S g N hn => by
  subst hd
  obtain ⟨sg, g1, e, hg, r⟩ := h1 n0 ((5, 1, -1, 0) :: S) g N hn
  refine ⟨sg ++ [(11, g1, 0)], n0 + (N ++ sg).length, ?_, by omega, zp_R.st (zp_nt h h9) (r.en ?_)⟩
  · rw [List.map_append, List.map_cons, List.map_nil, e]
    simp [zp_en]
  · simp [zp_st]
theorem zp_T2 (hd : d + 1 = e) (h : tk k = 311) (h9 : d ≠ 9) (h1 : zp_no tk va 5 e (k + 1) f) : zp_no tk va 5 d k f := by
  subst hd
  exact fun n0 S g N hn => zp_R.st (zp_nt h h9) (h1 n0 _ g N hn)
theorem zp_br {n0 x s o g : Int} {S : List zp_F} {N : List zp_N} (h : tk k = 123) (h9 : o ≠ 9) : zp_st tk va n0 (.inr (k, (5, 0, x, s) :: S, o, g, N)) = .inr (k + 1, (3, 0, -1, 0) :: (5, 2, x, s) :: S, o + 1, g, N) := by simp [zp_st, h, h9]
theorem zp_T3 (hd : d + 1 = e) (h : tk k = 123) (h9 : d ≠ 9) (h1 : zp_ok tk va 3 e (k + 1) k1 cs) (h2 : tk k1 = 125) : zp_ok tk va 5 d k (k1 + 1) cs := fun n0 S g N hn => by
  subst hd
  obtain ⟨sg, g1, e, hg, r⟩ := h1 n0 ((5, 2, -1, 0) :: S) g N hn
  refine ⟨sg, g1, e, hg, zp_R.st (zp_br h h9) (r.en ?_)⟩
  simp [zp_st, h2]
theorem zp_T4 (hd : d + 1 = e) (h : tk k = 123) (h9 : d ≠ 9) (h1 : zp_ok tk va 3 e (k + 1) k1 cs) (h2 : tk k1 ≠ 125) : zp_no tk va 5 d k k1 := fun n0 S g N hn => by
  subst hd
  obtain ⟨sg, g1, e, hg, r⟩ := h1 n0 ((5, 2, -1, 0) :: S) g N hn
  refine zp_R.st (zp_br h h9) (r.en ?_)
  simp [zp_st, h2]
theorem zp_T5 (hd : d + 1 = e) (h : tk k = 123) (h9 : d ≠ 9) (h1 : zp_no tk va 3 e (k + 1) f) : zp_no tk va 5 d k f := by
  subst hd
  exact fun n0 S g N hn => zp_R.st (zp_br h h9) (h1 n0 _ g N hn)
theorem zp_cp {n0 x s o g : Int} {S : List zp_F} {N : List zp_N} (h : tk k ≠ 311) (h1 : tk k ≠ 123) : zp_st tk va n0 (.inr (k, (5, 0, x, s) :: S, o, g, N)) = .inr (k, (0, 0, -1, 0) :: (5, 3, x, s) :: S, o, g, N) := by simp [zp_st, h, h1]
theorem zp_T6 (h : tk k ≠ 311) (h1 : tk k ≠ 123) (h2 : zp_no tk va 0 d k f) : zp_no tk va 5 d k f := fun n0 S g N hn => zp_R.st (zp_cp h h1) (h2 n0 _ g N hn)
theorem zp_T7 (h : tk k ≠ 311) (h1 : tk k ≠ 123) (h2 : zp_ok tk va 0 d k k1 cs) (h3 : ¬ 0 < zp_cm (tk k1)) : zp_no tk va 5 d k k1 := fun n0 S g N hn => by
  obtain ⟨sg, g1, e, hg, r⟩ := h2 n0 ((5, 3, -1, 0) :: S) g N hn
  refine zp_R.st (zp_cp h h1) (r.en ?_)
  simp [zp_st, h3]
theorem zp_T8 (h : tk k ≠ 311) (h1 : tk k ≠ 123) (h2 : zp_ok tk va 0 d k k1 cs) (h3 : 0 < zp_cm (tk k1)) (h4 : zp_no tk va 0 d (k1 + 1) f) : zp_no tk va 5 d k f := fun n0 S g N hn => by
  obtain ⟨sg, g1, e, hg, r⟩ := h2 n0 ((5, 3, -1, 0) :: S) g N hn
  refine zp_R.st (zp_cp h h1) (r.tr (zp_R.st ?_ (h4 n0 ((5, 4, g1, zp_cm (tk k1)) :: S) g1 (N ++ sg) hn)))
  simp [zp_st, h3]
theorem zp_T9 (h : tk k ≠ 311) (h1 : tk k ≠ 123) (h2 : zp_ok tk va 0 d k k1 cs) (h3 : 0 < zp_cm (tk k1)) (h4 : zp_ok tk va 0 d (k1 + 1) k2 cs2) : zp_ok tk va 5 d k k2 (cs ++ (cs2 ++ [1 - zp_cm (tk k1)])) := fun n0 S g N hn => by
  obtain ⟨sg, g1, e, hg, r⟩ := h2 n0 ((5, 3, -1, 0) :: S) g N hn
  obtain ⟨sg2, g2, e2, hg2, r2⟩ := h4 n0 ((5, 4, g1, zp_cm (tk k1)) :: S) g1 (N ++ sg) hn
  refine ⟨sg ++ (sg2 ++ [(zp_cm (tk k1), g1, g2)]), n0 + (N ++ sg ++ sg2).length, ?_, by omega, zp_R.st (zp_cp h h1) (r.tr (zp_R.st ?_ (r2.en ?_)))⟩
  · have q : zp_en (zp_cm (tk k1), g1, g2) = 1 - zp_cm (tk k1) := by
      have h5 : zp_cm (tk k1) = 8 ∨ zp_cm (tk k1) = 9 ∨ zp_cm (tk k1) = 10 := by
        simp only [zp_cm] at h3 ⊢
        repeat' split at h3
        all_goals simp_all
      rcases h5 with h5 | h5 | h5 <;> simp [zp_en, h5]
    rw [List.map_append, List.map_append, List.map_cons, List.map_nil, e, e2, q]
  · simp [zp_st, h3]
  · simp [zp_st]
end ZQ
