/-! WHAT A TEXT'S NODES ARE WORTH, and the same read as code, a stack of values -/
noncomputable def zp_h (v : Int) : Int := if 1000000000 < v then 1000000000 else if v < -1000000000 then -1000000000 else v
noncomputable def zp_vl (A : Int → Int) (n : zp_N) (a b : Int) : Int := zp_h (
  if n.1 = 0 then n.2.1 else if n.1 = 1 then A n.2.1 else if n.1 = 2 then a + b else if n.1 = 3 then a - b else if n.1 = 4 then a * b
  else if n.1 = 5 then (if b = 0 then 0 else a.tdiv b) else if n.1 = 6 then (if a < b then a else b) else if n.1 = 7 then (if b < a then a else b)
  else if n.1 = 8 then (if a < b then 1 else 0) else if n.1 = 9 then (if b < a then 1 else 0) else if n.1 = 10 then (if a = b then 1 else 0)
  else if n.1 = 11 then (if a = 0 then 1 else 0) else if n.1 = 12 then (if a ≠ 0 ∧ b ≠ 0 then 1 else 0) else (if a ≠ 0 ∨ b ≠ 0 then 1 else 0))
noncomputable def zp_jn (c a b : Int) : Int := zp_h (
  if c = -1 then a + b else if c = -2 then a - b else if c = -3 then a * b else if c = -4 then (if b = 0 then 0 else a.tdiv b)
  else if c = -5 then (if a < b then a else b) else if c = -6 then (if b < a then a else b) else if c = -7 then (if a < b then 1 else 0)
  else if c = -8 then (if b < a then 1 else 0) else if c = -9 then (if a = b then 1 else 0)
  else if c = -10 then (Int32.ofInt a &&& Int32.ofInt b).toInt else (Int32.ofInt a ||| Int32.ofInt b).toInt)
/-- the code from a place on, with the values that wait; what is left of the row is its length -/
noncomputable def zp_e1 (F : List Int → Int) : List Int → Int
  | [] => 0
  | x :: r => F ((1 - x) :: r)
noncomputable def zp_e2 (c : Int) (F : List Int → Int) : List Int → Int
  | b :: a :: r => F (zp_jn c a b :: r)
  | _ => 0
noncomputable def zp_ev (A : Int → Int) (cd : Nat → Int) : Nat → Nat → List Int → Int
  | 0, _, st => if st.length = 1 then st.headD 0 else 0
  | f + 1, p, st =>
    if cd p = -13 then (if st.length = 1 then st.headD 0 else 0)
    else if 0 ≤ cd p ∨ cd p ≤ -20 then (if 64 ≤ st.length then 0 else zp_ev A cd f (p + 1) ((if 0 ≤ cd p then cd p else A (-20 - cd p)) :: st))
    else if cd p = -12 then zp_e1 (zp_ev A cd f (p + 1)) st
    else zp_e2 (cd p) (zp_ev A cd f (p + 1)) st
noncomputable def zp_cd (cd : Nat → Int) : Nat → List Int → Prop
  | _, [] => True
  | p, c :: cs => cd p = c ∧ zp_cd cd (p + 1) cs
/-- each node's worth by those of its parts -/
noncomputable def zp_RV (A R : Int → Int) : Int → List zp_N → Prop
  | _, [] => True
  | i, n :: N => R i = zp_vl A n (R n.2.1) (R n.2.2) ∧ zp_RV A R (i + 1) N
noncomputable def zp_ty (R : Int → Int) : zp_Y → Prop
  | [] => True
  | (j, t) :: r => (t = true → R j = 0 ∨ R j = 1) ∧ zp_ty R r
noncomputable def zp_vs (R : Int → Int) (st : zp_Y) : List Int := st.map (fun q => R q.1)
theorem zp_h_b (v : Int) : -1000000000 ≤ zp_h v ∧ zp_h v ≤ 1000000000 := by
  unfold zp_h
  repeat' split
  all_goals omega
theorem zp_h_i {v : Int} (h : -1000000000 ≤ v ∧ v ≤ 1000000000) : zp_h v = v := by
  unfold zp_h
  rw [if_neg (by omega), if_neg (by omega)]
theorem zp_h_01 {p : Prop} [Decidable p] : zp_h (if p then 1 else 0) = if p then 1 else 0 := by
  split <;> rfl
section ZE
variable {A R : Int → Int} {cd : Nat → Int} {f p : Nat} {st : List Int} {i x y : Int}
theorem zp_ev_end (h : cd p = -13) : zp_ev A cd (f + 1) p st = if st.length = 1 then st.headD 0 else 0 := by
  rw [zp_ev, if_pos h]
theorem zp_ev_num {v : Int} (h : cd p = v) (hv : 0 ≤ v) (hl : st.length < 64) : zp_ev A cd (f + 1) p st = zp_ev A cd f (p + 1) (v :: st) := by
  rw [zp_ev, if_neg (by omega), if_pos (Or.inl (by omega)), if_neg (by omega), if_pos (by omega), h]
theorem zp_ev_nam {v : Int} (h : cd p = -20 - v) (hv : 0 ≤ v) (hl : st.length < 64) : zp_ev A cd (f + 1) p st = zp_ev A cd f (p + 1) (A v :: st) := by
  rw [zp_ev, if_neg (by omega), if_pos (Or.inr (by omega)), if_neg (by omega), if_neg (by omega), h, show -20 - (-20 - v) = v by omega]
theorem zp_ev_not (h : cd p = -12) : zp_ev A cd (f + 1) p (x :: st) = zp_ev A cd f (p + 1) ((1 - x) :: st) := by
  rw [zp_ev, if_neg (by omega), if_neg (by omega), if_pos h]
  rfl
theorem zp_ev_bin {c : Int} (h : cd p = c) (hc : -11 ≤ c ∧ c ≤ -1) : zp_ev A cd (f + 1) p (y :: x :: st) = zp_ev A cd f (p + 1) (zp_jn c x y :: st) := by
  rw [zp_ev, if_neg (by omega), if_neg (by omega), if_neg (by omega), h]
  rfl
theorem zp_and {a b : Int} (ha : a = 0 ∨ a = 1) (hb : b = 0 ∨ b = 1) : (Int32.ofInt a &&& Int32.ofInt b).toInt = if a ≠ 0 ∧ b ≠ 0 then 1 else 0 := by
  rcases ha with rfl | rfl <;> rcases hb with rfl | rfl <;> decide
theorem zp_or {a b : Int} (ha : a = 0 ∨ a = 1) (hb : b = 0 ∨ b = 1) : (Int32.ofInt a ||| Int32.ofInt b).toInt = if a ≠ 0 ∨ b ≠ 0 then 1 else 0 := by
  rcases ha with rfl | rfl <;> rcases hb with rfl | rfl <;> decide
/-- a sign's worth is the same both ways -/
theorem zp_jn_vl {n : zp_N} {a b : Int} (h2 : 2 ≤ n.1) (h13 : n.1 ≤ 13) (h11 : n.1 ≠ 11) (hb : n.1 < 12 ∨ ((a = 0 ∨ a = 1) ∧ (b = 0 ∨ b = 1))) : zp_jn (zp_en n) a b = zp_vl A n a b := by
  obtain ⟨kd, x, y⟩ := n
  have h2 : 2 ≤ kd := h2
  have h13 : kd ≤ 13 := h13
  have h11 : kd ≠ 11 := h11
  have hb : kd < 12 ∨ ((a = 0 ∨ a = 1) ∧ (b = 0 ∨ b = 1)) := hb
  have hk : kd = 2 ∨ kd = 3 ∨ kd = 4 ∨ kd = 5 ∨ kd = 6 ∨ kd = 7 ∨ kd = 8 ∨ kd = 9 ∨ kd = 10 ∨ kd = 12 ∨ kd = 13 := by omega
  rcases hk with rfl | rfl | rfl | rfl | rfl | rfl | rfl | rfl | rfl | rfl | rfl
  · rfl
  · rfl
  · rfl
  · rfl
  · rfl
  · rfl
  · rfl
  · rfl
  · rfl
  · have q := hb.resolve_left (by decide)
    have e := zp_and q.1 q.2
    show zp_h ((Int32.ofInt a &&& Int32.ofInt b).toInt) = zp_h (if a ≠ 0 ∧ b ≠ 0 then 1 else 0)
    rw [e]
  · have q := hb.resolve_left (by decide)
    have e := zp_or q.1 q.2
    show zp_h ((Int32.ofInt a ||| Int32.ofInt b).toInt) = zp_h (if a ≠ 0 ∨ b ≠ 0 then 1 else 0)
    rw [e]
theorem zp_en_b {n : zp_N} (h2 : 2 ≤ n.1) (h13 : n.1 ≤ 13) (h11 : n.1 ≠ 11) : -11 ≤ zp_en n ∧ zp_en n ≤ -1 := by
  unfold zp_en
  rw [if_neg (by omega), if_neg (by omega)]
  repeat' split
  all_goals omega
theorem zp_vl_01 {n : zp_N} {a b : Int} (h8 : 8 ≤ n.1) : zp_vl A n a b = 0 ∨ zp_vl A n a b = 1 := by
  unfold zp_vl
  rw [if_neg (by omega), if_neg (by omega), if_neg (by omega), if_neg (by omega), if_neg (by omega), if_neg (by omega), if_neg (by omega), if_neg (by omega)]
  repeat' split
  all_goals first | exact Or.inl rfl | exact Or.inr rfl
/-- one node -/
theorem zp_ev_1 {n : zp_N} {s s1 : zp_Y} (hA : ∀ j, 0 ≤ j → j ≤ 6 → -1000000000 ≤ A j ∧ A j ≤ 1000000000) (hs : zp_y1 i n s = some s1) (hc : cd p = zp_en n) (hR : R i = zp_vl A n (R n.2.1) (R n.2.2)) (ht : zp_ty R s) : zp_ev A cd (f + 1) p (zp_vs R s) = zp_ev A cd f (p + 1) (zp_vs R s1) ∧ zp_ty R s1 := by
  obtain ⟨kd, a, b⟩ := n
  unfold zp_y1 at hs
  by_cases q1 : (kd = 0 ∧ 0 ≤ a ∧ a ≤ 999999) ∨ (kd = 1 ∧ 0 ≤ a ∧ a ≤ 6)
  · rw [if_pos q1] at hs
    by_cases q2 : s.length ≤ 40
    · rw [if_pos q2] at hs
      have e := Option.some.inj hs
      subst e
      have hl : (zp_vs R s).length < 64 := by
        rw [zp_vs, List.length_map]
        omega
      refine ⟨?_, (fun z => by cases z), ht⟩
      rcases q1 with ⟨rfl, q3, q4⟩ | ⟨rfl, q3, q4⟩
      · have e : R i = a := by
          rw [hR]
          exact zp_h_i (by show -1000000000 ≤ a ∧ a ≤ 1000000000; omega)
        rw [zp_ev_num hc q3 hl]
        show _ = zp_ev A cd f (p + 1) (R i :: zp_vs R s)
        rw [e]
        rfl
      · have e : R i = A a := by
          rw [hR]
          exact zp_h_i (hA a q3 q4)
        rw [zp_ev_nam hc q3 hl]
        show _ = zp_ev A cd f (p + 1) (R i :: zp_vs R s)
        rw [e]
    · rw [if_neg q2] at hs
      cases hs
  · rw [if_neg q1] at hs
    by_cases q2 : kd = 11
    · subst q2
      rw [if_pos rfl] at hs
      match s, hs, ht with
      | (x, t) :: r, hs, ht =>
        have hs : (if a = x ∧ t = true then some ((i, true) :: r) else none) = some s1 := hs
        by_cases q3 : a = x ∧ t = true
        · rw [if_pos q3] at hs
          have e := Option.some.inj hs
          subst e
          have hx := ht.1 q3.2
          have e : R i = if R x = 0 then 1 else 0 := by
            rw [hR, ← q3.1]
            exact zp_h_01
          have e2 : R i = 1 - R x := by
            rw [e]
            rcases hx with z | z <;> rw [z] <;> rfl
          refine ⟨?_, fun _ => by omega, ht.2⟩
          show zp_ev A cd (f + 1) p (R x :: zp_vs R r) = zp_ev A cd f (p + 1) (R i :: zp_vs R r)
          rw [zp_ev_not hc, e2]
        · rw [if_neg q3] at hs
          cases hs
    · rw [if_neg q2] at hs
      match s, hs, ht with
      | (y, t2) :: (x, t1) :: r, hs, ht =>
        have hs : (if a = x ∧ b = y ∧ 2 ≤ kd ∧ kd ≤ 13 ∧ (kd < 12 ∨ (t1 = true ∧ t2 = true)) then some ((i, decide (8 ≤ kd)) :: r) else none) = some s1 := hs
        by_cases q3 : a = x ∧ b = y ∧ 2 ≤ kd ∧ kd ≤ 13 ∧ (kd < 12 ∨ (t1 = true ∧ t2 = true))
        · rw [if_pos q3] at hs
          have e := Option.some.inj hs
          subst e
          obtain ⟨rfl, rfl, k2, k13, kb⟩ := q3
          have e : zp_jn (zp_en (kd, a, b)) (R a) (R b) = R i := by
            rw [hR]
            exact zp_jn_vl k2 k13 q2 (kb.elim Or.inl (fun z => Or.inr ⟨ht.2.1 z.1, ht.1 z.2⟩))
          refine ⟨?_, fun z => ?_, ht.2.2⟩
          · show zp_ev A cd (f + 1) p (R b :: R a :: zp_vs R r) = zp_ev A cd f (p + 1) (R i :: zp_vs R r)
            rw [zp_ev_bin hc (zp_en_b k2 k13 q2), e]
          · rw [hR]
            exact zp_vl_01 (of_decide_eq_true z)
        · rw [if_neg q3] at hs
          cases hs
theorem zp_ev_all (hA : ∀ j, 0 ≤ j → j ≤ 6 → -1000000000 ≤ A j ∧ A j ≤ 1000000000) : ∀ (sg : List zp_N) (i : Int) (p f : Nat) (s s1 : zp_Y), zp_sy i sg s = some s1 → zp_cd cd p (sg.map zp_en) → zp_RV A R i sg → zp_ty R s → zp_ev A cd (sg.length + f) p (zp_vs R s) = zp_ev A cd f (p + sg.length) (zp_vs R s1) ∧ zp_ty R s1
  | [], i, p, f, s, s1, hs, _, _, ht => by
    have e := Option.some.inj hs
    subst e
    rw [List.length_nil, Nat.zero_add]
    exact ⟨rfl, ht⟩
  | n :: sg, i, p, f, s, s1, hs, hc, hR, ht => by
    have hs : (zp_y1 i n s).bind (fun s1 => zp_sy (i + 1) sg s1) = some s1 := hs
    cases h1 : zp_y1 i n s with
    | none =>
      rw [h1] at hs
      cases hs
    | some s2 =>
      rw [h1] at hs
      have hs : zp_sy (i + 1) sg s2 = some s1 := hs
      obtain ⟨e1, t1⟩ := zp_ev_1 (f := sg.length + f) hA h1 hc.1 hR.1 ht
      obtain ⟨e2, t2⟩ := zp_ev_all hA sg (i + 1) (p + 1) f s2 s1 hs hc.2 hR.2 t1
      have q1 : (n :: sg).length + f = sg.length + f + 1 := by
        rw [List.length_cons]
        omega
      have q2 : p + (n :: sg).length = p + 1 + sg.length := by
        rw [List.length_cons]
        omega
      rw [q1, q2, e1]
      exact ⟨e2, t2⟩
/-- a text's worth, read as code -/
theorem zp_ev_fin (hA : ∀ j, 0 ≤ j → j ≤ 6 → -1000000000 ≤ A j ∧ A j ≤ 1000000000) {sg : List zp_N} {g : Int} {t : Bool} {len : Nat} (hs : zp_sy i sg [] = some [(g, t)]) (hc : zp_cd cd p (sg.map zp_en)) (hR : zp_RV A R i sg) (he : cd (p + sg.length) = -13) (hl : p + sg.length < len) : zp_ev A cd (len - p) p [] = R g ∧ (t = true → R g = 0 ∨ R g = 1) := by
  obtain ⟨f, hf⟩ : ∃ f, len - p = sg.length + (f + 1) := ⟨len - p - sg.length - 1, by omega⟩
  obtain ⟨e1, t1⟩ := zp_ev_all hA sg i p (f + 1) [] _ hs hc hR trivial
  refine ⟨?_, t1.1⟩
  rw [hf]
  have e1 : zp_ev A cd (sg.length + (f + 1)) p [] = zp_ev A cd (f + 1) (p + sg.length) [R g] := e1
  rw [e1, zp_ev_end he]
  rfl
end ZE
