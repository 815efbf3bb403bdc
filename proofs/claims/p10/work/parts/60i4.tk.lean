/-! TOKENS of bytes h (below 0: none more): blanks from p to f; a token from f to e: its number t (a sign its byte, words 300 to 320, 400 a NUMBER, 401 the end, 402 none), what it holds v -/
noncomputable def zp_bl (c : Int) : Prop := c = 32 ∨ c = 10
noncomputable def zp_al (c : Int) : Prop := 97 ≤ c ∧ c ≤ 122
noncomputable def zp_dg (c : Int) : Prop := 48 ≤ c ∧ c ≤ 57
noncomputable def zp_sg (c : Int) : Prop := c = 40 ∨ c = 41 ∨ c = 42 ∨ c = 43 ∨ c = 44 ∨ c = 45 ∨ c = 47 ∨ c = 59 ∨ c = 60 ∨ c = 61 ∨ c = 62 ∨ c = 123 ∨ c = 125
noncomputable def zp_sk (h : Nat → Int) (p f : Nat) : Prop := p ≤ f ∧ (∀ j, p ≤ j → j < f → zp_bl (h j)) ∧ ¬ zp_bl (h f)
noncomputable def zp_ru (h : Nat → Int) (P : Int → Prop) (f e : Nat) : Prop := f < e ∧ (∀ j, f ≤ j → j < e → P (h j)) ∧ ¬ P (h e)
noncomputable def zp_nm (h : Nat → Int) (f : Nat) : Nat → Int
  | 0 => 0
  | m + 1 => zp_nm h f m * 10 + (h (f + m) - 48)
noncomputable def zp_f7 (h : Nat → Int) (f : Nat) : Nat → Int
  | 0 => 0
  | m + 1 => zp_f7 h f m * 27 + (h (f + m) - 96)
/-- the words, units to reason -/
noncomputable def zp_W : List (List Int) := [[117, 110, 105, 116, 115], [116, 114, 105, 112], [115, 116, 111, 112], [119, 111, 114, 116, 104], [108, 97, 112, 115, 101], [108, 101, 110, 100], [119, 97, 115, 116, 101], [100, 111, 117, 98, 116], [105, 102], [111, 114], [97, 110, 100], [110, 111, 116], [108, 101, 97, 115, 116], [109, 111, 115, 116], [99, 108, 97, 115, 115], [115, 105, 122, 101], [116, 111, 119, 110], [109, 111, 110, 116, 104], [109, 105, 108, 101, 115], [112, 101, 111, 112, 108, 101], [114, 101, 97, 115, 111, 110]]
noncomputable def zp_K : List Int := [11442943, 407041, 388978, 12532058, 6409157, 240223, 12257222, 2436392, 249, 423, 1111, 10631, 6476969, 267347, 1831780, 381245, 405230, 7214732, 7094782, 232546955, 260971484]
noncomputable def zp_mw (h : Nat → Int) (f e : Nat) (l : List Int) : Prop := e = f + l.length ∧ zp_cd h f l
noncomputable def zp_wo (h : Nat → Int) (f e : Nat) (t : Int) : Prop := (∃ i : Nat, i < 21 ∧ t = 300 + (i : Int) ∧ zp_mw h f e (zp_W.getD i [])) ∨ (t = 402 ∧ ∀ i : Nat, i < 21 → ¬ zp_mw h f e (zp_W.getD i []))
noncomputable def zp_tk (h : Nat → Int) (f e : Nat) (t v : Int) : Prop :=
  (h f < 0 ∧ e = f ∧ t = 401) ∨ (zp_al (h f) ∧ zp_ru h zp_al f e ∧ zp_wo h f e t) ∨
  (zp_dg (h f) ∧ zp_ru h zp_dg f e ∧ ((e ≤ f + 6 ∧ t = 400 ∧ v = zp_nm h f (e - f)) ∨ (f + 6 < e ∧ t = 402))) ∨
  (zp_sg (h f) ∧ e = f + 1 ∧ t = h f) ∨ (0 ≤ h f ∧ ¬ zp_al (h f) ∧ ¬ zp_dg (h f) ∧ ¬ zp_sg (h f) ∧ e = f + 1 ∧ t = 402)
theorem zp_sk_u {h : Nat → Int} {p f f1 : Nat} (h1 : zp_sk h p f) (h2 : zp_sk h p f1) : f = f1 := by
  rcases Nat.lt_trichotomy f f1 with q | q | q
  · exact absurd (h2.2.1 f h1.1 q) h1.2.2
  · exact q
  · exact absurd (h1.2.1 f1 h2.1 q) h2.2.2
theorem zp_ru_u {h : Nat → Int} {P : Int → Prop} {f e e1 : Nat} (h1 : zp_ru h P f e) (h2 : zp_ru h P f e1) : e = e1 := by
  rcases Nat.lt_trichotomy e e1 with q | q | q
  · exact absurd (h2.2.1 e (Nat.le_of_lt h1.1) q) h1.2.2
  · exact q
  · exact absurd (h1.2.1 e1 (Nat.le_of_lt h2.1) q) h2.2.2
theorem zp_cd_u {h : Nat → Int} : ∀ (l l1 : List Int) (p : Nat), l.length = l1.length → zp_cd h p l → zp_cd h p l1 → l = l1
  | [], [], _, _, _, _ => rfl
  | [], _ :: _, _, e, _, _ => by cases e
  | _ :: _, [], _, e, _, _ => by cases e
  | a :: l, b :: l1, p, e, h1, h2 => by
    have e1 : a = b := h1.1.symm.trans h2.1
    have e2 := zp_cd_u l l1 (p + 1) (Nat.succ.inj e) h1.2 h2.2
    rw [e1, e2]
theorem zp_W_u : ∀ i : Nat, i < 21 → ∀ j : Nat, j < 21 → zp_W.getD i [] = zp_W.getD j [] → i = j := by decide +kernel
theorem zp_mw_u {h : Nat → Int} {f e i j : Nat} (hi : i < 21) (hj : j < 21) (h1 : zp_mw h f e (zp_W.getD i [])) (h2 : zp_mw h f e (zp_W.getD j [])) : i = j := by
  refine zp_W_u i hi j hj (zp_cd_u _ _ f ?_ h1.2 h2.2)
  have a := h1.1
  have b := h2.1
  omega
theorem zp_wo_u {h : Nat → Int} {f e : Nat} {t t1 : Int} (h1 : zp_wo h f e t) (h2 : zp_wo h f e t1) : t = t1 := by
  rcases h1 with ⟨i, hi, e1, m1⟩ | ⟨e1, n1⟩ <;> rcases h2 with ⟨j, hj, e2, m2⟩ | ⟨e2, n2⟩
  · rw [e1, e2, zp_mw_u hi hj m1 m2]
  · exact absurd m1 (n2 i hi)
  · exact absurd m2 (n1 j hj)
  · rw [e1, e2]
theorem zp_sg_b {c : Int} (h : zp_sg c) : 40 ≤ c ∧ c ≤ 125 ∧ ¬ zp_al c ∧ ¬ zp_dg c := by
  unfold zp_sg at h
  unfold zp_al zp_dg
  omega
theorem zp_tk_u {h : Nat → Int} {f e e1 : Nat} {t t1 v v1 : Int} (h1 : zp_tk h f e t v) (h2 : zp_tk h f e1 t1 v1) : e = e1 ∧ t = t1 ∧ (t = 400 → v = v1) := by
  have hsg : ∀ c, zp_sg c → 40 ≤ c ∧ c ≤ 125 ∧ ¬ zp_al c ∧ ¬ zp_dg c := fun c => zp_sg_b
  rcases h1 with ⟨a1, a2, a3⟩ | ⟨a1, a2, a3⟩ | ⟨a1, a2, a3⟩ | ⟨a1, a2, a3⟩ | ⟨a1, a2, a3, a4, a5, a6⟩ <;>
    rcases h2 with ⟨b1, b2, b3⟩ | ⟨b1, b2, b3⟩ | ⟨b1, b2, b3⟩ | ⟨b1, b2, b3⟩ | ⟨b1, b2, b3, b4, b5, b6⟩
  · exact ⟨by omega, by omega, by omega⟩
  · exact absurd b1.1 (by omega)
  · exact absurd b1.1 (by omega)
  · exact absurd (hsg _ b1).1 (by omega)
  · exact absurd b1 (by omega)
  · exact absurd a1.1 (by omega)
  · have e := zp_ru_u a2 b2
    subst e
    have e := zp_wo_u a3 b3
    refine ⟨rfl, e, fun z => ?_⟩
    exfalso
    rcases a3 with ⟨i, hi, e1, _⟩ | ⟨e1, _⟩ <;> omega
  · exact absurd a1.1 (by have := b1.2; omega)
  · exact absurd a1 (hsg _ b1).2.2.1
  · exact absurd a1 b2
  · exact absurd a1.1 (by omega)
  · exact absurd b1.1 (by have := a1.2; omega)
  · have e := zp_ru_u a2 b2
    subst e
    rcases a3 with ⟨c1, c2, c3⟩ | ⟨c1, c2⟩ <;> rcases b3 with ⟨d1, d2, d3⟩ | ⟨d1, d2⟩
    · exact ⟨rfl, by omega, fun _ => by rw [c3, d3]⟩
    · omega
    · omega
    · exact ⟨rfl, by omega, fun z => by omega⟩
  · exact absurd a1 (hsg _ b1).2.2.2
  · exact absurd a1 b3
  · exact absurd (hsg _ a1).1 (by omega)
  · exact absurd b1 (hsg _ a1).2.2.1
  · exact absurd b1 (hsg _ a1).2.2.2
  · exact ⟨by omega, by omega, fun z => by have := (hsg _ a1).2.1; omega⟩
  · exact absurd a1 b4
  · exact absurd a1 (by omega)
  · exact absurd b1 a2
  · exact absurd b1 a3
  · exact absurd b1 a4
  · exact ⟨by omega, by omega, fun z => by omega⟩
/-! words as numbers by 27 -/
theorem zp_f7_p {h : Nat → Int} {f : Nat} : ∀ m, (∀ j, f ≤ j → j < f + m → zp_al (h j)) → 0 ≤ zp_f7 h f m ∧ (m ≠ 0 → 1 ≤ zp_f7 h f m)
  | 0, _ => ⟨Int.le_refl 0, fun z => absurd rfl z⟩
  | m + 1, hl => by
    have h1 := (zp_f7_p m (fun j a b => hl j a (by omega))).1
    have h2 := hl (f + m) (by omega) (by omega)
    unfold zp_al at h2
    have e : zp_f7 h f (m + 1) = zp_f7 h f m * 27 + (h (f + m) - 96) := rfl
    rw [e]
    exact ⟨by omega, fun _ => by omega⟩
theorem zp_f7_s {h : Nat → Int} {f m : Nat} {K D : Int} (hl : ∀ j, f ≤ j → j < f + m → zp_al (h j)) (e : zp_f7 h f m = K * 27 + D) (hK : 0 ≤ K) (hD : 1 ≤ D ∧ D ≤ 26) : ∃ m1, m = m1 + 1 ∧ zp_f7 h f m1 = K ∧ h (f + m1) = 96 + D := by
  cases m with
  | zero =>
    have e0 : zp_f7 h f 0 = 0 := rfl
    omega
  | succ m1 =>
    have h2 := hl (f + m1) (by omega) (by omega)
    unfold zp_al at h2
    have e1 : zp_f7 h f (m1 + 1) = zp_f7 h f m1 * 27 + (h (f + m1) - 96) := rfl
    exact ⟨m1, rfl, by omega, by omega⟩
theorem zp_f7_0 {h : Nat → Int} {f m : Nat} (hl : ∀ j, f ≤ j → j < f + m → zp_al (h j)) (e : zp_f7 h f m = 0) : m = 0 := by
  by_cases q : m = 0
  · exact q
  · have := (zp_f7_p m hl).2 q
    omega
/-- a word's number and its letters say the same -/
noncomputable def zp_fl : List Int → Int
  | [] => 0
  | c :: l => zp_fl l * 27 + (c - 96)
theorem zp_cd_snoc {h : Nat → Int} : ∀ (l : List Int) (p : Nat) (c : Int), zp_cd h p (l ++ [c]) ↔ zp_cd h p l ∧ h (p + l.length) = c
  | [], p, c => by simp [zp_cd]
  | a :: l, p, c => by
    have e : p + (a :: l).length = p + 1 + l.length := by
      rw [List.length_cons]
      omega
    rw [e]
    show (h p = a ∧ zp_cd h (p + 1) (l ++ [c])) ↔ (h p = a ∧ zp_cd h (p + 1) l) ∧ _
    rw [zp_cd_snoc l (p + 1) c, and_assoc]
theorem zp_f7_w {h : Nat → Int} {f : Nat} : ∀ (r : List Int) (m : Nat), (∀ c ∈ r, 97 ≤ c ∧ c ≤ 122) → (∀ j, f ≤ j → j < f + m → zp_al (h j)) → (zp_f7 h f m = zp_fl r ↔ m = r.length ∧ zp_cd h f r.reverse)
  | [], m, _, hl => by
    refine ⟨fun e => ⟨zp_f7_0 hl e, trivial⟩, fun e => ?_⟩
    rw [e.1]
    rfl
  | c :: r, m, hr, hl => by
    have hc := hr c (List.mem_cons_self ..)
    have hr' : ∀ c ∈ r, 97 ≤ c ∧ c ≤ 122 := fun x hx => hr x (List.mem_cons_of_mem _ hx)
    have hK : ∀ r : List Int, (∀ c ∈ r, 97 ≤ c ∧ c ≤ 122) → 0 ≤ zp_fl r := fun r => by
      induction r with
      | nil => exact fun _ => Int.le_refl 0
      | cons x r ih =>
        intro hx
        have h1 := ih (fun y hy => hx y (List.mem_cons_of_mem _ hy))
        have h2 := hx x (List.mem_cons_self ..)
        show 0 ≤ zp_fl r * 27 + (x - 96)
        omega
    rw [List.reverse_cons, zp_cd_snoc]
    constructor
    · intro e
      obtain ⟨m1, rfl, e1, e2⟩ := zp_f7_s hl (show zp_f7 h f m = zp_fl r * 27 + (c - 96) from e) (hK r hr') (by omega)
      have := (zp_f7_w r m1 hr' (fun j a b => hl j a (by omega))).mp e1
      refine ⟨by rw [List.length_cons]; omega, this.2, ?_⟩
      rw [List.length_reverse, ← this.1, e2]
      omega
    · rintro ⟨e1, e2, e3⟩
      rw [List.length_cons] at e1
      subst e1
      have := (zp_f7_w r r.length hr' (fun j a b => hl j a (by omega))).mpr ⟨rfl, e2⟩
      rw [List.length_reverse] at e3
      show zp_f7 h f r.length * 27 + (h (f + r.length) - 96) = zp_fl r * 27 + (c - 96)
      rw [this, e3]
theorem zp_K_W : ∀ i : Nat, i < 21 → zp_K.getD i 0 = zp_fl (zp_W.getD i []).reverse ∧ ∀ c ∈ (zp_W.getD i []).reverse, 97 ≤ c ∧ c ≤ 122 := by decide +kernel
theorem zp_Kw {h : Nat → Int} {f e i : Nat} (hi : i < 21) (hr : zp_ru h zp_al f e) : zp_f7 h f (e - f) = zp_K.getD i 0 ↔ zp_mw h f e (zp_W.getD i []) := by
  obtain ⟨h1, h2⟩ := zp_K_W i hi
  have hf := hr.1
  rw [h1, zp_f7_w _ _ h2 (fun j a b => hr.2.1 j a (by omega)), List.length_reverse, List.reverse_reverse]
  unfold zp_mw
  constructor
  · rintro ⟨a, b⟩
    exact ⟨by omega, b⟩
  · rintro ⟨a, b⟩
    exact ⟨by omega, b⟩
/-- what the reference knows of a token: its sort, the word's number, the sign, the value -/
noncomputable def zp_TR (h : Nat → Int) (f e : Nat) (t v tok w sg vl : Int) : Prop := (tok = 0 ∧ t = 401) ∨ (tok = 1 ∧ zp_ru h zp_al f e ∧ zp_wo h f e t ∧ w = if e ≤ f + 10 then zp_f7 h f (e - f) else -1) ∨ (tok = 2 ∧ t = 400 ∧ vl = v) ∨ (tok = 3 ∧ t = sg ∧ zp_sg sg) ∨ (tok = 4 ∧ t = 402)
theorem zp_K_b : ∀ i : Nat, i < 21 → 0 ≤ zp_K.getD i 0 ∧ (zp_W.getD i []).length ≤ 6 := by decide +kernel
theorem zp_TR_w {h : Nat → Int} {f e i : Nat} {t v tok w sg vl : Int} (hi : i < 21) (ht : zp_TR h f e t v tok w sg vl) : (tok = 1 ∧ w = zp_K.getD i 0) ↔ t = 300 + (i : Int) := by
  have hb := zp_K_b i hi
  rcases ht with ⟨a1, a2⟩ | ⟨a1, a2, a3, a4⟩ | ⟨a1, a2, a3⟩ | ⟨a1, a2, a3⟩ | ⟨a1, a2⟩
  · omega
  · have hk := zp_Kw (h := h) (f := f) (e := e) hi a2
    constructor
    · rintro ⟨-, b⟩
      have hw : zp_f7 h f (e - f) = zp_K.getD i 0 := by
        by_cases q : e ≤ f + 10
        · rw [if_pos q] at a4
          omega
        · rw [if_neg q] at a4
          omega
      have hm := hk.mp hw
      rcases a3 with ⟨j, hj, c1, c2⟩ | ⟨c1, c2⟩
      · rw [c1, zp_mw_u hi hj hm c2]
      · exact absurd hm (c2 i hi)
    · intro b
      refine ⟨a1, ?_⟩
      rcases a3 with ⟨j, hj, c1, c2⟩ | ⟨c1, c2⟩
      · have e1 : j = i := by omega
        subst e1
        rw [a4, if_pos (by have := c2.1; omega)]
        exact hk.mpr c2
      · omega
  · omega
  · have := zp_sg_b a3
    omega
  · omega
theorem zp_TR_s {h : Nat → Int} {f e : Nat} {t v tok w sg vl c : Int} (hc : zp_sg c) (ht : zp_TR h f e t v tok w sg vl) : (tok = 3 ∧ sg = c) ↔ t = c := by
  have hb := zp_sg_b hc
  rcases ht with ⟨a1, a2⟩ | ⟨a1, a2, a3, a4⟩ | ⟨a1, a2, a3⟩ | ⟨a1, a2, a3⟩ | ⟨a1, a2⟩
  · omega
  · rcases a3 with ⟨j, hj, c1, c2⟩ | ⟨c1, c2⟩ <;> omega
  · omega
  · omega
  · omega
theorem zp_TR_n {h : Nat → Int} {f e : Nat} {t v tok w sg vl : Int} (ht : zp_TR h f e t v tok w sg vl) : (tok = 2 ↔ t = 400) ∧ (t = 400 → vl = v) ∧ (tok = 0 ↔ t = 401) := by
  rcases ht with ⟨a1, a2⟩ | ⟨a1, a2, a3, a4⟩ | ⟨a1, a2, a3⟩ | ⟨a1, a2, a3⟩ | ⟨a1, a2⟩
  · omega
  · rcases a3 with ⟨j, hj, c1, c2⟩ | ⟨c1, c2⟩ <;> omega
  · omega
  · have := zp_sg_b a3
    omega
  · omega
