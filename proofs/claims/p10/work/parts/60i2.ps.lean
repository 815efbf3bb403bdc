/-! WHAT THE NODES ARE: read one behind the other they leave one value: a stack of their places, each with whether it is a yes or no; never more than 40 wait -/
noncomputable abbrev zp_Y : Type := List (Int × Bool)
noncomputable def zp_y1 (i : Int) (n : zp_N) (st : zp_Y) : Option zp_Y :=
  if (n.1 = 0 ∧ 0 ≤ n.2.1 ∧ n.2.1 ≤ 999999) ∨ (n.1 = 1 ∧ 0 ≤ n.2.1 ∧ n.2.1 ≤ 6) then (if st.length ≤ 40 then some ((i, false) :: st) else none)
  else if n.1 = 11 then (match st with
    | (x, t) :: r => if n.2.1 = x ∧ t = true then some ((i, true) :: r) else none
    | [] => none)
  else (match st with
    | (y, t2) :: (x, t1) :: r => if n.2.1 = x ∧ n.2.2 = y ∧ 2 ≤ n.1 ∧ n.1 ≤ 13 ∧ (n.1 < 12 ∨ (t1 = true ∧ t2 = true)) then some ((i, decide (8 ≤ n.1)) :: r) else none
    | _ => none)
noncomputable def zp_sy : Int → List zp_N → zp_Y → Option zp_Y
  | _, [], st => some st
  | i, n :: N, st => (zp_y1 i n st).bind (fun s1 => zp_sy (i + 1) N s1)
theorem zp_sy_ap : ∀ (N1 : List zp_N) (i : Int) (N2 : List zp_N) (st : zp_Y), zp_sy i (N1 ++ N2) st = (zp_sy i N1 st).bind (fun s1 => zp_sy (i + N1.length) N2 s1)
  | [], i, N2, st => by simp [zp_sy]
  | n :: N1, i, N2, st => by
    show (zp_y1 i n st).bind (fun s1 => zp_sy (i + 1) (N1 ++ N2) s1) = ((zp_y1 i n st).bind (fun s1 => zp_sy (i + 1) N1 s1)).bind _
    cases zp_y1 i n st with
    | none => rfl
    | some s1 =>
      show zp_sy (i + 1) (N1 ++ N2) s1 = (zp_sy (i + 1) N1 s1).bind _
      rw [zp_sy_ap N1 (i + 1) N2 s1]
      have e : i + 1 + (N1.length : Int) = i + ((n :: N1).length : Int) := by
        rw [List.length_cons]
        omega
      rw [e]
theorem zp_sy_1 {i : Int} {N : List zp_N} {n : zp_N} {st s1 s2 : zp_Y} (h : zp_sy i N st = some s1) (h1 : zp_y1 (i + N.length) n s1 = some s2) : zp_sy i (N ++ [n]) st = some s2 := by
  rw [zp_sy_ap, h]
  show (zp_y1 (i + N.length) n s1).bind (fun s1 => some s1) = some s2
  rw [h1]
  rfl
noncomputable def zp_ch (w a : Int) : Int := if w ≤ 1 then w + 1 else if w = 2 then 0 else if w ≤ 4 then w + 1 else if a = 1 then 5 else if a = 2 then 3 else 0
noncomputable def zp_rk (w : Int) : Int := if w = 3 then 0 else if w = 4 then 1 else if w = 5 then 2 else if w = 0 then 3 else if w = 1 then 4 else 5
noncomputable def zp_fo (w a : Int) : Int := if (w = 2 ∧ a ≠ 0) ∨ (w = 5 ∧ (a = 1 ∨ a = 2)) then 1 else 0
noncomputable def zp_oc : List zp_F → Int
  | [] => 0
  | (w, a, _, _) :: S => zp_fo w a + zp_oc S
noncomputable def zp_fv (w a x s : Int) : Prop := ((w = 0 ∨ w = 1 ∨ w = 3 ∨ w = 4) ∧ (a = 0 ∨ a = 1) ∧ (a = 0 → x < 0) ∧ (0 ≤ x → w ≤ 1 → 2 ≤ s ∧ s ≤ 5)) ∨ (w = 2 ∧ 0 ≤ a ∧ a ≤ 3 ∧ (a ≠ 3 → x < 0) ∧ (a = 3 → 0 ≤ x) ∧ (2 ≤ a → s = 6 ∨ s = 7)) ∨ (w = 5 ∧ 0 ≤ a ∧ a ≤ 4 ∧ (a ≠ 4 → x < 0) ∧ (a = 4 → 0 ≤ x ∧ 8 ≤ s ∧ s ≤ 10))
noncomputable def zp_lk (w0 w : Int) : List zp_F → Prop
  | [] => w = w0
  | (w2, a2, _, _) :: _ => a2 ≠ 0 ∧ w = zp_ch w2 a2
noncomputable def zp_wf (w0 : Int) : List zp_F → Prop
  | [] => True
  | (w, a, x, s) :: S => zp_fv w a x s ∧ (S.length : Int) ≤ zp_rk w + 3 * zp_oc S ∧ zp_lk w0 w S ∧ zp_wf w0 S
noncomputable def zp_on : List zp_F → zp_Y → Prop
  | [], l => l = []
  | (w, _, x, _) :: S, l => if x < 0 then zp_on S l else ∃ t r, l = (x, t) :: r ∧ (w = 3 ∨ w = 4 → t = true) ∧ zp_on S r
noncomputable def zp_pe (w0 : Int) (g : Int) (st : zp_Y) : List zp_F → Prop
  | [] => ∃ t, st = [(g, t)] ∧ (3 ≤ w0 → t = true)
  | (w, a, x, s) :: S => if a = 0 then zp_on S st else ∃ t r, st = (g, t) :: r ∧ (3 ≤ zp_ch w a → t = true) ∧ zp_on ((w, a, x, s) :: S) r
theorem zp_pe_c {w0 g w a x s : Int} {st : zp_Y} {S : List zp_F} : zp_pe w0 g st ((w, a, x, s) :: S) = if a = 0 then zp_on S st else ∃ t r, st = (g, t) :: r ∧ (3 ≤ zp_ch w a → t = true) ∧ zp_on ((w, a, x, s) :: S) r := rfl
noncomputable def zp_V (n0 : Int) (N0 : List zp_N) (w0 : Int) : zp_S → Prop
  | .inl _ => True
  | .inr (_, S, o, g, N) => ∃ (sg : List zp_N) (st : zp_Y), N = N0 ++ sg ∧ zp_sy (n0 + N0.length) sg [] = some st ∧ zp_wf w0 S ∧ o = zp_oc S ∧ o ≤ 9 ∧ zp_pe w0 g st S ∧ 0 ≤ g
theorem zp_on_len : ∀ (S : List zp_F) (l : zp_Y), zp_on S l → l.length ≤ S.length
  | [], l, h => by
    have h' : l = [] := h
    rw [h']
    exact Nat.le_refl 0
  | (w, a, x, s) :: S, l, h => by
    unfold zp_on at h
    by_cases q : x < 0
    · rw [if_pos q] at h
      have := zp_on_len S l h
      rw [List.length_cons]
      omega
    · rw [if_neg q] at h
      obtain ⟨t, r, e, _, h2⟩ := h
      have := zp_on_len S r h2
      rw [e, List.length_cons, List.length_cons]
      omega
theorem zp_rk_b (w : Int) : 0 ≤ zp_rk w ∧ zp_rk w ≤ 5 := by
  unfold zp_rk
  repeat' split
  all_goals omega
/-- a value behind a kind that ended -/
theorem zp_ends {w0 w g : Int} {t : Bool} {r : zp_Y} : ∀ {S : List zp_F}, zp_lk w0 w S → (3 ≤ w → t = true) → zp_on S r → zp_pe w0 g ((g, t) :: r) S
  | [], hl, ht, hr => by
    have hl' : w = w0 := hl
    have hr' : r = [] := hr
    subst hl' hr'
    exact ⟨t, rfl, ht⟩
  | (w2, a2, x2, s2) :: S, hl, ht, hr => by
    obtain ⟨h1, h2⟩ := hl
    rw [zp_pe_c]
    rw [if_neg h1]
    exact ⟨t, r, rfl, by rw [← h2]; exact ht, hr⟩
/-- a kind that begins upon the others -/
theorem zp_begs {w0 c : Int} {S : List zp_F} (hc : c = 0 ∨ c = 1 ∨ c = 2 ∨ c = 3 ∨ c = 4 ∨ c = 5) (hl : zp_lk w0 c S) (hr : (S.length : Int) ≤ zp_rk c + 3 * zp_oc S) (hw : zp_wf w0 S) : zp_wf w0 ((c, 0, -1, 0) :: S) ∧ zp_oc ((c, 0, -1, 0) :: S) = zp_oc S := by
  refine ⟨⟨?_, hr, hl, hw⟩, ?_⟩
  · unfold zp_fv
    omega
  · show zp_fo c 0 + zp_oc S = zp_oc S
    unfold zp_fo
    rw [if_neg (by omega)]
    omega
section ZV
variable {n0 w0 w a x s o g : Int} {N0 N sg : List zp_N} {S : List zp_F} {st r : zp_Y} {k : Nat} {t t2 : Bool}
theorem zp_Vleaf {n : zp_N} (h : zp_sy (n0 + N0.length) sg [] = some st) (hn : (n.1 = 0 ∧ 0 ≤ n.2.1 ∧ n.2.1 ≤ 999999) ∨ (n.1 = 1 ∧ 0 ≤ n.2.1 ∧ n.2.1 ≤ 6)) (hl : st.length ≤ 40) : zp_sy (n0 + N0.length) (sg ++ [n]) [] = some ((n0 + (N0 ++ sg).length, false) :: st) := by
  refine zp_sy_1 h ?_
  have e : n0 + (N0.length : Int) + (sg.length : Int) = n0 + ((N0 ++ sg).length : Int) := by
    rw [List.length_append]
    omega
  rw [e]
  unfold zp_y1
  rw [if_pos hn, if_pos hl]
theorem zp_Vnot {n : zp_N} (h : zp_sy (n0 + N0.length) sg [] = some ((x, t) :: r)) (hn : n.1 = 11) (hx : n.2.1 = x) (ht : t = true) : zp_sy (n0 + N0.length) (sg ++ [n]) [] = some ((n0 + (N0 ++ sg).length, true) :: r) := by
  refine zp_sy_1 h ?_
  have e : n0 + (N0.length : Int) + (sg.length : Int) = n0 + ((N0 ++ sg).length : Int) := by
    rw [List.length_append]
    omega
  rw [e]
  unfold zp_y1
  rw [if_neg (by omega), if_pos hn]
  show (if n.2.1 = x ∧ t = true then some ((n0 + ((N0 ++ sg).length : Int), true) :: r) else none) = _
  rw [if_pos ⟨hx, ht⟩]
theorem zp_Vbin {n : zp_N} {y : Int} (h : zp_sy (n0 + N0.length) sg [] = some ((y, t2) :: (x, t) :: r)) (hn : 2 ≤ n.1 ∧ n.1 ≤ 13 ∧ n.1 ≠ 11) (hx : n.2.1 = x) (hy : n.2.2 = y) (ht : n.1 < 12 ∨ (t = true ∧ t2 = true)) : zp_sy (n0 + N0.length) (sg ++ [n]) [] = some ((n0 + (N0 ++ sg).length, decide (8 ≤ n.1)) :: r) := by
  refine zp_sy_1 h ?_
  have e : n0 + (N0.length : Int) + (sg.length : Int) = n0 + ((N0 ++ sg).length : Int) := by
    rw [List.length_append]
    omega
  rw [e]
  unfold zp_y1
  rw [if_neg (by omega), if_neg hn.2.2]
  show (if n.2.1 = x ∧ n.2.2 = y ∧ 2 ≤ n.1 ∧ n.1 ≤ 13 ∧ (n.1 < 12 ∨ (t = true ∧ t2 = true)) then some ((n0 + ((N0 ++ sg).length : Int), decide (8 ≤ n.1)) :: r) else none) = _
  rw [if_pos ⟨hx, hy, hn.1, hn.2.1, ht⟩]
/-- a row of like ones takes what came -/
theorem zp_Vcb (hn0 : 0 ≤ n0) (hw : zp_w4 w) (h : zp_sy (n0 + N0.length) sg [] = some ((g, t) :: r)) (ht : 3 ≤ w → t = true) (hg : 0 ≤ g) (hs : 0 ≤ x → w ≤ 1 → 2 ≤ s ∧ s ≤ 5) (hr : zp_on ((w, a, x, s) :: S) r) : ∃ sg1 t1 r1, (zp_cb n0 (zp_so w s) x g (N0 ++ sg)).2 = N0 ++ sg1 ∧ zp_sy (n0 + N0.length) sg1 [] = some (((zp_cb n0 (zp_so w s) x g (N0 ++ sg)).1, t1) :: r1) ∧ (3 ≤ w → t1 = true) ∧ zp_on S r1 ∧ 0 ≤ (zp_cb n0 (zp_so w s) x g (N0 ++ sg)).1 := by
  unfold zp_on at hr
  by_cases q : x < 0
  · rw [if_pos q] at hr
    rw [zp_cb, if_pos q]
    exact ⟨sg, t, r, rfl, h, ht, hr, hg⟩
  · rw [if_neg q] at hr
    obtain ⟨t1, r1, e, ht1, hr1⟩ := hr
    subst e
    have hs' := hs (by omega)
    rw [zp_cb, if_neg q]
    have hb : (2 ≤ zp_so w s ∧ zp_so w s ≤ 13 ∧ zp_so w s ≠ 11) ∧ (zp_so w s < 12 ∨ (t1 = true ∧ t = true)) ∧ (3 ≤ w → 8 ≤ zp_so w s) := by
      rcases hw with rfl | rfl | rfl | rfl
      · have := hs' (by omega)
        have e : zp_so 0 s = s := rfl
        rw [e]
        exact ⟨by omega, Or.inl (by omega), by omega⟩
      · have := hs' (by omega)
        have e : zp_so 1 s = s := rfl
        rw [e]
        exact ⟨by omega, Or.inl (by omega), by omega⟩
      · have e : zp_so 3 s = 13 := rfl
        rw [e]
        exact ⟨by omega, Or.inr ⟨ht1 (Or.inl rfl), ht (by omega)⟩, by omega⟩
      · have e : zp_so 4 s = 12 := rfl
        rw [e]
        exact ⟨by omega, Or.inr ⟨ht1 (Or.inr rfl), ht (by omega)⟩, by omega⟩
    refine ⟨sg ++ [(zp_so w s, x, g)], decide (8 ≤ zp_so w s), r1, by rw [List.append_assoc], zp_Vbin h hb.1 rfl rfl hb.2.1, fun z => ?_, hr1, ?_⟩
    · exact decide_eq_true (hb.2.2 z)
    · show 0 ≤ n0 + _
      omega
theorem zp_fr_len (h : zp_wf w0 ((w, a, x, s) :: S)) (h9 : zp_oc ((w, a, x, s) :: S) ≤ 9) : (S.length : Int) ≤ 32 := by
  have b := zp_rk_b w
  have h1 := h.2.1
  have h2 : zp_fo w a + zp_oc S ≤ 9 := h9
  have h3 : 0 ≤ zp_fo w a := by
    unfold zp_fo
    split <;> omega
  omega
theorem zp_go_b {t : Int} (hw : zp_w4 w) (h : 0 < zp_go w t) (h1 : w ≤ 1) : 2 ≤ zp_go w t ∧ zp_go w t ≤ 5 := by
  rcases hw with rfl | rfl | rfl | rfl
  · simp only [zp_go, zp_op] at h ⊢
    repeat' split at h
    all_goals first | omega | (repeat' split; all_goals omega)
  · simp only [zp_go, zp_op] at h ⊢
    repeat' split at h
    all_goals first | omega | (repeat' split; all_goals omega)
  · omega
  · omega
end ZV
section ZX
variable {tk va : Nat → Int} {n0 w0 w a x s o g : Int} {N0 N sg : List zp_N} {S : List zp_F} {st r : zp_Y} {k k1 : Nat}
/-- the kinds below stay as they are, one's own place moved on -/
theorem zp_Vput (hn0 : 0 ≤ n0) {sg1 : List zp_N} {st1 : zp_Y} {c a1 x1 s1 o1 g1 : Int} (hs : zp_sy (n0 + N0.length) sg1 [] = some st1) (hw : zp_wf w0 ((w, a, x, s) :: S)) (hc : c = 0 ∨ c = 1 ∨ c = 2 ∨ c = 3 ∨ c = 4 ∨ c = 5) (hv : zp_fv w a1 x1 s1) (ha : a1 ≠ 0) (hch : c = zp_ch w a1) (hr : zp_rk w + 1 ≤ zp_rk c + 3 * zp_fo w a1) (ho : o1 = zp_fo w a1 + zp_oc S) (h9 : o1 ≤ 9) (hp : zp_on ((w, a1, x1, s1) :: S) st1) (hg : 0 ≤ g1) : zp_V n0 N0 w0 (.inr (k, (c, 0, -1, 0) :: (w, a1, x1, s1) :: S, o1, g1, N0 ++ sg1)) := by
  have hw1 : zp_wf w0 ((w, a1, x1, s1) :: S) := ⟨hv, hw.2.1, hw.2.2.1, hw.2.2.2⟩
  have hrk : ((((w, a1, x1, s1) :: S : List zp_F).length : Nat) : Int) ≤ zp_rk c + 3 * zp_oc ((w, a1, x1, s1) :: S) := by
    have h1 := hw.2.1
    rw [List.length_cons]
    show ((S.length + 1 : Nat) : Int) ≤ zp_rk c + 3 * (zp_fo w a1 + zp_oc S)
    omega
  have hb := zp_begs (c := c) hc (show zp_lk w0 c ((w, a1, x1, s1) :: S) from ⟨ha, hch⟩) hrk hw1
  refine ⟨sg1, st1, rfl, hs, hb.1, ?_, h9, ?_, hg⟩
  · rw [hb.2]
    exact ho
  · rw [zp_pe_c]
    rw [if_pos rfl]
    exact hp
theorem zp_Vend (hw : zp_wf w0 ((w, a, x, s) :: S)) {sg1 : List zp_N} {o1 g1 : Int} {t : Bool} (hs : zp_sy (n0 + N0.length) sg1 [] = some ((g1, t) :: r)) (ht : 3 ≤ w → t = true) (hr : zp_on S r) (ho : o1 = zp_oc S) (h9 : o1 ≤ 9) (hg : 0 ≤ g1) : zp_V n0 N0 w0 (.inr (k, S, o1, g1, N0 ++ sg1)) := ⟨sg1, _, rfl, hs, hw.2.2.2, ho, h9, zp_ends hw.2.2.1 ht hr, hg⟩
theorem zp_on_m (h : zp_on ((w, a, x, s) :: S) r) (hx : x < 0) : zp_on S r := by
  unfold zp_on at h
  rw [if_pos hx] at h
  exact h
theorem zp_on_p (h : zp_on ((w, a, x, s) :: S) r) (hx : 0 ≤ x) : ∃ t r1, r = (x, t) :: r1 ∧ (w = 3 ∨ w = 4 → t = true) ∧ zp_on S r1 := by
  unfold zp_on at h
  rw [if_neg (by omega)] at h
  exact h
theorem zp_on_M (h : zp_on S r) (hx : x < 0) : zp_on ((w, a, x, s) :: S) r := by
  unfold zp_on
  rw [if_pos hx]
  exact h
theorem zp_on_P {t : Bool} (h : zp_on S r) (hx : 0 ≤ x) (ht : w = 3 ∨ w = 4 → t = true) : zp_on ((w, a, x, s) :: S) ((x, t) :: r) := by
  unfold zp_on
  rw [if_neg (by omega)]
  exact ⟨t, r, rfl, ht, h⟩
theorem zp_ap_len {n0 : Int} {A B : List zp_N} (h : 0 ≤ n0) : 0 ≤ n0 + ((A ++ B).length : Int) := by omega
theorem zp_V4 (hn0 : 0 ≤ n0) (hq : zp_w4 w) (ha : a = 0 ∨ a = 1) (hw : zp_wf w0 ((w, a, x, s) :: S)) (hx0 : a = 0 → x < 0) (hs0 : 0 ≤ x → w ≤ 1 → 2 ≤ s ∧ s ≤ 5) (hs : zp_sy (n0 + N0.length) sg [] = some st) (ho : o = zp_oc ((w, a, x, s) :: S)) (h9 : o ≤ 9) (hp : zp_pe w0 g st ((w, a, x, s) :: S)) (hg : 0 ≤ g) : zp_V n0 N0 w0 (zp_st tk va n0 (.inr (k, (w, a, x, s) :: S, o, g, N0 ++ sg))) := by
  have hfo : ∀ z, zp_fo w z = 0 := fun z => by
    unfold zp_fo
    rcases hq with rfl | rfl | rfl | rfl <;> rw [if_neg (by omega)]
  have hch : w + 1 = zp_ch w 1 := by rcases hq with rfl | rfl | rfl | rfl <;> decide
  have hrk : zp_rk w + 1 ≤ zp_rk (w + 1) + 3 * zp_fo w 1 := by rcases hq with rfl | rfl | rfl | rfl <;> decide
  have hc6 : w + 1 = 0 ∨ w + 1 = 1 ∨ w + 1 = 2 ∨ w + 1 = 3 ∨ w + 1 = 4 ∨ w + 1 = 5 := by rcases hq with rfl | rfl | rfl | rfl <;> decide
  have ho' : o = zp_oc S := by
    have e : zp_oc ((w, a, x, s) :: S) = zp_fo w a + zp_oc S := rfl
    rw [ho, e, hfo]
    omega
  rcases ha with rfl | rfl
  · rw [zp_pe_c] at hp
    rw [if_pos rfl] at hp
    rw [zp_l1s hq]
    exact zp_Vput hn0 hs hw hc6 (Or.inl ⟨hq, Or.inr rfl, fun z => absurd z (by decide), hs0⟩) (by decide) hch hrk (by rw [hfo, ho']; omega) h9 (zp_on_M hp (hx0 rfl)) hg
  · rw [zp_pe_c] at hp
    rw [if_neg (by decide)] at hp
    obtain ⟨t, r, rfl, ht, hr⟩ := hp
    obtain ⟨sg1, t1, r1, e1, hs1, ht1, hr1, hg1⟩ := zp_Vcb hn0 hq hs (fun z => ht (by omega)) hg hs0 hr
    by_cases q : 0 < zp_go w (tk k)
    · obtain ⟨s1, es, e2⟩ := zp_l2s (va := va) (n0 := n0) (x := x) (s := s) (o := o) (g := g) (S := S) (N := N0 ++ sg) hq q
      rw [e2, e1]
      refine zp_Vput hn0 hs1 hw hc6 (Or.inl ⟨hq, Or.inr rfl, fun z => absurd z (by decide), fun _ z => ?_⟩) (by decide) hch hrk (by rw [hfo, ho']; omega) h9 (zp_on_P hr1 hg1 (fun z => ht1 (by omega))) hg
      have := zp_go_b hq q z
      have e : zp_so w s1 = s1 := if_pos z
      omega
    · rw [zp_l3s hq q, e1]
      exact zp_Vend hw hs1 ht1 hr1 ho' h9 hg1
theorem zp_V2 (hva : ∀ k, tk k = 400 → 0 ≤ va k ∧ va k ≤ 999999) (hn0 : 0 ≤ n0) (ha : 0 ≤ a ∧ a ≤ 3) (hw : zp_wf w0 ((2, a, x, s) :: S)) (hx0 : a ≠ 3 → x < 0) (hx3 : a = 3 → 0 ≤ x) (hs0 : 2 ≤ a → s = 6 ∨ s = 7) (hs : zp_sy (n0 + N0.length) sg [] = some st) (ho : o = zp_oc ((2, a, x, s) :: S)) (h9 : o ≤ 9) (hp : zp_pe w0 g st ((2, a, x, s) :: S)) (hg : 0 ≤ g) : zp_V n0 N0 w0 (zp_st tk va n0 (.inr (k, (2, a, x, s) :: S, o, g, N0 ++ sg))) := by
  have hrk : zp_rk 2 + 1 ≤ zp_rk 0 + 3 * 1 := by decide
  have hfo : ∀ z, z ≠ 0 → zp_fo 2 z = 1 := fun z hz => by
    unfold zp_fo
    rw [if_pos (Or.inl ⟨rfl, hz⟩)]
  have hfl := zp_fr_len hw (by rw [← ho]; exact h9)
  have ho1 : o = zp_fo 2 a + zp_oc S := ho
  by_cases a0 : a = 0
  · subst a0
    rw [zp_pe_c] at hp
    rw [if_pos rfl] at hp
    have hx := hx0 (by decide)
    have hln := zp_on_len S st hp
    have ho' : o = zp_oc S := by
      have e : zp_fo 2 0 = 0 := by decide
      omega
    by_cases q1 : tk k = 400
    · have e : zp_st tk va n0 (.inr (k, (2, 0, x, s) :: S, o, g, N0 ++ sg)) = .inr (k + 1, S, o, n0 + ((N0 ++ sg).length : Int), N0 ++ (sg ++ [(0, va k, 0)])) := by simp [zp_st, q1]
      rw [e]
      exact zp_Vend hw (zp_Vleaf hs (Or.inl ⟨rfl, hva k q1⟩) (by omega)) (fun z => absurd z (by decide)) hp ho' h9 (zp_ap_len hn0)
    · by_cases q2 : tk k = 40
      · by_cases q3 : o = 9
        · have e : zp_st tk va n0 (.inr (k, (2, 0, x, s) :: S, o, g, N0 ++ sg)) = .inl k := by simp [zp_st, q2, q3]
          rw [e]
          trivial
        · rw [zp_par q2 q3]
          exact zp_Vput hn0 hs hw (by decide) (Or.inr (Or.inl ⟨rfl, by decide, by decide, fun _ => hx, fun z => absurd z (by decide), fun z => absurd z (by decide)⟩)) (by decide) (by decide) (by rw [hfo 1 (by decide)]; exact hrk) (by rw [hfo 1 (by decide), ho']; omega) (by omega) (zp_on_M hp hx) hg
      · by_cases q4 : tk k = 312 ∨ tk k = 313
        · by_cases q3 : o = 9
          · have e : zp_st tk va n0 (.inr (k, (2, 0, x, s) :: S, o, g, N0 ++ sg)) = .inl k := by rcases q4 with q4 | q4 <;> simp [zp_st, q4, q3]
            rw [e]
            trivial
          · rw [zp_lm q4 q3]
            by_cases q5 : tk (k + 1) = 40
            · rw [if_pos q5]
              exact zp_Vput hn0 hs hw (by decide) (Or.inr (Or.inl ⟨rfl, by decide, by decide, fun _ => hx, fun z => absurd z (by decide), fun _ => by omega⟩)) (by decide) (by decide) (by rw [hfo 2 (by decide)]; exact hrk) (by rw [hfo 2 (by decide), ho']; omega) (by omega) (zp_on_M hp hx) hg
            · rw [if_neg q5]
              trivial
        · by_cases q6 : 314 ≤ tk k ∧ tk k ≤ 320
          · have e : zp_st tk va n0 (.inr (k, (2, 0, x, s) :: S, o, g, N0 ++ sg)) = .inr (k + 1, S, o, n0 + ((N0 ++ sg).length : Int), N0 ++ (sg ++ [(1, tk k - 314, 0)])) := by simp [zp_st, q1, q2, q4, q6]
            rw [e]
            exact zp_Vend hw (zp_Vleaf hs (Or.inr ⟨rfl, by show 0 ≤ tk k - 314 ∧ tk k - 314 ≤ 6; omega⟩) (by omega)) (fun z => absurd z (by decide)) hp ho' h9 (zp_ap_len hn0)
          · have e : zp_st tk va n0 (.inr (k, (2, 0, x, s) :: S, o, g, N0 ++ sg)) = .inl k := by simp [zp_st, q1, q2, q4, q6]
            rw [e]
            trivial
  · rw [zp_pe_c] at hp
    rw [if_neg a0] at hp
    obtain ⟨t, r, rfl, ht, hr⟩ := hp
    have ho' : o = 1 + zp_oc S := by rw [ho1, hfo a a0]
    by_cases a2 : a = 2
    · subst a2
      have hx := hx0 (by decide)
      by_cases q : tk k = 44
      · have e : zp_st tk va n0 (.inr (k, (2, 2, x, s) :: S, o, g, N0 ++ sg)) = .inr (k + 1, (0, 0, -1, 0) :: (2, 3, g, s) :: S, o, g, N0 ++ sg) := by simp [zp_st, q]
        rw [e]
        exact zp_Vput hn0 hs hw (by decide) (Or.inr (Or.inl ⟨rfl, by decide, by decide, fun z => absurd rfl z, fun _ => hg, fun _ => hs0 (by decide)⟩)) (by decide) (by decide) (by rw [hfo 3 (by decide)]; exact hrk) (by rw [hfo 3 (by decide), ho']) h9 (zp_on_P (zp_on_m hr hx) hg (fun z => absurd z (by decide))) hg
      · have e : zp_st tk va n0 (.inr (k, (2, 2, x, s) :: S, o, g, N0 ++ sg)) = .inl k := by simp [zp_st, q]
        rw [e]
        trivial
    · by_cases q : tk k = 41
      · by_cases a1 : a = 1
        · subst a1
          have hx := hx0 (by decide)
          have e : zp_st tk va n0 (.inr (k, (2, 1, x, s) :: S, o, g, N0 ++ sg)) = .inr (k + 1, S, o - 1, g, N0 ++ sg) := by simp [zp_st, q]
          rw [e]
          exact zp_Vend hw hs (fun z => absurd z (by decide)) (zp_on_m hr hx) (by omega) (by omega) hg
        · have a3 : a = 3 := by omega
          subst a3
          have hx := hx3 rfl
          obtain ⟨t1, r1, rfl, -, hr1⟩ := zp_on_p hr hx
          have hsv := hs0 (by decide)
          have e : zp_st tk va n0 (.inr (k, (2, 3, x, s) :: S, o, g, N0 ++ sg)) = .inr (k + 1, S, o - 1, n0 + ((N0 ++ sg).length : Int), N0 ++ (sg ++ [(s, x, g)])) := by simp [zp_st, q]
          rw [e]
          exact zp_Vend hw (zp_Vbin (n := (s, x, g)) hs (by show 2 ≤ s ∧ s ≤ 13 ∧ s ≠ 11; omega) rfl rfl (Or.inl (by show s < 12; omega))) (fun z => absurd z (by decide)) hr1 (by omega) (by omega) (zp_ap_len hn0)
      · have e : zp_st tk va n0 (.inr (k, (2, a, x, s) :: S, o, g, N0 ++ sg)) = .inl k := by simp [zp_st, a0, a2, q]
        rw [e]
        trivial
theorem zp_V5 (hn0 : 0 ≤ n0) (ha : 0 ≤ a ∧ a ≤ 4) (hw : zp_wf w0 ((5, a, x, s) :: S)) (hx0 : a ≠ 4 → x < 0) (hx4 : a = 4 → 0 ≤ x ∧ 8 ≤ s ∧ s ≤ 10) (hs : zp_sy (n0 + N0.length) sg [] = some st) (ho : o = zp_oc ((5, a, x, s) :: S)) (h9 : o ≤ 9) (hp : zp_pe w0 g st ((5, a, x, s) :: S)) (hg : 0 ≤ g) : zp_V n0 N0 w0 (zp_st tk va n0 (.inr (k, (5, a, x, s) :: S, o, g, N0 ++ sg))) := by
  have ho1 : o = zp_fo 5 a + zp_oc S := ho
  have f0 : zp_fo 5 0 = 0 := by decide
  have f1 : zp_fo 5 1 = 1 := by decide
  have f2 : zp_fo 5 2 = 1 := by decide
  have f3 : zp_fo 5 3 = 0 := by decide
  have f4 : zp_fo 5 4 = 0 := by decide
  by_cases a0 : a = 0
  · subst a0
    rw [zp_pe_c] at hp
    rw [if_pos rfl] at hp
    have hx := hx0 (by decide)
    by_cases q1 : tk k = 311
    · by_cases q3 : o = 9
      · have e : zp_st tk va n0 (.inr (k, (5, 0, x, s) :: S, o, g, N0 ++ sg)) = .inl k := by simp [zp_st, q1, q3]
        rw [e]
        trivial
      · rw [zp_nt q1 q3]
        exact zp_Vput hn0 hs hw (by decide) (Or.inr (Or.inr ⟨rfl, by decide, by decide, fun _ => hx, fun z => absurd z (by decide)⟩)) (by decide) (by decide) (by decide) (by omega) (by omega) (zp_on_M hp hx) hg
    · by_cases q2 : tk k = 123
      · by_cases q3 : o = 9
        · have e : zp_st tk va n0 (.inr (k, (5, 0, x, s) :: S, o, g, N0 ++ sg)) = .inl k := by simp [zp_st, q2, q3]
          rw [e]
          trivial
        · rw [zp_br q2 q3]
          exact zp_Vput hn0 hs hw (by decide) (Or.inr (Or.inr ⟨rfl, by decide, by decide, fun _ => hx, fun z => absurd z (by decide)⟩)) (by decide) (by decide) (by decide) (by omega) (by omega) (zp_on_M hp hx) hg
      · rw [zp_cp q1 q2]
        exact zp_Vput hn0 hs hw (by decide) (Or.inr (Or.inr ⟨rfl, by decide, by decide, fun _ => hx, fun z => absurd z (by decide)⟩)) (by decide) (by decide) (by decide) (by omega) (by omega) (zp_on_M hp hx) hg
  · rw [zp_pe_c] at hp
    rw [if_neg a0] at hp
    obtain ⟨t, r, rfl, ht, hr⟩ := hp
    by_cases a1 : a = 1
    · subst a1
      have hx := hx0 (by decide)
      have e : zp_st tk va n0 (.inr (k, (5, 1, x, s) :: S, o, g, N0 ++ sg)) = .inr (k, S, o - 1, n0 + ((N0 ++ sg).length : Int), N0 ++ (sg ++ [(11, g, 0)])) := by simp [zp_st]
      rw [e]
      exact zp_Vend hw (zp_Vnot (n := (11, g, 0)) hs rfl rfl (ht (by decide))) (fun _ => rfl) (zp_on_m hr hx) (by omega) (by omega) (zp_ap_len hn0)
    · by_cases a2 : a = 2
      · subst a2
        have hx := hx0 (by decide)
        by_cases q : tk k = 125
        · have e : zp_st tk va n0 (.inr (k, (5, 2, x, s) :: S, o, g, N0 ++ sg)) = .inr (k + 1, S, o - 1, g, N0 ++ sg) := by simp [zp_st, q]
          rw [e]
          exact zp_Vend hw hs (fun _ => ht (by decide)) (zp_on_m hr hx) (by omega) (by omega) hg
        · have e : zp_st tk va n0 (.inr (k, (5, 2, x, s) :: S, o, g, N0 ++ sg)) = .inl k := by simp [zp_st, q]
          rw [e]
          trivial
      · by_cases a3 : a = 3
        · subst a3
          have hx := hx0 (by decide)
          by_cases q : 0 < zp_cm (tk k)
          · have e : zp_st tk va n0 (.inr (k, (5, 3, x, s) :: S, o, g, N0 ++ sg)) = .inr (k + 1, (0, 0, -1, 0) :: (5, 4, g, zp_cm (tk k)) :: S, o, g, N0 ++ sg) := by simp [zp_st, q]
            rw [e]
            have hcm : 8 ≤ zp_cm (tk k) ∧ zp_cm (tk k) ≤ 10 := by
              simp only [zp_cm] at q ⊢
              repeat' split at q
              all_goals first | omega | (repeat' split; all_goals omega)
            exact zp_Vput hn0 hs hw (by decide) (Or.inr (Or.inr ⟨rfl, by decide, by decide, fun z => absurd rfl z, fun _ => ⟨hg, hcm⟩⟩)) (by decide) (by decide) (by decide) (by omega) h9 (zp_on_P (zp_on_m hr hx) hg (fun z => absurd z (by decide))) hg
          · have e : zp_st tk va n0 (.inr (k, (5, 3, x, s) :: S, o, g, N0 ++ sg)) = .inl k := by simp [zp_st, q]
            rw [e]
            trivial
        · have a4 : a = 4 := by omega
          subst a4
          obtain ⟨hx, hsv⟩ := hx4 rfl
          obtain ⟨t1, r1, rfl, -, hr1⟩ := zp_on_p hr hx
          have e : zp_st tk va n0 (.inr (k, (5, 4, x, s) :: S, o, g, N0 ++ sg)) = .inr (k, S, o, n0 + ((N0 ++ sg).length : Int), N0 ++ (sg ++ [(s, x, g)])) := by simp [zp_st]
          rw [e]
          exact zp_Vend hw (zp_Vbin (n := (s, x, g)) hs (by show 2 ≤ s ∧ s ≤ 13 ∧ s ≠ 11; omega) rfl rfl (Or.inl (by show s < 12; omega))) (fun _ => decide_eq_true hsv.1) hr1 (by omega) h9 (zp_ap_len hn0)
theorem zp_V_st (hva : ∀ k, tk k = 400 → 0 ≤ va k ∧ va k ≤ 999999) (hn0 : 0 ≤ n0) : ∀ {a : zp_S}, zp_V n0 N0 w0 a → zp_V n0 N0 w0 (zp_st tk va n0 a)
  | .inl f, _ => trivial
  | .inr (k, [], o, g, N), h => h
  | .inr (k, (w, a, x, s) :: S, o, g, N), h => by
    obtain ⟨sg, st, rfl, hs, hw, ho, h9, hp, hg⟩ := h
    rcases hw.1 with ⟨h1, h2, h3, h4⟩ | ⟨rfl, h1, h2, h3, h4, h5⟩ | ⟨rfl, h1, h2, h3, h4⟩
    · exact zp_V4 hn0 h1 h2 hw h3 h4 hs ho h9 hp hg
    · exact zp_V2 hva hn0 ⟨h1, h2⟩ hw h3 h4 h5 hs ho h9 hp hg
    · exact zp_V5 hn0 ⟨h1, h2⟩ hw h3 h4 hs ho h9 hp hg
theorem zp_V_it (hva : ∀ k, tk k = 400 → 0 ≤ va k ∧ va k ≤ 999999) (hn0 : 0 ≤ n0) : ∀ (n : Nat) {a : zp_S}, zp_V n0 N0 w0 a → zp_V n0 N0 w0 (zp_it tk va n0 n a)
  | 0, _, h => h
  | n + 1, _, h => zp_V_it hva hn0 n (zp_V_st hva hn0 h)
theorem zp_V_R (hva : ∀ k, tk k = 400 → 0 ≤ va k ∧ va k ≤ 999999) (hn0 : 0 ≤ n0) {a b : zp_S} (h : zp_V n0 N0 w0 a) (hr : zp_R tk va n0 a b) : zp_V n0 N0 w0 b := by
  obtain ⟨n, rfl⟩ := hr
  exact zp_V_it hva hn0 n h
theorem zp_V_0 (h : w0 = 0 ∨ w0 = 3) (hg : 0 ≤ g) : zp_V n0 N0 w0 (.inr (k, [(w0, 0, -1, 0)], 0, g, N0)) := by
  refine ⟨[], [], by rw [List.append_nil], rfl, ⟨?_, ?_, rfl, trivial⟩, ?_, by decide, ?_, hg⟩
  · unfold zp_fv
    omega
  · have := zp_rk_b w0
    show (0 : Int) ≤ zp_rk w0 + 3 * 0
    omega
  · show (0 : Int) = zp_fo w0 0 + 0
    unfold zp_fo
    rw [if_neg (by omega)]
    rfl
  · rw [zp_pe_c]
    rw [if_pos rfl]
    rfl
/-- what a reading made: one value, its nodes in order -/
theorem zp_V_fin (hva : ∀ k, tk k = 400 → 0 ≤ va k ∧ va k ≤ 999999) (hn0 : 0 ≤ n0) (h : w0 = 0 ∨ w0 = 3) (hg : 0 ≤ g) {o1 g1 : Int} {N1 : List zp_N} (hr : zp_R tk va n0 (.inr (k, [(w0, 0, -1, 0)], 0, g, N0)) (.inr (k1, [], o1, g1, N1))) : ∃ sg t, N1 = N0 ++ sg ∧ zp_sy (n0 + N0.length) sg [] = some [(g1, t)] ∧ (w0 = 3 → t = true) ∧ 0 ≤ g1 ∧ o1 = 0 := by
  obtain ⟨sg, st, e, hs, _, ho, _, ⟨t, rfl, ht⟩, hg1⟩ := zp_V_R hva hn0 (zp_V_0 h hg) hr
  exact ⟨sg, t, e, hs, fun z => ht (by omega), hg1, ho⟩
end ZX
