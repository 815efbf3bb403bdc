

/-! a whole reading of the reference -/
theorem zm_S_ex {I : z_I} : ∀ n : Nat, ∃ S : List zp_F, S.length = n ∧ zm_S I S
  | 0 => ⟨[], rfl, trivial⟩
  | n + 1 => by
    obtain ⟨S, h1, h2⟩ := zm_S_ex (I := I) n
    exact ⟨((I 26 n).toInt, (I 27 n).toInt, (I 28 n).toInt, (I 29 n).toInt) :: S, by rw [List.length_cons, h1], by rw [h1], by rw [h1], by rw [h1], by rw [h1], h2⟩
section ZMP
variable {{gt gv : Nat → Int}} {{gp ge : Nat → Nat}} {{gh : Nat → Int}} {{gm n0 : Nat}} {{gI : z_I}} {I I1 I2 K : z_I} {J J1 : z_J} {k f tq : Nat} {S FS : List zp_F} {w a x s o g fo fg : Int} {N NN : List zp_N}
/-- nothing is open -/
theorem zm_E_0 {v1 v2 : Int32} (h : zm_E gt gv gp ge gh gm n0 gI I J (.inr (k, S, o, g, N))) (e1 : I1 = z_up I 0 47 v1) (h1 : v1.toInt = 0) (e2 : I2 = z_up I1 0 39 v2) (h2 : v2.toInt = 0) : zm_E gt gv gp ge gh gm n0 gI I2 J (.inr (k, [], 0, g, N)) := by
  obtain ⟨b1, b2, b3, b4, b5, b6, b7, b8, b9, b10⟩ := h
  have h0 : ∀ q, q ≠ 39 → q ≠ 47 → I2 0 q = I 0 q := fun q hq hd => by rw [e2, z_up_k hq, e1, z_up_k hd]
  have h4 : ∀ c i, c ≠ 0 → I2 c i = I c i := fun c i hc => by rw [e2, z_up_n hc, e1, z_up_n hc]
  exact ⟨by rw [h0 _ (by decide) (by decide)]; exact b1, b2, zm_T_c b3 (fun q hq => h0 q (by omega) (by omega)) (fun j => h4 _ _ (by decide)) rfl, by rw [e2, z_up_k (by decide), e1, z_up_s, h1]; rfl, trivial, by rw [e2, z_up_s]; exact h2, by rw [h0 _ (by decide) (by decide)]; exact b7, by rw [h0 _ (by decide) (by decide)]; exact b8, zm_Q_c N n0 (fun j _ _ => ⟨h4 _ _ (by decide), h4 _ _ (by decide), h4 _ _ (by decide)⟩) b9, zm_O_c b10 (fun j _ => ⟨h4 _ _ (by decide), h4 _ _ (by decide), h4 _ _ (by decide)⟩)⟩
theorem zm_E_cases {b : zp_S} (h : zm_E gt gv gp ge gh gm n0 gI I J b) (h1 : (I 0 42).toInt = 0) (h2 : 0 < (I 0 47).toInt) : ∃ (k : Nat) (w a x s : Int) (S : List zp_F) (o g : Int) (N : List zp_N), b = .inr (k, (w, a, x, s) :: S, o, g, N) := by
  rcases b with f | ⟨k, S, o, g, N⟩
  · have := h.1
    omega
  · cases S with
    | nil =>
      have := h.2.2.2.1
      rw [List.length_nil] at this
      omega
    | cons F S =>
      obtain ⟨w, a, x, s⟩ := F
      exact ⟨k, w, a, x, s, S, o, g, N, rfl⟩
theorem zm_E_hl {b : zp_S} (h : zm_E gt gv gp ge gh gm n0 gI I J b) (h2 : (I 0 47).toInt ≤ 0 ∨ ¬ (I 0 42).toInt = 0) : zp_hl b := by
  rcases b with f | ⟨k, S, o, g, N⟩
  · trivial
  · have h3 := h.1
    have h4 := h.2.2.2.1
    cases S with
    | nil => rfl
    | cons F S =>
      rw [List.length_cons] at h4
      omega
/-- another place than the reader's own is written -/
theorem zm_E_o {b : zp_S} {c n : Nat} {v : Int32} (h : zm_E gt gv gp ge gh gm n0 gI I J b) (e : K = z_up I c n v) (hc : c = 15 ∨ c = 16 ∨ c = 17 ∨ c = 18 ∨ c = 19 ∨ c = 20) : zm_E gt gv gp ge gh gm n0 gI K J b := by
  have h4 : ∀ d i, d ≠ c → K d i = I d i := fun d i hd => by rw [e, z_up_n hd]
  rcases b with f | ⟨k, S, o, g, N⟩
  · obtain ⟨a1, a2, a3, a4⟩ := h
    exact ⟨by rw [h4 _ _ (by omega)]; exact a1, by rw [h4 _ _ (by omega)]; exact a2, a3, zm_O_c a4 (fun j _ => ⟨h4 _ _ (by omega), h4 _ _ (by omega), h4 _ _ (by omega)⟩)⟩
  · obtain ⟨b1, b2, b3, b4, b5, b6, b7, b8, b9, b10⟩ := h
    exact ⟨by rw [h4 _ _ (by omega)]; exact b1, b2, zm_T_c b3 (fun q hq => h4 _ _ (by omega)) (fun j => h4 _ _ (by omega)) rfl, by rw [h4 _ _ (by omega)]; exact b4, zm_S_c S (fun i hi => ⟨h4 _ _ (by omega), h4 _ _ (by omega), h4 _ _ (by omega), h4 _ _ (by omega)⟩) b5, by rw [h4 _ _ (by omega)]; exact b6, by rw [h4 _ _ (by omega)]; exact b7, by rw [h4 _ _ (by omega)]; exact b8, zm_Q_c N n0 (fun j _ _ => ⟨h4 _ _ (by omega), h4 _ _ (by omega), h4 _ _ (by omega)⟩) b9, zm_O_c b10 (fun j _ => ⟨h4 _ _ (by omega), h4 _ _ (by omega), h4 _ _ (by omega)⟩)⟩
/-- a row of the reference's statements: nodes from F0 on -/
noncomputable def zm_rw (K : z_I) (F0 i : Nat) (s : zp_T) (sg1 sg2 : List zp_N) : Prop := (K 15 i).toInt = s.1 - 300 ∧ (303 ≤ s.1 → (K 16 i).toInt = s.2.1) ∧ (K 19 i).toInt = (F0 : Int) ∧ (K 20 i).toInt = (F0 : Int) + (sg1.length : Int) + (sg2.length : Int) ∧ sg1.map zp_en = s.2.2.1 ∧ sg2.map zp_en = s.2.2.2 ∧ (s.1 ≤ 301 → ∃ t, zp_sy F0 sg1 [] = some [((K 17 i).toInt, t)]) ∧ (s.2.2.2 = [] → (K 18 i).toInt = -1) ∧ (s.2.2.2 ≠ [] → zp_sy ((F0 : Int) + (sg1.length : Int)) sg2 [] = some [((K 18 i).toInt, true)])
noncomputable def zm_SR (gt gv : Nat → Int) (gp ge : Nat → Nat) (gh : Nat → Int) (gm n0 : Nat) (gI : z_I) (tq : Nat) (NN : List zp_N) (i : Nat) (K : z_I) (J : z_J) : Prop := (∀ k1 s, zp_sm gt gv tq k1 s → gt k1 = 59 → ∃ (FS : List zp_F) (fo fg : Int) (sg1 sg2 : List zp_N), zm_E gt gv gp ge gh gm n0 gI K J (.inr (k1 + 1, FS, fo, fg, NN ++ (sg1 ++ sg2))) ∧ zm_rw K (n0 + NN.length) i s sg1 sg2) ∧ (∀ f, (zp_sn gt gv tq f ∨ ∃ k1 s, zp_sm gt gv tq k1 s ∧ gt k1 ≠ 59 ∧ f = k1) → zm_E gt gv gp ge gh gm n0 gI K J (.inl f))
theorem zm_SR_w (hE : zm_E gt gv gp ge gh gm n0 gI K J (.inl f)) (h1 : ∀ k1 s, zp_sm gt gv tq k1 s → gt k1 ≠ 59 ∧ f = k1) (h2 : ∀ f1, zp_sn gt gv tq f1 → f1 = f) {i : Nat} : zm_SR gt gv gp ge gh gm n0 gI tq NN i K J := by
  refine ⟨fun k1 s hs h59 => absurd h59 (h1 k1 s hs).1, fun f1 hf => ?_⟩
  have e : f1 = f := by
    rcases hf with q | ⟨k1, s, q1, q2, q3⟩
    · exact h2 f1 q
    · rw [q3, (h1 k1 s q1).2]
  rw [e]
  exact hE
/-- which way a statement goes, by its word -/
theorem zp_sm_u {k1 : Nat} {s : zp_T} (hs : zp_sm gt gv tq k1 s) (h : gt tq = 300 ∨ gt tq = 301) : s.1 = gt tq ∧ ∃ k2, zp_ok gt gv 0 0 (tq + 1) k2 s.2.2.1 ∧ ((gt k2 = 308 ∧ zp_ok gt gv 3 0 (k2 + 1) k1 s.2.2.2 ∧ s.2.2.2 ≠ []) ∨ (gt k2 ≠ 308 ∧ k1 = k2 ∧ s.2.2.2 = [])) := by
  obtain ⟨e, h1 | h1 | h1⟩ := hs
  · exact ⟨e, h1.2⟩
  · have := h1.1
    omega
  · have := h1.1
    omega
theorem zp_sm_s {k1 : Nat} {s : zp_T} (hs : zp_sm gt gv tq k1 s) (h : gt tq = 302) : s.1 = 302 ∧ s.2.2.1 = [] ∧ zp_ok gt gv 3 0 (tq + 1) k1 s.2.2.2 ∧ s.2.2.2 ≠ [] := by
  obtain ⟨e, h1 | h1 | h1⟩ := hs
  · have := h1.1
    omega
  · exact h1
  · have := h1.1
    omega
theorem zp_sm_n {k1 : Nat} {s : zp_T} (hs : zp_sm gt gv tq k1 s) (h : 303 ≤ gt tq) : s.1 = gt tq ∧ gt tq ≤ 307 ∧ s.2.2.1 = [] ∧ s.2.2.2 = [] ∧ gt (tq + 1) = 400 ∧ (gt tq = 303 → 1 ≤ gv (tq + 1)) ∧ s.2.1 = gv (tq + 1) ∧ k1 = tq + 2 := by
  obtain ⟨e, h1 | h1 | h1⟩ := hs
  · have := h1.1
    omega
  · have := h1.1
    omega
  · obtain ⟨a1, a2, b3, a3, a4, a5, a6, a7⟩ := h1
    exact ⟨e, by omega, b3, a3, a4, fun z => a5 (by omega), a6, a7⟩
theorem zp_sm_x {k1 : Nat} {s : zp_T} (hs : zp_sm gt gv tq k1 s) : 300 ≤ gt tq ∧ gt tq ≤ 307 := by
  obtain ⟨e, h1 | h1 | h1⟩ := hs
  · have := h1.1
    omega
  · have := h1.1
    omega
  · have := h1.1
    have := h1.2.1
    omega
theorem zp_sn_u {f1 : Nat} (hs : zp_sn gt gv tq f1) (h : gt tq = 300 ∨ gt tq = 301) : zp_no gt gv 0 0 (tq + 1) f1 ∨ ∃ k2 ce, zp_ok gt gv 0 0 (tq + 1) k2 ce ∧ gt k2 = 308 ∧ zp_no gt gv 3 0 (k2 + 1) f1 := by
  rcases hs with ⟨_, h1⟩ | ⟨h0, _⟩ | ⟨h0, _⟩ | ⟨h0, _⟩
  · exact h1
  · omega
  · omega
  · omega
theorem zp_sn_s {f1 : Nat} (hs : zp_sn gt gv tq f1) (h : gt tq = 302) : zp_no gt gv 3 0 (tq + 1) f1 := by
  rcases hs with ⟨h0, _⟩ | ⟨_, h1⟩ | ⟨h0, _⟩ | ⟨h0, _⟩
  · omega
  · exact h1
  · omega
  · omega
theorem zp_sn_n {f1 : Nat} (hs : zp_sn gt gv tq f1) (h : 303 ≤ gt tq ∧ gt tq ≤ 307) : (gt (tq + 1) ≠ 400 ∨ (gt tq = 303 ∧ gv (tq + 1) < 1)) ∧ f1 = tq + 1 := by
  rcases hs with ⟨h0, _⟩ | ⟨h0, _⟩ | ⟨_, _, h1⟩ | ⟨h0, _⟩
  · omega
  · omega
  · exact h1
  · omega
theorem zp_sn_x {f1 : Nat} (hs : zp_sn gt gv tq f1) (h : ¬ (300 ≤ gt tq ∧ gt tq ≤ 307)) : f1 = tq := by
  rcases hs with ⟨h0, _⟩ | ⟨h0, _⟩ | ⟨h0, h1, _⟩ | ⟨_, h1⟩
  · omega
  · omega
  · omega
  · exact h1
/-- what was read, told of one reading that was done -/
theorem zp_run {w : Int} {k k9 k1 : Nat} {o9 g9 g : Int} {N9 N : List zp_N} {cs : List Int} (hr : zp_R gt gv (n0 : Int) (.inr (k, [(w, 0, -1, 0)], 0, g, N)) (.inr (k9, [], o9, g9, N9))) (h : zp_ok gt gv w 0 k k1 cs) : k1 = k9 ∧ ∃ sg, N9 = N ++ sg ∧ sg.map zp_en = cs := by
  obtain ⟨sg, g1, e, c1, c2⟩ := zp_ok_run h (by omega) hr rfl
  have e := Sum.inr.inj e
  have q1 : k9 = k1 := congrArg Prod.fst e
  have q2 : N9 = N ++ sg := congrArg (fun z : Nat × List zp_F × Int × Int × List zp_N => z.2.2.2.2) e
  exact ⟨q1.symm, sg, q2, c1⟩
theorem zp_runN {w : Int} {k k9 f1 : Nat} {o9 g9 g : Int} {N9 N : List zp_N} (hr : zp_R gt gv (n0 : Int) (.inr (k, [(w, 0, -1, 0)], 0, g, N)) (.inr (k9, [], o9, g9, N9))) (h : zp_no gt gv w 0 k f1) : False := by
  have e := zp_no_run h (by omega) hr rfl
  cases e
theorem zp_runF {w : Int} {k f f1 : Nat} {g : Int} {N : List zp_N} (hr : zp_R gt gv (n0 : Int) (.inr (k, [(w, 0, -1, 0)], 0, g, N)) (.inl f)) (h : zp_no gt gv w 0 k f1) : f1 = f := (Sum.inl.inj (zp_no_run h (by omega) hr trivial)).symm
theorem zp_runX {w : Int} {k f k1 : Nat} {g : Int} {N : List zp_N} {cs : List Int} (hr : zp_R gt gv (n0 : Int) (.inr (k, [(w, 0, -1, 0)], 0, g, N)) (.inl f)) (h : zp_ok gt gv w 0 k k1 cs) : False := by
  obtain ⟨sg, g1, e, c1, c2⟩ := zp_ok_run h (by omega) hr trivial
  cases e
section ZSR
variable {i k9 k8 : Nat} {o9 g9 o8 g8 : Int} {N9 N8 : List zp_N}
/-- units or trip, without if -/
theorem zm_SRA (hva : ∀ k, gt k = 400 → 0 ≤ gv k ∧ gv k ≤ 999999) (hg : 0 ≤ fg) (h0 : gt tq = 300 ∨ gt tq = 301) (hr : zp_R gt gv (n0 : Int) (.inr (tq + 1, [(0, 0, -1, 0)], 0, fg, NN)) (.inr (k9, [], o9, g9, N9))) (h8 : gt k9 ≠ 308) (h59 : gt k9 = 59) {fg1 : Int} (hE : zm_E gt gv gp ge gh gm n0 gI K J (.inr (k9 + 1, FS, fo, fg1, N9))) (e1 : (K 15 i).toInt = gt tq - 300) (e2 : (K 19 i).toInt = (n0 : Int) + (NN.length : Int)) (e3 : (K 20 i).toInt = (n0 : Int) + (N9.length : Int)) (e4 : (K 17 i).toInt = g9) (e5 : (K 18 i).toInt = -1) : zm_SR gt gv gp ge gh gm n0 gI tq NN i K J := by
  refine ⟨fun k1 s hs _ => ?_, fun f hf => ?_⟩
  · obtain ⟨es, k2, ho, hc⟩ := zp_sm_u hs h0
    obtain ⟨rfl, sg, rfl, em⟩ := zp_run hr ho
    obtain ⟨sg', t, e, hy, -, -, -⟩ := zp_V_fin hva (by omega) (Or.inl rfl) hg hr
    have e' := List.append_cancel_left e
    subst e'
    rcases hc with ⟨c1, _⟩ | ⟨_, rfl, c3⟩
    · exact absurd c1 h8
    · refine ⟨FS, fo, fg1, sg, [], by rw [List.append_nil]; exact hE, by rw [es]; exact e1, fun z => by omega, by rw [e2]; omega, ?_, em, by rw [c3]; rfl, fun _ => ⟨t, by rw [e4]; exact hy⟩, fun _ => e5, fun z => absurd c3 z⟩
      rw [e3, List.length_append, List.length_nil]
      omega
  · exfalso
    rcases hf with q | ⟨k1, s, q1, q2, q3⟩
    · rcases zp_sn_u q h0 with q | ⟨k2, ce, q1, q2, q3⟩
      · exact zp_runN hr q
      · obtain ⟨rfl, -⟩ := zp_run hr q1
        exact h8 q2
    · obtain ⟨es, k2, ho, hc⟩ := zp_sm_u q1 h0
      obtain ⟨rfl, -⟩ := zp_run hr ho
      rcases hc with ⟨c1, _⟩ | ⟨_, rfl, c3⟩
      · exact h8 c1
      · exact q2 h59
theorem zm_SRB (hva : ∀ k, gt k = 400 → 0 ≤ gv k ∧ gv k ≤ 999999) (hg : 0 ≤ fg) (h0 : gt tq = 300 ∨ gt tq = 301) (hr : zp_R gt gv (n0 : Int) (.inr (tq + 1, [(0, 0, -1, 0)], 0, fg, NN)) (.inr (k9, [], o9, g9, N9))) (h8 : gt k9 = 308) (hr2 : zp_R gt gv (n0 : Int) (.inr (k9 + 1, [(3, 0, -1, 0)], 0, g9, N9)) (.inr (k8, [], o8, g8, N8))) (h59 : gt k8 = 59) {fg1 : Int} (hE : zm_E gt gv gp ge gh gm n0 gI K J (.inr (k8 + 1, FS, fo, fg1, N8))) (e1 : (K 15 i).toInt = gt tq - 300) (e2 : (K 19 i).toInt = (n0 : Int) + (NN.length : Int)) (e3 : (K 20 i).toInt = (n0 : Int) + (N8.length : Int)) (e4 : (K 17 i).toInt = g9) (e5 : (K 18 i).toInt = g8) : zm_SR gt gv gp ge gh gm n0 gI tq NN i K J := by
  obtain ⟨sg, t, rfl, hy, -, hg9, -⟩ := zp_V_fin hva (by omega) (Or.inl rfl) hg hr
  obtain ⟨sg2, t2, rfl, hy2, ht2, -, -⟩ := zp_V_fin hva (by omega) (Or.inr rfl) hg9 hr2
  refine ⟨fun k1 s hs _ => ?_, fun f hf => ?_⟩
  · obtain ⟨es, k2, ho, hc⟩ := zp_sm_u hs h0
    obtain ⟨rfl, sg', e, em⟩ := zp_run hr ho
    have e' := List.append_cancel_left e
    subst e'
    rcases hc with ⟨c1, c2, c3⟩ | ⟨c1, _⟩
    · obtain ⟨rfl, sg', e, em2⟩ := zp_run hr2 c2
      have e' := List.append_cancel_left e
      subst e'
      have ht := ht2 rfl
      subst ht
      refine ⟨FS, fo, fg1, sg, sg2, by rw [← List.append_assoc]; exact hE, by rw [es]; exact e1, fun z => by omega, by rw [e2]; omega, ?_, em, em2, fun _ => ⟨t, by rw [e4]; exact hy⟩, fun z => absurd z c3, fun _ => ?_⟩
      · rw [e3, List.length_append, List.length_append]
        omega
      · rw [e5, ← hy2, List.length_append]
        congr 1
        omega
    · exact absurd h8 c1
  · exfalso
    rcases hf with q | ⟨k1, s, q1, q2, q3⟩
    · rcases zp_sn_u q h0 with q | ⟨k2, ce, q1, q2, q3⟩
      · exact zp_runN hr q
      · obtain ⟨rfl, -⟩ := zp_run hr q1
        exact zp_runN hr2 q3
    · obtain ⟨es, k2, ho, hc⟩ := zp_sm_u q1 h0
      obtain ⟨rfl, -⟩ := zp_run hr ho
      rcases hc with ⟨c1, c2, c3⟩ | ⟨c1, _⟩
      · obtain ⟨rfl, -⟩ := zp_run hr2 c2
        exact q2 h59
      · exact c1 h8
theorem zm_SRC (hva : ∀ k, gt k = 400 → 0 ≤ gv k ∧ gv k ≤ 999999) (hg : 0 ≤ fg) (h0 : gt tq = 302) (hr : zp_R gt gv (n0 : Int) (.inr (tq + 1, [(3, 0, -1, 0)], 0, fg, NN)) (.inr (k9, [], o9, g9, N9))) (h59 : gt k9 = 59) {fg1 : Int} (hE : zm_E gt gv gp ge gh gm n0 gI K J (.inr (k9 + 1, FS, fo, fg1, N9))) (e1 : (K 15 i).toInt = gt tq - 300) (e2 : (K 19 i).toInt = (n0 : Int) + (NN.length : Int)) (e3 : (K 20 i).toInt = (n0 : Int) + (N9.length : Int)) (e5 : (K 18 i).toInt = g9) : zm_SR gt gv gp ge gh gm n0 gI tq NN i K J := by
  obtain ⟨sg, t, rfl, hy, ht, -, -⟩ := zp_V_fin hva (by omega) (Or.inr rfl) hg hr
  have ht := ht rfl
  subst ht
  refine ⟨fun k1 s hs _ => ?_, fun f hf => ?_⟩
  · obtain ⟨es, hce, ho, hne⟩ := zp_sm_s hs h0
    obtain ⟨rfl, sg', e, em⟩ := zp_run hr ho
    have e' := List.append_cancel_left e
    subst e'
    refine ⟨FS, fo, fg1, [], sg, hE, by rw [es]; omega, fun z => by omega, by rw [e2]; omega, ?_, by rw [hce]; rfl, em, fun z => by omega, fun z => absurd z hne, fun _ => ?_⟩
    · rw [e3, List.length_append, List.length_nil]
      omega
    · rw [e5, ← hy, List.length_nil]
      congr 1 <;> omega
  · exfalso
    rcases hf with q | ⟨k1, s, q1, q2, q3⟩
    · exact zp_runN hr (zp_sn_s q h0)
    · obtain ⟨es, hce, ho, hne⟩ := zp_sm_s q1 h0
      obtain ⟨rfl, -⟩ := zp_run hr ho
      exact q2 h59
theorem zm_SRD (h0 : 303 ≤ gt tq ∧ gt tq ≤ 307) (h4 : gt (tq + 1) = 400) (hv : gt tq = 303 → 1 ≤ gv (tq + 1)) (h59 : gt (tq + 2) = 59) {fg1 : Int} (hE : zm_E gt gv gp ge gh gm n0 gI K J (.inr (tq + 3, FS, fo, fg1, NN))) (e1 : (K 15 i).toInt = gt tq - 300) (e2 : (K 19 i).toInt = (n0 : Int) + (NN.length : Int)) (e3 : (K 20 i).toInt = (n0 : Int) + (NN.length : Int)) (e4 : (K 16 i).toInt = gv (tq + 1)) (e5 : (K 18 i).toInt = -1) : zm_SR gt gv gp ge gh gm n0 gI tq NN i K J := by
  refine ⟨fun k1 s hs _ => ?_, fun f hf => ?_⟩
  · obtain ⟨es, _, hce, hcc, _, _, hf, hk⟩ := zp_sm_n hs h0.1
    subst hk
    refine ⟨FS, fo, fg1, [], [], by rw [List.append_nil, List.append_nil]; exact hE, by rw [es]; exact e1, fun _ => by rw [hf]; exact e4, by rw [e2]; omega, ?_, by rw [hce]; rfl, by rw [hcc]; rfl, fun z => by omega, fun _ => e5, fun z => absurd hcc z⟩
    rw [e3, List.length_nil]
    omega
  · exfalso
    rcases hf with q | ⟨k1, s, q1, q2, q3⟩
    · have := (zp_sn_n q h0).1
      omega
    · obtain ⟨es, _, hce, hcc, _, _, hf, hk⟩ := zp_sm_n q1 h0.1
      subst hk
      exact q2 h59
/-! it goes wrong -/
theorem zm_W1 (hE : zm_E gt gv gp ge gh gm n0 gI K J (.inl tq)) (h : ¬ (300 ≤ gt tq ∧ gt tq ≤ 307)) : zm_SR gt gv gp ge gh gm n0 gI tq NN i K J := zm_SR_w hE (fun k1 s q => absurd (zp_sm_x q) h) (fun f1 q => zp_sn_x q h)
theorem zm_W2 (hE : zm_E gt gv gp ge gh gm n0 gI K J (.inl f)) (h0 : gt tq = 300 ∨ gt tq = 301) (hr : zp_R gt gv (n0 : Int) (.inr (tq + 1, [(0, 0, -1, 0)], 0, fg, NN)) (.inl f)) : zm_SR gt gv gp ge gh gm n0 gI tq NN i K J := zm_SR_w hE (fun k1 s q => by
  obtain ⟨_, k2, ho, _⟩ := zp_sm_u q h0
  exact (zp_runX hr ho).elim) (fun f1 q => by
  rcases zp_sn_u q h0 with q | ⟨k2, ce, q1, q2, q3⟩
  · exact zp_runF hr q
  · exact (zp_runX hr q1).elim)
theorem zm_W3 (hE : zm_E gt gv gp ge gh gm n0 gI K J (.inl k9)) (h0 : gt tq = 300 ∨ gt tq = 301) (hr : zp_R gt gv (n0 : Int) (.inr (tq + 1, [(0, 0, -1, 0)], 0, fg, NN)) (.inr (k9, [], o9, g9, N9))) (h8 : gt k9 ≠ 308) (h59 : gt k9 ≠ 59) : zm_SR gt gv gp ge gh gm n0 gI tq NN i K J := zm_SR_w hE (fun k1 s q => by
  obtain ⟨_, k2, ho, hc⟩ := zp_sm_u q h0
  obtain ⟨rfl, -⟩ := zp_run hr ho
  rcases hc with ⟨c1, _⟩ | ⟨_, rfl, _⟩
  · exact absurd c1 h8
  · exact ⟨h59, rfl⟩) (fun f1 q => by
  rcases zp_sn_u q h0 with q | ⟨k2, ce, q1, q2, q3⟩
  · exact (zp_runN hr q).elim
  · obtain ⟨rfl, -⟩ := zp_run hr q1
    exact absurd q2 h8)
theorem zm_W4 (hE : zm_E gt gv gp ge gh gm n0 gI K J (.inl f)) (h0 : gt tq = 300 ∨ gt tq = 301) (hr : zp_R gt gv (n0 : Int) (.inr (tq + 1, [(0, 0, -1, 0)], 0, fg, NN)) (.inr (k9, [], o9, g9, N9))) (h8 : gt k9 = 308) (hr2 : zp_R gt gv (n0 : Int) (.inr (k9 + 1, [(3, 0, -1, 0)], 0, g9, N9)) (.inl f)) : zm_SR gt gv gp ge gh gm n0 gI tq NN i K J := zm_SR_w hE (fun k1 s q => by
  obtain ⟨_, k2, ho, hc⟩ := zp_sm_u q h0
  obtain ⟨rfl, -⟩ := zp_run hr ho
  rcases hc with ⟨c1, c2, _⟩ | ⟨c1, _⟩
  · exact (zp_runX hr2 c2).elim
  · exact absurd h8 c1) (fun f1 q => by
  rcases zp_sn_u q h0 with q | ⟨k2, ce, q1, q2, q3⟩
  · exact (zp_runN hr q).elim
  · obtain ⟨rfl, -⟩ := zp_run hr q1
    exact zp_runF hr2 q3)
theorem zm_W5 (hE : zm_E gt gv gp ge gh gm n0 gI K J (.inl k8)) (h0 : gt tq = 300 ∨ gt tq = 301) (hr : zp_R gt gv (n0 : Int) (.inr (tq + 1, [(0, 0, -1, 0)], 0, fg, NN)) (.inr (k9, [], o9, g9, N9))) (h8 : gt k9 = 308) (hr2 : zp_R gt gv (n0 : Int) (.inr (k9 + 1, [(3, 0, -1, 0)], 0, g9, N9)) (.inr (k8, [], o8, g8, N8))) (h59 : gt k8 ≠ 59) : zm_SR gt gv gp ge gh gm n0 gI tq NN i K J := zm_SR_w hE (fun k1 s q => by
  obtain ⟨_, k2, ho, hc⟩ := zp_sm_u q h0
  obtain ⟨rfl, -⟩ := zp_run hr ho
  rcases hc with ⟨c1, c2, _⟩ | ⟨c1, _⟩
  · obtain ⟨rfl, -⟩ := zp_run hr2 c2
    exact ⟨h59, rfl⟩
  · exact absurd h8 c1) (fun f1 q => by
  rcases zp_sn_u q h0 with q | ⟨k2, ce, q1, q2, q3⟩
  · exact (zp_runN hr q).elim
  · obtain ⟨rfl, -⟩ := zp_run hr q1
    exact (zp_runN hr2 q3).elim)
theorem zm_W6 (hE : zm_E gt gv gp ge gh gm n0 gI K J (.inl f)) (h0 : gt tq = 302) (hr : zp_R gt gv (n0 : Int) (.inr (tq + 1, [(3, 0, -1, 0)], 0, fg, NN)) (.inl f)) : zm_SR gt gv gp ge gh gm n0 gI tq NN i K J := zm_SR_w hE (fun k1 s q => (zp_runX hr (zp_sm_s q h0).2.2.1).elim) (fun f1 q => zp_runF hr (zp_sn_s q h0))
theorem zm_W7 (hE : zm_E gt gv gp ge gh gm n0 gI K J (.inl k9)) (h0 : gt tq = 302) (hr : zp_R gt gv (n0 : Int) (.inr (tq + 1, [(3, 0, -1, 0)], 0, fg, NN)) (.inr (k9, [], o9, g9, N9))) (h59 : gt k9 ≠ 59) : zm_SR gt gv gp ge gh gm n0 gI tq NN i K J := zm_SR_w hE (fun k1 s q => by
  obtain ⟨rfl, -⟩ := zp_run hr (zp_sm_s q h0).2.2.1
  exact ⟨h59, rfl⟩) (fun f1 q => (zp_runN hr (zp_sn_s q h0)).elim)
theorem zm_W8 (hE : zm_E gt gv gp ge gh gm n0 gI K J (.inl (tq + 1))) (h0 : 303 ≤ gt tq ∧ gt tq ≤ 307) (h : gt (tq + 1) ≠ 400 ∨ (gt tq = 303 ∧ gv (tq + 1) < 1)) : zm_SR gt gv gp ge gh gm n0 gI tq NN i K J := zm_SR_w hE (fun k1 s q => by
  have := zp_sm_n q h0.1
  omega) (fun f1 q => (zp_sn_n q h0).2)
theorem zm_W9 (hE : zm_E gt gv gp ge gh gm n0 gI K J (.inl (tq + 2))) (h0 : 303 ≤ gt tq ∧ gt tq ≤ 307) (h4 : gt (tq + 1) = 400) (hv : gt tq = 303 → 1 ≤ gv (tq + 1)) (h59 : gt (tq + 2) ≠ 59) : zm_SR gt gv gp ge gh gm n0 gI tq NN i K J := zm_SR_w hE (fun k1 s q => by
  obtain ⟨es, _, hce, hcc, _, _, hf, hk⟩ := zp_sm_n q h0.1
  subst hk
  exact ⟨h59, rfl⟩) (fun f1 q => by
  have := (zp_sn_n q h0).1
  omega)
end ZSR
end ZMP
noncomputable def L_X12_parse_x : z_L := [(0, 35), (0, 36), (0, 37), (0, 38), (0, 34), (0, 42), (0, 32), (0, 39), (21, 999), (22, 999), (23, 999), (0, 15), (26, 999), (27, 999), (28, 999), (29, 999), (0, 47), (0, 40)]
set_option maxHeartbeats 8000000 in
set_option maxRecDepth 100000 in
theorem sx_X12_parse_x (l : Launch) (G : z_G) (ad : Nat → Nat) (I : z_I) (J : z_J) (hmp : z_imp I) (hmt : z_imt I) (hmd : z_imd I) (hmg : z_img I) (hmn : z_imn I) (hNd : z_Nd I) (hrp : z_irp I) (gt gv : Nat → Int) (gp ge : Nat → Nat) (gh : Nat → Int) (gm n0 : Nat) (gI : z_I) (tq : Nat) (FS : List zp_F) (fo fg : Int) (NN : List zp_N) (a1 : Int32) (q1 : 0 ≤ a1.toInt ∧ a1.toInt ≤ 5) (q2 : 1010 * (500 - (I 0 35).toInt) + 1000 * (I 0 15).toInt + 10 ≤ 6100000) (hE : zm_E gt gv gp ge gh gm n0 gI I J (.inr (tq, FS, fo, fg, NN))) (hSM : zp_SM gh gt gv gp ge gm) : z_M l yX12_parse wsX12_parse { frames := 5, cells := 0, slots := 0, locals := 98 } [.ref (ad 0), .int a1] G (shM, ad, I, J, PM ad) (fun r u1 => ∃ (I1 : z_I) (J1 : z_J), u1 = (shM, ad, I1, J1, PM ad) ∧ z_imp I1 ∧ z_imt I1 ∧ z_imd I1 ∧ z_img I1 ∧ z_imn I1 ∧ z_Nd I1 ∧ z_irp I1 ∧ z_fr L_X12_parse_x I1 I ∧ ((0 ≤ r.toInt ∧ r.toInt ≤ 6199 ∧ (¬ (I1 0 42).toInt = 0 ∨ 1010 * (500 - (I1 0 35).toInt) + 1000 * (I1 0 15).toInt ≤ 1010 * (500 - (I 0 35).toInt) + 1000 * (I 0 15).toInt + 10)) ∧ ∃ b : zp_S, zp_hl b ∧ zp_R gt gv (n0 : Int) (.inr (tq, [(a1.toInt, 0, -1, 0)], 0, fg, NN)) b ∧ zm_E gt gv gp ge gh gm n0 gI I1 J1 b ∧ r.toInt = (I1 0 40).toInt)) 0 0 := by
  intro sz
  refine z_headQ (cc := cX12_parse) (maxL := 4) (ret := (some .int)) (by decide) rfl (Nat.le_of_ble_eq_true rfl) ?_
  intro p e s m below meth c0 ls hIn hK hsz hW hl
  obtain ⟨hx, hb, hr, hml, hown, hts, hlocks, hname⟩ := hIn
  subst hsz
  have hown : s.vm.findClass RX12 = some m.cls := hown
  have hA : ∀ q : Nat, s.heap.size ≤ q → z_A (shM, ad, I, J, PM ad) s.heap.size q := fun q h => Or.inr h
  generalize hAe : z_A (shM, ad, I, J, PM ad) s.heap.size = A at *
  have hS : va_S A s.heap s.heap [] := va_S.rf
  have hl : lv_has ls 4 [(0, .ref (ad 0)), (1, .int a1)] := hl
  have hE1 := zm_E_W hE
  have hE2 := zm_E_D hE
  have krp : 0 ≤ (I 0 35).toInt ∧ (I 0 35).toInt ≤ (I 0 34).toInt ∧ (I 0 34).toInt ≤ (I 0 33).toInt ∧ (I 0 33).toInt ≤ 500 ∧ ((I 0 36).toInt = 0 ∨ (I 0 35).toInt + 1 ≤ (I 0 34).toInt) := hrp
  refine lv_aload_n hx hb dX12_parse_0 rfl (lv_at hl 0 rfl) ?_
  refine lv_iconst (v := 0) hx hb dX12_parse_1 (by decide) ?_
  refine z_put (T := TX12) (N := 96) (ci := 12) (i := 0) (v := .int 0) (I1 := z_up I 0 47 0) (J1 := J) (P1 := PM ad) hx hb hts zj_X12_parse_X12 tyX12 tyX12_ok nmX12 hown hK hW hS rfl rfl 47 (by decide) (hts (.fieldLink RX12 340 "PetrolBoardModel" "deep" "I") (me_s (me_l (me_l (List.mem_of_getElem? (i := 0) rfl))))) (fun _ h => h) rfl rfl rfl (by first | rfl | exact congrArg _ z_up_s) (fun a b h ty => z_vI h ty) dX12_parse_2 (fun H locs hz1 hW hS => ?_)
  obtain ⟨I1, eI1⟩ : ∃ K : z_I, K = z_up I 0 47 0 := ⟨_, rfl⟩
  rw [← eI1] at hW
  have f2 := z_fr_k z_fr_0 (show z_wr L_X12_parse_x 0 47 = true by decide) eI1
  have a3 := z_Nd_n hNd (by decide) eI1
  refine lv_aload_n hx hb dX12_parse_5 rfl (lv_at hl 0 rfl) ?_
  refine lv_iconst (v := 0) hx hb dX12_parse_6 (by decide) ?_
  refine z_put (T := TX12) (N := 96) (ci := 12) (i := 0) (v := .int 0) (I1 := z_up I1 0 39 0) (J1 := J) (P1 := PM ad) hx hb hts zj_X12_parse_X12 tyX12 tyX12_ok nmX12 hown hK hW hS rfl rfl 39 (by decide) (hts (.fieldLink RX12 346 "PetrolBoardModel" "open" "I") (me_s (me_l (me_l (List.mem_of_getElem? (i := 1) rfl))))) (fun _ h => h) rfl rfl rfl (by first | rfl | exact congrArg _ z_up_s) (fun a b h ty => z_vI h ty) dX12_parse_7 (fun H locs hz1 hW hS => ?_)
  obtain ⟨I4, eI4⟩ : ∃ K : z_I, K = z_up I1 0 39 0 := ⟨_, rfl⟩
  rw [← eI4] at hW
  have f5 := z_fr_k f2 (show z_wr L_X12_parse_x 0 39 = true by decide) eI4
  have a6 := z_Nd_n a3 (by decide) eI4
  have hE7 : zm_E gt gv gp ge gh gm n0 gI I4 J (.inr (tq, ([] : List zp_F), 0, fg, NN)) := zm_E_0 hE eI1 (by decide) eI4 (by decide)
  have h8 := zm_E_W hE7
  have h9 := zm_E_D hE7
  refine lv_aload_n hx hb dX12_parse_10 rfl (lv_at hl 0 rfl) ?_
  refine lv_iload_n hx hb dX12_parse_11 rfl (lv_at hl 1 rfl) ?_
  refine z_cv hW hS hA (va_runV (As := [.int a1]) (rest := []) ⟨hx, hb, hml, hown, hts⟩ (sx_X12_begin_x l G ad I4 J ⟨(by show 0 ≤ (I4 0 47).toInt ∧ (I4 0 47).toInt ≤ 119; rw [eI4, z_up_k (by decide), eI1, z_up_s]; decide), (by show 0 ≤ (I4 0 39).toInt ∧ (I4 0 39).toInt ≤ 100; rw [eI4, z_up_s]; decide)⟩ a1 (by have q0 : (I4 0 47) = 0 := (by rw [eI4, z_up_k (by decide), eI1, z_up_s]); have z0 := z_l0; show (I4 0 47).toInt ≤ 118; rw [q0]; omega) _) (cwV 1 hts gX12_parse_X12_begin rfl rfl rfl (by decide +kernel) ⟨Nat.le_of_ble_eq_true rfl, Nat.le_of_ble_eq_true rfl⟩) (z_preV (i := 0) hK hW rfl rfl) rfl rfl hl.1 rfl (lv_room (Nat.le_of_ble_eq_true rfl)) dX12_parse_12 ⟨Nat.le_of_ble_eq_true rfl, Nat.le_of_ble_eq_true rfl⟩) (fun u1 H locs hp hW hS => ?_)
  obtain ⟨I10, J12, e9, hI10md, fI10, hp⟩ := hp
  rw [e9] at hW
  have f11 := z_fr_sub (L := L_X12_parse_x) f5 fI10 (by decide)
  have k13 : 0 ≤ (I10 0 31).toInt ∧ (I10 0 31).toInt ≤ 500 := by rw [fI10 0 31 (by decide)]; exact (by show 0 ≤ (I4 0 31).toInt ∧ (I4 0 31).toInt ≤ 500; rw [eI4, z_up_k (by decide), eI1, z_up_k (by decide)]; exact hmp.1)
  have k14 : 0 ≤ (I10 0 33).toInt ∧ (I10 0 33).toInt ≤ 500 := by rw [fI10 0 33 (by decide)]; exact (by show 0 ≤ (I4 0 33).toInt ∧ (I4 0 33).toInt ≤ 500; rw [eI4, z_up_k (by decide), eI1, z_up_k (by decide)]; exact hmp.2.1)
  have k15 : 0 ≤ (I10 0 34).toInt ∧ (I10 0 34).toInt ≤ 500 := by rw [fI10 0 34 (by decide)]; exact (by show 0 ≤ (I4 0 34).toInt ∧ (I4 0 34).toInt ≤ 500; rw [eI4, z_up_k (by decide), eI1, z_up_k (by decide)]; exact hmp.2.2.1)
  have k16 : 0 ≤ (I10 0 35).toInt ∧ (I10 0 35).toInt ≤ 500 := by rw [fI10 0 35 (by decide)]; exact (by show 0 ≤ (I4 0 35).toInt ∧ (I4 0 35).toInt ≤ 500; rw [eI4, z_up_k (by decide), eI1, z_up_k (by decide)]; exact hmp.2.2.2)
  have k17 : 0 ≤ (I10 0 36).toInt ∧ (I10 0 36).toInt ≤ 4 := by rw [fI10 0 36 (by decide)]; exact (by show 0 ≤ (I4 0 36).toInt ∧ (I4 0 36).toInt ≤ 4; rw [eI4, z_up_k (by decide), eI1, z_up_k (by decide)]; exact hmt.1)
  have k18 : 0 ≤ (I10 0 42).toInt ∧ (I10 0 42).toInt ≤ 1 := by rw [fI10 0 42 (by decide)]; exact (by show 0 ≤ (I4 0 42).toInt ∧ (I4 0 42).toInt ≤ 1; rw [eI4, z_up_k (by decide), eI1, z_up_k (by decide)]; exact hmt.2)
  have k19 : (I10 0 39).toInt = 0 := by rw [fI10 0 39 (by decide), eI4, z_up_s]; exact z_l0
  have k20 : 0 ≤ (I10 0 40).toInt ∧ (I10 0 40).toInt ≤ 6199 := by rw [fI10 0 40 (by decide)]; exact (by show 0 ≤ (I4 0 40).toInt ∧ (I4 0 40).toInt ≤ 6199; rw [eI4, z_up_k (by decide), eI1, z_up_k (by decide)]; exact hmg)
  have k21 : 0 ≤ (I10 0 15).toInt ∧ (I10 0 15).toInt ≤ 6100 := by rw [fI10 0 15 (by decide)]; exact (by show 0 ≤ (I4 0 15).toInt ∧ (I4 0 15).toInt ≤ 6100; rw [eI4, z_up_k (by decide), eI1, z_up_k (by decide)]; exact hmn)
  have k22 : 0 ≤ (I10 0 35).toInt ∧ (I10 0 35).toInt ≤ (I10 0 34).toInt ∧ (I10 0 34).toInt ≤ (I10 0 33).toInt ∧ (I10 0 33).toInt ≤ 500 ∧ ((I10 0 36).toInt = 0 ∨ (I10 0 35).toInt + 1 ≤ (I10 0 34).toInt) := (by have q0 : (I10 0 35) = (I 0 35) := (by rw [fI10 0 35 (by decide), eI4, z_up_k (by decide), eI1, z_up_k (by decide)]); have q1 : (I10 0 34) = (I 0 34) := (by rw [fI10 0 34 (by decide), eI4, z_up_k (by decide), eI1, z_up_k (by decide)]); have q2 : (I10 0 33) = (I 0 33) := (by rw [fI10 0 33 (by decide), eI4, z_up_k (by decide), eI1, z_up_k (by decide)]); have q3 : (I10 0 36) = (I 0 36) := (by rw [fI10 0 36 (by decide), eI4, z_up_k (by decide), eI1, z_up_k (by decide)]); show 0 ≤ (I10 0 35).toInt ∧ (I10 0 35).toInt ≤ (I10 0 34).toInt ∧ (I10 0 34).toInt ≤ (I10 0 33).toInt ∧ (I10 0 33).toInt ≤ 500 ∧ ((I10 0 36).toInt = 0 ∨ (I10 0 35).toInt + 1 ≤ (I10 0 34).toInt); rw [q0, q1, q2, q3]; first | omega | decide)
  have k23 : (I10 0 35).toInt = (I 0 35).toInt := by rw [fI10 0 35 (by decide), eI4, z_up_k (by decide), eI1, z_up_k (by decide)]
  have k24 : (I10 0 34).toInt = (I 0 34).toInt := by rw [fI10 0 34 (by decide), eI4, z_up_k (by decide), eI1, z_up_k (by decide)]
  have k25 : (I10 0 36).toInt = (I 0 36).toInt := by rw [fI10 0 36 (by decide), eI4, z_up_k (by decide), eI1, z_up_k (by decide)]
  have k26 : (I10 0 42).toInt = (I 0 42).toInt := by rw [fI10 0 42 (by decide), eI4, z_up_k (by decide), eI1, z_up_k (by decide)]
  have k27 : (I10 0 39).toInt = 0 := by rw [fI10 0 39 (by decide), eI4, z_up_s]; exact z_l0
  have k28 : (I10 0 15).toInt = (I 0 15).toInt := by rw [fI10 0 15 (by decide), eI4, z_up_k (by decide), eI1, z_up_k (by decide)]
  have k29 : (I10 0 40).toInt = (I 0 40).toInt := by rw [fI10 0 40 (by decide), eI4, z_up_k (by decide), eI1, z_up_k (by decide)]
  obtain ⟨hp, hJ30⟩ := hp
  have h31 := hp
  have hE32 : zm_E gt gv gp ge gh gm n0 gI I10 J12 (.inr (tq, (a1.toInt, 0, -1, 0) :: ([] : List zp_F), 0, fg, NN)) := zm_E_begin hE7 h31 rfl fI10 (by decide) hJ30
  have h33 := zm_E_W hE32
  have h34 := zm_E_D hE32
  have lp35 : ∀ (f : Nat)  (I36 : z_I) (J37 : z_J) (H : Heap) (locs : List Loc) (ls : Array Slot), ((¬ (I36 0 42).toInt = 0 ∧ 1 ≤ f) ∨ ∃ n B, z_PS I36 n B ∧ B + 2 ≤ (f : Int) ∧ B ≤ 1010 * (500 - (I 0 35).toInt) + 1000 * (I 0 15).toInt + 10) → (z_imp I36) → (z_imt I36) → (z_imd I36) → (z_img I36) → (z_imn I36) → (z_Nd I36) → (z_irp I36) → (∃ b : zp_S, zp_R gt gv (n0 : Int) (.inr (tq, [(a1.toInt, 0, -1, 0)], 0, fg, NN)) b ∧ zm_E gt gv gp ge gh gm n0 gI I36 J37 b) → (z_fr L_X12_parse_x I36 I) → z_W G A (shM, ad, I36, J37, PM ad) H → va_S A s.heap H locs → lv_has ls 4 [(0, .ref (ad 0)), (1, .int a1)] → W p l e (headSpec wsX12_parse { frames := 5, cells := 0, slots := 0, locals := 98 }).room s m ([.ref (ad 0), .int a1] : List Value).toArray below meth c0 H locs 0 0 (MQ below (va_Qi (fun (r : Int32) (u1 : z_U) => ∃ (I1 : z_I) (J1 : z_J), u1 = (shM, ad, I1, J1, PM ad) ∧ z_imp I1 ∧ z_imt I1 ∧ z_imd I1 ∧ z_img I1 ∧ z_imn I1 ∧ z_Nd I1 ∧ z_irp I1 ∧ z_fr L_X12_parse_x I1 I ∧ ((0 ≤ r.toInt ∧ r.toInt ≤ 6199 ∧ (¬ (I1 0 42).toInt = 0 ∨ 1010 * (500 - (I1 0 35).toInt) + 1000 * (I1 0 15).toInt ≤ 1010 * (500 - (I 0 35).toInt) + 1000 * (I 0 15).toInt + 10)) ∧ ∃ b : zp_S, zp_hl b ∧ zp_R gt gv (n0 : Int) (.inr (tq, [(a1.toInt, 0, -1, 0)], 0, fg, NN)) b ∧ zm_E gt gv gp ge gh gm n0 gI I1 J1 b ∧ r.toInt = (I1 0 40).toInt)) (z_B G A) A) ([.ref (ad 0), .int a1] : List Value).toArray s 0 0 A) (F0 m 15 ls []) := by
    intro f
    induction f with
    | zero => intro  I36 J37 H locs ls lp35m lp35mp lp35mt lp35md lp35mg lp35mn lp35Nd lp35rp lp35E lp35fr hW hS hl; exact False.elim (by rcases lp35m with q | ⟨n, B, q1, q2, q3⟩; (· omega); (· (have := z_psn q1; omega)))
    | succ f lp35ih =>
      intro  I36 J37 H locs ls lp35m lp35mp lp35mt lp35md lp35mg lp35mn lp35Nd lp35rp lp35E lp35fr hW hS hl
      have k38 : 0 ≤ (I36 0 35).toInt ∧ (I36 0 35).toInt ≤ (I36 0 34).toInt ∧ (I36 0 34).toInt ≤ (I36 0 33).toInt ∧ (I36 0 33).toInt ≤ 500 ∧ ((I36 0 36).toInt = 0 ∨ (I36 0 35).toInt + 1 ≤ (I36 0 34).toInt) := lp35rp
      refine lv_aload_n hx hb dX12_parse_15 rfl (lv_at hl 0 rfl) ?_
      have r39 : 0 ≤ (I36 0 47).toInt ∧ (I36 0 47).toInt ≤ 119 := lp35md.1
      refine z_get (T := TX12) (N := 96) (ci := 12) (i := 0) (v := .int (I36 0 47)) hx hb hts zj_X12_parse_X12 hown hK hW rfl rfl 47 (by decide) (hts (.fieldLink RX12 340 "PetrolBoardModel" "deep" "I") (me_s (me_l (me_l (List.mem_of_getElem? (i := 0) rfl))))) (fun _ h => h) rfl dX12_parse_16 ?_
      refine lv_if_le (tgt := 109) hx hb dX12_parse_19 (by decide) (fun c40 => ?_) (fun c40 => ?_)
      · have g41 := z_f_le rfl z_l0 c40
        refine lv_aload_n hx hb dX12_parse_109 rfl (lv_at hl 0 rfl) ?_
        have r42 : 0 ≤ (I36 0 40).toInt ∧ (I36 0 40).toInt ≤ 6199 := lp35mg
        refine z_get (T := TX12) (N := 96) (ci := 12) (i := 0) (v := .int (I36 0 40)) hx hb hts zj_X12_parse_X12 hown hK hW rfl rfl 40 (by decide) (hts (.fieldLink RX12 343 "PetrolBoardModel" "got" "I") (me_s (me_l (me_l (List.mem_of_getElem? (i := 4) rfl))))) (fun _ h => h) rfl dX12_parse_110 ?_
        exact z_iret hx hb hr hK hS (Nat.le_of_ble_eq_true rfl) (Nat.le_of_ble_eq_true rfl) hlocks dX12_parse_113 (shM, ad, I36, J37, PM ad) hW ⟨I36, J37, rfl, ⟨(by show 0 ≤ (I36 0 31).toInt ∧ (I36 0 31).toInt ≤ 500; exact lp35mp.1), (by show 0 ≤ (I36 0 33).toInt ∧ (I36 0 33).toInt ≤ 500; exact lp35mp.2.1), (by show 0 ≤ (I36 0 34).toInt ∧ (I36 0 34).toInt ≤ 500; exact lp35mp.2.2.1), (by show 0 ≤ (I36 0 35).toInt ∧ (I36 0 35).toInt ≤ 500; exact lp35mp.2.2.2)⟩, ⟨(by show 0 ≤ (I36 0 36).toInt ∧ (I36 0 36).toInt ≤ 4; exact lp35mt.1), (by show 0 ≤ (I36 0 42).toInt ∧ (I36 0 42).toInt ≤ 1; exact lp35mt.2)⟩, ⟨(by show 0 ≤ (I36 0 47).toInt ∧ (I36 0 47).toInt ≤ 119; exact lp35md.1), (by show 0 ≤ (I36 0 39).toInt ∧ (I36 0 39).toInt ≤ 100; exact lp35md.2)⟩, (by show 0 ≤ (I36 0 40).toInt ∧ (I36 0 40).toInt ≤ 6199; exact lp35mg), (by show 0 ≤ (I36 0 15).toInt ∧ (I36 0 15).toInt ≤ 6100; exact lp35mn), lp35Nd, (by show 0 ≤ (I36 0 35).toInt ∧ (I36 0 35).toInt ≤ (I36 0 34).toInt ∧ (I36 0 34).toInt ≤ (I36 0 33).toInt ∧ (I36 0 33).toInt ≤ 500 ∧ ((I36 0 36).toInt = 0 ∨ (I36 0 35).toInt + 1 ≤ (I36 0 34).toInt); first | omega | decide), lp35fr, ⟨⟨by omega, by omega, (lp35m).elim (fun q => Or.inl q.1) (fun ⟨n, B, q, _, hb⟩ => Or.inr (by have := z_psn q; omega))⟩, (by obtain ⟨b, hR, hEs⟩ := lp35E; exact ⟨b, zm_E_hl hEs (by omega), hR, hEs, by omega⟩)⟩⟩
      · have g43 := z_f_nle rfl z_l0 c40
        refine lv_aload_n hx hb dX12_parse_22 rfl (lv_at hl 0 rfl) ?_
        have r44 : 0 ≤ (I36 0 42).toInt ∧ (I36 0 42).toInt ≤ 1 := lp35mt.2
        refine z_get (T := TX12) (N := 96) (ci := 12) (i := 0) (v := .int (I36 0 42)) hx hb hts zj_X12_parse_X12 hown hK hW rfl rfl 42 (by decide) (hts (.fieldLink RX12 294 "PetrolBoardModel" "isWrong" "Z") (me_s (me_l (me_l (List.mem_of_getElem? (i := 2) rfl))))) (fun _ h => h) rfl dX12_parse_23 ?_
        refine lv_if_ne (tgt := 109) hx hb dX12_parse_26 (by decide) (fun c45 => ?_) (fun c45 => ?_)
        · have g46 := z_f_ne rfl z_l0 c45
          refine lv_aload_n hx hb dX12_parse_109 rfl (lv_at hl 0 rfl) ?_
          have r47 : 0 ≤ (I36 0 40).toInt ∧ (I36 0 40).toInt ≤ 6199 := lp35mg
          refine z_get (T := TX12) (N := 96) (ci := 12) (i := 0) (v := .int (I36 0 40)) hx hb hts zj_X12_parse_X12 hown hK hW rfl rfl 40 (by decide) (hts (.fieldLink RX12 343 "PetrolBoardModel" "got" "I") (me_s (me_l (me_l (List.mem_of_getElem? (i := 4) rfl))))) (fun _ h => h) rfl dX12_parse_110 ?_
          exact z_iret hx hb hr hK hS (Nat.le_of_ble_eq_true rfl) (Nat.le_of_ble_eq_true rfl) hlocks dX12_parse_113 (shM, ad, I36, J37, PM ad) hW ⟨I36, J37, rfl, ⟨(by show 0 ≤ (I36 0 31).toInt ∧ (I36 0 31).toInt ≤ 500; exact lp35mp.1), (by show 0 ≤ (I36 0 33).toInt ∧ (I36 0 33).toInt ≤ 500; exact lp35mp.2.1), (by show 0 ≤ (I36 0 34).toInt ∧ (I36 0 34).toInt ≤ 500; exact lp35mp.2.2.1), (by show 0 ≤ (I36 0 35).toInt ∧ (I36 0 35).toInt ≤ 500; exact lp35mp.2.2.2)⟩, ⟨(by show 0 ≤ (I36 0 36).toInt ∧ (I36 0 36).toInt ≤ 4; exact lp35mt.1), (by show 0 ≤ (I36 0 42).toInt ∧ (I36 0 42).toInt ≤ 1; exact lp35mt.2)⟩, ⟨(by show 0 ≤ (I36 0 47).toInt ∧ (I36 0 47).toInt ≤ 119; exact lp35md.1), (by show 0 ≤ (I36 0 39).toInt ∧ (I36 0 39).toInt ≤ 100; exact lp35md.2)⟩, (by show 0 ≤ (I36 0 40).toInt ∧ (I36 0 40).toInt ≤ 6199; exact lp35mg), (by show 0 ≤ (I36 0 15).toInt ∧ (I36 0 15).toInt ≤ 6100; exact lp35mn), lp35Nd, (by show 0 ≤ (I36 0 35).toInt ∧ (I36 0 35).toInt ≤ (I36 0 34).toInt ∧ (I36 0 34).toInt ≤ (I36 0 33).toInt ∧ (I36 0 33).toInt ≤ 500 ∧ ((I36 0 36).toInt = 0 ∨ (I36 0 35).toInt + 1 ≤ (I36 0 34).toInt); first | omega | decide), lp35fr, ⟨⟨by omega, by omega, (lp35m).elim (fun q => Or.inl q.1) (fun ⟨n, B, q, _, hb⟩ => Or.inr (by have := z_psn q; omega))⟩, (by obtain ⟨b, hR, hEs⟩ := lp35E; exact ⟨b, zm_E_hl hEs (by omega), hR, hEs, by omega⟩)⟩⟩
        · have g48 := z_f_eq rfl z_l0 c45
          obtain ⟨n9, B9, hP9, hf9, hb9⟩ := (lp35m).resolve_left (fun q => q.1 (by omega))
          have hN9 := z_psn hP9
          obtain ⟨σ9, hR9, hE9⟩ := lp35E
          obtain ⟨k9, w9, a9, x9, s9, S9, o9, g9, N9, rfl⟩ := zm_E_cases hE9 (by omega) (by omega)
          have hD9 := zm_E_D hE9
          rw [List.length_cons] at hD9
          have hF9 := zm_E_F hE9
          refine lv_aload_n hx hb dX12_parse_29 rfl (lv_at hl 0 rfl) ?_
          refine z_get (T := TX12) (N := 96) (ci := 12) (i := 0) (v := .int (I36 0 47)) hx hb hts zj_X12_parse_X12 hown hK hW rfl rfl 47 (by decide) (hts (.fieldLink RX12 340 "PetrolBoardModel" "deep" "I") (me_s (me_l (me_l (List.mem_of_getElem? (i := 0) rfl))))) (fun _ h => h) rfl dX12_parse_30 ?_
          refine lv_iconst (v := 1) hx hb dX12_parse_33 (by decide) ?_
          refine lv_isub hx hb dX12_parse_34 ?_
          refine lv_topi (fun x49 ex49 => ?_)
          have tx49 : x49.toInt = (I36 0 47).toInt - 1 := z_tsub ex49 rfl z_l1 (by omega) (by omega)
          refine lv_istore_n (lv' := [(2, .int x49), (0, .ref (ad 0)), (1, .int a1)]) hx hb dX12_parse_35 rfl hl (by decide) rfl (fun ls hl => ?_)
          refine lv_aload_n hx hb dX12_parse_36 rfl (lv_at hl 1 rfl) ?_
          refine z_get (T := TX12) (N := 96) (ci := 12) (i := 0) (v := .ref (ad 26)) hx hb hts zj_X12_parse_X12 hown hK hW rfl rfl 43 (by decide) (hts (.fieldLink RX12 91 "PetrolBoardModel" "what" "[I") (me_s (me_l (me_l (List.mem_of_getElem? (i := 3) rfl))))) (fun _ h => h) rfl dX12_parse_37 ?_
          refine lv_iload_n hx hb dX12_parse_40 rfl (lv_at hl 0 rfl) ?_
          refine z_iald (i := 26) hx hb hK hW rfl (z_ix rfl (by omega) (by omega)) dX12_parse_41 ?_
          refine lv_topi (fun x50 ex50 => ?_)
          have h51 := z_tw hP9 tx49 (by omega)
          rw [← ex50] at h51
          refine lv_istore_n (lv' := [(3, .int x50), (2, .int x49), (0, .ref (ad 0)), (1, .int a1)]) hx hb dX12_parse_42 rfl hl (by decide) rfl (fun ls hl => ?_)
          refine lv_iload_n hx hb dX12_parse_43 rfl (lv_at hl 0 rfl) ?_
          refine lv_iconst (v := 2) hx hb dX12_parse_44 (by decide) ?_
          refine lv_icmp_ge (tgt := 65) hx hb dX12_parse_45 (by decide) (fun c52 => ?_) (fun c52 => ?_)
          · have g53 := z_f_ge rfl z_l2 c52
            refine lv_iload_n hx hb dX12_parse_65 rfl (lv_at hl 0 rfl) ?_
            refine lv_iconst (v := 2) hx hb dX12_parse_66 (by decide) ?_
            refine lv_icmp_ne (tgt := 78) hx hb dX12_parse_67 (by decide) (fun c54 => ?_) (fun c54 => ?_)
            · have g55 := z_f_ne rfl z_l2 c54
              refine lv_iload_n hx hb dX12_parse_78 rfl (lv_at hl 0 rfl) ?_
              refine lv_iconst (v := 5) hx hb dX12_parse_79 (by decide) ?_
              refine lv_icmp_ge (tgt := 101) hx hb dX12_parse_80 (by decide) (fun c56 => ?_) (fun c56 => ?_)
              · have g57 := z_f_ge rfl z_l5 c56
                refine lv_aload_n hx hb dX12_parse_101 rfl (lv_at hl 2 rfl) ?_
                refine lv_iload_n hx hb dX12_parse_102 rfl (lv_at hl 1 rfl) ?_
                have hdk58 : x49.toNatClampNeg = S9.length := (by have := z_clt (x := x49) rfl (by omega); omega)
                have hw59 : w9 = 5 := (by have q9 : x50.toInt = w9 := (by rw [ex50, hdk58]; exact hF9.1); omega)
                subst hw59
                refine z_cv hW hS hA (va_runV (As := [.int x49]) (rest := []) ⟨hx, hb, hml, hown, hts⟩ (sx_X12_test_x l G ad I36 J37 ⟨(by show 0 ≤ (I36 0 31).toInt ∧ (I36 0 31).toInt ≤ 500; exact lp35mp.1), (by show 0 ≤ (I36 0 33).toInt ∧ (I36 0 33).toInt ≤ 500; exact lp35mp.2.1), (by show 0 ≤ (I36 0 34).toInt ∧ (I36 0 34).toInt ≤ 500; exact lp35mp.2.2.1), (by show 0 ≤ (I36 0 35).toInt ∧ (I36 0 35).toInt ≤ 500; exact lp35mp.2.2.2)⟩ ⟨(by show 0 ≤ (I36 0 36).toInt ∧ (I36 0 36).toInt ≤ 4; exact lp35mt.1), (by show 0 ≤ (I36 0 42).toInt ∧ (I36 0 42).toInt ≤ 1; exact lp35mt.2)⟩ ⟨(by show 0 ≤ (I36 0 47).toInt ∧ (I36 0 47).toInt ≤ 119; exact lp35md.1), (by show 0 ≤ (I36 0 39).toInt ∧ (I36 0 39).toInt ≤ 100; exact lp35md.2)⟩ (by show 0 ≤ (I36 0 40).toInt ∧ (I36 0 40).toInt ≤ 6199; exact lp35mg) (by show 0 ≤ (I36 0 15).toInt ∧ (I36 0 15).toInt ≤ 6100; exact lp35mn) lp35Nd (by show 0 ≤ (I36 0 35).toInt ∧ (I36 0 35).toInt ≤ (I36 0 34).toInt ∧ (I36 0 34).toInt ≤ (I36 0 33).toInt ∧ (I36 0 33).toInt ≤ 500 ∧ ((I36 0 36).toInt = 0 ∨ (I36 0 35).toInt + 1 ≤ (I36 0 34).toInt); first | omega | decide) B9 gt gv gp ge gh gm n0 gI k9 S9 a9 x9 s9 o9 g9 N9 x49 ⟨by omega, by omega⟩ (by rw [← ex50]; omega) (z_pst hP9 tx49 (by omega)) hE9 hdk58 hSM _) (cwV 1 hts gX12_parse_X12_test rfl rfl rfl (by decide +kernel) ⟨Nat.le_of_ble_eq_true rfl, Nat.le_of_ble_eq_true rfl⟩) (z_preV (i := 0) hK hW rfl rfl) rfl rfl hl.1 rfl (lv_room (Nat.le_of_ble_eq_true rfl)) dX12_parse_103 ⟨Nat.le_of_ble_eq_true rfl, Nat.le_of_ble_eq_true rfl⟩) (fun u1 H locs hp hW hS => ?_)
                obtain ⟨I60, J62, e9, hI60mp, hI60mt, hI60md, hI60mg, hI60mn, hI60Nd, hI60rp, fI60, hp⟩ := hp
                rw [e9] at hW
                have f61 := z_fr_sub (L := L_X12_parse_x) lp35fr fI60 (by decide)
                have k63 : 0 ≤ (I60 0 35).toInt ∧ (I60 0 35).toInt ≤ (I60 0 34).toInt ∧ (I60 0 34).toInt ≤ (I60 0 33).toInt ∧ (I60 0 33).toInt ≤ 500 ∧ ((I60 0 36).toInt = 0 ∨ (I60 0 35).toInt + 1 ≤ (I60 0 34).toInt) := hI60rp
                obtain ⟨hst, hEn9⟩ := hp
                refine lv_goto (tgt := 15) hx hb dX12_parse_106 (by decide) ?_
                exact lp35ih  I60 J62 _ _ _ (hst.elim (fun q => Or.inl ⟨q, by omega⟩) (fun ⟨n, q⟩ => Or.inr ⟨n, B9 - 1, q, by omega, by omega⟩)) ⟨(by show 0 ≤ (I60 0 31).toInt ∧ (I60 0 31).toInt ≤ 500; exact hI60mp.1), (by show 0 ≤ (I60 0 33).toInt ∧ (I60 0 33).toInt ≤ 500; exact hI60mp.2.1), (by show 0 ≤ (I60 0 34).toInt ∧ (I60 0 34).toInt ≤ 500; exact hI60mp.2.2.1), (by show 0 ≤ (I60 0 35).toInt ∧ (I60 0 35).toInt ≤ 500; exact hI60mp.2.2.2)⟩ ⟨(by show 0 ≤ (I60 0 36).toInt ∧ (I60 0 36).toInt ≤ 4; exact hI60mt.1), (by show 0 ≤ (I60 0 42).toInt ∧ (I60 0 42).toInt ≤ 1; exact hI60mt.2)⟩ ⟨(by show 0 ≤ (I60 0 47).toInt ∧ (I60 0 47).toInt ≤ 119; exact hI60md.1), (by show 0 ≤ (I60 0 39).toInt ∧ (I60 0 39).toInt ≤ 100; exact hI60md.2)⟩ (by show 0 ≤ (I60 0 40).toInt ∧ (I60 0 40).toInt ≤ 6199; exact hI60mg) (by show 0 ≤ (I60 0 15).toInt ∧ (I60 0 15).toInt ≤ 6100; exact hI60mn) hI60Nd (by show 0 ≤ (I60 0 35).toInt ∧ (I60 0 35).toInt ≤ (I60 0 34).toInt ∧ (I60 0 34).toInt ≤ (I60 0 33).toInt ∧ (I60 0 33).toInt ≤ 500 ∧ ((I60 0 36).toInt = 0 ∨ (I60 0 35).toInt + 1 ≤ (I60 0 34).toInt); first | omega | decide) ⟨_, zp_R.en hR9 rfl, hEn9⟩ f61 hW hS (lv_sub hl [2, 3] rfl)
              · have g64 := z_f_nge rfl z_l5 c56
                refine lv_aload_n hx hb dX12_parse_83 rfl (lv_at hl 2 rfl) ?_
                refine lv_iload_n hx hb dX12_parse_84 rfl (lv_at hl 1 rfl) ?_
                refine lv_iload_n hx hb dX12_parse_85 rfl (lv_at hl 0 rfl) ?_
                refine lv_iconst (v := 3) hx hb dX12_parse_86 (by decide) ?_
                refine lv_icmp_ne (tgt := 94) hx hb dX12_parse_87 (by decide) (fun c65 => ?_) (fun c65 => ?_)
                · have g66 := z_f_ne rfl z_l3 c65
                  refine lv_iconst (v := 0) hx hb dX12_parse_94 (by decide) ?_
                  have hdk67 : x49.toNatClampNeg = S9.length := (by have := z_clt (x := x49) rfl (by omega); omega)
                  have hw68 : w9 = 4 := (by have q9 : x50.toInt = w9 := (by rw [ex50, hdk67]; exact hF9.1); omega)
                  subst hw68
                  refine z_cv hW hS hA (va_runV (As := [.int x49, .int 0]) (rest := []) ⟨hx, hb, hml, hown, hts⟩ (sx_X12_chain_0_x l G ad I36 J37 ⟨(by show 0 ≤ (I36 0 31).toInt ∧ (I36 0 31).toInt ≤ 500; exact lp35mp.1), (by show 0 ≤ (I36 0 33).toInt ∧ (I36 0 33).toInt ≤ 500; exact lp35mp.2.1), (by show 0 ≤ (I36 0 34).toInt ∧ (I36 0 34).toInt ≤ 500; exact lp35mp.2.2.1), (by show 0 ≤ (I36 0 35).toInt ∧ (I36 0 35).toInt ≤ 500; exact lp35mp.2.2.2)⟩ ⟨(by show 0 ≤ (I36 0 36).toInt ∧ (I36 0 36).toInt ≤ 4; exact lp35mt.1), (by show 0 ≤ (I36 0 42).toInt ∧ (I36 0 42).toInt ≤ 1; exact lp35mt.2)⟩ ⟨(by show 0 ≤ (I36 0 47).toInt ∧ (I36 0 47).toInt ≤ 119; exact lp35md.1), (by show 0 ≤ (I36 0 39).toInt ∧ (I36 0 39).toInt ≤ 100; exact lp35md.2)⟩ (by show 0 ≤ (I36 0 40).toInt ∧ (I36 0 40).toInt ≤ 6199; exact lp35mg) (by show 0 ≤ (I36 0 15).toInt ∧ (I36 0 15).toInt ≤ 6100; exact lp35mn) lp35Nd (by show 0 ≤ (I36 0 35).toInt ∧ (I36 0 35).toInt ≤ (I36 0 34).toInt ∧ (I36 0 34).toInt ≤ (I36 0 33).toInt ∧ (I36 0 33).toInt ≤ 500 ∧ ((I36 0 36).toInt = 0 ∨ (I36 0 35).toInt + 1 ≤ (I36 0 34).toInt); first | omega | decide) B9 gt gv gp ge gh gm n0 gI k9 S9 a9 x9 s9 o9 g9 N9 x49 ⟨by omega, by omega⟩ (by rw [← ex50]; omega) (z_pst hP9 tx49 (by omega)) hE9 hdk67 hSM _) (cwV 2 hts gX12_parse_X12_chain rfl rfl rfl (by decide +kernel) ⟨Nat.le_of_ble_eq_true rfl, Nat.le_of_ble_eq_true rfl⟩) (z_preV (i := 0) hK hW rfl rfl) rfl rfl hl.1 rfl (lv_room (Nat.le_of_ble_eq_true rfl)) dX12_parse_95 ⟨Nat.le_of_ble_eq_true rfl, Nat.le_of_ble_eq_true rfl⟩) (fun u1 H locs hp hW hS => ?_)
                  obtain ⟨I69, J71, e9, hI69mp, hI69mt, hI69md, hI69mg, hI69mn, hI69Nd, hI69rp, fI69, hp⟩ := hp
                  rw [e9] at hW
                  have f70 := z_fr_sub (L := L_X12_parse_x) lp35fr fI69 (by decide)
                  have k72 : 0 ≤ (I69 0 35).toInt ∧ (I69 0 35).toInt ≤ (I69 0 34).toInt ∧ (I69 0 34).toInt ≤ (I69 0 33).toInt ∧ (I69 0 33).toInt ≤ 500 ∧ ((I69 0 36).toInt = 0 ∨ (I69 0 35).toInt + 1 ≤ (I69 0 34).toInt) := hI69rp
                  obtain ⟨hst, hEn9⟩ := hp
                  refine lv_goto (tgt := 106) hx hb dX12_parse_98 (by decide) ?_
                  refine lv_goto (tgt := 15) hx hb dX12_parse_106 (by decide) ?_
                  exact lp35ih  I69 J71 _ _ _ (hst.elim (fun q => Or.inl ⟨q, by omega⟩) (fun ⟨n, q⟩ => Or.inr ⟨n, B9 - 1, q, by omega, by omega⟩)) ⟨(by show 0 ≤ (I69 0 31).toInt ∧ (I69 0 31).toInt ≤ 500; exact hI69mp.1), (by show 0 ≤ (I69 0 33).toInt ∧ (I69 0 33).toInt ≤ 500; exact hI69mp.2.1), (by show 0 ≤ (I69 0 34).toInt ∧ (I69 0 34).toInt ≤ 500; exact hI69mp.2.2.1), (by show 0 ≤ (I69 0 35).toInt ∧ (I69 0 35).toInt ≤ 500; exact hI69mp.2.2.2)⟩ ⟨(by show 0 ≤ (I69 0 36).toInt ∧ (I69 0 36).toInt ≤ 4; exact hI69mt.1), (by show 0 ≤ (I69 0 42).toInt ∧ (I69 0 42).toInt ≤ 1; exact hI69mt.2)⟩ ⟨(by show 0 ≤ (I69 0 47).toInt ∧ (I69 0 47).toInt ≤ 119; exact hI69md.1), (by show 0 ≤ (I69 0 39).toInt ∧ (I69 0 39).toInt ≤ 100; exact hI69md.2)⟩ (by show 0 ≤ (I69 0 40).toInt ∧ (I69 0 40).toInt ≤ 6199; exact hI69mg) (by show 0 ≤ (I69 0 15).toInt ∧ (I69 0 15).toInt ≤ 6100; exact hI69mn) hI69Nd (by show 0 ≤ (I69 0 35).toInt ∧ (I69 0 35).toInt ≤ (I69 0 34).toInt ∧ (I69 0 34).toInt ≤ (I69 0 33).toInt ∧ (I69 0 33).toInt ≤ 500 ∧ ((I69 0 36).toInt = 0 ∨ (I69 0 35).toInt + 1 ≤ (I69 0 34).toInt); first | omega | decide) ⟨_, zp_R.en hR9 rfl, hEn9⟩ f70 hW hS (lv_sub hl [2, 3] rfl)
                · have g73 := z_f_eq rfl z_l3 c65
                  refine lv_iconst (v := 1) hx hb dX12_parse_90 (by decide) ?_
                  refine lv_goto (tgt := 95) hx hb dX12_parse_91 (by decide) ?_
                  have hdk74 : x49.toNatClampNeg = S9.length := (by have := z_clt (x := x49) rfl (by omega); omega)
                  have hw75 : w9 = 3 := (by have q9 : x50.toInt = w9 := (by rw [ex50, hdk74]; exact hF9.1); omega)
                  subst hw75
                  refine z_cv hW hS hA (va_runV (As := [.int x49, .int 1]) (rest := []) ⟨hx, hb, hml, hown, hts⟩ (sx_X12_chain_1_x l G ad I36 J37 ⟨(by show 0 ≤ (I36 0 31).toInt ∧ (I36 0 31).toInt ≤ 500; exact lp35mp.1), (by show 0 ≤ (I36 0 33).toInt ∧ (I36 0 33).toInt ≤ 500; exact lp35mp.2.1), (by show 0 ≤ (I36 0 34).toInt ∧ (I36 0 34).toInt ≤ 500; exact lp35mp.2.2.1), (by show 0 ≤ (I36 0 35).toInt ∧ (I36 0 35).toInt ≤ 500; exact lp35mp.2.2.2)⟩ ⟨(by show 0 ≤ (I36 0 36).toInt ∧ (I36 0 36).toInt ≤ 4; exact lp35mt.1), (by show 0 ≤ (I36 0 42).toInt ∧ (I36 0 42).toInt ≤ 1; exact lp35mt.2)⟩ ⟨(by show 0 ≤ (I36 0 47).toInt ∧ (I36 0 47).toInt ≤ 119; exact lp35md.1), (by show 0 ≤ (I36 0 39).toInt ∧ (I36 0 39).toInt ≤ 100; exact lp35md.2)⟩ (by show 0 ≤ (I36 0 40).toInt ∧ (I36 0 40).toInt ≤ 6199; exact lp35mg) (by show 0 ≤ (I36 0 15).toInt ∧ (I36 0 15).toInt ≤ 6100; exact lp35mn) lp35Nd (by show 0 ≤ (I36 0 35).toInt ∧ (I36 0 35).toInt ≤ (I36 0 34).toInt ∧ (I36 0 34).toInt ≤ (I36 0 33).toInt ∧ (I36 0 33).toInt ≤ 500 ∧ ((I36 0 36).toInt = 0 ∨ (I36 0 35).toInt + 1 ≤ (I36 0 34).toInt); first | omega | decide) B9 gt gv gp ge gh gm n0 gI k9 S9 a9 x9 s9 o9 g9 N9 x49 ⟨by omega, by omega⟩ (by rw [← ex50]; omega) (z_pst hP9 tx49 (by omega)) hE9 hdk74 hSM _) (cwV 2 hts gX12_parse_X12_chain rfl rfl rfl (by decide +kernel) ⟨Nat.le_of_ble_eq_true rfl, Nat.le_of_ble_eq_true rfl⟩) (z_preV (i := 0) hK hW rfl rfl) rfl rfl hl.1 rfl (lv_room (Nat.le_of_ble_eq_true rfl)) dX12_parse_95 ⟨Nat.le_of_ble_eq_true rfl, Nat.le_of_ble_eq_true rfl⟩) (fun u1 H locs hp hW hS => ?_)
                  obtain ⟨I76, J78, e9, hI76mp, hI76mt, hI76md, hI76mg, hI76mn, hI76Nd, hI76rp, fI76, hp⟩ := hp
                  rw [e9] at hW
                  have f77 := z_fr_sub (L := L_X12_parse_x) lp35fr fI76 (by decide)
                  have k79 : 0 ≤ (I76 0 35).toInt ∧ (I76 0 35).toInt ≤ (I76 0 34).toInt ∧ (I76 0 34).toInt ≤ (I76 0 33).toInt ∧ (I76 0 33).toInt ≤ 500 ∧ ((I76 0 36).toInt = 0 ∨ (I76 0 35).toInt + 1 ≤ (I76 0 34).toInt) := hI76rp
                  obtain ⟨hst, hEn9⟩ := hp
                  refine lv_goto (tgt := 106) hx hb dX12_parse_98 (by decide) ?_
                  refine lv_goto (tgt := 15) hx hb dX12_parse_106 (by decide) ?_
                  exact lp35ih  I76 J78 _ _ _ (hst.elim (fun q => Or.inl ⟨q, by omega⟩) (fun ⟨n, q⟩ => Or.inr ⟨n, B9 - 1, q, by omega, by omega⟩)) ⟨(by show 0 ≤ (I76 0 31).toInt ∧ (I76 0 31).toInt ≤ 500; exact hI76mp.1), (by show 0 ≤ (I76 0 33).toInt ∧ (I76 0 33).toInt ≤ 500; exact hI76mp.2.1), (by show 0 ≤ (I76 0 34).toInt ∧ (I76 0 34).toInt ≤ 500; exact hI76mp.2.2.1), (by show 0 ≤ (I76 0 35).toInt ∧ (I76 0 35).toInt ≤ 500; exact hI76mp.2.2.2)⟩ ⟨(by show 0 ≤ (I76 0 36).toInt ∧ (I76 0 36).toInt ≤ 4; exact hI76mt.1), (by show 0 ≤ (I76 0 42).toInt ∧ (I76 0 42).toInt ≤ 1; exact hI76mt.2)⟩ ⟨(by show 0 ≤ (I76 0 47).toInt ∧ (I76 0 47).toInt ≤ 119; exact hI76md.1), (by show 0 ≤ (I76 0 39).toInt ∧ (I76 0 39).toInt ≤ 100; exact hI76md.2)⟩ (by show 0 ≤ (I76 0 40).toInt ∧ (I76 0 40).toInt ≤ 6199; exact hI76mg) (by show 0 ≤ (I76 0 15).toInt ∧ (I76 0 15).toInt ≤ 6100; exact hI76mn) hI76Nd (by show 0 ≤ (I76 0 35).toInt ∧ (I76 0 35).toInt ≤ (I76 0 34).toInt ∧ (I76 0 34).toInt ≤ (I76 0 33).toInt ∧ (I76 0 33).toInt ≤ 500 ∧ ((I76 0 36).toInt = 0 ∨ (I76 0 35).toInt + 1 ≤ (I76 0 34).toInt); first | omega | decide) ⟨_, zp_R.en hR9 rfl, hEn9⟩ f77 hW hS (lv_sub hl [2, 3] rfl)
            · have g80 := z_f_eq rfl z_l2 c54
              refine lv_aload_n hx hb dX12_parse_70 rfl (lv_at hl 2 rfl) ?_
              refine lv_iload_n hx hb dX12_parse_71 rfl (lv_at hl 1 rfl) ?_
              have hdk81 : x49.toNatClampNeg = S9.length := (by have := z_clt (x := x49) rfl (by omega); omega)
              have hw82 : w9 = 2 := (by have q9 : x50.toInt = w9 := (by rw [ex50, hdk81]; exact hF9.1); omega)
              subst hw82
              refine z_cv hW hS hA (va_runV (As := [.int x49]) (rest := []) ⟨hx, hb, hml, hown, hts⟩ (sx_X12_atom_x l G ad I36 J37 ⟨(by show 0 ≤ (I36 0 31).toInt ∧ (I36 0 31).toInt ≤ 500; exact lp35mp.1), (by show 0 ≤ (I36 0 33).toInt ∧ (I36 0 33).toInt ≤ 500; exact lp35mp.2.1), (by show 0 ≤ (I36 0 34).toInt ∧ (I36 0 34).toInt ≤ 500; exact lp35mp.2.2.1), (by show 0 ≤ (I36 0 35).toInt ∧ (I36 0 35).toInt ≤ 500; exact lp35mp.2.2.2)⟩ ⟨(by show 0 ≤ (I36 0 36).toInt ∧ (I36 0 36).toInt ≤ 4; exact lp35mt.1), (by show 0 ≤ (I36 0 42).toInt ∧ (I36 0 42).toInt ≤ 1; exact lp35mt.2)⟩ ⟨(by show 0 ≤ (I36 0 47).toInt ∧ (I36 0 47).toInt ≤ 119; exact lp35md.1), (by show 0 ≤ (I36 0 39).toInt ∧ (I36 0 39).toInt ≤ 100; exact lp35md.2)⟩ (by show 0 ≤ (I36 0 40).toInt ∧ (I36 0 40).toInt ≤ 6199; exact lp35mg) (by show 0 ≤ (I36 0 15).toInt ∧ (I36 0 15).toInt ≤ 6100; exact lp35mn) lp35Nd (by show 0 ≤ (I36 0 35).toInt ∧ (I36 0 35).toInt ≤ (I36 0 34).toInt ∧ (I36 0 34).toInt ≤ (I36 0 33).toInt ∧ (I36 0 33).toInt ≤ 500 ∧ ((I36 0 36).toInt = 0 ∨ (I36 0 35).toInt + 1 ≤ (I36 0 34).toInt); first | omega | decide) B9 gt gv gp ge gh gm n0 gI k9 S9 a9 x9 s9 o9 g9 N9 x49 ⟨by omega, by omega⟩ (by rw [← ex50]; omega) (z_pst hP9 tx49 (by omega)) hE9 hdk81 hSM _) (cwV 1 hts gX12_parse_X12_atom rfl rfl rfl (by decide +kernel) ⟨Nat.le_of_ble_eq_true rfl, Nat.le_of_ble_eq_true rfl⟩) (z_preV (i := 0) hK hW rfl rfl) rfl rfl hl.1 rfl (lv_room (Nat.le_of_ble_eq_true rfl)) dX12_parse_72 ⟨Nat.le_of_ble_eq_true rfl, Nat.le_of_ble_eq_true rfl⟩) (fun u1 H locs hp hW hS => ?_)
              obtain ⟨I83, J85, e9, hI83mp, hI83mt, hI83md, hI83mg, hI83mn, hI83Nd, hI83rp, fI83, hp⟩ := hp
              rw [e9] at hW
              have f84 := z_fr_sub (L := L_X12_parse_x) lp35fr fI83 (by decide)
              have k86 : 0 ≤ (I83 0 35).toInt ∧ (I83 0 35).toInt ≤ (I83 0 34).toInt ∧ (I83 0 34).toInt ≤ (I83 0 33).toInt ∧ (I83 0 33).toInt ≤ 500 ∧ ((I83 0 36).toInt = 0 ∨ (I83 0 35).toInt + 1 ≤ (I83 0 34).toInt) := hI83rp
              obtain ⟨hst, hEn9⟩ := hp
              refine lv_goto (tgt := 106) hx hb dX12_parse_75 (by decide) ?_
              refine lv_goto (tgt := 15) hx hb dX12_parse_106 (by decide) ?_
              exact lp35ih  I83 J85 _ _ _ (hst.elim (fun q => Or.inl ⟨q, by omega⟩) (fun ⟨n, q⟩ => Or.inr ⟨n, B9 - 1, q, by omega, by omega⟩)) ⟨(by show 0 ≤ (I83 0 31).toInt ∧ (I83 0 31).toInt ≤ 500; exact hI83mp.1), (by show 0 ≤ (I83 0 33).toInt ∧ (I83 0 33).toInt ≤ 500; exact hI83mp.2.1), (by show 0 ≤ (I83 0 34).toInt ∧ (I83 0 34).toInt ≤ 500; exact hI83mp.2.2.1), (by show 0 ≤ (I83 0 35).toInt ∧ (I83 0 35).toInt ≤ 500; exact hI83mp.2.2.2)⟩ ⟨(by show 0 ≤ (I83 0 36).toInt ∧ (I83 0 36).toInt ≤ 4; exact hI83mt.1), (by show 0 ≤ (I83 0 42).toInt ∧ (I83 0 42).toInt ≤ 1; exact hI83mt.2)⟩ ⟨(by show 0 ≤ (I83 0 47).toInt ∧ (I83 0 47).toInt ≤ 119; exact hI83md.1), (by show 0 ≤ (I83 0 39).toInt ∧ (I83 0 39).toInt ≤ 100; exact hI83md.2)⟩ (by show 0 ≤ (I83 0 40).toInt ∧ (I83 0 40).toInt ≤ 6199; exact hI83mg) (by show 0 ≤ (I83 0 15).toInt ∧ (I83 0 15).toInt ≤ 6100; exact hI83mn) hI83Nd (by show 0 ≤ (I83 0 35).toInt ∧ (I83 0 35).toInt ≤ (I83 0 34).toInt ∧ (I83 0 34).toInt ≤ (I83 0 33).toInt ∧ (I83 0 33).toInt ≤ 500 ∧ ((I83 0 36).toInt = 0 ∨ (I83 0 35).toInt + 1 ≤ (I83 0 34).toInt); first | omega | decide) ⟨_, zp_R.en hR9 rfl, hEn9⟩ f84 hW hS (lv_sub hl [2, 3] rfl)
          · have g87 := z_f_nge rfl z_l2 c52
            refine lv_aload_n hx hb dX12_parse_48 rfl (lv_at hl 2 rfl) ?_
            refine lv_iload_n hx hb dX12_parse_49 rfl (lv_at hl 1 rfl) ?_
            refine lv_iload_n hx hb dX12_parse_50 rfl (lv_at hl 0 rfl) ?_
            refine lv_if_ne (tgt := 58) hx hb dX12_parse_51 (by decide) (fun c88 => ?_) (fun c88 => ?_)
            · have g89 := z_f_ne rfl z_l0 c88
              refine lv_iconst (v := 0) hx hb dX12_parse_58 (by decide) ?_
              have hdk90 : x49.toNatClampNeg = S9.length := (by have := z_clt (x := x49) rfl (by omega); omega)
              have hw91 : w9 = 1 := (by have q9 : x50.toInt = w9 := (by rw [ex50, hdk90]; exact hF9.1); omega)
              subst hw91
              refine z_cv hW hS hA (va_runV (As := [.int x49, .int 0]) (rest := []) ⟨hx, hb, hml, hown, hts⟩ (sx_X12_sums_0_x l G ad I36 J37 ⟨(by show 0 ≤ (I36 0 31).toInt ∧ (I36 0 31).toInt ≤ 500; exact lp35mp.1), (by show 0 ≤ (I36 0 33).toInt ∧ (I36 0 33).toInt ≤ 500; exact lp35mp.2.1), (by show 0 ≤ (I36 0 34).toInt ∧ (I36 0 34).toInt ≤ 500; exact lp35mp.2.2.1), (by show 0 ≤ (I36 0 35).toInt ∧ (I36 0 35).toInt ≤ 500; exact lp35mp.2.2.2)⟩ ⟨(by show 0 ≤ (I36 0 36).toInt ∧ (I36 0 36).toInt ≤ 4; exact lp35mt.1), (by show 0 ≤ (I36 0 42).toInt ∧ (I36 0 42).toInt ≤ 1; exact lp35mt.2)⟩ ⟨(by show 0 ≤ (I36 0 47).toInt ∧ (I36 0 47).toInt ≤ 119; exact lp35md.1), (by show 0 ≤ (I36 0 39).toInt ∧ (I36 0 39).toInt ≤ 100; exact lp35md.2)⟩ (by show 0 ≤ (I36 0 40).toInt ∧ (I36 0 40).toInt ≤ 6199; exact lp35mg) (by show 0 ≤ (I36 0 15).toInt ∧ (I36 0 15).toInt ≤ 6100; exact lp35mn) lp35Nd (by show 0 ≤ (I36 0 35).toInt ∧ (I36 0 35).toInt ≤ (I36 0 34).toInt ∧ (I36 0 34).toInt ≤ (I36 0 33).toInt ∧ (I36 0 33).toInt ≤ 500 ∧ ((I36 0 36).toInt = 0 ∨ (I36 0 35).toInt + 1 ≤ (I36 0 34).toInt); first | omega | decide) B9 gt gv gp ge gh gm n0 gI k9 S9 a9 x9 s9 o9 g9 N9 x49 ⟨by omega, by omega⟩ (by rw [← ex50]; omega) (z_pst hP9 tx49 (by omega)) hE9 hdk90 hSM _) (cwV 2 hts gX12_parse_X12_sums rfl rfl rfl (by decide +kernel) ⟨Nat.le_of_ble_eq_true rfl, Nat.le_of_ble_eq_true rfl⟩) (z_preV (i := 0) hK hW rfl rfl) rfl rfl hl.1 rfl (lv_room (Nat.le_of_ble_eq_true rfl)) dX12_parse_59 ⟨Nat.le_of_ble_eq_true rfl, Nat.le_of_ble_eq_true rfl⟩) (fun u1 H locs hp hW hS => ?_)
              obtain ⟨I92, J94, e9, hI92mp, hI92mt, hI92md, hI92mg, hI92mn, hI92Nd, hI92rp, fI92, hp⟩ := hp
              rw [e9] at hW
              have f93 := z_fr_sub (L := L_X12_parse_x) lp35fr fI92 (by decide)
              have k95 : 0 ≤ (I92 0 35).toInt ∧ (I92 0 35).toInt ≤ (I92 0 34).toInt ∧ (I92 0 34).toInt ≤ (I92 0 33).toInt ∧ (I92 0 33).toInt ≤ 500 ∧ ((I92 0 36).toInt = 0 ∨ (I92 0 35).toInt + 1 ≤ (I92 0 34).toInt) := hI92rp
              obtain ⟨hst, hEn9⟩ := hp
              refine lv_goto (tgt := 106) hx hb dX12_parse_62 (by decide) ?_
              refine lv_goto (tgt := 15) hx hb dX12_parse_106 (by decide) ?_
              exact lp35ih  I92 J94 _ _ _ (hst.elim (fun q => Or.inl ⟨q, by omega⟩) (fun ⟨n, q⟩ => Or.inr ⟨n, B9 - 1, q, by omega, by omega⟩)) ⟨(by show 0 ≤ (I92 0 31).toInt ∧ (I92 0 31).toInt ≤ 500; exact hI92mp.1), (by show 0 ≤ (I92 0 33).toInt ∧ (I92 0 33).toInt ≤ 500; exact hI92mp.2.1), (by show 0 ≤ (I92 0 34).toInt ∧ (I92 0 34).toInt ≤ 500; exact hI92mp.2.2.1), (by show 0 ≤ (I92 0 35).toInt ∧ (I92 0 35).toInt ≤ 500; exact hI92mp.2.2.2)⟩ ⟨(by show 0 ≤ (I92 0 36).toInt ∧ (I92 0 36).toInt ≤ 4; exact hI92mt.1), (by show 0 ≤ (I92 0 42).toInt ∧ (I92 0 42).toInt ≤ 1; exact hI92mt.2)⟩ ⟨(by show 0 ≤ (I92 0 47).toInt ∧ (I92 0 47).toInt ≤ 119; exact hI92md.1), (by show 0 ≤ (I92 0 39).toInt ∧ (I92 0 39).toInt ≤ 100; exact hI92md.2)⟩ (by show 0 ≤ (I92 0 40).toInt ∧ (I92 0 40).toInt ≤ 6199; exact hI92mg) (by show 0 ≤ (I92 0 15).toInt ∧ (I92 0 15).toInt ≤ 6100; exact hI92mn) hI92Nd (by show 0 ≤ (I92 0 35).toInt ∧ (I92 0 35).toInt ≤ (I92 0 34).toInt ∧ (I92 0 34).toInt ≤ (I92 0 33).toInt ∧ (I92 0 33).toInt ≤ 500 ∧ ((I92 0 36).toInt = 0 ∨ (I92 0 35).toInt + 1 ≤ (I92 0 34).toInt); first | omega | decide) ⟨_, zp_R.en hR9 rfl, hEn9⟩ f93 hW hS (lv_sub hl [2, 3] rfl)
            · have g96 := z_f_eq rfl z_l0 c88
              refine lv_iconst (v := 1) hx hb dX12_parse_54 (by decide) ?_
              refine lv_goto (tgt := 59) hx hb dX12_parse_55 (by decide) ?_
              have hdk97 : x49.toNatClampNeg = S9.length := (by have := z_clt (x := x49) rfl (by omega); omega)
              have hw98 : w9 = 0 := (by have q9 : x50.toInt = w9 := (by rw [ex50, hdk97]; exact hF9.1); omega)
              subst hw98
              refine z_cv hW hS hA (va_runV (As := [.int x49, .int 1]) (rest := []) ⟨hx, hb, hml, hown, hts⟩ (sx_X12_sums_1_x l G ad I36 J37 ⟨(by show 0 ≤ (I36 0 31).toInt ∧ (I36 0 31).toInt ≤ 500; exact lp35mp.1), (by show 0 ≤ (I36 0 33).toInt ∧ (I36 0 33).toInt ≤ 500; exact lp35mp.2.1), (by show 0 ≤ (I36 0 34).toInt ∧ (I36 0 34).toInt ≤ 500; exact lp35mp.2.2.1), (by show 0 ≤ (I36 0 35).toInt ∧ (I36 0 35).toInt ≤ 500; exact lp35mp.2.2.2)⟩ ⟨(by show 0 ≤ (I36 0 36).toInt ∧ (I36 0 36).toInt ≤ 4; exact lp35mt.1), (by show 0 ≤ (I36 0 42).toInt ∧ (I36 0 42).toInt ≤ 1; exact lp35mt.2)⟩ ⟨(by show 0 ≤ (I36 0 47).toInt ∧ (I36 0 47).toInt ≤ 119; exact lp35md.1), (by show 0 ≤ (I36 0 39).toInt ∧ (I36 0 39).toInt ≤ 100; exact lp35md.2)⟩ (by show 0 ≤ (I36 0 40).toInt ∧ (I36 0 40).toInt ≤ 6199; exact lp35mg) (by show 0 ≤ (I36 0 15).toInt ∧ (I36 0 15).toInt ≤ 6100; exact lp35mn) lp35Nd (by show 0 ≤ (I36 0 35).toInt ∧ (I36 0 35).toInt ≤ (I36 0 34).toInt ∧ (I36 0 34).toInt ≤ (I36 0 33).toInt ∧ (I36 0 33).toInt ≤ 500 ∧ ((I36 0 36).toInt = 0 ∨ (I36 0 35).toInt + 1 ≤ (I36 0 34).toInt); first | omega | decide) B9 gt gv gp ge gh gm n0 gI k9 S9 a9 x9 s9 o9 g9 N9 x49 ⟨by omega, by omega⟩ (by rw [← ex50]; omega) (z_pst hP9 tx49 (by omega)) hE9 hdk97 hSM _) (cwV 2 hts gX12_parse_X12_sums rfl rfl rfl (by decide +kernel) ⟨Nat.le_of_ble_eq_true rfl, Nat.le_of_ble_eq_true rfl⟩) (z_preV (i := 0) hK hW rfl rfl) rfl rfl hl.1 rfl (lv_room (Nat.le_of_ble_eq_true rfl)) dX12_parse_59 ⟨Nat.le_of_ble_eq_true rfl, Nat.le_of_ble_eq_true rfl⟩) (fun u1 H locs hp hW hS => ?_)
              obtain ⟨I99, J101, e9, hI99mp, hI99mt, hI99md, hI99mg, hI99mn, hI99Nd, hI99rp, fI99, hp⟩ := hp
              rw [e9] at hW
              have f100 := z_fr_sub (L := L_X12_parse_x) lp35fr fI99 (by decide)
              have k102 : 0 ≤ (I99 0 35).toInt ∧ (I99 0 35).toInt ≤ (I99 0 34).toInt ∧ (I99 0 34).toInt ≤ (I99 0 33).toInt ∧ (I99 0 33).toInt ≤ 500 ∧ ((I99 0 36).toInt = 0 ∨ (I99 0 35).toInt + 1 ≤ (I99 0 34).toInt) := hI99rp
              obtain ⟨hst, hEn9⟩ := hp
              refine lv_goto (tgt := 106) hx hb dX12_parse_62 (by decide) ?_
              refine lv_goto (tgt := 15) hx hb dX12_parse_106 (by decide) ?_
              exact lp35ih  I99 J101 _ _ _ (hst.elim (fun q => Or.inl ⟨q, by omega⟩) (fun ⟨n, q⟩ => Or.inr ⟨n, B9 - 1, q, by omega, by omega⟩)) ⟨(by show 0 ≤ (I99 0 31).toInt ∧ (I99 0 31).toInt ≤ 500; exact hI99mp.1), (by show 0 ≤ (I99 0 33).toInt ∧ (I99 0 33).toInt ≤ 500; exact hI99mp.2.1), (by show 0 ≤ (I99 0 34).toInt ∧ (I99 0 34).toInt ≤ 500; exact hI99mp.2.2.1), (by show 0 ≤ (I99 0 35).toInt ∧ (I99 0 35).toInt ≤ 500; exact hI99mp.2.2.2)⟩ ⟨(by show 0 ≤ (I99 0 36).toInt ∧ (I99 0 36).toInt ≤ 4; exact hI99mt.1), (by show 0 ≤ (I99 0 42).toInt ∧ (I99 0 42).toInt ≤ 1; exact hI99mt.2)⟩ ⟨(by show 0 ≤ (I99 0 47).toInt ∧ (I99 0 47).toInt ≤ 119; exact hI99md.1), (by show 0 ≤ (I99 0 39).toInt ∧ (I99 0 39).toInt ≤ 100; exact hI99md.2)⟩ (by show 0 ≤ (I99 0 40).toInt ∧ (I99 0 40).toInt ≤ 6199; exact hI99mg) (by show 0 ≤ (I99 0 15).toInt ∧ (I99 0 15).toInt ≤ 6100; exact hI99mn) hI99Nd (by show 0 ≤ (I99 0 35).toInt ∧ (I99 0 35).toInt ≤ (I99 0 34).toInt ∧ (I99 0 34).toInt ≤ (I99 0 33).toInt ∧ (I99 0 33).toInt ≤ 500 ∧ ((I99 0 36).toInt = 0 ∨ (I99 0 35).toInt + 1 ≤ (I99 0 34).toInt); first | omega | decide) ⟨_, zp_R.en hR9 rfl, hEn9⟩ f100 hW hS (lv_sub hl [2, 3] rfl)
  exact lp35 (1010 * (500 - (I 0 35).toInt) + 1000 * (I 0 15).toInt + 12).toNat  I10 J12 _ _ _ (Or.inr ⟨1, 1010 * (500 - (I 0 35).toInt) + 1000 * (I 0 15).toInt + 10, z_START h31 (wi := a1.toInt) rfl ⟨by omega, by omega⟩ (by show (I4 0 47).toInt = 0; have q9 : (I4 0 47) = 0 := (by rw [eI4, z_up_k (by decide), eI1, z_up_s]); rw [q9]; first | omega | decide) (by omega) (by omega) (by omega) (by omega) (by omega), by omega, Int.le_refl _⟩) ⟨(by show 0 ≤ (I10 0 31).toInt ∧ (I10 0 31).toInt ≤ 500; exact k13), (by show 0 ≤ (I10 0 33).toInt ∧ (I10 0 33).toInt ≤ 500; exact k14), (by show 0 ≤ (I10 0 34).toInt ∧ (I10 0 34).toInt ≤ 500; exact k15), (by show 0 ≤ (I10 0 35).toInt ∧ (I10 0 35).toInt ≤ 500; exact k16)⟩ ⟨(by show 0 ≤ (I10 0 36).toInt ∧ (I10 0 36).toInt ≤ 4; exact k17), (by show 0 ≤ (I10 0 42).toInt ∧ (I10 0 42).toInt ≤ 1; exact k18)⟩ ⟨(by show 0 ≤ (I10 0 47).toInt ∧ (I10 0 47).toInt ≤ 119; exact hI10md.1), (by show 0 ≤ (I10 0 39).toInt ∧ (I10 0 39).toInt ≤ 100; exact hI10md.2)⟩ (by show 0 ≤ (I10 0 40).toInt ∧ (I10 0 40).toInt ≤ 6199; exact k20) (by show 0 ≤ (I10 0 15).toInt ∧ (I10 0 15).toInt ≤ 6100; exact k21) (z_Nd_fr a6 fI10 (by decide)) (by show 0 ≤ (I10 0 35).toInt ∧ (I10 0 35).toInt ≤ (I10 0 34).toInt ∧ (I10 0 34).toInt ≤ (I10 0 33).toInt ∧ (I10 0 33).toInt ≤ 500 ∧ ((I10 0 36).toInt = 0 ∨ (I10 0 35).toInt + 1 ≤ (I10 0 34).toInt); first | omega | decide) ⟨_, zp_R.rf, hE32⟩ f11 hW hS (lv_sub hl [0, 1] rfl)
