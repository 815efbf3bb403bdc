

/-! which CLASS the NOTES tell: both sides' ways, as functions of the rows -/
theorem z_wr_d {L : z_L} {c k : Nat} (hc : c < 100) (hL : L.all (fun e => e.1 != c) = true) : z_wr L c k = false := by
  cases hq : z_wr L c k with
  | false => rfl
  | true =>
    exfalso
    unfold z_wr at hq
    rw [List.any_eq_true] at hq
    obtain ⟨e, he, h2⟩ := hq
    rw [List.all_eq_true] at hL
    have h3 := hL e he
    simp only [z_ce, Bool.and_eq_true, Bool.or_eq_true, beq_iff_eq, decide_eq_true_eq, bne_iff_ne, ne_eq] at h2 h3
    omega
theorem z_up_j {α : Type} {f : Nat → Nat → α} {c k j : Nat} {v : α} : z_up f c k v c j = if j = k then v else f c j := by simp [z_up]