

set_option maxHeartbeats 8000000 in
set_option maxRecDepth 100000 in
theorem sx_X11_within_e (l : Launch) (G : z_G) (ad : Nat → Nat) (c : z_C) (I : z_I) (a1 : Int32) (a2 : Int32) (a3 : Int32) : z_M l yX11_within wsX11_within { frames := 1, cells := 0, slots := 0, locals := 12 } [.int a1, .int a2, .int a3] G (shC c, ad, I, JX, PC c ad) (fun r u1 => u1 = (shC c, ad, I, JX, PC c ad) ∧ ((r = 1 ∧ a2.toInt ≤ a1.toInt ∧ a1.toInt ≤ a3.toInt) ∨ (r = 0 ∧ ¬ (a2.toInt ≤ a1.toInt ∧ a1.toInt ≤ a3.toInt)))) 0 0 := by
  intro sz
  refine z_headQ (cc := cX11_within) (maxL := 3) (ret := (some .boolean)) (by decide) rfl (Nat.le_of_ble_eq_true rfl) ?_
  intro p e s m below meth c0 ls hIn hK hsz hW hl
  obtain ⟨hx, hb, hr, hml, hown, hts, hlocks, hname⟩ := hIn
  subst hsz
  have hown : s.vm.findClass RX11 = some m.cls := hown
  have hA : ∀ q : Nat, s.heap.size ≤ q → z_A (shC c, ad, I, JX, PC c ad) s.heap.size q := fun q h => Or.inr h
  generalize hAe : z_A (shC c, ad, I, JX, PC c ad) s.heap.size = A at *
  have hS : va_S A s.heap s.heap [] := va_S.rf
  have hl : lv_has ls 3 [(0, .int a1), (1, .int a2), (2, .int a3)] := hl
  refine lv_iload_n hx hb dX11_within_0 rfl (lv_at hl 0 rfl) ?_
  refine lv_iload_n hx hb dX11_within_1 rfl (lv_at hl 1 rfl) ?_
  refine lv_icmp_lt (tgt := 14) hx hb dX11_within_2 (by decide) (fun c1 => ?_) (fun c1 => ?_)
  · have g2 := z_f_lt rfl rfl c1
    have b3 := Int32.toInt_lt a1
    have b4 := Int32.toInt_lt a2
    refine lv_iconst (v := 0) hx hb dX11_within_14 (by decide) ?_
    exact z_zret hx hb hr (by decide) hK hS (Nat.le_of_ble_eq_true rfl) (Nat.le_of_ble_eq_true rfl) hlocks dX11_within_15 (shC c, ad, I, JX, PC c ad) hW ⟨rfl, (Or.inr ⟨rfl, by omega⟩)⟩
  · have g5 := z_f_nlt rfl rfl c1
    have b6 := Int32.toInt_lt a1
    have b7 := Int32.toInt_lt a2
    refine lv_iload_n hx hb dX11_within_5 rfl (lv_at hl 0 rfl) ?_
    refine lv_iload_n hx hb dX11_within_6 rfl (lv_at hl 2 rfl) ?_
    refine lv_icmp_gt (tgt := 14) hx hb dX11_within_7 (by decide) (fun c8 => ?_) (fun c8 => ?_)
    · have g9 := z_f_gt rfl rfl c8
      have b10 := Int32.toInt_lt a3
      refine lv_iconst (v := 0) hx hb dX11_within_14 (by decide) ?_
      exact z_zret hx hb hr (by decide) hK hS (Nat.le_of_ble_eq_true rfl) (Nat.le_of_ble_eq_true rfl) hlocks dX11_within_15 (shC c, ad, I, JX, PC c ad) hW ⟨rfl, (Or.inr ⟨rfl, by omega⟩)⟩
    · have g11 := z_f_ngt rfl rfl c8
      have b12 := Int32.toInt_lt a3
      refine lv_iconst (v := 1) hx hb dX11_within_10 (by decide) ?_
      refine lv_goto (tgt := 15) hx hb dX11_within_11 (by decide) ?_
      exact z_zret hx hb hr (by decide) hK hS (Nat.le_of_ble_eq_true rfl) (Nat.le_of_ble_eq_true rfl) hlocks dX11_within_15 (shC c, ad, I, JX, PC c ad) hW ⟨rfl, (Or.inl ⟨rfl, by omega⟩)⟩