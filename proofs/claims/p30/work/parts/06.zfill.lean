theorem dJ7_fill_53178_0 : decode cJ7_fill_53178 0 = .ok (.iconst 0, 1) := z_dd_3 (by decide +kernel)
theorem dJ7_fill_53178_1 : decode cJ7_fill_53178 1 = .ok (.istore_n 2, 1) := z_dd_61 (by decide +kernel)
theorem dJ7_fill_53178_2 : decode cJ7_fill_53178 2 = .ok (.aload_n 0, 1) := z_dd_42 (by decide +kernel)
theorem dJ7_fill_53178_3 : decode cJ7_fill_53178 3 = .ok (.arraylength, 1) := z_dd_190 (by decide +kernel)
theorem dJ7_fill_53178_4 : decode cJ7_fill_53178 4 = .ok (.istore_n 3, 1) := z_dd_62 (by decide +kernel)
theorem dJ7_fill_53178_5 : decode cJ7_fill_53178 5 = .ok (.iload_n 2, 1) := z_dd_28 (by decide +kernel)
theorem dJ7_fill_53178_6 : decode cJ7_fill_53178 6 = .ok (.iload_n 3, 1) := z_dd_29 (by decide +kernel)
theorem dJ7_fill_53178_7 : decode cJ7_fill_53178 7 = .ok (.if_icmp .ge 13, 3) := z_dd_162 (by decide +kernel)
theorem dJ7_fill_53178_20 : decode cJ7_fill_53178 20 = .ok (.return_, 1) := z_dd_177 (by decide +kernel)
theorem dJ7_fill_53178_10 : decode cJ7_fill_53178 10 = .ok (.aload_n 0, 1) := z_dd_42 (by decide +kernel)
theorem dJ7_fill_53178_11 : decode cJ7_fill_53178 11 = .ok (.iload_n 2, 1) := z_dd_28 (by decide +kernel)
theorem dJ7_fill_53178_12 : decode cJ7_fill_53178 12 = .ok (.iload_n 1, 1) := z_dd_27 (by decide +kernel)
theorem dJ7_fill_53178_13 : decode cJ7_fill_53178 13 = .ok (.iastore, 1) := z_dd_79 (by decide +kernel)
theorem dJ7_fill_53178_14 : decode cJ7_fill_53178 14 = .ok (.iinc 2 1, 3) := z_dd_132 (by decide +kernel)
theorem dJ7_fill_53178_17 : decode cJ7_fill_53178 17 = .ok (.goto (-12), 3) := z_dd_167 (by decide +kernel)
/-! java.util.Arrays.fill(int[], int) -/
noncomputable def z_fiN (I : z_I) (i : Nat) (v : Int32) (n : Nat) : z_I := fun a b => if a = i then (if b < n then v else I a b) else I a b
theorem z_fiN_s (I : z_I) (i : Nat) (v : Int32) (n : Nat) : z_up (z_fiN I i v n) i n v = z_fiN I i v (n + 1) := by
  funext a b
  by_cases h : a = i
  · by_cases h2 : b = n
    · simp [z_up, z_fiN, h, h2]
    · by_cases h3 : b < n
      · simp [z_up, z_fiN, h, h2, h3, Nat.lt_succ_of_lt h3]
      · have h4 : ¬ b < n + 1 := by omega
        simp [z_up, z_fiN, h, h2, h3, h4]
  · simp [z_up, z_fiN, h]
theorem z_fiN_0 (I : z_I) (i : Nat) (v : Int32) : z_fiN I i v 0 = I := by
  funext a b
  simp [z_fiN]
set_option maxHeartbeats 4000000 in
set_option maxRecDepth 100000 in
theorem ct_fill (l : Launch) (G : z_G) {sh : Nat → Option z_S} {ad : Nat → Nat} {I : z_I} {J : z_J} {P : z_P} (i n : Nat) (v : Int32) (hi : sh i = some (.inl (.int, n))) (hn : n < 2 ^ 31) (sz : Nat) : z_Mc l yJ7_fill_53178 wsJ7_fill_53178 { frames := 1, cells := 0, slots := 0, locals := 12 } [.ref (ad i), .int v] G (sh, ad, I, J, P) (sh, ad, z_fi I i v, J, P) 0 0 0 sz := by
  refine z_headQ (cc := cJ7_fill_53178) (maxL := 4) (ret := none) (by decide) rfl (Nat.le_of_ble_eq_true rfl) ?_
  intro p e s m below meth c ls hIn hK hsz hW hl
  obtain ⟨hx, hb, hr, hml, hown, hts, hlocks, hname⟩ := hIn
  subst hsz
  generalize hAe : z_A (sh, ad, I, J, P) s.heap.size = A at *
  have hS : va_S A s.heap s.heap [] := va_S.rf
  have hl : lv_has ls 4 [(0, .ref (ad i)), (1, .int v)] := hl
  refine lv_iconst (v := 0) hx hb dJ7_fill_53178_0 (by decide) ?_
  refine lv_istore_n (lv' := [(2, .int 0), (0, .ref (ad i)), (1, .int v)]) hx hb dJ7_fill_53178_1 rfl hl (by decide) rfl (fun ls hl => ?_)
  refine lv_aload_n hx hb dJ7_fill_53178_2 rfl (lv_at hl 1 rfl) ?_
  refine z_alen (i := i) (v := nI n) hx hb hK hW hi (by simp [z_tys]) rfl dJ7_fill_53178_3 ?_
  refine lv_istore_n (lv' := [(3, .int (nI n)), (2, .int 0), (0, .ref (ad i)), (1, .int v)]) hx hb dJ7_fill_53178_4 rfl hl (by decide) rfl (fun ls hl => ?_)
  have loop : ∀ (f j : Nat) (H : Heap) (locs : List Loc) (ls : Array Slot), j ≤ n → n < j + f → H.size = s.heap.size + 0 → z_W G A (sh, ad, z_fiN I i v j, J, P) H → va_S A s.heap H locs → lv_has ls 4 [(2, .int (nI j)), (3, .int (nI n)), (0, .ref (ad i)), (1, .int v)] →
      W p l e (headSpec wsJ7_fill_53178 { frames := 1, cells := 0, slots := 0, locals := 12 }).room s m ([Value.ref (ad i), .int v] : List Value).toArray below meth c H locs 0 0 (MQ below (va_Qv (fun u2 : z_U => u2 = (sh, ad, z_fi I i v, J, P)) (fun u2 t => z_B G A u2 t ∧ t.heap.size = s.heap.size + 0) A) ([Value.ref (ad i), .int v] : List Value).toArray s 0 0 A) (F0 m 5 ls []) := by
    intro f
    induction f with
    | zero => intro j H locs ls h1 h2; exact absurd h2 (by omega)
    | succ f ih =>
      intro j H locs ls h1 h2 hz hW hS hl
      refine lv_iload_n hx hb dJ7_fill_53178_5 rfl (lv_at hl 0 rfl) ?_
      refine lv_iload_n hx hb dJ7_fill_53178_6 rfl (lv_at hl 1 rfl) ?_
      refine lv_icmp_ge (tgt := 20) hx hb dJ7_fill_53178_7 (by decide) (fun c1 => ?_) (fun c1 => ?_)
      · have hj : j = n := by
          rcases Nat.lt_or_ge j n with q | q
          · exact absurd c1 (nI_ge q hn)
          · omega
        subst hj
        refine z_cret hx hb hr hK hS (Nat.le_refl _) (Nat.le_refl _) hlocks dJ7_fill_53178_20 hz (hW.like i j .int hi (fun a h b => by simp [z_fiN, z_fi, h]) (fun b h => by simp [z_fiN, z_fi, h]))
      · have hj : j < n := by
          rcases Nat.lt_or_ge j n with q | q
          · exact q
          · exact absurd (by rw [show j = n by omega]; exact nI_le (Nat.le_refl n) hn) c1
        refine lv_aload_n hx hb dJ7_fill_53178_10 rfl (lv_at hl 2 rfl) ?_
        refine lv_iload_n hx hb dJ7_fill_53178_11 rfl (lv_at hl 0 rfl) ?_
        refine lv_iload_n hx hb dJ7_fill_53178_12 rfl (lv_at hl 3 rfl) ?_
        refine z_iast (i := i) hx hb hK hW hS hi (vp_in_nI hj hn) dJ7_fill_53178_13 (fun H locs hz1 hW hS => ?_)
        rw [nI_clamp (by omega), z_fiN_s] at hW
        refine lv_iinc (v := nI (j + 1)) (lv' := [(2, .int (nI (j + 1))), (3, .int (nI n)), (0, .ref (ad i)), (1, .int v)]) hx hb dJ7_fill_53178_14 hl (k := 0) rfl (nI_1 j) (by decide) rfl (fun ls hl => ?_)
        refine lv_goto (tgt := 5) hx hb dJ7_fill_53178_17 (by decide) ?_
        exact ih (j + 1) H locs ls (by omega) (by omega) (by rw [hz1]; exact hz) hW hS hl
  exact loop (n + 1) 0 s.heap [] ls (Nat.zero_le n) (by omega) rfl (by rw [z_fiN_0]; exact hW) hS (lv_sub hl [1, 0, 2, 3] rfl)
