theorem dL_law_27 : decode cL_law 27 = .ok (.aload_n 0, 1) := by decide +kernel
theorem dL_law_28 : decode cL_law 28 = .ok (.iload_n 3, 1) := by decide +kernel
theorem dL_law_29 : decode cL_law 29 = .ok (.iaload, 1) := by decide +kernel
theorem dL_law_30 : decode cL_law 30 = .ok (.bipush 63, 2) := by decide +kernel
theorem dL_law_32 : decode cL_law 32 = .ok (.iand, 1) := by decide +kernel
theorem dL_law_33 : decode cL_law 33 = .ok (.tableswitch 1477 0 35 #[159, 182, 245, 288, 311, 354, 417, 450, 463, 506, 549, 582, 615, 638, 651, 694, 717, 750, 773, 806, 839, 872, 926, 959, 1003, 1026, 1059, 1102, 1135, 1210, 1243, 1276, 1319, 1372, 1405, 1454], 159) := by decide +kernel
theorem dL_law_0 : decode cL_law 0 = .ok (.new 7, 3) := by decide +kernel
theorem dL_law_3 : decode cL_law 3 = .ok (.dup, 1) := by decide +kernel
theorem dL_law_4 : decode cL_law 4 = .ok (.invokespecial 9, 3) := by decide +kernel
theorem dL_law_7 : decode cL_law 7 = .ok (.astore_n 1, 1) := by decide +kernel
theorem dL_law_8 : decode cL_law 8 = .ok (.new 10, 3) := by decide +kernel
theorem dL_law_11 : decode cL_law 11 = .ok (.dup, 1) := by decide +kernel
theorem dL_law_12 : decode cL_law 12 = .ok (.invokespecial 12, 3) := by decide +kernel
theorem dL_law_15 : decode cL_law 15 = .ok (.astore_n 2, 1) := by decide +kernel
theorem dL_law_16 : decode cL_law 16 = .ok (.iconst 0, 1) := by decide +kernel
theorem dL_law_17 : decode cL_law 17 = .ok (.istore_n 3, 1) := by decide +kernel

set_option maxHeartbeats 8000000 in
set_option maxRecDepth 100000 in
theorem law_body {p : Program} {e : Env} {s : State} {m : MethodId} {below : List Frame} {meth : Method} {c : Code} {b : Nat} {xs : Nat → Int32} (l : Launch) {G : z_G} {A : Nat → Prop} {ad adM : Nat → Nat} (hK : z_K G s) (hA : ∀ q : Nat, s.heap.size ≤ q → A q) (hAi : ∀ q : Nat, A q → s.heap.size ≤ q) (hSt : z_St A s s.heap) (hap : ∀ i j, shX i ≠ none → shM j ≠ none → ad i ≠ adM j) (C0 : lw_At p s m meth c b 7 xs) {H : Heap} {locs : List Loc} {ls : Array Slot} (hWX : z_W G A (shX, ad, IX, JX, PX ad) H) (hWM : z_W G A (shM, adM, IM, JM, PM adM) H) (hS : va_S A s.heap H locs) (hl : lv_has ls 4 [(3, .int 0), (2, .ref (adM 0)), (1, .ref (ad 0)), (0, .ref b)]) : W p l e room_1 s m #[Value.ref b] below meth c H locs 146 216042 (lw_Z below #[Value.ref b] s) (F0 m 27 ls []) := by
  obtain ⟨hx, hb, hr, hml, hown, hts0, hX, hbl, hlocks, hgv⟩ := id C0
  have hown : s.vm.findClass RL = some m.cls := hown
  have hts : ∀ w ∈ wsL_law, w.before #[Value.ref b] s = true := fun w hw => hts0 w (wsL_law_in w hw)
  have hbA : ¬ A b := fun h => absurd (hAi b h) (Nat.not_le.mpr hbl)
  refine lv_aload_n hx hb dL_law_27 rfl (lv_at hl 3 rfl) ?_
  refine lv_iload_n hx hb dL_law_28 rfl (lv_at hl 0 rfl) ?_
  refine va_sld hx hb hX hbl hbA hS (z_inl (by decide)) dL_law_29 ?_
  refine z_topi (v := xs 0) rfl ?_
  refine lv_bipush (v := 63) hx hb dL_law_30 (by decide) ?_
  refine lv_iand hx hb dL_law_32 ?_
  refine lv_topi (fun x1 ex1 => ?_)
  by_cases q2 : x1 = 0
  · refine lv_tableIn (tgt := 192) hx hb dL_law_33 (by rw [q2]; decide) (by rw [q2]; decide) (by rw [q2]; rfl) (by decide) ?_
    exact lc_0 l hK hA hAi hSt hap C0 hWX hWM hS hl
  by_cases q3 : x1 = 1
  · refine lv_tableIn (tgt := 215) hx hb dL_law_33 (by rw [q3]; decide) (by rw [q3]; decide) (by rw [q3]; rfl) (by decide) ?_
    exact lc_1 l hK hA hAi hSt hap C0 hWX hWM hS hl
  by_cases q4 : x1 = 2
  · refine lv_tableIn (tgt := 278) hx hb dL_law_33 (by rw [q4]; decide) (by rw [q4]; decide) (by rw [q4]; rfl) (by decide) ?_
    exact lc_2 l hK hA hAi hSt hap C0 hWX hWM hS hl
  by_cases q5 : x1 = 3
  · refine lv_tableIn (tgt := 321) hx hb dL_law_33 (by rw [q5]; decide) (by rw [q5]; decide) (by rw [q5]; rfl) (by decide) ?_
    exact lc_3 l hK hA hAi hSt hap C0 hWX hWM hS hl
  by_cases q6 : x1 = 4
  · refine lv_tableIn (tgt := 344) hx hb dL_law_33 (by rw [q6]; decide) (by rw [q6]; decide) (by rw [q6]; rfl) (by decide) ?_
    exact lc_4 l hK hA hAi hSt hap C0 hWX hWM hS hl
  by_cases q7 : x1 = 5
  · refine lv_tableIn (tgt := 387) hx hb dL_law_33 (by rw [q7]; decide) (by rw [q7]; decide) (by rw [q7]; rfl) (by decide) ?_
    exact lc_5 l hK hA hAi hSt hap C0 hWX hWM hS hl
  by_cases q8 : x1 = 6
  · refine lv_tableIn (tgt := 450) hx hb dL_law_33 (by rw [q8]; decide) (by rw [q8]; decide) (by rw [q8]; rfl) (by decide) ?_
    exact lc_6 l hK hA hAi hSt hap C0 hWX hWM hS hl
  by_cases q9 : x1 = 7
  · refine lv_tableIn (tgt := 483) hx hb dL_law_33 (by rw [q9]; decide) (by rw [q9]; decide) (by rw [q9]; rfl) (by decide) ?_
    exact lc_7 l hK hA hAi hSt hap C0 hWX hWM hS hl
  by_cases q10 : x1 = 8
  · refine lv_tableIn (tgt := 496) hx hb dL_law_33 (by rw [q10]; decide) (by rw [q10]; decide) (by rw [q10]; rfl) (by decide) ?_
    exact lc_8 l hK hA hAi hSt hap C0 hWX hWM hS hl
  by_cases q11 : x1 = 9
  · refine lv_tableIn (tgt := 539) hx hb dL_law_33 (by rw [q11]; decide) (by rw [q11]; decide) (by rw [q11]; rfl) (by decide) ?_
    exact lc_9 l hK hA hAi hSt hap C0 hWX hWM hS hl
  by_cases q12 : x1 = 10
  · refine lv_tableIn (tgt := 582) hx hb dL_law_33 (by rw [q12]; decide) (by rw [q12]; decide) (by rw [q12]; rfl) (by decide) ?_
    exact lc_10 l hK hA hAi hSt hap C0 hWX hWM hS hl
  by_cases q13 : x1 = 11
  · refine lv_tableIn (tgt := 615) hx hb dL_law_33 (by rw [q13]; decide) (by rw [q13]; decide) (by rw [q13]; rfl) (by decide) ?_
    exact lc_11 l hK hA hAi hSt hap C0 hWX hWM hS hl
  by_cases q14 : x1 = 12
  · refine lv_tableIn (tgt := 648) hx hb dL_law_33 (by rw [q14]; decide) (by rw [q14]; decide) (by rw [q14]; rfl) (by decide) ?_
    exact lc_12 l hK hA hAi hSt hap C0 hWX hWM hS hl
  by_cases q15 : x1 = 13
  · refine lv_tableIn (tgt := 671) hx hb dL_law_33 (by rw [q15]; decide) (by rw [q15]; decide) (by rw [q15]; rfl) (by decide) ?_
    exact lc_13 l hK hA hAi hSt hap C0 hWX hWM hS hl
  by_cases q16 : x1 = 14
  · refine lv_tableIn (tgt := 684) hx hb dL_law_33 (by rw [q16]; decide) (by rw [q16]; decide) (by rw [q16]; rfl) (by decide) ?_
    exact lc_14 l hK hA hAi hSt hap C0 hWX hWM hS hl
  by_cases q17 : x1 = 15
  · refine lv_tableIn (tgt := 727) hx hb dL_law_33 (by rw [q17]; decide) (by rw [q17]; decide) (by rw [q17]; rfl) (by decide) ?_
    exact lc_15 l hK hA hAi hSt hap C0 hWX hWM hS hl
  by_cases q18 : x1 = 16
  · refine lv_tableIn (tgt := 750) hx hb dL_law_33 (by rw [q18]; decide) (by rw [q18]; decide) (by rw [q18]; rfl) (by decide) ?_
    exact lc_16 l hK hA hAi hSt hap C0 hWX hWM hS hl
  by_cases q19 : x1 = 17
  · refine lv_tableIn (tgt := 783) hx hb dL_law_33 (by rw [q19]; decide) (by rw [q19]; decide) (by rw [q19]; rfl) (by decide) ?_
    exact lc_17 l hK hA hAi hSt hap C0 hWX hWM hS hl
  by_cases q20 : x1 = 18
  · refine lv_tableIn (tgt := 806) hx hb dL_law_33 (by rw [q20]; decide) (by rw [q20]; decide) (by rw [q20]; rfl) (by decide) ?_
    exact lc_18 l hK hA hAi hSt hap C0 hWX hWM hS hl
  by_cases q21 : x1 = 19
  · refine lv_tableIn (tgt := 839) hx hb dL_law_33 (by rw [q21]; decide) (by rw [q21]; decide) (by rw [q21]; rfl) (by decide) ?_
    exact lc_19 l hK hA hAi hSt hap C0 hWX hWM hS hl
  by_cases q22 : x1 = 20
  · refine lv_tableIn (tgt := 872) hx hb dL_law_33 (by rw [q22]; decide) (by rw [q22]; decide) (by rw [q22]; rfl) (by decide) ?_
    exact lc_20 l hK hA hAi hSt hap C0 hWX hWM hS hl
  by_cases q23 : x1 = 21
  · refine lv_tableIn (tgt := 905) hx hb dL_law_33 (by rw [q23]; decide) (by rw [q23]; decide) (by rw [q23]; rfl) (by decide) ?_
    exact lc_21 l hK hA hAi hSt hap C0 hWX hWM hS hl
  by_cases q24 : x1 = 22
  · refine lv_tableIn (tgt := 959) hx hb dL_law_33 (by rw [q24]; decide) (by rw [q24]; decide) (by rw [q24]; rfl) (by decide) ?_
    exact lc_22 l hK hA hAi hSt hap C0 hWX hWM hS hl
  by_cases q25 : x1 = 23
  · refine lv_tableIn (tgt := 992) hx hb dL_law_33 (by rw [q25]; decide) (by rw [q25]; decide) (by rw [q25]; rfl) (by decide) ?_
    exact lc_23 l hK hA hAi hSt hap C0 hWX hWM hS hl
  by_cases q26 : x1 = 24
  · refine lv_tableIn (tgt := 1036) hx hb dL_law_33 (by rw [q26]; decide) (by rw [q26]; decide) (by rw [q26]; rfl) (by decide) ?_
    exact lc_24 l hK hA hAi hSt hap C0 hWX hWM hS hl
  by_cases q27 : x1 = 25
  · refine lv_tableIn (tgt := 1059) hx hb dL_law_33 (by rw [q27]; decide) (by rw [q27]; decide) (by rw [q27]; rfl) (by decide) ?_
    exact lc_25 l hK hA hAi hSt hap C0 hWX hWM hS hl
  by_cases q28 : x1 = 26
  · refine lv_tableIn (tgt := 1092) hx hb dL_law_33 (by rw [q28]; decide) (by rw [q28]; decide) (by rw [q28]; rfl) (by decide) ?_
    exact lc_26 l hK hA hAi hSt hap C0 hWX hWM hS hl
  by_cases q29 : x1 = 27
  · refine lv_tableIn (tgt := 1135) hx hb dL_law_33 (by rw [q29]; decide) (by rw [q29]; decide) (by rw [q29]; rfl) (by decide) ?_
    exact lc_27 l hK hA hAi hSt hap C0 hWX hWM hS hl
  by_cases q30 : x1 = 28
  · refine lv_tableIn (tgt := 1168) hx hb dL_law_33 (by rw [q30]; decide) (by rw [q30]; decide) (by rw [q30]; rfl) (by decide) ?_
    exact lc_28 l hK hA hAi hSt hap C0 hWX hWM hS hl
  by_cases q31 : x1 = 29
  · refine lv_tableIn (tgt := 1243) hx hb dL_law_33 (by rw [q31]; decide) (by rw [q31]; decide) (by rw [q31]; rfl) (by decide) ?_
    exact lc_29 l hK hA hAi hSt hap C0 hWX hWM hS hl
  by_cases q32 : x1 = 30
  · refine lv_tableIn (tgt := 1276) hx hb dL_law_33 (by rw [q32]; decide) (by rw [q32]; decide) (by rw [q32]; rfl) (by decide) ?_
    exact lc_30 l hK hA hAi hSt hap C0 hWX hWM hS hl
  by_cases q33 : x1 = 31
  · refine lv_tableIn (tgt := 1309) hx hb dL_law_33 (by rw [q33]; decide) (by rw [q33]; decide) (by rw [q33]; rfl) (by decide) ?_
    exact lc_31 l hK hA hAi hSt hap C0 hWX hWM hS hl
  by_cases q34 : x1 = 32
  · refine lv_tableIn (tgt := 1352) hx hb dL_law_33 (by rw [q34]; decide) (by rw [q34]; decide) (by rw [q34]; rfl) (by decide) ?_
    exact lc_32 l hK hA hAi hSt hap C0 hWX hWM hS hl
  by_cases q35 : x1 = 33
  · refine lv_tableIn (tgt := 1405) hx hb dL_law_33 (by rw [q35]; decide) (by rw [q35]; decide) (by rw [q35]; rfl) (by decide) ?_
    exact lc_33 l hK hA hAi hSt hap C0 hWX hWM hS hl
  by_cases q36 : x1 = 34
  · refine lv_tableIn (tgt := 1438) hx hb dL_law_33 (by rw [q36]; decide) (by rw [q36]; decide) (by rw [q36]; rfl) (by decide) ?_
    exact lc_34 l hK hA hAi hSt hap C0 hWX hWM hS hl
  by_cases q37 : x1 = 35
  · refine lv_tableIn (tgt := 1487) hx hb dL_law_33 (by rw [q37]; decide) (by rw [q37]; decide) (by rw [q37]; rfl) (by decide) ?_
    exact lc_35 l hK hA hAi hSt hap C0 hWX hWM hS hl
  refine lv_tableOut (tgt := 1510) hx hb dL_law_33 (by simp only [← Int32.toInt_inj, z_l0, z_l1, z_l2, z_l3, z_l4, z_l5, z_l6, z_l7, z_l8, z_l9, z_l10, z_l11, z_l12, z_l13, z_l14, z_l15, z_l16, z_l17, z_l18, z_l19, z_l20, z_l21, z_l22, z_l23, z_l24, z_l25, z_l26, z_l27, z_l28, z_l29, z_l30, z_l31, z_l32, z_l33, z_l34, z_l35] at q2 q3 q4 q5 q6 q7 q8 q9 q10 q11 q12 q13 q14 q15 q16 q17 q18 q19 q20 q21 q22 q23 q24 q25 q26 q27 q28 q29 q30 q31 q32 q33 q34 q35 q36 q37; omega) (by decide) ?_
  exact lc_tail l C0 hAi (Nat.le_of_ble_eq_true rfl) (Nat.le_of_ble_eq_true rfl) hS (lv_sub hl [0, 3] rfl)
set_option maxRecDepth 100000 in
theorem law_loop {p : Program} {e : Env} {s : State} {m : MethodId} {below : List Frame} {meth : Method} {c : Code} {b : Nat} {xs : Nat → Int32} {L : Nat} (hL : L ≤ 7) (l : Launch) {G : z_G} {A : Nat → Prop} {ad adM : Nat → Nat} (hK : z_K G s) (hA : ∀ q : Nat, s.heap.size ≤ q → A q) (hAi : ∀ q : Nat, A q → s.heap.size ≤ q) (hSt : z_St A s s.heap) (hap : ∀ i j, shX i ≠ none → shM j ≠ none → ad i ≠ adM j) (C0 : lw_At p s m meth c b L xs) {H : Heap} {locs : List Loc} {ls : Array Slot} (hWX : z_W G A (shX, ad, IX, JX, PX ad) H) (hWM : z_W G A (shM, adM, IM, JM, PM adM) H) (hS : va_S A s.heap H locs) (hl : lv_has ls 4 [(3, .int 0), (2, .ref (adM 0)), (1, .ref (ad 0)), (0, .ref b)]) : W p l e room_1 s m #[Value.ref b] below meth c H locs 146 216042 (lw_Z below #[Value.ref b] s) (F0 m 18 ls []) := by
  obtain ⟨hx, hb, hr, hml, hown, hts0, hX, hbl, hlocks, hgv⟩ := id C0
  have hown : s.vm.findClass RL = some m.cls := hown
  have hts : ∀ w ∈ wsL_law, w.before #[Value.ref b] s = true := fun w hw => hts0 w (wsL_law_in w hw)
  have hbA : ¬ A b := fun h => absurd (hAi b h) (Nat.not_le.mpr hbl)
  refine lv_iload_n hx hb dL_law_18 rfl (lv_at hl 0 rfl) ?_
  refine lv_aload_n hx hb dL_law_19 rfl (lv_at hl 3 rfl) ?_
  refine va_slen hx hb hX hbl hbA hS dL_law_20 ?_
  refine lv_bipush (v := 7) hx hb dL_law_21 (by decide) ?_
  refine lv_isub hx hb dL_law_23 ?_
  obtain rfl | rfl | rfl | rfl | rfl | rfl | rfl | rfl : L = 0 ∨ L = 1 ∨ L = 2 ∨ L = 3 ∨ L = 4 ∨ L = 5 ∨ L = 6 ∨ L = 7 := by omega
  · refine z_topi (v := (-7)) (by decide) ?_
    refine lv_icmp_gt (tgt := 1516) hx hb dL_law_24 (by decide) (fun c1 => ?_) (fun c1 => absurd (by decide) c1)
    exact lc_end l C0 hAi (Nat.le_of_ble_eq_true rfl) (Nat.le_of_ble_eq_true rfl) hS
  · refine z_topi (v := (-6)) (by decide) ?_
    refine lv_icmp_gt (tgt := 1516) hx hb dL_law_24 (by decide) (fun c1 => ?_) (fun c1 => absurd (by decide) c1)
    exact lc_end l C0 hAi (Nat.le_of_ble_eq_true rfl) (Nat.le_of_ble_eq_true rfl) hS
  · refine z_topi (v := (-5)) (by decide) ?_
    refine lv_icmp_gt (tgt := 1516) hx hb dL_law_24 (by decide) (fun c1 => ?_) (fun c1 => absurd (by decide) c1)
    exact lc_end l C0 hAi (Nat.le_of_ble_eq_true rfl) (Nat.le_of_ble_eq_true rfl) hS
  · refine z_topi (v := (-4)) (by decide) ?_
    refine lv_icmp_gt (tgt := 1516) hx hb dL_law_24 (by decide) (fun c1 => ?_) (fun c1 => absurd (by decide) c1)
    exact lc_end l C0 hAi (Nat.le_of_ble_eq_true rfl) (Nat.le_of_ble_eq_true rfl) hS
  · refine z_topi (v := (-3)) (by decide) ?_
    refine lv_icmp_gt (tgt := 1516) hx hb dL_law_24 (by decide) (fun c1 => ?_) (fun c1 => absurd (by decide) c1)
    exact lc_end l C0 hAi (Nat.le_of_ble_eq_true rfl) (Nat.le_of_ble_eq_true rfl) hS
  · refine z_topi (v := (-2)) (by decide) ?_
    refine lv_icmp_gt (tgt := 1516) hx hb dL_law_24 (by decide) (fun c1 => ?_) (fun c1 => absurd (by decide) c1)
    exact lc_end l C0 hAi (Nat.le_of_ble_eq_true rfl) (Nat.le_of_ble_eq_true rfl) hS
  · refine z_topi (v := (-1)) (by decide) ?_
    refine lv_icmp_gt (tgt := 1516) hx hb dL_law_24 (by decide) (fun c1 => ?_) (fun c1 => absurd (by decide) c1)
    exact lc_end l C0 hAi (Nat.le_of_ble_eq_true rfl) (Nat.le_of_ble_eq_true rfl) hS
  · refine z_topi (v := 0) (by decide) ?_
    refine lv_icmp_gt (tgt := 1516) hx hb dL_law_24 (by decide) (fun c1 => absurd c1 (by decide)) (fun c1 => ?_)
    exact law_body l hK hA hAi hSt hap C0 hWX hWM hS hl
theorem z_St0 {b : Nat} {s : State} {A : Nat → Prop} (hgv : (Jvm.Cond.and given_1 narrow_1).before #[Value.ref b] s = true) (hts0 : ∀ w ∈ lw_tbl, w.before #[Value.ref b] s = true) (hnA : ∀ a : Nat, a < s.heap.size → ¬ A a) : z_St A s s.heap := by
  have hs := flat_of_before _ hgv
  have harr : (Cond.arrayOf (.static "PetrolBoard" "USUAL" "[I") .int).before #[Value.ref b] s = true := hs _ (by decide +kernel)
  have hlen : (Cond.eq (.length (.static "PetrolBoard" "USUAL" "[I")) (.int 5)).before #[Value.ref b] s = true := hs _ (by decide +kernel)
  have h0 : (Cond.eq (.elem (.static "PetrolBoard" "USUAL" "[I") (.int 0)) (.int 10)).before #[Value.ref b] s = true := hs _ (by decide +kernel)
  have h1 : (Cond.eq (.elem (.static "PetrolBoard" "USUAL" "[I") (.int 1)) (.int 1)).before #[Value.ref b] s = true := hs _ (by decide +kernel)
  have h2 : (Cond.eq (.elem (.static "PetrolBoard" "USUAL" "[I") (.int 2)) (.int 5)).before #[Value.ref b] s = true := hs _ (by decide +kernel)
  have h3 : (Cond.eq (.elem (.static "PetrolBoard" "USUAL" "[I") (.int 3)) (.int 0)).before #[Value.ref b] s = true := hs _ (by decide +kernel)
  have h4 : (Cond.eq (.elem (.static "PetrolBoard" "USUAL" "[I") (.int 4)) (.int 20)).before #[Value.ref b] s = true := hs _ (by decide +kernel)
  obtain ⟨t, ht, hT⟩ := va_Tof (N := 5) (f := z_us) (A := A) (tm := .static "PetrolBoard" "USUAL" "[I") (ty := .int) (by decide) harr (va_eqt hlen) (fun j hj => by
    match j, hj with
    | 0, _ => exact va_eqt h0
    | 1, _ => exact va_eqt h1
    | 2, _ => exact va_eqt h2
    | 3, _ => exact va_eqt h3
    | 4, _ => exact va_eqt h4
    | k + 5, hj => exact absurd hj (by omega)) hnA
  exact ⟨t, va_Zref (hts0 (.laysStatic "PetrolBoard" "USUAL" "[I") (tn_4 (List.mem_of_getElem? (i := 20) rfl))) (hts0 (.initialized "PetrolBoard") (tn_1 (List.mem_of_getElem? (i := 1) rfl))) ht hnA, hT⟩
/-- the law from its entry -/
theorem whole_start {p : Program} {e : Env} {s : State} {m : MethodId} {below : List Frame} {meth : Method} {c : Code} (l : Launch) (hflags : l.flags = flags0) {b L : Nat} {xs : Nat → Int32} (hL : L ≤ 7) (C0 : lw_At p s m meth c b L xs) : W p l e room_1 s m #[Value.ref b] below meth c s.heap [] 0 0 (lw_Z below #[Value.ref b] s) (entryFrame m ([Value.ref b] : List Value).toArray 4) := by
  obtain ⟨hx, hb, hr, hml, hown, hts0, hX, hbl, hlocks, hgv⟩ := id C0
  have hown : s.vm.findClass RL = some m.cls := hown
  have hts : ∀ w ∈ wsL_law, w.before #[Value.ref b] s = true := fun w hw => hts0 w (wsL_law_in w hw)
  obtain ⟨G, hK⟩ := z_K0 hts hts0
  obtain ⟨A, hA, hAi⟩ : ∃ A : Nat → Prop, (∀ q : Nat, s.heap.size ≤ q → A q) ∧ ∀ q : Nat, A q → s.heap.size ≤ q := ⟨fun q => s.heap.size ≤ q, fun _ h => h, fun _ h => h⟩
  have hSt : z_St A s s.heap := z_St0 hgv hts0 (fun a h q => absurd (hAi a q) (Nat.not_le.mpr h))
  obtain ⟨ad, ad0, had⟩ : ∃ ad : Nat → Nat, ad 0 = s.heap.size ∧ ∀ k i, ad (i + k) = ad i + k := ⟨fun i => s.heap.size + i, rfl, fun k i => (Nat.add_assoc s.heap.size i k).symm⟩
  have hS : va_S A s.heap s.heap [] := va_S.rf
  have hW : z_W G A ((fun _ => none), ad, IX0, z_J0, (PX0 ad)) s.heap := ⟨fun i x h => (by cases h), fun i j h => absurd rfl h, fun i h => absurd rfl h⟩
  have hl := lv_entry ([.ref b]) (n := 4) (Nat.le_of_ble_eq_true rfl)
  rw [lg_entry_eq]
  generalize (lg_sl ([.ref b]) ++ List.replicate (4 - (lg_sl ([.ref b])).length) Slot.unset).toArray = ls at hl ⊢
  have hl : lv_has ls 4 [(0, .ref b)] := hl
  refine z_new 0 ad (T := TX11) (N := 13) (ci := 11) hx hb hts inlX11 tyX11 tyX11_ok hown (hts (.classLink RL 7 RX11) (List.mem_of_getElem? (i := 0) rfl)) (hts (.instantiable RX11 13) (List.mem_of_getElem? (i := 1) rfl)) (hts (.initialized RX11) (List.mem_of_getElem? (i := 2) rfl)) hK hW hS hA ad0 (fun _ _ => rfl) rfl (fun k hk => (z_v0 rfl rfl rfl (ndX11 k hk)).symm) (Nat.le_of_ble_eq_true rfl) (Nat.le_of_ble_eq_true rfl) dL_law_0 (fun H hz1 hW hS => ?_)
  have hW : z_W G A (shX0, ad, IX0, z_J0, (PX0 ad)) H := hW
  have hz : H.size = ad 1 := hz1.trans ((congrArg (· + 1) ad0.symm).trans (had 1 0).symm)
  refine lv_dup hx hb dL_law_3 rfl ?_
  refine z_cc hW hS hA (va_runI (As := []) (rest := [.ref (ad 0)]) ⟨hx, hb, hml, hown, hts0⟩ (ct_X11_init l G ad had _ hz) (cwI 0 hts0 gT_X11_init rfl rfl rfl (hts (.initialized RX11) (List.mem_of_getElem? (i := 2) rfl)) (hts (.methodLink RL 9 yX11_init) (List.mem_of_getElem? (i := 6) rfl)) (hts (.instanceMethod yX11_init) (List.mem_of_getElem? (i := 7) rfl)) rfl (by decide +kernel) ⟨Nat.le_of_ble_eq_true rfl, Nat.le_of_ble_eq_true rfl⟩) (z_preS hK hW) rfl rfl hl.1 rfl (lv_room (Nat.le_of_ble_eq_true rfl)) dL_law_4 ⟨Nat.le_of_ble_eq_true rfl, Nat.le_of_ble_eq_true rfl⟩) (fun H locs hz1 hW hS => ?_)
  have hz : H.size = ad 75 := hz1.trans ((congrArg (· + 74) hz).trans (had 74 1).symm)
  have hWX := z_convX hW
  refine lv_astore_n (lv' := [(1, .ref (ad 0)), (0, .ref b)]) hx hb dL_law_7 rfl hl (by decide) rfl (fun ls hl => ?_)
  refine z_new 75 ad (T := TX12) (N := 96) (ci := 12) hx hb hts inlX12 tyX12 tyX12_ok hown (hts (.classLink RL 10 RX12) (List.mem_of_getElem? (i := 3) rfl)) (hts (.instantiable RX12 96) (List.mem_of_getElem? (i := 4) rfl)) (hts (.initialized RX12) (List.mem_of_getElem? (i := 5) rfl)) hK hWX hS hA hz.symm (fun _ _ => rfl) rfl (fun k hk => (z_v0 rfl rfl rfl (ndX12 k hk)).symm) (Nat.le_of_ble_eq_true rfl) (Nat.le_of_ble_eq_true rfl) dL_law_8 (fun H hz1 hW hS => ?_)
  have hne : ∀ i x, shX i = some x → z_sh shX 75 (.inr 12) i = some x := fun i x hi => by
    have hlt := z_ltX i (z_ne hi)
    rw [z_sh, if_neg (by omega)]
    exact hi
  have hnn : ∀ i, shX i ≠ none → z_sh shX 75 (.inr 12) i ≠ none := fun i hi => by
    have hlt := z_ltX i hi
    rw [z_sh, if_neg (by omega)]
    exact hi
  have hWX : z_W G A (shX, ad, IX, JX, PX ad) H := ⟨fun i x hi => (hW.1 i x (hne i x hi)).kept rfl rfl (fun _ _ => rfl), fun i j hi hj h => hW.2.1 i j (hnn i hi) (hnn j hj) h, fun i hi => hW.2.2 i (hnn i hi)⟩
  obtain ⟨adM, hM⟩ : ∃ adM : Nat → Nat, adM = fun i => ad (75 + i) := ⟨_, rfl⟩
  have hM0 : adM 0 = ad 75 := by rw [hM]
  have hadM : ∀ k i, adM (i + k) = adM i + k := fun k i => by
    rw [hM]
    show ad (75 + (i + k)) = ad (75 + i) + k
    rw [← Nat.add_assoc]
    exact had k (75 + i)
  have hsh0 : ∀ i, shM0 i ≠ none → i = 0 := fun i hi => by
    rcases Nat.eq_zero_or_pos i with q | q
    · exact q
    · exact absurd (show z_sh (fun _ => none) 0 (.inr 12) i = none by rw [z_sh, if_neg (by omega)]) hi
  have hWM : z_W G A (shM0, adM, IM0, z_J0, (PM0 adM)) H := by
    refine ⟨fun i x hi => ?_, fun i j hi hj _ => by rw [hsh0 i hi, hsh0 j hj], fun i hi => ?_⟩
    · have e := hsh0 i (z_ne hi)
      subst e
      obtain rfl : _ = x := Option.some.inj hi
      refine (hW.1 75 (.inr 12) rfl).toO (u1 := (shM0, adM, IM0, z_J0, (PM0 adM))) rfl hM0 (fun k hk => ?_)
      generalize z_tf 12 k = ty
      cases ty <;> rfl
    · have e := hsh0 i hi
      subst e
      show A (adM 0)
      rw [hM0]
      exact hW.2.2 75 (fun h => by cases h)
  have hap0 : ∀ i j, j < 75 → adM i ≠ ad j := fun i j hj h => by
    have h1 := had (75 + i) 0
    have h2 := had j 0
    rw [Nat.zero_add] at h1 h2
    rw [hM] at h
    have h : ad (75 + i) = ad j := h
    omega
  have hz : H.size = adM 1 := hz1.trans ((congrArg (· + 1) (hz.trans hM0.symm)).trans (hadM 1 0).symm)
  refine W.eq (g2 := F0 m 11 ls [.ref (adM 0)]) (by rw [hM0]) ?_
  refine lv_dup hx hb dL_law_11 rfl ?_
  refine z_ccF hWM hWX (fun i j _ hj => hap0 i j (z_ltX j hj)) hS hA (va_runI (As := []) (rest := [.ref (adM 0)]) ⟨hx, hb, hml, hown, hts0⟩ (ct_X12_init l G adM hadM _ hz) (cwI 0 hts0 gT_X12_init rfl rfl rfl (hts (.initialized RX12) (List.mem_of_getElem? (i := 5) rfl)) (hts (.methodLink RL 12 yX12_init) (List.mem_of_getElem? (i := 143) rfl)) (hts (.instanceMethod yX12_init) (List.mem_of_getElem? (i := 144) rfl)) rfl (by decide +kernel) ⟨Nat.le_of_ble_eq_true rfl, Nat.le_of_ble_eq_true rfl⟩) (z_preS hK hWM) rfl rfl hl.1 rfl (lv_room (Nat.le_of_ble_eq_true rfl)) dL_law_12 ⟨Nat.le_of_ble_eq_true rfl, Nat.le_of_ble_eq_true rfl⟩) (fun H locs hz1 hWM hWX hS => ?_)
  have hWM := z_convM hWM
  refine lv_astore_n (lv' := [(2, .ref (adM 0)), (1, .ref (ad 0)), (0, .ref b)]) hx hb dL_law_15 rfl hl (by decide) rfl (fun ls hl => ?_)
  refine lv_iconst (v := 0) hx hb dL_law_16 (by decide) ?_
  refine lv_istore_n (lv' := [(3, .int 0), (2, .ref (adM 0)), (1, .ref (ad 0)), (0, .ref b)]) hx hb dL_law_17 rfl hl (by decide) rfl (fun ls hl => ?_)
  exact law_loop hL l hK hA hAi hSt (fun i j hi _ h => hap0 j i (z_ltX i hi) h.symm) C0 hWX hWM hS hl
