theorem dL_law_27 : decode cL_law 27 = .ok (.aload_n 0, 1) := z_dd_42 (by decide +kernel)
theorem dL_law_28 : decode cL_law 28 = .ok (.iload_n 3, 1) := z_dd_29 (by decide +kernel)
theorem dL_law_29 : decode cL_law 29 = .ok (.iaload, 1) := z_dd_46 (by decide +kernel)
theorem dL_law_30 : decode cL_law 30 = .ok (.bipush 63, 2) := z_dd_16 (by decide +kernel)
theorem dL_law_32 : decode cL_law 32 = .ok (.iand, 1) := z_dd_126 (by decide +kernel)
theorem dL_law_33 : decode cL_law 33 = .ok (.tableswitch 1475 0 35 #[159, 182, 245, 288, 311, 354, 417, 450, 463, 506, 549, 582, 615, 638, 651, 694, 717, 750, 773, 806, 839, 872, 925, 958, 1001, 1024, 1057, 1100, 1133, 1208, 1241, 1274, 1317, 1370, 1403, 1452], 159) := by decide +kernel
theorem dL_law_1514 : decode cL_law 1514 = .ok (.iconst 1, 1) := z_dd_4 (z_b1_T (j := 234) (by decide +kernel))
theorem dL_law_1515 : decode cL_law 1515 = .ok (.ireturn, 1) := z_dd_172 (z_b1_T (j := 235) (by decide +kernel))
theorem dL_law_18 : decode cL_law 18 = .ok (.iload_n 3, 1) := z_dd_29 (by decide +kernel)
theorem dL_law_19 : decode cL_law 19 = .ok (.aload_n 0, 1) := z_dd_42 (by decide +kernel)
theorem dL_law_20 : decode cL_law 20 = .ok (.arraylength, 1) := z_dd_190 (by decide +kernel)
theorem dL_law_21 : decode cL_law 21 = .ok (.bipush 7, 2) := z_dd_16 (by decide +kernel)
theorem dL_law_23 : decode cL_law 23 = .ok (.isub, 1) := z_dd_100 (by decide +kernel)
theorem dL_law_24 : decode cL_law 24 = .ok (.if_icmp .gt 1490, 3) := z_dd_163 (by decide +kernel)
theorem dL_law_1508 : decode cL_law 1508 = .ok (.iinc 3 7, 3) := z_dd_132 (z_b3i_T (j := 228) (by decide +kernel))
theorem dL_law_1511 : decode cL_law 1511 = .ok (.goto (-1493), 3) := z_dd_167 (z_b3s_T (j := 231) (by decide +kernel))
theorem dL_law_0 : decode cL_law 0 = .ok (.new 7, 3) := z_dd_187 (by decide +kernel)
theorem dL_law_3 : decode cL_law 3 = .ok (.dup, 1) := z_dd_89 (by decide +kernel)
theorem dL_law_4 : decode cL_law 4 = .ok (.invokespecial 9, 3) := z_dd_183 (by decide +kernel)
theorem dL_law_7 : decode cL_law 7 = .ok (.astore_n 1, 1) := z_dd_76 (by decide +kernel)
theorem dL_law_8 : decode cL_law 8 = .ok (.new 10, 3) := z_dd_187 (by decide +kernel)
theorem dL_law_11 : decode cL_law 11 = .ok (.dup, 1) := z_dd_89 (by decide +kernel)
theorem dL_law_12 : decode cL_law 12 = .ok (.invokespecial 12, 3) := z_dd_183 (by decide +kernel)
theorem dL_law_15 : decode cL_law 15 = .ok (.astore_n 2, 1) := z_dd_77 (by decide +kernel)
theorem dL_law_16 : decode cL_law 16 = .ok (.iconst 0, 1) := z_dd_3 (by decide +kernel)
theorem dL_law_17 : decode cL_law 17 = .ok (.istore_n 3, 1) := z_dd_62 (by decide +kernel)

set_option maxHeartbeats 8000000 in
set_option maxRecDepth 100000 in
theorem law_body {p : Program} {e : Env} {s : State} {m : MethodId} {below : List Frame} {meth : Method} {c0 : Code} {b L : Nat} {xs : Nat → Int32} (l : Launch) {G : z_G} {A : Nat → Prop} {adK adV : Nat → Nat} (hK : z_K G s) (hA : ∀ q : Nat, s.heap.size ≤ q → A q) (hAi : ∀ q : Nat, A q → s.heap.size ≤ q) (hSt : z_St A s s.heap) (hKn : z_Cq adK adV A s s.heap) (hL : L ≤ 3584) (C0 : lw_At p s m meth c0 b L xs) {c : z_C} {ad adM : Nat → Nat} {Ix Im : z_I} {Jm : z_J} (hLX : z_LX c Ix) (hLM : z_LM Im) (htd : z_EQ Ix Im) {H : Heap} {locs : List Loc} {ls : Array Slot} (hWX : z_W G A (shC c, ad, Ix, JX, PC c ad) H) (hWM : z_W G A (shM, adM, Im, Jm, PM adM) H) (hap : ∀ i j, shC c i ≠ none → shM j ≠ none → ad i ≠ adM j) (hS : va_S A s.heap H locs) {i : Int32} (hi0 : 0 ≤ i.toInt) (hiL : i.toInt + 7 ≤ (L : Int)) (hl : lv_has ls 4 [(3, .int i), (2, .ref (adM 0)), (1, .ref (ad 0)), (0, .ref b)]) {cells slots : Nat} (hce : cells + 8 ≤ 600000) (hsl : slots + 2006 ≤ 7302250) (kk : ∀ (c : z_C) (ad : Nat → Nat) (Ix Im : z_I) (Jm : z_J) (H : Heap) (locs : List Loc) (ls : Array Slot), z_LX c Ix → z_LM Im → z_EQ Ix Im → z_W G A (shC c, ad, Ix, JX, PC c ad) H → z_W G A (shM, adM, Im, Jm, PM adM) H → (∀ i j, shC c i ≠ none → shM j ≠ none → ad i ≠ adM j) → va_S A s.heap H locs → lv_has ls 4 [(3, .int i), (2, .ref (adM 0)), (1, .ref (ad 0)), (0, .ref b)] → W p l e room_1 s m #[Value.ref b] below meth c0 H locs (cells + 8) (slots + 2006) (lw_Z below #[Value.ref b] s) (F0 m 1508 ls [])) : W p l e room_1 s m #[Value.ref b] below meth c0 H locs (cells) (slots) (lw_Z below #[Value.ref b] s) (F0 m 27 ls []) := by
  obtain ⟨hx, hb, hr, hml, hown, hts0, hX, hbl, hlocks, hgv⟩ := id C0
  have hown : s.vm.findClass RL = some m.cls := hown
  have hts : ∀ w ∈ wsL_law, w.before #[Value.ref b] s = true := fun w hw => hts0 w (wsL_law_in w hw)
  have hbA : ¬ A b := fun h => absurd (hAi b h) (Nat.not_le.mpr hbl)
  have hLi : (L : Int) ≤ 3584 := by omega
  refine lv_aload_n hx hb dL_law_27 rfl (lv_at hl 3 rfl) ?_
  refine lv_iload_n hx hb dL_law_28 rfl (lv_at hl 0 rfl) ?_
  refine va_sld hx hb hX hbl hbA hS (z_ix rfl (by omega) (by omega)) dL_law_29 ?_
  refine lv_topi (fun x1 ex1 => ?_)
  refine lv_bipush (v := 63) hx hb dL_law_30 (by decide) ?_
  refine lv_iand hx hb dL_law_32 ?_
  refine lv_topi (fun x2 ex2 => ?_)
  by_cases q3 : x2 = 0
  · refine lv_tableIn (tgt := 192) hx hb dL_law_33 (by rw [q3]; decide) (by rw [q3]; decide) (by rw [q3]; rfl) (by decide) ?_
    exact lc_0 l hK hA hAi hSt hKn hL C0 hLX hLM htd hWX hWM hap hS hi0 hiL hl hce hsl kk
  by_cases q4 : x2 = 1
  · refine lv_tableIn (tgt := 215) hx hb dL_law_33 (by rw [q4]; decide) (by rw [q4]; decide) (by rw [q4]; rfl) (by decide) ?_
    exact lc_1 l hK hA hAi hSt hKn hL C0 hLX hLM htd hWX hWM hap hS hi0 hiL hl hce hsl kk
  by_cases q5 : x2 = 2
  · refine lv_tableIn (tgt := 278) hx hb dL_law_33 (by rw [q5]; decide) (by rw [q5]; decide) (by rw [q5]; rfl) (by decide) ?_
    exact lc_2 l hK hA hAi hSt hKn hL C0 hLX hLM htd hWX hWM hap hS hi0 hiL hl hce hsl kk
  by_cases q6 : x2 = 3
  · refine lv_tableIn (tgt := 321) hx hb dL_law_33 (by rw [q6]; decide) (by rw [q6]; decide) (by rw [q6]; rfl) (by decide) ?_
    exact lc_3 l hK hA hAi hSt hKn hL C0 hLX hLM htd hWX hWM hap hS hi0 hiL hl hce hsl kk
  by_cases q7 : x2 = 4
  · refine lv_tableIn (tgt := 344) hx hb dL_law_33 (by rw [q7]; decide) (by rw [q7]; decide) (by rw [q7]; rfl) (by decide) ?_
    exact lc_4 l hK hA hAi hSt hKn hL C0 hLX hLM htd hWX hWM hap hS hi0 hiL hl hce hsl kk
  by_cases q8 : x2 = 5
  · refine lv_tableIn (tgt := 387) hx hb dL_law_33 (by rw [q8]; decide) (by rw [q8]; decide) (by rw [q8]; rfl) (by decide) ?_
    exact lc_5 l hK hA hAi hSt hKn hL C0 hLX hLM htd hWX hWM hap hS hi0 hiL hl hce hsl kk
  by_cases q9 : x2 = 6
  · refine lv_tableIn (tgt := 450) hx hb dL_law_33 (by rw [q9]; decide) (by rw [q9]; decide) (by rw [q9]; rfl) (by decide) ?_
    exact lc_6 l hK hA hAi hSt hKn hL C0 hLX hLM htd hWX hWM hap hS hi0 hiL hl hce hsl kk
  by_cases q10 : x2 = 7
  · refine lv_tableIn (tgt := 483) hx hb dL_law_33 (by rw [q10]; decide) (by rw [q10]; decide) (by rw [q10]; rfl) (by decide) ?_
    exact lc_7 l hK hA hAi hSt hKn hL C0 hLX hLM htd hWX hWM hap hS hi0 hiL hl hce hsl kk
  by_cases q11 : x2 = 8
  · refine lv_tableIn (tgt := 496) hx hb dL_law_33 (by rw [q11]; decide) (by rw [q11]; decide) (by rw [q11]; rfl) (by decide) ?_
    exact lc_8 l hK hA hAi hSt hKn hL C0 hLX hLM htd hWX hWM hap hS hi0 hiL hl hce hsl kk
  by_cases q12 : x2 = 9
  · refine lv_tableIn (tgt := 539) hx hb dL_law_33 (by rw [q12]; decide) (by rw [q12]; decide) (by rw [q12]; rfl) (by decide) ?_
    exact lc_9 l hK hA hAi hSt hKn hL C0 hLX hLM htd hWX hWM hap hS hi0 hiL hl hce hsl kk
  by_cases q13 : x2 = 10
  · refine lv_tableIn (tgt := 582) hx hb dL_law_33 (by rw [q13]; decide) (by rw [q13]; decide) (by rw [q13]; rfl) (by decide) ?_
    exact lc_10 l hK hA hAi hSt hKn hL C0 hLX hLM htd hWX hWM hap hS hi0 hiL hl hce hsl kk
  by_cases q14 : x2 = 11
  · refine lv_tableIn (tgt := 615) hx hb dL_law_33 (by rw [q14]; decide) (by rw [q14]; decide) (by rw [q14]; rfl) (by decide) ?_
    exact lc_11 l hK hA hAi hSt hKn hL C0 hLX hLM htd hWX hWM hap hS hi0 hiL hl hce hsl kk
  by_cases q15 : x2 = 12
  · refine lv_tableIn (tgt := 648) hx hb dL_law_33 (by rw [q15]; decide) (by rw [q15]; decide) (by rw [q15]; rfl) (by decide) ?_
    exact lc_12 l hK hA hAi hSt hKn hL C0 hLX hLM htd hWX hWM hap hS hi0 hiL hl hce hsl kk
  by_cases q16 : x2 = 13
  · refine lv_tableIn (tgt := 671) hx hb dL_law_33 (by rw [q16]; decide) (by rw [q16]; decide) (by rw [q16]; rfl) (by decide) ?_
    exact lc_13 l hK hA hAi hSt hKn hL C0 hLX hLM htd hWX hWM hap hS hi0 hiL hl hce hsl kk
  by_cases q17 : x2 = 14
  · refine lv_tableIn (tgt := 684) hx hb dL_law_33 (by rw [q17]; decide) (by rw [q17]; decide) (by rw [q17]; rfl) (by decide) ?_
    exact lc_14 l hK hA hAi hSt hKn hL C0 hLX hLM htd hWX hWM hap hS hi0 hiL hl hce hsl kk
  by_cases q18 : x2 = 15
  · refine lv_tableIn (tgt := 727) hx hb dL_law_33 (by rw [q18]; decide) (by rw [q18]; decide) (by rw [q18]; rfl) (by decide) ?_
    exact lc_15 l hK hA hAi hSt hKn hL C0 hLX hLM htd hWX hWM hap hS hi0 hiL hl hce hsl kk
  by_cases q19 : x2 = 16
  · refine lv_tableIn (tgt := 750) hx hb dL_law_33 (by rw [q19]; decide) (by rw [q19]; decide) (by rw [q19]; rfl) (by decide) ?_
    exact lc_16 l hK hA hAi hSt hKn hL C0 hLX hLM htd hWX hWM hap hS hi0 hiL hl hce hsl kk
  by_cases q20 : x2 = 17
  · refine lv_tableIn (tgt := 783) hx hb dL_law_33 (by rw [q20]; decide) (by rw [q20]; decide) (by rw [q20]; rfl) (by decide) ?_
    exact lc_17 l hK hA hAi hSt hKn hL C0 hLX hLM htd hWX hWM hap hS hi0 hiL hl hce hsl kk
  by_cases q21 : x2 = 18
  · refine lv_tableIn (tgt := 806) hx hb dL_law_33 (by rw [q21]; decide) (by rw [q21]; decide) (by rw [q21]; rfl) (by decide) ?_
    exact lc_18 l hK hA hAi hSt hKn hL C0 hLX hLM htd hWX hWM hap hS hi0 hiL hl hce hsl kk
  by_cases q22 : x2 = 19
  · refine lv_tableIn (tgt := 839) hx hb dL_law_33 (by rw [q22]; decide) (by rw [q22]; decide) (by rw [q22]; rfl) (by decide) ?_
    exact lc_19 l hK hA hAi hSt hKn hL C0 hLX hLM htd hWX hWM hap hS hi0 hiL hl hce hsl kk
  by_cases q23 : x2 = 20
  · refine lv_tableIn (tgt := 872) hx hb dL_law_33 (by rw [q23]; decide) (by rw [q23]; decide) (by rw [q23]; rfl) (by decide) ?_
    exact lc_20 l hK hA hAi hSt hKn hL C0 hLX hLM htd hWX hWM hap hS hi0 hiL hl hce hsl kk
  by_cases q24 : x2 = 21
  · refine lv_tableIn (tgt := 905) hx hb dL_law_33 (by rw [q24]; decide) (by rw [q24]; decide) (by rw [q24]; rfl) (by decide) ?_
    exact lc_21 l hK hA hAi hSt hKn hL C0 hLX hLM htd hWX hWM hap hS hi0 hiL hl hce hsl kk
  by_cases q25 : x2 = 22
  · refine lv_tableIn (tgt := 958) hx hb dL_law_33 (by rw [q25]; decide) (by rw [q25]; decide) (by rw [q25]; rfl) (by decide) ?_
    exact lc_22 l hK hA hAi hSt hKn hL C0 hLX hLM htd hWX hWM hap hS hi0 hiL hl hce hsl kk
  by_cases q26 : x2 = 23
  · refine lv_tableIn (tgt := 991) hx hb dL_law_33 (by rw [q26]; decide) (by rw [q26]; decide) (by rw [q26]; rfl) (by decide) ?_
    exact lc_23 l hK hA hAi hSt hKn hL C0 hLX hLM htd hWX hWM hap hS hi0 hiL hl hce hsl kk
  by_cases q27 : x2 = 24
  · refine lv_tableIn (tgt := 1034) hx hb dL_law_33 (by rw [q27]; decide) (by rw [q27]; decide) (by rw [q27]; rfl) (by decide) ?_
    exact lc_24 l hK hA hAi hSt hKn hL C0 hLX hLM htd hWX hWM hap hS hi0 hiL hl hce hsl kk
  by_cases q28 : x2 = 25
  · refine lv_tableIn (tgt := 1057) hx hb dL_law_33 (by rw [q28]; decide) (by rw [q28]; decide) (by rw [q28]; rfl) (by decide) ?_
    exact lc_25 l hK hA hAi hSt hKn hL C0 hLX hLM htd hWX hWM hap hS hi0 hiL hl hce hsl kk
  by_cases q29 : x2 = 26
  · refine lv_tableIn (tgt := 1090) hx hb dL_law_33 (by rw [q29]; decide) (by rw [q29]; decide) (by rw [q29]; rfl) (by decide) ?_
    exact lc_26 l hK hA hAi hSt hKn hL C0 hLX hLM htd hWX hWM hap hS hi0 hiL hl hce hsl kk
  by_cases q30 : x2 = 27
  · refine lv_tableIn (tgt := 1133) hx hb dL_law_33 (by rw [q30]; decide) (by rw [q30]; decide) (by rw [q30]; rfl) (by decide) ?_
    exact lc_27 l hK hA hAi hSt hKn hL C0 hLX hLM htd hWX hWM hap hS hi0 hiL hl hce hsl kk
  by_cases q31 : x2 = 28
  · refine lv_tableIn (tgt := 1166) hx hb dL_law_33 (by rw [q31]; decide) (by rw [q31]; decide) (by rw [q31]; rfl) (by decide) ?_
    exact lc_28 l hK hA hAi hSt hKn hL C0 hLX hLM htd hWX hWM hap hS hi0 hiL hl hce hsl kk
  by_cases q32 : x2 = 29
  · refine lv_tableIn (tgt := 1241) hx hb dL_law_33 (by rw [q32]; decide) (by rw [q32]; decide) (by rw [q32]; rfl) (by decide) ?_
    exact lc_29 l hK hA hAi hSt hKn hL C0 hLX hLM htd hWX hWM hap hS hi0 hiL hl hce hsl kk
  by_cases q33 : x2 = 30
  · refine lv_tableIn (tgt := 1274) hx hb dL_law_33 (by rw [q33]; decide) (by rw [q33]; decide) (by rw [q33]; rfl) (by decide) ?_
    exact lc_30 l hK hA hAi hSt hKn hL C0 hLX hLM htd hWX hWM hap hS hi0 hiL hl hce hsl kk
  by_cases q34 : x2 = 31
  · refine lv_tableIn (tgt := 1307) hx hb dL_law_33 (by rw [q34]; decide) (by rw [q34]; decide) (by rw [q34]; rfl) (by decide) ?_
    exact lc_31 l hK hA hAi hSt hKn hL C0 hLX hLM htd hWX hWM hap hS hi0 hiL hl hce hsl kk
  by_cases q35 : x2 = 32
  · refine lv_tableIn (tgt := 1350) hx hb dL_law_33 (by rw [q35]; decide) (by rw [q35]; decide) (by rw [q35]; rfl) (by decide) ?_
    exact lc_32 l hK hA hAi hSt hKn hL C0 hLX hLM htd hWX hWM hap hS hi0 hiL hl hce hsl kk
  by_cases q36 : x2 = 33
  · refine lv_tableIn (tgt := 1403) hx hb dL_law_33 (by rw [q36]; decide) (by rw [q36]; decide) (by rw [q36]; rfl) (by decide) ?_
    exact lc_33 l hK hA hAi hSt hKn hL C0 hLX hLM htd hWX hWM hap hS hi0 hiL hl hce hsl kk
  by_cases q37 : x2 = 34
  · refine lv_tableIn (tgt := 1436) hx hb dL_law_33 (by rw [q37]; decide) (by rw [q37]; decide) (by rw [q37]; rfl) (by decide) ?_
    exact lc_34 l hK hA hAi hSt hKn hL C0 hLX hLM htd hWX hWM hap hS hi0 hiL hl hce hsl kk
  by_cases q38 : x2 = 35
  · refine lv_tableIn (tgt := 1485) hx hb dL_law_33 (by rw [q38]; decide) (by rw [q38]; decide) (by rw [q38]; rfl) (by decide) ?_
    exact lc_35 l hK hA hAi hSt hKn hL C0 hLX hLM htd hWX hWM hap hS hi0 hiL hl hce hsl kk
  have q3 := z_f_ne rfl z_l0 q3
  have q4 := z_f_ne rfl z_l1 q4
  have q5 := z_f_ne rfl z_l2 q5
  have q6 := z_f_ne rfl z_l3 q6
  have q7 := z_f_ne rfl z_l4 q7
  have q8 := z_f_ne rfl z_l5 q8
  have q9 := z_f_ne rfl z_l6 q9
  have q10 := z_f_ne rfl z_l7 q10
  have q11 := z_f_ne rfl z_l8 q11
  have q12 := z_f_ne rfl z_l9 q12
  have q13 := z_f_ne rfl z_l10 q13
  have q14 := z_f_ne rfl z_l11 q14
  have q15 := z_f_ne rfl z_l12 q15
  have q16 := z_f_ne rfl z_l13 q16
  have q17 := z_f_ne rfl z_l14 q17
  have q18 := z_f_ne rfl z_l15 q18
  have q19 := z_f_ne rfl z_l16 q19
  have q20 := z_f_ne rfl z_l17 q20
  have q21 := z_f_ne rfl z_l18 q21
  have q22 := z_f_ne rfl z_l19 q22
  have q23 := z_f_ne rfl z_l20 q23
  have q24 := z_f_ne rfl z_l21 q24
  have q25 := z_f_ne rfl z_l22 q25
  have q26 := z_f_ne rfl z_l23 q26
  have q27 := z_f_ne rfl z_l24 q27
  have q28 := z_f_ne rfl z_l25 q28
  have q29 := z_f_ne rfl z_l26 q29
  have q30 := z_f_ne rfl z_l27 q30
  have q31 := z_f_ne rfl z_l28 q31
  have q32 := z_f_ne rfl z_l29 q32
  have q33 := z_f_ne rfl z_l30 q33
  have q34 := z_f_ne rfl z_l31 q34
  have q35 := z_f_ne rfl z_l32 q35
  have q36 := z_f_ne rfl z_l33 q36
  have q37 := z_f_ne rfl z_l34 q37
  have q38 := z_f_ne rfl z_l35 q38
  refine lv_tableOut (tgt := 1508) hx hb dL_law_33 (by omega) (by decide) ?_
  refine W.widen (k := cells + 8) (n := slots + 2006) (by omega) (by omega) ?_
  exact kk c ad Ix Im Jm _ _ _ hLX hLM htd hWX hWM hap hS hl
theorem lc_end {p : Program} {e : Env} {s : State} {m : MethodId} {below : List Frame} {meth : Method} {c0 : Code} {b L : Nat} {xs : Nat → Int32} (l : Launch) (C0 : lw_At p s m meth c0 b L xs) {A : Nat → Prop} (hAi : ∀ q : Nat, A q → s.heap.size ≤ q) {H : Heap} {locs : List Loc} {ls : Array Slot} {cells slots : Nat} (hc : cells ≤ 600000) (hs : slots ≤ 7302250) (hS : va_S A s.heap H locs) : W p l e room_1 s m #[Value.ref b] below meth c0 H locs (cells) (slots) (lw_Z below #[Value.ref b] s) (F0 m 1514 ls []) := by
  obtain ⟨hx, hb, hr, hml, hown, hts0, hX, hbl, hlocks, hgv⟩ := id C0
  refine lv_iconst (v := 1) hx hb dL_law_1514 (by decide) ?_
  refine va_forget (fun q hq => hAi _ (hS.2.2 q hq)) ?_
  refine W.widen (k := 600000) (n := 7302250) hc hs ?_
  exact lw_ret hx hb hr hlocks dL_law_1515
set_option maxHeartbeats 8000000 in
set_option maxRecDepth 100000 in
theorem law_loop {p : Program} {e : Env} {s : State} {m : MethodId} {below : List Frame} {meth : Method} {c0 : Code} {b L : Nat} {xs : Nat → Int32} (l : Launch) {G : z_G} {A : Nat → Prop} {adK adV : Nat → Nat} (hK : z_K G s) (hA : ∀ q : Nat, s.heap.size ≤ q → A q) (hAi : ∀ q : Nat, A q → s.heap.size ≤ q) (hSt : z_St A s s.heap) (hKn : z_Cq adK adV A s s.heap) (hL : L ≤ 3584) (C0 : lw_At p s m meth c0 b L xs) {adM : Nat → Nat} : ∀ (f : Nat) (c : z_C) (ad : Nat → Nat) (Ix Im : z_I) (Jm : z_J) (H : Heap) (locs : List Loc) (ls : Array Slot) (i : Int32) (cells slots : Nat), z_LX c Ix → z_LM Im → z_EQ Ix Im → z_W G A (shC c, ad, Ix, JX, PC c ad) H → z_W G A (shM, adM, Im, Jm, PM adM) H → (∀ i j, shC c i ≠ none → shM j ≠ none → ad i ≠ adM j) → va_S A s.heap H locs → 0 ≤ i.toInt → i.toInt ≤ 3584 → (L : Int) - i.toInt ≤ 7 * (f : Int) → lv_has ls 4 [(3, .int i), (2, .ref (adM 0)), (1, .ref (ad 0)), (0, .ref b)] → cells + 8 * f ≤ 600000 → slots + 2006 * f ≤ 7302250 → W p l e room_1 s m #[Value.ref b] below meth c0 H locs (cells) (slots) (lw_Z below #[Value.ref b] s) (F0 m 18 ls []) := by
  obtain ⟨hx, hb, hr, hml, hown, hts0, hX, hbl, hlocks, hgv⟩ := id C0
  have hbA : ¬ A b := fun h => absurd (hAi b h) (Nat.not_le.mpr hbl)
  intro f
  induction f with
  | zero =>
    intro c ad Ix Im Jm H locs ls i cells slots hLX hLM htd hWX hWM hap hS hi0 hi1 hm hl hce hsl
    refine lv_iload_n hx hb dL_law_18 rfl (lv_at hl 0 rfl) ?_
    refine lv_aload_n hx hb dL_law_19 rfl (lv_at hl 3 rfl) ?_
    refine va_slen hx hb hX hbl hbA hS dL_law_20 ?_
    refine lv_topi (fun y ey => ?_)
    have ty : y.toInt = (L : Int) := by rw [ey]; exact nI_toInt (by omega)
    refine lv_bipush (v := 7) hx hb dL_law_21 (by decide) ?_
    refine lv_isub hx hb dL_law_23 ?_
    refine lv_topi (fun z ez => ?_)
    have tz : z.toInt = (L : Int) - 7 := z_tsub ez ty (show (7 : Int32).toInt = 7 by decide) (by omega) (by omega)
    refine lv_icmp_gt (tgt := 1514) hx hb dL_law_24 (by decide) (fun c1 => ?_) (fun c1 => absurd (z_f_ngt rfl tz c1) (by omega))
    exact lc_end l C0 hAi (by omega) (by omega) hS
  | succ f ih =>
    intro c ad Ix Im Jm H locs ls i cells slots hLX hLM htd hWX hWM hap hS hi0 hi1 hm hl hce hsl
    refine lv_iload_n hx hb dL_law_18 rfl (lv_at hl 0 rfl) ?_
    refine lv_aload_n hx hb dL_law_19 rfl (lv_at hl 3 rfl) ?_
    refine va_slen hx hb hX hbl hbA hS dL_law_20 ?_
    refine lv_topi (fun y ey => ?_)
    have ty : y.toInt = (L : Int) := by rw [ey]; exact nI_toInt (by omega)
    refine lv_bipush (v := 7) hx hb dL_law_21 (by decide) ?_
    refine lv_isub hx hb dL_law_23 ?_
    refine lv_topi (fun z ez => ?_)
    have tz : z.toInt = (L : Int) - 7 := z_tsub ez ty (show (7 : Int32).toInt = 7 by decide) (by omega) (by omega)
    refine lv_icmp_gt (tgt := 1514) hx hb dL_law_24 (by decide) (fun c1 => ?_) (fun c1 => ?_)
    · exact lc_end l C0 hAi (by omega) (by omega) hS
    · have g1 := z_f_ngt rfl tz c1
      refine law_body l hK hA hAi hSt hKn hL C0 hLX hLM htd hWX hWM hap hS hi0 (by omega) hl (by omega) (by omega) ?_
      intro c ad Ix Im Jm H locs ls hLX hLM htd hWX hWM hap hS hl
      obtain ⟨y2, ey2⟩ : ∃ y2 : Int32, y2 = i + 7 := ⟨_, rfl⟩
      have ty2 : y2.toInt = i.toInt + 7 := z_tadd ey2 rfl (show (7 : Int32).toInt = 7 by decide) (by omega) (by omega)
      refine lv_iinc (v := y2) (lv' := [(3, .int y2), (2, .ref (adM 0)), (1, .ref (ad 0)), (0, .ref b)]) hx hb dL_law_1508 hl (k := 0) rfl (by rw [ey2]; rfl) (by decide) rfl (fun ls hl => ?_)
      refine lv_goto (tgt := 18) hx hb dL_law_1511 (by decide) ?_
      exact ih c ad Ix Im Jm H locs ls y2 _ _ hLX hLM htd hWX hWM hap hS (by omega) (by omega) (by omega) hl (by omega) (by omega)

theorem z_St0 {b : Nat} {s : State} {A : Nat → Prop} (hgv : (Jvm.Cond.and given_1 narrow_1).before #[Value.ref b] s = true) (hts0 : ∀ w ∈ lw_tbl, w.before #[Value.ref b] s = true) (hnA : ∀ a : Nat, a < s.heap.size → ¬ A a) : z_St A s s.heap := by
  have hs := flat_of_before _ hgv
  have harr : (Cond.arrayOf (.static "PetrolBoard" "USUAL" "[I") .int).before #[Value.ref b] s = true := hs _ (by decide +kernel)
  have hlen : (Cond.eq (.length (.static "PetrolBoard" "USUAL" "[I")) (.int 5)).before #[Value.ref b] s = true := hs _ (by decide +kernel)
  have h0 : (Cond.eq (.elem (.static "PetrolBoard" "USUAL" "[I") (.int 0)) (.int 10)).before #[Value.ref b] s = true := hs _ (by decide +kernel)
  have h1 : (Cond.eq (.elem (.static "PetrolBoard" "USUAL" "[I") (.int 1)) (.int 1)).before #[Value.ref b] s = true := hs _ (by decide +kernel)
  have h2 : (Cond.eq (.elem (.static "PetrolBoard" "USUAL" "[I") (.int 2)) (.int 5)).before #[Value.ref b] s = true := hs _ (by decide +kernel)
  have h3 : (Cond.eq (.elem (.static "PetrolBoard" "USUAL" "[I") (.int 3)) (.int 0)).before #[Value.ref b] s = true := hs _ (by decide +kernel)
  have h4 : (Cond.eq (.elem (.static "PetrolBoard" "USUAL" "[I") (.int 4)) (.int 20)).before #[Value.ref b] s = true := hs _ (by decide +kernel)
  obtain ⟨t, ht, hT⟩ := va_Tof (N := 5) (f := z_us) (A := A) (tm := .static "PetrolBoard" "USUAL" "[I") (ty := .int) (by decide) harr (va_eqt hlen) (fun j hj => by
    match j, hj with
    | 0, _ => exact va_eqt h0
    | 1, _ => exact va_eqt h1
    | 2, _ => exact va_eqt h2
    | 3, _ => exact va_eqt h3
    | 4, _ => exact va_eqt h4
    | k + 5, hj => exact absurd hj (by omega)) hnA
  exact ⟨t, va_Zref (hts0 (.laysStatic "PetrolBoard" "USUAL" "[I") (tn_4 (List.mem_of_getElem? (i := 20) rfl))) (hts0 (.initialized "PetrolBoard") (tn_1 (List.mem_of_getElem? (i := 1) rfl))) ht hnA, hT⟩

/-- the law from its entry -/
theorem whole_start {p : Program} {e : Env} {s : State} {m : MethodId} {below : List Frame} {meth : Method} {c : Code} (l : Launch) (hflags : l.flags = flags0) {b L : Nat} {xs : Nat → Int32} (hL : L ≤ 3584) (C0 : lw_At p s m meth c b L xs) : W p l e room_1 s m #[Value.ref b] below meth c s.heap [] 0 0 (lw_Z below #[Value.ref b] s) (entryFrame m ([Value.ref b] : List Value).toArray 4) := by
  obtain ⟨hx, hb, hr, hml, hown, hts0, hX, hbl, hlocks, hgv⟩ := id C0
  have hown : s.vm.findClass RL = some m.cls := hown
  have hts : ∀ w ∈ wsL_law, w.before #[Value.ref b] s = true := fun w hw => hts0 w (wsL_law_in w hw)
  obtain ⟨G, hK⟩ := z_K0 hts hts0
  obtain ⟨A, hA, hAi⟩ : ∃ A : Nat → Prop, (∀ q : Nat, s.heap.size ≤ q → A q) ∧ ∀ q : Nat, A q → s.heap.size ≤ q := ⟨fun q => s.heap.size ≤ q, fun _ h => h, fun _ h => h⟩
  have hSt : z_St A s s.heap := z_St0 hgv hts0 (fun a h q => absurd (hAi a q) (Nat.not_le.mpr h))
  obtain ⟨ad, ad0, had⟩ : ∃ ad : Nat → Nat, ad 0 = s.heap.size ∧ ∀ k i, ad (i + k) = ad i + k := ⟨fun i => s.heap.size + i, rfl, fun k i => (Nat.add_assoc s.heap.size i k).symm⟩
  have hS : va_S A s.heap s.heap [] := va_S.rf
  have hW : z_W G A ((fun _ => none), ad, IX0, z_J0, (PX0 ad)) s.heap := ⟨fun i x h => (by cases h), fun i j h => absurd rfl h, fun i h => absurd rfl h⟩
  have hl := lv_entry ([.ref b]) (n := 4) (Nat.le_of_ble_eq_true rfl)
  rw [lg_entry_eq]
  generalize (lg_sl ([.ref b]) ++ List.replicate (4 - (lg_sl ([.ref b])).length) Slot.unset).toArray = ls at hl ⊢
  have hl : lv_has ls 4 [(0, .ref b)] := hl
  refine z_new 0 ad (T := TX11) (N := 13) (ci := 11) hx hb hts inlX11 tyX11 tyX11_ok hown (hts (.classLink RL 7 RX11) (List.mem_of_getElem? (i := 0) rfl)) (hts (.instantiable RX11 13) (List.mem_of_getElem? (i := 1) rfl)) (hts (.initialized RX11) (List.mem_of_getElem? (i := 2) rfl)) hK hW hS hA ad0 (fun _ _ => rfl) rfl (fun k hk => (z_v0 rfl rfl rfl (ndX11 k hk)).symm) (Nat.le_of_ble_eq_true rfl) (Nat.le_of_ble_eq_true rfl) dL_law_0 (fun H hz1 hW hS => ?_)
  have hW : z_W G A (shX0, ad, IX0, z_J0, (PX0 ad)) H := hW
  have hz : H.size = ad 1 := hz1.trans ((congrArg (· + 1) ad0.symm).trans (had 1 0).symm)
  refine lv_dup hx hb dL_law_3 rfl ?_
  refine z_cc hW hS hA (va_runI (As := []) (rest := [.ref (ad 0)]) ⟨hx, hb, hml, hown, hts0⟩ (ct_X11_init l G ad had _ hz) (cwI 0 hts0 gT_X11_init rfl rfl rfl (hts (.initialized RX11) (List.mem_of_getElem? (i := 2) rfl)) (hts (.methodLink RL 9 yX11_init) (List.mem_of_getElem? (i := 6) rfl)) (hts (.instanceMethod yX11_init) (List.mem_of_getElem? (i := 7) rfl)) rfl (by decide +kernel) ⟨Nat.le_of_ble_eq_true rfl, Nat.le_of_ble_eq_true rfl⟩) (z_preS hK hW) rfl rfl hl.1 rfl (lv_room (Nat.le_of_ble_eq_true rfl)) dL_law_4 ⟨Nat.le_of_ble_eq_true rfl, Nat.le_of_ble_eq_true rfl⟩) (fun H locs hz1 hW hS => ?_)
  have hz : H.size = ad 75 := hz1.trans ((congrArg (· + 74) hz).trans (had 74 1).symm)
  have hWX := z_convX hW
  refine lv_astore_n (lv' := [(1, .ref (ad 0)), (0, .ref b)]) hx hb dL_law_7 rfl hl (by decide) rfl (fun ls hl => ?_)
  refine z_new 75 ad (T := TX12) (N := 96) (ci := 12) hx hb hts inlX12 tyX12 tyX12_ok hown (hts (.classLink RL 10 RX12) (List.mem_of_getElem? (i := 3) rfl)) (hts (.instantiable RX12 96) (List.mem_of_getElem? (i := 4) rfl)) (hts (.initialized RX12) (List.mem_of_getElem? (i := 5) rfl)) hK hWX hS hA hz.symm (fun _ _ => rfl) rfl (fun k hk => (z_v0 rfl rfl rfl (ndX12 k hk)).symm) (Nat.le_of_ble_eq_true rfl) (Nat.le_of_ble_eq_true rfl) dL_law_8 (fun H hz1 hW hS => ?_)
  have hne : ∀ i x, shX i = some x → z_sh shX 75 (.inr 12) i = some x := fun i x hi => by
    have hlt := z_ltX i (z_ne hi)
    rw [z_sh, if_neg (by omega)]
    exact hi
  have hnn : ∀ i, shX i ≠ none → z_sh shX 75 (.inr 12) i ≠ none := fun i hi => by
    have hlt := z_ltX i hi
    rw [z_sh, if_neg (by omega)]
    exact hi
  have hWX : z_W G A (shX, ad, IX, JX, PX ad) H := ⟨fun i x hi => (hW.1 i x (hne i x hi)).kept rfl rfl (fun _ _ => rfl), fun i j hi hj h => hW.2.1 i j (hnn i hi) (hnn j hj) h, fun i hi => hW.2.2 i (hnn i hi)⟩
  obtain ⟨adM, hM⟩ : ∃ adM : Nat → Nat, adM = fun i => ad (75 + i) := ⟨_, rfl⟩
  have hM0 : adM 0 = ad 75 := by rw [hM]
  have hadM : ∀ k i, adM (i + k) = adM i + k := fun k i => by
    rw [hM]
    show ad (75 + (i + k)) = ad (75 + i) + k
    rw [← Nat.add_assoc]
    exact had k (75 + i)
  have hsh0 : ∀ i, shM0 i ≠ none → i = 0 := fun i hi => by
    rcases Nat.eq_zero_or_pos i with q | q
    · exact q
    · exact absurd (show z_sh (fun _ => none) 0 (.inr 12) i = none by rw [z_sh, if_neg (by omega)]) hi
  have hWM : z_W G A (shM0, adM, IM0, z_J0, (PM0 adM)) H := by
    refine ⟨fun i x hi => ?_, fun i j hi hj _ => by rw [hsh0 i hi, hsh0 j hj], fun i hi => ?_⟩
    · have e := hsh0 i (z_ne hi)
      subst e
      obtain rfl : _ = x := Option.some.inj hi
      refine (hW.1 75 (.inr 12) rfl).toO (u1 := (shM0, adM, IM0, z_J0, (PM0 adM))) rfl hM0 (fun k hk => ?_)
      generalize z_tf 12 k = ty
      cases ty <;> rfl
    · have e := hsh0 i hi
      subst e
      show A (adM 0)
      rw [hM0]
      exact hW.2.2 75 (fun h => by cases h)
  have hap0 : ∀ i j, j < 75 → adM i ≠ ad j := fun i j hj h => by
    have h1 := had (75 + i) 0
    have h2 := had j 0
    rw [Nat.zero_add] at h1 h2
    rw [hM] at h
    have h : ad (75 + i) = ad j := h
    omega
  have hz : H.size = adM 1 := hz1.trans ((congrArg (· + 1) (hz.trans hM0.symm)).trans (hadM 1 0).symm)
  refine W.eq (g2 := F0 m 11 ls [.ref (adM 0)]) (by rw [hM0]) ?_
  refine lv_dup hx hb dL_law_11 rfl ?_
  refine z_ccF hWM hWX (fun i j _ hj => hap0 i j (z_ltX j hj)) hS hA (va_runI (As := []) (rest := [.ref (adM 0)]) ⟨hx, hb, hml, hown, hts0⟩ (ct_X12_init l G adM hadM _ hz) (cwI 0 hts0 gT_X12_init rfl rfl rfl (hts (.initialized RX12) (List.mem_of_getElem? (i := 5) rfl)) (hts (.methodLink RL 12 yX12_init) (List.mem_of_getElem? (i := 143) rfl)) (hts (.instanceMethod yX12_init) (List.mem_of_getElem? (i := 144) rfl)) rfl (by decide +kernel) ⟨Nat.le_of_ble_eq_true rfl, Nat.le_of_ble_eq_true rfl⟩) (z_preS hK hWM) rfl rfl hl.1 rfl (lv_room (Nat.le_of_ble_eq_true rfl)) dL_law_12 ⟨Nat.le_of_ble_eq_true rfl, Nat.le_of_ble_eq_true rfl⟩) (fun H locs hz1 hWM hWX hS => ?_)
  have hWM := z_convM hWM
  refine lv_astore_n (lv' := [(2, .ref (adM 0)), (1, .ref (ad 0)), (0, .ref b)]) hx hb dL_law_15 rfl hl (by decide) rfl (fun ls hl => ?_)
  refine lv_iconst (v := 0) hx hb dL_law_16 (by decide) ?_
  refine lv_istore_n (lv' := [(3, .int 0), (2, .ref (adM 0)), (1, .ref (ad 0)), (0, .ref b)]) hx hb dL_law_17 rfl hl (by decide) rfl (fun ls hl => ?_)
  obtain ⟨adK, adV, hKn⟩ := z_Ck0 hgv hts0 (fun a h q => absurd (hAi a q) (Nat.not_le.mpr h))
  have hWX := z_toC hWX
  exact law_loop l hK hA hAi hSt hKn hL C0 512 (0, 0, (fun _ => 0), (fun _ => 0)) ad IX IM JM _ _ _ 0 _ _ z_LX0 z_LM0 z_EQ0 hWX hWM (fun i j hi _ h => hap0 j i (z_ltX i (by rw [← z_shC0]; exact hi)) h.symm) hS (by decide) (by decide) (by rw [show ((0 : Int32)).toInt = 0 by decide]; omega) hl (by decide) (by decide)

