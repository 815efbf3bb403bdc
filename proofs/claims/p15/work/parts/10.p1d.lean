theorem dX0_has_0 : decode cX0_has 0 = .ok (.iload_n 1, 1) := by decide +kernel
theorem dX0_has_1 : decode cX0_has 1 = .ok (.bipush 100, 2) := by decide +kernel
theorem dX0_has_3 : decode cX0_has 3 = .ok (.idiv, 1) := by decide +kernel
theorem dX0_has_4 : decode cX0_has 4 = .ok (.istore_n 2, 1) := by decide +kernel
theorem dX0_has_5 : decode cX0_has 5 = .ok (.iload_n 1, 1) := by decide +kernel
theorem dX0_has_6 : decode cX0_has 6 = .ok (.ifCond .lt 29, 3) := by decide +kernel
theorem dX0_has_35 : decode cX0_has 35 = .ok (.iconst 0, 1) := by decide +kernel
theorem dX0_has_36 : decode cX0_has 36 = .ok (.ireturn, 1) := by decide +kernel
theorem dX0_has_9 : decode cX0_has 9 = .ok (.iload_n 2, 1) := by decide +kernel
theorem dX0_has_10 : decode cX0_has 10 = .ok (.aload_n 0, 1) := by decide +kernel
theorem dX0_has_11 : decode cX0_has 11 = .ok (.getfield 9, 3) := by decide +kernel
theorem dX0_has_14 : decode cX0_has 14 = .ok (.arraylength, 1) := by decide +kernel
theorem dX0_has_15 : decode cX0_has 15 = .ok (.if_icmp .ge 20, 3) := by decide +kernel
theorem dX0_has_18 : decode cX0_has 18 = .ok (.iload_n 1, 1) := by decide +kernel
theorem dX0_has_19 : decode cX0_has 19 = .ok (.bipush 100, 2) := by decide +kernel
theorem dX0_has_21 : decode cX0_has 21 = .ok (.irem, 1) := by decide +kernel
theorem dX0_has_22 : decode cX0_has 22 = .ok (.aload_n 0, 1) := by decide +kernel
theorem dX0_has_23 : decode cX0_has 23 = .ok (.getfield 9, 3) := by decide +kernel
theorem dX0_has_26 : decode cX0_has 26 = .ok (.iload_n 2, 1) := by decide +kernel
theorem dX0_has_27 : decode cX0_has 27 = .ok (.iaload, 1) := by decide +kernel
theorem dX0_has_28 : decode cX0_has 28 = .ok (.if_icmp .ge 7, 3) := by decide +kernel
theorem dX12_isCoupon_0 : decode cX12_isCoupon 0 = .ok (.iload_n 1, 1) := by decide +kernel
theorem dX12_isCoupon_1 : decode cX12_isCoupon 1 = .ok (.ifCond .lt 31, 3) := by decide +kernel
theorem dX12_isCoupon_32 : decode cX12_isCoupon 32 = .ok (.iconst 0, 1) := by decide +kernel
theorem dX12_isCoupon_33 : decode cX12_isCoupon 33 = .ok (.ireturn, 1) := by decide +kernel
theorem dX12_isCoupon_4 : decode cX12_isCoupon 4 = .ok (.iload_n 1, 1) := by decide +kernel
theorem dX12_isCoupon_5 : decode cX12_isCoupon 5 = .ok (.ldc 109, 2) := by decide +kernel
theorem dX12_isCoupon_7 : decode cX12_isCoupon 7 = .ok (.if_icmp .ge 25, 3) := by decide +kernel
theorem dX12_isCoupon_10 : decode cX12_isCoupon 10 = .ok (.aload_n 0, 1) := by decide +kernel
theorem dX12_isCoupon_11 : decode cX12_isCoupon 11 = .ok (.getfield 106, 3) := by decide +kernel
theorem dX12_isCoupon_14 : decode cX12_isCoupon 14 = .ok (.iload_n 1, 1) := by decide +kernel
theorem dX12_isCoupon_15 : decode cX12_isCoupon 15 = .ok (.bipush 100, 2) := by decide +kernel
theorem dX12_isCoupon_17 : decode cX12_isCoupon 17 = .ok (.idiv, 1) := by decide +kernel
theorem dX12_isCoupon_18 : decode cX12_isCoupon 18 = .ok (.iaload, 1) := by decide +kernel
theorem dX12_isCoupon_19 : decode cX12_isCoupon 19 = .ok (.iconst 1, 1) := by decide +kernel
theorem dX12_isCoupon_20 : decode cX12_isCoupon 20 = .ok (.isub, 1) := by decide +kernel
theorem dX12_isCoupon_21 : decode cX12_isCoupon 21 = .ok (.iload_n 1, 1) := by decide +kernel
theorem dX12_isCoupon_22 : decode cX12_isCoupon 22 = .ok (.bipush 100, 2) := by decide +kernel
theorem dX12_isCoupon_24 : decode cX12_isCoupon 24 = .ok (.irem, 1) := by decide +kernel
theorem dX12_isCoupon_25 : decode cX12_isCoupon 25 = .ok (.if_icmp .le 7, 3) := by decide +kernel
theorem dX0_ownerOf_0 : decode cX0_ownerOf 0 = .ok (.aload_n 0, 1) := by decide +kernel
theorem dX0_ownerOf_1 : decode cX0_ownerOf 1 = .ok (.iload_n 1, 1) := by decide +kernel
set_option maxRecDepth 20000 in
theorem ggX0_ownerOf_X0_has : GoodIn wsX0_ownerOf wsX0_has := goodIn_r _ [6, 7, 17, 18, 19, 20, 21] rfl (by decide +kernel)
set_option maxRecDepth 20000 in
theorem gX0_ownerOf_X0_has : GoodIn wsX0_ownerOf (wsV RX0 38 RX0 yX0_has wsX0_has) := goodIn_app (goodIn_r _ [2, 3, 4, 5] rfl (by decide +kernel)) ggX0_ownerOf_X0_has
theorem dX0_ownerOf_2 : decode cX0_ownerOf 2 = .ok (.invokevirtual 38, 3) := by decide +kernel
theorem dX0_ownerOf_5 : decode cX0_ownerOf 5 = .ok (.ifCond .ne 5, 3) := by decide +kernel
theorem dX0_ownerOf_8 : decode cX0_ownerOf 8 = .ok (.iconst (-1), 1) := by decide +kernel
theorem dX0_ownerOf_9 : decode cX0_ownerOf 9 = .ok (.ireturn, 1) := by decide +kernel
theorem dX11_owner_0 : decode cX11_owner 0 = .ok (.aload_n 0, 1) := by decide +kernel
theorem dX11_owner_1 : decode cX11_owner 1 = .ok (.getfield 37, 3) := by decide +kernel
theorem dX11_owner_4 : decode cX11_owner 4 = .ok (.iload_n 1, 1) := by decide +kernel
set_option maxRecDepth 20000 in
theorem ggX11_owner_X0_ownerOf : GoodIn wsX11_owner wsX0_ownerOf := goodIn_r _ [6, 7, 8, 9, 10, 5, 11, 12, 13, 14, 15, 16, 17, 18, 19, 20, 21, 35, 36, 37, 38, 39] rfl (by decide +kernel)
set_option maxRecDepth 20000 in
theorem gX11_owner_X0_ownerOf : GoodIn wsX11_owner (wsV RX11 175 RX0 yX0_ownerOf wsX0_ownerOf) := goodIn_app (goodIn_r _ [2, 3, 4, 5] rfl (by decide +kernel)) ggX11_owner_X0_ownerOf
theorem dX11_owner_5 : decode cX11_owner 5 = .ok (.invokevirtual 175, 3) := by decide +kernel
theorem dX11_owner_8 : decode cX11_owner 8 = .ok (.ireturn, 1) := by decide +kernel
theorem dX11_lend_0 : decode cX11_lend 0 = .ok (.aload_n 0, 1) := by decide +kernel
theorem dX11_lend_1 : decode cX11_lend 1 = .ok (.getfield 37, 3) := by decide +kernel
theorem dX11_lend_4 : decode cX11_lend 4 = .ok (.iload_n 1, 1) := by decide +kernel
set_option maxRecDepth 20000 in
theorem ggX11_lend_X0_has : GoodIn wsX11_lend wsX0_has := goodIn_r _ [10, 11, 92, 93, 94, 95, 96] rfl (by decide +kernel)
set_option maxRecDepth 20000 in
theorem gX11_lend_X0_has : GoodIn wsX11_lend (wsV RX11 156 RX0 yX0_has wsX0_has) := goodIn_app (goodIn_r _ [6, 7, 8, 9] rfl (by decide +kernel)) ggX11_lend_X0_has
theorem dX11_lend_5 : decode cX11_lend 5 = .ok (.invokevirtual 156, 3) := by decide +kernel
theorem dX11_lend_8 : decode cX11_lend 8 = .ok (.ifCond .eq 22, 3) := by decide +kernel
theorem dX11_lend_30 : decode cX11_lend 30 = .ok (.iconst 0, 1) := by decide +kernel
theorem dX11_lend_31 : decode cX11_lend 31 = .ok (.ireturn, 1) := by decide +kernel
theorem dX12_owner_0 : decode cX12_owner 0 = .ok (.aload_n 0, 1) := by decide +kernel
theorem dX12_owner_1 : decode cX12_owner 1 = .ok (.iload_n 1, 1) := by decide +kernel
set_option maxRecDepth 20000 in
theorem ggX12_owner_X12_isCoupon : GoodIn wsX12_owner wsX12_isCoupon := goodIn_r _ [5, 6, 7, 13, 14, 15, 16, 17, 18, 19, 20, 21, 22, 23, 24, 25, 26, 27, 28, 29, 30, 31, 32, 33, 34, 35, 36, 37, 38, 39, 40, 41, 42, 43, 44, 45, 46, 47, 48, 49, 50, 51, 52, 53, 54, 55, 56, 57, 58, 59, 60, 61, 62, 63, 64, 65, 66, 67, 68, 69, 70, 71, 72, 73, 74, 75, 76, 77, 78, 79, 80, 81, 82, 83, 84, 85, 86, 87, 88, 89, 90, 91, 92, 93, 94, 95, 96, 97, 98, 99, 100, 101, 102, 103, 104, 105, 106, 107, 108] rfl (by decide +kernel)
set_option maxRecDepth 20000 in
theorem gX12_owner_X12_isCoupon : GoodIn wsX12_owner (wsV RX12 452 RX12 yX12_isCoupon wsX12_isCoupon) := goodIn_app (goodIn_r _ [1, 2, 3, 4] rfl (by decide +kernel)) ggX12_owner_X12_isCoupon
theorem dX12_owner_2 : decode cX12_owner 2 = .ok (.invokevirtual 452, 3) := by decide +kernel
theorem dX12_owner_5 : decode cX12_owner 5 = .ok (.ifCond .eq 11, 3) := by decide +kernel
theorem dX12_owner_16 : decode cX12_owner 16 = .ok (.iconst (-1), 1) := by decide +kernel
theorem dX12_owner_17 : decode cX12_owner 17 = .ok (.ireturn, 1) := by decide +kernel
theorem dX12_lend_0 : decode cX12_lend 0 = .ok (.aload_n 0, 1) := by decide +kernel
theorem dX12_lend_1 : decode cX12_lend 1 = .ok (.iload_n 1, 1) := by decide +kernel
set_option maxRecDepth 20000 in
theorem ggX12_lend_X12_isCoupon : GoodIn wsX12_lend wsX12_isCoupon := goodIn_r _ [9, 10, 11, 32, 33, 34, 35, 36, 37, 38, 39, 40, 41, 42, 43, 44, 45, 46, 47, 48, 49, 50, 51, 52, 53, 54, 55, 56, 57, 58, 59, 60, 61, 62, 63, 64, 65, 66, 67, 68, 69, 70, 71, 72, 73, 74, 75, 76, 77, 78, 79, 80, 81, 82, 83, 84, 85, 86, 87, 88, 89, 90, 91, 92, 93, 94, 95, 96, 97, 98, 99, 100, 101, 102, 103, 104, 105, 106, 107, 108, 109, 110, 111, 112, 113, 114, 115, 116, 117, 118, 119, 120, 121, 122, 123, 124, 125, 126, 127] rfl (by decide +kernel)
set_option maxRecDepth 20000 in
theorem gX12_lend_X12_isCoupon : GoodIn wsX12_lend (wsV RX12 452 RX12 yX12_isCoupon wsX12_isCoupon) := goodIn_app (goodIn_r _ [5, 6, 7, 8] rfl (by decide +kernel)) ggX12_lend_X12_isCoupon
theorem dX12_lend_2 : decode cX12_lend 2 = .ok (.invokevirtual 452, 3) := by decide +kernel
theorem dX12_lend_5 : decode cX12_lend 5 = .ok (.ifCond .eq 38, 3) := by decide +kernel
theorem dX12_lend_43 : decode cX12_lend 43 = .ok (.iconst 0, 1) := by decide +kernel
theorem dX12_lend_44 : decode cX12_lend 44 = .ok (.ireturn, 1) := by decide +kernel
theorem dX12_inForce_0 : decode cX12_inForce 0 = .ok (.iconst (-1), 1) := by decide +kernel
theorem dX12_inForce_1 : decode cX12_inForce 1 = .ok (.istore_n 3, 1) := by decide +kernel
theorem dX12_inForce_2 : decode cX12_inForce 2 = .ok (.iconst 0, 1) := by decide +kernel
theorem dX12_inForce_3 : decode cX12_inForce 3 = .ok (.istore 4, 2) := by decide +kernel
theorem dX12_inForce_5 : decode cX12_inForce 5 = .ok (.iload 4, 2) := by decide +kernel
theorem dX12_inForce_7 : decode cX12_inForce 7 = .ok (.aload_n 0, 1) := by decide +kernel
theorem dX12_inForce_8 : decode cX12_inForce 8 = .ok (.getfield 408, 3) := by decide +kernel
theorem dX12_inForce_11 : decode cX12_inForce 11 = .ok (.if_icmp .ge 54, 3) := by decide +kernel
theorem dX12_inForce_65 : decode cX12_inForce 65 = .ok (.iload_n 3, 1) := by decide +kernel
theorem dX12_inForce_66 : decode cX12_inForce 66 = .ok (.ireturn, 1) := by decide +kernel

theorem z_m1r {a : Int32} (h : ¬ a < 0) : (-1 : Int32) ≤ (a - a / 100 * 100) := by
  obtain ⟨j, hj, ej⟩ := nI_of h
  rw [ej, show nI j - nI j / 100 * 100 = nI (j % 100) from pk_rem hj (by decide) (by decide), Int32.le_iff_toInt_le, nI_toInt (by omega)]
  exact Int.le_trans (show (-1 : Int32).toInt ≤ 0 by decide) (Int.natCast_nonneg _)
theorem z_in72 {a : Int32} (h : ¬ a < 0) (h2 : ¬ 72000 ≤ a) : vp_in (a / 100) 720 := by
  obtain ⟨j, hj, ej, ex⟩ := z_d100 h (rfl : a / 100 = a / 100)
  rw [ex]
  refine vp_in_nI ?_ (by decide)
  rcases Nat.lt_or_ge j 72000 with q | q
  · omega
  · exact absurd (by rw [ej]; exact nI_le q hj) h2
theorem zi_X0_has_X0 : ∀ w ∈ wsX00, w ∈ wsX0_has := fun w h => (List.mem_cons_of_mem _ (List.mem_append_right _ h))
set_option maxHeartbeats 4000000 in
set_option maxRecDepth 100000 in
theorem ct_X0_has (l : Launch) (G : z_G) (ad : Nat → Nat) (a1 : Int32) : z_M l yX0_has wsX0_has { frames := 1, cells := 0, slots := 0, locals := 12 } [.ref (ad 26), .int a1] G (shX, ad, IX, JX, PX ad) (fun r u1 => u1 = (shX, ad, IX, JX, PX ad) ∧ r = 0) 0 0 := by
  intro sz
  refine z_headQ (cc := cX0_has) (maxL := 3) (ret := (some .boolean)) (by decide) rfl (Nat.le_of_ble_eq_true rfl) ?_
  intro p e s m below meth c ls hIn hK hsz hW hl
  obtain ⟨hx, hb, hr, hml, hown, hts, hlocks, hname⟩ := hIn
  subst hsz
  have hown : s.vm.findClass RX0 = some m.cls := hown
  have hA : ∀ q : Nat, s.heap.size ≤ q → z_A (shX, ad, IX, JX, PX ad) s.heap.size q := fun q h => Or.inr h
  generalize hAe : z_A (shX, ad, IX, JX, PX ad) s.heap.size = A at *
  have hS : va_S A s.heap s.heap [] := va_S.rf
  have hl : lv_has ls 3 [(0, .ref (ad 26)), (1, .int a1)] := hl
  refine lv_iload_n hx hb dX0_has_0 rfl (lv_at hl 1 rfl) ?_
  refine lv_bipush (v := 100) hx hb dX0_has_1 (by decide) ?_
  refine lv_idiv hx hb dX0_has_3 (by decide) ?_
  refine lv_topi (fun x1 ex1 => ?_)
  refine lv_istore_n (lv' := [(2, .int x1), (0, .ref (ad 26)), (1, .int a1)]) hx hb dX0_has_4 rfl hl (by decide) rfl (fun ls hl => ?_)
  refine lv_iload_n hx hb dX0_has_5 rfl (lv_at hl 2 rfl) ?_
  refine lv_if_lt (tgt := 35) hx hb dX0_has_6 (by decide) (fun c2 => ?_) (fun c2 => ?_)
  · refine lv_iconst (v := 0) hx hb dX0_has_35 (by decide) ?_
    exact z_zret hx hb hr (by decide) hK hS (Nat.le_of_ble_eq_true rfl) (Nat.le_of_ble_eq_true rfl) hlocks dX0_has_36 (shX, ad, IX, JX, PX ad) hW ⟨rfl, rfl⟩
  · refine lv_iload_n hx hb dX0_has_9 rfl (lv_at hl 0 rfl) ?_
    refine lv_aload_n hx hb dX0_has_10 rfl (lv_at hl 1 rfl) ?_
    refine z_get (T := TX0) (N := 5) (ci := 0) (i := 26) (v := .ref (ad 27)) hx hb hts zi_X0_has_X0 hown hK hW rfl rfl 0 (by decide) (hts (.fieldLink RX0 9 "PetrolBoard$Coupons" "issued" "[I") (List.mem_of_getElem? (i := 1) rfl)) (fun _ h => h) rfl dX0_has_11 ?_
    refine z_alen (i := 27) (v := 720) hx hb hK hW rfl (by simp [z_tys]) (by rfl) dX0_has_14 ?_
    refine lv_icmp_ge (tgt := 35) hx hb dX0_has_15 (by decide) (fun c3 => ?_) (fun c3 => ?_)
    · refine lv_iconst (v := 0) hx hb dX0_has_35 (by decide) ?_
      exact z_zret hx hb hr (by decide) hK hS (Nat.le_of_ble_eq_true rfl) (Nat.le_of_ble_eq_true rfl) hlocks dX0_has_36 (shX, ad, IX, JX, PX ad) hW ⟨rfl, rfl⟩
    · refine lv_iload_n hx hb dX0_has_18 rfl (lv_at hl 2 rfl) ?_
      refine lv_bipush (v := 100) hx hb dX0_has_19 (by decide) ?_
      refine lv_irem hx hb dX0_has_21 (by decide) ?_
      refine lv_aload_n hx hb dX0_has_22 rfl (lv_at hl 1 rfl) ?_
      refine z_get (T := TX0) (N := 5) (ci := 0) (i := 26) (v := .ref (ad 27)) hx hb hts zi_X0_has_X0 hown hK hW rfl rfl 0 (by decide) (hts (.fieldLink RX0 9 "PetrolBoard$Coupons" "issued" "[I") (List.mem_of_getElem? (i := 1) rfl)) (fun _ h => h) rfl dX0_has_23 ?_
      refine lv_iload_n hx hb dX0_has_26 rfl (lv_at hl 0 rfl) ?_
      refine z_iald (i := 27) hx hb hK hW rfl (z_in100 c2 ex1 (by decide) (rfl : (720 : Int32) = nI 720) c3) dX0_has_27 ?_
      refine z_topi (v := (-1)) rfl ?_
      refine lv_icmp_ge (tgt := 35) hx hb dX0_has_28 (by decide) (fun c4 => ?_) (fun c4 => absurd (z_m1r c2) c4)
      refine lv_iconst (v := 0) hx hb dX0_has_35 (by decide) ?_
      exact z_zret hx hb hr (by decide) hK hS (Nat.le_of_ble_eq_true rfl) (Nat.le_of_ble_eq_true rfl) hlocks dX0_has_36 (shX, ad, IX, JX, PX ad) hW ⟨rfl, rfl⟩
theorem zi_X12_isCoupon_X12 : ∀ w ∈ wsX120, w ∈ wsX12_isCoupon := fun w h => (List.mem_cons_of_mem _ (List.mem_append_right _ h))
set_option maxHeartbeats 4000000 in
set_option maxRecDepth 100000 in
theorem ct_X12_isCoupon (l : Launch) (G : z_G) (ad : Nat → Nat) (a1 : Int32) : z_M l yX12_isCoupon wsX12_isCoupon { frames := 1, cells := 0, slots := 0, locals := 12 } [.ref (ad 0), .int a1] G (shM, ad, IM, JM, PM ad) (fun r u1 => u1 = (shM, ad, IM, JM, PM ad) ∧ r = 0) 0 0 := by
  intro sz
  refine z_headQ (cc := cX12_isCoupon) (maxL := 2) (ret := (some .boolean)) (by decide) rfl (Nat.le_of_ble_eq_true rfl) ?_
  intro p e s m below meth c ls hIn hK hsz hW hl
  obtain ⟨hx, hb, hr, hml, hown, hts, hlocks, hname⟩ := hIn
  subst hsz
  have hown : s.vm.findClass RX12 = some m.cls := hown
  have hA : ∀ q : Nat, s.heap.size ≤ q → z_A (shM, ad, IM, JM, PM ad) s.heap.size q := fun q h => Or.inr h
  generalize hAe : z_A (shM, ad, IM, JM, PM ad) s.heap.size = A at *
  have hS : va_S A s.heap s.heap [] := va_S.rf
  have hl : lv_has ls 2 [(0, .ref (ad 0)), (1, .int a1)] := hl
  refine lv_iload_n hx hb dX12_isCoupon_0 rfl (lv_at hl 1 rfl) ?_
  refine lv_if_lt (tgt := 32) hx hb dX12_isCoupon_1 (by decide) (fun c1 => ?_) (fun c1 => ?_)
  · refine lv_iconst (v := 0) hx hb dX12_isCoupon_32 (by decide) ?_
    exact z_zret hx hb hr (by decide) hK hS (Nat.le_of_ble_eq_true rfl) (Nat.le_of_ble_eq_true rfl) hlocks dX12_isCoupon_33 (shM, ad, IM, JM, PM ad) hW ⟨rfl, rfl⟩
  · refine lv_iload_n hx hb dX12_isCoupon_4 rfl (lv_at hl 1 rfl) ?_
    refine lv_ldc (v := 72000) hx hb hown (hts (.constant RX12 109 (72000)) (List.mem_of_getElem? (i := 1) rfl)) dX12_isCoupon_5 ?_
    refine lv_icmp_ge (tgt := 32) hx hb dX12_isCoupon_7 (by decide) (fun c2 => ?_) (fun c2 => ?_)
    · refine lv_iconst (v := 0) hx hb dX12_isCoupon_32 (by decide) ?_
      exact z_zret hx hb hr (by decide) hK hS (Nat.le_of_ble_eq_true rfl) (Nat.le_of_ble_eq_true rfl) hlocks dX12_isCoupon_33 (shM, ad, IM, JM, PM ad) hW ⟨rfl, rfl⟩
    · refine lv_aload_n hx hb dX12_isCoupon_10 rfl (lv_at hl 0 rfl) ?_
      refine z_get (T := TX12) (N := 96) (ci := 12) (i := 0) (v := .ref (ad 31)) hx hb hts zi_X12_isCoupon_X12 hown hK hW rfl rfl 49 (by decide) (hts (.fieldLink RX12 106 "PetrolBoardModel" "issued" "[I") (List.mem_of_getElem? (i := 2) rfl)) (fun _ h => h) rfl dX12_isCoupon_11 ?_
      refine lv_iload_n hx hb dX12_isCoupon_14 rfl (lv_at hl 1 rfl) ?_
      refine lv_bipush (v := 100) hx hb dX12_isCoupon_15 (by decide) ?_
      refine lv_idiv hx hb dX12_isCoupon_17 (by decide) ?_
      refine z_iald (i := 31) hx hb hK hW rfl (z_in72 c1 c2) dX12_isCoupon_18 ?_
      refine z_topi (v := 0) rfl ?_
      refine lv_iconst (v := 1) hx hb dX12_isCoupon_19 (by decide) ?_
      refine lv_isub hx hb dX12_isCoupon_20 ?_
      refine z_topi (v := (-1)) (by decide) ?_
      refine lv_iload_n hx hb dX12_isCoupon_21 rfl (lv_at hl 1 rfl) ?_
      refine lv_bipush (v := 100) hx hb dX12_isCoupon_22 (by decide) ?_
      refine lv_irem hx hb dX12_isCoupon_24 (by decide) ?_
      refine lv_icmp_le (tgt := 32) hx hb dX12_isCoupon_25 (by decide) (fun c3 => ?_) (fun c3 => absurd (z_m1r c1) c3)
      refine lv_iconst (v := 0) hx hb dX12_isCoupon_32 (by decide) ?_
      exact z_zret hx hb hr (by decide) hK hS (Nat.le_of_ble_eq_true rfl) (Nat.le_of_ble_eq_true rfl) hlocks dX12_isCoupon_33 (shM, ad, IM, JM, PM ad) hW ⟨rfl, rfl⟩
set_option maxHeartbeats 4000000 in
set_option maxRecDepth 100000 in
theorem ct_X0_ownerOf (l : Launch) (G : z_G) (ad : Nat → Nat) (a1 : Int32) : z_M l yX0_ownerOf wsX0_ownerOf { frames := 2, cells := 0, slots := 0, locals := 34 } [.ref (ad 26), .int a1] G (shX, ad, IX, JX, PX ad) (fun r u1 => u1 = (shX, ad, IX, JX, PX ad) ∧ r = (-1)) 0 0 := by
  intro sz
  refine z_headQ (cc := cX0_ownerOf) (maxL := 3) (ret := (some .int)) (by decide) rfl (Nat.le_of_ble_eq_true rfl) ?_
  intro p e s m below meth c ls hIn hK hsz hW hl
  obtain ⟨hx, hb, hr, hml, hown, hts, hlocks, hname⟩ := hIn
  subst hsz
  have hown : s.vm.findClass RX0 = some m.cls := hown
  have hA : ∀ q : Nat, s.heap.size ≤ q → z_A (shX, ad, IX, JX, PX ad) s.heap.size q := fun q h => Or.inr h
  generalize hAe : z_A (shX, ad, IX, JX, PX ad) s.heap.size = A at *
  have hS : va_S A s.heap s.heap [] := va_S.rf
  have hl : lv_has ls 3 [(0, .ref (ad 26)), (1, .int a1)] := hl
  refine lv_aload_n hx hb dX0_ownerOf_0 rfl (lv_at hl 0 rfl) ?_
  refine lv_iload_n hx hb dX0_ownerOf_1 rfl (lv_at hl 1 rfl) ?_
  refine z_ci hW hS hA (va_runV (As := [.int a1]) (rest := []) ⟨hx, hb, hml, hown, hts⟩ (ct_X0_has l G ad a1 _) (cwV 1 hts gX0_ownerOf_X0_has rfl rfl rfl (by decide +kernel) ⟨Nat.le_of_ble_eq_true rfl, Nat.le_of_ble_eq_true rfl⟩) (z_preV hK hW rfl rfl) rfl rfl hl.1 rfl (lv_room (Nat.le_of_ble_eq_true rfl)) dX0_ownerOf_2 ⟨Nat.le_of_ble_eq_true rfl, Nat.le_of_ble_eq_true rfl⟩) (fun r u1 H locs hp hW hS => ?_)
  obtain ⟨e9, rfl⟩ := hp
  rw [e9] at hW
  refine lv_if_ne (tgt := 10) hx hb dX0_ownerOf_5 (by decide) (fun c1 => absurd (by decide) c1) (fun c1 => ?_)
  refine lv_iconst (v := (-1)) hx hb dX0_ownerOf_8 (by decide) ?_
  exact z_iret hx hb hr hK hS (Nat.le_of_ble_eq_true rfl) (Nat.le_of_ble_eq_true rfl) hlocks dX0_ownerOf_9 (shX, ad, IX, JX, PX ad) hW ⟨rfl, rfl⟩
theorem zi_X11_owner_X11 : ∀ w ∈ wsX110, w ∈ wsX11_owner := fun w h => (List.mem_cons_of_mem _ (List.mem_append_left _ (List.mem_append_right _ h)))
set_option maxHeartbeats 4000000 in
set_option maxRecDepth 100000 in
theorem ct_X11_owner (l : Launch) (G : z_G) (ad : Nat → Nat) (a1 : Int32) : z_M l yX11_owner wsX11_owner { frames := 3, cells := 0, slots := 0, locals := 56 } [.ref (ad 0), .int a1] G (shX, ad, IX, JX, PX ad) (fun r u1 => r = -1) 0 0 := by
  intro sz
  refine z_headQ (cc := cX11_owner) (maxL := 2) (ret := (some .int)) (by decide) rfl (Nat.le_of_ble_eq_true rfl) ?_
  intro p e s m below meth c ls hIn hK hsz hW hl
  obtain ⟨hx, hb, hr, hml, hown, hts, hlocks, hname⟩ := hIn
  subst hsz
  have hown : s.vm.findClass RX11 = some m.cls := hown
  have hA : ∀ q : Nat, s.heap.size ≤ q → z_A (shX, ad, IX, JX, PX ad) s.heap.size q := fun q h => Or.inr h
  generalize hAe : z_A (shX, ad, IX, JX, PX ad) s.heap.size = A at *
  have hS : va_S A s.heap s.heap [] := va_S.rf
  have hl : lv_has ls 2 [(0, .ref (ad 0)), (1, .int a1)] := hl
  refine lv_aload_n hx hb dX11_owner_0 rfl (lv_at hl 0 rfl) ?_
  refine z_get (T := TX11) (N := 13) (ci := 11) (i := 0) (v := .ref (ad 26)) hx hb hts zi_X11_owner_X11 hown hK hW rfl rfl 5 (by decide) (hts (.fieldLink RX11 37 "PetrolBoard" "coupons" "LPetrolBoard$Coupons;") (List.mem_of_getElem? (i := 1) rfl)) (fun _ h => h) rfl dX11_owner_1 ?_
  refine lv_iload_n hx hb dX11_owner_4 rfl (lv_at hl 1 rfl) ?_
  refine z_ci hW hS hA (va_runV (As := [.int a1]) (rest := []) ⟨hx, hb, hml, hown, hts⟩ (ct_X0_ownerOf l G ad a1 _) (cwV 1 hts gX11_owner_X0_ownerOf rfl rfl rfl (by decide +kernel) ⟨Nat.le_of_ble_eq_true rfl, Nat.le_of_ble_eq_true rfl⟩) (z_preV hK hW rfl rfl) rfl rfl hl.1 rfl (lv_room (Nat.le_of_ble_eq_true rfl)) dX11_owner_5 ⟨Nat.le_of_ble_eq_true rfl, Nat.le_of_ble_eq_true rfl⟩) (fun r u1 H locs hp hW hS => ?_)
  obtain ⟨e9, rfl⟩ := hp
  rw [e9] at hW
  exact z_iret hx hb hr hK hS (Nat.le_of_ble_eq_true rfl) (Nat.le_of_ble_eq_true rfl) hlocks dX11_owner_8 (shX, ad, IX, JX, PX ad) hW rfl
theorem zi_X11_lend_X11 : ∀ w ∈ wsX110, w ∈ wsX11_lend := fun w h => (List.mem_cons_of_mem _ (List.mem_append_left _ (List.mem_append_left _ (List.mem_append_left _ (List.mem_append_left _ (List.mem_append_left _ (List.mem_append_right _ h)))))))
set_option maxHeartbeats 4000000 in
set_option maxRecDepth 100000 in
theorem ct_X11_lend (l : Launch) (G : z_G) (ad : Nat → Nat) (a1 : Int32) (a2 : Int32) : z_M l yX11_lend wsX11_lend { frames := 2, cells := 0, slots := 0, locals := 34 } [.ref (ad 0), .int a1, .int a2] G (shX, ad, IX, JX, PX ad) (fun r u1 => r = 0) 0 0 := by
  intro sz
  refine z_headQ (cc := cX11_lend) (maxL := 4) (ret := (some .boolean)) (by decide) rfl (Nat.le_of_ble_eq_true rfl) ?_
  intro p e s m below meth c ls hIn hK hsz hW hl
  obtain ⟨hx, hb, hr, hml, hown, hts, hlocks, hname⟩ := hIn
  subst hsz
  have hown : s.vm.findClass RX11 = some m.cls := hown
  have hA : ∀ q : Nat, s.heap.size ≤ q → z_A (shX, ad, IX, JX, PX ad) s.heap.size q := fun q h => Or.inr h
  generalize hAe : z_A (shX, ad, IX, JX, PX ad) s.heap.size = A at *
  have hS : va_S A s.heap s.heap [] := va_S.rf
  have hl : lv_has ls 4 [(0, .ref (ad 0)), (1, .int a1), (2, .int a2)] := hl
  refine lv_aload_n hx hb dX11_lend_0 rfl (lv_at hl 0 rfl) ?_
  refine z_get (T := TX11) (N := 13) (ci := 11) (i := 0) (v := .ref (ad 26)) hx hb hts zi_X11_lend_X11 hown hK hW rfl rfl 5 (by decide) (hts (.fieldLink RX11 37 "PetrolBoard" "coupons" "LPetrolBoard$Coupons;") (List.mem_of_getElem? (i := 1) rfl)) (fun _ h => h) rfl dX11_lend_1 ?_
  refine lv_iload_n hx hb dX11_lend_4 rfl (lv_at hl 1 rfl) ?_
  refine z_ci hW hS hA (va_runV (As := [.int a1]) (rest := []) ⟨hx, hb, hml, hown, hts⟩ (ct_X0_has l G ad a1 _) (cwV 1 hts gX11_lend_X0_has rfl rfl rfl (by decide +kernel) ⟨Nat.le_of_ble_eq_true rfl, Nat.le_of_ble_eq_true rfl⟩) (z_preV hK hW rfl rfl) rfl rfl hl.1 rfl (lv_room (Nat.le_of_ble_eq_true rfl)) dX11_lend_5 ⟨Nat.le_of_ble_eq_true rfl, Nat.le_of_ble_eq_true rfl⟩) (fun r u1 H locs hp hW hS => ?_)
  obtain ⟨e9, rfl⟩ := hp
  rw [e9] at hW
  refine lv_if_eq (tgt := 30) hx hb dX11_lend_8 (by decide) (fun c1 => ?_) (fun c1 => absurd (by decide) c1)
  refine lv_iconst (v := 0) hx hb dX11_lend_30 (by decide) ?_
  exact z_zret hx hb hr (by decide) hK hS (Nat.le_of_ble_eq_true rfl) (Nat.le_of_ble_eq_true rfl) hlocks dX11_lend_31 (shX, ad, IX, JX, PX ad) hW rfl
set_option maxHeartbeats 4000000 in
set_option maxRecDepth 100000 in
theorem ct_X12_owner (l : Launch) (G : z_G) (ad : Nat → Nat) (a1 : Int32) : z_M l yX12_owner wsX12_owner { frames := 2, cells := 0, slots := 0, locals := 33 } [.ref (ad 0), .int a1] G (shM, ad, IM, JM, PM ad) (fun r u1 => r = -1) 0 0 := by
  intro sz
  refine z_headQ (cc := cX12_owner) (maxL := 2) (ret := (some .int)) (by decide) rfl (Nat.le_of_ble_eq_true rfl) ?_
  intro p e s m below meth c ls hIn hK hsz hW hl
  obtain ⟨hx, hb, hr, hml, hown, hts, hlocks, hname⟩ := hIn
  subst hsz
  have hown : s.vm.findClass RX12 = some m.cls := hown
  have hA : ∀ q : Nat, s.heap.size ≤ q → z_A (shM, ad, IM, JM, PM ad) s.heap.size q := fun q h => Or.inr h
  generalize hAe : z_A (shM, ad, IM, JM, PM ad) s.heap.size = A at *
  have hS : va_S A s.heap s.heap [] := va_S.rf
  have hl : lv_has ls 2 [(0, .ref (ad 0)), (1, .int a1)] := hl
  refine lv_aload_n hx hb dX12_owner_0 rfl (lv_at hl 0 rfl) ?_
  refine lv_iload_n hx hb dX12_owner_1 rfl (lv_at hl 1 rfl) ?_
  refine z_ci hW hS hA (va_runV (As := [.int a1]) (rest := []) ⟨hx, hb, hml, hown, hts⟩ (ct_X12_isCoupon l G ad a1 _) (cwV 1 hts gX12_owner_X12_isCoupon rfl rfl rfl (by decide +kernel) ⟨Nat.le_of_ble_eq_true rfl, Nat.le_of_ble_eq_true rfl⟩) (z_preV hK hW rfl rfl) rfl rfl hl.1 rfl (lv_room (Nat.le_of_ble_eq_true rfl)) dX12_owner_2 ⟨Nat.le_of_ble_eq_true rfl, Nat.le_of_ble_eq_true rfl⟩) (fun r u1 H locs hp hW hS => ?_)
  obtain ⟨e9, rfl⟩ := hp
  rw [e9] at hW
  refine lv_if_eq (tgt := 16) hx hb dX12_owner_5 (by decide) (fun c1 => ?_) (fun c1 => absurd (by decide) c1)
  refine lv_iconst (v := (-1)) hx hb dX12_owner_16 (by decide) ?_
  exact z_iret hx hb hr hK hS (Nat.le_of_ble_eq_true rfl) (Nat.le_of_ble_eq_true rfl) hlocks dX12_owner_17 (shM, ad, IM, JM, PM ad) hW rfl
set_option maxHeartbeats 4000000 in
set_option maxRecDepth 100000 in
theorem ct_X12_lend (l : Launch) (G : z_G) (ad : Nat → Nat) (a1 : Int32) (a2 : Int32) : z_M l yX12_lend wsX12_lend { frames := 2, cells := 0, slots := 0, locals := 33 } [.ref (ad 0), .int a1, .int a2] G (shM, ad, IM, JM, PM ad) (fun r u1 => r = 0) 0 0 := by
  intro sz
  refine z_headQ (cc := cX12_lend) (maxL := 6) (ret := (some .boolean)) (by decide) rfl (Nat.le_of_ble_eq_true rfl) ?_
  intro p e s m below meth c ls hIn hK hsz hW hl
  obtain ⟨hx, hb, hr, hml, hown, hts, hlocks, hname⟩ := hIn
  subst hsz
  have hown : s.vm.findClass RX12 = some m.cls := hown
  have hA : ∀ q : Nat, s.heap.size ≤ q → z_A (shM, ad, IM, JM, PM ad) s.heap.size q := fun q h => Or.inr h
  generalize hAe : z_A (shM, ad, IM, JM, PM ad) s.heap.size = A at *
  have hS : va_S A s.heap s.heap [] := va_S.rf
  have hl : lv_has ls 6 [(0, .ref (ad 0)), (1, .int a1), (2, .int a2)] := hl
  refine lv_aload_n hx hb dX12_lend_0 rfl (lv_at hl 0 rfl) ?_
  refine lv_iload_n hx hb dX12_lend_1 rfl (lv_at hl 1 rfl) ?_
  refine z_ci hW hS hA (va_runV (As := [.int a1]) (rest := []) ⟨hx, hb, hml, hown, hts⟩ (ct_X12_isCoupon l G ad a1 _) (cwV 1 hts gX12_lend_X12_isCoupon rfl rfl rfl (by decide +kernel) ⟨Nat.le_of_ble_eq_true rfl, Nat.le_of_ble_eq_true rfl⟩) (z_preV hK hW rfl rfl) rfl rfl hl.1 rfl (lv_room (Nat.le_of_ble_eq_true rfl)) dX12_lend_2 ⟨Nat.le_of_ble_eq_true rfl, Nat.le_of_ble_eq_true rfl⟩) (fun r u1 H locs hp hW hS => ?_)
  obtain ⟨e9, rfl⟩ := hp
  rw [e9] at hW
  refine lv_if_eq (tgt := 43) hx hb dX12_lend_5 (by decide) (fun c1 => ?_) (fun c1 => absurd (by decide) c1)
  refine lv_iconst (v := 0) hx hb dX12_lend_43 (by decide) ?_
  exact z_zret hx hb hr (by decide) hK hS (Nat.le_of_ble_eq_true rfl) (Nat.le_of_ble_eq_true rfl) hlocks dX12_lend_44 (shM, ad, IM, JM, PM ad) hW rfl
theorem zi_X12_inForce_X12 : ∀ w ∈ wsX120, w ∈ wsX12_inForce := fun w h => (List.mem_cons_of_mem _ (List.mem_append_right _ h))
set_option maxHeartbeats 4000000 in
set_option maxRecDepth 100000 in
theorem ct_X12_inForce (l : Launch) (G : z_G) (ad : Nat → Nat) (a1 : Int32) (a2 : Int32) : z_M l yX12_inForce wsX12_inForce { frames := 1, cells := 0, slots := 0, locals := 12 } [.ref (ad 0), .int a1, .int a2] G (shM, ad, IM, JM, PM ad) (fun r u1 => u1 = (shM, ad, IM, JM, PM ad) ∧ r = (-1)) 0 0 := by
  intro sz
  refine z_headQ (cc := cX12_inForce) (maxL := 5) (ret := (some .int)) (by decide) rfl (Nat.le_of_ble_eq_true rfl) ?_
  intro p e s m below meth c ls hIn hK hsz hW hl
  obtain ⟨hx, hb, hr, hml, hown, hts, hlocks, hname⟩ := hIn
  subst hsz
  have hown : s.vm.findClass RX12 = some m.cls := hown
  have hA : ∀ q : Nat, s.heap.size ≤ q → z_A (shM, ad, IM, JM, PM ad) s.heap.size q := fun q h => Or.inr h
  generalize hAe : z_A (shM, ad, IM, JM, PM ad) s.heap.size = A at *
  have hS : va_S A s.heap s.heap [] := va_S.rf
  have hl : lv_has ls 5 [(0, .ref (ad 0)), (1, .int a1), (2, .int a2)] := hl
  refine lv_iconst (v := (-1)) hx hb dX12_inForce_0 (by decide) ?_
  refine lv_istore_n (lv' := [(3, .int (-1)), (0, .ref (ad 0)), (1, .int a1), (2, .int a2)]) hx hb dX12_inForce_1 rfl hl (by decide) rfl (fun ls hl => ?_)
  refine lv_iconst (v := 0) hx hb dX12_inForce_2 (by decide) ?_
  refine lv_istore (lv' := [(4, .int 0), (3, .int (-1)), (0, .ref (ad 0)), (1, .int a1), (2, .int a2)]) hx hb dX12_inForce_3 hl (by decide) rfl (fun ls hl => ?_)
  refine lv_iload hx hb dX12_inForce_5 (lv_at hl 0 rfl) ?_
  refine lv_aload_n hx hb dX12_inForce_7 rfl (lv_at hl 2 rfl) ?_
  refine z_get (T := TX12) (N := 96) (ci := 12) (i := 0) (v := .int 0) hx hb hts zi_X12_inForce_X12 hown hK hW rfl rfl 13 (by decide) (hts (.fieldLink RX12 408 "PetrolBoardModel" "texts" "I") (List.mem_of_getElem? (i := 1) rfl)) (fun _ h => h) rfl dX12_inForce_8 ?_
  refine lv_icmp_ge (tgt := 65) hx hb dX12_inForce_11 (by decide) (fun c1 => ?_) (fun c1 => absurd (by decide) c1)
  refine lv_iload_n hx hb dX12_inForce_65 rfl (lv_at hl 1 rfl) ?_
  exact z_iret hx hb hr hK hS (Nat.le_of_ble_eq_true rfl) (Nat.le_of_ble_eq_true rfl) hlocks dX12_inForce_66 (shM, ad, IM, JM, PM ad) hW ⟨rfl, rfl⟩
