

/-! bytes of a number -/
noncomputable def zf_y (a s : Int32) : Int32 := (a.toUInt32 >>> (s.toUInt32 &&& Int32.toUInt32 31)).toInt32 &&& 255
noncomputable def zf_w (a s : Int32) : Int32 := vp_nar .byte (a >>> (s &&& 31)).toInt8.toInt32
noncomputable def zf_s (q : Nat) : Int32 := if q = 0 then 24 else if q = 1 then 16 else if q = 2 then 8 else 0
noncomputable def zf_v (a1 a2 a3 a4 a5 : Int32) (q : Nat) : Int32 := if q < 4 then a1 else if q < 8 then a2 else if q < 12 then a3 else if q < 16 then a4 else a5
theorem zf_and (v : Int32) : (v &&& 255).toInt = ((v.toBitVec.toNat % 256 : Nat) : Int) := by
  have h1 : (v &&& 255).toBitVec.toNat = v.toBitVec.toNat &&& 255 := rfl
  have h2 : v.toBitVec.toNat &&& 255 = v.toBitVec.toNat % 256 := Nat.and_two_pow_sub_one_eq_mod _ 8
  have h3 : (v &&& 255).toInt = ((v &&& 255).toBitVec.toNat : Int) := by
    show (v &&& 255).toBitVec.toInt = _
    rw [BitVec.toInt_eq_toNat_cond, if_pos (by omega)]
  rw [h3, h1, h2]
theorem zf_ti (v : Int32) : v.toInt % 256 = ((v.toBitVec.toNat % 256 : Nat) : Int) := by
  have h : v.toInt = _ := BitVec.toInt_eq_toNat_cond v.toBitVec
  rw [h]
  split <;> omega
theorem zf_t2 (x : Int32) : x.toInt % 4294967296 = (x.toBitVec.toNat : Int) := by
  have h : x.toInt = _ := BitVec.toInt_eq_toNat_cond x.toBitVec
  have h2 := x.toBitVec.isLt
  rw [h]
  split <;> omega
theorem zf_eq1 (x s : Int32) (n : Nat) (e1 : ((s &&& 31 : Int32).toBitVec.smod 32).toNat = n) (e2 : (s.toUInt32 &&& Int32.toUInt32 31).toNat % 32 = n) (hn : n = 24 ∨ n = 16 ∨ n = 8 ∨ n = 0) : (zf_y x s).toInt = (zf_w x s &&& 255).toInt := by
  have h1 : (x >>> (s &&& 31)).toInt = x.toInt / ((2 ^ n : Nat) : Int) := by
    show (x.toBitVec.sshiftRight' ((s &&& 31 : Int32).toBitVec.smod 32)).toInt = _
    rw [BitVec.toInt_sshiftRight', e1, Int.shiftRight_eq_div_pow]
    rfl
  have h2 : ((x.toUInt32 >>> (s.toUInt32 &&& Int32.toUInt32 31)).toInt32).toBitVec.toNat = x.toBitVec.toNat / 2 ^ n := by
    show (x.toUInt32 >>> (s.toUInt32 &&& Int32.toUInt32 31)).toNat = _
    rw [UInt32.toNat_shiftRight, e2, Nat.shiftRight_eq_div_pow]
    rfl
  have h3 : zf_w x s = ((x >>> (s &&& 31)).toInt8.toInt32).toInt8.toInt32 := rfl
  have h4 : (zf_w x s).toInt % 256 = (x >>> (s &&& 31)).toInt % 256 := by
    rw [h3, Int8.toInt_toInt32, Int32.toInt_toInt8, Int8.toInt_toInt32, Int32.toInt_toInt8]
    show (((x >>> (s &&& 31)).toInt.bmod 256).bmod 256) % ((256 : Nat) : Int) = _ % ((256 : Nat) : Int)
    rw [Int.bmod_emod, Int.bmod_emod]
  have h5 := zf_t2 x
  unfold zf_y
  rw [zf_and, zf_and, ← zf_ti (zf_w x s), h2, h4, h1]
  rcases hn with rfl | rfl | rfl | rfl
  · show (((x.toBitVec.toNat / 16777216) % 256 : Nat) : Int) = (x.toInt / 16777216) % 256
    omega
  · show (((x.toBitVec.toNat / 65536) % 256 : Nat) : Int) = (x.toInt / 65536) % 256
    omega
  · show (((x.toBitVec.toNat / 256) % 256 : Nat) : Int) = (x.toInt / 256) % 256
    omega
  · show (((x.toBitVec.toNat / 1) % 256 : Nat) : Int) = (x.toInt / 1) % 256
    omega
theorem zf_eq (x : Int32) (q : Nat) : (zf_y x (zf_s q)).toInt = (zf_w x (zf_s q) &&& 255).toInt := by
  unfold zf_s
  split
  · exact zf_eq1 x 24 24 (by decide) (by decide) (by decide)
  · split
    · exact zf_eq1 x 16 16 (by decide) (by decide) (by decide)
    · split
      · exact zf_eq1 x 8 8 (by decide) (by decide) (by decide)
      · exact zf_eq1 x 0 0 (by decide) (by decide) (by decide)
theorem zf_s_eq {x : Int32} {i : Nat} (h : x.toInt = 24 - 8 * ((i % 4 : Nat) : Int)) : x = zf_s (i % 4) := by
  have h4 : i % 4 = 0 ∨ i % 4 = 1 ∨ i % 4 = 2 ∨ i % 4 = 3 := by omega
  rcases h4 with e | e | e | e <;> rw [e] at h ⊢
  · exact Int32.toInt_inj.mp (h.trans (by decide))
  · exact Int32.toInt_inj.mp (h.trans (by decide))
  · exact Int32.toInt_inj.mp (h.trans (by decide))
  · exact Int32.toInt_inj.mp (h.trans (by decide))
section ZFV
variable {a1 a2 a3 a4 a5 : Int32} {q : Nat}
theorem zf_v_1 (h : q < 4) : zf_v a1 a2 a3 a4 a5 q = a1 := if_pos h
theorem zf_v_2 (h : ¬ q < 4) (h2 : q < 8) : zf_v a1 a2 a3 a4 a5 q = a2 := (if_neg h).trans (if_pos h2)
theorem zf_v_3 (h : ¬ q < 8) (h2 : q < 12) : zf_v a1 a2 a3 a4 a5 q = a3 := (if_neg (by omega)).trans ((if_neg h).trans (if_pos h2))
theorem zf_v_4 (h : ¬ q < 12) (h2 : q < 16) : zf_v a1 a2 a3 a4 a5 q = a4 := (if_neg (by omega)).trans ((if_neg (by omega)).trans ((if_neg h).trans (if_pos h2)))
theorem zf_v_5 (h : ¬ q < 16) : zf_v a1 a2 a3 a4 a5 q = a5 := (if_neg (by omega)).trans ((if_neg (by omega)).trans ((if_neg (by omega)).trans (if_neg h)))
end ZFV
/-- four bytes more -/
noncomputable def zf_P (I K : z_I) (a : Int32) : Prop := (K 12 1).toInt = (I 12 1).toInt + 4 ∧ (∀ q : Nat, q < 4 → K 13 ((I 12 1).toNatClampNeg + q) = zf_y a (zf_s q)) ∧ ∀ j, j < (I 12 1).toNatClampNeg → K 13 j = I 13 j
theorem zf_P_of {I I1 I2 I3 I4 I5 I6 I7 I8 : z_I} {a v0 v1 v2 v3 t1 t2 t3 t4 : Int32} (e1 : I1 = z_up I 13 (I 12 1).toNatClampNeg v0) (e2 : I2 = z_up I1 12 1 t1) (e3 : I3 = z_up I2 13 t1.toNatClampNeg v1) (e4 : I4 = z_up I3 12 1 t2) (e5 : I5 = z_up I4 13 t2.toNatClampNeg v2) (e6 : I6 = z_up I5 12 1 t3) (e7 : I7 = z_up I6 13 t3.toNatClampNeg v3) (e8 : I8 = z_up I7 12 1 t4) (h0 : 0 ≤ (I 12 1).toInt) (h1 : t1.toInt = (I 12 1).toInt + 1) (h2 : t2.toInt = (I 12 1).toInt + 2) (h3 : t3.toInt = (I 12 1).toInt + 3) (h4 : t4.toInt = (I 12 1).toInt + 4)
    (y0 : v0 = zf_y a 24) (y1 : v1 = zf_y a 16) (y2 : v2 = zf_y a 8) (y3 : v3 = zf_y a 0) : zf_P I I8 a := by
  have c0 := z_clt (x := I 12 1) rfl h0
  have c1 := z_clt (x := t1) rfl (by omega)
  have c2 := z_clt (x := t2) rfl (by omega)
  have c3 := z_clt (x := t3) rfl (by omega)
  refine ⟨by rw [e8, z_up_s]; exact h4, fun q hq => ?_, fun j hj => ?_⟩
  · have hc : q = 0 ∨ q = 1 ∨ q = 2 ∨ q = 3 := by omega
    rcases hc with rfl | rfl | rfl | rfl
    · rw [e8, z_up_n (by decide), e7, z_up_k (by omega), e6, z_up_n (by decide), e5, z_up_k (by omega), e4, z_up_n (by decide), e3, z_up_k (by omega), e2, z_up_n (by decide), e1, Nat.add_zero, z_up_s]
      exact y0
    · rw [e8, z_up_n (by decide), e7, z_up_k (by omega), e6, z_up_n (by decide), e5, z_up_k (by omega), e4, z_up_n (by decide), e3, show (I 12 1).toNatClampNeg + 1 = t1.toNatClampNeg by omega, z_up_s]
      exact y1
    · rw [e8, z_up_n (by decide), e7, z_up_k (by omega), e6, z_up_n (by decide), e5, show (I 12 1).toNatClampNeg + 2 = t2.toNatClampNeg by omega, z_up_s]
      exact y2
    · rw [e8, z_up_n (by decide), e7, show (I 12 1).toNatClampNeg + 3 = t3.toNatClampNeg by omega, z_up_s]
      exact y3
  · rw [e8, z_up_n (by decide), e7, z_up_k (by omega), e6, z_up_n (by decide), e5, z_up_k (by omega), e4, z_up_n (by decide), e3, z_up_k (by omega), e2, z_up_n (by decide), e1, z_up_k (by omega)]
/-- twenty bytes more -/
noncomputable def zf_Q (I K : z_I) (a1 a2 a3 a4 a5 : Int32) : Prop := (K 12 1).toInt = (I 12 1).toInt + 20 ∧ (∀ q : Nat, q < 20 → K 13 ((I 12 1).toNatClampNeg + q) = zf_y (zf_v a1 a2 a3 a4 a5 q) (zf_s (q % 4))) ∧ ∀ j, j < (I 12 1).toNatClampNeg → K 13 j = I 13 j
theorem zf_Q_of {I I1 I2 I3 I4 I5 : z_I} {a1 a2 a3 a4 a5 : Int32} (h0 : 0 ≤ (I 12 1).toInt) (p1 : zf_P I I1 a1) (p2 : zf_P I1 I2 a2) (p3 : zf_P I2 I3 a3) (p4 : zf_P I3 I4 a4) (p5 : zf_P I4 I5 a5) : zf_Q I I5 a1 a2 a3 a4 a5 := by
  obtain ⟨s1, b1, o1⟩ := p1
  obtain ⟨s2, b2, o2⟩ := p2
  obtain ⟨s3, b3, o3⟩ := p3
  obtain ⟨s4, b4, o4⟩ := p4
  obtain ⟨s5, b5, o5⟩ := p5
  have c0 := z_clt (x := I 12 1) rfl h0
  have c1 := z_clt (x := I1 12 1) rfl (by omega)
  have c2 := z_clt (x := I2 12 1) rfl (by omega)
  have c3 := z_clt (x := I3 12 1) rfl (by omega)
  have c4 := z_clt (x := I4 12 1) rfl (by omega)
  refine ⟨by omega, fun q hq => ?_, fun j hj => ?_⟩
  · by_cases q1 : q < 4
    · rw [o5 _ (by omega), o4 _ (by omega), o3 _ (by omega), o2 _ (by omega), b1 q q1, zf_v_1 q1, Nat.mod_eq_of_lt q1]
    · by_cases q2 : q < 8
      · rw [o5 _ (by omega), o4 _ (by omega), o3 _ (by omega), show (I 12 1).toNatClampNeg + q = (I1 12 1).toNatClampNeg + q % 4 by omega, b2 _ (by omega), zf_v_2 q1 q2]
      · by_cases q3 : q < 12
        · rw [o5 _ (by omega), o4 _ (by omega), show (I 12 1).toNatClampNeg + q = (I2 12 1).toNatClampNeg + q % 4 by omega, b3 _ (by omega), zf_v_3 q2 q3]
        · by_cases q4 : q < 16
          · rw [o5 _ (by omega), show (I 12 1).toNatClampNeg + q = (I3 12 1).toNatClampNeg + q % 4 by omega, b4 _ (by omega), zf_v_4 q3 q4]
          · rw [show (I 12 1).toNatClampNeg + q = (I4 12 1).toNatClampNeg + q % 4 by omega, b5 _ (by omega), zf_v_5 q4]
  · rw [o5 _ (by omega), o4 _ (by omega), o3 _ (by omega), o2 _ (by omega), o1 _ hj]
/-- the reference's: i bytes more -/
noncomputable def zf_B (I K : z_I) (a1 a2 a3 a4 a5 : Int32) (i : Int) : Prop := (∀ q : Nat, (q : Int) < i → K 25 ((I 0 31).toNatClampNeg + q) = zf_w (zf_v a1 a2 a3 a4 a5 q) (zf_s (q % 4))) ∧ ∀ j, j < (I 0 31).toNatClampNeg → K 25 j = I 25 j
theorem zf_B_s {I In K1 K2 : z_I} {a1 a2 a3 a4 a5 v x y : Int32} {i : Int} (h : zf_B I In a1 a2 a3 a4 a5 y.toInt) (e1 : K1 = z_up In 25 (In 0 31).toNatClampNeg v) (e2 : K2 = z_up K1 0 31 x) (hT : (In 0 31).toInt = (I 0 31).toInt + y.toInt) (h0 : 0 ≤ (I 0 31).toInt) (hy : 0 ≤ y.toInt) (hv : v = zf_w (zf_v a1 a2 a3 a4 a5 y.toNatClampNeg) (zf_s (y.toNatClampNeg % 4))) (hi : i = y.toInt + 1) : zf_B I K2 a1 a2 a3 a4 a5 i := by
  have c0 := z_clt (x := I 0 31) rfl h0
  have c1 := z_clt (x := In 0 31) rfl (by omega)
  have c2 := z_clt (x := y) rfl hy
  refine ⟨fun q hq => ?_, fun j hj => ?_⟩
  · rw [e2, z_up_n (by decide), e1]
    by_cases e : q = y.toNatClampNeg
    · rw [show (I 0 31).toNatClampNeg + q = (In 0 31).toNatClampNeg by omega, z_up_s, e]
      exact hv
    · rw [z_up_k (by omega)]
      exact h.1 q (by omega)
  · rw [e2, z_up_n (by decide), e1, z_up_k (by omega)]
    exact h.2 j hj
theorem z_RO_feed {I K I1 K1 : z_I} {a1 a2 a3 a4 a5 : Int32} (h : z_RO I K) (h0 : 0 ≤ (I 12 1).toInt) (hQ : zf_Q I I1 a1 a2 a3 a4 a5) (hB : zf_B K K1 a1 a2 a3 a4 a5 20) (ht : (K1 0 31).toInt = (K 0 31).toInt + 20) (n1 : (I1 21 2).toInt = (I 21 2).toInt) (n2 : (K1 0 13).toInt = (K 0 13).toInt) (n3 : (I1 0 1).toInt = (I 0 1).toInt) (n4 : (K1 0 32).toInt = (K 0 32).toInt) : z_RO I1 K1 := by
  obtain ⟨r1, r2, r3, r4⟩ := h
  obtain ⟨s1, s2, s3⟩ := hQ
  have c0 := z_clt (x := I 12 1) rfl h0
  have c1 := z_clt (x := K 0 31) rfl (by omega)
  have c2 : (K 0 31).toNatClampNeg = (I 12 1).toNatClampNeg := by omega
  refine ⟨by omega, fun p hp => ?_, by omega, by omega⟩
  by_cases q : p < (I 12 1).toNatClampNeg
  · rw [s3 p q, hB.2 p (by omega)]
    exact r2 p (by omega)
  · have e : p = (I 12 1).toNatClampNeg + (p - (I 12 1).toNatClampNeg) := by omega
    rw [e, s2 _ (by omega), ← c2, hB.1 _ (by omega), c2]
    exact zf_eq _ _
noncomputable def L_X9_put_x : z_L := [(13, 999), (12, 1)]
set_option maxHeartbeats 8000000 in
set_option maxRecDepth 100000 in
theorem sx_X9_put_x (l : Launch) (G : z_G) (ad : Nat → Nat) (c : z_C) (I : z_I) (hR : z_iR I) (a1 : Int32) (q1 : (I 12 1).toInt + 4 ≤ 500) : z_Mv l yX9_put wsX9_put { frames := 1, cells := 0, slots := 0, locals := 12 } [.ref (ad 12), .int a1] G (shC c, ad, I, JX, PC c ad) (fun u1 => ∃ I1 : z_I, u1 = (shC c, ad, I1, JX, PC c ad) ∧ z_iR I1 ∧ z_fr L_X9_put_x I1 I ∧ zf_P I I1 a1) 0 0 := by
  intro sz
  refine z_headQ (cc := cX9_put) (maxL := 3) (ret := none) (by decide) rfl (Nat.le_of_ble_eq_true rfl) ?_
  intro p e s m below meth c0 ls hIn hK hsz hW hl
  obtain ⟨hx, hb, hr, hml, hown, hts, hlocks, hname⟩ := hIn
  subst hsz
  have hown : s.vm.findClass RX9 = some m.cls := hown
  have hA : ∀ q : Nat, s.heap.size ≤ q → z_A (shC c, ad, I, JX, PC c ad) s.heap.size q := fun q h => Or.inr h
  generalize hAe : z_A (shC c, ad, I, JX, PC c ad) s.heap.size = A at *
  have hS : va_S A s.heap s.heap [] := va_S.rf
  have hl : lv_has ls 3 [(0, .ref (ad 12)), (1, .int a1)] := hl
  refine lv_bipush (v := 24) hx hb dX9_put_0 (by decide) ?_
  refine lv_istore_n (lv' := [(2, .int 24), (0, .ref (ad 12)), (1, .int a1)]) hx hb dX9_put_2 rfl hl (by decide) rfl (fun ls hl => ?_)
  refine lv_iload_n hx hb dX9_put_3 rfl (lv_at hl 0 rfl) ?_
  refine lv_if_lt (tgt := 51) hx hb dX9_put_4 (by decide) (fun c1 => absurd c1 (by decide)) (fun c1 => ?_)
  refine lv_aload_n hx hb dX9_put_7 rfl (lv_at hl 1 rfl) ?_
  have r2 : 0 ≤ (I 12 1).toInt ∧ (I 12 1).toInt ≤ 500 := hR.1
  refine z_get (T := TX9) (N := 14) (ci := 9) (i := 12) (v := .int (I 12 1)) hx hb hts zj_X9_put_X9 hown hK hW rfl rfl 1 (by decide) (hts (.fieldLink RX9 36 "PetrolBoard$Reader" "taped" "I") (me_s (me_l (List.mem_of_getElem? (i := 0) rfl)))) (fun _ h => h) rfl dX9_put_8 ?_
  refine lv_aload_n hx hb dX9_put_11 rfl (lv_at hl 1 rfl) ?_
  refine z_get (T := TX9) (N := 14) (ci := 9) (i := 12) (v := .ref (ad 13)) hx hb hts zj_X9_put_X9 hown hK hW rfl rfl 0 (by decide) (hts (.fieldLink RX9 9 "PetrolBoard$Reader" "text" "[I") (me_s (me_l (List.mem_of_getElem? (i := 1) rfl)))) (fun _ h => h) rfl dX9_put_12 ?_
  refine z_alen (i := 13) (v := 500) hx hb hK hW rfl (by simp [z_tys]) (by rfl) dX9_put_15 ?_
  refine lv_icmp_ge (tgt := 51) hx hb dX9_put_16 (by decide) (fun c3 => (by have g := z_f_ge rfl z_l500 c3; omega)) (fun c3 => ?_)
  have g4 := z_f_nge rfl z_l500 c3
  refine lv_aload_n hx hb dX9_put_19 rfl (lv_at hl 1 rfl) ?_
  refine z_get (T := TX9) (N := 14) (ci := 9) (i := 12) (v := .ref (ad 13)) hx hb hts zj_X9_put_X9 hown hK hW rfl rfl 0 (by decide) (hts (.fieldLink RX9 9 "PetrolBoard$Reader" "text" "[I") (me_s (me_l (List.mem_of_getElem? (i := 1) rfl)))) (fun _ h => h) rfl dX9_put_20 ?_
  refine lv_aload_n hx hb dX9_put_23 rfl (lv_at hl 1 rfl) ?_
  refine z_get (T := TX9) (N := 14) (ci := 9) (i := 12) (v := .int (I 12 1)) hx hb hts zj_X9_put_X9 hown hK hW rfl rfl 1 (by decide) (hts (.fieldLink RX9 36 "PetrolBoard$Reader" "taped" "I") (me_s (me_l (List.mem_of_getElem? (i := 0) rfl)))) (fun _ h => h) rfl dX9_put_24 ?_
  refine lv_iload_n hx hb dX9_put_27 rfl (lv_at hl 2 rfl) ?_
  refine lv_iload_n hx hb dX9_put_28 rfl (lv_at hl 0 rfl) ?_
  refine lv_iushr hx hb dX9_put_29 rfl ?_
  refine lv_topi (fun x5 ex5 => ?_)
  refine lv_sipush (v := 255) hx hb dX9_put_30 (by decide) ?_
  refine lv_iand hx hb dX9_put_33 ?_
  refine lv_topi (fun x6 ex6 => ?_)
  refine z_iast (i := 13) hx hb hK hW hS rfl (z_ix rfl (by omega) (by omega)) dX9_put_34 (fun H locs hz1 hW hS => ?_)
  obtain ⟨I7, eI7⟩ : ∃ K : z_I, K = z_up I 13 (I 12 1).toNatClampNeg x6 := ⟨_, rfl⟩
  rw [← eI7] at hW
  have f8 := z_fr_a z_fr_0 (show z_wa L_X9_put_x 13 = true by decide) eI7
  refine lv_aload_n hx hb dX9_put_35 rfl (lv_at hl 1 rfl) ?_
  refine lv_dup hx hb dX9_put_36 rfl ?_
  refine z_get (T := TX9) (N := 14) (ci := 9) (i := 12) (v := .int (I 12 1)) hx hb hts zj_X9_put_X9 hown hK hW rfl rfl 1 (by decide) (hts (.fieldLink RX9 36 "PetrolBoard$Reader" "taped" "I") (me_s (me_l (List.mem_of_getElem? (i := 0) rfl)))) (fun _ h => h) (congrArg Value.int (by rw [eI7, z_up_n (by decide)])) dX9_put_37 ?_
  refine lv_iconst (v := 1) hx hb dX9_put_40 (by decide) ?_
  refine lv_iadd hx hb dX9_put_41 ?_
  refine lv_topi (fun x9 ex9 => ?_)
  have tx9 : x9.toInt = (I 12 1).toInt + 1 := z_tadd ex9 rfl z_l1 (by omega) (by omega)
  refine z_put (T := TX9) (N := 14) (ci := 9) (i := 12) (v := .int x9) (I1 := z_up I7 12 1 x9) (J1 := JX) (P1 := PC c ad) hx hb hts zj_X9_put_X9 tyX9 tyX9_ok nmX9 hown hK hW hS rfl rfl 1 (by decide) (hts (.fieldLink RX9 36 "PetrolBoard$Reader" "taped" "I") (me_s (me_l (List.mem_of_getElem? (i := 0) rfl)))) (fun _ h => h) rfl rfl rfl (by first | rfl | exact congrArg _ z_up_s) (fun a b h ty => z_vI h ty) dX9_put_42 (fun H locs hz1 hW hS => ?_)
  obtain ⟨I10, eI10⟩ : ∃ K : z_I, K = z_up I7 12 1 x9 := ⟨_, rfl⟩
  rw [← eI10] at hW
  have f11 := z_fr_k f8 (show z_wr L_X9_put_x 12 1 = true by decide) eI10
  refine lv_iinc (v := 16) (lv' := [(2, .int 16), (0, .ref (ad 12)), (1, .int a1)]) hx hb dX9_put_45 hl (k := 0) rfl (by decide) (by decide) rfl (fun ls hl => ?_)
  refine lv_goto (tgt := 3) hx hb dX9_put_48 (by decide) ?_
  refine lv_iload_n hx hb dX9_put_3 rfl (lv_at hl 0 rfl) ?_
  refine lv_if_lt (tgt := 51) hx hb dX9_put_4 (by decide) (fun c12 => absurd c12 (by decide)) (fun c12 => ?_)
  refine lv_aload_n hx hb dX9_put_7 rfl (lv_at hl 1 rfl) ?_
  refine z_get (T := TX9) (N := 14) (ci := 9) (i := 12) (v := .int x9) hx hb hts zj_X9_put_X9 hown hK hW rfl rfl 1 (by decide) (hts (.fieldLink RX9 36 "PetrolBoard$Reader" "taped" "I") (me_s (me_l (List.mem_of_getElem? (i := 0) rfl)))) (fun _ h => h) (congrArg Value.int (by rw [eI10, z_up_s])) dX9_put_8 ?_
  refine lv_aload_n hx hb dX9_put_11 rfl (lv_at hl 1 rfl) ?_
  refine z_get (T := TX9) (N := 14) (ci := 9) (i := 12) (v := .ref (ad 13)) hx hb hts zj_X9_put_X9 hown hK hW rfl rfl 0 (by decide) (hts (.fieldLink RX9 9 "PetrolBoard$Reader" "text" "[I") (me_s (me_l (List.mem_of_getElem? (i := 1) rfl)))) (fun _ h => h) rfl dX9_put_12 ?_
  refine z_alen (i := 13) (v := 500) hx hb hK hW rfl (by simp [z_tys]) (by rfl) dX9_put_15 ?_
  refine lv_icmp_ge (tgt := 51) hx hb dX9_put_16 (by decide) (fun c13 => (by have g := z_f_ge rfl z_l500 c13; omega)) (fun c13 => ?_)
  have g14 := z_f_nge rfl z_l500 c13
  refine lv_aload_n hx hb dX9_put_19 rfl (lv_at hl 1 rfl) ?_
  refine z_get (T := TX9) (N := 14) (ci := 9) (i := 12) (v := .ref (ad 13)) hx hb hts zj_X9_put_X9 hown hK hW rfl rfl 0 (by decide) (hts (.fieldLink RX9 9 "PetrolBoard$Reader" "text" "[I") (me_s (me_l (List.mem_of_getElem? (i := 1) rfl)))) (fun _ h => h) rfl dX9_put_20 ?_
  refine lv_aload_n hx hb dX9_put_23 rfl (lv_at hl 1 rfl) ?_
  refine z_get (T := TX9) (N := 14) (ci := 9) (i := 12) (v := .int x9) hx hb hts zj_X9_put_X9 hown hK hW rfl rfl 1 (by decide) (hts (.fieldLink RX9 36 "PetrolBoard$Reader" "taped" "I") (me_s (me_l (List.mem_of_getElem? (i := 0) rfl)))) (fun _ h => h) (congrArg Value.int (by rw [eI10, z_up_s])) dX9_put_24 ?_
  refine lv_iload_n hx hb dX9_put_27 rfl (lv_at hl 2 rfl) ?_
  refine lv_iload_n hx hb dX9_put_28 rfl (lv_at hl 0 rfl) ?_
  refine lv_iushr hx hb dX9_put_29 rfl ?_
  refine lv_topi (fun x15 ex15 => ?_)
  refine lv_sipush (v := 255) hx hb dX9_put_30 (by decide) ?_
  refine lv_iand hx hb dX9_put_33 ?_
  refine lv_topi (fun x16 ex16 => ?_)
  refine z_iast (i := 13) hx hb hK hW hS rfl (z_ix rfl (by omega) (by omega)) dX9_put_34 (fun H locs hz1 hW hS => ?_)
  obtain ⟨I17, eI17⟩ : ∃ K : z_I, K = z_up I10 13 x9.toNatClampNeg x16 := ⟨_, rfl⟩
  rw [← eI17] at hW
  have f18 := z_fr_a f11 (show z_wa L_X9_put_x 13 = true by decide) eI17
  refine lv_aload_n hx hb dX9_put_35 rfl (lv_at hl 1 rfl) ?_
  refine lv_dup hx hb dX9_put_36 rfl ?_
  refine z_get (T := TX9) (N := 14) (ci := 9) (i := 12) (v := .int x9) hx hb hts zj_X9_put_X9 hown hK hW rfl rfl 1 (by decide) (hts (.fieldLink RX9 36 "PetrolBoard$Reader" "taped" "I") (me_s (me_l (List.mem_of_getElem? (i := 0) rfl)))) (fun _ h => h) (congrArg Value.int (by rw [eI17, z_up_n (by decide), eI10, z_up_s])) dX9_put_37 ?_
  refine lv_iconst (v := 1) hx hb dX9_put_40 (by decide) ?_
  refine lv_iadd hx hb dX9_put_41 ?_
  refine lv_topi (fun x19 ex19 => ?_)
  have tx19 : x19.toInt = x9.toInt + 1 := z_tadd ex19 rfl z_l1 (by omega) (by omega)
  refine z_put (T := TX9) (N := 14) (ci := 9) (i := 12) (v := .int x19) (I1 := z_up I17 12 1 x19) (J1 := JX) (P1 := PC c ad) hx hb hts zj_X9_put_X9 tyX9 tyX9_ok nmX9 hown hK hW hS rfl rfl 1 (by decide) (hts (.fieldLink RX9 36 "PetrolBoard$Reader" "taped" "I") (me_s (me_l (List.mem_of_getElem? (i := 0) rfl)))) (fun _ h => h) rfl rfl rfl (by first | rfl | exact congrArg _ z_up_s) (fun a b h ty => z_vI h ty) dX9_put_42 (fun H locs hz1 hW hS => ?_)
  obtain ⟨I20, eI20⟩ : ∃ K : z_I, K = z_up I17 12 1 x19 := ⟨_, rfl⟩
  rw [← eI20] at hW
  have f21 := z_fr_k f18 (show z_wr L_X9_put_x 12 1 = true by decide) eI20
  refine lv_iinc (v := 8) (lv' := [(2, .int 8), (0, .ref (ad 12)), (1, .int a1)]) hx hb dX9_put_45 hl (k := 0) rfl (by decide) (by decide) rfl (fun ls hl => ?_)
  refine lv_goto (tgt := 3) hx hb dX9_put_48 (by decide) ?_
  refine lv_iload_n hx hb dX9_put_3 rfl (lv_at hl 0 rfl) ?_
  refine lv_if_lt (tgt := 51) hx hb dX9_put_4 (by decide) (fun c22 => absurd c22 (by decide)) (fun c22 => ?_)
  refine lv_aload_n hx hb dX9_put_7 rfl (lv_at hl 1 rfl) ?_
  refine z_get (T := TX9) (N := 14) (ci := 9) (i := 12) (v := .int x19) hx hb hts zj_X9_put_X9 hown hK hW rfl rfl 1 (by decide) (hts (.fieldLink RX9 36 "PetrolBoard$Reader" "taped" "I") (me_s (me_l (List.mem_of_getElem? (i := 0) rfl)))) (fun _ h => h) (congrArg Value.int (by rw [eI20, z_up_s])) dX9_put_8 ?_
  refine lv_aload_n hx hb dX9_put_11 rfl (lv_at hl 1 rfl) ?_
  refine z_get (T := TX9) (N := 14) (ci := 9) (i := 12) (v := .ref (ad 13)) hx hb hts zj_X9_put_X9 hown hK hW rfl rfl 0 (by decide) (hts (.fieldLink RX9 9 "PetrolBoard$Reader" "text" "[I") (me_s (me_l (List.mem_of_getElem? (i := 1) rfl)))) (fun _ h => h) rfl dX9_put_12 ?_
  refine z_alen (i := 13) (v := 500) hx hb hK hW rfl (by simp [z_tys]) (by rfl) dX9_put_15 ?_
  refine lv_icmp_ge (tgt := 51) hx hb dX9_put_16 (by decide) (fun c23 => (by have g := z_f_ge rfl z_l500 c23; omega)) (fun c23 => ?_)
  have g24 := z_f_nge rfl z_l500 c23
  refine lv_aload_n hx hb dX9_put_19 rfl (lv_at hl 1 rfl) ?_
  refine z_get (T := TX9) (N := 14) (ci := 9) (i := 12) (v := .ref (ad 13)) hx hb hts zj_X9_put_X9 hown hK hW rfl rfl 0 (by decide) (hts (.fieldLink RX9 9 "PetrolBoard$Reader" "text" "[I") (me_s (me_l (List.mem_of_getElem? (i := 1) rfl)))) (fun _ h => h) rfl dX9_put_20 ?_
  refine lv_aload_n hx hb dX9_put_23 rfl (lv_at hl 1 rfl) ?_
  refine z_get (T := TX9) (N := 14) (ci := 9) (i := 12) (v := .int x19) hx hb hts zj_X9_put_X9 hown hK hW rfl rfl 1 (by decide) (hts (.fieldLink RX9 36 "PetrolBoard$Reader" "taped" "I") (me_s (me_l (List.mem_of_getElem? (i := 0) rfl)))) (fun _ h => h) (congrArg Value.int (by rw [eI20, z_up_s])) dX9_put_24 ?_
  refine lv_iload_n hx hb dX9_put_27 rfl (lv_at hl 2 rfl) ?_
  refine lv_iload_n hx hb dX9_put_28 rfl (lv_at hl 0 rfl) ?_
  refine lv_iushr hx hb dX9_put_29 rfl ?_
  refine lv_topi (fun x25 ex25 => ?_)
  refine lv_sipush (v := 255) hx hb dX9_put_30 (by decide) ?_
  refine lv_iand hx hb dX9_put_33 ?_
  refine lv_topi (fun x26 ex26 => ?_)
  refine z_iast (i := 13) hx hb hK hW hS rfl (z_ix rfl (by omega) (by omega)) dX9_put_34 (fun H locs hz1 hW hS => ?_)
  obtain ⟨I27, eI27⟩ : ∃ K : z_I, K = z_up I20 13 x19.toNatClampNeg x26 := ⟨_, rfl⟩
  rw [← eI27] at hW
  have f28 := z_fr_a f21 (show z_wa L_X9_put_x 13 = true by decide) eI27
  refine lv_aload_n hx hb dX9_put_35 rfl (lv_at hl 1 rfl) ?_
  refine lv_dup hx hb dX9_put_36 rfl ?_
  refine z_get (T := TX9) (N := 14) (ci := 9) (i := 12) (v := .int x19) hx hb hts zj_X9_put_X9 hown hK hW rfl rfl 1 (by decide) (hts (.fieldLink RX9 36 "PetrolBoard$Reader" "taped" "I") (me_s (me_l (List.mem_of_getElem? (i := 0) rfl)))) (fun _ h => h) (congrArg Value.int (by rw [eI27, z_up_n (by decide), eI20, z_up_s])) dX9_put_37 ?_
  refine lv_iconst (v := 1) hx hb dX9_put_40 (by decide) ?_
  refine lv_iadd hx hb dX9_put_41 ?_
  refine lv_topi (fun x29 ex29 => ?_)
  have tx29 : x29.toInt = x19.toInt + 1 := z_tadd ex29 rfl z_l1 (by omega) (by omega)
  refine z_put (T := TX9) (N := 14) (ci := 9) (i := 12) (v := .int x29) (I1 := z_up I27 12 1 x29) (J1 := JX) (P1 := PC c ad) hx hb hts zj_X9_put_X9 tyX9 tyX9_ok nmX9 hown hK hW hS rfl rfl 1 (by decide) (hts (.fieldLink RX9 36 "PetrolBoard$Reader" "taped" "I") (me_s (me_l (List.mem_of_getElem? (i := 0) rfl)))) (fun _ h => h) rfl rfl rfl (by first | rfl | exact congrArg _ z_up_s) (fun a b h ty => z_vI h ty) dX9_put_42 (fun H locs hz1 hW hS => ?_)
  obtain ⟨I30, eI30⟩ : ∃ K : z_I, K = z_up I27 12 1 x29 := ⟨_, rfl⟩
  rw [← eI30] at hW
  have f31 := z_fr_k f28 (show z_wr L_X9_put_x 12 1 = true by decide) eI30
  refine lv_iinc (v := 0) (lv' := [(2, .int 0), (0, .ref (ad 12)), (1, .int a1)]) hx hb dX9_put_45 hl (k := 0) rfl (by decide) (by decide) rfl (fun ls hl => ?_)
  refine lv_goto (tgt := 3) hx hb dX9_put_48 (by decide) ?_
  refine lv_iload_n hx hb dX9_put_3 rfl (lv_at hl 0 rfl) ?_
  refine lv_if_lt (tgt := 51) hx hb dX9_put_4 (by decide) (fun c32 => absurd c32 (by decide)) (fun c32 => ?_)
  refine lv_aload_n hx hb dX9_put_7 rfl (lv_at hl 1 rfl) ?_
  refine z_get (T := TX9) (N := 14) (ci := 9) (i := 12) (v := .int x29) hx hb hts zj_X9_put_X9 hown hK hW rfl rfl 1 (by decide) (hts (.fieldLink RX9 36 "PetrolBoard$Reader" "taped" "I") (me_s (me_l (List.mem_of_getElem? (i := 0) rfl)))) (fun _ h => h) (congrArg Value.int (by rw [eI30, z_up_s])) dX9_put_8 ?_
  refine lv_aload_n hx hb dX9_put_11 rfl (lv_at hl 1 rfl) ?_
  refine z_get (T := TX9) (N := 14) (ci := 9) (i := 12) (v := .ref (ad 13)) hx hb hts zj_X9_put_X9 hown hK hW rfl rfl 0 (by decide) (hts (.fieldLink RX9 9 "PetrolBoard$Reader" "text" "[I") (me_s (me_l (List.mem_of_getElem? (i := 1) rfl)))) (fun _ h => h) rfl dX9_put_12 ?_
  refine z_alen (i := 13) (v := 500) hx hb hK hW rfl (by simp [z_tys]) (by rfl) dX9_put_15 ?_
  refine lv_icmp_ge (tgt := 51) hx hb dX9_put_16 (by decide) (fun c33 => (by have g := z_f_ge rfl z_l500 c33; omega)) (fun c33 => ?_)
  have g34 := z_f_nge rfl z_l500 c33
  refine lv_aload_n hx hb dX9_put_19 rfl (lv_at hl 1 rfl) ?_
  refine z_get (T := TX9) (N := 14) (ci := 9) (i := 12) (v := .ref (ad 13)) hx hb hts zj_X9_put_X9 hown hK hW rfl rfl 0 (by decide) (hts (.fieldLink RX9 9 "PetrolBoard$Reader" "text" "[I") (me_s (me_l (List.mem_of_getElem? (i := 1) rfl)))) (fun _ h => h) rfl dX9_put_20 ?_
  refine lv_aload_n hx hb dX9_put_23 rfl (lv_at hl 1 rfl) ?_
  refine z_get (T := TX9) (N := 14) (ci := 9) (i := 12) (v := .int x29) hx hb hts zj_X9_put_X9 hown hK hW rfl rfl 1 (by decide) (hts (.fieldLink RX9 36 "PetrolBoard$Reader" "taped" "I") (me_s (me_l (List.mem_of_getElem? (i := 0) rfl)))) (fun _ h => h) (congrArg Value.int (by rw [eI30, z_up_s])) dX9_put_24 ?_
  refine lv_iload_n hx hb dX9_put_27 rfl (lv_at hl 2 rfl) ?_
  refine lv_iload_n hx hb dX9_put_28 rfl (lv_at hl 0 rfl) ?_
  refine lv_iushr hx hb dX9_put_29 rfl ?_
  refine lv_topi (fun x35 ex35 => ?_)
  refine lv_sipush (v := 255) hx hb dX9_put_30 (by decide) ?_
  refine lv_iand hx hb dX9_put_33 ?_
  refine lv_topi (fun x36 ex36 => ?_)
  refine z_iast (i := 13) hx hb hK hW hS rfl (z_ix rfl (by omega) (by omega)) dX9_put_34 (fun H locs hz1 hW hS => ?_)
  obtain ⟨I37, eI37⟩ : ∃ K : z_I, K = z_up I30 13 x29.toNatClampNeg x36 := ⟨_, rfl⟩
  rw [← eI37] at hW
  have f38 := z_fr_a f31 (show z_wa L_X9_put_x 13 = true by decide) eI37
  refine lv_aload_n hx hb dX9_put_35 rfl (lv_at hl 1 rfl) ?_
  refine lv_dup hx hb dX9_put_36 rfl ?_
  refine z_get (T := TX9) (N := 14) (ci := 9) (i := 12) (v := .int x29) hx hb hts zj_X9_put_X9 hown hK hW rfl rfl 1 (by decide) (hts (.fieldLink RX9 36 "PetrolBoard$Reader" "taped" "I") (me_s (me_l (List.mem_of_getElem? (i := 0) rfl)))) (fun _ h => h) (congrArg Value.int (by rw [eI37, z_up_n (by decide), eI30, z_up_s])) dX9_put_37 ?_
  refine lv_iconst (v := 1) hx hb dX9_put_40 (by decide) ?_
  refine lv_iadd hx hb dX9_put_41 ?_
  refine lv_topi (fun x39 ex39 => ?_)
  have tx39 : x39.toInt = x29.toInt + 1 := z_tadd ex39 rfl z_l1 (by omega) (by omega)
  refine z_put (T := TX9) (N := 14) (ci := 9) (i := 12) (v := .int x39) (I1 := z_up I37 12 1 x39) (J1 := JX) (P1 := PC c ad) hx hb hts zj_X9_put_X9 tyX9 tyX9_ok nmX9 hown hK hW hS rfl rfl 1 (by decide) (hts (.fieldLink RX9 36 "PetrolBoard$Reader" "taped" "I") (me_s (me_l (List.mem_of_getElem? (i := 0) rfl)))) (fun _ h => h) rfl rfl rfl (by first | rfl | exact congrArg _ z_up_s) (fun a b h ty => z_vI h ty) dX9_put_42 (fun H locs hz1 hW hS => ?_)
  obtain ⟨I40, eI40⟩ : ∃ K : z_I, K = z_up I37 12 1 x39 := ⟨_, rfl⟩
  rw [← eI40] at hW
  have f41 := z_fr_k f38 (show z_wr L_X9_put_x 12 1 = true by decide) eI40
  refine lv_iinc (v := (-8)) (lv' := [(2, .int (-8)), (0, .ref (ad 12)), (1, .int a1)]) hx hb dX9_put_45 hl (k := 0) rfl (by decide) (by decide) rfl (fun ls hl => ?_)
  refine lv_goto (tgt := 3) hx hb dX9_put_48 (by decide) ?_
  refine lv_iload_n hx hb dX9_put_3 rfl (lv_at hl 0 rfl) ?_
  refine lv_if_lt (tgt := 51) hx hb dX9_put_4 (by decide) (fun c42 => ?_) (fun c42 => absurd (by decide) c42)
  exact z_vret hx hb hr hK hS (Nat.le_of_ble_eq_true rfl) (Nat.le_of_ble_eq_true rfl) hlocks dX9_put_51 (shC c, ad, I40, JX, PC c ad) hW ⟨I40, rfl, ⟨(by show 0 ≤ (I40 12 1).toInt ∧ (I40 12 1).toInt ≤ 500; rw [eI40, z_up_s]; omega), (by show 0 ≤ (I40 12 5).toInt ∧ (I40 12 5).toInt ≤ 501; rw [eI40, z_up_k (by decide), eI37, z_up_n (by decide), eI30, z_up_k (by decide), eI27, z_up_n (by decide), eI20, z_up_k (by decide), eI17, z_up_n (by decide), eI10, z_up_k (by decide), eI7, z_up_n (by decide)]; exact hR.2.1), (by show (-1) ≤ (I40 12 6).toInt ∧ (I40 12 6).toInt ≤ 1000000; rw [eI40, z_up_k (by decide), eI37, z_up_n (by decide), eI30, z_up_k (by decide), eI27, z_up_n (by decide), eI20, z_up_k (by decide), eI17, z_up_n (by decide), eI10, z_up_k (by decide), eI7, z_up_n (by decide)]; exact hR.2.2.1), (by show 0 ≤ (I40 12 9).toInt ∧ (I40 12 9).toInt ≤ 500; rw [eI40, z_up_k (by decide), eI37, z_up_n (by decide), eI30, z_up_k (by decide), eI27, z_up_n (by decide), eI20, z_up_k (by decide), eI17, z_up_n (by decide), eI10, z_up_k (by decide), eI7, z_up_n (by decide)]; exact hR.2.2.2.1), (by show 0 ≤ (I40 12 13).toInt ∧ (I40 12 13).toInt ≤ 24; rw [eI40, z_up_k (by decide), eI37, z_up_n (by decide), eI30, z_up_k (by decide), eI27, z_up_n (by decide), eI20, z_up_k (by decide), eI17, z_up_n (by decide), eI10, z_up_k (by decide), eI7, z_up_n (by decide)]; exact hR.2.2.2.2)⟩, f41, zf_P_of eI7 eI10 eI17 eI20 eI27 eI30 eI37 eI40 (by omega) (by omega) (by omega) (by omega) (by omega) (by rw [ex6, ex5]; rfl) (by rw [ex16, ex15]; rfl) (by rw [ex26, ex25]; rfl) (by rw [ex36, ex35]; rfl)⟩
noncomputable def L_X11_feed_x : z_L := [(13, 999), (12, 1)]
set_option maxHeartbeats 8000000 in
set_option maxRecDepth 100000 in
theorem sx_X11_feed_x (l : Launch) (G : z_G) (ad : Nat → Nat) (c : z_C) (I : z_I) (hR : z_iR I) (a1 : Int32) (a2 : Int32) (a3 : Int32) (a4 : Int32) (a5 : Int32) : z_M l yX11_feed wsX11_feed { frames := 2, cells := 0, slots := 0, locals := 34 } [.ref (ad 0), .int a1, .int a2, .int a3, .int a4, .int a5] G (shC c, ad, I, JX, PC c ad) (fun r u1 => ∃ I1 : z_I, u1 = (shC c, ad, I1, JX, PC c ad) ∧ z_iR I1 ∧ z_fr L_X11_feed_x I1 I ∧ ((r.toInt = -1 ∧ 480 < (I 12 1).toInt ∧ I1 = I) ∨ (r.toInt = (I 12 1).toInt + 20 ∧ (I 12 1).toInt ≤ 480 ∧ zf_Q I I1 a1 a2 a3 a4 a5))) 0 0 := by
  intro sz
  refine z_headQ (cc := cX11_feed) (maxL := 6) (ret := (some .int)) (by decide) rfl (Nat.le_of_ble_eq_true rfl) ?_
  intro p e s m below meth c0 ls hIn hK hsz hW hl
  obtain ⟨hx, hb, hr, hml, hown, hts, hlocks, hname⟩ := hIn
  subst hsz
  have hown : s.vm.findClass RX11 = some m.cls := hown
  have hA : ∀ q : Nat, s.heap.size ≤ q → z_A (shC c, ad, I, JX, PC c ad) s.heap.size q := fun q h => Or.inr h
  generalize hAe : z_A (shC c, ad, I, JX, PC c ad) s.heap.size = A at *
  have hS : va_S A s.heap s.heap [] := va_S.rf
  have hl : lv_has ls 6 [(0, .ref (ad 0)), (1, .int a1), (2, .int a2), (3, .int a3), (4, .int a4), (5, .int a5)] := hl
  refine lv_aload_n hx hb dX11_feed_0 rfl (lv_at hl 0 rfl) ?_
  refine z_get (T := TX11) (N := 13) (ci := 11) (i := 0) (v := .ref (ad 12)) hx hb hts zj_X11_feed_X11 hown hK hW rfl rfl 3 (by decide) (hts (.fieldLink RX11 23 "PetrolBoard" "reader" "LPetrolBoard$Reader;") (me_s (me_l (me_l (List.mem_of_getElem? (i := 0) rfl))))) (fun _ h => h) rfl dX11_feed_1 ?_
  have r1 : 0 ≤ (I 12 1).toInt ∧ (I 12 1).toInt ≤ 500 := hR.1
  refine z_get (T := TX9) (N := 14) (ci := 9) (i := 12) (v := .int (I 12 1)) hx hb hts zj_X11_feed_X9 hown hK hW rfl rfl 1 (by decide) (hts (.fieldLink RX11 115 "PetrolBoard$Reader" "taped" "I") (me_s (me_l (me_l (List.mem_of_getElem? (i := 1) rfl))))) (fun _ h => h) rfl dX11_feed_4 ?_
  refine lv_bipush (v := 20) hx hb dX11_feed_7 (by decide) ?_
  refine lv_iadd hx hb dX11_feed_9 ?_
  refine lv_topi (fun x2 ex2 => ?_)
  have tx2 : x2.toInt = (I 12 1).toInt + 20 := z_tadd ex2 rfl z_l20 (by omega) (by omega)
  refine lv_sipush (v := 500) hx hb dX11_feed_10 (by decide) ?_
  refine lv_icmp_le (tgt := 18) hx hb dX11_feed_13 (by decide) (fun c3 => ?_) (fun c3 => ?_)
  · have g4 := z_f_le rfl z_l500 c3
    refine lv_aload_n hx hb dX11_feed_18 rfl (lv_at hl 0 rfl) ?_
    refine z_get (T := TX11) (N := 13) (ci := 11) (i := 0) (v := .ref (ad 12)) hx hb hts zj_X11_feed_X11 hown hK hW rfl rfl 3 (by decide) (hts (.fieldLink RX11 23 "PetrolBoard" "reader" "LPetrolBoard$Reader;") (me_s (me_l (me_l (List.mem_of_getElem? (i := 0) rfl))))) (fun _ h => h) rfl dX11_feed_19 ?_
    refine lv_iload_n hx hb dX11_feed_22 rfl (lv_at hl 1 rfl) ?_
    refine z_cv hW hS hA (va_runV (As := [.int a1]) (rest := []) ⟨hx, hb, hml, hown, hts⟩ (sx_X9_put_x l G ad c I ⟨(by show 0 ≤ (I 12 1).toInt ∧ (I 12 1).toInt ≤ 500; exact hR.1), (by show 0 ≤ (I 12 5).toInt ∧ (I 12 5).toInt ≤ 501; exact hR.2.1), (by show (-1) ≤ (I 12 6).toInt ∧ (I 12 6).toInt ≤ 1000000; exact hR.2.2.1), (by show 0 ≤ (I 12 9).toInt ∧ (I 12 9).toInt ≤ 500; exact hR.2.2.2.1), (by show 0 ≤ (I 12 13).toInt ∧ (I 12 13).toInt ≤ 24; exact hR.2.2.2.2)⟩ a1 (by omega) _) (cwV 1 hts gX11_feed_X9_put rfl rfl rfl (by decide +kernel) ⟨Nat.le_of_ble_eq_true rfl, Nat.le_of_ble_eq_true rfl⟩) (z_preV (i := 12) hK hW rfl rfl) rfl rfl hl.1 rfl (lv_room (Nat.le_of_ble_eq_true rfl)) dX11_feed_23 ⟨Nat.le_of_ble_eq_true rfl, Nat.le_of_ble_eq_true rfl⟩) (fun u1 H locs hp hW hS => ?_)
    obtain ⟨I5, e9, hI5R, fI5, hp⟩ := hp
    rw [e9] at hW
    have f6 := z_fr_sub (L := L_X11_feed_x) z_fr_0 fI5 (by decide)
    have hP7 := hp
    have h8 := hP7.1
    refine lv_aload_n hx hb dX11_feed_26 rfl (lv_at hl 0 rfl) ?_
    refine z_get (T := TX11) (N := 13) (ci := 11) (i := 0) (v := .ref (ad 12)) hx hb hts zj_X11_feed_X11 hown hK hW rfl rfl 3 (by decide) (hts (.fieldLink RX11 23 "PetrolBoard" "reader" "LPetrolBoard$Reader;") (me_s (me_l (me_l (List.mem_of_getElem? (i := 0) rfl))))) (fun _ h => h) rfl dX11_feed_27 ?_
    refine lv_iload_n hx hb dX11_feed_30 rfl (lv_at hl 2 rfl) ?_
    refine z_cv hW hS hA (va_runV (As := [.int a2]) (rest := []) ⟨hx, hb, hml, hown, hts⟩ (sx_X9_put_x l G ad c I5 ⟨(by show 0 ≤ (I5 12 1).toInt ∧ (I5 12 1).toInt ≤ 500; exact hI5R.1), (by show 0 ≤ (I5 12 5).toInt ∧ (I5 12 5).toInt ≤ 501; exact hI5R.2.1), (by show (-1) ≤ (I5 12 6).toInt ∧ (I5 12 6).toInt ≤ 1000000; exact hI5R.2.2.1), (by show 0 ≤ (I5 12 9).toInt ∧ (I5 12 9).toInt ≤ 500; exact hI5R.2.2.2.1), (by show 0 ≤ (I5 12 13).toInt ∧ (I5 12 13).toInt ≤ 24; exact hI5R.2.2.2.2)⟩ a2 (by omega) _) (cwV 1 hts gX11_feed_X9_put rfl rfl rfl (by decide +kernel) ⟨Nat.le_of_ble_eq_true rfl, Nat.le_of_ble_eq_true rfl⟩) (z_preV (i := 12) hK hW rfl rfl) rfl rfl hl.1 rfl (lv_room (Nat.le_of_ble_eq_true rfl)) dX11_feed_31 ⟨Nat.le_of_ble_eq_true rfl, Nat.le_of_ble_eq_true rfl⟩) (fun u1 H locs hp hW hS => ?_)
    obtain ⟨I9, e9, hI9R, fI9, hp⟩ := hp
    rw [e9] at hW
    have f10 := z_fr_sub (L := L_X11_feed_x) f6 fI9 (by decide)
    have hP11 := hp
    have h12 := hP11.1
    refine lv_aload_n hx hb dX11_feed_34 rfl (lv_at hl 0 rfl) ?_
    refine z_get (T := TX11) (N := 13) (ci := 11) (i := 0) (v := .ref (ad 12)) hx hb hts zj_X11_feed_X11 hown hK hW rfl rfl 3 (by decide) (hts (.fieldLink RX11 23 "PetrolBoard" "reader" "LPetrolBoard$Reader;") (me_s (me_l (me_l (List.mem_of_getElem? (i := 0) rfl))))) (fun _ h => h) rfl dX11_feed_35 ?_
    refine lv_iload_n hx hb dX11_feed_38 rfl (lv_at hl 3 rfl) ?_
    refine z_cv hW hS hA (va_runV (As := [.int a3]) (rest := []) ⟨hx, hb, hml, hown, hts⟩ (sx_X9_put_x l G ad c I9 ⟨(by show 0 ≤ (I9 12 1).toInt ∧ (I9 12 1).toInt ≤ 500; exact hI9R.1), (by show 0 ≤ (I9 12 5).toInt ∧ (I9 12 5).toInt ≤ 501; exact hI9R.2.1), (by show (-1) ≤ (I9 12 6).toInt ∧ (I9 12 6).toInt ≤ 1000000; exact hI9R.2.2.1), (by show 0 ≤ (I9 12 9).toInt ∧ (I9 12 9).toInt ≤ 500; exact hI9R.2.2.2.1), (by show 0 ≤ (I9 12 13).toInt ∧ (I9 12 13).toInt ≤ 24; exact hI9R.2.2.2.2)⟩ a3 (by omega) _) (cwV 1 hts gX11_feed_X9_put rfl rfl rfl (by decide +kernel) ⟨Nat.le_of_ble_eq_true rfl, Nat.le_of_ble_eq_true rfl⟩) (z_preV (i := 12) hK hW rfl rfl) rfl rfl hl.1 rfl (lv_room (Nat.le_of_ble_eq_true rfl)) dX11_feed_39 ⟨Nat.le_of_ble_eq_true rfl, Nat.le_of_ble_eq_true rfl⟩) (fun u1 H locs hp hW hS => ?_)
    obtain ⟨I13, e9, hI13R, fI13, hp⟩ := hp
    rw [e9] at hW
    have f14 := z_fr_sub (L := L_X11_feed_x) f10 fI13 (by decide)
    have hP15 := hp
    have h16 := hP15.1
    refine lv_aload_n hx hb dX11_feed_42 rfl (lv_at hl 0 rfl) ?_
    refine z_get (T := TX11) (N := 13) (ci := 11) (i := 0) (v := .ref (ad 12)) hx hb hts zj_X11_feed_X11 hown hK hW rfl rfl 3 (by decide) (hts (.fieldLink RX11 23 "PetrolBoard" "reader" "LPetrolBoard$Reader;") (me_s (me_l (me_l (List.mem_of_getElem? (i := 0) rfl))))) (fun _ h => h) rfl dX11_feed_43 ?_
    refine lv_iload hx hb dX11_feed_46 (lv_at hl 4 rfl) ?_
    refine z_cv hW hS hA (va_runV (As := [.int a4]) (rest := []) ⟨hx, hb, hml, hown, hts⟩ (sx_X9_put_x l G ad c I13 ⟨(by show 0 ≤ (I13 12 1).toInt ∧ (I13 12 1).toInt ≤ 500; exact hI13R.1), (by show 0 ≤ (I13 12 5).toInt ∧ (I13 12 5).toInt ≤ 501; exact hI13R.2.1), (by show (-1) ≤ (I13 12 6).toInt ∧ (I13 12 6).toInt ≤ 1000000; exact hI13R.2.2.1), (by show 0 ≤ (I13 12 9).toInt ∧ (I13 12 9).toInt ≤ 500; exact hI13R.2.2.2.1), (by show 0 ≤ (I13 12 13).toInt ∧ (I13 12 13).toInt ≤ 24; exact hI13R.2.2.2.2)⟩ a4 (by omega) _) (cwV 1 hts gX11_feed_X9_put rfl rfl rfl (by decide +kernel) ⟨Nat.le_of_ble_eq_true rfl, Nat.le_of_ble_eq_true rfl⟩) (z_preV (i := 12) hK hW rfl rfl) rfl rfl hl.1 rfl (lv_room (Nat.le_of_ble_eq_true rfl)) dX11_feed_48 ⟨Nat.le_of_ble_eq_true rfl, Nat.le_of_ble_eq_true rfl⟩) (fun u1 H locs hp hW hS => ?_)
    obtain ⟨I17, e9, hI17R, fI17, hp⟩ := hp
    rw [e9] at hW
    have f18 := z_fr_sub (L := L_X11_feed_x) f14 fI17 (by decide)
    have hP19 := hp
    have h20 := hP19.1
    refine lv_aload_n hx hb dX11_feed_51 rfl (lv_at hl 0 rfl) ?_
    refine z_get (T := TX11) (N := 13) (ci := 11) (i := 0) (v := .ref (ad 12)) hx hb hts zj_X11_feed_X11 hown hK hW rfl rfl 3 (by decide) (hts (.fieldLink RX11 23 "PetrolBoard" "reader" "LPetrolBoard$Reader;") (me_s (me_l (me_l (List.mem_of_getElem? (i := 0) rfl))))) (fun _ h => h) rfl dX11_feed_52 ?_
    refine lv_iload hx hb dX11_feed_55 (lv_at hl 5 rfl) ?_
    refine z_cv hW hS hA (va_runV (As := [.int a5]) (rest := []) ⟨hx, hb, hml, hown, hts⟩ (sx_X9_put_x l G ad c I17 ⟨(by show 0 ≤ (I17 12 1).toInt ∧ (I17 12 1).toInt ≤ 500; exact hI17R.1), (by show 0 ≤ (I17 12 5).toInt ∧ (I17 12 5).toInt ≤ 501; exact hI17R.2.1), (by show (-1) ≤ (I17 12 6).toInt ∧ (I17 12 6).toInt ≤ 1000000; exact hI17R.2.2.1), (by show 0 ≤ (I17 12 9).toInt ∧ (I17 12 9).toInt ≤ 500; exact hI17R.2.2.2.1), (by show 0 ≤ (I17 12 13).toInt ∧ (I17 12 13).toInt ≤ 24; exact hI17R.2.2.2.2)⟩ a5 (by omega) _) (cwV 1 hts gX11_feed_X9_put rfl rfl rfl (by decide +kernel) ⟨Nat.le_of_ble_eq_true rfl, Nat.le_of_ble_eq_true rfl⟩) (z_preV (i := 12) hK hW rfl rfl) rfl rfl hl.1 rfl (lv_room (Nat.le_of_ble_eq_true rfl)) dX11_feed_57 ⟨Nat.le_of_ble_eq_true rfl, Nat.le_of_ble_eq_true rfl⟩) (fun u1 H locs hp hW hS => ?_)
    obtain ⟨I21, e9, hI21R, fI21, hp⟩ := hp
    rw [e9] at hW
    have f22 := z_fr_sub (L := L_X11_feed_x) f18 fI21 (by decide)
    have hP23 := hp
    have h24 := hP23.1
    refine lv_aload_n hx hb dX11_feed_60 rfl (lv_at hl 0 rfl) ?_
    refine z_get (T := TX11) (N := 13) (ci := 11) (i := 0) (v := .ref (ad 12)) hx hb hts zj_X11_feed_X11 hown hK hW rfl rfl 3 (by decide) (hts (.fieldLink RX11 23 "PetrolBoard" "reader" "LPetrolBoard$Reader;") (me_s (me_l (me_l (List.mem_of_getElem? (i := 0) rfl))))) (fun _ h => h) rfl dX11_feed_61 ?_
    have r25 : 0 ≤ (I21 12 1).toInt ∧ (I21 12 1).toInt ≤ 500 := hI21R.1
    refine z_get (T := TX9) (N := 14) (ci := 9) (i := 12) (v := .int (I21 12 1)) hx hb hts zj_X11_feed_X9 hown hK hW rfl rfl 1 (by decide) (hts (.fieldLink RX11 115 "PetrolBoard$Reader" "taped" "I") (me_s (me_l (me_l (List.mem_of_getElem? (i := 1) rfl))))) (fun _ h => h) rfl dX11_feed_64 ?_
    exact z_iret hx hb hr hK hS (Nat.le_of_ble_eq_true rfl) (Nat.le_of_ble_eq_true rfl) hlocks dX11_feed_67 (shC c, ad, I21, JX, PC c ad) hW ⟨I21, rfl, ⟨(by show 0 ≤ (I21 12 1).toInt ∧ (I21 12 1).toInt ≤ 500; exact hI21R.1), (by show 0 ≤ (I21 12 5).toInt ∧ (I21 12 5).toInt ≤ 501; exact hI21R.2.1), (by show (-1) ≤ (I21 12 6).toInt ∧ (I21 12 6).toInt ≤ 1000000; exact hI21R.2.2.1), (by show 0 ≤ (I21 12 9).toInt ∧ (I21 12 9).toInt ≤ 500; exact hI21R.2.2.2.1), (by show 0 ≤ (I21 12 13).toInt ∧ (I21 12 13).toInt ≤ 24; exact hI21R.2.2.2.2)⟩, f22, (Or.inr ⟨by omega, by omega, zf_Q_of (by omega) hP7 hP11 hP15 hP19 hP23⟩)⟩
  · have g26 := z_f_nle rfl z_l500 c3
    refine lv_iconst (v := (-1)) hx hb dX11_feed_16 (by decide) ?_
    exact z_iret hx hb hr hK hS (Nat.le_of_ble_eq_true rfl) (Nat.le_of_ble_eq_true rfl) hlocks dX11_feed_17 (shC c, ad, I, JX, PC c ad) hW ⟨I, rfl, ⟨(by show 0 ≤ (I 12 1).toInt ∧ (I 12 1).toInt ≤ 500; exact hR.1), (by show 0 ≤ (I 12 5).toInt ∧ (I 12 5).toInt ≤ 501; exact hR.2.1), (by show (-1) ≤ (I 12 6).toInt ∧ (I 12 6).toInt ≤ 1000000; exact hR.2.2.1), (by show 0 ≤ (I 12 9).toInt ∧ (I 12 9).toInt ≤ 500; exact hR.2.2.2.1), (by show 0 ≤ (I 12 13).toInt ∧ (I 12 13).toInt ≤ 24; exact hR.2.2.2.2)⟩, z_fr_0, (Or.inl ⟨by decide, by omega, rfl⟩)⟩
set_option maxHeartbeats 8000000 in
set_option maxRecDepth 100000 in
theorem sx_X11_fault_x (l : Launch) (G : z_G) (ad : Nat → Nat) (c : z_C) (I : z_I) : z_M l yX11_fault wsX11_fault { frames := 1, cells := 0, slots := 0, locals := 12 } [.ref (ad 0)] G (shC c, ad, I, JX, PC c ad) (fun r u1 => u1 = (shC c, ad, I, JX, PC c ad) ∧ (r.toInt = (I 0 1).toInt)) 0 0 := by
  intro sz
  refine z_headQ (cc := cX11_fault) (maxL := 1) (ret := (some .int)) (by decide) rfl (Nat.le_of_ble_eq_true rfl) ?_
  intro p e s m below meth c0 ls hIn hK hsz hW hl
  obtain ⟨hx, hb, hr, hml, hown, hts, hlocks, hname⟩ := hIn
  subst hsz
  have hown : s.vm.findClass RX11 = some m.cls := hown
  have hA : ∀ q : Nat, s.heap.size ≤ q → z_A (shC c, ad, I, JX, PC c ad) s.heap.size q := fun q h => Or.inr h
  generalize hAe : z_A (shC c, ad, I, JX, PC c ad) s.heap.size = A at *
  have hS : va_S A s.heap s.heap [] := va_S.rf
  have hl : lv_has ls 1 [(0, .ref (ad 0))] := hl
  refine lv_aload_n hx hb dX11_fault_0 rfl (lv_at hl 0 rfl) ?_
  refine z_get (T := TX11) (N := 13) (ci := 11) (i := 0) (v := .int (I 0 1)) hx hb hts zj_X11_fault_X11 hown hK hW rfl rfl 1 (by decide) (hts (.fieldLink RX11 9 "PetrolBoard" "faultPlace" "I") (me_s (me_l (List.mem_of_getElem? (i := 0) rfl)))) (fun _ h => h) rfl dX11_fault_1 ?_
  exact z_iret hx hb hr hK hS (Nat.le_of_ble_eq_true rfl) (Nat.le_of_ble_eq_true rfl) hlocks dX11_fault_4 (shC c, ad, I, JX, PC c ad) hW ⟨rfl, rfl⟩
set_option maxHeartbeats 8000000 in
set_option maxRecDepth 100000 in
theorem sx_X12_fault_x (l : Launch) (G : z_G) (ad : Nat → Nat) (I : z_I) (J : z_J) : z_M l yX12_fault wsX12_fault { frames := 1, cells := 0, slots := 0, locals := 12 } [.ref (ad 0)] G (shM, ad, I, J, PM ad) (fun r u1 => u1 = (shM, ad, I, J, PM ad) ∧ (r.toInt = (I 0 32).toInt)) 0 0 := by
  intro sz
  refine z_headQ (cc := cX12_fault) (maxL := 1) (ret := (some .int)) (by decide) rfl (Nat.le_of_ble_eq_true rfl) ?_
  intro p e s m below meth c0 ls hIn hK hsz hW hl
  obtain ⟨hx, hb, hr, hml, hown, hts, hlocks, hname⟩ := hIn
  subst hsz
  have hown : s.vm.findClass RX12 = some m.cls := hown
  have hA : ∀ q : Nat, s.heap.size ≤ q → z_A (shM, ad, I, J, PM ad) s.heap.size q := fun q h => Or.inr h
  generalize hAe : z_A (shM, ad, I, J, PM ad) s.heap.size = A at *
  have hS : va_S A s.heap s.heap [] := va_S.rf
  have hl : lv_has ls 1 [(0, .ref (ad 0))] := hl
  refine lv_aload_n hx hb dX12_fault_0 rfl (lv_at hl 0 rfl) ?_
  refine z_get (T := TX12) (N := 96) (ci := 12) (i := 0) (v := .int (I 0 32)) hx hb hts zj_X12_fault_X12 hown hK hW rfl rfl 32 (by decide) (hts (.fieldLink RX12 87 "PetrolBoardModel" "faultAt" "I") (me_s (me_l (List.mem_of_getElem? (i := 0) rfl)))) (fun _ h => h) rfl dX12_fault_1 ?_
  exact z_iret hx hb hr hK hS (Nat.le_of_ble_eq_true rfl) (Nat.le_of_ble_eq_true rfl) hlocks dX12_fault_4 (shM, ad, I, J, PM ad) hW ⟨rfl, rfl⟩
noncomputable def L_X12_feed_x : z_L := [(0, 31), (25, 999)]
set_option maxHeartbeats 8000000 in
set_option maxRecDepth 100000 in
theorem sx_X12_feed_x (l : Launch) (G : z_G) (ad : Nat → Nat) (I : z_I) (J : z_J) (hmp : z_imp I) (a1 : Int32) (a2 : Int32) (a3 : Int32) (a4 : Int32) (a5 : Int32) : z_M l yX12_feed wsX12_feed { frames := 1, cells := 0, slots := 0, locals := 12 } [.ref (ad 0), .int a1, .int a2, .int a3, .int a4, .int a5] G (shM, ad, I, J, PM ad) (fun r u1 => ∃ (I1 : z_I) (J1 : z_J), u1 = (shM, ad, I1, J1, PM ad) ∧ z_imp I1 ∧ z_fr L_X12_feed_x I1 I ∧ ((r.toInt = -1 ∧ 480 < (I 0 31).toInt ∧ I1 = I) ∨ (r.toInt = (I 0 31).toInt + 20 ∧ (I 0 31).toInt ≤ 480 ∧ (I1 0 31).toInt = (I 0 31).toInt + 20 ∧ zf_B I I1 a1 a2 a3 a4 a5 20))) 0 0 := by
  intro sz
  refine z_headQ (cc := cX12_feed) (maxL := 8) (ret := (some .int)) (by decide) rfl (Nat.le_of_ble_eq_true rfl) ?_
  intro p e s m below meth c0 ls hIn hK hsz hW hl
  obtain ⟨hx, hb, hr, hml, hown, hts, hlocks, hname⟩ := hIn
  subst hsz
  have hown : s.vm.findClass RX12 = some m.cls := hown
  have hA : ∀ q : Nat, s.heap.size ≤ q → z_A (shM, ad, I, J, PM ad) s.heap.size q := fun q h => Or.inr h
  generalize hAe : z_A (shM, ad, I, J, PM ad) s.heap.size = A at *
  have hS : va_S A s.heap s.heap [] := va_S.rf
  have hl : lv_has ls 8 [(0, .ref (ad 0)), (1, .int a1), (2, .int a2), (3, .int a3), (4, .int a4), (5, .int a5)] := hl
  refine lv_aload_n hx hb dX12_feed_0 rfl (lv_at hl 0 rfl) ?_
  have r1 : 0 ≤ (I 0 31).toInt ∧ (I 0 31).toInt ≤ 500 := hmp.1
  refine z_get (T := TX12) (N := 96) (ci := 12) (i := 0) (v := .int (I 0 31)) hx hb hts zj_X12_feed_X12 hown hK hW rfl rfl 31 (by decide) (hts (.fieldLink RX12 253 "PetrolBoardModel" "taped" "I") (me_s (me_l (List.mem_of_getElem? (i := 0) rfl)))) (fun _ h => h) rfl dX12_feed_1 ?_
  refine lv_bipush (v := 20) hx hb dX12_feed_4 (by decide) ?_
  refine lv_iadd hx hb dX12_feed_6 ?_
  refine lv_topi (fun x2 ex2 => ?_)
  have tx2 : x2.toInt = (I 0 31).toInt + 20 := z_tadd ex2 rfl z_l20 (by omega) (by omega)
  refine lv_sipush (v := 500) hx hb dX12_feed_7 (by decide) ?_
  refine lv_icmp_le (tgt := 15) hx hb dX12_feed_10 (by decide) (fun c3 => ?_) (fun c3 => ?_)
  · have g4 := z_f_le rfl z_l500 c3
    refine lv_iconst (v := 0) hx hb dX12_feed_15 (by decide) ?_
    refine lv_istore (lv' := [(6, .int 0), (0, .ref (ad 0)), (1, .int a1), (2, .int a2), (3, .int a3), (4, .int a4), (5, .int a5)]) hx hb dX12_feed_16 hl (by decide) rfl (fun ls hl => ?_)
    have lp5 : ∀ (f : Nat) (y6 : Int32) (I7 : z_I) (J8 : z_J) (H : Heap) (locs : List Loc) (ls : Array Slot), (2147483647 < y6.toInt + (f : Int)) → (0 ≤ y6.toInt) → (y6.toInt ≤ 20) → (z_imp I7) → ((I7 0 31).toInt = (I 0 31).toInt + y6.toInt) → (zf_B I I7 a1 a2 a3 a4 a5 y6.toInt) → (z_fr L_X12_feed_x I7 I) → z_W G A (shM, ad, I7, J8, PM ad) H → va_S A s.heap H locs → lv_has ls 8 [(6, .int y6), (0, .ref (ad 0)), (1, .int a1), (2, .int a2), (3, .int a3), (4, .int a4), (5, .int a5)] → W p l e (headSpec wsX12_feed { frames := 1, cells := 0, slots := 0, locals := 12 }).room s m ([.ref (ad 0), .int a1, .int a2, .int a3, .int a4, .int a5] : List Value).toArray below meth c0 H locs 0 0 (MQ below (va_Qi (fun (r : Int32) (u1 : z_U) => ∃ (I1 : z_I) (J1 : z_J), u1 = (shM, ad, I1, J1, PM ad) ∧ z_imp I1 ∧ z_fr L_X12_feed_x I1 I ∧ ((r.toInt = -1 ∧ 480 < (I 0 31).toInt ∧ I1 = I) ∨ (r.toInt = (I 0 31).toInt + 20 ∧ (I 0 31).toInt ≤ 480 ∧ (I1 0 31).toInt = (I 0 31).toInt + 20 ∧ zf_B I I1 a1 a2 a3 a4 a5 20))) (z_B G A) A) ([.ref (ad 0), .int a1, .int a2, .int a3, .int a4, .int a5] : List Value).toArray s 0 0 A) (F0 m 18 ls []) := by
      intro f
      induction f with
      | zero => intro y6 I7 J8 H locs ls lp5m lp5l6 lp5u6 lp5mp lp5T lp5B lp5fr hW hS hl; exact absurd lp5m (by have := Int32.toInt_lt y6; have := Int32.le_toInt y6; omega)
      | succ f lp5ih =>
        intro y6 I7 J8 H locs ls lp5m lp5l6 lp5u6 lp5mp lp5T lp5B lp5fr hW hS hl
        refine lv_iload hx hb dX12_feed_18 (lv_at hl 0 rfl) ?_
        refine lv_bipush (v := 20) hx hb dX12_feed_20 (by decide) ?_
        refine lv_icmp_ge (tgt := 112) hx hb dX12_feed_22 (by decide) (fun c9 => ?_) (fun c9 => ?_)
        · have g10 := z_f_ge rfl z_l20 c9
          refine lv_aload_n hx hb dX12_feed_112 rfl (lv_at hl 1 rfl) ?_
          have r11 : 0 ≤ (I7 0 31).toInt ∧ (I7 0 31).toInt ≤ 500 := lp5mp.1
          refine z_get (T := TX12) (N := 96) (ci := 12) (i := 0) (v := .int (I7 0 31)) hx hb hts zj_X12_feed_X12 hown hK hW rfl rfl 31 (by decide) (hts (.fieldLink RX12 253 "PetrolBoardModel" "taped" "I") (me_s (me_l (List.mem_of_getElem? (i := 0) rfl)))) (fun _ h => h) rfl dX12_feed_113 ?_
          exact z_iret hx hb hr hK hS (Nat.le_of_ble_eq_true rfl) (Nat.le_of_ble_eq_true rfl) hlocks dX12_feed_116 (shM, ad, I7, J8, PM ad) hW ⟨I7, J8, rfl, ⟨(by show 0 ≤ (I7 0 31).toInt ∧ (I7 0 31).toInt ≤ 500; exact lp5mp.1), (by show 0 ≤ (I7 0 33).toInt ∧ (I7 0 33).toInt ≤ 500; exact lp5mp.2.1), (by show 0 ≤ (I7 0 34).toInt ∧ (I7 0 34).toInt ≤ 500; exact lp5mp.2.2.1), (by show 0 ≤ (I7 0 35).toInt ∧ (I7 0 35).toInt ≤ 500; exact lp5mp.2.2.2)⟩, lp5fr, (Or.inr ⟨by omega, by omega, by omega, (show y6.toInt = 20 by omega) ▸ lp5B⟩)⟩
        · have g12 := z_f_nge rfl z_l20 c9
          refine lv_iload hx hb dX12_feed_25 (lv_at hl 0 rfl) ?_
          refine lv_iconst (v := 4) hx hb dX12_feed_27 (by decide) ?_
          refine lv_icmp_ge (tgt := 35) hx hb dX12_feed_28 (by decide) (fun c13 => ?_) (fun c13 => ?_)
          · have g14 := z_f_ge rfl z_l4 c13
            refine lv_iload hx hb dX12_feed_35 (lv_at hl 0 rfl) ?_
            refine lv_bipush (v := 8) hx hb dX12_feed_37 (by decide) ?_
            refine lv_icmp_ge (tgt := 46) hx hb dX12_feed_39 (by decide) (fun c15 => ?_) (fun c15 => ?_)
            · have g16 := z_f_ge rfl z_l8 c15
              refine lv_iload hx hb dX12_feed_46 (lv_at hl 0 rfl) ?_
              refine lv_bipush (v := 12) hx hb dX12_feed_48 (by decide) ?_
              refine lv_icmp_ge (tgt := 57) hx hb dX12_feed_50 (by decide) (fun c17 => ?_) (fun c17 => ?_)
              · have g18 := z_f_ge rfl z_l12 c17
                refine lv_iload hx hb dX12_feed_57 (lv_at hl 0 rfl) ?_
                refine lv_bipush (v := 16) hx hb dX12_feed_59 (by decide) ?_
                refine lv_icmp_ge (tgt := 69) hx hb dX12_feed_61 (by decide) (fun c19 => ?_) (fun c19 => ?_)
                · have g20 := z_f_ge rfl z_l16 c19
                  refine lv_iload hx hb dX12_feed_69 (lv_at hl 6 rfl) ?_
                  refine lv_istore (lv' := [(7, .int a5), (6, .int y6), (0, .ref (ad 0)), (1, .int a1), (2, .int a2), (3, .int a3), (4, .int a4), (5, .int a5)]) hx hb dX12_feed_71 hl (by decide) rfl (fun ls hl => ?_)
                  refine lv_aload_n hx hb dX12_feed_73 rfl (lv_at hl 2 rfl) ?_
                  refine z_get (T := TX12) (N := 96) (ci := 12) (i := 0) (v := .ref (ad 25)) hx hb hts zj_X12_feed_X12 hown hK hW rfl rfl 30 (by decide) (hts (.fieldLink RX12 83 "PetrolBoardModel" "tape" "[B") (me_s (me_l (List.mem_of_getElem? (i := 1) rfl)))) (fun _ h => h) rfl dX12_feed_74 ?_
                  refine lv_aload_n hx hb dX12_feed_77 rfl (lv_at hl 2 rfl) ?_
                  have r21 : 0 ≤ (I7 0 31).toInt ∧ (I7 0 31).toInt ≤ 500 := lp5mp.1
                  refine z_get (T := TX12) (N := 96) (ci := 12) (i := 0) (v := .int (I7 0 31)) hx hb hts zj_X12_feed_X12 hown hK hW rfl rfl 31 (by decide) (hts (.fieldLink RX12 253 "PetrolBoardModel" "taped" "I") (me_s (me_l (List.mem_of_getElem? (i := 0) rfl)))) (fun _ h => h) rfl dX12_feed_78 ?_
                  refine lv_iload hx hb dX12_feed_81 (lv_at hl 0 rfl) ?_
                  refine lv_bipush (v := 24) hx hb dX12_feed_83 (by decide) ?_
                  refine lv_bipush (v := 8) hx hb dX12_feed_85 (by decide) ?_
                  refine lv_iload hx hb dX12_feed_87 (lv_at hl 1 rfl) ?_
                  refine lv_iconst (v := 4) hx hb dX12_feed_89 (by decide) ?_
                  refine lv_irem hx hb dX12_feed_90 (by decide) ?_
                  refine lv_topi (fun x22 ex22 => ?_)
                  have tx22 := z_trem ex22 rfl z_l4 (by decide)
                  refine lv_imul hx hb dX12_feed_91 ?_
                  refine lv_topi (fun x23 ex23 => ?_)
                  have tx23 : x23.toInt = 8 * x22.toInt := z_tmul ex23 z_l8 rfl (by omega) (by omega)
                  refine lv_isub hx hb dX12_feed_92 ?_
                  refine lv_topi (fun x24 ex24 => ?_)
                  have tx24 : x24.toInt = 24 - x23.toInt := z_tsub ex24 z_l24 rfl (by omega) (by omega)
                  refine lv_ishr hx hb dX12_feed_93 ?_
                  refine lv_topi (fun x25 ex25 => ?_)
                  refine lv_i2b hx hb dX12_feed_94 rfl ?_
                  refine lv_topi (fun x26 ex26 => ?_)
                  refine z_bast (i := 25) hx hb hK hW hS rfl (z_ix rfl (by omega) (by omega)) dX12_feed_95 (fun H locs hz1 hW hS => ?_)
                  obtain ⟨I27, eI27⟩ : ∃ K : z_I, K = z_up I7 25 (I7 0 31).toNatClampNeg (vp_nar .byte x26) := ⟨_, rfl⟩
                  rw [← eI27] at hW
                  have f28 := z_fr_a lp5fr (show z_wa L_X12_feed_x 25 = true by decide) eI27
                  refine lv_aload_n hx hb dX12_feed_96 rfl (lv_at hl 2 rfl) ?_
                  refine lv_dup hx hb dX12_feed_97 rfl ?_
                  refine z_get (T := TX12) (N := 96) (ci := 12) (i := 0) (v := .int (I7 0 31)) hx hb hts zj_X12_feed_X12 hown hK hW rfl rfl 31 (by decide) (hts (.fieldLink RX12 253 "PetrolBoardModel" "taped" "I") (me_s (me_l (List.mem_of_getElem? (i := 0) rfl)))) (fun _ h => h) (congrArg Value.int (by rw [eI27, z_up_n (by decide)])) dX12_feed_98 ?_
                  refine lv_iconst (v := 1) hx hb dX12_feed_101 (by decide) ?_
                  refine lv_iadd hx hb dX12_feed_102 ?_
                  refine lv_topi (fun x29 ex29 => ?_)
                  have tx29 : x29.toInt = (I7 0 31).toInt + 1 := z_tadd ex29 rfl z_l1 (by omega) (by omega)
                  refine z_put (T := TX12) (N := 96) (ci := 12) (i := 0) (v := .int x29) (I1 := z_up I27 0 31 x29) (J1 := J8) (P1 := PM ad) hx hb hts zj_X12_feed_X12 tyX12 tyX12_ok nmX12 hown hK hW hS rfl rfl 31 (by decide) (hts (.fieldLink RX12 253 "PetrolBoardModel" "taped" "I") (me_s (me_l (List.mem_of_getElem? (i := 0) rfl)))) (fun _ h => h) rfl rfl rfl (by first | rfl | exact congrArg _ z_up_s) (fun a b h ty => z_vI h ty) dX12_feed_103 (fun H locs hz1 hW hS => ?_)
                  obtain ⟨I30, eI30⟩ : ∃ K : z_I, K = z_up I27 0 31 x29 := ⟨_, rfl⟩
                  rw [← eI30] at hW
                  have f31 := z_fr_k f28 (show z_wr L_X12_feed_x 0 31 = true by decide) eI30
                  obtain ⟨x32, ex32⟩ : ∃ y : Int32, y = y6 + 1 := ⟨_, rfl⟩
                  have tx32 : x32.toInt = y6.toInt + 1 := z_tadd ex32 rfl z_l1 (by omega) (by omega)
                  refine lv_iinc (v := x32) (lv' := [(6, .int x32), (7, .int a5), (0, .ref (ad 0)), (1, .int a1), (2, .int a2), (3, .int a3), (4, .int a4), (5, .int a5)]) hx hb dX12_feed_106 hl (k := 1) rfl (by rw [ex32]; rfl) (by decide) rfl (fun ls hl => ?_)
                  refine lv_goto (tgt := 18) hx hb dX12_feed_109 (by decide) ?_
                  exact lp5ih x32 I30 J8 _ _ _ (by omega) (by omega) (by omega) ⟨(by show 0 ≤ (I30 0 31).toInt ∧ (I30 0 31).toInt ≤ 500; rw [eI30, z_up_s]; omega), (by show 0 ≤ (I30 0 33).toInt ∧ (I30 0 33).toInt ≤ 500; rw [eI30, z_up_k (by decide), eI27, z_up_n (by decide)]; exact lp5mp.2.1), (by show 0 ≤ (I30 0 34).toInt ∧ (I30 0 34).toInt ≤ 500; rw [eI30, z_up_k (by decide), eI27, z_up_n (by decide)]; exact lp5mp.2.2.1), (by show 0 ≤ (I30 0 35).toInt ∧ (I30 0 35).toInt ≤ 500; rw [eI30, z_up_k (by decide), eI27, z_up_n (by decide)]; exact lp5mp.2.2.2)⟩ (by have q0 : (I30 0 31) = x29 := (by rw [eI30, z_up_s]); show (I30 0 31).toInt = (I 0 31).toInt + x32.toInt; rw [q0]; omega) (by have c9 := z_clt (x := y6) rfl (by omega); exact zf_B_s lp5B eI27 eI30 lp5T (by omega) (by omega) (by rw [ex26, ex25, show x24 = zf_s (y6.toNatClampNeg % 4) from zf_s_eq (by omega), zf_v_5 (by omega)]; rfl) (by omega)) f31 hW hS (lv_sub hl [0, 2, 3, 4, 5, 6, 7] rfl)
                · have g33 := z_f_nge rfl z_l16 c19
                  refine lv_iload hx hb dX12_feed_64 (lv_at hl 5 rfl) ?_
                  refine lv_goto (tgt := 71) hx hb dX12_feed_66 (by decide) ?_
                  refine lv_istore (lv' := [(7, .int a4), (6, .int y6), (0, .ref (ad 0)), (1, .int a1), (2, .int a2), (3, .int a3), (4, .int a4), (5, .int a5)]) hx hb dX12_feed_71 hl (by decide) rfl (fun ls hl => ?_)
                  refine lv_aload_n hx hb dX12_feed_73 rfl (lv_at hl 2 rfl) ?_
                  refine z_get (T := TX12) (N := 96) (ci := 12) (i := 0) (v := .ref (ad 25)) hx hb hts zj_X12_feed_X12 hown hK hW rfl rfl 30 (by decide) (hts (.fieldLink RX12 83 "PetrolBoardModel" "tape" "[B") (me_s (me_l (List.mem_of_getElem? (i := 1) rfl)))) (fun _ h => h) rfl dX12_feed_74 ?_
                  refine lv_aload_n hx hb dX12_feed_77 rfl (lv_at hl 2 rfl) ?_
                  have r34 : 0 ≤ (I7 0 31).toInt ∧ (I7 0 31).toInt ≤ 500 := lp5mp.1
                  refine z_get (T := TX12) (N := 96) (ci := 12) (i := 0) (v := .int (I7 0 31)) hx hb hts zj_X12_feed_X12 hown hK hW rfl rfl 31 (by decide) (hts (.fieldLink RX12 253 "PetrolBoardModel" "taped" "I") (me_s (me_l (List.mem_of_getElem? (i := 0) rfl)))) (fun _ h => h) rfl dX12_feed_78 ?_
                  refine lv_iload hx hb dX12_feed_81 (lv_at hl 0 rfl) ?_
                  refine lv_bipush (v := 24) hx hb dX12_feed_83 (by decide) ?_
                  refine lv_bipush (v := 8) hx hb dX12_feed_85 (by decide) ?_
                  refine lv_iload hx hb dX12_feed_87 (lv_at hl 1 rfl) ?_
                  refine lv_iconst (v := 4) hx hb dX12_feed_89 (by decide) ?_
                  refine lv_irem hx hb dX12_feed_90 (by decide) ?_
                  refine lv_topi (fun x35 ex35 => ?_)
                  have tx35 := z_trem ex35 rfl z_l4 (by decide)
                  refine lv_imul hx hb dX12_feed_91 ?_
                  refine lv_topi (fun x36 ex36 => ?_)
                  have tx36 : x36.toInt = 8 * x35.toInt := z_tmul ex36 z_l8 rfl (by omega) (by omega)
                  refine lv_isub hx hb dX12_feed_92 ?_
                  refine lv_topi (fun x37 ex37 => ?_)
                  have tx37 : x37.toInt = 24 - x36.toInt := z_tsub ex37 z_l24 rfl (by omega) (by omega)
                  refine lv_ishr hx hb dX12_feed_93 ?_
                  refine lv_topi (fun x38 ex38 => ?_)
                  refine lv_i2b hx hb dX12_feed_94 rfl ?_
                  refine lv_topi (fun x39 ex39 => ?_)
                  refine z_bast (i := 25) hx hb hK hW hS rfl (z_ix rfl (by omega) (by omega)) dX12_feed_95 (fun H locs hz1 hW hS => ?_)
                  obtain ⟨I40, eI40⟩ : ∃ K : z_I, K = z_up I7 25 (I7 0 31).toNatClampNeg (vp_nar .byte x39) := ⟨_, rfl⟩
                  rw [← eI40] at hW
                  have f41 := z_fr_a lp5fr (show z_wa L_X12_feed_x 25 = true by decide) eI40
                  refine lv_aload_n hx hb dX12_feed_96 rfl (lv_at hl 2 rfl) ?_
                  refine lv_dup hx hb dX12_feed_97 rfl ?_
                  refine z_get (T := TX12) (N := 96) (ci := 12) (i := 0) (v := .int (I7 0 31)) hx hb hts zj_X12_feed_X12 hown hK hW rfl rfl 31 (by decide) (hts (.fieldLink RX12 253 "PetrolBoardModel" "taped" "I") (me_s (me_l (List.mem_of_getElem? (i := 0) rfl)))) (fun _ h => h) (congrArg Value.int (by rw [eI40, z_up_n (by decide)])) dX12_feed_98 ?_
                  refine lv_iconst (v := 1) hx hb dX12_feed_101 (by decide) ?_
                  refine lv_iadd hx hb dX12_feed_102 ?_
                  refine lv_topi (fun x42 ex42 => ?_)
                  have tx42 : x42.toInt = (I7 0 31).toInt + 1 := z_tadd ex42 rfl z_l1 (by omega) (by omega)
                  refine z_put (T := TX12) (N := 96) (ci := 12) (i := 0) (v := .int x42) (I1 := z_up I40 0 31 x42) (J1 := J8) (P1 := PM ad) hx hb hts zj_X12_feed_X12 tyX12 tyX12_ok nmX12 hown hK hW hS rfl rfl 31 (by decide) (hts (.fieldLink RX12 253 "PetrolBoardModel" "taped" "I") (me_s (me_l (List.mem_of_getElem? (i := 0) rfl)))) (fun _ h => h) rfl rfl rfl (by first | rfl | exact congrArg _ z_up_s) (fun a b h ty => z_vI h ty) dX12_feed_103 (fun H locs hz1 hW hS => ?_)
                  obtain ⟨I43, eI43⟩ : ∃ K : z_I, K = z_up I40 0 31 x42 := ⟨_, rfl⟩
                  rw [← eI43] at hW
                  have f44 := z_fr_k f41 (show z_wr L_X12_feed_x 0 31 = true by decide) eI43
                  obtain ⟨x45, ex45⟩ : ∃ y : Int32, y = y6 + 1 := ⟨_, rfl⟩
                  have tx45 : x45.toInt = y6.toInt + 1 := z_tadd ex45 rfl z_l1 (by omega) (by omega)
                  refine lv_iinc (v := x45) (lv' := [(6, .int x45), (7, .int a4), (0, .ref (ad 0)), (1, .int a1), (2, .int a2), (3, .int a3), (4, .int a4), (5, .int a5)]) hx hb dX12_feed_106 hl (k := 1) rfl (by rw [ex45]; rfl) (by decide) rfl (fun ls hl => ?_)
                  refine lv_goto (tgt := 18) hx hb dX12_feed_109 (by decide) ?_
                  exact lp5ih x45 I43 J8 _ _ _ (by omega) (by omega) (by omega) ⟨(by show 0 ≤ (I43 0 31).toInt ∧ (I43 0 31).toInt ≤ 500; rw [eI43, z_up_s]; omega), (by show 0 ≤ (I43 0 33).toInt ∧ (I43 0 33).toInt ≤ 500; rw [eI43, z_up_k (by decide), eI40, z_up_n (by decide)]; exact lp5mp.2.1), (by show 0 ≤ (I43 0 34).toInt ∧ (I43 0 34).toInt ≤ 500; rw [eI43, z_up_k (by decide), eI40, z_up_n (by decide)]; exact lp5mp.2.2.1), (by show 0 ≤ (I43 0 35).toInt ∧ (I43 0 35).toInt ≤ 500; rw [eI43, z_up_k (by decide), eI40, z_up_n (by decide)]; exact lp5mp.2.2.2)⟩ (by have q0 : (I43 0 31) = x42 := (by rw [eI43, z_up_s]); show (I43 0 31).toInt = (I 0 31).toInt + x45.toInt; rw [q0]; omega) (by have c9 := z_clt (x := y6) rfl (by omega); exact zf_B_s lp5B eI40 eI43 lp5T (by omega) (by omega) (by rw [ex39, ex38, show x37 = zf_s (y6.toNatClampNeg % 4) from zf_s_eq (by omega), zf_v_4 (by omega) (by omega)]; rfl) (by omega)) f44 hW hS (lv_sub hl [0, 2, 3, 4, 5, 6, 7] rfl)
              · have g46 := z_f_nge rfl z_l12 c17
                refine lv_iload_n hx hb dX12_feed_53 rfl (lv_at hl 4 rfl) ?_
                refine lv_goto (tgt := 71) hx hb dX12_feed_54 (by decide) ?_
                refine lv_istore (lv' := [(7, .int a3), (6, .int y6), (0, .ref (ad 0)), (1, .int a1), (2, .int a2), (3, .int a3), (4, .int a4), (5, .int a5)]) hx hb dX12_feed_71 hl (by decide) rfl (fun ls hl => ?_)
                refine lv_aload_n hx hb dX12_feed_73 rfl (lv_at hl 2 rfl) ?_
                refine z_get (T := TX12) (N := 96) (ci := 12) (i := 0) (v := .ref (ad 25)) hx hb hts zj_X12_feed_X12 hown hK hW rfl rfl 30 (by decide) (hts (.fieldLink RX12 83 "PetrolBoardModel" "tape" "[B") (me_s (me_l (List.mem_of_getElem? (i := 1) rfl)))) (fun _ h => h) rfl dX12_feed_74 ?_
                refine lv_aload_n hx hb dX12_feed_77 rfl (lv_at hl 2 rfl) ?_
                have r47 : 0 ≤ (I7 0 31).toInt ∧ (I7 0 31).toInt ≤ 500 := lp5mp.1
                refine z_get (T := TX12) (N := 96) (ci := 12) (i := 0) (v := .int (I7 0 31)) hx hb hts zj_X12_feed_X12 hown hK hW rfl rfl 31 (by decide) (hts (.fieldLink RX12 253 "PetrolBoardModel" "taped" "I") (me_s (me_l (List.mem_of_getElem? (i := 0) rfl)))) (fun _ h => h) rfl dX12_feed_78 ?_
                refine lv_iload hx hb dX12_feed_81 (lv_at hl 0 rfl) ?_
                refine lv_bipush (v := 24) hx hb dX12_feed_83 (by decide) ?_
                refine lv_bipush (v := 8) hx hb dX12_feed_85 (by decide) ?_
                refine lv_iload hx hb dX12_feed_87 (lv_at hl 1 rfl) ?_
                refine lv_iconst (v := 4) hx hb dX12_feed_89 (by decide) ?_
                refine lv_irem hx hb dX12_feed_90 (by decide) ?_
                refine lv_topi (fun x48 ex48 => ?_)
                have tx48 := z_trem ex48 rfl z_l4 (by decide)
                refine lv_imul hx hb dX12_feed_91 ?_
                refine lv_topi (fun x49 ex49 => ?_)
                have tx49 : x49.toInt = 8 * x48.toInt := z_tmul ex49 z_l8 rfl (by omega) (by omega)
                refine lv_isub hx hb dX12_feed_92 ?_
                refine lv_topi (fun x50 ex50 => ?_)
                have tx50 : x50.toInt = 24 - x49.toInt := z_tsub ex50 z_l24 rfl (by omega) (by omega)
                refine lv_ishr hx hb dX12_feed_93 ?_
                refine lv_topi (fun x51 ex51 => ?_)
                refine lv_i2b hx hb dX12_feed_94 rfl ?_
                refine lv_topi (fun x52 ex52 => ?_)
                refine z_bast (i := 25) hx hb hK hW hS rfl (z_ix rfl (by omega) (by omega)) dX12_feed_95 (fun H locs hz1 hW hS => ?_)
                obtain ⟨I53, eI53⟩ : ∃ K : z_I, K = z_up I7 25 (I7 0 31).toNatClampNeg (vp_nar .byte x52) := ⟨_, rfl⟩
                rw [← eI53] at hW
                have f54 := z_fr_a lp5fr (show z_wa L_X12_feed_x 25 = true by decide) eI53
                refine lv_aload_n hx hb dX12_feed_96 rfl (lv_at hl 2 rfl) ?_
                refine lv_dup hx hb dX12_feed_97 rfl ?_
                refine z_get (T := TX12) (N := 96) (ci := 12) (i := 0) (v := .int (I7 0 31)) hx hb hts zj_X12_feed_X12 hown hK hW rfl rfl 31 (by decide) (hts (.fieldLink RX12 253 "PetrolBoardModel" "taped" "I") (me_s (me_l (List.mem_of_getElem? (i := 0) rfl)))) (fun _ h => h) (congrArg Value.int (by rw [eI53, z_up_n (by decide)])) dX12_feed_98 ?_
                refine lv_iconst (v := 1) hx hb dX12_feed_101 (by decide) ?_
                refine lv_iadd hx hb dX12_feed_102 ?_
                refine lv_topi (fun x55 ex55 => ?_)
                have tx55 : x55.toInt = (I7 0 31).toInt + 1 := z_tadd ex55 rfl z_l1 (by omega) (by omega)
                refine z_put (T := TX12) (N := 96) (ci := 12) (i := 0) (v := .int x55) (I1 := z_up I53 0 31 x55) (J1 := J8) (P1 := PM ad) hx hb hts zj_X12_feed_X12 tyX12 tyX12_ok nmX12 hown hK hW hS rfl rfl 31 (by decide) (hts (.fieldLink RX12 253 "PetrolBoardModel" "taped" "I") (me_s (me_l (List.mem_of_getElem? (i := 0) rfl)))) (fun _ h => h) rfl rfl rfl (by first | rfl | exact congrArg _ z_up_s) (fun a b h ty => z_vI h ty) dX12_feed_103 (fun H locs hz1 hW hS => ?_)
                obtain ⟨I56, eI56⟩ : ∃ K : z_I, K = z_up I53 0 31 x55 := ⟨_, rfl⟩
                rw [← eI56] at hW
                have f57 := z_fr_k f54 (show z_wr L_X12_feed_x 0 31 = true by decide) eI56
                obtain ⟨x58, ex58⟩ : ∃ y : Int32, y = y6 + 1 := ⟨_, rfl⟩
                have tx58 : x58.toInt = y6.toInt + 1 := z_tadd ex58 rfl z_l1 (by omega) (by omega)
                refine lv_iinc (v := x58) (lv' := [(6, .int x58), (7, .int a3), (0, .ref (ad 0)), (1, .int a1), (2, .int a2), (3, .int a3), (4, .int a4), (5, .int a5)]) hx hb dX12_feed_106 hl (k := 1) rfl (by rw [ex58]; rfl) (by decide) rfl (fun ls hl => ?_)
                refine lv_goto (tgt := 18) hx hb dX12_feed_109 (by decide) ?_
                exact lp5ih x58 I56 J8 _ _ _ (by omega) (by omega) (by omega) ⟨(by show 0 ≤ (I56 0 31).toInt ∧ (I56 0 31).toInt ≤ 500; rw [eI56, z_up_s]; omega), (by show 0 ≤ (I56 0 33).toInt ∧ (I56 0 33).toInt ≤ 500; rw [eI56, z_up_k (by decide), eI53, z_up_n (by decide)]; exact lp5mp.2.1), (by show 0 ≤ (I56 0 34).toInt ∧ (I56 0 34).toInt ≤ 500; rw [eI56, z_up_k (by decide), eI53, z_up_n (by decide)]; exact lp5mp.2.2.1), (by show 0 ≤ (I56 0 35).toInt ∧ (I56 0 35).toInt ≤ 500; rw [eI56, z_up_k (by decide), eI53, z_up_n (by decide)]; exact lp5mp.2.2.2)⟩ (by have q0 : (I56 0 31) = x55 := (by rw [eI56, z_up_s]); show (I56 0 31).toInt = (I 0 31).toInt + x58.toInt; rw [q0]; omega) (by have c9 := z_clt (x := y6) rfl (by omega); exact zf_B_s lp5B eI53 eI56 lp5T (by omega) (by omega) (by rw [ex52, ex51, show x50 = zf_s (y6.toNatClampNeg % 4) from zf_s_eq (by omega), zf_v_3 (by omega) (by omega)]; rfl) (by omega)) f57 hW hS (lv_sub hl [0, 2, 3, 4, 5, 6, 7] rfl)
            · have g59 := z_f_nge rfl z_l8 c15
              refine lv_iload_n hx hb dX12_feed_42 rfl (lv_at hl 3 rfl) ?_
              refine lv_goto (tgt := 71) hx hb dX12_feed_43 (by decide) ?_
              refine lv_istore (lv' := [(7, .int a2), (6, .int y6), (0, .ref (ad 0)), (1, .int a1), (2, .int a2), (3, .int a3), (4, .int a4), (5, .int a5)]) hx hb dX12_feed_71 hl (by decide) rfl (fun ls hl => ?_)
              refine lv_aload_n hx hb dX12_feed_73 rfl (lv_at hl 2 rfl) ?_
              refine z_get (T := TX12) (N := 96) (ci := 12) (i := 0) (v := .ref (ad 25)) hx hb hts zj_X12_feed_X12 hown hK hW rfl rfl 30 (by decide) (hts (.fieldLink RX12 83 "PetrolBoardModel" "tape" "[B") (me_s (me_l (List.mem_of_getElem? (i := 1) rfl)))) (fun _ h => h) rfl dX12_feed_74 ?_
              refine lv_aload_n hx hb dX12_feed_77 rfl (lv_at hl 2 rfl) ?_
              have r60 : 0 ≤ (I7 0 31).toInt ∧ (I7 0 31).toInt ≤ 500 := lp5mp.1
              refine z_get (T := TX12) (N := 96) (ci := 12) (i := 0) (v := .int (I7 0 31)) hx hb hts zj_X12_feed_X12 hown hK hW rfl rfl 31 (by decide) (hts (.fieldLink RX12 253 "PetrolBoardModel" "taped" "I") (me_s (me_l (List.mem_of_getElem? (i := 0) rfl)))) (fun _ h => h) rfl dX12_feed_78 ?_
              refine lv_iload hx hb dX12_feed_81 (lv_at hl 0 rfl) ?_
              refine lv_bipush (v := 24) hx hb dX12_feed_83 (by decide) ?_
              refine lv_bipush (v := 8) hx hb dX12_feed_85 (by decide) ?_
              refine lv_iload hx hb dX12_feed_87 (lv_at hl 1 rfl) ?_
              refine lv_iconst (v := 4) hx hb dX12_feed_89 (by decide) ?_
              refine lv_irem hx hb dX12_feed_90 (by decide) ?_
              refine lv_topi (fun x61 ex61 => ?_)
              have tx61 := z_trem ex61 rfl z_l4 (by decide)
              refine lv_imul hx hb dX12_feed_91 ?_
              refine lv_topi (fun x62 ex62 => ?_)
              have tx62 : x62.toInt = 8 * x61.toInt := z_tmul ex62 z_l8 rfl (by omega) (by omega)
              refine lv_isub hx hb dX12_feed_92 ?_
              refine lv_topi (fun x63 ex63 => ?_)
              have tx63 : x63.toInt = 24 - x62.toInt := z_tsub ex63 z_l24 rfl (by omega) (by omega)
              refine lv_ishr hx hb dX12_feed_93 ?_
              refine lv_topi (fun x64 ex64 => ?_)
              refine lv_i2b hx hb dX12_feed_94 rfl ?_
              refine lv_topi (fun x65 ex65 => ?_)
              refine z_bast (i := 25) hx hb hK hW hS rfl (z_ix rfl (by omega) (by omega)) dX12_feed_95 (fun H locs hz1 hW hS => ?_)
              obtain ⟨I66, eI66⟩ : ∃ K : z_I, K = z_up I7 25 (I7 0 31).toNatClampNeg (vp_nar .byte x65) := ⟨_, rfl⟩
              rw [← eI66] at hW
              have f67 := z_fr_a lp5fr (show z_wa L_X12_feed_x 25 = true by decide) eI66
              refine lv_aload_n hx hb dX12_feed_96 rfl (lv_at hl 2 rfl) ?_
              refine lv_dup hx hb dX12_feed_97 rfl ?_
              refine z_get (T := TX12) (N := 96) (ci := 12) (i := 0) (v := .int (I7 0 31)) hx hb hts zj_X12_feed_X12 hown hK hW rfl rfl 31 (by decide) (hts (.fieldLink RX12 253 "PetrolBoardModel" "taped" "I") (me_s (me_l (List.mem_of_getElem? (i := 0) rfl)))) (fun _ h => h) (congrArg Value.int (by rw [eI66, z_up_n (by decide)])) dX12_feed_98 ?_
              refine lv_iconst (v := 1) hx hb dX12_feed_101 (by decide) ?_
              refine lv_iadd hx hb dX12_feed_102 ?_
              refine lv_topi (fun x68 ex68 => ?_)
              have tx68 : x68.toInt = (I7 0 31).toInt + 1 := z_tadd ex68 rfl z_l1 (by omega) (by omega)
              refine z_put (T := TX12) (N := 96) (ci := 12) (i := 0) (v := .int x68) (I1 := z_up I66 0 31 x68) (J1 := J8) (P1 := PM ad) hx hb hts zj_X12_feed_X12 tyX12 tyX12_ok nmX12 hown hK hW hS rfl rfl 31 (by decide) (hts (.fieldLink RX12 253 "PetrolBoardModel" "taped" "I") (me_s (me_l (List.mem_of_getElem? (i := 0) rfl)))) (fun _ h => h) rfl rfl rfl (by first | rfl | exact congrArg _ z_up_s) (fun a b h ty => z_vI h ty) dX12_feed_103 (fun H locs hz1 hW hS => ?_)
              obtain ⟨I69, eI69⟩ : ∃ K : z_I, K = z_up I66 0 31 x68 := ⟨_, rfl⟩
              rw [← eI69] at hW
              have f70 := z_fr_k f67 (show z_wr L_X12_feed_x 0 31 = true by decide) eI69
              obtain ⟨x71, ex71⟩ : ∃ y : Int32, y = y6 + 1 := ⟨_, rfl⟩
              have tx71 : x71.toInt = y6.toInt + 1 := z_tadd ex71 rfl z_l1 (by omega) (by omega)
              refine lv_iinc (v := x71) (lv' := [(6, .int x71), (7, .int a2), (0, .ref (ad 0)), (1, .int a1), (2, .int a2), (3, .int a3), (4, .int a4), (5, .int a5)]) hx hb dX12_feed_106 hl (k := 1) rfl (by rw [ex71]; rfl) (by decide) rfl (fun ls hl => ?_)
              refine lv_goto (tgt := 18) hx hb dX12_feed_109 (by decide) ?_
              exact lp5ih x71 I69 J8 _ _ _ (by omega) (by omega) (by omega) ⟨(by show 0 ≤ (I69 0 31).toInt ∧ (I69 0 31).toInt ≤ 500; rw [eI69, z_up_s]; omega), (by show 0 ≤ (I69 0 33).toInt ∧ (I69 0 33).toInt ≤ 500; rw [eI69, z_up_k (by decide), eI66, z_up_n (by decide)]; exact lp5mp.2.1), (by show 0 ≤ (I69 0 34).toInt ∧ (I69 0 34).toInt ≤ 500; rw [eI69, z_up_k (by decide), eI66, z_up_n (by decide)]; exact lp5mp.2.2.1), (by show 0 ≤ (I69 0 35).toInt ∧ (I69 0 35).toInt ≤ 500; rw [eI69, z_up_k (by decide), eI66, z_up_n (by decide)]; exact lp5mp.2.2.2)⟩ (by have q0 : (I69 0 31) = x68 := (by rw [eI69, z_up_s]); show (I69 0 31).toInt = (I 0 31).toInt + x71.toInt; rw [q0]; omega) (by have c9 := z_clt (x := y6) rfl (by omega); exact zf_B_s lp5B eI66 eI69 lp5T (by omega) (by omega) (by rw [ex65, ex64, show x63 = zf_s (y6.toNatClampNeg % 4) from zf_s_eq (by omega), zf_v_2 (by omega) (by omega)]; rfl) (by omega)) f70 hW hS (lv_sub hl [0, 2, 3, 4, 5, 6, 7] rfl)
          · have g72 := z_f_nge rfl z_l4 c13
            refine lv_iload_n hx hb dX12_feed_31 rfl (lv_at hl 2 rfl) ?_
            refine lv_goto (tgt := 71) hx hb dX12_feed_32 (by decide) ?_
            refine lv_istore (lv' := [(7, .int a1), (6, .int y6), (0, .ref (ad 0)), (1, .int a1), (2, .int a2), (3, .int a3), (4, .int a4), (5, .int a5)]) hx hb dX12_feed_71 hl (by decide) rfl (fun ls hl => ?_)
            refine lv_aload_n hx hb dX12_feed_73 rfl (lv_at hl 2 rfl) ?_
            refine z_get (T := TX12) (N := 96) (ci := 12) (i := 0) (v := .ref (ad 25)) hx hb hts zj_X12_feed_X12 hown hK hW rfl rfl 30 (by decide) (hts (.fieldLink RX12 83 "PetrolBoardModel" "tape" "[B") (me_s (me_l (List.mem_of_getElem? (i := 1) rfl)))) (fun _ h => h) rfl dX12_feed_74 ?_
            refine lv_aload_n hx hb dX12_feed_77 rfl (lv_at hl 2 rfl) ?_
            have r73 : 0 ≤ (I7 0 31).toInt ∧ (I7 0 31).toInt ≤ 500 := lp5mp.1
            refine z_get (T := TX12) (N := 96) (ci := 12) (i := 0) (v := .int (I7 0 31)) hx hb hts zj_X12_feed_X12 hown hK hW rfl rfl 31 (by decide) (hts (.fieldLink RX12 253 "PetrolBoardModel" "taped" "I") (me_s (me_l (List.mem_of_getElem? (i := 0) rfl)))) (fun _ h => h) rfl dX12_feed_78 ?_
            refine lv_iload hx hb dX12_feed_81 (lv_at hl 0 rfl) ?_
            refine lv_bipush (v := 24) hx hb dX12_feed_83 (by decide) ?_
            refine lv_bipush (v := 8) hx hb dX12_feed_85 (by decide) ?_
            refine lv_iload hx hb dX12_feed_87 (lv_at hl 1 rfl) ?_
            refine lv_iconst (v := 4) hx hb dX12_feed_89 (by decide) ?_
            refine lv_irem hx hb dX12_feed_90 (by decide) ?_
            refine lv_topi (fun x74 ex74 => ?_)
            have tx74 := z_trem ex74 rfl z_l4 (by decide)
            refine lv_imul hx hb dX12_feed_91 ?_
            refine lv_topi (fun x75 ex75 => ?_)
            have tx75 : x75.toInt = 8 * x74.toInt := z_tmul ex75 z_l8 rfl (by omega) (by omega)
            refine lv_isub hx hb dX12_feed_92 ?_
            refine lv_topi (fun x76 ex76 => ?_)
            have tx76 : x76.toInt = 24 - x75.toInt := z_tsub ex76 z_l24 rfl (by omega) (by omega)
            refine lv_ishr hx hb dX12_feed_93 ?_
            refine lv_topi (fun x77 ex77 => ?_)
            refine lv_i2b hx hb dX12_feed_94 rfl ?_
            refine lv_topi (fun x78 ex78 => ?_)
            refine z_bast (i := 25) hx hb hK hW hS rfl (z_ix rfl (by omega) (by omega)) dX12_feed_95 (fun H locs hz1 hW hS => ?_)
            obtain ⟨I79, eI79⟩ : ∃ K : z_I, K = z_up I7 25 (I7 0 31).toNatClampNeg (vp_nar .byte x78) := ⟨_, rfl⟩
            rw [← eI79] at hW
            have f80 := z_fr_a lp5fr (show z_wa L_X12_feed_x 25 = true by decide) eI79
            refine lv_aload_n hx hb dX12_feed_96 rfl (lv_at hl 2 rfl) ?_
            refine lv_dup hx hb dX12_feed_97 rfl ?_
            refine z_get (T := TX12) (N := 96) (ci := 12) (i := 0) (v := .int (I7 0 31)) hx hb hts zj_X12_feed_X12 hown hK hW rfl rfl 31 (by decide) (hts (.fieldLink RX12 253 "PetrolBoardModel" "taped" "I") (me_s (me_l (List.mem_of_getElem? (i := 0) rfl)))) (fun _ h => h) (congrArg Value.int (by rw [eI79, z_up_n (by decide)])) dX12_feed_98 ?_
            refine lv_iconst (v := 1) hx hb dX12_feed_101 (by decide) ?_
            refine lv_iadd hx hb dX12_feed_102 ?_
            refine lv_topi (fun x81 ex81 => ?_)
            have tx81 : x81.toInt = (I7 0 31).toInt + 1 := z_tadd ex81 rfl z_l1 (by omega) (by omega)
            refine z_put (T := TX12) (N := 96) (ci := 12) (i := 0) (v := .int x81) (I1 := z_up I79 0 31 x81) (J1 := J8) (P1 := PM ad) hx hb hts zj_X12_feed_X12 tyX12 tyX12_ok nmX12 hown hK hW hS rfl rfl 31 (by decide) (hts (.fieldLink RX12 253 "PetrolBoardModel" "taped" "I") (me_s (me_l (List.mem_of_getElem? (i := 0) rfl)))) (fun _ h => h) rfl rfl rfl (by first | rfl | exact congrArg _ z_up_s) (fun a b h ty => z_vI h ty) dX12_feed_103 (fun H locs hz1 hW hS => ?_)
            obtain ⟨I82, eI82⟩ : ∃ K : z_I, K = z_up I79 0 31 x81 := ⟨_, rfl⟩
            rw [← eI82] at hW
            have f83 := z_fr_k f80 (show z_wr L_X12_feed_x 0 31 = true by decide) eI82
            obtain ⟨x84, ex84⟩ : ∃ y : Int32, y = y6 + 1 := ⟨_, rfl⟩
            have tx84 : x84.toInt = y6.toInt + 1 := z_tadd ex84 rfl z_l1 (by omega) (by omega)
            refine lv_iinc (v := x84) (lv' := [(6, .int x84), (7, .int a1), (0, .ref (ad 0)), (1, .int a1), (2, .int a2), (3, .int a3), (4, .int a4), (5, .int a5)]) hx hb dX12_feed_106 hl (k := 1) rfl (by rw [ex84]; rfl) (by decide) rfl (fun ls hl => ?_)
            refine lv_goto (tgt := 18) hx hb dX12_feed_109 (by decide) ?_
            exact lp5ih x84 I82 J8 _ _ _ (by omega) (by omega) (by omega) ⟨(by show 0 ≤ (I82 0 31).toInt ∧ (I82 0 31).toInt ≤ 500; rw [eI82, z_up_s]; omega), (by show 0 ≤ (I82 0 33).toInt ∧ (I82 0 33).toInt ≤ 500; rw [eI82, z_up_k (by decide), eI79, z_up_n (by decide)]; exact lp5mp.2.1), (by show 0 ≤ (I82 0 34).toInt ∧ (I82 0 34).toInt ≤ 500; rw [eI82, z_up_k (by decide), eI79, z_up_n (by decide)]; exact lp5mp.2.2.1), (by show 0 ≤ (I82 0 35).toInt ∧ (I82 0 35).toInt ≤ 500; rw [eI82, z_up_k (by decide), eI79, z_up_n (by decide)]; exact lp5mp.2.2.2)⟩ (by have q0 : (I82 0 31) = x81 := (by rw [eI82, z_up_s]); show (I82 0 31).toInt = (I 0 31).toInt + x84.toInt; rw [q0]; omega) (by have c9 := z_clt (x := y6) rfl (by omega); exact zf_B_s lp5B eI79 eI82 lp5T (by omega) (by omega) (by rw [ex78, ex77, show x76 = zf_s (y6.toNatClampNeg % 4) from zf_s_eq (by omega), zf_v_1 (by omega)]; rfl) (by omega)) f83 hW hS (lv_sub hl [0, 2, 3, 4, 5, 6, 7] rfl)
    exact lp5 4294967296 (0) I J _ _ _ (z_m0u _) (by rw [z_l0]; omega) (by rw [z_l0]; omega) ⟨(by show 0 ≤ (I 0 31).toInt ∧ (I 0 31).toInt ≤ 500; exact hmp.1), (by show 0 ≤ (I 0 33).toInt ∧ (I 0 33).toInt ≤ 500; exact hmp.2.1), (by show 0 ≤ (I 0 34).toInt ∧ (I 0 34).toInt ≤ 500; exact hmp.2.2.1), (by show 0 ≤ (I 0 35).toInt ∧ (I 0 35).toInt ≤ 500; exact hmp.2.2.2)⟩ (by show (I 0 31).toInt = (I 0 31).toInt + 0; omega) ⟨fun q hq => absurd hq (by have := z_l0; omega), fun j _ => rfl⟩ z_fr_0 hW hS (lv_sub hl [0, 1, 2, 3, 4, 5, 6] rfl)
  · have g85 := z_f_nle rfl z_l500 c3
    refine lv_iconst (v := (-1)) hx hb dX12_feed_13 (by decide) ?_
    exact z_iret hx hb hr hK hS (Nat.le_of_ble_eq_true rfl) (Nat.le_of_ble_eq_true rfl) hlocks dX12_feed_14 (shM, ad, I, J, PM ad) hW ⟨I, J, rfl, ⟨(by show 0 ≤ (I 0 31).toInt ∧ (I 0 31).toInt ≤ 500; exact hmp.1), (by show 0 ≤ (I 0 33).toInt ∧ (I 0 33).toInt ≤ 500; exact hmp.2.1), (by show 0 ≤ (I 0 34).toInt ∧ (I 0 34).toInt ≤ 500; exact hmp.2.2.1), (by show 0 ≤ (I 0 35).toInt ∧ (I 0 35).toInt ≤ 500; exact hmp.2.2.2)⟩, z_fr_0, (Or.inl ⟨by decide, by omega, rfl⟩)⟩
