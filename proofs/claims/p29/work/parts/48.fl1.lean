theorem dX12_edge_0 : decode cX12_edge 0 = .ok (.aload_n 0, 1) := z_dd_42 (by decide +kernel)
theorem dX12_edge_1 : decode cX12_edge 1 = .ok (.getfield 181, 3) := z_dd_180 (by decide +kernel)
theorem dX12_edge_4 : decode cX12_edge 4 = .ok (.bipush 16, 2) := z_dd_16 (by decide +kernel)
theorem dX12_edge_6 : decode cX12_edge 6 = .ok (.iload_n 1, 1) := z_dd_27 (by decide +kernel)
theorem dX12_edge_7 : decode cX12_edge 7 = .ok (.imul, 1) := z_dd_104 (by decide +kernel)
theorem dX12_edge_8 : decode cX12_edge 8 = .ok (.iload_n 2, 1) := z_dd_28 (by decide +kernel)
theorem dX12_edge_9 : decode cX12_edge 9 = .ok (.iadd, 1) := z_dd_96 (by decide +kernel)
theorem dX12_edge_10 : decode cX12_edge 10 = .ok (.iload_n 3, 1) := z_dd_29 (by decide +kernel)
theorem dX12_edge_11 : decode cX12_edge 11 = .ok (.iastore, 1) := z_dd_79 (by decide +kernel)
theorem dX12_edge_12 : decode cX12_edge 12 = .ok (.aload_n 0, 1) := z_dd_42 (by decide +kernel)
theorem dX12_edge_13 : decode cX12_edge 13 = .ok (.getfield 184, 3) := z_dd_180 (by decide +kernel)
theorem dX12_edge_16 : decode cX12_edge 16 = .ok (.bipush 16, 2) := z_dd_16 (by decide +kernel)
theorem dX12_edge_18 : decode cX12_edge 18 = .ok (.iload_n 1, 1) := z_dd_27 (by decide +kernel)
theorem dX12_edge_19 : decode cX12_edge 19 = .ok (.imul, 1) := z_dd_104 (by decide +kernel)
theorem dX12_edge_20 : decode cX12_edge 20 = .ok (.iload_n 2, 1) := z_dd_28 (by decide +kernel)
theorem dX12_edge_21 : decode cX12_edge 21 = .ok (.iadd, 1) := z_dd_96 (by decide +kernel)
theorem dX12_edge_22 : decode cX12_edge 22 = .ok (.iload 4, 2) := z_dd_21 (by decide +kernel)
theorem dX12_edge_24 : decode cX12_edge 24 = .ok (.iastore, 1) := z_dd_79 (by decide +kernel)
theorem dX12_edge_25 : decode cX12_edge 25 = .ok (.aload_n 0, 1) := z_dd_42 (by decide +kernel)
theorem dX12_edge_26 : decode cX12_edge 26 = .ok (.getfield 184, 3) := z_dd_180 (by decide +kernel)
theorem dX12_edge_29 : decode cX12_edge 29 = .ok (.bipush 16, 2) := z_dd_16 (by decide +kernel)
theorem dX12_edge_31 : decode cX12_edge 31 = .ok (.iload_n 2, 1) := z_dd_28 (by decide +kernel)
theorem dX12_edge_32 : decode cX12_edge 32 = .ok (.imul, 1) := z_dd_104 (by decide +kernel)
theorem dX12_edge_33 : decode cX12_edge 33 = .ok (.iload_n 1, 1) := z_dd_27 (by decide +kernel)
theorem dX12_edge_34 : decode cX12_edge 34 = .ok (.iadd, 1) := z_dd_96 (by decide +kernel)
theorem dX12_edge_35 : decode cX12_edge 35 = .ok (.iload 4, 2) := z_dd_21 (by decide +kernel)
theorem dX12_edge_37 : decode cX12_edge 37 = .ok (.ineg, 1) := z_dd_116 (by decide +kernel)
theorem dX12_edge_38 : decode cX12_edge 38 = .ok (.iastore, 1) := z_dd_79 (by decide +kernel)
theorem dX12_edge_39 : decode cX12_edge 39 = .ok (.return_, 1) := z_dd_177 (by decide +kernel)
theorem dX12_finds_0 : decode cX12_finds 0 = .ok (.iconst 0, 1) := z_dd_3 (by decide +kernel)
theorem dX12_finds_1 : decode cX12_finds 1 = .ok (.istore_n 1, 1) := z_dd_60 (by decide +kernel)
theorem dX12_finds_2 : decode cX12_finds 2 = .ok (.iload_n 1, 1) := z_dd_27 (by decide +kernel)
theorem dX12_finds_3 : decode cX12_finds 3 = .ok (.bipush 16, 2) := z_dd_16 (by decide +kernel)
theorem dX12_finds_5 : decode cX12_finds 5 = .ok (.if_icmp .ge 18, 3) := z_dd_162 (by decide +kernel)
theorem dX12_finds_23 : decode cX12_finds 23 = .ok (.aload_n 0, 1) := z_dd_42 (by decide +kernel)
theorem dX12_finds_24 : decode cX12_finds 24 = .ok (.getfield 187, 3) := z_dd_180 (by decide +kernel)
theorem dX12_finds_27 : decode cX12_finds 27 = .ok (.iconst 0, 1) := z_dd_3 (by decide +kernel)
theorem dX12_finds_28 : decode cX12_finds 28 = .ok (.iconst 0, 1) := z_dd_3 (by decide +kernel)
theorem dX12_finds_29 : decode cX12_finds 29 = .ok (.iastore, 1) := z_dd_79 (by decide +kernel)
theorem dX12_finds_30 : decode cX12_finds 30 = .ok (.iconst 0, 1) := z_dd_3 (by decide +kernel)
theorem dX12_finds_31 : decode cX12_finds 31 = .ok (.istore_n 1, 1) := z_dd_60 (by decide +kernel)
theorem dX12_finds_32 : decode cX12_finds 32 = .ok (.iload_n 1, 1) := z_dd_27 (by decide +kernel)
theorem dX12_finds_33 : decode cX12_finds 33 = .ok (.bipush 16, 2) := z_dd_16 (by decide +kernel)
theorem dX12_finds_35 : decode cX12_finds 35 = .ok (.if_icmp .ge 124, 3) := z_dd_162 (by decide +kernel)
theorem dX12_finds_159 : decode cX12_finds 159 = .ok (.aload_n 0, 1) := z_dd_42 (by decide +kernel)
theorem dX12_finds_160 : decode cX12_finds 160 = .ok (.getfield 187, 3) := z_dd_180 (by decide +kernel)
theorem dX12_finds_163 : decode cX12_finds 163 = .ok (.bipush 15, 2) := z_dd_16 (by decide +kernel)
theorem dX12_finds_165 : decode cX12_finds 165 = .ok (.iaload, 1) := z_dd_46 (by decide +kernel)
theorem dX12_finds_166 : decode cX12_finds 166 = .ok (.ldc_w 496, 3) := z_dd_19 (by decide +kernel)
theorem dX12_finds_169 : decode cX12_finds 169 = .ok (.if_icmp .ge 7, 3) := z_dd_162 (by decide +kernel)
theorem dX12_finds_176 : decode cX12_finds 176 = .ok (.iconst 0, 1) := z_dd_3 (by decide +kernel)
theorem dX12_finds_177 : decode cX12_finds 177 = .ok (.ireturn, 1) := z_dd_172 (by decide +kernel)
theorem dX12_finds_172 : decode cX12_finds 172 = .ok (.iconst 1, 1) := z_dd_4 (by decide +kernel)
theorem dX12_finds_173 : decode cX12_finds 173 = .ok (.goto 4, 3) := z_dd_167 (by decide +kernel)
theorem dX12_finds_38 : decode cX12_finds 38 = .ok (.iconst 0, 1) := z_dd_3 (by decide +kernel)
theorem dX12_finds_39 : decode cX12_finds 39 = .ok (.istore_n 2, 1) := z_dd_61 (by decide +kernel)
theorem dX12_finds_40 : decode cX12_finds 40 = .ok (.iload_n 2, 1) := z_dd_28 (by decide +kernel)
theorem dX12_finds_41 : decode cX12_finds 41 = .ok (.bipush 16, 2) := z_dd_16 (by decide +kernel)
theorem dX12_finds_43 : decode cX12_finds 43 = .ok (.if_icmp .ge 110, 3) := z_dd_162 (by decide +kernel)
theorem dX12_finds_153 : decode cX12_finds 153 = .ok (.iinc 1 1, 3) := z_dd_132 (by decide +kernel)
theorem dX12_finds_156 : decode cX12_finds 156 = .ok (.goto (-124), 3) := z_dd_167 (by decide +kernel)
theorem dX12_finds_46 : decode cX12_finds 46 = .ok (.iconst 0, 1) := z_dd_3 (by decide +kernel)
theorem dX12_finds_47 : decode cX12_finds 47 = .ok (.istore_n 3, 1) := z_dd_62 (by decide +kernel)
theorem dX12_finds_48 : decode cX12_finds 48 = .ok (.iload_n 3, 1) := z_dd_29 (by decide +kernel)
theorem dX12_finds_49 : decode cX12_finds 49 = .ok (.bipush 16, 2) := z_dd_16 (by decide +kernel)
theorem dX12_finds_51 : decode cX12_finds 51 = .ok (.if_icmp .ge 96, 3) := z_dd_162 (by decide +kernel)
theorem dX12_finds_147 : decode cX12_finds 147 = .ok (.iinc 2 1, 3) := z_dd_132 (by decide +kernel)
theorem dX12_finds_150 : decode cX12_finds 150 = .ok (.goto (-110), 3) := z_dd_167 (by decide +kernel)
theorem dX12_finds_54 : decode cX12_finds 54 = .ok (.aload_n 0, 1) := z_dd_42 (by decide +kernel)
theorem dX12_finds_55 : decode cX12_finds 55 = .ok (.getfield 181, 3) := z_dd_180 (by decide +kernel)
theorem dX12_finds_58 : decode cX12_finds 58 = .ok (.bipush 16, 2) := z_dd_16 (by decide +kernel)
theorem dX12_finds_60 : decode cX12_finds 60 = .ok (.iload_n 2, 1) := z_dd_28 (by decide +kernel)
theorem dX12_finds_61 : decode cX12_finds 61 = .ok (.imul, 1) := z_dd_104 (by decide +kernel)
theorem dX12_finds_62 : decode cX12_finds 62 = .ok (.iload_n 3, 1) := z_dd_29 (by decide +kernel)
theorem dX12_finds_63 : decode cX12_finds 63 = .ok (.iadd, 1) := z_dd_96 (by decide +kernel)
theorem dX12_finds_64 : decode cX12_finds 64 = .ok (.iaload, 1) := z_dd_46 (by decide +kernel)
theorem dX12_finds_65 : decode cX12_finds 65 = .ok (.ifCond .eq 76, 3) := z_dd_153 (by decide +kernel)
theorem dX12_finds_141 : decode cX12_finds 141 = .ok (.iinc 3 1, 3) := z_dd_132 (by decide +kernel)
theorem dX12_finds_144 : decode cX12_finds 144 = .ok (.goto (-96), 3) := z_dd_167 (by decide +kernel)
theorem dX12_finds_68 : decode cX12_finds 68 = .ok (.aload_n 0, 1) := z_dd_42 (by decide +kernel)
theorem dX12_finds_69 : decode cX12_finds 69 = .ok (.getfield 187, 3) := z_dd_180 (by decide +kernel)
theorem dX12_finds_72 : decode cX12_finds 72 = .ok (.iload_n 2, 1) := z_dd_28 (by decide +kernel)
theorem dX12_finds_73 : decode cX12_finds 73 = .ok (.iaload, 1) := z_dd_46 (by decide +kernel)
theorem dX12_finds_74 : decode cX12_finds 74 = .ok (.ldc_w 496, 3) := z_dd_19 (by decide +kernel)
theorem dX12_finds_77 : decode cX12_finds 77 = .ok (.if_icmp .ge 64, 3) := z_dd_162 (by decide +kernel)
theorem dX12_finds_80 : decode cX12_finds 80 = .ok (.aload_n 0, 1) := z_dd_42 (by decide +kernel)
theorem dX12_finds_81 : decode cX12_finds 81 = .ok (.getfield 187, 3) := z_dd_180 (by decide +kernel)
theorem dX12_finds_84 : decode cX12_finds 84 = .ok (.iload_n 2, 1) := z_dd_28 (by decide +kernel)
theorem dX12_finds_85 : decode cX12_finds 85 = .ok (.iaload, 1) := z_dd_46 (by decide +kernel)
theorem dX12_finds_86 : decode cX12_finds 86 = .ok (.aload_n 0, 1) := z_dd_42 (by decide +kernel)
theorem dX12_finds_87 : decode cX12_finds 87 = .ok (.getfield 184, 3) := z_dd_180 (by decide +kernel)
theorem dX12_finds_90 : decode cX12_finds 90 = .ok (.bipush 16, 2) := z_dd_16 (by decide +kernel)
theorem dX12_finds_92 : decode cX12_finds 92 = .ok (.iload_n 2, 1) := z_dd_28 (by decide +kernel)
theorem dX12_finds_93 : decode cX12_finds 93 = .ok (.imul, 1) := z_dd_104 (by decide +kernel)
theorem dX12_finds_94 : decode cX12_finds 94 = .ok (.iload_n 3, 1) := z_dd_29 (by decide +kernel)
theorem dX12_finds_95 : decode cX12_finds 95 = .ok (.iadd, 1) := z_dd_96 (by decide +kernel)
theorem dX12_finds_96 : decode cX12_finds 96 = .ok (.iaload, 1) := z_dd_46 (by decide +kernel)
theorem dX12_finds_97 : decode cX12_finds 97 = .ok (.iadd, 1) := z_dd_96 (by decide +kernel)
theorem dX12_finds_98 : decode cX12_finds 98 = .ok (.aload_n 0, 1) := z_dd_42 (by decide +kernel)
theorem dX12_finds_99 : decode cX12_finds 99 = .ok (.getfield 187, 3) := z_dd_180 (by decide +kernel)
theorem dX12_finds_102 : decode cX12_finds 102 = .ok (.iload_n 3, 1) := z_dd_29 (by decide +kernel)
theorem dX12_finds_103 : decode cX12_finds 103 = .ok (.iaload, 1) := z_dd_46 (by decide +kernel)
theorem dX12_finds_104 : decode cX12_finds 104 = .ok (.if_icmp .lt 6, 3) := z_dd_161 (by decide +kernel)
theorem dX12_finds_110 : decode cX12_finds 110 = .ok (.aload_n 0, 1) := z_dd_42 (by decide +kernel)
theorem dX12_finds_111 : decode cX12_finds 111 = .ok (.getfield 187, 3) := z_dd_180 (by decide +kernel)
theorem dX12_finds_114 : decode cX12_finds 114 = .ok (.iload_n 3, 1) := z_dd_29 (by decide +kernel)
theorem dX12_finds_115 : decode cX12_finds 115 = .ok (.aload_n 0, 1) := z_dd_42 (by decide +kernel)
theorem dX12_finds_116 : decode cX12_finds 116 = .ok (.getfield 187, 3) := z_dd_180 (by decide +kernel)
theorem dX12_finds_119 : decode cX12_finds 119 = .ok (.iload_n 2, 1) := z_dd_28 (by decide +kernel)
theorem dX12_finds_120 : decode cX12_finds 120 = .ok (.iaload, 1) := z_dd_46 (by decide +kernel)
theorem dX12_finds_121 : decode cX12_finds 121 = .ok (.aload_n 0, 1) := z_dd_42 (by decide +kernel)
theorem dX12_finds_122 : decode cX12_finds 122 = .ok (.getfield 184, 3) := z_dd_180 (by decide +kernel)
theorem dX12_finds_125 : decode cX12_finds 125 = .ok (.bipush 16, 2) := z_dd_16 (by decide +kernel)
theorem dX12_finds_127 : decode cX12_finds 127 = .ok (.iload_n 2, 1) := z_dd_28 (by decide +kernel)
theorem dX12_finds_128 : decode cX12_finds 128 = .ok (.imul, 1) := z_dd_104 (by decide +kernel)
theorem dX12_finds_129 : decode cX12_finds 129 = .ok (.iload_n 3, 1) := z_dd_29 (by decide +kernel)
theorem dX12_finds_130 : decode cX12_finds 130 = .ok (.iadd, 1) := z_dd_96 (by decide +kernel)
theorem dX12_finds_131 : decode cX12_finds 131 = .ok (.iaload, 1) := z_dd_46 (by decide +kernel)
theorem dX12_finds_132 : decode cX12_finds 132 = .ok (.iadd, 1) := z_dd_96 (by decide +kernel)
theorem dX12_finds_133 : decode cX12_finds 133 = .ok (.iastore, 1) := z_dd_79 (by decide +kernel)
theorem dX12_finds_134 : decode cX12_finds 134 = .ok (.aload_n 0, 1) := z_dd_42 (by decide +kernel)
theorem dX12_finds_135 : decode cX12_finds 135 = .ok (.getfield 190, 3) := z_dd_180 (by decide +kernel)
theorem dX12_finds_138 : decode cX12_finds 138 = .ok (.iload_n 3, 1) := z_dd_29 (by decide +kernel)
theorem dX12_finds_139 : decode cX12_finds 139 = .ok (.iload_n 2, 1) := z_dd_28 (by decide +kernel)
theorem dX12_finds_140 : decode cX12_finds 140 = .ok (.iastore, 1) := z_dd_79 (by decide +kernel)
theorem dX12_finds_107 : decode cX12_finds 107 = .ok (.goto 34, 3) := z_dd_167 (by decide +kernel)
theorem dX12_finds_8 : decode cX12_finds 8 = .ok (.aload_n 0, 1) := z_dd_42 (by decide +kernel)
theorem dX12_finds_9 : decode cX12_finds 9 = .ok (.getfield 187, 3) := z_dd_180 (by decide +kernel)
theorem dX12_finds_12 : decode cX12_finds 12 = .ok (.iload_n 1, 1) := z_dd_27 (by decide +kernel)
theorem dX12_finds_13 : decode cX12_finds 13 = .ok (.ldc_w 496, 3) := z_dd_19 (by decide +kernel)
theorem dX12_finds_16 : decode cX12_finds 16 = .ok (.iastore, 1) := z_dd_79 (by decide +kernel)
theorem dX12_finds_17 : decode cX12_finds 17 = .ok (.iinc 1 1, 3) := z_dd_132 (by decide +kernel)
theorem dX12_finds_20 : decode cX12_finds 20 = .ok (.goto (-18), 3) := z_dd_167 (by decide +kernel)
theorem z_l15 : (15 : Int32).toInt = 15 := by decide
theorem z_tneg {z a : Int32} {n : Int} (e : z = -a) (ha : a.toInt = n) (h : -2147483648 < n) : z.toInt = -n := by
  have h1 := Int32.toInt_lt a
  rw [e, Int32.toInt_neg, ha]
  exact Int.bmod_eq_of_le (by show -(4294967296 / 2) ≤ -n; omega) (by show -n < (4294967296 + 1) / 2; omega)
theorem z_ixm {a b i : Int32} (hi : i.toInt = 16 * a.toInt + b.toInt) (ha : 0 ≤ a.toInt) (hb : 0 ≤ b.toInt) : i.toNatClampNeg = 16 * a.toNatClampNeg + b.toNatClampNeg := by
  have h1 := z_clt (x := a) rfl ha
  have h2 := z_clt (x := b) rfl hb
  have h3 := z_clt (x := i) rfl (by omega)
  omega
theorem z_ss {x y : Int32} (e : y.toInt = x.toInt + 1) (h : 0 ≤ x.toInt) : y.toNatClampNeg = x.toNatClampNeg + 1 := by
  have h1 := z_clt (x := x) rfl h
  have h2 := z_clt (x := y) rfl (by omega)
  omega
theorem z_n0 : (0 : Int32).toNatClampNeg = 0 := by decide
theorem z_n15 : (15 : Int32).toNatClampNeg = 15 := by decide
noncomputable def z_RM (I : z_I) (a b : Nat) : Int := (I 55 (16 * a + b)).toInt
noncomputable def z_CM (I : z_I) (a b : Nat) : Int := (I 56 (16 * a + b)).toInt
noncomputable def z_FM (I : z_I) (v : Nat) : Int := (I 57 v).toInt
noncomputable def z_BM (I : z_I) (v : Nat) : Nat := (I 58 v).toNatClampNeg
theorem z_RM_c {I K : z_I} (h : ∀ k, K 55 k = I 55 k) : z_RM K = z_RM I := by
  funext a b
  show (K 55 (16 * a + b)).toInt = _
  rw [h]
  rfl
theorem z_CM_c {I K : z_I} (h : ∀ k, K 56 k = I 56 k) : z_CM K = z_CM I := by
  funext a b
  show (K 56 (16 * a + b)).toInt = _
  rw [h]
  rfl
/-- the edges as they're laid -/
noncomputable def z_BL (I : z_I) : Prop := ∀ a b, a < 16 → b < 16 → z_CM I a b + z_CM I b a = 0 ∧ 0 ≤ z_RM I a b ∧ z_RM I a b ≤ 50 ∧ (¬ 0 < z_RM I a b ∨ (a < b ∧ 0 ≤ z_CM I a b))
noncomputable def z_FP (I : z_I) : Prop := ∃ pi : Nat → Int, z_rm (z_RM I) (z_CM I) pi
theorem z_BL_0 {I : z_I} (h : ∀ j : Nat, (j : Int) < 256 → I 55 j = 0 ∧ I 56 j = 0) : z_BL I := fun a b ha hb => by
  have e1 : z_RM I a b = 0 := by
    show (I 55 (16 * a + b)).toInt = 0
    rw [(h (16 * a + b) (by omega)).1]
    decide
  have e2 : z_CM I a b = 0 := by
    show (I 56 (16 * a + b)).toInt = 0
    rw [(h (16 * a + b) (by omega)).2]
    decide
  have e3 : z_CM I b a = 0 := by
    show (I 56 (16 * b + a)).toInt = 0
    rw [(h (16 * b + a) (by omega)).2]
    decide
  omega
theorem z_BL_FP {I : z_I} (h : z_BL I) : z_FP I := by
  refine ⟨fun _ => 0, fun a b ha hb hr => ?_, fun a b ha hb => ?_⟩
  · have := h a b ha hb
    show 0 ≤ z_CM I a b + 0 - 0
    omega
  · have h1 := h a b ha hb
    have h2 := h b a hb ha
    omega
theorem z_edg {I I1 I2 I3 : z_I} {a b i1 i2 i3 : Nat} {x y z : Int32} (h : z_BL I) (e1 : I1 = z_up I 55 i1 x) (e2 : I2 = z_up I1 56 i2 y) (e3 : I3 = z_up I2 56 i3 z) (h1 : i1 = 16 * a + b) (h2 : i2 = 16 * a + b) (h3 : i3 = 16 * b + a) (hab : a < b) (hb : b < 16) (hx : 0 ≤ x.toInt ∧ x.toInt ≤ 50) (hy : 0 ≤ y.toInt) (hz : z.toInt = -y.toInt) : z_BL I3 := by
  subst h1 h2 h3
  have r0 : ∀ c d, c < 16 → d < 16 → z_RM I3 c d = if c = a ∧ d = b then x.toInt else z_RM I c d := fun c d hc hd => by
    show (I3 55 (16 * c + d)).toInt = _
    rw [e3, z_up_n (by decide), e2, z_up_n (by decide), e1]
    by_cases q : c = a ∧ d = b
    · obtain ⟨rfl, rfl⟩ := q
      rw [z_up_s, if_pos ⟨rfl, rfl⟩]
    · rw [z_up_k (by omega), if_neg q]
      rfl
  have m0 : ∀ c d, c < 16 → d < 16 → z_CM I3 c d = if c = b ∧ d = a then z.toInt else if c = a ∧ d = b then y.toInt else z_CM I c d := fun c d hc hd => by
    show (I3 56 (16 * c + d)).toInt = _
    rw [e3]
    by_cases q : c = b ∧ d = a
    · obtain ⟨rfl, rfl⟩ := q
      rw [z_up_s, if_pos ⟨rfl, rfl⟩]
    · rw [z_up_k (by omega), if_neg q, e2]
      by_cases q2 : c = a ∧ d = b
      · obtain ⟨rfl, rfl⟩ := q2
        rw [z_up_s, if_pos ⟨rfl, rfl⟩]
      · rw [z_up_k (by omega), if_neg q2, e1, z_up_n (by decide)]
        rfl
  intro c d hc hd
  have q := h c d hc hd
  by_cases q1 : c = a ∧ d = b
  · obtain ⟨rfl, rfl⟩ := q1
    have v1 : z_RM I3 c d = x.toInt := (r0 c d hc hd).trans (if_pos ⟨rfl, rfl⟩)
    have v2 : z_CM I3 c d = y.toInt := (m0 c d hc hd).trans ((if_neg (by omega)).trans (if_pos ⟨rfl, rfl⟩))
    have v3 : z_CM I3 d c = z.toInt := (m0 d c hd hc).trans (if_pos ⟨rfl, rfl⟩)
    rw [v1, v2, v3]
    omega
  · by_cases q2 : c = b ∧ d = a
    · obtain ⟨rfl, rfl⟩ := q2
      have v1 : z_RM I3 c d = z_RM I c d := (r0 c d hc hd).trans (if_neg (by omega))
      have v2 : z_CM I3 c d = z.toInt := (m0 c d hc hd).trans (if_pos ⟨rfl, rfl⟩)
      have v3 : z_CM I3 d c = y.toInt := (m0 d c hd hc).trans ((if_neg (by omega)).trans (if_pos ⟨rfl, rfl⟩))
      rw [v1, v2, v3]
      omega
    · have v1 : z_RM I3 c d = z_RM I c d := (r0 c d hc hd).trans (if_neg q1)
      have v2 : z_CM I3 c d = z_CM I c d := (m0 c d hc hd).trans ((if_neg q2).trans (if_neg q1))
      have v3 : z_CM I3 d c = z_CM I d c := (m0 d c hd hc).trans ((if_neg (fun e => q1 ⟨e.2, e.1⟩)).trans (if_neg (fun e => q2 ⟨e.2, e.1⟩)))
      rw [v1, v2, v3]
      exact q
theorem z_rlm {I I1 I2 : z_I} {j : Nat} {x y : Int32} (e1 : I1 = z_up I 57 j x) (e2 : I2 = z_up I1 58 j y) : z_FM I2 j = x.toInt ∧ (∀ v, v ≠ j → z_FM I2 v = z_FM I v) ∧ z_BM I2 j = y.toNatClampNeg ∧ ∀ v, v ≠ j → z_BM I2 v = z_BM I v := by
  refine ⟨?_, fun v hv => ?_, ?_, fun v hv => ?_⟩
  · show (I2 57 j).toInt = _
    rw [e2, z_up_n (by decide), e1, z_up_s]
  · show (I2 57 v).toInt = _
    rw [e2, z_up_n (by decide), e1, z_up_k hv]
    rfl
  · show (I2 58 j).toNatClampNeg = _
    rw [e2, z_up_s]
  · show (I2 58 v).toNatClampNeg = _
    rw [e2, z_up_k hv, e1, z_up_n (by decide)]
    rfl
theorem z_augm {I I1 I2 : z_I} {u v i1 i2 : Nat} {x1 x2 y1 y2 : Int32} {n : Int} (e1 : I1 = z_up I 55 i1 y1) (e2 : I2 = z_up I1 55 i2 y2) (h1 : i1 = 16 * u + v) (h2 : i2 = 16 * v + u) (hx1 : x1.toInt = z_RM I u v) (hx2 : x2.toInt = z_RM I v u) (hy1 : y1.toInt = x1.toInt - n) (hy2 : y2.toInt = x2.toInt + n) (hu : u < 16) (hv : v < 16) (huv : u ≠ v) : z_RM I2 u v = z_RM I u v - n ∧ z_RM I2 v u = z_RM I v u + n ∧ ∀ a b, a < 16 → b < 16 → ¬ (a = u ∧ b = v) → ¬ (a = v ∧ b = u) → z_RM I2 a b = z_RM I a b := by
  subst h1 h2
  refine ⟨?_, ?_, fun a b ha hb q1 q2 => ?_⟩
  · show (I2 55 (16 * u + v)).toInt = _
    rw [e2, z_up_k (by omega), e1, z_up_s, hy1, hx1]
  · show (I2 55 (16 * v + u)).toInt = _
    rw [e2, z_up_s, hy2, hx2]
  · show (I2 55 (16 * a + b)).toInt = _
    rw [e2, z_up_k (by omega), e1, z_up_k (by omega)]
    rfl
theorem zj_X12_edge_X12 : ∀ w ∈ wsX120, w ∈ wsX12_edge := fun w h => (List.mem_cons_of_mem _ (List.mem_append_right _ h))
theorem zj_X12_finds_X12 : ∀ w ∈ wsX120, w ∈ wsX12_finds := fun w h => (List.mem_cons_of_mem _ (List.mem_append_right _ h))