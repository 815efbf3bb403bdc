theorem dX12_edge_0 : decode cX12_edge 0 = .ok (.aload_n 0, 1) := z_dd_42 (by decide +kernel)
theorem dX12_edge_1 : decode cX12_edge 1 = .ok (.getfield 181, 3) := z_dd_180 (by decide +kernel)
theorem dX12_edge_4 : decode cX12_edge 4 = .ok (.bipush 16, 2) := z_dd_16 (by decide +kernel)
theorem dX12_edge_6 : decode cX12_edge 6 = .ok (.iload_n 1, 1) := z_dd_27 (by decide +kernel)
theorem dX12_edge_7 : decode cX12_edge 7 = .ok (.imul, 1) := z_dd_104 (by decide +kernel)
theorem dX12_edge_8 : decode cX12_edge 8 = .ok (.iload_n 2, 1) := z_dd_28 (by decide +kernel)
theorem dX12_edge_9 : decode cX12_edge 9 = .ok (.iadd, 1) := z_dd_96 (by decide +kernel)
theorem dX12_edge_10 : decode cX12_edge 10 = .ok (.iload_n 3, 1) := z_dd_29 (by decide +kernel)
theorem dX12_edge_11 : decode cX12_edge 11 = .ok (.iastore, 1) := z_dd_79 (by decide +kernel)
theorem dX12_edge_12 : decode cX12_edge 12 = .ok (.aload_n 0, 1) := z_dd_42 (by decide +kernel)
theorem dX12_edge_13 : decode cX12_edge 13 = .ok (.getfield 184, 3) := z_dd_180 (by decide +kernel)
theorem dX12_edge_16 : decode cX12_edge 16 = .ok (.bipush 16, 2) := z_dd_16 (by decide +kernel)
theorem dX12_edge_18 : decode cX12_edge 18 = .ok (.iload_n 1, 1) := z_dd_27 (by decide +kernel)
theorem dX12_edge_19 : decode cX12_edge 19 = .ok (.imul, 1) := z_dd_104 (by decide +kernel)
theorem dX12_edge_20 : decode cX12_edge 20 = .ok (.iload_n 2, 1) := z_dd_28 (by decide +kernel)
theorem dX12_edge_21 : decode cX12_edge 21 = .ok (.iadd, 1) := z_dd_96 (by decide +kernel)
theorem dX12_edge_22 : decode cX12_edge 22 = .ok (.iload 4, 2) := z_dd_21 (by decide +kernel)
theorem dX12_edge_24 : decode cX12_edge 24 = .ok (.iastore, 1) := z_dd_79 (by decide +kernel)
theorem dX12_edge_25 : decode cX12_edge 25 = .ok (.aload_n 0, 1) := z_dd_42 (by decide +kernel)
theorem dX12_edge_26 : decode cX12_edge 26 = .ok (.getfield 184, 3) := z_dd_180 (by decide +kernel)
theorem dX12_edge_29 : decode cX12_edge 29 = .ok (.bipush 16, 2) := z_dd_16 (by decide +kernel)
theorem dX12_edge_31 : decode cX12_edge 31 = .ok (.iload_n 2, 1) := z_dd_28 (by decide +kernel)
theorem dX12_edge_32 : decode cX12_edge 32 = .ok (.imul, 1) := z_dd_104 (by decide +kernel)
theorem dX12_edge_33 : decode cX12_edge 33 = .ok (.iload_n 1, 1) := z_dd_27 (by decide +kernel)
theorem dX12_edge_34 : decode cX12_edge 34 = .ok (.iadd, 1) := z_dd_96 (by decide +kernel)
theorem dX12_edge_35 : decode cX12_edge 35 = .ok (.iload 4, 2) := z_dd_21 (by decide +kernel)
theorem dX12_edge_37 : decode cX12_edge 37 = .ok (.ineg, 1) := z_dd_116 (by decide +kernel)
theorem dX12_edge_38 : decode cX12_edge 38 = .ok (.iastore, 1) := z_dd_79 (by decide +kernel)
theorem dX12_edge_39 : decode cX12_edge 39 = .ok (.return_, 1) := z_dd_177 (by decide +kernel)
theorem dX12_finds_0 : decode cX12_finds 0 = .ok (.iconst 0, 1) := z_dd_3 (by decide +kernel)
theorem dX12_finds_1 : decode cX12_finds 1 = .ok (.istore_n 1, 1) := z_dd_60 (by decide +kernel)
theorem dX12_finds_2 : decode cX12_finds 2 = .ok (.iload_n 1, 1) := z_dd_27 (by decide +kernel)
theorem dX12_finds_3 : decode cX12_finds 3 = .ok (.bipush 16, 2) := z_dd_16 (by decide +kernel)
theorem dX12_finds_5 : decode cX12_finds 5 = .ok (.if_icmp .ge 18, 3) := z_dd_162 (by decide +kernel)
theorem dX12_finds_23 : decode cX12_finds 23 = .ok (.aload_n 0, 1) := z_dd_42 (by decide +kernel)
theorem dX12_finds_24 : decode cX12_finds 24 = .ok (.getfield 187, 3) := z_dd_180 (by decide +kernel)
theorem dX12_finds_27 : decode cX12_finds 27 = .ok (.iconst 0, 1) := z_dd_3 (by decide +kernel)
theorem dX12_finds_28 : decode cX12_finds 28 = .ok (.iconst 0, 1) := z_dd_3 (by decide +kernel)
theorem dX12_finds_29 : decode cX12_finds 29 = .ok (.iastore, 1) := z_dd_79 (by decide +kernel)
theorem dX12_finds_30 : decode cX12_finds 30 = .ok (.iconst 0, 1) := z_dd_3 (by decide +kernel)
theorem dX12_finds_31 : decode cX12_finds 31 = .ok (.istore_n 1, 1) := z_dd_60 (by decide +kernel)
theorem dX12_finds_32 : decode cX12_finds 32 = .ok (.iload_n 1, 1) := z_dd_27 (by decide +kernel)
theorem dX12_finds_33 : decode cX12_finds 33 = .ok (.bipush 16, 2) := z_dd_16 (by decide +kernel)
theorem dX12_finds_35 : decode cX12_finds 35 = .ok (.if_icmp .ge 124, 3) := z_dd_162 (by decide +kernel)
theorem dX12_finds_159 : decode cX12_finds 159 = .ok (.aload_n 0, 1) := z_dd_42 (by decide +kernel)
theorem dX12_finds_160 : decode cX12_finds 160 = .ok (.getfield 187, 3) := z_dd_180 (by decide +kernel)
theorem dX12_finds_163 : decode cX12_finds 163 = .ok (.bipush 15, 2) := z_dd_16 (by decide +kernel)
theorem dX12_finds_165 : decode cX12_finds 165 = .ok (.iaload, 1) := z_dd_46 (by decide +kernel)
theorem dX12_finds_166 : decode cX12_finds 166 = .ok (.ldc_w 496, 3) := z_dd_19 (by decide +kernel)
theorem dX12_finds_169 : decode cX12_finds 169 = .ok (.if_icmp .ge 7, 3) := z_dd_162 (by decide +kernel)
theorem dX12_finds_176 : decode cX12_finds 176 = .ok (.iconst 0, 1) := z_dd_3 (by decide +kernel)
theorem dX12_finds_177 : decode cX12_finds 177 = .ok (.ireturn, 1) := z_dd_172 (by decide +kernel)
theorem dX12_finds_172 : decode cX12_finds 172 = .ok (.iconst 1, 1) := z_dd_4 (by decide +kernel)
theorem dX12_finds_173 : decode cX12_finds 173 = .ok (.goto 4, 3) := z_dd_167 (by decide +kernel)
theorem dX12_finds_38 : decode cX12_finds 38 = .ok (.iconst 0, 1) := z_dd_3 (by decide +kernel)
theorem dX12_finds_39 : decode cX12_finds 39 = .ok (.istore_n 2, 1) := z_dd_61 (by decide +kernel)
theorem dX12_finds_40 : decode cX12_finds 40 = .ok (.iload_n 2, 1) := z_dd_28 (by decide +kernel)
theorem dX12_finds_41 : decode cX12_finds 41 = .ok (.bipush 16, 2) := z_dd_16 (by decide +kernel)
theorem dX12_finds_43 : decode cX12_finds 43 = .ok (.if_icmp .ge 110, 3) := z_dd_162 (by decide +kernel)
theorem dX12_finds_153 : decode cX12_finds 153 = .ok (.iinc 1 1, 3) := z_dd_132 (by decide +kernel)
theorem dX12_finds_156 : decode cX12_finds 156 = .ok (.goto (-124), 3) := z_dd_167 (by decide +kernel)
theorem dX12_finds_46 : decode cX12_finds 46 = .ok (.iconst 0, 1) := z_dd_3 (by decide +kernel)
theorem dX12_finds_47 : decode cX12_finds 47 = .ok (.istore_n 3, 1) := z_dd_62 (by decide +kernel)
theorem dX12_finds_48 : decode cX12_finds 48 = .ok (.iload_n 3, 1) := z_dd_29 (by decide +kernel)
theorem dX12_finds_49 : decode cX12_finds 49 = .ok (.bipush 16, 2) := z_dd_16 (by decide +kernel)
theorem dX12_finds_51 : decode cX12_finds 51 = .ok (.if_icmp .ge 96, 3) := z_dd_162 (by decide +kernel)
theorem dX12_finds_147 : decode cX12_finds 147 = .ok (.iinc 2 1, 3) := z_dd_132 (by decide +kernel)
theorem dX12_finds_150 : decode cX12_finds 150 = .ok (.goto (-110), 3) := z_dd_167 (by decide +kernel)
theorem dX12_finds_54 : decode cX12_finds 54 = .ok (.aload_n 0, 1) := z_dd_42 (by decide +kernel)
theorem dX12_finds_55 : decode cX12_finds 55 = .ok (.getfield 181, 3) := z_dd_180 (by decide +kernel)
theorem dX12_finds_58 : decode cX12_finds 58 = .ok (.bipush 16, 2) := z_dd_16 (by decide +kernel)
theorem dX12_finds_60 : decode cX12_finds 60 = .ok (.iload_n 2, 1) := z_dd_28 (by decide +kernel)
theorem dX12_finds_61 : decode cX12_finds 61 = .ok (.imul, 1) := z_dd_104 (by decide +kernel)
theorem dX12_finds_62 : decode cX12_finds 62 = .ok (.iload_n 3, 1) := z_dd_29 (by decide +kernel)
theorem dX12_finds_63 : decode cX12_finds 63 = .ok (.iadd, 1) := z_dd_96 (by decide +kernel)
theorem dX12_finds_64 : decode cX12_finds 64 = .ok (.iaload, 1) := z_dd_46 (by decide +kernel)
theorem dX12_finds_65 : decode cX12_finds 65 = .ok (.ifCond .eq 76, 3) := z_dd_153 (by decide +kernel)
theorem dX12_finds_141 : decode cX12_finds 141 = .ok (.iinc 3 1, 3) := z_dd_132 (by decide +kernel)
theorem dX12_finds_144 : decode cX12_finds 144 = .ok (.goto (-96), 3) := z_dd_167 (by decide +kernel)
theorem dX12_finds_68 : decode cX12_finds 68 = .ok (.aload_n 0, 1) := z_dd_42 (by decide +kernel)
theorem dX12_finds_69 : decode cX12_finds 69 = .ok (.getfield 187, 3) := z_dd_180 (by decide +kernel)
theorem dX12_finds_72 : decode cX12_finds 72 = .ok (.iload_n 2, 1) := z_dd_28 (by decide +kernel)
theorem dX12_finds_73 : decode cX12_finds 73 = .ok (.iaload, 1) := z_dd_46 (by decide +kernel)
theorem dX12_finds_74 : decode cX12_finds 74 = .ok (.ldc_w 496, 3) := z_dd_19 (by decide +kernel)
theorem dX12_finds_77 : decode cX12_finds 77 = .ok (.if_icmp .ge 64, 3) := z_dd_162 (by decide +kernel)
theorem dX12_finds_80 : decode cX12_finds 80 = .ok (.aload_n 0, 1) := z_dd_42 (by decide +kernel)
theorem dX12_finds_81 : decode cX12_finds 81 = .ok (.getfield 187, 3) := z_dd_180 (by decide +kernel)
theorem dX12_finds_84 : decode cX12_finds 84 = .ok (.iload_n 2, 1) := z_dd_28 (by decide +kernel)
theorem dX12_finds_85 : decode cX12_finds 85 = .ok (.iaload, 1) := z_dd_46 (by decide +kernel)
theorem dX12_finds_86 : decode cX12_finds 86 = .ok (.aload_n 0, 1) := z_dd_42 (by decide +kernel)
theorem dX12_finds_87 : decode cX12_finds 87 = .ok (.getfield 184, 3) := z_dd_180 (by decide +kernel)
theorem dX12_finds_90 : decode cX12_finds 90 = .ok (.bipush 16, 2) := z_dd_16 (by decide +kernel)
theorem dX12_finds_92 : decode cX12_finds 92 = .ok (.iload_n 2, 1) := z_dd_28 (by decide +kernel)
theorem dX12_finds_93 : decode cX12_finds 93 = .ok (.imul, 1) := z_dd_104 (by decide +kernel)
theorem dX12_finds_94 : decode cX12_finds 94 = .ok (.iload_n 3, 1) := z_dd_29 (by decide +kernel)
theorem dX12_finds_95 : decode cX12_finds 95 = .ok (.iadd, 1) := z_dd_96 (by decide +kernel)
theorem dX12_finds_96 : decode cX12_finds 96 = .ok (.iaload, 1) := z_dd_46 (by decide +kernel)
theorem dX12_finds_97 : decode cX12_finds 97 = .ok (.iadd, 1) := z_dd_96 (by decide +kernel)
theorem dX12_finds_98 : decode cX12_finds 98 = .ok (.aload_n 0, 1) := z_dd_42 (by decide +kernel)
theorem dX12_finds_99 : decode cX12_finds 99 = .ok (.getfield 187, 3) := z_dd_180 (by decide +kernel)
theorem dX12_finds_102 : decode cX12_finds 102 = .ok (.iload_n 3, 1) := z_dd_29 (by decide +kernel)
theorem dX12_finds_103 : decode cX12_finds 103 = .ok (.iaload, 1) := z_dd_46 (by decide +kernel)
theorem dX12_finds_104 : decode cX12_finds 104 = .ok (.if_icmp .lt 6, 3) := z_dd_161 (by decide +kernel)
theorem dX12_finds_110 : decode cX12_finds 110 = .ok (.aload_n 0, 1) := z_dd_42 (by decide +kernel)
theorem dX12_finds_111 : decode cX12_finds 111 = .ok (.getfield 187, 3) := z_dd_180 (by decide +kernel)
theorem dX12_finds_114 : decode cX12_finds 114 = .ok (.iload_n 3, 1) := z_dd_29 (by decide +kernel)
theorem dX12_finds_115 : decode cX12_finds 115 = .ok (.aload_n 0, 1) := z_dd_42 (by decide +kernel)
theorem dX12_finds_116 : decode cX12_finds 116 = .ok (.getfield 187, 3) := z_dd_180 (by decide +kernel)
theorem dX12_finds_119 : decode cX12_finds 119 = .ok (.iload_n 2, 1) := z_dd_28 (by decide +kernel)
theorem dX12_finds_120 : decode cX12_finds 120 = .ok (.iaload, 1) := z_dd_46 (by decide +kernel)
theorem dX12_finds_121 : decode cX12_finds 121 = .ok (.aload_n 0, 1) := z_dd_42 (by decide +kernel)
theorem dX12_finds_122 : decode cX12_finds 122 = .ok (.getfield 184, 3) := z_dd_180 (by decide +kernel)
theorem dX12_finds_125 : decode cX12_finds 125 = .ok (.bipush 16, 2) := z_dd_16 (by decide +kernel)
theorem dX12_finds_127 : decode cX12_finds 127 = .ok (.iload_n 2, 1) := z_dd_28 (by decide +kernel)
theorem dX12_finds_128 : decode cX12_finds 128 = .ok (.imul, 1) := z_dd_104 (by decide +kernel)
theorem dX12_finds_129 : decode cX12_finds 129 = .ok (.iload_n 3, 1) := z_dd_29 (by decide +kernel)
theorem dX12_finds_130 : decode cX12_finds 130 = .ok (.iadd, 1) := z_dd_96 (by decide +kernel)
theorem dX12_finds_131 : decode cX12_finds 131 = .ok (.iaload, 1) := z_dd_46 (by decide +kernel)
theorem dX12_finds_132 : decode cX12_finds 132 = .ok (.iadd, 1) := z_dd_96 (by decide +kernel)
theorem dX12_finds_133 : decode cX12_finds 133 = .ok (.iastore, 1) := z_dd_79 (by decide +kernel)
theorem dX12_finds_134 : decode cX12_finds 134 = .ok (.aload_n 0, 1) := z_dd_42 (by decide +kernel)
theorem dX12_finds_135 : decode cX12_finds 135 = .ok (.getfield 190, 3) := z_dd_180 (by decide +kernel)
theorem dX12_finds_138 : decode cX12_finds 138 = .ok (.iload_n 3, 1) := z_dd_29 (by decide +kernel)
theorem dX12_finds_139 : decode cX12_finds 139 = .ok (.iload_n 2, 1) := z_dd_28 (by decide +kernel)
theorem dX12_finds_140 : decode cX12_finds 140 = .ok (.iastore, 1) := z_dd_79 (by decide +kernel)
theorem dX12_finds_107 : decode cX12_finds 107 = .ok (.goto 34, 3) := z_dd_167 (by decide +kernel)
theorem dX12_finds_8 : decode cX12_finds 8 = .ok (.aload_n 0, 1) := z_dd_42 (by decide +kernel)
theorem dX12_finds_9 : decode cX12_finds 9 = .ok (.getfield 187, 3) := z_dd_180 (by decide +kernel)
theorem dX12_finds_12 : decode cX12_finds 12 = .ok (.iload_n 1, 1) := z_dd_27 (by decide +kernel)
theorem dX12_finds_13 : decode cX12_finds 13 = .ok (.ldc_w 496, 3) := z_dd_19 (by decide +kernel)
theorem dX12_finds_16 : decode cX12_finds 16 = .ok (.iastore, 1) := z_dd_79 (by decide +kernel)
theorem dX12_finds_17 : decode cX12_finds 17 = .ok (.iinc 1 1, 3) := z_dd_132 (by decide +kernel)
theorem dX12_finds_20 : decode cX12_finds 20 = .ok (.goto (-18), 3) := z_dd_167 (by decide +kernel)
theorem z_l15 : (15 : Int32).toInt = 15 := by decide
theorem z_tneg {z a : Int32} {n : Int} (e : z = -a) (ha : a.toInt = n) (h : -2147483648 < n) : z.toInt = -n := by
  have h1 := Int32.toInt_lt a
  rw [e, Int32.toInt_neg, ha]
  exact Int.bmod_eq_of_le (by show -(4294967296 / 2) ≤ -n; omega) (by show -n < (4294967296 + 1) / 2; omega)
theorem z_ixm {a b i : Int32} (hi : i.toInt = 16 * a.toInt + b.toInt) (ha : 0 ≤ a.toInt) (hb : 0 ≤ b.toInt) : i.toNatClampNeg = 16 * a.toNatClampNeg + b.toNatClampNeg := by
  have h1 := z_clt (x := a) rfl ha
  have h2 := z_clt (x := b) rfl hb
  have h3 := z_clt (x := i) rfl (by omega)
  omega
theorem z_ss {x y : Int32} (e : y.toInt = x.toInt + 1) (h : 0 ≤ x.toInt) : y.toNatClampNeg = x.toNatClampNeg + 1 := by
  have h1 := z_clt (x := x) rfl h
  have h2 := z_clt (x := y) rfl (by omega)
  omega
theorem z_n0 : (0 : Int32).toNatClampNeg = 0 := by decide
theorem z_n15 : (15 : Int32).toNatClampNeg = 15 := by decide
noncomputable def z_RM (I : z_I) (a b : Nat) : Int := (I 55 (16 * a + b)).toInt
noncomputable def z_CM (I : z_I) (a b : Nat) : Int := (I 56 (16 * a + b)).toInt
noncomputable def z_FM (I : z_I) (v : Nat) : Int := (I 57 v).toInt
noncomputable def z_BM (I : z_I) (v : Nat) : Nat := (I 58 v).toNatClampNeg
theorem z_RM_c {I K : z_I} (h : ∀ k, K 55 k = I 55 k) : z_RM K = z_RM I := by
  funext a b
  show (K 55 (16 * a + b)).toInt = _
  rw [h]
  rfl
theorem z_CM_c {I K : z_I} (h : ∀ k, K 56 k = I 56 k) : z_CM K = z_CM I := by
  funext a b
  show (K 56 (16 * a + b)).toInt = _
  rw [h]
  rfl
/-- the edges as they're laid -/
noncomputable def z_BL (I : z_I) : Prop := ∀ a b, a < 16 → b < 16 → z_CM I a b + z_CM I b a = 0 ∧ 0 ≤ z_RM I a b ∧ z_RM I a b ≤ 50 ∧ (¬ 0 < z_RM I a b ∨ (a < b ∧ 0 ≤ z_CM I a b))
noncomputable def z_FP (I : z_I) : Prop := ∃ pi : Nat → Int, z_rm (z_RM I) (z_CM I) pi
theorem z_BL_0 {I : z_I} (h : ∀ j : Nat, (j : Int) < 256 → I 55 j = 0 ∧ I 56 j = 0) : z_BL I := fun a b ha hb => by
  have e1 : z_RM I a b = 0 := by
    show (I 55 (16 * a + b)).toInt = 0
    rw [(h (16 * a + b) (by omega)).1]
    decide
  have e2 : z_CM I a b = 0 := by
    show (I 56 (16 * a + b)).toInt = 0
    rw [(h (16 * a + b) (by omega)).2]
    decide
  have e3 : z_CM I b a = 0 := by
    show (I 56 (16 * b + a)).toInt = 0
    rw [(h (16 * b + a) (by omega)).2]
    decide
  omega
theorem z_BL_FP {I : z_I} (h : z_BL I) : z_FP I := by
  refine ⟨fun _ => 0, fun a b ha hb hr => ?_, fun a b ha hb => ?_⟩
  · have := h a b ha hb
    show 0 ≤ z_CM I a b + 0 - 0
    omega
  · have h1 := h a b ha hb
    have h2 := h b a hb ha
    omega
theorem z_edg {I I1 I2 I3 : z_I} {a b i1 i2 i3 : Nat} {x y z : Int32} (h : z_BL I) (e1 : I1 = z_up I 55 i1 x) (e2 : I2 = z_up I1 56 i2 y) (e3 : I3 = z_up I2 56 i3 z) (h1 : i1 = 16 * a + b) (h2 : i2 = 16 * a + b) (h3 : i3 = 16 * b + a) (hab : a < b) (hb : b < 16) (hx : 0 ≤ x.toInt ∧ x.toInt ≤ 50) (hy : 0 ≤ y.toInt) (hz : z.toInt = -y.toInt) : z_BL I3 := by
  subst h1 h2 h3
  have r0 : ∀ c d, c < 16 → d < 16 → z_RM I3 c d = if c = a ∧ d = b then x.toInt else z_RM I c d := fun c d hc hd => by
    show (I3 55 (16 * c + d)).toInt = _
    rw [e3, z_up_n (by decide), e2, z_up_n (by decide), e1]
    by_cases q : c = a ∧ d = b
    · obtain ⟨rfl, rfl⟩ := q
      rw [z_up_s, if_pos ⟨rfl, rfl⟩]
    · rw [z_up_k (by omega), if_neg q]
      rfl
  have m0 : ∀ c d, c < 16 → d < 16 → z_CM I3 c d = if c = b ∧ d = a then z.toInt else if c = a ∧ d = b then y.toInt else z_CM I c d := fun c d hc hd => by
    show (I3 56 (16 * c + d)).toInt = _
    rw [e3]
    by_cases q : c = b ∧ d = a
    · obtain ⟨rfl, rfl⟩ := q
      rw [z_up_s, if_pos ⟨rfl, rfl⟩]
    · rw [z_up_k (by omega), if_neg q, e2]
      by_cases q2 : c = a ∧ d = b
      · obtain ⟨rfl, rfl⟩ := q2
        rw [z_up_s, if_pos ⟨rfl, rfl⟩]
      · rw [z_up_k (by omega), if_neg q2, e1, z_up_n (by decide)]
        rfl
  intro c d hc hd
  have q := h c d hc hd
  by_cases q1 : c = a ∧ d = b
  · obtain ⟨rfl, rfl⟩ := q1
    have v1 : z_RM I3 c d = x.toInt := (r0 c d hc hd).trans (if_pos ⟨rfl, rfl⟩)
    have v2 : z_CM I3 c d = y.toInt := (m0 c d hc hd).trans ((if_neg (by omega)).trans (if_pos ⟨rfl, rfl⟩))
    have v3 : z_CM I3 d c = z.toInt := (m0 d c hd hc).trans (if_pos ⟨rfl, rfl⟩)
    rw [v1, v2, v3]
    omega
  · by_cases q2 : c = b ∧ d = a
    · obtain ⟨rfl, rfl⟩ := q2
      have v1 : z_RM I3 c d = z_RM I c d := (r0 c d hc hd).trans (if_neg (by omega))
      have v2 : z_CM I3 c d = z.toInt := (m0 c d hc hd).trans (if_pos ⟨rfl, rfl⟩)
      have v3 : z_CM I3 d c = y.toInt := (m0 d c hd hc).trans ((if_neg (by omega)).trans (if_pos ⟨rfl, rfl⟩))
      rw [v1, v2, v3]
      omega
    · have v1 : z_RM I3 c d = z_RM I c d := (r0 c d hc hd).trans (if_neg q1)
      have v2 : z_CM I3 c d = z_CM I c d := (m0 c d hc hd).trans ((if_neg q2).trans (if_neg q1))
      have v3 : z_CM I3 d c = z_CM I d c := (m0 d c hd hc).trans ((if_neg (fun e => q1 ⟨e.2, e.1⟩)).trans (if_neg (fun e => q2 ⟨e.2, e.1⟩)))
      rw [v1, v2, v3]
      exact q
theorem z_rlm {I I1 I2 : z_I} {j : Nat} {x y : Int32} (e1 : I1 = z_up I 57 j x) (e2 : I2 = z_up I1 58 j y) : z_FM I2 j = x.toInt ∧ (∀ v, v ≠ j → z_FM I2 v = z_FM I v) ∧ z_BM I2 j = y.toNatClampNeg ∧ ∀ v, v ≠ j → z_BM I2 v = z_BM I v := by
  refine ⟨?_, fun v hv => ?_, ?_, fun v hv => ?_⟩
  · show (I2 57 j).toInt = _
    rw [e2, z_up_n (by decide), e1, z_up_s]
  · show (I2 57 v).toInt = _
    rw [e2, z_up_n (by decide), e1, z_up_k hv]
    rfl
  · show (I2 58 j).toNatClampNeg = _
    rw [e2, z_up_s]
  · show (I2 58 v).toNatClampNeg = _
    rw [e2, z_up_k hv, e1, z_up_n (by decide)]
    rfl
/-- what finds() says, where there's a way to the end -/
noncomputable def z_FD (I : z_I) : Prop := z_FM I 15 < 1000000 ∧ ∃ (pi : Nat → Int) (m : Nat → Nat), z_fd (z_RM I) (z_CM I) (z_FM I) (z_BM I) pi m ∧ z_rm (z_RM I) (z_CM I) pi
theorem z_augm {I I1 I2 : z_I} {u v i1 i2 : Nat} {x1 x2 y1 y2 : Int32} {n : Int} (e1 : I1 = z_up I 55 i1 y1) (e2 : I2 = z_up I1 55 i2 y2) (h1 : i1 = 16 * u + v) (h2 : i2 = 16 * v + u) (hx1 : x1.toInt = z_RM I u v) (hx2 : x2.toInt = z_RM I v u) (hy1 : y1.toInt = x1.toInt - n) (hy2 : y2.toInt = x2.toInt + n) (hu : u < 16) (hv : v < 16) (huv : u ≠ v) : z_RM I2 u v = z_RM I u v - n ∧ z_RM I2 v u = z_RM I v u + n ∧ ∀ a b, a < 16 → b < 16 → ¬ (a = u ∧ b = v) → ¬ (a = v ∧ b = u) → z_RM I2 a b = z_RM I a b := by
  subst h1 h2
  refine ⟨?_, ?_, fun a b ha hb q1 q2 => ?_⟩
  · show (I2 55 (16 * u + v)).toInt = _
    rw [e2, z_up_k (by omega), e1, z_up_s, hy1, hx1]
  · show (I2 55 (16 * v + u)).toInt = _
    rw [e2, z_up_s, hy2, hx2]
  · show (I2 55 (16 * a + b)).toInt = _
    rw [e2, z_up_k (by omega), e1, z_up_k (by omega)]
    rfl
theorem z_FDi {L : z_L} {I K : z_I} {pi d : Nat → Int} {rk : Nat → Nat} (hf : z_fr L K I) (hrm : z_rm (z_RM I) (z_CM I) pi) (hfp : z_FP I) (hcv : z_cvd (z_RM I) (z_CM I) d rk) (hT : ∃ h, z_tr (z_RM I) (z_CM I) pi (z_FM K) (z_BM K) h) (hs : z_swp (z_RM I) (z_CM I) (z_FM K) d rk 16 0 0) (hm : z_rg 56 (-999) 999 I) (hB : ∀ v, v < 16 → z_FM K v < 1000000 → z_FM K v ≤ 300000) (h15 : z_FM K 15 < 1000000) (hL1 : L.all (fun e => e.1 != 55 && e.1 != 1000) = true := by decide) (hL2 : L.all (fun e => e.1 != 56 && e.1 != 1000) = true := by decide) : z_FD K := by
  obtain ⟨h, hT⟩ := hT
  obtain ⟨pi2, m, hfd⟩ := z_fin hrm.1 hT hcv hs (fun a b ha hb => hm _) hB
  have e1 : z_RM K = z_RM I := z_RM_c fun k => hf _ _ (z_wr_c hL1)
  have e2 : z_CM K = z_CM I := z_CM_c fun k => hf _ _ (z_wr_c hL2)
  refine ⟨h15, pi2, m, ?_⟩
  rw [e1, e2]
  exact ⟨hfd, hfd.1, hrm.2⟩
noncomputable def L_X12_port2 : z_L := [(0, 75), (52, 999)]
set_option maxHeartbeats 8000000 in
set_option maxRecDepth 100000 in
theorem sx_X12_port2 (l : Launch) (G : z_G) (ad : Nat → Nat) (I : z_I) (J : z_J) (hmr : z_imr I) (hAld : z_rg 52 0 50 I) (a1 : Int32) : z_M l yX12_port wsX12_port { frames := 2, cells := 0, slots := 0, locals := 34 } [.ref (ad 0), .int a1] G (shM, ad, I, J, PM ad) (fun r u1 => ∃ (I1 : z_I) (J1 : z_J), u1 = (shM, ad, I1, J1, PM ad) ∧ z_imr I1 ∧ z_rg 52 0 50 I1 ∧ z_fr L_X12_port2 I1 I) 0 0 := by
  intro sz
  refine z_headQ (cc := cX12_port) (maxL := 2) (ret := (some .int)) (by decide) rfl (Nat.le_of_ble_eq_true rfl) ?_
  intro p e s m below meth c0 ls hIn hK hsz hW hl
  obtain ⟨hx, hb, hr, hml, hown, hts, hlocks, hname⟩ := hIn
  subst hsz
  have hown : s.vm.findClass RX12 = some m.cls := hown
  have hA : ∀ q : Nat, s.heap.size ≤ q → z_A (shM, ad, I, J, PM ad) s.heap.size q := fun q h => Or.inr h
  generalize hAe : z_A (shM, ad, I, J, PM ad) s.heap.size = A at *
  have hS : va_S A s.heap s.heap [] := va_S.rf
  have hl : lv_has ls 2 [(0, .ref (ad 0)), (1, .int a1)] := hl
  refine lv_iload_n hx hb dX12_port_0 rfl (lv_at hl 1 rfl) ?_
  refine lv_iconst (v := 0) hx hb dX12_port_1 (by decide) ?_
  refine lv_bipush (v := 50) hx hb dX12_port_2 (by decide) ?_
  refine z_ci hW hS hA (va_runS (As := [.int a1, .int 0, .int 50]) (rest := []) ⟨hx, hb, hml, hown, hts⟩ (sx_X12_within l G ad I J  a1 0 50 _) (va_cwS 3 hts gX12_port_X12_within rfl rfl rfl hy_X12_within.2 ⟨Nat.le_of_ble_eq_true rfl, Nat.le_of_ble_eq_true rfl⟩) (z_preS hK hW) rfl rfl hl.1 rfl (lv_room (Nat.le_of_ble_eq_true rfl)) dX12_port_4 ⟨Nat.le_of_ble_eq_true rfl, Nat.le_of_ble_eq_true rfl⟩) (fun r u1 H locs hp hW hS => ?_)
  obtain ⟨e9, hp⟩ := hp
  rw [e9] at hW
  rcases hp with ⟨rfl, h1, h2⟩ | rfl
  · have h1 := z_t_le z_l0 rfl h1
    have h2 := z_t_le rfl z_l50 h2
    refine lv_if_eq (tgt := 18) hx hb dX12_port_7 (by decide) (fun c3 => absurd c3 (by decide)) (fun c3 => ?_)
    refine lv_aload_n hx hb dX12_port_10 rfl (lv_at hl 0 rfl) ?_
    have r4 : 0 ≤ (I 0 75).toInt ∧ (I 0 75).toInt ≤ 4 := hmr
    refine z_get (T := TX12) (N := 96) (ci := 12) (i := 0) (v := .int (I 0 75)) hx hb hts zj_X12_port_X12 hown hK hW rfl rfl 75 (by decide) (hts (.fieldLink RX12 493 "PetrolBoardModel" "ports" "I") (me_s (me_l (List.mem_of_getElem? (i := 0) rfl)))) (fun _ h => h) rfl dX12_port_11 ?_
    refine lv_iconst (v := 4) hx hb dX12_port_14 (by decide) ?_
    refine lv_icmp_ne (tgt := 20) hx hb dX12_port_15 (by decide) (fun c5 => ?_) (fun c5 => ?_)
    · have g6 := z_f_ne rfl z_l4 c5
      refine lv_aload_n hx hb dX12_port_20 rfl (lv_at hl 0 rfl) ?_
      refine z_get (T := TX12) (N := 96) (ci := 12) (i := 0) (v := .ref (ad 52)) hx hb hts zj_X12_port_X12 hown hK hW rfl rfl 76 (by decide) (hts (.fieldLink RX12 172 "PetrolBoardModel" "loadsOf" "[I") (me_s (me_l (List.mem_of_getElem? (i := 1) rfl)))) (fun _ h => h) rfl dX12_port_21 ?_
      refine lv_aload_n hx hb dX12_port_24 rfl (lv_at hl 0 rfl) ?_
      refine z_get (T := TX12) (N := 96) (ci := 12) (i := 0) (v := .int (I 0 75)) hx hb hts zj_X12_port_X12 hown hK hW rfl rfl 75 (by decide) (hts (.fieldLink RX12 493 "PetrolBoardModel" "ports" "I") (me_s (me_l (List.mem_of_getElem? (i := 0) rfl)))) (fun _ h => h) rfl dX12_port_25 ?_
      refine lv_iload_n hx hb dX12_port_28 rfl (lv_at hl 1 rfl) ?_
      refine z_iast (i := 52) hx hb hK hW hS rfl (z_ix rfl (by omega) (by omega)) dX12_port_29 (fun H locs hz1 hW hS => ?_)
      obtain ⟨I7, eI7⟩ : ∃ K : z_I, K = z_up I 52 (I 0 75).toNatClampNeg a1 := ⟨_, rfl⟩
      rw [← eI7] at hW
      have f8 := z_fr_a z_fr_0 (show z_wa L_X12_port2 52 = true by decide) eI7
      have a9 := z_rg_a hAld (by omega) eI7
      refine lv_aload_n hx hb dX12_port_30 rfl (lv_at hl 0 rfl) ?_
      refine lv_dup hx hb dX12_port_31 rfl ?_
      refine z_get (T := TX12) (N := 96) (ci := 12) (i := 0) (v := .int (I 0 75)) hx hb hts zj_X12_port_X12 hown hK hW rfl rfl 75 (by decide) (hts (.fieldLink RX12 493 "PetrolBoardModel" "ports" "I") (me_s (me_l (List.mem_of_getElem? (i := 0) rfl)))) (fun _ h => h) (congrArg Value.int (by rw [eI7, z_up_n (by decide)])) dX12_port_32 ?_
      refine lv_iconst (v := 1) hx hb dX12_port_35 (by decide) ?_
      refine lv_iadd hx hb dX12_port_36 ?_
      refine lv_topi (fun x10 ex10 => ?_)
      have tx10 : x10.toInt = (I 0 75).toInt + 1 := z_tadd ex10 rfl z_l1 (by omega) (by omega)
      refine z_put (T := TX12) (N := 96) (ci := 12) (i := 0) (v := .int x10) (I1 := z_up I7 0 75 x10) (J1 := J) (P1 := PM ad) hx hb hts zj_X12_port_X12 tyX12 tyX12_ok nmX12 hown hK hW hS rfl rfl 75 (by decide) (hts (.fieldLink RX12 493 "PetrolBoardModel" "ports" "I") (me_s (me_l (List.mem_of_getElem? (i := 0) rfl)))) (fun _ h => h) rfl rfl rfl (by first | rfl | exact congrArg _ z_up_s) (fun a b h ty => z_vI h ty) dX12_port_37 (fun H locs hz1 hW hS => ?_)
      obtain ⟨I11, eI11⟩ : ∃ K : z_I, K = z_up I7 0 75 x10 := ⟨_, rfl⟩
      rw [← eI11] at hW
      have f12 := z_fr_k f8 (show z_wr L_X12_port2 0 75 = true by decide) eI11
      have a13 := z_rg_n a9 (by decide) eI11
      refine lv_aload_n hx hb dX12_port_40 rfl (lv_at hl 0 rfl) ?_
      refine z_get (T := TX12) (N := 96) (ci := 12) (i := 0) (v := .int x10) hx hb hts zj_X12_port_X12 hown hK hW rfl rfl 75 (by decide) (hts (.fieldLink RX12 493 "PetrolBoardModel" "ports" "I") (me_s (me_l (List.mem_of_getElem? (i := 0) rfl)))) (fun _ h => h) (congrArg Value.int (by rw [eI11, z_up_s])) dX12_port_41 ?_
      refine lv_iconst (v := 1) hx hb dX12_port_44 (by decide) ?_
      refine lv_isub hx hb dX12_port_45 ?_
      refine lv_topi (fun x14 ex14 => ?_)
      have tx14 : x14.toInt = x10.toInt - 1 := z_tsub ex14 rfl z_l1 (by omega) (by omega)
      exact z_iret hx hb hr hK hS (Nat.le_of_ble_eq_true rfl) (Nat.le_of_ble_eq_true rfl) hlocks dX12_port_46 (shM, ad, I11, J, PM ad) hW ⟨I11, J, rfl, (by show 0 ≤ (I11 0 75).toInt ∧ (I11 0 75).toInt ≤ 4; rw [eI11, z_up_s]; omega), a13, f12⟩
    · have g15 := z_f_eq rfl z_l4 c5
      refine lv_iconst (v := (-1)) hx hb dX12_port_18 (by decide) ?_
      exact z_iret hx hb hr hK hS (Nat.le_of_ble_eq_true rfl) (Nat.le_of_ble_eq_true rfl) hlocks dX12_port_19 (shM, ad, I, J, PM ad) hW ⟨I, J, rfl, (by show 0 ≤ (I 0 75).toInt ∧ (I 0 75).toInt ≤ 4; exact hmr), hAld, z_fr_0⟩
  · refine lv_if_eq (tgt := 18) hx hb dX12_port_7 (by decide) (fun c16 => ?_) (fun c16 => absurd (by decide) c16)
    refine lv_iconst (v := (-1)) hx hb dX12_port_18 (by decide) ?_
    exact z_iret hx hb hr hK hS (Nat.le_of_ble_eq_true rfl) (Nat.le_of_ble_eq_true rfl) hlocks dX12_port_19 (shM, ad, I, J, PM ad) hW ⟨I, J, rfl, (by show 0 ≤ (I 0 75).toInt ∧ (I 0 75).toInt ≤ 4; exact hmr), hAld, z_fr_0⟩
noncomputable def L_X12_want2 : z_L := [(53, 999)]
set_option maxHeartbeats 8000000 in
set_option maxRecDepth 100000 in
theorem sx_X12_want2 (l : Launch) (G : z_G) (ad : Nat → Nat) (I : z_I) (J : z_J) (hms : z_ims I) (hAwt : z_rg 53 0 20 I) (a1 : Int32) (a2 : Int32) : z_M l yX12_want wsX12_want { frames := 2, cells := 0, slots := 0, locals := 34 } [.ref (ad 0), .int a1, .int a2] G (shM, ad, I, J, PM ad) (fun r u1 => ∃ (I1 : z_I) (J1 : z_J), u1 = (shM, ad, I1, J1, PM ad) ∧ z_ims I1 ∧ z_rg 53 0 20 I1 ∧ z_fr L_X12_want2 I1 I ∧ (r = 1 ∨ r = 0)) 0 0 := by
  intro sz
  refine z_headQ (cc := cX12_want) (maxL := 3) (ret := (some .boolean)) (by decide) rfl (Nat.le_of_ble_eq_true rfl) ?_
  intro p e s m below meth c0 ls hIn hK hsz hW hl
  obtain ⟨hx, hb, hr, hml, hown, hts, hlocks, hname⟩ := hIn
  subst hsz
  have hown : s.vm.findClass RX12 = some m.cls := hown
  have hA : ∀ q : Nat, s.heap.size ≤ q → z_A (shM, ad, I, J, PM ad) s.heap.size q := fun q h => Or.inr h
  generalize hAe : z_A (shM, ad, I, J, PM ad) s.heap.size = A at *
  have hS : va_S A s.heap s.heap [] := va_S.rf
  have hl : lv_has ls 3 [(0, .ref (ad 0)), (1, .int a1), (2, .int a2)] := hl
  refine lv_aload_n hx hb dX12_want_0 rfl (lv_at hl 0 rfl) ?_
  refine lv_iload_n hx hb dX12_want_1 rfl (lv_at hl 1 rfl) ?_
  refine z_ci hW hS hA (va_runV (As := [.int a1]) (rest := []) ⟨hx, hb, hml, hown, hts⟩ (sx_X12_isStation l G ad I J ⟨(by show 0 ≤ (I 0 54).toInt ∧ (I 0 54).toInt ≤ 10; exact hms.1), (by show 0 ≤ (I 0 55).toInt ∧ (I 0 55).toInt ≤ 300; exact hms.2)⟩ a1 _) (cwV 1 hts gX12_want_X12_isStation rfl rfl rfl hy_X12_isStation ⟨Nat.le_of_ble_eq_true rfl, Nat.le_of_ble_eq_true rfl⟩) (z_preV (i := 0) hK hW rfl rfl) rfl rfl hl.1 rfl (lv_room (Nat.le_of_ble_eq_true rfl)) dX12_want_2 ⟨Nat.le_of_ble_eq_true rfl, Nat.le_of_ble_eq_true rfl⟩) (fun r u1 H locs hp hW hS => ?_)
  obtain ⟨e9, hp⟩ := hp
  rw [e9] at hW
  rcases hp with ⟨rfl, h1, h2⟩ | rfl
  · refine lv_if_eq (tgt := 18) hx hb dX12_want_5 (by decide) (fun c3 => absurd c3 (by decide)) (fun c3 => ?_)
    refine lv_iload_n hx hb dX12_want_8 rfl (lv_at hl 2 rfl) ?_
    refine lv_iconst (v := 0) hx hb dX12_want_9 (by decide) ?_
    refine lv_bipush (v := 20) hx hb dX12_want_10 (by decide) ?_
    refine z_ci hW hS hA (va_runS (As := [.int a2, .int 0, .int 20]) (rest := []) ⟨hx, hb, hml, hown, hts⟩ (sx_X12_within l G ad I J  a2 0 20 _) (va_cwS 3 hts gX12_want_X12_within rfl rfl rfl hy_X12_within.2 ⟨Nat.le_of_ble_eq_true rfl, Nat.le_of_ble_eq_true rfl⟩) (z_preS hK hW) rfl rfl hl.1 rfl (lv_room (Nat.le_of_ble_eq_true rfl)) dX12_want_12 ⟨Nat.le_of_ble_eq_true rfl, Nat.le_of_ble_eq_true rfl⟩) (fun r u1 H locs hp hW hS => ?_)
    obtain ⟨e9, hp⟩ := hp
    rw [e9] at hW
    rcases hp with ⟨rfl, h4, h5⟩ | rfl
    · have h4 := z_t_le z_l0 rfl h4
      have h5 := z_t_le rfl z_l20 h5
      refine lv_if_ne (tgt := 20) hx hb dX12_want_15 (by decide) (fun c6 => ?_) (fun c6 => absurd c6 (by decide))
      refine lv_aload_n hx hb dX12_want_20 rfl (lv_at hl 0 rfl) ?_
      refine z_get (T := TX12) (N := 96) (ci := 12) (i := 0) (v := .ref (ad 53)) hx hb hts zj_X12_want_X12 hown hK hW rfl rfl 77 (by decide) (hts (.fieldLink RX12 175 "PetrolBoardModel" "wantOf" "[I") (me_s (me_l (List.mem_of_getElem? (i := 0) rfl)))) (fun _ h => h) rfl dX12_want_21 ?_
      refine lv_iload_n hx hb dX12_want_24 rfl (lv_at hl 1 rfl) ?_
      refine lv_iload_n hx hb dX12_want_25 rfl (lv_at hl 2 rfl) ?_
      refine z_iast (i := 53) hx hb hK hW hS rfl (z_ix rfl (by omega) (by omega)) dX12_want_26 (fun H locs hz1 hW hS => ?_)
      obtain ⟨I7, eI7⟩ : ∃ K : z_I, K = z_up I 53 a1.toNatClampNeg a2 := ⟨_, rfl⟩
      rw [← eI7] at hW
      have f8 := z_fr_a z_fr_0 (show z_wa L_X12_want2 53 = true by decide) eI7
      have a9 := z_rg_a hAwt (by omega) eI7
      refine lv_iconst (v := 1) hx hb dX12_want_27 (by decide) ?_
      exact z_zret hx hb hr (by decide) hK hS (Nat.le_of_ble_eq_true rfl) (Nat.le_of_ble_eq_true rfl) hlocks dX12_want_28 (shM, ad, I7, J, PM ad) hW ⟨I7, J, rfl, ⟨(by show 0 ≤ (I7 0 54).toInt ∧ (I7 0 54).toInt ≤ 10; rw [eI7, z_up_n (by decide)]; exact hms.1), (by show 0 ≤ (I7 0 55).toInt ∧ (I7 0 55).toInt ≤ 300; rw [eI7, z_up_n (by decide)]; exact hms.2)⟩, a9, f8, Or.inl rfl⟩
    · refine lv_if_ne (tgt := 20) hx hb dX12_want_15 (by decide) (fun c10 => absurd (by decide) c10) (fun c10 => ?_)
      refine lv_iconst (v := 0) hx hb dX12_want_18 (by decide) ?_
      exact z_zret hx hb hr (by decide) hK hS (Nat.le_of_ble_eq_true rfl) (Nat.le_of_ble_eq_true rfl) hlocks dX12_want_19 (shM, ad, I, J, PM ad) hW ⟨I, J, rfl, ⟨(by show 0 ≤ (I 0 54).toInt ∧ (I 0 54).toInt ≤ 10; exact hms.1), (by show 0 ≤ (I 0 55).toInt ∧ (I 0 55).toInt ≤ 300; exact hms.2)⟩, hAwt, z_fr_0, Or.inr rfl⟩
  · refine lv_if_eq (tgt := 18) hx hb dX12_want_5 (by decide) (fun c11 => ?_) (fun c11 => absurd (by decide) c11)
    refine lv_iconst (v := 0) hx hb dX12_want_18 (by decide) ?_
    exact z_zret hx hb hr (by decide) hK hS (Nat.le_of_ble_eq_true rfl) (Nat.le_of_ble_eq_true rfl) hlocks dX12_want_19 (shM, ad, I, J, PM ad) hW ⟨I, J, rfl, ⟨(by show 0 ≤ (I 0 54).toInt ∧ (I 0 54).toInt ≤ 10; exact hms.1), (by show 0 ≤ (I 0 55).toInt ∧ (I 0 55).toInt ≤ 300; exact hms.2)⟩, hAwt, z_fr_0, Or.inr rfl⟩
noncomputable def L_X12_road2 : z_L := [(54, 999)]
set_option maxHeartbeats 8000000 in
set_option maxRecDepth 100000 in
theorem sx_X12_road2 (l : Launch) (G : z_G) (ad : Nat → Nat) (I : z_I) (J : z_J) (hms : z_ims I) (hmr : z_imr I) (hArd : z_rg 54 0 999 I) (a1 : Int32) (a2 : Int32) (a3 : Int32) : z_M l yX12_road wsX12_road { frames := 2, cells := 0, slots := 0, locals := 34 } [.ref (ad 0), .int a1, .int a2, .int a3] G (shM, ad, I, J, PM ad) (fun r u1 => ∃ (I1 : z_I) (J1 : z_J), u1 = (shM, ad, I1, J1, PM ad) ∧ z_ims I1 ∧ z_imr I1 ∧ z_rg 54 0 999 I1 ∧ z_fr L_X12_road2 I1 I ∧ (r = 1 ∨ r = 0)) 0 0 := by
  intro sz
  refine z_headQ (cc := cX12_road) (maxL := 4) (ret := (some .boolean)) (by decide) rfl (Nat.le_of_ble_eq_true rfl) ?_
  intro p e s m below meth c0 ls hIn hK hsz hW hl
  obtain ⟨hx, hb, hr, hml, hown, hts, hlocks, hname⟩ := hIn
  subst hsz
  have hown : s.vm.findClass RX12 = some m.cls := hown
  have hA : ∀ q : Nat, s.heap.size ≤ q → z_A (shM, ad, I, J, PM ad) s.heap.size q := fun q h => Or.inr h
  generalize hAe : z_A (shM, ad, I, J, PM ad) s.heap.size = A at *
  have hS : va_S A s.heap s.heap [] := va_S.rf
  have hl : lv_has ls 4 [(0, .ref (ad 0)), (1, .int a1), (2, .int a2), (3, .int a3)] := hl
  refine lv_iload_n hx hb dX12_road_0 rfl (lv_at hl 1 rfl) ?_
  refine lv_if_lt (tgt := 31) hx hb dX12_road_1 (by decide) (fun c1 => ?_) (fun c1 => ?_)
  · have g2 := z_f_lt rfl z_l0 c1
    have b3 := Int32.toInt_lt a1
    refine lv_iconst (v := 0) hx hb dX12_road_31 (by decide) ?_
    exact z_zret hx hb hr (by decide) hK hS (Nat.le_of_ble_eq_true rfl) (Nat.le_of_ble_eq_true rfl) hlocks dX12_road_32 (shM, ad, I, J, PM ad) hW ⟨I, J, rfl, ⟨(by show 0 ≤ (I 0 54).toInt ∧ (I 0 54).toInt ≤ 10; exact hms.1), (by show 0 ≤ (I 0 55).toInt ∧ (I 0 55).toInt ≤ 300; exact hms.2)⟩, (by show 0 ≤ (I 0 75).toInt ∧ (I 0 75).toInt ≤ 4; exact hmr), hArd, z_fr_0, Or.inr rfl⟩
  · have g4 := z_f_nlt rfl z_l0 c1
    have b5 := Int32.toInt_lt a1
    refine lv_iload_n hx hb dX12_road_4 rfl (lv_at hl 1 rfl) ?_
    refine lv_aload_n hx hb dX12_road_5 rfl (lv_at hl 0 rfl) ?_
    have r6 : 0 ≤ (I 0 75).toInt ∧ (I 0 75).toInt ≤ 4 := hmr
    refine z_get (T := TX12) (N := 96) (ci := 12) (i := 0) (v := .int (I 0 75)) hx hb hts zj_X12_road_X12 hown hK hW rfl rfl 75 (by decide) (hts (.fieldLink RX12 493 "PetrolBoardModel" "ports" "I") (me_s (me_l (List.mem_of_getElem? (i := 0) rfl)))) (fun _ h => h) rfl dX12_road_6 ?_
    refine lv_icmp_ge (tgt := 31) hx hb dX12_road_9 (by decide) (fun c7 => ?_) (fun c7 => ?_)
    · have g8 := z_f_ge rfl rfl c7
      refine lv_iconst (v := 0) hx hb dX12_road_31 (by decide) ?_
      exact z_zret hx hb hr (by decide) hK hS (Nat.le_of_ble_eq_true rfl) (Nat.le_of_ble_eq_true rfl) hlocks dX12_road_32 (shM, ad, I, J, PM ad) hW ⟨I, J, rfl, ⟨(by show 0 ≤ (I 0 54).toInt ∧ (I 0 54).toInt ≤ 10; exact hms.1), (by show 0 ≤ (I 0 55).toInt ∧ (I 0 55).toInt ≤ 300; exact hms.2)⟩, (by show 0 ≤ (I 0 75).toInt ∧ (I 0 75).toInt ≤ 4; exact hmr), hArd, z_fr_0, Or.inr rfl⟩
    · have g9 := z_f_nge rfl rfl c7
      refine lv_aload_n hx hb dX12_road_12 rfl (lv_at hl 0 rfl) ?_
      refine lv_iload_n hx hb dX12_road_13 rfl (lv_at hl 2 rfl) ?_
      refine z_ci hW hS hA (va_runV (As := [.int a2]) (rest := []) ⟨hx, hb, hml, hown, hts⟩ (sx_X12_isStation l G ad I J ⟨(by show 0 ≤ (I 0 54).toInt ∧ (I 0 54).toInt ≤ 10; exact hms.1), (by show 0 ≤ (I 0 55).toInt ∧ (I 0 55).toInt ≤ 300; exact hms.2)⟩ a2 _) (cwV 1 hts gX12_road_X12_isStation rfl rfl rfl hy_X12_isStation ⟨Nat.le_of_ble_eq_true rfl, Nat.le_of_ble_eq_true rfl⟩) (z_preV (i := 0) hK hW rfl rfl) rfl rfl hl.1 rfl (lv_room (Nat.le_of_ble_eq_true rfl)) dX12_road_14 ⟨Nat.le_of_ble_eq_true rfl, Nat.le_of_ble_eq_true rfl⟩) (fun r u1 H locs hp hW hS => ?_)
      obtain ⟨e9, hp⟩ := hp
      rw [e9] at hW
      rcases hp with ⟨rfl, h11, h12⟩ | rfl
      · refine lv_if_eq (tgt := 31) hx hb dX12_road_17 (by decide) (fun c13 => absurd c13 (by decide)) (fun c13 => ?_)
        refine lv_iload_n hx hb dX12_road_20 rfl (lv_at hl 3 rfl) ?_
        refine lv_iconst (v := 0) hx hb dX12_road_21 (by decide) ?_
        refine lv_sipush (v := 999) hx hb dX12_road_22 (by decide) ?_
        refine z_ci hW hS hA (va_runS (As := [.int a3, .int 0, .int 999]) (rest := []) ⟨hx, hb, hml, hown, hts⟩ (sx_X12_within l G ad I J  a3 0 999 _) (va_cwS 3 hts gX12_road_X12_within rfl rfl rfl hy_X12_within.2 ⟨Nat.le_of_ble_eq_true rfl, Nat.le_of_ble_eq_true rfl⟩) (z_preS hK hW) rfl rfl hl.1 rfl (lv_room (Nat.le_of_ble_eq_true rfl)) dX12_road_25 ⟨Nat.le_of_ble_eq_true rfl, Nat.le_of_ble_eq_true rfl⟩) (fun r u1 H locs hp hW hS => ?_)
        obtain ⟨e9, hp⟩ := hp
        rw [e9] at hW
        rcases hp with ⟨rfl, h14, h15⟩ | rfl
        · have h14 := z_t_le z_l0 rfl h14
          have h15 := z_t_le rfl z_l999 h15
          refine lv_if_ne (tgt := 33) hx hb dX12_road_28 (by decide) (fun c16 => ?_) (fun c16 => absurd c16 (by decide))
          refine lv_aload_n hx hb dX12_road_33 rfl (lv_at hl 0 rfl) ?_
          refine z_get (T := TX12) (N := 96) (ci := 12) (i := 0) (v := .ref (ad 54)) hx hb hts zj_X12_road_X12 hown hK hW rfl rfl 78 (by decide) (hts (.fieldLink RX12 178 "PetrolBoardModel" "roadOf" "[I") (me_s (me_l (List.mem_of_getElem? (i := 1) rfl)))) (fun _ h => h) rfl dX12_road_34 ?_
          refine lv_bipush (v := 10) hx hb dX12_road_37 (by decide) ?_
          refine lv_iload_n hx hb dX12_road_39 rfl (lv_at hl 1 rfl) ?_
          refine lv_imul hx hb dX12_road_40 ?_
          refine lv_topi (fun x17 ex17 => ?_)
          have tx17 : x17.toInt = 10 * a1.toInt := z_tmul ex17 z_l10 rfl (by omega) (by omega)
          refine lv_iload_n hx hb dX12_road_41 rfl (lv_at hl 2 rfl) ?_
          refine lv_iadd hx hb dX12_road_42 ?_
          refine lv_topi (fun x18 ex18 => ?_)
          have tx18 : x18.toInt = x17.toInt + a2.toInt := z_tadd ex18 rfl rfl (by omega) (by omega)
          refine lv_iload_n hx hb dX12_road_43 rfl (lv_at hl 3 rfl) ?_
          refine z_iast (i := 54) hx hb hK hW hS rfl (z_ix rfl (by omega) (by omega)) dX12_road_44 (fun H locs hz1 hW hS => ?_)
          obtain ⟨I19, eI19⟩ : ∃ K : z_I, K = z_up I 54 x18.toNatClampNeg a3 := ⟨_, rfl⟩
          rw [← eI19] at hW
          have f20 := z_fr_a z_fr_0 (show z_wa L_X12_road2 54 = true by decide) eI19
          have a21 := z_rg_a hArd (by omega) eI19
          refine lv_iconst (v := 1) hx hb dX12_road_45 (by decide) ?_
          exact z_zret hx hb hr (by decide) hK hS (Nat.le_of_ble_eq_true rfl) (Nat.le_of_ble_eq_true rfl) hlocks dX12_road_46 (shM, ad, I19, J, PM ad) hW ⟨I19, J, rfl, ⟨(by show 0 ≤ (I19 0 54).toInt ∧ (I19 0 54).toInt ≤ 10; rw [eI19, z_up_n (by decide)]; exact hms.1), (by show 0 ≤ (I19 0 55).toInt ∧ (I19 0 55).toInt ≤ 300; rw [eI19, z_up_n (by decide)]; exact hms.2)⟩, (by show 0 ≤ (I19 0 75).toInt ∧ (I19 0 75).toInt ≤ 4; rw [eI19, z_up_n (by decide)]; exact hmr), a21, f20, Or.inl rfl⟩
        · refine lv_if_ne (tgt := 33) hx hb dX12_road_28 (by decide) (fun c22 => absurd (by decide) c22) (fun c22 => ?_)
          refine lv_iconst (v := 0) hx hb dX12_road_31 (by decide) ?_
          exact z_zret hx hb hr (by decide) hK hS (Nat.le_of_ble_eq_true rfl) (Nat.le_of_ble_eq_true rfl) hlocks dX12_road_32 (shM, ad, I, J, PM ad) hW ⟨I, J, rfl, ⟨(by show 0 ≤ (I 0 54).toInt ∧ (I 0 54).toInt ≤ 10; exact hms.1), (by show 0 ≤ (I 0 55).toInt ∧ (I 0 55).toInt ≤ 300; exact hms.2)⟩, (by show 0 ≤ (I 0 75).toInt ∧ (I 0 75).toInt ≤ 4; exact hmr), hArd, z_fr_0, Or.inr rfl⟩
      · refine lv_if_eq (tgt := 31) hx hb dX12_road_17 (by decide) (fun c23 => ?_) (fun c23 => absurd (by decide) c23)
        refine lv_iconst (v := 0) hx hb dX12_road_31 (by decide) ?_
        exact z_zret hx hb hr (by decide) hK hS (Nat.le_of_ble_eq_true rfl) (Nat.le_of_ble_eq_true rfl) hlocks dX12_road_32 (shM, ad, I, J, PM ad) hW ⟨I, J, rfl, ⟨(by show 0 ≤ (I 0 54).toInt ∧ (I 0 54).toInt ≤ 10; exact hms.1), (by show 0 ≤ (I 0 55).toInt ∧ (I 0 55).toInt ≤ 300; exact hms.2)⟩, (by show 0 ≤ (I 0 75).toInt ∧ (I 0 75).toInt ≤ 4; exact hmr), hArd, z_fr_0, Or.inr rfl⟩
noncomputable def L_X12_edge : z_L := [(55, 999), (56, 999)]
theorem zj_X12_edge_X12 : ∀ w ∈ wsX120, w ∈ wsX12_edge := fun w h => (List.mem_cons_of_mem _ (List.mem_append_right _ h))
set_option maxHeartbeats 8000000 in
set_option maxRecDepth 100000 in
theorem sx_X12_edge (l : Launch) (G : z_G) (ad : Nat → Nat) (I : z_I) (J : z_J) (hArm : z_rg 55 0 100 I) (hAmi : z_rg 56 (-999) 999 I) (a1 : Int32) (a2 : Int32) (a3 : Int32) (a4 : Int32) (q1 : 0 ≤ a1.toInt ∧ a1.toInt + 1 ≤ a2.toInt) (q2 : a2.toInt ≤ 15) (q3 : 0 ≤ a3.toInt ∧ a3.toInt ≤ 50) (q4 : 0 ≤ a4.toInt ∧ a4.toInt ≤ 999) (hBL : z_BL I) : z_Mv l yX12_edge wsX12_edge { frames := 1, cells := 0, slots := 0, locals := 12 } [.ref (ad 0), .int a1, .int a2, .int a3, .int a4] G (shM, ad, I, J, PM ad) (fun u1 => ∃ (I1 : z_I) (J1 : z_J), u1 = (shM, ad, I1, J1, PM ad) ∧ z_rg 55 0 100 I1 ∧ z_rg 56 (-999) 999 I1 ∧ z_fr L_X12_edge I1 I ∧ z_BL I1) 0 0 := by
  intro sz
  refine z_headQ (cc := cX12_edge) (maxL := 5) (ret := none) (by decide) rfl (Nat.le_of_ble_eq_true rfl) ?_
  intro p e s m below meth c0 ls hIn hK hsz hW hl
  obtain ⟨hx, hb, hr, hml, hown, hts, hlocks, hname⟩ := hIn
  subst hsz
  have hown : s.vm.findClass RX12 = some m.cls := hown
  have hA : ∀ q : Nat, s.heap.size ≤ q → z_A (shM, ad, I, J, PM ad) s.heap.size q := fun q h => Or.inr h
  generalize hAe : z_A (shM, ad, I, J, PM ad) s.heap.size = A at *
  have hS : va_S A s.heap s.heap [] := va_S.rf
  have hl : lv_has ls 5 [(0, .ref (ad 0)), (1, .int a1), (2, .int a2), (3, .int a3), (4, .int a4)] := hl
  refine lv_aload_n hx hb dX12_edge_0 rfl (lv_at hl 0 rfl) ?_
  refine z_get (T := TX12) (N := 96) (ci := 12) (i := 0) (v := .ref (ad 55)) hx hb hts zj_X12_edge_X12 hown hK hW rfl rfl 79 (by decide) (hts (.fieldLink RX12 181 "PetrolBoardModel" "room" "[I") (me_s (me_l (List.mem_of_getElem? (i := 0) rfl)))) (fun _ h => h) rfl dX12_edge_1 ?_
  refine lv_bipush (v := 16) hx hb dX12_edge_4 (by decide) ?_
  refine lv_iload_n hx hb dX12_edge_6 rfl (lv_at hl 1 rfl) ?_
  refine lv_imul hx hb dX12_edge_7 ?_
  refine lv_topi (fun x1 ex1 => ?_)
  have tx1 : x1.toInt = 16 * a1.toInt := z_tmul ex1 z_l16 rfl (by omega) (by omega)
  refine lv_iload_n hx hb dX12_edge_8 rfl (lv_at hl 2 rfl) ?_
  refine lv_iadd hx hb dX12_edge_9 ?_
  refine lv_topi (fun x2 ex2 => ?_)
  have tx2 : x2.toInt = x1.toInt + a2.toInt := z_tadd ex2 rfl rfl (by omega) (by omega)
  refine lv_iload_n hx hb dX12_edge_10 rfl (lv_at hl 3 rfl) ?_
  refine z_iast (i := 55) hx hb hK hW hS rfl (z_ix rfl (by omega) (by omega)) dX12_edge_11 (fun H locs hz1 hW hS => ?_)
  obtain ⟨I3, eI3⟩ : ∃ K : z_I, K = z_up I 55 x2.toNatClampNeg a3 := ⟨_, rfl⟩
  rw [← eI3] at hW
  have f4 := z_fr_a z_fr_0 (show z_wa L_X12_edge 55 = true by decide) eI3
  have a5 := z_rg_a hArm (by omega) eI3
  have a6 := z_rg_n hAmi (by decide) eI3
  refine lv_aload_n hx hb dX12_edge_12 rfl (lv_at hl 0 rfl) ?_
  refine z_get (T := TX12) (N := 96) (ci := 12) (i := 0) (v := .ref (ad 56)) hx hb hts zj_X12_edge_X12 hown hK hW rfl rfl 80 (by decide) (hts (.fieldLink RX12 184 "PetrolBoardModel" "miles" "[I") (me_s (me_l (List.mem_of_getElem? (i := 1) rfl)))) (fun _ h => h) rfl dX12_edge_13 ?_
  refine lv_bipush (v := 16) hx hb dX12_edge_16 (by decide) ?_
  refine lv_iload_n hx hb dX12_edge_18 rfl (lv_at hl 1 rfl) ?_
  refine lv_imul hx hb dX12_edge_19 ?_
  refine lv_topi (fun x7 ex7 => ?_)
  have tx7 : x7.toInt = 16 * a1.toInt := z_tmul ex7 z_l16 rfl (by omega) (by omega)
  refine lv_iload_n hx hb dX12_edge_20 rfl (lv_at hl 2 rfl) ?_
  refine lv_iadd hx hb dX12_edge_21 ?_
  refine lv_topi (fun x8 ex8 => ?_)
  have tx8 : x8.toInt = x7.toInt + a2.toInt := z_tadd ex8 rfl rfl (by omega) (by omega)
  refine lv_iload hx hb dX12_edge_22 (lv_at hl 4 rfl) ?_
  refine z_iast (i := 56) hx hb hK hW hS rfl (z_ix rfl (by omega) (by omega)) dX12_edge_24 (fun H locs hz1 hW hS => ?_)
  obtain ⟨I9, eI9⟩ : ∃ K : z_I, K = z_up I3 56 x8.toNatClampNeg a4 := ⟨_, rfl⟩
  rw [← eI9] at hW
  have f10 := z_fr_a f4 (show z_wa L_X12_edge 56 = true by decide) eI9
  have a11 := z_rg_n a5 (by decide) eI9
  have a12 := z_rg_a a6 (by omega) eI9
  refine lv_aload_n hx hb dX12_edge_25 rfl (lv_at hl 0 rfl) ?_
  refine z_get (T := TX12) (N := 96) (ci := 12) (i := 0) (v := .ref (ad 56)) hx hb hts zj_X12_edge_X12 hown hK hW rfl rfl 80 (by decide) (hts (.fieldLink RX12 184 "PetrolBoardModel" "miles" "[I") (me_s (me_l (List.mem_of_getElem? (i := 1) rfl)))) (fun _ h => h) rfl dX12_edge_26 ?_
  refine lv_bipush (v := 16) hx hb dX12_edge_29 (by decide) ?_
  refine lv_iload_n hx hb dX12_edge_31 rfl (lv_at hl 2 rfl) ?_
  refine lv_imul hx hb dX12_edge_32 ?_
  refine lv_topi (fun x13 ex13 => ?_)
  have tx13 : x13.toInt = 16 * a2.toInt := z_tmul ex13 z_l16 rfl (by omega) (by omega)
  refine lv_iload_n hx hb dX12_edge_33 rfl (lv_at hl 1 rfl) ?_
  refine lv_iadd hx hb dX12_edge_34 ?_
  refine lv_topi (fun x14 ex14 => ?_)
  have tx14 : x14.toInt = x13.toInt + a1.toInt := z_tadd ex14 rfl rfl (by omega) (by omega)
  refine lv_iload hx hb dX12_edge_35 (lv_at hl 4 rfl) ?_
  refine lv_ineg hx hb dX12_edge_37 ?_
  refine lv_topi (fun x15 ex15 => ?_)
  have tx15 : x15.toInt = -a4.toInt := z_tneg ex15 rfl (by omega)
  refine z_iast (i := 56) hx hb hK hW hS rfl (z_ix rfl (by omega) (by omega)) dX12_edge_38 (fun H locs hz1 hW hS => ?_)
  obtain ⟨I16, eI16⟩ : ∃ K : z_I, K = z_up I9 56 x14.toNatClampNeg x15 := ⟨_, rfl⟩
  rw [← eI16] at hW
  have f17 := z_fr_a f10 (show z_wa L_X12_edge 56 = true by decide) eI16
  have a18 := z_rg_n a11 (by decide) eI16
  have a19 := z_rg_a a12 (by omega) eI16
  exact z_vret hx hb hr hK hS (Nat.le_of_ble_eq_true rfl) (Nat.le_of_ble_eq_true rfl) hlocks dX12_edge_39 (shM, ad, I16, J, PM ad) hW ⟨I16, J, rfl, a18, a19, f17, (z_edg (a := a1.toNatClampNeg) (b := a2.toNatClampNeg) hBL eI3 eI9 eI16 (z_ixm (a := a1) (b := a2) (by omega) (by omega) (by omega)) (z_ixm (a := a1) (b := a2) (by omega) (by omega) (by omega)) (z_ixm (a := a2) (b := a1) (by omega) (by omega) (by omega)) (by have g1 := z_clt (x := a1) rfl (by omega); have g2 := z_clt (x := a2) rfl (by omega); omega) (by have g2 := z_clt (x := a2) rfl (by omega); omega) (by omega) (by omega) (by omega))⟩
noncomputable def L_X12_finds : z_L := [(57, 999), (58, 999)]
theorem zj_X12_finds_X12 : ∀ w ∈ wsX120, w ∈ wsX12_finds := fun w h => (List.mem_cons_of_mem _ (List.mem_append_right _ h))
set_option maxHeartbeats 8000000 in
set_option maxRecDepth 100000 in
theorem sx_X12_finds (l : Launch) (G : z_G) (ad : Nat → Nat) (I : z_I) (J : z_J) (hArm : z_rg 55 0 100 I) (hAmi : z_rg 56 (-999) 999 I) (hAbk : z_rg 58 0 15 I) (hAfr : z_rg 57 (-300000) 1000000 I) (hFP : z_FP I) : z_M l yX12_finds wsX12_finds { frames := 1, cells := 0, slots := 0, locals := 12 } [.ref (ad 0)] G (shM, ad, I, J, PM ad) (fun r u1 => ∃ (I1 : z_I) (J1 : z_J), u1 = (shM, ad, I1, J1, PM ad) ∧ z_rg 55 0 100 I1 ∧ z_rg 56 (-999) 999 I1 ∧ z_rg 58 0 15 I1 ∧ z_rg 57 (-300000) 1000000 I1 ∧ z_fr L_X12_finds I1 I ∧ ((r = 1 ∧ z_FD I1) ∨ r = 0)) 0 0 := by
  intro sz
  refine z_headQ (cc := cX12_finds) (maxL := 4) (ret := (some .boolean)) (by decide) rfl (Nat.le_of_ble_eq_true rfl) ?_
  intro p e s m below meth c0 ls hIn hK hsz hW hl
  obtain ⟨hx, hb, hr, hml, hown, hts, hlocks, hname⟩ := hIn
  subst hsz
  have hown : s.vm.findClass RX12 = some m.cls := hown
  have hA : ∀ q : Nat, s.heap.size ≤ q → z_A (shM, ad, I, J, PM ad) s.heap.size q := fun q h => Or.inr h
  generalize hAe : z_A (shM, ad, I, J, PM ad) s.heap.size = A at *
  have hS : va_S A s.heap s.heap [] := va_S.rf
  have hl : lv_has ls 4 [(0, .ref (ad 0))] := hl
  obtain ⟨pi, hrm⟩ := id hFP
  obtain ⟨d, rk, hcv⟩ := z_ex hrm.1
  refine lv_iconst (v := 0) hx hb dX12_finds_0 (by decide) ?_
  refine lv_istore_n (lv' := [(1, .int 0), (0, .ref (ad 0))]) hx hb dX12_finds_1 rfl hl (by decide) rfl (fun ls hl => ?_)
  have lp1 : ∀ (f : Nat) (y2 : Int32) (I3 : z_I) (J4 : z_J) (H : Heap) (locs : List Loc) (ls : Array Slot), (2147483647 < y2.toInt + (f : Int)) → (0 ≤ y2.toInt) → (y2.toInt ≤ 16) → (z_rg 55 0 100 I3) → (z_rg 56 (-999) 999 I3) → (z_rg 58 0 15 I3) → (z_rg 57 (-300000) 1000000 I3) → (∀ j : Nat, (j : Int) < y2.toInt → I3 57 j = 1000000) → (z_fr L_X12_finds I3 I) → z_W G A (shM, ad, I3, J4, PM ad) H → va_S A s.heap H locs → lv_has ls 4 [(1, .int y2), (0, .ref (ad 0))] → W p l e (headSpec wsX12_finds { frames := 1, cells := 0, slots := 0, locals := 12 }).room s m ([.ref (ad 0)] : List Value).toArray below meth c0 H locs 0 0 (MQ below (va_Qi (fun (r : Int32) (u1 : z_U) => ∃ (I1 : z_I) (J1 : z_J), u1 = (shM, ad, I1, J1, PM ad) ∧ z_rg 55 0 100 I1 ∧ z_rg 56 (-999) 999 I1 ∧ z_rg 58 0 15 I1 ∧ z_rg 57 (-300000) 1000000 I1 ∧ z_fr L_X12_finds I1 I ∧ ((r = 1 ∧ z_FD I1) ∨ r = 0)) (z_B G A) A) ([.ref (ad 0)] : List Value).toArray s 0 0 A) (F0 m 2 ls []) := by
    intro f
    induction f with
    | zero => intro y2 I3 J4 H locs ls lp1m lp1l1 lp1u1 lp1Arm lp1Ami lp1Abk lp1Afr lp1I0 lp1fr hW hS hl; exact absurd lp1m (by have := Int32.toInt_lt y2; have := Int32.le_toInt y2; omega)
    | succ f lp1ih =>
      intro y2 I3 J4 H locs ls lp1m lp1l1 lp1u1 lp1Arm lp1Ami lp1Abk lp1Afr lp1I0 lp1fr hW hS hl
      refine lv_iload_n hx hb dX12_finds_2 rfl (lv_at hl 0 rfl) ?_
      refine lv_bipush (v := 16) hx hb dX12_finds_3 (by decide) ?_
      refine lv_icmp_ge (tgt := 23) hx hb dX12_finds_5 (by decide) (fun c5 => ?_) (fun c5 => ?_)
      · have g6 := z_f_ge rfl z_l16 c5
        refine lv_aload_n hx hb dX12_finds_23 rfl (lv_at hl 1 rfl) ?_
        refine z_get (T := TX12) (N := 96) (ci := 12) (i := 0) (v := .ref (ad 57)) hx hb hts zj_X12_finds_X12 hown hK hW rfl rfl 81 (by decide) (hts (.fieldLink RX12 187 "PetrolBoardModel" "far" "[I") (me_s (me_l (List.mem_of_getElem? (i := 0) rfl)))) (fun _ h => h) rfl dX12_finds_24 ?_
        refine lv_iconst (v := 0) hx hb dX12_finds_27 (by decide) ?_
        refine lv_iconst (v := 0) hx hb dX12_finds_28 (by decide) ?_
        refine z_iast (i := 57) hx hb hK hW hS rfl (z_inl (by decide)) dX12_finds_29 (fun H locs hz1 hW hS => ?_)
        obtain ⟨I7, eI7⟩ : ∃ K : z_I, K = z_up I3 57 (0 : Int32).toNatClampNeg 0 := ⟨_, rfl⟩
        rw [← eI7] at hW
        have f8 := z_fr_a lp1fr (show z_wa L_X12_finds 57 = true by decide) eI7
        have a9 := z_rg_n lp1Arm (by decide) eI7
        have a10 := z_rg_n lp1Ami (by decide) eI7
        have a11 := z_rg_n lp1Abk (by decide) eI7
        have a12 := z_rg_a lp1Afr (by decide) eI7
        have hFa : z_FM I7 0 = 0 := by show (I7 57 0).toInt = 0; rw [eI7, z_n0, z_up_s]; decide
        have hFb : ∀ v, v < 16 → v ≠ 0 → z_FM I7 v = 1000000 := fun v hv h0 => by show (I7 57 v).toInt = 1000000; rw [eI7, z_n0, z_up_k h0, lp1I0 v (by omega)]; decide
        have hF0 := hFa
        have hFv : ∀ v, v < 16 → z_FM I7 v < 1000000 → z_FM I7 v = 0 := fun v hv hf => by by_cases q9 : v = 0; (· (rw [q9]; exact hFa)); (· (have := hFb v hv q9; omega))
        have hT0 : ∃ h, z_tr (z_RM I) (z_CM I) pi (z_FM I7) (z_BM I7) h := ⟨fun _ => 0, hFa, fun v hv => (by by_cases q9 : v = 0; (· (rw [q9, hFa]; decide)); (· (rw [hFb v hv q9]; decide))), fun v hv hf => (by by_cases q9 : v = 0; (· (rw [q9, hFa]; omega)); (· (have := hFb v hv q9; omega))), fun v hv h0 hf => (by have := hFb v hv h0; omega)⟩
        refine lv_iconst (v := 0) hx hb dX12_finds_30 (by decide) ?_
        refine lv_istore_n (lv' := [(1, .int 0), (0, .ref (ad 0))]) hx hb dX12_finds_31 rfl hl (by decide) rfl (fun ls hl => ?_)
        have lp13 : ∀ (f : Nat) (y14 : Int32) (I15 : z_I) (J16 : z_J) (H : Heap) (locs : List Loc) (ls : Array Slot), (2147483647 < y14.toInt + (f : Int)) → (0 ≤ y14.toInt) → (y14.toInt ≤ 16) → (z_rg 55 0 100 I15) → (z_rg 56 (-999) 999 I15) → (z_rg 58 0 15 I15) → (z_rg 57 (-300000) 1000000 I15) → (∃ h, z_tr (z_RM I) (z_CM I) pi (z_FM I15) (z_BM I15) h) → (z_swp (z_RM I) (z_CM I) (z_FM I15) d rk y14.toNatClampNeg 0 0) → (∀ v, v < 16 → z_FM I15 v < 1000000 → -999 * (16 * y14.toInt) ≤ z_FM I15 v ∧ z_FM I15 v ≤ 999 * (16 * y14.toInt)) → (z_fr L_X12_finds I15 I) → z_W G A (shM, ad, I15, J16, PM ad) H → va_S A s.heap H locs → lv_has ls 4 [(1, .int y14), (0, .ref (ad 0))] → W p l e (headSpec wsX12_finds { frames := 1, cells := 0, slots := 0, locals := 12 }).room s m ([.ref (ad 0)] : List Value).toArray below meth c0 H locs 0 0 (MQ below (va_Qi (fun (r : Int32) (u1 : z_U) => ∃ (I1 : z_I) (J1 : z_J), u1 = (shM, ad, I1, J1, PM ad) ∧ z_rg 55 0 100 I1 ∧ z_rg 56 (-999) 999 I1 ∧ z_rg 58 0 15 I1 ∧ z_rg 57 (-300000) 1000000 I1 ∧ z_fr L_X12_finds I1 I ∧ ((r = 1 ∧ z_FD I1) ∨ r = 0)) (z_B G A) A) ([.ref (ad 0)] : List Value).toArray s 0 0 A) (F0 m 32 ls []) := by
          intro f
          induction f with
          | zero => intro y14 I15 J16 H locs ls lp13m lp13l1 lp13u1 lp13Arm lp13Ami lp13Abk lp13Afr lp13T lp13S lp13B lp13fr hW hS hl; exact absurd lp13m (by have := Int32.toInt_lt y14; have := Int32.le_toInt y14; omega)
          | succ f lp13ih =>
            intro y14 I15 J16 H locs ls lp13m lp13l1 lp13u1 lp13Arm lp13Ami lp13Abk lp13Afr lp13T lp13S lp13B lp13fr hW hS hl
            refine lv_iload_n hx hb dX12_finds_32 rfl (lv_at hl 0 rfl) ?_
            refine lv_bipush (v := 16) hx hb dX12_finds_33 (by decide) ?_
            refine lv_icmp_ge (tgt := 159) hx hb dX12_finds_35 (by decide) (fun c17 => ?_) (fun c17 => ?_)
            · have g18 := z_f_ge rfl z_l16 c17
              refine lv_aload_n hx hb dX12_finds_159 rfl (lv_at hl 1 rfl) ?_
              refine z_get (T := TX12) (N := 96) (ci := 12) (i := 0) (v := .ref (ad 57)) hx hb hts zj_X12_finds_X12 hown hK hW rfl rfl 81 (by decide) (hts (.fieldLink RX12 187 "PetrolBoardModel" "far" "[I") (me_s (me_l (List.mem_of_getElem? (i := 0) rfl)))) (fun _ h => h) rfl dX12_finds_160 ?_
              refine lv_bipush (v := 15) hx hb dX12_finds_163 (by decide) ?_
              refine z_iald (i := 57) hx hb hK hW rfl (z_inl (by decide)) dX12_finds_165 ?_
              refine lv_topi (fun x19 ex19 => ?_)
              have h20 : (-300000) ≤ x19.toInt ∧ x19.toInt ≤ 1000000 := by rw [ex19]; exact lp13Afr _
              refine lv_ldcw (v := 1000000) hx hb hown (hts (.constant RX12 496 (1000000)) (me_s (me_l (List.mem_of_getElem? (i := 1) rfl)))) dX12_finds_166 ?_
              refine lv_icmp_ge (tgt := 176) hx hb dX12_finds_169 (by decide) (fun c21 => ?_) (fun c21 => ?_)
              · have g22 := z_f_ge rfl z_l1000000 c21
                refine lv_iconst (v := 0) hx hb dX12_finds_176 (by decide) ?_
                exact z_zret hx hb hr (by decide) hK hS (Nat.le_of_ble_eq_true rfl) (Nat.le_of_ble_eq_true rfl) hlocks dX12_finds_177 (shM, ad, I15, J16, PM ad) hW ⟨I15, J16, rfl, lp13Arm, lp13Ami, lp13Abk, lp13Afr, lp13fr, Or.inr rfl⟩
              · have g23 := z_f_nge rfl z_l1000000 c21
                refine lv_iconst (v := 1) hx hb dX12_finds_172 (by decide) ?_
                refine lv_goto (tgt := 177) hx hb dX12_finds_173 (by decide) ?_
                exact z_zret hx hb hr (by decide) hK hS (Nat.le_of_ble_eq_true rfl) (Nat.le_of_ble_eq_true rfl) hlocks dX12_finds_177 (shM, ad, I15, J16, PM ad) hW ⟨I15, J16, rfl, lp13Arm, lp13Ami, lp13Abk, lp13Afr, lp13fr, Or.inl ⟨rfl, z_FDi lp13fr hrm hFP hcv lp13T (by have q := lp13S; rw [show y14.toNatClampNeg = 16 from by have := z_clt (x := y14) rfl (by omega); omega] at q; exact q) hAmi (fun v hv hf => by have := lp13B v hv hf; omega) (by show (I15 57 15).toInt < 1000000; rw [show I15 57 15 = x19 from (by rw [ex19, z_n15])]; omega)⟩⟩
            · have g24 := z_f_nge rfl z_l16 c17
              refine lv_iconst (v := 0) hx hb dX12_finds_38 (by decide) ?_
              refine lv_istore_n (lv' := [(2, .int 0), (1, .int y14), (0, .ref (ad 0))]) hx hb dX12_finds_39 rfl hl (by decide) rfl (fun ls hl => ?_)
              have lp25 : ∀ (f : Nat) (y26 : Int32) (I27 : z_I) (J28 : z_J) (H : Heap) (locs : List Loc) (ls : Array Slot), (2147483647 < y26.toInt + (f : Int)) → (0 ≤ y26.toInt) → (y26.toInt ≤ 16) → (z_rg 55 0 100 I27) → (z_rg 56 (-999) 999 I27) → (z_rg 58 0 15 I27) → (z_rg 57 (-300000) 1000000 I27) → (∃ h, z_tr (z_RM I) (z_CM I) pi (z_FM I27) (z_BM I27) h) → (z_swp (z_RM I) (z_CM I) (z_FM I27) d rk y14.toNatClampNeg y26.toNatClampNeg 0) → (∀ v, v < 16 → z_FM I27 v < 1000000 → -999 * (16 * y14.toInt + y26.toInt) ≤ z_FM I27 v ∧ z_FM I27 v ≤ 999 * (16 * y14.toInt + y26.toInt)) → (z_fr L_X12_finds I27 I) → z_W G A (shM, ad, I27, J28, PM ad) H → va_S A s.heap H locs → lv_has ls 4 [(2, .int y26), (1, .int y14), (0, .ref (ad 0))] → W p l e (headSpec wsX12_finds { frames := 1, cells := 0, slots := 0, locals := 12 }).room s m ([.ref (ad 0)] : List Value).toArray below meth c0 H locs 0 0 (MQ below (va_Qi (fun (r : Int32) (u1 : z_U) => ∃ (I1 : z_I) (J1 : z_J), u1 = (shM, ad, I1, J1, PM ad) ∧ z_rg 55 0 100 I1 ∧ z_rg 56 (-999) 999 I1 ∧ z_rg 58 0 15 I1 ∧ z_rg 57 (-300000) 1000000 I1 ∧ z_fr L_X12_finds I1 I ∧ ((r = 1 ∧ z_FD I1) ∨ r = 0)) (z_B G A) A) ([.ref (ad 0)] : List Value).toArray s 0 0 A) (F0 m 40 ls []) := by
                intro f
                induction f with
                | zero => intro y26 I27 J28 H locs ls lp25m lp25l2 lp25u2 lp25Arm lp25Ami lp25Abk lp25Afr lp25T lp25S lp25B lp25fr hW hS hl; exact absurd lp25m (by have := Int32.toInt_lt y26; have := Int32.le_toInt y26; omega)
                | succ f lp25ih =>
                  intro y26 I27 J28 H locs ls lp25m lp25l2 lp25u2 lp25Arm lp25Ami lp25Abk lp25Afr lp25T lp25S lp25B lp25fr hW hS hl
                  refine lv_iload_n hx hb dX12_finds_40 rfl (lv_at hl 0 rfl) ?_
                  refine lv_bipush (v := 16) hx hb dX12_finds_41 (by decide) ?_
                  refine lv_icmp_ge (tgt := 153) hx hb dX12_finds_43 (by decide) (fun c29 => ?_) (fun c29 => ?_)
                  · have g30 := z_f_ge rfl z_l16 c29
                    obtain ⟨x31, ex31⟩ : ∃ y : Int32, y = y14 + 1 := ⟨_, rfl⟩
                    have tx31 : x31.toInt = y14.toInt + 1 := z_tadd ex31 rfl z_l1 (by omega) (by omega)
                    refine lv_iinc (v := x31) (lv' := [(1, .int x31), (2, .int y26), (0, .ref (ad 0))]) hx hb dX12_finds_153 hl (k := 1) rfl (by rw [ex31]; rfl) (by decide) rfl (fun ls hl => ?_)
                    refine lv_goto (tgt := 32) hx hb dX12_finds_156 (by decide) ?_
                    exact lp13ih x31 I27 J28 _ _ _ (by omega) (by omega) (by omega) lp25Arm lp25Ami lp25Abk lp25Afr lp25T (by rw [z_ss (x := y14) (y := x31) (by omega) (by omega)]; refine z_swp_k hcv (by obtain ⟨_, q⟩ := lp25T; exact q.1) ?_; have q := lp25S; rw [show y26.toNatClampNeg = 16 from by have := z_clt (x := y26) rfl (by omega); omega] at q; exact q) (fun v hv hf => by have := lp25B v hv hf; omega) lp25fr hW hS (lv_sub hl [0, 2] rfl)
                  · have g32 := z_f_nge rfl z_l16 c29
                    refine lv_iconst (v := 0) hx hb dX12_finds_46 (by decide) ?_
                    refine lv_istore_n (lv' := [(3, .int 0), (2, .int y26), (1, .int y14), (0, .ref (ad 0))]) hx hb dX12_finds_47 rfl hl (by decide) rfl (fun ls hl => ?_)
                    have lp33 : ∀ (f : Nat) (y34 : Int32) (I35 : z_I) (J36 : z_J) (H : Heap) (locs : List Loc) (ls : Array Slot), (2147483647 < y34.toInt + (f : Int)) → (0 ≤ y34.toInt) → (y34.toInt ≤ 16) → (z_rg 55 0 100 I35) → (z_rg 56 (-999) 999 I35) → (z_rg 58 0 15 I35) → (z_rg 57 (-300000) 1000000 I35) → (∃ h, z_tr (z_RM I) (z_CM I) pi (z_FM I35) (z_BM I35) h) → (z_swp (z_RM I) (z_CM I) (z_FM I35) d rk y14.toNatClampNeg y26.toNatClampNeg y34.toNatClampNeg) → (∀ v, v < 16 → z_FM I35 v < 1000000 → -999 * (16 * y14.toInt + y26.toInt + 1) ≤ z_FM I35 v ∧ z_FM I35 v ≤ 999 * (16 * y14.toInt + y26.toInt + 1)) → (z_FM I35 y26.toNatClampNeg < 1000000 → -999 * (16 * y14.toInt + y26.toInt) ≤ z_FM I35 y26.toNatClampNeg ∧ z_FM I35 y26.toNatClampNeg ≤ 999 * (16 * y14.toInt + y26.toInt)) → (z_fr L_X12_finds I35 I) → z_W G A (shM, ad, I35, J36, PM ad) H → va_S A s.heap H locs → lv_has ls 4 [(3, .int y34), (2, .int y26), (1, .int y14), (0, .ref (ad 0))] → W p l e (headSpec wsX12_finds { frames := 1, cells := 0, slots := 0, locals := 12 }).room s m ([.ref (ad 0)] : List Value).toArray below meth c0 H locs 0 0 (MQ below (va_Qi (fun (r : Int32) (u1 : z_U) => ∃ (I1 : z_I) (J1 : z_J), u1 = (shM, ad, I1, J1, PM ad) ∧ z_rg 55 0 100 I1 ∧ z_rg 56 (-999) 999 I1 ∧ z_rg 58 0 15 I1 ∧ z_rg 57 (-300000) 1000000 I1 ∧ z_fr L_X12_finds I1 I ∧ ((r = 1 ∧ z_FD I1) ∨ r = 0)) (z_B G A) A) ([.ref (ad 0)] : List Value).toArray s 0 0 A) (F0 m 48 ls []) := by
                      intro f
                      induction f with
                      | zero => intro y34 I35 J36 H locs ls lp33m lp33l3 lp33u3 lp33Arm lp33Ami lp33Abk lp33Afr lp33T lp33S lp33B lp33E lp33fr hW hS hl; exact absurd lp33m (by have := Int32.toInt_lt y34; have := Int32.le_toInt y34; omega)
                      | succ f lp33ih =>
                        intro y34 I35 J36 H locs ls lp33m lp33l3 lp33u3 lp33Arm lp33Ami lp33Abk lp33Afr lp33T lp33S lp33B lp33E lp33fr hW hS hl
                        refine lv_iload_n hx hb dX12_finds_48 rfl (lv_at hl 0 rfl) ?_
                        refine lv_bipush (v := 16) hx hb dX12_finds_49 (by decide) ?_
                        refine lv_icmp_ge (tgt := 147) hx hb dX12_finds_51 (by decide) (fun c37 => ?_) (fun c37 => ?_)
                        · have g38 := z_f_ge rfl z_l16 c37
                          obtain ⟨x39, ex39⟩ : ∃ y : Int32, y = y26 + 1 := ⟨_, rfl⟩
                          have tx39 : x39.toInt = y26.toInt + 1 := z_tadd ex39 rfl z_l1 (by omega) (by omega)
                          refine lv_iinc (v := x39) (lv' := [(2, .int x39), (3, .int y34), (1, .int y14), (0, .ref (ad 0))]) hx hb dX12_finds_147 hl (k := 1) rfl (by rw [ex39]; rfl) (by decide) rfl (fun ls hl => ?_)
                          refine lv_goto (tgt := 40) hx hb dX12_finds_150 (by decide) ?_
                          exact lp25ih x39 I35 J36 _ _ _ (by omega) (by omega) (by omega) lp33Arm lp33Ami lp33Abk lp33Afr lp33T (by rw [z_ss (x := y26) (y := x39) (by omega) (by omega)]; refine z_swp_a ?_; have q := lp33S; rw [show y34.toNatClampNeg = 16 from by have := z_clt (x := y34) rfl (by omega); omega] at q; exact q) (fun v hv hf => by have := lp33B v hv hf; omega) lp33fr hW hS (lv_sub hl [0, 2, 3] rfl)
                        · have g40 := z_f_nge rfl z_l16 c37
                          refine lv_aload_n hx hb dX12_finds_54 rfl (lv_at hl 3 rfl) ?_
                          refine z_get (T := TX12) (N := 96) (ci := 12) (i := 0) (v := .ref (ad 55)) hx hb hts zj_X12_finds_X12 hown hK hW rfl rfl 79 (by decide) (hts (.fieldLink RX12 181 "PetrolBoardModel" "room" "[I") (me_s (me_l (List.mem_of_getElem? (i := 2) rfl)))) (fun _ h => h) rfl dX12_finds_55 ?_
                          refine lv_bipush (v := 16) hx hb dX12_finds_58 (by decide) ?_
                          refine lv_iload_n hx hb dX12_finds_60 rfl (lv_at hl 1 rfl) ?_
                          refine lv_imul hx hb dX12_finds_61 ?_
                          refine lv_topi (fun x41 ex41 => ?_)
                          have tx41 : x41.toInt = 16 * y26.toInt := z_tmul ex41 z_l16 rfl (by omega) (by omega)
                          refine lv_iload_n hx hb dX12_finds_62 rfl (lv_at hl 0 rfl) ?_
                          refine lv_iadd hx hb dX12_finds_63 ?_
                          refine lv_topi (fun x42 ex42 => ?_)
                          have tx42 : x42.toInt = x41.toInt + y34.toInt := z_tadd ex42 rfl rfl (by omega) (by omega)
                          refine z_iald (i := 55) hx hb hK hW rfl (z_ix rfl (by omega) (by omega)) dX12_finds_64 ?_
                          refine lv_topi (fun x43 ex43 => ?_)
                          have h44 : 0 ≤ x43.toInt ∧ x43.toInt ≤ 100 := by rw [ex43]; exact lp33Arm _
                          have hrx43 : x43.toInt = z_RM I y26.toNatClampNeg y34.toNatClampNeg := by rw [ex43, lp33fr 55 _ (z_wr_c (by decide)), z_ixm (a := y26) (b := y34) (by omega) (by omega) (by omega)]; rfl
                          refine lv_if_eq (tgt := 141) hx hb dX12_finds_65 (by decide) (fun c45 => ?_) (fun c45 => ?_)
                          · have g46 := z_f_eq rfl z_l0 c45
                            obtain ⟨x47, ex47⟩ : ∃ y : Int32, y = y34 + 1 := ⟨_, rfl⟩
                            have tx47 : x47.toInt = y34.toInt + 1 := z_tadd ex47 rfl z_l1 (by omega) (by omega)
                            refine lv_iinc (v := x47) (lv' := [(3, .int x47), (2, .int y26), (1, .int y14), (0, .ref (ad 0))]) hx hb dX12_finds_141 hl (k := 0) rfl (by rw [ex47]; rfl) (by decide) rfl (fun ls hl => ?_)
                            refine lv_goto (tgt := 48) hx hb dX12_finds_144 (by decide) ?_
                            exact lp33ih x47 I35 J36 _ _ _ (by omega) (by omega) (by omega) lp33Arm lp33Ami lp33Abk lp33Afr lp33T (by rw [z_ss (x := y34) (y := x47) (by omega) (by omega)]; exact z_swp_b lp33S (fun v hv => Int.le_refl _) (fun hf h9 => by omega)) lp33B lp33E lp33fr hW hS (lv_sub hl [0, 1, 2, 3] rfl)
                          · have g48 := z_f_ne rfl z_l0 c45
                            refine lv_aload_n hx hb dX12_finds_68 rfl (lv_at hl 3 rfl) ?_
                            refine z_get (T := TX12) (N := 96) (ci := 12) (i := 0) (v := .ref (ad 57)) hx hb hts zj_X12_finds_X12 hown hK hW rfl rfl 81 (by decide) (hts (.fieldLink RX12 187 "PetrolBoardModel" "far" "[I") (me_s (me_l (List.mem_of_getElem? (i := 0) rfl)))) (fun _ h => h) rfl dX12_finds_69 ?_
                            refine lv_iload_n hx hb dX12_finds_72 rfl (lv_at hl 1 rfl) ?_
                            refine z_iald (i := 57) hx hb hK hW rfl (z_ix rfl (by omega) (by omega)) dX12_finds_73 ?_
                            refine lv_topi (fun x49 ex49 => ?_)
                            have h50 : (-300000) ≤ x49.toInt ∧ x49.toInt ≤ 1000000 := by rw [ex49]; exact lp33Afr _
                            have hrx49 : z_FM I35 y26.toNatClampNeg = x49.toInt := by rw [ex49]; rfl
                            refine lv_ldcw (v := 1000000) hx hb hown (hts (.constant RX12 496 (1000000)) (me_s (me_l (List.mem_of_getElem? (i := 1) rfl)))) dX12_finds_74 ?_
                            refine lv_icmp_ge (tgt := 141) hx hb dX12_finds_77 (by decide) (fun c51 => ?_) (fun c51 => ?_)
                            · have g52 := z_f_ge rfl z_l1000000 c51
                              obtain ⟨x53, ex53⟩ : ∃ y : Int32, y = y34 + 1 := ⟨_, rfl⟩
                              have tx53 : x53.toInt = y34.toInt + 1 := z_tadd ex53 rfl z_l1 (by omega) (by omega)
                              refine lv_iinc (v := x53) (lv' := [(3, .int x53), (2, .int y26), (1, .int y14), (0, .ref (ad 0))]) hx hb dX12_finds_141 hl (k := 0) rfl (by rw [ex53]; rfl) (by decide) rfl (fun ls hl => ?_)
                              refine lv_goto (tgt := 48) hx hb dX12_finds_144 (by decide) ?_
                              exact lp33ih x53 I35 J36 _ _ _ (by omega) (by omega) (by omega) lp33Arm lp33Ami lp33Abk lp33Afr lp33T (by rw [z_ss (x := y34) (y := x53) (by omega) (by omega)]; exact z_swp_b lp33S (fun v hv => Int.le_refl _) (fun hf h9 => by omega)) lp33B lp33E lp33fr hW hS (lv_sub hl [0, 1, 2, 3] rfl)
                            · have g54 := z_f_nge rfl z_l1000000 c51
                              refine lv_aload_n hx hb dX12_finds_80 rfl (lv_at hl 3 rfl) ?_
                              refine z_get (T := TX12) (N := 96) (ci := 12) (i := 0) (v := .ref (ad 57)) hx hb hts zj_X12_finds_X12 hown hK hW rfl rfl 81 (by decide) (hts (.fieldLink RX12 187 "PetrolBoardModel" "far" "[I") (me_s (me_l (List.mem_of_getElem? (i := 0) rfl)))) (fun _ h => h) rfl dX12_finds_81 ?_
                              refine lv_iload_n hx hb dX12_finds_84 rfl (lv_at hl 1 rfl) ?_
                              refine z_iald (i := 57) hx hb hK hW rfl (z_ix rfl (by omega) (by omega)) dX12_finds_85 ?_
                              refine z_topi (v := x49) ex49.symm ?_
                              refine lv_aload_n hx hb dX12_finds_86 rfl (lv_at hl 3 rfl) ?_
                              refine z_get (T := TX12) (N := 96) (ci := 12) (i := 0) (v := .ref (ad 56)) hx hb hts zj_X12_finds_X12 hown hK hW rfl rfl 80 (by decide) (hts (.fieldLink RX12 184 "PetrolBoardModel" "miles" "[I") (me_s (me_l (List.mem_of_getElem? (i := 3) rfl)))) (fun _ h => h) rfl dX12_finds_87 ?_
                              refine lv_bipush (v := 16) hx hb dX12_finds_90 (by decide) ?_
                              refine lv_iload_n hx hb dX12_finds_92 rfl (lv_at hl 1 rfl) ?_
                              refine lv_imul hx hb dX12_finds_93 ?_
                              refine lv_topi (fun x55 ex55 => ?_)
                              have tx55 : x55.toInt = 16 * y26.toInt := z_tmul ex55 z_l16 rfl (by omega) (by omega)
                              refine lv_iload_n hx hb dX12_finds_94 rfl (lv_at hl 0 rfl) ?_
                              refine lv_iadd hx hb dX12_finds_95 ?_
                              refine lv_topi (fun x56 ex56 => ?_)
                              have tx56 : x56.toInt = x55.toInt + y34.toInt := z_tadd ex56 rfl rfl (by omega) (by omega)
                              refine z_iald (i := 56) hx hb hK hW rfl (z_ix rfl (by omega) (by omega)) dX12_finds_96 ?_
                              refine lv_topi (fun x57 ex57 => ?_)
                              have h58 : (-999) ≤ x57.toInt ∧ x57.toInt ≤ 999 := by rw [ex57]; exact lp33Ami _
                              have hrx57 : x57.toInt = z_CM I y26.toNatClampNeg y34.toNatClampNeg := by rw [ex57, lp33fr 56 _ (z_wr_c (by decide)), z_ixm (a := y26) (b := y34) (by omega) (by omega) (by omega)]; rfl
                              refine lv_iadd hx hb dX12_finds_97 ?_
                              refine lv_topi (fun x59 ex59 => ?_)
                              have tx59 : x59.toInt = x49.toInt + x57.toInt := z_tadd ex59 rfl rfl (by omega) (by omega)
                              refine lv_aload_n hx hb dX12_finds_98 rfl (lv_at hl 3 rfl) ?_
                              refine z_get (T := TX12) (N := 96) (ci := 12) (i := 0) (v := .ref (ad 57)) hx hb hts zj_X12_finds_X12 hown hK hW rfl rfl 81 (by decide) (hts (.fieldLink RX12 187 "PetrolBoardModel" "far" "[I") (me_s (me_l (List.mem_of_getElem? (i := 0) rfl)))) (fun _ h => h) rfl dX12_finds_99 ?_
                              refine lv_iload_n hx hb dX12_finds_102 rfl (lv_at hl 0 rfl) ?_
                              refine z_iald (i := 57) hx hb hK hW rfl (z_ix rfl (by omega) (by omega)) dX12_finds_103 ?_
                              refine lv_topi (fun x60 ex60 => ?_)
                              have h61 : (-300000) ≤ x60.toInt ∧ x60.toInt ≤ 1000000 := by rw [ex60]; exact lp33Afr _
                              have hrx60 : z_FM I35 y34.toNatClampNeg = x60.toInt := by rw [ex60]; rfl
                              refine lv_icmp_lt (tgt := 110) hx hb dX12_finds_104 (by decide) (fun c62 => ?_) (fun c62 => ?_)
                              · have g63 := z_f_lt rfl rfl c62
                                refine lv_aload_n hx hb dX12_finds_110 rfl (lv_at hl 3 rfl) ?_
                                refine z_get (T := TX12) (N := 96) (ci := 12) (i := 0) (v := .ref (ad 57)) hx hb hts zj_X12_finds_X12 hown hK hW rfl rfl 81 (by decide) (hts (.fieldLink RX12 187 "PetrolBoardModel" "far" "[I") (me_s (me_l (List.mem_of_getElem? (i := 0) rfl)))) (fun _ h => h) rfl dX12_finds_111 ?_
                                refine lv_iload_n hx hb dX12_finds_114 rfl (lv_at hl 0 rfl) ?_
                                refine lv_aload_n hx hb dX12_finds_115 rfl (lv_at hl 3 rfl) ?_
                                refine z_get (T := TX12) (N := 96) (ci := 12) (i := 0) (v := .ref (ad 57)) hx hb hts zj_X12_finds_X12 hown hK hW rfl rfl 81 (by decide) (hts (.fieldLink RX12 187 "PetrolBoardModel" "far" "[I") (me_s (me_l (List.mem_of_getElem? (i := 0) rfl)))) (fun _ h => h) rfl dX12_finds_116 ?_
                                refine lv_iload_n hx hb dX12_finds_119 rfl (lv_at hl 1 rfl) ?_
                                refine z_iald (i := 57) hx hb hK hW rfl (z_ix rfl (by omega) (by omega)) dX12_finds_120 ?_
                                refine z_topi (v := x49) ex49.symm ?_
                                refine lv_aload_n hx hb dX12_finds_121 rfl (lv_at hl 3 rfl) ?_
                                refine z_get (T := TX12) (N := 96) (ci := 12) (i := 0) (v := .ref (ad 56)) hx hb hts zj_X12_finds_X12 hown hK hW rfl rfl 80 (by decide) (hts (.fieldLink RX12 184 "PetrolBoardModel" "miles" "[I") (me_s (me_l (List.mem_of_getElem? (i := 3) rfl)))) (fun _ h => h) rfl dX12_finds_122 ?_
                                refine lv_bipush (v := 16) hx hb dX12_finds_125 (by decide) ?_
                                refine lv_iload_n hx hb dX12_finds_127 rfl (lv_at hl 1 rfl) ?_
                                refine lv_imul hx hb dX12_finds_128 ?_
                                refine lv_topi (fun x64 ex64 => ?_)
                                have tx64 : x64.toInt = 16 * y26.toInt := z_tmul ex64 z_l16 rfl (by omega) (by omega)
                                refine lv_iload_n hx hb dX12_finds_129 rfl (lv_at hl 0 rfl) ?_
                                refine lv_iadd hx hb dX12_finds_130 ?_
                                refine lv_topi (fun x65 ex65 => ?_)
                                have tx65 : x65.toInt = x64.toInt + y34.toInt := z_tadd ex65 rfl rfl (by omega) (by omega)
                                refine z_iald (i := 56) hx hb hK hW rfl (z_ix rfl (by omega) (by omega)) dX12_finds_131 ?_
                                refine lv_topi (fun x66 ex66 => ?_)
                                have h67 : (-999) ≤ x66.toInt ∧ x66.toInt ≤ 999 := by rw [ex66]; exact lp33Ami _
                                have hrx66 : x66.toInt = z_CM I y26.toNatClampNeg y34.toNatClampNeg := by rw [ex66, lp33fr 56 _ (z_wr_c (by decide)), z_ixm (a := y26) (b := y34) (by omega) (by omega) (by omega)]; rfl
                                refine lv_iadd hx hb dX12_finds_132 ?_
                                refine lv_topi (fun x68 ex68 => ?_)
                                have tx68 : x68.toInt = x49.toInt + x66.toInt := z_tadd ex68 rfl rfl (by omega) (by omega)
                                refine z_iast (i := 57) hx hb hK hW hS rfl (z_ix rfl (by omega) (by omega)) dX12_finds_133 (fun H locs hz1 hW hS => ?_)
                                obtain ⟨I69, eI69⟩ : ∃ K : z_I, K = z_up I35 57 y34.toNatClampNeg x68 := ⟨_, rfl⟩
                                rw [← eI69] at hW
                                have f70 := z_fr_a lp33fr (show z_wa L_X12_finds 57 = true by decide) eI69
                                have a71 := z_rg_n lp33Arm (by decide) eI69
                                have a72 := z_rg_n lp33Ami (by decide) eI69
                                have a73 := z_rg_n lp33Abk (by decide) eI69
                                have a74 := z_rg_a lp33Afr (by omega) eI69
                                refine lv_aload_n hx hb dX12_finds_134 rfl (lv_at hl 3 rfl) ?_
                                refine z_get (T := TX12) (N := 96) (ci := 12) (i := 0) (v := .ref (ad 58)) hx hb hts zj_X12_finds_X12 hown hK hW rfl rfl 82 (by decide) (hts (.fieldLink RX12 190 "PetrolBoardModel" "back" "[I") (me_s (me_l (List.mem_of_getElem? (i := 4) rfl)))) (fun _ h => h) rfl dX12_finds_135 ?_
                                refine lv_iload_n hx hb dX12_finds_138 rfl (lv_at hl 0 rfl) ?_
                                refine lv_iload_n hx hb dX12_finds_139 rfl (lv_at hl 1 rfl) ?_
                                refine z_iast (i := 58) hx hb hK hW hS rfl (z_ix rfl (by omega) (by omega)) dX12_finds_140 (fun H locs hz1 hW hS => ?_)
                                obtain ⟨I75, eI75⟩ : ∃ K : z_I, K = z_up I69 58 y34.toNatClampNeg y26 := ⟨_, rfl⟩
                                rw [← eI75] at hW
                                have f76 := z_fr_a f70 (show z_wa L_X12_finds 58 = true by decide) eI75
                                have a77 := z_rg_n a71 (by decide) eI75
                                have a78 := z_rg_n a72 (by decide) eI75
                                have a79 := z_rg_a a73 (by omega) eI75
                                have a80 := z_rg_n a74 (by decide) eI75
                                have hm := z_rlm eI69 eI75
                                have hal : y26.toNatClampNeg < 16 := by have := z_clt (x := y26) rfl (by omega); omega
                                have hbl : y34.toNatClampNeg < 16 := by have := z_clt (x := y34) rfl (by omega); omega
                                have hm1 : z_FM I75 y34.toNatClampNeg = z_FM I35 y26.toNatClampNeg + z_CM I y26.toNatClampNeg y34.toNatClampNeg := by rw [hm.1]; omega
                                obtain ⟨h9, hT9⟩ := lp33T
                                have hrl := z_rlx hrm.1 hT9 hal hbl (by omega) (by omega) (by omega) hm1 hm.2.1 hm.2.2.1 hm.2.2.2
                                have hR9 : 0 < z_RM I y26.toNatClampNeg y34.toNatClampNeg := by omega
                                obtain ⟨x81, ex81⟩ : ∃ y : Int32, y = y34 + 1 := ⟨_, rfl⟩
                                have tx81 : x81.toInt = y34.toInt + 1 := z_tadd ex81 rfl z_l1 (by omega) (by omega)
                                refine lv_iinc (v := x81) (lv' := [(3, .int x81), (2, .int y26), (1, .int y14), (0, .ref (ad 0))]) hx hb dX12_finds_141 hl (k := 0) rfl (by rw [ex81]; rfl) (by decide) rfl (fun ls hl => ?_)
                                refine lv_goto (tgt := 48) hx hb dX12_finds_144 (by decide) ?_
                                exact lp33ih x81 I75 J36 _ _ _ (by omega) (by omega) (by omega) a77 a78 a79 a80 ⟨_, hrl.2.2⟩ (by rw [z_ss (x := y34) (y := x81) (by omega) (by omega)]; exact z_swp_b lp33S (fun v hv => by by_cases q9 : v = y34.toNatClampNeg; (· (subst q9; omega)); (· (rw [hm.2.1 v q9]; exact Int.le_refl _))) (fun hf h9 => by omega)) (fun v hv hf => by by_cases q9 : v = y34.toNatClampNeg; (· (subst q9; have := lp33E (by omega); omega)); (· (rw [hm.2.1 v q9] at hf ⊢; exact lp33B v hv hf))) (by rw [hm.2.1 _ hrl.1]; exact lp33E) f76 hW hS (lv_sub hl [0, 1, 2, 3] rfl)
                              · have g82 := z_f_nlt rfl rfl c62
                                refine lv_goto (tgt := 141) hx hb dX12_finds_107 (by decide) ?_
                                obtain ⟨x83, ex83⟩ : ∃ y : Int32, y = y34 + 1 := ⟨_, rfl⟩
                                have tx83 : x83.toInt = y34.toInt + 1 := z_tadd ex83 rfl z_l1 (by omega) (by omega)
                                refine lv_iinc (v := x83) (lv' := [(3, .int x83), (2, .int y26), (1, .int y14), (0, .ref (ad 0))]) hx hb dX12_finds_141 hl (k := 0) rfl (by rw [ex83]; rfl) (by decide) rfl (fun ls hl => ?_)
                                refine lv_goto (tgt := 48) hx hb dX12_finds_144 (by decide) ?_
                                exact lp33ih x83 I35 J36 _ _ _ (by omega) (by omega) (by omega) lp33Arm lp33Ami lp33Abk lp33Afr lp33T (by rw [z_ss (x := y34) (y := x83) (by omega) (by omega)]; exact z_swp_b lp33S (fun v hv => Int.le_refl _) (fun hf h9 => by omega)) lp33B lp33E lp33fr hW hS (lv_sub hl [0, 1, 2, 3] rfl)
                    exact lp33 4294967296 (0) I27 J28 _ _ _ (z_m0u _) (by rw [z_l0]; omega) (by rw [z_l0]; omega) lp25Arm lp25Ami lp25Abk lp25Afr lp25T (by rw [z_n0]; exact lp25S) (fun v hv hf => by have := lp25B v hv hf; omega) (fun hf => by have := lp25B y26.toNatClampNeg (by have := z_clt (x := y26) rfl (by omega); omega) hf; omega) lp25fr hW hS (lv_sub hl [0, 1, 2, 3] rfl)
              exact lp25 4294967296 (0) I15 J16 _ _ _ (z_m0u _) (by rw [z_l0]; omega) (by rw [z_l0]; omega) lp13Arm lp13Ami lp13Abk lp13Afr lp13T (by rw [z_n0]; exact lp13S) (fun v hv hf => by have := lp13B v hv hf; have h9 : ((0 : Int32)).toInt = 0 := (by decide); omega) lp13fr hW hS (lv_sub hl [0, 1, 2] rfl)
        exact lp13 4294967296 (0) I7 J4 _ _ _ (z_m0u _) (by rw [z_l0]; omega) (by rw [z_l0]; omega) a9 a10 a11 a12 hT0 (by rw [z_n0]; exact z_swp_0 hcv hF0) (fun v hv hf => by have := hFv v hv hf; have h9 : ((0 : Int32)).toInt = 0 := (by decide); omega) f8 hW hS (lv_sub hl [0, 1] rfl)
      · have g84 := z_f_nge rfl z_l16 c5
        refine lv_aload_n hx hb dX12_finds_8 rfl (lv_at hl 1 rfl) ?_
        refine z_get (T := TX12) (N := 96) (ci := 12) (i := 0) (v := .ref (ad 57)) hx hb hts zj_X12_finds_X12 hown hK hW rfl rfl 81 (by decide) (hts (.fieldLink RX12 187 "PetrolBoardModel" "far" "[I") (me_s (me_l (List.mem_of_getElem? (i := 0) rfl)))) (fun _ h => h) rfl dX12_finds_9 ?_
        refine lv_iload_n hx hb dX12_finds_12 rfl (lv_at hl 0 rfl) ?_
        refine lv_ldcw (v := 1000000) hx hb hown (hts (.constant RX12 496 (1000000)) (me_s (me_l (List.mem_of_getElem? (i := 1) rfl)))) dX12_finds_13 ?_
        refine z_iast (i := 57) hx hb hK hW hS rfl (z_ix rfl (by omega) (by omega)) dX12_finds_16 (fun H locs hz1 hW hS => ?_)
        obtain ⟨I85, eI85⟩ : ∃ K : z_I, K = z_up I3 57 y2.toNatClampNeg 1000000 := ⟨_, rfl⟩
        rw [← eI85] at hW
        have f86 := z_fr_a lp1fr (show z_wa L_X12_finds 57 = true by decide) eI85
        have a87 := z_rg_n lp1Arm (by decide) eI85
        have a88 := z_rg_n lp1Ami (by decide) eI85
        have a89 := z_rg_n lp1Abk (by decide) eI85
        have a90 := z_rg_a lp1Afr (by decide) eI85
        obtain ⟨x91, ex91⟩ : ∃ y : Int32, y = y2 + 1 := ⟨_, rfl⟩
        have tx91 : x91.toInt = y2.toInt + 1 := z_tadd ex91 rfl z_l1 (by omega) (by omega)
        refine lv_iinc (v := x91) (lv' := [(1, .int x91), (0, .ref (ad 0))]) hx hb dX12_finds_17 hl (k := 0) rfl (by rw [ex91]; rfl) (by decide) rfl (fun ls hl => ?_)
        refine lv_goto (tgt := 2) hx hb dX12_finds_20 (by decide) ?_
        exact lp1ih x91 I85 J4 _ _ _ (by omega) (by omega) (by omega) a87 a88 a89 a90 (fun j hj => by by_cases q9 : j = y2.toNatClampNeg; (· (rw [eI85, q9, z_up_s])); (· (rw [eI85, z_up_k q9]; have hc9 := z_clt (x := y2) rfl (by omega); exact lp1I0 j (by omega)))) f86 hW hS (lv_sub hl [0, 1] rfl)
  exact lp1 4294967296 (0) I J _ _ _ (z_m0u _) (by rw [z_l0]; omega) (by rw [z_l0]; omega) hArm hAmi hAbk hAfr (fun j hj => absurd hj (by have : ((0 : Int32)).toInt = 0 := (by decide); omega)) z_fr_0 hW hS (lv_sub hl [0, 1] rfl)
