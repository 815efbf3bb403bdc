theorem dX10_init_0 : decode cX10_init 0 = .ok (.aload_n 0, 1) := z_dd_42 (by decide +kernel)
theorem dX10_init_1 : decode cX10_init 1 = .ok (.invokespecial 3, 3) := z_dd_183 (by decide +kernel)
theorem dX10_init_4 : decode cX10_init 4 = .ok (.aload_n 0, 1) := z_dd_42 (by decide +kernel)
theorem dX10_init_5 : decode cX10_init 5 = .ok (.bipush 30, 2) := z_dd_16 (by decide +kernel)
theorem dX10_init_7 : decode cX10_init 7 = .ok (.newarray .int, 2) := z_dd_188_int (by decide +kernel)
theorem dX10_init_9 : decode cX10_init 9 = .ok (.putfield 9, 3) := z_dd_181 (by decide +kernel)
theorem dX10_init_12 : decode cX10_init 12 = .ok (.aload_n 0, 1) := z_dd_42 (by decide +kernel)
theorem dX10_init_13 : decode cX10_init 13 = .ok (.bipush 30, 2) := z_dd_16 (by decide +kernel)
theorem dX10_init_15 : decode cX10_init 15 = .ok (.newarray .int, 2) := z_dd_188_int (by decide +kernel)
theorem dX10_init_17 : decode cX10_init 17 = .ok (.putfield 15, 3) := z_dd_181 (by decide +kernel)
theorem dX10_init_20 : decode cX10_init 20 = .ok (.aload_n 0, 1) := z_dd_42 (by decide +kernel)
theorem dX10_init_21 : decode cX10_init 21 = .ok (.bipush 30, 2) := z_dd_16 (by decide +kernel)
theorem dX10_init_23 : decode cX10_init 23 = .ok (.newarray .int, 2) := z_dd_188_int (by decide +kernel)
theorem dX10_init_25 : decode cX10_init 25 = .ok (.putfield 18, 3) := z_dd_181 (by decide +kernel)
theorem dX10_init_28 : decode cX10_init 28 = .ok (.aload_n 0, 1) := z_dd_42 (by decide +kernel)
theorem dX10_init_29 : decode cX10_init 29 = .ok (.bipush 30, 2) := z_dd_16 (by decide +kernel)
theorem dX10_init_31 : decode cX10_init 31 = .ok (.newarray .int, 2) := z_dd_188_int (by decide +kernel)
theorem dX10_init_33 : decode cX10_init 33 = .ok (.putfield 21, 3) := z_dd_181 (by decide +kernel)
theorem dX10_init_36 : decode cX10_init 36 = .ok (.aload_n 0, 1) := z_dd_42 (by decide +kernel)
theorem dX10_init_37 : decode cX10_init 37 = .ok (.bipush 30, 2) := z_dd_16 (by decide +kernel)
theorem dX10_init_39 : decode cX10_init 39 = .ok (.newarray .int, 2) := z_dd_188_int (by decide +kernel)
theorem dX10_init_41 : decode cX10_init 41 = .ok (.putfield 24, 3) := z_dd_181 (by decide +kernel)
theorem dX10_init_44 : decode cX10_init 44 = .ok (.aload_n 0, 1) := z_dd_42 (by decide +kernel)
theorem dX10_init_45 : decode cX10_init 45 = .ok (.bipush 30, 2) := z_dd_16 (by decide +kernel)
theorem dX10_init_47 : decode cX10_init 47 = .ok (.newarray .int, 2) := z_dd_188_int (by decide +kernel)
theorem dX10_init_49 : decode cX10_init 49 = .ok (.putfield 27, 3) := z_dd_181 (by decide +kernel)
theorem dX10_init_52 : decode cX10_init 52 = .ok (.aload_n 0, 1) := z_dd_42 (by decide +kernel)
theorem dX10_init_53 : decode cX10_init 53 = .ok (.bipush 30, 2) := z_dd_16 (by decide +kernel)
theorem dX10_init_55 : decode cX10_init 55 = .ok (.newarray .int, 2) := z_dd_188_int (by decide +kernel)
theorem dX10_init_57 : decode cX10_init 57 = .ok (.putfield 30, 3) := z_dd_181 (by decide +kernel)
theorem dX10_init_60 : decode cX10_init 60 = .ok (.return_, 1) := z_dd_177 (by decide +kernel)
theorem dX11_station_0 : decode cX11_station 0 = .ok (.aload_n 0, 1) := z_dd_42 (by decide +kernel)
theorem dX11_station_1 : decode cX11_station 1 = .ok (.getfield 178, 3) := z_dd_180 (by decide +kernel)
theorem dX11_station_4 : decode cX11_station 4 = .ok (.aload_n 0, 1) := z_dd_42 (by decide +kernel)
theorem dX11_station_5 : decode cX11_station 5 = .ok (.getfield 50, 3) := z_dd_180 (by decide +kernel)
theorem dX11_station_8 : decode cX11_station 8 = .ok (.arraylength, 1) := z_dd_190 (by decide +kernel)
theorem dX11_station_9 : decode cX11_station 9 = .ok (.if_icmp .lt 5, 3) := z_dd_161 (by decide +kernel)
theorem dX11_station_14 : decode cX11_station 14 = .ok (.aload_n 0, 1) := z_dd_42 (by decide +kernel)
theorem dX11_station_15 : decode cX11_station 15 = .ok (.getfield 50, 3) := z_dd_180 (by decide +kernel)
theorem dX11_station_18 : decode cX11_station 18 = .ok (.aload_n 0, 1) := z_dd_42 (by decide +kernel)
theorem dX11_station_19 : decode cX11_station 19 = .ok (.getfield 178, 3) := z_dd_180 (by decide +kernel)
theorem dX11_station_22 : decode cX11_station 22 = .ok (.new 48, 3) := z_dd_187 (by decide +kernel)
theorem dX11_station_25 : decode cX11_station 25 = .ok (.dup, 1) := z_dd_89 (by decide +kernel)
set_option maxRecDepth 20000 in
theorem ggX11_station_X10_init : GoodIn wsX11_station wsX10_init := goodIn_sub (fa_c (me_s (me_l (me_l (List.mem_of_getElem? (i := 6) rfl)))) (fa_a (fa_c (me_s (me_l (me_l (List.mem_of_getElem? (i := 7) rfl)))) (fa_c (me_s (me_l (me_l (List.mem_of_getElem? (i := 8) rfl)))) (fa_c (me_s (me_l (me_l (List.mem_of_getElem? (i := 9) rfl)))) (fa_c (me_s (me_l (me_l (List.mem_of_getElem? (i := 10) rfl)))) (fa_c (me_s (me_l (me_l (List.mem_of_getElem? (i := 11) rfl)))) (fa_c (me_s (me_l (me_l (List.mem_of_getElem? (i := 12) rfl)))) (fa_c (me_s (me_l (me_l (List.mem_of_getElem? (i := 13) rfl)))) (fa_c (me_s (me_l (me_l (List.mem_of_getElem? (i := 14) rfl)))) (fa_c (me_s (me_l (me_l (List.mem_of_getElem? (i := 15) rfl)))) (fa_c (me_s (me_l (me_l (List.mem_of_getElem? (i := 16) rfl)))) (fa_c (me_s (me_l (me_l (List.mem_of_getElem? (i := 17) rfl)))) fa_n))))))))))) (fun w h => (me_s (me_r h))))) (by decide +kernel)
set_option maxRecDepth 20000 in
theorem gX11_station_X10_init_n181 : GoodIn wsX11_station (wsX10_init) := ggX11_station_X10_init
theorem dX11_station_26 : decode cX11_station 26 = .ok (.invokespecial 181, 3) := z_dd_183 (by decide +kernel)
theorem dX11_station_29 : decode cX11_station 29 = .ok (.aastore, 1) := z_dd_83 (by decide +kernel)
theorem dX11_station_30 : decode cX11_station 30 = .ok (.aload_n 0, 1) := z_dd_42 (by decide +kernel)
theorem dX11_station_31 : decode cX11_station 31 = .ok (.dup, 1) := z_dd_89 (by decide +kernel)
theorem dX11_station_32 : decode cX11_station 32 = .ok (.getfield 178, 3) := z_dd_180 (by decide +kernel)
theorem dX11_station_35 : decode cX11_station 35 = .ok (.iconst 1, 1) := z_dd_4 (by decide +kernel)
theorem dX11_station_36 : decode cX11_station 36 = .ok (.iadd, 1) := z_dd_96 (by decide +kernel)
theorem dX11_station_37 : decode cX11_station 37 = .ok (.putfield 178, 3) := z_dd_181 (by decide +kernel)
theorem dX11_station_40 : decode cX11_station 40 = .ok (.aload_n 0, 1) := z_dd_42 (by decide +kernel)
theorem dX11_station_41 : decode cX11_station 41 = .ok (.getfield 178, 3) := z_dd_180 (by decide +kernel)
theorem dX11_station_44 : decode cX11_station 44 = .ok (.iconst 1, 1) := z_dd_4 (by decide +kernel)
theorem dX11_station_45 : decode cX11_station 45 = .ok (.isub, 1) := z_dd_100 (by decide +kernel)
theorem dX11_station_46 : decode cX11_station 46 = .ok (.ireturn, 1) := z_dd_172 (by decide +kernel)
theorem dX11_station_12 : decode cX11_station 12 = .ok (.iconst (-1), 1) := z_dd_2 (by decide +kernel)
theorem dX11_station_13 : decode cX11_station 13 = .ok (.ireturn, 1) := z_dd_172 (by decide +kernel)

/-! STATIONS are made: cells that lie where they will -/
theorem z_W.re {G : z_G} {A : Nat → Prop} {sh : Nat → Option z_S} {ad ad1 : Nat → Nat} {I I1 : z_I} {J J1 : z_J} {P P1 : z_P} {H : Heap} (h : z_W G A (sh, ad, I, J, P) H) (h1 : ∀ i, sh i ≠ none → ad1 i = ad i ∧ ∀ k, I1 i k = I i k ∧ J1 i k = J i k ∧ P1 i k = P i k) : z_W G A (sh, ad1, I1, J1, P1) H := by
  refine ⟨fun i x hi => ?_, fun a b ha hb hab => ?_, fun a ha => ?_⟩
  · have q := h1 i (z_ne hi)
    refine (h.1 i x hi).kept q.1 rfl (fun ty k => ?_)
    have qk := q.2 k
    cases ty <;> simp [z_v, qk.1, qk.2.1, qk.2.2]
  · have q1 := (h1 a ha).1
    have q2 := (h1 b hb).1
    have hab' : ad1 a = ad1 b := hab
    exact h.2.1 a b ha hb (by show ad a = ad b; rw [← q1, ← q2]; exact hab')
  · show A (ad1 a)
    rw [(h1 a ha).1]
    exact h.2.2 a ha
theorem z_sh_n {sh : Nat → Option z_S} {i j : Nat} {x : z_S} (h : j ≠ i) : z_sh sh i x j = sh j := by simp [z_sh, h]
theorem z_shr_o {sh : Nat → Option z_S} {i K : Nat} : ∀ n, z_shr sh i K n i = sh i
  | 0 => rfl
  | n + 1 => by
    show z_sh (z_shr sh i K n) (i + 1 + n) _ i = _
    rw [z_sh_n (by omega)]
    exact z_shr_o n
theorem z_shr_e {sh : Nat → Option z_S} {i K : Nat} : ∀ n j, z_shr sh i K n j = if i < j ∧ j < i + 1 + n then some (.inl (.int, K)) else sh j
  | 0, j => by
    rw [if_neg (by omega)]
    rfl
  | n + 1, j => by
    show z_sh (z_shr sh i K n) (i + 1 + n) _ j = _
    by_cases q : j = i + 1 + n
    · rw [if_pos (by omega), q]
      simp [z_sh]
    · rw [z_sh_n q, z_shr_e n j]
      by_cases q2 : i < j ∧ j < i + 1 + n
      · rw [if_pos q2, if_pos (by omega)]
      · rw [if_neg q2, if_neg (by omega)]
/-- the references of an object as its constructor lays them: the n-th array into field f n -/
noncomputable def z_ps (f : Nat → Nat) (P : z_P) (i : Nat) (ad : Nat → Nat) : Nat → z_P
  | 0 => P
  | n + 1 => z_up (z_ps f P i ad n) i (f n) (some (ad (i + 1 + n)))
theorem z_ps_n {f : Nat → Nat} {P : z_P} {i : Nat} {ad : Nat → Nat} {a k : Nat} (h : a ≠ i) : ∀ n, z_ps f P i ad n a k = P a k
  | 0 => rfl
  | n + 1 => by
    show z_up (z_ps f P i ad n) i (f n) _ a k = _
    rw [z_up_n h]
    exact z_ps_n h n
noncomputable def z_f10 (n : Nat) : Nat := if n < 4 then n else n + 3
theorem z_PX_c {ad ad1 : Nat → Nat} (h : ∀ j, j < 75 → ad1 j = ad j) : PX ad1 = PX ad := by
  funext i k
  unfold PX
  simp only [h 1 (by decide), h 12 (by decide), h 21 (by decide), h 26 (by decide), h 30 (by decide), h 39 (by decide), h 40 (by decide), h 41 (by decide), h 60 (by decide), h 72 (by decide), h 0 (by decide), h 2 (by decide), h 3 (by decide), h 4 (by decide), h 5 (by decide), h 6 (by decide), h 7 (by decide), h 8 (by decide), h 9 (by decide), h 10 (by decide), h 11 (by decide), h 13 (by decide), h 14 (by decide), h 15 (by decide), h 16 (by decide), h 17 (by decide), h 18 (by decide), h 19 (by decide), h 20 (by decide), h 22 (by decide), h 23 (by decide), h 24 (by decide), h 25 (by decide), h 27 (by decide), h 28 (by decide), h 29 (by decide), h 31 (by decide), h 32 (by decide), h 33 (by decide), h 34 (by decide), h 35 (by decide), h 36 (by decide), h 37 (by decide), h 38 (by decide), h 42 (by decide), h 43 (by decide), h 44 (by decide), h 45 (by decide), h 46 (by decide), h 47 (by decide), h 48 (by decide), h 49 (by decide), h 50 (by decide), h 51 (by decide), h 52 (by decide), h 53 (by decide), h 54 (by decide), h 55 (by decide), h 56 (by decide), h 57 (by decide), h 58 (by decide), h 59 (by decide), h 61 (by decide), h 62 (by decide), h 63 (by decide), h 64 (by decide), h 65 (by decide), h 66 (by decide), h 67 (by decide), h 68 (by decide), h 69 (by decide), h 70 (by decide), h 71 (by decide), h 73 (by decide), h 74 (by decide)]
theorem z_so_le {k j : Nat} (h : z_so k = some j) : j ≤ 7 := by
  unfold z_so at h
  split at h
  · injection h with h
    omega
  · split at h
    · injection h with h
      omega
    · cases h
theorem z_oo_le {k j : Nat} (h : z_oo k = some j) : j ≤ 4 := by
  unfold z_oo at h
  split at h
  · injection h with h
    omega
  · cases h
theorem z_PC_c {c : z_C} {ad ad1 : Nat → Nat} (h10 : c.1 ≤ 10) (h : ∀ j, (j < 100 + 8 * c.1 ∨ (200 ≤ j ∧ j < 200 + 5 * c.2.1)) → ad1 j = ad j) : ∀ i, shC c i ≠ none → ∀ k, PC c ad1 i k = PC c ad i k := by
  intro i hi k
  unfold PC
  rw [z_PX_c (ad1 := ad1) (ad := ad) (fun j hj => h j (by omega))]
  by_cases q1 : i < 75
  · rw [if_pos q1, if_pos q1]
    by_cases q2 : i = 39
    · rw [if_pos q2, if_pos q2]
      by_cases q3 : k < c.1
      · rw [if_pos q3, if_pos q3, h (100 + 8 * k) (by omega)]
      · rw [if_neg q3, if_neg q3]
    · rw [if_neg q2, if_neg q2]
      by_cases q3 : i = 22
      · rw [if_pos q3, if_pos q3]
        by_cases q4 : k < c.2.1
        · rw [if_pos q4, if_pos q4, h (200 + 5 * k) (by omega)]
        · rw [if_neg q4, if_neg q4]
      · rw [if_neg q3, if_neg q3]
  · rw [if_neg q1, if_neg q1]
    unfold shC at hi
    rw [if_neg q1] at hi
    by_cases q2 : i < 180
    · rw [if_pos q2] at hi
      rw [if_pos q2, if_pos q2]
      by_cases q3 : 100 ≤ i ∧ (i - 100) / 8 < c.1
      · by_cases q4 : (i - 100) % 8 = 0
        · rw [if_pos q4, if_pos q4]
          cases hz : z_so k with
          | none => rfl
          | some j =>
            have := z_so_le hz
            show some (ad1 (i + j)) = some (ad (i + j))
            rw [h (i + j) (by omega)]
        · rw [if_neg q4, if_neg q4]
      · rw [if_neg q3] at hi
        exact absurd rfl hi
    · rw [if_neg q2] at hi
      rw [if_neg q2, if_neg q2]
      by_cases q3 : 200 ≤ i ∧ (i - 200) / 5 < c.2.1
      · by_cases q4 : (i - 200) % 5 = 0
        · rw [if_pos q4, if_pos q4]
          cases hz : z_oo k with
          | none => rfl
          | some j =>
            have := z_oo_le hz
            show some (ad1 (i + j)) = some (ad (i + j))
            rw [h (i + j) (by omega)]
        · rw [if_neg q4, if_neg q4]
      · rw [if_neg q3] at hi
        exact absurd rfl hi
/-- one more STATION -/
noncomputable def z_c1 (c : z_C) : z_C := (c.1 + 1, c.2)
noncomputable def z_i0 (c : z_C) : Nat := 100 + 8 * c.1
theorem z_shC_1 {c : z_C} (h10 : c.1 < 10) : z_shr (z_sh (shC c) (z_i0 c) (.inr 10)) (z_i0 c) 30 7 = shC (z_c1 c) := by
  funext j
  rw [z_shr_e]
  unfold z_i0 z_c1 shC
  by_cases q1 : 100 + 8 * c.1 < j ∧ j < 100 + 8 * c.1 + 1 + 7
  · have e1 : (j - 100) / 8 = c.1 := by omega
    have e2 : ¬ (j - 100) % 8 = 0 := by omega
    rw [if_pos q1, if_neg (by omega), if_pos (by omega), if_pos ⟨by omega, by rw [e1]; exact Nat.lt_succ_self _⟩, if_neg e2]
  · rw [if_neg q1]
    by_cases q2 : j = 100 + 8 * c.1
    · have e1 : (j - 100) / 8 = c.1 := by omega
      have e2 : (j - 100) % 8 = 0 := by omega
      rw [if_neg (by omega), if_pos (by omega), if_pos ⟨by omega, by rw [e1]; exact Nat.lt_succ_self _⟩, if_pos e2, q2]
      simp [z_sh]
    · rw [z_sh_n q2]
      by_cases q3 : j < 75
      · rw [if_pos q3, if_pos q3]
      · rw [if_neg q3, if_neg q3]
        by_cases q4 : j < 180
        · rw [if_pos q4, if_pos q4]
          by_cases q5 : 100 ≤ j ∧ (j - 100) / 8 < c.1
          · rw [if_pos q5, if_pos (show 100 ≤ j ∧ (j - 100) / 8 < c.1 + 1 from ⟨q5.1, by omega⟩)]
          · rw [if_neg q5, if_neg (show ¬ (100 ≤ j ∧ (j - 100) / 8 < c.1 + 1) from fun q => q5 ⟨q.1, by omega⟩)]
        · rw [if_neg q4, if_neg q4]
theorem z_PC_1 {c : z_C} {ad ad1 : Nat → Nat} {P : z_P} {x : Nat} (h10 : c.1 < 10) (h : ∀ j, (j < 100 + 8 * c.1 ∨ (200 ≤ j ∧ j < 200 + 5 * c.2.1)) → ad1 j = ad j) (hx : x = c.1) (hP : P = z_up (z_ps z_f10 (fun a b => if a = z_i0 c then none else PC c ad a b) (z_i0 c) ad1 7) 39 x (some (ad1 (z_i0 c)))) : ∀ i, shC (z_c1 c) i ≠ none → ∀ k, PC (z_c1 c) ad1 i k = P i k := by
  intro i hi k
  subst hx hP
  have hpc := z_PC_c (ad1 := ad1) (ad := ad) (c := c) (by omega) h
  by_cases e1 : i = 39
  · subst e1
    show (if k < c.1 + 1 then some (ad1 (100 + 8 * k)) else none) = _
    by_cases e2 : k = c.1
    · subst e2
      rw [z_up_s, if_pos (Nat.lt_succ_self _)]
      rfl
    · rw [z_up_k e2, z_ps_n (by unfold z_i0; omega)]
      have e9 : (if 39 = z_i0 c then none else PC c ad 39 k) = (if k < c.1 then some (ad (100 + 8 * k)) else none) := (if_neg (by unfold z_i0; omega)).trans rfl
      show _ = (if 39 = z_i0 c then none else PC c ad 39 k)
      rw [e9]
      by_cases e3 : k < c.1
      · rw [if_pos e3, if_pos (by omega), h (100 + 8 * k) (by omega)]
      · rw [if_neg e3, if_neg (by omega)]
  · rw [z_up_n e1]
    by_cases e2 : i = z_i0 c
    · subst e2
      have hps : ∀ n, n ≤ 7 → z_ps z_f10 (fun a b => if a = z_i0 c then none else PC c ad a b) (z_i0 c) ad1 n (z_i0 c) k = if k < n ∧ k < 4 then some (ad1 (z_i0 c + (k + 1))) else if 7 ≤ k ∧ k < n + 3 ∧ 4 ≤ n then some (ad1 (z_i0 c + (k - 2))) else none := by
        intro n
        induction n with
        | zero =>
          intro _
          rw [if_neg (show ¬ (k < 0 ∧ k < 4) by omega), if_neg (show ¬ (7 ≤ k ∧ k < 0 + 3 ∧ 4 ≤ 0) by omega)]
          exact if_pos rfl
        | succ n ih =>
          intro hn
          show z_up (z_ps z_f10 _ (z_i0 c) ad1 n) (z_i0 c) (z_f10 n) _ (z_i0 c) k = _
          by_cases q : k = z_f10 n
          · rw [q, z_up_s]
            unfold z_f10
            by_cases q4 : n < 4
            · rw [if_pos q4, if_pos (show n < n + 1 ∧ n < 4 by omega)]
              congr 2
              omega
            · rw [if_neg q4, if_neg (show ¬ (n + 3 < n + 1 ∧ n + 3 < 4) by omega), if_pos (show 7 ≤ n + 3 ∧ n + 3 < n + 1 + 3 ∧ 4 ≤ n + 1 by omega)]
              congr 2
              omega
          · rw [z_up_k q, ih (by omega)]
            unfold z_f10 at q
            have q4 : ¬ (n < 4 ∧ k = n) ∧ ¬ (4 ≤ n ∧ k = n + 3) := by
              by_cases q5 : n < 4
              · rw [if_pos q5] at q
                omega
              · rw [if_neg q5] at q
                omega
            by_cases c1 : k < n ∧ k < 4
            · rw [if_pos c1, if_pos (show k < n + 1 ∧ k < 4 by omega)]
            · by_cases c2 : 7 ≤ k ∧ k < n + 3 ∧ 4 ≤ n
              · rw [if_neg c1, if_pos c2, if_neg (show ¬ (k < n + 1 ∧ k < 4) by omega), if_pos (show 7 ≤ k ∧ k < n + 1 + 3 ∧ 4 ≤ n + 1 by omega)]
              · rw [if_neg c1, if_neg c2, if_neg (show ¬ (k < n + 1 ∧ k < 4) by omega), if_neg (show ¬ (7 ≤ k ∧ k < n + 1 + 3 ∧ 4 ≤ n + 1) by omega)]
      rw [hps 7 (by omega)]
      unfold z_i0 at e1 ⊢
      unfold PC z_c1
      rw [if_neg (by omega), if_pos (by omega), if_pos (by omega)]
      unfold z_so
      by_cases q1 : k < 4
      · rw [if_pos q1, if_pos (show k < 7 ∧ k < 4 by omega)]
        rfl
      · by_cases q2 : 7 ≤ k ∧ k < 10
        · rw [if_neg q1, if_pos q2, if_neg (show ¬ (k < 7 ∧ k < 4) by omega), if_pos (show 7 ≤ k ∧ k < 7 + 3 ∧ 4 ≤ 7 by omega)]
          rfl
        · rw [if_neg q1, if_neg q2, if_neg (show ¬ (k < 7 ∧ k < 4) by omega), if_neg (show ¬ (7 ≤ k ∧ k < 7 + 3 ∧ 4 ≤ 7) by omega)]
          rfl
    · have hps : ∀ n, z_ps z_f10 (fun a b => if a = z_i0 c then none else PC c ad a b) (z_i0 c) ad1 n i k = PC c ad i k := by
        intro n
        induction n with
        | zero =>
          show (if i = z_i0 c then none else PC c ad i k) = _
          rw [if_neg e2]
        | succ n ih =>
          show z_up _ (z_i0 c) _ _ i k = _
          rw [z_up_n e2]
          exact ih
      rw [hps 7]
      by_cases q9 : shC c i = none
      · -- a row of the new STATION: no references
        rw [← z_shC_1 h10, z_shr_e] at hi
        rw [z_sh_n e2, q9] at hi
        have q8 : z_i0 c < i ∧ i < z_i0 c + 1 + 7 := Classical.byContradiction fun q => hi (if_neg q)
        unfold z_i0 at q8
        unfold PC z_c1
        rw [if_neg (by omega), if_pos (by omega), if_neg (by omega), if_neg (by omega), if_pos (by omega), if_neg (by omega)]
      · rw [← hpc i q9 k]
        unfold PC z_c1
        by_cases q1 : i < 75
        · rw [if_pos q1, if_pos q1, if_neg e1, if_neg e1]
        · rw [if_neg q1, if_neg q1]
noncomputable def z_ad8 (ad : Nat → Nat) (i q : Nat) : Nat → Nat := fun j => if i ≤ j ∧ j < i + 8 then q + (j - i) else ad j
noncomputable def z_I8 (I : z_I) (i : Nat) : z_I := fun a b => if i ≤ a ∧ a < i + 8 then 0 else I a b
noncomputable def z_P8 (P : z_P) (i : Nat) : z_P := fun a b => if a = i then none else P a b
theorem z_shC_0 {c : z_C} (h10 : c.1 < 10) {i : Nat} (h : z_i0 c ≤ i ∧ i < z_i0 c + 8) : shC c i = none := by
  unfold z_i0 at h
  unfold shC
  rw [if_neg (by omega), if_pos (by omega), if_neg (by omega)]
theorem z_re8 {G : z_G} {A : Nat → Prop} {c : z_C} {ad : Nat → Nat} {I : z_I} {J : z_J} {P : z_P} {H : Heap} {q : Nat} (h10 : c.1 < 10) (h : z_W G A (shC c, ad, I, J, P) H) : z_W G A (shC c, z_ad8 ad (z_i0 c) q, z_I8 I (z_i0 c), J, z_P8 P (z_i0 c)) H :=
  h.re fun i hi => by
    have hn : ¬ (z_i0 c ≤ i ∧ i < z_i0 c + 8) := fun e => hi (z_shC_0 h10 e)
    exact ⟨if_neg hn, fun k => ⟨if_neg hn, rfl, if_neg (fun e => hn (by omega))⟩⟩
theorem z_st1 {G : z_G} {A : Nat → Prop} {c : z_C} {ad : Nat → Nat} {I2 : z_I} {H : Heap} {q x : Nat} (h10 : c.1 < 10) (hx : x = c.1) (h : z_W G A (z_shr (z_sh (shC c) (z_i0 c) (.inr 10)) (z_i0 c) 30 7, z_ad8 ad (z_i0 c) q, I2, JX, z_up (z_ps z_f10 (z_P8 (PC c ad) (z_i0 c)) (z_i0 c) (z_ad8 ad (z_i0 c) q) 7) 39 x (some (z_ad8 ad (z_i0 c) q (z_i0 c)))) H) : z_W G A (shC (z_c1 c), z_ad8 ad (z_i0 c) q, I2, JX, PC (z_c1 c) (z_ad8 ad (z_i0 c) q)) H := by
  rw [z_shC_1 h10] at h
  refine h.re fun i hi => ⟨rfl, fun k => ⟨rfl, rfl, ?_⟩⟩
  exact z_PC_1 (ad := ad) h10 (fun j hj => if_neg (by unfold z_i0; omega)) hx rfl i hi k
theorem z_st2 {c : z_C} {I I2 : z_I} {y : Int32} (e : I2 = z_up (z_I8 I (z_i0 c)) 0 8 y) (h : z_iS c I) : z_iS (z_c1 c) I2 := fun k hk => by
  have hk : k < c.1 + 1 := hk
  rw [e, z_up_n (by omega)]
  unfold z_I8 z_i0
  by_cases q : k < c.1
  · rw [if_neg (by omega)]
    exact h k q
  · rw [if_pos (by omega)]
    decide
theorem zj_X10_init_X10 : ∀ w ∈ wsX100, w ∈ wsX10_init := fun w h => (List.mem_cons_of_mem _ (List.mem_append_right _ h))
set_option maxHeartbeats 8000000 in
set_option maxRecDepth 100000 in
theorem sx_X10_init (l : Launch) (G : z_G) (sh : Nat → Option z_S) (ad : Nat → Nat) (I : z_I) (J : z_J) (P : z_P) (i : Nat) (sz : Nat) (h0 : sh i = some (.inr 10)) (had : ∀ j, j < 7 → ad (i + 1 + j) = sz + j) (hI : ∀ j, j < 7 → ∀ k, I (i + 1 + j) k = 0) : z_Mc l yX10_init wsX10_init { frames := 1, cells := 7, slots := 210, locals := 12 } [.ref (ad i)] G (sh, ad, I, J, P) (z_shr sh i 30 7, ad, I, J, z_ps z_f10 P i ad 7) 7 7 210 sz := by
  refine z_headQ (cc := cX10_init) (maxL := 1) (ret := none) (by decide) rfl (Nat.le_of_ble_eq_true rfl) ?_
  intro p e s m below meth c ls hIn hK hsz hW hl
  obtain ⟨hx, hb, hr, hml, hown, hts, hlocks, hname⟩ := hIn
  subst hsz
  have hz : s.heap.size = s.heap.size + 0 := rfl
  have hown : s.vm.findClass RX10 = some m.cls := hown
  have hname : meth.name = "<init>" := hname
  have hA : ∀ q : Nat, s.heap.size ≤ q → z_A (sh, ad, I, J, P) s.heap.size q := fun q h => Or.inr h
  generalize hAe : z_A (sh, ad, I, J, P) s.heap.size = A at *
  have hS : va_S A s.heap s.heap [] := va_S.rf
  have hl : lv_has ls 1 [(0, .ref (ad i))] := hl
  refine lv_aload_n hx hb dX10_init_0 rfl (lv_at hl 0 rfl) ?_
  refine W.objInit hx hb hown (hts (.methodLink RX10 3 objectInit) (me_s (me_l (List.mem_of_getElem? (i := 0) rfl)))) (hts (.instanceMethod objectInit) (me_s (me_l (List.mem_of_getElem? (i := 1) rfl)))) (hts (.code objectInit ⟨#[0xb1]⟩ 1 none) (me_s (me_l (List.mem_of_getElem? (i := 2) rfl)))) rfl (by rw [hml]; exact hl.1) rfl dX10_init_1 (Nat.le_of_ble_eq_true rfl) (Nat.le_of_ble_eq_true rfl) ?_
  refine W.eq (g2 := F0 m 4 ls []) rfl ?_
  refine lv_aload_n hx hb dX10_init_4 rfl (lv_at hl 0 rfl) ?_
  refine lv_bipush (v := 30) hx hb dX10_init_5 (by decide) ?_
  refine z_newa (i + 1 + 0) ad (atype := .int) (ty := .int) (N' := 30) hx hb (hts (.arrayClass .int) (me_s (me_l (List.mem_of_getElem? (i := 3) rfl)))) rfl hK (by simp [z_tys]) hW hS hA ((had 0 (by decide)).trans hz.symm) (fun _ _ => rfl) (fun k => by show Value.int (I (i + 1 + 0) k) = _; rw [hI 0 (by decide) k]; rfl) (by decide) rfl (Nat.le_of_ble_eq_true rfl) (Nat.le_of_ble_eq_true rfl) (Nat.le_of_ble_eq_true rfl) dX10_init_7 (fun H hz1 hW hS => ?_)
  have hz : H.size = s.heap.size + 1 := hz1.trans (congrArg (· + 1) hz)
  have hW : z_W _ A (z_shr sh i 30 1, ad, I, J, z_ps z_f10 P i ad 0) H := hW
  refine z_putF (T := TX10) (N := 10) (ci := 10) (i := i) (v := .ref (ad (i + 1 + 0))) (I1 := I) (J1 := J) (P1 := z_up (z_ps z_f10 P i ad 0) i 0 (some (ad (i + 1 + 0)))) hx hb hts zj_X10_init_X10 tyX10 tyX10_ok nmX10 hown hK hW hS ((z_shr_o 1).trans h0) rfl 0 (by decide) (hts (.fieldLink RX10 9 "PetrolBoard$Station" "told" "[I") (me_s (me_l (List.mem_of_getElem? (i := 4) rfl)))) (fun _ h => h) rfl hname rfl rfl rfl (congrArg va_rf z_up_s) (fun a b h ty => z_vP h ty) dX10_init_9 (fun H locs hz1 hW hS => ?_)
  have hz : H.size = s.heap.size + 1 := hz1.trans hz
  have hW : z_W _ A (z_shr sh i 30 1, ad, I, J, z_ps z_f10 P i ad 1) H := hW
  refine lv_aload_n hx hb dX10_init_12 rfl (lv_at hl 0 rfl) ?_
  refine lv_bipush (v := 30) hx hb dX10_init_13 (by decide) ?_
  refine z_newa (i + 1 + 1) ad (atype := .int) (ty := .int) (N' := 30) hx hb (hts (.arrayClass .int) (me_s (me_l (List.mem_of_getElem? (i := 3) rfl)))) rfl hK (by simp [z_tys]) hW hS hA ((had 1 (by decide)).trans hz.symm) (fun _ _ => rfl) (fun k => by show Value.int (I (i + 1 + 1) k) = _; rw [hI 1 (by decide) k]; rfl) (by decide) rfl (Nat.le_of_ble_eq_true rfl) (Nat.le_of_ble_eq_true rfl) (Nat.le_of_ble_eq_true rfl) dX10_init_15 (fun H hz1 hW hS => ?_)
  have hz : H.size = s.heap.size + 2 := hz1.trans (congrArg (· + 1) hz)
  have hW : z_W _ A (z_shr sh i 30 2, ad, I, J, z_ps z_f10 P i ad 1) H := hW
  refine z_putF (T := TX10) (N := 10) (ci := 10) (i := i) (v := .ref (ad (i + 1 + 1))) (I1 := I) (J1 := J) (P1 := z_up (z_ps z_f10 P i ad 1) i 1 (some (ad (i + 1 + 1)))) hx hb hts zj_X10_init_X10 tyX10 tyX10_ok nmX10 hown hK hW hS ((z_shr_o 2).trans h0) rfl 1 (by decide) (hts (.fieldLink RX10 15 "PetrolBoard$Station" "dipDay" "[I") (me_s (me_l (List.mem_of_getElem? (i := 5) rfl)))) (fun _ h => h) rfl hname rfl rfl rfl (congrArg va_rf z_up_s) (fun a b h ty => z_vP h ty) dX10_init_17 (fun H locs hz1 hW hS => ?_)
  have hz : H.size = s.heap.size + 2 := hz1.trans hz
  have hW : z_W _ A (z_shr sh i 30 2, ad, I, J, z_ps z_f10 P i ad 2) H := hW
  refine lv_aload_n hx hb dX10_init_20 rfl (lv_at hl 0 rfl) ?_
  refine lv_bipush (v := 30) hx hb dX10_init_21 (by decide) ?_
  refine z_newa (i + 1 + 2) ad (atype := .int) (ty := .int) (N' := 30) hx hb (hts (.arrayClass .int) (me_s (me_l (List.mem_of_getElem? (i := 3) rfl)))) rfl hK (by simp [z_tys]) hW hS hA ((had 2 (by decide)).trans hz.symm) (fun _ _ => rfl) (fun k => by show Value.int (I (i + 1 + 2) k) = _; rw [hI 2 (by decide) k]; rfl) (by decide) rfl (Nat.le_of_ble_eq_true rfl) (Nat.le_of_ble_eq_true rfl) (Nat.le_of_ble_eq_true rfl) dX10_init_23 (fun H hz1 hW hS => ?_)
  have hz : H.size = s.heap.size + 3 := hz1.trans (congrArg (· + 1) hz)
  have hW : z_W _ A (z_shr sh i 30 3, ad, I, J, z_ps z_f10 P i ad 2) H := hW
  refine z_putF (T := TX10) (N := 10) (ci := 10) (i := i) (v := .ref (ad (i + 1 + 2))) (I1 := I) (J1 := J) (P1 := z_up (z_ps z_f10 P i ad 2) i 2 (some (ad (i + 1 + 2)))) hx hb hts zj_X10_init_X10 tyX10 tyX10_ok nmX10 hown hK hW hS ((z_shr_o 3).trans h0) rfl 2 (by decide) (hts (.fieldLink RX10 18 "PetrolBoard$Station" "deliveredThen" "[I") (me_s (me_l (List.mem_of_getElem? (i := 6) rfl)))) (fun _ h => h) rfl hname rfl rfl rfl (congrArg va_rf z_up_s) (fun a b h ty => z_vP h ty) dX10_init_25 (fun H locs hz1 hW hS => ?_)
  have hz : H.size = s.heap.size + 3 := hz1.trans hz
  have hW : z_W _ A (z_shr sh i 30 3, ad, I, J, z_ps z_f10 P i ad 3) H := hW
  refine lv_aload_n hx hb dX10_init_28 rfl (lv_at hl 0 rfl) ?_
  refine lv_bipush (v := 30) hx hb dX10_init_29 (by decide) ?_
  refine z_newa (i + 1 + 3) ad (atype := .int) (ty := .int) (N' := 30) hx hb (hts (.arrayClass .int) (me_s (me_l (List.mem_of_getElem? (i := 3) rfl)))) rfl hK (by simp [z_tys]) hW hS hA ((had 3 (by decide)).trans hz.symm) (fun _ _ => rfl) (fun k => by show Value.int (I (i + 1 + 3) k) = _; rw [hI 3 (by decide) k]; rfl) (by decide) rfl (Nat.le_of_ble_eq_true rfl) (Nat.le_of_ble_eq_true rfl) (Nat.le_of_ble_eq_true rfl) dX10_init_31 (fun H hz1 hW hS => ?_)
  have hz : H.size = s.heap.size + 4 := hz1.trans (congrArg (· + 1) hz)
  have hW : z_W _ A (z_shr sh i 30 4, ad, I, J, z_ps z_f10 P i ad 3) H := hW
  refine z_putF (T := TX10) (N := 10) (ci := 10) (i := i) (v := .ref (ad (i + 1 + 3))) (I1 := I) (J1 := J) (P1 := z_up (z_ps z_f10 P i ad 3) i 3 (some (ad (i + 1 + 3)))) hx hb hts zj_X10_init_X10 tyX10 tyX10_ok nmX10 hown hK hW hS ((z_shr_o 4).trans h0) rfl 3 (by decide) (hts (.fieldLink RX10 21 "PetrolBoard$Station" "pouredThen" "[I") (me_s (me_l (List.mem_of_getElem? (i := 7) rfl)))) (fun _ h => h) rfl hname rfl rfl rfl (congrArg va_rf z_up_s) (fun a b h ty => z_vP h ty) dX10_init_33 (fun H locs hz1 hW hS => ?_)
  have hz : H.size = s.heap.size + 4 := hz1.trans hz
  have hW : z_W _ A (z_shr sh i 30 4, ad, I, J, z_ps z_f10 P i ad 4) H := hW
  refine lv_aload_n hx hb dX10_init_36 rfl (lv_at hl 0 rfl) ?_
  refine lv_bipush (v := 30) hx hb dX10_init_37 (by decide) ?_
  refine z_newa (i + 1 + 4) ad (atype := .int) (ty := .int) (N' := 30) hx hb (hts (.arrayClass .int) (me_s (me_l (List.mem_of_getElem? (i := 3) rfl)))) rfl hK (by simp [z_tys]) hW hS hA ((had 4 (by decide)).trans hz.symm) (fun _ _ => rfl) (fun k => by show Value.int (I (i + 1 + 4) k) = _; rw [hI 4 (by decide) k]; rfl) (by decide) rfl (Nat.le_of_ble_eq_true rfl) (Nat.le_of_ble_eq_true rfl) (Nat.le_of_ble_eq_true rfl) dX10_init_39 (fun H hz1 hW hS => ?_)
  have hz : H.size = s.heap.size + 5 := hz1.trans (congrArg (· + 1) hz)
  have hW : z_W _ A (z_shr sh i 30 5, ad, I, J, z_ps z_f10 P i ad 4) H := hW
  refine z_putF (T := TX10) (N := 10) (ci := 10) (i := i) (v := .ref (ad (i + 1 + 4))) (I1 := I) (J1 := J) (P1 := z_up (z_ps z_f10 P i ad 4) i 7 (some (ad (i + 1 + 4)))) hx hb hts zj_X10_init_X10 tyX10 tyX10_ok nmX10 hown hK hW hS ((z_shr_o 5).trans h0) rfl 7 (by decide) (hts (.fieldLink RX10 24 "PetrolBoard$Station" "low" "[I") (me_s (me_l (List.mem_of_getElem? (i := 8) rfl)))) (fun _ h => h) rfl hname rfl rfl rfl (congrArg va_rf z_up_s) (fun a b h ty => z_vP h ty) dX10_init_41 (fun H locs hz1 hW hS => ?_)
  have hz : H.size = s.heap.size + 5 := hz1.trans hz
  have hW : z_W _ A (z_shr sh i 30 5, ad, I, J, z_ps z_f10 P i ad 5) H := hW
  refine lv_aload_n hx hb dX10_init_44 rfl (lv_at hl 0 rfl) ?_
  refine lv_bipush (v := 30) hx hb dX10_init_45 (by decide) ?_
  refine z_newa (i + 1 + 5) ad (atype := .int) (ty := .int) (N' := 30) hx hb (hts (.arrayClass .int) (me_s (me_l (List.mem_of_getElem? (i := 3) rfl)))) rfl hK (by simp [z_tys]) hW hS hA ((had 5 (by decide)).trans hz.symm) (fun _ _ => rfl) (fun k => by show Value.int (I (i + 1 + 5) k) = _; rw [hI 5 (by decide) k]; rfl) (by decide) rfl (Nat.le_of_ble_eq_true rfl) (Nat.le_of_ble_eq_true rfl) (Nat.le_of_ble_eq_true rfl) dX10_init_47 (fun H hz1 hW hS => ?_)
  have hz : H.size = s.heap.size + 6 := hz1.trans (congrArg (· + 1) hz)
  have hW : z_W _ A (z_shr sh i 30 6, ad, I, J, z_ps z_f10 P i ad 5) H := hW
  refine z_putF (T := TX10) (N := 10) (ci := 10) (i := i) (v := .ref (ad (i + 1 + 5))) (I1 := I) (J1 := J) (P1 := z_up (z_ps z_f10 P i ad 5) i 8 (some (ad (i + 1 + 5)))) hx hb hts zj_X10_init_X10 tyX10 tyX10_ok nmX10 hown hK hW hS ((z_shr_o 6).trans h0) rfl 8 (by decide) (hts (.fieldLink RX10 27 "PetrolBoard$Station" "high" "[I") (me_s (me_l (List.mem_of_getElem? (i := 9) rfl)))) (fun _ h => h) rfl hname rfl rfl rfl (congrArg va_rf z_up_s) (fun a b h ty => z_vP h ty) dX10_init_49 (fun H locs hz1 hW hS => ?_)
  have hz : H.size = s.heap.size + 6 := hz1.trans hz
  have hW : z_W _ A (z_shr sh i 30 6, ad, I, J, z_ps z_f10 P i ad 6) H := hW
  refine lv_aload_n hx hb dX10_init_52 rfl (lv_at hl 0 rfl) ?_
  refine lv_bipush (v := 30) hx hb dX10_init_53 (by decide) ?_
  refine z_newa (i + 1 + 6) ad (atype := .int) (ty := .int) (N' := 30) hx hb (hts (.arrayClass .int) (me_s (me_l (List.mem_of_getElem? (i := 3) rfl)))) rfl hK (by simp [z_tys]) hW hS hA ((had 6 (by decide)).trans hz.symm) (fun _ _ => rfl) (fun k => by show Value.int (I (i + 1 + 6) k) = _; rw [hI 6 (by decide) k]; rfl) (by decide) rfl (Nat.le_of_ble_eq_true rfl) (Nat.le_of_ble_eq_true rfl) (Nat.le_of_ble_eq_true rfl) dX10_init_55 (fun H hz1 hW hS => ?_)
  have hz : H.size = s.heap.size + 7 := hz1.trans (congrArg (· + 1) hz)
  have hW : z_W _ A (z_shr sh i 30 7, ad, I, J, z_ps z_f10 P i ad 6) H := hW
  refine z_putF (T := TX10) (N := 10) (ci := 10) (i := i) (v := .ref (ad (i + 1 + 6))) (I1 := I) (J1 := J) (P1 := z_up (z_ps z_f10 P i ad 6) i 9 (some (ad (i + 1 + 6)))) hx hb hts zj_X10_init_X10 tyX10 tyX10_ok nmX10 hown hK hW hS ((z_shr_o 7).trans h0) rfl 9 (by decide) (hts (.fieldLink RX10 30 "PetrolBoard$Station" "in" "[I") (me_s (me_l (List.mem_of_getElem? (i := 10) rfl)))) (fun _ h => h) rfl hname rfl rfl rfl (congrArg va_rf z_up_s) (fun a b h ty => z_vP h ty) dX10_init_57 (fun H locs hz1 hW hS => ?_)
  have hz : H.size = s.heap.size + 7 := hz1.trans hz
  have hW : z_W _ A (z_shr sh i 30 7, ad, I, J, z_ps z_f10 P i ad 7) H := hW
  exact z_cret hx hb hr hK hS (Nat.le_of_ble_eq_true rfl) (Nat.le_of_ble_eq_true rfl) hlocks dX10_init_60 hz hW
theorem zj_X11_station_X10 : ∀ w ∈ wsX100, w ∈ wsX11_station := fun w h => (List.mem_cons_of_mem _ (List.mem_append_right _ h))
theorem zj_X11_station_X11 : ∀ w ∈ wsX110, w ∈ wsX11_station := fun w h => (List.mem_cons_of_mem _ (List.mem_append_left _ (List.mem_append_right _ h)))
set_option maxHeartbeats 8000000 in
set_option maxRecDepth 100000 in
theorem sx_X11_station (l : Launch) (G : z_G) (ad : Nat → Nat) (c : z_C) (I : z_I) (h10 : c.1 ≤ 10) (hsn : (I 0 8).toInt = (c.1 : Int)) : z_M l yX11_station wsX11_station { frames := 2, cells := 8, slots := 220, locals := 40 } [.ref (ad 0)] G (shC c, ad, I, JX, PC c ad) (fun r u1 => ∃ (c1 : z_C) (ad1 : Nat → Nat) (I1 : z_I), u1 = (shC c1, ad1, I1, JX, PC c1 ad1) ∧ c1.2 = c.2 ∧ c1.1 ≤ 10 ∧ (I1 0 8).toInt = (c1.1 : Int) ∧ (∀ j, j < 75 → ad1 j = ad j) ∧ (∀ a k, a < 75 → ¬ (a = 0 ∧ k = 8) → I1 a k = I a k) ∧ (z_iS c I → z_iS c1 I1)) 8 220 := by
  intro sz
  refine z_headQ (cc := cX11_station) (maxL := 1) (ret := (some .int)) (by decide) rfl (Nat.le_of_ble_eq_true rfl) ?_
  intro p e s m below meth c0 ls hIn hK hsz hW hl
  obtain ⟨hx, hb, hr, hml, hown, hts, hlocks, hname⟩ := hIn
  subst hsz
  have hown : s.vm.findClass RX11 = some m.cls := hown
  have hA : ∀ q : Nat, s.heap.size ≤ q → z_A (shC c, ad, I, JX, PC c ad) s.heap.size q := fun q h => Or.inr h
  generalize hAe : z_A (shC c, ad, I, JX, PC c ad) s.heap.size = A at *
  have hS : va_S A s.heap s.heap [] := va_S.rf
  have hl : lv_has ls 1 [(0, .ref (ad 0))] := hl
  refine lv_aload_n hx hb dX11_station_0 rfl (lv_at hl 0 rfl) ?_
  refine z_get (T := TX11) (N := 13) (ci := 11) (i := 0) (v := .int (I 0 8)) hx hb hts zj_X11_station_X11 hown hK hW rfl rfl 8 (by decide) (hts (.fieldLink RX11 178 "PetrolBoard" "stationNumber" "I") (me_s (me_l (me_l (List.mem_of_getElem? (i := 0) rfl))))) (fun _ h => h) rfl dX11_station_1 ?_
  refine lv_aload_n hx hb dX11_station_4 rfl (lv_at hl 0 rfl) ?_
  refine z_get (T := TX11) (N := 13) (ci := 11) (i := 0) (v := .ref (ad 39)) hx hb hts zj_X11_station_X11 hown hK hW rfl rfl 7 (by decide) (hts (.fieldLink RX11 50 "PetrolBoard" "stations" "[LPetrolBoard$Station;") (me_s (me_l (me_l (List.mem_of_getElem? (i := 1) rfl))))) (fun _ h => h) rfl dX11_station_5 ?_
  refine z_alen (i := 39) (v := 10) hx hb hK hW rfl (by simp [z_tys]) (by rfl) dX11_station_8 ?_
  refine lv_icmp_lt (tgt := 14) hx hb dX11_station_9 (by decide) (fun c1 => ?_) (fun c1 => ?_)
  · have g1 := z_f_lt rfl (show (10 : Int32).toInt = 10 by decide) c1
    have h9 : c.1 < 10 := by omega
    refine lv_aload_n hx hb dX11_station_14 rfl (lv_at hl 0 rfl) ?_
    refine z_get (T := TX11) (N := 13) (ci := 11) (i := 0) (v := .ref (ad 39)) hx hb hts zj_X11_station_X11 hown hK hW rfl rfl 7 (by decide) (hts (.fieldLink RX11 50 "PetrolBoard" "stations" "[LPetrolBoard$Station;") (me_s (me_l (me_l (List.mem_of_getElem? (i := 1) rfl))))) (fun _ h => h) rfl dX11_station_15 ?_
    refine lv_aload_n hx hb dX11_station_18 rfl (lv_at hl 0 rfl) ?_
    refine z_get (T := TX11) (N := 13) (ci := 11) (i := 0) (v := .int (I 0 8)) hx hb hts zj_X11_station_X11 hown hK hW rfl rfl 8 (by decide) (hts (.fieldLink RX11 178 "PetrolBoard" "stationNumber" "I") (me_s (me_l (me_l (List.mem_of_getElem? (i := 0) rfl))))) (fun _ h => h) rfl dX11_station_19 ?_
    obtain ⟨ad1, ead⟩ : ∃ f, f = z_ad8 ad (z_i0 c) s.heap.size := ⟨_, rfl⟩
    obtain ⟨P1, eP1⟩ : ∃ f, f = z_P8 (PC c ad) (z_i0 c) := ⟨_, rfl⟩
    have hlo : ∀ j, j < 75 → ad1 j = ad j := fun j hj => by rw [ead]; exact if_neg (by unfold z_i0; omega)
    have hnew : ∀ j, j < 8 → ad1 (z_i0 c + j) = s.heap.size + j := fun j hj => by rw [ead]; show (if _ then _ else _) = _; rw [if_pos (by omega)]; omega
    have hW := z_re8 (q := s.heap.size) h9 hW
    rw [← ead, ← eP1] at hW
    have hl : lv_has ls 1 [(0, .ref (ad1 0))] := by rw [hlo 0 (by decide)]; exact hl
    refine W.eq (g2 := F0 m 22 ls [.int (I 0 8), .ref (ad1 39)]) (by rw [hlo 39 (by decide)]) ?_
    refine z_new (z_i0 c) ad1 (T := TX10) (N := 10) (ci := 10) hx hb hts zj_X11_station_X10 tyX10 tyX10_ok hown (hts (.classLink RX11 48 RX10) (me_s (me_l (me_l (List.mem_of_getElem? (i := 2) rfl))))) (hts (.instantiable RX10 10) (me_s (me_l (me_l (List.mem_of_getElem? (i := 3) rfl))))) (hts (.initialized RX10) (me_s (me_l (me_l (List.mem_of_getElem? (i := 4) rfl))))) hK hW hS hA (hnew 0 (by decide)) (fun _ _ => rfl) rfl (fun k hk => (z_v0 (if_pos (by omega)) rfl (by rw [eP1]; exact if_pos rfl) (ndX10 k hk)).symm) (Nat.le_of_ble_eq_true rfl) (Nat.le_of_ble_eq_true rfl) dX11_station_22 (fun H hz1 hW hS => ?_)
    refine lv_dup hx hb dX11_station_25 rfl ?_
    refine z_cc hW hS hA (va_runIN (As := []) (rest := [.ref (ad1 (z_i0 c)), .int (I 0 8), .ref (ad1 39)]) ⟨hx, hb, hml, hown, hts⟩ (sx_X10_init l G (z_sh (shC c) (z_i0 c) (.inr 10)) ad1 (z_I8 I (z_i0 c)) JX P1 (z_i0 c) _ (by simp [z_sh]) (fun j hj => by rw [hz1, Nat.add_assoc, hnew (1 + j) (by omega)]; omega) (fun j hj k => if_pos (by omega))) ⟨va_cnB 0 hts gX11_station_X10_init_n181 rfl rfl rfl (hK.2.2.1 _ (List.mem_of_getElem? (i := 11) rfl)) (hts (.initialized RX10) (me_s (me_l (me_l (List.mem_of_getElem? (i := 4) rfl))))) (by decide +kernel) ⟨(Nat.le_of_ble_eq_true rfl), (Nat.le_of_ble_eq_true rfl)⟩, rfl, (hts (.instanceMethod yX10_init) (me_s (me_l (me_l (List.mem_of_getElem? (i := 5) rfl)))))⟩ (z_preS hK hW) rfl rfl hl.1 rfl (lv_room (Nat.le_of_ble_eq_true rfl)) dX11_station_26 ⟨(Nat.le_of_ble_eq_true rfl), (Nat.le_of_ble_eq_true rfl)⟩) (fun H locs hz1 hW hS => ?_)
    have hsh39 : z_shr (z_sh (shC c) (z_i0 c) (.inr 10)) (z_i0 c) 30 7 39 = some (.inl (.object RX10, 10)) := by rw [z_shC_1 h9]; rfl
    have hsh0 : z_shr (z_sh (shC c) (z_i0 c) (.inr 10)) (z_i0 c) 30 7 0 = some (.inr 11) := by rw [z_shC_1 h9]; rfl
    have hshi : z_shr (z_sh (shC c) (z_i0 c) (.inr 10)) (z_i0 c) 30 7 (z_i0 c) = some (.inr 10) := (z_shr_o 7).trans (by simp [z_sh])
    refine z_aast (i := 39) (j := z_i0 c) (x := I 0 8) (ci := 10) hx hb hK hW hS hsh39 (by simp [z_tys]) hshi rfl (z_ix rfl (by omega) (by omega)) dX11_station_29 (fun H locs hz1 hW hS => ?_)
    have hI8 : z_I8 I (z_i0 c) 0 8 = I 0 8 := if_neg (by unfold z_i0; omega)
    have hx9 : (I 0 8).toNatClampNeg = c.1 := by have := z_clt (x := I 0 8) hsn (by omega); omega
    obtain ⟨P2, eP2⟩ : ∃ f, f = z_up (z_ps z_f10 P1 (z_i0 c) ad1 7) 39 (I 0 8).toNatClampNeg (some (ad1 (z_i0 c))) := ⟨_, rfl⟩
    rw [← eP2] at hW
    refine lv_aload_n hx hb dX11_station_30 rfl (lv_at hl 0 rfl) ?_
    refine lv_dup hx hb dX11_station_31 rfl ?_
    refine z_get (T := TX11) (N := 13) (ci := 11) (i := 0) (v := .int (I 0 8)) hx hb hts zj_X11_station_X11 hown hK hW hsh0 rfl 8 (by decide) (hts (.fieldLink RX11 178 "PetrolBoard" "stationNumber" "I") (me_s (me_l (me_l (List.mem_of_getElem? (i := 0) rfl))))) (fun _ h => h) (congrArg Value.int hI8) dX11_station_32 ?_
    refine lv_iconst (v := 1) hx hb dX11_station_35 (by decide) ?_
    refine lv_iadd hx hb dX11_station_36 ?_
    refine lv_topi (fun y ey => ?_)
    have ty : y.toInt = (c.1 : Int) + 1 := z_tadd ey hsn (show (1 : Int32).toInt = 1 by decide) (by omega) (by omega)
    refine z_put (T := TX11) (N := 13) (ci := 11) (i := 0) (v := .int y) (I1 := z_up (z_I8 I (z_i0 c)) 0 8 y) (J1 := JX) (P1 := P2) hx hb hts zj_X11_station_X11 tyX11 tyX11_ok nmX11 hown hK hW hS hsh0 rfl 8 (by decide) (hts (.fieldLink RX11 178 "PetrolBoard" "stationNumber" "I") (me_s (me_l (me_l (List.mem_of_getElem? (i := 0) rfl))))) (fun _ h => h) rfl rfl rfl (by first | rfl | exact congrArg _ z_up_s) (fun a b h ty => z_vI h ty) dX11_station_37 (fun H locs hz1 hW hS => ?_)
    obtain ⟨I2, eI2⟩ : ∃ f, f = z_up (z_I8 I (z_i0 c)) 0 8 y := ⟨_, rfl⟩
    rw [← eI2] at hW
    refine lv_aload_n hx hb dX11_station_40 rfl (lv_at hl 0 rfl) ?_
    refine z_get (T := TX11) (N := 13) (ci := 11) (i := 0) (v := .int y) hx hb hts zj_X11_station_X11 hown hK hW hsh0 rfl 8 (by decide) (hts (.fieldLink RX11 178 "PetrolBoard" "stationNumber" "I") (me_s (me_l (me_l (List.mem_of_getElem? (i := 0) rfl))))) (fun _ h => h) (congrArg Value.int (by rw [eI2, z_up_s])) dX11_station_41 ?_
    refine lv_iconst (v := 1) hx hb dX11_station_44 (by decide) ?_
    refine lv_isub hx hb dX11_station_45 ?_
    rw [eP2, eP1, ead] at hW
    have hW := z_st1 h9 hx9 hW
    rw [← ead] at hW
    exact z_iret hx hb hr hK hS (Nat.le_of_ble_eq_true rfl) (Nat.le_of_ble_eq_true rfl) hlocks dX11_station_46 (shC (z_c1 c), ad1, I2, JX, PC (z_c1 c) ad1) hW ⟨z_c1 c, ad1, I2, rfl, rfl, (by show c.1 + 1 ≤ 10; omega), (by rw [eI2, z_up_s, ty]; rfl), hlo, (fun a k ha hk => by rw [eI2]; by_cases q : a = 0; (· (rw [z_up_k (fun e => hk ⟨q, e⟩)]; exact if_neg (by unfold z_i0; omega))); (· (rw [z_up_n q]; exact if_neg (by unfold z_i0; omega)))), z_st2 eI2⟩
  · refine lv_iconst (v := (-1)) hx hb dX11_station_12 (by decide) ?_
    exact z_iret hx hb hr hK hS (Nat.le_of_ble_eq_true rfl) (Nat.le_of_ble_eq_true rfl) hlocks dX11_station_13 (shC c, ad, I, JX, PC c ad) hW ⟨c, ad, I, rfl, rfl, h10, hsn, fun _ _ => rfl, fun _ _ _ _ => rfl, fun h => h⟩
