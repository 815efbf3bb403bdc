theorem z_arr0 {args : Array Value} {s : State} {ty : FieldType} (h : (Cond.arrayClass ty).before args s = true) (hno : ∀ C, ty ≠ .object C) : ∃ c : ClassId, ArrOfT s c ty ∧ va_RA s c ty := by
  obtain ⟨c, k, comp, h1, h2, h3⟩ := Cond.arrayClass_spec h
  refine ⟨c, fun n z => ⟨fun k h => (by cases h), k, h2, comp, h3⟩, ?_⟩
  cases ty <;> first | exact h1 | exact absurd rfl (hno _)
theorem z_arrO {args : Array Value} {s : State} {C : String} (h : (Cond.arrayOver (.object C)).before args s = true) : ∃ c : ClassId, ArrOfT s c (.object C) ∧ va_RA s c (.object C) := by
  obtain ⟨comp, c, k, h1, -, h3, h4, h5⟩ := Cond.arrayOver_spec h
  exact ⟨c, fun n z => ⟨fun k h => (by cases h), k, h3, comp, h4⟩, k, comp, h3, h4, h1, h5⟩
theorem z_arrA {args : Array Value} {s : State} (h : (Cond.arrayOver (.array .int)).before args s = true) : ∃ c : ClassId, ArrOfT s c (.array .int) ∧ va_RA s c (.array .int) := by
  unfold Cond.before at h
  simp only [Cond.holds, Cond.value, beq_iff_eq] at h
  cases hc : s.vm.findClass (FieldType.array .int).toString with
  | none => simp [hc] at h
  | some comp =>
    simp only [hc, Option.bind_some, Option.bind_eq_some_iff, Option.map_eq_some_iff] at h
    obtain ⟨c, hi, k, hk, hb⟩ := h
    cases hkind : k.kind with
    | array component ty =>
      rw [hkind] at hb
      simp only [Bool.and_eq_true, decide_eq_true_eq] at hb
      obtain ⟨rfl, hb2⟩ := hb
      exact ⟨c, fun n z => ⟨fun k h => (by cases h), k, hk, component, hkind⟩, hb2⟩
    | _ => rw [hkind] at hb; simp at hb
set_option maxRecDepth 100000 in
theorem z_K0 {args : Array Value} {s : State} (hts : ∀ w ∈ wsL_law, w.before args s = true) (hts0 : ∀ w ∈ lw_tbl, w.before args s = true) : ∃ G : z_G, z_K G s := by
  obtain ⟨c0, i0, k0⟩ := u_known (C := RX0) (T := TX0) (N := 5) (n := 5) hts inlX0 (hts0 (.instantiable RX0 5) (tn_1 (List.mem_of_getElem? (i := 173) rfl)))
  obtain ⟨c1, i1, k1⟩ := u_known (C := RX1) (T := TX1) (N := 3) (n := 3) hts inlX1 (hts0 (.instantiable RX1 3) (tn_2 (List.mem_of_getElem? (i := 129) rfl)))
  obtain ⟨c2, i2, k2⟩ := u_known (C := RX2) (T := TX2) (N := 12) (n := 12) hts inlX2 (hts0 (.instantiable RX2 12) (tn_1 (List.mem_of_getElem? (i := 31) rfl)))
  obtain ⟨c3, i3, k3⟩ := u_known (C := RX3) (T := TX3) (N := 17) (n := 17) hts inlX3 (hts0 (.instantiable RX3 17) (tn_2 (List.mem_of_getElem? (i := 56) rfl)))
  obtain ⟨c4, i4, k4⟩ := u_known (C := RX4) (T := TX4) (N := 13) (n := 13) hts inlX4 (hts0 (.instantiable RX4 13) (tn_2 (List.mem_of_getElem? (i := 5) rfl)))
  obtain ⟨c5, i5, k5⟩ := u_known (C := RX5) (T := TX5) (N := 2) (n := 2) hts inlX5 (hts0 (.instantiable RX5 2) (tn_1 (List.mem_of_getElem? (i := 148) rfl)))
  obtain ⟨c6, i6, k6⟩ := u_known (C := RX6) (T := TX6) (N := 3) (n := 3) hts inlX6 (hts0 (.instantiable RX6 3) (tn_1 (List.mem_of_getElem? (i := 140) rfl)))
  obtain ⟨c7, i7, k7⟩ := u_known (C := RX7) (T := TX7) (N := 6) (n := 6) hts inlX7 (hts0 (.instantiable RX7 6) (tn_3 (List.mem_of_getElem? (i := 189) rfl)))
  obtain ⟨c8, i8, k8⟩ := u_known (C := RX8) (T := TX8) (N := 9) (n := 9) hts inlX8 (hts0 (.instantiable RX8 9) (tn_1 (List.mem_of_getElem? (i := 200) rfl)))
  obtain ⟨c9, i9, k9⟩ := u_known (C := RX9) (T := TX9) (N := 14) (n := 14) hts inlX9 (hts0 (.instantiable RX9 14) (tn_1 (List.mem_of_getElem? (i := 84) rfl)))
  obtain ⟨c10, i10, k10⟩ := u_known (C := RX10) (T := TX10) (N := 10) (n := 10) hts inlX10 (hts0 (.instantiable RX10 10) (tn_4 (List.mem_of_getElem? (i := 138) rfl)))
  obtain ⟨c11, i11, k11⟩ := u_known (C := RX11) (T := TX11) (N := 13) (n := 13) hts inlX11 (hts0 (.instantiable RX11 13) (tn_1 (List.mem_of_getElem? (i := 23) rfl)))
  obtain ⟨c12, i12, k12⟩ := u_known (C := RX12) (T := TX12) (N := 96) (n := 96) hts inlX12 (hts0 (.instantiable RX12 96) (tn_6 (List.mem_of_getElem? (i := 48) rfl)))
  have hex : ∀ ty ∈ z_tys, ∃ c : ClassId, ArrOfT s c ty ∧ va_RA s c ty := by
    intro ty ht
    simp only [z_tys, List.mem_cons, List.not_mem_nil, or_false] at ht
    rcases ht with rfl | rfl | rfl | rfl | rfl | rfl | rfl
    · exact z_arr0 (hts0 (.arrayClass .int) (tn_1 (List.mem_of_getElem? (i := 82) rfl))) (fun C h => by cases h)
    · exact z_arr0 (hts0 (.arrayClass .byte) (tn_3 (List.mem_of_getElem? (i := 230) rfl))) (fun C h => by cases h)
    · exact z_arr0 (hts0 (.arrayClass .boolean) (tn_7 (List.mem_of_getElem? (i := 105) rfl))) (fun C h => by cases h)
    · exact z_arr0 (hts0 (.arrayClass .long) (tn_7 (List.mem_of_getElem? (i := 104) rfl))) (fun C h => by cases h)
    · exact z_arrO (hts0 (.arrayOver (.object RX7)) (tn_1 (List.mem_of_getElem? (i := 146) rfl)))
    · exact z_arrO (hts0 (.arrayOver (.object RX10)) (tn_2 (List.mem_of_getElem? (i := 3) rfl)))
    · exact z_arrA (hts0 (.arrayOver (.array .int)) (tn_2 (List.mem_of_getElem? (i := 11) rfl)))
  refine ⟨((fun k => match k with
    | 0 => c0
    | 1 => c1
    | 2 => c2
    | 3 => c3
    | 4 => c4
    | 5 => c5
    | 6 => c6
    | 7 => c7
    | 8 => c8
    | 9 => c9
    | 10 => c10
    | 11 => c11
    | _ => c12, fun k => match k with
    | 0 => i0
    | 1 => i1
    | 2 => i2
    | 3 => i3
    | 4 => i4
    | 5 => i5
    | 6 => i6
    | 7 => i7
    | 8 => i8
    | 9 => i9
    | 10 => i10
    | 11 => i11
    | _ => i12), fun ty => Classical.epsilon (fun c : ClassId => ArrOfT s c ty ∧ va_RA s c ty)), ?_, fun ty ht => Classical.epsilon_spec (hex ty ht), ?_, ?_, ?_⟩
  · intro c q hq
    match c, hq with
    | 0, hq => cases hq; exact k0
    | 1, hq => cases hq; exact k1
    | 2, hq => cases hq; exact k2
    | 3, hq => cases hq; exact k3
    | 4, hq => cases hq; exact k4
    | 5, hq => cases hq; exact k5
    | 6, hq => cases hq; exact k6
    | 7, hq => cases hq; exact k7
    | 8, hq => cases hq; exact k8
    | 9, hq => cases hq; exact k9
    | 10, hq => cases hq; exact k10
    | 11, hq => cases hq; exact k11
    | 12, hq => cases hq; exact k12
    | n + 13, hq => simp [vwCl] at hq
  · intro q hq
    simp only [z_nest, List.mem_cons, List.not_mem_nil, or_false] at hq
    rcases hq with rfl | rfl | rfl | rfl | rfl | rfl | rfl | rfl | rfl | rfl | rfl | rfl
    · exact va_Nw.of rfl (hts0 (.methodLinkNest RX11 15 yX2_init RX11) (tn_1 (List.mem_of_getElem? (i := 32) rfl)))
    · exact va_Nw.of rfl (hts0 (.methodLinkNest RX11 22 yX9_init RX11) (tn_1 (List.mem_of_getElem? (i := 85) rfl)))
    · exact va_Nw.of rfl (hts0 (.methodLinkNest RX11 29 yX6_init RX11) (tn_1 (List.mem_of_getElem? (i := 141) rfl)))
    · exact va_Nw.of rfl (hts0 (.methodLinkNest RX6 19 yX5_init RX11) (tn_1 (List.mem_of_getElem? (i := 149) rfl)))
    · exact va_Nw.of rfl (hts0 (.methodLinkNest RX11 43 yX8_init RX11) (tn_1 (List.mem_of_getElem? (i := 201) rfl)))
    · exact va_Nw.of rfl (hts0 (.methodLinkNest RX11 60 yX4_init RX11) (tn_2 (List.mem_of_getElem? (i := 6) rfl)))
    · exact va_Nw.of rfl (hts0 (.methodLinkNest RX11 67 yX3_init RX11) (tn_2 (List.mem_of_getElem? (i := 57) rfl)))
    · exact va_Nw.of rfl (hts0 (.methodLinkNest RX11 74 yX1_init RX11) (tn_2 (List.mem_of_getElem? (i := 130) rfl)))
    · exact va_Nw.of rfl (hts0 (.methodLinkNest RX7 23 yX11_within RX11) (tn_3 (List.mem_of_getElem? (i := 194) rfl)))
    · exact va_Nw.of rfl (hts0 (.methodLinkNest RX6 42 yX11_usual RX11) (tn_4 (List.mem_of_getElem? (i := 16) rfl)))
    · exact va_Nw.of rfl (hts0 (.methodLinkNest RX7 53 yX11_usual RX11) (tn_4 (List.mem_of_getElem? (i := 25) rfl)))
    · exact va_Nw.of rfl (hts0 (.methodLinkNest RX11 181 yX10_init RX11) (tn_4 (List.mem_of_getElem? (i := 139) rfl)))
  · intro C hC
    simp only [z_over, List.mem_cons, List.not_mem_nil, or_false] at hC
    rcases hC with rfl | rfl
    · exact va_AO.of (hts0 (.arrayOver (.object RX7)) (tn_1 (List.mem_of_getElem? (i := 146) rfl)))
    · exact va_AO.of (hts0 (.arrayOver (.object RX10)) (tn_2 (List.mem_of_getElem? (i := 3) rfl)))
  · exact hts0 (.arrayOver (.array .int)) (tn_2 (List.mem_of_getElem? (i := 11) rfl))
/-! two worlds beside each other -/
theorem z_c.toA {G : z_G} {u u1 : z_U} {i n : Nat} {ty : FieldType} {H : Heap} (h : z_c G u i (.inl (ty, n)) H) (ha : u1.2.1 i = u.2.1 i) (hv : ∀ k, k < n → z_v u1.2.2.1 u1.2.2.2.1 u1.2.2.2.2 ty i k = z_v u.2.2.1 u.2.2.2.1 u.2.2.2.2 ty i k) : z_c G u1 i (.inl (ty, n)) H := by
  show H[u1.2.1 i]? = some (arrV (G.2 ty) n _)
  rw [ha]
  have h' : H[u.2.1 i]? = some (arrV (G.2 ty) n (fun j => z_v u.2.2.1 u.2.2.2.1 u.2.2.2.2 ty i j)) := h
  rw [h']
  have h2 : (Array.ofFn (n := n) fun b => z_v u.2.2.1 u.2.2.2.1 u.2.2.2.2 ty i b.val) = (Array.ofFn (n := n) fun b => z_v u1.2.2.1 u1.2.2.2.1 u1.2.2.2.2 ty i b.val) := by
    congr 1
    funext b
    exact (hv b.val b.isLt).symm
  show some ({ cls := G.2 ty, slots := Array.ofFn (n := n) fun b => z_v u.2.2.1 u.2.2.2.1 u.2.2.2.2 ty i b.val, vm := .none } : Cell) = some ({ cls := G.2 ty, slots := Array.ofFn (n := n) fun b => z_v u1.2.2.1 u1.2.2.2.1 u1.2.2.2.2 ty i b.val, vm := .none } : Cell)
  rw [h2]
theorem z_c.toO {G : z_G} {u u1 : z_U} {i j ci : Nat} {C : String} {T : u_T} {N : Nat} {H : Heap} (h : z_c G u i (.inr ci) H) (hc : vwCl[ci]? = some (C, T, N)) (ha : u1.2.1 j = u.2.1 i) (hv : ∀ k, k < N → z_v u1.2.2.1 u1.2.2.2.1 u1.2.2.2.2 (z_tf ci k) j k = z_v u.2.2.1 u.2.2.2.1 u.2.2.2.2 (z_tf ci k) i k) : z_c G u1 j (.inr ci) H := by
  obtain ⟨r, h1, h2⟩ := h
  have hr : r = (C, T, N) := Option.some.inj (h1.symm.trans hc)
  subst hr
  refine ⟨_, hc, ?_⟩
  rw [ha]
  exact h2.to (fun k hk => (hv k hk).symm)
theorem z_W.keep {G : z_G} {A : Nat → Prop} {u u2 : z_U} {H H1 : Heap} (h : z_W G A u2 H) (hap : ∀ i j, u.1 i ≠ none → u2.1 j ≠ none → u.2.1 i ≠ u2.2.1 j) (hq : ∀ q : Nat, q < H.size → ¬ z_A u H.size q → H1[q]? = H[q]?) : z_W G A u2 H1 := by
  refine ⟨fun i x hi => (h.1 i x hi).kept rfl (hq _ (h.lt (z_ne hi)) ?_) (fun _ _ => rfl), h.2.1, h.2.2⟩
  rintro (⟨j, hj, e⟩ | hz)
  · exact hap j i hj (z_ne hi) e.symm
  · have := h.lt (z_ne hi)
    omega
section ZF
variable {p : Program} {l : Launch} {e : Env} {R : Room} {s : State} {m : MethodId} {args : Array Value} {below : List Frame} {meth : Method} {c : Code} {H : Heap} {locs : List Loc} {cells slots : Nat} {Q : State → Prop}
variable {cc : ByteArray} {pc : Nat} {ls : Array Slot} {rest st0 : List Value} {a : Array Value} {G : z_G} {A : Nat → Prop} {H0 : Heap} {u u2 : z_U} {mc ms : Nat}
theorem z_ccF {u1 : z_U} {n : Nat} (hW : z_W G A u H) (hW2 : z_W G A u2 H) (hap : ∀ i j, u.1 i ≠ none → u2.1 j ≠ none → u.2.1 i ≠ u2.2.1 j) (hS : va_S A H0 H locs) (hA : ∀ q : Nat, H0.size ≤ q → A q) (hr : va_Run p l e R s m args below meth c H locs cells slots mc ms (F0 m pc ls st0) rest (va_Qv (fun v2 : z_U => v2 = u1) (fun v2 t => z_B G (z_A u H.size) v2 t ∧ t.heap.size = H.size + n) (z_A u H.size) a) (z_A u H.size))
    (kk : ∀ (H1 : Heap) (locs1 : List Loc), H1.size = H.size + n → z_W G A u1 H1 → z_W G A u2 H1 → va_S A H0 H1 locs1 → W p l e R s m args below meth c H1 locs1 (cells + mc) (slots + ms) Q (F0 m (pc + 3) ls rest)) : W p l e R s m args below meth c H locs cells slots Q (F0 m pc ls st0) :=
  va_callv hr hS (fun q _ h => hW.free hS hA q h) (hW.free hS hA) (fun v2 t H1 locs1 ht hvm hw hB hz1 hk1 hS1 => kk H1 locs1 (by rw [← ht]; exact hB.2) (by rw [← ht, ← hw]; exact hB.1.2.weaken (hW.free hS hA)) (hW2.keep hap hk1) hS1)
end ZF
theorem z_disj {G : z_G} {A : Nat → Prop} {u u1 u2 : z_U} {H H1 : Heap} (h1 : z_W G (z_A u H.size) u1 H1) (h2 : z_W G A u2 H) (hap : ∀ i j, u.1 i ≠ none → u2.1 j ≠ none → u.2.1 i ≠ u2.2.1 j) : ∀ i j, u1.1 i ≠ none → u2.1 j ≠ none → u1.2.1 i ≠ u2.2.1 j := by
  intro i j hi hj e
  rcases h1.2.2 i hi with ⟨k, hk, e2⟩ | hz
  · exact hap k j hk hj (e2.symm.trans e)
  · have h3 : H.size ≤ u1.2.1 i := hz
    have h4 : u2.2.1 j < H.size := h2.lt hj
    omega
section ZD
variable {p : Program} {l : Launch} {e : Env} {R : Room} {s : State} {m : MethodId} {args : Array Value} {below : List Frame} {meth : Method} {c : Code} {H : Heap} {locs : List Loc} {cells slots : Nat} {Q : State → Prop}
variable {cc : ByteArray} {pc : Nat} {ls : Array Slot} {rest st0 : List Value} {a : Array Value} {G : z_G} {A : Nat → Prop} {H0 : Heap} {u u2 : z_U} {mc ms : Nat}
theorem z_ciD {post : Int32 → z_U → Prop} (hW : z_W G A u H) (hW2 : z_W G A u2 H) (hap : ∀ i j, u.1 i ≠ none → u2.1 j ≠ none → u.2.1 i ≠ u2.2.1 j) (hS : va_S A H0 H locs) (hA : ∀ q : Nat, H0.size ≤ q → A q) (hr : va_Run p l e R s m args below meth c H locs cells slots mc ms (F0 m pc ls st0) rest (va_Qi post (z_B G (z_A u H.size)) (z_A u H.size) a) (z_A u H.size))
    (kk : ∀ (r : Int32) (u1 : z_U) (H1 : Heap) (locs1 : List Loc), post r u1 → z_W G A u1 H1 → z_W G A u2 H1 → (∀ i j, u1.1 i ≠ none → u2.1 j ≠ none → u1.2.1 i ≠ u2.2.1 j) → va_S A H0 H1 locs1 → W p l e R s m args below meth c H1 locs1 (cells + mc) (slots + ms) Q (F0 m (pc + 3) ls (.int r :: rest))) : W p l e R s m args below meth c H locs cells slots Q (F0 m pc ls st0) :=
  va_calli hr hS (fun q _ h => hW.free hS hA q h) (hW.free hS hA) (fun r u1 t H1 locs1 ht hvm hw hB hz1 hk1 hS1 => kk r u1 H1 locs1 hw (by rw [← ht]; exact hB.2.weaken (hW.free hS hA)) (hW2.keep hap hk1) (z_disj hB.2 hW2 hap) hS1)
theorem z_clD {post : Int64 → z_U → Prop} (hW : z_W G A u H) (hW2 : z_W G A u2 H) (hap : ∀ i j, u.1 i ≠ none → u2.1 j ≠ none → u.2.1 i ≠ u2.2.1 j) (hS : va_S A H0 H locs) (hA : ∀ q : Nat, H0.size ≤ q → A q) (hr : va_Run p l e R s m args below meth c H locs cells slots mc ms (F0 m pc ls st0) rest (va_Ql post (z_B G (z_A u H.size)) (z_A u H.size) a) (z_A u H.size))
    (kk : ∀ (r : Int64) (u1 : z_U) (H1 : Heap) (locs1 : List Loc), post r u1 → z_W G A u1 H1 → z_W G A u2 H1 → (∀ i j, u1.1 i ≠ none → u2.1 j ≠ none → u1.2.1 i ≠ u2.2.1 j) → va_S A H0 H1 locs1 → W p l e R s m args below meth c H1 locs1 (cells + mc) (slots + ms) Q (F0 m (pc + 3) ls (.long r :: rest))) : W p l e R s m args below meth c H locs cells slots Q (F0 m pc ls st0) :=
  va_calll hr hS (fun q _ h => hW.free hS hA q h) (hW.free hS hA) (fun r u1 t H1 locs1 ht hvm hw hB hz1 hk1 hS1 => kk r u1 H1 locs1 hw (by rw [← ht]; exact hB.2.weaken (hW.free hS hA)) (hW2.keep hap hk1) (z_disj hB.2 hW2 hap) hS1)
end ZD
