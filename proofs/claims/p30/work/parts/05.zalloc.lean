/-! cells that are made: cell i lies at the heap's end; ad1 is where cells lie then (z_ad ad i q, or ad itself where it was foreseen) -/
noncomputable def z_sh (sh : Nat → Option z_S) (i : Nat) (x : z_S) : Nat → Option z_S := fun j => if j = i then some x else sh j
noncomputable def z_fi (I : z_I) (i : Nat) (v : Int32) : z_I := fun a b => if a = i then v else I a b
theorem z_W.add {G : z_G} {A : Nat → Prop} {sh : Nat → Option z_S} {ad ad1 : Nat → Nat} {I : z_I} {J : z_J} {P : z_P} {H H1 : Heap} {i : Nat} {x : z_S} (h : z_W G A (sh, ad, I, J, P) H) (h1 : ad1 i = H.size) (h2 : ∀ j, j ≠ i → ad1 j = ad j) (hA : A H.size) (oq : ∀ a : Nat, a < H.size → H1[a]? = H[a]?) (hc : z_c G (z_sh sh i x, ad1, I, J, P) i x H1) : z_W G A (z_sh sh i x, ad1, I, J, P) H1 := by
  have key : ∀ j, z_sh sh i x j ≠ none → (j = i ∧ ad1 j = H.size) ∨ (j ≠ i ∧ sh j ≠ none ∧ ad1 j = ad j ∧ ad j < H.size) := by
    intro j hj
    by_cases e : j = i
    · exact Or.inl ⟨e, by rw [e]; exact h1⟩
    · have h3 : sh j ≠ none := by simpa [z_sh, e] using hj
      exact Or.inr ⟨e, h3, h2 j e, h.lt h3⟩
  refine ⟨fun j y hj => ?_, fun a b ha hb hab => ?_, fun a ha => ?_⟩
  · by_cases e : j = i
    · subst e
      have hy : x = y := by simpa [z_sh] using hj
      subst hy
      exact hc
    · have hj' : sh j = some y := by simpa [z_sh, e] using hj
      have hl := h.lt (i := j) (z_ne hj')
      exact (h.1 j y hj').kept (h2 j e) (oq _ hl) (fun _ _ => rfl)
  · have hab' : ad1 a = ad1 b := hab
    rcases key a ha with ⟨e1, v1⟩ | ⟨e1, n1, v1, l1⟩ <;> rcases key b hb with ⟨e2, v2⟩ | ⟨e2, n2, v2, l2⟩
    · rw [e1, e2]
    · omega
    · omega
    · exact h.2.1 a b n1 n2 (by rw [v1, v2] at hab'; exact hab')
  · rcases key a ha with ⟨e1, v1⟩ | ⟨e1, n1, v1, l1⟩
    · show A (ad1 a)
      rw [v1]
      exact hA
    · show A (ad1 a)
      rw [v1]
      exact h.2.2 a n1
/-- a cell that lies behind all others, in the same heap -/
theorem z_W.add2 {G : z_G} {A : Nat → Prop} {sh : Nat → Option z_S} {ad : Nat → Nat} {I : z_I} {J : z_J} {P : z_P} {H : Heap} {i : Nat} {x : z_S} (h : z_W G A (sh, ad, I, J, P) H) (hlt : ∀ j, sh j ≠ none → ad j < ad i) (hA : A (ad i)) (hc : z_c G (z_sh sh i x, ad, I, J, P) i x H) : z_W G A (z_sh sh i x, ad, I, J, P) H := by
  have key : ∀ j, z_sh sh i x j ≠ none → j = i ∨ (j ≠ i ∧ sh j ≠ none) := by
    intro j hj
    by_cases e : j = i
    · exact Or.inl e
    · exact Or.inr ⟨e, by simpa [z_sh, e] using hj⟩
  refine ⟨fun j y hj => ?_, fun a b ha hb hab => ?_, fun a ha => ?_⟩
  · by_cases e : j = i
    · subst e
      have hy : x = y := by simpa [z_sh] using hj
      subst hy
      exact hc
    · have hj' : sh j = some y := by simpa [z_sh, e] using hj
      exact (h.1 j y hj').kept rfl rfl (fun _ _ => rfl)
  · have hab' : ad a = ad b := hab
    rcases key a ha with e1 | ⟨e1, n1⟩ <;> rcases key b hb with e2 | ⟨e2, n2⟩
    · rw [e1, e2]
    · have := hlt b n2
      rw [e1] at hab'
      omega
    · have := hlt a n1
      rw [e2] at hab'
      omega
    · exact h.2.1 a b n1 n2 hab'
  · rcases key a ha with e1 | ⟨e1, n1⟩
    · show A (ad a)
      rw [e1]
      exact hA
    · exact h.2.2 a n1
noncomputable def z_shr (sh : Nat → Option z_S) (i K : Nat) : Nat → Nat → Option z_S
  | 0 => sh
  | n + 1 => z_sh (z_shr sh i K n) (i + 1 + n) (.inl (.int, K))
noncomputable def z_pr (P : z_P) (i : Nat) (ad : Nat → Nat) : z_P := fun a b => if a = i then some (ad (i + 1 + b)) else P a b
section ZN
variable {p : Program} {l : Launch} {e : Env} {R : Room} {s : State} {m : MethodId} {args : Array Value} {below : List Frame} {meth : Method} {c : Code} {H : Heap} {locs : List Loc} {cells slots : Nat} {Q : State → Prop}
variable {cc : ByteArray} {pc : Nat} {ls : Array Slot} {rest : List Value} {G : z_G} {A : Nat → Prop} {H0 : Heap} {sh : Nat → Option z_S} {ad : Nat → Nat} {I : z_I} {J : z_J} {P : z_P}
theorem z_Sn {A : Nat → Prop} {H0 H H1 : Heap} {locs : List Loc} (h : va_S A H0 H locs) (z : H.size ≤ H1.size) (oq : ∀ q : Nat, q < H.size → H1[q]? = H[q]?) : va_S A H0 H1 locs :=
  ⟨Nat.le_trans h.1 z, fun q h1 h2 => (oq q (Nat.lt_of_lt_of_le h1 h.1)).trans (h.2.1 q h1 h2), h.2.2⟩
/-- an array of ints, longs, bytes, booleans is made: it is cell i -/
theorem z_newa (i : Nat) (ad1 : Nat → Nat) (hexec : p.tables.exec = Jvm.exec) (hb : c.code = cc) {atype : ArrayType} (harr : (Cond.arrayClass (newarray.typeOf atype)).before args s = true) {ty : FieldType} (hty : newarray.typeOf atype = ty) (hK : z_K G s) (hmem : ty ∈ z_tys) (hW : z_W G A (sh, ad, I, J, P) H) (hS : va_S A H0 H locs) (hA : ∀ q : Nat, H0.size ≤ q → A q) (h1 : ad1 i = H.size) (h2 : ∀ j, j ≠ i → ad1 j = ad j)
    {n : Int32} {N' : Nat} (hv : ∀ k, z_v I J P ty i k = defaultValue ty) (hn : ¬ n < 0) (hN : n.toNatClampNeg = N') (hbytes : N' * componentBytes ty ≤ 536870912) (hcells : cells + 1 ≤ R.cells) (hslots : slots + N' ≤ R.slots) (hdg : decode cc pc = .ok (.newarray atype, 2))
    (kk : ∀ (H1 : Heap), H1.size = H.size + 1 → z_W G A (z_sh sh i (.inl (ty, N')), ad1, I, J, P) H1 → va_S A H0 H1 locs → W p l e R s m args below meth c H1 locs (cells + 1) (slots + N') Q (F0 m (pc + 2) ls (.ref (ad1 i) :: rest))) : W p l e R s m args below meth c H locs cells slots Q (F0 m pc ls (.int n :: rest)) := by
  subst hty
  refine va_newaK hexec hb harr rfl hdg rfl hn hN hbytes hcells hslots rfl fun H1 cA e1 z1 o1 hAr hNm => ?_
  have hcA : G.2 (newarray.typeOf atype) = cA := by
    have h := (hK.2.1 _ hmem).2
    have h' : s.vm.findClass ("[" ++ (newarray.typeOf atype).toString) = some (G.2 (newarray.typeOf atype)) := by cases atype <;> exact h
    exact Option.some.inj (h'.symm.trans hNm)
  have hk := kk H1 z1 (hW.add h1 h2 (hA _ hS.1) o1 (by
    show H1[ad1 i]? = some (arrV (G.2 (newarray.typeOf atype)) N' _)
    rw [h1, e1, hcA]
    congr 2
    funext k
    exact (hv k).symm)) (z_Sn hS (by omega) o1)
  rw [h1] at hk
  exact hk
theorem z_new (i : Nat) (ad1 : Nat → Nat) (hexec : p.tables.exec = Jvm.exec) (hb : c.code = cc) {own C : String} {T : u_T} {N ci index : Nat} {Ts : List Cond} (hts : ∀ w ∈ Ts, w.before args s = true) (hin : ∀ w ∈ u_ws C T N, w ∈ Ts) (ty : Nat → FieldType) (hty : ∀ k, k < N → parseFieldDescriptor (T k).2.2.1 = some (ty k)) (hown : s.vm.findClass own = some m.cls) (hcl : (Cond.classLink own index C).before args s = true) (hinst : (Cond.instantiable C N).before args s = true) (hini : (Cond.initialized C).before args s = true)
    (hK : z_K G s) (hW : z_W G A (sh, ad, I, J, P) H) (hS : va_S A H0 H locs) (hA : ∀ q : Nat, H0.size ≤ q → A q) (h1 : ad1 i = H.size) (h2 : ∀ j, j ≠ i → ad1 j = ad j) (hc : vwCl[ci]? = some (C, T, N)) (hv : ∀ k, k < N → defaultValue (ty k) = z_v I J P (z_tf ci k) i k) (hcells : cells + 1 ≤ R.cells) (hslots : slots + N ≤ R.slots) (hdg : decode cc pc = .ok (.new index, 3))
    (kk : ∀ (H1 : Heap), H1.size = H.size + 1 → z_W G A (z_sh sh i (.inr ci), ad1, I, J, P) H1 → va_S A H0 H1 locs → W p l e R s m args below meth c H1 locs (cells + 1) (slots + N) Q (F0 m (pc + 3) ls (.ref (ad1 i) :: rest))) : W p l e R s m args below meth c H locs cells slots Q (F0 m pc ls rest) := by
  have hKn := hK.1 ci _ hc
  refine W.newcK hexec hb hown hcl hinst hini rfl hdg hcells hslots hKn.2.1 rfl fun H1 kC hkC e1 z1 o1 => ?_
  have hk := kk H1 z1 (hW.add h1 h2 (hA _ hS.1) o1 ⟨_, hc, by
    show t_OB (ad1 i) _ _ _ _ _
    rw [h1]
    exact (u_born ty hts hin hKn hkC e1 hty).to hv⟩) (z_Sn hS (by omega) o1)
  rw [h1] at hk
  exact hk
/-- an array of references to objects is made, all null -/
theorem z_newq (i : Nat) (ad1 : Nat → Nat) (hexec : p.tables.exec = Jvm.exec) (hb : c.code = cc) {own C : String} {index : Nat} (hown : s.vm.findClass own = some m.cls) (hclink : (Cond.classLink own index C).before args s = true) (hover : va_AO C s) (hK : z_K G s) (hmem : .object C ∈ z_tys) (hW : z_W G A (sh, ad, I, J, P) H) (hS : va_S A H0 H locs) (hA : ∀ q : Nat, H0.size ≤ q → A q) (h1 : ad1 i = H.size) (h2 : ∀ j, j ≠ i → ad1 j = ad j)
    {n : Int32} {N' : Nat} (hv : ∀ k, P i k = none) (hn : ¬ n < 0) (hN : n.toNatClampNeg = N') (hbytes : N' * 4 ≤ 536870912) (hcells : cells + 1 ≤ R.cells) (hslots : slots + N' ≤ R.slots) (hdg : decode cc pc = .ok (.anewarray index, 3))
    (kk : ∀ (H1 : Heap), H1.size = H.size + 1 → z_W G A (z_sh sh i (.inl (.object C, N')), ad1, I, J, P) H1 → va_S A H0 H1 locs → W p l e R s m args below meth c H1 locs (cells + 1) (slots + N') Q (F0 m (pc + 3) ls (.ref (ad1 i) :: rest))) : W p l e R s m args below meth c H locs cells slots Q (F0 m pc ls (.int n :: rest)) := by
  subst hN
  refine W.anew hexec hb hown hclink (va_AO.use hover) rfl hdg rfl hn hbytes hcells hslots fun cA kA comp f1 f2 f3 f4 => ?_
  generalize hH1 : H.push ({ cls := cA, slots := Array.replicate n.toNatClampNeg .null, vm := .none } : Cell) = H1
  have z1 : H1.size = H.size + 1 := by rw [← hH1, Array.size_push]
  have e1 : H1[H.size]? = some (arrV cA n.toNatClampNeg (fun _ => .null)) := by rw [← hH1, Array.getElem?_push_size, ← arrV_new]
  have o1 : ∀ q : Nat, q < H.size → H1[q]? = H[q]? := fun q hq => by rw [← hH1, Array.getElem?_push, if_neg (Nat.ne_of_lt hq)]
  have hcA : G.2 (.object C) = cA := by
    obtain ⟨kA', comp', -, -, -, h4⟩ := (hK.2.1 _ hmem).2
    exact Option.some.inj (h4.symm.trans f1)
  have hk := kk H1 z1 (hW.add h1 h2 (hA _ hS.1) o1 (by
    show H1[ad1 i]? = some (arrV (G.2 (.object C)) n.toNatClampNeg _)
    rw [h1, e1, hcA]
    congr 2
    funext k
    show _ = va_rf (P i k)
    rw [hv k]
    rfl)) (z_Sn hS (by omega) o1)
  rw [h1] at hk
  exact hk
/-- putfield of a final field in its constructor -/
theorem z_putF {i : Nat} (hexec : p.tables.exec = Jvm.exec) (hb : c.code = cc) {own ref C : String} {T : u_T} {N ci index : Nat} {Ts : List Cond} (hts : ∀ w ∈ Ts, w.before args s = true) (hin : ∀ w ∈ u_ws C T N, w ∈ Ts) (ty0 : Nat → FieldType) (hty : ∀ k, k < N → parseFieldDescriptor (T k).2.2.1 = some (ty0 k)) (hnm : ∀ a, a < N → ∀ b, b < N → a ≠ b → (T a).2.1 ≠ (T b).2.1) (hown : s.vm.findClass own = some m.cls) (hK : z_K G s) (hW : z_W G A (sh, ad, I, J, P) H) (hS0 : va_S A H0 H locs)
    (hi : sh i = some (.inr ci)) (hc : vwCl[ci]? = some (C, T, N)) (k : Nat) (hk : k < N) (hlink : (Cond.fieldLink own index ref (T k).2.1 (T k).2.2.1).before args s = true) (hsame : ∀ x, s.fieldFound? (T k).1 (T k).2.1 (T k).2.2.1 = some x → s.fieldFound? ref (T k).2.1 (T k).2.2.1 = some x) (hfin : (T k).2.2.2 = true) (hin2 : meth.name = "<init>") (hdecl : (T k).1 = own) {v : Value} (hn : narrow (ty0 k) v = v) (hfit : fits (ty0 k) v = true)
    {I1 : z_I} {J1 : z_J} {P1 : z_P} (hv : z_v I1 J1 P1 (z_tf ci k) i k = v) (ho : ∀ a b, a ≠ i ∨ b ≠ k → ∀ ty, z_v I1 J1 P1 ty a b = z_v I J P ty a b)
    (hdg : decode cc pc = .ok (.putfield index, 3)) (kk : ∀ (H1 : Heap) (locs1 : List Loc), H1.size = H.size → z_W G A (sh, ad, I1, J1, P1) H1 → va_S A H0 H1 locs1 → W p l e R s m args below meth c H1 locs1 cells slots Q (F0 m (pc + 3) ls rest)) : W p l e R s m args below meth c H locs cells slots Q (F0 m pc ls (v :: .ref (ad i) :: rest)) := by
  obtain ⟨r, h1, cell, q1, q2, q3, q4⟩ := hW.1 i _ hi
  have hr : r = (C, T, N) := Option.some.inj (h1.symm.trans hc)
  subst hr
  obtain ⟨hS, hfc, kC, hkC, hkind⟩ := hK.1 ci _ hc
  have hap : ∀ x y, x < N → y < N → x ≠ y → (G.1.2 ci) x ≠ (G.1.2 ci) y := by
    intro x y hx hy hne
    obtain ⟨_, _, _, fa, hia, ea⟩ := hS x hx
    obtain ⟨_, _, _, fb, hib, eb⟩ := hS y hy
    rw [← ea, ← eb]
    refine u_apart (u_lays hts hin hx) (u_lays hts hin hy) hia hib ?_
    rw [(State.fieldFound?_type hia (hty x hx)).1, (State.fieldFound?_type hib (hty y hy)).1]
    exact hnm x hx y hy hne
  obtain ⟨cf, kf, fi, f, hf, hsl⟩ := hS k hk
  have hlay := hts _ (hin _ (u_in_lay hk))
  unfold u_lay at hlay
  rw [if_pos hfin] at hlay
  have hst := (u_facts hfc hkC (u_lays hts hin hk) hf).1
  have hcf : m.cls = cf := by
    obtain ⟨_, _, c', _, _, _, -, -, hf', -, -, -, hown2, -⟩ := Cond.laysFinal_spec hlay
    have e1 : c' = cf := by have := hf.symm.trans hf'; simp at this; exact this.1.symm
    rw [hdecl] at hown2
    rw [← e1]; exact Option.some.inj (hown.symm.trans hown2)
  have h6 := u_fits hfc hkC hkind (Or.inr hlay) hf (hty k hk) hn hfit
  refine W.putFinK hexec hb hown hlink (hsame _ hf) hst hcf hin2 (by rw [q2]; exact h6) q1 q3 (by rw [hsl]; exact k2_hasslot (q4 k hk)) rfl rfl hdg fun H' e1 e2 e3 => ?_
  rw [hsl] at e1 ⊢
  refine kk H' _ e2 (hW.one rfl rfl hi ⟨_, hc, _, e1, q2, q3, fun j hj => ?_⟩ e3 (fun j hj ty b => ho j b (Or.inl hj) ty)) (hS0.put e2 e3 (hW.2.2 i (z_ne hi)))
  rw [t_set q4 hap hk v j hj]
  unfold updV
  by_cases e : j = k
  · rw [if_pos e, e, ← hv]
  · rw [if_neg e]
    exact congrArg some (ho i j (Or.inr e) _).symm
end ZN
