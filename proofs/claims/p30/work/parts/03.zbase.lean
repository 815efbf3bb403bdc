/-! FLAT MEMORY: each cell of the world has a number i; sh i says what it is (an array of a type and a length, or an object of a class), ad i where it lies;
ints, longs and references are read by cell and place -/
noncomputable abbrev z_S : Type := (FieldType × Nat) ⊕ Nat
noncomputable abbrev z_I : Type := Nat → Nat → Int32
noncomputable abbrev z_J : Type := Nat → Nat → Int64
noncomputable abbrev z_P : Type := Nat → Nat → Option Nat
noncomputable abbrev z_U : Type := (Nat → Option z_S) × (Nat → Nat) × z_I × z_J × z_P
noncomputable abbrev z_G : Type := va_G × (FieldType → ClassId)
noncomputable def z_up {α : Type} (f : Nat → Nat → α) (i k : Nat) (v : α) : Nat → Nat → α := fun a b => if a = i then (if b = k then v else f a b) else f a b
theorem z_up_s {α : Type} {f : Nat → Nat → α} {i k : Nat} {v : α} : z_up f i k v i k = v := by simp [z_up]
theorem z_up_n {α : Type} {f : Nat → Nat → α} {i k a b : Nat} {v : α} (h : a ≠ i) : z_up f i k v a b = f a b := by simp [z_up, h]
theorem z_up_k {α : Type} {f : Nat → Nat → α} {i k a b : Nat} {v : α} (h : b ≠ k) : z_up f i k v a b = f a b := by simp [z_up, h]
noncomputable def z_v (I : z_I) (J : z_J) (P : z_P) (ty : FieldType) (i k : Nat) : Value := match ty with
  | .long => .long (J i k)
  | .object _ => va_rf (P i k)
  | .array _ => va_rf (P i k)
  | _ => .int (I i k)
noncomputable def z_tf (ci : Nat) : Nat → FieldType := match ci with
  | 0 => tyX0
  | 1 => tyX1
  | 2 => tyX2
  | 3 => tyX3
  | 4 => tyX4
  | 5 => tyX5
  | 6 => tyX6
  | 7 => tyX7
  | 8 => tyX8
  | 9 => tyX9
  | 10 => tyX10
  | 11 => tyX11
  | _ => tyX12
noncomputable def z_c (G : z_G) (u : z_U) (i : Nat) (x : z_S) (H : Heap) : Prop := match x with
  | .inl a => H[u.2.1 i]? = some (arrV (G.2 a.1) a.2 (fun j => z_v u.2.2.1 u.2.2.2.1 u.2.2.2.2 a.1 i j))
  | .inr ci => ∃ r : vw_C, vwCl[ci]? = some r ∧ t_OB (u.2.1 i) (G.1.1 ci) r.2.2 (G.1.2 ci) H (fun k => z_v u.2.2.1 u.2.2.2.1 u.2.2.2.2 (z_tf ci k) i k)
noncomputable def z_W (G : z_G) (A : Nat → Prop) (u : z_U) (H : Heap) : Prop := (∀ i x, u.1 i = some x → z_c G u i x H) ∧ (∀ i j, u.1 i ≠ none → u.1 j ≠ none → u.2.1 i = u.2.1 j → i = j) ∧ ∀ i, u.1 i ≠ none → A (u.2.1 i)
/-- private methods and constructors of nest mates: whose link, its place, the method, the host -/
noncomputable def z_nest : List (String × Nat × MethodName × String) := [(RX11, 15, yX2_init, RX11), (RX11, 22, yX9_init, RX11), (RX11, 29, yX6_init, RX11), (RX6, 19, yX5_init, RX11), (RX11, 43, yX8_init, RX11), (RX11, 60, yX4_init, RX11), (RX11, 67, yX3_init, RX11), (RX11, 74, yX1_init, RX11), (RX7, 23, yX11_within, RX11), (RX6, 42, yX11_usual, RX11), (RX7, 53, yX11_usual, RX11), (RX11, 181, yX10_init, RX11)]
noncomputable def z_over : List String := [RX7, RX10]
noncomputable def z_tys : List FieldType := [.int, .byte, .boolean, .long, .object RX7, .object RX10, .array .int]
/-- int[][] can be made: what the tables say of arrays over int[] -/
noncomputable def z_AOA (U : State) : Prop := (Cond.arrayOver (.array .int)).before #[] U = true
theorem z_AOA.use {A : Array Value} {U : State} (h : z_AOA U) : (Cond.arrayOver (.array .int)).before A U = true := h
theorem z_AOA.moved {u U : State} (hvm : u.vm.Alike U.vm) (h : z_AOA u) : z_AOA U := by
  unfold z_AOA Cond.before Cond.holds at h ⊢
  simp only [Cond.value, beq_iff_eq] at h ⊢
  rw [hvm.findClass]
  cases hc : u.vm.findClass (FieldType.array .int).toString with
  | none => simp [hc] at h
  | some comp =>
    simp only [hc, Option.bind_some, Option.bind_eq_some_iff, Option.map_eq_some_iff] at h ⊢
    obtain ⟨c, hi, k, hk, hb⟩ := h
    obtain ⟨k', hk', he⟩ := hvm.2.2 _ _ hk
    refine ⟨c, ?_, k', hk', ?_⟩
    · have e1 := va_idx_bare U.vm comp
      have e2 := va_idx_bare u.vm comp
      first | rw [hvm.bare_eq] at e1 | rw [hvm.bare_eq] at e2
      exact e1.symm.trans (e2.trans hi)
    · rw [he, hvm.findClass]
      exact hb
noncomputable def z_K (G : z_G) (s : State) : Prop := (∀ (c : Nat) (q : vw_C), vwCl[c]? = some q → u_Kn s q.1 q.2.1 q.2.2 (G.1.1 c) (G.1.2 c)) ∧ (∀ ty ∈ z_tys, ArrOfT s (G.2 ty) ty ∧ va_RA s (G.2 ty) ty) ∧ (∀ q ∈ z_nest, va_Nw (.methodLinkNest q.1 q.2.1 q.2.2.1 q.2.2.2) s) ∧ (∀ C ∈ z_over, va_AO C s) ∧ z_AOA s
theorem z_K.warm {G : z_G} {u U : State} (hW : u.WarmedH U.vm) (h : z_K G u) : z_K G U := ⟨fun c q hq => u_Kn_moved hW.alike (h.1 c q hq), fun ty ht => ⟨arrOfT_moved hW.alike (h.2.1 ty ht).1, (h.2.1 ty ht).2.moved hW.alike⟩, fun q hq => (h.2.2.1 q hq).warmM hW, fun C hC => (h.2.2.2.1 C hC).moved hW.alike, h.2.2.2.2.moved hW.alike⟩
theorem z_K.same {G : z_G} {u U : State} (hv : u.vm = U.vm) (h : z_K G u) : z_K G U := by
  have ha : u.vm.Alike U.vm := hv ▸ Vm.Alike.refl u.vm
  exact ⟨fun c q hq => u_Kn_moved ha (h.1 c q hq), fun ty ht => ⟨arrOfT_moved ha (h.2.1 ty ht).1, (h.2.1 ty ht).2.moved ha⟩, fun q hq => (h.2.2.1 q hq).same rfl hv, fun C hC => (h.2.2.2.1 C hC).moved ha, h.2.2.2.2.moved ha⟩
noncomputable def z_A (u : z_U) (sz : Nat) : Nat → Prop := fun q => (∃ i, u.1 i ≠ none ∧ q = u.2.1 i) ∨ sz ≤ q
noncomputable def z_B (G : z_G) (A : Nat → Prop) (u : z_U) (t : State) : Prop := z_K G t ∧ z_W G A u t.heap
theorem z_c.kept {G : z_G} {u u1 : z_U} {i : Nat} {x : z_S} {H H1 : Heap} (h : z_c G u i x H) (ha : u1.2.1 i = u.2.1 i) (hH : H1[u.2.1 i]? = H[u.2.1 i]?) (hv : ∀ ty k, z_v u1.2.2.1 u1.2.2.2.1 u1.2.2.2.2 ty i k = z_v u.2.2.1 u.2.2.2.1 u.2.2.2.2 ty i k) : z_c G u1 i x H1 := by
  cases x with
  | inl a =>
    show H1[u1.2.1 i]? = some (arrV (G.2 a.1) a.2 _)
    rw [ha, hH]
    have h' : H[u.2.1 i]? = some (arrV (G.2 a.1) a.2 (fun j => z_v u.2.2.1 u.2.2.2.1 u.2.2.2.2 a.1 i j)) := h
    rw [h']
    congr 2
    funext j
    exact (hv a.1 j).symm
  | inr ci =>
    obtain ⟨r, h1, h2⟩ := h
    refine ⟨r, h1, ?_⟩
    rw [ha]
    exact (h2.kept hH).to (fun k _ => (hv (z_tf ci k) k).symm)
theorem z_c.lt {G : z_G} {u : z_U} {i : Nat} {x : z_S} {H : Heap} (h : z_c G u i x H) : u.2.1 i < H.size := by
  cases x with
  | inl a =>
    have h' : H[u.2.1 i]? = some _ := h
    exact (Array.getElem?_eq_some_iff.mp h').1
  | inr ci =>
    obtain ⟨r, h1, cell, h2, -⟩ := h
    exact (Array.getElem?_eq_some_iff.mp h2).1
theorem z_W.lt {G : z_G} {A : Nat → Prop} {u : z_U} {H : Heap} (h : z_W G A u H) {i : Nat} (hi : u.1 i ≠ none) : u.2.1 i < H.size := by
  cases hx : u.1 i with
  | none => exact absurd hx hi
  | some x => exact (h.1 i x hx).lt
/-- values of another cell, or of another place, behind a change of one int, long or reference -/
theorem z_vI {I : z_I} {J : z_J} {P : z_P} {i k a b : Nat} {v : Int32} (h : a ≠ i ∨ b ≠ k) (ty : FieldType) : z_v (z_up I i k v) J P ty a b = z_v I J P ty a b := by
  have e : z_up I i k v a b = I a b := by rcases h with h | h <;> simp [z_up, h]
  cases ty <;> simp [z_v, e]
theorem z_vJ {I : z_I} {J : z_J} {P : z_P} {i k a b : Nat} {v : Int64} (h : a ≠ i ∨ b ≠ k) (ty : FieldType) : z_v I (z_up J i k v) P ty a b = z_v I J P ty a b := by
  have e : z_up J i k v a b = J a b := by rcases h with h | h <;> simp [z_up, h]
  cases ty <;> simp [z_v, e]
theorem z_vP {I : z_I} {J : z_J} {P : z_P} {i k a b : Nat} {v : Option Nat} (h : a ≠ i ∨ b ≠ k) (ty : FieldType) : z_v I J (z_up P i k v) ty a b = z_v I J P ty a b := by
  have e : z_up P i k v a b = P a b := by rcases h with h | h <;> simp [z_up, h]
  cases ty <;> simp [z_v, e]
/-- one cell changed, all else as it was -/
theorem z_W.one {G : z_G} {A : Nat → Prop} {u u1 : z_U} {i : Nat} {x : z_S} {H H1 : Heap} (h : z_W G A u H) (h1 : u1.1 = u.1) (h2 : u1.2.1 = u.2.1) (hi : u.1 i = some x) (hc : z_c G u1 i x H1) (oq : ∀ q : Nat, q ≠ u.2.1 i → H1[q]? = H[q]?)
    (hv : ∀ j, j ≠ i → ∀ ty k, z_v u1.2.2.1 u1.2.2.2.1 u1.2.2.2.2 ty j k = z_v u.2.2.1 u.2.2.2.1 u.2.2.2.2 ty j k) : z_W G A u1 H1 := by
  refine ⟨fun j y hj => ?_, fun a b ha hb hab => ?_, fun a ha => ?_⟩
  · rw [h1] at hj
    by_cases e : j = i
    · subst e
      rw [hi] at hj
      cases hj
      exact hc
    · refine (h.1 j y hj).kept (by rw [h2]) (oq _ (fun q => e ?_)) (hv j e)
      exact h.2.1 j i (by rw [hj]; exact fun z => by cases z) (by rw [hi]; exact fun z => by cases z) q
  · rw [h1] at ha hb
    rw [h2] at hab
    exact h.2.1 a b ha hb hab
  · rw [h1] at ha
    rw [h2]
    exact h.2.2 a ha
theorem z_W.weaken {G : z_G} {A B : Nat → Prop} {u : z_U} {H : Heap} (h : z_W G A u H) (hAB : ∀ q, A q → B q) : z_W G B u H := ⟨h.1, h.2.1, fun i hi => hAB _ (h.2.2 i hi)⟩
theorem z_W.self {G : z_G} {A : Nat → Prop} {u : z_U} {H : Heap} {sz : Nat} (h : z_W G A u H) : z_W G (z_A u sz) u H := ⟨h.1, h.2.1, fun i hi => Or.inl ⟨i, hi, rfl⟩⟩
theorem z_W.free {G : z_G} {A : Nat → Prop} {u : z_U} {H H0 : Heap} {locs : List Loc} (h : z_W G A u H) (hS : va_S A H0 H locs) (hA : ∀ q : Nat, H0.size ≤ q → A q) : ∀ q, z_A u H.size q → A q := by
  intro q hq
  rcases hq with ⟨i, hi, rfl⟩ | hq
  · exact h.2.2 i hi
  · exact hA q (Nat.le_trans hS.1 hq)
theorem z_ne {sh : Nat → Option z_S} {i : Nat} {x : z_S} (h : sh i = some x) : sh i ≠ none := by rw [h]; exact fun z => by cases z
section ZR
variable {p : Program} {l : Launch} {e : Env} {R : Room} {s : State} {m : MethodId} {args : Array Value} {below : List Frame} {meth : Method} {c : Code} {H : Heap} {locs : List Loc} {cells slots : Nat} {Q : State → Prop}
variable {cc : ByteArray} {pc : Nat} {ls : Array Slot} {rest : List Value} {G : z_G} {A : Nat → Prop} {H0 : Heap} {sh : Nat → Option z_S} {ad : Nat → Nat} {I : z_I} {J : z_J} {P : z_P} {i : Nat}
/-- getfield, whatever the field's type -/
theorem z_get (hexec : p.tables.exec = Jvm.exec) (hb : c.code = cc) {own ref C : String} {T : u_T} {N ci index : Nat} {Ts : List Cond} (hts : ∀ w ∈ Ts, w.before args s = true) (hin : ∀ w ∈ u_ws C T N, w ∈ Ts) (hown : s.vm.findClass own = some m.cls) (hK : z_K G s) (hW : z_W G A (sh, ad, I, J, P) H)
    (hi : sh i = some (.inr ci)) (hc : vwCl[ci]? = some (C, T, N)) (k : Nat) (hk : k < N) (hlink : (Cond.fieldLink own index ref (T k).2.1 (T k).2.2.1).before args s = true) (hsame : ∀ x, s.fieldFound? (T k).1 (T k).2.1 (T k).2.2.1 = some x → s.fieldFound? ref (T k).2.1 (T k).2.2.1 = some x) {v : Value} (hv : z_v I J P (z_tf ci k) i k = v) (hdg : decode cc pc = .ok (.getfield index, 3))
    (kk : W p l e R s m args below meth c H locs cells slots Q (F0 m (pc + 3) ls (v :: rest))) : W p l e R s m args below meth c H locs cells slots Q (F0 m pc ls (.ref (ad i) :: rest)) := by
  obtain ⟨r, h1, cell, q1, q2, q3, q4⟩ := hW.1 i _ hi
  have hr : r = (C, T, N) := Option.some.inj (h1.symm.trans hc)
  subst hr
  obtain ⟨hS, hfc, kC, hkC, hkind⟩ := hK.1 ci _ hc
  obtain ⟨cf, kf, fi, f, hf, hsl⟩ := hS k hk
  subst hv
  refine W.getf hexec hb hown hlink (hsame _ hf) (u_facts hfc hkC (u_lays hts hin hk) hf).1 q1 (by rw [q3]; exact fun h => by cases h) ?_ rfl rfl hdg kk
  rw [hsl, q4 k hk]
/-- putfield of a field that isn't final, whatever its type: the new memory is u1 -/
theorem z_put (hexec : p.tables.exec = Jvm.exec) (hb : c.code = cc) {own ref C : String} {T : u_T} {N ci index : Nat} {Ts : List Cond} (hts : ∀ w ∈ Ts, w.before args s = true) (hin : ∀ w ∈ u_ws C T N, w ∈ Ts) (ty0 : Nat → FieldType) (hty : ∀ k, k < N → parseFieldDescriptor (T k).2.2.1 = some (ty0 k)) (hnm : ∀ a, a < N → ∀ b, b < N → a ≠ b → (T a).2.1 ≠ (T b).2.1) (hown : s.vm.findClass own = some m.cls) (hK : z_K G s) (hW : z_W G A (sh, ad, I, J, P) H) (hS0 : va_S A H0 H locs)
    (hi : sh i = some (.inr ci)) (hc : vwCl[ci]? = some (C, T, N)) (k : Nat) (hk : k < N) (hlink : (Cond.fieldLink own index ref (T k).2.1 (T k).2.2.1).before args s = true) (hsame : ∀ x, s.fieldFound? (T k).1 (T k).2.1 (T k).2.2.1 = some x → s.fieldFound? ref (T k).2.1 (T k).2.2.1 = some x) (hfin : (T k).2.2.2 = false) {v : Value} (hn : narrow (ty0 k) v = v) (hfit : fits (ty0 k) v = true)
    {I1 : z_I} {J1 : z_J} {P1 : z_P} (hv : z_v I1 J1 P1 (z_tf ci k) i k = v) (ho : ∀ a b, a ≠ i ∨ b ≠ k → ∀ ty, z_v I1 J1 P1 ty a b = z_v I J P ty a b)
    (hdg : decode cc pc = .ok (.putfield index, 3)) (kk : ∀ (H1 : Heap) (locs1 : List Loc), H1.size = H.size → z_W G A (sh, ad, I1, J1, P1) H1 → va_S A H0 H1 locs1 → W p l e R s m args below meth c H1 locs1 cells slots Q (F0 m (pc + 3) ls rest)) : W p l e R s m args below meth c H locs cells slots Q (F0 m pc ls (v :: .ref (ad i) :: rest)) := by
  obtain ⟨r, h1, cell, q1, q2, q3, q4⟩ := hW.1 i _ hi
  have hr : r = (C, T, N) := Option.some.inj (h1.symm.trans hc)
  subst hr
  obtain ⟨hS, hfc, kC, hkC, hkind⟩ := hK.1 ci _ hc
  have hap : ∀ x y, x < N → y < N → x ≠ y → (G.1.2 ci) x ≠ (G.1.2 ci) y := by
    intro x y hx hy hne
    obtain ⟨_, _, _, fa, hia, ea⟩ := hS x hx
    obtain ⟨_, _, _, fb, hib, eb⟩ := hS y hy
    rw [← ea, ← eb]
    refine u_apart (u_lays hts hin hx) (u_lays hts hin hy) hia hib ?_
    rw [(State.fieldFound?_type hia (hty x hx)).1, (State.fieldFound?_type hib (hty y hy)).1]
    exact hnm x hx y hy hne
  obtain ⟨cf, kf, fi, f, hf, hsl⟩ := hS k hk
  have hlay := hts _ (hin _ (u_in_lay hk))
  unfold u_lay at hlay
  rw [if_neg (by rw [hfin]; decide)] at hlay
  have hst := (u_facts hfc hkC (u_lays hts hin hk) hf).1
  have h6 := u_store hfc hkC hkind hlay hf (hty k hk) hn hfit
  refine W.putK hexec hb (f := f) ⟨hown, hlink, ⟨_, _, _, hsame _ hf⟩, hst⟩ (by rw [q2]; exact h6) q1 q3 (by rw [hsl]; exact k2_hasslot (q4 k hk)) rfl rfl hdg fun H' e1 e2 e3 => ?_
  rw [hsl] at e1 ⊢
  refine kk H' _ e2 (hW.one rfl rfl hi ⟨_, hc, _, e1, q2, q3, fun j hj => ?_⟩ e3 (fun j hj ty b => ho j b (Or.inl hj) ty)) (hS0.put e2 e3 (hW.2.2 i (z_ne hi)))
  rw [t_set q4 hap hk v j hj]
  unfold updV
  by_cases e : j = k
  · rw [if_pos e, e, ← hv]
  · rw [if_neg e]
    exact congrArg some (ho i j (Or.inr e) _).symm
/-- arrays of ints: iaload, iastore -/
theorem z_iald (hexec : p.tables.exec = Jvm.exec) (hb : c.code = cc) (hK : z_K G s) (hW : z_W G A (sh, ad, I, J, P) H) {n : Nat} (hi : sh i = some (.inl (.int, n))) {x : Int32} (hin : vp_in x n) (hdg : decode cc pc = .ok (.iaload, 1))
    (kk : W p l e R s m args below meth c H locs cells slots Q (F0 m (pc + 1) ls (.int (I i x.toNatClampNeg) :: rest))) : W p l e R s m args below meth c H locs cells slots Q (F0 m pc ls (.int x :: .ref (ad i) :: rest)) := by
  have hlt : x.toNatClampNeg < n := Nat.not_le.mp fun q => hin (Or.inr q)
  exact W.iald (v := .int (I i x.toNatClampNeg)) hexec hb (hW.1 i _ hi) ((hK.2.1 .int (by simp [z_tys])).1 n _) (fun q => by cases q) (by show ¬ (x < 0 ∨ (arrV _ _ _).slots.size ≤ _); rw [arrV_size]; exact hin) (by show (arrV _ _ _).slots[_]? = _; rw [arrV_read _ _ hlt]; rfl) rfl rfl hdg kk
theorem z_iast (hexec : p.tables.exec = Jvm.exec) (hb : c.code = cc) (hK : z_K G s) (hW : z_W G A (sh, ad, I, J, P) H) (hS : va_S A H0 H locs) {n : Nat} (hi : sh i = some (.inl (.int, n))) {x y : Int32} (hin : vp_in x n) (hdg : decode cc pc = .ok (.iastore, 1))
    (kk : ∀ (H1 : Heap) (locs1 : List Loc), H1.size = H.size → z_W G A (sh, ad, z_up I i x.toNatClampNeg y, J, P) H1 → va_S A H0 H1 locs1 → W p l e R s m args below meth c H1 locs1 cells slots Q (F0 m (pc + 1) ls rest)) : W p l e R s m args below meth c H locs cells slots Q (F0 m pc ls (.int y :: .int x :: .ref (ad i) :: rest)) := by
  refine W.iast hexec hb (hW.1 i _ hi) ((hK.2.1 .int (by simp [z_tys])).1 n _) (fun q => by cases q) (by show ¬ (x < 0 ∨ (arrV _ _ _).slots.size ≤ _); rw [arrV_size]; exact hin) rfl rfl hdg fun H1 e1 z oq => ?_
  refine kk H1 _ z (hW.one rfl rfl hi ?_ oq (fun j hj ty b => z_vI (Or.inl hj) ty)) (hS.put z oq (hW.2.2 i (z_ne hi)))
  show H1[ad i]? = some (arrV (G.2 .int) n _)
  rw [e1]
  rw [arrV_store]
  congr 2
  funext q
  by_cases hq : q = x.toNatClampNeg
  · subst hq
    simp [updV, z_v, z_up]
  · simp [updV, z_v, z_up, hq]
theorem z_topi {x v : Int32} (h : x = v) (k : W p l e R s m args below meth c H locs cells slots Q (F0 m pc ls (.int v :: rest))) : W p l e R s m args below meth c H locs cells slots Q (F0 m pc ls (.int x :: rest)) := by rw [h]; exact k
theorem z_alen (hexec : p.tables.exec = Jvm.exec) (hb : c.code = cc) (hK : z_K G s) (hW : z_W G A (sh, ad, I, J, P) H) {ty : FieldType} {n : Nat} {v : Int32} (hi : sh i = some (.inl (ty, n))) (hty : ty ∈ z_tys) (hn : n.toInt32 = v) (hdg : decode cc pc = .ok (.arraylength, 1))
    (kk : W p l e R s m args below meth c H locs cells slots Q (F0 m (pc + 1) ls (.int v :: rest))) : W p l e R s m args below meth c H locs cells slots Q (F0 m pc ls (.ref (ad i) :: rest)) :=
  W.alen hexec hb (hW.1 i _ hi) ((hK.2.1 ty hty).1 n _) (by show (arrV _ _ _).slots.size.toInt32 = v; rw [arrV_size]; exact hn) rfl rfl hdg kk
theorem z_bald (hexec : p.tables.exec = Jvm.exec) (hb : c.code = cc) (hK : z_K G s) (hW : z_W G A (sh, ad, I, J, P) H) {n : Nat} (hi : sh i = some (.inl (.byte, n))) {x : Int32} (hin : vp_in x n) (hdg : decode cc pc = .ok (.baload, 1))
    (kk : W p l e R s m args below meth c H locs cells slots Q (F0 m (pc + 1) ls (.int (I i x.toNatClampNeg) :: rest))) : W p l e R s m args below meth c H locs cells slots Q (F0 m pc ls (.int x :: .ref (ad i) :: rest)) := by
  have hlt : x.toNatClampNeg < n := Nat.not_le.mp fun q => hin (Or.inr q)
  exact W.bald (v := .int (I i x.toNatClampNeg)) hexec hb (hW.1 i _ hi) ((hK.2.1 .byte (by simp [z_tys])).1 n _) (fun q => by cases q) (by show ¬ (x < 0 ∨ (arrV _ _ _).slots.size ≤ _); rw [arrV_size]; exact hin) (by show (arrV _ _ _).slots[_]? = _; rw [arrV_read _ _ hlt]; rfl) rfl rfl hdg kk
theorem z_zald (hexec : p.tables.exec = Jvm.exec) (hb : c.code = cc) (hK : z_K G s) (hW : z_W G A (sh, ad, I, J, P) H) {n : Nat} (hi : sh i = some (.inl (.boolean, n))) {x : Int32} (hin : vp_in x n) (hdg : decode cc pc = .ok (.baload, 1))
    (kk : W p l e R s m args below meth c H locs cells slots Q (F0 m (pc + 1) ls (.int (I i x.toNatClampNeg) :: rest))) : W p l e R s m args below meth c H locs cells slots Q (F0 m pc ls (.int x :: .ref (ad i) :: rest)) := by
  have hlt : x.toNatClampNeg < n := Nat.not_le.mp fun q => hin (Or.inr q)
  exact W.zald (v := .int (I i x.toNatClampNeg)) hexec hb (hW.1 i _ hi) ((hK.2.1 .boolean (by simp [z_tys])).1 n _) (fun q => by cases q) (by show ¬ (x < 0 ∨ (arrV _ _ _).slots.size ≤ _); rw [arrV_size]; exact hin) (by show (arrV _ _ _).slots[_]? = _; rw [arrV_read _ _ hlt]; rfl) rfl rfl hdg kk
theorem z_lald (hexec : p.tables.exec = Jvm.exec) (hb : c.code = cc) (hK : z_K G s) (hW : z_W G A (sh, ad, I, J, P) H) {n : Nat} (hi : sh i = some (.inl (.long, n))) {x : Int32} (hin : vp_in x n) (hdg : decode cc pc = .ok (.laload, 1))
    (kk : W p l e R s m args below meth c H locs cells slots Q (F0 m (pc + 1) ls (.long (J i x.toNatClampNeg) :: rest))) : W p l e R s m args below meth c H locs cells slots Q (F0 m pc ls (.int x :: .ref (ad i) :: rest)) := by
  have hlt : x.toNatClampNeg < n := Nat.not_le.mp fun q => hin (Or.inr q)
  exact W.lald (v := .long (J i x.toNatClampNeg)) hexec hb (hW.1 i _ hi) ((hK.2.1 .long (by simp [z_tys])).1 n _) (fun q => by cases q) (by show ¬ (x < 0 ∨ (arrV _ _ _).slots.size ≤ _); rw [arrV_size]; exact hin) (by show (arrV _ _ _).slots[_]? = _; rw [arrV_read _ _ hlt]; rfl) rfl rfl hdg kk
theorem z_bast (hexec : p.tables.exec = Jvm.exec) (hb : c.code = cc) (hK : z_K G s) (hW : z_W G A (sh, ad, I, J, P) H) (hS : va_S A H0 H locs) {n : Nat} (hi : sh i = some (.inl (.byte, n))) {x y : Int32} (hin : vp_in x n) (hdg : decode cc pc = .ok (.bastore, 1))
    (kk : ∀ (H1 : Heap) (locs1 : List Loc), H1.size = H.size → z_W G A (sh, ad, z_up I i x.toNatClampNeg (vp_nar .byte y), J, P) H1 → va_S A H0 H1 locs1 → W p l e R s m args below meth c H1 locs1 cells slots Q (F0 m (pc + 1) ls rest)) : W p l e R s m args below meth c H locs cells slots Q (F0 m pc ls (.int y :: .int x :: .ref (ad i) :: rest)) := by
  refine W.bast hexec hb (hW.1 i _ hi) ((hK.2.1 .byte (by simp [z_tys])).1 n _) (fun q => by cases q) (by show ¬ (x < 0 ∨ (arrV _ _ _).slots.size ≤ _); rw [arrV_size]; exact hin) rfl rfl hdg fun H1 e1 z oq => ?_
  refine kk H1 _ z (hW.one rfl rfl hi ?_ oq (fun j hj ty b => z_vI (Or.inl hj) ty)) (hS.put z oq (hW.2.2 i (z_ne hi)))
  show H1[ad i]? = some (arrV (G.2 .byte) n _)
  rw [e1]
  rw [arrV_store]
  congr 2
  funext q
  by_cases hq : q = x.toNatClampNeg
  · subst hq
    simp [updV, z_v, z_up, vp_nar]
    try rfl
  · simp [updV, z_v, z_up, hq]
theorem z_last (hexec : p.tables.exec = Jvm.exec) (hb : c.code = cc) (hK : z_K G s) (hW : z_W G A (sh, ad, I, J, P) H) (hS : va_S A H0 H locs) {n : Nat} (hi : sh i = some (.inl (.long, n))) {x : Int32} {y : Int64} (hin : vp_in x n) (hdg : decode cc pc = .ok (.lastore, 1))
    (kk : ∀ (H1 : Heap) (locs1 : List Loc), H1.size = H.size → z_W G A (sh, ad, I, z_up J i x.toNatClampNeg y, P) H1 → va_S A H0 H1 locs1 → W p l e R s m args below meth c H1 locs1 cells slots Q (F0 m (pc + 1) ls rest)) : W p l e R s m args below meth c H locs cells slots Q (F0 m pc ls (.long y :: .int x :: .ref (ad i) :: rest)) := by
  refine W.last hexec hb (hW.1 i _ hi) ((hK.2.1 .long (by simp [z_tys])).1 n _) (fun q => by cases q) (by show ¬ (x < 0 ∨ (arrV _ _ _).slots.size ≤ _); rw [arrV_size]; exact hin) rfl rfl hdg fun H1 e1 z oq => ?_
  refine kk H1 _ z (hW.one rfl rfl hi ?_ oq (fun j hj ty b => z_vJ (Or.inl hj) ty)) (hS.put z oq (hW.2.2 i (z_ne hi)))
  show H1[ad i]? = some (arrV (G.2 .long) n _)
  rw [e1]
  rw [arrV_store]
  congr 2
  funext q
  by_cases hq : q = x.toNatClampNeg
  · subst hq
    simp [updV, z_v, z_up]
  · simp [updV, z_v, z_up, hq]
theorem z_aald (hexec : p.tables.exec = Jvm.exec) (hb : c.code = cc) (hK : z_K G s) (hW : z_W G A (sh, ad, I, J, P) H) {ty : FieldType} {n : Nat} (hi : sh i = some (.inl (ty, n))) (hty : ty ∈ z_tys) (href : ty.isReference = true) {x : Int32} (hin : vp_in x n) {v : Value} (hv : z_v I J P ty i x.toNatClampNeg = v) (hdg : decode cc pc = .ok (.aaload, 1))
    (kk : W p l e R s m args below meth c H locs cells slots Q (F0 m (pc + 1) ls (v :: rest))) : W p l e R s m args below meth c H locs cells slots Q (F0 m pc ls (.int x :: .ref (ad i) :: rest)) := by
  have hlt : x.toNatClampNeg < n := Nat.not_le.mp fun q => hin (Or.inr q)
  subst hv
  exact W.aald hexec hb (hW.1 i _ hi) ((hK.2.1 ty hty).1 n _) href (fun q => by cases q) (by show ¬ (x < 0 ∨ (arrV _ _ _).slots.size ≤ _); rw [arrV_size]; exact hin) (by show (arrV _ _ _).slots[_]? = _; rw [arrV_read _ _ hlt]) rfl rfl hdg kk
end ZR
/-- arrays and fields that are read alike hold alike -/
theorem z_W.like {G : z_G} {A : Nat → Prop} {sh : Nat → Option z_S} {ad : Nat → Nat} {I I1 : z_I} {J : z_J} {P : z_P} {H : Heap} (i n : Nat) (ty : FieldType) (h : z_W G A (sh, ad, I, J, P) H) (hi : sh i = some (.inl (ty, n))) (ho : ∀ a, a ≠ i → ∀ b, I1 a b = I a b) (hn : ∀ b, b < n → I1 i b = I i b) : z_W G A (sh, ad, I1, J, P) H := by
  refine ⟨fun j x hj => ?_, h.2.1, h.2.2⟩
  have hv : ∀ a b, I1 a b = I a b → ∀ t, z_v I1 J P t a b = z_v I J P t a b := fun a b e t => by cases t <;> simp [z_v, e]
  by_cases e : j = i
  · subst e
    have hx : x = .inl (ty, n) := Option.some.inj (hj.symm.trans hi)
    subst hx
    have h1 : H[ad j]? = some (arrV (G.2 ty) n (fun b => z_v I J P ty j b)) := h.1 j _ hi
    show H[ad j]? = some (arrV (G.2 ty) n (fun b => z_v I1 J P ty j b))
    rw [h1]
    have h2 : (Array.ofFn (n := n) fun b => z_v I J P ty j b.val) = (Array.ofFn (n := n) fun b => z_v I1 J P ty j b.val) := by
      congr 1
      funext b
      exact (hv j b.val (hn b.val b.isLt) ty).symm
    show some ({ cls := G.2 ty, slots := Array.ofFn (n := n) fun b => z_v I J P ty j b.val, vm := .none } : Cell) = some ({ cls := G.2 ty, slots := Array.ofFn (n := n) fun b => z_v I1 J P ty j b.val, vm := .none } : Cell)
    rw [h2]
  · exact (h.1 j x hj).kept rfl rfl (fun t b => hv j b (ho j e b) t)
theorem z_v0 {I : z_I} {J : z_J} {P : z_P} {i k : Nat} {ty : FieldType} (h1 : I i k = 0) (h2 : J i k = 0) (h3 : P i k = none) (h4 : ty ≠ .float ∧ ty ≠ .double) : z_v I J P ty i k = defaultValue ty := by
  cases ty <;> simp_all [z_v, defaultValue, va_rf]
