theorem z_up_id {α : Type} {f : Nat → Nat → α} {i k : Nat} {v : α} (h : f i k = v) : z_up f i k v = f := by
  funext a b
  unfold z_up
  split
  · rename_i e
    split
    · rename_i e2
      rw [e, e2, h]
    · rfl
  · rfl
theorem z_fi_id {I : z_I} {i : Nat} {v : Int32} (h : ∀ k, I i k = v) : z_fi I i v = I := by
  funext a b
  unfold z_fi
  split
  · rename_i e
    rw [e, h]
  · rfl
theorem z_inc {x n : Int32} (h0 : 0 ≤ x) (h : ¬ n ≤ x) : (x + 1).toInt = x.toInt + 1 := by
  obtain ⟨j, hj, ej⟩ := nI_of (x := x) (by rw [Int32.not_lt]; exact h0)
  have h1 : x.toInt = (j : Int) := by rw [ej]; exact nI_toInt hj
  have h2 : x.toInt < n.toInt := Int32.lt_iff_toInt_lt.mp (Int32.not_le.mp h)
  have h3 := Int32.toInt_lt n
  have h4 : j + 1 < 2 ^ 31 := by omega
  rw [show x + 1 = nI (j + 1) by rw [ej]; exact nI_1 j, nI_toInt h4, h1]
  omega
theorem z_step {x n x1 : Int32} {f : Nat} (e : x1 = x + 1) (h1 : 0 ≤ x) (hc : ¬ n ≤ x) (h3 : n.toInt < x.toInt + ((f + 1 : Nat) : Int)) : 0 ≤ x1 ∧ x1 ≤ n ∧ n.toInt < x1.toInt + (f : Int) := by
  have h2 : x.toInt < n.toInt := Int32.lt_iff_toInt_lt.mp (Int32.not_le.mp hc)
  have h4 : (0 : Int) ≤ x.toInt := by simpa using Int32.le_iff_toInt_le.mp h1
  have h5 := z_inc h1 hc
  rw [← e] at h5
  refine ⟨?_, ?_, by omega⟩
  · rw [Int32.le_iff_toInt_le, h5, show (0 : Int32).toInt = 0 by decide]
    omega
  · rw [Int32.le_iff_toInt_le, h5]
    omega
theorem z_zero {x n : Int32} (h2 : x ≤ n) (h3 : n.toInt < x.toInt + ((0 : Nat) : Int)) : False := by
  rw [Int32.le_iff_toInt_le] at h2
  omega
theorem z_dec {x : Int32} (h : 1 ≤ x) : (x - 1).toInt = x.toInt - 1 := by
  have h0 : (1 : Int32).toInt ≤ x.toInt := Int32.le_iff_toInt_le.mp h
  rw [show (1 : Int32).toInt = 1 by decide] at h0
  obtain ⟨j, hj, ej⟩ := nI_of (x := x) (by rw [Int32.lt_iff_toInt_lt, show (0 : Int32).toInt = 0 by decide]; omega)
  have h1 : x.toInt = (j : Int) := by rw [ej]; exact nI_toInt hj
  obtain ⟨i, rfl⟩ : ∃ i, j = i + 1 := ⟨j - 1, by omega⟩
  rw [h1, ej, ← nI_1, Int32.add_sub_cancel, nI_toInt (by omega)]
  omega
theorem z_nI_mul (a b : Nat) : nI a * nI b = nI (a * b) := (Int32.ofNat_mul a b).symm
theorem z_in16 {a b : Int32} (h1 : 0 ≤ a) (h2 : ¬ 16 ≤ a) (h3 : 0 ≤ b) (h4 : ¬ 16 ≤ b) : vp_in ((16 * a) + b) 256 := by
  obtain ⟨i, hi, ei⟩ := nI_of (x := a) (by rw [Int32.not_lt]; exact h1)
  obtain ⟨j, hj, ej⟩ := nI_of (x := b) (by rw [Int32.not_lt]; exact h3)
  have q1 : i < 16 := by
    rcases Nat.lt_or_ge i 16 with q | q
    · exact q
    · exact absurd (by rw [ei]; exact nI_le (a := 16) q hi) h2
  have q2 : j < 16 := by
    rcases Nat.lt_or_ge j 16 with q | q
    · exact q
    · exact absurd (by rw [ej]; exact nI_le (a := 16) q hj) h4
  rw [ei, ej, show (16 : Int32) * nI i + nI j = nI (16 * i + j) by rw [show (16 : Int32) = nI 16 from rfl, z_nI_mul, nI_add]]
  exact vp_in_nI (by omega) (by decide)
theorem z_five {a : Int32} (h1 : 0 ≤ a) (h2 : a ≤ 4) : a = 0 ∨ a = 1 ∨ a = 2 ∨ a = 3 ∨ a = 4 := by
  simp only [Int32.le_iff_toInt_le, ← Int32.toInt_inj, show (0 : Int32).toInt = 0 by decide, show (1 : Int32).toInt = 1 by decide, show (2 : Int32).toInt = 2 by decide, show (3 : Int32).toInt = 3 by decide, show (4 : Int32).toInt = 4 by decide] at h1 h2 ⊢
  omega
def fr_num (a : Int32) : Int32 := if a = 3 then 10 else if a = 4 then 1 else if a = 5 then 5 else if a = 6 then 0 else 20
def fr_rule (a b c : Int32) : Int32 := if (0 ≤ a ∧ a ≤ 23) ∧ (0 ≤ b ∧ b ≤ 719) ∧ (0 ≤ c ∧ c ≤ 4) then fr_num (3 + c) else -1
def fr_stays (a b : Int32) : Int32 := if (0 ≤ a ∧ a ≤ 2) ∧ (0 ≤ b ∧ b ≤ 23) then 0 else -1
def fr_flow (a b : Int32) : Int32 := if a = -1 ∧ (0 ≤ b ∧ b ≤ 1) then 0 else -1
def fr_orders (a b : Int32) : Int32 := if a = 0 ∧ (0 ≤ b ∧ b ≤ 23) then 0 else -2
def fr_foretold (a : Int32) : Int32 := if 1 ≤ a ∧ a ≤ 12 then 0 else -2000000000
/-! the static row of what is usual: it lies outside all that is written -/
def z_us : Nat → Value := fun j => .int (if j = 0 then 10 else if j = 1 then 1 else if j = 2 then 5 else if j = 3 then 0 else 20)
def z_St (A : Nat → Prop) (U : State) (H : Heap) : Prop := ∃ t0 : Nat, va_Z "PetrolBoard" "USUAL" "[I" (.ref t0) A U H ∧ va_T .int t0 5 z_us A U H
theorem z_St.moved {A : Nat → Prop} {u U : State} {H : Heap} (hvm : u.vm.Alike U.vm) (h : z_St A u H) : z_St A U H := by
  obtain ⟨t, h1, h2⟩ := h
  exact ⟨t, h1.moved hvm, h2.moved hvm⟩
theorem z_St.kept {A : Nat → Prop} {U : State} {H H1 : Heap} (h : z_St A U H) (hq : ∀ a : Nat, a < H.size → ¬ A a → H1[a]? = H[a]?) : z_St A U H1 := by
  obtain ⟨t, h1, h2⟩ := h
  exact ⟨t, h1.kept hq, h2.kept hq⟩
theorem z_St.narrow {A B : Nat → Prop} {U : State} {H : Heap} (h : z_St A U H) (hAB : ∀ q, B q → A q) : z_St B U H := by
  obtain ⟨t, h1, h2⟩ := h
  exact ⟨t, h1.narrow hAB, h2.narrow hAB⟩
def z_PcS (G : z_G) (u : z_U) (av : List Value) (sz : Nat) : Array Value → State → Prop := va_Pc av (fun U => U.heap.size = sz ∧ z_B G (z_A u sz) u U ∧ z_St (z_A u sz) U U.heap)
def z_MS (l : Launch) (y : MethodName) (ws : List Cond) (rm : Room) (av : List Value) (G : z_G) (u : z_U) (post : Int32 → z_U → Prop) (mc ms : Nat) : Prop := ∀ sz : Nat, Met l y ws rm (z_PcS G u av sz) (va_Qi post (z_B G (z_A u sz)) (z_A u sz)) mc ms (z_A u sz)
theorem z_PcS.blind {G : z_G} {u : z_U} {av : List Value} {sz : Nat} : FrameBlind (z_PcS G u av sz) := by
  intro a U g mk h
  obtain ⟨h1, h2, ⟨h3, h4⟩, h5⟩ := h
  exact ⟨h1, h2, ⟨z_K.same (u := U) (U := U.calling g mk a) rfl h3, h4⟩, h5.moved (Vm.Alike.refl U.vm)⟩
theorem z_preVS {G : z_G} {A : Nat → Prop} {u : z_U} {s : State} {H : Heap} {locs : List Loc} {i ci : Nat} {C : String} {T : u_T} {N : Nat} {As : List Value} (hK : z_K G s) (hW : z_W G A u H) (hS : va_S A s.heap H locs) (hA : ∀ q : Nat, s.heap.size ≤ q → A q) (hSt : z_St A s s.heap) (hi : u.1 i = some (.inr ci)) (hc : vwCl[ci]? = some (C, T, N)) : PreV s H C (u.2.1 i) (z_PcS G u (.ref (u.2.1 i) :: As) H.size) As := by
  refine ⟨z_PcS.blind, (z_preV (As := As) hK hW hi hc).2.1, fun U hU hWm => ⟨rfl, by rw [hU], ⟨hK.warm hWm, by rw [hU]; exact hW.self⟩, ?_⟩⟩
  rw [hU]
  exact ((hSt.kept (fun q g1 g2 => hS.2.1 q g1 g2)).narrow (hW.free hS hA)).moved hWm.alike
theorem z_preSS {G : z_G} {A : Nat → Prop} {u : z_U} {s : State} {H : Heap} {locs : List Loc} {As : List Value} (hK : z_K G s) (hW : z_W G A u H) (hS : va_S A s.heap H locs) (hA : ∀ q : Nat, s.heap.size ≤ q → A q) (hSt : z_St A s s.heap) : PreS s H (z_PcS G u As H.size) As :=
  ⟨z_PcS.blind, fun U hU hWm => ⟨rfl, by rw [hU], ⟨hK.warm hWm, by rw [hU]; exact hW.self⟩, by
    rw [hU]
    exact ((hSt.kept (fun q g1 g2 => hS.2.1 q g1 g2)).narrow (hW.free hS hA)).moved hWm.alike⟩⟩
theorem z_headS {l : Launch} {y : MethodName} {ws ws' : List Cond} {rm : Room} {av : List Value} {G : z_G} {u : z_U} {sz mc ms maxL : Nat} {cc : ByteArray} {ret : Option FieldType} {Qc : Array Value → State → Outcome → State → Prop} (hy : plainName y.cls = true) (hw : ws = Cond.code y cc maxL ret :: ws') (hlen : (lg_sl av).length ≤ maxL)
    (body : ∀ (p : Program) (e : Env) (s : State) (m : MethodId) (below : List Frame) (meth : Method) (c : Code) (ls : Array Slot), z_In p s m meth c y cc maxL ret ws av → z_K G s → s.heap.size = sz → z_W G (z_A u sz) u s.heap → lv_has ls maxL (lv_args 0 av) → z_St (z_A u sz) s s.heap →
      W p l e (headSpec ws rm).room s m av.toArray below meth c s.heap [] 0 0 (MQ below Qc av.toArray s mc ms (z_A u sz)) (F0 m 0 ls [])) : Met l y ws rm (z_PcS G u av sz) Qc mc ms (z_A u sz) := by
  refine Met.ofW (cc := cc) (maxL := maxL) (ret := ret) hy hw ?_
  intro p e s m args below meth c s₁ B hml hv
  obtain ⟨rfl, hsz, ⟨hK, hW⟩, hSt⟩ := hv
  have hts := atoms_spec (ws := ws) B.pre
  have hown : s.vm.findClass y.cls = some m.cls := findClass_of_methodNamed B.named
  rw [lg_entry_eq]
  exact body p e s m below meth c _ ⟨B.exec, B.bytes, B.returns, hml, hown, hts, B.notSynchronized, (name_of_methodNamed B.named B.method).1⟩ hK hsz hW (lv_entry av hlen) hSt
/-! cells made in a method's course, of which the world need not know -/
theorem z_W.grow {G : z_G} {A : Nat → Prop} {u : z_U} {H H1 : Heap} (h : z_W G A u H) (hq : ∀ q : Nat, q < H.size → H1[q]? = H[q]?) : z_W G A u H1 :=
  ⟨fun i x hi => (h.1 i x hi).kept rfl (hq _ (h.lt (z_ne hi))) (fun _ _ => rfl), h.2.1, h.2.2⟩
section ZNF
variable {p : Program} {l : Launch} {e : Env} {R : Room} {s : State} {m : MethodId} {args : Array Value} {below : List Frame} {meth : Method} {c : Code} {H : Heap} {locs : List Loc} {cells slots : Nat} {Q : State → Prop}
variable {cc : ByteArray} {pc : Nat} {ls : Array Slot} {rest : List Value} {G : z_G} {A : Nat → Prop} {H0 : Heap} {u : z_U}
theorem z_newF (hexec : p.tables.exec = Jvm.exec) (hb : c.code = cc) (harr : (Cond.arrayClass .int).before args s = true) (hK : z_K G s) (hW : z_W G A u H) (hS : va_S A H0 H locs) {n : Int32} {N' : Nat} (hn : ¬ n < 0) (hN : n.toNatClampNeg = N') (hbytes : N' * componentBytes .int ≤ 536870912) (hcells : cells + 1 ≤ R.cells) (hslots : slots + N' ≤ R.slots) (hdg : decode cc pc = .ok (.newarray .int, 2))
    (kk : ∀ (a : Nat) (H1 : Heap), H.size ≤ a → H1[a]? = some (arrV (G.2 .int) N' (fun _ => .int 0)) → z_W G A u H1 → va_S A H0 H1 locs → W p l e R s m args below meth c H1 locs (cells + 1) (slots + N') Q (F0 m (pc + 2) ls (.ref a :: rest))) : W p l e R s m args below meth c H locs cells slots Q (F0 m pc ls (.int n :: rest)) := by
  refine va_newaK (atype := .int) hexec hb harr rfl hdg rfl hn hN hbytes hcells hslots rfl fun H1 cA e1 z1 o1 hAr hNm => ?_
  have hcA : G.2 .int = cA := by
    have h : s.vm.findClass ("[" ++ (FieldType.int).toString) = some (G.2 .int) := (hK.2.1 .int (by simp [z_tys])).2
    exact Option.some.inj (h.symm.trans hNm)
  exact kk H.size H1 (Nat.le_refl _) (by rw [hcA]; exact e1) (hW.grow o1) (z_Sn hS (by omega) o1)
theorem z_copy0 (hexec : p.tables.exec = Jvm.exec) (hb : c.code = cc) (hml : c.maxLocals = ls.size) {own : String} {index : Nat} (hown : s.vm.findClass own = some m.cls) (hlink : (Cond.methodLink own index arraycopyName).before args s = true) (hnat : (Cond.native arraycopyName).before args s = true) (hstat : (Cond.static arraycopyName).before args s = true) (hini : (Cond.initialized "java/lang/System").before args s = true)
    (hK : z_K G s) (hW : z_W G A u H) (hS : va_S A H0 H locs) {i n N' a : Nat} (hi : u.1 i = some (.inl (.int, n))) (ha : H[a]? = some (arrV (G.2 .int) N' (fun _ => .int 0))) (hframes : 1 ≤ R.frames) (hlocals : (rest.map fun v => v.category).sum + (nativeFrameWords "java/lang/System" "arraycopy" 5 + 11) ≤ R.locals) (hdg : decode cc pc = .ok (.invokestatic index, 3))
    (kk : ∀ (H1 : Heap), z_W G A u H1 → va_S A H0 H1 locs → W p l e R s m args below meth c H1 locs cells slots Q (F0 m (pc + 3) ls rest)) : W p l e R s m args below meth c H locs cells slots Q (F0 m pc ls (.int 0 :: .int 0 :: .ref a :: .int 0 :: .ref (u.2.1 i) :: rest)) := by
  obtain ⟨sh, ad, I, J, P⟩ := u
  intro T hT X
  have hc0 : H[ad i]? = some (vp_cell (G.2 .int) (n, .inl (I i))) := hW.1 i _ hi
  have hc1 : H[a]? = some (vp_cell (G.2 .int) (N', .inl (fun _ => (0 : Int32)))) := ha
  obtain ⟨-, k0, hk0, cm0, hkk0⟩ := (hK.2.1 .int (by simp [z_tys])).1 n (fun j => .int (I i j))
  have z0 : (0 : Int32).toInt = 0 := by decide
  obtain ⟨vm', X', step⟩ := X.arraycopy hexec hown hlink hnat hstat hini (src := ad i) (dst := a) (cs := vp_cell (G.2 .int) (n, .inl (I i))) (cd := vp_cell (G.2 .int) (N', .inl (fun _ => (0 : Int32)))) (srcPos := 0) (destPos := 0) (n := 0) (by rw [hT]; exact hc0) (by rw [hT]; exact hc1)
    (fun _ h => by cases h) (fun _ h => by cases h) (fun h => by cases h) (fun h => by cases h) hk0 hk0 hkk0 hkk0 (by first | rfl | simp [refKind]) (by decide) (by decide) (by decide)
    (by rw [z0]; omega)
    (by rw [z0]; omega)
    (fun vm₁ _ i hi => (Nat.not_lt_zero i hi).elim)
    (g := F0 m pc ls (.int 0 :: .int 0 :: .ref a :: .int 0 :: .ref (ad i) :: rest)) rfl (by rw [hml]) (rest := rest) rfl (by rw [hb]; exact hdg) hframes (by show 2 * 0 + _ + _ ≤ _; omega)
  have e1 : copied (vp_cell (G.2 .int) (n, .inl (I i))) (vp_cell (G.2 .int) (N', .inl (fun _ => (0 : Int32)))) 0 0 0 = vp_cell (G.2 .int) (N', .inl (fun _ => (0 : Int32))) := by
    refine (va_copied (fun z => .int z) (G.2 .int) (G.2 .int) (sp := 0) (dp := 0) (n := 0) (I i) (fun _ => (0 : Int32)) (Nat.zero_le _)).trans ?_
    show vp_cell (G.2 .int) (N', .inl (va_cpy (I i) (fun _ => (0 : Int32)) 0 0 0)) = vp_cell (G.2 .int) (N', .inl (fun _ => (0 : Int32)))
    rw [show va_cpy (I i) (fun _ => (0 : Int32)) 0 0 0 = (fun _ => (0 : Int32)) from by
      funext k
      simp [va_cpy]]
  rw [e1] at X' step
  have hl : a < H.size := (Array.getElem?_eq_some_iff.mp hc1).1
  have hheap : ((T.setVm vm').setCell a (vp_cell (G.2 .int) (N', .inl (fun _ => (0 : Int32))))).heap = H.setIfInBounds a (vp_cell (G.2 .int) (N', .inl (fun _ => (0 : Int32)))) := by rw [← hT]; rfl
  have oq : ∀ q : Nat, (H.setIfInBounds a (vp_cell (G.2 .int) (N', .inl (fun _ => (0 : Int32)))))[q]? = H[q]? := fun q => by
    by_cases hq : q = a
    · rw [hq, hc1]
      simp [Array.getElem?_setIfInBounds, hl]
    · simp [Array.getElem?_setIfInBounds, Ne.symm hq]
  obtain ⟨t, a1, b1⟩ := kk _ (hW.grow (fun q _ => oq q)) (z_Sn hS (by simp) (fun q _ => oq q)) _ hheap (by simpa [Cell.stretch] using X')
  exact ⟨t, step t a1, b1⟩
theorem z_aast (hexec : p.tables.exec = Jvm.exec) (hb : c.code = cc) {sh : Nat → Option z_S} {ad : Nat → Nat} {I : z_I} {J : z_J} {P : z_P} {i j n ci N : Nat} {C : String} {T : u_T} (hK : z_K G s) (hW : z_W G A (sh, ad, I, J, P) H) (hS : va_S A H0 H locs) (hi : sh i = some (.inl (.object C, n))) (hty : .object C ∈ z_tys) (hj : sh j = some (.inr ci)) (hc : vwCl[ci]? = some (C, T, N)) {x : Int32} (hin : vp_in x n) (hdg : decode cc pc = .ok (.aastore, 1))
    (kk : ∀ (H1 : Heap) (locs1 : List Loc), H1.size = H.size → z_W G A (sh, ad, I, J, z_up P i x.toNatClampNeg (some (ad j))) H1 → va_S A H0 H1 locs1 → W p l e R s m args below meth c H1 locs1 cells slots Q (F0 m (pc + 1) ls rest)) : W p l e R s m args below meth c H locs cells slots Q (F0 m pc ls (.ref (ad j) :: .int x :: .ref (ad i) :: rest)) := by
  have hlt : x.toNatClampNeg < n := Nat.not_le.mp fun q => hin (Or.inr q)
  have h0 : ¬ x < 0 := fun q => hin (Or.inl q)
  obtain ⟨r, h1, cell, q1, q2, q3, q4⟩ := hW.1 j _ hj
  have hr : r = (C, T, N) := Option.some.inj (h1.symm.trans hc)
  subst hr
  have hcls := (hK.1 ci _ hc).2
  obtain ⟨kA, comp, k1, k2, k3, -⟩ := (hK.2.1 _ hty).2
  have hcomp : comp = G.1.1 ci := Option.some.inj (k3.symm.trans hcls.1)
  subst hcomp
  obtain ⟨kC, hkC, -⟩ := hcls.2
  refine W.aast hexec hb (hW.1 i _ hi) (fun q h => by cases h) (fun h => by cases h) k1 k2 rfl hkC ⟨h0, by show _ < (arrV _ _ _).slots.size; rw [arrV_size]; exact hlt⟩ q1 (fun q h => by rw [q3] at h; cases h) (by rw [q2]; exact hkC) (by rw [q2]; exact va_assign hcls) rfl rfl hdg fun H1 e1 z oq => ?_
  refine kk H1 _ z (hW.one rfl rfl hi ?_ oq (fun a ha ty b => z_vP (Or.inl ha) ty)) (hS.put z oq (hW.2.2 i (z_ne hi)))
  show H1[ad i]? = some (arrV (G.2 (.object C)) n _)
  rw [e1]
  rw [arrV_store]
  congr 2
  funext q
  by_cases hq : q = x.toNatClampNeg
  · subst hq
    simp [updV, z_v, z_up, va_rf]
  · simp [updV, z_v, z_up, hq]
/-- an answer that is a cell -/
theorem z_qret {mc ms : Nat} {post : Option Nat → z_U → Prop} {a : Nat} {rt : FieldType} (hexec : p.tables.exec = Jvm.exec) (hb : c.code = cc) (hr : meth.sig.returnType = some (.array rt)) (hK : z_K G s) (hS : va_S A s.heap H locs) (hc : cells ≤ mc) (hs : slots ≤ ms) (hlocks : meth.locks = false) (hdg : decode cc pc = .ok (.areturn, 1)) (u1 : z_U) (hW : z_W G A u1 H) (hp : post (some a) u1) : W p l e R s m args below meth c H locs cells slots (MQ below (va_Qq post (z_B G A) A) args s mc ms A) (F0 m pc ls [.ref a]) :=
  W.widen hc hs (W.aret hexec hb hr (Or.inr ⟨_, rfl⟩) (Or.inr ⟨_, rfl⟩) (fun t ht hWm => ⟨⟨some a, u1, rfl, hp, hK.warm hWm, by rw [ht]; exact hW⟩, hS.F ht⟩) hS.2.2 hdg hlocks)
end ZNF
