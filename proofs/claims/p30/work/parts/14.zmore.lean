/-! the static row of what is usual: it lies outside all that is written -/
noncomputable def z_us : Nat → Value := fun j => .int (if j = 0 then 10 else if j = 1 then 1 else if j = 2 then 5 else if j = 3 then 0 else 20)
noncomputable def z_St (A : Nat → Prop) (U : State) (H : Heap) : Prop := ∃ t0 : Nat, va_Z "PetrolBoard" "USUAL" "[I" (.ref t0) A U H ∧ va_T .int t0 5 z_us A U H
theorem z_St.moved {A : Nat → Prop} {u U : State} {H : Heap} (hvm : u.vm.Alike U.vm) (h : z_St A u H) : z_St A U H := by
  obtain ⟨t, h1, h2⟩ := h
  exact ⟨t, h1.moved hvm, h2.moved hvm⟩
theorem z_St.kept {A : Nat → Prop} {U : State} {H H1 : Heap} (h : z_St A U H) (hq : ∀ a : Nat, a < H.size → ¬ A a → H1[a]? = H[a]?) : z_St A U H1 := by
  obtain ⟨t, h1, h2⟩ := h
  exact ⟨t, h1.kept hq, h2.kept hq⟩
theorem z_St.narrow {A B : Nat → Prop} {U : State} {H : Heap} (h : z_St A U H) (hAB : ∀ q, B q → A q) : z_St B U H := by
  obtain ⟨t, h1, h2⟩ := h
  exact ⟨t, h1.narrow hAB, h2.narrow hAB⟩
noncomputable def z_PcS (G : z_G) (u : z_U) (av : List Value) (sz : Nat) : Array Value → State → Prop := va_Pc av (fun U => U.heap.size = sz ∧ z_B G (z_A u sz) u U ∧ z_St (z_A u sz) U U.heap)
noncomputable def z_MS (l : Launch) (y : MethodName) (ws : List Cond) (rm : Room) (av : List Value) (G : z_G) (u : z_U) (post : Int32 → z_U → Prop) (mc ms : Nat) : Prop := ∀ sz : Nat, Met l y ws rm (z_PcS G u av sz) (va_Qi post (z_B G (z_A u sz)) (z_A u sz)) mc ms (z_A u sz)
theorem z_PcS.blind {G : z_G} {u : z_U} {av : List Value} {sz : Nat} : FrameBlind (z_PcS G u av sz) := by
  intro a U g mk h
  obtain ⟨h1, h2, ⟨h3, h4⟩, h5⟩ := h
  exact ⟨h1, h2, ⟨z_K.same (u := U) (U := U.calling g mk a) rfl h3, h4⟩, h5.moved (Vm.Alike.refl U.vm)⟩
theorem z_preVS {G : z_G} {A : Nat → Prop} {u : z_U} {s : State} {H : Heap} {locs : List Loc} {i ci : Nat} {C : String} {T : u_T} {N : Nat} {As : List Value} (hK : z_K G s) (hW : z_W G A u H) (hS : va_S A s.heap H locs) (hA : ∀ q : Nat, s.heap.size ≤ q → A q) (hSt : z_St A s s.heap) (hi : u.1 i = some (.inr ci)) (hc : vwCl[ci]? = some (C, T, N)) : PreV s H C (u.2.1 i) (z_PcS G u (.ref (u.2.1 i) :: As) H.size) As := by
  refine ⟨z_PcS.blind, (z_preV (As := As) hK hW hi hc).2.1, fun U hU hWm => ⟨rfl, by rw [hU], ⟨hK.warm hWm, by rw [hU]; exact hW.self⟩, ?_⟩⟩
  rw [hU]
  exact ((hSt.kept (fun q g1 g2 => hS.2.1 q g1 g2)).narrow (hW.free hS hA)).moved hWm.alike
theorem z_preSS {G : z_G} {A : Nat → Prop} {u : z_U} {s : State} {H : Heap} {locs : List Loc} {As : List Value} (hK : z_K G s) (hW : z_W G A u H) (hS : va_S A s.heap H locs) (hA : ∀ q : Nat, s.heap.size ≤ q → A q) (hSt : z_St A s s.heap) : PreS s H (z_PcS G u As H.size) As :=
  ⟨z_PcS.blind, fun U hU hWm => ⟨rfl, by rw [hU], ⟨hK.warm hWm, by rw [hU]; exact hW.self⟩, by
    rw [hU]
    exact ((hSt.kept (fun q g1 g2 => hS.2.1 q g1 g2)).narrow (hW.free hS hA)).moved hWm.alike⟩⟩
theorem z_headS {l : Launch} {y : MethodName} {ws ws' : List Cond} {rm : Room} {av : List Value} {G : z_G} {u : z_U} {sz mc ms maxL : Nat} {cc : ByteArray} {ret : Option FieldType} {Qc : Array Value → State → Outcome → State → Prop} (hy : plainName y.cls = true) (hw : ws = Cond.code y cc maxL ret :: ws') (hlen : (lg_sl av).length ≤ maxL)
    (body : ∀ (p : Program) (e : Env) (s : State) (m : MethodId) (below : List Frame) (meth : Method) (c : Code) (ls : Array Slot), z_In p s m meth c y cc maxL ret ws av → z_K G s → s.heap.size = sz → z_W G (z_A u sz) u s.heap → lv_has ls maxL (lv_args 0 av) → z_St (z_A u sz) s s.heap →
      W p l e (headSpec ws rm).room s m av.toArray below meth c s.heap [] 0 0 (MQ below Qc av.toArray s mc ms (z_A u sz)) (F0 m 0 ls [])) : Met l y ws rm (z_PcS G u av sz) Qc mc ms (z_A u sz) := by
  refine Met.ofW (cc := cc) (maxL := maxL) (ret := ret) hy hw ?_
  intro p e s m args below meth c s₁ B hml hv
  obtain ⟨rfl, hsz, ⟨hK, hW⟩, hSt⟩ := hv
  have hts := atoms_spec (ws := ws) B.pre
  have hown : s.vm.findClass y.cls = some m.cls := findClass_of_methodNamed B.named
  rw [lg_entry_eq]
  exact body p e s m below meth c _ ⟨B.exec, B.bytes, B.returns, hml, hown, hts, B.notSynchronized, (name_of_methodNamed B.named B.method).1⟩ hK hsz hW (lv_entry av hlen) hSt
/-! cells made in a method's course, of which the world need not know -/
section ZNF
variable {p : Program} {l : Launch} {e : Env} {R : Room} {s : State} {m : MethodId} {args : Array Value} {below : List Frame} {meth : Method} {c : Code} {H : Heap} {locs : List Loc} {cells slots : Nat} {Q : State → Prop}
variable {cc : ByteArray} {pc : Nat} {ls : Array Slot} {rest : List Value} {G : z_G} {A : Nat → Prop} {H0 : Heap} {u : z_U}
theorem z_aast (hexec : p.tables.exec = Jvm.exec) (hb : c.code = cc) {sh : Nat → Option z_S} {ad : Nat → Nat} {I : z_I} {J : z_J} {P : z_P} {i j n ci N : Nat} {C : String} {T : u_T} (hK : z_K G s) (hW : z_W G A (sh, ad, I, J, P) H) (hS : va_S A H0 H locs) (hi : sh i = some (.inl (.object C, n))) (hty : .object C ∈ z_tys) (hj : sh j = some (.inr ci)) (hc : vwCl[ci]? = some (C, T, N)) {x : Int32} (hin : vp_in x n) (hdg : decode cc pc = .ok (.aastore, 1))
    (kk : ∀ (H1 : Heap) (locs1 : List Loc), H1.size = H.size → z_W G A (sh, ad, I, J, z_up P i x.toNatClampNeg (some (ad j))) H1 → va_S A H0 H1 locs1 → W p l e R s m args below meth c H1 locs1 cells slots Q (F0 m (pc + 1) ls rest)) : W p l e R s m args below meth c H locs cells slots Q (F0 m pc ls (.ref (ad j) :: .int x :: .ref (ad i) :: rest)) := by
  have hlt : x.toNatClampNeg < n := Nat.not_le.mp fun q => hin (Or.inr q)
  have h0 : ¬ x < 0 := fun q => hin (Or.inl q)
  obtain ⟨r, h1, cell, q1, q2, q3, q4⟩ := hW.1 j _ hj
  have hr : r = (C, T, N) := Option.some.inj (h1.symm.trans hc)
  subst hr
  have hcls := (hK.1 ci _ hc).2
  obtain ⟨kA, comp, k1, k2, k3, -⟩ := (hK.2.1 _ hty).2
  have hcomp : comp = G.1.1 ci := Option.some.inj (k3.symm.trans hcls.1)
  subst hcomp
  obtain ⟨kC, hkC, -⟩ := hcls.2
  refine W.aast hexec hb (hW.1 i _ hi) (fun q h => by cases h) (fun h => by cases h) k1 k2 rfl hkC ⟨h0, by show _ < (arrV _ _ _).slots.size; rw [arrV_size]; exact hlt⟩ q1 (fun q h => by rw [q3] at h; cases h) (by rw [q2]; exact hkC) (by rw [q2]; exact va_assign hcls) rfl rfl hdg fun H1 e1 z oq => ?_
  refine kk H1 _ z (hW.one rfl rfl hi ?_ oq (fun a ha ty b => z_vP (Or.inl ha) ty)) (hS.put z oq (hW.2.2 i (z_ne hi)))
  show H1[ad i]? = some (arrV (G.2 (.object C)) n _)
  rw [e1]
  rw [arrV_store]
  congr 2
  funext q
  by_cases hq : q = x.toNatClampNeg
  · subst hq
    simp [updV, z_v, z_up, va_rf]
  · simp [updV, z_v, z_up, hq]
end ZNF
