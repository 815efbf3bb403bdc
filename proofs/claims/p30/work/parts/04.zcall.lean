/-! contracts over flat memory: from the memory u the method answers r and leaves u1, with 'post r u1'; only cells of u, and new ones, change -/
noncomputable def z_Pc (G : z_G) (u : z_U) (av : List Value) (sz : Nat) : Array Value → State → Prop := va_Pc av (fun U => U.heap.size = sz ∧ z_B G (z_A u sz) u U)
noncomputable def z_M (l : Launch) (y : MethodName) (ws : List Cond) (rm : Room) (av : List Value) (G : z_G) (u : z_U) (post : Int32 → z_U → Prop) (mc ms : Nat) : Prop := ∀ sz : Nat, Met l y ws rm (z_Pc G u av sz) (va_Qi post (z_B G (z_A u sz)) (z_A u sz)) mc ms (z_A u sz)
noncomputable def z_Ml (l : Launch) (y : MethodName) (ws : List Cond) (rm : Room) (av : List Value) (G : z_G) (u : z_U) (post : Int64 → z_U → Prop) (mc ms : Nat) : Prop := ∀ sz : Nat, Met l y ws rm (z_Pc G u av sz) (va_Ql post (z_B G (z_A u sz)) (z_A u sz)) mc ms (z_A u sz)
noncomputable def z_Mv (l : Launch) (y : MethodName) (ws : List Cond) (rm : Room) (av : List Value) (G : z_G) (u : z_U) (post : z_U → Prop) (mc ms : Nat) : Prop := ∀ sz : Nat, Met l y ws rm (z_Pc G u av sz) (va_Qv post (z_B G (z_A u sz)) (z_A u sz)) mc ms (z_A u sz)
theorem z_Pc.blind {G : z_G} {u : z_U} {av : List Value} {sz : Nat} : FrameBlind (z_Pc G u av sz) := by
  intro a U g mk h
  obtain ⟨h1, h2, h3, h4⟩ := h
  exact ⟨h1, h2, z_K.same (u := U) (U := U.calling g mk a) rfl h3, h4⟩
theorem z_preV {G : z_G} {A : Nat → Prop} {u : z_U} {s : State} {H : Heap} {i ci : Nat} {C : String} {T : u_T} {N : Nat} {As : List Value} (hK : z_K G s) (hW : z_W G A u H) (hi : u.1 i = some (.inr ci)) (hc : vwCl[ci]? = some (C, T, N)) : PreV s H C (u.2.1 i) (z_Pc G u (.ref (u.2.1 i) :: As) H.size) As := by
  refine ⟨z_Pc.blind, ?_, fun U hU hWm => ⟨rfl, by rw [hU], hK.warm hWm, by rw [hU]; exact hW.self⟩⟩
  obtain ⟨r, h1, cell, q1, q2, q3, q4⟩ := hW.1 i _ hi
  have hr : r = (C, T, N) := Option.some.inj (h1.symm.trans hc)
  subst hr
  exact ⟨cell, q1, by rw [q3]; rfl, by rw [q2]; exact (hK.1 ci _ hc).2.1⟩
theorem z_preS {G : z_G} {A : Nat → Prop} {u : z_U} {s : State} {H : Heap} {As : List Value} (hK : z_K G s) (hW : z_W G A u H) : PreS s H (z_Pc G u As H.size) As :=
  ⟨z_Pc.blind, fun U hU hWm => ⟨rfl, by rw [hU], hK.warm hWm, by rw [hU]; exact hW.self⟩⟩
section ZC
variable {p : Program} {l : Launch} {e : Env} {R : Room} {s : State} {m : MethodId} {args : Array Value} {below : List Frame} {meth : Method} {c : Code} {H : Heap} {locs : List Loc} {cells slots : Nat} {Q : State → Prop}
variable {cc : ByteArray} {pc : Nat} {ls : Array Slot} {rest st0 : List Value} {a : Array Value} {G : z_G} {A : Nat → Prop} {H0 : Heap} {u : z_U} {mc ms : Nat}
theorem z_ci {post : Int32 → z_U → Prop} (hW : z_W G A u H) (hS : va_S A H0 H locs) (hA : ∀ q : Nat, H0.size ≤ q → A q) (hr : va_Run p l e R s m args below meth c H locs cells slots mc ms (F0 m pc ls st0) rest (va_Qi post (z_B G (z_A u H.size)) (z_A u H.size) a) (z_A u H.size))
    (kk : ∀ (r : Int32) (u1 : z_U) (H1 : Heap) (locs1 : List Loc), post r u1 → z_W G A u1 H1 → va_S A H0 H1 locs1 → W p l e R s m args below meth c H1 locs1 (cells + mc) (slots + ms) Q (F0 m (pc + 3) ls (.int r :: rest))) : W p l e R s m args below meth c H locs cells slots Q (F0 m pc ls st0) :=
  va_calli hr hS (fun q _ h => hW.free hS hA q h) (hW.free hS hA) (fun r u1 t H1 locs1 ht hvm hw hB hz1 hk1 hS1 => kk r u1 H1 locs1 hw (by rw [← ht]; exact hB.2.weaken (hW.free hS hA)) hS1)
theorem z_cl {post : Int64 → z_U → Prop} (hW : z_W G A u H) (hS : va_S A H0 H locs) (hA : ∀ q : Nat, H0.size ≤ q → A q) (hr : va_Run p l e R s m args below meth c H locs cells slots mc ms (F0 m pc ls st0) rest (va_Ql post (z_B G (z_A u H.size)) (z_A u H.size) a) (z_A u H.size))
    (kk : ∀ (r : Int64) (u1 : z_U) (H1 : Heap) (locs1 : List Loc), post r u1 → z_W G A u1 H1 → va_S A H0 H1 locs1 → W p l e R s m args below meth c H1 locs1 (cells + mc) (slots + ms) Q (F0 m (pc + 3) ls (.long r :: rest))) : W p l e R s m args below meth c H locs cells slots Q (F0 m pc ls st0) :=
  va_calll hr hS (fun q _ h => hW.free hS hA q h) (hW.free hS hA) (fun r u1 t H1 locs1 ht hvm hw hB hz1 hk1 hS1 => kk r u1 H1 locs1 hw (by rw [← ht]; exact hB.2.weaken (hW.free hS hA)) hS1)
theorem z_cv {post : z_U → Prop} (hW : z_W G A u H) (hS : va_S A H0 H locs) (hA : ∀ q : Nat, H0.size ≤ q → A q) (hr : va_Run p l e R s m args below meth c H locs cells slots mc ms (F0 m pc ls st0) rest (va_Qv post (z_B G (z_A u H.size)) (z_A u H.size) a) (z_A u H.size))
    (kk : ∀ (u1 : z_U) (H1 : Heap) (locs1 : List Loc), post u1 → z_W G A u1 H1 → va_S A H0 H1 locs1 → W p l e R s m args below meth c H1 locs1 (cells + mc) (slots + ms) Q (F0 m (pc + 3) ls rest)) : W p l e R s m args below meth c H locs cells slots Q (F0 m pc ls st0) :=
  va_callv hr hS (fun q _ h => hW.free hS hA q h) (hW.free hS hA) (fun u1 t H1 locs1 ht hvm hw hB hz1 hk1 hS1 => kk u1 H1 locs1 hw (by rw [← ht]; exact hB.2.weaken (hW.free hS hA)) hS1)
/-- a method's ends -/
theorem z_iret {post : Int32 → z_U → Prop} {v : Int32} (hexec : p.tables.exec = Jvm.exec) (hb : c.code = cc) (hr : meth.sig.returnType = some .int) (hK : z_K G s) (hS : va_S A s.heap H locs) (hc : cells ≤ mc) (hs : slots ≤ ms) (hlocks : meth.locks = false) (hdg : decode cc pc = .ok (.ireturn, 1)) (u1 : z_U) (hW : z_W G A u1 H) (hp : post v u1) : W p l e R s m args below meth c H locs cells slots (MQ below (va_Qi post (z_B G A) A) args s mc ms A) (F0 m pc ls [.int v]) :=
  W.widen hc hs (W.iret hexec hb hr (fun t ht hWm => ⟨⟨v, u1, rfl, hp, hK.warm hWm, by rw [ht]; exact hW⟩, hS.F ht⟩) hS.2.2 hdg hlocks)
theorem z_zret {post : Int32 → z_U → Prop} {v : Int32} (hexec : p.tables.exec = Jvm.exec) (hb : c.code = cc) (hr : meth.sig.returnType = some .boolean) (hn : narrow .boolean (.int v) = .int v) (hK : z_K G s) (hS : va_S A s.heap H locs) (hc : cells ≤ mc) (hs : slots ≤ ms) (hlocks : meth.locks = false) (hdg : decode cc pc = .ok (.ireturn, 1)) (u1 : z_U) (hW : z_W G A u1 H) (hp : post v u1) : W p l e R s m args below meth c H locs cells slots (MQ below (va_Qi post (z_B G A) A) args s mc ms A) (F0 m pc ls [.int v]) :=
  W.widen hc hs (W.zret hexec hb hr hn (fun t ht hWm => ⟨⟨v, u1, rfl, hp, hK.warm hWm, by rw [ht]; exact hW⟩, hS.F ht⟩) hS.2.2 hdg hlocks)
theorem z_lret {post : Int64 → z_U → Prop} {v : Int64} (hexec : p.tables.exec = Jvm.exec) (hb : c.code = cc) (hr : meth.sig.returnType = some .long) (hK : z_K G s) (hS : va_S A s.heap H locs) (hc : cells ≤ mc) (hs : slots ≤ ms) (hlocks : meth.locks = false) (hdg : decode cc pc = .ok (.lreturn, 1)) (u1 : z_U) (hW : z_W G A u1 H) (hp : post v u1) : W p l e R s m args below meth c H locs cells slots (MQ below (va_Ql post (z_B G A) A) args s mc ms A) (F0 m pc ls [.long v]) :=
  W.widen hc hs (W.lret hexec hb hr (fun t ht hWm => ⟨⟨v, u1, rfl, hp, hK.warm hWm, by rw [ht]; exact hW⟩, hS.F ht⟩) hS.2.2 hdg hlocks)
theorem z_vret {post : z_U → Prop} (hexec : p.tables.exec = Jvm.exec) (hb : c.code = cc) (hr : meth.sig.returnType = none) (hK : z_K G s) (hS : va_S A s.heap H locs) (hc : cells ≤ mc) (hs : slots ≤ ms) (hlocks : meth.locks = false) (hdg : decode cc pc = .ok (.return_, 1)) (u1 : z_U) (hW : z_W G A u1 H) (hp : post u1) : W p l e R s m args below meth c H locs cells slots (MQ below (va_Qv post (z_B G A) A) args s mc ms A) (F0 m pc ls []) :=
  W.widen hc hs (W.vret hexec hb hr (fun t ht hWm => ⟨⟨u1, rfl, hp, hK.warm hWm, by rw [ht]; exact hW⟩, hS.F ht⟩) hS.2.2 hdg hlocks)
end ZC
/-- a method that leaves the memory u1, the heap longer by n cells -/
noncomputable def z_Mc (l : Launch) (y : MethodName) (ws : List Cond) (rm : Room) (av : List Value) (G : z_G) (u u1 : z_U) (n mc ms sz : Nat) : Prop := Met l y ws rm (z_Pc G u av sz) (va_Qv (fun u2 : z_U => u2 = u1) (fun u2 t => z_B G (z_A u sz) u2 t ∧ t.heap.size = sz + n) (z_A u sz)) mc ms (z_A u sz)
section ZCC
variable {p : Program} {l : Launch} {e : Env} {R : Room} {s : State} {m : MethodId} {args : Array Value} {below : List Frame} {meth : Method} {c : Code} {H : Heap} {locs : List Loc} {cells slots : Nat} {Q : State → Prop}
variable {cc : ByteArray} {pc : Nat} {ls : Array Slot} {rest st0 : List Value} {a : Array Value} {G : z_G} {A : Nat → Prop} {H0 : Heap} {u u1 : z_U} {mc ms n : Nat}
theorem z_cc (hW : z_W G A u H) (hS : va_S A H0 H locs) (hA : ∀ q : Nat, H0.size ≤ q → A q) (hr : va_Run p l e R s m args below meth c H locs cells slots mc ms (F0 m pc ls st0) rest (va_Qv (fun u2 : z_U => u2 = u1) (fun u2 t => z_B G (z_A u H.size) u2 t ∧ t.heap.size = H.size + n) (z_A u H.size) a) (z_A u H.size))
    (kk : ∀ (H1 : Heap) (locs1 : List Loc), H1.size = H.size + n → z_W G A u1 H1 → va_S A H0 H1 locs1 → W p l e R s m args below meth c H1 locs1 (cells + mc) (slots + ms) Q (F0 m (pc + 3) ls rest)) : W p l e R s m args below meth c H locs cells slots Q (F0 m pc ls st0) :=
  va_callv hr hS (fun q _ h => hW.free hS hA q h) (hW.free hS hA) (fun u2 t H1 locs1 ht hvm hw hB hz1 hk1 hS1 => kk H1 locs1 (by rw [← ht]; exact hB.2) (by rw [← ht, ← hw]; exact hB.1.2.weaken (hW.free hS hA)) hS1)
theorem z_cret {sz : Nat} (hexec : p.tables.exec = Jvm.exec) (hb : c.code = cc) (hr : meth.sig.returnType = none) (hK : z_K G s) (hS : va_S A s.heap H locs) (hc : cells ≤ mc) (hs : slots ≤ ms) (hlocks : meth.locks = false) (hdg : decode cc pc = .ok (.return_, 1)) (hz : H.size = sz + n) (hW : z_W G A u1 H) : W p l e R s m args below meth c H locs cells slots (MQ below (va_Qv (fun u2 : z_U => u2 = u1) (fun u2 t => z_B G A u2 t ∧ t.heap.size = sz + n) A) args s mc ms A) (F0 m pc ls []) :=
  W.widen hc hs (W.vret hexec hb hr (fun t ht hWm => ⟨⟨u1, rfl, rfl, ⟨hK.warm hWm, by rw [ht]; exact hW⟩, by rw [ht]; exact hz⟩, hS.F ht⟩) hS.2.2 hdg hlocks)
end ZCC
/-- what stands at a method's entry -/
noncomputable def z_In (p : Program) (s : State) (m : MethodId) (meth : Method) (c : Code) (y : MethodName) (cc : ByteArray) (maxL : Nat) (ret : Option FieldType) (ws : List Cond) (av : List Value) : Prop :=
  p.tables.exec = Jvm.exec ∧ c.code = cc ∧ meth.sig.returnType = ret ∧ c.maxLocals = maxL ∧ s.vm.findClass y.cls = some m.cls ∧ (∀ w ∈ ws, w.before av.toArray s = true) ∧ meth.locks = false ∧ meth.name = y.name
theorem z_headQ {l : Launch} {y : MethodName} {ws ws' : List Cond} {rm : Room} {av : List Value} {G : z_G} {u : z_U} {sz mc ms maxL : Nat} {cc : ByteArray} {ret : Option FieldType} {Qc : Array Value → State → Outcome → State → Prop} (hy : plainName y.cls = true) (hw : ws = Cond.code y cc maxL ret :: ws') (hlen : (lg_sl av).length ≤ maxL)
    (body : ∀ (p : Program) (e : Env) (s : State) (m : MethodId) (below : List Frame) (meth : Method) (c : Code) (ls : Array Slot), z_In p s m meth c y cc maxL ret ws av → z_K G s → s.heap.size = sz → z_W G (z_A u sz) u s.heap → lv_has ls maxL (lv_args 0 av) →
      W p l e (headSpec ws rm).room s m av.toArray below meth c s.heap [] 0 0 (MQ below Qc av.toArray s mc ms (z_A u sz)) (F0 m 0 ls [])) : Met l y ws rm (z_Pc G u av sz) Qc mc ms (z_A u sz) := by
  refine Met.ofW (cc := cc) (maxL := maxL) (ret := ret) hy hw ?_
  intro p e s m args below meth c s₁ B hml hv
  obtain ⟨rfl, hsz, hK, hW⟩ := hv
  have hts := atoms_spec (ws := ws) B.pre
  have hown : s.vm.findClass y.cls = some m.cls := findClass_of_methodNamed B.named
  rw [lg_entry_eq]
  exact body p e s m below meth c _ ⟨B.exec, B.bytes, B.returns, hml, hown, hts, B.notSynchronized, (name_of_methodNamed B.named B.method).1⟩ hK hsz hW (lv_entry av hlen)
