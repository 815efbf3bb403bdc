theorem dX10_init_0 : decode cX10_init 0 = .ok (.aload_n 0, 1) := by decide +kernel
theorem dX10_init_1 : decode cX10_init 1 = .ok (.invokespecial 3, 3) := by decide +kernel
theorem dX10_init_4 : decode cX10_init 4 = .ok (.aload_n 0, 1) := by decide +kernel
theorem dX10_init_5 : decode cX10_init 5 = .ok (.bipush 30, 2) := by decide +kernel
theorem dX10_init_7 : decode cX10_init 7 = .ok (.newarray .int, 2) := by decide +kernel
theorem dX10_init_9 : decode cX10_init 9 = .ok (.putfield 9, 3) := by decide +kernel
theorem dX10_init_12 : decode cX10_init 12 = .ok (.aload_n 0, 1) := by decide +kernel
theorem dX10_init_13 : decode cX10_init 13 = .ok (.bipush 30, 2) := by decide +kernel
theorem dX10_init_15 : decode cX10_init 15 = .ok (.newarray .int, 2) := by decide +kernel
theorem dX10_init_17 : decode cX10_init 17 = .ok (.putfield 15, 3) := by decide +kernel
theorem dX10_init_20 : decode cX10_init 20 = .ok (.aload_n 0, 1) := by decide +kernel
theorem dX10_init_21 : decode cX10_init 21 = .ok (.bipush 30, 2) := by decide +kernel
theorem dX10_init_23 : decode cX10_init 23 = .ok (.newarray .int, 2) := by decide +kernel
theorem dX10_init_25 : decode cX10_init 25 = .ok (.putfield 18, 3) := by decide +kernel
theorem dX10_init_28 : decode cX10_init 28 = .ok (.aload_n 0, 1) := by decide +kernel
theorem dX10_init_29 : decode cX10_init 29 = .ok (.bipush 30, 2) := by decide +kernel
theorem dX10_init_31 : decode cX10_init 31 = .ok (.newarray .int, 2) := by decide +kernel
theorem dX10_init_33 : decode cX10_init 33 = .ok (.putfield 21, 3) := by decide +kernel
theorem dX10_init_36 : decode cX10_init 36 = .ok (.aload_n 0, 1) := by decide +kernel
theorem dX10_init_37 : decode cX10_init 37 = .ok (.bipush 30, 2) := by decide +kernel
theorem dX10_init_39 : decode cX10_init 39 = .ok (.newarray .int, 2) := by decide +kernel
theorem dX10_init_41 : decode cX10_init 41 = .ok (.putfield 24, 3) := by decide +kernel
theorem dX10_init_44 : decode cX10_init 44 = .ok (.aload_n 0, 1) := by decide +kernel
theorem dX10_init_45 : decode cX10_init 45 = .ok (.bipush 30, 2) := by decide +kernel
theorem dX10_init_47 : decode cX10_init 47 = .ok (.newarray .int, 2) := by decide +kernel
theorem dX10_init_49 : decode cX10_init 49 = .ok (.putfield 27, 3) := by decide +kernel
theorem dX10_init_52 : decode cX10_init 52 = .ok (.aload_n 0, 1) := by decide +kernel
theorem dX10_init_53 : decode cX10_init 53 = .ok (.bipush 30, 2) := by decide +kernel
theorem dX10_init_55 : decode cX10_init 55 = .ok (.newarray .int, 2) := by decide +kernel
theorem dX10_init_57 : decode cX10_init 57 = .ok (.putfield 30, 3) := by decide +kernel
theorem dX10_init_60 : decode cX10_init 60 = .ok (.return_, 1) := by decide +kernel
theorem dX11_station_0 : decode cX11_station 0 = .ok (.aload_n 0, 1) := by decide +kernel
theorem dX11_station_1 : decode cX11_station 1 = .ok (.getfield 178, 3) := by decide +kernel
theorem dX11_station_4 : decode cX11_station 4 = .ok (.aload_n 0, 1) := by decide +kernel
theorem dX11_station_5 : decode cX11_station 5 = .ok (.getfield 50, 3) := by decide +kernel
theorem dX11_station_8 : decode cX11_station 8 = .ok (.arraylength, 1) := by decide +kernel
theorem dX11_station_9 : decode cX11_station 9 = .ok (.if_icmp .lt 5, 3) := by decide +kernel
theorem dX11_station_14 : decode cX11_station 14 = .ok (.aload_n 0, 1) := by decide +kernel
theorem dX11_station_15 : decode cX11_station 15 = .ok (.getfield 50, 3) := by decide +kernel
theorem dX11_station_18 : decode cX11_station 18 = .ok (.aload_n 0, 1) := by decide +kernel
theorem dX11_station_19 : decode cX11_station 19 = .ok (.getfield 178, 3) := by decide +kernel
theorem dX11_station_22 : decode cX11_station 22 = .ok (.new 48, 3) := by decide +kernel
theorem dX11_station_25 : decode cX11_station 25 = .ok (.dup, 1) := by decide +kernel
set_option maxRecDepth 20000 in
theorem ggX11_station_X10_init : GoodIn wsX11_station wsX10_init := goodIn_r _ [7, 8, 9, 10, 11, 12, 13, 14, 15, 16, 17, 18, 32, 33, 34, 35, 36, 37, 38, 39, 40, 41] (by decide +kernel) (by decide +kernel)
set_option maxRecDepth 20000 in
theorem gX11_station_X10_init_n181 : GoodIn wsX11_station (wsX10_init) := ggX11_station_X10_init
theorem dX11_station_26 : decode cX11_station 26 = .ok (.invokespecial 181, 3) := by decide +kernel
theorem dX11_station_29 : decode cX11_station 29 = .ok (.aastore, 1) := by decide +kernel
theorem dX11_station_30 : decode cX11_station 30 = .ok (.aload_n 0, 1) := by decide +kernel
theorem dX11_station_31 : decode cX11_station 31 = .ok (.dup, 1) := by decide +kernel
theorem dX11_station_32 : decode cX11_station 32 = .ok (.getfield 178, 3) := by decide +kernel
theorem dX11_station_35 : decode cX11_station 35 = .ok (.iconst 1, 1) := by decide +kernel
theorem dX11_station_36 : decode cX11_station 36 = .ok (.iadd, 1) := by decide +kernel
theorem dX11_station_37 : decode cX11_station 37 = .ok (.putfield 178, 3) := by decide +kernel
theorem dX11_station_40 : decode cX11_station 40 = .ok (.aload_n 0, 1) := by decide +kernel
theorem dX11_station_41 : decode cX11_station 41 = .ok (.getfield 178, 3) := by decide +kernel
theorem dX11_station_44 : decode cX11_station 44 = .ok (.iconst 1, 1) := by decide +kernel
theorem dX11_station_45 : decode cX11_station 45 = .ok (.isub, 1) := by decide +kernel
theorem dX11_station_46 : decode cX11_station 46 = .ok (.ireturn, 1) := by decide +kernel

/-! cells made in a method's course, of which the world need not know -/
theorem z_W.grow {G : z_G} {A : Nat → Prop} {u : z_U} {H H1 : Heap} (h : z_W G A u H) (hq : ∀ q : Nat, q < H.size → H1[q]? = H[q]?) : z_W G A u H1 :=
  ⟨fun i x hi => (h.1 i x hi).kept rfl (hq _ (h.lt (z_ne hi))) (fun _ _ => rfl), h.2.1, h.2.2⟩
section ZNF
variable {p : Program} {l : Launch} {e : Env} {R : Room} {s : State} {m : MethodId} {args : Array Value} {below : List Frame} {meth : Method} {c : Code} {H : Heap} {locs : List Loc} {cells slots : Nat} {Q : State → Prop}
variable {cc : ByteArray} {pc : Nat} {ls : Array Slot} {rest : List Value} {G : z_G} {A : Nat → Prop} {H0 : Heap} {u : z_U}
theorem z_newF (hexec : p.tables.exec = Jvm.exec) (hb : c.code = cc) (harr : (Cond.arrayClass .int).before args s = true) (hK : z_K G s) (hW : z_W G A u H) (hS : va_S A H0 H locs) {n : Int32} {N' : Nat} (hn : ¬ n < 0) (hN : n.toNatClampNeg = N') (hbytes : N' * componentBytes .int ≤ 536870912) (hcells : cells + 1 ≤ R.cells) (hslots : slots + N' ≤ R.slots) (hdg : decode cc pc = .ok (.newarray .int, 2))
    (kk : ∀ (a : Nat) (H1 : Heap), H.size ≤ a → H1[a]? = some (arrV (G.2 .int) N' (fun _ => .int 0)) → z_W G A u H1 → va_S A H0 H1 locs → W p l e R s m args below meth c H1 locs (cells + 1) (slots + N') Q (F0 m (pc + 2) ls (.ref a :: rest))) : W p l e R s m args below meth c H locs cells slots Q (F0 m pc ls (.int n :: rest)) := by
  refine va_newaK (atype := .int) hexec hb harr rfl hdg rfl hn hN hbytes hcells hslots rfl fun H1 cA e1 z1 o1 hAr hNm => ?_
  have hcA : G.2 .int = cA := by
    have h : s.vm.findClass ("[" ++ (FieldType.int).toString) = some (G.2 .int) := (hK.2.1 .int (by simp [z_tys])).2
    exact Option.some.inj (h.symm.trans hNm)
  exact kk H.size H1 (Nat.le_refl _) (by rw [hcA]; exact e1) (hW.grow o1) (z_Sn hS (by omega) o1)
theorem z_copy0 (hexec : p.tables.exec = Jvm.exec) (hb : c.code = cc) (hml : c.maxLocals = ls.size) {own : String} {index : Nat} (hown : s.vm.findClass own = some m.cls) (hlink : (Cond.methodLink own index arraycopyName).before args s = true) (hnat : (Cond.native arraycopyName).before args s = true) (hstat : (Cond.static arraycopyName).before args s = true) (hini : (Cond.initialized "java/lang/System").before args s = true)
    (hK : z_K G s) (hW : z_W G A u H) (hS : va_S A H0 H locs) {i n N' a : Nat} (hi : u.1 i = some (.inl (.int, n))) (ha : H[a]? = some (arrV (G.2 .int) N' (fun _ => .int 0))) (hframes : 1 ≤ R.frames) (hlocals : (rest.map fun v => v.category).sum + (nativeFrameWords "java/lang/System" "arraycopy" 5 + 11) ≤ R.locals) (hdg : decode cc pc = .ok (.invokestatic index, 3))
    (kk : ∀ (H1 : Heap), z_W G A u H1 → va_S A H0 H1 locs → W p l e R s m args below meth c H1 locs cells slots Q (F0 m (pc + 3) ls rest)) : W p l e R s m args below meth c H locs cells slots Q (F0 m pc ls (.int 0 :: .int 0 :: .ref a :: .int 0 :: .ref (u.2.1 i) :: rest)) := by
  obtain ⟨sh, ad, I, J, P⟩ := u
  intro T hT X
  have hc0 : H[ad i]? = some (vp_cell (G.2 .int) (n, .inl (I i))) := hW.1 i _ hi
  have hc1 : H[a]? = some (vp_cell (G.2 .int) (N', .inl (fun _ => (0 : Int32)))) := ha
  obtain ⟨-, k0, hk0, cm0, hkk0⟩ := (hK.2.1 .int (by simp [z_tys])).1 n (fun j => .int (I i j))
  have z0 : (0 : Int32).toInt = 0 := by decide
  obtain ⟨vm', X', step⟩ := X.arraycopy hexec hown hlink hnat hstat hini (src := ad i) (dst := a) (cs := vp_cell (G.2 .int) (n, .inl (I i))) (cd := vp_cell (G.2 .int) (N', .inl (fun _ => (0 : Int32)))) (srcPos := 0) (destPos := 0) (n := 0) (by rw [hT]; exact hc0) (by rw [hT]; exact hc1)
    (fun _ h => by cases h) (fun _ h => by cases h) (fun h => by cases h) (fun h => by cases h) hk0 hk0 hkk0 hkk0 (by first | rfl | simp [refKind]) (by decide) (by decide) (by decide)
    (by rw [z0]; omega)
    (by rw [z0]; omega)
    (fun vm₁ _ i hi => (Nat.not_lt_zero i hi).elim)
    (g := F0 m pc ls (.int 0 :: .int 0 :: .ref a :: .int 0 :: .ref (ad i) :: rest)) rfl (by rw [hml]) (rest := rest) rfl (by rw [hb]; exact hdg) hframes (by show 2 * 0 + _ + _ ≤ _; omega)
  have e1 : copied (vp_cell (G.2 .int) (n, .inl (I i))) (vp_cell (G.2 .int) (N', .inl (fun _ => (0 : Int32)))) 0 0 0 = vp_cell (G.2 .int) (N', .inl (fun _ => (0 : Int32))) := by
    refine (va_copied (fun z => .int z) (G.2 .int) (G.2 .int) (sp := 0) (dp := 0) (n := 0) (I i) (fun _ => (0 : Int32)) (Nat.zero_le _)).trans ?_
    show vp_cell (G.2 .int) (N', .inl (va_cpy (I i) (fun _ => (0 : Int32)) 0 0 0)) = vp_cell (G.2 .int) (N', .inl (fun _ => (0 : Int32)))
    rw [show va_cpy (I i) (fun _ => (0 : Int32)) 0 0 0 = (fun _ => (0 : Int32)) from by
      funext k
      simp [va_cpy]]
  rw [e1] at X' step
  have hl : a < H.size := (Array.getElem?_eq_some_iff.mp hc1).1
  have hheap : ((T.setVm vm').setCell a (vp_cell (G.2 .int) (N', .inl (fun _ => (0 : Int32))))).heap = H.setIfInBounds a (vp_cell (G.2 .int) (N', .inl (fun _ => (0 : Int32)))) := by rw [← hT]; rfl
  have oq : ∀ q : Nat, (H.setIfInBounds a (vp_cell (G.2 .int) (N', .inl (fun _ => (0 : Int32)))))[q]? = H[q]? := fun q => by
    by_cases hq : q = a
    · rw [hq, hc1]
      simp [Array.getElem?_setIfInBounds, hl]
    · simp [Array.getElem?_setIfInBounds, Ne.symm hq]
  obtain ⟨t, a1, b1⟩ := kk _ (hW.grow (fun q _ => oq q)) (z_Sn hS (by simp) (fun q _ => oq q)) _ hheap (by simpa [Cell.stretch] using X')
  exact ⟨t, step t a1, b1⟩
theorem z_aast (hexec : p.tables.exec = Jvm.exec) (hb : c.code = cc) {sh : Nat → Option z_S} {ad : Nat → Nat} {I : z_I} {J : z_J} {P : z_P} {i j n ci N : Nat} {C : String} {T : u_T} (hK : z_K G s) (hW : z_W G A (sh, ad, I, J, P) H) (hS : va_S A H0 H locs) (hi : sh i = some (.inl (.object C, n))) (hty : .object C ∈ z_tys) (hj : sh j = some (.inr ci)) (hc : vwCl[ci]? = some (C, T, N)) {x : Int32} (hin : vp_in x n) (hdg : decode cc pc = .ok (.aastore, 1))
    (kk : ∀ (H1 : Heap) (locs1 : List Loc), H1.size = H.size → z_W G A (sh, ad, I, J, z_up P i x.toNatClampNeg (some (ad j))) H1 → va_S A H0 H1 locs1 → W p l e R s m args below meth c H1 locs1 cells slots Q (F0 m (pc + 1) ls rest)) : W p l e R s m args below meth c H locs cells slots Q (F0 m pc ls (.ref (ad j) :: .int x :: .ref (ad i) :: rest)) := by
  have hlt : x.toNatClampNeg < n := Nat.not_le.mp fun q => hin (Or.inr q)
  have h0 : ¬ x < 0 := fun q => hin (Or.inl q)
  obtain ⟨r, h1, cell, q1, q2, q3, q4⟩ := hW.1 j _ hj
  have hr : r = (C, T, N) := Option.some.inj (h1.symm.trans hc)
  subst hr
  have hcls := (hK.1 ci _ hc).2
  obtain ⟨kA, comp, k1, k2, k3, -⟩ := (hK.2.1 _ hty).2
  have hcomp : comp = G.1.1 ci := Option.some.inj (k3.symm.trans hcls.1)
  subst hcomp
  obtain ⟨kC, hkC, -⟩ := hcls.2
  refine W.aast hexec hb (hW.1 i _ hi) (fun q h => by cases h) (fun h => by cases h) k1 k2 rfl hkC ⟨h0, by show _ < (arrV _ _ _).slots.size; rw [arrV_size]; exact hlt⟩ q1 (fun q h => by rw [q3] at h; cases h) (by rw [q2]; exact hkC) (by rw [q2]; exact va_assign hcls) rfl rfl hdg fun H1 e1 z oq => ?_
  refine kk H1 _ z (hW.one rfl rfl hi ?_ oq (fun a ha ty b => z_vP (Or.inl ha) ty)) (hS.put z oq (hW.2.2 i (z_ne hi)))
  show H1[ad i]? = some (arrV (G.2 (.object C)) n _)
  rw [e1]
  rw [arrV_store]
  congr 2
  funext q
  by_cases hq : q = x.toNatClampNeg
  · subst hq
    simp [updV, z_v, z_up, va_rf]
  · simp [updV, z_v, z_up, hq]
/-- an answer that is a cell -/
theorem z_qret {mc ms : Nat} {post : Option Nat → z_U → Prop} {a : Nat} {rt : FieldType} (hexec : p.tables.exec = Jvm.exec) (hb : c.code = cc) (hr : meth.sig.returnType = some (.array rt)) (hK : z_K G s) (hS : va_S A s.heap H locs) (hc : cells ≤ mc) (hs : slots ≤ ms) (hlocks : meth.locks = false) (hdg : decode cc pc = .ok (.areturn, 1)) (u1 : z_U) (hW : z_W G A u1 H) (hp : post (some a) u1) : W p l e R s m args below meth c H locs cells slots (MQ below (va_Qq post (z_B G A) A) args s mc ms A) (F0 m pc ls [.ref a]) :=
  W.widen hc hs (W.aret hexec hb hr (Or.inr ⟨_, rfl⟩) (Or.inr ⟨_, rfl⟩) (fun t ht hWm => ⟨⟨some a, u1, rfl, hp, hK.warm hWm, by rw [ht]; exact hW⟩, hS.F ht⟩) hS.2.2 hdg hlocks)
end ZNF
theorem zi_X10_init_X10 : ∀ w ∈ wsX100, w ∈ wsX10_init := fun w h => (List.mem_cons_of_mem _ (List.mem_append_right _ h))
set_option maxHeartbeats 4000000 in
set_option maxRecDepth 100000 in
theorem ct_X10_init (l : Launch) (G : z_G) (ad : Nat → Nat) (P : z_P) : z_Mv l yX10_init wsX10_init { frames := 1, cells := 7, slots := 210, locals := 12 } [.ref (ad 75)] G ((z_sh shX 75 (.inr 10)), ad, IX, JX, P) (fun u1 => ∃ P1 : z_P, u1 = ((z_sh shX 75 (.inr 10)), ad, IX, JX, P1) ∧ ∀ a k, a ≠ 75 → P1 a k = P a k) 7 210 := by
  intro sz
  refine z_headQ (cc := cX10_init) (maxL := 1) (ret := none) (by decide) rfl (Nat.le_of_ble_eq_true rfl) ?_
  intro p e s m below meth c ls hIn hK hsz hW hl
  obtain ⟨hx, hb, hr, hml, hown, hts, hlocks, hname⟩ := hIn
  subst hsz
  have hown : s.vm.findClass RX10 = some m.cls := hown
  have hA : ∀ q : Nat, s.heap.size ≤ q → z_A ((z_sh shX 75 (.inr 10)), ad, IX, JX, P) s.heap.size q := fun q h => Or.inr h
  generalize hAe : z_A ((z_sh shX 75 (.inr 10)), ad, IX, JX, P) s.heap.size = A at *
  have hS : va_S A s.heap s.heap [] := va_S.rf
  have hl : lv_has ls 1 [(0, .ref (ad 75))] := hl
  have hname : meth.name = "<init>" := hname
  refine lv_aload_n hx hb dX10_init_0 rfl (lv_at hl 0 rfl) ?_
  refine W.objInit hx hb hown (hts (.methodLink RX10 3 objectInit) (List.mem_of_getElem? (i := 1) rfl)) (hts (.instanceMethod objectInit) (List.mem_of_getElem? (i := 2) rfl)) (hts (.code objectInit ⟨#[0xb1]⟩ 1 none) (List.mem_of_getElem? (i := 3) rfl)) rfl (by rw [hml]; exact hl.1) rfl dX10_init_1 (Nat.le_of_ble_eq_true rfl) (Nat.le_of_ble_eq_true rfl) ?_
  refine W.eq (g2 := F0 m 4 ls []) rfl ?_
  refine lv_aload_n hx hb dX10_init_4 rfl (lv_at hl 0 rfl) ?_
  refine lv_bipush (v := 30) hx hb dX10_init_5 (by decide) ?_
  refine z_newF (N' := 30) hx hb (hts (.arrayClass .int) (List.mem_of_getElem? (i := 4) rfl)) hK hW hS (by decide) rfl (Nat.le_of_ble_eq_true rfl) (Nat.le_of_ble_eq_true rfl) (Nat.le_of_ble_eq_true rfl) dX10_init_7 (fun q1 H hq1 hq1 hW hS => ?_)
  refine z_putF (T := TX10) (N := 10) (ci := 10) (i := 75) (v := .ref q1) (I1 := IX) (J1 := JX) (P1 := (z_up P 75 0 (some q1))) hx hb hts zi_X10_init_X10 tyX10 tyX10_ok nmX10 hown hK hW hS rfl rfl 0 (by decide) (hts (.fieldLink RX10 9 "PetrolBoard$Station" "told" "[I") (List.mem_of_getElem? (i := 5) rfl)) (fun _ h => h) rfl hname rfl rfl rfl (by first | rfl | exact congrArg _ z_up_s) (fun a b h ty => z_vP h ty) dX10_init_9 (fun H locs hz1 hW hS => ?_)
  obtain ⟨P2, eP2⟩ : ∃ J : z_P, J = (z_up P 75 0 (some q1)) := ⟨_, rfl⟩
  rw [← eP2] at hW
  refine lv_aload_n hx hb dX10_init_12 rfl (lv_at hl 0 rfl) ?_
  refine lv_bipush (v := 30) hx hb dX10_init_13 (by decide) ?_
  refine z_newF (N' := 30) hx hb (hts (.arrayClass .int) (List.mem_of_getElem? (i := 4) rfl)) hK hW hS (by decide) rfl (Nat.le_of_ble_eq_true rfl) (Nat.le_of_ble_eq_true rfl) (Nat.le_of_ble_eq_true rfl) dX10_init_15 (fun q3 H hq1 hq3 hW hS => ?_)
  refine z_putF (T := TX10) (N := 10) (ci := 10) (i := 75) (v := .ref q3) (I1 := IX) (J1 := JX) (P1 := (z_up P2 75 1 (some q3))) hx hb hts zi_X10_init_X10 tyX10 tyX10_ok nmX10 hown hK hW hS rfl rfl 1 (by decide) (hts (.fieldLink RX10 15 "PetrolBoard$Station" "dipDay" "[I") (List.mem_of_getElem? (i := 6) rfl)) (fun _ h => h) rfl hname rfl rfl rfl (by first | rfl | exact congrArg _ z_up_s) (fun a b h ty => z_vP h ty) dX10_init_17 (fun H locs hz1 hW hS => ?_)
  obtain ⟨P4, eP4⟩ : ∃ J : z_P, J = (z_up P2 75 1 (some q3)) := ⟨_, rfl⟩
  rw [← eP4] at hW
  refine lv_aload_n hx hb dX10_init_20 rfl (lv_at hl 0 rfl) ?_
  refine lv_bipush (v := 30) hx hb dX10_init_21 (by decide) ?_
  refine z_newF (N' := 30) hx hb (hts (.arrayClass .int) (List.mem_of_getElem? (i := 4) rfl)) hK hW hS (by decide) rfl (Nat.le_of_ble_eq_true rfl) (Nat.le_of_ble_eq_true rfl) (Nat.le_of_ble_eq_true rfl) dX10_init_23 (fun q5 H hq1 hq5 hW hS => ?_)
  refine z_putF (T := TX10) (N := 10) (ci := 10) (i := 75) (v := .ref q5) (I1 := IX) (J1 := JX) (P1 := (z_up P4 75 2 (some q5))) hx hb hts zi_X10_init_X10 tyX10 tyX10_ok nmX10 hown hK hW hS rfl rfl 2 (by decide) (hts (.fieldLink RX10 18 "PetrolBoard$Station" "deliveredThen" "[I") (List.mem_of_getElem? (i := 7) rfl)) (fun _ h => h) rfl hname rfl rfl rfl (by first | rfl | exact congrArg _ z_up_s) (fun a b h ty => z_vP h ty) dX10_init_25 (fun H locs hz1 hW hS => ?_)
  obtain ⟨P6, eP6⟩ : ∃ J : z_P, J = (z_up P4 75 2 (some q5)) := ⟨_, rfl⟩
  rw [← eP6] at hW
  refine lv_aload_n hx hb dX10_init_28 rfl (lv_at hl 0 rfl) ?_
  refine lv_bipush (v := 30) hx hb dX10_init_29 (by decide) ?_
  refine z_newF (N' := 30) hx hb (hts (.arrayClass .int) (List.mem_of_getElem? (i := 4) rfl)) hK hW hS (by decide) rfl (Nat.le_of_ble_eq_true rfl) (Nat.le_of_ble_eq_true rfl) (Nat.le_of_ble_eq_true rfl) dX10_init_31 (fun q7 H hq1 hq7 hW hS => ?_)
  refine z_putF (T := TX10) (N := 10) (ci := 10) (i := 75) (v := .ref q7) (I1 := IX) (J1 := JX) (P1 := (z_up P6 75 3 (some q7))) hx hb hts zi_X10_init_X10 tyX10 tyX10_ok nmX10 hown hK hW hS rfl rfl 3 (by decide) (hts (.fieldLink RX10 21 "PetrolBoard$Station" "pouredThen" "[I") (List.mem_of_getElem? (i := 8) rfl)) (fun _ h => h) rfl hname rfl rfl rfl (by first | rfl | exact congrArg _ z_up_s) (fun a b h ty => z_vP h ty) dX10_init_33 (fun H locs hz1 hW hS => ?_)
  obtain ⟨P8, eP8⟩ : ∃ J : z_P, J = (z_up P6 75 3 (some q7)) := ⟨_, rfl⟩
  rw [← eP8] at hW
  refine lv_aload_n hx hb dX10_init_36 rfl (lv_at hl 0 rfl) ?_
  refine lv_bipush (v := 30) hx hb dX10_init_37 (by decide) ?_
  refine z_newF (N' := 30) hx hb (hts (.arrayClass .int) (List.mem_of_getElem? (i := 4) rfl)) hK hW hS (by decide) rfl (Nat.le_of_ble_eq_true rfl) (Nat.le_of_ble_eq_true rfl) (Nat.le_of_ble_eq_true rfl) dX10_init_39 (fun q9 H hq1 hq9 hW hS => ?_)
  refine z_putF (T := TX10) (N := 10) (ci := 10) (i := 75) (v := .ref q9) (I1 := IX) (J1 := JX) (P1 := (z_up P8 75 7 (some q9))) hx hb hts zi_X10_init_X10 tyX10 tyX10_ok nmX10 hown hK hW hS rfl rfl 7 (by decide) (hts (.fieldLink RX10 24 "PetrolBoard$Station" "low" "[I") (List.mem_of_getElem? (i := 9) rfl)) (fun _ h => h) rfl hname rfl rfl rfl (by first | rfl | exact congrArg _ z_up_s) (fun a b h ty => z_vP h ty) dX10_init_41 (fun H locs hz1 hW hS => ?_)
  obtain ⟨P10, eP10⟩ : ∃ J : z_P, J = (z_up P8 75 7 (some q9)) := ⟨_, rfl⟩
  rw [← eP10] at hW
  refine lv_aload_n hx hb dX10_init_44 rfl (lv_at hl 0 rfl) ?_
  refine lv_bipush (v := 30) hx hb dX10_init_45 (by decide) ?_
  refine z_newF (N' := 30) hx hb (hts (.arrayClass .int) (List.mem_of_getElem? (i := 4) rfl)) hK hW hS (by decide) rfl (Nat.le_of_ble_eq_true rfl) (Nat.le_of_ble_eq_true rfl) (Nat.le_of_ble_eq_true rfl) dX10_init_47 (fun q11 H hq1 hq11 hW hS => ?_)
  refine z_putF (T := TX10) (N := 10) (ci := 10) (i := 75) (v := .ref q11) (I1 := IX) (J1 := JX) (P1 := (z_up P10 75 8 (some q11))) hx hb hts zi_X10_init_X10 tyX10 tyX10_ok nmX10 hown hK hW hS rfl rfl 8 (by decide) (hts (.fieldLink RX10 27 "PetrolBoard$Station" "high" "[I") (List.mem_of_getElem? (i := 10) rfl)) (fun _ h => h) rfl hname rfl rfl rfl (by first | rfl | exact congrArg _ z_up_s) (fun a b h ty => z_vP h ty) dX10_init_49 (fun H locs hz1 hW hS => ?_)
  obtain ⟨P12, eP12⟩ : ∃ J : z_P, J = (z_up P10 75 8 (some q11)) := ⟨_, rfl⟩
  rw [← eP12] at hW
  refine lv_aload_n hx hb dX10_init_52 rfl (lv_at hl 0 rfl) ?_
  refine lv_bipush (v := 30) hx hb dX10_init_53 (by decide) ?_
  refine z_newF (N' := 30) hx hb (hts (.arrayClass .int) (List.mem_of_getElem? (i := 4) rfl)) hK hW hS (by decide) rfl (Nat.le_of_ble_eq_true rfl) (Nat.le_of_ble_eq_true rfl) (Nat.le_of_ble_eq_true rfl) dX10_init_55 (fun q13 H hq1 hq13 hW hS => ?_)
  refine z_putF (T := TX10) (N := 10) (ci := 10) (i := 75) (v := .ref q13) (I1 := IX) (J1 := JX) (P1 := (z_up P12 75 9 (some q13))) hx hb hts zi_X10_init_X10 tyX10 tyX10_ok nmX10 hown hK hW hS rfl rfl 9 (by decide) (hts (.fieldLink RX10 30 "PetrolBoard$Station" "in" "[I") (List.mem_of_getElem? (i := 11) rfl)) (fun _ h => h) rfl hname rfl rfl rfl (by first | rfl | exact congrArg _ z_up_s) (fun a b h ty => z_vP h ty) dX10_init_57 (fun H locs hz1 hW hS => ?_)
  obtain ⟨P14, eP14⟩ : ∃ J : z_P, J = (z_up P12 75 9 (some q13)) := ⟨_, rfl⟩
  rw [← eP14] at hW
  exact z_vret hx hb hr hK hS (Nat.le_of_ble_eq_true rfl) (Nat.le_of_ble_eq_true rfl) hlocks dX10_init_60 ((z_sh shX 75 (.inr 10)), ad, IX, JX, P14) hW ⟨_, rfl, fun a k h => by rw [eP14, z_up_n h, eP12, z_up_n h, eP10, z_up_n h, eP8, z_up_n h, eP6, z_up_n h, eP4, z_up_n h, eP2, z_up_n h]⟩
theorem zi_X11_station_X10 : ∀ w ∈ wsX100, w ∈ wsX11_station := fun w h => (List.mem_cons_of_mem _ (List.mem_append_right _ h))
theorem zi_X11_station_X11 : ∀ w ∈ wsX110, w ∈ wsX11_station := fun w h => (List.mem_cons_of_mem _ (List.mem_append_left _ (List.mem_append_right _ h)))
set_option maxHeartbeats 4000000 in
set_option maxRecDepth 100000 in
theorem ct_X11_station (l : Launch) (G : z_G) (ad : Nat → Nat) : z_M l yX11_station wsX11_station { frames := 2, cells := 8, slots := 220, locals := 32 } [.ref (ad 0)] G (shX, ad, IX, JX, PX ad) (fun r u1 => r = 0) 8 220 := by
  intro sz
  refine z_headQ (cc := cX11_station) (maxL := 1) (ret := (some .int)) (by decide) rfl (Nat.le_of_ble_eq_true rfl) ?_
  intro p e s m below meth c ls hIn hK hsz hW hl
  obtain ⟨hx, hb, hr, hml, hown, hts, hlocks, hname⟩ := hIn
  subst hsz
  have hown : s.vm.findClass RX11 = some m.cls := hown
  have hA : ∀ q : Nat, s.heap.size ≤ q → z_A (shX, ad, IX, JX, PX ad) s.heap.size q := fun q h => Or.inr h
  generalize hAe : z_A (shX, ad, IX, JX, PX ad) s.heap.size = A at *
  have hS : va_S A s.heap s.heap [] := va_S.rf
  have hl : lv_has ls 1 [(0, .ref (ad 0))] := hl
  refine lv_aload_n hx hb dX11_station_0 rfl (lv_at hl 0 rfl) ?_
  refine z_get (T := TX11) (N := 13) (ci := 11) (i := 0) (v := .int 0) hx hb hts zi_X11_station_X11 hown hK hW rfl rfl 8 (by decide) (hts (.fieldLink RX11 178 "PetrolBoard" "stationNumber" "I") (List.mem_of_getElem? (i := 1) rfl)) (fun _ h => h) rfl dX11_station_1 ?_
  refine lv_aload_n hx hb dX11_station_4 rfl (lv_at hl 0 rfl) ?_
  refine z_get (T := TX11) (N := 13) (ci := 11) (i := 0) (v := .ref (ad 39)) hx hb hts zi_X11_station_X11 hown hK hW rfl rfl 7 (by decide) (hts (.fieldLink RX11 50 "PetrolBoard" "stations" "[LPetrolBoard$Station;") (List.mem_of_getElem? (i := 2) rfl)) (fun _ h => h) rfl dX11_station_5 ?_
  refine z_alen (i := 39) (v := 10) hx hb hK hW rfl (by simp [z_tys]) (by rfl) dX11_station_8 ?_
  refine lv_icmp_lt (tgt := 14) hx hb dX11_station_9 (by decide) (fun c1 => ?_) (fun c1 => absurd (by decide) c1)
  refine lv_aload_n hx hb dX11_station_14 rfl (lv_at hl 0 rfl) ?_
  refine z_get (T := TX11) (N := 13) (ci := 11) (i := 0) (v := .ref (ad 39)) hx hb hts zi_X11_station_X11 hown hK hW rfl rfl 7 (by decide) (hts (.fieldLink RX11 50 "PetrolBoard" "stations" "[LPetrolBoard$Station;") (List.mem_of_getElem? (i := 2) rfl)) (fun _ h => h) rfl dX11_station_15 ?_
  refine lv_aload_n hx hb dX11_station_18 rfl (lv_at hl 0 rfl) ?_
  refine z_get (T := TX11) (N := 13) (ci := 11) (i := 0) (v := .int 0) hx hb hts zi_X11_station_X11 hown hK hW rfl rfl 8 (by decide) (hts (.fieldLink RX11 178 "PetrolBoard" "stationNumber" "I") (List.mem_of_getElem? (i := 1) rfl)) (fun _ h => h) rfl dX11_station_19 ?_
  obtain ⟨q2, eq2⟩ : ∃ q : Nat, q = s.heap.size := ⟨_, rfl⟩
  refine z_new 75 (z_ad ad 75 q2) (T := TX10) (N := 10) (ci := 10) hx hb hts zi_X11_station_X10 tyX10 tyX10_ok hown (hts (.classLink RX11 48 RX10) (List.mem_of_getElem? (i := 3) rfl)) (hts (.instantiable RX10 10) (List.mem_of_getElem? (i := 4) rfl)) (hts (.initialized RX10) (List.mem_of_getElem? (i := 5) rfl)) hK hW hS hA (z_ad_s.trans eq2) z_ad_n rfl (fun k hk => (z_v0 rfl rfl rfl (ndX10 k hk)).symm) (Nat.le_of_ble_eq_true rfl) (Nat.le_of_ble_eq_true rfl) dX11_station_22 (fun H hz1 hW hS => ?_)
  have hl : lv_has ls 1 [(0, .ref ((z_ad ad 75 q2) 0))] := hl
  refine lv_dup hx hb dX11_station_25 rfl ?_
  refine z_cv hW hS hA (va_runIN (As := []) (rest := [.ref ((z_ad ad 75 q2) 75), .int 0, .ref ((z_ad ad 75 q2) 39)]) ⟨hx, hb, hml, hown, hts⟩ ((ct_X10_init l G (z_ad ad 75 q2) (PX ad)) _) ⟨va_cnB 0 hts gX11_station_X10_init_n181 rfl rfl rfl (hK.2.2.1 _ (List.mem_of_getElem? (i := 11) rfl)) (hts (.initialized RX10) (List.mem_of_getElem? (i := 5) rfl)) (by decide +kernel) ⟨Nat.le_of_ble_eq_true rfl, Nat.le_of_ble_eq_true rfl⟩, rfl, (hts (.instanceMethod yX10_init) (List.mem_of_getElem? (i := 6) rfl))⟩ (z_preS hK hW) rfl rfl hl.1 rfl (lv_room (Nat.le_of_ble_eq_true rfl)) dX11_station_26 ⟨Nat.le_of_ble_eq_true rfl, Nat.le_of_ble_eq_true rfl⟩) (fun u1 H locs hp hW hS => ?_)
  obtain ⟨P1, e9, hP1⟩ := hp
  rw [e9] at hW
  refine z_aast (i := 39) (j := 75) (x := 0) (ci := 10) hx hb hK hW hS rfl (by simp [z_tys]) rfl rfl (z_inl (by decide)) dX11_station_29 (fun H locs hz1 hW hS => ?_)
  refine lv_aload_n hx hb dX11_station_30 rfl (lv_at hl 0 rfl) ?_
  refine lv_dup hx hb dX11_station_31 rfl ?_
  refine z_get (T := TX11) (N := 13) (ci := 11) (i := 0) (v := .int 0) hx hb hts zi_X11_station_X11 hown hK hW rfl rfl 8 (by decide) (hts (.fieldLink RX11 178 "PetrolBoard" "stationNumber" "I") (List.mem_of_getElem? (i := 1) rfl)) (fun _ h => h) rfl dX11_station_32 ?_
  refine lv_iconst (v := 1) hx hb dX11_station_35 (by decide) ?_
  refine lv_iadd hx hb dX11_station_36 ?_
  refine z_topi (v := 1) (by decide) ?_
  refine z_put (T := TX11) (N := 13) (ci := 11) (i := 0) (v := .int 1) (I1 := (z_up IX 0 8 1)) (J1 := JX) (P1 := z_up P1 39 (0 : Int32).toNatClampNeg (some ((z_ad ad 75 q2) 75))) hx hb hts zi_X11_station_X11 tyX11 tyX11_ok nmX11 hown hK hW hS rfl rfl 8 (by decide) (hts (.fieldLink RX11 178 "PetrolBoard" "stationNumber" "I") (List.mem_of_getElem? (i := 1) rfl)) (fun _ h => h) rfl rfl rfl (by first | rfl | exact congrArg _ z_up_s) (fun a b h ty => z_vI h ty) dX11_station_37 (fun H locs hz1 hW hS => ?_)
  refine lv_aload_n hx hb dX11_station_40 rfl (lv_at hl 0 rfl) ?_
  refine z_get (T := TX11) (N := 13) (ci := 11) (i := 0) (v := .int 1) hx hb hts zi_X11_station_X11 hown hK hW rfl rfl 8 (by decide) (hts (.fieldLink RX11 178 "PetrolBoard" "stationNumber" "I") (List.mem_of_getElem? (i := 1) rfl)) (fun _ h => h) rfl dX11_station_41 ?_
  refine lv_iconst (v := 1) hx hb dX11_station_44 (by decide) ?_
  refine lv_isub hx hb dX11_station_45 ?_
  refine z_topi (v := 0) (by decide) ?_
  exact z_iret hx hb hr hK hS (Nat.le_of_ble_eq_true rfl) (Nat.le_of_ble_eq_true rfl) hlocks dX11_station_46 ((z_sh shX 75 (.inr 10)), (z_ad ad 75 q2), (z_up IX 0 8 1), JX, z_up P1 39 (0 : Int32).toNatClampNeg (some ((z_ad ad 75 q2) 75))) hW rfl
