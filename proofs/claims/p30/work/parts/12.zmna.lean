theorem z_outer (c : ClassId) (N h0 : Nat) : ∀ i : Nat, Jvm.Free.Multi.outerC c N h0 i = arrV c N (fun j => va_rf (if j < i then some (h0 + 1 + j) else none))
  | 0 => by
    show ({ cls := c, slots := Array.replicate N .null, vm := .none } : Cell) = _
    rw [arrV_new]
    refine congrArg (arrV c N) (funext fun j => ?_)
    simp [va_rf]
  | i + 1 => by
    show (Jvm.Free.Multi.outerC c N h0 i).setSlot i (.ref (h0 + 1 + i)) = _
    rw [z_outer c N h0 i, arrV_store]
    refine congrArg (arrV c N) (funext fun j => ?_)
    by_cases e : j = i
    · subst e
      simp [updV, va_rf]
    · by_cases h : j < i
      · simp [updV, e, h, Nat.lt_succ_of_lt h]
      · simp [updV, e, h, show ¬ j < i + 1 by omega]
section ZN
variable {p : Program} {l : Launch} {e : Env} {R : Room} {s : State} {m : MethodId} {args : Array Value} {below : List Frame} {meth : Method} {c : Code} {H : Heap} {locs : List Loc} {cells slots : Nat} {Q : State → Prop}
variable {cc : ByteArray} {pc : Nat} {ls : Array Slot} {rest : List Value} {G : z_G} {A : Nat → Prop} {H0 : Heap} {sh : Nat → Option z_S} {ad : Nat → Nat} {I : z_I} {J : z_J} {P : z_P}
/-- new int[n][k]: the outer array is cell i, the inner ones those behind it -/
theorem z_mna (i : Nat) (hexec : p.tables.exec = Jvm.exec) (hb : c.code = cc) {own : String} {index : Nat} (hown : s.vm.findClass own = some m.cls) (hclink : (Cond.classLink own index "[[I").before args s = true) (harr : (Cond.arrayClass .int).before args s = true)
    (hK : z_K G s) (hW : z_W G A (sh, ad, I, J, P) H) (hS : va_S A H0 H locs) (hA : ∀ q : Nat, H0.size ≤ q → A q) (had : ∀ k i, ad (i + k) = ad i + k) (h1 : ad i = H.size) {n k : Int32} {N' K' : Nat} (hv : ∀ a b, i < a → I a b = 0) (hp : ∀ b, P i b = none) (hn : ¬ n < 0) (hk : ¬ k < 0) (hN : n.toNatClampNeg = N') (hM : k.toNatClampNeg = K')
    (hb1 : N' * 4 ≤ 536870912) (hb2 : K' * componentBytes .int ≤ 536870912) (hb3 : K' ≤ 536870912) (hcells : cells + (1 + N') ≤ R.cells) (hslots : slots + (N' + N' * K') ≤ R.slots) (hdg : decode cc pc = .ok (.multianewarray index 2, 4))
    (kk : ∀ (H1 : Heap), H1.size = H.size + (1 + N') → z_W G A (z_shr (z_sh sh i (.inl (.array .int, N'))) i K' N', ad, I, J, z_pr P i ad) H1 → va_S A H0 H1 locs → W p l e R s m args below meth c H1 locs (cells + (1 + N')) (slots + (N' + N' * K')) Q (F0 m (pc + 4) ls (.ref (ad i) :: rest))) : W p l e R s m args below meth c H locs cells slots Q (F0 m pc ls (.int k :: .int n :: rest)) := by
  subst hN
  subst hM
  intro T hT Xs
  obtain ⟨vm₁, cA, comp, -, fA, fC, hO, -, X', step⟩ := Xs.multianewarray2F hexec hown hclink (hK.2.2.2.2.use) harr (g := F0 m pc ls (.int k :: .int n :: rest)) rfl (by rw [hb]; exact hdg) rfl hn hk hb1 hb2 hb3 rfl rfl hcells hslots
  have hcy : s.vm.findClass (FieldType.array .int).toString = some (G.2 .int) := (hK.2.1 .int (by simp [z_tys])).2
  have ec : some (G.2 .int) = some comp := hcy.symm.trans fC
  cases ec
  have hcA : G.2 (.array .int) = cA := Option.some.inj (((hK.2.1 (.array .int) (by simp [z_tys])).2).symm.trans fA)
  generalize hF : Jvm.Free.Multi.fill (T.setVm vm₁) cA (G.2 .int) n.toNatClampNeg k.toNatClampNeg (defaultValue .int) n.toNatClampNeg = F at X' step
  have hTh : (T.setVm vm₁).heap = H := hT
  obtain ⟨f1, f2, -, -⟩ := Jvm.Free.Multi.fill_facts (T.setVm vm₁) cA (G.2 .int) n.toNatClampNeg k.toNatClampNeg (defaultValue .int) n.toNatClampNeg
  rw [hF, hTh] at f1 f2
  have hold : ∀ x : Nat, x < H.size → F.heap[x]? = H[x]? := fun x hx => by
    have := Jvm.Free.Multi.fill_old (T.setVm vm₁) cA (G.2 .int) n.toNatClampNeg k.toNatClampNeg (defaultValue .int) (a := x) (by rw [hTh]; exact hx) n.toNatClampNeg
    rw [hF, hTh] at this
    exact this
  have hrow : ∀ j : Nat, j < n.toNatClampNeg → F.heap[H.size + 1 + j]? = some (Jvm.Free.Multi.innerC (G.2 .int) k.toNatClampNeg (defaultValue .int)) := fun j hj => by
    have := Jvm.Free.Multi.fill_inner (T.setVm vm₁) cA (G.2 .int) n.toNatClampNeg k.toNatClampNeg (defaultValue .int) n.toNatClampNeg j hj
    rw [hF, hTh] at this
    exact this
  have hz : Jvm.Free.Multi.innerC (G.2 .int) k.toNatClampNeg (defaultValue .int) = arrV (G.2 .int) k.toNatClampNeg (fun _ => .int 0) := arrV_new _ _ _
  have hsz : F.heap.size = H.size + (1 + n.toNatClampNeg) := by
    rw [f1]
    omega
  have w0 : z_W G A (sh, ad, I, J, z_pr P i ad) F.heap := by
    refine ⟨fun j x hj => ?_, hW.2.1, hW.2.2⟩
    have hl := hW.lt (i := j) (z_ne hj)
    refine (hW.1 j x hj).kept rfl (hold _ hl) (fun ty b => ?_)
    have hji : j ≠ i := fun e => by
      have hl' : ad j < H.size := hl
      rw [e, h1] at hl'
      omega
    cases ty <;> simp [z_v, z_pr, hji]
  have w1 : z_W G A (z_sh sh i (.inl (.array .int, n.toNatClampNeg)), ad, I, J, z_pr P i ad) F.heap := by
    refine w0.add2 (fun j hj => by rw [h1]; exact hW.lt hj) (by rw [h1]; exact hA _ hS.1) ?_
    show F.heap[ad i]? = some (arrV (G.2 (.array .int)) n.toNatClampNeg _)
    rw [h1, f2, hcA, z_outer]
    congr 1
    show ({ cls := cA, slots := Array.ofFn (n := n.toNatClampNeg) fun j => va_rf (if j.val < n.toNatClampNeg then some (H.size + 1 + j.val) else none), vm := .none } : Cell) = { cls := cA, slots := Array.ofFn (n := n.toNatClampNeg) fun j => z_v I J (z_pr P i ad) (.array .int) i j.val, vm := .none }
    congr 2
    funext j
    simp only [z_v, z_pr, if_pos, j.isLt]
    rw [show i + 1 + j.val = i + (1 + j.val) by omega, had (1 + j.val) i, h1, Nat.add_assoc]
  have wr : ∀ t : Nat, t ≤ n.toNatClampNeg → z_W G A (z_shr (z_sh sh i (.inl (.array .int, n.toNatClampNeg))) i k.toNatClampNeg t, ad, I, J, z_pr P i ad) F.heap ∧ ∀ j, z_shr (z_sh sh i (.inl (.array .int, n.toNatClampNeg))) i k.toNatClampNeg t j ≠ none → ad j < ad (i + 1 + t) := by
    intro t
    induction t with
    | zero =>
      intro _
      refine ⟨w1, fun j hj => ?_⟩
      have h3 : ad (i + 1 + 0) = ad i + 1 := by rw [Nat.add_zero]; exact had 1 i
      rw [h3, h1]
      by_cases e : j = i
      · rw [e, h1]; omega
      · have h4 : sh j ≠ none := by simpa [z_shr, z_sh, e] using hj
        have := hW.lt (i := j) h4
        have h5 : ad j < H.size := this
        omega
    | succ t ih =>
      intro ht
      obtain ⟨w2, l2⟩ := ih (by omega)
      have h3 : ad (i + 1 + t) = H.size + 1 + t := by rw [Nat.add_assoc, had, h1, Nat.add_assoc]
      have h4 : ad (i + 1 + (t + 1)) = H.size + 1 + t + 1 := by rw [Nat.add_assoc, had, h1]; omega
      refine ⟨w2.add2 l2 (by rw [h3]; exact hA _ (by have := hS.1; omega)) ?_, fun j hj => ?_⟩
      · show F.heap[ad (i + 1 + t)]? = some (arrV (G.2 .int) k.toNatClampNeg _)
        rw [h3, hrow t (by omega), hz]
        congr 2
        funext b
        show Value.int 0 = Value.int (I (i + 1 + t) b)
        rw [hv _ _ (by omega)]
      · by_cases e : j = i + 1 + t
        · rw [e, h3, h4]; omega
        · have h5 : z_shr (z_sh sh i (.inl (.array .int, n.toNatClampNeg))) i k.toNatClampNeg t j ≠ none := by simpa [z_shr, z_sh, e] using hj
          have := l2 j h5
          omega
  obtain ⟨t, a1, b1⟩ := kk F.heap hsz (wr _ (Nat.le_refl _)).1 (z_Sn hS (by omega) hold) F rfl (by first | exact X' | (rw [← Nat.add_assoc slots]; exact X') | simpa [Nat.add_assoc] using X')
  refine ⟨t, step t ?_, b1⟩
  have e : T.heap.size = ad i := by rw [hT, h1]
  rw [e]
  exact a1
end ZN
