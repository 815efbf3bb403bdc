theorem hs_shSX128_0 : shSX128 0 = some (.inr 11) := by rfl
noncomputable def PSX130 (ad : Nat → Nat) : z_P := z_up (PSX129 ad) 0 11 (some (ad 60))
noncomputable def shSX131 : Nat → Option z_S := z_sh shSX128 72 (.inr 1)
noncomputable def shSX132 : Nat → Option z_S := z_sh shSX131 73 (.inl (.int, 30))
theorem hs_shSX132_72 : shSX132 72 = some (.inr 1) := rfl
noncomputable def PSX133 (ad : Nat → Nat) : z_P := z_up (PSX130 ad) 72 0 (some (ad 73))
noncomputable def shSX134 : Nat → Option z_S := z_sh shSX132 74 (.inl (.int, 30))
theorem hs_shSX134_72 : shSX134 72 = some (.inr 1) := hs_shSX132_72
noncomputable def PSX135 (ad : Nat → Nat) : z_P := z_up (PSX133 ad) 72 1 (some (ad 74))
theorem zi_X1_init_X1 : ∀ w ∈ wsX10, w ∈ wsX1_init := fun w h => (List.mem_cons_of_mem _ (List.mem_append_right _ h))
set_option maxHeartbeats 8000000 in
set_option maxRecDepth 100000 in
theorem ct_X1_init (l : Launch) (G : z_G) (ad : Nat → Nat) (had : ∀ k i, ad (i + k) = ad i + k) (sz : Nat) (hz : sz = ad 73) : z_Mc l yX1_init wsX1_init { frames := 1, cells := 2, slots := 60, locals := 12 } [.ref (ad 72)] G (shSX131, ad, ISX59, z_J0, (PSX130 ad)) (shSX134, ad, ISX59, z_J0, (PSX135 ad)) 2 2 60 sz := by
  refine z_headQ (cc := cX1_init) (maxL := 1) (ret := none) (by decide) rfl (Nat.le_of_ble_eq_true rfl) ?_
  intro p e s m below meth c ls hIn hK hsz hW hl
  obtain ⟨hx, hb, hr, hml, hown, hts, hlocks, hname⟩ := hIn
  subst hsz
  have hz0 := hz
  have hown : s.vm.findClass RX1 = some m.cls := hown
  have hname : meth.name = "<init>" := hname
  have hA : ∀ q : Nat, s.heap.size ≤ q → z_A (shSX131, ad, ISX59, z_J0, (PSX130 ad)) s.heap.size q := fun q h => Or.inr h
  generalize hAe : z_A (shSX131, ad, ISX59, z_J0, (PSX130 ad)) s.heap.size = A at *
  have hS : va_S A s.heap s.heap [] := va_S.rf
  have hl : lv_has ls 1 [(0, .ref (ad 72))] := hl
  refine lv_aload_n hx hb dX1_init_0 rfl (lv_at hl 0 rfl) ?_
  refine W.objInit hx hb hown (hts (.methodLink RX1 3 objectInit) (me_s (me_l (List.mem_of_getElem? (i := 0) rfl)))) (hts (.instanceMethod objectInit) (me_s (me_l (List.mem_of_getElem? (i := 1) rfl)))) (hts (.code objectInit ⟨#[0xb1]⟩ 1 none) (me_s (me_l (List.mem_of_getElem? (i := 2) rfl)))) rfl (by rw [hml]; exact hl.1) rfl dX1_init_1 (Nat.le_of_ble_eq_true rfl) (Nat.le_of_ble_eq_true rfl) ?_
  refine W.eq (g2 := F0 m 4 ls []) rfl ?_
  refine lv_aload_n hx hb dX1_init_4 rfl (lv_at hl 0 rfl) ?_
  refine lv_bipush (v := 30) hx hb dX1_init_5 (by decide) ?_
  refine z_newa 73 ad (atype := .int) (ty := .int) (N' := 30) hx hb (hts (.arrayClass .int) (me_s (me_l (List.mem_of_getElem? (i := 3) rfl)))) rfl hK (by simp [z_tys]) hW hS hA hz.symm (fun _ _ => rfl) (fun _ => rfl) (by decide) rfl (Nat.le_of_ble_eq_true rfl) (Nat.le_of_ble_eq_true rfl) (Nat.le_of_ble_eq_true rfl) dX1_init_7 (fun H hz1 hW hS => ?_)
  have hz : H.size = ad 74 := hz1.trans ((congrArg (· + 1) hz).trans (had 1 _).symm)
  have hW : z_W _ A (shSX132, ad, ISX59, z_J0, (PSX130 ad)) H := hW
  refine z_putF (T := TX1) (N := 3) (ci := 1) (i := 72) (v := .ref (ad 73)) (I1 := ISX59) (J1 := z_J0) (P1 := (PSX133 ad)) hx hb hts zi_X1_init_X1 tyX1 tyX1_ok nmX1 hown hK hW hS hs_shSX132_72 rfl 0 (by decide) (hts (.fieldLink RX1 9 "PetrolBoard$Deal" "units" "[I") (me_s (me_l (List.mem_of_getElem? (i := 4) rfl)))) (fun _ h => h) rfl hname rfl rfl rfl (by first | rfl | exact congrArg _ z_up_s) (fun a b h ty => z_vP h ty) dX1_init_9 (fun H locs hz1 hW hS => ?_)
  have hz : H.size = ad 74 := hz1.trans hz
  refine lv_aload_n hx hb dX1_init_12 rfl (lv_at hl 0 rfl) ?_
  refine lv_bipush (v := 30) hx hb dX1_init_13 (by decide) ?_
  refine z_newa 74 ad (atype := .int) (ty := .int) (N' := 30) hx hb (hts (.arrayClass .int) (me_s (me_l (List.mem_of_getElem? (i := 3) rfl)))) rfl hK (by simp [z_tys]) hW hS hA hz.symm (fun _ _ => rfl) (fun _ => rfl) (by decide) rfl (Nat.le_of_ble_eq_true rfl) (Nat.le_of_ble_eq_true rfl) (Nat.le_of_ble_eq_true rfl) dX1_init_15 (fun H hz1 hW hS => ?_)
  have hz : H.size = ad 75 := hz1.trans ((congrArg (· + 1) hz).trans (had 1 _).symm)
  have hW : z_W _ A (shSX134, ad, ISX59, z_J0, (PSX133 ad)) H := hW
  refine z_putF (T := TX1) (N := 3) (ci := 1) (i := 72) (v := .ref (ad 74)) (I1 := ISX59) (J1 := z_J0) (P1 := (PSX135 ad)) hx hb hts zi_X1_init_X1 tyX1 tyX1_ok nmX1 hown hK hW hS hs_shSX134_72 rfl 1 (by decide) (hts (.fieldLink RX1 15 "PetrolBoard$Deal" "served" "[I") (me_s (me_l (List.mem_of_getElem? (i := 5) rfl)))) (fun _ h => h) rfl hname rfl rfl rfl (by first | rfl | exact congrArg _ z_up_s) (fun a b h ty => z_vP h ty) dX1_init_17 (fun H locs hz1 hW hS => ?_)
  have hz : H.size = ad 75 := hz1.trans hz
  exact z_cret hx hb hr hK hS (Nat.le_of_ble_eq_true rfl) (Nat.le_of_ble_eq_true rfl) hlocks dX1_init_20 (hz.trans ((had 2 73).trans (congrArg (· + 2) hz0.symm))) hW
theorem hs_shSX134_0 : shSX134 0 = some (.inr 11) := by rfl
noncomputable def PSX136 (ad : Nat → Nat) : z_P := z_up (PSX135 ad) 0 12 (some (ad 72))
noncomputable def ISX137 : z_I := z_fi ISX59 40 (-1)
theorem zi_X11_init_X0 : ∀ w ∈ wsX00, w ∈ wsX11_init := fun w h => (List.mem_cons_of_mem _ (List.mem_append_left _ (List.mem_append_left _ (List.mem_append_left _ (List.mem_append_left _ (List.mem_append_left _ (List.mem_append_right _ h)))))))
theorem zi_X11_init_X1 : ∀ w ∈ wsX10, w ∈ wsX11_init := fun w h => (List.mem_cons_of_mem _ (List.mem_append_left _ (List.mem_append_right _ h)))
theorem zi_X11_init_X2 : ∀ w ∈ wsX20, w ∈ wsX11_init := fun w h => (List.mem_cons_of_mem _ (List.mem_append_left _ (List.mem_append_left _ (List.mem_append_left _ (List.mem_append_left _ (List.mem_append_left _ (List.mem_append_left _ (List.mem_append_left _ (List.mem_append_left _ (List.mem_append_right _ h))))))))))
theorem zi_X11_init_X3 : ∀ w ∈ wsX30, w ∈ wsX11_init := fun w h => (List.mem_cons_of_mem _ (List.mem_append_left _ (List.mem_append_left _ (List.mem_append_right _ h))))
theorem zi_X11_init_X4 : ∀ w ∈ wsX40, w ∈ wsX11_init := fun w h => (List.mem_cons_of_mem _ (List.mem_append_left _ (List.mem_append_left _ (List.mem_append_left _ (List.mem_append_right _ h)))))
theorem zi_X11_init_X6 : ∀ w ∈ wsX60, w ∈ wsX11_init := fun w h => (List.mem_cons_of_mem _ (List.mem_append_left _ (List.mem_append_left _ (List.mem_append_left _ (List.mem_append_left _ (List.mem_append_left _ (List.mem_append_left _ (List.mem_append_right _ h))))))))
theorem zi_X11_init_X8 : ∀ w ∈ wsX80, w ∈ wsX11_init := fun w h => (List.mem_cons_of_mem _ (List.mem_append_left _ (List.mem_append_left _ (List.mem_append_left _ (List.mem_append_left _ (List.mem_append_right _ h))))))
theorem zi_X11_init_X9 : ∀ w ∈ wsX90, w ∈ wsX11_init := fun w h => (List.mem_cons_of_mem _ (List.mem_append_left _ (List.mem_append_left _ (List.mem_append_left _ (List.mem_append_left _ (List.mem_append_left _ (List.mem_append_left _ (List.mem_append_left _ (List.mem_append_right _ h)))))))))
theorem zi_X11_init_X11 : ∀ w ∈ wsX110, w ∈ wsX11_init := fun w h => (List.mem_cons_of_mem _ (List.mem_append_left _ (List.mem_append_left _ (List.mem_append_left _ (List.mem_append_left _ (List.mem_append_left _ (List.mem_append_left _ (List.mem_append_left _ (List.mem_append_left _ (List.mem_append_left _ (List.mem_append_right _ h)))))))))))
set_option maxHeartbeats 8000000 in
set_option maxRecDepth 100000 in
theorem ct_X11_init (l : Launch) (G : z_G) (ad : Nat → Nat) (had : ∀ k i, ad (i + k) = ad i + k) (sz : Nat) (hz : sz = ad 1) : z_Mc l yX11_init wsX11_init { frames := 3, cells := 74, slots := 8838, locals := 55 } [.ref (ad 0)] G (shX0, ad, IX0, z_J0, (PX0 ad)) (shSX134, ad, ISX137, z_J0, (PSX136 ad)) 74 74 8838 sz := by
  refine z_headQ (cc := cX11_init) (maxL := 1) (ret := none) (by decide) rfl (Nat.le_of_ble_eq_true rfl) ?_
  intro p e s m below meth c ls hIn hK hsz hW hl
  obtain ⟨hx, hb, hr, hml, hown, hts, hlocks, hname⟩ := hIn
  subst hsz
  have hz0 := hz
  have hown : s.vm.findClass RX11 = some m.cls := hown
  have hq0_ := fun (w : Cond) h => hts w (me_s (me_l (me_l (me_l (me_l (me_l (me_l (me_l (me_l (me_l (me_l (me_l h))))))))))))
  have hq1_ := fun (w : Cond) h => hts w (me_s (me_l (me_l (me_l (me_l (me_l (me_l (me_l (me_l (me_l (me_l (me_r (me_l h)))))))))))))
  have hq2_ := fun (w : Cond) h => hts w (me_s (me_l (me_l (me_l (me_l (me_l (me_l (me_l (me_l (me_l (me_l (me_r (me_r (me_l h))))))))))))))
  have hq3_ := fun (w : Cond) h => hts w (me_s (me_l (me_l (me_l (me_l (me_l (me_l (me_l (me_l (me_l (me_l (me_r (me_r (me_r (me_l h)))))))))))))))
  have hq4_ := fun (w : Cond) h => hts w (me_s (me_l (me_l (me_l (me_l (me_l (me_l (me_l (me_l (me_l (me_l (me_r (me_r (me_r (me_r (me_l h))))))))))))))))
  have hq5_ := fun (w : Cond) h => hts w (me_s (me_l (me_l (me_l (me_l (me_l (me_l (me_l (me_l (me_l (me_l (me_r (me_r (me_r (me_r (me_r h))))))))))))))))
  have hname : meth.name = "<init>" := hname
  have hA : ∀ q : Nat, s.heap.size ≤ q → z_A (shX0, ad, IX0, z_J0, (PX0 ad)) s.heap.size q := fun q h => Or.inr h
  generalize hAe : z_A (shX0, ad, IX0, z_J0, (PX0 ad)) s.heap.size = A at *
  have hS : va_S A s.heap s.heap [] := va_S.rf
  have hl : lv_has ls 1 [(0, .ref (ad 0))] := hl
  refine lv_aload_n hx hb dX11_init_0 rfl (lv_at hl 0 rfl) ?_
  refine W.objInit hx hb hown (hq0_ (.methodLink RX11 1 objectInit) (List.mem_of_getElem? (i := 0) rfl)) (hq0_ (.instanceMethod objectInit) (List.mem_of_getElem? (i := 1) rfl)) (hq0_ (.code objectInit ⟨#[0xb1]⟩ 1 none) (List.mem_of_getElem? (i := 2) rfl)) rfl (by rw [hml]; exact hl.1) rfl dX11_init_1 (Nat.le_of_ble_eq_true rfl) (Nat.le_of_ble_eq_true rfl) ?_
  refine W.eq (g2 := F0 m 4 ls []) rfl ?_
  refine lv_aload_n hx hb dX11_init_4 rfl (lv_at hl 0 rfl) ?_
  refine lv_iconst (v := (-1)) hx hb dX11_init_5 (by decide) ?_
  refine z_put (T := TX11) (N := 13) (ci := 11) (i := 0) (v := .int (-1)) (I1 := ISX1) (J1 := z_J0) (P1 := (PX0 ad)) hx hb hts zi_X11_init_X11 tyX11 tyX11_ok nmX11 hown hK hW hS rfl rfl 1 (by decide) (hq0_ (.fieldLink RX11 9 "PetrolBoard" "faultPlace" "I") (List.mem_of_getElem? (i := 3) rfl)) (fun _ h => h) rfl rfl rfl (by first | rfl | exact congrArg _ z_up_s) (fun a b h ty => z_vI h ty) dX11_init_6 (fun H locs hz1 hW hS => ?_)
  have hz : H.size = ad 1 := hz1.trans hz
  refine lv_aload_n hx hb dX11_init_9 rfl (lv_at hl 0 rfl) ?_
  refine z_new 1 ad (T := TX2) (N := 12) (ci := 2) hx hb hts zi_X11_init_X2 tyX2 tyX2_ok hown (hq0_ (.classLink RX11 13 RX2) (List.mem_of_getElem? (i := 4) rfl)) (hq0_ (.instantiable RX2 12) (List.mem_of_getElem? (i := 5) rfl)) (hq0_ (.initialized RX2) (List.mem_of_getElem? (i := 6) rfl)) hK hW hS hA hz.symm (fun _ _ => rfl) rfl (fun k hk => (z_v0 rfl rfl rfl (ndX2 k hk)).symm) (Nat.le_of_ble_eq_true rfl) (Nat.le_of_ble_eq_true rfl) dX11_init_10 (fun H hz1 hW hS => ?_)
  have hz : H.size = ad 2 := hz1.trans ((congrArg (· + 1) hz).trans (had 1 _).symm)
  have hW : z_W _ A (shSX2, ad, ISX1, z_J0, (PX0 ad)) H := hW
  refine lv_dup hx hb dX11_init_13 rfl ?_
  refine z_cc hW hS hA (va_runIN (As := []) (rest := [.ref (ad 1), .ref (ad 0)]) ⟨hx, hb, hml, hown, hts⟩ (ct_X2_init l G ad had _ hz) ⟨va_cnB 0 hts gX11_init_X2_init_n15 rfl rfl rfl (hK.2.2.1 _ (List.mem_of_getElem? (i := 0) rfl)) (hq0_ (.initialized RX2) (List.mem_of_getElem? (i := 6) rfl)) (by decide +kernel) ⟨Nat.le_of_ble_eq_true rfl, Nat.le_of_ble_eq_true rfl⟩, rfl, (hq1_ (.instanceMethod yX2_init) (List.mem_of_getElem? (i := 16) rfl))⟩ (z_preS hK hW) rfl rfl hl.1 rfl (lv_room (Nat.le_of_ble_eq_true rfl)) dX11_init_14 ⟨Nat.le_of_ble_eq_true rfl, Nat.le_of_ble_eq_true rfl⟩) (fun H locs hz1 hW hS => ?_)
  have hz : H.size = ad 12 := hz1.trans ((congrArg (· + 10) hz).trans (had 10 _).symm)
  refine z_putF (T := TX11) (N := 13) (ci := 11) (i := 0) (v := .ref (ad 1)) (I1 := ISX1) (J1 := z_J0) (P1 := (PSX23 ad)) hx hb hts zi_X11_init_X11 tyX11 tyX11_ok nmX11 hown hK hW hS hs_shSX21_0 rfl 2 (by decide) (hq0_ (.fieldLink RX11 16 "PetrolBoard" "holders" "LPetrolBoard$Holders;") (List.mem_of_getElem? (i := 7) rfl)) (fun _ h => h) rfl hname rfl rfl rfl (by first | rfl | exact congrArg _ z_up_s) (fun a b h ty => z_vP h ty) dX11_init_17 (fun H locs hz1 hW hS => ?_)
  have hz : H.size = ad 12 := hz1.trans hz
  refine lv_aload_n hx hb dX11_init_20 rfl (lv_at hl 0 rfl) ?_
  refine z_new 12 ad (T := TX9) (N := 14) (ci := 9) hx hb hts zi_X11_init_X9 tyX9 tyX9_ok hown (hq0_ (.classLink RX11 20 RX9) (List.mem_of_getElem? (i := 8) rfl)) (hq0_ (.instantiable RX9 14) (List.mem_of_getElem? (i := 9) rfl)) (hq0_ (.initialized RX9) (List.mem_of_getElem? (i := 10) rfl)) hK hW hS hA hz.symm (fun _ _ => rfl) rfl (fun k hk => (z_v0 rfl rfl rfl (ndX9 k hk)).symm) (Nat.le_of_ble_eq_true rfl) (Nat.le_of_ble_eq_true rfl) dX11_init_21 (fun H hz1 hW hS => ?_)
  have hz : H.size = ad 13 := hz1.trans ((congrArg (· + 1) hz).trans (had 1 _).symm)
  have hW : z_W _ A (shSX24, ad, ISX1, z_J0, (PSX23 ad)) H := hW
  refine lv_dup hx hb dX11_init_24 rfl ?_
  refine z_cc hW hS hA (va_runIN (As := []) (rest := [.ref (ad 12), .ref (ad 0)]) ⟨hx, hb, hml, hown, hts⟩ (ct_X9_init l G ad had _ hz) ⟨va_cnB 0 hts gX11_init_X9_init_n22 rfl rfl rfl (hK.2.2.1 _ (List.mem_of_getElem? (i := 1) rfl)) (hq0_ (.initialized RX9) (List.mem_of_getElem? (i := 10) rfl)) (by decide +kernel) ⟨Nat.le_of_ble_eq_true rfl, Nat.le_of_ble_eq_true rfl⟩, rfl, (hq2_ (.instanceMethod yX9_init) (List.mem_of_getElem? (i := 5) rfl))⟩ (z_preS hK hW) rfl rfl hl.1 rfl (lv_room (Nat.le_of_ble_eq_true rfl)) dX11_init_25 ⟨Nat.le_of_ble_eq_true rfl, Nat.le_of_ble_eq_true rfl⟩) (fun H locs hz1 hW hS => ?_)
  have hz : H.size = ad 21 := hz1.trans ((congrArg (· + 8) hz).trans (had 8 _).symm)
  refine z_putF (T := TX11) (N := 13) (ci := 11) (i := 0) (v := .ref (ad 12)) (I1 := ISX1) (J1 := z_J0) (P1 := (PSX41 ad)) hx hb hts zi_X11_init_X11 tyX11 tyX11_ok nmX11 hown hK hW hS hs_shSX39_0 rfl 3 (by decide) (hq0_ (.fieldLink RX11 23 "PetrolBoard" "reader" "LPetrolBoard$Reader;") (List.mem_of_getElem? (i := 11) rfl)) (fun _ h => h) rfl hname rfl rfl rfl (by first | rfl | exact congrArg _ z_up_s) (fun a b h ty => z_vP h ty) dX11_init_28 (fun H locs hz1 hW hS => ?_)
  have hz : H.size = ad 21 := hz1.trans hz
  refine lv_aload_n hx hb dX11_init_31 rfl (lv_at hl 0 rfl) ?_
  refine z_new 21 ad (T := TX6) (N := 3) (ci := 6) hx hb hts zi_X11_init_X6 tyX6 tyX6_ok hown (hq0_ (.classLink RX11 27 RX6) (List.mem_of_getElem? (i := 12) rfl)) (hq0_ (.instantiable RX6 3) (List.mem_of_getElem? (i := 13) rfl)) (hq0_ (.initialized RX6) (List.mem_of_getElem? (i := 14) rfl)) hK hW hS hA hz.symm (fun _ _ => rfl) rfl (fun k hk => (z_v0 rfl rfl rfl (ndX6 k hk)).symm) (Nat.le_of_ble_eq_true rfl) (Nat.le_of_ble_eq_true rfl) dX11_init_32 (fun H hz1 hW hS => ?_)
  have hz : H.size = ad 22 := hz1.trans ((congrArg (· + 1) hz).trans (had 1 _).symm)
  have hW : z_W _ A (shSX42, ad, ISX1, z_J0, (PSX41 ad)) H := hW
  refine lv_dup hx hb dX11_init_35 rfl ?_
  refine z_cc hW hS hA (va_runIN (As := []) (rest := [.ref (ad 21), .ref (ad 0)]) ⟨hx, hb, hml, hown, hts⟩ (ct_X6_init l G ad had _ hz) ⟨va_cnB 0 hts gX11_init_X6_init_n29 rfl rfl rfl (hK.2.2.1 _ (List.mem_of_getElem? (i := 2) rfl)) (hq0_ (.initialized RX6) (List.mem_of_getElem? (i := 14) rfl)) (by decide +kernel) ⟨Nat.le_of_ble_eq_true rfl, Nat.le_of_ble_eq_true rfl⟩, rfl, (hq2_ (.instanceMethod yX6_init) (List.mem_of_getElem? (i := 16) rfl))⟩ (z_preS hK hW) rfl rfl hl.1 rfl (lv_room (Nat.le_of_ble_eq_true rfl)) dX11_init_36 ⟨Nat.le_of_ble_eq_true rfl, Nat.le_of_ble_eq_true rfl⟩) (fun H locs hz1 hW hS => ?_)
  have hz : H.size = ad 26 := hz1.trans ((congrArg (· + 4) hz).trans (had 4 _).symm)
  refine z_putF (T := TX11) (N := 13) (ci := 11) (i := 0) (v := .ref (ad 21)) (I1 := ISX1) (J1 := z_J0) (P1 := (PSX51 ad)) hx hb hts zi_X11_init_X11 tyX11 tyX11_ok nmX11 hown hK hW hS hs_shSX48_0 rfl 4 (by decide) (hq0_ (.fieldLink RX11 30 "PetrolBoard" "orderBook" "LPetrolBoard$OrderBook;") (List.mem_of_getElem? (i := 15) rfl)) (fun _ h => h) rfl hname rfl rfl rfl (by first | rfl | exact congrArg _ z_up_s) (fun a b h ty => z_vP h ty) dX11_init_39 (fun H locs hz1 hW hS => ?_)
  have hz : H.size = ad 26 := hz1.trans hz
  refine lv_aload_n hx hb dX11_init_42 rfl (lv_at hl 0 rfl) ?_
  refine z_new 26 ad (T := TX0) (N := 5) (ci := 0) hx hb hts zi_X11_init_X0 tyX0 tyX0_ok hown (hq0_ (.classLink RX11 34 RX0) (List.mem_of_getElem? (i := 16) rfl)) (hq0_ (.instantiable RX0 5) (List.mem_of_getElem? (i := 17) rfl)) (hq0_ (.initialized RX0) (List.mem_of_getElem? (i := 18) rfl)) hK hW hS hA hz.symm (fun _ _ => rfl) rfl (fun k hk => (z_v0 rfl rfl rfl (ndX0 k hk)).symm) (Nat.le_of_ble_eq_true rfl) (Nat.le_of_ble_eq_true rfl) dX11_init_43 (fun H hz1 hW hS => ?_)
  have hz : H.size = ad 27 := hz1.trans ((congrArg (· + 1) hz).trans (had 1 _).symm)
  have hW : z_W _ A (shSX52, ad, ISX1, z_J0, (PSX51 ad)) H := hW
  refine lv_dup hx hb dX11_init_46 rfl ?_
  refine z_cc hW hS hA (va_runI (As := []) (rest := [.ref (ad 26), .ref (ad 0)]) ⟨hx, hb, hml, hown, hts⟩ (ct_X0_init l G ad had _ hz) (cwI 0 hts gX11_init_X0_init rfl rfl rfl (hq0_ (.initialized RX0) (List.mem_of_getElem? (i := 18) rfl)) (hq3_ (.methodLink RX11 36 yX0_init) (List.mem_of_getElem? (i := 6) rfl)) (hq3_ (.instanceMethod yX0_init) (List.mem_of_getElem? (i := 7) rfl)) rfl (by decide +kernel) ⟨Nat.le_of_ble_eq_true rfl, Nat.le_of_ble_eq_true rfl⟩) (z_preS hK hW) rfl rfl hl.1 rfl (lv_room (Nat.le_of_ble_eq_true rfl)) dX11_init_47 ⟨Nat.le_of_ble_eq_true rfl, Nat.le_of_ble_eq_true rfl⟩) (fun H locs hz1 hW hS => ?_)
  have hz : H.size = ad 30 := hz1.trans ((congrArg (· + 3) hz).trans (had 3 _).symm)
  refine z_putF (T := TX11) (N := 13) (ci := 11) (i := 0) (v := .ref (ad 26)) (I1 := ISX59) (J1 := z_J0) (P1 := (PSX60 ad)) hx hb hts zi_X11_init_X11 tyX11 tyX11_ok nmX11 hown hK hW hS hs_shSX57_0 rfl 5 (by decide) (hq0_ (.fieldLink RX11 37 "PetrolBoard" "coupons" "LPetrolBoard$Coupons;") (List.mem_of_getElem? (i := 19) rfl)) (fun _ h => h) rfl hname rfl rfl rfl (by first | rfl | exact congrArg _ z_up_s) (fun a b h ty => z_vP h ty) dX11_init_50 (fun H locs hz1 hW hS => ?_)
  have hz : H.size = ad 30 := hz1.trans hz
  refine lv_aload_n hx hb dX11_init_53 rfl (lv_at hl 0 rfl) ?_
  refine z_new 30 ad (T := TX8) (N := 9) (ci := 8) hx hb hts zi_X11_init_X8 tyX8 tyX8_ok hown (hq0_ (.classLink RX11 41 RX8) (List.mem_of_getElem? (i := 20) rfl)) (hq0_ (.instantiable RX8 9) (List.mem_of_getElem? (i := 21) rfl)) (hq0_ (.initialized RX8) (List.mem_of_getElem? (i := 22) rfl)) hK hW hS hA hz.symm (fun _ _ => rfl) rfl (fun k hk => (z_v0 rfl rfl rfl (ndX8 k hk)).symm) (Nat.le_of_ble_eq_true rfl) (Nat.le_of_ble_eq_true rfl) dX11_init_54 (fun H hz1 hW hS => ?_)
  have hz : H.size = ad 31 := hz1.trans ((congrArg (· + 1) hz).trans (had 1 _).symm)
  have hW : z_W _ A (shSX61, ad, ISX59, z_J0, (PSX60 ad)) H := hW
  refine lv_dup hx hb dX11_init_57 rfl ?_
  refine z_cc hW hS hA (va_runIN (As := []) (rest := [.ref (ad 30), .ref (ad 0)]) ⟨hx, hb, hml, hown, hts⟩ (ct_X8_init l G ad had _ hz) ⟨va_cnB 0 hts gX11_init_X8_init_n43 rfl rfl rfl (hK.2.2.1 _ (List.mem_of_getElem? (i := 4) rfl)) (hq0_ (.initialized RX8) (List.mem_of_getElem? (i := 22) rfl)) (by decide +kernel) ⟨Nat.le_of_ble_eq_true rfl, Nat.le_of_ble_eq_true rfl⟩, rfl, (hq3_ (.instanceMethod yX8_init) (List.mem_of_getElem? (i := 17) rfl))⟩ (z_preS hK hW) rfl rfl hl.1 rfl (lv_room (Nat.le_of_ble_eq_true rfl)) dX11_init_58 ⟨Nat.le_of_ble_eq_true rfl, Nat.le_of_ble_eq_true rfl⟩) (fun H locs hz1 hW hS => ?_)
  have hz : H.size = ad 39 := hz1.trans ((congrArg (· + 8) hz).trans (had 8 _).symm)
  refine z_putF (T := TX11) (N := 13) (ci := 11) (i := 0) (v := .ref (ad 30)) (I1 := ISX59) (J1 := z_J0) (P1 := (PSX78 ad)) hx hb hts zi_X11_init_X11 tyX11 tyX11_ok nmX11 hown hK hW hS hs_shSX76_0 rfl 6 (by decide) (hq0_ (.fieldLink RX11 44 "PetrolBoard" "pours" "LPetrolBoard$Pours;") (List.mem_of_getElem? (i := 23) rfl)) (fun _ h => h) rfl hname rfl rfl rfl (by first | rfl | exact congrArg _ z_up_s) (fun a b h ty => z_vP h ty) dX11_init_61 (fun H locs hz1 hW hS => ?_)
  have hz : H.size = ad 39 := hz1.trans hz
  refine lv_aload_n hx hb dX11_init_64 rfl (lv_at hl 0 rfl) ?_
  refine lv_bipush (v := 10) hx hb dX11_init_65 (by decide) ?_
  refine z_newq 39 ad (N' := 10) hx hb hown (hq1_ (.classLink RX11 48 RX10) (List.mem_of_getElem? (i := 0) rfl)) (hK.2.2.2.1 RX10 (by simp [z_over])) hK (by simp [z_tys]) hW hS hA hz.symm (fun _ _ => rfl) (fun _ => rfl) (by decide) rfl (Nat.le_of_ble_eq_true rfl) (Nat.le_of_ble_eq_true rfl) (Nat.le_of_ble_eq_true rfl) dX11_init_67 (fun H hz1 hW hS => ?_)
  have hz : H.size = ad 40 := hz1.trans ((congrArg (· + 1) hz).trans (had 1 _).symm)
  have hW : z_W _ A (shSX79, ad, ISX59, z_J0, (PSX78 ad)) H := hW
  refine z_putF (T := TX11) (N := 13) (ci := 11) (i := 0) (v := .ref (ad 39)) (I1 := ISX59) (J1 := z_J0) (P1 := (PSX80 ad)) hx hb hts zi_X11_init_X11 tyX11 tyX11_ok nmX11 hown hK hW hS hs_shSX79_0 rfl 7 (by decide) (hq1_ (.fieldLink RX11 50 "PetrolBoard" "stations" "[LPetrolBoard$Station;") (List.mem_of_getElem? (i := 1) rfl)) (fun _ h => h) rfl hname rfl rfl rfl (by first | rfl | exact congrArg _ z_up_s) (fun a b h ty => z_vP h ty) dX11_init_70 (fun H locs hz1 hW hS => ?_)
  have hz : H.size = ad 40 := hz1.trans hz
  refine lv_aload_n hx hb dX11_init_73 rfl (lv_at hl 0 rfl) ?_
  refine lv_bipush (v := 30) hx hb dX11_init_74 (by decide) ?_
  refine z_newa 40 ad (atype := .int) (ty := .int) (N' := 30) hx hb (hq1_ (.arrayClass .int) (List.mem_of_getElem? (i := 2) rfl)) rfl hK (by simp [z_tys]) hW hS hA hz.symm (fun _ _ => rfl) (fun _ => rfl) (by decide) rfl (Nat.le_of_ble_eq_true rfl) (Nat.le_of_ble_eq_true rfl) (Nat.le_of_ble_eq_true rfl) dX11_init_76 (fun H hz1 hW hS => ?_)
  have hz : H.size = ad 41 := hz1.trans ((congrArg (· + 1) hz).trans (had 1 _).symm)
  have hW : z_W _ A (shSX81, ad, ISX59, z_J0, (PSX80 ad)) H := hW
  refine z_putF (T := TX11) (N := 13) (ci := 11) (i := 0) (v := .ref (ad 40)) (I1 := ISX59) (J1 := z_J0) (P1 := (PSX82 ad)) hx hb hts zi_X11_init_X11 tyX11 tyX11_ok nmX11 hown hK hW hS hs_shSX81_0 rfl 9 (by decide) (hq1_ (.fieldLink RX11 54 "PetrolBoard" "row" "[I") (List.mem_of_getElem? (i := 3) rfl)) (fun _ h => h) rfl hname rfl rfl rfl (by first | rfl | exact congrArg _ z_up_s) (fun a b h ty => z_vP h ty) dX11_init_78 (fun H locs hz1 hW hS => ?_)
  have hz : H.size = ad 41 := hz1.trans hz
  refine lv_aload_n hx hb dX11_init_81 rfl (lv_at hl 0 rfl) ?_
  refine z_new 41 ad (T := TX4) (N := 13) (ci := 4) hx hb hts zi_X11_init_X4 tyX4 tyX4_ok hown (hq1_ (.classLink RX11 58 RX4) (List.mem_of_getElem? (i := 4) rfl)) (hq1_ (.instantiable RX4 13) (List.mem_of_getElem? (i := 5) rfl)) (hq1_ (.initialized RX4) (List.mem_of_getElem? (i := 6) rfl)) hK hW hS hA hz.symm (fun _ _ => rfl) rfl (fun k hk => (z_v0 rfl rfl rfl (ndX4 k hk)).symm) (Nat.le_of_ble_eq_true rfl) (Nat.le_of_ble_eq_true rfl) dX11_init_82 (fun H hz1 hW hS => ?_)
  have hz : H.size = ad 42 := hz1.trans ((congrArg (· + 1) hz).trans (had 1 _).symm)
  have hW : z_W _ A (shSX83, ad, ISX59, z_J0, (PSX82 ad)) H := hW
  refine lv_dup hx hb dX11_init_85 rfl ?_
  refine z_cc hW hS hA (va_runIN (As := []) (rest := [.ref (ad 41), .ref (ad 0)]) ⟨hx, hb, hml, hown, hts⟩ (ct_X4_init l G ad had _ hz) ⟨va_cnB 0 hts gX11_init_X4_init_n60 rfl rfl rfl (hK.2.2.1 _ (List.mem_of_getElem? (i := 5) rfl)) (hq1_ (.initialized RX4) (List.mem_of_getElem? (i := 6) rfl)) (by decide +kernel) ⟨Nat.le_of_ble_eq_true rfl, Nat.le_of_ble_eq_true rfl⟩, rfl, (hq4_ (.instanceMethod yX4_init) (List.mem_of_getElem? (i := 4) rfl))⟩ (z_preS hK hW) rfl rfl hl.1 rfl (lv_room (Nat.le_of_ble_eq_true rfl)) dX11_init_86 ⟨Nat.le_of_ble_eq_true rfl, Nat.le_of_ble_eq_true rfl⟩) (fun H locs hz1 hW hS => ?_)
  have hz : H.size = ad 60 := hz1.trans ((congrArg (· + 18) hz).trans (had 18 _).symm)
  refine z_putF (T := TX11) (N := 13) (ci := 11) (i := 0) (v := .ref (ad 41)) (I1 := ISX59) (J1 := z_J0) (P1 := (PSX106 ad)) hx hb hts zi_X11_init_X11 tyX11 tyX11_ok nmX11 hown hK hW hS hs_shSX104_0 rfl 10 (by decide) (hq1_ (.fieldLink RX11 61 "PetrolBoard" "loads" "LPetrolBoard$Loads;") (List.mem_of_getElem? (i := 7) rfl)) (fun _ h => h) rfl hname rfl rfl rfl (by first | rfl | exact congrArg _ z_up_s) (fun a b h ty => z_vP h ty) dX11_init_89 (fun H locs hz1 hW hS => ?_)
  have hz : H.size = ad 60 := hz1.trans hz
  refine lv_aload_n hx hb dX11_init_92 rfl (lv_at hl 0 rfl) ?_
  refine z_new 60 ad (T := TX3) (N := 17) (ci := 3) hx hb hts zi_X11_init_X3 tyX3 tyX3_ok hown (hq1_ (.classLink RX11 65 RX3) (List.mem_of_getElem? (i := 8) rfl)) (hq1_ (.instantiable RX3 17) (List.mem_of_getElem? (i := 9) rfl)) (hq1_ (.initialized RX3) (List.mem_of_getElem? (i := 10) rfl)) hK hW hS hA hz.symm (fun _ _ => rfl) rfl (fun k hk => (z_v0 rfl rfl rfl (ndX3 k hk)).symm) (Nat.le_of_ble_eq_true rfl) (Nat.le_of_ble_eq_true rfl) dX11_init_93 (fun H hz1 hW hS => ?_)
  have hz : H.size = ad 61 := hz1.trans ((congrArg (· + 1) hz).trans (had 1 _).symm)
  have hW : z_W _ A (shSX107, ad, ISX59, z_J0, (PSX106 ad)) H := hW
  refine lv_dup hx hb dX11_init_96 rfl ?_
  refine z_cc hW hS hA (va_runIN (As := []) (rest := [.ref (ad 60), .ref (ad 0)]) ⟨hx, hb, hml, hown, hts⟩ (ct_X3_init l G ad had _ hz) ⟨va_cnB 0 hts gX11_init_X3_init_n67 rfl rfl rfl (hK.2.2.1 _ (List.mem_of_getElem? (i := 6) rfl)) (hq1_ (.initialized RX3) (List.mem_of_getElem? (i := 10) rfl)) (by decide +kernel) ⟨Nat.le_of_ble_eq_true rfl, Nat.le_of_ble_eq_true rfl⟩, rfl, (hq4_ (.instanceMethod yX3_init) (List.mem_of_getElem? (i := 18) rfl))⟩ (z_preS hK hW) rfl rfl hl.1 rfl (lv_room (Nat.le_of_ble_eq_true rfl)) dX11_init_97 ⟨Nat.le_of_ble_eq_true rfl, Nat.le_of_ble_eq_true rfl⟩) (fun H locs hz1 hW hS => ?_)
  have hz : H.size = ad 72 := hz1.trans ((congrArg (· + 11) hz).trans (had 11 _).symm)
  refine z_putF (T := TX11) (N := 13) (ci := 11) (i := 0) (v := .ref (ad 60)) (I1 := ISX59) (J1 := z_J0) (P1 := (PSX130 ad)) hx hb hts zi_X11_init_X11 tyX11 tyX11_ok nmX11 hown hK hW hS hs_shSX128_0 rfl 11 (by decide) (hq1_ (.fieldLink RX11 68 "PetrolBoard" "journeys" "LPetrolBoard$Journeys;") (List.mem_of_getElem? (i := 11) rfl)) (fun _ h => h) rfl hname rfl rfl rfl (by first | rfl | exact congrArg _ z_up_s) (fun a b h ty => z_vP h ty) dX11_init_100 (fun H locs hz1 hW hS => ?_)
  have hz : H.size = ad 72 := hz1.trans hz
  refine lv_aload_n hx hb dX11_init_103 rfl (lv_at hl 0 rfl) ?_
  refine z_new 72 ad (T := TX1) (N := 3) (ci := 1) hx hb hts zi_X11_init_X1 tyX1 tyX1_ok hown (hq1_ (.classLink RX11 72 RX1) (List.mem_of_getElem? (i := 12) rfl)) (hq1_ (.instantiable RX1 3) (List.mem_of_getElem? (i := 13) rfl)) (hq1_ (.initialized RX1) (List.mem_of_getElem? (i := 14) rfl)) hK hW hS hA hz.symm (fun _ _ => rfl) rfl (fun k hk => (z_v0 rfl rfl rfl (ndX1 k hk)).symm) (Nat.le_of_ble_eq_true rfl) (Nat.le_of_ble_eq_true rfl) dX11_init_104 (fun H hz1 hW hS => ?_)
  have hz : H.size = ad 73 := hz1.trans ((congrArg (· + 1) hz).trans (had 1 _).symm)
  have hW : z_W _ A (shSX131, ad, ISX59, z_J0, (PSX130 ad)) H := hW
  refine lv_dup hx hb dX11_init_107 rfl ?_
  refine z_cc hW hS hA (va_runIN (As := []) (rest := [.ref (ad 72), .ref (ad 0)]) ⟨hx, hb, hml, hown, hts⟩ (ct_X1_init l G ad had _ hz) ⟨va_cnB 0 hts gX11_init_X1_init_n74 rfl rfl rfl (hK.2.2.1 _ (List.mem_of_getElem? (i := 7) rfl)) (hq1_ (.initialized RX1) (List.mem_of_getElem? (i := 14) rfl)) (by decide +kernel) ⟨Nat.le_of_ble_eq_true rfl, Nat.le_of_ble_eq_true rfl⟩, rfl, (hq5_ (.instanceMethod yX1_init) (List.mem_of_getElem? (i := 8) rfl))⟩ (z_preS hK hW) rfl rfl hl.1 rfl (lv_room (Nat.le_of_ble_eq_true rfl)) dX11_init_108 ⟨Nat.le_of_ble_eq_true rfl, Nat.le_of_ble_eq_true rfl⟩) (fun H locs hz1 hW hS => ?_)
  have hz : H.size = ad 75 := hz1.trans ((congrArg (· + 2) hz).trans (had 2 _).symm)
  refine z_putF (T := TX11) (N := 13) (ci := 11) (i := 0) (v := .ref (ad 72)) (I1 := ISX59) (J1 := z_J0) (P1 := (PSX136 ad)) hx hb hts zi_X11_init_X11 tyX11 tyX11_ok nmX11 hown hK hW hS hs_shSX134_0 rfl 12 (by decide) (hq1_ (.fieldLink RX11 75 "PetrolBoard" "deal" "LPetrolBoard$Deal;") (List.mem_of_getElem? (i := 15) rfl)) (fun _ h => h) rfl hname rfl rfl rfl (by first | rfl | exact congrArg _ z_up_s) (fun a b h ty => z_vP h ty) dX11_init_111 (fun H locs hz1 hW hS => ?_)
  have hz : H.size = ad 75 := hz1.trans hz
  refine lv_aload_n hx hb dX11_init_114 rfl (lv_at hl 0 rfl) ?_
  refine z_get (T := TX11) (N := 13) (ci := 11) (i := 0) (v := .ref (ad 40)) hx hb hts zi_X11_init_X11 hown hK hW hs_shSX134_0 rfl 9 (by decide) (hq1_ (.fieldLink RX11 54 "PetrolBoard" "row" "[I") (List.mem_of_getElem? (i := 3) rfl)) (fun _ h => h) rfl dX11_init_115 ?_
  refine lv_iconst (v := (-1)) hx hb dX11_init_118 (by decide) ?_
  refine z_cc hW hS hA (va_runS (As := [.ref (ad 40), .int (-1)]) (rest := []) ⟨hx, hb, hml, hown, hts⟩ (ct_fill l G 40 30 (-1) rfl (by decide) _) (va_cwS 2 hts gX11_init_J7_fill_53178 rfl rfl rfl hy_J7_fill_53178.2 ⟨Nat.le_of_ble_eq_true rfl, Nat.le_of_ble_eq_true rfl⟩) (z_preS hK hW) rfl rfl hl.1 rfl (lv_room (Nat.le_of_ble_eq_true rfl)) dX11_init_119 ⟨Nat.le_of_ble_eq_true rfl, Nat.le_of_ble_eq_true rfl⟩) (fun H locs hz1 hW hS => ?_)
  have hW : z_W _ A (shSX134, ad, ISX137, z_J0, (PSX136 ad)) H := hW
  have hz : H.size = ad 75 := hz1.trans hz
  exact z_cret hx hb hr hK hS (Nat.le_of_ble_eq_true rfl) (Nat.le_of_ble_eq_true rfl) hlocks dX11_init_122 (hz.trans ((had 74 1).trans (congrArg (· + 74) hz0.symm))) hW

