theorem hs_shSX48_21 : shSX48 21 = some (.inr 6) := by rfl
noncomputable def PSX50 (ad : Nat → Nat) : z_P := z_up (PSX49 ad) 21 1 (some (ad 23))
theorem zi_X6_init_X5 : ∀ w ∈ wsX50, w ∈ wsX6_init := fun w h => (List.mem_cons_of_mem _ (List.mem_append_right _ h))
theorem zi_X6_init_X6 : ∀ w ∈ wsX60, w ∈ wsX6_init := fun w h => (List.mem_cons_of_mem _ (List.mem_append_left _ (List.mem_append_right _ h)))
set_option maxHeartbeats 8000000 in
set_option maxRecDepth 100000 in
theorem ct_X6_init (l : Launch) (G : z_G) (ad : Nat → Nat) (had : ∀ k i, ad (i + k) = ad i + k) (sz : Nat) (hz : sz = ad 22) : z_Mc l yX6_init wsX6_init { frames := 2, cells := 4, slots := 85, locals := 32 } [.ref (ad 21)] G (shSX42, ad, ISX1, z_J0, (PSX41 ad)) (shSX48, ad, ISX1, z_J0, (PSX50 ad)) 4 4 85 sz := by
  refine z_headQ (cc := cX6_init) (maxL := 1) (ret := none) (by decide) rfl (Nat.le_of_ble_eq_true rfl) ?_
  intro p e s m below meth c ls hIn hK hsz hW hl
  obtain ⟨hx, hb, hr, hml, hown, hts, hlocks, hname⟩ := hIn
  subst hsz
  have hz0 := hz
  have hown : s.vm.findClass RX6 = some m.cls := hown
  have hname : meth.name = "<init>" := hname
  have hA : ∀ q : Nat, s.heap.size ≤ q → z_A (shSX42, ad, ISX1, z_J0, (PSX41 ad)) s.heap.size q := fun q h => Or.inr h
  generalize hAe : z_A (shSX42, ad, ISX1, z_J0, (PSX41 ad)) s.heap.size = A at *
  have hS : va_S A s.heap s.heap [] := va_S.rf
  have hl : lv_has ls 1 [(0, .ref (ad 21))] := hl
  refine lv_aload_n hx hb dX6_init_0 rfl (lv_at hl 0 rfl) ?_
  refine W.objInit hx hb hown (hts (.methodLink RX6 3 objectInit) (me_s (me_l (me_l (List.mem_of_getElem? (i := 0) rfl))))) (hts (.instanceMethod objectInit) (me_s (me_l (me_l (List.mem_of_getElem? (i := 1) rfl))))) (hts (.code objectInit ⟨#[0xb1]⟩ 1 none) (me_s (me_l (me_l (List.mem_of_getElem? (i := 2) rfl))))) rfl (by rw [hml]; exact hl.1) rfl dX6_init_1 (Nat.le_of_ble_eq_true rfl) (Nat.le_of_ble_eq_true rfl) ?_
  refine W.eq (g2 := F0 m 4 ls []) rfl ?_
  refine lv_aload_n hx hb dX6_init_4 rfl (lv_at hl 0 rfl) ?_
  refine lv_bipush (v := 12) hx hb dX6_init_5 (by decide) ?_
  refine z_newq 22 ad (N' := 12) hx hb hown (hts (.classLink RX6 9 RX7) (me_s (me_l (me_l (List.mem_of_getElem? (i := 3) rfl))))) (hK.2.2.2.1 RX7 (by simp [z_over])) hK (by simp [z_tys]) hW hS hA hz.symm (fun _ _ => rfl) (fun _ => rfl) (by decide) rfl (Nat.le_of_ble_eq_true rfl) (Nat.le_of_ble_eq_true rfl) (Nat.le_of_ble_eq_true rfl) dX6_init_7 (fun H hz1 hW hS => ?_)
  have hz : H.size = ad 23 := hz1.trans ((congrArg (· + 1) hz).trans (had 1 _).symm)
  have hW : z_W _ A (shSX43, ad, ISX1, z_J0, (PSX41 ad)) H := hW
  refine z_putF (T := TX6) (N := 3) (ci := 6) (i := 21) (v := .ref (ad 22)) (I1 := ISX1) (J1 := z_J0) (P1 := (PSX44 ad)) hx hb hts zi_X6_init_X6 tyX6 tyX6_ok nmX6 hown hK hW hS hs_shSX43_21 rfl 0 (by decide) (hts (.fieldLink RX6 11 "PetrolBoard$OrderBook" "told" "[LPetrolBoard$Orders;") (me_s (me_l (me_l (List.mem_of_getElem? (i := 4) rfl))))) (fun _ h => h) rfl hname rfl rfl rfl (by first | rfl | exact congrArg _ z_up_s) (fun a b h ty => z_vP h ty) dX6_init_10 (fun H locs hz1 hW hS => ?_)
  have hz : H.size = ad 23 := hz1.trans hz
  refine lv_aload_n hx hb dX6_init_13 rfl (lv_at hl 0 rfl) ?_
  refine z_new 23 ad (T := TX5) (N := 2) (ci := 5) hx hb hts zi_X6_init_X5 tyX5 tyX5_ok hown (hts (.classLink RX6 17 RX5) (me_s (me_l (me_l (List.mem_of_getElem? (i := 5) rfl))))) (hts (.instantiable RX5 2) (me_s (me_l (me_l (List.mem_of_getElem? (i := 6) rfl))))) (hts (.initialized RX5) (me_s (me_l (me_l (List.mem_of_getElem? (i := 7) rfl))))) hK hW hS hA hz.symm (fun _ _ => rfl) rfl (fun k hk => (z_v0 rfl rfl rfl (ndX5 k hk)).symm) (Nat.le_of_ble_eq_true rfl) (Nat.le_of_ble_eq_true rfl) dX6_init_14 (fun H hz1 hW hS => ?_)
  have hz : H.size = ad 24 := hz1.trans ((congrArg (· + 1) hz).trans (had 1 _).symm)
  have hW : z_W _ A (shSX45, ad, ISX1, z_J0, (PSX44 ad)) H := hW
  refine lv_dup hx hb dX6_init_17 rfl ?_
  refine z_cc hW hS hA (va_runIN (As := []) (rest := [.ref (ad 23), .ref (ad 21)]) ⟨hx, hb, hml, hown, hts⟩ (ct_X5_init l G ad had _ hz) ⟨va_cnB 0 hts gX6_init_X5_init_n19 rfl rfl rfl (hK.2.2.1 _ (List.mem_of_getElem? (i := 3) rfl)) (hts (.initialized RX5) (me_s (me_l (me_l (List.mem_of_getElem? (i := 7) rfl))))) (by decide +kernel) ⟨Nat.le_of_ble_eq_true rfl, Nat.le_of_ble_eq_true rfl⟩, rfl, (hts (.instanceMethod yX5_init) (me_s (me_l (me_l (List.mem_of_getElem? (i := 9) rfl)))))⟩ (z_preS hK hW) rfl rfl hl.1 rfl (lv_room (Nat.le_of_ble_eq_true rfl)) dX6_init_18 ⟨Nat.le_of_ble_eq_true rfl, Nat.le_of_ble_eq_true rfl⟩) (fun H locs hz1 hW hS => ?_)
  have hz : H.size = ad 26 := hz1.trans ((congrArg (· + 2) hz).trans (had 2 _).symm)
  refine z_putF (T := TX6) (N := 3) (ci := 6) (i := 21) (v := .ref (ad 23)) (I1 := ISX1) (J1 := z_J0) (P1 := (PSX50 ad)) hx hb hts zi_X6_init_X6 tyX6 tyX6_ok nmX6 hown hK hW hS hs_shSX48_21 rfl 1 (by decide) (hts (.fieldLink RX6 20 "PetrolBoard$OrderBook" "machine" "LPetrolBoard$Machine;") (me_s (me_l (me_l (List.mem_of_getElem? (i := 8) rfl))))) (fun _ h => h) rfl hname rfl rfl rfl (by first | rfl | exact congrArg _ z_up_s) (fun a b h ty => z_vP h ty) dX6_init_21 (fun H locs hz1 hW hS => ?_)
  have hz : H.size = ad 26 := hz1.trans hz
  exact z_cret hx hb hr hK hS (Nat.le_of_ble_eq_true rfl) (Nat.le_of_ble_eq_true rfl) hlocks dX6_init_24 (hz.trans ((had 4 22).trans (congrArg (· + 4) hz0.symm))) hW
theorem hs_shSX48_0 : shSX48 0 = some (.inr 11) := by rfl
noncomputable def PSX51 (ad : Nat → Nat) : z_P := z_up (PSX50 ad) 0 4 (some (ad 21))
noncomputable def shSX52 : Nat → Option z_S := z_sh shSX48 26 (.inr 0)
noncomputable def shSX53 : Nat → Option z_S := z_sh shSX52 27 (.inl (.int, 720))
theorem hs_shSX53_26 : shSX53 26 = some (.inr 0) := rfl
noncomputable def PSX54 (ad : Nat → Nat) : z_P := z_up (PSX51 ad) 26 0 (some (ad 27))
noncomputable def shSX55 : Nat → Option z_S := z_sh shSX53 28 (.inl (.int, 512))
theorem hs_shSX55_26 : shSX55 26 = some (.inr 0) := hs_shSX53_26
noncomputable def PSX56 (ad : Nat → Nat) : z_P := z_up (PSX54 ad) 26 1 (some (ad 28))
noncomputable def shSX57 : Nat → Option z_S := z_sh shSX55 29 (.inl (.int, 512))
theorem hs_shSX57_26 : shSX57 26 = some (.inr 0) := hs_shSX55_26
noncomputable def PSX58 (ad : Nat → Nat) : z_P := z_up (PSX56 ad) 26 2 (some (ad 29))
noncomputable def ISX59 : z_I := z_fi ISX1 27 (-1)
theorem hI_ISX59 : ∀ a b, 27 < a → ISX59 a b = 0 := fun a b h => by
  have e : a ≠ 27 := by omega
  show z_fi ISX1 27 (-1) a b = 0
  simp only [z_up, z_fi, if_neg e]
  exact hI_ISX1 a b (by omega)
theorem zi_X0_init_X0 : ∀ w ∈ wsX00, w ∈ wsX0_init := fun w h => (List.mem_cons_of_mem _ (List.mem_append_right _ h))
set_option maxHeartbeats 8000000 in
set_option maxRecDepth 100000 in
theorem ct_X0_init (l : Launch) (G : z_G) (ad : Nat → Nat) (had : ∀ k i, ad (i + k) = ad i + k) (sz : Nat) (hz : sz = ad 27) : z_Mc l yX0_init wsX0_init { frames := 2, cells := 3, slots := 1744, locals := 35 } [.ref (ad 26)] G (shSX52, ad, ISX1, z_J0, (PSX51 ad)) (shSX57, ad, ISX59, z_J0, (PSX58 ad)) 3 3 1744 sz := by
  refine z_headQ (cc := cX0_init) (maxL := 1) (ret := none) (by decide) rfl (Nat.le_of_ble_eq_true rfl) ?_
  intro p e s m below meth c ls hIn hK hsz hW hl
  obtain ⟨hx, hb, hr, hml, hown, hts, hlocks, hname⟩ := hIn
  subst hsz
  have hz0 := hz
  have hown : s.vm.findClass RX0 = some m.cls := hown
  have hname : meth.name = "<init>" := hname
  have hA : ∀ q : Nat, s.heap.size ≤ q → z_A (shSX52, ad, ISX1, z_J0, (PSX51 ad)) s.heap.size q := fun q h => Or.inr h
  generalize hAe : z_A (shSX52, ad, ISX1, z_J0, (PSX51 ad)) s.heap.size = A at *
  have hS : va_S A s.heap s.heap [] := va_S.rf
  have hl : lv_has ls 1 [(0, .ref (ad 26))] := hl
  refine lv_aload_n hx hb dX0_init_0 rfl (lv_at hl 0 rfl) ?_
  refine W.objInit hx hb hown (hts (.methodLink RX0 3 objectInit) (me_s (me_l (List.mem_of_getElem? (i := 0) rfl)))) (hts (.instanceMethod objectInit) (me_s (me_l (List.mem_of_getElem? (i := 1) rfl)))) (hts (.code objectInit ⟨#[0xb1]⟩ 1 none) (me_s (me_l (List.mem_of_getElem? (i := 2) rfl)))) rfl (by rw [hml]; exact hl.1) rfl dX0_init_1 (Nat.le_of_ble_eq_true rfl) (Nat.le_of_ble_eq_true rfl) ?_
  refine W.eq (g2 := F0 m 4 ls []) rfl ?_
  refine lv_aload_n hx hb dX0_init_4 rfl (lv_at hl 0 rfl) ?_
  refine lv_sipush (v := 720) hx hb dX0_init_5 (by decide) ?_
  refine z_newa 27 ad (atype := .int) (ty := .int) (N' := 720) hx hb (hts (.arrayClass .int) (me_s (me_l (List.mem_of_getElem? (i := 3) rfl)))) rfl hK (by simp [z_tys]) hW hS hA hz.symm (fun _ _ => rfl) (fun _ => rfl) (by decide) rfl (Nat.le_of_ble_eq_true rfl) (Nat.le_of_ble_eq_true rfl) (Nat.le_of_ble_eq_true rfl) dX0_init_8 (fun H hz1 hW hS => ?_)
  have hz : H.size = ad 28 := hz1.trans ((congrArg (· + 1) hz).trans (had 1 _).symm)
  have hW : z_W _ A (shSX53, ad, ISX1, z_J0, (PSX51 ad)) H := hW
  refine z_putF (T := TX0) (N := 5) (ci := 0) (i := 26) (v := .ref (ad 27)) (I1 := ISX1) (J1 := z_J0) (P1 := (PSX54 ad)) hx hb hts zi_X0_init_X0 tyX0 tyX0_ok nmX0 hown hK hW hS hs_shSX53_26 rfl 0 (by decide) (hts (.fieldLink RX0 9 "PetrolBoard$Coupons" "issued" "[I") (me_s (me_l (List.mem_of_getElem? (i := 4) rfl)))) (fun _ h => h) rfl hname rfl rfl rfl (by first | rfl | exact congrArg _ z_up_s) (fun a b h ty => z_vP h ty) dX0_init_10 (fun H locs hz1 hW hS => ?_)
  have hz : H.size = ad 28 := hz1.trans hz
  refine lv_aload_n hx hb dX0_init_13 rfl (lv_at hl 0 rfl) ?_
  refine lv_sipush (v := 512) hx hb dX0_init_14 (by decide) ?_
  refine z_newa 28 ad (atype := .int) (ty := .int) (N' := 512) hx hb (hts (.arrayClass .int) (me_s (me_l (List.mem_of_getElem? (i := 3) rfl)))) rfl hK (by simp [z_tys]) hW hS hA hz.symm (fun _ _ => rfl) (fun _ => rfl) (by decide) rfl (Nat.le_of_ble_eq_true rfl) (Nat.le_of_ble_eq_true rfl) (Nat.le_of_ble_eq_true rfl) dX0_init_17 (fun H hz1 hW hS => ?_)
  have hz : H.size = ad 29 := hz1.trans ((congrArg (· + 1) hz).trans (had 1 _).symm)
  have hW : z_W _ A (shSX55, ad, ISX1, z_J0, (PSX54 ad)) H := hW
  refine z_putF (T := TX0) (N := 5) (ci := 0) (i := 26) (v := .ref (ad 28)) (I1 := ISX1) (J1 := z_J0) (P1 := (PSX56 ad)) hx hb hts zi_X0_init_X0 tyX0 tyX0_ok nmX0 hown hK hW hS hs_shSX55_26 rfl 1 (by decide) (hts (.fieldLink RX0 15 "PetrolBoard$Coupons" "lent" "[I") (me_s (me_l (List.mem_of_getElem? (i := 5) rfl)))) (fun _ h => h) rfl hname rfl rfl rfl (by first | rfl | exact congrArg _ z_up_s) (fun a b h ty => z_vP h ty) dX0_init_19 (fun H locs hz1 hW hS => ?_)
  have hz : H.size = ad 29 := hz1.trans hz
  refine lv_aload_n hx hb dX0_init_22 rfl (lv_at hl 0 rfl) ?_
  refine lv_sipush (v := 512) hx hb dX0_init_23 (by decide) ?_
  refine z_newa 29 ad (atype := .int) (ty := .int) (N' := 512) hx hb (hts (.arrayClass .int) (me_s (me_l (List.mem_of_getElem? (i := 3) rfl)))) rfl hK (by simp [z_tys]) hW hS hA hz.symm (fun _ _ => rfl) (fun _ => rfl) (by decide) rfl (Nat.le_of_ble_eq_true rfl) (Nat.le_of_ble_eq_true rfl) (Nat.le_of_ble_eq_true rfl) dX0_init_26 (fun H hz1 hW hS => ?_)
  have hz : H.size = ad 30 := hz1.trans ((congrArg (· + 1) hz).trans (had 1 _).symm)
  have hW : z_W _ A (shSX57, ad, ISX1, z_J0, (PSX56 ad)) H := hW
  refine z_putF (T := TX0) (N := 5) (ci := 0) (i := 26) (v := .ref (ad 29)) (I1 := ISX1) (J1 := z_J0) (P1 := (PSX58 ad)) hx hb hts zi_X0_init_X0 tyX0 tyX0_ok nmX0 hown hK hW hS hs_shSX57_26 rfl 2 (by decide) (hts (.fieldLink RX0 18 "PetrolBoard$Coupons" "lentTo" "[I") (me_s (me_l (List.mem_of_getElem? (i := 6) rfl)))) (fun _ h => h) rfl hname rfl rfl rfl (by first | rfl | exact congrArg _ z_up_s) (fun a b h ty => z_vP h ty) dX0_init_28 (fun H locs hz1 hW hS => ?_)
  have hz : H.size = ad 30 := hz1.trans hz
  refine lv_aload_n hx hb dX0_init_31 rfl (lv_at hl 0 rfl) ?_
  refine z_get (T := TX0) (N := 5) (ci := 0) (i := 26) (v := .ref (ad 27)) hx hb hts zi_X0_init_X0 hown hK hW hs_shSX57_26 rfl 0 (by decide) (hts (.fieldLink RX0 9 "PetrolBoard$Coupons" "issued" "[I") (me_s (me_l (List.mem_of_getElem? (i := 4) rfl)))) (fun _ h => h) rfl dX0_init_32 ?_
  refine lv_iconst (v := (-1)) hx hb dX0_init_35 (by decide) ?_
  refine z_cc hW hS hA (va_runS (As := [.ref (ad 27), .int (-1)]) (rest := []) ⟨hx, hb, hml, hown, hts⟩ (ct_fill l G 27 720 (-1) rfl (by decide) _) (va_cwS 2 hts gX0_init_J7_fill_53178 rfl rfl rfl hy_J7_fill_53178.2 ⟨Nat.le_of_ble_eq_true rfl, Nat.le_of_ble_eq_true rfl⟩) (z_preS hK hW) rfl rfl hl.1 rfl (lv_room (Nat.le_of_ble_eq_true rfl)) dX0_init_36 ⟨Nat.le_of_ble_eq_true rfl, Nat.le_of_ble_eq_true rfl⟩) (fun H locs hz1 hW hS => ?_)
  have hW : z_W _ A (shSX57, ad, ISX59, z_J0, (PSX58 ad)) H := hW
  have hz : H.size = ad 30 := hz1.trans hz
  exact z_cret hx hb hr hK hS (Nat.le_of_ble_eq_true rfl) (Nat.le_of_ble_eq_true rfl) hlocks dX0_init_39 (hz.trans ((had 3 27).trans (congrArg (· + 3) hz0.symm))) hW
theorem hs_shSX57_0 : shSX57 0 = some (.inr 11) := by rfl
noncomputable def PSX60 (ad : Nat → Nat) : z_P := z_up (PSX58 ad) 0 5 (some (ad 26))
noncomputable def shSX61 : Nat → Option z_S := z_sh shSX57 30 (.inr 8)
noncomputable def shSX62 : Nat → Option z_S := z_sh shSX61 31 (.inl (.int, 300))
theorem hs_shSX62_30 : shSX62 30 = some (.inr 8) := rfl
noncomputable def PSX63 (ad : Nat → Nat) : z_P := z_up (PSX60 ad) 30 0 (some (ad 31))
noncomputable def shSX64 : Nat → Option z_S := z_sh shSX62 32 (.inl (.int, 300))
theorem hs_shSX64_30 : shSX64 30 = some (.inr 8) := hs_shSX62_30
noncomputable def PSX65 (ad : Nat → Nat) : z_P := z_up (PSX63 ad) 30 1 (some (ad 32))
noncomputable def shSX66 : Nat → Option z_S := z_sh shSX64 33 (.inl (.int, 300))
theorem hs_shSX66_30 : shSX66 30 = some (.inr 8) := hs_shSX64_30
noncomputable def PSX67 (ad : Nat → Nat) : z_P := z_up (PSX65 ad) 30 2 (some (ad 33))
noncomputable def shSX68 : Nat → Option z_S := z_sh shSX66 34 (.inl (.int, 300))
theorem hs_shSX68_30 : shSX68 30 = some (.inr 8) := hs_shSX66_30
noncomputable def PSX69 (ad : Nat → Nat) : z_P := z_up (PSX67 ad) 30 3 (some (ad 34))
noncomputable def shSX70 : Nat → Option z_S := z_sh shSX68 35 (.inl (.int, 300))
theorem hs_shSX70_30 : shSX70 30 = some (.inr 8) := hs_shSX68_30
noncomputable def PSX71 (ad : Nat → Nat) : z_P := z_up (PSX69 ad) 30 4 (some (ad 35))
noncomputable def shSX72 : Nat → Option z_S := z_sh shSX70 36 (.inl (.int, 300))
theorem hs_shSX72_30 : shSX72 30 = some (.inr 8) := hs_shSX70_30
noncomputable def PSX73 (ad : Nat → Nat) : z_P := z_up (PSX71 ad) 30 5 (some (ad 36))
noncomputable def shSX74 : Nat → Option z_S := z_sh shSX72 37 (.inl (.int, 300))
theorem hs_shSX74_30 : shSX74 30 = some (.inr 8) := hs_shSX72_30
noncomputable def PSX75 (ad : Nat → Nat) : z_P := z_up (PSX73 ad) 30 6 (some (ad 37))
noncomputable def shSX76 : Nat → Option z_S := z_sh shSX74 38 (.inl (.int, 300))
theorem hs_shSX76_30 : shSX76 30 = some (.inr 8) := hs_shSX74_30
noncomputable def PSX77 (ad : Nat → Nat) : z_P := z_up (PSX75 ad) 30 7 (some (ad 38))
theorem zi_X8_init_X8 : ∀ w ∈ wsX80, w ∈ wsX8_init := fun w h => (List.mem_cons_of_mem _ (List.mem_append_right _ h))
