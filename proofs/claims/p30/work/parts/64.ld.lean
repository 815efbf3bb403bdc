theorem z_ltX : ∀ i, shX i ≠ none → i < 75 := by
  intro i h
  rcases Nat.lt_or_ge i 75 with q | q
  · exact q
  · exact absurd (List.getElem?_eq_none (l := zLX) (by exact q)) h
set_option maxRecDepth 100000 in
set_option maxHeartbeats 8000000 in
theorem z_convX {G : z_G} {A : Nat → Prop} {ad : Nat → Nat} {H : Heap} (h : z_W G A (shSX134, ad, ISX137, z_J0, PSX136 ad) H) : z_W G A (shX, ad, IX, JX, PX ad) H := by
  have key : ∀ i, i < 75 → shSX134 i = shX i := by
    intro i hi
    match i, hi with
    | 0, _ => rfl
    | 1, _ => rfl
    | 2, _ => rfl
    | 3, _ => rfl
    | 4, _ => rfl
    | 5, _ => rfl
    | 6, _ => rfl
    | 7, _ => rfl
    | 8, _ => rfl
    | 9, _ => rfl
    | 10, _ => rfl
    | 11, _ => rfl
    | 12, _ => rfl
    | 13, _ => rfl
    | 14, _ => rfl
    | 15, _ => rfl
    | 16, _ => rfl
    | 17, _ => rfl
    | 18, _ => rfl
    | 19, _ => rfl
    | 20, _ => rfl
    | 21, _ => rfl
    | 22, _ => rfl
    | 23, _ => rfl
    | 24, _ => rfl
    | 25, _ => rfl
    | 26, _ => rfl
    | 27, _ => rfl
    | 28, _ => rfl
    | 29, _ => rfl
    | 30, _ => rfl
    | 31, _ => rfl
    | 32, _ => rfl
    | 33, _ => rfl
    | 34, _ => rfl
    | 35, _ => rfl
    | 36, _ => rfl
    | 37, _ => rfl
    | 38, _ => rfl
    | 39, _ => rfl
    | 40, _ => rfl
    | 41, _ => rfl
    | 42, _ => rfl
    | 43, _ => rfl
    | 44, _ => rfl
    | 45, _ => rfl
    | 46, _ => rfl
    | 47, _ => rfl
    | 48, _ => rfl
    | 49, _ => rfl
    | 50, _ => rfl
    | 51, _ => rfl
    | 52, _ => rfl
    | 53, _ => rfl
    | 54, _ => rfl
    | 55, _ => rfl
    | 56, _ => rfl
    | 57, _ => rfl
    | 58, _ => rfl
    | 59, _ => rfl
    | 60, _ => rfl
    | 61, _ => rfl
    | 62, _ => rfl
    | 63, _ => rfl
    | 64, _ => rfl
    | 65, _ => rfl
    | 66, _ => rfl
    | 67, _ => rfl
    | 68, _ => rfl
    | 69, _ => rfl
    | 70, _ => rfl
    | 71, _ => rfl
    | 72, _ => rfl
    | 73, _ => rfl
    | 74, _ => rfl
    | k + 75, hi => exact absurd hi (by omega)
  have hne : ∀ i, shX i ≠ none → shSX134 i ≠ none := fun i hi => by rw [key i (z_ltX i hi)]; exact hi
  refine ⟨fun i x hi => ?_, fun i j hi hj => h.2.1 i j (hne i hi) (hne j hj), fun i hi => h.2.2 i (hne i hi)⟩
  have hlt := z_ltX i (z_ne hi)
  match i, hlt, hi with
  | 0, _, hi => obtain rfl : _ = x := Option.some.inj hi; exact (h.1 0 (.inr 11) rfl).toO rfl rfl (fun k hk => match k, hk with
      | 0, _ => rfl
      | 1, _ => rfl
      | 2, _ => rfl
      | 3, _ => rfl
      | 4, _ => rfl
      | 5, _ => rfl
      | 6, _ => rfl
      | 7, _ => rfl
      | 8, _ => rfl
      | 9, _ => rfl
      | 10, _ => rfl
      | 11, _ => rfl
      | 12, _ => rfl
      | k + 13, hk => absurd hk (by omega))
  | 1, _, hi => obtain rfl : _ = x := Option.some.inj hi; exact (h.1 1 (.inr 2) rfl).toO rfl rfl (fun k hk => match k, hk with
      | 0, _ => rfl
      | 1, _ => rfl
      | 2, _ => rfl
      | 3, _ => rfl
      | 4, _ => rfl
      | 5, _ => rfl
      | 6, _ => rfl
      | 7, _ => rfl
      | 8, _ => rfl
      | 9, _ => rfl
      | 10, _ => rfl
      | 11, _ => rfl
      | k + 12, hk => absurd hk (by omega))
  | 2, _, hi => obtain rfl : _ = x := Option.some.inj hi; exact (h.1 2 (.inl (.int, 30)) rfl).toA rfl (fun k _ => rfl)
  | 3, _, hi => obtain rfl : _ = x := Option.some.inj hi; exact (h.1 3 (.inl (.int, 30)) rfl).toA rfl (fun k _ => rfl)
  | 4, _, hi => obtain rfl : _ = x := Option.some.inj hi; exact (h.1 4 (.inl (.int, 30)) rfl).toA rfl (fun k _ => rfl)
  | 5, _, hi => obtain rfl : _ = x := Option.some.inj hi; exact (h.1 5 (.inl (.int, 30)) rfl).toA rfl (fun k _ => rfl)
  | 6, _, hi => obtain rfl : _ = x := Option.some.inj hi; exact (h.1 6 (.inl (.int, 30)) rfl).toA rfl (fun k _ => rfl)
  | 7, _, hi => obtain rfl : _ = x := Option.some.inj hi; exact (h.1 7 (.inl (.int, 200)) rfl).toA rfl (fun k _ => rfl)
  | 8, _, hi => obtain rfl : _ = x := Option.some.inj hi; exact (h.1 8 (.inl (.int, 200)) rfl).toA rfl (fun k _ => rfl)
  | 9, _, hi => obtain rfl : _ = x := Option.some.inj hi; exact (h.1 9 (.inl (.int, 200)) rfl).toA rfl (fun k _ => rfl)
  | 10, _, hi => obtain rfl : _ = x := Option.some.inj hi; exact (h.1 10 (.inl (.int, 200)) rfl).toA rfl (fun k _ => rfl)
  | 11, _, hi => obtain rfl : _ = x := Option.some.inj hi; exact (h.1 11 (.inl (.int, 200)) rfl).toA rfl (fun k _ => rfl)
  | 12, _, hi => obtain rfl : _ = x := Option.some.inj hi; exact (h.1 12 (.inr 9) rfl).toO rfl rfl (fun k hk => match k, hk with
      | 0, _ => rfl
      | 1, _ => rfl
      | 2, _ => rfl
      | 3, _ => rfl
      | 4, _ => rfl
      | 5, _ => rfl
      | 6, _ => rfl
      | 7, _ => rfl
      | 8, _ => rfl
      | 9, _ => rfl
      | 10, _ => rfl
      | 11, _ => rfl
      | 12, _ => rfl
      | 13, _ => rfl
      | k + 14, hk => absurd hk (by omega))
  | 13, _, hi => obtain rfl : _ = x := Option.some.inj hi; exact (h.1 13 (.inl (.int, 500)) rfl).toA rfl (fun k _ => rfl)
  | 14, _, hi => obtain rfl : _ = x := Option.some.inj hi; exact (h.1 14 (.inl (.int, 501)) rfl).toA rfl (fun k _ => rfl)
  | 15, _, hi => obtain rfl : _ = x := Option.some.inj hi; exact (h.1 15 (.inl (.int, 501)) rfl).toA rfl (fun k _ => rfl)
  | 16, _, hi => obtain rfl : _ = x := Option.some.inj hi; exact (h.1 16 (.inl (.int, 501)) rfl).toA rfl (fun k _ => rfl)
  | 17, _, hi => obtain rfl : _ = x := Option.some.inj hi; exact (h.1 17 (.inl (.int, 500)) rfl).toA rfl (fun k _ => rfl)
  | 18, _, hi => obtain rfl : _ = x := Option.some.inj hi; exact (h.1 18 (.inl (.int, 24)) rfl).toA rfl (fun k _ => rfl)
  | 19, _, hi => obtain rfl : _ = x := Option.some.inj hi; exact (h.1 19 (.inl (.int, 24)) rfl).toA rfl (fun k _ => rfl)
  | 20, _, hi => obtain rfl : _ = x := Option.some.inj hi; exact (h.1 20 (.inl (.int, 24)) rfl).toA rfl (fun k _ => rfl)
  | 21, _, hi => obtain rfl : _ = x := Option.some.inj hi; exact (h.1 21 (.inr 6) rfl).toO rfl rfl (fun k hk => match k, hk with
      | 0, _ => rfl
      | 1, _ => rfl
      | 2, _ => rfl
      | k + 3, hk => absurd hk (by omega))
  | 22, _, hi => obtain rfl : _ = x := Option.some.inj hi; exact (h.1 22 (.inl ((.object RX7), 12)) rfl).toA rfl (fun k _ => rfl)
  | 23, _, hi => obtain rfl : _ = x := Option.some.inj hi; exact (h.1 23 (.inr 5) rfl).toO rfl rfl (fun k hk => match k, hk with
      | 0, _ => rfl
      | 1, _ => rfl
      | k + 2, hk => absurd hk (by omega))
  | 24, _, hi => obtain rfl : _ = x := Option.some.inj hi; exact (h.1 24 (.inl (.int, 7)) rfl).toA rfl (fun k _ => rfl)
  | 25, _, hi => obtain rfl : _ = x := Option.some.inj hi; exact (h.1 25 (.inl (.int, 64)) rfl).toA rfl (fun k _ => rfl)
  | 26, _, hi => obtain rfl : _ = x := Option.some.inj hi; exact (h.1 26 (.inr 0) rfl).toO rfl rfl (fun k hk => match k, hk with
      | 0, _ => rfl
      | 1, _ => rfl
      | 2, _ => rfl
      | 3, _ => rfl
      | 4, _ => rfl
      | k + 5, hk => absurd hk (by omega))
  | 27, _, hi => obtain rfl : _ = x := Option.some.inj hi; exact (h.1 27 (.inl (.int, 720)) rfl).toA rfl (fun k _ => rfl)
  | 28, _, hi => obtain rfl : _ = x := Option.some.inj hi; exact (h.1 28 (.inl (.int, 512)) rfl).toA rfl (fun k _ => rfl)
  | 29, _, hi => obtain rfl : _ = x := Option.some.inj hi; exact (h.1 29 (.inl (.int, 512)) rfl).toA rfl (fun k _ => rfl)
  | 30, _, hi => obtain rfl : _ = x := Option.some.inj hi; exact (h.1 30 (.inr 8) rfl).toO rfl rfl (fun k hk => match k, hk with
      | 0, _ => rfl
      | 1, _ => rfl
      | 2, _ => rfl
      | 3, _ => rfl
      | 4, _ => rfl
      | 5, _ => rfl
      | 6, _ => rfl
      | 7, _ => rfl
      | 8, _ => rfl
      | k + 9, hk => absurd hk (by omega))
  | 31, _, hi => obtain rfl : _ = x := Option.some.inj hi; exact (h.1 31 (.inl (.int, 300)) rfl).toA rfl (fun k _ => rfl)
  | 32, _, hi => obtain rfl : _ = x := Option.some.inj hi; exact (h.1 32 (.inl (.int, 300)) rfl).toA rfl (fun k _ => rfl)
  | 33, _, hi => obtain rfl : _ = x := Option.some.inj hi; exact (h.1 33 (.inl (.int, 300)) rfl).toA rfl (fun k _ => rfl)
  | 34, _, hi => obtain rfl : _ = x := Option.some.inj hi; exact (h.1 34 (.inl (.int, 300)) rfl).toA rfl (fun k _ => rfl)
  | 35, _, hi => obtain rfl : _ = x := Option.some.inj hi; exact (h.1 35 (.inl (.int, 300)) rfl).toA rfl (fun k _ => rfl)
  | 36, _, hi => obtain rfl : _ = x := Option.some.inj hi; exact (h.1 36 (.inl (.int, 300)) rfl).toA rfl (fun k _ => rfl)
  | 37, _, hi => obtain rfl : _ = x := Option.some.inj hi; exact (h.1 37 (.inl (.int, 300)) rfl).toA rfl (fun k _ => rfl)
  | 38, _, hi => obtain rfl : _ = x := Option.some.inj hi; exact (h.1 38 (.inl (.int, 300)) rfl).toA rfl (fun k _ => rfl)
  | 39, _, hi => obtain rfl : _ = x := Option.some.inj hi; exact (h.1 39 (.inl ((.object RX10), 10)) rfl).toA rfl (fun k _ => rfl)
  | 40, _, hi => obtain rfl : _ = x := Option.some.inj hi; exact (h.1 40 (.inl (.int, 30)) rfl).toA rfl (fun k _ => rfl)
  | 41, _, hi => obtain rfl : _ = x := Option.some.inj hi; exact (h.1 41 (.inr 4) rfl).toO rfl rfl (fun k hk => match k, hk with
      | 0, _ => rfl
      | 1, _ => rfl
      | 2, _ => rfl
      | 3, _ => rfl
      | 4, _ => rfl
      | 5, _ => rfl
      | 6, _ => rfl
      | 7, _ => rfl
      | 8, _ => rfl
      | 9, _ => rfl
      | 10, _ => rfl
      | 11, _ => rfl
      | 12, _ => rfl
      | k + 13, hk => absurd hk (by omega))
  | 42, _, hi => obtain rfl : _ = x := Option.some.inj hi; exact (h.1 42 (.inl (.int, 4)) rfl).toA rfl (fun k _ => rfl)
  | 43, _, hi => obtain rfl : _ = x := Option.some.inj hi; exact (h.1 43 (.inl (.int, 10)) rfl).toA rfl (fun k _ => rfl)
  | 44, _, hi => obtain rfl : _ = x := Option.some.inj hi; exact (h.1 44 (.inl ((.array .int), 4)) rfl).toA rfl (fun k hk => match k, hk with
      | 0, _ => rfl
      | 1, _ => rfl
      | 2, _ => rfl
      | 3, _ => rfl
      | k + 4, hk => absurd hk (by omega))
  | 45, _, hi => obtain rfl : _ = x := Option.some.inj hi; exact (h.1 45 (.inl (.int, 10)) rfl).toA rfl (fun k _ => rfl)
  | 46, _, hi => obtain rfl : _ = x := Option.some.inj hi; exact (h.1 46 (.inl (.int, 10)) rfl).toA rfl (fun k _ => rfl)
  | 47, _, hi => obtain rfl : _ = x := Option.some.inj hi; exact (h.1 47 (.inl (.int, 10)) rfl).toA rfl (fun k _ => rfl)
  | 48, _, hi => obtain rfl : _ = x := Option.some.inj hi; exact (h.1 48 (.inl (.int, 10)) rfl).toA rfl (fun k _ => rfl)
  | 49, _, hi => obtain rfl : _ = x := Option.some.inj hi; exact (h.1 49 (.inl ((.array .int), 4)) rfl).toA rfl (fun k hk => match k, hk with
      | 0, _ => rfl
      | 1, _ => rfl
      | 2, _ => rfl
      | 3, _ => rfl
      | k + 4, hk => absurd hk (by omega))
  | 50, _, hi => obtain rfl : _ = x := Option.some.inj hi; exact (h.1 50 (.inl (.int, 10)) rfl).toA rfl (fun k _ => rfl)
  | 51, _, hi => obtain rfl : _ = x := Option.some.inj hi; exact (h.1 51 (.inl (.int, 10)) rfl).toA rfl (fun k _ => rfl)
  | 52, _, hi => obtain rfl : _ = x := Option.some.inj hi; exact (h.1 52 (.inl (.int, 10)) rfl).toA rfl (fun k _ => rfl)
  | 53, _, hi => obtain rfl : _ = x := Option.some.inj hi; exact (h.1 53 (.inl (.int, 10)) rfl).toA rfl (fun k _ => rfl)
  | 54, _, hi => obtain rfl : _ = x := Option.some.inj hi; exact (h.1 54 (.inl (.int, 4)) rfl).toA rfl (fun k _ => rfl)
  | 55, _, hi => obtain rfl : _ = x := Option.some.inj hi; exact (h.1 55 (.inl (.int, 10)) rfl).toA rfl (fun k _ => rfl)
  | 56, _, hi => obtain rfl : _ = x := Option.some.inj hi; exact (h.1 56 (.inl (.int, 4)) rfl).toA rfl (fun k _ => rfl)
  | 57, _, hi => obtain rfl : _ = x := Option.some.inj hi; exact (h.1 57 (.inl (.int, 10)) rfl).toA rfl (fun k _ => rfl)
  | 58, _, hi => obtain rfl : _ = x := Option.some.inj hi; exact (h.1 58 (.inl (.int, 10)) rfl).toA rfl (fun k _ => rfl)
  | 59, _, hi => obtain rfl : _ = x := Option.some.inj hi; exact (h.1 59 (.inl (.int, 4)) rfl).toA rfl (fun k _ => rfl)
  | 60, _, hi => obtain rfl : _ = x := Option.some.inj hi; exact (h.1 60 (.inr 3) rfl).toO rfl rfl (fun k hk => match k, hk with
      | 0, _ => rfl
      | 1, _ => rfl
      | 2, _ => rfl
      | 3, _ => rfl
      | 4, _ => rfl
      | 5, _ => rfl
      | 6, _ => rfl
      | 7, _ => rfl
      | 8, _ => rfl
      | 9, _ => rfl
      | 10, _ => rfl
      | 11, _ => rfl
      | 12, _ => rfl
      | 13, _ => rfl
      | 14, _ => rfl
      | 15, _ => rfl
      | 16, _ => rfl
      | k + 17, hk => absurd hk (by omega))
  | 61, _, hi => obtain rfl : _ = x := Option.some.inj hi; exact (h.1 61 (.inl (.int, 60)) rfl).toA rfl (fun k _ => rfl)
  | 62, _, hi => obtain rfl : _ = x := Option.some.inj hi; exact (h.1 62 (.inl (.int, 60)) rfl).toA rfl (fun k _ => rfl)
  | 63, _, hi => obtain rfl : _ = x := Option.some.inj hi; exact (h.1 63 (.inl (.int, 60)) rfl).toA rfl (fun k _ => rfl)
  | 64, _, hi => obtain rfl : _ = x := Option.some.inj hi; exact (h.1 64 (.inl (.int, 60)) rfl).toA rfl (fun k _ => rfl)
  | 65, _, hi => obtain rfl : _ = x := Option.some.inj hi; exact (h.1 65 (.inl (.int, 60)) rfl).toA rfl (fun k _ => rfl)
  | 66, _, hi => obtain rfl : _ = x := Option.some.inj hi; exact (h.1 66 (.inl (.int, 60)) rfl).toA rfl (fun k _ => rfl)
  | 67, _, hi => obtain rfl : _ = x := Option.some.inj hi; exact (h.1 67 (.inl (.int, 60)) rfl).toA rfl (fun k _ => rfl)
  | 68, _, hi => obtain rfl : _ = x := Option.some.inj hi; exact (h.1 68 (.inl (.int, 60)) rfl).toA rfl (fun k _ => rfl)
  | 69, _, hi => obtain rfl : _ = x := Option.some.inj hi; exact (h.1 69 (.inl (.int, 60)) rfl).toA rfl (fun k _ => rfl)
  | 70, _, hi => obtain rfl : _ = x := Option.some.inj hi; exact (h.1 70 (.inl (.int, 12)) rfl).toA rfl (fun k _ => rfl)
  | 71, _, hi => obtain rfl : _ = x := Option.some.inj hi; exact (h.1 71 (.inl (.int, 12)) rfl).toA rfl (fun k _ => rfl)
  | 72, _, hi => obtain rfl : _ = x := Option.some.inj hi; exact (h.1 72 (.inr 1) rfl).toO rfl rfl (fun k hk => match k, hk with
      | 0, _ => rfl
      | 1, _ => rfl
      | 2, _ => rfl
      | k + 3, hk => absurd hk (by omega))
  | 73, _, hi => obtain rfl : _ = x := Option.some.inj hi; exact (h.1 73 (.inl (.int, 30)) rfl).toA rfl (fun k _ => rfl)
  | 74, _, hi => obtain rfl : _ = x := Option.some.inj hi; exact (h.1 74 (.inl (.int, 30)) rfl).toA rfl (fun k _ => rfl)
  | k + 75, hlt, _ => exact absurd hlt (by omega)
theorem z_ltM : ∀ i, shM i ≠ none → i < 71 := by
  intro i h
  rcases Nat.lt_or_ge i 71 with q | q
  · exact q
  · exact absurd (List.getElem?_eq_none (l := zLM) (by exact q)) h
set_option maxRecDepth 100000 in
set_option maxHeartbeats 8000000 in
theorem z_convM {G : z_G} {A : Nat → Prop} {ad : Nat → Nat} {H : Heap} (h : z_W G A (shSM140, ad, ISM51, z_J0, PSM141 ad) H) : z_W G A (shM, ad, IM, JM, PM ad) H := by
  have key : ∀ i, i < 71 → shSM140 i = shM i := by
    intro i hi
    match i, hi with
    | 0, _ => rfl
    | 1, _ => rfl
    | 2, _ => rfl
    | 3, _ => rfl
    | 4, _ => rfl
    | 5, _ => rfl
    | 6, _ => rfl
    | 7, _ => rfl
    | 8, _ => rfl
    | 9, _ => rfl
    | 10, _ => rfl
    | 11, _ => rfl
    | 12, _ => rfl
    | 13, _ => rfl
    | 14, _ => rfl
    | 15, _ => rfl
    | 16, _ => rfl
    | 17, _ => rfl
    | 18, _ => rfl
    | 19, _ => rfl
    | 20, _ => rfl
    | 21, _ => rfl
    | 22, _ => rfl
    | 23, _ => rfl
    | 24, _ => rfl
    | 25, _ => rfl
    | 26, _ => rfl
    | 27, _ => rfl
    | 28, _ => rfl
    | 29, _ => rfl
    | 30, _ => rfl
    | 31, _ => rfl
    | 32, _ => rfl
    | 33, _ => rfl
    | 34, _ => rfl
    | 35, _ => rfl
    | 36, _ => rfl
    | 37, _ => rfl
    | 38, _ => rfl
    | 39, _ => rfl
    | 40, _ => rfl
    | 41, _ => rfl
    | 42, _ => rfl
    | 43, _ => rfl
    | 44, _ => rfl
    | 45, _ => rfl
    | 46, _ => rfl
    | 47, _ => rfl
    | 48, _ => rfl
    | 49, _ => rfl
    | 50, _ => rfl
    | 51, _ => rfl
    | 52, _ => rfl
    | 53, _ => rfl
    | 54, _ => rfl
    | 55, _ => rfl
    | 56, _ => rfl
    | 57, _ => rfl
    | 58, _ => rfl
    | 59, _ => rfl
    | 60, _ => rfl
    | 61, _ => rfl
    | 62, _ => rfl
    | 63, _ => rfl
    | 64, _ => rfl
    | 65, _ => rfl
    | 66, _ => rfl
    | 67, _ => rfl
    | 68, _ => rfl
    | 69, _ => rfl
    | 70, _ => rfl
    | k + 71, hi => exact absurd hi (by omega)
  have hne : ∀ i, shM i ≠ none → shSM140 i ≠ none := fun i hi => by rw [key i (z_ltM i hi)]; exact hi
  refine ⟨fun i x hi => ?_, fun i j hi hj => h.2.1 i j (hne i hi) (hne j hj), fun i hi => h.2.2 i (hne i hi)⟩
  have hlt := z_ltM i (z_ne hi)
  match i, hlt, hi with
  | 0, _, hi => obtain rfl : _ = x := Option.some.inj hi; exact (h.1 0 (.inr 12) rfl).toO rfl rfl (fun k hk => match k, hk with
      | 0, _ => rfl
      | 1, _ => rfl
      | 2, _ => rfl
      | 3, _ => rfl
      | 4, _ => rfl
      | 5, _ => rfl
      | 6, _ => rfl
      | 7, _ => rfl
      | 8, _ => rfl
      | 9, _ => rfl
      | 10, _ => rfl
      | 11, _ => rfl
      | 12, _ => rfl
      | 13, _ => rfl
      | 14, _ => rfl
      | 15, _ => rfl
      | 16, _ => rfl
      | 17, _ => rfl
      | 18, _ => rfl
      | 19, _ => rfl
      | 20, _ => rfl
      | 21, _ => rfl
      | 22, _ => rfl
      | 23, _ => rfl
      | 24, _ => rfl
      | 25, _ => rfl
      | 26, _ => rfl
      | 27, _ => rfl
      | 28, _ => rfl
      | 29, _ => rfl
      | 30, _ => rfl
      | 31, _ => rfl
      | 32, _ => rfl
      | 33, _ => rfl
      | 34, _ => rfl
      | 35, _ => rfl
      | 36, _ => rfl
      | 37, _ => rfl
      | 38, _ => rfl
      | 39, _ => rfl
      | 40, _ => rfl
      | 41, _ => rfl
      | 42, _ => rfl
      | 43, _ => rfl
      | 44, _ => rfl
      | 45, _ => rfl
      | 46, _ => rfl
      | 47, _ => rfl
      | 48, _ => rfl
      | 49, _ => rfl
      | 50, _ => rfl
      | 51, _ => rfl
      | 52, _ => rfl
      | 53, _ => rfl
      | 54, _ => rfl
      | 55, _ => rfl
      | 56, _ => rfl
      | 57, _ => rfl
      | 58, _ => rfl
      | 59, _ => rfl
      | 60, _ => rfl
      | 61, _ => rfl
      | 62, _ => rfl
      | 63, _ => rfl
      | 64, _ => rfl
      | 65, _ => rfl
      | 66, _ => rfl
      | 67, _ => rfl
      | 68, _ => rfl
      | 69, _ => rfl
      | 70, _ => rfl
      | 71, _ => rfl
      | 72, _ => rfl
      | 73, _ => rfl
      | 74, _ => rfl
      | 75, _ => rfl
      | 76, _ => rfl
      | 77, _ => rfl
      | 78, _ => rfl
      | 79, _ => rfl
      | 80, _ => rfl
      | 81, _ => rfl
      | 82, _ => rfl
      | 83, _ => rfl
      | 84, _ => rfl
      | 85, _ => rfl
      | 86, _ => rfl
      | 87, _ => rfl
      | 88, _ => rfl
      | 89, _ => rfl
      | 90, _ => rfl
      | 91, _ => rfl
      | 92, _ => rfl
      | 93, _ => rfl
      | 94, _ => rfl
      | 95, _ => rfl
      | k + 96, hk => absurd hk (by omega))
  | 1, _, hi => obtain rfl : _ = x := Option.some.inj hi; exact (h.1 1 (.inl (.int, 30)) rfl).toA rfl (fun k _ => rfl)
  | 2, _, hi => obtain rfl : _ = x := Option.some.inj hi; exact (h.1 2 (.inl (.int, 30)) rfl).toA rfl (fun k _ => rfl)
  | 3, _, hi => obtain rfl : _ = x := Option.some.inj hi; exact (h.1 3 (.inl (.int, 30)) rfl).toA rfl (fun k _ => rfl)
  | 4, _, hi => obtain rfl : _ = x := Option.some.inj hi; exact (h.1 4 (.inl (.int, 30)) rfl).toA rfl (fun k _ => rfl)
  | 5, _, hi => obtain rfl : _ = x := Option.some.inj hi; exact (h.1 5 (.inl (.int, 30)) rfl).toA rfl (fun k _ => rfl)
  | 6, _, hi => obtain rfl : _ = x := Option.some.inj hi; exact (h.1 6 (.inl (.int, 200)) rfl).toA rfl (fun k _ => rfl)
  | 7, _, hi => obtain rfl : _ = x := Option.some.inj hi; exact (h.1 7 (.inl (.int, 200)) rfl).toA rfl (fun k _ => rfl)
  | 8, _, hi => obtain rfl : _ = x := Option.some.inj hi; exact (h.1 8 (.inl (.int, 200)) rfl).toA rfl (fun k _ => rfl)
  | 9, _, hi => obtain rfl : _ = x := Option.some.inj hi; exact (h.1 9 (.inl (.int, 200)) rfl).toA rfl (fun k _ => rfl)
  | 10, _, hi => obtain rfl : _ = x := Option.some.inj hi; exact (h.1 10 (.inl (.int, 200)) rfl).toA rfl (fun k _ => rfl)
  | 11, _, hi => obtain rfl : _ = x := Option.some.inj hi; exact (h.1 11 (.inl (.int, 12)) rfl).toA rfl (fun k _ => rfl)
  | 12, _, hi => obtain rfl : _ = x := Option.some.inj hi; exact (h.1 12 (.inl (.int, 12)) rfl).toA rfl (fun k _ => rfl)
  | 13, _, hi => obtain rfl : _ = x := Option.some.inj hi; exact (h.1 13 (.inl (.int, 12)) rfl).toA rfl (fun k _ => rfl)
  | 14, _, hi => obtain rfl : _ = x := Option.some.inj hi; exact (h.1 14 (.inl (.int, 12)) rfl).toA rfl (fun k _ => rfl)
  | 15, _, hi => obtain rfl : _ = x := Option.some.inj hi; exact (h.1 15 (.inl (.int, 320)) rfl).toA rfl (fun k _ => rfl)
  | 16, _, hi => obtain rfl : _ = x := Option.some.inj hi; exact (h.1 16 (.inl (.int, 320)) rfl).toA rfl (fun k _ => rfl)
  | 17, _, hi => obtain rfl : _ = x := Option.some.inj hi; exact (h.1 17 (.inl (.int, 320)) rfl).toA rfl (fun k _ => rfl)
  | 18, _, hi => obtain rfl : _ = x := Option.some.inj hi; exact (h.1 18 (.inl (.int, 320)) rfl).toA rfl (fun k _ => rfl)
  | 19, _, hi => obtain rfl : _ = x := Option.some.inj hi; exact (h.1 19 (.inl (.int, 320)) rfl).toA rfl (fun k _ => rfl)
  | 20, _, hi => obtain rfl : _ = x := Option.some.inj hi; exact (h.1 20 (.inl (.int, 320)) rfl).toA rfl (fun k _ => rfl)
  | 21, _, hi => obtain rfl : _ = x := Option.some.inj hi; exact (h.1 21 (.inl (.int, 6200)) rfl).toA rfl (fun k _ => rfl)
  | 22, _, hi => obtain rfl : _ = x := Option.some.inj hi; exact (h.1 22 (.inl (.int, 6200)) rfl).toA rfl (fun k _ => rfl)
  | 23, _, hi => obtain rfl : _ = x := Option.some.inj hi; exact (h.1 23 (.inl (.int, 6200)) rfl).toA rfl (fun k _ => rfl)
  | 24, _, hi => obtain rfl : _ = x := Option.some.inj hi; exact (h.1 24 (.inl (.long, 6200)) rfl).toA rfl (fun k _ => rfl)
  | 25, _, hi => obtain rfl : _ = x := Option.some.inj hi; exact (h.1 25 (.inl (.byte, 500)) rfl).toA rfl (fun k _ => rfl)
  | 26, _, hi => obtain rfl : _ = x := Option.some.inj hi; exact (h.1 26 (.inl (.int, 120)) rfl).toA rfl (fun k _ => rfl)
  | 27, _, hi => obtain rfl : _ = x := Option.some.inj hi; exact (h.1 27 (.inl (.int, 120)) rfl).toA rfl (fun k _ => rfl)
  | 28, _, hi => obtain rfl : _ = x := Option.some.inj hi; exact (h.1 28 (.inl (.int, 120)) rfl).toA rfl (fun k _ => rfl)
  | 29, _, hi => obtain rfl : _ = x := Option.some.inj hi; exact (h.1 29 (.inl (.int, 120)) rfl).toA rfl (fun k _ => rfl)
  | 30, _, hi => obtain rfl : _ = x := Option.some.inj hi; exact (h.1 30 (.inl (.long, 7)) rfl).toA rfl (fun k _ => rfl)
  | 31, _, hi => obtain rfl : _ = x := Option.some.inj hi; exact (h.1 31 (.inl (.int, 720)) rfl).toA rfl (fun k _ => rfl)
  | 32, _, hi => obtain rfl : _ = x := Option.some.inj hi; exact (h.1 32 (.inl (.int, 72000)) rfl).toA rfl (fun k _ => rfl)
  | 33, _, hi => obtain rfl : _ = x := Option.some.inj hi; exact (h.1 33 (.inl (.boolean, 100000)) rfl).toA rfl (fun k _ => rfl)
  | 34, _, hi => obtain rfl : _ = x := Option.some.inj hi; exact (h.1 34 (.inl (.int, 300)) rfl).toA rfl (fun k _ => rfl)
  | 35, _, hi => obtain rfl : _ = x := Option.some.inj hi; exact (h.1 35 (.inl (.int, 300)) rfl).toA rfl (fun k _ => rfl)
  | 36, _, hi => obtain rfl : _ = x := Option.some.inj hi; exact (h.1 36 (.inl (.int, 300)) rfl).toA rfl (fun k _ => rfl)
  | 37, _, hi => obtain rfl : _ = x := Option.some.inj hi; exact (h.1 37 (.inl (.int, 300)) rfl).toA rfl (fun k _ => rfl)
  | 38, _, hi => obtain rfl : _ = x := Option.some.inj hi; exact (h.1 38 (.inl (.int, 300)) rfl).toA rfl (fun k _ => rfl)
  | 39, _, hi => obtain rfl : _ = x := Option.some.inj hi; exact (h.1 39 (.inl (.int, 300)) rfl).toA rfl (fun k _ => rfl)
  | 40, _, hi => obtain rfl : _ = x := Option.some.inj hi; exact (h.1 40 (.inl (.int, 300)) rfl).toA rfl (fun k _ => rfl)
  | 41, _, hi => obtain rfl : _ = x := Option.some.inj hi; exact (h.1 41 (.inl (.int, 300)) rfl).toA rfl (fun k _ => rfl)
  | 42, _, hi => obtain rfl : _ = x := Option.some.inj hi; exact (h.1 42 (.inl (.boolean, 300)) rfl).toA rfl (fun k _ => rfl)
  | 43, _, hi => obtain rfl : _ = x := Option.some.inj hi; exact (h.1 43 (.inl (.int, 10)) rfl).toA rfl (fun k _ => rfl)
  | 44, _, hi => obtain rfl : _ = x := Option.some.inj hi; exact (h.1 44 (.inl (.int, 10)) rfl).toA rfl (fun k _ => rfl)
  | 45, _, hi => obtain rfl : _ = x := Option.some.inj hi; exact (h.1 45 (.inl (.int, 300)) rfl).toA rfl (fun k _ => rfl)
  | 46, _, hi => obtain rfl : _ = x := Option.some.inj hi; exact (h.1 46 (.inl (.int, 300)) rfl).toA rfl (fun k _ => rfl)
  | 47, _, hi => obtain rfl : _ = x := Option.some.inj hi; exact (h.1 47 (.inl (.int, 10)) rfl).toA rfl (fun k _ => rfl)
  | 48, _, hi => obtain rfl : _ = x := Option.some.inj hi; exact (h.1 48 (.inl (.int, 300)) rfl).toA rfl (fun k _ => rfl)
  | 49, _, hi => obtain rfl : _ = x := Option.some.inj hi; exact (h.1 49 (.inl (.int, 300)) rfl).toA rfl (fun k _ => rfl)
  | 50, _, hi => obtain rfl : _ = x := Option.some.inj hi; exact (h.1 50 (.inl (.int, 300)) rfl).toA rfl (fun k _ => rfl)
  | 51, _, hi => obtain rfl : _ = x := Option.some.inj hi; exact (h.1 51 (.inl (.int, 30)) rfl).toA rfl (fun k _ => rfl)
  | 52, _, hi => obtain rfl : _ = x := Option.some.inj hi; exact (h.1 52 (.inl (.int, 4)) rfl).toA rfl (fun k _ => rfl)
  | 53, _, hi => obtain rfl : _ = x := Option.some.inj hi; exact (h.1 53 (.inl (.int, 10)) rfl).toA rfl (fun k _ => rfl)
  | 54, _, hi => obtain rfl : _ = x := Option.some.inj hi; exact (h.1 54 (.inl (.int, 40)) rfl).toA rfl (fun k _ => rfl)
  | 55, _, hi => obtain rfl : _ = x := Option.some.inj hi; exact (h.1 55 (.inl (.int, 256)) rfl).toA rfl (fun k _ => rfl)
  | 56, _, hi => obtain rfl : _ = x := Option.some.inj hi; exact (h.1 56 (.inl (.int, 256)) rfl).toA rfl (fun k _ => rfl)
  | 57, _, hi => obtain rfl : _ = x := Option.some.inj hi; exact (h.1 57 (.inl (.int, 16)) rfl).toA rfl (fun k _ => rfl)
  | 58, _, hi => obtain rfl : _ = x := Option.some.inj hi; exact (h.1 58 (.inl (.int, 16)) rfl).toA rfl (fun k _ => rfl)
  | 59, _, hi => obtain rfl : _ = x := Option.some.inj hi; exact (h.1 59 (.inl (.int, 60)) rfl).toA rfl (fun k _ => rfl)
  | 60, _, hi => obtain rfl : _ = x := Option.some.inj hi; exact (h.1 60 (.inl (.int, 60)) rfl).toA rfl (fun k _ => rfl)
  | 61, _, hi => obtain rfl : _ = x := Option.some.inj hi; exact (h.1 61 (.inl (.int, 60)) rfl).toA rfl (fun k _ => rfl)
  | 62, _, hi => obtain rfl : _ = x := Option.some.inj hi; exact (h.1 62 (.inl (.int, 60)) rfl).toA rfl (fun k _ => rfl)
  | 63, _, hi => obtain rfl : _ = x := Option.some.inj hi; exact (h.1 63 (.inl (.int, 60)) rfl).toA rfl (fun k _ => rfl)
  | 64, _, hi => obtain rfl : _ = x := Option.some.inj hi; exact (h.1 64 (.inl (.int, 60)) rfl).toA rfl (fun k _ => rfl)
  | 65, _, hi => obtain rfl : _ = x := Option.some.inj hi; exact (h.1 65 (.inl (.int, 60)) rfl).toA rfl (fun k _ => rfl)
  | 66, _, hi => obtain rfl : _ = x := Option.some.inj hi; exact (h.1 66 (.inl (.int, 60)) rfl).toA rfl (fun k _ => rfl)
  | 67, _, hi => obtain rfl : _ = x := Option.some.inj hi; exact (h.1 67 (.inl (.int, 60)) rfl).toA rfl (fun k _ => rfl)
  | 68, _, hi => obtain rfl : _ = x := Option.some.inj hi; exact (h.1 68 (.inl (.int, 12)) rfl).toA rfl (fun k _ => rfl)
  | 69, _, hi => obtain rfl : _ = x := Option.some.inj hi; exact (h.1 69 (.inl (.int, 30)) rfl).toA rfl (fun k _ => rfl)
  | 70, _, hi => obtain rfl : _ = x := Option.some.inj hi; exact (h.1 70 (.inl (.boolean, 30)) rfl).toA rfl (fun k _ => rfl)
  | k + 71, hlt, _ => exact absurd hlt (by omega)
