theorem dX11_stationAt_0 : decode cX11_stationAt 0 = .ok (.iload_n 1, 1) := z_dd_27 (by decide +kernel)
theorem dX11_stationAt_1 : decode cX11_stationAt 1 = .ok (.ifCond .lt 20, 3) := z_dd_155 (by decide +kernel)
theorem dX11_stationAt_21 : decode cX11_stationAt 21 = .ok (.aconst_null, 1) := z_dd_1 (by decide +kernel)
theorem dX11_stationAt_22 : decode cX11_stationAt 22 = .ok (.areturn, 1) := z_dd_176 (by decide +kernel)
theorem dX11_stationAt_4 : decode cX11_stationAt 4 = .ok (.iload_n 1, 1) := z_dd_27 (by decide +kernel)
theorem dX11_stationAt_5 : decode cX11_stationAt 5 = .ok (.aload_n 0, 1) := z_dd_42 (by decide +kernel)
theorem dX11_stationAt_6 : decode cX11_stationAt 6 = .ok (.getfield 178, 3) := z_dd_180 (by decide +kernel)
theorem dX11_stationAt_9 : decode cX11_stationAt 9 = .ok (.if_icmp .ge 12, 3) := z_dd_162 (by decide +kernel)
theorem dX11_deliver_0 : decode cX11_deliver 0 = .ok (.aload_n 0, 1) := z_dd_42 (by decide +kernel)
theorem dX11_deliver_1 : decode cX11_deliver 1 = .ok (.iload_n 1, 1) := z_dd_27 (by decide +kernel)
set_option maxRecDepth 20000 in
theorem ggX11_deliver_X11_stationAt : GoodIn wsX11_deliver wsX11_stationAt := goodIn_sub (fa_c (me_s (me_l (me_l (List.mem_of_getElem? (i := 5) rfl)))) (fa_a (fa_c (me_s (me_l (me_l (List.mem_of_getElem? (i := 6) rfl)))) (fa_c (me_s (me_l (me_l (List.mem_of_getElem? (i := 7) rfl)))) fa_n)) (fun w h => (me_s (me_l (me_r h)))))) (by decide +kernel)
set_option maxRecDepth 20000 in
theorem gX11_deliver_X11_stationAt : GoodIn wsX11_deliver (wsV RX11 226 RX11 yX11_stationAt wsX11_stationAt) := goodIn_app (goodIn_sub (fa_c (me_s (me_l (me_l (List.mem_of_getElem? (i := 1) rfl)))) (fa_c (me_s (me_l (me_l (List.mem_of_getElem? (i := 2) rfl)))) (fa_c (me_s (me_l (me_l (List.mem_of_getElem? (i := 3) rfl)))) (fa_c (me_s (me_l (me_l (List.mem_of_getElem? (i := 4) rfl)))) fa_n)))) (by decide +kernel)) ggX11_deliver_X11_stationAt
theorem dX11_deliver_2 : decode cX11_deliver 2 = .ok (.invokevirtual 226, 3) := z_dd_182 (by decide +kernel)
theorem dX11_deliver_5 : decode cX11_deliver 5 = .ok (.astore_n 3, 1) := z_dd_78 (by decide +kernel)
theorem dX11_deliver_6 : decode cX11_deliver 6 = .ok (.aload_n 3, 1) := z_dd_45 (by decide +kernel)
theorem dX11_deliver_7 : decode cX11_deliver 7 = .ok (.ifnull 13, 3) := z_dd_198 (by decide +kernel)
theorem dX11_deliver_20 : decode cX11_deliver 20 = .ok (.iconst (-1), 1) := z_dd_2 (by decide +kernel)
theorem dX11_deliver_21 : decode cX11_deliver 21 = .ok (.ireturn, 1) := z_dd_172 (by decide +kernel)
theorem dX11_dip_0 : decode cX11_dip 0 = .ok (.aload_n 0, 1) := z_dd_42 (by decide +kernel)
theorem dX11_dip_1 : decode cX11_dip 1 = .ok (.iload_n 1, 1) := z_dd_27 (by decide +kernel)
set_option maxRecDepth 20000 in
theorem ggX11_dip_X11_stationAt : GoodIn wsX11_dip wsX11_stationAt := goodIn_sub (fa_c (me_s (me_l (me_l (me_l (me_l (List.mem_of_getElem? (i := 8) rfl)))))) (fa_a (fa_c (me_s (me_l (me_l (me_l (me_l (List.mem_of_getElem? (i := 9) rfl)))))) (fa_c (me_s (me_l (me_l (me_l (me_l (List.mem_of_getElem? (i := 10) rfl)))))) fa_n)) (fun w h => (me_s (me_l (me_l (me_r h))))))) (by decide +kernel)
set_option maxRecDepth 20000 in
theorem gX11_dip_X11_stationAt : GoodIn wsX11_dip (wsV RX11 226 RX11 yX11_stationAt wsX11_stationAt) := goodIn_app (goodIn_sub (fa_c (me_s (me_l (me_l (me_l (me_l (List.mem_of_getElem? (i := 4) rfl)))))) (fa_c (me_s (me_l (me_l (me_l (me_l (List.mem_of_getElem? (i := 5) rfl)))))) (fa_c (me_s (me_l (me_l (me_l (me_l (List.mem_of_getElem? (i := 6) rfl)))))) (fa_c (me_s (me_l (me_l (me_l (me_l (List.mem_of_getElem? (i := 7) rfl)))))) fa_n)))) (by decide +kernel)) ggX11_dip_X11_stationAt
theorem dX11_dip_2 : decode cX11_dip 2 = .ok (.invokevirtual 226, 3) := z_dd_182 (by decide +kernel)
theorem dX11_dip_5 : decode cX11_dip 5 = .ok (.astore_n 3, 1) := z_dd_78 (by decide +kernel)
theorem dX11_dip_6 : decode cX11_dip 6 = .ok (.aload_n 3, 1) := z_dd_45 (by decide +kernel)
theorem dX11_dip_7 : decode cX11_dip 7 = .ok (.ifnull 13, 3) := z_dd_198 (by decide +kernel)
theorem dX11_dip_20 : decode cX11_dip 20 = .ok (.iconst (-1), 1) := z_dd_2 (by decide +kernel)
theorem dX11_dip_21 : decode cX11_dip 21 = .ok (.ireturn, 1) := z_dd_172 (by decide +kernel)
theorem dX11_in_0 : decode cX11_in 0 = .ok (.aload_n 0, 1) := z_dd_42 (by decide +kernel)
theorem dX11_in_1 : decode cX11_in 1 = .ok (.iload_n 1, 1) := z_dd_27 (by decide +kernel)
set_option maxRecDepth 20000 in
theorem ggX11_in_X11_stationAt : GoodIn wsX11_in wsX11_stationAt := goodIn_sub (fa_c (me_s (me_l (me_l (me_l (me_l (me_l (me_l (List.mem_of_getElem? (i := 6) rfl)))))))) (fa_a (fa_c (me_s (me_l (me_l (me_l (me_l (me_l (me_l (List.mem_of_getElem? (i := 7) rfl)))))))) (fa_c (me_s (me_l (me_l (me_l (me_l (me_l (me_l (List.mem_of_getElem? (i := 8) rfl)))))))) fa_n)) (fun w h => (me_s (me_l (me_l (me_l (me_r h)))))))) (by decide +kernel)
set_option maxRecDepth 20000 in
theorem gX11_in_X11_stationAt : GoodIn wsX11_in (wsV RX11 226 RX11 yX11_stationAt wsX11_stationAt) := goodIn_app (goodIn_sub (fa_c (me_s (me_l (me_l (me_l (me_l (me_l (me_l (List.mem_of_getElem? (i := 2) rfl)))))))) (fa_c (me_s (me_l (me_l (me_l (me_l (me_l (me_l (List.mem_of_getElem? (i := 3) rfl)))))))) (fa_c (me_s (me_l (me_l (me_l (me_l (me_l (me_l (List.mem_of_getElem? (i := 4) rfl)))))))) (fa_c (me_s (me_l (me_l (me_l (me_l (me_l (me_l (List.mem_of_getElem? (i := 5) rfl)))))))) fa_n)))) (by decide +kernel)) ggX11_in_X11_stationAt
theorem dX11_in_2 : decode cX11_in 2 = .ok (.invokevirtual 226, 3) := z_dd_182 (by decide +kernel)
theorem dX11_in_5 : decode cX11_in 5 = .ok (.astore_n 3, 1) := z_dd_78 (by decide +kernel)
theorem dX11_in_6 : decode cX11_in 6 = .ok (.aload_n 3, 1) := z_dd_45 (by decide +kernel)
theorem dX11_in_7 : decode cX11_in 7 = .ok (.ifnull 17, 3) := z_dd_198 (by decide +kernel)
theorem dX11_in_24 : decode cX11_in 24 = .ok (.ldc 241, 2) := z_dd_18 (by decide +kernel)
theorem dX11_in_26 : decode cX11_in 26 = .ok (.ireturn, 1) := z_dd_172 (by decide +kernel)
theorem dX11_sums_0 : decode cX11_sums 0 = .ok (.aload_n 0, 1) := z_dd_42 (by decide +kernel)
theorem dX11_sums_1 : decode cX11_sums 1 = .ok (.iload_n 1, 1) := z_dd_27 (by decide +kernel)
set_option maxRecDepth 20000 in
theorem ggX11_sums_X11_stationAt : GoodIn wsX11_sums wsX11_stationAt := goodIn_sub (fa_c (me_s (me_l (me_l (me_l (me_l (me_l (me_l (List.mem_of_getElem? (i := 5) rfl)))))))) (fa_a (fa_c (me_s (me_l (me_l (me_l (me_l (me_l (me_l (List.mem_of_getElem? (i := 6) rfl)))))))) (fa_c (me_s (me_l (me_l (me_l (me_l (me_l (me_l (List.mem_of_getElem? (i := 7) rfl)))))))) fa_n)) (fun w h => (me_s (me_l (me_l (me_l (me_l (me_r h))))))))) (by decide +kernel)
set_option maxRecDepth 20000 in
theorem gX11_sums_X11_stationAt : GoodIn wsX11_sums (wsV RX11 226 RX11 yX11_stationAt wsX11_stationAt) := goodIn_app (goodIn_sub (fa_c (me_s (me_l (me_l (me_l (me_l (me_l (me_l (List.mem_of_getElem? (i := 1) rfl)))))))) (fa_c (me_s (me_l (me_l (me_l (me_l (me_l (me_l (List.mem_of_getElem? (i := 2) rfl)))))))) (fa_c (me_s (me_l (me_l (me_l (me_l (me_l (me_l (List.mem_of_getElem? (i := 3) rfl)))))))) (fa_c (me_s (me_l (me_l (me_l (me_l (me_l (me_l (List.mem_of_getElem? (i := 4) rfl)))))))) fa_n)))) (by decide +kernel)) ggX11_sums_X11_stationAt
theorem dX11_sums_2 : decode cX11_sums 2 = .ok (.invokevirtual 226, 3) := z_dd_182 (by decide +kernel)
theorem dX11_sums_5 : decode cX11_sums 5 = .ok (.astore 5, 2) := z_dd_58 (by decide +kernel)
theorem dX11_sums_7 : decode cX11_sums 7 = .ok (.aload 5, 2) := z_dd_25 (by decide +kernel)
theorem dX11_sums_9 : decode cX11_sums 9 = .ok (.ifnull 23, 3) := z_dd_198 (by decide +kernel)
theorem dX11_sums_32 : decode cX11_sums 32 = .ok (.ldc2_w 261, 3) := z_dd_20 (by decide +kernel)
theorem dX11_sums_35 : decode cX11_sums 35 = .ok (.lreturn, 1) := z_dd_173 (by decide +kernel)
theorem dX11_judged_0 : decode cX11_judged 0 = .ok (.aload_n 0, 1) := z_dd_42 (by decide +kernel)
theorem dX11_judged_1 : decode cX11_judged 1 = .ok (.iload_n 1, 1) := z_dd_27 (by decide +kernel)
set_option maxRecDepth 20000 in
theorem ggX11_judged_X11_stationAt : GoodIn wsX11_judged wsX11_stationAt := goodIn_sub (fa_c (me_s (me_l (me_l (me_l (me_l (me_l (me_l (List.mem_of_getElem? (i := 6) rfl)))))))) (fa_a (fa_c (me_s (me_l (me_l (me_l (me_l (me_l (me_l (List.mem_of_getElem? (i := 7) rfl)))))))) (fa_c (me_s (me_l (me_l (me_l (me_l (me_l (me_l (List.mem_of_getElem? (i := 8) rfl)))))))) fa_n)) (fun w h => (me_s (me_l (me_l (me_l (me_l (me_r h))))))))) (by decide +kernel)
set_option maxRecDepth 20000 in
theorem gX11_judged_X11_stationAt : GoodIn wsX11_judged (wsV RX11 226 RX11 yX11_stationAt wsX11_stationAt) := goodIn_app (goodIn_sub (fa_c (me_s (me_l (me_l (me_l (me_l (me_l (me_l (List.mem_of_getElem? (i := 2) rfl)))))))) (fa_c (me_s (me_l (me_l (me_l (me_l (me_l (me_l (List.mem_of_getElem? (i := 3) rfl)))))))) (fa_c (me_s (me_l (me_l (me_l (me_l (me_l (me_l (List.mem_of_getElem? (i := 4) rfl)))))))) (fa_c (me_s (me_l (me_l (me_l (me_l (me_l (me_l (List.mem_of_getElem? (i := 5) rfl)))))))) fa_n)))) (by decide +kernel)) ggX11_judged_X11_stationAt
theorem dX11_judged_2 : decode cX11_judged 2 = .ok (.invokevirtual 226, 3) := z_dd_182 (by decide +kernel)
theorem dX11_judged_5 : decode cX11_judged 5 = .ok (.astore 4, 2) := z_dd_58 (by decide +kernel)
theorem dX11_judged_7 : decode cX11_judged 7 = .ok (.aload 4, 2) := z_dd_25 (by decide +kernel)
theorem dX11_judged_9 : decode cX11_judged 9 = .ok (.ifnull 13, 3) := z_dd_198 (by decide +kernel)
theorem dX11_judged_22 : decode cX11_judged 22 = .ok (.ldc2_w 261, 3) := z_dd_20 (by decide +kernel)
theorem dX11_judged_25 : decode cX11_judged 25 = .ok (.lreturn, 1) := z_dd_173 (by decide +kernel)

/-- a method that answers null -/
noncomputable def z_Mq (l : Launch) (y : MethodName) (ws : List Cond) (rm : Room) (av : List Value) (G : z_G) (u : z_U) (post : Option Nat → z_U → Prop) (mc ms : Nat) : Prop := ∀ sz : Nat, Met l y ws rm (z_Pc G u av sz) (va_Qq post (z_B G (z_A u sz)) (z_A u sz)) mc ms (z_A u sz)
section ZCQ
variable {p : Program} {l : Launch} {e : Env} {R : Room} {s : State} {m : MethodId} {args : Array Value} {below : List Frame} {meth : Method} {c : Code} {H : Heap} {locs : List Loc} {cells slots : Nat} {Q : State → Prop}
variable {cc : ByteArray} {pc : Nat} {ls : Array Slot} {rest st0 : List Value} {a : Array Value} {G : z_G} {A : Nat → Prop} {H0 : Heap} {u : z_U} {mc ms : Nat}
theorem z_cq {post : Option Nat → z_U → Prop} (hW : z_W G A u H) (hS : va_S A H0 H locs) (hA : ∀ q : Nat, H0.size ≤ q → A q) (hr : va_Run p l e R s m args below meth c H locs cells slots mc ms (F0 m pc ls st0) rest (va_Qq post (z_B G (z_A u H.size)) (z_A u H.size) a) (z_A u H.size))
    (kk : ∀ (r : Option Nat) (u1 : z_U) (H1 : Heap) (locs1 : List Loc), post r u1 → z_W G A u1 H1 → va_S A H0 H1 locs1 → W p l e R s m args below meth c H1 locs1 (cells + mc) (slots + ms) Q (F0 m (pc + 3) ls (va_rf r :: rest))) : W p l e R s m args below meth c H locs cells slots Q (F0 m pc ls st0) :=
  va_callq hr hS (fun q _ h => hW.free hS hA q h) (hW.free hS hA) (fun r u1 t H1 locs1 ht hvm hw hB hz1 hk1 hS1 => kk r u1 H1 locs1 hw (by rw [← ht]; exact hB.2.weaken (hW.free hS hA)) hS1)
theorem z_nret {post : Option Nat → z_U → Prop} {rt : String} (hexec : p.tables.exec = Jvm.exec) (hb : c.code = cc) (hr : meth.sig.returnType = some (.object rt)) (hK : z_K G s) (hS : va_S A s.heap H locs) (hc : cells ≤ mc) (hs : slots ≤ ms) (hlocks : meth.locks = false) (hdg : decode cc pc = .ok (.areturn, 1)) (u1 : z_U) (hW : z_W G A u1 H) (hp : post none u1) : W p l e R s m args below meth c H locs cells slots (MQ below (va_Qq post (z_B G A) A) args s mc ms A) (F0 m pc ls [.null]) :=
  W.widen hc hs (W.aret hexec hb hr (Or.inl ⟨_, rfl⟩) (Or.inl rfl) (fun t ht hWm => ⟨⟨none, u1, rfl, hp, hK.warm hWm, by rw [ht]; exact hW⟩, hS.F ht⟩) hS.2.2 hdg hlocks)
end ZCQ