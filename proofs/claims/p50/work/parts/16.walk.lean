/-- the script: setLength(0, 200), then text(0) 511 times -/
def sc : Nat → Int32 := fun j => if j = 0 then nI 18 else if j = 2 then nI 200 else if j % 5 = 0 then nI 28 else nI 0
theorem sc_28 (k : Nat) (hk : k < 511) : sc (nI (5 * (k + 1))).toNatClampNeg = nI 28 := by
  rw [nI_clamp (by omega)]
  unfold sc
  rw [if_neg (by omega), if_neg (by omega), if_pos (by omega)]
theorem sc_0 (k : Nat) (hk : k < 511) : sc (nI (5 * (k + 1) + 1)).toNatClampNeg = nI 0 := by
  rw [nI_clamp (by omega)]
  unfold sc
  rw [if_neg (by omega), if_neg (by omega), if_neg (by omega)]
abbrev rf_room : Room := { frames := 2048, cells := 1000000, slots := 400000000, locals := 84000 }
def rf_sum (lo : Nat) (H : Heap) : Nat := ((H.toList.drop lo).map (fun c : Cell => c.slots.size)).sum
def rf_Z (below : List Frame) (s : State) : State → Prop := fun t => ∃ o, t.status = .running ∧ Ended t below o ∧ 10000000 < rf_sum s.heap.size t.heap
theorem rf_lo {A : Nat → Prop} {X G : va_W} {lo e5 kb : Nat} {x5 xk : va_E} (hD : va_D A (X ++ G)) (i5 ik : Nat) (h5 : X[i5]? = some (e5, x5)) (hk : X[ik]? = some (kb, xk)) (hA : ∀ q, A q → q = e5 ∨ q = kb ∨ lo ≤ q) : ∀ q ∈ G, lo ≤ q.1 := by
  intro q hq
  obtain ⟨j, hj⟩ := List.getElem?_of_mem hq
  have hl5 : i5 < X.length := (List.getElem?_eq_some_iff.mp h5).1
  have hlk : ik < X.length := (List.getElem?_eq_some_iff.mp hk).1
  have h1 : (X ++ G)[X.length + j]? = some q := by rw [List.getElem?_append_right (by omega)]; simpa using hj
  rcases hA _ (hD.2 _ _ h1) with e | e | e
  · have := hD.1 (X.length + j) i5 q (e5, x5) h1 (by rw [List.getElem?_append_left hl5]; exact h5) e
    omega
  · have := hD.1 (X.length + j) ik q (kb, xk) h1 (by rw [List.getElem?_append_left hlk]; exact hk) e
    omega
  · exact e
theorem rf_ret {p : Program} {l : Launch} {e : Env} {R : Room} {s : State} {m : MethodId} {args : Array Value} {below : List Frame} {meth : Method} {c : Code} {locs : List Loc} {cells slots : Nat} (hx : p.tables.exec = Jvm.exec) (hb : c.code = code) (hr : meth.sig.returnType = ret) (hlocks : meth.locks = false) {pc : Nat} {H : Heap} {ls : Array Slot} (hdg : decode code pc = .ok (.ireturn, 1)) (hbig : 10000000 < rf_sum s.heap.size H) : W p l e R s m args below meth c H locs cells slots (rf_Z below s) (F0 m pc ls [.int 1]) := by
  intro T hT X
  obtain ⟨fs, hret, hrun, hended, hW, hframe⟩ := X.leave (v := some (.int 1)) (hlocks := hlocks) (fun h => by rw [hr] at h; cases h)
  have hmeth' : T.vm.method? m = some meth := X.method'
  refine ⟨T.setFrames fs, ?_, .returned (some (.int 1)), hrun, hended, by show 10000000 < rf_sum s.heap.size T.heap; rw [hT]; exact hbig⟩
  jvm_step X.here [X.here.top, hx, hb, hdg, hmeth', hr, ret, narrow_b1]
  (try refine ⟨rfl, ?_⟩); (try refine ⟨rfl, ?_⟩)
  first | (intro acts; rw [hret _ acts rfl rfl rfl]) | rw [hret _ _ rfl rfl rfl]
  exact Steps.refl _
set_option maxHeartbeats 16000000 in
set_option maxRecDepth 100000 in
/-- the law on this script ends, and more than 10,000,000 fields and elements are new -/
theorem law_walk {p : Program} {e : Env} {s : State} {mI : MethodId} {below : List Frame} {meth : Method} {c : Code} (l : Launch) (D : va_G) (E : Nat → ClassId) {b kb : Nat} {kh kz : Value} {A : Nat → Prop}
    (hx : p.tables.exec = Jvm.exec) (hb : c.code = code) (hr : meth.sig.returnType = ret) (hml : c.maxLocals = 7) (hown : s.vm.findClass RL = some mI.cls) (hts : ∀ w ∈ rf_tbl, w.before #[Value.ref b] s = true) (hlocks : meth.locks = false)
    (hX : va_X b 2560 sc s s.heap) (hbl : b < s.heap.size) (hbA : ¬ A b) (hA : ∀ q : Nat, s.heap.size ≤ q → A q) (hAd : ∀ q : Nat, A q → q = E 5 ∨ q = kb ∨ s.heap.size ≤ q)
    (hK : va_K D vwCl (rf_T E) s) (hP : va_P D vwCl [((E 5), .inr (0, [.ref kb, .int 0, kh, kz])), (kb, .inl (E 0, 0, .inl z0))] s.heap) (hD : va_D A [((E 5), .inr (0, [.ref kb, .int 0, kh, kz])), (kb, .inl (E 0, 0, .inl z0))])
    (hZ : va_Z "java/lang/String" "COMPACT_STRINGS" "Z" (.int 1) A s s.heap) (hN : rf_N E s) (hM2 : va_Nw (.methodLinkNest RL 182 yX2_init RL) s) :
    W p l e rf_room s mI #[Value.ref b] below meth c s.heap [] 0 0 (rf_Z below s) (entryFrame mI ([Value.ref b] : List Value).toArray 7) := by
  have hS : va_S A s.heap s.heap [] := va_S.rf
  have h199 : rf_tri (199 + 1) = 19900 := by decide +kernel
  have hl := lv_entry ([.ref b]) (n := 7) (Nat.le_of_ble_eq_true rfl)
  rw [lg_entry_eq]
  generalize (lg_sl ([.ref b]) ++ List.replicate (7 - (lg_sl ([.ref b])).length) Slot.unset).toArray = ls at hl ⊢
  have hl : lv_has ls 7 [(0, .ref b)] := hl
  obtain ⟨H, hH⟩ : ∃ H, H = s.heap := ⟨_, rfl⟩
  rw [← hH] at hP
  have hS : va_S A s.heap H [] := by rw [hH]; exact hS
  refine rf_heap hH ?_
  have h_1 : 0 + 1 ≤ 1000000 := by omega
  have h_2 : 0 + 7 ≤ 400000000 := by omega
  refine va_new (ci := 3) (fs := [.null, .null, .null, .null, .int 0, .int 0, .int 0]) (C := RX1) (T := TX1) (N := 7) hx hb hts (by decide +kernel) tyX1 tyX1_ok hown (hts (.classLink RL 8 RX1) (by decide +kernel)) (hts (.instantiable RX1 7) (by decide +kernel)) (hts (.initialized RX1) (by decide +kernel)) hK hP hD hS hA rfl (fun j hj => by rcases (show j = 0 ∨ j = 1 ∨ j = 2 ∨ j = 3 ∨ j = 4 ∨ j = 5 ∨ j = 6 by omega) with rfl | rfl | rfl | rfl | rfl | rfl | rfl <;> rfl) h_1 h_2 dL_law_0 (fun x0 H hP hD hS => ?_)
  have hP : va_P D vwCl [((E 5), .inr (0, [.ref kb, .int 0, kh, kz])), (kb, .inl (E 0, 0, .inl z0)), (x0, .inr (3, [.null, .null, .null, .null, .int 0, .int 0, .int 0]))] H := hP
  have hD : va_D A [((E 5), .inr (0, [.ref kb, .int 0, kh, kz])), (kb, .inl (E 0, 0, .inl z0)), (x0, .inr (3, [.null, .null, .null, .null, .int 0, .int 0, .int 0]))] := hD
  refine W.widen (k := 1) (n := 7) (by omega) (by omega) ?_
  refine lv_dup hx hb dL_law_3 rfl ?_
  have hPc := hP.sub (ws' := [(x0, .inr (3, [.null, .null, .null, .null, .int 0, .int 0, .int 0]))]) [2] rfl
  have hDc := hD.sub (ws' := [(x0, .inr (3, [.null, .null, .null, .null, .int 0, .int 0, .int 0]))]) [2] (by decide) rfl
  have hFc := va_free (wc := [(x0, .inr (3, [.null, .null, .null, .null, .int 0, .int 0, .int 0]))]) hD hS hA [2] rfl
  have h_1 : 1 + 20 ≤ 1000000 := by omega
  have h_2 : 7 + 3000 ≤ 400000000 := by omega
  refine va_callv (va_runI (As := []) (rest := [.ref x0]) ⟨hx, hb, hml, hown, hts⟩ (c_X1_init l D E H.size (x0)) (cwI 0 hts rgL_law_X1_init rfl rfl rfl (hts (.initialized RX1) (by decide +kernel)) (hts (.methodLink RL 178 yX1_init) (by decide +kernel)) (hts (.instanceMethod yX1_init) (by decide +kernel)) rfl (by decide +kernel) ⟨Nat.le_of_ble_eq_true rfl, Nat.le_of_ble_eq_true rfl⟩) ⟨rf_blind _, fun U hU hW => ⟨rfl, rf_pre hK hPc hDc hZ hN hS hFc U hU hW⟩⟩ rfl rfl hl.1 rfl (lv_room (Nat.le_of_ble_eq_true rfl)) dL_law_4 ⟨h_1, h_2⟩) hS (fun q _ h => hFc q h) hFc (fun ux t H1 locs ht hvm hw hB hz1 hk1 hS => ?_)
  obtain ⟨t0, r0, g0, f, p1, p2, p3⟩ := ux
  obtain ⟨hP1, hD1⟩ := hB
  rw [ht] at hP1
  try dsimp only at hw hP1 hD1
  have hf : f 0 = some r0 := hw
  obtain ⟨hP, hD⟩ := va_join (wr := [((E 5), .inr (0, [.ref kb, .int 0, kh, kz])), (kb, .inl (E 0, 0, .inl z0))]) (w1 := [(x0, .inr (3, [.ref t0, p1, p2, p3, .int 0, .int 0, .int 0])), (t0, .inl (E 3, 4, .inr (.inr (.inr (.inr f))))), (r0, .inr (2, [.ref g0, .int (nI (0))])), (g0, .inl (E 2, 256, .inl z0))]) hP hD [2] [0, 1] rfl rfl (by decide) (by decide) hk1 hFc hP1 hD1
  clear hPc hDc hFc hP1 hD1 hk1 hz1 ht
  generalize H1 = H at hP hS ⊢
  have hP : va_P D vwCl [((E 5), .inr (0, [.ref kb, .int 0, kh, kz])), (kb, .inl (E 0, 0, .inl z0)), (x0, .inr (3, [.ref t0, p1, p2, p3, .int 0, .int 0, .int 0])), (t0, .inl (E 3, 4, .inr (.inr (.inr (.inr f))))), (r0, .inr (2, [.ref g0, .int (nI (0))])), (g0, .inl (E 2, 256, .inl z0))] H := hP
  have hD : va_D A [((E 5), .inr (0, [.ref kb, .int 0, kh, kz])), (kb, .inl (E 0, 0, .inl z0)), (x0, .inr (3, [.ref t0, p1, p2, p3, .int 0, .int 0, .int 0])), (t0, .inl (E 3, 4, .inr (.inr (.inr (.inr f))))), (r0, .inr (2, [.ref g0, .int (nI (0))])), (g0, .inl (E 2, 256, .inl z0))] := hD
  refine W.widen (k := 21) (n := 3007) (by omega) (by omega) ?_
  refine lv_astore_n hx hb dL_law_7 rfl hl (Nat.le_of_ble_eq_true rfl) rfl (fun ls hl => ?_)
  have hl : lv_has ls 7 [(1, .ref x0), (0, .ref b)] := hl
  have h_1 : 21 + 1 ≤ 1000000 := by omega
  have h_2 : 3007 + 6 ≤ 400000000 := by omega
  refine va_new (ci := 5) (fs := [.int 0, .null, .null, .int 0, .int 0, .int 0]) (C := RX3) (T := TX3) (N := 6) hx hb hts (by decide +kernel) tyX3 tyX3_ok hown (hts (.classLink RL 179 RX3) (by decide +kernel)) (hts (.instantiable RX3 6) (by decide +kernel)) (hts (.initialized RX3) (by decide +kernel)) hK hP hD hS hA rfl (fun j hj => by rcases (show j = 0 ∨ j = 1 ∨ j = 2 ∨ j = 3 ∨ j = 4 ∨ j = 5 by omega) with rfl | rfl | rfl | rfl | rfl | rfl <;> rfl) h_1 h_2 dL_law_8 (fun m0 H hP hD hS => ?_)
  have hP : va_P D vwCl [((E 5), .inr (0, [.ref kb, .int 0, kh, kz])), (kb, .inl (E 0, 0, .inl z0)), (x0, .inr (3, [.ref t0, p1, p2, p3, .int 0, .int 0, .int 0])), (t0, .inl (E 3, 4, .inr (.inr (.inr (.inr f))))), (r0, .inr (2, [.ref g0, .int (nI (0))])), (g0, .inl (E 2, 256, .inl z0)), (m0, .inr (5, [.int 0, .null, .null, .int 0, .int 0, .int 0]))] H := hP
  have hD : va_D A [((E 5), .inr (0, [.ref kb, .int 0, kh, kz])), (kb, .inl (E 0, 0, .inl z0)), (x0, .inr (3, [.ref t0, p1, p2, p3, .int 0, .int 0, .int 0])), (t0, .inl (E 3, 4, .inr (.inr (.inr (.inr f))))), (r0, .inr (2, [.ref g0, .int (nI (0))])), (g0, .inl (E 2, 256, .inl z0)), (m0, .inr (5, [.int 0, .null, .null, .int 0, .int 0, .int 0]))] := hD
  refine W.widen (k := 22) (n := 3013) (by omega) (by omega) ?_
  refine lv_dup hx hb dL_law_11 rfl ?_
  have hPc := hP.sub (ws' := [(m0, .inr (5, [.int 0, .null, .null, .int 0, .int 0, .int 0]))]) [6] rfl
  have hDc := hD.sub (ws' := [(m0, .inr (5, [.int 0, .null, .null, .int 0, .int 0, .int 0]))]) [6] (by decide) rfl
  have hFc := va_free (wc := [(m0, .inr (5, [.int 0, .null, .null, .int 0, .int 0, .int 0]))]) hD hS hA [6] rfl
  have h_1 : 22 + 6 ≤ 1000000 := by omega
  have h_2 : 3013 + 4 ≤ 400000000 := by omega
  refine va_callv (va_runI (As := []) (rest := [.ref m0]) ⟨hx, hb, hml, hown, hts⟩ (c_X3_init l D E H.size (m0)) (cwI 0 hts rgL_law_X3_init rfl rfl rfl (hts (.initialized RX3) (by decide +kernel)) (hts (.methodLink RL 181 yX3_init) (by decide +kernel)) (hts (.instanceMethod yX3_init) (by decide +kernel)) rfl (by decide +kernel) ⟨Nat.le_of_ble_eq_true rfl, Nat.le_of_ble_eq_true rfl⟩) ⟨rf_blind _, fun U hU hW => ⟨rfl, rf_pre hK hPc hDc hZ hN hS hFc U hU hW⟩⟩ rfl rfl hl.1 rfl (lv_room (Nat.le_of_ble_eq_true rfl)) dL_law_12 ⟨h_1, h_2⟩) hS (fun q _ h => hFc q h) hFc (fun um t H1 locs ht hvm hw hB hz1 hk1 hS => ?_)
  obtain ⟨t1, y0, f1, pq⟩ := um
  obtain ⟨hP1, hD1⟩ := hB
  rw [ht] at hP1
  try dsimp only at hw hP1 hD1
  have hf1 : f1 0 = some y0 := hw
  obtain ⟨hP, hD⟩ := va_join (wr := [((E 5), .inr (0, [.ref kb, .int 0, kh, kz])), (kb, .inl (E 0, 0, .inl z0)), (x0, .inr (3, [.ref t0, p1, p2, p3, .int 0, .int 0, .int 0])), (t0, .inl (E 3, 4, .inr (.inr (.inr (.inr f))))), (r0, .inr (2, [.ref g0, .int (nI (0))])), (g0, .inl (E 2, 256, .inl z0))]) (w1 := [(m0, .inr (5, [.int 0, .ref t1, pq, .int 0, .int 0, .int 0])), (t1, .inl (E 4, 4, .inr (.inr (.inr (.inr f1))))), (y0, .inl (E 2, 0, .inl z0))]) hP hD [6] [0, 1, 2, 3, 4, 5] rfl rfl (by decide) (by decide) hk1 hFc hP1 hD1
  clear hPc hDc hFc hP1 hD1 hk1 hz1 ht
  generalize H1 = H at hP hS ⊢
  have hP : va_P D vwCl [((E 5), .inr (0, [.ref kb, .int 0, kh, kz])), (kb, .inl (E 0, 0, .inl z0)), (x0, .inr (3, [.ref t0, p1, p2, p3, .int 0, .int 0, .int 0])), (t0, .inl (E 3, 4, .inr (.inr (.inr (.inr f))))), (r0, .inr (2, [.ref g0, .int (nI (0))])), (g0, .inl (E 2, 256, .inl z0)), (m0, .inr (5, [.int 0, .ref t1, pq, .int 0, .int 0, .int 0])), (t1, .inl (E 4, 4, .inr (.inr (.inr (.inr f1))))), (y0, .inl (E 2, 0, .inl z0))] H := hP
  have hD : va_D A [((E 5), .inr (0, [.ref kb, .int 0, kh, kz])), (kb, .inl (E 0, 0, .inl z0)), (x0, .inr (3, [.ref t0, p1, p2, p3, .int 0, .int 0, .int 0])), (t0, .inl (E 3, 4, .inr (.inr (.inr (.inr f))))), (r0, .inr (2, [.ref g0, .int (nI (0))])), (g0, .inl (E 2, 256, .inl z0)), (m0, .inr (5, [.int 0, .ref t1, pq, .int 0, .int 0, .int 0])), (t1, .inl (E 4, 4, .inr (.inr (.inr (.inr f1))))), (y0, .inl (E 2, 0, .inl z0))] := hD
  refine W.widen (k := 28) (n := 3017) (by omega) (by omega) ?_
  refine lv_astore_n hx hb dL_law_15 rfl hl (Nat.le_of_ble_eq_true rfl) rfl (fun ls hl => ?_)
  have hl : lv_has ls 7 [(2, .ref m0), (1, .ref x0), (0, .ref b)] := hl
  have h_1 : 28 + 1 ≤ 1000000 := by omega
  have h_2 : 3017 + 2 ≤ 400000000 := by omega
  refine va_new (ci := 4) (fs := [.long 0, .null]) (C := RX2) (T := TX2) (N := 2) hx hb hts (by decide +kernel) tyX2 tyX2_ok hown (hts (.classLink RL 14 RX2) (by decide +kernel)) (hts (.instantiable RX2 2) (by decide +kernel)) (hts (.initialized RX2) (by decide +kernel)) hK hP hD hS hA rfl (fun j hj => by rcases (show j = 0 ∨ j = 1 by omega) with rfl | rfl <;> rfl) h_1 h_2 dL_law_16 (fun o0 H hP hD hS => ?_)
  have hP : va_P D vwCl [((E 5), .inr (0, [.ref kb, .int 0, kh, kz])), (kb, .inl (E 0, 0, .inl z0)), (x0, .inr (3, [.ref t0, p1, p2, p3, .int 0, .int 0, .int 0])), (t0, .inl (E 3, 4, .inr (.inr (.inr (.inr f))))), (r0, .inr (2, [.ref g0, .int (nI (0))])), (g0, .inl (E 2, 256, .inl z0)), (m0, .inr (5, [.int 0, .ref t1, pq, .int 0, .int 0, .int 0])), (t1, .inl (E 4, 4, .inr (.inr (.inr (.inr f1))))), (y0, .inl (E 2, 0, .inl z0)), (o0, .inr (4, [.long 0, .null]))] H := hP
  have hD : va_D A [((E 5), .inr (0, [.ref kb, .int 0, kh, kz])), (kb, .inl (E 0, 0, .inl z0)), (x0, .inr (3, [.ref t0, p1, p2, p3, .int 0, .int 0, .int 0])), (t0, .inl (E 3, 4, .inr (.inr (.inr (.inr f))))), (r0, .inr (2, [.ref g0, .int (nI (0))])), (g0, .inl (E 2, 256, .inl z0)), (m0, .inr (5, [.int 0, .ref t1, pq, .int 0, .int 0, .int 0])), (t1, .inl (E 4, 4, .inr (.inr (.inr (.inr f1))))), (y0, .inl (E 2, 0, .inl z0)), (o0, .inr (4, [.long 0, .null]))] := hD
  refine W.widen (k := 29) (n := 3019) (by omega) (by omega) ?_
  refine lv_dup hx hb dL_law_19 rfl ?_
  have hPc := hP.sub (ws' := [(o0, .inr (4, [.long 0, .null]))]) [9] rfl
  have hDc := hD.sub (ws' := [(o0, .inr (4, [.long 0, .null]))]) [9] (by decide) rfl
  have hFc := va_free (wc := [(o0, .inr (4, [.long 0, .null]))]) hD hS hA [9] rfl
  have h_1 : 29 + 0 ≤ 1000000 := by omega
  have h_2 : 3019 + 0 ≤ 400000000 := by omega
  refine va_callv (va_runIN (As := []) (rest := [.ref o0]) ⟨hx, hb, hml, hown, hts⟩ (c_X2_init l D E H.size (o0)) ⟨va_cnB 0 hts rgL_law_X2_init_n182 rfl rfl rfl hM2 (hts (.initialized RX2) (by decide +kernel)) (by decide +kernel) ⟨Nat.le_of_ble_eq_true rfl, Nat.le_of_ble_eq_true rfl⟩, rfl, hts (.instanceMethod yX2_init) (by decide +kernel)⟩ ⟨rf_blind _, fun U hU hW => ⟨rfl, rf_pre hK hPc hDc hZ hN hS hFc U hU hW⟩⟩ rfl rfl hl.1 rfl (lv_room (Nat.le_of_ble_eq_true rfl)) dL_law_20 ⟨h_1, h_2⟩) hS (fun q _ h => hFc q h) hFc (fun u t H1 locs ht hvm hw hB hz1 hk1 hS => ?_)
  obtain ⟨hP1, hD1⟩ := hB
  rw [ht] at hP1
  try dsimp only at hw hP1 hD1
  obtain ⟨hP, hD⟩ := va_join (wr := [((E 5), .inr (0, [.ref kb, .int 0, kh, kz])), (kb, .inl (E 0, 0, .inl z0)), (x0, .inr (3, [.ref t0, p1, p2, p3, .int 0, .int 0, .int 0])), (t0, .inl (E 3, 4, .inr (.inr (.inr (.inr f))))), (r0, .inr (2, [.ref g0, .int (nI (0))])), (g0, .inl (E 2, 256, .inl z0)), (m0, .inr (5, [.int 0, .ref t1, pq, .int 0, .int 0, .int 0])), (t1, .inl (E 4, 4, .inr (.inr (.inr (.inr f1))))), (y0, .inl (E 2, 0, .inl z0))]) (w1 := [(o0, .inr (4, [.long 0, .null]))]) hP hD [9] [0, 1, 2, 3, 4, 5, 6, 7, 8] rfl rfl (by decide) (by decide) hk1 hFc hP1 hD1
  clear hPc hDc hFc hP1 hD1 hk1 hz1 ht
  generalize H1 = H at hP hS ⊢
  have hP : va_P D vwCl [((E 5), .inr (0, [.ref kb, .int 0, kh, kz])), (kb, .inl (E 0, 0, .inl z0)), (x0, .inr (3, [.ref t0, p1, p2, p3, .int 0, .int 0, .int 0])), (t0, .inl (E 3, 4, .inr (.inr (.inr (.inr f))))), (r0, .inr (2, [.ref g0, .int (nI (0))])), (g0, .inl (E 2, 256, .inl z0)), (m0, .inr (5, [.int 0, .ref t1, pq, .int 0, .int 0, .int 0])), (t1, .inl (E 4, 4, .inr (.inr (.inr (.inr f1))))), (y0, .inl (E 2, 0, .inl z0)), (o0, .inr (4, [.long 0, .null]))] H := hP
  have hD : va_D A [((E 5), .inr (0, [.ref kb, .int 0, kh, kz])), (kb, .inl (E 0, 0, .inl z0)), (x0, .inr (3, [.ref t0, p1, p2, p3, .int 0, .int 0, .int 0])), (t0, .inl (E 3, 4, .inr (.inr (.inr (.inr f))))), (r0, .inr (2, [.ref g0, .int (nI (0))])), (g0, .inl (E 2, 256, .inl z0)), (m0, .inr (5, [.int 0, .ref t1, pq, .int 0, .int 0, .int 0])), (t1, .inl (E 4, 4, .inr (.inr (.inr (.inr f1))))), (y0, .inl (E 2, 0, .inl z0)), (o0, .inr (4, [.long 0, .null]))] := hD
  refine lv_astore_n hx hb dL_law_23 rfl hl (Nat.le_of_ble_eq_true rfl) rfl (fun ls hl => ?_)
  have hl : lv_has ls 7 [(3, .ref o0), (2, .ref m0), (1, .ref x0), (0, .ref b)] := hl
  refine lv_iconst (v := nI 0) hx hb dL_law_24 (by decide) ?_
  refine lv_istore hx hb dL_law_25 hl (Nat.le_of_ble_eq_true rfl) rfl (fun ls hl => ?_)
  have hl : lv_has ls 7 [(4, .int (nI 0)), (3, .ref o0), (2, .ref m0), (1, .ref x0), (0, .ref b)] := hl
  refine lv_iload hx hb dL_law_27 (lv_at hl 0 rfl) ?_
  refine lv_aload_n hx hb dL_law_29 rfl (lv_at hl 4 rfl) ?_
  refine va_slen hx hb hX hbl hbA hS dL_law_30 (W.eq (g2 := F0 mI 31 ls (.int (nI 2560) :: [.int (nI 0)])) rfl ?_)
  refine lv_iconst (v := nI 5) hx hb dL_law_31 (by decide) ?_
  refine lv_isub hx hb dL_law_32 (lv_topi (fun f1 ef => ?_))
  obtain rfl : f1 = nI (2555) := (show f1 = nI (2560) - nI (5) from ef).trans ((pk_sub (by omega)).trans (congrArg nI (by omega)))
  refine lv_icmp_gt (tgt := 2384) hx hb dL_law_33 rfl (fun h => absurd h (by decide)) (fun _ => ?_)
  refine lv_aload_n hx hb dL_law_36 rfl (lv_at hl 4 rfl) ?_
  refine lv_iload hx hb dL_law_37 (lv_at hl 0 rfl) ?_
  refine va_sld hx hb hX hbl hbA hS (vp_in_nI (by omega) (by omega)) dL_law_39 (W.eq (g2 := F0 mI 40 ls (.int (nI 18) :: [])) (congrArg (fun z => F0 mI 40 ls (.int z :: [])) (show sc (nI 0).toNatClampNeg = nI 18 by decide)) ?_)
  refine lv_bipush (v := nI 63) hx hb dL_law_40 (by decide) ?_
  refine lv_iand hx hb dL_law_42 (lv_topi (fun f2 ef => ?_))
  obtain rfl : f2 = nI 18 := ef.trans (by decide)
  refine lv_tableIn (tgt := 1192) (off := 1149) hx hb dL_law_43 (by decide) (by decide) (by decide) rfl ?_
  refine lv_aload_n hx hb dL_law_1192 rfl (lv_at hl 3 rfl) ?_
  refine lv_aload_n hx hb dL_law_1193 rfl (lv_at hl 4 rfl) ?_
  refine lv_iload hx hb dL_law_1194 (lv_at hl 0 rfl) ?_
  refine lv_iconst (v := nI 1) hx hb dL_law_1196 (by decide) ?_
  refine lv_iadd hx hb dL_law_1197 (lv_topi (fun f3 ef => ?_))
  obtain rfl : f3 = nI (1) := (show f3 = nI (0) + nI (1) from ef).trans ((nI_add _ _).trans (congrArg nI (by omega)))
  refine va_sld hx hb hX hbl hbA hS (vp_in_nI (by omega) (by omega)) dL_law_1198 (W.eq (g2 := F0 mI 1199 ls (.int (nI 0) :: [.ref x0])) (congrArg (fun z => F0 mI 1199 ls (.int z :: [.ref x0])) (show sc (nI 1).toNatClampNeg = nI 0 by decide)) ?_)
  refine lv_aload_n hx hb dL_law_1199 rfl (lv_at hl 4 rfl) ?_
  refine lv_iload hx hb dL_law_1200 (lv_at hl 0 rfl) ?_
  refine lv_iconst (v := nI 2) hx hb dL_law_1202 (by decide) ?_
  refine lv_iadd hx hb dL_law_1203 (lv_topi (fun f4 ef => ?_))
  obtain rfl : f4 = nI (2) := (show f4 = nI (0) + nI (2) from ef).trans ((nI_add _ _).trans (congrArg nI (by omega)))
  refine va_sld hx hb hX hbl hbA hS (vp_in_nI (by omega) (by omega)) dL_law_1204 (W.eq (g2 := F0 mI 1205 ls (.int (nI 200) :: [.int (nI 0), .ref x0])) (congrArg (fun z => F0 mI 1205 ls (.int z :: [.int (nI 0), .ref x0])) (show sc (nI 2).toNatClampNeg = nI 200 by decide)) ?_)
  refine lv_aload_n hx hb dL_law_1205 rfl (lv_at hl 1 rfl) ?_
  have hPc := hP.sub (ws' := [(x0, .inr (3, [.ref t0, p1, p2, p3, .int 0, .int 0, .int 0])), (t0, .inl (E 3, 4, .inr (.inr (.inr (.inr f))))), (r0, .inr (2, [.ref g0, .int (nI (0))])), (g0, .inl (E 2, 256, .inl z0)), (o0, .inr (4, [.long 0, .null]))]) [2, 3, 4, 5, 9] rfl
  have hDc := hD.sub (ws' := [(x0, .inr (3, [.ref t0, p1, p2, p3, .int 0, .int 0, .int 0])), (t0, .inl (E 3, 4, .inr (.inr (.inr (.inr f))))), (r0, .inr (2, [.ref g0, .int (nI (0))])), (g0, .inl (E 2, 256, .inl z0)), (o0, .inr (4, [.long 0, .null]))]) [2, 3, 4, 5, 9] (by decide) rfl
  have hFc := va_free (wc := [(x0, .inr (3, [.ref t0, p1, p2, p3, .int 0, .int 0, .int 0])), (t0, .inl (E 3, 4, .inr (.inr (.inr (.inr f))))), (r0, .inr (2, [.ref g0, .int (nI (0))])), (g0, .inl (E 2, 256, .inl z0)), (o0, .inr (4, [.long 0, .null]))]) hD hS hA [2, 3, 4, 5, 9] rfl
  have h_1 : 29 + 0 ≤ 1000000 := by omega
  have h_2 : 3019 + 0 ≤ 400000000 := by omega
  refine va_calli (vx_runSW (As := [.ref x0, .int (nI 0), .int (nI 200), .ref o0]) (rest := []) ⟨hx, hb, hml, hown, hts⟩ (c_L_setLength l D E H.size (x0) (t0) (r0) (g0) (o0) (200) (f) (.long 0) (.null) (p1) (p2) (p3) (.int 0) (.int 0) (.int 0) (hf) (by omega)) (vx_cwSW 4 hts rgL_law_L_setLength rfl rfl rfl (by decide +kernel) ⟨Nat.le_of_ble_eq_true rfl, Nat.le_of_ble_eq_true rfl⟩) ⟨rf_blind _, fun U hU hW => ⟨rfl, rf_pre hK hPc hDc hZ hN hS hFc U hU hW⟩⟩ rfl rfl hl.1 rfl (lv_room (Nat.le_of_ble_eq_true rfl)) dL_law_1206 ⟨h_1, h_2⟩) hS (fun q _ h => hFc q h) hFc (fun r u t H1 locs ht hvm hw hB hz1 hk1 hS => ?_)
  obtain ⟨hP1, hD1⟩ := hB
  rw [ht] at hP1
  try dsimp only at hw hP1 hD1
  obtain rfl := hw
  obtain ⟨hP, hD⟩ := va_join (wr := [((E 5), .inr (0, [.ref kb, .int 0, kh, kz])), (kb, .inl (E 0, 0, .inl z0)), (m0, .inr (5, [.int 0, .ref t1, pq, .int 0, .int 0, .int 0])), (t1, .inl (E 4, 4, .inr (.inr (.inr (.inr f1))))), (y0, .inl (E 2, 0, .inl z0))]) (w1 := [(x0, .inr (3, [.ref t0, p1, p2, p3, .int 0, .int 0, .int 0])), (t0, .inl (E 3, 4, .inr (.inr (.inr (.inr f))))), (r0, .inr (2, [.ref g0, .int (nI (200))])), (g0, .inl (E 2, 256, .inl z0)), (o0, .inr (4, [.long (lN 0), .null]))]) hP hD [2, 3, 4, 5, 9] [0, 1, 6, 7, 8] rfl rfl (by decide) (by decide) hk1 hFc hP1 hD1
  clear hPc hDc hFc hP1 hD1 hk1 hz1 ht
  generalize H1 = H at hP hS ⊢
  have hP : va_P D vwCl [((E 5), .inr (0, [.ref kb, .int 0, kh, kz])), (kb, .inl (E 0, 0, .inl z0)), (m0, .inr (5, [.int 0, .ref t1, pq, .int 0, .int 0, .int 0])), (t1, .inl (E 4, 4, .inr (.inr (.inr (.inr f1))))), (y0, .inl (E 2, 0, .inl z0)), (x0, .inr (3, [.ref t0, p1, p2, p3, .int 0, .int 0, .int 0])), (t0, .inl (E 3, 4, .inr (.inr (.inr (.inr f))))), (r0, .inr (2, [.ref g0, .int (nI (200))])), (g0, .inl (E 2, 256, .inl z0)), (o0, .inr (4, [.long (lN 0), .null]))] H := hP
  have hD : va_D A [((E 5), .inr (0, [.ref kb, .int 0, kh, kz])), (kb, .inl (E 0, 0, .inl z0)), (m0, .inr (5, [.int 0, .ref t1, pq, .int 0, .int 0, .int 0])), (t1, .inl (E 4, 4, .inr (.inr (.inr (.inr f1))))), (y0, .inl (E 2, 0, .inl z0)), (x0, .inr (3, [.ref t0, p1, p2, p3, .int 0, .int 0, .int 0])), (t0, .inl (E 3, 4, .inr (.inr (.inr (.inr f))))), (r0, .inr (2, [.ref g0, .int (nI (200))])), (g0, .inl (E 2, 256, .inl z0)), (o0, .inr (4, [.long (lN 0), .null]))] := hD
  refine lv_istore hx hb dL_law_1209 hl (Nat.le_of_ble_eq_true rfl) rfl (fun ls hl => ?_)
  have hl : lv_has ls 7 [(5, .int (0)), (4, .int (nI 0)), (3, .ref o0), (2, .ref m0), (1, .ref x0), (0, .ref b)] := hl
  refine lv_aload_n hx hb dL_law_1211 rfl (lv_at hl 3 rfl) ?_
  refine lv_aload_n hx hb dL_law_1212 rfl (lv_at hl 5 rfl) ?_
  refine lv_iload hx hb dL_law_1213 (lv_at hl 1 rfl) ?_
  refine lv_iconst (v := nI 1) hx hb dL_law_1215 (by decide) ?_
  refine lv_iadd hx hb dL_law_1216 (lv_topi (fun f5 ef => ?_))
  obtain rfl : f5 = nI (1) := (show f5 = nI (0) + nI (1) from ef).trans ((nI_add _ _).trans (congrArg nI (by omega)))
  refine va_sld hx hb hX hbl hbA hS (vp_in_nI (by omega) (by omega)) dL_law_1217 (W.eq (g2 := F0 mI 1218 ls (.int (nI 0) :: [.ref m0])) (congrArg (fun z => F0 mI 1218 ls (.int z :: [.ref m0])) (show sc (nI 1).toNatClampNeg = nI 0 by decide)) ?_)
  refine lv_aload_n hx hb dL_law_1218 rfl (lv_at hl 5 rfl) ?_
  refine lv_iload hx hb dL_law_1219 (lv_at hl 1 rfl) ?_
  refine lv_iconst (v := nI 2) hx hb dL_law_1221 (by decide) ?_
  refine lv_iadd hx hb dL_law_1222 (lv_topi (fun f6 ef => ?_))
  obtain rfl : f6 = nI (2) := (show f6 = nI (0) + nI (2) from ef).trans ((nI_add _ _).trans (congrArg nI (by omega)))
  refine va_sld hx hb hX hbl hbA hS (vp_in_nI (by omega) (by omega)) dL_law_1223 (W.eq (g2 := F0 mI 1224 ls (.int (nI 200) :: [.int (nI 0), .ref m0])) (congrArg (fun z => F0 mI 1224 ls (.int z :: [.int (nI 0), .ref m0])) (show sc (nI 2).toNatClampNeg = nI 200 by decide)) ?_)
  have hPc := hP.sub (ws' := [(m0, .inr (5, [.int 0, .ref t1, pq, .int 0, .int 0, .int 0])), (t1, .inl (E 4, 4, .inr (.inr (.inr (.inr f1))))), (y0, .inl (E 2, 0, .inl z0))]) [2, 3, 4] rfl
  have hDc := hD.sub (ws' := [(m0, .inr (5, [.int 0, .ref t1, pq, .int 0, .int 0, .int 0])), (t1, .inl (E 4, 4, .inr (.inr (.inr (.inr f1))))), (y0, .inl (E 2, 0, .inl z0))]) [2, 3, 4] (by decide) rfl
  have hFc := va_free (wc := [(m0, .inr (5, [.int 0, .ref t1, pq, .int 0, .int 0, .int 0])), (t1, .inl (E 4, 4, .inr (.inr (.inr (.inr f1))))), (y0, .inl (E 2, 0, .inl z0))]) hD hS hA [2, 3, 4] rfl
  have h_1 : 29 + 3 ≤ 1000000 := by omega
  have h_2 : 3019 + 600 ≤ 400000000 := by omega
  refine va_calli (va_runV (As := [.int (nI 0), .int (nI 200)]) (rest := []) ⟨hx, hb, hml, hown, hts⟩ (c_X3_setLength l D E H.size (m0) (t1) (y0) (0) (f1) (pq) (.int 0) (.int 0) (.int 0) (hf1)) (cwV 2 hts rgL_law_X3_setLength rfl rfl rfl (by decide +kernel) ⟨Nat.le_of_ble_eq_true rfl, Nat.le_of_ble_eq_true rfl⟩) ⟨rf_blind _, va_recv hK hPc (ci := 5) (q0 := 0) rfl rfl, fun U hU hW => ⟨rfl, rf_pre hK hPc hDc hZ hN hS hFc U hU hW⟩⟩ rfl rfl hl.1 rfl (lv_room (Nat.le_of_ble_eq_true rfl)) dL_law_1224 ⟨h_1, h_2⟩) hS (fun q _ h => hFc q h) hFc (fun r y1 t H1 locs ht hvm hw hB hz1 hk1 hS => ?_)
  obtain ⟨hP1, hD1⟩ := hB
  rw [ht] at hP1
  try dsimp only at hw hP1 hD1
  obtain rfl := hw
  obtain ⟨hP, hD⟩ := va_join (wr := [((E 5), .inr (0, [.ref kb, .int 0, kh, kz])), (kb, .inl (E 0, 0, .inl z0)), (x0, .inr (3, [.ref t0, p1, p2, p3, .int 0, .int 0, .int 0])), (t0, .inl (E 3, 4, .inr (.inr (.inr (.inr f))))), (r0, .inr (2, [.ref g0, .int (nI (200))])), (g0, .inl (E 2, 256, .inl z0)), (o0, .inr (4, [.long (lN 0), .null]))]) (w1 := [(m0, .inr (5, [.int 0, .ref t1, pq, .int 0, .int 0, .int 0])), (t1, .inl (E 4, 4, .inr (.inr (.inr (.inr (va_up f1 0 (some y1))))))), (y1, .inl (E 2, 200, .inl z0))]) hP hD [2, 3, 4] [0, 1, 5, 6, 7, 8, 9] rfl rfl (by decide) (by decide) hk1 hFc hP1 hD1
  clear hPc hDc hFc hP1 hD1 hk1 hz1 ht
  generalize H1 = H at hP hS ⊢
  have hP : va_P D vwCl [((E 5), .inr (0, [.ref kb, .int 0, kh, kz])), (kb, .inl (E 0, 0, .inl z0)), (x0, .inr (3, [.ref t0, p1, p2, p3, .int 0, .int 0, .int 0])), (t0, .inl (E 3, 4, .inr (.inr (.inr (.inr f))))), (r0, .inr (2, [.ref g0, .int (nI (200))])), (g0, .inl (E 2, 256, .inl z0)), (o0, .inr (4, [.long (lN 0), .null])), (m0, .inr (5, [.int 0, .ref t1, pq, .int 0, .int 0, .int 0])), (t1, .inl (E 4, 4, .inr (.inr (.inr (.inr (va_up f1 0 (some y1))))))), (y1, .inl (E 2, 200, .inl z0))] H := hP
  have hD : va_D A [((E 5), .inr (0, [.ref kb, .int 0, kh, kz])), (kb, .inl (E 0, 0, .inl z0)), (x0, .inr (3, [.ref t0, p1, p2, p3, .int 0, .int 0, .int 0])), (t0, .inl (E 3, 4, .inr (.inr (.inr (.inr f))))), (r0, .inr (2, [.ref g0, .int (nI (200))])), (g0, .inl (E 2, 256, .inl z0)), (o0, .inr (4, [.long (lN 0), .null])), (m0, .inr (5, [.int 0, .ref t1, pq, .int 0, .int 0, .int 0])), (t1, .inl (E 4, 4, .inr (.inr (.inr (.inr (va_up f1 0 (some y1))))))), (y1, .inl (E 2, 200, .inl z0))] := hD
  refine W.widen (k := 32) (n := 3619) (by omega) (by omega) ?_
  refine lv_istore hx hb dL_law_1227 hl (Nat.le_of_ble_eq_true rfl) rfl (fun ls hl => ?_)
  have hl : lv_has ls 7 [(6, .int (nI 0)), (5, .int (0)), (4, .int (nI 0)), (3, .ref o0), (2, .ref m0), (1, .ref x0), (0, .ref b)] := hl
  refine lv_goto (tgt := 2378) hx hb dL_law_1229 rfl ?_
  have hl : lv_has ls 7 [(0, .ref b), (1, .ref x0), (2, .ref m0), (3, .ref o0), (4, .int (nI 0))] := lv_sub hl [6, 5, 4, 3, 2] rfl
  have hP := hP.sub (ws' := [(x0, .inr (3, [.ref t0, p1, p2, p3, .int 0, .int 0, .int 0])), (t0, .inl (E 3, 4, .inr (.inr (.inr (.inr f))))), (r0, .inr (2, [.ref g0, .int (nI (200))])), (g0, .inl (E 2, 256, .inl z0)), (m0, .inr (5, [.int 0, .ref t1, pq, .int 0, .int 0, .int 0])), (t1, .inl (E 4, 4, .inr (.inr (.inr (.inr (va_up f1 0 (some y1))))))), (y1, .inl (E 2, 200, .inl z0)), (o0, .inr (4, [.long (lN 0), .null])), ((E 5), .inr (0, [.ref kb, .int 0, kh, kz])), (kb, .inl (E 0, 0, .inl z0))]) [2, 3, 4, 5, 7, 8, 9, 6, 0, 1] rfl
  have hD := hD.sub (ws' := [(x0, .inr (3, [.ref t0, p1, p2, p3, .int 0, .int 0, .int 0])), (t0, .inl (E 3, 4, .inr (.inr (.inr (.inr f))))), (r0, .inr (2, [.ref g0, .int (nI (200))])), (g0, .inl (E 2, 256, .inl z0)), (m0, .inr (5, [.int 0, .ref t1, pq, .int 0, .int 0, .int 0])), (t1, .inl (E 4, 4, .inr (.inr (.inr (.inr (va_up f1 0 (some y1))))))), (y1, .inl (E 2, 200, .inl z0)), (o0, .inr (4, [.long (lN 0), .null])), ((E 5), .inr (0, [.ref kb, .int 0, kh, kz])), (kb, .inl (E 0, 0, .inl z0))]) [2, 3, 4, 5, 7, 8, 9, 6, 0, 1] (by decide) rfl
  refine lv_iinc (v := nI (5 * (0 + 1))) hx hb dL_law_2378 hl (k := 4) rfl ((show nI (0) + Int32.ofInt 5 = nI (0) + nI 5 from rfl).trans ((nI_add _ _).trans (congrArg nI (by omega)))) (Nat.le_of_ble_eq_true rfl) rfl (fun ls hl => ?_)
  have hl : lv_has ls 7 [(4, .int (nI (5 * (0 + 1)))), (0, .ref b), (1, .ref x0), (2, .ref m0), (3, .ref o0)] := hl
  have hl : lv_has ls 7 [(0, .ref b), (1, .ref x0), (2, .ref m0), (3, .ref o0), (4, .int (nI (5 * (0 + 1))))] := lv_sub hl [1, 2, 3, 4, 0] rfl
  refine lv_goto (tgt := 27) hx hb dL_law_2381 rfl ?_
  refine W.widen (k := 40) (n := 8000) (by omega) (by omega) ?_
  refine rf_loop (511) 1403 700404 (fun k H locs ls => ∃ (sv : Value) (G : va_W), lv_has ls 7 [(0, .ref b), (1, .ref x0), (2, .ref m0), (3, .ref o0), (4, .int (nI (5 * (k + 1))))] ∧ va_P D vwCl ([(x0, .inr (3, [.ref t0, p1, p2, p3, .int 0, .int 0, .int 0])), (t0, .inl (E 3, 4, .inr (.inr (.inr (.inr f))))), (r0, .inr (2, [.ref g0, .int (nI (200))])), (g0, .inl (E 2, 256, .inl z0)), (m0, .inr (5, [.int 0, .ref t1, pq, .int 0, .int 0, .int 0])), (t1, .inl (E 4, 4, .inr (.inr (.inr (.inr (va_up f1 0 (some y1))))))), (y1, .inl (E 2, 200, .inl z0)), (o0, .inr (4, [.long (lN 0), sv])), ((E 5), .inr (0, [.ref kb, .int 0, kh, kz])), (kb, .inl (E 0, 0, .inl z0))] ++ G) H ∧ va_D A ([(x0, .inr (3, [.ref t0, p1, p2, p3, .int 0, .int 0, .int 0])), (t0, .inl (E 3, 4, .inr (.inr (.inr (.inr f))))), (r0, .inr (2, [.ref g0, .int (nI (200))])), (g0, .inl (E 2, 256, .inl z0)), (m0, .inr (5, [.int 0, .ref t1, pq, .int 0, .int 0, .int 0])), (t1, .inl (E 4, 4, .inr (.inr (.inr (.inr (va_up f1 0 (some y1))))))), (y1, .inl (E 2, 200, .inl z0)), (o0, .inr (4, [.long (lN 0), sv])), ((E 5), .inr (0, [.ref kb, .int 0, kh, kz])), (kb, .inl (E 0, 0, .inl z0))] ++ G) ∧ va_S A s.heap H locs ∧ k * 19900 ≤ gs G) ⟨.null, [], hl, hP, hD, hS, Nat.le_of_ble_eq_true rfl⟩ ?_ ?_
  · intro H locs ls hI
    obtain ⟨sv, G, hl, hP, hD, hS, hg⟩ := hI
    refine lv_iload hx hb dL_law_27 (lv_at hl 4 rfl) ?_
    refine lv_aload_n hx hb dL_law_29 rfl (lv_at hl 0 rfl) ?_
    refine va_slen hx hb hX hbl hbA hS dL_law_30 (W.eq (g2 := F0 mI 31 ls (.int (nI 2560) :: [.int (nI (5 * (511 + 1)))])) rfl ?_)
    refine lv_iconst (v := nI 5) hx hb dL_law_31 (by decide) ?_
    refine lv_isub hx hb dL_law_32 (lv_topi (fun f7 ef => ?_))
    obtain rfl : f7 = nI (2555) := (show f7 = nI (2560) - nI (5) from ef).trans ((pk_sub (by omega)).trans (congrArg nI (by omega)))
    refine lv_icmp_gt (tgt := 2384) hx hb dL_law_33 rfl (fun _ => ?_) (fun h => absurd (show nI (2555) < nI (5 * (511 + 1)) from nI_lt (by omega) (by omega)) h)
    refine lv_iconst (v := 1) hx hb dL_law_2384 (by decide) ?_
    have hb9 := rf_big (X := [(x0, .inr (3, [.ref t0, p1, p2, p3, .int 0, .int 0, .int 0])), (t0, .inl (E 3, 4, .inr (.inr (.inr (.inr f))))), (r0, .inr (2, [.ref g0, .int (nI (200))])), (g0, .inl (E 2, 256, .inl z0)), (m0, .inr (5, [.int 0, .ref t1, pq, .int 0, .int 0, .int 0])), (t1, .inl (E 4, 4, .inr (.inr (.inr (.inr (va_up f1 0 (some y1))))))), (y1, .inl (E 2, 200, .inl z0)), (o0, .inr (4, [.long (lN 0), sv])), ((E 5), .inr (0, [.ref kb, .int 0, kh, kz])), (kb, .inl (E 0, 0, .inl z0))]) (G := G) (lo := s.heap.size) hP hD (rf_lo hD 8 9 rfl rfl hAd)
    exact rf_ret hx hb hr hlocks dL_law_2385 (by unfold rf_sum; omega)
  · intro k H locs ls hkN hI kk
    obtain ⟨sv, G, hl, hP, hD, hS, hg⟩ := hI
    refine lv_iload hx hb dL_law_27 (lv_at hl 4 rfl) ?_
    refine lv_aload_n hx hb dL_law_29 rfl (lv_at hl 0 rfl) ?_
    refine va_slen hx hb hX hbl hbA hS dL_law_30 (W.eq (g2 := F0 mI 31 ls (.int (nI 2560) :: [.int (nI (5 * (k + 1)))])) rfl ?_)
    refine lv_iconst (v := nI 5) hx hb dL_law_31 (by decide) ?_
    refine lv_isub hx hb dL_law_32 (lv_topi (fun f8 ef => ?_))
    obtain rfl : f8 = nI (2555) := (show f8 = nI (2560) - nI (5) from ef).trans ((pk_sub (by omega)).trans (congrArg nI (by omega)))
    refine lv_icmp_gt (tgt := 2384) hx hb dL_law_33 rfl (fun h => absurd h (show ¬ nI (2555) < nI (5 * (k + 1)) from nI_nlt (by omega) (by omega))) (fun _ => ?_)
    refine lv_aload_n hx hb dL_law_36 rfl (lv_at hl 0 rfl) ?_
    refine lv_iload hx hb dL_law_37 (lv_at hl 4 rfl) ?_
    refine va_sld hx hb hX hbl hbA hS (vp_in_nI (by omega) (by omega)) dL_law_39 (W.eq (g2 := F0 mI 40 ls (.int (nI 28) :: [])) (congrArg (fun z => F0 mI 40 ls (.int z :: [])) (sc_28 k hkN)) ?_)
    refine lv_bipush (v := nI 63) hx hb dL_law_40 (by decide) ?_
    refine lv_iand hx hb dL_law_42 (lv_topi (fun f9 ef => ?_))
    obtain rfl : f9 = nI 28 := ef.trans (by decide)
    refine lv_tableIn (tgt := 1493) (off := 1450) hx hb dL_law_43 (by decide) (by decide) (by decide) rfl ?_
    refine lv_aload_n hx hb dL_law_1493 rfl (lv_at hl 1 rfl) ?_
    refine lv_aload_n hx hb dL_law_1494 rfl (lv_at hl 0 rfl) ?_
    refine lv_iload hx hb dL_law_1495 (lv_at hl 4 rfl) ?_
    refine lv_iconst (v := nI 1) hx hb dL_law_1497 (by decide) ?_
    refine lv_iadd hx hb dL_law_1498 (lv_topi (fun f10 ef => ?_))
    obtain rfl : f10 = nI (5 * (k + 1) + 1) := (show f10 = nI (5 * (k + 1)) + nI (1) from ef).trans ((nI_add _ _).trans (congrArg nI (by omega)))
    refine va_sld hx hb hX hbl hbA hS (vp_in_nI (by omega) (by omega)) dL_law_1499 (W.eq (g2 := F0 mI 1500 ls (.int (nI 0) :: [.ref x0])) (congrArg (fun z => F0 mI 1500 ls (.int z :: [.ref x0])) (sc_0 k hkN)) ?_)
    refine lv_aload_n hx hb dL_law_1500 rfl (lv_at hl 3 rfl) ?_
    have hPc := hP.sub (ws' := [(x0, .inr (3, [.ref t0, p1, p2, p3, .int 0, .int 0, .int 0])), (t0, .inl (E 3, 4, .inr (.inr (.inr (.inr f))))), (r0, .inr (2, [.ref g0, .int (nI (200))])), (g0, .inl (E 2, 256, .inl z0)), (o0, .inr (4, [.long (lN 0), sv]))]) [0, 1, 2, 3, 7] rfl
    have hDc := hD.sub (ws' := [(x0, .inr (3, [.ref t0, p1, p2, p3, .int 0, .int 0, .int 0])), (t0, .inl (E 3, 4, .inr (.inr (.inr (.inr f))))), (r0, .inr (2, [.ref g0, .int (nI (200))])), (g0, .inl (E 2, 256, .inl z0)), (o0, .inr (4, [.long (lN 0), sv]))]) [0, 1, 2, 3, 7] (by decide) rfl
    have hFc := va_free (wc := [(x0, .inr (3, [.ref t0, p1, p2, p3, .int 0, .int 0, .int 0])), (t0, .inl (E 3, 4, .inr (.inr (.inr (.inr f))))), (r0, .inr (2, [.ref g0, .int (nI (200))])), (g0, .inl (E 2, 256, .inl z0)), (o0, .inr (4, [.long (lN 0), sv]))]) hD hS hA [0, 1, 2, 3, 7] rfl
    have h_1 : 40 + k * 1403 + 3 ≤ 1000000 := by omega
    have h_2 : 8000 + k * 700404 + 404 ≤ 400000000 := by omega
    refine va_calli (vx_runSW (As := [.ref x0, .int (nI 0), .ref o0]) (rest := []) ⟨hx, hb, hml, hown, hts⟩ (c_L_text l D E H.size (x0) (t0) (r0) (g0) (o0) (200) (f) (.long (lN 0)) (sv) (p1) (p2) (p3) (.int 0) (.int 0) (.int 0) (hf) (by omega) (by omega)) (vx_cwSW 3 hts rgL_law_L_text rfl rfl rfl (by decide +kernel) ⟨Nat.le_of_ble_eq_true rfl, Nat.le_of_ble_eq_true rfl⟩) ⟨rf_blind _, fun U hU hW => ⟨rfl, rf_pre hK hPc hDc hZ hN hS hFc U hU hW⟩⟩ rfl rfl hl.1 rfl (lv_room (Nat.le_of_ble_eq_true rfl)) dL_law_1501 ⟨h_1, h_2⟩) hS (fun q _ h => hFc q h) hFc (fun r uu t H1 locs ht hvm hw hB hz1 hk1 hS => ?_)
    obtain ⟨s1, s2⟩ := uu
    obtain ⟨hP1, hD1⟩ := hB
    rw [ht] at hP1
    try dsimp only at hw hP1 hD1
    obtain rfl := hw
    obtain ⟨hP, hD⟩ := va_joinQ (X := [(x0, .inr (3, [.ref t0, p1, p2, p3, .int 0, .int 0, .int 0])), (t0, .inl (E 3, 4, .inr (.inr (.inr (.inr f))))), (r0, .inr (2, [.ref g0, .int (nI (200))])), (g0, .inl (E 2, 256, .inl z0)), (m0, .inr (5, [.int 0, .ref t1, pq, .int 0, .int 0, .int 0])), (t1, .inl (E 4, 4, .inr (.inr (.inr (.inr (va_up f1 0 (some y1))))))), (y1, .inl (E 2, 200, .inl z0)), (o0, .inr (4, [.long (lN 0), sv])), ((E 5), .inr (0, [.ref kb, .int 0, kh, kz])), (kb, .inl (E 0, 0, .inl z0))]) (cx := [(x0, .inr (3, [.ref t0, p1, p2, p3, .int 0, .int 0, .int 0])), (t0, .inl (E 3, 4, .inr (.inr (.inr (.inr f))))), (r0, .inr (2, [.ref g0, .int (nI (200))])), (g0, .inl (E 2, 256, .inl z0)), (o0, .inr (4, [.long (lN 0), sv]))]) (pl := G) (wr := [(m0, .inr (5, [.int 0, .ref t1, pq, .int 0, .int 0, .int 0])), (t1, .inl (E 4, 4, .inr (.inr (.inr (.inr (va_up f1 0 (some y1))))))), (y1, .inl (E 2, 200, .inl z0)), ((E 5), .inr (0, [.ref kb, .int 0, kh, kz])), (kb, .inl (E 0, 0, .inl z0))]) (w1 := [(x0, .inr (3, [.ref t0, p1, p2, p3, .int 0, .int 0, .int 0])), (t0, .inl (E 3, 4, .inr (.inr (.inr (.inr f))))), (r0, .inr (2, [.ref g0, .int (nI (200))])), (g0, .inl (E 2, 256, .inl z0)), (o0, .inr (4, [.long (lN 0), .ref s1])), (s1, .inr (0, [.ref s2, .int 0, .int 0, .int 0])), (s2, .inl (E 0, 200, .inl z0))]) hP hD [0, 1, 2, 3, 7] [4, 5, 6, 8, 9] rfl rfl (by decide) (by decide) hk1 hFc hP1 hD1
    clear hPc hDc hFc hP1 hD1 hk1 hz1 ht
    generalize H1 = H at hP hS ⊢
    have hP : va_P D vwCl ([(m0, .inr (5, [.int 0, .ref t1, pq, .int 0, .int 0, .int 0])), (t1, .inl (E 4, 4, .inr (.inr (.inr (.inr (va_up f1 0 (some y1))))))), (y1, .inl (E 2, 200, .inl z0)), ((E 5), .inr (0, [.ref kb, .int 0, kh, kz])), (kb, .inl (E 0, 0, .inl z0)), (x0, .inr (3, [.ref t0, p1, p2, p3, .int 0, .int 0, .int 0])), (t0, .inl (E 3, 4, .inr (.inr (.inr (.inr f))))), (r0, .inr (2, [.ref g0, .int (nI (200))])), (g0, .inl (E 2, 256, .inl z0)), (o0, .inr (4, [.long (lN 0), .ref s1])), (s1, .inr (0, [.ref s2, .int 0, .int 0, .int 0])), (s2, .inl (E 0, 200, .inl z0))] ++ G) H := hP
    have hD : va_D A ([(m0, .inr (5, [.int 0, .ref t1, pq, .int 0, .int 0, .int 0])), (t1, .inl (E 4, 4, .inr (.inr (.inr (.inr (va_up f1 0 (some y1))))))), (y1, .inl (E 2, 200, .inl z0)), ((E 5), .inr (0, [.ref kb, .int 0, kh, kz])), (kb, .inl (E 0, 0, .inl z0)), (x0, .inr (3, [.ref t0, p1, p2, p3, .int 0, .int 0, .int 0])), (t0, .inl (E 3, 4, .inr (.inr (.inr (.inr f))))), (r0, .inr (2, [.ref g0, .int (nI (200))])), (g0, .inl (E 2, 256, .inl z0)), (o0, .inr (4, [.long (lN 0), .ref s1])), (s1, .inr (0, [.ref s2, .int 0, .int 0, .int 0])), (s2, .inl (E 0, 200, .inl z0))] ++ G) := hD
    refine W.widen (k := 40 + k * 1403 + 3) (n := 8000 + k * 700404 + 404) (by omega) (by omega) ?_
    refine lv_istore hx hb dL_law_1504 hl (Nat.le_of_ble_eq_true rfl) rfl (fun ls hl => ?_)
    have hl : lv_has ls 7 [(5, .int (0)), (0, .ref b), (1, .ref x0), (2, .ref m0), (3, .ref o0), (4, .int (nI (5 * (k + 1))))] := hl
    refine lv_aload_n hx hb dL_law_1506 rfl (lv_at hl 3 rfl) ?_
    refine lv_aload_n hx hb dL_law_1507 rfl (lv_at hl 1 rfl) ?_
    refine lv_iload hx hb dL_law_1508 (lv_at hl 5 rfl) ?_
    refine lv_iconst (v := nI 1) hx hb dL_law_1510 (by decide) ?_
    refine lv_iadd hx hb dL_law_1511 (lv_topi (fun f11 ef => ?_))
    obtain rfl : f11 = nI (5 * (k + 1) + 1) := (show f11 = nI (5 * (k + 1)) + nI (1) from ef).trans ((nI_add _ _).trans (congrArg nI (by omega)))
    refine va_sld hx hb hX hbl hbA hS (vp_in_nI (by omega) (by omega)) dL_law_1512 (W.eq (g2 := F0 mI 1513 ls (.int (nI 0) :: [.ref m0])) (congrArg (fun z => F0 mI 1513 ls (.int z :: [.ref m0])) (sc_0 k hkN)) ?_)
    have hPc := hP.sub (ws' := [(m0, .inr (5, [.int 0, .ref t1, pq, .int 0, .int 0, .int 0])), (t1, .inl (E 4, 4, .inr (.inr (.inr (.inr (va_up f1 0 (some y1))))))), (y1, .inl (E 2, 200, .inl z0)), ((E 5), .inr (0, [.ref kb, .int 0, kh, kz])), (kb, .inl (E 0, 0, .inl z0))]) [0, 1, 2, 3, 4] rfl
    have hDc := hD.sub (ws' := [(m0, .inr (5, [.int 0, .ref t1, pq, .int 0, .int 0, .int 0])), (t1, .inl (E 4, 4, .inr (.inr (.inr (.inr (va_up f1 0 (some y1))))))), (y1, .inl (E 2, 200, .inl z0)), ((E 5), .inr (0, [.ref kb, .int 0, kh, kz])), (kb, .inl (E 0, 0, .inl z0))]) [0, 1, 2, 3, 4] (by decide) rfl
    have hFc := va_free (wc := [(m0, .inr (5, [.int 0, .ref t1, pq, .int 0, .int 0, .int 0])), (t1, .inl (E 4, 4, .inr (.inr (.inr (.inr (va_up f1 0 (some y1))))))), (y1, .inl (E 2, 200, .inl z0)), ((E 5), .inr (0, [.ref kb, .int 0, kh, kz])), (kb, .inl (E 0, 0, .inl z0))]) hD hS hA [0, 1, 2, 3, 4] rfl
    have h_1 : 40 + k * 1403 + 3 + 1400 ≤ 1000000 := by omega
    have h_2 : 8000 + k * 700404 + 404 + 700000 ≤ 400000000 := by omega
    refine va_callr (va_runV (As := [.int (nI 0)]) (rest := []) ⟨hx, hb, hml, hown, hts⟩ (c_X3_text_ l D E H.size (m0) (t1) (y1) (kb) (199) (0) ((va_up f1 0 (some y1))) (kh) (kz) (pq) (.int 0) (.int 0) (.int 0) (by simp [va_up]) (by omega)) (cwV 1 hts rgL_law_X3_text_ rfl rfl rfl (by decide +kernel) ⟨Nat.le_of_ble_eq_true rfl, Nat.le_of_ble_eq_true rfl⟩) ⟨rf_blind _, va_recv hK hPc (ci := 5) (q0 := 0) rfl rfl, fun U hU hW => ⟨rfl, rf_pre hK hPc hDc hZ hN hS hFc U hU hW⟩⟩ rfl rfl hl.1 rfl (lv_room (Nat.le_of_ble_eq_true rfl)) dL_law_1513 ⟨h_1, h_2⟩) hS (fun q _ h => hFc q h) hFc (fun u rs t H1 locs ht hvm hw hB hz1 hk1 hS => ?_)
    obtain ⟨b1, G1⟩ := u
    obtain ⟨hP1, hD1⟩ := hB
    rw [ht] at hP1
    try dsimp only at hw hP1 hD1
    obtain ⟨hP, hD⟩ := va_joinQ (X := [(m0, .inr (5, [.int 0, .ref t1, pq, .int 0, .int 0, .int 0])), (t1, .inl (E 4, 4, .inr (.inr (.inr (.inr (va_up f1 0 (some y1))))))), (y1, .inl (E 2, 200, .inl z0)), ((E 5), .inr (0, [.ref kb, .int 0, kh, kz])), (kb, .inl (E 0, 0, .inl z0)), (x0, .inr (3, [.ref t0, p1, p2, p3, .int 0, .int 0, .int 0])), (t0, .inl (E 3, 4, .inr (.inr (.inr (.inr f))))), (r0, .inr (2, [.ref g0, .int (nI (200))])), (g0, .inl (E 2, 256, .inl z0)), (o0, .inr (4, [.long (lN 0), .ref s1])), (s1, .inr (0, [.ref s2, .int 0, .int 0, .int 0])), (s2, .inl (E 0, 200, .inl z0))]) (cx := [(m0, .inr (5, [.int 0, .ref t1, pq, .int 0, .int 0, .int 0])), (t1, .inl (E 4, 4, .inr (.inr (.inr (.inr (va_up f1 0 (some y1))))))), (y1, .inl (E 2, 200, .inl z0)), ((E 5), .inr (0, [.ref kb, .int 0, kh, kz])), (kb, .inl (E 0, 0, .inl z0))]) (pl := G) (wr := [(x0, .inr (3, [.ref t0, p1, p2, p3, .int 0, .int 0, .int 0])), (t0, .inl (E 3, 4, .inr (.inr (.inr (.inr f))))), (r0, .inr (2, [.ref g0, .int (nI (200))])), (g0, .inl (E 2, 256, .inl z0)), (o0, .inr (4, [.long (lN 0), .ref s1])), (s1, .inr (0, [.ref s2, .int 0, .int 0, .int 0])), (s2, .inl (E 0, 200, .inl z0))]) (w1 := ([(m0, .inr (5, [.int 0, .ref t1, pq, .int 0, .int 0, .int 0])), (t1, .inl (E 4, 4, .inr (.inr (.inr (.inr (va_up f1 0 (some y1))))))), (y1, .inl (E 2, 200, .inl z0)), ((E 5), .inr (0, [.ref kb, .int 0, kh, kz])), (kb, .inl (E 0, 0, .inl z0)), (rs, .inr (0, [.ref b1, .int 0, .int 0, .int 0])), (b1, .inl (E 0, 200, .inl z0))] ++ G1)) hP hD [0, 1, 2, 3, 4] [5, 6, 7, 8, 9, 10, 11] rfl rfl (by decide) (by decide) hk1 hFc hP1 hD1
    clear hPc hDc hFc hP1 hD1 hk1 hz1 ht
    generalize H1 = H at hP hS ⊢
    have hP : va_P D vwCl ([(x0, .inr (3, [.ref t0, p1, p2, p3, .int 0, .int 0, .int 0])), (t0, .inl (E 3, 4, .inr (.inr (.inr (.inr f))))), (r0, .inr (2, [.ref g0, .int (nI (200))])), (g0, .inl (E 2, 256, .inl z0)), (o0, .inr (4, [.long (lN 0), .ref s1])), (s1, .inr (0, [.ref s2, .int 0, .int 0, .int 0])), (s2, .inl (E 0, 200, .inl z0)), (m0, .inr (5, [.int 0, .ref t1, pq, .int 0, .int 0, .int 0])), (t1, .inl (E 4, 4, .inr (.inr (.inr (.inr (va_up f1 0 (some y1))))))), (y1, .inl (E 2, 200, .inl z0)), ((E 5), .inr (0, [.ref kb, .int 0, kh, kz])), (kb, .inl (E 0, 0, .inl z0)), (rs, .inr (0, [.ref b1, .int 0, .int 0, .int 0])), (b1, .inl (E 0, 200, .inl z0))] ++ (G1 ++ G)) H := hP
    have hD : va_D A ([(x0, .inr (3, [.ref t0, p1, p2, p3, .int 0, .int 0, .int 0])), (t0, .inl (E 3, 4, .inr (.inr (.inr (.inr f))))), (r0, .inr (2, [.ref g0, .int (nI (200))])), (g0, .inl (E 2, 256, .inl z0)), (o0, .inr (4, [.long (lN 0), .ref s1])), (s1, .inr (0, [.ref s2, .int 0, .int 0, .int 0])), (s2, .inl (E 0, 200, .inl z0)), (m0, .inr (5, [.int 0, .ref t1, pq, .int 0, .int 0, .int 0])), (t1, .inl (E 4, 4, .inr (.inr (.inr (.inr (va_up f1 0 (some y1))))))), (y1, .inl (E 2, 200, .inl z0)), ((E 5), .inr (0, [.ref kb, .int 0, kh, kz])), (kb, .inl (E 0, 0, .inl z0)), (rs, .inr (0, [.ref b1, .int 0, .int 0, .int 0])), (b1, .inl (E 0, 200, .inl z0))] ++ (G1 ++ G)) := hD
    refine W.widen (k := 40 + k * 1403 + 1403) (n := 8000 + k * 700404 + 700404) (by omega) (by omega) ?_
    refine lv_astore hx hb dL_law_1516 hl (Nat.le_of_ble_eq_true rfl) rfl (fun ls hl => ?_)
    have hl : lv_has ls 7 [(6, .ref rs), (5, .int (0)), (0, .ref b), (1, .ref x0), (2, .ref m0), (3, .ref o0), (4, .int (nI (5 * (k + 1))))] := hl
    refine lv_goto (tgt := 2378) hx hb dL_law_1518 rfl ?_
    have hl : lv_has ls 7 [(0, .ref b), (1, .ref x0), (2, .ref m0), (3, .ref o0), (4, .int (nI (5 * (k + 1))))] := lv_sub hl [2, 3, 4, 5, 6] rfl
    have hD := va_D.part (X := [(x0, .inr (3, [.ref t0, p1, p2, p3, .int 0, .int 0, .int 0])), (t0, .inl (E 3, 4, .inr (.inr (.inr (.inr f))))), (r0, .inr (2, [.ref g0, .int (nI (200))])), (g0, .inl (E 2, 256, .inl z0)), (o0, .inr (4, [.long (lN 0), .ref s1])), (s1, .inr (0, [.ref s2, .int 0, .int 0, .int 0])), (s2, .inl (E 0, 200, .inl z0)), (m0, .inr (5, [.int 0, .ref t1, pq, .int 0, .int 0, .int 0])), (t1, .inl (E 4, 4, .inr (.inr (.inr (.inr (va_up f1 0 (some y1))))))), (y1, .inl (E 2, 200, .inl z0)), ((E 5), .inr (0, [.ref kb, .int 0, kh, kz])), (kb, .inl (E 0, 0, .inl z0)), (rs, .inr (0, [.ref b1, .int 0, .int 0, .int 0])), (b1, .inl (E 0, 200, .inl z0))]) (cx := [(x0, .inr (3, [.ref t0, p1, p2, p3, .int 0, .int 0, .int 0])), (t0, .inl (E 3, 4, .inr (.inr (.inr (.inr f))))), (r0, .inr (2, [.ref g0, .int (nI (200))])), (g0, .inl (E 2, 256, .inl z0)), (m0, .inr (5, [.int 0, .ref t1, pq, .int 0, .int 0, .int 0])), (t1, .inl (E 4, 4, .inr (.inr (.inr (.inr (va_up f1 0 (some y1))))))), (y1, .inl (E 2, 200, .inl z0)), (o0, .inr (4, [.long (lN 0), .ref s1])), ((E 5), .inr (0, [.ref kb, .int 0, kh, kz])), (kb, .inl (E 0, 0, .inl z0))]) (pl := (G1 ++ G)) hD [0, 1, 2, 3, 7, 8, 9, 4, 10, 11] (by decide) rfl
    have hP := va_P.part (X := [(x0, .inr (3, [.ref t0, p1, p2, p3, .int 0, .int 0, .int 0])), (t0, .inl (E 3, 4, .inr (.inr (.inr (.inr f))))), (r0, .inr (2, [.ref g0, .int (nI (200))])), (g0, .inl (E 2, 256, .inl z0)), (o0, .inr (4, [.long (lN 0), .ref s1])), (s1, .inr (0, [.ref s2, .int 0, .int 0, .int 0])), (s2, .inl (E 0, 200, .inl z0)), (m0, .inr (5, [.int 0, .ref t1, pq, .int 0, .int 0, .int 0])), (t1, .inl (E 4, 4, .inr (.inr (.inr (.inr (va_up f1 0 (some y1))))))), (y1, .inl (E 2, 200, .inl z0)), ((E 5), .inr (0, [.ref kb, .int 0, kh, kz])), (kb, .inl (E 0, 0, .inl z0)), (rs, .inr (0, [.ref b1, .int 0, .int 0, .int 0])), (b1, .inl (E 0, 200, .inl z0))]) (cx := [(x0, .inr (3, [.ref t0, p1, p2, p3, .int 0, .int 0, .int 0])), (t0, .inl (E 3, 4, .inr (.inr (.inr (.inr f))))), (r0, .inr (2, [.ref g0, .int (nI (200))])), (g0, .inl (E 2, 256, .inl z0)), (m0, .inr (5, [.int 0, .ref t1, pq, .int 0, .int 0, .int 0])), (t1, .inl (E 4, 4, .inr (.inr (.inr (.inr (va_up f1 0 (some y1))))))), (y1, .inl (E 2, 200, .inl z0)), (o0, .inr (4, [.long (lN 0), .ref s1])), ((E 5), .inr (0, [.ref kb, .int 0, kh, kz])), (kb, .inl (E 0, 0, .inl z0))]) (pl := (G1 ++ G)) hP [0, 1, 2, 3, 7, 8, 9, 4, 10, 11] rfl
    have hP : va_P D vwCl ([(x0, .inr (3, [.ref t0, p1, p2, p3, .int 0, .int 0, .int 0])), (t0, .inl (E 3, 4, .inr (.inr (.inr (.inr f))))), (r0, .inr (2, [.ref g0, .int (nI (200))])), (g0, .inl (E 2, 256, .inl z0)), (m0, .inr (5, [.int 0, .ref t1, pq, .int 0, .int 0, .int 0])), (t1, .inl (E 4, 4, .inr (.inr (.inr (.inr (va_up f1 0 (some y1))))))), (y1, .inl (E 2, 200, .inl z0)), (o0, .inr (4, [.long (lN 0), .ref s1])), ((E 5), .inr (0, [.ref kb, .int 0, kh, kz])), (kb, .inl (E 0, 0, .inl z0))] ++ (G1 ++ G)) H := hP
    have hD : va_D A ([(x0, .inr (3, [.ref t0, p1, p2, p3, .int 0, .int 0, .int 0])), (t0, .inl (E 3, 4, .inr (.inr (.inr (.inr f))))), (r0, .inr (2, [.ref g0, .int (nI (200))])), (g0, .inl (E 2, 256, .inl z0)), (m0, .inr (5, [.int 0, .ref t1, pq, .int 0, .int 0, .int 0])), (t1, .inl (E 4, 4, .inr (.inr (.inr (.inr (va_up f1 0 (some y1))))))), (y1, .inl (E 2, 200, .inl z0)), (o0, .inr (4, [.long (lN 0), .ref s1])), ((E 5), .inr (0, [.ref kb, .int 0, kh, kz])), (kb, .inl (E 0, 0, .inl z0))] ++ (G1 ++ G)) := hD
    refine lv_iinc (v := nI (5 * (k + 1 + 1))) hx hb dL_law_2378 hl (k := 4) rfl ((show nI (5 * (k + 1)) + Int32.ofInt 5 = nI (5 * (k + 1)) + nI 5 from rfl).trans ((nI_add _ _).trans (congrArg nI (by omega)))) (Nat.le_of_ble_eq_true rfl) rfl (fun ls hl => ?_)
    have hl : lv_has ls 7 [(4, .int (nI (5 * (k + 1 + 1)))), (0, .ref b), (1, .ref x0), (2, .ref m0), (3, .ref o0)] := hl
    have hl : lv_has ls 7 [(0, .ref b), (1, .ref x0), (2, .ref m0), (3, .ref o0), (4, .int (nI (5 * (k + 1 + 1))))] := lv_sub hl [1, 2, 3, 4, 0] rfl
    refine lv_goto (tgt := 27) hx hb dL_law_2381 rfl ?_
    refine W.widen (k := 40 + (k + 1) * 1403) (n := 8000 + (k + 1) * 700404) (by omega) (by omega) ?_
    exact kk _ _ _ ⟨.ref s1, (G1 ++ G), hl, hP, hD, hS, (by rw [gs_app]; have h9 : 19900 ≤ gs G1 := hw; omega)⟩
