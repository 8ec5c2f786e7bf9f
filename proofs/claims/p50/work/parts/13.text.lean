set_option maxHeartbeats 4000000 in
set_option maxRecDepth 100000 in
/-- the reference: text of n + 1 zeros; the bytes of all its texts lie in the heap -/
theorem c_X3_text (l : Launch) (D : va_G) (E : Nat → ClassId) (sz : Nat) (r0 kb n : Nat) (kh kz : Value) (hn : n + 1 ≤ 200) : Met l yX3_text wsX3_text ({ frames := 8, cells := 1400, slots := 700000, locals := 1400 }) (va_Pc [.ref r0] (rf_P D E [(r0, .inl (E 2, n + 1, .inl z0)), ((E 5), .inr (0, [.ref kb, .int 0, kh, kz])), (kb, .inl (E 0, 0, .inl z0))] sz)) (va_Qr (fun (u : Nat × va_W) => rf_tri (n + 1) ≤ gs u.2) (fun (u : Nat × va_W) (ra : Nat) (t : State) => rf_B D (va_A [(r0, .inl (E 2, n + 1, .inl z0)), ((E 5), .inr (0, [.ref kb, .int 0, kh, kz])), (kb, .inl (E 0, 0, .inl z0))] sz) ([(r0, .inl (E 2, n + 1, .inl z0)), ((E 5), .inr (0, [.ref kb, .int 0, kh, kz])), (kb, .inl (E 0, 0, .inl z0)), (ra, .inr (0, [.ref u.1, .int 0, .int 0, .int 0])), (u.1, .inl (E 0, n + 1, .inl z0))] ++ u.2) t) (va_A [(r0, .inl (E 2, n + 1, .inl z0)), ((E 5), .inr (0, [.ref kb, .int 0, kh, kz])), (kb, .inl (E 0, 0, .inl z0))] sz)) 1400 700000 (va_A [(r0, .inl (E 2, n + 1, .inl z0)), ((E 5), .inr (0, [.ref kb, .int 0, kh, kz])), (kb, .inl (E 0, 0, .inl z0))] sz) := by
  refine Met.ofW (cc := cX3_text) (maxL := 6) (ret := (some (.object "java/lang/String"))) (by decide) rfl ?_
  intro p e s mI args below meth c s₁ B hml hv
  obtain ⟨rfl, hsz, hP, hK, hD0, hZ, hN⟩ := hv
  have hx := B.exec
  have hb := B.bytes
  have hr := B.returns
  have hts := atoms_spec (ws := wsX3_text) B.pre
  have hown : s.vm.findClass RX3 = some mI.cls := findClass_of_methodNamed B.named
  have hlocks := B.notSynchronized
  subst hsz
  have hD := hD0.self (sz := s.heap.size)
  generalize hAe : va_A [(r0, .inl (E 2, n + 1, .inl z0)), ((E 5), .inr (0, [.ref kb, .int 0, kh, kz])), (kb, .inl (E 0, 0, .inl z0))] s.heap.size = A at hD hZ ⊢
  have hA : ∀ q : Nat, s.heap.size ≤ q → A q := fun q h => by rw [← hAe]; exact Or.inr h
  have hS : va_S A s.heap s.heap [] := va_S.rf
  have hl := lv_entry ([.ref r0]) (n := 6) (Nat.le_of_ble_eq_true rfl)
  rw [lg_entry_eq]
  generalize (lg_sl ([.ref r0]) ++ List.replicate (6 - (lg_sl ([.ref r0])).length) Slot.unset).toArray = ls at hl ⊢
  clear hAe hD0
  have hl : lv_has ls 6 [(0, .ref r0)] := hl
  obtain ⟨H, hH⟩ : ∃ H, H = s.heap := ⟨_, rfl⟩
  rw [← hH] at hP
  have hS : va_S A s.heap H [] := by rw [hH]; exact hS
  refine rf_heap hH ?_
  refine va_ldcS hx hb hown hN.2.1 dX3_text_0 ?_
  refine lv_astore_n hx hb dX3_text_2 rfl hl (Nat.le_of_ble_eq_true rfl) rfl (fun ls hl => ?_)
  have hl : lv_has ls 6 [(1, .ref (E 5)), (0, .ref r0)] := hl
  refine lv_aload_n hx hb dX3_text_3 rfl (lv_at hl 1 rfl) ?_
  refine lv_astore_n hx hb dX3_text_4 rfl hl (Nat.le_of_ble_eq_true rfl) rfl (fun ls hl => ?_)
  have hl : lv_has ls 6 [(2, .ref r0), (1, .ref (E 5)), (0, .ref r0)] := hl
  refine lv_aload_n hx hb dX3_text_5 rfl (lv_at hl 0 rfl) ?_
  refine va_alen (v := nI (n + 1)) hx hb hK hP 0 2 rfl rfl rfl dX3_text_6 ?_
  refine lv_istore_n hx hb dX3_text_7 rfl hl (Nat.le_of_ble_eq_true rfl) rfl (fun ls hl => ?_)
  have hl : lv_has ls 6 [(3, .int (nI (n + 1))), (2, .ref r0), (1, .ref (E 5)), (0, .ref r0)] := hl
  refine lv_iconst (v := nI 0) hx hb dX3_text_8 (by decide) ?_
  refine lv_istore hx hb dX3_text_9 hl (Nat.le_of_ble_eq_true rfl) rfl (fun ls hl => ?_)
  have hl : lv_has ls 6 [(4, .int (nI 0)), (3, .int (nI (n + 1))), (2, .ref r0), (1, .ref (E 5)), (0, .ref r0)] := hl
  refine lv_iload hx hb dX3_text_11 (lv_at hl 0 rfl) ?_
  refine lv_iload_n hx hb dX3_text_13 rfl (lv_at hl 1 rfl) ?_
  refine lv_icmp_ge (tgt := 50) hx hb dX3_text_14 rfl (fun h => absurd h (show ¬ nI (n + 1) ≤ nI (0) from nI_ge (by omega) (by omega))) (fun _ => ?_)
  refine lv_aload_n hx hb dX3_text_17 rfl (lv_at hl 2 rfl) ?_
  refine lv_iload hx hb dX3_text_18 (lv_at hl 0 rfl) ?_
  refine va_iald hx hb hK hP 0 2 rfl rfl (vp_in_nI (by omega) (by omega)) dX3_text_20 (W.eq (g2 := F0 mI 21 ls (.int 0 :: [])) rfl ?_)
  refine lv_istore hx hb dX3_text_21 hl (Nat.le_of_ble_eq_true rfl) rfl (fun ls hl => ?_)
  have hl : lv_has ls 6 [(5, .int (0)), (4, .int (nI 0)), (3, .int (nI (n + 1))), (2, .ref r0), (1, .ref (E 5)), (0, .ref r0)] := hl
  have h_1 : 0 + 1 ≤ 1400 := by omega
  have h_2 : 0 + 4 ≤ 700000 := by omega
  refine va_new (ci := 1) (fs := [.null, .int 0, .int 0, .int 0]) (C := RJ4) (T := TJ4) (N := 4) hx hb hts (by decide +kernel) tyJ4 tyJ4_ok hown (hts (.classLink RX3 52 RJ4) (by decide +kernel)) (hts (.instantiable RJ4 4) (by decide +kernel)) (hts (.initialized RJ4) (by decide +kernel)) hK hP hD hS hA rfl (fun j hj => by rcases (show j = 0 ∨ j = 1 ∨ j = 2 ∨ j = 3 by omega) with rfl | rfl | rfl | rfl <;> rfl) h_1 h_2 dX3_text_23 (fun qs H hP hD hS => ?_)
  have hP : va_P D vwCl [(r0, .inl (E 2, n + 1, .inl z0)), ((E 5), .inr (0, [.ref kb, .int 0, kh, kz])), (kb, .inl (E 0, 0, .inl z0)), (qs, .inr (1, [.null, .int 0, .int 0, .int 0]))] H := hP
  have hD : va_D A [(r0, .inl (E 2, n + 1, .inl z0)), ((E 5), .inr (0, [.ref kb, .int 0, kh, kz])), (kb, .inl (E 0, 0, .inl z0)), (qs, .inr (1, [.null, .int 0, .int 0, .int 0]))] := hD
  refine W.widen (k := 1) (n := 4) (by omega) (by omega) ?_
  refine lv_dup hx hb dX3_text_26 rfl ?_
  have hPc := hP.sub (ws' := [(qs, .inr (1, [.null, .int 0, .int 0, .int 0]))]) [3] rfl
  have hDc := hD.sub (ws' := [(qs, .inr (1, [.null, .int 0, .int 0, .int 0]))]) [3] (by decide) rfl
  have hFc := va_free (wc := [(qs, .inr (1, [.null, .int 0, .int 0, .int 0]))]) hD hS hA [3] rfl
  have h_1 : 1 + 1 ≤ 1400 := by omega
  have h_2 : 4 + 16 ≤ 700000 := by omega
  refine va_callv (va_runI (As := []) (rest := [.ref qs]) ⟨hx, hb, hml, hown, hts⟩ (c_J4_init_da8c8 l D E H.size (qs)) (cwI 0 hts gX3_text_J4_init_da8c8 rfl rfl rfl (hts (.initialized RJ4) (by decide +kernel)) (hts (.methodLink RX3 54 yJ4_init_da8c8) (by decide +kernel)) (hts (.instanceMethod yJ4_init_da8c8) (by decide +kernel)) rfl (by decide +kernel) ⟨Nat.le_of_ble_eq_true rfl, Nat.le_of_ble_eq_true rfl⟩) ⟨rf_blind _, fun U hU hW => ⟨rfl, rf_pre hK hPc hDc hZ hN hS hFc U hU hW⟩⟩ rfl rfl hl.1 rfl (lv_room (Nat.le_of_ble_eq_true rfl)) dX3_text_27 ⟨h_1, h_2⟩) hS (fun q _ h => hFc q h) hFc (fun u t H1 locs ht hvm hw hB hz1 hk1 hS => ?_)
  obtain ⟨hP1, hD1⟩ := hB
  rw [ht] at hP1
  try dsimp only at hw hP1 hD1
  obtain ⟨hP, hD⟩ := va_join (wr := [(r0, .inl (E 2, n + 1, .inl z0)), ((E 5), .inr (0, [.ref kb, .int 0, kh, kz])), (kb, .inl (E 0, 0, .inl z0))]) (w1 := [(qs, .inr (1, [.ref u, .int 0, .int 0, .int 0])), (u, .inl (E 0, 16, .inl z0))]) hP hD [3] [0, 1, 2] rfl rfl (by decide) (by decide) hk1 hFc hP1 hD1
  clear hPc hDc hFc hP1 hD1 hk1 hz1 ht
  generalize H1 = H at hP hS ⊢
  have hP : va_P D vwCl [(r0, .inl (E 2, n + 1, .inl z0)), ((E 5), .inr (0, [.ref kb, .int 0, kh, kz])), (kb, .inl (E 0, 0, .inl z0)), (qs, .inr (1, [.ref u, .int 0, .int 0, .int 0])), (u, .inl (E 0, 16, .inl z0))] H := hP
  have hD : va_D A [(r0, .inl (E 2, n + 1, .inl z0)), ((E 5), .inr (0, [.ref kb, .int 0, kh, kz])), (kb, .inl (E 0, 0, .inl z0)), (qs, .inr (1, [.ref u, .int 0, .int 0, .int 0])), (u, .inl (E 0, 16, .inl z0))] := hD
  refine W.widen (k := 2) (n := 20) (by omega) (by omega) ?_
  refine lv_aload_n hx hb dX3_text_30 rfl (lv_at hl 4 rfl) ?_
  have hPc := hP.sub (ws' := [(qs, .inr (1, [.ref u, .int 0, .int 0, .int 0])), (u, .inl (E 0, 16, .inl z0)), ((E 5), .inr (0, [.ref kb, .int 0, kh, kz])), (kb, .inl (E 0, 0, .inl z0))]) [3, 4, 1, 2] rfl
  have hDc := hD.sub (ws' := [(qs, .inr (1, [.ref u, .int 0, .int 0, .int 0])), (u, .inl (E 0, 16, .inl z0)), ((E 5), .inr (0, [.ref kb, .int 0, kh, kz])), (kb, .inl (E 0, 0, .inl z0))]) [3, 4, 1, 2] (by decide) rfl
  have hFc := va_free (wc := [(qs, .inr (1, [.ref u, .int 0, .int 0, .int 0])), (u, .inl (E 0, 16, .inl z0)), ((E 5), .inr (0, [.ref kb, .int 0, kh, kz])), (kb, .inl (E 0, 0, .inl z0))]) hD hS hA [3, 4, 1, 2] rfl
  have h_1 : 2 + 1 ≤ 1400 := by omega
  have h_2 : 20 + 1000 ≤ 700000 := by omega
  refine va_callr (va_runV (As := [.ref (E 5)]) (rest := []) ⟨hx, hb, hml, hown, hts⟩ (c_J4_append_15ec4 l D E H.size (qs) (u) ((E 5)) (kb) (0) (16) (.int 0) (kh) (kz) (by omega) (by omega)) (cwV 1 hts gX3_text_J4_append_15ec4 rfl rfl rfl (by decide +kernel) ⟨Nat.le_of_ble_eq_true rfl, Nat.le_of_ble_eq_true rfl⟩) ⟨rf_blind _, va_recv hK hPc (ci := 1) (q0 := 0) rfl rfl, fun U hU hW => ⟨rfl, rf_pre hK hPc hDc hZ hN hS hFc U hU hW⟩⟩ rfl rfl hl.1 rfl (lv_room (Nat.le_of_ble_eq_true rfl)) dX3_text_31 ⟨h_1, h_2⟩) hS (fun q _ h => hFc q h) hFc (fun u ra t H1 locs ht hvm hw hB hz1 hk1 hS => ?_)
  obtain ⟨m2, b2⟩ := u
  obtain ⟨hra, hP1, hD1⟩ := hB
  try dsimp only at hra
  subst ra
  rw [ht] at hP1
  try dsimp only at hw hP1 hD1
  obtain ⟨hw1, hw2⟩ := hw
  obtain ⟨hP, hD⟩ := va_join (wr := [(r0, .inl (E 2, n + 1, .inl z0))]) (w1 := [(qs, .inr (1, [.ref b2, .int 0, .int 0, .int (nI (0))])), (b2, .inl (E 0, m2, .inl z0)), ((E 5), .inr (0, [.ref kb, .int 0, kh, kz])), (kb, .inl (E 0, 0, .inl z0))]) hP hD [3, 4, 1, 2] [0] rfl rfl (by decide) (by decide) hk1 hFc hP1 hD1
  clear hPc hDc hFc hP1 hD1 hk1 hz1 ht
  generalize H1 = H at hP hS ⊢
  have hP : va_P D vwCl [(r0, .inl (E 2, n + 1, .inl z0)), (qs, .inr (1, [.ref b2, .int 0, .int 0, .int (nI (0))])), (b2, .inl (E 0, m2, .inl z0)), ((E 5), .inr (0, [.ref kb, .int 0, kh, kz])), (kb, .inl (E 0, 0, .inl z0))] H := hP
  have hD : va_D A [(r0, .inl (E 2, n + 1, .inl z0)), (qs, .inr (1, [.ref b2, .int 0, .int 0, .int (nI (0))])), (b2, .inl (E 0, m2, .inl z0)), ((E 5), .inr (0, [.ref kb, .int 0, kh, kz])), (kb, .inl (E 0, 0, .inl z0))] := hD
  refine W.widen (k := 3) (n := 1020) (by omega) (by omega) ?_
  refine lv_iload hx hb dX3_text_34 (lv_at hl 0 rfl) ?_
  refine lv_i2c (v := 0) hx hb dX3_text_36 (by decide) ?_
  have hPc := hP.sub (ws' := [(qs, .inr (1, [.ref b2, .int 0, .int 0, .int (nI (0))])), (b2, .inl (E 0, m2, .inl z0))]) [1, 2] rfl
  have hDc := hD.sub (ws' := [(qs, .inr (1, [.ref b2, .int 0, .int 0, .int (nI (0))])), (b2, .inl (E 0, m2, .inl z0))]) [1, 2] (by decide) rfl
  have hFc := va_free (wc := [(qs, .inr (1, [.ref b2, .int 0, .int 0, .int (nI (0))])), (b2, .inl (E 0, m2, .inl z0))]) hD hS hA [1, 2] rfl
  have h_1 : 3 + 1 ≤ 1400 := by omega
  have h_2 : 1020 + 1000 ≤ 700000 := by omega
  refine va_callr (va_runV (As := [.int (0)]) (rest := []) ⟨hx, hb, hml, hown, hts⟩ (c_J4_append_cf468 l D E H.size (qs) (b2) (0) (m2) (.int 0) (by omega) (by omega)) (cwV 1 hts gX3_text_J4_append_cf468 rfl rfl rfl (by decide +kernel) ⟨Nat.le_of_ble_eq_true rfl, Nat.le_of_ble_eq_true rfl⟩) ⟨rf_blind _, va_recv hK hPc (ci := 1) (q0 := 0) rfl rfl, fun U hU hW => ⟨rfl, rf_pre hK hPc hDc hZ hN hS hFc U hU hW⟩⟩ rfl rfl hl.1 rfl (lv_room (Nat.le_of_ble_eq_true rfl)) dX3_text_37 ⟨h_1, h_2⟩) hS (fun q _ h => hFc q h) hFc (fun u ra t H1 locs ht hvm hw hB hz1 hk1 hS => ?_)
  obtain ⟨m3, b3⟩ := u
  obtain ⟨hra, hP1, hD1⟩ := hB
  try dsimp only at hra
  subst ra
  rw [ht] at hP1
  try dsimp only at hw hP1 hD1
  obtain ⟨hw3, hw4⟩ := hw
  obtain ⟨hP, hD⟩ := va_join (wr := [(r0, .inl (E 2, n + 1, .inl z0)), ((E 5), .inr (0, [.ref kb, .int 0, kh, kz])), (kb, .inl (E 0, 0, .inl z0))]) (w1 := [(qs, .inr (1, [.ref b3, .int 0, .int 0, .int (nI (0 + 1))])), (b3, .inl (E 0, m3, .inl z0))]) hP hD [1, 2] [0, 3, 4] rfl rfl (by decide) (by decide) hk1 hFc hP1 hD1
  clear hPc hDc hFc hP1 hD1 hk1 hz1 ht
  generalize H1 = H at hP hS ⊢
  have hP : va_P D vwCl [(r0, .inl (E 2, n + 1, .inl z0)), ((E 5), .inr (0, [.ref kb, .int 0, kh, kz])), (kb, .inl (E 0, 0, .inl z0)), (qs, .inr (1, [.ref b3, .int 0, .int 0, .int (nI (0 + 1))])), (b3, .inl (E 0, m3, .inl z0))] H := hP
  have hD : va_D A [(r0, .inl (E 2, n + 1, .inl z0)), ((E 5), .inr (0, [.ref kb, .int 0, kh, kz])), (kb, .inl (E 0, 0, .inl z0)), (qs, .inr (1, [.ref b3, .int 0, .int 0, .int (nI (0 + 1))])), (b3, .inl (E 0, m3, .inl z0))] := hD
  refine W.widen (k := 4) (n := 2020) (by omega) (by omega) ?_
  have hPc := hP.sub (ws' := [(qs, .inr (1, [.ref b3, .int 0, .int 0, .int (nI (0 + 1))])), (b3, .inl (E 0, m3, .inl z0))]) [3, 4] rfl
  have hDc := hD.sub (ws' := [(qs, .inr (1, [.ref b3, .int 0, .int 0, .int (nI (0 + 1))])), (b3, .inl (E 0, m3, .inl z0))]) [3, 4] (by decide) rfl
  have hFc := va_free (wc := [(qs, .inr (1, [.ref b3, .int 0, .int 0, .int (nI (0 + 1))])), (b3, .inl (E 0, m3, .inl z0))]) hD hS hA [3, 4] rfl
  have h_1 : 4 + 2 ≤ 1400 := by omega
  have h_2 : 2020 + 1004 ≤ 700000 := by omega
  refine va_callr (va_runV (As := []) (rest := []) ⟨hx, hb, hml, hown, hts⟩ (c_J4_toString_0e30d l D E H.size (qs) (b3) (0 + 1) (m3) (.int 0) (by omega) (by omega)) (cwV 0 hts gX3_text_J4_toString_0e30d rfl rfl rfl (by decide +kernel) ⟨Nat.le_of_ble_eq_true rfl, Nat.le_of_ble_eq_true rfl⟩) ⟨rf_blind _, va_recv hK hPc (ci := 1) (q0 := 0) rfl rfl, fun U hU hW => ⟨rfl, rf_pre hK hPc hDc hZ hN hS hFc U hU hW⟩⟩ rfl rfl hl.1 rfl (lv_room (Nat.le_of_ble_eq_true rfl)) dX3_text_40 ⟨h_1, h_2⟩) hS (fun q _ h => hFc q h) hFc (fun u rs t H1 locs ht hvm hw hB hz1 hk1 hS => ?_)
  obtain ⟨hP1, hD1⟩ := hB
  rw [ht] at hP1
  try dsimp only at hw hP1 hD1
  obtain ⟨hP, hD⟩ := va_join (wr := [(r0, .inl (E 2, n + 1, .inl z0)), ((E 5), .inr (0, [.ref kb, .int 0, kh, kz])), (kb, .inl (E 0, 0, .inl z0))]) (w1 := [(rs, .inr (0, [.ref u, .int 0, .int 0, .int 0])), (u, .inl (E 0, 0 + 1, .inl z0)), (qs, .inr (1, [.ref b3, .int 0, .int 0, .int (nI (0 + 1))])), (b3, .inl (E 0, m3, .inl z0))]) hP hD [3, 4] [0, 1, 2] rfl rfl (by decide) (by decide) hk1 hFc hP1 hD1
  clear hPc hDc hFc hP1 hD1 hk1 hz1 ht
  generalize H1 = H at hP hS ⊢
  have hP : va_P D vwCl [(r0, .inl (E 2, n + 1, .inl z0)), ((E 5), .inr (0, [.ref kb, .int 0, kh, kz])), (kb, .inl (E 0, 0, .inl z0)), (rs, .inr (0, [.ref u, .int 0, .int 0, .int 0])), (u, .inl (E 0, 0 + 1, .inl z0)), (qs, .inr (1, [.ref b3, .int 0, .int 0, .int (nI (0 + 1))])), (b3, .inl (E 0, m3, .inl z0))] H := hP
  have hD : va_D A [(r0, .inl (E 2, n + 1, .inl z0)), ((E 5), .inr (0, [.ref kb, .int 0, kh, kz])), (kb, .inl (E 0, 0, .inl z0)), (rs, .inr (0, [.ref u, .int 0, .int 0, .int 0])), (u, .inl (E 0, 0 + 1, .inl z0)), (qs, .inr (1, [.ref b3, .int 0, .int 0, .int (nI (0 + 1))])), (b3, .inl (E 0, m3, .inl z0))] := hD
  refine W.widen (k := 6) (n := 3024) (by omega) (by omega) ?_
  refine lv_astore_n hx hb dX3_text_43 rfl hl (Nat.le_of_ble_eq_true rfl) rfl (fun ls hl => ?_)
  have hl : lv_has ls 6 [(1, .ref rs), (5, .int (0)), (4, .int (nI 0)), (3, .int (nI (n + 1))), (2, .ref r0), (0, .ref r0)] := hl
  refine lv_iinc (v := nI (1)) hx hb dX3_text_44 hl (k := 2) rfl ((show nI (0) + Int32.ofInt 1 = nI (0) + nI 1 from rfl).trans ((nI_add _ _).trans (congrArg nI (by omega)))) (Nat.le_of_ble_eq_true rfl) rfl (fun ls hl => ?_)
  have hl : lv_has ls 6 [(4, .int (nI (1))), (1, .ref rs), (5, .int (0)), (3, .int (nI (n + 1))), (2, .ref r0), (0, .ref r0)] := hl
  have hl : lv_has ls 6 [(1, .ref rs), (2, .ref r0), (3, .int (nI (n + 1))), (4, .int (nI (1)))] := lv_sub hl [1, 4, 3, 0] rfl
  have hP := hP.sub (ws' := [(r0, .inl (E 2, n + 1, .inl z0)), ((E 5), .inr (0, [.ref kb, .int 0, kh, kz])), (kb, .inl (E 0, 0, .inl z0)), (rs, .inr (0, [.ref u, .int 0, .int 0, .int 0])), (u, .inl (E 0, 0 + 1, .inl z0))]) [0, 1, 2, 3, 4] rfl
  have hD := hD.sub (ws' := [(r0, .inl (E 2, n + 1, .inl z0)), ((E 5), .inr (0, [.ref kb, .int 0, kh, kz])), (kb, .inl (E 0, 0, .inl z0)), (rs, .inr (0, [.ref u, .int 0, .int 0, .int 0])), (u, .inl (E 0, 0 + 1, .inl z0))]) [0, 1, 2, 3, 4] (by decide) rfl
  refine lv_goto (tgt := 11) hx hb dX3_text_47 rfl ?_
  refine W.widen (k := 6) (n := 3024) (by omega) (by omega) ?_
  refine rf_loop (n) 6 3024 (fun k H locs ls => ∃ (q b : Nat) (G : va_W), lv_has ls 6 [(1, .ref q), (2, .ref r0), (3, .int (nI (n + 1))), (4, .int (nI (k + 1)))] ∧ va_P D vwCl ([(r0, .inl (E 2, n + 1, .inl z0)), ((E 5), .inr (0, [.ref kb, .int 0, kh, kz])), (kb, .inl (E 0, 0, .inl z0)), (q, .inr (0, [.ref b, .int 0, .int 0, .int 0])), (b, .inl (E 0, k + 1, .inl z0))] ++ G) H ∧ va_D A ([(r0, .inl (E 2, n + 1, .inl z0)), ((E 5), .inr (0, [.ref kb, .int 0, kh, kz])), (kb, .inl (E 0, 0, .inl z0)), (q, .inr (0, [.ref b, .int 0, .int 0, .int 0])), (b, .inl (E 0, k + 1, .inl z0))] ++ G) ∧ va_S A s.heap H locs ∧ rf_tri (k + 1) ≤ gs G) ⟨rs, u, [], hl, hP, hD, hS, Nat.le_refl 0⟩ ?_ ?_
  · intro H locs ls hI
    obtain ⟨q, b, G, hl, hP, hD, hS, hg⟩ := hI
    refine lv_iload hx hb dX3_text_11 (lv_at hl 3 rfl) ?_
    refine lv_iload_n hx hb dX3_text_13 rfl (lv_at hl 2 rfl) ?_
    refine lv_icmp_ge (tgt := 50) hx hb dX3_text_14 rfl (fun _ => ?_) (fun h => absurd (show nI (n + 1) ≤ nI (n + 1) from nI_le (by omega) (by omega)) h)
    refine lv_aload_n hx hb dX3_text_50 rfl (lv_at hl 0 rfl) ?_
    refine W.widen (k := 1400) (n := 700000) (by omega) (by omega) ?_
    exact W.aret (v := .ref q) hx hb hr (Or.inl ⟨_, rfl⟩) (Or.inr ⟨_, rfl⟩) (fun t ht hW => ⟨⟨(b, G), q, rfl, hg, rf_end ht hP hD⟩, hS.F ht⟩) hS.2.2 dX3_text_51
  · intro k H locs ls hkN hI kk
    obtain ⟨q, b, G, hl, hP, hD, hS, hg⟩ := hI
    refine lv_iload hx hb dX3_text_11 (lv_at hl 3 rfl) ?_
    refine lv_iload_n hx hb dX3_text_13 rfl (lv_at hl 2 rfl) ?_
    refine lv_icmp_ge (tgt := 50) hx hb dX3_text_14 rfl (fun h => absurd h (show ¬ nI (n + 1) ≤ nI (k + 1) from nI_ge (by omega) (by omega))) (fun _ => ?_)
    refine lv_aload_n hx hb dX3_text_17 rfl (lv_at hl 1 rfl) ?_
    refine lv_iload hx hb dX3_text_18 (lv_at hl 3 rfl) ?_
    refine va_iald hx hb hK hP 0 2 rfl rfl (vp_in_nI (by omega) (by omega)) dX3_text_20 (W.eq (g2 := F0 mI 21 ls (.int 0 :: [])) rfl ?_)
    refine lv_istore hx hb dX3_text_21 hl (Nat.le_of_ble_eq_true rfl) rfl (fun ls hl => ?_)
    have hl : lv_has ls 6 [(5, .int (0)), (1, .ref q), (2, .ref r0), (3, .int (nI (n + 1))), (4, .int (nI (k + 1)))] := hl
    have h_1 : 6 + k * 6 + 1 ≤ 1400 := by omega
    have h_2 : 3024 + k * 3024 + 4 ≤ 700000 := by omega
    refine va_new (ci := 1) (fs := [.null, .int 0, .int 0, .int 0]) (C := RJ4) (T := TJ4) (N := 4) hx hb hts (by decide +kernel) tyJ4 tyJ4_ok hown (hts (.classLink RX3 52 RJ4) (by decide +kernel)) (hts (.instantiable RJ4 4) (by decide +kernel)) (hts (.initialized RJ4) (by decide +kernel)) hK hP hD hS hA rfl (fun j hj => by rcases (show j = 0 ∨ j = 1 ∨ j = 2 ∨ j = 3 by omega) with rfl | rfl | rfl | rfl <;> rfl) h_1 h_2 dX3_text_23 (fun qs H hP hD hS => ?_)
    have hP := va_P.swap hP
    have hD := va_D.swap hD
    have hP : va_P D vwCl ([(r0, .inl (E 2, n + 1, .inl z0)), ((E 5), .inr (0, [.ref kb, .int 0, kh, kz])), (kb, .inl (E 0, 0, .inl z0)), (q, .inr (0, [.ref b, .int 0, .int 0, .int 0])), (b, .inl (E 0, k + 1, .inl z0)), (qs, .inr (1, [.null, .int 0, .int 0, .int 0]))] ++ G) H := hP
    have hD : va_D A ([(r0, .inl (E 2, n + 1, .inl z0)), ((E 5), .inr (0, [.ref kb, .int 0, kh, kz])), (kb, .inl (E 0, 0, .inl z0)), (q, .inr (0, [.ref b, .int 0, .int 0, .int 0])), (b, .inl (E 0, k + 1, .inl z0)), (qs, .inr (1, [.null, .int 0, .int 0, .int 0]))] ++ G) := hD
    refine W.widen (k := 6 + k * 6 + 1) (n := 3024 + k * 3024 + 4) (by omega) (by omega) ?_
    refine lv_dup hx hb dX3_text_26 rfl ?_
    have hPc := hP.sub (ws' := [(qs, .inr (1, [.null, .int 0, .int 0, .int 0]))]) [5] rfl
    have hDc := hD.sub (ws' := [(qs, .inr (1, [.null, .int 0, .int 0, .int 0]))]) [5] (by decide) rfl
    have hFc := va_free (wc := [(qs, .inr (1, [.null, .int 0, .int 0, .int 0]))]) hD hS hA [5] rfl
    have h_1 : 6 + k * 6 + 1 + 1 ≤ 1400 := by omega
    have h_2 : 3024 + k * 3024 + 4 + 16 ≤ 700000 := by omega
    refine va_callv (va_runI (As := []) (rest := [.ref qs]) ⟨hx, hb, hml, hown, hts⟩ (c_J4_init_da8c8 l D E H.size (qs)) (cwI 0 hts gX3_text_J4_init_da8c8 rfl rfl rfl (hts (.initialized RJ4) (by decide +kernel)) (hts (.methodLink RX3 54 yJ4_init_da8c8) (by decide +kernel)) (hts (.instanceMethod yJ4_init_da8c8) (by decide +kernel)) rfl (by decide +kernel) ⟨Nat.le_of_ble_eq_true rfl, Nat.le_of_ble_eq_true rfl⟩) ⟨rf_blind _, fun U hU hW => ⟨rfl, rf_pre hK hPc hDc hZ hN hS hFc U hU hW⟩⟩ rfl rfl hl.1 rfl (lv_room (Nat.le_of_ble_eq_true rfl)) dX3_text_27 ⟨h_1, h_2⟩) hS (fun q _ h => hFc q h) hFc (fun u t H1 locs ht hvm hw hB hz1 hk1 hS => ?_)
    obtain ⟨hP1, hD1⟩ := hB
    rw [ht] at hP1
    try dsimp only at hw hP1 hD1
    obtain ⟨hP, hD⟩ := va_joinQ (X := [(r0, .inl (E 2, n + 1, .inl z0)), ((E 5), .inr (0, [.ref kb, .int 0, kh, kz])), (kb, .inl (E 0, 0, .inl z0)), (q, .inr (0, [.ref b, .int 0, .int 0, .int 0])), (b, .inl (E 0, k + 1, .inl z0)), (qs, .inr (1, [.null, .int 0, .int 0, .int 0]))]) (cx := [(qs, .inr (1, [.null, .int 0, .int 0, .int 0]))]) (pl := G) (wr := [(r0, .inl (E 2, n + 1, .inl z0)), ((E 5), .inr (0, [.ref kb, .int 0, kh, kz])), (kb, .inl (E 0, 0, .inl z0)), (q, .inr (0, [.ref b, .int 0, .int 0, .int 0])), (b, .inl (E 0, k + 1, .inl z0))]) (w1 := [(qs, .inr (1, [.ref u, .int 0, .int 0, .int 0])), (u, .inl (E 0, 16, .inl z0))]) hP hD [5] [0, 1, 2, 3, 4] rfl rfl (by decide) (by decide) hk1 hFc hP1 hD1
    clear hPc hDc hFc hP1 hD1 hk1 hz1 ht
    generalize H1 = H at hP hS ⊢
    have hP : va_P D vwCl ([(r0, .inl (E 2, n + 1, .inl z0)), ((E 5), .inr (0, [.ref kb, .int 0, kh, kz])), (kb, .inl (E 0, 0, .inl z0)), (q, .inr (0, [.ref b, .int 0, .int 0, .int 0])), (b, .inl (E 0, k + 1, .inl z0)), (qs, .inr (1, [.ref u, .int 0, .int 0, .int 0])), (u, .inl (E 0, 16, .inl z0))] ++ G) H := hP
    have hD : va_D A ([(r0, .inl (E 2, n + 1, .inl z0)), ((E 5), .inr (0, [.ref kb, .int 0, kh, kz])), (kb, .inl (E 0, 0, .inl z0)), (q, .inr (0, [.ref b, .int 0, .int 0, .int 0])), (b, .inl (E 0, k + 1, .inl z0)), (qs, .inr (1, [.ref u, .int 0, .int 0, .int 0])), (u, .inl (E 0, 16, .inl z0))] ++ G) := hD
    refine W.widen (k := 6 + k * 6 + 2) (n := 3024 + k * 3024 + 20) (by omega) (by omega) ?_
    refine lv_aload_n hx hb dX3_text_30 rfl (lv_at hl 1 rfl) ?_
    have hPc := hP.sub (ws' := [(qs, .inr (1, [.ref u, .int 0, .int 0, .int 0])), (u, .inl (E 0, 16, .inl z0)), (q, .inr (0, [.ref b, .int 0, .int 0, .int 0])), (b, .inl (E 0, k + 1, .inl z0))]) [5, 6, 3, 4] rfl
    have hDc := hD.sub (ws' := [(qs, .inr (1, [.ref u, .int 0, .int 0, .int 0])), (u, .inl (E 0, 16, .inl z0)), (q, .inr (0, [.ref b, .int 0, .int 0, .int 0])), (b, .inl (E 0, k + 1, .inl z0))]) [5, 6, 3, 4] (by decide) rfl
    have hFc := va_free (wc := [(qs, .inr (1, [.ref u, .int 0, .int 0, .int 0])), (u, .inl (E 0, 16, .inl z0)), (q, .inr (0, [.ref b, .int 0, .int 0, .int 0])), (b, .inl (E 0, k + 1, .inl z0))]) hD hS hA [5, 6, 3, 4] rfl
    have h_1 : 6 + k * 6 + 2 + 1 ≤ 1400 := by omega
    have h_2 : 3024 + k * 3024 + 20 + 1000 ≤ 700000 := by omega
    refine va_callr (va_runV (As := [.ref q]) (rest := []) ⟨hx, hb, hml, hown, hts⟩ (c_J4_append_15ec4 l D E H.size (qs) (u) (q) (b) ((k + 1)) (16) (.int 0) (.int 0) (.int 0) (by omega) (by omega)) (cwV 1 hts gX3_text_J4_append_15ec4 rfl rfl rfl (by decide +kernel) ⟨Nat.le_of_ble_eq_true rfl, Nat.le_of_ble_eq_true rfl⟩) ⟨rf_blind _, va_recv hK hPc (ci := 1) (q0 := 0) rfl rfl, fun U hU hW => ⟨rfl, rf_pre hK hPc hDc hZ hN hS hFc U hU hW⟩⟩ rfl rfl hl.1 rfl (lv_room (Nat.le_of_ble_eq_true rfl)) dX3_text_31 ⟨h_1, h_2⟩) hS (fun q _ h => hFc q h) hFc (fun u ra t H1 locs ht hvm hw hB hz1 hk1 hS => ?_)
    obtain ⟨m2, b2⟩ := u
    obtain ⟨hra, hP1, hD1⟩ := hB
    try dsimp only at hra
    subst ra
    rw [ht] at hP1
    try dsimp only at hw hP1 hD1
    obtain ⟨hw1, hw2⟩ := hw
    obtain ⟨hP, hD⟩ := va_joinQ (X := [(r0, .inl (E 2, n + 1, .inl z0)), ((E 5), .inr (0, [.ref kb, .int 0, kh, kz])), (kb, .inl (E 0, 0, .inl z0)), (q, .inr (0, [.ref b, .int 0, .int 0, .int 0])), (b, .inl (E 0, k + 1, .inl z0)), (qs, .inr (1, [.ref u, .int 0, .int 0, .int 0])), (u, .inl (E 0, 16, .inl z0))]) (cx := [(qs, .inr (1, [.ref u, .int 0, .int 0, .int 0])), (u, .inl (E 0, 16, .inl z0)), (q, .inr (0, [.ref b, .int 0, .int 0, .int 0])), (b, .inl (E 0, k + 1, .inl z0))]) (pl := G) (wr := [(r0, .inl (E 2, n + 1, .inl z0)), ((E 5), .inr (0, [.ref kb, .int 0, kh, kz])), (kb, .inl (E 0, 0, .inl z0))]) (w1 := [(qs, .inr (1, [.ref b2, .int 0, .int 0, .int (nI ((k + 1)))])), (b2, .inl (E 0, m2, .inl z0)), (q, .inr (0, [.ref b, .int 0, .int 0, .int 0])), (b, .inl (E 0, (k + 1), .inl z0))]) hP hD [5, 6, 3, 4] [0, 1, 2] rfl rfl (by decide) (by decide) hk1 hFc hP1 hD1
    clear hPc hDc hFc hP1 hD1 hk1 hz1 ht
    generalize H1 = H at hP hS ⊢
    have hP : va_P D vwCl ([(r0, .inl (E 2, n + 1, .inl z0)), ((E 5), .inr (0, [.ref kb, .int 0, kh, kz])), (kb, .inl (E 0, 0, .inl z0)), (qs, .inr (1, [.ref b2, .int 0, .int 0, .int (nI ((k + 1)))])), (b2, .inl (E 0, m2, .inl z0)), (q, .inr (0, [.ref b, .int 0, .int 0, .int 0])), (b, .inl (E 0, (k + 1), .inl z0))] ++ G) H := hP
    have hD : va_D A ([(r0, .inl (E 2, n + 1, .inl z0)), ((E 5), .inr (0, [.ref kb, .int 0, kh, kz])), (kb, .inl (E 0, 0, .inl z0)), (qs, .inr (1, [.ref b2, .int 0, .int 0, .int (nI ((k + 1)))])), (b2, .inl (E 0, m2, .inl z0)), (q, .inr (0, [.ref b, .int 0, .int 0, .int 0])), (b, .inl (E 0, (k + 1), .inl z0))] ++ G) := hD
    refine W.widen (k := 6 + k * 6 + 3) (n := 3024 + k * 3024 + 1020) (by omega) (by omega) ?_
    refine lv_iload hx hb dX3_text_34 (lv_at hl 0 rfl) ?_
    refine lv_i2c (v := 0) hx hb dX3_text_36 (by decide) ?_
    have hPc := hP.sub (ws' := [(qs, .inr (1, [.ref b2, .int 0, .int 0, .int (nI ((k + 1)))])), (b2, .inl (E 0, m2, .inl z0))]) [3, 4] rfl
    have hDc := hD.sub (ws' := [(qs, .inr (1, [.ref b2, .int 0, .int 0, .int (nI ((k + 1)))])), (b2, .inl (E 0, m2, .inl z0))]) [3, 4] (by decide) rfl
    have hFc := va_free (wc := [(qs, .inr (1, [.ref b2, .int 0, .int 0, .int (nI ((k + 1)))])), (b2, .inl (E 0, m2, .inl z0))]) hD hS hA [3, 4] rfl
    have h_1 : 6 + k * 6 + 3 + 1 ≤ 1400 := by omega
    have h_2 : 3024 + k * 3024 + 1020 + 1000 ≤ 700000 := by omega
    refine va_callr (va_runV (As := [.int (0)]) (rest := []) ⟨hx, hb, hml, hown, hts⟩ (c_J4_append_cf468 l D E H.size (qs) (b2) ((k + 1)) (m2) (.int 0) (by omega) (by omega)) (cwV 1 hts gX3_text_J4_append_cf468 rfl rfl rfl (by decide +kernel) ⟨Nat.le_of_ble_eq_true rfl, Nat.le_of_ble_eq_true rfl⟩) ⟨rf_blind _, va_recv hK hPc (ci := 1) (q0 := 0) rfl rfl, fun U hU hW => ⟨rfl, rf_pre hK hPc hDc hZ hN hS hFc U hU hW⟩⟩ rfl rfl hl.1 rfl (lv_room (Nat.le_of_ble_eq_true rfl)) dX3_text_37 ⟨h_1, h_2⟩) hS (fun q _ h => hFc q h) hFc (fun u ra t H1 locs ht hvm hw hB hz1 hk1 hS => ?_)
    obtain ⟨m3, b3⟩ := u
    obtain ⟨hra, hP1, hD1⟩ := hB
    try dsimp only at hra
    subst ra
    rw [ht] at hP1
    try dsimp only at hw hP1 hD1
    obtain ⟨hw3, hw4⟩ := hw
    obtain ⟨hP, hD⟩ := va_joinQ (X := [(r0, .inl (E 2, n + 1, .inl z0)), ((E 5), .inr (0, [.ref kb, .int 0, kh, kz])), (kb, .inl (E 0, 0, .inl z0)), (qs, .inr (1, [.ref b2, .int 0, .int 0, .int (nI ((k + 1)))])), (b2, .inl (E 0, m2, .inl z0)), (q, .inr (0, [.ref b, .int 0, .int 0, .int 0])), (b, .inl (E 0, (k + 1), .inl z0))]) (cx := [(qs, .inr (1, [.ref b2, .int 0, .int 0, .int (nI ((k + 1)))])), (b2, .inl (E 0, m2, .inl z0))]) (pl := G) (wr := [(r0, .inl (E 2, n + 1, .inl z0)), ((E 5), .inr (0, [.ref kb, .int 0, kh, kz])), (kb, .inl (E 0, 0, .inl z0)), (q, .inr (0, [.ref b, .int 0, .int 0, .int 0])), (b, .inl (E 0, (k + 1), .inl z0))]) (w1 := [(qs, .inr (1, [.ref b3, .int 0, .int 0, .int (nI ((k + 1) + 1))])), (b3, .inl (E 0, m3, .inl z0))]) hP hD [3, 4] [0, 1, 2, 5, 6] rfl rfl (by decide) (by decide) hk1 hFc hP1 hD1
    clear hPc hDc hFc hP1 hD1 hk1 hz1 ht
    generalize H1 = H at hP hS ⊢
    have hP : va_P D vwCl ([(r0, .inl (E 2, n + 1, .inl z0)), ((E 5), .inr (0, [.ref kb, .int 0, kh, kz])), (kb, .inl (E 0, 0, .inl z0)), (q, .inr (0, [.ref b, .int 0, .int 0, .int 0])), (b, .inl (E 0, (k + 1), .inl z0)), (qs, .inr (1, [.ref b3, .int 0, .int 0, .int (nI ((k + 1) + 1))])), (b3, .inl (E 0, m3, .inl z0))] ++ G) H := hP
    have hD : va_D A ([(r0, .inl (E 2, n + 1, .inl z0)), ((E 5), .inr (0, [.ref kb, .int 0, kh, kz])), (kb, .inl (E 0, 0, .inl z0)), (q, .inr (0, [.ref b, .int 0, .int 0, .int 0])), (b, .inl (E 0, (k + 1), .inl z0)), (qs, .inr (1, [.ref b3, .int 0, .int 0, .int (nI ((k + 1) + 1))])), (b3, .inl (E 0, m3, .inl z0))] ++ G) := hD
    refine W.widen (k := 6 + k * 6 + 4) (n := 3024 + k * 3024 + 2020) (by omega) (by omega) ?_
    have hPc := hP.sub (ws' := [(qs, .inr (1, [.ref b3, .int 0, .int 0, .int (nI ((k + 1) + 1))])), (b3, .inl (E 0, m3, .inl z0))]) [5, 6] rfl
    have hDc := hD.sub (ws' := [(qs, .inr (1, [.ref b3, .int 0, .int 0, .int (nI ((k + 1) + 1))])), (b3, .inl (E 0, m3, .inl z0))]) [5, 6] (by decide) rfl
    have hFc := va_free (wc := [(qs, .inr (1, [.ref b3, .int 0, .int 0, .int (nI ((k + 1) + 1))])), (b3, .inl (E 0, m3, .inl z0))]) hD hS hA [5, 6] rfl
    have h_1 : 6 + k * 6 + 4 + 2 ≤ 1400 := by omega
    have h_2 : 3024 + k * 3024 + 2020 + 1004 ≤ 700000 := by omega
    refine va_callr (va_runV (As := []) (rest := []) ⟨hx, hb, hml, hown, hts⟩ (c_J4_toString_0e30d l D E H.size (qs) (b3) ((k + 1) + 1) (m3) (.int 0) (by omega) (by omega)) (cwV 0 hts gX3_text_J4_toString_0e30d rfl rfl rfl (by decide +kernel) ⟨Nat.le_of_ble_eq_true rfl, Nat.le_of_ble_eq_true rfl⟩) ⟨rf_blind _, va_recv hK hPc (ci := 1) (q0 := 0) rfl rfl, fun U hU hW => ⟨rfl, rf_pre hK hPc hDc hZ hN hS hFc U hU hW⟩⟩ rfl rfl hl.1 rfl (lv_room (Nat.le_of_ble_eq_true rfl)) dX3_text_40 ⟨h_1, h_2⟩) hS (fun q _ h => hFc q h) hFc (fun u rs t H1 locs ht hvm hw hB hz1 hk1 hS => ?_)
    obtain ⟨hP1, hD1⟩ := hB
    rw [ht] at hP1
    try dsimp only at hw hP1 hD1
    obtain ⟨hP, hD⟩ := va_joinQ (X := [(r0, .inl (E 2, n + 1, .inl z0)), ((E 5), .inr (0, [.ref kb, .int 0, kh, kz])), (kb, .inl (E 0, 0, .inl z0)), (q, .inr (0, [.ref b, .int 0, .int 0, .int 0])), (b, .inl (E 0, (k + 1), .inl z0)), (qs, .inr (1, [.ref b3, .int 0, .int 0, .int (nI ((k + 1) + 1))])), (b3, .inl (E 0, m3, .inl z0))]) (cx := [(qs, .inr (1, [.ref b3, .int 0, .int 0, .int (nI ((k + 1) + 1))])), (b3, .inl (E 0, m3, .inl z0))]) (pl := G) (wr := [(r0, .inl (E 2, n + 1, .inl z0)), ((E 5), .inr (0, [.ref kb, .int 0, kh, kz])), (kb, .inl (E 0, 0, .inl z0)), (q, .inr (0, [.ref b, .int 0, .int 0, .int 0])), (b, .inl (E 0, (k + 1), .inl z0))]) (w1 := [(rs, .inr (0, [.ref u, .int 0, .int 0, .int 0])), (u, .inl (E 0, (k + 1) + 1, .inl z0)), (qs, .inr (1, [.ref b3, .int 0, .int 0, .int (nI ((k + 1) + 1))])), (b3, .inl (E 0, m3, .inl z0))]) hP hD [5, 6] [0, 1, 2, 3, 4] rfl rfl (by decide) (by decide) hk1 hFc hP1 hD1
    clear hPc hDc hFc hP1 hD1 hk1 hz1 ht
    generalize H1 = H at hP hS ⊢
    have hP : va_P D vwCl ([(r0, .inl (E 2, n + 1, .inl z0)), ((E 5), .inr (0, [.ref kb, .int 0, kh, kz])), (kb, .inl (E 0, 0, .inl z0)), (q, .inr (0, [.ref b, .int 0, .int 0, .int 0])), (b, .inl (E 0, (k + 1), .inl z0)), (rs, .inr (0, [.ref u, .int 0, .int 0, .int 0])), (u, .inl (E 0, (k + 1) + 1, .inl z0)), (qs, .inr (1, [.ref b3, .int 0, .int 0, .int (nI ((k + 1) + 1))])), (b3, .inl (E 0, m3, .inl z0))] ++ G) H := hP
    have hD : va_D A ([(r0, .inl (E 2, n + 1, .inl z0)), ((E 5), .inr (0, [.ref kb, .int 0, kh, kz])), (kb, .inl (E 0, 0, .inl z0)), (q, .inr (0, [.ref b, .int 0, .int 0, .int 0])), (b, .inl (E 0, (k + 1), .inl z0)), (rs, .inr (0, [.ref u, .int 0, .int 0, .int 0])), (u, .inl (E 0, (k + 1) + 1, .inl z0)), (qs, .inr (1, [.ref b3, .int 0, .int 0, .int (nI ((k + 1) + 1))])), (b3, .inl (E 0, m3, .inl z0))] ++ G) := hD
    refine W.widen (k := 6 + k * 6 + 6) (n := 3024 + k * 3024 + 3024) (by omega) (by omega) ?_
    refine lv_astore_n hx hb dX3_text_43 rfl hl (Nat.le_of_ble_eq_true rfl) rfl (fun ls hl => ?_)
    have hl : lv_has ls 6 [(1, .ref rs), (5, .int (0)), (2, .ref r0), (3, .int (nI (n + 1))), (4, .int (nI (k + 1)))] := hl
    refine lv_iinc (v := nI (k + 1 + 1)) hx hb dX3_text_44 hl (k := 4) rfl ((show nI (k + 1) + Int32.ofInt 1 = nI (k + 1) + nI 1 from rfl).trans ((nI_add _ _).trans (congrArg nI (by omega)))) (Nat.le_of_ble_eq_true rfl) rfl (fun ls hl => ?_)
    have hl : lv_has ls 6 [(4, .int (nI (k + 1 + 1))), (1, .ref rs), (5, .int (0)), (2, .ref r0), (3, .int (nI (n + 1)))] := hl
    have hl : lv_has ls 6 [(1, .ref rs), (2, .ref r0), (3, .int (nI (n + 1))), (4, .int (nI (k + 1 + 1)))] := lv_sub hl [1, 3, 4, 0] rfl
    have hD := va_D.part (X := [(r0, .inl (E 2, n + 1, .inl z0)), ((E 5), .inr (0, [.ref kb, .int 0, kh, kz])), (kb, .inl (E 0, 0, .inl z0)), (q, .inr (0, [.ref b, .int 0, .int 0, .int 0])), (b, .inl (E 0, (k + 1), .inl z0)), (rs, .inr (0, [.ref u, .int 0, .int 0, .int 0])), (u, .inl (E 0, (k + 1) + 1, .inl z0)), (qs, .inr (1, [.ref b3, .int 0, .int 0, .int (nI ((k + 1) + 1))])), (b3, .inl (E 0, m3, .inl z0))]) (cx := [(r0, .inl (E 2, n + 1, .inl z0)), ((E 5), .inr (0, [.ref kb, .int 0, kh, kz])), (kb, .inl (E 0, 0, .inl z0)), (rs, .inr (0, [.ref u, .int 0, .int 0, .int 0])), (u, .inl (E 0, k + 1 + 1, .inl z0)), (b, .inl (E 0, k + 1, .inl z0))]) (pl := G) hD [0, 1, 2, 5, 6, 4] (by decide) rfl
    have hP := va_P.part (X := [(r0, .inl (E 2, n + 1, .inl z0)), ((E 5), .inr (0, [.ref kb, .int 0, kh, kz])), (kb, .inl (E 0, 0, .inl z0)), (q, .inr (0, [.ref b, .int 0, .int 0, .int 0])), (b, .inl (E 0, (k + 1), .inl z0)), (rs, .inr (0, [.ref u, .int 0, .int 0, .int 0])), (u, .inl (E 0, (k + 1) + 1, .inl z0)), (qs, .inr (1, [.ref b3, .int 0, .int 0, .int (nI ((k + 1) + 1))])), (b3, .inl (E 0, m3, .inl z0))]) (cx := [(r0, .inl (E 2, n + 1, .inl z0)), ((E 5), .inr (0, [.ref kb, .int 0, kh, kz])), (kb, .inl (E 0, 0, .inl z0)), (rs, .inr (0, [.ref u, .int 0, .int 0, .int 0])), (u, .inl (E 0, k + 1 + 1, .inl z0)), (b, .inl (E 0, k + 1, .inl z0))]) (pl := G) hP [0, 1, 2, 5, 6, 4] rfl
    have hP : va_P D vwCl ([(r0, .inl (E 2, n + 1, .inl z0)), ((E 5), .inr (0, [.ref kb, .int 0, kh, kz])), (kb, .inl (E 0, 0, .inl z0)), (rs, .inr (0, [.ref u, .int 0, .int 0, .int 0])), (u, .inl (E 0, k + 1 + 1, .inl z0))] ++ ((b, .inl (E 0, k + 1, .inl z0)) :: G)) H := hP
    have hD : va_D A ([(r0, .inl (E 2, n + 1, .inl z0)), ((E 5), .inr (0, [.ref kb, .int 0, kh, kz])), (kb, .inl (E 0, 0, .inl z0)), (rs, .inr (0, [.ref u, .int 0, .int 0, .int 0])), (u, .inl (E 0, k + 1 + 1, .inl z0))] ++ ((b, .inl (E 0, k + 1, .inl z0)) :: G)) := hD
    refine lv_goto (tgt := 11) hx hb dX3_text_47 rfl ?_
    refine W.widen (k := 6 + (k + 1) * 6) (n := 3024 + (k + 1) * 3024) (by omega) (by omega) ?_
    exact kk _ _ _ ⟨rs, u, ((b, .inl (E 0, k + 1, .inl z0)) :: G), hl, hP, hD, hS, (by show rf_tri (k + 1) + (k + 1) ≤ (k + 1) + gs G; omega)⟩
