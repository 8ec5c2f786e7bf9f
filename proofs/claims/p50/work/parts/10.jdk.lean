set_option maxHeartbeats 4000000 in
set_option maxRecDepth 100000 in
/-- String.coder: 0 -/
theorem c_J0_coder_7d493 (l : Launch) (D : va_G) (E : Nat → ClassId) (sz : Nat) (h0 : Nat) (v0 v2 v3 : Value)  : Met l yJ0_coder_7d493 wsJ0_coder_7d493 ({ frames := 2, cells := 0, slots := 0, locals := 200 }) (va_Pc [.ref h0] (rf_P D E [(h0, .inr (0, [v0, .int 0, v2, v3]))] sz)) (va_Qi (fun (r : Int32) (u : Unit) => r = 0) (fun (u : Unit) (t : State) => rf_B D (va_A [(h0, .inr (0, [v0, .int 0, v2, v3]))] sz) [(h0, .inr (0, [v0, .int 0, v2, v3]))] t) (va_A [(h0, .inr (0, [v0, .int 0, v2, v3]))] sz)) 0 0 (va_A [(h0, .inr (0, [v0, .int 0, v2, v3]))] sz) := by
  refine Met.ofW (cc := cJ0_coder_7d493) (maxL := 1) (ret := (some .byte)) (by decide) rfl ?_
  intro p e s mI args below meth c s₁ B hml hv
  obtain ⟨rfl, hsz, hP, hK, hD0, hZ, hN⟩ := hv
  have hx := B.exec
  have hb := B.bytes
  have hr := B.returns
  have hts := atoms_spec (ws := wsJ0_coder_7d493) B.pre
  have hown : s.vm.findClass RJ0 = some mI.cls := findClass_of_methodNamed B.named
  have hlocks := B.notSynchronized
  subst hsz
  have hD := hD0.self (sz := s.heap.size)
  generalize hAe : va_A [(h0, .inr (0, [v0, .int 0, v2, v3]))] s.heap.size = A at hD hZ ⊢
  have hA : ∀ q : Nat, s.heap.size ≤ q → A q := fun q h => by rw [← hAe]; exact Or.inr h
  have hS : va_S A s.heap s.heap [] := va_S.rf
  have hl := lv_entry ([.ref h0]) (n := 1) (Nat.le_of_ble_eq_true rfl)
  rw [lg_entry_eq]
  generalize (lg_sl ([.ref h0]) ++ List.replicate (1 - (lg_sl ([.ref h0])).length) Slot.unset).toArray = ls at hl ⊢
  clear hAe hD0
  have hl : lv_has ls 1 [(0, .ref h0)] := hl
  obtain ⟨H, hH⟩ : ∃ H, H = s.heap := ⟨_, rfl⟩
  rw [← hH] at hP
  have hS : va_S A s.heap H [] := by rw [hH]; exact hS
  refine rf_heap hH ?_
  refine va_gets hx hb hZ hS hown (hts (.fieldLink RJ0 38 "java/lang/String" "COMPACT_STRINGS" "Z") (by decide +kernel)) (fun _ h9 => h9) dJ0_coder_7d493_0 ?_
  refine lv_if_eq (tgt := 13) hx hb dJ0_coder_7d493_3 rfl (fun h => absurd h (by decide)) (fun _ => ?_)
  refine lv_aload_n hx hb dJ0_coder_7d493_6 rfl (lv_at hl 0 rfl) ?_
  refine va_get (D := D) (ci := 0) (v := .int 0) (C := RJ0) (T := TJ0) (N := 4) hx hb hts (by decide +kernel) hown hK hP 0 rfl rfl 1 (by decide) (hts (.fieldLink RJ0 15 "java/lang/String" "coder" "B") (by decide +kernel)) (fun _ h9 => h9) rfl dJ0_coder_7d493_7 ?_
  refine lv_goto (tgt := 14) hx hb dJ0_coder_7d493_10 rfl ?_
  exact W.zret (v := 0) hx hb hr (by decide +kernel) (fun t ht hW => ⟨⟨0, (), rfl, rfl, rf_end ht hP hD⟩, hS.F ht⟩) hS.2.2 dJ0_coder_7d493_14
set_option maxHeartbeats 4000000 in
set_option maxRecDepth 100000 in
/-- String.length -/
theorem c_J0_length_8abf5 (l : Launch) (D : va_G) (E : Nat → ClassId) (sz : Nat) (h0 b0 n : Nat) (v2 v3 : Value) (hn : n ≤ 1000) : Met l yJ0_length_8abf5 wsJ0_length_8abf5 ({ frames := 3, cells := 0, slots := 0, locals := 400 }) (va_Pc [.ref h0] (rf_P D E [(h0, .inr (0, [.ref b0, .int 0, v2, v3])), (b0, .inl (E 0, n, .inl z0))] sz)) (va_Qi (fun (r : Int32) (u : Unit) => r = nI n) (fun (u : Unit) (t : State) => rf_B D (va_A [(h0, .inr (0, [.ref b0, .int 0, v2, v3])), (b0, .inl (E 0, n, .inl z0))] sz) [(h0, .inr (0, [.ref b0, .int 0, v2, v3])), (b0, .inl (E 0, n, .inl z0))] t) (va_A [(h0, .inr (0, [.ref b0, .int 0, v2, v3])), (b0, .inl (E 0, n, .inl z0))] sz)) 0 0 (va_A [(h0, .inr (0, [.ref b0, .int 0, v2, v3])), (b0, .inl (E 0, n, .inl z0))] sz) := by
  refine Met.ofW (cc := cJ0_length_8abf5) (maxL := 1) (ret := (some .int)) (by decide) rfl ?_
  intro p e s mI args below meth c s₁ B hml hv
  obtain ⟨rfl, hsz, hP, hK, hD0, hZ, hN⟩ := hv
  have hx := B.exec
  have hb := B.bytes
  have hr := B.returns
  have hts := atoms_spec (ws := wsJ0_length_8abf5) B.pre
  have hown : s.vm.findClass RJ0 = some mI.cls := findClass_of_methodNamed B.named
  have hlocks := B.notSynchronized
  subst hsz
  have hD := hD0.self (sz := s.heap.size)
  generalize hAe : va_A [(h0, .inr (0, [.ref b0, .int 0, v2, v3])), (b0, .inl (E 0, n, .inl z0))] s.heap.size = A at hD hZ ⊢
  have hA : ∀ q : Nat, s.heap.size ≤ q → A q := fun q h => by rw [← hAe]; exact Or.inr h
  have hS : va_S A s.heap s.heap [] := va_S.rf
  have hl := lv_entry ([.ref h0]) (n := 1) (Nat.le_of_ble_eq_true rfl)
  rw [lg_entry_eq]
  generalize (lg_sl ([.ref h0]) ++ List.replicate (1 - (lg_sl ([.ref h0])).length) Slot.unset).toArray = ls at hl ⊢
  clear hAe hD0
  have hl : lv_has ls 1 [(0, .ref h0)] := hl
  obtain ⟨H, hH⟩ : ∃ H, H = s.heap := ⟨_, rfl⟩
  rw [← hH] at hP
  have hS : va_S A s.heap H [] := by rw [hH]; exact hS
  refine rf_heap hH ?_
  refine lv_aload_n hx hb dJ0_length_8abf5_0 rfl (lv_at hl 0 rfl) ?_
  refine va_get (D := D) (ci := 0) (v := .ref b0) (C := RJ0) (T := TJ0) (N := 4) hx hb hts (by decide +kernel) hown hK hP 0 rfl rfl 0 (by decide) (hts (.fieldLink RJ0 9 "java/lang/String" "value" "[B") (by decide +kernel)) (fun _ h9 => h9) rfl dJ0_length_8abf5_1 ?_
  refine va_alen (v := nI (n)) hx hb hK hP 1 0 rfl rfl rfl dJ0_length_8abf5_4 ?_
  refine lv_aload_n hx hb dJ0_length_8abf5_5 rfl (lv_at hl 0 rfl) ?_
  have hPc := hP.sub (ws' := [(h0, .inr (0, [.ref b0, .int 0, v2, v3]))]) [0] rfl
  have hDc := hD.sub (ws' := [(h0, .inr (0, [.ref b0, .int 0, v2, v3]))]) [0] (by decide) rfl
  have hFc := va_free (wc := [(h0, .inr (0, [.ref b0, .int 0, v2, v3]))]) hD hS hA [0] rfl
  have h_1 : 0 + 0 ≤ 0 := by omega
  have h_2 : 0 + 0 ≤ 0 := by omega
  refine va_calli (va_runV (As := []) (rest := [.int (nI (n))]) ⟨hx, hb, hml, hown, hts⟩ (c_J0_coder_7d493 l D E H.size (h0) (.ref b0) (v2) (v3)) (cwV 0 hts gJ0_length_8abf5_J0_coder_7d493 rfl rfl rfl (by decide +kernel) ⟨Nat.le_of_ble_eq_true rfl, Nat.le_of_ble_eq_true rfl⟩) ⟨rf_blind _, va_recv hK hPc (ci := 0) (q0 := 0) rfl rfl, fun U hU hW => ⟨rfl, rf_pre hK hPc hDc hZ hN hS hFc U hU hW⟩⟩ rfl rfl hl.1 rfl (lv_room (Nat.le_of_ble_eq_true rfl)) dJ0_length_8abf5_6 ⟨h_1, h_2⟩) hS (fun q _ h => hFc q h) hFc (fun r u t H1 locs ht hvm hw hB hz1 hk1 hS => ?_)
  obtain ⟨hP1, hD1⟩ := hB
  rw [ht] at hP1
  try dsimp only at hw hP1 hD1
  obtain rfl := hw
  obtain ⟨hP, hD⟩ := va_join (wr := [(b0, .inl (E 0, n, .inl z0))]) (w1 := [(h0, .inr (0, [.ref b0, .int 0, v2, v3]))]) hP hD [0] [1] rfl rfl (by decide) (by decide) hk1 hFc hP1 hD1
  clear hPc hDc hFc hP1 hD1 hk1 hz1 ht
  generalize H1 = H at hP hS ⊢
  have hP : va_P D vwCl [(b0, .inl (E 0, n, .inl z0)), (h0, .inr (0, [.ref b0, .int 0, v2, v3]))] H := hP
  have hD : va_D A [(b0, .inl (E 0, n, .inl z0)), (h0, .inr (0, [.ref b0, .int 0, v2, v3]))] := hD
  refine lv_ishr hx hb dJ0_length_8abf5_9 (lv_topi (fun f1 ef => ?_))
  obtain rfl : f1 = nI (n) := (show f1 = nI (n) >>> ((0 : Int32) &&& 31) from ef).trans (sb_shr0 _)
  have hP := hP.sub (ws' := [(h0, .inr (0, [.ref b0, .int 0, v2, v3])), (b0, .inl (E 0, n, .inl z0))]) [1, 0] rfl
  have hD := hD.sub (ws' := [(h0, .inr (0, [.ref b0, .int 0, v2, v3])), (b0, .inl (E 0, n, .inl z0))]) [1, 0] (by decide) rfl
  exact W.iret (v := nI (n)) hx hb hr (fun t ht hW => ⟨⟨nI (n), (), rfl, rfl, rf_end ht hP hD⟩, hS.F ht⟩) hS.2.2 dJ0_length_8abf5_10
set_option maxHeartbeats 4000000 in
set_option maxRecDepth 100000 in
/-- isLatin1: 1 -/
theorem c_J5_isLatin1_aae02 (l : Launch) (D : va_G) (E : Nat → ClassId) (sz : Nat) (h0 : Nat) (w0 w2 w3 : Value)  : Met l yJ5_isLatin1_aae02 wsJ5_isLatin1_aae02 ({ frames := 2, cells := 0, slots := 0, locals := 200 }) (va_Pc [.ref h0] (rf_P D E [(h0, .inr (1, [w0, .int 0, w2, w3]))] sz)) (va_Qi (fun (r : Int32) (u : Unit) => r = 1) (fun (u : Unit) (t : State) => rf_B D (va_A [(h0, .inr (1, [w0, .int 0, w2, w3]))] sz) [(h0, .inr (1, [w0, .int 0, w2, w3]))] t) (va_A [(h0, .inr (1, [w0, .int 0, w2, w3]))] sz)) 0 0 (va_A [(h0, .inr (1, [w0, .int 0, w2, w3]))] sz) := by
  refine Met.ofW (cc := cJ5_isLatin1_aae02) (maxL := 1) (ret := (some .boolean)) (by decide) rfl ?_
  intro p e s mI args below meth c s₁ B hml hv
  obtain ⟨rfl, hsz, hP, hK, hD0, hZ, hN⟩ := hv
  have hx := B.exec
  have hb := B.bytes
  have hr := B.returns
  have hts := atoms_spec (ws := wsJ5_isLatin1_aae02) B.pre
  have hown : s.vm.findClass RJ5 = some mI.cls := findClass_of_methodNamed B.named
  have hlocks := B.notSynchronized
  subst hsz
  have hD := hD0.self (sz := s.heap.size)
  generalize hAe : va_A [(h0, .inr (1, [w0, .int 0, w2, w3]))] s.heap.size = A at hD hZ ⊢
  have hA : ∀ q : Nat, s.heap.size ≤ q → A q := fun q h => by rw [← hAe]; exact Or.inr h
  have hS : va_S A s.heap s.heap [] := va_S.rf
  have hl := lv_entry ([.ref h0]) (n := 1) (Nat.le_of_ble_eq_true rfl)
  rw [lg_entry_eq]
  generalize (lg_sl ([.ref h0]) ++ List.replicate (1 - (lg_sl ([.ref h0])).length) Slot.unset).toArray = ls at hl ⊢
  clear hAe hD0
  have hl : lv_has ls 1 [(0, .ref h0)] := hl
  obtain ⟨H, hH⟩ : ∃ H, H = s.heap := ⟨_, rfl⟩
  rw [← hH] at hP
  have hS : va_S A s.heap H [] := by rw [hH]; exact hS
  refine rf_heap hH ?_
  refine va_gets hx hb hZ hS hown (hts (.fieldLink RJ5 18 "java/lang/String" "COMPACT_STRINGS" "Z") (by decide +kernel)) (fun _ h9 => h9) dJ5_isLatin1_aae02_0 ?_
  refine lv_if_eq (tgt := 17) hx hb dJ5_isLatin1_aae02_3 rfl (fun h => absurd h (by decide)) (fun _ => ?_)
  refine lv_aload_n hx hb dJ5_isLatin1_aae02_6 rfl (lv_at hl 0 rfl) ?_
  refine va_get (D := D) (ci := 1) (v := .int 0) (C := RJ4) (T := TJ4) (N := 4) hx hb hts (by decide +kernel) hown hK hP 0 rfl rfl 1 (by decide) (hts (.fieldLink RJ5 22 "java/lang/AbstractStringBuilder" "coder" "B") (by decide +kernel)) (fun _ h9 => h9) rfl dJ5_isLatin1_aae02_7 ?_
  refine lv_if_ne (tgt := 17) hx hb dJ5_isLatin1_aae02_10 rfl (fun h => absurd (by decide) h) (fun _ => ?_)
  refine lv_iconst (v := 1) hx hb dJ5_isLatin1_aae02_13 (by decide) ?_
  refine lv_goto (tgt := 18) hx hb dJ5_isLatin1_aae02_14 rfl ?_
  exact W.zret (v := 1) hx hb hr (by decide +kernel) (fun t ht hW => ⟨⟨1, (), rfl, rfl, rf_end ht hP hD⟩, hS.F ht⟩) hS.2.2 dJ5_isLatin1_aae02_18
set_option maxHeartbeats 4000000 in
set_option maxRecDepth 100000 in
/-- canEncode(0): 1 -/
theorem c_J1_canEncode_fc78d (l : Launch) (D : va_G) (E : Nat → ClassId) (sz : Nat)   : Met l yJ1_canEncode_fc78d wsJ1_canEncode_fc78d ({ frames := 2, cells := 0, slots := 0, locals := 200 }) (va_Pc [.int 0] (rf_P D E [] sz)) (va_Qi (fun (r : Int32) (u : Unit) => r = 1) (fun (u : Unit) (t : State) => rf_B D (va_A [] sz) [] t) (va_A [] sz)) 0 0 (va_A [] sz) := by
  refine Met.ofW (cc := cJ1_canEncode_fc78d) (maxL := 1) (ret := (some .boolean)) (by decide) rfl ?_
  intro p e s mI args below meth c s₁ B hml hv
  obtain ⟨rfl, hsz, hP, hK, hD0, hZ, hN⟩ := hv
  have hx := B.exec
  have hb := B.bytes
  have hr := B.returns
  have hts := atoms_spec (ws := wsJ1_canEncode_fc78d) B.pre
  have hown : s.vm.findClass RJ1 = some mI.cls := findClass_of_methodNamed B.named
  have hlocks := B.notSynchronized
  subst hsz
  have hD := hD0.self (sz := s.heap.size)
  generalize hAe : va_A [] s.heap.size = A at hD hZ ⊢
  have hA : ∀ q : Nat, s.heap.size ≤ q → A q := fun q h => by rw [← hAe]; exact Or.inr h
  have hS : va_S A s.heap s.heap [] := va_S.rf
  have hl := lv_entry ([.int 0]) (n := 1) (Nat.le_of_ble_eq_true rfl)
  rw [lg_entry_eq]
  generalize (lg_sl ([.int 0]) ++ List.replicate (1 - (lg_sl ([.int 0])).length) Slot.unset).toArray = ls at hl ⊢
  clear hAe hD0
  have hl : lv_has ls 1 [(0, .int 0)] := hl
  obtain ⟨H, hH⟩ : ∃ H, H = s.heap := ⟨_, rfl⟩
  rw [← hH] at hP
  have hS : va_S A s.heap H [] := by rw [hH]; exact hS
  refine rf_heap hH ?_
  refine lv_iload_n hx hb dJ1_canEncode_fc78d_0 rfl (lv_at hl 0 rfl) ?_
  refine lv_sipush (v := nI 255) hx hb dJ1_canEncode_fc78d_1 (by decide) ?_
  refine lv_icmp_gt (tgt := 11) hx hb dJ1_canEncode_fc78d_4 rfl (fun h => absurd h (by decide)) (fun _ => ?_)
  refine lv_iconst (v := 1) hx hb dJ1_canEncode_fc78d_7 (by decide) ?_
  refine lv_goto (tgt := 12) hx hb dJ1_canEncode_fc78d_8 rfl ?_
  exact W.zret (v := 1) hx hb hr (by decide +kernel) (fun t ht hW => ⟨⟨1, (), rfl, rfl, rf_end ht hP hD⟩, hS.F ht⟩) hS.2.2 dJ1_canEncode_fc78d_12
set_option maxHeartbeats 4000000 in
set_option maxRecDepth 100000 in
/-- getValue -/
theorem c_J5_getValue_6d5f1 (l : Launch) (D : va_G) (E : Nat → ClassId) (sz : Nat) (h0 b0 : Nat) (w1 w2 w3 : Value)  : Met l yJ5_getValue_6d5f1 wsJ5_getValue_6d5f1 ({ frames := 2, cells := 0, slots := 0, locals := 200 }) (va_Pc [.ref h0] (rf_P D E [(h0, .inr (1, [.ref b0, w1, w2, w3]))] sz)) (va_Qr (fun (u : Unit) => True) (fun (u : Unit) (ra : Nat) (t : State) => ra = b0 ∧ rf_B D (va_A [(h0, .inr (1, [.ref b0, w1, w2, w3]))] sz) [(h0, .inr (1, [.ref b0, w1, w2, w3]))] t) (va_A [(h0, .inr (1, [.ref b0, w1, w2, w3]))] sz)) 0 0 (va_A [(h0, .inr (1, [.ref b0, w1, w2, w3]))] sz) := by
  refine Met.ofW (cc := cJ5_getValue_6d5f1) (maxL := 1) (ret := (some (.array .byte))) (by decide) rfl ?_
  intro p e s mI args below meth c s₁ B hml hv
  obtain ⟨rfl, hsz, hP, hK, hD0, hZ, hN⟩ := hv
  have hx := B.exec
  have hb := B.bytes
  have hr := B.returns
  have hts := atoms_spec (ws := wsJ5_getValue_6d5f1) B.pre
  have hown : s.vm.findClass RJ5 = some mI.cls := findClass_of_methodNamed B.named
  have hlocks := B.notSynchronized
  subst hsz
  have hD := hD0.self (sz := s.heap.size)
  generalize hAe : va_A [(h0, .inr (1, [.ref b0, w1, w2, w3]))] s.heap.size = A at hD hZ ⊢
  have hA : ∀ q : Nat, s.heap.size ≤ q → A q := fun q h => by rw [← hAe]; exact Or.inr h
  have hS : va_S A s.heap s.heap [] := va_S.rf
  have hl := lv_entry ([.ref h0]) (n := 1) (Nat.le_of_ble_eq_true rfl)
  rw [lg_entry_eq]
  generalize (lg_sl ([.ref h0]) ++ List.replicate (1 - (lg_sl ([.ref h0])).length) Slot.unset).toArray = ls at hl ⊢
  clear hAe hD0
  have hl : lv_has ls 1 [(0, .ref h0)] := hl
  obtain ⟨H, hH⟩ : ∃ H, H = s.heap := ⟨_, rfl⟩
  rw [← hH] at hP
  have hS : va_S A s.heap H [] := by rw [hH]; exact hS
  refine rf_heap hH ?_
  refine lv_aload_n hx hb dJ5_getValue_6d5f1_0 rfl (lv_at hl 0 rfl) ?_
  refine va_get (D := D) (ci := 1) (v := .ref b0) (C := RJ4) (T := TJ4) (N := 4) hx hb hts (by decide +kernel) hown hK hP 0 rfl rfl 0 (by decide) (hts (.fieldLink RJ5 15 "java/lang/AbstractStringBuilder" "value" "[B") (by decide +kernel)) (fun _ h9 => h9) rfl dJ5_getValue_6d5f1_1 ?_
  exact W.aret (v := .ref b0) hx hb hr (Or.inr ⟨_, rfl⟩) (Or.inr ⟨_, rfl⟩) (fun t ht hW => ⟨⟨(), b0, rfl, trivial, ⟨rfl, rf_end ht hP hD⟩⟩, hS.F ht⟩) hS.2.2 dJ5_getValue_6d5f1_4
set_option maxHeartbeats 4000000 in
set_option maxRecDepth 100000 in
/-- AbstractStringBuilder.length -/
theorem c_J5_length_8abf5 (l : Launch) (D : va_G) (E : Nat → ClassId) (sz : Nat) (h0 n : Nat) (w0 w1 w2 : Value)  : Met l yJ5_length_8abf5 wsJ5_length_8abf5 ({ frames := 2, cells := 0, slots := 0, locals := 200 }) (va_Pc [.ref h0] (rf_P D E [(h0, .inr (1, [w0, w1, w2, .int (nI n)]))] sz)) (va_Qi (fun (r : Int32) (u : Unit) => r = nI n) (fun (u : Unit) (t : State) => rf_B D (va_A [(h0, .inr (1, [w0, w1, w2, .int (nI n)]))] sz) [(h0, .inr (1, [w0, w1, w2, .int (nI n)]))] t) (va_A [(h0, .inr (1, [w0, w1, w2, .int (nI n)]))] sz)) 0 0 (va_A [(h0, .inr (1, [w0, w1, w2, .int (nI n)]))] sz) := by
  refine Met.ofW (cc := cJ5_length_8abf5) (maxL := 1) (ret := (some .int)) (by decide) rfl ?_
  intro p e s mI args below meth c s₁ B hml hv
  obtain ⟨rfl, hsz, hP, hK, hD0, hZ, hN⟩ := hv
  have hx := B.exec
  have hb := B.bytes
  have hr := B.returns
  have hts := atoms_spec (ws := wsJ5_length_8abf5) B.pre
  have hown : s.vm.findClass RJ5 = some mI.cls := findClass_of_methodNamed B.named
  have hlocks := B.notSynchronized
  subst hsz
  have hD := hD0.self (sz := s.heap.size)
  generalize hAe : va_A [(h0, .inr (1, [w0, w1, w2, .int (nI n)]))] s.heap.size = A at hD hZ ⊢
  have hA : ∀ q : Nat, s.heap.size ≤ q → A q := fun q h => by rw [← hAe]; exact Or.inr h
  have hS : va_S A s.heap s.heap [] := va_S.rf
  have hl := lv_entry ([.ref h0]) (n := 1) (Nat.le_of_ble_eq_true rfl)
  rw [lg_entry_eq]
  generalize (lg_sl ([.ref h0]) ++ List.replicate (1 - (lg_sl ([.ref h0])).length) Slot.unset).toArray = ls at hl ⊢
  clear hAe hD0
  have hl : lv_has ls 1 [(0, .ref h0)] := hl
  obtain ⟨H, hH⟩ : ∃ H, H = s.heap := ⟨_, rfl⟩
  rw [← hH] at hP
  have hS : va_S A s.heap H [] := by rw [hH]; exact hS
  refine rf_heap hH ?_
  refine lv_aload_n hx hb dJ5_length_8abf5_0 rfl (lv_at hl 0 rfl) ?_
  refine va_get (D := D) (ci := 1) (v := .int (nI n)) (C := RJ4) (T := TJ4) (N := 4) hx hb hts (by decide +kernel) hown hK hP 0 rfl rfl 3 (by decide) (hts (.fieldLink RJ5 79 "java/lang/AbstractStringBuilder" "count" "I") (by decide +kernel)) (fun _ h9 => h9) rfl dJ5_length_8abf5_1 ?_
  exact W.iret (v := nI n) hx hb hr (fun t ht hW => ⟨⟨nI n, (), rfl, rfl, rf_end ht hP hD⟩, hS.F ht⟩) hS.2.2 dJ5_length_8abf5_4
set_option maxHeartbeats 4000000 in
set_option maxRecDepth 100000 in
/-- StringBuilder.length -/
theorem c_J4_length_8abf5 (l : Launch) (D : va_G) (E : Nat → ClassId) (sz : Nat) (h0 n : Nat) (w0 w1 w2 : Value)  : Met l yJ4_length_8abf5 wsJ4_length_8abf5 ({ frames := 3, cells := 0, slots := 0, locals := 400 }) (va_Pc [.ref h0] (rf_P D E [(h0, .inr (1, [w0, w1, w2, .int (nI n)]))] sz)) (va_Qi (fun (r : Int32) (u : Unit) => r = nI n) (fun (u : Unit) (t : State) => rf_B D (va_A [(h0, .inr (1, [w0, w1, w2, .int (nI n)]))] sz) [(h0, .inr (1, [w0, w1, w2, .int (nI n)]))] t) (va_A [(h0, .inr (1, [w0, w1, w2, .int (nI n)]))] sz)) 0 0 (va_A [(h0, .inr (1, [w0, w1, w2, .int (nI n)]))] sz) := by
  refine Met.ofW (cc := cJ4_length_8abf5) (maxL := 1) (ret := (some .int)) (by decide) rfl ?_
  intro p e s mI args below meth c s₁ B hml hv
  obtain ⟨rfl, hsz, hP, hK, hD0, hZ, hN⟩ := hv
  have hx := B.exec
  have hb := B.bytes
  have hr := B.returns
  have hts := atoms_spec (ws := wsJ4_length_8abf5) B.pre
  have hown : s.vm.findClass RJ4 = some mI.cls := findClass_of_methodNamed B.named
  have hlocks := B.notSynchronized
  subst hsz
  have hD := hD0.self (sz := s.heap.size)
  generalize hAe : va_A [(h0, .inr (1, [w0, w1, w2, .int (nI n)]))] s.heap.size = A at hD hZ ⊢
  have hA : ∀ q : Nat, s.heap.size ≤ q → A q := fun q h => by rw [← hAe]; exact Or.inr h
  have hS : va_S A s.heap s.heap [] := va_S.rf
  have hl := lv_entry ([.ref h0]) (n := 1) (Nat.le_of_ble_eq_true rfl)
  rw [lg_entry_eq]
  generalize (lg_sl ([.ref h0]) ++ List.replicate (1 - (lg_sl ([.ref h0])).length) Slot.unset).toArray = ls at hl ⊢
  clear hAe hD0
  have hl : lv_has ls 1 [(0, .ref h0)] := hl
  obtain ⟨H, hH⟩ : ∃ H, H = s.heap := ⟨_, rfl⟩
  rw [← hH] at hP
  have hS : va_S A s.heap H [] := by rw [hH]; exact hS
  refine rf_heap hH ?_
  refine lv_aload_n hx hb dJ4_length_8abf5_0 rfl (lv_at hl 0 rfl) ?_
  have hPc := hP.sub (ws' := [(h0, .inr (1, [w0, w1, w2, .int (nI n)]))]) [0] rfl
  have hDc := hD.sub (ws' := [(h0, .inr (1, [w0, w1, w2, .int (nI n)]))]) [0] (by decide) rfl
  have hFc := va_free (wc := [(h0, .inr (1, [w0, w1, w2, .int (nI n)]))]) hD hS hA [0] rfl
  have h_1 : 0 + 0 ≤ 0 := by omega
  have h_2 : 0 + 0 ≤ 0 := by omega
  refine va_calli (va_runSU (As := []) (rest := []) (hK.1 1 _ rfl).2 ⟨hx, hb, hml, hown, hts⟩ (c_J5_length_8abf5 l D E H.size (h0) (n) (w0) (w1) (w2)) (va_cwSU 0 hts gJ4_length_8abf5_J5_length_8abf5_s343 rfl rfl rfl (by decide +kernel) ⟨Nat.le_of_ble_eq_true rfl, Nat.le_of_ble_eq_true rfl⟩) ⟨rf_blind _, va_recv hK hPc (ci := 1) (q0 := 0) rfl rfl, fun U hU hW => ⟨rfl, rf_pre hK hPc hDc hZ hN hS hFc U hU hW⟩⟩ rfl rfl hl.1 rfl (lv_room (Nat.le_of_ble_eq_true rfl)) dJ4_length_8abf5_1 ⟨h_1, h_2⟩) hS (fun q _ h => hFc q h) hFc (fun r u t H1 locs ht hvm hw hB hz1 hk1 hS => ?_)
  obtain ⟨hP1, hD1⟩ := hB
  rw [ht] at hP1
  try dsimp only at hw hP1 hD1
  obtain rfl := hw
  obtain ⟨hP, hD⟩ := va_join (wr := []) (w1 := [(h0, .inr (1, [w0, w1, w2, .int (nI n)]))]) hP hD [0] [] rfl rfl (by decide) (by decide) hk1 hFc hP1 hD1
  clear hPc hDc hFc hP1 hD1 hk1 hz1 ht
  generalize H1 = H at hP hS ⊢
  have hP : va_P D vwCl [(h0, .inr (1, [w0, w1, w2, .int (nI n)]))] H := hP
  have hD : va_D A [(h0, .inr (1, [w0, w1, w2, .int (nI n)]))] := hD
  exact W.iret (v := nI n) hx hb hr (fun t ht hW => ⟨⟨nI n, (), rfl, rfl, rf_end ht hP hD⟩, hS.F ht⟩) hS.2.2 dJ4_length_8abf5_4
set_option maxHeartbeats 4000000 in
set_option maxRecDepth 100000 in
/-- AbstractStringBuilder(16) -/
theorem c_J5_init_d00df (l : Launch) (D : va_G) (E : Nat → ClassId) (sz : Nat) (h0 : Nat)  : Met l yJ5_init_d00df wsJ5_init_d00df ({ frames := 2, cells := 1, slots := 16, locals := 200 }) (va_Pc [.ref h0, .int (nI 16)] (rf_P D E [(h0, .inr (1, [.null, .int 0, .int 0, .int 0]))] sz)) (va_Qv (fun (u : Nat) => True) (fun (u : Nat) (t : State) => rf_B D (va_A [(h0, .inr (1, [.null, .int 0, .int 0, .int 0]))] sz) [(h0, .inr (1, [.ref u, .int 0, .int 0, .int 0])), (u, .inl (E 0, 16, .inl z0))] t) (va_A [(h0, .inr (1, [.null, .int 0, .int 0, .int 0]))] sz)) 1 16 (va_A [(h0, .inr (1, [.null, .int 0, .int 0, .int 0]))] sz) := by
  refine Met.ofW (cc := cJ5_init_d00df) (maxL := 2) (ret := none) (by decide) rfl ?_
  intro p e s mI args below meth c s₁ B hml hv
  obtain ⟨rfl, hsz, hP, hK, hD0, hZ, hN⟩ := hv
  have hx := B.exec
  have hb := B.bytes
  have hr := B.returns
  have hts := atoms_spec (ws := wsJ5_init_d00df) B.pre
  have hown : s.vm.findClass RJ5 = some mI.cls := findClass_of_methodNamed B.named
  have hlocks := B.notSynchronized
  have hin : meth.name = "<init>" := (name_of_methodNamed B.named B.method).1
  subst hsz
  have hD := hD0.self (sz := s.heap.size)
  generalize hAe : va_A [(h0, .inr (1, [.null, .int 0, .int 0, .int 0]))] s.heap.size = A at hD hZ ⊢
  have hA : ∀ q : Nat, s.heap.size ≤ q → A q := fun q h => by rw [← hAe]; exact Or.inr h
  have hS : va_S A s.heap s.heap [] := va_S.rf
  have hl := lv_entry ([.ref h0, .int (nI 16)]) (n := 2) (Nat.le_of_ble_eq_true rfl)
  rw [lg_entry_eq]
  generalize (lg_sl ([.ref h0, .int (nI 16)]) ++ List.replicate (2 - (lg_sl ([.ref h0, .int (nI 16)])).length) Slot.unset).toArray = ls at hl ⊢
  clear hAe hD0
  have hl : lv_has ls 2 [(0, .ref h0), (1, .int (nI 16))] := hl
  obtain ⟨H, hH⟩ : ∃ H, H = s.heap := ⟨_, rfl⟩
  rw [← hH] at hP
  have hS : va_S A s.heap H [] := by rw [hH]; exact hS
  refine rf_heap hH ?_
  refine lv_aload_n hx hb dJ5_init_d00df_0 rfl (lv_at hl 0 rfl) ?_
  refine W.objInit hx hb hown (hts (.methodLink RJ5 3 objectInit) (by decide +kernel)) (hts (.instanceMethod objectInit) (by decide +kernel)) (hts (.code objectInit ⟨#[0xb1]⟩ 1 none) (by decide +kernel)) rfl (by rw [hml]; exact hl.1) rfl dJ5_init_d00df_1 (Nat.le_of_ble_eq_true rfl) (Nat.le_of_ble_eq_true rfl) ?_
  refine W.eq (g2 := F0 mI 4 ls []) rfl ?_
  refine va_gets hx hb hZ hS hown (hts (.fieldLink RJ5 18 "java/lang/String" "COMPACT_STRINGS" "Z") (by decide +kernel)) (fun _ h9 => h9) dJ5_init_d00df_4 ?_
  refine lv_if_eq (tgt := 25) hx hb dJ5_init_d00df_7 rfl (fun h => absurd h (by decide)) (fun _ => ?_)
  refine lv_aload_n hx hb dJ5_init_d00df_10 rfl (lv_at hl 0 rfl) ?_
  refine lv_iload_n hx hb dJ5_init_d00df_11 rfl (lv_at hl 1 rfl) ?_
  have h_1 : 0 + 1 ≤ 1 := by omega
  have h_2 : 0 + (16) ≤ 16 := by omega
  refine va_newa (atype := .byte) (N' := 16) (a0 := (16, .inl z0)) hx hb (hts (.arrayClass .byte) (by decide +kernel)) rfl hK hP hD hS hA (fun _ => rfl) (nI_pos (by omega)) (nI_clamp (by omega)) (Nat.le_trans (Nat.mul_le_mul_right _ (show 16 ≤ 16 by omega)) (Nat.le_of_ble_eq_true rfl)) h_1 h_2 dJ5_init_d00df_12 (fun q1 cA H hK2 hP hD hS => ?_)
  obtain rfl := rf_byte hK2
  have hP : va_P D vwCl [(h0, .inr (1, [.null, .int 0, .int 0, .int 0])), (q1, .inl (E 0, 16, .inl z0))] H := hP
  have hD : va_D A [(h0, .inr (1, [.null, .int 0, .int 0, .int 0])), (q1, .inl (E 0, 16, .inl z0))] := hD
  refine W.widen (k := 1) (n := 16) (by omega) (by omega) ?_
  refine va_put (D := D) (ci := 1) (v := .ref q1) (ty := .array .byte) (C := RJ4) (T := TJ4) (N := 4) hx hb hts (by decide +kernel) tyJ4 tyJ4_ok nmJ4 hown hK hP hD hS 0 rfl rfl 0 (by decide) (hts (.fieldLink RJ5 15 "java/lang/AbstractStringBuilder" "value" "[B") (by decide +kernel)) (fun _ h9 => h9) rfl (by decide +kernel) rfl rfl (Nat.le_of_ble_eq_true rfl) dJ5_init_d00df_14 (fun H locs hP hD hS => ?_)
  have hP : va_P D vwCl [(h0, .inr (1, [.ref q1, .int 0, .int 0, .int 0])), (q1, .inl (E 0, 16, .inl z0))] H := hP
  have hD : va_D A [(h0, .inr (1, [.ref q1, .int 0, .int 0, .int 0])), (q1, .inl (E 0, 16, .inl z0))] := hD
  refine lv_aload_n hx hb dJ5_init_d00df_17 rfl (lv_at hl 0 rfl) ?_
  refine lv_iconst (v := 0) hx hb dJ5_init_d00df_18 (by decide) ?_
  refine va_put (D := D) (ci := 1) (v := .int (0)) (ty := .byte) (C := RJ4) (T := TJ4) (N := 4) hx hb hts (by decide +kernel) tyJ4 tyJ4_ok nmJ4 hown hK hP hD hS 0 rfl rfl 1 (by decide) (hts (.fieldLink RJ5 22 "java/lang/AbstractStringBuilder" "coder" "B") (by decide +kernel)) (fun _ h9 => h9) rfl (by decide +kernel) rfl rfl (Nat.le_of_ble_eq_true rfl) dJ5_init_d00df_19 (fun H locs hP hD hS => ?_)
  have hP : va_P D vwCl [(h0, .inr (1, [.ref q1, .int (0), .int 0, .int 0])), (q1, .inl (E 0, 16, .inl z0))] H := hP
  have hD : va_D A [(h0, .inr (1, [.ref q1, .int (0), .int 0, .int 0])), (q1, .inl (E 0, 16, .inl z0))] := hD
  refine lv_goto (tgt := 38) hx hb dJ5_init_d00df_22 rfl ?_
  exact W.vret hx hb hr (fun t ht hW => ⟨⟨q1, rfl, trivial, rf_end ht hP hD⟩, hS.F ht⟩) hS.2.2 dJ5_init_d00df_38
set_option maxHeartbeats 4000000 in
set_option maxRecDepth 100000 in
/-- StringBuilder() -/
theorem c_J4_init_da8c8 (l : Launch) (D : va_G) (E : Nat → ClassId) (sz : Nat) (h0 : Nat)  : Met l yJ4_init_da8c8 wsJ4_init_da8c8 ({ frames := 3, cells := 1, slots := 16, locals := 400 }) (va_Pc [.ref h0] (rf_P D E [(h0, .inr (1, [.null, .int 0, .int 0, .int 0]))] sz)) (va_Qv (fun (u : Nat) => True) (fun (u : Nat) (t : State) => rf_B D (va_A [(h0, .inr (1, [.null, .int 0, .int 0, .int 0]))] sz) [(h0, .inr (1, [.ref u, .int 0, .int 0, .int 0])), (u, .inl (E 0, 16, .inl z0))] t) (va_A [(h0, .inr (1, [.null, .int 0, .int 0, .int 0]))] sz)) 1 16 (va_A [(h0, .inr (1, [.null, .int 0, .int 0, .int 0]))] sz) := by
  refine Met.ofW (cc := cJ4_init_da8c8) (maxL := 1) (ret := none) (by decide) rfl ?_
  intro p e s mI args below meth c s₁ B hml hv
  obtain ⟨rfl, hsz, hP, hK, hD0, hZ, hN⟩ := hv
  have hx := B.exec
  have hb := B.bytes
  have hr := B.returns
  have hts := atoms_spec (ws := wsJ4_init_da8c8) B.pre
  have hown : s.vm.findClass RJ4 = some mI.cls := findClass_of_methodNamed B.named
  have hlocks := B.notSynchronized
  have hin : meth.name = "<init>" := (name_of_methodNamed B.named B.method).1
  subst hsz
  have hD := hD0.self (sz := s.heap.size)
  generalize hAe : va_A [(h0, .inr (1, [.null, .int 0, .int 0, .int 0]))] s.heap.size = A at hD hZ ⊢
  have hA : ∀ q : Nat, s.heap.size ≤ q → A q := fun q h => by rw [← hAe]; exact Or.inr h
  have hS : va_S A s.heap s.heap [] := va_S.rf
  have hl := lv_entry ([.ref h0]) (n := 1) (Nat.le_of_ble_eq_true rfl)
  rw [lg_entry_eq]
  generalize (lg_sl ([.ref h0]) ++ List.replicate (1 - (lg_sl ([.ref h0])).length) Slot.unset).toArray = ls at hl ⊢
  clear hAe hD0
  have hl : lv_has ls 1 [(0, .ref h0)] := hl
  obtain ⟨H, hH⟩ : ∃ H, H = s.heap := ⟨_, rfl⟩
  rw [← hH] at hP
  have hS : va_S A s.heap H [] := by rw [hH]; exact hS
  refine rf_heap hH ?_
  refine lv_aload_n hx hb dJ4_init_da8c8_0 rfl (lv_at hl 0 rfl) ?_
  refine lv_bipush (v := nI 16) hx hb dJ4_init_da8c8_1 (by decide) ?_
  have hPc := hP.sub (ws' := [(h0, .inr (1, [.null, .int 0, .int 0, .int 0]))]) [0] rfl
  have hDc := hD.sub (ws' := [(h0, .inr (1, [.null, .int 0, .int 0, .int 0]))]) [0] (by decide) rfl
  have hFc := va_free (wc := [(h0, .inr (1, [.null, .int 0, .int 0, .int 0]))]) hD hS hA [0] rfl
  have h_1 : 0 + 1 ≤ 1 := by omega
  have h_2 : 0 + 16 ≤ 16 := by omega
  refine va_callv (va_runI (As := [.int (nI 16)]) (rest := []) ⟨hx, hb, hml, hown, hts⟩ (c_J5_init_d00df l D E H.size (h0)) (cwI 1 hts gJ4_init_da8c8_J5_init_d00df rfl rfl rfl (hts (.initialized RJ5) (by decide +kernel)) (hts (.methodLink RJ4 1 yJ5_init_d00df) (by decide +kernel)) (hts (.instanceMethod yJ5_init_d00df) (by decide +kernel)) rfl (by decide +kernel) ⟨Nat.le_of_ble_eq_true rfl, Nat.le_of_ble_eq_true rfl⟩) ⟨rf_blind _, fun U hU hW => ⟨rfl, rf_pre hK hPc hDc hZ hN hS hFc U hU hW⟩⟩ rfl rfl hl.1 rfl (lv_room (Nat.le_of_ble_eq_true rfl)) dJ4_init_da8c8_3 ⟨h_1, h_2⟩) hS (fun q _ h => hFc q h) hFc (fun u t H1 locs ht hvm hw hB hz1 hk1 hS => ?_)
  obtain ⟨hP1, hD1⟩ := hB
  rw [ht] at hP1
  try dsimp only at hw hP1 hD1
  obtain ⟨hP, hD⟩ := va_join (wr := []) (w1 := [(h0, .inr (1, [.ref u, .int 0, .int 0, .int 0])), (u, .inl (E 0, 16, .inl z0))]) hP hD [0] [] rfl rfl (by decide) (by decide) hk1 hFc hP1 hD1
  clear hPc hDc hFc hP1 hD1 hk1 hz1 ht
  generalize H1 = H at hP hS ⊢
  have hP : va_P D vwCl [(h0, .inr (1, [.ref u, .int 0, .int 0, .int 0])), (u, .inl (E 0, 16, .inl z0))] H := hP
  have hD : va_D A [(h0, .inr (1, [.ref u, .int 0, .int 0, .int 0])), (u, .inl (E 0, 16, .inl z0))] := hD
  refine W.widen (k := 1) (n := 16) (by omega) (by omega) ?_
  exact W.vret hx hb hr (fun t ht hW => ⟨⟨u, rfl, trivial, rf_end ht hP hD⟩, hS.F ht⟩) hS.2.2 dJ4_init_da8c8_6
set_option maxHeartbeats 4000000 in
set_option maxRecDepth 100000 in
/-- ArraysSupport.newLength: the old one and the greater of the two -/
theorem c_J8_newLength_cabcc (l : Launch) (D : va_G) (E : Nat → ClassId) (sz : Nat) (a g q : Nat) (ha : a ≤ 1000) (hg : g ≤ 1000) (hq : q ≤ 1100) (hq1 : 0 < q) : Met l yJ8_newLength_cabcc wsJ8_newLength_cabcc ({ frames := 2, cells := 0, slots := 0, locals := 200 }) (va_Pc [.int (nI a), .int (nI g), .int (nI q)] (rf_P D E [] sz)) (va_Qi (fun (r : Int32) (u : Unit) => r = nI (a + max g q)) (fun (u : Unit) (t : State) => rf_B D (va_A [] sz) [] t) (va_A [] sz)) 0 0 (va_A [] sz) := by
  refine Met.ofW (cc := cJ8_newLength_cabcc) (maxL := 4) (ret := (some .int)) (by decide) rfl ?_
  intro p e s mI args below meth c s₁ B hml hv
  obtain ⟨rfl, hsz, hP, hK, hD0, hZ, hN⟩ := hv
  have hx := B.exec
  have hb := B.bytes
  have hr := B.returns
  have hts := atoms_spec (ws := wsJ8_newLength_cabcc) B.pre
  have hown : s.vm.findClass RJ8 = some mI.cls := findClass_of_methodNamed B.named
  have hlocks := B.notSynchronized
  subst hsz
  have hD := hD0.self (sz := s.heap.size)
  generalize hAe : va_A [] s.heap.size = A at hD hZ ⊢
  have hA : ∀ q : Nat, s.heap.size ≤ q → A q := fun q h => by rw [← hAe]; exact Or.inr h
  have hS : va_S A s.heap s.heap [] := va_S.rf
  have hl := lv_entry ([.int (nI a), .int (nI g), .int (nI q)]) (n := 4) (Nat.le_of_ble_eq_true rfl)
  rw [lg_entry_eq]
  generalize (lg_sl ([.int (nI a), .int (nI g), .int (nI q)]) ++ List.replicate (4 - (lg_sl ([.int (nI a), .int (nI g), .int (nI q)])).length) Slot.unset).toArray = ls at hl ⊢
  clear hAe hD0
  have hl : lv_has ls 4 [(0, .int (nI a)), (1, .int (nI g)), (2, .int (nI q))] := hl
  obtain ⟨H, hH⟩ : ∃ H, H = s.heap := ⟨_, rfl⟩
  rw [← hH] at hP
  have hS : va_S A s.heap H [] := by rw [hH]; exact hS
  refine rf_heap hH ?_
  refine lv_iload_n hx hb dJ8_newLength_cabcc_0 rfl (lv_at hl 0 rfl) ?_
  refine lv_iload_n hx hb dJ8_newLength_cabcc_1 rfl (lv_at hl 1 rfl) ?_
  refine lv_iload_n hx hb dJ8_newLength_cabcc_2 rfl (lv_at hl 2 rfl) ?_
  refine va_mmax hx hb (by rw [hml]; exact hl.1.symm) hown (hts (.methodLink RJ8 194 Lib.Math.max.name) (by decide +kernel)) (hts (.static Lib.Math.max.name) (by decide +kernel)) (hts (.initialized "java/lang/Math") (by decide +kernel)) (hts (.code Lib.Math.max.name Lib.Math.max.code 2 (some .int)) (by decide +kernel)) (Nat.le_of_ble_eq_true rfl) (Nat.le_of_ble_eq_true rfl) (show 0 ≤ 0 by omega) (show 0 ≤ 0 by omega) dJ8_newLength_cabcc_3 (lv_topi (fun f1 ef => ?_))
  obtain rfl : f1 = nI (max g q) := by
    rw [ef]
    by_cases h : g < q
    · rw [if_pos (nI_lt h (by omega))]; exact congrArg nI (by omega)
    · rw [if_neg (nI_nlt (by omega) (by omega))]; exact congrArg nI (by omega)
  refine lv_iadd hx hb dJ8_newLength_cabcc_6 (lv_topi (fun f2 ef => ?_))
  obtain rfl : f2 = nI (a + max g q) := (show f2 = nI (a) + nI (max g q) from ef).trans ((nI_add _ _).trans (congrArg nI (by omega)))
  refine lv_istore_n hx hb dJ8_newLength_cabcc_7 rfl hl (Nat.le_of_ble_eq_true rfl) rfl (fun ls hl => ?_)
  have hl : lv_has ls 4 [(3, .int (nI (a + max g q))), (0, .int (nI a)), (1, .int (nI g)), (2, .int (nI q))] := hl
  refine lv_iconst (v := nI 0) hx hb dJ8_newLength_cabcc_8 (by decide) ?_
  refine lv_iload_n hx hb dJ8_newLength_cabcc_9 rfl (lv_at hl 0 rfl) ?_
  refine lv_icmp_ge (tgt := 21) hx hb dJ8_newLength_cabcc_10 rfl (fun h => absurd h (show ¬ nI (a + max g q) ≤ nI 0 from nI_nle (by omega) (by omega))) (fun _ => ?_)
  refine lv_iload_n hx hb dJ8_newLength_cabcc_13 rfl (lv_at hl 0 rfl) ?_
  refine lv_ldc (v := 2147483639) hx hb hown (hts (.constant RJ8 200 2147483639) (by decide +kernel)) dJ8_newLength_cabcc_14 ?_
  refine lv_icmp_gt (tgt := 21) hx hb dJ8_newLength_cabcc_16 rfl (fun h => absurd h (show ¬ nI 2147483639 < nI (a + max g q) from nI_nlt (by omega) (by decide))) (fun _ => ?_)
  refine lv_iload_n hx hb dJ8_newLength_cabcc_19 rfl (lv_at hl 0 rfl) ?_
  exact W.iret (v := nI (a + max g q)) hx hb hr (fun t ht hW => ⟨⟨nI (a + max g q), (), rfl, rfl, rf_end ht hP hD⟩, hS.F ht⟩) hS.2.2 dJ8_newLength_cabcc_20
set_option maxHeartbeats 4000000 in
set_option maxRecDepth 100000 in
/-- newCapacity -/
theorem c_J5_newCapacity_0f7a4 (l : Launch) (D : va_G) (E : Nat → ClassId) (sz : Nat) (h0 b0 m q : Nat) (w2 w3 : Value) (hm : m ≤ 300) (hq : q ≤ 300) (hmq : m < q) : Met l yJ5_newCapacity_0f7a4 wsJ5_newCapacity_0f7a4 ({ frames := 3, cells := 0, slots := 0, locals := 400 }) (va_Pc [.ref h0, .int (nI q)] (rf_P D E [(h0, .inr (1, [.ref b0, .int 0, w2, w3])), (b0, .inl (E 0, m, .inl z0))] sz)) (va_Qi (fun (r : Int32) (u : Unit) => r = nI (m + max (q - m) (m + 2))) (fun (u : Unit) (t : State) => rf_B D (va_A [(h0, .inr (1, [.ref b0, .int 0, w2, w3])), (b0, .inl (E 0, m, .inl z0))] sz) [(h0, .inr (1, [.ref b0, .int 0, w2, w3])), (b0, .inl (E 0, m, .inl z0))] t) (va_A [(h0, .inr (1, [.ref b0, .int 0, w2, w3])), (b0, .inl (E 0, m, .inl z0))] sz)) 0 0 (va_A [(h0, .inr (1, [.ref b0, .int 0, w2, w3])), (b0, .inl (E 0, m, .inl z0))] sz) := by
  refine Met.ofW (cc := cJ5_newCapacity_0f7a4) (maxL := 6) (ret := (some .int)) (by decide) rfl ?_
  intro p e s mI args below meth c s₁ B hml hv
  obtain ⟨rfl, hsz, hP, hK, hD0, hZ, hN⟩ := hv
  have hx := B.exec
  have hb := B.bytes
  have hr := B.returns
  have hts := atoms_spec (ws := wsJ5_newCapacity_0f7a4) B.pre
  have hown : s.vm.findClass RJ5 = some mI.cls := findClass_of_methodNamed B.named
  have hlocks := B.notSynchronized
  subst hsz
  have hD := hD0.self (sz := s.heap.size)
  generalize hAe : va_A [(h0, .inr (1, [.ref b0, .int 0, w2, w3])), (b0, .inl (E 0, m, .inl z0))] s.heap.size = A at hD hZ ⊢
  have hA : ∀ q : Nat, s.heap.size ≤ q → A q := fun q h => by rw [← hAe]; exact Or.inr h
  have hS : va_S A s.heap s.heap [] := va_S.rf
  have hl := lv_entry ([.ref h0, .int (nI q)]) (n := 6) (Nat.le_of_ble_eq_true rfl)
  rw [lg_entry_eq]
  generalize (lg_sl ([.ref h0, .int (nI q)]) ++ List.replicate (6 - (lg_sl ([.ref h0, .int (nI q)])).length) Slot.unset).toArray = ls at hl ⊢
  clear hAe hD0
  have hl : lv_has ls 6 [(0, .ref h0), (1, .int (nI q))] := hl
  obtain ⟨H, hH⟩ : ∃ H, H = s.heap := ⟨_, rfl⟩
  rw [← hH] at hP
  have hS : va_S A s.heap H [] := by rw [hH]; exact hS
  refine rf_heap hH ?_
  refine lv_aload_n hx hb dJ5_newCapacity_0f7a4_0 rfl (lv_at hl 0 rfl) ?_
  refine va_get (D := D) (ci := 1) (v := .ref b0) (C := RJ4) (T := TJ4) (N := 4) hx hb hts (by decide +kernel) hown hK hP 0 rfl rfl 0 (by decide) (hts (.fieldLink RJ5 15 "java/lang/AbstractStringBuilder" "value" "[B") (by decide +kernel)) (fun _ h9 => h9) rfl dJ5_newCapacity_0f7a4_1 ?_
  refine va_alen (v := nI (m)) hx hb hK hP 1 0 rfl rfl rfl dJ5_newCapacity_0f7a4_4 ?_
  refine lv_istore_n hx hb dJ5_newCapacity_0f7a4_5 rfl hl (Nat.le_of_ble_eq_true rfl) rfl (fun ls hl => ?_)
  have hl : lv_has ls 6 [(2, .int (nI (m))), (0, .ref h0), (1, .int (nI q))] := hl
  refine lv_iload_n hx hb dJ5_newCapacity_0f7a4_6 rfl (lv_at hl 2 rfl) ?_
  refine lv_aload_n hx hb dJ5_newCapacity_0f7a4_7 rfl (lv_at hl 1 rfl) ?_
  refine va_get (D := D) (ci := 1) (v := .int 0) (C := RJ4) (T := TJ4) (N := 4) hx hb hts (by decide +kernel) hown hK hP 0 rfl rfl 1 (by decide) (hts (.fieldLink RJ5 22 "java/lang/AbstractStringBuilder" "coder" "B") (by decide +kernel)) (fun _ h9 => h9) rfl dJ5_newCapacity_0f7a4_8 ?_
  refine lv_ishl hx hb dJ5_newCapacity_0f7a4_11 (lv_topi (fun f1 ef => ?_))
  obtain rfl : f1 = nI (q) := (show f1 = nI (q) <<< ((0 : Int32) &&& 31) from ef).trans (sb_shl0 _)
  refine lv_istore_n hx hb dJ5_newCapacity_0f7a4_12 rfl hl (Nat.le_of_ble_eq_true rfl) rfl (fun ls hl => ?_)
  have hl : lv_has ls 6 [(3, .int (nI (q))), (2, .int (nI (m))), (0, .ref h0), (1, .int (nI q))] := hl
  refine lv_iload_n hx hb dJ5_newCapacity_0f7a4_13 rfl (lv_at hl 0 rfl) ?_
  refine lv_iload_n hx hb dJ5_newCapacity_0f7a4_14 rfl (lv_at hl 1 rfl) ?_
  refine lv_isub hx hb dJ5_newCapacity_0f7a4_15 (lv_topi (fun f2 ef => ?_))
  obtain rfl : f2 = nI (q - m) := (show f2 = nI (q) - nI (m) from ef).trans ((pk_sub (by omega)).trans (congrArg nI (by omega)))
  refine lv_istore hx hb dJ5_newCapacity_0f7a4_16 hl (Nat.le_of_ble_eq_true rfl) rfl (fun ls hl => ?_)
  have hl : lv_has ls 6 [(4, .int (nI (q - m))), (3, .int (nI (q))), (2, .int (nI (m))), (0, .ref h0), (1, .int (nI q))] := hl
  refine lv_iload_n hx hb dJ5_newCapacity_0f7a4_18 rfl (lv_at hl 2 rfl) ?_
  refine lv_iload hx hb dJ5_newCapacity_0f7a4_19 (lv_at hl 0 rfl) ?_
  refine lv_iload_n hx hb dJ5_newCapacity_0f7a4_21 rfl (lv_at hl 2 rfl) ?_
  refine lv_iconst (v := nI 2) hx hb dJ5_newCapacity_0f7a4_22 (by decide) ?_
  refine lv_aload_n hx hb dJ5_newCapacity_0f7a4_23 rfl (lv_at hl 3 rfl) ?_
  refine va_get (D := D) (ci := 1) (v := .int 0) (C := RJ4) (T := TJ4) (N := 4) hx hb hts (by decide +kernel) hown hK hP 0 rfl rfl 1 (by decide) (hts (.fieldLink RJ5 22 "java/lang/AbstractStringBuilder" "coder" "B") (by decide +kernel)) (fun _ h9 => h9) rfl dJ5_newCapacity_0f7a4_24 ?_
  refine lv_ishl hx hb dJ5_newCapacity_0f7a4_27 (lv_topi (fun f3 ef => ?_))
  obtain rfl : f3 = nI (2) := (show f3 = nI (2) <<< ((0 : Int32) &&& 31) from ef).trans (sb_shl0 _)
  refine lv_iadd hx hb dJ5_newCapacity_0f7a4_28 (lv_topi (fun f4 ef => ?_))
  obtain rfl : f4 = nI (m + 2) := (show f4 = nI (m) + nI (2) from ef).trans ((nI_add _ _).trans (congrArg nI (by omega)))
  have hPc := hP.sub (ws' := []) [] rfl
  have hDc := hD.sub (ws' := []) [] (by decide) rfl
  have hFc := va_free (wc := []) hD hS hA [] rfl
  have h_1 : 0 + 0 ≤ 0 := by omega
  have h_2 : 0 + 0 ≤ 0 := by omega
  refine va_calli (va_runS (As := [.int (nI (m)), .int (nI (q - m)), .int (nI (m + 2))]) (rest := []) ⟨hx, hb, hml, hown, hts⟩ (c_J8_newLength_cabcc l D E H.size (m) (q - m) (m + 2) (by omega) (by omega) (by omega) (by omega)) (va_cwS 3 hts gJ5_newCapacity_0f7a4_J8_newLength_cabcc rfl rfl rfl (by decide +kernel) ⟨Nat.le_of_ble_eq_true rfl, Nat.le_of_ble_eq_true rfl⟩) ⟨rf_blind _, fun U hU hW => ⟨rfl, rf_pre hK hPc hDc hZ hN hS hFc U hU hW⟩⟩ rfl rfl hl.1 rfl (lv_room (Nat.le_of_ble_eq_true rfl)) dJ5_newCapacity_0f7a4_29 ⟨h_1, h_2⟩) hS (fun q _ h => hFc q h) hFc (fun r u t H1 locs ht hvm hw hB hz1 hk1 hS => ?_)
  obtain ⟨hP1, hD1⟩ := hB
  rw [ht] at hP1
  try dsimp only at hw hP1 hD1
  obtain rfl := hw
  obtain ⟨hP, hD⟩ := va_join (wr := [(h0, .inr (1, [.ref b0, .int 0, w2, w3])), (b0, .inl (E 0, m, .inl z0))]) (w1 := []) hP hD [] [0, 1] rfl rfl (by decide) (by decide) hk1 hFc hP1 hD1
  clear hPc hDc hFc hP1 hD1 hk1 hz1 ht
  generalize H1 = H at hP hS ⊢
  have hP : va_P D vwCl [(h0, .inr (1, [.ref b0, .int 0, w2, w3])), (b0, .inl (E 0, m, .inl z0))] H := hP
  have hD : va_D A [(h0, .inr (1, [.ref b0, .int 0, w2, w3])), (b0, .inl (E 0, m, .inl z0))] := hD
  refine lv_istore hx hb dJ5_newCapacity_0f7a4_32 hl (Nat.le_of_ble_eq_true rfl) rfl (fun ls hl => ?_)
  have hl : lv_has ls 6 [(5, .int (nI (m + max (q - m) (m + 2)))), (4, .int (nI (q - m))), (3, .int (nI (q))), (2, .int (nI (m))), (0, .ref h0), (1, .int (nI q))] := hl
  refine lv_iload hx hb dJ5_newCapacity_0f7a4_34 (lv_at hl 0 rfl) ?_
  refine lv_ldc (v := 2147483647) hx hb hown (hts (.constant RJ5 39 2147483647) (by decide +kernel)) dJ5_newCapacity_0f7a4_36 ?_
  refine lv_icmp_ne (tgt := 51) hx hb dJ5_newCapacity_0f7a4_38 rfl (fun _ => ?_) (fun h => absurd h (show ¬ nI (m + max (q - m) (m + 2)) = nI 2147483647 from fun h => absurd ((nI_eq (by omega) (by decide)).mp h) (by omega)))
  refine lv_iload hx hb dJ5_newCapacity_0f7a4_51 (lv_at hl 0 rfl) ?_
  refine lv_aload_n hx hb dJ5_newCapacity_0f7a4_53 rfl (lv_at hl 4 rfl) ?_
  refine va_get (D := D) (ci := 1) (v := .int 0) (C := RJ4) (T := TJ4) (N := 4) hx hb hts (by decide +kernel) hown hK hP 0 rfl rfl 1 (by decide) (hts (.fieldLink RJ5 22 "java/lang/AbstractStringBuilder" "coder" "B") (by decide +kernel)) (fun _ h9 => h9) rfl dJ5_newCapacity_0f7a4_54 ?_
  refine lv_ishr hx hb dJ5_newCapacity_0f7a4_57 (lv_topi (fun f5 ef => ?_))
  obtain rfl : f5 = nI (m + max (q - m) (m + 2)) := (show f5 = nI (m + max (q - m) (m + 2)) >>> ((0 : Int32) &&& 31) from ef).trans (sb_shr0 _)
  have hP := hP.sub (ws' := [(h0, .inr (1, [.ref b0, .int 0, w2, w3])), (b0, .inl (E 0, m, .inl z0))]) [0, 1] rfl
  have hD := hD.sub (ws' := [(h0, .inr (1, [.ref b0, .int 0, w2, w3])), (b0, .inl (E 0, m, .inl z0))]) [0, 1] (by decide) rfl
  exact W.iret (v := nI (m + max (q - m) (m + 2))) hx hb hr (fun t ht hW => ⟨⟨nI (m + max (q - m) (m + 2)), (), rfl, rfl, rf_end ht hP hD⟩, hS.F ht⟩) hS.2.2 dJ5_newCapacity_0f7a4_58
set_option maxHeartbeats 4000000 in
set_option maxRecDepth 100000 in
/-- Arrays.copyOf, longer -/
theorem c_J7_copyOf_9075b (l : Launch) (D : va_G) (E : Nat → ClassId) (sz : Nat) (b0 m q : Nat) (hq : q ≤ 1000) (hmq : m < q) : Met l yJ7_copyOf_9075b wsJ7_copyOf_9075b ({ frames := 2, cells := 1, slots := 1000, locals := 200 }) (va_Pc [.ref b0, .int (nI q)] (rf_P D E [(b0, .inl (E 0, m, .inl z0))] sz)) (va_Qr (fun (u : Unit) => True) (fun (u : Unit) (ra : Nat) (t : State) => rf_B D (va_A [(b0, .inl (E 0, m, .inl z0))] sz) [(b0, .inl (E 0, m, .inl z0)), (ra, .inl (E 0, q, .inl z0))] t) (va_A [(b0, .inl (E 0, m, .inl z0))] sz)) 1 1000 (va_A [(b0, .inl (E 0, m, .inl z0))] sz) := by
  refine Met.ofW (cc := cJ7_copyOf_9075b) (maxL := 3) (ret := (some (.array .byte))) (by decide) rfl ?_
  intro p e s mI args below meth c s₁ B hml hv
  obtain ⟨rfl, hsz, hP, hK, hD0, hZ, hN⟩ := hv
  have hx := B.exec
  have hb := B.bytes
  have hr := B.returns
  have hts := atoms_spec (ws := wsJ7_copyOf_9075b) B.pre
  have hown : s.vm.findClass RJ7 = some mI.cls := findClass_of_methodNamed B.named
  have hlocks := B.notSynchronized
  subst hsz
  have hD := hD0.self (sz := s.heap.size)
  generalize hAe : va_A [(b0, .inl (E 0, m, .inl z0))] s.heap.size = A at hD hZ ⊢
  have hA : ∀ q : Nat, s.heap.size ≤ q → A q := fun q h => by rw [← hAe]; exact Or.inr h
  have hS : va_S A s.heap s.heap [] := va_S.rf
  have hl := lv_entry ([.ref b0, .int (nI q)]) (n := 3) (Nat.le_of_ble_eq_true rfl)
  rw [lg_entry_eq]
  generalize (lg_sl ([.ref b0, .int (nI q)]) ++ List.replicate (3 - (lg_sl ([.ref b0, .int (nI q)])).length) Slot.unset).toArray = ls at hl ⊢
  clear hAe hD0
  have hl : lv_has ls 3 [(0, .ref b0), (1, .int (nI q))] := hl
  obtain ⟨H, hH⟩ : ∃ H, H = s.heap := ⟨_, rfl⟩
  rw [← hH] at hP
  have hS : va_S A s.heap H [] := by rw [hH]; exact hS
  refine rf_heap hH ?_
  refine lv_iload_n hx hb dJ7_copyOf_9075b_0 rfl (lv_at hl 1 rfl) ?_
  refine lv_aload_n hx hb dJ7_copyOf_9075b_1 rfl (lv_at hl 0 rfl) ?_
  refine va_alen (v := nI (m)) hx hb hK hP 0 0 rfl rfl rfl dJ7_copyOf_9075b_2 ?_
  refine lv_icmp_ne (tgt := 14) hx hb dJ7_copyOf_9075b_3 rfl (fun _ => ?_) (fun h => absurd h (show ¬ nI (q) = nI (m) from fun h => absurd ((nI_eq (by omega) (by omega)).mp h) (by omega)))
  refine lv_iload_n hx hb dJ7_copyOf_9075b_14 rfl (lv_at hl 1 rfl) ?_
  have h_1 : 0 + 1 ≤ 1 := by omega
  have h_2 : 0 + (q) ≤ 1000 := by omega
  refine va_newa (atype := .byte) (N' := q) (a0 := (q, .inl z0)) hx hb (hts (.arrayClass .byte) (by decide +kernel)) rfl hK hP hD hS hA (fun _ => rfl) (nI_pos (by omega)) (nI_clamp (by omega)) (Nat.le_trans (Nat.mul_le_mul_right _ (show q ≤ 1000 by omega)) (Nat.le_of_ble_eq_true rfl)) h_1 h_2 dJ7_copyOf_9075b_15 (fun q1 cA H hK2 hP hD hS => ?_)
  obtain rfl := rf_byte hK2
  have hP : va_P D vwCl [(b0, .inl (E 0, m, .inl z0)), (q1, .inl (E 0, q, .inl z0))] H := hP
  have hD : va_D A [(b0, .inl (E 0, m, .inl z0)), (q1, .inl (E 0, q, .inl z0))] := hD
  refine W.widen (k := 1) (n := 1000) (by omega) (by omega) ?_
  refine lv_astore_n hx hb dJ7_copyOf_9075b_17 rfl hl (Nat.le_of_ble_eq_true rfl) rfl (fun ls hl => ?_)
  have hl : lv_has ls 3 [(2, .ref q1), (0, .ref b0), (1, .int (nI q))] := hl
  refine lv_aload_n hx hb dJ7_copyOf_9075b_18 rfl (lv_at hl 1 rfl) ?_
  refine lv_iconst (v := nI 0) hx hb dJ7_copyOf_9075b_19 (by decide) ?_
  refine lv_aload_n hx hb dJ7_copyOf_9075b_20 rfl (lv_at hl 0 rfl) ?_
  refine lv_iconst (v := nI 0) hx hb dJ7_copyOf_9075b_21 (by decide) ?_
  refine lv_aload_n hx hb dJ7_copyOf_9075b_22 rfl (lv_at hl 1 rfl) ?_
  refine va_alen (v := nI (m)) hx hb hK hP 0 0 rfl rfl rfl dJ7_copyOf_9075b_23 ?_
  refine lv_iload_n hx hb dJ7_copyOf_9075b_24 rfl (lv_at hl 2 rfl) ?_
  refine va_mmin hx hb (by rw [hml]; exact hl.1.symm) hown (hts (.methodLink RJ7 304 Lib.Math.min.name) (by decide +kernel)) (hts (.static Lib.Math.min.name) (by decide +kernel)) (hts (.initialized "java/lang/Math") (by decide +kernel)) (hts (.code Lib.Math.min.name Lib.Math.min.code 2 (some .int)) (by decide +kernel)) (Nat.le_of_ble_eq_true rfl) (Nat.le_of_ble_eq_true rfl) (show 1 ≤ 1 by omega) (show 1000 ≤ 1000 by omega) dJ7_copyOf_9075b_25 (lv_topi (fun f1 ef => ?_))
  obtain rfl : f1 = nI (m) := by
    rw [ef]
    exact if_neg (nI_nlt (by omega) (by omega))
  refine va_copyi hx hb (by rw [hml]; exact hl.1.symm) hown (hts (.methodLink RJ7 150 arraycopyName) (by decide +kernel)) (hts (.native arraycopyName) (by decide +kernel)) (hts (.static arraycopyName) (by decide +kernel)) (hts (.initialized "java/lang/System") (by decide +kernel)) hK hP hD hS 0 1 0 0 rfl rfl rfl rfl rfl (nI_pos (by omega)) (nI_pos (by omega)) (nI_pos (by omega)) (by rw [nI_clamp (n := 0) (by omega), nI_clamp (n := m) (by omega)]; omega) (by rw [nI_clamp (n := 0) (by omega), nI_clamp (n := m) (by omega)]; omega) (fun _ _ => rfl) (Nat.le_of_ble_eq_true rfl) (Nat.le_of_ble_eq_true rfl) dJ7_copyOf_9075b_28 (fun H locs hP hD hS => ?_)
  rw [rf_cp] at hP hD
  have hP : va_P D vwCl [(b0, .inl (E 0, m, .inl z0)), (q1, .inl (E 0, q, .inl z0))] H := hP
  have hD : va_D A [(b0, .inl (E 0, m, .inl z0)), (q1, .inl (E 0, q, .inl z0))] := hD
  refine lv_aload_n hx hb dJ7_copyOf_9075b_31 rfl (lv_at hl 0 rfl) ?_
  exact W.aret (v := .ref q1) hx hb hr (Or.inr ⟨_, rfl⟩) (Or.inr ⟨_, rfl⟩) (fun t ht hW => ⟨⟨(), q1, rfl, trivial, rf_end ht hP hD⟩, hS.F ht⟩) hS.2.2 dJ7_copyOf_9075b_32
set_option maxHeartbeats 4000000 in
set_option maxRecDepth 100000 in
/-- ensureCapacityInternal: at least q -/
theorem c_J5_ensureCapacityInternal_d00df (l : Launch) (D : va_G) (E : Nat → ClassId) (sz : Nat) (h0 b0 m q : Nat) (w2 w3 : Value) (hm : m ≤ 300) (hq : q ≤ 300) : Met l yJ5_ensureCapacityInternal_d00df wsJ5_ensureCapacityInternal_d00df ({ frames := 4, cells := 1, slots := 1000, locals := 600 }) (va_Pc [.ref h0, .int (nI q)] (rf_P D E [(h0, .inr (1, [.ref b0, .int 0, w2, w3])), (b0, .inl (E 0, m, .inl z0))] sz)) (va_Qv (fun (u : Nat × Nat) => q ≤ u.1 ∧ u.1 ≤ 2 * m + 2 + q) (fun (u : Nat × Nat) (t : State) => rf_B D (va_A [(h0, .inr (1, [.ref b0, .int 0, w2, w3])), (b0, .inl (E 0, m, .inl z0))] sz) [(h0, .inr (1, [.ref u.2, .int 0, w2, w3])), (u.2, .inl (E 0, u.1, .inl z0))] t) (va_A [(h0, .inr (1, [.ref b0, .int 0, w2, w3])), (b0, .inl (E 0, m, .inl z0))] sz)) 1 1000 (va_A [(h0, .inr (1, [.ref b0, .int 0, w2, w3])), (b0, .inl (E 0, m, .inl z0))] sz) := by
  refine Met.ofW (cc := cJ5_ensureCapacityInternal_d00df) (maxL := 3) (ret := none) (by decide) rfl ?_
  intro p e s mI args below meth c s₁ B hml hv
  obtain ⟨rfl, hsz, hP, hK, hD0, hZ, hN⟩ := hv
  have hx := B.exec
  have hb := B.bytes
  have hr := B.returns
  have hts := atoms_spec (ws := wsJ5_ensureCapacityInternal_d00df) B.pre
  have hown : s.vm.findClass RJ5 = some mI.cls := findClass_of_methodNamed B.named
  have hlocks := B.notSynchronized
  subst hsz
  have hD := hD0.self (sz := s.heap.size)
  generalize hAe : va_A [(h0, .inr (1, [.ref b0, .int 0, w2, w3])), (b0, .inl (E 0, m, .inl z0))] s.heap.size = A at hD hZ ⊢
  have hA : ∀ q : Nat, s.heap.size ≤ q → A q := fun q h => by rw [← hAe]; exact Or.inr h
  have hS : va_S A s.heap s.heap [] := va_S.rf
  have hl := lv_entry ([.ref h0, .int (nI q)]) (n := 3) (Nat.le_of_ble_eq_true rfl)
  rw [lg_entry_eq]
  generalize (lg_sl ([.ref h0, .int (nI q)]) ++ List.replicate (3 - (lg_sl ([.ref h0, .int (nI q)])).length) Slot.unset).toArray = ls at hl ⊢
  clear hAe hD0
  have hl : lv_has ls 3 [(0, .ref h0), (1, .int (nI q))] := hl
  obtain ⟨H, hH⟩ : ∃ H, H = s.heap := ⟨_, rfl⟩
  rw [← hH] at hP
  have hS : va_S A s.heap H [] := by rw [hH]; exact hS
  refine rf_heap hH ?_
  refine lv_aload_n hx hb dJ5_ensureCapacityInternal_d00df_0 rfl (lv_at hl 0 rfl) ?_
  refine va_get (D := D) (ci := 1) (v := .ref b0) (C := RJ4) (T := TJ4) (N := 4) hx hb hts (by decide +kernel) hown hK hP 0 rfl rfl 0 (by decide) (hts (.fieldLink RJ5 15 "java/lang/AbstractStringBuilder" "value" "[B") (by decide +kernel)) (fun _ h9 => h9) rfl dJ5_ensureCapacityInternal_d00df_1 ?_
  refine va_alen (v := nI (m)) hx hb hK hP 1 0 rfl rfl rfl dJ5_ensureCapacityInternal_d00df_4 ?_
  refine lv_aload_n hx hb dJ5_ensureCapacityInternal_d00df_5 rfl (lv_at hl 0 rfl) ?_
  refine va_get (D := D) (ci := 1) (v := .int 0) (C := RJ4) (T := TJ4) (N := 4) hx hb hts (by decide +kernel) hown hK hP 0 rfl rfl 1 (by decide) (hts (.fieldLink RJ5 22 "java/lang/AbstractStringBuilder" "coder" "B") (by decide +kernel)) (fun _ h9 => h9) rfl dJ5_ensureCapacityInternal_d00df_6 ?_
  refine lv_ishr hx hb dJ5_ensureCapacityInternal_d00df_9 (lv_topi (fun f1 ef => ?_))
  obtain rfl : f1 = nI (m) := (show f1 = nI (m) >>> ((0 : Int32) &&& 31) from ef).trans (sb_shr0 _)
  refine lv_istore_n hx hb dJ5_ensureCapacityInternal_d00df_10 rfl hl (Nat.le_of_ble_eq_true rfl) rfl (fun ls hl => ?_)
  have hl : lv_has ls 3 [(2, .int (nI (m))), (0, .ref h0), (1, .int (nI q))] := hl
  refine lv_iload_n hx hb dJ5_ensureCapacityInternal_d00df_11 rfl (lv_at hl 2 rfl) ?_
  refine lv_iload_n hx hb dJ5_ensureCapacityInternal_d00df_12 rfl (lv_at hl 0 rfl) ?_
  refine lv_isub hx hb dJ5_ensureCapacityInternal_d00df_13 (lv_topi (fun f ef => ?_))
  have e9 : (nI q - nI m).toInt = (q : Int) - m := pk_sub_toInt (by omega) (by omega)
  by_cases hqm : q ≤ m
  · refine lv_if_le (tgt := 38) hx hb dJ5_ensureCapacityInternal_d00df_14 rfl (fun _ => ?_) (fun h => absurd (by rw [ef, Int32.le_iff_toInt_le, e9, Int32.toInt_zero]; omega) h)
    refine W.widen (k := 1) (n := 1000) (by omega) (by omega) ?_
    have hP := hP.sub (ws' := [(h0, .inr (1, [.ref b0, .int 0, w2, w3])), (b0, .inl (E 0, m, .inl z0))]) [0, 1] rfl
    have hD := hD.sub (ws' := [(h0, .inr (1, [.ref b0, .int 0, w2, w3])), (b0, .inl (E 0, m, .inl z0))]) [0, 1] (by decide) rfl
    exact W.vret hx hb hr (fun t ht hW => ⟨⟨(m, b0), rfl, ⟨hqm, by dsimp only; omega⟩, rf_end ht hP hD⟩, hS.F ht⟩) hS.2.2 dJ5_ensureCapacityInternal_d00df_38
  · refine lv_if_le (tgt := 38) hx hb dJ5_ensureCapacityInternal_d00df_14 rfl (fun h => absurd h (by rw [ef, Int32.le_iff_toInt_le, e9, Int32.toInt_zero]; omega)) (fun _ => ?_)
    refine lv_aload_n hx hb dJ5_ensureCapacityInternal_d00df_17 rfl (lv_at hl 1 rfl) ?_
    refine lv_aload_n hx hb dJ5_ensureCapacityInternal_d00df_18 rfl (lv_at hl 1 rfl) ?_
    refine va_get (D := D) (ci := 1) (v := .ref b0) (C := RJ4) (T := TJ4) (N := 4) hx hb hts (by decide +kernel) hown hK hP 0 rfl rfl 0 (by decide) (hts (.fieldLink RJ5 15 "java/lang/AbstractStringBuilder" "value" "[B") (by decide +kernel)) (fun _ h9 => h9) rfl dJ5_ensureCapacityInternal_d00df_19 ?_
    refine lv_aload_n hx hb dJ5_ensureCapacityInternal_d00df_22 rfl (lv_at hl 1 rfl) ?_
    refine lv_iload_n hx hb dJ5_ensureCapacityInternal_d00df_23 rfl (lv_at hl 2 rfl) ?_
    have hPc := hP.sub (ws' := [(h0, .inr (1, [.ref b0, .int 0, w2, w3])), (b0, .inl (E 0, m, .inl z0))]) [0, 1] rfl
    have hDc := hD.sub (ws' := [(h0, .inr (1, [.ref b0, .int 0, w2, w3])), (b0, .inl (E 0, m, .inl z0))]) [0, 1] (by decide) rfl
    have hFc := va_free (wc := [(h0, .inr (1, [.ref b0, .int 0, w2, w3])), (b0, .inl (E 0, m, .inl z0))]) hD hS hA [0, 1] rfl
    have h_1 : 0 + 0 ≤ 1 := by omega
    have h_2 : 0 + 0 ≤ 1000 := by omega
    refine va_calli (va_runU (As := [.int (nI q)]) (rest := [.ref b0, .ref h0]) ⟨hx, hb, hml, hown, hts⟩ (c_J5_newCapacity_0f7a4 l D E H.size (h0) (b0) (m) (q) (w2) (w3) (by omega) (by omega) (by omega)) (va_cwU 1 hts gJ5_ensureCapacityInternal_d00df_J5_newCapacity_0f7a4_u104J4 rfl rfl rfl rfl (by decide +kernel) ⟨Nat.le_of_ble_eq_true rfl, Nat.le_of_ble_eq_true rfl⟩) ⟨rf_blind _, va_recv hK hPc (ci := 1) (q0 := 0) rfl rfl, fun U hU hW => ⟨rfl, rf_pre hK hPc hDc hZ hN hS hFc U hU hW⟩⟩ rfl rfl hl.1 rfl (lv_room (Nat.le_of_ble_eq_true rfl)) dJ5_ensureCapacityInternal_d00df_24 ⟨h_1, h_2⟩) hS (fun q _ h => hFc q h) hFc (fun r u t H1 locs ht hvm hw hB hz1 hk1 hS => ?_)
    obtain ⟨hP1, hD1⟩ := hB
    rw [ht] at hP1
    try dsimp only at hw hP1 hD1
    obtain rfl := hw
    obtain ⟨hP, hD⟩ := va_join (wr := []) (w1 := [(h0, .inr (1, [.ref b0, .int 0, w2, w3])), (b0, .inl (E 0, m, .inl z0))]) hP hD [0, 1] [] rfl rfl (by decide) (by decide) hk1 hFc hP1 hD1
    clear hPc hDc hFc hP1 hD1 hk1 hz1 ht
    generalize H1 = H at hP hS ⊢
    have hP : va_P D vwCl [(h0, .inr (1, [.ref b0, .int 0, w2, w3])), (b0, .inl (E 0, m, .inl z0))] H := hP
    have hD : va_D A [(h0, .inr (1, [.ref b0, .int 0, w2, w3])), (b0, .inl (E 0, m, .inl z0))] := hD
    refine lv_aload_n hx hb dJ5_ensureCapacityInternal_d00df_27 rfl (lv_at hl 1 rfl) ?_
    refine va_get (D := D) (ci := 1) (v := .int 0) (C := RJ4) (T := TJ4) (N := 4) hx hb hts (by decide +kernel) hown hK hP 0 rfl rfl 1 (by decide) (hts (.fieldLink RJ5 22 "java/lang/AbstractStringBuilder" "coder" "B") (by decide +kernel)) (fun _ h9 => h9) rfl dJ5_ensureCapacityInternal_d00df_28 ?_
    refine lv_ishl hx hb dJ5_ensureCapacityInternal_d00df_31 (lv_topi (fun f2 ef => ?_))
    obtain rfl : f2 = nI (m + max (q - m) (m + 2)) := (show f2 = nI (m + max (q - m) (m + 2)) <<< ((0 : Int32) &&& 31) from ef).trans (sb_shl0 _)
    have hPc := hP.sub (ws' := [(b0, .inl (E 0, m, .inl z0))]) [1] rfl
    have hDc := hD.sub (ws' := [(b0, .inl (E 0, m, .inl z0))]) [1] (by decide) rfl
    have hFc := va_free (wc := [(b0, .inl (E 0, m, .inl z0))]) hD hS hA [1] rfl
    have h_1 : 0 + 1 ≤ 1 := by omega
    have h_2 : 0 + 1000 ≤ 1000 := by omega
    refine va_callr (va_runS (As := [.ref b0, .int (nI (m + max (q - m) (m + 2)))]) (rest := [.ref h0]) ⟨hx, hb, hml, hown, hts⟩ (c_J7_copyOf_9075b l D E H.size (b0) (m) (m + max (q - m) (m + 2)) (by omega) (by omega)) (va_cwS 2 hts gJ5_ensureCapacityInternal_d00df_J7_copyOf_9075b rfl rfl rfl (by decide +kernel) ⟨Nat.le_of_ble_eq_true rfl, Nat.le_of_ble_eq_true rfl⟩) ⟨rf_blind _, fun U hU hW => ⟨rfl, rf_pre hK hPc hDc hZ hN hS hFc U hU hW⟩⟩ rfl rfl hl.1 rfl (lv_room (Nat.le_of_ble_eq_true rfl)) dJ5_ensureCapacityInternal_d00df_32 ⟨h_1, h_2⟩) hS (fun q _ h => hFc q h) hFc (fun u ra t H1 locs ht hvm hw hB hz1 hk1 hS => ?_)
    obtain ⟨hP1, hD1⟩ := hB
    rw [ht] at hP1
    try dsimp only at hw hP1 hD1
    obtain ⟨hP, hD⟩ := va_join (wr := [(h0, .inr (1, [.ref b0, .int 0, w2, w3]))]) (w1 := [(b0, .inl (E 0, m, .inl z0)), (ra, .inl (E 0, m + max (q - m) (m + 2), .inl z0))]) hP hD [1] [0] rfl rfl (by decide) (by decide) hk1 hFc hP1 hD1
    clear hPc hDc hFc hP1 hD1 hk1 hz1 ht
    generalize H1 = H at hP hS ⊢
    have hP : va_P D vwCl [(h0, .inr (1, [.ref b0, .int 0, w2, w3])), (b0, .inl (E 0, m, .inl z0)), (ra, .inl (E 0, m + max (q - m) (m + 2), .inl z0))] H := hP
    have hD : va_D A [(h0, .inr (1, [.ref b0, .int 0, w2, w3])), (b0, .inl (E 0, m, .inl z0)), (ra, .inl (E 0, m + max (q - m) (m + 2), .inl z0))] := hD
    refine W.widen (k := 1) (n := 1000) (by omega) (by omega) ?_
    refine va_put (D := D) (ci := 1) (v := .ref ra) (ty := .array .byte) (C := RJ4) (T := TJ4) (N := 4) hx hb hts (by decide +kernel) tyJ4 tyJ4_ok nmJ4 hown hK hP hD hS 0 rfl rfl 0 (by decide) (hts (.fieldLink RJ5 15 "java/lang/AbstractStringBuilder" "value" "[B") (by decide +kernel)) (fun _ h9 => h9) rfl (by decide +kernel) rfl rfl (Nat.le_of_ble_eq_true rfl) dJ5_ensureCapacityInternal_d00df_35 (fun H locs hP hD hS => ?_)
    have hP : va_P D vwCl [(h0, .inr (1, [.ref ra, .int 0, w2, w3])), (b0, .inl (E 0, m, .inl z0)), (ra, .inl (E 0, m + max (q - m) (m + 2), .inl z0))] H := hP
    have hD : va_D A [(h0, .inr (1, [.ref ra, .int 0, w2, w3])), (b0, .inl (E 0, m, .inl z0)), (ra, .inl (E 0, m + max (q - m) (m + 2), .inl z0))] := hD
    have hP := hP.sub (ws' := [(h0, .inr (1, [.ref ra, .int 0, w2, w3])), (ra, .inl (E 0, m + max (q - m) (m + 2), .inl z0))]) [0, 2] rfl
    have hD := hD.sub (ws' := [(h0, .inr (1, [.ref ra, .int 0, w2, w3])), (ra, .inl (E 0, m + max (q - m) (m + 2), .inl z0))]) [0, 2] (by decide) rfl
    exact W.vret hx hb hr (fun t ht hW => ⟨⟨(m + max (q - m) (m + 2), ra), rfl, ⟨by dsimp only; omega, by dsimp only; omega⟩, rf_end ht hP hD⟩, hS.F ht⟩) hS.2.2 dJ5_ensureCapacityInternal_d00df_38
set_option maxHeartbeats 4000000 in
set_option maxRecDepth 100000 in
/-- String.getBytes into zeros -/
theorem c_J0_getBytes_840e7 (l : Launch) (D : va_G) (E : Nat → ClassId) (sz : Nat) (h0 b0 d0 n m j : Nat) (v2 v3 : Value) (hm : m ≤ 1000) (hj : j + n ≤ m) : Met l yJ0_getBytes_840e7 wsJ0_getBytes_840e7 ({ frames := 3, cells := 0, slots := 0, locals := 400 }) (va_Pc [.ref h0, .ref d0, .int (nI j), .int 0] (rf_P D E [(h0, .inr (0, [.ref b0, .int 0, v2, v3])), (b0, .inl (E 0, n, .inl z0)), (d0, .inl (E 0, m, .inl z0))] sz)) (va_Qv (fun (u : Unit) => True) (fun (u : Unit) (t : State) => rf_B D (va_A [(h0, .inr (0, [.ref b0, .int 0, v2, v3])), (b0, .inl (E 0, n, .inl z0)), (d0, .inl (E 0, m, .inl z0))] sz) [(h0, .inr (0, [.ref b0, .int 0, v2, v3])), (b0, .inl (E 0, n, .inl z0)), (d0, .inl (E 0, m, .inl z0))] t) (va_A [(h0, .inr (0, [.ref b0, .int 0, v2, v3])), (b0, .inl (E 0, n, .inl z0)), (d0, .inl (E 0, m, .inl z0))] sz)) 0 0 (va_A [(h0, .inr (0, [.ref b0, .int 0, v2, v3])), (b0, .inl (E 0, n, .inl z0)), (d0, .inl (E 0, m, .inl z0))] sz) := by
  refine Met.ofW (cc := cJ0_getBytes_840e7) (maxL := 4) (ret := none) (by decide) rfl ?_
  intro p e s mI args below meth c s₁ B hml hv
  obtain ⟨rfl, hsz, hP, hK, hD0, hZ, hN⟩ := hv
  have hx := B.exec
  have hb := B.bytes
  have hr := B.returns
  have hts := atoms_spec (ws := wsJ0_getBytes_840e7) B.pre
  have hown : s.vm.findClass RJ0 = some mI.cls := findClass_of_methodNamed B.named
  have hlocks := B.notSynchronized
  subst hsz
  have hD := hD0.self (sz := s.heap.size)
  generalize hAe : va_A [(h0, .inr (0, [.ref b0, .int 0, v2, v3])), (b0, .inl (E 0, n, .inl z0)), (d0, .inl (E 0, m, .inl z0))] s.heap.size = A at hD hZ ⊢
  have hA : ∀ q : Nat, s.heap.size ≤ q → A q := fun q h => by rw [← hAe]; exact Or.inr h
  have hS : va_S A s.heap s.heap [] := va_S.rf
  have hl := lv_entry ([.ref h0, .ref d0, .int (nI j), .int 0]) (n := 4) (Nat.le_of_ble_eq_true rfl)
  rw [lg_entry_eq]
  generalize (lg_sl ([.ref h0, .ref d0, .int (nI j), .int 0]) ++ List.replicate (4 - (lg_sl ([.ref h0, .ref d0, .int (nI j), .int 0])).length) Slot.unset).toArray = ls at hl ⊢
  clear hAe hD0
  have hl : lv_has ls 4 [(0, .ref h0), (1, .ref d0), (2, .int (nI j)), (3, .int 0)] := hl
  obtain ⟨H, hH⟩ : ∃ H, H = s.heap := ⟨_, rfl⟩
  rw [← hH] at hP
  have hS : va_S A s.heap H [] := by rw [hH]; exact hS
  refine rf_heap hH ?_
  refine lv_aload_n hx hb dJ0_getBytes_840e7_0 rfl (lv_at hl 0 rfl) ?_
  have hPc := hP.sub (ws' := [(h0, .inr (0, [.ref b0, .int 0, v2, v3]))]) [0] rfl
  have hDc := hD.sub (ws' := [(h0, .inr (0, [.ref b0, .int 0, v2, v3]))]) [0] (by decide) rfl
  have hFc := va_free (wc := [(h0, .inr (0, [.ref b0, .int 0, v2, v3]))]) hD hS hA [0] rfl
  have h_1 : 0 + 0 ≤ 0 := by omega
  have h_2 : 0 + 0 ≤ 0 := by omega
  refine va_calli (va_runV (As := []) (rest := []) ⟨hx, hb, hml, hown, hts⟩ (c_J0_coder_7d493 l D E H.size (h0) (.ref b0) (v2) (v3)) (cwV 0 hts gJ0_getBytes_840e7_J0_coder_7d493 rfl rfl rfl (by decide +kernel) ⟨Nat.le_of_ble_eq_true rfl, Nat.le_of_ble_eq_true rfl⟩) ⟨rf_blind _, va_recv hK hPc (ci := 0) (q0 := 0) rfl rfl, fun U hU hW => ⟨rfl, rf_pre hK hPc hDc hZ hN hS hFc U hU hW⟩⟩ rfl rfl hl.1 rfl (lv_room (Nat.le_of_ble_eq_true rfl)) dJ0_getBytes_840e7_1 ⟨h_1, h_2⟩) hS (fun q _ h => hFc q h) hFc (fun r u t H1 locs ht hvm hw hB hz1 hk1 hS => ?_)
  obtain ⟨hP1, hD1⟩ := hB
  rw [ht] at hP1
  try dsimp only at hw hP1 hD1
  obtain rfl := hw
  obtain ⟨hP, hD⟩ := va_join (wr := [(b0, .inl (E 0, n, .inl z0)), (d0, .inl (E 0, m, .inl z0))]) (w1 := [(h0, .inr (0, [.ref b0, .int 0, v2, v3]))]) hP hD [0] [1, 2] rfl rfl (by decide) (by decide) hk1 hFc hP1 hD1
  clear hPc hDc hFc hP1 hD1 hk1 hz1 ht
  generalize H1 = H at hP hS ⊢
  have hP : va_P D vwCl [(b0, .inl (E 0, n, .inl z0)), (d0, .inl (E 0, m, .inl z0)), (h0, .inr (0, [.ref b0, .int 0, v2, v3]))] H := hP
  have hD : va_D A [(b0, .inl (E 0, n, .inl z0)), (d0, .inl (E 0, m, .inl z0)), (h0, .inr (0, [.ref b0, .int 0, v2, v3]))] := hD
  refine lv_iload_n hx hb dJ0_getBytes_840e7_4 rfl (lv_at hl 3 rfl) ?_
  refine lv_icmp_ne (tgt := 28) hx hb dJ0_getBytes_840e7_5 rfl (fun h => absurd (by decide) h) (fun _ => ?_)
  refine lv_aload_n hx hb dJ0_getBytes_840e7_8 rfl (lv_at hl 0 rfl) ?_
  refine va_get (D := D) (ci := 0) (v := .ref b0) (C := RJ0) (T := TJ0) (N := 4) hx hb hts (by decide +kernel) hown hK hP 2 rfl rfl 0 (by decide) (hts (.fieldLink RJ0 9 "java/lang/String" "value" "[B") (by decide +kernel)) (fun _ h9 => h9) rfl dJ0_getBytes_840e7_9 ?_
  refine lv_iconst (v := nI 0) hx hb dJ0_getBytes_840e7_12 (by decide) ?_
  refine lv_aload_n hx hb dJ0_getBytes_840e7_13 rfl (lv_at hl 1 rfl) ?_
  refine lv_iload_n hx hb dJ0_getBytes_840e7_14 rfl (lv_at hl 2 rfl) ?_
  refine lv_iload_n hx hb dJ0_getBytes_840e7_15 rfl (lv_at hl 3 rfl) ?_
  refine lv_ishl hx hb dJ0_getBytes_840e7_16 (lv_topi (fun f1 ef => ?_))
  obtain rfl : f1 = nI (j) := (show f1 = nI (j) <<< ((0 : Int32) &&& 31) from ef).trans (sb_shl0 _)
  refine lv_aload_n hx hb dJ0_getBytes_840e7_17 rfl (lv_at hl 0 rfl) ?_
  refine va_get (D := D) (ci := 0) (v := .ref b0) (C := RJ0) (T := TJ0) (N := 4) hx hb hts (by decide +kernel) hown hK hP 2 rfl rfl 0 (by decide) (hts (.fieldLink RJ0 9 "java/lang/String" "value" "[B") (by decide +kernel)) (fun _ h9 => h9) rfl dJ0_getBytes_840e7_18 ?_
  refine va_alen (v := nI (n)) hx hb hK hP 0 0 rfl rfl rfl dJ0_getBytes_840e7_21 ?_
  refine va_copyi hx hb (by rw [hml]; exact hl.1.symm) hown (hts (.methodLink RJ0 212 arraycopyName) (by decide +kernel)) (hts (.native arraycopyName) (by decide +kernel)) (hts (.static arraycopyName) (by decide +kernel)) (hts (.initialized "java/lang/System") (by decide +kernel)) hK hP hD hS 0 1 0 0 rfl rfl rfl rfl rfl (nI_pos (by omega)) (nI_pos (by omega)) (nI_pos (by omega)) (by rw [nI_clamp (n := 0) (by omega), nI_clamp (n := n) (by omega)]; omega) (by rw [nI_clamp (n := j) (by omega), nI_clamp (n := n) (by omega)]; omega) (fun _ _ => rfl) (Nat.le_of_ble_eq_true rfl) (Nat.le_of_ble_eq_true rfl) dJ0_getBytes_840e7_22 (fun H locs hP hD hS => ?_)
  rw [rf_cp] at hP hD
  have hP : va_P D vwCl [(b0, .inl (E 0, n, .inl z0)), (d0, .inl (E 0, m, .inl z0)), (h0, .inr (0, [.ref b0, .int 0, v2, v3]))] H := hP
  have hD : va_D A [(b0, .inl (E 0, n, .inl z0)), (d0, .inl (E 0, m, .inl z0)), (h0, .inr (0, [.ref b0, .int 0, v2, v3]))] := hD
  refine lv_goto (tgt := 43) hx hb dJ0_getBytes_840e7_25 rfl ?_
  have hP := hP.sub (ws' := [(h0, .inr (0, [.ref b0, .int 0, v2, v3])), (b0, .inl (E 0, n, .inl z0)), (d0, .inl (E 0, m, .inl z0))]) [2, 0, 1] rfl
  have hD := hD.sub (ws' := [(h0, .inr (0, [.ref b0, .int 0, v2, v3])), (b0, .inl (E 0, n, .inl z0)), (d0, .inl (E 0, m, .inl z0))]) [2, 0, 1] (by decide) rfl
  exact W.vret hx hb hr (fun t ht hW => ⟨⟨(), rfl, trivial, rf_end ht hP hD⟩, hS.F ht⟩) hS.2.2 dJ0_getBytes_840e7_43
set_option maxHeartbeats 4000000 in
set_option maxRecDepth 100000 in
/-- inflateIfNeededFor: nothing -/
theorem c_J5_inflateIfNeededFor_a7421 (l : Launch) (D : va_G) (E : Nat → ClassId) (sz : Nat) (h0 g0 : Nat) (w0 w2 w3 v0 v2 v3 : Value)  : Met l yJ5_inflateIfNeededFor_a7421 wsJ5_inflateIfNeededFor_a7421 ({ frames := 3, cells := 0, slots := 0, locals := 400 }) (va_Pc [.ref h0, .ref g0] (rf_P D E [(h0, .inr (1, [w0, .int 0, w2, w3])), (g0, .inr (0, [v0, .int 0, v2, v3]))] sz)) (va_Qv (fun (u : Unit) => True) (fun (u : Unit) (t : State) => rf_B D (va_A [(h0, .inr (1, [w0, .int 0, w2, w3])), (g0, .inr (0, [v0, .int 0, v2, v3]))] sz) [(h0, .inr (1, [w0, .int 0, w2, w3])), (g0, .inr (0, [v0, .int 0, v2, v3]))] t) (va_A [(h0, .inr (1, [w0, .int 0, w2, w3])), (g0, .inr (0, [v0, .int 0, v2, v3]))] sz)) 0 0 (va_A [(h0, .inr (1, [w0, .int 0, w2, w3])), (g0, .inr (0, [v0, .int 0, v2, v3]))] sz) := by
  refine Met.ofW (cc := cJ5_inflateIfNeededFor_a7421) (maxL := 2) (ret := none) (by decide) rfl ?_
  intro p e s mI args below meth c s₁ B hml hv
  obtain ⟨rfl, hsz, hP, hK, hD0, hZ, hN⟩ := hv
  have hx := B.exec
  have hb := B.bytes
  have hr := B.returns
  have hts := atoms_spec (ws := wsJ5_inflateIfNeededFor_a7421) B.pre
  have hown : s.vm.findClass RJ5 = some mI.cls := findClass_of_methodNamed B.named
  have hlocks := B.notSynchronized
  subst hsz
  have hD := hD0.self (sz := s.heap.size)
  generalize hAe : va_A [(h0, .inr (1, [w0, .int 0, w2, w3])), (g0, .inr (0, [v0, .int 0, v2, v3]))] s.heap.size = A at hD hZ ⊢
  have hA : ∀ q : Nat, s.heap.size ≤ q → A q := fun q h => by rw [← hAe]; exact Or.inr h
  have hS : va_S A s.heap s.heap [] := va_S.rf
  have hl := lv_entry ([.ref h0, .ref g0]) (n := 2) (Nat.le_of_ble_eq_true rfl)
  rw [lg_entry_eq]
  generalize (lg_sl ([.ref h0, .ref g0]) ++ List.replicate (2 - (lg_sl ([.ref h0, .ref g0])).length) Slot.unset).toArray = ls at hl ⊢
  clear hAe hD0
  have hl : lv_has ls 2 [(0, .ref h0), (1, .ref g0)] := hl
  obtain ⟨H, hH⟩ : ∃ H, H = s.heap := ⟨_, rfl⟩
  rw [← hH] at hP
  have hS : va_S A s.heap H [] := by rw [hH]; exact hS
  refine rf_heap hH ?_
  refine va_gets hx hb hZ hS hown (hts (.fieldLink RJ5 18 "java/lang/String" "COMPACT_STRINGS" "Z") (by decide +kernel)) (fun _ h9 => h9) dJ5_inflateIfNeededFor_a7421_0 ?_
  refine lv_if_eq (tgt := 21) hx hb dJ5_inflateIfNeededFor_a7421_3 rfl (fun h => absurd h (by decide)) (fun _ => ?_)
  refine lv_aload_n hx hb dJ5_inflateIfNeededFor_a7421_6 rfl (lv_at hl 0 rfl) ?_
  refine va_get (D := D) (ci := 1) (v := .int 0) (C := RJ4) (T := TJ4) (N := 4) hx hb hts (by decide +kernel) hown hK hP 0 rfl rfl 1 (by decide) (hts (.fieldLink RJ5 22 "java/lang/AbstractStringBuilder" "coder" "B") (by decide +kernel)) (fun _ h9 => h9) rfl dJ5_inflateIfNeededFor_a7421_7 ?_
  refine lv_aload_n hx hb dJ5_inflateIfNeededFor_a7421_10 rfl (lv_at hl 1 rfl) ?_
  have hPc := hP.sub (ws' := [(g0, .inr (0, [v0, .int 0, v2, v3]))]) [1] rfl
  have hDc := hD.sub (ws' := [(g0, .inr (0, [v0, .int 0, v2, v3]))]) [1] (by decide) rfl
  have hFc := va_free (wc := [(g0, .inr (0, [v0, .int 0, v2, v3]))]) hD hS hA [1] rfl
  have h_1 : 0 + 0 ≤ 0 := by omega
  have h_2 : 0 + 0 ≤ 0 := by omega
  refine va_calli (va_runV (As := []) (rest := [.int 0]) ⟨hx, hb, hml, hown, hts⟩ (c_J0_coder_7d493 l D E H.size (g0) (v0) (v2) (v3)) (cwV 0 hts gJ5_inflateIfNeededFor_a7421_J0_coder_7d493 rfl rfl rfl (by decide +kernel) ⟨Nat.le_of_ble_eq_true rfl, Nat.le_of_ble_eq_true rfl⟩) ⟨rf_blind _, va_recv hK hPc (ci := 0) (q0 := 0) rfl rfl, fun U hU hW => ⟨rfl, rf_pre hK hPc hDc hZ hN hS hFc U hU hW⟩⟩ rfl rfl hl.1 rfl (lv_room (Nat.le_of_ble_eq_true rfl)) dJ5_inflateIfNeededFor_a7421_11 ⟨h_1, h_2⟩) hS (fun q _ h => hFc q h) hFc (fun r u t H1 locs ht hvm hw hB hz1 hk1 hS => ?_)
  obtain ⟨hP1, hD1⟩ := hB
  rw [ht] at hP1
  try dsimp only at hw hP1 hD1
  obtain rfl := hw
  obtain ⟨hP, hD⟩ := va_join (wr := [(h0, .inr (1, [w0, .int 0, w2, w3]))]) (w1 := [(g0, .inr (0, [v0, .int 0, v2, v3]))]) hP hD [1] [0] rfl rfl (by decide) (by decide) hk1 hFc hP1 hD1
  clear hPc hDc hFc hP1 hD1 hk1 hz1 ht
  generalize H1 = H at hP hS ⊢
  have hP : va_P D vwCl [(h0, .inr (1, [w0, .int 0, w2, w3])), (g0, .inr (0, [v0, .int 0, v2, v3]))] H := hP
  have hD : va_D A [(h0, .inr (1, [w0, .int 0, w2, w3])), (g0, .inr (0, [v0, .int 0, v2, v3]))] := hD
  refine lv_icmp_eq (tgt := 21) hx hb dJ5_inflateIfNeededFor_a7421_14 rfl (fun _ => ?_) (fun h => absurd (by decide) h)
  have hP := hP.sub (ws' := [(h0, .inr (1, [w0, .int 0, w2, w3])), (g0, .inr (0, [v0, .int 0, v2, v3]))]) [0, 1] rfl
  have hD := hD.sub (ws' := [(h0, .inr (1, [w0, .int 0, w2, w3])), (g0, .inr (0, [v0, .int 0, v2, v3]))]) [0, 1] (by decide) rfl
  exact W.vret hx hb hr (fun t ht hW => ⟨⟨(), rfl, trivial, rf_end ht hP hD⟩, hS.F ht⟩) hS.2.2 dJ5_inflateIfNeededFor_a7421_21
set_option maxHeartbeats 4000000 in
set_option maxRecDepth 100000 in
/-- putStringAt -/
theorem c_J5_putStringAt_47b60 (l : Launch) (D : va_G) (E : Nat → ClassId) (sz : Nat) (h0 b0 g0 c0 n m j : Nat) (w2 w3 v2 v3 : Value) (hm : m ≤ 1000) (hj : j + n ≤ m) : Met l yJ5_putStringAt_47b60 wsJ5_putStringAt_47b60 ({ frames := 4, cells := 0, slots := 0, locals := 600 }) (va_Pc [.ref h0, .int (nI j), .ref g0] (rf_P D E [(h0, .inr (1, [.ref b0, .int 0, w2, w3])), (b0, .inl (E 0, m, .inl z0)), (g0, .inr (0, [.ref c0, .int 0, v2, v3])), (c0, .inl (E 0, n, .inl z0))] sz)) (va_Qv (fun (u : Unit) => True) (fun (u : Unit) (t : State) => rf_B D (va_A [(h0, .inr (1, [.ref b0, .int 0, w2, w3])), (b0, .inl (E 0, m, .inl z0)), (g0, .inr (0, [.ref c0, .int 0, v2, v3])), (c0, .inl (E 0, n, .inl z0))] sz) [(h0, .inr (1, [.ref b0, .int 0, w2, w3])), (b0, .inl (E 0, m, .inl z0)), (g0, .inr (0, [.ref c0, .int 0, v2, v3])), (c0, .inl (E 0, n, .inl z0))] t) (va_A [(h0, .inr (1, [.ref b0, .int 0, w2, w3])), (b0, .inl (E 0, m, .inl z0)), (g0, .inr (0, [.ref c0, .int 0, v2, v3])), (c0, .inl (E 0, n, .inl z0))] sz)) 0 0 (va_A [(h0, .inr (1, [.ref b0, .int 0, w2, w3])), (b0, .inl (E 0, m, .inl z0)), (g0, .inr (0, [.ref c0, .int 0, v2, v3])), (c0, .inl (E 0, n, .inl z0))] sz) := by
  refine Met.ofW (cc := cJ5_putStringAt_47b60) (maxL := 3) (ret := none) (by decide) rfl ?_
  intro p e s mI args below meth c s₁ B hml hv
  obtain ⟨rfl, hsz, hP, hK, hD0, hZ, hN⟩ := hv
  have hx := B.exec
  have hb := B.bytes
  have hr := B.returns
  have hts := atoms_spec (ws := wsJ5_putStringAt_47b60) B.pre
  have hown : s.vm.findClass RJ5 = some mI.cls := findClass_of_methodNamed B.named
  have hlocks := B.notSynchronized
  subst hsz
  have hD := hD0.self (sz := s.heap.size)
  generalize hAe : va_A [(h0, .inr (1, [.ref b0, .int 0, w2, w3])), (b0, .inl (E 0, m, .inl z0)), (g0, .inr (0, [.ref c0, .int 0, v2, v3])), (c0, .inl (E 0, n, .inl z0))] s.heap.size = A at hD hZ ⊢
  have hA : ∀ q : Nat, s.heap.size ≤ q → A q := fun q h => by rw [← hAe]; exact Or.inr h
  have hS : va_S A s.heap s.heap [] := va_S.rf
  have hl := lv_entry ([.ref h0, .int (nI j), .ref g0]) (n := 3) (Nat.le_of_ble_eq_true rfl)
  rw [lg_entry_eq]
  generalize (lg_sl ([.ref h0, .int (nI j), .ref g0]) ++ List.replicate (3 - (lg_sl ([.ref h0, .int (nI j), .ref g0])).length) Slot.unset).toArray = ls at hl ⊢
  clear hAe hD0
  have hl : lv_has ls 3 [(0, .ref h0), (1, .int (nI j)), (2, .ref g0)] := hl
  obtain ⟨H, hH⟩ : ∃ H, H = s.heap := ⟨_, rfl⟩
  rw [← hH] at hP
  have hS : va_S A s.heap H [] := by rw [hH]; exact hS
  refine rf_heap hH ?_
  refine lv_aload_n hx hb dJ5_putStringAt_47b60_0 rfl (lv_at hl 0 rfl) ?_
  refine lv_aload_n hx hb dJ5_putStringAt_47b60_1 rfl (lv_at hl 2 rfl) ?_
  have hPc := hP.sub (ws' := [(h0, .inr (1, [.ref b0, .int 0, w2, w3])), (g0, .inr (0, [.ref c0, .int 0, v2, v3]))]) [0, 2] rfl
  have hDc := hD.sub (ws' := [(h0, .inr (1, [.ref b0, .int 0, w2, w3])), (g0, .inr (0, [.ref c0, .int 0, v2, v3]))]) [0, 2] (by decide) rfl
  have hFc := va_free (wc := [(h0, .inr (1, [.ref b0, .int 0, w2, w3])), (g0, .inr (0, [.ref c0, .int 0, v2, v3]))]) hD hS hA [0, 2] rfl
  have h_1 : 0 + 0 ≤ 0 := by omega
  have h_2 : 0 + 0 ≤ 0 := by omega
  refine va_callv (va_runU (As := [.ref g0]) (rest := []) ⟨hx, hb, hml, hown, hts⟩ (c_J5_inflateIfNeededFor_a7421 l D E H.size (h0) (g0) (.ref b0) (w2) (w3) (.ref c0) (v2) (v3)) (va_cwU 1 hts gJ5_putStringAt_47b60_J5_inflateIfNeededFor_a7421_u397J4 rfl rfl rfl rfl (by decide +kernel) ⟨Nat.le_of_ble_eq_true rfl, Nat.le_of_ble_eq_true rfl⟩) ⟨rf_blind _, va_recv hK hPc (ci := 1) (q0 := 0) rfl rfl, fun U hU hW => ⟨rfl, rf_pre hK hPc hDc hZ hN hS hFc U hU hW⟩⟩ rfl rfl hl.1 rfl (lv_room (Nat.le_of_ble_eq_true rfl)) dJ5_putStringAt_47b60_2 ⟨h_1, h_2⟩) hS (fun q _ h => hFc q h) hFc (fun u t H1 locs ht hvm hw hB hz1 hk1 hS => ?_)
  obtain ⟨hP1, hD1⟩ := hB
  rw [ht] at hP1
  try dsimp only at hw hP1 hD1
  obtain ⟨hP, hD⟩ := va_join (wr := [(b0, .inl (E 0, m, .inl z0)), (c0, .inl (E 0, n, .inl z0))]) (w1 := [(h0, .inr (1, [.ref b0, .int 0, w2, w3])), (g0, .inr (0, [.ref c0, .int 0, v2, v3]))]) hP hD [0, 2] [1, 3] rfl rfl (by decide) (by decide) hk1 hFc hP1 hD1
  clear hPc hDc hFc hP1 hD1 hk1 hz1 ht
  generalize H1 = H at hP hS ⊢
  have hP : va_P D vwCl [(b0, .inl (E 0, m, .inl z0)), (c0, .inl (E 0, n, .inl z0)), (h0, .inr (1, [.ref b0, .int 0, w2, w3])), (g0, .inr (0, [.ref c0, .int 0, v2, v3]))] H := hP
  have hD : va_D A [(b0, .inl (E 0, m, .inl z0)), (c0, .inl (E 0, n, .inl z0)), (h0, .inr (1, [.ref b0, .int 0, w2, w3])), (g0, .inr (0, [.ref c0, .int 0, v2, v3]))] := hD
  refine lv_aload_n hx hb dJ5_putStringAt_47b60_5 rfl (lv_at hl 2 rfl) ?_
  refine lv_aload_n hx hb dJ5_putStringAt_47b60_6 rfl (lv_at hl 0 rfl) ?_
  refine va_get (D := D) (ci := 1) (v := .ref b0) (C := RJ4) (T := TJ4) (N := 4) hx hb hts (by decide +kernel) hown hK hP 2 rfl rfl 0 (by decide) (hts (.fieldLink RJ5 15 "java/lang/AbstractStringBuilder" "value" "[B") (by decide +kernel)) (fun _ h9 => h9) rfl dJ5_putStringAt_47b60_7 ?_
  refine lv_iload_n hx hb dJ5_putStringAt_47b60_10 rfl (lv_at hl 1 rfl) ?_
  refine lv_aload_n hx hb dJ5_putStringAt_47b60_11 rfl (lv_at hl 0 rfl) ?_
  refine va_get (D := D) (ci := 1) (v := .int 0) (C := RJ4) (T := TJ4) (N := 4) hx hb hts (by decide +kernel) hown hK hP 2 rfl rfl 1 (by decide) (hts (.fieldLink RJ5 22 "java/lang/AbstractStringBuilder" "coder" "B") (by decide +kernel)) (fun _ h9 => h9) rfl dJ5_putStringAt_47b60_12 ?_
  have hPc := hP.sub (ws' := [(g0, .inr (0, [.ref c0, .int 0, v2, v3])), (c0, .inl (E 0, n, .inl z0)), (b0, .inl (E 0, m, .inl z0))]) [3, 1, 0] rfl
  have hDc := hD.sub (ws' := [(g0, .inr (0, [.ref c0, .int 0, v2, v3])), (c0, .inl (E 0, n, .inl z0)), (b0, .inl (E 0, m, .inl z0))]) [3, 1, 0] (by decide) rfl
  have hFc := va_free (wc := [(g0, .inr (0, [.ref c0, .int 0, v2, v3])), (c0, .inl (E 0, n, .inl z0)), (b0, .inl (E 0, m, .inl z0))]) hD hS hA [3, 1, 0] rfl
  have h_1 : 0 + 0 ≤ 0 := by omega
  have h_2 : 0 + 0 ≤ 0 := by omega
  refine va_callv (va_runV (As := [.ref b0, .int (nI j), .int 0]) (rest := []) ⟨hx, hb, hml, hown, hts⟩ (c_J0_getBytes_840e7 l D E H.size (g0) (c0) (b0) (n) (m) (j) (v2) (v3) (by omega) (by omega)) (cwV 3 hts gJ5_putStringAt_47b60_J0_getBytes_840e7 rfl rfl rfl (by decide +kernel) ⟨Nat.le_of_ble_eq_true rfl, Nat.le_of_ble_eq_true rfl⟩) ⟨rf_blind _, va_recv hK hPc (ci := 0) (q0 := 0) rfl rfl, fun U hU hW => ⟨rfl, rf_pre hK hPc hDc hZ hN hS hFc U hU hW⟩⟩ rfl rfl hl.1 rfl (lv_room (Nat.le_of_ble_eq_true rfl)) dJ5_putStringAt_47b60_15 ⟨h_1, h_2⟩) hS (fun q _ h => hFc q h) hFc (fun u t H1 locs ht hvm hw hB hz1 hk1 hS => ?_)
  obtain ⟨hP1, hD1⟩ := hB
  rw [ht] at hP1
  try dsimp only at hw hP1 hD1
  obtain ⟨hP, hD⟩ := va_join (wr := [(h0, .inr (1, [.ref b0, .int 0, w2, w3]))]) (w1 := [(g0, .inr (0, [.ref c0, .int 0, v2, v3])), (c0, .inl (E 0, n, .inl z0)), (b0, .inl (E 0, m, .inl z0))]) hP hD [3, 1, 0] [2] rfl rfl (by decide) (by decide) hk1 hFc hP1 hD1
  clear hPc hDc hFc hP1 hD1 hk1 hz1 ht
  generalize H1 = H at hP hS ⊢
  have hP : va_P D vwCl [(h0, .inr (1, [.ref b0, .int 0, w2, w3])), (g0, .inr (0, [.ref c0, .int 0, v2, v3])), (c0, .inl (E 0, n, .inl z0)), (b0, .inl (E 0, m, .inl z0))] H := hP
  have hD : va_D A [(h0, .inr (1, [.ref b0, .int 0, w2, w3])), (g0, .inr (0, [.ref c0, .int 0, v2, v3])), (c0, .inl (E 0, n, .inl z0)), (b0, .inl (E 0, m, .inl z0))] := hD
  have hP := hP.sub (ws' := [(h0, .inr (1, [.ref b0, .int 0, w2, w3])), (b0, .inl (E 0, m, .inl z0)), (g0, .inr (0, [.ref c0, .int 0, v2, v3])), (c0, .inl (E 0, n, .inl z0))]) [0, 3, 1, 2] rfl
  have hD := hD.sub (ws' := [(h0, .inr (1, [.ref b0, .int 0, w2, w3])), (b0, .inl (E 0, m, .inl z0)), (g0, .inr (0, [.ref c0, .int 0, v2, v3])), (c0, .inl (E 0, n, .inl z0))]) [0, 3, 1, 2] (by decide) rfl
  exact W.vret hx hb hr (fun t ht hW => ⟨⟨(), rfl, trivial, rf_end ht hP hD⟩, hS.F ht⟩) hS.2.2 dJ5_putStringAt_47b60_18
set_option maxHeartbeats 4000000 in
set_option maxRecDepth 100000 in
/-- append(String) to an empty builder -/
theorem c_J5_append_cf1ce (l : Launch) (D : va_G) (E : Nat → ClassId) (sz : Nat) (h0 b0 g0 c0 n m : Nat) (w2 v2 v3 : Value) (hm : m ≤ 16) (hn : n ≤ 200) : Met l yJ5_append_cf1ce wsJ5_append_cf1ce ({ frames := 6, cells := 1, slots := 1000, locals := 1000 }) (va_Pc [.ref h0, .ref g0] (rf_P D E [(h0, .inr (1, [.ref b0, .int 0, w2, .int (nI (0))])), (b0, .inl (E 0, m, .inl z0)), (g0, .inr (0, [.ref c0, .int 0, v2, v3])), (c0, .inl (E 0, n, .inl z0))] sz)) (va_Qr (fun (u : Nat × Nat) => n ≤ u.1 ∧ u.1 ≤ 2 * m + 2 + n) (fun (u : Nat × Nat) (ra : Nat) (t : State) => ra = h0 ∧ rf_B D (va_A [(h0, .inr (1, [.ref b0, .int 0, w2, .int (nI (0))])), (b0, .inl (E 0, m, .inl z0)), (g0, .inr (0, [.ref c0, .int 0, v2, v3])), (c0, .inl (E 0, n, .inl z0))] sz) [(h0, .inr (1, [.ref u.2, .int 0, w2, .int (nI n)])), (u.2, .inl (E 0, u.1, .inl z0)), (g0, .inr (0, [.ref c0, .int 0, v2, v3])), (c0, .inl (E 0, n, .inl z0))] t) (va_A [(h0, .inr (1, [.ref b0, .int 0, w2, .int (nI (0))])), (b0, .inl (E 0, m, .inl z0)), (g0, .inr (0, [.ref c0, .int 0, v2, v3])), (c0, .inl (E 0, n, .inl z0))] sz)) 1 1000 (va_A [(h0, .inr (1, [.ref b0, .int 0, w2, .int (nI (0))])), (b0, .inl (E 0, m, .inl z0)), (g0, .inr (0, [.ref c0, .int 0, v2, v3])), (c0, .inl (E 0, n, .inl z0))] sz) := by
  refine Met.ofW (cc := cJ5_append_cf1ce) (maxL := 3) (ret := (some (.object "java/lang/AbstractStringBuilder"))) (by decide) rfl ?_
  intro p e s mI args below meth c s₁ B hml hv
  obtain ⟨rfl, hsz, hP, hK, hD0, hZ, hN⟩ := hv
  have hx := B.exec
  have hb := B.bytes
  have hr := B.returns
  have hts := atoms_spec (ws := wsJ5_append_cf1ce) B.pre
  have hown : s.vm.findClass RJ5 = some mI.cls := findClass_of_methodNamed B.named
  have hlocks := B.notSynchronized
  subst hsz
  have hD := hD0.self (sz := s.heap.size)
  generalize hAe : va_A [(h0, .inr (1, [.ref b0, .int 0, w2, .int (nI (0))])), (b0, .inl (E 0, m, .inl z0)), (g0, .inr (0, [.ref c0, .int 0, v2, v3])), (c0, .inl (E 0, n, .inl z0))] s.heap.size = A at hD hZ ⊢
  have hA : ∀ q : Nat, s.heap.size ≤ q → A q := fun q h => by rw [← hAe]; exact Or.inr h
  have hS : va_S A s.heap s.heap [] := va_S.rf
  have hl := lv_entry ([.ref h0, .ref g0]) (n := 3) (Nat.le_of_ble_eq_true rfl)
  rw [lg_entry_eq]
  generalize (lg_sl ([.ref h0, .ref g0]) ++ List.replicate (3 - (lg_sl ([.ref h0, .ref g0])).length) Slot.unset).toArray = ls at hl ⊢
  clear hAe hD0
  have hl : lv_has ls 3 [(0, .ref h0), (1, .ref g0)] := hl
  obtain ⟨H, hH⟩ : ∃ H, H = s.heap := ⟨_, rfl⟩
  rw [← hH] at hP
  have hS : va_S A s.heap H [] := by rw [hH]; exact hS
  refine rf_heap hH ?_
  refine lv_aload_n hx hb dJ5_append_cf1ce_0 rfl (lv_at hl 1 rfl) ?_
  refine lv_ifnonnull (tgt := 9) hx hb dJ5_append_cf1ce_1 rfl ?_
  refine lv_aload_n hx hb dJ5_append_cf1ce_9 rfl (lv_at hl 1 rfl) ?_
  have hPc := hP.sub (ws' := [(g0, .inr (0, [.ref c0, .int 0, v2, v3])), (c0, .inl (E 0, n, .inl z0))]) [2, 3] rfl
  have hDc := hD.sub (ws' := [(g0, .inr (0, [.ref c0, .int 0, v2, v3])), (c0, .inl (E 0, n, .inl z0))]) [2, 3] (by decide) rfl
  have hFc := va_free (wc := [(g0, .inr (0, [.ref c0, .int 0, v2, v3])), (c0, .inl (E 0, n, .inl z0))]) hD hS hA [2, 3] rfl
  have h_1 : 0 + 0 ≤ 1 := by omega
  have h_2 : 0 + 0 ≤ 1000 := by omega
  refine va_calli (va_runV (As := []) (rest := []) ⟨hx, hb, hml, hown, hts⟩ (c_J0_length_8abf5 l D E H.size (g0) (c0) (n) (v2) (v3) (by omega)) (cwV 0 hts gJ5_append_cf1ce_J0_length_8abf5 rfl rfl rfl (by decide +kernel) ⟨Nat.le_of_ble_eq_true rfl, Nat.le_of_ble_eq_true rfl⟩) ⟨rf_blind _, va_recv hK hPc (ci := 0) (q0 := 0) rfl rfl, fun U hU hW => ⟨rfl, rf_pre hK hPc hDc hZ hN hS hFc U hU hW⟩⟩ rfl rfl hl.1 rfl (lv_room (Nat.le_of_ble_eq_true rfl)) dJ5_append_cf1ce_10 ⟨h_1, h_2⟩) hS (fun q _ h => hFc q h) hFc (fun r u t H1 locs ht hvm hw hB hz1 hk1 hS => ?_)
  obtain ⟨hP1, hD1⟩ := hB
  rw [ht] at hP1
  try dsimp only at hw hP1 hD1
  obtain rfl := hw
  obtain ⟨hP, hD⟩ := va_join (wr := [(h0, .inr (1, [.ref b0, .int 0, w2, .int (nI (0))])), (b0, .inl (E 0, m, .inl z0))]) (w1 := [(g0, .inr (0, [.ref c0, .int 0, v2, v3])), (c0, .inl (E 0, n, .inl z0))]) hP hD [2, 3] [0, 1] rfl rfl (by decide) (by decide) hk1 hFc hP1 hD1
  clear hPc hDc hFc hP1 hD1 hk1 hz1 ht
  generalize H1 = H at hP hS ⊢
  have hP : va_P D vwCl [(h0, .inr (1, [.ref b0, .int 0, w2, .int (nI (0))])), (b0, .inl (E 0, m, .inl z0)), (g0, .inr (0, [.ref c0, .int 0, v2, v3])), (c0, .inl (E 0, n, .inl z0))] H := hP
  have hD : va_D A [(h0, .inr (1, [.ref b0, .int 0, w2, .int (nI (0))])), (b0, .inl (E 0, m, .inl z0)), (g0, .inr (0, [.ref c0, .int 0, v2, v3])), (c0, .inl (E 0, n, .inl z0))] := hD
  refine lv_istore_n hx hb dJ5_append_cf1ce_13 rfl hl (Nat.le_of_ble_eq_true rfl) rfl (fun ls hl => ?_)
  have hl : lv_has ls 3 [(2, .int (nI (n))), (0, .ref h0), (1, .ref g0)] := hl
  refine lv_aload_n hx hb dJ5_append_cf1ce_14 rfl (lv_at hl 1 rfl) ?_
  refine lv_aload_n hx hb dJ5_append_cf1ce_15 rfl (lv_at hl 1 rfl) ?_
  refine va_get (D := D) (ci := 1) (v := .int (nI (0))) (C := RJ4) (T := TJ4) (N := 4) hx hb hts (by decide +kernel) hown hK hP 0 rfl rfl 3 (by decide) (hts (.fieldLink RJ5 79 "java/lang/AbstractStringBuilder" "count" "I") (by decide +kernel)) (fun _ h9 => h9) rfl dJ5_append_cf1ce_16 ?_
  refine lv_iload_n hx hb dJ5_append_cf1ce_19 rfl (lv_at hl 0 rfl) ?_
  refine lv_iadd hx hb dJ5_append_cf1ce_20 (lv_topi (fun f1 ef => ?_))
  obtain rfl : f1 = nI (n) := (show f1 = nI (0) + nI (n) from ef).trans ((nI_add _ _).trans (congrArg nI (by omega)))
  have hPc := hP.sub (ws' := [(h0, .inr (1, [.ref b0, .int 0, w2, .int (nI (0))])), (b0, .inl (E 0, m, .inl z0))]) [0, 1] rfl
  have hDc := hD.sub (ws' := [(h0, .inr (1, [.ref b0, .int 0, w2, .int (nI (0))])), (b0, .inl (E 0, m, .inl z0))]) [0, 1] (by decide) rfl
  have hFc := va_free (wc := [(h0, .inr (1, [.ref b0, .int 0, w2, .int (nI (0))])), (b0, .inl (E 0, m, .inl z0))]) hD hS hA [0, 1] rfl
  have h_1 : 0 + 1 ≤ 1 := by omega
  have h_2 : 0 + 1000 ≤ 1000 := by omega
  refine va_callv (va_runU (As := [.int (nI (n))]) (rest := []) ⟨hx, hb, hml, hown, hts⟩ (c_J5_ensureCapacityInternal_d00df l D E H.size (h0) (b0) (m) (n) (w2) (.int (nI 0)) (by omega) (by omega)) (va_cwU 1 hts gJ5_append_cf1ce_J5_ensureCapacityInternal_d00df_u100J4 rfl rfl rfl rfl (by decide +kernel) ⟨Nat.le_of_ble_eq_true rfl, Nat.le_of_ble_eq_true rfl⟩) ⟨rf_blind _, va_recv hK hPc (ci := 1) (q0 := 0) rfl rfl, fun U hU hW => ⟨rfl, rf_pre hK hPc hDc hZ hN hS hFc U hU hW⟩⟩ rfl rfl hl.1 rfl (lv_room (Nat.le_of_ble_eq_true rfl)) dJ5_append_cf1ce_21 ⟨h_1, h_2⟩) hS (fun q _ h => hFc q h) hFc (fun u t H1 locs ht hvm hw hB hz1 hk1 hS => ?_)
  obtain ⟨m2, b2⟩ := u
  obtain ⟨hP1, hD1⟩ := hB
  rw [ht] at hP1
  try dsimp only at hw hP1 hD1
  obtain ⟨hw1, hw2⟩ := hw
  obtain ⟨hP, hD⟩ := va_join (wr := [(g0, .inr (0, [.ref c0, .int 0, v2, v3])), (c0, .inl (E 0, n, .inl z0))]) (w1 := [(h0, .inr (1, [.ref b2, .int 0, w2, .int (nI (0))])), (b2, .inl (E 0, m2, .inl z0))]) hP hD [0, 1] [2, 3] rfl rfl (by decide) (by decide) hk1 hFc hP1 hD1
  clear hPc hDc hFc hP1 hD1 hk1 hz1 ht
  generalize H1 = H at hP hS ⊢
  have hP : va_P D vwCl [(g0, .inr (0, [.ref c0, .int 0, v2, v3])), (c0, .inl (E 0, n, .inl z0)), (h0, .inr (1, [.ref b2, .int 0, w2, .int (nI (0))])), (b2, .inl (E 0, m2, .inl z0))] H := hP
  have hD : va_D A [(g0, .inr (0, [.ref c0, .int 0, v2, v3])), (c0, .inl (E 0, n, .inl z0)), (h0, .inr (1, [.ref b2, .int 0, w2, .int (nI (0))])), (b2, .inl (E 0, m2, .inl z0))] := hD
  refine W.widen (k := 1) (n := 1000) (by omega) (by omega) ?_
  refine lv_aload_n hx hb dJ5_append_cf1ce_24 rfl (lv_at hl 1 rfl) ?_
  refine lv_aload_n hx hb dJ5_append_cf1ce_25 rfl (lv_at hl 1 rfl) ?_
  refine va_get (D := D) (ci := 1) (v := .int (nI (0))) (C := RJ4) (T := TJ4) (N := 4) hx hb hts (by decide +kernel) hown hK hP 2 rfl rfl 3 (by decide) (hts (.fieldLink RJ5 79 "java/lang/AbstractStringBuilder" "count" "I") (by decide +kernel)) (fun _ h9 => h9) rfl dJ5_append_cf1ce_26 ?_
  refine lv_aload_n hx hb dJ5_append_cf1ce_29 rfl (lv_at hl 2 rfl) ?_
  have hPc := hP.sub (ws' := [(h0, .inr (1, [.ref b2, .int 0, w2, .int (nI (0))])), (b2, .inl (E 0, m2, .inl z0)), (g0, .inr (0, [.ref c0, .int 0, v2, v3])), (c0, .inl (E 0, n, .inl z0))]) [2, 3, 0, 1] rfl
  have hDc := hD.sub (ws' := [(h0, .inr (1, [.ref b2, .int 0, w2, .int (nI (0))])), (b2, .inl (E 0, m2, .inl z0)), (g0, .inr (0, [.ref c0, .int 0, v2, v3])), (c0, .inl (E 0, n, .inl z0))]) [2, 3, 0, 1] (by decide) rfl
  have hFc := va_free (wc := [(h0, .inr (1, [.ref b2, .int 0, w2, .int (nI (0))])), (b2, .inl (E 0, m2, .inl z0)), (g0, .inr (0, [.ref c0, .int 0, v2, v3])), (c0, .inl (E 0, n, .inl z0))]) hD hS hA [2, 3, 0, 1] rfl
  have h_1 : 1 + 0 ≤ 1 := by omega
  have h_2 : 1000 + 0 ≤ 1000 := by omega
  refine va_callv (va_runU (As := [.int (nI (0)), .ref g0]) (rest := []) ⟨hx, hb, hml, hown, hts⟩ (c_J5_putStringAt_47b60 l D E H.size (h0) (b2) (g0) (c0) (n) (m2) (0) (w2) (.int (nI 0)) (v2) (v3) (by omega) (by omega)) (va_cwU 2 hts gJ5_append_cf1ce_J5_putStringAt_47b60_u208J4 rfl rfl rfl rfl (by decide +kernel) ⟨Nat.le_of_ble_eq_true rfl, Nat.le_of_ble_eq_true rfl⟩) ⟨rf_blind _, va_recv hK hPc (ci := 1) (q0 := 0) rfl rfl, fun U hU hW => ⟨rfl, rf_pre hK hPc hDc hZ hN hS hFc U hU hW⟩⟩ rfl rfl hl.1 rfl (lv_room (Nat.le_of_ble_eq_true rfl)) dJ5_append_cf1ce_30 ⟨h_1, h_2⟩) hS (fun q _ h => hFc q h) hFc (fun u t H1 locs ht hvm hw hB hz1 hk1 hS => ?_)
  obtain ⟨hP1, hD1⟩ := hB
  rw [ht] at hP1
  try dsimp only at hw hP1 hD1
  obtain ⟨hP, hD⟩ := va_join (wr := []) (w1 := [(h0, .inr (1, [.ref b2, .int 0, w2, .int (nI (0))])), (b2, .inl (E 0, m2, .inl z0)), (g0, .inr (0, [.ref c0, .int 0, v2, v3])), (c0, .inl (E 0, n, .inl z0))]) hP hD [2, 3, 0, 1] [] rfl rfl (by decide) (by decide) hk1 hFc hP1 hD1
  clear hPc hDc hFc hP1 hD1 hk1 hz1 ht
  generalize H1 = H at hP hS ⊢
  have hP : va_P D vwCl [(h0, .inr (1, [.ref b2, .int 0, w2, .int (nI (0))])), (b2, .inl (E 0, m2, .inl z0)), (g0, .inr (0, [.ref c0, .int 0, v2, v3])), (c0, .inl (E 0, n, .inl z0))] H := hP
  have hD : va_D A [(h0, .inr (1, [.ref b2, .int 0, w2, .int (nI (0))])), (b2, .inl (E 0, m2, .inl z0)), (g0, .inr (0, [.ref c0, .int 0, v2, v3])), (c0, .inl (E 0, n, .inl z0))] := hD
  refine lv_aload_n hx hb dJ5_append_cf1ce_33 rfl (lv_at hl 1 rfl) ?_
  refine lv_dup hx hb dJ5_append_cf1ce_34 rfl ?_
  refine va_get (D := D) (ci := 1) (v := .int (nI (0))) (C := RJ4) (T := TJ4) (N := 4) hx hb hts (by decide +kernel) hown hK hP 0 rfl rfl 3 (by decide) (hts (.fieldLink RJ5 79 "java/lang/AbstractStringBuilder" "count" "I") (by decide +kernel)) (fun _ h9 => h9) rfl dJ5_append_cf1ce_35 ?_
  refine lv_iload_n hx hb dJ5_append_cf1ce_38 rfl (lv_at hl 0 rfl) ?_
  refine lv_iadd hx hb dJ5_append_cf1ce_39 (lv_topi (fun f2 ef => ?_))
  obtain rfl : f2 = nI (n) := (show f2 = nI (0) + nI (n) from ef).trans ((nI_add _ _).trans (congrArg nI (by omega)))
  refine va_put (D := D) (ci := 1) (v := .int (nI (n))) (ty := .int) (C := RJ4) (T := TJ4) (N := 4) hx hb hts (by decide +kernel) tyJ4 tyJ4_ok nmJ4 hown hK hP hD hS 0 rfl rfl 3 (by decide) (hts (.fieldLink RJ5 79 "java/lang/AbstractStringBuilder" "count" "I") (by decide +kernel)) (fun _ h9 => h9) rfl (by decide +kernel) rfl rfl (Nat.le_of_ble_eq_true rfl) dJ5_append_cf1ce_40 (fun H locs hP hD hS => ?_)
  have hP : va_P D vwCl [(h0, .inr (1, [.ref b2, .int 0, w2, .int (nI (n))])), (b2, .inl (E 0, m2, .inl z0)), (g0, .inr (0, [.ref c0, .int 0, v2, v3])), (c0, .inl (E 0, n, .inl z0))] H := hP
  have hD : va_D A [(h0, .inr (1, [.ref b2, .int 0, w2, .int (nI (n))])), (b2, .inl (E 0, m2, .inl z0)), (g0, .inr (0, [.ref c0, .int 0, v2, v3])), (c0, .inl (E 0, n, .inl z0))] := hD
  refine lv_aload_n hx hb dJ5_append_cf1ce_43 rfl (lv_at hl 1 rfl) ?_
  have hP := hP.sub (ws' := [(h0, .inr (1, [.ref b2, .int 0, w2, .int (nI (n))])), (b2, .inl (E 0, m2, .inl z0)), (g0, .inr (0, [.ref c0, .int 0, v2, v3])), (c0, .inl (E 0, n, .inl z0))]) [0, 1, 2, 3] rfl
  have hD := hD.sub (ws' := [(h0, .inr (1, [.ref b2, .int 0, w2, .int (nI (n))])), (b2, .inl (E 0, m2, .inl z0)), (g0, .inr (0, [.ref c0, .int 0, v2, v3])), (c0, .inl (E 0, n, .inl z0))]) [0, 1, 2, 3] (by decide) rfl
  exact W.aret (v := .ref h0) hx hb hr (Or.inl ⟨_, rfl⟩) (Or.inr ⟨_, rfl⟩) (fun t ht hW => ⟨⟨(m2, b2), h0, rfl, ⟨hw1, hw2⟩, ⟨rfl, rf_end ht hP hD⟩⟩, hS.F ht⟩) hS.2.2 dJ5_append_cf1ce_44
set_option maxHeartbeats 4000000 in
set_option maxRecDepth 100000 in
/-- StringBuilder.append(String) to an empty builder -/
theorem c_J4_append_15ec4 (l : Launch) (D : va_G) (E : Nat → ClassId) (sz : Nat) (h0 b0 g0 c0 n m : Nat) (w2 v2 v3 : Value) (hm : m ≤ 16) (hn : n ≤ 200) : Met l yJ4_append_15ec4 wsJ4_append_15ec4 ({ frames := 7, cells := 1, slots := 1000, locals := 1200 }) (va_Pc [.ref h0, .ref g0] (rf_P D E [(h0, .inr (1, [.ref b0, .int 0, w2, .int (nI (0))])), (b0, .inl (E 0, m, .inl z0)), (g0, .inr (0, [.ref c0, .int 0, v2, v3])), (c0, .inl (E 0, n, .inl z0))] sz)) (va_Qr (fun (u : Nat × Nat) => n ≤ u.1 ∧ u.1 ≤ 2 * m + 2 + n) (fun (u : Nat × Nat) (ra : Nat) (t : State) => ra = h0 ∧ rf_B D (va_A [(h0, .inr (1, [.ref b0, .int 0, w2, .int (nI (0))])), (b0, .inl (E 0, m, .inl z0)), (g0, .inr (0, [.ref c0, .int 0, v2, v3])), (c0, .inl (E 0, n, .inl z0))] sz) [(h0, .inr (1, [.ref u.2, .int 0, w2, .int (nI n)])), (u.2, .inl (E 0, u.1, .inl z0)), (g0, .inr (0, [.ref c0, .int 0, v2, v3])), (c0, .inl (E 0, n, .inl z0))] t) (va_A [(h0, .inr (1, [.ref b0, .int 0, w2, .int (nI (0))])), (b0, .inl (E 0, m, .inl z0)), (g0, .inr (0, [.ref c0, .int 0, v2, v3])), (c0, .inl (E 0, n, .inl z0))] sz)) 1 1000 (va_A [(h0, .inr (1, [.ref b0, .int 0, w2, .int (nI (0))])), (b0, .inl (E 0, m, .inl z0)), (g0, .inr (0, [.ref c0, .int 0, v2, v3])), (c0, .inl (E 0, n, .inl z0))] sz) := by
  refine Met.ofW (cc := cJ4_append_15ec4) (maxL := 2) (ret := (some (.object "java/lang/StringBuilder"))) (by decide) rfl ?_
  intro p e s mI args below meth c s₁ B hml hv
  obtain ⟨rfl, hsz, hP, hK, hD0, hZ, hN⟩ := hv
  have hx := B.exec
  have hb := B.bytes
  have hr := B.returns
  have hts := atoms_spec (ws := wsJ4_append_15ec4) B.pre
  have hown : s.vm.findClass RJ4 = some mI.cls := findClass_of_methodNamed B.named
  have hlocks := B.notSynchronized
  subst hsz
  have hD := hD0.self (sz := s.heap.size)
  generalize hAe : va_A [(h0, .inr (1, [.ref b0, .int 0, w2, .int (nI (0))])), (b0, .inl (E 0, m, .inl z0)), (g0, .inr (0, [.ref c0, .int 0, v2, v3])), (c0, .inl (E 0, n, .inl z0))] s.heap.size = A at hD hZ ⊢
  have hA : ∀ q : Nat, s.heap.size ≤ q → A q := fun q h => by rw [← hAe]; exact Or.inr h
  have hS : va_S A s.heap s.heap [] := va_S.rf
  have hl := lv_entry ([.ref h0, .ref g0]) (n := 2) (Nat.le_of_ble_eq_true rfl)
  rw [lg_entry_eq]
  generalize (lg_sl ([.ref h0, .ref g0]) ++ List.replicate (2 - (lg_sl ([.ref h0, .ref g0])).length) Slot.unset).toArray = ls at hl ⊢
  clear hAe hD0
  have hl : lv_has ls 2 [(0, .ref h0), (1, .ref g0)] := hl
  obtain ⟨H, hH⟩ : ∃ H, H = s.heap := ⟨_, rfl⟩
  rw [← hH] at hP
  have hS : va_S A s.heap H [] := by rw [hH]; exact hS
  refine rf_heap hH ?_
  refine lv_aload_n hx hb dJ4_append_15ec4_0 rfl (lv_at hl 0 rfl) ?_
  refine lv_aload_n hx hb dJ4_append_15ec4_1 rfl (lv_at hl 1 rfl) ?_
  have hPc := hP.sub (ws' := [(h0, .inr (1, [.ref b0, .int 0, w2, .int (nI (0))])), (b0, .inl (E 0, m, .inl z0)), (g0, .inr (0, [.ref c0, .int 0, v2, v3])), (c0, .inl (E 0, n, .inl z0))]) [0, 1, 2, 3] rfl
  have hDc := hD.sub (ws' := [(h0, .inr (1, [.ref b0, .int 0, w2, .int (nI (0))])), (b0, .inl (E 0, m, .inl z0)), (g0, .inr (0, [.ref c0, .int 0, v2, v3])), (c0, .inl (E 0, n, .inl z0))]) [0, 1, 2, 3] (by decide) rfl
  have hFc := va_free (wc := [(h0, .inr (1, [.ref b0, .int 0, w2, .int (nI (0))])), (b0, .inl (E 0, m, .inl z0)), (g0, .inr (0, [.ref c0, .int 0, v2, v3])), (c0, .inl (E 0, n, .inl z0))]) hD hS hA [0, 1, 2, 3] rfl
  have h_1 : 0 + 1 ≤ 1 := by omega
  have h_2 : 0 + 1000 ≤ 1000 := by omega
  refine va_callr (va_runSU (As := [.ref g0]) (rest := []) (hK.1 1 _ rfl).2 ⟨hx, hb, hml, hown, hts⟩ (c_J5_append_cf1ce l D E H.size (h0) (b0) (g0) (c0) (n) (m) (w2) (v2) (v3) (by omega) (by omega)) (va_cwSU 1 hts gJ4_append_15ec4_J5_append_cf1ce_s29 rfl rfl rfl (by decide +kernel) ⟨Nat.le_of_ble_eq_true rfl, Nat.le_of_ble_eq_true rfl⟩) ⟨rf_blind _, va_recv hK hPc (ci := 1) (q0 := 0) rfl rfl, fun U hU hW => ⟨rfl, rf_pre hK hPc hDc hZ hN hS hFc U hU hW⟩⟩ rfl rfl hl.1 rfl (lv_room (Nat.le_of_ble_eq_true rfl)) dJ4_append_15ec4_2 ⟨h_1, h_2⟩) hS (fun q _ h => hFc q h) hFc (fun u ra t H1 locs ht hvm hw hB hz1 hk1 hS => ?_)
  obtain ⟨m2, b2⟩ := u
  obtain ⟨hra, hP1, hD1⟩ := hB
  try dsimp only at hra
  subst ra
  rw [ht] at hP1
  try dsimp only at hw hP1 hD1
  obtain ⟨hw1, hw2⟩ := hw
  obtain ⟨hP, hD⟩ := va_join (wr := []) (w1 := [(h0, .inr (1, [.ref b2, .int 0, w2, .int (nI (n))])), (b2, .inl (E 0, m2, .inl z0)), (g0, .inr (0, [.ref c0, .int 0, v2, v3])), (c0, .inl (E 0, n, .inl z0))]) hP hD [0, 1, 2, 3] [] rfl rfl (by decide) (by decide) hk1 hFc hP1 hD1
  clear hPc hDc hFc hP1 hD1 hk1 hz1 ht
  generalize H1 = H at hP hS ⊢
  have hP : va_P D vwCl [(h0, .inr (1, [.ref b2, .int 0, w2, .int (nI (n))])), (b2, .inl (E 0, m2, .inl z0)), (g0, .inr (0, [.ref c0, .int 0, v2, v3])), (c0, .inl (E 0, n, .inl z0))] H := hP
  have hD : va_D A [(h0, .inr (1, [.ref b2, .int 0, w2, .int (nI (n))])), (b2, .inl (E 0, m2, .inl z0)), (g0, .inr (0, [.ref c0, .int 0, v2, v3])), (c0, .inl (E 0, n, .inl z0))] := hD
  refine W.widen (k := 1) (n := 1000) (by omega) (by omega) ?_
  refine lv_pop hx hb dJ4_append_15ec4_5 rfl ?_
  refine lv_aload_n hx hb dJ4_append_15ec4_6 rfl (lv_at hl 0 rfl) ?_
  have hP := hP.sub (ws' := [(h0, .inr (1, [.ref b2, .int 0, w2, .int (nI (n))])), (b2, .inl (E 0, m2, .inl z0)), (g0, .inr (0, [.ref c0, .int 0, v2, v3])), (c0, .inl (E 0, n, .inl z0))]) [0, 1, 2, 3] rfl
  have hD := hD.sub (ws' := [(h0, .inr (1, [.ref b2, .int 0, w2, .int (nI (n))])), (b2, .inl (E 0, m2, .inl z0)), (g0, .inr (0, [.ref c0, .int 0, v2, v3])), (c0, .inl (E 0, n, .inl z0))]) [0, 1, 2, 3] (by decide) rfl
  exact W.aret (v := .ref h0) hx hb hr (Or.inl ⟨_, rfl⟩) (Or.inr ⟨_, rfl⟩) (fun t ht hW => ⟨⟨(m2, b2), h0, rfl, ⟨hw1, hw2⟩, ⟨rfl, rf_end ht hP hD⟩⟩, hS.F ht⟩) hS.2.2 dJ4_append_15ec4_7
set_option maxHeartbeats 4000000 in
set_option maxRecDepth 100000 in
/-- append(char 0) -/
theorem c_J5_append_3fe6f (l : Launch) (D : va_G) (E : Nat → ClassId) (sz : Nat) (h0 b0 k m : Nat) (w2 : Value) (hm : m ≤ 300) (hk : k ≤ 200) : Met l yJ5_append_3fe6f wsJ5_append_3fe6f ({ frames := 5, cells := 1, slots := 1000, locals := 800 }) (va_Pc [.ref h0, .int 0] (rf_P D E [(h0, .inr (1, [.ref b0, .int 0, w2, .int (nI (k))])), (b0, .inl (E 0, m, .inl z0))] sz)) (va_Qr (fun (u : Nat × Nat) => k + 1 ≤ u.1 ∧ u.1 ≤ 2 * m + 3 + k) (fun (u : Nat × Nat) (ra : Nat) (t : State) => ra = h0 ∧ rf_B D (va_A [(h0, .inr (1, [.ref b0, .int 0, w2, .int (nI (k))])), (b0, .inl (E 0, m, .inl z0))] sz) [(h0, .inr (1, [.ref u.2, .int 0, w2, .int (nI (k + 1))])), (u.2, .inl (E 0, u.1, .inl z0))] t) (va_A [(h0, .inr (1, [.ref b0, .int 0, w2, .int (nI (k))])), (b0, .inl (E 0, m, .inl z0))] sz)) 1 1000 (va_A [(h0, .inr (1, [.ref b0, .int 0, w2, .int (nI (k))])), (b0, .inl (E 0, m, .inl z0))] sz) := by
  refine Met.ofW (cc := cJ5_append_3fe6f) (maxL := 2) (ret := (some (.object "java/lang/AbstractStringBuilder"))) (by decide) rfl ?_
  intro p e s mI args below meth c s₁ B hml hv
  obtain ⟨rfl, hsz, hP, hK, hD0, hZ, hN⟩ := hv
  have hx := B.exec
  have hb := B.bytes
  have hr := B.returns
  have hts := atoms_spec (ws := wsJ5_append_3fe6f) B.pre
  have hown : s.vm.findClass RJ5 = some mI.cls := findClass_of_methodNamed B.named
  have hlocks := B.notSynchronized
  subst hsz
  have hD := hD0.self (sz := s.heap.size)
  generalize hAe : va_A [(h0, .inr (1, [.ref b0, .int 0, w2, .int (nI (k))])), (b0, .inl (E 0, m, .inl z0))] s.heap.size = A at hD hZ ⊢
  have hA : ∀ q : Nat, s.heap.size ≤ q → A q := fun q h => by rw [← hAe]; exact Or.inr h
  have hS : va_S A s.heap s.heap [] := va_S.rf
  have hl := lv_entry ([.ref h0, .int 0]) (n := 2) (Nat.le_of_ble_eq_true rfl)
  rw [lg_entry_eq]
  generalize (lg_sl ([.ref h0, .int 0]) ++ List.replicate (2 - (lg_sl ([.ref h0, .int 0])).length) Slot.unset).toArray = ls at hl ⊢
  clear hAe hD0
  have hl : lv_has ls 2 [(0, .ref h0), (1, .int 0)] := hl
  obtain ⟨H, hH⟩ : ∃ H, H = s.heap := ⟨_, rfl⟩
  rw [← hH] at hP
  have hS : va_S A s.heap H [] := by rw [hH]; exact hS
  refine rf_heap hH ?_
  refine lv_aload_n hx hb dJ5_append_3fe6f_0 rfl (lv_at hl 0 rfl) ?_
  refine lv_aload_n hx hb dJ5_append_3fe6f_1 rfl (lv_at hl 0 rfl) ?_
  refine va_get (D := D) (ci := 1) (v := .int (nI (k))) (C := RJ4) (T := TJ4) (N := 4) hx hb hts (by decide +kernel) hown hK hP 0 rfl rfl 3 (by decide) (hts (.fieldLink RJ5 79 "java/lang/AbstractStringBuilder" "count" "I") (by decide +kernel)) (fun _ h9 => h9) rfl dJ5_append_3fe6f_2 ?_
  refine lv_iconst (v := nI 1) hx hb dJ5_append_3fe6f_5 (by decide) ?_
  refine lv_iadd hx hb dJ5_append_3fe6f_6 (lv_topi (fun f1 ef => ?_))
  obtain rfl : f1 = nI (k + 1) := (show f1 = nI (k) + nI (1) from ef).trans ((nI_add _ _).trans (congrArg nI (by omega)))
  have hPc := hP.sub (ws' := [(h0, .inr (1, [.ref b0, .int 0, w2, .int (nI (k))])), (b0, .inl (E 0, m, .inl z0))]) [0, 1] rfl
  have hDc := hD.sub (ws' := [(h0, .inr (1, [.ref b0, .int 0, w2, .int (nI (k))])), (b0, .inl (E 0, m, .inl z0))]) [0, 1] (by decide) rfl
  have hFc := va_free (wc := [(h0, .inr (1, [.ref b0, .int 0, w2, .int (nI (k))])), (b0, .inl (E 0, m, .inl z0))]) hD hS hA [0, 1] rfl
  have h_1 : 0 + 1 ≤ 1 := by omega
  have h_2 : 0 + 1000 ≤ 1000 := by omega
  refine va_callv (va_runU (As := [.int (nI (k + 1))]) (rest := []) ⟨hx, hb, hml, hown, hts⟩ (c_J5_ensureCapacityInternal_d00df l D E H.size (h0) (b0) (m) (k + 1) (w2) (.int (nI (k))) (by omega) (by omega)) (va_cwU 1 hts gJ5_append_3fe6f_J5_ensureCapacityInternal_d00df_u100J4 rfl rfl rfl rfl (by decide +kernel) ⟨Nat.le_of_ble_eq_true rfl, Nat.le_of_ble_eq_true rfl⟩) ⟨rf_blind _, va_recv hK hPc (ci := 1) (q0 := 0) rfl rfl, fun U hU hW => ⟨rfl, rf_pre hK hPc hDc hZ hN hS hFc U hU hW⟩⟩ rfl rfl hl.1 rfl (lv_room (Nat.le_of_ble_eq_true rfl)) dJ5_append_3fe6f_7 ⟨h_1, h_2⟩) hS (fun q _ h => hFc q h) hFc (fun u t H1 locs ht hvm hw hB hz1 hk1 hS => ?_)
  obtain ⟨m2, b2⟩ := u
  obtain ⟨hP1, hD1⟩ := hB
  rw [ht] at hP1
  try dsimp only at hw hP1 hD1
  obtain ⟨hw1, hw2⟩ := hw
  obtain ⟨hP, hD⟩ := va_join (wr := []) (w1 := [(h0, .inr (1, [.ref b2, .int 0, w2, .int (nI (k))])), (b2, .inl (E 0, m2, .inl z0))]) hP hD [0, 1] [] rfl rfl (by decide) (by decide) hk1 hFc hP1 hD1
  clear hPc hDc hFc hP1 hD1 hk1 hz1 ht
  generalize H1 = H at hP hS ⊢
  have hP : va_P D vwCl [(h0, .inr (1, [.ref b2, .int 0, w2, .int (nI (k))])), (b2, .inl (E 0, m2, .inl z0))] H := hP
  have hD : va_D A [(h0, .inr (1, [.ref b2, .int 0, w2, .int (nI (k))])), (b2, .inl (E 0, m2, .inl z0))] := hD
  refine W.widen (k := 1) (n := 1000) (by omega) (by omega) ?_
  refine lv_aload_n hx hb dJ5_append_3fe6f_10 rfl (lv_at hl 0 rfl) ?_
  have hPc := hP.sub (ws' := [(h0, .inr (1, [.ref b2, .int 0, w2, .int (nI (k))]))]) [0] rfl
  have hDc := hD.sub (ws' := [(h0, .inr (1, [.ref b2, .int 0, w2, .int (nI (k))]))]) [0] (by decide) rfl
  have hFc := va_free (wc := [(h0, .inr (1, [.ref b2, .int 0, w2, .int (nI (k))]))]) hD hS hA [0] rfl
  have h_1 : 1 + 0 ≤ 1 := by omega
  have h_2 : 1000 + 0 ≤ 1000 := by omega
  refine va_calli (va_runU (As := []) (rest := []) ⟨hx, hb, hml, hown, hts⟩ (c_J5_isLatin1_aae02 l D E H.size (h0) (.ref b2) (w2) (.int (nI (k)))) (va_cwU 0 hts gJ5_append_3fe6f_J5_isLatin1_aae02_u83J4 rfl rfl rfl rfl (by decide +kernel) ⟨Nat.le_of_ble_eq_true rfl, Nat.le_of_ble_eq_true rfl⟩) ⟨rf_blind _, va_recv hK hPc (ci := 1) (q0 := 0) rfl rfl, fun U hU hW => ⟨rfl, rf_pre hK hPc hDc hZ hN hS hFc U hU hW⟩⟩ rfl rfl hl.1 rfl (lv_room (Nat.le_of_ble_eq_true rfl)) dJ5_append_3fe6f_11 ⟨h_1, h_2⟩) hS (fun q _ h => hFc q h) hFc (fun r u t H1 locs ht hvm hw hB hz1 hk1 hS => ?_)
  obtain ⟨hP1, hD1⟩ := hB
  rw [ht] at hP1
  try dsimp only at hw hP1 hD1
  obtain rfl := hw
  obtain ⟨hP, hD⟩ := va_join (wr := [(b2, .inl (E 0, m2, .inl z0))]) (w1 := [(h0, .inr (1, [.ref b2, .int 0, w2, .int (nI (k))]))]) hP hD [0] [1] rfl rfl (by decide) (by decide) hk1 hFc hP1 hD1
  clear hPc hDc hFc hP1 hD1 hk1 hz1 ht
  generalize H1 = H at hP hS ⊢
  have hP : va_P D vwCl [(b2, .inl (E 0, m2, .inl z0)), (h0, .inr (1, [.ref b2, .int 0, w2, .int (nI (k))]))] H := hP
  have hD : va_D A [(b2, .inl (E 0, m2, .inl z0)), (h0, .inr (1, [.ref b2, .int 0, w2, .int (nI (k))]))] := hD
  refine lv_if_eq (tgt := 45) hx hb dJ5_append_3fe6f_14 rfl (fun h => absurd h (by decide)) (fun _ => ?_)
  refine lv_iload_n hx hb dJ5_append_3fe6f_17 rfl (lv_at hl 1 rfl) ?_
  have hPc := hP.sub (ws' := []) [] rfl
  have hDc := hD.sub (ws' := []) [] (by decide) rfl
  have hFc := va_free (wc := []) hD hS hA [] rfl
  have h_1 : 1 + 0 ≤ 1 := by omega
  have h_2 : 1000 + 0 ≤ 1000 := by omega
  refine va_calli (va_runS (As := [.int 0]) (rest := []) ⟨hx, hb, hml, hown, hts⟩ (c_J1_canEncode_fc78d l D E H.size ) (va_cwS 1 hts gJ5_append_3fe6f_J1_canEncode_fc78d rfl rfl rfl (by decide +kernel) ⟨Nat.le_of_ble_eq_true rfl, Nat.le_of_ble_eq_true rfl⟩) ⟨rf_blind _, fun U hU hW => ⟨rfl, rf_pre hK hPc hDc hZ hN hS hFc U hU hW⟩⟩ rfl rfl hl.1 rfl (lv_room (Nat.le_of_ble_eq_true rfl)) dJ5_append_3fe6f_18 ⟨h_1, h_2⟩) hS (fun q _ h => hFc q h) hFc (fun r u t H1 locs ht hvm hw hB hz1 hk1 hS => ?_)
  obtain ⟨hP1, hD1⟩ := hB
  rw [ht] at hP1
  try dsimp only at hw hP1 hD1
  obtain rfl := hw
  obtain ⟨hP, hD⟩ := va_join (wr := [(b2, .inl (E 0, m2, .inl z0)), (h0, .inr (1, [.ref b2, .int 0, w2, .int (nI (k))]))]) (w1 := []) hP hD [] [0, 1] rfl rfl (by decide) (by decide) hk1 hFc hP1 hD1
  clear hPc hDc hFc hP1 hD1 hk1 hz1 ht
  generalize H1 = H at hP hS ⊢
  have hP : va_P D vwCl [(b2, .inl (E 0, m2, .inl z0)), (h0, .inr (1, [.ref b2, .int 0, w2, .int (nI (k))]))] H := hP
  have hD : va_D A [(b2, .inl (E 0, m2, .inl z0)), (h0, .inr (1, [.ref b2, .int 0, w2, .int (nI (k))]))] := hD
  refine lv_if_eq (tgt := 45) hx hb dJ5_append_3fe6f_21 rfl (fun h => absurd h (by decide)) (fun _ => ?_)
  refine lv_aload_n hx hb dJ5_append_3fe6f_24 rfl (lv_at hl 0 rfl) ?_
  refine va_get (D := D) (ci := 1) (v := .ref b2) (C := RJ4) (T := TJ4) (N := 4) hx hb hts (by decide +kernel) hown hK hP 1 rfl rfl 0 (by decide) (hts (.fieldLink RJ5 15 "java/lang/AbstractStringBuilder" "value" "[B") (by decide +kernel)) (fun _ h9 => h9) rfl dJ5_append_3fe6f_25 ?_
  refine lv_aload_n hx hb dJ5_append_3fe6f_28 rfl (lv_at hl 0 rfl) ?_
  refine lv_dup hx hb dJ5_append_3fe6f_29 rfl ?_
  refine va_get (D := D) (ci := 1) (v := .int (nI (k))) (C := RJ4) (T := TJ4) (N := 4) hx hb hts (by decide +kernel) hown hK hP 1 rfl rfl 3 (by decide) (hts (.fieldLink RJ5 79 "java/lang/AbstractStringBuilder" "count" "I") (by decide +kernel)) (fun _ h9 => h9) rfl dJ5_append_3fe6f_30 ?_
  refine lv_dup_x1 hx hb dJ5_append_3fe6f_33 rfl rfl ?_
  refine lv_iconst (v := nI 1) hx hb dJ5_append_3fe6f_34 (by decide) ?_
  refine lv_iadd hx hb dJ5_append_3fe6f_35 (lv_topi (fun f2 ef => ?_))
  obtain rfl : f2 = nI (k + 1) := (show f2 = nI (k) + nI (1) from ef).trans ((nI_add _ _).trans (congrArg nI (by omega)))
  refine va_put (D := D) (ci := 1) (v := .int (nI (k + 1))) (ty := .int) (C := RJ4) (T := TJ4) (N := 4) hx hb hts (by decide +kernel) tyJ4 tyJ4_ok nmJ4 hown hK hP hD hS 1 rfl rfl 3 (by decide) (hts (.fieldLink RJ5 79 "java/lang/AbstractStringBuilder" "count" "I") (by decide +kernel)) (fun _ h9 => h9) rfl (by decide +kernel) rfl rfl (Nat.le_of_ble_eq_true rfl) dJ5_append_3fe6f_36 (fun H locs hP hD hS => ?_)
  have hP : va_P D vwCl [(b2, .inl (E 0, m2, .inl z0)), (h0, .inr (1, [.ref b2, .int 0, w2, .int (nI (k + 1))]))] H := hP
  have hD : va_D A [(b2, .inl (E 0, m2, .inl z0)), (h0, .inr (1, [.ref b2, .int 0, w2, .int (nI (k + 1))]))] := hD
  refine lv_iload_n hx hb dJ5_append_3fe6f_39 rfl (lv_at hl 1 rfl) ?_
  refine lv_i2b (v := 0) hx hb dJ5_append_3fe6f_40 (by decide) ?_
  refine va_bast hx hb hK hP hD hS 0 0 rfl rfl (vp_in_nI (by omega) (by omega)) dJ5_append_3fe6f_41 (fun H locs hP hD hS => ?_)
  rw [rf_ub] at hP hD
  have hP : va_P D vwCl [(b2, .inl (E 0, m2, .inl z0)), (h0, .inr (1, [.ref b2, .int 0, w2, .int (nI (k + 1))]))] H := hP
  have hD : va_D A [(b2, .inl (E 0, m2, .inl z0)), (h0, .inr (1, [.ref b2, .int 0, w2, .int (nI (k + 1))]))] := hD
  refine lv_goto (tgt := 75) hx hb dJ5_append_3fe6f_42 rfl ?_
  refine lv_aload_n hx hb dJ5_append_3fe6f_75 rfl (lv_at hl 0 rfl) ?_
  have hP := hP.sub (ws' := [(h0, .inr (1, [.ref b2, .int 0, w2, .int (nI (k + 1))])), (b2, .inl (E 0, m2, .inl z0))]) [1, 0] rfl
  have hD := hD.sub (ws' := [(h0, .inr (1, [.ref b2, .int 0, w2, .int (nI (k + 1))])), (b2, .inl (E 0, m2, .inl z0))]) [1, 0] (by decide) rfl
  exact W.aret (v := .ref h0) hx hb hr (Or.inl ⟨_, rfl⟩) (Or.inr ⟨_, rfl⟩) (fun t ht hW => ⟨⟨(m2, b2), h0, rfl, ⟨hw1, by dsimp only; omega⟩, ⟨rfl, rf_end ht hP hD⟩⟩, hS.F ht⟩) hS.2.2 dJ5_append_3fe6f_76
set_option maxHeartbeats 4000000 in
set_option maxRecDepth 100000 in
/-- StringBuilder.append(char 0) -/
theorem c_J4_append_cf468 (l : Launch) (D : va_G) (E : Nat → ClassId) (sz : Nat) (h0 b0 k m : Nat) (w2 : Value) (hm : m ≤ 300) (hk : k ≤ 200) : Met l yJ4_append_cf468 wsJ4_append_cf468 ({ frames := 6, cells := 1, slots := 1000, locals := 1000 }) (va_Pc [.ref h0, .int 0] (rf_P D E [(h0, .inr (1, [.ref b0, .int 0, w2, .int (nI (k))])), (b0, .inl (E 0, m, .inl z0))] sz)) (va_Qr (fun (u : Nat × Nat) => k + 1 ≤ u.1 ∧ u.1 ≤ 2 * m + 3 + k) (fun (u : Nat × Nat) (ra : Nat) (t : State) => ra = h0 ∧ rf_B D (va_A [(h0, .inr (1, [.ref b0, .int 0, w2, .int (nI (k))])), (b0, .inl (E 0, m, .inl z0))] sz) [(h0, .inr (1, [.ref u.2, .int 0, w2, .int (nI (k + 1))])), (u.2, .inl (E 0, u.1, .inl z0))] t) (va_A [(h0, .inr (1, [.ref b0, .int 0, w2, .int (nI (k))])), (b0, .inl (E 0, m, .inl z0))] sz)) 1 1000 (va_A [(h0, .inr (1, [.ref b0, .int 0, w2, .int (nI (k))])), (b0, .inl (E 0, m, .inl z0))] sz) := by
  refine Met.ofW (cc := cJ4_append_cf468) (maxL := 2) (ret := (some (.object "java/lang/StringBuilder"))) (by decide) rfl ?_
  intro p e s mI args below meth c s₁ B hml hv
  obtain ⟨rfl, hsz, hP, hK, hD0, hZ, hN⟩ := hv
  have hx := B.exec
  have hb := B.bytes
  have hr := B.returns
  have hts := atoms_spec (ws := wsJ4_append_cf468) B.pre
  have hown : s.vm.findClass RJ4 = some mI.cls := findClass_of_methodNamed B.named
  have hlocks := B.notSynchronized
  subst hsz
  have hD := hD0.self (sz := s.heap.size)
  generalize hAe : va_A [(h0, .inr (1, [.ref b0, .int 0, w2, .int (nI (k))])), (b0, .inl (E 0, m, .inl z0))] s.heap.size = A at hD hZ ⊢
  have hA : ∀ q : Nat, s.heap.size ≤ q → A q := fun q h => by rw [← hAe]; exact Or.inr h
  have hS : va_S A s.heap s.heap [] := va_S.rf
  have hl := lv_entry ([.ref h0, .int 0]) (n := 2) (Nat.le_of_ble_eq_true rfl)
  rw [lg_entry_eq]
  generalize (lg_sl ([.ref h0, .int 0]) ++ List.replicate (2 - (lg_sl ([.ref h0, .int 0])).length) Slot.unset).toArray = ls at hl ⊢
  clear hAe hD0
  have hl : lv_has ls 2 [(0, .ref h0), (1, .int 0)] := hl
  obtain ⟨H, hH⟩ : ∃ H, H = s.heap := ⟨_, rfl⟩
  rw [← hH] at hP
  have hS : va_S A s.heap H [] := by rw [hH]; exact hS
  refine rf_heap hH ?_
  refine lv_aload_n hx hb dJ4_append_cf468_0 rfl (lv_at hl 0 rfl) ?_
  refine lv_iload_n hx hb dJ4_append_cf468_1 rfl (lv_at hl 1 rfl) ?_
  have hPc := hP.sub (ws' := [(h0, .inr (1, [.ref b0, .int 0, w2, .int (nI (k))])), (b0, .inl (E 0, m, .inl z0))]) [0, 1] rfl
  have hDc := hD.sub (ws' := [(h0, .inr (1, [.ref b0, .int 0, w2, .int (nI (k))])), (b0, .inl (E 0, m, .inl z0))]) [0, 1] (by decide) rfl
  have hFc := va_free (wc := [(h0, .inr (1, [.ref b0, .int 0, w2, .int (nI (k))])), (b0, .inl (E 0, m, .inl z0))]) hD hS hA [0, 1] rfl
  have h_1 : 0 + 1 ≤ 1 := by omega
  have h_2 : 0 + 1000 ≤ 1000 := by omega
  refine va_callr (va_runSU (As := [.int 0]) (rest := []) (hK.1 1 _ rfl).2 ⟨hx, hb, hml, hown, hts⟩ (c_J5_append_3fe6f l D E H.size (h0) (b0) (k) (m) (w2) (by omega) (by omega)) (va_cwSU 1 hts gJ4_append_cf468_J5_append_3fe6f_s50 rfl rfl rfl (by decide +kernel) ⟨Nat.le_of_ble_eq_true rfl, Nat.le_of_ble_eq_true rfl⟩) ⟨rf_blind _, va_recv hK hPc (ci := 1) (q0 := 0) rfl rfl, fun U hU hW => ⟨rfl, rf_pre hK hPc hDc hZ hN hS hFc U hU hW⟩⟩ rfl rfl hl.1 rfl (lv_room (Nat.le_of_ble_eq_true rfl)) dJ4_append_cf468_2 ⟨h_1, h_2⟩) hS (fun q _ h => hFc q h) hFc (fun u ra t H1 locs ht hvm hw hB hz1 hk1 hS => ?_)
  obtain ⟨m2, b2⟩ := u
  obtain ⟨hra, hP1, hD1⟩ := hB
  try dsimp only at hra
  subst ra
  rw [ht] at hP1
  try dsimp only at hw hP1 hD1
  obtain ⟨hw1, hw2⟩ := hw
  obtain ⟨hP, hD⟩ := va_join (wr := []) (w1 := [(h0, .inr (1, [.ref b2, .int 0, w2, .int (nI (k + 1))])), (b2, .inl (E 0, m2, .inl z0))]) hP hD [0, 1] [] rfl rfl (by decide) (by decide) hk1 hFc hP1 hD1
  clear hPc hDc hFc hP1 hD1 hk1 hz1 ht
  generalize H1 = H at hP hS ⊢
  have hP : va_P D vwCl [(h0, .inr (1, [.ref b2, .int 0, w2, .int (nI (k + 1))])), (b2, .inl (E 0, m2, .inl z0))] H := hP
  have hD : va_D A [(h0, .inr (1, [.ref b2, .int 0, w2, .int (nI (k + 1))])), (b2, .inl (E 0, m2, .inl z0))] := hD
  refine W.widen (k := 1) (n := 1000) (by omega) (by omega) ?_
  refine lv_pop hx hb dJ4_append_cf468_5 rfl ?_
  refine lv_aload_n hx hb dJ4_append_cf468_6 rfl (lv_at hl 0 rfl) ?_
  have hP := hP.sub (ws' := [(h0, .inr (1, [.ref b2, .int 0, w2, .int (nI (k + 1))])), (b2, .inl (E 0, m2, .inl z0))]) [0, 1] rfl
  have hD := hD.sub (ws' := [(h0, .inr (1, [.ref b2, .int 0, w2, .int (nI (k + 1))])), (b2, .inl (E 0, m2, .inl z0))]) [0, 1] (by decide) rfl
  exact W.aret (v := .ref h0) hx hb hr (Or.inl ⟨_, rfl⟩) (Or.inr ⟨_, rfl⟩) (fun t ht hW => ⟨⟨(m2, b2), h0, rfl, ⟨hw1, hw2⟩, ⟨rfl, rf_end ht hP hD⟩⟩, hS.F ht⟩) hS.2.2 dJ4_append_cf468_7
set_option maxHeartbeats 4000000 in
set_option maxRecDepth 100000 in
/-- Arrays.checkLength(0, n) -/
theorem c_J7_checkLength_df160 (l : Launch) (D : va_G) (E : Nat → ClassId) (sz : Nat) (n : Nat) (hn : n ≤ 1000) : Met l yJ7_checkLength_df160 wsJ7_checkLength_df160 ({ frames := 2, cells := 0, slots := 0, locals := 200 }) (va_Pc [.int (nI 0), .int (nI n)] (rf_P D E [] sz)) (va_Qv (fun (u : Unit) => True) (fun (u : Unit) (t : State) => rf_B D (va_A [] sz) [] t) (va_A [] sz)) 0 0 (va_A [] sz) := by
  refine Met.ofW (cc := cJ7_checkLength_df160) (maxL := 2) (ret := none) (by decide) rfl ?_
  intro p e s mI args below meth c s₁ B hml hv
  obtain ⟨rfl, hsz, hP, hK, hD0, hZ, hN⟩ := hv
  have hx := B.exec
  have hb := B.bytes
  have hr := B.returns
  have hts := atoms_spec (ws := wsJ7_checkLength_df160) B.pre
  have hown : s.vm.findClass RJ7 = some mI.cls := findClass_of_methodNamed B.named
  have hlocks := B.notSynchronized
  subst hsz
  have hD := hD0.self (sz := s.heap.size)
  generalize hAe : va_A [] s.heap.size = A at hD hZ ⊢
  have hA : ∀ q : Nat, s.heap.size ≤ q → A q := fun q h => by rw [← hAe]; exact Or.inr h
  have hS : va_S A s.heap s.heap [] := va_S.rf
  have hl := lv_entry ([.int (nI 0), .int (nI n)]) (n := 2) (Nat.le_of_ble_eq_true rfl)
  rw [lg_entry_eq]
  generalize (lg_sl ([.int (nI 0), .int (nI n)]) ++ List.replicate (2 - (lg_sl ([.int (nI 0), .int (nI n)])).length) Slot.unset).toArray = ls at hl ⊢
  clear hAe hD0
  have hl : lv_has ls 2 [(0, .int (nI 0)), (1, .int (nI n))] := hl
  obtain ⟨H, hH⟩ : ∃ H, H = s.heap := ⟨_, rfl⟩
  rw [← hH] at hP
  have hS : va_S A s.heap H [] := by rw [hH]; exact hS
  refine rf_heap hH ?_
  refine lv_iload_n hx hb dJ7_checkLength_df160_0 rfl (lv_at hl 1 rfl) ?_
  refine lv_iload_n hx hb dJ7_checkLength_df160_1 rfl (lv_at hl 0 rfl) ?_
  refine lv_icmp_ge (tgt := 37) hx hb dJ7_checkLength_df160_2 rfl (fun _ => ?_) (fun h => absurd (show nI (0) ≤ nI (n) from nI_le (by omega) (by omega)) h)
  exact W.vret hx hb hr (fun t ht hW => ⟨⟨(), rfl, trivial, rf_end ht hP hD⟩, hS.F ht⟩) hS.2.2 dJ7_checkLength_df160_37
set_option maxHeartbeats 4000000 in
set_option maxRecDepth 100000 in
/-- copyOfRangeByte(b, 0, n) -/
theorem c_J7_copyOfRangeByte_39247 (l : Launch) (D : va_G) (E : Nat → ClassId) (sz : Nat) (b0 m n : Nat) (hm : m ≤ 1000) (hn : n ≤ m) : Met l yJ7_copyOfRangeByte_39247 wsJ7_copyOfRangeByte_39247 ({ frames := 3, cells := 1, slots := 1000, locals := 400 }) (va_Pc [.ref b0, .int (nI 0), .int (nI n)] (rf_P D E [(b0, .inl (E 0, m, .inl z0))] sz)) (va_Qr (fun (u : Unit) => True) (fun (u : Unit) (ra : Nat) (t : State) => rf_B D (va_A [(b0, .inl (E 0, m, .inl z0))] sz) [(b0, .inl (E 0, m, .inl z0)), (ra, .inl (E 0, n, .inl z0))] t) (va_A [(b0, .inl (E 0, m, .inl z0))] sz)) 1 1000 (va_A [(b0, .inl (E 0, m, .inl z0))] sz) := by
  refine Met.ofW (cc := cJ7_copyOfRangeByte_39247) (maxL := 5) (ret := (some (.array .byte))) (by decide) rfl ?_
  intro p e s mI args below meth c s₁ B hml hv
  obtain ⟨rfl, hsz, hP, hK, hD0, hZ, hN⟩ := hv
  have hx := B.exec
  have hb := B.bytes
  have hr := B.returns
  have hts := atoms_spec (ws := wsJ7_copyOfRangeByte_39247) B.pre
  have hown : s.vm.findClass RJ7 = some mI.cls := findClass_of_methodNamed B.named
  have hlocks := B.notSynchronized
  subst hsz
  have hD := hD0.self (sz := s.heap.size)
  generalize hAe : va_A [(b0, .inl (E 0, m, .inl z0))] s.heap.size = A at hD hZ ⊢
  have hA : ∀ q : Nat, s.heap.size ≤ q → A q := fun q h => by rw [← hAe]; exact Or.inr h
  have hS : va_S A s.heap s.heap [] := va_S.rf
  have hl := lv_entry ([.ref b0, .int (nI 0), .int (nI n)]) (n := 5) (Nat.le_of_ble_eq_true rfl)
  rw [lg_entry_eq]
  generalize (lg_sl ([.ref b0, .int (nI 0), .int (nI n)]) ++ List.replicate (5 - (lg_sl ([.ref b0, .int (nI 0), .int (nI n)])).length) Slot.unset).toArray = ls at hl ⊢
  clear hAe hD0
  have hl : lv_has ls 5 [(0, .ref b0), (1, .int (nI 0)), (2, .int (nI n))] := hl
  obtain ⟨H, hH⟩ : ∃ H, H = s.heap := ⟨_, rfl⟩
  rw [← hH] at hP
  have hS : va_S A s.heap H [] := by rw [hH]; exact hS
  refine rf_heap hH ?_
  refine lv_iload_n hx hb dJ7_copyOfRangeByte_39247_0 rfl (lv_at hl 1 rfl) ?_
  refine lv_iload_n hx hb dJ7_copyOfRangeByte_39247_1 rfl (lv_at hl 2 rfl) ?_
  have hPc := hP.sub (ws' := []) [] rfl
  have hDc := hD.sub (ws' := []) [] (by decide) rfl
  have hFc := va_free (wc := []) hD hS hA [] rfl
  have h_1 : 0 + 0 ≤ 1 := by omega
  have h_2 : 0 + 0 ≤ 1000 := by omega
  refine va_callv (va_runS (As := [.int (nI 0), .int (nI n)]) (rest := []) ⟨hx, hb, hml, hown, hts⟩ (c_J7_checkLength_df160 l D E H.size (n) (by omega)) (va_cwS 2 hts gJ7_copyOfRangeByte_39247_J7_checkLength_df160 rfl rfl rfl (by decide +kernel) ⟨Nat.le_of_ble_eq_true rfl, Nat.le_of_ble_eq_true rfl⟩) ⟨rf_blind _, fun U hU hW => ⟨rfl, rf_pre hK hPc hDc hZ hN hS hFc U hU hW⟩⟩ rfl rfl hl.1 rfl (lv_room (Nat.le_of_ble_eq_true rfl)) dJ7_copyOfRangeByte_39247_2 ⟨h_1, h_2⟩) hS (fun q _ h => hFc q h) hFc (fun u t H1 locs ht hvm hw hB hz1 hk1 hS => ?_)
  obtain ⟨hP1, hD1⟩ := hB
  rw [ht] at hP1
  try dsimp only at hw hP1 hD1
  obtain ⟨hP, hD⟩ := va_join (wr := [(b0, .inl (E 0, m, .inl z0))]) (w1 := []) hP hD [] [0] rfl rfl (by decide) (by decide) hk1 hFc hP1 hD1
  clear hPc hDc hFc hP1 hD1 hk1 hz1 ht
  generalize H1 = H at hP hS ⊢
  have hP : va_P D vwCl [(b0, .inl (E 0, m, .inl z0))] H := hP
  have hD : va_D A [(b0, .inl (E 0, m, .inl z0))] := hD
  refine lv_iload_n hx hb dJ7_copyOfRangeByte_39247_5 rfl (lv_at hl 2 rfl) ?_
  refine lv_iload_n hx hb dJ7_copyOfRangeByte_39247_6 rfl (lv_at hl 1 rfl) ?_
  refine lv_isub hx hb dJ7_copyOfRangeByte_39247_7 (lv_topi (fun f1 ef => ?_))
  obtain rfl : f1 = nI (n) := (show f1 = nI (n) - nI (0) from ef).trans ((pk_sub (by omega)).trans (congrArg nI (by omega)))
  refine lv_istore_n hx hb dJ7_copyOfRangeByte_39247_8 rfl hl (Nat.le_of_ble_eq_true rfl) rfl (fun ls hl => ?_)
  have hl : lv_has ls 5 [(3, .int (nI (n))), (0, .ref b0), (1, .int (nI 0)), (2, .int (nI n))] := hl
  refine lv_iload_n hx hb dJ7_copyOfRangeByte_39247_9 rfl (lv_at hl 0 rfl) ?_
  have h_1 : 0 + 1 ≤ 1 := by omega
  have h_2 : 0 + (n) ≤ 1000 := by omega
  refine va_newa (atype := .byte) (N' := n) (a0 := (n, .inl z0)) hx hb (hts (.arrayClass .byte) (by decide +kernel)) rfl hK hP hD hS hA (fun _ => rfl) (nI_pos (by omega)) (nI_clamp (by omega)) (Nat.le_trans (Nat.mul_le_mul_right _ (show n ≤ 1000 by omega)) (Nat.le_of_ble_eq_true rfl)) h_1 h_2 dJ7_copyOfRangeByte_39247_10 (fun q1 cA H hK2 hP hD hS => ?_)
  obtain rfl := rf_byte hK2
  have hP : va_P D vwCl [(b0, .inl (E 0, m, .inl z0)), (q1, .inl (E 0, n, .inl z0))] H := hP
  have hD : va_D A [(b0, .inl (E 0, m, .inl z0)), (q1, .inl (E 0, n, .inl z0))] := hD
  refine W.widen (k := 1) (n := 1000) (by omega) (by omega) ?_
  refine lv_astore hx hb dJ7_copyOfRangeByte_39247_12 hl (Nat.le_of_ble_eq_true rfl) rfl (fun ls hl => ?_)
  have hl : lv_has ls 5 [(4, .ref q1), (3, .int (nI (n))), (0, .ref b0), (1, .int (nI 0)), (2, .int (nI n))] := hl
  refine lv_aload_n hx hb dJ7_copyOfRangeByte_39247_14 rfl (lv_at hl 2 rfl) ?_
  refine lv_iload_n hx hb dJ7_copyOfRangeByte_39247_15 rfl (lv_at hl 3 rfl) ?_
  refine lv_aload hx hb dJ7_copyOfRangeByte_39247_16 (lv_at hl 0 rfl) ?_
  refine lv_iconst (v := nI 0) hx hb dJ7_copyOfRangeByte_39247_18 (by decide) ?_
  refine lv_aload_n hx hb dJ7_copyOfRangeByte_39247_19 rfl (lv_at hl 2 rfl) ?_
  refine va_alen (v := nI (m)) hx hb hK hP 0 0 rfl rfl rfl dJ7_copyOfRangeByte_39247_20 ?_
  refine lv_iload_n hx hb dJ7_copyOfRangeByte_39247_21 rfl (lv_at hl 3 rfl) ?_
  refine lv_isub hx hb dJ7_copyOfRangeByte_39247_22 (lv_topi (fun f2 ef => ?_))
  obtain rfl : f2 = nI (m) := (show f2 = nI (m) - nI (0) from ef).trans ((pk_sub (by omega)).trans (congrArg nI (by omega)))
  refine lv_iload_n hx hb dJ7_copyOfRangeByte_39247_23 rfl (lv_at hl 1 rfl) ?_
  refine va_mmin hx hb (by rw [hml]; exact hl.1.symm) hown (hts (.methodLink RJ7 304 Lib.Math.min.name) (by decide +kernel)) (hts (.static Lib.Math.min.name) (by decide +kernel)) (hts (.initialized "java/lang/Math") (by decide +kernel)) (hts (.code Lib.Math.min.name Lib.Math.min.code 2 (some .int)) (by decide +kernel)) (Nat.le_of_ble_eq_true rfl) (Nat.le_of_ble_eq_true rfl) (show 1 ≤ 1 by omega) (show 1000 ≤ 1000 by omega) dJ7_copyOfRangeByte_39247_24 (lv_topi (fun f3 ef => ?_))
  obtain rfl : f3 = nI (n) := by
    rw [ef]
    by_cases h : n < m
    · exact if_pos (nI_lt h (by omega))
    · rw [if_neg (nI_nlt (by omega) (by omega))]; exact congrArg nI (by omega)
  refine va_copyi hx hb (by rw [hml]; exact hl.1.symm) hown (hts (.methodLink RJ7 150 arraycopyName) (by decide +kernel)) (hts (.native arraycopyName) (by decide +kernel)) (hts (.static arraycopyName) (by decide +kernel)) (hts (.initialized "java/lang/System") (by decide +kernel)) hK hP hD hS 0 1 0 0 rfl rfl rfl rfl rfl (nI_pos (by omega)) (nI_pos (by omega)) (nI_pos (by omega)) (by rw [nI_clamp (n := 0) (by omega), nI_clamp (n := n) (by omega)]; omega) (by rw [nI_clamp (n := 0) (by omega), nI_clamp (n := n) (by omega)]; omega) (fun _ _ => rfl) (Nat.le_of_ble_eq_true rfl) (Nat.le_of_ble_eq_true rfl) dJ7_copyOfRangeByte_39247_27 (fun H locs hP hD hS => ?_)
  rw [rf_cp] at hP hD
  have hP : va_P D vwCl [(b0, .inl (E 0, m, .inl z0)), (q1, .inl (E 0, n, .inl z0))] H := hP
  have hD : va_D A [(b0, .inl (E 0, m, .inl z0)), (q1, .inl (E 0, n, .inl z0))] := hD
  refine lv_aload hx hb dJ7_copyOfRangeByte_39247_30 (lv_at hl 0 rfl) ?_
  exact W.aret (v := .ref q1) hx hb hr (Or.inr ⟨_, rfl⟩) (Or.inr ⟨_, rfl⟩) (fun t ht hW => ⟨⟨(), q1, rfl, trivial, rf_end ht hP hD⟩, hS.F ht⟩) hS.2.2 dJ7_copyOfRangeByte_39247_32
set_option maxHeartbeats 4000000 in
set_option maxRecDepth 100000 in
/-- copyOfRange(b, 0, n) -/
theorem c_J7_copyOfRange_39247 (l : Launch) (D : va_G) (E : Nat → ClassId) (sz : Nat) (b0 m n : Nat) (hm : m ≤ 1000) (hn : n ≤ m) : Met l yJ7_copyOfRange_39247 wsJ7_copyOfRange_39247 ({ frames := 4, cells := 1, slots := 1000, locals := 600 }) (va_Pc [.ref b0, .int (nI 0), .int (nI n)] (rf_P D E [(b0, .inl (E 0, m, .inl z0))] sz)) (va_Qr (fun (u : Unit) => True) (fun (u : Unit) (ra : Nat) (t : State) => rf_B D (va_A [(b0, .inl (E 0, m, .inl z0))] sz) [(b0, .inl (E 0, m, .inl z0)), (ra, .inl (E 0, n, .inl z0))] t) (va_A [(b0, .inl (E 0, m, .inl z0))] sz)) 1 1000 (va_A [(b0, .inl (E 0, m, .inl z0))] sz) := by
  refine Met.ofW (cc := cJ7_copyOfRange_39247) (maxL := 3) (ret := (some (.array .byte))) (by decide) rfl ?_
  intro p e s mI args below meth c s₁ B hml hv
  obtain ⟨rfl, hsz, hP, hK, hD0, hZ, hN⟩ := hv
  have hx := B.exec
  have hb := B.bytes
  have hr := B.returns
  have hts := atoms_spec (ws := wsJ7_copyOfRange_39247) B.pre
  have hown : s.vm.findClass RJ7 = some mI.cls := findClass_of_methodNamed B.named
  have hlocks := B.notSynchronized
  subst hsz
  have hD := hD0.self (sz := s.heap.size)
  generalize hAe : va_A [(b0, .inl (E 0, m, .inl z0))] s.heap.size = A at hD hZ ⊢
  have hA : ∀ q : Nat, s.heap.size ≤ q → A q := fun q h => by rw [← hAe]; exact Or.inr h
  have hS : va_S A s.heap s.heap [] := va_S.rf
  have hl := lv_entry ([.ref b0, .int (nI 0), .int (nI n)]) (n := 3) (Nat.le_of_ble_eq_true rfl)
  rw [lg_entry_eq]
  generalize (lg_sl ([.ref b0, .int (nI 0), .int (nI n)]) ++ List.replicate (3 - (lg_sl ([.ref b0, .int (nI 0), .int (nI n)])).length) Slot.unset).toArray = ls at hl ⊢
  clear hAe hD0
  have hl : lv_has ls 3 [(0, .ref b0), (1, .int (nI 0)), (2, .int (nI n))] := hl
  obtain ⟨H, hH⟩ : ∃ H, H = s.heap := ⟨_, rfl⟩
  rw [← hH] at hP
  have hS : va_S A s.heap H [] := by rw [hH]; exact hS
  refine rf_heap hH ?_
  refine lv_iload_n hx hb dJ7_copyOfRange_39247_0 rfl (lv_at hl 1 rfl) ?_
  refine lv_if_ne (tgt := 10) hx hb dJ7_copyOfRange_39247_1 rfl (fun h => absurd (by decide) h) (fun _ => ?_)
  refine lv_iload_n hx hb dJ7_copyOfRange_39247_4 rfl (lv_at hl 2 rfl) ?_
  refine lv_aload_n hx hb dJ7_copyOfRange_39247_5 rfl (lv_at hl 0 rfl) ?_
  refine va_alen (v := nI (m)) hx hb hK hP 0 0 rfl rfl rfl dJ7_copyOfRange_39247_6 ?_
  by_cases hnm : n = m
  · subst hnm
    refine lv_icmp_eq (tgt := 17) hx hb dJ7_copyOfRange_39247_7 rfl (fun _ => ?_) (fun h => absurd (show nI (n) = nI (n) from congrArg nI (by omega)) h)
    refine lv_aload_n hx hb dJ7_copyOfRange_39247_17 rfl (lv_at hl 0 rfl) ?_
    have h_1 : 0 + 1 ≤ 1 := by omega
    have h_2 : 0 + (n) ≤ 1000 := by omega
    refine va_clone (ad := "[B") (ty := .byte) hx hb (by rw [hml]; exact hl.1.symm) hown (hts (.methodLink RJ7 310 ⟨"[B", "clone", "()Ljava/lang/Object;"⟩) (by decide +kernel)) (hts (.sameMethod "[B" "java/lang/Object" "clone" "()Ljava/lang/Object;") (by decide +kernel)) (hts (.native ⟨"java/lang/Object", "clone", "()Ljava/lang/Object;"⟩) (by decide +kernel)) (hts (.instanceMethod ⟨"java/lang/Object", "clone", "()Ljava/lang/Object;"⟩) (by decide +kernel)) (hts (.selects "[B" ⟨"[B", "clone", "()Ljava/lang/Object;"⟩ ⟨"java/lang/Object", "clone", "()Ljava/lang/Object;"⟩) (by decide +kernel)) hN.1 hK hP hD hS hA 0 0 rfl rfl (hK.2 0 _ rfl).2 (fun i v h => rf_fitz h) (Nat.le_of_ble_eq_true rfl) (Nat.le_of_ble_eq_true rfl) h_1 h_2 dJ7_copyOfRange_39247_18 (fun q1 H hK2 hP hD hS => ?_)
    have hP : va_P D vwCl [(b0, .inl (E 0, n, .inl z0)), (q1, .inl (E 0, n, .inl z0))] H := hP
    have hD : va_D A [(b0, .inl (E 0, n, .inl z0)), (q1, .inl (E 0, n, .inl z0))] := hD
    refine W.widen (k := 1) (n := 1000) (by omega) (by omega) ?_
    refine va_castA hx hb hown (hts (.classLink RJ7 311 "[B") (by decide +kernel)) hP 1 rfl (hK.2 0 _ rfl).2 dJ7_copyOfRange_39247_21 ?_
    exact W.aret (v := .ref q1) hx hb hr (Or.inr ⟨_, rfl⟩) (Or.inr ⟨_, rfl⟩) (fun t ht hW => ⟨⟨(), q1, rfl, trivial, rf_end ht hP hD⟩, hS.F ht⟩) hS.2.2 dJ7_copyOfRange_39247_24
  · refine lv_icmp_eq (tgt := 17) hx hb dJ7_copyOfRange_39247_7 rfl (fun h => absurd h (show ¬ nI (n) = nI (m) from fun h => absurd ((nI_eq (by omega) (by omega)).mp h) (by omega))) (fun _ => ?_)
    refine lv_aload_n hx hb dJ7_copyOfRange_39247_10 rfl (lv_at hl 0 rfl) ?_
    refine lv_iload_n hx hb dJ7_copyOfRange_39247_11 rfl (lv_at hl 1 rfl) ?_
    refine lv_iload_n hx hb dJ7_copyOfRange_39247_12 rfl (lv_at hl 2 rfl) ?_
    have hPc := hP.sub (ws' := [(b0, .inl (E 0, m, .inl z0))]) [0] rfl
    have hDc := hD.sub (ws' := [(b0, .inl (E 0, m, .inl z0))]) [0] (by decide) rfl
    have hFc := va_free (wc := [(b0, .inl (E 0, m, .inl z0))]) hD hS hA [0] rfl
    have h_1 : 0 + 1 ≤ 1 := by omega
    have h_2 : 0 + 1000 ≤ 1000 := by omega
    refine va_callr (va_runS (As := [.ref b0, .int (nI 0), .int (nI n)]) (rest := []) ⟨hx, hb, hml, hown, hts⟩ (c_J7_copyOfRangeByte_39247 l D E H.size (b0) (m) (n) (by omega) (by omega)) (va_cwS 3 hts gJ7_copyOfRange_39247_J7_copyOfRangeByte_39247 rfl rfl rfl (by decide +kernel) ⟨Nat.le_of_ble_eq_true rfl, Nat.le_of_ble_eq_true rfl⟩) ⟨rf_blind _, fun U hU hW => ⟨rfl, rf_pre hK hPc hDc hZ hN hS hFc U hU hW⟩⟩ rfl rfl hl.1 rfl (lv_room (Nat.le_of_ble_eq_true rfl)) dJ7_copyOfRange_39247_13 ⟨h_1, h_2⟩) hS (fun q _ h => hFc q h) hFc (fun u ra t H1 locs ht hvm hw hB hz1 hk1 hS => ?_)
    obtain ⟨hP1, hD1⟩ := hB
    rw [ht] at hP1
    try dsimp only at hw hP1 hD1
    obtain ⟨hP, hD⟩ := va_join (wr := []) (w1 := [(b0, .inl (E 0, m, .inl z0)), (ra, .inl (E 0, n, .inl z0))]) hP hD [0] [] rfl rfl (by decide) (by decide) hk1 hFc hP1 hD1
    clear hPc hDc hFc hP1 hD1 hk1 hz1 ht
    generalize H1 = H at hP hS ⊢
    have hP : va_P D vwCl [(b0, .inl (E 0, m, .inl z0)), (ra, .inl (E 0, n, .inl z0))] H := hP
    have hD : va_D A [(b0, .inl (E 0, m, .inl z0)), (ra, .inl (E 0, n, .inl z0))] := hD
    refine W.widen (k := 1) (n := 1000) (by omega) (by omega) ?_
    exact W.aret (v := .ref ra) hx hb hr (Or.inr ⟨_, rfl⟩) (Or.inr ⟨_, rfl⟩) (fun t ht hW => ⟨⟨(), ra, rfl, trivial, rf_end ht hP hD⟩, hS.F ht⟩) hS.2.2 dJ7_copyOfRange_39247_16
set_option maxHeartbeats 4000000 in
set_option maxRecDepth 100000 in
/-- String(AbstractStringBuilder, Void) -/
theorem c_J0_init_db425 (l : Launch) (D : va_G) (E : Nat → ClassId) (sz : Nat) (h0 g0 b0 n m : Nat) (w2 : Value) (hm : m ≤ 1000) (hn : n ≤ m) : Met l yJ0_init_db425 wsJ0_init_db425 ({ frames := 5, cells := 1, slots := 1000, locals := 800 }) (va_Pc [.ref h0, .ref g0, .null] (rf_P D E [(h0, .inr (0, [.null, .int 0, .int 0, .int 0])), (g0, .inr (1, [.ref b0, .int 0, w2, .int (nI (n))])), (b0, .inl (E 0, m, .inl z0))] sz)) (va_Qv (fun (u : Nat) => True) (fun (u : Nat) (t : State) => rf_B D (va_A [(h0, .inr (0, [.null, .int 0, .int 0, .int 0])), (g0, .inr (1, [.ref b0, .int 0, w2, .int (nI (n))])), (b0, .inl (E 0, m, .inl z0))] sz) [(h0, .inr (0, [.ref u, .int 0, .int 0, .int 0])), (u, .inl (E 0, n, .inl z0)), (g0, .inr (1, [.ref b0, .int 0, w2, .int (nI n)])), (b0, .inl (E 0, m, .inl z0))] t) (va_A [(h0, .inr (0, [.null, .int 0, .int 0, .int 0])), (g0, .inr (1, [.ref b0, .int 0, w2, .int (nI (n))])), (b0, .inl (E 0, m, .inl z0))] sz)) 1 1000 (va_A [(h0, .inr (0, [.null, .int 0, .int 0, .int 0])), (g0, .inr (1, [.ref b0, .int 0, w2, .int (nI (n))])), (b0, .inl (E 0, m, .inl z0))] sz) := by
  refine Met.ofW (cc := cJ0_init_db425) (maxL := 5) (ret := none) (by decide) rfl ?_
  intro p e s mI args below meth c s₁ B hml hv
  obtain ⟨rfl, hsz, hP, hK, hD0, hZ, hN⟩ := hv
  have hx := B.exec
  have hb := B.bytes
  have hr := B.returns
  have hts := atoms_spec (ws := wsJ0_init_db425) B.pre
  have hown : s.vm.findClass RJ0 = some mI.cls := findClass_of_methodNamed B.named
  have hlocks := B.notSynchronized
  have hin : meth.name = "<init>" := (name_of_methodNamed B.named B.method).1
  subst hsz
  have hD := hD0.self (sz := s.heap.size)
  generalize hAe : va_A [(h0, .inr (0, [.null, .int 0, .int 0, .int 0])), (g0, .inr (1, [.ref b0, .int 0, w2, .int (nI (n))])), (b0, .inl (E 0, m, .inl z0))] s.heap.size = A at hD hZ ⊢
  have hA : ∀ q : Nat, s.heap.size ≤ q → A q := fun q h => by rw [← hAe]; exact Or.inr h
  have hS : va_S A s.heap s.heap [] := va_S.rf
  have hl := lv_entry ([.ref h0, .ref g0, .null]) (n := 5) (Nat.le_of_ble_eq_true rfl)
  rw [lg_entry_eq]
  generalize (lg_sl ([.ref h0, .ref g0, .null]) ++ List.replicate (5 - (lg_sl ([.ref h0, .ref g0, .null])).length) Slot.unset).toArray = ls at hl ⊢
  clear hAe hD0
  have hl : lv_has ls 5 [(0, .ref h0), (1, .ref g0), (2, .null)] := hl
  obtain ⟨H, hH⟩ : ∃ H, H = s.heap := ⟨_, rfl⟩
  rw [← hH] at hP
  have hS : va_S A s.heap H [] := by rw [hH]; exact hS
  refine rf_heap hH ?_
  refine lv_aload_n hx hb dJ0_init_db425_0 rfl (lv_at hl 0 rfl) ?_
  refine W.objInit hx hb hown (hts (.methodLink RJ0 1 objectInit) (by decide +kernel)) (hts (.instanceMethod objectInit) (by decide +kernel)) (hts (.code objectInit ⟨#[0xb1]⟩ 1 none) (by decide +kernel)) rfl (by rw [hml]; exact hl.1) rfl dJ0_init_db425_1 (Nat.le_of_ble_eq_true rfl) (Nat.le_of_ble_eq_true rfl) ?_
  refine W.eq (g2 := F0 mI 4 ls []) rfl ?_
  refine lv_aload_n hx hb dJ0_init_db425_4 rfl (lv_at hl 1 rfl) ?_
  have hPc := hP.sub (ws' := [(g0, .inr (1, [.ref b0, .int 0, w2, .int (nI (n))]))]) [1] rfl
  have hDc := hD.sub (ws' := [(g0, .inr (1, [.ref b0, .int 0, w2, .int (nI (n))]))]) [1] (by decide) rfl
  have hFc := va_free (wc := [(g0, .inr (1, [.ref b0, .int 0, w2, .int (nI (n))]))]) hD hS hA [1] rfl
  have h_1 : 0 + 0 ≤ 1 := by omega
  have h_2 : 0 + 0 ≤ 1000 := by omega
  refine va_callr (va_runU (As := []) (rest := []) ⟨hx, hb, hml, hown, hts⟩ (c_J5_getValue_6d5f1 l D E H.size (g0) (b0) (.int 0) (w2) (.int (nI n))) (va_cwU 0 hts gJ0_init_db425_J5_getValue_6d5f1_u552J4 rfl rfl rfl rfl (by decide +kernel) ⟨Nat.le_of_ble_eq_true rfl, Nat.le_of_ble_eq_true rfl⟩) ⟨rf_blind _, va_recv hK hPc (ci := 1) (q0 := 0) rfl rfl, fun U hU hW => ⟨rfl, rf_pre hK hPc hDc hZ hN hS hFc U hU hW⟩⟩ rfl rfl hl.1 rfl (lv_room (Nat.le_of_ble_eq_true rfl)) dJ0_init_db425_5 ⟨h_1, h_2⟩) hS (fun q _ h => hFc q h) hFc (fun u ra t H1 locs ht hvm hw hB hz1 hk1 hS => ?_)
  obtain ⟨hra, hP1, hD1⟩ := hB
  try dsimp only at hra
  subst ra
  rw [ht] at hP1
  try dsimp only at hw hP1 hD1
  obtain ⟨hP, hD⟩ := va_join (wr := [(h0, .inr (0, [.null, .int 0, .int 0, .int 0])), (b0, .inl (E 0, m, .inl z0))]) (w1 := [(g0, .inr (1, [.ref b0, .int 0, w2, .int (nI (n))]))]) hP hD [1] [0, 2] rfl rfl (by decide) (by decide) hk1 hFc hP1 hD1
  clear hPc hDc hFc hP1 hD1 hk1 hz1 ht
  generalize H1 = H at hP hS ⊢
  have hP : va_P D vwCl [(h0, .inr (0, [.null, .int 0, .int 0, .int 0])), (b0, .inl (E 0, m, .inl z0)), (g0, .inr (1, [.ref b0, .int 0, w2, .int (nI (n))]))] H := hP
  have hD : va_D A [(h0, .inr (0, [.null, .int 0, .int 0, .int 0])), (b0, .inl (E 0, m, .inl z0)), (g0, .inr (1, [.ref b0, .int 0, w2, .int (nI (n))]))] := hD
  refine lv_astore_n hx hb dJ0_init_db425_8 rfl hl (Nat.le_of_ble_eq_true rfl) rfl (fun ls hl => ?_)
  have hl : lv_has ls 5 [(3, .ref b0), (0, .ref h0), (1, .ref g0), (2, .null)] := hl
  refine lv_aload_n hx hb dJ0_init_db425_9 rfl (lv_at hl 2 rfl) ?_
  have hPc := hP.sub (ws' := [(g0, .inr (1, [.ref b0, .int 0, w2, .int (nI (n))]))]) [2] rfl
  have hDc := hD.sub (ws' := [(g0, .inr (1, [.ref b0, .int 0, w2, .int (nI (n))]))]) [2] (by decide) rfl
  have hFc := va_free (wc := [(g0, .inr (1, [.ref b0, .int 0, w2, .int (nI (n))]))]) hD hS hA [2] rfl
  have h_1 : 0 + 0 ≤ 1 := by omega
  have h_2 : 0 + 0 ≤ 1000 := by omega
  refine va_calli (va_runU (As := []) (rest := []) ⟨hx, hb, hml, hown, hts⟩ (c_J4_length_8abf5 l D E H.size (g0) (n) (.ref b0) (.int 0) (w2)) (va_cwO 0 hts gJ0_init_db425_J4_length_8abf5_u549J4 rfl rfl rfl (b0 := cJ5_length_8abf5) (m0 := 1) (r0 := (some .int)) (by decide +kernel) (by decide +kernel) ⟨Nat.le_of_ble_eq_true rfl, Nat.le_of_ble_eq_true rfl⟩) ⟨rf_blind _, va_recv hK hPc (ci := 1) (q0 := 0) rfl rfl, fun U hU hW => ⟨rfl, rf_pre hK hPc hDc hZ hN hS hFc U hU hW⟩⟩ rfl rfl hl.1 rfl (lv_room (Nat.le_of_ble_eq_true rfl)) dJ0_init_db425_10 ⟨h_1, h_2⟩) hS (fun q _ h => hFc q h) hFc (fun r u t H1 locs ht hvm hw hB hz1 hk1 hS => ?_)
  obtain ⟨hP1, hD1⟩ := hB
  rw [ht] at hP1
  try dsimp only at hw hP1 hD1
  obtain rfl := hw
  obtain ⟨hP, hD⟩ := va_join (wr := [(h0, .inr (0, [.null, .int 0, .int 0, .int 0])), (b0, .inl (E 0, m, .inl z0))]) (w1 := [(g0, .inr (1, [.ref b0, .int 0, w2, .int (nI (n))]))]) hP hD [2] [0, 1] rfl rfl (by decide) (by decide) hk1 hFc hP1 hD1
  clear hPc hDc hFc hP1 hD1 hk1 hz1 ht
  generalize H1 = H at hP hS ⊢
  have hP : va_P D vwCl [(h0, .inr (0, [.null, .int 0, .int 0, .int 0])), (b0, .inl (E 0, m, .inl z0)), (g0, .inr (1, [.ref b0, .int 0, w2, .int (nI (n))]))] H := hP
  have hD : va_D A [(h0, .inr (0, [.null, .int 0, .int 0, .int 0])), (b0, .inl (E 0, m, .inl z0)), (g0, .inr (1, [.ref b0, .int 0, w2, .int (nI (n))]))] := hD
  refine lv_istore hx hb dJ0_init_db425_13 hl (Nat.le_of_ble_eq_true rfl) rfl (fun ls hl => ?_)
  have hl : lv_has ls 5 [(4, .int (nI (n))), (3, .ref b0), (0, .ref h0), (1, .ref g0), (2, .null)] := hl
  refine lv_aload_n hx hb dJ0_init_db425_15 rfl (lv_at hl 3 rfl) ?_
  have hPc := hP.sub (ws' := [(g0, .inr (1, [.ref b0, .int 0, w2, .int (nI (n))]))]) [2] rfl
  have hDc := hD.sub (ws' := [(g0, .inr (1, [.ref b0, .int 0, w2, .int (nI (n))]))]) [2] (by decide) rfl
  have hFc := va_free (wc := [(g0, .inr (1, [.ref b0, .int 0, w2, .int (nI (n))]))]) hD hS hA [2] rfl
  have h_1 : 0 + 0 ≤ 1 := by omega
  have h_2 : 0 + 0 ≤ 1000 := by omega
  refine va_calli (va_runU (As := []) (rest := []) ⟨hx, hb, hml, hown, hts⟩ (c_J5_isLatin1_aae02 l D E H.size (g0) (.ref b0) (w2) (.int (nI n))) (va_cwU 0 hts gJ0_init_db425_J5_isLatin1_aae02_u1047J4 rfl rfl rfl rfl (by decide +kernel) ⟨Nat.le_of_ble_eq_true rfl, Nat.le_of_ble_eq_true rfl⟩) ⟨rf_blind _, va_recv hK hPc (ci := 1) (q0 := 0) rfl rfl, fun U hU hW => ⟨rfl, rf_pre hK hPc hDc hZ hN hS hFc U hU hW⟩⟩ rfl rfl hl.1 rfl (lv_room (Nat.le_of_ble_eq_true rfl)) dJ0_init_db425_16 ⟨h_1, h_2⟩) hS (fun q _ h => hFc q h) hFc (fun r u t H1 locs ht hvm hw hB hz1 hk1 hS => ?_)
  obtain ⟨hP1, hD1⟩ := hB
  rw [ht] at hP1
  try dsimp only at hw hP1 hD1
  obtain rfl := hw
  obtain ⟨hP, hD⟩ := va_join (wr := [(h0, .inr (0, [.null, .int 0, .int 0, .int 0])), (b0, .inl (E 0, m, .inl z0))]) (w1 := [(g0, .inr (1, [.ref b0, .int 0, w2, .int (nI (n))]))]) hP hD [2] [0, 1] rfl rfl (by decide) (by decide) hk1 hFc hP1 hD1
  clear hPc hDc hFc hP1 hD1 hk1 hz1 ht
  generalize H1 = H at hP hS ⊢
  have hP : va_P D vwCl [(h0, .inr (0, [.null, .int 0, .int 0, .int 0])), (b0, .inl (E 0, m, .inl z0)), (g0, .inr (1, [.ref b0, .int 0, w2, .int (nI (n))]))] H := hP
  have hD : va_D A [(h0, .inr (0, [.null, .int 0, .int 0, .int 0])), (b0, .inl (E 0, m, .inl z0)), (g0, .inr (1, [.ref b0, .int 0, w2, .int (nI (n))]))] := hD
  refine lv_if_eq (tgt := 41) hx hb dJ0_init_db425_19 rfl (fun h => absurd h (by decide)) (fun _ => ?_)
  refine lv_aload_n hx hb dJ0_init_db425_22 rfl (lv_at hl 2 rfl) ?_
  refine lv_iconst (v := 0) hx hb dJ0_init_db425_23 (by decide) ?_
  refine va_putF (D := D) (ci := 0) (v := .int (0)) (ty := .byte) (C := RJ0) (T := TJ0) (N := 4) hx hb hts (by decide +kernel) tyJ0 tyJ0_ok nmJ0 hown hK hP hD hS 0 rfl rfl 1 (by decide) (hts (.fieldLink RJ0 15 "java/lang/String" "coder" "B") (by decide +kernel)) (fun _ h9 => h9) rfl hin rfl (by decide +kernel) rfl rfl (Nat.le_of_ble_eq_true rfl) dJ0_init_db425_24 (fun H locs hP hD hS => ?_)
  have hP : va_P D vwCl [(h0, .inr (0, [.null, .int (0), .int 0, .int 0])), (b0, .inl (E 0, m, .inl z0)), (g0, .inr (1, [.ref b0, .int 0, w2, .int (nI (n))]))] H := hP
  have hD : va_D A [(h0, .inr (0, [.null, .int (0), .int 0, .int 0])), (b0, .inl (E 0, m, .inl z0)), (g0, .inr (1, [.ref b0, .int 0, w2, .int (nI (n))]))] := hD
  refine lv_aload_n hx hb dJ0_init_db425_27 rfl (lv_at hl 2 rfl) ?_
  refine lv_aload_n hx hb dJ0_init_db425_28 rfl (lv_at hl 1 rfl) ?_
  refine lv_iconst (v := nI 0) hx hb dJ0_init_db425_29 (by decide) ?_
  refine lv_iload hx hb dJ0_init_db425_30 (lv_at hl 0 rfl) ?_
  have hPc := hP.sub (ws' := [(b0, .inl (E 0, m, .inl z0))]) [1] rfl
  have hDc := hD.sub (ws' := [(b0, .inl (E 0, m, .inl z0))]) [1] (by decide) rfl
  have hFc := va_free (wc := [(b0, .inl (E 0, m, .inl z0))]) hD hS hA [1] rfl
  have h_1 : 0 + 1 ≤ 1 := by omega
  have h_2 : 0 + 1000 ≤ 1000 := by omega
  refine va_callr (va_runS (As := [.ref b0, .int (nI 0), .int (nI (n))]) (rest := [.ref h0]) ⟨hx, hb, hml, hown, hts⟩ (c_J7_copyOfRange_39247 l D E H.size (b0) (m) (n) (by omega) (by omega)) (va_cwS 3 hts gJ0_init_db425_J7_copyOfRange_39247 rfl rfl rfl (by decide +kernel) ⟨Nat.le_of_ble_eq_true rfl, Nat.le_of_ble_eq_true rfl⟩) ⟨rf_blind _, fun U hU hW => ⟨rfl, rf_pre hK hPc hDc hZ hN hS hFc U hU hW⟩⟩ rfl rfl hl.1 rfl (lv_room (Nat.le_of_ble_eq_true rfl)) dJ0_init_db425_32 ⟨h_1, h_2⟩) hS (fun q _ h => hFc q h) hFc (fun u ra t H1 locs ht hvm hw hB hz1 hk1 hS => ?_)
  obtain ⟨hP1, hD1⟩ := hB
  rw [ht] at hP1
  try dsimp only at hw hP1 hD1
  obtain ⟨hP, hD⟩ := va_join (wr := [(h0, .inr (0, [.null, .int (0), .int 0, .int 0])), (g0, .inr (1, [.ref b0, .int 0, w2, .int (nI (n))]))]) (w1 := [(b0, .inl (E 0, m, .inl z0)), (ra, .inl (E 0, n, .inl z0))]) hP hD [1] [0, 2] rfl rfl (by decide) (by decide) hk1 hFc hP1 hD1
  clear hPc hDc hFc hP1 hD1 hk1 hz1 ht
  generalize H1 = H at hP hS ⊢
  have hP : va_P D vwCl [(h0, .inr (0, [.null, .int (0), .int 0, .int 0])), (g0, .inr (1, [.ref b0, .int 0, w2, .int (nI (n))])), (b0, .inl (E 0, m, .inl z0)), (ra, .inl (E 0, n, .inl z0))] H := hP
  have hD : va_D A [(h0, .inr (0, [.null, .int (0), .int 0, .int 0])), (g0, .inr (1, [.ref b0, .int 0, w2, .int (nI (n))])), (b0, .inl (E 0, m, .inl z0)), (ra, .inl (E 0, n, .inl z0))] := hD
  refine W.widen (k := 1) (n := 1000) (by omega) (by omega) ?_
  refine va_putF (D := D) (ci := 0) (v := .ref ra) (ty := .array .byte) (C := RJ0) (T := TJ0) (N := 4) hx hb hts (by decide +kernel) tyJ0 tyJ0_ok nmJ0 hown hK hP hD hS 0 rfl rfl 0 (by decide) (hts (.fieldLink RJ0 9 "java/lang/String" "value" "[B") (by decide +kernel)) (fun _ h9 => h9) rfl hin rfl (by decide +kernel) rfl rfl (Nat.le_of_ble_eq_true rfl) dJ0_init_db425_35 (fun H locs hP hD hS => ?_)
  have hP : va_P D vwCl [(h0, .inr (0, [.ref ra, .int (0), .int 0, .int 0])), (g0, .inr (1, [.ref b0, .int 0, w2, .int (nI (n))])), (b0, .inl (E 0, m, .inl z0)), (ra, .inl (E 0, n, .inl z0))] H := hP
  have hD : va_D A [(h0, .inr (0, [.ref ra, .int (0), .int 0, .int 0])), (g0, .inr (1, [.ref b0, .int 0, w2, .int (nI (n))])), (b0, .inl (E 0, m, .inl z0)), (ra, .inl (E 0, n, .inl z0))] := hD
  refine lv_goto (tgt := 97) hx hb dJ0_init_db425_38 rfl ?_
  have hP := hP.sub (ws' := [(h0, .inr (0, [.ref ra, .int 0, .int 0, .int 0])), (ra, .inl (E 0, n, .inl z0)), (g0, .inr (1, [.ref b0, .int 0, w2, .int (nI (n))])), (b0, .inl (E 0, m, .inl z0))]) [0, 3, 1, 2] rfl
  have hD := hD.sub (ws' := [(h0, .inr (0, [.ref ra, .int 0, .int 0, .int 0])), (ra, .inl (E 0, n, .inl z0)), (g0, .inr (1, [.ref b0, .int 0, w2, .int (nI (n))])), (b0, .inl (E 0, m, .inl z0))]) [0, 3, 1, 2] (by decide) rfl
  exact W.vret hx hb hr (fun t ht hW => ⟨⟨ra, rfl, trivial, rf_end ht hP hD⟩, hS.F ht⟩) hS.2.2 dJ0_init_db425_97
set_option maxHeartbeats 4000000 in
set_option maxRecDepth 100000 in
/-- String(StringBuilder) -/
theorem c_J0_init_81219 (l : Launch) (D : va_G) (E : Nat → ClassId) (sz : Nat) (h0 g0 b0 n m : Nat) (w2 : Value) (hm : m ≤ 1000) (hn : n ≤ m) : Met l yJ0_init_81219 wsJ0_init_81219 ({ frames := 6, cells := 1, slots := 1000, locals := 1000 }) (va_Pc [.ref h0, .ref g0] (rf_P D E [(h0, .inr (0, [.null, .int 0, .int 0, .int 0])), (g0, .inr (1, [.ref b0, .int 0, w2, .int (nI (n))])), (b0, .inl (E 0, m, .inl z0))] sz)) (va_Qv (fun (u : Nat) => True) (fun (u : Nat) (t : State) => rf_B D (va_A [(h0, .inr (0, [.null, .int 0, .int 0, .int 0])), (g0, .inr (1, [.ref b0, .int 0, w2, .int (nI (n))])), (b0, .inl (E 0, m, .inl z0))] sz) [(h0, .inr (0, [.ref u, .int 0, .int 0, .int 0])), (u, .inl (E 0, n, .inl z0)), (g0, .inr (1, [.ref b0, .int 0, w2, .int (nI n)])), (b0, .inl (E 0, m, .inl z0))] t) (va_A [(h0, .inr (0, [.null, .int 0, .int 0, .int 0])), (g0, .inr (1, [.ref b0, .int 0, w2, .int (nI (n))])), (b0, .inl (E 0, m, .inl z0))] sz)) 1 1000 (va_A [(h0, .inr (0, [.null, .int 0, .int 0, .int 0])), (g0, .inr (1, [.ref b0, .int 0, w2, .int (nI (n))])), (b0, .inl (E 0, m, .inl z0))] sz) := by
  refine Met.ofW (cc := cJ0_init_81219) (maxL := 2) (ret := none) (by decide) rfl ?_
  intro p e s mI args below meth c s₁ B hml hv
  obtain ⟨rfl, hsz, hP, hK, hD0, hZ, hN⟩ := hv
  have hx := B.exec
  have hb := B.bytes
  have hr := B.returns
  have hts := atoms_spec (ws := wsJ0_init_81219) B.pre
  have hown : s.vm.findClass RJ0 = some mI.cls := findClass_of_methodNamed B.named
  have hlocks := B.notSynchronized
  have hin : meth.name = "<init>" := (name_of_methodNamed B.named B.method).1
  subst hsz
  have hD := hD0.self (sz := s.heap.size)
  generalize hAe : va_A [(h0, .inr (0, [.null, .int 0, .int 0, .int 0])), (g0, .inr (1, [.ref b0, .int 0, w2, .int (nI (n))])), (b0, .inl (E 0, m, .inl z0))] s.heap.size = A at hD hZ ⊢
  have hA : ∀ q : Nat, s.heap.size ≤ q → A q := fun q h => by rw [← hAe]; exact Or.inr h
  have hS : va_S A s.heap s.heap [] := va_S.rf
  have hl := lv_entry ([.ref h0, .ref g0]) (n := 2) (Nat.le_of_ble_eq_true rfl)
  rw [lg_entry_eq]
  generalize (lg_sl ([.ref h0, .ref g0]) ++ List.replicate (2 - (lg_sl ([.ref h0, .ref g0])).length) Slot.unset).toArray = ls at hl ⊢
  clear hAe hD0
  have hl : lv_has ls 2 [(0, .ref h0), (1, .ref g0)] := hl
  obtain ⟨H, hH⟩ : ∃ H, H = s.heap := ⟨_, rfl⟩
  rw [← hH] at hP
  have hS : va_S A s.heap H [] := by rw [hH]; exact hS
  refine rf_heap hH ?_
  refine lv_aload_n hx hb dJ0_init_81219_0 rfl (lv_at hl 0 rfl) ?_
  refine lv_aload_n hx hb dJ0_init_81219_1 rfl (lv_at hl 1 rfl) ?_
  refine lv_null hx hb dJ0_init_81219_2 ?_
  have hPc := hP.sub (ws' := [(h0, .inr (0, [.null, .int 0, .int 0, .int 0])), (g0, .inr (1, [.ref b0, .int 0, w2, .int (nI (n))])), (b0, .inl (E 0, m, .inl z0))]) [0, 1, 2] rfl
  have hDc := hD.sub (ws' := [(h0, .inr (0, [.null, .int 0, .int 0, .int 0])), (g0, .inr (1, [.ref b0, .int 0, w2, .int (nI (n))])), (b0, .inl (E 0, m, .inl z0))]) [0, 1, 2] (by decide) rfl
  have hFc := va_free (wc := [(h0, .inr (0, [.null, .int 0, .int 0, .int 0])), (g0, .inr (1, [.ref b0, .int 0, w2, .int (nI (n))])), (b0, .inl (E 0, m, .inl z0))]) hD hS hA [0, 1, 2] rfl
  have h_1 : 0 + 1 ≤ 1 := by omega
  have h_2 : 0 + 1000 ≤ 1000 := by omega
  refine va_callv (va_runI (As := [.ref g0, .null]) (rest := []) ⟨hx, hb, hml, hown, hts⟩ (c_J0_init_db425 l D E H.size (h0) (g0) (b0) (n) (m) (w2) (by omega) (by omega)) (cwI 2 hts gJ0_init_81219_J0_init_db425 rfl rfl rfl (hts (.initialized RJ0) (by decide +kernel)) (hts (.methodLink RJ0 489 yJ0_init_db425) (by decide +kernel)) (hts (.instanceMethod yJ0_init_db425) (by decide +kernel)) rfl (by decide +kernel) ⟨Nat.le_of_ble_eq_true rfl, Nat.le_of_ble_eq_true rfl⟩) ⟨rf_blind _, fun U hU hW => ⟨rfl, rf_pre hK hPc hDc hZ hN hS hFc U hU hW⟩⟩ rfl rfl hl.1 rfl (lv_room (Nat.le_of_ble_eq_true rfl)) dJ0_init_81219_3 ⟨h_1, h_2⟩) hS (fun q _ h => hFc q h) hFc (fun u t H1 locs ht hvm hw hB hz1 hk1 hS => ?_)
  obtain ⟨hP1, hD1⟩ := hB
  rw [ht] at hP1
  try dsimp only at hw hP1 hD1
  obtain ⟨hP, hD⟩ := va_join (wr := []) (w1 := [(h0, .inr (0, [.ref u, .int 0, .int 0, .int 0])), (u, .inl (E 0, n, .inl z0)), (g0, .inr (1, [.ref b0, .int 0, w2, .int (nI (n))])), (b0, .inl (E 0, m, .inl z0))]) hP hD [0, 1, 2] [] rfl rfl (by decide) (by decide) hk1 hFc hP1 hD1
  clear hPc hDc hFc hP1 hD1 hk1 hz1 ht
  generalize H1 = H at hP hS ⊢
  have hP : va_P D vwCl [(h0, .inr (0, [.ref u, .int 0, .int 0, .int 0])), (u, .inl (E 0, n, .inl z0)), (g0, .inr (1, [.ref b0, .int 0, w2, .int (nI (n))])), (b0, .inl (E 0, m, .inl z0))] H := hP
  have hD : va_D A [(h0, .inr (0, [.ref u, .int 0, .int 0, .int 0])), (u, .inl (E 0, n, .inl z0)), (g0, .inr (1, [.ref b0, .int 0, w2, .int (nI (n))])), (b0, .inl (E 0, m, .inl z0))] := hD
  refine W.widen (k := 1) (n := 1000) (by omega) (by omega) ?_
  have hP := hP.sub (ws' := [(h0, .inr (0, [.ref u, .int 0, .int 0, .int 0])), (u, .inl (E 0, n, .inl z0)), (g0, .inr (1, [.ref b0, .int 0, w2, .int (nI (n))])), (b0, .inl (E 0, m, .inl z0))]) [0, 1, 2, 3] rfl
  have hD := hD.sub (ws' := [(h0, .inr (0, [.ref u, .int 0, .int 0, .int 0])), (u, .inl (E 0, n, .inl z0)), (g0, .inr (1, [.ref b0, .int 0, w2, .int (nI (n))])), (b0, .inl (E 0, m, .inl z0))]) [0, 1, 2, 3] (by decide) rfl
  exact W.vret hx hb hr (fun t ht hW => ⟨⟨u, rfl, trivial, rf_end ht hP hD⟩, hS.F ht⟩) hS.2.2 dJ0_init_81219_6
set_option maxHeartbeats 4000000 in
set_option maxRecDepth 100000 in
/-- StringBuilder.toString -/
theorem c_J4_toString_0e30d (l : Launch) (D : va_G) (E : Nat → ClassId) (sz : Nat) (g0 b0 n m : Nat) (w2 : Value) (hm : m ≤ 1000) (hn : n ≤ m) : Met l yJ4_toString_0e30d wsJ4_toString_0e30d ({ frames := 7, cells := 2, slots := 1004, locals := 1200 }) (va_Pc [.ref g0] (rf_P D E [(g0, .inr (1, [.ref b0, .int 0, w2, .int (nI (n))])), (b0, .inl (E 0, m, .inl z0))] sz)) (va_Qr (fun (u : Nat) => True) (fun (u : Nat) (ra : Nat) (t : State) => rf_B D (va_A [(g0, .inr (1, [.ref b0, .int 0, w2, .int (nI (n))])), (b0, .inl (E 0, m, .inl z0))] sz) [(ra, .inr (0, [.ref u, .int 0, .int 0, .int 0])), (u, .inl (E 0, n, .inl z0)), (g0, .inr (1, [.ref b0, .int 0, w2, .int (nI n)])), (b0, .inl (E 0, m, .inl z0))] t) (va_A [(g0, .inr (1, [.ref b0, .int 0, w2, .int (nI (n))])), (b0, .inl (E 0, m, .inl z0))] sz)) 2 1004 (va_A [(g0, .inr (1, [.ref b0, .int 0, w2, .int (nI (n))])), (b0, .inl (E 0, m, .inl z0))] sz) := by
  refine Met.ofW (cc := cJ4_toString_0e30d) (maxL := 1) (ret := (some (.object "java/lang/String"))) (by decide) rfl ?_
  intro p e s mI args below meth c s₁ B hml hv
  obtain ⟨rfl, hsz, hP, hK, hD0, hZ, hN⟩ := hv
  have hx := B.exec
  have hb := B.bytes
  have hr := B.returns
  have hts := atoms_spec (ws := wsJ4_toString_0e30d) B.pre
  have hown : s.vm.findClass RJ4 = some mI.cls := findClass_of_methodNamed B.named
  have hlocks := B.notSynchronized
  subst hsz
  have hD := hD0.self (sz := s.heap.size)
  generalize hAe : va_A [(g0, .inr (1, [.ref b0, .int 0, w2, .int (nI (n))])), (b0, .inl (E 0, m, .inl z0))] s.heap.size = A at hD hZ ⊢
  have hA : ∀ q : Nat, s.heap.size ≤ q → A q := fun q h => by rw [← hAe]; exact Or.inr h
  have hS : va_S A s.heap s.heap [] := va_S.rf
  have hl := lv_entry ([.ref g0]) (n := 1) (Nat.le_of_ble_eq_true rfl)
  rw [lg_entry_eq]
  generalize (lg_sl ([.ref g0]) ++ List.replicate (1 - (lg_sl ([.ref g0])).length) Slot.unset).toArray = ls at hl ⊢
  clear hAe hD0
  have hl : lv_has ls 1 [(0, .ref g0)] := hl
  obtain ⟨H, hH⟩ : ∃ H, H = s.heap := ⟨_, rfl⟩
  rw [← hH] at hP
  have hS : va_S A s.heap H [] := by rw [hH]; exact hS
  refine rf_heap hH ?_
  have h_1 : 0 + 1 ≤ 2 := by omega
  have h_2 : 0 + 4 ≤ 1004 := by omega
  refine va_new (ci := 0) (fs := [.null, .int 0, .int 0, .int 0]) (C := RJ0) (T := TJ0) (N := 4) hx hb hts (by decide +kernel) tyJ0 tyJ0_ok hown (hts (.classLink RJ4 18 RJ0) (by decide +kernel)) (hts (.instantiable RJ0 4) (by decide +kernel)) (hts (.initialized RJ0) (by decide +kernel)) hK hP hD hS hA rfl (fun j hj => by rcases (show j = 0 ∨ j = 1 ∨ j = 2 ∨ j = 3 by omega) with rfl | rfl | rfl | rfl <;> rfl) h_1 h_2 dJ4_toString_0e30d_0 (fun q1 H hP hD hS => ?_)
  have hP : va_P D vwCl [(g0, .inr (1, [.ref b0, .int 0, w2, .int (nI (n))])), (b0, .inl (E 0, m, .inl z0)), (q1, .inr (0, [.null, .int 0, .int 0, .int 0]))] H := hP
  have hD : va_D A [(g0, .inr (1, [.ref b0, .int 0, w2, .int (nI (n))])), (b0, .inl (E 0, m, .inl z0)), (q1, .inr (0, [.null, .int 0, .int 0, .int 0]))] := hD
  refine W.widen (k := 1) (n := 4) (by omega) (by omega) ?_
  refine lv_dup hx hb dJ4_toString_0e30d_3 rfl ?_
  refine lv_aload_n hx hb dJ4_toString_0e30d_4 rfl (lv_at hl 0 rfl) ?_
  have hPc := hP.sub (ws' := [(q1, .inr (0, [.null, .int 0, .int 0, .int 0])), (g0, .inr (1, [.ref b0, .int 0, w2, .int (nI (n))])), (b0, .inl (E 0, m, .inl z0))]) [2, 0, 1] rfl
  have hDc := hD.sub (ws' := [(q1, .inr (0, [.null, .int 0, .int 0, .int 0])), (g0, .inr (1, [.ref b0, .int 0, w2, .int (nI (n))])), (b0, .inl (E 0, m, .inl z0))]) [2, 0, 1] (by decide) rfl
  have hFc := va_free (wc := [(q1, .inr (0, [.null, .int 0, .int 0, .int 0])), (g0, .inr (1, [.ref b0, .int 0, w2, .int (nI (n))])), (b0, .inl (E 0, m, .inl z0))]) hD hS hA [2, 0, 1] rfl
  have h_1 : 1 + 1 ≤ 2 := by omega
  have h_2 : 4 + 1000 ≤ 1004 := by omega
  refine va_callv (va_runI (As := [.ref g0]) (rest := [.ref q1]) ⟨hx, hb, hml, hown, hts⟩ (c_J0_init_81219 l D E H.size (q1) (g0) (b0) (n) (m) (w2) (by omega) (by omega)) (cwI 1 hts gJ4_toString_0e30d_J0_init_81219 rfl rfl rfl (hts (.initialized RJ0) (by decide +kernel)) (hts (.methodLink RJ4 137 yJ0_init_81219) (by decide +kernel)) (hts (.instanceMethod yJ0_init_81219) (by decide +kernel)) rfl (by decide +kernel) ⟨Nat.le_of_ble_eq_true rfl, Nat.le_of_ble_eq_true rfl⟩) ⟨rf_blind _, fun U hU hW => ⟨rfl, rf_pre hK hPc hDc hZ hN hS hFc U hU hW⟩⟩ rfl rfl hl.1 rfl (lv_room (Nat.le_of_ble_eq_true rfl)) dJ4_toString_0e30d_5 ⟨h_1, h_2⟩) hS (fun q _ h => hFc q h) hFc (fun u t H1 locs ht hvm hw hB hz1 hk1 hS => ?_)
  obtain ⟨hP1, hD1⟩ := hB
  rw [ht] at hP1
  try dsimp only at hw hP1 hD1
  obtain ⟨hP, hD⟩ := va_join (wr := []) (w1 := [(q1, .inr (0, [.ref u, .int 0, .int 0, .int 0])), (u, .inl (E 0, n, .inl z0)), (g0, .inr (1, [.ref b0, .int 0, w2, .int (nI (n))])), (b0, .inl (E 0, m, .inl z0))]) hP hD [2, 0, 1] [] rfl rfl (by decide) (by decide) hk1 hFc hP1 hD1
  clear hPc hDc hFc hP1 hD1 hk1 hz1 ht
  generalize H1 = H at hP hS ⊢
  have hP : va_P D vwCl [(q1, .inr (0, [.ref u, .int 0, .int 0, .int 0])), (u, .inl (E 0, n, .inl z0)), (g0, .inr (1, [.ref b0, .int 0, w2, .int (nI (n))])), (b0, .inl (E 0, m, .inl z0))] H := hP
  have hD : va_D A [(q1, .inr (0, [.ref u, .int 0, .int 0, .int 0])), (u, .inl (E 0, n, .inl z0)), (g0, .inr (1, [.ref b0, .int 0, w2, .int (nI (n))])), (b0, .inl (E 0, m, .inl z0))] := hD
  refine W.widen (k := 2) (n := 1004) (by omega) (by omega) ?_
  have hP := hP.sub (ws' := [(q1, .inr (0, [.ref u, .int 0, .int 0, .int 0])), (u, .inl (E 0, n, .inl z0)), (g0, .inr (1, [.ref b0, .int 0, w2, .int (nI (n))])), (b0, .inl (E 0, m, .inl z0))]) [0, 1, 2, 3] rfl
  have hD := hD.sub (ws' := [(q1, .inr (0, [.ref u, .int 0, .int 0, .int 0])), (u, .inl (E 0, n, .inl z0)), (g0, .inr (1, [.ref b0, .int 0, w2, .int (nI (n))])), (b0, .inl (E 0, m, .inl z0))]) [0, 1, 2, 3] (by decide) rfl
  exact W.aret (v := .ref q1) hx hb hr (Or.inl ⟨_, rfl⟩) (Or.inr ⟨_, rfl⟩) (fun t ht hW => ⟨⟨u, q1, rfl, trivial, rf_end ht hP hD⟩, hS.F ht⟩) hS.2.2 dJ4_toString_0e30d_8
