set_option maxHeartbeats 4000000 in
set_option maxRecDepth 100000 in
/-- isIn(0, 0, 3) -/
theorem c_X3_isIn_t (l : Launch) (D : va_G) (E : Nat → ClassId) (sz : Nat)   : Met l yX3_isIn wsX3_isIn ({ frames := 2, cells := 0, slots := 0, locals := 200 }) (va_Pc [.long (lN 0), .long (lN 0), .long (lN 3)] (rf_P D E [] sz)) (va_Qi (fun (r : Int32) (u : Unit) => r = 1) (fun (u : Unit) (t : State) => rf_B D (va_A [] sz) [] t) (va_A [] sz)) 0 0 (va_A [] sz) := by
  refine Met.ofW (cc := cX3_isIn) (maxL := 6) (ret := (some .boolean)) (by decide) rfl ?_
  intro p e s mI args below meth c s₁ B hml hv
  obtain ⟨rfl, hsz, hP, hK, hD0, hZ, hN⟩ := hv
  have hx := B.exec
  have hb := B.bytes
  have hr := B.returns
  have hts := atoms_spec (ws := wsX3_isIn) B.pre
  have hown : s.vm.findClass RX3 = some mI.cls := findClass_of_methodNamed B.named
  have hlocks := B.notSynchronized
  subst hsz
  have hD := hD0.self (sz := s.heap.size)
  generalize hAe : va_A [] s.heap.size = A at hD hZ ⊢
  have hA : ∀ q : Nat, s.heap.size ≤ q → A q := fun q h => by rw [← hAe]; exact Or.inr h
  have hS : va_S A s.heap s.heap [] := va_S.rf
  have hl := lv_entry ([.long (lN 0), .long (lN 0), .long (lN 3)]) (n := 6) (Nat.le_of_ble_eq_true rfl)
  rw [lg_entry_eq]
  generalize (lg_sl ([.long (lN 0), .long (lN 0), .long (lN 3)]) ++ List.replicate (6 - (lg_sl ([.long (lN 0), .long (lN 0), .long (lN 3)])).length) Slot.unset).toArray = ls at hl ⊢
  clear hAe hD0
  have hl : lv_has ls 6 [(0, .long (lN 0)), (2, .long (lN 0)), (4, .long (lN 3))] := hl
  obtain ⟨H, hH⟩ : ∃ H, H = s.heap := ⟨_, rfl⟩
  rw [← hH] at hP
  have hS : va_S A s.heap H [] := by rw [hH]; exact hS
  refine rf_heap hH ?_
  refine lv_lload_n hx hb dX3_isIn_0 rfl (lv_at hl 0 rfl) ?_
  refine lv_lload_n hx hb dX3_isIn_1 rfl (lv_at hl 1 rfl) ?_
  refine W.lcmp hx hb dX3_isIn_2 (W.eq (g2 := F0 mI 3 ls (.int (0) :: [])) (congrArg (fun z => F0 mI 3 ls (.int z :: [])) (show lg_cmp (lN 0) (lN 0) = 0 by decide)) ?_)
  refine lv_if_lt (tgt := 17) hx hb dX3_isIn_3 rfl (fun h => absurd h (by decide)) (fun _ => ?_)
  refine lv_lload_n hx hb dX3_isIn_6 rfl (lv_at hl 0 rfl) ?_
  refine lv_lload hx hb dX3_isIn_7 (lv_at hl 2 rfl) ?_
  refine W.lcmp hx hb dX3_isIn_9 (W.eq (g2 := F0 mI 10 ls (.int (-1) :: [])) (congrArg (fun z => F0 mI 10 ls (.int z :: [])) (show lg_cmp (lN 0) (lN 3) = -1 by decide)) ?_)
  refine lv_if_gt (tgt := 17) hx hb dX3_isIn_10 rfl (fun h => absurd h (by decide)) (fun _ => ?_)
  refine lv_iconst (v := 1) hx hb dX3_isIn_13 (by decide) ?_
  refine lv_goto (tgt := 18) hx hb dX3_isIn_14 rfl ?_
  exact W.zret (v := 1) hx hb hr (by decide +kernel) (fun t ht hW => ⟨⟨1, (), rfl, rfl, rf_end ht hP hD⟩, hS.F ht⟩) hS.2.2 dX3_isIn_18
set_option maxHeartbeats 4000000 in
set_option maxRecDepth 100000 in
/-- isIn(200, 0, 200) -/
theorem c_X3_isIn_l (l : Launch) (D : va_G) (E : Nat → ClassId) (sz : Nat)   : Met l yX3_isIn wsX3_isIn ({ frames := 2, cells := 0, slots := 0, locals := 200 }) (va_Pc [.long (lN 200), .long (lN 0), .long (lN 200)] (rf_P D E [] sz)) (va_Qi (fun (r : Int32) (u : Unit) => r = 1) (fun (u : Unit) (t : State) => rf_B D (va_A [] sz) [] t) (va_A [] sz)) 0 0 (va_A [] sz) := by
  refine Met.ofW (cc := cX3_isIn) (maxL := 6) (ret := (some .boolean)) (by decide) rfl ?_
  intro p e s mI args below meth c s₁ B hml hv
  obtain ⟨rfl, hsz, hP, hK, hD0, hZ, hN⟩ := hv
  have hx := B.exec
  have hb := B.bytes
  have hr := B.returns
  have hts := atoms_spec (ws := wsX3_isIn) B.pre
  have hown : s.vm.findClass RX3 = some mI.cls := findClass_of_methodNamed B.named
  have hlocks := B.notSynchronized
  subst hsz
  have hD := hD0.self (sz := s.heap.size)
  generalize hAe : va_A [] s.heap.size = A at hD hZ ⊢
  have hA : ∀ q : Nat, s.heap.size ≤ q → A q := fun q h => by rw [← hAe]; exact Or.inr h
  have hS : va_S A s.heap s.heap [] := va_S.rf
  have hl := lv_entry ([.long (lN 200), .long (lN 0), .long (lN 200)]) (n := 6) (Nat.le_of_ble_eq_true rfl)
  rw [lg_entry_eq]
  generalize (lg_sl ([.long (lN 200), .long (lN 0), .long (lN 200)]) ++ List.replicate (6 - (lg_sl ([.long (lN 200), .long (lN 0), .long (lN 200)])).length) Slot.unset).toArray = ls at hl ⊢
  clear hAe hD0
  have hl : lv_has ls 6 [(0, .long (lN 200)), (2, .long (lN 0)), (4, .long (lN 200))] := hl
  obtain ⟨H, hH⟩ : ∃ H, H = s.heap := ⟨_, rfl⟩
  rw [← hH] at hP
  have hS : va_S A s.heap H [] := by rw [hH]; exact hS
  refine rf_heap hH ?_
  refine lv_lload_n hx hb dX3_isIn_0 rfl (lv_at hl 0 rfl) ?_
  refine lv_lload_n hx hb dX3_isIn_1 rfl (lv_at hl 1 rfl) ?_
  refine W.lcmp hx hb dX3_isIn_2 (W.eq (g2 := F0 mI 3 ls (.int (1) :: [])) (congrArg (fun z => F0 mI 3 ls (.int z :: [])) (show lg_cmp (lN 200) (lN 0) = 1 by decide)) ?_)
  refine lv_if_lt (tgt := 17) hx hb dX3_isIn_3 rfl (fun h => absurd h (by decide)) (fun _ => ?_)
  refine lv_lload_n hx hb dX3_isIn_6 rfl (lv_at hl 0 rfl) ?_
  refine lv_lload hx hb dX3_isIn_7 (lv_at hl 2 rfl) ?_
  refine W.lcmp hx hb dX3_isIn_9 (W.eq (g2 := F0 mI 10 ls (.int (0) :: [])) (congrArg (fun z => F0 mI 10 ls (.int z :: [])) (show lg_cmp (lN 200) (lN 200) = 0 by decide)) ?_)
  refine lv_if_gt (tgt := 17) hx hb dX3_isIn_10 rfl (fun h => absurd h (by decide)) (fun _ => ?_)
  refine lv_iconst (v := 1) hx hb dX3_isIn_13 (by decide) ?_
  refine lv_goto (tgt := 18) hx hb dX3_isIn_14 rfl ?_
  exact W.zret (v := 1) hx hb hr (by decide +kernel) (fun t ht hW => ⟨⟨1, (), rfl, rfl, rf_end ht hP hD⟩, hS.F ht⟩) hS.2.2 dX3_isIn_18
set_option maxHeartbeats 4000000 in
set_option maxRecDepth 100000 in
/-- isNoTape(0): 0 -/
theorem c_X3_isNoTape (l : Launch) (D : va_G) (E : Nat → ClassId) (sz : Nat)   : Met l yX3_isNoTape wsX3_isNoTape ({ frames := 3, cells := 0, slots := 0, locals := 400 }) (va_Pc [.int (nI 0)] (rf_P D E [] sz)) (va_Qi (fun (r : Int32) (u : Unit) => r = 0) (fun (u : Unit) (t : State) => rf_B D (va_A [] sz) [] t) (va_A [] sz)) 0 0 (va_A [] sz) := by
  refine Met.ofW (cc := cX3_isNoTape) (maxL := 1) (ret := (some .boolean)) (by decide) rfl ?_
  intro p e s mI args below meth c s₁ B hml hv
  obtain ⟨rfl, hsz, hP, hK, hD0, hZ, hN⟩ := hv
  have hx := B.exec
  have hb := B.bytes
  have hr := B.returns
  have hts := atoms_spec (ws := wsX3_isNoTape) B.pre
  have hown : s.vm.findClass RX3 = some mI.cls := findClass_of_methodNamed B.named
  have hlocks := B.notSynchronized
  subst hsz
  have hD := hD0.self (sz := s.heap.size)
  generalize hAe : va_A [] s.heap.size = A at hD hZ ⊢
  have hA : ∀ q : Nat, s.heap.size ≤ q → A q := fun q h => by rw [← hAe]; exact Or.inr h
  have hS : va_S A s.heap s.heap [] := va_S.rf
  have hl := lv_entry ([.int (nI 0)]) (n := 1) (Nat.le_of_ble_eq_true rfl)
  rw [lg_entry_eq]
  generalize (lg_sl ([.int (nI 0)]) ++ List.replicate (1 - (lg_sl ([.int (nI 0)])).length) Slot.unset).toArray = ls at hl ⊢
  clear hAe hD0
  have hl : lv_has ls 1 [(0, .int (nI 0))] := hl
  obtain ⟨H, hH⟩ : ∃ H, H = s.heap := ⟨_, rfl⟩
  rw [← hH] at hP
  have hS : va_S A s.heap H [] := by rw [hH]; exact hS
  refine rf_heap hH ?_
  refine lv_iload_n hx hb dX3_isNoTape_0 rfl (lv_at hl 0 rfl) ?_
  refine lv_i2l (v := lN 0) hx hb dX3_isNoTape_1 (by decide) ?_
  refine lv_lconst (v := lN 0) hx hb dX3_isNoTape_2 (by decide) ?_
  refine lv_ldc2 (v := 3) hx hb hown (hts (.constantLong RX3 26 3) (by decide +kernel)) dX3_isNoTape_3 ?_
  have hPc := hP.sub (ws' := []) [] rfl
  have hDc := hD.sub (ws' := []) [] (by decide) rfl
  have hFc := va_free (wc := []) hD hS hA [] rfl
  have h_1 : 0 + 0 ≤ 0 := by omega
  have h_2 : 0 + 0 ≤ 0 := by omega
  refine va_calli (va_runS (As := [.long (lN 0), .long (lN 0), .long (lN 3)]) (rest := []) ⟨hx, hb, hml, hown, hts⟩ (c_X3_isIn_t l D E H.size ) (va_cwS 3 hts gX3_isNoTape_X3_isIn rfl rfl rfl (by decide +kernel) ⟨Nat.le_of_ble_eq_true rfl, Nat.le_of_ble_eq_true rfl⟩) ⟨rf_blind _, fun U hU hW => ⟨rfl, rf_pre hK hPc hDc hZ hN hS hFc U hU hW⟩⟩ rfl rfl hl.1 rfl (lv_room (Nat.le_of_ble_eq_true rfl)) dX3_isNoTape_6 ⟨h_1, h_2⟩) hS (fun q _ h => hFc q h) hFc (fun r u t H1 locs ht hvm hw hB hz1 hk1 hS => ?_)
  obtain ⟨hP1, hD1⟩ := hB
  rw [ht] at hP1
  try dsimp only at hw hP1 hD1
  obtain rfl := hw
  obtain ⟨hP, hD⟩ := va_join (wr := []) (w1 := []) hP hD [] [] rfl rfl (by decide) (by decide) hk1 hFc hP1 hD1
  clear hPc hDc hFc hP1 hD1 hk1 hz1 ht
  generalize H1 = H at hP hS ⊢
  have hP : va_P D vwCl [] H := hP
  have hD : va_D A [] := hD
  refine lv_if_ne (tgt := 16) hx hb dX3_isNoTape_9 rfl (fun _ => ?_) (fun h => absurd h (by decide))
  refine lv_iconst (v := 0) hx hb dX3_isNoTape_16 (by decide) ?_
  exact W.zret (v := 0) hx hb hr (by decide +kernel) (fun t ht hW => ⟨⟨0, (), rfl, rfl, rf_end ht hP hD⟩, hS.F ht⟩) hS.2.2 dX3_isNoTape_17
set_option maxHeartbeats 4000000 in
set_option maxRecDepth 100000 in
/-- refuse(false, w) with nothing thrown: 0 -/
theorem c_X3_refuse (l : Launch) (D : va_G) (E : Nat → ClassId) (sz : Nat) (m0 t1 w : Nat) (a2 a3 a4 a5 : Value)  : Met l yX3_refuse wsX3_refuse ({ frames := 2, cells := 0, slots := 0, locals := 200 }) (va_Pc [.ref m0, .int (0), .int (nI w)] (rf_P D E [(m0, .inr (5, [.int 0, .ref t1, a2, a3, a4, a5]))] sz)) (va_Qi (fun (r : Int32) (u : Unit) => r = 0) (fun (u : Unit) (t : State) => rf_B D (va_A [(m0, .inr (5, [.int 0, .ref t1, a2, a3, a4, a5]))] sz) [(m0, .inr (5, [.int 0, .ref t1, a2, a3, a4, a5]))] t) (va_A [(m0, .inr (5, [.int 0, .ref t1, a2, a3, a4, a5]))] sz)) 0 0 (va_A [(m0, .inr (5, [.int 0, .ref t1, a2, a3, a4, a5]))] sz) := by
  refine Met.ofW (cc := cX3_refuse) (maxL := 3) (ret := (some .boolean)) (by decide) rfl ?_
  intro p e s mI args below meth c s₁ B hml hv
  obtain ⟨rfl, hsz, hP, hK, hD0, hZ, hN⟩ := hv
  have hx := B.exec
  have hb := B.bytes
  have hr := B.returns
  have hts := atoms_spec (ws := wsX3_refuse) B.pre
  have hown : s.vm.findClass RX3 = some mI.cls := findClass_of_methodNamed B.named
  have hlocks := B.notSynchronized
  subst hsz
  have hD := hD0.self (sz := s.heap.size)
  generalize hAe : va_A [(m0, .inr (5, [.int 0, .ref t1, a2, a3, a4, a5]))] s.heap.size = A at hD hZ ⊢
  have hA : ∀ q : Nat, s.heap.size ≤ q → A q := fun q h => by rw [← hAe]; exact Or.inr h
  have hS : va_S A s.heap s.heap [] := va_S.rf
  have hl := lv_entry ([.ref m0, .int (0), .int (nI w)]) (n := 3) (Nat.le_of_ble_eq_true rfl)
  rw [lg_entry_eq]
  generalize (lg_sl ([.ref m0, .int (0), .int (nI w)]) ++ List.replicate (3 - (lg_sl ([.ref m0, .int (0), .int (nI w)])).length) Slot.unset).toArray = ls at hl ⊢
  clear hAe hD0
  have hl : lv_has ls 3 [(0, .ref m0), (1, .int (0)), (2, .int (nI w))] := hl
  obtain ⟨H, hH⟩ : ∃ H, H = s.heap := ⟨_, rfl⟩
  rw [← hH] at hP
  have hS : va_S A s.heap H [] := by rw [hH]; exact hS
  refine rf_heap hH ?_
  refine lv_iload_n hx hb dX3_refuse_0 rfl (lv_at hl 1 rfl) ?_
  refine lv_if_eq (tgt := 16) hx hb dX3_refuse_1 rfl (fun _ => ?_) (fun h => absurd (by decide) h)
  refine lv_aload_n hx hb dX3_refuse_16 rfl (lv_at hl 0 rfl) ?_
  refine va_get (D := D) (ci := 5) (v := .int 0) (C := RX3) (T := TX3) (N := 6) hx hb hts (by decide +kernel) hown hK hP 0 rfl rfl 0 (by decide) (hts (.fieldLink RX3 18 "TapebufferModel" "thrown" "I") (by decide +kernel)) (fun _ h9 => h9) rfl dX3_refuse_17 ?_
  refine lv_if_le (tgt := 27) hx hb dX3_refuse_20 rfl (fun _ => ?_) (fun h => absurd (by decide) h)
  refine lv_iconst (v := 0) hx hb dX3_refuse_27 (by decide) ?_
  exact W.zret (v := 0) hx hb hr (by decide +kernel) (fun t ht hW => ⟨⟨0, (), rfl, rfl, rf_end ht hP hD⟩, hS.F ht⟩) hS.2.2 dX3_refuse_28
set_option maxHeartbeats 4000000 in
set_option maxRecDepth 100000 in
/-- start(false, 1): 0 -/
theorem c_X3_start (l : Launch) (D : va_G) (E : Nat → ClassId) (sz : Nat) (m0 t1 : Nat) (th : Int32) (a2 a3 a4 a5 : Value)  : Met l yX3_start wsX3_start ({ frames := 3, cells := 0, slots := 0, locals := 400 }) (va_Pc [.ref m0, .int (0), .int (nI 1)] (rf_P D E [(m0, .inr (5, [.int th, .ref t1, a2, a3, a4, a5]))] sz)) (va_Qi (fun (r : Int32) (u : Unit) => r = 0) (fun (u : Unit) (t : State) => rf_B D (va_A [(m0, .inr (5, [.int th, .ref t1, a2, a3, a4, a5]))] sz) [(m0, .inr (5, [.int 0, .ref t1, a2, a3, a4, a5]))] t) (va_A [(m0, .inr (5, [.int th, .ref t1, a2, a3, a4, a5]))] sz)) 0 0 (va_A [(m0, .inr (5, [.int th, .ref t1, a2, a3, a4, a5]))] sz) := by
  refine Met.ofW (cc := cX3_start) (maxL := 3) (ret := (some .boolean)) (by decide) rfl ?_
  intro p e s mI args below meth c s₁ B hml hv
  obtain ⟨rfl, hsz, hP, hK, hD0, hZ, hN⟩ := hv
  have hx := B.exec
  have hb := B.bytes
  have hr := B.returns
  have hts := atoms_spec (ws := wsX3_start) B.pre
  have hown : s.vm.findClass RX3 = some mI.cls := findClass_of_methodNamed B.named
  have hlocks := B.notSynchronized
  subst hsz
  have hD := hD0.self (sz := s.heap.size)
  generalize hAe : va_A [(m0, .inr (5, [.int th, .ref t1, a2, a3, a4, a5]))] s.heap.size = A at hD hZ ⊢
  have hA : ∀ q : Nat, s.heap.size ≤ q → A q := fun q h => by rw [← hAe]; exact Or.inr h
  have hS : va_S A s.heap s.heap [] := va_S.rf
  have hl := lv_entry ([.ref m0, .int (0), .int (nI 1)]) (n := 3) (Nat.le_of_ble_eq_true rfl)
  rw [lg_entry_eq]
  generalize (lg_sl ([.ref m0, .int (0), .int (nI 1)]) ++ List.replicate (3 - (lg_sl ([.ref m0, .int (0), .int (nI 1)])).length) Slot.unset).toArray = ls at hl ⊢
  clear hAe hD0
  have hl : lv_has ls 3 [(0, .ref m0), (1, .int (0)), (2, .int (nI 1))] := hl
  obtain ⟨H, hH⟩ : ∃ H, H = s.heap := ⟨_, rfl⟩
  rw [← hH] at hP
  have hS : va_S A s.heap H [] := by rw [hH]; exact hS
  refine rf_heap hH ?_
  refine lv_aload_n hx hb dX3_start_0 rfl (lv_at hl 0 rfl) ?_
  refine lv_iconst (v := 0) hx hb dX3_start_1 (by decide) ?_
  refine va_put (D := D) (ci := 5) (v := .int (0)) (ty := .int) (C := RX3) (T := TX3) (N := 6) hx hb hts (by decide +kernel) tyX3 tyX3_ok nmX3 hown hK hP hD hS 0 rfl rfl 0 (by decide) (hts (.fieldLink RX3 18 "TapebufferModel" "thrown" "I") (by decide +kernel)) (fun _ h9 => h9) rfl (by decide +kernel) rfl rfl (Nat.le_of_ble_eq_true rfl) dX3_start_2 (fun H locs hP hD hS => ?_)
  have hP : va_P D vwCl [(m0, .inr (5, [.int (0), .ref t1, a2, a3, a4, a5]))] H := hP
  have hD : va_D A [(m0, .inr (5, [.int (0), .ref t1, a2, a3, a4, a5]))] := hD
  refine lv_aload_n hx hb dX3_start_5 rfl (lv_at hl 0 rfl) ?_
  refine lv_iload_n hx hb dX3_start_6 rfl (lv_at hl 1 rfl) ?_
  refine lv_iload_n hx hb dX3_start_7 rfl (lv_at hl 2 rfl) ?_
  have hPc := hP.sub (ws' := [(m0, .inr (5, [.int (0), .ref t1, a2, a3, a4, a5]))]) [0] rfl
  have hDc := hD.sub (ws' := [(m0, .inr (5, [.int (0), .ref t1, a2, a3, a4, a5]))]) [0] (by decide) rfl
  have hFc := va_free (wc := [(m0, .inr (5, [.int (0), .ref t1, a2, a3, a4, a5]))]) hD hS hA [0] rfl
  have h_1 : 0 + 0 ≤ 0 := by omega
  have h_2 : 0 + 0 ≤ 0 := by omega
  refine va_calli (va_runV (As := [.int (0), .int (nI 1)]) (rest := []) ⟨hx, hb, hml, hown, hts⟩ (c_X3_refuse l D E H.size (m0) (t1) (1) (a2) (a3) (a4) (a5)) (cwV 2 hts gX3_start_X3_refuse rfl rfl rfl (by decide +kernel) ⟨Nat.le_of_ble_eq_true rfl, Nat.le_of_ble_eq_true rfl⟩) ⟨rf_blind _, va_recv hK hPc (ci := 5) (q0 := 0) rfl rfl, fun U hU hW => ⟨rfl, rf_pre hK hPc hDc hZ hN hS hFc U hU hW⟩⟩ rfl rfl hl.1 rfl (lv_room (Nat.le_of_ble_eq_true rfl)) dX3_start_8 ⟨h_1, h_2⟩) hS (fun q _ h => hFc q h) hFc (fun r u t H1 locs ht hvm hw hB hz1 hk1 hS => ?_)
  obtain ⟨hP1, hD1⟩ := hB
  rw [ht] at hP1
  try dsimp only at hw hP1 hD1
  obtain rfl := hw
  obtain ⟨hP, hD⟩ := va_join (wr := []) (w1 := [(m0, .inr (5, [.int (0), .ref t1, a2, a3, a4, a5]))]) hP hD [0] [] rfl rfl (by decide) (by decide) hk1 hFc hP1 hD1
  clear hPc hDc hFc hP1 hD1 hk1 hz1 ht
  generalize H1 = H at hP hS ⊢
  have hP : va_P D vwCl [(m0, .inr (5, [.int (0), .ref t1, a2, a3, a4, a5]))] H := hP
  have hD : va_D A [(m0, .inr (5, [.int (0), .ref t1, a2, a3, a4, a5]))] := hD
  have hP := hP.sub (ws' := [(m0, .inr (5, [.int (0), .ref t1, a2, a3, a4, a5]))]) [0] rfl
  have hD := hD.sub (ws' := [(m0, .inr (5, [.int (0), .ref t1, a2, a3, a4, a5]))]) [0] (by decide) rfl
  exact W.zret (v := 0) hx hb hr (by decide +kernel) (fun t ht hW => ⟨⟨0, (), rfl, rfl, rf_end ht hP hD⟩, hS.F ht⟩) hS.2.2 dX3_start_11
set_option maxHeartbeats 4000000 in
set_option maxRecDepth 100000 in
/-- joined of an empty row and 200 zeros -/
theorem c_X3_joined (l : Launch) (D : va_G) (E : Nat → ClassId) (sz : Nat) (ya yb : Nat)  : Met l yX3_joined wsX3_joined ({ frames := 2, cells := 1, slots := 200, locals := 200 }) (va_Pc [.ref ya, .ref yb] (rf_P D E [(ya, .inl (E 2, 0, .inl z0)), (yb, .inl (E 2, 200, .inl z0))] sz)) (va_Qr (fun (u : Unit) => True) (fun (u : Unit) (ra : Nat) (t : State) => rf_B D (va_A [(ya, .inl (E 2, 0, .inl z0)), (yb, .inl (E 2, 200, .inl z0))] sz) [(ya, .inl (E 2, 0, .inl z0)), (yb, .inl (E 2, 200, .inl z0)), (ra, .inl (E 2, 200, .inl z0))] t) (va_A [(ya, .inl (E 2, 0, .inl z0)), (yb, .inl (E 2, 200, .inl z0))] sz)) 1 200 (va_A [(ya, .inl (E 2, 0, .inl z0)), (yb, .inl (E 2, 200, .inl z0))] sz) := by
  refine Met.ofW (cc := cX3_joined) (maxL := 4) (ret := (some (.array .int))) (by decide) rfl ?_
  intro p e s mI args below meth c s₁ B hml hv
  obtain ⟨rfl, hsz, hP, hK, hD0, hZ, hN⟩ := hv
  have hx := B.exec
  have hb := B.bytes
  have hr := B.returns
  have hts := atoms_spec (ws := wsX3_joined) B.pre
  have hown : s.vm.findClass RX3 = some mI.cls := findClass_of_methodNamed B.named
  have hlocks := B.notSynchronized
  subst hsz
  have hD := hD0.self (sz := s.heap.size)
  generalize hAe : va_A [(ya, .inl (E 2, 0, .inl z0)), (yb, .inl (E 2, 200, .inl z0))] s.heap.size = A at hD hZ ⊢
  have hA : ∀ q : Nat, s.heap.size ≤ q → A q := fun q h => by rw [← hAe]; exact Or.inr h
  have hS : va_S A s.heap s.heap [] := va_S.rf
  have hl := lv_entry ([.ref ya, .ref yb]) (n := 4) (Nat.le_of_ble_eq_true rfl)
  rw [lg_entry_eq]
  generalize (lg_sl ([.ref ya, .ref yb]) ++ List.replicate (4 - (lg_sl ([.ref ya, .ref yb])).length) Slot.unset).toArray = ls at hl ⊢
  clear hAe hD0
  have hl : lv_has ls 4 [(0, .ref ya), (1, .ref yb)] := hl
  obtain ⟨H, hH⟩ : ∃ H, H = s.heap := ⟨_, rfl⟩
  rw [← hH] at hP
  have hS : va_S A s.heap H [] := by rw [hH]; exact hS
  refine rf_heap hH ?_
  refine lv_aload_n hx hb dX3_joined_0 rfl (lv_at hl 0 rfl) ?_
  refine va_alen (v := nI (0)) hx hb hK hP 0 2 rfl rfl rfl dX3_joined_1 ?_
  refine lv_aload_n hx hb dX3_joined_2 rfl (lv_at hl 1 rfl) ?_
  refine va_alen (v := nI (200)) hx hb hK hP 1 2 rfl rfl rfl dX3_joined_3 ?_
  refine lv_iadd hx hb dX3_joined_4 (lv_topi (fun f1 ef => ?_))
  obtain rfl : f1 = nI (200) := (show f1 = nI (0) + nI (200) from ef).trans ((nI_add _ _).trans (congrArg nI (by omega)))
  have h_1 : 0 + 1 ≤ 1 := by omega
  have h_2 : 0 + (200) ≤ 200 := by omega
  refine va_newa (atype := .int) (N' := 200) (a0 := (200, .inl z0)) hx hb (hts (.arrayClass .int) (by decide +kernel)) rfl hK hP hD hS hA (fun _ => rfl) (nI_pos (by omega)) (nI_clamp (by omega)) (Nat.le_trans (Nat.mul_le_mul_right _ (show 200 ≤ 200 by omega)) (Nat.le_of_ble_eq_true rfl)) h_1 h_2 dX3_joined_5 (fun q1 cA H hK2 hP hD hS => ?_)
  obtain rfl := rf_int hK2
  have hP : va_P D vwCl [(ya, .inl (E 2, 0, .inl z0)), (yb, .inl (E 2, 200, .inl z0)), (q1, .inl (E 2, 200, .inl z0))] H := hP
  have hD : va_D A [(ya, .inl (E 2, 0, .inl z0)), (yb, .inl (E 2, 200, .inl z0)), (q1, .inl (E 2, 200, .inl z0))] := hD
  refine W.widen (k := 1) (n := 200) (by omega) (by omega) ?_
  refine lv_astore_n hx hb dX3_joined_7 rfl hl (Nat.le_of_ble_eq_true rfl) rfl (fun ls hl => ?_)
  have hl : lv_has ls 4 [(2, .ref q1), (0, .ref ya), (1, .ref yb)] := hl
  refine lv_iconst (v := nI 0) hx hb dX3_joined_8 (by decide) ?_
  refine lv_istore_n hx hb dX3_joined_9 rfl hl (Nat.le_of_ble_eq_true rfl) rfl (fun ls hl => ?_)
  have hl : lv_has ls 4 [(3, .int (nI 0)), (2, .ref q1), (0, .ref ya), (1, .ref yb)] := hl
  have hl : lv_has ls 4 [(0, .ref ya), (1, .ref yb), (2, .ref q1), (3, .int (nI 0))] := lv_sub hl [2, 3, 1, 0] rfl
  refine rf_loop (200) 0 0 (fun k H locs ls => lv_has ls 4 [(0, .ref ya), (1, .ref yb), (2, .ref q1), (3, .int (nI (k)))] ∧ va_P D vwCl [(ya, .inl (E 2, 0, .inl z0)), (yb, .inl (E 2, 200, .inl z0)), (q1, .inl (E 2, 200, .inl z0))] H ∧ va_D A [(ya, .inl (E 2, 0, .inl z0)), (yb, .inl (E 2, 200, .inl z0)), (q1, .inl (E 2, 200, .inl z0))] ∧ va_S A s.heap H locs) ⟨hl, hP, hD, hS⟩ ?_ ?_
  · intro H locs ls hI
    obtain ⟨hl, hP, hD, hS⟩ := hI
    refine lv_iload_n hx hb dX3_joined_10 rfl (lv_at hl 3 rfl) ?_
    refine lv_aload_n hx hb dX3_joined_11 rfl (lv_at hl 2 rfl) ?_
    refine va_alen (v := nI (200)) hx hb hK hP 2 2 rfl rfl rfl dX3_joined_12 ?_
    refine lv_icmp_ge (tgt := 43) hx hb dX3_joined_13 rfl (fun _ => ?_) (fun h => absurd (by decide) h)
    refine lv_aload_n hx hb dX3_joined_43 rfl (lv_at hl 2 rfl) ?_
    refine W.widen (k := 1) (n := 200) (by omega) (by omega) ?_
    exact W.aret (v := .ref q1) hx hb hr (Or.inr ⟨_, rfl⟩) (Or.inr ⟨_, rfl⟩) (fun t ht hW => ⟨⟨(), q1, rfl, trivial, rf_end ht hP hD⟩, hS.F ht⟩) hS.2.2 dX3_joined_44
  · intro k H locs ls hkN hI kk
    obtain ⟨hl, hP, hD, hS⟩ := hI
    refine lv_iload_n hx hb dX3_joined_10 rfl (lv_at hl 3 rfl) ?_
    refine lv_aload_n hx hb dX3_joined_11 rfl (lv_at hl 2 rfl) ?_
    refine va_alen (v := nI (200)) hx hb hK hP 2 2 rfl rfl rfl dX3_joined_12 ?_
    refine lv_icmp_ge (tgt := 43) hx hb dX3_joined_13 rfl (fun h => absurd h (show ¬ nI (200) ≤ nI (k) from nI_ge (by omega) (by omega))) (fun _ => ?_)
    refine lv_aload_n hx hb dX3_joined_16 rfl (lv_at hl 2 rfl) ?_
    refine lv_iload_n hx hb dX3_joined_17 rfl (lv_at hl 3 rfl) ?_
    refine lv_iload_n hx hb dX3_joined_18 rfl (lv_at hl 3 rfl) ?_
    refine lv_aload_n hx hb dX3_joined_19 rfl (lv_at hl 0 rfl) ?_
    refine va_alen (v := nI (0)) hx hb hK hP 0 2 rfl rfl rfl dX3_joined_20 ?_
    refine lv_icmp_ge (tgt := 30) hx hb dX3_joined_21 rfl (fun _ => ?_) (fun h => absurd (show nI (0) ≤ nI (k) from nI_le (by omega) (by omega)) h)
    refine lv_aload_n hx hb dX3_joined_30 rfl (lv_at hl 1 rfl) ?_
    refine lv_iload_n hx hb dX3_joined_31 rfl (lv_at hl 3 rfl) ?_
    refine lv_aload_n hx hb dX3_joined_32 rfl (lv_at hl 0 rfl) ?_
    refine va_alen (v := nI (0)) hx hb hK hP 0 2 rfl rfl rfl dX3_joined_33 ?_
    refine lv_isub hx hb dX3_joined_34 (lv_topi (fun f2 ef => ?_))
    obtain rfl : f2 = nI (k) := (show f2 = nI (k) - nI (0) from ef).trans ((pk_sub (by omega)).trans (congrArg nI (by omega)))
    refine va_iald hx hb hK hP 1 2 rfl rfl (vp_in_nI (by omega) (by omega)) dX3_joined_35 (W.eq (g2 := F0 mI 36 ls (.int 0 :: [.int (nI (k)), .ref q1])) rfl ?_)
    refine va_iast hx hb hK hP hD hS 2 2 rfl rfl (vp_in_nI (by omega) (by omega)) dX3_joined_36 (fun H locs hP hD hS => ?_)
    rw [rf_u0] at hP hD
    have hP : va_P D vwCl [(ya, .inl (E 2, 0, .inl z0)), (yb, .inl (E 2, 200, .inl z0)), (q1, .inl (E 2, 200, .inl z0))] H := hP
    have hD : va_D A [(ya, .inl (E 2, 0, .inl z0)), (yb, .inl (E 2, 200, .inl z0)), (q1, .inl (E 2, 200, .inl z0))] := hD
    refine lv_iinc (v := nI (k + 1)) hx hb dX3_joined_37 hl (k := 3) rfl ((show nI (k) + Int32.ofInt 1 = nI (k) + nI 1 from rfl).trans ((nI_add _ _).trans (congrArg nI (by omega)))) (Nat.le_of_ble_eq_true rfl) rfl (fun ls hl => ?_)
    have hl : lv_has ls 4 [(3, .int (nI (k + 1))), (0, .ref ya), (1, .ref yb), (2, .ref q1)] := hl
    have hl : lv_has ls 4 [(0, .ref ya), (1, .ref yb), (2, .ref q1), (3, .int (nI (k + 1)))] := lv_sub hl [1, 2, 3, 0] rfl
    refine lv_goto (tgt := 10) hx hb dX3_joined_40 rfl ?_
    refine W.widen (k := 1 + (k + 1) * 0) (n := 200 + (k + 1) * 0) (by omega) (by omega) ?_
    exact kk _ _ _ ⟨hl, hP, hD, hS⟩
set_option maxHeartbeats 4000000 in
set_option maxRecDepth 100000 in
/-- part(row, 0, n) of 200 zeros -/
theorem c_X3_part (l : Launch) (D : va_G) (E : Nat → ClassId) (sz : Nat) (ya n : Nat) (hn : n ≤ 200) : Met l yX3_part wsX3_part ({ frames := 2, cells := 1, slots := 200, locals := 200 }) (va_Pc [.ref ya, .int (nI 0), .int (nI n)] (rf_P D E [(ya, .inl (E 2, 200, .inl z0))] sz)) (va_Qr (fun (u : Unit) => True) (fun (u : Unit) (ra : Nat) (t : State) => rf_B D (va_A [(ya, .inl (E 2, 200, .inl z0))] sz) [(ya, .inl (E 2, 200, .inl z0)), (ra, .inl (E 2, n, .inl z0))] t) (va_A [(ya, .inl (E 2, 200, .inl z0))] sz)) 1 200 (va_A [(ya, .inl (E 2, 200, .inl z0))] sz) := by
  refine Met.ofW (cc := cX3_part) (maxL := 5) (ret := (some (.array .int))) (by decide) rfl ?_
  intro p e s mI args below meth c s₁ B hml hv
  obtain ⟨rfl, hsz, hP, hK, hD0, hZ, hN⟩ := hv
  have hx := B.exec
  have hb := B.bytes
  have hr := B.returns
  have hts := atoms_spec (ws := wsX3_part) B.pre
  have hown : s.vm.findClass RX3 = some mI.cls := findClass_of_methodNamed B.named
  have hlocks := B.notSynchronized
  subst hsz
  have hD := hD0.self (sz := s.heap.size)
  generalize hAe : va_A [(ya, .inl (E 2, 200, .inl z0))] s.heap.size = A at hD hZ ⊢
  have hA : ∀ q : Nat, s.heap.size ≤ q → A q := fun q h => by rw [← hAe]; exact Or.inr h
  have hS : va_S A s.heap s.heap [] := va_S.rf
  have hl := lv_entry ([.ref ya, .int (nI 0), .int (nI n)]) (n := 5) (Nat.le_of_ble_eq_true rfl)
  rw [lg_entry_eq]
  generalize (lg_sl ([.ref ya, .int (nI 0), .int (nI n)]) ++ List.replicate (5 - (lg_sl ([.ref ya, .int (nI 0), .int (nI n)])).length) Slot.unset).toArray = ls at hl ⊢
  clear hAe hD0
  have hl : lv_has ls 5 [(0, .ref ya), (1, .int (nI 0)), (2, .int (nI n))] := hl
  obtain ⟨H, hH⟩ : ∃ H, H = s.heap := ⟨_, rfl⟩
  rw [← hH] at hP
  have hS : va_S A s.heap H [] := by rw [hH]; exact hS
  refine rf_heap hH ?_
  refine lv_iload_n hx hb dX3_part_0 rfl (lv_at hl 2 rfl) ?_
  refine lv_iload_n hx hb dX3_part_1 rfl (lv_at hl 1 rfl) ?_
  refine lv_isub hx hb dX3_part_2 (lv_topi (fun f1 ef => ?_))
  obtain rfl : f1 = nI (n) := (show f1 = nI (n) - nI (0) from ef).trans ((pk_sub (by omega)).trans (congrArg nI (by omega)))
  have h_1 : 0 + 1 ≤ 1 := by omega
  have h_2 : 0 + (n) ≤ 200 := by omega
  refine va_newa (atype := .int) (N' := n) (a0 := (n, .inl z0)) hx hb (hts (.arrayClass .int) (by decide +kernel)) rfl hK hP hD hS hA (fun _ => rfl) (nI_pos (by omega)) (nI_clamp (by omega)) (Nat.le_trans (Nat.mul_le_mul_right _ (show n ≤ 200 by omega)) (Nat.le_of_ble_eq_true rfl)) h_1 h_2 dX3_part_3 (fun q1 cA H hK2 hP hD hS => ?_)
  obtain rfl := rf_int hK2
  have hP : va_P D vwCl [(ya, .inl (E 2, 200, .inl z0)), (q1, .inl (E 2, n, .inl z0))] H := hP
  have hD : va_D A [(ya, .inl (E 2, 200, .inl z0)), (q1, .inl (E 2, n, .inl z0))] := hD
  refine W.widen (k := 1) (n := 200) (by omega) (by omega) ?_
  refine lv_astore_n hx hb dX3_part_5 rfl hl (Nat.le_of_ble_eq_true rfl) rfl (fun ls hl => ?_)
  have hl : lv_has ls 5 [(3, .ref q1), (0, .ref ya), (1, .int (nI 0)), (2, .int (nI n))] := hl
  refine lv_iload_n hx hb dX3_part_6 rfl (lv_at hl 2 rfl) ?_
  refine lv_istore hx hb dX3_part_7 hl (Nat.le_of_ble_eq_true rfl) rfl (fun ls hl => ?_)
  have hl : lv_has ls 5 [(4, .int (nI 0)), (3, .ref q1), (0, .ref ya), (1, .int (nI 0)), (2, .int (nI n))] := hl
  have hl : lv_has ls 5 [(0, .ref ya), (1, .int (nI 0)), (2, .int (nI n)), (3, .ref q1), (4, .int (nI 0))] := lv_sub hl [2, 3, 4, 1, 0] rfl
  refine rf_loop (n) 0 0 (fun k H locs ls => lv_has ls 5 [(0, .ref ya), (1, .int (nI 0)), (2, .int (nI n)), (3, .ref q1), (4, .int (nI (k)))] ∧ va_P D vwCl [(ya, .inl (E 2, 200, .inl z0)), (q1, .inl (E 2, n, .inl z0))] H ∧ va_D A [(ya, .inl (E 2, 200, .inl z0)), (q1, .inl (E 2, n, .inl z0))] ∧ va_S A s.heap H locs) ⟨hl, hP, hD, hS⟩ ?_ ?_
  · intro H locs ls hI
    obtain ⟨hl, hP, hD, hS⟩ := hI
    refine lv_iload hx hb dX3_part_9 (lv_at hl 4 rfl) ?_
    refine lv_iload_n hx hb dX3_part_11 rfl (lv_at hl 2 rfl) ?_
    refine lv_icmp_ge (tgt := 31) hx hb dX3_part_12 rfl (fun _ => ?_) (fun h => absurd (show nI (n) ≤ nI (n) from nI_le (by omega) (by omega)) h)
    refine lv_aload_n hx hb dX3_part_31 rfl (lv_at hl 3 rfl) ?_
    refine W.widen (k := 1) (n := 200) (by omega) (by omega) ?_
    exact W.aret (v := .ref q1) hx hb hr (Or.inr ⟨_, rfl⟩) (Or.inr ⟨_, rfl⟩) (fun t ht hW => ⟨⟨(), q1, rfl, trivial, rf_end ht hP hD⟩, hS.F ht⟩) hS.2.2 dX3_part_32
  · intro k H locs ls hkN hI kk
    obtain ⟨hl, hP, hD, hS⟩ := hI
    refine lv_iload hx hb dX3_part_9 (lv_at hl 4 rfl) ?_
    refine lv_iload_n hx hb dX3_part_11 rfl (lv_at hl 2 rfl) ?_
    refine lv_icmp_ge (tgt := 31) hx hb dX3_part_12 rfl (fun h => absurd h (show ¬ nI (n) ≤ nI (k) from nI_ge (by omega) (by omega))) (fun _ => ?_)
    refine lv_aload_n hx hb dX3_part_15 rfl (lv_at hl 3 rfl) ?_
    refine lv_iload hx hb dX3_part_16 (lv_at hl 4 rfl) ?_
    refine lv_iload_n hx hb dX3_part_18 rfl (lv_at hl 1 rfl) ?_
    refine lv_isub hx hb dX3_part_19 (lv_topi (fun f2 ef => ?_))
    obtain rfl : f2 = nI (k) := (show f2 = nI (k) - nI (0) from ef).trans ((pk_sub (by omega)).trans (congrArg nI (by omega)))
    refine lv_aload_n hx hb dX3_part_20 rfl (lv_at hl 0 rfl) ?_
    refine lv_iload hx hb dX3_part_21 (lv_at hl 4 rfl) ?_
    refine va_iald hx hb hK hP 0 2 rfl rfl (vp_in_nI (by omega) (by omega)) dX3_part_23 (W.eq (g2 := F0 mI 24 ls (.int 0 :: [.int (nI (k)), .ref q1])) rfl ?_)
    refine va_iast hx hb hK hP hD hS 1 2 rfl rfl (vp_in_nI (by omega) (by omega)) dX3_part_24 (fun H locs hP hD hS => ?_)
    rw [rf_u0] at hP hD
    have hP : va_P D vwCl [(ya, .inl (E 2, 200, .inl z0)), (q1, .inl (E 2, n, .inl z0))] H := hP
    have hD : va_D A [(ya, .inl (E 2, 200, .inl z0)), (q1, .inl (E 2, n, .inl z0))] := hD
    refine lv_iinc (v := nI (k + 1)) hx hb dX3_part_25 hl (k := 4) rfl ((show nI (k) + Int32.ofInt 1 = nI (k) + nI 1 from rfl).trans ((nI_add _ _).trans (congrArg nI (by omega)))) (Nat.le_of_ble_eq_true rfl) rfl (fun ls hl => ?_)
    have hl : lv_has ls 5 [(4, .int (nI (k + 1))), (0, .ref ya), (1, .int (nI 0)), (2, .int (nI n)), (3, .ref q1)] := hl
    have hl : lv_has ls 5 [(0, .ref ya), (1, .int (nI 0)), (2, .int (nI n)), (3, .ref q1), (4, .int (nI (k + 1)))] := lv_sub hl [1, 2, 3, 4, 0] rfl
    refine lv_goto (tgt := 9) hx hb dX3_part_28 rfl ?_
    refine W.widen (k := 1 + (k + 1) * 0) (n := 200 + (k + 1) * 0) (by omega) (by omega) ?_
    exact kk _ _ _ ⟨hl, hP, hD, hS⟩
set_option maxHeartbeats 4000000 in
set_option maxRecDepth 100000 in
/-- the reference: setLength(0, 200), the tape empty -/
theorem c_X3_setLength (l : Launch) (D : va_G) (E : Nat → ClassId) (sz : Nat) (m0 t1 y0 : Nat) (th : Int32) (f : Nat → Option Nat) (a2 a3 a4 a5 : Value) (hf : f 0 = some y0) : Met l yX3_setLength wsX3_setLength ({ frames := 4, cells := 3, slots := 600, locals := 600 }) (va_Pc [.ref m0, .int (nI 0), .int (nI 200)] (rf_P D E [(m0, .inr (5, [.int th, .ref t1, a2, a3, a4, a5])), (t1, .inl (E 4, 4, .inr (.inr (.inr (.inr f))))), (y0, .inl (E 2, 0, .inl z0))] sz)) (va_Qi (fun (r : Int32) (u : Nat) => r = nI 0) (fun (u : Nat) (t : State) => rf_B D (va_A [(m0, .inr (5, [.int th, .ref t1, a2, a3, a4, a5])), (t1, .inl (E 4, 4, .inr (.inr (.inr (.inr f))))), (y0, .inl (E 2, 0, .inl z0))] sz) [(m0, .inr (5, [.int 0, .ref t1, a2, a3, a4, a5])), (t1, .inl (E 4, 4, .inr (.inr (.inr (.inr (va_up f 0 (some u))))))), (u, .inl (E 2, 200, .inl z0))] t) (va_A [(m0, .inr (5, [.int th, .ref t1, a2, a3, a4, a5])), (t1, .inl (E 4, 4, .inr (.inr (.inr (.inr f))))), (y0, .inl (E 2, 0, .inl z0))] sz)) 3 600 (va_A [(m0, .inr (5, [.int th, .ref t1, a2, a3, a4, a5])), (t1, .inl (E 4, 4, .inr (.inr (.inr (.inr f))))), (y0, .inl (E 2, 0, .inl z0))] sz) := by
  refine Met.ofW (cc := cX3_setLength) (maxL := 4) (ret := (some .int)) (by decide) rfl ?_
  intro p e s mI args below meth c s₁ B hml hv
  obtain ⟨rfl, hsz, hP, hK, hD0, hZ, hN⟩ := hv
  have hx := B.exec
  have hb := B.bytes
  have hr := B.returns
  have hts := atoms_spec (ws := wsX3_setLength) B.pre
  have hown : s.vm.findClass RX3 = some mI.cls := findClass_of_methodNamed B.named
  have hlocks := B.notSynchronized
  subst hsz
  have hD := hD0.self (sz := s.heap.size)
  generalize hAe : va_A [(m0, .inr (5, [.int th, .ref t1, a2, a3, a4, a5])), (t1, .inl (E 4, 4, .inr (.inr (.inr (.inr f))))), (y0, .inl (E 2, 0, .inl z0))] s.heap.size = A at hD hZ ⊢
  have hA : ∀ q : Nat, s.heap.size ≤ q → A q := fun q h => by rw [← hAe]; exact Or.inr h
  have hS : va_S A s.heap s.heap [] := va_S.rf
  have hl := lv_entry ([.ref m0, .int (nI 0), .int (nI 200)]) (n := 4) (Nat.le_of_ble_eq_true rfl)
  rw [lg_entry_eq]
  generalize (lg_sl ([.ref m0, .int (nI 0), .int (nI 200)]) ++ List.replicate (4 - (lg_sl ([.ref m0, .int (nI 0), .int (nI 200)])).length) Slot.unset).toArray = ls at hl ⊢
  clear hAe hD0
  have hl : lv_has ls 4 [(0, .ref m0), (1, .int (nI 0)), (2, .int (nI 200))] := hl
  obtain ⟨H, hH⟩ : ∃ H, H = s.heap := ⟨_, rfl⟩
  rw [← hH] at hP
  have hS : va_S A s.heap H [] := by rw [hH]; exact hS
  refine rf_heap hH ?_
  refine lv_aload_n hx hb dX3_setLength_0 rfl (lv_at hl 0 rfl) ?_
  refine lv_iload_n hx hb dX3_setLength_1 rfl (lv_at hl 1 rfl) ?_
  have hPc := hP.sub (ws' := []) [] rfl
  have hDc := hD.sub (ws' := []) [] (by decide) rfl
  have hFc := va_free (wc := []) hD hS hA [] rfl
  have h_1 : 0 + 0 ≤ 3 := by omega
  have h_2 : 0 + 0 ≤ 600 := by omega
  refine va_calli (va_runS (As := [.int (nI 0)]) (rest := [.ref m0]) ⟨hx, hb, hml, hown, hts⟩ (c_X3_isNoTape l D E H.size ) (va_cwS 1 hts gX3_setLength_X3_isNoTape rfl rfl rfl (by decide +kernel) ⟨Nat.le_of_ble_eq_true rfl, Nat.le_of_ble_eq_true rfl⟩) ⟨rf_blind _, fun U hU hW => ⟨rfl, rf_pre hK hPc hDc hZ hN hS hFc U hU hW⟩⟩ rfl rfl hl.1 rfl (lv_room (Nat.le_of_ble_eq_true rfl)) dX3_setLength_2 ⟨h_1, h_2⟩) hS (fun q _ h => hFc q h) hFc (fun r u t H1 locs ht hvm hw hB hz1 hk1 hS => ?_)
  obtain ⟨hP1, hD1⟩ := hB
  rw [ht] at hP1
  try dsimp only at hw hP1 hD1
  obtain rfl := hw
  obtain ⟨hP, hD⟩ := va_join (wr := [(m0, .inr (5, [.int th, .ref t1, a2, a3, a4, a5])), (t1, .inl (E 4, 4, .inr (.inr (.inr (.inr f))))), (y0, .inl (E 2, 0, .inl z0))]) (w1 := []) hP hD [] [0, 1, 2] rfl rfl (by decide) (by decide) hk1 hFc hP1 hD1
  clear hPc hDc hFc hP1 hD1 hk1 hz1 ht
  generalize H1 = H at hP hS ⊢
  have hP : va_P D vwCl [(m0, .inr (5, [.int th, .ref t1, a2, a3, a4, a5])), (t1, .inl (E 4, 4, .inr (.inr (.inr (.inr f))))), (y0, .inl (E 2, 0, .inl z0))] H := hP
  have hD : va_D A [(m0, .inr (5, [.int th, .ref t1, a2, a3, a4, a5])), (t1, .inl (E 4, 4, .inr (.inr (.inr (.inr f))))), (y0, .inl (E 2, 0, .inl z0))] := hD
  refine lv_iconst (v := nI 1) hx hb dX3_setLength_5 (by decide) ?_
  have hPc := hP.sub (ws' := [(m0, .inr (5, [.int th, .ref t1, a2, a3, a4, a5]))]) [0] rfl
  have hDc := hD.sub (ws' := [(m0, .inr (5, [.int th, .ref t1, a2, a3, a4, a5]))]) [0] (by decide) rfl
  have hFc := va_free (wc := [(m0, .inr (5, [.int th, .ref t1, a2, a3, a4, a5]))]) hD hS hA [0] rfl
  have h_1 : 0 + 0 ≤ 3 := by omega
  have h_2 : 0 + 0 ≤ 600 := by omega
  refine va_calli (va_runV (As := [.int (0), .int (nI 1)]) (rest := []) ⟨hx, hb, hml, hown, hts⟩ (c_X3_start l D E H.size (m0) (t1) (th) (a2) (a3) (a4) (a5)) (cwV 2 hts gX3_setLength_X3_start rfl rfl rfl (by decide +kernel) ⟨Nat.le_of_ble_eq_true rfl, Nat.le_of_ble_eq_true rfl⟩) ⟨rf_blind _, va_recv hK hPc (ci := 5) (q0 := 0) rfl rfl, fun U hU hW => ⟨rfl, rf_pre hK hPc hDc hZ hN hS hFc U hU hW⟩⟩ rfl rfl hl.1 rfl (lv_room (Nat.le_of_ble_eq_true rfl)) dX3_setLength_6 ⟨h_1, h_2⟩) hS (fun q _ h => hFc q h) hFc (fun r u t H1 locs ht hvm hw hB hz1 hk1 hS => ?_)
  obtain ⟨hP1, hD1⟩ := hB
  rw [ht] at hP1
  try dsimp only at hw hP1 hD1
  obtain rfl := hw
  obtain ⟨hP, hD⟩ := va_join (wr := [(t1, .inl (E 4, 4, .inr (.inr (.inr (.inr f))))), (y0, .inl (E 2, 0, .inl z0))]) (w1 := [(m0, .inr (5, [.int (0), .ref t1, a2, a3, a4, a5]))]) hP hD [0] [1, 2] rfl rfl (by decide) (by decide) hk1 hFc hP1 hD1
  clear hPc hDc hFc hP1 hD1 hk1 hz1 ht
  generalize H1 = H at hP hS ⊢
  have hP : va_P D vwCl [(t1, .inl (E 4, 4, .inr (.inr (.inr (.inr f))))), (y0, .inl (E 2, 0, .inl z0)), (m0, .inr (5, [.int (0), .ref t1, a2, a3, a4, a5]))] H := hP
  have hD : va_D A [(t1, .inl (E 4, 4, .inr (.inr (.inr (.inr f))))), (y0, .inl (E 2, 0, .inl z0)), (m0, .inr (5, [.int (0), .ref t1, a2, a3, a4, a5]))] := hD
  refine lv_if_ne (tgt := 37) hx hb dX3_setLength_9 rfl (fun h => absurd (by decide) h) (fun _ => ?_)
  refine lv_aload_n hx hb dX3_setLength_12 rfl (lv_at hl 0 rfl) ?_
  refine lv_iload_n hx hb dX3_setLength_13 rfl (lv_at hl 2 rfl) ?_
  refine lv_i2l (v := lN 200) hx hb dX3_setLength_14 (by decide) ?_
  refine lv_lconst (v := lN 0) hx hb dX3_setLength_15 (by decide) ?_
  refine lv_ldc2 (v := 200) hx hb hown (hts (.constantLong RX3 143 200) (by decide +kernel)) dX3_setLength_16 ?_
  have hPc := hP.sub (ws' := []) [] rfl
  have hDc := hD.sub (ws' := []) [] (by decide) rfl
  have hFc := va_free (wc := []) hD hS hA [] rfl
  have h_1 : 0 + 0 ≤ 3 := by omega
  have h_2 : 0 + 0 ≤ 600 := by omega
  refine va_calli (va_runS (As := [.long (lN 200), .long (lN 0), .long (lN 200)]) (rest := [.ref m0]) ⟨hx, hb, hml, hown, hts⟩ (c_X3_isIn_l l D E H.size ) (va_cwS 3 hts gX3_setLength_X3_isIn rfl rfl rfl (by decide +kernel) ⟨Nat.le_of_ble_eq_true rfl, Nat.le_of_ble_eq_true rfl⟩) ⟨rf_blind _, fun U hU hW => ⟨rfl, rf_pre hK hPc hDc hZ hN hS hFc U hU hW⟩⟩ rfl rfl hl.1 rfl (lv_room (Nat.le_of_ble_eq_true rfl)) dX3_setLength_19 ⟨h_1, h_2⟩) hS (fun q _ h => hFc q h) hFc (fun r u t H1 locs ht hvm hw hB hz1 hk1 hS => ?_)
  obtain ⟨hP1, hD1⟩ := hB
  rw [ht] at hP1
  try dsimp only at hw hP1 hD1
  obtain rfl := hw
  obtain ⟨hP, hD⟩ := va_join (wr := [(t1, .inl (E 4, 4, .inr (.inr (.inr (.inr f))))), (y0, .inl (E 2, 0, .inl z0)), (m0, .inr (5, [.int (0), .ref t1, a2, a3, a4, a5]))]) (w1 := []) hP hD [] [0, 1, 2] rfl rfl (by decide) (by decide) hk1 hFc hP1 hD1
  clear hPc hDc hFc hP1 hD1 hk1 hz1 ht
  generalize H1 = H at hP hS ⊢
  have hP : va_P D vwCl [(t1, .inl (E 4, 4, .inr (.inr (.inr (.inr f))))), (y0, .inl (E 2, 0, .inl z0)), (m0, .inr (5, [.int (0), .ref t1, a2, a3, a4, a5]))] H := hP
  have hD : va_D A [(t1, .inl (E 4, 4, .inr (.inr (.inr (.inr f))))), (y0, .inl (E 2, 0, .inl z0)), (m0, .inr (5, [.int (0), .ref t1, a2, a3, a4, a5]))] := hD
  refine lv_if_ne (tgt := 29) hx hb dX3_setLength_22 rfl (fun _ => ?_) (fun h => absurd h (by decide))
  refine lv_iconst (v := 0) hx hb dX3_setLength_29 (by decide) ?_
  refine lv_iconst (v := nI 2) hx hb dX3_setLength_30 (by decide) ?_
  have hPc := hP.sub (ws' := [(m0, .inr (5, [.int (0), .ref t1, a2, a3, a4, a5]))]) [2] rfl
  have hDc := hD.sub (ws' := [(m0, .inr (5, [.int (0), .ref t1, a2, a3, a4, a5]))]) [2] (by decide) rfl
  have hFc := va_free (wc := [(m0, .inr (5, [.int (0), .ref t1, a2, a3, a4, a5]))]) hD hS hA [2] rfl
  have h_1 : 0 + 0 ≤ 3 := by omega
  have h_2 : 0 + 0 ≤ 600 := by omega
  refine va_calli (va_runV (As := [.int (0), .int (nI 2)]) (rest := []) ⟨hx, hb, hml, hown, hts⟩ (c_X3_refuse l D E H.size (m0) (t1) (2) (a2) (a3) (a4) (a5)) (cwV 2 hts gX3_setLength_X3_refuse rfl rfl rfl (by decide +kernel) ⟨Nat.le_of_ble_eq_true rfl, Nat.le_of_ble_eq_true rfl⟩) ⟨rf_blind _, va_recv hK hPc (ci := 5) (q0 := 0) rfl rfl, fun U hU hW => ⟨rfl, rf_pre hK hPc hDc hZ hN hS hFc U hU hW⟩⟩ rfl rfl hl.1 rfl (lv_room (Nat.le_of_ble_eq_true rfl)) dX3_setLength_31 ⟨h_1, h_2⟩) hS (fun q _ h => hFc q h) hFc (fun r u t H1 locs ht hvm hw hB hz1 hk1 hS => ?_)
  obtain ⟨hP1, hD1⟩ := hB
  rw [ht] at hP1
  try dsimp only at hw hP1 hD1
  obtain rfl := hw
  obtain ⟨hP, hD⟩ := va_join (wr := [(t1, .inl (E 4, 4, .inr (.inr (.inr (.inr f))))), (y0, .inl (E 2, 0, .inl z0))]) (w1 := [(m0, .inr (5, [.int (0), .ref t1, a2, a3, a4, a5]))]) hP hD [2] [0, 1] rfl rfl (by decide) (by decide) hk1 hFc hP1 hD1
  clear hPc hDc hFc hP1 hD1 hk1 hz1 ht
  generalize H1 = H at hP hS ⊢
  have hP : va_P D vwCl [(t1, .inl (E 4, 4, .inr (.inr (.inr (.inr f))))), (y0, .inl (E 2, 0, .inl z0)), (m0, .inr (5, [.int (0), .ref t1, a2, a3, a4, a5]))] H := hP
  have hD : va_D A [(t1, .inl (E 4, 4, .inr (.inr (.inr (.inr f))))), (y0, .inl (E 2, 0, .inl z0)), (m0, .inr (5, [.int (0), .ref t1, a2, a3, a4, a5]))] := hD
  refine lv_if_eq (tgt := 39) hx hb dX3_setLength_34 rfl (fun _ => ?_) (fun h => absurd (by decide) h)
  refine lv_aload_n hx hb dX3_setLength_39 rfl (lv_at hl 0 rfl) ?_
  refine va_get (D := D) (ci := 5) (v := .ref t1) (C := RX3) (T := TX3) (N := 6) hx hb hts (by decide +kernel) hown hK hP 2 rfl rfl 1 (by decide) (hts (.fieldLink RX3 11 "TapebufferModel" "tapes" "[[I") (by decide +kernel)) (fun _ h9 => h9) rfl dX3_setLength_40 ?_
  refine lv_iload_n hx hb dX3_setLength_43 rfl (lv_at hl 1 rfl) ?_
  refine rf_aldg hx hb hK hP 0 4 rfl rfl (vp_in_nI (by omega) (by omega)) dX3_setLength_44 (W.eq (g2 := F0 mI 45 ls (.ref y0 :: [])) (by rw [show (nI 0).toNatClampNeg = 0 from rfl, hf]; rfl) ?_)
  refine va_alen (v := nI (0)) hx hb hK hP 1 2 rfl rfl rfl dX3_setLength_45 ?_
  refine lv_istore_n hx hb dX3_setLength_46 rfl hl (Nat.le_of_ble_eq_true rfl) rfl (fun ls hl => ?_)
  have hl : lv_has ls 4 [(3, .int (nI (0))), (0, .ref m0), (1, .int (nI 0)), (2, .int (nI 200))] := hl
  refine lv_aload_n hx hb dX3_setLength_47 rfl (lv_at hl 1 rfl) ?_
  refine va_get (D := D) (ci := 5) (v := .ref t1) (C := RX3) (T := TX3) (N := 6) hx hb hts (by decide +kernel) hown hK hP 2 rfl rfl 1 (by decide) (hts (.fieldLink RX3 11 "TapebufferModel" "tapes" "[[I") (by decide +kernel)) (fun _ h9 => h9) rfl dX3_setLength_48 ?_
  refine lv_iload_n hx hb dX3_setLength_51 rfl (lv_at hl 2 rfl) ?_
  refine lv_aload_n hx hb dX3_setLength_52 rfl (lv_at hl 1 rfl) ?_
  refine va_get (D := D) (ci := 5) (v := .ref t1) (C := RX3) (T := TX3) (N := 6) hx hb hts (by decide +kernel) hown hK hP 2 rfl rfl 1 (by decide) (hts (.fieldLink RX3 11 "TapebufferModel" "tapes" "[[I") (by decide +kernel)) (fun _ h9 => h9) rfl dX3_setLength_53 ?_
  refine lv_iload_n hx hb dX3_setLength_56 rfl (lv_at hl 2 rfl) ?_
  refine rf_aldg hx hb hK hP 0 4 rfl rfl (vp_in_nI (by omega) (by omega)) dX3_setLength_57 (W.eq (g2 := F0 mI 58 ls (.ref y0 :: [.int (nI 0), .ref t1])) (by rw [show (nI 0).toNatClampNeg = 0 from rfl, hf]; rfl) ?_)
  refine lv_sipush (v := nI 200) hx hb dX3_setLength_58 (by decide) ?_
  have h_1 : 0 + 1 ≤ 3 := by omega
  have h_2 : 0 + (200) ≤ 600 := by omega
  refine va_newa (atype := .int) (N' := 200) (a0 := (200, .inl z0)) hx hb (hts (.arrayClass .int) (by decide +kernel)) rfl hK hP hD hS hA (fun _ => rfl) (nI_pos (by omega)) (nI_clamp (by omega)) (Nat.le_trans (Nat.mul_le_mul_right _ (show 200 ≤ 200 by omega)) (Nat.le_of_ble_eq_true rfl)) h_1 h_2 dX3_setLength_61 (fun q1 cA H hK2 hP hD hS => ?_)
  obtain rfl := rf_int hK2
  have hP : va_P D vwCl [(t1, .inl (E 4, 4, .inr (.inr (.inr (.inr f))))), (y0, .inl (E 2, 0, .inl z0)), (m0, .inr (5, [.int (0), .ref t1, a2, a3, a4, a5])), (q1, .inl (E 2, 200, .inl z0))] H := hP
  have hD : va_D A [(t1, .inl (E 4, 4, .inr (.inr (.inr (.inr f))))), (y0, .inl (E 2, 0, .inl z0)), (m0, .inr (5, [.int (0), .ref t1, a2, a3, a4, a5])), (q1, .inl (E 2, 200, .inl z0))] := hD
  refine W.widen (k := 1) (n := 200) (by omega) (by omega) ?_
  have hPc := hP.sub (ws' := [(y0, .inl (E 2, 0, .inl z0)), (q1, .inl (E 2, 200, .inl z0))]) [1, 3] rfl
  have hDc := hD.sub (ws' := [(y0, .inl (E 2, 0, .inl z0)), (q1, .inl (E 2, 200, .inl z0))]) [1, 3] (by decide) rfl
  have hFc := va_free (wc := [(y0, .inl (E 2, 0, .inl z0)), (q1, .inl (E 2, 200, .inl z0))]) hD hS hA [1, 3] rfl
  have h_1 : 1 + 1 ≤ 3 := by omega
  have h_2 : 200 + 200 ≤ 600 := by omega
  refine va_callr (va_runS (As := [.ref y0, .ref q1]) (rest := [.int (nI 0), .ref t1]) ⟨hx, hb, hml, hown, hts⟩ (c_X3_joined l D E H.size (y0) (q1)) (va_cwS 2 hts gX3_setLength_X3_joined rfl rfl rfl (by decide +kernel) ⟨Nat.le_of_ble_eq_true rfl, Nat.le_of_ble_eq_true rfl⟩) ⟨rf_blind _, fun U hU hW => ⟨rfl, rf_pre hK hPc hDc hZ hN hS hFc U hU hW⟩⟩ rfl rfl hl.1 rfl (lv_room (Nat.le_of_ble_eq_true rfl)) dX3_setLength_63 ⟨h_1, h_2⟩) hS (fun q _ h => hFc q h) hFc (fun u r1 t H1 locs ht hvm hw hB hz1 hk1 hS => ?_)
  obtain ⟨hP1, hD1⟩ := hB
  rw [ht] at hP1
  try dsimp only at hw hP1 hD1
  obtain ⟨hP, hD⟩ := va_join (wr := [(t1, .inl (E 4, 4, .inr (.inr (.inr (.inr f))))), (m0, .inr (5, [.int (0), .ref t1, a2, a3, a4, a5]))]) (w1 := [(y0, .inl (E 2, 0, .inl z0)), (q1, .inl (E 2, 200, .inl z0)), (r1, .inl (E 2, 200, .inl z0))]) hP hD [1, 3] [0, 2] rfl rfl (by decide) (by decide) hk1 hFc hP1 hD1
  clear hPc hDc hFc hP1 hD1 hk1 hz1 ht
  generalize H1 = H at hP hS ⊢
  have hP : va_P D vwCl [(t1, .inl (E 4, 4, .inr (.inr (.inr (.inr f))))), (m0, .inr (5, [.int (0), .ref t1, a2, a3, a4, a5])), (y0, .inl (E 2, 0, .inl z0)), (q1, .inl (E 2, 200, .inl z0)), (r1, .inl (E 2, 200, .inl z0))] H := hP
  have hD : va_D A [(t1, .inl (E 4, 4, .inr (.inr (.inr (.inr f))))), (m0, .inr (5, [.int (0), .ref t1, a2, a3, a4, a5])), (y0, .inl (E 2, 0, .inl z0)), (q1, .inl (E 2, 200, .inl z0)), (r1, .inl (E 2, 200, .inl z0))] := hD
  refine W.widen (k := 2) (n := 400) (by omega) (by omega) ?_
  refine lv_iconst (v := nI 0) hx hb dX3_setLength_66 (by decide) ?_
  refine lv_iload_n hx hb dX3_setLength_67 rfl (lv_at hl 3 rfl) ?_
  have hPc := hP.sub (ws' := [(r1, .inl (E 2, 200, .inl z0))]) [4] rfl
  have hDc := hD.sub (ws' := [(r1, .inl (E 2, 200, .inl z0))]) [4] (by decide) rfl
  have hFc := va_free (wc := [(r1, .inl (E 2, 200, .inl z0))]) hD hS hA [4] rfl
  have h_1 : 2 + 1 ≤ 3 := by omega
  have h_2 : 400 + 200 ≤ 600 := by omega
  refine va_callr (va_runS (As := [.ref r1, .int (nI 0), .int (nI 200)]) (rest := [.int (nI 0), .ref t1]) ⟨hx, hb, hml, hown, hts⟩ (c_X3_part l D E H.size (r1) (200) (by omega)) (va_cwS 3 hts gX3_setLength_X3_part rfl rfl rfl (by decide +kernel) ⟨Nat.le_of_ble_eq_true rfl, Nat.le_of_ble_eq_true rfl⟩) ⟨rf_blind _, fun U hU hW => ⟨rfl, rf_pre hK hPc hDc hZ hN hS hFc U hU hW⟩⟩ rfl rfl hl.1 rfl (lv_room (Nat.le_of_ble_eq_true rfl)) dX3_setLength_68 ⟨h_1, h_2⟩) hS (fun q _ h => hFc q h) hFc (fun u r2 t H1 locs ht hvm hw hB hz1 hk1 hS => ?_)
  obtain ⟨hP1, hD1⟩ := hB
  rw [ht] at hP1
  try dsimp only at hw hP1 hD1
  obtain ⟨hP, hD⟩ := va_join (wr := [(t1, .inl (E 4, 4, .inr (.inr (.inr (.inr f))))), (m0, .inr (5, [.int (0), .ref t1, a2, a3, a4, a5])), (y0, .inl (E 2, 0, .inl z0)), (q1, .inl (E 2, 200, .inl z0))]) (w1 := [(r1, .inl (E 2, 200, .inl z0)), (r2, .inl (E 2, 200, .inl z0))]) hP hD [4] [0, 1, 2, 3] rfl rfl (by decide) (by decide) hk1 hFc hP1 hD1
  clear hPc hDc hFc hP1 hD1 hk1 hz1 ht
  generalize H1 = H at hP hS ⊢
  have hP : va_P D vwCl [(t1, .inl (E 4, 4, .inr (.inr (.inr (.inr f))))), (m0, .inr (5, [.int (0), .ref t1, a2, a3, a4, a5])), (y0, .inl (E 2, 0, .inl z0)), (q1, .inl (E 2, 200, .inl z0)), (r1, .inl (E 2, 200, .inl z0)), (r2, .inl (E 2, 200, .inl z0))] H := hP
  have hD : va_D A [(t1, .inl (E 4, 4, .inr (.inr (.inr (.inr f))))), (m0, .inr (5, [.int (0), .ref t1, a2, a3, a4, a5])), (y0, .inl (E 2, 0, .inl z0)), (q1, .inl (E 2, 200, .inl z0)), (r1, .inl (E 2, 200, .inl z0)), (r2, .inl (E 2, 200, .inl z0))] := hD
  refine W.widen (k := 3) (n := 600) (by omega) (by omega) ?_
  refine rf_astg hx hb hK hN.2.2.2.2.1 hP hD hS 0 5 rfl rfl (vp_in_nI (by omega) (by omega)) dX3_setLength_71 (fun H locs hP hD hS => ?_)
  have hP : va_P D vwCl [(t1, .inl (E 4, 4, .inr (.inr (.inr (.inr (va_up f 0 (some r2))))))), (m0, .inr (5, [.int (0), .ref t1, a2, a3, a4, a5])), (y0, .inl (E 2, 0, .inl z0)), (q1, .inl (E 2, 200, .inl z0)), (r1, .inl (E 2, 200, .inl z0)), (r2, .inl (E 2, 200, .inl z0))] H := hP
  have hD : va_D A [(t1, .inl (E 4, 4, .inr (.inr (.inr (.inr (va_up f 0 (some r2))))))), (m0, .inr (5, [.int (0), .ref t1, a2, a3, a4, a5])), (y0, .inl (E 2, 0, .inl z0)), (q1, .inl (E 2, 200, .inl z0)), (r1, .inl (E 2, 200, .inl z0)), (r2, .inl (E 2, 200, .inl z0))] := hD
  refine lv_iload_n hx hb dX3_setLength_72 rfl (lv_at hl 0 rfl) ?_
  have hP := hP.sub (ws' := [(m0, .inr (5, [.int (0), .ref t1, a2, a3, a4, a5])), (t1, .inl (E 4, 4, .inr (.inr (.inr (.inr (va_up f 0 (some r2))))))), (r2, .inl (E 2, 200, .inl z0))]) [1, 0, 5] rfl
  have hD := hD.sub (ws' := [(m0, .inr (5, [.int (0), .ref t1, a2, a3, a4, a5])), (t1, .inl (E 4, 4, .inr (.inr (.inr (.inr (va_up f 0 (some r2))))))), (r2, .inl (E 2, 200, .inl z0))]) [1, 0, 5] (by decide) rfl
  exact W.iret (v := nI (0)) hx hb hr (fun t ht hW => ⟨⟨nI (0), r2, rfl, rfl, rf_end ht hP hD⟩, hS.F ht⟩) hS.2.2 dX3_setLength_73
set_option maxHeartbeats 4000000 in
set_option maxRecDepth 100000 in
/-- thrown -/
theorem c_X3_thrown (l : Launch) (D : va_G) (E : Nat → ClassId) (sz : Nat) (m0 : Nat) (th : Int32) (a1 a2 a3 a4 a5 : Value)  : Met l yX3_thrown wsX3_thrown ({ frames := 2, cells := 0, slots := 0, locals := 200 }) (va_Pc [.ref m0] (rf_P D E [(m0, .inr (5, [.int th, a1, a2, a3, a4, a5]))] sz)) (va_Qi (fun (r : Int32) (u : Unit) => r = th) (fun (u : Unit) (t : State) => rf_B D (va_A [(m0, .inr (5, [.int th, a1, a2, a3, a4, a5]))] sz) [(m0, .inr (5, [.int th, a1, a2, a3, a4, a5]))] t) (va_A [(m0, .inr (5, [.int th, a1, a2, a3, a4, a5]))] sz)) 0 0 (va_A [(m0, .inr (5, [.int th, a1, a2, a3, a4, a5]))] sz) := by
  refine Met.ofW (cc := cX3_thrown) (maxL := 1) (ret := (some .int)) (by decide) rfl ?_
  intro p e s mI args below meth c s₁ B hml hv
  obtain ⟨rfl, hsz, hP, hK, hD0, hZ, hN⟩ := hv
  have hx := B.exec
  have hb := B.bytes
  have hr := B.returns
  have hts := atoms_spec (ws := wsX3_thrown) B.pre
  have hown : s.vm.findClass RX3 = some mI.cls := findClass_of_methodNamed B.named
  have hlocks := B.notSynchronized
  subst hsz
  have hD := hD0.self (sz := s.heap.size)
  generalize hAe : va_A [(m0, .inr (5, [.int th, a1, a2, a3, a4, a5]))] s.heap.size = A at hD hZ ⊢
  have hA : ∀ q : Nat, s.heap.size ≤ q → A q := fun q h => by rw [← hAe]; exact Or.inr h
  have hS : va_S A s.heap s.heap [] := va_S.rf
  have hl := lv_entry ([.ref m0]) (n := 1) (Nat.le_of_ble_eq_true rfl)
  rw [lg_entry_eq]
  generalize (lg_sl ([.ref m0]) ++ List.replicate (1 - (lg_sl ([.ref m0])).length) Slot.unset).toArray = ls at hl ⊢
  clear hAe hD0
  have hl : lv_has ls 1 [(0, .ref m0)] := hl
  obtain ⟨H, hH⟩ : ∃ H, H = s.heap := ⟨_, rfl⟩
  rw [← hH] at hP
  have hS : va_S A s.heap H [] := by rw [hH]; exact hS
  refine rf_heap hH ?_
  refine lv_aload_n hx hb dX3_thrown_0 rfl (lv_at hl 0 rfl) ?_
  refine va_get (D := D) (ci := 5) (v := .int th) (C := RX3) (T := TX3) (N := 6) hx hb hts (by decide +kernel) hown hK hP 0 rfl rfl 0 (by decide) (hts (.fieldLink RX3 18 "TapebufferModel" "thrown" "I") (by decide +kernel)) (fun _ h9 => h9) rfl dX3_thrown_1 ?_
  exact W.iret (v := th) hx hb hr (fun t ht hW => ⟨⟨th, (), rfl, rfl, rf_end ht hP hD⟩, hS.F ht⟩) hS.2.2 dX3_thrown_4
set_option maxHeartbeats 4000000 in
set_option maxRecDepth 100000 in
/-- StringLatin1.equals of 200 zeros and 200 zeros: 1 -/
theorem c_J1_equals_b5fdf (l : Launch) (D : va_G) (E : Nat → ClassId) (sz : Nat) (b0 b1 : Nat)  : Met l yJ1_equals_b5fdf wsJ1_equals_b5fdf ({ frames := 2, cells := 0, slots := 0, locals := 200 }) (va_Pc [.ref b0, .ref b1] (rf_P D E [(b0, .inl (E 0, 200, .inl z0)), (b1, .inl (E 0, 200, .inl z0))] sz)) (va_Qi (fun (r : Int32) (u : Unit) => r = 1) (fun (u : Unit) (t : State) => rf_B D (va_A [(b0, .inl (E 0, 200, .inl z0)), (b1, .inl (E 0, 200, .inl z0))] sz) [(b0, .inl (E 0, 200, .inl z0)), (b1, .inl (E 0, 200, .inl z0))] t) (va_A [(b0, .inl (E 0, 200, .inl z0)), (b1, .inl (E 0, 200, .inl z0))] sz)) 0 0 (va_A [(b0, .inl (E 0, 200, .inl z0)), (b1, .inl (E 0, 200, .inl z0))] sz) := by
  refine Met.ofW (cc := cJ1_equals_b5fdf) (maxL := 3) (ret := (some .boolean)) (by decide) rfl ?_
  intro p e s mI args below meth c s₁ B hml hv
  obtain ⟨rfl, hsz, hP, hK, hD0, hZ, hN⟩ := hv
  have hx := B.exec
  have hb := B.bytes
  have hr := B.returns
  have hts := atoms_spec (ws := wsJ1_equals_b5fdf) B.pre
  have hown : s.vm.findClass RJ1 = some mI.cls := findClass_of_methodNamed B.named
  have hlocks := B.notSynchronized
  subst hsz
  have hD := hD0.self (sz := s.heap.size)
  generalize hAe : va_A [(b0, .inl (E 0, 200, .inl z0)), (b1, .inl (E 0, 200, .inl z0))] s.heap.size = A at hD hZ ⊢
  have hA : ∀ q : Nat, s.heap.size ≤ q → A q := fun q h => by rw [← hAe]; exact Or.inr h
  have hS : va_S A s.heap s.heap [] := va_S.rf
  have hl := lv_entry ([.ref b0, .ref b1]) (n := 3) (Nat.le_of_ble_eq_true rfl)
  rw [lg_entry_eq]
  generalize (lg_sl ([.ref b0, .ref b1]) ++ List.replicate (3 - (lg_sl ([.ref b0, .ref b1])).length) Slot.unset).toArray = ls at hl ⊢
  clear hAe hD0
  have hl : lv_has ls 3 [(0, .ref b0), (1, .ref b1)] := hl
  obtain ⟨H, hH⟩ : ∃ H, H = s.heap := ⟨_, rfl⟩
  rw [← hH] at hP
  have hS : va_S A s.heap H [] := by rw [hH]; exact hS
  refine rf_heap hH ?_
  refine lv_aload_n hx hb dJ1_equals_b5fdf_0 rfl (lv_at hl 0 rfl) ?_
  refine va_alen (v := nI (200)) hx hb hK hP 0 0 rfl rfl rfl dJ1_equals_b5fdf_1 ?_
  refine lv_aload_n hx hb dJ1_equals_b5fdf_2 rfl (lv_at hl 1 rfl) ?_
  refine va_alen (v := nI (200)) hx hb hK hP 1 0 rfl rfl rfl dJ1_equals_b5fdf_3 ?_
  refine lv_icmp_ne (tgt := 34) hx hb dJ1_equals_b5fdf_4 rfl (fun h => absurd (by decide) h) (fun _ => ?_)
  refine lv_iconst (v := nI 0) hx hb dJ1_equals_b5fdf_7 (by decide) ?_
  refine lv_istore_n hx hb dJ1_equals_b5fdf_8 rfl hl (Nat.le_of_ble_eq_true rfl) rfl (fun ls hl => ?_)
  have hl : lv_has ls 3 [(2, .int (nI 0)), (0, .ref b0), (1, .ref b1)] := hl
  have hl : lv_has ls 3 [(0, .ref b0), (1, .ref b1), (2, .int (nI 0))] := lv_sub hl [1, 2, 0] rfl
  refine rf_loop (200) 0 0 (fun k H locs ls => lv_has ls 3 [(0, .ref b0), (1, .ref b1), (2, .int (nI (k)))] ∧ va_P D vwCl [(b0, .inl (E 0, 200, .inl z0)), (b1, .inl (E 0, 200, .inl z0))] H ∧ va_D A [(b0, .inl (E 0, 200, .inl z0)), (b1, .inl (E 0, 200, .inl z0))] ∧ va_S A s.heap H locs) ⟨hl, hP, hD, hS⟩ ?_ ?_
  · intro H locs ls hI
    obtain ⟨hl, hP, hD, hS⟩ := hI
    refine lv_iload_n hx hb dJ1_equals_b5fdf_9 rfl (lv_at hl 2 rfl) ?_
    refine lv_aload_n hx hb dJ1_equals_b5fdf_10 rfl (lv_at hl 0 rfl) ?_
    refine va_alen (v := nI (200)) hx hb hK hP 0 0 rfl rfl rfl dJ1_equals_b5fdf_11 ?_
    refine lv_icmp_ge (tgt := 32) hx hb dJ1_equals_b5fdf_12 rfl (fun _ => ?_) (fun h => absurd (by decide) h)
    refine lv_iconst (v := 1) hx hb dJ1_equals_b5fdf_32 (by decide) ?_
    refine W.widen (k := 0) (n := 0) (by omega) (by omega) ?_
    exact W.zret (v := 1) hx hb hr (by decide +kernel) (fun t ht hW => ⟨⟨1, (), rfl, rfl, rf_end ht hP hD⟩, hS.F ht⟩) hS.2.2 dJ1_equals_b5fdf_33
  · intro k H locs ls hkN hI kk
    obtain ⟨hl, hP, hD, hS⟩ := hI
    refine lv_iload_n hx hb dJ1_equals_b5fdf_9 rfl (lv_at hl 2 rfl) ?_
    refine lv_aload_n hx hb dJ1_equals_b5fdf_10 rfl (lv_at hl 0 rfl) ?_
    refine va_alen (v := nI (200)) hx hb hK hP 0 0 rfl rfl rfl dJ1_equals_b5fdf_11 ?_
    refine lv_icmp_ge (tgt := 32) hx hb dJ1_equals_b5fdf_12 rfl (fun h => absurd h (show ¬ nI (200) ≤ nI (k) from nI_ge (by omega) (by omega))) (fun _ => ?_)
    refine lv_aload_n hx hb dJ1_equals_b5fdf_15 rfl (lv_at hl 0 rfl) ?_
    refine lv_iload_n hx hb dJ1_equals_b5fdf_16 rfl (lv_at hl 2 rfl) ?_
    refine va_bald hx hb hK hP 0 0 rfl rfl (vp_in_nI (by omega) (by omega)) dJ1_equals_b5fdf_17 (W.eq (g2 := F0 mI 18 ls (.int 0 :: [])) rfl ?_)
    refine lv_aload_n hx hb dJ1_equals_b5fdf_18 rfl (lv_at hl 1 rfl) ?_
    refine lv_iload_n hx hb dJ1_equals_b5fdf_19 rfl (lv_at hl 2 rfl) ?_
    refine va_bald hx hb hK hP 1 0 rfl rfl (vp_in_nI (by omega) (by omega)) dJ1_equals_b5fdf_20 (W.eq (g2 := F0 mI 21 ls (.int 0 :: [.int (0)])) rfl ?_)
    refine lv_icmp_eq (tgt := 26) hx hb dJ1_equals_b5fdf_21 rfl (fun _ => ?_) (fun h => absurd (by decide) h)
    refine lv_iinc (v := nI (k + 1)) hx hb dJ1_equals_b5fdf_26 hl (k := 2) rfl ((show nI (k) + Int32.ofInt 1 = nI (k) + nI 1 from rfl).trans ((nI_add _ _).trans (congrArg nI (by omega)))) (Nat.le_of_ble_eq_true rfl) rfl (fun ls hl => ?_)
    have hl : lv_has ls 3 [(2, .int (nI (k + 1))), (0, .ref b0), (1, .ref b1)] := hl
    have hl : lv_has ls 3 [(0, .ref b0), (1, .ref b1), (2, .int (nI (k + 1)))] := lv_sub hl [1, 2, 0] rfl
    refine lv_goto (tgt := 9) hx hb dJ1_equals_b5fdf_29 rfl ?_
    refine W.widen (k := 0 + (k + 1) * 0) (n := 0 + (k + 1) * 0) (by omega) (by omega) ?_
    exact kk _ _ _ ⟨hl, hP, hD, hS⟩
set_option maxHeartbeats 4000000 in
set_option maxRecDepth 100000 in
/-- String.equals of two texts of 200 zeros: 1 -/
theorem c_J0_equals_9ea2d (l : Launch) (D : va_G) (E : Nat → ClassId) (sz : Nat) (h0 h1 b0 b1 : Nat) (v2 v3 z2 z3 : Value)  : Met l yJ0_equals_9ea2d wsJ0_equals_9ea2d ({ frames := 3, cells := 0, slots := 0, locals := 400 }) (va_Pc [.ref h0, .ref h1] (rf_P D E [(h0, .inr (0, [.ref b0, .int 0, v2, v3])), (b0, .inl (E 0, 200, .inl z0)), (h1, .inr (0, [.ref b1, .int 0, z2, z3])), (b1, .inl (E 0, 200, .inl z0))] sz)) (va_Qi (fun (r : Int32) (u : Unit) => r = 1) (fun (u : Unit) (t : State) => rf_B D (va_A [(h0, .inr (0, [.ref b0, .int 0, v2, v3])), (b0, .inl (E 0, 200, .inl z0)), (h1, .inr (0, [.ref b1, .int 0, z2, z3])), (b1, .inl (E 0, 200, .inl z0))] sz) [(h0, .inr (0, [.ref b0, .int 0, v2, v3])), (b0, .inl (E 0, 200, .inl z0)), (h1, .inr (0, [.ref b1, .int 0, z2, z3])), (b1, .inl (E 0, 200, .inl z0))] t) (va_A [(h0, .inr (0, [.ref b0, .int 0, v2, v3])), (b0, .inl (E 0, 200, .inl z0)), (h1, .inr (0, [.ref b1, .int 0, z2, z3])), (b1, .inl (E 0, 200, .inl z0))] sz)) 0 0 (va_A [(h0, .inr (0, [.ref b0, .int 0, v2, v3])), (b0, .inl (E 0, 200, .inl z0)), (h1, .inr (0, [.ref b1, .int 0, z2, z3])), (b1, .inl (E 0, 200, .inl z0))] sz) := by
  refine Met.ofW (cc := cJ0_equals_9ea2d) (maxL := 3) (ret := (some .boolean)) (by decide) rfl ?_
  intro p e s mI args below meth c s₁ B hml hv
  obtain ⟨rfl, hsz, hP, hK, hD0, hZ, hN⟩ := hv
  have hx := B.exec
  have hb := B.bytes
  have hr := B.returns
  have hts := atoms_spec (ws := wsJ0_equals_9ea2d) B.pre
  have hown : s.vm.findClass RJ0 = some mI.cls := findClass_of_methodNamed B.named
  have hlocks := B.notSynchronized
  subst hsz
  have hD := hD0.self (sz := s.heap.size)
  generalize hAe : va_A [(h0, .inr (0, [.ref b0, .int 0, v2, v3])), (b0, .inl (E 0, 200, .inl z0)), (h1, .inr (0, [.ref b1, .int 0, z2, z3])), (b1, .inl (E 0, 200, .inl z0))] s.heap.size = A at hD hZ ⊢
  have hA : ∀ q : Nat, s.heap.size ≤ q → A q := fun q h => by rw [← hAe]; exact Or.inr h
  have hS : va_S A s.heap s.heap [] := va_S.rf
  have hl := lv_entry ([.ref h0, .ref h1]) (n := 3) (Nat.le_of_ble_eq_true rfl)
  rw [lg_entry_eq]
  generalize (lg_sl ([.ref h0, .ref h1]) ++ List.replicate (3 - (lg_sl ([.ref h0, .ref h1])).length) Slot.unset).toArray = ls at hl ⊢
  clear hAe hD0
  have hl : lv_has ls 3 [(0, .ref h0), (1, .ref h1)] := hl
  obtain ⟨H, hH⟩ : ∃ H, H = s.heap := ⟨_, rfl⟩
  rw [← hH] at hP
  have hS : va_S A s.heap H [] := by rw [hH]; exact hS
  refine rf_heap hH ?_
  refine lv_aload_n hx hb dJ0_equals_9ea2d_0 rfl (lv_at hl 0 rfl) ?_
  refine lv_aload_n hx hb dJ0_equals_9ea2d_1 rfl (lv_at hl 1 rfl) ?_
  refine lv_acmp_ne (rx := some h0) (ry := some h1) (tgt := 7) hx hb dJ0_equals_9ea2d_2 rfl (fun _ => ?_) (fun h => absurd (hD.1 0 2 _ _ rfl rfl (Option.some.inj h)) (by decide))
  refine lv_aload_n hx hb dJ0_equals_9ea2d_7 rfl (lv_at hl 1 rfl) ?_
  refine va_instS (nm := RJ0) hx hb hown (hts (.classLink RJ0 10 RJ0) (by decide +kernel)) (hK.1 0 _ rfl).2 (va_recv hK hP (ci := 0) (q0 := 2) rfl rfl) dJ0_equals_9ea2d_8 ?_
  refine lv_if_eq (tgt := 54) hx hb dJ0_equals_9ea2d_11 rfl (fun h => absurd h (by decide)) (fun _ => ?_)
  refine lv_aload_n hx hb dJ0_equals_9ea2d_14 rfl (lv_at hl 1 rfl) ?_
  refine va_castS (nm := RJ0) hx hb hown (hts (.classLink RJ0 10 RJ0) (by decide +kernel)) (hK.1 0 _ rfl).2 (va_recv hK hP (ci := 0) (q0 := 2) rfl rfl) dJ0_equals_9ea2d_15 ?_
  refine lv_astore_n hx hb dJ0_equals_9ea2d_18 rfl hl (Nat.le_of_ble_eq_true rfl) rfl (fun ls hl => ?_)
  have hl : lv_has ls 3 [(2, .ref h1), (0, .ref h0), (1, .ref h1)] := hl
  refine va_gets hx hb hZ hS hown (hts (.fieldLink RJ0 38 "java/lang/String" "COMPACT_STRINGS" "Z") (by decide +kernel)) (fun _ h9 => h9) dJ0_equals_9ea2d_19 ?_
  refine lv_if_eq (tgt := 36) hx hb dJ0_equals_9ea2d_22 rfl (fun h => absurd h (by decide)) (fun _ => ?_)
  refine lv_aload_n hx hb dJ0_equals_9ea2d_25 rfl (lv_at hl 1 rfl) ?_
  refine va_get (D := D) (ci := 0) (v := .int 0) (C := RJ0) (T := TJ0) (N := 4) hx hb hts (by decide +kernel) hown hK hP 0 rfl rfl 1 (by decide) (hts (.fieldLink RJ0 15 "java/lang/String" "coder" "B") (by decide +kernel)) (fun _ h9 => h9) rfl dJ0_equals_9ea2d_26 ?_
  refine lv_aload_n hx hb dJ0_equals_9ea2d_29 rfl (lv_at hl 0 rfl) ?_
  refine va_get (D := D) (ci := 0) (v := .int 0) (C := RJ0) (T := TJ0) (N := 4) hx hb hts (by decide +kernel) hown hK hP 2 rfl rfl 1 (by decide) (hts (.fieldLink RJ0 15 "java/lang/String" "coder" "B") (by decide +kernel)) (fun _ h9 => h9) rfl dJ0_equals_9ea2d_30 ?_
  refine lv_icmp_ne (tgt := 54) hx hb dJ0_equals_9ea2d_33 rfl (fun h => absurd (by decide) h) (fun _ => ?_)
  refine lv_aload_n hx hb dJ0_equals_9ea2d_36 rfl (lv_at hl 1 rfl) ?_
  refine va_get (D := D) (ci := 0) (v := .ref b0) (C := RJ0) (T := TJ0) (N := 4) hx hb hts (by decide +kernel) hown hK hP 0 rfl rfl 0 (by decide) (hts (.fieldLink RJ0 9 "java/lang/String" "value" "[B") (by decide +kernel)) (fun _ h9 => h9) rfl dJ0_equals_9ea2d_37 ?_
  refine lv_aload_n hx hb dJ0_equals_9ea2d_40 rfl (lv_at hl 0 rfl) ?_
  refine va_get (D := D) (ci := 0) (v := .ref b1) (C := RJ0) (T := TJ0) (N := 4) hx hb hts (by decide +kernel) hown hK hP 2 rfl rfl 0 (by decide) (hts (.fieldLink RJ0 9 "java/lang/String" "value" "[B") (by decide +kernel)) (fun _ h9 => h9) rfl dJ0_equals_9ea2d_41 ?_
  have hPc := hP.sub (ws' := [(b0, .inl (E 0, 200, .inl z0)), (b1, .inl (E 0, 200, .inl z0))]) [1, 3] rfl
  have hDc := hD.sub (ws' := [(b0, .inl (E 0, 200, .inl z0)), (b1, .inl (E 0, 200, .inl z0))]) [1, 3] (by decide) rfl
  have hFc := va_free (wc := [(b0, .inl (E 0, 200, .inl z0)), (b1, .inl (E 0, 200, .inl z0))]) hD hS hA [1, 3] rfl
  have h_1 : 0 + 0 ≤ 0 := by omega
  have h_2 : 0 + 0 ≤ 0 := by omega
  refine va_calli (va_runS (As := [.ref b0, .ref b1]) (rest := []) ⟨hx, hb, hml, hown, hts⟩ (c_J1_equals_b5fdf l D E H.size (b0) (b1)) (va_cwS 2 hts gJ0_equals_9ea2d_J1_equals_b5fdf rfl rfl rfl (by decide +kernel) ⟨Nat.le_of_ble_eq_true rfl, Nat.le_of_ble_eq_true rfl⟩) ⟨rf_blind _, fun U hU hW => ⟨rfl, rf_pre hK hPc hDc hZ hN hS hFc U hU hW⟩⟩ rfl rfl hl.1 rfl (lv_room (Nat.le_of_ble_eq_true rfl)) dJ0_equals_9ea2d_44 ⟨h_1, h_2⟩) hS (fun q _ h => hFc q h) hFc (fun r u t H1 locs ht hvm hw hB hz1 hk1 hS => ?_)
  obtain ⟨hP1, hD1⟩ := hB
  rw [ht] at hP1
  try dsimp only at hw hP1 hD1
  obtain rfl := hw
  obtain ⟨hP, hD⟩ := va_join (wr := [(h0, .inr (0, [.ref b0, .int 0, v2, v3])), (h1, .inr (0, [.ref b1, .int 0, z2, z3]))]) (w1 := [(b0, .inl (E 0, 200, .inl z0)), (b1, .inl (E 0, 200, .inl z0))]) hP hD [1, 3] [0, 2] rfl rfl (by decide) (by decide) hk1 hFc hP1 hD1
  clear hPc hDc hFc hP1 hD1 hk1 hz1 ht
  generalize H1 = H at hP hS ⊢
  have hP : va_P D vwCl [(h0, .inr (0, [.ref b0, .int 0, v2, v3])), (h1, .inr (0, [.ref b1, .int 0, z2, z3])), (b0, .inl (E 0, 200, .inl z0)), (b1, .inl (E 0, 200, .inl z0))] H := hP
  have hD : va_D A [(h0, .inr (0, [.ref b0, .int 0, v2, v3])), (h1, .inr (0, [.ref b1, .int 0, z2, z3])), (b0, .inl (E 0, 200, .inl z0)), (b1, .inl (E 0, 200, .inl z0))] := hD
  refine lv_if_eq (tgt := 54) hx hb dJ0_equals_9ea2d_47 rfl (fun h => absurd h (by decide)) (fun _ => ?_)
  refine lv_iconst (v := 1) hx hb dJ0_equals_9ea2d_50 (by decide) ?_
  refine lv_goto (tgt := 55) hx hb dJ0_equals_9ea2d_51 rfl ?_
  have hP := hP.sub (ws' := [(h0, .inr (0, [.ref b0, .int 0, v2, v3])), (b0, .inl (E 0, 200, .inl z0)), (h1, .inr (0, [.ref b1, .int 0, z2, z3])), (b1, .inl (E 0, 200, .inl z0))]) [0, 2, 1, 3] rfl
  have hD := hD.sub (ws' := [(h0, .inr (0, [.ref b0, .int 0, v2, v3])), (b0, .inl (E 0, 200, .inl z0)), (h1, .inr (0, [.ref b1, .int 0, z2, z3])), (b1, .inl (E 0, 200, .inl z0))]) [0, 2, 1, 3] (by decide) rfl
  exact W.zret (v := 1) hx hb hr (by decide +kernel) (fun t ht hW => ⟨⟨1, (), rfl, rfl, rf_end ht hP hD⟩, hS.F ht⟩) hS.2.2 dJ0_equals_9ea2d_55
