set_option maxHeartbeats 4000000 in
set_option maxRecDepth 100000 in
/-- coderFromArrayLen: 0 -/
theorem c_J2_coderFromArrayLen_85cad (l : Launch) (D : va_G) (E : Nat → ClassId) (sz : Nat) (b0 n : Nat) (hn : n ≤ 1000) : Met l yJ2_coderFromArrayLen_85cad wsJ2_coderFromArrayLen_85cad ({ frames := 2, cells := 0, slots := 0, locals := 200 }) (va_Pc [.ref b0, .int (nI n)] (rf_P D E [(b0, .inl (E 0, n, .inl z0))] sz)) (va_Qi (fun (r : Int32) (u : Unit) => r = 0) (fun (u : Unit) (t : State) => rf_B D (va_A [(b0, .inl (E 0, n, .inl z0))] sz) [(b0, .inl (E 0, n, .inl z0))] t) (va_A [(b0, .inl (E 0, n, .inl z0))] sz)) 0 0 (va_A [(b0, .inl (E 0, n, .inl z0))] sz) := by
  refine Met.ofW (cc := cJ2_coderFromArrayLen_85cad) (maxL := 2) (ret := (some .byte)) (by decide) rfl ?_
  intro p e s mI args below meth c s₁ B hml hv
  obtain ⟨rfl, hsz, hP, hK, hD0, hZ, hN⟩ := hv
  have hx := B.exec
  have hb := B.bytes
  have hr := B.returns
  have hts := atoms_spec (ws := wsJ2_coderFromArrayLen_85cad) B.pre
  have hown : s.vm.findClass RJ2 = some mI.cls := findClass_of_methodNamed B.named
  have hlocks := B.notSynchronized
  subst hsz
  have hD := hD0.self (sz := s.heap.size)
  generalize hAe : va_A [(b0, .inl (E 0, n, .inl z0))] s.heap.size = A at hD hZ ⊢
  have hA : ∀ q : Nat, s.heap.size ≤ q → A q := fun q h => by rw [← hAe]; exact Or.inr h
  have hS : va_S A s.heap s.heap [] := va_S.rf
  have hl := lv_entry ([.ref b0, .int (nI n)]) (n := 2) (Nat.le_of_ble_eq_true rfl)
  rw [lg_entry_eq]
  generalize (lg_sl ([.ref b0, .int (nI n)]) ++ List.replicate (2 - (lg_sl ([.ref b0, .int (nI n)])).length) Slot.unset).toArray = ls at hl ⊢
  clear hAe hD0
  have hl : lv_has ls 2 [(0, .ref b0), (1, .int (nI n))] := hl
  obtain ⟨H, hH⟩ : ∃ H, H = s.heap := ⟨_, rfl⟩
  rw [← hH] at hP
  have hS : va_S A s.heap H [] := by rw [hH]; exact hS
  refine rf_heap hH ?_
  refine lv_iload_n hx hb dJ2_coderFromArrayLen_85cad_0 rfl (lv_at hl 1 rfl) ?_
  refine lv_aload_n hx hb dJ2_coderFromArrayLen_85cad_1 rfl (lv_at hl 0 rfl) ?_
  refine va_alen (v := nI (n)) hx hb hK hP 0 0 rfl rfl rfl dJ2_coderFromArrayLen_85cad_2 ?_
  refine lv_isub hx hb dJ2_coderFromArrayLen_85cad_3 (lv_topi (fun f1 ef => ?_))
  obtain rfl : f1 = nI (0) := (show f1 = nI (n) - nI (n) from ef).trans ((pk_sub (by omega)).trans (congrArg nI (by omega)))
  refine lv_bipush (v := nI 31) hx hb dJ2_coderFromArrayLen_85cad_4 (by decide) ?_
  refine lv_iushr (v := 0) hx hb dJ2_coderFromArrayLen_85cad_6 (by decide) ?_
  refine lv_i2b (v := 0) hx hb dJ2_coderFromArrayLen_85cad_7 (by decide) ?_
  exact W.zret (v := 0) hx hb hr (by decide +kernel) (fun t ht hW => ⟨⟨0, (), rfl, rfl, rf_end ht hP hD⟩, hS.F ht⟩) hS.2.2 dJ2_coderFromArrayLen_85cad_8
set_option maxHeartbeats 4000000 in
set_option maxRecDepth 100000 in
/-- compress: all -/
theorem c_J2_compress_fe38e (l : Launch) (D : va_G) (E : Nat → ClassId) (sz : Nat) (c0 d0 n : Nat) (hn : n ≤ 200) : Met l yJ2_compress_fe38e wsJ2_compress_fe38e ({ frames := 2, cells := 0, slots := 0, locals := 200 }) (va_Pc [.ref c0, .int (nI 0), .ref d0, .int (nI 0), .int (nI n)] (rf_P D E [(c0, .inl (E 1, n, .inl z0)), (d0, .inl (E 0, n, .inl z0))] sz)) (va_Qi (fun (r : Int32) (u : Unit) => r = nI n) (fun (u : Unit) (t : State) => rf_B D (va_A [(c0, .inl (E 1, n, .inl z0)), (d0, .inl (E 0, n, .inl z0))] sz) [(c0, .inl (E 1, n, .inl z0)), (d0, .inl (E 0, n, .inl z0))] t) (va_A [(c0, .inl (E 1, n, .inl z0)), (d0, .inl (E 0, n, .inl z0))] sz)) 0 0 (va_A [(c0, .inl (E 1, n, .inl z0)), (d0, .inl (E 0, n, .inl z0))] sz) := by
  refine Met.ofW (cc := cJ2_compress_fe38e) (maxL := 7) (ret := (some .int)) (by decide) rfl ?_
  intro p e s mI args below meth c s₁ B hml hv
  obtain ⟨rfl, hsz, hP, hK, hD0, hZ, hN⟩ := hv
  have hx := B.exec
  have hb := B.bytes
  have hr := B.returns
  have hts := atoms_spec (ws := wsJ2_compress_fe38e) B.pre
  have hown : s.vm.findClass RJ2 = some mI.cls := findClass_of_methodNamed B.named
  have hlocks := B.notSynchronized
  subst hsz
  have hD := hD0.self (sz := s.heap.size)
  generalize hAe : va_A [(c0, .inl (E 1, n, .inl z0)), (d0, .inl (E 0, n, .inl z0))] s.heap.size = A at hD hZ ⊢
  have hA : ∀ q : Nat, s.heap.size ≤ q → A q := fun q h => by rw [← hAe]; exact Or.inr h
  have hS : va_S A s.heap s.heap [] := va_S.rf
  have hl := lv_entry ([.ref c0, .int (nI 0), .ref d0, .int (nI 0), .int (nI n)]) (n := 7) (Nat.le_of_ble_eq_true rfl)
  rw [lg_entry_eq]
  generalize (lg_sl ([.ref c0, .int (nI 0), .ref d0, .int (nI 0), .int (nI n)]) ++ List.replicate (7 - (lg_sl ([.ref c0, .int (nI 0), .ref d0, .int (nI 0), .int (nI n)])).length) Slot.unset).toArray = ls at hl ⊢
  clear hAe hD0
  have hl : lv_has ls 7 [(0, .ref c0), (1, .int (nI 0)), (2, .ref d0), (3, .int (nI 0)), (4, .int (nI n))] := hl
  obtain ⟨H, hH⟩ : ∃ H, H = s.heap := ⟨_, rfl⟩
  rw [← hH] at hP
  have hS : va_S A s.heap H [] := by rw [hH]; exact hS
  refine rf_heap hH ?_
  refine lv_iconst (v := nI 0) hx hb dJ2_compress_fe38e_0 (by decide) ?_
  refine lv_istore hx hb dJ2_compress_fe38e_1 hl (Nat.le_of_ble_eq_true rfl) rfl (fun ls hl => ?_)
  have hl : lv_has ls 7 [(5, .int (nI 0)), (0, .ref c0), (1, .int (nI 0)), (2, .ref d0), (3, .int (nI 0)), (4, .int (nI n))] := hl
  have hl : lv_has ls 7 [(0, .ref c0), (1, .int (nI 0)), (2, .ref d0), (3, .int (nI 0)), (4, .int (nI n)), (5, .int (nI 0))] := lv_sub hl [1, 2, 3, 4, 5, 0] rfl
  refine rf_loop (n) 0 0 (fun k H locs ls => lv_has ls 7 [(0, .ref c0), (1, .int (nI (k))), (2, .ref d0), (3, .int (nI (k))), (4, .int (nI n)), (5, .int (nI (k)))] ∧ va_P D vwCl [(c0, .inl (E 1, n, .inl z0)), (d0, .inl (E 0, n, .inl z0))] H ∧ va_D A [(c0, .inl (E 1, n, .inl z0)), (d0, .inl (E 0, n, .inl z0))] ∧ va_S A s.heap H locs) ⟨hl, hP, hD, hS⟩ ?_ ?_
  · intro H locs ls hI
    obtain ⟨hl, hP, hD, hS⟩ := hI
    refine lv_iload hx hb dJ2_compress_fe38e_3 (lv_at hl 5 rfl) ?_
    refine lv_iload hx hb dJ2_compress_fe38e_5 (lv_at hl 4 rfl) ?_
    refine lv_icmp_ge (tgt := 44) hx hb dJ2_compress_fe38e_7 rfl (fun _ => ?_) (fun h => absurd (show nI (n) ≤ nI (n) from nI_le (by omega) (by omega)) h)
    refine lv_iload hx hb dJ2_compress_fe38e_44 (lv_at hl 4 rfl) ?_
    refine W.widen (k := 0) (n := 0) (by omega) (by omega) ?_
    have hP := hP.sub (ws' := [(c0, .inl (E 1, n, .inl z0)), (d0, .inl (E 0, n, .inl z0))]) [0, 1] rfl
    have hD := hD.sub (ws' := [(c0, .inl (E 1, n, .inl z0)), (d0, .inl (E 0, n, .inl z0))]) [0, 1] (by decide) rfl
    exact W.iret (v := nI n) hx hb hr (fun t ht hW => ⟨⟨nI n, (), rfl, rfl, rf_end ht hP hD⟩, hS.F ht⟩) hS.2.2 dJ2_compress_fe38e_46
  · intro k H locs ls hkN hI kk
    obtain ⟨hl, hP, hD, hS⟩ := hI
    refine lv_iload hx hb dJ2_compress_fe38e_3 (lv_at hl 5 rfl) ?_
    refine lv_iload hx hb dJ2_compress_fe38e_5 (lv_at hl 4 rfl) ?_
    refine lv_icmp_ge (tgt := 44) hx hb dJ2_compress_fe38e_7 rfl (fun h => absurd h (show ¬ nI (n) ≤ nI (k) from nI_ge (by omega) (by omega))) (fun _ => ?_)
    refine lv_aload_n hx hb dJ2_compress_fe38e_10 rfl (lv_at hl 0 rfl) ?_
    refine lv_iload_n hx hb dJ2_compress_fe38e_11 rfl (lv_at hl 1 rfl) ?_
    refine va_cald hx hb hK hP 0 1 rfl rfl (vp_in_nI (by omega) (by omega)) dJ2_compress_fe38e_12 (W.eq (g2 := F0 mI 13 ls (.int 0 :: [])) rfl ?_)
    refine lv_istore hx hb dJ2_compress_fe38e_13 hl (Nat.le_of_ble_eq_true rfl) rfl (fun ls hl => ?_)
    have hl : lv_has ls 7 [(6, .int (0)), (0, .ref c0), (1, .int (nI (k))), (2, .ref d0), (3, .int (nI (k))), (4, .int (nI n)), (5, .int (nI (k)))] := hl
    refine lv_iload hx hb dJ2_compress_fe38e_15 (lv_at hl 0 rfl) ?_
    refine lv_sipush (v := nI 255) hx hb dJ2_compress_fe38e_17 (by decide) ?_
    refine lv_icmp_le (tgt := 26) hx hb dJ2_compress_fe38e_20 rfl (fun _ => ?_) (fun h => absurd (by decide) h)
    refine lv_aload_n hx hb dJ2_compress_fe38e_26 rfl (lv_at hl 3 rfl) ?_
    refine lv_iload_n hx hb dJ2_compress_fe38e_27 rfl (lv_at hl 4 rfl) ?_
    refine lv_iload hx hb dJ2_compress_fe38e_28 (lv_at hl 0 rfl) ?_
    refine lv_i2b (v := 0) hx hb dJ2_compress_fe38e_30 (by decide) ?_
    refine va_bast hx hb hK hP hD hS 1 0 rfl rfl (vp_in_nI (by omega) (by omega)) dJ2_compress_fe38e_31 (fun H locs hP hD hS => ?_)
    rw [rf_ub] at hP hD
    have hP : va_P D vwCl [(c0, .inl (E 1, n, .inl z0)), (d0, .inl (E 0, n, .inl z0))] H := hP
    have hD : va_D A [(c0, .inl (E 1, n, .inl z0)), (d0, .inl (E 0, n, .inl z0))] := hD
    refine lv_iinc (v := nI (k + 1)) hx hb dJ2_compress_fe38e_32 hl (k := 2) rfl ((show nI (k) + Int32.ofInt 1 = nI (k) + nI 1 from rfl).trans ((nI_add _ _).trans (congrArg nI (by omega)))) (Nat.le_of_ble_eq_true rfl) rfl (fun ls hl => ?_)
    have hl : lv_has ls 7 [(1, .int (nI (k + 1))), (6, .int (0)), (0, .ref c0), (2, .ref d0), (3, .int (nI (k))), (4, .int (nI n)), (5, .int (nI (k)))] := hl
    refine lv_iinc (v := nI (k + 1)) hx hb dJ2_compress_fe38e_35 hl (k := 4) rfl ((show nI (k) + Int32.ofInt 1 = nI (k) + nI 1 from rfl).trans ((nI_add _ _).trans (congrArg nI (by omega)))) (Nat.le_of_ble_eq_true rfl) rfl (fun ls hl => ?_)
    have hl : lv_has ls 7 [(3, .int (nI (k + 1))), (1, .int (nI (k + 1))), (6, .int (0)), (0, .ref c0), (2, .ref d0), (4, .int (nI n)), (5, .int (nI (k)))] := hl
    refine lv_iinc (v := nI (k + 1)) hx hb dJ2_compress_fe38e_38 hl (k := 6) rfl ((show nI (k) + Int32.ofInt 1 = nI (k) + nI 1 from rfl).trans ((nI_add _ _).trans (congrArg nI (by omega)))) (Nat.le_of_ble_eq_true rfl) rfl (fun ls hl => ?_)
    have hl : lv_has ls 7 [(5, .int (nI (k + 1))), (3, .int (nI (k + 1))), (1, .int (nI (k + 1))), (6, .int (0)), (0, .ref c0), (2, .ref d0), (4, .int (nI n))] := hl
    have hl : lv_has ls 7 [(0, .ref c0), (1, .int (nI (k + 1))), (2, .ref d0), (3, .int (nI (k + 1))), (4, .int (nI n)), (5, .int (nI (k + 1)))] := lv_sub hl [4, 2, 5, 1, 6, 0] rfl
    refine lv_goto (tgt := 3) hx hb dJ2_compress_fe38e_41 rfl ?_
    refine W.widen (k := 0 + (k + 1) * 0) (n := 0 + (k + 1) * 0) (by omega) (by omega) ?_
    exact kk _ _ _ ⟨hl, hP, hD, hS⟩
set_option maxHeartbeats 4000000 in
set_option maxRecDepth 100000 in
/-- compress(char[], 0, n) -/
theorem c_J2_compress_dfd3c (l : Launch) (D : va_G) (E : Nat → ClassId) (sz : Nat) (c0 n : Nat) (hn : n ≤ 200) : Met l yJ2_compress_dfd3c wsJ2_compress_dfd3c ({ frames := 3, cells := 1, slots := 200, locals := 400 }) (va_Pc [.ref c0, .int (nI 0), .int (nI n)] (rf_P D E [(c0, .inl (E 1, n, .inl z0))] sz)) (va_Qr (fun (u : Unit) => True) (fun (u : Unit) (ra : Nat) (t : State) => rf_B D (va_A [(c0, .inl (E 1, n, .inl z0))] sz) [(c0, .inl (E 1, n, .inl z0)), (ra, .inl (E 0, n, .inl z0))] t) (va_A [(c0, .inl (E 1, n, .inl z0))] sz)) 1 200 (va_A [(c0, .inl (E 1, n, .inl z0))] sz) := by
  refine Met.ofW (cc := cJ2_compress_dfd3c) (maxL := 6) (ret := (some (.array .byte))) (by decide) rfl ?_
  intro p e s mI args below meth c s₁ B hml hv
  obtain ⟨rfl, hsz, hP, hK, hD0, hZ, hN⟩ := hv
  have hx := B.exec
  have hb := B.bytes
  have hr := B.returns
  have hts := atoms_spec (ws := wsJ2_compress_dfd3c) B.pre
  have hown : s.vm.findClass RJ2 = some mI.cls := findClass_of_methodNamed B.named
  have hlocks := B.notSynchronized
  subst hsz
  have hD := hD0.self (sz := s.heap.size)
  generalize hAe : va_A [(c0, .inl (E 1, n, .inl z0))] s.heap.size = A at hD hZ ⊢
  have hA : ∀ q : Nat, s.heap.size ≤ q → A q := fun q h => by rw [← hAe]; exact Or.inr h
  have hS : va_S A s.heap s.heap [] := va_S.rf
  have hl := lv_entry ([.ref c0, .int (nI 0), .int (nI n)]) (n := 6) (Nat.le_of_ble_eq_true rfl)
  rw [lg_entry_eq]
  generalize (lg_sl ([.ref c0, .int (nI 0), .int (nI n)]) ++ List.replicate (6 - (lg_sl ([.ref c0, .int (nI 0), .int (nI n)])).length) Slot.unset).toArray = ls at hl ⊢
  clear hAe hD0
  have hl : lv_has ls 6 [(0, .ref c0), (1, .int (nI 0)), (2, .int (nI n))] := hl
  obtain ⟨H, hH⟩ : ∃ H, H = s.heap := ⟨_, rfl⟩
  rw [← hH] at hP
  have hS : va_S A s.heap H [] := by rw [hH]; exact hS
  refine rf_heap hH ?_
  refine lv_iload_n hx hb dJ2_compress_dfd3c_0 rfl (lv_at hl 2 rfl) ?_
  have h_1 : 0 + 1 ≤ 1 := by omega
  have h_2 : 0 + (n) ≤ 200 := by omega
  refine va_newa (atype := .byte) (N' := n) (a0 := (n, .inl z0)) hx hb (hts (.arrayClass .byte) (by decide +kernel)) rfl hK hP hD hS hA (fun _ => rfl) (nI_pos (by omega)) (nI_clamp (by omega)) (Nat.le_trans (Nat.mul_le_mul_right _ (show n ≤ 200 by omega)) (Nat.le_of_ble_eq_true rfl)) h_1 h_2 dJ2_compress_dfd3c_1 (fun q1 cA H hK2 hP hD hS => ?_)
  obtain rfl := rf_byte hK2
  have hP : va_P D vwCl [(c0, .inl (E 1, n, .inl z0)), (q1, .inl (E 0, n, .inl z0))] H := hP
  have hD : va_D A [(c0, .inl (E 1, n, .inl z0)), (q1, .inl (E 0, n, .inl z0))] := hD
  refine W.widen (k := 1) (n := 200) (by omega) (by omega) ?_
  refine lv_astore_n hx hb dJ2_compress_dfd3c_3 rfl hl (Nat.le_of_ble_eq_true rfl) rfl (fun ls hl => ?_)
  have hl : lv_has ls 6 [(3, .ref q1), (0, .ref c0), (1, .int (nI 0)), (2, .int (nI n))] := hl
  refine lv_aload_n hx hb dJ2_compress_dfd3c_4 rfl (lv_at hl 1 rfl) ?_
  refine lv_iload_n hx hb dJ2_compress_dfd3c_5 rfl (lv_at hl 2 rfl) ?_
  refine lv_aload_n hx hb dJ2_compress_dfd3c_6 rfl (lv_at hl 0 rfl) ?_
  refine lv_iconst (v := nI 0) hx hb dJ2_compress_dfd3c_7 (by decide) ?_
  refine lv_iload_n hx hb dJ2_compress_dfd3c_8 rfl (lv_at hl 3 rfl) ?_
  have hPc := hP.sub (ws' := [(c0, .inl (E 1, n, .inl z0)), (q1, .inl (E 0, n, .inl z0))]) [0, 1] rfl
  have hDc := hD.sub (ws' := [(c0, .inl (E 1, n, .inl z0)), (q1, .inl (E 0, n, .inl z0))]) [0, 1] (by decide) rfl
  have hFc := va_free (wc := [(c0, .inl (E 1, n, .inl z0)), (q1, .inl (E 0, n, .inl z0))]) hD hS hA [0, 1] rfl
  have h_1 : 1 + 0 ≤ 1 := by omega
  have h_2 : 200 + 0 ≤ 200 := by omega
  refine va_calli (va_runS (As := [.ref c0, .int (nI 0), .ref q1, .int (nI 0), .int (nI n)]) (rest := []) ⟨hx, hb, hml, hown, hts⟩ (c_J2_compress_fe38e l D E H.size (c0) (q1) (n) (by omega)) (va_cwS 5 hts gJ2_compress_dfd3c_J2_compress_fe38e rfl rfl rfl (by decide +kernel) ⟨Nat.le_of_ble_eq_true rfl, Nat.le_of_ble_eq_true rfl⟩) ⟨rf_blind _, fun U hU hW => ⟨rfl, rf_pre hK hPc hDc hZ hN hS hFc U hU hW⟩⟩ rfl rfl hl.1 rfl (lv_room (Nat.le_of_ble_eq_true rfl)) dJ2_compress_dfd3c_9 ⟨h_1, h_2⟩) hS (fun q _ h => hFc q h) hFc (fun r u t H1 locs ht hvm hw hB hz1 hk1 hS => ?_)
  obtain ⟨hP1, hD1⟩ := hB
  rw [ht] at hP1
  try dsimp only at hw hP1 hD1
  obtain rfl := hw
  obtain ⟨hP, hD⟩ := va_join (wr := []) (w1 := [(c0, .inl (E 1, n, .inl z0)), (q1, .inl (E 0, n, .inl z0))]) hP hD [0, 1] [] rfl rfl (by decide) (by decide) hk1 hFc hP1 hD1
  clear hPc hDc hFc hP1 hD1 hk1 hz1 ht
  generalize H1 = H at hP hS ⊢
  have hP : va_P D vwCl [(c0, .inl (E 1, n, .inl z0)), (q1, .inl (E 0, n, .inl z0))] H := hP
  have hD : va_D A [(c0, .inl (E 1, n, .inl z0)), (q1, .inl (E 0, n, .inl z0))] := hD
  refine lv_istore hx hb dJ2_compress_dfd3c_12 hl (Nat.le_of_ble_eq_true rfl) rfl (fun ls hl => ?_)
  have hl : lv_has ls 6 [(4, .int (nI (n))), (3, .ref q1), (0, .ref c0), (1, .int (nI 0)), (2, .int (nI n))] := hl
  refine lv_iload hx hb dJ2_compress_dfd3c_14 (lv_at hl 0 rfl) ?_
  refine lv_iload_n hx hb dJ2_compress_dfd3c_16 rfl (lv_at hl 4 rfl) ?_
  refine lv_icmp_eq (tgt := 57) hx hb dJ2_compress_dfd3c_17 rfl (fun _ => ?_) (fun h => absurd (show nI (n) = nI (n) from congrArg nI (by omega)) h)
  refine lv_aload_n hx hb dJ2_compress_dfd3c_57 rfl (lv_at hl 1 rfl) ?_
  exact W.aret (v := .ref q1) hx hb hr (Or.inr ⟨_, rfl⟩) (Or.inr ⟨_, rfl⟩) (fun t ht hW => ⟨⟨(), q1, rfl, trivial, rf_end ht hP hD⟩, hS.F ht⟩) hS.2.2 dJ2_compress_dfd3c_58
set_option maxHeartbeats 4000000 in
set_option maxRecDepth 100000 in
/-- String(char[], 0, n, null) -/
theorem c_J0_init_bb550 (l : Launch) (D : va_G) (E : Nat → ClassId) (sz : Nat) (h0 c0 n : Nat) (hn : n ≤ 200) (h1 : 0 < n) : Met l yJ0_init_bb550 wsJ0_init_bb550 ({ frames := 4, cells := 1, slots := 200, locals := 600 }) (va_Pc [.ref h0, .ref c0, .int (nI 0), .int (nI n), .null] (rf_P D E [(h0, .inr (0, [.null, .int 0, .int 0, .int 0])), (c0, .inl (E 1, n, .inl z0))] sz)) (va_Qv (fun (u : Nat) => True) (fun (u : Nat) (t : State) => rf_B D (va_A [(h0, .inr (0, [.null, .int 0, .int 0, .int 0])), (c0, .inl (E 1, n, .inl z0))] sz) [(h0, .inr (0, [.ref u, .int 0, .int 0, .int 0])), (u, .inl (E 0, n, .inl z0)), (c0, .inl (E 1, n, .inl z0))] t) (va_A [(h0, .inr (0, [.null, .int 0, .int 0, .int 0])), (c0, .inl (E 1, n, .inl z0))] sz)) 1 200 (va_A [(h0, .inr (0, [.null, .int 0, .int 0, .int 0])), (c0, .inl (E 1, n, .inl z0))] sz) := by
  refine Met.ofW (cc := cJ0_init_bb550) (maxL := 6) (ret := none) (by decide) rfl ?_
  intro p e s mI args below meth c s₁ B hml hv
  obtain ⟨rfl, hsz, hP, hK, hD0, hZ, hN⟩ := hv
  have hx := B.exec
  have hb := B.bytes
  have hr := B.returns
  have hts := atoms_spec (ws := wsJ0_init_bb550) B.pre
  have hown : s.vm.findClass RJ0 = some mI.cls := findClass_of_methodNamed B.named
  have hlocks := B.notSynchronized
  have hin : meth.name = "<init>" := (name_of_methodNamed B.named B.method).1
  subst hsz
  have hD := hD0.self (sz := s.heap.size)
  generalize hAe : va_A [(h0, .inr (0, [.null, .int 0, .int 0, .int 0])), (c0, .inl (E 1, n, .inl z0))] s.heap.size = A at hD hZ ⊢
  have hA : ∀ q : Nat, s.heap.size ≤ q → A q := fun q h => by rw [← hAe]; exact Or.inr h
  have hS : va_S A s.heap s.heap [] := va_S.rf
  have hl := lv_entry ([.ref h0, .ref c0, .int (nI 0), .int (nI n), .null]) (n := 6) (Nat.le_of_ble_eq_true rfl)
  rw [lg_entry_eq]
  generalize (lg_sl ([.ref h0, .ref c0, .int (nI 0), .int (nI n), .null]) ++ List.replicate (6 - (lg_sl ([.ref h0, .ref c0, .int (nI 0), .int (nI n), .null])).length) Slot.unset).toArray = ls at hl ⊢
  clear hAe hD0
  have hl : lv_has ls 6 [(0, .ref h0), (1, .ref c0), (2, .int (nI 0)), (3, .int (nI n)), (4, .null)] := hl
  obtain ⟨H, hH⟩ : ∃ H, H = s.heap := ⟨_, rfl⟩
  rw [← hH] at hP
  have hS : va_S A s.heap H [] := by rw [hH]; exact hS
  refine rf_heap hH ?_
  refine lv_aload_n hx hb dJ0_init_bb550_0 rfl (lv_at hl 0 rfl) ?_
  refine W.objInit hx hb hown (hts (.methodLink RJ0 1 objectInit) (by decide +kernel)) (hts (.instanceMethod objectInit) (by decide +kernel)) (hts (.code objectInit ⟨#[0xb1]⟩ 1 none) (by decide +kernel)) rfl (by rw [hml]; exact hl.1) rfl dJ0_init_bb550_1 (Nat.le_of_ble_eq_true rfl) (Nat.le_of_ble_eq_true rfl) ?_
  refine W.eq (g2 := F0 mI 4 ls []) rfl ?_
  refine lv_iload_n hx hb dJ0_init_bb550_4 rfl (lv_at hl 3 rfl) ?_
  refine lv_if_ne (tgt := 27) hx hb dJ0_init_bb550_5 rfl (fun _ => ?_) (fun h => absurd h (nI_ne0 (by omega) (by omega)))
  refine va_gets hx hb hZ hS hown (hts (.fieldLink RJ0 38 "java/lang/String" "COMPACT_STRINGS" "Z") (by decide +kernel)) (fun _ h9 => h9) dJ0_init_bb550_27 ?_
  refine lv_if_eq (tgt := 58) hx hb dJ0_init_bb550_30 rfl (fun h => absurd h (by decide)) (fun _ => ?_)
  refine lv_aload_n hx hb dJ0_init_bb550_33 rfl (lv_at hl 1 rfl) ?_
  refine lv_iload_n hx hb dJ0_init_bb550_34 rfl (lv_at hl 2 rfl) ?_
  refine lv_iload_n hx hb dJ0_init_bb550_35 rfl (lv_at hl 3 rfl) ?_
  have hPc := hP.sub (ws' := [(c0, .inl (E 1, n, .inl z0))]) [1] rfl
  have hDc := hD.sub (ws' := [(c0, .inl (E 1, n, .inl z0))]) [1] (by decide) rfl
  have hFc := va_free (wc := [(c0, .inl (E 1, n, .inl z0))]) hD hS hA [1] rfl
  have h_1 : 0 + 1 ≤ 1 := by omega
  have h_2 : 0 + 200 ≤ 200 := by omega
  refine va_callr (va_runS (As := [.ref c0, .int (nI 0), .int (nI n)]) (rest := []) ⟨hx, hb, hml, hown, hts⟩ (c_J2_compress_dfd3c l D E H.size (c0) (n) (by omega)) (va_cwS 3 hts gJ0_init_bb550_J2_compress_dfd3c rfl rfl rfl (by decide +kernel) ⟨Nat.le_of_ble_eq_true rfl, Nat.le_of_ble_eq_true rfl⟩) ⟨rf_blind _, fun U hU hW => ⟨rfl, rf_pre hK hPc hDc hZ hN hS hFc U hU hW⟩⟩ rfl rfl hl.1 rfl (lv_room (Nat.le_of_ble_eq_true rfl)) dJ0_init_bb550_36 ⟨h_1, h_2⟩) hS (fun q _ h => hFc q h) hFc (fun u ra t H1 locs ht hvm hw hB hz1 hk1 hS => ?_)
  obtain ⟨hP1, hD1⟩ := hB
  rw [ht] at hP1
  try dsimp only at hw hP1 hD1
  obtain ⟨hP, hD⟩ := va_join (wr := [(h0, .inr (0, [.null, .int 0, .int 0, .int 0]))]) (w1 := [(c0, .inl (E 1, n, .inl z0)), (ra, .inl (E 0, n, .inl z0))]) hP hD [1] [0] rfl rfl (by decide) (by decide) hk1 hFc hP1 hD1
  clear hPc hDc hFc hP1 hD1 hk1 hz1 ht
  generalize H1 = H at hP hS ⊢
  have hP : va_P D vwCl [(h0, .inr (0, [.null, .int 0, .int 0, .int 0])), (c0, .inl (E 1, n, .inl z0)), (ra, .inl (E 0, n, .inl z0))] H := hP
  have hD : va_D A [(h0, .inr (0, [.null, .int 0, .int 0, .int 0])), (c0, .inl (E 1, n, .inl z0)), (ra, .inl (E 0, n, .inl z0))] := hD
  refine W.widen (k := 1) (n := 200) (by omega) (by omega) ?_
  refine lv_astore hx hb dJ0_init_bb550_39 hl (Nat.le_of_ble_eq_true rfl) rfl (fun ls hl => ?_)
  have hl : lv_has ls 6 [(5, .ref ra), (0, .ref h0), (1, .ref c0), (2, .int (nI 0)), (3, .int (nI n)), (4, .null)] := hl
  refine lv_aload_n hx hb dJ0_init_bb550_41 rfl (lv_at hl 1 rfl) ?_
  refine lv_aload hx hb dJ0_init_bb550_42 (lv_at hl 0 rfl) ?_
  refine lv_iload_n hx hb dJ0_init_bb550_44 rfl (lv_at hl 4 rfl) ?_
  have hPc := hP.sub (ws' := [(ra, .inl (E 0, n, .inl z0))]) [2] rfl
  have hDc := hD.sub (ws' := [(ra, .inl (E 0, n, .inl z0))]) [2] (by decide) rfl
  have hFc := va_free (wc := [(ra, .inl (E 0, n, .inl z0))]) hD hS hA [2] rfl
  have h_1 : 1 + 0 ≤ 1 := by omega
  have h_2 : 200 + 0 ≤ 200 := by omega
  refine va_calli (va_runS (As := [.ref ra, .int (nI n)]) (rest := [.ref h0]) ⟨hx, hb, hml, hown, hts⟩ (c_J2_coderFromArrayLen_85cad l D E H.size (ra) (n) (by omega)) (va_cwS 2 hts gJ0_init_bb550_J2_coderFromArrayLen_85cad rfl rfl rfl (by decide +kernel) ⟨Nat.le_of_ble_eq_true rfl, Nat.le_of_ble_eq_true rfl⟩) ⟨rf_blind _, fun U hU hW => ⟨rfl, rf_pre hK hPc hDc hZ hN hS hFc U hU hW⟩⟩ rfl rfl hl.1 rfl (lv_room (Nat.le_of_ble_eq_true rfl)) dJ0_init_bb550_45 ⟨h_1, h_2⟩) hS (fun q _ h => hFc q h) hFc (fun r u t H1 locs ht hvm hw hB hz1 hk1 hS => ?_)
  obtain ⟨hP1, hD1⟩ := hB
  rw [ht] at hP1
  try dsimp only at hw hP1 hD1
  obtain rfl := hw
  obtain ⟨hP, hD⟩ := va_join (wr := [(h0, .inr (0, [.null, .int 0, .int 0, .int 0])), (c0, .inl (E 1, n, .inl z0))]) (w1 := [(ra, .inl (E 0, n, .inl z0))]) hP hD [2] [0, 1] rfl rfl (by decide) (by decide) hk1 hFc hP1 hD1
  clear hPc hDc hFc hP1 hD1 hk1 hz1 ht
  generalize H1 = H at hP hS ⊢
  have hP : va_P D vwCl [(h0, .inr (0, [.null, .int 0, .int 0, .int 0])), (c0, .inl (E 1, n, .inl z0)), (ra, .inl (E 0, n, .inl z0))] H := hP
  have hD : va_D A [(h0, .inr (0, [.null, .int 0, .int 0, .int 0])), (c0, .inl (E 1, n, .inl z0)), (ra, .inl (E 0, n, .inl z0))] := hD
  refine va_putF (D := D) (ci := 0) (v := .int (0)) (ty := .byte) (C := RJ0) (T := TJ0) (N := 4) hx hb hts (by decide +kernel) tyJ0 tyJ0_ok nmJ0 hown hK hP hD hS 0 rfl rfl 1 (by decide) (hts (.fieldLink RJ0 15 "java/lang/String" "coder" "B") (by decide +kernel)) (fun _ h9 => h9) rfl hin rfl (by decide +kernel) rfl rfl (Nat.le_of_ble_eq_true rfl) dJ0_init_bb550_48 (fun H locs hP hD hS => ?_)
  have hP : va_P D vwCl [(h0, .inr (0, [.null, .int (0), .int 0, .int 0])), (c0, .inl (E 1, n, .inl z0)), (ra, .inl (E 0, n, .inl z0))] H := hP
  have hD : va_D A [(h0, .inr (0, [.null, .int (0), .int 0, .int 0])), (c0, .inl (E 1, n, .inl z0)), (ra, .inl (E 0, n, .inl z0))] := hD
  refine lv_aload_n hx hb dJ0_init_bb550_51 rfl (lv_at hl 1 rfl) ?_
  refine lv_aload hx hb dJ0_init_bb550_52 (lv_at hl 0 rfl) ?_
  refine va_putF (D := D) (ci := 0) (v := .ref ra) (ty := .array .byte) (C := RJ0) (T := TJ0) (N := 4) hx hb hts (by decide +kernel) tyJ0 tyJ0_ok nmJ0 hown hK hP hD hS 0 rfl rfl 0 (by decide) (hts (.fieldLink RJ0 9 "java/lang/String" "value" "[B") (by decide +kernel)) (fun _ h9 => h9) rfl hin rfl (by decide +kernel) rfl rfl (Nat.le_of_ble_eq_true rfl) dJ0_init_bb550_54 (fun H locs hP hD hS => ?_)
  have hP : va_P D vwCl [(h0, .inr (0, [.ref ra, .int (0), .int 0, .int 0])), (c0, .inl (E 1, n, .inl z0)), (ra, .inl (E 0, n, .inl z0))] H := hP
  have hD : va_D A [(h0, .inr (0, [.ref ra, .int (0), .int 0, .int 0])), (c0, .inl (E 1, n, .inl z0)), (ra, .inl (E 0, n, .inl z0))] := hD
  have hP := hP.sub (ws' := [(h0, .inr (0, [.ref ra, .int 0, .int 0, .int 0])), (ra, .inl (E 0, n, .inl z0)), (c0, .inl (E 1, n, .inl z0))]) [0, 2, 1] rfl
  have hD := hD.sub (ws' := [(h0, .inr (0, [.ref ra, .int 0, .int 0, .int 0])), (ra, .inl (E 0, n, .inl z0)), (c0, .inl (E 1, n, .inl z0))]) [0, 2, 1] (by decide) rfl
  exact W.vret hx hb hr (fun t ht hW => ⟨⟨ra, rfl, trivial, rf_end ht hP hD⟩, hS.F ht⟩) hS.2.2 dJ0_init_bb550_57
set_option maxHeartbeats 4000000 in
set_option maxRecDepth 100000 in
/-- String(char[]) -/
theorem c_J0_init_905df (l : Launch) (D : va_G) (E : Nat → ClassId) (sz : Nat) (h0 c0 n : Nat) (hn : n ≤ 200) (h1 : 0 < n) : Met l yJ0_init_905df wsJ0_init_905df ({ frames := 5, cells := 1, slots := 200, locals := 800 }) (va_Pc [.ref h0, .ref c0] (rf_P D E [(h0, .inr (0, [.null, .int 0, .int 0, .int 0])), (c0, .inl (E 1, n, .inl z0))] sz)) (va_Qv (fun (u : Nat) => True) (fun (u : Nat) (t : State) => rf_B D (va_A [(h0, .inr (0, [.null, .int 0, .int 0, .int 0])), (c0, .inl (E 1, n, .inl z0))] sz) [(h0, .inr (0, [.ref u, .int 0, .int 0, .int 0])), (u, .inl (E 0, n, .inl z0)), (c0, .inl (E 1, n, .inl z0))] t) (va_A [(h0, .inr (0, [.null, .int 0, .int 0, .int 0])), (c0, .inl (E 1, n, .inl z0))] sz)) 1 200 (va_A [(h0, .inr (0, [.null, .int 0, .int 0, .int 0])), (c0, .inl (E 1, n, .inl z0))] sz) := by
  refine Met.ofW (cc := cJ0_init_905df) (maxL := 2) (ret := none) (by decide) rfl ?_
  intro p e s mI args below meth c s₁ B hml hv
  obtain ⟨rfl, hsz, hP, hK, hD0, hZ, hN⟩ := hv
  have hx := B.exec
  have hb := B.bytes
  have hr := B.returns
  have hts := atoms_spec (ws := wsJ0_init_905df) B.pre
  have hown : s.vm.findClass RJ0 = some mI.cls := findClass_of_methodNamed B.named
  have hlocks := B.notSynchronized
  have hin : meth.name = "<init>" := (name_of_methodNamed B.named B.method).1
  subst hsz
  have hD := hD0.self (sz := s.heap.size)
  generalize hAe : va_A [(h0, .inr (0, [.null, .int 0, .int 0, .int 0])), (c0, .inl (E 1, n, .inl z0))] s.heap.size = A at hD hZ ⊢
  have hA : ∀ q : Nat, s.heap.size ≤ q → A q := fun q h => by rw [← hAe]; exact Or.inr h
  have hS : va_S A s.heap s.heap [] := va_S.rf
  have hl := lv_entry ([.ref h0, .ref c0]) (n := 2) (Nat.le_of_ble_eq_true rfl)
  rw [lg_entry_eq]
  generalize (lg_sl ([.ref h0, .ref c0]) ++ List.replicate (2 - (lg_sl ([.ref h0, .ref c0])).length) Slot.unset).toArray = ls at hl ⊢
  clear hAe hD0
  have hl : lv_has ls 2 [(0, .ref h0), (1, .ref c0)] := hl
  obtain ⟨H, hH⟩ : ∃ H, H = s.heap := ⟨_, rfl⟩
  rw [← hH] at hP
  have hS : va_S A s.heap H [] := by rw [hH]; exact hS
  refine rf_heap hH ?_
  refine lv_aload_n hx hb dJ0_init_905df_0 rfl (lv_at hl 0 rfl) ?_
  refine lv_aload_n hx hb dJ0_init_905df_1 rfl (lv_at hl 1 rfl) ?_
  refine lv_iconst (v := nI 0) hx hb dJ0_init_905df_2 (by decide) ?_
  refine lv_aload_n hx hb dJ0_init_905df_3 rfl (lv_at hl 1 rfl) ?_
  refine va_alen (v := nI (n)) hx hb hK hP 1 1 rfl rfl rfl dJ0_init_905df_4 ?_
  refine lv_null hx hb dJ0_init_905df_5 ?_
  have hPc := hP.sub (ws' := [(h0, .inr (0, [.null, .int 0, .int 0, .int 0])), (c0, .inl (E 1, n, .inl z0))]) [0, 1] rfl
  have hDc := hD.sub (ws' := [(h0, .inr (0, [.null, .int 0, .int 0, .int 0])), (c0, .inl (E 1, n, .inl z0))]) [0, 1] (by decide) rfl
  have hFc := va_free (wc := [(h0, .inr (0, [.null, .int 0, .int 0, .int 0])), (c0, .inl (E 1, n, .inl z0))]) hD hS hA [0, 1] rfl
  have h_1 : 0 + 1 ≤ 1 := by omega
  have h_2 : 0 + 200 ≤ 200 := by omega
  refine va_callv (va_runI (As := [.ref c0, .int (nI 0), .int (nI (n)), .null]) (rest := []) ⟨hx, hb, hml, hown, hts⟩ (c_J0_init_bb550 l D E H.size (h0) (c0) (n) (by omega) (by omega)) (cwI 4 hts gJ0_init_905df_J0_init_bb550 rfl rfl rfl (hts (.initialized RJ0) (by decide +kernel)) (hts (.methodLink RJ0 27 yJ0_init_bb550) (by decide +kernel)) (hts (.instanceMethod yJ0_init_bb550) (by decide +kernel)) rfl (by decide +kernel) ⟨Nat.le_of_ble_eq_true rfl, Nat.le_of_ble_eq_true rfl⟩) ⟨rf_blind _, fun U hU hW => ⟨rfl, rf_pre hK hPc hDc hZ hN hS hFc U hU hW⟩⟩ rfl rfl hl.1 rfl (lv_room (Nat.le_of_ble_eq_true rfl)) dJ0_init_905df_6 ⟨h_1, h_2⟩) hS (fun q _ h => hFc q h) hFc (fun u t H1 locs ht hvm hw hB hz1 hk1 hS => ?_)
  obtain ⟨hP1, hD1⟩ := hB
  rw [ht] at hP1
  try dsimp only at hw hP1 hD1
  obtain ⟨hP, hD⟩ := va_join (wr := []) (w1 := [(h0, .inr (0, [.ref u, .int 0, .int 0, .int 0])), (u, .inl (E 0, n, .inl z0)), (c0, .inl (E 1, n, .inl z0))]) hP hD [0, 1] [] rfl rfl (by decide) (by decide) hk1 hFc hP1 hD1
  clear hPc hDc hFc hP1 hD1 hk1 hz1 ht
  generalize H1 = H at hP hS ⊢
  have hP : va_P D vwCl [(h0, .inr (0, [.ref u, .int 0, .int 0, .int 0])), (u, .inl (E 0, n, .inl z0)), (c0, .inl (E 1, n, .inl z0))] H := hP
  have hD : va_D A [(h0, .inr (0, [.ref u, .int 0, .int 0, .int 0])), (u, .inl (E 0, n, .inl z0)), (c0, .inl (E 1, n, .inl z0))] := hD
  refine W.widen (k := 1) (n := 200) (by omega) (by omega) ?_
  have hP := hP.sub (ws' := [(h0, .inr (0, [.ref u, .int 0, .int 0, .int 0])), (u, .inl (E 0, n, .inl z0)), (c0, .inl (E 1, n, .inl z0))]) [0, 1, 2] rfl
  have hD := hD.sub (ws' := [(h0, .inr (0, [.ref u, .int 0, .int 0, .int 0])), (u, .inl (E 0, n, .inl z0)), (c0, .inl (E 1, n, .inl z0))]) [0, 1, 2] (by decide) rfl
  exact W.vret hx hb hr (fun t ht hW => ⟨⟨u, rfl, trivial, rf_end ht hP hD⟩, hS.F ht⟩) hS.2.2 dJ0_init_905df_9
set_option maxHeartbeats 4000000 in
set_option maxRecDepth 100000 in
/-- checkTape(0) -/
theorem c_X1_checkTape (l : Launch) (D : va_G) (E : Nat → ClassId) (sz : Nat)   : Met l yX1_checkTape wsX1_checkTape ({ frames := 2, cells := 0, slots := 0, locals := 200 }) (va_Pc [.int (nI 0)] (rf_P D E [] sz)) (va_Qv (fun (u : Unit) => True) (fun (u : Unit) (t : State) => rf_B D (va_A [] sz) [] t) (va_A [] sz)) 0 0 (va_A [] sz) := by
  refine Met.ofW (cc := cX1_checkTape) (maxL := 1) (ret := none) (by decide) rfl ?_
  intro p e s mI args below meth c s₁ B hml hv
  obtain ⟨rfl, hsz, hP, hK, hD0, hZ, hN⟩ := hv
  have hx := B.exec
  have hb := B.bytes
  have hr := B.returns
  have hts := atoms_spec (ws := wsX1_checkTape) B.pre
  have hown : s.vm.findClass RX1 = some mI.cls := findClass_of_methodNamed B.named
  have hlocks := B.notSynchronized
  subst hsz
  have hD := hD0.self (sz := s.heap.size)
  generalize hAe : va_A [] s.heap.size = A at hD hZ ⊢
  have hA : ∀ q : Nat, s.heap.size ≤ q → A q := fun q h => by rw [← hAe]; exact Or.inr h
  have hS : va_S A s.heap s.heap [] := va_S.rf
  have hl := lv_entry ([.int (nI 0)]) (n := 1) (Nat.le_of_ble_eq_true rfl)
  rw [lg_entry_eq]
  generalize (lg_sl ([.int (nI 0)]) ++ List.replicate (1 - (lg_sl ([.int (nI 0)])).length) Slot.unset).toArray = ls at hl ⊢
  clear hAe hD0
  have hl : lv_has ls 1 [(0, .int (nI 0))] := hl
  obtain ⟨H, hH⟩ : ∃ H, H = s.heap := ⟨_, rfl⟩
  rw [← hH] at hP
  have hS : va_S A s.heap H [] := by rw [hH]; exact hS
  refine rf_heap hH ?_
  refine lv_iload_n hx hb dX1_checkTape_0 rfl (lv_at hl 0 rfl) ?_
  refine lv_if_lt (tgt := 9) hx hb dX1_checkTape_1 rfl (fun h => absurd h (by decide)) (fun _ => ?_)
  refine lv_iload_n hx hb dX1_checkTape_4 rfl (lv_at hl 0 rfl) ?_
  refine lv_iconst (v := nI 4) hx hb dX1_checkTape_5 (by decide) ?_
  refine lv_icmp_lt (tgt := 19) hx hb dX1_checkTape_6 rfl (fun _ => ?_) (fun h => absurd (by decide) h)
  exact W.vret hx hb hr (fun t ht hW => ⟨⟨(), rfl, trivial, rf_end ht hP hD⟩, hS.F ht⟩) hS.2.2 dX1_checkTape_19
set_option maxHeartbeats 4000000 in
set_option maxRecDepth 100000 in
/-- checkLength(n) -/
theorem c_X1_checkLength (l : Launch) (D : va_G) (E : Nat → ClassId) (sz : Nat) (n : Nat) (hn : n ≤ 200) : Met l yX1_checkLength wsX1_checkLength ({ frames := 2, cells := 0, slots := 0, locals := 200 }) (va_Pc [.int (nI n)] (rf_P D E [] sz)) (va_Qv (fun (u : Unit) => True) (fun (u : Unit) (t : State) => rf_B D (va_A [] sz) [] t) (va_A [] sz)) 0 0 (va_A [] sz) := by
  refine Met.ofW (cc := cX1_checkLength) (maxL := 1) (ret := none) (by decide) rfl ?_
  intro p e s mI args below meth c s₁ B hml hv
  obtain ⟨rfl, hsz, hP, hK, hD0, hZ, hN⟩ := hv
  have hx := B.exec
  have hb := B.bytes
  have hr := B.returns
  have hts := atoms_spec (ws := wsX1_checkLength) B.pre
  have hown : s.vm.findClass RX1 = some mI.cls := findClass_of_methodNamed B.named
  have hlocks := B.notSynchronized
  subst hsz
  have hD := hD0.self (sz := s.heap.size)
  generalize hAe : va_A [] s.heap.size = A at hD hZ ⊢
  have hA : ∀ q : Nat, s.heap.size ≤ q → A q := fun q h => by rw [← hAe]; exact Or.inr h
  have hS : va_S A s.heap s.heap [] := va_S.rf
  have hl := lv_entry ([.int (nI n)]) (n := 1) (Nat.le_of_ble_eq_true rfl)
  rw [lg_entry_eq]
  generalize (lg_sl ([.int (nI n)]) ++ List.replicate (1 - (lg_sl ([.int (nI n)])).length) Slot.unset).toArray = ls at hl ⊢
  clear hAe hD0
  have hl : lv_has ls 1 [(0, .int (nI n))] := hl
  obtain ⟨H, hH⟩ : ∃ H, H = s.heap := ⟨_, rfl⟩
  rw [← hH] at hP
  have hS : va_S A s.heap H [] := by rw [hH]; exact hS
  refine rf_heap hH ?_
  refine lv_iload_n hx hb dX1_checkLength_0 rfl (lv_at hl 0 rfl) ?_
  refine lv_if_lt (tgt := 11) hx hb dX1_checkLength_1 rfl (fun h => absurd h (nI_pos (by omega))) (fun _ => ?_)
  refine lv_iload_n hx hb dX1_checkLength_4 rfl (lv_at hl 0 rfl) ?_
  refine lv_sipush (v := nI 200) hx hb dX1_checkLength_5 (by decide) ?_
  refine lv_icmp_le (tgt := 21) hx hb dX1_checkLength_8 rfl (fun _ => ?_) (fun h => absurd (show nI (n) ≤ nI (200) from nI_le (by omega) (by omega)) h)
  exact W.vret hx hb hr (fun t ht hW => ⟨⟨(), rfl, trivial, rf_end ht hP hD⟩, hS.F ht⟩) hS.2.2 dX1_checkLength_21
set_option maxHeartbeats 4000000 in
set_option maxRecDepth 100000 in
/-- tapeOf(0) -/
theorem c_X1_tapeOf (l : Launch) (D : va_G) (E : Nat → ClassId) (sz : Nat) (x0 t0 r0 : Nat) (f : Nat → Option Nat) (p1 p2 p3 p4 p5 p6 : Value) (hf : f 0 = some r0) : Met l yX1_tapeOf wsX1_tapeOf ({ frames := 3, cells := 0, slots := 0, locals := 400 }) (va_Pc [.ref x0, .int (nI 0)] (rf_P D E [(x0, .inr (3, [.ref t0, p1, p2, p3, p4, p5, p6])), (t0, .inl (E 3, 4, .inr (.inr (.inr (.inr f)))))] sz)) (va_Qr (fun (u : Unit) => True) (fun (u : Unit) (ra : Nat) (t : State) => ra = r0 ∧ rf_B D (va_A [(x0, .inr (3, [.ref t0, p1, p2, p3, p4, p5, p6])), (t0, .inl (E 3, 4, .inr (.inr (.inr (.inr f)))))] sz) [(x0, .inr (3, [.ref t0, p1, p2, p3, p4, p5, p6])), (t0, .inl (E 3, 4, .inr (.inr (.inr (.inr f)))))] t) (va_A [(x0, .inr (3, [.ref t0, p1, p2, p3, p4, p5, p6])), (t0, .inl (E 3, 4, .inr (.inr (.inr (.inr f)))))] sz)) 0 0 (va_A [(x0, .inr (3, [.ref t0, p1, p2, p3, p4, p5, p6])), (t0, .inl (E 3, 4, .inr (.inr (.inr (.inr f)))))] sz) := by
  refine Met.ofW (cc := cX1_tapeOf) (maxL := 2) (ret := (some (.object "Tapebuffer$Row"))) (by decide) rfl ?_
  intro p e s mI args below meth c s₁ B hml hv
  obtain ⟨rfl, hsz, hP, hK, hD0, hZ, hN⟩ := hv
  have hx := B.exec
  have hb := B.bytes
  have hr := B.returns
  have hts := atoms_spec (ws := wsX1_tapeOf) B.pre
  have hown : s.vm.findClass RX1 = some mI.cls := findClass_of_methodNamed B.named
  have hlocks := B.notSynchronized
  subst hsz
  have hD := hD0.self (sz := s.heap.size)
  generalize hAe : va_A [(x0, .inr (3, [.ref t0, p1, p2, p3, p4, p5, p6])), (t0, .inl (E 3, 4, .inr (.inr (.inr (.inr f)))))] s.heap.size = A at hD hZ ⊢
  have hA : ∀ q : Nat, s.heap.size ≤ q → A q := fun q h => by rw [← hAe]; exact Or.inr h
  have hS : va_S A s.heap s.heap [] := va_S.rf
  have hl := lv_entry ([.ref x0, .int (nI 0)]) (n := 2) (Nat.le_of_ble_eq_true rfl)
  rw [lg_entry_eq]
  generalize (lg_sl ([.ref x0, .int (nI 0)]) ++ List.replicate (2 - (lg_sl ([.ref x0, .int (nI 0)])).length) Slot.unset).toArray = ls at hl ⊢
  clear hAe hD0
  have hl : lv_has ls 2 [(0, .ref x0), (1, .int (nI 0))] := hl
  obtain ⟨H, hH⟩ : ∃ H, H = s.heap := ⟨_, rfl⟩
  rw [← hH] at hP
  have hS : va_S A s.heap H [] := by rw [hH]; exact hS
  refine rf_heap hH ?_
  refine lv_iload_n hx hb dX1_tapeOf_0 rfl (lv_at hl 1 rfl) ?_
  have hPc := hP.sub (ws' := []) [] rfl
  have hDc := hD.sub (ws' := []) [] (by decide) rfl
  have hFc := va_free (wc := []) hD hS hA [] rfl
  have h_1 : 0 + 0 ≤ 0 := by omega
  have h_2 : 0 + 0 ≤ 0 := by omega
  refine va_callv (va_runS (As := [.int (nI 0)]) (rest := []) ⟨hx, hb, hml, hown, hts⟩ (c_X1_checkTape l D E H.size ) (va_cwS 1 hts gX1_tapeOf_X1_checkTape rfl rfl rfl (by decide +kernel) ⟨Nat.le_of_ble_eq_true rfl, Nat.le_of_ble_eq_true rfl⟩) ⟨rf_blind _, fun U hU hW => ⟨rfl, rf_pre hK hPc hDc hZ hN hS hFc U hU hW⟩⟩ rfl rfl hl.1 rfl (lv_room (Nat.le_of_ble_eq_true rfl)) dX1_tapeOf_1 ⟨h_1, h_2⟩) hS (fun q _ h => hFc q h) hFc (fun u t H1 locs ht hvm hw hB hz1 hk1 hS => ?_)
  obtain ⟨hP1, hD1⟩ := hB
  rw [ht] at hP1
  try dsimp only at hw hP1 hD1
  obtain ⟨hP, hD⟩ := va_join (wr := [(x0, .inr (3, [.ref t0, p1, p2, p3, p4, p5, p6])), (t0, .inl (E 3, 4, .inr (.inr (.inr (.inr f)))))]) (w1 := []) hP hD [] [0, 1] rfl rfl (by decide) (by decide) hk1 hFc hP1 hD1
  clear hPc hDc hFc hP1 hD1 hk1 hz1 ht
  generalize H1 = H at hP hS ⊢
  have hP : va_P D vwCl [(x0, .inr (3, [.ref t0, p1, p2, p3, p4, p5, p6])), (t0, .inl (E 3, 4, .inr (.inr (.inr (.inr f)))))] H := hP
  have hD : va_D A [(x0, .inr (3, [.ref t0, p1, p2, p3, p4, p5, p6])), (t0, .inl (E 3, 4, .inr (.inr (.inr (.inr f)))))] := hD
  refine lv_aload_n hx hb dX1_tapeOf_4 rfl (lv_at hl 0 rfl) ?_
  refine va_get (D := D) (ci := 3) (v := .ref t0) (C := RX1) (T := TX1) (N := 7) hx hb hts (by decide +kernel) hown hK hP 0 rfl rfl 0 (by decide) (hts (.fieldLink RX1 11 "Tapebuffer" "tapes" "[LTapebuffer$Row;") (by decide +kernel)) (fun _ h9 => h9) rfl dX1_tapeOf_5 ?_
  refine lv_iload_n hx hb dX1_tapeOf_8 rfl (lv_at hl 1 rfl) ?_
  refine va_aldq hx hb hK hP 1 3 rfl rfl (vp_in_nI (by omega) (by omega)) dX1_tapeOf_9 (W.eq (g2 := F0 mI 10 ls (.ref r0 :: [])) (by rw [show (nI 0).toNatClampNeg = 0 from rfl, hf]; rfl) ?_)
  have hP := hP.sub (ws' := [(x0, .inr (3, [.ref t0, p1, p2, p3, p4, p5, p6])), (t0, .inl (E 3, 4, .inr (.inr (.inr (.inr f)))))]) [0, 1] rfl
  have hD := hD.sub (ws' := [(x0, .inr (3, [.ref t0, p1, p2, p3, p4, p5, p6])), (t0, .inl (E 3, 4, .inr (.inr (.inr (.inr f)))))]) [0, 1] (by decide) rfl
  exact W.aret (v := .ref r0) hx hb hr (Or.inl ⟨_, rfl⟩) (Or.inr ⟨_, rfl⟩) (fun t ht hW => ⟨⟨(), r0, rfl, trivial, ⟨rfl, rf_end ht hP hD⟩⟩, hS.F ht⟩) hS.2.2 dX1_tapeOf_10
set_option maxHeartbeats 4000000 in
set_option maxRecDepth 100000 in
/-- becomeLong(n) of an empty row -/
theorem c_X0_becomeLong (l : Launch) (D : va_G) (E : Nat → ClassId) (sz : Nat) (r0 g0 n : Nat) (hn : n ≤ 200) : Met l yX0_becomeLong wsX0_becomeLong ({ frames := 2, cells := 0, slots := 0, locals := 200 }) (va_Pc [.ref r0, .int (nI n)] (rf_P D E [(r0, .inr (2, [.ref g0, .int (nI (0))])), (g0, .inl (E 2, 256, .inl z0))] sz)) (va_Qv (fun (u : Unit) => True) (fun (u : Unit) (t : State) => rf_B D (va_A [(r0, .inr (2, [.ref g0, .int (nI (0))])), (g0, .inl (E 2, 256, .inl z0))] sz) [(r0, .inr (2, [.ref g0, .int (nI n)])), (g0, .inl (E 2, 256, .inl z0))] t) (va_A [(r0, .inr (2, [.ref g0, .int (nI (0))])), (g0, .inl (E 2, 256, .inl z0))] sz)) 0 0 (va_A [(r0, .inr (2, [.ref g0, .int (nI (0))])), (g0, .inl (E 2, 256, .inl z0))] sz) := by
  refine Met.ofW (cc := cX0_becomeLong) (maxL := 3) (ret := none) (by decide) rfl ?_
  intro p e s mI args below meth c s₁ B hml hv
  obtain ⟨rfl, hsz, hP, hK, hD0, hZ, hN⟩ := hv
  have hx := B.exec
  have hb := B.bytes
  have hr := B.returns
  have hts := atoms_spec (ws := wsX0_becomeLong) B.pre
  have hown : s.vm.findClass RX0 = some mI.cls := findClass_of_methodNamed B.named
  have hlocks := B.notSynchronized
  subst hsz
  have hD := hD0.self (sz := s.heap.size)
  generalize hAe : va_A [(r0, .inr (2, [.ref g0, .int (nI (0))])), (g0, .inl (E 2, 256, .inl z0))] s.heap.size = A at hD hZ ⊢
  have hA : ∀ q : Nat, s.heap.size ≤ q → A q := fun q h => by rw [← hAe]; exact Or.inr h
  have hS : va_S A s.heap s.heap [] := va_S.rf
  have hl := lv_entry ([.ref r0, .int (nI n)]) (n := 3) (Nat.le_of_ble_eq_true rfl)
  rw [lg_entry_eq]
  generalize (lg_sl ([.ref r0, .int (nI n)]) ++ List.replicate (3 - (lg_sl ([.ref r0, .int (nI n)])).length) Slot.unset).toArray = ls at hl ⊢
  clear hAe hD0
  have hl : lv_has ls 3 [(0, .ref r0), (1, .int (nI n))] := hl
  obtain ⟨H, hH⟩ : ∃ H, H = s.heap := ⟨_, rfl⟩
  rw [← hH] at hP
  have hS : va_S A s.heap H [] := by rw [hH]; exact hS
  refine rf_heap hH ?_
  refine lv_iload_n hx hb dX0_becomeLong_0 rfl (lv_at hl 1 rfl) ?_
  refine lv_if_lt (tgt := 11) hx hb dX0_becomeLong_1 rfl (fun h => absurd h (nI_pos (by omega))) (fun _ => ?_)
  refine lv_iload_n hx hb dX0_becomeLong_4 rfl (lv_at hl 1 rfl) ?_
  refine lv_sipush (v := nI 256) hx hb dX0_becomeLong_5 (by decide) ?_
  refine lv_icmp_le (tgt := 12) hx hb dX0_becomeLong_8 rfl (fun _ => ?_) (fun h => absurd (show nI (n) ≤ nI (256) from nI_le (by omega) (by omega)) h)
  refine lv_aload_n hx hb dX0_becomeLong_12 rfl (lv_at hl 0 rfl) ?_
  refine va_get (D := D) (ci := 2) (v := .int (nI (0))) (C := RX0) (T := TX0) (N := 2) hx hb hts (by decide +kernel) hown hK hP 0 rfl rfl 1 (by decide) (hts (.fieldLink RX0 15 "Tapebuffer$Row" "size" "I") (by decide +kernel)) (fun _ h9 => h9) rfl dX0_becomeLong_13 ?_
  refine lv_istore_n hx hb dX0_becomeLong_16 rfl hl (Nat.le_of_ble_eq_true rfl) rfl (fun ls hl => ?_)
  have hl : lv_has ls 3 [(2, .int (nI (0))), (0, .ref r0), (1, .int (nI n))] := hl
  have hl : lv_has ls 3 [(0, .ref r0), (1, .int (nI n)), (2, .int (nI (0)))] := lv_sub hl [1, 2, 0] rfl
  refine rf_loop (n) 0 0 (fun k H locs ls => lv_has ls 3 [(0, .ref r0), (1, .int (nI n)), (2, .int (nI (k)))] ∧ va_P D vwCl [(r0, .inr (2, [.ref g0, .int (nI (0))])), (g0, .inl (E 2, 256, .inl z0))] H ∧ va_D A [(r0, .inr (2, [.ref g0, .int (nI (0))])), (g0, .inl (E 2, 256, .inl z0))] ∧ va_S A s.heap H locs) ⟨hl, hP, hD, hS⟩ ?_ ?_
  · intro H locs ls hI
    obtain ⟨hl, hP, hD, hS⟩ := hI
    refine lv_iload_n hx hb dX0_becomeLong_17 rfl (lv_at hl 2 rfl) ?_
    refine lv_iload_n hx hb dX0_becomeLong_18 rfl (lv_at hl 1 rfl) ?_
    refine lv_icmp_ge (tgt := 35) hx hb dX0_becomeLong_19 rfl (fun _ => ?_) (fun h => absurd (show nI (n) ≤ nI (n) from nI_le (by omega) (by omega)) h)
    refine lv_aload_n hx hb dX0_becomeLong_35 rfl (lv_at hl 0 rfl) ?_
    refine lv_iload_n hx hb dX0_becomeLong_36 rfl (lv_at hl 1 rfl) ?_
    refine va_put (D := D) (ci := 2) (v := .int (nI n)) (ty := .int) (C := RX0) (T := TX0) (N := 2) hx hb hts (by decide +kernel) tyX0 tyX0_ok nmX0 hown hK hP hD hS 0 rfl rfl 1 (by decide) (hts (.fieldLink RX0 15 "Tapebuffer$Row" "size" "I") (by decide +kernel)) (fun _ h9 => h9) rfl (by decide +kernel) rfl rfl (Nat.le_of_ble_eq_true rfl) dX0_becomeLong_37 (fun H locs hP hD hS => ?_)
    have hP : va_P D vwCl [(r0, .inr (2, [.ref g0, .int (nI n)])), (g0, .inl (E 2, 256, .inl z0))] H := hP
    have hD : va_D A [(r0, .inr (2, [.ref g0, .int (nI n)])), (g0, .inl (E 2, 256, .inl z0))] := hD
    refine W.widen (k := 0) (n := 0) (by omega) (by omega) ?_
    have hP := hP.sub (ws' := [(r0, .inr (2, [.ref g0, .int (nI (n))])), (g0, .inl (E 2, 256, .inl z0))]) [0, 1] rfl
    have hD := hD.sub (ws' := [(r0, .inr (2, [.ref g0, .int (nI (n))])), (g0, .inl (E 2, 256, .inl z0))]) [0, 1] (by decide) rfl
    exact W.vret hx hb hr (fun t ht hW => ⟨⟨(), rfl, trivial, rf_end ht hP hD⟩, hS.F ht⟩) hS.2.2 dX0_becomeLong_40
  · intro k H locs ls hkN hI kk
    obtain ⟨hl, hP, hD, hS⟩ := hI
    refine lv_iload_n hx hb dX0_becomeLong_17 rfl (lv_at hl 2 rfl) ?_
    refine lv_iload_n hx hb dX0_becomeLong_18 rfl (lv_at hl 1 rfl) ?_
    refine lv_icmp_ge (tgt := 35) hx hb dX0_becomeLong_19 rfl (fun h => absurd h (show ¬ nI (n) ≤ nI (k) from nI_ge (by omega) (by omega))) (fun _ => ?_)
    refine lv_aload_n hx hb dX0_becomeLong_22 rfl (lv_at hl 0 rfl) ?_
    refine va_get (D := D) (ci := 2) (v := .ref g0) (C := RX0) (T := TX0) (N := 2) hx hb hts (by decide +kernel) hown hK hP 0 rfl rfl 0 (by decide) (hts (.fieldLink RX0 9 "Tapebuffer$Row" "signs" "[I") (by decide +kernel)) (fun _ h9 => h9) rfl dX0_becomeLong_23 ?_
    refine lv_iload_n hx hb dX0_becomeLong_26 rfl (lv_at hl 2 rfl) ?_
    refine lv_iconst (v := 0) hx hb dX0_becomeLong_27 (by decide) ?_
    refine va_iast hx hb hK hP hD hS 1 2 rfl rfl (vp_in_nI (by omega) (by omega)) dX0_becomeLong_28 (fun H locs hP hD hS => ?_)
    rw [rf_u0] at hP hD
    have hP : va_P D vwCl [(r0, .inr (2, [.ref g0, .int (nI (0))])), (g0, .inl (E 2, 256, .inl z0))] H := hP
    have hD : va_D A [(r0, .inr (2, [.ref g0, .int (nI (0))])), (g0, .inl (E 2, 256, .inl z0))] := hD
    refine lv_iinc (v := nI (k + 1)) hx hb dX0_becomeLong_29 hl (k := 2) rfl ((show nI (k) + Int32.ofInt 1 = nI (k) + nI 1 from rfl).trans ((nI_add _ _).trans (congrArg nI (by omega)))) (Nat.le_of_ble_eq_true rfl) rfl (fun ls hl => ?_)
    have hl : lv_has ls 3 [(2, .int (nI (k + 1))), (0, .ref r0), (1, .int (nI n))] := hl
    have hl : lv_has ls 3 [(0, .ref r0), (1, .int (nI n)), (2, .int (nI (k + 1)))] := lv_sub hl [1, 2, 0] rfl
    refine lv_goto (tgt := 17) hx hb dX0_becomeLong_32 rfl ?_
    refine W.widen (k := 0 + (k + 1) * 0) (n := 0 + (k + 1) * 0) (by omega) (by omega) ?_
    exact kk _ _ _ ⟨hl, hP, hD, hS⟩
set_option maxHeartbeats 4000000 in
set_option maxRecDepth 100000 in
/-- setLength(0, n), the tape empty -/
theorem c_X1_setLength (l : Launch) (D : va_G) (E : Nat → ClassId) (sz : Nat) (x0 t0 r0 g0 n : Nat) (f : Nat → Option Nat) (p1 p2 p3 p4 p5 p6 : Value) (hf : f 0 = some r0) (hn : n ≤ 200) : Met l yX1_setLength wsX1_setLength ({ frames := 4, cells := 0, slots := 0, locals := 600 }) (va_Pc [.ref x0, .int (nI 0), .int (nI n)] (rf_P D E [(x0, .inr (3, [.ref t0, p1, p2, p3, p4, p5, p6])), (t0, .inl (E 3, 4, .inr (.inr (.inr (.inr f))))), (r0, .inr (2, [.ref g0, .int (nI (0))])), (g0, .inl (E 2, 256, .inl z0))] sz)) (va_Qi (fun (r : Int32) (u : Unit) => r = nI 0) (fun (u : Unit) (t : State) => rf_B D (va_A [(x0, .inr (3, [.ref t0, p1, p2, p3, p4, p5, p6])), (t0, .inl (E 3, 4, .inr (.inr (.inr (.inr f))))), (r0, .inr (2, [.ref g0, .int (nI (0))])), (g0, .inl (E 2, 256, .inl z0))] sz) [(x0, .inr (3, [.ref t0, p1, p2, p3, p4, p5, p6])), (t0, .inl (E 3, 4, .inr (.inr (.inr (.inr f))))), (r0, .inr (2, [.ref g0, .int (nI (n))])), (g0, .inl (E 2, 256, .inl z0))] t) (va_A [(x0, .inr (3, [.ref t0, p1, p2, p3, p4, p5, p6])), (t0, .inl (E 3, 4, .inr (.inr (.inr (.inr f))))), (r0, .inr (2, [.ref g0, .int (nI (0))])), (g0, .inl (E 2, 256, .inl z0))] sz)) 0 0 (va_A [(x0, .inr (3, [.ref t0, p1, p2, p3, p4, p5, p6])), (t0, .inl (E 3, 4, .inr (.inr (.inr (.inr f))))), (r0, .inr (2, [.ref g0, .int (nI (0))])), (g0, .inl (E 2, 256, .inl z0))] sz) := by
  refine Met.ofW (cc := cX1_setLength) (maxL := 5) (ret := (some .int)) (by decide) rfl ?_
  intro p e s mI args below meth c s₁ B hml hv
  obtain ⟨rfl, hsz, hP, hK, hD0, hZ, hN⟩ := hv
  have hx := B.exec
  have hb := B.bytes
  have hr := B.returns
  have hts := atoms_spec (ws := wsX1_setLength) B.pre
  have hown : s.vm.findClass RX1 = some mI.cls := findClass_of_methodNamed B.named
  have hlocks := B.notSynchronized
  subst hsz
  have hD := hD0.self (sz := s.heap.size)
  generalize hAe : va_A [(x0, .inr (3, [.ref t0, p1, p2, p3, p4, p5, p6])), (t0, .inl (E 3, 4, .inr (.inr (.inr (.inr f))))), (r0, .inr (2, [.ref g0, .int (nI (0))])), (g0, .inl (E 2, 256, .inl z0))] s.heap.size = A at hD hZ ⊢
  have hA : ∀ q : Nat, s.heap.size ≤ q → A q := fun q h => by rw [← hAe]; exact Or.inr h
  have hS : va_S A s.heap s.heap [] := va_S.rf
  have hl := lv_entry ([.ref x0, .int (nI 0), .int (nI n)]) (n := 5) (Nat.le_of_ble_eq_true rfl)
  rw [lg_entry_eq]
  generalize (lg_sl ([.ref x0, .int (nI 0), .int (nI n)]) ++ List.replicate (5 - (lg_sl ([.ref x0, .int (nI 0), .int (nI n)])).length) Slot.unset).toArray = ls at hl ⊢
  clear hAe hD0
  have hl : lv_has ls 5 [(0, .ref x0), (1, .int (nI 0)), (2, .int (nI n))] := hl
  obtain ⟨H, hH⟩ : ∃ H, H = s.heap := ⟨_, rfl⟩
  rw [← hH] at hP
  have hS : va_S A s.heap H [] := by rw [hH]; exact hS
  refine rf_heap hH ?_
  refine lv_aload_n hx hb dX1_setLength_0 rfl (lv_at hl 0 rfl) ?_
  refine lv_iload_n hx hb dX1_setLength_1 rfl (lv_at hl 1 rfl) ?_
  have hPc := hP.sub (ws' := [(x0, .inr (3, [.ref t0, p1, p2, p3, p4, p5, p6])), (t0, .inl (E 3, 4, .inr (.inr (.inr (.inr f)))))]) [0, 1] rfl
  have hDc := hD.sub (ws' := [(x0, .inr (3, [.ref t0, p1, p2, p3, p4, p5, p6])), (t0, .inl (E 3, 4, .inr (.inr (.inr (.inr f)))))]) [0, 1] (by decide) rfl
  have hFc := va_free (wc := [(x0, .inr (3, [.ref t0, p1, p2, p3, p4, p5, p6])), (t0, .inl (E 3, 4, .inr (.inr (.inr (.inr f)))))]) hD hS hA [0, 1] rfl
  have h_1 : 0 + 0 ≤ 0 := by omega
  have h_2 : 0 + 0 ≤ 0 := by omega
  refine va_callr (va_runV (As := [.int (nI 0)]) (rest := []) ⟨hx, hb, hml, hown, hts⟩ (c_X1_tapeOf l D E H.size (x0) (t0) (r0) (f) (p1) (p2) (p3) (p4) (p5) (p6) (hf)) (cwV 1 hts gX1_setLength_X1_tapeOf rfl rfl rfl (by decide +kernel) ⟨Nat.le_of_ble_eq_true rfl, Nat.le_of_ble_eq_true rfl⟩) ⟨rf_blind _, va_recv hK hPc (ci := 3) (q0 := 0) rfl rfl, fun U hU hW => ⟨rfl, rf_pre hK hPc hDc hZ hN hS hFc U hU hW⟩⟩ rfl rfl hl.1 rfl (lv_room (Nat.le_of_ble_eq_true rfl)) dX1_setLength_2 ⟨h_1, h_2⟩) hS (fun q _ h => hFc q h) hFc (fun u ra t H1 locs ht hvm hw hB hz1 hk1 hS => ?_)
  obtain ⟨hra, hP1, hD1⟩ := hB
  try dsimp only at hra
  subst ra
  rw [ht] at hP1
  try dsimp only at hw hP1 hD1
  obtain ⟨hP, hD⟩ := va_join (wr := [(r0, .inr (2, [.ref g0, .int (nI (0))])), (g0, .inl (E 2, 256, .inl z0))]) (w1 := [(x0, .inr (3, [.ref t0, p1, p2, p3, p4, p5, p6])), (t0, .inl (E 3, 4, .inr (.inr (.inr (.inr f)))))]) hP hD [0, 1] [2, 3] rfl rfl (by decide) (by decide) hk1 hFc hP1 hD1
  clear hPc hDc hFc hP1 hD1 hk1 hz1 ht
  generalize H1 = H at hP hS ⊢
  have hP : va_P D vwCl [(r0, .inr (2, [.ref g0, .int (nI (0))])), (g0, .inl (E 2, 256, .inl z0)), (x0, .inr (3, [.ref t0, p1, p2, p3, p4, p5, p6])), (t0, .inl (E 3, 4, .inr (.inr (.inr (.inr f)))))] H := hP
  have hD : va_D A [(r0, .inr (2, [.ref g0, .int (nI (0))])), (g0, .inl (E 2, 256, .inl z0)), (x0, .inr (3, [.ref t0, p1, p2, p3, p4, p5, p6])), (t0, .inl (E 3, 4, .inr (.inr (.inr (.inr f)))))] := hD
  refine lv_astore_n hx hb dX1_setLength_5 rfl hl (Nat.le_of_ble_eq_true rfl) rfl (fun ls hl => ?_)
  have hl : lv_has ls 5 [(3, .ref r0), (0, .ref x0), (1, .int (nI 0)), (2, .int (nI n))] := hl
  refine lv_iload_n hx hb dX1_setLength_6 rfl (lv_at hl 3 rfl) ?_
  have hPc := hP.sub (ws' := []) [] rfl
  have hDc := hD.sub (ws' := []) [] (by decide) rfl
  have hFc := va_free (wc := []) hD hS hA [] rfl
  have h_1 : 0 + 0 ≤ 0 := by omega
  have h_2 : 0 + 0 ≤ 0 := by omega
  refine va_callv (va_runS (As := [.int (nI n)]) (rest := []) ⟨hx, hb, hml, hown, hts⟩ (c_X1_checkLength l D E H.size (n) (by omega)) (va_cwS 1 hts gX1_setLength_X1_checkLength rfl rfl rfl (by decide +kernel) ⟨Nat.le_of_ble_eq_true rfl, Nat.le_of_ble_eq_true rfl⟩) ⟨rf_blind _, fun U hU hW => ⟨rfl, rf_pre hK hPc hDc hZ hN hS hFc U hU hW⟩⟩ rfl rfl hl.1 rfl (lv_room (Nat.le_of_ble_eq_true rfl)) dX1_setLength_7 ⟨h_1, h_2⟩) hS (fun q _ h => hFc q h) hFc (fun u t H1 locs ht hvm hw hB hz1 hk1 hS => ?_)
  obtain ⟨hP1, hD1⟩ := hB
  rw [ht] at hP1
  try dsimp only at hw hP1 hD1
  obtain ⟨hP, hD⟩ := va_join (wr := [(r0, .inr (2, [.ref g0, .int (nI (0))])), (g0, .inl (E 2, 256, .inl z0)), (x0, .inr (3, [.ref t0, p1, p2, p3, p4, p5, p6])), (t0, .inl (E 3, 4, .inr (.inr (.inr (.inr f)))))]) (w1 := []) hP hD [] [0, 1, 2, 3] rfl rfl (by decide) (by decide) hk1 hFc hP1 hD1
  clear hPc hDc hFc hP1 hD1 hk1 hz1 ht
  generalize H1 = H at hP hS ⊢
  have hP : va_P D vwCl [(r0, .inr (2, [.ref g0, .int (nI (0))])), (g0, .inl (E 2, 256, .inl z0)), (x0, .inr (3, [.ref t0, p1, p2, p3, p4, p5, p6])), (t0, .inl (E 3, 4, .inr (.inr (.inr (.inr f)))))] H := hP
  have hD : va_D A [(r0, .inr (2, [.ref g0, .int (nI (0))])), (g0, .inl (E 2, 256, .inl z0)), (x0, .inr (3, [.ref t0, p1, p2, p3, p4, p5, p6])), (t0, .inl (E 3, 4, .inr (.inr (.inr (.inr f)))))] := hD
  refine lv_aload_n hx hb dX1_setLength_10 rfl (lv_at hl 0 rfl) ?_
  refine va_get (D := D) (ci := 2) (v := .int (nI (0))) (C := RX0) (T := TX0) (N := 2) hx hb hts (by decide +kernel) hown hK hP 0 rfl rfl 1 (by decide) (hts (.fieldLink RX1 92 "Tapebuffer$Row" "size" "I") (by decide +kernel)) (fun _ h9 => h9) rfl dX1_setLength_11 ?_
  refine lv_istore hx hb dX1_setLength_14 hl (Nat.le_of_ble_eq_true rfl) rfl (fun ls hl => ?_)
  have hl : lv_has ls 5 [(4, .int (nI (0))), (3, .ref r0), (0, .ref x0), (1, .int (nI 0)), (2, .int (nI n))] := hl
  refine lv_aload_n hx hb dX1_setLength_16 rfl (lv_at hl 1 rfl) ?_
  refine lv_iload_n hx hb dX1_setLength_17 rfl (lv_at hl 4 rfl) ?_
  have hPc := hP.sub (ws' := [(r0, .inr (2, [.ref g0, .int (nI (0))])), (g0, .inl (E 2, 256, .inl z0))]) [0, 1] rfl
  have hDc := hD.sub (ws' := [(r0, .inr (2, [.ref g0, .int (nI (0))])), (g0, .inl (E 2, 256, .inl z0))]) [0, 1] (by decide) rfl
  have hFc := va_free (wc := [(r0, .inr (2, [.ref g0, .int (nI (0))])), (g0, .inl (E 2, 256, .inl z0))]) hD hS hA [0, 1] rfl
  have h_1 : 0 + 0 ≤ 0 := by omega
  have h_2 : 0 + 0 ≤ 0 := by omega
  refine va_callv (va_runV (As := [.int (nI n)]) (rest := []) ⟨hx, hb, hml, hown, hts⟩ (c_X0_becomeLong l D E H.size (r0) (g0) (n) (by omega)) (cwV 1 hts gX1_setLength_X0_becomeLong rfl rfl rfl (by decide +kernel) ⟨Nat.le_of_ble_eq_true rfl, Nat.le_of_ble_eq_true rfl⟩) ⟨rf_blind _, va_recv hK hPc (ci := 2) (q0 := 0) rfl rfl, fun U hU hW => ⟨rfl, rf_pre hK hPc hDc hZ hN hS hFc U hU hW⟩⟩ rfl rfl hl.1 rfl (lv_room (Nat.le_of_ble_eq_true rfl)) dX1_setLength_18 ⟨h_1, h_2⟩) hS (fun q _ h => hFc q h) hFc (fun u t H1 locs ht hvm hw hB hz1 hk1 hS => ?_)
  obtain ⟨hP1, hD1⟩ := hB
  rw [ht] at hP1
  try dsimp only at hw hP1 hD1
  obtain ⟨hP, hD⟩ := va_join (wr := [(x0, .inr (3, [.ref t0, p1, p2, p3, p4, p5, p6])), (t0, .inl (E 3, 4, .inr (.inr (.inr (.inr f)))))]) (w1 := [(r0, .inr (2, [.ref g0, .int (nI (n))])), (g0, .inl (E 2, 256, .inl z0))]) hP hD [0, 1] [2, 3] rfl rfl (by decide) (by decide) hk1 hFc hP1 hD1
  clear hPc hDc hFc hP1 hD1 hk1 hz1 ht
  generalize H1 = H at hP hS ⊢
  have hP : va_P D vwCl [(x0, .inr (3, [.ref t0, p1, p2, p3, p4, p5, p6])), (t0, .inl (E 3, 4, .inr (.inr (.inr (.inr f))))), (r0, .inr (2, [.ref g0, .int (nI (n))])), (g0, .inl (E 2, 256, .inl z0))] H := hP
  have hD : va_D A [(x0, .inr (3, [.ref t0, p1, p2, p3, p4, p5, p6])), (t0, .inl (E 3, 4, .inr (.inr (.inr (.inr f))))), (r0, .inr (2, [.ref g0, .int (nI (n))])), (g0, .inl (E 2, 256, .inl z0))] := hD
  refine lv_iload hx hb dX1_setLength_21 (lv_at hl 0 rfl) ?_
  have hP := hP.sub (ws' := [(x0, .inr (3, [.ref t0, p1, p2, p3, p4, p5, p6])), (t0, .inl (E 3, 4, .inr (.inr (.inr (.inr f))))), (r0, .inr (2, [.ref g0, .int (nI (n))])), (g0, .inl (E 2, 256, .inl z0))]) [0, 1, 2, 3] rfl
  have hD := hD.sub (ws' := [(x0, .inr (3, [.ref t0, p1, p2, p3, p4, p5, p6])), (t0, .inl (E 3, 4, .inr (.inr (.inr (.inr f))))), (r0, .inr (2, [.ref g0, .int (nI (n))])), (g0, .inl (E 2, 256, .inl z0))]) [0, 1, 2, 3] (by decide) rfl
  exact W.iret (v := nI (0)) hx hb hr (fun t ht hW => ⟨⟨nI (0), (), rfl, rfl, rf_end ht hP hD⟩, hS.F ht⟩) hS.2.2 dX1_setLength_23
set_option maxHeartbeats 4000000 in
set_option maxRecDepth 100000 in
/-- textOf(0, n) -/
theorem c_X0_textOf (l : Launch) (D : va_G) (E : Nat → ClassId) (sz : Nat) (r0 g0 n : Nat) (hn : n ≤ 200) (h1 : 0 < n) : Met l yX0_textOf wsX0_textOf ({ frames := 6, cells := 3, slots := 404, locals := 1000 }) (va_Pc [.ref r0, .int (nI 0), .int (nI n)] (rf_P D E [(r0, .inr (2, [.ref g0, .int (nI (n))])), (g0, .inl (E 2, 256, .inl z0))] sz)) (va_Qr (fun (u : Nat) => True) (fun (u : Nat) (ra : Nat) (t : State) => rf_B D (va_A [(r0, .inr (2, [.ref g0, .int (nI (n))])), (g0, .inl (E 2, 256, .inl z0))] sz) [(ra, .inr (0, [.ref u, .int 0, .int 0, .int 0])), (u, .inl (E 0, n, .inl z0)), (r0, .inr (2, [.ref g0, .int (nI n)])), (g0, .inl (E 2, 256, .inl z0))] t) (va_A [(r0, .inr (2, [.ref g0, .int (nI (n))])), (g0, .inl (E 2, 256, .inl z0))] sz)) 3 404 (va_A [(r0, .inr (2, [.ref g0, .int (nI (n))])), (g0, .inl (E 2, 256, .inl z0))] sz) := by
  refine Met.ofW (cc := cX0_textOf) (maxL := 5) (ret := (some (.object "java/lang/String"))) (by decide) rfl ?_
  intro p e s mI args below meth c s₁ B hml hv
  obtain ⟨rfl, hsz, hP, hK, hD0, hZ, hN⟩ := hv
  have hx := B.exec
  have hb := B.bytes
  have hr := B.returns
  have hts := atoms_spec (ws := wsX0_textOf) B.pre
  have hown : s.vm.findClass RX0 = some mI.cls := findClass_of_methodNamed B.named
  have hlocks := B.notSynchronized
  subst hsz
  have hD := hD0.self (sz := s.heap.size)
  generalize hAe : va_A [(r0, .inr (2, [.ref g0, .int (nI (n))])), (g0, .inl (E 2, 256, .inl z0))] s.heap.size = A at hD hZ ⊢
  have hA : ∀ q : Nat, s.heap.size ≤ q → A q := fun q h => by rw [← hAe]; exact Or.inr h
  have hS : va_S A s.heap s.heap [] := va_S.rf
  have hl := lv_entry ([.ref r0, .int (nI 0), .int (nI n)]) (n := 5) (Nat.le_of_ble_eq_true rfl)
  rw [lg_entry_eq]
  generalize (lg_sl ([.ref r0, .int (nI 0), .int (nI n)]) ++ List.replicate (5 - (lg_sl ([.ref r0, .int (nI 0), .int (nI n)])).length) Slot.unset).toArray = ls at hl ⊢
  clear hAe hD0
  have hl : lv_has ls 5 [(0, .ref r0), (1, .int (nI 0)), (2, .int (nI n))] := hl
  obtain ⟨H, hH⟩ : ∃ H, H = s.heap := ⟨_, rfl⟩
  rw [← hH] at hP
  have hS : va_S A s.heap H [] := by rw [hH]; exact hS
  refine rf_heap hH ?_
  refine lv_iload_n hx hb dX0_textOf_0 rfl (lv_at hl 1 rfl) ?_
  refine lv_if_lt (tgt := 17) hx hb dX0_textOf_1 rfl (fun h => absurd h (by decide)) (fun _ => ?_)
  refine lv_iload_n hx hb dX0_textOf_4 rfl (lv_at hl 2 rfl) ?_
  refine lv_iload_n hx hb dX0_textOf_5 rfl (lv_at hl 1 rfl) ?_
  refine lv_icmp_lt (tgt := 17) hx hb dX0_textOf_6 rfl (fun h => absurd h (show ¬ nI (n) < nI (0) from nI_nlt (by omega) (by omega))) (fun _ => ?_)
  refine lv_iload_n hx hb dX0_textOf_9 rfl (lv_at hl 2 rfl) ?_
  refine lv_aload_n hx hb dX0_textOf_10 rfl (lv_at hl 0 rfl) ?_
  refine va_get (D := D) (ci := 2) (v := .int (nI (n))) (C := RX0) (T := TX0) (N := 2) hx hb hts (by decide +kernel) hown hK hP 0 rfl rfl 1 (by decide) (hts (.fieldLink RX0 15 "Tapebuffer$Row" "size" "I") (by decide +kernel)) (fun _ h9 => h9) rfl dX0_textOf_11 ?_
  refine lv_icmp_le (tgt := 20) hx hb dX0_textOf_14 rfl (fun _ => ?_) (fun h => absurd (show nI (n) ≤ nI (n) from nI_le (by omega) (by omega)) h)
  refine lv_iload_n hx hb dX0_textOf_20 rfl (lv_at hl 2 rfl) ?_
  refine lv_iload_n hx hb dX0_textOf_21 rfl (lv_at hl 1 rfl) ?_
  refine lv_isub hx hb dX0_textOf_22 (lv_topi (fun f1 ef => ?_))
  obtain rfl : f1 = nI (n) := (show f1 = nI (n) - nI (0) from ef).trans ((pk_sub (by omega)).trans (congrArg nI (by omega)))
  have h_1 : 0 + 1 ≤ 3 := by omega
  have h_2 : 0 + (n) ≤ 404 := by omega
  refine va_newa (atype := .char) (N' := n) (a0 := (n, .inl z0)) hx hb (hts (.arrayClass .char) (by decide +kernel)) rfl hK hP hD hS hA (fun _ => rfl) (nI_pos (by omega)) (nI_clamp (by omega)) (Nat.le_trans (Nat.mul_le_mul_right _ (show n ≤ 200 by omega)) (Nat.le_of_ble_eq_true rfl)) h_1 h_2 dX0_textOf_23 (fun q1 cA H hK2 hP hD hS => ?_)
  obtain rfl := rf_char hK2
  have hP : va_P D vwCl [(r0, .inr (2, [.ref g0, .int (nI (n))])), (g0, .inl (E 2, 256, .inl z0)), (q1, .inl (E 1, n, .inl z0))] H := hP
  have hD : va_D A [(r0, .inr (2, [.ref g0, .int (nI (n))])), (g0, .inl (E 2, 256, .inl z0)), (q1, .inl (E 1, n, .inl z0))] := hD
  refine W.widen (k := 1) (n := 200) (by omega) (by omega) ?_
  refine lv_astore_n hx hb dX0_textOf_25 rfl hl (Nat.le_of_ble_eq_true rfl) rfl (fun ls hl => ?_)
  have hl : lv_has ls 5 [(3, .ref q1), (0, .ref r0), (1, .int (nI 0)), (2, .int (nI n))] := hl
  refine lv_iconst (v := nI 0) hx hb dX0_textOf_26 (by decide) ?_
  refine lv_istore hx hb dX0_textOf_27 hl (Nat.le_of_ble_eq_true rfl) rfl (fun ls hl => ?_)
  have hl : lv_has ls 5 [(4, .int (nI 0)), (3, .ref q1), (0, .ref r0), (1, .int (nI 0)), (2, .int (nI n))] := hl
  have hl : lv_has ls 5 [(0, .ref r0), (1, .int (nI 0)), (2, .int (nI n)), (3, .ref q1), (4, .int (nI 0))] := lv_sub hl [2, 3, 4, 1, 0] rfl
  refine rf_loop (n) 0 0 (fun k H locs ls => lv_has ls 5 [(0, .ref r0), (1, .int (nI 0)), (2, .int (nI n)), (3, .ref q1), (4, .int (nI (k)))] ∧ va_P D vwCl [(r0, .inr (2, [.ref g0, .int (nI (n))])), (g0, .inl (E 2, 256, .inl z0)), (q1, .inl (E 1, n, .inl z0))] H ∧ va_D A [(r0, .inr (2, [.ref g0, .int (nI (n))])), (g0, .inl (E 2, 256, .inl z0)), (q1, .inl (E 1, n, .inl z0))] ∧ va_S A s.heap H locs) ⟨hl, hP, hD, hS⟩ ?_ ?_
  · intro H locs ls hI
    obtain ⟨hl, hP, hD, hS⟩ := hI
    refine lv_iload hx hb dX0_textOf_29 (lv_at hl 4 rfl) ?_
    refine lv_aload_n hx hb dX0_textOf_31 rfl (lv_at hl 3 rfl) ?_
    refine va_alen (v := nI (n)) hx hb hK hP 2 1 rfl rfl rfl dX0_textOf_32 ?_
    refine lv_icmp_ge (tgt := 56) hx hb dX0_textOf_33 rfl (fun _ => ?_) (fun h => absurd (show nI (n) ≤ nI (n) from nI_le (by omega) (by omega)) h)
    have h_1 : 1 + n * 0 + 1 ≤ 3 := by omega
    have h_2 : 200 + n * 0 + 4 ≤ 404 := by omega
    refine va_new (ci := 0) (fs := [.null, .int 0, .int 0, .int 0]) (C := RJ0) (T := TJ0) (N := 4) hx hb hts (by decide +kernel) tyJ0 tyJ0_ok hown (hts (.classLink RX0 30 RJ0) (by decide +kernel)) (hts (.instantiable RJ0 4) (by decide +kernel)) (hts (.initialized RJ0) (by decide +kernel)) hK hP hD hS hA rfl (fun j hj => by rcases (show j = 0 ∨ j = 1 ∨ j = 2 ∨ j = 3 by omega) with rfl | rfl | rfl | rfl <;> rfl) h_1 h_2 dX0_textOf_56 (fun q2 H hP hD hS => ?_)
    have hP : va_P D vwCl [(r0, .inr (2, [.ref g0, .int (nI (n))])), (g0, .inl (E 2, 256, .inl z0)), (q1, .inl (E 1, n, .inl z0)), (q2, .inr (0, [.null, .int 0, .int 0, .int 0]))] H := hP
    have hD : va_D A [(r0, .inr (2, [.ref g0, .int (nI (n))])), (g0, .inl (E 2, 256, .inl z0)), (q1, .inl (E 1, n, .inl z0)), (q2, .inr (0, [.null, .int 0, .int 0, .int 0]))] := hD
    refine W.widen (k := 1 + n * 0 + 1) (n := 200 + n * 0 + 4) (by omega) (by omega) ?_
    refine lv_dup hx hb dX0_textOf_59 rfl ?_
    refine lv_aload_n hx hb dX0_textOf_60 rfl (lv_at hl 3 rfl) ?_
    have hPc := hP.sub (ws' := [(q2, .inr (0, [.null, .int 0, .int 0, .int 0])), (q1, .inl (E 1, n, .inl z0))]) [3, 2] rfl
    have hDc := hD.sub (ws' := [(q2, .inr (0, [.null, .int 0, .int 0, .int 0])), (q1, .inl (E 1, n, .inl z0))]) [3, 2] (by decide) rfl
    have hFc := va_free (wc := [(q2, .inr (0, [.null, .int 0, .int 0, .int 0])), (q1, .inl (E 1, n, .inl z0))]) hD hS hA [3, 2] rfl
    have h_1 : 1 + n * 0 + 1 + 1 ≤ 3 := by omega
    have h_2 : 200 + n * 0 + 4 + 200 ≤ 404 := by omega
    refine va_callv (va_runI (As := [.ref q1]) (rest := [.ref q2]) ⟨hx, hb, hml, hown, hts⟩ (c_J0_init_905df l D E H.size (q2) (q1) (n) (by omega) (by omega)) (cwI 1 hts gX0_textOf_J0_init_905df rfl rfl rfl (hts (.initialized RJ0) (by decide +kernel)) (hts (.methodLink RX0 52 yJ0_init_905df) (by decide +kernel)) (hts (.instanceMethod yJ0_init_905df) (by decide +kernel)) rfl (by decide +kernel) ⟨Nat.le_of_ble_eq_true rfl, Nat.le_of_ble_eq_true rfl⟩) ⟨rf_blind _, fun U hU hW => ⟨rfl, rf_pre hK hPc hDc hZ hN hS hFc U hU hW⟩⟩ rfl rfl hl.1 rfl (lv_room (Nat.le_of_ble_eq_true rfl)) dX0_textOf_61 ⟨h_1, h_2⟩) hS (fun q _ h => hFc q h) hFc (fun u t H1 locs ht hvm hw hB hz1 hk1 hS => ?_)
    obtain ⟨hP1, hD1⟩ := hB
    rw [ht] at hP1
    try dsimp only at hw hP1 hD1
    obtain ⟨hP, hD⟩ := va_join (wr := [(r0, .inr (2, [.ref g0, .int (nI (n))])), (g0, .inl (E 2, 256, .inl z0))]) (w1 := [(q2, .inr (0, [.ref u, .int 0, .int 0, .int 0])), (u, .inl (E 0, n, .inl z0)), (q1, .inl (E 1, n, .inl z0))]) hP hD [3, 2] [0, 1] rfl rfl (by decide) (by decide) hk1 hFc hP1 hD1
    clear hPc hDc hFc hP1 hD1 hk1 hz1 ht
    generalize H1 = H at hP hS ⊢
    have hP : va_P D vwCl [(r0, .inr (2, [.ref g0, .int (nI (n))])), (g0, .inl (E 2, 256, .inl z0)), (q2, .inr (0, [.ref u, .int 0, .int 0, .int 0])), (u, .inl (E 0, n, .inl z0)), (q1, .inl (E 1, n, .inl z0))] H := hP
    have hD : va_D A [(r0, .inr (2, [.ref g0, .int (nI (n))])), (g0, .inl (E 2, 256, .inl z0)), (q2, .inr (0, [.ref u, .int 0, .int 0, .int 0])), (u, .inl (E 0, n, .inl z0)), (q1, .inl (E 1, n, .inl z0))] := hD
    refine W.widen (k := 1 + n * 0 + 2) (n := 200 + n * 0 + 204) (by omega) (by omega) ?_
    refine W.widen (k := 3) (n := 404) (by omega) (by omega) ?_
    have hP := hP.sub (ws' := [(q2, .inr (0, [.ref u, .int 0, .int 0, .int 0])), (u, .inl (E 0, n, .inl z0)), (r0, .inr (2, [.ref g0, .int (nI (n))])), (g0, .inl (E 2, 256, .inl z0))]) [2, 3, 0, 1] rfl
    have hD := hD.sub (ws' := [(q2, .inr (0, [.ref u, .int 0, .int 0, .int 0])), (u, .inl (E 0, n, .inl z0)), (r0, .inr (2, [.ref g0, .int (nI (n))])), (g0, .inl (E 2, 256, .inl z0))]) [2, 3, 0, 1] (by decide) rfl
    exact W.aret (v := .ref q2) hx hb hr (Or.inl ⟨_, rfl⟩) (Or.inr ⟨_, rfl⟩) (fun t ht hW => ⟨⟨u, q2, rfl, trivial, rf_end ht hP hD⟩, hS.F ht⟩) hS.2.2 dX0_textOf_64
  · intro k H locs ls hkN hI kk
    obtain ⟨hl, hP, hD, hS⟩ := hI
    refine lv_iload hx hb dX0_textOf_29 (lv_at hl 4 rfl) ?_
    refine lv_aload_n hx hb dX0_textOf_31 rfl (lv_at hl 3 rfl) ?_
    refine va_alen (v := nI (n)) hx hb hK hP 2 1 rfl rfl rfl dX0_textOf_32 ?_
    refine lv_icmp_ge (tgt := 56) hx hb dX0_textOf_33 rfl (fun h => absurd h (show ¬ nI (n) ≤ nI (k) from nI_ge (by omega) (by omega))) (fun _ => ?_)
    refine lv_aload_n hx hb dX0_textOf_36 rfl (lv_at hl 3 rfl) ?_
    refine lv_iload hx hb dX0_textOf_37 (lv_at hl 4 rfl) ?_
    refine lv_aload_n hx hb dX0_textOf_39 rfl (lv_at hl 0 rfl) ?_
    refine va_get (D := D) (ci := 2) (v := .ref g0) (C := RX0) (T := TX0) (N := 2) hx hb hts (by decide +kernel) hown hK hP 0 rfl rfl 0 (by decide) (hts (.fieldLink RX0 9 "Tapebuffer$Row" "signs" "[I") (by decide +kernel)) (fun _ h9 => h9) rfl dX0_textOf_40 ?_
    refine lv_iload_n hx hb dX0_textOf_43 rfl (lv_at hl 1 rfl) ?_
    refine lv_iload hx hb dX0_textOf_44 (lv_at hl 4 rfl) ?_
    refine lv_iadd hx hb dX0_textOf_46 (lv_topi (fun f2 ef => ?_))
    obtain rfl : f2 = nI (k) := (show f2 = nI (0) + nI (k) from ef).trans ((nI_add _ _).trans (congrArg nI (by omega)))
    refine va_iald hx hb hK hP 1 2 rfl rfl (vp_in_nI (by omega) (by omega)) dX0_textOf_47 (W.eq (g2 := F0 mI 48 ls (.int 0 :: [.int (nI (k)), .ref q1])) rfl ?_)
    refine lv_i2c (v := 0) hx hb dX0_textOf_48 (by decide) ?_
    refine va_cast hx hb hK hP hD hS 2 1 rfl rfl (vp_in_nI (by omega) (by omega)) dX0_textOf_49 (fun H locs hP hD hS => ?_)
    rw [rf_uc] at hP hD
    have hP : va_P D vwCl [(r0, .inr (2, [.ref g0, .int (nI (n))])), (g0, .inl (E 2, 256, .inl z0)), (q1, .inl (E 1, n, .inl z0))] H := hP
    have hD : va_D A [(r0, .inr (2, [.ref g0, .int (nI (n))])), (g0, .inl (E 2, 256, .inl z0)), (q1, .inl (E 1, n, .inl z0))] := hD
    refine lv_iinc (v := nI (k + 1)) hx hb dX0_textOf_50 hl (k := 4) rfl ((show nI (k) + Int32.ofInt 1 = nI (k) + nI 1 from rfl).trans ((nI_add _ _).trans (congrArg nI (by omega)))) (Nat.le_of_ble_eq_true rfl) rfl (fun ls hl => ?_)
    have hl : lv_has ls 5 [(4, .int (nI (k + 1))), (0, .ref r0), (1, .int (nI 0)), (2, .int (nI n)), (3, .ref q1)] := hl
    have hl : lv_has ls 5 [(0, .ref r0), (1, .int (nI 0)), (2, .int (nI n)), (3, .ref q1), (4, .int (nI (k + 1)))] := lv_sub hl [1, 2, 3, 4, 0] rfl
    refine lv_goto (tgt := 29) hx hb dX0_textOf_53 rfl ?_
    refine W.widen (k := 1 + (k + 1) * 0) (n := 200 + (k + 1) * 0) (by omega) (by omega) ?_
    exact kk _ _ _ ⟨hl, hP, hD, hS⟩
set_option maxHeartbeats 4000000 in
set_option maxRecDepth 100000 in
/-- text(0) -/
theorem c_X1_text (l : Launch) (D : va_G) (E : Nat → ClassId) (sz : Nat) (x0 t0 r0 g0 n : Nat) (f : Nat → Option Nat) (p1 p2 p3 p4 p5 p6 : Value) (hf : f 0 = some r0) (hn : n ≤ 200) (h1 : 0 < n) : Met l yX1_text wsX1_text ({ frames := 7, cells := 3, slots := 404, locals := 1200 }) (va_Pc [.ref x0, .int (nI 0)] (rf_P D E [(x0, .inr (3, [.ref t0, p1, p2, p3, p4, p5, p6])), (t0, .inl (E 3, 4, .inr (.inr (.inr (.inr f))))), (r0, .inr (2, [.ref g0, .int (nI (n))])), (g0, .inl (E 2, 256, .inl z0))] sz)) (va_Qr (fun (u : Nat) => True) (fun (u : Nat) (ra : Nat) (t : State) => rf_B D (va_A [(x0, .inr (3, [.ref t0, p1, p2, p3, p4, p5, p6])), (t0, .inl (E 3, 4, .inr (.inr (.inr (.inr f))))), (r0, .inr (2, [.ref g0, .int (nI (n))])), (g0, .inl (E 2, 256, .inl z0))] sz) [(ra, .inr (0, [.ref u, .int 0, .int 0, .int 0])), (u, .inl (E 0, n, .inl z0)), (x0, .inr (3, [.ref t0, p1, p2, p3, p4, p5, p6])), (t0, .inl (E 3, 4, .inr (.inr (.inr (.inr f))))), (r0, .inr (2, [.ref g0, .int (nI (n))])), (g0, .inl (E 2, 256, .inl z0))] t) (va_A [(x0, .inr (3, [.ref t0, p1, p2, p3, p4, p5, p6])), (t0, .inl (E 3, 4, .inr (.inr (.inr (.inr f))))), (r0, .inr (2, [.ref g0, .int (nI (n))])), (g0, .inl (E 2, 256, .inl z0))] sz)) 3 404 (va_A [(x0, .inr (3, [.ref t0, p1, p2, p3, p4, p5, p6])), (t0, .inl (E 3, 4, .inr (.inr (.inr (.inr f))))), (r0, .inr (2, [.ref g0, .int (nI (n))])), (g0, .inl (E 2, 256, .inl z0))] sz) := by
  refine Met.ofW (cc := cX1_text) (maxL := 3) (ret := (some (.object "java/lang/String"))) (by decide) rfl ?_
  intro p e s mI args below meth c s₁ B hml hv
  obtain ⟨rfl, hsz, hP, hK, hD0, hZ, hN⟩ := hv
  have hx := B.exec
  have hb := B.bytes
  have hr := B.returns
  have hts := atoms_spec (ws := wsX1_text) B.pre
  have hown : s.vm.findClass RX1 = some mI.cls := findClass_of_methodNamed B.named
  have hlocks := B.notSynchronized
  subst hsz
  have hD := hD0.self (sz := s.heap.size)
  generalize hAe : va_A [(x0, .inr (3, [.ref t0, p1, p2, p3, p4, p5, p6])), (t0, .inl (E 3, 4, .inr (.inr (.inr (.inr f))))), (r0, .inr (2, [.ref g0, .int (nI (n))])), (g0, .inl (E 2, 256, .inl z0))] s.heap.size = A at hD hZ ⊢
  have hA : ∀ q : Nat, s.heap.size ≤ q → A q := fun q h => by rw [← hAe]; exact Or.inr h
  have hS : va_S A s.heap s.heap [] := va_S.rf
  have hl := lv_entry ([.ref x0, .int (nI 0)]) (n := 3) (Nat.le_of_ble_eq_true rfl)
  rw [lg_entry_eq]
  generalize (lg_sl ([.ref x0, .int (nI 0)]) ++ List.replicate (3 - (lg_sl ([.ref x0, .int (nI 0)])).length) Slot.unset).toArray = ls at hl ⊢
  clear hAe hD0
  have hl : lv_has ls 3 [(0, .ref x0), (1, .int (nI 0))] := hl
  obtain ⟨H, hH⟩ : ∃ H, H = s.heap := ⟨_, rfl⟩
  rw [← hH] at hP
  have hS : va_S A s.heap H [] := by rw [hH]; exact hS
  refine rf_heap hH ?_
  refine lv_aload_n hx hb dX1_text_0 rfl (lv_at hl 0 rfl) ?_
  refine lv_iload_n hx hb dX1_text_1 rfl (lv_at hl 1 rfl) ?_
  have hPc := hP.sub (ws' := [(x0, .inr (3, [.ref t0, p1, p2, p3, p4, p5, p6])), (t0, .inl (E 3, 4, .inr (.inr (.inr (.inr f)))))]) [0, 1] rfl
  have hDc := hD.sub (ws' := [(x0, .inr (3, [.ref t0, p1, p2, p3, p4, p5, p6])), (t0, .inl (E 3, 4, .inr (.inr (.inr (.inr f)))))]) [0, 1] (by decide) rfl
  have hFc := va_free (wc := [(x0, .inr (3, [.ref t0, p1, p2, p3, p4, p5, p6])), (t0, .inl (E 3, 4, .inr (.inr (.inr (.inr f)))))]) hD hS hA [0, 1] rfl
  have h_1 : 0 + 0 ≤ 3 := by omega
  have h_2 : 0 + 0 ≤ 404 := by omega
  refine va_callr (va_runV (As := [.int (nI 0)]) (rest := []) ⟨hx, hb, hml, hown, hts⟩ (c_X1_tapeOf l D E H.size (x0) (t0) (r0) (f) (p1) (p2) (p3) (p4) (p5) (p6) (hf)) (cwV 1 hts gX1_text_X1_tapeOf rfl rfl rfl (by decide +kernel) ⟨Nat.le_of_ble_eq_true rfl, Nat.le_of_ble_eq_true rfl⟩) ⟨rf_blind _, va_recv hK hPc (ci := 3) (q0 := 0) rfl rfl, fun U hU hW => ⟨rfl, rf_pre hK hPc hDc hZ hN hS hFc U hU hW⟩⟩ rfl rfl hl.1 rfl (lv_room (Nat.le_of_ble_eq_true rfl)) dX1_text_2 ⟨h_1, h_2⟩) hS (fun q _ h => hFc q h) hFc (fun u ra t H1 locs ht hvm hw hB hz1 hk1 hS => ?_)
  obtain ⟨hra, hP1, hD1⟩ := hB
  try dsimp only at hra
  subst ra
  rw [ht] at hP1
  try dsimp only at hw hP1 hD1
  obtain ⟨hP, hD⟩ := va_join (wr := [(r0, .inr (2, [.ref g0, .int (nI (n))])), (g0, .inl (E 2, 256, .inl z0))]) (w1 := [(x0, .inr (3, [.ref t0, p1, p2, p3, p4, p5, p6])), (t0, .inl (E 3, 4, .inr (.inr (.inr (.inr f)))))]) hP hD [0, 1] [2, 3] rfl rfl (by decide) (by decide) hk1 hFc hP1 hD1
  clear hPc hDc hFc hP1 hD1 hk1 hz1 ht
  generalize H1 = H at hP hS ⊢
  have hP : va_P D vwCl [(r0, .inr (2, [.ref g0, .int (nI (n))])), (g0, .inl (E 2, 256, .inl z0)), (x0, .inr (3, [.ref t0, p1, p2, p3, p4, p5, p6])), (t0, .inl (E 3, 4, .inr (.inr (.inr (.inr f)))))] H := hP
  have hD : va_D A [(r0, .inr (2, [.ref g0, .int (nI (n))])), (g0, .inl (E 2, 256, .inl z0)), (x0, .inr (3, [.ref t0, p1, p2, p3, p4, p5, p6])), (t0, .inl (E 3, 4, .inr (.inr (.inr (.inr f)))))] := hD
  refine lv_astore_n hx hb dX1_text_5 rfl hl (Nat.le_of_ble_eq_true rfl) rfl (fun ls hl => ?_)
  have hl : lv_has ls 3 [(2, .ref r0), (0, .ref x0), (1, .int (nI 0))] := hl
  refine lv_aload_n hx hb dX1_text_6 rfl (lv_at hl 0 rfl) ?_
  refine lv_iconst (v := nI 0) hx hb dX1_text_7 (by decide) ?_
  refine lv_aload_n hx hb dX1_text_8 rfl (lv_at hl 0 rfl) ?_
  refine va_get (D := D) (ci := 2) (v := .int (nI (n))) (C := RX0) (T := TX0) (N := 2) hx hb hts (by decide +kernel) hown hK hP 0 rfl rfl 1 (by decide) (hts (.fieldLink RX1 92 "Tapebuffer$Row" "size" "I") (by decide +kernel)) (fun _ h9 => h9) rfl dX1_text_9 ?_
  have hPc := hP.sub (ws' := [(r0, .inr (2, [.ref g0, .int (nI (n))])), (g0, .inl (E 2, 256, .inl z0))]) [0, 1] rfl
  have hDc := hD.sub (ws' := [(r0, .inr (2, [.ref g0, .int (nI (n))])), (g0, .inl (E 2, 256, .inl z0))]) [0, 1] (by decide) rfl
  have hFc := va_free (wc := [(r0, .inr (2, [.ref g0, .int (nI (n))])), (g0, .inl (E 2, 256, .inl z0))]) hD hS hA [0, 1] rfl
  have h_1 : 0 + 3 ≤ 3 := by omega
  have h_2 : 0 + 404 ≤ 404 := by omega
  refine va_callr (va_runV (As := [.int (nI 0), .int (nI (n))]) (rest := []) ⟨hx, hb, hml, hown, hts⟩ (c_X0_textOf l D E H.size (r0) (g0) (n) (by omega) (by omega)) (cwV 2 hts gX1_text_X0_textOf rfl rfl rfl (by decide +kernel) ⟨Nat.le_of_ble_eq_true rfl, Nat.le_of_ble_eq_true rfl⟩) ⟨rf_blind _, va_recv hK hPc (ci := 2) (q0 := 0) rfl rfl, fun U hU hW => ⟨rfl, rf_pre hK hPc hDc hZ hN hS hFc U hU hW⟩⟩ rfl rfl hl.1 rfl (lv_room (Nat.le_of_ble_eq_true rfl)) dX1_text_12 ⟨h_1, h_2⟩) hS (fun q _ h => hFc q h) hFc (fun u ra t H1 locs ht hvm hw hB hz1 hk1 hS => ?_)
  obtain ⟨hP1, hD1⟩ := hB
  rw [ht] at hP1
  try dsimp only at hw hP1 hD1
  obtain ⟨hP, hD⟩ := va_join (wr := [(x0, .inr (3, [.ref t0, p1, p2, p3, p4, p5, p6])), (t0, .inl (E 3, 4, .inr (.inr (.inr (.inr f)))))]) (w1 := [(ra, .inr (0, [.ref u, .int 0, .int 0, .int 0])), (u, .inl (E 0, n, .inl z0)), (r0, .inr (2, [.ref g0, .int (nI (n))])), (g0, .inl (E 2, 256, .inl z0))]) hP hD [0, 1] [2, 3] rfl rfl (by decide) (by decide) hk1 hFc hP1 hD1
  clear hPc hDc hFc hP1 hD1 hk1 hz1 ht
  generalize H1 = H at hP hS ⊢
  have hP : va_P D vwCl [(x0, .inr (3, [.ref t0, p1, p2, p3, p4, p5, p6])), (t0, .inl (E 3, 4, .inr (.inr (.inr (.inr f))))), (ra, .inr (0, [.ref u, .int 0, .int 0, .int 0])), (u, .inl (E 0, n, .inl z0)), (r0, .inr (2, [.ref g0, .int (nI (n))])), (g0, .inl (E 2, 256, .inl z0))] H := hP
  have hD : va_D A [(x0, .inr (3, [.ref t0, p1, p2, p3, p4, p5, p6])), (t0, .inl (E 3, 4, .inr (.inr (.inr (.inr f))))), (ra, .inr (0, [.ref u, .int 0, .int 0, .int 0])), (u, .inl (E 0, n, .inl z0)), (r0, .inr (2, [.ref g0, .int (nI (n))])), (g0, .inl (E 2, 256, .inl z0))] := hD
  refine W.widen (k := 3) (n := 404) (by omega) (by omega) ?_
  have hP := hP.sub (ws' := [(ra, .inr (0, [.ref u, .int 0, .int 0, .int 0])), (u, .inl (E 0, n, .inl z0)), (x0, .inr (3, [.ref t0, p1, p2, p3, p4, p5, p6])), (t0, .inl (E 3, 4, .inr (.inr (.inr (.inr f))))), (r0, .inr (2, [.ref g0, .int (nI (n))])), (g0, .inl (E 2, 256, .inl z0))]) [2, 3, 0, 1, 4, 5] rfl
  have hD := hD.sub (ws' := [(ra, .inr (0, [.ref u, .int 0, .int 0, .int 0])), (u, .inl (E 0, n, .inl z0)), (x0, .inr (3, [.ref t0, p1, p2, p3, p4, p5, p6])), (t0, .inl (E 3, 4, .inr (.inr (.inr (.inr f))))), (r0, .inr (2, [.ref g0, .int (nI (n))])), (g0, .inl (E 2, 256, .inl z0))]) [2, 3, 0, 1, 4, 5] (by decide) rfl
  exact W.aret (v := .ref ra) hx hb hr (Or.inl ⟨_, rfl⟩) (Or.inr ⟨_, rfl⟩) (fun t ht hW => ⟨⟨u, ra, rfl, trivial, rf_end ht hP hD⟩, hS.F ht⟩) hS.2.2 dX1_text_15
set_option maxHeartbeats 4000000 in
set_option maxRecDepth 100000 in
/-- Row() -/
theorem c_X0_init (l : Launch) (D : va_G) (E : Nat → ClassId) (sz : Nat) (r0 : Nat)  : Met l yX0_init wsX0_init ({ frames := 2, cells := 1, slots := 256, locals := 200 }) (va_Pc [.ref r0] (rf_P D E [(r0, .inr (2, [.null, .int 0]))] sz)) (va_Qv (fun (u : Nat) => True) (fun (u : Nat) (t : State) => rf_B D (va_A [(r0, .inr (2, [.null, .int 0]))] sz) [(r0, .inr (2, [.ref u, .int 0])), (u, .inl (E 2, 256, .inl z0))] t) (va_A [(r0, .inr (2, [.null, .int 0]))] sz)) 1 256 (va_A [(r0, .inr (2, [.null, .int 0]))] sz) := by
  refine Met.ofW (cc := cX0_init) (maxL := 1) (ret := none) (by decide) rfl ?_
  intro p e s mI args below meth c s₁ B hml hv
  obtain ⟨rfl, hsz, hP, hK, hD0, hZ, hN⟩ := hv
  have hx := B.exec
  have hb := B.bytes
  have hr := B.returns
  have hts := atoms_spec (ws := wsX0_init) B.pre
  have hown : s.vm.findClass RX0 = some mI.cls := findClass_of_methodNamed B.named
  have hlocks := B.notSynchronized
  have hin : meth.name = "<init>" := (name_of_methodNamed B.named B.method).1
  subst hsz
  have hD := hD0.self (sz := s.heap.size)
  generalize hAe : va_A [(r0, .inr (2, [.null, .int 0]))] s.heap.size = A at hD hZ ⊢
  have hA : ∀ q : Nat, s.heap.size ≤ q → A q := fun q h => by rw [← hAe]; exact Or.inr h
  have hS : va_S A s.heap s.heap [] := va_S.rf
  have hl := lv_entry ([.ref r0]) (n := 1) (Nat.le_of_ble_eq_true rfl)
  rw [lg_entry_eq]
  generalize (lg_sl ([.ref r0]) ++ List.replicate (1 - (lg_sl ([.ref r0])).length) Slot.unset).toArray = ls at hl ⊢
  clear hAe hD0
  have hl : lv_has ls 1 [(0, .ref r0)] := hl
  obtain ⟨H, hH⟩ : ∃ H, H = s.heap := ⟨_, rfl⟩
  rw [← hH] at hP
  have hS : va_S A s.heap H [] := by rw [hH]; exact hS
  refine rf_heap hH ?_
  refine lv_aload_n hx hb dX0_init_0 rfl (lv_at hl 0 rfl) ?_
  refine W.objInit hx hb hown (hts (.methodLink RX0 3 objectInit) (by decide +kernel)) (hts (.instanceMethod objectInit) (by decide +kernel)) (hts (.code objectInit ⟨#[0xb1]⟩ 1 none) (by decide +kernel)) rfl (by rw [hml]; exact hl.1) rfl dX0_init_1 (Nat.le_of_ble_eq_true rfl) (Nat.le_of_ble_eq_true rfl) ?_
  refine W.eq (g2 := F0 mI 4 ls []) rfl ?_
  refine lv_aload_n hx hb dX0_init_4 rfl (lv_at hl 0 rfl) ?_
  refine lv_sipush (v := nI 256) hx hb dX0_init_5 (by decide) ?_
  have h_1 : 0 + 1 ≤ 1 := by omega
  have h_2 : 0 + (256) ≤ 256 := by omega
  refine va_newa (atype := .int) (N' := 256) (a0 := (256, .inl z0)) hx hb (hts (.arrayClass .int) (by decide +kernel)) rfl hK hP hD hS hA (fun _ => rfl) (nI_pos (by omega)) (nI_clamp (by omega)) (Nat.le_trans (Nat.mul_le_mul_right _ (show 256 ≤ 256 by omega)) (Nat.le_of_ble_eq_true rfl)) h_1 h_2 dX0_init_8 (fun q1 cA H hK2 hP hD hS => ?_)
  obtain rfl := rf_int hK2
  have hP : va_P D vwCl [(r0, .inr (2, [.null, .int 0])), (q1, .inl (E 2, 256, .inl z0))] H := hP
  have hD : va_D A [(r0, .inr (2, [.null, .int 0])), (q1, .inl (E 2, 256, .inl z0))] := hD
  refine W.widen (k := 1) (n := 256) (by omega) (by omega) ?_
  refine va_putF (D := D) (ci := 2) (v := .ref q1) (ty := .array .int) (C := RX0) (T := TX0) (N := 2) hx hb hts (by decide +kernel) tyX0 tyX0_ok nmX0 hown hK hP hD hS 0 rfl rfl 0 (by decide) (hts (.fieldLink RX0 9 "Tapebuffer$Row" "signs" "[I") (by decide +kernel)) (fun _ h9 => h9) rfl hin rfl (by decide +kernel) rfl rfl (Nat.le_of_ble_eq_true rfl) dX0_init_10 (fun H locs hP hD hS => ?_)
  have hP : va_P D vwCl [(r0, .inr (2, [.ref q1, .int 0])), (q1, .inl (E 2, 256, .inl z0))] H := hP
  have hD : va_D A [(r0, .inr (2, [.ref q1, .int 0])), (q1, .inl (E 2, 256, .inl z0))] := hD
  exact W.vret hx hb hr (fun t ht hW => ⟨⟨q1, rfl, trivial, rf_end ht hP hD⟩, hS.F ht⟩) hS.2.2 dX0_init_13
set_option maxHeartbeats 4000000 in
set_option maxRecDepth 100000 in
/-- Out() -/
theorem c_X2_init (l : Launch) (D : va_G) (E : Nat → ClassId) (sz : Nat) (o0 : Nat)  : Met l yX2_init wsX2_init ({ frames := 2, cells := 0, slots := 0, locals := 200 }) (va_Pc [.ref o0] (rf_P D E [(o0, .inr (4, [.long 0, .null]))] sz)) (va_Qv (fun (u : Unit) => True) (fun (u : Unit) (t : State) => rf_B D (va_A [(o0, .inr (4, [.long 0, .null]))] sz) [(o0, .inr (4, [.long 0, .null]))] t) (va_A [(o0, .inr (4, [.long 0, .null]))] sz)) 0 0 (va_A [(o0, .inr (4, [.long 0, .null]))] sz) := by
  refine Met.ofW (cc := cX2_init) (maxL := 1) (ret := none) (by decide) rfl ?_
  intro p e s mI args below meth c s₁ B hml hv
  obtain ⟨rfl, hsz, hP, hK, hD0, hZ, hN⟩ := hv
  have hx := B.exec
  have hb := B.bytes
  have hr := B.returns
  have hts := atoms_spec (ws := wsX2_init) B.pre
  have hown : s.vm.findClass RX2 = some mI.cls := findClass_of_methodNamed B.named
  have hlocks := B.notSynchronized
  have hin : meth.name = "<init>" := (name_of_methodNamed B.named B.method).1
  subst hsz
  have hD := hD0.self (sz := s.heap.size)
  generalize hAe : va_A [(o0, .inr (4, [.long 0, .null]))] s.heap.size = A at hD hZ ⊢
  have hA : ∀ q : Nat, s.heap.size ≤ q → A q := fun q h => by rw [← hAe]; exact Or.inr h
  have hS : va_S A s.heap s.heap [] := va_S.rf
  have hl := lv_entry ([.ref o0]) (n := 1) (Nat.le_of_ble_eq_true rfl)
  rw [lg_entry_eq]
  generalize (lg_sl ([.ref o0]) ++ List.replicate (1 - (lg_sl ([.ref o0])).length) Slot.unset).toArray = ls at hl ⊢
  clear hAe hD0
  have hl : lv_has ls 1 [(0, .ref o0)] := hl
  obtain ⟨H, hH⟩ : ∃ H, H = s.heap := ⟨_, rfl⟩
  rw [← hH] at hP
  have hS : va_S A s.heap H [] := by rw [hH]; exact hS
  refine rf_heap hH ?_
  refine lv_aload_n hx hb dX2_init_0 rfl (lv_at hl 0 rfl) ?_
  refine W.objInit hx hb hown (hts (.methodLink RX2 1 objectInit) (by decide +kernel)) (hts (.instanceMethod objectInit) (by decide +kernel)) (hts (.code objectInit ⟨#[0xb1]⟩ 1 none) (by decide +kernel)) rfl (by rw [hml]; exact hl.1) rfl dX2_init_1 (Nat.le_of_ble_eq_true rfl) (Nat.le_of_ble_eq_true rfl) ?_
  refine W.eq (g2 := F0 mI 4 ls []) rfl ?_
  exact W.vret hx hb hr (fun t ht hW => ⟨⟨(), rfl, trivial, rf_end ht hP hD⟩, hS.F ht⟩) hS.2.2 dX2_init_4
