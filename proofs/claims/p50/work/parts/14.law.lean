set_option maxHeartbeats 4000000 in
set_option maxRecDepth 100000 in
/-- the reference: text(0) -/
theorem c_X3_text_ (l : Launch) (D : va_G) (E : Nat → ClassId) (sz : Nat) (m0 t1 y0 kb n : Nat) (th : Int32) (f : Nat → Option Nat) (kh kz : Value) (a2 a3 a4 a5 : Value) (hf : f 0 = some y0) (hn : n + 1 ≤ 200) : Met l yX3_text_ wsX3_text_ ({ frames := 9, cells := 1400, slots := 700000, locals := 1600 }) (va_Pc [.ref m0, .int (nI 0)] (rf_P D E [(m0, .inr (5, [.int th, .ref t1, a2, a3, a4, a5])), (t1, .inl (E 4, 4, .inr (.inr (.inr (.inr f))))), (y0, .inl (E 2, n + 1, .inl z0)), ((E 5), .inr (0, [.ref kb, .int 0, kh, kz])), (kb, .inl (E 0, 0, .inl z0))] sz)) (va_Qr (fun (u : Nat × va_W) => rf_tri (n + 1) ≤ gs u.2) (fun (u : Nat × va_W) (ra : Nat) (t : State) => rf_B D (va_A [(m0, .inr (5, [.int th, .ref t1, a2, a3, a4, a5])), (t1, .inl (E 4, 4, .inr (.inr (.inr (.inr f))))), (y0, .inl (E 2, n + 1, .inl z0)), ((E 5), .inr (0, [.ref kb, .int 0, kh, kz])), (kb, .inl (E 0, 0, .inl z0))] sz) ([(m0, .inr (5, [.int 0, .ref t1, a2, a3, a4, a5])), (t1, .inl (E 4, 4, .inr (.inr (.inr (.inr f))))), (y0, .inl (E 2, n + 1, .inl z0)), ((E 5), .inr (0, [.ref kb, .int 0, kh, kz])), (kb, .inl (E 0, 0, .inl z0)), (ra, .inr (0, [.ref u.1, .int 0, .int 0, .int 0])), (u.1, .inl (E 0, n + 1, .inl z0))] ++ u.2) t) (va_A [(m0, .inr (5, [.int th, .ref t1, a2, a3, a4, a5])), (t1, .inl (E 4, 4, .inr (.inr (.inr (.inr f))))), (y0, .inl (E 2, n + 1, .inl z0)), ((E 5), .inr (0, [.ref kb, .int 0, kh, kz])), (kb, .inl (E 0, 0, .inl z0))] sz)) 1400 700000 (va_A [(m0, .inr (5, [.int th, .ref t1, a2, a3, a4, a5])), (t1, .inl (E 4, 4, .inr (.inr (.inr (.inr f))))), (y0, .inl (E 2, n + 1, .inl z0)), ((E 5), .inr (0, [.ref kb, .int 0, kh, kz])), (kb, .inl (E 0, 0, .inl z0))] sz) := by
  refine Met.ofW (cc := cX3_text_) (maxL := 2) (ret := (some (.object "java/lang/String"))) (by decide) rfl ?_
  intro p e s mI args below meth c s₁ B hml hv
  obtain ⟨rfl, hsz, hP, hK, hD0, hZ, hN⟩ := hv
  have hx := B.exec
  have hb := B.bytes
  have hr := B.returns
  have hts := atoms_spec (ws := wsX3_text_) B.pre
  have hown : s.vm.findClass RX3 = some mI.cls := findClass_of_methodNamed B.named
  have hlocks := B.notSynchronized
  subst hsz
  have hD := hD0.self (sz := s.heap.size)
  generalize hAe : va_A [(m0, .inr (5, [.int th, .ref t1, a2, a3, a4, a5])), (t1, .inl (E 4, 4, .inr (.inr (.inr (.inr f))))), (y0, .inl (E 2, n + 1, .inl z0)), ((E 5), .inr (0, [.ref kb, .int 0, kh, kz])), (kb, .inl (E 0, 0, .inl z0))] s.heap.size = A at hD hZ ⊢
  have hA : ∀ q : Nat, s.heap.size ≤ q → A q := fun q h => by rw [← hAe]; exact Or.inr h
  have hS : va_S A s.heap s.heap [] := va_S.rf
  have hl := lv_entry ([.ref m0, .int (nI 0)]) (n := 2) (Nat.le_of_ble_eq_true rfl)
  rw [lg_entry_eq]
  generalize (lg_sl ([.ref m0, .int (nI 0)]) ++ List.replicate (2 - (lg_sl ([.ref m0, .int (nI 0)])).length) Slot.unset).toArray = ls at hl ⊢
  clear hAe hD0
  have hl : lv_has ls 2 [(0, .ref m0), (1, .int (nI 0))] := hl
  obtain ⟨H, hH⟩ : ∃ H, H = s.heap := ⟨_, rfl⟩
  rw [← hH] at hP
  have hS : va_S A s.heap H [] := by rw [hH]; exact hS
  refine rf_heap hH ?_
  refine lv_aload_n hx hb dX3_text__0 rfl (lv_at hl 0 rfl) ?_
  refine lv_iload_n hx hb dX3_text__1 rfl (lv_at hl 1 rfl) ?_
  have hPc := hP.sub (ws' := []) [] rfl
  have hDc := hD.sub (ws' := []) [] (by decide) rfl
  have hFc := va_free (wc := []) hD hS hA [] rfl
  have h_1 : 0 + 0 ≤ 1400 := by omega
  have h_2 : 0 + 0 ≤ 700000 := by omega
  refine va_calli (va_runS (As := [.int (nI 0)]) (rest := [.ref m0]) ⟨hx, hb, hml, hown, hts⟩ (c_X3_isNoTape l D E H.size ) (va_cwS 1 hts gX3_text__X3_isNoTape rfl rfl rfl (by decide +kernel) ⟨Nat.le_of_ble_eq_true rfl, Nat.le_of_ble_eq_true rfl⟩) ⟨rf_blind _, fun U hU hW => ⟨rfl, rf_pre hK hPc hDc hZ hN hS hFc U hU hW⟩⟩ rfl rfl hl.1 rfl (lv_room (Nat.le_of_ble_eq_true rfl)) dX3_text__2 ⟨h_1, h_2⟩) hS (fun q _ h => hFc q h) hFc (fun r u t H1 locs ht hvm hw hB hz1 hk1 hS => ?_)
  obtain ⟨hP1, hD1⟩ := hB
  rw [ht] at hP1
  try dsimp only at hw hP1 hD1
  obtain rfl := hw
  obtain ⟨hP, hD⟩ := va_join (wr := [(m0, .inr (5, [.int th, .ref t1, a2, a3, a4, a5])), (t1, .inl (E 4, 4, .inr (.inr (.inr (.inr f))))), (y0, .inl (E 2, n + 1, .inl z0)), ((E 5), .inr (0, [.ref kb, .int 0, kh, kz])), (kb, .inl (E 0, 0, .inl z0))]) (w1 := []) hP hD [] [0, 1, 2, 3, 4] rfl rfl (by decide) (by decide) hk1 hFc hP1 hD1
  clear hPc hDc hFc hP1 hD1 hk1 hz1 ht
  generalize H1 = H at hP hS ⊢
  have hP : va_P D vwCl [(m0, .inr (5, [.int th, .ref t1, a2, a3, a4, a5])), (t1, .inl (E 4, 4, .inr (.inr (.inr (.inr f))))), (y0, .inl (E 2, n + 1, .inl z0)), ((E 5), .inr (0, [.ref kb, .int 0, kh, kz])), (kb, .inl (E 0, 0, .inl z0))] H := hP
  have hD : va_D A [(m0, .inr (5, [.int th, .ref t1, a2, a3, a4, a5])), (t1, .inl (E 4, 4, .inr (.inr (.inr (.inr f))))), (y0, .inl (E 2, n + 1, .inl z0)), ((E 5), .inr (0, [.ref kb, .int 0, kh, kz])), (kb, .inl (E 0, 0, .inl z0))] := hD
  refine lv_iconst (v := nI 1) hx hb dX3_text__5 (by decide) ?_
  have hPc := hP.sub (ws' := [(m0, .inr (5, [.int th, .ref t1, a2, a3, a4, a5]))]) [0] rfl
  have hDc := hD.sub (ws' := [(m0, .inr (5, [.int th, .ref t1, a2, a3, a4, a5]))]) [0] (by decide) rfl
  have hFc := va_free (wc := [(m0, .inr (5, [.int th, .ref t1, a2, a3, a4, a5]))]) hD hS hA [0] rfl
  have h_1 : 0 + 0 ≤ 1400 := by omega
  have h_2 : 0 + 0 ≤ 700000 := by omega
  refine va_calli (va_runV (As := [.int (0), .int (nI 1)]) (rest := []) ⟨hx, hb, hml, hown, hts⟩ (c_X3_start l D E H.size (m0) (t1) (th) (a2) (a3) (a4) (a5)) (cwV 2 hts gX3_text__X3_start rfl rfl rfl (by decide +kernel) ⟨Nat.le_of_ble_eq_true rfl, Nat.le_of_ble_eq_true rfl⟩) ⟨rf_blind _, va_recv hK hPc (ci := 5) (q0 := 0) rfl rfl, fun U hU hW => ⟨rfl, rf_pre hK hPc hDc hZ hN hS hFc U hU hW⟩⟩ rfl rfl hl.1 rfl (lv_room (Nat.le_of_ble_eq_true rfl)) dX3_text__6 ⟨h_1, h_2⟩) hS (fun q _ h => hFc q h) hFc (fun r u t H1 locs ht hvm hw hB hz1 hk1 hS => ?_)
  obtain ⟨hP1, hD1⟩ := hB
  rw [ht] at hP1
  try dsimp only at hw hP1 hD1
  obtain rfl := hw
  obtain ⟨hP, hD⟩ := va_join (wr := [(t1, .inl (E 4, 4, .inr (.inr (.inr (.inr f))))), (y0, .inl (E 2, n + 1, .inl z0)), ((E 5), .inr (0, [.ref kb, .int 0, kh, kz])), (kb, .inl (E 0, 0, .inl z0))]) (w1 := [(m0, .inr (5, [.int (0), .ref t1, a2, a3, a4, a5]))]) hP hD [0] [1, 2, 3, 4] rfl rfl (by decide) (by decide) hk1 hFc hP1 hD1
  clear hPc hDc hFc hP1 hD1 hk1 hz1 ht
  generalize H1 = H at hP hS ⊢
  have hP : va_P D vwCl [(t1, .inl (E 4, 4, .inr (.inr (.inr (.inr f))))), (y0, .inl (E 2, n + 1, .inl z0)), ((E 5), .inr (0, [.ref kb, .int 0, kh, kz])), (kb, .inl (E 0, 0, .inl z0)), (m0, .inr (5, [.int (0), .ref t1, a2, a3, a4, a5]))] H := hP
  have hD : va_D A [(t1, .inl (E 4, 4, .inr (.inr (.inr (.inr f))))), (y0, .inl (E 2, n + 1, .inl z0)), ((E 5), .inr (0, [.ref kb, .int 0, kh, kz])), (kb, .inl (E 0, 0, .inl z0)), (m0, .inr (5, [.int (0), .ref t1, a2, a3, a4, a5]))] := hD
  refine lv_if_eq (tgt := 17) hx hb dX3_text__9 rfl (fun _ => ?_) (fun h => absurd (by decide) h)
  refine lv_aload_n hx hb dX3_text__17 rfl (lv_at hl 0 rfl) ?_
  refine va_get (D := D) (ci := 5) (v := .ref t1) (C := RX3) (T := TX3) (N := 6) hx hb hts (by decide +kernel) hown hK hP 4 rfl rfl 1 (by decide) (hts (.fieldLink RX3 11 "TapebufferModel" "tapes" "[[I") (by decide +kernel)) (fun _ h9 => h9) rfl dX3_text__18 ?_
  refine lv_iload_n hx hb dX3_text__21 rfl (lv_at hl 1 rfl) ?_
  refine rf_aldg hx hb hK hP 0 4 rfl rfl (vp_in_nI (by omega) (by omega)) dX3_text__22 (W.eq (g2 := F0 mI 23 ls (.ref y0 :: [])) (by rw [show (nI 0).toNatClampNeg = 0 from rfl, hf]; rfl) ?_)
  have hPc := hP.sub (ws' := [(y0, .inl (E 2, n + 1, .inl z0)), ((E 5), .inr (0, [.ref kb, .int 0, kh, kz])), (kb, .inl (E 0, 0, .inl z0))]) [1, 2, 3] rfl
  have hDc := hD.sub (ws' := [(y0, .inl (E 2, n + 1, .inl z0)), ((E 5), .inr (0, [.ref kb, .int 0, kh, kz])), (kb, .inl (E 0, 0, .inl z0))]) [1, 2, 3] (by decide) rfl
  have hFc := va_free (wc := [(y0, .inl (E 2, n + 1, .inl z0)), ((E 5), .inr (0, [.ref kb, .int 0, kh, kz])), (kb, .inl (E 0, 0, .inl z0))]) hD hS hA [1, 2, 3] rfl
  have h_1 : 0 + 1400 ≤ 1400 := by omega
  have h_2 : 0 + 700000 ≤ 700000 := by omega
  refine va_callr (va_runS (As := [.ref y0]) (rest := []) ⟨hx, hb, hml, hown, hts⟩ (c_X3_text l D E H.size (y0) (kb) (n) (kh) (kz) (by omega)) (va_cwS 1 hts gX3_text__X3_text rfl rfl rfl (by decide +kernel) ⟨Nat.le_of_ble_eq_true rfl, Nat.le_of_ble_eq_true rfl⟩) ⟨rf_blind _, fun U hU hW => ⟨rfl, rf_pre hK hPc hDc hZ hN hS hFc U hU hW⟩⟩ rfl rfl hl.1 rfl (lv_room (Nat.le_of_ble_eq_true rfl)) dX3_text__23 ⟨h_1, h_2⟩) hS (fun q _ h => hFc q h) hFc (fun u rs t H1 locs ht hvm hw hB hz1 hk1 hS => ?_)
  obtain ⟨b1, G⟩ := u
  obtain ⟨hP1, hD1⟩ := hB
  rw [ht] at hP1
  try dsimp only at hw hP1 hD1
  obtain ⟨hP, hD⟩ := va_join (wr := [(t1, .inl (E 4, 4, .inr (.inr (.inr (.inr f))))), (m0, .inr (5, [.int (0), .ref t1, a2, a3, a4, a5]))]) (w1 := ([(y0, .inl (E 2, n + 1, .inl z0)), ((E 5), .inr (0, [.ref kb, .int 0, kh, kz])), (kb, .inl (E 0, 0, .inl z0)), (rs, .inr (0, [.ref b1, .int 0, .int 0, .int 0])), (b1, .inl (E 0, n + 1, .inl z0))] ++ G)) hP hD [1, 2, 3] [0, 4] rfl rfl (by decide) (by decide) hk1 hFc hP1 hD1
  clear hPc hDc hFc hP1 hD1 hk1 hz1 ht
  generalize H1 = H at hP hS ⊢
  have hP : va_P D vwCl ([(t1, .inl (E 4, 4, .inr (.inr (.inr (.inr f))))), (m0, .inr (5, [.int (0), .ref t1, a2, a3, a4, a5])), (y0, .inl (E 2, n + 1, .inl z0)), ((E 5), .inr (0, [.ref kb, .int 0, kh, kz])), (kb, .inl (E 0, 0, .inl z0)), (rs, .inr (0, [.ref b1, .int 0, .int 0, .int 0])), (b1, .inl (E 0, n + 1, .inl z0))] ++ G) H := hP
  have hD : va_D A ([(t1, .inl (E 4, 4, .inr (.inr (.inr (.inr f))))), (m0, .inr (5, [.int (0), .ref t1, a2, a3, a4, a5])), (y0, .inl (E 2, n + 1, .inl z0)), ((E 5), .inr (0, [.ref kb, .int 0, kh, kz])), (kb, .inl (E 0, 0, .inl z0)), (rs, .inr (0, [.ref b1, .int 0, .int 0, .int 0])), (b1, .inl (E 0, n + 1, .inl z0))] ++ G) := hD
  refine W.widen (k := 1400) (n := 700000) (by omega) (by omega) ?_
  have hD := va_D.part (X := [(t1, .inl (E 4, 4, .inr (.inr (.inr (.inr f))))), (m0, .inr (5, [.int (0), .ref t1, a2, a3, a4, a5])), (y0, .inl (E 2, n + 1, .inl z0)), ((E 5), .inr (0, [.ref kb, .int 0, kh, kz])), (kb, .inl (E 0, 0, .inl z0)), (rs, .inr (0, [.ref b1, .int 0, .int 0, .int 0])), (b1, .inl (E 0, n + 1, .inl z0))]) (cx := [(m0, .inr (5, [.int (0), .ref t1, a2, a3, a4, a5])), (t1, .inl (E 4, 4, .inr (.inr (.inr (.inr f))))), (y0, .inl (E 2, n + 1, .inl z0)), ((E 5), .inr (0, [.ref kb, .int 0, kh, kz])), (kb, .inl (E 0, 0, .inl z0)), (rs, .inr (0, [.ref b1, .int 0, .int 0, .int 0])), (b1, .inl (E 0, n + 1, .inl z0))]) (pl := G) hD [1, 0, 2, 3, 4, 5, 6] (by decide) rfl
  have hP := va_P.part (X := [(t1, .inl (E 4, 4, .inr (.inr (.inr (.inr f))))), (m0, .inr (5, [.int (0), .ref t1, a2, a3, a4, a5])), (y0, .inl (E 2, n + 1, .inl z0)), ((E 5), .inr (0, [.ref kb, .int 0, kh, kz])), (kb, .inl (E 0, 0, .inl z0)), (rs, .inr (0, [.ref b1, .int 0, .int 0, .int 0])), (b1, .inl (E 0, n + 1, .inl z0))]) (cx := [(m0, .inr (5, [.int (0), .ref t1, a2, a3, a4, a5])), (t1, .inl (E 4, 4, .inr (.inr (.inr (.inr f))))), (y0, .inl (E 2, n + 1, .inl z0)), ((E 5), .inr (0, [.ref kb, .int 0, kh, kz])), (kb, .inl (E 0, 0, .inl z0)), (rs, .inr (0, [.ref b1, .int 0, .int 0, .int 0])), (b1, .inl (E 0, n + 1, .inl z0))]) (pl := G) hP [1, 0, 2, 3, 4, 5, 6] rfl
  exact W.aret (v := .ref rs) hx hb hr (Or.inl ⟨_, rfl⟩) (Or.inr ⟨_, rfl⟩) (fun t ht hW => ⟨⟨(b1, G), rs, rfl, hw, rf_end ht hP hD⟩, hS.F ht⟩) hS.2.2 dX3_text__26
set_option maxHeartbeats 4000000 in
set_option maxRecDepth 100000 in
/-- the law: setLength(0, n) -/
theorem c_L_setLength (l : Launch) (D : va_G) (E : Nat → ClassId) (sz : Nat) (x0 t0 r0 g0 o0 n : Nat) (f : Nat → Option Nat) (nn sv : Value) (p1 p2 p3 p4 p5 p6 : Value) (hf : f 0 = some r0) (hn : n ≤ 200) : Met l yL_setLength wsL_setLength ({ frames := 5, cells := 0, slots := 0, locals := 800 }) (va_Pc [.ref x0, .int (nI 0), .int (nI n), .ref o0] (rf_P D E [(x0, .inr (3, [.ref t0, p1, p2, p3, p4, p5, p6])), (t0, .inl (E 3, 4, .inr (.inr (.inr (.inr f))))), (r0, .inr (2, [.ref g0, .int (nI (0))])), (g0, .inl (E 2, 256, .inl z0)), (o0, .inr (4, [nn, sv]))] sz)) (va_Qi (fun (r : Int32) (u : Unit) => r = 0) (fun (u : Unit) (t : State) => rf_B D (va_A [(x0, .inr (3, [.ref t0, p1, p2, p3, p4, p5, p6])), (t0, .inl (E 3, 4, .inr (.inr (.inr (.inr f))))), (r0, .inr (2, [.ref g0, .int (nI (0))])), (g0, .inl (E 2, 256, .inl z0)), (o0, .inr (4, [nn, sv]))] sz) [(x0, .inr (3, [.ref t0, p1, p2, p3, p4, p5, p6])), (t0, .inl (E 3, 4, .inr (.inr (.inr (.inr f))))), (r0, .inr (2, [.ref g0, .int (nI (n))])), (g0, .inl (E 2, 256, .inl z0)), (o0, .inr (4, [.long (lN 0), sv]))] t) (va_A [(x0, .inr (3, [.ref t0, p1, p2, p3, p4, p5, p6])), (t0, .inl (E 3, 4, .inr (.inr (.inr (.inr f))))), (r0, .inr (2, [.ref g0, .int (nI (0))])), (g0, .inl (E 2, 256, .inl z0)), (o0, .inr (4, [nn, sv]))] sz)) 0 0 (va_A [(x0, .inr (3, [.ref t0, p1, p2, p3, p4, p5, p6])), (t0, .inl (E 3, 4, .inr (.inr (.inr (.inr f))))), (r0, .inr (2, [.ref g0, .int (nI (0))])), (g0, .inl (E 2, 256, .inl z0)), (o0, .inr (4, [nn, sv]))] sz) := by
  refine va_MetW (cc := cL_setLength) (maxL := 5) (ret := (some .int)) (hh := [(0, 11, 14, 19), (0, 11, 18, 21)]) (by decide) rfl ?_
  intro p e s mI args below meth c s₁ B hml hv
  obtain ⟨rfl, hsz, hP, hK, hD0, hZ, hN⟩ := hv
  have hx := B.exec
  have hb := B.bytes
  have hr := B.returns
  have hts := atoms_spec (ws := wsL_setLength) B.pre
  have hown : s.vm.findClass RL = some mI.cls := findClass_of_methodNamed B.named
  have hlocks := B.notSynchronized
  subst hsz
  have hD := hD0.self (sz := s.heap.size)
  generalize hAe : va_A [(x0, .inr (3, [.ref t0, p1, p2, p3, p4, p5, p6])), (t0, .inl (E 3, 4, .inr (.inr (.inr (.inr f))))), (r0, .inr (2, [.ref g0, .int (nI (0))])), (g0, .inl (E 2, 256, .inl z0)), (o0, .inr (4, [nn, sv]))] s.heap.size = A at hD hZ ⊢
  have hA : ∀ q : Nat, s.heap.size ≤ q → A q := fun q h => by rw [← hAe]; exact Or.inr h
  have hS : va_S A s.heap s.heap [] := va_S.rf
  have hl := lv_entry ([.ref x0, .int (nI 0), .int (nI n), .ref o0]) (n := 5) (Nat.le_of_ble_eq_true rfl)
  rw [lg_entry_eq]
  generalize (lg_sl ([.ref x0, .int (nI 0), .int (nI n), .ref o0]) ++ List.replicate (5 - (lg_sl ([.ref x0, .int (nI 0), .int (nI n), .ref o0])).length) Slot.unset).toArray = ls at hl ⊢
  clear hAe hD0
  have hl : lv_has ls 5 [(0, .ref x0), (1, .int (nI 0)), (2, .int (nI n)), (3, .ref o0)] := hl
  obtain ⟨H, hH⟩ : ∃ H, H = s.heap := ⟨_, rfl⟩
  rw [← hH] at hP
  have hS : va_S A s.heap H [] := by rw [hH]; exact hS
  refine rf_heap hH ?_
  refine lv_aload_n hx hb dL_setLength_0 rfl (lv_at hl 3 rfl) ?_
  refine lv_aload_n hx hb dL_setLength_1 rfl (lv_at hl 0 rfl) ?_
  refine lv_iload_n hx hb dL_setLength_2 rfl (lv_at hl 1 rfl) ?_
  refine lv_iload_n hx hb dL_setLength_3 rfl (lv_at hl 2 rfl) ?_
  have hPc := hP.sub (ws' := [(x0, .inr (3, [.ref t0, p1, p2, p3, p4, p5, p6])), (t0, .inl (E 3, 4, .inr (.inr (.inr (.inr f))))), (r0, .inr (2, [.ref g0, .int (nI (0))])), (g0, .inl (E 2, 256, .inl z0))]) [0, 1, 2, 3] rfl
  have hDc := hD.sub (ws' := [(x0, .inr (3, [.ref t0, p1, p2, p3, p4, p5, p6])), (t0, .inl (E 3, 4, .inr (.inr (.inr (.inr f))))), (r0, .inr (2, [.ref g0, .int (nI (0))])), (g0, .inl (E 2, 256, .inl z0))]) [0, 1, 2, 3] (by decide) rfl
  have hFc := va_free (wc := [(x0, .inr (3, [.ref t0, p1, p2, p3, p4, p5, p6])), (t0, .inl (E 3, 4, .inr (.inr (.inr (.inr f))))), (r0, .inr (2, [.ref g0, .int (nI (0))])), (g0, .inl (E 2, 256, .inl z0))]) hD hS hA [0, 1, 2, 3] rfl
  have h_1 : 0 + 0 ≤ 0 := by omega
  have h_2 : 0 + 0 ≤ 0 := by omega
  refine va_calli (va_runV (As := [.int (nI 0), .int (nI n)]) (rest := [.ref o0]) ⟨hx, hb, hml, hown, hts⟩ (c_X1_setLength l D E H.size (x0) (t0) (r0) (g0) (n) (f) (p1) (p2) (p3) (p4) (p5) (p6) (hf) (by omega)) (cwV 2 hts gL_setLength_X1_setLength rfl rfl rfl (by decide +kernel) ⟨Nat.le_of_ble_eq_true rfl, Nat.le_of_ble_eq_true rfl⟩) ⟨rf_blind _, va_recv hK hPc (ci := 3) (q0 := 0) rfl rfl, fun U hU hW => ⟨rfl, rf_pre hK hPc hDc hZ hN hS hFc U hU hW⟩⟩ rfl rfl hl.1 rfl (lv_room (Nat.le_of_ble_eq_true rfl)) dL_setLength_4 ⟨h_1, h_2⟩) hS (fun q _ h => hFc q h) hFc (fun r u t H1 locs ht hvm hw hB hz1 hk1 hS => ?_)
  obtain ⟨hP1, hD1⟩ := hB
  rw [ht] at hP1
  try dsimp only at hw hP1 hD1
  obtain rfl := hw
  obtain ⟨hP, hD⟩ := va_join (wr := [(o0, .inr (4, [nn, sv]))]) (w1 := [(x0, .inr (3, [.ref t0, p1, p2, p3, p4, p5, p6])), (t0, .inl (E 3, 4, .inr (.inr (.inr (.inr f))))), (r0, .inr (2, [.ref g0, .int (nI (n))])), (g0, .inl (E 2, 256, .inl z0))]) hP hD [0, 1, 2, 3] [4] rfl rfl (by decide) (by decide) hk1 hFc hP1 hD1
  clear hPc hDc hFc hP1 hD1 hk1 hz1 ht
  generalize H1 = H at hP hS ⊢
  have hP : va_P D vwCl [(o0, .inr (4, [nn, sv])), (x0, .inr (3, [.ref t0, p1, p2, p3, p4, p5, p6])), (t0, .inl (E 3, 4, .inr (.inr (.inr (.inr f))))), (r0, .inr (2, [.ref g0, .int (nI (n))])), (g0, .inl (E 2, 256, .inl z0))] H := hP
  have hD : va_D A [(o0, .inr (4, [nn, sv])), (x0, .inr (3, [.ref t0, p1, p2, p3, p4, p5, p6])), (t0, .inl (E 3, 4, .inr (.inr (.inr (.inr f))))), (r0, .inr (2, [.ref g0, .int (nI (n))])), (g0, .inl (E 2, 256, .inl z0))] := hD
  refine lv_i2l (v := lN 0) hx hb dL_setLength_7 (by decide) ?_
  refine va_putN (D := D) (ci := 4) (v := .long (lN 0)) (ty := .long) (C := RX2) (T := TX2) (N := 2) hx hb hts (by decide +kernel) tyX2 tyX2_ok nmX2 hown hK hP hD hS 0 rfl rfl 0 (by decide) (va_Nw.use rfl hN.2.2.2.2.2.1) (fun _ h9 => h9) rfl (by decide +kernel) rfl rfl (Nat.le_of_ble_eq_true rfl) dL_setLength_8 (fun H locs hP hD hS => ?_)
  have hP : va_P D vwCl [(o0, .inr (4, [.long (lN 0), sv])), (x0, .inr (3, [.ref t0, p1, p2, p3, p4, p5, p6])), (t0, .inl (E 3, 4, .inr (.inr (.inr (.inr f))))), (r0, .inr (2, [.ref g0, .int (nI (n))])), (g0, .inl (E 2, 256, .inl z0))] H := hP
  have hD : va_D A [(o0, .inr (4, [.long (lN 0), sv])), (x0, .inr (3, [.ref t0, p1, p2, p3, p4, p5, p6])), (t0, .inl (E 3, 4, .inr (.inr (.inr (.inr f))))), (r0, .inr (2, [.ref g0, .int (nI (n))])), (g0, .inl (E 2, 256, .inl z0))] := hD
  refine lv_goto (tgt := 22) hx hb dL_setLength_11 rfl ?_
  refine lv_iconst (v := 0) hx hb dL_setLength_22 (by decide) ?_
  have hP := hP.sub (ws' := [(x0, .inr (3, [.ref t0, p1, p2, p3, p4, p5, p6])), (t0, .inl (E 3, 4, .inr (.inr (.inr (.inr f))))), (r0, .inr (2, [.ref g0, .int (nI (n))])), (g0, .inl (E 2, 256, .inl z0)), (o0, .inr (4, [.long (lN 0), sv]))]) [1, 2, 3, 4, 0] rfl
  have hD := hD.sub (ws' := [(x0, .inr (3, [.ref t0, p1, p2, p3, p4, p5, p6])), (t0, .inl (E 3, 4, .inr (.inr (.inr (.inr f))))), (r0, .inr (2, [.ref g0, .int (nI (n))])), (g0, .inl (E 2, 256, .inl z0)), (o0, .inr (4, [.long (lN 0), sv]))]) [1, 2, 3, 4, 0] (by decide) rfl
  exact W.iret (v := 0) hx hb hr (fun t ht hW => ⟨⟨0, (), rfl, rfl, rf_end ht hP hD⟩, hS.F ht⟩) hS.2.2 dL_setLength_23
set_option maxHeartbeats 4000000 in
set_option maxRecDepth 100000 in
/-- the law: text(0) -/
theorem c_L_text (l : Launch) (D : va_G) (E : Nat → ClassId) (sz : Nat) (x0 t0 r0 g0 o0 n : Nat) (f : Nat → Option Nat) (nn sv : Value) (p1 p2 p3 p4 p5 p6 : Value) (hf : f 0 = some r0) (hn : n ≤ 200) (h1 : 0 < n) : Met l yL_text wsL_text ({ frames := 8, cells := 3, slots := 404, locals := 1400 }) (va_Pc [.ref x0, .int (nI 0), .ref o0] (rf_P D E [(x0, .inr (3, [.ref t0, p1, p2, p3, p4, p5, p6])), (t0, .inl (E 3, 4, .inr (.inr (.inr (.inr f))))), (r0, .inr (2, [.ref g0, .int (nI (n))])), (g0, .inl (E 2, 256, .inl z0)), (o0, .inr (4, [nn, sv]))] sz)) (va_Qi (fun (r : Int32) (u : Nat × Nat) => r = 0) (fun (u : Nat × Nat) (t : State) => rf_B D (va_A [(x0, .inr (3, [.ref t0, p1, p2, p3, p4, p5, p6])), (t0, .inl (E 3, 4, .inr (.inr (.inr (.inr f))))), (r0, .inr (2, [.ref g0, .int (nI (n))])), (g0, .inl (E 2, 256, .inl z0)), (o0, .inr (4, [nn, sv]))] sz) [(x0, .inr (3, [.ref t0, p1, p2, p3, p4, p5, p6])), (t0, .inl (E 3, 4, .inr (.inr (.inr (.inr f))))), (r0, .inr (2, [.ref g0, .int (nI (n))])), (g0, .inl (E 2, 256, .inl z0)), (o0, .inr (4, [nn, .ref u.1])), (u.1, .inr (0, [.ref u.2, .int 0, .int 0, .int 0])), (u.2, .inl (E 0, n, .inl z0))] t) (va_A [(x0, .inr (3, [.ref t0, p1, p2, p3, p4, p5, p6])), (t0, .inl (E 3, 4, .inr (.inr (.inr (.inr f))))), (r0, .inr (2, [.ref g0, .int (nI (n))])), (g0, .inl (E 2, 256, .inl z0)), (o0, .inr (4, [nn, sv]))] sz)) 3 404 (va_A [(x0, .inr (3, [.ref t0, p1, p2, p3, p4, p5, p6])), (t0, .inl (E 3, 4, .inr (.inr (.inr (.inr f))))), (r0, .inr (2, [.ref g0, .int (nI (n))])), (g0, .inl (E 2, 256, .inl z0)), (o0, .inr (4, [nn, sv]))] sz) := by
  refine va_MetW (cc := cL_text) (maxL := 4) (ret := (some .int)) (hh := [(0, 9, 12, 19)]) (by decide) rfl ?_
  intro p e s mI args below meth c s₁ B hml hv
  obtain ⟨rfl, hsz, hP, hK, hD0, hZ, hN⟩ := hv
  have hx := B.exec
  have hb := B.bytes
  have hr := B.returns
  have hts := atoms_spec (ws := wsL_text) B.pre
  have hown : s.vm.findClass RL = some mI.cls := findClass_of_methodNamed B.named
  have hlocks := B.notSynchronized
  subst hsz
  have hD := hD0.self (sz := s.heap.size)
  generalize hAe : va_A [(x0, .inr (3, [.ref t0, p1, p2, p3, p4, p5, p6])), (t0, .inl (E 3, 4, .inr (.inr (.inr (.inr f))))), (r0, .inr (2, [.ref g0, .int (nI (n))])), (g0, .inl (E 2, 256, .inl z0)), (o0, .inr (4, [nn, sv]))] s.heap.size = A at hD hZ ⊢
  have hA : ∀ q : Nat, s.heap.size ≤ q → A q := fun q h => by rw [← hAe]; exact Or.inr h
  have hS : va_S A s.heap s.heap [] := va_S.rf
  have hl := lv_entry ([.ref x0, .int (nI 0), .ref o0]) (n := 4) (Nat.le_of_ble_eq_true rfl)
  rw [lg_entry_eq]
  generalize (lg_sl ([.ref x0, .int (nI 0), .ref o0]) ++ List.replicate (4 - (lg_sl ([.ref x0, .int (nI 0), .ref o0])).length) Slot.unset).toArray = ls at hl ⊢
  clear hAe hD0
  have hl : lv_has ls 4 [(0, .ref x0), (1, .int (nI 0)), (2, .ref o0)] := hl
  obtain ⟨H, hH⟩ : ∃ H, H = s.heap := ⟨_, rfl⟩
  rw [← hH] at hP
  have hS : va_S A s.heap H [] := by rw [hH]; exact hS
  refine rf_heap hH ?_
  refine lv_aload_n hx hb dL_text_0 rfl (lv_at hl 2 rfl) ?_
  refine lv_aload_n hx hb dL_text_1 rfl (lv_at hl 0 rfl) ?_
  refine lv_iload_n hx hb dL_text_2 rfl (lv_at hl 1 rfl) ?_
  have hPc := hP.sub (ws' := [(x0, .inr (3, [.ref t0, p1, p2, p3, p4, p5, p6])), (t0, .inl (E 3, 4, .inr (.inr (.inr (.inr f))))), (r0, .inr (2, [.ref g0, .int (nI (n))])), (g0, .inl (E 2, 256, .inl z0))]) [0, 1, 2, 3] rfl
  have hDc := hD.sub (ws' := [(x0, .inr (3, [.ref t0, p1, p2, p3, p4, p5, p6])), (t0, .inl (E 3, 4, .inr (.inr (.inr (.inr f))))), (r0, .inr (2, [.ref g0, .int (nI (n))])), (g0, .inl (E 2, 256, .inl z0))]) [0, 1, 2, 3] (by decide) rfl
  have hFc := va_free (wc := [(x0, .inr (3, [.ref t0, p1, p2, p3, p4, p5, p6])), (t0, .inl (E 3, 4, .inr (.inr (.inr (.inr f))))), (r0, .inr (2, [.ref g0, .int (nI (n))])), (g0, .inl (E 2, 256, .inl z0))]) hD hS hA [0, 1, 2, 3] rfl
  have h_1 : 0 + 3 ≤ 3 := by omega
  have h_2 : 0 + 404 ≤ 404 := by omega
  refine va_callr (va_runV (As := [.int (nI 0)]) (rest := [.ref o0]) ⟨hx, hb, hml, hown, hts⟩ (c_X1_text l D E H.size (x0) (t0) (r0) (g0) (n) (f) (p1) (p2) (p3) (p4) (p5) (p6) (hf) (by omega) (by omega)) (cwV 1 hts gL_text_X1_text rfl rfl rfl (by decide +kernel) ⟨Nat.le_of_ble_eq_true rfl, Nat.le_of_ble_eq_true rfl⟩) ⟨rf_blind _, va_recv hK hPc (ci := 3) (q0 := 0) rfl rfl, fun U hU hW => ⟨rfl, rf_pre hK hPc hDc hZ hN hS hFc U hU hW⟩⟩ rfl rfl hl.1 rfl (lv_room (Nat.le_of_ble_eq_true rfl)) dL_text_3 ⟨h_1, h_2⟩) hS (fun q _ h => hFc q h) hFc (fun u rs t H1 locs ht hvm hw hB hz1 hk1 hS => ?_)
  obtain ⟨hP1, hD1⟩ := hB
  rw [ht] at hP1
  try dsimp only at hw hP1 hD1
  obtain ⟨hP, hD⟩ := va_join (wr := [(o0, .inr (4, [nn, sv]))]) (w1 := [(rs, .inr (0, [.ref u, .int 0, .int 0, .int 0])), (u, .inl (E 0, n, .inl z0)), (x0, .inr (3, [.ref t0, p1, p2, p3, p4, p5, p6])), (t0, .inl (E 3, 4, .inr (.inr (.inr (.inr f))))), (r0, .inr (2, [.ref g0, .int (nI (n))])), (g0, .inl (E 2, 256, .inl z0))]) hP hD [0, 1, 2, 3] [4] rfl rfl (by decide) (by decide) hk1 hFc hP1 hD1
  clear hPc hDc hFc hP1 hD1 hk1 hz1 ht
  generalize H1 = H at hP hS ⊢
  have hP : va_P D vwCl [(o0, .inr (4, [nn, sv])), (rs, .inr (0, [.ref u, .int 0, .int 0, .int 0])), (u, .inl (E 0, n, .inl z0)), (x0, .inr (3, [.ref t0, p1, p2, p3, p4, p5, p6])), (t0, .inl (E 3, 4, .inr (.inr (.inr (.inr f))))), (r0, .inr (2, [.ref g0, .int (nI (n))])), (g0, .inl (E 2, 256, .inl z0))] H := hP
  have hD : va_D A [(o0, .inr (4, [nn, sv])), (rs, .inr (0, [.ref u, .int 0, .int 0, .int 0])), (u, .inl (E 0, n, .inl z0)), (x0, .inr (3, [.ref t0, p1, p2, p3, p4, p5, p6])), (t0, .inl (E 3, 4, .inr (.inr (.inr (.inr f))))), (r0, .inr (2, [.ref g0, .int (nI (n))])), (g0, .inl (E 2, 256, .inl z0))] := hD
  refine W.widen (k := 3) (n := 404) (by omega) (by omega) ?_
  refine va_putN (D := D) (ci := 4) (v := .ref rs) (ty := .object "java/lang/String") (C := RX2) (T := TX2) (N := 2) hx hb hts (by decide +kernel) tyX2 tyX2_ok nmX2 hown hK hP hD hS 0 rfl rfl 1 (by decide) (va_Nw.use rfl hN.2.2.2.2.2.2) (fun _ h9 => h9) rfl (by decide +kernel) rfl rfl (Nat.le_of_ble_eq_true rfl) dL_text_6 (fun H locs hP hD hS => ?_)
  have hP : va_P D vwCl [(o0, .inr (4, [nn, .ref rs])), (rs, .inr (0, [.ref u, .int 0, .int 0, .int 0])), (u, .inl (E 0, n, .inl z0)), (x0, .inr (3, [.ref t0, p1, p2, p3, p4, p5, p6])), (t0, .inl (E 3, 4, .inr (.inr (.inr (.inr f))))), (r0, .inr (2, [.ref g0, .int (nI (n))])), (g0, .inl (E 2, 256, .inl z0))] H := hP
  have hD : va_D A [(o0, .inr (4, [nn, .ref rs])), (rs, .inr (0, [.ref u, .int 0, .int 0, .int 0])), (u, .inl (E 0, n, .inl z0)), (x0, .inr (3, [.ref t0, p1, p2, p3, p4, p5, p6])), (t0, .inl (E 3, 4, .inr (.inr (.inr (.inr f))))), (r0, .inr (2, [.ref g0, .int (nI (n))])), (g0, .inl (E 2, 256, .inl z0))] := hD
  refine lv_goto (tgt := 15) hx hb dL_text_9 rfl ?_
  refine lv_iconst (v := 0) hx hb dL_text_15 (by decide) ?_
  have hP := hP.sub (ws' := [(x0, .inr (3, [.ref t0, p1, p2, p3, p4, p5, p6])), (t0, .inl (E 3, 4, .inr (.inr (.inr (.inr f))))), (r0, .inr (2, [.ref g0, .int (nI (n))])), (g0, .inl (E 2, 256, .inl z0)), (o0, .inr (4, [nn, .ref rs])), (rs, .inr (0, [.ref u, .int 0, .int 0, .int 0])), (u, .inl (E 0, n, .inl z0))]) [3, 4, 5, 6, 0, 1, 2] rfl
  have hD := hD.sub (ws' := [(x0, .inr (3, [.ref t0, p1, p2, p3, p4, p5, p6])), (t0, .inl (E 3, 4, .inr (.inr (.inr (.inr f))))), (r0, .inr (2, [.ref g0, .int (nI (n))])), (g0, .inl (E 2, 256, .inl z0)), (o0, .inr (4, [nn, .ref rs])), (rs, .inr (0, [.ref u, .int 0, .int 0, .int 0])), (u, .inl (E 0, n, .inl z0))]) [3, 4, 5, 6, 0, 1, 2] (by decide) rfl
  exact W.iret (v := 0) hx hb hr (fun t ht hW => ⟨⟨0, (rs, u), rfl, rfl, rf_end ht hP hD⟩, hS.F ht⟩) hS.2.2 dL_text_16
set_option maxHeartbeats 4000000 in
set_option maxRecDepth 100000 in
/-- Tapebuffer() -/
theorem c_X1_init (l : Launch) (D : va_G) (E : Nat → ClassId) (sz : Nat) (x0 : Nat)  : Met l yX1_init wsX1_init ({ frames := 3, cells := 20, slots := 3000, locals := 400 }) (va_Pc [.ref x0] (rf_P D E [(x0, .inr (3, [.null, .null, .null, .null, .int 0, .int 0, .int 0]))] sz)) (va_Qv (fun (u : Nat × Nat × Nat × (Nat → Option Nat) × Value × Value × Value) => u.2.2.2.1 0 = some u.2.1) (fun (u : Nat × Nat × Nat × (Nat → Option Nat) × Value × Value × Value) (t : State) => rf_B D (va_A [(x0, .inr (3, [.null, .null, .null, .null, .int 0, .int 0, .int 0]))] sz) [(x0, .inr (3, [.ref u.1, u.2.2.2.2.1, u.2.2.2.2.2.1, u.2.2.2.2.2.2, .int 0, .int 0, .int 0])), (u.1, .inl (E 3, 4, .inr (.inr (.inr (.inr u.2.2.2.1))))), (u.2.1, .inr (2, [.ref u.2.2.1, .int (nI 0)])), (u.2.2.1, .inl (E 2, 256, .inl z0))] t) (va_A [(x0, .inr (3, [.null, .null, .null, .null, .int 0, .int 0, .int 0]))] sz)) 20 3000 (va_A [(x0, .inr (3, [.null, .null, .null, .null, .int 0, .int 0, .int 0]))] sz) := by
  refine Met.ofW (cc := cX1_init) (maxL := 2) (ret := none) (by decide) rfl ?_
  intro p e s mI args below meth c s₁ B hml hv
  obtain ⟨rfl, hsz, hP, hK, hD0, hZ, hN⟩ := hv
  have hx := B.exec
  have hb := B.bytes
  have hr := B.returns
  have hts := atoms_spec (ws := wsX1_init) B.pre
  have hown : s.vm.findClass RX1 = some mI.cls := findClass_of_methodNamed B.named
  have hlocks := B.notSynchronized
  have hin : meth.name = "<init>" := (name_of_methodNamed B.named B.method).1
  subst hsz
  have hD := hD0.self (sz := s.heap.size)
  generalize hAe : va_A [(x0, .inr (3, [.null, .null, .null, .null, .int 0, .int 0, .int 0]))] s.heap.size = A at hD hZ ⊢
  have hA : ∀ q : Nat, s.heap.size ≤ q → A q := fun q h => by rw [← hAe]; exact Or.inr h
  have hS : va_S A s.heap s.heap [] := va_S.rf
  have hl := lv_entry ([.ref x0]) (n := 2) (Nat.le_of_ble_eq_true rfl)
  rw [lg_entry_eq]
  generalize (lg_sl ([.ref x0]) ++ List.replicate (2 - (lg_sl ([.ref x0])).length) Slot.unset).toArray = ls at hl ⊢
  clear hAe hD0
  have hl : lv_has ls 2 [(0, .ref x0)] := hl
  obtain ⟨H, hH⟩ : ∃ H, H = s.heap := ⟨_, rfl⟩
  rw [← hH] at hP
  have hS : va_S A s.heap H [] := by rw [hH]; exact hS
  refine rf_heap hH ?_
  refine lv_aload_n hx hb dX1_init_0 rfl (lv_at hl 0 rfl) ?_
  refine W.objInit hx hb hown (hts (.methodLink RX1 1 objectInit) (by decide +kernel)) (hts (.instanceMethod objectInit) (by decide +kernel)) (hts (.code objectInit ⟨#[0xb1]⟩ 1 none) (by decide +kernel)) rfl (by rw [hml]; exact hl.1) rfl dX1_init_1 (Nat.le_of_ble_eq_true rfl) (Nat.le_of_ble_eq_true rfl) ?_
  refine W.eq (g2 := F0 mI 4 ls []) rfl ?_
  refine lv_aload_n hx hb dX1_init_4 rfl (lv_at hl 0 rfl) ?_
  refine lv_iconst (v := nI 4) hx hb dX1_init_5 (by decide) ?_
  have h_1 : 0 + 1 ≤ 20 := by omega
  have h_2 : 0 + (4) ≤ 3000 := by omega
  refine va_newq (C := "Tapebuffer$Row") (N' := 4) hx hb hown (hts (.classLink RX1 9 "Tapebuffer$Row") (by decide +kernel)) hN.2.2.1 hK hP hD hS hA (nI_pos (by omega)) (nI_clamp (by omega)) (Nat.le_of_ble_eq_true rfl) h_1 h_2 dX1_init_6 (fun t0 cA H hK2 hP hD hS => ?_)
  obtain rfl := rf_rowc hK2
  have hP : va_P D vwCl [(x0, .inr (3, [.null, .null, .null, .null, .int 0, .int 0, .int 0])), (t0, .inl (E 3, 4, .inr (.inr (.inr (.inr (fun _ => none))))))] H := hP
  have hD : va_D A [(x0, .inr (3, [.null, .null, .null, .null, .int 0, .int 0, .int 0])), (t0, .inl (E 3, 4, .inr (.inr (.inr (.inr (fun _ => none))))))] := hD
  refine W.widen (k := 1) (n := 4) (by omega) (by omega) ?_
  refine va_putF (D := D) (ci := 3) (v := .ref t0) (ty := .array (.object "Tapebuffer$Row")) (C := RX1) (T := TX1) (N := 7) hx hb hts (by decide +kernel) tyX1 tyX1_ok nmX1 hown hK hP hD hS 0 rfl rfl 0 (by decide) (hts (.fieldLink RX1 11 "Tapebuffer" "tapes" "[LTapebuffer$Row;") (by decide +kernel)) (fun _ h9 => h9) rfl hin rfl (by decide +kernel) rfl rfl (Nat.le_of_ble_eq_true rfl) dX1_init_9 (fun H locs hP hD hS => ?_)
  have hP : va_P D vwCl [(x0, .inr (3, [.ref t0, .null, .null, .null, .int 0, .int 0, .int 0])), (t0, .inl (E 3, 4, .inr (.inr (.inr (.inr (fun _ => none))))))] H := hP
  have hD : va_D A [(x0, .inr (3, [.ref t0, .null, .null, .null, .int 0, .int 0, .int 0])), (t0, .inl (E 3, 4, .inr (.inr (.inr (.inr (fun _ => none))))))] := hD
  refine lv_iconst (v := nI 0) hx hb dX1_init_12 (by decide) ?_
  refine lv_istore_n hx hb dX1_init_13 rfl hl (Nat.le_of_ble_eq_true rfl) rfl (fun ls hl => ?_)
  have hl : lv_has ls 2 [(1, .int (nI 0)), (0, .ref x0)] := hl
  refine lv_iload_n hx hb dX1_init_14 rfl (lv_at hl 0 rfl) ?_
  refine lv_iconst (v := nI 4) hx hb dX1_init_15 (by decide) ?_
  refine lv_icmp_ge (tgt := 38) hx hb dX1_init_16 rfl (fun h => absurd h (by decide)) (fun _ => ?_)
  refine lv_aload_n hx hb dX1_init_19 rfl (lv_at hl 1 rfl) ?_
  refine va_get (D := D) (ci := 3) (v := .ref t0) (C := RX1) (T := TX1) (N := 7) hx hb hts (by decide +kernel) hown hK hP 0 rfl rfl 0 (by decide) (hts (.fieldLink RX1 11 "Tapebuffer" "tapes" "[LTapebuffer$Row;") (by decide +kernel)) (fun _ h9 => h9) rfl dX1_init_20 ?_
  refine lv_iload_n hx hb dX1_init_23 rfl (lv_at hl 0 rfl) ?_
  have h_1 : 1 + 1 ≤ 20 := by omega
  have h_2 : 4 + 2 ≤ 3000 := by omega
  refine va_new (ci := 2) (fs := [.null, .int 0]) (C := RX0) (T := TX0) (N := 2) hx hb hts (by decide +kernel) tyX0 tyX0_ok hown (hts (.classLink RX1 9 RX0) (by decide +kernel)) (hts (.instantiable RX0 2) (by decide +kernel)) (hts (.initialized RX0) (by decide +kernel)) hK hP hD hS hA rfl (fun j hj => by rcases (show j = 0 ∨ j = 1 by omega) with rfl | rfl <;> rfl) h_1 h_2 dX1_init_24 (fun q0 H hP hD hS => ?_)
  have hP : va_P D vwCl [(x0, .inr (3, [.ref t0, .null, .null, .null, .int 0, .int 0, .int 0])), (t0, .inl (E 3, 4, .inr (.inr (.inr (.inr (fun _ => none)))))), (q0, .inr (2, [.null, .int 0]))] H := hP
  have hD : va_D A [(x0, .inr (3, [.ref t0, .null, .null, .null, .int 0, .int 0, .int 0])), (t0, .inl (E 3, 4, .inr (.inr (.inr (.inr (fun _ => none)))))), (q0, .inr (2, [.null, .int 0]))] := hD
  refine W.widen (k := 2) (n := 6) (by omega) (by omega) ?_
  refine lv_dup hx hb dX1_init_27 rfl ?_
  have hPc := hP.sub (ws' := [(q0, .inr (2, [.null, .int 0]))]) [2] rfl
  have hDc := hD.sub (ws' := [(q0, .inr (2, [.null, .int 0]))]) [2] (by decide) rfl
  have hFc := va_free (wc := [(q0, .inr (2, [.null, .int 0]))]) hD hS hA [2] rfl
  have h_1 : 2 + 1 ≤ 20 := by omega
  have h_2 : 6 + 256 ≤ 3000 := by omega
  refine va_callv (va_runI (As := []) (rest := [.ref q0, .int (nI 0), .ref t0]) ⟨hx, hb, hml, hown, hts⟩ (c_X0_init l D E H.size (q0)) (cwI 0 hts gX1_init_X0_init rfl rfl rfl (hts (.initialized RX0) (by decide +kernel)) (hts (.methodLink RX1 15 yX0_init) (by decide +kernel)) (hts (.instanceMethod yX0_init) (by decide +kernel)) rfl (by decide +kernel) ⟨Nat.le_of_ble_eq_true rfl, Nat.le_of_ble_eq_true rfl⟩) ⟨rf_blind _, fun U hU hW => ⟨rfl, rf_pre hK hPc hDc hZ hN hS hFc U hU hW⟩⟩ rfl rfl hl.1 rfl (lv_room (Nat.le_of_ble_eq_true rfl)) dX1_init_28 ⟨h_1, h_2⟩) hS (fun q _ h => hFc q h) hFc (fun g0 t H1 locs ht hvm hw hB hz1 hk1 hS => ?_)
  obtain ⟨hP1, hD1⟩ := hB
  rw [ht] at hP1
  try dsimp only at hw hP1 hD1
  obtain ⟨hP, hD⟩ := va_join (wr := [(x0, .inr (3, [.ref t0, .null, .null, .null, .int 0, .int 0, .int 0])), (t0, .inl (E 3, 4, .inr (.inr (.inr (.inr (fun _ => none))))))]) (w1 := [(q0, .inr (2, [.ref g0, .int 0])), (g0, .inl (E 2, 256, .inl z0))]) hP hD [2] [0, 1] rfl rfl (by decide) (by decide) hk1 hFc hP1 hD1
  clear hPc hDc hFc hP1 hD1 hk1 hz1 ht
  generalize H1 = H at hP hS ⊢
  have hP : va_P D vwCl [(x0, .inr (3, [.ref t0, .null, .null, .null, .int 0, .int 0, .int 0])), (t0, .inl (E 3, 4, .inr (.inr (.inr (.inr (fun _ => none)))))), (q0, .inr (2, [.ref g0, .int 0])), (g0, .inl (E 2, 256, .inl z0))] H := hP
  have hD : va_D A [(x0, .inr (3, [.ref t0, .null, .null, .null, .int 0, .int 0, .int 0])), (t0, .inl (E 3, 4, .inr (.inr (.inr (.inr (fun _ => none)))))), (q0, .inr (2, [.ref g0, .int 0])), (g0, .inl (E 2, 256, .inl z0))] := hD
  refine W.widen (k := 3) (n := 262) (by omega) (by omega) ?_
  refine va_astq (r := (RX0, TX0, 2)) hx hb hK hP hD hS 1 3 2 2 rfl rfl rfl rfl (vp_in_nI (by omega) (by omega)) dX1_init_31 (fun H locs hP hD hS => ?_)
  have hP : va_P D vwCl [(x0, .inr (3, [.ref t0, .null, .null, .null, .int 0, .int 0, .int 0])), (t0, .inl (E 3, 4, .inr (.inr (.inr (.inr (va_up (fun _ => none) 0 (some q0))))))), (q0, .inr (2, [.ref g0, .int 0])), (g0, .inl (E 2, 256, .inl z0))] H := hP
  have hD : va_D A [(x0, .inr (3, [.ref t0, .null, .null, .null, .int 0, .int 0, .int 0])), (t0, .inl (E 3, 4, .inr (.inr (.inr (.inr (va_up (fun _ => none) 0 (some q0))))))), (q0, .inr (2, [.ref g0, .int 0])), (g0, .inl (E 2, 256, .inl z0))] := hD
  refine lv_iinc (v := nI (1)) hx hb dX1_init_32 hl (k := 0) rfl ((show nI (0) + Int32.ofInt 1 = nI (0) + nI 1 from rfl).trans ((nI_add _ _).trans (congrArg nI (by omega)))) (Nat.le_of_ble_eq_true rfl) rfl (fun ls hl => ?_)
  have hl : lv_has ls 2 [(1, .int (nI (1))), (0, .ref x0)] := hl
  refine lv_goto (tgt := 14) hx hb dX1_init_35 rfl ?_
  refine lv_iload_n hx hb dX1_init_14 rfl (lv_at hl 0 rfl) ?_
  refine lv_iconst (v := nI 4) hx hb dX1_init_15 (by decide) ?_
  refine lv_icmp_ge (tgt := 38) hx hb dX1_init_16 rfl (fun h => absurd h (by decide)) (fun _ => ?_)
  refine lv_aload_n hx hb dX1_init_19 rfl (lv_at hl 1 rfl) ?_
  refine va_get (D := D) (ci := 3) (v := .ref t0) (C := RX1) (T := TX1) (N := 7) hx hb hts (by decide +kernel) hown hK hP 0 rfl rfl 0 (by decide) (hts (.fieldLink RX1 11 "Tapebuffer" "tapes" "[LTapebuffer$Row;") (by decide +kernel)) (fun _ h9 => h9) rfl dX1_init_20 ?_
  refine lv_iload_n hx hb dX1_init_23 rfl (lv_at hl 0 rfl) ?_
  have h_1 : 3 + 1 ≤ 20 := by omega
  have h_2 : 262 + 2 ≤ 3000 := by omega
  refine va_new (ci := 2) (fs := [.null, .int 0]) (C := RX0) (T := TX0) (N := 2) hx hb hts (by decide +kernel) tyX0 tyX0_ok hown (hts (.classLink RX1 9 RX0) (by decide +kernel)) (hts (.instantiable RX0 2) (by decide +kernel)) (hts (.initialized RX0) (by decide +kernel)) hK hP hD hS hA rfl (fun j hj => by rcases (show j = 0 ∨ j = 1 by omega) with rfl | rfl <;> rfl) h_1 h_2 dX1_init_24 (fun q1 H hP hD hS => ?_)
  have hP : va_P D vwCl [(x0, .inr (3, [.ref t0, .null, .null, .null, .int 0, .int 0, .int 0])), (t0, .inl (E 3, 4, .inr (.inr (.inr (.inr (va_up (fun _ => none) 0 (some q0))))))), (q0, .inr (2, [.ref g0, .int 0])), (g0, .inl (E 2, 256, .inl z0)), (q1, .inr (2, [.null, .int 0]))] H := hP
  have hD : va_D A [(x0, .inr (3, [.ref t0, .null, .null, .null, .int 0, .int 0, .int 0])), (t0, .inl (E 3, 4, .inr (.inr (.inr (.inr (va_up (fun _ => none) 0 (some q0))))))), (q0, .inr (2, [.ref g0, .int 0])), (g0, .inl (E 2, 256, .inl z0)), (q1, .inr (2, [.null, .int 0]))] := hD
  refine W.widen (k := 4) (n := 264) (by omega) (by omega) ?_
  refine lv_dup hx hb dX1_init_27 rfl ?_
  have hPc := hP.sub (ws' := [(q1, .inr (2, [.null, .int 0]))]) [4] rfl
  have hDc := hD.sub (ws' := [(q1, .inr (2, [.null, .int 0]))]) [4] (by decide) rfl
  have hFc := va_free (wc := [(q1, .inr (2, [.null, .int 0]))]) hD hS hA [4] rfl
  have h_1 : 4 + 1 ≤ 20 := by omega
  have h_2 : 264 + 256 ≤ 3000 := by omega
  refine va_callv (va_runI (As := []) (rest := [.ref q1, .int (nI (1)), .ref t0]) ⟨hx, hb, hml, hown, hts⟩ (c_X0_init l D E H.size (q1)) (cwI 0 hts gX1_init_X0_init rfl rfl rfl (hts (.initialized RX0) (by decide +kernel)) (hts (.methodLink RX1 15 yX0_init) (by decide +kernel)) (hts (.instanceMethod yX0_init) (by decide +kernel)) rfl (by decide +kernel) ⟨Nat.le_of_ble_eq_true rfl, Nat.le_of_ble_eq_true rfl⟩) ⟨rf_blind _, fun U hU hW => ⟨rfl, rf_pre hK hPc hDc hZ hN hS hFc U hU hW⟩⟩ rfl rfl hl.1 rfl (lv_room (Nat.le_of_ble_eq_true rfl)) dX1_init_28 ⟨h_1, h_2⟩) hS (fun q _ h => hFc q h) hFc (fun g1 t H1 locs ht hvm hw hB hz1 hk1 hS => ?_)
  obtain ⟨hP1, hD1⟩ := hB
  rw [ht] at hP1
  try dsimp only at hw hP1 hD1
  obtain ⟨hP, hD⟩ := va_join (wr := [(x0, .inr (3, [.ref t0, .null, .null, .null, .int 0, .int 0, .int 0])), (t0, .inl (E 3, 4, .inr (.inr (.inr (.inr (va_up (fun _ => none) 0 (some q0))))))), (q0, .inr (2, [.ref g0, .int 0])), (g0, .inl (E 2, 256, .inl z0))]) (w1 := [(q1, .inr (2, [.ref g1, .int 0])), (g1, .inl (E 2, 256, .inl z0))]) hP hD [4] [0, 1, 2, 3] rfl rfl (by decide) (by decide) hk1 hFc hP1 hD1
  clear hPc hDc hFc hP1 hD1 hk1 hz1 ht
  generalize H1 = H at hP hS ⊢
  have hP : va_P D vwCl [(x0, .inr (3, [.ref t0, .null, .null, .null, .int 0, .int 0, .int 0])), (t0, .inl (E 3, 4, .inr (.inr (.inr (.inr (va_up (fun _ => none) 0 (some q0))))))), (q0, .inr (2, [.ref g0, .int 0])), (g0, .inl (E 2, 256, .inl z0)), (q1, .inr (2, [.ref g1, .int 0])), (g1, .inl (E 2, 256, .inl z0))] H := hP
  have hD : va_D A [(x0, .inr (3, [.ref t0, .null, .null, .null, .int 0, .int 0, .int 0])), (t0, .inl (E 3, 4, .inr (.inr (.inr (.inr (va_up (fun _ => none) 0 (some q0))))))), (q0, .inr (2, [.ref g0, .int 0])), (g0, .inl (E 2, 256, .inl z0)), (q1, .inr (2, [.ref g1, .int 0])), (g1, .inl (E 2, 256, .inl z0))] := hD
  refine W.widen (k := 5) (n := 520) (by omega) (by omega) ?_
  refine va_astq (r := (RX0, TX0, 2)) hx hb hK hP hD hS 1 3 4 2 rfl rfl rfl rfl (vp_in_nI (by omega) (by omega)) dX1_init_31 (fun H locs hP hD hS => ?_)
  have hP : va_P D vwCl [(x0, .inr (3, [.ref t0, .null, .null, .null, .int 0, .int 0, .int 0])), (t0, .inl (E 3, 4, .inr (.inr (.inr (.inr (va_up (va_up (fun _ => none) 0 (some q0)) 1 (some q1))))))), (q0, .inr (2, [.ref g0, .int 0])), (g0, .inl (E 2, 256, .inl z0)), (q1, .inr (2, [.ref g1, .int 0])), (g1, .inl (E 2, 256, .inl z0))] H := hP
  have hD : va_D A [(x0, .inr (3, [.ref t0, .null, .null, .null, .int 0, .int 0, .int 0])), (t0, .inl (E 3, 4, .inr (.inr (.inr (.inr (va_up (va_up (fun _ => none) 0 (some q0)) 1 (some q1))))))), (q0, .inr (2, [.ref g0, .int 0])), (g0, .inl (E 2, 256, .inl z0)), (q1, .inr (2, [.ref g1, .int 0])), (g1, .inl (E 2, 256, .inl z0))] := hD
  refine lv_iinc (v := nI (2)) hx hb dX1_init_32 hl (k := 0) rfl ((show nI (1) + Int32.ofInt 1 = nI (1) + nI 1 from rfl).trans ((nI_add _ _).trans (congrArg nI (by omega)))) (Nat.le_of_ble_eq_true rfl) rfl (fun ls hl => ?_)
  have hl : lv_has ls 2 [(1, .int (nI (2))), (0, .ref x0)] := hl
  refine lv_goto (tgt := 14) hx hb dX1_init_35 rfl ?_
  refine lv_iload_n hx hb dX1_init_14 rfl (lv_at hl 0 rfl) ?_
  refine lv_iconst (v := nI 4) hx hb dX1_init_15 (by decide) ?_
  refine lv_icmp_ge (tgt := 38) hx hb dX1_init_16 rfl (fun h => absurd h (by decide)) (fun _ => ?_)
  refine lv_aload_n hx hb dX1_init_19 rfl (lv_at hl 1 rfl) ?_
  refine va_get (D := D) (ci := 3) (v := .ref t0) (C := RX1) (T := TX1) (N := 7) hx hb hts (by decide +kernel) hown hK hP 0 rfl rfl 0 (by decide) (hts (.fieldLink RX1 11 "Tapebuffer" "tapes" "[LTapebuffer$Row;") (by decide +kernel)) (fun _ h9 => h9) rfl dX1_init_20 ?_
  refine lv_iload_n hx hb dX1_init_23 rfl (lv_at hl 0 rfl) ?_
  have h_1 : 5 + 1 ≤ 20 := by omega
  have h_2 : 520 + 2 ≤ 3000 := by omega
  refine va_new (ci := 2) (fs := [.null, .int 0]) (C := RX0) (T := TX0) (N := 2) hx hb hts (by decide +kernel) tyX0 tyX0_ok hown (hts (.classLink RX1 9 RX0) (by decide +kernel)) (hts (.instantiable RX0 2) (by decide +kernel)) (hts (.initialized RX0) (by decide +kernel)) hK hP hD hS hA rfl (fun j hj => by rcases (show j = 0 ∨ j = 1 by omega) with rfl | rfl <;> rfl) h_1 h_2 dX1_init_24 (fun q2 H hP hD hS => ?_)
  have hP : va_P D vwCl [(x0, .inr (3, [.ref t0, .null, .null, .null, .int 0, .int 0, .int 0])), (t0, .inl (E 3, 4, .inr (.inr (.inr (.inr (va_up (va_up (fun _ => none) 0 (some q0)) 1 (some q1))))))), (q0, .inr (2, [.ref g0, .int 0])), (g0, .inl (E 2, 256, .inl z0)), (q1, .inr (2, [.ref g1, .int 0])), (g1, .inl (E 2, 256, .inl z0)), (q2, .inr (2, [.null, .int 0]))] H := hP
  have hD : va_D A [(x0, .inr (3, [.ref t0, .null, .null, .null, .int 0, .int 0, .int 0])), (t0, .inl (E 3, 4, .inr (.inr (.inr (.inr (va_up (va_up (fun _ => none) 0 (some q0)) 1 (some q1))))))), (q0, .inr (2, [.ref g0, .int 0])), (g0, .inl (E 2, 256, .inl z0)), (q1, .inr (2, [.ref g1, .int 0])), (g1, .inl (E 2, 256, .inl z0)), (q2, .inr (2, [.null, .int 0]))] := hD
  refine W.widen (k := 6) (n := 522) (by omega) (by omega) ?_
  refine lv_dup hx hb dX1_init_27 rfl ?_
  have hPc := hP.sub (ws' := [(q2, .inr (2, [.null, .int 0]))]) [6] rfl
  have hDc := hD.sub (ws' := [(q2, .inr (2, [.null, .int 0]))]) [6] (by decide) rfl
  have hFc := va_free (wc := [(q2, .inr (2, [.null, .int 0]))]) hD hS hA [6] rfl
  have h_1 : 6 + 1 ≤ 20 := by omega
  have h_2 : 522 + 256 ≤ 3000 := by omega
  refine va_callv (va_runI (As := []) (rest := [.ref q2, .int (nI (2)), .ref t0]) ⟨hx, hb, hml, hown, hts⟩ (c_X0_init l D E H.size (q2)) (cwI 0 hts gX1_init_X0_init rfl rfl rfl (hts (.initialized RX0) (by decide +kernel)) (hts (.methodLink RX1 15 yX0_init) (by decide +kernel)) (hts (.instanceMethod yX0_init) (by decide +kernel)) rfl (by decide +kernel) ⟨Nat.le_of_ble_eq_true rfl, Nat.le_of_ble_eq_true rfl⟩) ⟨rf_blind _, fun U hU hW => ⟨rfl, rf_pre hK hPc hDc hZ hN hS hFc U hU hW⟩⟩ rfl rfl hl.1 rfl (lv_room (Nat.le_of_ble_eq_true rfl)) dX1_init_28 ⟨h_1, h_2⟩) hS (fun q _ h => hFc q h) hFc (fun g2 t H1 locs ht hvm hw hB hz1 hk1 hS => ?_)
  obtain ⟨hP1, hD1⟩ := hB
  rw [ht] at hP1
  try dsimp only at hw hP1 hD1
  obtain ⟨hP, hD⟩ := va_join (wr := [(x0, .inr (3, [.ref t0, .null, .null, .null, .int 0, .int 0, .int 0])), (t0, .inl (E 3, 4, .inr (.inr (.inr (.inr (va_up (va_up (fun _ => none) 0 (some q0)) 1 (some q1))))))), (q0, .inr (2, [.ref g0, .int 0])), (g0, .inl (E 2, 256, .inl z0)), (q1, .inr (2, [.ref g1, .int 0])), (g1, .inl (E 2, 256, .inl z0))]) (w1 := [(q2, .inr (2, [.ref g2, .int 0])), (g2, .inl (E 2, 256, .inl z0))]) hP hD [6] [0, 1, 2, 3, 4, 5] rfl rfl (by decide) (by decide) hk1 hFc hP1 hD1
  clear hPc hDc hFc hP1 hD1 hk1 hz1 ht
  generalize H1 = H at hP hS ⊢
  have hP : va_P D vwCl [(x0, .inr (3, [.ref t0, .null, .null, .null, .int 0, .int 0, .int 0])), (t0, .inl (E 3, 4, .inr (.inr (.inr (.inr (va_up (va_up (fun _ => none) 0 (some q0)) 1 (some q1))))))), (q0, .inr (2, [.ref g0, .int 0])), (g0, .inl (E 2, 256, .inl z0)), (q1, .inr (2, [.ref g1, .int 0])), (g1, .inl (E 2, 256, .inl z0)), (q2, .inr (2, [.ref g2, .int 0])), (g2, .inl (E 2, 256, .inl z0))] H := hP
  have hD : va_D A [(x0, .inr (3, [.ref t0, .null, .null, .null, .int 0, .int 0, .int 0])), (t0, .inl (E 3, 4, .inr (.inr (.inr (.inr (va_up (va_up (fun _ => none) 0 (some q0)) 1 (some q1))))))), (q0, .inr (2, [.ref g0, .int 0])), (g0, .inl (E 2, 256, .inl z0)), (q1, .inr (2, [.ref g1, .int 0])), (g1, .inl (E 2, 256, .inl z0)), (q2, .inr (2, [.ref g2, .int 0])), (g2, .inl (E 2, 256, .inl z0))] := hD
  refine W.widen (k := 7) (n := 778) (by omega) (by omega) ?_
  refine va_astq (r := (RX0, TX0, 2)) hx hb hK hP hD hS 1 3 6 2 rfl rfl rfl rfl (vp_in_nI (by omega) (by omega)) dX1_init_31 (fun H locs hP hD hS => ?_)
  have hP : va_P D vwCl [(x0, .inr (3, [.ref t0, .null, .null, .null, .int 0, .int 0, .int 0])), (t0, .inl (E 3, 4, .inr (.inr (.inr (.inr (va_up (va_up (va_up (fun _ => none) 0 (some q0)) 1 (some q1)) 2 (some q2))))))), (q0, .inr (2, [.ref g0, .int 0])), (g0, .inl (E 2, 256, .inl z0)), (q1, .inr (2, [.ref g1, .int 0])), (g1, .inl (E 2, 256, .inl z0)), (q2, .inr (2, [.ref g2, .int 0])), (g2, .inl (E 2, 256, .inl z0))] H := hP
  have hD : va_D A [(x0, .inr (3, [.ref t0, .null, .null, .null, .int 0, .int 0, .int 0])), (t0, .inl (E 3, 4, .inr (.inr (.inr (.inr (va_up (va_up (va_up (fun _ => none) 0 (some q0)) 1 (some q1)) 2 (some q2))))))), (q0, .inr (2, [.ref g0, .int 0])), (g0, .inl (E 2, 256, .inl z0)), (q1, .inr (2, [.ref g1, .int 0])), (g1, .inl (E 2, 256, .inl z0)), (q2, .inr (2, [.ref g2, .int 0])), (g2, .inl (E 2, 256, .inl z0))] := hD
  refine lv_iinc (v := nI (3)) hx hb dX1_init_32 hl (k := 0) rfl ((show nI (2) + Int32.ofInt 1 = nI (2) + nI 1 from rfl).trans ((nI_add _ _).trans (congrArg nI (by omega)))) (Nat.le_of_ble_eq_true rfl) rfl (fun ls hl => ?_)
  have hl : lv_has ls 2 [(1, .int (nI (3))), (0, .ref x0)] := hl
  refine lv_goto (tgt := 14) hx hb dX1_init_35 rfl ?_
  refine lv_iload_n hx hb dX1_init_14 rfl (lv_at hl 0 rfl) ?_
  refine lv_iconst (v := nI 4) hx hb dX1_init_15 (by decide) ?_
  refine lv_icmp_ge (tgt := 38) hx hb dX1_init_16 rfl (fun h => absurd h (by decide)) (fun _ => ?_)
  refine lv_aload_n hx hb dX1_init_19 rfl (lv_at hl 1 rfl) ?_
  refine va_get (D := D) (ci := 3) (v := .ref t0) (C := RX1) (T := TX1) (N := 7) hx hb hts (by decide +kernel) hown hK hP 0 rfl rfl 0 (by decide) (hts (.fieldLink RX1 11 "Tapebuffer" "tapes" "[LTapebuffer$Row;") (by decide +kernel)) (fun _ h9 => h9) rfl dX1_init_20 ?_
  refine lv_iload_n hx hb dX1_init_23 rfl (lv_at hl 0 rfl) ?_
  have h_1 : 7 + 1 ≤ 20 := by omega
  have h_2 : 778 + 2 ≤ 3000 := by omega
  refine va_new (ci := 2) (fs := [.null, .int 0]) (C := RX0) (T := TX0) (N := 2) hx hb hts (by decide +kernel) tyX0 tyX0_ok hown (hts (.classLink RX1 9 RX0) (by decide +kernel)) (hts (.instantiable RX0 2) (by decide +kernel)) (hts (.initialized RX0) (by decide +kernel)) hK hP hD hS hA rfl (fun j hj => by rcases (show j = 0 ∨ j = 1 by omega) with rfl | rfl <;> rfl) h_1 h_2 dX1_init_24 (fun q3 H hP hD hS => ?_)
  have hP : va_P D vwCl [(x0, .inr (3, [.ref t0, .null, .null, .null, .int 0, .int 0, .int 0])), (t0, .inl (E 3, 4, .inr (.inr (.inr (.inr (va_up (va_up (va_up (fun _ => none) 0 (some q0)) 1 (some q1)) 2 (some q2))))))), (q0, .inr (2, [.ref g0, .int 0])), (g0, .inl (E 2, 256, .inl z0)), (q1, .inr (2, [.ref g1, .int 0])), (g1, .inl (E 2, 256, .inl z0)), (q2, .inr (2, [.ref g2, .int 0])), (g2, .inl (E 2, 256, .inl z0)), (q3, .inr (2, [.null, .int 0]))] H := hP
  have hD : va_D A [(x0, .inr (3, [.ref t0, .null, .null, .null, .int 0, .int 0, .int 0])), (t0, .inl (E 3, 4, .inr (.inr (.inr (.inr (va_up (va_up (va_up (fun _ => none) 0 (some q0)) 1 (some q1)) 2 (some q2))))))), (q0, .inr (2, [.ref g0, .int 0])), (g0, .inl (E 2, 256, .inl z0)), (q1, .inr (2, [.ref g1, .int 0])), (g1, .inl (E 2, 256, .inl z0)), (q2, .inr (2, [.ref g2, .int 0])), (g2, .inl (E 2, 256, .inl z0)), (q3, .inr (2, [.null, .int 0]))] := hD
  refine W.widen (k := 8) (n := 780) (by omega) (by omega) ?_
  refine lv_dup hx hb dX1_init_27 rfl ?_
  have hPc := hP.sub (ws' := [(q3, .inr (2, [.null, .int 0]))]) [8] rfl
  have hDc := hD.sub (ws' := [(q3, .inr (2, [.null, .int 0]))]) [8] (by decide) rfl
  have hFc := va_free (wc := [(q3, .inr (2, [.null, .int 0]))]) hD hS hA [8] rfl
  have h_1 : 8 + 1 ≤ 20 := by omega
  have h_2 : 780 + 256 ≤ 3000 := by omega
  refine va_callv (va_runI (As := []) (rest := [.ref q3, .int (nI (3)), .ref t0]) ⟨hx, hb, hml, hown, hts⟩ (c_X0_init l D E H.size (q3)) (cwI 0 hts gX1_init_X0_init rfl rfl rfl (hts (.initialized RX0) (by decide +kernel)) (hts (.methodLink RX1 15 yX0_init) (by decide +kernel)) (hts (.instanceMethod yX0_init) (by decide +kernel)) rfl (by decide +kernel) ⟨Nat.le_of_ble_eq_true rfl, Nat.le_of_ble_eq_true rfl⟩) ⟨rf_blind _, fun U hU hW => ⟨rfl, rf_pre hK hPc hDc hZ hN hS hFc U hU hW⟩⟩ rfl rfl hl.1 rfl (lv_room (Nat.le_of_ble_eq_true rfl)) dX1_init_28 ⟨h_1, h_2⟩) hS (fun q _ h => hFc q h) hFc (fun g3 t H1 locs ht hvm hw hB hz1 hk1 hS => ?_)
  obtain ⟨hP1, hD1⟩ := hB
  rw [ht] at hP1
  try dsimp only at hw hP1 hD1
  obtain ⟨hP, hD⟩ := va_join (wr := [(x0, .inr (3, [.ref t0, .null, .null, .null, .int 0, .int 0, .int 0])), (t0, .inl (E 3, 4, .inr (.inr (.inr (.inr (va_up (va_up (va_up (fun _ => none) 0 (some q0)) 1 (some q1)) 2 (some q2))))))), (q0, .inr (2, [.ref g0, .int 0])), (g0, .inl (E 2, 256, .inl z0)), (q1, .inr (2, [.ref g1, .int 0])), (g1, .inl (E 2, 256, .inl z0)), (q2, .inr (2, [.ref g2, .int 0])), (g2, .inl (E 2, 256, .inl z0))]) (w1 := [(q3, .inr (2, [.ref g3, .int 0])), (g3, .inl (E 2, 256, .inl z0))]) hP hD [8] [0, 1, 2, 3, 4, 5, 6, 7] rfl rfl (by decide) (by decide) hk1 hFc hP1 hD1
  clear hPc hDc hFc hP1 hD1 hk1 hz1 ht
  generalize H1 = H at hP hS ⊢
  have hP : va_P D vwCl [(x0, .inr (3, [.ref t0, .null, .null, .null, .int 0, .int 0, .int 0])), (t0, .inl (E 3, 4, .inr (.inr (.inr (.inr (va_up (va_up (va_up (fun _ => none) 0 (some q0)) 1 (some q1)) 2 (some q2))))))), (q0, .inr (2, [.ref g0, .int 0])), (g0, .inl (E 2, 256, .inl z0)), (q1, .inr (2, [.ref g1, .int 0])), (g1, .inl (E 2, 256, .inl z0)), (q2, .inr (2, [.ref g2, .int 0])), (g2, .inl (E 2, 256, .inl z0)), (q3, .inr (2, [.ref g3, .int 0])), (g3, .inl (E 2, 256, .inl z0))] H := hP
  have hD : va_D A [(x0, .inr (3, [.ref t0, .null, .null, .null, .int 0, .int 0, .int 0])), (t0, .inl (E 3, 4, .inr (.inr (.inr (.inr (va_up (va_up (va_up (fun _ => none) 0 (some q0)) 1 (some q1)) 2 (some q2))))))), (q0, .inr (2, [.ref g0, .int 0])), (g0, .inl (E 2, 256, .inl z0)), (q1, .inr (2, [.ref g1, .int 0])), (g1, .inl (E 2, 256, .inl z0)), (q2, .inr (2, [.ref g2, .int 0])), (g2, .inl (E 2, 256, .inl z0)), (q3, .inr (2, [.ref g3, .int 0])), (g3, .inl (E 2, 256, .inl z0))] := hD
  refine W.widen (k := 9) (n := 1036) (by omega) (by omega) ?_
  refine va_astq (r := (RX0, TX0, 2)) hx hb hK hP hD hS 1 3 8 2 rfl rfl rfl rfl (vp_in_nI (by omega) (by omega)) dX1_init_31 (fun H locs hP hD hS => ?_)
  have hP : va_P D vwCl [(x0, .inr (3, [.ref t0, .null, .null, .null, .int 0, .int 0, .int 0])), (t0, .inl (E 3, 4, .inr (.inr (.inr (.inr (va_up (va_up (va_up (va_up (fun _ => none) 0 (some q0)) 1 (some q1)) 2 (some q2)) 3 (some q3))))))), (q0, .inr (2, [.ref g0, .int 0])), (g0, .inl (E 2, 256, .inl z0)), (q1, .inr (2, [.ref g1, .int 0])), (g1, .inl (E 2, 256, .inl z0)), (q2, .inr (2, [.ref g2, .int 0])), (g2, .inl (E 2, 256, .inl z0)), (q3, .inr (2, [.ref g3, .int 0])), (g3, .inl (E 2, 256, .inl z0))] H := hP
  have hD : va_D A [(x0, .inr (3, [.ref t0, .null, .null, .null, .int 0, .int 0, .int 0])), (t0, .inl (E 3, 4, .inr (.inr (.inr (.inr (va_up (va_up (va_up (va_up (fun _ => none) 0 (some q0)) 1 (some q1)) 2 (some q2)) 3 (some q3))))))), (q0, .inr (2, [.ref g0, .int 0])), (g0, .inl (E 2, 256, .inl z0)), (q1, .inr (2, [.ref g1, .int 0])), (g1, .inl (E 2, 256, .inl z0)), (q2, .inr (2, [.ref g2, .int 0])), (g2, .inl (E 2, 256, .inl z0)), (q3, .inr (2, [.ref g3, .int 0])), (g3, .inl (E 2, 256, .inl z0))] := hD
  refine lv_iinc (v := nI (4)) hx hb dX1_init_32 hl (k := 0) rfl ((show nI (3) + Int32.ofInt 1 = nI (3) + nI 1 from rfl).trans ((nI_add _ _).trans (congrArg nI (by omega)))) (Nat.le_of_ble_eq_true rfl) rfl (fun ls hl => ?_)
  have hl : lv_has ls 2 [(1, .int (nI (4))), (0, .ref x0)] := hl
  refine lv_goto (tgt := 14) hx hb dX1_init_35 rfl ?_
  refine lv_iload_n hx hb dX1_init_14 rfl (lv_at hl 0 rfl) ?_
  refine lv_iconst (v := nI 4) hx hb dX1_init_15 (by decide) ?_
  refine lv_icmp_ge (tgt := 38) hx hb dX1_init_16 rfl (fun _ => ?_) (fun h => absurd (by decide) h)
  refine lv_aload_n hx hb dX1_init_38 rfl (lv_at hl 1 rfl) ?_
  have h_1 : 9 + 1 ≤ 20 := by omega
  have h_2 : 1036 + 2 ≤ 3000 := by omega
  refine va_new (ci := 2) (fs := [.null, .int 0]) (C := RX0) (T := TX0) (N := 2) hx hb hts (by decide +kernel) tyX0 tyX0_ok hown (hts (.classLink RX1 9 RX0) (by decide +kernel)) (hts (.instantiable RX0 2) (by decide +kernel)) (hts (.initialized RX0) (by decide +kernel)) hK hP hD hS hA rfl (fun j hj => by rcases (show j = 0 ∨ j = 1 by omega) with rfl | rfl <;> rfl) h_1 h_2 dX1_init_39 (fun q4 H hP hD hS => ?_)
  have hP : va_P D vwCl [(x0, .inr (3, [.ref t0, .null, .null, .null, .int 0, .int 0, .int 0])), (t0, .inl (E 3, 4, .inr (.inr (.inr (.inr (va_up (va_up (va_up (va_up (fun _ => none) 0 (some q0)) 1 (some q1)) 2 (some q2)) 3 (some q3))))))), (q0, .inr (2, [.ref g0, .int 0])), (g0, .inl (E 2, 256, .inl z0)), (q1, .inr (2, [.ref g1, .int 0])), (g1, .inl (E 2, 256, .inl z0)), (q2, .inr (2, [.ref g2, .int 0])), (g2, .inl (E 2, 256, .inl z0)), (q3, .inr (2, [.ref g3, .int 0])), (g3, .inl (E 2, 256, .inl z0)), (q4, .inr (2, [.null, .int 0]))] H := hP
  have hD : va_D A [(x0, .inr (3, [.ref t0, .null, .null, .null, .int 0, .int 0, .int 0])), (t0, .inl (E 3, 4, .inr (.inr (.inr (.inr (va_up (va_up (va_up (va_up (fun _ => none) 0 (some q0)) 1 (some q1)) 2 (some q2)) 3 (some q3))))))), (q0, .inr (2, [.ref g0, .int 0])), (g0, .inl (E 2, 256, .inl z0)), (q1, .inr (2, [.ref g1, .int 0])), (g1, .inl (E 2, 256, .inl z0)), (q2, .inr (2, [.ref g2, .int 0])), (g2, .inl (E 2, 256, .inl z0)), (q3, .inr (2, [.ref g3, .int 0])), (g3, .inl (E 2, 256, .inl z0)), (q4, .inr (2, [.null, .int 0]))] := hD
  refine W.widen (k := 10) (n := 1038) (by omega) (by omega) ?_
  refine lv_dup hx hb dX1_init_42 rfl ?_
  have hPc := hP.sub (ws' := [(q4, .inr (2, [.null, .int 0]))]) [10] rfl
  have hDc := hD.sub (ws' := [(q4, .inr (2, [.null, .int 0]))]) [10] (by decide) rfl
  have hFc := va_free (wc := [(q4, .inr (2, [.null, .int 0]))]) hD hS hA [10] rfl
  have h_1 : 10 + 1 ≤ 20 := by omega
  have h_2 : 1038 + 256 ≤ 3000 := by omega
  refine va_callv (va_runI (As := []) (rest := [.ref q4, .ref x0]) ⟨hx, hb, hml, hown, hts⟩ (c_X0_init l D E H.size (q4)) (cwI 0 hts gX1_init_X0_init rfl rfl rfl (hts (.initialized RX0) (by decide +kernel)) (hts (.methodLink RX1 15 yX0_init) (by decide +kernel)) (hts (.instanceMethod yX0_init) (by decide +kernel)) rfl (by decide +kernel) ⟨Nat.le_of_ble_eq_true rfl, Nat.le_of_ble_eq_true rfl⟩) ⟨rf_blind _, fun U hU hW => ⟨rfl, rf_pre hK hPc hDc hZ hN hS hFc U hU hW⟩⟩ rfl rfl hl.1 rfl (lv_room (Nat.le_of_ble_eq_true rfl)) dX1_init_43 ⟨h_1, h_2⟩) hS (fun q _ h => hFc q h) hFc (fun g4 t H1 locs ht hvm hw hB hz1 hk1 hS => ?_)
  obtain ⟨hP1, hD1⟩ := hB
  rw [ht] at hP1
  try dsimp only at hw hP1 hD1
  obtain ⟨hP, hD⟩ := va_join (wr := [(x0, .inr (3, [.ref t0, .null, .null, .null, .int 0, .int 0, .int 0])), (t0, .inl (E 3, 4, .inr (.inr (.inr (.inr (va_up (va_up (va_up (va_up (fun _ => none) 0 (some q0)) 1 (some q1)) 2 (some q2)) 3 (some q3))))))), (q0, .inr (2, [.ref g0, .int 0])), (g0, .inl (E 2, 256, .inl z0)), (q1, .inr (2, [.ref g1, .int 0])), (g1, .inl (E 2, 256, .inl z0)), (q2, .inr (2, [.ref g2, .int 0])), (g2, .inl (E 2, 256, .inl z0)), (q3, .inr (2, [.ref g3, .int 0])), (g3, .inl (E 2, 256, .inl z0))]) (w1 := [(q4, .inr (2, [.ref g4, .int 0])), (g4, .inl (E 2, 256, .inl z0))]) hP hD [10] [0, 1, 2, 3, 4, 5, 6, 7, 8, 9] rfl rfl (by decide) (by decide) hk1 hFc hP1 hD1
  clear hPc hDc hFc hP1 hD1 hk1 hz1 ht
  generalize H1 = H at hP hS ⊢
  have hP : va_P D vwCl [(x0, .inr (3, [.ref t0, .null, .null, .null, .int 0, .int 0, .int 0])), (t0, .inl (E 3, 4, .inr (.inr (.inr (.inr (va_up (va_up (va_up (va_up (fun _ => none) 0 (some q0)) 1 (some q1)) 2 (some q2)) 3 (some q3))))))), (q0, .inr (2, [.ref g0, .int 0])), (g0, .inl (E 2, 256, .inl z0)), (q1, .inr (2, [.ref g1, .int 0])), (g1, .inl (E 2, 256, .inl z0)), (q2, .inr (2, [.ref g2, .int 0])), (g2, .inl (E 2, 256, .inl z0)), (q3, .inr (2, [.ref g3, .int 0])), (g3, .inl (E 2, 256, .inl z0)), (q4, .inr (2, [.ref g4, .int 0])), (g4, .inl (E 2, 256, .inl z0))] H := hP
  have hD : va_D A [(x0, .inr (3, [.ref t0, .null, .null, .null, .int 0, .int 0, .int 0])), (t0, .inl (E 3, 4, .inr (.inr (.inr (.inr (va_up (va_up (va_up (va_up (fun _ => none) 0 (some q0)) 1 (some q1)) 2 (some q2)) 3 (some q3))))))), (q0, .inr (2, [.ref g0, .int 0])), (g0, .inl (E 2, 256, .inl z0)), (q1, .inr (2, [.ref g1, .int 0])), (g1, .inl (E 2, 256, .inl z0)), (q2, .inr (2, [.ref g2, .int 0])), (g2, .inl (E 2, 256, .inl z0)), (q3, .inr (2, [.ref g3, .int 0])), (g3, .inl (E 2, 256, .inl z0)), (q4, .inr (2, [.ref g4, .int 0])), (g4, .inl (E 2, 256, .inl z0))] := hD
  refine W.widen (k := 11) (n := 1294) (by omega) (by omega) ?_
  refine va_putF (D := D) (ci := 3) (v := .ref q4) (ty := .object "Tapebuffer$Row") (C := RX1) (T := TX1) (N := 7) hx hb hts (by decide +kernel) tyX1 tyX1_ok nmX1 hown hK hP hD hS 0 rfl rfl 1 (by decide) (hts (.fieldLink RX1 16 "Tapebuffer" "picture" "LTapebuffer$Row;") (by decide +kernel)) (fun _ h9 => h9) rfl hin rfl (by decide +kernel) rfl rfl (Nat.le_of_ble_eq_true rfl) dX1_init_46 (fun H locs hP hD hS => ?_)
  have hP : va_P D vwCl [(x0, .inr (3, [.ref t0, .ref q4, .null, .null, .int 0, .int 0, .int 0])), (t0, .inl (E 3, 4, .inr (.inr (.inr (.inr (va_up (va_up (va_up (va_up (fun _ => none) 0 (some q0)) 1 (some q1)) 2 (some q2)) 3 (some q3))))))), (q0, .inr (2, [.ref g0, .int 0])), (g0, .inl (E 2, 256, .inl z0)), (q1, .inr (2, [.ref g1, .int 0])), (g1, .inl (E 2, 256, .inl z0)), (q2, .inr (2, [.ref g2, .int 0])), (g2, .inl (E 2, 256, .inl z0)), (q3, .inr (2, [.ref g3, .int 0])), (g3, .inl (E 2, 256, .inl z0)), (q4, .inr (2, [.ref g4, .int 0])), (g4, .inl (E 2, 256, .inl z0))] H := hP
  have hD : va_D A [(x0, .inr (3, [.ref t0, .ref q4, .null, .null, .int 0, .int 0, .int 0])), (t0, .inl (E 3, 4, .inr (.inr (.inr (.inr (va_up (va_up (va_up (va_up (fun _ => none) 0 (some q0)) 1 (some q1)) 2 (some q2)) 3 (some q3))))))), (q0, .inr (2, [.ref g0, .int 0])), (g0, .inl (E 2, 256, .inl z0)), (q1, .inr (2, [.ref g1, .int 0])), (g1, .inl (E 2, 256, .inl z0)), (q2, .inr (2, [.ref g2, .int 0])), (g2, .inl (E 2, 256, .inl z0)), (q3, .inr (2, [.ref g3, .int 0])), (g3, .inl (E 2, 256, .inl z0)), (q4, .inr (2, [.ref g4, .int 0])), (g4, .inl (E 2, 256, .inl z0))] := hD
  refine lv_aload_n hx hb dX1_init_49 rfl (lv_at hl 1 rfl) ?_
  have h_1 : 11 + 1 ≤ 20 := by omega
  have h_2 : 1294 + 2 ≤ 3000 := by omega
  refine va_new (ci := 2) (fs := [.null, .int 0]) (C := RX0) (T := TX0) (N := 2) hx hb hts (by decide +kernel) tyX0 tyX0_ok hown (hts (.classLink RX1 9 RX0) (by decide +kernel)) (hts (.instantiable RX0 2) (by decide +kernel)) (hts (.initialized RX0) (by decide +kernel)) hK hP hD hS hA rfl (fun j hj => by rcases (show j = 0 ∨ j = 1 by omega) with rfl | rfl <;> rfl) h_1 h_2 dX1_init_50 (fun q5 H hP hD hS => ?_)
  have hP : va_P D vwCl [(x0, .inr (3, [.ref t0, .ref q4, .null, .null, .int 0, .int 0, .int 0])), (t0, .inl (E 3, 4, .inr (.inr (.inr (.inr (va_up (va_up (va_up (va_up (fun _ => none) 0 (some q0)) 1 (some q1)) 2 (some q2)) 3 (some q3))))))), (q0, .inr (2, [.ref g0, .int 0])), (g0, .inl (E 2, 256, .inl z0)), (q1, .inr (2, [.ref g1, .int 0])), (g1, .inl (E 2, 256, .inl z0)), (q2, .inr (2, [.ref g2, .int 0])), (g2, .inl (E 2, 256, .inl z0)), (q3, .inr (2, [.ref g3, .int 0])), (g3, .inl (E 2, 256, .inl z0)), (q4, .inr (2, [.ref g4, .int 0])), (g4, .inl (E 2, 256, .inl z0)), (q5, .inr (2, [.null, .int 0]))] H := hP
  have hD : va_D A [(x0, .inr (3, [.ref t0, .ref q4, .null, .null, .int 0, .int 0, .int 0])), (t0, .inl (E 3, 4, .inr (.inr (.inr (.inr (va_up (va_up (va_up (va_up (fun _ => none) 0 (some q0)) 1 (some q1)) 2 (some q2)) 3 (some q3))))))), (q0, .inr (2, [.ref g0, .int 0])), (g0, .inl (E 2, 256, .inl z0)), (q1, .inr (2, [.ref g1, .int 0])), (g1, .inl (E 2, 256, .inl z0)), (q2, .inr (2, [.ref g2, .int 0])), (g2, .inl (E 2, 256, .inl z0)), (q3, .inr (2, [.ref g3, .int 0])), (g3, .inl (E 2, 256, .inl z0)), (q4, .inr (2, [.ref g4, .int 0])), (g4, .inl (E 2, 256, .inl z0)), (q5, .inr (2, [.null, .int 0]))] := hD
  refine W.widen (k := 12) (n := 1296) (by omega) (by omega) ?_
  refine lv_dup hx hb dX1_init_53 rfl ?_
  have hPc := hP.sub (ws' := [(q5, .inr (2, [.null, .int 0]))]) [12] rfl
  have hDc := hD.sub (ws' := [(q5, .inr (2, [.null, .int 0]))]) [12] (by decide) rfl
  have hFc := va_free (wc := [(q5, .inr (2, [.null, .int 0]))]) hD hS hA [12] rfl
  have h_1 : 12 + 1 ≤ 20 := by omega
  have h_2 : 1296 + 256 ≤ 3000 := by omega
  refine va_callv (va_runI (As := []) (rest := [.ref q5, .ref x0]) ⟨hx, hb, hml, hown, hts⟩ (c_X0_init l D E H.size (q5)) (cwI 0 hts gX1_init_X0_init rfl rfl rfl (hts (.initialized RX0) (by decide +kernel)) (hts (.methodLink RX1 15 yX0_init) (by decide +kernel)) (hts (.instanceMethod yX0_init) (by decide +kernel)) rfl (by decide +kernel) ⟨Nat.le_of_ble_eq_true rfl, Nat.le_of_ble_eq_true rfl⟩) ⟨rf_blind _, fun U hU hW => ⟨rfl, rf_pre hK hPc hDc hZ hN hS hFc U hU hW⟩⟩ rfl rfl hl.1 rfl (lv_room (Nat.le_of_ble_eq_true rfl)) dX1_init_54 ⟨h_1, h_2⟩) hS (fun q _ h => hFc q h) hFc (fun g5 t H1 locs ht hvm hw hB hz1 hk1 hS => ?_)
  obtain ⟨hP1, hD1⟩ := hB
  rw [ht] at hP1
  try dsimp only at hw hP1 hD1
  obtain ⟨hP, hD⟩ := va_join (wr := [(x0, .inr (3, [.ref t0, .ref q4, .null, .null, .int 0, .int 0, .int 0])), (t0, .inl (E 3, 4, .inr (.inr (.inr (.inr (va_up (va_up (va_up (va_up (fun _ => none) 0 (some q0)) 1 (some q1)) 2 (some q2)) 3 (some q3))))))), (q0, .inr (2, [.ref g0, .int 0])), (g0, .inl (E 2, 256, .inl z0)), (q1, .inr (2, [.ref g1, .int 0])), (g1, .inl (E 2, 256, .inl z0)), (q2, .inr (2, [.ref g2, .int 0])), (g2, .inl (E 2, 256, .inl z0)), (q3, .inr (2, [.ref g3, .int 0])), (g3, .inl (E 2, 256, .inl z0)), (q4, .inr (2, [.ref g4, .int 0])), (g4, .inl (E 2, 256, .inl z0))]) (w1 := [(q5, .inr (2, [.ref g5, .int 0])), (g5, .inl (E 2, 256, .inl z0))]) hP hD [12] [0, 1, 2, 3, 4, 5, 6, 7, 8, 9, 10, 11] rfl rfl (by decide) (by decide) hk1 hFc hP1 hD1
  clear hPc hDc hFc hP1 hD1 hk1 hz1 ht
  generalize H1 = H at hP hS ⊢
  have hP : va_P D vwCl [(x0, .inr (3, [.ref t0, .ref q4, .null, .null, .int 0, .int 0, .int 0])), (t0, .inl (E 3, 4, .inr (.inr (.inr (.inr (va_up (va_up (va_up (va_up (fun _ => none) 0 (some q0)) 1 (some q1)) 2 (some q2)) 3 (some q3))))))), (q0, .inr (2, [.ref g0, .int 0])), (g0, .inl (E 2, 256, .inl z0)), (q1, .inr (2, [.ref g1, .int 0])), (g1, .inl (E 2, 256, .inl z0)), (q2, .inr (2, [.ref g2, .int 0])), (g2, .inl (E 2, 256, .inl z0)), (q3, .inr (2, [.ref g3, .int 0])), (g3, .inl (E 2, 256, .inl z0)), (q4, .inr (2, [.ref g4, .int 0])), (g4, .inl (E 2, 256, .inl z0)), (q5, .inr (2, [.ref g5, .int 0])), (g5, .inl (E 2, 256, .inl z0))] H := hP
  have hD : va_D A [(x0, .inr (3, [.ref t0, .ref q4, .null, .null, .int 0, .int 0, .int 0])), (t0, .inl (E 3, 4, .inr (.inr (.inr (.inr (va_up (va_up (va_up (va_up (fun _ => none) 0 (some q0)) 1 (some q1)) 2 (some q2)) 3 (some q3))))))), (q0, .inr (2, [.ref g0, .int 0])), (g0, .inl (E 2, 256, .inl z0)), (q1, .inr (2, [.ref g1, .int 0])), (g1, .inl (E 2, 256, .inl z0)), (q2, .inr (2, [.ref g2, .int 0])), (g2, .inl (E 2, 256, .inl z0)), (q3, .inr (2, [.ref g3, .int 0])), (g3, .inl (E 2, 256, .inl z0)), (q4, .inr (2, [.ref g4, .int 0])), (g4, .inl (E 2, 256, .inl z0)), (q5, .inr (2, [.ref g5, .int 0])), (g5, .inl (E 2, 256, .inl z0))] := hD
  refine W.widen (k := 13) (n := 1552) (by omega) (by omega) ?_
  refine va_putF (D := D) (ci := 3) (v := .ref q5) (ty := .object "Tapebuffer$Row") (C := RX1) (T := TX1) (N := 7) hx hb hts (by decide +kernel) tyX1 tyX1_ok nmX1 hown hK hP hD hS 0 rfl rfl 2 (by decide) (hts (.fieldLink RX1 20 "Tapebuffer" "coming" "LTapebuffer$Row;") (by decide +kernel)) (fun _ h9 => h9) rfl hin rfl (by decide +kernel) rfl rfl (Nat.le_of_ble_eq_true rfl) dX1_init_57 (fun H locs hP hD hS => ?_)
  have hP : va_P D vwCl [(x0, .inr (3, [.ref t0, .ref q4, .ref q5, .null, .int 0, .int 0, .int 0])), (t0, .inl (E 3, 4, .inr (.inr (.inr (.inr (va_up (va_up (va_up (va_up (fun _ => none) 0 (some q0)) 1 (some q1)) 2 (some q2)) 3 (some q3))))))), (q0, .inr (2, [.ref g0, .int 0])), (g0, .inl (E 2, 256, .inl z0)), (q1, .inr (2, [.ref g1, .int 0])), (g1, .inl (E 2, 256, .inl z0)), (q2, .inr (2, [.ref g2, .int 0])), (g2, .inl (E 2, 256, .inl z0)), (q3, .inr (2, [.ref g3, .int 0])), (g3, .inl (E 2, 256, .inl z0)), (q4, .inr (2, [.ref g4, .int 0])), (g4, .inl (E 2, 256, .inl z0)), (q5, .inr (2, [.ref g5, .int 0])), (g5, .inl (E 2, 256, .inl z0))] H := hP
  have hD : va_D A [(x0, .inr (3, [.ref t0, .ref q4, .ref q5, .null, .int 0, .int 0, .int 0])), (t0, .inl (E 3, 4, .inr (.inr (.inr (.inr (va_up (va_up (va_up (va_up (fun _ => none) 0 (some q0)) 1 (some q1)) 2 (some q2)) 3 (some q3))))))), (q0, .inr (2, [.ref g0, .int 0])), (g0, .inl (E 2, 256, .inl z0)), (q1, .inr (2, [.ref g1, .int 0])), (g1, .inl (E 2, 256, .inl z0)), (q2, .inr (2, [.ref g2, .int 0])), (g2, .inl (E 2, 256, .inl z0)), (q3, .inr (2, [.ref g3, .int 0])), (g3, .inl (E 2, 256, .inl z0)), (q4, .inr (2, [.ref g4, .int 0])), (g4, .inl (E 2, 256, .inl z0)), (q5, .inr (2, [.ref g5, .int 0])), (g5, .inl (E 2, 256, .inl z0))] := hD
  refine lv_aload_n hx hb dX1_init_60 rfl (lv_at hl 1 rfl) ?_
  have h_1 : 13 + 1 ≤ 20 := by omega
  have h_2 : 1552 + 2 ≤ 3000 := by omega
  refine va_new (ci := 2) (fs := [.null, .int 0]) (C := RX0) (T := TX0) (N := 2) hx hb hts (by decide +kernel) tyX0 tyX0_ok hown (hts (.classLink RX1 9 RX0) (by decide +kernel)) (hts (.instantiable RX0 2) (by decide +kernel)) (hts (.initialized RX0) (by decide +kernel)) hK hP hD hS hA rfl (fun j hj => by rcases (show j = 0 ∨ j = 1 by omega) with rfl | rfl <;> rfl) h_1 h_2 dX1_init_61 (fun q6 H hP hD hS => ?_)
  have hP : va_P D vwCl [(x0, .inr (3, [.ref t0, .ref q4, .ref q5, .null, .int 0, .int 0, .int 0])), (t0, .inl (E 3, 4, .inr (.inr (.inr (.inr (va_up (va_up (va_up (va_up (fun _ => none) 0 (some q0)) 1 (some q1)) 2 (some q2)) 3 (some q3))))))), (q0, .inr (2, [.ref g0, .int 0])), (g0, .inl (E 2, 256, .inl z0)), (q1, .inr (2, [.ref g1, .int 0])), (g1, .inl (E 2, 256, .inl z0)), (q2, .inr (2, [.ref g2, .int 0])), (g2, .inl (E 2, 256, .inl z0)), (q3, .inr (2, [.ref g3, .int 0])), (g3, .inl (E 2, 256, .inl z0)), (q4, .inr (2, [.ref g4, .int 0])), (g4, .inl (E 2, 256, .inl z0)), (q5, .inr (2, [.ref g5, .int 0])), (g5, .inl (E 2, 256, .inl z0)), (q6, .inr (2, [.null, .int 0]))] H := hP
  have hD : va_D A [(x0, .inr (3, [.ref t0, .ref q4, .ref q5, .null, .int 0, .int 0, .int 0])), (t0, .inl (E 3, 4, .inr (.inr (.inr (.inr (va_up (va_up (va_up (va_up (fun _ => none) 0 (some q0)) 1 (some q1)) 2 (some q2)) 3 (some q3))))))), (q0, .inr (2, [.ref g0, .int 0])), (g0, .inl (E 2, 256, .inl z0)), (q1, .inr (2, [.ref g1, .int 0])), (g1, .inl (E 2, 256, .inl z0)), (q2, .inr (2, [.ref g2, .int 0])), (g2, .inl (E 2, 256, .inl z0)), (q3, .inr (2, [.ref g3, .int 0])), (g3, .inl (E 2, 256, .inl z0)), (q4, .inr (2, [.ref g4, .int 0])), (g4, .inl (E 2, 256, .inl z0)), (q5, .inr (2, [.ref g5, .int 0])), (g5, .inl (E 2, 256, .inl z0)), (q6, .inr (2, [.null, .int 0]))] := hD
  refine W.widen (k := 14) (n := 1554) (by omega) (by omega) ?_
  refine lv_dup hx hb dX1_init_64 rfl ?_
  have hPc := hP.sub (ws' := [(q6, .inr (2, [.null, .int 0]))]) [14] rfl
  have hDc := hD.sub (ws' := [(q6, .inr (2, [.null, .int 0]))]) [14] (by decide) rfl
  have hFc := va_free (wc := [(q6, .inr (2, [.null, .int 0]))]) hD hS hA [14] rfl
  have h_1 : 14 + 1 ≤ 20 := by omega
  have h_2 : 1554 + 256 ≤ 3000 := by omega
  refine va_callv (va_runI (As := []) (rest := [.ref q6, .ref x0]) ⟨hx, hb, hml, hown, hts⟩ (c_X0_init l D E H.size (q6)) (cwI 0 hts gX1_init_X0_init rfl rfl rfl (hts (.initialized RX0) (by decide +kernel)) (hts (.methodLink RX1 15 yX0_init) (by decide +kernel)) (hts (.instanceMethod yX0_init) (by decide +kernel)) rfl (by decide +kernel) ⟨Nat.le_of_ble_eq_true rfl, Nat.le_of_ble_eq_true rfl⟩) ⟨rf_blind _, fun U hU hW => ⟨rfl, rf_pre hK hPc hDc hZ hN hS hFc U hU hW⟩⟩ rfl rfl hl.1 rfl (lv_room (Nat.le_of_ble_eq_true rfl)) dX1_init_65 ⟨h_1, h_2⟩) hS (fun q _ h => hFc q h) hFc (fun g6 t H1 locs ht hvm hw hB hz1 hk1 hS => ?_)
  obtain ⟨hP1, hD1⟩ := hB
  rw [ht] at hP1
  try dsimp only at hw hP1 hD1
  obtain ⟨hP, hD⟩ := va_join (wr := [(x0, .inr (3, [.ref t0, .ref q4, .ref q5, .null, .int 0, .int 0, .int 0])), (t0, .inl (E 3, 4, .inr (.inr (.inr (.inr (va_up (va_up (va_up (va_up (fun _ => none) 0 (some q0)) 1 (some q1)) 2 (some q2)) 3 (some q3))))))), (q0, .inr (2, [.ref g0, .int 0])), (g0, .inl (E 2, 256, .inl z0)), (q1, .inr (2, [.ref g1, .int 0])), (g1, .inl (E 2, 256, .inl z0)), (q2, .inr (2, [.ref g2, .int 0])), (g2, .inl (E 2, 256, .inl z0)), (q3, .inr (2, [.ref g3, .int 0])), (g3, .inl (E 2, 256, .inl z0)), (q4, .inr (2, [.ref g4, .int 0])), (g4, .inl (E 2, 256, .inl z0)), (q5, .inr (2, [.ref g5, .int 0])), (g5, .inl (E 2, 256, .inl z0))]) (w1 := [(q6, .inr (2, [.ref g6, .int 0])), (g6, .inl (E 2, 256, .inl z0))]) hP hD [14] [0, 1, 2, 3, 4, 5, 6, 7, 8, 9, 10, 11, 12, 13] rfl rfl (by decide) (by decide) hk1 hFc hP1 hD1
  clear hPc hDc hFc hP1 hD1 hk1 hz1 ht
  generalize H1 = H at hP hS ⊢
  have hP : va_P D vwCl [(x0, .inr (3, [.ref t0, .ref q4, .ref q5, .null, .int 0, .int 0, .int 0])), (t0, .inl (E 3, 4, .inr (.inr (.inr (.inr (va_up (va_up (va_up (va_up (fun _ => none) 0 (some q0)) 1 (some q1)) 2 (some q2)) 3 (some q3))))))), (q0, .inr (2, [.ref g0, .int 0])), (g0, .inl (E 2, 256, .inl z0)), (q1, .inr (2, [.ref g1, .int 0])), (g1, .inl (E 2, 256, .inl z0)), (q2, .inr (2, [.ref g2, .int 0])), (g2, .inl (E 2, 256, .inl z0)), (q3, .inr (2, [.ref g3, .int 0])), (g3, .inl (E 2, 256, .inl z0)), (q4, .inr (2, [.ref g4, .int 0])), (g4, .inl (E 2, 256, .inl z0)), (q5, .inr (2, [.ref g5, .int 0])), (g5, .inl (E 2, 256, .inl z0)), (q6, .inr (2, [.ref g6, .int 0])), (g6, .inl (E 2, 256, .inl z0))] H := hP
  have hD : va_D A [(x0, .inr (3, [.ref t0, .ref q4, .ref q5, .null, .int 0, .int 0, .int 0])), (t0, .inl (E 3, 4, .inr (.inr (.inr (.inr (va_up (va_up (va_up (va_up (fun _ => none) 0 (some q0)) 1 (some q1)) 2 (some q2)) 3 (some q3))))))), (q0, .inr (2, [.ref g0, .int 0])), (g0, .inl (E 2, 256, .inl z0)), (q1, .inr (2, [.ref g1, .int 0])), (g1, .inl (E 2, 256, .inl z0)), (q2, .inr (2, [.ref g2, .int 0])), (g2, .inl (E 2, 256, .inl z0)), (q3, .inr (2, [.ref g3, .int 0])), (g3, .inl (E 2, 256, .inl z0)), (q4, .inr (2, [.ref g4, .int 0])), (g4, .inl (E 2, 256, .inl z0)), (q5, .inr (2, [.ref g5, .int 0])), (g5, .inl (E 2, 256, .inl z0)), (q6, .inr (2, [.ref g6, .int 0])), (g6, .inl (E 2, 256, .inl z0))] := hD
  refine W.widen (k := 15) (n := 1810) (by omega) (by omega) ?_
  refine va_putF (D := D) (ci := 3) (v := .ref q6) (ty := .object "Tapebuffer$Row") (C := RX1) (T := TX1) (N := 7) hx hb hts (by decide +kernel) tyX1 tyX1_ok nmX1 hown hK hP hD hS 0 rfl rfl 3 (by decide) (hts (.fieldLink RX1 23 "Tapebuffer" "spare" "LTapebuffer$Row;") (by decide +kernel)) (fun _ h9 => h9) rfl hin rfl (by decide +kernel) rfl rfl (Nat.le_of_ble_eq_true rfl) dX1_init_68 (fun H locs hP hD hS => ?_)
  have hP : va_P D vwCl [(x0, .inr (3, [.ref t0, .ref q4, .ref q5, .ref q6, .int 0, .int 0, .int 0])), (t0, .inl (E 3, 4, .inr (.inr (.inr (.inr (va_up (va_up (va_up (va_up (fun _ => none) 0 (some q0)) 1 (some q1)) 2 (some q2)) 3 (some q3))))))), (q0, .inr (2, [.ref g0, .int 0])), (g0, .inl (E 2, 256, .inl z0)), (q1, .inr (2, [.ref g1, .int 0])), (g1, .inl (E 2, 256, .inl z0)), (q2, .inr (2, [.ref g2, .int 0])), (g2, .inl (E 2, 256, .inl z0)), (q3, .inr (2, [.ref g3, .int 0])), (g3, .inl (E 2, 256, .inl z0)), (q4, .inr (2, [.ref g4, .int 0])), (g4, .inl (E 2, 256, .inl z0)), (q5, .inr (2, [.ref g5, .int 0])), (g5, .inl (E 2, 256, .inl z0)), (q6, .inr (2, [.ref g6, .int 0])), (g6, .inl (E 2, 256, .inl z0))] H := hP
  have hD : va_D A [(x0, .inr (3, [.ref t0, .ref q4, .ref q5, .ref q6, .int 0, .int 0, .int 0])), (t0, .inl (E 3, 4, .inr (.inr (.inr (.inr (va_up (va_up (va_up (va_up (fun _ => none) 0 (some q0)) 1 (some q1)) 2 (some q2)) 3 (some q3))))))), (q0, .inr (2, [.ref g0, .int 0])), (g0, .inl (E 2, 256, .inl z0)), (q1, .inr (2, [.ref g1, .int 0])), (g1, .inl (E 2, 256, .inl z0)), (q2, .inr (2, [.ref g2, .int 0])), (g2, .inl (E 2, 256, .inl z0)), (q3, .inr (2, [.ref g3, .int 0])), (g3, .inl (E 2, 256, .inl z0)), (q4, .inr (2, [.ref g4, .int 0])), (g4, .inl (E 2, 256, .inl z0)), (q5, .inr (2, [.ref g5, .int 0])), (g5, .inl (E 2, 256, .inl z0)), (q6, .inr (2, [.ref g6, .int 0])), (g6, .inl (E 2, 256, .inl z0))] := hD
  refine W.widen (k := 20) (n := 3000) (by omega) (by omega) ?_
  have hP := hP.sub (ws' := [(x0, .inr (3, [.ref t0, .ref q4, .ref q5, .ref q6, .int 0, .int 0, .int 0])), (t0, .inl (E 3, 4, .inr (.inr (.inr (.inr (va_up (va_up (va_up (va_up (fun _ => none) 0 (some q0)) 1 (some q1)) 2 (some q2)) 3 (some q3))))))), (q0, .inr (2, [.ref g0, .int 0])), (g0, .inl (E 2, 256, .inl z0))]) [0, 1, 2, 3] rfl
  have hD := hD.sub (ws' := [(x0, .inr (3, [.ref t0, .ref q4, .ref q5, .ref q6, .int 0, .int 0, .int 0])), (t0, .inl (E 3, 4, .inr (.inr (.inr (.inr (va_up (va_up (va_up (va_up (fun _ => none) 0 (some q0)) 1 (some q1)) 2 (some q2)) 3 (some q3))))))), (q0, .inr (2, [.ref g0, .int 0])), (g0, .inl (E 2, 256, .inl z0))]) [0, 1, 2, 3] (by decide) rfl
  exact W.vret hx hb hr (fun t ht hW => ⟨⟨(t0, q0, g0, (va_up (va_up (va_up (va_up (fun _ => none) 0 (some q0)) 1 (some q1)) 2 (some q2)) 3 (some q3)), .ref q4, .ref q5, .ref q6), rfl, (by simp [va_up]), rf_end ht hP hD⟩, hS.F ht⟩) hS.2.2 dX1_init_71
set_option maxHeartbeats 4000000 in
set_option maxRecDepth 100000 in
/-- TapebufferModel() -/
theorem c_X3_init (l : Launch) (D : va_G) (E : Nat → ClassId) (sz : Nat) (m0 : Nat)  : Met l yX3_init wsX3_init ({ frames := 2, cells := 6, slots := 4, locals := 200 }) (va_Pc [.ref m0] (rf_P D E [(m0, .inr (5, [.int 0, .null, .null, .int 0, .int 0, .int 0]))] sz)) (va_Qv (fun (u : Nat × Nat × (Nat → Option Nat) × Value) => u.2.2.1 0 = some u.2.1) (fun (u : Nat × Nat × (Nat → Option Nat) × Value) (t : State) => rf_B D (va_A [(m0, .inr (5, [.int 0, .null, .null, .int 0, .int 0, .int 0]))] sz) [(m0, .inr (5, [.int 0, .ref u.1, u.2.2.2, .int 0, .int 0, .int 0])), (u.1, .inl (E 4, 4, .inr (.inr (.inr (.inr u.2.2.1))))), (u.2.1, .inl (E 2, 0, .inl z0))] t) (va_A [(m0, .inr (5, [.int 0, .null, .null, .int 0, .int 0, .int 0]))] sz)) 6 4 (va_A [(m0, .inr (5, [.int 0, .null, .null, .int 0, .int 0, .int 0]))] sz) := by
  refine Met.ofW (cc := cX3_init) (maxL := 1) (ret := none) (by decide) rfl ?_
  intro p e s mI args below meth c s₁ B hml hv
  obtain ⟨rfl, hsz, hP, hK, hD0, hZ, hN⟩ := hv
  have hx := B.exec
  have hb := B.bytes
  have hr := B.returns
  have hts := atoms_spec (ws := wsX3_init) B.pre
  have hown : s.vm.findClass RX3 = some mI.cls := findClass_of_methodNamed B.named
  have hlocks := B.notSynchronized
  have hin : meth.name = "<init>" := (name_of_methodNamed B.named B.method).1
  subst hsz
  have hD := hD0.self (sz := s.heap.size)
  generalize hAe : va_A [(m0, .inr (5, [.int 0, .null, .null, .int 0, .int 0, .int 0]))] s.heap.size = A at hD hZ ⊢
  have hA : ∀ q : Nat, s.heap.size ≤ q → A q := fun q h => by rw [← hAe]; exact Or.inr h
  have hS : va_S A s.heap s.heap [] := va_S.rf
  have hl := lv_entry ([.ref m0]) (n := 1) (Nat.le_of_ble_eq_true rfl)
  rw [lg_entry_eq]
  generalize (lg_sl ([.ref m0]) ++ List.replicate (1 - (lg_sl ([.ref m0])).length) Slot.unset).toArray = ls at hl ⊢
  clear hAe hD0
  have hl : lv_has ls 1 [(0, .ref m0)] := hl
  obtain ⟨H, hH⟩ : ∃ H, H = s.heap := ⟨_, rfl⟩
  rw [← hH] at hP
  have hS : va_S A s.heap H [] := by rw [hH]; exact hS
  refine rf_heap hH ?_
  refine lv_aload_n hx hb dX3_init_0 rfl (lv_at hl 0 rfl) ?_
  refine W.objInit hx hb hown (hts (.methodLink RX3 1 objectInit) (by decide +kernel)) (hts (.instanceMethod objectInit) (by decide +kernel)) (hts (.code objectInit ⟨#[0xb1]⟩ 1 none) (by decide +kernel)) rfl (by rw [hml]; exact hl.1) rfl dX3_init_1 (Nat.le_of_ble_eq_true rfl) (Nat.le_of_ble_eq_true rfl) ?_
  refine W.eq (g2 := F0 mI 4 ls []) rfl ?_
  refine lv_aload_n hx hb dX3_init_4 rfl (lv_at hl 0 rfl) ?_
  refine lv_iconst (v := nI 4) hx hb dX3_init_5 (by decide) ?_
  refine lv_iconst (v := nI 0) hx hb dX3_init_6 (by decide) ?_
  have hP : va_P D vwCl ([(m0, .inr (5, [.int 0, .null, .null, .int 0, .int 0, .int 0]))] ++ va_pl [] (fun _ => .inl (E 2, 0, .inl z0))) H := hP
  have hD : va_D A ([(m0, .inr (5, [.int 0, .null, .null, .int 0, .int 0, .int 0]))] ++ va_pl [] (fun _ => .inl (E 2, 0, .inl z0))) := hD
  have h_1 : 0 + (1 + 4) ≤ 6 := by omega
  have h_2 : 0 + (4 + 4 * 0) ≤ 4 := by omega
  refine va_mna (N' := 4) (K' := 0) (z := (0, .inl z0)) (ty := .int) (cy := E 2) hx hb hown (hts (.classLink RX3 9 "[[I") (by decide +kernel)) hN.2.2.2.1 (hts (.arrayClass .int) (by decide +kernel)) (hK.2 2 _ rfl).2 hK hP hD hS hA (nI_pos (by omega)) (nI_pos (by omega)) (nI_clamp (by omega)) (nI_clamp (by omega)) (Nat.le_of_ble_eq_true rfl) (Nat.le_of_ble_eq_true rfl) (Nat.le_of_ble_eq_true rfl) rfl rfl h_1 h_2 (fun c => rf_inner c) dX3_init_7 (fun t1 r cA H hinj hnew hK2 hP hD hS => ?_)
  obtain rfl := rf_grid hK2
  have hin0 : r 0 ∈ (List.range 4).map r := List.mem_map.mpr ⟨0, List.mem_range.mpr (by omega), rfl⟩
  have hP := hP.sub (ws' := [(m0, .inr (5, [.int 0, .null, .null, .int 0, .int 0, .int 0])), (t1, .inl (E 4, 4, .inr (.inr (.inr (.inr (fun i => if i < 4 then some (r i) else none)))))), (r 0, vr_up (fun _ => .inl (E 2, 0, .inl z0)) ((List.range 4).map r) (.inl (E 2, 0, .inl z0)) (r 0))]) [0, 1, 2] rfl
  have hD := hD.sub (ws' := [(m0, .inr (5, [.int 0, .null, .null, .int 0, .int 0, .int 0])), (t1, .inl (E 4, 4, .inr (.inr (.inr (.inr (fun i => if i < 4 then some (r i) else none)))))), (r 0, vr_up (fun _ => .inl (E 2, 0, .inl z0)) ((List.range 4).map r) (.inl (E 2, 0, .inl z0)) (r 0))]) [0, 1, 2] (by decide) rfl
  rw [vr_up_in hin0] at hP hD
  have hP : va_P D vwCl [(m0, .inr (5, [.int 0, .null, .null, .int 0, .int 0, .int 0])), (t1, .inl (E 4, 4, .inr (.inr (.inr (.inr (fun i => if i < 4 then some (r i) else none)))))), ((r 0), .inl (E 2, 0, .inl z0))] H := hP
  have hD : va_D A [(m0, .inr (5, [.int 0, .null, .null, .int 0, .int 0, .int 0])), (t1, .inl (E 4, 4, .inr (.inr (.inr (.inr (fun i => if i < 4 then some (r i) else none)))))), ((r 0), .inl (E 2, 0, .inl z0))] := hD
  refine W.widen (k := 5) (n := 4) (by omega) (by omega) ?_
  refine va_putF (D := D) (ci := 5) (v := .ref t1) (ty := .array (.array .int)) (C := RX3) (T := TX3) (N := 6) hx hb hts (by decide +kernel) tyX3 tyX3_ok nmX3 hown hK hP hD hS 0 rfl rfl 1 (by decide) (hts (.fieldLink RX3 11 "TapebufferModel" "tapes" "[[I") (by decide +kernel)) (fun _ h9 => h9) rfl hin rfl (by decide +kernel) rfl rfl (Nat.le_of_ble_eq_true rfl) dX3_init_11 (fun H locs hP hD hS => ?_)
  have hP : va_P D vwCl [(m0, .inr (5, [.int 0, .ref t1, .null, .int 0, .int 0, .int 0])), (t1, .inl (E 4, 4, .inr (.inr (.inr (.inr (fun i => if i < 4 then some (r i) else none)))))), ((r 0), .inl (E 2, 0, .inl z0))] H := hP
  have hD : va_D A [(m0, .inr (5, [.int 0, .ref t1, .null, .int 0, .int 0, .int 0])), (t1, .inl (E 4, 4, .inr (.inr (.inr (.inr (fun i => if i < 4 then some (r i) else none)))))), ((r 0), .inl (E 2, 0, .inl z0))] := hD
  refine lv_aload_n hx hb dX3_init_14 rfl (lv_at hl 0 rfl) ?_
  refine lv_iconst (v := nI 0) hx hb dX3_init_15 (by decide) ?_
  have h_1 : 5 + 1 ≤ 6 := by omega
  have h_2 : 4 + (0) ≤ 4 := by omega
  refine va_newa (atype := .int) (N' := 0) (a0 := (0, .inl z0)) hx hb (hts (.arrayClass .int) (by decide +kernel)) rfl hK hP hD hS hA (fun _ => rfl) (nI_pos (by omega)) (nI_clamp (by omega)) (Nat.le_trans (Nat.mul_le_mul_right _ (show 0 ≤ 0 by omega)) (Nat.le_of_ble_eq_true rfl)) h_1 h_2 dX3_init_16 (fun q1 cA H hK2 hP hD hS => ?_)
  obtain rfl := rf_int hK2
  have hP : va_P D vwCl [(m0, .inr (5, [.int 0, .ref t1, .null, .int 0, .int 0, .int 0])), (t1, .inl (E 4, 4, .inr (.inr (.inr (.inr (fun i => if i < 4 then some (r i) else none)))))), ((r 0), .inl (E 2, 0, .inl z0)), (q1, .inl (E 2, 0, .inl z0))] H := hP
  have hD : va_D A [(m0, .inr (5, [.int 0, .ref t1, .null, .int 0, .int 0, .int 0])), (t1, .inl (E 4, 4, .inr (.inr (.inr (.inr (fun i => if i < 4 then some (r i) else none)))))), ((r 0), .inl (E 2, 0, .inl z0)), (q1, .inl (E 2, 0, .inl z0))] := hD
  refine W.widen (k := 6) (n := 4) (by omega) (by omega) ?_
  refine va_put (D := D) (ci := 5) (v := .ref q1) (ty := .array .int) (C := RX3) (T := TX3) (N := 6) hx hb hts (by decide +kernel) tyX3 tyX3_ok nmX3 hown hK hP hD hS 0 rfl rfl 2 (by decide) (hts (.fieldLink RX3 14 "TapebufferModel" "picture" "[I") (by decide +kernel)) (fun _ h9 => h9) rfl (by decide +kernel) rfl rfl (Nat.le_of_ble_eq_true rfl) dX3_init_18 (fun H locs hP hD hS => ?_)
  have hP : va_P D vwCl [(m0, .inr (5, [.int 0, .ref t1, .ref q1, .int 0, .int 0, .int 0])), (t1, .inl (E 4, 4, .inr (.inr (.inr (.inr (fun i => if i < 4 then some (r i) else none)))))), ((r 0), .inl (E 2, 0, .inl z0)), (q1, .inl (E 2, 0, .inl z0))] H := hP
  have hD : va_D A [(m0, .inr (5, [.int 0, .ref t1, .ref q1, .int 0, .int 0, .int 0])), (t1, .inl (E 4, 4, .inr (.inr (.inr (.inr (fun i => if i < 4 then some (r i) else none)))))), ((r 0), .inl (E 2, 0, .inl z0)), (q1, .inl (E 2, 0, .inl z0))] := hD
  have hP := hP.sub (ws' := [(m0, .inr (5, [.int 0, .ref t1, .ref q1, .int 0, .int 0, .int 0])), (t1, .inl (E 4, 4, .inr (.inr (.inr (.inr (fun i => if i < 4 then some (r i) else none)))))), ((r 0), .inl (E 2, 0, .inl z0))]) [0, 1, 2] rfl
  have hD := hD.sub (ws' := [(m0, .inr (5, [.int 0, .ref t1, .ref q1, .int 0, .int 0, .int 0])), (t1, .inl (E 4, 4, .inr (.inr (.inr (.inr (fun i => if i < 4 then some (r i) else none)))))), ((r 0), .inl (E 2, 0, .inl z0))]) [0, 1, 2] (by decide) rfl
  exact W.vret hx hb hr (fun t ht hW => ⟨⟨(t1, r 0, (fun i => if i < 4 then some (r i) else none), .ref q1), rfl, rfl, rf_end ht hP hD⟩, hS.F ht⟩) hS.2.2 dX3_init_21
