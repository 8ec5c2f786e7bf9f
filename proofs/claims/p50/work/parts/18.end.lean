/-! The walk's ingredients at that start, and the claim's negation. -/
def f_E : Nat → ClassId := fun i => match i with | 0 => 27 | 1 => 29 | 2 => 25 | 3 => 30 | 4 => 31 | _ => 10
theorem f_tbl : ∀ w ∈ lw_tbl, w.before start1.args0 f_s = true := k2_hts_sels lw_privs f_tables lw_privs_ok
theorem f_all : ∀ w ∈ rf_tbl, w.before start1.args0 f_s = true := rf_hts f_tbl
theorem f_slot {C f d : String} {i : Nat} (h : (f_s.fieldFound? C f d).map (fun x => x.2.2.2.slot) = some i) : ∀ j, SlotIs f_s C f d j → j = i := by
  rintro j ⟨cf, kf, fi, fd, h1, h2⟩
  rw [h1] at h
  exact h2.symm.trans (Option.some.inj h)
set_option maxRecDepth 100000 in
theorem f_s0 : (f_s.fieldFound? "java/lang/String" "value" "[B").map (fun x => x.2.2.2.slot) = some 0 ∧ (f_s.fieldFound? "java/lang/String" "coder" "B").map (fun x => x.2.2.2.slot) = some 1 ∧ (f_s.fieldFound? "java/lang/String" "hash" "I").map (fun x => x.2.2.2.slot) = some 2 ∧ (f_s.fieldFound? "java/lang/String" "hashIsZero" "Z").map (fun x => x.2.2.2.slot) = some 3 := by decide +kernel
set_option maxRecDepth 100000 in
theorem f_names : f_s.vm.findClass "java/lang/String" = some 9 ∧ f_s.vm.findClass "[B" = some 27 ∧ f_s.vm.findClass "[C" = some 29 ∧ f_s.vm.findClass "[I" = some 25 ∧ f_s.vm.findClass "[LTapebuffer$Row;" = some 30 ∧ f_s.vm.findClass "[[I" = some 31 ∧ f_s.vm.findClass "Tapebuffer$Row" = some 3 := by decide +kernel
theorem f_i0 : (∀ w ∈ u_ws RJ0 TJ0 4, w ∈ lw_tbl) ∧ Cond.instantiable RJ0 4 ∈ lw_tbl := by decide +kernel
theorem f_i1 : (∀ w ∈ u_ws RJ4 TJ4 4, w ∈ lw_tbl) ∧ Cond.instantiable RJ4 4 ∈ lw_tbl := by decide +kernel
theorem f_i2 : (∀ w ∈ u_ws RX0 TX0 2, w ∈ lw_tbl) ∧ Cond.instantiable RX0 2 ∈ lw_tbl := by decide +kernel
theorem f_i3 : (∀ w ∈ u_ws RX1 TX1 7, w ∈ lw_tbl) ∧ Cond.instantiable RX1 7 ∈ lw_tbl := by decide +kernel
theorem f_i4 : (∀ w ∈ u_ws RX2 TX2 2, w ∈ lw_tbl) ∧ Cond.instantiable RX2 2 ∈ lw_tbl := by decide +kernel
theorem f_i5 : (∀ w ∈ u_ws RX3 TX3 6, w ∈ lw_tbl) ∧ Cond.instantiable RX3 6 ∈ lw_tbl := by decide +kernel
set_option maxRecDepth 100000 in
theorem f_h10 : f_s.heap[10]? = some { cls := 9, slots := #[.ref 11, .int 0, .int 0, .int 0], vm := .none } := rfl
set_option maxRecDepth 100000 in
theorem f_h11 : f_s.heap[11]? = some { cls := 27, slots := #[], vm := .none } := rfl
set_option maxRecDepth 100000 in
theorem f_h0 : f_s.heap[0]? = some { cls := 25, slots := f_cells, vm := .none } := rfl
set_option maxRecDepth 100000 in
theorem f_c25 : ∃ k : Class, f_s.vm.classes[25]? = some k ∧ k.kind = .array 24 .int := ⟨_, rfl, rfl⟩
set_option maxRecDepth 100000 in
theorem f_c27 : ∃ k : Class, f_s.vm.classes[27]? = some k ∧ k.kind = .array 26 .byte := ⟨_, rfl, rfl⟩
set_option maxRecDepth 100000 in
theorem f_c29 : ∃ k : Class, f_s.vm.classes[29]? = some k ∧ k.kind = .array 28 .char := ⟨_, rfl, rfl⟩
set_option maxRecDepth 100000 in
theorem f_c30 : ∃ k : Class, f_s.vm.classes[30]? = some k ∧ k.kind = .array 3 (.object "Tapebuffer$Row") := ⟨_, rfl, rfl⟩
set_option maxRecDepth 100000 in
theorem f_c31 : ∃ k : Class, f_s.vm.classes[31]? = some k ∧ k.kind = .array 25 (.array .int) := ⟨_, rfl, rfl⟩
theorem f_arr {c comp : ClassId} {ty : FieldType} (h : ∃ k : Class, f_s.vm.classes[c]? = some k ∧ k.kind = .array comp ty) : ArrOfT f_s c ty := by
  obtain ⟨k, h1, h2⟩ := h
  exact fun n z => ⟨fun q hq => (by cases hq), k, h1, comp, h2⟩
theorem f_K : ∃ D : va_G, va_K D vwCl (rf_T f_E) f_s ∧ va_P D vwCl [((f_E 5), .inr (0, [.ref 11, .int 0, .int 0, .int 0])), (11, .inl (f_E 0, 0, .inl z0))] f_s.heap := by
  obtain ⟨c0, i0, k0⟩ := u_known f_tbl f_i0.1 (f_tbl _ f_i0.2)
  obtain ⟨c1, i1, k1⟩ := u_known f_tbl f_i1.1 (f_tbl _ f_i1.2)
  obtain ⟨c2, i2, k2⟩ := u_known f_tbl f_i2.1 (f_tbl _ f_i2.2)
  obtain ⟨c3, i3, k3⟩ := u_known f_tbl f_i3.1 (f_tbl _ f_i3.2)
  obtain ⟨c4, i4, k4⟩ := u_known f_tbl f_i4.1 (f_tbl _ f_i4.2)
  obtain ⟨c5, i5, k5⟩ := u_known f_tbl f_i5.1 (f_tbl _ f_i5.2)
  obtain ⟨n0, n1, n2, n3, n4, n5, n6⟩ := f_names
  have e0 : c0 = 9 := Option.some.inj (k0.2.1.symm.trans n0)
  refine ⟨(fun c => match c with | 0 => c0 | 1 => c1 | 2 => c2 | 3 => c3 | 4 => c4 | _ => c5, fun c => match c with | 0 => i0 | 1 => i1 | 2 => i2 | 3 => i3 | 4 => i4 | _ => i5), ⟨fun c q hq => ?_, fun k q hq => ?_⟩, fun k q hq => ?_⟩
  · match c, hq with
    | 0, hq => cases hq; exact k0
    | 1, hq => cases hq; exact k1
    | 2, hq => cases hq; exact k2
    | 3, hq => cases hq; exact k3
    | 4, hq => cases hq; exact k4
    | 5, hq => cases hq; exact k5
    | c + 6, hq => cases hq
  · match k, hq with
    | 0, hq => cases hq; exact ⟨f_arr f_c27, n1⟩
    | 1, hq => cases hq; exact ⟨f_arr f_c29, n2⟩
    | 2, hq => cases hq; exact ⟨f_arr f_c25, n3⟩
    | 3, hq =>
      cases hq
      obtain ⟨kA, h1, h2⟩ := f_c30
      exact ⟨f_arr f_c30, kA, 3, h1, h2, n6, n4⟩
    | 4, hq => cases hq; exact ⟨f_arr f_c31, n5⟩
    | k + 5, hq => cases hq
  · match k, hq with
    | 0, hq =>
      cases hq
      refine ⟨(RJ0, TJ0, 4), rfl, _, f_h10, e0.symm, rfl, fun j hj => ?_⟩
      obtain ⟨s0, s1, s2, s3⟩ := f_s0
      have hj4 : j < 4 := hj
      have hj' : j = 0 ∨ j = 1 ∨ j = 2 ∨ j = 3 := by omega
      rcases hj' with rfl | rfl | rfl | rfl
      · show (#[.ref 11, .int 0, .int 0, .int 0] : Array Value)[i0 0]? = _
        rw [f_slot s0 _ (k0.1 0 (by decide))]; rfl
      · show (#[.ref 11, .int 0, .int 0, .int 0] : Array Value)[i0 1]? = _
        rw [f_slot s1 _ (k0.1 1 (by decide))]; rfl
      · show (#[.ref 11, .int 0, .int 0, .int 0] : Array Value)[i0 2]? = _
        rw [f_slot s2 _ (k0.1 2 (by decide))]; rfl
      · show (#[.ref 11, .int 0, .int 0, .int 0] : Array Value)[i0 3]? = _
        rw [f_slot s3 _ (k0.1 3 (by decide))]; rfl
    | 1, hq => cases hq; exact f_h11
    | k + 2, hq => cases hq
def f_A : Nat → Prop := fun q => q = f_E 5 ∨ q = 11 ∨ f_s.heap.size ≤ q
theorem f_D : va_D f_A [((f_E 5), .inr (0, [.ref 11, .int 0, .int 0, .int 0])), (11, .inl (f_E 0, 0, .inl z0))] := by
  refine ⟨fun i j p q hi hj e => ?_, fun k q hq => ?_⟩
  · match i, j, hi, hj with
    | 0, 0, _, _ => rfl
    | 1, 1, _, _ => rfl
    | 0, 1, hi, hj => cases hi; cases hj; exact absurd e (by decide)
    | 1, 0, hi, hj => cases hi; cases hj; exact absurd e (by decide)
    | i + 2, _, hi, _ => cases hi
    | 0, j + 2, _, hj => cases hj
    | 1, j + 2, _, hj => cases hj
  · match k, hq with
    | 0, hq => cases hq; exact Or.inl rfl
    | 1, hq => cases hq; exact Or.inr (Or.inl rfl)
    | k + 2, hq => cases hq
theorem f_X : va_X 0 2560 sc f_s f_s.heap := by
  obtain ⟨k, h1, h2⟩ := f_c25
  exact ⟨_, f_h0, ⟨fun q hq => (by cases hq), k, h1, 24, h2⟩, (fun q => by cases q), f_size, f_at⟩
set_option maxRecDepth 100000 in
theorem f_pre : (Cond.and given_1 narrow_1).before start1.args0 f_s = true := by decide +kernel
theorem f_words2 : Cond.laysStatic "java/lang/String" "COMPACT_STRINGS" "Z" ∈ lw_tbl ∧ Cond.initialized "java/lang/String" ∈ lw_tbl ∧ Cond.arrayOver (.object "Tapebuffer$Row") ∈ lw_tbl ∧ Cond.arrayOver (.array .int) ∈ lw_tbl ∧ Cond.fieldLinkNest RL 13 "TapebufferLaw$Out" "n" "J" RL ∈ lw_tbl ∧ Cond.fieldLinkNest RL 109 "TapebufferLaw$Out" "s" "Ljava/lang/String;" RL ∈ lw_tbl ∧ Cond.methodLinkNest RL 182 yX2_init RL ∈ lw_tbl ∧ Cond.stringRef RX3 50 "" ∈ lw_tbl ∧ Cond.castable "[B" "java/lang/Cloneable" ∈ lw_tbl := by decide +kernel
theorem f_Z : va_Z "java/lang/String" "COMPACT_STRINGS" "Z" (.int 1) f_A f_s f_s.heap := by
  have h := va_Zof (A := fun q => f_s.heap.size ≤ q) (f_tbl _ f_words2.1) (f_tbl _ f_words2.2.1) (va_eqi (z := 1) (flat_of_before _ f_pre _ (by decide +kernel))) (fun a ha => Nat.not_le.mpr ha)
  obtain ⟨cf, kf, fi, f, a, cell, h1, h2, h3, h4, h5, h6, h7, h8⟩ := h
  refine ⟨cf, kf, fi, f, a, cell, h1, h2, h3, h4, h5, h6, h7, fun h9 => ?_⟩
  rcases h9 with e | e | e
  · have e' : a = 10 := e
    rw [e', f_h10] at h5
    cases h5
    cases h6
  · rw [e, f_h11] at h5
    cases h5
    cases h6
  · exact h8 e
set_option maxRecDepth 100000 in
theorem f_str : (Term.string RX3 50).eval start1.args0 f_s none [] f_s = some (.ref 10) := by decide +kernel
theorem f_N : rf_N f_E f_s := by
  obtain ⟨-, -, w1, w2, w3, w4, -, w5, w6⟩ := f_words2
  exact ⟨va_Nw.of rfl (f_tbl _ w6), vk_R.of (A := start1.args0) (f_tbl _ w5) f_str, va_AO.of (f_tbl _ w1), f_ao rfl (f_tbl _ w2), f_c31, va_Nw.of rfl (f_tbl _ w3), va_Nw.of rfl (f_tbl _ w4)⟩
