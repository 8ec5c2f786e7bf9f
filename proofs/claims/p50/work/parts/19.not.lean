/-! The end: the law's run from that start on a roomier machine ends, and breaks the claim's own bound on what is new. -/
theorem f_met : MetFree launch0 x (headSpec (Cond.code x code maxLocals ret :: tables_1) rf_room) (fun args s => args = start1.args0 ∧ s = f_s) (fun _ _ _ _ _ => True) (fun _ s o t => 10000000 < rf_sum s.heap.size t.heap) := by
  refine MetFree.of_bodyS (code := code) (maxLocals := maxLocals) (ret := ret) (by decide) ?_ ?_
  · intro args s m h hn
    obtain ⟨meth, c, h1, h2, h3, h4, h5, h6, -, -⟩ := Cond.code_spec hn (atoms_spec (ws := Cond.code x code maxLocals ret :: tables_1) h _ List.mem_cons_self)
    exact ⟨meth, c, h1, h2, h3, h4, h5, h6⟩
  · intro p e s m args below meth c s₁ B hml0 hPs _
    obtain ⟨rfl, rfl⟩ := hPs
    have hown : f_s.vm.findClass RL = some m.cls := findClass_of_methodNamed B.named
    have hml : c.maxLocals = 7 := B.maxLocals_eq (f_words _ List.mem_cons_self)
    have X₀ := Stand.of_body B
    have hh0 : s₁.heap = f_s.heap := by rw [B.state]; rfl
    obtain ⟨D, hK, hP⟩ := f_K
    have hbl : 11 < f_s.heap.size := (Array.getElem?_eq_some_iff.mp f_h11).1
    have K := law_walk (p := p) (e := e) (s := f_s) (mI := m) (below := below) (meth := meth) (c := c) launch0 D f_E (b := 0) (kb := 11) (kh := .int 0) (kz := .int 0) (A := f_A) B.exec B.bytes B.returns hml hown f_all B.notSynchronized f_X (by omega) (fun h => by rcases h with h | h | h; exact absurd h (by decide); exact absurd h (by decide); omega) (fun q h => Or.inr (Or.inr h)) (fun q h => h) hK hP f_D f_Z f_N (va_Nw.of rfl (f_tbl _ f_words2.2.2.2.2.2.2.1))
    rw [← hh0] at K
    obtain ⟨t, a1, o, b1, b2, b3⟩ := K s₁ rfl X₀
    exact ⟨t, o, a1, b1, b2, b3⟩
set_option maxRecDepth 100000 in
theorem f_args : argsFit f_s.vm ⟨0, 0⟩ start1.args0 = true := by decide +kernel
theorem f_fit (i : Nat) (z : Int32) : f_s.fitsSlot 25 .none i (.int z) = true := by
  obtain ⟨k, h1, h2⟩ := f_c25
  simp [State.fitsSlot, State.slotType?, h1, h2, fits]
set_option maxRecDepth 100000 in
theorem f_heap1 : (f_s.heap.toList.drop 1).all (cellFits f_s) = true := by decide +kernel
theorem f_cellfit (c : Cell) (hc : c.cls = 25) (hv : c.vm = .none) (hs : c.slots = f_cells) : cellFits f_s c = true := by
  unfold cellFits
  refine List.all_eq_true.mpr fun i hi => ?_
  rw [hs] at hi ⊢
  have hi2 : i < f_cells.size := List.mem_range.mp hi
  rw [f_size] at hi2
  rw [f_at i hi2, hc, hv]
  exact f_fit i _
theorem f_heap : heapFits f_s = true := by
  show f_s.heap.all (cellFits f_s) = true
  rw [← Array.all_toList]
  have e : f_s.heap.toList = { cls := 25, slots := f_cells, vm := .none } :: f_s.heap.toList.drop 1 := by
    have h := f_h0
    rw [← Array.getElem?_toList] at h
    cases hl : f_s.heap.toList with
    | nil => rw [hl] at h; cases h
    | cons a r => rw [hl] at h; cases h; rfl
  rw [e, List.all_cons, f_heap1, Bool.and_true]
  exact f_cellfit _ rfl rfl rfl
