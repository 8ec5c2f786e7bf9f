set_option maxRecDepth 100000 in
theorem f_true : f_s.slotsTrue = true := by decide +kernel
set_option maxRecDepth 100000 in
theorem f_nums : f_s.frames.length + 2048 ≤ launch0.maxFrames ∧ f_s.localsInUse + 84000 ≤ launch0.maxStackSlots - stackMargin ∧ f_s.heap.size + 1000000 ≤ 2000000 ∧ f_s.slotsUsed + 400000000 ≤ 1000000000 ∧ f_s.localsInUse + 84000 + stackMargin ≤ realStackBytes / 8 := by decide +kernel
theorem f_room (r : Room) (h1 : r.frames ≤ 2048) (h2 : r.locals ≤ 84000) (h3 : r.cells ≤ 1000000) (h4 : r.slots ≤ 400000000) : f_s.hasRoom f_e.platform r = true := by
  obtain ⟨n1, n2, n3, n4, n5⟩ := f_nums
  refine State.hasRoom_of rfl ?_ ?_ ?_ ?_ f_true (Nat.le_trans (Nat.add_le_add_right (Nat.add_le_add_left h2 _) _) n5)
  · exact Nat.le_trans (Nat.le_trans (Nat.add_le_add_left h1 _) n1) (Nat.le_max_left _ _)
  · exact Nat.le_trans (Nat.le_trans (Nat.add_le_add_left h2 _) n2) (Nat.le_max_left _ _)
  · exact Nat.le_trans (Nat.le_trans (Nat.add_le_add_left h3 _) n3) (Nat.le_max_right _ _)
  · exact Nat.le_trans (Nat.le_trans (Nat.add_le_add_left h4 _) n4) (Nat.le_max_right _ _)
set_option maxRecDepth 100000 in
theorem f_applies (r : Room) (h1 : r.frames ≤ 2048) (h2 : r.locals ≤ 84000) (h3 : r.cells ≤ 1000000) (h4 : r.slots ≤ 400000000) : (headSpec (Cond.code x code maxLocals ret :: tables_1) r).applies x f_e.platform f_s = true :=
  (Spec.applies_iff rfl).mpr ⟨rfl, rfl, rfl, by decide +kernel, by decide +kernel, by decide +kernel, f_room r h1 h2 h3 h4, atoms_intro f_words⟩
theorem f_arrayAt : f_s.arrayAt? 0 = some { cls := 25, slots := f_cells, vm := .none } := by
  obtain ⟨k, h1, h2⟩ := f_c25
  simp [State.arrayAt?, f_h0, h1, h2]
  rfl
theorem f_and {A B : Cond} {args : Array Value} {s : State} (ha : A.value args s none s [] = some true) (hb : B.value args s none s [] = some true) : (Cond.and A B).before args s = true := by
  simp [Cond.before, Cond.holds, Cond.value, ha, hb]
theorem f_rest : rest_1_c.before start1.args0 f_s = true := by
  have hb := Cond.all_intro (args := start1.args0) (first := f_s) (o := none) (idx := []) (t := .arg 0) (c := .isInt (.elem (.arg 0) (.index 0))) (a := 0) rfl f_arrayAt (fun i hi => by
    have hi2 : i < f_cells.size := hi
    rw [f_size] at hi2
    have hi31 : i < 2 ^ 31 := Nat.lt_trans hi2 (by decide)
    have hneg : ¬ (i.toInt32 < 0) := Int32.ofNat_not_neg hi31
    have hnat : i.toInt32.toNatClampNeg = i := by
      show (Int32.ofNat i).toInt.toNat = i
      rw [Int32.toInt_ofNat_small hi31]; rfl
    have h0 : (Term.arg 0).eval start1.args0 f_s none [i] f_s = some (.ref 0) := rfl
    simp [Cond.value, Term.eval, h0, start1.args0, f_arrayAt, hneg, hnat, f_at i hi2])
  have ha : (Cond.isInt (.length (.arg 0))).value start1.args0 f_s none f_s [] = some true := by
    simp [Cond.value, Term.eval, start1.args0, f_arrayAt, f_size]
  exact f_and ha hb
set_option maxRecDepth 100000 in
theorem claim_false : ¬ Claimed_1_1 := by
  intro h
  obtain ⟨n, o, hw, hr, he, hpost⟩ := h launch0 rfl lists_1 trivial start1.p0 f_e (launch0.admits_env _ _ _) fairChoices_fair.cas fairChoices_fair.clock f_s ⟨0, 0⟩ start1.args0 Lib.HandBits.below0 rfl f_args f_heap (f_applies room_1 (by decide) (by decide) (by decide) (by decide)) ⟨trivial, f_rest, f_pre⟩
  obtain ⟨n2, o2, hw2, hr2, he2, hq⟩ := f_met start1.p0 f_e (launch0.admits_env _ _ _) fairChoices_fair.cas fairChoices_fair.clock f_s ⟨0, 0⟩ start1.args0 Lib.HandBits.below0 rfl ((Spec.applies_iff_loose rfl).mp (f_applies rf_room (by decide) (by decide) (by decide) (by decide))).1 ⟨rfl, rfl⟩ trivial
  have hn : n = n2 := by
    rcases Nat.lt_trichotomy n n2 with hlt | e | hlt
    · exact absurd (hw2 n hlt) he.not_within
    · exact e
    · exact absurd (hw n2 hlt) he2.not_within
  subst hn
  obtain ⟨-, -, -, hsame⟩ := hpost
  have hle : rf_sum f_s.heap.size (stepsAlone start1.p0.tables f_e n f_s).heap ≤ 10000000 := Nat.le_trans hsame.2.2.2.2.1 (by decide)
  omega
/-- what the claim owes can't be had: the room (REPORT.md, S1) -/
theorem owed_false : ¬ (Claimed_1_1 ∧ Claimed_1_2) := fun h => claim_false h.1
