/-! The claim refuted: the printed start, with this script in the place of its own, on a machine with more room. -/
def f_cells : Array Value := ⟨(List.range 2560).map (fun j => Value.int (sc j))⟩
def f_s : State := start1.aboutOf f_cells
def f_e : Env := launch0.env 0 2000000 1000000000
set_option maxRecDepth 100000 in
theorem f_ofvm (c d : Array Value) : (start1.aboutOf c).vm = (start1.aboutOf d).vm := rfl
theorem f_vm : start1.about.vm = f_s.vm := f_ofvm _ _
theorem f_size : f_cells.size = 2560 := by simp [f_cells]
theorem f_at (j : Nat) (hj : j < 2560) : f_cells[j]? = some (.int (sc j)) := by
  unfold f_cells
  rw [List.getElem?_toArray, List.getElem?_map, List.getElem?_range hj]
  rfl
set_option maxRecDepth 100000 in
theorem f_k1 : tables_1_1.all (fun w => w.onTables || w.before start1.args0 f_s) = true := by decide +kernel
set_option maxRecDepth 100000 in
theorem f_k2 : tables_1_2.all (fun w => w.onTables || w.before start1.args0 f_s) = true := by decide +kernel
set_option maxRecDepth 100000 in
theorem f_k3 : tables_1_3.all (fun w => w.onTables || w.before start1.args0 f_s) = true := by decide +kernel
set_option maxRecDepth 100000 in
theorem f_k4 : tables_1_4.all (fun w => w.onTables || w.before start1.args0 f_s) = true := by decide +kernel
set_option maxRecDepth 100000 in
theorem f_k5 : tables_1_5.all (fun w => w.onTables || w.before start1.args0 f_s) = true := by decide +kernel
set_option maxRecDepth 100000 in
theorem f_k6 : tables_1_6.all (fun w => w.onTables || w.before start1.args0 f_s) = true := by decide +kernel
set_option maxRecDepth 100000 in
theorem f_k7 : tables_1_7.all (fun w => w.onTables || w.before start1.args0 f_s) = true := by decide +kernel
theorem f_k : tables_1.all (fun w => w.onTables || w.before start1.args0 f_s) = true := by
  show (tables_1_1 ++ (tables_1_2 ++ (tables_1_3 ++ (tables_1_4 ++ (tables_1_5 ++ (tables_1_6 ++ tables_1_7)))))).all _ = true
  simp only [List.all_append, f_k1, f_k2, f_k3, f_k4, f_k5, f_k6, f_k7, Bool.and_self]
theorem f_tables : ∀ w ∈ tables_1, w.before start1.args0 f_s = true := by
  intro w hw
  have h0 := start1.words w (List.mem_cons_of_mem _ hw)
  have h1 := List.all_eq_true.mp f_k w hw
  rcases (Bool.or_eq_true_iff.mp h1) with h | h
  · exact va_tabs h f_vm h0
  · exact h
theorem f_words : ∀ w ∈ (Cond.code x code maxLocals ret :: tables_1), w.before start1.args0 f_s = true := by
  intro w hw
  rcases List.mem_cons.mp hw with rfl | h
  · exact va_tabs rfl f_vm (start1.words _ List.mem_cons_self)
  · exact f_tables w h
theorem f_ao {t : FieldType} {A A' : Array Value} {u U : State} (h : u.vm = U.vm) (hz : (Cond.arrayOver t).before A u = true) : (Cond.arrayOver t).before A' U = true := by
  have h1 := hz
  simp only [Cond.before, Cond.holds, Cond.value, h] at h1 ⊢
  exact h1
