/-! 'selects' of the builder's private methods, which the tables say but for the receiver's own class. -/
theorem rf_sel {C : String} {y z : MethodName} {s : State} {args : Array Value} {n : Nat} (hy : y.cls ≠ "java/lang/invoke/MethodHandle" ∧ y.cls ≠ "java/lang/invoke/VarHandle") (hzy : z.cls = y.cls)
    (hz : (Cond.selects C z z).before args s = true) (hins : (Cond.instantiable C n).before args s = true) (hpriv : (Cond.privateMethod y).before args s = true) (hinst : (Cond.instanceMethod y).before args s = true) :
    (Cond.selects C y y).before args s = true := by
  obtain ⟨c, k, hc, hk, -, -, -, -⟩ := Cond.instantiable_spec hins
  obtain ⟨mk, methM, hnamed, hmethM, -, -⟩ := Cond.instanceMethod_spec hinst
  have hfound : s.methodFound? y.cls y.name y.desc = some mk := State.methodFound?_of_named hnamed hy
  have hcls : s.vm.findClass y.cls = some mk.cls := findClass_of_methodNamed hnamed
  have hsel : selectMethod {} s.vm c mk = .method mk := selectMethod_private hmethM (Cond.privateMethod_at hpriv mk methM hnamed hmethM)
  have hni : (s.vm.classes[mk.cls]?).any (fun k => !k.isInterface) = true := by
    simp only [Cond.before, Cond.holds, Cond.value, hc] at hz
    cases h1 : s.methodFound? z.cls z.name z.desc with
    | none => simp [h1] at hz
    | some r =>
      cases h2 : s.methodNamed? z with
      | none => simp [h1, h2] at hz
      | some mz =>
        have h3 : mz.cls = mk.cls := Option.some.inj ((findClass_of_methodNamed h2).symm.trans ((congrArg (fun x => s.vm.findClass x) hzy).trans hcls))
        rw [h1, h2] at hz
        dsimp only at hz
        cases h4 : selectMethod {} s.vm c r with
        | method m' =>
          rw [h4] at hz
          dsimp only at hz
          rw [← h3]
          have h5 := (beq_iff_eq.mp hz)
          have h6 := Option.some.inj h5
          exact (Bool.and_eq_true_iff.mp h6).2
        | _ => rw [h4] at hz; simp at hz
  simp only [Cond.before, Cond.holds, Cond.value, hc, hfound, hnamed, hsel]
  simpa using hni
def rf_sels : List MethodName := [yJ5_appendNull_278bc, yJ5_ensureCapacityInternal_d00df, yJ5_newCapacity_0f7a4, yJ5_putStringAt_47b60, yJ5_inflateIfNeededFor_a7421, yJ5_inflate_da8c8]
def rf_tbl : List Cond := rf_sels.map (fun y => Cond.selects RJ4 y y) ++ lw_tbl
theorem rf_okz : Cond.selects RJ4 yJ5_isLatin1_aae02 yJ5_isLatin1_aae02 ∈ lw_tbl ∧ Cond.instantiable RJ4 4 ∈ lw_tbl := by decide +kernel
theorem rf_oks : ∀ y ∈ rf_sels, (y.cls ≠ "java/lang/invoke/MethodHandle" ∧ y.cls ≠ "java/lang/invoke/VarHandle") ∧ yJ5_isLatin1_aae02.cls = y.cls ∧ Cond.privateMethod y ∈ lw_tbl ∧ Cond.instanceMethod y ∈ lw_tbl := by decide +kernel
theorem rf_hts {s : State} {args : Array Value} (h : ∀ w ∈ lw_tbl, w.before args s = true) : ∀ w ∈ rf_tbl, w.before args s = true := by
  intro w hw
  rcases List.mem_append.mp hw with hw | hw
  · obtain ⟨y, hy, rfl⟩ := List.mem_map.mp hw
    obtain ⟨h1, h2, h3, h4⟩ := rf_oks y hy
    exact rf_sel h1 h2 (h _ rf_okz.1) (h _ rf_okz.2) (h _ h3) (h _ h4)
  · exact h w hw

set_option maxRecDepth 100000 in
set_option maxHeartbeats 4000000 in
theorem rgL_law_X1_init : GoodIn rf_tbl (wsX1_init) := goodIn_sub (by decide +kernel) (by decide +kernel)
set_option maxRecDepth 100000 in
set_option maxHeartbeats 4000000 in
theorem rgL_law_X3_init : GoodIn rf_tbl (wsX3_init) := goodIn_sub (by decide +kernel) (by decide +kernel)
set_option maxRecDepth 100000 in
set_option maxHeartbeats 4000000 in
theorem rgL_law_X2_init_n182 : GoodIn rf_tbl (wsX2_init) := goodIn_sub (by decide +kernel) (by decide +kernel)
set_option maxRecDepth 100000 in
set_option maxHeartbeats 4000000 in
theorem rgL_law_L_setLength : GoodIn rf_tbl (va_wsS RL 247 yL_setLength wsL_setLength) := goodIn_sub (by decide +kernel) (by decide +kernel)
set_option maxRecDepth 100000 in
set_option maxHeartbeats 4000000 in
theorem rgL_law_X3_setLength : GoodIn rf_tbl (wsV RL 249 RX3 yX3_setLength wsX3_setLength) := goodIn_sub (by decide +kernel) (by decide +kernel)
set_option maxRecDepth 100000 in
set_option maxHeartbeats 4000000 in
theorem rgL_law_L_text : GoodIn rf_tbl (va_wsS RL 279 yL_text wsL_text) := goodIn_sub (by decide +kernel) (by decide +kernel)
set_option maxRecDepth 100000 in
set_option maxHeartbeats 4000000 in
theorem rg_wsX3_text__r1 : GoodIn rf_tbl wsX3_text__r1 := goodIn_sub (by decide +kernel) (by decide +kernel)
set_option maxRecDepth 100000 in
set_option maxHeartbeats 4000000 in
theorem rg_wsX3_text__r2 : GoodIn rf_tbl wsX3_text__r2 := goodIn_sub (by decide +kernel) (by decide +kernel)
set_option maxRecDepth 100000 in
set_option maxHeartbeats 4000000 in
theorem rg_wsX3_text__r3 : GoodIn rf_tbl wsX3_text__r3 := goodIn_sub (by decide +kernel) (by decide +kernel)
set_option maxRecDepth 100000 in
set_option maxHeartbeats 4000000 in
theorem rg_wsX3_text__r4 : GoodIn rf_tbl wsX3_text__r4 := goodIn_sub (by decide +kernel) (by decide +kernel)
set_option maxRecDepth 100000 in
set_option maxHeartbeats 4000000 in
theorem rg_wsX3_text__r5 : GoodIn rf_tbl wsX3_text__r5 := goodIn_sub (by decide +kernel) (by decide +kernel)
set_option maxRecDepth 100000 in
set_option maxHeartbeats 4000000 in
theorem rg_wsX3_text__r6 : GoodIn rf_tbl wsX3_text__r6 := goodIn_sub (by decide +kernel) (by decide +kernel)
set_option maxRecDepth 100000 in
set_option maxHeartbeats 4000000 in
theorem rg_wsX3_text__r7 : GoodIn rf_tbl wsX3_text__r7 := goodIn_sub (by decide +kernel) (by decide +kernel)
set_option maxRecDepth 100000 in
set_option maxHeartbeats 4000000 in
theorem rg_wsX3_text__r8 : GoodIn rf_tbl wsX3_text__r8 := goodIn_sub (by decide +kernel) (by decide +kernel)
set_option maxRecDepth 100000 in
set_option maxHeartbeats 4000000 in
theorem rg_wsX3_text__r9 : GoodIn rf_tbl wsX3_text__r9 := goodIn_sub (by decide +kernel) (by decide +kernel)
set_option maxRecDepth 100000 in
set_option maxHeartbeats 4000000 in
theorem rg_wsX3_text__r10 : GoodIn rf_tbl wsX3_text__r10 := goodIn_sub (by decide +kernel) (by decide +kernel)
set_option maxRecDepth 100000 in
set_option maxHeartbeats 4000000 in
theorem rg_wsX3_text__r11 : GoodIn rf_tbl wsX3_text__r11 := goodIn_sub (by decide +kernel) (by decide +kernel)
set_option maxRecDepth 100000 in
set_option maxHeartbeats 4000000 in
theorem rg_wsX30 : GoodIn rf_tbl wsX30 := goodIn_sub (by decide +kernel) (by decide +kernel)
set_option maxRecDepth 100000 in
set_option maxHeartbeats 4000000 in
theorem rg_wsJ40 : GoodIn rf_tbl wsJ40 := goodIn_sub (by decide +kernel) (by decide +kernel)
set_option maxRecDepth 100000 in
set_option maxHeartbeats 4000000 in
theorem rg_wsJ00 : GoodIn rf_tbl wsJ00 := goodIn_sub (by decide +kernel) (by decide +kernel)
set_option maxRecDepth 100000 in
set_option maxHeartbeats 4000000 in
theorem rg_X3t0 : GoodIn rf_tbl ([.methodLink RL 281 yX3_text_, .instanceMethod yX3_text_, .selects RX3 yX3_text_ yX3_text_, .initialized RX3] ++ [.code yX3_text_ cX3_text_ 2 (some (.object "java/lang/String"))]) := goodIn_sub (by decide +kernel) (by decide +kernel)
theorem rgL_law_X3_text_ : GoodIn rf_tbl (wsV RL 281 RX3 yX3_text_ wsX3_text_) := by
  have h := goodIn_app rg_X3t0 (goodIn_app (goodIn_app (goodIn_app (goodIn_app rg_wsX3_text__r1 (goodIn_app rg_wsX3_text__r2 (goodIn_app rg_wsX3_text__r3 (goodIn_app rg_wsX3_text__r4 (goodIn_app rg_wsX3_text__r5 (goodIn_app rg_wsX3_text__r6 (goodIn_app rg_wsX3_text__r7 (goodIn_app rg_wsX3_text__r8 (goodIn_app rg_wsX3_text__r9 (goodIn_app rg_wsX3_text__r10 rg_wsX3_text__r11)))))))))) rg_wsX30) rg_wsJ40) rg_wsJ00)
  intro w hw
  refine h w ?_
  simpa [wsV, wsX3_text_] using hw
