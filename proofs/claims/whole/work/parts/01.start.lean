/-! The premise of the start that no state without the class "[Ljava/lang/StackTraceElement;" meets: the printed witness's state is such a one. -/
theorem st_castable {A : Array Value} {s : State} (h : s.vm.findClass "[Ljava/lang/StackTraceElement;" = none) : ¬ (Cond.not (Cond.castable "[Ljava/lang/StackTraceElement;" "java/lang/String")).before A s = true := by
  simp [Cond.before, Cond.holds, Cond.value, h]
theorem st_start {A : Array Value} {s : State} (h : s.vm.findClass "[Ljava/lang/StackTraceElement;" = none) : ¬ (Cond.and given_1 narrow_1).before A s = true := fun hb =>
  st_castable (A := A) h (flat_of_before _ hb _ (by decide +kernel))
