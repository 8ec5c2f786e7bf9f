/-! The garbage: how many elements the arrays of a world hold. -/
def gs : va_W → Nat
  | [] => 0
  | (_, .inl (_, n, _)) :: r => n + gs r
  | (_, .inr _) :: r => gs r
def rf_tri : Nat → Nat
  | 0 => 0
  | k + 1 => rf_tri k + k
theorem gs_app (a b : va_W) : gs (a ++ b) = gs a + gs b := by
  induction a with
  | nil => simp [gs]
  | cons x r ih =>
    obtain ⟨q, e⟩ := x
    cases e with
    | inl y =>
      obtain ⟨c, n, f⟩ := y
      show n + gs (r ++ b) = n + gs r + gs b
      rw [ih]
      omega
    | inr y =>
      show gs (r ++ b) = gs r + gs b
      exact ih
