/-! What a world's arrays hold, the heap behind a place holds too. -/
theorem rf_set0 : ∀ (l : List Nat) (i v : Nat), l[i]? = some v → (l.set i 0).sum + v = l.sum
  | [], _, _, h => by simp at h
  | x :: r, 0, v, h => by
    have e : x = v := by simpa using h
    subst e
    show (0 :: r).sum + x = (x :: r).sum
    simp only [List.sum_cons]
    omega
  | x :: r, i + 1, v, h => by
    have h' : r[i]? = some v := by simpa using h
    have := rf_set0 r i v h'
    show (x :: r.set i 0).sum + v = (x :: r).sum
    simp only [List.sum_cons]
    omega
theorem rf_gsle (lo : Nat) : ∀ (G : va_W) (l : List Nat), (∀ (i j : Nat) (p q : Nat × va_E), G[i]? = some p → G[j]? = some q → p.1 = q.1 → i = j) → (∀ q ∈ G, lo ≤ q.1) → (∀ q ∈ G, ∀ (c : ClassId) (n : Nat) (f : ((Nat → Int32) ⊕ (Nat → Int64) ⊕ (Nat → UInt32) ⊕ (Nat → UInt64) ⊕ (Nat → Option Nat))), q.2 = .inl (c, n, f) → l[q.1 - lo]? = some n) → gs G ≤ l.sum
  | [], _, _, _, _ => Nat.zero_le _
  | (a, .inr x) :: r, l, hn, hl, hv => by
    show gs r ≤ l.sum
    exact rf_gsle lo r l (fun i j p q hi hj e => by have := hn (i + 1) (j + 1) p q (by simpa using hi) (by simpa using hj) e; omega) (fun q hq => hl q (List.mem_cons_of_mem _ hq)) (fun q hq => hv q (List.mem_cons_of_mem _ hq))
  | (a, .inl (c, n, f)) :: r, l, hn, hl, hv => by
    show n + gs r ≤ l.sum
    have h0 : l[a - lo]? = some n := hv _ List.mem_cons_self c n f rfl
    have hs := rf_set0 l (a - lo) n h0
    have h1 := rf_gsle lo r (l.set (a - lo) 0) (fun i j p q hi hj e => by have := hn (i + 1) (j + 1) p q (by simpa using hi) (by simpa using hj) e; omega) (fun q hq => hl q (List.mem_cons_of_mem _ hq)) (fun q hq c' n' f' e => by
      obtain ⟨j, hj⟩ := List.getElem?_of_mem hq
      have hne : q.1 ≠ a := fun e2 => by
        have := hn 0 (j + 1) (a, .inl (c, n, f)) q rfl (by simpa using hj) e2.symm
        omega
      have h2 := hl q (List.mem_cons_of_mem _ hq)
      have h3 := hl (a, .inl (c, n, f)) List.mem_cons_self
      have h3' : lo ≤ a := h3
      rw [List.getElem?_set_ne (by omega)]
      exact hv q (List.mem_cons_of_mem _ hq) c' n' f' e)
    omega
theorem rf_cellsz (cA : ClassId) (x : vp_A) : (vp_cell cA x).slots.size = x.1 := by
  obtain ⟨n, f⟩ := x
  rcases f with f | f | f | f | f <;> exact arrV_size _ _ _
theorem rf_big {D : va_G} {cl : List vw_C} {X G : va_W} {H : Heap} {A : Nat → Prop} {lo : Nat} (hP : va_P D cl (X ++ G) H) (hD : va_D A (X ++ G)) (hlo : ∀ q ∈ G, lo ≤ q.1) : gs G ≤ ((H.toList.drop lo).map (fun c : Cell => c.slots.size)).sum := by
  refine rf_gsle lo G _ (fun i j p q hi hj e => ?_) hlo (fun q hq c n f e => ?_)
  · have h := hD.1 (X.length + i) (X.length + j) p q (by rw [List.getElem?_append_right (by omega)]; simpa using hi) (by rw [List.getElem?_append_right (by omega)]; simpa using hj) e
    omega
  · obtain ⟨j, hj⟩ := List.getElem?_of_mem hq
    have h := hP (X.length + j) q (by rw [List.getElem?_append_right (by omega)]; simpa using hj)
    obtain ⟨a, e2⟩ := q
    dsimp only at e
    subst e
    have h1 : H[a]? = some (vp_cell c (n, f)) := h
    have h2 : lo ≤ a := hlo _ hq
    rw [List.getElem?_map, List.getElem?_drop, show lo + (a - lo) = a by omega, Array.getElem?_toList, h1]
    show some (vp_cell c (n, f)).slots.size = some n
    rw [rf_cellsz]
