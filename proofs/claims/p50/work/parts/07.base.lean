/-! Facts of the tables that ride along. -/
theorem rf_AOA {u U : State} (hvm : u.vm.Alike U.vm) (h : va_AOA .int u) : va_AOA .int U := by
  have h2 : (Cond.arrayOver (.array .int)).before #[] (u.setVm U.vm) = true := by rw [Cond.arrayOver_setVmC hvm]; exact h
  exact h2
def rf_AA (E : Nat → ClassId) (U : State) : Prop := ∃ k : Class, U.vm.classes[E 4]? = some k ∧ k.kind = .array (E 2) (.array .int)
theorem rf_AA.moved {E : Nat → ClassId} {u U : State} (hvm : u.vm.Alike U.vm) (h : rf_AA E u) : rf_AA E U := by
  obtain ⟨k, h1, h2⟩ := h
  obtain ⟨k', hk', he⟩ := hvm.2.2 _ _ h1
  exact ⟨k', hk', by rw [he]; exact h2⟩
def rf_N (E : Nat → ClassId) (U : State) : Prop := va_Nw (.castable "[B" "java/lang/Cloneable") U ∧ vk_R RX3 50 "" (E 5) U ∧ va_AO "Tapebuffer$Row" U ∧ va_AOA .int U ∧ rf_AA E U ∧ va_Nw (.fieldLinkNest RL 13 "TapebufferLaw$Out" "n" "J" RL) U ∧ va_Nw (.fieldLinkNest RL 109 "TapebufferLaw$Out" "s" "Ljava/lang/String;" RL) U
theorem rf_N.same {E : Nat → ClassId} {u U : State} (h : U.vm = u.vm) (hN : rf_N E u) : rf_N E U := by
  obtain ⟨h1, h2, h3, h4, h5, h6, h7⟩ := hN
  have hvm : u.vm.Alike U.vm := by rw [h]; exact Vm.Alike.refl _
  exact ⟨va_Nw.same rfl h.symm h1, vk_R.same h h2, h3.moved hvm, rf_AOA hvm h4, h5.moved hvm, va_Nw.same rfl h.symm h6, va_Nw.same rfl h.symm h7⟩
theorem rf_N.warm {E : Nat → ClassId} {s U : State} (hW : s.WarmedH U.vm) (hN : rf_N E s) : rf_N E U := by
  obtain ⟨h1, h2, h3, h4, h5, h6, h7⟩ := hN
  exact ⟨va_Nw.warmC hW h1, vk_R.warm hW h2, h3.moved hW.alike, rf_AOA hW.alike h4, h5.moved hW.alike, va_Nw.warmF hW h6, va_Nw.warmF hW h7⟩
/-! Words of the refutation by the room: worlds whose arrays hold zeros alone; contracts whose class ids of arrays are named once (E); a loop with a budget. -/
abbrev z0 : Nat → Int32 := fun _ => 0
abbrev rf_T (E : Nat → ClassId) : List (ClassId × FieldType) := [(E 0, .byte), (E 1, .char), (E 2, .int), (E 3, .object "Tapebuffer$Row"), (E 4, .array .int)]
def rf_P (D : va_G) (E : Nat → ClassId) (ws : va_W) (sz : Nat) (U : State) : Prop :=
  U.heap.size = sz ∧ va_P D vwCl ws U.heap ∧ va_K D vwCl (rf_T E) U ∧ va_D (fun _ => True) ws ∧ va_Z "java/lang/String" "COMPACT_STRINGS" "Z" (.int 1) (va_A ws sz) U U.heap ∧ rf_N E U
def rf_B (D : va_G) (A : Nat → Prop) (ws : va_W) (t : State) : Prop := va_P D vwCl ws t.heap ∧ va_D A ws
theorem rf_blind {D : va_G} {E : Nat → ClassId} {ws : va_W} {sz : Nat} (av : List Value) : FrameBlind (va_Pc av (rf_P D E ws sz)) := by
  intro a U g mk q
  obtain ⟨q0, q1, qP, qK, qD, qZ, qN⟩ := q
  exact ⟨q0, q1, qP, va_K.moved (u := U) (U := U.calling g mk a) (Vm.Alike.refl U.vm) qK, qD, va_Z.moved (u := U) (U := U.calling g mk a) (Vm.Alike.refl U.vm) qZ, rf_N.same (u := U) (U := U.calling g mk a) rfl qN⟩
theorem rf_pre {D : va_G} {E : Nat → ClassId} {s : State} {H : Heap} {locs : List Loc} {wc : va_W} {A : Nat → Prop} (hK : va_K D vwCl (rf_T E) s) (hPc : va_P D vwCl wc H) (hDc : va_D A wc) (hZ : va_Z "java/lang/String" "COMPACT_STRINGS" "Z" (.int 1) A s s.heap) (hN : rf_N E s) (hS : va_S A s.heap H locs) (hFc : ∀ q, va_A wc H.size q → A q) (U : State) (hU : U.heap = H) (hW : s.WarmedH U.vm) : rf_P D E wc H.size U := by
  refine ⟨by rw [hU], by rw [hU]; exact hPc, va_K.moved hW.alike hK, hDc.weaken (fun _ _ _ _ => trivial), ?_, rf_N.warm hW hN⟩
  rw [hU]
  exact va_Z.moved hW.alike ((hZ.kept hS.2.1).narrow hFc)
theorem rf_end {D : va_G} {A : Nat → Prop} {ws : va_W} {t : State} {H : Heap} (ht : t.heap = H) (hP : va_P D vwCl ws H) (hD : va_D A ws) : rf_B D A ws t := ⟨by rw [ht]; exact hP, hD⟩
theorem rf_u0 (k : Nat) : upd z0 k 0 = z0 := by
  funext j
  unfold upd
  split <;> rfl
theorem rf_ub (k : Nat) : upd z0 k (vp_nar .byte 0) = z0 := by
  rw [show vp_nar .byte 0 = 0 from by decide +kernel]
  exact rf_u0 k
theorem rf_uc (k : Nat) : upd z0 k (vp_nar .char 0) = z0 := by
  rw [show vp_nar .char 0 = 0 from by decide +kernel]
  exact rf_u0 k
theorem rf_cp (sp dp n : Nat) : va_cpy z0 z0 sp dp n = z0 := by
  funext j
  unfold va_cpy
  split <;> rfl
theorem rf_byte {D : va_G} {E : Nat → ClassId} {s : State} {cA : ClassId} (h : va_K D vwCl (rf_T E ++ [(cA, .byte)]) s) : cA = E 0 := by
  have h1 : s.vm.findClass ("[" ++ FieldType.byte.toString) = some (E 0) := (h.2 0 _ rfl).2
  have h2 : s.vm.findClass ("[" ++ FieldType.byte.toString) = some cA := (h.2 5 _ rfl).2
  exact Option.some.inj (h2.symm.trans h1)
theorem rf_char {D : va_G} {E : Nat → ClassId} {s : State} {cA : ClassId} (h : va_K D vwCl (rf_T E ++ [(cA, .char)]) s) : cA = E 1 := by
  have h1 : s.vm.findClass ("[" ++ FieldType.char.toString) = some (E 1) := (h.2 1 _ rfl).2
  have h2 : s.vm.findClass ("[" ++ FieldType.char.toString) = some cA := (h.2 5 _ rfl).2
  exact Option.some.inj (h2.symm.trans h1)
theorem rf_int {D : va_G} {E : Nat → ClassId} {s : State} {cA : ClassId} (h : va_K D vwCl (rf_T E ++ [(cA, .int)]) s) : cA = E 2 := by
  have h1 : s.vm.findClass ("[" ++ FieldType.int.toString) = some (E 2) := (h.2 2 _ rfl).2
  have h2 : s.vm.findClass ("[" ++ FieldType.int.toString) = some cA := (h.2 5 _ rfl).2
  exact Option.some.inj (h2.symm.trans h1)
theorem rf_fitz {cA : ClassId} {n : Nat} {i : Nat} {v : Value} (h : (vp_cell cA (n, .inl z0)).slots[i]? = some v) : fits .byte v = true := by
  have hi : i < n := by
    have h1 := (Array.getElem?_eq_some_iff.mp h).1
    rw [show (vp_cell cA (n, .inl z0)) = arrV cA n (fun _ => .int 0) from rfl, arrV_size] at h1
    exact h1
  rw [show (vp_cell cA (n, .inl z0)) = arrV cA n (fun _ => .int 0) from rfl, arrV_read cA _ hi] at h
  cases h
  rfl
theorem rf_rowc {D : va_G} {E : Nat → ClassId} {s : State} {cA : ClassId} (h : va_K D vwCl (rf_T E ++ [(cA, .object "Tapebuffer$Row")]) s) : cA = E 3 := by
  obtain ⟨-, -, -, -, -, h1⟩ := (h.2 3 _ rfl).2
  obtain ⟨-, -, -, -, -, h2⟩ := (h.2 5 _ rfl).2
  exact Option.some.inj (h2.symm.trans h1)
theorem rf_grid {D : va_G} {E : Nat → ClassId} {s : State} {cA : ClassId} (h : va_K D vwCl (rf_T E ++ [(cA, .array .int)]) s) : cA = E 4 := by
  have h1 : s.vm.findClass ("[" ++ (FieldType.array .int).toString) = some (E 4) := (h.2 4 _ rfl).2
  have h2 : s.vm.findClass ("[" ++ (FieldType.array .int).toString) = some cA := (h.2 5 _ rfl).2
  exact Option.some.inj (h2.symm.trans h1)
section RFL
variable {p : Program} {l : Launch} {e : Env} {R : Room} {s : State} {m : MethodId} {args : Array Value} {below : List Frame} {meth : Method} {c : Code} {Q : State → Prop}
theorem rf_heap {H H' : Heap} {locs : List Loc} {cells slots : Nat} {g : JFrame} (h : H = H') (k : W p l e R s m args below meth c H locs cells slots Q g) : W p l e R s m args below meth c H' locs cells slots Q g := h ▸ k
theorem rf_loop {H : Heap} {locs : List Loc} {ls : Array Slot} {pc : Nat} {rest : List Value} {c0 s0 : Nat} (N cc ss : Nat) (I : Nat → Heap → List Loc → Array Slot → Prop) (h0 : I 0 H locs ls)
    (hx : ∀ (H : Heap) (locs : List Loc) (ls : Array Slot), I N H locs ls → W p l e R s m args below meth c H locs (c0 + N * cc) (s0 + N * ss) Q (F0 m pc ls rest))
    (hs : ∀ (k : Nat) (H : Heap) (locs : List Loc) (ls : Array Slot), k < N → I k H locs ls → (∀ (H' : Heap) (locs' : List Loc) (ls' : Array Slot), I (k + 1) H' locs' ls' → W p l e R s m args below meth c H' locs' (c0 + (k + 1) * cc) (s0 + (k + 1) * ss) Q (F0 m pc ls' rest)) → W p l e R s m args below meth c H locs (c0 + k * cc) (s0 + k * ss) Q (F0 m pc ls rest)) :
    W p l e R s m args below meth c H locs c0 s0 Q (F0 m pc ls rest) := by
  have key : ∀ (d k : Nat) (H : Heap) (locs : List Loc) (ls : Array Slot), k + d = N → I k H locs ls → W p l e R s m args below meth c H locs (c0 + k * cc) (s0 + k * ss) Q (F0 m pc ls rest) := by
    intro d
    induction d with
    | zero =>
      intro k H locs ls hk hI
      obtain rfl : k = N := by omega
      exact hx H locs ls hI
    | succ d ih =>
      intro k H locs ls hk hI
      exact hs k H locs ls (by omega) hI (fun H' locs' ls' hI' => ih (k + 1) H' locs' ls' (by omega) hI')
  have h := key N 0 H locs ls (by omega) h0
  rw [Nat.zero_mul, Nat.zero_mul] at h
  exact h
end RFL
section RFA
variable {p : Program} {l : Launch} {e : Env} {R : Room} {s : State} {m : MethodId} {args : Array Value} {below : List Frame} {meth : Method} {c : Code} {H : Heap} {locs : List Loc} {cells slots : Nat} {Q : State → Prop}
variable {cc : ByteArray} {pc : Nat} {ls : Array Slot} {rest : List Value} {D : va_G} {cl : List vw_C} {A : Nat → Prop} {a : Nat} {ws : va_W} {H0 : Heap} {E : Nat → ClassId}
/-- aaload of an int[][] -/
theorem rf_aldg (hexec : p.tables.exec = Jvm.exec) (hb : c.code = cc) (hK : va_K D cl (rf_T E) s) (hP : va_P D cl ws H) (q0 t0 : Nat) {cA : ClassId} {n : Nat} {f : Nat → Option Nat} (ha : ws[q0]? = some (a, .inl (cA, n, .inr (.inr (.inr (.inr f)))))) (ht : (rf_T E)[t0]? = some (cA, .array .int)) {i : Int32} (hin : vp_in i n) (hdg : decode cc pc = .ok (.aaload, 1))
    (kk : W p l e R s m args below meth c H locs cells slots Q (F0 m (pc + 1) ls (va_rf (f i.toNatClampNeg) :: rest))) : W p l e R s m args below meth c H locs cells slots Q (F0 m pc ls (.int i :: .ref a :: rest)) := by
  have hlt : i.toNatClampNeg < n := Nat.not_le.mp fun q => hin (Or.inr q)
  exact W.aald (v := va_rf (f i.toNatClampNeg)) (ty := .array .int) hexec hb (hP q0 _ ha) ((hK.2 t0 _ ht).1 n (fun j => va_rf (f j))) rfl (fun q => by cases q) (by show ¬ (i < 0 ∨ (arrV _ _ _).slots.size ≤ _); rw [arrV_size]; exact hin) (by show (arrV _ _ _).slots[_]? = _; rw [arrV_read _ _ hlt]) rfl rfl hdg kk
/-- aastore of an int[] into an int[][] -/
theorem rf_astg (hexec : p.tables.exec = Jvm.exec) (hb : c.code = cc) (hK : va_K D cl (rf_T E) s) (hAA : rf_AA E s) (hP : va_P D cl ws H) (hD : va_D A ws) (hS : va_S A H0 H locs) (q0 qk : Nat) {n v nv : Nat} {g : Nat → Int32} {f : Nat → Option Nat} (ha : ws[q0]? = some (a, .inl (E 4, n, .inr (.inr (.inr (.inr f)))))) (hv : ws[qk]? = some (v, .inl (E 2, nv, .inl g))) {i : Int32} (hin : vp_in i n) (hdg : decode cc pc = .ok (.aastore, 1))
    (kk : ∀ (H1 : Heap) (locs1 : List Loc), va_P D cl (ws.set q0 (a, .inl (E 4, n, .inr (.inr (.inr (.inr (va_up f i.toNatClampNeg (some v)))))))) H1 → va_D A (ws.set q0 (a, .inl (E 4, n, .inr (.inr (.inr (.inr (va_up f i.toNatClampNeg (some v)))))))) → va_S A H0 H1 locs1 → W p l e R s m args below meth c H1 locs1 cells slots Q (F0 m (pc + 1) ls rest)) : W p l e R s m args below meth c H locs cells slots Q (F0 m pc ls (.ref v :: .int i :: .ref a :: rest)) := by
  have hlt : i.toNatClampNeg < n := Nat.not_le.mp fun q => hin (Or.inr q)
  have h0 : ¬ i < 0 := fun q => hin (Or.inl q)
  obtain ⟨kA, k1, k2⟩ := hAA
  obtain ⟨-, kI, kI1, cI, kI2⟩ := (hK.2 2 _ rfl).1 nv (fun j => .int (g j))
  have hkI : s.vm.classes[E 2]? = some kI := kI1
  refine W.aast hexec hb (hP q0 _ ha) (fun q h => by cases h) (fun h => by cases h) k1 k2 rfl hkI ⟨h0, by show _ < (arrV _ _ _).slots.size; rw [arrV_size]; exact hlt⟩ (hP qk _ hv) (fun q h => by cases h) hkI (va_asg _ _) rfl rfl hdg fun H1 e z oq => ?_
  refine kk H1 _ (hP.set hD ha ?_ oq) (hD.set ha) (hS.put z oq (hD.2 q0 _ ha))
  show H1[a]? = some (vp_cell _ _)
  rw [e]
  rw [vp_cell_q, vp_cell_q, arrV_store]
  congr 2
  funext q
  by_cases hq : q = i.toNatClampNeg
  · subst hq
    simp [updV, va_up, va_rf]
  · simp [updV, va_up, hq]
end RFA
theorem rf_inner (c : ClassId) : Jvm.Free.Multi.innerC c 0 (defaultValue .int) = vp_cell c (0, .inl z0) := by
  show ({ cls := c, slots := Array.replicate 0 (defaultValue .int), vm := .none } : Cell) = arrV c 0 (fun _ => .int 0)
  rw [arrV_new]
  rfl
