section
-- ===== PART A: goes FIRST, ahead of the names: the tables' words, and 'selects' of the private methods out of them =====
/-- a private method of a class that the tables say can be made, by its rows of tables_1 -/
def lw_okq (q : MethodName × Nat) : Prop := (q.1.cls ≠ "java/lang/invoke/MethodHandle" ∧ q.1.cls ≠ "java/lang/invoke/VarHandle") ∧ Cond.instantiable q.1.cls q.2 ∈ tables_1 ∧ Cond.privateMethod q.1 ∈ tables_1 ∧ Cond.instanceMethod q.1 ∈ tables_1
theorem lw_p0 : lw_okq (⟨"Tapebuffer", "isSameTurnedTwice", "(LTapebuffer$Row;)Z"⟩, 7) := ⟨⟨by decide +kernel, by decide +kernel⟩, List.mem_of_getElem? (i := 23) (by decide +kernel), List.mem_of_getElem? (i := 160) (by decide +kernel), List.mem_of_getElem? (i := 161) (by decide +kernel)⟩
theorem lw_p1 : lw_okq (⟨"Tapebuffer", "isSameCutAndJoined", "(LTapebuffer$Row;)Z"⟩, 7) := ⟨⟨by decide +kernel, by decide +kernel⟩, List.mem_of_getElem? (i := 23) (by decide +kernel), List.mem_of_getElem? (i := 187) (by decide +kernel), List.mem_of_getElem? (i := 188) (by decide +kernel)⟩
theorem lw_p2 : lw_okq (⟨"Tapebuffer", "readsNumberBehindCopy", "(LTapebuffer$Row;)Z"⟩, 7) := ⟨⟨by decide +kernel, by decide +kernel⟩, List.mem_of_getElem? (i := 23) (by decide +kernel), List.mem_of_getElem? (i := 218) (by decide +kernel), List.mem_of_getElem? (i := 219) (by decide +kernel)⟩
theorem lw_p3 : lw_okq (⟨"Tapebuffer", "isWatchLikeItsTape", "()Z"⟩, 7) := ⟨⟨by decide +kernel, by decide +kernel⟩, List.mem_of_getElem? (i := 23) (by decide +kernel), List.mem_of_getElem? (i := 259) (by decide +kernel), List.mem_of_getElem? (i := 260) (by decide +kernel)⟩
theorem lw_p4 : lw_okq (⟨"Tapebuffer", "tapeOf", "(I)LTapebuffer$Row;"⟩, 7) := ⟨⟨by decide +kernel, by decide +kernel⟩, List.mem_of_getElem? (i := 23) (by decide +kernel), List.mem_of_getElem? (i := 263) (by decide +kernel), List.mem_of_getElem? (i := 264) (by decide +kernel)⟩
theorem lw_p5 : lw_okq (⟨"java/lang/Throwable", "fillInStackTrace", "(I)Ljava/lang/Throwable;"⟩, 6) := ⟨⟨by decide +kernel, by decide +kernel⟩, List.mem_of_getElem? (i := 307) (by decide +kernel), List.mem_of_getElem? (i := 305) (by decide +kernel), List.mem_of_getElem? (i := 306) (by decide +kernel)⟩
theorem lw_p6 : lw_okq (⟨"Tapebuffer", "signsOnAllTapes", "()I"⟩, 7) := ⟨⟨by decide +kernel, by decide +kernel⟩, List.mem_of_getElem? (i := 23) (by decide +kernel), List.mem_of_getElem? (i := 368) (by decide +kernel), List.mem_of_getElem? (i := 369) (by decide +kernel)⟩
theorem lw_p7 : lw_okq (⟨"Tapebuffer", "emptyTapes", "()I"⟩, 7) := ⟨⟨by decide +kernel, by decide +kernel⟩, List.mem_of_getElem? (i := 23) (by decide +kernel), List.mem_of_getElem? (i := 372) (by decide +kernel), List.mem_of_getElem? (i := 373) (by decide +kernel)⟩
theorem lw_p8 : lw_okq (⟨"Tapebuffer", "digestOfTape", "(JI)J"⟩, 7) := ⟨⟨by decide +kernel, by decide +kernel⟩, List.mem_of_getElem? (i := 23) (by decide +kernel), List.mem_of_getElem? (i := 376) (by decide +kernel), List.mem_of_getElem? (i := 377) (by decide +kernel)⟩
theorem lw_p9 : lw_okq (⟨"Tapebuffer", "wordComes", "(I)V"⟩, 7) := ⟨⟨by decide +kernel, by decide +kernel⟩, List.mem_of_getElem? (i := 23) (by decide +kernel), List.mem_of_getElem? (i := 402) (by decide +kernel), List.mem_of_getElem? (i := 403) (by decide +kernel)⟩
theorem lw_p10 : lw_okq (⟨"Tapebuffer", "putAllBehind", "(LTapebuffer$Row;)I"⟩, 7) := ⟨⟨by decide +kernel, by decide +kernel⟩, List.mem_of_getElem? (i := 23) (by decide +kernel), List.mem_of_getElem? (i := 460) (by decide +kernel), List.mem_of_getElem? (i := 461) (by decide +kernel)⟩
theorem lw_p11 : lw_okq (⟨"Tapebuffer", "putInPlaceOf", "(LTapebuffer$Row;II)I"⟩, 7) := ⟨⟨by decide +kernel, by decide +kernel⟩, List.mem_of_getElem? (i := 23) (by decide +kernel), List.mem_of_getElem? (i := 464) (by decide +kernel), List.mem_of_getElem? (i := 465) (by decide +kernel)⟩
theorem lw_p12 : lw_okq (⟨"Tapebuffer", "numberComes", "(J)V"⟩, 7) := ⟨⟨by decide +kernel, by decide +kernel⟩, List.mem_of_getElem? (i := 23) (by decide +kernel), List.mem_of_getElem? (i := 475) (by decide +kernel), List.mem_of_getElem? (i := 476) (by decide +kernel)⟩
theorem lw_p13 : lw_okq (⟨"Tapebuffer", "signComes", "(I)V"⟩, 7) := ⟨⟨by decide +kernel, by decide +kernel⟩, List.mem_of_getElem? (i := 23) (by decide +kernel), List.mem_of_getElem? (i := 498) (by decide +kernel), List.mem_of_getElem? (i := 499) (by decide +kernel)⟩
theorem lw_p14 : lw_okq (⟨"TapebufferModel", "start", "(ZI)Z"⟩, 6) := ⟨⟨by decide +kernel, by decide +kernel⟩, List.mem_of_getElem? (i := 858) (by decide +kernel), List.mem_of_getElem? (i := 896) (by decide +kernel), List.mem_of_getElem? (i := 897) (by decide +kernel)⟩
theorem lw_p15 : lw_okq (⟨"TapebufferModel", "refuse", "(ZI)Z"⟩, 6) := ⟨⟨by decide +kernel, by decide +kernel⟩, List.mem_of_getElem? (i := 858) (by decide +kernel), List.mem_of_getElem? (i := 900) (by decide +kernel), List.mem_of_getElem? (i := 901) (by decide +kernel)⟩
def lw_privs_1 : List (MethodName × Nat) := [(⟨"Tapebuffer", "isSameTurnedTwice", "(LTapebuffer$Row;)Z"⟩, 7), (⟨"Tapebuffer", "isSameCutAndJoined", "(LTapebuffer$Row;)Z"⟩, 7), (⟨"Tapebuffer", "readsNumberBehindCopy", "(LTapebuffer$Row;)Z"⟩, 7), (⟨"Tapebuffer", "isWatchLikeItsTape", "()Z"⟩, 7), (⟨"Tapebuffer", "tapeOf", "(I)LTapebuffer$Row;"⟩, 7), (⟨"java/lang/Throwable", "fillInStackTrace", "(I)Ljava/lang/Throwable;"⟩, 6), (⟨"Tapebuffer", "signsOnAllTapes", "()I"⟩, 7), (⟨"Tapebuffer", "emptyTapes", "()I"⟩, 7), (⟨"Tapebuffer", "digestOfTape", "(JI)J"⟩, 7), (⟨"Tapebuffer", "wordComes", "(I)V"⟩, 7), (⟨"Tapebuffer", "putAllBehind", "(LTapebuffer$Row;)I"⟩, 7), (⟨"Tapebuffer", "putInPlaceOf", "(LTapebuffer$Row;II)I"⟩, 7), (⟨"Tapebuffer", "numberComes", "(J)V"⟩, 7), (⟨"Tapebuffer", "signComes", "(I)V"⟩, 7), (⟨"TapebufferModel", "start", "(ZI)Z"⟩, 6), (⟨"TapebufferModel", "refuse", "(ZI)Z"⟩, 6)]
theorem lw_r1 : ∀ q ∈ lw_privs_1, lw_okq q := List.forall_mem_cons.mpr ⟨lw_p0, List.forall_mem_cons.mpr ⟨lw_p1, List.forall_mem_cons.mpr ⟨lw_p2, List.forall_mem_cons.mpr ⟨lw_p3, List.forall_mem_cons.mpr ⟨lw_p4, List.forall_mem_cons.mpr ⟨lw_p5, List.forall_mem_cons.mpr ⟨lw_p6, List.forall_mem_cons.mpr ⟨lw_p7, List.forall_mem_cons.mpr ⟨lw_p8, List.forall_mem_cons.mpr ⟨lw_p9, List.forall_mem_cons.mpr ⟨lw_p10, List.forall_mem_cons.mpr ⟨lw_p11, List.forall_mem_cons.mpr ⟨lw_p12, List.forall_mem_cons.mpr ⟨lw_p13, List.forall_mem_cons.mpr ⟨lw_p14, List.forall_mem_cons.mpr ⟨lw_p15, fun _ h => absurd h List.not_mem_nil⟩⟩⟩⟩⟩⟩⟩⟩⟩⟩⟩⟩⟩⟩⟩⟩
theorem lw_p16 : lw_okq (⟨"TapebufferModel", "add", "(I[I)I"⟩, 6) := ⟨⟨by decide +kernel, by decide +kernel⟩, List.mem_of_getElem? (i := 858) (by decide +kernel), List.mem_of_getElem? (i := 1112) (by decide +kernel), List.mem_of_getElem? (i := 1113) (by decide +kernel)⟩
theorem lw_p17 : lw_okq (⟨"TapebufferModel", "put", "(III[I)I"⟩, 6) := ⟨⟨by decide +kernel, by decide +kernel⟩, List.mem_of_getElem? (i := 858) (by decide +kernel), List.mem_of_getElem? (i := 1116) (by decide +kernel), List.mem_of_getElem? (i := 1117) (by decide +kernel)⟩
theorem lw_p18 : lw_okq (⟨"TapebufferModel", "isNoGap", "(II)Z"⟩, 6) := ⟨⟨by decide +kernel, by decide +kernel⟩, List.mem_of_getElem? (i := 858) (by decide +kernel), List.mem_of_getElem? (i := 1197) (by decide +kernel), List.mem_of_getElem? (i := 1198) (by decide +kernel)⟩
theorem lw_p19 : lw_okq (⟨"TapebufferModel", "end", "(II)I"⟩, 6) := ⟨⟨by decide +kernel, by decide +kernel⟩, List.mem_of_getElem? (i := 858) (by decide +kernel), List.mem_of_getElem? (i := 1217) (by decide +kernel), List.mem_of_getElem? (i := 1218) (by decide +kernel)⟩
theorem lw_p20 : lw_okq (⟨"TapebufferModel", "isNoPlace", "(II)Z"⟩, 6) := ⟨⟨by decide +kernel, by decide +kernel⟩, List.mem_of_getElem? (i := 858) (by decide +kernel), List.mem_of_getElem? (i := 1226) (by decide +kernel), List.mem_of_getElem? (i := 1227) (by decide +kernel)⟩
theorem lw_p21 : lw_okq (⟨"TapebufferModel", "become", "(I[I)I"⟩, 6) := ⟨⟨by decide +kernel, by decide +kernel⟩, List.mem_of_getElem? (i := 858) (by decide +kernel), List.mem_of_getElem? (i := 1258) (by decide +kernel), List.mem_of_getElem? (i := 1259) (by decide +kernel)⟩
theorem lw_p22 : lw_okq (⟨"TapebufferModel", "isNoFind", "(II)Z"⟩, 6) := ⟨⟨by decide +kernel, by decide +kernel⟩, List.mem_of_getElem? (i := 858) (by decide +kernel), List.mem_of_getElem? (i := 1312) (by decide +kernel), List.mem_of_getElem? (i := 1313) (by decide +kernel)⟩
theorem lw_p23 : lw_okq (⟨"TapebufferModel", "compareNow", "(II)I"⟩, 6) := ⟨⟨by decide +kernel, by decide +kernel⟩, List.mem_of_getElem? (i := 858) (by decide +kernel), List.mem_of_getElem? (i := 1358) (by decide +kernel), List.mem_of_getElem? (i := 1359) (by decide +kernel)⟩
theorem lw_p24 : lw_okq (⟨"TapebufferModel", "watchedNow", "(I)I"⟩, 6) := ⟨⟨by decide +kernel, by decide +kernel⟩, List.mem_of_getElem? (i := 858) (by decide +kernel), List.mem_of_getElem? (i := 1431) (by decide +kernel), List.mem_of_getElem? (i := 1432) (by decide +kernel)⟩
theorem lw_p25 : lw_okq (⟨"TapebufferModel", "houseNow", "(I)I"⟩, 6) := ⟨⟨by decide +kernel, by decide +kernel⟩, List.mem_of_getElem? (i := 858) (by decide +kernel), List.mem_of_getElem? (i := 1444) (by decide +kernel), List.mem_of_getElem? (i := 1445) (by decide +kernel)⟩
def lw_privs_2 : List (MethodName × Nat) := [(⟨"TapebufferModel", "add", "(I[I)I"⟩, 6), (⟨"TapebufferModel", "put", "(III[I)I"⟩, 6), (⟨"TapebufferModel", "isNoGap", "(II)Z"⟩, 6), (⟨"TapebufferModel", "end", "(II)I"⟩, 6), (⟨"TapebufferModel", "isNoPlace", "(II)Z"⟩, 6), (⟨"TapebufferModel", "become", "(I[I)I"⟩, 6), (⟨"TapebufferModel", "isNoFind", "(II)Z"⟩, 6), (⟨"TapebufferModel", "compareNow", "(II)I"⟩, 6), (⟨"TapebufferModel", "watchedNow", "(I)I"⟩, 6), (⟨"TapebufferModel", "houseNow", "(I)I"⟩, 6)]
theorem lw_r2 : ∀ q ∈ lw_privs_2, lw_okq q := List.forall_mem_cons.mpr ⟨lw_p16, List.forall_mem_cons.mpr ⟨lw_p17, List.forall_mem_cons.mpr ⟨lw_p18, List.forall_mem_cons.mpr ⟨lw_p19, List.forall_mem_cons.mpr ⟨lw_p20, List.forall_mem_cons.mpr ⟨lw_p21, List.forall_mem_cons.mpr ⟨lw_p22, List.forall_mem_cons.mpr ⟨lw_p23, List.forall_mem_cons.mpr ⟨lw_p24, List.forall_mem_cons.mpr ⟨lw_p25, fun _ h => absurd h List.not_mem_nil⟩⟩⟩⟩⟩⟩⟩⟩⟩⟩
def lw_privs : List (MethodName × Nat) := lw_privs_1 ++ (lw_privs_2)
def lw_tbl : List Cond := k2_sels lw_privs ++ tables_1
theorem lw_privs_ok : ∀ q ∈ lw_privs, lw_okq q := by
  show ∀ q ∈ lw_privs_1 ++ (lw_privs_2), lw_okq q
  exact List.forall_mem_append.mpr ⟨lw_r1, lw_r2⟩
-- ===== end of PART A; then your names; then what follows =====
end
section
/-! The names' rows speak of va_AOA, which the kit's rows do not hold: arrays of arrays, as va_AO for arrays of objects. -/
def va_AOA (ty : FieldType) (U : State) : Prop := (Cond.arrayOver (.array ty)).before #[] U = true
theorem va_AOA.use {ty : FieldType} {A : Array Value} {U : State} (h : va_AOA ty U) : (Cond.arrayOver (.array ty)).before A U = true := h
end
section
/-! ===== BEGIN words of one list among another's, by their places ===== -/
theorem goodIn_r {big : List Cond} (ws : List Cond) (ps : List Nat) (hp : ws = ps.filterMap (fun i => big[i]?)) (h : ws.all goodWord = true) : GoodIn big ws := by
  intro w hw
  have h1 := List.all_eq_true.mp h w hw
  rw [hp] at hw
  obtain ⟨i, -, hi⟩ := List.mem_filterMap.mp hw
  have hm : w ∈ big := by first | exact List.mem_of_getElem? hi | exact List.getElem?_mem hi
  exact ⟨hm, good_of_word h1⟩
theorem goodIn_app {big a b : List Cond} (ha : GoodIn big a) (hb : GoodIn big b) : GoodIn big (a ++ b) := fun w h => (List.mem_append.mp h).elim (ha w) (hb w)
theorem goodIn_ca {big a b : List Cond} {c : Cond} (ha : GoodIn big (c :: a)) (hb : GoodIn big b) : GoodIn big (c :: (a ++ b)) := fun w h => (List.mem_cons.mp h).elim (fun e => ha w (List.mem_cons.mpr (Or.inl e))) (fun h => (List.mem_append.mp h).elim (fun h => ha w (List.mem_cons.mpr (Or.inr h))) (hb w))
theorem goodIn_sub {big ws : List Cond} (hm : ∀ w ∈ ws, w ∈ big) (h : ws.all goodWord = true) : GoodIn big ws := fun w hw => ⟨hm w hw, good_of_word (List.all_eq_true.mp h w hw)⟩
/-! ===== END ===== -/

/-! ===== BEGIN new T[n][m]: the outer array a place, the inner ones among the pooled ===== -/
/-- f, but v at every address of l -/
def vr_up {α : Type} (f : Nat → α) (l : List Nat) (v : α) : Nat → α := fun a => if a ∈ l then v else f a
theorem vr_up_in {α : Type} {f : Nat → α} {l : List Nat} {v : α} {a : Nat} (h : a ∈ l) : vr_up f l v a = v := if_pos h
theorem vr_up_ne {α : Type} {f : Nat → α} {l : List Nat} {v : α} {a : Nat} (h : a ∉ l) : vr_up f l v a = f a := if_neg h
theorem vr_rows {L l : List Nat} {f : Nat → va_E} {e : va_E} (h : ∀ a, a ∈ l → a ∉ L) : va_pl L f ++ l.map (fun a => (a, e)) = va_pl (L ++ l) (vr_up f l e) := by
  unfold va_pl
  rw [List.map_append]
  congr 1
  · apply List.map_congr_left
    intro a ha
    rw [vr_up_ne (fun q => h a q ha)]
  · apply List.map_congr_left
    intro a ha
    rw [vr_up_in ha]
theorem vr_lay {X rows : va_W} {x : Nat × va_E} {pl : va_W} {D : va_G} {cl : List vw_C} {H : Heap} (hP : va_P D cl (((X ++ pl) ++ [x]) ++ rows) H) : va_P D cl ((X ++ [x]) ++ (pl ++ rows)) H := by
  rw [List.append_assoc (X ++ pl)] at hP
  have h := va_P.swap hP
  rw [← List.append_assoc X] at h
  have h2 := va_P.swap h
  rw [List.append_assoc (X ++ [x])] at h2
  exact h2
theorem vr_layD {X rows : va_W} {x : Nat × va_E} {pl : va_W} {A : Nat → Prop} (hD : va_D A (((X ++ pl) ++ [x]) ++ rows)) : va_D A ((X ++ [x]) ++ (pl ++ rows)) := by
  rw [List.append_assoc (X ++ pl)] at hD
  have h := va_D.swap hD
  rw [← List.append_assoc X] at h
  have h2 := va_D.swap h
  rw [List.append_assoc (X ++ [x])] at h2
  exact h2
theorem vr_outer (c : ClassId) (N h0 : Nat) : ∀ i : Nat, Jvm.Free.Multi.outerC c N h0 i = arrV c N (fun j => va_rf (if j < i then some (h0 + 1 + j) else none))
  | 0 => by
    show ({ cls := c, slots := Array.replicate N .null, vm := .none } : Cell) = _
    rw [arrV_new]
    refine congrArg (arrV c N) (funext fun j => ?_)
    simp [va_rf]
  | i + 1 => by
    show (Jvm.Free.Multi.outerC c N h0 i).setSlot i (.ref (h0 + 1 + i)) = _
    rw [vr_outer c N h0 i, arrV_store]
    refine congrArg (arrV c N) (funext fun j => ?_)
    by_cases e : j = i
    · subst e
      simp [updV, va_rf]
    · by_cases h : j < i
      · simp [updV, e, h, Nat.lt_succ_of_lt h]
      · simp [updV, e, h, show ¬ j < i + 1 by omega]
section VGM
variable {p : Program} {l : Launch} {e : Env} {R : Room} {s : State} {m : MethodId} {args : Array Value} {below : List Frame} {meth : Method} {c : Code} {H : Heap} {locs : List Loc} {cells slots : Nat} {Q : State → Prop}
variable {cc : ByteArray} {pc : Nat} {ls : Array Slot} {rest : List Value} {D : va_G} {cl : List vw_C} {A : Nat → Prop} {a : Nat} {tys : List (ClassId × FieldType)} {ws : va_W} {H0 : Heap}
theorem va_mna {X : va_W} {L : List Nat} {f : Nat → va_E} {cc : ByteArray} (hexec : p.tables.exec = Jvm.exec) (hb : c.code = cc) {own : String} {index : Nat} {ty : FieldType} {cy : ClassId} (hown : s.vm.findClass own = some m.cls) (hclink : (Cond.classLink own index ("[" ++ (FieldType.array ty).toString)).before args s = true) (hover : va_AOA ty s) (harr : (Cond.arrayClass ty).before args s = true) (hcy : s.vm.findClass (FieldType.array ty).toString = some cy)
    (hK : va_K D cl tys s) (hP : va_P D cl (X ++ va_pl L f) H) (hD : va_D A (X ++ va_pl L f)) (hS : va_S A H0 H locs) (hA : ∀ q, H0.size ≤ q → A q) {n k : Int32} {N' K' : Nat} {z : vp_A} (hn : ¬ n < 0) (hk : ¬ k < 0) (hN : n.toNatClampNeg = N') (hM : k.toNatClampNeg = K')
    (hb1 : N' * 4 ≤ 536870912) (hb2 : K' * componentBytes ty ≤ 536870912) (hb3 : K' ≤ 536870912) (hdf : fits ty (defaultValue ty) = true) (hdd : (defaultValue ty).isDefault = true) (hcells : cells + (1 + N') ≤ R.cells) (hslots : slots + (N' + N' * K') ≤ R.slots) (hz : ∀ c : ClassId, Jvm.Free.Multi.innerC c K' (defaultValue ty) = vp_cell c z) (hdg : decode cc pc = .ok (.multianewarray index 2, 4))
    (kk : ∀ (q : Nat) (r : Nat → Nat) (cA : ClassId) (H1 : Heap), (∀ i j : Nat, i < N' → j < N' → r i = r j → i = j) → (∀ i : Nat, i < N' → r i ∉ L) → va_K D cl (tys ++ [(cA, .array ty)]) s →
      va_P D cl ((X ++ [(q, .inl (cA, N', .inr (.inr (.inr (.inr (fun i => if i < N' then some (r i) else none))))))]) ++ va_pl (L ++ (List.range N').map r) (vr_up f ((List.range N').map r) (.inl (cy, z)))) H1 → va_D A ((X ++ [(q, .inl (cA, N', .inr (.inr (.inr (.inr (fun i => if i < N' then some (r i) else none))))))]) ++ va_pl (L ++ (List.range N').map r) (vr_up f ((List.range N').map r) (.inl (cy, z)))) → va_S A H0 H1 locs →
      W p l e R s m args below meth c H1 locs (cells + 1 + N') (slots + N' + N' * K') Q (F0 m (pc + 4) ls (.ref q :: rest))) : W p l e R s m args below meth c H locs cells slots Q (F0 m pc ls (.int k :: .int n :: rest)) := by
  subst hN
  subst hM
  intro T hT Xs
  obtain ⟨vm₁, cA, comp, -, fA, fC, hO, -, X', step⟩ := Xs.multianewarray2F hexec hown hclink (va_AOA.use hover) harr (g := F0 m pc ls (.int k :: .int n :: rest)) rfl (by rw [hb]; exact hdg) rfl hn hk hb1 hb2 hb3 hdf hdd hcells hslots
  have ec : some cy = some comp := hcy.symm.trans fC
  cases ec
  generalize hF : Jvm.Free.Multi.fill (T.setVm vm₁) cA cy n.toNatClampNeg k.toNatClampNeg (defaultValue ty) n.toNatClampNeg = F at X' step
  have hTh : (T.setVm vm₁).heap = H := hT
  obtain ⟨f1, f2, -, -⟩ := Jvm.Free.Multi.fill_facts (T.setVm vm₁) cA cy n.toNatClampNeg k.toNatClampNeg (defaultValue ty) n.toNatClampNeg
  rw [hF, hTh] at f1 f2
  have hold : ∀ x : Nat, x < H.size → F.heap[x]? = H[x]? := fun x hx => by
    have := Jvm.Free.Multi.fill_old (T.setVm vm₁) cA cy n.toNatClampNeg k.toNatClampNeg (defaultValue ty) (a := x) (by rw [hTh]; exact hx) n.toNatClampNeg
    rw [hF, hTh] at this
    exact this
  have hrow : ∀ j : Nat, j < n.toNatClampNeg → F.heap[H.size + 1 + j]? = some (vp_cell cy z) := fun j hj => by
    have := Jvm.Free.Multi.fill_inner (T.setVm vm₁) cA cy n.toNatClampNeg k.toNatClampNeg (defaultValue ty) n.toNatClampNeg j hj
    rw [hF, hTh, hz] at this
    exact this
  have hout : Jvm.Free.Multi.outerC cA n.toNatClampNeg H.size n.toNatClampNeg = vp_cell cA (n.toNatClampNeg, .inr (.inr (.inr (.inr (fun i => if i < n.toNatClampNeg then some (H.size + 1 + i) else none))))) := by
    rw [vp_cell_q]
    exact vr_outer cA n.toNatClampNeg H.size n.toNatClampNeg
  rw [hout] at f2
  have hlt : ∀ a, a ∈ L → a < H.size := fun a ha => by
    obtain ⟨k9, hk9⟩ := va_pl_get (X := X) (f := f) ha
    exact (hP k9 _ hk9).lt
  have hnl : ∀ i : Nat, i < n.toNatClampNeg → H.size + 1 + i ∉ L := fun i _ h => by
    have := hlt _ h
    omega
  have hnm : ∀ a, a ∈ (List.range n.toNatClampNeg).map (fun i => H.size + 1 + i) → a ∉ L := fun a ha h => by
    obtain ⟨i, -, rfl⟩ := List.mem_map.mp ha
    have := hlt _ h
    omega
  have hP0 : va_P D cl (X ++ va_pl L f) F.heap := hP.kept (fun k9 x hx => hold x.1 ((hP k9 x hx).lt))
  have hP1 : va_P D cl ((X ++ va_pl L f) ++ [(H.size, .inl (cA, n.toNatClampNeg, .inr (.inr (.inr (.inr (fun i => if i < n.toNatClampNeg then some (H.size + 1 + i) else none))))))]) F.heap := hP0.app (fun k9 x hx => by
    have h0 : k9 < 1 := (List.getElem?_eq_some_iff.mp hx).1
    rw [show k9 = 0 by omega] at hx
    cases hx
    exact f2)
  have hP2 : va_P D cl (((X ++ va_pl L f) ++ [(H.size, .inl (cA, n.toNatClampNeg, .inr (.inr (.inr (.inr (fun i => if i < n.toNatClampNeg then some (H.size + 1 + i) else none))))))]) ++ ((List.range n.toNatClampNeg).map (fun i => H.size + 1 + i)).map (fun a => (a, .inl (cy, z)))) F.heap := hP1.app (fun k9 x hx => by
    obtain ⟨a, ha, rfl⟩ := List.mem_map.mp (List.mem_of_getElem? hx)
    obtain ⟨i, hi, rfl⟩ := List.mem_map.mp ha
    exact hrow i (List.mem_range.mp hi))
  have hD2 : va_D A (((X ++ va_pl L f) ++ [(H.size, .inl (cA, n.toNatClampNeg, .inr (.inr (.inr (.inr (fun i => if i < n.toNatClampNeg then some (H.size + 1 + i) else none))))))]) ++ ((List.range n.toNatClampNeg).map (fun i => H.size + 1 + i)).map (fun a => (a, .inl (cy, z)))) := by
    have hD1 := hD.push (e := .inl (cA, n.toNatClampNeg, .inr (.inr (.inr (.inr (fun i => if i < n.toNatClampNeg then some (H.size + 1 + i) else none)))))) hP rfl (hA _ hS.1)
    generalize hW1 : (X ++ va_pl L f) ++ [(H.size, .inl (cA, n.toNatClampNeg, .inr (.inr (.inr (.inr (fun i => if i < n.toNatClampNeg then some (H.size + 1 + i) else none))))))] = W1 at hD1 hP1 ⊢
    have hle : ∀ (k9 : Nat) (x : Nat × va_E), W1[k9]? = some x → x.1 ≤ H.size := fun k9 x hx => by
      rw [← hW1] at hx
      by_cases hl : k9 < (X ++ va_pl L f).length
      · rw [List.getElem?_append_left hl] at hx
        exact Nat.le_of_lt ((hP k9 x hx).lt)
      · rw [List.getElem?_append_right (by omega)] at hx
        have h0 : k9 - (X ++ va_pl L f).length < 1 := (List.getElem?_eq_some_iff.mp hx).1
        rw [show k9 - (X ++ va_pl L f).length = 0 by omega] at hx
        cases hx
        exact Nat.le_refl _
    have hr : ∀ (k9 : Nat) (x : Nat × va_E), (((List.range n.toNatClampNeg).map (fun i => H.size + 1 + i)).map (fun a => ((a, .inl (cy, z)) : Nat × va_E)))[k9]? = some x → x.1 = H.size + 1 + k9 := fun k9 x hx => by
      rw [List.getElem?_map, List.getElem?_map] at hx
      by_cases h9 : k9 < n.toNatClampNeg
      · rw [List.getElem?_range h9] at hx
        cases hx
        rfl
      · have hn0 : (List.range n.toNatClampNeg)[k9]? = none := List.getElem?_eq_none (by rw [List.length_range]; omega)
        rw [hn0] at hx
        cases hx
    refine ⟨fun i j x y hi hj hxy => ?_, fun k9 x hx => ?_⟩
    · by_cases h1 : i < W1.length <;> by_cases h2 : j < W1.length
      · rw [List.getElem?_append_left h1] at hi
        rw [List.getElem?_append_left h2] at hj
        exact hD1.1 i j x y hi hj hxy
      · rw [List.getElem?_append_left h1] at hi
        rw [List.getElem?_append_right (by omega)] at hj
        have := hle _ _ hi
        have := hr _ _ hj
        omega
      · rw [List.getElem?_append_right (by omega)] at hi
        rw [List.getElem?_append_left h2] at hj
        have := hle _ _ hj
        have := hr _ _ hi
        omega
      · rw [List.getElem?_append_right (by omega)] at hi hj
        have := hr _ _ hi
        have := hr _ _ hj
        omega
    · by_cases h1 : k9 < W1.length
      · rw [List.getElem?_append_left h1] at hx
        exact hD1.2 k9 x hx
      · rw [List.getElem?_append_right (by omega)] at hx
        have := hr _ _ hx
        exact hA _ (by have := hS.1; omega)
  have hAr : ArrOfT s cA (.array ty) := fun N9 z9 => by
    obtain ⟨-, k9, hk9, cm9, hkk9⟩ := (hO 0 0 0).1
    exact ⟨(fun q hq => by cases hq), k9, hk9, cm9, hkk9⟩
  have hK2 : va_K D cl (tys ++ [(cA, .array ty)]) s := ⟨hK.1, fun k9 x hx => by
    by_cases hl : k9 < tys.length
    · rw [List.getElem?_append_left hl] at hx
      exact hK.2 k9 x hx
    · rw [List.getElem?_append_right (by omega)] at hx
      have h0 : k9 - tys.length < 1 := (List.getElem?_eq_some_iff.mp hx).1
      rw [show k9 - tys.length = 0 by omega] at hx
      cases hx
      exact ⟨hAr, fA⟩⟩
  obtain ⟨t, a1, b1⟩ := kk H.size (fun i => H.size + 1 + i) cA F.heap (fun i j _ _ h => by have h9 : H.size + 1 + i = H.size + 1 + j := h; omega) hnl hK2 (by rw [← vr_rows hnm]; exact vr_lay hP2) (by rw [← vr_rows hnm]; exact vr_layD hD2) ⟨by rw [f1]; have := hS.1; omega, fun x h1 h2 => (hold x (Nat.lt_of_lt_of_le h1 hS.1)).trans (hS.2.1 x h1 h2), hS.2.2⟩ F rfl X'
  refine ⟨t, step t ?_, b1⟩
  have e : T.heap.size = H.size := by rw [hT]
  rw [e]
  exact a1
end VGM
/-! ===== END ===== -/

/-! ===== BEGIN exceptions that leave a method, and their catching by the caller (launches without stack traces) ===== -/
section VXA
/-! The laws vx_back, vx_callV, vx_callS, vx_callSW, vx_throw0, vx_throwS follow proofs of the library, with one case more: JvmDerived/Free/Laws.lean (Back.of_free), Shelf42/LK1.lean (callV, callS), Shelf/KitTraced.lean (throwNew0V, throwNewS). -/
/-- where a method has thrown q: the class by its name, the cell, what was written, the world -/
def vx_T (XC : String → State → State → Prop) (st : State) (q : Addr) (t : State) (mc ms : Nat) (free : Addr → Prop) : Prop :=
  ∃ (E : String) (ce : Cell) (L : List Loc), XC E st t ∧ t.heap[q]? = some ce ∧ ce.vm = .none ∧ st.vm.findClass E = some ce.cls ∧ st.WarmedH t.vm ∧ st.sameButNew ({ t with vm := st.vm } : State) L mc ms ∧ ∀ z ∈ L, free z.base
def vx_Q (Qc : Array Value → State → Outcome → State → Prop) (XC : String → State → State → Prop) (mc ms : Nat) (free : Addr → Prop) : Array Value → State → Outcome → State → Prop := fun a st o t =>
  (Qc a st o t ∧ ∃ L, FrameEnd st o t L mc ms ∧ ∀ q ∈ L, free q.base) ∨ ∃ q, o = .threw q ∧ vx_T XC st q t mc ms free
/-- a callee that returns or throws -/
def vx_Met (l : Launch) (y : MethodName) (ws : List Cond) (rm : Room) (Pc : Array Value → State → Prop) (Qc : Array Value → State → Outcome → State → Prop) (XC : String → State → State → Prop) (mc ms : Nat) (free : Addr → Prop) : Prop :=
  MetFree l y (headSpec ws rm) Pc (fun _ _ _ _ _ => True) (vx_Q Qc XC mc ms free)
def vx_Post (XC : String → State → State → Prop) (mc ms : Nat) (free : Addr → Prop) : Pt → Array Value → Addr → Pt → Prop := fun A a q B =>
  ∃ (g : JFrame) (mk : MethodId) (t : State) (L : List Loc) (E : String) (ce : Cell), B.U.heap = t.heap ∧ B.U.vm = t.vm ∧ XC E (A.U.calling g mk a) t ∧ t.heap[q]? = some ce ∧ ce.vm = .none ∧ A.U.vm.findClass E = some ce.cls ∧ B.locs = A.locs ++ L ∧ (∀ z ∈ L, free z.base) ∧ B.cells = A.cells + mc ∧ B.slots = A.slots + ms
def vx_Back (l : Launch) (R : Room) (p : Program) (e : Env) (below : List Frame) (s : State) (sargs : Array Value) (y : MethodName) (len W9 : Nat)
    (Pre : Pt → Array Value → Prop) (Post : Pt → Array Value → Option Value → Pt → Prop) (PostX : Pt → Array Value → Addr → Pt → Prop) : Prop :=
  ∀ (m : MethodId) (meth : Method) (c : Code) (A : Pt) (g : JFrame) (ig : Instr) (mk : MethodId) (a : Array Value),
    Stand p l e R s m sargs below meth c A.U A.locs A.cells A.slots → g.method = m → g.locals.size = c.maxLocals → decode c.code g.pc = .ok (ig, len) →
    2 * g.monitorRoom + (g.stack.map fun v => v.category).sum ≤ W9 → A.U.methodNamed? y = some mk → Pre A a →
    (∃ (v : Option Value) (B : Pt), Stand p l e R s m sargs below meth c B.U B.locs B.cells B.slots ∧ Post A a v B ∧
      Steps p.tables e below (doInvoke e (A.U.setTop g) [] mk a).1 (B.U.setTop { g with pc := g.pc + len, stack := v.toList ++ g.stack })) ∨
    (∃ (q : Addr) (B : Pt), Stand p l e R s m sargs below meth c B.U B.locs B.cells B.slots ∧ PostX A a q B ∧
      Steps p.tables e below (doInvoke e (A.U.setTop g) [] mk a).1 ((B.U.setTop g).pushFrame (.throwing q)))
section Payer
variable {l : Launch} {R : Room} {p : Program} {e : Env} {below : List Frame} {s : State} {sargs : Array Value} {y : MethodName} {len W9 : Nat}
theorem vx_back {ws : List Cond} {rm : Room} {Pc : Array Value → State → Prop} {Qc : Array Value → State → Outcome → State → Prop} {XC : String → State → State → Prop} {mc ms : Nat} {free : Addr → Prop} {bytes : ByteArray} {maxL : Nat} {ret : Option FieldType}
    (hM : vx_Met l y ws rm Pc Qc XC mc ms free) (hblind : FrameBlind Pc) (hrc : rm.cells = mc) (hrs : rm.slots = ms)
    (hframes : rm.frames + 1 ≤ R.frames) (hlocals : W9 + (maxL + 11) + rm.locals ≤ R.locals)
    (hws : ∀ w ∈ ws, ∀ a' U, s.WarmedH U.vm → w.before a' U = true) (hcode : Cond.code y bytes maxL ret ∈ ws) (hinit : ∀ a' U, s.WarmedH U.vm → (Cond.initialized y.cls).before a' U = true) :
    vx_Back l R p e below s sargs y len W9 (PreOf R mc ms Pc) (PostOf Qc mc ms free) (vx_Post XC mc ms free) := by
  intro m meth c A g ig mk a X hg hsize hdg hW hn hp
  have h1 : (headSpec ws rm).pre.before a A.U = true := atoms_intro fun w hw => hws w hw _ _ X.warmed
  have h2 : (Cond.code y bytes maxL ret).before a A.U = true := hws _ hcode _ _ X.warmed
  have h3 : (Cond.initialized y.cls).before a A.U = true := hinit _ _ X.warmed
  have h4 : A.cells + (headSpec ws rm).room.cells ≤ R.cells := by rw [show (headSpec ws rm).room.cells = mc from hrc]; exact hp.1
  have h5 : A.slots + (headSpec ws rm).room.slots ≤ R.slots := by rw [show (headSpec ws rm).room.slots = ms from hrs]; exact hp.2.1
  have hPc : Pc a (A.U.calling g mk a) := hblind _ _ _ _ hp.2.2
  obtain ⟨U, Ls, c0, s0⟩ := A
  dsimp only [Pt.U, Pt.locs, Pt.cells, Pt.slots] at h1 h2 h3 h4 h5 X hn hPc ⊢
  obtain ⟨methY, cY, hmY, hcY, -, hlY, -, -, -, -⟩ := Cond.code_spec hn h2
  obtain ⟨kY, hkY, -⟩ := className_of_methodNamed hn
  have hinitY : kY.init = .initialized := Cond.initialized_spec (findClass_of_methodNamed hn) hkY h3
  have h : At U g.method c below := by rw [hg]; exact X.here
  have hlocals9 : W9 + (maxL + 11) + (headSpec ws rm).room.locals ≤ R.locals := hlocals
  have happ : (headSpec ws rm).appliesLoose y e.platform (U.calling g mk a) = true :=
    Spec.appliesLoose_calling (g := g) h hdg hn hkY hinitY
      (X.room_calling (g := g) (R' := (headSpec ws rm).room) hsize hmY hcY hframes (by rw [hlY]; omega) h4 h5) h1
  obtain ⟨mid, hmid⟩ := h.above
  have hfr : (U.setTop g).frames = (.java g :: mid) ++ below := by rw [State.frames_setTop' g h.top, hmid]; rfl
  obtain ⟨o, s₂, hsteps, -, hend, hq⟩ := Steps.callFree hM p X.admits X.cas X.clock (acts := []) hfr happ hPc trivial
  have hq' : vx_Q Qc XC mc ms free a (U.calling g mk a) o s₂ := hq
  rw [State.frames_setTop' g h.top] at hend
  obtain ⟨g₀, hg0⟩ := Option.isSome_iff_exists.mp h.top
  obtain ⟨r, hr⟩ := State.topJava?_eq_some.mp hg0
  have hr' : (({ U with heap := s₂.heap, slotsUsed := s₂.slotsUsed } : State).setVm s₂.vm).frames = .java g₀ :: r := hr
  rcases hq' with ⟨hqc, L, hfe, hL⟩ | ⟨q, rfl, E, ce, L, hx, hce, hcv, hcl, hW₂, hsm, hL⟩
  · obtain ⟨⟨v, rfl⟩, hW₂, e2, q2, q3, q4, q5, q6⟩ := id hfe
    have e3 : s₂ = ({ (U.calling g mk a).setFrames s₂.frames with heap := s₂.heap, slotsUsed := s₂.slotsUsed } : State).setVm s₂.vm := by
      have : s₂ = ({ s₂ with vm := (U.calling g mk a).vm } : State).setVm s₂.vm := rfl
      rw [e2] at this
      exact this
    obtain ⟨c₂, i₂, len₂, hc₂, hd₂, hf₂⟩ := hend
    have hW' : U.WarmedH s₂.vm := hW₂
    have hcc : c₂ = c := by
      have h1 : s₂.code? g.method = U.code? g.method := by
        rw [State.code?_eq, State.code?_eq, hW'.alike.method?]
      exact Option.some.inj (hc₂.symm.trans (h1.trans h.code))
    subst hcc
    have hlen : len₂ = len := by rw [hdg] at hd₂; cases hd₂; rfl
    subst hlen
    have hs₂ : s₂ = (({ U with heap := s₂.heap, slotsUsed := s₂.slotsUsed } : State).setVm s₂.vm).setTop { g with pc := g.pc + len₂, stack := v.toList ++ g.stack } := by
      refine e3.trans ?_
      rw [hf₂, State.calling_eq h.top, State.setFrames_setFrames, State.setTop_of_frames _ hr', hr]
      rfl
    have hsame : U.sameButNew ({ U with heap := s₂.heap, slotsUsed := s₂.slotsUsed } : State) L mc ms := by
      refine ⟨?_, q2, q3, q4, q5, q6⟩
      obtain ⟨t, ht, -⟩ := State.frames_cons hr
      show ({ U with heap := s₂.heap, slotsUsed := s₂.slotsUsed } : State) = { U.setFrames U.frames with heap := s₂.heap, slotsUsed := s₂.slotsUsed }
      rw [State.setFrames_self ht]
    subst hg
    refine Or.inl ⟨v, ⟨(({ U with heap := s₂.heap, slotsUsed := s₂.slotsUsed } : State).setVm s₂.vm), Ls ++ L, c0 + mc, s0 + ms⟩,
      ⟨X.admits, X.cas, X.clock, X.frames, X.room, X.hears, X.method, X.code, (X.here.setHeapUsed s₂.heap s₂.slotsUsed).setVm hW'.alike, X.tail, State.WarmedH.trans X.warmed hW', X.limits, X.bytes, X.same.trans (hsame.setVm s.vm)⟩,
      ⟨g, mk, s₂, L, rfl, rfl, hqc, rfl, hL, rfl, rfl⟩, ?_⟩
    show Steps p.tables e below _ ((({ U with heap := s₂.heap, slotsUsed := s₂.slotsUsed } : State).setVm s₂.vm).setTop { g with pc := g.pc + len₂, stack := v.toList ++ g.stack })
    rw [← hs₂]
    exact hsteps
  · obtain ⟨e2, q2, q3, q4, q5, q6⟩ := id hsm
    have e3 : s₂ = ({ (U.calling g mk a).setFrames s₂.frames with heap := s₂.heap, slotsUsed := s₂.slotsUsed } : State).setVm s₂.vm := by
      have : s₂ = ({ s₂ with vm := (U.calling g mk a).vm } : State).setVm s₂.vm := rfl
      rw [e2] at this
      exact this
    have hf₂ : s₂.frames = .throwing q :: .java g :: U.frames.tail := hend
    have hW' : U.WarmedH s₂.vm := hW₂
    have hs₂ : s₂ = ((({ U with heap := s₂.heap, slotsUsed := s₂.slotsUsed } : State).setVm s₂.vm).setTop g).pushFrame (.throwing q) := by
      refine e3.trans ?_
      rw [hf₂, State.calling_eq h.top, State.setFrames_setFrames, State.pushFrame, State.frames_setTop _ hr', State.setTop_of_frames _ hr', State.setFrames_setFrames, hr]
      rfl
    have hsame : U.sameButNew ({ U with heap := s₂.heap, slotsUsed := s₂.slotsUsed } : State) L mc ms := by
      refine ⟨?_, q2, q3, q4, q5, q6⟩
      obtain ⟨t, ht, -⟩ := State.frames_cons hr
      show ({ U with heap := s₂.heap, slotsUsed := s₂.slotsUsed } : State) = { U.setFrames U.frames with heap := s₂.heap, slotsUsed := s₂.slotsUsed }
      rw [State.setFrames_self ht]
    subst hg
    refine Or.inr ⟨q, ⟨(({ U with heap := s₂.heap, slotsUsed := s₂.slotsUsed } : State).setVm s₂.vm), Ls ++ L, c0 + mc, s0 + ms⟩,
      ⟨X.admits, X.cas, X.clock, X.frames, X.room, X.hears, X.method, X.code, (X.here.setHeapUsed s₂.heap s₂.slotsUsed).setVm hW'.alike, X.tail, State.WarmedH.trans X.warmed hW', X.limits, X.bytes, X.same.trans (hsame.setVm s.vm)⟩,
      ⟨g, mk, s₂, L, E, ce, rfl, rfl, hx, hce, hcv, hcl, rfl, hL, rfl, rfl⟩, ?_⟩
    show Steps p.tables e below _ (((({ U with heap := s₂.heap, slotsUsed := s₂.slotsUsed } : State).setVm s₂.vm).setTop g).pushFrame (.throwing q))
    rw [← hs₂]
    exact hsteps
end Payer
section Calls
variable {p : Program} {l : Launch} {e : Env} {R : Room} {s : State} {m : MethodId} {args : Array Value} {below : List Frame} {meth : Method} {c : Code} {T : State} {locs : List Loc} {cells slots : Nat}
theorem vx_callV (X : Stand p l e R s m args below meth c T locs cells slots) (hexec : p.tables.exec = Jvm.exec) {own C : String} {index : Nat} {y : MethodName} {bytes : ByteArray} {maxL : Nat} {ret : Option FieldType}
    (hown : s.vm.findClass own = some m.cls) (hlink : (Cond.methodLink own index y).before args s = true) (hinst : (Cond.instanceMethod y).before args s = true) (hsel : (Cond.selects C y y).before args s = true)
    (hcode : (Cond.code y bytes maxL ret).before args s = true) (hy : y.cls ≠ "java/lang/invoke/MethodHandle" ∧ y.cls ≠ "java/lang/invoke/VarHandle")
    {W9 : Nat} {Pre : Pt → Array Value → Prop} {Post : Pt → Array Value → Option Value → Pt → Prop} {PostX : Pt → Array Value → Addr → Pt → Prop} (hK : vx_Back l R p e below s args y 3 W9 Pre Post PostX)
    {b : Addr} {cellB : Cell} (hcell : T.heap[b]? = some cellB) (hobj : cellB.vm.isStatics = false) (hcls : s.vm.findClass C = some cellB.cls)
    {g : JFrame} (hg : g.method = m) (hsize : g.locals.size = c.maxLocals) {argsL rest : List Value} (hlen : ∀ sig, parseMethodDescriptor y.desc = some sig → argsL.length = sig.parameters.length)
    (hstack : g.stack = argsL.reverse ++ .ref b :: rest) (hW : 2 * g.monitorRoom + (rest.map fun v => v.category).sum ≤ W9) (hdg : decode c.code g.pc = .ok (.invokevirtual index, 3))
    (hpre : ∀ vm₁, s.WarmedH vm₁ → Pre ⟨T.setVm vm₁, locs, cells, slots⟩ (Value.ref b :: argsL).toArray) :
    (∃ (v : Option Value) (vm₁ : Vm) (B : Pt), s.WarmedH vm₁ ∧ Stand p l e R s m args below meth c B.U B.locs B.cells B.slots ∧ Post ⟨T.setVm vm₁, locs, cells, slots⟩ (Value.ref b :: argsL).toArray v B ∧
      ∀ target, Steps p.tables e below (B.U.setTop { g with pc := g.pc + 3, stack := v.toList ++ rest }) target → Steps p.tables e below (T.setTop g) target) ∨
    (∃ (q : Addr) (vm₁ : Vm) (B : Pt), s.WarmedH vm₁ ∧ Stand p l e R s m args below meth c B.U B.locs B.cells B.slots ∧ PostX ⟨T.setVm vm₁, locs, cells, slots⟩ (Value.ref b :: argsL).toArray q B ∧
      Steps p.tables e below (T.setTop g) ((B.U.setTop { g with stack := rest }).pushFrame (.throwing q))) := by
  obtain ⟨mk, methM, hnamed, hmethM, hstM, habM⟩ := Cond.instanceMethod_spec hinst
  obtain ⟨methM', cM, hmethM', -, -, -, -, -, -, hsigM⟩ := Cond.code_spec hnamed hcode
  cases hmethM.symm.trans hmethM'
  obtain ⟨c2, r2, m2, q1, q2, q3, q4, kP, hkP, hkPi⟩ := Cond.selects_spec hsel
  cases hcls.symm.trans q1
  cases (State.methodFound?_of_named hnamed hy).symm.trans q2
  cases hnamed.symm.trans q3
  have hselP : selectMethod e.platform s.vm cellB.cls mk = .method mk := by rw [Launch.admits_selectMethod X.admits]; exact q4
  obtain ⟨vm₁, X₁, hstep₁⟩ := X.invokevirtual hexec hown hlink hnamed hmethM hstM hkP hkPi hy (a := b) (cell := cellB) hcell
    (fun z h => by rw [h] at hobj; cases hobj) hselP hmethM habM hkP hkPi (g := g) hg (argsL := argsL) (rest := rest) (hlen _ hsigM) hstack hdg
  rcases hK m meth c ⟨T.setVm vm₁, locs, cells, slots⟩ { g with stack := rest } (.invokevirtual index) mk (Value.ref b :: argsL).toArray X₁ hg hsize hdg hW (X₁.named hnamed) (hpre vm₁ X₁.warmed) with ⟨v, B, X', hpost, hsteps⟩ | ⟨q, B, X', hpost, hsteps⟩
  · exact Or.inl ⟨v, vm₁, B, X₁.warmed, X', hpost, fun target h => hstep₁ _ fun acts => by rw [doInvoke_state]; exact hsteps.trans h⟩
  · exact Or.inr ⟨q, vm₁, B, X₁.warmed, X', hpost, hstep₁ _ fun acts => by rw [doInvoke_state]; exact hsteps⟩
theorem vx_callS (X : Stand p l e R s m args below meth c T locs cells slots) (hexec : p.tables.exec = Jvm.exec) {own : String} {index : Nat} {y : MethodName} {bytes : ByteArray} {maxL : Nat} {ret : Option FieldType}
    (hown : s.vm.findClass own = some m.cls) (hlink : (Cond.methodLink own index y).before args s = true) (hstat : (Cond.static y).before args s = true) (hinit : (Cond.initialized y.cls).before args s = true)
    (hcode : (Cond.code y bytes maxL ret).before args s = true) (hy : y.cls ≠ "java/lang/invoke/MethodHandle" ∧ y.cls ≠ "java/lang/invoke/VarHandle")
    {W9 : Nat} {Pre : Pt → Array Value → Prop} {Post : Pt → Array Value → Option Value → Pt → Prop} {PostX : Pt → Array Value → Addr → Pt → Prop} (hK : vx_Back l R p e below s args y 3 W9 Pre Post PostX)
    {g : JFrame} (hg : g.method = m) (hsize : g.locals.size = c.maxLocals) {argsL rest : List Value} (hlen : ∀ sig, parseMethodDescriptor y.desc = some sig → argsL.length = sig.parameters.length)
    (hstack : g.stack = argsL.reverse ++ rest) (hW : 2 * g.monitorRoom + (rest.map fun v => v.category).sum ≤ W9) (hdg : decode c.code g.pc = .ok (.invokestatic index, 3))
    (hpre : ∀ vm₁, s.WarmedH vm₁ → Pre ⟨T.setVm vm₁, locs, cells, slots⟩ argsL.toArray) :
    (∃ (v : Option Value) (vm₁ : Vm) (B : Pt), s.WarmedH vm₁ ∧ Stand p l e R s m args below meth c B.U B.locs B.cells B.slots ∧ Post ⟨T.setVm vm₁, locs, cells, slots⟩ argsL.toArray v B ∧
      ∀ target, Steps p.tables e below (B.U.setTop { g with pc := g.pc + 3, stack := v.toList ++ rest }) target → Steps p.tables e below (T.setTop g) target) ∨
    (∃ (q : Addr) (vm₁ : Vm) (B : Pt), s.WarmedH vm₁ ∧ Stand p l e R s m args below meth c B.U B.locs B.cells B.slots ∧ PostX ⟨T.setVm vm₁, locs, cells, slots⟩ argsL.toArray q B ∧
      Steps p.tables e below (T.setTop g) ((B.U.setTop { g with stack := rest }).pushFrame (.throwing q))) := by
  obtain ⟨mk, hnamed⟩ := Cond.code_named hcode
  obtain ⟨methM, cM, hmethM, -, -, -, -, -, -, hsigM⟩ := Cond.code_spec hnamed hcode
  have hstatic : methM.isStatic = true := Cond.static_spec hnamed hmethM hstat
  obtain ⟨kP, hkP, -⟩ := className_of_methodNamed hnamed
  have hinitP : kP.init = .initialized := Cond.initialized_spec (findClass_of_methodNamed hnamed) hkP hinit
  obtain ⟨vm₁, X₁, hstep₁⟩ := X.invokestatic hexec hown hlink hnamed hmethM hstatic hkP hinitP hy (g := g) hg (argsL := argsL) (rest := rest) (hlen _ hsigM) hstack hdg
  rcases hK m meth c ⟨T.setVm vm₁, locs, cells, slots⟩ { g with stack := rest } (.invokestatic index) mk argsL.toArray X₁ hg hsize hdg hW (X₁.named hnamed) (hpre vm₁ X₁.warmed) with ⟨v, B, X', hpost, hsteps⟩ | ⟨q, B, X', hpost, hsteps⟩
  · exact Or.inl ⟨v, vm₁, B, X₁.warmed, X', hpost, fun target h => hstep₁ _ fun acts => by rw [doInvoke_state]; exact hsteps.trans h⟩
  · exact Or.inr ⟨q, vm₁, B, X₁.warmed, X', hpost, hstep₁ _ fun acts => by rw [doInvoke_state]; exact hsteps⟩
end Calls
theorem vx_cls {s : State} {T : State} {vm₁ : Vm} {E : String} {k : ClassId} (hW : s.WarmedH vm₁) (h : (T.setVm vm₁).vm.findClass E = some k) : s.vm.findClass E = some k := by
  have h1 : vm₁.findClass E = some k := h
  rw [hW.alike.findClass] at h1
  exact h1
/-- the method's frame g, with q thrown over it -/
def vx_W (p : Program) (l : Launch) (e : Env) (R : Room) (s : State) (m : MethodId) (args : Array Value) (below : List Frame) (meth : Method) (c : Code) (H : Heap) (locs : List Loc) (cells slots : Nat) (Q : State → Prop) (g : JFrame) (q : Addr) : Prop :=
  ∀ T : State, T.heap = H → Stand p l e R s m args below meth c T locs cells slots → ∃ t, Steps p.tables e below ((T.setTop g).pushFrame (.throwing q)) t ∧ Q t
def vx_Run (p : Program) (l : Launch) (e : Env) (R : Room) (s : State) (m : MethodId) (args : Array Value) (below : List Frame) (meth : Method) (c : Code) (H : Heap) (locs : List Loc) (cells slots mc ms : Nat) (g : JFrame) (rest : List Value) (Qa : State → Outcome → State → Prop) (XC : String → State → State → Prop) (free : Addr → Prop) : Prop :=
  ∀ T : State, T.heap = H → Stand p l e R s m args below meth c T locs cells slots →
    (∃ (v : Option Value) (st₀ t T' : State) (L : List Loc), st₀.heap = H ∧ Stand p l e R s m args below meth c T' (locs ++ L) (cells + mc) (slots + ms) ∧ (∀ q ∈ L, free q.base) ∧ T'.heap = t.heap ∧ T'.vm = t.vm ∧ Qa st₀ (.returned v) t ∧
      Goes p e below T g T' { g with pc := g.pc + 3, stack := v.toList ++ rest }) ∨
    (∃ (q : Addr) (st₀ t T' : State) (L : List Loc) (E : String) (ce : Cell), st₀.heap = H ∧ Stand p l e R s m args below meth c T' (locs ++ L) (cells + mc) (slots + ms) ∧ (∀ z ∈ L, free z.base) ∧ T'.heap = t.heap ∧ T'.vm = t.vm ∧ XC E st₀ t ∧ t.heap[q]? = some ce ∧ ce.vm = .none ∧ s.vm.findClass E = some ce.cls ∧
      Steps p.tables e below (T.setTop g) ((T'.setTop { g with stack := rest }).pushFrame (.throwing q)))
def vx_X {S : Type} (px : S → Prop) (B : String → S → State → Prop) (A : Nat → Prop) : String → State → State → Prop := fun E st t => ∃ u : S, px u ∧ B E u t ∧ va_F A st t
section Runs
variable {p : Program} {l : Launch} {e : Env} {R : Room} {s : State} {m : MethodId} {args : Array Value} {below : List Frame} {meth : Method} {c : Code} {H : Heap} {locs : List Loc} {cells slots : Nat}
variable {y : MethodName} {bytes cc : ByteArray} {maxL nL mc ms n index : Nat} {ret : Option FieldType} {ws : List Cond} {rm : Room} {Pc : Array Value → State → Prop} {Qc : Array Value → State → Outcome → State → Prop} {XC : String → State → State → Prop} {free : Addr → Prop} {Ts : List Cond} {own C : String} {b : Addr} {As rest : List Value} {g : JFrame}
theorem vx_callBack (cb : CallB R s args own index y bytes maxL ret ws rm mc ms n) (hM : vx_Met l y ws rm Pc Qc XC mc ms free) (hbl : FrameBlind Pc) : vx_Back l R p e below s args y 3 8 (PreOf R mc ms Pc) (PostOf Qc mc ms free) (vx_Post XC mc ms free) := by
  obtain ⟨hrc, hrs, hfr, hlo, hws, hcw, -, hini, -⟩ := cb
  exact vx_back (bytes := bytes) (maxL := maxL) (ret := ret) hM hbl hrc hrs hfr hlo hws hcw (fun a' U hW => word_at hW (Or.inl (by first | rfl | simp [Cond.onTables, Cond.keeps, Cond.steady])) hini)
theorem vx_runV (S : CallFix p m c cc nL s args Ts own) (hM : vx_Met l y ws rm Pc Qc XC mc ms free) (cw : CallW R s args own C index y bytes maxL ret ws rm mc ms n) (hp : PreV s H C b Pc As)
    (hg : g.method = m) (hn : As.length = n) (hsize : g.locals.size = nL) (hstack : g.stack = As.reverse ++ .ref b :: rest) (hW : 2 * g.monitorRoom + (rest.map fun v => v.category).sum ≤ 8) (hdg : decode cc g.pc = .ok (.invokevirtual index, 3)) (hf : cells + mc ≤ R.cells ∧ slots + ms ≤ R.slots) :
    vx_Run p l e R s m args below meth c H locs cells slots mc ms g rest (Qc (Value.ref b :: As).toArray) XC free := by
  have hK : vx_Back l R p e below s args y 3 8 (PreOf R mc ms Pc) (PostOf Qc mc ms free) (vx_Post XC mc ms free) := vx_callBack cw.1 hM hp.1
  obtain ⟨⟨-, -, -, -, -, -, hcode, -, hy, hlen, hl⟩, hin, hse⟩ := cw
  obtain ⟨hx, hb, hml, ho, -⟩ := S
  obtain ⟨-, ⟨cellB, hcB, hoB, hclB⟩, hPc⟩ := hp
  intro T hT X
  rcases vx_callV X hx (C := C) (bytes := bytes) (maxL := maxL) (ret := ret) ho hl hin hse hcode hy hK (by rw [hT]; exact hcB) hoB hclB hg (hsize.trans hml.symm) (argsL := As) (rest := rest) (fun sig h => hn.trans (hlen sig h)) hstack hW (by rw [hb]; exact hdg)
    (fun vm₁ hW₁ => ⟨hf.1, hf.2, hPc (T.setVm vm₁) hT hW₁⟩) with ⟨v, vm₁, ⟨U', l2, c2, s2⟩, hW₁, X', ⟨g', mk, t, L, e1, e2, hq, h1, hL, h2, h3⟩, st⟩ | ⟨q, vm₁, ⟨U', l2, c2, s2⟩, hW₁, X', ⟨g', mk, t, L, E, ce, e1, e2, hq, hce, hcv, hcl, h1, hL, h2, h3⟩, st⟩
  · dsimp only [Pt.U, Pt.locs, Pt.cells, Pt.slots] at X' e1 e2 h1 h2 h3 st
    subst h1; subst h2; subst h3
    exact Or.inl ⟨v, (T.setVm vm₁).calling g' mk (Value.ref b :: As).toArray, t, U', L, hT, X', hL, e1, e2, hq, st⟩
  · dsimp only [Pt.U, Pt.locs, Pt.cells, Pt.slots] at X' e1 e2 h1 h2 h3 st hcl
    subst h1; subst h2; subst h3
    exact Or.inr ⟨q, (T.setVm vm₁).calling g' mk (Value.ref b :: As).toArray, t, U', L, E, ce, hT, X', hL, e1, e2, hq, hce, hcv, vx_cls hW₁ hcl, st⟩
theorem vx_runS (S : CallFix p m c cc nL s args Ts own) (hM : vx_Met l y ws rm Pc Qc XC mc ms free) (cw : CallB R s args own index y bytes maxL ret ws rm mc ms n ∧ (Cond.static y).before args s = true) (hp : PreS s H Pc As)
    (hg : g.method = m) (hn : As.length = n) (hsize : g.locals.size = nL) (hstack : g.stack = As.reverse ++ rest) (hW : 2 * g.monitorRoom + (rest.map fun v => v.category).sum ≤ 8) (hdg : decode cc g.pc = .ok (.invokestatic index, 3)) (hf : cells + mc ≤ R.cells ∧ slots + ms ≤ R.slots) :
    vx_Run p l e R s m args below meth c H locs cells slots mc ms g rest (Qc As.toArray) XC free := by
  have hK : vx_Back l R p e below s args y 3 8 (PreOf R mc ms Pc) (PostOf Qc mc ms free) (vx_Post XC mc ms free) := vx_callBack cw.1 hM hp.1
  obtain ⟨⟨-, -, -, -, -, -, hcode, hini, hy, hlen, hl⟩, hstt⟩ := cw
  obtain ⟨hx, hb, hml, ho, -⟩ := S
  intro T hT X
  rcases vx_callS X hx (bytes := bytes) (maxL := maxL) (ret := ret) ho hl hstt hini hcode hy hK hg (hsize.trans hml.symm) (argsL := As) (rest := rest) (fun sig h => hn.trans (hlen sig h)) hstack hW (by rw [hb]; exact hdg)
    (fun vm₁ hW₁ => ⟨hf.1, hf.2, hp.2 (T.setVm vm₁) hT hW₁⟩) with ⟨v, vm₁, ⟨U', l2, c2, s2⟩, hW₁, X', ⟨g', mk, t, L, e1, e2, hq, h1, hL, h2, h3⟩, st⟩ | ⟨q, vm₁, ⟨U', l2, c2, s2⟩, hW₁, X', ⟨g', mk, t, L, E, ce, e1, e2, hq, hce, hcv, hcl, h1, hL, h2, h3⟩, st⟩
  · dsimp only [Pt.U, Pt.locs, Pt.cells, Pt.slots] at X' e1 e2 h1 h2 h3 st
    subst h1; subst h2; subst h3
    exact Or.inl ⟨v, (T.setVm vm₁).calling g' mk As.toArray, t, U', L, hT, X', hL, e1, e2, hq, st⟩
  · dsimp only [Pt.U, Pt.locs, Pt.cells, Pt.slots] at X' e1 e2 h1 h2 h3 st hcl
    subst h1; subst h2; subst h3
    exact Or.inr ⟨q, (T.setVm vm₁).calling g' mk As.toArray, t, U', L, E, ce, hT, X', hL, e1, e2, hq, hce, hcv, vx_cls hW₁ hcl, st⟩
end Runs
section Rows
variable {p : Program} {l : Launch} {e : Env} {R : Room} {s : State} {m : MethodId} {args : Array Value} {below : List Frame} {meth : Method} {c : Code} {H : Heap} {locs : List Loc} {cells slots : Nat} {Q : State → Prop}
variable {mc ms : Nat} {free : Addr → Prop} {A0 A1 : Nat → Prop} {H0 : Heap} {a : Array Value} {pc : Nat} {ls : Array Slot} {st0 rest : List Value}
theorem vx_keep {st₀ t T' : State} {L : List Loc} (h0 : st₀.heap = H) (e1 : T'.heap = t.heap) (hS : va_S A0 H0 H locs) (hA : ∀ q, q < H.size → A1 q → A0 q) (hf : ∀ q, free q → A0 q) (hL : ∀ q ∈ L, free q.base) (hF : va_F A1 st₀ t) :
    H.size ≤ T'.heap.size ∧ (∀ q : Nat, q < H.size → ¬ A1 q → T'.heap[q]? = H[q]?) ∧ va_S A0 H0 T'.heap (locs ++ L) := by
  obtain ⟨hz, hk⟩ := hF
  rw [h0] at hz hk
  exact ⟨by rw [e1]; exact hz, fun q h1 h2 => by rw [e1]; exact hk q h1 h2,
    ⟨Nat.le_trans hS.1 (by rw [e1]; exact hz), fun q h1 h2 => by rw [e1, hk q (Nat.lt_of_lt_of_le h1 hS.1) (fun z => h2 (hA q (Nat.lt_of_lt_of_le h1 hS.1) z))]; exact hS.2.1 q h1 h2, fun q hq => by
      rcases List.mem_append.mp hq with h | h
      · exact hS.2.2 q h
      · exact hf _ (hL q h)⟩⟩
theorem vx_calli {S SX : Type} {post : Int32 → S → Prop} {px : SX → Prop} {B : S → State → Prop} {BX : String → SX → State → Prop} {AX : Nat → Prop} (hr : vx_Run p l e R s m args below meth c H locs cells slots mc ms (F0 m pc ls st0) rest (va_Qi post B A1 a) (vx_X px BX AX) free) (hS : va_S A0 H0 H locs) (hA : ∀ q, q < H.size → A1 q → A0 q) (hf : ∀ q, free q → A0 q) (hAX : ∀ q, q < H.size → AX q → A0 q)
    (kx : ∀ (E : String) (ce : Cell) (q9 : Addr) (u : SX) (t : State) (H1 : Heap) (locs1 : List Loc), t.heap = H1 → s.vm.Alike t.vm → px u → BX E u t → H.size ≤ H1.size → (∀ q : Nat, q < H.size → ¬ AX q → H1[q]? = H[q]?) → va_S A0 H0 H1 locs1 → H1[q9]? = some ce → ce.vm = .none → s.vm.findClass E = some ce.cls → vx_W p l e R s m args below meth c H1 locs1 (cells + mc) (slots + ms) Q (F0 m pc ls rest) q9)
    (kk : ∀ (r : Int32) (u : S) (t : State) (H1 : Heap) (locs1 : List Loc), t.heap = H1 → s.vm.Alike t.vm → post r u → B u t → H.size ≤ H1.size → (∀ q : Nat, q < H.size → ¬ A1 q → H1[q]? = H[q]?) → va_S A0 H0 H1 locs1 → W p l e R s m args below meth c H1 locs1 (cells + mc) (slots + ms) Q (F0 m (pc + 3) ls (.int r :: rest))) : W p l e R s m args below meth c H locs cells slots Q (F0 m pc ls st0) := by
  intro T hT X
  rcases hr T hT X with ⟨v, st₀, t, T', L, h0, X', hL, e1, e2, ⟨⟨r, u, hv, hp, hb⟩, hF⟩, st⟩ | ⟨q, st₀, t, T', L, E, ce, h0, X', hL, e1, e2, ⟨u, hp, hb, hF⟩, hce, hcv, hcl, st⟩
  · cases hv
    obtain ⟨k1, k2, k3⟩ := vx_keep h0 e1 hS hA hf hL hF
    obtain ⟨t2, a1, b1⟩ := kk r u t T'.heap (locs ++ L) e1.symm (by rw [← e2]; exact X'.warmed.alike) hp hb k1 k2 k3 T' rfl X'
    exact ⟨t2, st t2 a1, b1⟩
  · obtain ⟨k1, k2, k3⟩ := vx_keep h0 e1 hS hAX hf hL hF
    obtain ⟨t2, a1, b1⟩ := kx E ce q u t T'.heap (locs ++ L) e1.symm (by rw [← e2]; exact X'.warmed.alike) hp hb k1 k2 k3 (by rw [e1]; exact hce) hcv hcl T' rfl X'
    exact ⟨t2, st.trans a1, b1⟩
theorem vx_calll {S SX : Type} {post : Int64 → S → Prop} {px : SX → Prop} {B : S → State → Prop} {BX : String → SX → State → Prop} {AX : Nat → Prop} (hr : vx_Run p l e R s m args below meth c H locs cells slots mc ms (F0 m pc ls st0) rest (va_Ql post B A1 a) (vx_X px BX AX) free) (hS : va_S A0 H0 H locs) (hA : ∀ q, q < H.size → A1 q → A0 q) (hf : ∀ q, free q → A0 q) (hAX : ∀ q, q < H.size → AX q → A0 q)
    (kx : ∀ (E : String) (ce : Cell) (q9 : Addr) (u : SX) (t : State) (H1 : Heap) (locs1 : List Loc), t.heap = H1 → s.vm.Alike t.vm → px u → BX E u t → H.size ≤ H1.size → (∀ q : Nat, q < H.size → ¬ AX q → H1[q]? = H[q]?) → va_S A0 H0 H1 locs1 → H1[q9]? = some ce → ce.vm = .none → s.vm.findClass E = some ce.cls → vx_W p l e R s m args below meth c H1 locs1 (cells + mc) (slots + ms) Q (F0 m pc ls rest) q9)
    (kk : ∀ (r : Int64) (u : S) (t : State) (H1 : Heap) (locs1 : List Loc), t.heap = H1 → s.vm.Alike t.vm → post r u → B u t → H.size ≤ H1.size → (∀ q : Nat, q < H.size → ¬ A1 q → H1[q]? = H[q]?) → va_S A0 H0 H1 locs1 → W p l e R s m args below meth c H1 locs1 (cells + mc) (slots + ms) Q (F0 m (pc + 3) ls (.long r :: rest))) : W p l e R s m args below meth c H locs cells slots Q (F0 m pc ls st0) := by
  intro T hT X
  rcases hr T hT X with ⟨v, st₀, t, T', L, h0, X', hL, e1, e2, ⟨⟨r, u, hv, hp, hb⟩, hF⟩, st⟩ | ⟨q, st₀, t, T', L, E, ce, h0, X', hL, e1, e2, ⟨u, hp, hb, hF⟩, hce, hcv, hcl, st⟩
  · cases hv
    obtain ⟨k1, k2, k3⟩ := vx_keep h0 e1 hS hA hf hL hF
    obtain ⟨t2, a1, b1⟩ := kk r u t T'.heap (locs ++ L) e1.symm (by rw [← e2]; exact X'.warmed.alike) hp hb k1 k2 k3 T' rfl X'
    exact ⟨t2, st t2 a1, b1⟩
  · obtain ⟨k1, k2, k3⟩ := vx_keep h0 e1 hS hAX hf hL hF
    obtain ⟨t2, a1, b1⟩ := kx E ce q u t T'.heap (locs ++ L) e1.symm (by rw [← e2]; exact X'.warmed.alike) hp hb k1 k2 k3 (by rw [e1]; exact hce) hcv hcl T' rfl X'
    exact ⟨t2, st.trans a1, b1⟩
theorem vx_callf {S SX : Type} {post : UInt32 → S → Prop} {px : SX → Prop} {B : S → State → Prop} {BX : String → SX → State → Prop} {AX : Nat → Prop} (hr : vx_Run p l e R s m args below meth c H locs cells slots mc ms (F0 m pc ls st0) rest (va_Qf post B A1 a) (vx_X px BX AX) free) (hS : va_S A0 H0 H locs) (hA : ∀ q, q < H.size → A1 q → A0 q) (hf : ∀ q, free q → A0 q) (hAX : ∀ q, q < H.size → AX q → A0 q)
    (kx : ∀ (E : String) (ce : Cell) (q9 : Addr) (u : SX) (t : State) (H1 : Heap) (locs1 : List Loc), t.heap = H1 → s.vm.Alike t.vm → px u → BX E u t → H.size ≤ H1.size → (∀ q : Nat, q < H.size → ¬ AX q → H1[q]? = H[q]?) → va_S A0 H0 H1 locs1 → H1[q9]? = some ce → ce.vm = .none → s.vm.findClass E = some ce.cls → vx_W p l e R s m args below meth c H1 locs1 (cells + mc) (slots + ms) Q (F0 m pc ls rest) q9)
    (kk : ∀ (r : UInt32) (u : S) (t : State) (H1 : Heap) (locs1 : List Loc), t.heap = H1 → s.vm.Alike t.vm → post r u → B u t → H.size ≤ H1.size → (∀ q : Nat, q < H.size → ¬ A1 q → H1[q]? = H[q]?) → va_S A0 H0 H1 locs1 → W p l e R s m args below meth c H1 locs1 (cells + mc) (slots + ms) Q (F0 m (pc + 3) ls (.float r :: rest))) : W p l e R s m args below meth c H locs cells slots Q (F0 m pc ls st0) := by
  intro T hT X
  rcases hr T hT X with ⟨v, st₀, t, T', L, h0, X', hL, e1, e2, ⟨⟨r, u, hv, hp, hb⟩, hF⟩, st⟩ | ⟨q, st₀, t, T', L, E, ce, h0, X', hL, e1, e2, ⟨u, hp, hb, hF⟩, hce, hcv, hcl, st⟩
  · cases hv
    obtain ⟨k1, k2, k3⟩ := vx_keep h0 e1 hS hA hf hL hF
    obtain ⟨t2, a1, b1⟩ := kk r u t T'.heap (locs ++ L) e1.symm (by rw [← e2]; exact X'.warmed.alike) hp hb k1 k2 k3 T' rfl X'
    exact ⟨t2, st t2 a1, b1⟩
  · obtain ⟨k1, k2, k3⟩ := vx_keep h0 e1 hS hAX hf hL hF
    obtain ⟨t2, a1, b1⟩ := kx E ce q u t T'.heap (locs ++ L) e1.symm (by rw [← e2]; exact X'.warmed.alike) hp hb k1 k2 k3 (by rw [e1]; exact hce) hcv hcl T' rfl X'
    exact ⟨t2, st.trans a1, b1⟩
theorem vx_calld {S SX : Type} {post : UInt64 → S → Prop} {px : SX → Prop} {B : S → State → Prop} {BX : String → SX → State → Prop} {AX : Nat → Prop} (hr : vx_Run p l e R s m args below meth c H locs cells slots mc ms (F0 m pc ls st0) rest (va_Qd post B A1 a) (vx_X px BX AX) free) (hS : va_S A0 H0 H locs) (hA : ∀ q, q < H.size → A1 q → A0 q) (hf : ∀ q, free q → A0 q) (hAX : ∀ q, q < H.size → AX q → A0 q)
    (kx : ∀ (E : String) (ce : Cell) (q9 : Addr) (u : SX) (t : State) (H1 : Heap) (locs1 : List Loc), t.heap = H1 → s.vm.Alike t.vm → px u → BX E u t → H.size ≤ H1.size → (∀ q : Nat, q < H.size → ¬ AX q → H1[q]? = H[q]?) → va_S A0 H0 H1 locs1 → H1[q9]? = some ce → ce.vm = .none → s.vm.findClass E = some ce.cls → vx_W p l e R s m args below meth c H1 locs1 (cells + mc) (slots + ms) Q (F0 m pc ls rest) q9)
    (kk : ∀ (r : UInt64) (u : S) (t : State) (H1 : Heap) (locs1 : List Loc), t.heap = H1 → s.vm.Alike t.vm → post r u → B u t → H.size ≤ H1.size → (∀ q : Nat, q < H.size → ¬ A1 q → H1[q]? = H[q]?) → va_S A0 H0 H1 locs1 → W p l e R s m args below meth c H1 locs1 (cells + mc) (slots + ms) Q (F0 m (pc + 3) ls (.double r :: rest))) : W p l e R s m args below meth c H locs cells slots Q (F0 m pc ls st0) := by
  intro T hT X
  rcases hr T hT X with ⟨v, st₀, t, T', L, h0, X', hL, e1, e2, ⟨⟨r, u, hv, hp, hb⟩, hF⟩, st⟩ | ⟨q, st₀, t, T', L, E, ce, h0, X', hL, e1, e2, ⟨u, hp, hb, hF⟩, hce, hcv, hcl, st⟩
  · cases hv
    obtain ⟨k1, k2, k3⟩ := vx_keep h0 e1 hS hA hf hL hF
    obtain ⟨t2, a1, b1⟩ := kk r u t T'.heap (locs ++ L) e1.symm (by rw [← e2]; exact X'.warmed.alike) hp hb k1 k2 k3 T' rfl X'
    exact ⟨t2, st t2 a1, b1⟩
  · obtain ⟨k1, k2, k3⟩ := vx_keep h0 e1 hS hAX hf hL hF
    obtain ⟨t2, a1, b1⟩ := kx E ce q u t T'.heap (locs ++ L) e1.symm (by rw [← e2]; exact X'.warmed.alike) hp hb k1 k2 k3 (by rw [e1]; exact hce) hcv hcl T' rfl X'
    exact ⟨t2, st.trans a1, b1⟩
theorem vx_callv {S SX : Type} {post : S → Prop} {px : SX → Prop} {B : S → State → Prop} {BX : String → SX → State → Prop} {AX : Nat → Prop} (hr : vx_Run p l e R s m args below meth c H locs cells slots mc ms (F0 m pc ls st0) rest (va_Qv post B A1 a) (vx_X px BX AX) free) (hS : va_S A0 H0 H locs) (hA : ∀ q, q < H.size → A1 q → A0 q) (hf : ∀ q, free q → A0 q) (hAX : ∀ q, q < H.size → AX q → A0 q)
    (kx : ∀ (E : String) (ce : Cell) (q9 : Addr) (u : SX) (t : State) (H1 : Heap) (locs1 : List Loc), t.heap = H1 → s.vm.Alike t.vm → px u → BX E u t → H.size ≤ H1.size → (∀ q : Nat, q < H.size → ¬ AX q → H1[q]? = H[q]?) → va_S A0 H0 H1 locs1 → H1[q9]? = some ce → ce.vm = .none → s.vm.findClass E = some ce.cls → vx_W p l e R s m args below meth c H1 locs1 (cells + mc) (slots + ms) Q (F0 m pc ls rest) q9)
    (kk : ∀ (u : S) (t : State) (H1 : Heap) (locs1 : List Loc), t.heap = H1 → s.vm.Alike t.vm → post u → B u t → H.size ≤ H1.size → (∀ q : Nat, q < H.size → ¬ A1 q → H1[q]? = H[q]?) → va_S A0 H0 H1 locs1 → W p l e R s m args below meth c H1 locs1 (cells + mc) (slots + ms) Q (F0 m (pc + 3) ls (rest))) : W p l e R s m args below meth c H locs cells slots Q (F0 m pc ls st0) := by
  intro T hT X
  rcases hr T hT X with ⟨v, st₀, t, T', L, h0, X', hL, e1, e2, ⟨⟨u, hv, hp, hb⟩, hF⟩, st⟩ | ⟨q, st₀, t, T', L, E, ce, h0, X', hL, e1, e2, ⟨u, hp, hb, hF⟩, hce, hcv, hcl, st⟩
  · cases hv
    obtain ⟨k1, k2, k3⟩ := vx_keep h0 e1 hS hA hf hL hF
    obtain ⟨t2, a1, b1⟩ := kk u t T'.heap (locs ++ L) e1.symm (by rw [← e2]; exact X'.warmed.alike) hp hb k1 k2 k3 T' rfl X'
    exact ⟨t2, st t2 a1, b1⟩
  · obtain ⟨k1, k2, k3⟩ := vx_keep h0 e1 hS hAX hf hL hF
    obtain ⟨t2, a1, b1⟩ := kx E ce q u t T'.heap (locs ++ L) e1.symm (by rw [← e2]; exact X'.warmed.alike) hp hb k1 k2 k3 (by rw [e1]; exact hce) hcv hcl T' rfl X'
    exact ⟨t2, st.trans a1, b1⟩
/-- caught by the row x of this method's table; the rows ahead don't take it -/
theorem vx_catch {own name : String} {E : String} {ce : Cell} {q : Addr} (hown : s.vm.findClass own = some m.cls) (pre : List ExceptionTableEntry) (x : ExceptionTableEntry) (suf : List ExceptionTableEntry) (hsplit : c.exceptionTable.toList = pre ++ x :: suf)
    (hpass : ∀ z ∈ pre, covers z pc = false ∨ (z.catchType ≠ 0 ∧ ∃ nm : String, (Cond.classLink own z.catchType nm).before args s = true ∧ va_Nc E nm s)) (hx : covers x pc = true) (h0 : x.catchType ≠ 0)
    (hlink : (Cond.classLink own x.catchType name).before args s = true) (hcast : (Cond.castable E name).before args s = true) (hcell : H[q]? = some ce) (hv : ce.vm = .none) (hcl : s.vm.findClass E = some ce.cls)
    (kk : W p l e R s m args below meth c H locs cells slots Q (F0 m x.handlerPc ls [.ref q])) : vx_W p l e R s m args below meth c H locs cells slots Q (F0 m pc ls rest) q := by
  intro T hT X
  have hpl : e.platform.magicAccessors = ({} : Platform).magicAccessors := by rw [X.admits.platform]
  obtain ⟨c3, c4, hc3, hc4, hasg⟩ := Cond.castable_spec hcast
  cases Option.some.inj (hc3.symm.trans hcl)
  obtain ⟨c5, hc5, hcl5⟩ := Cond.classLink_spec hown hlink e.platform hpl
  cases Option.some.inj (hc4.symm.trans hc5)
  obtain ⟨vm', X', st⟩ := X.thenCaughtThrough q (g := F0 m pc ls rest) rfl (Steps.refl _) (by rw [hT]; exact hcell) (by rw [hv]; rfl) (by obtain ⟨k9, h9, -⟩ := Vm.findClass_spec hcl; exact ⟨k9, h9⟩) pre x suf hsplit
    (fun z hz => by
      rcases hpass z hz with h | ⟨hz0, nm, hl1, hn1⟩
      · exact Or.inl h
      · obtain ⟨c6, hc6, hcl6⟩ := Cond.classLink_spec hown hl1 e.platform hpl
        obtain ⟨a8, b8, h1, h2, h3⟩ := hn1
        cases Option.some.inj (h1.symm.trans hcl)
        cases Option.some.inj (h2.symm.trans hc6)
        exact Or.inr ⟨hz0, _, hcl6, h3⟩) hx (Or.inr ⟨h0, c4, hcl5, hasg⟩)
  obtain ⟨t, a1, b1⟩ := kk (T.setVm vm') hT X'
  exact ⟨t, st.trans a1, b1⟩
end Rows
section Ends
variable {p : Program} {l : Launch} {e : Env} {R : Room} {s : State} {m : MethodId} {args : Array Value} {below : List Frame} {meth : Method} {c : Code} {H : Heap} {locs : List Loc} {cells slots : Nat} {Q : State → Prop}
variable {mc ms : Nat} {free : Addr → Prop} {A0 A1 : Nat → Prop} {H0 : Heap} {a : Array Value} {ls : Array Slot} {st0 rest : List Value}
variable {Qc : Array Value → State → Outcome → State → Prop} {XC : String → State → State → Prop}
/-- what a body that may throw owes at its end -/
def vx_MQ (below : List Frame) (Qc : Array Value → State → Outcome → State → Prop) (XC : String → State → State → Prop) (a : Array Value) (s : State) (mc ms : Nat) (free : Addr → Prop) : State → Prop := fun t =>
  ∃ o, t.status = .running ∧ Ended t below o ∧ vx_Q Qc XC mc ms free a s o t
theorem vx_ret {g : JFrame} {mc ms : Nat} (k : W p l e R s m args below meth c H locs cells slots (MQ below Qc args s mc ms free) g) : W p l e R s m args below meth c H locs cells slots (vx_MQ below Qc XC args s mc ms free) g := by
  intro T hT X
  obtain ⟨t, a1, o, b1, b2, b3, b4⟩ := k T hT X
  exact ⟨t, a1, o, b1, b2, Or.inl ⟨b3, b4⟩⟩
/-- not caught here: it goes on to the caller -/
theorem vx_widen {g : JFrame} {q : Addr} {k n : Nat} (h1 : cells ≤ k) (h2 : slots ≤ n) (kk : vx_W p l e R s m args below meth c H locs k n Q g q) : vx_W p l e R s m args below meth c H locs cells slots Q g q := fun T hT X => kk T hT (stand_widen X h1 h2)
theorem vx_out {pc : Nat} {E : String} {ce : Cell} {q : Addr} {mc ms : Nat} (hout : ∀ x ∈ c.exceptionTable.toList, covers x pc = false) (hlocks : meth.locks = false) (hcell : H[q]? = some ce) (hv : ce.vm = .none) (hcl : s.vm.findClass E = some ce.cls)
    (hx : ∀ t : State, t.heap = H → s.vm.Alike t.vm → XC E s t) (hf : ∀ z ∈ locs, free z.base) (hc : cells ≤ mc) (hs : slots ≤ ms) :
    vx_W p l e R s m args below meth c H locs cells slots (vx_MQ below Qc XC args s mc ms free) (F0 m pc ls rest) q := by
  intro T hT X
  obtain ⟨st1, hrun, hend, hW, hsm⟩ := X.leaveThrown q (g := F0 m pc ls rest) rfl rfl rfl hout hlocks
  have hcell9 : (T.setFrames (.throwing q :: below)).heap[q]? = some ce := by
    show T.heap[q]? = some ce
    rw [hT]; exact hcell
  exact ⟨_, st1, .threw q, hrun, hend, Or.inr ⟨q, rfl, E, ce, locs, hx _ hT hW.alike, hcell9, hv, hcl, hW, hsm.mono hc hs, hf⟩⟩
theorem vx_frame {U : State} {k n : Nat} (h : s.sameButNew ({ U with vm := s.vm } : State) locs k n) : s.heap.size ≤ U.heap.size ∧ ∀ q : Nat, q < s.heap.size → (∀ z ∈ locs, z.base ≠ q) → U.heap[q]? = s.heap[q]? := by
  obtain ⟨-, h2, -, -, -, h6⟩ := h
  refine ⟨h2, fun q hq hz => ?_⟩
  obtain ⟨c9, e1, e2, e3, e4⟩ := h6 q _ (Array.getElem?_eq_getElem hq)
  have hs : c9.slots = (s.heap[q]).slots := Array.ext_getElem? fun i => e4 i fun hm => hz _ hm rfl
  have h9 : c9 = s.heap[q] := by
    rw [hs] at e2
    exact e2
  have e5 : U.heap[q]? = some c9 := e1
  rw [e5, h9, Array.getElem?_eq_getElem hq]
/-- the words of a throw but the four that speak of the heap -/
def vx_no (w : Cond) : Bool := decide (w ≠ .isRef (.static Bundle.tN "UNASSIGNED_STACK" Bundle.steD)) && decide (w ≠ .isRef (.static Bundle.tN "SUPPRESSED_SENTINEL" Bundle.listD)) && decide (w ≠ .laysStatic Bundle.tN "UNASSIGNED_STACK" Bundle.steD) && decide (w ≠ .laysStatic Bundle.tN "SUPPRESSED_SENTINEL" Bundle.listD)
def vx_at0 (own : String) (ic : Nat) (X : String) (names : List String) : List Cond := (Bundle.ownAtoms0 own ic X names).filter vx_no
def vx_atS (own : String) (ic : Nat) (X : String) (names : List String) : List Cond := (Bundle.ownAtoms own ic X names).filter vx_no
/-- a word that the tables alone decide, or a good one -/
def vx_ot (w : Cond) : Bool := w.onTables || goodWord w
theorem vx_ot_at {args a' : Array Value} {s U : State} {w : Cond} (hW : s.WarmedH U.vm) (hvm : s.vm = U.vm) (hg : vx_ot w = true) (h : w.before args s = true) : w.before a' U = true := by
  simp only [vx_ot, Bool.or_eq_true] at hg
  rcases hg with hg | hg
  · exact va_tabs hg hvm h
  · exact word_at hW (good_of_word hg) h
/-- a list's words: the good ones out of the method's own list, the others by premises of their own -/
theorem vx_hat {args : Array Value} {s : State} {L B : List Cond} (h1 : ∀ w ∈ L.filter goodWord, w.before args s = true) (h2 : ∀ w ∈ L.filter (fun w => !goodWord w), w ∈ B) (h3 : ∀ w ∈ B, w.before args s = true) : ∀ w ∈ L, w.before args s = true := by
  intro w hw
  by_cases g : goodWord w = true
  · exact h1 w (List.mem_filter.mpr ⟨hw, g⟩)
  · refine h3 w (h2 w (List.mem_filter.mpr ⟨hw, ?_⟩))
    show (!goodWord w) = true
    cases hgw : goodWord w
    · rfl
    · exact absurd hgw g
theorem vx_c {args : Array Value} {s : State} {w : Cond} {B : List Cond} (h : w.before args s = true) (t : ∀ w ∈ B, w.before args s = true) : ∀ w' ∈ w :: B, w'.before args s = true := fun w' h' => (List.mem_cons.mp h').elim (fun e => by rw [e]; exact h) (t w')
theorem vx_n {args : Array Value} {s : State} : ∀ w ∈ ([] : List Cond), w.before args s = true := fun _ h => nomatch h
theorem vx_own {args : Array Value} {s : State} {L : List Cond} (h1 : ∀ w ∈ L.filter vx_no, w.before args s = true)
    (hU : (Cond.isRef (.static Bundle.tN "UNASSIGNED_STACK" Bundle.steD)).before args s = true) (hN : (Cond.isRef (.static Bundle.tN "SUPPRESSED_SENTINEL" Bundle.listD)).before args s = true)
    (lU : (Cond.laysStatic Bundle.tN "UNASSIGNED_STACK" Bundle.steD).before args s = true) (lN : (Cond.laysStatic Bundle.tN "SUPPRESSED_SENTINEL" Bundle.listD).before args s = true) : ∀ w ∈ L, w.before args s = true := by
  intro w hw
  by_cases e1 : w = .isRef (.static Bundle.tN "UNASSIGNED_STACK" Bundle.steD)
  · rw [e1]; exact hU
  · by_cases e2 : w = .isRef (.static Bundle.tN "SUPPRESSED_SENTINEL" Bundle.listD)
    · rw [e2]; exact hN
    · by_cases e3 : w = .laysStatic Bundle.tN "UNASSIGNED_STACK" Bundle.steD
      · rw [e3]; exact lU
      · by_cases e4 : w = .laysStatic Bundle.tN "SUPPRESSED_SENTINEL" Bundle.listD
        · rw [e4]; exact lN
        · exact h1 w (List.mem_filter.mpr ⟨hw, by unfold vx_no; rw [decide_eq_true e1, decide_eq_true e2, decide_eq_true e3, decide_eq_true e4]; rfl⟩)
/-- where a static field lies, its class's statics cell in H -/
def vx_L (C n d : String) (A : Nat → Prop) (U : State) (H : Heap) : Prop := ∃ (c : ClassId) (k : Class) (i : Nat) (f : Field) (a : Nat) (cell : Cell), U.vm.findClass C = some c ∧ U.fieldFound? C n d = some (c, k, i, f) ∧ f.isStatic = true ∧ k.statics = some a ∧ H[a]? = some cell ∧ cell.vm.isStatics = true ∧ cell.cls = c ∧ f.slot < cell.slots.size ∧ k.staticTypes[f.slot]? = some f.type ∧ ¬ A a
theorem vx_L.moved {C n d : String} {A : Nat → Prop} {u U : State} {H : Heap} (hvm : u.vm.Alike U.vm) (h : vx_L C n d A u H) : vx_L C n d A U H := by
  obtain ⟨c, k, i, f, a, cell, h1, h2, h3, h4, h5, h6, h7, h8, h9, h10⟩ := h
  obtain ⟨k', hi', he⟩ := State.fieldFound?_setVm hvm h2
  exact ⟨c, k', i, f, a, cell, by rw [hvm.findClass]; exact h1, hi', h3, by rw [he]; exact h4, h5, h6, h7, h8, by rw [he]; exact h9, h10⟩
theorem vx_L.kept {C n d : String} {A : Nat → Prop} {U : State} {H H1 : Heap} (h : vx_L C n d A U H) (hq : ∀ a : Nat, a < H.size → ¬ A a → H1[a]? = H[a]?) : vx_L C n d A U H1 := by
  obtain ⟨c, k, i, f, a, cell, h1, h2, h3, h4, h5, h6, h7, h8, h9, h10⟩ := h
  exact ⟨c, k, i, f, a, cell, h1, h2, h3, h4, by rw [hq a (Array.getElem?_eq_some_iff.mp h5).1 h10]; exact h5, h6, h7, h8, h9, h10⟩
theorem vx_L.narrow {C n d : String} {A B : Nat → Prop} {U : State} {H : Heap} (h : vx_L C n d A U H) (hAB : ∀ q, B q → A q) : vx_L C n d B U H := by
  obtain ⟨c, k, i, f, a, cell, h1, h2, h3, h4, h5, h6, h7, h8, h9, h10⟩ := h
  exact ⟨c, k, i, f, a, cell, h1, h2, h3, h4, h5, h6, h7, h8, h9, fun z => h10 (hAB _ z)⟩
theorem vx_L.word {C n d : String} {A : Nat → Prop} {s : State} {args : Array Value} (h : vx_L C n d A s s.heap) : (Cond.laysStatic C n d).before args s = true := by
  obtain ⟨c, k, i, f, a, cell, h1, h2, h3, h4, h5, h6, h7, h8, h9, -⟩ := h
  show (Cond.laysStatic C n d).holds args s none s [] = true
  exact Cond.laysStatic_of h1 h2 h3 h4 h5 h6 h7 h8 h9
/-- .. and what it holds: null or some reference -/
def vx_Zq (C n d : String) (A : Nat → Prop) (U : State) (H : Heap) : Prop := va_Zq C n d A U H ∧ vx_L C n d A U H
theorem vx_Zq.moved {C n d : String} {A : Nat → Prop} {u U : State} {H : Heap} (hvm : u.vm.Alike U.vm) (h : vx_Zq C n d A u H) : vx_Zq C n d A U H := ⟨va_Zq.moved hvm h.1, vx_L.moved hvm h.2⟩
theorem vx_Zq.kept {C n d : String} {A : Nat → Prop} {U : State} {H H1 : Heap} (h : vx_Zq C n d A U H) (hq : ∀ a : Nat, a < H.size → ¬ A a → H1[a]? = H[a]?) : vx_Zq C n d A U H1 := ⟨va_Zq.kept h.1 hq, vx_L.kept h.2 hq⟩
theorem vx_Zq.narrow {C n d : String} {A B : Nat → Prop} {U : State} {H : Heap} (h : vx_Zq C n d A U H) (hAB : ∀ q, B q → A q) : vx_Zq C n d B U H := ⟨va_Zq.narrow h.1 hAB, vx_L.narrow h.2 hAB⟩
theorem vx_Zqof {args : Array Value} {s : State} {C n d : String} {A : Nat → Prop} (hl : (Cond.laysStatic C n d).before args s = true) (hini : (Cond.initialized C).before args s = true) (h : (Cond.isRef (.static C n d)).before args s = true) (hA : ∀ a : Nat, a < s.heap.size → ¬ A a) : vx_Zq C n d A s s.heap := by
  refine ⟨va_Zqof hl hini h hA, ?_⟩
  obtain ⟨c, k, i, f, a, cell, h1, h2, h3, h4, h5, h6, h7, h8, h9⟩ := Cond.laysStatic_spec hl
  exact ⟨c, k, i, f, a, cell, h1, h2, h3, h4, h5, h6, h7, h8, h9, hA a (Array.getElem?_eq_some_iff.mp h5).1⟩
theorem vx_isRef {C n d : String} {v : Value} {A : Nat → Prop} {s : State} {args : Array Value} (h : va_Z C n d v A s s.heap) (hv : v.isRef = true) : (Cond.isRef (.static C n d)).before args s = true := by
  obtain ⟨cf, kf, fi, f, a, cell, h1, h2, h3, h4, h5, h6, h7, -⟩ := h
  have he : (Term.static C n d).eval args s none [] s = some v := by
    simp [Term.eval, State.fieldNamed?, h1, h2, h4, h5, h6, h7]
  simp only [Cond.before, Cond.holds, Cond.value, he]
  cases v <;> simp_all [Value.isRef]
theorem vx_isRefq {C n d : String} {A : Nat → Prop} {s : State} {args : Array Value} (h : va_Zq C n d A s s.heap) : (Cond.isRef (.static C n d)).before args s = true := by
  rcases h with h | ⟨t, h⟩
  · exact vx_isRef h rfl
  · exact vx_isRef h rfl
/-- the same frame, seen from here: as if the method were called anew in this heap -/
theorem vx_rebase {T : State} (X : Stand p l e R s m args below meth c T locs cells slots) {R' : Room} (hf : R'.frames ≤ R.frames) (hl : R'.locals ≤ R.locals) (hc : cells + R'.cells ≤ R.cells) (hs : slots + R'.slots ≤ R.slots) :
    Stand p l e R' ((T.setVm s.vm).setFrames (.invoking m args :: below)) m args below meth c T [] 0 0 := by
  have htop : (T.setVm s.vm).topJava?.isSome := X.here.top
  have hF : ((T.setVm s.vm).setFrames (.invoking m args :: below)).frames = .invoking m args :: below := State.frames_setFrames _ (State.cur_lt_of_top htop)
  obtain ⟨g₀, hg0⟩ := Option.isSome_iff_exists.mp htop
  obtain ⟨r, hr⟩ := State.topJava?_eq_some.mp hg0
  have hl9 : e.platform.stackLimits (T.setVm s.vm).me = e.platform.stackLimits s.me := X.limits
  have hb9 : (T.setVm s.vm).me.stackBytes = s.me.stackBytes := X.bytes
  refine ⟨X.admits, X.cas, X.clock, hF, ?_, X.hears, X.method, X.code, X.here, X.tail, X.warmed, ?_, ?_, ?_⟩
  · have h := X.room
    have hU : ((T.setVm s.vm).setFrames (.invoking m args :: below)).localsInUse = s.localsInUse := by
      rw [State.localsInUse_invoking hF (meth := meth) (c := c) X.method X.code, State.localsInUse_invoking X.frames X.method X.code]
    simp only [State.hasRoom, Bool.and_eq_true, decide_eq_true_eq] at h ⊢
    obtain ⟨⟨⟨⟨h1, h2, h3, h4, h5, h6⟩, h7⟩, h8⟩, h9⟩ := h
    rw [X.frames, List.length_cons] at h2 h3
    have q1 := X.heapSize
    have q2 := X.used
    simp only [hF, hU, List.length_cons, State.stackLimits_setFrames, State.stackBytes_setFrames, hl9, hb9]
    refine ⟨⟨⟨⟨by omega, by omega, by omega, by omega, by omega, h6⟩, ?_⟩, ?_⟩, X.book⟩
    · show T.heap.size + R'.cells ≤ e.platform.maxCells
      omega
    · show T.slotsUsed + R'.slots ≤ e.platform.maxSlots
      omega
  · rw [State.stackLimits_setFrames]; rfl
  · rw [State.stackBytes_setFrames]; rfl
  · refine ⟨?_, Nat.le_refl _, Nat.le_refl _, ?_, ?_, fun a c9 h9 => ⟨c9, h9, rfl, rfl, fun _ _ => rfl⟩⟩
    · obtain ⟨t, ht, -⟩ := State.frames_cons hr
      show T.setVm s.vm = { ((T.setVm s.vm).setFrames (.invoking m args :: below)).setFrames (T.setVm s.vm).frames with heap := T.heap, slotsUsed := T.slotsUsed }
      rw [State.setFrames_setFrames, State.setFrames_self ht]
      rfl
    · show T.slotsUsed = T.slotsUsed + ((T.heap.toList.drop T.heap.size).map (·.slots.size)).sum
      rw [List.drop_eq_nil_of_le (Nat.le_of_eq Array.length_toList)]
      rfl
    · show ((T.heap.toList.drop T.heap.size).map (·.slots.size)).sum ≤ 0
      rw [List.drop_eq_nil_of_le (Nat.le_of_eq Array.length_toList)]
      exact Nat.le_refl _
/-- 'throw new E()': new; dup; invokespecial; athrow -/
theorem vx_throw0 {cc : ByteArray} {pc : Nat} (hexec : p.tables.exec = Jvm.exec) (hb : c.code = cc) (hl : l.stackTraces = false) {own cls : String} {names : List String} {ik ic mc ms : Nat} {A : Nat → Prop}
    (hown : s.vm.findClass own = some m.cls) (hcls : Bundle.fit cls = true) (hnames : ∀ n ∈ names, Bundle.fit n = true)
    (hk : (Cond.classLink own ik cls).before args s = true) (hini : (Cond.initialized cls).before args s = true) (hat : ∀ w ∈ vx_at0 own ic cls names, w.before args s = true)
    (hgood : ∀ w ∈ Cond.classLink own ik cls :: Cond.initialized cls :: vx_at0 own ic cls names, vx_ot w = true)
    (hU : vx_Zq Bundle.tN "UNASSIGNED_STACK" Bundle.steD A s s.heap) (hN : vx_Zq Bundle.tN "SUPPRESSED_SENTINEL" Bundle.listD A s s.heap) (hS : va_S A s.heap H locs) (hsize : ls.size = c.maxLocals)
    (d0 : decode cc pc = .ok (.new ik, 3)) (d3 : decode cc (pc + 3) = .ok (.dup, 1)) (d4 : decode cc (pc + 4) = .ok (.invokespecial ic, 3)) (d7 : decode cc (pc + 7) = .ok (.athrow, 1))
    (hout : ∀ x ∈ c.exceptionTable.toList, covers x (pc + 7) = false)
    (hRframes : names.length + 3 < R.frames) (hRlocals : (rest.map fun v => v.category).sum + (13 * (names.length + 1) + 42) ≤ R.locals) (hRcells : cells + 1 ≤ R.cells) (hRslots : slots + 6 ≤ R.slots) (hlocks : meth.locks = false)
    (hx : ∀ t : State, s.vm.Alike t.vm → H.size ≤ t.heap.size → (∀ q : Nat, q < H.size → t.heap[q]? = H[q]?) → XC cls s t)
    (hf : ∀ z ∈ locs, free z.base) (hc : cells + 1 ≤ mc) (hs : slots + 6 ≤ ms) :
    W p l e R s m args below meth c H locs cells slots (vx_MQ below Qc XC args s mc ms free) (F0 m pc ls rest) := by
  intro T hT X
  have htr : e.platform.stackTraces = false := (show e.platform.stackTraces = l.stackTraces by rw [X.admits.platform]).trans hl
  have Y := vx_rebase X (R' := { frames := R.frames, locals := R.locals, cells := 1, slots := 6 }) (Nat.le_refl _) (Nat.le_refl _) hRcells hRslots
  obtain ⟨s', hA⟩ : ∃ z, z = (T.setVm s.vm).setFrames (.invoking m args :: below) := ⟨_, rfl⟩
  rw [← hA] at Y
  have hvm : s'.vm = s.vm := by rw [hA]; rfl
  have hhp : s'.heap = H := by rw [hA]; exact hT
  have hW0 : s.WarmedH s'.vm := by rw [hvm]; exact State.WarmedH.refl s
  have hat' : ∀ w ∈ vx_at0 own ic cls names, w.before args s' = true := fun w hw => vx_ot_at hW0 hvm.symm (hgood w (List.mem_cons_of_mem _ (List.mem_cons_of_mem _ hw))) (hat w hw)
  have hk' : (Cond.classLink own ik cls).before args s' = true := vx_ot_at hW0 hvm.symm (hgood _ List.mem_cons_self) hk
  have hini' : (Cond.initialized cls).before args s' = true := vx_ot_at hW0 hvm.symm (hgood _ (List.mem_cons_of_mem _ List.mem_cons_self)) hini
  have hU' : vx_Zq Bundle.tN "UNASSIGNED_STACK" Bundle.steD A s' s'.heap := by rw [hhp]; exact vx_Zq.moved hW0.alike (hU.kept hS.2.1)
  have hN' : vx_Zq Bundle.tN "SUPPRESSED_SENTINEL" Bundle.listD A s' s'.heap := by rw [hhp]; exact vx_Zq.moved hW0.alike (hN.kept hS.2.1)
  have h : ∀ w ∈ Bundle.ownAtoms0 own ic cls names, w.before args s' = true := vx_own hat' (vx_isRefq hU'.1) (vx_isRefq hN'.1) hU'.2.word hN'.2.word
  have hown' : s'.vm.findClass own = some m.cls := by rw [hvm]; exact hown
  have hins : (Cond.instantiable cls 6).before args s' = true := h _ (by simp [Bundle.ownAtoms0])
  obtain ⟨vm₁, cX, kX, hfX, hkX, -, -, X₁, st1⟩ := Y.newCold hexec (own := own) (C := cls) (index := ik) (n := 6) hown' hk' hins hini'
    (g := F0 m pc ls rest) rfl (by rw [hb]; exact d0) (Nat.le_refl _) (Nat.le_refl _)
  generalize hT1 : (T.setVm vm₁).pushCell { cls := cX, slots := kX.instanceTypes.map defaultValue, vm := .none } = T1 at X₁ st1
  have hcat : (Value.ref T.heap.size).category = 1 := rfl
  have hcellA : T1.heap[T.heap.size]? = some (freshCell cX kX) := by rw [← hT1]; exact State.heap_pushCell_size _ _
  have d3' : decode c.code (pc + 3) = .ok (.dup, 1) := by rw [hb]; exact d3
  obtain ⟨U, hsteps, hrun, hend, hW, hsame, ce, hce, hO⟩ := X₁.ctorThrow0 hexec htr (own := own) (cls := cls) (names := names) (ic := ic) hown' hcls hnames h (fun x hx => nomatch hx) hfX hkX hcellA (by rw [hhp, hT]; exact Nat.le_refl _)
    (g := { method := m, pc := pc + 4, locals := ls, stack := .ref T.heap.size :: .ref T.heap.size :: rest, locked := none }) rfl hsize rfl rfl (rest := rest) rfl
    (by rw [hb]; exact d4) (by rw [hb]; exact d7) hout hRframes (by simp only [List.map_cons, List.sum_cons, hcat]; omega) hlocks
  obtain ⟨f1, f2⟩ := vx_frame hsame
  rw [hhp] at f1 f2
  have hWs : s.WarmedH U.vm := State.WarmedH.trans hW0 hW
  have hcl : s.vm.findClass cls = some ce.cls := by
    have h9 := hO.cls
    rw [hvm] at h9
    exact h9
  have hall : s.sameButNew ({ U with vm := s.vm } : State) locs mc ms := by
    subst hA
    obtain ⟨e1, e2⟩ := hsame
    rw [State.setFrames_setFrames] at e1
    have h2 : (T.setVm s.vm).sameButNew ({ U with vm := s.vm } : State) [] (0 + 1) (0 + 6) := ⟨e1, e2⟩
    have h3 := X.same.trans h2
    rw [List.append_nil] at h3
    exact h3.mono hc hs
  refine ⟨U, ?_, .threw T.heap.size, hrun, hend, Or.inr ⟨T.heap.size, rfl, cls, ce, locs, hx U hWs.alike f1 (fun q hq => f2 q hq (fun z hz => nomatch hz)), hce, hO.vm, hcl, hWs, hall, hf⟩⟩
  refine st1 _ ?_
  show Steps p.tables e below (T1.setTop { method := m, pc := pc + 3, locals := ls, stack := .ref T.heap.size :: rest, locked := none }) _
  jvm_step X₁.here [X₁.here.top, hexec, d3', Value.category]
  exact hsteps
/-- 'throw new E("text")': new; dup; ldc; invokespecial; athrow -/
theorem vx_throwS {cc : ByteArray} {pc : Nat} (hexec : p.tables.exec = Jvm.exec) (hb : c.code = cc) (hl : l.stackTraces = false) {own cls text : String} {names : List String} {ik is ic mc ms sa : Nat} {A : Nat → Prop}
    (hown : s.vm.findClass own = some m.cls) (hcls : Bundle.fit cls = true) (hnames : ∀ n ∈ names, Bundle.fit n = true)
    (hk : (Cond.classLink own ik cls).before args s = true) (hini : (Cond.initialized cls).before args s = true) (hstr : vk_R own is text sa s) (hat : ∀ w ∈ vx_atS own ic cls names, w.before args s = true)
    (hgood : ∀ w ∈ Cond.classLink own ik cls :: Cond.initialized cls :: vx_atS own ic cls names, vx_ot w = true)
    (hU : vx_Zq Bundle.tN "UNASSIGNED_STACK" Bundle.steD A s s.heap) (hN : vx_Zq Bundle.tN "SUPPRESSED_SENTINEL" Bundle.listD A s s.heap) (hS : va_S A s.heap H locs) (hsize : ls.size = c.maxLocals)
    (d0 : decode cc pc = .ok (.new ik, 3)) (d3 : decode cc (pc + 3) = .ok (.dup, 1)) (d4 : decode cc (pc + 4) = .ok (.ldc is, 2)) (d6 : decode cc (pc + 6) = .ok (.invokespecial ic, 3)) (d9 : decode cc (pc + 9) = .ok (.athrow, 1))
    (hout : ∀ x ∈ c.exceptionTable.toList, covers x (pc + 9) = false)
    (hRframes : names.length + 3 < R.frames) (hRlocals : (rest.map fun v => v.category).sum + (13 * (names.length + 1) + 43) ≤ R.locals) (hRcells : cells + 1 ≤ R.cells) (hRslots : slots + 6 ≤ R.slots) (hlocks : meth.locks = false)
    (hx : ∀ t : State, s.vm.Alike t.vm → H.size ≤ t.heap.size → (∀ q : Nat, q < H.size → t.heap[q]? = H[q]?) → XC cls s t)
    (hf : ∀ z ∈ locs, free z.base) (hc : cells + 1 ≤ mc) (hs : slots + 6 ≤ ms) :
    W p l e R s m args below meth c H locs cells slots (vx_MQ below Qc XC args s mc ms free) (F0 m pc ls rest) := by
  intro T hT X
  have htr : e.platform.stackTraces = false := (show e.platform.stackTraces = l.stackTraces by rw [X.admits.platform]).trans hl
  have Y := vx_rebase X (R' := { frames := R.frames, locals := R.locals, cells := 1, slots := 6 }) (Nat.le_refl _) (Nat.le_refl _) hRcells hRslots
  obtain ⟨s', hA⟩ : ∃ z, z = (T.setVm s.vm).setFrames (.invoking m args :: below) := ⟨_, rfl⟩
  rw [← hA] at Y
  have hvm : s'.vm = s.vm := by rw [hA]; rfl
  have hhp : s'.heap = H := by rw [hA]; exact hT
  have hW0 : s.WarmedH s'.vm := by rw [hvm]; exact State.WarmedH.refl s
  have hat' : ∀ w ∈ vx_atS own ic cls names, w.before args s' = true := fun w hw => vx_ot_at hW0 hvm.symm (hgood w (List.mem_cons_of_mem _ (List.mem_cons_of_mem _ hw))) (hat w hw)
  have hk' : (Cond.classLink own ik cls).before args s' = true := vx_ot_at hW0 hvm.symm (hgood _ List.mem_cons_self) hk
  have hini' : (Cond.initialized cls).before args s' = true := vx_ot_at hW0 hvm.symm (hgood _ (List.mem_cons_of_mem _ List.mem_cons_self)) hini
  have hU' : vx_Zq Bundle.tN "UNASSIGNED_STACK" Bundle.steD A s' s'.heap := by rw [hhp]; exact vx_Zq.moved hW0.alike (hU.kept hS.2.1)
  have hN' : vx_Zq Bundle.tN "SUPPRESSED_SENTINEL" Bundle.listD A s' s'.heap := by rw [hhp]; exact vx_Zq.moved hW0.alike (hN.kept hS.2.1)
  have h : ∀ w ∈ Bundle.ownAtoms own ic cls names, w.before args s' = true := vx_own hat' (vx_isRefq hU'.1) (vx_isRefq hN'.1) hU'.2.word hN'.2.word
  have hown' : s'.vm.findClass own = some m.cls := by rw [hvm]; exact hown
  have hins : (Cond.instantiable cls 6).before args s' = true := h _ (by simp [Bundle.ownAtoms])
  obtain ⟨vm₁, cX, kX, hfX, hkX, -, -, X₁, st1⟩ := Y.newCold hexec (own := own) (C := cls) (index := ik) (n := 6) hown' hk' hins hini'
    (g := F0 m pc ls rest) rfl (by rw [hb]; exact d0) (Nat.le_refl _) (Nat.le_refl _)
  generalize hT1 : (T.setVm vm₁).pushCell { cls := cX, slots := kX.instanceTypes.map defaultValue, vm := .none } = T1 at X₁ st1
  have hcat : (Value.ref T.heap.size).category = 1 := rfl
  have hcellA : T1.heap[T.heap.size]? = some (freshCell cX kX) := by rw [← hT1]; exact State.heap_pushCell_size _ _
  have d3' : decode c.code (pc + 3) = .ok (.dup, 1) := by rw [hb]; exact d3
  have d4' : decode c.code (pc + 4) = .ok (.ldc is, 2) := by rw [hb]; exact d4
  have hstr' : vk_R own is text sa s' := vk_R.warm hW0 hstr
  obtain ⟨U, hsteps, hrun, hend, hW, hsame, ce, hce, hO⟩ := X₁.ctorThrowS hexec htr (own := own) (cls := cls) (names := names) (ic := ic) hown' hcls hnames h (fun x hx => nomatch hx) hfX hkX hcellA (by rw [hhp, hT]; exact Nat.le_refl _) (msg := .ref sa) rfl
    (g := { method := m, pc := pc + 6, locals := ls, stack := .ref sa :: .ref T.heap.size :: .ref T.heap.size :: rest, locked := none }) rfl hsize rfl rfl (rest := rest) rfl
    (by rw [hb]; exact d6) (by rw [hb]; exact d9) hout hRframes (by simp only [List.map_cons, List.sum_cons, hcat]; omega) hlocks
  obtain ⟨f1, f2⟩ := vx_frame hsame
  rw [hhp] at f1 f2
  have hWs : s.WarmedH U.vm := State.WarmedH.trans hW0 hW
  have hcl : s.vm.findClass cls = some ce.cls := by
    have h9 := hO.cls
    rw [hvm] at h9
    exact h9
  have hall : s.sameButNew ({ U with vm := s.vm } : State) locs mc ms := by
    subst hA
    obtain ⟨e1, e2⟩ := hsame
    rw [State.setFrames_setFrames] at e1
    have h2 : (T.setVm s.vm).sameButNew ({ U with vm := s.vm } : State) [] (0 + 1) (0 + 6) := ⟨e1, e2⟩
    have h3 := X.same.trans h2
    rw [List.append_nil] at h3
    exact h3.mono hc hs
  refine ⟨U, ?_, .threw T.heap.size, hrun, hend, Or.inr ⟨T.heap.size, rfl, cls, ce, locs, hx U hWs.alike f1 (fun q hq => f2 q hq (fun z hz => nomatch hz)), hce, hO.vm, hcl, hWs, hall, hf⟩⟩
  refine st1 _ ?_
  show Steps p.tables e below (T1.setTop { method := m, pc := pc + 3, locals := ls, stack := .ref T.heap.size :: rest, locked := none }) _
  jvm_step X₁.here [X₁.here.top, hexec, d3', Value.category]
  exact X₁.ldcString hexec (own := own) (text := text) (index := is) (a := sa) hown' hstr'.1 hstr'.2
    (g := { method := m, pc := pc + 4, locals := ls, stack := .ref T.heap.size :: .ref T.heap.size :: rest, locked := none }) rfl d4' _ hsteps
/-- 'throw new E("text")', the text by a wide index -/
theorem vx_throwSW {cc : ByteArray} {pc : Nat} (hexec : p.tables.exec = Jvm.exec) (hb : c.code = cc) (hl : l.stackTraces = false) {own cls text : String} {names : List String} {ik is ic mc ms sa : Nat} {A : Nat → Prop}
    (hown : s.vm.findClass own = some m.cls) (hcls : Bundle.fit cls = true) (hnames : ∀ n ∈ names, Bundle.fit n = true)
    (hk : (Cond.classLink own ik cls).before args s = true) (hini : (Cond.initialized cls).before args s = true) (hstr : vk_R own is text sa s) (hat : ∀ w ∈ vx_atS own ic cls names, w.before args s = true)
    (hgood : ∀ w ∈ Cond.classLink own ik cls :: Cond.initialized cls :: vx_atS own ic cls names, vx_ot w = true)
    (hU : vx_Zq Bundle.tN "UNASSIGNED_STACK" Bundle.steD A s s.heap) (hN : vx_Zq Bundle.tN "SUPPRESSED_SENTINEL" Bundle.listD A s s.heap) (hS : va_S A s.heap H locs) (hsize : ls.size = c.maxLocals)
    (d0 : decode cc pc = .ok (.new ik, 3)) (d3 : decode cc (pc + 3) = .ok (.dup, 1)) (d4 : decode cc (pc + 4) = .ok (.ldc_w is, 3)) (d7 : decode cc (pc + 7) = .ok (.invokespecial ic, 3)) (d10 : decode cc (pc + 10) = .ok (.athrow, 1))
    (hout : ∀ x ∈ c.exceptionTable.toList, covers x (pc + 10) = false)
    (hRframes : names.length + 3 < R.frames) (hRlocals : (rest.map fun v => v.category).sum + (13 * (names.length + 1) + 43) ≤ R.locals) (hRcells : cells + 1 ≤ R.cells) (hRslots : slots + 6 ≤ R.slots) (hlocks : meth.locks = false)
    (hx : ∀ t : State, s.vm.Alike t.vm → H.size ≤ t.heap.size → (∀ q : Nat, q < H.size → t.heap[q]? = H[q]?) → XC cls s t)
    (hf : ∀ z ∈ locs, free z.base) (hc : cells + 1 ≤ mc) (hs : slots + 6 ≤ ms) :
    W p l e R s m args below meth c H locs cells slots (vx_MQ below Qc XC args s mc ms free) (F0 m pc ls rest) := by
  intro T hT X
  have htr : e.platform.stackTraces = false := (show e.platform.stackTraces = l.stackTraces by rw [X.admits.platform]).trans hl
  have Y := vx_rebase X (R' := { frames := R.frames, locals := R.locals, cells := 1, slots := 6 }) (Nat.le_refl _) (Nat.le_refl _) hRcells hRslots
  obtain ⟨s', hA⟩ : ∃ z, z = (T.setVm s.vm).setFrames (.invoking m args :: below) := ⟨_, rfl⟩
  rw [← hA] at Y
  have hvm : s'.vm = s.vm := by rw [hA]; rfl
  have hhp : s'.heap = H := by rw [hA]; exact hT
  have hW0 : s.WarmedH s'.vm := by rw [hvm]; exact State.WarmedH.refl s
  have hat' : ∀ w ∈ vx_atS own ic cls names, w.before args s' = true := fun w hw => vx_ot_at hW0 hvm.symm (hgood w (List.mem_cons_of_mem _ (List.mem_cons_of_mem _ hw))) (hat w hw)
  have hk' : (Cond.classLink own ik cls).before args s' = true := vx_ot_at hW0 hvm.symm (hgood _ List.mem_cons_self) hk
  have hini' : (Cond.initialized cls).before args s' = true := vx_ot_at hW0 hvm.symm (hgood _ (List.mem_cons_of_mem _ List.mem_cons_self)) hini
  have hU' : vx_Zq Bundle.tN "UNASSIGNED_STACK" Bundle.steD A s' s'.heap := by rw [hhp]; exact vx_Zq.moved hW0.alike (hU.kept hS.2.1)
  have hN' : vx_Zq Bundle.tN "SUPPRESSED_SENTINEL" Bundle.listD A s' s'.heap := by rw [hhp]; exact vx_Zq.moved hW0.alike (hN.kept hS.2.1)
  have h : ∀ w ∈ Bundle.ownAtoms own ic cls names, w.before args s' = true := vx_own hat' (vx_isRefq hU'.1) (vx_isRefq hN'.1) hU'.2.word hN'.2.word
  have hown' : s'.vm.findClass own = some m.cls := by rw [hvm]; exact hown
  have hins : (Cond.instantiable cls 6).before args s' = true := h _ (by simp [Bundle.ownAtoms])
  obtain ⟨vm₁, cX, kX, hfX, hkX, -, -, X₁, st1⟩ := Y.newCold hexec (own := own) (C := cls) (index := ik) (n := 6) hown' hk' hins hini'
    (g := F0 m pc ls rest) rfl (by rw [hb]; exact d0) (Nat.le_refl _) (Nat.le_refl _)
  generalize hT1 : (T.setVm vm₁).pushCell { cls := cX, slots := kX.instanceTypes.map defaultValue, vm := .none } = T1 at X₁ st1
  have hcat : (Value.ref T.heap.size).category = 1 := rfl
  have hcellA : T1.heap[T.heap.size]? = some (freshCell cX kX) := by rw [← hT1]; exact State.heap_pushCell_size _ _
  have d3' : decode c.code (pc + 3) = .ok (.dup, 1) := by rw [hb]; exact d3
  have d4' : decode c.code (pc + 4) = .ok (.ldc_w is, 3) := by rw [hb]; exact d4
  have hstr' : vk_R own is text sa s' := vk_R.warm hW0 hstr
  obtain ⟨U, hsteps, hrun, hend, hW, hsame, ce, hce, hO⟩ := X₁.ctorThrowS hexec htr (own := own) (cls := cls) (names := names) (ic := ic) hown' hcls hnames h (fun x hx => nomatch hx) hfX hkX hcellA (by rw [hhp, hT]; exact Nat.le_refl _) (msg := .ref sa) rfl
    (g := { method := m, pc := pc + 7, locals := ls, stack := .ref sa :: .ref T.heap.size :: .ref T.heap.size :: rest, locked := none }) rfl hsize rfl rfl (rest := rest) rfl
    (by rw [hb]; exact d7) (by rw [hb]; exact d10) hout hRframes (by simp only [List.map_cons, List.sum_cons, hcat]; omega) hlocks
  obtain ⟨f1, f2⟩ := vx_frame hsame
  rw [hhp] at f1 f2
  have hWs : s.WarmedH U.vm := State.WarmedH.trans hW0 hW
  have hcl : s.vm.findClass cls = some ce.cls := by
    have h9 := hO.cls
    rw [hvm] at h9
    exact h9
  have hall : s.sameButNew ({ U with vm := s.vm } : State) locs mc ms := by
    subst hA
    obtain ⟨e1, e2⟩ := hsame
    rw [State.setFrames_setFrames] at e1
    have h2 : (T.setVm s.vm).sameButNew ({ U with vm := s.vm } : State) [] (0 + 1) (0 + 6) := ⟨e1, e2⟩
    have h3 := X.same.trans h2
    rw [List.append_nil] at h3
    exact h3.mono hc hs
  refine ⟨U, ?_, .threw T.heap.size, hrun, hend, Or.inr ⟨T.heap.size, rfl, cls, ce, locs, hx U hWs.alike f1 (fun q hq => f2 q hq (fun z hz => nomatch hz)), hce, hO.vm, hcl, hWs, hall, hf⟩⟩
  refine st1 _ ?_
  show Steps p.tables e below (T1.setTop { method := m, pc := pc + 3, locals := ls, stack := .ref T.heap.size :: rest, locked := none }) _
  jvm_step X₁.here [X₁.here.top, hexec, d3', Value.category]
  exact X₁.ldcStringW hexec (own := own) (text := text) (index := is) (a := sa) hown' hstr'.1 hstr'.2
    (g := { method := m, pc := pc + 4, locals := ls, stack := .ref T.heap.size :: .ref T.heap.size :: rest, locked := none }) rfl d4' _ hsteps
end Ends
section Bodies
variable {l : Launch}
theorem vx_ofW {y : MethodName} {ws ws' : List Cond} {rm : Room} {Pc : Array Value → State → Prop} {Qc : Array Value → State → Outcome → State → Prop} {XC : String → State → State → Prop} {mc ms : Nat} {free : Addr → Prop} {cc : ByteArray} {maxL : Nat} {ret : Option FieldType}
    (hy : plainName y.cls = true) (hw : ws = Cond.code y cc maxL ret :: ws')
    (body : ∀ p e s m args below meth c s₁, BodyLoose p l y (headSpec ws rm) cc maxL ret e s m args below meth c s₁ → c.maxLocals = maxL → (∀ x ∈ c.exceptionTable.toList, False) → Pc args s →
      W p l e (headSpec ws rm).room s m args below meth c s.heap [] 0 0 (vx_MQ below Qc XC args s mc ms free) (entryFrame m args maxL)) : vx_Met l y ws rm Pc Qc XC mc ms free := by
  refine MetFree.of_bodyS (code := cc) (maxLocals := maxL) (ret := ret) hy ?_ ?_
  · intro args s m h hn
    obtain ⟨meth, c, h1, h2, h3, h4, h5, h6, -, -⟩ := Cond.code_spec hn (atoms_spec (ws := ws) h _ (by rw [hw]; exact List.mem_cons_self))
    exact ⟨meth, c, h1, h2, h3, h4, h5, h6⟩
  · intro p e s m args below meth c s₁ B hml hP _
    have hh0 : s₁.heap = s.heap := by rw [B.state]; rfl
    have ht : ∀ x ∈ c.exceptionTable.toList, False := by
      obtain ⟨meth9, c9, h1, h2, -, -, -, -, h7, -⟩ := Cond.code_spec B.named (atoms_spec (ws := ws) B.pre _ (by rw [hw]; exact List.mem_cons_self))
      cases Option.some.inj (h1.symm.trans B.method)
      cases Option.some.inj (h2.symm.trans (Stand.of_body B).code)
      intro x hx
      rw [Array.isEmpty_iff.mp h7] at hx
      cases hx
    obtain ⟨t, a1, o, b1, b2, b3⟩ := body p e s m args below meth c s₁ B hml ht hP s₁ hh0 (Stand.of_body B)
    exact ⟨t, o, a1, b1, b2, b3⟩
/-- the table of a body with handlers -/
theorem vx_table {p : Program} {x y : MethodName} {S : Spec} {cc bytes : ByteArray} {maxL maxL' : Nat} {ret ret' : Option FieldType} {e : Env} {s s₁ : State} {m : MethodId} {args : Array Value} {below : List Frame} {meth : Method} {c : Code} {hh : List (Nat × Nat × Nat × Nat)}
    (B : BodyLoose p l y S cc maxL ret e s m args below meth c s₁) (h : (Cond.codeWith y bytes maxL' ret' hh).before args s = true) : c.exceptionTable.toList = tableOf hh := by
  obtain ⟨m9, meth9, c9, hn9, h1, h2, -, -, h6, -⟩ := Cond.codeWith_spec h
  cases Option.some.inj (hn9.symm.trans B.named)
  cases Option.some.inj (h1.symm.trans B.method)
  cases Option.some.inj (h2.symm.trans (Stand.of_body B).code)
  rw [← h6, table_eq]
end Bodies
end VXA
/-! ===== END ===== -/
/-! ===== BEGIN a static call of a method with an exception table ===== -/
section VXS
variable {p : Program} {l : Launch} {e : Env} {R : Room} {s : State} {m : MethodId} {args : Array Value} {below : List Frame} {meth : Method} {c : Code} {T : State} {H : Heap} {locs : List Loc} {cells slots : Nat}
abbrev vx_CSW (R : Room) (s : State) (args : Array Value) (own : String) (index : Nat) (y : MethodName) (bytes : ByteArray) (maxL : Nat) (ret : Option FieldType) (hh : List (Nat × Nat × Nat × Nat)) (ws : List Cond) (rm : Room) (mc ms n : Nat) : Prop :=
  (rm.cells = mc ∧ rm.slots = ms ∧ rm.frames + 1 ≤ R.frames ∧ 8 + (maxL + 11) + rm.locals ≤ R.locals ∧ (∀ w ∈ ws, ∀ (a' : Array Value) (U : State), s.WarmedH U.vm → w.before a' U = true) ∧ Cond.codeWith y bytes maxL ret hh ∈ ws) ∧
  (Cond.codeWith y bytes maxL ret hh).before args s = true ∧ (Cond.initialized y.cls).before args s = true ∧ (y.cls ≠ "java/lang/invoke/MethodHandle" ∧ y.cls ≠ "java/lang/invoke/VarHandle") ∧
  (∀ sig, parseMethodDescriptor y.desc = some sig → n = sig.parameters.length) ∧ (Cond.methodLink own index y).before args s = true ∧ (Cond.static y).before args s = true
theorem vx_cwSW {own : String} {index maxL mc ms : Nat} {y : MethodName} {bytes : ByteArray} {ret : Option FieldType} {hh : List (Nat × Nat × Nat × Nat)} {Ts ws ws' : List Cond} {rm : Room} (n : Nat) (ht : ∀ w ∈ Ts, w.before args s = true) (hT : GoodIn Ts (va_wsS own index y ws)) (hw : ws = Cond.codeWith y bytes maxL ret hh :: ws') (hrc : rm.cells = mc) (hrs : rm.slots = ms)
    (hd : y.cls ≠ "java/lang/invoke/MethodHandle" ∧ y.cls ≠ "java/lang/invoke/VarHandle" ∧ (parseMethodDescriptor y.desc).map (fun d => d.parameters.length) = some n) (hR : rm.frames + 1 ≤ R.frames ∧ 8 + (maxL + 11) + rm.locals ≤ R.locals) :
    vx_CSW R s args own index y bytes maxL ret hh ws rm mc ms n := by
  have ok : ∀ w ∈ va_wsS own index y ws, w.before args s = true := fun w h => ht w (hT w h).1
  have hG : GoodIn Ts ws := fun w h => hT w (by unfold va_wsS; exact List.mem_append_right _ h)
  have hc : Cond.codeWith y bytes maxL ret hh ∈ ws := by rw [hw]; exact List.mem_cons_self
  refine ⟨⟨hrc, hrs, hR.1, hR.2, pay_in ht hG, hc⟩, ht _ (hG _ hc).1, ok _ (by simp [va_wsS]), ⟨hd.1, hd.2.1⟩, fun sig h => ?_, ok _ (by simp [va_wsS]), ok _ (by simp [va_wsS])⟩
  have h2 := hd.2.2
  rw [h] at h2
  exact (Option.some.inj h2).symm
theorem vx_callSW (X : Stand p l e R s m args below meth c T locs cells slots) (hexec : p.tables.exec = Jvm.exec) {own : String} {index : Nat} {y : MethodName} {bytes : ByteArray} {maxL : Nat} {ret : Option FieldType} {hh : List (Nat × Nat × Nat × Nat)}
    (hown : s.vm.findClass own = some m.cls) (hlink : (Cond.methodLink own index y).before args s = true) (hstat : (Cond.static y).before args s = true) (hinit : (Cond.initialized y.cls).before args s = true)
    (hcode : (Cond.codeWith y bytes maxL ret hh).before args s = true) (hy : y.cls ≠ "java/lang/invoke/MethodHandle" ∧ y.cls ≠ "java/lang/invoke/VarHandle")
    {W9 : Nat} {Pre : Pt → Array Value → Prop} {Post : Pt → Array Value → Option Value → Pt → Prop} (hK : Back l R p e below s args y 3 W9 Pre Post)
    {g : JFrame} (hg : g.method = m) (hsize : g.locals.size = c.maxLocals) {argsL rest : List Value} (hlen : ∀ sig, parseMethodDescriptor y.desc = some sig → argsL.length = sig.parameters.length)
    (hstack : g.stack = argsL.reverse ++ rest) (hW : 2 * g.monitorRoom + (rest.map fun v => v.category).sum ≤ W9) (hdg : decode c.code g.pc = .ok (.invokestatic index, 3))
    (hpre : ∀ vm₁, s.WarmedH vm₁ → Pre ⟨T.setVm vm₁, locs, cells, slots⟩ argsL.toArray) :
    ∃ (v : Option Value) (vm₁ : Vm) (B : Pt), s.WarmedH vm₁ ∧ Stand p l e R s m args below meth c B.U B.locs B.cells B.slots ∧ Post ⟨T.setVm vm₁, locs, cells, slots⟩ argsL.toArray v B ∧
      ∀ target, Steps p.tables e below (B.U.setTop { g with pc := g.pc + 3, stack := v.toList ++ rest }) target → Steps p.tables e below (T.setTop g) target := by
  obtain ⟨mk, methM, cM, hnamed, hmethM, -, -, -, -, -, -, hsigM⟩ := Cond.codeWith_spec hcode
  have hstatic : methM.isStatic = true := Cond.static_spec hnamed hmethM hstat
  obtain ⟨kP, hkP, -⟩ := className_of_methodNamed hnamed
  have hinitP : kP.init = .initialized := Cond.initialized_spec (findClass_of_methodNamed hnamed) hkP hinit
  obtain ⟨vm₁, X₁, hstep₁⟩ := X.invokestatic hexec hown hlink hnamed hmethM hstatic hkP hinitP hy (g := g) hg (argsL := argsL) (rest := rest) (hlen _ hsigM) hstack hdg
  obtain ⟨v, B, X', hpost, hsteps⟩ := hK m meth c ⟨T.setVm vm₁, locs, cells, slots⟩ { g with stack := rest } (.invokestatic index) mk argsL.toArray X₁ hg hsize hdg hW (X₁.named hnamed) (hpre vm₁ X₁.warmed)
  exact ⟨v, vm₁, B, X₁.warmed, X', hpost, fun target h => hstep₁ _ fun acts => by rw [doInvoke_state]; exact hsteps.trans h⟩
theorem vx_runSW {y : MethodName} {bytes cc : ByteArray} {maxL nL mc ms n index : Nat} {ret : Option FieldType} {hh : List (Nat × Nat × Nat × Nat)} {ws : List Cond} {rm : Room} {Pc : Array Value → State → Prop} {Qc : Array Value → State → Outcome → State → Prop} {free : Addr → Prop} {Ts : List Cond} {own : String} {As rest : List Value} {g : JFrame}
    (S : CallFix p m c cc nL s args Ts own) (hM : Met l y ws rm Pc Qc mc ms free) (cw : vx_CSW R s args own index y bytes maxL ret hh ws rm mc ms n) (hp : PreS s H Pc As)
    (hg : g.method = m) (hn : As.length = n) (hsize : g.locals.size = nL) (hstack : g.stack = As.reverse ++ rest) (hW : 2 * g.monitorRoom + (rest.map fun v => v.category).sum ≤ 8) (hdg : decode cc g.pc = .ok (.invokestatic index, 3)) (hf : cells + mc ≤ R.cells ∧ slots + ms ≤ R.slots) :
    va_Run p l e R s m args below meth c H locs cells slots mc ms g rest (Qc As.toArray) (free) := by
  obtain ⟨⟨hrc, hrs, hfr, hlo, hws, hcw⟩, hcode, hini, hy, hlen, hl, hstt⟩ := cw
  have hK : Back l R p e below s args y 3 8 (PreOf R mc ms Pc) (PostOf Qc mc ms free) := va_backW (hh := hh) (bytes := bytes) (maxL := maxL) (ret := ret) hM hp.1 hrc hrs hfr hlo hws hcw (fun a' U hW => word_at hW (Or.inl (by first | rfl | simp [Cond.onTables, Cond.keeps, Cond.steady])) hini)
  obtain ⟨hx, hb, hml, ho, -⟩ := S
  intro T hT X
  obtain ⟨v, vm₁, ⟨U', l2, c2, s2⟩, hW₁, X', ⟨g', mk, t, L, e1, e2, hq, h1, hL, h2, h3⟩, st⟩ := vx_callSW X hx (hh := hh) (bytes := bytes) (maxL := maxL) (ret := ret) ho hl hstt hini hcode hy hK hg (hsize.trans hml.symm) (argsL := As) (rest := rest) (fun sig h => hn.trans (hlen sig h)) hstack hW (by rw [hb]; exact hdg)
    (fun vm₁ hW₁ => ⟨hf.1, hf.2, hp.2 (T.setVm vm₁) hT hW₁⟩)
  dsimp only [Pt.U, Pt.locs, Pt.cells, Pt.slots] at X' e1 e2 h1 h2 h3 st
  subst h1; subst h2; subst h3
  exact ⟨v, (T.setVm vm₁).calling g' mk As.toArray, t, U', L, hT, X', hL, e1, e2, hq, st⟩
/-- not caught here, past rows that name other classes: it goes on to the caller -/
theorem vx_outP {p : Program} {l : Launch} {e : Env} {R : Room} {s : State} {m : MethodId} {args : Array Value} {below : List Frame} {meth : Method} {c : Code} {H : Heap} {locs : List Loc} {cells slots : Nat} {free : Addr → Prop} {ls : Array Slot} {rest : List Value} {Qc : Array Value → State → Outcome → State → Prop} {XC : String → State → State → Prop}
    {pc : Nat} {own E : String} {ce : Cell} {q : Addr} {mc ms : Nat} (hown : s.vm.findClass own = some m.cls) (hlocks : meth.locks = false)
    (hpass : ∀ z ∈ c.exceptionTable.toList, covers z pc = false ∨ (z.catchType ≠ 0 ∧ ∃ nm : String, (Cond.classLink own z.catchType nm).before args s = true ∧ va_Nc E nm s)) (hcell : H[q]? = some ce) (hv : ce.vm = .none) (hcl : s.vm.findClass E = some ce.cls)
    (hx : ∀ t : State, t.heap = H → s.vm.Alike t.vm → XC E s t) (hf : ∀ z ∈ locs, free z.base) (hc : cells ≤ mc) (hs : slots ≤ ms) :
    vx_W p l e R s m args below meth c H locs cells slots (vx_MQ below Qc XC args s mc ms free) (F0 m pc ls rest) q := by
  intro T hT X
  have hpl : e.platform.magicAccessors = ({} : Platform).magicAccessors := by rw [X.admits.platform]
  obtain ⟨vm', hW', X', st⟩ := X.outThrough hlocks q (g := F0 m pc ls rest) rfl rfl rfl (cell := ce) (by rw [hT]; exact hcell) (by rw [hv]; rfl)
    (by obtain ⟨k9, h9, -⟩ := Vm.findClass_spec hcl; exact ⟨k9, h9⟩) (fun z hz => by
      rcases hpass z hz with h | ⟨hz0, nm, hl1, hn1⟩
      · exact Or.inl h
      · obtain ⟨c6, hc6, hcl6⟩ := Cond.classLink_spec hown hl1 e.platform hpl
        obtain ⟨a8, b8, h1, h2, h3⟩ := hn1
        cases Option.some.inj (h1.symm.trans hcl)
        cases Option.some.inj (h2.symm.trans hc6)
        exact Or.inr ⟨hz0, _, hcl6, h3⟩)
  obtain ⟨g₀, hfr⟩ := X'.frames_eq
  have hcell9 : ((T.setVm vm').setFrames (.throwing q :: below)).heap[q]? = some ce := by
    show T.heap[q]? = some ce
    rw [hT]; exact hcell
  have hend : Ended ((T.setVm vm').setFrames (.throwing q :: below)) below (.threw q) := State.frames_setFrames _ (State.cur_lt_of_frames hfr)
  refine ⟨(T.setVm vm').setFrames (.throwing q :: below), ?_, .threw q, X'.here.running, hend, Or.inr ⟨q, rfl, E, ce, locs, hx _ hT (X'.ends _).1.alike, hcell9, hv, hcl, (X'.ends _).1, (X'.ends _).2.mono hc hs, hf⟩⟩
  rw [X.pushThrowing_eq]
  exact st
/-- a thing of a world lies in the heap -/
theorem vx_lt {D : va_G} {cl : List vw_C} {ws : va_W} {H1 : Heap} (h : va_P D cl ws H1) {k : Nat} {q : Nat × va_E} (hk : ws[k]? = some q) : q.1 < H1.size := (h k q hk).lt
end VXS
/-! ===== END ===== -/
/-! ===== BEGIN methods with a table of their own: called by a name, returning or throwing ===== -/
section VXH
/-! vx_backW, vx_callVX, vx_callSX, vx_callVW, vx_runVW, vx_runVX, vx_runSX, vx_ofWH follow the same proofs as their sisters above (Free/Laws.lean, Shelf42/LK1.lean); vx_outP calls Shelf42/NT130.lean (outThrough). -/
section
variable {l : Launch} {R : Room} {p : Program} {e : Env} {below : List Frame} {s : State} {sargs : Array Value} {y : MethodName} {len W9 : Nat}
theorem vx_backW {ws : List Cond} {rm : Room} {Pc : Array Value → State → Prop} {Qc : Array Value → State → Outcome → State → Prop} {XC : String → State → State → Prop} {mc ms : Nat} {free : Addr → Prop} {bytes : ByteArray} {maxL : Nat} {ret : Option FieldType} {hh : List (Nat × Nat × Nat × Nat)}
    (hM : vx_Met l y ws rm Pc Qc XC mc ms free) (hblind : FrameBlind Pc) (hrc : rm.cells = mc) (hrs : rm.slots = ms)
    (hframes : rm.frames + 1 ≤ R.frames) (hlocals : W9 + (maxL + 11) + rm.locals ≤ R.locals)
    (hws : ∀ w ∈ ws, ∀ a' U, s.WarmedH U.vm → w.before a' U = true) (hcode : Cond.codeWith y bytes maxL ret hh ∈ ws) (hinit : ∀ a' U, s.WarmedH U.vm → (Cond.initialized y.cls).before a' U = true) :
    vx_Back l R p e below s sargs y len W9 (PreOf R mc ms Pc) (PostOf Qc mc ms free) (vx_Post XC mc ms free) := by
  intro m meth c A g ig mk a X hg hsize hdg hW hn hp
  have h1 : (headSpec ws rm).pre.before a A.U = true := atoms_intro fun w hw => hws w hw _ _ X.warmed
  have h2 : (Cond.codeWith y bytes maxL ret hh).before a A.U = true := hws _ hcode _ _ X.warmed
  have h3 : (Cond.initialized y.cls).before a A.U = true := hinit _ _ X.warmed
  have h4 : A.cells + (headSpec ws rm).room.cells ≤ R.cells := by rw [show (headSpec ws rm).room.cells = mc from hrc]; exact hp.1
  have h5 : A.slots + (headSpec ws rm).room.slots ≤ R.slots := by rw [show (headSpec ws rm).room.slots = ms from hrs]; exact hp.2.1
  have hPc : Pc a (A.U.calling g mk a) := hblind _ _ _ _ hp.2.2
  obtain ⟨U, Ls, c0, s0⟩ := A
  dsimp only [Pt.U, Pt.locs, Pt.cells, Pt.slots] at h1 h2 h3 h4 h5 X hn hPc ⊢
  obtain ⟨m9, methY, cY, hn9, hmY, hcY, -, hlY, -⟩ := Cond.codeWith_spec h2
  cases Option.some.inj (hn9.symm.trans hn)
  obtain ⟨kY, hkY, -⟩ := className_of_methodNamed hn
  have hinitY : kY.init = .initialized := Cond.initialized_spec (findClass_of_methodNamed hn) hkY h3
  have h : At U g.method c below := by rw [hg]; exact X.here
  have hlocals9 : W9 + (maxL + 11) + (headSpec ws rm).room.locals ≤ R.locals := hlocals
  have happ : (headSpec ws rm).appliesLoose y e.platform (U.calling g mk a) = true :=
    Spec.appliesLoose_calling (g := g) h hdg hn hkY hinitY
      (X.room_calling (g := g) (R' := (headSpec ws rm).room) hsize hmY hcY hframes (by rw [hlY]; omega) h4 h5) h1
  obtain ⟨mid, hmid⟩ := h.above
  have hfr : (U.setTop g).frames = (.java g :: mid) ++ below := by rw [State.frames_setTop' g h.top, hmid]; rfl
  obtain ⟨o, s₂, hsteps, -, hend, hq⟩ := Steps.callFree hM p X.admits X.cas X.clock (acts := []) hfr happ hPc trivial
  have hq' : vx_Q Qc XC mc ms free a (U.calling g mk a) o s₂ := hq
  rw [State.frames_setTop' g h.top] at hend
  obtain ⟨g₀, hg0⟩ := Option.isSome_iff_exists.mp h.top
  obtain ⟨r, hr⟩ := State.topJava?_eq_some.mp hg0
  have hr' : (({ U with heap := s₂.heap, slotsUsed := s₂.slotsUsed } : State).setVm s₂.vm).frames = .java g₀ :: r := hr
  rcases hq' with ⟨hqc, L, hfe, hL⟩ | ⟨q, rfl, E, ce, L, hx, hce, hcv, hcl, hW₂, hsm, hL⟩
  · obtain ⟨⟨v, rfl⟩, hW₂, e2, q2, q3, q4, q5, q6⟩ := id hfe
    have e3 : s₂ = ({ (U.calling g mk a).setFrames s₂.frames with heap := s₂.heap, slotsUsed := s₂.slotsUsed } : State).setVm s₂.vm := by
      have : s₂ = ({ s₂ with vm := (U.calling g mk a).vm } : State).setVm s₂.vm := rfl
      rw [e2] at this
      exact this
    obtain ⟨c₂, i₂, len₂, hc₂, hd₂, hf₂⟩ := hend
    have hW' : U.WarmedH s₂.vm := hW₂
    have hcc : c₂ = c := by
      have h1 : s₂.code? g.method = U.code? g.method := by
        rw [State.code?_eq, State.code?_eq, hW'.alike.method?]
      exact Option.some.inj (hc₂.symm.trans (h1.trans h.code))
    subst hcc
    have hlen : len₂ = len := by rw [hdg] at hd₂; cases hd₂; rfl
    subst hlen
    have hs₂ : s₂ = (({ U with heap := s₂.heap, slotsUsed := s₂.slotsUsed } : State).setVm s₂.vm).setTop { g with pc := g.pc + len₂, stack := v.toList ++ g.stack } := by
      refine e3.trans ?_
      rw [hf₂, State.calling_eq h.top, State.setFrames_setFrames, State.setTop_of_frames _ hr', hr]
      rfl
    have hsame : U.sameButNew ({ U with heap := s₂.heap, slotsUsed := s₂.slotsUsed } : State) L mc ms := by
      refine ⟨?_, q2, q3, q4, q5, q6⟩
      obtain ⟨t, ht, -⟩ := State.frames_cons hr
      show ({ U with heap := s₂.heap, slotsUsed := s₂.slotsUsed } : State) = { U.setFrames U.frames with heap := s₂.heap, slotsUsed := s₂.slotsUsed }
      rw [State.setFrames_self ht]
    subst hg
    refine Or.inl ⟨v, ⟨(({ U with heap := s₂.heap, slotsUsed := s₂.slotsUsed } : State).setVm s₂.vm), Ls ++ L, c0 + mc, s0 + ms⟩,
      ⟨X.admits, X.cas, X.clock, X.frames, X.room, X.hears, X.method, X.code, (X.here.setHeapUsed s₂.heap s₂.slotsUsed).setVm hW'.alike, X.tail, State.WarmedH.trans X.warmed hW', X.limits, X.bytes, X.same.trans (hsame.setVm s.vm)⟩,
      ⟨g, mk, s₂, L, rfl, rfl, hqc, rfl, hL, rfl, rfl⟩, ?_⟩
    show Steps p.tables e below _ ((({ U with heap := s₂.heap, slotsUsed := s₂.slotsUsed } : State).setVm s₂.vm).setTop { g with pc := g.pc + len₂, stack := v.toList ++ g.stack })
    rw [← hs₂]
    exact hsteps
  · obtain ⟨e2, q2, q3, q4, q5, q6⟩ := id hsm
    have e3 : s₂ = ({ (U.calling g mk a).setFrames s₂.frames with heap := s₂.heap, slotsUsed := s₂.slotsUsed } : State).setVm s₂.vm := by
      have : s₂ = ({ s₂ with vm := (U.calling g mk a).vm } : State).setVm s₂.vm := rfl
      rw [e2] at this
      exact this
    have hf₂ : s₂.frames = .throwing q :: .java g :: U.frames.tail := hend
    have hW' : U.WarmedH s₂.vm := hW₂
    have hs₂ : s₂ = ((({ U with heap := s₂.heap, slotsUsed := s₂.slotsUsed } : State).setVm s₂.vm).setTop g).pushFrame (.throwing q) := by
      refine e3.trans ?_
      rw [hf₂, State.calling_eq h.top, State.setFrames_setFrames, State.pushFrame, State.frames_setTop _ hr', State.setTop_of_frames _ hr', State.setFrames_setFrames, hr]
      rfl
    have hsame : U.sameButNew ({ U with heap := s₂.heap, slotsUsed := s₂.slotsUsed } : State) L mc ms := by
      refine ⟨?_, q2, q3, q4, q5, q6⟩
      obtain ⟨t, ht, -⟩ := State.frames_cons hr
      show ({ U with heap := s₂.heap, slotsUsed := s₂.slotsUsed } : State) = { U.setFrames U.frames with heap := s₂.heap, slotsUsed := s₂.slotsUsed }
      rw [State.setFrames_self ht]
    subst hg
    refine Or.inr ⟨q, ⟨(({ U with heap := s₂.heap, slotsUsed := s₂.slotsUsed } : State).setVm s₂.vm), Ls ++ L, c0 + mc, s0 + ms⟩,
      ⟨X.admits, X.cas, X.clock, X.frames, X.room, X.hears, X.method, X.code, (X.here.setHeapUsed s₂.heap s₂.slotsUsed).setVm hW'.alike, X.tail, State.WarmedH.trans X.warmed hW', X.limits, X.bytes, X.same.trans (hsame.setVm s.vm)⟩,
      ⟨g, mk, s₂, L, E, ce, rfl, rfl, hx, hce, hcv, hcl, rfl, hL, rfl, rfl⟩, ?_⟩
    show Steps p.tables e below _ (((({ U with heap := s₂.heap, slotsUsed := s₂.slotsUsed } : State).setVm s₂.vm).setTop g).pushFrame (.throwing q))
    rw [← hs₂]
    exact hsteps
end
variable {p : Program} {l : Launch} {e : Env} {R : Room} {s : State} {m : MethodId} {args : Array Value} {below : List Frame} {meth : Method} {c : Code} {T : State} {H : Heap} {locs : List Loc} {cells slots : Nat}
theorem vx_callVX (X : Stand p l e R s m args below meth c T locs cells slots) (hexec : p.tables.exec = Jvm.exec) {own C : String} {index : Nat} {y : MethodName} {bytes : ByteArray} {maxL : Nat} {ret : Option FieldType} {hh : List (Nat × Nat × Nat × Nat)}
    (hown : s.vm.findClass own = some m.cls) (hlink : (Cond.methodLink own index y).before args s = true) (hinst : (Cond.instanceMethod y).before args s = true) (hsel : (Cond.selects C y y).before args s = true)
    (hcode : (Cond.codeWith y bytes maxL ret hh).before args s = true) (hy : y.cls ≠ "java/lang/invoke/MethodHandle" ∧ y.cls ≠ "java/lang/invoke/VarHandle")
    {W9 : Nat} {Pre : Pt → Array Value → Prop} {Post : Pt → Array Value → Option Value → Pt → Prop} {PostX : Pt → Array Value → Addr → Pt → Prop} (hK : vx_Back l R p e below s args y 3 W9 Pre Post PostX)
    {b : Addr} {cellB : Cell} (hcell : T.heap[b]? = some cellB) (hobj : cellB.vm.isStatics = false) (hcls : s.vm.findClass C = some cellB.cls)
    {g : JFrame} (hg : g.method = m) (hsize : g.locals.size = c.maxLocals) {argsL rest : List Value} (hlen : ∀ sig, parseMethodDescriptor y.desc = some sig → argsL.length = sig.parameters.length)
    (hstack : g.stack = argsL.reverse ++ .ref b :: rest) (hW : 2 * g.monitorRoom + (rest.map fun v => v.category).sum ≤ W9) (hdg : decode c.code g.pc = .ok (.invokevirtual index, 3))
    (hpre : ∀ vm₁, s.WarmedH vm₁ → Pre ⟨T.setVm vm₁, locs, cells, slots⟩ (Value.ref b :: argsL).toArray) :
    (∃ (v : Option Value) (vm₁ : Vm) (B : Pt), s.WarmedH vm₁ ∧ Stand p l e R s m args below meth c B.U B.locs B.cells B.slots ∧ Post ⟨T.setVm vm₁, locs, cells, slots⟩ (Value.ref b :: argsL).toArray v B ∧
      ∀ target, Steps p.tables e below (B.U.setTop { g with pc := g.pc + 3, stack := v.toList ++ rest }) target → Steps p.tables e below (T.setTop g) target) ∨
    (∃ (q : Addr) (vm₁ : Vm) (B : Pt), s.WarmedH vm₁ ∧ Stand p l e R s m args below meth c B.U B.locs B.cells B.slots ∧ PostX ⟨T.setVm vm₁, locs, cells, slots⟩ (Value.ref b :: argsL).toArray q B ∧
      Steps p.tables e below (T.setTop g) ((B.U.setTop { g with stack := rest }).pushFrame (.throwing q))) := by
  obtain ⟨mk, methM, hnamed, hmethM, hstM, habM⟩ := Cond.instanceMethod_spec hinst
  obtain ⟨m8, methM', cM, hn8, hmethM', -, -, -, -, -, -, hsigM⟩ := Cond.codeWith_spec hcode
  cases Option.some.inj (hn8.symm.trans hnamed)
  cases hmethM.symm.trans hmethM'
  obtain ⟨c2, r2, m2, q1, q2, q3, q4, kP, hkP, hkPi⟩ := Cond.selects_spec hsel
  cases hcls.symm.trans q1
  cases (State.methodFound?_of_named hnamed hy).symm.trans q2
  cases hnamed.symm.trans q3
  have hselP : selectMethod e.platform s.vm cellB.cls mk = .method mk := by rw [Launch.admits_selectMethod X.admits]; exact q4
  obtain ⟨vm₁, X₁, hstep₁⟩ := X.invokevirtual hexec hown hlink hnamed hmethM hstM hkP hkPi hy (a := b) (cell := cellB) hcell
    (fun z h => by rw [h] at hobj; cases hobj) hselP hmethM habM hkP hkPi (g := g) hg (argsL := argsL) (rest := rest) (hlen _ hsigM) hstack hdg
  rcases hK m meth c ⟨T.setVm vm₁, locs, cells, slots⟩ { g with stack := rest } (.invokevirtual index) mk (Value.ref b :: argsL).toArray X₁ hg hsize hdg hW (X₁.named hnamed) (hpre vm₁ X₁.warmed) with ⟨v, B, X', hpost, hsteps⟩ | ⟨q, B, X', hpost, hsteps⟩
  · exact Or.inl ⟨v, vm₁, B, X₁.warmed, X', hpost, fun target h => hstep₁ _ fun acts => by rw [doInvoke_state]; exact hsteps.trans h⟩
  · exact Or.inr ⟨q, vm₁, B, X₁.warmed, X', hpost, hstep₁ _ fun acts => by rw [doInvoke_state]; exact hsteps⟩
theorem vx_callSX (X : Stand p l e R s m args below meth c T locs cells slots) (hexec : p.tables.exec = Jvm.exec) {own : String} {index : Nat} {y : MethodName} {bytes : ByteArray} {maxL : Nat} {ret : Option FieldType} {hh : List (Nat × Nat × Nat × Nat)}
    (hown : s.vm.findClass own = some m.cls) (hlink : (Cond.methodLink own index y).before args s = true) (hstat : (Cond.static y).before args s = true) (hinit : (Cond.initialized y.cls).before args s = true)
    (hcode : (Cond.codeWith y bytes maxL ret hh).before args s = true) (hy : y.cls ≠ "java/lang/invoke/MethodHandle" ∧ y.cls ≠ "java/lang/invoke/VarHandle")
    {W9 : Nat} {Pre : Pt → Array Value → Prop} {Post : Pt → Array Value → Option Value → Pt → Prop} {PostX : Pt → Array Value → Addr → Pt → Prop} (hK : vx_Back l R p e below s args y 3 W9 Pre Post PostX)
    {g : JFrame} (hg : g.method = m) (hsize : g.locals.size = c.maxLocals) {argsL rest : List Value} (hlen : ∀ sig, parseMethodDescriptor y.desc = some sig → argsL.length = sig.parameters.length)
    (hstack : g.stack = argsL.reverse ++ rest) (hW : 2 * g.monitorRoom + (rest.map fun v => v.category).sum ≤ W9) (hdg : decode c.code g.pc = .ok (.invokestatic index, 3))
    (hpre : ∀ vm₁, s.WarmedH vm₁ → Pre ⟨T.setVm vm₁, locs, cells, slots⟩ argsL.toArray) :
    (∃ (v : Option Value) (vm₁ : Vm) (B : Pt), s.WarmedH vm₁ ∧ Stand p l e R s m args below meth c B.U B.locs B.cells B.slots ∧ Post ⟨T.setVm vm₁, locs, cells, slots⟩ argsL.toArray v B ∧
      ∀ target, Steps p.tables e below (B.U.setTop { g with pc := g.pc + 3, stack := v.toList ++ rest }) target → Steps p.tables e below (T.setTop g) target) ∨
    (∃ (q : Addr) (vm₁ : Vm) (B : Pt), s.WarmedH vm₁ ∧ Stand p l e R s m args below meth c B.U B.locs B.cells B.slots ∧ PostX ⟨T.setVm vm₁, locs, cells, slots⟩ argsL.toArray q B ∧
      Steps p.tables e below (T.setTop g) ((B.U.setTop { g with stack := rest }).pushFrame (.throwing q))) := by
  obtain ⟨mk, methM, cM, hnamed, hmethM, -, -, -, -, -, -, hsigM⟩ := Cond.codeWith_spec hcode
  have hstatic : methM.isStatic = true := Cond.static_spec hnamed hmethM hstat
  obtain ⟨kP, hkP, -⟩ := className_of_methodNamed hnamed
  have hinitP : kP.init = .initialized := Cond.initialized_spec (findClass_of_methodNamed hnamed) hkP hinit
  obtain ⟨vm₁, X₁, hstep₁⟩ := X.invokestatic hexec hown hlink hnamed hmethM hstatic hkP hinitP hy (g := g) hg (argsL := argsL) (rest := rest) (hlen _ hsigM) hstack hdg
  rcases hK m meth c ⟨T.setVm vm₁, locs, cells, slots⟩ { g with stack := rest } (.invokestatic index) mk argsL.toArray X₁ hg hsize hdg hW (X₁.named hnamed) (hpre vm₁ X₁.warmed) with ⟨v, B, X', hpost, hsteps⟩ | ⟨q, B, X', hpost, hsteps⟩
  · exact Or.inl ⟨v, vm₁, B, X₁.warmed, X', hpost, fun target h => hstep₁ _ fun acts => by rw [doInvoke_state]; exact hsteps.trans h⟩
  · exact Or.inr ⟨q, vm₁, B, X₁.warmed, X', hpost, hstep₁ _ fun acts => by rw [doInvoke_state]; exact hsteps⟩
theorem vx_callVW (X : Stand p l e R s m args below meth c T locs cells slots) (hexec : p.tables.exec = Jvm.exec) {own C : String} {index : Nat} {y : MethodName} {bytes : ByteArray} {maxL : Nat} {ret : Option FieldType} {hh : List (Nat × Nat × Nat × Nat)}
    (hown : s.vm.findClass own = some m.cls) (hlink : (Cond.methodLink own index y).before args s = true) (hinst : (Cond.instanceMethod y).before args s = true) (hsel : (Cond.selects C y y).before args s = true)
    (hcode : (Cond.codeWith y bytes maxL ret hh).before args s = true) (hy : y.cls ≠ "java/lang/invoke/MethodHandle" ∧ y.cls ≠ "java/lang/invoke/VarHandle")
    {W9 : Nat} {Pre : Pt → Array Value → Prop} {Post : Pt → Array Value → Option Value → Pt → Prop} (hK : Back l R p e below s args y 3 W9 Pre Post)
    {b : Addr} {cellB : Cell} (hcell : T.heap[b]? = some cellB) (hobj : cellB.vm.isStatics = false) (hcls : s.vm.findClass C = some cellB.cls)
    {g : JFrame} (hg : g.method = m) (hsize : g.locals.size = c.maxLocals) {argsL rest : List Value} (hlen : ∀ sig, parseMethodDescriptor y.desc = some sig → argsL.length = sig.parameters.length)
    (hstack : g.stack = argsL.reverse ++ .ref b :: rest) (hW : 2 * g.monitorRoom + (rest.map fun v => v.category).sum ≤ W9) (hdg : decode c.code g.pc = .ok (.invokevirtual index, 3))
    (hpre : ∀ vm₁, s.WarmedH vm₁ → Pre ⟨T.setVm vm₁, locs, cells, slots⟩ (Value.ref b :: argsL).toArray) :
    ∃ (v : Option Value) (vm₁ : Vm) (B : Pt), s.WarmedH vm₁ ∧ Stand p l e R s m args below meth c B.U B.locs B.cells B.slots ∧ Post ⟨T.setVm vm₁, locs, cells, slots⟩ (Value.ref b :: argsL).toArray v B ∧
      ∀ target, Steps p.tables e below (B.U.setTop { g with pc := g.pc + 3, stack := v.toList ++ rest }) target → Steps p.tables e below (T.setTop g) target := by
  obtain ⟨mk, methM, hnamed, hmethM, hstM, habM⟩ := Cond.instanceMethod_spec hinst
  obtain ⟨m8, methM', cM, hn8, hmethM', -, -, -, -, -, -, hsigM⟩ := Cond.codeWith_spec hcode
  cases Option.some.inj (hn8.symm.trans hnamed)
  cases hmethM.symm.trans hmethM'
  obtain ⟨c2, r2, m2, q1, q2, q3, q4, kP, hkP, hkPi⟩ := Cond.selects_spec hsel
  cases hcls.symm.trans q1
  cases (State.methodFound?_of_named hnamed hy).symm.trans q2
  cases hnamed.symm.trans q3
  have hselP : selectMethod e.platform s.vm cellB.cls mk = .method mk := by rw [Launch.admits_selectMethod X.admits]; exact q4
  obtain ⟨vm₁, X₁, hstep₁⟩ := X.invokevirtual hexec hown hlink hnamed hmethM hstM hkP hkPi hy (a := b) (cell := cellB) hcell
    (fun z h => by rw [h] at hobj; cases hobj) hselP hmethM habM hkP hkPi (g := g) hg (argsL := argsL) (rest := rest) (hlen _ hsigM) hstack hdg
  obtain ⟨v, B, X', hpost, hsteps⟩ := hK m meth c ⟨T.setVm vm₁, locs, cells, slots⟩ { g with stack := rest } (.invokevirtual index) mk (Value.ref b :: argsL).toArray X₁ hg hsize hdg hW (X₁.named hnamed) (hpre vm₁ X₁.warmed)
  exact ⟨v, vm₁, B, X₁.warmed, X', hpost, fun target h => hstep₁ _ fun acts => by rw [doInvoke_state]; exact hsteps.trans h⟩
abbrev vx_CVW (R : Room) (s : State) (args : Array Value) (own C : String) (index : Nat) (y : MethodName) (bytes : ByteArray) (maxL : Nat) (ret : Option FieldType) (hh : List (Nat × Nat × Nat × Nat)) (ws : List Cond) (rm : Room) (mc ms n : Nat) : Prop :=
  (rm.cells = mc ∧ rm.slots = ms ∧ rm.frames + 1 ≤ R.frames ∧ 8 + (maxL + 11) + rm.locals ≤ R.locals ∧ (∀ w ∈ ws, ∀ (a' : Array Value) (U : State), s.WarmedH U.vm → w.before a' U = true) ∧ Cond.codeWith y bytes maxL ret hh ∈ ws) ∧
  (Cond.codeWith y bytes maxL ret hh).before args s = true ∧ (Cond.initialized y.cls).before args s = true ∧ (y.cls ≠ "java/lang/invoke/MethodHandle" ∧ y.cls ≠ "java/lang/invoke/VarHandle") ∧
  (∀ sig, parseMethodDescriptor y.desc = some sig → n = sig.parameters.length) ∧ (Cond.methodLink own index y).before args s = true ∧ (Cond.instanceMethod y).before args s = true ∧ (Cond.selects C y y).before args s = true
theorem vx_cwVW {own C : String} {index maxL mc ms : Nat} {y : MethodName} {bytes : ByteArray} {ret : Option FieldType} {hh : List (Nat × Nat × Nat × Nat)} {Ts ws ws' : List Cond} {rm : Room} (n : Nat) (ht : ∀ w ∈ Ts, w.before args s = true) (hT : GoodIn Ts (wsV own index C y ws)) (hw : ws = Cond.codeWith y bytes maxL ret hh :: ws') (hrc : rm.cells = mc) (hrs : rm.slots = ms)
    (hd : y.cls = C ∧ y.cls ≠ "java/lang/invoke/MethodHandle" ∧ y.cls ≠ "java/lang/invoke/VarHandle" ∧ (parseMethodDescriptor y.desc).map (fun d => d.parameters.length) = some n) (hR : rm.frames + 1 ≤ R.frames ∧ 8 + (maxL + 11) + rm.locals ≤ R.locals) :
    vx_CVW R s args own C index y bytes maxL ret hh ws rm mc ms n := by
  obtain ⟨hC, hd⟩ := hd
  subst hC
  have ok : ∀ w ∈ wsV own index y.cls y ws, w.before args s = true := fun w h => ht w (hT w h).1
  have hG : GoodIn Ts ws := fun w h => hT w (by unfold wsV; exact List.mem_append_right _ h)
  have hc : Cond.codeWith y bytes maxL ret hh ∈ ws := by rw [hw]; exact List.mem_cons_self
  refine ⟨⟨hrc, hrs, hR.1, hR.2, pay_in ht hG, hc⟩, ht _ (hG _ hc).1, ok _ (by simp [wsV]), ⟨hd.1, hd.2.1⟩, fun sig h => ?_, ok _ (by simp [wsV]), ok _ (by simp [wsV]), ok _ (by simp [wsV])⟩
  have h2 := hd.2.2
  rw [h] at h2
  exact (Option.some.inj h2).symm
theorem vx_runVW {y : MethodName} {bytes cc : ByteArray} {maxL nL mc ms n index : Nat} {ret : Option FieldType} {hh : List (Nat × Nat × Nat × Nat)} {ws : List Cond} {rm : Room} {Pc : Array Value → State → Prop} {Qc : Array Value → State → Outcome → State → Prop} {free : Addr → Prop} {Ts : List Cond} {own C : String} {b : Addr} {As rest : List Value} {g : JFrame}
    (S : CallFix p m c cc nL s args Ts own) (hM : Met l y ws rm Pc Qc mc ms free) (cw : vx_CVW R s args own C index y bytes maxL ret hh ws rm mc ms n) (hp : PreV s H C b Pc As)
    (hg : g.method = m) (hn : As.length = n) (hsize : g.locals.size = nL) (hstack : g.stack = As.reverse ++ .ref b :: rest) (hW : 2 * g.monitorRoom + (rest.map fun v => v.category).sum ≤ 8) (hdg : decode cc g.pc = .ok (.invokevirtual index, 3)) (hf : cells + mc ≤ R.cells ∧ slots + ms ≤ R.slots) :
    va_Run p l e R s m args below meth c H locs cells slots mc ms g rest (Qc (Value.ref b :: As).toArray) free := by
  obtain ⟨⟨hrc, hrs, hfr, hlo, hws, hcw⟩, hcode, hini, hy, hlen, hl, hin, hse⟩ := cw
  have hK : Back l R p e below s args y 3 8 (PreOf R mc ms Pc) (PostOf Qc mc ms free) := va_backW (hh := hh) (bytes := bytes) (maxL := maxL) (ret := ret) hM hp.1 hrc hrs hfr hlo hws hcw (fun a' U hW => word_at hW (Or.inl (by first | rfl | simp [Cond.onTables, Cond.keeps, Cond.steady])) hini)
  obtain ⟨hx, hb, hml, ho, -⟩ := S
  obtain ⟨-, ⟨cellB, hcB, hoB, hclB⟩, hPc⟩ := hp
  intro T hT X
  obtain ⟨v, vm₁, ⟨U', l2, c2, s2⟩, hW₁, X', ⟨g', mk, t, L, e1, e2, hq, h1, hL, h2, h3⟩, st⟩ := vx_callVW X hx (C := C) (hh := hh) (bytes := bytes) (maxL := maxL) (ret := ret) ho hl hin hse hcode hy hK (by rw [hT]; exact hcB) hoB hclB hg (hsize.trans hml.symm) (argsL := As) (rest := rest) (fun sig h => hn.trans (hlen sig h)) hstack hW (by rw [hb]; exact hdg)
    (fun vm₁ hW₁ => ⟨hf.1, hf.2, hPc (T.setVm vm₁) hT hW₁⟩)
  dsimp only [Pt.U, Pt.locs, Pt.cells, Pt.slots] at X' e1 e2 h1 h2 h3 st
  subst h1; subst h2; subst h3
  exact ⟨v, (T.setVm vm₁).calling g' mk (Value.ref b :: As).toArray, t, U', L, hT, X', hL, e1, e2, hq, st⟩
section
variable {y : MethodName} {bytes cc : ByteArray} {maxL nL mc ms n index : Nat} {ret : Option FieldType} {ws : List Cond} {rm : Room} {Pc : Array Value → State → Prop} {Qc : Array Value → State → Outcome → State → Prop} {XC : String → State → State → Prop} {free : Addr → Prop} {Ts : List Cond} {own C : String} {b : Addr} {As rest : List Value} {g : JFrame}
theorem vx_runVX {hh : List (Nat × Nat × Nat × Nat)} (S : CallFix p m c cc nL s args Ts own) (hM : vx_Met l y ws rm Pc Qc XC mc ms free) (cw : vx_CVW R s args own C index y bytes maxL ret hh ws rm mc ms n) (hp : PreV s H C b Pc As)
    (hg : g.method = m) (hn : As.length = n) (hsize : g.locals.size = nL) (hstack : g.stack = As.reverse ++ .ref b :: rest) (hW : 2 * g.monitorRoom + (rest.map fun v => v.category).sum ≤ 8) (hdg : decode cc g.pc = .ok (.invokevirtual index, 3)) (hf : cells + mc ≤ R.cells ∧ slots + ms ≤ R.slots) :
    vx_Run p l e R s m args below meth c H locs cells slots mc ms g rest (Qc (Value.ref b :: As).toArray) XC free := by
  obtain ⟨⟨hrc, hrs, hfr, hlo, hws, hcw⟩, hcode, hini, hy, hlen, hl, hin, hse⟩ := cw
  have hK : vx_Back l R p e below s args y 3 8 (PreOf R mc ms Pc) (PostOf Qc mc ms free) (vx_Post XC mc ms free) := vx_backW (hh := hh) (bytes := bytes) (maxL := maxL) (ret := ret) hM hp.1 hrc hrs hfr hlo hws hcw (fun a' U hW => word_at hW (Or.inl (by first | rfl | simp [Cond.onTables, Cond.keeps, Cond.steady])) hini)
  obtain ⟨hx, hb, hml, ho, -⟩ := S
  obtain ⟨-, ⟨cellB, hcB, hoB, hclB⟩, hPc⟩ := hp
  intro T hT X
  rcases vx_callVX X hx (C := C) (hh := hh) (bytes := bytes) (maxL := maxL) (ret := ret) ho hl hin hse hcode hy hK (by rw [hT]; exact hcB) hoB hclB hg (hsize.trans hml.symm) (argsL := As) (rest := rest) (fun sig h => hn.trans (hlen sig h)) hstack hW (by rw [hb]; exact hdg)
    (fun vm₁ hW₁ => ⟨hf.1, hf.2, hPc (T.setVm vm₁) hT hW₁⟩) with ⟨v, vm₁, ⟨U', l2, c2, s2⟩, hW₁, X', ⟨g', mk, t, L, e1, e2, hq, h1, hL, h2, h3⟩, st⟩ | ⟨q, vm₁, ⟨U', l2, c2, s2⟩, hW₁, X', ⟨g', mk, t, L, E, ce, e1, e2, hq, hce, hcv, hcl, h1, hL, h2, h3⟩, st⟩
  · dsimp only [Pt.U, Pt.locs, Pt.cells, Pt.slots] at X' e1 e2 h1 h2 h3 st
    subst h1; subst h2; subst h3
    exact Or.inl ⟨v, (T.setVm vm₁).calling g' mk (Value.ref b :: As).toArray, t, U', L, hT, X', hL, e1, e2, hq, st⟩
  · dsimp only [Pt.U, Pt.locs, Pt.cells, Pt.slots] at X' e1 e2 h1 h2 h3 st hcl
    subst h1; subst h2; subst h3
    exact Or.inr ⟨q, (T.setVm vm₁).calling g' mk (Value.ref b :: As).toArray, t, U', L, E, ce, hT, X', hL, e1, e2, hq, hce, hcv, vx_cls hW₁ hcl, st⟩
theorem vx_runSX {hh : List (Nat × Nat × Nat × Nat)} (S : CallFix p m c cc nL s args Ts own) (hM : vx_Met l y ws rm Pc Qc XC mc ms free) (cw : vx_CSW R s args own index y bytes maxL ret hh ws rm mc ms n) (hp : PreS s H Pc As)
    (hg : g.method = m) (hn : As.length = n) (hsize : g.locals.size = nL) (hstack : g.stack = As.reverse ++ rest) (hW : 2 * g.monitorRoom + (rest.map fun v => v.category).sum ≤ 8) (hdg : decode cc g.pc = .ok (.invokestatic index, 3)) (hf : cells + mc ≤ R.cells ∧ slots + ms ≤ R.slots) :
    vx_Run p l e R s m args below meth c H locs cells slots mc ms g rest (Qc As.toArray) XC free := by
  obtain ⟨⟨hrc, hrs, hfr, hlo, hws, hcw⟩, hcode, hini, hy, hlen, hl, hstt⟩ := cw
  have hK : vx_Back l R p e below s args y 3 8 (PreOf R mc ms Pc) (PostOf Qc mc ms free) (vx_Post XC mc ms free) := vx_backW (hh := hh) (bytes := bytes) (maxL := maxL) (ret := ret) hM hp.1 hrc hrs hfr hlo hws hcw (fun a' U hW => word_at hW (Or.inl (by first | rfl | simp [Cond.onTables, Cond.keeps, Cond.steady])) hini)
  obtain ⟨hx, hb, hml, ho, -⟩ := S
  intro T hT X
  rcases vx_callSX X hx (hh := hh) (bytes := bytes) (maxL := maxL) (ret := ret) ho hl hstt hini hcode hy hK hg (hsize.trans hml.symm) (argsL := As) (rest := rest) (fun sig h => hn.trans (hlen sig h)) hstack hW (by rw [hb]; exact hdg)
    (fun vm₁ hW₁ => ⟨hf.1, hf.2, hp.2 (T.setVm vm₁) hT hW₁⟩) with ⟨v, vm₁, ⟨U', l2, c2, s2⟩, hW₁, X', ⟨g', mk, t, L, e1, e2, hq, h1, hL, h2, h3⟩, st⟩ | ⟨q, vm₁, ⟨U', l2, c2, s2⟩, hW₁, X', ⟨g', mk, t, L, E, ce, e1, e2, hq, hce, hcv, hcl, h1, hL, h2, h3⟩, st⟩
  · dsimp only [Pt.U, Pt.locs, Pt.cells, Pt.slots] at X' e1 e2 h1 h2 h3 st
    subst h1; subst h2; subst h3
    exact Or.inl ⟨v, (T.setVm vm₁).calling g' mk As.toArray, t, U', L, hT, X', hL, e1, e2, hq, st⟩
  · dsimp only [Pt.U, Pt.locs, Pt.cells, Pt.slots] at X' e1 e2 h1 h2 h3 st hcl
    subst h1; subst h2; subst h3
    exact Or.inr ⟨q, (T.setVm vm₁).calling g' mk As.toArray, t, U', L, E, ce, hT, X', hL, e1, e2, hq, hce, hcv, vx_cls hW₁ hcl, st⟩
end
end VXH
theorem vx_ofWH {l : Launch} {y : MethodName} {ws ws' : List Cond} {rm : Room} {Pc : Array Value → State → Prop} {Qc : Array Value → State → Outcome → State → Prop} {XC : String → State → State → Prop} {mc ms : Nat} {free : Addr → Prop} {cc : ByteArray} {maxL : Nat} {ret : Option FieldType} {hh : List (Nat × Nat × Nat × Nat)}
    (hy : plainName y.cls = true) (hw : ws = Cond.codeWith y cc maxL ret hh :: ws')
    (body : ∀ p e s m args below meth c s₁, BodyLoose p l y (headSpec ws rm) cc maxL ret e s m args below meth c s₁ → c.maxLocals = maxL → Pc args s →
      W p l e (headSpec ws rm).room s m args below meth c s.heap [] 0 0 (vx_MQ below Qc XC args s mc ms free) (entryFrame m args maxL)) : vx_Met l y ws rm Pc Qc XC mc ms free := by
  refine MetFree.of_bodyS (code := cc) (maxLocals := maxL) (ret := ret) hy ?_ ?_
  · intro args s m h hn
    obtain ⟨m9, meth, c, hn9, h1, h2, h3, h4, -, h5, h6, -⟩ := Cond.codeWith_spec (atoms_spec (ws := ws) h _ (by rw [hw]; exact List.mem_cons_self))
    cases hn.symm.trans hn9
    exact ⟨meth, c, h1, h2, h3, h4, h5, h6⟩
  · intro p e s m args below meth c s₁ B hml hP _
    have hh0 : s₁.heap = s.heap := by rw [B.state]; rfl
    obtain ⟨t, a1, o, b1, b2, b3⟩ := body p e s m args below meth c s₁ B hml hP s₁ hh0 (Stand.of_body B)
    exact ⟨t, o, a1, b1, b2, b3⟩
/-! ===== END ===== -/
end
section
def RX0 : String := "Tapebuffer$Row"
def TX0 : u_T := fun k => match k with
  | 0 => ("Tapebuffer$Row", "signs", "[I", true)
  | _ => ("Tapebuffer$Row", "size", "I", false)
def tyX0 : Nat → FieldType := fun k => match k with
  | 0 => .array .int
  | _ => .int
abbrev wsX00 : List Cond := u_ws RX0 TX0 2
theorem nmX0 : ∀ a, a < 2 → ∀ b, b < 2 → a ≠ b → (TX0 a).2.1 ≠ (TX0 b).2.1 := by decide +kernel
theorem tyX0_ok : ∀ k, k < 2 → parseFieldDescriptor (TX0 k).2.2.1 = some (tyX0 k) := by decide +kernel
abbrev cX0_init : ByteArray := prog_2_method_1_code
def yX0_init : MethodName := ⟨RX0, "<init>", "()V"⟩
abbrev cX0_signAt : ByteArray := prog_2_method_2_code
def yX0_signAt : MethodName := ⟨RX0, "signAt", "(I)I"⟩
abbrev cX0_changeSign : ByteArray := prog_2_method_3_code
def yX0_changeSign : MethodName := ⟨RX0, "changeSign", "(II)V"⟩
abbrev cX0_makeEmpty : ByteArray := prog_2_method_4_code
def yX0_makeEmpty : MethodName := ⟨RX0, "makeEmpty", "()V"⟩
abbrev cX0_becomeLike : ByteArray := prog_2_method_5_code
def yX0_becomeLike : MethodName := ⟨RX0, "becomeLike", "(LTapebuffer$Row;)V"⟩
abbrev cX0_becomeLong : ByteArray := prog_2_method_6_code
def yX0_becomeLong : MethodName := ⟨RX0, "becomeLong", "(I)V"⟩
abbrev cX0_dropAhead : ByteArray := prog_2_method_7_code
def yX0_dropAhead : MethodName := ⟨RX0, "dropAhead", "(I)V"⟩
abbrev cX0_turnRound : ByteArray := prog_2_method_8_code
def yX0_turnRound : MethodName := ⟨RX0, "turnRound", "()V"⟩
abbrev cX0_turnFrom : ByteArray := prog_2_method_9_code
def yX0_turnFrom : MethodName := ⟨RX0, "turnFrom", "(I)V"⟩
abbrev cX0_exchangePart : ByteArray := prog_2_method_10_code
def yX0_exchangePart : MethodName := ⟨RX0, "exchangePart", "(IILTapebuffer$Row;)V"⟩
abbrev cX0_writeSign : ByteArray := prog_2_method_11_code
def yX0_writeSign : MethodName := ⟨RX0, "writeSign", "(I)V"⟩
abbrev cX0_writeText : ByteArray := prog_2_method_12_code
def yX0_writeText : MethodName := ⟨RX0, "writeText", "(Ljava/lang/String;)V"⟩
abbrev cX0_writeWord : ByteArray := prog_2_method_13_code
def yX0_writeWord : MethodName := ⟨RX0, "writeWord", "(I)V"⟩
abbrev cX0_writeNumber : ByteArray := prog_2_method_14_code
def yX0_writeNumber : MethodName := ⟨RX0, "writeNumber", "(J)V"⟩
abbrev cX0_textOf : ByteArray := prog_2_method_15_code
def yX0_textOf : MethodName := ⟨RX0, "textOf", "(II)Ljava/lang/String;"⟩
abbrev cX0_standsAt : ByteArray := prog_2_method_16_code
def yX0_standsAt : MethodName := ⟨RX0, "standsAt", "(ILTapebuffer$Row;)Z"⟩
abbrev cX0_firstPlaceOf : ByteArray := prog_2_method_17_code
def yX0_firstPlaceOf : MethodName := ⟨RX0, "firstPlaceOf", "(LTapebuffer$Row;I)I"⟩
abbrev cX0_lastPlaceOf : ByteArray := prog_2_method_18_code
def yX0_lastPlaceOf : MethodName := ⟨RX0, "lastPlaceOf", "(LTapebuffer$Row;I)I"⟩
abbrev cX0_isSameAs : ByteArray := prog_2_method_19_code
def yX0_isSameAs : MethodName := ⟨RX0, "isSameAs", "(LTapebuffer$Row;)Z"⟩
abbrev cX0_differenceFrom : ByteArray := prog_2_method_20_code
def yX0_differenceFrom : MethodName := ⟨RX0, "differenceFrom", "(LTapebuffer$Row;)I"⟩
abbrev cX0_orderAgainst : ByteArray := prog_2_method_21_code
def yX0_orderAgainst : MethodName := ⟨RX0, "orderAgainst", "(LTapebuffer$Row;)I"⟩
abbrev cX0_innerStart : ByteArray := prog_2_method_22_code
def yX0_innerStart : MethodName := ⟨RX0, "innerStart", "()I"⟩
abbrev cX0_innerEnd : ByteArray := prog_2_method_23_code
def yX0_innerEnd : MethodName := ⟨RX0, "innerEnd", "()I"⟩
abbrev cX0_readNumber : ByteArray := prog_2_method_24_code
def yX0_readNumber : MethodName := ⟨RX0, "readNumber", "(III)J"⟩
abbrev cX0_digitOf : ByteArray := prog_2_method_25_code
def yX0_digitOf : MethodName := ⟨RX0, "digitOf", "(I)I"⟩
def RX1 : String := "Tapebuffer"
def TX1 : u_T := fun k => match k with
  | 0 => ("Tapebuffer", "tapes", "[LTapebuffer$Row;", true)
  | 1 => ("Tapebuffer", "picture", "LTapebuffer$Row;", true)
  | 2 => ("Tapebuffer", "coming", "LTapebuffer$Row;", true)
  | 3 => ("Tapebuffer", "spare", "LTapebuffer$Row;", true)
  | 4 => ("Tapebuffer", "watchedTape", "I", false)
  | 5 => ("Tapebuffer", "refusals", "I", false)
  | _ => ("Tapebuffer", "knocks", "I", false)
def tyX1 : Nat → FieldType := fun k => match k with
  | 0 => .array (.object "Tapebuffer$Row")
  | 1 => .object "Tapebuffer$Row"
  | 2 => .object "Tapebuffer$Row"
  | 3 => .object "Tapebuffer$Row"
  | 4 => .int
  | 5 => .int
  | _ => .int
abbrev wsX10 : List Cond := u_ws RX1 TX1 7
theorem nmX1 : ∀ a, a < 7 → ∀ b, b < 7 → a ≠ b → (TX1 a).2.1 ≠ (TX1 b).2.1 := by decide +kernel
theorem tyX1_ok : ∀ k, k < 7 → parseFieldDescriptor (TX1 k).2.2.1 = some (tyX1 k) := by decide +kernel
abbrev cX1_init : ByteArray := prog_1_method_1_code
def yX1_init : MethodName := ⟨RX1, "<init>", "()V"⟩
abbrev cX1_addWord : ByteArray := prog_1_method_2_code
def yX1_addWord : MethodName := ⟨RX1, "addWord", "(II)I"⟩
abbrev cX1_addNumber : ByteArray := prog_1_method_3_code
def yX1_addNumber : MethodName := ⟨RX1, "addNumber", "(II)I"⟩
abbrev cX1_addLong : ByteArray := prog_1_method_4_code
def yX1_addLong : MethodName := ⟨RX1, "addLong", "(III)I"⟩
abbrev cX1_addSign : ByteArray := prog_1_method_5_code
def yX1_addSign : MethodName := ⟨RX1, "addSign", "(II)I"⟩
abbrev cX1_addTruth : ByteArray := prog_1_method_6_code
def yX1_addTruth : MethodName := ⟨RX1, "addTruth", "(IZ)I"⟩
abbrev cX1_addRow : ByteArray := prog_1_method_7_code
def yX1_addRow : MethodName := ⟨RX1, "addRow", "(IIII)I"⟩
abbrev cX1_addTape : ByteArray := prog_1_method_8_code
def yX1_addTape : MethodName := ⟨RX1, "addTape", "(II)I"⟩
abbrev cX1_addOften : ByteArray := prog_1_method_9_code
def yX1_addOften : MethodName := ⟨RX1, "addOften", "(III)I"⟩
abbrev cX1_addThree : ByteArray := prog_1_method_10_code
def yX1_addThree : MethodName := ⟨RX1, "addThree", "(IIII)I"⟩
abbrev cX1_putWord : ByteArray := prog_1_method_11_code
def yX1_putWord : MethodName := ⟨RX1, "putWord", "(III)I"⟩
abbrev cX1_putNumber : ByteArray := prog_1_method_12_code
def yX1_putNumber : MethodName := ⟨RX1, "putNumber", "(III)I"⟩
abbrev cX1_putSign : ByteArray := prog_1_method_13_code
def yX1_putSign : MethodName := ⟨RX1, "putSign", "(III)I"⟩
abbrev cX1_putTape : ByteArray := prog_1_method_14_code
def yX1_putTape : MethodName := ⟨RX1, "putTape", "(III)I"⟩
abbrev cX1_takeOut : ByteArray := prog_1_method_15_code
def yX1_takeOut : MethodName := ⟨RX1, "takeOut", "(III)I"⟩
abbrev cX1_takeSign : ByteArray := prog_1_method_16_code
def yX1_takeSign : MethodName := ⟨RX1, "takeSign", "(II)I"⟩
abbrev cX1_exchange : ByteArray := prog_1_method_17_code
def yX1_exchange : MethodName := ⟨RX1, "exchange", "(IIII)I"⟩
abbrev cX1_exchangeTape : ByteArray := prog_1_method_18_code
def yX1_exchangeTape : MethodName := ⟨RX1, "exchangeTape", "(IIII)I"⟩
abbrev cX1_setSign : ByteArray := prog_1_method_19_code
def yX1_setSign : MethodName := ⟨RX1, "setSign", "(III)I"⟩
abbrev cX1_setLength : ByteArray := prog_1_method_20_code
def yX1_setLength : MethodName := ⟨RX1, "setLength", "(II)I"⟩
abbrev cX1_turn : ByteArray := prog_1_method_21_code
def yX1_turn : MethodName := ⟨RX1, "turn", "(I)I"⟩
abbrev cX1_copy : ByteArray := prog_1_method_22_code
def yX1_copy : MethodName := ⟨RX1, "copy", "(II)I"⟩
abbrev cX1_trim : ByteArray := prog_1_method_23_code
def yX1_trim : MethodName := ⟨RX1, "trim", "(I)I"⟩
abbrev cX1_picture : ByteArray := prog_1_method_24_code
def yX1_picture : MethodName := ⟨RX1, "picture", "(I)I"⟩
abbrev cX1_watch : ByteArray := prog_1_method_25_code
def yX1_watch : MethodName := ⟨RX1, "watch", "(I)I"⟩
abbrev cX1_back : ByteArray := prog_1_method_26_code
def yX1_back : MethodName := ⟨RX1, "back", "(I)I"⟩
abbrev cX1_knock : ByteArray := prog_1_method_27_code
def yX1_knock : MethodName := ⟨RX1, "knock", "()I"⟩
abbrev cX1_length : ByteArray := prog_1_method_28_code
def yX1_length : MethodName := ⟨RX1, "length", "(I)I"⟩
abbrev cX1_sign : ByteArray := prog_1_method_29_code
def yX1_sign : MethodName := ⟨RX1, "sign", "(II)I"⟩
abbrev cX1_text : ByteArray := prog_1_method_30_code
def yX1_text : MethodName := ⟨RX1, "text", "(I)Ljava/lang/String;"⟩
abbrev cX1_part : ByteArray := prog_1_method_31_code
def yX1_part : MethodName := ⟨RX1, "part", "(III)Ljava/lang/String;"⟩
abbrev cX1_rest : ByteArray := prog_1_method_32_code
def yX1_rest : MethodName := ⟨RX1, "rest", "(II)Ljava/lang/String;"⟩
abbrev cX1_find : ByteArray := prog_1_method_33_code
def yX1_find : MethodName := ⟨RX1, "find", "(II)I"⟩
abbrev cX1_findFrom : ByteArray := prog_1_method_34_code
def yX1_findFrom : MethodName := ⟨RX1, "findFrom", "(III)I"⟩
abbrev cX1_findLast : ByteArray := prog_1_method_35_code
def yX1_findLast : MethodName := ⟨RX1, "findLast", "(II)I"⟩
abbrev cX1_findLastFrom : ByteArray := prog_1_method_36_code
def yX1_findLastFrom : MethodName := ⟨RX1, "findLastFrom", "(III)I"⟩
abbrev cX1_findTape : ByteArray := prog_1_method_37_code
def yX1_findTape : MethodName := ⟨RX1, "findTape", "(II)I"⟩
abbrev cX1_findTapeLast : ByteArray := prog_1_method_38_code
def yX1_findTapeLast : MethodName := ⟨RX1, "findTapeLast", "(II)I"⟩
abbrev cX1_findSign : ByteArray := prog_1_method_39_code
def yX1_findSign : MethodName := ⟨RX1, "findSign", "(II)I"⟩
abbrev cX1_has : ByteArray := prog_1_method_40_code
def yX1_has : MethodName := ⟨RX1, "has", "(II)Z"⟩
abbrev cX1_compare : ByteArray := prog_1_method_41_code
def yX1_compare : MethodName := ⟨RX1, "compare", "(II)I"⟩
abbrev cX1_apart : ByteArray := prog_1_method_42_code
def yX1_apart : MethodName := ⟨RX1, "apart", "(II)I"⟩
abbrev cX1_isLike : ByteArray := prog_1_method_43_code
def yX1_isLike : MethodName := ⟨RX1, "isLike", "(II)Z"⟩
abbrev cX1_hash : ByteArray := prog_1_method_44_code
def yX1_hash : MethodName := ⟨RX1, "hash", "(I)I"⟩
abbrev cX1_number : ByteArray := prog_1_method_45_code
def yX1_number : MethodName := ⟨RX1, "number", "(IIII)Ljava/lang/String;"⟩
abbrev cX1_isBlank : ByteArray := prog_1_method_46_code
def yX1_isBlank : MethodName := ⟨RX1, "isBlank", "(I)Z"⟩
abbrev cX1_trimmed : ByteArray := prog_1_method_47_code
def yX1_trimmed : MethodName := ⟨RX1, "trimmed", "(I)Ljava/lang/String;"⟩
abbrev cX1_seen : ByteArray := prog_1_method_48_code
def yX1_seen : MethodName := ⟨RX1, "seen", "()Ljava/lang/String;"⟩
abbrev cX1_watched : ByteArray := prog_1_method_49_code
def yX1_watched : MethodName := ⟨RX1, "watched", "(I)I"⟩
abbrev cX1_word : ByteArray := prog_1_method_50_code
def yX1_word : MethodName := ⟨RX1, "word", "(I)Ljava/lang/String;"⟩
abbrev cX1_house : ByteArray := prog_1_method_51_code
def yX1_house : MethodName := ⟨RX1, "house", "(I)I"⟩
abbrev cX1_isSound : ByteArray := prog_1_method_52_code
def yX1_isSound : MethodName := ⟨RX1, "isSound", "()Z"⟩
abbrev cX1_digest : ByteArray := prog_1_method_53_code
def yX1_digest : MethodName := ⟨RX1, "digest", "()J"⟩
abbrev cX1_checkTape : ByteArray := prog_1_method_54_code
def yX1_checkTape : MethodName := ⟨RX1, "checkTape", "(I)V"⟩
abbrev cX1_checkPlace : ByteArray := prog_1_method_55_code
def yX1_checkPlace : MethodName := ⟨RX1, "checkPlace", "(LTapebuffer$Row;I)V"⟩
abbrev cX1_checkPlaceOrEnd : ByteArray := prog_1_method_56_code
def yX1_checkPlaceOrEnd : MethodName := ⟨RX1, "checkPlaceOrEnd", "(LTapebuffer$Row;I)V"⟩
abbrev cX1_checkPart : ByteArray := prog_1_method_57_code
def yX1_checkPart : MethodName := ⟨RX1, "checkPart", "(LTapebuffer$Row;II)V"⟩
abbrev cX1_checkOrder : ByteArray := prog_1_method_58_code
def yX1_checkOrder : MethodName := ⟨RX1, "checkOrder", "(II)V"⟩
abbrev cX1_checkWord : ByteArray := prog_1_method_59_code
def yX1_checkWord : MethodName := ⟨RX1, "checkWord", "(I)V"⟩
abbrev cX1_checkSign : ByteArray := prog_1_method_60_code
def yX1_checkSign : MethodName := ⟨RX1, "checkSign", "(I)V"⟩
abbrev cX1_checkOften : ByteArray := prog_1_method_61_code
def yX1_checkOften : MethodName := ⟨RX1, "checkOften", "(I)V"⟩
abbrev cX1_checkLength : ByteArray := prog_1_method_62_code
def yX1_checkLength : MethodName := ⟨RX1, "checkLength", "(I)V"⟩
abbrev cX1_checkBase : ByteArray := prog_1_method_63_code
def yX1_checkBase : MethodName := ⟨RX1, "checkBase", "(I)V"⟩
abbrev cX1_tapeOf : ByteArray := prog_1_method_64_code
def yX1_tapeOf : MethodName := ⟨RX1, "tapeOf", "(I)LTapebuffer$Row;"⟩
abbrev cX1_wordComes : ByteArray := prog_1_method_65_code
def yX1_wordComes : MethodName := ⟨RX1, "wordComes", "(I)V"⟩
abbrev cX1_numberComes : ByteArray := prog_1_method_66_code
def yX1_numberComes : MethodName := ⟨RX1, "numberComes", "(J)V"⟩
abbrev cX1_signComes : ByteArray := prog_1_method_67_code
def yX1_signComes : MethodName := ⟨RX1, "signComes", "(I)V"⟩
abbrev cX1_putAllBehind : ByteArray := prog_1_method_68_code
def yX1_putAllBehind : MethodName := ⟨RX1, "putAllBehind", "(LTapebuffer$Row;)I"⟩
abbrev cX1_putInPlaceOf : ByteArray := prog_1_method_69_code
def yX1_putInPlaceOf : MethodName := ⟨RX1, "putInPlaceOf", "(LTapebuffer$Row;II)I"⟩
abbrev cX1_signsOnAllTapes : ByteArray := prog_1_method_70_code
def yX1_signsOnAllTapes : MethodName := ⟨RX1, "signsOnAllTapes", "()I"⟩
abbrev cX1_emptyTapes : ByteArray := prog_1_method_71_code
def yX1_emptyTapes : MethodName := ⟨RX1, "emptyTapes", "()I"⟩
abbrev cX1_digestOfTape : ByteArray := prog_1_method_72_code
def yX1_digestOfTape : MethodName := ⟨RX1, "digestOfTape", "(JI)J"⟩
abbrev cX1_isSameTurnedTwice : ByteArray := prog_1_method_73_code
def yX1_isSameTurnedTwice : MethodName := ⟨RX1, "isSameTurnedTwice", "(LTapebuffer$Row;)Z"⟩
abbrev cX1_isSameCutAndJoined : ByteArray := prog_1_method_74_code
def yX1_isSameCutAndJoined : MethodName := ⟨RX1, "isSameCutAndJoined", "(LTapebuffer$Row;)Z"⟩
abbrev cX1_readsNumberBehindCopy : ByteArray := prog_1_method_75_code
def yX1_readsNumberBehindCopy : MethodName := ⟨RX1, "readsNumberBehindCopy", "(LTapebuffer$Row;)Z"⟩
abbrev cX1_standsOneWay : ByteArray := prog_1_method_76_code
def yX1_standsOneWay : MethodName := ⟨RX1, "standsOneWay", "(LTapebuffer$Row;LTapebuffer$Row;)Z"⟩
abbrev cX1_isWatchLikeItsTape : ByteArray := prog_1_method_77_code
def yX1_isWatchLikeItsTape : MethodName := ⟨RX1, "isWatchLikeItsTape", "()Z"⟩
abbrev cX1_isBlankSign : ByteArray := prog_1_method_78_code
def yX1_isBlankSign : MethodName := ⟨RX1, "isBlankSign", "(I)Z"⟩
def RX2 : String := "TapebufferLaw$Out"
def TX2 : u_T := fun k => match k with
  | 0 => ("TapebufferLaw$Out", "n", "J", false)
  | _ => ("TapebufferLaw$Out", "s", "Ljava/lang/String;", false)
def tyX2 : Nat → FieldType := fun k => match k with
  | 0 => .long
  | _ => .object "java/lang/String"
abbrev wsX20 : List Cond := u_ws RX2 TX2 2
theorem nmX2 : ∀ a, a < 2 → ∀ b, b < 2 → a ≠ b → (TX2 a).2.1 ≠ (TX2 b).2.1 := by decide +kernel
theorem tyX2_ok : ∀ k, k < 2 → parseFieldDescriptor (TX2 k).2.2.1 = some (tyX2 k) := by decide +kernel
abbrev cX2_init : ByteArray := prog_4_method_1_code
def yX2_init : MethodName := ⟨RX2, "<init>", "()V"⟩
def RX3 : String := "TapebufferModel"
def TX3 : u_T := fun k => match k with
  | 0 => ("TapebufferModel", "thrown", "I", false)
  | 1 => ("TapebufferModel", "tapes", "[[I", true)
  | 2 => ("TapebufferModel", "picture", "[I", false)
  | 3 => ("TapebufferModel", "watched", "I", false)
  | 4 => ("TapebufferModel", "refused", "I", false)
  | _ => ("TapebufferModel", "knocked", "I", false)
def tyX3 : Nat → FieldType := fun k => match k with
  | 0 => .int
  | 1 => .array (.array .int)
  | 2 => .array .int
  | 3 => .int
  | 4 => .int
  | _ => .int
abbrev wsX30 : List Cond := u_ws RX3 TX3 6
theorem nmX3 : ∀ a, a < 6 → ∀ b, b < 6 → a ≠ b → (TX3 a).2.1 ≠ (TX3 b).2.1 := by decide +kernel
theorem tyX3_ok : ∀ k, k < 6 → parseFieldDescriptor (TX3 k).2.2.1 = some (tyX3 k) := by decide +kernel
abbrev cX3_init : ByteArray := prog_5_method_1_code
def yX3_init : MethodName := ⟨RX3, "<init>", "()V"⟩
abbrev cX3_isIn : ByteArray := prog_5_method_3_code
def yX3_isIn : MethodName := ⟨RX3, "isIn", "(JJJ)Z"⟩
abbrev cX3_one : ByteArray := prog_5_method_4_code
def yX3_one : MethodName := ⟨RX3, "one", "(Z)I"⟩
abbrev cX3_refuse : ByteArray := prog_5_method_5_code
def yX3_refuse : MethodName := ⟨RX3, "refuse", "(ZI)Z"⟩
abbrev cX3_start : ByteArray := prog_5_method_6_code
def yX3_start : MethodName := ⟨RX3, "start", "(ZI)Z"⟩
abbrev cX3_isNoTape : ByteArray := prog_5_method_7_code
def yX3_isNoTape : MethodName := ⟨RX3, "isNoTape", "(I)Z"⟩
abbrev cX3_isNoWord : ByteArray := prog_5_method_8_code
def yX3_isNoWord : MethodName := ⟨RX3, "isNoWord", "(I)Z"⟩
abbrev cX3_isNoSign : ByteArray := prog_5_method_9_code
def yX3_isNoSign : MethodName := ⟨RX3, "isNoSign", "(I)Z"⟩
abbrev cX3_isNoGap : ByteArray := prog_5_method_10_code
def yX3_isNoGap : MethodName := ⟨RX3, "isNoGap", "(II)Z"⟩
abbrev cX3_isNoPlace : ByteArray := prog_5_method_11_code
def yX3_isNoPlace : MethodName := ⟨RX3, "isNoPlace", "(II)Z"⟩
abbrev cX3_row : ByteArray := prog_5_method_12_code
def yX3_row : MethodName := ⟨RX3, "row", "(Ljava/lang/String;)[I"⟩
abbrev cX3_text : ByteArray := prog_5_method_13_code
def yX3_text : MethodName := ⟨RX3, "text", "([I)Ljava/lang/String;"⟩
abbrev cX3_part : ByteArray := prog_5_method_14_code
def yX3_part : MethodName := ⟨RX3, "part", "([III)[I"⟩
abbrev cX3_joined : ByteArray := prog_5_method_15_code
def yX3_joined : MethodName := ⟨RX3, "joined", "([I[I)[I"⟩
abbrev cX3_wordOf : ByteArray := prog_5_method_16_code
def yX3_wordOf : MethodName := ⟨RX3, "wordOf", "(I)[I"⟩
abbrev cX3_turned : ByteArray := prog_5_method_17_code
def yX3_turned : MethodName := ⟨RX3, "turned", "([I)[I"⟩
abbrev cX3_stands : ByteArray := prog_5_method_18_code
def yX3_stands : MethodName := ⟨RX3, "stands", "([I[II)Z"⟩
abbrev cX3_first : ByteArray := prog_5_method_19_code
def yX3_first : MethodName := ⟨RX3, "first", "([I[II)I"⟩
abbrev cX3_last : ByteArray := prog_5_method_20_code
def yX3_last : MethodName := ⟨RX3, "last", "([I[II)I"⟩
abbrev cX3_trim : ByteArray := prog_5_method_21_code
def yX3_trim : MethodName := ⟨RX3, "trim", "([I)[I"⟩
abbrev cX3_apart : ByteArray := prog_5_method_22_code
def yX3_apart : MethodName := ⟨RX3, "apart", "([I[I)I"⟩
abbrev cX3_put : ByteArray := prog_5_method_23_code
def yX3_put : MethodName := ⟨RX3, "put", "(III[I)I"⟩
abbrev cX3_add : ByteArray := prog_5_method_24_code
def yX3_add : MethodName := ⟨RX3, "add", "(I[I)I"⟩
abbrev cX3_addWord : ByteArray := prog_5_method_25_code
def yX3_addWord : MethodName := ⟨RX3, "addWord", "(II)I"⟩
abbrev cX3_addNumber : ByteArray := prog_5_method_26_code
def yX3_addNumber : MethodName := ⟨RX3, "addNumber", "(II)I"⟩
abbrev cX3_addLong : ByteArray := prog_5_method_27_code
def yX3_addLong : MethodName := ⟨RX3, "addLong", "(III)I"⟩
abbrev cX3_addSign : ByteArray := prog_5_method_28_code
def yX3_addSign : MethodName := ⟨RX3, "addSign", "(II)I"⟩
abbrev cX3_addTruth : ByteArray := prog_5_method_29_code
def yX3_addTruth : MethodName := ⟨RX3, "addTruth", "(IZ)I"⟩
abbrev cX3_addRow : ByteArray := prog_5_method_30_code
def yX3_addRow : MethodName := ⟨RX3, "addRow", "(IIII)I"⟩
abbrev cX3_addTape : ByteArray := prog_5_method_31_code
def yX3_addTape : MethodName := ⟨RX3, "addTape", "(II)I"⟩
abbrev cX3_addOften : ByteArray := prog_5_method_32_code
def yX3_addOften : MethodName := ⟨RX3, "addOften", "(III)I"⟩
abbrev cX3_addThree : ByteArray := prog_5_method_33_code
def yX3_addThree : MethodName := ⟨RX3, "addThree", "(IIII)I"⟩
abbrev cX3_putWord : ByteArray := prog_5_method_34_code
def yX3_putWord : MethodName := ⟨RX3, "putWord", "(III)I"⟩
abbrev cX3_putNumber : ByteArray := prog_5_method_35_code
def yX3_putNumber : MethodName := ⟨RX3, "putNumber", "(III)I"⟩
abbrev cX3_putSign : ByteArray := prog_5_method_36_code
def yX3_putSign : MethodName := ⟨RX3, "putSign", "(III)I"⟩
abbrev cX3_putTape : ByteArray := prog_5_method_37_code
def yX3_putTape : MethodName := ⟨RX3, "putTape", "(III)I"⟩
abbrev cX3_end : ByteArray := prog_5_method_38_code
def yX3_end : MethodName := ⟨RX3, "end", "(II)I"⟩
abbrev cX3_takeOut : ByteArray := prog_5_method_39_code
def yX3_takeOut : MethodName := ⟨RX3, "takeOut", "(III)I"⟩
abbrev cX3_takeSign : ByteArray := prog_5_method_40_code
def yX3_takeSign : MethodName := ⟨RX3, "takeSign", "(II)I"⟩
abbrev cX3_exchange : ByteArray := prog_5_method_41_code
def yX3_exchange : MethodName := ⟨RX3, "exchange", "(IIII)I"⟩
abbrev cX3_exchangeTape : ByteArray := prog_5_method_42_code
def yX3_exchangeTape : MethodName := ⟨RX3, "exchangeTape", "(IIII)I"⟩
abbrev cX3_setSign : ByteArray := prog_5_method_43_code
def yX3_setSign : MethodName := ⟨RX3, "setSign", "(III)I"⟩
abbrev cX3_setLength : ByteArray := prog_5_method_44_code
def yX3_setLength : MethodName := ⟨RX3, "setLength", "(II)I"⟩
abbrev cX3_turn : ByteArray := prog_5_method_45_code
def yX3_turn : MethodName := ⟨RX3, "turn", "(I)I"⟩
abbrev cX3_become : ByteArray := prog_5_method_46_code
def yX3_become : MethodName := ⟨RX3, "become", "(I[I)I"⟩
abbrev cX3_copy : ByteArray := prog_5_method_47_code
def yX3_copy : MethodName := ⟨RX3, "copy", "(II)I"⟩
abbrev cX3_trim_ : ByteArray := prog_5_method_48_code
def yX3_trim_ : MethodName := ⟨RX3, "trim", "(I)I"⟩
abbrev cX3_picture : ByteArray := prog_5_method_49_code
def yX3_picture : MethodName := ⟨RX3, "picture", "(I)I"⟩
abbrev cX3_watch : ByteArray := prog_5_method_50_code
def yX3_watch : MethodName := ⟨RX3, "watch", "(I)I"⟩
abbrev cX3_back : ByteArray := prog_5_method_51_code
def yX3_back : MethodName := ⟨RX3, "back", "(I)I"⟩
abbrev cX3_knock : ByteArray := prog_5_method_52_code
def yX3_knock : MethodName := ⟨RX3, "knock", "()I"⟩
abbrev cX3_length : ByteArray := prog_5_method_53_code
def yX3_length : MethodName := ⟨RX3, "length", "(I)I"⟩
abbrev cX3_sign : ByteArray := prog_5_method_54_code
def yX3_sign : MethodName := ⟨RX3, "sign", "(II)I"⟩
abbrev cX3_text_ : ByteArray := prog_5_method_55_code
def yX3_text_ : MethodName := ⟨RX3, "text", "(I)Ljava/lang/String;"⟩
abbrev cX3_part_ : ByteArray := prog_5_method_56_code
def yX3_part_ : MethodName := ⟨RX3, "part", "(III)Ljava/lang/String;"⟩
abbrev cX3_rest : ByteArray := prog_5_method_57_code
def yX3_rest : MethodName := ⟨RX3, "rest", "(II)Ljava/lang/String;"⟩
abbrev cX3_isNoFind : ByteArray := prog_5_method_58_code
def yX3_isNoFind : MethodName := ⟨RX3, "isNoFind", "(II)Z"⟩
abbrev cX3_find : ByteArray := prog_5_method_59_code
def yX3_find : MethodName := ⟨RX3, "find", "(II)I"⟩
abbrev cX3_findFrom : ByteArray := prog_5_method_60_code
def yX3_findFrom : MethodName := ⟨RX3, "findFrom", "(III)I"⟩
abbrev cX3_findLast : ByteArray := prog_5_method_61_code
def yX3_findLast : MethodName := ⟨RX3, "findLast", "(II)I"⟩
abbrev cX3_findLastFrom : ByteArray := prog_5_method_62_code
def yX3_findLastFrom : MethodName := ⟨RX3, "findLastFrom", "(III)I"⟩
abbrev cX3_findTape : ByteArray := prog_5_method_63_code
def yX3_findTape : MethodName := ⟨RX3, "findTape", "(II)I"⟩
abbrev cX3_findTapeLast : ByteArray := prog_5_method_64_code
def yX3_findTapeLast : MethodName := ⟨RX3, "findTapeLast", "(II)I"⟩
abbrev cX3_findSign : ByteArray := prog_5_method_65_code
def yX3_findSign : MethodName := ⟨RX3, "findSign", "(II)I"⟩
abbrev cX3_has : ByteArray := prog_5_method_66_code
def yX3_has : MethodName := ⟨RX3, "has", "(II)Z"⟩
abbrev cX3_compareNow : ByteArray := prog_5_method_67_code
def yX3_compareNow : MethodName := ⟨RX3, "compareNow", "(II)I"⟩
abbrev cX3_compare : ByteArray := prog_5_method_68_code
def yX3_compare : MethodName := ⟨RX3, "compare", "(II)I"⟩
abbrev cX3_apart_ : ByteArray := prog_5_method_69_code
def yX3_apart_ : MethodName := ⟨RX3, "apart", "(II)I"⟩
abbrev cX3_isLike : ByteArray := prog_5_method_70_code
def yX3_isLike : MethodName := ⟨RX3, "isLike", "(II)Z"⟩
abbrev cX3_hashOf : ByteArray := prog_5_method_71_code
def yX3_hashOf : MethodName := ⟨RX3, "hashOf", "([I)I"⟩
abbrev cX3_hash : ByteArray := prog_5_method_72_code
def yX3_hash : MethodName := ⟨RX3, "hash", "(I)I"⟩
abbrev cX3_digit : ByteArray := prog_5_method_73_code
def yX3_digit : MethodName := ⟨RX3, "digit", "(I)I"⟩
abbrev cX3_numberOf : ByteArray := prog_5_method_74_code
def yX3_numberOf : MethodName := ⟨RX3, "numberOf", "([II)Ljava/lang/String;"⟩
abbrev cX3_number : ByteArray := prog_5_method_75_code
def yX3_number : MethodName := ⟨RX3, "number", "(IIII)Ljava/lang/String;"⟩
abbrev cX3_isBlankRow : ByteArray := prog_5_method_76_code
def yX3_isBlankRow : MethodName := ⟨RX3, "isBlankRow", "([I)Z"⟩
abbrev cX3_isBlank : ByteArray := prog_5_method_77_code
def yX3_isBlank : MethodName := ⟨RX3, "isBlank", "(I)Z"⟩
abbrev cX3_trimmed : ByteArray := prog_5_method_78_code
def yX3_trimmed : MethodName := ⟨RX3, "trimmed", "(I)Ljava/lang/String;"⟩
abbrev cX3_seen : ByteArray := prog_5_method_79_code
def yX3_seen : MethodName := ⟨RX3, "seen", "()Ljava/lang/String;"⟩
abbrev cX3_watchedNow : ByteArray := prog_5_method_80_code
def yX3_watchedNow : MethodName := ⟨RX3, "watchedNow", "(I)I"⟩
abbrev cX3_watched : ByteArray := prog_5_method_81_code
def yX3_watched : MethodName := ⟨RX3, "watched", "(I)I"⟩
abbrev cX3_word : ByteArray := prog_5_method_82_code
def yX3_word : MethodName := ⟨RX3, "word", "(I)Ljava/lang/String;"⟩
abbrev cX3_houseNow : ByteArray := prog_5_method_83_code
def yX3_houseNow : MethodName := ⟨RX3, "houseNow", "(I)I"⟩
abbrev cX3_house : ByteArray := prog_5_method_84_code
def yX3_house : MethodName := ⟨RX3, "house", "(I)I"⟩
abbrev cX3_isSound : ByteArray := prog_5_method_85_code
def yX3_isSound : MethodName := ⟨RX3, "isSound", "()Z"⟩
abbrev cX3_add_ : ByteArray := prog_5_method_86_code
def yX3_add_ : MethodName := ⟨RX3, "add", "(JJ)J"⟩
abbrev cX3_digest : ByteArray := prog_5_method_87_code
def yX3_digest : MethodName := ⟨RX3, "digest", "()J"⟩
def RJ5 : String := "java/lang/AbstractStringBuilder"
def TJ5 : u_T := fun k => match k with
  | _ => ("", "", "", false)
def tyJ5 : Nat → FieldType := fun k => match k with
  | _ => .int
abbrev wsJ50 : List Cond := u_ws RJ5 TJ5 0
theorem nmJ5 : ∀ a, a < 0 → ∀ b, b < 0 → a ≠ b → (TJ5 a).2.1 ≠ (TJ5 b).2.1 := by decide +kernel
theorem tyJ5_ok : ∀ k, k < 0 → parseFieldDescriptor (TJ5 k).2.2.1 = some (tyJ5 k) := by decide +kernel
abbrev cJ5_init_d00df : ByteArray := prog_6_method_2_code
def yJ5_init_d00df : MethodName := ⟨RJ5, "<init>", "(I)V"⟩
abbrev cJ5_length_8abf5 : ByteArray := prog_6_method_6_code
def yJ5_length_8abf5 : MethodName := ⟨RJ5, "length", "()I"⟩
abbrev cJ5_ensureCapacityInternal_d00df : ByteArray := prog_6_method_9_code
def yJ5_ensureCapacityInternal_d00df : MethodName := ⟨RJ5, "ensureCapacityInternal", "(I)V"⟩
abbrev cJ5_newCapacity_0f7a4 : ByteArray := prog_6_method_10_code
def yJ5_newCapacity_0f7a4 : MethodName := ⟨RJ5, "newCapacity", "(I)I"⟩
abbrev cJ5_inflate_da8c8 : ByteArray := prog_6_method_11_code
def yJ5_inflate_da8c8 : MethodName := ⟨RJ5, "inflate", "()V"⟩
abbrev cJ5_append_cf1ce : ByteArray := prog_6_method_22_code
def yJ5_append_cf1ce : MethodName := ⟨RJ5, "append", "(Ljava/lang/String;)Ljava/lang/AbstractStringBuilder;"⟩
abbrev cJ5_appendNull_278bc : ByteArray := prog_6_method_26_code
def yJ5_appendNull_278bc : MethodName := ⟨RJ5, "appendNull", "()Ljava/lang/AbstractStringBuilder;"⟩
abbrev cJ5_append_3fe6f : ByteArray := prog_6_method_31_code
def yJ5_append_3fe6f : MethodName := ⟨RJ5, "append", "(C)Ljava/lang/AbstractStringBuilder;"⟩
abbrev cJ5_append_c97b9 : ByteArray := prog_6_method_32_code
def yJ5_append_c97b9 : MethodName := ⟨RJ5, "append", "(I)Ljava/lang/AbstractStringBuilder;"⟩
abbrev cJ5_append_66267 : ByteArray := prog_6_method_33_code
def yJ5_append_66267 : MethodName := ⟨RJ5, "append", "(J)Ljava/lang/AbstractStringBuilder;"⟩
abbrev cJ5_getValue_6d5f1 : ByteArray := prog_6_method_64_code
def yJ5_getValue_6d5f1 : MethodName := ⟨RJ5, "getValue", "()[B"⟩
abbrev cJ5_isLatin1_aae02 : ByteArray := prog_6_method_68_code
def yJ5_isLatin1_aae02 : MethodName := ⟨RJ5, "isLatin1", "()Z"⟩
abbrev cJ5_inflateIfNeededFor_a7421 : ByteArray := prog_6_method_71_code
def yJ5_inflateIfNeededFor_a7421 : MethodName := ⟨RJ5, "inflateIfNeededFor", "(Ljava/lang/String;)V"⟩
abbrev cJ5_putStringAt_47b60 : ByteArray := prog_6_method_73_code
def yJ5_putStringAt_47b60 : MethodName := ⟨RJ5, "putStringAt", "(ILjava/lang/String;)V"⟩
def RJx8e188 : String := "java/lang/Cloneable"
def TJx8e188 : u_T := fun k => match k with
  | _ => ("", "", "", false)
def tyJx8e188 : Nat → FieldType := fun k => match k with
  | _ => .int
abbrev wsJx8e1880 : List Cond := u_ws RJx8e188 TJx8e188 0
theorem nmJx8e188 : ∀ a, a < 0 → ∀ b, b < 0 → a ≠ b → (TJx8e188 a).2.1 ≠ (TJx8e188 b).2.1 := by decide +kernel
theorem tyJx8e188_ok : ∀ k, k < 0 → parseFieldDescriptor (TJx8e188 k).2.2.1 = some (tyJx8e188 k) := by decide +kernel
def RJ6 : String := "java/lang/Integer"
def TJ6 : u_T := fun k => match k with
  | _ => ("", "", "", false)
def tyJ6 : Nat → FieldType := fun k => match k with
  | _ => .int
abbrev wsJ60 : List Cond := u_ws RJ6 TJ6 0
theorem nmJ6 : ∀ a, a < 0 → ∀ b, b < 0 → a ≠ b → (TJ6 a).2.1 ≠ (TJ6 b).2.1 := by decide +kernel
theorem tyJ6_ok : ∀ k, k < 0 → parseFieldDescriptor (TJ6 k).2.2.1 = some (tyJ6 k) := by decide +kernel
abbrev cJ6_getChars_ba4f3 : ByteArray := prog_11_method_12_code
def yJ6_getChars_ba4f3 : MethodName := ⟨RJ6, "getChars", "(II[B)I"⟩
abbrev cJ6_stringSize_0f7a4 : ByteArray := prog_11_method_13_code
def yJ6_stringSize_0f7a4 : MethodName := ⟨RJ6, "stringSize", "(I)I"⟩
def RJ13 : String := "java/lang/Long"
def TJ13 : u_T := fun k => match k with
  | _ => ("", "", "", false)
def tyJ13 : Nat → FieldType := fun k => match k with
  | _ => .int
abbrev wsJ130 : List Cond := u_ws RJ13 TJ13 0
theorem nmJ13 : ∀ a, a < 0 → ∀ b, b < 0 → a ≠ b → (TJ13 a).2.1 ≠ (TJ13 b).2.1 := by decide +kernel
theorem tyJ13_ok : ∀ k, k < 0 → parseFieldDescriptor (TJ13 k).2.2.1 = some (tyJ13 k) := by decide +kernel
abbrev cJ13_getChars_11360 : ByteArray := prog_12_method_14_code
def yJ13_getChars_11360 : MethodName := ⟨RJ13, "getChars", "(JI[B)I"⟩
abbrev cJ13_stringSize_95d88 : ByteArray := prog_12_method_15_code
def yJ13_stringSize_95d88 : MethodName := ⟨RJ13, "stringSize", "(J)I"⟩
def RJ9 : String := "java/lang/Math"
def TJ9 : u_T := fun k => match k with
  | _ => ("", "", "", false)
def tyJ9 : Nat → FieldType := fun k => match k with
  | _ => .int
abbrev wsJ90 : List Cond := u_ws RJ9 TJ9 0
theorem nmJ9 : ∀ a, a < 0 → ∀ b, b < 0 → a ≠ b → (TJ9 a).2.1 ≠ (TJ9 b).2.1 := by decide +kernel
theorem tyJ9_ok : ∀ k, k < 0 → parseFieldDescriptor (TJ9 k).2.2.1 = some (tyJ9 k) := by decide +kernel
abbrev cJ9_abs_0f7a4 : ByteArray := prog_13_method_59_code
def yJ9_abs_0f7a4 : MethodName := ⟨RJ9, "abs", "(I)I"⟩
abbrev cJ9_max_7cf53 : ByteArray := prog_13_method_65_code
def yJ9_max_7cf53 : MethodName := ⟨RJ9, "max", "(II)I"⟩
abbrev cJ9_min_7cf53 : ByteArray := prog_13_method_69_code
def yJ9_min_7cf53 : MethodName := ⟨RJ9, "min", "(II)I"⟩
abbrev cJ9_min_f86c9 : ByteArray := prog_13_method_70_code
def yJ9_min_f86c9 : MethodName := ⟨RJ9, "min", "(JJ)J"⟩
def RJ0 : String := "java/lang/String"
def TJ0 : u_T := fun k => match k with
  | 0 => ("java/lang/String", "value", "[B", true)
  | 1 => ("java/lang/String", "coder", "B", true)
  | 2 => ("java/lang/String", "hash", "I", false)
  | _ => ("java/lang/String", "hashIsZero", "Z", false)
def tyJ0 : Nat → FieldType := fun k => match k with
  | 0 => .array .byte
  | 1 => .byte
  | 2 => .int
  | _ => .boolean
abbrev wsJ00 : List Cond := u_ws RJ0 TJ0 4
theorem nmJ0 : ∀ a, a < 4 → ∀ b, b < 4 → a ≠ b → (TJ0 a).2.1 ≠ (TJ0 b).2.1 := by decide +kernel
theorem tyJ0_ok : ∀ k, k < 4 → parseFieldDescriptor (TJ0 k).2.2.1 = some (tyJ0 k) := by decide +kernel
abbrev cJ0_init_905df : ByteArray := prog_15_method_3_code
def yJ0_init_905df : MethodName := ⟨RJ0, "<init>", "([C)V"⟩
abbrev cJ0_init_81219 : ByteArray := prog_15_method_53_code
def yJ0_init_81219 : MethodName := ⟨RJ0, "<init>", "(Ljava/lang/StringBuilder;)V"⟩
abbrev cJ0_length_8abf5 : ByteArray := prog_15_method_54_code
def yJ0_length_8abf5 : MethodName := ⟨RJ0, "length", "()I"⟩
abbrev cJ0_isEmpty_aae02 : ByteArray := prog_15_method_55_code
def yJ0_isEmpty_aae02 : MethodName := ⟨RJ0, "isEmpty", "()Z"⟩
abbrev cJ0_charAt_5068e : ByteArray := prog_15_method_56_code
def yJ0_charAt_5068e : MethodName := ⟨RJ0, "charAt", "(I)C"⟩
abbrev cJ0_getBytes_840e7 : ByteArray := prog_15_method_147_code
def yJ0_getBytes_840e7 : MethodName := ⟨RJ0, "getBytes", "([BIB)V"⟩
abbrev cJ0_init_bb550 : ByteArray := prog_15_method_149_code
def yJ0_init_bb550 : MethodName := ⟨RJ0, "<init>", "([CIILjava/lang/Void;)V"⟩
abbrev cJ0_init_db425 : ByteArray := prog_15_method_150_code
def yJ0_init_db425 : MethodName := ⟨RJ0, "<init>", "(Ljava/lang/AbstractStringBuilder;Ljava/lang/Void;)V"⟩
abbrev cJ0_coder_7d493 : ByteArray := prog_15_method_152_code
def yJ0_coder_7d493 : MethodName := ⟨RJ0, "coder", "()B"⟩
abbrev cJ0_isLatin1_aae02 : ByteArray := prog_15_method_154_code
def yJ0_isLatin1_aae02 : MethodName := ⟨RJ0, "isLatin1", "()Z"⟩
abbrev cJ0_checkIndex_df160 : ByteArray := prog_15_method_155_code
def yJ0_checkIndex_df160 : MethodName := ⟨RJ0, "checkIndex", "(II)V"⟩
abbrev cJ0_checkBoundsOffCount_cabcc : ByteArray := prog_15_method_157_code
def yJ0_checkBoundsOffCount_cabcc : MethodName := ⟨RJ0, "checkBoundsOffCount", "(III)I"⟩
abbrev cJ0_checkBoundsBeginEnd_23922 : ByteArray := prog_15_method_158_code
def yJ0_checkBoundsBeginEnd_23922 : MethodName := ⟨RJ0, "checkBoundsBeginEnd", "(III)V"⟩
def RJ4 : String := "java/lang/StringBuilder"
def TJ4 : u_T := fun k => match k with
  | 0 => ("java/lang/AbstractStringBuilder", "value", "[B", false)
  | 1 => ("java/lang/AbstractStringBuilder", "coder", "B", false)
  | 2 => ("java/lang/AbstractStringBuilder", "maybeLatin1", "Z", false)
  | _ => ("java/lang/AbstractStringBuilder", "count", "I", false)
def tyJ4 : Nat → FieldType := fun k => match k with
  | 0 => .array .byte
  | 1 => .byte
  | 2 => .boolean
  | _ => .int
abbrev wsJ40 : List Cond := u_ws RJ4 TJ4 4
theorem nmJ4 : ∀ a, a < 4 → ∀ b, b < 4 → a ≠ b → (TJ4 a).2.1 ≠ (TJ4 b).2.1 := by decide +kernel
theorem tyJ4_ok : ∀ k, k < 4 → parseFieldDescriptor (TJ4 k).2.2.1 = some (tyJ4 k) := by decide +kernel
abbrev cJ4_init_da8c8 : ByteArray := prog_16_method_1_code
def yJ4_init_da8c8 : MethodName := ⟨RJ4, "<init>", "()V"⟩
abbrev cJ4_append_15ec4 : ByteArray := prog_16_method_7_code
def yJ4_append_15ec4 : MethodName := ⟨RJ4, "append", "(Ljava/lang/String;)Ljava/lang/StringBuilder;"⟩
abbrev cJ4_append_cf468 : ByteArray := prog_16_method_14_code
def yJ4_append_cf468 : MethodName := ⟨RJ4, "append", "(C)Ljava/lang/StringBuilder;"⟩
abbrev cJ4_append_bf812 : ByteArray := prog_16_method_15_code
def yJ4_append_bf812 : MethodName := ⟨RJ4, "append", "(I)Ljava/lang/StringBuilder;"⟩
abbrev cJ4_append_f7089 : ByteArray := prog_16_method_16_code
def yJ4_append_f7089 : MethodName := ⟨RJ4, "append", "(J)Ljava/lang/StringBuilder;"⟩
abbrev cJ4_toString_0e30d : ByteArray := prog_16_method_42_code
def yJ4_toString_0e30d : MethodName := ⟨RJ4, "toString", "()Ljava/lang/String;"⟩
abbrev cJ4_length_8abf5 : ByteArray := prog_16_method_93_code
def yJ4_length_8abf5 : MethodName := ⟨RJ4, "length", "()I"⟩
def RJ1 : String := "java/lang/StringLatin1"
def TJ1 : u_T := fun k => match k with
  | _ => ("", "", "", false)
def tyJ1 : Nat → FieldType := fun k => match k with
  | _ => .int
abbrev wsJ10 : List Cond := u_ws RJ1 TJ1 0
theorem nmJ1 : ∀ a, a < 0 → ∀ b, b < 0 → a ≠ b → (TJ1 a).2.1 ≠ (TJ1 b).2.1 := by decide +kernel
theorem tyJ1_ok : ∀ k, k < 0 → parseFieldDescriptor (TJ1 k).2.2.1 = some (tyJ1 k) := by decide +kernel
abbrev cJ1_charAt_3b067 : ByteArray := prog_17_method_2_code
def yJ1_charAt_3b067 : MethodName := ⟨RJ1, "charAt", "([BI)C"⟩
abbrev cJ1_canEncode_fc78d : ByteArray := prog_17_method_3_code
def yJ1_canEncode_fc78d : MethodName := ⟨RJ1, "canEncode", "(C)Z"⟩
abbrev cJ1_inflate_0e8fd : ByteArray := prog_17_method_50_code
def yJ1_inflate_0e8fd : MethodName := ⟨RJ1, "inflate", "([BI[BII)V"⟩
def RJ2 : String := "java/lang/StringUTF16"
def TJ2 : u_T := fun k => match k with
  | _ => ("", "", "", false)
def tyJ2 : Nat → FieldType := fun k => match k with
  | _ => .int
abbrev wsJ20 : List Cond := u_ws RJ2 TJ2 0
theorem nmJ2 : ∀ a, a < 0 → ∀ b, b < 0 → a ≠ b → (TJ2 a).2.1 ≠ (TJ2 b).2.1 := by decide +kernel
theorem tyJ2_ok : ∀ k, k < 0 → parseFieldDescriptor (TJ2 k).2.2.1 = some (tyJ2 k) := by decide +kernel
abbrev cJ2_newBytesFor_77867 : ByteArray := prog_18_method_2_code
def yJ2_newBytesFor_77867 : MethodName := ⟨RJ2, "newBytesFor", "(I)[B"⟩
abbrev cJ2_newBytesLength_0f7a4 : ByteArray := prog_18_method_3_code
def yJ2_newBytesLength_0f7a4 : MethodName := ⟨RJ2, "newBytesLength", "(I)I"⟩
abbrev cJ2_putChar_b72d1 : ByteArray := prog_18_method_4_code
def yJ2_putChar_b72d1 : MethodName := ⟨RJ2, "putChar", "([BII)V"⟩
abbrev cJ2_getChar_3b067 : ByteArray := prog_18_method_5_code
def yJ2_getChar_3b067 : MethodName := ⟨RJ2, "getChar", "([BI)C"⟩
abbrev cJ2_length_9d52b : ByteArray := prog_18_method_6_code
def yJ2_length_9d52b : MethodName := ⟨RJ2, "length", "([B)I"⟩
abbrev cJ2_toBytes_dfd3c : ByteArray := prog_18_method_14_code
def yJ2_toBytes_dfd3c : MethodName := ⟨RJ2, "toBytes", "([CII)[B"⟩
abbrev cJ2_coderFromArrayLen_85cad : ByteArray := prog_18_method_15_code
def yJ2_coderFromArrayLen_85cad : MethodName := ⟨RJ2, "coderFromArrayLen", "([BI)B"⟩
abbrev cJ2_compress_dfd3c : ByteArray := prog_18_method_16_code
def yJ2_compress_dfd3c : MethodName := ⟨RJ2, "compress", "([CII)[B"⟩
abbrev cJ2_compress_39247 : ByteArray := prog_18_method_17_code
def yJ2_compress_39247 : MethodName := ⟨RJ2, "compress", "([BII)[B"⟩
abbrev cJ2_compress_fe38e : ByteArray := prog_18_method_21_code
def yJ2_compress_fe38e : MethodName := ⟨RJ2, "compress", "([CI[BII)I"⟩
abbrev cJ2_compress_5af95 : ByteArray := prog_18_method_22_code
def yJ2_compress_5af95 : MethodName := ⟨RJ2, "compress", "([BI[BII)I"⟩
abbrev cJ2_putCharSB_b72d1 : ByteArray := prog_18_method_71_code
def yJ2_putCharSB_b72d1 : MethodName := ⟨RJ2, "putCharSB", "([BII)V"⟩
abbrev cJ2_getChars_46870 : ByteArray := prog_18_method_77_code
def yJ2_getChars_46870 : MethodName := ⟨RJ2, "getChars", "(III[B)I"⟩
abbrev cJ2_getChars_1ba55 : ByteArray := prog_18_method_78_code
def yJ2_getChars_1ba55 : MethodName := ⟨RJ2, "getChars", "(JII[B)I"⟩
abbrev cJ2_putCharsAt_cd4e5 : ByteArray := prog_18_method_81_code
def yJ2_putCharsAt_cd4e5 : MethodName := ⟨RJ2, "putCharsAt", "([BICCCC)I"⟩
abbrev cJ2_charAt_3b067 : ByteArray := prog_18_method_83_code
def yJ2_charAt_3b067 : MethodName := ⟨RJ2, "charAt", "([BI)C"⟩
abbrev cJ2_inflate_0e8fd : ByteArray := prog_18_method_86_code
def yJ2_inflate_0e8fd : MethodName := ⟨RJ2, "inflate", "([BI[BII)V"⟩
abbrev cJ2_getChars_ba4f3 : ByteArray := prog_18_method_89_code
def yJ2_getChars_ba4f3 : MethodName := ⟨RJ2, "getChars", "(II[B)I"⟩
abbrev cJ2_getChars_11360 : ByteArray := prog_18_method_90_code
def yJ2_getChars_11360 : MethodName := ⟨RJ2, "getChars", "(JI[B)I"⟩
abbrev cJ2_checkIndex_2214a : ByteArray := prog_18_method_91_code
def yJ2_checkIndex_2214a : MethodName := ⟨RJ2, "checkIndex", "(I[B)V"⟩
abbrev cJ2_checkBoundsBeginEnd_d044e : ByteArray := prog_18_method_93_code
def yJ2_checkBoundsBeginEnd_d044e : MethodName := ⟨RJ2, "checkBoundsBeginEnd", "(II[B)V"⟩
abbrev cJ2_checkBoundsOffCount_d044e : ByteArray := prog_18_method_94_code
def yJ2_checkBoundsOffCount_d044e : MethodName := ⟨RJ2, "checkBoundsOffCount", "(II[B)V"⟩
def RJ10 : String := "java/lang/System"
def TJ10 : u_T := fun k => match k with
  | _ => ("", "", "", false)
def tyJ10 : Nat → FieldType := fun k => match k with
  | _ => .int
abbrev wsJ100 : List Cond := u_ws RJ10 TJ10 0
theorem nmJ10 : ∀ a, a < 0 → ∀ b, b < 0 → a ≠ b → (TJ10 a).2.1 ≠ (TJ10 b).2.1 := by decide +kernel
theorem tyJ10_ok : ∀ k, k < 0 → parseFieldDescriptor (TJ10 k).2.2.1 = some (tyJ10 k) := by decide +kernel
def RJ7 : String := "java/util/Arrays"
def TJ7 : u_T := fun k => match k with
  | _ => ("", "", "", false)
def tyJ7 : Nat → FieldType := fun k => match k with
  | _ => .int
abbrev wsJ70 : List Cond := u_ws RJ7 TJ7 0
theorem nmJ7 : ∀ a, a < 0 → ∀ b, b < 0 → a ≠ b → (TJ7 a).2.1 ≠ (TJ7 b).2.1 := by decide +kernel
theorem tyJ7_ok : ∀ k, k < 0 → parseFieldDescriptor (TJ7 k).2.2.1 = some (tyJ7 k) := by decide +kernel
abbrev cJ7_copyOf_9075b : ByteArray := prog_21_method_121_code
def yJ7_copyOf_9075b : MethodName := ⟨RJ7, "copyOf", "([BI)[B"⟩
abbrev cJ7_checkLength_df160 : ByteArray := prog_21_method_131_code
def yJ7_checkLength_df160 : MethodName := ⟨RJ7, "checkLength", "(II)V"⟩
abbrev cJ7_copyOfRange_39247 : ByteArray := prog_21_method_132_code
def yJ7_copyOfRange_39247 : MethodName := ⟨RJ7, "copyOfRange", "([BII)[B"⟩
abbrev cJ7_copyOfRangeByte_39247 : ByteArray := prog_21_method_133_code
def yJ7_copyOfRangeByte_39247 : MethodName := ⟨RJ7, "copyOfRangeByte", "([BII)[B"⟩
def RJ8 : String := "jdk/internal/util/ArraysSupport"
def TJ8 : u_T := fun k => match k with
  | _ => ("", "", "", false)
def tyJ8 : Nat → FieldType := fun k => match k with
  | _ => .int
abbrev wsJ80 : List Cond := u_ws RJ8 TJ8 0
theorem nmJ8 : ∀ a, a < 0 → ∀ b, b < 0 → a ≠ b → (TJ8 a).2.1 ≠ (TJ8 b).2.1 := by decide +kernel
theorem tyJ8_ok : ∀ k, k < 0 → parseFieldDescriptor (TJ8 k).2.2.1 = some (tyJ8 k) := by decide +kernel
abbrev cJ8_newLength_cabcc : ByteArray := prog_22_method_27_code
def yJ8_newLength_cabcc : MethodName := ⟨RJ8, "newLength", "(III)I"⟩
abbrev cJ8_hugeLength_7cf53 : ByteArray := prog_22_method_28_code
def yJ8_hugeLength_7cf53 : MethodName := ⟨RJ8, "hugeLength", "(II)I"⟩
def RJ3 : String := "jdk/internal/util/Preconditions"
def TJ3 : u_T := fun k => match k with
  | _ => ("", "", "", false)
def tyJ3 : Nat → FieldType := fun k => match k with
  | _ => .int
abbrev wsJ30 : List Cond := u_ws RJ3 TJ3 0
theorem nmJ3 : ∀ a, a < 0 → ∀ b, b < 0 → a ≠ b → (TJ3 a).2.1 ≠ (TJ3 b).2.1 := by decide +kernel
theorem tyJ3_ok : ∀ k, k < 0 → parseFieldDescriptor (TJ3 k).2.2.1 = some (tyJ3 k) := by decide +kernel
abbrev cJ3_checkIndex_8e157 : ByteArray := prog_23_method_11_code
def yJ3_checkIndex_8e157 : MethodName := ⟨RJ3, "checkIndex", "(IILjava/util/function/BiFunction;)I"⟩
abbrev cJ3_checkFromToIndex_8c36e : ByteArray := prog_23_method_12_code
def yJ3_checkFromToIndex_8c36e : MethodName := ⟨RJ3, "checkFromToIndex", "(IIILjava/util/function/BiFunction;)I"⟩
abbrev cJ3_checkFromIndexSize_8c36e : ByteArray := prog_23_method_13_code
def yJ3_checkFromIndexSize_8c36e : MethodName := ⟨RJ3, "checkFromIndexSize", "(IIILjava/util/function/BiFunction;)I"⟩
def RL : String := "TapebufferLaw"
abbrev cL_addWord : ByteArray := method_2_code
def yL_addWord : MethodName := ⟨RL, "addWord", "(LTapebuffer;IILTapebufferLaw$Out;)I"⟩
abbrev cL_addNumber : ByteArray := method_3_code
def yL_addNumber : MethodName := ⟨RL, "addNumber", "(LTapebuffer;IILTapebufferLaw$Out;)I"⟩
abbrev cL_addLong : ByteArray := method_4_code
def yL_addLong : MethodName := ⟨RL, "addLong", "(LTapebuffer;IIILTapebufferLaw$Out;)I"⟩
abbrev cL_addSign : ByteArray := method_5_code
def yL_addSign : MethodName := ⟨RL, "addSign", "(LTapebuffer;IILTapebufferLaw$Out;)I"⟩
abbrev cL_addTruth : ByteArray := method_6_code
def yL_addTruth : MethodName := ⟨RL, "addTruth", "(LTapebuffer;IZLTapebufferLaw$Out;)I"⟩
abbrev cL_addRow : ByteArray := method_7_code
def yL_addRow : MethodName := ⟨RL, "addRow", "(LTapebuffer;IIIILTapebufferLaw$Out;)I"⟩
abbrev cL_addTape : ByteArray := method_8_code
def yL_addTape : MethodName := ⟨RL, "addTape", "(LTapebuffer;IILTapebufferLaw$Out;)I"⟩
abbrev cL_addOften : ByteArray := method_9_code
def yL_addOften : MethodName := ⟨RL, "addOften", "(LTapebuffer;IIILTapebufferLaw$Out;)I"⟩
abbrev cL_addThree : ByteArray := method_10_code
def yL_addThree : MethodName := ⟨RL, "addThree", "(LTapebuffer;IIIILTapebufferLaw$Out;)I"⟩
abbrev cL_putWord : ByteArray := method_11_code
def yL_putWord : MethodName := ⟨RL, "putWord", "(LTapebuffer;IIILTapebufferLaw$Out;)I"⟩
abbrev cL_putNumber : ByteArray := method_12_code
def yL_putNumber : MethodName := ⟨RL, "putNumber", "(LTapebuffer;IIILTapebufferLaw$Out;)I"⟩
abbrev cL_putSign : ByteArray := method_13_code
def yL_putSign : MethodName := ⟨RL, "putSign", "(LTapebuffer;IIILTapebufferLaw$Out;)I"⟩
abbrev cL_putTape : ByteArray := method_14_code
def yL_putTape : MethodName := ⟨RL, "putTape", "(LTapebuffer;IIILTapebufferLaw$Out;)I"⟩
abbrev cL_takeOut : ByteArray := method_15_code
def yL_takeOut : MethodName := ⟨RL, "takeOut", "(LTapebuffer;IIILTapebufferLaw$Out;)I"⟩
abbrev cL_takeSign : ByteArray := method_16_code
def yL_takeSign : MethodName := ⟨RL, "takeSign", "(LTapebuffer;IILTapebufferLaw$Out;)I"⟩
abbrev cL_exchange : ByteArray := method_17_code
def yL_exchange : MethodName := ⟨RL, "exchange", "(LTapebuffer;IIIILTapebufferLaw$Out;)I"⟩
abbrev cL_exchangeTape : ByteArray := method_18_code
def yL_exchangeTape : MethodName := ⟨RL, "exchangeTape", "(LTapebuffer;IIIILTapebufferLaw$Out;)I"⟩
abbrev cL_setSign : ByteArray := method_19_code
def yL_setSign : MethodName := ⟨RL, "setSign", "(LTapebuffer;IIILTapebufferLaw$Out;)I"⟩
abbrev cL_setLength : ByteArray := method_20_code
def yL_setLength : MethodName := ⟨RL, "setLength", "(LTapebuffer;IILTapebufferLaw$Out;)I"⟩
abbrev cL_turn : ByteArray := method_21_code
def yL_turn : MethodName := ⟨RL, "turn", "(LTapebuffer;ILTapebufferLaw$Out;)I"⟩
abbrev cL_copy : ByteArray := method_22_code
def yL_copy : MethodName := ⟨RL, "copy", "(LTapebuffer;IILTapebufferLaw$Out;)I"⟩
abbrev cL_trim : ByteArray := method_23_code
def yL_trim : MethodName := ⟨RL, "trim", "(LTapebuffer;ILTapebufferLaw$Out;)I"⟩
abbrev cL_picture : ByteArray := method_24_code
def yL_picture : MethodName := ⟨RL, "picture", "(LTapebuffer;ILTapebufferLaw$Out;)I"⟩
abbrev cL_watch : ByteArray := method_25_code
def yL_watch : MethodName := ⟨RL, "watch", "(LTapebuffer;ILTapebufferLaw$Out;)I"⟩
abbrev cL_back : ByteArray := method_26_code
def yL_back : MethodName := ⟨RL, "back", "(LTapebuffer;ILTapebufferLaw$Out;)I"⟩
abbrev cL_length : ByteArray := method_27_code
def yL_length : MethodName := ⟨RL, "length", "(LTapebuffer;ILTapebufferLaw$Out;)I"⟩
abbrev cL_sign : ByteArray := method_28_code
def yL_sign : MethodName := ⟨RL, "sign", "(LTapebuffer;IILTapebufferLaw$Out;)I"⟩
abbrev cL_text : ByteArray := method_29_code
def yL_text : MethodName := ⟨RL, "text", "(LTapebuffer;ILTapebufferLaw$Out;)I"⟩
abbrev cL_part : ByteArray := method_30_code
def yL_part : MethodName := ⟨RL, "part", "(LTapebuffer;IIILTapebufferLaw$Out;)I"⟩
abbrev cL_rest : ByteArray := method_31_code
def yL_rest : MethodName := ⟨RL, "rest", "(LTapebuffer;IILTapebufferLaw$Out;)I"⟩
abbrev cL_find : ByteArray := method_32_code
def yL_find : MethodName := ⟨RL, "find", "(LTapebuffer;IILTapebufferLaw$Out;)I"⟩
abbrev cL_findFrom : ByteArray := method_33_code
def yL_findFrom : MethodName := ⟨RL, "findFrom", "(LTapebuffer;IIILTapebufferLaw$Out;)I"⟩
abbrev cL_findLast : ByteArray := method_34_code
def yL_findLast : MethodName := ⟨RL, "findLast", "(LTapebuffer;IILTapebufferLaw$Out;)I"⟩
abbrev cL_findLastFrom : ByteArray := method_35_code
def yL_findLastFrom : MethodName := ⟨RL, "findLastFrom", "(LTapebuffer;IIILTapebufferLaw$Out;)I"⟩
abbrev cL_findTape : ByteArray := method_36_code
def yL_findTape : MethodName := ⟨RL, "findTape", "(LTapebuffer;IILTapebufferLaw$Out;)I"⟩
abbrev cL_findTapeLast : ByteArray := method_37_code
def yL_findTapeLast : MethodName := ⟨RL, "findTapeLast", "(LTapebuffer;IILTapebufferLaw$Out;)I"⟩
abbrev cL_findSign : ByteArray := method_38_code
def yL_findSign : MethodName := ⟨RL, "findSign", "(LTapebuffer;IILTapebufferLaw$Out;)I"⟩
abbrev cL_has : ByteArray := method_39_code
def yL_has : MethodName := ⟨RL, "has", "(LTapebuffer;IILTapebufferLaw$Out;)I"⟩
abbrev cL_compare : ByteArray := method_40_code
def yL_compare : MethodName := ⟨RL, "compare", "(LTapebuffer;IILTapebufferLaw$Out;)I"⟩
abbrev cL_apart : ByteArray := method_41_code
def yL_apart : MethodName := ⟨RL, "apart", "(LTapebuffer;IILTapebufferLaw$Out;)I"⟩
abbrev cL_isLike : ByteArray := method_42_code
def yL_isLike : MethodName := ⟨RL, "isLike", "(LTapebuffer;IILTapebufferLaw$Out;)I"⟩
abbrev cL_hash : ByteArray := method_43_code
def yL_hash : MethodName := ⟨RL, "hash", "(LTapebuffer;ILTapebufferLaw$Out;)I"⟩
abbrev cL_number : ByteArray := method_44_code
def yL_number : MethodName := ⟨RL, "number", "(LTapebuffer;IIIILTapebufferLaw$Out;)I"⟩
abbrev cL_isBlank : ByteArray := method_45_code
def yL_isBlank : MethodName := ⟨RL, "isBlank", "(LTapebuffer;ILTapebufferLaw$Out;)I"⟩
abbrev cL_trimmed : ByteArray := method_46_code
def yL_trimmed : MethodName := ⟨RL, "trimmed", "(LTapebuffer;ILTapebufferLaw$Out;)I"⟩
abbrev cL_watched : ByteArray := method_47_code
def yL_watched : MethodName := ⟨RL, "watched", "(LTapebuffer;ILTapebufferLaw$Out;)I"⟩
abbrev cL_word : ByteArray := method_48_code
def yL_word : MethodName := ⟨RL, "word", "(LTapebuffer;ILTapebufferLaw$Out;)I"⟩
abbrev cL_house : ByteArray := method_49_code
def yL_house : MethodName := ⟨RL, "house", "(LTapebuffer;ILTapebufferLaw$Out;)I"⟩
abbrev cL_law : ByteArray := code
def yL_law : MethodName := ⟨RL, "law", "([I)Z"⟩
def wsX0_init : List Cond := .code yX0_init cX0_init 1 none :: ([.methodLink RX0 3 objectInit, .instanceMethod objectInit, .code objectInit ⟨#[0xb1]⟩ 1 none, .arrayClass .int, .fieldLink RX0 9 "Tapebuffer$Row" "signs" "[I"] ++ wsX00)
def wsX0_becomeLong : List Cond := .code yX0_becomeLong cX0_becomeLong 3 none :: ([.fieldLink RX0 15 "Tapebuffer$Row" "size" "I", .fieldLink RX0 9 "Tapebuffer$Row" "signs" "[I"] ++ wsX00)
def wsJ0_coder_7d493 : List Cond := .code yJ0_coder_7d493 cJ0_coder_7d493 1 (some .byte) :: ([.fieldLink RJ0 38 "java/lang/String" "COMPACT_STRINGS" "Z", .fieldLink RJ0 15 "java/lang/String" "coder" "B"] ++ wsJ00)
def wsJ0_length_8abf5 : List Cond := .code yJ0_length_8abf5 cJ0_length_8abf5 1 (some .int) :: ([.fieldLink RJ0 9 "java/lang/String" "value" "[B", .methodLink RJ0 335 yJ0_coder_7d493, .instanceMethod yJ0_coder_7d493, .selects RJ0 yJ0_coder_7d493 yJ0_coder_7d493, .initialized RJ0, .code yJ0_coder_7d493 cJ0_coder_7d493 1 (some .byte), .fieldLink RJ0 38 "java/lang/String" "COMPACT_STRINGS" "Z", .fieldLink RJ0 15 "java/lang/String" "coder" "B"] ++ wsJ00)
def wsJ2_compress_fe38e : List Cond := .code yJ2_compress_fe38e cJ2_compress_fe38e 7 (some .int) :: ([])
def wsJ2_compress_dfd3c_r1 : List Cond := [Cond.arrayClass .byte, Cond.methodLink RJ2 115 yJ2_compress_fe38e, Cond.static yJ2_compress_fe38e, Cond.initialized RJ2, Cond.code yJ2_compress_fe38e cJ2_compress_fe38e 7 (some .int), Cond.methodLink RJ2 119 yJ2_toBytes_dfd3c, Cond.static yJ2_toBytes_dfd3c, Cond.code yJ2_toBytes_dfd3c cJ2_toBytes_dfd3c 5 (some (.array .byte)), Cond.methodLink RJ2 107 yJ2_newBytesFor_77867, Cond.static yJ2_newBytesFor_77867, Cond.code yJ2_newBytesFor_77867 cJ2_newBytesFor_77867 1 (some (.array .byte)), Cond.methodLink RJ2 11 yJ2_newBytesLength_0f7a4, Cond.static yJ2_newBytesLength_0f7a4, Cond.code yJ2_newBytesLength_0f7a4 cJ2_newBytesLength_0f7a4 1 (some .int), Cond.constant RJ2 20 (1073741823), Cond.methodLink RJ2 111 yJ2_putChar_b72d1, Cond.static yJ2_putChar_b72d1, Cond.code yJ2_putChar_b72d1 cJ2_putChar_b72d1 3 none, Cond.fieldLink RJ2 44 "java/lang/StringUTF16" "$assertionsDisabled" "Z", Cond.fieldLink RJ2 59 "java/lang/StringUTF16" "HI_BYTE_SHIFT" "I", Cond.fieldLink RJ2 63 "java/lang/StringUTF16" "LO_BYTE_SHIFT" "I", Cond.methodLink RJ2 48 yJ2_length_9d52b, Cond.static yJ2_length_9d52b, Cond.code yJ2_length_9d52b cJ2_length_9d52b 1 (some .int)]
def wsJ2_compress_dfd3c_r2 : List Cond := [Cond.methodLink RJ2 71 yJ2_getChar_3b067, Cond.static yJ2_getChar_3b067, Cond.code yJ2_getChar_3b067 cJ2_getChar_3b067 2 (some .char), Cond.methodLink RJ2 123 yJ2_compress_5af95, Cond.static yJ2_compress_5af95, Cond.code yJ2_compress_5af95 cJ2_compress_5af95 7 (some .int), Cond.methodLink RJ2 173 yJ2_checkBoundsOffCount_d044e, Cond.static yJ2_checkBoundsOffCount_d044e, Cond.code yJ2_checkBoundsOffCount_d044e cJ2_checkBoundsOffCount_d044e 3 none, Cond.methodLink RJ2 419 yJ0_checkBoundsOffCount_cabcc, Cond.static yJ0_checkBoundsOffCount_cabcc, Cond.initialized RJ0, Cond.code yJ0_checkBoundsOffCount_cabcc cJ0_checkBoundsOffCount_cabcc 3 (some .int), Cond.fieldLink RJ0 1053 "jdk/internal/util/Preconditions" "SIOOBE_FORMATTER" "Ljava/util/function/BiFunction;", Cond.methodLink RJ0 1065 yJ3_checkFromIndexSize_8c36e, Cond.static yJ3_checkFromIndexSize_8c36e, Cond.initialized RJ3, Cond.code yJ3_checkFromIndexSize_8c36e cJ3_checkFromIndexSize_8c36e 4 (some .int)]
def wsJ2_compress_dfd3c : List Cond := .code yJ2_compress_dfd3c cJ2_compress_dfd3c 6 (some (.array .byte)) :: ((wsJ2_compress_dfd3c_r1 ++ wsJ2_compress_dfd3c_r2))
def wsJ2_coderFromArrayLen_85cad : List Cond := .code yJ2_coderFromArrayLen_85cad cJ2_coderFromArrayLen_85cad 2 (some .byte) :: ([])
def wsJ0_init_bb550_r1 : List Cond := [Cond.methodLink RJ0 1 objectInit, Cond.instanceMethod objectInit, Cond.code objectInit ⟨#[0xb1]⟩ 1 none, Cond.fieldLink RJ0 9 "java/lang/String" "value" "[B", Cond.fieldLink RJ0 15 "java/lang/String" "coder" "B", Cond.fieldLink RJ0 38 "java/lang/String" "COMPACT_STRINGS" "Z", Cond.methodLink RJ0 177 yJ2_compress_dfd3c, Cond.static yJ2_compress_dfd3c, Cond.initialized RJ2, Cond.code yJ2_compress_dfd3c cJ2_compress_dfd3c 6 (some (.array .byte)), Cond.arrayClass .byte, Cond.methodLink RJ2 115 yJ2_compress_fe38e, Cond.static yJ2_compress_fe38e, Cond.code yJ2_compress_fe38e cJ2_compress_fe38e 7 (some .int), Cond.methodLink RJ2 119 yJ2_toBytes_dfd3c, Cond.static yJ2_toBytes_dfd3c, Cond.code yJ2_toBytes_dfd3c cJ2_toBytes_dfd3c 5 (some (.array .byte)), Cond.methodLink RJ2 107 yJ2_newBytesFor_77867, Cond.static yJ2_newBytesFor_77867, Cond.code yJ2_newBytesFor_77867 cJ2_newBytesFor_77867 1 (some (.array .byte)), Cond.methodLink RJ2 11 yJ2_newBytesLength_0f7a4, Cond.static yJ2_newBytesLength_0f7a4, Cond.code yJ2_newBytesLength_0f7a4 cJ2_newBytesLength_0f7a4 1 (some .int), Cond.constant RJ2 20 (1073741823)]
def wsJ0_init_bb550_r2 : List Cond := [Cond.methodLink RJ2 111 yJ2_putChar_b72d1, Cond.static yJ2_putChar_b72d1, Cond.code yJ2_putChar_b72d1 cJ2_putChar_b72d1 3 none, Cond.fieldLink RJ2 44 "java/lang/StringUTF16" "$assertionsDisabled" "Z", Cond.fieldLink RJ2 59 "java/lang/StringUTF16" "HI_BYTE_SHIFT" "I", Cond.fieldLink RJ2 63 "java/lang/StringUTF16" "LO_BYTE_SHIFT" "I", Cond.methodLink RJ2 48 yJ2_length_9d52b, Cond.static yJ2_length_9d52b, Cond.code yJ2_length_9d52b cJ2_length_9d52b 1 (some .int), Cond.methodLink RJ2 71 yJ2_getChar_3b067, Cond.static yJ2_getChar_3b067, Cond.code yJ2_getChar_3b067 cJ2_getChar_3b067 2 (some .char), Cond.methodLink RJ2 123 yJ2_compress_5af95, Cond.static yJ2_compress_5af95, Cond.code yJ2_compress_5af95 cJ2_compress_5af95 7 (some .int), Cond.methodLink RJ2 173 yJ2_checkBoundsOffCount_d044e, Cond.static yJ2_checkBoundsOffCount_d044e, Cond.code yJ2_checkBoundsOffCount_d044e cJ2_checkBoundsOffCount_d044e 3 none, Cond.methodLink RJ2 419 yJ0_checkBoundsOffCount_cabcc, Cond.static yJ0_checkBoundsOffCount_cabcc, Cond.initialized RJ0, Cond.code yJ0_checkBoundsOffCount_cabcc cJ0_checkBoundsOffCount_cabcc 3 (some .int), Cond.fieldLink RJ0 1053 "jdk/internal/util/Preconditions" "SIOOBE_FORMATTER" "Ljava/util/function/BiFunction;", Cond.methodLink RJ0 1065 yJ3_checkFromIndexSize_8c36e]
def wsJ0_init_bb550_r3 : List Cond := [Cond.static yJ3_checkFromIndexSize_8c36e, Cond.initialized RJ3, Cond.code yJ3_checkFromIndexSize_8c36e cJ3_checkFromIndexSize_8c36e 4 (some .int), Cond.methodLink RJ0 47 yJ2_coderFromArrayLen_85cad, Cond.static yJ2_coderFromArrayLen_85cad, Cond.code yJ2_coderFromArrayLen_85cad cJ2_coderFromArrayLen_85cad 2 (some .byte), Cond.methodLink RJ0 180 yJ2_toBytes_dfd3c]
def wsJ0_init_bb550 : List Cond := .code yJ0_init_bb550 cJ0_init_bb550 6 none :: ((wsJ0_init_bb550_r1 ++ (wsJ0_init_bb550_r2 ++ wsJ0_init_bb550_r3)) ++ wsJ00)
def wsJ0_init_905df_r1 : List Cond := [Cond.methodLink RJ0 27 yJ0_init_bb550, Cond.instanceMethod yJ0_init_bb550, Cond.initialized RJ0, Cond.code yJ0_init_bb550 cJ0_init_bb550 6 none, Cond.methodLink RJ0 1 objectInit, Cond.instanceMethod objectInit, Cond.code objectInit ⟨#[0xb1]⟩ 1 none, Cond.fieldLink RJ0 9 "java/lang/String" "value" "[B", Cond.fieldLink RJ0 15 "java/lang/String" "coder" "B", Cond.fieldLink RJ0 38 "java/lang/String" "COMPACT_STRINGS" "Z", Cond.methodLink RJ0 177 yJ2_compress_dfd3c, Cond.static yJ2_compress_dfd3c, Cond.initialized RJ2, Cond.code yJ2_compress_dfd3c cJ2_compress_dfd3c 6 (some (.array .byte)), Cond.arrayClass .byte, Cond.methodLink RJ2 115 yJ2_compress_fe38e, Cond.static yJ2_compress_fe38e, Cond.code yJ2_compress_fe38e cJ2_compress_fe38e 7 (some .int), Cond.methodLink RJ2 119 yJ2_toBytes_dfd3c, Cond.static yJ2_toBytes_dfd3c, Cond.code yJ2_toBytes_dfd3c cJ2_toBytes_dfd3c 5 (some (.array .byte)), Cond.methodLink RJ2 107 yJ2_newBytesFor_77867, Cond.static yJ2_newBytesFor_77867, Cond.code yJ2_newBytesFor_77867 cJ2_newBytesFor_77867 1 (some (.array .byte))]
def wsJ0_init_905df_r2 : List Cond := [Cond.methodLink RJ2 11 yJ2_newBytesLength_0f7a4, Cond.static yJ2_newBytesLength_0f7a4, Cond.code yJ2_newBytesLength_0f7a4 cJ2_newBytesLength_0f7a4 1 (some .int), Cond.constant RJ2 20 (1073741823), Cond.methodLink RJ2 111 yJ2_putChar_b72d1, Cond.static yJ2_putChar_b72d1, Cond.code yJ2_putChar_b72d1 cJ2_putChar_b72d1 3 none, Cond.fieldLink RJ2 44 "java/lang/StringUTF16" "$assertionsDisabled" "Z", Cond.fieldLink RJ2 59 "java/lang/StringUTF16" "HI_BYTE_SHIFT" "I", Cond.fieldLink RJ2 63 "java/lang/StringUTF16" "LO_BYTE_SHIFT" "I", Cond.methodLink RJ2 48 yJ2_length_9d52b, Cond.static yJ2_length_9d52b, Cond.code yJ2_length_9d52b cJ2_length_9d52b 1 (some .int), Cond.methodLink RJ2 71 yJ2_getChar_3b067, Cond.static yJ2_getChar_3b067, Cond.code yJ2_getChar_3b067 cJ2_getChar_3b067 2 (some .char), Cond.methodLink RJ2 123 yJ2_compress_5af95, Cond.static yJ2_compress_5af95, Cond.code yJ2_compress_5af95 cJ2_compress_5af95 7 (some .int), Cond.methodLink RJ2 173 yJ2_checkBoundsOffCount_d044e, Cond.static yJ2_checkBoundsOffCount_d044e, Cond.code yJ2_checkBoundsOffCount_d044e cJ2_checkBoundsOffCount_d044e 3 none, Cond.methodLink RJ2 419 yJ0_checkBoundsOffCount_cabcc, Cond.static yJ0_checkBoundsOffCount_cabcc]
def wsJ0_init_905df_r3 : List Cond := [Cond.code yJ0_checkBoundsOffCount_cabcc cJ0_checkBoundsOffCount_cabcc 3 (some .int), Cond.fieldLink RJ0 1053 "jdk/internal/util/Preconditions" "SIOOBE_FORMATTER" "Ljava/util/function/BiFunction;", Cond.methodLink RJ0 1065 yJ3_checkFromIndexSize_8c36e, Cond.static yJ3_checkFromIndexSize_8c36e, Cond.initialized RJ3, Cond.code yJ3_checkFromIndexSize_8c36e cJ3_checkFromIndexSize_8c36e 4 (some .int), Cond.methodLink RJ0 47 yJ2_coderFromArrayLen_85cad, Cond.static yJ2_coderFromArrayLen_85cad, Cond.code yJ2_coderFromArrayLen_85cad cJ2_coderFromArrayLen_85cad 2 (some .byte), Cond.methodLink RJ0 180 yJ2_toBytes_dfd3c]
def wsJ0_init_905df : List Cond := .code yJ0_init_905df cJ0_init_905df 2 none :: ((wsJ0_init_905df_r1 ++ (wsJ0_init_905df_r2 ++ wsJ0_init_905df_r3)) ++ wsJ00)
def wsX0_textOf_r1 : List Cond := [Cond.fieldLink RX0 15 "Tapebuffer$Row" "size" "I", Cond.arrayClass .char, Cond.fieldLink RX0 9 "Tapebuffer$Row" "signs" "[I", Cond.classLink RX0 30 RJ0, Cond.instantiable RJ0 4, Cond.initialized RJ0, Cond.methodLink RX0 52 yJ0_init_905df, Cond.instanceMethod yJ0_init_905df, Cond.code yJ0_init_905df cJ0_init_905df 2 none, Cond.methodLink RJ0 27 yJ0_init_bb550, Cond.instanceMethod yJ0_init_bb550, Cond.code yJ0_init_bb550 cJ0_init_bb550 6 none, Cond.methodLink RJ0 1 objectInit, Cond.instanceMethod objectInit, Cond.code objectInit ⟨#[0xb1]⟩ 1 none, Cond.fieldLink RJ0 9 "java/lang/String" "value" "[B", Cond.fieldLink RJ0 15 "java/lang/String" "coder" "B", Cond.fieldLink RJ0 38 "java/lang/String" "COMPACT_STRINGS" "Z", Cond.methodLink RJ0 177 yJ2_compress_dfd3c, Cond.static yJ2_compress_dfd3c, Cond.initialized RJ2, Cond.code yJ2_compress_dfd3c cJ2_compress_dfd3c 6 (some (.array .byte)), Cond.arrayClass .byte, Cond.methodLink RJ2 115 yJ2_compress_fe38e]
def wsX0_textOf_r2 : List Cond := [Cond.static yJ2_compress_fe38e, Cond.code yJ2_compress_fe38e cJ2_compress_fe38e 7 (some .int), Cond.methodLink RJ2 119 yJ2_toBytes_dfd3c, Cond.static yJ2_toBytes_dfd3c, Cond.code yJ2_toBytes_dfd3c cJ2_toBytes_dfd3c 5 (some (.array .byte)), Cond.methodLink RJ2 107 yJ2_newBytesFor_77867, Cond.static yJ2_newBytesFor_77867, Cond.code yJ2_newBytesFor_77867 cJ2_newBytesFor_77867 1 (some (.array .byte)), Cond.methodLink RJ2 11 yJ2_newBytesLength_0f7a4, Cond.static yJ2_newBytesLength_0f7a4, Cond.code yJ2_newBytesLength_0f7a4 cJ2_newBytesLength_0f7a4 1 (some .int), Cond.constant RJ2 20 (1073741823), Cond.methodLink RJ2 111 yJ2_putChar_b72d1, Cond.static yJ2_putChar_b72d1, Cond.code yJ2_putChar_b72d1 cJ2_putChar_b72d1 3 none, Cond.fieldLink RJ2 44 "java/lang/StringUTF16" "$assertionsDisabled" "Z", Cond.fieldLink RJ2 59 "java/lang/StringUTF16" "HI_BYTE_SHIFT" "I", Cond.fieldLink RJ2 63 "java/lang/StringUTF16" "LO_BYTE_SHIFT" "I", Cond.methodLink RJ2 48 yJ2_length_9d52b, Cond.static yJ2_length_9d52b, Cond.code yJ2_length_9d52b cJ2_length_9d52b 1 (some .int), Cond.methodLink RJ2 71 yJ2_getChar_3b067, Cond.static yJ2_getChar_3b067, Cond.code yJ2_getChar_3b067 cJ2_getChar_3b067 2 (some .char)]
def wsX0_textOf_r3 : List Cond := [Cond.methodLink RJ2 123 yJ2_compress_5af95, Cond.static yJ2_compress_5af95, Cond.code yJ2_compress_5af95 cJ2_compress_5af95 7 (some .int), Cond.methodLink RJ2 173 yJ2_checkBoundsOffCount_d044e, Cond.static yJ2_checkBoundsOffCount_d044e, Cond.code yJ2_checkBoundsOffCount_d044e cJ2_checkBoundsOffCount_d044e 3 none, Cond.methodLink RJ2 419 yJ0_checkBoundsOffCount_cabcc, Cond.static yJ0_checkBoundsOffCount_cabcc, Cond.code yJ0_checkBoundsOffCount_cabcc cJ0_checkBoundsOffCount_cabcc 3 (some .int), Cond.fieldLink RJ0 1053 "jdk/internal/util/Preconditions" "SIOOBE_FORMATTER" "Ljava/util/function/BiFunction;", Cond.methodLink RJ0 1065 yJ3_checkFromIndexSize_8c36e, Cond.static yJ3_checkFromIndexSize_8c36e, Cond.initialized RJ3, Cond.code yJ3_checkFromIndexSize_8c36e cJ3_checkFromIndexSize_8c36e 4 (some .int), Cond.methodLink RJ0 47 yJ2_coderFromArrayLen_85cad, Cond.static yJ2_coderFromArrayLen_85cad, Cond.code yJ2_coderFromArrayLen_85cad cJ2_coderFromArrayLen_85cad 2 (some .byte), Cond.methodLink RJ0 180 yJ2_toBytes_dfd3c]
def wsX0_textOf : List Cond := .code yX0_textOf cX0_textOf 5 (some (.object "java/lang/String")) :: ((wsX0_textOf_r1 ++ (wsX0_textOf_r2 ++ wsX0_textOf_r3)) ++ wsX00 ++ wsJ00)
def wsX1_init : List Cond := .code yX1_init cX1_init 2 none :: ([.methodLink RX1 1 objectInit, .instanceMethod objectInit, .code objectInit ⟨#[0xb1]⟩ 1 none, .classLink RX1 9 RX0, .fieldLink RX1 11 "Tapebuffer" "tapes" "[LTapebuffer$Row;", .instantiable RX0 2, .initialized RX0, .fieldLink RX1 16 "Tapebuffer" "picture" "LTapebuffer$Row;", .fieldLink RX1 20 "Tapebuffer" "coming" "LTapebuffer$Row;", .fieldLink RX1 23 "Tapebuffer" "spare" "LTapebuffer$Row;", .methodLink RX1 15 yX0_init, .instanceMethod yX0_init, .code yX0_init cX0_init 1 none, .methodLink RX0 3 objectInit, .arrayClass .int, .fieldLink RX0 9 "Tapebuffer$Row" "signs" "[I"] ++ wsX10 ++ wsX00)
def wsX1_checkTape : List Cond := .code yX1_checkTape cX1_checkTape 1 none :: ([.classLink RX1 236 "java/lang/IndexOutOfBoundsException", .initialized "java/lang/IndexOutOfBoundsException"] ++ (vx_atS RX1 240 "java/lang/IndexOutOfBoundsException" ["java/lang/RuntimeException", "java/lang/Exception"]).filter goodWord)
def wsX1_tapeOf : List Cond := .code yX1_tapeOf cX1_tapeOf 2 (some (.object "Tapebuffer$Row")) :: ([.fieldLink RX1 11 "Tapebuffer" "tapes" "[LTapebuffer$Row;", .methodLink RX1 128 yX1_checkTape, .static yX1_checkTape, .initialized RX1, .code yX1_checkTape cX1_checkTape 1 none, .classLink RX1 236 "java/lang/IndexOutOfBoundsException", .initialized "java/lang/IndexOutOfBoundsException"] ++ wsX10 ++ (vx_atS RX1 240 "java/lang/IndexOutOfBoundsException" ["java/lang/RuntimeException", "java/lang/Exception"]).filter goodWord)
def wsX1_checkLength : List Cond := .code yX1_checkLength cX1_checkLength 1 none :: ([.classLink RX1 185 "java/lang/IllegalArgumentException", .initialized "java/lang/IllegalArgumentException"] ++ (vx_atS RX1 189 "java/lang/IllegalArgumentException" ["java/lang/RuntimeException", "java/lang/Exception"]).filter goodWord)
def wsX1_setLength : List Cond := .code yX1_setLength cX1_setLength 5 (some .int) :: ([.fieldLink RX1 92 "Tapebuffer$Row" "size" "I", .methodLink RX1 26 yX1_tapeOf, .instanceMethod yX1_tapeOf, .selects RX1 yX1_tapeOf yX1_tapeOf, .initialized RX1, .code yX1_tapeOf cX1_tapeOf 2 (some (.object "Tapebuffer$Row")), .fieldLink RX1 11 "Tapebuffer" "tapes" "[LTapebuffer$Row;", .methodLink RX1 128 yX1_checkTape, .static yX1_checkTape, .code yX1_checkTape cX1_checkTape 1 none, .classLink RX1 236 "java/lang/IndexOutOfBoundsException", .initialized "java/lang/IndexOutOfBoundsException", .methodLink RX1 112 yX1_checkLength, .static yX1_checkLength, .code yX1_checkLength cX1_checkLength 1 none, .classLink RX1 185 "java/lang/IllegalArgumentException", .initialized "java/lang/IllegalArgumentException", .methodLink RX1 115 yX0_becomeLong, .instanceMethod yX0_becomeLong, .selects RX0 yX0_becomeLong yX0_becomeLong, .initialized RX0, .code yX0_becomeLong cX0_becomeLong 3 none, .fieldLink RX0 15 "Tapebuffer$Row" "size" "I", .fieldLink RX0 9 "Tapebuffer$Row" "signs" "[I"] ++ wsX00 ++ wsX10 ++ (vx_atS RX1 240 "java/lang/IndexOutOfBoundsException" ["java/lang/RuntimeException", "java/lang/Exception"]).filter goodWord ++ (vx_atS RX1 189 "java/lang/IllegalArgumentException" ["java/lang/RuntimeException", "java/lang/Exception"]).filter goodWord)
def wsX1_text_r1 : List Cond := [Cond.fieldLink RX1 92 "Tapebuffer$Row" "size" "I", Cond.methodLink RX1 26 yX1_tapeOf, Cond.instanceMethod yX1_tapeOf, Cond.selects RX1 yX1_tapeOf yX1_tapeOf, Cond.initialized RX1, Cond.code yX1_tapeOf cX1_tapeOf 2 (some (.object "Tapebuffer$Row")), Cond.fieldLink RX1 11 "Tapebuffer" "tapes" "[LTapebuffer$Row;", Cond.methodLink RX1 128 yX1_checkTape, Cond.static yX1_checkTape, Cond.code yX1_checkTape cX1_checkTape 1 none, Cond.classLink RX1 236 "java/lang/IndexOutOfBoundsException", Cond.initialized "java/lang/IndexOutOfBoundsException", Cond.methodLink RX1 137 yX0_textOf, Cond.instanceMethod yX0_textOf, Cond.selects RX0 yX0_textOf yX0_textOf, Cond.initialized RX0, Cond.code yX0_textOf cX0_textOf 5 (some (.object "java/lang/String")), Cond.fieldLink RX0 15 "Tapebuffer$Row" "size" "I", Cond.arrayClass .char, Cond.fieldLink RX0 9 "Tapebuffer$Row" "signs" "[I", Cond.classLink RX0 30 RJ0, Cond.instantiable RJ0 4, Cond.initialized RJ0, Cond.methodLink RX0 52 yJ0_init_905df]
def wsX1_text_r2 : List Cond := [Cond.instanceMethod yJ0_init_905df, Cond.code yJ0_init_905df cJ0_init_905df 2 none, Cond.methodLink RJ0 27 yJ0_init_bb550, Cond.instanceMethod yJ0_init_bb550, Cond.code yJ0_init_bb550 cJ0_init_bb550 6 none, Cond.methodLink RJ0 1 objectInit, Cond.instanceMethod objectInit, Cond.code objectInit ⟨#[0xb1]⟩ 1 none, Cond.fieldLink RJ0 9 "java/lang/String" "value" "[B", Cond.fieldLink RJ0 15 "java/lang/String" "coder" "B", Cond.fieldLink RJ0 38 "java/lang/String" "COMPACT_STRINGS" "Z", Cond.methodLink RJ0 177 yJ2_compress_dfd3c, Cond.static yJ2_compress_dfd3c, Cond.initialized RJ2, Cond.code yJ2_compress_dfd3c cJ2_compress_dfd3c 6 (some (.array .byte)), Cond.arrayClass .byte, Cond.methodLink RJ2 115 yJ2_compress_fe38e, Cond.static yJ2_compress_fe38e, Cond.code yJ2_compress_fe38e cJ2_compress_fe38e 7 (some .int), Cond.methodLink RJ2 119 yJ2_toBytes_dfd3c, Cond.static yJ2_toBytes_dfd3c, Cond.code yJ2_toBytes_dfd3c cJ2_toBytes_dfd3c 5 (some (.array .byte)), Cond.methodLink RJ2 107 yJ2_newBytesFor_77867, Cond.static yJ2_newBytesFor_77867]
def wsX1_text_r3 : List Cond := [Cond.code yJ2_newBytesFor_77867 cJ2_newBytesFor_77867 1 (some (.array .byte)), Cond.methodLink RJ2 11 yJ2_newBytesLength_0f7a4, Cond.static yJ2_newBytesLength_0f7a4, Cond.code yJ2_newBytesLength_0f7a4 cJ2_newBytesLength_0f7a4 1 (some .int), Cond.constant RJ2 20 (1073741823), Cond.methodLink RJ2 111 yJ2_putChar_b72d1, Cond.static yJ2_putChar_b72d1, Cond.code yJ2_putChar_b72d1 cJ2_putChar_b72d1 3 none, Cond.fieldLink RJ2 44 "java/lang/StringUTF16" "$assertionsDisabled" "Z", Cond.fieldLink RJ2 59 "java/lang/StringUTF16" "HI_BYTE_SHIFT" "I", Cond.fieldLink RJ2 63 "java/lang/StringUTF16" "LO_BYTE_SHIFT" "I", Cond.methodLink RJ2 48 yJ2_length_9d52b, Cond.static yJ2_length_9d52b, Cond.code yJ2_length_9d52b cJ2_length_9d52b 1 (some .int), Cond.methodLink RJ2 71 yJ2_getChar_3b067, Cond.static yJ2_getChar_3b067, Cond.code yJ2_getChar_3b067 cJ2_getChar_3b067 2 (some .char), Cond.methodLink RJ2 123 yJ2_compress_5af95, Cond.static yJ2_compress_5af95, Cond.code yJ2_compress_5af95 cJ2_compress_5af95 7 (some .int), Cond.methodLink RJ2 173 yJ2_checkBoundsOffCount_d044e, Cond.static yJ2_checkBoundsOffCount_d044e, Cond.code yJ2_checkBoundsOffCount_d044e cJ2_checkBoundsOffCount_d044e 3 none, Cond.methodLink RJ2 419 yJ0_checkBoundsOffCount_cabcc]
def wsX1_text_r4 : List Cond := [Cond.static yJ0_checkBoundsOffCount_cabcc, Cond.code yJ0_checkBoundsOffCount_cabcc cJ0_checkBoundsOffCount_cabcc 3 (some .int), Cond.fieldLink RJ0 1053 "jdk/internal/util/Preconditions" "SIOOBE_FORMATTER" "Ljava/util/function/BiFunction;", Cond.methodLink RJ0 1065 yJ3_checkFromIndexSize_8c36e, Cond.static yJ3_checkFromIndexSize_8c36e, Cond.initialized RJ3, Cond.code yJ3_checkFromIndexSize_8c36e cJ3_checkFromIndexSize_8c36e 4 (some .int), Cond.methodLink RJ0 47 yJ2_coderFromArrayLen_85cad, Cond.static yJ2_coderFromArrayLen_85cad, Cond.code yJ2_coderFromArrayLen_85cad cJ2_coderFromArrayLen_85cad 2 (some .byte), Cond.methodLink RJ0 180 yJ2_toBytes_dfd3c]
def wsX1_text : List Cond := .code yX1_text cX1_text 3 (some (.object "java/lang/String")) :: ((wsX1_text_r1 ++ (wsX1_text_r2 ++ (wsX1_text_r3 ++ wsX1_text_r4))) ++ wsX00 ++ wsX10 ++ wsJ00 ++ (vx_atS RX1 240 "java/lang/IndexOutOfBoundsException" ["java/lang/RuntimeException", "java/lang/Exception"]).filter goodWord)
def wsX2_init : List Cond := .code yX2_init cX2_init 1 none :: ([.methodLink RX2 1 objectInit, .instanceMethod objectInit, .code objectInit ⟨#[0xb1]⟩ 1 none])
def wsX3_init : List Cond := .code yX3_init cX3_init 1 none :: ([.methodLink RX3 1 objectInit, .instanceMethod objectInit, .code objectInit ⟨#[0xb1]⟩ 1 none, .classLink RX3 9 "[[I", .arrayClass .int, .fieldLink RX3 11 "TapebufferModel" "tapes" "[[I", .fieldLink RX3 14 "TapebufferModel" "picture" "[I"] ++ wsX30)
def wsX3_isIn : List Cond := .code yX3_isIn cX3_isIn 6 (some .boolean) :: ([])
def wsX3_refuse : List Cond := .code yX3_refuse cX3_refuse 3 (some .boolean) :: ([.fieldLink RX3 18 "TapebufferModel" "thrown" "I"] ++ wsX30)
def wsX3_start : List Cond := .code yX3_start cX3_start 3 (some .boolean) :: ([.fieldLink RX3 18 "TapebufferModel" "thrown" "I", .methodLink RX3 22 yX3_refuse, .instanceMethod yX3_refuse, .selects RX3 yX3_refuse yX3_refuse, .initialized RX3, .code yX3_refuse cX3_refuse 3 (some .boolean)] ++ wsX30)
def wsX3_isNoTape : List Cond := .code yX3_isNoTape cX3_isNoTape 1 (some .boolean) :: ([.constantLong RX3 26 (3), .methodLink RX3 28 yX3_isIn, .static yX3_isIn, .initialized RX3, .code yX3_isIn cX3_isIn 6 (some .boolean)])
def wsJ5_init_d00df : List Cond := .code yJ5_init_d00df cJ5_init_d00df 2 none :: ([.methodLink RJ5 3 objectInit, .instanceMethod objectInit, .code objectInit ⟨#[0xb1]⟩ 1 none, .fieldLink RJ5 18 "java/lang/String" "COMPACT_STRINGS" "Z", .arrayClass .byte, .fieldLink RJ5 15 "java/lang/AbstractStringBuilder" "value" "[B", .fieldLink RJ5 22 "java/lang/AbstractStringBuilder" "coder" "B", .methodLink RJ5 26 yJ2_newBytesFor_77867, .static yJ2_newBytesFor_77867, .initialized RJ2, .code yJ2_newBytesFor_77867 cJ2_newBytesFor_77867 1 (some (.array .byte)), .methodLink RJ2 11 yJ2_newBytesLength_0f7a4, .static yJ2_newBytesLength_0f7a4, .code yJ2_newBytesLength_0f7a4 cJ2_newBytesLength_0f7a4 1 (some .int), .constant RJ2 20 (1073741823)] ++ wsJ40)
def wsJ4_init_da8c8 : List Cond := .code yJ4_init_da8c8 cJ4_init_da8c8 1 none :: ([.methodLink RJ4 1 yJ5_init_d00df, .instanceMethod yJ5_init_d00df, .initialized RJ5, .code yJ5_init_d00df cJ5_init_d00df 2 none, .methodLink RJ5 3 objectInit, .instanceMethod objectInit, .code objectInit ⟨#[0xb1]⟩ 1 none, .fieldLink RJ5 18 "java/lang/String" "COMPACT_STRINGS" "Z", .arrayClass .byte, .fieldLink RJ5 15 "java/lang/AbstractStringBuilder" "value" "[B", .fieldLink RJ5 22 "java/lang/AbstractStringBuilder" "coder" "B", .methodLink RJ5 26 yJ2_newBytesFor_77867, .static yJ2_newBytesFor_77867, .initialized RJ2, .code yJ2_newBytesFor_77867 cJ2_newBytesFor_77867 1 (some (.array .byte)), .methodLink RJ2 11 yJ2_newBytesLength_0f7a4, .static yJ2_newBytesLength_0f7a4, .code yJ2_newBytesLength_0f7a4 cJ2_newBytesLength_0f7a4 1 (some .int), .constant RJ2 20 (1073741823)] ++ wsJ40)
def wsJ8_newLength_cabcc : List Cond := .code yJ8_newLength_cabcc cJ8_newLength_cabcc 4 (some .int) :: ([.methodLink RJ8 194 Lib.Math.max.name, .static Lib.Math.max.name, .initialized "java/lang/Math", .code Lib.Math.max.name Lib.Math.max.code 2 (some .int), .constant RJ8 200 (2147483639), .methodLink RJ8 201 yJ8_hugeLength_7cf53, .static yJ8_hugeLength_7cf53, .initialized RJ8, .code yJ8_hugeLength_7cf53 cJ8_hugeLength_7cf53 3 (some .int)])
def wsJ5_newCapacity_0f7a4 : List Cond := .code yJ5_newCapacity_0f7a4 cJ5_newCapacity_0f7a4 6 (some .int) :: ([.fieldLink RJ5 15 "java/lang/AbstractStringBuilder" "value" "[B", .fieldLink RJ5 22 "java/lang/AbstractStringBuilder" "coder" "B", .constant RJ5 39 (2147483647), .methodLink RJ5 114 yJ8_newLength_cabcc, .static yJ8_newLength_cabcc, .initialized RJ8, .code yJ8_newLength_cabcc cJ8_newLength_cabcc 4 (some .int), .methodLink RJ8 194 Lib.Math.max.name, .static Lib.Math.max.name, .initialized "java/lang/Math", .code Lib.Math.max.name Lib.Math.max.code 2 (some .int), .constant RJ8 200 (2147483639), .methodLink RJ8 201 yJ8_hugeLength_7cf53, .static yJ8_hugeLength_7cf53, .code yJ8_hugeLength_7cf53 cJ8_hugeLength_7cf53 3 (some .int)] ++ wsJ40)
def wsJ7_copyOf_9075b : List Cond := .code yJ7_copyOf_9075b cJ7_copyOf_9075b 3 (some (.array .byte)) :: ([.methodLink RJ7 310 ⟨"[B", "clone", "()Ljava/lang/Object;"⟩, .sameMethod "[B" "java/lang/Object" "clone" "()Ljava/lang/Object;", .native ⟨"java/lang/Object", "clone", "()Ljava/lang/Object;"⟩, .instanceMethod ⟨"java/lang/Object", "clone", "()Ljava/lang/Object;"⟩, .selects "[B" ⟨"[B", "clone", "()Ljava/lang/Object;"⟩ ⟨"java/lang/Object", "clone", "()Ljava/lang/Object;"⟩, .classLink RJ7 311 "[B", .arrayClass .byte, .methodLink RJ7 304 Lib.Math.min.name, .static Lib.Math.min.name, .initialized "java/lang/Math", .code Lib.Math.min.name Lib.Math.min.code 2 (some .int), .methodLink RJ7 150 arraycopyName, .native arraycopyName, .static arraycopyName, .initialized "java/lang/System"])
def wsJ5_ensureCapacityInternal_d00df_r1 : List Cond := [Cond.fieldLink RJ5 15 "java/lang/AbstractStringBuilder" "value" "[B", Cond.fieldLink RJ5 22 "java/lang/AbstractStringBuilder" "coder" "B", Cond.methodLink RJ5 104 ⟨"java/lang/AbstractStringBuilder", "newCapacity", "(I)I"⟩, Cond.sameMethod "java/lang/AbstractStringBuilder" "java/lang/AbstractStringBuilder" "newCapacity" "(I)I", Cond.selects RJ4 ⟨"java/lang/AbstractStringBuilder", "newCapacity", "(I)I"⟩ yJ5_newCapacity_0f7a4, Cond.instanceMethod yJ5_newCapacity_0f7a4, Cond.initialized RJ5, Cond.code yJ5_newCapacity_0f7a4 cJ5_newCapacity_0f7a4 6 (some .int), Cond.constant RJ5 39 (2147483647), Cond.methodLink RJ5 114 yJ8_newLength_cabcc, Cond.static yJ8_newLength_cabcc, Cond.initialized RJ8, Cond.code yJ8_newLength_cabcc cJ8_newLength_cabcc 4 (some .int), Cond.methodLink RJ8 194 Lib.Math.max.name, Cond.static Lib.Math.max.name, Cond.initialized "java/lang/Math", Cond.code Lib.Math.max.name Lib.Math.max.code 2 (some .int), Cond.constant RJ8 200 (2147483639), Cond.methodLink RJ8 201 yJ8_hugeLength_7cf53, Cond.static yJ8_hugeLength_7cf53, Cond.code yJ8_hugeLength_7cf53 cJ8_hugeLength_7cf53 3 (some .int), Cond.methodLink RJ5 108 yJ7_copyOf_9075b, Cond.static yJ7_copyOf_9075b, Cond.initialized RJ7]
def wsJ5_ensureCapacityInternal_d00df_r2 : List Cond := [Cond.code yJ7_copyOf_9075b cJ7_copyOf_9075b 3 (some (.array .byte)), Cond.methodLink RJ7 310 ⟨"[B", "clone", "()Ljava/lang/Object;"⟩, Cond.sameMethod "[B" "java/lang/Object" "clone" "()Ljava/lang/Object;", Cond.native ⟨"java/lang/Object", "clone", "()Ljava/lang/Object;"⟩, Cond.instanceMethod ⟨"java/lang/Object", "clone", "()Ljava/lang/Object;"⟩, Cond.selects "[B" ⟨"[B", "clone", "()Ljava/lang/Object;"⟩ ⟨"java/lang/Object", "clone", "()Ljava/lang/Object;"⟩, Cond.classLink RJ7 311 "[B", Cond.arrayClass .byte, Cond.methodLink RJ7 304 Lib.Math.min.name, Cond.static Lib.Math.min.name, Cond.code Lib.Math.min.name Lib.Math.min.code 2 (some .int), Cond.methodLink RJ7 150 arraycopyName, Cond.native arraycopyName, Cond.static arraycopyName, Cond.initialized "java/lang/System"]
def wsJ5_ensureCapacityInternal_d00df : List Cond := .code yJ5_ensureCapacityInternal_d00df cJ5_ensureCapacityInternal_d00df 3 none :: ((wsJ5_ensureCapacityInternal_d00df_r1 ++ wsJ5_ensureCapacityInternal_d00df_r2) ++ wsJ40)
def wsJ5_isLatin1_aae02 : List Cond := .code yJ5_isLatin1_aae02 cJ5_isLatin1_aae02 1 (some .boolean) :: ([.fieldLink RJ5 18 "java/lang/String" "COMPACT_STRINGS" "Z", .fieldLink RJ5 22 "java/lang/AbstractStringBuilder" "coder" "B"] ++ wsJ40)
def wsJ5_inflateIfNeededFor_a7421_r1 : List Cond := [Cond.fieldLink RJ5 18 "java/lang/String" "COMPACT_STRINGS" "Z", Cond.fieldLink RJ5 22 "java/lang/AbstractStringBuilder" "coder" "B", Cond.methodLink RJ5 40 yJ0_coder_7d493, Cond.instanceMethod yJ0_coder_7d493, Cond.selects RJ0 yJ0_coder_7d493 yJ0_coder_7d493, Cond.initialized RJ0, Cond.code yJ0_coder_7d493 cJ0_coder_7d493 1 (some .byte), Cond.fieldLink RJ0 38 "java/lang/String" "COMPACT_STRINGS" "Z", Cond.fieldLink RJ0 15 "java/lang/String" "coder" "B", Cond.methodLink RJ5 195 ⟨"java/lang/AbstractStringBuilder", "inflate", "()V"⟩, Cond.sameMethod "java/lang/AbstractStringBuilder" "java/lang/AbstractStringBuilder" "inflate" "()V", Cond.selects RJ4 ⟨"java/lang/AbstractStringBuilder", "inflate", "()V"⟩ yJ5_inflate_da8c8, Cond.instanceMethod yJ5_inflate_da8c8, Cond.initialized RJ5, Cond.code yJ5_inflate_da8c8 cJ5_inflate_da8c8 2 none, Cond.fieldLink RJ5 15 "java/lang/AbstractStringBuilder" "value" "[B", Cond.fieldLink RJ5 79 "java/lang/AbstractStringBuilder" "count" "I", Cond.methodLink RJ5 83 ⟨"java/lang/AbstractStringBuilder", "isLatin1", "()Z"⟩, Cond.sameMethod "java/lang/AbstractStringBuilder" "java/lang/AbstractStringBuilder" "isLatin1" "()Z", Cond.selects RJ4 ⟨"java/lang/AbstractStringBuilder", "isLatin1", "()Z"⟩ yJ5_isLatin1_aae02, Cond.instanceMethod yJ5_isLatin1_aae02, Cond.code yJ5_isLatin1_aae02 cJ5_isLatin1_aae02 1 (some .boolean), Cond.methodLink RJ5 26 yJ2_newBytesFor_77867, Cond.static yJ2_newBytesFor_77867]
def wsJ5_inflateIfNeededFor_a7421_r2 : List Cond := [Cond.initialized RJ2, Cond.code yJ2_newBytesFor_77867 cJ2_newBytesFor_77867 1 (some (.array .byte)), Cond.arrayClass .byte, Cond.methodLink RJ2 11 yJ2_newBytesLength_0f7a4, Cond.static yJ2_newBytesLength_0f7a4, Cond.code yJ2_newBytesLength_0f7a4 cJ2_newBytesLength_0f7a4 1 (some .int), Cond.constant RJ2 20 (1073741823), Cond.methodLink RJ5 125 yJ1_inflate_0e8fd, Cond.static yJ1_inflate_0e8fd, Cond.initialized RJ1, Cond.code yJ1_inflate_0e8fd cJ1_inflate_0e8fd 5 none, Cond.methodLink RJ1 240 yJ2_inflate_0e8fd, Cond.static yJ2_inflate_0e8fd, Cond.code yJ2_inflate_0e8fd cJ2_inflate_0e8fd 6 none, Cond.methodLink RJ2 173 yJ2_checkBoundsOffCount_d044e, Cond.static yJ2_checkBoundsOffCount_d044e, Cond.code yJ2_checkBoundsOffCount_d044e cJ2_checkBoundsOffCount_d044e 3 none, Cond.methodLink RJ2 48 yJ2_length_9d52b, Cond.static yJ2_length_9d52b, Cond.code yJ2_length_9d52b cJ2_length_9d52b 1 (some .int), Cond.methodLink RJ2 419 yJ0_checkBoundsOffCount_cabcc, Cond.static yJ0_checkBoundsOffCount_cabcc, Cond.code yJ0_checkBoundsOffCount_cabcc cJ0_checkBoundsOffCount_cabcc 3 (some .int), Cond.fieldLink RJ0 1053 "jdk/internal/util/Preconditions" "SIOOBE_FORMATTER" "Ljava/util/function/BiFunction;"]
def wsJ5_inflateIfNeededFor_a7421_r3 : List Cond := [Cond.methodLink RJ0 1065 yJ3_checkFromIndexSize_8c36e, Cond.static yJ3_checkFromIndexSize_8c36e, Cond.initialized RJ3, Cond.code yJ3_checkFromIndexSize_8c36e cJ3_checkFromIndexSize_8c36e 4 (some .int), Cond.methodLink RJ2 111 yJ2_putChar_b72d1, Cond.static yJ2_putChar_b72d1, Cond.code yJ2_putChar_b72d1 cJ2_putChar_b72d1 3 none, Cond.fieldLink RJ2 44 "java/lang/StringUTF16" "$assertionsDisabled" "Z", Cond.fieldLink RJ2 59 "java/lang/StringUTF16" "HI_BYTE_SHIFT" "I", Cond.fieldLink RJ2 63 "java/lang/StringUTF16" "LO_BYTE_SHIFT" "I"]
def wsJ5_inflateIfNeededFor_a7421 : List Cond := .code yJ5_inflateIfNeededFor_a7421 cJ5_inflateIfNeededFor_a7421 2 none :: ((wsJ5_inflateIfNeededFor_a7421_r1 ++ (wsJ5_inflateIfNeededFor_a7421_r2 ++ wsJ5_inflateIfNeededFor_a7421_r3)) ++ wsJ40 ++ wsJ00)
def wsJ0_getBytes_840e7_r1 : List Cond := [Cond.fieldLink RJ0 9 "java/lang/String" "value" "[B", Cond.methodLink RJ0 212 arraycopyName, Cond.native arraycopyName, Cond.static arraycopyName, Cond.initialized "java/lang/System", Cond.methodLink RJ0 335 yJ0_coder_7d493, Cond.instanceMethod yJ0_coder_7d493, Cond.selects RJ0 yJ0_coder_7d493 yJ0_coder_7d493, Cond.initialized RJ0, Cond.code yJ0_coder_7d493 cJ0_coder_7d493 1 (some .byte), Cond.fieldLink RJ0 38 "java/lang/String" "COMPACT_STRINGS" "Z", Cond.fieldLink RJ0 15 "java/lang/String" "coder" "B", Cond.methodLink RJ0 106 yJ1_inflate_0e8fd, Cond.static yJ1_inflate_0e8fd, Cond.initialized RJ1, Cond.code yJ1_inflate_0e8fd cJ1_inflate_0e8fd 5 none, Cond.methodLink RJ1 240 yJ2_inflate_0e8fd, Cond.static yJ2_inflate_0e8fd, Cond.initialized RJ2, Cond.code yJ2_inflate_0e8fd cJ2_inflate_0e8fd 6 none, Cond.methodLink RJ2 173 yJ2_checkBoundsOffCount_d044e, Cond.static yJ2_checkBoundsOffCount_d044e, Cond.code yJ2_checkBoundsOffCount_d044e cJ2_checkBoundsOffCount_d044e 3 none, Cond.methodLink RJ2 48 yJ2_length_9d52b]
def wsJ0_getBytes_840e7_r2 : List Cond := [Cond.static yJ2_length_9d52b, Cond.code yJ2_length_9d52b cJ2_length_9d52b 1 (some .int), Cond.methodLink RJ2 419 yJ0_checkBoundsOffCount_cabcc, Cond.static yJ0_checkBoundsOffCount_cabcc, Cond.code yJ0_checkBoundsOffCount_cabcc cJ0_checkBoundsOffCount_cabcc 3 (some .int), Cond.fieldLink RJ0 1053 "jdk/internal/util/Preconditions" "SIOOBE_FORMATTER" "Ljava/util/function/BiFunction;", Cond.methodLink RJ0 1065 yJ3_checkFromIndexSize_8c36e, Cond.static yJ3_checkFromIndexSize_8c36e, Cond.initialized RJ3, Cond.code yJ3_checkFromIndexSize_8c36e cJ3_checkFromIndexSize_8c36e 4 (some .int), Cond.methodLink RJ2 111 yJ2_putChar_b72d1, Cond.static yJ2_putChar_b72d1, Cond.code yJ2_putChar_b72d1 cJ2_putChar_b72d1 3 none, Cond.fieldLink RJ2 44 "java/lang/StringUTF16" "$assertionsDisabled" "Z", Cond.fieldLink RJ2 59 "java/lang/StringUTF16" "HI_BYTE_SHIFT" "I", Cond.fieldLink RJ2 63 "java/lang/StringUTF16" "LO_BYTE_SHIFT" "I"]
def wsJ0_getBytes_840e7 : List Cond := .code yJ0_getBytes_840e7 cJ0_getBytes_840e7 4 none :: ((wsJ0_getBytes_840e7_r1 ++ wsJ0_getBytes_840e7_r2) ++ wsJ00)
def wsJ5_putStringAt_47b60_r1 : List Cond := [Cond.fieldLink RJ5 15 "java/lang/AbstractStringBuilder" "value" "[B", Cond.fieldLink RJ5 22 "java/lang/AbstractStringBuilder" "coder" "B", Cond.methodLink RJ5 397 ⟨"java/lang/AbstractStringBuilder", "inflateIfNeededFor", "(Ljava/lang/String;)V"⟩, Cond.sameMethod "java/lang/AbstractStringBuilder" "java/lang/AbstractStringBuilder" "inflateIfNeededFor" "(Ljava/lang/String;)V", Cond.selects RJ4 ⟨"java/lang/AbstractStringBuilder", "inflateIfNeededFor", "(Ljava/lang/String;)V"⟩ yJ5_inflateIfNeededFor_a7421, Cond.instanceMethod yJ5_inflateIfNeededFor_a7421, Cond.initialized RJ5, Cond.code yJ5_inflateIfNeededFor_a7421 cJ5_inflateIfNeededFor_a7421 2 none, Cond.fieldLink RJ5 18 "java/lang/String" "COMPACT_STRINGS" "Z", Cond.methodLink RJ5 40 yJ0_coder_7d493, Cond.instanceMethod yJ0_coder_7d493, Cond.selects RJ0 yJ0_coder_7d493 yJ0_coder_7d493, Cond.initialized RJ0, Cond.code yJ0_coder_7d493 cJ0_coder_7d493 1 (some .byte), Cond.fieldLink RJ0 38 "java/lang/String" "COMPACT_STRINGS" "Z", Cond.fieldLink RJ0 15 "java/lang/String" "coder" "B", Cond.methodLink RJ5 195 ⟨"java/lang/AbstractStringBuilder", "inflate", "()V"⟩, Cond.sameMethod "java/lang/AbstractStringBuilder" "java/lang/AbstractStringBuilder" "inflate" "()V", Cond.selects RJ4 ⟨"java/lang/AbstractStringBuilder", "inflate", "()V"⟩ yJ5_inflate_da8c8, Cond.instanceMethod yJ5_inflate_da8c8, Cond.code yJ5_inflate_da8c8 cJ5_inflate_da8c8 2 none, Cond.fieldLink RJ5 79 "java/lang/AbstractStringBuilder" "count" "I", Cond.methodLink RJ5 83 ⟨"java/lang/AbstractStringBuilder", "isLatin1", "()Z"⟩, Cond.sameMethod "java/lang/AbstractStringBuilder" "java/lang/AbstractStringBuilder" "isLatin1" "()Z"]
def wsJ5_putStringAt_47b60_r2 : List Cond := [Cond.selects RJ4 ⟨"java/lang/AbstractStringBuilder", "isLatin1", "()Z"⟩ yJ5_isLatin1_aae02, Cond.instanceMethod yJ5_isLatin1_aae02, Cond.code yJ5_isLatin1_aae02 cJ5_isLatin1_aae02 1 (some .boolean), Cond.methodLink RJ5 26 yJ2_newBytesFor_77867, Cond.static yJ2_newBytesFor_77867, Cond.initialized RJ2, Cond.code yJ2_newBytesFor_77867 cJ2_newBytesFor_77867 1 (some (.array .byte)), Cond.arrayClass .byte, Cond.methodLink RJ2 11 yJ2_newBytesLength_0f7a4, Cond.static yJ2_newBytesLength_0f7a4, Cond.code yJ2_newBytesLength_0f7a4 cJ2_newBytesLength_0f7a4 1 (some .int), Cond.constant RJ2 20 (1073741823), Cond.methodLink RJ5 125 yJ1_inflate_0e8fd, Cond.static yJ1_inflate_0e8fd, Cond.initialized RJ1, Cond.code yJ1_inflate_0e8fd cJ1_inflate_0e8fd 5 none, Cond.methodLink RJ1 240 yJ2_inflate_0e8fd, Cond.static yJ2_inflate_0e8fd, Cond.code yJ2_inflate_0e8fd cJ2_inflate_0e8fd 6 none, Cond.methodLink RJ2 173 yJ2_checkBoundsOffCount_d044e, Cond.static yJ2_checkBoundsOffCount_d044e, Cond.code yJ2_checkBoundsOffCount_d044e cJ2_checkBoundsOffCount_d044e 3 none, Cond.methodLink RJ2 48 yJ2_length_9d52b, Cond.static yJ2_length_9d52b]
def wsJ5_putStringAt_47b60_r3 : List Cond := [Cond.code yJ2_length_9d52b cJ2_length_9d52b 1 (some .int), Cond.methodLink RJ2 419 yJ0_checkBoundsOffCount_cabcc, Cond.static yJ0_checkBoundsOffCount_cabcc, Cond.code yJ0_checkBoundsOffCount_cabcc cJ0_checkBoundsOffCount_cabcc 3 (some .int), Cond.fieldLink RJ0 1053 "jdk/internal/util/Preconditions" "SIOOBE_FORMATTER" "Ljava/util/function/BiFunction;", Cond.methodLink RJ0 1065 yJ3_checkFromIndexSize_8c36e, Cond.static yJ3_checkFromIndexSize_8c36e, Cond.initialized RJ3, Cond.code yJ3_checkFromIndexSize_8c36e cJ3_checkFromIndexSize_8c36e 4 (some .int), Cond.methodLink RJ2 111 yJ2_putChar_b72d1, Cond.static yJ2_putChar_b72d1, Cond.code yJ2_putChar_b72d1 cJ2_putChar_b72d1 3 none, Cond.fieldLink RJ2 44 "java/lang/StringUTF16" "$assertionsDisabled" "Z", Cond.fieldLink RJ2 59 "java/lang/StringUTF16" "HI_BYTE_SHIFT" "I", Cond.fieldLink RJ2 63 "java/lang/StringUTF16" "LO_BYTE_SHIFT" "I", Cond.methodLink RJ5 399 yJ0_getBytes_840e7, Cond.instanceMethod yJ0_getBytes_840e7, Cond.selects RJ0 yJ0_getBytes_840e7 yJ0_getBytes_840e7, Cond.code yJ0_getBytes_840e7 cJ0_getBytes_840e7 4 none, Cond.fieldLink RJ0 9 "java/lang/String" "value" "[B", Cond.methodLink RJ0 212 arraycopyName, Cond.native arraycopyName, Cond.static arraycopyName, Cond.initialized "java/lang/System"]
def wsJ5_putStringAt_47b60_r4 : List Cond := [Cond.methodLink RJ0 335 yJ0_coder_7d493, Cond.methodLink RJ0 106 yJ1_inflate_0e8fd]
def wsJ5_putStringAt_47b60 : List Cond := .code yJ5_putStringAt_47b60 cJ5_putStringAt_47b60 3 none :: ((wsJ5_putStringAt_47b60_r1 ++ (wsJ5_putStringAt_47b60_r2 ++ (wsJ5_putStringAt_47b60_r3 ++ wsJ5_putStringAt_47b60_r4))) ++ wsJ40 ++ wsJ00)
def wsJ5_append_cf1ce_r1 : List Cond := [Cond.fieldLink RJ5 79 "java/lang/AbstractStringBuilder" "count" "I", Cond.methodLink RJ5 204 ⟨"java/lang/AbstractStringBuilder", "appendNull", "()Ljava/lang/AbstractStringBuilder;"⟩, Cond.sameMethod "java/lang/AbstractStringBuilder" "java/lang/AbstractStringBuilder" "appendNull" "()Ljava/lang/AbstractStringBuilder;", Cond.selects RJ4 ⟨"java/lang/AbstractStringBuilder", "appendNull", "()Ljava/lang/AbstractStringBuilder;"⟩ yJ5_appendNull_278bc, Cond.instanceMethod yJ5_appendNull_278bc, Cond.initialized RJ5, Cond.code yJ5_appendNull_278bc cJ5_appendNull_278bc 3 (some (.object "java/lang/AbstractStringBuilder")), Cond.fieldLink RJ5 15 "java/lang/AbstractStringBuilder" "value" "[B", Cond.methodLink RJ5 100 ⟨"java/lang/AbstractStringBuilder", "ensureCapacityInternal", "(I)V"⟩, Cond.sameMethod "java/lang/AbstractStringBuilder" "java/lang/AbstractStringBuilder" "ensureCapacityInternal" "(I)V", Cond.selects RJ4 ⟨"java/lang/AbstractStringBuilder", "ensureCapacityInternal", "(I)V"⟩ yJ5_ensureCapacityInternal_d00df, Cond.instanceMethod yJ5_ensureCapacityInternal_d00df, Cond.code yJ5_ensureCapacityInternal_d00df cJ5_ensureCapacityInternal_d00df 3 none, Cond.fieldLink RJ5 22 "java/lang/AbstractStringBuilder" "coder" "B", Cond.methodLink RJ5 104 ⟨"java/lang/AbstractStringBuilder", "newCapacity", "(I)I"⟩, Cond.sameMethod "java/lang/AbstractStringBuilder" "java/lang/AbstractStringBuilder" "newCapacity" "(I)I", Cond.selects RJ4 ⟨"java/lang/AbstractStringBuilder", "newCapacity", "(I)I"⟩ yJ5_newCapacity_0f7a4, Cond.instanceMethod yJ5_newCapacity_0f7a4, Cond.code yJ5_newCapacity_0f7a4 cJ5_newCapacity_0f7a4 6 (some .int), Cond.constant RJ5 39 (2147483647), Cond.methodLink RJ5 114 yJ8_newLength_cabcc, Cond.static yJ8_newLength_cabcc, Cond.initialized RJ8, Cond.code yJ8_newLength_cabcc cJ8_newLength_cabcc 4 (some .int)]
def wsJ5_append_cf1ce_r2 : List Cond := [Cond.methodLink RJ8 194 Lib.Math.max.name, Cond.static Lib.Math.max.name, Cond.initialized "java/lang/Math", Cond.code Lib.Math.max.name Lib.Math.max.code 2 (some .int), Cond.constant RJ8 200 (2147483639), Cond.methodLink RJ8 201 yJ8_hugeLength_7cf53, Cond.static yJ8_hugeLength_7cf53, Cond.code yJ8_hugeLength_7cf53 cJ8_hugeLength_7cf53 3 (some .int), Cond.methodLink RJ5 108 yJ7_copyOf_9075b, Cond.static yJ7_copyOf_9075b, Cond.initialized RJ7, Cond.code yJ7_copyOf_9075b cJ7_copyOf_9075b 3 (some (.array .byte)), Cond.methodLink RJ7 310 ⟨"[B", "clone", "()Ljava/lang/Object;"⟩, Cond.sameMethod "[B" "java/lang/Object" "clone" "()Ljava/lang/Object;", Cond.native ⟨"java/lang/Object", "clone", "()Ljava/lang/Object;"⟩, Cond.instanceMethod ⟨"java/lang/Object", "clone", "()Ljava/lang/Object;"⟩, Cond.selects "[B" ⟨"[B", "clone", "()Ljava/lang/Object;"⟩ ⟨"java/lang/Object", "clone", "()Ljava/lang/Object;"⟩, Cond.classLink RJ7 311 "[B", Cond.arrayClass .byte, Cond.methodLink RJ7 304 Lib.Math.min.name, Cond.static Lib.Math.min.name, Cond.code Lib.Math.min.name Lib.Math.min.code 2 (some .int), Cond.methodLink RJ7 150 arraycopyName, Cond.native arraycopyName]
def wsJ5_append_cf1ce_r3 : List Cond := [Cond.static arraycopyName, Cond.initialized "java/lang/System", Cond.methodLink RJ5 83 ⟨"java/lang/AbstractStringBuilder", "isLatin1", "()Z"⟩, Cond.sameMethod "java/lang/AbstractStringBuilder" "java/lang/AbstractStringBuilder" "isLatin1" "()Z", Cond.selects RJ4 ⟨"java/lang/AbstractStringBuilder", "isLatin1", "()Z"⟩ yJ5_isLatin1_aae02, Cond.instanceMethod yJ5_isLatin1_aae02, Cond.code yJ5_isLatin1_aae02 cJ5_isLatin1_aae02 1 (some .boolean), Cond.fieldLink RJ5 18 "java/lang/String" "COMPACT_STRINGS" "Z", Cond.methodLink RJ5 226 yJ2_putCharsAt_cd4e5, Cond.static yJ2_putCharsAt_cd4e5, Cond.initialized RJ2, Cond.code yJ2_putCharsAt_cd4e5 cJ2_putCharsAt_cd4e5 7 (some .int), Cond.fieldLink RJ2 44 "java/lang/StringUTF16" "$assertionsDisabled" "Z", Cond.methodLink RJ2 96 yJ2_checkBoundsBeginEnd_d044e, Cond.static yJ2_checkBoundsBeginEnd_d044e, Cond.code yJ2_checkBoundsBeginEnd_d044e cJ2_checkBoundsBeginEnd_d044e 3 none, Cond.methodLink RJ2 48 yJ2_length_9d52b, Cond.static yJ2_length_9d52b, Cond.code yJ2_length_9d52b cJ2_length_9d52b 1 (some .int), Cond.methodLink RJ2 241 yJ0_checkBoundsBeginEnd_23922, Cond.static yJ0_checkBoundsBeginEnd_23922, Cond.initialized RJ0, Cond.code yJ0_checkBoundsBeginEnd_23922 cJ0_checkBoundsBeginEnd_23922 3 none, Cond.fieldLink RJ0 1053 "jdk/internal/util/Preconditions" "SIOOBE_FORMATTER" "Ljava/util/function/BiFunction;"]
def wsJ5_append_cf1ce_r4 : List Cond := [Cond.methodLink RJ0 1062 yJ3_checkFromToIndex_8c36e, Cond.static yJ3_checkFromToIndex_8c36e, Cond.initialized RJ3, Cond.code yJ3_checkFromToIndex_8c36e cJ3_checkFromToIndex_8c36e 4 (some .int), Cond.methodLink RJ2 111 yJ2_putChar_b72d1, Cond.static yJ2_putChar_b72d1, Cond.code yJ2_putChar_b72d1 cJ2_putChar_b72d1 3 none, Cond.fieldLink RJ2 59 "java/lang/StringUTF16" "HI_BYTE_SHIFT" "I", Cond.fieldLink RJ2 63 "java/lang/StringUTF16" "LO_BYTE_SHIFT" "I", Cond.methodLink RJ5 32 yJ0_length_8abf5, Cond.instanceMethod yJ0_length_8abf5, Cond.selects RJ0 yJ0_length_8abf5 yJ0_length_8abf5, Cond.code yJ0_length_8abf5 cJ0_length_8abf5 1 (some .int), Cond.fieldLink RJ0 9 "java/lang/String" "value" "[B", Cond.methodLink RJ0 335 yJ0_coder_7d493, Cond.instanceMethod yJ0_coder_7d493, Cond.selects RJ0 yJ0_coder_7d493 yJ0_coder_7d493, Cond.code yJ0_coder_7d493 cJ0_coder_7d493 1 (some .byte), Cond.fieldLink RJ0 38 "java/lang/String" "COMPACT_STRINGS" "Z", Cond.fieldLink RJ0 15 "java/lang/String" "coder" "B", Cond.methodLink RJ5 208 ⟨"java/lang/AbstractStringBuilder", "putStringAt", "(ILjava/lang/String;)V"⟩, Cond.sameMethod "java/lang/AbstractStringBuilder" "java/lang/AbstractStringBuilder" "putStringAt" "(ILjava/lang/String;)V", Cond.selects RJ4 ⟨"java/lang/AbstractStringBuilder", "putStringAt", "(ILjava/lang/String;)V"⟩ yJ5_putStringAt_47b60, Cond.instanceMethod yJ5_putStringAt_47b60]
def wsJ5_append_cf1ce_r5 : List Cond := [Cond.code yJ5_putStringAt_47b60 cJ5_putStringAt_47b60 3 none, Cond.methodLink RJ5 397 ⟨"java/lang/AbstractStringBuilder", "inflateIfNeededFor", "(Ljava/lang/String;)V"⟩, Cond.sameMethod "java/lang/AbstractStringBuilder" "java/lang/AbstractStringBuilder" "inflateIfNeededFor" "(Ljava/lang/String;)V", Cond.selects RJ4 ⟨"java/lang/AbstractStringBuilder", "inflateIfNeededFor", "(Ljava/lang/String;)V"⟩ yJ5_inflateIfNeededFor_a7421, Cond.instanceMethod yJ5_inflateIfNeededFor_a7421, Cond.code yJ5_inflateIfNeededFor_a7421 cJ5_inflateIfNeededFor_a7421 2 none, Cond.methodLink RJ5 40 yJ0_coder_7d493, Cond.methodLink RJ5 195 ⟨"java/lang/AbstractStringBuilder", "inflate", "()V"⟩, Cond.sameMethod "java/lang/AbstractStringBuilder" "java/lang/AbstractStringBuilder" "inflate" "()V", Cond.selects RJ4 ⟨"java/lang/AbstractStringBuilder", "inflate", "()V"⟩ yJ5_inflate_da8c8, Cond.instanceMethod yJ5_inflate_da8c8, Cond.code yJ5_inflate_da8c8 cJ5_inflate_da8c8 2 none, Cond.methodLink RJ5 26 yJ2_newBytesFor_77867, Cond.static yJ2_newBytesFor_77867, Cond.code yJ2_newBytesFor_77867 cJ2_newBytesFor_77867 1 (some (.array .byte)), Cond.methodLink RJ2 11 yJ2_newBytesLength_0f7a4, Cond.static yJ2_newBytesLength_0f7a4, Cond.code yJ2_newBytesLength_0f7a4 cJ2_newBytesLength_0f7a4 1 (some .int), Cond.constant RJ2 20 (1073741823), Cond.methodLink RJ5 125 yJ1_inflate_0e8fd, Cond.static yJ1_inflate_0e8fd, Cond.initialized RJ1, Cond.code yJ1_inflate_0e8fd cJ1_inflate_0e8fd 5 none, Cond.methodLink RJ1 240 yJ2_inflate_0e8fd]
def wsJ5_append_cf1ce_r6 : List Cond := [Cond.static yJ2_inflate_0e8fd, Cond.code yJ2_inflate_0e8fd cJ2_inflate_0e8fd 6 none, Cond.methodLink RJ2 173 yJ2_checkBoundsOffCount_d044e, Cond.static yJ2_checkBoundsOffCount_d044e, Cond.code yJ2_checkBoundsOffCount_d044e cJ2_checkBoundsOffCount_d044e 3 none, Cond.methodLink RJ2 419 yJ0_checkBoundsOffCount_cabcc, Cond.static yJ0_checkBoundsOffCount_cabcc, Cond.code yJ0_checkBoundsOffCount_cabcc cJ0_checkBoundsOffCount_cabcc 3 (some .int), Cond.methodLink RJ0 1065 yJ3_checkFromIndexSize_8c36e, Cond.static yJ3_checkFromIndexSize_8c36e, Cond.code yJ3_checkFromIndexSize_8c36e cJ3_checkFromIndexSize_8c36e 4 (some .int), Cond.methodLink RJ5 399 yJ0_getBytes_840e7, Cond.instanceMethod yJ0_getBytes_840e7, Cond.selects RJ0 yJ0_getBytes_840e7 yJ0_getBytes_840e7, Cond.code yJ0_getBytes_840e7 cJ0_getBytes_840e7 4 none, Cond.methodLink RJ0 212 arraycopyName, Cond.methodLink RJ0 106 yJ1_inflate_0e8fd]
def wsJ5_append_cf1ce : List Cond := .code yJ5_append_cf1ce cJ5_append_cf1ce 3 (some (.object "java/lang/AbstractStringBuilder")) :: ((wsJ5_append_cf1ce_r1 ++ (wsJ5_append_cf1ce_r2 ++ (wsJ5_append_cf1ce_r3 ++ (wsJ5_append_cf1ce_r4 ++ (wsJ5_append_cf1ce_r5 ++ wsJ5_append_cf1ce_r6))))) ++ wsJ40 ++ wsJ00)
def wsJ4_append_15ec4_r1 : List Cond := [Cond.methodLink RJ4 29 yJ5_append_cf1ce, Cond.sameMethod "java/lang/AbstractStringBuilder" "java/lang/AbstractStringBuilder" "append" "(Ljava/lang/String;)Ljava/lang/AbstractStringBuilder;", Cond.superclass RJ4 RJ5, Cond.instanceMethod yJ5_append_cf1ce, Cond.initialized RJ5, Cond.code yJ5_append_cf1ce cJ5_append_cf1ce 3 (some (.object "java/lang/AbstractStringBuilder")), Cond.fieldLink RJ5 79 "java/lang/AbstractStringBuilder" "count" "I", Cond.methodLink RJ5 204 ⟨"java/lang/AbstractStringBuilder", "appendNull", "()Ljava/lang/AbstractStringBuilder;"⟩, Cond.sameMethod "java/lang/AbstractStringBuilder" "java/lang/AbstractStringBuilder" "appendNull" "()Ljava/lang/AbstractStringBuilder;", Cond.selects RJ4 ⟨"java/lang/AbstractStringBuilder", "appendNull", "()Ljava/lang/AbstractStringBuilder;"⟩ yJ5_appendNull_278bc, Cond.instanceMethod yJ5_appendNull_278bc, Cond.code yJ5_appendNull_278bc cJ5_appendNull_278bc 3 (some (.object "java/lang/AbstractStringBuilder")), Cond.fieldLink RJ5 15 "java/lang/AbstractStringBuilder" "value" "[B", Cond.methodLink RJ5 100 ⟨"java/lang/AbstractStringBuilder", "ensureCapacityInternal", "(I)V"⟩, Cond.sameMethod "java/lang/AbstractStringBuilder" "java/lang/AbstractStringBuilder" "ensureCapacityInternal" "(I)V", Cond.selects RJ4 ⟨"java/lang/AbstractStringBuilder", "ensureCapacityInternal", "(I)V"⟩ yJ5_ensureCapacityInternal_d00df, Cond.instanceMethod yJ5_ensureCapacityInternal_d00df, Cond.code yJ5_ensureCapacityInternal_d00df cJ5_ensureCapacityInternal_d00df 3 none, Cond.fieldLink RJ5 22 "java/lang/AbstractStringBuilder" "coder" "B", Cond.methodLink RJ5 104 ⟨"java/lang/AbstractStringBuilder", "newCapacity", "(I)I"⟩, Cond.sameMethod "java/lang/AbstractStringBuilder" "java/lang/AbstractStringBuilder" "newCapacity" "(I)I", Cond.selects RJ4 ⟨"java/lang/AbstractStringBuilder", "newCapacity", "(I)I"⟩ yJ5_newCapacity_0f7a4, Cond.instanceMethod yJ5_newCapacity_0f7a4, Cond.code yJ5_newCapacity_0f7a4 cJ5_newCapacity_0f7a4 6 (some .int)]
def wsJ4_append_15ec4_r2 : List Cond := [Cond.constant RJ5 39 (2147483647), Cond.methodLink RJ5 114 yJ8_newLength_cabcc, Cond.static yJ8_newLength_cabcc, Cond.initialized RJ8, Cond.code yJ8_newLength_cabcc cJ8_newLength_cabcc 4 (some .int), Cond.methodLink RJ8 194 Lib.Math.max.name, Cond.static Lib.Math.max.name, Cond.initialized "java/lang/Math", Cond.code Lib.Math.max.name Lib.Math.max.code 2 (some .int), Cond.constant RJ8 200 (2147483639), Cond.methodLink RJ8 201 yJ8_hugeLength_7cf53, Cond.static yJ8_hugeLength_7cf53, Cond.code yJ8_hugeLength_7cf53 cJ8_hugeLength_7cf53 3 (some .int), Cond.methodLink RJ5 108 yJ7_copyOf_9075b, Cond.static yJ7_copyOf_9075b, Cond.initialized RJ7, Cond.code yJ7_copyOf_9075b cJ7_copyOf_9075b 3 (some (.array .byte)), Cond.methodLink RJ7 310 ⟨"[B", "clone", "()Ljava/lang/Object;"⟩, Cond.sameMethod "[B" "java/lang/Object" "clone" "()Ljava/lang/Object;", Cond.native ⟨"java/lang/Object", "clone", "()Ljava/lang/Object;"⟩, Cond.instanceMethod ⟨"java/lang/Object", "clone", "()Ljava/lang/Object;"⟩, Cond.selects "[B" ⟨"[B", "clone", "()Ljava/lang/Object;"⟩ ⟨"java/lang/Object", "clone", "()Ljava/lang/Object;"⟩, Cond.classLink RJ7 311 "[B", Cond.arrayClass .byte]
def wsJ4_append_15ec4_r3 : List Cond := [Cond.methodLink RJ7 304 Lib.Math.min.name, Cond.static Lib.Math.min.name, Cond.code Lib.Math.min.name Lib.Math.min.code 2 (some .int), Cond.methodLink RJ7 150 arraycopyName, Cond.native arraycopyName, Cond.static arraycopyName, Cond.initialized "java/lang/System", Cond.methodLink RJ5 83 ⟨"java/lang/AbstractStringBuilder", "isLatin1", "()Z"⟩, Cond.sameMethod "java/lang/AbstractStringBuilder" "java/lang/AbstractStringBuilder" "isLatin1" "()Z", Cond.selects RJ4 ⟨"java/lang/AbstractStringBuilder", "isLatin1", "()Z"⟩ yJ5_isLatin1_aae02, Cond.instanceMethod yJ5_isLatin1_aae02, Cond.code yJ5_isLatin1_aae02 cJ5_isLatin1_aae02 1 (some .boolean), Cond.fieldLink RJ5 18 "java/lang/String" "COMPACT_STRINGS" "Z", Cond.methodLink RJ5 226 yJ2_putCharsAt_cd4e5, Cond.static yJ2_putCharsAt_cd4e5, Cond.initialized RJ2, Cond.code yJ2_putCharsAt_cd4e5 cJ2_putCharsAt_cd4e5 7 (some .int), Cond.fieldLink RJ2 44 "java/lang/StringUTF16" "$assertionsDisabled" "Z", Cond.methodLink RJ2 96 yJ2_checkBoundsBeginEnd_d044e, Cond.static yJ2_checkBoundsBeginEnd_d044e, Cond.code yJ2_checkBoundsBeginEnd_d044e cJ2_checkBoundsBeginEnd_d044e 3 none, Cond.methodLink RJ2 48 yJ2_length_9d52b, Cond.static yJ2_length_9d52b, Cond.code yJ2_length_9d52b cJ2_length_9d52b 1 (some .int)]
def wsJ4_append_15ec4_r4 : List Cond := [Cond.methodLink RJ2 241 yJ0_checkBoundsBeginEnd_23922, Cond.static yJ0_checkBoundsBeginEnd_23922, Cond.initialized RJ0, Cond.code yJ0_checkBoundsBeginEnd_23922 cJ0_checkBoundsBeginEnd_23922 3 none, Cond.fieldLink RJ0 1053 "jdk/internal/util/Preconditions" "SIOOBE_FORMATTER" "Ljava/util/function/BiFunction;", Cond.methodLink RJ0 1062 yJ3_checkFromToIndex_8c36e, Cond.static yJ3_checkFromToIndex_8c36e, Cond.initialized RJ3, Cond.code yJ3_checkFromToIndex_8c36e cJ3_checkFromToIndex_8c36e 4 (some .int), Cond.methodLink RJ2 111 yJ2_putChar_b72d1, Cond.static yJ2_putChar_b72d1, Cond.code yJ2_putChar_b72d1 cJ2_putChar_b72d1 3 none, Cond.fieldLink RJ2 59 "java/lang/StringUTF16" "HI_BYTE_SHIFT" "I", Cond.fieldLink RJ2 63 "java/lang/StringUTF16" "LO_BYTE_SHIFT" "I", Cond.methodLink RJ5 32 yJ0_length_8abf5, Cond.instanceMethod yJ0_length_8abf5, Cond.selects RJ0 yJ0_length_8abf5 yJ0_length_8abf5, Cond.code yJ0_length_8abf5 cJ0_length_8abf5 1 (some .int), Cond.fieldLink RJ0 9 "java/lang/String" "value" "[B", Cond.methodLink RJ0 335 yJ0_coder_7d493, Cond.instanceMethod yJ0_coder_7d493, Cond.selects RJ0 yJ0_coder_7d493 yJ0_coder_7d493, Cond.code yJ0_coder_7d493 cJ0_coder_7d493 1 (some .byte), Cond.fieldLink RJ0 38 "java/lang/String" "COMPACT_STRINGS" "Z"]
def wsJ4_append_15ec4_r5 : List Cond := [Cond.fieldLink RJ0 15 "java/lang/String" "coder" "B", Cond.methodLink RJ5 208 ⟨"java/lang/AbstractStringBuilder", "putStringAt", "(ILjava/lang/String;)V"⟩, Cond.sameMethod "java/lang/AbstractStringBuilder" "java/lang/AbstractStringBuilder" "putStringAt" "(ILjava/lang/String;)V", Cond.selects RJ4 ⟨"java/lang/AbstractStringBuilder", "putStringAt", "(ILjava/lang/String;)V"⟩ yJ5_putStringAt_47b60, Cond.instanceMethod yJ5_putStringAt_47b60, Cond.code yJ5_putStringAt_47b60 cJ5_putStringAt_47b60 3 none, Cond.methodLink RJ5 397 ⟨"java/lang/AbstractStringBuilder", "inflateIfNeededFor", "(Ljava/lang/String;)V"⟩, Cond.sameMethod "java/lang/AbstractStringBuilder" "java/lang/AbstractStringBuilder" "inflateIfNeededFor" "(Ljava/lang/String;)V", Cond.selects RJ4 ⟨"java/lang/AbstractStringBuilder", "inflateIfNeededFor", "(Ljava/lang/String;)V"⟩ yJ5_inflateIfNeededFor_a7421, Cond.instanceMethod yJ5_inflateIfNeededFor_a7421, Cond.code yJ5_inflateIfNeededFor_a7421 cJ5_inflateIfNeededFor_a7421 2 none, Cond.methodLink RJ5 40 yJ0_coder_7d493, Cond.methodLink RJ5 195 ⟨"java/lang/AbstractStringBuilder", "inflate", "()V"⟩, Cond.sameMethod "java/lang/AbstractStringBuilder" "java/lang/AbstractStringBuilder" "inflate" "()V", Cond.selects RJ4 ⟨"java/lang/AbstractStringBuilder", "inflate", "()V"⟩ yJ5_inflate_da8c8, Cond.instanceMethod yJ5_inflate_da8c8, Cond.code yJ5_inflate_da8c8 cJ5_inflate_da8c8 2 none, Cond.methodLink RJ5 26 yJ2_newBytesFor_77867, Cond.static yJ2_newBytesFor_77867, Cond.code yJ2_newBytesFor_77867 cJ2_newBytesFor_77867 1 (some (.array .byte)), Cond.methodLink RJ2 11 yJ2_newBytesLength_0f7a4, Cond.static yJ2_newBytesLength_0f7a4, Cond.code yJ2_newBytesLength_0f7a4 cJ2_newBytesLength_0f7a4 1 (some .int), Cond.constant RJ2 20 (1073741823)]
def wsJ4_append_15ec4_r6 : List Cond := [Cond.methodLink RJ5 125 yJ1_inflate_0e8fd, Cond.static yJ1_inflate_0e8fd, Cond.initialized RJ1, Cond.code yJ1_inflate_0e8fd cJ1_inflate_0e8fd 5 none, Cond.methodLink RJ1 240 yJ2_inflate_0e8fd, Cond.static yJ2_inflate_0e8fd, Cond.code yJ2_inflate_0e8fd cJ2_inflate_0e8fd 6 none, Cond.methodLink RJ2 173 yJ2_checkBoundsOffCount_d044e, Cond.static yJ2_checkBoundsOffCount_d044e, Cond.code yJ2_checkBoundsOffCount_d044e cJ2_checkBoundsOffCount_d044e 3 none, Cond.methodLink RJ2 419 yJ0_checkBoundsOffCount_cabcc, Cond.static yJ0_checkBoundsOffCount_cabcc, Cond.code yJ0_checkBoundsOffCount_cabcc cJ0_checkBoundsOffCount_cabcc 3 (some .int), Cond.methodLink RJ0 1065 yJ3_checkFromIndexSize_8c36e, Cond.static yJ3_checkFromIndexSize_8c36e, Cond.code yJ3_checkFromIndexSize_8c36e cJ3_checkFromIndexSize_8c36e 4 (some .int), Cond.methodLink RJ5 399 yJ0_getBytes_840e7, Cond.instanceMethod yJ0_getBytes_840e7, Cond.selects RJ0 yJ0_getBytes_840e7 yJ0_getBytes_840e7, Cond.code yJ0_getBytes_840e7 cJ0_getBytes_840e7 4 none, Cond.methodLink RJ0 212 arraycopyName, Cond.methodLink RJ0 106 yJ1_inflate_0e8fd]
def wsJ4_append_15ec4 : List Cond := .code yJ4_append_15ec4 cJ4_append_15ec4 2 (some (.object "java/lang/StringBuilder")) :: ((wsJ4_append_15ec4_r1 ++ (wsJ4_append_15ec4_r2 ++ (wsJ4_append_15ec4_r3 ++ (wsJ4_append_15ec4_r4 ++ (wsJ4_append_15ec4_r5 ++ wsJ4_append_15ec4_r6))))) ++ wsJ40 ++ wsJ00)
def wsJ1_canEncode_fc78d : List Cond := .code yJ1_canEncode_fc78d cJ1_canEncode_fc78d 1 (some .boolean) :: ([])
def wsJ5_append_3fe6f_r1 : List Cond := [Cond.fieldLink RJ5 79 "java/lang/AbstractStringBuilder" "count" "I", Cond.fieldLink RJ5 15 "java/lang/AbstractStringBuilder" "value" "[B", Cond.methodLink RJ5 100 ⟨"java/lang/AbstractStringBuilder", "ensureCapacityInternal", "(I)V"⟩, Cond.sameMethod "java/lang/AbstractStringBuilder" "java/lang/AbstractStringBuilder" "ensureCapacityInternal" "(I)V", Cond.selects RJ4 ⟨"java/lang/AbstractStringBuilder", "ensureCapacityInternal", "(I)V"⟩ yJ5_ensureCapacityInternal_d00df, Cond.instanceMethod yJ5_ensureCapacityInternal_d00df, Cond.initialized RJ5, Cond.code yJ5_ensureCapacityInternal_d00df cJ5_ensureCapacityInternal_d00df 3 none, Cond.fieldLink RJ5 22 "java/lang/AbstractStringBuilder" "coder" "B", Cond.methodLink RJ5 104 ⟨"java/lang/AbstractStringBuilder", "newCapacity", "(I)I"⟩, Cond.sameMethod "java/lang/AbstractStringBuilder" "java/lang/AbstractStringBuilder" "newCapacity" "(I)I", Cond.selects RJ4 ⟨"java/lang/AbstractStringBuilder", "newCapacity", "(I)I"⟩ yJ5_newCapacity_0f7a4, Cond.instanceMethod yJ5_newCapacity_0f7a4, Cond.code yJ5_newCapacity_0f7a4 cJ5_newCapacity_0f7a4 6 (some .int), Cond.constant RJ5 39 (2147483647), Cond.methodLink RJ5 114 yJ8_newLength_cabcc, Cond.static yJ8_newLength_cabcc, Cond.initialized RJ8, Cond.code yJ8_newLength_cabcc cJ8_newLength_cabcc 4 (some .int), Cond.methodLink RJ8 194 Lib.Math.max.name, Cond.static Lib.Math.max.name, Cond.initialized "java/lang/Math", Cond.code Lib.Math.max.name Lib.Math.max.code 2 (some .int), Cond.constant RJ8 200 (2147483639)]
def wsJ5_append_3fe6f_r2 : List Cond := [Cond.methodLink RJ8 201 yJ8_hugeLength_7cf53, Cond.static yJ8_hugeLength_7cf53, Cond.code yJ8_hugeLength_7cf53 cJ8_hugeLength_7cf53 3 (some .int), Cond.methodLink RJ5 108 yJ7_copyOf_9075b, Cond.static yJ7_copyOf_9075b, Cond.initialized RJ7, Cond.code yJ7_copyOf_9075b cJ7_copyOf_9075b 3 (some (.array .byte)), Cond.methodLink RJ7 310 ⟨"[B", "clone", "()Ljava/lang/Object;"⟩, Cond.sameMethod "[B" "java/lang/Object" "clone" "()Ljava/lang/Object;", Cond.native ⟨"java/lang/Object", "clone", "()Ljava/lang/Object;"⟩, Cond.instanceMethod ⟨"java/lang/Object", "clone", "()Ljava/lang/Object;"⟩, Cond.selects "[B" ⟨"[B", "clone", "()Ljava/lang/Object;"⟩ ⟨"java/lang/Object", "clone", "()Ljava/lang/Object;"⟩, Cond.classLink RJ7 311 "[B", Cond.arrayClass .byte, Cond.methodLink RJ7 304 Lib.Math.min.name, Cond.static Lib.Math.min.name, Cond.code Lib.Math.min.name Lib.Math.min.code 2 (some .int), Cond.methodLink RJ7 150 arraycopyName, Cond.native arraycopyName, Cond.static arraycopyName, Cond.initialized "java/lang/System", Cond.methodLink RJ5 83 ⟨"java/lang/AbstractStringBuilder", "isLatin1", "()Z"⟩, Cond.sameMethod "java/lang/AbstractStringBuilder" "java/lang/AbstractStringBuilder" "isLatin1" "()Z", Cond.selects RJ4 ⟨"java/lang/AbstractStringBuilder", "isLatin1", "()Z"⟩ yJ5_isLatin1_aae02]
def wsJ5_append_3fe6f_r3 : List Cond := [Cond.instanceMethod yJ5_isLatin1_aae02, Cond.code yJ5_isLatin1_aae02 cJ5_isLatin1_aae02 1 (some .boolean), Cond.fieldLink RJ5 18 "java/lang/String" "COMPACT_STRINGS" "Z", Cond.methodLink RJ5 191 yJ1_canEncode_fc78d, Cond.static yJ1_canEncode_fc78d, Cond.initialized RJ1, Cond.code yJ1_canEncode_fc78d cJ1_canEncode_fc78d 1 (some .boolean), Cond.methodLink RJ5 195 ⟨"java/lang/AbstractStringBuilder", "inflate", "()V"⟩, Cond.sameMethod "java/lang/AbstractStringBuilder" "java/lang/AbstractStringBuilder" "inflate" "()V", Cond.selects RJ4 ⟨"java/lang/AbstractStringBuilder", "inflate", "()V"⟩ yJ5_inflate_da8c8, Cond.instanceMethod yJ5_inflate_da8c8, Cond.code yJ5_inflate_da8c8 cJ5_inflate_da8c8 2 none, Cond.methodLink RJ5 26 yJ2_newBytesFor_77867, Cond.static yJ2_newBytesFor_77867, Cond.initialized RJ2, Cond.code yJ2_newBytesFor_77867 cJ2_newBytesFor_77867 1 (some (.array .byte)), Cond.methodLink RJ2 11 yJ2_newBytesLength_0f7a4, Cond.static yJ2_newBytesLength_0f7a4, Cond.code yJ2_newBytesLength_0f7a4 cJ2_newBytesLength_0f7a4 1 (some .int), Cond.constant RJ2 20 (1073741823), Cond.methodLink RJ5 125 yJ1_inflate_0e8fd, Cond.static yJ1_inflate_0e8fd, Cond.code yJ1_inflate_0e8fd cJ1_inflate_0e8fd 5 none, Cond.methodLink RJ1 240 yJ2_inflate_0e8fd]
def wsJ5_append_3fe6f_r4 : List Cond := [Cond.static yJ2_inflate_0e8fd, Cond.code yJ2_inflate_0e8fd cJ2_inflate_0e8fd 6 none, Cond.methodLink RJ2 173 yJ2_checkBoundsOffCount_d044e, Cond.static yJ2_checkBoundsOffCount_d044e, Cond.code yJ2_checkBoundsOffCount_d044e cJ2_checkBoundsOffCount_d044e 3 none, Cond.methodLink RJ2 48 yJ2_length_9d52b, Cond.static yJ2_length_9d52b, Cond.code yJ2_length_9d52b cJ2_length_9d52b 1 (some .int), Cond.methodLink RJ2 419 yJ0_checkBoundsOffCount_cabcc, Cond.static yJ0_checkBoundsOffCount_cabcc, Cond.initialized RJ0, Cond.code yJ0_checkBoundsOffCount_cabcc cJ0_checkBoundsOffCount_cabcc 3 (some .int), Cond.fieldLink RJ0 1053 "jdk/internal/util/Preconditions" "SIOOBE_FORMATTER" "Ljava/util/function/BiFunction;", Cond.methodLink RJ0 1065 yJ3_checkFromIndexSize_8c36e, Cond.static yJ3_checkFromIndexSize_8c36e, Cond.initialized RJ3, Cond.code yJ3_checkFromIndexSize_8c36e cJ3_checkFromIndexSize_8c36e 4 (some .int), Cond.methodLink RJ2 111 yJ2_putChar_b72d1, Cond.static yJ2_putChar_b72d1, Cond.code yJ2_putChar_b72d1 cJ2_putChar_b72d1 3 none, Cond.fieldLink RJ2 44 "java/lang/StringUTF16" "$assertionsDisabled" "Z", Cond.fieldLink RJ2 59 "java/lang/StringUTF16" "HI_BYTE_SHIFT" "I", Cond.fieldLink RJ2 63 "java/lang/StringUTF16" "LO_BYTE_SHIFT" "I", Cond.methodLink RJ5 197 yJ2_putCharSB_b72d1]
def wsJ5_append_3fe6f_r5 : List Cond := [Cond.static yJ2_putCharSB_b72d1, Cond.code yJ2_putCharSB_b72d1 cJ2_putCharSB_b72d1 3 none, Cond.methodLink RJ2 67 yJ2_checkIndex_2214a, Cond.static yJ2_checkIndex_2214a, Cond.code yJ2_checkIndex_2214a cJ2_checkIndex_2214a 2 none, Cond.methodLink RJ2 414 yJ0_checkIndex_df160, Cond.static yJ0_checkIndex_df160, Cond.code yJ0_checkIndex_df160 cJ0_checkIndex_df160 2 none, Cond.methodLink RJ0 1059 yJ3_checkIndex_8e157, Cond.static yJ3_checkIndex_8e157, Cond.code yJ3_checkIndex_8e157 cJ3_checkIndex_8e157 3 (some .int)]
def wsJ5_append_3fe6f : List Cond := .code yJ5_append_3fe6f cJ5_append_3fe6f 2 (some (.object "java/lang/AbstractStringBuilder")) :: ((wsJ5_append_3fe6f_r1 ++ (wsJ5_append_3fe6f_r2 ++ (wsJ5_append_3fe6f_r3 ++ (wsJ5_append_3fe6f_r4 ++ wsJ5_append_3fe6f_r5)))) ++ wsJ40)
def wsJ4_append_cf468_r1 : List Cond := [Cond.methodLink RJ4 50 yJ5_append_3fe6f, Cond.sameMethod "java/lang/AbstractStringBuilder" "java/lang/AbstractStringBuilder" "append" "(C)Ljava/lang/AbstractStringBuilder;", Cond.superclass RJ4 RJ5, Cond.instanceMethod yJ5_append_3fe6f, Cond.initialized RJ5, Cond.code yJ5_append_3fe6f cJ5_append_3fe6f 2 (some (.object "java/lang/AbstractStringBuilder")), Cond.fieldLink RJ5 79 "java/lang/AbstractStringBuilder" "count" "I", Cond.fieldLink RJ5 15 "java/lang/AbstractStringBuilder" "value" "[B", Cond.methodLink RJ5 100 ⟨"java/lang/AbstractStringBuilder", "ensureCapacityInternal", "(I)V"⟩, Cond.sameMethod "java/lang/AbstractStringBuilder" "java/lang/AbstractStringBuilder" "ensureCapacityInternal" "(I)V", Cond.selects RJ4 ⟨"java/lang/AbstractStringBuilder", "ensureCapacityInternal", "(I)V"⟩ yJ5_ensureCapacityInternal_d00df, Cond.instanceMethod yJ5_ensureCapacityInternal_d00df, Cond.code yJ5_ensureCapacityInternal_d00df cJ5_ensureCapacityInternal_d00df 3 none, Cond.fieldLink RJ5 22 "java/lang/AbstractStringBuilder" "coder" "B", Cond.methodLink RJ5 104 ⟨"java/lang/AbstractStringBuilder", "newCapacity", "(I)I"⟩, Cond.sameMethod "java/lang/AbstractStringBuilder" "java/lang/AbstractStringBuilder" "newCapacity" "(I)I", Cond.selects RJ4 ⟨"java/lang/AbstractStringBuilder", "newCapacity", "(I)I"⟩ yJ5_newCapacity_0f7a4, Cond.instanceMethod yJ5_newCapacity_0f7a4, Cond.code yJ5_newCapacity_0f7a4 cJ5_newCapacity_0f7a4 6 (some .int), Cond.constant RJ5 39 (2147483647), Cond.methodLink RJ5 114 yJ8_newLength_cabcc, Cond.static yJ8_newLength_cabcc, Cond.initialized RJ8, Cond.code yJ8_newLength_cabcc cJ8_newLength_cabcc 4 (some .int)]
def wsJ4_append_cf468_r2 : List Cond := [Cond.methodLink RJ8 194 Lib.Math.max.name, Cond.static Lib.Math.max.name, Cond.initialized "java/lang/Math", Cond.code Lib.Math.max.name Lib.Math.max.code 2 (some .int), Cond.constant RJ8 200 (2147483639), Cond.methodLink RJ8 201 yJ8_hugeLength_7cf53, Cond.static yJ8_hugeLength_7cf53, Cond.code yJ8_hugeLength_7cf53 cJ8_hugeLength_7cf53 3 (some .int), Cond.methodLink RJ5 108 yJ7_copyOf_9075b, Cond.static yJ7_copyOf_9075b, Cond.initialized RJ7, Cond.code yJ7_copyOf_9075b cJ7_copyOf_9075b 3 (some (.array .byte)), Cond.methodLink RJ7 310 ⟨"[B", "clone", "()Ljava/lang/Object;"⟩, Cond.sameMethod "[B" "java/lang/Object" "clone" "()Ljava/lang/Object;", Cond.native ⟨"java/lang/Object", "clone", "()Ljava/lang/Object;"⟩, Cond.instanceMethod ⟨"java/lang/Object", "clone", "()Ljava/lang/Object;"⟩, Cond.selects "[B" ⟨"[B", "clone", "()Ljava/lang/Object;"⟩ ⟨"java/lang/Object", "clone", "()Ljava/lang/Object;"⟩, Cond.classLink RJ7 311 "[B", Cond.arrayClass .byte, Cond.methodLink RJ7 304 Lib.Math.min.name, Cond.static Lib.Math.min.name, Cond.code Lib.Math.min.name Lib.Math.min.code 2 (some .int), Cond.methodLink RJ7 150 arraycopyName, Cond.native arraycopyName]
def wsJ4_append_cf468_r3 : List Cond := [Cond.static arraycopyName, Cond.initialized "java/lang/System", Cond.methodLink RJ5 83 ⟨"java/lang/AbstractStringBuilder", "isLatin1", "()Z"⟩, Cond.sameMethod "java/lang/AbstractStringBuilder" "java/lang/AbstractStringBuilder" "isLatin1" "()Z", Cond.selects RJ4 ⟨"java/lang/AbstractStringBuilder", "isLatin1", "()Z"⟩ yJ5_isLatin1_aae02, Cond.instanceMethod yJ5_isLatin1_aae02, Cond.code yJ5_isLatin1_aae02 cJ5_isLatin1_aae02 1 (some .boolean), Cond.fieldLink RJ5 18 "java/lang/String" "COMPACT_STRINGS" "Z", Cond.methodLink RJ5 191 yJ1_canEncode_fc78d, Cond.static yJ1_canEncode_fc78d, Cond.initialized RJ1, Cond.code yJ1_canEncode_fc78d cJ1_canEncode_fc78d 1 (some .boolean), Cond.methodLink RJ5 195 ⟨"java/lang/AbstractStringBuilder", "inflate", "()V"⟩, Cond.sameMethod "java/lang/AbstractStringBuilder" "java/lang/AbstractStringBuilder" "inflate" "()V", Cond.selects RJ4 ⟨"java/lang/AbstractStringBuilder", "inflate", "()V"⟩ yJ5_inflate_da8c8, Cond.instanceMethod yJ5_inflate_da8c8, Cond.code yJ5_inflate_da8c8 cJ5_inflate_da8c8 2 none, Cond.methodLink RJ5 26 yJ2_newBytesFor_77867, Cond.static yJ2_newBytesFor_77867, Cond.initialized RJ2, Cond.code yJ2_newBytesFor_77867 cJ2_newBytesFor_77867 1 (some (.array .byte)), Cond.methodLink RJ2 11 yJ2_newBytesLength_0f7a4, Cond.static yJ2_newBytesLength_0f7a4, Cond.code yJ2_newBytesLength_0f7a4 cJ2_newBytesLength_0f7a4 1 (some .int)]
def wsJ4_append_cf468_r4 : List Cond := [Cond.constant RJ2 20 (1073741823), Cond.methodLink RJ5 125 yJ1_inflate_0e8fd, Cond.static yJ1_inflate_0e8fd, Cond.code yJ1_inflate_0e8fd cJ1_inflate_0e8fd 5 none, Cond.methodLink RJ1 240 yJ2_inflate_0e8fd, Cond.static yJ2_inflate_0e8fd, Cond.code yJ2_inflate_0e8fd cJ2_inflate_0e8fd 6 none, Cond.methodLink RJ2 173 yJ2_checkBoundsOffCount_d044e, Cond.static yJ2_checkBoundsOffCount_d044e, Cond.code yJ2_checkBoundsOffCount_d044e cJ2_checkBoundsOffCount_d044e 3 none, Cond.methodLink RJ2 48 yJ2_length_9d52b, Cond.static yJ2_length_9d52b, Cond.code yJ2_length_9d52b cJ2_length_9d52b 1 (some .int), Cond.methodLink RJ2 419 yJ0_checkBoundsOffCount_cabcc, Cond.static yJ0_checkBoundsOffCount_cabcc, Cond.initialized RJ0, Cond.code yJ0_checkBoundsOffCount_cabcc cJ0_checkBoundsOffCount_cabcc 3 (some .int), Cond.fieldLink RJ0 1053 "jdk/internal/util/Preconditions" "SIOOBE_FORMATTER" "Ljava/util/function/BiFunction;", Cond.methodLink RJ0 1065 yJ3_checkFromIndexSize_8c36e, Cond.static yJ3_checkFromIndexSize_8c36e, Cond.initialized RJ3, Cond.code yJ3_checkFromIndexSize_8c36e cJ3_checkFromIndexSize_8c36e 4 (some .int), Cond.methodLink RJ2 111 yJ2_putChar_b72d1, Cond.static yJ2_putChar_b72d1]
def wsJ4_append_cf468_r5 : List Cond := [Cond.code yJ2_putChar_b72d1 cJ2_putChar_b72d1 3 none, Cond.fieldLink RJ2 44 "java/lang/StringUTF16" "$assertionsDisabled" "Z", Cond.fieldLink RJ2 59 "java/lang/StringUTF16" "HI_BYTE_SHIFT" "I", Cond.fieldLink RJ2 63 "java/lang/StringUTF16" "LO_BYTE_SHIFT" "I", Cond.methodLink RJ5 197 yJ2_putCharSB_b72d1, Cond.static yJ2_putCharSB_b72d1, Cond.code yJ2_putCharSB_b72d1 cJ2_putCharSB_b72d1 3 none, Cond.methodLink RJ2 67 yJ2_checkIndex_2214a, Cond.static yJ2_checkIndex_2214a, Cond.code yJ2_checkIndex_2214a cJ2_checkIndex_2214a 2 none, Cond.methodLink RJ2 414 yJ0_checkIndex_df160, Cond.static yJ0_checkIndex_df160, Cond.code yJ0_checkIndex_df160 cJ0_checkIndex_df160 2 none, Cond.methodLink RJ0 1059 yJ3_checkIndex_8e157, Cond.static yJ3_checkIndex_8e157, Cond.code yJ3_checkIndex_8e157 cJ3_checkIndex_8e157 3 (some .int)]
def wsJ4_append_cf468 : List Cond := .code yJ4_append_cf468 cJ4_append_cf468 2 (some (.object "java/lang/StringBuilder")) :: ((wsJ4_append_cf468_r1 ++ (wsJ4_append_cf468_r2 ++ (wsJ4_append_cf468_r3 ++ (wsJ4_append_cf468_r4 ++ wsJ4_append_cf468_r5)))) ++ wsJ40)
def wsJ5_getValue_6d5f1 : List Cond := .code yJ5_getValue_6d5f1 cJ5_getValue_6d5f1 1 (some (.array .byte)) :: ([.fieldLink RJ5 15 "java/lang/AbstractStringBuilder" "value" "[B"] ++ wsJ40)
def wsJ5_length_8abf5 : List Cond := .code yJ5_length_8abf5 cJ5_length_8abf5 1 (some .int) :: ([.fieldLink RJ5 79 "java/lang/AbstractStringBuilder" "count" "I"] ++ wsJ40)
def wsJ4_length_8abf5 : List Cond := .code yJ4_length_8abf5 cJ4_length_8abf5 1 (some .int) :: ([.methodLink RJ4 343 yJ5_length_8abf5, .sameMethod "java/lang/AbstractStringBuilder" "java/lang/AbstractStringBuilder" "length" "()I", .superclass RJ4 RJ5, .instanceMethod yJ5_length_8abf5, .initialized RJ5, .code yJ5_length_8abf5 cJ5_length_8abf5 1 (some .int), .fieldLink RJ5 79 "java/lang/AbstractStringBuilder" "count" "I"] ++ wsJ40)
def wsJ7_checkLength_df160 : List Cond := .code yJ7_checkLength_df160 cJ7_checkLength_df160 2 none :: ([.classLink RJ7 45 RJ4, .instantiable RJ4 4, .initialized RJ4] ++ wsJ40)
def wsJ7_copyOfRangeByte_39247 : List Cond := .code yJ7_copyOfRangeByte_39247 cJ7_copyOfRangeByte_39247 5 (some (.array .byte)) :: ([.arrayClass .byte, .methodLink RJ7 304 Lib.Math.min.name, .static Lib.Math.min.name, .initialized "java/lang/Math", .code Lib.Math.min.name Lib.Math.min.code 2 (some .int), .methodLink RJ7 150 arraycopyName, .native arraycopyName, .static arraycopyName, .initialized "java/lang/System", .methodLink RJ7 343 yJ7_checkLength_df160, .static yJ7_checkLength_df160, .initialized RJ7, .code yJ7_checkLength_df160 cJ7_checkLength_df160 2 none, .classLink RJ7 45 RJ4, .instantiable RJ4 4, .initialized RJ4] ++ wsJ40)
def wsJ7_copyOfRange_39247_r1 : List Cond := [Cond.methodLink RJ7 310 ⟨"[B", "clone", "()Ljava/lang/Object;"⟩, Cond.sameMethod "[B" "java/lang/Object" "clone" "()Ljava/lang/Object;", Cond.native ⟨"java/lang/Object", "clone", "()Ljava/lang/Object;"⟩, Cond.instanceMethod ⟨"java/lang/Object", "clone", "()Ljava/lang/Object;"⟩, Cond.selects "[B" ⟨"[B", "clone", "()Ljava/lang/Object;"⟩ ⟨"java/lang/Object", "clone", "()Ljava/lang/Object;"⟩, Cond.classLink RJ7 311 "[B", Cond.methodLink RJ7 339 yJ7_copyOfRangeByte_39247, Cond.static yJ7_copyOfRangeByte_39247, Cond.initialized RJ7, Cond.code yJ7_copyOfRangeByte_39247 cJ7_copyOfRangeByte_39247 5 (some (.array .byte)), Cond.arrayClass .byte, Cond.methodLink RJ7 304 Lib.Math.min.name, Cond.static Lib.Math.min.name, Cond.initialized "java/lang/Math", Cond.code Lib.Math.min.name Lib.Math.min.code 2 (some .int), Cond.methodLink RJ7 150 arraycopyName, Cond.native arraycopyName, Cond.static arraycopyName, Cond.initialized "java/lang/System", Cond.methodLink RJ7 343 yJ7_checkLength_df160, Cond.static yJ7_checkLength_df160, Cond.code yJ7_checkLength_df160 cJ7_checkLength_df160 2 none, Cond.classLink RJ7 45 RJ4, Cond.instantiable RJ4 4]
def wsJ7_copyOfRange_39247_r2 : List Cond := [Cond.initialized RJ4]
def wsJ7_copyOfRange_39247 : List Cond := .code yJ7_copyOfRange_39247 cJ7_copyOfRange_39247 3 (some (.array .byte)) :: ((wsJ7_copyOfRange_39247_r1 ++ wsJ7_copyOfRange_39247_r2) ++ wsJ40)
def wsJ0_init_db425_r1 : List Cond := [Cond.methodLink RJ0 1 objectInit, Cond.instanceMethod objectInit, Cond.code objectInit ⟨#[0xb1]⟩ 1 none, Cond.fieldLink RJ0 15 "java/lang/String" "coder" "B", Cond.fieldLink RJ0 9 "java/lang/String" "value" "[B", Cond.fieldLink RJ0 38 "java/lang/String" "COMPACT_STRINGS" "Z", Cond.fieldLink RJ0 1048 "java/lang/AbstractStringBuilder" "maybeLatin1" "Z", Cond.methodLink RJ0 552 ⟨"java/lang/AbstractStringBuilder", "getValue", "()[B"⟩, Cond.sameMethod "java/lang/AbstractStringBuilder" "java/lang/AbstractStringBuilder" "getValue" "()[B", Cond.selects RJ4 ⟨"java/lang/AbstractStringBuilder", "getValue", "()[B"⟩ yJ5_getValue_6d5f1, Cond.instanceMethod yJ5_getValue_6d5f1, Cond.initialized RJ5, Cond.code yJ5_getValue_6d5f1 cJ5_getValue_6d5f1 1 (some (.array .byte)), Cond.fieldLink RJ5 15 "java/lang/AbstractStringBuilder" "value" "[B", Cond.methodLink RJ0 549 ⟨"java/lang/AbstractStringBuilder", "length", "()I"⟩, Cond.sameMethod "java/lang/AbstractStringBuilder" "java/lang/AbstractStringBuilder" "length" "()I", Cond.instanceMethod ⟨"java/lang/AbstractStringBuilder", "length", "()I"⟩, Cond.selects RJ4 ⟨"java/lang/AbstractStringBuilder", "length", "()I"⟩ yJ4_length_8abf5, Cond.instanceMethod yJ4_length_8abf5, Cond.initialized RJ4, Cond.code yJ4_length_8abf5 cJ4_length_8abf5 1 (some .int), Cond.methodLink RJ4 343 yJ5_length_8abf5, Cond.superclass RJ4 RJ5, Cond.instanceMethod yJ5_length_8abf5]
def wsJ0_init_db425_r2 : List Cond := [Cond.code yJ5_length_8abf5 cJ5_length_8abf5 1 (some .int), Cond.fieldLink RJ5 79 "java/lang/AbstractStringBuilder" "count" "I", Cond.methodLink RJ0 1047 ⟨"java/lang/AbstractStringBuilder", "isLatin1", "()Z"⟩, Cond.sameMethod "java/lang/AbstractStringBuilder" "java/lang/AbstractStringBuilder" "isLatin1" "()Z", Cond.selects RJ4 ⟨"java/lang/AbstractStringBuilder", "isLatin1", "()Z"⟩ yJ5_isLatin1_aae02, Cond.instanceMethod yJ5_isLatin1_aae02, Cond.code yJ5_isLatin1_aae02 cJ5_isLatin1_aae02 1 (some .boolean), Cond.fieldLink RJ5 18 "java/lang/String" "COMPACT_STRINGS" "Z", Cond.fieldLink RJ5 22 "java/lang/AbstractStringBuilder" "coder" "B", Cond.methodLink RJ0 54 yJ7_copyOfRange_39247, Cond.static yJ7_copyOfRange_39247, Cond.initialized RJ7, Cond.code yJ7_copyOfRange_39247 cJ7_copyOfRange_39247 3 (some (.array .byte)), Cond.methodLink RJ7 310 ⟨"[B", "clone", "()Ljava/lang/Object;"⟩, Cond.sameMethod "[B" "java/lang/Object" "clone" "()Ljava/lang/Object;", Cond.native ⟨"java/lang/Object", "clone", "()Ljava/lang/Object;"⟩, Cond.instanceMethod ⟨"java/lang/Object", "clone", "()Ljava/lang/Object;"⟩, Cond.selects "[B" ⟨"[B", "clone", "()Ljava/lang/Object;"⟩ ⟨"java/lang/Object", "clone", "()Ljava/lang/Object;"⟩, Cond.classLink RJ7 311 "[B", Cond.methodLink RJ7 339 yJ7_copyOfRangeByte_39247, Cond.static yJ7_copyOfRangeByte_39247, Cond.code yJ7_copyOfRangeByte_39247 cJ7_copyOfRangeByte_39247 5 (some (.array .byte)), Cond.arrayClass .byte, Cond.methodLink RJ7 304 Lib.Math.min.name]
def wsJ0_init_db425_r3 : List Cond := [Cond.static Lib.Math.min.name, Cond.initialized "java/lang/Math", Cond.code Lib.Math.min.name Lib.Math.min.code 2 (some .int), Cond.methodLink RJ7 150 arraycopyName, Cond.native arraycopyName, Cond.static arraycopyName, Cond.initialized "java/lang/System", Cond.methodLink RJ7 343 yJ7_checkLength_df160, Cond.static yJ7_checkLength_df160, Cond.code yJ7_checkLength_df160 cJ7_checkLength_df160 2 none, Cond.classLink RJ7 45 RJ4, Cond.instantiable RJ4 4, Cond.methodLink RJ0 1051 yJ2_compress_39247, Cond.static yJ2_compress_39247, Cond.initialized RJ2, Cond.code yJ2_compress_39247 cJ2_compress_39247 6 (some (.array .byte)), Cond.methodLink RJ2 123 yJ2_compress_5af95, Cond.static yJ2_compress_5af95, Cond.code yJ2_compress_5af95 cJ2_compress_5af95 7 (some .int), Cond.methodLink RJ2 173 yJ2_checkBoundsOffCount_d044e, Cond.static yJ2_checkBoundsOffCount_d044e, Cond.code yJ2_checkBoundsOffCount_d044e cJ2_checkBoundsOffCount_d044e 3 none, Cond.methodLink RJ2 48 yJ2_length_9d52b, Cond.static yJ2_length_9d52b]
def wsJ0_init_db425_r4 : List Cond := [Cond.code yJ2_length_9d52b cJ2_length_9d52b 1 (some .int), Cond.methodLink RJ2 419 yJ0_checkBoundsOffCount_cabcc, Cond.static yJ0_checkBoundsOffCount_cabcc, Cond.initialized RJ0, Cond.code yJ0_checkBoundsOffCount_cabcc cJ0_checkBoundsOffCount_cabcc 3 (some .int), Cond.fieldLink RJ0 1053 "jdk/internal/util/Preconditions" "SIOOBE_FORMATTER" "Ljava/util/function/BiFunction;", Cond.methodLink RJ0 1065 yJ3_checkFromIndexSize_8c36e, Cond.static yJ3_checkFromIndexSize_8c36e, Cond.initialized RJ3, Cond.code yJ3_checkFromIndexSize_8c36e cJ3_checkFromIndexSize_8c36e 4 (some .int), Cond.methodLink RJ2 71 yJ2_getChar_3b067, Cond.static yJ2_getChar_3b067, Cond.code yJ2_getChar_3b067 cJ2_getChar_3b067 2 (some .char), Cond.fieldLink RJ2 44 "java/lang/StringUTF16" "$assertionsDisabled" "Z", Cond.fieldLink RJ2 59 "java/lang/StringUTF16" "HI_BYTE_SHIFT" "I", Cond.fieldLink RJ2 63 "java/lang/StringUTF16" "LO_BYTE_SHIFT" "I", Cond.methodLink RJ2 11 yJ2_newBytesLength_0f7a4, Cond.static yJ2_newBytesLength_0f7a4, Cond.code yJ2_newBytesLength_0f7a4 cJ2_newBytesLength_0f7a4 1 (some .int), Cond.constant RJ2 20 (1073741823), Cond.methodLink RJ2 126 yJ7_copyOfRange_39247, Cond.methodLink RJ0 47 yJ2_coderFromArrayLen_85cad, Cond.static yJ2_coderFromArrayLen_85cad, Cond.code yJ2_coderFromArrayLen_85cad cJ2_coderFromArrayLen_85cad 2 (some .byte)]
def wsJ0_init_db425 : List Cond := .code yJ0_init_db425 cJ0_init_db425 5 none :: ((wsJ0_init_db425_r1 ++ (wsJ0_init_db425_r2 ++ (wsJ0_init_db425_r3 ++ wsJ0_init_db425_r4))) ++ wsJ00 ++ wsJ40)
def wsJ0_init_81219_r1 : List Cond := [Cond.methodLink RJ0 489 yJ0_init_db425, Cond.instanceMethod yJ0_init_db425, Cond.initialized RJ0, Cond.code yJ0_init_db425 cJ0_init_db425 5 none, Cond.methodLink RJ0 1 objectInit, Cond.instanceMethod objectInit, Cond.code objectInit ⟨#[0xb1]⟩ 1 none, Cond.fieldLink RJ0 15 "java/lang/String" "coder" "B", Cond.fieldLink RJ0 9 "java/lang/String" "value" "[B", Cond.fieldLink RJ0 38 "java/lang/String" "COMPACT_STRINGS" "Z", Cond.fieldLink RJ0 1048 "java/lang/AbstractStringBuilder" "maybeLatin1" "Z", Cond.methodLink RJ0 552 ⟨"java/lang/AbstractStringBuilder", "getValue", "()[B"⟩, Cond.sameMethod "java/lang/AbstractStringBuilder" "java/lang/AbstractStringBuilder" "getValue" "()[B", Cond.selects RJ4 ⟨"java/lang/AbstractStringBuilder", "getValue", "()[B"⟩ yJ5_getValue_6d5f1, Cond.instanceMethod yJ5_getValue_6d5f1, Cond.initialized RJ5, Cond.code yJ5_getValue_6d5f1 cJ5_getValue_6d5f1 1 (some (.array .byte)), Cond.fieldLink RJ5 15 "java/lang/AbstractStringBuilder" "value" "[B", Cond.methodLink RJ0 549 ⟨"java/lang/AbstractStringBuilder", "length", "()I"⟩, Cond.sameMethod "java/lang/AbstractStringBuilder" "java/lang/AbstractStringBuilder" "length" "()I", Cond.instanceMethod ⟨"java/lang/AbstractStringBuilder", "length", "()I"⟩, Cond.selects RJ4 ⟨"java/lang/AbstractStringBuilder", "length", "()I"⟩ yJ4_length_8abf5, Cond.instanceMethod yJ4_length_8abf5, Cond.initialized RJ4]
def wsJ0_init_81219_r2 : List Cond := [Cond.code yJ4_length_8abf5 cJ4_length_8abf5 1 (some .int), Cond.methodLink RJ4 343 yJ5_length_8abf5, Cond.superclass RJ4 RJ5, Cond.instanceMethod yJ5_length_8abf5, Cond.code yJ5_length_8abf5 cJ5_length_8abf5 1 (some .int), Cond.fieldLink RJ5 79 "java/lang/AbstractStringBuilder" "count" "I", Cond.methodLink RJ0 1047 ⟨"java/lang/AbstractStringBuilder", "isLatin1", "()Z"⟩, Cond.sameMethod "java/lang/AbstractStringBuilder" "java/lang/AbstractStringBuilder" "isLatin1" "()Z", Cond.selects RJ4 ⟨"java/lang/AbstractStringBuilder", "isLatin1", "()Z"⟩ yJ5_isLatin1_aae02, Cond.instanceMethod yJ5_isLatin1_aae02, Cond.code yJ5_isLatin1_aae02 cJ5_isLatin1_aae02 1 (some .boolean), Cond.fieldLink RJ5 18 "java/lang/String" "COMPACT_STRINGS" "Z", Cond.fieldLink RJ5 22 "java/lang/AbstractStringBuilder" "coder" "B", Cond.methodLink RJ0 54 yJ7_copyOfRange_39247, Cond.static yJ7_copyOfRange_39247, Cond.initialized RJ7, Cond.code yJ7_copyOfRange_39247 cJ7_copyOfRange_39247 3 (some (.array .byte)), Cond.methodLink RJ7 310 ⟨"[B", "clone", "()Ljava/lang/Object;"⟩, Cond.sameMethod "[B" "java/lang/Object" "clone" "()Ljava/lang/Object;", Cond.native ⟨"java/lang/Object", "clone", "()Ljava/lang/Object;"⟩, Cond.instanceMethod ⟨"java/lang/Object", "clone", "()Ljava/lang/Object;"⟩, Cond.selects "[B" ⟨"[B", "clone", "()Ljava/lang/Object;"⟩ ⟨"java/lang/Object", "clone", "()Ljava/lang/Object;"⟩, Cond.classLink RJ7 311 "[B", Cond.methodLink RJ7 339 yJ7_copyOfRangeByte_39247]
def wsJ0_init_81219_r3 : List Cond := [Cond.static yJ7_copyOfRangeByte_39247, Cond.code yJ7_copyOfRangeByte_39247 cJ7_copyOfRangeByte_39247 5 (some (.array .byte)), Cond.arrayClass .byte, Cond.methodLink RJ7 304 Lib.Math.min.name, Cond.static Lib.Math.min.name, Cond.initialized "java/lang/Math", Cond.code Lib.Math.min.name Lib.Math.min.code 2 (some .int), Cond.methodLink RJ7 150 arraycopyName, Cond.native arraycopyName, Cond.static arraycopyName, Cond.initialized "java/lang/System", Cond.methodLink RJ7 343 yJ7_checkLength_df160, Cond.static yJ7_checkLength_df160, Cond.code yJ7_checkLength_df160 cJ7_checkLength_df160 2 none, Cond.classLink RJ7 45 RJ4, Cond.instantiable RJ4 4, Cond.methodLink RJ0 1051 yJ2_compress_39247, Cond.static yJ2_compress_39247, Cond.initialized RJ2, Cond.code yJ2_compress_39247 cJ2_compress_39247 6 (some (.array .byte)), Cond.methodLink RJ2 123 yJ2_compress_5af95, Cond.static yJ2_compress_5af95, Cond.code yJ2_compress_5af95 cJ2_compress_5af95 7 (some .int), Cond.methodLink RJ2 173 yJ2_checkBoundsOffCount_d044e]
def wsJ0_init_81219_r4 : List Cond := [Cond.static yJ2_checkBoundsOffCount_d044e, Cond.code yJ2_checkBoundsOffCount_d044e cJ2_checkBoundsOffCount_d044e 3 none, Cond.methodLink RJ2 48 yJ2_length_9d52b, Cond.static yJ2_length_9d52b, Cond.code yJ2_length_9d52b cJ2_length_9d52b 1 (some .int), Cond.methodLink RJ2 419 yJ0_checkBoundsOffCount_cabcc, Cond.static yJ0_checkBoundsOffCount_cabcc, Cond.code yJ0_checkBoundsOffCount_cabcc cJ0_checkBoundsOffCount_cabcc 3 (some .int), Cond.fieldLink RJ0 1053 "jdk/internal/util/Preconditions" "SIOOBE_FORMATTER" "Ljava/util/function/BiFunction;", Cond.methodLink RJ0 1065 yJ3_checkFromIndexSize_8c36e, Cond.static yJ3_checkFromIndexSize_8c36e, Cond.initialized RJ3, Cond.code yJ3_checkFromIndexSize_8c36e cJ3_checkFromIndexSize_8c36e 4 (some .int), Cond.methodLink RJ2 71 yJ2_getChar_3b067, Cond.static yJ2_getChar_3b067, Cond.code yJ2_getChar_3b067 cJ2_getChar_3b067 2 (some .char), Cond.fieldLink RJ2 44 "java/lang/StringUTF16" "$assertionsDisabled" "Z", Cond.fieldLink RJ2 59 "java/lang/StringUTF16" "HI_BYTE_SHIFT" "I", Cond.fieldLink RJ2 63 "java/lang/StringUTF16" "LO_BYTE_SHIFT" "I", Cond.methodLink RJ2 11 yJ2_newBytesLength_0f7a4, Cond.static yJ2_newBytesLength_0f7a4, Cond.code yJ2_newBytesLength_0f7a4 cJ2_newBytesLength_0f7a4 1 (some .int), Cond.constant RJ2 20 (1073741823), Cond.methodLink RJ2 126 yJ7_copyOfRange_39247]
def wsJ0_init_81219_r5 : List Cond := [Cond.methodLink RJ0 47 yJ2_coderFromArrayLen_85cad, Cond.static yJ2_coderFromArrayLen_85cad, Cond.code yJ2_coderFromArrayLen_85cad cJ2_coderFromArrayLen_85cad 2 (some .byte)]
def wsJ0_init_81219 : List Cond := .code yJ0_init_81219 cJ0_init_81219 2 none :: ((wsJ0_init_81219_r1 ++ (wsJ0_init_81219_r2 ++ (wsJ0_init_81219_r3 ++ (wsJ0_init_81219_r4 ++ wsJ0_init_81219_r5)))) ++ wsJ00 ++ wsJ40)
def wsJ4_toString_0e30d_r1 : List Cond := [Cond.classLink RJ4 18 RJ0, Cond.instantiable RJ0 4, Cond.initialized RJ0, Cond.methodLink RJ4 137 yJ0_init_81219, Cond.instanceMethod yJ0_init_81219, Cond.code yJ0_init_81219 cJ0_init_81219 2 none, Cond.methodLink RJ0 489 yJ0_init_db425, Cond.instanceMethod yJ0_init_db425, Cond.code yJ0_init_db425 cJ0_init_db425 5 none, Cond.methodLink RJ0 1 objectInit, Cond.instanceMethod objectInit, Cond.code objectInit ⟨#[0xb1]⟩ 1 none, Cond.fieldLink RJ0 15 "java/lang/String" "coder" "B", Cond.fieldLink RJ0 9 "java/lang/String" "value" "[B", Cond.fieldLink RJ0 38 "java/lang/String" "COMPACT_STRINGS" "Z", Cond.fieldLink RJ0 1048 "java/lang/AbstractStringBuilder" "maybeLatin1" "Z", Cond.methodLink RJ0 552 ⟨"java/lang/AbstractStringBuilder", "getValue", "()[B"⟩, Cond.sameMethod "java/lang/AbstractStringBuilder" "java/lang/AbstractStringBuilder" "getValue" "()[B", Cond.selects RJ4 ⟨"java/lang/AbstractStringBuilder", "getValue", "()[B"⟩ yJ5_getValue_6d5f1, Cond.instanceMethod yJ5_getValue_6d5f1, Cond.initialized RJ5, Cond.code yJ5_getValue_6d5f1 cJ5_getValue_6d5f1 1 (some (.array .byte)), Cond.fieldLink RJ5 15 "java/lang/AbstractStringBuilder" "value" "[B", Cond.methodLink RJ0 549 ⟨"java/lang/AbstractStringBuilder", "length", "()I"⟩]
def wsJ4_toString_0e30d_r2 : List Cond := [Cond.sameMethod "java/lang/AbstractStringBuilder" "java/lang/AbstractStringBuilder" "length" "()I", Cond.instanceMethod ⟨"java/lang/AbstractStringBuilder", "length", "()I"⟩, Cond.selects RJ4 ⟨"java/lang/AbstractStringBuilder", "length", "()I"⟩ yJ4_length_8abf5, Cond.instanceMethod yJ4_length_8abf5, Cond.initialized RJ4, Cond.code yJ4_length_8abf5 cJ4_length_8abf5 1 (some .int), Cond.methodLink RJ4 343 yJ5_length_8abf5, Cond.superclass RJ4 RJ5, Cond.instanceMethod yJ5_length_8abf5, Cond.code yJ5_length_8abf5 cJ5_length_8abf5 1 (some .int), Cond.fieldLink RJ5 79 "java/lang/AbstractStringBuilder" "count" "I", Cond.methodLink RJ0 1047 ⟨"java/lang/AbstractStringBuilder", "isLatin1", "()Z"⟩, Cond.sameMethod "java/lang/AbstractStringBuilder" "java/lang/AbstractStringBuilder" "isLatin1" "()Z", Cond.selects RJ4 ⟨"java/lang/AbstractStringBuilder", "isLatin1", "()Z"⟩ yJ5_isLatin1_aae02, Cond.instanceMethod yJ5_isLatin1_aae02, Cond.code yJ5_isLatin1_aae02 cJ5_isLatin1_aae02 1 (some .boolean), Cond.fieldLink RJ5 18 "java/lang/String" "COMPACT_STRINGS" "Z", Cond.fieldLink RJ5 22 "java/lang/AbstractStringBuilder" "coder" "B", Cond.methodLink RJ0 54 yJ7_copyOfRange_39247, Cond.static yJ7_copyOfRange_39247, Cond.initialized RJ7, Cond.code yJ7_copyOfRange_39247 cJ7_copyOfRange_39247 3 (some (.array .byte)), Cond.methodLink RJ7 310 ⟨"[B", "clone", "()Ljava/lang/Object;"⟩, Cond.sameMethod "[B" "java/lang/Object" "clone" "()Ljava/lang/Object;"]
def wsJ4_toString_0e30d_r3 : List Cond := [Cond.native ⟨"java/lang/Object", "clone", "()Ljava/lang/Object;"⟩, Cond.instanceMethod ⟨"java/lang/Object", "clone", "()Ljava/lang/Object;"⟩, Cond.selects "[B" ⟨"[B", "clone", "()Ljava/lang/Object;"⟩ ⟨"java/lang/Object", "clone", "()Ljava/lang/Object;"⟩, Cond.classLink RJ7 311 "[B", Cond.methodLink RJ7 339 yJ7_copyOfRangeByte_39247, Cond.static yJ7_copyOfRangeByte_39247, Cond.code yJ7_copyOfRangeByte_39247 cJ7_copyOfRangeByte_39247 5 (some (.array .byte)), Cond.arrayClass .byte, Cond.methodLink RJ7 304 Lib.Math.min.name, Cond.static Lib.Math.min.name, Cond.initialized "java/lang/Math", Cond.code Lib.Math.min.name Lib.Math.min.code 2 (some .int), Cond.methodLink RJ7 150 arraycopyName, Cond.native arraycopyName, Cond.static arraycopyName, Cond.initialized "java/lang/System", Cond.methodLink RJ7 343 yJ7_checkLength_df160, Cond.static yJ7_checkLength_df160, Cond.code yJ7_checkLength_df160 cJ7_checkLength_df160 2 none, Cond.classLink RJ7 45 RJ4, Cond.instantiable RJ4 4, Cond.methodLink RJ0 1051 yJ2_compress_39247, Cond.static yJ2_compress_39247, Cond.initialized RJ2]
def wsJ4_toString_0e30d_r4 : List Cond := [Cond.code yJ2_compress_39247 cJ2_compress_39247 6 (some (.array .byte)), Cond.methodLink RJ2 123 yJ2_compress_5af95, Cond.static yJ2_compress_5af95, Cond.code yJ2_compress_5af95 cJ2_compress_5af95 7 (some .int), Cond.methodLink RJ2 173 yJ2_checkBoundsOffCount_d044e, Cond.static yJ2_checkBoundsOffCount_d044e, Cond.code yJ2_checkBoundsOffCount_d044e cJ2_checkBoundsOffCount_d044e 3 none, Cond.methodLink RJ2 48 yJ2_length_9d52b, Cond.static yJ2_length_9d52b, Cond.code yJ2_length_9d52b cJ2_length_9d52b 1 (some .int), Cond.methodLink RJ2 419 yJ0_checkBoundsOffCount_cabcc, Cond.static yJ0_checkBoundsOffCount_cabcc, Cond.code yJ0_checkBoundsOffCount_cabcc cJ0_checkBoundsOffCount_cabcc 3 (some .int), Cond.fieldLink RJ0 1053 "jdk/internal/util/Preconditions" "SIOOBE_FORMATTER" "Ljava/util/function/BiFunction;", Cond.methodLink RJ0 1065 yJ3_checkFromIndexSize_8c36e, Cond.static yJ3_checkFromIndexSize_8c36e, Cond.initialized RJ3, Cond.code yJ3_checkFromIndexSize_8c36e cJ3_checkFromIndexSize_8c36e 4 (some .int), Cond.methodLink RJ2 71 yJ2_getChar_3b067, Cond.static yJ2_getChar_3b067, Cond.code yJ2_getChar_3b067 cJ2_getChar_3b067 2 (some .char), Cond.fieldLink RJ2 44 "java/lang/StringUTF16" "$assertionsDisabled" "Z", Cond.fieldLink RJ2 59 "java/lang/StringUTF16" "HI_BYTE_SHIFT" "I", Cond.fieldLink RJ2 63 "java/lang/StringUTF16" "LO_BYTE_SHIFT" "I"]
def wsJ4_toString_0e30d_r5 : List Cond := [Cond.methodLink RJ2 11 yJ2_newBytesLength_0f7a4, Cond.static yJ2_newBytesLength_0f7a4, Cond.code yJ2_newBytesLength_0f7a4 cJ2_newBytesLength_0f7a4 1 (some .int), Cond.constant RJ2 20 (1073741823), Cond.methodLink RJ2 126 yJ7_copyOfRange_39247, Cond.methodLink RJ0 47 yJ2_coderFromArrayLen_85cad, Cond.static yJ2_coderFromArrayLen_85cad, Cond.code yJ2_coderFromArrayLen_85cad cJ2_coderFromArrayLen_85cad 2 (some .byte)]
def wsJ4_toString_0e30d : List Cond := .code yJ4_toString_0e30d cJ4_toString_0e30d 1 (some (.object "java/lang/String")) :: ((wsJ4_toString_0e30d_r1 ++ (wsJ4_toString_0e30d_r2 ++ (wsJ4_toString_0e30d_r3 ++ (wsJ4_toString_0e30d_r4 ++ wsJ4_toString_0e30d_r5)))) ++ wsJ00 ++ wsJ40)
def wsX3_text_r1 : List Cond := [Cond.classLink RX3 52 RJ4, Cond.instantiable RJ4 4, Cond.initialized RJ4, Cond.methodLink RX3 54 yJ4_init_da8c8, Cond.instanceMethod yJ4_init_da8c8, Cond.code yJ4_init_da8c8 cJ4_init_da8c8 1 none, Cond.methodLink RJ4 1 yJ5_init_d00df, Cond.instanceMethod yJ5_init_d00df, Cond.initialized RJ5, Cond.code yJ5_init_d00df cJ5_init_d00df 2 none, Cond.methodLink RJ5 3 objectInit, Cond.instanceMethod objectInit, Cond.code objectInit ⟨#[0xb1]⟩ 1 none, Cond.fieldLink RJ5 18 "java/lang/String" "COMPACT_STRINGS" "Z", Cond.arrayClass .byte, Cond.fieldLink RJ5 15 "java/lang/AbstractStringBuilder" "value" "[B", Cond.fieldLink RJ5 22 "java/lang/AbstractStringBuilder" "coder" "B", Cond.methodLink RJ5 26 yJ2_newBytesFor_77867, Cond.static yJ2_newBytesFor_77867, Cond.initialized RJ2, Cond.code yJ2_newBytesFor_77867 cJ2_newBytesFor_77867 1 (some (.array .byte)), Cond.methodLink RJ2 11 yJ2_newBytesLength_0f7a4, Cond.static yJ2_newBytesLength_0f7a4, Cond.code yJ2_newBytesLength_0f7a4 cJ2_newBytesLength_0f7a4 1 (some .int)]
def wsX3_text_r2 : List Cond := [Cond.constant RJ2 20 (1073741823), Cond.methodLink RX3 55 yJ4_append_15ec4, Cond.instanceMethod yJ4_append_15ec4, Cond.selects RJ4 yJ4_append_15ec4 yJ4_append_15ec4, Cond.code yJ4_append_15ec4 cJ4_append_15ec4 2 (some (.object "java/lang/StringBuilder")), Cond.methodLink RJ4 29 yJ5_append_cf1ce, Cond.sameMethod "java/lang/AbstractStringBuilder" "java/lang/AbstractStringBuilder" "append" "(Ljava/lang/String;)Ljava/lang/AbstractStringBuilder;", Cond.superclass RJ4 RJ5, Cond.instanceMethod yJ5_append_cf1ce, Cond.code yJ5_append_cf1ce cJ5_append_cf1ce 3 (some (.object "java/lang/AbstractStringBuilder")), Cond.fieldLink RJ5 79 "java/lang/AbstractStringBuilder" "count" "I", Cond.methodLink RJ5 204 ⟨"java/lang/AbstractStringBuilder", "appendNull", "()Ljava/lang/AbstractStringBuilder;"⟩, Cond.sameMethod "java/lang/AbstractStringBuilder" "java/lang/AbstractStringBuilder" "appendNull" "()Ljava/lang/AbstractStringBuilder;", Cond.selects RJ4 ⟨"java/lang/AbstractStringBuilder", "appendNull", "()Ljava/lang/AbstractStringBuilder;"⟩ yJ5_appendNull_278bc, Cond.instanceMethod yJ5_appendNull_278bc, Cond.code yJ5_appendNull_278bc cJ5_appendNull_278bc 3 (some (.object "java/lang/AbstractStringBuilder")), Cond.methodLink RJ5 100 ⟨"java/lang/AbstractStringBuilder", "ensureCapacityInternal", "(I)V"⟩, Cond.sameMethod "java/lang/AbstractStringBuilder" "java/lang/AbstractStringBuilder" "ensureCapacityInternal" "(I)V", Cond.selects RJ4 ⟨"java/lang/AbstractStringBuilder", "ensureCapacityInternal", "(I)V"⟩ yJ5_ensureCapacityInternal_d00df, Cond.instanceMethod yJ5_ensureCapacityInternal_d00df, Cond.code yJ5_ensureCapacityInternal_d00df cJ5_ensureCapacityInternal_d00df 3 none, Cond.methodLink RJ5 104 ⟨"java/lang/AbstractStringBuilder", "newCapacity", "(I)I"⟩, Cond.sameMethod "java/lang/AbstractStringBuilder" "java/lang/AbstractStringBuilder" "newCapacity" "(I)I", Cond.selects RJ4 ⟨"java/lang/AbstractStringBuilder", "newCapacity", "(I)I"⟩ yJ5_newCapacity_0f7a4]
def wsX3_text_r3 : List Cond := [Cond.instanceMethod yJ5_newCapacity_0f7a4, Cond.code yJ5_newCapacity_0f7a4 cJ5_newCapacity_0f7a4 6 (some .int), Cond.constant RJ5 39 (2147483647), Cond.methodLink RJ5 114 yJ8_newLength_cabcc, Cond.static yJ8_newLength_cabcc, Cond.initialized RJ8, Cond.code yJ8_newLength_cabcc cJ8_newLength_cabcc 4 (some .int), Cond.methodLink RJ8 194 Lib.Math.max.name, Cond.static Lib.Math.max.name, Cond.initialized "java/lang/Math", Cond.code Lib.Math.max.name Lib.Math.max.code 2 (some .int), Cond.constant RJ8 200 (2147483639), Cond.methodLink RJ8 201 yJ8_hugeLength_7cf53, Cond.static yJ8_hugeLength_7cf53, Cond.code yJ8_hugeLength_7cf53 cJ8_hugeLength_7cf53 3 (some .int), Cond.methodLink RJ5 108 yJ7_copyOf_9075b, Cond.static yJ7_copyOf_9075b, Cond.initialized RJ7, Cond.code yJ7_copyOf_9075b cJ7_copyOf_9075b 3 (some (.array .byte)), Cond.methodLink RJ7 310 ⟨"[B", "clone", "()Ljava/lang/Object;"⟩, Cond.sameMethod "[B" "java/lang/Object" "clone" "()Ljava/lang/Object;", Cond.native ⟨"java/lang/Object", "clone", "()Ljava/lang/Object;"⟩, Cond.instanceMethod ⟨"java/lang/Object", "clone", "()Ljava/lang/Object;"⟩, Cond.selects "[B" ⟨"[B", "clone", "()Ljava/lang/Object;"⟩ ⟨"java/lang/Object", "clone", "()Ljava/lang/Object;"⟩]
def wsX3_text_r4 : List Cond := [Cond.classLink RJ7 311 "[B", Cond.methodLink RJ7 304 Lib.Math.min.name, Cond.static Lib.Math.min.name, Cond.code Lib.Math.min.name Lib.Math.min.code 2 (some .int), Cond.methodLink RJ7 150 arraycopyName, Cond.native arraycopyName, Cond.static arraycopyName, Cond.initialized "java/lang/System", Cond.methodLink RJ5 83 ⟨"java/lang/AbstractStringBuilder", "isLatin1", "()Z"⟩, Cond.sameMethod "java/lang/AbstractStringBuilder" "java/lang/AbstractStringBuilder" "isLatin1" "()Z", Cond.selects RJ4 ⟨"java/lang/AbstractStringBuilder", "isLatin1", "()Z"⟩ yJ5_isLatin1_aae02, Cond.instanceMethod yJ5_isLatin1_aae02, Cond.code yJ5_isLatin1_aae02 cJ5_isLatin1_aae02 1 (some .boolean), Cond.methodLink RJ5 226 yJ2_putCharsAt_cd4e5, Cond.static yJ2_putCharsAt_cd4e5, Cond.code yJ2_putCharsAt_cd4e5 cJ2_putCharsAt_cd4e5 7 (some .int), Cond.fieldLink RJ2 44 "java/lang/StringUTF16" "$assertionsDisabled" "Z", Cond.methodLink RJ2 96 yJ2_checkBoundsBeginEnd_d044e, Cond.static yJ2_checkBoundsBeginEnd_d044e, Cond.code yJ2_checkBoundsBeginEnd_d044e cJ2_checkBoundsBeginEnd_d044e 3 none, Cond.methodLink RJ2 48 yJ2_length_9d52b, Cond.static yJ2_length_9d52b, Cond.code yJ2_length_9d52b cJ2_length_9d52b 1 (some .int), Cond.methodLink RJ2 241 yJ0_checkBoundsBeginEnd_23922]
def wsX3_text_r5 : List Cond := [Cond.static yJ0_checkBoundsBeginEnd_23922, Cond.initialized RJ0, Cond.code yJ0_checkBoundsBeginEnd_23922 cJ0_checkBoundsBeginEnd_23922 3 none, Cond.fieldLink RJ0 1053 "jdk/internal/util/Preconditions" "SIOOBE_FORMATTER" "Ljava/util/function/BiFunction;", Cond.methodLink RJ0 1062 yJ3_checkFromToIndex_8c36e, Cond.static yJ3_checkFromToIndex_8c36e, Cond.initialized RJ3, Cond.code yJ3_checkFromToIndex_8c36e cJ3_checkFromToIndex_8c36e 4 (some .int), Cond.methodLink RJ2 111 yJ2_putChar_b72d1, Cond.static yJ2_putChar_b72d1, Cond.code yJ2_putChar_b72d1 cJ2_putChar_b72d1 3 none, Cond.fieldLink RJ2 59 "java/lang/StringUTF16" "HI_BYTE_SHIFT" "I", Cond.fieldLink RJ2 63 "java/lang/StringUTF16" "LO_BYTE_SHIFT" "I", Cond.methodLink RJ5 32 yJ0_length_8abf5, Cond.instanceMethod yJ0_length_8abf5, Cond.selects RJ0 yJ0_length_8abf5 yJ0_length_8abf5, Cond.code yJ0_length_8abf5 cJ0_length_8abf5 1 (some .int), Cond.fieldLink RJ0 9 "java/lang/String" "value" "[B", Cond.methodLink RJ0 335 yJ0_coder_7d493, Cond.instanceMethod yJ0_coder_7d493, Cond.selects RJ0 yJ0_coder_7d493 yJ0_coder_7d493, Cond.code yJ0_coder_7d493 cJ0_coder_7d493 1 (some .byte), Cond.fieldLink RJ0 38 "java/lang/String" "COMPACT_STRINGS" "Z", Cond.fieldLink RJ0 15 "java/lang/String" "coder" "B"]
def wsX3_text_r6 : List Cond := [Cond.methodLink RJ5 208 ⟨"java/lang/AbstractStringBuilder", "putStringAt", "(ILjava/lang/String;)V"⟩, Cond.sameMethod "java/lang/AbstractStringBuilder" "java/lang/AbstractStringBuilder" "putStringAt" "(ILjava/lang/String;)V", Cond.selects RJ4 ⟨"java/lang/AbstractStringBuilder", "putStringAt", "(ILjava/lang/String;)V"⟩ yJ5_putStringAt_47b60, Cond.instanceMethod yJ5_putStringAt_47b60, Cond.code yJ5_putStringAt_47b60 cJ5_putStringAt_47b60 3 none, Cond.methodLink RJ5 397 ⟨"java/lang/AbstractStringBuilder", "inflateIfNeededFor", "(Ljava/lang/String;)V"⟩, Cond.sameMethod "java/lang/AbstractStringBuilder" "java/lang/AbstractStringBuilder" "inflateIfNeededFor" "(Ljava/lang/String;)V", Cond.selects RJ4 ⟨"java/lang/AbstractStringBuilder", "inflateIfNeededFor", "(Ljava/lang/String;)V"⟩ yJ5_inflateIfNeededFor_a7421, Cond.instanceMethod yJ5_inflateIfNeededFor_a7421, Cond.code yJ5_inflateIfNeededFor_a7421 cJ5_inflateIfNeededFor_a7421 2 none, Cond.methodLink RJ5 40 yJ0_coder_7d493, Cond.methodLink RJ5 195 ⟨"java/lang/AbstractStringBuilder", "inflate", "()V"⟩, Cond.sameMethod "java/lang/AbstractStringBuilder" "java/lang/AbstractStringBuilder" "inflate" "()V", Cond.selects RJ4 ⟨"java/lang/AbstractStringBuilder", "inflate", "()V"⟩ yJ5_inflate_da8c8, Cond.instanceMethod yJ5_inflate_da8c8, Cond.code yJ5_inflate_da8c8 cJ5_inflate_da8c8 2 none, Cond.methodLink RJ5 125 yJ1_inflate_0e8fd, Cond.static yJ1_inflate_0e8fd, Cond.initialized RJ1, Cond.code yJ1_inflate_0e8fd cJ1_inflate_0e8fd 5 none, Cond.methodLink RJ1 240 yJ2_inflate_0e8fd, Cond.static yJ2_inflate_0e8fd, Cond.code yJ2_inflate_0e8fd cJ2_inflate_0e8fd 6 none, Cond.methodLink RJ2 173 yJ2_checkBoundsOffCount_d044e]
def wsX3_text_r7 : List Cond := [Cond.static yJ2_checkBoundsOffCount_d044e, Cond.code yJ2_checkBoundsOffCount_d044e cJ2_checkBoundsOffCount_d044e 3 none, Cond.methodLink RJ2 419 yJ0_checkBoundsOffCount_cabcc, Cond.static yJ0_checkBoundsOffCount_cabcc, Cond.code yJ0_checkBoundsOffCount_cabcc cJ0_checkBoundsOffCount_cabcc 3 (some .int), Cond.methodLink RJ0 1065 yJ3_checkFromIndexSize_8c36e, Cond.static yJ3_checkFromIndexSize_8c36e, Cond.code yJ3_checkFromIndexSize_8c36e cJ3_checkFromIndexSize_8c36e 4 (some .int), Cond.methodLink RJ5 399 yJ0_getBytes_840e7, Cond.instanceMethod yJ0_getBytes_840e7, Cond.selects RJ0 yJ0_getBytes_840e7 yJ0_getBytes_840e7, Cond.code yJ0_getBytes_840e7 cJ0_getBytes_840e7 4 none, Cond.methodLink RJ0 212 arraycopyName, Cond.methodLink RJ0 106 yJ1_inflate_0e8fd, Cond.methodLink RX3 59 yJ4_append_cf468, Cond.instanceMethod yJ4_append_cf468, Cond.selects RJ4 yJ4_append_cf468 yJ4_append_cf468, Cond.code yJ4_append_cf468 cJ4_append_cf468 2 (some (.object "java/lang/StringBuilder")), Cond.methodLink RJ4 50 yJ5_append_3fe6f, Cond.sameMethod "java/lang/AbstractStringBuilder" "java/lang/AbstractStringBuilder" "append" "(C)Ljava/lang/AbstractStringBuilder;", Cond.instanceMethod yJ5_append_3fe6f, Cond.code yJ5_append_3fe6f cJ5_append_3fe6f 2 (some (.object "java/lang/AbstractStringBuilder")), Cond.methodLink RJ5 191 yJ1_canEncode_fc78d, Cond.static yJ1_canEncode_fc78d]
def wsX3_text_r8 : List Cond := [Cond.code yJ1_canEncode_fc78d cJ1_canEncode_fc78d 1 (some .boolean), Cond.methodLink RJ5 197 yJ2_putCharSB_b72d1, Cond.static yJ2_putCharSB_b72d1, Cond.code yJ2_putCharSB_b72d1 cJ2_putCharSB_b72d1 3 none, Cond.methodLink RJ2 67 yJ2_checkIndex_2214a, Cond.static yJ2_checkIndex_2214a, Cond.code yJ2_checkIndex_2214a cJ2_checkIndex_2214a 2 none, Cond.methodLink RJ2 414 yJ0_checkIndex_df160, Cond.static yJ0_checkIndex_df160, Cond.code yJ0_checkIndex_df160 cJ0_checkIndex_df160 2 none, Cond.methodLink RJ0 1059 yJ3_checkIndex_8e157, Cond.static yJ3_checkIndex_8e157, Cond.code yJ3_checkIndex_8e157 cJ3_checkIndex_8e157 3 (some .int), Cond.methodLink RX3 62 yJ4_toString_0e30d, Cond.instanceMethod yJ4_toString_0e30d, Cond.selects RJ4 yJ4_toString_0e30d yJ4_toString_0e30d, Cond.code yJ4_toString_0e30d cJ4_toString_0e30d 1 (some (.object "java/lang/String")), Cond.classLink RJ4 18 RJ0, Cond.instantiable RJ0 4, Cond.methodLink RJ4 137 yJ0_init_81219, Cond.instanceMethod yJ0_init_81219, Cond.code yJ0_init_81219 cJ0_init_81219 2 none, Cond.methodLink RJ0 489 yJ0_init_db425, Cond.instanceMethod yJ0_init_db425]
def wsX3_text_r9 : List Cond := [Cond.code yJ0_init_db425 cJ0_init_db425 5 none, Cond.methodLink RJ0 1 objectInit, Cond.fieldLink RJ0 1048 "java/lang/AbstractStringBuilder" "maybeLatin1" "Z", Cond.methodLink RJ0 552 ⟨"java/lang/AbstractStringBuilder", "getValue", "()[B"⟩, Cond.sameMethod "java/lang/AbstractStringBuilder" "java/lang/AbstractStringBuilder" "getValue" "()[B", Cond.selects RJ4 ⟨"java/lang/AbstractStringBuilder", "getValue", "()[B"⟩ yJ5_getValue_6d5f1, Cond.instanceMethod yJ5_getValue_6d5f1, Cond.code yJ5_getValue_6d5f1 cJ5_getValue_6d5f1 1 (some (.array .byte)), Cond.methodLink RJ0 549 ⟨"java/lang/AbstractStringBuilder", "length", "()I"⟩, Cond.sameMethod "java/lang/AbstractStringBuilder" "java/lang/AbstractStringBuilder" "length" "()I", Cond.instanceMethod ⟨"java/lang/AbstractStringBuilder", "length", "()I"⟩, Cond.selects RJ4 ⟨"java/lang/AbstractStringBuilder", "length", "()I"⟩ yJ4_length_8abf5, Cond.instanceMethod yJ4_length_8abf5, Cond.code yJ4_length_8abf5 cJ4_length_8abf5 1 (some .int), Cond.methodLink RJ4 343 yJ5_length_8abf5, Cond.instanceMethod yJ5_length_8abf5, Cond.code yJ5_length_8abf5 cJ5_length_8abf5 1 (some .int), Cond.methodLink RJ0 1047 ⟨"java/lang/AbstractStringBuilder", "isLatin1", "()Z"⟩, Cond.methodLink RJ0 54 yJ7_copyOfRange_39247, Cond.static yJ7_copyOfRange_39247, Cond.code yJ7_copyOfRange_39247 cJ7_copyOfRange_39247 3 (some (.array .byte)), Cond.methodLink RJ7 339 yJ7_copyOfRangeByte_39247, Cond.static yJ7_copyOfRangeByte_39247, Cond.code yJ7_copyOfRangeByte_39247 cJ7_copyOfRangeByte_39247 5 (some (.array .byte))]
def wsX3_text_r10 : List Cond := [Cond.methodLink RJ7 343 yJ7_checkLength_df160, Cond.static yJ7_checkLength_df160, Cond.code yJ7_checkLength_df160 cJ7_checkLength_df160 2 none, Cond.classLink RJ7 45 RJ4, Cond.methodLink RJ0 1051 yJ2_compress_39247, Cond.static yJ2_compress_39247, Cond.code yJ2_compress_39247 cJ2_compress_39247 6 (some (.array .byte)), Cond.methodLink RJ2 123 yJ2_compress_5af95, Cond.static yJ2_compress_5af95, Cond.code yJ2_compress_5af95 cJ2_compress_5af95 7 (some .int), Cond.methodLink RJ2 71 yJ2_getChar_3b067, Cond.static yJ2_getChar_3b067, Cond.code yJ2_getChar_3b067 cJ2_getChar_3b067 2 (some .char), Cond.methodLink RJ2 126 yJ7_copyOfRange_39247, Cond.methodLink RJ0 47 yJ2_coderFromArrayLen_85cad, Cond.static yJ2_coderFromArrayLen_85cad, Cond.code yJ2_coderFromArrayLen_85cad cJ2_coderFromArrayLen_85cad 2 (some .byte)]
def wsX3_text : List Cond := .code yX3_text cX3_text 6 (some (.object "java/lang/String")) :: ((wsX3_text_r1 ++ (wsX3_text_r2 ++ (wsX3_text_r3 ++ (wsX3_text_r4 ++ (wsX3_text_r5 ++ (wsX3_text_r6 ++ (wsX3_text_r7 ++ (wsX3_text_r8 ++ (wsX3_text_r9 ++ wsX3_text_r10))))))))) ++ wsJ40 ++ wsJ00)
def wsX3_part : List Cond := .code yX3_part cX3_part 5 (some (.array .int)) :: ([.arrayClass .int])
def wsX3_joined : List Cond := .code yX3_joined cX3_joined 4 (some (.array .int)) :: ([.arrayClass .int])
def wsX3_setLength_r1 : List Cond := [Cond.constantLong RX3 143 (200), Cond.fieldLink RX3 11 "TapebufferModel" "tapes" "[[I", Cond.arrayClass .int, Cond.methodLink RX3 36 yX3_isNoTape, Cond.static yX3_isNoTape, Cond.initialized RX3, Cond.code yX3_isNoTape cX3_isNoTape 1 (some .boolean), Cond.constantLong RX3 26 (3), Cond.methodLink RX3 28 yX3_isIn, Cond.static yX3_isIn, Cond.code yX3_isIn cX3_isIn 6 (some .boolean), Cond.methodLink RX3 104 yX3_start, Cond.instanceMethod yX3_start, Cond.selects RX3 yX3_start yX3_start, Cond.code yX3_start cX3_start 3 (some .boolean), Cond.fieldLink RX3 18 "TapebufferModel" "thrown" "I", Cond.methodLink RX3 22 yX3_refuse, Cond.instanceMethod yX3_refuse, Cond.selects RX3 yX3_refuse yX3_refuse, Cond.code yX3_refuse cX3_refuse 3 (some .boolean), Cond.methodLink RX3 96 yX3_joined, Cond.static yX3_joined, Cond.code yX3_joined cX3_joined 4 (some (.array .int)), Cond.methodLink RX3 89 yX3_part]
def wsX3_setLength_r2 : List Cond := [Cond.static yX3_part, Cond.code yX3_part cX3_part 5 (some (.array .int))]
def wsX3_setLength : List Cond := .code yX3_setLength cX3_setLength 4 (some .int) :: ((wsX3_setLength_r1 ++ wsX3_setLength_r2) ++ wsX30)
def wsX3_text__r1 : List Cond := [Cond.fieldLink RX3 11 "TapebufferModel" "tapes" "[[I", Cond.methodLink RX3 36 yX3_isNoTape, Cond.static yX3_isNoTape, Cond.initialized RX3, Cond.code yX3_isNoTape cX3_isNoTape 1 (some .boolean), Cond.constantLong RX3 26 (3), Cond.methodLink RX3 28 yX3_isIn, Cond.static yX3_isIn, Cond.code yX3_isIn cX3_isIn 6 (some .boolean), Cond.methodLink RX3 104 yX3_start, Cond.instanceMethod yX3_start, Cond.selects RX3 yX3_start yX3_start, Cond.code yX3_start cX3_start 3 (some .boolean), Cond.fieldLink RX3 18 "TapebufferModel" "thrown" "I", Cond.methodLink RX3 22 yX3_refuse, Cond.instanceMethod yX3_refuse, Cond.selects RX3 yX3_refuse yX3_refuse, Cond.code yX3_refuse cX3_refuse 3 (some .boolean), Cond.methodLink RX3 161 yX3_text, Cond.static yX3_text, Cond.code yX3_text cX3_text 6 (some (.object "java/lang/String")), Cond.classLink RX3 52 RJ4, Cond.instantiable RJ4 4, Cond.initialized RJ4]
def wsX3_text__r2 : List Cond := [Cond.methodLink RX3 54 yJ4_init_da8c8, Cond.instanceMethod yJ4_init_da8c8, Cond.code yJ4_init_da8c8 cJ4_init_da8c8 1 none, Cond.methodLink RJ4 1 yJ5_init_d00df, Cond.instanceMethod yJ5_init_d00df, Cond.initialized RJ5, Cond.code yJ5_init_d00df cJ5_init_d00df 2 none, Cond.methodLink RJ5 3 objectInit, Cond.instanceMethod objectInit, Cond.code objectInit ⟨#[0xb1]⟩ 1 none, Cond.fieldLink RJ5 18 "java/lang/String" "COMPACT_STRINGS" "Z", Cond.arrayClass .byte, Cond.fieldLink RJ5 15 "java/lang/AbstractStringBuilder" "value" "[B", Cond.fieldLink RJ5 22 "java/lang/AbstractStringBuilder" "coder" "B", Cond.methodLink RJ5 26 yJ2_newBytesFor_77867, Cond.static yJ2_newBytesFor_77867, Cond.initialized RJ2, Cond.code yJ2_newBytesFor_77867 cJ2_newBytesFor_77867 1 (some (.array .byte)), Cond.methodLink RJ2 11 yJ2_newBytesLength_0f7a4, Cond.static yJ2_newBytesLength_0f7a4, Cond.code yJ2_newBytesLength_0f7a4 cJ2_newBytesLength_0f7a4 1 (some .int), Cond.constant RJ2 20 (1073741823), Cond.methodLink RX3 55 yJ4_append_15ec4, Cond.instanceMethod yJ4_append_15ec4]
def wsX3_text__r3 : List Cond := [Cond.selects RJ4 yJ4_append_15ec4 yJ4_append_15ec4, Cond.code yJ4_append_15ec4 cJ4_append_15ec4 2 (some (.object "java/lang/StringBuilder")), Cond.methodLink RJ4 29 yJ5_append_cf1ce, Cond.sameMethod "java/lang/AbstractStringBuilder" "java/lang/AbstractStringBuilder" "append" "(Ljava/lang/String;)Ljava/lang/AbstractStringBuilder;", Cond.superclass RJ4 RJ5, Cond.instanceMethod yJ5_append_cf1ce, Cond.code yJ5_append_cf1ce cJ5_append_cf1ce 3 (some (.object "java/lang/AbstractStringBuilder")), Cond.fieldLink RJ5 79 "java/lang/AbstractStringBuilder" "count" "I", Cond.methodLink RJ5 204 ⟨"java/lang/AbstractStringBuilder", "appendNull", "()Ljava/lang/AbstractStringBuilder;"⟩, Cond.sameMethod "java/lang/AbstractStringBuilder" "java/lang/AbstractStringBuilder" "appendNull" "()Ljava/lang/AbstractStringBuilder;", Cond.selects RJ4 ⟨"java/lang/AbstractStringBuilder", "appendNull", "()Ljava/lang/AbstractStringBuilder;"⟩ yJ5_appendNull_278bc, Cond.instanceMethod yJ5_appendNull_278bc, Cond.code yJ5_appendNull_278bc cJ5_appendNull_278bc 3 (some (.object "java/lang/AbstractStringBuilder")), Cond.methodLink RJ5 100 ⟨"java/lang/AbstractStringBuilder", "ensureCapacityInternal", "(I)V"⟩, Cond.sameMethod "java/lang/AbstractStringBuilder" "java/lang/AbstractStringBuilder" "ensureCapacityInternal" "(I)V", Cond.selects RJ4 ⟨"java/lang/AbstractStringBuilder", "ensureCapacityInternal", "(I)V"⟩ yJ5_ensureCapacityInternal_d00df, Cond.instanceMethod yJ5_ensureCapacityInternal_d00df, Cond.code yJ5_ensureCapacityInternal_d00df cJ5_ensureCapacityInternal_d00df 3 none, Cond.methodLink RJ5 104 ⟨"java/lang/AbstractStringBuilder", "newCapacity", "(I)I"⟩, Cond.sameMethod "java/lang/AbstractStringBuilder" "java/lang/AbstractStringBuilder" "newCapacity" "(I)I", Cond.selects RJ4 ⟨"java/lang/AbstractStringBuilder", "newCapacity", "(I)I"⟩ yJ5_newCapacity_0f7a4, Cond.instanceMethod yJ5_newCapacity_0f7a4, Cond.code yJ5_newCapacity_0f7a4 cJ5_newCapacity_0f7a4 6 (some .int), Cond.constant RJ5 39 (2147483647)]
def wsX3_text__r4 : List Cond := [Cond.methodLink RJ5 114 yJ8_newLength_cabcc, Cond.static yJ8_newLength_cabcc, Cond.initialized RJ8, Cond.code yJ8_newLength_cabcc cJ8_newLength_cabcc 4 (some .int), Cond.methodLink RJ8 194 Lib.Math.max.name, Cond.static Lib.Math.max.name, Cond.initialized "java/lang/Math", Cond.code Lib.Math.max.name Lib.Math.max.code 2 (some .int), Cond.constant RJ8 200 (2147483639), Cond.methodLink RJ8 201 yJ8_hugeLength_7cf53, Cond.static yJ8_hugeLength_7cf53, Cond.code yJ8_hugeLength_7cf53 cJ8_hugeLength_7cf53 3 (some .int), Cond.methodLink RJ5 108 yJ7_copyOf_9075b, Cond.static yJ7_copyOf_9075b, Cond.initialized RJ7, Cond.code yJ7_copyOf_9075b cJ7_copyOf_9075b 3 (some (.array .byte)), Cond.methodLink RJ7 310 ⟨"[B", "clone", "()Ljava/lang/Object;"⟩, Cond.sameMethod "[B" "java/lang/Object" "clone" "()Ljava/lang/Object;", Cond.native ⟨"java/lang/Object", "clone", "()Ljava/lang/Object;"⟩, Cond.instanceMethod ⟨"java/lang/Object", "clone", "()Ljava/lang/Object;"⟩, Cond.selects "[B" ⟨"[B", "clone", "()Ljava/lang/Object;"⟩ ⟨"java/lang/Object", "clone", "()Ljava/lang/Object;"⟩, Cond.classLink RJ7 311 "[B", Cond.methodLink RJ7 304 Lib.Math.min.name, Cond.static Lib.Math.min.name]
def wsX3_text__r5 : List Cond := [Cond.code Lib.Math.min.name Lib.Math.min.code 2 (some .int), Cond.methodLink RJ7 150 arraycopyName, Cond.native arraycopyName, Cond.static arraycopyName, Cond.initialized "java/lang/System", Cond.methodLink RJ5 83 ⟨"java/lang/AbstractStringBuilder", "isLatin1", "()Z"⟩, Cond.sameMethod "java/lang/AbstractStringBuilder" "java/lang/AbstractStringBuilder" "isLatin1" "()Z", Cond.selects RJ4 ⟨"java/lang/AbstractStringBuilder", "isLatin1", "()Z"⟩ yJ5_isLatin1_aae02, Cond.instanceMethod yJ5_isLatin1_aae02, Cond.code yJ5_isLatin1_aae02 cJ5_isLatin1_aae02 1 (some .boolean), Cond.methodLink RJ5 226 yJ2_putCharsAt_cd4e5, Cond.static yJ2_putCharsAt_cd4e5, Cond.code yJ2_putCharsAt_cd4e5 cJ2_putCharsAt_cd4e5 7 (some .int), Cond.fieldLink RJ2 44 "java/lang/StringUTF16" "$assertionsDisabled" "Z", Cond.methodLink RJ2 96 yJ2_checkBoundsBeginEnd_d044e, Cond.static yJ2_checkBoundsBeginEnd_d044e, Cond.code yJ2_checkBoundsBeginEnd_d044e cJ2_checkBoundsBeginEnd_d044e 3 none, Cond.methodLink RJ2 48 yJ2_length_9d52b, Cond.static yJ2_length_9d52b, Cond.code yJ2_length_9d52b cJ2_length_9d52b 1 (some .int), Cond.methodLink RJ2 241 yJ0_checkBoundsBeginEnd_23922, Cond.static yJ0_checkBoundsBeginEnd_23922, Cond.initialized RJ0, Cond.code yJ0_checkBoundsBeginEnd_23922 cJ0_checkBoundsBeginEnd_23922 3 none]
def wsX3_text__r6 : List Cond := [Cond.fieldLink RJ0 1053 "jdk/internal/util/Preconditions" "SIOOBE_FORMATTER" "Ljava/util/function/BiFunction;", Cond.methodLink RJ0 1062 yJ3_checkFromToIndex_8c36e, Cond.static yJ3_checkFromToIndex_8c36e, Cond.initialized RJ3, Cond.code yJ3_checkFromToIndex_8c36e cJ3_checkFromToIndex_8c36e 4 (some .int), Cond.methodLink RJ2 111 yJ2_putChar_b72d1, Cond.static yJ2_putChar_b72d1, Cond.code yJ2_putChar_b72d1 cJ2_putChar_b72d1 3 none, Cond.fieldLink RJ2 59 "java/lang/StringUTF16" "HI_BYTE_SHIFT" "I", Cond.fieldLink RJ2 63 "java/lang/StringUTF16" "LO_BYTE_SHIFT" "I", Cond.methodLink RJ5 32 yJ0_length_8abf5, Cond.instanceMethod yJ0_length_8abf5, Cond.selects RJ0 yJ0_length_8abf5 yJ0_length_8abf5, Cond.code yJ0_length_8abf5 cJ0_length_8abf5 1 (some .int), Cond.fieldLink RJ0 9 "java/lang/String" "value" "[B", Cond.methodLink RJ0 335 yJ0_coder_7d493, Cond.instanceMethod yJ0_coder_7d493, Cond.selects RJ0 yJ0_coder_7d493 yJ0_coder_7d493, Cond.code yJ0_coder_7d493 cJ0_coder_7d493 1 (some .byte), Cond.fieldLink RJ0 38 "java/lang/String" "COMPACT_STRINGS" "Z", Cond.fieldLink RJ0 15 "java/lang/String" "coder" "B", Cond.methodLink RJ5 208 ⟨"java/lang/AbstractStringBuilder", "putStringAt", "(ILjava/lang/String;)V"⟩, Cond.sameMethod "java/lang/AbstractStringBuilder" "java/lang/AbstractStringBuilder" "putStringAt" "(ILjava/lang/String;)V", Cond.selects RJ4 ⟨"java/lang/AbstractStringBuilder", "putStringAt", "(ILjava/lang/String;)V"⟩ yJ5_putStringAt_47b60]
def wsX3_text__r7 : List Cond := [Cond.instanceMethod yJ5_putStringAt_47b60, Cond.code yJ5_putStringAt_47b60 cJ5_putStringAt_47b60 3 none, Cond.methodLink RJ5 397 ⟨"java/lang/AbstractStringBuilder", "inflateIfNeededFor", "(Ljava/lang/String;)V"⟩, Cond.sameMethod "java/lang/AbstractStringBuilder" "java/lang/AbstractStringBuilder" "inflateIfNeededFor" "(Ljava/lang/String;)V", Cond.selects RJ4 ⟨"java/lang/AbstractStringBuilder", "inflateIfNeededFor", "(Ljava/lang/String;)V"⟩ yJ5_inflateIfNeededFor_a7421, Cond.instanceMethod yJ5_inflateIfNeededFor_a7421, Cond.code yJ5_inflateIfNeededFor_a7421 cJ5_inflateIfNeededFor_a7421 2 none, Cond.methodLink RJ5 40 yJ0_coder_7d493, Cond.methodLink RJ5 195 ⟨"java/lang/AbstractStringBuilder", "inflate", "()V"⟩, Cond.sameMethod "java/lang/AbstractStringBuilder" "java/lang/AbstractStringBuilder" "inflate" "()V", Cond.selects RJ4 ⟨"java/lang/AbstractStringBuilder", "inflate", "()V"⟩ yJ5_inflate_da8c8, Cond.instanceMethod yJ5_inflate_da8c8, Cond.code yJ5_inflate_da8c8 cJ5_inflate_da8c8 2 none, Cond.methodLink RJ5 125 yJ1_inflate_0e8fd, Cond.static yJ1_inflate_0e8fd, Cond.initialized RJ1, Cond.code yJ1_inflate_0e8fd cJ1_inflate_0e8fd 5 none, Cond.methodLink RJ1 240 yJ2_inflate_0e8fd, Cond.static yJ2_inflate_0e8fd, Cond.code yJ2_inflate_0e8fd cJ2_inflate_0e8fd 6 none, Cond.methodLink RJ2 173 yJ2_checkBoundsOffCount_d044e, Cond.static yJ2_checkBoundsOffCount_d044e, Cond.code yJ2_checkBoundsOffCount_d044e cJ2_checkBoundsOffCount_d044e 3 none, Cond.methodLink RJ2 419 yJ0_checkBoundsOffCount_cabcc]
def wsX3_text__r8 : List Cond := [Cond.static yJ0_checkBoundsOffCount_cabcc, Cond.code yJ0_checkBoundsOffCount_cabcc cJ0_checkBoundsOffCount_cabcc 3 (some .int), Cond.methodLink RJ0 1065 yJ3_checkFromIndexSize_8c36e, Cond.static yJ3_checkFromIndexSize_8c36e, Cond.code yJ3_checkFromIndexSize_8c36e cJ3_checkFromIndexSize_8c36e 4 (some .int), Cond.methodLink RJ5 399 yJ0_getBytes_840e7, Cond.instanceMethod yJ0_getBytes_840e7, Cond.selects RJ0 yJ0_getBytes_840e7 yJ0_getBytes_840e7, Cond.code yJ0_getBytes_840e7 cJ0_getBytes_840e7 4 none, Cond.methodLink RJ0 212 arraycopyName, Cond.methodLink RJ0 106 yJ1_inflate_0e8fd, Cond.methodLink RX3 59 yJ4_append_cf468, Cond.instanceMethod yJ4_append_cf468, Cond.selects RJ4 yJ4_append_cf468 yJ4_append_cf468, Cond.code yJ4_append_cf468 cJ4_append_cf468 2 (some (.object "java/lang/StringBuilder")), Cond.methodLink RJ4 50 yJ5_append_3fe6f, Cond.sameMethod "java/lang/AbstractStringBuilder" "java/lang/AbstractStringBuilder" "append" "(C)Ljava/lang/AbstractStringBuilder;", Cond.instanceMethod yJ5_append_3fe6f, Cond.code yJ5_append_3fe6f cJ5_append_3fe6f 2 (some (.object "java/lang/AbstractStringBuilder")), Cond.methodLink RJ5 191 yJ1_canEncode_fc78d, Cond.static yJ1_canEncode_fc78d, Cond.code yJ1_canEncode_fc78d cJ1_canEncode_fc78d 1 (some .boolean), Cond.methodLink RJ5 197 yJ2_putCharSB_b72d1, Cond.static yJ2_putCharSB_b72d1]
def wsX3_text__r9 : List Cond := [Cond.code yJ2_putCharSB_b72d1 cJ2_putCharSB_b72d1 3 none, Cond.methodLink RJ2 67 yJ2_checkIndex_2214a, Cond.static yJ2_checkIndex_2214a, Cond.code yJ2_checkIndex_2214a cJ2_checkIndex_2214a 2 none, Cond.methodLink RJ2 414 yJ0_checkIndex_df160, Cond.static yJ0_checkIndex_df160, Cond.code yJ0_checkIndex_df160 cJ0_checkIndex_df160 2 none, Cond.methodLink RJ0 1059 yJ3_checkIndex_8e157, Cond.static yJ3_checkIndex_8e157, Cond.code yJ3_checkIndex_8e157 cJ3_checkIndex_8e157 3 (some .int), Cond.methodLink RX3 62 yJ4_toString_0e30d, Cond.instanceMethod yJ4_toString_0e30d, Cond.selects RJ4 yJ4_toString_0e30d yJ4_toString_0e30d, Cond.code yJ4_toString_0e30d cJ4_toString_0e30d 1 (some (.object "java/lang/String")), Cond.classLink RJ4 18 RJ0, Cond.instantiable RJ0 4, Cond.methodLink RJ4 137 yJ0_init_81219, Cond.instanceMethod yJ0_init_81219, Cond.code yJ0_init_81219 cJ0_init_81219 2 none, Cond.methodLink RJ0 489 yJ0_init_db425, Cond.instanceMethod yJ0_init_db425, Cond.code yJ0_init_db425 cJ0_init_db425 5 none, Cond.methodLink RJ0 1 objectInit, Cond.fieldLink RJ0 1048 "java/lang/AbstractStringBuilder" "maybeLatin1" "Z"]
def wsX3_text__r10 : List Cond := [Cond.methodLink RJ0 552 ⟨"java/lang/AbstractStringBuilder", "getValue", "()[B"⟩, Cond.sameMethod "java/lang/AbstractStringBuilder" "java/lang/AbstractStringBuilder" "getValue" "()[B", Cond.selects RJ4 ⟨"java/lang/AbstractStringBuilder", "getValue", "()[B"⟩ yJ5_getValue_6d5f1, Cond.instanceMethod yJ5_getValue_6d5f1, Cond.code yJ5_getValue_6d5f1 cJ5_getValue_6d5f1 1 (some (.array .byte)), Cond.methodLink RJ0 549 ⟨"java/lang/AbstractStringBuilder", "length", "()I"⟩, Cond.sameMethod "java/lang/AbstractStringBuilder" "java/lang/AbstractStringBuilder" "length" "()I", Cond.instanceMethod ⟨"java/lang/AbstractStringBuilder", "length", "()I"⟩, Cond.selects RJ4 ⟨"java/lang/AbstractStringBuilder", "length", "()I"⟩ yJ4_length_8abf5, Cond.instanceMethod yJ4_length_8abf5, Cond.code yJ4_length_8abf5 cJ4_length_8abf5 1 (some .int), Cond.methodLink RJ4 343 yJ5_length_8abf5, Cond.instanceMethod yJ5_length_8abf5, Cond.code yJ5_length_8abf5 cJ5_length_8abf5 1 (some .int), Cond.methodLink RJ0 1047 ⟨"java/lang/AbstractStringBuilder", "isLatin1", "()Z"⟩, Cond.methodLink RJ0 54 yJ7_copyOfRange_39247, Cond.static yJ7_copyOfRange_39247, Cond.code yJ7_copyOfRange_39247 cJ7_copyOfRange_39247 3 (some (.array .byte)), Cond.methodLink RJ7 339 yJ7_copyOfRangeByte_39247, Cond.static yJ7_copyOfRangeByte_39247, Cond.code yJ7_copyOfRangeByte_39247 cJ7_copyOfRangeByte_39247 5 (some (.array .byte)), Cond.methodLink RJ7 343 yJ7_checkLength_df160, Cond.static yJ7_checkLength_df160, Cond.code yJ7_checkLength_df160 cJ7_checkLength_df160 2 none]
def wsX3_text__r11 : List Cond := [Cond.classLink RJ7 45 RJ4, Cond.methodLink RJ0 1051 yJ2_compress_39247, Cond.static yJ2_compress_39247, Cond.code yJ2_compress_39247 cJ2_compress_39247 6 (some (.array .byte)), Cond.methodLink RJ2 123 yJ2_compress_5af95, Cond.static yJ2_compress_5af95, Cond.code yJ2_compress_5af95 cJ2_compress_5af95 7 (some .int), Cond.methodLink RJ2 71 yJ2_getChar_3b067, Cond.static yJ2_getChar_3b067, Cond.code yJ2_getChar_3b067 cJ2_getChar_3b067 2 (some .char), Cond.methodLink RJ2 126 yJ7_copyOfRange_39247, Cond.methodLink RJ0 47 yJ2_coderFromArrayLen_85cad, Cond.static yJ2_coderFromArrayLen_85cad, Cond.code yJ2_coderFromArrayLen_85cad cJ2_coderFromArrayLen_85cad 2 (some .byte)]
def wsX3_text_ : List Cond := .code yX3_text_ cX3_text_ 2 (some (.object "java/lang/String")) :: ((wsX3_text__r1 ++ (wsX3_text__r2 ++ (wsX3_text__r3 ++ (wsX3_text__r4 ++ (wsX3_text__r5 ++ (wsX3_text__r6 ++ (wsX3_text__r7 ++ (wsX3_text__r8 ++ (wsX3_text__r9 ++ (wsX3_text__r10 ++ wsX3_text__r11)))))))))) ++ wsX30 ++ wsJ40 ++ wsJ00)
def wsL_setLength_r1 : List Cond := [Cond.classLink RL 19 "java/lang/IndexOutOfBoundsException", Cond.classLink RL 21 "java/lang/IllegalArgumentException", Cond.methodLink RL 77 yX1_setLength, Cond.instanceMethod yX1_setLength, Cond.selects RX1 yX1_setLength yX1_setLength, Cond.initialized RX1, Cond.code yX1_setLength cX1_setLength 5 (some .int), Cond.fieldLink RX1 92 "Tapebuffer$Row" "size" "I", Cond.methodLink RX1 26 yX1_tapeOf, Cond.instanceMethod yX1_tapeOf, Cond.selects RX1 yX1_tapeOf yX1_tapeOf, Cond.code yX1_tapeOf cX1_tapeOf 2 (some (.object "Tapebuffer$Row")), Cond.fieldLink RX1 11 "Tapebuffer" "tapes" "[LTapebuffer$Row;", Cond.methodLink RX1 128 yX1_checkTape, Cond.static yX1_checkTape, Cond.code yX1_checkTape cX1_checkTape 1 none, Cond.classLink RX1 236 "java/lang/IndexOutOfBoundsException", Cond.initialized "java/lang/IndexOutOfBoundsException", Cond.methodLink RX1 112 yX1_checkLength, Cond.static yX1_checkLength, Cond.code yX1_checkLength cX1_checkLength 1 none, Cond.classLink RX1 185 "java/lang/IllegalArgumentException", Cond.initialized "java/lang/IllegalArgumentException", Cond.methodLink RX1 115 yX0_becomeLong]
def wsL_setLength_r2 : List Cond := [Cond.instanceMethod yX0_becomeLong, Cond.selects RX0 yX0_becomeLong yX0_becomeLong, Cond.initialized RX0, Cond.code yX0_becomeLong cX0_becomeLong 3 none, Cond.fieldLink RX0 15 "Tapebuffer$Row" "size" "I", Cond.fieldLink RX0 9 "Tapebuffer$Row" "signs" "[I"]
def wsL_setLength : List Cond := .codeWith yL_setLength cL_setLength 5 (some .int) [(0, 11, 14, 19), (0, 11, 18, 21)] :: ((wsL_setLength_r1 ++ wsL_setLength_r2) ++ wsX20 ++ wsX00 ++ wsX10 ++ (vx_atS RX1 240 "java/lang/IndexOutOfBoundsException" ["java/lang/RuntimeException", "java/lang/Exception"]).filter goodWord ++ (vx_atS RX1 189 "java/lang/IllegalArgumentException" ["java/lang/RuntimeException", "java/lang/Exception"]).filter goodWord)
def wsL_text_r1 : List Cond := [Cond.classLink RL 19 "java/lang/IndexOutOfBoundsException", Cond.methodLink RL 105 yX1_text, Cond.instanceMethod yX1_text, Cond.selects RX1 yX1_text yX1_text, Cond.initialized RX1, Cond.code yX1_text cX1_text 3 (some (.object "java/lang/String")), Cond.fieldLink RX1 92 "Tapebuffer$Row" "size" "I", Cond.methodLink RX1 26 yX1_tapeOf, Cond.instanceMethod yX1_tapeOf, Cond.selects RX1 yX1_tapeOf yX1_tapeOf, Cond.code yX1_tapeOf cX1_tapeOf 2 (some (.object "Tapebuffer$Row")), Cond.fieldLink RX1 11 "Tapebuffer" "tapes" "[LTapebuffer$Row;", Cond.methodLink RX1 128 yX1_checkTape, Cond.static yX1_checkTape, Cond.code yX1_checkTape cX1_checkTape 1 none, Cond.classLink RX1 236 "java/lang/IndexOutOfBoundsException", Cond.initialized "java/lang/IndexOutOfBoundsException", Cond.methodLink RX1 137 yX0_textOf, Cond.instanceMethod yX0_textOf, Cond.selects RX0 yX0_textOf yX0_textOf, Cond.initialized RX0, Cond.code yX0_textOf cX0_textOf 5 (some (.object "java/lang/String")), Cond.fieldLink RX0 15 "Tapebuffer$Row" "size" "I", Cond.arrayClass .char]
def wsL_text_r2 : List Cond := [Cond.fieldLink RX0 9 "Tapebuffer$Row" "signs" "[I", Cond.classLink RX0 30 RJ0, Cond.instantiable RJ0 4, Cond.initialized RJ0, Cond.methodLink RX0 52 yJ0_init_905df, Cond.instanceMethod yJ0_init_905df, Cond.code yJ0_init_905df cJ0_init_905df 2 none, Cond.methodLink RJ0 27 yJ0_init_bb550, Cond.instanceMethod yJ0_init_bb550, Cond.code yJ0_init_bb550 cJ0_init_bb550 6 none, Cond.methodLink RJ0 1 objectInit, Cond.instanceMethod objectInit, Cond.code objectInit ⟨#[0xb1]⟩ 1 none, Cond.fieldLink RJ0 9 "java/lang/String" "value" "[B", Cond.fieldLink RJ0 15 "java/lang/String" "coder" "B", Cond.fieldLink RJ0 38 "java/lang/String" "COMPACT_STRINGS" "Z", Cond.methodLink RJ0 177 yJ2_compress_dfd3c, Cond.static yJ2_compress_dfd3c, Cond.initialized RJ2, Cond.code yJ2_compress_dfd3c cJ2_compress_dfd3c 6 (some (.array .byte)), Cond.arrayClass .byte, Cond.methodLink RJ2 115 yJ2_compress_fe38e, Cond.static yJ2_compress_fe38e, Cond.code yJ2_compress_fe38e cJ2_compress_fe38e 7 (some .int)]
def wsL_text_r3 : List Cond := [Cond.methodLink RJ2 119 yJ2_toBytes_dfd3c, Cond.static yJ2_toBytes_dfd3c, Cond.code yJ2_toBytes_dfd3c cJ2_toBytes_dfd3c 5 (some (.array .byte)), Cond.methodLink RJ2 107 yJ2_newBytesFor_77867, Cond.static yJ2_newBytesFor_77867, Cond.code yJ2_newBytesFor_77867 cJ2_newBytesFor_77867 1 (some (.array .byte)), Cond.methodLink RJ2 11 yJ2_newBytesLength_0f7a4, Cond.static yJ2_newBytesLength_0f7a4, Cond.code yJ2_newBytesLength_0f7a4 cJ2_newBytesLength_0f7a4 1 (some .int), Cond.constant RJ2 20 (1073741823), Cond.methodLink RJ2 111 yJ2_putChar_b72d1, Cond.static yJ2_putChar_b72d1, Cond.code yJ2_putChar_b72d1 cJ2_putChar_b72d1 3 none, Cond.fieldLink RJ2 44 "java/lang/StringUTF16" "$assertionsDisabled" "Z", Cond.fieldLink RJ2 59 "java/lang/StringUTF16" "HI_BYTE_SHIFT" "I", Cond.fieldLink RJ2 63 "java/lang/StringUTF16" "LO_BYTE_SHIFT" "I", Cond.methodLink RJ2 48 yJ2_length_9d52b, Cond.static yJ2_length_9d52b, Cond.code yJ2_length_9d52b cJ2_length_9d52b 1 (some .int), Cond.methodLink RJ2 71 yJ2_getChar_3b067, Cond.static yJ2_getChar_3b067, Cond.code yJ2_getChar_3b067 cJ2_getChar_3b067 2 (some .char), Cond.methodLink RJ2 123 yJ2_compress_5af95, Cond.static yJ2_compress_5af95]
def wsL_text_r4 : List Cond := [Cond.code yJ2_compress_5af95 cJ2_compress_5af95 7 (some .int), Cond.methodLink RJ2 173 yJ2_checkBoundsOffCount_d044e, Cond.static yJ2_checkBoundsOffCount_d044e, Cond.code yJ2_checkBoundsOffCount_d044e cJ2_checkBoundsOffCount_d044e 3 none, Cond.methodLink RJ2 419 yJ0_checkBoundsOffCount_cabcc, Cond.static yJ0_checkBoundsOffCount_cabcc, Cond.code yJ0_checkBoundsOffCount_cabcc cJ0_checkBoundsOffCount_cabcc 3 (some .int), Cond.fieldLink RJ0 1053 "jdk/internal/util/Preconditions" "SIOOBE_FORMATTER" "Ljava/util/function/BiFunction;", Cond.methodLink RJ0 1065 yJ3_checkFromIndexSize_8c36e, Cond.static yJ3_checkFromIndexSize_8c36e, Cond.initialized RJ3, Cond.code yJ3_checkFromIndexSize_8c36e cJ3_checkFromIndexSize_8c36e 4 (some .int), Cond.methodLink RJ0 47 yJ2_coderFromArrayLen_85cad, Cond.static yJ2_coderFromArrayLen_85cad, Cond.code yJ2_coderFromArrayLen_85cad cJ2_coderFromArrayLen_85cad 2 (some .byte), Cond.methodLink RJ0 180 yJ2_toBytes_dfd3c]
def wsL_text : List Cond := .codeWith yL_text cL_text 4 (some .int) [(0, 9, 12, 19)] :: ((wsL_text_r1 ++ (wsL_text_r2 ++ (wsL_text_r3 ++ wsL_text_r4))) ++ wsX20 ++ wsX00 ++ wsX10 ++ wsJ00 ++ (vx_atS RX1 240 "java/lang/IndexOutOfBoundsException" ["java/lang/RuntimeException", "java/lang/Exception"]).filter goodWord)
def wsL_law0_r1 : List Cond := [Cond.classLink RL 8 RX1, Cond.instantiable RX1 7, Cond.initialized RX1, Cond.classLink RL 179 RX3, Cond.instantiable RX3 6, Cond.initialized RX3, Cond.classLink RL 14 RX2, Cond.instantiable RX2 2, Cond.initialized RX2, Cond.methodLink RL 178 yX1_init, Cond.instanceMethod yX1_init, Cond.code yX1_init cX1_init 2 none, Cond.methodLink RX1 1 objectInit, Cond.instanceMethod objectInit, Cond.code objectInit ⟨#[0xb1]⟩ 1 none, Cond.classLink RX1 9 RX0, Cond.fieldLink RX1 11 "Tapebuffer" "tapes" "[LTapebuffer$Row;", Cond.instantiable RX0 2, Cond.initialized RX0, Cond.fieldLink RX1 16 "Tapebuffer" "picture" "LTapebuffer$Row;", Cond.fieldLink RX1 20 "Tapebuffer" "coming" "LTapebuffer$Row;", Cond.fieldLink RX1 23 "Tapebuffer" "spare" "LTapebuffer$Row;", Cond.methodLink RX1 15 yX0_init, Cond.instanceMethod yX0_init]
def wsL_law0_r2 : List Cond := [Cond.code yX0_init cX0_init 1 none, Cond.methodLink RX0 3 objectInit, Cond.arrayClass .int, Cond.fieldLink RX0 9 "Tapebuffer$Row" "signs" "[I", Cond.methodLink RL 181 yX3_init, Cond.instanceMethod yX3_init, Cond.code yX3_init cX3_init 1 none, Cond.methodLink RX3 1 objectInit, Cond.classLink RX3 9 "[[I", Cond.fieldLink RX3 11 "TapebufferModel" "tapes" "[[I", Cond.fieldLink RX3 14 "TapebufferModel" "picture" "[I", Cond.instanceMethod yX2_init, Cond.code yX2_init cX2_init 1 none, Cond.methodLink RX2 1 objectInit, Cond.methodLink RL 183 yL_addWord, Cond.static yL_addWord, Cond.initialized RL, Cond.codeWith yL_addWord cL_addWord 5 (some .int) [(0, 11, 14, 19), (0, 11, 18, 21)], Cond.classLink RL 19 "java/lang/IndexOutOfBoundsException", Cond.classLink RL 21 "java/lang/IllegalArgumentException", Cond.methodLink RL 7 yX1_addWord, Cond.instanceMethod yX1_addWord, Cond.selects RX1 yX1_addWord yX1_addWord, Cond.code yX1_addWord cX1_addWord 4 (some .int)]
def wsL_law0_r3 : List Cond := [Cond.methodLink RX1 26 yX1_tapeOf, Cond.instanceMethod yX1_tapeOf, Cond.selects RX1 yX1_tapeOf yX1_tapeOf, Cond.code yX1_tapeOf cX1_tapeOf 2 (some (.object "Tapebuffer$Row")), Cond.methodLink RX1 128 yX1_checkTape, Cond.static yX1_checkTape, Cond.code yX1_checkTape cX1_checkTape 1 none, Cond.classLink RX1 236 "java/lang/IndexOutOfBoundsException", Cond.initialized "java/lang/IndexOutOfBoundsException", Cond.methodLink RX1 30 yX1_checkWord, Cond.static yX1_checkWord, Cond.code yX1_checkWord cX1_checkWord 1 none, Cond.classLink RX1 185 "java/lang/IllegalArgumentException", Cond.initialized "java/lang/IllegalArgumentException", Cond.methodLink RX1 34 yX1_wordComes, Cond.instanceMethod yX1_wordComes, Cond.selects RX1 yX1_wordComes yX1_wordComes, Cond.code yX1_wordComes cX1_wordComes 2 none, Cond.methodLink RX1 53 yX0_makeEmpty, Cond.instanceMethod yX0_makeEmpty, Cond.selects RX0 yX0_makeEmpty yX0_makeEmpty, Cond.code yX0_makeEmpty cX0_makeEmpty 1 none, Cond.fieldLink RX0 15 "Tapebuffer$Row" "size" "I", Cond.methodLink RX1 74 yX0_writeWord]
def wsL_law0_r4 : List Cond := [Cond.instanceMethod yX0_writeWord, Cond.selects RX0 yX0_writeWord yX0_writeWord, Cond.code yX0_writeWord cX0_writeWord 4 none, Cond.methodLink RX0 39 yX0_writeSign, Cond.instanceMethod yX0_writeSign, Cond.selects RX0 yX0_writeSign yX0_writeSign, Cond.code yX0_writeSign cX0_writeSign 2 none, Cond.methodLink RX1 37 yX1_putAllBehind, Cond.instanceMethod yX1_putAllBehind, Cond.selects RX1 yX1_putAllBehind yX1_putAllBehind, Cond.code yX1_putAllBehind cX1_putAllBehind 2 (some .int), Cond.fieldLink RX1 92 "Tapebuffer$Row" "size" "I", Cond.methodLink RX1 84 yX1_putInPlaceOf, Cond.instanceMethod yX1_putInPlaceOf, Cond.selects RX1 yX1_putInPlaceOf yX1_putInPlaceOf, Cond.code yX1_putInPlaceOf cX1_putInPlaceOf 4 (some .int), Cond.fieldLink RX1 199 "Tapebuffer" "refusals" "I", Cond.methodLink RX1 257 yX0_exchangePart, Cond.instanceMethod yX0_exchangePart, Cond.selects RX0 yX0_exchangePart yX0_exchangePart, Cond.code yX0_exchangePart cX0_exchangePart 5 none, Cond.methodLink RX0 19 arraycopyName, Cond.native arraycopyName, Cond.static arraycopyName]
def wsL_law0_r5 : List Cond := [Cond.initialized "java/lang/System", Cond.methodLink RL 188 yX3_addWord, Cond.instanceMethod yX3_addWord, Cond.selects RX3 yX3_addWord yX3_addWord, Cond.code yX3_addWord cX3_addWord 3 (some .int), Cond.methodLink RX3 36 yX3_isNoTape, Cond.static yX3_isNoTape, Cond.code yX3_isNoTape cX3_isNoTape 1 (some .boolean), Cond.constantLong RX3 26 (3), Cond.methodLink RX3 28 yX3_isIn, Cond.static yX3_isIn, Cond.code yX3_isIn cX3_isIn 6 (some .boolean), Cond.methodLink RX3 104 yX3_start, Cond.instanceMethod yX3_start, Cond.selects RX3 yX3_start yX3_start, Cond.code yX3_start cX3_start 3 (some .boolean), Cond.fieldLink RX3 18 "TapebufferModel" "thrown" "I", Cond.methodLink RX3 22 yX3_refuse, Cond.instanceMethod yX3_refuse, Cond.selects RX3 yX3_refuse yX3_refuse, Cond.code yX3_refuse cX3_refuse 3 (some .boolean), Cond.methodLink RX3 107 yX3_isNoWord, Cond.static yX3_isNoWord, Cond.code yX3_isNoWord cX3_isNoWord 1 (some .boolean)]
def wsL_law0_r6 : List Cond := [Cond.constantLong RX3 32 (9999), Cond.methodLink RX3 110 yX3_wordOf, Cond.static yX3_wordOf, Cond.code yX3_wordOf cX3_wordOf 3 (some (.array .int)), Cond.classLink RX3 52 RJ4, Cond.instantiable RJ4 4, Cond.initialized RJ4, Cond.methodLink RX3 66 yJ0_isEmpty_aae02, Cond.instanceMethod yJ0_isEmpty_aae02, Cond.selects RJ0 yJ0_isEmpty_aae02 yJ0_isEmpty_aae02, Cond.initialized RJ0, Cond.code yJ0_isEmpty_aae02 cJ0_isEmpty_aae02 1 (some .boolean), Cond.fieldLink RJ0 9 "java/lang/String" "value" "[B", Cond.methodLink RX3 54 yJ4_init_da8c8, Cond.instanceMethod yJ4_init_da8c8, Cond.code yJ4_init_da8c8 cJ4_init_da8c8 1 none, Cond.methodLink RJ4 1 yJ5_init_d00df, Cond.instanceMethod yJ5_init_d00df, Cond.initialized RJ5, Cond.code yJ5_init_d00df cJ5_init_d00df 2 none, Cond.methodLink RJ5 3 objectInit, Cond.fieldLink RJ5 18 "java/lang/String" "COMPACT_STRINGS" "Z", Cond.arrayClass .byte, Cond.fieldLink RJ5 15 "java/lang/AbstractStringBuilder" "value" "[B"]
def wsL_law0_r7 : List Cond := [Cond.fieldLink RJ5 22 "java/lang/AbstractStringBuilder" "coder" "B", Cond.methodLink RJ5 26 yJ2_newBytesFor_77867, Cond.static yJ2_newBytesFor_77867, Cond.initialized RJ2, Cond.code yJ2_newBytesFor_77867 cJ2_newBytesFor_77867 1 (some (.array .byte)), Cond.methodLink RJ2 11 yJ2_newBytesLength_0f7a4, Cond.static yJ2_newBytesLength_0f7a4, Cond.code yJ2_newBytesLength_0f7a4 cJ2_newBytesLength_0f7a4 1 (some .int), Cond.constant RJ2 20 (1073741823), Cond.methodLink RX3 46 yJ0_charAt_5068e, Cond.instanceMethod yJ0_charAt_5068e, Cond.selects RJ0 yJ0_charAt_5068e yJ0_charAt_5068e, Cond.code yJ0_charAt_5068e cJ0_charAt_5068e 2 (some .char), Cond.methodLink RJ0 492 yJ0_isLatin1_aae02, Cond.instanceMethod yJ0_isLatin1_aae02, Cond.selects RJ0 yJ0_isLatin1_aae02 yJ0_isLatin1_aae02, Cond.code yJ0_isLatin1_aae02 cJ0_isLatin1_aae02 1 (some .boolean), Cond.fieldLink RJ0 38 "java/lang/String" "COMPACT_STRINGS" "Z", Cond.fieldLink RJ0 15 "java/lang/String" "coder" "B", Cond.methodLink RJ0 495 yJ1_charAt_3b067, Cond.static yJ1_charAt_3b067, Cond.initialized RJ1, Cond.code yJ1_charAt_3b067 cJ1_charAt_3b067 2 (some .char), Cond.methodLink RJ1 9 yJ0_checkIndex_df160]
def wsL_law0_r8 : List Cond := [Cond.static yJ0_checkIndex_df160, Cond.code yJ0_checkIndex_df160 cJ0_checkIndex_df160 2 none, Cond.fieldLink RJ0 1053 "jdk/internal/util/Preconditions" "SIOOBE_FORMATTER" "Ljava/util/function/BiFunction;", Cond.methodLink RJ0 1059 yJ3_checkIndex_8e157, Cond.static yJ3_checkIndex_8e157, Cond.initialized RJ3, Cond.code yJ3_checkIndex_8e157 cJ3_checkIndex_8e157 3 (some .int), Cond.methodLink RJ0 498 yJ2_charAt_3b067, Cond.static yJ2_charAt_3b067, Cond.code yJ2_charAt_3b067 cJ2_charAt_3b067 2 (some .char), Cond.methodLink RJ2 67 yJ2_checkIndex_2214a, Cond.static yJ2_checkIndex_2214a, Cond.code yJ2_checkIndex_2214a cJ2_checkIndex_2214a 2 none, Cond.methodLink RJ2 48 yJ2_length_9d52b, Cond.static yJ2_length_9d52b, Cond.code yJ2_length_9d52b cJ2_length_9d52b 1 (some .int), Cond.methodLink RJ2 414 yJ0_checkIndex_df160, Cond.methodLink RJ2 71 yJ2_getChar_3b067, Cond.static yJ2_getChar_3b067, Cond.code yJ2_getChar_3b067 cJ2_getChar_3b067 2 (some .char), Cond.fieldLink RJ2 44 "java/lang/StringUTF16" "$assertionsDisabled" "Z", Cond.fieldLink RJ2 59 "java/lang/StringUTF16" "HI_BYTE_SHIFT" "I", Cond.fieldLink RJ2 63 "java/lang/StringUTF16" "LO_BYTE_SHIFT" "I", Cond.methodLink RX3 59 yJ4_append_cf468]
def wsL_law0_r9 : List Cond := [Cond.instanceMethod yJ4_append_cf468, Cond.selects RJ4 yJ4_append_cf468 yJ4_append_cf468, Cond.code yJ4_append_cf468 cJ4_append_cf468 2 (some (.object "java/lang/StringBuilder")), Cond.methodLink RJ4 50 yJ5_append_3fe6f, Cond.sameMethod "java/lang/AbstractStringBuilder" "java/lang/AbstractStringBuilder" "append" "(C)Ljava/lang/AbstractStringBuilder;", Cond.superclass RJ4 RJ5, Cond.instanceMethod yJ5_append_3fe6f, Cond.code yJ5_append_3fe6f cJ5_append_3fe6f 2 (some (.object "java/lang/AbstractStringBuilder")), Cond.fieldLink RJ5 79 "java/lang/AbstractStringBuilder" "count" "I", Cond.methodLink RJ5 100 ⟨"java/lang/AbstractStringBuilder", "ensureCapacityInternal", "(I)V"⟩, Cond.sameMethod "java/lang/AbstractStringBuilder" "java/lang/AbstractStringBuilder" "ensureCapacityInternal" "(I)V", Cond.selects RJ4 ⟨"java/lang/AbstractStringBuilder", "ensureCapacityInternal", "(I)V"⟩ yJ5_ensureCapacityInternal_d00df, Cond.instanceMethod yJ5_ensureCapacityInternal_d00df, Cond.code yJ5_ensureCapacityInternal_d00df cJ5_ensureCapacityInternal_d00df 3 none, Cond.methodLink RJ5 104 ⟨"java/lang/AbstractStringBuilder", "newCapacity", "(I)I"⟩, Cond.sameMethod "java/lang/AbstractStringBuilder" "java/lang/AbstractStringBuilder" "newCapacity" "(I)I", Cond.selects RJ4 ⟨"java/lang/AbstractStringBuilder", "newCapacity", "(I)I"⟩ yJ5_newCapacity_0f7a4, Cond.instanceMethod yJ5_newCapacity_0f7a4, Cond.code yJ5_newCapacity_0f7a4 cJ5_newCapacity_0f7a4 6 (some .int), Cond.constant RJ5 39 (2147483647), Cond.methodLink RJ5 114 yJ8_newLength_cabcc, Cond.static yJ8_newLength_cabcc, Cond.initialized RJ8, Cond.code yJ8_newLength_cabcc cJ8_newLength_cabcc 4 (some .int)]
def wsL_law0_r10 : List Cond := [Cond.methodLink RJ8 194 Lib.Math.max.name, Cond.static Lib.Math.max.name, Cond.initialized "java/lang/Math", Cond.code Lib.Math.max.name Lib.Math.max.code 2 (some .int), Cond.constant RJ8 200 (2147483639), Cond.methodLink RJ8 201 yJ8_hugeLength_7cf53, Cond.static yJ8_hugeLength_7cf53, Cond.code yJ8_hugeLength_7cf53 cJ8_hugeLength_7cf53 3 (some .int), Cond.methodLink RJ5 108 yJ7_copyOf_9075b, Cond.static yJ7_copyOf_9075b, Cond.initialized RJ7, Cond.code yJ7_copyOf_9075b cJ7_copyOf_9075b 3 (some (.array .byte)), Cond.methodLink RJ7 310 ⟨"[B", "clone", "()Ljava/lang/Object;"⟩, Cond.sameMethod "[B" "java/lang/Object" "clone" "()Ljava/lang/Object;", Cond.native ⟨"java/lang/Object", "clone", "()Ljava/lang/Object;"⟩, Cond.instanceMethod ⟨"java/lang/Object", "clone", "()Ljava/lang/Object;"⟩, Cond.selects "[B" ⟨"[B", "clone", "()Ljava/lang/Object;"⟩ ⟨"java/lang/Object", "clone", "()Ljava/lang/Object;"⟩, Cond.classLink RJ7 311 "[B", Cond.methodLink RJ7 304 Lib.Math.min.name, Cond.static Lib.Math.min.name, Cond.code Lib.Math.min.name Lib.Math.min.code 2 (some .int), Cond.methodLink RJ7 150 arraycopyName, Cond.methodLink RJ5 83 ⟨"java/lang/AbstractStringBuilder", "isLatin1", "()Z"⟩, Cond.sameMethod "java/lang/AbstractStringBuilder" "java/lang/AbstractStringBuilder" "isLatin1" "()Z"]
def wsL_law0_r11 : List Cond := [Cond.selects RJ4 ⟨"java/lang/AbstractStringBuilder", "isLatin1", "()Z"⟩ yJ5_isLatin1_aae02, Cond.instanceMethod yJ5_isLatin1_aae02, Cond.code yJ5_isLatin1_aae02 cJ5_isLatin1_aae02 1 (some .boolean), Cond.methodLink RJ5 191 yJ1_canEncode_fc78d, Cond.static yJ1_canEncode_fc78d, Cond.code yJ1_canEncode_fc78d cJ1_canEncode_fc78d 1 (some .boolean), Cond.methodLink RJ5 195 ⟨"java/lang/AbstractStringBuilder", "inflate", "()V"⟩, Cond.sameMethod "java/lang/AbstractStringBuilder" "java/lang/AbstractStringBuilder" "inflate" "()V", Cond.selects RJ4 ⟨"java/lang/AbstractStringBuilder", "inflate", "()V"⟩ yJ5_inflate_da8c8, Cond.instanceMethod yJ5_inflate_da8c8, Cond.code yJ5_inflate_da8c8 cJ5_inflate_da8c8 2 none, Cond.methodLink RJ5 125 yJ1_inflate_0e8fd, Cond.static yJ1_inflate_0e8fd, Cond.code yJ1_inflate_0e8fd cJ1_inflate_0e8fd 5 none, Cond.methodLink RJ1 240 yJ2_inflate_0e8fd, Cond.static yJ2_inflate_0e8fd, Cond.code yJ2_inflate_0e8fd cJ2_inflate_0e8fd 6 none, Cond.methodLink RJ2 173 yJ2_checkBoundsOffCount_d044e, Cond.static yJ2_checkBoundsOffCount_d044e, Cond.code yJ2_checkBoundsOffCount_d044e cJ2_checkBoundsOffCount_d044e 3 none, Cond.methodLink RJ2 419 yJ0_checkBoundsOffCount_cabcc, Cond.static yJ0_checkBoundsOffCount_cabcc, Cond.code yJ0_checkBoundsOffCount_cabcc cJ0_checkBoundsOffCount_cabcc 3 (some .int), Cond.methodLink RJ0 1065 yJ3_checkFromIndexSize_8c36e]
def wsL_law0_r12 : List Cond := [Cond.static yJ3_checkFromIndexSize_8c36e, Cond.code yJ3_checkFromIndexSize_8c36e cJ3_checkFromIndexSize_8c36e 4 (some .int), Cond.methodLink RJ2 111 yJ2_putChar_b72d1, Cond.static yJ2_putChar_b72d1, Cond.code yJ2_putChar_b72d1 cJ2_putChar_b72d1 3 none, Cond.methodLink RJ5 197 yJ2_putCharSB_b72d1, Cond.static yJ2_putCharSB_b72d1, Cond.code yJ2_putCharSB_b72d1 cJ2_putCharSB_b72d1 3 none, Cond.methodLink RX3 55 yJ4_append_15ec4, Cond.instanceMethod yJ4_append_15ec4, Cond.selects RJ4 yJ4_append_15ec4 yJ4_append_15ec4, Cond.code yJ4_append_15ec4 cJ4_append_15ec4 2 (some (.object "java/lang/StringBuilder")), Cond.methodLink RJ4 29 yJ5_append_cf1ce, Cond.sameMethod "java/lang/AbstractStringBuilder" "java/lang/AbstractStringBuilder" "append" "(Ljava/lang/String;)Ljava/lang/AbstractStringBuilder;", Cond.instanceMethod yJ5_append_cf1ce, Cond.code yJ5_append_cf1ce cJ5_append_cf1ce 3 (some (.object "java/lang/AbstractStringBuilder")), Cond.methodLink RJ5 204 ⟨"java/lang/AbstractStringBuilder", "appendNull", "()Ljava/lang/AbstractStringBuilder;"⟩, Cond.sameMethod "java/lang/AbstractStringBuilder" "java/lang/AbstractStringBuilder" "appendNull" "()Ljava/lang/AbstractStringBuilder;", Cond.selects RJ4 ⟨"java/lang/AbstractStringBuilder", "appendNull", "()Ljava/lang/AbstractStringBuilder;"⟩ yJ5_appendNull_278bc, Cond.instanceMethod yJ5_appendNull_278bc, Cond.code yJ5_appendNull_278bc cJ5_appendNull_278bc 3 (some (.object "java/lang/AbstractStringBuilder")), Cond.methodLink RJ5 226 yJ2_putCharsAt_cd4e5, Cond.static yJ2_putCharsAt_cd4e5, Cond.code yJ2_putCharsAt_cd4e5 cJ2_putCharsAt_cd4e5 7 (some .int)]
def wsL_law0_r13 : List Cond := [Cond.methodLink RJ2 96 yJ2_checkBoundsBeginEnd_d044e, Cond.static yJ2_checkBoundsBeginEnd_d044e, Cond.code yJ2_checkBoundsBeginEnd_d044e cJ2_checkBoundsBeginEnd_d044e 3 none, Cond.methodLink RJ2 241 yJ0_checkBoundsBeginEnd_23922, Cond.static yJ0_checkBoundsBeginEnd_23922, Cond.code yJ0_checkBoundsBeginEnd_23922 cJ0_checkBoundsBeginEnd_23922 3 none, Cond.methodLink RJ0 1062 yJ3_checkFromToIndex_8c36e, Cond.static yJ3_checkFromToIndex_8c36e, Cond.code yJ3_checkFromToIndex_8c36e cJ3_checkFromToIndex_8c36e 4 (some .int), Cond.methodLink RJ5 32 yJ0_length_8abf5, Cond.instanceMethod yJ0_length_8abf5, Cond.selects RJ0 yJ0_length_8abf5 yJ0_length_8abf5, Cond.code yJ0_length_8abf5 cJ0_length_8abf5 1 (some .int), Cond.methodLink RJ0 335 yJ0_coder_7d493, Cond.instanceMethod yJ0_coder_7d493, Cond.selects RJ0 yJ0_coder_7d493 yJ0_coder_7d493, Cond.code yJ0_coder_7d493 cJ0_coder_7d493 1 (some .byte), Cond.methodLink RJ5 208 ⟨"java/lang/AbstractStringBuilder", "putStringAt", "(ILjava/lang/String;)V"⟩, Cond.sameMethod "java/lang/AbstractStringBuilder" "java/lang/AbstractStringBuilder" "putStringAt" "(ILjava/lang/String;)V", Cond.selects RJ4 ⟨"java/lang/AbstractStringBuilder", "putStringAt", "(ILjava/lang/String;)V"⟩ yJ5_putStringAt_47b60, Cond.instanceMethod yJ5_putStringAt_47b60, Cond.code yJ5_putStringAt_47b60 cJ5_putStringAt_47b60 3 none, Cond.methodLink RJ5 397 ⟨"java/lang/AbstractStringBuilder", "inflateIfNeededFor", "(Ljava/lang/String;)V"⟩, Cond.sameMethod "java/lang/AbstractStringBuilder" "java/lang/AbstractStringBuilder" "inflateIfNeededFor" "(Ljava/lang/String;)V"]
def wsL_law0_r14 : List Cond := [Cond.selects RJ4 ⟨"java/lang/AbstractStringBuilder", "inflateIfNeededFor", "(Ljava/lang/String;)V"⟩ yJ5_inflateIfNeededFor_a7421, Cond.instanceMethod yJ5_inflateIfNeededFor_a7421, Cond.code yJ5_inflateIfNeededFor_a7421 cJ5_inflateIfNeededFor_a7421 2 none, Cond.methodLink RJ5 40 yJ0_coder_7d493, Cond.methodLink RJ5 399 yJ0_getBytes_840e7, Cond.instanceMethod yJ0_getBytes_840e7, Cond.selects RJ0 yJ0_getBytes_840e7 yJ0_getBytes_840e7, Cond.code yJ0_getBytes_840e7 cJ0_getBytes_840e7 4 none, Cond.methodLink RJ0 212 arraycopyName, Cond.methodLink RJ0 106 yJ1_inflate_0e8fd, Cond.methodLink RX3 62 yJ4_toString_0e30d, Cond.instanceMethod yJ4_toString_0e30d, Cond.selects RJ4 yJ4_toString_0e30d yJ4_toString_0e30d, Cond.code yJ4_toString_0e30d cJ4_toString_0e30d 1 (some (.object "java/lang/String")), Cond.classLink RJ4 18 RJ0, Cond.instantiable RJ0 4, Cond.methodLink RJ4 137 yJ0_init_81219, Cond.instanceMethod yJ0_init_81219, Cond.code yJ0_init_81219 cJ0_init_81219 2 none, Cond.methodLink RJ0 489 yJ0_init_db425, Cond.instanceMethod yJ0_init_db425, Cond.code yJ0_init_db425 cJ0_init_db425 5 none, Cond.methodLink RJ0 1 objectInit, Cond.fieldLink RJ0 1048 "java/lang/AbstractStringBuilder" "maybeLatin1" "Z"]
def wsL_law0_r15 : List Cond := [Cond.methodLink RJ0 552 ⟨"java/lang/AbstractStringBuilder", "getValue", "()[B"⟩, Cond.sameMethod "java/lang/AbstractStringBuilder" "java/lang/AbstractStringBuilder" "getValue" "()[B", Cond.selects RJ4 ⟨"java/lang/AbstractStringBuilder", "getValue", "()[B"⟩ yJ5_getValue_6d5f1, Cond.instanceMethod yJ5_getValue_6d5f1, Cond.code yJ5_getValue_6d5f1 cJ5_getValue_6d5f1 1 (some (.array .byte)), Cond.methodLink RJ0 549 ⟨"java/lang/AbstractStringBuilder", "length", "()I"⟩, Cond.sameMethod "java/lang/AbstractStringBuilder" "java/lang/AbstractStringBuilder" "length" "()I", Cond.instanceMethod ⟨"java/lang/AbstractStringBuilder", "length", "()I"⟩, Cond.selects RJ4 ⟨"java/lang/AbstractStringBuilder", "length", "()I"⟩ yJ4_length_8abf5, Cond.instanceMethod yJ4_length_8abf5, Cond.code yJ4_length_8abf5 cJ4_length_8abf5 1 (some .int), Cond.methodLink RJ4 343 yJ5_length_8abf5, Cond.instanceMethod yJ5_length_8abf5, Cond.code yJ5_length_8abf5 cJ5_length_8abf5 1 (some .int), Cond.methodLink RJ0 1047 ⟨"java/lang/AbstractStringBuilder", "isLatin1", "()Z"⟩, Cond.methodLink RJ0 54 yJ7_copyOfRange_39247, Cond.static yJ7_copyOfRange_39247, Cond.code yJ7_copyOfRange_39247 cJ7_copyOfRange_39247 3 (some (.array .byte)), Cond.methodLink RJ7 339 yJ7_copyOfRangeByte_39247, Cond.static yJ7_copyOfRangeByte_39247, Cond.code yJ7_copyOfRangeByte_39247 cJ7_copyOfRangeByte_39247 5 (some (.array .byte)), Cond.methodLink RJ7 343 yJ7_checkLength_df160, Cond.static yJ7_checkLength_df160, Cond.code yJ7_checkLength_df160 cJ7_checkLength_df160 2 none]
def wsL_law0_r16 : List Cond := [Cond.classLink RJ7 45 RJ4, Cond.methodLink RJ0 1051 yJ2_compress_39247, Cond.static yJ2_compress_39247, Cond.code yJ2_compress_39247 cJ2_compress_39247 6 (some (.array .byte)), Cond.methodLink RJ2 123 yJ2_compress_5af95, Cond.static yJ2_compress_5af95, Cond.code yJ2_compress_5af95 cJ2_compress_5af95 7 (some .int), Cond.methodLink RJ2 126 yJ7_copyOfRange_39247, Cond.methodLink RJ0 47 yJ2_coderFromArrayLen_85cad, Cond.static yJ2_coderFromArrayLen_85cad, Cond.code yJ2_coderFromArrayLen_85cad cJ2_coderFromArrayLen_85cad 2 (some .byte), Cond.methodLink RX3 72 yX3_row, Cond.static yX3_row, Cond.code yX3_row cX3_row 3 (some (.array .int)), Cond.methodLink RX3 40 yJ0_length_8abf5, Cond.methodLink RX3 114 yX3_add, Cond.instanceMethod yX3_add, Cond.selects RX3 yX3_add yX3_add, Cond.code yX3_add cX3_add 3 (some .int), Cond.methodLink RX3 100 yX3_put, Cond.instanceMethod yX3_put, Cond.selects RX3 yX3_put yX3_put, Cond.code yX3_put cX3_put 6 (some .int), Cond.fieldLink RX3 93 "TapebufferModel" "refused" "I"]
def wsL_law0_r17 : List Cond := [Cond.methodLink RX3 89 yX3_part, Cond.static yX3_part, Cond.code yX3_part cX3_part 5 (some (.array .int)), Cond.methodLink RX3 96 yX3_joined, Cond.static yX3_joined, Cond.code yX3_joined cX3_joined 4 (some (.array .int)), Cond.methodLink RL 189 yL_addNumber, Cond.static yL_addNumber, Cond.codeWith yL_addNumber cL_addNumber 5 (some .int) [(0, 11, 14, 19)], Cond.methodLink RL 23 yX1_addNumber, Cond.instanceMethod yX1_addNumber, Cond.selects RX1 yX1_addNumber yX1_addNumber, Cond.code yX1_addNumber cX1_addNumber 4 (some .int), Cond.methodLink RX1 41 yX1_numberComes, Cond.instanceMethod yX1_numberComes, Cond.selects RX1 yX1_numberComes yX1_numberComes, Cond.code yX1_numberComes cX1_numberComes 3 none, Cond.methodLink RX1 77 yX0_writeNumber, Cond.instanceMethod yX0_writeNumber, Cond.selects RX0 yX0_writeNumber yX0_writeNumber, Cond.code yX0_writeNumber cX0_writeNumber 7 none, Cond.constantLong RX0 42 (10), Cond.methodLink RX0 44 Lib.Math.abs.name, Cond.static Lib.Math.abs.name]
def wsL_law0_r18 : List Cond := [Cond.code Lib.Math.abs.name Lib.Math.abs.code 1 (some .int), Cond.methodLink RX0 25 yX0_turnFrom, Cond.instanceMethod yX0_turnFrom, Cond.selects RX0 yX0_turnFrom yX0_turnFrom, Cond.code yX0_turnFrom cX0_turnFrom 5 none, Cond.methodLink RL 191 yX3_addNumber, Cond.instanceMethod yX3_addNumber, Cond.selects RX3 yX3_addNumber yX3_addNumber, Cond.code yX3_addNumber cX3_addNumber 3 (some .int), Cond.methodLink RX3 118 yJ4_append_bf812, Cond.instanceMethod yJ4_append_bf812, Cond.selects RJ4 yJ4_append_bf812 yJ4_append_bf812, Cond.code yJ4_append_bf812 cJ4_append_bf812 2 (some (.object "java/lang/StringBuilder")), Cond.methodLink RJ4 53 yJ5_append_c97b9, Cond.sameMethod "java/lang/AbstractStringBuilder" "java/lang/AbstractStringBuilder" "append" "(I)Ljava/lang/AbstractStringBuilder;", Cond.instanceMethod yJ5_append_c97b9, Cond.code yJ5_append_c97b9 cJ5_append_c97b9 4 (some (.object "java/lang/AbstractStringBuilder")), Cond.methodLink RJ5 245 yJ6_stringSize_0f7a4, Cond.static yJ6_stringSize_0f7a4, Cond.initialized RJ6, Cond.code yJ6_stringSize_0f7a4 cJ6_stringSize_0f7a4 4 (some .int), Cond.methodLink RJ5 248 yJ6_getChars_ba4f3, Cond.static yJ6_getChars_ba4f3, Cond.code yJ6_getChars_ba4f3 cJ6_getChars_ba4f3 7 (some .int)]
def wsL_law0_r19 : List Cond := [Cond.fieldLink RJ6 83 "java/lang/Integer" "DigitOnes" "[B", Cond.fieldLink RJ6 87 "java/lang/Integer" "DigitTens" "[B", Cond.methodLink RJ5 251 yJ2_getChars_46870, Cond.static yJ2_getChars_46870, Cond.code yJ2_getChars_46870 cJ2_getChars_46870 5 (some .int), Cond.methodLink RJ2 393 yJ2_getChars_ba4f3, Cond.static yJ2_getChars_ba4f3, Cond.code yJ2_getChars_ba4f3 cJ2_getChars_ba4f3 7 (some .int), Cond.fieldLink RJ2 403 "java/lang/Integer" "DigitOnes" "[B", Cond.fieldLink RJ2 407 "java/lang/Integer" "DigitTens" "[B", Cond.methodLink RL 192 yL_addLong, Cond.static yL_addLong, Cond.codeWith yL_addLong cL_addLong 6 (some .int) [(0, 13, 16, 19)], Cond.methodLink RL 26 yX1_addLong, Cond.instanceMethod yX1_addLong, Cond.selects RX1 yX1_addLong yX1_addLong, Cond.code yX1_addLong cX1_addLong 5 (some .int), Cond.constantLong RX1 45 (4294967296), Cond.methodLink RL 195 yX3_addLong, Cond.instanceMethod yX3_addLong, Cond.selects RX3 yX3_addLong yX3_addLong, Cond.code yX3_addLong cX3_addLong 4 (some .int), Cond.methodLink RX3 121 yJ4_append_f7089, Cond.instanceMethod yJ4_append_f7089]
def wsL_law0_r20 : List Cond := [Cond.selects RJ4 yJ4_append_f7089 yJ4_append_f7089, Cond.code yJ4_append_f7089 cJ4_append_f7089 3 (some (.object "java/lang/StringBuilder")), Cond.methodLink RJ4 56 yJ5_append_66267, Cond.sameMethod "java/lang/AbstractStringBuilder" "java/lang/AbstractStringBuilder" "append" "(J)Ljava/lang/AbstractStringBuilder;", Cond.instanceMethod yJ5_append_66267, Cond.code yJ5_append_66267 cJ5_append_66267 5 (some (.object "java/lang/AbstractStringBuilder")), Cond.methodLink RJ5 254 yJ13_stringSize_95d88, Cond.static yJ13_stringSize_95d88, Cond.initialized RJ13, Cond.code yJ13_stringSize_95d88 cJ13_stringSize_95d88 6 (some .int), Cond.constantLong RJ13 140 (-10), Cond.constantLong RJ13 53 (10), Cond.methodLink RJ5 259 yJ13_getChars_11360, Cond.static yJ13_getChars_11360, Cond.code yJ13_getChars_11360 cJ13_getChars_11360 11 (some .int), Cond.constantLong RJ13 129 (-2147483648), Cond.constantLong RJ13 131 (100), Cond.fieldLink RJ13 133 "java/lang/Integer" "DigitOnes" "[B", Cond.fieldLink RJ13 137 "java/lang/Integer" "DigitTens" "[B", Cond.methodLink RJ5 262 yJ2_getChars_1ba55, Cond.static yJ2_getChars_1ba55, Cond.code yJ2_getChars_1ba55 cJ2_getChars_1ba55 6 (some .int), Cond.methodLink RJ2 396 yJ2_getChars_11360, Cond.static yJ2_getChars_11360]
def wsL_law0_r21 : List Cond := [Cond.code yJ2_getChars_11360 cJ2_getChars_11360 11 (some .int), Cond.constantLong RJ2 410 (-2147483648), Cond.constantLong RJ2 412 (100), Cond.methodLink RL 196 yL_addSign, Cond.static yL_addSign, Cond.codeWith yL_addSign cL_addSign 5 (some .int) [(0, 11, 14, 19), (0, 11, 18, 21)], Cond.methodLink RL 30 yX1_addSign, Cond.instanceMethod yX1_addSign, Cond.selects RX1 yX1_addSign yX1_addSign, Cond.code yX1_addSign cX1_addSign 4 (some .int), Cond.methodLink RX1 47 yX1_checkSign, Cond.static yX1_checkSign, Cond.code yX1_checkSign cX1_checkSign 1 none, Cond.methodLink RX1 50 yX1_signComes, Cond.instanceMethod yX1_signComes, Cond.selects RX1 yX1_signComes yX1_signComes, Cond.code yX1_signComes cX1_signComes 2 none, Cond.methodLink RX1 64 yX0_writeSign, Cond.methodLink RL 198 yX3_addSign, Cond.instanceMethod yX3_addSign, Cond.selects RX3 yX3_addSign yX3_addSign, Cond.code yX3_addSign cX3_addSign 3 (some .int), Cond.methodLink RX3 124 yX3_isNoSign, Cond.static yX3_isNoSign]
def wsL_law0_r22 : List Cond := [Cond.code yX3_isNoSign cX3_isNoSign 1 (some .boolean), Cond.constantLong RX3 34 (255), Cond.methodLink RL 199 yL_addTruth, Cond.static yL_addTruth, Cond.codeWith yL_addTruth cL_addTruth 5 (some .int) [(0, 11, 14, 19)], Cond.methodLink RL 33 yX1_addTruth, Cond.instanceMethod yX1_addTruth, Cond.selects RX1 yX1_addTruth yX1_addTruth, Cond.code yX1_addTruth cX1_addTruth 4 (some .int), Cond.methodLink RX1 60 yX0_writeText, Cond.instanceMethod yX0_writeText, Cond.selects RX0 yX0_writeText yX0_writeText, Cond.code yX0_writeText cX0_writeText 3 none, Cond.methodLink RX0 29 yJ0_length_8abf5, Cond.methodLink RX0 35 yJ0_charAt_5068e, Cond.methodLink RL 202 yX3_addTruth, Cond.instanceMethod yX3_addTruth, Cond.selects RX3 yX3_addTruth yX3_addTruth, Cond.code yX3_addTruth cX3_addTruth 3 (some .int), Cond.methodLink RL 203 yL_addRow, Cond.static yL_addRow, Cond.codeWith yL_addRow cL_addRow 7 (some .int) [(0, 15, 18, 19), (0, 15, 22, 21)], Cond.methodLink RL 37 yX1_addRow, Cond.instanceMethod yX1_addRow]
def wsL_law0_r23 : List Cond := [Cond.selects RX1 yX1_addRow yX1_addRow, Cond.code yX1_addRow cX1_addRow 6 (some .int), Cond.methodLink RL 206 yX3_addRow, Cond.instanceMethod yX3_addRow, Cond.selects RX3 yX3_addRow yX3_addRow, Cond.code yX3_addRow cX3_addRow 5 (some .int), Cond.methodLink RL 207 yL_addTape, Cond.static yL_addTape, Cond.codeWith yL_addTape cL_addTape 5 (some .int) [(0, 11, 14, 19)], Cond.methodLink RL 41 yX1_addTape, Cond.instanceMethod yX1_addTape, Cond.selects RX1 yX1_addTape yX1_addTape, Cond.code yX1_addTape cX1_addTape 4 (some .int), Cond.methodLink RX1 67 yX0_becomeLike, Cond.instanceMethod yX0_becomeLike, Cond.selects RX0 yX0_becomeLike yX0_becomeLike, Cond.code yX0_becomeLike cX0_becomeLike 2 none, Cond.methodLink RL 209 yX3_addTape, Cond.instanceMethod yX3_addTape, Cond.selects RX3 yX3_addTape yX3_addTape, Cond.code yX3_addTape cX3_addTape 3 (some .int), Cond.methodLink RL 210 yL_addOften, Cond.static yL_addOften, Cond.codeWith yL_addOften cL_addOften 6 (some .int) [(0, 13, 16, 19), (0, 13, 20, 21)]]
def wsL_law0_r24 : List Cond := [Cond.methodLink RL 44 yX1_addOften, Cond.instanceMethod yX1_addOften, Cond.selects RX1 yX1_addOften yX1_addOften, Cond.code yX1_addOften cX1_addOften 6 (some .int), Cond.methodLink RX1 71 yX1_checkOften, Cond.static yX1_checkOften, Cond.code yX1_checkOften cX1_checkOften 1 none, Cond.methodLink RL 212 yX3_addOften, Cond.instanceMethod yX3_addOften, Cond.selects RX3 yX3_addOften yX3_addOften, Cond.code yX3_addOften cX3_addOften 6 (some .int), Cond.constantLong RX3 131 (20), Cond.methodLink RL 213 yL_addThree, Cond.static yL_addThree, Cond.codeWith yL_addThree cL_addThree 7 (some .int) [(0, 15, 18, 19), (0, 15, 22, 21)], Cond.methodLink RL 47 yX1_addThree, Cond.instanceMethod yX1_addThree, Cond.selects RX1 yX1_addThree yX1_addThree, Cond.code yX1_addThree cX1_addThree 6 (some .int), Cond.methodLink RL 215 yX3_addThree, Cond.instanceMethod yX3_addThree, Cond.selects RX3 yX3_addThree yX3_addThree, Cond.code yX3_addThree cX3_addThree 5 (some .int), Cond.methodLink RL 216 yL_putWord]
def wsL_law0_r25 : List Cond := [Cond.static yL_putWord, Cond.codeWith yL_putWord cL_putWord 6 (some .int) [(0, 13, 16, 19), (0, 13, 20, 21)], Cond.methodLink RL 50 yX1_putWord, Cond.instanceMethod yX1_putWord, Cond.selects RX1 yX1_putWord yX1_putWord, Cond.code yX1_putWord cX1_putWord 5 (some .int), Cond.methodLink RX1 80 yX1_checkPlaceOrEnd, Cond.static yX1_checkPlaceOrEnd, Cond.code yX1_checkPlaceOrEnd cX1_checkPlaceOrEnd 2 none, Cond.methodLink RL 218 yX3_putWord, Cond.instanceMethod yX3_putWord, Cond.selects RX3 yX3_putWord yX3_putWord, Cond.code yX3_putWord cX3_putWord 4 (some .int), Cond.methodLink RX3 133 yX3_isNoGap, Cond.instanceMethod yX3_isNoGap, Cond.selects RX3 yX3_isNoGap yX3_isNoGap, Cond.code yX3_isNoGap cX3_isNoGap 3 (some .boolean), Cond.methodLink RL 219 yL_putNumber, Cond.static yL_putNumber, Cond.codeWith yL_putNumber cL_putNumber 6 (some .int) [(0, 13, 16, 19)], Cond.methodLink RL 53 yX1_putNumber, Cond.instanceMethod yX1_putNumber, Cond.selects RX1 yX1_putNumber yX1_putNumber, Cond.code yX1_putNumber cX1_putNumber 5 (some .int)]
def wsL_law0_r26 : List Cond := [Cond.methodLink RL 221 yX3_putNumber, Cond.instanceMethod yX3_putNumber, Cond.selects RX3 yX3_putNumber yX3_putNumber, Cond.code yX3_putNumber cX3_putNumber 4 (some .int), Cond.methodLink RL 222 yL_putSign, Cond.static yL_putSign, Cond.codeWith yL_putSign cL_putSign 6 (some .int) [(0, 13, 16, 19), (0, 13, 20, 21)], Cond.methodLink RL 56 yX1_putSign, Cond.instanceMethod yX1_putSign, Cond.selects RX1 yX1_putSign yX1_putSign, Cond.code yX1_putSign cX1_putSign 5 (some .int), Cond.methodLink RL 224 yX3_putSign, Cond.instanceMethod yX3_putSign, Cond.selects RX3 yX3_putSign yX3_putSign, Cond.code yX3_putSign cX3_putSign 4 (some .int), Cond.methodLink RL 225 yL_putTape, Cond.static yL_putTape, Cond.codeWith yL_putTape cL_putTape 6 (some .int) [(0, 13, 16, 19)], Cond.methodLink RL 59 yX1_putTape, Cond.instanceMethod yX1_putTape, Cond.selects RX1 yX1_putTape yX1_putTape, Cond.code yX1_putTape cX1_putTape 6 (some .int), Cond.methodLink RL 227 yX3_putTape, Cond.instanceMethod yX3_putTape]
def wsL_law0_r27 : List Cond := [Cond.selects RX3 yX3_putTape yX3_putTape, Cond.code yX3_putTape cX3_putTape 4 (some .int), Cond.methodLink RL 228 yL_takeOut, Cond.static yL_takeOut, Cond.codeWith yL_takeOut cL_takeOut 6 (some .int) [(0, 13, 16, 19), (0, 13, 20, 21)], Cond.methodLink RL 62 yX1_takeOut, Cond.instanceMethod yX1_takeOut, Cond.selects RX1 yX1_takeOut yX1_takeOut, Cond.code yX1_takeOut cX1_takeOut 5 (some .int), Cond.methodLink RX1 96 Lib.Math.min.name, Cond.methodLink RX1 88 yX1_checkOrder, Cond.static yX1_checkOrder, Cond.code yX1_checkOrder cX1_checkOrder 2 none, Cond.methodLink RL 230 yX3_takeOut, Cond.instanceMethod yX3_takeOut, Cond.selects RX3 yX3_takeOut yX3_takeOut, Cond.code yX3_takeOut cX3_takeOut 4 (some .int), Cond.methodLink RX3 137 yX3_end, Cond.instanceMethod yX3_end, Cond.selects RX3 yX3_end yX3_end, Cond.code yX3_end cX3_end 3 (some .int), Cond.methodLink RX3 86 Lib.Math.min.name, Cond.methodLink RL 231 yL_takeSign, Cond.static yL_takeSign]
def wsL_law0_r28 : List Cond := [Cond.codeWith yL_takeSign cL_takeSign 5 (some .int) [(0, 11, 14, 19)], Cond.methodLink RL 65 yX1_takeSign, Cond.instanceMethod yX1_takeSign, Cond.selects RX1 yX1_takeSign yX1_takeSign, Cond.code yX1_takeSign cX1_takeSign 5 (some .int), Cond.methodLink RX1 102 yX1_checkPlace, Cond.static yX1_checkPlace, Cond.code yX1_checkPlace cX1_checkPlace 2 none, Cond.methodLink RX1 105 yX0_signAt, Cond.instanceMethod yX0_signAt, Cond.selects RX0 yX0_signAt yX0_signAt, Cond.code yX0_signAt cX0_signAt 2 (some .int), Cond.methodLink RL 233 yX3_takeSign, Cond.instanceMethod yX3_takeSign, Cond.selects RX3 yX3_takeSign yX3_takeSign, Cond.code yX3_takeSign cX3_takeSign 4 (some .int), Cond.methodLink RX3 140 yX3_isNoPlace, Cond.instanceMethod yX3_isNoPlace, Cond.selects RX3 yX3_isNoPlace yX3_isNoPlace, Cond.code yX3_isNoPlace cX3_isNoPlace 3 (some .boolean), Cond.methodLink RL 234 yL_exchange, Cond.static yL_exchange, Cond.codeWith yL_exchange cL_exchange 7 (some .int) [(0, 15, 18, 19), (0, 15, 22, 21)], Cond.methodLink RL 68 yX1_exchange]
def wsL_law0_r29 : List Cond := [Cond.instanceMethod yX1_exchange, Cond.selects RX1 yX1_exchange yX1_exchange, Cond.code yX1_exchange cX1_exchange 6 (some .int), Cond.methodLink RL 236 yX3_exchange, Cond.instanceMethod yX3_exchange, Cond.selects RX3 yX3_exchange yX3_exchange, Cond.code yX3_exchange cX3_exchange 5 (some .int), Cond.methodLink RL 237 yL_exchangeTape, Cond.static yL_exchangeTape, Cond.codeWith yL_exchangeTape cL_exchangeTape 7 (some .int) [(0, 15, 18, 19), (0, 15, 22, 21)], Cond.methodLink RL 71 yX1_exchangeTape, Cond.instanceMethod yX1_exchangeTape, Cond.selects RX1 yX1_exchangeTape yX1_exchangeTape, Cond.code yX1_exchangeTape cX1_exchangeTape 7 (some .int), Cond.methodLink RL 239 yX3_exchangeTape, Cond.instanceMethod yX3_exchangeTape, Cond.selects RX3 yX3_exchangeTape yX3_exchangeTape, Cond.code yX3_exchangeTape cX3_exchangeTape 5 (some .int), Cond.methodLink RL 240 yL_setSign, Cond.static yL_setSign, Cond.codeWith yL_setSign cL_setSign 6 (some .int) [(0, 13, 16, 19), (0, 13, 20, 21)], Cond.methodLink RL 74 yX1_setSign, Cond.instanceMethod yX1_setSign, Cond.selects RX1 yX1_setSign yX1_setSign]
def wsL_law0_r30 : List Cond := [Cond.code yX1_setSign cX1_setSign 6 (some .int), Cond.methodLink RX1 109 yX0_changeSign, Cond.instanceMethod yX0_changeSign, Cond.selects RX0 yX0_changeSign yX0_changeSign, Cond.code yX0_changeSign cX0_changeSign 3 none, Cond.methodLink RL 242 yX3_setSign, Cond.instanceMethod yX3_setSign, Cond.selects RX3 yX3_setSign yX3_setSign, Cond.code yX3_setSign cX3_setSign 5 (some .int), Cond.methodLink RL 243 yL_setLength, Cond.static yL_setLength, Cond.codeWith yL_setLength cL_setLength 5 (some .int) [(0, 11, 14, 19), (0, 11, 18, 21)], Cond.methodLink RL 77 yX1_setLength, Cond.instanceMethod yX1_setLength, Cond.selects RX1 yX1_setLength yX1_setLength, Cond.code yX1_setLength cX1_setLength 5 (some .int), Cond.methodLink RX1 112 yX1_checkLength, Cond.static yX1_checkLength, Cond.code yX1_checkLength cX1_checkLength 1 none, Cond.methodLink RX1 115 yX0_becomeLong, Cond.instanceMethod yX0_becomeLong, Cond.selects RX0 yX0_becomeLong yX0_becomeLong, Cond.code yX0_becomeLong cX0_becomeLong 3 none, Cond.methodLink RL 245 yX3_setLength]
def wsL_law0_r31 : List Cond := [Cond.instanceMethod yX3_setLength, Cond.selects RX3 yX3_setLength yX3_setLength, Cond.code yX3_setLength cX3_setLength 4 (some .int), Cond.constantLong RX3 143 (200), Cond.methodLink RL 246 yL_turn, Cond.static yL_turn, Cond.codeWith yL_turn cL_turn 4 (some .int) [(0, 10, 13, 19)], Cond.methodLink RL 80 yX1_turn, Cond.instanceMethod yX1_turn, Cond.selects RX1 yX1_turn yX1_turn, Cond.code yX1_turn cX1_turn 3 (some .int), Cond.methodLink RX1 118 yX0_turnRound, Cond.instanceMethod yX0_turnRound, Cond.selects RX0 yX0_turnRound yX0_turnRound, Cond.code yX0_turnRound cX0_turnRound 1 none, Cond.methodLink RL 249 yX3_turn, Cond.instanceMethod yX3_turn, Cond.selects RX3 yX3_turn yX3_turn, Cond.code yX3_turn cX3_turn 2 (some .int), Cond.methodLink RX3 145 yX3_turned, Cond.static yX3_turned, Cond.code yX3_turned cX3_turned 3 (some (.array .int)), Cond.methodLink RL 250 yL_copy, Cond.static yL_copy]
def wsL_law0_r32 : List Cond := [Cond.codeWith yL_copy cL_copy 5 (some .int) [(0, 11, 14, 19)], Cond.methodLink RL 84 yX1_copy, Cond.instanceMethod yX1_copy, Cond.selects RX1 yX1_copy yX1_copy, Cond.code yX1_copy cX1_copy 4 (some .int), Cond.methodLink RL 252 yX3_copy, Cond.instanceMethod yX3_copy, Cond.selects RX3 yX3_copy yX3_copy, Cond.code yX3_copy cX3_copy 3 (some .int), Cond.methodLink RX3 149 yX3_become, Cond.instanceMethod yX3_become, Cond.selects RX3 yX3_become yX3_become, Cond.code yX3_become cX3_become 3 (some .int), Cond.methodLink RL 253 yL_trim, Cond.static yL_trim, Cond.codeWith yL_trim cL_trim 4 (some .int) [(0, 10, 13, 19)], Cond.methodLink RL 87 yX1_trim, Cond.instanceMethod yX1_trim, Cond.selects RX1 yX1_trim yX1_trim, Cond.code yX1_trim cX1_trim 5 (some .int), Cond.methodLink RX1 121 yX0_innerEnd, Cond.instanceMethod yX0_innerEnd, Cond.selects RX0 yX0_innerEnd yX0_innerEnd, Cond.code yX0_innerEnd cX0_innerEnd 2 (some .int)]
def wsL_law0_r33 : List Cond := [Cond.methodLink RX1 125 yX0_innerStart, Cond.instanceMethod yX0_innerStart, Cond.selects RX0 yX0_innerStart yX0_innerStart, Cond.code yX0_innerStart cX0_innerStart 2 (some .int), Cond.methodLink RL 255 yX3_trim_, Cond.instanceMethod yX3_trim_, Cond.selects RX3 yX3_trim_ yX3_trim_, Cond.code yX3_trim_ cX3_trim_ 3 (some .int), Cond.methodLink RX3 152 yX3_trim, Cond.static yX3_trim, Cond.code yX3_trim cX3_trim 3 (some (.array .int)), Cond.methodLink RL 256 yL_picture, Cond.static yL_picture, Cond.codeWith yL_picture cL_picture 4 (some .int) [(0, 10, 13, 19)], Cond.methodLink RL 90 yX1_picture, Cond.instanceMethod yX1_picture, Cond.selects RX1 yX1_picture yX1_picture, Cond.code yX1_picture cX1_picture 2 (some .int), Cond.methodLink RL 258 yX3_picture, Cond.instanceMethod yX3_picture, Cond.selects RX3 yX3_picture yX3_picture, Cond.code yX3_picture cX3_picture 2 (some .int), Cond.methodLink RL 259 yL_watch, Cond.static yL_watch]
def wsL_law0_r34 : List Cond := [Cond.codeWith yL_watch cL_watch 4 (some .int) [(0, 10, 13, 19)], Cond.methodLink RL 93 yX1_watch, Cond.instanceMethod yX1_watch, Cond.selects RX1 yX1_watch yX1_watch, Cond.code yX1_watch cX1_watch 3 (some .int), Cond.fieldLink RX1 131 "Tapebuffer" "watchedTape" "I", Cond.methodLink RL 261 yX3_watch, Cond.instanceMethod yX3_watch, Cond.selects RX3 yX3_watch yX3_watch, Cond.code yX3_watch cX3_watch 3 (some .int), Cond.fieldLink RX3 155 "TapebufferModel" "watched" "I", Cond.methodLink RL 262 yL_back, Cond.static yL_back, Cond.codeWith yL_back cL_back 4 (some .int) [(0, 10, 13, 19)], Cond.methodLink RL 96 yX1_back, Cond.instanceMethod yX1_back, Cond.selects RX1 yX1_back yX1_back, Cond.code yX1_back cX1_back 3 (some .int), Cond.methodLink RL 264 yX3_back, Cond.instanceMethod yX3_back, Cond.selects RX3 yX3_back yX3_back, Cond.code yX3_back cX3_back 2 (some .int), Cond.methodLink RL 265 yX1_knock, Cond.instanceMethod yX1_knock]
def wsL_law0_r35 : List Cond := [Cond.selects RX1 yX1_knock yX1_knock, Cond.code yX1_knock cX1_knock 1 (some .int), Cond.fieldLink RX1 134 "Tapebuffer" "knocks" "I", Cond.methodLink RL 269 yX3_knock, Cond.instanceMethod yX3_knock, Cond.selects RX3 yX3_knock yX3_knock, Cond.code yX3_knock cX3_knock 1 (some .int), Cond.fieldLink RX3 158 "TapebufferModel" "knocked" "I", Cond.methodLink RL 270 yL_length, Cond.static yL_length, Cond.codeWith yL_length cL_length 4 (some .int) [(0, 10, 13, 19)], Cond.methodLink RL 99 yX1_length, Cond.instanceMethod yX1_length, Cond.selects RX1 yX1_length yX1_length, Cond.code yX1_length cX1_length 2 (some .int), Cond.methodLink RL 272 yX3_length, Cond.instanceMethod yX3_length, Cond.selects RX3 yX3_length yX3_length, Cond.code yX3_length cX3_length 2 (some .int), Cond.methodLink RL 273 yL_sign, Cond.static yL_sign, Cond.codeWith yL_sign cL_sign 5 (some .int) [(0, 11, 14, 19)], Cond.methodLink RL 102 yX1_sign, Cond.instanceMethod yX1_sign]
def wsL_law0_r36 : List Cond := [Cond.selects RX1 yX1_sign yX1_sign, Cond.code yX1_sign cX1_sign 4 (some .int), Cond.methodLink RL 275 yX3_sign, Cond.instanceMethod yX3_sign, Cond.selects RX3 yX3_sign yX3_sign, Cond.code yX3_sign cX3_sign 3 (some .int), Cond.methodLink RL 276 yL_text, Cond.static yL_text, Cond.codeWith yL_text cL_text 4 (some .int) [(0, 9, 12, 19)], Cond.methodLink RL 105 yX1_text, Cond.instanceMethod yX1_text, Cond.selects RX1 yX1_text yX1_text, Cond.code yX1_text cX1_text 3 (some (.object "java/lang/String")), Cond.methodLink RX1 137 yX0_textOf, Cond.instanceMethod yX0_textOf, Cond.selects RX0 yX0_textOf yX0_textOf, Cond.code yX0_textOf cX0_textOf 5 (some (.object "java/lang/String")), Cond.arrayClass .char, Cond.classLink RX0 30 RJ0, Cond.methodLink RX0 52 yJ0_init_905df, Cond.instanceMethod yJ0_init_905df, Cond.code yJ0_init_905df cJ0_init_905df 2 none, Cond.methodLink RJ0 27 yJ0_init_bb550, Cond.instanceMethod yJ0_init_bb550]
def wsL_law0_r37 : List Cond := [Cond.code yJ0_init_bb550 cJ0_init_bb550 6 none, Cond.methodLink RJ0 177 yJ2_compress_dfd3c, Cond.static yJ2_compress_dfd3c, Cond.code yJ2_compress_dfd3c cJ2_compress_dfd3c 6 (some (.array .byte)), Cond.methodLink RJ2 115 yJ2_compress_fe38e, Cond.static yJ2_compress_fe38e, Cond.code yJ2_compress_fe38e cJ2_compress_fe38e 7 (some .int), Cond.methodLink RJ2 119 yJ2_toBytes_dfd3c, Cond.static yJ2_toBytes_dfd3c, Cond.code yJ2_toBytes_dfd3c cJ2_toBytes_dfd3c 5 (some (.array .byte)), Cond.methodLink RJ2 107 yJ2_newBytesFor_77867, Cond.methodLink RJ0 180 yJ2_toBytes_dfd3c, Cond.methodLink RL 278 yX3_text_, Cond.instanceMethod yX3_text_, Cond.selects RX3 yX3_text_ yX3_text_, Cond.code yX3_text_ cX3_text_ 2 (some (.object "java/lang/String")), Cond.methodLink RX3 161 yX3_text, Cond.static yX3_text, Cond.code yX3_text cX3_text 6 (some (.object "java/lang/String")), Cond.methodLink RL 279 yL_part, Cond.static yL_part, Cond.codeWith yL_part cL_part 6 (some .int) [(0, 12, 15, 19), (0, 12, 19, 21)], Cond.methodLink RL 113 yX1_part, Cond.instanceMethod yX1_part]
def wsL_law0_r38 : List Cond := [Cond.selects RX1 yX1_part yX1_part, Cond.code yX1_part cX1_part 5 (some (.object "java/lang/String")), Cond.methodLink RX1 141 yX1_checkPart, Cond.static yX1_checkPart, Cond.code yX1_checkPart cX1_checkPart 3 none, Cond.methodLink RL 281 yX3_part_, Cond.instanceMethod yX3_part_, Cond.selects RX3 yX3_part_ yX3_part_, Cond.code yX3_part_ cX3_part_ 4 (some (.object "java/lang/String")), Cond.methodLink RL 282 yL_rest, Cond.static yL_rest, Cond.codeWith yL_rest cL_rest 5 (some .int) [(0, 10, 13, 19)], Cond.methodLink RL 117 yX1_rest, Cond.instanceMethod yX1_rest, Cond.selects RX1 yX1_rest yX1_rest, Cond.code yX1_rest cX1_rest 4 (some (.object "java/lang/String")), Cond.methodLink RL 284 yX3_rest, Cond.instanceMethod yX3_rest, Cond.selects RX3 yX3_rest yX3_rest, Cond.code yX3_rest cX3_rest 3 (some (.object "java/lang/String")), Cond.methodLink RL 285 yL_find, Cond.static yL_find, Cond.codeWith yL_find cL_find 5 (some .int) [(0, 11, 14, 19), (0, 11, 18, 21)], Cond.methodLink RL 121 yX1_find]
def wsL_law0_r39 : List Cond := [Cond.instanceMethod yX1_find, Cond.selects RX1 yX1_find yX1_find, Cond.code yX1_find cX1_find 3 (some .int), Cond.methodLink RX1 145 yX1_findFrom, Cond.instanceMethod yX1_findFrom, Cond.selects RX1 yX1_findFrom yX1_findFrom, Cond.code yX1_findFrom cX1_findFrom 5 (some .int), Cond.methodLink RX1 149 yX0_firstPlaceOf, Cond.instanceMethod yX0_firstPlaceOf, Cond.selects RX0 yX0_firstPlaceOf yX0_firstPlaceOf, Cond.code yX0_firstPlaceOf cX0_firstPlaceOf 5 (some .int), Cond.methodLink RX0 55 Lib.Math.max.name, Cond.methodLink RX0 59 yX0_standsAt, Cond.instanceMethod yX0_standsAt, Cond.selects RX0 yX0_standsAt yX0_standsAt, Cond.code yX0_standsAt cX0_standsAt 4 (some .boolean), Cond.methodLink RL 287 yX3_find, Cond.instanceMethod yX3_find, Cond.selects RX3 yX3_find yX3_find, Cond.code yX3_find cX3_find 3 (some .int), Cond.methodLink RX3 165 yX3_isNoFind, Cond.instanceMethod yX3_isNoFind, Cond.selects RX3 yX3_isNoFind yX3_isNoFind, Cond.code yX3_isNoFind cX3_isNoFind 3 (some .boolean)]
def wsL_law0_r40 : List Cond := [Cond.methodLink RX3 168 yX3_first, Cond.static yX3_first, Cond.code yX3_first cX3_first 4 (some .int), Cond.methodLink RX3 76 Lib.Math.max.name, Cond.methodLink RX3 82 yX3_stands, Cond.static yX3_stands, Cond.code yX3_stands cX3_stands 5 (some .boolean), Cond.methodLink RL 288 yL_findFrom, Cond.static yL_findFrom, Cond.codeWith yL_findFrom cL_findFrom 6 (some .int) [(0, 13, 16, 19), (0, 13, 20, 21)], Cond.methodLink RL 124 yX1_findFrom, Cond.methodLink RL 290 yX3_findFrom, Cond.instanceMethod yX3_findFrom, Cond.selects RX3 yX3_findFrom yX3_findFrom, Cond.code yX3_findFrom cX3_findFrom 4 (some .int), Cond.methodLink RL 291 yL_findLast, Cond.static yL_findLast, Cond.codeWith yL_findLast cL_findLast 5 (some .int) [(0, 11, 14, 19), (0, 11, 18, 21)], Cond.methodLink RL 127 yX1_findLast, Cond.instanceMethod yX1_findLast, Cond.selects RX1 yX1_findLast yX1_findLast, Cond.code yX1_findLast cX1_findLast 3 (some .int), Cond.methodLink RX1 153 yX1_findLastFrom, Cond.instanceMethod yX1_findLastFrom]
def wsL_law0_r41 : List Cond := [Cond.selects RX1 yX1_findLastFrom yX1_findLastFrom, Cond.code yX1_findLastFrom cX1_findLastFrom 5 (some .int), Cond.methodLink RX1 156 yX0_lastPlaceOf, Cond.instanceMethod yX0_lastPlaceOf, Cond.selects RX0 yX0_lastPlaceOf yX0_lastPlaceOf, Cond.code yX0_lastPlaceOf cX0_lastPlaceOf 4 (some .int), Cond.methodLink RX0 63 Lib.Math.min.name, Cond.methodLink RL 293 yX3_findLast, Cond.instanceMethod yX3_findLast, Cond.selects RX3 yX3_findLast yX3_findLast, Cond.code yX3_findLast cX3_findLast 3 (some .int), Cond.methodLink RX3 172 yX3_last, Cond.static yX3_last, Cond.code yX3_last cX3_last 4 (some .int), Cond.methodLink RL 294 yL_findLastFrom, Cond.static yL_findLastFrom, Cond.codeWith yL_findLastFrom cL_findLastFrom 6 (some .int) [(0, 13, 16, 19), (0, 13, 20, 21)], Cond.methodLink RL 130 yX1_findLastFrom, Cond.methodLink RL 296 yX3_findLastFrom, Cond.instanceMethod yX3_findLastFrom, Cond.selects RX3 yX3_findLastFrom yX3_findLastFrom, Cond.code yX3_findLastFrom cX3_findLastFrom 4 (some .int), Cond.methodLink RL 297 yL_findTape, Cond.static yL_findTape]
def wsL_law0_r42 : List Cond := [Cond.codeWith yL_findTape cL_findTape 5 (some .int) [(0, 11, 14, 19)], Cond.methodLink RL 133 yX1_findTape, Cond.instanceMethod yX1_findTape, Cond.selects RX1 yX1_findTape yX1_findTape, Cond.code yX1_findTape cX1_findTape 4 (some .int), Cond.methodLink RL 299 yX3_findTape, Cond.instanceMethod yX3_findTape, Cond.selects RX3 yX3_findTape yX3_findTape, Cond.code yX3_findTape cX3_findTape 3 (some .int), Cond.methodLink RL 300 yL_findTapeLast, Cond.static yL_findTapeLast, Cond.codeWith yL_findTapeLast cL_findTapeLast 5 (some .int) [(0, 11, 14, 19)], Cond.methodLink RL 136 yX1_findTapeLast, Cond.instanceMethod yX1_findTapeLast, Cond.selects RX1 yX1_findTapeLast yX1_findTapeLast, Cond.code yX1_findTapeLast cX1_findTapeLast 4 (some .int), Cond.methodLink RL 302 yX3_findTapeLast, Cond.instanceMethod yX3_findTapeLast, Cond.selects RX3 yX3_findTapeLast yX3_findTapeLast, Cond.code yX3_findTapeLast cX3_findTapeLast 3 (some .int), Cond.methodLink RL 303 yL_findSign, Cond.static yL_findSign, Cond.codeWith yL_findSign cL_findSign 5 (some .int) [(0, 11, 14, 19), (0, 11, 18, 21)], Cond.methodLink RL 139 yX1_findSign]
def wsL_law0_r43 : List Cond := [Cond.instanceMethod yX1_findSign, Cond.selects RX1 yX1_findSign yX1_findSign, Cond.code yX1_findSign cX1_findSign 4 (some .int), Cond.methodLink RL 305 yX3_findSign, Cond.instanceMethod yX3_findSign, Cond.selects RX3 yX3_findSign yX3_findSign, Cond.code yX3_findSign cX3_findSign 3 (some .int), Cond.methodLink RL 306 yL_has, Cond.static yL_has, Cond.codeWith yL_has cL_has 5 (some .int) [(0, 18, 21, 19), (0, 18, 25, 21)], Cond.methodLink RL 142 yX1_has, Cond.instanceMethod yX1_has, Cond.selects RX1 yX1_has yX1_has, Cond.code yX1_has cX1_has 3 (some .boolean), Cond.methodLink RX1 159 yX1_find, Cond.methodLink RL 308 yX3_has, Cond.instanceMethod yX3_has, Cond.selects RX3 yX3_has yX3_has, Cond.code yX3_has cX3_has 3 (some .boolean), Cond.methodLink RL 309 yL_compare, Cond.static yL_compare, Cond.codeWith yL_compare cL_compare 5 (some .int) [(0, 11, 14, 19)], Cond.methodLink RL 146 yX1_compare, Cond.instanceMethod yX1_compare]
def wsL_law0_r44 : List Cond := [Cond.selects RX1 yX1_compare yX1_compare, Cond.code yX1_compare cX1_compare 4 (some .int), Cond.methodLink RX1 162 yX0_orderAgainst, Cond.instanceMethod yX0_orderAgainst, Cond.selects RX0 yX0_orderAgainst yX0_orderAgainst, Cond.code yX0_orderAgainst cX0_orderAgainst 3 (some .int), Cond.methodLink RX0 66 yX0_differenceFrom, Cond.instanceMethod yX0_differenceFrom, Cond.selects RX0 yX0_differenceFrom yX0_differenceFrom, Cond.code yX0_differenceFrom cX0_differenceFrom 4 (some .int), Cond.methodLink RL 311 yX3_compare, Cond.instanceMethod yX3_compare, Cond.selects RX3 yX3_compare yX3_compare, Cond.code yX3_compare cX3_compare 3 (some .int), Cond.methodLink RX3 183 yX3_compareNow, Cond.instanceMethod yX3_compareNow, Cond.selects RX3 yX3_compareNow yX3_compareNow, Cond.code yX3_compareNow cX3_compareNow 4 (some .int), Cond.methodLink RX3 175 yX3_apart, Cond.static yX3_apart, Cond.code yX3_apart cX3_apart 3 (some .int), Cond.methodLink RX3 179 yX3_one, Cond.static yX3_one, Cond.code yX3_one cX3_one 1 (some .int)]
def wsL_law0_r45 : List Cond := [Cond.methodLink RL 312 yL_apart, Cond.static yL_apart, Cond.codeWith yL_apart cL_apart 5 (some .int) [(0, 11, 14, 19)], Cond.methodLink RL 149 yX1_apart, Cond.instanceMethod yX1_apart, Cond.selects RX1 yX1_apart yX1_apart, Cond.code yX1_apart cX1_apart 4 (some .int), Cond.methodLink RX1 165 yX0_differenceFrom, Cond.methodLink RL 314 yX3_apart_, Cond.instanceMethod yX3_apart_, Cond.selects RX3 yX3_apart_ yX3_apart_, Cond.code yX3_apart_ cX3_apart_ 3 (some .int), Cond.methodLink RL 315 yL_isLike, Cond.static yL_isLike, Cond.codeWith yL_isLike cL_isLike 5 (some .int) [(0, 18, 21, 19)], Cond.methodLink RL 152 yX1_isLike, Cond.instanceMethod yX1_isLike, Cond.selects RX1 yX1_isLike yX1_isLike, Cond.code yX1_isLike cX1_isLike 4 (some .boolean), Cond.methodLink RX1 168 yX0_isSameAs, Cond.instanceMethod yX0_isSameAs, Cond.selects RX0 yX0_isSameAs yX0_isSameAs, Cond.code yX0_isSameAs cX0_isSameAs 2 (some .boolean), Cond.methodLink RL 317 yX3_isLike]
def wsL_law0_r46 : List Cond := [Cond.instanceMethod yX3_isLike, Cond.selects RX3 yX3_isLike yX3_isLike, Cond.code yX3_isLike cX3_isLike 3 (some .boolean), Cond.methodLink RL 318 yL_hash, Cond.static yL_hash, Cond.codeWith yL_hash cL_hash 4 (some .int) [(0, 10, 13, 19)], Cond.methodLink RL 155 yX1_hash, Cond.instanceMethod yX1_hash, Cond.selects RX1 yX1_hash yX1_hash, Cond.code yX1_hash cX1_hash 5 (some .int), Cond.methodLink RL 320 yX3_hash, Cond.instanceMethod yX3_hash, Cond.selects RX3 yX3_hash yX3_hash, Cond.code yX3_hash cX3_hash 2 (some .int), Cond.methodLink RX3 186 yX3_hashOf, Cond.static yX3_hashOf, Cond.code yX3_hashOf cX3_hashOf 6 (some .int), Cond.methodLink RL 321 yL_number, Cond.static yL_number, Cond.codeWith yL_number cL_number 7 (some .int) [(0, 14, 17, 19), (0, 14, 21, 21)], Cond.methodLink RL 158 yX1_number, Cond.instanceMethod yX1_number, Cond.selects RX1 yX1_number yX1_number, Cond.code yX1_number cX1_number 8 (some (.object "java/lang/String"))]
def wsL_law0_r47 : List Cond := [Cond.methodLink RX1 172 yX1_checkBase, Cond.static yX1_checkBase, Cond.code yX1_checkBase cX1_checkBase 1 none, Cond.methodLink RX1 175 yX0_readNumber, Cond.instanceMethod yX0_readNumber, Cond.selects RX0 yX0_readNumber yX0_readNumber, Cond.code yX0_readNumber cX0_readNumber 13 (some .long), Cond.constantLong RX0 73 (4294967296), Cond.constantLong RX0 75 (2147483648), Cond.constantLong RX0 77 (2147483647), Cond.methodLink RX0 70 yX0_signAt, Cond.methodLink RX0 79 yX0_digitOf, Cond.static yX0_digitOf, Cond.code yX0_digitOf cX0_digitOf 1 (some .int), Cond.methodLink RL 323 yX3_number, Cond.instanceMethod yX3_number, Cond.selects RX3 yX3_number yX3_number, Cond.code yX3_number cX3_number 5 (some (.object "java/lang/String")), Cond.constantLong RX3 219 (2), Cond.constantLong RX3 221 (36), Cond.methodLink RX3 223 yX3_numberOf, Cond.static yX3_numberOf, Cond.code yX3_numberOf cX3_numberOf 9 (some (.object "java/lang/String")), Cond.constantLong RX3 208 (1099511627776)]
def wsL_law0_r48 : List Cond := [Cond.methodLink RX3 210 Lib.MathLoose.min_long.x, Cond.static Lib.MathLoose.min_long.x, Cond.code Lib.MathLoose.min_long.x Lib.MathLoose.min_long.code 4 (some .long), Cond.constantLong RX3 215 (-2147483648), Cond.constantLong RX3 217 (2147483647), Cond.methodLink RX3 204 yX3_digit, Cond.static yX3_digit, Cond.code yX3_digit cX3_digit 1 (some .int), Cond.constantLong RX3 190 (48), Cond.constantLong RX3 192 (57), Cond.constantLong RX3 194 (97), Cond.constantLong RX3 196 (122), Cond.constantLong RX3 198 (65), Cond.constantLong RX3 200 (90), Cond.methodLink RL 324 yL_isBlank, Cond.static yL_isBlank, Cond.codeWith yL_isBlank cL_isBlank 4 (some .int) [(0, 17, 20, 19)], Cond.methodLink RL 162 yX1_isBlank, Cond.instanceMethod yX1_isBlank, Cond.selects RX1 yX1_isBlank yX1_isBlank, Cond.code yX1_isBlank cX1_isBlank 4 (some .boolean), Cond.methodLink RX1 181 yX1_isBlankSign, Cond.static yX1_isBlankSign, Cond.code yX1_isBlankSign cX1_isBlankSign 1 (some .boolean)]
def wsL_law0_r49 : List Cond := [Cond.methodLink RL 326 yX3_isBlank, Cond.instanceMethod yX3_isBlank, Cond.selects RX3 yX3_isBlank yX3_isBlank, Cond.code yX3_isBlank cX3_isBlank 2 (some .boolean), Cond.methodLink RX3 235 yX3_isBlankRow, Cond.static yX3_isBlankRow, Cond.code yX3_isBlankRow cX3_isBlankRow 6 (some .boolean), Cond.constantLong RX3 227 (9), Cond.constantLong RX3 229 (13), Cond.constantLong RX3 231 (28), Cond.constantLong RX3 233 (32), Cond.methodLink RL 327 yL_trimmed, Cond.static yL_trimmed, Cond.codeWith yL_trimmed cL_trimmed 4 (some .int) [(0, 9, 12, 19)], Cond.methodLink RL 166 yX1_trimmed, Cond.instanceMethod yX1_trimmed, Cond.selects RX1 yX1_trimmed yX1_trimmed, Cond.code yX1_trimmed cX1_trimmed 4 (some (.object "java/lang/String")), Cond.methodLink RL 329 yX3_trimmed, Cond.instanceMethod yX3_trimmed, Cond.selects RX3 yX3_trimmed yX3_trimmed, Cond.code yX3_trimmed cX3_trimmed 2 (some (.object "java/lang/String")), Cond.methodLink RL 330 yX1_seen, Cond.instanceMethod yX1_seen]
def wsL_law0_r50 : List Cond := [Cond.selects RX1 yX1_seen yX1_seen, Cond.code yX1_seen cX1_seen 1 (some (.object "java/lang/String")), Cond.methodLink RL 334 yX3_seen, Cond.instanceMethod yX3_seen, Cond.selects RX3 yX3_seen yX3_seen, Cond.code yX3_seen cX3_seen 1 (some (.object "java/lang/String")), Cond.methodLink RL 335 yL_watched, Cond.static yL_watched, Cond.codeWith yL_watched cL_watched 4 (some .int) [(0, 10, 13, 21)], Cond.methodLink RL 169 yX1_watched, Cond.instanceMethod yX1_watched, Cond.selects RX1 yX1_watched yX1_watched, Cond.code yX1_watched cX1_watched 3 (some .int), Cond.methodLink RL 337 yX3_watched, Cond.instanceMethod yX3_watched, Cond.selects RX3 yX3_watched yX3_watched, Cond.code yX3_watched cX3_watched 2 (some .int), Cond.methodLink RX3 239 yX3_watchedNow, Cond.instanceMethod yX3_watchedNow, Cond.selects RX3 yX3_watchedNow yX3_watchedNow, Cond.code yX3_watchedNow cX3_watchedNow 3 (some .int), Cond.methodLink RL 338 yL_word, Cond.static yL_word, Cond.codeWith yL_word cL_word 4 (some .int) [(0, 9, 12, 21)]]
def wsL_law0_r51 : List Cond := [Cond.methodLink RL 172 yX1_word, Cond.instanceMethod yX1_word, Cond.selects RX1 yX1_word yX1_word, Cond.code yX1_word cX1_word 2 (some (.object "java/lang/String")), Cond.methodLink RL 340 yX3_word, Cond.instanceMethod yX3_word, Cond.selects RX3 yX3_word yX3_word, Cond.code yX3_word cX3_word 2 (some (.object "java/lang/String")), Cond.methodLink RL 341 yL_house, Cond.static yL_house, Cond.codeWith yL_house cL_house 4 (some .int) [(0, 10, 13, 21)], Cond.methodLink RL 175 yX1_house, Cond.instanceMethod yX1_house, Cond.selects RX1 yX1_house yX1_house, Cond.code yX1_house cX1_house 2 (some .int), Cond.methodLink RX1 193 yX1_signsOnAllTapes, Cond.instanceMethod yX1_signsOnAllTapes, Cond.selects RX1 yX1_signsOnAllTapes yX1_signsOnAllTapes, Cond.code yX1_signsOnAllTapes cX1_signsOnAllTapes 3 (some .int), Cond.methodLink RX1 196 yX1_emptyTapes, Cond.instanceMethod yX1_emptyTapes, Cond.selects RX1 yX1_emptyTapes yX1_emptyTapes, Cond.code yX1_emptyTapes cX1_emptyTapes 3 (some .int), Cond.methodLink RL 343 yX3_house]
def wsL_law0_r52 : List Cond := [Cond.instanceMethod yX3_house, Cond.selects RX3 yX3_house yX3_house, Cond.code yX3_house cX3_house 2 (some .int), Cond.constantLong RX3 242 (4), Cond.methodLink RX3 244 yX3_houseNow, Cond.instanceMethod yX3_houseNow, Cond.selects RX3 yX3_houseNow yX3_houseNow, Cond.code yX3_houseNow cX3_houseNow 8 (some .int), Cond.methodLink RL 344 yX1_isSound, Cond.instanceMethod yX1_isSound, Cond.selects RX1 yX1_isSound yX1_isSound, Cond.code yX1_isSound cX1_isSound 4 (some .boolean), Cond.methodLink RX1 202 yX1_isSameTurnedTwice, Cond.instanceMethod yX1_isSameTurnedTwice, Cond.selects RX1 yX1_isSameTurnedTwice yX1_isSameTurnedTwice, Cond.code yX1_isSameTurnedTwice cX1_isSameTurnedTwice 2 (some .boolean), Cond.methodLink RX1 205 yX1_isSameCutAndJoined, Cond.instanceMethod yX1_isSameCutAndJoined, Cond.selects RX1 yX1_isSameCutAndJoined yX1_isSameCutAndJoined, Cond.code yX1_isSameCutAndJoined cX1_isSameCutAndJoined 3 (some .boolean), Cond.methodLink RX1 283 yX0_dropAhead, Cond.instanceMethod yX0_dropAhead, Cond.selects RX0 yX0_dropAhead yX0_dropAhead, Cond.code yX0_dropAhead cX0_dropAhead 2 none]
def wsL_law0_r53 : List Cond := [Cond.methodLink RX1 286 yX0_standsAt, Cond.methodLink RX1 208 yX1_readsNumberBehindCopy, Cond.instanceMethod yX1_readsNumberBehindCopy, Cond.selects RX1 yX1_readsNumberBehindCopy yX1_readsNumberBehindCopy, Cond.code yX1_readsNumberBehindCopy cX1_readsNumberBehindCopy 3 (some .boolean), Cond.methodLink RX1 211 yX1_standsOneWay, Cond.static yX1_standsOneWay, Cond.code yX1_standsOneWay cX1_standsOneWay 4 (some .boolean), Cond.methodLink RX1 215 yX1_isWatchLikeItsTape, Cond.instanceMethod yX1_isWatchLikeItsTape, Cond.selects RX1 yX1_isWatchLikeItsTape yX1_isWatchLikeItsTape, Cond.code yX1_isWatchLikeItsTape cX1_isWatchLikeItsTape 2 (some .boolean), Cond.methodLink RX1 230 yX1_watched, Cond.methodLink RL 348 yX3_isSound, Cond.instanceMethod yX3_isSound, Cond.selects RX3 yX3_isSound yX3_isSound, Cond.code yX3_isSound cX3_isSound 1 (some .boolean), Cond.methodLink RL 349 yX1_digest, Cond.instanceMethod yX1_digest, Cond.selects RX1 yX1_digest yX1_digest, Cond.code yX1_digest cX1_digest 4 (some .long), Cond.constantLong RX1 219 (7708), Cond.constantLong RX1 221 (31), Cond.methodLink RX1 223 yX1_house]
def wsL_law0_r54 : List Cond := [Cond.methodLink RX1 226 yX1_digestOfTape, Cond.instanceMethod yX1_digestOfTape, Cond.selects RX1 yX1_digestOfTape yX1_digestOfTape, Cond.code yX1_digestOfTape cX1_digestOfTape 7 (some .long), Cond.fieldLink RX1 267 "Tapebuffer" "DIGEST_WORDS" "[I", Cond.methodLink RX1 261 yX1_length, Cond.methodLink RX1 264 yX1_hash, Cond.methodLink RX1 271 yX1_findLast, Cond.methodLink RX1 274 yX1_findTape, Cond.methodLink RX1 277 yX1_compare, Cond.methodLink RX1 280 yX1_isBlank, Cond.methodLink RX1 233 yX1_isSound, Cond.methodLink RL 353 yX3_digest, Cond.instanceMethod yX3_digest, Cond.selects RX3 yX3_digest yX3_digest, Cond.code yX3_digest cX3_digest 9 (some .long), Cond.constantLong RX3 249 (7708), Cond.methodLink RX3 251 yX3_add_, Cond.static yX3_add_, Cond.code yX3_add_ cX3_add_ 4 (some .long), Cond.constantLong RX3 247 (31)]
def wsL_law0 : List Cond := (wsL_law0_r1 ++ (wsL_law0_r2 ++ (wsL_law0_r3 ++ (wsL_law0_r4 ++ (wsL_law0_r5 ++ (wsL_law0_r6 ++ (wsL_law0_r7 ++ (wsL_law0_r8 ++ (wsL_law0_r9 ++ (wsL_law0_r10 ++ (wsL_law0_r11 ++ (wsL_law0_r12 ++ (wsL_law0_r13 ++ (wsL_law0_r14 ++ (wsL_law0_r15 ++ (wsL_law0_r16 ++ (wsL_law0_r17 ++ (wsL_law0_r18 ++ (wsL_law0_r19 ++ (wsL_law0_r20 ++ (wsL_law0_r21 ++ (wsL_law0_r22 ++ (wsL_law0_r23 ++ (wsL_law0_r24 ++ (wsL_law0_r25 ++ (wsL_law0_r26 ++ (wsL_law0_r27 ++ (wsL_law0_r28 ++ (wsL_law0_r29 ++ (wsL_law0_r30 ++ (wsL_law0_r31 ++ (wsL_law0_r32 ++ (wsL_law0_r33 ++ (wsL_law0_r34 ++ (wsL_law0_r35 ++ (wsL_law0_r36 ++ (wsL_law0_r37 ++ (wsL_law0_r38 ++ (wsL_law0_r39 ++ (wsL_law0_r40 ++ (wsL_law0_r41 ++ (wsL_law0_r42 ++ (wsL_law0_r43 ++ (wsL_law0_r44 ++ (wsL_law0_r45 ++ (wsL_law0_r46 ++ (wsL_law0_r47 ++ (wsL_law0_r48 ++ (wsL_law0_r49 ++ (wsL_law0_r50 ++ (wsL_law0_r51 ++ (wsL_law0_r52 ++ (wsL_law0_r53 ++ wsL_law0_r54))))))))))))))))))))))))))))))))))))))))))))))))))))) ++ wsX10 ++ wsX30 ++ wsX20 ++ wsX00 ++ wsJ40 ++ wsJ00 ++ ([] : List Cond)
def wsL_law : List Cond := wsL_law0 ++ (vx_atS RX1 240 "java/lang/IndexOutOfBoundsException" ["java/lang/RuntimeException", "java/lang/Exception"]).filter goodWord ++ (vx_atS RX1 189 "java/lang/IllegalArgumentException" ["java/lang/RuntimeException", "java/lang/Exception"]).filter goodWord
abbrev vwCl : List vw_C := [(RJ0, TJ0, 4), (RJ4, TJ4, 4), (RX0, TX0, 2), (RX1, TX1, 7), (RX2, TX2, 2), (RX3, TX3, 6)]
end
section
theorem dX0_init_0 : decode cX0_init 0 = .ok (.aload_n 0, 1) := by decide +kernel
theorem dX0_init_1 : decode cX0_init 1 = .ok (.invokespecial 3, 3) := by decide +kernel
theorem dX0_init_4 : decode cX0_init 4 = .ok (.aload_n 0, 1) := by decide +kernel
theorem dX0_init_5 : decode cX0_init 5 = .ok (.sipush 256, 3) := by decide +kernel
theorem dX0_init_8 : decode cX0_init 8 = .ok (.newarray .int, 2) := by decide +kernel
theorem dX0_init_10 : decode cX0_init 10 = .ok (.putfield 9, 3) := by decide +kernel
theorem dX0_init_13 : decode cX0_init 13 = .ok (.return_, 1) := by decide +kernel
theorem dX0_becomeLong_0 : decode cX0_becomeLong 0 = .ok (.iload_n 1, 1) := by decide +kernel
theorem dX0_becomeLong_1 : decode cX0_becomeLong 1 = .ok (.ifCond .lt 10, 3) := by decide +kernel
theorem dX0_becomeLong_4 : decode cX0_becomeLong 4 = .ok (.iload_n 1, 1) := by decide +kernel
theorem dX0_becomeLong_5 : decode cX0_becomeLong 5 = .ok (.sipush 256, 3) := by decide +kernel
theorem dX0_becomeLong_8 : decode cX0_becomeLong 8 = .ok (.if_icmp .le 4, 3) := by decide +kernel
theorem dX0_becomeLong_11 : decode cX0_becomeLong 11 = .ok (.return_, 1) := by decide +kernel
theorem dX0_becomeLong_12 : decode cX0_becomeLong 12 = .ok (.aload_n 0, 1) := by decide +kernel
theorem dX0_becomeLong_13 : decode cX0_becomeLong 13 = .ok (.getfield 15, 3) := by decide +kernel
theorem dX0_becomeLong_16 : decode cX0_becomeLong 16 = .ok (.istore_n 2, 1) := by decide +kernel
theorem dX0_becomeLong_17 : decode cX0_becomeLong 17 = .ok (.iload_n 2, 1) := by decide +kernel
theorem dX0_becomeLong_18 : decode cX0_becomeLong 18 = .ok (.iload_n 1, 1) := by decide +kernel
theorem dX0_becomeLong_19 : decode cX0_becomeLong 19 = .ok (.if_icmp .ge 16, 3) := by decide +kernel
theorem dX0_becomeLong_22 : decode cX0_becomeLong 22 = .ok (.aload_n 0, 1) := by decide +kernel
theorem dX0_becomeLong_23 : decode cX0_becomeLong 23 = .ok (.getfield 9, 3) := by decide +kernel
theorem dX0_becomeLong_26 : decode cX0_becomeLong 26 = .ok (.iload_n 2, 1) := by decide +kernel
theorem dX0_becomeLong_27 : decode cX0_becomeLong 27 = .ok (.iconst 0, 1) := by decide +kernel
theorem dX0_becomeLong_28 : decode cX0_becomeLong 28 = .ok (.iastore, 1) := by decide +kernel
theorem dX0_becomeLong_29 : decode cX0_becomeLong 29 = .ok (.iinc 2 1, 3) := by decide +kernel
theorem dX0_becomeLong_32 : decode cX0_becomeLong 32 = .ok (.goto (-15), 3) := by decide +kernel
theorem dX0_becomeLong_35 : decode cX0_becomeLong 35 = .ok (.aload_n 0, 1) := by decide +kernel
theorem dX0_becomeLong_36 : decode cX0_becomeLong 36 = .ok (.iload_n 1, 1) := by decide +kernel
theorem dX0_becomeLong_37 : decode cX0_becomeLong 37 = .ok (.putfield 15, 3) := by decide +kernel
theorem dX0_becomeLong_40 : decode cX0_becomeLong 40 = .ok (.return_, 1) := by decide +kernel
theorem dX0_textOf_0 : decode cX0_textOf 0 = .ok (.iload_n 1, 1) := by decide +kernel
theorem dX0_textOf_1 : decode cX0_textOf 1 = .ok (.ifCond .lt 16, 3) := by decide +kernel
theorem dX0_textOf_4 : decode cX0_textOf 4 = .ok (.iload_n 2, 1) := by decide +kernel
theorem dX0_textOf_5 : decode cX0_textOf 5 = .ok (.iload_n 1, 1) := by decide +kernel
theorem dX0_textOf_6 : decode cX0_textOf 6 = .ok (.if_icmp .lt 11, 3) := by decide +kernel
theorem dX0_textOf_9 : decode cX0_textOf 9 = .ok (.iload_n 2, 1) := by decide +kernel
theorem dX0_textOf_10 : decode cX0_textOf 10 = .ok (.aload_n 0, 1) := by decide +kernel
theorem dX0_textOf_11 : decode cX0_textOf 11 = .ok (.getfield 15, 3) := by decide +kernel
theorem dX0_textOf_14 : decode cX0_textOf 14 = .ok (.if_icmp .le 6, 3) := by decide +kernel
theorem dX0_textOf_17 : decode cX0_textOf 17 = .ok (.ldc 50, 2) := by decide +kernel
theorem dX0_textOf_19 : decode cX0_textOf 19 = .ok (.areturn, 1) := by decide +kernel
theorem dX0_textOf_20 : decode cX0_textOf 20 = .ok (.iload_n 2, 1) := by decide +kernel
theorem dX0_textOf_21 : decode cX0_textOf 21 = .ok (.iload_n 1, 1) := by decide +kernel
theorem dX0_textOf_22 : decode cX0_textOf 22 = .ok (.isub, 1) := by decide +kernel
theorem dX0_textOf_23 : decode cX0_textOf 23 = .ok (.newarray .char, 2) := by decide +kernel
theorem dX0_textOf_25 : decode cX0_textOf 25 = .ok (.astore_n 3, 1) := by decide +kernel
theorem dX0_textOf_26 : decode cX0_textOf 26 = .ok (.iconst 0, 1) := by decide +kernel
theorem dX0_textOf_27 : decode cX0_textOf 27 = .ok (.istore 4, 2) := by decide +kernel
theorem dX0_textOf_29 : decode cX0_textOf 29 = .ok (.iload 4, 2) := by decide +kernel
theorem dX0_textOf_31 : decode cX0_textOf 31 = .ok (.aload_n 3, 1) := by decide +kernel
theorem dX0_textOf_32 : decode cX0_textOf 32 = .ok (.arraylength, 1) := by decide +kernel
theorem dX0_textOf_33 : decode cX0_textOf 33 = .ok (.if_icmp .ge 23, 3) := by decide +kernel
theorem dX0_textOf_36 : decode cX0_textOf 36 = .ok (.aload_n 3, 1) := by decide +kernel
theorem dX0_textOf_37 : decode cX0_textOf 37 = .ok (.iload 4, 2) := by decide +kernel
theorem dX0_textOf_39 : decode cX0_textOf 39 = .ok (.aload_n 0, 1) := by decide +kernel
theorem dX0_textOf_40 : decode cX0_textOf 40 = .ok (.getfield 9, 3) := by decide +kernel
theorem dX0_textOf_43 : decode cX0_textOf 43 = .ok (.iload_n 1, 1) := by decide +kernel
theorem dX0_textOf_44 : decode cX0_textOf 44 = .ok (.iload 4, 2) := by decide +kernel
theorem dX0_textOf_46 : decode cX0_textOf 46 = .ok (.iadd, 1) := by decide +kernel
theorem dX0_textOf_47 : decode cX0_textOf 47 = .ok (.iaload, 1) := by decide +kernel
theorem dX0_textOf_48 : decode cX0_textOf 48 = .ok (.i2c, 1) := by decide +kernel
theorem dX0_textOf_49 : decode cX0_textOf 49 = .ok (.castore, 1) := by decide +kernel
theorem dX0_textOf_50 : decode cX0_textOf 50 = .ok (.iinc 4 1, 3) := by decide +kernel
theorem dX0_textOf_53 : decode cX0_textOf 53 = .ok (.goto (-24), 3) := by decide +kernel
theorem dX0_textOf_56 : decode cX0_textOf 56 = .ok (.new 30, 3) := by decide +kernel
theorem dX0_textOf_59 : decode cX0_textOf 59 = .ok (.dup, 1) := by decide +kernel
theorem dX0_textOf_60 : decode cX0_textOf 60 = .ok (.aload_n 3, 1) := by decide +kernel
theorem dX0_textOf_61 : decode cX0_textOf 61 = .ok (.invokespecial 52, 3) := by decide +kernel
theorem dX0_textOf_64 : decode cX0_textOf 64 = .ok (.areturn, 1) := by decide +kernel
theorem dX1_init_0 : decode cX1_init 0 = .ok (.aload_n 0, 1) := by decide +kernel
theorem dX1_init_1 : decode cX1_init 1 = .ok (.invokespecial 1, 3) := by decide +kernel
theorem dX1_init_4 : decode cX1_init 4 = .ok (.aload_n 0, 1) := by decide +kernel
theorem dX1_init_5 : decode cX1_init 5 = .ok (.iconst 4, 1) := by decide +kernel
theorem dX1_init_6 : decode cX1_init 6 = .ok (.anewarray 9, 3) := by decide +kernel
theorem dX1_init_9 : decode cX1_init 9 = .ok (.putfield 11, 3) := by decide +kernel
theorem dX1_init_12 : decode cX1_init 12 = .ok (.iconst 0, 1) := by decide +kernel
theorem dX1_init_13 : decode cX1_init 13 = .ok (.istore_n 1, 1) := by decide +kernel
theorem dX1_init_14 : decode cX1_init 14 = .ok (.iload_n 1, 1) := by decide +kernel
theorem dX1_init_15 : decode cX1_init 15 = .ok (.iconst 4, 1) := by decide +kernel
theorem dX1_init_16 : decode cX1_init 16 = .ok (.if_icmp .ge 22, 3) := by decide +kernel
theorem dX1_init_19 : decode cX1_init 19 = .ok (.aload_n 0, 1) := by decide +kernel
theorem dX1_init_20 : decode cX1_init 20 = .ok (.getfield 11, 3) := by decide +kernel
theorem dX1_init_23 : decode cX1_init 23 = .ok (.iload_n 1, 1) := by decide +kernel
theorem dX1_init_24 : decode cX1_init 24 = .ok (.new 9, 3) := by decide +kernel
theorem dX1_init_27 : decode cX1_init 27 = .ok (.dup, 1) := by decide +kernel
theorem dX1_init_28 : decode cX1_init 28 = .ok (.invokespecial 15, 3) := by decide +kernel
theorem dX1_init_31 : decode cX1_init 31 = .ok (.aastore, 1) := by decide +kernel
theorem dX1_init_32 : decode cX1_init 32 = .ok (.iinc 1 1, 3) := by decide +kernel
theorem dX1_init_35 : decode cX1_init 35 = .ok (.goto (-21), 3) := by decide +kernel
theorem dX1_init_38 : decode cX1_init 38 = .ok (.aload_n 0, 1) := by decide +kernel
theorem dX1_init_39 : decode cX1_init 39 = .ok (.new 9, 3) := by decide +kernel
theorem dX1_init_42 : decode cX1_init 42 = .ok (.dup, 1) := by decide +kernel
theorem dX1_init_43 : decode cX1_init 43 = .ok (.invokespecial 15, 3) := by decide +kernel
theorem dX1_init_46 : decode cX1_init 46 = .ok (.putfield 16, 3) := by decide +kernel
theorem dX1_init_49 : decode cX1_init 49 = .ok (.aload_n 0, 1) := by decide +kernel
theorem dX1_init_50 : decode cX1_init 50 = .ok (.new 9, 3) := by decide +kernel
theorem dX1_init_53 : decode cX1_init 53 = .ok (.dup, 1) := by decide +kernel
theorem dX1_init_54 : decode cX1_init 54 = .ok (.invokespecial 15, 3) := by decide +kernel
theorem dX1_init_57 : decode cX1_init 57 = .ok (.putfield 20, 3) := by decide +kernel
theorem dX1_init_60 : decode cX1_init 60 = .ok (.aload_n 0, 1) := by decide +kernel
theorem dX1_init_61 : decode cX1_init 61 = .ok (.new 9, 3) := by decide +kernel
theorem dX1_init_64 : decode cX1_init 64 = .ok (.dup, 1) := by decide +kernel
theorem dX1_init_65 : decode cX1_init 65 = .ok (.invokespecial 15, 3) := by decide +kernel
theorem dX1_init_68 : decode cX1_init 68 = .ok (.putfield 23, 3) := by decide +kernel
theorem dX1_init_71 : decode cX1_init 71 = .ok (.return_, 1) := by decide +kernel
theorem dX1_setLength_0 : decode cX1_setLength 0 = .ok (.aload_n 0, 1) := by decide +kernel
theorem dX1_setLength_1 : decode cX1_setLength 1 = .ok (.iload_n 1, 1) := by decide +kernel
theorem dX1_setLength_2 : decode cX1_setLength 2 = .ok (.invokevirtual 26, 3) := by decide +kernel
theorem dX1_setLength_5 : decode cX1_setLength 5 = .ok (.astore_n 3, 1) := by decide +kernel
theorem dX1_setLength_6 : decode cX1_setLength 6 = .ok (.iload_n 2, 1) := by decide +kernel
theorem dX1_setLength_7 : decode cX1_setLength 7 = .ok (.invokestatic 112, 3) := by decide +kernel
theorem dX1_setLength_10 : decode cX1_setLength 10 = .ok (.aload_n 3, 1) := by decide +kernel
theorem dX1_setLength_11 : decode cX1_setLength 11 = .ok (.getfield 92, 3) := by decide +kernel
theorem dX1_setLength_14 : decode cX1_setLength 14 = .ok (.istore 4, 2) := by decide +kernel
theorem dX1_setLength_16 : decode cX1_setLength 16 = .ok (.aload_n 3, 1) := by decide +kernel
theorem dX1_setLength_17 : decode cX1_setLength 17 = .ok (.iload_n 2, 1) := by decide +kernel
theorem dX1_setLength_18 : decode cX1_setLength 18 = .ok (.invokevirtual 115, 3) := by decide +kernel
theorem dX1_setLength_21 : decode cX1_setLength 21 = .ok (.iload 4, 2) := by decide +kernel
theorem dX1_setLength_23 : decode cX1_setLength 23 = .ok (.ireturn, 1) := by decide +kernel
theorem dX1_text_0 : decode cX1_text 0 = .ok (.aload_n 0, 1) := by decide +kernel
theorem dX1_text_1 : decode cX1_text 1 = .ok (.iload_n 1, 1) := by decide +kernel
theorem dX1_text_2 : decode cX1_text 2 = .ok (.invokevirtual 26, 3) := by decide +kernel
theorem dX1_text_5 : decode cX1_text 5 = .ok (.astore_n 2, 1) := by decide +kernel
theorem dX1_text_6 : decode cX1_text 6 = .ok (.aload_n 2, 1) := by decide +kernel
theorem dX1_text_7 : decode cX1_text 7 = .ok (.iconst 0, 1) := by decide +kernel
theorem dX1_text_8 : decode cX1_text 8 = .ok (.aload_n 2, 1) := by decide +kernel
theorem dX1_text_9 : decode cX1_text 9 = .ok (.getfield 92, 3) := by decide +kernel
theorem dX1_text_12 : decode cX1_text 12 = .ok (.invokevirtual 137, 3) := by decide +kernel
theorem dX1_text_15 : decode cX1_text 15 = .ok (.areturn, 1) := by decide +kernel
theorem dX1_checkTape_0 : decode cX1_checkTape 0 = .ok (.iload_n 0, 1) := by decide +kernel
theorem dX1_checkTape_1 : decode cX1_checkTape 1 = .ok (.ifCond .lt 8, 3) := by decide +kernel
theorem dX1_checkTape_4 : decode cX1_checkTape 4 = .ok (.iload_n 0, 1) := by decide +kernel
theorem dX1_checkTape_5 : decode cX1_checkTape 5 = .ok (.iconst 4, 1) := by decide +kernel
theorem dX1_checkTape_6 : decode cX1_checkTape 6 = .ok (.if_icmp .lt 13, 3) := by decide +kernel
theorem dX1_checkTape_9 : decode cX1_checkTape 9 = .ok (.new 236, 3) := by decide +kernel
theorem dX1_checkTape_12 : decode cX1_checkTape 12 = .ok (.dup, 1) := by decide +kernel
theorem dX1_checkTape_13 : decode cX1_checkTape 13 = .ok (.ldc 238, 2) := by decide +kernel
theorem dX1_checkTape_15 : decode cX1_checkTape 15 = .ok (.invokespecial 240, 3) := by decide +kernel
theorem dX1_checkTape_18 : decode cX1_checkTape 18 = .ok (.athrow, 1) := by decide +kernel
theorem dX1_checkTape_19 : decode cX1_checkTape 19 = .ok (.return_, 1) := by decide +kernel
theorem dX1_checkLength_0 : decode cX1_checkLength 0 = .ok (.iload_n 0, 1) := by decide +kernel
theorem dX1_checkLength_1 : decode cX1_checkLength 1 = .ok (.ifCond .lt 10, 3) := by decide +kernel
theorem dX1_checkLength_4 : decode cX1_checkLength 4 = .ok (.iload_n 0, 1) := by decide +kernel
theorem dX1_checkLength_5 : decode cX1_checkLength 5 = .ok (.sipush 200, 3) := by decide +kernel
theorem dX1_checkLength_8 : decode cX1_checkLength 8 = .ok (.if_icmp .le 13, 3) := by decide +kernel
theorem dX1_checkLength_11 : decode cX1_checkLength 11 = .ok (.new 185, 3) := by decide +kernel
theorem dX1_checkLength_14 : decode cX1_checkLength 14 = .ok (.dup, 1) := by decide +kernel
theorem dX1_checkLength_15 : decode cX1_checkLength 15 = .ok (.ldc 253, 2) := by decide +kernel
theorem dX1_checkLength_17 : decode cX1_checkLength 17 = .ok (.invokespecial 189, 3) := by decide +kernel
theorem dX1_checkLength_20 : decode cX1_checkLength 20 = .ok (.athrow, 1) := by decide +kernel
theorem dX1_checkLength_21 : decode cX1_checkLength 21 = .ok (.return_, 1) := by decide +kernel
theorem dX1_tapeOf_0 : decode cX1_tapeOf 0 = .ok (.iload_n 1, 1) := by decide +kernel
theorem dX1_tapeOf_1 : decode cX1_tapeOf 1 = .ok (.invokestatic 128, 3) := by decide +kernel
theorem dX1_tapeOf_4 : decode cX1_tapeOf 4 = .ok (.aload_n 0, 1) := by decide +kernel
theorem dX1_tapeOf_5 : decode cX1_tapeOf 5 = .ok (.getfield 11, 3) := by decide +kernel
theorem dX1_tapeOf_8 : decode cX1_tapeOf 8 = .ok (.iload_n 1, 1) := by decide +kernel
theorem dX1_tapeOf_9 : decode cX1_tapeOf 9 = .ok (.aaload, 1) := by decide +kernel
theorem dX1_tapeOf_10 : decode cX1_tapeOf 10 = .ok (.areturn, 1) := by decide +kernel
theorem dX2_init_0 : decode cX2_init 0 = .ok (.aload_n 0, 1) := by decide +kernel
theorem dX2_init_1 : decode cX2_init 1 = .ok (.invokespecial 1, 3) := by decide +kernel
theorem dX2_init_4 : decode cX2_init 4 = .ok (.return_, 1) := by decide +kernel
theorem dX3_init_0 : decode cX3_init 0 = .ok (.aload_n 0, 1) := by decide +kernel
theorem dX3_init_1 : decode cX3_init 1 = .ok (.invokespecial 1, 3) := by decide +kernel
theorem dX3_init_4 : decode cX3_init 4 = .ok (.aload_n 0, 1) := by decide +kernel
theorem dX3_init_5 : decode cX3_init 5 = .ok (.iconst 4, 1) := by decide +kernel
theorem dX3_init_6 : decode cX3_init 6 = .ok (.iconst 0, 1) := by decide +kernel
theorem dX3_init_7 : decode cX3_init 7 = .ok (.multianewarray 9 2, 4) := by decide +kernel
theorem dX3_init_11 : decode cX3_init 11 = .ok (.putfield 11, 3) := by decide +kernel
theorem dX3_init_14 : decode cX3_init 14 = .ok (.aload_n 0, 1) := by decide +kernel
theorem dX3_init_15 : decode cX3_init 15 = .ok (.iconst 0, 1) := by decide +kernel
theorem dX3_init_16 : decode cX3_init 16 = .ok (.newarray .int, 2) := by decide +kernel
theorem dX3_init_18 : decode cX3_init 18 = .ok (.putfield 14, 3) := by decide +kernel
theorem dX3_init_21 : decode cX3_init 21 = .ok (.return_, 1) := by decide +kernel
theorem dX3_isIn_0 : decode cX3_isIn 0 = .ok (.lload_n 0, 1) := by decide +kernel
theorem dX3_isIn_1 : decode cX3_isIn 1 = .ok (.lload_n 2, 1) := by decide +kernel
theorem dX3_isIn_2 : decode cX3_isIn 2 = .ok (.lcmp, 1) := by decide +kernel
theorem dX3_isIn_3 : decode cX3_isIn 3 = .ok (.ifCond .lt 14, 3) := by decide +kernel
theorem dX3_isIn_6 : decode cX3_isIn 6 = .ok (.lload_n 0, 1) := by decide +kernel
theorem dX3_isIn_7 : decode cX3_isIn 7 = .ok (.lload 4, 2) := by decide +kernel
theorem dX3_isIn_9 : decode cX3_isIn 9 = .ok (.lcmp, 1) := by decide +kernel
theorem dX3_isIn_10 : decode cX3_isIn 10 = .ok (.ifCond .gt 7, 3) := by decide +kernel
theorem dX3_isIn_13 : decode cX3_isIn 13 = .ok (.iconst 1, 1) := by decide +kernel
theorem dX3_isIn_14 : decode cX3_isIn 14 = .ok (.goto 4, 3) := by decide +kernel
theorem dX3_isIn_17 : decode cX3_isIn 17 = .ok (.iconst 0, 1) := by decide +kernel
theorem dX3_isIn_18 : decode cX3_isIn 18 = .ok (.ireturn, 1) := by decide +kernel
theorem dX3_refuse_0 : decode cX3_refuse 0 = .ok (.iload_n 1, 1) := by decide +kernel
theorem dX3_refuse_1 : decode cX3_refuse 1 = .ok (.ifCond .eq 15, 3) := by decide +kernel
theorem dX3_refuse_4 : decode cX3_refuse 4 = .ok (.aload_n 0, 1) := by decide +kernel
theorem dX3_refuse_5 : decode cX3_refuse 5 = .ok (.getfield 18, 3) := by decide +kernel
theorem dX3_refuse_8 : decode cX3_refuse 8 = .ok (.ifCond .ne 8, 3) := by decide +kernel
theorem dX3_refuse_11 : decode cX3_refuse 11 = .ok (.aload_n 0, 1) := by decide +kernel
theorem dX3_refuse_12 : decode cX3_refuse 12 = .ok (.iload_n 2, 1) := by decide +kernel
theorem dX3_refuse_13 : decode cX3_refuse 13 = .ok (.putfield 18, 3) := by decide +kernel
theorem dX3_refuse_16 : decode cX3_refuse 16 = .ok (.aload_n 0, 1) := by decide +kernel
theorem dX3_refuse_17 : decode cX3_refuse 17 = .ok (.getfield 18, 3) := by decide +kernel
theorem dX3_refuse_20 : decode cX3_refuse 20 = .ok (.ifCond .le 7, 3) := by decide +kernel
theorem dX3_refuse_23 : decode cX3_refuse 23 = .ok (.iconst 1, 1) := by decide +kernel
theorem dX3_refuse_24 : decode cX3_refuse 24 = .ok (.goto 4, 3) := by decide +kernel
theorem dX3_refuse_27 : decode cX3_refuse 27 = .ok (.iconst 0, 1) := by decide +kernel
theorem dX3_refuse_28 : decode cX3_refuse 28 = .ok (.ireturn, 1) := by decide +kernel
theorem dX3_start_0 : decode cX3_start 0 = .ok (.aload_n 0, 1) := by decide +kernel
theorem dX3_start_1 : decode cX3_start 1 = .ok (.iconst 0, 1) := by decide +kernel
theorem dX3_start_2 : decode cX3_start 2 = .ok (.putfield 18, 3) := by decide +kernel
theorem dX3_start_5 : decode cX3_start 5 = .ok (.aload_n 0, 1) := by decide +kernel
theorem dX3_start_6 : decode cX3_start 6 = .ok (.iload_n 1, 1) := by decide +kernel
theorem dX3_start_7 : decode cX3_start 7 = .ok (.iload_n 2, 1) := by decide +kernel
theorem dX3_start_8 : decode cX3_start 8 = .ok (.invokevirtual 22, 3) := by decide +kernel
theorem dX3_start_11 : decode cX3_start 11 = .ok (.ireturn, 1) := by decide +kernel
theorem dX3_isNoTape_0 : decode cX3_isNoTape 0 = .ok (.iload_n 0, 1) := by decide +kernel
theorem dX3_isNoTape_1 : decode cX3_isNoTape 1 = .ok (.i2l, 1) := by decide +kernel
theorem dX3_isNoTape_2 : decode cX3_isNoTape 2 = .ok (.lconst 0, 1) := by decide +kernel
theorem dX3_isNoTape_3 : decode cX3_isNoTape 3 = .ok (.ldc2_w 26, 3) := by decide +kernel
theorem dX3_isNoTape_6 : decode cX3_isNoTape 6 = .ok (.invokestatic 28, 3) := by decide +kernel
theorem dX3_isNoTape_9 : decode cX3_isNoTape 9 = .ok (.ifCond .ne 7, 3) := by decide +kernel
theorem dX3_isNoTape_12 : decode cX3_isNoTape 12 = .ok (.iconst 1, 1) := by decide +kernel
theorem dX3_isNoTape_13 : decode cX3_isNoTape 13 = .ok (.goto 4, 3) := by decide +kernel
theorem dX3_isNoTape_16 : decode cX3_isNoTape 16 = .ok (.iconst 0, 1) := by decide +kernel
theorem dX3_isNoTape_17 : decode cX3_isNoTape 17 = .ok (.ireturn, 1) := by decide +kernel
theorem dX3_text_0 : decode cX3_text 0 = .ok (.ldc 50, 2) := by decide +kernel
theorem dX3_text_2 : decode cX3_text 2 = .ok (.astore_n 1, 1) := by decide +kernel
theorem dX3_text_3 : decode cX3_text 3 = .ok (.aload_n 0, 1) := by decide +kernel
theorem dX3_text_4 : decode cX3_text 4 = .ok (.astore_n 2, 1) := by decide +kernel
theorem dX3_text_5 : decode cX3_text 5 = .ok (.aload_n 2, 1) := by decide +kernel
theorem dX3_text_6 : decode cX3_text 6 = .ok (.arraylength, 1) := by decide +kernel
theorem dX3_text_7 : decode cX3_text 7 = .ok (.istore_n 3, 1) := by decide +kernel
theorem dX3_text_8 : decode cX3_text 8 = .ok (.iconst 0, 1) := by decide +kernel
theorem dX3_text_9 : decode cX3_text 9 = .ok (.istore 4, 2) := by decide +kernel
theorem dX3_text_11 : decode cX3_text 11 = .ok (.iload 4, 2) := by decide +kernel
theorem dX3_text_13 : decode cX3_text 13 = .ok (.iload_n 3, 1) := by decide +kernel
theorem dX3_text_14 : decode cX3_text 14 = .ok (.if_icmp .ge 36, 3) := by decide +kernel
theorem dX3_text_17 : decode cX3_text 17 = .ok (.aload_n 2, 1) := by decide +kernel
theorem dX3_text_18 : decode cX3_text 18 = .ok (.iload 4, 2) := by decide +kernel
theorem dX3_text_20 : decode cX3_text 20 = .ok (.iaload, 1) := by decide +kernel
theorem dX3_text_21 : decode cX3_text 21 = .ok (.istore 5, 2) := by decide +kernel
theorem dX3_text_23 : decode cX3_text 23 = .ok (.new 52, 3) := by decide +kernel
theorem dX3_text_26 : decode cX3_text 26 = .ok (.dup, 1) := by decide +kernel
theorem dX3_text_27 : decode cX3_text 27 = .ok (.invokespecial 54, 3) := by decide +kernel
theorem dX3_text_30 : decode cX3_text 30 = .ok (.aload_n 1, 1) := by decide +kernel
theorem dX3_text_31 : decode cX3_text 31 = .ok (.invokevirtual 55, 3) := by decide +kernel
theorem dX3_text_34 : decode cX3_text 34 = .ok (.iload 5, 2) := by decide +kernel
theorem dX3_text_36 : decode cX3_text 36 = .ok (.i2c, 1) := by decide +kernel
theorem dX3_text_37 : decode cX3_text 37 = .ok (.invokevirtual 59, 3) := by decide +kernel
theorem dX3_text_40 : decode cX3_text 40 = .ok (.invokevirtual 62, 3) := by decide +kernel
theorem dX3_text_43 : decode cX3_text 43 = .ok (.astore_n 1, 1) := by decide +kernel
theorem dX3_text_44 : decode cX3_text 44 = .ok (.iinc 4 1, 3) := by decide +kernel
theorem dX3_text_47 : decode cX3_text 47 = .ok (.goto (-36), 3) := by decide +kernel
theorem dX3_text_50 : decode cX3_text 50 = .ok (.aload_n 1, 1) := by decide +kernel
theorem dX3_text_51 : decode cX3_text 51 = .ok (.areturn, 1) := by decide +kernel
theorem dX3_part_0 : decode cX3_part 0 = .ok (.iload_n 2, 1) := by decide +kernel
theorem dX3_part_1 : decode cX3_part 1 = .ok (.iload_n 1, 1) := by decide +kernel
theorem dX3_part_2 : decode cX3_part 2 = .ok (.isub, 1) := by decide +kernel
theorem dX3_part_3 : decode cX3_part 3 = .ok (.newarray .int, 2) := by decide +kernel
theorem dX3_part_5 : decode cX3_part 5 = .ok (.astore_n 3, 1) := by decide +kernel
theorem dX3_part_6 : decode cX3_part 6 = .ok (.iload_n 1, 1) := by decide +kernel
theorem dX3_part_7 : decode cX3_part 7 = .ok (.istore 4, 2) := by decide +kernel
theorem dX3_part_9 : decode cX3_part 9 = .ok (.iload 4, 2) := by decide +kernel
theorem dX3_part_11 : decode cX3_part 11 = .ok (.iload_n 2, 1) := by decide +kernel
theorem dX3_part_12 : decode cX3_part 12 = .ok (.if_icmp .ge 19, 3) := by decide +kernel
theorem dX3_part_15 : decode cX3_part 15 = .ok (.aload_n 3, 1) := by decide +kernel
theorem dX3_part_16 : decode cX3_part 16 = .ok (.iload 4, 2) := by decide +kernel
theorem dX3_part_18 : decode cX3_part 18 = .ok (.iload_n 1, 1) := by decide +kernel
theorem dX3_part_19 : decode cX3_part 19 = .ok (.isub, 1) := by decide +kernel
theorem dX3_part_20 : decode cX3_part 20 = .ok (.aload_n 0, 1) := by decide +kernel
theorem dX3_part_21 : decode cX3_part 21 = .ok (.iload 4, 2) := by decide +kernel
theorem dX3_part_23 : decode cX3_part 23 = .ok (.iaload, 1) := by decide +kernel
theorem dX3_part_24 : decode cX3_part 24 = .ok (.iastore, 1) := by decide +kernel
theorem dX3_part_25 : decode cX3_part 25 = .ok (.iinc 4 1, 3) := by decide +kernel
theorem dX3_part_28 : decode cX3_part 28 = .ok (.goto (-19), 3) := by decide +kernel
theorem dX3_part_31 : decode cX3_part 31 = .ok (.aload_n 3, 1) := by decide +kernel
theorem dX3_part_32 : decode cX3_part 32 = .ok (.areturn, 1) := by decide +kernel
theorem dX3_joined_0 : decode cX3_joined 0 = .ok (.aload_n 0, 1) := by decide +kernel
theorem dX3_joined_1 : decode cX3_joined 1 = .ok (.arraylength, 1) := by decide +kernel
theorem dX3_joined_2 : decode cX3_joined 2 = .ok (.aload_n 1, 1) := by decide +kernel
theorem dX3_joined_3 : decode cX3_joined 3 = .ok (.arraylength, 1) := by decide +kernel
theorem dX3_joined_4 : decode cX3_joined 4 = .ok (.iadd, 1) := by decide +kernel
theorem dX3_joined_5 : decode cX3_joined 5 = .ok (.newarray .int, 2) := by decide +kernel
theorem dX3_joined_7 : decode cX3_joined 7 = .ok (.astore_n 2, 1) := by decide +kernel
theorem dX3_joined_8 : decode cX3_joined 8 = .ok (.iconst 0, 1) := by decide +kernel
theorem dX3_joined_9 : decode cX3_joined 9 = .ok (.istore_n 3, 1) := by decide +kernel
theorem dX3_joined_10 : decode cX3_joined 10 = .ok (.iload_n 3, 1) := by decide +kernel
theorem dX3_joined_11 : decode cX3_joined 11 = .ok (.aload_n 2, 1) := by decide +kernel
theorem dX3_joined_12 : decode cX3_joined 12 = .ok (.arraylength, 1) := by decide +kernel
theorem dX3_joined_13 : decode cX3_joined 13 = .ok (.if_icmp .ge 30, 3) := by decide +kernel
theorem dX3_joined_16 : decode cX3_joined 16 = .ok (.aload_n 2, 1) := by decide +kernel
theorem dX3_joined_17 : decode cX3_joined 17 = .ok (.iload_n 3, 1) := by decide +kernel
theorem dX3_joined_18 : decode cX3_joined 18 = .ok (.iload_n 3, 1) := by decide +kernel
theorem dX3_joined_19 : decode cX3_joined 19 = .ok (.aload_n 0, 1) := by decide +kernel
theorem dX3_joined_20 : decode cX3_joined 20 = .ok (.arraylength, 1) := by decide +kernel
theorem dX3_joined_21 : decode cX3_joined 21 = .ok (.if_icmp .ge 9, 3) := by decide +kernel
theorem dX3_joined_24 : decode cX3_joined 24 = .ok (.aload_n 0, 1) := by decide +kernel
theorem dX3_joined_25 : decode cX3_joined 25 = .ok (.iload_n 3, 1) := by decide +kernel
theorem dX3_joined_26 : decode cX3_joined 26 = .ok (.iaload, 1) := by decide +kernel
theorem dX3_joined_27 : decode cX3_joined 27 = .ok (.goto 9, 3) := by decide +kernel
theorem dX3_joined_30 : decode cX3_joined 30 = .ok (.aload_n 1, 1) := by decide +kernel
theorem dX3_joined_31 : decode cX3_joined 31 = .ok (.iload_n 3, 1) := by decide +kernel
theorem dX3_joined_32 : decode cX3_joined 32 = .ok (.aload_n 0, 1) := by decide +kernel
theorem dX3_joined_33 : decode cX3_joined 33 = .ok (.arraylength, 1) := by decide +kernel
theorem dX3_joined_34 : decode cX3_joined 34 = .ok (.isub, 1) := by decide +kernel
theorem dX3_joined_35 : decode cX3_joined 35 = .ok (.iaload, 1) := by decide +kernel
theorem dX3_joined_36 : decode cX3_joined 36 = .ok (.iastore, 1) := by decide +kernel
theorem dX3_joined_37 : decode cX3_joined 37 = .ok (.iinc 3 1, 3) := by decide +kernel
theorem dX3_joined_40 : decode cX3_joined 40 = .ok (.goto (-30), 3) := by decide +kernel
theorem dX3_joined_43 : decode cX3_joined 43 = .ok (.aload_n 2, 1) := by decide +kernel
theorem dX3_joined_44 : decode cX3_joined 44 = .ok (.areturn, 1) := by decide +kernel
theorem dX3_setLength_0 : decode cX3_setLength 0 = .ok (.aload_n 0, 1) := by decide +kernel
theorem dX3_setLength_1 : decode cX3_setLength 1 = .ok (.iload_n 1, 1) := by decide +kernel
theorem dX3_setLength_2 : decode cX3_setLength 2 = .ok (.invokestatic 36, 3) := by decide +kernel
theorem dX3_setLength_5 : decode cX3_setLength 5 = .ok (.iconst 1, 1) := by decide +kernel
theorem dX3_setLength_6 : decode cX3_setLength 6 = .ok (.invokevirtual 104, 3) := by decide +kernel
theorem dX3_setLength_9 : decode cX3_setLength 9 = .ok (.ifCond .ne 28, 3) := by decide +kernel
theorem dX3_setLength_12 : decode cX3_setLength 12 = .ok (.aload_n 0, 1) := by decide +kernel
theorem dX3_setLength_13 : decode cX3_setLength 13 = .ok (.iload_n 2, 1) := by decide +kernel
theorem dX3_setLength_14 : decode cX3_setLength 14 = .ok (.i2l, 1) := by decide +kernel
theorem dX3_setLength_15 : decode cX3_setLength 15 = .ok (.lconst 0, 1) := by decide +kernel
theorem dX3_setLength_16 : decode cX3_setLength 16 = .ok (.ldc2_w 143, 3) := by decide +kernel
theorem dX3_setLength_19 : decode cX3_setLength 19 = .ok (.invokestatic 28, 3) := by decide +kernel
theorem dX3_setLength_22 : decode cX3_setLength 22 = .ok (.ifCond .ne 7, 3) := by decide +kernel
theorem dX3_setLength_25 : decode cX3_setLength 25 = .ok (.iconst 1, 1) := by decide +kernel
theorem dX3_setLength_26 : decode cX3_setLength 26 = .ok (.goto 4, 3) := by decide +kernel
theorem dX3_setLength_29 : decode cX3_setLength 29 = .ok (.iconst 0, 1) := by decide +kernel
theorem dX3_setLength_30 : decode cX3_setLength 30 = .ok (.iconst 2, 1) := by decide +kernel
theorem dX3_setLength_31 : decode cX3_setLength 31 = .ok (.invokevirtual 22, 3) := by decide +kernel
theorem dX3_setLength_34 : decode cX3_setLength 34 = .ok (.ifCond .eq 5, 3) := by decide +kernel
theorem dX3_setLength_37 : decode cX3_setLength 37 = .ok (.iconst 0, 1) := by decide +kernel
theorem dX3_setLength_38 : decode cX3_setLength 38 = .ok (.ireturn, 1) := by decide +kernel
theorem dX3_setLength_39 : decode cX3_setLength 39 = .ok (.aload_n 0, 1) := by decide +kernel
theorem dX3_setLength_40 : decode cX3_setLength 40 = .ok (.getfield 11, 3) := by decide +kernel
theorem dX3_setLength_43 : decode cX3_setLength 43 = .ok (.iload_n 1, 1) := by decide +kernel
theorem dX3_setLength_44 : decode cX3_setLength 44 = .ok (.aaload, 1) := by decide +kernel
theorem dX3_setLength_45 : decode cX3_setLength 45 = .ok (.arraylength, 1) := by decide +kernel
theorem dX3_setLength_46 : decode cX3_setLength 46 = .ok (.istore_n 3, 1) := by decide +kernel
theorem dX3_setLength_47 : decode cX3_setLength 47 = .ok (.aload_n 0, 1) := by decide +kernel
theorem dX3_setLength_48 : decode cX3_setLength 48 = .ok (.getfield 11, 3) := by decide +kernel
theorem dX3_setLength_51 : decode cX3_setLength 51 = .ok (.iload_n 1, 1) := by decide +kernel
theorem dX3_setLength_52 : decode cX3_setLength 52 = .ok (.aload_n 0, 1) := by decide +kernel
theorem dX3_setLength_53 : decode cX3_setLength 53 = .ok (.getfield 11, 3) := by decide +kernel
theorem dX3_setLength_56 : decode cX3_setLength 56 = .ok (.iload_n 1, 1) := by decide +kernel
theorem dX3_setLength_57 : decode cX3_setLength 57 = .ok (.aaload, 1) := by decide +kernel
theorem dX3_setLength_58 : decode cX3_setLength 58 = .ok (.sipush 200, 3) := by decide +kernel
theorem dX3_setLength_61 : decode cX3_setLength 61 = .ok (.newarray .int, 2) := by decide +kernel
theorem dX3_setLength_63 : decode cX3_setLength 63 = .ok (.invokestatic 96, 3) := by decide +kernel
theorem dX3_setLength_66 : decode cX3_setLength 66 = .ok (.iconst 0, 1) := by decide +kernel
theorem dX3_setLength_67 : decode cX3_setLength 67 = .ok (.iload_n 2, 1) := by decide +kernel
theorem dX3_setLength_68 : decode cX3_setLength 68 = .ok (.invokestatic 89, 3) := by decide +kernel
theorem dX3_setLength_71 : decode cX3_setLength 71 = .ok (.aastore, 1) := by decide +kernel
theorem dX3_setLength_72 : decode cX3_setLength 72 = .ok (.iload_n 3, 1) := by decide +kernel
theorem dX3_setLength_73 : decode cX3_setLength 73 = .ok (.ireturn, 1) := by decide +kernel
theorem dX3_text__0 : decode cX3_text_ 0 = .ok (.aload_n 0, 1) := by decide +kernel
theorem dX3_text__1 : decode cX3_text_ 1 = .ok (.iload_n 1, 1) := by decide +kernel
theorem dX3_text__2 : decode cX3_text_ 2 = .ok (.invokestatic 36, 3) := by decide +kernel
theorem dX3_text__5 : decode cX3_text_ 5 = .ok (.iconst 1, 1) := by decide +kernel
theorem dX3_text__6 : decode cX3_text_ 6 = .ok (.invokevirtual 104, 3) := by decide +kernel
theorem dX3_text__9 : decode cX3_text_ 9 = .ok (.ifCond .eq 8, 3) := by decide +kernel
theorem dX3_text__12 : decode cX3_text_ 12 = .ok (.ldc 50, 2) := by decide +kernel
theorem dX3_text__14 : decode cX3_text_ 14 = .ok (.goto 12, 3) := by decide +kernel
theorem dX3_text__17 : decode cX3_text_ 17 = .ok (.aload_n 0, 1) := by decide +kernel
theorem dX3_text__18 : decode cX3_text_ 18 = .ok (.getfield 11, 3) := by decide +kernel
theorem dX3_text__21 : decode cX3_text_ 21 = .ok (.iload_n 1, 1) := by decide +kernel
theorem dX3_text__22 : decode cX3_text_ 22 = .ok (.aaload, 1) := by decide +kernel
theorem dX3_text__23 : decode cX3_text_ 23 = .ok (.invokestatic 161, 3) := by decide +kernel
theorem dX3_text__26 : decode cX3_text_ 26 = .ok (.areturn, 1) := by decide +kernel
theorem dJ5_init_d00df_0 : decode cJ5_init_d00df 0 = .ok (.aload_n 0, 1) := by decide +kernel
theorem dJ5_init_d00df_1 : decode cJ5_init_d00df 1 = .ok (.invokespecial 3, 3) := by decide +kernel
theorem dJ5_init_d00df_4 : decode cJ5_init_d00df 4 = .ok (.getstatic 18, 3) := by decide +kernel
theorem dJ5_init_d00df_7 : decode cJ5_init_d00df 7 = .ok (.ifCond .eq 18, 3) := by decide +kernel
theorem dJ5_init_d00df_10 : decode cJ5_init_d00df 10 = .ok (.aload_n 0, 1) := by decide +kernel
theorem dJ5_init_d00df_11 : decode cJ5_init_d00df 11 = .ok (.iload_n 1, 1) := by decide +kernel
theorem dJ5_init_d00df_12 : decode cJ5_init_d00df 12 = .ok (.newarray .byte, 2) := by decide +kernel
theorem dJ5_init_d00df_14 : decode cJ5_init_d00df 14 = .ok (.putfield 15, 3) := by decide +kernel
theorem dJ5_init_d00df_17 : decode cJ5_init_d00df 17 = .ok (.aload_n 0, 1) := by decide +kernel
theorem dJ5_init_d00df_18 : decode cJ5_init_d00df 18 = .ok (.iconst 0, 1) := by decide +kernel
theorem dJ5_init_d00df_19 : decode cJ5_init_d00df 19 = .ok (.putfield 22, 3) := by decide +kernel
theorem dJ5_init_d00df_22 : decode cJ5_init_d00df 22 = .ok (.goto 16, 3) := by decide +kernel
theorem dJ5_init_d00df_25 : decode cJ5_init_d00df 25 = .ok (.aload_n 0, 1) := by decide +kernel
theorem dJ5_init_d00df_26 : decode cJ5_init_d00df 26 = .ok (.iload_n 1, 1) := by decide +kernel
theorem dJ5_init_d00df_27 : decode cJ5_init_d00df 27 = .ok (.invokestatic 26, 3) := by decide +kernel
theorem dJ5_init_d00df_30 : decode cJ5_init_d00df 30 = .ok (.putfield 15, 3) := by decide +kernel
theorem dJ5_init_d00df_33 : decode cJ5_init_d00df 33 = .ok (.aload_n 0, 1) := by decide +kernel
theorem dJ5_init_d00df_34 : decode cJ5_init_d00df 34 = .ok (.iconst 1, 1) := by decide +kernel
theorem dJ5_init_d00df_35 : decode cJ5_init_d00df 35 = .ok (.putfield 22, 3) := by decide +kernel
theorem dJ5_init_d00df_38 : decode cJ5_init_d00df 38 = .ok (.return_, 1) := by decide +kernel
theorem dJ5_length_8abf5_0 : decode cJ5_length_8abf5 0 = .ok (.aload_n 0, 1) := by decide +kernel
theorem dJ5_length_8abf5_1 : decode cJ5_length_8abf5 1 = .ok (.getfield 79, 3) := by decide +kernel
theorem dJ5_length_8abf5_4 : decode cJ5_length_8abf5 4 = .ok (.ireturn, 1) := by decide +kernel
theorem dJ5_ensureCapacityInternal_d00df_0 : decode cJ5_ensureCapacityInternal_d00df 0 = .ok (.aload_n 0, 1) := by decide +kernel
theorem dJ5_ensureCapacityInternal_d00df_1 : decode cJ5_ensureCapacityInternal_d00df 1 = .ok (.getfield 15, 3) := by decide +kernel
theorem dJ5_ensureCapacityInternal_d00df_4 : decode cJ5_ensureCapacityInternal_d00df 4 = .ok (.arraylength, 1) := by decide +kernel
theorem dJ5_ensureCapacityInternal_d00df_5 : decode cJ5_ensureCapacityInternal_d00df 5 = .ok (.aload_n 0, 1) := by decide +kernel
theorem dJ5_ensureCapacityInternal_d00df_6 : decode cJ5_ensureCapacityInternal_d00df 6 = .ok (.getfield 22, 3) := by decide +kernel
theorem dJ5_ensureCapacityInternal_d00df_9 : decode cJ5_ensureCapacityInternal_d00df 9 = .ok (.ishr, 1) := by decide +kernel
theorem dJ5_ensureCapacityInternal_d00df_10 : decode cJ5_ensureCapacityInternal_d00df 10 = .ok (.istore_n 2, 1) := by decide +kernel
theorem dJ5_ensureCapacityInternal_d00df_11 : decode cJ5_ensureCapacityInternal_d00df 11 = .ok (.iload_n 1, 1) := by decide +kernel
theorem dJ5_ensureCapacityInternal_d00df_12 : decode cJ5_ensureCapacityInternal_d00df 12 = .ok (.iload_n 2, 1) := by decide +kernel
theorem dJ5_ensureCapacityInternal_d00df_13 : decode cJ5_ensureCapacityInternal_d00df 13 = .ok (.isub, 1) := by decide +kernel
theorem dJ5_ensureCapacityInternal_d00df_14 : decode cJ5_ensureCapacityInternal_d00df 14 = .ok (.ifCond .le 24, 3) := by decide +kernel
theorem dJ5_ensureCapacityInternal_d00df_17 : decode cJ5_ensureCapacityInternal_d00df 17 = .ok (.aload_n 0, 1) := by decide +kernel
theorem dJ5_ensureCapacityInternal_d00df_18 : decode cJ5_ensureCapacityInternal_d00df 18 = .ok (.aload_n 0, 1) := by decide +kernel
theorem dJ5_ensureCapacityInternal_d00df_19 : decode cJ5_ensureCapacityInternal_d00df 19 = .ok (.getfield 15, 3) := by decide +kernel
theorem dJ5_ensureCapacityInternal_d00df_22 : decode cJ5_ensureCapacityInternal_d00df 22 = .ok (.aload_n 0, 1) := by decide +kernel
theorem dJ5_ensureCapacityInternal_d00df_23 : decode cJ5_ensureCapacityInternal_d00df 23 = .ok (.iload_n 1, 1) := by decide +kernel
theorem dJ5_ensureCapacityInternal_d00df_24 : decode cJ5_ensureCapacityInternal_d00df 24 = .ok (.invokevirtual 104, 3) := by decide +kernel
theorem dJ5_ensureCapacityInternal_d00df_27 : decode cJ5_ensureCapacityInternal_d00df 27 = .ok (.aload_n 0, 1) := by decide +kernel
theorem dJ5_ensureCapacityInternal_d00df_28 : decode cJ5_ensureCapacityInternal_d00df 28 = .ok (.getfield 22, 3) := by decide +kernel
theorem dJ5_ensureCapacityInternal_d00df_31 : decode cJ5_ensureCapacityInternal_d00df 31 = .ok (.ishl, 1) := by decide +kernel
theorem dJ5_ensureCapacityInternal_d00df_32 : decode cJ5_ensureCapacityInternal_d00df 32 = .ok (.invokestatic 108, 3) := by decide +kernel
theorem dJ5_ensureCapacityInternal_d00df_35 : decode cJ5_ensureCapacityInternal_d00df 35 = .ok (.putfield 15, 3) := by decide +kernel
theorem dJ5_ensureCapacityInternal_d00df_38 : decode cJ5_ensureCapacityInternal_d00df 38 = .ok (.return_, 1) := by decide +kernel
theorem dJ5_newCapacity_0f7a4_0 : decode cJ5_newCapacity_0f7a4 0 = .ok (.aload_n 0, 1) := by decide +kernel
theorem dJ5_newCapacity_0f7a4_1 : decode cJ5_newCapacity_0f7a4 1 = .ok (.getfield 15, 3) := by decide +kernel
theorem dJ5_newCapacity_0f7a4_4 : decode cJ5_newCapacity_0f7a4 4 = .ok (.arraylength, 1) := by decide +kernel
theorem dJ5_newCapacity_0f7a4_5 : decode cJ5_newCapacity_0f7a4 5 = .ok (.istore_n 2, 1) := by decide +kernel
theorem dJ5_newCapacity_0f7a4_6 : decode cJ5_newCapacity_0f7a4 6 = .ok (.iload_n 1, 1) := by decide +kernel
theorem dJ5_newCapacity_0f7a4_7 : decode cJ5_newCapacity_0f7a4 7 = .ok (.aload_n 0, 1) := by decide +kernel
theorem dJ5_newCapacity_0f7a4_8 : decode cJ5_newCapacity_0f7a4 8 = .ok (.getfield 22, 3) := by decide +kernel
theorem dJ5_newCapacity_0f7a4_11 : decode cJ5_newCapacity_0f7a4 11 = .ok (.ishl, 1) := by decide +kernel
theorem dJ5_newCapacity_0f7a4_12 : decode cJ5_newCapacity_0f7a4 12 = .ok (.istore_n 3, 1) := by decide +kernel
theorem dJ5_newCapacity_0f7a4_13 : decode cJ5_newCapacity_0f7a4 13 = .ok (.iload_n 3, 1) := by decide +kernel
theorem dJ5_newCapacity_0f7a4_14 : decode cJ5_newCapacity_0f7a4 14 = .ok (.iload_n 2, 1) := by decide +kernel
theorem dJ5_newCapacity_0f7a4_15 : decode cJ5_newCapacity_0f7a4 15 = .ok (.isub, 1) := by decide +kernel
theorem dJ5_newCapacity_0f7a4_16 : decode cJ5_newCapacity_0f7a4 16 = .ok (.istore 4, 2) := by decide +kernel
theorem dJ5_newCapacity_0f7a4_18 : decode cJ5_newCapacity_0f7a4 18 = .ok (.iload_n 2, 1) := by decide +kernel
theorem dJ5_newCapacity_0f7a4_19 : decode cJ5_newCapacity_0f7a4 19 = .ok (.iload 4, 2) := by decide +kernel
theorem dJ5_newCapacity_0f7a4_21 : decode cJ5_newCapacity_0f7a4 21 = .ok (.iload_n 2, 1) := by decide +kernel
theorem dJ5_newCapacity_0f7a4_22 : decode cJ5_newCapacity_0f7a4 22 = .ok (.iconst 2, 1) := by decide +kernel
theorem dJ5_newCapacity_0f7a4_23 : decode cJ5_newCapacity_0f7a4 23 = .ok (.aload_n 0, 1) := by decide +kernel
theorem dJ5_newCapacity_0f7a4_24 : decode cJ5_newCapacity_0f7a4 24 = .ok (.getfield 22, 3) := by decide +kernel
theorem dJ5_newCapacity_0f7a4_27 : decode cJ5_newCapacity_0f7a4 27 = .ok (.ishl, 1) := by decide +kernel
theorem dJ5_newCapacity_0f7a4_28 : decode cJ5_newCapacity_0f7a4 28 = .ok (.iadd, 1) := by decide +kernel
theorem dJ5_newCapacity_0f7a4_29 : decode cJ5_newCapacity_0f7a4 29 = .ok (.invokestatic 114, 3) := by decide +kernel
theorem dJ5_newCapacity_0f7a4_32 : decode cJ5_newCapacity_0f7a4 32 = .ok (.istore 5, 2) := by decide +kernel
theorem dJ5_newCapacity_0f7a4_34 : decode cJ5_newCapacity_0f7a4 34 = .ok (.iload 5, 2) := by decide +kernel
theorem dJ5_newCapacity_0f7a4_36 : decode cJ5_newCapacity_0f7a4 36 = .ok (.ldc 39, 2) := by decide +kernel
theorem dJ5_newCapacity_0f7a4_38 : decode cJ5_newCapacity_0f7a4 38 = .ok (.if_icmp .ne 13, 3) := by decide +kernel
theorem dJ5_newCapacity_0f7a4_41 : decode cJ5_newCapacity_0f7a4 41 = .ok (.new 120, 3) := by decide +kernel
theorem dJ5_newCapacity_0f7a4_44 : decode cJ5_newCapacity_0f7a4 44 = .ok (.dup, 1) := by decide +kernel
theorem dJ5_newCapacity_0f7a4_45 : decode cJ5_newCapacity_0f7a4 45 = .ok (.ldc 122, 2) := by decide +kernel
theorem dJ5_newCapacity_0f7a4_47 : decode cJ5_newCapacity_0f7a4 47 = .ok (.invokespecial 124, 3) := by decide +kernel
theorem dJ5_newCapacity_0f7a4_50 : decode cJ5_newCapacity_0f7a4 50 = .ok (.athrow, 1) := by decide +kernel
theorem dJ5_newCapacity_0f7a4_51 : decode cJ5_newCapacity_0f7a4 51 = .ok (.iload 5, 2) := by decide +kernel
theorem dJ5_newCapacity_0f7a4_53 : decode cJ5_newCapacity_0f7a4 53 = .ok (.aload_n 0, 1) := by decide +kernel
theorem dJ5_newCapacity_0f7a4_54 : decode cJ5_newCapacity_0f7a4 54 = .ok (.getfield 22, 3) := by decide +kernel
theorem dJ5_newCapacity_0f7a4_57 : decode cJ5_newCapacity_0f7a4 57 = .ok (.ishr, 1) := by decide +kernel
theorem dJ5_newCapacity_0f7a4_58 : decode cJ5_newCapacity_0f7a4 58 = .ok (.ireturn, 1) := by decide +kernel
theorem dJ5_append_cf1ce_0 : decode cJ5_append_cf1ce 0 = .ok (.aload_n 1, 1) := by decide +kernel
theorem dJ5_append_cf1ce_1 : decode cJ5_append_cf1ce 1 = .ok (.ifnonnull 8, 3) := by decide +kernel
theorem dJ5_append_cf1ce_4 : decode cJ5_append_cf1ce 4 = .ok (.aload_n 0, 1) := by decide +kernel
theorem dJ5_append_cf1ce_5 : decode cJ5_append_cf1ce 5 = .ok (.invokevirtual 204, 3) := by decide +kernel
theorem dJ5_append_cf1ce_8 : decode cJ5_append_cf1ce 8 = .ok (.areturn, 1) := by decide +kernel
theorem dJ5_append_cf1ce_9 : decode cJ5_append_cf1ce 9 = .ok (.aload_n 1, 1) := by decide +kernel
theorem dJ5_append_cf1ce_10 : decode cJ5_append_cf1ce 10 = .ok (.invokevirtual 32, 3) := by decide +kernel
theorem dJ5_append_cf1ce_13 : decode cJ5_append_cf1ce 13 = .ok (.istore_n 2, 1) := by decide +kernel
theorem dJ5_append_cf1ce_14 : decode cJ5_append_cf1ce 14 = .ok (.aload_n 0, 1) := by decide +kernel
theorem dJ5_append_cf1ce_15 : decode cJ5_append_cf1ce 15 = .ok (.aload_n 0, 1) := by decide +kernel
theorem dJ5_append_cf1ce_16 : decode cJ5_append_cf1ce 16 = .ok (.getfield 79, 3) := by decide +kernel
theorem dJ5_append_cf1ce_19 : decode cJ5_append_cf1ce 19 = .ok (.iload_n 2, 1) := by decide +kernel
theorem dJ5_append_cf1ce_20 : decode cJ5_append_cf1ce 20 = .ok (.iadd, 1) := by decide +kernel
theorem dJ5_append_cf1ce_21 : decode cJ5_append_cf1ce 21 = .ok (.invokevirtual 100, 3) := by decide +kernel
theorem dJ5_append_cf1ce_24 : decode cJ5_append_cf1ce 24 = .ok (.aload_n 0, 1) := by decide +kernel
theorem dJ5_append_cf1ce_25 : decode cJ5_append_cf1ce 25 = .ok (.aload_n 0, 1) := by decide +kernel
theorem dJ5_append_cf1ce_26 : decode cJ5_append_cf1ce 26 = .ok (.getfield 79, 3) := by decide +kernel
theorem dJ5_append_cf1ce_29 : decode cJ5_append_cf1ce 29 = .ok (.aload_n 1, 1) := by decide +kernel
theorem dJ5_append_cf1ce_30 : decode cJ5_append_cf1ce 30 = .ok (.invokevirtual 208, 3) := by decide +kernel
theorem dJ5_append_cf1ce_33 : decode cJ5_append_cf1ce 33 = .ok (.aload_n 0, 1) := by decide +kernel
theorem dJ5_append_cf1ce_34 : decode cJ5_append_cf1ce 34 = .ok (.dup, 1) := by decide +kernel
theorem dJ5_append_cf1ce_35 : decode cJ5_append_cf1ce 35 = .ok (.getfield 79, 3) := by decide +kernel
theorem dJ5_append_cf1ce_38 : decode cJ5_append_cf1ce 38 = .ok (.iload_n 2, 1) := by decide +kernel
theorem dJ5_append_cf1ce_39 : decode cJ5_append_cf1ce 39 = .ok (.iadd, 1) := by decide +kernel
theorem dJ5_append_cf1ce_40 : decode cJ5_append_cf1ce 40 = .ok (.putfield 79, 3) := by decide +kernel
theorem dJ5_append_cf1ce_43 : decode cJ5_append_cf1ce 43 = .ok (.aload_n 0, 1) := by decide +kernel
theorem dJ5_append_cf1ce_44 : decode cJ5_append_cf1ce 44 = .ok (.areturn, 1) := by decide +kernel
theorem dJ5_append_3fe6f_0 : decode cJ5_append_3fe6f 0 = .ok (.aload_n 0, 1) := by decide +kernel
theorem dJ5_append_3fe6f_1 : decode cJ5_append_3fe6f 1 = .ok (.aload_n 0, 1) := by decide +kernel
theorem dJ5_append_3fe6f_2 : decode cJ5_append_3fe6f 2 = .ok (.getfield 79, 3) := by decide +kernel
theorem dJ5_append_3fe6f_5 : decode cJ5_append_3fe6f 5 = .ok (.iconst 1, 1) := by decide +kernel
theorem dJ5_append_3fe6f_6 : decode cJ5_append_3fe6f 6 = .ok (.iadd, 1) := by decide +kernel
theorem dJ5_append_3fe6f_7 : decode cJ5_append_3fe6f 7 = .ok (.invokevirtual 100, 3) := by decide +kernel
theorem dJ5_append_3fe6f_10 : decode cJ5_append_3fe6f 10 = .ok (.aload_n 0, 1) := by decide +kernel
theorem dJ5_append_3fe6f_11 : decode cJ5_append_3fe6f 11 = .ok (.invokevirtual 83, 3) := by decide +kernel
theorem dJ5_append_3fe6f_14 : decode cJ5_append_3fe6f 14 = .ok (.ifCond .eq 31, 3) := by decide +kernel
theorem dJ5_append_3fe6f_17 : decode cJ5_append_3fe6f 17 = .ok (.iload_n 1, 1) := by decide +kernel
theorem dJ5_append_3fe6f_18 : decode cJ5_append_3fe6f 18 = .ok (.invokestatic 191, 3) := by decide +kernel
theorem dJ5_append_3fe6f_21 : decode cJ5_append_3fe6f 21 = .ok (.ifCond .eq 24, 3) := by decide +kernel
theorem dJ5_append_3fe6f_24 : decode cJ5_append_3fe6f 24 = .ok (.aload_n 0, 1) := by decide +kernel
theorem dJ5_append_3fe6f_25 : decode cJ5_append_3fe6f 25 = .ok (.getfield 15, 3) := by decide +kernel
theorem dJ5_append_3fe6f_28 : decode cJ5_append_3fe6f 28 = .ok (.aload_n 0, 1) := by decide +kernel
theorem dJ5_append_3fe6f_29 : decode cJ5_append_3fe6f 29 = .ok (.dup, 1) := by decide +kernel
theorem dJ5_append_3fe6f_30 : decode cJ5_append_3fe6f 30 = .ok (.getfield 79, 3) := by decide +kernel
theorem dJ5_append_3fe6f_33 : decode cJ5_append_3fe6f 33 = .ok (.dup_x1, 1) := by decide +kernel
theorem dJ5_append_3fe6f_34 : decode cJ5_append_3fe6f 34 = .ok (.iconst 1, 1) := by decide +kernel
theorem dJ5_append_3fe6f_35 : decode cJ5_append_3fe6f 35 = .ok (.iadd, 1) := by decide +kernel
theorem dJ5_append_3fe6f_36 : decode cJ5_append_3fe6f 36 = .ok (.putfield 79, 3) := by decide +kernel
theorem dJ5_append_3fe6f_39 : decode cJ5_append_3fe6f 39 = .ok (.iload_n 1, 1) := by decide +kernel
theorem dJ5_append_3fe6f_40 : decode cJ5_append_3fe6f 40 = .ok (.i2b, 1) := by decide +kernel
theorem dJ5_append_3fe6f_41 : decode cJ5_append_3fe6f 41 = .ok (.bastore, 1) := by decide +kernel
theorem dJ5_append_3fe6f_42 : decode cJ5_append_3fe6f 42 = .ok (.goto 33, 3) := by decide +kernel
theorem dJ5_append_3fe6f_45 : decode cJ5_append_3fe6f 45 = .ok (.aload_n 0, 1) := by decide +kernel
theorem dJ5_append_3fe6f_46 : decode cJ5_append_3fe6f 46 = .ok (.invokevirtual 83, 3) := by decide +kernel
theorem dJ5_append_3fe6f_49 : decode cJ5_append_3fe6f 49 = .ok (.ifCond .eq 7, 3) := by decide +kernel
theorem dJ5_append_3fe6f_52 : decode cJ5_append_3fe6f 52 = .ok (.aload_n 0, 1) := by decide +kernel
end
section
theorem dJ5_append_3fe6f_53 : decode cJ5_append_3fe6f 53 = .ok (.invokevirtual 195, 3) := by decide +kernel
theorem dJ5_append_3fe6f_56 : decode cJ5_append_3fe6f 56 = .ok (.aload_n 0, 1) := by decide +kernel
theorem dJ5_append_3fe6f_57 : decode cJ5_append_3fe6f 57 = .ok (.getfield 15, 3) := by decide +kernel
theorem dJ5_append_3fe6f_60 : decode cJ5_append_3fe6f 60 = .ok (.aload_n 0, 1) := by decide +kernel
theorem dJ5_append_3fe6f_61 : decode cJ5_append_3fe6f 61 = .ok (.dup, 1) := by decide +kernel
theorem dJ5_append_3fe6f_62 : decode cJ5_append_3fe6f 62 = .ok (.getfield 79, 3) := by decide +kernel
theorem dJ5_append_3fe6f_65 : decode cJ5_append_3fe6f 65 = .ok (.dup_x1, 1) := by decide +kernel
theorem dJ5_append_3fe6f_66 : decode cJ5_append_3fe6f 66 = .ok (.iconst 1, 1) := by decide +kernel
theorem dJ5_append_3fe6f_67 : decode cJ5_append_3fe6f 67 = .ok (.iadd, 1) := by decide +kernel
theorem dJ5_append_3fe6f_68 : decode cJ5_append_3fe6f 68 = .ok (.putfield 79, 3) := by decide +kernel
theorem dJ5_append_3fe6f_71 : decode cJ5_append_3fe6f 71 = .ok (.iload_n 1, 1) := by decide +kernel
theorem dJ5_append_3fe6f_72 : decode cJ5_append_3fe6f 72 = .ok (.invokestatic 197, 3) := by decide +kernel
theorem dJ5_append_3fe6f_75 : decode cJ5_append_3fe6f 75 = .ok (.aload_n 0, 1) := by decide +kernel
theorem dJ5_append_3fe6f_76 : decode cJ5_append_3fe6f 76 = .ok (.areturn, 1) := by decide +kernel
theorem dJ5_getValue_6d5f1_0 : decode cJ5_getValue_6d5f1 0 = .ok (.aload_n 0, 1) := by decide +kernel
theorem dJ5_getValue_6d5f1_1 : decode cJ5_getValue_6d5f1 1 = .ok (.getfield 15, 3) := by decide +kernel
theorem dJ5_getValue_6d5f1_4 : decode cJ5_getValue_6d5f1 4 = .ok (.areturn, 1) := by decide +kernel
theorem dJ5_isLatin1_aae02_0 : decode cJ5_isLatin1_aae02 0 = .ok (.getstatic 18, 3) := by decide +kernel
theorem dJ5_isLatin1_aae02_3 : decode cJ5_isLatin1_aae02 3 = .ok (.ifCond .eq 14, 3) := by decide +kernel
theorem dJ5_isLatin1_aae02_6 : decode cJ5_isLatin1_aae02 6 = .ok (.aload_n 0, 1) := by decide +kernel
theorem dJ5_isLatin1_aae02_7 : decode cJ5_isLatin1_aae02 7 = .ok (.getfield 22, 3) := by decide +kernel
theorem dJ5_isLatin1_aae02_10 : decode cJ5_isLatin1_aae02 10 = .ok (.ifCond .ne 7, 3) := by decide +kernel
theorem dJ5_isLatin1_aae02_13 : decode cJ5_isLatin1_aae02 13 = .ok (.iconst 1, 1) := by decide +kernel
theorem dJ5_isLatin1_aae02_14 : decode cJ5_isLatin1_aae02 14 = .ok (.goto 4, 3) := by decide +kernel
theorem dJ5_isLatin1_aae02_17 : decode cJ5_isLatin1_aae02 17 = .ok (.iconst 0, 1) := by decide +kernel
theorem dJ5_isLatin1_aae02_18 : decode cJ5_isLatin1_aae02 18 = .ok (.ireturn, 1) := by decide +kernel
theorem dJ5_inflateIfNeededFor_a7421_0 : decode cJ5_inflateIfNeededFor_a7421 0 = .ok (.getstatic 18, 3) := by decide +kernel
theorem dJ5_inflateIfNeededFor_a7421_3 : decode cJ5_inflateIfNeededFor_a7421 3 = .ok (.ifCond .eq 18, 3) := by decide +kernel
theorem dJ5_inflateIfNeededFor_a7421_6 : decode cJ5_inflateIfNeededFor_a7421 6 = .ok (.aload_n 0, 1) := by decide +kernel
theorem dJ5_inflateIfNeededFor_a7421_7 : decode cJ5_inflateIfNeededFor_a7421 7 = .ok (.getfield 22, 3) := by decide +kernel
theorem dJ5_inflateIfNeededFor_a7421_10 : decode cJ5_inflateIfNeededFor_a7421 10 = .ok (.aload_n 1, 1) := by decide +kernel
theorem dJ5_inflateIfNeededFor_a7421_11 : decode cJ5_inflateIfNeededFor_a7421 11 = .ok (.invokevirtual 40, 3) := by decide +kernel
theorem dJ5_inflateIfNeededFor_a7421_14 : decode cJ5_inflateIfNeededFor_a7421 14 = .ok (.if_icmp .eq 7, 3) := by decide +kernel
theorem dJ5_inflateIfNeededFor_a7421_17 : decode cJ5_inflateIfNeededFor_a7421 17 = .ok (.aload_n 0, 1) := by decide +kernel
theorem dJ5_inflateIfNeededFor_a7421_18 : decode cJ5_inflateIfNeededFor_a7421 18 = .ok (.invokevirtual 195, 3) := by decide +kernel
theorem dJ5_inflateIfNeededFor_a7421_21 : decode cJ5_inflateIfNeededFor_a7421 21 = .ok (.return_, 1) := by decide +kernel
theorem dJ5_putStringAt_47b60_0 : decode cJ5_putStringAt_47b60 0 = .ok (.aload_n 0, 1) := by decide +kernel
theorem dJ5_putStringAt_47b60_1 : decode cJ5_putStringAt_47b60 1 = .ok (.aload_n 2, 1) := by decide +kernel
theorem dJ5_putStringAt_47b60_2 : decode cJ5_putStringAt_47b60 2 = .ok (.invokevirtual 397, 3) := by decide +kernel
theorem dJ5_putStringAt_47b60_5 : decode cJ5_putStringAt_47b60 5 = .ok (.aload_n 2, 1) := by decide +kernel
theorem dJ5_putStringAt_47b60_6 : decode cJ5_putStringAt_47b60 6 = .ok (.aload_n 0, 1) := by decide +kernel
theorem dJ5_putStringAt_47b60_7 : decode cJ5_putStringAt_47b60 7 = .ok (.getfield 15, 3) := by decide +kernel
theorem dJ5_putStringAt_47b60_10 : decode cJ5_putStringAt_47b60 10 = .ok (.iload_n 1, 1) := by decide +kernel
theorem dJ5_putStringAt_47b60_11 : decode cJ5_putStringAt_47b60 11 = .ok (.aload_n 0, 1) := by decide +kernel
theorem dJ5_putStringAt_47b60_12 : decode cJ5_putStringAt_47b60 12 = .ok (.getfield 22, 3) := by decide +kernel
theorem dJ5_putStringAt_47b60_15 : decode cJ5_putStringAt_47b60 15 = .ok (.invokevirtual 399, 3) := by decide +kernel
theorem dJ5_putStringAt_47b60_18 : decode cJ5_putStringAt_47b60 18 = .ok (.return_, 1) := by decide +kernel
theorem dJ0_init_905df_0 : decode cJ0_init_905df 0 = .ok (.aload_n 0, 1) := by decide +kernel
theorem dJ0_init_905df_1 : decode cJ0_init_905df 1 = .ok (.aload_n 1, 1) := by decide +kernel
theorem dJ0_init_905df_2 : decode cJ0_init_905df 2 = .ok (.iconst 0, 1) := by decide +kernel
theorem dJ0_init_905df_3 : decode cJ0_init_905df 3 = .ok (.aload_n 1, 1) := by decide +kernel
theorem dJ0_init_905df_4 : decode cJ0_init_905df 4 = .ok (.arraylength, 1) := by decide +kernel
theorem dJ0_init_905df_5 : decode cJ0_init_905df 5 = .ok (.aconst_null, 1) := by decide +kernel
theorem dJ0_init_905df_6 : decode cJ0_init_905df 6 = .ok (.invokespecial 27, 3) := by decide +kernel
theorem dJ0_init_905df_9 : decode cJ0_init_905df 9 = .ok (.return_, 1) := by decide +kernel
theorem dJ0_init_81219_0 : decode cJ0_init_81219 0 = .ok (.aload_n 0, 1) := by decide +kernel
theorem dJ0_init_81219_1 : decode cJ0_init_81219 1 = .ok (.aload_n 1, 1) := by decide +kernel
theorem dJ0_init_81219_2 : decode cJ0_init_81219 2 = .ok (.aconst_null, 1) := by decide +kernel
theorem dJ0_init_81219_3 : decode cJ0_init_81219 3 = .ok (.invokespecial 489, 3) := by decide +kernel
theorem dJ0_init_81219_6 : decode cJ0_init_81219 6 = .ok (.return_, 1) := by decide +kernel
theorem dJ0_length_8abf5_0 : decode cJ0_length_8abf5 0 = .ok (.aload_n 0, 1) := by decide +kernel
theorem dJ0_length_8abf5_1 : decode cJ0_length_8abf5 1 = .ok (.getfield 9, 3) := by decide +kernel
theorem dJ0_length_8abf5_4 : decode cJ0_length_8abf5 4 = .ok (.arraylength, 1) := by decide +kernel
theorem dJ0_length_8abf5_5 : decode cJ0_length_8abf5 5 = .ok (.aload_n 0, 1) := by decide +kernel
theorem dJ0_length_8abf5_6 : decode cJ0_length_8abf5 6 = .ok (.invokevirtual 335, 3) := by decide +kernel
theorem dJ0_length_8abf5_9 : decode cJ0_length_8abf5 9 = .ok (.ishr, 1) := by decide +kernel
theorem dJ0_length_8abf5_10 : decode cJ0_length_8abf5 10 = .ok (.ireturn, 1) := by decide +kernel
theorem dJ0_getBytes_840e7_0 : decode cJ0_getBytes_840e7 0 = .ok (.aload_n 0, 1) := by decide +kernel
theorem dJ0_getBytes_840e7_1 : decode cJ0_getBytes_840e7 1 = .ok (.invokevirtual 335, 3) := by decide +kernel
theorem dJ0_getBytes_840e7_4 : decode cJ0_getBytes_840e7 4 = .ok (.iload_n 3, 1) := by decide +kernel
theorem dJ0_getBytes_840e7_5 : decode cJ0_getBytes_840e7 5 = .ok (.if_icmp .ne 23, 3) := by decide +kernel
theorem dJ0_getBytes_840e7_8 : decode cJ0_getBytes_840e7 8 = .ok (.aload_n 0, 1) := by decide +kernel
theorem dJ0_getBytes_840e7_9 : decode cJ0_getBytes_840e7 9 = .ok (.getfield 9, 3) := by decide +kernel
theorem dJ0_getBytes_840e7_12 : decode cJ0_getBytes_840e7 12 = .ok (.iconst 0, 1) := by decide +kernel
theorem dJ0_getBytes_840e7_13 : decode cJ0_getBytes_840e7 13 = .ok (.aload_n 1, 1) := by decide +kernel
theorem dJ0_getBytes_840e7_14 : decode cJ0_getBytes_840e7 14 = .ok (.iload_n 2, 1) := by decide +kernel
theorem dJ0_getBytes_840e7_15 : decode cJ0_getBytes_840e7 15 = .ok (.iload_n 3, 1) := by decide +kernel
theorem dJ0_getBytes_840e7_16 : decode cJ0_getBytes_840e7 16 = .ok (.ishl, 1) := by decide +kernel
theorem dJ0_getBytes_840e7_17 : decode cJ0_getBytes_840e7 17 = .ok (.aload_n 0, 1) := by decide +kernel
theorem dJ0_getBytes_840e7_18 : decode cJ0_getBytes_840e7 18 = .ok (.getfield 9, 3) := by decide +kernel
theorem dJ0_getBytes_840e7_21 : decode cJ0_getBytes_840e7 21 = .ok (.arraylength, 1) := by decide +kernel
theorem dJ0_getBytes_840e7_22 : decode cJ0_getBytes_840e7 22 = .ok (.invokestatic 212, 3) := by decide +kernel
theorem dJ0_getBytes_840e7_25 : decode cJ0_getBytes_840e7 25 = .ok (.goto 18, 3) := by decide +kernel
theorem dJ0_getBytes_840e7_28 : decode cJ0_getBytes_840e7 28 = .ok (.aload_n 0, 1) := by decide +kernel
theorem dJ0_getBytes_840e7_29 : decode cJ0_getBytes_840e7 29 = .ok (.getfield 9, 3) := by decide +kernel
theorem dJ0_getBytes_840e7_32 : decode cJ0_getBytes_840e7 32 = .ok (.iconst 0, 1) := by decide +kernel
theorem dJ0_getBytes_840e7_33 : decode cJ0_getBytes_840e7 33 = .ok (.aload_n 1, 1) := by decide +kernel
theorem dJ0_getBytes_840e7_34 : decode cJ0_getBytes_840e7 34 = .ok (.iload_n 2, 1) := by decide +kernel
theorem dJ0_getBytes_840e7_35 : decode cJ0_getBytes_840e7 35 = .ok (.aload_n 0, 1) := by decide +kernel
theorem dJ0_getBytes_840e7_36 : decode cJ0_getBytes_840e7 36 = .ok (.getfield 9, 3) := by decide +kernel
theorem dJ0_getBytes_840e7_39 : decode cJ0_getBytes_840e7 39 = .ok (.arraylength, 1) := by decide +kernel
theorem dJ0_getBytes_840e7_40 : decode cJ0_getBytes_840e7 40 = .ok (.invokestatic 106, 3) := by decide +kernel
theorem dJ0_getBytes_840e7_43 : decode cJ0_getBytes_840e7 43 = .ok (.return_, 1) := by decide +kernel
theorem dJ0_init_bb550_0 : decode cJ0_init_bb550 0 = .ok (.aload_n 0, 1) := by decide +kernel
theorem dJ0_init_bb550_1 : decode cJ0_init_bb550 1 = .ok (.invokespecial 1, 3) := by decide +kernel
theorem dJ0_init_bb550_4 : decode cJ0_init_bb550 4 = .ok (.iload_n 3, 1) := by decide +kernel
theorem dJ0_init_bb550_5 : decode cJ0_init_bb550 5 = .ok (.ifCond .ne 22, 3) := by decide +kernel
theorem dJ0_init_bb550_8 : decode cJ0_init_bb550 8 = .ok (.aload_n 0, 1) := by decide +kernel
theorem dJ0_init_bb550_9 : decode cJ0_init_bb550 9 = .ok (.ldc 7, 2) := by decide +kernel
theorem dJ0_init_bb550_11 : decode cJ0_init_bb550 11 = .ok (.getfield 9, 3) := by decide +kernel
theorem dJ0_init_bb550_14 : decode cJ0_init_bb550 14 = .ok (.putfield 9, 3) := by decide +kernel
theorem dJ0_init_bb550_17 : decode cJ0_init_bb550 17 = .ok (.aload_n 0, 1) := by decide +kernel
theorem dJ0_init_bb550_18 : decode cJ0_init_bb550 18 = .ok (.ldc 7, 2) := by decide +kernel
theorem dJ0_init_bb550_20 : decode cJ0_init_bb550 20 = .ok (.getfield 15, 3) := by decide +kernel
theorem dJ0_init_bb550_23 : decode cJ0_init_bb550 23 = .ok (.putfield 15, 3) := by decide +kernel
theorem dJ0_init_bb550_26 : decode cJ0_init_bb550 26 = .ok (.return_, 1) := by decide +kernel
theorem dJ0_init_bb550_27 : decode cJ0_init_bb550 27 = .ok (.getstatic 38, 3) := by decide +kernel
theorem dJ0_init_bb550_30 : decode cJ0_init_bb550 30 = .ok (.ifCond .eq 28, 3) := by decide +kernel
theorem dJ0_init_bb550_33 : decode cJ0_init_bb550 33 = .ok (.aload_n 1, 1) := by decide +kernel
theorem dJ0_init_bb550_34 : decode cJ0_init_bb550 34 = .ok (.iload_n 2, 1) := by decide +kernel
theorem dJ0_init_bb550_35 : decode cJ0_init_bb550 35 = .ok (.iload_n 3, 1) := by decide +kernel
theorem dJ0_init_bb550_36 : decode cJ0_init_bb550 36 = .ok (.invokestatic 177, 3) := by decide +kernel
theorem dJ0_init_bb550_39 : decode cJ0_init_bb550 39 = .ok (.astore 5, 2) := by decide +kernel
theorem dJ0_init_bb550_41 : decode cJ0_init_bb550 41 = .ok (.aload_n 0, 1) := by decide +kernel
theorem dJ0_init_bb550_42 : decode cJ0_init_bb550 42 = .ok (.aload 5, 2) := by decide +kernel
theorem dJ0_init_bb550_44 : decode cJ0_init_bb550 44 = .ok (.iload_n 3, 1) := by decide +kernel
theorem dJ0_init_bb550_45 : decode cJ0_init_bb550 45 = .ok (.invokestatic 47, 3) := by decide +kernel
theorem dJ0_init_bb550_48 : decode cJ0_init_bb550 48 = .ok (.putfield 15, 3) := by decide +kernel
theorem dJ0_init_bb550_51 : decode cJ0_init_bb550 51 = .ok (.aload_n 0, 1) := by decide +kernel
theorem dJ0_init_bb550_52 : decode cJ0_init_bb550 52 = .ok (.aload 5, 2) := by decide +kernel
theorem dJ0_init_bb550_54 : decode cJ0_init_bb550 54 = .ok (.putfield 9, 3) := by decide +kernel
theorem dJ0_init_bb550_57 : decode cJ0_init_bb550 57 = .ok (.return_, 1) := by decide +kernel
theorem dJ0_init_bb550_58 : decode cJ0_init_bb550 58 = .ok (.aload_n 0, 1) := by decide +kernel
theorem dJ0_init_bb550_59 : decode cJ0_init_bb550 59 = .ok (.iconst 1, 1) := by decide +kernel
theorem dJ0_init_bb550_60 : decode cJ0_init_bb550 60 = .ok (.putfield 15, 3) := by decide +kernel
theorem dJ0_init_bb550_63 : decode cJ0_init_bb550 63 = .ok (.aload_n 0, 1) := by decide +kernel
theorem dJ0_init_bb550_64 : decode cJ0_init_bb550 64 = .ok (.aload_n 1, 1) := by decide +kernel
theorem dJ0_init_bb550_65 : decode cJ0_init_bb550 65 = .ok (.iload_n 2, 1) := by decide +kernel
theorem dJ0_init_bb550_66 : decode cJ0_init_bb550 66 = .ok (.iload_n 3, 1) := by decide +kernel
theorem dJ0_init_bb550_67 : decode cJ0_init_bb550 67 = .ok (.invokestatic 180, 3) := by decide +kernel
theorem dJ0_init_bb550_70 : decode cJ0_init_bb550 70 = .ok (.putfield 9, 3) := by decide +kernel
theorem dJ0_init_bb550_73 : decode cJ0_init_bb550 73 = .ok (.return_, 1) := by decide +kernel
theorem dJ0_init_db425_0 : decode cJ0_init_db425 0 = .ok (.aload_n 0, 1) := by decide +kernel
theorem dJ0_init_db425_1 : decode cJ0_init_db425 1 = .ok (.invokespecial 1, 3) := by decide +kernel
theorem dJ0_init_db425_4 : decode cJ0_init_db425 4 = .ok (.aload_n 1, 1) := by decide +kernel
theorem dJ0_init_db425_5 : decode cJ0_init_db425 5 = .ok (.invokevirtual 552, 3) := by decide +kernel
theorem dJ0_init_db425_8 : decode cJ0_init_db425 8 = .ok (.astore_n 3, 1) := by decide +kernel
theorem dJ0_init_db425_9 : decode cJ0_init_db425 9 = .ok (.aload_n 1, 1) := by decide +kernel
theorem dJ0_init_db425_10 : decode cJ0_init_db425 10 = .ok (.invokevirtual 549, 3) := by decide +kernel
theorem dJ0_init_db425_13 : decode cJ0_init_db425 13 = .ok (.istore 4, 2) := by decide +kernel
theorem dJ0_init_db425_15 : decode cJ0_init_db425 15 = .ok (.aload_n 1, 1) := by decide +kernel
theorem dJ0_init_db425_16 : decode cJ0_init_db425 16 = .ok (.invokevirtual 1047, 3) := by decide +kernel
theorem dJ0_init_db425_19 : decode cJ0_init_db425 19 = .ok (.ifCond .eq 22, 3) := by decide +kernel
theorem dJ0_init_db425_22 : decode cJ0_init_db425 22 = .ok (.aload_n 0, 1) := by decide +kernel
theorem dJ0_init_db425_23 : decode cJ0_init_db425 23 = .ok (.iconst 0, 1) := by decide +kernel
theorem dJ0_init_db425_24 : decode cJ0_init_db425 24 = .ok (.putfield 15, 3) := by decide +kernel
theorem dJ0_init_db425_27 : decode cJ0_init_db425 27 = .ok (.aload_n 0, 1) := by decide +kernel
theorem dJ0_init_db425_28 : decode cJ0_init_db425 28 = .ok (.aload_n 3, 1) := by decide +kernel
theorem dJ0_init_db425_29 : decode cJ0_init_db425 29 = .ok (.iconst 0, 1) := by decide +kernel
theorem dJ0_init_db425_30 : decode cJ0_init_db425 30 = .ok (.iload 4, 2) := by decide +kernel
theorem dJ0_init_db425_32 : decode cJ0_init_db425 32 = .ok (.invokestatic 54, 3) := by decide +kernel
theorem dJ0_init_db425_35 : decode cJ0_init_db425 35 = .ok (.putfield 9, 3) := by decide +kernel
theorem dJ0_init_db425_38 : decode cJ0_init_db425 38 = .ok (.goto 59, 3) := by decide +kernel
theorem dJ0_init_db425_41 : decode cJ0_init_db425 41 = .ok (.getstatic 38, 3) := by decide +kernel
theorem dJ0_init_db425_44 : decode cJ0_init_db425 44 = .ok (.ifCond .eq 35, 3) := by decide +kernel
theorem dJ0_init_db425_47 : decode cJ0_init_db425 47 = .ok (.aload_n 1, 1) := by decide +kernel
theorem dJ0_init_db425_48 : decode cJ0_init_db425 48 = .ok (.getfield 1048, 3) := by decide +kernel
theorem dJ0_init_db425_51 : decode cJ0_init_db425 51 = .ok (.ifCond .eq 28, 3) := by decide +kernel
theorem dJ0_init_db425_54 : decode cJ0_init_db425 54 = .ok (.aload_n 0, 1) := by decide +kernel
theorem dJ0_init_db425_55 : decode cJ0_init_db425 55 = .ok (.aload_n 3, 1) := by decide +kernel
theorem dJ0_init_db425_56 : decode cJ0_init_db425 56 = .ok (.iconst 0, 1) := by decide +kernel
theorem dJ0_init_db425_57 : decode cJ0_init_db425 57 = .ok (.iload 4, 2) := by decide +kernel
theorem dJ0_init_db425_59 : decode cJ0_init_db425 59 = .ok (.invokestatic 1051, 3) := by decide +kernel
theorem dJ0_init_db425_62 : decode cJ0_init_db425 62 = .ok (.putfield 9, 3) := by decide +kernel
theorem dJ0_init_db425_65 : decode cJ0_init_db425 65 = .ok (.aload_n 0, 1) := by decide +kernel
theorem dJ0_init_db425_66 : decode cJ0_init_db425 66 = .ok (.aload_n 0, 1) := by decide +kernel
theorem dJ0_init_db425_67 : decode cJ0_init_db425 67 = .ok (.getfield 9, 3) := by decide +kernel
theorem dJ0_init_db425_70 : decode cJ0_init_db425 70 = .ok (.iload 4, 2) := by decide +kernel
theorem dJ0_init_db425_72 : decode cJ0_init_db425 72 = .ok (.invokestatic 47, 3) := by decide +kernel
theorem dJ0_init_db425_75 : decode cJ0_init_db425 75 = .ok (.putfield 15, 3) := by decide +kernel
theorem dJ0_init_db425_78 : decode cJ0_init_db425 78 = .ok (.return_, 1) := by decide +kernel
theorem dJ0_init_db425_79 : decode cJ0_init_db425 79 = .ok (.aload_n 0, 1) := by decide +kernel
theorem dJ0_init_db425_80 : decode cJ0_init_db425 80 = .ok (.iconst 1, 1) := by decide +kernel
theorem dJ0_init_db425_81 : decode cJ0_init_db425 81 = .ok (.putfield 15, 3) := by decide +kernel
theorem dJ0_init_db425_84 : decode cJ0_init_db425 84 = .ok (.aload_n 0, 1) := by decide +kernel
theorem dJ0_init_db425_85 : decode cJ0_init_db425 85 = .ok (.aload_n 3, 1) := by decide +kernel
theorem dJ0_init_db425_86 : decode cJ0_init_db425 86 = .ok (.iconst 0, 1) := by decide +kernel
theorem dJ0_init_db425_87 : decode cJ0_init_db425 87 = .ok (.iload 4, 2) := by decide +kernel
theorem dJ0_init_db425_89 : decode cJ0_init_db425 89 = .ok (.iconst 1, 1) := by decide +kernel
theorem dJ0_init_db425_90 : decode cJ0_init_db425 90 = .ok (.ishl, 1) := by decide +kernel
theorem dJ0_init_db425_91 : decode cJ0_init_db425 91 = .ok (.invokestatic 54, 3) := by decide +kernel
theorem dJ0_init_db425_94 : decode cJ0_init_db425 94 = .ok (.putfield 9, 3) := by decide +kernel
theorem dJ0_init_db425_97 : decode cJ0_init_db425 97 = .ok (.return_, 1) := by decide +kernel
theorem dJ0_coder_7d493_0 : decode cJ0_coder_7d493 0 = .ok (.getstatic 38, 3) := by decide +kernel
theorem dJ0_coder_7d493_3 : decode cJ0_coder_7d493 3 = .ok (.ifCond .eq 10, 3) := by decide +kernel
theorem dJ0_coder_7d493_6 : decode cJ0_coder_7d493 6 = .ok (.aload_n 0, 1) := by decide +kernel
theorem dJ0_coder_7d493_7 : decode cJ0_coder_7d493 7 = .ok (.getfield 15, 3) := by decide +kernel
theorem dJ0_coder_7d493_10 : decode cJ0_coder_7d493 10 = .ok (.goto 4, 3) := by decide +kernel
theorem dJ0_coder_7d493_13 : decode cJ0_coder_7d493 13 = .ok (.iconst 1, 1) := by decide +kernel
theorem dJ0_coder_7d493_14 : decode cJ0_coder_7d493 14 = .ok (.ireturn, 1) := by decide +kernel
theorem dJ4_init_da8c8_0 : decode cJ4_init_da8c8 0 = .ok (.aload_n 0, 1) := by decide +kernel
theorem dJ4_init_da8c8_1 : decode cJ4_init_da8c8 1 = .ok (.bipush 16, 2) := by decide +kernel
theorem dJ4_init_da8c8_3 : decode cJ4_init_da8c8 3 = .ok (.invokespecial 1, 3) := by decide +kernel
theorem dJ4_init_da8c8_6 : decode cJ4_init_da8c8 6 = .ok (.return_, 1) := by decide +kernel
theorem dJ4_append_15ec4_0 : decode cJ4_append_15ec4 0 = .ok (.aload_n 0, 1) := by decide +kernel
theorem dJ4_append_15ec4_1 : decode cJ4_append_15ec4 1 = .ok (.aload_n 1, 1) := by decide +kernel
theorem dJ4_append_15ec4_2 : decode cJ4_append_15ec4 2 = .ok (.invokespecial 29, 3) := by decide +kernel
theorem dJ4_append_15ec4_5 : decode cJ4_append_15ec4 5 = .ok (.pop, 1) := by decide +kernel
theorem dJ4_append_15ec4_6 : decode cJ4_append_15ec4 6 = .ok (.aload_n 0, 1) := by decide +kernel
theorem dJ4_append_15ec4_7 : decode cJ4_append_15ec4 7 = .ok (.areturn, 1) := by decide +kernel
theorem dJ4_append_cf468_0 : decode cJ4_append_cf468 0 = .ok (.aload_n 0, 1) := by decide +kernel
theorem dJ4_append_cf468_1 : decode cJ4_append_cf468 1 = .ok (.iload_n 1, 1) := by decide +kernel
theorem dJ4_append_cf468_2 : decode cJ4_append_cf468 2 = .ok (.invokespecial 50, 3) := by decide +kernel
theorem dJ4_append_cf468_5 : decode cJ4_append_cf468 5 = .ok (.pop, 1) := by decide +kernel
theorem dJ4_append_cf468_6 : decode cJ4_append_cf468 6 = .ok (.aload_n 0, 1) := by decide +kernel
theorem dJ4_append_cf468_7 : decode cJ4_append_cf468 7 = .ok (.areturn, 1) := by decide +kernel
theorem dJ4_toString_0e30d_0 : decode cJ4_toString_0e30d 0 = .ok (.new 18, 3) := by decide +kernel
theorem dJ4_toString_0e30d_3 : decode cJ4_toString_0e30d 3 = .ok (.dup, 1) := by decide +kernel
theorem dJ4_toString_0e30d_4 : decode cJ4_toString_0e30d 4 = .ok (.aload_n 0, 1) := by decide +kernel
theorem dJ4_toString_0e30d_5 : decode cJ4_toString_0e30d 5 = .ok (.invokespecial 137, 3) := by decide +kernel
theorem dJ4_toString_0e30d_8 : decode cJ4_toString_0e30d 8 = .ok (.areturn, 1) := by decide +kernel
theorem dJ4_length_8abf5_0 : decode cJ4_length_8abf5 0 = .ok (.aload_n 0, 1) := by decide +kernel
theorem dJ4_length_8abf5_1 : decode cJ4_length_8abf5 1 = .ok (.invokespecial 343, 3) := by decide +kernel
theorem dJ4_length_8abf5_4 : decode cJ4_length_8abf5 4 = .ok (.ireturn, 1) := by decide +kernel
theorem dJ1_canEncode_fc78d_0 : decode cJ1_canEncode_fc78d 0 = .ok (.iload_n 0, 1) := by decide +kernel
theorem dJ1_canEncode_fc78d_1 : decode cJ1_canEncode_fc78d 1 = .ok (.sipush 255, 3) := by decide +kernel
theorem dJ1_canEncode_fc78d_4 : decode cJ1_canEncode_fc78d 4 = .ok (.if_icmp .gt 7, 3) := by decide +kernel
theorem dJ1_canEncode_fc78d_7 : decode cJ1_canEncode_fc78d 7 = .ok (.iconst 1, 1) := by decide +kernel
theorem dJ1_canEncode_fc78d_8 : decode cJ1_canEncode_fc78d 8 = .ok (.goto 4, 3) := by decide +kernel
theorem dJ1_canEncode_fc78d_11 : decode cJ1_canEncode_fc78d 11 = .ok (.iconst 0, 1) := by decide +kernel
theorem dJ1_canEncode_fc78d_12 : decode cJ1_canEncode_fc78d 12 = .ok (.ireturn, 1) := by decide +kernel
theorem dJ2_coderFromArrayLen_85cad_0 : decode cJ2_coderFromArrayLen_85cad 0 = .ok (.iload_n 1, 1) := by decide +kernel
theorem dJ2_coderFromArrayLen_85cad_1 : decode cJ2_coderFromArrayLen_85cad 1 = .ok (.aload_n 0, 1) := by decide +kernel
theorem dJ2_coderFromArrayLen_85cad_2 : decode cJ2_coderFromArrayLen_85cad 2 = .ok (.arraylength, 1) := by decide +kernel
theorem dJ2_coderFromArrayLen_85cad_3 : decode cJ2_coderFromArrayLen_85cad 3 = .ok (.isub, 1) := by decide +kernel
theorem dJ2_coderFromArrayLen_85cad_4 : decode cJ2_coderFromArrayLen_85cad 4 = .ok (.bipush 31, 2) := by decide +kernel
theorem dJ2_coderFromArrayLen_85cad_6 : decode cJ2_coderFromArrayLen_85cad 6 = .ok (.iushr, 1) := by decide +kernel
theorem dJ2_coderFromArrayLen_85cad_7 : decode cJ2_coderFromArrayLen_85cad 7 = .ok (.i2b, 1) := by decide +kernel
theorem dJ2_coderFromArrayLen_85cad_8 : decode cJ2_coderFromArrayLen_85cad 8 = .ok (.ireturn, 1) := by decide +kernel
theorem dJ2_compress_dfd3c_0 : decode cJ2_compress_dfd3c 0 = .ok (.iload_n 2, 1) := by decide +kernel
theorem dJ2_compress_dfd3c_1 : decode cJ2_compress_dfd3c 1 = .ok (.newarray .byte, 2) := by decide +kernel
theorem dJ2_compress_dfd3c_3 : decode cJ2_compress_dfd3c 3 = .ok (.astore_n 3, 1) := by decide +kernel
theorem dJ2_compress_dfd3c_4 : decode cJ2_compress_dfd3c 4 = .ok (.aload_n 0, 1) := by decide +kernel
theorem dJ2_compress_dfd3c_5 : decode cJ2_compress_dfd3c 5 = .ok (.iload_n 1, 1) := by decide +kernel
theorem dJ2_compress_dfd3c_6 : decode cJ2_compress_dfd3c 6 = .ok (.aload_n 3, 1) := by decide +kernel
theorem dJ2_compress_dfd3c_7 : decode cJ2_compress_dfd3c 7 = .ok (.iconst 0, 1) := by decide +kernel
theorem dJ2_compress_dfd3c_8 : decode cJ2_compress_dfd3c 8 = .ok (.iload_n 2, 1) := by decide +kernel
theorem dJ2_compress_dfd3c_9 : decode cJ2_compress_dfd3c 9 = .ok (.invokestatic 115, 3) := by decide +kernel
theorem dJ2_compress_dfd3c_12 : decode cJ2_compress_dfd3c 12 = .ok (.istore 4, 2) := by decide +kernel
theorem dJ2_compress_dfd3c_14 : decode cJ2_compress_dfd3c 14 = .ok (.iload 4, 2) := by decide +kernel
theorem dJ2_compress_dfd3c_16 : decode cJ2_compress_dfd3c 16 = .ok (.iload_n 2, 1) := by decide +kernel
theorem dJ2_compress_dfd3c_17 : decode cJ2_compress_dfd3c 17 = .ok (.if_icmp .eq 40, 3) := by decide +kernel
theorem dJ2_compress_dfd3c_20 : decode cJ2_compress_dfd3c 20 = .ok (.aload_n 0, 1) := by decide +kernel
theorem dJ2_compress_dfd3c_21 : decode cJ2_compress_dfd3c 21 = .ok (.iload_n 1, 1) := by decide +kernel
theorem dJ2_compress_dfd3c_22 : decode cJ2_compress_dfd3c 22 = .ok (.iload_n 2, 1) := by decide +kernel
theorem dJ2_compress_dfd3c_23 : decode cJ2_compress_dfd3c 23 = .ok (.invokestatic 119, 3) := by decide +kernel
theorem dJ2_compress_dfd3c_26 : decode cJ2_compress_dfd3c 26 = .ok (.astore 5, 2) := by decide +kernel
theorem dJ2_compress_dfd3c_28 : decode cJ2_compress_dfd3c 28 = .ok (.aload 5, 2) := by decide +kernel
theorem dJ2_compress_dfd3c_30 : decode cJ2_compress_dfd3c 30 = .ok (.iload 4, 2) := by decide +kernel
theorem dJ2_compress_dfd3c_32 : decode cJ2_compress_dfd3c 32 = .ok (.invokestatic 71, 3) := by decide +kernel
theorem dJ2_compress_dfd3c_35 : decode cJ2_compress_dfd3c 35 = .ok (.sipush 255, 3) := by decide +kernel
theorem dJ2_compress_dfd3c_38 : decode cJ2_compress_dfd3c 38 = .ok (.if_icmp .gt 16, 3) := by decide +kernel
theorem dJ2_compress_dfd3c_41 : decode cJ2_compress_dfd3c 41 = .ok (.aload 5, 2) := by decide +kernel
theorem dJ2_compress_dfd3c_43 : decode cJ2_compress_dfd3c 43 = .ok (.iconst 0, 1) := by decide +kernel
theorem dJ2_compress_dfd3c_44 : decode cJ2_compress_dfd3c 44 = .ok (.aload_n 3, 1) := by decide +kernel
theorem dJ2_compress_dfd3c_45 : decode cJ2_compress_dfd3c 45 = .ok (.iconst 0, 1) := by decide +kernel
theorem dJ2_compress_dfd3c_46 : decode cJ2_compress_dfd3c 46 = .ok (.iload_n 2, 1) := by decide +kernel
theorem dJ2_compress_dfd3c_47 : decode cJ2_compress_dfd3c 47 = .ok (.invokestatic 123, 3) := by decide +kernel
theorem dJ2_compress_dfd3c_50 : decode cJ2_compress_dfd3c 50 = .ok (.iload_n 2, 1) := by decide +kernel
theorem dJ2_compress_dfd3c_51 : decode cJ2_compress_dfd3c 51 = .ok (.if_icmp .eq 6, 3) := by decide +kernel
theorem dJ2_compress_dfd3c_54 : decode cJ2_compress_dfd3c 54 = .ok (.aload 5, 2) := by decide +kernel
theorem dJ2_compress_dfd3c_56 : decode cJ2_compress_dfd3c 56 = .ok (.areturn, 1) := by decide +kernel
theorem dJ2_compress_dfd3c_57 : decode cJ2_compress_dfd3c 57 = .ok (.aload_n 3, 1) := by decide +kernel
theorem dJ2_compress_dfd3c_58 : decode cJ2_compress_dfd3c 58 = .ok (.areturn, 1) := by decide +kernel
theorem dJ2_compress_fe38e_0 : decode cJ2_compress_fe38e 0 = .ok (.iconst 0, 1) := by decide +kernel
theorem dJ2_compress_fe38e_1 : decode cJ2_compress_fe38e 1 = .ok (.istore 5, 2) := by decide +kernel
theorem dJ2_compress_fe38e_3 : decode cJ2_compress_fe38e 3 = .ok (.iload 5, 2) := by decide +kernel
theorem dJ2_compress_fe38e_5 : decode cJ2_compress_fe38e 5 = .ok (.iload 4, 2) := by decide +kernel
theorem dJ2_compress_fe38e_7 : decode cJ2_compress_fe38e 7 = .ok (.if_icmp .ge 37, 3) := by decide +kernel
theorem dJ2_compress_fe38e_10 : decode cJ2_compress_fe38e 10 = .ok (.aload_n 0, 1) := by decide +kernel
theorem dJ2_compress_fe38e_11 : decode cJ2_compress_fe38e 11 = .ok (.iload_n 1, 1) := by decide +kernel
theorem dJ2_compress_fe38e_12 : decode cJ2_compress_fe38e 12 = .ok (.caload, 1) := by decide +kernel
theorem dJ2_compress_fe38e_13 : decode cJ2_compress_fe38e 13 = .ok (.istore 6, 2) := by decide +kernel
theorem dJ2_compress_fe38e_15 : decode cJ2_compress_fe38e 15 = .ok (.iload 6, 2) := by decide +kernel
theorem dJ2_compress_fe38e_17 : decode cJ2_compress_fe38e 17 = .ok (.sipush 255, 3) := by decide +kernel
theorem dJ2_compress_fe38e_20 : decode cJ2_compress_fe38e 20 = .ok (.if_icmp .le 6, 3) := by decide +kernel
theorem dJ2_compress_fe38e_23 : decode cJ2_compress_fe38e 23 = .ok (.iload 5, 2) := by decide +kernel
theorem dJ2_compress_fe38e_25 : decode cJ2_compress_fe38e 25 = .ok (.ireturn, 1) := by decide +kernel
theorem dJ2_compress_fe38e_26 : decode cJ2_compress_fe38e 26 = .ok (.aload_n 2, 1) := by decide +kernel
theorem dJ2_compress_fe38e_27 : decode cJ2_compress_fe38e 27 = .ok (.iload_n 3, 1) := by decide +kernel
theorem dJ2_compress_fe38e_28 : decode cJ2_compress_fe38e 28 = .ok (.iload 6, 2) := by decide +kernel
theorem dJ2_compress_fe38e_30 : decode cJ2_compress_fe38e 30 = .ok (.i2b, 1) := by decide +kernel
theorem dJ2_compress_fe38e_31 : decode cJ2_compress_fe38e 31 = .ok (.bastore, 1) := by decide +kernel
theorem dJ2_compress_fe38e_32 : decode cJ2_compress_fe38e 32 = .ok (.iinc 1 1, 3) := by decide +kernel
theorem dJ2_compress_fe38e_35 : decode cJ2_compress_fe38e 35 = .ok (.iinc 3 1, 3) := by decide +kernel
theorem dJ2_compress_fe38e_38 : decode cJ2_compress_fe38e 38 = .ok (.iinc 5 1, 3) := by decide +kernel
theorem dJ2_compress_fe38e_41 : decode cJ2_compress_fe38e 41 = .ok (.goto (-38), 3) := by decide +kernel
theorem dJ2_compress_fe38e_44 : decode cJ2_compress_fe38e 44 = .ok (.iload 4, 2) := by decide +kernel
theorem dJ2_compress_fe38e_46 : decode cJ2_compress_fe38e 46 = .ok (.ireturn, 1) := by decide +kernel
theorem dJ7_copyOf_9075b_0 : decode cJ7_copyOf_9075b 0 = .ok (.iload_n 1, 1) := by decide +kernel
theorem dJ7_copyOf_9075b_1 : decode cJ7_copyOf_9075b 1 = .ok (.aload_n 0, 1) := by decide +kernel
theorem dJ7_copyOf_9075b_2 : decode cJ7_copyOf_9075b 2 = .ok (.arraylength, 1) := by decide +kernel
theorem dJ7_copyOf_9075b_3 : decode cJ7_copyOf_9075b 3 = .ok (.if_icmp .ne 11, 3) := by decide +kernel
theorem dJ7_copyOf_9075b_6 : decode cJ7_copyOf_9075b 6 = .ok (.aload_n 0, 1) := by decide +kernel
theorem dJ7_copyOf_9075b_7 : decode cJ7_copyOf_9075b 7 = .ok (.invokevirtual 310, 3) := by decide +kernel
theorem dJ7_copyOf_9075b_10 : decode cJ7_copyOf_9075b 10 = .ok (.checkcast 311, 3) := by decide +kernel
theorem dJ7_copyOf_9075b_13 : decode cJ7_copyOf_9075b 13 = .ok (.areturn, 1) := by decide +kernel
theorem dJ7_copyOf_9075b_14 : decode cJ7_copyOf_9075b 14 = .ok (.iload_n 1, 1) := by decide +kernel
theorem dJ7_copyOf_9075b_15 : decode cJ7_copyOf_9075b 15 = .ok (.newarray .byte, 2) := by decide +kernel
theorem dJ7_copyOf_9075b_17 : decode cJ7_copyOf_9075b 17 = .ok (.astore_n 2, 1) := by decide +kernel
theorem dJ7_copyOf_9075b_18 : decode cJ7_copyOf_9075b 18 = .ok (.aload_n 0, 1) := by decide +kernel
theorem dJ7_copyOf_9075b_19 : decode cJ7_copyOf_9075b 19 = .ok (.iconst 0, 1) := by decide +kernel
theorem dJ7_copyOf_9075b_20 : decode cJ7_copyOf_9075b 20 = .ok (.aload_n 2, 1) := by decide +kernel
theorem dJ7_copyOf_9075b_21 : decode cJ7_copyOf_9075b 21 = .ok (.iconst 0, 1) := by decide +kernel
theorem dJ7_copyOf_9075b_22 : decode cJ7_copyOf_9075b 22 = .ok (.aload_n 0, 1) := by decide +kernel
theorem dJ7_copyOf_9075b_23 : decode cJ7_copyOf_9075b 23 = .ok (.arraylength, 1) := by decide +kernel
theorem dJ7_copyOf_9075b_24 : decode cJ7_copyOf_9075b 24 = .ok (.iload_n 1, 1) := by decide +kernel
theorem dJ7_copyOf_9075b_25 : decode cJ7_copyOf_9075b 25 = .ok (.invokestatic 304, 3) := by decide +kernel
theorem dJ7_copyOf_9075b_28 : decode cJ7_copyOf_9075b 28 = .ok (.invokestatic 150, 3) := by decide +kernel
theorem dJ7_copyOf_9075b_31 : decode cJ7_copyOf_9075b 31 = .ok (.aload_n 2, 1) := by decide +kernel
theorem dJ7_copyOf_9075b_32 : decode cJ7_copyOf_9075b 32 = .ok (.areturn, 1) := by decide +kernel
theorem dJ7_checkLength_df160_0 : decode cJ7_checkLength_df160 0 = .ok (.iload_n 1, 1) := by decide +kernel
theorem dJ7_checkLength_df160_1 : decode cJ7_checkLength_df160 1 = .ok (.iload_n 0, 1) := by decide +kernel
theorem dJ7_checkLength_df160_2 : decode cJ7_checkLength_df160 2 = .ok (.if_icmp .ge 35, 3) := by decide +kernel
theorem dJ7_checkLength_df160_5 : decode cJ7_checkLength_df160 5 = .ok (.new 43, 3) := by decide +kernel
theorem dJ7_checkLength_df160_8 : decode cJ7_checkLength_df160 8 = .ok (.dup, 1) := by decide +kernel
theorem dJ7_checkLength_df160_9 : decode cJ7_checkLength_df160 9 = .ok (.new 45, 3) := by decide +kernel
theorem dJ7_checkLength_df160_12 : decode cJ7_checkLength_df160 12 = .ok (.dup, 1) := by decide +kernel
theorem dJ7_checkLength_df160_13 : decode cJ7_checkLength_df160 13 = .ok (.invokespecial 47, 3) := by decide +kernel
theorem dJ7_checkLength_df160_16 : decode cJ7_checkLength_df160 16 = .ok (.iload_n 0, 1) := by decide +kernel
theorem dJ7_checkLength_df160_17 : decode cJ7_checkLength_df160 17 = .ok (.invokevirtual 54, 3) := by decide +kernel
theorem dJ7_checkLength_df160_20 : decode cJ7_checkLength_df160 20 = .ok (.ldc_w 337, 3) := by decide +kernel
theorem dJ7_checkLength_df160_23 : decode cJ7_checkLength_df160 23 = .ok (.invokevirtual 50, 3) := by decide +kernel
theorem dJ7_checkLength_df160_26 : decode cJ7_checkLength_df160 26 = .ok (.iload_n 1, 1) := by decide +kernel
theorem dJ7_checkLength_df160_27 : decode cJ7_checkLength_df160 27 = .ok (.invokevirtual 54, 3) := by decide +kernel
theorem dJ7_checkLength_df160_30 : decode cJ7_checkLength_df160 30 = .ok (.invokevirtual 61, 3) := by decide +kernel
theorem dJ7_checkLength_df160_33 : decode cJ7_checkLength_df160 33 = .ok (.invokespecial 65, 3) := by decide +kernel
theorem dJ7_checkLength_df160_36 : decode cJ7_checkLength_df160 36 = .ok (.athrow, 1) := by decide +kernel
theorem dJ7_checkLength_df160_37 : decode cJ7_checkLength_df160 37 = .ok (.return_, 1) := by decide +kernel
theorem dJ7_copyOfRange_39247_0 : decode cJ7_copyOfRange_39247 0 = .ok (.iload_n 1, 1) := by decide +kernel
theorem dJ7_copyOfRange_39247_1 : decode cJ7_copyOfRange_39247 1 = .ok (.ifCond .ne 9, 3) := by decide +kernel
theorem dJ7_copyOfRange_39247_4 : decode cJ7_copyOfRange_39247 4 = .ok (.iload_n 2, 1) := by decide +kernel
theorem dJ7_copyOfRange_39247_5 : decode cJ7_copyOfRange_39247 5 = .ok (.aload_n 0, 1) := by decide +kernel
theorem dJ7_copyOfRange_39247_6 : decode cJ7_copyOfRange_39247 6 = .ok (.arraylength, 1) := by decide +kernel
theorem dJ7_copyOfRange_39247_7 : decode cJ7_copyOfRange_39247 7 = .ok (.if_icmp .eq 10, 3) := by decide +kernel
theorem dJ7_copyOfRange_39247_10 : decode cJ7_copyOfRange_39247 10 = .ok (.aload_n 0, 1) := by decide +kernel
theorem dJ7_copyOfRange_39247_11 : decode cJ7_copyOfRange_39247 11 = .ok (.iload_n 1, 1) := by decide +kernel
theorem dJ7_copyOfRange_39247_12 : decode cJ7_copyOfRange_39247 12 = .ok (.iload_n 2, 1) := by decide +kernel
theorem dJ7_copyOfRange_39247_13 : decode cJ7_copyOfRange_39247 13 = .ok (.invokestatic 339, 3) := by decide +kernel
theorem dJ7_copyOfRange_39247_16 : decode cJ7_copyOfRange_39247 16 = .ok (.areturn, 1) := by decide +kernel
theorem dJ7_copyOfRange_39247_17 : decode cJ7_copyOfRange_39247 17 = .ok (.aload_n 0, 1) := by decide +kernel
theorem dJ7_copyOfRange_39247_18 : decode cJ7_copyOfRange_39247 18 = .ok (.invokevirtual 310, 3) := by decide +kernel
theorem dJ7_copyOfRange_39247_21 : decode cJ7_copyOfRange_39247 21 = .ok (.checkcast 311, 3) := by decide +kernel
theorem dJ7_copyOfRange_39247_24 : decode cJ7_copyOfRange_39247 24 = .ok (.areturn, 1) := by decide +kernel
theorem dJ7_copyOfRangeByte_39247_0 : decode cJ7_copyOfRangeByte_39247 0 = .ok (.iload_n 1, 1) := by decide +kernel
theorem dJ7_copyOfRangeByte_39247_1 : decode cJ7_copyOfRangeByte_39247 1 = .ok (.iload_n 2, 1) := by decide +kernel
theorem dJ7_copyOfRangeByte_39247_2 : decode cJ7_copyOfRangeByte_39247 2 = .ok (.invokestatic 343, 3) := by decide +kernel
theorem dJ7_copyOfRangeByte_39247_5 : decode cJ7_copyOfRangeByte_39247 5 = .ok (.iload_n 2, 1) := by decide +kernel
theorem dJ7_copyOfRangeByte_39247_6 : decode cJ7_copyOfRangeByte_39247 6 = .ok (.iload_n 1, 1) := by decide +kernel
theorem dJ7_copyOfRangeByte_39247_7 : decode cJ7_copyOfRangeByte_39247 7 = .ok (.isub, 1) := by decide +kernel
theorem dJ7_copyOfRangeByte_39247_8 : decode cJ7_copyOfRangeByte_39247 8 = .ok (.istore_n 3, 1) := by decide +kernel
theorem dJ7_copyOfRangeByte_39247_9 : decode cJ7_copyOfRangeByte_39247 9 = .ok (.iload_n 3, 1) := by decide +kernel
theorem dJ7_copyOfRangeByte_39247_10 : decode cJ7_copyOfRangeByte_39247 10 = .ok (.newarray .byte, 2) := by decide +kernel
theorem dJ7_copyOfRangeByte_39247_12 : decode cJ7_copyOfRangeByte_39247 12 = .ok (.astore 4, 2) := by decide +kernel
theorem dJ7_copyOfRangeByte_39247_14 : decode cJ7_copyOfRangeByte_39247 14 = .ok (.aload_n 0, 1) := by decide +kernel
theorem dJ7_copyOfRangeByte_39247_15 : decode cJ7_copyOfRangeByte_39247 15 = .ok (.iload_n 1, 1) := by decide +kernel
theorem dJ7_copyOfRangeByte_39247_16 : decode cJ7_copyOfRangeByte_39247 16 = .ok (.aload 4, 2) := by decide +kernel
theorem dJ7_copyOfRangeByte_39247_18 : decode cJ7_copyOfRangeByte_39247 18 = .ok (.iconst 0, 1) := by decide +kernel
theorem dJ7_copyOfRangeByte_39247_19 : decode cJ7_copyOfRangeByte_39247 19 = .ok (.aload_n 0, 1) := by decide +kernel
theorem dJ7_copyOfRangeByte_39247_20 : decode cJ7_copyOfRangeByte_39247 20 = .ok (.arraylength, 1) := by decide +kernel
theorem dJ7_copyOfRangeByte_39247_21 : decode cJ7_copyOfRangeByte_39247 21 = .ok (.iload_n 1, 1) := by decide +kernel
theorem dJ7_copyOfRangeByte_39247_22 : decode cJ7_copyOfRangeByte_39247 22 = .ok (.isub, 1) := by decide +kernel
theorem dJ7_copyOfRangeByte_39247_23 : decode cJ7_copyOfRangeByte_39247 23 = .ok (.iload_n 3, 1) := by decide +kernel
theorem dJ7_copyOfRangeByte_39247_24 : decode cJ7_copyOfRangeByte_39247 24 = .ok (.invokestatic 304, 3) := by decide +kernel
theorem dJ7_copyOfRangeByte_39247_27 : decode cJ7_copyOfRangeByte_39247 27 = .ok (.invokestatic 150, 3) := by decide +kernel
theorem dJ7_copyOfRangeByte_39247_30 : decode cJ7_copyOfRangeByte_39247 30 = .ok (.aload 4, 2) := by decide +kernel
theorem dJ7_copyOfRangeByte_39247_32 : decode cJ7_copyOfRangeByte_39247 32 = .ok (.areturn, 1) := by decide +kernel
theorem dJ8_newLength_cabcc_0 : decode cJ8_newLength_cabcc 0 = .ok (.iload_n 0, 1) := by decide +kernel
theorem dJ8_newLength_cabcc_1 : decode cJ8_newLength_cabcc 1 = .ok (.iload_n 1, 1) := by decide +kernel
theorem dJ8_newLength_cabcc_2 : decode cJ8_newLength_cabcc 2 = .ok (.iload_n 2, 1) := by decide +kernel
theorem dJ8_newLength_cabcc_3 : decode cJ8_newLength_cabcc 3 = .ok (.invokestatic 194, 3) := by decide +kernel
theorem dJ8_newLength_cabcc_6 : decode cJ8_newLength_cabcc 6 = .ok (.iadd, 1) := by decide +kernel
theorem dJ8_newLength_cabcc_7 : decode cJ8_newLength_cabcc 7 = .ok (.istore_n 3, 1) := by decide +kernel
theorem dJ8_newLength_cabcc_8 : decode cJ8_newLength_cabcc 8 = .ok (.iconst 0, 1) := by decide +kernel
theorem dJ8_newLength_cabcc_9 : decode cJ8_newLength_cabcc 9 = .ok (.iload_n 3, 1) := by decide +kernel
theorem dJ8_newLength_cabcc_10 : decode cJ8_newLength_cabcc 10 = .ok (.if_icmp .ge 11, 3) := by decide +kernel
theorem dJ8_newLength_cabcc_13 : decode cJ8_newLength_cabcc 13 = .ok (.iload_n 3, 1) := by decide +kernel
theorem dJ8_newLength_cabcc_14 : decode cJ8_newLength_cabcc 14 = .ok (.ldc 200, 2) := by decide +kernel
theorem dJ8_newLength_cabcc_16 : decode cJ8_newLength_cabcc 16 = .ok (.if_icmp .gt 5, 3) := by decide +kernel
theorem dJ8_newLength_cabcc_19 : decode cJ8_newLength_cabcc 19 = .ok (.iload_n 3, 1) := by decide +kernel
theorem dJ8_newLength_cabcc_20 : decode cJ8_newLength_cabcc 20 = .ok (.ireturn, 1) := by decide +kernel
theorem dJ8_newLength_cabcc_21 : decode cJ8_newLength_cabcc 21 = .ok (.iload_n 0, 1) := by decide +kernel
theorem dJ8_newLength_cabcc_22 : decode cJ8_newLength_cabcc 22 = .ok (.iload_n 1, 1) := by decide +kernel
theorem dJ8_newLength_cabcc_23 : decode cJ8_newLength_cabcc 23 = .ok (.invokestatic 201, 3) := by decide +kernel
theorem dJ8_newLength_cabcc_26 : decode cJ8_newLength_cabcc 26 = .ok (.ireturn, 1) := by decide +kernel
theorem dL_setLength_0 : decode cL_setLength 0 = .ok (.aload_n 3, 1) := by decide +kernel
theorem dL_setLength_1 : decode cL_setLength 1 = .ok (.aload_n 0, 1) := by decide +kernel
theorem dL_setLength_2 : decode cL_setLength 2 = .ok (.iload_n 1, 1) := by decide +kernel
theorem dL_setLength_3 : decode cL_setLength 3 = .ok (.iload_n 2, 1) := by decide +kernel
theorem dL_setLength_4 : decode cL_setLength 4 = .ok (.invokevirtual 77, 3) := by decide +kernel
theorem dL_setLength_7 : decode cL_setLength 7 = .ok (.i2l, 1) := by decide +kernel
theorem dL_setLength_8 : decode cL_setLength 8 = .ok (.putfield 13, 3) := by decide +kernel
theorem dL_setLength_11 : decode cL_setLength 11 = .ok (.goto 11, 3) := by decide +kernel
theorem dL_setLength_14 : decode cL_setLength 14 = .ok (.astore 4, 2) := by decide +kernel
theorem dL_setLength_16 : decode cL_setLength 16 = .ok (.iconst 1, 1) := by decide +kernel
theorem dL_setLength_17 : decode cL_setLength 17 = .ok (.ireturn, 1) := by decide +kernel
theorem dL_setLength_18 : decode cL_setLength 18 = .ok (.astore 4, 2) := by decide +kernel
theorem dL_setLength_20 : decode cL_setLength 20 = .ok (.iconst 2, 1) := by decide +kernel
theorem dL_setLength_21 : decode cL_setLength 21 = .ok (.ireturn, 1) := by decide +kernel
theorem dL_setLength_22 : decode cL_setLength 22 = .ok (.iconst 0, 1) := by decide +kernel
theorem dL_setLength_23 : decode cL_setLength 23 = .ok (.ireturn, 1) := by decide +kernel
theorem dL_text_0 : decode cL_text 0 = .ok (.aload_n 2, 1) := by decide +kernel
theorem dL_text_1 : decode cL_text 1 = .ok (.aload_n 0, 1) := by decide +kernel
theorem dL_text_2 : decode cL_text 2 = .ok (.iload_n 1, 1) := by decide +kernel
theorem dL_text_3 : decode cL_text 3 = .ok (.invokevirtual 105, 3) := by decide +kernel
theorem dL_text_6 : decode cL_text 6 = .ok (.putfield 109, 3) := by decide +kernel
theorem dL_text_9 : decode cL_text 9 = .ok (.goto 6, 3) := by decide +kernel
theorem dL_text_12 : decode cL_text 12 = .ok (.astore_n 3, 1) := by decide +kernel
theorem dL_text_13 : decode cL_text 13 = .ok (.iconst 1, 1) := by decide +kernel
theorem dL_text_14 : decode cL_text 14 = .ok (.ireturn, 1) := by decide +kernel
theorem dL_text_15 : decode cL_text 15 = .ok (.iconst 0, 1) := by decide +kernel
theorem dL_text_16 : decode cL_text 16 = .ok (.ireturn, 1) := by decide +kernel
theorem dL_law_0 : decode cL_law 0 = .ok (.new 8, 3) := by decide +kernel
theorem dL_law_3 : decode cL_law 3 = .ok (.dup, 1) := by decide +kernel
theorem dL_law_4 : decode cL_law 4 = .ok (.invokespecial 178, 3) := by decide +kernel
theorem dL_law_7 : decode cL_law 7 = .ok (.astore_n 1, 1) := by decide +kernel
theorem dL_law_8 : decode cL_law 8 = .ok (.new 179, 3) := by decide +kernel
theorem dL_law_11 : decode cL_law 11 = .ok (.dup, 1) := by decide +kernel
theorem dL_law_12 : decode cL_law 12 = .ok (.invokespecial 181, 3) := by decide +kernel
theorem dL_law_15 : decode cL_law 15 = .ok (.astore_n 2, 1) := by decide +kernel
theorem dL_law_16 : decode cL_law 16 = .ok (.new 14, 3) := by decide +kernel
theorem dL_law_19 : decode cL_law 19 = .ok (.dup, 1) := by decide +kernel
theorem dL_law_20 : decode cL_law 20 = .ok (.invokespecial 182, 3) := by decide +kernel
theorem dL_law_23 : decode cL_law 23 = .ok (.astore_n 3, 1) := by decide +kernel
theorem dL_law_24 : decode cL_law 24 = .ok (.iconst 0, 1) := by decide +kernel
theorem dL_law_25 : decode cL_law 25 = .ok (.istore 4, 2) := by decide +kernel
theorem dL_law_27 : decode cL_law 27 = .ok (.iload 4, 2) := by decide +kernel
theorem dL_law_29 : decode cL_law 29 = .ok (.aload_n 0, 1) := by decide +kernel
theorem dL_law_30 : decode cL_law 30 = .ok (.arraylength, 1) := by decide +kernel
theorem dL_law_31 : decode cL_law 31 = .ok (.iconst 5, 1) := by decide +kernel
theorem dL_law_32 : decode cL_law 32 = .ok (.isub, 1) := by decide +kernel
theorem dL_law_33 : decode cL_law 33 = .ok (.if_icmp .gt 2321, 3) := by decide +kernel
theorem dL_law_36 : decode cL_law 36 = .ok (.aload_n 0, 1) := by decide +kernel
theorem dL_law_37 : decode cL_law 37 = .ok (.iload 4, 2) := by decide +kernel
theorem dL_law_39 : decode cL_law 39 = .ok (.iaload, 1) := by decide +kernel
theorem dL_law_40 : decode cL_law 40 = .ok (.bipush 63, 2) := by decide +kernel
theorem dL_law_42 : decode cL_law 42 = .ok (.iand, 1) := by decide +kernel
theorem dL_law_43 : decode cL_law 43 = .ok (.tableswitch 2305 0 51 #[221, 261, 301, 353, 393, 449, 513, 553, 605, 669, 721, 773, 825, 877, 929, 969, 1033, 1097, 1149, 1189, 1217, 1257, 1285, 1313, 1341, 1369, 1382, 1410, 1450, 1478, 1530, 1570, 1610, 1662, 1702, 1754, 1794, 1834, 1874, 1914, 1954, 1994, 2034, 2062, 2126, 2154, 2182, 2195, 2223, 2251, 2279, 2292], 221) := by decide +kernel
theorem dL_law_1192 : decode cL_law 1192 = .ok (.aload_n 1, 1) := by decide +kernel
theorem dL_law_1193 : decode cL_law 1193 = .ok (.aload_n 0, 1) := by decide +kernel
theorem dL_law_1194 : decode cL_law 1194 = .ok (.iload 4, 2) := by decide +kernel
theorem dL_law_1196 : decode cL_law 1196 = .ok (.iconst 1, 1) := by decide +kernel
theorem dL_law_1197 : decode cL_law 1197 = .ok (.iadd, 1) := by decide +kernel
theorem dL_law_1198 : decode cL_law 1198 = .ok (.iaload, 1) := by decide +kernel
theorem dL_law_1199 : decode cL_law 1199 = .ok (.aload_n 0, 1) := by decide +kernel
theorem dL_law_1200 : decode cL_law 1200 = .ok (.iload 4, 2) := by decide +kernel
theorem dL_law_1202 : decode cL_law 1202 = .ok (.iconst 2, 1) := by decide +kernel
theorem dL_law_1203 : decode cL_law 1203 = .ok (.iadd, 1) := by decide +kernel
theorem dL_law_1204 : decode cL_law 1204 = .ok (.iaload, 1) := by decide +kernel
theorem dL_law_1205 : decode cL_law 1205 = .ok (.aload_n 3, 1) := by decide +kernel
theorem dL_law_1206 : decode cL_law 1206 = .ok (.invokestatic 243, 3) := by decide +kernel
theorem dL_law_1209 : decode cL_law 1209 = .ok (.istore 5, 2) := by decide +kernel
theorem dL_law_1211 : decode cL_law 1211 = .ok (.aload_n 2, 1) := by decide +kernel
theorem dL_law_1212 : decode cL_law 1212 = .ok (.aload_n 0, 1) := by decide +kernel
theorem dL_law_1213 : decode cL_law 1213 = .ok (.iload 4, 2) := by decide +kernel
theorem dL_law_1215 : decode cL_law 1215 = .ok (.iconst 1, 1) := by decide +kernel
theorem dL_law_1216 : decode cL_law 1216 = .ok (.iadd, 1) := by decide +kernel
theorem dL_law_1217 : decode cL_law 1217 = .ok (.iaload, 1) := by decide +kernel
theorem dL_law_1218 : decode cL_law 1218 = .ok (.aload_n 0, 1) := by decide +kernel
theorem dL_law_1219 : decode cL_law 1219 = .ok (.iload 4, 2) := by decide +kernel
theorem dL_law_1221 : decode cL_law 1221 = .ok (.iconst 2, 1) := by decide +kernel
theorem dL_law_1222 : decode cL_law 1222 = .ok (.iadd, 1) := by decide +kernel
theorem dL_law_1223 : decode cL_law 1223 = .ok (.iaload, 1) := by decide +kernel
theorem dL_law_1224 : decode cL_law 1224 = .ok (.invokevirtual 245, 3) := by decide +kernel
theorem dL_law_1227 : decode cL_law 1227 = .ok (.istore 6, 2) := by decide +kernel
theorem dL_law_1229 : decode cL_law 1229 = .ok (.goto 1119, 3) := by decide +kernel
theorem dL_law_1232 : decode cL_law 1232 = .ok (.aload_n 1, 1) := by decide +kernel
theorem dL_law_1233 : decode cL_law 1233 = .ok (.aload_n 0, 1) := by decide +kernel
theorem dL_law_1234 : decode cL_law 1234 = .ok (.iload 4, 2) := by decide +kernel
theorem dL_law_1493 : decode cL_law 1493 = .ok (.aload_n 1, 1) := by decide +kernel
theorem dL_law_1494 : decode cL_law 1494 = .ok (.aload_n 0, 1) := by decide +kernel
theorem dL_law_1495 : decode cL_law 1495 = .ok (.iload 4, 2) := by decide +kernel
theorem dL_law_1497 : decode cL_law 1497 = .ok (.iconst 1, 1) := by decide +kernel
theorem dL_law_1498 : decode cL_law 1498 = .ok (.iadd, 1) := by decide +kernel
theorem dL_law_1499 : decode cL_law 1499 = .ok (.iaload, 1) := by decide +kernel
theorem dL_law_1500 : decode cL_law 1500 = .ok (.aload_n 3, 1) := by decide +kernel
theorem dL_law_1501 : decode cL_law 1501 = .ok (.invokestatic 276, 3) := by decide +kernel
theorem dL_law_1504 : decode cL_law 1504 = .ok (.istore 5, 2) := by decide +kernel
theorem dL_law_1506 : decode cL_law 1506 = .ok (.aload_n 2, 1) := by decide +kernel
theorem dL_law_1507 : decode cL_law 1507 = .ok (.aload_n 0, 1) := by decide +kernel
theorem dL_law_1508 : decode cL_law 1508 = .ok (.iload 4, 2) := by decide +kernel
theorem dL_law_1510 : decode cL_law 1510 = .ok (.iconst 1, 1) := by decide +kernel
theorem dL_law_1511 : decode cL_law 1511 = .ok (.iadd, 1) := by decide +kernel
theorem dL_law_1512 : decode cL_law 1512 = .ok (.iaload, 1) := by decide +kernel
theorem dL_law_1513 : decode cL_law 1513 = .ok (.invokevirtual 278, 3) := by decide +kernel
theorem dL_law_1516 : decode cL_law 1516 = .ok (.astore 6, 2) := by decide +kernel
theorem dL_law_1518 : decode cL_law 1518 = .ok (.goto 830, 3) := by decide +kernel
theorem dL_law_1521 : decode cL_law 1521 = .ok (.aload_n 1, 1) := by decide +kernel
theorem dL_law_1522 : decode cL_law 1522 = .ok (.aload_n 0, 1) := by decide +kernel
theorem dL_law_1523 : decode cL_law 1523 = .ok (.iload 4, 2) := by decide +kernel
theorem dL_law_1525 : decode cL_law 1525 = .ok (.iconst 1, 1) := by decide +kernel
theorem dL_law_2340 : decode cL_law 2340 = .ok (.aload_n 2, 1) := by decide +kernel
theorem dL_law_2341 : decode cL_law 2341 = .ok (.invokevirtual 353, 3) := by decide +kernel
theorem dL_law_2344 : decode cL_law 2344 = .ok (.pop2, 1) := by decide +kernel
theorem dL_law_2345 : decode cL_law 2345 = .ok (.goto 3, 3) := by decide +kernel
theorem dL_law_2348 : decode cL_law 2348 = .ok (.iinc 4 5, 3) := by decide +kernel
theorem dL_law_2351 : decode cL_law 2351 = .ok (.goto (-2324), 3) := by decide +kernel
theorem dL_law_2354 : decode cL_law 2354 = .ok (.iconst 1, 1) := by decide +kernel
theorem dL_law_2355 : decode cL_law 2355 = .ok (.ireturn, 1) := by decide +kernel
end
section
theorem inJx8e188 : ∀ w ∈ wsJx8e1880, w ∈ lw_tbl := by decide +kernel
set_option maxRecDepth 20000 in
theorem ggX0_textOf_J0_init_905df : GoodIn wsX0_textOf wsJ0_init_905df := goodIn_r _ [9, 10, 11, 6, 12, 13, 14, 15, 16, 17, 18, 19, 20, 21, 22, 23, 24, 25, 26, 27, 28, 29, 30, 31, 32, 33, 34, 35, 36, 37, 38, 39, 40, 41, 42, 43, 44, 45, 46, 47, 48, 49, 50, 51, 52, 53, 54, 55, 56, 57, 58, 59, 60, 61, 62, 63, 64, 65, 66, 69, 70, 71, 72] (by decide +kernel) (by decide +kernel)
set_option maxRecDepth 20000 in
theorem gX0_textOf_J0_init_905df : GoodIn wsX0_textOf (wsJ0_init_905df) := ggX0_textOf_J0_init_905df
set_option maxRecDepth 20000 in
theorem ggX1_init_X0_init : GoodIn wsX1_init wsX0_init := goodIn_r _ [13, 14, 2, 3, 15, 16, 24, 25] (by decide +kernel) (by decide +kernel)
set_option maxRecDepth 20000 in
theorem gX1_init_X0_init : GoodIn wsX1_init (wsX0_init) := ggX1_init_X0_init
set_option maxRecDepth 20000 in
theorem ggX1_setLength_X1_tapeOf : GoodIn wsX1_setLength wsX1_tapeOf := goodIn_ca (goodIn_r _ [6, 7, 8, 9, 5, 10, 11, 12, 27, 28, 29, 30, 31, 32, 33] (by decide +kernel) (by decide +kernel)) (goodIn_sub (fun _ h => List.mem_cons_of_mem _ (List.mem_append_left _ (List.mem_append_right _ h))) (by decide +kernel))
set_option maxRecDepth 20000 in
theorem gX1_setLength_X1_tapeOf : GoodIn wsX1_setLength (wsV RX1 26 RX1 yX1_tapeOf wsX1_tapeOf) := goodIn_app (goodIn_of _ (by decide +kernel)) ggX1_setLength_X1_tapeOf
set_option maxRecDepth 20000 in
theorem ggX1_setLength_X1_checkLength : GoodIn wsX1_setLength wsX1_checkLength := goodIn_ca (goodIn_r _ [15, 16, 17] (by decide +kernel) (by decide +kernel)) (goodIn_sub (fun _ h => List.mem_cons_of_mem _ (List.mem_append_right _ h)) (by decide +kernel))
set_option maxRecDepth 20000 in
theorem gX1_setLength_X1_checkLength : GoodIn wsX1_setLength (va_wsS RX1 112 yX1_checkLength wsX1_checkLength) := goodIn_app (goodIn_of _ (by decide +kernel)) ggX1_setLength_X1_checkLength
set_option maxRecDepth 20000 in
theorem ggX1_setLength_X0_becomeLong : GoodIn wsX1_setLength wsX0_becomeLong := goodIn_r _ [22, 23, 24, 25, 26] (by decide +kernel) (by decide +kernel)
set_option maxRecDepth 20000 in
theorem gX1_setLength_X0_becomeLong : GoodIn wsX1_setLength (wsV RX1 115 RX0 yX0_becomeLong wsX0_becomeLong) := goodIn_app (goodIn_of _ (by decide +kernel)) ggX1_setLength_X0_becomeLong
set_option maxRecDepth 20000 in
theorem ggX1_text_X1_tapeOf : GoodIn wsX1_text wsX1_tapeOf := goodIn_ca (goodIn_r _ [6, 7, 8, 9, 5, 10, 11, 12, 86, 87, 88, 89, 90, 91, 92] (by decide +kernel) (by decide +kernel)) (goodIn_sub (fun _ h => List.mem_cons_of_mem _ (List.mem_append_right _ h)) (by decide +kernel))
set_option maxRecDepth 20000 in
theorem gX1_text_X1_tapeOf : GoodIn wsX1_text (wsV RX1 26 RX1 yX1_tapeOf wsX1_tapeOf) := goodIn_app (goodIn_of _ (by decide +kernel)) ggX1_text_X1_tapeOf
set_option maxRecDepth 20000 in
theorem ggX1_text_X0_textOf : GoodIn wsX1_text wsX0_textOf := goodIn_r _ [17, 18, 19, 20, 21, 22, 23, 24, 25, 26, 27, 28, 29, 30, 31, 32, 33, 34, 35, 36, 37, 38, 39, 40, 41, 42, 43, 44, 45, 46, 47, 48, 49, 50, 51, 52, 53, 54, 55, 56, 57, 58, 59, 60, 61, 62, 63, 64, 65, 66, 67, 68, 69, 70, 71, 72, 73, 74, 75, 76, 77, 78, 79, 80, 81, 82, 83, 84, 85, 93, 94, 95, 96] (by decide +kernel) (by decide +kernel)
set_option maxRecDepth 20000 in
theorem gX1_text_X0_textOf : GoodIn wsX1_text (wsV RX1 137 RX0 yX0_textOf wsX0_textOf) := goodIn_app (goodIn_of _ (by decide +kernel)) ggX1_text_X0_textOf
set_option maxRecDepth 20000 in
theorem ggX1_tapeOf_X1_checkTape : GoodIn wsX1_tapeOf wsX1_checkTape := goodIn_ca (goodIn_r _ [5, 6, 7] (by decide +kernel) (by decide +kernel)) (goodIn_sub (fun _ h => List.mem_cons_of_mem _ (List.mem_append_right _ h)) (by decide +kernel))
set_option maxRecDepth 20000 in
theorem gX1_tapeOf_X1_checkTape : GoodIn wsX1_tapeOf (va_wsS RX1 128 yX1_checkTape wsX1_checkTape) := goodIn_app (goodIn_of _ (by decide +kernel)) ggX1_tapeOf_X1_checkTape
set_option maxRecDepth 20000 in
theorem ggX3_start_X3_refuse : GoodIn wsX3_start wsX3_refuse := goodIn_r _ [6, 1, 7, 8, 9, 10, 11, 12] (by decide +kernel) (by decide +kernel)
set_option maxRecDepth 20000 in
theorem gX3_start_X3_refuse : GoodIn wsX3_start (wsV RX3 22 RX3 yX3_refuse wsX3_refuse) := goodIn_app (goodIn_of _ (by decide +kernel)) ggX3_start_X3_refuse
set_option maxRecDepth 20000 in
theorem ggX3_isNoTape_X3_isIn : GoodIn wsX3_isNoTape wsX3_isIn := goodIn_r _ [5] (by decide +kernel) (by decide +kernel)
set_option maxRecDepth 20000 in
theorem gX3_isNoTape_X3_isIn : GoodIn wsX3_isNoTape (va_wsS RX3 28 yX3_isIn wsX3_isIn) := goodIn_app (goodIn_of _ (by decide +kernel)) ggX3_isNoTape_X3_isIn
set_option maxRecDepth 20000 in
theorem ggX3_text_J4_init_da8c8 : GoodIn wsX3_text wsJ4_init_da8c8 := goodIn_r _ [6, 7, 8, 9, 10, 11, 12, 13, 14, 15, 16, 17, 18, 19, 20, 21, 22, 23, 24, 25, 234, 235, 236, 237] (by decide +kernel) (by decide +kernel)
set_option maxRecDepth 20000 in
theorem gX3_text_J4_init_da8c8 : GoodIn wsX3_text (wsJ4_init_da8c8) := ggX3_text_J4_init_da8c8
set_option maxRecDepth 20000 in
theorem ggX3_text_J4_append_15ec4 : GoodIn wsX3_text wsJ4_append_15ec4 := goodIn_r _ [29, 30, 31, 32, 33, 9, 34, 35, 36, 37, 38, 39, 40, 16, 41, 42, 43, 44, 45, 17, 46, 47, 48, 49, 50, 51, 52, 53, 54, 55, 56, 57, 58, 59, 60, 61, 62, 63, 64, 65, 66, 67, 68, 69, 70, 71, 72, 73, 15, 74, 75, 76, 77, 78, 79, 80, 81, 82, 83, 84, 85, 14, 86, 87, 20, 88, 89, 90, 91, 92, 93, 94, 95, 96, 97, 98, 99, 100, 101, 102, 103, 104, 105, 106, 107, 108, 109, 110, 111, 112, 113, 114, 115, 116, 117, 118, 119, 120, 121, 122, 123, 124, 125, 126, 127, 128, 129, 130, 131, 132, 133, 134, 135, 136, 18, 19, 21, 22, 23, 24, 25, 137, 138, 139, 140, 141, 142, 143, 144, 145, 146, 147, 148, 149, 150, 151, 152, 153, 154, 155, 156, 157, 158, 234, 235, 236, 237, 238, 239, 240, 241] (by decide +kernel) (by decide +kernel)
set_option maxRecDepth 20000 in
theorem gX3_text_J4_append_15ec4 : GoodIn wsX3_text (wsV RX3 55 RJ4 yJ4_append_15ec4 wsJ4_append_15ec4) := goodIn_app (goodIn_of _ (by decide +kernel)) ggX3_text_J4_append_15ec4
set_option maxRecDepth 20000 in
theorem ggX3_text_J4_append_cf468 : GoodIn wsX3_text wsJ4_append_cf468 := goodIn_r _ [162, 163, 164, 32, 165, 9, 166, 35, 16, 41, 42, 43, 44, 45, 17, 46, 47, 48, 49, 50, 51, 52, 53, 54, 55, 56, 57, 58, 59, 60, 61, 62, 63, 64, 65, 66, 67, 68, 69, 70, 71, 72, 73, 15, 74, 75, 76, 77, 78, 79, 80, 81, 82, 83, 84, 85, 14, 167, 168, 139, 169, 132, 133, 134, 135, 136, 18, 19, 20, 21, 22, 23, 24, 25, 137, 138, 140, 141, 142, 143, 144, 145, 146, 93, 94, 95, 147, 148, 98, 149, 100, 150, 151, 103, 152, 105, 106, 107, 89, 108, 109, 170, 171, 172, 173, 174, 175, 176, 177, 178, 179, 180, 181, 234, 235, 236, 237] (by decide +kernel) (by decide +kernel)
set_option maxRecDepth 20000 in
theorem gX3_text_J4_append_cf468 : GoodIn wsX3_text (wsV RX3 59 RJ4 yJ4_append_cf468 wsJ4_append_cf468) := goodIn_app (goodIn_of _ (by decide +kernel)) ggX3_text_J4_append_cf468
set_option maxRecDepth 20000 in
theorem ggX3_text_J4_toString_0e30d : GoodIn wsX3_text wsJ4_toString_0e30d := goodIn_r _ [185, 186, 187, 98, 188, 189, 190, 191, 192, 193, 194, 12, 13, 120, 114, 119, 195, 196, 197, 198, 199, 9, 200, 16, 201, 202, 203, 204, 205, 3, 206, 207, 32, 208, 209, 35, 210, 82, 83, 84, 85, 14, 17, 211, 212, 66, 213, 68, 69, 70, 71, 72, 73, 214, 215, 216, 15, 74, 75, 58, 76, 77, 78, 79, 80, 217, 218, 219, 220, 2, 221, 222, 20, 223, 224, 225, 226, 144, 145, 146, 93, 94, 95, 147, 148, 149, 100, 150, 151, 103, 152, 227, 228, 229, 89, 108, 109, 22, 23, 24, 25, 230, 231, 232, 233, 238, 239, 240, 241, 234, 235, 236, 237] (by decide +kernel) (by decide +kernel)
set_option maxRecDepth 20000 in
theorem gX3_text_J4_toString_0e30d : GoodIn wsX3_text (wsV RX3 62 RJ4 yJ4_toString_0e30d wsJ4_toString_0e30d) := goodIn_app (goodIn_of _ (by decide +kernel)) ggX3_text_J4_toString_0e30d
set_option maxRecDepth 20000 in
theorem ggX3_setLength_X3_isNoTape : GoodIn wsX3_setLength wsX3_isNoTape := goodIn_r _ [7, 8, 9, 10, 6, 11] (by decide +kernel) (by decide +kernel)
set_option maxRecDepth 20000 in
theorem gX3_setLength_X3_isNoTape : GoodIn wsX3_setLength (va_wsS RX3 36 yX3_isNoTape wsX3_isNoTape) := goodIn_app (goodIn_of _ (by decide +kernel)) ggX3_setLength_X3_isNoTape
set_option maxRecDepth 20000 in
theorem ggX3_setLength_X3_start : GoodIn wsX3_setLength wsX3_start := goodIn_r _ [15, 16, 17, 18, 19, 6, 20, 27, 28, 29, 30, 31, 32] (by decide +kernel) (by decide +kernel)
set_option maxRecDepth 20000 in
theorem gX3_setLength_X3_start : GoodIn wsX3_setLength (wsV RX3 104 RX3 yX3_start wsX3_start) := goodIn_app (goodIn_of _ (by decide +kernel)) ggX3_setLength_X3_start
set_option maxRecDepth 20000 in
theorem ggX3_setLength_X3_isIn : GoodIn wsX3_setLength wsX3_isIn := goodIn_r _ [11] (by decide +kernel) (by decide +kernel)
set_option maxRecDepth 20000 in
theorem gX3_setLength_X3_isIn : GoodIn wsX3_setLength (va_wsS RX3 28 yX3_isIn wsX3_isIn) := goodIn_app (goodIn_of _ (by decide +kernel)) ggX3_setLength_X3_isIn
set_option maxRecDepth 20000 in
theorem ggX3_setLength_X3_refuse : GoodIn wsX3_setLength wsX3_refuse := goodIn_r _ [20, 16, 27, 28, 29, 30, 31, 32] (by decide +kernel) (by decide +kernel)
set_option maxRecDepth 20000 in
theorem gX3_setLength_X3_refuse : GoodIn wsX3_setLength (wsV RX3 22 RX3 yX3_refuse wsX3_refuse) := goodIn_app (goodIn_of _ (by decide +kernel)) ggX3_setLength_X3_refuse
set_option maxRecDepth 20000 in
theorem ggX3_setLength_X3_joined : GoodIn wsX3_setLength wsX3_joined := goodIn_r _ [23, 3] (by decide +kernel) (by decide +kernel)
set_option maxRecDepth 20000 in
theorem gX3_setLength_X3_joined : GoodIn wsX3_setLength (va_wsS RX3 96 yX3_joined wsX3_joined) := goodIn_app (goodIn_of _ (by decide +kernel)) ggX3_setLength_X3_joined
set_option maxRecDepth 20000 in
theorem ggX3_setLength_X3_part : GoodIn wsX3_setLength wsX3_part := goodIn_r _ [26, 3] (by decide +kernel) (by decide +kernel)
set_option maxRecDepth 20000 in
theorem gX3_setLength_X3_part : GoodIn wsX3_setLength (va_wsS RX3 89 yX3_part wsX3_part) := goodIn_app (goodIn_of _ (by decide +kernel)) ggX3_setLength_X3_part
set_option maxRecDepth 20000 in
theorem ggX3_text__X3_isNoTape : GoodIn wsX3_text_ wsX3_isNoTape := goodIn_r _ [5, 6, 7, 8, 4, 9] (by decide +kernel) (by decide +kernel)
set_option maxRecDepth 20000 in
theorem gX3_text__X3_isNoTape : GoodIn wsX3_text_ (va_wsS RX3 36 yX3_isNoTape wsX3_isNoTape) := goodIn_app (goodIn_of _ (by decide +kernel)) ggX3_text__X3_isNoTape
set_option maxRecDepth 20000 in
theorem ggX3_text__X3_start : GoodIn wsX3_text_ wsX3_start := goodIn_r _ [13, 14, 15, 16, 17, 4, 18, 255, 256, 257, 258, 259, 260] (by decide +kernel) (by decide +kernel)
set_option maxRecDepth 20000 in
theorem gX3_text__X3_start : GoodIn wsX3_text_ (wsV RX3 104 RX3 yX3_start wsX3_start) := goodIn_app (goodIn_of _ (by decide +kernel)) ggX3_text__X3_start
set_option maxRecDepth 20000 in
theorem ggX3_text__X3_text : GoodIn wsX3_text_ wsX3_text := goodIn_r _ [21, 22, 23, 24, 25, 26, 27, 28, 29, 30, 31, 32, 33, 34, 35, 36, 37, 38, 39, 40, 41, 42, 43, 44, 45, 46, 47, 48, 49, 50, 51, 52, 53, 54, 55, 56, 57, 58, 59, 60, 61, 62, 63, 64, 65, 66, 67, 68, 69, 70, 71, 72, 73, 74, 75, 76, 77, 78, 79, 80, 81, 82, 83, 84, 85, 86, 87, 88, 89, 90, 91, 92, 93, 94, 95, 96, 97, 98, 99, 100, 101, 102, 103, 104, 105, 106, 107, 108, 109, 110, 111, 112, 113, 114, 115, 116, 117, 118, 119, 120, 121, 122, 123, 124, 125, 126, 127, 128, 129, 130, 131, 132, 133, 134, 135, 136, 137, 138, 139, 140, 141, 142, 143, 144, 145, 146, 147, 148, 149, 150, 151, 152, 153, 154, 155, 156, 157, 158, 159, 160, 161, 162, 163, 164, 165, 166, 167, 168, 169, 170, 171, 172, 173, 174, 175, 176, 177, 178, 179, 180, 181, 182, 183, 184, 185, 186, 187, 188, 189, 190, 191, 192, 193, 194, 195, 196, 197, 198, 199, 200, 201, 202, 203, 204, 205, 206, 207, 208, 209, 210, 211, 212, 213, 214, 215, 216, 217, 218, 219, 220, 221, 222, 223, 224, 225, 226, 227, 228, 229, 230, 231, 232, 233, 234, 235, 236, 237, 238, 239, 240, 241, 242, 243, 244, 245, 246, 247, 248, 249, 250, 251, 252, 253, 254, 261, 262, 263, 264, 265, 266, 267, 268] (by decide +kernel) (by decide +kernel)
set_option maxRecDepth 20000 in
theorem gX3_text__X3_text : GoodIn wsX3_text_ (va_wsS RX3 161 yX3_text wsX3_text) := goodIn_app (goodIn_of _ (by decide +kernel)) ggX3_text__X3_text
set_option maxRecDepth 20000 in
theorem ggJ5_ensureCapacityInternal_d00df_J5_newCapacity_0f7a4 : GoodIn wsJ5_ensureCapacityInternal_d00df wsJ5_newCapacity_0f7a4 := goodIn_r _ [8, 1, 2, 9, 10, 11, 12, 13, 14, 15, 16, 17, 18, 19, 20, 21, 40, 41, 42, 43] (by decide +kernel) (by decide +kernel)
set_option maxRecDepth 20000 in
theorem gJ5_ensureCapacityInternal_d00df_J5_newCapacity_0f7a4_u104J4 : GoodIn wsJ5_ensureCapacityInternal_d00df (va_wsU RJ5 104 RJ4 "java/lang/AbstractStringBuilder" ⟨"java/lang/AbstractStringBuilder", "newCapacity", "(I)I"⟩ yJ5_newCapacity_0f7a4 wsJ5_newCapacity_0f7a4) := goodIn_app (goodIn_of _ (by decide +kernel)) ggJ5_ensureCapacityInternal_d00df_J5_newCapacity_0f7a4
set_option maxRecDepth 20000 in
theorem ggJ5_ensureCapacityInternal_d00df_J7_copyOf_9075b : GoodIn wsJ5_ensureCapacityInternal_d00df wsJ7_copyOf_9075b := goodIn_r _ [25, 26, 27, 28, 29, 30, 31, 32, 33, 34, 16, 35, 36, 37, 38, 39] (by decide +kernel) (by decide +kernel)
set_option maxRecDepth 20000 in
theorem gJ5_ensureCapacityInternal_d00df_J7_copyOf_9075b : GoodIn wsJ5_ensureCapacityInternal_d00df (va_wsS RJ5 108 yJ7_copyOf_9075b wsJ7_copyOf_9075b) := goodIn_app (goodIn_of _ (by decide +kernel)) ggJ5_ensureCapacityInternal_d00df_J7_copyOf_9075b
set_option maxRecDepth 20000 in
theorem ggJ5_newCapacity_0f7a4_J8_newLength_cabcc : GoodIn wsJ5_newCapacity_0f7a4 wsJ8_newLength_cabcc := goodIn_r _ [7, 8, 9, 10, 11, 12, 13, 14, 6, 15] (by decide +kernel) (by decide +kernel)
set_option maxRecDepth 20000 in
theorem gJ5_newCapacity_0f7a4_J8_newLength_cabcc : GoodIn wsJ5_newCapacity_0f7a4 (va_wsS RJ5 114 yJ8_newLength_cabcc wsJ8_newLength_cabcc) := goodIn_app (goodIn_of _ (by decide +kernel)) ggJ5_newCapacity_0f7a4_J8_newLength_cabcc
set_option maxRecDepth 20000 in
theorem ggJ5_append_cf1ce_J0_length_8abf5 : GoodIn wsJ5_append_cf1ce wsJ0_length_8abf5 := goodIn_r _ [85, 86, 87, 88, 89, 70, 90, 91, 92, 142, 143, 144, 145] (by decide +kernel) (by decide +kernel)
set_option maxRecDepth 20000 in
theorem gJ5_append_cf1ce_J0_length_8abf5 : GoodIn wsJ5_append_cf1ce (wsV RJ5 32 RJ0 yJ0_length_8abf5 wsJ0_length_8abf5) := goodIn_app (goodIn_of _ (by decide +kernel)) ggJ5_append_cf1ce_J0_length_8abf5
set_option maxRecDepth 20000 in
theorem ggJ5_append_cf1ce_J5_ensureCapacityInternal_d00df : GoodIn wsJ5_append_cf1ce wsJ5_ensureCapacityInternal_d00df := goodIn_r _ [13, 8, 14, 15, 16, 17, 18, 6, 19, 20, 21, 22, 23, 24, 25, 26, 27, 28, 29, 30, 31, 32, 33, 34, 35, 36, 37, 38, 39, 40, 41, 42, 43, 44, 45, 46, 47, 48, 49, 50, 138, 139, 140, 141] (by decide +kernel) (by decide +kernel)
set_option maxRecDepth 20000 in
theorem gJ5_append_cf1ce_J5_ensureCapacityInternal_d00df_u100J4 : GoodIn wsJ5_append_cf1ce (va_wsU RJ5 100 RJ4 "java/lang/AbstractStringBuilder" ⟨"java/lang/AbstractStringBuilder", "ensureCapacityInternal", "(I)V"⟩ yJ5_ensureCapacityInternal_d00df wsJ5_ensureCapacityInternal_d00df) := goodIn_app (goodIn_of _ (by decide +kernel)) ggJ5_append_cf1ce_J5_ensureCapacityInternal_d00df
set_option maxRecDepth 20000 in
theorem ggJ5_append_cf1ce_J5_putStringAt_47b60 : GoodIn wsJ5_append_cf1ce wsJ5_putStringAt_47b60 := goodIn_r _ [97, 8, 14, 98, 99, 100, 101, 6, 102, 56, 103, 88, 89, 70, 90, 91, 92, 104, 105, 106, 107, 108, 1, 51, 52, 53, 54, 55, 109, 110, 59, 111, 43, 112, 113, 114, 115, 116, 117, 118, 119, 120, 121, 122, 123, 124, 125, 65, 66, 67, 126, 127, 128, 72, 129, 130, 75, 131, 77, 78, 79, 61, 80, 81, 132, 133, 134, 135, 86, 136, 48, 49, 50, 87, 137, 138, 139, 140, 141, 142, 143, 144, 145] (by decide +kernel) (by decide +kernel)
set_option maxRecDepth 20000 in
theorem gJ5_append_cf1ce_J5_putStringAt_47b60_u208J4 : GoodIn wsJ5_append_cf1ce (va_wsU RJ5 208 RJ4 "java/lang/AbstractStringBuilder" ⟨"java/lang/AbstractStringBuilder", "putStringAt", "(ILjava/lang/String;)V"⟩ yJ5_putStringAt_47b60 wsJ5_putStringAt_47b60) := goodIn_app (goodIn_of _ (by decide +kernel)) ggJ5_append_cf1ce_J5_putStringAt_47b60
set_option maxRecDepth 20000 in
theorem ggJ5_append_3fe6f_J5_ensureCapacityInternal_d00df : GoodIn wsJ5_append_3fe6f wsJ5_ensureCapacityInternal_d00df := goodIn_r _ [8, 2, 9, 10, 11, 12, 13, 7, 14, 15, 16, 17, 18, 19, 20, 21, 22, 23, 24, 25, 26, 27, 28, 29, 30, 31, 32, 33, 34, 35, 36, 37, 38, 39, 40, 41, 42, 43, 44, 45, 108, 109, 110, 111] (by decide +kernel) (by decide +kernel)
set_option maxRecDepth 20000 in
theorem gJ5_append_3fe6f_J5_ensureCapacityInternal_d00df_u100J4 : GoodIn wsJ5_append_3fe6f (va_wsU RJ5 100 RJ4 "java/lang/AbstractStringBuilder" ⟨"java/lang/AbstractStringBuilder", "ensureCapacityInternal", "(I)V"⟩ yJ5_ensureCapacityInternal_d00df wsJ5_ensureCapacityInternal_d00df) := goodIn_app (goodIn_of _ (by decide +kernel)) ggJ5_append_3fe6f_J5_ensureCapacityInternal_d00df
set_option maxRecDepth 20000 in
theorem ggJ5_append_3fe6f_J5_isLatin1_aae02 : GoodIn wsJ5_append_3fe6f wsJ5_isLatin1_aae02 := goodIn_r _ [50, 51, 9, 108, 109, 110, 111] (by decide +kernel) (by decide +kernel)
set_option maxRecDepth 20000 in
theorem gJ5_append_3fe6f_J5_isLatin1_aae02_u83J4 : GoodIn wsJ5_append_3fe6f (va_wsU RJ5 83 RJ4 "java/lang/AbstractStringBuilder" ⟨"java/lang/AbstractStringBuilder", "isLatin1", "()Z"⟩ yJ5_isLatin1_aae02 wsJ5_isLatin1_aae02) := goodIn_app (goodIn_of _ (by decide +kernel)) ggJ5_append_3fe6f_J5_isLatin1_aae02
set_option maxRecDepth 20000 in
theorem ggJ5_append_3fe6f_J1_canEncode_fc78d : GoodIn wsJ5_append_3fe6f wsJ1_canEncode_fc78d := goodIn_r _ [55] (by decide +kernel) (by decide +kernel)
set_option maxRecDepth 20000 in
theorem gJ5_append_3fe6f_J1_canEncode_fc78d : GoodIn wsJ5_append_3fe6f (va_wsS RJ5 191 yJ1_canEncode_fc78d wsJ1_canEncode_fc78d) := goodIn_app (goodIn_of _ (by decide +kernel)) ggJ5_append_3fe6f_J1_canEncode_fc78d
set_option maxRecDepth 20000 in
theorem ggJ5_inflateIfNeededFor_a7421_J0_coder_7d493 : GoodIn wsJ5_inflateIfNeededFor_a7421 wsJ0_coder_7d493 := goodIn_r _ [7, 8, 9, 63, 64, 65, 66] (by decide +kernel) (by decide +kernel)
set_option maxRecDepth 20000 in
theorem gJ5_inflateIfNeededFor_a7421_J0_coder_7d493 : GoodIn wsJ5_inflateIfNeededFor_a7421 (wsV RJ5 40 RJ0 yJ0_coder_7d493 wsJ0_coder_7d493) := goodIn_app (goodIn_of _ (by decide +kernel)) ggJ5_inflateIfNeededFor_a7421_J0_coder_7d493
set_option maxRecDepth 20000 in
theorem ggJ5_putStringAt_47b60_J5_inflateIfNeededFor_a7421 : GoodIn wsJ5_putStringAt_47b60 wsJ5_inflateIfNeededFor_a7421 := goodIn_r _ [8, 9, 2, 10, 11, 12, 13, 14, 15, 16, 17, 18, 19, 20, 7, 21, 1, 22, 23, 24, 25, 26, 27, 28, 29, 30, 31, 32, 33, 34, 35, 36, 37, 38, 39, 40, 41, 42, 43, 44, 45, 46, 47, 48, 49, 50, 51, 52, 53, 54, 55, 56, 57, 58, 59, 60, 61, 62, 63, 75, 76, 77, 78, 79, 80, 81, 82] (by decide +kernel) (by decide +kernel)
set_option maxRecDepth 20000 in
theorem gJ5_putStringAt_47b60_J5_inflateIfNeededFor_a7421_u397J4 : GoodIn wsJ5_putStringAt_47b60 (va_wsU RJ5 397 RJ4 "java/lang/AbstractStringBuilder" ⟨"java/lang/AbstractStringBuilder", "inflateIfNeededFor", "(Ljava/lang/String;)V"⟩ yJ5_inflateIfNeededFor_a7421 wsJ5_inflateIfNeededFor_a7421) := goodIn_app (goodIn_of _ (by decide +kernel)) ggJ5_putStringAt_47b60_J5_inflateIfNeededFor_a7421
set_option maxRecDepth 20000 in
theorem ggJ5_putStringAt_47b60_J0_getBytes_840e7 : GoodIn wsJ5_putStringAt_47b60 wsJ0_getBytes_840e7 := goodIn_r _ [67, 68, 69, 70, 71, 72, 73, 11, 12, 13, 14, 15, 16, 74, 38, 39, 40, 41, 42, 30, 43, 44, 45, 46, 47, 48, 49, 50, 51, 52, 53, 54, 55, 56, 57, 58, 59, 60, 61, 62, 63, 79, 80, 81, 82] (by decide +kernel) (by decide +kernel)
set_option maxRecDepth 20000 in
theorem gJ5_putStringAt_47b60_J0_getBytes_840e7 : GoodIn wsJ5_putStringAt_47b60 (wsV RJ5 399 RJ0 yJ0_getBytes_840e7 wsJ0_getBytes_840e7) := goodIn_app (goodIn_of _ (by decide +kernel)) ggJ5_putStringAt_47b60_J0_getBytes_840e7
set_option maxRecDepth 20000 in
theorem ggJ0_init_905df_J0_init_bb550 : GoodIn wsJ0_init_905df wsJ0_init_bb550 := goodIn_r _ [4, 5, 6, 7, 8, 9, 10, 11, 12, 13, 14, 15, 16, 17, 18, 19, 20, 21, 22, 23, 24, 25, 26, 27, 28, 29, 30, 31, 32, 33, 34, 35, 36, 37, 38, 39, 40, 41, 42, 43, 44, 45, 46, 47, 48, 3, 49, 50, 51, 52, 53, 54, 55, 56, 57, 58, 59, 60, 61, 62] (by decide +kernel) (by decide +kernel)
set_option maxRecDepth 20000 in
theorem gJ0_init_905df_J0_init_bb550 : GoodIn wsJ0_init_905df (wsJ0_init_bb550) := ggJ0_init_905df_J0_init_bb550
set_option maxRecDepth 20000 in
theorem ggJ0_init_81219_J0_init_db425 : GoodIn wsJ0_init_81219 wsJ0_init_db425 := goodIn_r _ [4, 5, 6, 7, 8, 9, 10, 11, 12, 13, 14, 15, 16, 17, 18, 19, 20, 21, 22, 23, 24, 25, 26, 27, 28, 29, 30, 31, 32, 33, 34, 35, 36, 37, 38, 39, 40, 41, 42, 43, 44, 45, 46, 47, 48, 49, 50, 51, 52, 53, 54, 55, 56, 57, 58, 59, 60, 61, 62, 63, 64, 65, 66, 67, 68, 69, 70, 71, 72, 73, 74, 75, 76, 77, 78, 79, 3, 80, 81, 82, 83, 84, 85, 86, 87, 88, 89, 90, 91, 92, 93, 94, 95, 96, 97, 98, 99, 100, 101, 102, 103, 104, 105, 106, 107] (by decide +kernel) (by decide +kernel)
set_option maxRecDepth 20000 in
theorem gJ0_init_81219_J0_init_db425 : GoodIn wsJ0_init_81219 (wsJ0_init_db425) := ggJ0_init_81219_J0_init_db425
set_option maxRecDepth 20000 in
theorem ggJ0_length_8abf5_J0_coder_7d493 : GoodIn wsJ0_length_8abf5 wsJ0_coder_7d493 := goodIn_r _ [6, 7, 8, 9, 10, 11, 12] (by decide +kernel) (by decide +kernel)
set_option maxRecDepth 20000 in
theorem gJ0_length_8abf5_J0_coder_7d493 : GoodIn wsJ0_length_8abf5 (wsV RJ0 335 RJ0 yJ0_coder_7d493 wsJ0_coder_7d493) := goodIn_app (goodIn_of _ (by decide +kernel)) ggJ0_length_8abf5_J0_coder_7d493
set_option maxRecDepth 20000 in
theorem ggJ0_getBytes_840e7_J0_coder_7d493 : GoodIn wsJ0_getBytes_840e7 wsJ0_coder_7d493 := goodIn_r _ [10, 11, 12, 41, 42, 43, 44] (by decide +kernel) (by decide +kernel)
set_option maxRecDepth 20000 in
theorem gJ0_getBytes_840e7_J0_coder_7d493 : GoodIn wsJ0_getBytes_840e7 (wsV RJ0 335 RJ0 yJ0_coder_7d493 wsJ0_coder_7d493) := goodIn_app (goodIn_of _ (by decide +kernel)) ggJ0_getBytes_840e7_J0_coder_7d493
set_option maxRecDepth 20000 in
theorem ggJ0_init_bb550_J2_compress_dfd3c : GoodIn wsJ0_init_bb550 wsJ2_compress_dfd3c := goodIn_r _ [10, 11, 12, 13, 9, 14, 15, 16, 17, 18, 19, 20, 21, 22, 23, 24, 25, 26, 27, 28, 29, 30, 31, 32, 33, 34, 35, 36, 37, 38, 39, 40, 41, 42, 43, 44, 45, 46, 47, 48, 49, 50, 51] (by decide +kernel) (by decide +kernel)
set_option maxRecDepth 20000 in
theorem gJ0_init_bb550_J2_compress_dfd3c : GoodIn wsJ0_init_bb550 (va_wsS RJ0 177 yJ2_compress_dfd3c wsJ2_compress_dfd3c) := goodIn_app (goodIn_of _ (by decide +kernel)) ggJ0_init_bb550_J2_compress_dfd3c
set_option maxRecDepth 20000 in
theorem ggJ0_init_bb550_J2_coderFromArrayLen_85cad : GoodIn wsJ0_init_bb550 wsJ2_coderFromArrayLen_85cad := goodIn_r _ [54] (by decide +kernel) (by decide +kernel)
set_option maxRecDepth 20000 in
theorem gJ0_init_bb550_J2_coderFromArrayLen_85cad : GoodIn wsJ0_init_bb550 (va_wsS RJ0 47 yJ2_coderFromArrayLen_85cad wsJ2_coderFromArrayLen_85cad) := goodIn_app (goodIn_of _ (by decide +kernel)) ggJ0_init_bb550_J2_coderFromArrayLen_85cad
set_option maxRecDepth 20000 in
theorem ggJ0_init_db425_J5_getValue_6d5f1 : GoodIn wsJ0_init_db425 wsJ5_getValue_6d5f1 := goodIn_r _ [13, 14, 101, 102, 103, 104] (by decide +kernel) (by decide +kernel)
set_option maxRecDepth 20000 in
theorem gJ0_init_db425_J5_getValue_6d5f1_u552J4 : GoodIn wsJ0_init_db425 (va_wsU RJ0 552 RJ4 "java/lang/AbstractStringBuilder" ⟨"java/lang/AbstractStringBuilder", "getValue", "()[B"⟩ yJ5_getValue_6d5f1 wsJ5_getValue_6d5f1) := goodIn_app (goodIn_of _ (by decide +kernel)) ggJ0_init_db425_J5_getValue_6d5f1
set_option maxRecDepth 20000 in
theorem ggJ0_init_db425_J4_length_8abf5 : GoodIn wsJ0_init_db425 wsJ4_length_8abf5 := goodIn_r _ [21, 22, 16, 23, 24, 12, 25, 26, 101, 102, 103, 104] (by decide +kernel) (by decide +kernel)
set_option maxRecDepth 20000 in
theorem gJ0_init_db425_J4_length_8abf5_u549J4 : GoodIn wsJ0_init_db425 (va_wsO RJ0 549 RJ4 "java/lang/AbstractStringBuilder" ⟨"java/lang/AbstractStringBuilder", "length", "()I"⟩ yJ4_length_8abf5 wsJ4_length_8abf5) := goodIn_app (goodIn_of _ (by decide +kernel)) ggJ0_init_db425_J4_length_8abf5
set_option maxRecDepth 20000 in
theorem ggJ0_init_db425_J5_isLatin1_aae02 : GoodIn wsJ0_init_db425 wsJ5_isLatin1_aae02 := goodIn_r _ [31, 32, 33, 101, 102, 103, 104] (by decide +kernel) (by decide +kernel)
set_option maxRecDepth 20000 in
theorem gJ0_init_db425_J5_isLatin1_aae02_u1047J4 : GoodIn wsJ0_init_db425 (va_wsU RJ0 1047 RJ4 "java/lang/AbstractStringBuilder" ⟨"java/lang/AbstractStringBuilder", "isLatin1", "()Z"⟩ yJ5_isLatin1_aae02 wsJ5_isLatin1_aae02) := goodIn_app (goodIn_of _ (by decide +kernel)) ggJ0_init_db425_J5_isLatin1_aae02
set_option maxRecDepth 20000 in
theorem ggJ0_init_db425_J7_copyOfRange_39247 : GoodIn wsJ0_init_db425 wsJ7_copyOfRange_39247 := goodIn_r _ [37, 38, 39, 40, 41, 42, 43, 44, 45, 36, 46, 47, 48, 49, 50, 51, 52, 53, 54, 55, 56, 57, 58, 59, 60, 20, 101, 102, 103, 104] (by decide +kernel) (by decide +kernel)
set_option maxRecDepth 20000 in
theorem gJ0_init_db425_J7_copyOfRange_39247 : GoodIn wsJ0_init_db425 (va_wsS RJ0 54 yJ7_copyOfRange_39247 wsJ7_copyOfRange_39247) := goodIn_app (goodIn_of _ (by decide +kernel)) ggJ0_init_db425_J7_copyOfRange_39247
set_option maxRecDepth 20000 in
theorem ggJ0_init_db425_J2_coderFromArrayLen_85cad : GoodIn wsJ0_init_db425 wsJ2_coderFromArrayLen_85cad := goodIn_r _ [96] (by decide +kernel) (by decide +kernel)
set_option maxRecDepth 20000 in
theorem gJ0_init_db425_J2_coderFromArrayLen_85cad : GoodIn wsJ0_init_db425 (va_wsS RJ0 47 yJ2_coderFromArrayLen_85cad wsJ2_coderFromArrayLen_85cad) := goodIn_app (goodIn_of _ (by decide +kernel)) ggJ0_init_db425_J2_coderFromArrayLen_85cad
set_option maxRecDepth 20000 in
theorem ggJ4_init_da8c8_J5_init_d00df : GoodIn wsJ4_init_da8c8 wsJ5_init_d00df := goodIn_r _ [4, 5, 6, 7, 8, 9, 10, 11, 12, 13, 14, 15, 16, 17, 18, 19, 20, 21, 22, 23] (by decide +kernel) (by decide +kernel)
set_option maxRecDepth 20000 in
theorem gJ4_init_da8c8_J5_init_d00df : GoodIn wsJ4_init_da8c8 (wsJ5_init_d00df) := ggJ4_init_da8c8_J5_init_d00df
set_option maxRecDepth 20000 in
theorem ggJ4_append_15ec4_J5_append_cf1ce : GoodIn wsJ4_append_15ec4 wsJ5_append_cf1ce := goodIn_r _ [6, 7, 8, 9, 10, 11, 5, 12, 13, 14, 15, 16, 17, 18, 19, 20, 21, 22, 23, 24, 25, 26, 27, 28, 29, 30, 31, 32, 33, 34, 35, 36, 37, 38, 39, 40, 41, 42, 43, 44, 45, 46, 47, 48, 49, 50, 51, 52, 53, 54, 55, 56, 57, 58, 59, 60, 61, 62, 63, 64, 65, 66, 67, 68, 69, 70, 71, 72, 73, 74, 75, 76, 77, 78, 79, 80, 81, 82, 83, 84, 85, 86, 87, 88, 89, 90, 91, 92, 93, 94, 95, 96, 97, 98, 99, 100, 101, 102, 103, 104, 105, 106, 107, 108, 109, 110, 111, 112, 113, 114, 115, 116, 117, 118, 119, 120, 121, 122, 123, 124, 125, 126, 127, 128, 129, 130, 131, 132, 133, 134, 135, 136, 137, 138, 139, 140, 141, 142, 143, 144, 145, 146, 147, 148, 149, 150] (by decide +kernel) (by decide +kernel)
set_option maxRecDepth 20000 in
theorem gJ4_append_15ec4_J5_append_cf1ce_s29 : GoodIn wsJ4_append_15ec4 (va_wsSU RJ4 29 yJ5_append_cf1ce wsJ5_append_cf1ce) := goodIn_app (goodIn_of _ (by decide +kernel)) ggJ4_append_15ec4_J5_append_cf1ce
set_option maxRecDepth 20000 in
theorem ggJ4_append_cf468_J5_append_3fe6f : GoodIn wsJ4_append_cf468 wsJ5_append_3fe6f := goodIn_r _ [6, 7, 8, 9, 10, 11, 12, 5, 13, 14, 15, 16, 17, 18, 19, 20, 21, 22, 23, 24, 25, 26, 27, 28, 29, 30, 31, 32, 33, 34, 35, 36, 37, 38, 39, 40, 41, 42, 43, 44, 45, 46, 47, 48, 49, 50, 51, 52, 53, 54, 55, 56, 57, 58, 59, 60, 61, 62, 63, 64, 65, 66, 67, 68, 69, 70, 71, 72, 73, 74, 75, 76, 77, 78, 79, 80, 81, 82, 83, 84, 85, 86, 87, 88, 89, 90, 91, 92, 93, 94, 95, 96, 97, 98, 99, 100, 101, 102, 103, 104, 105, 106, 107, 108, 109, 110, 111, 112, 113, 114, 115, 116] (by decide +kernel) (by decide +kernel)
set_option maxRecDepth 20000 in
theorem gJ4_append_cf468_J5_append_3fe6f_s50 : GoodIn wsJ4_append_cf468 (va_wsSU RJ4 50 yJ5_append_3fe6f wsJ5_append_3fe6f) := goodIn_app (goodIn_of _ (by decide +kernel)) ggJ4_append_cf468_J5_append_3fe6f
set_option maxRecDepth 20000 in
theorem ggJ4_toString_0e30d_J0_init_81219 : GoodIn wsJ4_toString_0e30d wsJ0_init_81219 := goodIn_r _ [6, 7, 8, 3, 9, 10, 11, 12, 13, 14, 15, 16, 17, 18, 19, 20, 21, 22, 23, 24, 25, 26, 27, 28, 29, 30, 31, 32, 33, 34, 35, 36, 37, 38, 39, 40, 41, 42, 43, 44, 45, 46, 47, 48, 49, 50, 51, 52, 53, 54, 55, 56, 57, 58, 59, 60, 61, 62, 63, 64, 65, 66, 67, 68, 69, 70, 71, 72, 73, 74, 75, 76, 77, 78, 79, 80, 81, 82, 83, 84, 85, 86, 87, 88, 89, 90, 91, 92, 93, 94, 95, 96, 97, 98, 99, 100, 101, 102, 103, 104, 105, 106, 107, 108, 109, 110, 111, 112] (by decide +kernel) (by decide +kernel)
set_option maxRecDepth 20000 in
theorem gJ4_toString_0e30d_J0_init_81219 : GoodIn wsJ4_toString_0e30d (wsJ0_init_81219) := ggJ4_toString_0e30d_J0_init_81219
set_option maxRecDepth 20000 in
theorem ggJ4_length_8abf5_J5_length_8abf5 : GoodIn wsJ4_length_8abf5 wsJ5_length_8abf5 := goodIn_r _ [6, 7, 8, 9, 10, 11] (by decide +kernel) (by decide +kernel)
set_option maxRecDepth 20000 in
theorem gJ4_length_8abf5_J5_length_8abf5_s343 : GoodIn wsJ4_length_8abf5 (va_wsSU RJ4 343 yJ5_length_8abf5 wsJ5_length_8abf5) := goodIn_app (goodIn_of _ (by decide +kernel)) ggJ4_length_8abf5_J5_length_8abf5
set_option maxRecDepth 20000 in
theorem ggJ2_compress_dfd3c_J2_compress_fe38e : GoodIn wsJ2_compress_dfd3c wsJ2_compress_fe38e := goodIn_r _ [5] (by decide +kernel) (by decide +kernel)
set_option maxRecDepth 20000 in
theorem gJ2_compress_dfd3c_J2_compress_fe38e : GoodIn wsJ2_compress_dfd3c (va_wsS RJ2 115 yJ2_compress_fe38e wsJ2_compress_fe38e) := goodIn_app (goodIn_of _ (by decide +kernel)) ggJ2_compress_dfd3c_J2_compress_fe38e
set_option maxRecDepth 20000 in
theorem ggJ7_copyOfRange_39247_J7_copyOfRangeByte_39247 : GoodIn wsJ7_copyOfRange_39247 wsJ7_copyOfRangeByte_39247 := goodIn_r _ [10, 11, 12, 13, 14, 15, 16, 17, 18, 19, 20, 21, 9, 22, 23, 24, 25, 26, 27, 28, 29] (by decide +kernel) (by decide +kernel)
set_option maxRecDepth 20000 in
theorem gJ7_copyOfRange_39247_J7_copyOfRangeByte_39247 : GoodIn wsJ7_copyOfRange_39247 (va_wsS RJ7 339 yJ7_copyOfRangeByte_39247 wsJ7_copyOfRangeByte_39247) := goodIn_app (goodIn_of _ (by decide +kernel)) ggJ7_copyOfRange_39247_J7_copyOfRangeByte_39247
set_option maxRecDepth 20000 in
theorem ggJ7_copyOfRangeByte_39247_J7_checkLength_df160 : GoodIn wsJ7_copyOfRangeByte_39247 wsJ7_checkLength_df160 := goodIn_r _ [13, 14, 15, 16, 17, 18, 19, 20] (by decide +kernel) (by decide +kernel)
set_option maxRecDepth 20000 in
theorem gJ7_copyOfRangeByte_39247_J7_checkLength_df160 : GoodIn wsJ7_copyOfRangeByte_39247 (va_wsS RJ7 343 yJ7_checkLength_df160 wsJ7_checkLength_df160) := goodIn_app (goodIn_of _ (by decide +kernel)) ggJ7_copyOfRangeByte_39247_J7_checkLength_df160
set_option maxRecDepth 20000 in
theorem ggL_setLength_X1_setLength : GoodIn wsL_setLength wsX1_setLength := goodIn_ca (goodIn_ca (goodIn_r _ [7, 8, 9, 10, 11, 6, 12, 13, 14, 15, 16, 17, 18, 19, 20, 21, 22, 23, 24, 25, 26, 27, 28, 29, 30, 33, 34, 35, 36, 37, 38, 39, 40, 41] (by decide +kernel) (by decide +kernel)) (goodIn_sub (fun _ h => List.mem_cons_of_mem _ (List.mem_append_left _ (List.mem_append_right _ h))) (by decide +kernel))) (goodIn_sub (fun _ h => List.mem_cons_of_mem _ (List.mem_append_right _ h)) (by decide +kernel))
set_option maxRecDepth 20000 in
theorem gL_setLength_X1_setLength : GoodIn wsL_setLength (wsV RL 77 RX1 yX1_setLength wsX1_setLength) := goodIn_app (goodIn_of _ (by decide +kernel)) ggL_setLength_X1_setLength
set_option maxRecDepth 20000 in
theorem ggL_text_X1_text : GoodIn wsL_text wsX1_text := goodIn_ca (goodIn_r _ [6, 7, 8, 9, 10, 5, 11, 12, 13, 14, 15, 16, 17, 18, 19, 20, 21, 22, 23, 24, 25, 26, 27, 28, 29, 30, 31, 32, 33, 34, 35, 36, 37, 38, 39, 40, 41, 42, 43, 44, 45, 46, 47, 48, 49, 50, 51, 52, 53, 54, 55, 56, 57, 58, 59, 60, 61, 62, 63, 64, 65, 66, 67, 68, 69, 70, 71, 72, 73, 74, 75, 76, 77, 78, 79, 80, 81, 82, 83, 84, 85, 86, 87, 88, 91, 92, 93, 94, 95, 96, 97, 98, 99, 100, 101, 102, 103] (by decide +kernel) (by decide +kernel)) (goodIn_sub (fun _ h => List.mem_cons_of_mem _ (List.mem_append_right _ h)) (by decide +kernel))
set_option maxRecDepth 20000 in
theorem gL_text_X1_text : GoodIn wsL_text (wsV RL 105 RX1 yX1_text wsX1_text) := goodIn_app (goodIn_of _ (by decide +kernel)) ggL_text_X1_text
end
section
/-! Facts of the tables that ride along. -/
theorem rf_AOA {u U : State} (hvm : u.vm.Alike U.vm) (h : va_AOA .int u) : va_AOA .int U := by
  have h2 : (Cond.arrayOver (.array .int)).before #[] (u.setVm U.vm) = true := by rw [Cond.arrayOver_setVmC hvm]; exact h
  exact h2
def rf_AA (E : Nat → ClassId) (U : State) : Prop := ∃ k : Class, U.vm.classes[E 4]? = some k ∧ k.kind = .array (E 2) (.array .int)
theorem rf_AA.moved {E : Nat → ClassId} {u U : State} (hvm : u.vm.Alike U.vm) (h : rf_AA E u) : rf_AA E U := by
  obtain ⟨k, h1, h2⟩ := h
  obtain ⟨k', hk', he⟩ := hvm.2.2 _ _ h1
  exact ⟨k', hk', by rw [he]; exact h2⟩
def rf_N (E : Nat → ClassId) (U : State) : Prop := va_Nw (.castable "[B" "java/lang/Cloneable") U ∧ vk_R RX3 50 "" (E 5) U ∧ va_AO "Tapebuffer$Row" U ∧ va_AOA .int U ∧ rf_AA E U ∧ va_Nw (.fieldLinkNest RL 13 "TapebufferLaw$Out" "n" "J" RL) U ∧ va_Nw (.fieldLinkNest RL 109 "TapebufferLaw$Out" "s" "Ljava/lang/String;" RL) U
theorem rf_N.same {E : Nat → ClassId} {u U : State} (h : U.vm = u.vm) (hN : rf_N E u) : rf_N E U := by
  obtain ⟨h1, h2, h3, h4, h5, h6, h7⟩ := hN
  have hvm : u.vm.Alike U.vm := by rw [h]; exact Vm.Alike.refl _
  exact ⟨va_Nw.same rfl h.symm h1, vk_R.same h h2, h3.moved hvm, rf_AOA hvm h4, h5.moved hvm, va_Nw.same rfl h.symm h6, va_Nw.same rfl h.symm h7⟩
theorem rf_N.warm {E : Nat → ClassId} {s U : State} (hW : s.WarmedH U.vm) (hN : rf_N E s) : rf_N E U := by
  obtain ⟨h1, h2, h3, h4, h5, h6, h7⟩ := hN
  exact ⟨va_Nw.warmC hW h1, vk_R.warm hW h2, h3.moved hW.alike, rf_AOA hW.alike h4, h5.moved hW.alike, va_Nw.warmF hW h6, va_Nw.warmF hW h7⟩
/-! Words of the refutation by the room: worlds whose arrays hold zeros alone; contracts whose class ids of arrays are named once (E); a loop with a budget. -/
abbrev z0 : Nat → Int32 := fun _ => 0
abbrev rf_T (E : Nat → ClassId) : List (ClassId × FieldType) := [(E 0, .byte), (E 1, .char), (E 2, .int), (E 3, .object "Tapebuffer$Row"), (E 4, .array .int)]
def rf_P (D : va_G) (E : Nat → ClassId) (ws : va_W) (sz : Nat) (U : State) : Prop :=
  U.heap.size = sz ∧ va_P D vwCl ws U.heap ∧ va_K D vwCl (rf_T E) U ∧ va_D (fun _ => True) ws ∧ va_Z "java/lang/String" "COMPACT_STRINGS" "Z" (.int 1) (va_A ws sz) U U.heap ∧ rf_N E U
def rf_B (D : va_G) (A : Nat → Prop) (ws : va_W) (t : State) : Prop := va_P D vwCl ws t.heap ∧ va_D A ws
theorem rf_blind {D : va_G} {E : Nat → ClassId} {ws : va_W} {sz : Nat} (av : List Value) : FrameBlind (va_Pc av (rf_P D E ws sz)) := by
  intro a U g mk q
  obtain ⟨q0, q1, qP, qK, qD, qZ, qN⟩ := q
  exact ⟨q0, q1, qP, va_K.moved (u := U) (U := U.calling g mk a) (Vm.Alike.refl U.vm) qK, qD, va_Z.moved (u := U) (U := U.calling g mk a) (Vm.Alike.refl U.vm) qZ, rf_N.same (u := U) (U := U.calling g mk a) rfl qN⟩
theorem rf_pre {D : va_G} {E : Nat → ClassId} {s : State} {H : Heap} {locs : List Loc} {wc : va_W} {A : Nat → Prop} (hK : va_K D vwCl (rf_T E) s) (hPc : va_P D vwCl wc H) (hDc : va_D A wc) (hZ : va_Z "java/lang/String" "COMPACT_STRINGS" "Z" (.int 1) A s s.heap) (hN : rf_N E s) (hS : va_S A s.heap H locs) (hFc : ∀ q, va_A wc H.size q → A q) (U : State) (hU : U.heap = H) (hW : s.WarmedH U.vm) : rf_P D E wc H.size U := by
  refine ⟨by rw [hU], by rw [hU]; exact hPc, va_K.moved hW.alike hK, hDc.weaken (fun _ _ _ _ => trivial), ?_, rf_N.warm hW hN⟩
  rw [hU]
  exact va_Z.moved hW.alike ((hZ.kept hS.2.1).narrow hFc)
theorem rf_end {D : va_G} {A : Nat → Prop} {ws : va_W} {t : State} {H : Heap} (ht : t.heap = H) (hP : va_P D vwCl ws H) (hD : va_D A ws) : rf_B D A ws t := ⟨by rw [ht]; exact hP, hD⟩
theorem rf_u0 (k : Nat) : upd z0 k 0 = z0 := by
  funext j
  unfold upd
  split <;> rfl
theorem rf_ub (k : Nat) : upd z0 k (vp_nar .byte 0) = z0 := by
  rw [show vp_nar .byte 0 = 0 from by decide +kernel]
  exact rf_u0 k
theorem rf_uc (k : Nat) : upd z0 k (vp_nar .char 0) = z0 := by
  rw [show vp_nar .char 0 = 0 from by decide +kernel]
  exact rf_u0 k
theorem rf_cp (sp dp n : Nat) : va_cpy z0 z0 sp dp n = z0 := by
  funext j
  unfold va_cpy
  split <;> rfl
theorem rf_byte {D : va_G} {E : Nat → ClassId} {s : State} {cA : ClassId} (h : va_K D vwCl (rf_T E ++ [(cA, .byte)]) s) : cA = E 0 := by
  have h1 : s.vm.findClass ("[" ++ FieldType.byte.toString) = some (E 0) := (h.2 0 _ rfl).2
  have h2 : s.vm.findClass ("[" ++ FieldType.byte.toString) = some cA := (h.2 5 _ rfl).2
  exact Option.some.inj (h2.symm.trans h1)
theorem rf_char {D : va_G} {E : Nat → ClassId} {s : State} {cA : ClassId} (h : va_K D vwCl (rf_T E ++ [(cA, .char)]) s) : cA = E 1 := by
  have h1 : s.vm.findClass ("[" ++ FieldType.char.toString) = some (E 1) := (h.2 1 _ rfl).2
  have h2 : s.vm.findClass ("[" ++ FieldType.char.toString) = some cA := (h.2 5 _ rfl).2
  exact Option.some.inj (h2.symm.trans h1)
theorem rf_int {D : va_G} {E : Nat → ClassId} {s : State} {cA : ClassId} (h : va_K D vwCl (rf_T E ++ [(cA, .int)]) s) : cA = E 2 := by
  have h1 : s.vm.findClass ("[" ++ FieldType.int.toString) = some (E 2) := (h.2 2 _ rfl).2
  have h2 : s.vm.findClass ("[" ++ FieldType.int.toString) = some cA := (h.2 5 _ rfl).2
  exact Option.some.inj (h2.symm.trans h1)
theorem rf_fitz {cA : ClassId} {n : Nat} {i : Nat} {v : Value} (h : (vp_cell cA (n, .inl z0)).slots[i]? = some v) : fits .byte v = true := by
  have hi : i < n := by
    have h1 := (Array.getElem?_eq_some_iff.mp h).1
    rw [show (vp_cell cA (n, .inl z0)) = arrV cA n (fun _ => .int 0) from rfl, arrV_size] at h1
    exact h1
  rw [show (vp_cell cA (n, .inl z0)) = arrV cA n (fun _ => .int 0) from rfl, arrV_read cA _ hi] at h
  cases h
  rfl
theorem rf_rowc {D : va_G} {E : Nat → ClassId} {s : State} {cA : ClassId} (h : va_K D vwCl (rf_T E ++ [(cA, .object "Tapebuffer$Row")]) s) : cA = E 3 := by
  obtain ⟨-, -, -, -, -, h1⟩ := (h.2 3 _ rfl).2
  obtain ⟨-, -, -, -, -, h2⟩ := (h.2 5 _ rfl).2
  exact Option.some.inj (h2.symm.trans h1)
theorem rf_grid {D : va_G} {E : Nat → ClassId} {s : State} {cA : ClassId} (h : va_K D vwCl (rf_T E ++ [(cA, .array .int)]) s) : cA = E 4 := by
  have h1 : s.vm.findClass ("[" ++ (FieldType.array .int).toString) = some (E 4) := (h.2 4 _ rfl).2
  have h2 : s.vm.findClass ("[" ++ (FieldType.array .int).toString) = some cA := (h.2 5 _ rfl).2
  exact Option.some.inj (h2.symm.trans h1)
section RFL
variable {p : Program} {l : Launch} {e : Env} {R : Room} {s : State} {m : MethodId} {args : Array Value} {below : List Frame} {meth : Method} {c : Code} {Q : State → Prop}
theorem rf_heap {H H' : Heap} {locs : List Loc} {cells slots : Nat} {g : JFrame} (h : H = H') (k : W p l e R s m args below meth c H locs cells slots Q g) : W p l e R s m args below meth c H' locs cells slots Q g := h ▸ k
theorem rf_loop {H : Heap} {locs : List Loc} {ls : Array Slot} {pc : Nat} {rest : List Value} {c0 s0 : Nat} (N cc ss : Nat) (I : Nat → Heap → List Loc → Array Slot → Prop) (h0 : I 0 H locs ls)
    (hx : ∀ (H : Heap) (locs : List Loc) (ls : Array Slot), I N H locs ls → W p l e R s m args below meth c H locs (c0 + N * cc) (s0 + N * ss) Q (F0 m pc ls rest))
    (hs : ∀ (k : Nat) (H : Heap) (locs : List Loc) (ls : Array Slot), k < N → I k H locs ls → (∀ (H' : Heap) (locs' : List Loc) (ls' : Array Slot), I (k + 1) H' locs' ls' → W p l e R s m args below meth c H' locs' (c0 + (k + 1) * cc) (s0 + (k + 1) * ss) Q (F0 m pc ls' rest)) → W p l e R s m args below meth c H locs (c0 + k * cc) (s0 + k * ss) Q (F0 m pc ls rest)) :
    W p l e R s m args below meth c H locs c0 s0 Q (F0 m pc ls rest) := by
  have key : ∀ (d k : Nat) (H : Heap) (locs : List Loc) (ls : Array Slot), k + d = N → I k H locs ls → W p l e R s m args below meth c H locs (c0 + k * cc) (s0 + k * ss) Q (F0 m pc ls rest) := by
    intro d
    induction d with
    | zero =>
      intro k H locs ls hk hI
      obtain rfl : k = N := by omega
      exact hx H locs ls hI
    | succ d ih =>
      intro k H locs ls hk hI
      exact hs k H locs ls (by omega) hI (fun H' locs' ls' hI' => ih (k + 1) H' locs' ls' (by omega) hI')
  have h := key N 0 H locs ls (by omega) h0
  rw [Nat.zero_mul, Nat.zero_mul] at h
  exact h
end RFL
section RFA
variable {p : Program} {l : Launch} {e : Env} {R : Room} {s : State} {m : MethodId} {args : Array Value} {below : List Frame} {meth : Method} {c : Code} {H : Heap} {locs : List Loc} {cells slots : Nat} {Q : State → Prop}
variable {cc : ByteArray} {pc : Nat} {ls : Array Slot} {rest : List Value} {D : va_G} {cl : List vw_C} {A : Nat → Prop} {a : Nat} {ws : va_W} {H0 : Heap} {E : Nat → ClassId}
/-- aaload of an int[][] -/
theorem rf_aldg (hexec : p.tables.exec = Jvm.exec) (hb : c.code = cc) (hK : va_K D cl (rf_T E) s) (hP : va_P D cl ws H) (q0 t0 : Nat) {cA : ClassId} {n : Nat} {f : Nat → Option Nat} (ha : ws[q0]? = some (a, .inl (cA, n, .inr (.inr (.inr (.inr f)))))) (ht : (rf_T E)[t0]? = some (cA, .array .int)) {i : Int32} (hin : vp_in i n) (hdg : decode cc pc = .ok (.aaload, 1))
    (kk : W p l e R s m args below meth c H locs cells slots Q (F0 m (pc + 1) ls (va_rf (f i.toNatClampNeg) :: rest))) : W p l e R s m args below meth c H locs cells slots Q (F0 m pc ls (.int i :: .ref a :: rest)) := by
  have hlt : i.toNatClampNeg < n := Nat.not_le.mp fun q => hin (Or.inr q)
  exact W.aald (v := va_rf (f i.toNatClampNeg)) (ty := .array .int) hexec hb (hP q0 _ ha) ((hK.2 t0 _ ht).1 n (fun j => va_rf (f j))) rfl (fun q => by cases q) (by show ¬ (i < 0 ∨ (arrV _ _ _).slots.size ≤ _); rw [arrV_size]; exact hin) (by show (arrV _ _ _).slots[_]? = _; rw [arrV_read _ _ hlt]) rfl rfl hdg kk
/-- aastore of an int[] into an int[][] -/
theorem rf_astg (hexec : p.tables.exec = Jvm.exec) (hb : c.code = cc) (hK : va_K D cl (rf_T E) s) (hAA : rf_AA E s) (hP : va_P D cl ws H) (hD : va_D A ws) (hS : va_S A H0 H locs) (q0 qk : Nat) {n v nv : Nat} {g : Nat → Int32} {f : Nat → Option Nat} (ha : ws[q0]? = some (a, .inl (E 4, n, .inr (.inr (.inr (.inr f)))))) (hv : ws[qk]? = some (v, .inl (E 2, nv, .inl g))) {i : Int32} (hin : vp_in i n) (hdg : decode cc pc = .ok (.aastore, 1))
    (kk : ∀ (H1 : Heap) (locs1 : List Loc), va_P D cl (ws.set q0 (a, .inl (E 4, n, .inr (.inr (.inr (.inr (va_up f i.toNatClampNeg (some v)))))))) H1 → va_D A (ws.set q0 (a, .inl (E 4, n, .inr (.inr (.inr (.inr (va_up f i.toNatClampNeg (some v)))))))) → va_S A H0 H1 locs1 → W p l e R s m args below meth c H1 locs1 cells slots Q (F0 m (pc + 1) ls rest)) : W p l e R s m args below meth c H locs cells slots Q (F0 m pc ls (.ref v :: .int i :: .ref a :: rest)) := by
  have hlt : i.toNatClampNeg < n := Nat.not_le.mp fun q => hin (Or.inr q)
  have h0 : ¬ i < 0 := fun q => hin (Or.inl q)
  obtain ⟨kA, k1, k2⟩ := hAA
  obtain ⟨-, kI, kI1, cI, kI2⟩ := (hK.2 2 _ rfl).1 nv (fun j => .int (g j))
  have hkI : s.vm.classes[E 2]? = some kI := kI1
  refine W.aast hexec hb (hP q0 _ ha) (fun q h => by cases h) (fun h => by cases h) k1 k2 rfl hkI ⟨h0, by show _ < (arrV _ _ _).slots.size; rw [arrV_size]; exact hlt⟩ (hP qk _ hv) (fun q h => by cases h) hkI (va_asg _ _) rfl rfl hdg fun H1 e z oq => ?_
  refine kk H1 _ (hP.set hD ha ?_ oq) (hD.set ha) (hS.put z oq (hD.2 q0 _ ha))
  show H1[a]? = some (vp_cell _ _)
  rw [e]
  rw [vp_cell_q, vp_cell_q, arrV_store]
  congr 2
  funext q
  by_cases hq : q = i.toNatClampNeg
  · subst hq
    simp [updV, va_up, va_rf]
  · simp [updV, va_up, hq]
end RFA
theorem rf_inner (c : ClassId) : Jvm.Free.Multi.innerC c 0 (defaultValue .int) = vp_cell c (0, .inl z0) := by
  show ({ cls := c, slots := Array.replicate 0 (defaultValue .int), vm := .none } : Cell) = arrV c 0 (fun _ => .int 0)
  rw [arrV_new]
  rfl
end
section
/-! The garbage: how many elements the arrays of a world hold. -/
def gs : va_W → Nat
  | [] => 0
  | (_, .inl (_, n, _)) :: r => n + gs r
  | (_, .inr _) :: r => gs r
def rf_tri : Nat → Nat
  | 0 => 0
  | k + 1 => rf_tri k + k
theorem gs_app (a b : va_W) : gs (a ++ b) = gs a + gs b := by
  induction a with
  | nil => simp [gs]
  | cons x r ih =>
    obtain ⟨q, e⟩ := x
    cases e with
    | inl y =>
      obtain ⟨c, n, f⟩ := y
      show n + gs (r ++ b) = n + gs r + gs b
      rw [ih]
      omega
    | inr y =>
      show gs (r ++ b) = gs r + gs b
      exact ih
end
section
/-! What a world's arrays hold, the heap behind a place holds too. -/
theorem rf_set0 : ∀ (l : List Nat) (i v : Nat), l[i]? = some v → (l.set i 0).sum + v = l.sum
  | [], _, _, h => by simp at h
  | x :: r, 0, v, h => by
    have e : x = v := by simpa using h
    subst e
    show (0 :: r).sum + x = (x :: r).sum
    simp only [List.sum_cons]
    omega
  | x :: r, i + 1, v, h => by
    have h' : r[i]? = some v := by simpa using h
    have := rf_set0 r i v h'
    show (x :: r.set i 0).sum + v = (x :: r).sum
    simp only [List.sum_cons]
    omega
theorem rf_gsle (lo : Nat) : ∀ (G : va_W) (l : List Nat), (∀ (i j : Nat) (p q : Nat × va_E), G[i]? = some p → G[j]? = some q → p.1 = q.1 → i = j) → (∀ q ∈ G, lo ≤ q.1) → (∀ q ∈ G, ∀ (c : ClassId) (n : Nat) (f : ((Nat → Int32) ⊕ (Nat → Int64) ⊕ (Nat → UInt32) ⊕ (Nat → UInt64) ⊕ (Nat → Option Nat))), q.2 = .inl (c, n, f) → l[q.1 - lo]? = some n) → gs G ≤ l.sum
  | [], _, _, _, _ => Nat.zero_le _
  | (a, .inr x) :: r, l, hn, hl, hv => by
    show gs r ≤ l.sum
    exact rf_gsle lo r l (fun i j p q hi hj e => by have := hn (i + 1) (j + 1) p q (by simpa using hi) (by simpa using hj) e; omega) (fun q hq => hl q (List.mem_cons_of_mem _ hq)) (fun q hq => hv q (List.mem_cons_of_mem _ hq))
  | (a, .inl (c, n, f)) :: r, l, hn, hl, hv => by
    show n + gs r ≤ l.sum
    have h0 : l[a - lo]? = some n := hv _ List.mem_cons_self c n f rfl
    have hs := rf_set0 l (a - lo) n h0
    have h1 := rf_gsle lo r (l.set (a - lo) 0) (fun i j p q hi hj e => by have := hn (i + 1) (j + 1) p q (by simpa using hi) (by simpa using hj) e; omega) (fun q hq => hl q (List.mem_cons_of_mem _ hq)) (fun q hq c' n' f' e => by
      obtain ⟨j, hj⟩ := List.getElem?_of_mem hq
      have hne : q.1 ≠ a := fun e2 => by
        have := hn 0 (j + 1) (a, .inl (c, n, f)) q rfl (by simpa using hj) e2.symm
        omega
      have h2 := hl q (List.mem_cons_of_mem _ hq)
      have h3 := hl (a, .inl (c, n, f)) List.mem_cons_self
      have h3' : lo ≤ a := h3
      rw [List.getElem?_set_ne (by omega)]
      exact hv q (List.mem_cons_of_mem _ hq) c' n' f' e)
    omega
theorem rf_cellsz (cA : ClassId) (x : vp_A) : (vp_cell cA x).slots.size = x.1 := by
  obtain ⟨n, f⟩ := x
  rcases f with f | f | f | f | f <;> exact arrV_size _ _ _
theorem rf_big {D : va_G} {cl : List vw_C} {X G : va_W} {H : Heap} {A : Nat → Prop} {lo : Nat} (hP : va_P D cl (X ++ G) H) (hD : va_D A (X ++ G)) (hlo : ∀ q ∈ G, lo ≤ q.1) : gs G ≤ ((H.toList.drop lo).map (fun c : Cell => c.slots.size)).sum := by
  refine rf_gsle lo G _ (fun i j p q hi hj e => ?_) hlo (fun q hq c n f e => ?_)
  · have h := hD.1 (X.length + i) (X.length + j) p q (by rw [List.getElem?_append_right (by omega)]; simpa using hi) (by rw [List.getElem?_append_right (by omega)]; simpa using hj) e
    omega
  · obtain ⟨j, hj⟩ := List.getElem?_of_mem hq
    have h := hP (X.length + j) q (by rw [List.getElem?_append_right (by omega)]; simpa using hj)
    obtain ⟨a, e2⟩ := q
    dsimp only at e
    subst e
    have h1 : H[a]? = some (vp_cell c (n, f)) := h
    have h2 : lo ≤ a := hlo _ hq
    rw [List.getElem?_map, List.getElem?_drop, show lo + (a - lo) = a by omega, Array.getElem?_toList, h1]
    show some (vp_cell c (n, f)).slots.size = some n
    rw [rf_cellsz]
end
section
set_option maxHeartbeats 4000000 in
set_option maxRecDepth 100000 in
/-- String.coder: 0 -/
theorem c_J0_coder_7d493 (l : Launch) (D : va_G) (E : Nat → ClassId) (sz : Nat) (h0 : Nat) (v0 v2 v3 : Value)  : Met l yJ0_coder_7d493 wsJ0_coder_7d493 ({ frames := 2, cells := 0, slots := 0, locals := 200 }) (va_Pc [.ref h0] (rf_P D E [(h0, .inr (0, [v0, .int 0, v2, v3]))] sz)) (va_Qi (fun (r : Int32) (u : Unit) => r = 0) (fun (u : Unit) (t : State) => rf_B D (va_A [(h0, .inr (0, [v0, .int 0, v2, v3]))] sz) [(h0, .inr (0, [v0, .int 0, v2, v3]))] t) (va_A [(h0, .inr (0, [v0, .int 0, v2, v3]))] sz)) 0 0 (va_A [(h0, .inr (0, [v0, .int 0, v2, v3]))] sz) := by
  refine Met.ofW (cc := cJ0_coder_7d493) (maxL := 1) (ret := (some .byte)) (by decide) rfl ?_
  intro p e s mI args below meth c s₁ B hml hv
  obtain ⟨rfl, hsz, hP, hK, hD0, hZ, hN⟩ := hv
  have hx := B.exec
  have hb := B.bytes
  have hr := B.returns
  have hts := atoms_spec (ws := wsJ0_coder_7d493) B.pre
  have hown : s.vm.findClass RJ0 = some mI.cls := findClass_of_methodNamed B.named
  have hlocks := B.notSynchronized
  subst hsz
  have hD := hD0.self (sz := s.heap.size)
  generalize hAe : va_A [(h0, .inr (0, [v0, .int 0, v2, v3]))] s.heap.size = A at hD hZ ⊢
  have hA : ∀ q : Nat, s.heap.size ≤ q → A q := fun q h => by rw [← hAe]; exact Or.inr h
  have hS : va_S A s.heap s.heap [] := va_S.rf
  have hl := lv_entry ([.ref h0]) (n := 1) (Nat.le_of_ble_eq_true rfl)
  rw [lg_entry_eq]
  generalize (lg_sl ([.ref h0]) ++ List.replicate (1 - (lg_sl ([.ref h0])).length) Slot.unset).toArray = ls at hl ⊢
  clear hAe hD0
  have hl : lv_has ls 1 [(0, .ref h0)] := hl
  obtain ⟨H, hH⟩ : ∃ H, H = s.heap := ⟨_, rfl⟩
  rw [← hH] at hP
  have hS : va_S A s.heap H [] := by rw [hH]; exact hS
  refine rf_heap hH ?_
  refine va_gets hx hb hZ hS hown (hts (.fieldLink RJ0 38 "java/lang/String" "COMPACT_STRINGS" "Z") (by decide +kernel)) (fun _ h9 => h9) dJ0_coder_7d493_0 ?_
  refine lv_if_eq (tgt := 13) hx hb dJ0_coder_7d493_3 rfl (fun h => absurd h (by decide)) (fun _ => ?_)
  refine lv_aload_n hx hb dJ0_coder_7d493_6 rfl (lv_at hl 0 rfl) ?_
  refine va_get (D := D) (ci := 0) (v := .int 0) (C := RJ0) (T := TJ0) (N := 4) hx hb hts (by decide +kernel) hown hK hP 0 rfl rfl 1 (by decide) (hts (.fieldLink RJ0 15 "java/lang/String" "coder" "B") (by decide +kernel)) (fun _ h9 => h9) rfl dJ0_coder_7d493_7 ?_
  refine lv_goto (tgt := 14) hx hb dJ0_coder_7d493_10 rfl ?_
  exact W.zret (v := 0) hx hb hr (by decide +kernel) (fun t ht hW => ⟨⟨0, (), rfl, rfl, rf_end ht hP hD⟩, hS.F ht⟩) hS.2.2 dJ0_coder_7d493_14
set_option maxHeartbeats 4000000 in
set_option maxRecDepth 100000 in
/-- String.length -/
theorem c_J0_length_8abf5 (l : Launch) (D : va_G) (E : Nat → ClassId) (sz : Nat) (h0 b0 n : Nat) (v2 v3 : Value) (hn : n ≤ 1000) : Met l yJ0_length_8abf5 wsJ0_length_8abf5 ({ frames := 3, cells := 0, slots := 0, locals := 400 }) (va_Pc [.ref h0] (rf_P D E [(h0, .inr (0, [.ref b0, .int 0, v2, v3])), (b0, .inl (E 0, n, .inl z0))] sz)) (va_Qi (fun (r : Int32) (u : Unit) => r = nI n) (fun (u : Unit) (t : State) => rf_B D (va_A [(h0, .inr (0, [.ref b0, .int 0, v2, v3])), (b0, .inl (E 0, n, .inl z0))] sz) [(h0, .inr (0, [.ref b0, .int 0, v2, v3])), (b0, .inl (E 0, n, .inl z0))] t) (va_A [(h0, .inr (0, [.ref b0, .int 0, v2, v3])), (b0, .inl (E 0, n, .inl z0))] sz)) 0 0 (va_A [(h0, .inr (0, [.ref b0, .int 0, v2, v3])), (b0, .inl (E 0, n, .inl z0))] sz) := by
  refine Met.ofW (cc := cJ0_length_8abf5) (maxL := 1) (ret := (some .int)) (by decide) rfl ?_
  intro p e s mI args below meth c s₁ B hml hv
  obtain ⟨rfl, hsz, hP, hK, hD0, hZ, hN⟩ := hv
  have hx := B.exec
  have hb := B.bytes
  have hr := B.returns
  have hts := atoms_spec (ws := wsJ0_length_8abf5) B.pre
  have hown : s.vm.findClass RJ0 = some mI.cls := findClass_of_methodNamed B.named
  have hlocks := B.notSynchronized
  subst hsz
  have hD := hD0.self (sz := s.heap.size)
  generalize hAe : va_A [(h0, .inr (0, [.ref b0, .int 0, v2, v3])), (b0, .inl (E 0, n, .inl z0))] s.heap.size = A at hD hZ ⊢
  have hA : ∀ q : Nat, s.heap.size ≤ q → A q := fun q h => by rw [← hAe]; exact Or.inr h
  have hS : va_S A s.heap s.heap [] := va_S.rf
  have hl := lv_entry ([.ref h0]) (n := 1) (Nat.le_of_ble_eq_true rfl)
  rw [lg_entry_eq]
  generalize (lg_sl ([.ref h0]) ++ List.replicate (1 - (lg_sl ([.ref h0])).length) Slot.unset).toArray = ls at hl ⊢
  clear hAe hD0
  have hl : lv_has ls 1 [(0, .ref h0)] := hl
  obtain ⟨H, hH⟩ : ∃ H, H = s.heap := ⟨_, rfl⟩
  rw [← hH] at hP
  have hS : va_S A s.heap H [] := by rw [hH]; exact hS
  refine rf_heap hH ?_
  refine lv_aload_n hx hb dJ0_length_8abf5_0 rfl (lv_at hl 0 rfl) ?_
  refine va_get (D := D) (ci := 0) (v := .ref b0) (C := RJ0) (T := TJ0) (N := 4) hx hb hts (by decide +kernel) hown hK hP 0 rfl rfl 0 (by decide) (hts (.fieldLink RJ0 9 "java/lang/String" "value" "[B") (by decide +kernel)) (fun _ h9 => h9) rfl dJ0_length_8abf5_1 ?_
  refine va_alen (v := nI (n)) hx hb hK hP 1 0 rfl rfl rfl dJ0_length_8abf5_4 ?_
  refine lv_aload_n hx hb dJ0_length_8abf5_5 rfl (lv_at hl 0 rfl) ?_
  have hPc := hP.sub (ws' := [(h0, .inr (0, [.ref b0, .int 0, v2, v3]))]) [0] rfl
  have hDc := hD.sub (ws' := [(h0, .inr (0, [.ref b0, .int 0, v2, v3]))]) [0] (by decide) rfl
  have hFc := va_free (wc := [(h0, .inr (0, [.ref b0, .int 0, v2, v3]))]) hD hS hA [0] rfl
  have h_1 : 0 + 0 ≤ 0 := by omega
  have h_2 : 0 + 0 ≤ 0 := by omega
  refine va_calli (va_runV (As := []) (rest := [.int (nI (n))]) ⟨hx, hb, hml, hown, hts⟩ (c_J0_coder_7d493 l D E H.size (h0) (.ref b0) (v2) (v3)) (cwV 0 hts gJ0_length_8abf5_J0_coder_7d493 rfl rfl rfl (by decide +kernel) ⟨Nat.le_of_ble_eq_true rfl, Nat.le_of_ble_eq_true rfl⟩) ⟨rf_blind _, va_recv hK hPc (ci := 0) (q0 := 0) rfl rfl, fun U hU hW => ⟨rfl, rf_pre hK hPc hDc hZ hN hS hFc U hU hW⟩⟩ rfl rfl hl.1 rfl (lv_room (Nat.le_of_ble_eq_true rfl)) dJ0_length_8abf5_6 ⟨h_1, h_2⟩) hS (fun q _ h => hFc q h) hFc (fun r u t H1 locs ht hvm hw hB hz1 hk1 hS => ?_)
  obtain ⟨hP1, hD1⟩ := hB
  rw [ht] at hP1
  try dsimp only at hw hP1 hD1
  obtain rfl := hw
  obtain ⟨hP, hD⟩ := va_join (wr := [(b0, .inl (E 0, n, .inl z0))]) (w1 := [(h0, .inr (0, [.ref b0, .int 0, v2, v3]))]) hP hD [0] [1] rfl rfl (by decide) (by decide) hk1 hFc hP1 hD1
  clear hPc hDc hFc hP1 hD1 hk1 hz1 ht
  generalize H1 = H at hP hS ⊢
  have hP : va_P D vwCl [(b0, .inl (E 0, n, .inl z0)), (h0, .inr (0, [.ref b0, .int 0, v2, v3]))] H := hP
  have hD : va_D A [(b0, .inl (E 0, n, .inl z0)), (h0, .inr (0, [.ref b0, .int 0, v2, v3]))] := hD
  refine lv_ishr hx hb dJ0_length_8abf5_9 (lv_topi (fun f1 ef => ?_))
  obtain rfl : f1 = nI (n) := (show f1 = nI (n) >>> ((0 : Int32) &&& 31) from ef).trans (sb_shr0 _)
  have hP := hP.sub (ws' := [(h0, .inr (0, [.ref b0, .int 0, v2, v3])), (b0, .inl (E 0, n, .inl z0))]) [1, 0] rfl
  have hD := hD.sub (ws' := [(h0, .inr (0, [.ref b0, .int 0, v2, v3])), (b0, .inl (E 0, n, .inl z0))]) [1, 0] (by decide) rfl
  exact W.iret (v := nI (n)) hx hb hr (fun t ht hW => ⟨⟨nI (n), (), rfl, rfl, rf_end ht hP hD⟩, hS.F ht⟩) hS.2.2 dJ0_length_8abf5_10
set_option maxHeartbeats 4000000 in
set_option maxRecDepth 100000 in
/-- isLatin1: 1 -/
theorem c_J5_isLatin1_aae02 (l : Launch) (D : va_G) (E : Nat → ClassId) (sz : Nat) (h0 : Nat) (w0 w2 w3 : Value)  : Met l yJ5_isLatin1_aae02 wsJ5_isLatin1_aae02 ({ frames := 2, cells := 0, slots := 0, locals := 200 }) (va_Pc [.ref h0] (rf_P D E [(h0, .inr (1, [w0, .int 0, w2, w3]))] sz)) (va_Qi (fun (r : Int32) (u : Unit) => r = 1) (fun (u : Unit) (t : State) => rf_B D (va_A [(h0, .inr (1, [w0, .int 0, w2, w3]))] sz) [(h0, .inr (1, [w0, .int 0, w2, w3]))] t) (va_A [(h0, .inr (1, [w0, .int 0, w2, w3]))] sz)) 0 0 (va_A [(h0, .inr (1, [w0, .int 0, w2, w3]))] sz) := by
  refine Met.ofW (cc := cJ5_isLatin1_aae02) (maxL := 1) (ret := (some .boolean)) (by decide) rfl ?_
  intro p e s mI args below meth c s₁ B hml hv
  obtain ⟨rfl, hsz, hP, hK, hD0, hZ, hN⟩ := hv
  have hx := B.exec
  have hb := B.bytes
  have hr := B.returns
  have hts := atoms_spec (ws := wsJ5_isLatin1_aae02) B.pre
  have hown : s.vm.findClass RJ5 = some mI.cls := findClass_of_methodNamed B.named
  have hlocks := B.notSynchronized
  subst hsz
  have hD := hD0.self (sz := s.heap.size)
  generalize hAe : va_A [(h0, .inr (1, [w0, .int 0, w2, w3]))] s.heap.size = A at hD hZ ⊢
  have hA : ∀ q : Nat, s.heap.size ≤ q → A q := fun q h => by rw [← hAe]; exact Or.inr h
  have hS : va_S A s.heap s.heap [] := va_S.rf
  have hl := lv_entry ([.ref h0]) (n := 1) (Nat.le_of_ble_eq_true rfl)
  rw [lg_entry_eq]
  generalize (lg_sl ([.ref h0]) ++ List.replicate (1 - (lg_sl ([.ref h0])).length) Slot.unset).toArray = ls at hl ⊢
  clear hAe hD0
  have hl : lv_has ls 1 [(0, .ref h0)] := hl
  obtain ⟨H, hH⟩ : ∃ H, H = s.heap := ⟨_, rfl⟩
  rw [← hH] at hP
  have hS : va_S A s.heap H [] := by rw [hH]; exact hS
  refine rf_heap hH ?_
  refine va_gets hx hb hZ hS hown (hts (.fieldLink RJ5 18 "java/lang/String" "COMPACT_STRINGS" "Z") (by decide +kernel)) (fun _ h9 => h9) dJ5_isLatin1_aae02_0 ?_
  refine lv_if_eq (tgt := 17) hx hb dJ5_isLatin1_aae02_3 rfl (fun h => absurd h (by decide)) (fun _ => ?_)
  refine lv_aload_n hx hb dJ5_isLatin1_aae02_6 rfl (lv_at hl 0 rfl) ?_
  refine va_get (D := D) (ci := 1) (v := .int 0) (C := RJ4) (T := TJ4) (N := 4) hx hb hts (by decide +kernel) hown hK hP 0 rfl rfl 1 (by decide) (hts (.fieldLink RJ5 22 "java/lang/AbstractStringBuilder" "coder" "B") (by decide +kernel)) (fun _ h9 => h9) rfl dJ5_isLatin1_aae02_7 ?_
  refine lv_if_ne (tgt := 17) hx hb dJ5_isLatin1_aae02_10 rfl (fun h => absurd (by decide) h) (fun _ => ?_)
  refine lv_iconst (v := 1) hx hb dJ5_isLatin1_aae02_13 (by decide) ?_
  refine lv_goto (tgt := 18) hx hb dJ5_isLatin1_aae02_14 rfl ?_
  exact W.zret (v := 1) hx hb hr (by decide +kernel) (fun t ht hW => ⟨⟨1, (), rfl, rfl, rf_end ht hP hD⟩, hS.F ht⟩) hS.2.2 dJ5_isLatin1_aae02_18
set_option maxHeartbeats 4000000 in
set_option maxRecDepth 100000 in
/-- canEncode(0): 1 -/
theorem c_J1_canEncode_fc78d (l : Launch) (D : va_G) (E : Nat → ClassId) (sz : Nat)   : Met l yJ1_canEncode_fc78d wsJ1_canEncode_fc78d ({ frames := 2, cells := 0, slots := 0, locals := 200 }) (va_Pc [.int 0] (rf_P D E [] sz)) (va_Qi (fun (r : Int32) (u : Unit) => r = 1) (fun (u : Unit) (t : State) => rf_B D (va_A [] sz) [] t) (va_A [] sz)) 0 0 (va_A [] sz) := by
  refine Met.ofW (cc := cJ1_canEncode_fc78d) (maxL := 1) (ret := (some .boolean)) (by decide) rfl ?_
  intro p e s mI args below meth c s₁ B hml hv
  obtain ⟨rfl, hsz, hP, hK, hD0, hZ, hN⟩ := hv
  have hx := B.exec
  have hb := B.bytes
  have hr := B.returns
  have hts := atoms_spec (ws := wsJ1_canEncode_fc78d) B.pre
  have hown : s.vm.findClass RJ1 = some mI.cls := findClass_of_methodNamed B.named
  have hlocks := B.notSynchronized
  subst hsz
  have hD := hD0.self (sz := s.heap.size)
  generalize hAe : va_A [] s.heap.size = A at hD hZ ⊢
  have hA : ∀ q : Nat, s.heap.size ≤ q → A q := fun q h => by rw [← hAe]; exact Or.inr h
  have hS : va_S A s.heap s.heap [] := va_S.rf
  have hl := lv_entry ([.int 0]) (n := 1) (Nat.le_of_ble_eq_true rfl)
  rw [lg_entry_eq]
  generalize (lg_sl ([.int 0]) ++ List.replicate (1 - (lg_sl ([.int 0])).length) Slot.unset).toArray = ls at hl ⊢
  clear hAe hD0
  have hl : lv_has ls 1 [(0, .int 0)] := hl
  obtain ⟨H, hH⟩ : ∃ H, H = s.heap := ⟨_, rfl⟩
  rw [← hH] at hP
  have hS : va_S A s.heap H [] := by rw [hH]; exact hS
  refine rf_heap hH ?_
  refine lv_iload_n hx hb dJ1_canEncode_fc78d_0 rfl (lv_at hl 0 rfl) ?_
  refine lv_sipush (v := nI 255) hx hb dJ1_canEncode_fc78d_1 (by decide) ?_
  refine lv_icmp_gt (tgt := 11) hx hb dJ1_canEncode_fc78d_4 rfl (fun h => absurd h (by decide)) (fun _ => ?_)
  refine lv_iconst (v := 1) hx hb dJ1_canEncode_fc78d_7 (by decide) ?_
  refine lv_goto (tgt := 12) hx hb dJ1_canEncode_fc78d_8 rfl ?_
  exact W.zret (v := 1) hx hb hr (by decide +kernel) (fun t ht hW => ⟨⟨1, (), rfl, rfl, rf_end ht hP hD⟩, hS.F ht⟩) hS.2.2 dJ1_canEncode_fc78d_12
set_option maxHeartbeats 4000000 in
set_option maxRecDepth 100000 in
/-- getValue -/
theorem c_J5_getValue_6d5f1 (l : Launch) (D : va_G) (E : Nat → ClassId) (sz : Nat) (h0 b0 : Nat) (w1 w2 w3 : Value)  : Met l yJ5_getValue_6d5f1 wsJ5_getValue_6d5f1 ({ frames := 2, cells := 0, slots := 0, locals := 200 }) (va_Pc [.ref h0] (rf_P D E [(h0, .inr (1, [.ref b0, w1, w2, w3]))] sz)) (va_Qr (fun (u : Unit) => True) (fun (u : Unit) (ra : Nat) (t : State) => ra = b0 ∧ rf_B D (va_A [(h0, .inr (1, [.ref b0, w1, w2, w3]))] sz) [(h0, .inr (1, [.ref b0, w1, w2, w3]))] t) (va_A [(h0, .inr (1, [.ref b0, w1, w2, w3]))] sz)) 0 0 (va_A [(h0, .inr (1, [.ref b0, w1, w2, w3]))] sz) := by
  refine Met.ofW (cc := cJ5_getValue_6d5f1) (maxL := 1) (ret := (some (.array .byte))) (by decide) rfl ?_
  intro p e s mI args below meth c s₁ B hml hv
  obtain ⟨rfl, hsz, hP, hK, hD0, hZ, hN⟩ := hv
  have hx := B.exec
  have hb := B.bytes
  have hr := B.returns
  have hts := atoms_spec (ws := wsJ5_getValue_6d5f1) B.pre
  have hown : s.vm.findClass RJ5 = some mI.cls := findClass_of_methodNamed B.named
  have hlocks := B.notSynchronized
  subst hsz
  have hD := hD0.self (sz := s.heap.size)
  generalize hAe : va_A [(h0, .inr (1, [.ref b0, w1, w2, w3]))] s.heap.size = A at hD hZ ⊢
  have hA : ∀ q : Nat, s.heap.size ≤ q → A q := fun q h => by rw [← hAe]; exact Or.inr h
  have hS : va_S A s.heap s.heap [] := va_S.rf
  have hl := lv_entry ([.ref h0]) (n := 1) (Nat.le_of_ble_eq_true rfl)
  rw [lg_entry_eq]
  generalize (lg_sl ([.ref h0]) ++ List.replicate (1 - (lg_sl ([.ref h0])).length) Slot.unset).toArray = ls at hl ⊢
  clear hAe hD0
  have hl : lv_has ls 1 [(0, .ref h0)] := hl
  obtain ⟨H, hH⟩ : ∃ H, H = s.heap := ⟨_, rfl⟩
  rw [← hH] at hP
  have hS : va_S A s.heap H [] := by rw [hH]; exact hS
  refine rf_heap hH ?_
  refine lv_aload_n hx hb dJ5_getValue_6d5f1_0 rfl (lv_at hl 0 rfl) ?_
  refine va_get (D := D) (ci := 1) (v := .ref b0) (C := RJ4) (T := TJ4) (N := 4) hx hb hts (by decide +kernel) hown hK hP 0 rfl rfl 0 (by decide) (hts (.fieldLink RJ5 15 "java/lang/AbstractStringBuilder" "value" "[B") (by decide +kernel)) (fun _ h9 => h9) rfl dJ5_getValue_6d5f1_1 ?_
  exact W.aret (v := .ref b0) hx hb hr (Or.inr ⟨_, rfl⟩) (Or.inr ⟨_, rfl⟩) (fun t ht hW => ⟨⟨(), b0, rfl, trivial, ⟨rfl, rf_end ht hP hD⟩⟩, hS.F ht⟩) hS.2.2 dJ5_getValue_6d5f1_4
set_option maxHeartbeats 4000000 in
set_option maxRecDepth 100000 in
/-- AbstractStringBuilder.length -/
theorem c_J5_length_8abf5 (l : Launch) (D : va_G) (E : Nat → ClassId) (sz : Nat) (h0 n : Nat) (w0 w1 w2 : Value)  : Met l yJ5_length_8abf5 wsJ5_length_8abf5 ({ frames := 2, cells := 0, slots := 0, locals := 200 }) (va_Pc [.ref h0] (rf_P D E [(h0, .inr (1, [w0, w1, w2, .int (nI n)]))] sz)) (va_Qi (fun (r : Int32) (u : Unit) => r = nI n) (fun (u : Unit) (t : State) => rf_B D (va_A [(h0, .inr (1, [w0, w1, w2, .int (nI n)]))] sz) [(h0, .inr (1, [w0, w1, w2, .int (nI n)]))] t) (va_A [(h0, .inr (1, [w0, w1, w2, .int (nI n)]))] sz)) 0 0 (va_A [(h0, .inr (1, [w0, w1, w2, .int (nI n)]))] sz) := by
  refine Met.ofW (cc := cJ5_length_8abf5) (maxL := 1) (ret := (some .int)) (by decide) rfl ?_
  intro p e s mI args below meth c s₁ B hml hv
  obtain ⟨rfl, hsz, hP, hK, hD0, hZ, hN⟩ := hv
  have hx := B.exec
  have hb := B.bytes
  have hr := B.returns
  have hts := atoms_spec (ws := wsJ5_length_8abf5) B.pre
  have hown : s.vm.findClass RJ5 = some mI.cls := findClass_of_methodNamed B.named
  have hlocks := B.notSynchronized
  subst hsz
  have hD := hD0.self (sz := s.heap.size)
  generalize hAe : va_A [(h0, .inr (1, [w0, w1, w2, .int (nI n)]))] s.heap.size = A at hD hZ ⊢
  have hA : ∀ q : Nat, s.heap.size ≤ q → A q := fun q h => by rw [← hAe]; exact Or.inr h
  have hS : va_S A s.heap s.heap [] := va_S.rf
  have hl := lv_entry ([.ref h0]) (n := 1) (Nat.le_of_ble_eq_true rfl)
  rw [lg_entry_eq]
  generalize (lg_sl ([.ref h0]) ++ List.replicate (1 - (lg_sl ([.ref h0])).length) Slot.unset).toArray = ls at hl ⊢
  clear hAe hD0
  have hl : lv_has ls 1 [(0, .ref h0)] := hl
  obtain ⟨H, hH⟩ : ∃ H, H = s.heap := ⟨_, rfl⟩
  rw [← hH] at hP
  have hS : va_S A s.heap H [] := by rw [hH]; exact hS
  refine rf_heap hH ?_
  refine lv_aload_n hx hb dJ5_length_8abf5_0 rfl (lv_at hl 0 rfl) ?_
  refine va_get (D := D) (ci := 1) (v := .int (nI n)) (C := RJ4) (T := TJ4) (N := 4) hx hb hts (by decide +kernel) hown hK hP 0 rfl rfl 3 (by decide) (hts (.fieldLink RJ5 79 "java/lang/AbstractStringBuilder" "count" "I") (by decide +kernel)) (fun _ h9 => h9) rfl dJ5_length_8abf5_1 ?_
  exact W.iret (v := nI n) hx hb hr (fun t ht hW => ⟨⟨nI n, (), rfl, rfl, rf_end ht hP hD⟩, hS.F ht⟩) hS.2.2 dJ5_length_8abf5_4
set_option maxHeartbeats 4000000 in
set_option maxRecDepth 100000 in
/-- StringBuilder.length -/
theorem c_J4_length_8abf5 (l : Launch) (D : va_G) (E : Nat → ClassId) (sz : Nat) (h0 n : Nat) (w0 w1 w2 : Value)  : Met l yJ4_length_8abf5 wsJ4_length_8abf5 ({ frames := 3, cells := 0, slots := 0, locals := 400 }) (va_Pc [.ref h0] (rf_P D E [(h0, .inr (1, [w0, w1, w2, .int (nI n)]))] sz)) (va_Qi (fun (r : Int32) (u : Unit) => r = nI n) (fun (u : Unit) (t : State) => rf_B D (va_A [(h0, .inr (1, [w0, w1, w2, .int (nI n)]))] sz) [(h0, .inr (1, [w0, w1, w2, .int (nI n)]))] t) (va_A [(h0, .inr (1, [w0, w1, w2, .int (nI n)]))] sz)) 0 0 (va_A [(h0, .inr (1, [w0, w1, w2, .int (nI n)]))] sz) := by
  refine Met.ofW (cc := cJ4_length_8abf5) (maxL := 1) (ret := (some .int)) (by decide) rfl ?_
  intro p e s mI args below meth c s₁ B hml hv
  obtain ⟨rfl, hsz, hP, hK, hD0, hZ, hN⟩ := hv
  have hx := B.exec
  have hb := B.bytes
  have hr := B.returns
  have hts := atoms_spec (ws := wsJ4_length_8abf5) B.pre
  have hown : s.vm.findClass RJ4 = some mI.cls := findClass_of_methodNamed B.named
  have hlocks := B.notSynchronized
  subst hsz
  have hD := hD0.self (sz := s.heap.size)
  generalize hAe : va_A [(h0, .inr (1, [w0, w1, w2, .int (nI n)]))] s.heap.size = A at hD hZ ⊢
  have hA : ∀ q : Nat, s.heap.size ≤ q → A q := fun q h => by rw [← hAe]; exact Or.inr h
  have hS : va_S A s.heap s.heap [] := va_S.rf
  have hl := lv_entry ([.ref h0]) (n := 1) (Nat.le_of_ble_eq_true rfl)
  rw [lg_entry_eq]
  generalize (lg_sl ([.ref h0]) ++ List.replicate (1 - (lg_sl ([.ref h0])).length) Slot.unset).toArray = ls at hl ⊢
  clear hAe hD0
  have hl : lv_has ls 1 [(0, .ref h0)] := hl
  obtain ⟨H, hH⟩ : ∃ H, H = s.heap := ⟨_, rfl⟩
  rw [← hH] at hP
  have hS : va_S A s.heap H [] := by rw [hH]; exact hS
  refine rf_heap hH ?_
  refine lv_aload_n hx hb dJ4_length_8abf5_0 rfl (lv_at hl 0 rfl) ?_
  have hPc := hP.sub (ws' := [(h0, .inr (1, [w0, w1, w2, .int (nI n)]))]) [0] rfl
  have hDc := hD.sub (ws' := [(h0, .inr (1, [w0, w1, w2, .int (nI n)]))]) [0] (by decide) rfl
  have hFc := va_free (wc := [(h0, .inr (1, [w0, w1, w2, .int (nI n)]))]) hD hS hA [0] rfl
  have h_1 : 0 + 0 ≤ 0 := by omega
  have h_2 : 0 + 0 ≤ 0 := by omega
  refine va_calli (va_runSU (As := []) (rest := []) (hK.1 1 _ rfl).2 ⟨hx, hb, hml, hown, hts⟩ (c_J5_length_8abf5 l D E H.size (h0) (n) (w0) (w1) (w2)) (va_cwSU 0 hts gJ4_length_8abf5_J5_length_8abf5_s343 rfl rfl rfl (by decide +kernel) ⟨Nat.le_of_ble_eq_true rfl, Nat.le_of_ble_eq_true rfl⟩) ⟨rf_blind _, va_recv hK hPc (ci := 1) (q0 := 0) rfl rfl, fun U hU hW => ⟨rfl, rf_pre hK hPc hDc hZ hN hS hFc U hU hW⟩⟩ rfl rfl hl.1 rfl (lv_room (Nat.le_of_ble_eq_true rfl)) dJ4_length_8abf5_1 ⟨h_1, h_2⟩) hS (fun q _ h => hFc q h) hFc (fun r u t H1 locs ht hvm hw hB hz1 hk1 hS => ?_)
  obtain ⟨hP1, hD1⟩ := hB
  rw [ht] at hP1
  try dsimp only at hw hP1 hD1
  obtain rfl := hw
  obtain ⟨hP, hD⟩ := va_join (wr := []) (w1 := [(h0, .inr (1, [w0, w1, w2, .int (nI n)]))]) hP hD [0] [] rfl rfl (by decide) (by decide) hk1 hFc hP1 hD1
  clear hPc hDc hFc hP1 hD1 hk1 hz1 ht
  generalize H1 = H at hP hS ⊢
  have hP : va_P D vwCl [(h0, .inr (1, [w0, w1, w2, .int (nI n)]))] H := hP
  have hD : va_D A [(h0, .inr (1, [w0, w1, w2, .int (nI n)]))] := hD
  exact W.iret (v := nI n) hx hb hr (fun t ht hW => ⟨⟨nI n, (), rfl, rfl, rf_end ht hP hD⟩, hS.F ht⟩) hS.2.2 dJ4_length_8abf5_4
set_option maxHeartbeats 4000000 in
set_option maxRecDepth 100000 in
/-- AbstractStringBuilder(16) -/
theorem c_J5_init_d00df (l : Launch) (D : va_G) (E : Nat → ClassId) (sz : Nat) (h0 : Nat)  : Met l yJ5_init_d00df wsJ5_init_d00df ({ frames := 2, cells := 1, slots := 16, locals := 200 }) (va_Pc [.ref h0, .int (nI 16)] (rf_P D E [(h0, .inr (1, [.null, .int 0, .int 0, .int 0]))] sz)) (va_Qv (fun (u : Nat) => True) (fun (u : Nat) (t : State) => rf_B D (va_A [(h0, .inr (1, [.null, .int 0, .int 0, .int 0]))] sz) [(h0, .inr (1, [.ref u, .int 0, .int 0, .int 0])), (u, .inl (E 0, 16, .inl z0))] t) (va_A [(h0, .inr (1, [.null, .int 0, .int 0, .int 0]))] sz)) 1 16 (va_A [(h0, .inr (1, [.null, .int 0, .int 0, .int 0]))] sz) := by
  refine Met.ofW (cc := cJ5_init_d00df) (maxL := 2) (ret := none) (by decide) rfl ?_
  intro p e s mI args below meth c s₁ B hml hv
  obtain ⟨rfl, hsz, hP, hK, hD0, hZ, hN⟩ := hv
  have hx := B.exec
  have hb := B.bytes
  have hr := B.returns
  have hts := atoms_spec (ws := wsJ5_init_d00df) B.pre
  have hown : s.vm.findClass RJ5 = some mI.cls := findClass_of_methodNamed B.named
  have hlocks := B.notSynchronized
  have hin : meth.name = "<init>" := (name_of_methodNamed B.named B.method).1
  subst hsz
  have hD := hD0.self (sz := s.heap.size)
  generalize hAe : va_A [(h0, .inr (1, [.null, .int 0, .int 0, .int 0]))] s.heap.size = A at hD hZ ⊢
  have hA : ∀ q : Nat, s.heap.size ≤ q → A q := fun q h => by rw [← hAe]; exact Or.inr h
  have hS : va_S A s.heap s.heap [] := va_S.rf
  have hl := lv_entry ([.ref h0, .int (nI 16)]) (n := 2) (Nat.le_of_ble_eq_true rfl)
  rw [lg_entry_eq]
  generalize (lg_sl ([.ref h0, .int (nI 16)]) ++ List.replicate (2 - (lg_sl ([.ref h0, .int (nI 16)])).length) Slot.unset).toArray = ls at hl ⊢
  clear hAe hD0
  have hl : lv_has ls 2 [(0, .ref h0), (1, .int (nI 16))] := hl
  obtain ⟨H, hH⟩ : ∃ H, H = s.heap := ⟨_, rfl⟩
  rw [← hH] at hP
  have hS : va_S A s.heap H [] := by rw [hH]; exact hS
  refine rf_heap hH ?_
  refine lv_aload_n hx hb dJ5_init_d00df_0 rfl (lv_at hl 0 rfl) ?_
  refine W.objInit hx hb hown (hts (.methodLink RJ5 3 objectInit) (by decide +kernel)) (hts (.instanceMethod objectInit) (by decide +kernel)) (hts (.code objectInit ⟨#[0xb1]⟩ 1 none) (by decide +kernel)) rfl (by rw [hml]; exact hl.1) rfl dJ5_init_d00df_1 (Nat.le_of_ble_eq_true rfl) (Nat.le_of_ble_eq_true rfl) ?_
  refine W.eq (g2 := F0 mI 4 ls []) rfl ?_
  refine va_gets hx hb hZ hS hown (hts (.fieldLink RJ5 18 "java/lang/String" "COMPACT_STRINGS" "Z") (by decide +kernel)) (fun _ h9 => h9) dJ5_init_d00df_4 ?_
  refine lv_if_eq (tgt := 25) hx hb dJ5_init_d00df_7 rfl (fun h => absurd h (by decide)) (fun _ => ?_)
  refine lv_aload_n hx hb dJ5_init_d00df_10 rfl (lv_at hl 0 rfl) ?_
  refine lv_iload_n hx hb dJ5_init_d00df_11 rfl (lv_at hl 1 rfl) ?_
  have h_1 : 0 + 1 ≤ 1 := by omega
  have h_2 : 0 + (16) ≤ 16 := by omega
  refine va_newa (atype := .byte) (N' := 16) (a0 := (16, .inl z0)) hx hb (hts (.arrayClass .byte) (by decide +kernel)) rfl hK hP hD hS hA (fun _ => rfl) (nI_pos (by omega)) (nI_clamp (by omega)) (Nat.le_trans (Nat.mul_le_mul_right _ (show 16 ≤ 16 by omega)) (Nat.le_of_ble_eq_true rfl)) h_1 h_2 dJ5_init_d00df_12 (fun q1 cA H hK2 hP hD hS => ?_)
  obtain rfl := rf_byte hK2
  have hP : va_P D vwCl [(h0, .inr (1, [.null, .int 0, .int 0, .int 0])), (q1, .inl (E 0, 16, .inl z0))] H := hP
  have hD : va_D A [(h0, .inr (1, [.null, .int 0, .int 0, .int 0])), (q1, .inl (E 0, 16, .inl z0))] := hD
  refine W.widen (k := 1) (n := 16) (by omega) (by omega) ?_
  refine va_put (D := D) (ci := 1) (v := .ref q1) (ty := .array .byte) (C := RJ4) (T := TJ4) (N := 4) hx hb hts (by decide +kernel) tyJ4 tyJ4_ok nmJ4 hown hK hP hD hS 0 rfl rfl 0 (by decide) (hts (.fieldLink RJ5 15 "java/lang/AbstractStringBuilder" "value" "[B") (by decide +kernel)) (fun _ h9 => h9) rfl (by decide +kernel) rfl rfl (Nat.le_of_ble_eq_true rfl) dJ5_init_d00df_14 (fun H locs hP hD hS => ?_)
  have hP : va_P D vwCl [(h0, .inr (1, [.ref q1, .int 0, .int 0, .int 0])), (q1, .inl (E 0, 16, .inl z0))] H := hP
  have hD : va_D A [(h0, .inr (1, [.ref q1, .int 0, .int 0, .int 0])), (q1, .inl (E 0, 16, .inl z0))] := hD
  refine lv_aload_n hx hb dJ5_init_d00df_17 rfl (lv_at hl 0 rfl) ?_
  refine lv_iconst (v := 0) hx hb dJ5_init_d00df_18 (by decide) ?_
  refine va_put (D := D) (ci := 1) (v := .int (0)) (ty := .byte) (C := RJ4) (T := TJ4) (N := 4) hx hb hts (by decide +kernel) tyJ4 tyJ4_ok nmJ4 hown hK hP hD hS 0 rfl rfl 1 (by decide) (hts (.fieldLink RJ5 22 "java/lang/AbstractStringBuilder" "coder" "B") (by decide +kernel)) (fun _ h9 => h9) rfl (by decide +kernel) rfl rfl (Nat.le_of_ble_eq_true rfl) dJ5_init_d00df_19 (fun H locs hP hD hS => ?_)
  have hP : va_P D vwCl [(h0, .inr (1, [.ref q1, .int (0), .int 0, .int 0])), (q1, .inl (E 0, 16, .inl z0))] H := hP
  have hD : va_D A [(h0, .inr (1, [.ref q1, .int (0), .int 0, .int 0])), (q1, .inl (E 0, 16, .inl z0))] := hD
  refine lv_goto (tgt := 38) hx hb dJ5_init_d00df_22 rfl ?_
  exact W.vret hx hb hr (fun t ht hW => ⟨⟨q1, rfl, trivial, rf_end ht hP hD⟩, hS.F ht⟩) hS.2.2 dJ5_init_d00df_38
set_option maxHeartbeats 4000000 in
set_option maxRecDepth 100000 in
/-- StringBuilder() -/
theorem c_J4_init_da8c8 (l : Launch) (D : va_G) (E : Nat → ClassId) (sz : Nat) (h0 : Nat)  : Met l yJ4_init_da8c8 wsJ4_init_da8c8 ({ frames := 3, cells := 1, slots := 16, locals := 400 }) (va_Pc [.ref h0] (rf_P D E [(h0, .inr (1, [.null, .int 0, .int 0, .int 0]))] sz)) (va_Qv (fun (u : Nat) => True) (fun (u : Nat) (t : State) => rf_B D (va_A [(h0, .inr (1, [.null, .int 0, .int 0, .int 0]))] sz) [(h0, .inr (1, [.ref u, .int 0, .int 0, .int 0])), (u, .inl (E 0, 16, .inl z0))] t) (va_A [(h0, .inr (1, [.null, .int 0, .int 0, .int 0]))] sz)) 1 16 (va_A [(h0, .inr (1, [.null, .int 0, .int 0, .int 0]))] sz) := by
  refine Met.ofW (cc := cJ4_init_da8c8) (maxL := 1) (ret := none) (by decide) rfl ?_
  intro p e s mI args below meth c s₁ B hml hv
  obtain ⟨rfl, hsz, hP, hK, hD0, hZ, hN⟩ := hv
  have hx := B.exec
  have hb := B.bytes
  have hr := B.returns
  have hts := atoms_spec (ws := wsJ4_init_da8c8) B.pre
  have hown : s.vm.findClass RJ4 = some mI.cls := findClass_of_methodNamed B.named
  have hlocks := B.notSynchronized
  have hin : meth.name = "<init>" := (name_of_methodNamed B.named B.method).1
  subst hsz
  have hD := hD0.self (sz := s.heap.size)
  generalize hAe : va_A [(h0, .inr (1, [.null, .int 0, .int 0, .int 0]))] s.heap.size = A at hD hZ ⊢
  have hA : ∀ q : Nat, s.heap.size ≤ q → A q := fun q h => by rw [← hAe]; exact Or.inr h
  have hS : va_S A s.heap s.heap [] := va_S.rf
  have hl := lv_entry ([.ref h0]) (n := 1) (Nat.le_of_ble_eq_true rfl)
  rw [lg_entry_eq]
  generalize (lg_sl ([.ref h0]) ++ List.replicate (1 - (lg_sl ([.ref h0])).length) Slot.unset).toArray = ls at hl ⊢
  clear hAe hD0
  have hl : lv_has ls 1 [(0, .ref h0)] := hl
  obtain ⟨H, hH⟩ : ∃ H, H = s.heap := ⟨_, rfl⟩
  rw [← hH] at hP
  have hS : va_S A s.heap H [] := by rw [hH]; exact hS
  refine rf_heap hH ?_
  refine lv_aload_n hx hb dJ4_init_da8c8_0 rfl (lv_at hl 0 rfl) ?_
  refine lv_bipush (v := nI 16) hx hb dJ4_init_da8c8_1 (by decide) ?_
  have hPc := hP.sub (ws' := [(h0, .inr (1, [.null, .int 0, .int 0, .int 0]))]) [0] rfl
  have hDc := hD.sub (ws' := [(h0, .inr (1, [.null, .int 0, .int 0, .int 0]))]) [0] (by decide) rfl
  have hFc := va_free (wc := [(h0, .inr (1, [.null, .int 0, .int 0, .int 0]))]) hD hS hA [0] rfl
  have h_1 : 0 + 1 ≤ 1 := by omega
  have h_2 : 0 + 16 ≤ 16 := by omega
  refine va_callv (va_runI (As := [.int (nI 16)]) (rest := []) ⟨hx, hb, hml, hown, hts⟩ (c_J5_init_d00df l D E H.size (h0)) (cwI 1 hts gJ4_init_da8c8_J5_init_d00df rfl rfl rfl (hts (.initialized RJ5) (by decide +kernel)) (hts (.methodLink RJ4 1 yJ5_init_d00df) (by decide +kernel)) (hts (.instanceMethod yJ5_init_d00df) (by decide +kernel)) rfl (by decide +kernel) ⟨Nat.le_of_ble_eq_true rfl, Nat.le_of_ble_eq_true rfl⟩) ⟨rf_blind _, fun U hU hW => ⟨rfl, rf_pre hK hPc hDc hZ hN hS hFc U hU hW⟩⟩ rfl rfl hl.1 rfl (lv_room (Nat.le_of_ble_eq_true rfl)) dJ4_init_da8c8_3 ⟨h_1, h_2⟩) hS (fun q _ h => hFc q h) hFc (fun u t H1 locs ht hvm hw hB hz1 hk1 hS => ?_)
  obtain ⟨hP1, hD1⟩ := hB
  rw [ht] at hP1
  try dsimp only at hw hP1 hD1
  obtain ⟨hP, hD⟩ := va_join (wr := []) (w1 := [(h0, .inr (1, [.ref u, .int 0, .int 0, .int 0])), (u, .inl (E 0, 16, .inl z0))]) hP hD [0] [] rfl rfl (by decide) (by decide) hk1 hFc hP1 hD1
  clear hPc hDc hFc hP1 hD1 hk1 hz1 ht
  generalize H1 = H at hP hS ⊢
  have hP : va_P D vwCl [(h0, .inr (1, [.ref u, .int 0, .int 0, .int 0])), (u, .inl (E 0, 16, .inl z0))] H := hP
  have hD : va_D A [(h0, .inr (1, [.ref u, .int 0, .int 0, .int 0])), (u, .inl (E 0, 16, .inl z0))] := hD
  refine W.widen (k := 1) (n := 16) (by omega) (by omega) ?_
  exact W.vret hx hb hr (fun t ht hW => ⟨⟨u, rfl, trivial, rf_end ht hP hD⟩, hS.F ht⟩) hS.2.2 dJ4_init_da8c8_6
set_option maxHeartbeats 4000000 in
set_option maxRecDepth 100000 in
/-- ArraysSupport.newLength: the old one and the greater of the two -/
theorem c_J8_newLength_cabcc (l : Launch) (D : va_G) (E : Nat → ClassId) (sz : Nat) (a g q : Nat) (ha : a ≤ 1000) (hg : g ≤ 1000) (hq : q ≤ 1100) (hq1 : 0 < q) : Met l yJ8_newLength_cabcc wsJ8_newLength_cabcc ({ frames := 2, cells := 0, slots := 0, locals := 200 }) (va_Pc [.int (nI a), .int (nI g), .int (nI q)] (rf_P D E [] sz)) (va_Qi (fun (r : Int32) (u : Unit) => r = nI (a + max g q)) (fun (u : Unit) (t : State) => rf_B D (va_A [] sz) [] t) (va_A [] sz)) 0 0 (va_A [] sz) := by
  refine Met.ofW (cc := cJ8_newLength_cabcc) (maxL := 4) (ret := (some .int)) (by decide) rfl ?_
  intro p e s mI args below meth c s₁ B hml hv
  obtain ⟨rfl, hsz, hP, hK, hD0, hZ, hN⟩ := hv
  have hx := B.exec
  have hb := B.bytes
  have hr := B.returns
  have hts := atoms_spec (ws := wsJ8_newLength_cabcc) B.pre
  have hown : s.vm.findClass RJ8 = some mI.cls := findClass_of_methodNamed B.named
  have hlocks := B.notSynchronized
  subst hsz
  have hD := hD0.self (sz := s.heap.size)
  generalize hAe : va_A [] s.heap.size = A at hD hZ ⊢
  have hA : ∀ q : Nat, s.heap.size ≤ q → A q := fun q h => by rw [← hAe]; exact Or.inr h
  have hS : va_S A s.heap s.heap [] := va_S.rf
  have hl := lv_entry ([.int (nI a), .int (nI g), .int (nI q)]) (n := 4) (Nat.le_of_ble_eq_true rfl)
  rw [lg_entry_eq]
  generalize (lg_sl ([.int (nI a), .int (nI g), .int (nI q)]) ++ List.replicate (4 - (lg_sl ([.int (nI a), .int (nI g), .int (nI q)])).length) Slot.unset).toArray = ls at hl ⊢
  clear hAe hD0
  have hl : lv_has ls 4 [(0, .int (nI a)), (1, .int (nI g)), (2, .int (nI q))] := hl
  obtain ⟨H, hH⟩ : ∃ H, H = s.heap := ⟨_, rfl⟩
  rw [← hH] at hP
  have hS : va_S A s.heap H [] := by rw [hH]; exact hS
  refine rf_heap hH ?_
  refine lv_iload_n hx hb dJ8_newLength_cabcc_0 rfl (lv_at hl 0 rfl) ?_
  refine lv_iload_n hx hb dJ8_newLength_cabcc_1 rfl (lv_at hl 1 rfl) ?_
  refine lv_iload_n hx hb dJ8_newLength_cabcc_2 rfl (lv_at hl 2 rfl) ?_
  refine va_mmax hx hb (by rw [hml]; exact hl.1.symm) hown (hts (.methodLink RJ8 194 Lib.Math.max.name) (by decide +kernel)) (hts (.static Lib.Math.max.name) (by decide +kernel)) (hts (.initialized "java/lang/Math") (by decide +kernel)) (hts (.code Lib.Math.max.name Lib.Math.max.code 2 (some .int)) (by decide +kernel)) (Nat.le_of_ble_eq_true rfl) (Nat.le_of_ble_eq_true rfl) (show 0 ≤ 0 by omega) (show 0 ≤ 0 by omega) dJ8_newLength_cabcc_3 (lv_topi (fun f1 ef => ?_))
  obtain rfl : f1 = nI (max g q) := by
    rw [ef]
    by_cases h : g < q
    · rw [if_pos (nI_lt h (by omega))]; exact congrArg nI (by omega)
    · rw [if_neg (nI_nlt (by omega) (by omega))]; exact congrArg nI (by omega)
  refine lv_iadd hx hb dJ8_newLength_cabcc_6 (lv_topi (fun f2 ef => ?_))
  obtain rfl : f2 = nI (a + max g q) := (show f2 = nI (a) + nI (max g q) from ef).trans ((nI_add _ _).trans (congrArg nI (by omega)))
  refine lv_istore_n hx hb dJ8_newLength_cabcc_7 rfl hl (Nat.le_of_ble_eq_true rfl) rfl (fun ls hl => ?_)
  have hl : lv_has ls 4 [(3, .int (nI (a + max g q))), (0, .int (nI a)), (1, .int (nI g)), (2, .int (nI q))] := hl
  refine lv_iconst (v := nI 0) hx hb dJ8_newLength_cabcc_8 (by decide) ?_
  refine lv_iload_n hx hb dJ8_newLength_cabcc_9 rfl (lv_at hl 0 rfl) ?_
  refine lv_icmp_ge (tgt := 21) hx hb dJ8_newLength_cabcc_10 rfl (fun h => absurd h (show ¬ nI (a + max g q) ≤ nI 0 from nI_nle (by omega) (by omega))) (fun _ => ?_)
  refine lv_iload_n hx hb dJ8_newLength_cabcc_13 rfl (lv_at hl 0 rfl) ?_
  refine lv_ldc (v := 2147483639) hx hb hown (hts (.constant RJ8 200 2147483639) (by decide +kernel)) dJ8_newLength_cabcc_14 ?_
  refine lv_icmp_gt (tgt := 21) hx hb dJ8_newLength_cabcc_16 rfl (fun h => absurd h (show ¬ nI 2147483639 < nI (a + max g q) from nI_nlt (by omega) (by decide))) (fun _ => ?_)
  refine lv_iload_n hx hb dJ8_newLength_cabcc_19 rfl (lv_at hl 0 rfl) ?_
  exact W.iret (v := nI (a + max g q)) hx hb hr (fun t ht hW => ⟨⟨nI (a + max g q), (), rfl, rfl, rf_end ht hP hD⟩, hS.F ht⟩) hS.2.2 dJ8_newLength_cabcc_20
set_option maxHeartbeats 4000000 in
set_option maxRecDepth 100000 in
/-- newCapacity -/
theorem c_J5_newCapacity_0f7a4 (l : Launch) (D : va_G) (E : Nat → ClassId) (sz : Nat) (h0 b0 m q : Nat) (w2 w3 : Value) (hm : m ≤ 300) (hq : q ≤ 300) (hmq : m < q) : Met l yJ5_newCapacity_0f7a4 wsJ5_newCapacity_0f7a4 ({ frames := 3, cells := 0, slots := 0, locals := 400 }) (va_Pc [.ref h0, .int (nI q)] (rf_P D E [(h0, .inr (1, [.ref b0, .int 0, w2, w3])), (b0, .inl (E 0, m, .inl z0))] sz)) (va_Qi (fun (r : Int32) (u : Unit) => r = nI (m + max (q - m) (m + 2))) (fun (u : Unit) (t : State) => rf_B D (va_A [(h0, .inr (1, [.ref b0, .int 0, w2, w3])), (b0, .inl (E 0, m, .inl z0))] sz) [(h0, .inr (1, [.ref b0, .int 0, w2, w3])), (b0, .inl (E 0, m, .inl z0))] t) (va_A [(h0, .inr (1, [.ref b0, .int 0, w2, w3])), (b0, .inl (E 0, m, .inl z0))] sz)) 0 0 (va_A [(h0, .inr (1, [.ref b0, .int 0, w2, w3])), (b0, .inl (E 0, m, .inl z0))] sz) := by
  refine Met.ofW (cc := cJ5_newCapacity_0f7a4) (maxL := 6) (ret := (some .int)) (by decide) rfl ?_
  intro p e s mI args below meth c s₁ B hml hv
  obtain ⟨rfl, hsz, hP, hK, hD0, hZ, hN⟩ := hv
  have hx := B.exec
  have hb := B.bytes
  have hr := B.returns
  have hts := atoms_spec (ws := wsJ5_newCapacity_0f7a4) B.pre
  have hown : s.vm.findClass RJ5 = some mI.cls := findClass_of_methodNamed B.named
  have hlocks := B.notSynchronized
  subst hsz
  have hD := hD0.self (sz := s.heap.size)
  generalize hAe : va_A [(h0, .inr (1, [.ref b0, .int 0, w2, w3])), (b0, .inl (E 0, m, .inl z0))] s.heap.size = A at hD hZ ⊢
  have hA : ∀ q : Nat, s.heap.size ≤ q → A q := fun q h => by rw [← hAe]; exact Or.inr h
  have hS : va_S A s.heap s.heap [] := va_S.rf
  have hl := lv_entry ([.ref h0, .int (nI q)]) (n := 6) (Nat.le_of_ble_eq_true rfl)
  rw [lg_entry_eq]
  generalize (lg_sl ([.ref h0, .int (nI q)]) ++ List.replicate (6 - (lg_sl ([.ref h0, .int (nI q)])).length) Slot.unset).toArray = ls at hl ⊢
  clear hAe hD0
  have hl : lv_has ls 6 [(0, .ref h0), (1, .int (nI q))] := hl
  obtain ⟨H, hH⟩ : ∃ H, H = s.heap := ⟨_, rfl⟩
  rw [← hH] at hP
  have hS : va_S A s.heap H [] := by rw [hH]; exact hS
  refine rf_heap hH ?_
  refine lv_aload_n hx hb dJ5_newCapacity_0f7a4_0 rfl (lv_at hl 0 rfl) ?_
  refine va_get (D := D) (ci := 1) (v := .ref b0) (C := RJ4) (T := TJ4) (N := 4) hx hb hts (by decide +kernel) hown hK hP 0 rfl rfl 0 (by decide) (hts (.fieldLink RJ5 15 "java/lang/AbstractStringBuilder" "value" "[B") (by decide +kernel)) (fun _ h9 => h9) rfl dJ5_newCapacity_0f7a4_1 ?_
  refine va_alen (v := nI (m)) hx hb hK hP 1 0 rfl rfl rfl dJ5_newCapacity_0f7a4_4 ?_
  refine lv_istore_n hx hb dJ5_newCapacity_0f7a4_5 rfl hl (Nat.le_of_ble_eq_true rfl) rfl (fun ls hl => ?_)
  have hl : lv_has ls 6 [(2, .int (nI (m))), (0, .ref h0), (1, .int (nI q))] := hl
  refine lv_iload_n hx hb dJ5_newCapacity_0f7a4_6 rfl (lv_at hl 2 rfl) ?_
  refine lv_aload_n hx hb dJ5_newCapacity_0f7a4_7 rfl (lv_at hl 1 rfl) ?_
  refine va_get (D := D) (ci := 1) (v := .int 0) (C := RJ4) (T := TJ4) (N := 4) hx hb hts (by decide +kernel) hown hK hP 0 rfl rfl 1 (by decide) (hts (.fieldLink RJ5 22 "java/lang/AbstractStringBuilder" "coder" "B") (by decide +kernel)) (fun _ h9 => h9) rfl dJ5_newCapacity_0f7a4_8 ?_
  refine lv_ishl hx hb dJ5_newCapacity_0f7a4_11 (lv_topi (fun f1 ef => ?_))
  obtain rfl : f1 = nI (q) := (show f1 = nI (q) <<< ((0 : Int32) &&& 31) from ef).trans (sb_shl0 _)
  refine lv_istore_n hx hb dJ5_newCapacity_0f7a4_12 rfl hl (Nat.le_of_ble_eq_true rfl) rfl (fun ls hl => ?_)
  have hl : lv_has ls 6 [(3, .int (nI (q))), (2, .int (nI (m))), (0, .ref h0), (1, .int (nI q))] := hl
  refine lv_iload_n hx hb dJ5_newCapacity_0f7a4_13 rfl (lv_at hl 0 rfl) ?_
  refine lv_iload_n hx hb dJ5_newCapacity_0f7a4_14 rfl (lv_at hl 1 rfl) ?_
  refine lv_isub hx hb dJ5_newCapacity_0f7a4_15 (lv_topi (fun f2 ef => ?_))
  obtain rfl : f2 = nI (q - m) := (show f2 = nI (q) - nI (m) from ef).trans ((pk_sub (by omega)).trans (congrArg nI (by omega)))
  refine lv_istore hx hb dJ5_newCapacity_0f7a4_16 hl (Nat.le_of_ble_eq_true rfl) rfl (fun ls hl => ?_)
  have hl : lv_has ls 6 [(4, .int (nI (q - m))), (3, .int (nI (q))), (2, .int (nI (m))), (0, .ref h0), (1, .int (nI q))] := hl
  refine lv_iload_n hx hb dJ5_newCapacity_0f7a4_18 rfl (lv_at hl 2 rfl) ?_
  refine lv_iload hx hb dJ5_newCapacity_0f7a4_19 (lv_at hl 0 rfl) ?_
  refine lv_iload_n hx hb dJ5_newCapacity_0f7a4_21 rfl (lv_at hl 2 rfl) ?_
  refine lv_iconst (v := nI 2) hx hb dJ5_newCapacity_0f7a4_22 (by decide) ?_
  refine lv_aload_n hx hb dJ5_newCapacity_0f7a4_23 rfl (lv_at hl 3 rfl) ?_
  refine va_get (D := D) (ci := 1) (v := .int 0) (C := RJ4) (T := TJ4) (N := 4) hx hb hts (by decide +kernel) hown hK hP 0 rfl rfl 1 (by decide) (hts (.fieldLink RJ5 22 "java/lang/AbstractStringBuilder" "coder" "B") (by decide +kernel)) (fun _ h9 => h9) rfl dJ5_newCapacity_0f7a4_24 ?_
  refine lv_ishl hx hb dJ5_newCapacity_0f7a4_27 (lv_topi (fun f3 ef => ?_))
  obtain rfl : f3 = nI (2) := (show f3 = nI (2) <<< ((0 : Int32) &&& 31) from ef).trans (sb_shl0 _)
  refine lv_iadd hx hb dJ5_newCapacity_0f7a4_28 (lv_topi (fun f4 ef => ?_))
  obtain rfl : f4 = nI (m + 2) := (show f4 = nI (m) + nI (2) from ef).trans ((nI_add _ _).trans (congrArg nI (by omega)))
  have hPc := hP.sub (ws' := []) [] rfl
  have hDc := hD.sub (ws' := []) [] (by decide) rfl
  have hFc := va_free (wc := []) hD hS hA [] rfl
  have h_1 : 0 + 0 ≤ 0 := by omega
  have h_2 : 0 + 0 ≤ 0 := by omega
  refine va_calli (va_runS (As := [.int (nI (m)), .int (nI (q - m)), .int (nI (m + 2))]) (rest := []) ⟨hx, hb, hml, hown, hts⟩ (c_J8_newLength_cabcc l D E H.size (m) (q - m) (m + 2) (by omega) (by omega) (by omega) (by omega)) (va_cwS 3 hts gJ5_newCapacity_0f7a4_J8_newLength_cabcc rfl rfl rfl (by decide +kernel) ⟨Nat.le_of_ble_eq_true rfl, Nat.le_of_ble_eq_true rfl⟩) ⟨rf_blind _, fun U hU hW => ⟨rfl, rf_pre hK hPc hDc hZ hN hS hFc U hU hW⟩⟩ rfl rfl hl.1 rfl (lv_room (Nat.le_of_ble_eq_true rfl)) dJ5_newCapacity_0f7a4_29 ⟨h_1, h_2⟩) hS (fun q _ h => hFc q h) hFc (fun r u t H1 locs ht hvm hw hB hz1 hk1 hS => ?_)
  obtain ⟨hP1, hD1⟩ := hB
  rw [ht] at hP1
  try dsimp only at hw hP1 hD1
  obtain rfl := hw
  obtain ⟨hP, hD⟩ := va_join (wr := [(h0, .inr (1, [.ref b0, .int 0, w2, w3])), (b0, .inl (E 0, m, .inl z0))]) (w1 := []) hP hD [] [0, 1] rfl rfl (by decide) (by decide) hk1 hFc hP1 hD1
  clear hPc hDc hFc hP1 hD1 hk1 hz1 ht
  generalize H1 = H at hP hS ⊢
  have hP : va_P D vwCl [(h0, .inr (1, [.ref b0, .int 0, w2, w3])), (b0, .inl (E 0, m, .inl z0))] H := hP
  have hD : va_D A [(h0, .inr (1, [.ref b0, .int 0, w2, w3])), (b0, .inl (E 0, m, .inl z0))] := hD
  refine lv_istore hx hb dJ5_newCapacity_0f7a4_32 hl (Nat.le_of_ble_eq_true rfl) rfl (fun ls hl => ?_)
  have hl : lv_has ls 6 [(5, .int (nI (m + max (q - m) (m + 2)))), (4, .int (nI (q - m))), (3, .int (nI (q))), (2, .int (nI (m))), (0, .ref h0), (1, .int (nI q))] := hl
  refine lv_iload hx hb dJ5_newCapacity_0f7a4_34 (lv_at hl 0 rfl) ?_
  refine lv_ldc (v := 2147483647) hx hb hown (hts (.constant RJ5 39 2147483647) (by decide +kernel)) dJ5_newCapacity_0f7a4_36 ?_
  refine lv_icmp_ne (tgt := 51) hx hb dJ5_newCapacity_0f7a4_38 rfl (fun _ => ?_) (fun h => absurd h (show ¬ nI (m + max (q - m) (m + 2)) = nI 2147483647 from fun h => absurd ((nI_eq (by omega) (by decide)).mp h) (by omega)))
  refine lv_iload hx hb dJ5_newCapacity_0f7a4_51 (lv_at hl 0 rfl) ?_
  refine lv_aload_n hx hb dJ5_newCapacity_0f7a4_53 rfl (lv_at hl 4 rfl) ?_
  refine va_get (D := D) (ci := 1) (v := .int 0) (C := RJ4) (T := TJ4) (N := 4) hx hb hts (by decide +kernel) hown hK hP 0 rfl rfl 1 (by decide) (hts (.fieldLink RJ5 22 "java/lang/AbstractStringBuilder" "coder" "B") (by decide +kernel)) (fun _ h9 => h9) rfl dJ5_newCapacity_0f7a4_54 ?_
  refine lv_ishr hx hb dJ5_newCapacity_0f7a4_57 (lv_topi (fun f5 ef => ?_))
  obtain rfl : f5 = nI (m + max (q - m) (m + 2)) := (show f5 = nI (m + max (q - m) (m + 2)) >>> ((0 : Int32) &&& 31) from ef).trans (sb_shr0 _)
  have hP := hP.sub (ws' := [(h0, .inr (1, [.ref b0, .int 0, w2, w3])), (b0, .inl (E 0, m, .inl z0))]) [0, 1] rfl
  have hD := hD.sub (ws' := [(h0, .inr (1, [.ref b0, .int 0, w2, w3])), (b0, .inl (E 0, m, .inl z0))]) [0, 1] (by decide) rfl
  exact W.iret (v := nI (m + max (q - m) (m + 2))) hx hb hr (fun t ht hW => ⟨⟨nI (m + max (q - m) (m + 2)), (), rfl, rfl, rf_end ht hP hD⟩, hS.F ht⟩) hS.2.2 dJ5_newCapacity_0f7a4_58
set_option maxHeartbeats 4000000 in
set_option maxRecDepth 100000 in
/-- Arrays.copyOf, longer -/
theorem c_J7_copyOf_9075b (l : Launch) (D : va_G) (E : Nat → ClassId) (sz : Nat) (b0 m q : Nat) (hq : q ≤ 1000) (hmq : m < q) : Met l yJ7_copyOf_9075b wsJ7_copyOf_9075b ({ frames := 2, cells := 1, slots := 1000, locals := 200 }) (va_Pc [.ref b0, .int (nI q)] (rf_P D E [(b0, .inl (E 0, m, .inl z0))] sz)) (va_Qr (fun (u : Unit) => True) (fun (u : Unit) (ra : Nat) (t : State) => rf_B D (va_A [(b0, .inl (E 0, m, .inl z0))] sz) [(b0, .inl (E 0, m, .inl z0)), (ra, .inl (E 0, q, .inl z0))] t) (va_A [(b0, .inl (E 0, m, .inl z0))] sz)) 1 1000 (va_A [(b0, .inl (E 0, m, .inl z0))] sz) := by
  refine Met.ofW (cc := cJ7_copyOf_9075b) (maxL := 3) (ret := (some (.array .byte))) (by decide) rfl ?_
  intro p e s mI args below meth c s₁ B hml hv
  obtain ⟨rfl, hsz, hP, hK, hD0, hZ, hN⟩ := hv
  have hx := B.exec
  have hb := B.bytes
  have hr := B.returns
  have hts := atoms_spec (ws := wsJ7_copyOf_9075b) B.pre
  have hown : s.vm.findClass RJ7 = some mI.cls := findClass_of_methodNamed B.named
  have hlocks := B.notSynchronized
  subst hsz
  have hD := hD0.self (sz := s.heap.size)
  generalize hAe : va_A [(b0, .inl (E 0, m, .inl z0))] s.heap.size = A at hD hZ ⊢
  have hA : ∀ q : Nat, s.heap.size ≤ q → A q := fun q h => by rw [← hAe]; exact Or.inr h
  have hS : va_S A s.heap s.heap [] := va_S.rf
  have hl := lv_entry ([.ref b0, .int (nI q)]) (n := 3) (Nat.le_of_ble_eq_true rfl)
  rw [lg_entry_eq]
  generalize (lg_sl ([.ref b0, .int (nI q)]) ++ List.replicate (3 - (lg_sl ([.ref b0, .int (nI q)])).length) Slot.unset).toArray = ls at hl ⊢
  clear hAe hD0
  have hl : lv_has ls 3 [(0, .ref b0), (1, .int (nI q))] := hl
  obtain ⟨H, hH⟩ : ∃ H, H = s.heap := ⟨_, rfl⟩
  rw [← hH] at hP
  have hS : va_S A s.heap H [] := by rw [hH]; exact hS
  refine rf_heap hH ?_
  refine lv_iload_n hx hb dJ7_copyOf_9075b_0 rfl (lv_at hl 1 rfl) ?_
  refine lv_aload_n hx hb dJ7_copyOf_9075b_1 rfl (lv_at hl 0 rfl) ?_
  refine va_alen (v := nI (m)) hx hb hK hP 0 0 rfl rfl rfl dJ7_copyOf_9075b_2 ?_
  refine lv_icmp_ne (tgt := 14) hx hb dJ7_copyOf_9075b_3 rfl (fun _ => ?_) (fun h => absurd h (show ¬ nI (q) = nI (m) from fun h => absurd ((nI_eq (by omega) (by omega)).mp h) (by omega)))
  refine lv_iload_n hx hb dJ7_copyOf_9075b_14 rfl (lv_at hl 1 rfl) ?_
  have h_1 : 0 + 1 ≤ 1 := by omega
  have h_2 : 0 + (q) ≤ 1000 := by omega
  refine va_newa (atype := .byte) (N' := q) (a0 := (q, .inl z0)) hx hb (hts (.arrayClass .byte) (by decide +kernel)) rfl hK hP hD hS hA (fun _ => rfl) (nI_pos (by omega)) (nI_clamp (by omega)) (Nat.le_trans (Nat.mul_le_mul_right _ (show q ≤ 1000 by omega)) (Nat.le_of_ble_eq_true rfl)) h_1 h_2 dJ7_copyOf_9075b_15 (fun q1 cA H hK2 hP hD hS => ?_)
  obtain rfl := rf_byte hK2
  have hP : va_P D vwCl [(b0, .inl (E 0, m, .inl z0)), (q1, .inl (E 0, q, .inl z0))] H := hP
  have hD : va_D A [(b0, .inl (E 0, m, .inl z0)), (q1, .inl (E 0, q, .inl z0))] := hD
  refine W.widen (k := 1) (n := 1000) (by omega) (by omega) ?_
  refine lv_astore_n hx hb dJ7_copyOf_9075b_17 rfl hl (Nat.le_of_ble_eq_true rfl) rfl (fun ls hl => ?_)
  have hl : lv_has ls 3 [(2, .ref q1), (0, .ref b0), (1, .int (nI q))] := hl
  refine lv_aload_n hx hb dJ7_copyOf_9075b_18 rfl (lv_at hl 1 rfl) ?_
  refine lv_iconst (v := nI 0) hx hb dJ7_copyOf_9075b_19 (by decide) ?_
  refine lv_aload_n hx hb dJ7_copyOf_9075b_20 rfl (lv_at hl 0 rfl) ?_
  refine lv_iconst (v := nI 0) hx hb dJ7_copyOf_9075b_21 (by decide) ?_
  refine lv_aload_n hx hb dJ7_copyOf_9075b_22 rfl (lv_at hl 1 rfl) ?_
  refine va_alen (v := nI (m)) hx hb hK hP 0 0 rfl rfl rfl dJ7_copyOf_9075b_23 ?_
  refine lv_iload_n hx hb dJ7_copyOf_9075b_24 rfl (lv_at hl 2 rfl) ?_
  refine va_mmin hx hb (by rw [hml]; exact hl.1.symm) hown (hts (.methodLink RJ7 304 Lib.Math.min.name) (by decide +kernel)) (hts (.static Lib.Math.min.name) (by decide +kernel)) (hts (.initialized "java/lang/Math") (by decide +kernel)) (hts (.code Lib.Math.min.name Lib.Math.min.code 2 (some .int)) (by decide +kernel)) (Nat.le_of_ble_eq_true rfl) (Nat.le_of_ble_eq_true rfl) (show 1 ≤ 1 by omega) (show 1000 ≤ 1000 by omega) dJ7_copyOf_9075b_25 (lv_topi (fun f1 ef => ?_))
  obtain rfl : f1 = nI (m) := by
    rw [ef]
    exact if_neg (nI_nlt (by omega) (by omega))
  refine va_copyi hx hb (by rw [hml]; exact hl.1.symm) hown (hts (.methodLink RJ7 150 arraycopyName) (by decide +kernel)) (hts (.native arraycopyName) (by decide +kernel)) (hts (.static arraycopyName) (by decide +kernel)) (hts (.initialized "java/lang/System") (by decide +kernel)) hK hP hD hS 0 1 0 0 rfl rfl rfl rfl rfl (nI_pos (by omega)) (nI_pos (by omega)) (nI_pos (by omega)) (by rw [nI_clamp (n := 0) (by omega), nI_clamp (n := m) (by omega)]; omega) (by rw [nI_clamp (n := 0) (by omega), nI_clamp (n := m) (by omega)]; omega) (fun _ _ => rfl) (Nat.le_of_ble_eq_true rfl) (Nat.le_of_ble_eq_true rfl) dJ7_copyOf_9075b_28 (fun H locs hP hD hS => ?_)
  rw [rf_cp] at hP hD
  have hP : va_P D vwCl [(b0, .inl (E 0, m, .inl z0)), (q1, .inl (E 0, q, .inl z0))] H := hP
  have hD : va_D A [(b0, .inl (E 0, m, .inl z0)), (q1, .inl (E 0, q, .inl z0))] := hD
  refine lv_aload_n hx hb dJ7_copyOf_9075b_31 rfl (lv_at hl 0 rfl) ?_
  exact W.aret (v := .ref q1) hx hb hr (Or.inr ⟨_, rfl⟩) (Or.inr ⟨_, rfl⟩) (fun t ht hW => ⟨⟨(), q1, rfl, trivial, rf_end ht hP hD⟩, hS.F ht⟩) hS.2.2 dJ7_copyOf_9075b_32
set_option maxHeartbeats 4000000 in
set_option maxRecDepth 100000 in
/-- ensureCapacityInternal: at least q -/
theorem c_J5_ensureCapacityInternal_d00df (l : Launch) (D : va_G) (E : Nat → ClassId) (sz : Nat) (h0 b0 m q : Nat) (w2 w3 : Value) (hm : m ≤ 300) (hq : q ≤ 300) : Met l yJ5_ensureCapacityInternal_d00df wsJ5_ensureCapacityInternal_d00df ({ frames := 4, cells := 1, slots := 1000, locals := 600 }) (va_Pc [.ref h0, .int (nI q)] (rf_P D E [(h0, .inr (1, [.ref b0, .int 0, w2, w3])), (b0, .inl (E 0, m, .inl z0))] sz)) (va_Qv (fun (u : Nat × Nat) => q ≤ u.1 ∧ u.1 ≤ 2 * m + 2 + q) (fun (u : Nat × Nat) (t : State) => rf_B D (va_A [(h0, .inr (1, [.ref b0, .int 0, w2, w3])), (b0, .inl (E 0, m, .inl z0))] sz) [(h0, .inr (1, [.ref u.2, .int 0, w2, w3])), (u.2, .inl (E 0, u.1, .inl z0))] t) (va_A [(h0, .inr (1, [.ref b0, .int 0, w2, w3])), (b0, .inl (E 0, m, .inl z0))] sz)) 1 1000 (va_A [(h0, .inr (1, [.ref b0, .int 0, w2, w3])), (b0, .inl (E 0, m, .inl z0))] sz) := by
  refine Met.ofW (cc := cJ5_ensureCapacityInternal_d00df) (maxL := 3) (ret := none) (by decide) rfl ?_
  intro p e s mI args below meth c s₁ B hml hv
  obtain ⟨rfl, hsz, hP, hK, hD0, hZ, hN⟩ := hv
  have hx := B.exec
  have hb := B.bytes
  have hr := B.returns
  have hts := atoms_spec (ws := wsJ5_ensureCapacityInternal_d00df) B.pre
  have hown : s.vm.findClass RJ5 = some mI.cls := findClass_of_methodNamed B.named
  have hlocks := B.notSynchronized
  subst hsz
  have hD := hD0.self (sz := s.heap.size)
  generalize hAe : va_A [(h0, .inr (1, [.ref b0, .int 0, w2, w3])), (b0, .inl (E 0, m, .inl z0))] s.heap.size = A at hD hZ ⊢
  have hA : ∀ q : Nat, s.heap.size ≤ q → A q := fun q h => by rw [← hAe]; exact Or.inr h
  have hS : va_S A s.heap s.heap [] := va_S.rf
  have hl := lv_entry ([.ref h0, .int (nI q)]) (n := 3) (Nat.le_of_ble_eq_true rfl)
  rw [lg_entry_eq]
  generalize (lg_sl ([.ref h0, .int (nI q)]) ++ List.replicate (3 - (lg_sl ([.ref h0, .int (nI q)])).length) Slot.unset).toArray = ls at hl ⊢
  clear hAe hD0
  have hl : lv_has ls 3 [(0, .ref h0), (1, .int (nI q))] := hl
  obtain ⟨H, hH⟩ : ∃ H, H = s.heap := ⟨_, rfl⟩
  rw [← hH] at hP
  have hS : va_S A s.heap H [] := by rw [hH]; exact hS
  refine rf_heap hH ?_
  refine lv_aload_n hx hb dJ5_ensureCapacityInternal_d00df_0 rfl (lv_at hl 0 rfl) ?_
  refine va_get (D := D) (ci := 1) (v := .ref b0) (C := RJ4) (T := TJ4) (N := 4) hx hb hts (by decide +kernel) hown hK hP 0 rfl rfl 0 (by decide) (hts (.fieldLink RJ5 15 "java/lang/AbstractStringBuilder" "value" "[B") (by decide +kernel)) (fun _ h9 => h9) rfl dJ5_ensureCapacityInternal_d00df_1 ?_
  refine va_alen (v := nI (m)) hx hb hK hP 1 0 rfl rfl rfl dJ5_ensureCapacityInternal_d00df_4 ?_
  refine lv_aload_n hx hb dJ5_ensureCapacityInternal_d00df_5 rfl (lv_at hl 0 rfl) ?_
  refine va_get (D := D) (ci := 1) (v := .int 0) (C := RJ4) (T := TJ4) (N := 4) hx hb hts (by decide +kernel) hown hK hP 0 rfl rfl 1 (by decide) (hts (.fieldLink RJ5 22 "java/lang/AbstractStringBuilder" "coder" "B") (by decide +kernel)) (fun _ h9 => h9) rfl dJ5_ensureCapacityInternal_d00df_6 ?_
  refine lv_ishr hx hb dJ5_ensureCapacityInternal_d00df_9 (lv_topi (fun f1 ef => ?_))
  obtain rfl : f1 = nI (m) := (show f1 = nI (m) >>> ((0 : Int32) &&& 31) from ef).trans (sb_shr0 _)
  refine lv_istore_n hx hb dJ5_ensureCapacityInternal_d00df_10 rfl hl (Nat.le_of_ble_eq_true rfl) rfl (fun ls hl => ?_)
  have hl : lv_has ls 3 [(2, .int (nI (m))), (0, .ref h0), (1, .int (nI q))] := hl
  refine lv_iload_n hx hb dJ5_ensureCapacityInternal_d00df_11 rfl (lv_at hl 2 rfl) ?_
  refine lv_iload_n hx hb dJ5_ensureCapacityInternal_d00df_12 rfl (lv_at hl 0 rfl) ?_
  refine lv_isub hx hb dJ5_ensureCapacityInternal_d00df_13 (lv_topi (fun f ef => ?_))
  have e9 : (nI q - nI m).toInt = (q : Int) - m := pk_sub_toInt (by omega) (by omega)
  by_cases hqm : q ≤ m
  · refine lv_if_le (tgt := 38) hx hb dJ5_ensureCapacityInternal_d00df_14 rfl (fun _ => ?_) (fun h => absurd (by rw [ef, Int32.le_iff_toInt_le, e9, Int32.toInt_zero]; omega) h)
    refine W.widen (k := 1) (n := 1000) (by omega) (by omega) ?_
    have hP := hP.sub (ws' := [(h0, .inr (1, [.ref b0, .int 0, w2, w3])), (b0, .inl (E 0, m, .inl z0))]) [0, 1] rfl
    have hD := hD.sub (ws' := [(h0, .inr (1, [.ref b0, .int 0, w2, w3])), (b0, .inl (E 0, m, .inl z0))]) [0, 1] (by decide) rfl
    exact W.vret hx hb hr (fun t ht hW => ⟨⟨(m, b0), rfl, ⟨hqm, by dsimp only; omega⟩, rf_end ht hP hD⟩, hS.F ht⟩) hS.2.2 dJ5_ensureCapacityInternal_d00df_38
  · refine lv_if_le (tgt := 38) hx hb dJ5_ensureCapacityInternal_d00df_14 rfl (fun h => absurd h (by rw [ef, Int32.le_iff_toInt_le, e9, Int32.toInt_zero]; omega)) (fun _ => ?_)
    refine lv_aload_n hx hb dJ5_ensureCapacityInternal_d00df_17 rfl (lv_at hl 1 rfl) ?_
    refine lv_aload_n hx hb dJ5_ensureCapacityInternal_d00df_18 rfl (lv_at hl 1 rfl) ?_
    refine va_get (D := D) (ci := 1) (v := .ref b0) (C := RJ4) (T := TJ4) (N := 4) hx hb hts (by decide +kernel) hown hK hP 0 rfl rfl 0 (by decide) (hts (.fieldLink RJ5 15 "java/lang/AbstractStringBuilder" "value" "[B") (by decide +kernel)) (fun _ h9 => h9) rfl dJ5_ensureCapacityInternal_d00df_19 ?_
    refine lv_aload_n hx hb dJ5_ensureCapacityInternal_d00df_22 rfl (lv_at hl 1 rfl) ?_
    refine lv_iload_n hx hb dJ5_ensureCapacityInternal_d00df_23 rfl (lv_at hl 2 rfl) ?_
    have hPc := hP.sub (ws' := [(h0, .inr (1, [.ref b0, .int 0, w2, w3])), (b0, .inl (E 0, m, .inl z0))]) [0, 1] rfl
    have hDc := hD.sub (ws' := [(h0, .inr (1, [.ref b0, .int 0, w2, w3])), (b0, .inl (E 0, m, .inl z0))]) [0, 1] (by decide) rfl
    have hFc := va_free (wc := [(h0, .inr (1, [.ref b0, .int 0, w2, w3])), (b0, .inl (E 0, m, .inl z0))]) hD hS hA [0, 1] rfl
    have h_1 : 0 + 0 ≤ 1 := by omega
    have h_2 : 0 + 0 ≤ 1000 := by omega
    refine va_calli (va_runU (As := [.int (nI q)]) (rest := [.ref b0, .ref h0]) ⟨hx, hb, hml, hown, hts⟩ (c_J5_newCapacity_0f7a4 l D E H.size (h0) (b0) (m) (q) (w2) (w3) (by omega) (by omega) (by omega)) (va_cwU 1 hts gJ5_ensureCapacityInternal_d00df_J5_newCapacity_0f7a4_u104J4 rfl rfl rfl rfl (by decide +kernel) ⟨Nat.le_of_ble_eq_true rfl, Nat.le_of_ble_eq_true rfl⟩) ⟨rf_blind _, va_recv hK hPc (ci := 1) (q0 := 0) rfl rfl, fun U hU hW => ⟨rfl, rf_pre hK hPc hDc hZ hN hS hFc U hU hW⟩⟩ rfl rfl hl.1 rfl (lv_room (Nat.le_of_ble_eq_true rfl)) dJ5_ensureCapacityInternal_d00df_24 ⟨h_1, h_2⟩) hS (fun q _ h => hFc q h) hFc (fun r u t H1 locs ht hvm hw hB hz1 hk1 hS => ?_)
    obtain ⟨hP1, hD1⟩ := hB
    rw [ht] at hP1
    try dsimp only at hw hP1 hD1
    obtain rfl := hw
    obtain ⟨hP, hD⟩ := va_join (wr := []) (w1 := [(h0, .inr (1, [.ref b0, .int 0, w2, w3])), (b0, .inl (E 0, m, .inl z0))]) hP hD [0, 1] [] rfl rfl (by decide) (by decide) hk1 hFc hP1 hD1
    clear hPc hDc hFc hP1 hD1 hk1 hz1 ht
    generalize H1 = H at hP hS ⊢
    have hP : va_P D vwCl [(h0, .inr (1, [.ref b0, .int 0, w2, w3])), (b0, .inl (E 0, m, .inl z0))] H := hP
    have hD : va_D A [(h0, .inr (1, [.ref b0, .int 0, w2, w3])), (b0, .inl (E 0, m, .inl z0))] := hD
    refine lv_aload_n hx hb dJ5_ensureCapacityInternal_d00df_27 rfl (lv_at hl 1 rfl) ?_
    refine va_get (D := D) (ci := 1) (v := .int 0) (C := RJ4) (T := TJ4) (N := 4) hx hb hts (by decide +kernel) hown hK hP 0 rfl rfl 1 (by decide) (hts (.fieldLink RJ5 22 "java/lang/AbstractStringBuilder" "coder" "B") (by decide +kernel)) (fun _ h9 => h9) rfl dJ5_ensureCapacityInternal_d00df_28 ?_
    refine lv_ishl hx hb dJ5_ensureCapacityInternal_d00df_31 (lv_topi (fun f2 ef => ?_))
    obtain rfl : f2 = nI (m + max (q - m) (m + 2)) := (show f2 = nI (m + max (q - m) (m + 2)) <<< ((0 : Int32) &&& 31) from ef).trans (sb_shl0 _)
    have hPc := hP.sub (ws' := [(b0, .inl (E 0, m, .inl z0))]) [1] rfl
    have hDc := hD.sub (ws' := [(b0, .inl (E 0, m, .inl z0))]) [1] (by decide) rfl
    have hFc := va_free (wc := [(b0, .inl (E 0, m, .inl z0))]) hD hS hA [1] rfl
    have h_1 : 0 + 1 ≤ 1 := by omega
    have h_2 : 0 + 1000 ≤ 1000 := by omega
    refine va_callr (va_runS (As := [.ref b0, .int (nI (m + max (q - m) (m + 2)))]) (rest := [.ref h0]) ⟨hx, hb, hml, hown, hts⟩ (c_J7_copyOf_9075b l D E H.size (b0) (m) (m + max (q - m) (m + 2)) (by omega) (by omega)) (va_cwS 2 hts gJ5_ensureCapacityInternal_d00df_J7_copyOf_9075b rfl rfl rfl (by decide +kernel) ⟨Nat.le_of_ble_eq_true rfl, Nat.le_of_ble_eq_true rfl⟩) ⟨rf_blind _, fun U hU hW => ⟨rfl, rf_pre hK hPc hDc hZ hN hS hFc U hU hW⟩⟩ rfl rfl hl.1 rfl (lv_room (Nat.le_of_ble_eq_true rfl)) dJ5_ensureCapacityInternal_d00df_32 ⟨h_1, h_2⟩) hS (fun q _ h => hFc q h) hFc (fun u ra t H1 locs ht hvm hw hB hz1 hk1 hS => ?_)
    obtain ⟨hP1, hD1⟩ := hB
    rw [ht] at hP1
    try dsimp only at hw hP1 hD1
    obtain ⟨hP, hD⟩ := va_join (wr := [(h0, .inr (1, [.ref b0, .int 0, w2, w3]))]) (w1 := [(b0, .inl (E 0, m, .inl z0)), (ra, .inl (E 0, m + max (q - m) (m + 2), .inl z0))]) hP hD [1] [0] rfl rfl (by decide) (by decide) hk1 hFc hP1 hD1
    clear hPc hDc hFc hP1 hD1 hk1 hz1 ht
    generalize H1 = H at hP hS ⊢
    have hP : va_P D vwCl [(h0, .inr (1, [.ref b0, .int 0, w2, w3])), (b0, .inl (E 0, m, .inl z0)), (ra, .inl (E 0, m + max (q - m) (m + 2), .inl z0))] H := hP
    have hD : va_D A [(h0, .inr (1, [.ref b0, .int 0, w2, w3])), (b0, .inl (E 0, m, .inl z0)), (ra, .inl (E 0, m + max (q - m) (m + 2), .inl z0))] := hD
    refine W.widen (k := 1) (n := 1000) (by omega) (by omega) ?_
    refine va_put (D := D) (ci := 1) (v := .ref ra) (ty := .array .byte) (C := RJ4) (T := TJ4) (N := 4) hx hb hts (by decide +kernel) tyJ4 tyJ4_ok nmJ4 hown hK hP hD hS 0 rfl rfl 0 (by decide) (hts (.fieldLink RJ5 15 "java/lang/AbstractStringBuilder" "value" "[B") (by decide +kernel)) (fun _ h9 => h9) rfl (by decide +kernel) rfl rfl (Nat.le_of_ble_eq_true rfl) dJ5_ensureCapacityInternal_d00df_35 (fun H locs hP hD hS => ?_)
    have hP : va_P D vwCl [(h0, .inr (1, [.ref ra, .int 0, w2, w3])), (b0, .inl (E 0, m, .inl z0)), (ra, .inl (E 0, m + max (q - m) (m + 2), .inl z0))] H := hP
    have hD : va_D A [(h0, .inr (1, [.ref ra, .int 0, w2, w3])), (b0, .inl (E 0, m, .inl z0)), (ra, .inl (E 0, m + max (q - m) (m + 2), .inl z0))] := hD
    have hP := hP.sub (ws' := [(h0, .inr (1, [.ref ra, .int 0, w2, w3])), (ra, .inl (E 0, m + max (q - m) (m + 2), .inl z0))]) [0, 2] rfl
    have hD := hD.sub (ws' := [(h0, .inr (1, [.ref ra, .int 0, w2, w3])), (ra, .inl (E 0, m + max (q - m) (m + 2), .inl z0))]) [0, 2] (by decide) rfl
    exact W.vret hx hb hr (fun t ht hW => ⟨⟨(m + max (q - m) (m + 2), ra), rfl, ⟨by dsimp only; omega, by dsimp only; omega⟩, rf_end ht hP hD⟩, hS.F ht⟩) hS.2.2 dJ5_ensureCapacityInternal_d00df_38
set_option maxHeartbeats 4000000 in
set_option maxRecDepth 100000 in
/-- String.getBytes into zeros -/
theorem c_J0_getBytes_840e7 (l : Launch) (D : va_G) (E : Nat → ClassId) (sz : Nat) (h0 b0 d0 n m j : Nat) (v2 v3 : Value) (hm : m ≤ 1000) (hj : j + n ≤ m) : Met l yJ0_getBytes_840e7 wsJ0_getBytes_840e7 ({ frames := 3, cells := 0, slots := 0, locals := 400 }) (va_Pc [.ref h0, .ref d0, .int (nI j), .int 0] (rf_P D E [(h0, .inr (0, [.ref b0, .int 0, v2, v3])), (b0, .inl (E 0, n, .inl z0)), (d0, .inl (E 0, m, .inl z0))] sz)) (va_Qv (fun (u : Unit) => True) (fun (u : Unit) (t : State) => rf_B D (va_A [(h0, .inr (0, [.ref b0, .int 0, v2, v3])), (b0, .inl (E 0, n, .inl z0)), (d0, .inl (E 0, m, .inl z0))] sz) [(h0, .inr (0, [.ref b0, .int 0, v2, v3])), (b0, .inl (E 0, n, .inl z0)), (d0, .inl (E 0, m, .inl z0))] t) (va_A [(h0, .inr (0, [.ref b0, .int 0, v2, v3])), (b0, .inl (E 0, n, .inl z0)), (d0, .inl (E 0, m, .inl z0))] sz)) 0 0 (va_A [(h0, .inr (0, [.ref b0, .int 0, v2, v3])), (b0, .inl (E 0, n, .inl z0)), (d0, .inl (E 0, m, .inl z0))] sz) := by
  refine Met.ofW (cc := cJ0_getBytes_840e7) (maxL := 4) (ret := none) (by decide) rfl ?_
  intro p e s mI args below meth c s₁ B hml hv
  obtain ⟨rfl, hsz, hP, hK, hD0, hZ, hN⟩ := hv
  have hx := B.exec
  have hb := B.bytes
  have hr := B.returns
  have hts := atoms_spec (ws := wsJ0_getBytes_840e7) B.pre
  have hown : s.vm.findClass RJ0 = some mI.cls := findClass_of_methodNamed B.named
  have hlocks := B.notSynchronized
  subst hsz
  have hD := hD0.self (sz := s.heap.size)
  generalize hAe : va_A [(h0, .inr (0, [.ref b0, .int 0, v2, v3])), (b0, .inl (E 0, n, .inl z0)), (d0, .inl (E 0, m, .inl z0))] s.heap.size = A at hD hZ ⊢
  have hA : ∀ q : Nat, s.heap.size ≤ q → A q := fun q h => by rw [← hAe]; exact Or.inr h
  have hS : va_S A s.heap s.heap [] := va_S.rf
  have hl := lv_entry ([.ref h0, .ref d0, .int (nI j), .int 0]) (n := 4) (Nat.le_of_ble_eq_true rfl)
  rw [lg_entry_eq]
  generalize (lg_sl ([.ref h0, .ref d0, .int (nI j), .int 0]) ++ List.replicate (4 - (lg_sl ([.ref h0, .ref d0, .int (nI j), .int 0])).length) Slot.unset).toArray = ls at hl ⊢
  clear hAe hD0
  have hl : lv_has ls 4 [(0, .ref h0), (1, .ref d0), (2, .int (nI j)), (3, .int 0)] := hl
  obtain ⟨H, hH⟩ : ∃ H, H = s.heap := ⟨_, rfl⟩
  rw [← hH] at hP
  have hS : va_S A s.heap H [] := by rw [hH]; exact hS
  refine rf_heap hH ?_
  refine lv_aload_n hx hb dJ0_getBytes_840e7_0 rfl (lv_at hl 0 rfl) ?_
  have hPc := hP.sub (ws' := [(h0, .inr (0, [.ref b0, .int 0, v2, v3]))]) [0] rfl
  have hDc := hD.sub (ws' := [(h0, .inr (0, [.ref b0, .int 0, v2, v3]))]) [0] (by decide) rfl
  have hFc := va_free (wc := [(h0, .inr (0, [.ref b0, .int 0, v2, v3]))]) hD hS hA [0] rfl
  have h_1 : 0 + 0 ≤ 0 := by omega
  have h_2 : 0 + 0 ≤ 0 := by omega
  refine va_calli (va_runV (As := []) (rest := []) ⟨hx, hb, hml, hown, hts⟩ (c_J0_coder_7d493 l D E H.size (h0) (.ref b0) (v2) (v3)) (cwV 0 hts gJ0_getBytes_840e7_J0_coder_7d493 rfl rfl rfl (by decide +kernel) ⟨Nat.le_of_ble_eq_true rfl, Nat.le_of_ble_eq_true rfl⟩) ⟨rf_blind _, va_recv hK hPc (ci := 0) (q0 := 0) rfl rfl, fun U hU hW => ⟨rfl, rf_pre hK hPc hDc hZ hN hS hFc U hU hW⟩⟩ rfl rfl hl.1 rfl (lv_room (Nat.le_of_ble_eq_true rfl)) dJ0_getBytes_840e7_1 ⟨h_1, h_2⟩) hS (fun q _ h => hFc q h) hFc (fun r u t H1 locs ht hvm hw hB hz1 hk1 hS => ?_)
  obtain ⟨hP1, hD1⟩ := hB
  rw [ht] at hP1
  try dsimp only at hw hP1 hD1
  obtain rfl := hw
  obtain ⟨hP, hD⟩ := va_join (wr := [(b0, .inl (E 0, n, .inl z0)), (d0, .inl (E 0, m, .inl z0))]) (w1 := [(h0, .inr (0, [.ref b0, .int 0, v2, v3]))]) hP hD [0] [1, 2] rfl rfl (by decide) (by decide) hk1 hFc hP1 hD1
  clear hPc hDc hFc hP1 hD1 hk1 hz1 ht
  generalize H1 = H at hP hS ⊢
  have hP : va_P D vwCl [(b0, .inl (E 0, n, .inl z0)), (d0, .inl (E 0, m, .inl z0)), (h0, .inr (0, [.ref b0, .int 0, v2, v3]))] H := hP
  have hD : va_D A [(b0, .inl (E 0, n, .inl z0)), (d0, .inl (E 0, m, .inl z0)), (h0, .inr (0, [.ref b0, .int 0, v2, v3]))] := hD
  refine lv_iload_n hx hb dJ0_getBytes_840e7_4 rfl (lv_at hl 3 rfl) ?_
  refine lv_icmp_ne (tgt := 28) hx hb dJ0_getBytes_840e7_5 rfl (fun h => absurd (by decide) h) (fun _ => ?_)
  refine lv_aload_n hx hb dJ0_getBytes_840e7_8 rfl (lv_at hl 0 rfl) ?_
  refine va_get (D := D) (ci := 0) (v := .ref b0) (C := RJ0) (T := TJ0) (N := 4) hx hb hts (by decide +kernel) hown hK hP 2 rfl rfl 0 (by decide) (hts (.fieldLink RJ0 9 "java/lang/String" "value" "[B") (by decide +kernel)) (fun _ h9 => h9) rfl dJ0_getBytes_840e7_9 ?_
  refine lv_iconst (v := nI 0) hx hb dJ0_getBytes_840e7_12 (by decide) ?_
  refine lv_aload_n hx hb dJ0_getBytes_840e7_13 rfl (lv_at hl 1 rfl) ?_
  refine lv_iload_n hx hb dJ0_getBytes_840e7_14 rfl (lv_at hl 2 rfl) ?_
  refine lv_iload_n hx hb dJ0_getBytes_840e7_15 rfl (lv_at hl 3 rfl) ?_
  refine lv_ishl hx hb dJ0_getBytes_840e7_16 (lv_topi (fun f1 ef => ?_))
  obtain rfl : f1 = nI (j) := (show f1 = nI (j) <<< ((0 : Int32) &&& 31) from ef).trans (sb_shl0 _)
  refine lv_aload_n hx hb dJ0_getBytes_840e7_17 rfl (lv_at hl 0 rfl) ?_
  refine va_get (D := D) (ci := 0) (v := .ref b0) (C := RJ0) (T := TJ0) (N := 4) hx hb hts (by decide +kernel) hown hK hP 2 rfl rfl 0 (by decide) (hts (.fieldLink RJ0 9 "java/lang/String" "value" "[B") (by decide +kernel)) (fun _ h9 => h9) rfl dJ0_getBytes_840e7_18 ?_
  refine va_alen (v := nI (n)) hx hb hK hP 0 0 rfl rfl rfl dJ0_getBytes_840e7_21 ?_
  refine va_copyi hx hb (by rw [hml]; exact hl.1.symm) hown (hts (.methodLink RJ0 212 arraycopyName) (by decide +kernel)) (hts (.native arraycopyName) (by decide +kernel)) (hts (.static arraycopyName) (by decide +kernel)) (hts (.initialized "java/lang/System") (by decide +kernel)) hK hP hD hS 0 1 0 0 rfl rfl rfl rfl rfl (nI_pos (by omega)) (nI_pos (by omega)) (nI_pos (by omega)) (by rw [nI_clamp (n := 0) (by omega), nI_clamp (n := n) (by omega)]; omega) (by rw [nI_clamp (n := j) (by omega), nI_clamp (n := n) (by omega)]; omega) (fun _ _ => rfl) (Nat.le_of_ble_eq_true rfl) (Nat.le_of_ble_eq_true rfl) dJ0_getBytes_840e7_22 (fun H locs hP hD hS => ?_)
  rw [rf_cp] at hP hD
  have hP : va_P D vwCl [(b0, .inl (E 0, n, .inl z0)), (d0, .inl (E 0, m, .inl z0)), (h0, .inr (0, [.ref b0, .int 0, v2, v3]))] H := hP
  have hD : va_D A [(b0, .inl (E 0, n, .inl z0)), (d0, .inl (E 0, m, .inl z0)), (h0, .inr (0, [.ref b0, .int 0, v2, v3]))] := hD
  refine lv_goto (tgt := 43) hx hb dJ0_getBytes_840e7_25 rfl ?_
  have hP := hP.sub (ws' := [(h0, .inr (0, [.ref b0, .int 0, v2, v3])), (b0, .inl (E 0, n, .inl z0)), (d0, .inl (E 0, m, .inl z0))]) [2, 0, 1] rfl
  have hD := hD.sub (ws' := [(h0, .inr (0, [.ref b0, .int 0, v2, v3])), (b0, .inl (E 0, n, .inl z0)), (d0, .inl (E 0, m, .inl z0))]) [2, 0, 1] (by decide) rfl
  exact W.vret hx hb hr (fun t ht hW => ⟨⟨(), rfl, trivial, rf_end ht hP hD⟩, hS.F ht⟩) hS.2.2 dJ0_getBytes_840e7_43
set_option maxHeartbeats 4000000 in
set_option maxRecDepth 100000 in
/-- inflateIfNeededFor: nothing -/
theorem c_J5_inflateIfNeededFor_a7421 (l : Launch) (D : va_G) (E : Nat → ClassId) (sz : Nat) (h0 g0 : Nat) (w0 w2 w3 v0 v2 v3 : Value)  : Met l yJ5_inflateIfNeededFor_a7421 wsJ5_inflateIfNeededFor_a7421 ({ frames := 3, cells := 0, slots := 0, locals := 400 }) (va_Pc [.ref h0, .ref g0] (rf_P D E [(h0, .inr (1, [w0, .int 0, w2, w3])), (g0, .inr (0, [v0, .int 0, v2, v3]))] sz)) (va_Qv (fun (u : Unit) => True) (fun (u : Unit) (t : State) => rf_B D (va_A [(h0, .inr (1, [w0, .int 0, w2, w3])), (g0, .inr (0, [v0, .int 0, v2, v3]))] sz) [(h0, .inr (1, [w0, .int 0, w2, w3])), (g0, .inr (0, [v0, .int 0, v2, v3]))] t) (va_A [(h0, .inr (1, [w0, .int 0, w2, w3])), (g0, .inr (0, [v0, .int 0, v2, v3]))] sz)) 0 0 (va_A [(h0, .inr (1, [w0, .int 0, w2, w3])), (g0, .inr (0, [v0, .int 0, v2, v3]))] sz) := by
  refine Met.ofW (cc := cJ5_inflateIfNeededFor_a7421) (maxL := 2) (ret := none) (by decide) rfl ?_
  intro p e s mI args below meth c s₁ B hml hv
  obtain ⟨rfl, hsz, hP, hK, hD0, hZ, hN⟩ := hv
  have hx := B.exec
  have hb := B.bytes
  have hr := B.returns
  have hts := atoms_spec (ws := wsJ5_inflateIfNeededFor_a7421) B.pre
  have hown : s.vm.findClass RJ5 = some mI.cls := findClass_of_methodNamed B.named
  have hlocks := B.notSynchronized
  subst hsz
  have hD := hD0.self (sz := s.heap.size)
  generalize hAe : va_A [(h0, .inr (1, [w0, .int 0, w2, w3])), (g0, .inr (0, [v0, .int 0, v2, v3]))] s.heap.size = A at hD hZ ⊢
  have hA : ∀ q : Nat, s.heap.size ≤ q → A q := fun q h => by rw [← hAe]; exact Or.inr h
  have hS : va_S A s.heap s.heap [] := va_S.rf
  have hl := lv_entry ([.ref h0, .ref g0]) (n := 2) (Nat.le_of_ble_eq_true rfl)
  rw [lg_entry_eq]
  generalize (lg_sl ([.ref h0, .ref g0]) ++ List.replicate (2 - (lg_sl ([.ref h0, .ref g0])).length) Slot.unset).toArray = ls at hl ⊢
  clear hAe hD0
  have hl : lv_has ls 2 [(0, .ref h0), (1, .ref g0)] := hl
  obtain ⟨H, hH⟩ : ∃ H, H = s.heap := ⟨_, rfl⟩
  rw [← hH] at hP
  have hS : va_S A s.heap H [] := by rw [hH]; exact hS
  refine rf_heap hH ?_
  refine va_gets hx hb hZ hS hown (hts (.fieldLink RJ5 18 "java/lang/String" "COMPACT_STRINGS" "Z") (by decide +kernel)) (fun _ h9 => h9) dJ5_inflateIfNeededFor_a7421_0 ?_
  refine lv_if_eq (tgt := 21) hx hb dJ5_inflateIfNeededFor_a7421_3 rfl (fun h => absurd h (by decide)) (fun _ => ?_)
  refine lv_aload_n hx hb dJ5_inflateIfNeededFor_a7421_6 rfl (lv_at hl 0 rfl) ?_
  refine va_get (D := D) (ci := 1) (v := .int 0) (C := RJ4) (T := TJ4) (N := 4) hx hb hts (by decide +kernel) hown hK hP 0 rfl rfl 1 (by decide) (hts (.fieldLink RJ5 22 "java/lang/AbstractStringBuilder" "coder" "B") (by decide +kernel)) (fun _ h9 => h9) rfl dJ5_inflateIfNeededFor_a7421_7 ?_
  refine lv_aload_n hx hb dJ5_inflateIfNeededFor_a7421_10 rfl (lv_at hl 1 rfl) ?_
  have hPc := hP.sub (ws' := [(g0, .inr (0, [v0, .int 0, v2, v3]))]) [1] rfl
  have hDc := hD.sub (ws' := [(g0, .inr (0, [v0, .int 0, v2, v3]))]) [1] (by decide) rfl
  have hFc := va_free (wc := [(g0, .inr (0, [v0, .int 0, v2, v3]))]) hD hS hA [1] rfl
  have h_1 : 0 + 0 ≤ 0 := by omega
  have h_2 : 0 + 0 ≤ 0 := by omega
  refine va_calli (va_runV (As := []) (rest := [.int 0]) ⟨hx, hb, hml, hown, hts⟩ (c_J0_coder_7d493 l D E H.size (g0) (v0) (v2) (v3)) (cwV 0 hts gJ5_inflateIfNeededFor_a7421_J0_coder_7d493 rfl rfl rfl (by decide +kernel) ⟨Nat.le_of_ble_eq_true rfl, Nat.le_of_ble_eq_true rfl⟩) ⟨rf_blind _, va_recv hK hPc (ci := 0) (q0 := 0) rfl rfl, fun U hU hW => ⟨rfl, rf_pre hK hPc hDc hZ hN hS hFc U hU hW⟩⟩ rfl rfl hl.1 rfl (lv_room (Nat.le_of_ble_eq_true rfl)) dJ5_inflateIfNeededFor_a7421_11 ⟨h_1, h_2⟩) hS (fun q _ h => hFc q h) hFc (fun r u t H1 locs ht hvm hw hB hz1 hk1 hS => ?_)
  obtain ⟨hP1, hD1⟩ := hB
  rw [ht] at hP1
  try dsimp only at hw hP1 hD1
  obtain rfl := hw
  obtain ⟨hP, hD⟩ := va_join (wr := [(h0, .inr (1, [w0, .int 0, w2, w3]))]) (w1 := [(g0, .inr (0, [v0, .int 0, v2, v3]))]) hP hD [1] [0] rfl rfl (by decide) (by decide) hk1 hFc hP1 hD1
  clear hPc hDc hFc hP1 hD1 hk1 hz1 ht
  generalize H1 = H at hP hS ⊢
  have hP : va_P D vwCl [(h0, .inr (1, [w0, .int 0, w2, w3])), (g0, .inr (0, [v0, .int 0, v2, v3]))] H := hP
  have hD : va_D A [(h0, .inr (1, [w0, .int 0, w2, w3])), (g0, .inr (0, [v0, .int 0, v2, v3]))] := hD
  refine lv_icmp_eq (tgt := 21) hx hb dJ5_inflateIfNeededFor_a7421_14 rfl (fun _ => ?_) (fun h => absurd (by decide) h)
  have hP := hP.sub (ws' := [(h0, .inr (1, [w0, .int 0, w2, w3])), (g0, .inr (0, [v0, .int 0, v2, v3]))]) [0, 1] rfl
  have hD := hD.sub (ws' := [(h0, .inr (1, [w0, .int 0, w2, w3])), (g0, .inr (0, [v0, .int 0, v2, v3]))]) [0, 1] (by decide) rfl
  exact W.vret hx hb hr (fun t ht hW => ⟨⟨(), rfl, trivial, rf_end ht hP hD⟩, hS.F ht⟩) hS.2.2 dJ5_inflateIfNeededFor_a7421_21
set_option maxHeartbeats 4000000 in
set_option maxRecDepth 100000 in
/-- putStringAt -/
theorem c_J5_putStringAt_47b60 (l : Launch) (D : va_G) (E : Nat → ClassId) (sz : Nat) (h0 b0 g0 c0 n m j : Nat) (w2 w3 v2 v3 : Value) (hm : m ≤ 1000) (hj : j + n ≤ m) : Met l yJ5_putStringAt_47b60 wsJ5_putStringAt_47b60 ({ frames := 4, cells := 0, slots := 0, locals := 600 }) (va_Pc [.ref h0, .int (nI j), .ref g0] (rf_P D E [(h0, .inr (1, [.ref b0, .int 0, w2, w3])), (b0, .inl (E 0, m, .inl z0)), (g0, .inr (0, [.ref c0, .int 0, v2, v3])), (c0, .inl (E 0, n, .inl z0))] sz)) (va_Qv (fun (u : Unit) => True) (fun (u : Unit) (t : State) => rf_B D (va_A [(h0, .inr (1, [.ref b0, .int 0, w2, w3])), (b0, .inl (E 0, m, .inl z0)), (g0, .inr (0, [.ref c0, .int 0, v2, v3])), (c0, .inl (E 0, n, .inl z0))] sz) [(h0, .inr (1, [.ref b0, .int 0, w2, w3])), (b0, .inl (E 0, m, .inl z0)), (g0, .inr (0, [.ref c0, .int 0, v2, v3])), (c0, .inl (E 0, n, .inl z0))] t) (va_A [(h0, .inr (1, [.ref b0, .int 0, w2, w3])), (b0, .inl (E 0, m, .inl z0)), (g0, .inr (0, [.ref c0, .int 0, v2, v3])), (c0, .inl (E 0, n, .inl z0))] sz)) 0 0 (va_A [(h0, .inr (1, [.ref b0, .int 0, w2, w3])), (b0, .inl (E 0, m, .inl z0)), (g0, .inr (0, [.ref c0, .int 0, v2, v3])), (c0, .inl (E 0, n, .inl z0))] sz) := by
  refine Met.ofW (cc := cJ5_putStringAt_47b60) (maxL := 3) (ret := none) (by decide) rfl ?_
  intro p e s mI args below meth c s₁ B hml hv
  obtain ⟨rfl, hsz, hP, hK, hD0, hZ, hN⟩ := hv
  have hx := B.exec
  have hb := B.bytes
  have hr := B.returns
  have hts := atoms_spec (ws := wsJ5_putStringAt_47b60) B.pre
  have hown : s.vm.findClass RJ5 = some mI.cls := findClass_of_methodNamed B.named
  have hlocks := B.notSynchronized
  subst hsz
  have hD := hD0.self (sz := s.heap.size)
  generalize hAe : va_A [(h0, .inr (1, [.ref b0, .int 0, w2, w3])), (b0, .inl (E 0, m, .inl z0)), (g0, .inr (0, [.ref c0, .int 0, v2, v3])), (c0, .inl (E 0, n, .inl z0))] s.heap.size = A at hD hZ ⊢
  have hA : ∀ q : Nat, s.heap.size ≤ q → A q := fun q h => by rw [← hAe]; exact Or.inr h
  have hS : va_S A s.heap s.heap [] := va_S.rf
  have hl := lv_entry ([.ref h0, .int (nI j), .ref g0]) (n := 3) (Nat.le_of_ble_eq_true rfl)
  rw [lg_entry_eq]
  generalize (lg_sl ([.ref h0, .int (nI j), .ref g0]) ++ List.replicate (3 - (lg_sl ([.ref h0, .int (nI j), .ref g0])).length) Slot.unset).toArray = ls at hl ⊢
  clear hAe hD0
  have hl : lv_has ls 3 [(0, .ref h0), (1, .int (nI j)), (2, .ref g0)] := hl
  obtain ⟨H, hH⟩ : ∃ H, H = s.heap := ⟨_, rfl⟩
  rw [← hH] at hP
  have hS : va_S A s.heap H [] := by rw [hH]; exact hS
  refine rf_heap hH ?_
  refine lv_aload_n hx hb dJ5_putStringAt_47b60_0 rfl (lv_at hl 0 rfl) ?_
  refine lv_aload_n hx hb dJ5_putStringAt_47b60_1 rfl (lv_at hl 2 rfl) ?_
  have hPc := hP.sub (ws' := [(h0, .inr (1, [.ref b0, .int 0, w2, w3])), (g0, .inr (0, [.ref c0, .int 0, v2, v3]))]) [0, 2] rfl
  have hDc := hD.sub (ws' := [(h0, .inr (1, [.ref b0, .int 0, w2, w3])), (g0, .inr (0, [.ref c0, .int 0, v2, v3]))]) [0, 2] (by decide) rfl
  have hFc := va_free (wc := [(h0, .inr (1, [.ref b0, .int 0, w2, w3])), (g0, .inr (0, [.ref c0, .int 0, v2, v3]))]) hD hS hA [0, 2] rfl
  have h_1 : 0 + 0 ≤ 0 := by omega
  have h_2 : 0 + 0 ≤ 0 := by omega
  refine va_callv (va_runU (As := [.ref g0]) (rest := []) ⟨hx, hb, hml, hown, hts⟩ (c_J5_inflateIfNeededFor_a7421 l D E H.size (h0) (g0) (.ref b0) (w2) (w3) (.ref c0) (v2) (v3)) (va_cwU 1 hts gJ5_putStringAt_47b60_J5_inflateIfNeededFor_a7421_u397J4 rfl rfl rfl rfl (by decide +kernel) ⟨Nat.le_of_ble_eq_true rfl, Nat.le_of_ble_eq_true rfl⟩) ⟨rf_blind _, va_recv hK hPc (ci := 1) (q0 := 0) rfl rfl, fun U hU hW => ⟨rfl, rf_pre hK hPc hDc hZ hN hS hFc U hU hW⟩⟩ rfl rfl hl.1 rfl (lv_room (Nat.le_of_ble_eq_true rfl)) dJ5_putStringAt_47b60_2 ⟨h_1, h_2⟩) hS (fun q _ h => hFc q h) hFc (fun u t H1 locs ht hvm hw hB hz1 hk1 hS => ?_)
  obtain ⟨hP1, hD1⟩ := hB
  rw [ht] at hP1
  try dsimp only at hw hP1 hD1
  obtain ⟨hP, hD⟩ := va_join (wr := [(b0, .inl (E 0, m, .inl z0)), (c0, .inl (E 0, n, .inl z0))]) (w1 := [(h0, .inr (1, [.ref b0, .int 0, w2, w3])), (g0, .inr (0, [.ref c0, .int 0, v2, v3]))]) hP hD [0, 2] [1, 3] rfl rfl (by decide) (by decide) hk1 hFc hP1 hD1
  clear hPc hDc hFc hP1 hD1 hk1 hz1 ht
  generalize H1 = H at hP hS ⊢
  have hP : va_P D vwCl [(b0, .inl (E 0, m, .inl z0)), (c0, .inl (E 0, n, .inl z0)), (h0, .inr (1, [.ref b0, .int 0, w2, w3])), (g0, .inr (0, [.ref c0, .int 0, v2, v3]))] H := hP
  have hD : va_D A [(b0, .inl (E 0, m, .inl z0)), (c0, .inl (E 0, n, .inl z0)), (h0, .inr (1, [.ref b0, .int 0, w2, w3])), (g0, .inr (0, [.ref c0, .int 0, v2, v3]))] := hD
  refine lv_aload_n hx hb dJ5_putStringAt_47b60_5 rfl (lv_at hl 2 rfl) ?_
  refine lv_aload_n hx hb dJ5_putStringAt_47b60_6 rfl (lv_at hl 0 rfl) ?_
  refine va_get (D := D) (ci := 1) (v := .ref b0) (C := RJ4) (T := TJ4) (N := 4) hx hb hts (by decide +kernel) hown hK hP 2 rfl rfl 0 (by decide) (hts (.fieldLink RJ5 15 "java/lang/AbstractStringBuilder" "value" "[B") (by decide +kernel)) (fun _ h9 => h9) rfl dJ5_putStringAt_47b60_7 ?_
  refine lv_iload_n hx hb dJ5_putStringAt_47b60_10 rfl (lv_at hl 1 rfl) ?_
  refine lv_aload_n hx hb dJ5_putStringAt_47b60_11 rfl (lv_at hl 0 rfl) ?_
  refine va_get (D := D) (ci := 1) (v := .int 0) (C := RJ4) (T := TJ4) (N := 4) hx hb hts (by decide +kernel) hown hK hP 2 rfl rfl 1 (by decide) (hts (.fieldLink RJ5 22 "java/lang/AbstractStringBuilder" "coder" "B") (by decide +kernel)) (fun _ h9 => h9) rfl dJ5_putStringAt_47b60_12 ?_
  have hPc := hP.sub (ws' := [(g0, .inr (0, [.ref c0, .int 0, v2, v3])), (c0, .inl (E 0, n, .inl z0)), (b0, .inl (E 0, m, .inl z0))]) [3, 1, 0] rfl
  have hDc := hD.sub (ws' := [(g0, .inr (0, [.ref c0, .int 0, v2, v3])), (c0, .inl (E 0, n, .inl z0)), (b0, .inl (E 0, m, .inl z0))]) [3, 1, 0] (by decide) rfl
  have hFc := va_free (wc := [(g0, .inr (0, [.ref c0, .int 0, v2, v3])), (c0, .inl (E 0, n, .inl z0)), (b0, .inl (E 0, m, .inl z0))]) hD hS hA [3, 1, 0] rfl
  have h_1 : 0 + 0 ≤ 0 := by omega
  have h_2 : 0 + 0 ≤ 0 := by omega
  refine va_callv (va_runV (As := [.ref b0, .int (nI j), .int 0]) (rest := []) ⟨hx, hb, hml, hown, hts⟩ (c_J0_getBytes_840e7 l D E H.size (g0) (c0) (b0) (n) (m) (j) (v2) (v3) (by omega) (by omega)) (cwV 3 hts gJ5_putStringAt_47b60_J0_getBytes_840e7 rfl rfl rfl (by decide +kernel) ⟨Nat.le_of_ble_eq_true rfl, Nat.le_of_ble_eq_true rfl⟩) ⟨rf_blind _, va_recv hK hPc (ci := 0) (q0 := 0) rfl rfl, fun U hU hW => ⟨rfl, rf_pre hK hPc hDc hZ hN hS hFc U hU hW⟩⟩ rfl rfl hl.1 rfl (lv_room (Nat.le_of_ble_eq_true rfl)) dJ5_putStringAt_47b60_15 ⟨h_1, h_2⟩) hS (fun q _ h => hFc q h) hFc (fun u t H1 locs ht hvm hw hB hz1 hk1 hS => ?_)
  obtain ⟨hP1, hD1⟩ := hB
  rw [ht] at hP1
  try dsimp only at hw hP1 hD1
  obtain ⟨hP, hD⟩ := va_join (wr := [(h0, .inr (1, [.ref b0, .int 0, w2, w3]))]) (w1 := [(g0, .inr (0, [.ref c0, .int 0, v2, v3])), (c0, .inl (E 0, n, .inl z0)), (b0, .inl (E 0, m, .inl z0))]) hP hD [3, 1, 0] [2] rfl rfl (by decide) (by decide) hk1 hFc hP1 hD1
  clear hPc hDc hFc hP1 hD1 hk1 hz1 ht
  generalize H1 = H at hP hS ⊢
  have hP : va_P D vwCl [(h0, .inr (1, [.ref b0, .int 0, w2, w3])), (g0, .inr (0, [.ref c0, .int 0, v2, v3])), (c0, .inl (E 0, n, .inl z0)), (b0, .inl (E 0, m, .inl z0))] H := hP
  have hD : va_D A [(h0, .inr (1, [.ref b0, .int 0, w2, w3])), (g0, .inr (0, [.ref c0, .int 0, v2, v3])), (c0, .inl (E 0, n, .inl z0)), (b0, .inl (E 0, m, .inl z0))] := hD
  have hP := hP.sub (ws' := [(h0, .inr (1, [.ref b0, .int 0, w2, w3])), (b0, .inl (E 0, m, .inl z0)), (g0, .inr (0, [.ref c0, .int 0, v2, v3])), (c0, .inl (E 0, n, .inl z0))]) [0, 3, 1, 2] rfl
  have hD := hD.sub (ws' := [(h0, .inr (1, [.ref b0, .int 0, w2, w3])), (b0, .inl (E 0, m, .inl z0)), (g0, .inr (0, [.ref c0, .int 0, v2, v3])), (c0, .inl (E 0, n, .inl z0))]) [0, 3, 1, 2] (by decide) rfl
  exact W.vret hx hb hr (fun t ht hW => ⟨⟨(), rfl, trivial, rf_end ht hP hD⟩, hS.F ht⟩) hS.2.2 dJ5_putStringAt_47b60_18
set_option maxHeartbeats 4000000 in
set_option maxRecDepth 100000 in
/-- append(String) to an empty builder -/
theorem c_J5_append_cf1ce (l : Launch) (D : va_G) (E : Nat → ClassId) (sz : Nat) (h0 b0 g0 c0 n m : Nat) (w2 v2 v3 : Value) (hm : m ≤ 16) (hn : n ≤ 200) : Met l yJ5_append_cf1ce wsJ5_append_cf1ce ({ frames := 6, cells := 1, slots := 1000, locals := 1000 }) (va_Pc [.ref h0, .ref g0] (rf_P D E [(h0, .inr (1, [.ref b0, .int 0, w2, .int (nI (0))])), (b0, .inl (E 0, m, .inl z0)), (g0, .inr (0, [.ref c0, .int 0, v2, v3])), (c0, .inl (E 0, n, .inl z0))] sz)) (va_Qr (fun (u : Nat × Nat) => n ≤ u.1 ∧ u.1 ≤ 2 * m + 2 + n) (fun (u : Nat × Nat) (ra : Nat) (t : State) => ra = h0 ∧ rf_B D (va_A [(h0, .inr (1, [.ref b0, .int 0, w2, .int (nI (0))])), (b0, .inl (E 0, m, .inl z0)), (g0, .inr (0, [.ref c0, .int 0, v2, v3])), (c0, .inl (E 0, n, .inl z0))] sz) [(h0, .inr (1, [.ref u.2, .int 0, w2, .int (nI n)])), (u.2, .inl (E 0, u.1, .inl z0)), (g0, .inr (0, [.ref c0, .int 0, v2, v3])), (c0, .inl (E 0, n, .inl z0))] t) (va_A [(h0, .inr (1, [.ref b0, .int 0, w2, .int (nI (0))])), (b0, .inl (E 0, m, .inl z0)), (g0, .inr (0, [.ref c0, .int 0, v2, v3])), (c0, .inl (E 0, n, .inl z0))] sz)) 1 1000 (va_A [(h0, .inr (1, [.ref b0, .int 0, w2, .int (nI (0))])), (b0, .inl (E 0, m, .inl z0)), (g0, .inr (0, [.ref c0, .int 0, v2, v3])), (c0, .inl (E 0, n, .inl z0))] sz) := by
  refine Met.ofW (cc := cJ5_append_cf1ce) (maxL := 3) (ret := (some (.object "java/lang/AbstractStringBuilder"))) (by decide) rfl ?_
  intro p e s mI args below meth c s₁ B hml hv
  obtain ⟨rfl, hsz, hP, hK, hD0, hZ, hN⟩ := hv
  have hx := B.exec
  have hb := B.bytes
  have hr := B.returns
  have hts := atoms_spec (ws := wsJ5_append_cf1ce) B.pre
  have hown : s.vm.findClass RJ5 = some mI.cls := findClass_of_methodNamed B.named
  have hlocks := B.notSynchronized
  subst hsz
  have hD := hD0.self (sz := s.heap.size)
  generalize hAe : va_A [(h0, .inr (1, [.ref b0, .int 0, w2, .int (nI (0))])), (b0, .inl (E 0, m, .inl z0)), (g0, .inr (0, [.ref c0, .int 0, v2, v3])), (c0, .inl (E 0, n, .inl z0))] s.heap.size = A at hD hZ ⊢
  have hA : ∀ q : Nat, s.heap.size ≤ q → A q := fun q h => by rw [← hAe]; exact Or.inr h
  have hS : va_S A s.heap s.heap [] := va_S.rf
  have hl := lv_entry ([.ref h0, .ref g0]) (n := 3) (Nat.le_of_ble_eq_true rfl)
  rw [lg_entry_eq]
  generalize (lg_sl ([.ref h0, .ref g0]) ++ List.replicate (3 - (lg_sl ([.ref h0, .ref g0])).length) Slot.unset).toArray = ls at hl ⊢
  clear hAe hD0
  have hl : lv_has ls 3 [(0, .ref h0), (1, .ref g0)] := hl
  obtain ⟨H, hH⟩ : ∃ H, H = s.heap := ⟨_, rfl⟩
  rw [← hH] at hP
  have hS : va_S A s.heap H [] := by rw [hH]; exact hS
  refine rf_heap hH ?_
  refine lv_aload_n hx hb dJ5_append_cf1ce_0 rfl (lv_at hl 1 rfl) ?_
  refine lv_ifnonnull (tgt := 9) hx hb dJ5_append_cf1ce_1 rfl ?_
  refine lv_aload_n hx hb dJ5_append_cf1ce_9 rfl (lv_at hl 1 rfl) ?_
  have hPc := hP.sub (ws' := [(g0, .inr (0, [.ref c0, .int 0, v2, v3])), (c0, .inl (E 0, n, .inl z0))]) [2, 3] rfl
  have hDc := hD.sub (ws' := [(g0, .inr (0, [.ref c0, .int 0, v2, v3])), (c0, .inl (E 0, n, .inl z0))]) [2, 3] (by decide) rfl
  have hFc := va_free (wc := [(g0, .inr (0, [.ref c0, .int 0, v2, v3])), (c0, .inl (E 0, n, .inl z0))]) hD hS hA [2, 3] rfl
  have h_1 : 0 + 0 ≤ 1 := by omega
  have h_2 : 0 + 0 ≤ 1000 := by omega
  refine va_calli (va_runV (As := []) (rest := []) ⟨hx, hb, hml, hown, hts⟩ (c_J0_length_8abf5 l D E H.size (g0) (c0) (n) (v2) (v3) (by omega)) (cwV 0 hts gJ5_append_cf1ce_J0_length_8abf5 rfl rfl rfl (by decide +kernel) ⟨Nat.le_of_ble_eq_true rfl, Nat.le_of_ble_eq_true rfl⟩) ⟨rf_blind _, va_recv hK hPc (ci := 0) (q0 := 0) rfl rfl, fun U hU hW => ⟨rfl, rf_pre hK hPc hDc hZ hN hS hFc U hU hW⟩⟩ rfl rfl hl.1 rfl (lv_room (Nat.le_of_ble_eq_true rfl)) dJ5_append_cf1ce_10 ⟨h_1, h_2⟩) hS (fun q _ h => hFc q h) hFc (fun r u t H1 locs ht hvm hw hB hz1 hk1 hS => ?_)
  obtain ⟨hP1, hD1⟩ := hB
  rw [ht] at hP1
  try dsimp only at hw hP1 hD1
  obtain rfl := hw
  obtain ⟨hP, hD⟩ := va_join (wr := [(h0, .inr (1, [.ref b0, .int 0, w2, .int (nI (0))])), (b0, .inl (E 0, m, .inl z0))]) (w1 := [(g0, .inr (0, [.ref c0, .int 0, v2, v3])), (c0, .inl (E 0, n, .inl z0))]) hP hD [2, 3] [0, 1] rfl rfl (by decide) (by decide) hk1 hFc hP1 hD1
  clear hPc hDc hFc hP1 hD1 hk1 hz1 ht
  generalize H1 = H at hP hS ⊢
  have hP : va_P D vwCl [(h0, .inr (1, [.ref b0, .int 0, w2, .int (nI (0))])), (b0, .inl (E 0, m, .inl z0)), (g0, .inr (0, [.ref c0, .int 0, v2, v3])), (c0, .inl (E 0, n, .inl z0))] H := hP
  have hD : va_D A [(h0, .inr (1, [.ref b0, .int 0, w2, .int (nI (0))])), (b0, .inl (E 0, m, .inl z0)), (g0, .inr (0, [.ref c0, .int 0, v2, v3])), (c0, .inl (E 0, n, .inl z0))] := hD
  refine lv_istore_n hx hb dJ5_append_cf1ce_13 rfl hl (Nat.le_of_ble_eq_true rfl) rfl (fun ls hl => ?_)
  have hl : lv_has ls 3 [(2, .int (nI (n))), (0, .ref h0), (1, .ref g0)] := hl
  refine lv_aload_n hx hb dJ5_append_cf1ce_14 rfl (lv_at hl 1 rfl) ?_
  refine lv_aload_n hx hb dJ5_append_cf1ce_15 rfl (lv_at hl 1 rfl) ?_
  refine va_get (D := D) (ci := 1) (v := .int (nI (0))) (C := RJ4) (T := TJ4) (N := 4) hx hb hts (by decide +kernel) hown hK hP 0 rfl rfl 3 (by decide) (hts (.fieldLink RJ5 79 "java/lang/AbstractStringBuilder" "count" "I") (by decide +kernel)) (fun _ h9 => h9) rfl dJ5_append_cf1ce_16 ?_
  refine lv_iload_n hx hb dJ5_append_cf1ce_19 rfl (lv_at hl 0 rfl) ?_
  refine lv_iadd hx hb dJ5_append_cf1ce_20 (lv_topi (fun f1 ef => ?_))
  obtain rfl : f1 = nI (n) := (show f1 = nI (0) + nI (n) from ef).trans ((nI_add _ _).trans (congrArg nI (by omega)))
  have hPc := hP.sub (ws' := [(h0, .inr (1, [.ref b0, .int 0, w2, .int (nI (0))])), (b0, .inl (E 0, m, .inl z0))]) [0, 1] rfl
  have hDc := hD.sub (ws' := [(h0, .inr (1, [.ref b0, .int 0, w2, .int (nI (0))])), (b0, .inl (E 0, m, .inl z0))]) [0, 1] (by decide) rfl
  have hFc := va_free (wc := [(h0, .inr (1, [.ref b0, .int 0, w2, .int (nI (0))])), (b0, .inl (E 0, m, .inl z0))]) hD hS hA [0, 1] rfl
  have h_1 : 0 + 1 ≤ 1 := by omega
  have h_2 : 0 + 1000 ≤ 1000 := by omega
  refine va_callv (va_runU (As := [.int (nI (n))]) (rest := []) ⟨hx, hb, hml, hown, hts⟩ (c_J5_ensureCapacityInternal_d00df l D E H.size (h0) (b0) (m) (n) (w2) (.int (nI 0)) (by omega) (by omega)) (va_cwU 1 hts gJ5_append_cf1ce_J5_ensureCapacityInternal_d00df_u100J4 rfl rfl rfl rfl (by decide +kernel) ⟨Nat.le_of_ble_eq_true rfl, Nat.le_of_ble_eq_true rfl⟩) ⟨rf_blind _, va_recv hK hPc (ci := 1) (q0 := 0) rfl rfl, fun U hU hW => ⟨rfl, rf_pre hK hPc hDc hZ hN hS hFc U hU hW⟩⟩ rfl rfl hl.1 rfl (lv_room (Nat.le_of_ble_eq_true rfl)) dJ5_append_cf1ce_21 ⟨h_1, h_2⟩) hS (fun q _ h => hFc q h) hFc (fun u t H1 locs ht hvm hw hB hz1 hk1 hS => ?_)
  obtain ⟨m2, b2⟩ := u
  obtain ⟨hP1, hD1⟩ := hB
  rw [ht] at hP1
  try dsimp only at hw hP1 hD1
  obtain ⟨hw1, hw2⟩ := hw
  obtain ⟨hP, hD⟩ := va_join (wr := [(g0, .inr (0, [.ref c0, .int 0, v2, v3])), (c0, .inl (E 0, n, .inl z0))]) (w1 := [(h0, .inr (1, [.ref b2, .int 0, w2, .int (nI (0))])), (b2, .inl (E 0, m2, .inl z0))]) hP hD [0, 1] [2, 3] rfl rfl (by decide) (by decide) hk1 hFc hP1 hD1
  clear hPc hDc hFc hP1 hD1 hk1 hz1 ht
  generalize H1 = H at hP hS ⊢
  have hP : va_P D vwCl [(g0, .inr (0, [.ref c0, .int 0, v2, v3])), (c0, .inl (E 0, n, .inl z0)), (h0, .inr (1, [.ref b2, .int 0, w2, .int (nI (0))])), (b2, .inl (E 0, m2, .inl z0))] H := hP
  have hD : va_D A [(g0, .inr (0, [.ref c0, .int 0, v2, v3])), (c0, .inl (E 0, n, .inl z0)), (h0, .inr (1, [.ref b2, .int 0, w2, .int (nI (0))])), (b2, .inl (E 0, m2, .inl z0))] := hD
  refine W.widen (k := 1) (n := 1000) (by omega) (by omega) ?_
  refine lv_aload_n hx hb dJ5_append_cf1ce_24 rfl (lv_at hl 1 rfl) ?_
  refine lv_aload_n hx hb dJ5_append_cf1ce_25 rfl (lv_at hl 1 rfl) ?_
  refine va_get (D := D) (ci := 1) (v := .int (nI (0))) (C := RJ4) (T := TJ4) (N := 4) hx hb hts (by decide +kernel) hown hK hP 2 rfl rfl 3 (by decide) (hts (.fieldLink RJ5 79 "java/lang/AbstractStringBuilder" "count" "I") (by decide +kernel)) (fun _ h9 => h9) rfl dJ5_append_cf1ce_26 ?_
  refine lv_aload_n hx hb dJ5_append_cf1ce_29 rfl (lv_at hl 2 rfl) ?_
  have hPc := hP.sub (ws' := [(h0, .inr (1, [.ref b2, .int 0, w2, .int (nI (0))])), (b2, .inl (E 0, m2, .inl z0)), (g0, .inr (0, [.ref c0, .int 0, v2, v3])), (c0, .inl (E 0, n, .inl z0))]) [2, 3, 0, 1] rfl
  have hDc := hD.sub (ws' := [(h0, .inr (1, [.ref b2, .int 0, w2, .int (nI (0))])), (b2, .inl (E 0, m2, .inl z0)), (g0, .inr (0, [.ref c0, .int 0, v2, v3])), (c0, .inl (E 0, n, .inl z0))]) [2, 3, 0, 1] (by decide) rfl
  have hFc := va_free (wc := [(h0, .inr (1, [.ref b2, .int 0, w2, .int (nI (0))])), (b2, .inl (E 0, m2, .inl z0)), (g0, .inr (0, [.ref c0, .int 0, v2, v3])), (c0, .inl (E 0, n, .inl z0))]) hD hS hA [2, 3, 0, 1] rfl
  have h_1 : 1 + 0 ≤ 1 := by omega
  have h_2 : 1000 + 0 ≤ 1000 := by omega
  refine va_callv (va_runU (As := [.int (nI (0)), .ref g0]) (rest := []) ⟨hx, hb, hml, hown, hts⟩ (c_J5_putStringAt_47b60 l D E H.size (h0) (b2) (g0) (c0) (n) (m2) (0) (w2) (.int (nI 0)) (v2) (v3) (by omega) (by omega)) (va_cwU 2 hts gJ5_append_cf1ce_J5_putStringAt_47b60_u208J4 rfl rfl rfl rfl (by decide +kernel) ⟨Nat.le_of_ble_eq_true rfl, Nat.le_of_ble_eq_true rfl⟩) ⟨rf_blind _, va_recv hK hPc (ci := 1) (q0 := 0) rfl rfl, fun U hU hW => ⟨rfl, rf_pre hK hPc hDc hZ hN hS hFc U hU hW⟩⟩ rfl rfl hl.1 rfl (lv_room (Nat.le_of_ble_eq_true rfl)) dJ5_append_cf1ce_30 ⟨h_1, h_2⟩) hS (fun q _ h => hFc q h) hFc (fun u t H1 locs ht hvm hw hB hz1 hk1 hS => ?_)
  obtain ⟨hP1, hD1⟩ := hB
  rw [ht] at hP1
  try dsimp only at hw hP1 hD1
  obtain ⟨hP, hD⟩ := va_join (wr := []) (w1 := [(h0, .inr (1, [.ref b2, .int 0, w2, .int (nI (0))])), (b2, .inl (E 0, m2, .inl z0)), (g0, .inr (0, [.ref c0, .int 0, v2, v3])), (c0, .inl (E 0, n, .inl z0))]) hP hD [2, 3, 0, 1] [] rfl rfl (by decide) (by decide) hk1 hFc hP1 hD1
  clear hPc hDc hFc hP1 hD1 hk1 hz1 ht
  generalize H1 = H at hP hS ⊢
  have hP : va_P D vwCl [(h0, .inr (1, [.ref b2, .int 0, w2, .int (nI (0))])), (b2, .inl (E 0, m2, .inl z0)), (g0, .inr (0, [.ref c0, .int 0, v2, v3])), (c0, .inl (E 0, n, .inl z0))] H := hP
  have hD : va_D A [(h0, .inr (1, [.ref b2, .int 0, w2, .int (nI (0))])), (b2, .inl (E 0, m2, .inl z0)), (g0, .inr (0, [.ref c0, .int 0, v2, v3])), (c0, .inl (E 0, n, .inl z0))] := hD
  refine lv_aload_n hx hb dJ5_append_cf1ce_33 rfl (lv_at hl 1 rfl) ?_
  refine lv_dup hx hb dJ5_append_cf1ce_34 rfl ?_
  refine va_get (D := D) (ci := 1) (v := .int (nI (0))) (C := RJ4) (T := TJ4) (N := 4) hx hb hts (by decide +kernel) hown hK hP 0 rfl rfl 3 (by decide) (hts (.fieldLink RJ5 79 "java/lang/AbstractStringBuilder" "count" "I") (by decide +kernel)) (fun _ h9 => h9) rfl dJ5_append_cf1ce_35 ?_
  refine lv_iload_n hx hb dJ5_append_cf1ce_38 rfl (lv_at hl 0 rfl) ?_
  refine lv_iadd hx hb dJ5_append_cf1ce_39 (lv_topi (fun f2 ef => ?_))
  obtain rfl : f2 = nI (n) := (show f2 = nI (0) + nI (n) from ef).trans ((nI_add _ _).trans (congrArg nI (by omega)))
  refine va_put (D := D) (ci := 1) (v := .int (nI (n))) (ty := .int) (C := RJ4) (T := TJ4) (N := 4) hx hb hts (by decide +kernel) tyJ4 tyJ4_ok nmJ4 hown hK hP hD hS 0 rfl rfl 3 (by decide) (hts (.fieldLink RJ5 79 "java/lang/AbstractStringBuilder" "count" "I") (by decide +kernel)) (fun _ h9 => h9) rfl (by decide +kernel) rfl rfl (Nat.le_of_ble_eq_true rfl) dJ5_append_cf1ce_40 (fun H locs hP hD hS => ?_)
  have hP : va_P D vwCl [(h0, .inr (1, [.ref b2, .int 0, w2, .int (nI (n))])), (b2, .inl (E 0, m2, .inl z0)), (g0, .inr (0, [.ref c0, .int 0, v2, v3])), (c0, .inl (E 0, n, .inl z0))] H := hP
  have hD : va_D A [(h0, .inr (1, [.ref b2, .int 0, w2, .int (nI (n))])), (b2, .inl (E 0, m2, .inl z0)), (g0, .inr (0, [.ref c0, .int 0, v2, v3])), (c0, .inl (E 0, n, .inl z0))] := hD
  refine lv_aload_n hx hb dJ5_append_cf1ce_43 rfl (lv_at hl 1 rfl) ?_
  have hP := hP.sub (ws' := [(h0, .inr (1, [.ref b2, .int 0, w2, .int (nI (n))])), (b2, .inl (E 0, m2, .inl z0)), (g0, .inr (0, [.ref c0, .int 0, v2, v3])), (c0, .inl (E 0, n, .inl z0))]) [0, 1, 2, 3] rfl
  have hD := hD.sub (ws' := [(h0, .inr (1, [.ref b2, .int 0, w2, .int (nI (n))])), (b2, .inl (E 0, m2, .inl z0)), (g0, .inr (0, [.ref c0, .int 0, v2, v3])), (c0, .inl (E 0, n, .inl z0))]) [0, 1, 2, 3] (by decide) rfl
  exact W.aret (v := .ref h0) hx hb hr (Or.inl ⟨_, rfl⟩) (Or.inr ⟨_, rfl⟩) (fun t ht hW => ⟨⟨(m2, b2), h0, rfl, ⟨hw1, hw2⟩, ⟨rfl, rf_end ht hP hD⟩⟩, hS.F ht⟩) hS.2.2 dJ5_append_cf1ce_44
set_option maxHeartbeats 4000000 in
set_option maxRecDepth 100000 in
/-- StringBuilder.append(String) to an empty builder -/
theorem c_J4_append_15ec4 (l : Launch) (D : va_G) (E : Nat → ClassId) (sz : Nat) (h0 b0 g0 c0 n m : Nat) (w2 v2 v3 : Value) (hm : m ≤ 16) (hn : n ≤ 200) : Met l yJ4_append_15ec4 wsJ4_append_15ec4 ({ frames := 7, cells := 1, slots := 1000, locals := 1200 }) (va_Pc [.ref h0, .ref g0] (rf_P D E [(h0, .inr (1, [.ref b0, .int 0, w2, .int (nI (0))])), (b0, .inl (E 0, m, .inl z0)), (g0, .inr (0, [.ref c0, .int 0, v2, v3])), (c0, .inl (E 0, n, .inl z0))] sz)) (va_Qr (fun (u : Nat × Nat) => n ≤ u.1 ∧ u.1 ≤ 2 * m + 2 + n) (fun (u : Nat × Nat) (ra : Nat) (t : State) => ra = h0 ∧ rf_B D (va_A [(h0, .inr (1, [.ref b0, .int 0, w2, .int (nI (0))])), (b0, .inl (E 0, m, .inl z0)), (g0, .inr (0, [.ref c0, .int 0, v2, v3])), (c0, .inl (E 0, n, .inl z0))] sz) [(h0, .inr (1, [.ref u.2, .int 0, w2, .int (nI n)])), (u.2, .inl (E 0, u.1, .inl z0)), (g0, .inr (0, [.ref c0, .int 0, v2, v3])), (c0, .inl (E 0, n, .inl z0))] t) (va_A [(h0, .inr (1, [.ref b0, .int 0, w2, .int (nI (0))])), (b0, .inl (E 0, m, .inl z0)), (g0, .inr (0, [.ref c0, .int 0, v2, v3])), (c0, .inl (E 0, n, .inl z0))] sz)) 1 1000 (va_A [(h0, .inr (1, [.ref b0, .int 0, w2, .int (nI (0))])), (b0, .inl (E 0, m, .inl z0)), (g0, .inr (0, [.ref c0, .int 0, v2, v3])), (c0, .inl (E 0, n, .inl z0))] sz) := by
  refine Met.ofW (cc := cJ4_append_15ec4) (maxL := 2) (ret := (some (.object "java/lang/StringBuilder"))) (by decide) rfl ?_
  intro p e s mI args below meth c s₁ B hml hv
  obtain ⟨rfl, hsz, hP, hK, hD0, hZ, hN⟩ := hv
  have hx := B.exec
  have hb := B.bytes
  have hr := B.returns
  have hts := atoms_spec (ws := wsJ4_append_15ec4) B.pre
  have hown : s.vm.findClass RJ4 = some mI.cls := findClass_of_methodNamed B.named
  have hlocks := B.notSynchronized
  subst hsz
  have hD := hD0.self (sz := s.heap.size)
  generalize hAe : va_A [(h0, .inr (1, [.ref b0, .int 0, w2, .int (nI (0))])), (b0, .inl (E 0, m, .inl z0)), (g0, .inr (0, [.ref c0, .int 0, v2, v3])), (c0, .inl (E 0, n, .inl z0))] s.heap.size = A at hD hZ ⊢
  have hA : ∀ q : Nat, s.heap.size ≤ q → A q := fun q h => by rw [← hAe]; exact Or.inr h
  have hS : va_S A s.heap s.heap [] := va_S.rf
  have hl := lv_entry ([.ref h0, .ref g0]) (n := 2) (Nat.le_of_ble_eq_true rfl)
  rw [lg_entry_eq]
  generalize (lg_sl ([.ref h0, .ref g0]) ++ List.replicate (2 - (lg_sl ([.ref h0, .ref g0])).length) Slot.unset).toArray = ls at hl ⊢
  clear hAe hD0
  have hl : lv_has ls 2 [(0, .ref h0), (1, .ref g0)] := hl
  obtain ⟨H, hH⟩ : ∃ H, H = s.heap := ⟨_, rfl⟩
  rw [← hH] at hP
  have hS : va_S A s.heap H [] := by rw [hH]; exact hS
  refine rf_heap hH ?_
  refine lv_aload_n hx hb dJ4_append_15ec4_0 rfl (lv_at hl 0 rfl) ?_
  refine lv_aload_n hx hb dJ4_append_15ec4_1 rfl (lv_at hl 1 rfl) ?_
  have hPc := hP.sub (ws' := [(h0, .inr (1, [.ref b0, .int 0, w2, .int (nI (0))])), (b0, .inl (E 0, m, .inl z0)), (g0, .inr (0, [.ref c0, .int 0, v2, v3])), (c0, .inl (E 0, n, .inl z0))]) [0, 1, 2, 3] rfl
  have hDc := hD.sub (ws' := [(h0, .inr (1, [.ref b0, .int 0, w2, .int (nI (0))])), (b0, .inl (E 0, m, .inl z0)), (g0, .inr (0, [.ref c0, .int 0, v2, v3])), (c0, .inl (E 0, n, .inl z0))]) [0, 1, 2, 3] (by decide) rfl
  have hFc := va_free (wc := [(h0, .inr (1, [.ref b0, .int 0, w2, .int (nI (0))])), (b0, .inl (E 0, m, .inl z0)), (g0, .inr (0, [.ref c0, .int 0, v2, v3])), (c0, .inl (E 0, n, .inl z0))]) hD hS hA [0, 1, 2, 3] rfl
  have h_1 : 0 + 1 ≤ 1 := by omega
  have h_2 : 0 + 1000 ≤ 1000 := by omega
  refine va_callr (va_runSU (As := [.ref g0]) (rest := []) (hK.1 1 _ rfl).2 ⟨hx, hb, hml, hown, hts⟩ (c_J5_append_cf1ce l D E H.size (h0) (b0) (g0) (c0) (n) (m) (w2) (v2) (v3) (by omega) (by omega)) (va_cwSU 1 hts gJ4_append_15ec4_J5_append_cf1ce_s29 rfl rfl rfl (by decide +kernel) ⟨Nat.le_of_ble_eq_true rfl, Nat.le_of_ble_eq_true rfl⟩) ⟨rf_blind _, va_recv hK hPc (ci := 1) (q0 := 0) rfl rfl, fun U hU hW => ⟨rfl, rf_pre hK hPc hDc hZ hN hS hFc U hU hW⟩⟩ rfl rfl hl.1 rfl (lv_room (Nat.le_of_ble_eq_true rfl)) dJ4_append_15ec4_2 ⟨h_1, h_2⟩) hS (fun q _ h => hFc q h) hFc (fun u ra t H1 locs ht hvm hw hB hz1 hk1 hS => ?_)
  obtain ⟨m2, b2⟩ := u
  obtain ⟨hra, hP1, hD1⟩ := hB
  try dsimp only at hra
  subst ra
  rw [ht] at hP1
  try dsimp only at hw hP1 hD1
  obtain ⟨hw1, hw2⟩ := hw
  obtain ⟨hP, hD⟩ := va_join (wr := []) (w1 := [(h0, .inr (1, [.ref b2, .int 0, w2, .int (nI (n))])), (b2, .inl (E 0, m2, .inl z0)), (g0, .inr (0, [.ref c0, .int 0, v2, v3])), (c0, .inl (E 0, n, .inl z0))]) hP hD [0, 1, 2, 3] [] rfl rfl (by decide) (by decide) hk1 hFc hP1 hD1
  clear hPc hDc hFc hP1 hD1 hk1 hz1 ht
  generalize H1 = H at hP hS ⊢
  have hP : va_P D vwCl [(h0, .inr (1, [.ref b2, .int 0, w2, .int (nI (n))])), (b2, .inl (E 0, m2, .inl z0)), (g0, .inr (0, [.ref c0, .int 0, v2, v3])), (c0, .inl (E 0, n, .inl z0))] H := hP
  have hD : va_D A [(h0, .inr (1, [.ref b2, .int 0, w2, .int (nI (n))])), (b2, .inl (E 0, m2, .inl z0)), (g0, .inr (0, [.ref c0, .int 0, v2, v3])), (c0, .inl (E 0, n, .inl z0))] := hD
  refine W.widen (k := 1) (n := 1000) (by omega) (by omega) ?_
  refine lv_pop hx hb dJ4_append_15ec4_5 rfl ?_
  refine lv_aload_n hx hb dJ4_append_15ec4_6 rfl (lv_at hl 0 rfl) ?_
  have hP := hP.sub (ws' := [(h0, .inr (1, [.ref b2, .int 0, w2, .int (nI (n))])), (b2, .inl (E 0, m2, .inl z0)), (g0, .inr (0, [.ref c0, .int 0, v2, v3])), (c0, .inl (E 0, n, .inl z0))]) [0, 1, 2, 3] rfl
  have hD := hD.sub (ws' := [(h0, .inr (1, [.ref b2, .int 0, w2, .int (nI (n))])), (b2, .inl (E 0, m2, .inl z0)), (g0, .inr (0, [.ref c0, .int 0, v2, v3])), (c0, .inl (E 0, n, .inl z0))]) [0, 1, 2, 3] (by decide) rfl
  exact W.aret (v := .ref h0) hx hb hr (Or.inl ⟨_, rfl⟩) (Or.inr ⟨_, rfl⟩) (fun t ht hW => ⟨⟨(m2, b2), h0, rfl, ⟨hw1, hw2⟩, ⟨rfl, rf_end ht hP hD⟩⟩, hS.F ht⟩) hS.2.2 dJ4_append_15ec4_7
set_option maxHeartbeats 4000000 in
set_option maxRecDepth 100000 in
/-- append(char 0) -/
theorem c_J5_append_3fe6f (l : Launch) (D : va_G) (E : Nat → ClassId) (sz : Nat) (h0 b0 k m : Nat) (w2 : Value) (hm : m ≤ 300) (hk : k ≤ 200) : Met l yJ5_append_3fe6f wsJ5_append_3fe6f ({ frames := 5, cells := 1, slots := 1000, locals := 800 }) (va_Pc [.ref h0, .int 0] (rf_P D E [(h0, .inr (1, [.ref b0, .int 0, w2, .int (nI (k))])), (b0, .inl (E 0, m, .inl z0))] sz)) (va_Qr (fun (u : Nat × Nat) => k + 1 ≤ u.1 ∧ u.1 ≤ 2 * m + 3 + k) (fun (u : Nat × Nat) (ra : Nat) (t : State) => ra = h0 ∧ rf_B D (va_A [(h0, .inr (1, [.ref b0, .int 0, w2, .int (nI (k))])), (b0, .inl (E 0, m, .inl z0))] sz) [(h0, .inr (1, [.ref u.2, .int 0, w2, .int (nI (k + 1))])), (u.2, .inl (E 0, u.1, .inl z0))] t) (va_A [(h0, .inr (1, [.ref b0, .int 0, w2, .int (nI (k))])), (b0, .inl (E 0, m, .inl z0))] sz)) 1 1000 (va_A [(h0, .inr (1, [.ref b0, .int 0, w2, .int (nI (k))])), (b0, .inl (E 0, m, .inl z0))] sz) := by
  refine Met.ofW (cc := cJ5_append_3fe6f) (maxL := 2) (ret := (some (.object "java/lang/AbstractStringBuilder"))) (by decide) rfl ?_
  intro p e s mI args below meth c s₁ B hml hv
  obtain ⟨rfl, hsz, hP, hK, hD0, hZ, hN⟩ := hv
  have hx := B.exec
  have hb := B.bytes
  have hr := B.returns
  have hts := atoms_spec (ws := wsJ5_append_3fe6f) B.pre
  have hown : s.vm.findClass RJ5 = some mI.cls := findClass_of_methodNamed B.named
  have hlocks := B.notSynchronized
  subst hsz
  have hD := hD0.self (sz := s.heap.size)
  generalize hAe : va_A [(h0, .inr (1, [.ref b0, .int 0, w2, .int (nI (k))])), (b0, .inl (E 0, m, .inl z0))] s.heap.size = A at hD hZ ⊢
  have hA : ∀ q : Nat, s.heap.size ≤ q → A q := fun q h => by rw [← hAe]; exact Or.inr h
  have hS : va_S A s.heap s.heap [] := va_S.rf
  have hl := lv_entry ([.ref h0, .int 0]) (n := 2) (Nat.le_of_ble_eq_true rfl)
  rw [lg_entry_eq]
  generalize (lg_sl ([.ref h0, .int 0]) ++ List.replicate (2 - (lg_sl ([.ref h0, .int 0])).length) Slot.unset).toArray = ls at hl ⊢
  clear hAe hD0
  have hl : lv_has ls 2 [(0, .ref h0), (1, .int 0)] := hl
  obtain ⟨H, hH⟩ : ∃ H, H = s.heap := ⟨_, rfl⟩
  rw [← hH] at hP
  have hS : va_S A s.heap H [] := by rw [hH]; exact hS
  refine rf_heap hH ?_
  refine lv_aload_n hx hb dJ5_append_3fe6f_0 rfl (lv_at hl 0 rfl) ?_
  refine lv_aload_n hx hb dJ5_append_3fe6f_1 rfl (lv_at hl 0 rfl) ?_
  refine va_get (D := D) (ci := 1) (v := .int (nI (k))) (C := RJ4) (T := TJ4) (N := 4) hx hb hts (by decide +kernel) hown hK hP 0 rfl rfl 3 (by decide) (hts (.fieldLink RJ5 79 "java/lang/AbstractStringBuilder" "count" "I") (by decide +kernel)) (fun _ h9 => h9) rfl dJ5_append_3fe6f_2 ?_
  refine lv_iconst (v := nI 1) hx hb dJ5_append_3fe6f_5 (by decide) ?_
  refine lv_iadd hx hb dJ5_append_3fe6f_6 (lv_topi (fun f1 ef => ?_))
  obtain rfl : f1 = nI (k + 1) := (show f1 = nI (k) + nI (1) from ef).trans ((nI_add _ _).trans (congrArg nI (by omega)))
  have hPc := hP.sub (ws' := [(h0, .inr (1, [.ref b0, .int 0, w2, .int (nI (k))])), (b0, .inl (E 0, m, .inl z0))]) [0, 1] rfl
  have hDc := hD.sub (ws' := [(h0, .inr (1, [.ref b0, .int 0, w2, .int (nI (k))])), (b0, .inl (E 0, m, .inl z0))]) [0, 1] (by decide) rfl
  have hFc := va_free (wc := [(h0, .inr (1, [.ref b0, .int 0, w2, .int (nI (k))])), (b0, .inl (E 0, m, .inl z0))]) hD hS hA [0, 1] rfl
  have h_1 : 0 + 1 ≤ 1 := by omega
  have h_2 : 0 + 1000 ≤ 1000 := by omega
  refine va_callv (va_runU (As := [.int (nI (k + 1))]) (rest := []) ⟨hx, hb, hml, hown, hts⟩ (c_J5_ensureCapacityInternal_d00df l D E H.size (h0) (b0) (m) (k + 1) (w2) (.int (nI (k))) (by omega) (by omega)) (va_cwU 1 hts gJ5_append_3fe6f_J5_ensureCapacityInternal_d00df_u100J4 rfl rfl rfl rfl (by decide +kernel) ⟨Nat.le_of_ble_eq_true rfl, Nat.le_of_ble_eq_true rfl⟩) ⟨rf_blind _, va_recv hK hPc (ci := 1) (q0 := 0) rfl rfl, fun U hU hW => ⟨rfl, rf_pre hK hPc hDc hZ hN hS hFc U hU hW⟩⟩ rfl rfl hl.1 rfl (lv_room (Nat.le_of_ble_eq_true rfl)) dJ5_append_3fe6f_7 ⟨h_1, h_2⟩) hS (fun q _ h => hFc q h) hFc (fun u t H1 locs ht hvm hw hB hz1 hk1 hS => ?_)
  obtain ⟨m2, b2⟩ := u
  obtain ⟨hP1, hD1⟩ := hB
  rw [ht] at hP1
  try dsimp only at hw hP1 hD1
  obtain ⟨hw1, hw2⟩ := hw
  obtain ⟨hP, hD⟩ := va_join (wr := []) (w1 := [(h0, .inr (1, [.ref b2, .int 0, w2, .int (nI (k))])), (b2, .inl (E 0, m2, .inl z0))]) hP hD [0, 1] [] rfl rfl (by decide) (by decide) hk1 hFc hP1 hD1
  clear hPc hDc hFc hP1 hD1 hk1 hz1 ht
  generalize H1 = H at hP hS ⊢
  have hP : va_P D vwCl [(h0, .inr (1, [.ref b2, .int 0, w2, .int (nI (k))])), (b2, .inl (E 0, m2, .inl z0))] H := hP
  have hD : va_D A [(h0, .inr (1, [.ref b2, .int 0, w2, .int (nI (k))])), (b2, .inl (E 0, m2, .inl z0))] := hD
  refine W.widen (k := 1) (n := 1000) (by omega) (by omega) ?_
  refine lv_aload_n hx hb dJ5_append_3fe6f_10 rfl (lv_at hl 0 rfl) ?_
  have hPc := hP.sub (ws' := [(h0, .inr (1, [.ref b2, .int 0, w2, .int (nI (k))]))]) [0] rfl
  have hDc := hD.sub (ws' := [(h0, .inr (1, [.ref b2, .int 0, w2, .int (nI (k))]))]) [0] (by decide) rfl
  have hFc := va_free (wc := [(h0, .inr (1, [.ref b2, .int 0, w2, .int (nI (k))]))]) hD hS hA [0] rfl
  have h_1 : 1 + 0 ≤ 1 := by omega
  have h_2 : 1000 + 0 ≤ 1000 := by omega
  refine va_calli (va_runU (As := []) (rest := []) ⟨hx, hb, hml, hown, hts⟩ (c_J5_isLatin1_aae02 l D E H.size (h0) (.ref b2) (w2) (.int (nI (k)))) (va_cwU 0 hts gJ5_append_3fe6f_J5_isLatin1_aae02_u83J4 rfl rfl rfl rfl (by decide +kernel) ⟨Nat.le_of_ble_eq_true rfl, Nat.le_of_ble_eq_true rfl⟩) ⟨rf_blind _, va_recv hK hPc (ci := 1) (q0 := 0) rfl rfl, fun U hU hW => ⟨rfl, rf_pre hK hPc hDc hZ hN hS hFc U hU hW⟩⟩ rfl rfl hl.1 rfl (lv_room (Nat.le_of_ble_eq_true rfl)) dJ5_append_3fe6f_11 ⟨h_1, h_2⟩) hS (fun q _ h => hFc q h) hFc (fun r u t H1 locs ht hvm hw hB hz1 hk1 hS => ?_)
  obtain ⟨hP1, hD1⟩ := hB
  rw [ht] at hP1
  try dsimp only at hw hP1 hD1
  obtain rfl := hw
  obtain ⟨hP, hD⟩ := va_join (wr := [(b2, .inl (E 0, m2, .inl z0))]) (w1 := [(h0, .inr (1, [.ref b2, .int 0, w2, .int (nI (k))]))]) hP hD [0] [1] rfl rfl (by decide) (by decide) hk1 hFc hP1 hD1
  clear hPc hDc hFc hP1 hD1 hk1 hz1 ht
  generalize H1 = H at hP hS ⊢
  have hP : va_P D vwCl [(b2, .inl (E 0, m2, .inl z0)), (h0, .inr (1, [.ref b2, .int 0, w2, .int (nI (k))]))] H := hP
  have hD : va_D A [(b2, .inl (E 0, m2, .inl z0)), (h0, .inr (1, [.ref b2, .int 0, w2, .int (nI (k))]))] := hD
  refine lv_if_eq (tgt := 45) hx hb dJ5_append_3fe6f_14 rfl (fun h => absurd h (by decide)) (fun _ => ?_)
  refine lv_iload_n hx hb dJ5_append_3fe6f_17 rfl (lv_at hl 1 rfl) ?_
  have hPc := hP.sub (ws' := []) [] rfl
  have hDc := hD.sub (ws' := []) [] (by decide) rfl
  have hFc := va_free (wc := []) hD hS hA [] rfl
  have h_1 : 1 + 0 ≤ 1 := by omega
  have h_2 : 1000 + 0 ≤ 1000 := by omega
  refine va_calli (va_runS (As := [.int 0]) (rest := []) ⟨hx, hb, hml, hown, hts⟩ (c_J1_canEncode_fc78d l D E H.size ) (va_cwS 1 hts gJ5_append_3fe6f_J1_canEncode_fc78d rfl rfl rfl (by decide +kernel) ⟨Nat.le_of_ble_eq_true rfl, Nat.le_of_ble_eq_true rfl⟩) ⟨rf_blind _, fun U hU hW => ⟨rfl, rf_pre hK hPc hDc hZ hN hS hFc U hU hW⟩⟩ rfl rfl hl.1 rfl (lv_room (Nat.le_of_ble_eq_true rfl)) dJ5_append_3fe6f_18 ⟨h_1, h_2⟩) hS (fun q _ h => hFc q h) hFc (fun r u t H1 locs ht hvm hw hB hz1 hk1 hS => ?_)
  obtain ⟨hP1, hD1⟩ := hB
  rw [ht] at hP1
  try dsimp only at hw hP1 hD1
  obtain rfl := hw
  obtain ⟨hP, hD⟩ := va_join (wr := [(b2, .inl (E 0, m2, .inl z0)), (h0, .inr (1, [.ref b2, .int 0, w2, .int (nI (k))]))]) (w1 := []) hP hD [] [0, 1] rfl rfl (by decide) (by decide) hk1 hFc hP1 hD1
  clear hPc hDc hFc hP1 hD1 hk1 hz1 ht
  generalize H1 = H at hP hS ⊢
  have hP : va_P D vwCl [(b2, .inl (E 0, m2, .inl z0)), (h0, .inr (1, [.ref b2, .int 0, w2, .int (nI (k))]))] H := hP
  have hD : va_D A [(b2, .inl (E 0, m2, .inl z0)), (h0, .inr (1, [.ref b2, .int 0, w2, .int (nI (k))]))] := hD
  refine lv_if_eq (tgt := 45) hx hb dJ5_append_3fe6f_21 rfl (fun h => absurd h (by decide)) (fun _ => ?_)
  refine lv_aload_n hx hb dJ5_append_3fe6f_24 rfl (lv_at hl 0 rfl) ?_
  refine va_get (D := D) (ci := 1) (v := .ref b2) (C := RJ4) (T := TJ4) (N := 4) hx hb hts (by decide +kernel) hown hK hP 1 rfl rfl 0 (by decide) (hts (.fieldLink RJ5 15 "java/lang/AbstractStringBuilder" "value" "[B") (by decide +kernel)) (fun _ h9 => h9) rfl dJ5_append_3fe6f_25 ?_
  refine lv_aload_n hx hb dJ5_append_3fe6f_28 rfl (lv_at hl 0 rfl) ?_
  refine lv_dup hx hb dJ5_append_3fe6f_29 rfl ?_
  refine va_get (D := D) (ci := 1) (v := .int (nI (k))) (C := RJ4) (T := TJ4) (N := 4) hx hb hts (by decide +kernel) hown hK hP 1 rfl rfl 3 (by decide) (hts (.fieldLink RJ5 79 "java/lang/AbstractStringBuilder" "count" "I") (by decide +kernel)) (fun _ h9 => h9) rfl dJ5_append_3fe6f_30 ?_
  refine lv_dup_x1 hx hb dJ5_append_3fe6f_33 rfl rfl ?_
  refine lv_iconst (v := nI 1) hx hb dJ5_append_3fe6f_34 (by decide) ?_
  refine lv_iadd hx hb dJ5_append_3fe6f_35 (lv_topi (fun f2 ef => ?_))
  obtain rfl : f2 = nI (k + 1) := (show f2 = nI (k) + nI (1) from ef).trans ((nI_add _ _).trans (congrArg nI (by omega)))
  refine va_put (D := D) (ci := 1) (v := .int (nI (k + 1))) (ty := .int) (C := RJ4) (T := TJ4) (N := 4) hx hb hts (by decide +kernel) tyJ4 tyJ4_ok nmJ4 hown hK hP hD hS 1 rfl rfl 3 (by decide) (hts (.fieldLink RJ5 79 "java/lang/AbstractStringBuilder" "count" "I") (by decide +kernel)) (fun _ h9 => h9) rfl (by decide +kernel) rfl rfl (Nat.le_of_ble_eq_true rfl) dJ5_append_3fe6f_36 (fun H locs hP hD hS => ?_)
  have hP : va_P D vwCl [(b2, .inl (E 0, m2, .inl z0)), (h0, .inr (1, [.ref b2, .int 0, w2, .int (nI (k + 1))]))] H := hP
  have hD : va_D A [(b2, .inl (E 0, m2, .inl z0)), (h0, .inr (1, [.ref b2, .int 0, w2, .int (nI (k + 1))]))] := hD
  refine lv_iload_n hx hb dJ5_append_3fe6f_39 rfl (lv_at hl 1 rfl) ?_
  refine lv_i2b (v := 0) hx hb dJ5_append_3fe6f_40 (by decide) ?_
  refine va_bast hx hb hK hP hD hS 0 0 rfl rfl (vp_in_nI (by omega) (by omega)) dJ5_append_3fe6f_41 (fun H locs hP hD hS => ?_)
  rw [rf_ub] at hP hD
  have hP : va_P D vwCl [(b2, .inl (E 0, m2, .inl z0)), (h0, .inr (1, [.ref b2, .int 0, w2, .int (nI (k + 1))]))] H := hP
  have hD : va_D A [(b2, .inl (E 0, m2, .inl z0)), (h0, .inr (1, [.ref b2, .int 0, w2, .int (nI (k + 1))]))] := hD
  refine lv_goto (tgt := 75) hx hb dJ5_append_3fe6f_42 rfl ?_
  refine lv_aload_n hx hb dJ5_append_3fe6f_75 rfl (lv_at hl 0 rfl) ?_
  have hP := hP.sub (ws' := [(h0, .inr (1, [.ref b2, .int 0, w2, .int (nI (k + 1))])), (b2, .inl (E 0, m2, .inl z0))]) [1, 0] rfl
  have hD := hD.sub (ws' := [(h0, .inr (1, [.ref b2, .int 0, w2, .int (nI (k + 1))])), (b2, .inl (E 0, m2, .inl z0))]) [1, 0] (by decide) rfl
  exact W.aret (v := .ref h0) hx hb hr (Or.inl ⟨_, rfl⟩) (Or.inr ⟨_, rfl⟩) (fun t ht hW => ⟨⟨(m2, b2), h0, rfl, ⟨hw1, by dsimp only; omega⟩, ⟨rfl, rf_end ht hP hD⟩⟩, hS.F ht⟩) hS.2.2 dJ5_append_3fe6f_76
set_option maxHeartbeats 4000000 in
set_option maxRecDepth 100000 in
/-- StringBuilder.append(char 0) -/
theorem c_J4_append_cf468 (l : Launch) (D : va_G) (E : Nat → ClassId) (sz : Nat) (h0 b0 k m : Nat) (w2 : Value) (hm : m ≤ 300) (hk : k ≤ 200) : Met l yJ4_append_cf468 wsJ4_append_cf468 ({ frames := 6, cells := 1, slots := 1000, locals := 1000 }) (va_Pc [.ref h0, .int 0] (rf_P D E [(h0, .inr (1, [.ref b0, .int 0, w2, .int (nI (k))])), (b0, .inl (E 0, m, .inl z0))] sz)) (va_Qr (fun (u : Nat × Nat) => k + 1 ≤ u.1 ∧ u.1 ≤ 2 * m + 3 + k) (fun (u : Nat × Nat) (ra : Nat) (t : State) => ra = h0 ∧ rf_B D (va_A [(h0, .inr (1, [.ref b0, .int 0, w2, .int (nI (k))])), (b0, .inl (E 0, m, .inl z0))] sz) [(h0, .inr (1, [.ref u.2, .int 0, w2, .int (nI (k + 1))])), (u.2, .inl (E 0, u.1, .inl z0))] t) (va_A [(h0, .inr (1, [.ref b0, .int 0, w2, .int (nI (k))])), (b0, .inl (E 0, m, .inl z0))] sz)) 1 1000 (va_A [(h0, .inr (1, [.ref b0, .int 0, w2, .int (nI (k))])), (b0, .inl (E 0, m, .inl z0))] sz) := by
  refine Met.ofW (cc := cJ4_append_cf468) (maxL := 2) (ret := (some (.object "java/lang/StringBuilder"))) (by decide) rfl ?_
  intro p e s mI args below meth c s₁ B hml hv
  obtain ⟨rfl, hsz, hP, hK, hD0, hZ, hN⟩ := hv
  have hx := B.exec
  have hb := B.bytes
  have hr := B.returns
  have hts := atoms_spec (ws := wsJ4_append_cf468) B.pre
  have hown : s.vm.findClass RJ4 = some mI.cls := findClass_of_methodNamed B.named
  have hlocks := B.notSynchronized
  subst hsz
  have hD := hD0.self (sz := s.heap.size)
  generalize hAe : va_A [(h0, .inr (1, [.ref b0, .int 0, w2, .int (nI (k))])), (b0, .inl (E 0, m, .inl z0))] s.heap.size = A at hD hZ ⊢
  have hA : ∀ q : Nat, s.heap.size ≤ q → A q := fun q h => by rw [← hAe]; exact Or.inr h
  have hS : va_S A s.heap s.heap [] := va_S.rf
  have hl := lv_entry ([.ref h0, .int 0]) (n := 2) (Nat.le_of_ble_eq_true rfl)
  rw [lg_entry_eq]
  generalize (lg_sl ([.ref h0, .int 0]) ++ List.replicate (2 - (lg_sl ([.ref h0, .int 0])).length) Slot.unset).toArray = ls at hl ⊢
  clear hAe hD0
  have hl : lv_has ls 2 [(0, .ref h0), (1, .int 0)] := hl
  obtain ⟨H, hH⟩ : ∃ H, H = s.heap := ⟨_, rfl⟩
  rw [← hH] at hP
  have hS : va_S A s.heap H [] := by rw [hH]; exact hS
  refine rf_heap hH ?_
  refine lv_aload_n hx hb dJ4_append_cf468_0 rfl (lv_at hl 0 rfl) ?_
  refine lv_iload_n hx hb dJ4_append_cf468_1 rfl (lv_at hl 1 rfl) ?_
  have hPc := hP.sub (ws' := [(h0, .inr (1, [.ref b0, .int 0, w2, .int (nI (k))])), (b0, .inl (E 0, m, .inl z0))]) [0, 1] rfl
  have hDc := hD.sub (ws' := [(h0, .inr (1, [.ref b0, .int 0, w2, .int (nI (k))])), (b0, .inl (E 0, m, .inl z0))]) [0, 1] (by decide) rfl
  have hFc := va_free (wc := [(h0, .inr (1, [.ref b0, .int 0, w2, .int (nI (k))])), (b0, .inl (E 0, m, .inl z0))]) hD hS hA [0, 1] rfl
  have h_1 : 0 + 1 ≤ 1 := by omega
  have h_2 : 0 + 1000 ≤ 1000 := by omega
  refine va_callr (va_runSU (As := [.int 0]) (rest := []) (hK.1 1 _ rfl).2 ⟨hx, hb, hml, hown, hts⟩ (c_J5_append_3fe6f l D E H.size (h0) (b0) (k) (m) (w2) (by omega) (by omega)) (va_cwSU 1 hts gJ4_append_cf468_J5_append_3fe6f_s50 rfl rfl rfl (by decide +kernel) ⟨Nat.le_of_ble_eq_true rfl, Nat.le_of_ble_eq_true rfl⟩) ⟨rf_blind _, va_recv hK hPc (ci := 1) (q0 := 0) rfl rfl, fun U hU hW => ⟨rfl, rf_pre hK hPc hDc hZ hN hS hFc U hU hW⟩⟩ rfl rfl hl.1 rfl (lv_room (Nat.le_of_ble_eq_true rfl)) dJ4_append_cf468_2 ⟨h_1, h_2⟩) hS (fun q _ h => hFc q h) hFc (fun u ra t H1 locs ht hvm hw hB hz1 hk1 hS => ?_)
  obtain ⟨m2, b2⟩ := u
  obtain ⟨hra, hP1, hD1⟩ := hB
  try dsimp only at hra
  subst ra
  rw [ht] at hP1
  try dsimp only at hw hP1 hD1
  obtain ⟨hw1, hw2⟩ := hw
  obtain ⟨hP, hD⟩ := va_join (wr := []) (w1 := [(h0, .inr (1, [.ref b2, .int 0, w2, .int (nI (k + 1))])), (b2, .inl (E 0, m2, .inl z0))]) hP hD [0, 1] [] rfl rfl (by decide) (by decide) hk1 hFc hP1 hD1
  clear hPc hDc hFc hP1 hD1 hk1 hz1 ht
  generalize H1 = H at hP hS ⊢
  have hP : va_P D vwCl [(h0, .inr (1, [.ref b2, .int 0, w2, .int (nI (k + 1))])), (b2, .inl (E 0, m2, .inl z0))] H := hP
  have hD : va_D A [(h0, .inr (1, [.ref b2, .int 0, w2, .int (nI (k + 1))])), (b2, .inl (E 0, m2, .inl z0))] := hD
  refine W.widen (k := 1) (n := 1000) (by omega) (by omega) ?_
  refine lv_pop hx hb dJ4_append_cf468_5 rfl ?_
  refine lv_aload_n hx hb dJ4_append_cf468_6 rfl (lv_at hl 0 rfl) ?_
  have hP := hP.sub (ws' := [(h0, .inr (1, [.ref b2, .int 0, w2, .int (nI (k + 1))])), (b2, .inl (E 0, m2, .inl z0))]) [0, 1] rfl
  have hD := hD.sub (ws' := [(h0, .inr (1, [.ref b2, .int 0, w2, .int (nI (k + 1))])), (b2, .inl (E 0, m2, .inl z0))]) [0, 1] (by decide) rfl
  exact W.aret (v := .ref h0) hx hb hr (Or.inl ⟨_, rfl⟩) (Or.inr ⟨_, rfl⟩) (fun t ht hW => ⟨⟨(m2, b2), h0, rfl, ⟨hw1, hw2⟩, ⟨rfl, rf_end ht hP hD⟩⟩, hS.F ht⟩) hS.2.2 dJ4_append_cf468_7
set_option maxHeartbeats 4000000 in
set_option maxRecDepth 100000 in
/-- Arrays.checkLength(0, n) -/
theorem c_J7_checkLength_df160 (l : Launch) (D : va_G) (E : Nat → ClassId) (sz : Nat) (n : Nat) (hn : n ≤ 1000) : Met l yJ7_checkLength_df160 wsJ7_checkLength_df160 ({ frames := 2, cells := 0, slots := 0, locals := 200 }) (va_Pc [.int (nI 0), .int (nI n)] (rf_P D E [] sz)) (va_Qv (fun (u : Unit) => True) (fun (u : Unit) (t : State) => rf_B D (va_A [] sz) [] t) (va_A [] sz)) 0 0 (va_A [] sz) := by
  refine Met.ofW (cc := cJ7_checkLength_df160) (maxL := 2) (ret := none) (by decide) rfl ?_
  intro p e s mI args below meth c s₁ B hml hv
  obtain ⟨rfl, hsz, hP, hK, hD0, hZ, hN⟩ := hv
  have hx := B.exec
  have hb := B.bytes
  have hr := B.returns
  have hts := atoms_spec (ws := wsJ7_checkLength_df160) B.pre
  have hown : s.vm.findClass RJ7 = some mI.cls := findClass_of_methodNamed B.named
  have hlocks := B.notSynchronized
  subst hsz
  have hD := hD0.self (sz := s.heap.size)
  generalize hAe : va_A [] s.heap.size = A at hD hZ ⊢
  have hA : ∀ q : Nat, s.heap.size ≤ q → A q := fun q h => by rw [← hAe]; exact Or.inr h
  have hS : va_S A s.heap s.heap [] := va_S.rf
  have hl := lv_entry ([.int (nI 0), .int (nI n)]) (n := 2) (Nat.le_of_ble_eq_true rfl)
  rw [lg_entry_eq]
  generalize (lg_sl ([.int (nI 0), .int (nI n)]) ++ List.replicate (2 - (lg_sl ([.int (nI 0), .int (nI n)])).length) Slot.unset).toArray = ls at hl ⊢
  clear hAe hD0
  have hl : lv_has ls 2 [(0, .int (nI 0)), (1, .int (nI n))] := hl
  obtain ⟨H, hH⟩ : ∃ H, H = s.heap := ⟨_, rfl⟩
  rw [← hH] at hP
  have hS : va_S A s.heap H [] := by rw [hH]; exact hS
  refine rf_heap hH ?_
  refine lv_iload_n hx hb dJ7_checkLength_df160_0 rfl (lv_at hl 1 rfl) ?_
  refine lv_iload_n hx hb dJ7_checkLength_df160_1 rfl (lv_at hl 0 rfl) ?_
  refine lv_icmp_ge (tgt := 37) hx hb dJ7_checkLength_df160_2 rfl (fun _ => ?_) (fun h => absurd (show nI (0) ≤ nI (n) from nI_le (by omega) (by omega)) h)
  exact W.vret hx hb hr (fun t ht hW => ⟨⟨(), rfl, trivial, rf_end ht hP hD⟩, hS.F ht⟩) hS.2.2 dJ7_checkLength_df160_37
set_option maxHeartbeats 4000000 in
set_option maxRecDepth 100000 in
/-- copyOfRangeByte(b, 0, n) -/
theorem c_J7_copyOfRangeByte_39247 (l : Launch) (D : va_G) (E : Nat → ClassId) (sz : Nat) (b0 m n : Nat) (hm : m ≤ 1000) (hn : n ≤ m) : Met l yJ7_copyOfRangeByte_39247 wsJ7_copyOfRangeByte_39247 ({ frames := 3, cells := 1, slots := 1000, locals := 400 }) (va_Pc [.ref b0, .int (nI 0), .int (nI n)] (rf_P D E [(b0, .inl (E 0, m, .inl z0))] sz)) (va_Qr (fun (u : Unit) => True) (fun (u : Unit) (ra : Nat) (t : State) => rf_B D (va_A [(b0, .inl (E 0, m, .inl z0))] sz) [(b0, .inl (E 0, m, .inl z0)), (ra, .inl (E 0, n, .inl z0))] t) (va_A [(b0, .inl (E 0, m, .inl z0))] sz)) 1 1000 (va_A [(b0, .inl (E 0, m, .inl z0))] sz) := by
  refine Met.ofW (cc := cJ7_copyOfRangeByte_39247) (maxL := 5) (ret := (some (.array .byte))) (by decide) rfl ?_
  intro p e s mI args below meth c s₁ B hml hv
  obtain ⟨rfl, hsz, hP, hK, hD0, hZ, hN⟩ := hv
  have hx := B.exec
  have hb := B.bytes
  have hr := B.returns
  have hts := atoms_spec (ws := wsJ7_copyOfRangeByte_39247) B.pre
  have hown : s.vm.findClass RJ7 = some mI.cls := findClass_of_methodNamed B.named
  have hlocks := B.notSynchronized
  subst hsz
  have hD := hD0.self (sz := s.heap.size)
  generalize hAe : va_A [(b0, .inl (E 0, m, .inl z0))] s.heap.size = A at hD hZ ⊢
  have hA : ∀ q : Nat, s.heap.size ≤ q → A q := fun q h => by rw [← hAe]; exact Or.inr h
  have hS : va_S A s.heap s.heap [] := va_S.rf
  have hl := lv_entry ([.ref b0, .int (nI 0), .int (nI n)]) (n := 5) (Nat.le_of_ble_eq_true rfl)
  rw [lg_entry_eq]
  generalize (lg_sl ([.ref b0, .int (nI 0), .int (nI n)]) ++ List.replicate (5 - (lg_sl ([.ref b0, .int (nI 0), .int (nI n)])).length) Slot.unset).toArray = ls at hl ⊢
  clear hAe hD0
  have hl : lv_has ls 5 [(0, .ref b0), (1, .int (nI 0)), (2, .int (nI n))] := hl
  obtain ⟨H, hH⟩ : ∃ H, H = s.heap := ⟨_, rfl⟩
  rw [← hH] at hP
  have hS : va_S A s.heap H [] := by rw [hH]; exact hS
  refine rf_heap hH ?_
  refine lv_iload_n hx hb dJ7_copyOfRangeByte_39247_0 rfl (lv_at hl 1 rfl) ?_
  refine lv_iload_n hx hb dJ7_copyOfRangeByte_39247_1 rfl (lv_at hl 2 rfl) ?_
  have hPc := hP.sub (ws' := []) [] rfl
  have hDc := hD.sub (ws' := []) [] (by decide) rfl
  have hFc := va_free (wc := []) hD hS hA [] rfl
  have h_1 : 0 + 0 ≤ 1 := by omega
  have h_2 : 0 + 0 ≤ 1000 := by omega
  refine va_callv (va_runS (As := [.int (nI 0), .int (nI n)]) (rest := []) ⟨hx, hb, hml, hown, hts⟩ (c_J7_checkLength_df160 l D E H.size (n) (by omega)) (va_cwS 2 hts gJ7_copyOfRangeByte_39247_J7_checkLength_df160 rfl rfl rfl (by decide +kernel) ⟨Nat.le_of_ble_eq_true rfl, Nat.le_of_ble_eq_true rfl⟩) ⟨rf_blind _, fun U hU hW => ⟨rfl, rf_pre hK hPc hDc hZ hN hS hFc U hU hW⟩⟩ rfl rfl hl.1 rfl (lv_room (Nat.le_of_ble_eq_true rfl)) dJ7_copyOfRangeByte_39247_2 ⟨h_1, h_2⟩) hS (fun q _ h => hFc q h) hFc (fun u t H1 locs ht hvm hw hB hz1 hk1 hS => ?_)
  obtain ⟨hP1, hD1⟩ := hB
  rw [ht] at hP1
  try dsimp only at hw hP1 hD1
  obtain ⟨hP, hD⟩ := va_join (wr := [(b0, .inl (E 0, m, .inl z0))]) (w1 := []) hP hD [] [0] rfl rfl (by decide) (by decide) hk1 hFc hP1 hD1
  clear hPc hDc hFc hP1 hD1 hk1 hz1 ht
  generalize H1 = H at hP hS ⊢
  have hP : va_P D vwCl [(b0, .inl (E 0, m, .inl z0))] H := hP
  have hD : va_D A [(b0, .inl (E 0, m, .inl z0))] := hD
  refine lv_iload_n hx hb dJ7_copyOfRangeByte_39247_5 rfl (lv_at hl 2 rfl) ?_
  refine lv_iload_n hx hb dJ7_copyOfRangeByte_39247_6 rfl (lv_at hl 1 rfl) ?_
  refine lv_isub hx hb dJ7_copyOfRangeByte_39247_7 (lv_topi (fun f1 ef => ?_))
  obtain rfl : f1 = nI (n) := (show f1 = nI (n) - nI (0) from ef).trans ((pk_sub (by omega)).trans (congrArg nI (by omega)))
  refine lv_istore_n hx hb dJ7_copyOfRangeByte_39247_8 rfl hl (Nat.le_of_ble_eq_true rfl) rfl (fun ls hl => ?_)
  have hl : lv_has ls 5 [(3, .int (nI (n))), (0, .ref b0), (1, .int (nI 0)), (2, .int (nI n))] := hl
  refine lv_iload_n hx hb dJ7_copyOfRangeByte_39247_9 rfl (lv_at hl 0 rfl) ?_
  have h_1 : 0 + 1 ≤ 1 := by omega
  have h_2 : 0 + (n) ≤ 1000 := by omega
  refine va_newa (atype := .byte) (N' := n) (a0 := (n, .inl z0)) hx hb (hts (.arrayClass .byte) (by decide +kernel)) rfl hK hP hD hS hA (fun _ => rfl) (nI_pos (by omega)) (nI_clamp (by omega)) (Nat.le_trans (Nat.mul_le_mul_right _ (show n ≤ 1000 by omega)) (Nat.le_of_ble_eq_true rfl)) h_1 h_2 dJ7_copyOfRangeByte_39247_10 (fun q1 cA H hK2 hP hD hS => ?_)
  obtain rfl := rf_byte hK2
  have hP : va_P D vwCl [(b0, .inl (E 0, m, .inl z0)), (q1, .inl (E 0, n, .inl z0))] H := hP
  have hD : va_D A [(b0, .inl (E 0, m, .inl z0)), (q1, .inl (E 0, n, .inl z0))] := hD
  refine W.widen (k := 1) (n := 1000) (by omega) (by omega) ?_
  refine lv_astore hx hb dJ7_copyOfRangeByte_39247_12 hl (Nat.le_of_ble_eq_true rfl) rfl (fun ls hl => ?_)
  have hl : lv_has ls 5 [(4, .ref q1), (3, .int (nI (n))), (0, .ref b0), (1, .int (nI 0)), (2, .int (nI n))] := hl
  refine lv_aload_n hx hb dJ7_copyOfRangeByte_39247_14 rfl (lv_at hl 2 rfl) ?_
  refine lv_iload_n hx hb dJ7_copyOfRangeByte_39247_15 rfl (lv_at hl 3 rfl) ?_
  refine lv_aload hx hb dJ7_copyOfRangeByte_39247_16 (lv_at hl 0 rfl) ?_
  refine lv_iconst (v := nI 0) hx hb dJ7_copyOfRangeByte_39247_18 (by decide) ?_
  refine lv_aload_n hx hb dJ7_copyOfRangeByte_39247_19 rfl (lv_at hl 2 rfl) ?_
  refine va_alen (v := nI (m)) hx hb hK hP 0 0 rfl rfl rfl dJ7_copyOfRangeByte_39247_20 ?_
  refine lv_iload_n hx hb dJ7_copyOfRangeByte_39247_21 rfl (lv_at hl 3 rfl) ?_
  refine lv_isub hx hb dJ7_copyOfRangeByte_39247_22 (lv_topi (fun f2 ef => ?_))
  obtain rfl : f2 = nI (m) := (show f2 = nI (m) - nI (0) from ef).trans ((pk_sub (by omega)).trans (congrArg nI (by omega)))
  refine lv_iload_n hx hb dJ7_copyOfRangeByte_39247_23 rfl (lv_at hl 1 rfl) ?_
  refine va_mmin hx hb (by rw [hml]; exact hl.1.symm) hown (hts (.methodLink RJ7 304 Lib.Math.min.name) (by decide +kernel)) (hts (.static Lib.Math.min.name) (by decide +kernel)) (hts (.initialized "java/lang/Math") (by decide +kernel)) (hts (.code Lib.Math.min.name Lib.Math.min.code 2 (some .int)) (by decide +kernel)) (Nat.le_of_ble_eq_true rfl) (Nat.le_of_ble_eq_true rfl) (show 1 ≤ 1 by omega) (show 1000 ≤ 1000 by omega) dJ7_copyOfRangeByte_39247_24 (lv_topi (fun f3 ef => ?_))
  obtain rfl : f3 = nI (n) := by
    rw [ef]
    by_cases h : n < m
    · exact if_pos (nI_lt h (by omega))
    · rw [if_neg (nI_nlt (by omega) (by omega))]; exact congrArg nI (by omega)
  refine va_copyi hx hb (by rw [hml]; exact hl.1.symm) hown (hts (.methodLink RJ7 150 arraycopyName) (by decide +kernel)) (hts (.native arraycopyName) (by decide +kernel)) (hts (.static arraycopyName) (by decide +kernel)) (hts (.initialized "java/lang/System") (by decide +kernel)) hK hP hD hS 0 1 0 0 rfl rfl rfl rfl rfl (nI_pos (by omega)) (nI_pos (by omega)) (nI_pos (by omega)) (by rw [nI_clamp (n := 0) (by omega), nI_clamp (n := n) (by omega)]; omega) (by rw [nI_clamp (n := 0) (by omega), nI_clamp (n := n) (by omega)]; omega) (fun _ _ => rfl) (Nat.le_of_ble_eq_true rfl) (Nat.le_of_ble_eq_true rfl) dJ7_copyOfRangeByte_39247_27 (fun H locs hP hD hS => ?_)
  rw [rf_cp] at hP hD
  have hP : va_P D vwCl [(b0, .inl (E 0, m, .inl z0)), (q1, .inl (E 0, n, .inl z0))] H := hP
  have hD : va_D A [(b0, .inl (E 0, m, .inl z0)), (q1, .inl (E 0, n, .inl z0))] := hD
  refine lv_aload hx hb dJ7_copyOfRangeByte_39247_30 (lv_at hl 0 rfl) ?_
  exact W.aret (v := .ref q1) hx hb hr (Or.inr ⟨_, rfl⟩) (Or.inr ⟨_, rfl⟩) (fun t ht hW => ⟨⟨(), q1, rfl, trivial, rf_end ht hP hD⟩, hS.F ht⟩) hS.2.2 dJ7_copyOfRangeByte_39247_32
set_option maxHeartbeats 4000000 in
set_option maxRecDepth 100000 in
/-- copyOfRange(b, 0, n) -/
theorem c_J7_copyOfRange_39247 (l : Launch) (D : va_G) (E : Nat → ClassId) (sz : Nat) (b0 m n : Nat) (hm : m ≤ 1000) (hn : n ≤ m) : Met l yJ7_copyOfRange_39247 wsJ7_copyOfRange_39247 ({ frames := 4, cells := 1, slots := 1000, locals := 600 }) (va_Pc [.ref b0, .int (nI 0), .int (nI n)] (rf_P D E [(b0, .inl (E 0, m, .inl z0))] sz)) (va_Qr (fun (u : Unit) => True) (fun (u : Unit) (ra : Nat) (t : State) => rf_B D (va_A [(b0, .inl (E 0, m, .inl z0))] sz) [(b0, .inl (E 0, m, .inl z0)), (ra, .inl (E 0, n, .inl z0))] t) (va_A [(b0, .inl (E 0, m, .inl z0))] sz)) 1 1000 (va_A [(b0, .inl (E 0, m, .inl z0))] sz) := by
  refine Met.ofW (cc := cJ7_copyOfRange_39247) (maxL := 3) (ret := (some (.array .byte))) (by decide) rfl ?_
  intro p e s mI args below meth c s₁ B hml hv
  obtain ⟨rfl, hsz, hP, hK, hD0, hZ, hN⟩ := hv
  have hx := B.exec
  have hb := B.bytes
  have hr := B.returns
  have hts := atoms_spec (ws := wsJ7_copyOfRange_39247) B.pre
  have hown : s.vm.findClass RJ7 = some mI.cls := findClass_of_methodNamed B.named
  have hlocks := B.notSynchronized
  subst hsz
  have hD := hD0.self (sz := s.heap.size)
  generalize hAe : va_A [(b0, .inl (E 0, m, .inl z0))] s.heap.size = A at hD hZ ⊢
  have hA : ∀ q : Nat, s.heap.size ≤ q → A q := fun q h => by rw [← hAe]; exact Or.inr h
  have hS : va_S A s.heap s.heap [] := va_S.rf
  have hl := lv_entry ([.ref b0, .int (nI 0), .int (nI n)]) (n := 3) (Nat.le_of_ble_eq_true rfl)
  rw [lg_entry_eq]
  generalize (lg_sl ([.ref b0, .int (nI 0), .int (nI n)]) ++ List.replicate (3 - (lg_sl ([.ref b0, .int (nI 0), .int (nI n)])).length) Slot.unset).toArray = ls at hl ⊢
  clear hAe hD0
  have hl : lv_has ls 3 [(0, .ref b0), (1, .int (nI 0)), (2, .int (nI n))] := hl
  obtain ⟨H, hH⟩ : ∃ H, H = s.heap := ⟨_, rfl⟩
  rw [← hH] at hP
  have hS : va_S A s.heap H [] := by rw [hH]; exact hS
  refine rf_heap hH ?_
  refine lv_iload_n hx hb dJ7_copyOfRange_39247_0 rfl (lv_at hl 1 rfl) ?_
  refine lv_if_ne (tgt := 10) hx hb dJ7_copyOfRange_39247_1 rfl (fun h => absurd (by decide) h) (fun _ => ?_)
  refine lv_iload_n hx hb dJ7_copyOfRange_39247_4 rfl (lv_at hl 2 rfl) ?_
  refine lv_aload_n hx hb dJ7_copyOfRange_39247_5 rfl (lv_at hl 0 rfl) ?_
  refine va_alen (v := nI (m)) hx hb hK hP 0 0 rfl rfl rfl dJ7_copyOfRange_39247_6 ?_
  by_cases hnm : n = m
  · subst hnm
    refine lv_icmp_eq (tgt := 17) hx hb dJ7_copyOfRange_39247_7 rfl (fun _ => ?_) (fun h => absurd (show nI (n) = nI (n) from congrArg nI (by omega)) h)
    refine lv_aload_n hx hb dJ7_copyOfRange_39247_17 rfl (lv_at hl 0 rfl) ?_
    have h_1 : 0 + 1 ≤ 1 := by omega
    have h_2 : 0 + (n) ≤ 1000 := by omega
    refine va_clone (ad := "[B") (ty := .byte) hx hb (by rw [hml]; exact hl.1.symm) hown (hts (.methodLink RJ7 310 ⟨"[B", "clone", "()Ljava/lang/Object;"⟩) (by decide +kernel)) (hts (.sameMethod "[B" "java/lang/Object" "clone" "()Ljava/lang/Object;") (by decide +kernel)) (hts (.native ⟨"java/lang/Object", "clone", "()Ljava/lang/Object;"⟩) (by decide +kernel)) (hts (.instanceMethod ⟨"java/lang/Object", "clone", "()Ljava/lang/Object;"⟩) (by decide +kernel)) (hts (.selects "[B" ⟨"[B", "clone", "()Ljava/lang/Object;"⟩ ⟨"java/lang/Object", "clone", "()Ljava/lang/Object;"⟩) (by decide +kernel)) hN.1 hK hP hD hS hA 0 0 rfl rfl (hK.2 0 _ rfl).2 (fun i v h => rf_fitz h) (Nat.le_of_ble_eq_true rfl) (Nat.le_of_ble_eq_true rfl) h_1 h_2 dJ7_copyOfRange_39247_18 (fun q1 H hK2 hP hD hS => ?_)
    have hP : va_P D vwCl [(b0, .inl (E 0, n, .inl z0)), (q1, .inl (E 0, n, .inl z0))] H := hP
    have hD : va_D A [(b0, .inl (E 0, n, .inl z0)), (q1, .inl (E 0, n, .inl z0))] := hD
    refine W.widen (k := 1) (n := 1000) (by omega) (by omega) ?_
    refine va_castA hx hb hown (hts (.classLink RJ7 311 "[B") (by decide +kernel)) hP 1 rfl (hK.2 0 _ rfl).2 dJ7_copyOfRange_39247_21 ?_
    exact W.aret (v := .ref q1) hx hb hr (Or.inr ⟨_, rfl⟩) (Or.inr ⟨_, rfl⟩) (fun t ht hW => ⟨⟨(), q1, rfl, trivial, rf_end ht hP hD⟩, hS.F ht⟩) hS.2.2 dJ7_copyOfRange_39247_24
  · refine lv_icmp_eq (tgt := 17) hx hb dJ7_copyOfRange_39247_7 rfl (fun h => absurd h (show ¬ nI (n) = nI (m) from fun h => absurd ((nI_eq (by omega) (by omega)).mp h) (by omega))) (fun _ => ?_)
    refine lv_aload_n hx hb dJ7_copyOfRange_39247_10 rfl (lv_at hl 0 rfl) ?_
    refine lv_iload_n hx hb dJ7_copyOfRange_39247_11 rfl (lv_at hl 1 rfl) ?_
    refine lv_iload_n hx hb dJ7_copyOfRange_39247_12 rfl (lv_at hl 2 rfl) ?_
    have hPc := hP.sub (ws' := [(b0, .inl (E 0, m, .inl z0))]) [0] rfl
    have hDc := hD.sub (ws' := [(b0, .inl (E 0, m, .inl z0))]) [0] (by decide) rfl
    have hFc := va_free (wc := [(b0, .inl (E 0, m, .inl z0))]) hD hS hA [0] rfl
    have h_1 : 0 + 1 ≤ 1 := by omega
    have h_2 : 0 + 1000 ≤ 1000 := by omega
    refine va_callr (va_runS (As := [.ref b0, .int (nI 0), .int (nI n)]) (rest := []) ⟨hx, hb, hml, hown, hts⟩ (c_J7_copyOfRangeByte_39247 l D E H.size (b0) (m) (n) (by omega) (by omega)) (va_cwS 3 hts gJ7_copyOfRange_39247_J7_copyOfRangeByte_39247 rfl rfl rfl (by decide +kernel) ⟨Nat.le_of_ble_eq_true rfl, Nat.le_of_ble_eq_true rfl⟩) ⟨rf_blind _, fun U hU hW => ⟨rfl, rf_pre hK hPc hDc hZ hN hS hFc U hU hW⟩⟩ rfl rfl hl.1 rfl (lv_room (Nat.le_of_ble_eq_true rfl)) dJ7_copyOfRange_39247_13 ⟨h_1, h_2⟩) hS (fun q _ h => hFc q h) hFc (fun u ra t H1 locs ht hvm hw hB hz1 hk1 hS => ?_)
    obtain ⟨hP1, hD1⟩ := hB
    rw [ht] at hP1
    try dsimp only at hw hP1 hD1
    obtain ⟨hP, hD⟩ := va_join (wr := []) (w1 := [(b0, .inl (E 0, m, .inl z0)), (ra, .inl (E 0, n, .inl z0))]) hP hD [0] [] rfl rfl (by decide) (by decide) hk1 hFc hP1 hD1
    clear hPc hDc hFc hP1 hD1 hk1 hz1 ht
    generalize H1 = H at hP hS ⊢
    have hP : va_P D vwCl [(b0, .inl (E 0, m, .inl z0)), (ra, .inl (E 0, n, .inl z0))] H := hP
    have hD : va_D A [(b0, .inl (E 0, m, .inl z0)), (ra, .inl (E 0, n, .inl z0))] := hD
    refine W.widen (k := 1) (n := 1000) (by omega) (by omega) ?_
    exact W.aret (v := .ref ra) hx hb hr (Or.inr ⟨_, rfl⟩) (Or.inr ⟨_, rfl⟩) (fun t ht hW => ⟨⟨(), ra, rfl, trivial, rf_end ht hP hD⟩, hS.F ht⟩) hS.2.2 dJ7_copyOfRange_39247_16
set_option maxHeartbeats 4000000 in
set_option maxRecDepth 100000 in
/-- String(AbstractStringBuilder, Void) -/
theorem c_J0_init_db425 (l : Launch) (D : va_G) (E : Nat → ClassId) (sz : Nat) (h0 g0 b0 n m : Nat) (w2 : Value) (hm : m ≤ 1000) (hn : n ≤ m) : Met l yJ0_init_db425 wsJ0_init_db425 ({ frames := 5, cells := 1, slots := 1000, locals := 800 }) (va_Pc [.ref h0, .ref g0, .null] (rf_P D E [(h0, .inr (0, [.null, .int 0, .int 0, .int 0])), (g0, .inr (1, [.ref b0, .int 0, w2, .int (nI (n))])), (b0, .inl (E 0, m, .inl z0))] sz)) (va_Qv (fun (u : Nat) => True) (fun (u : Nat) (t : State) => rf_B D (va_A [(h0, .inr (0, [.null, .int 0, .int 0, .int 0])), (g0, .inr (1, [.ref b0, .int 0, w2, .int (nI (n))])), (b0, .inl (E 0, m, .inl z0))] sz) [(h0, .inr (0, [.ref u, .int 0, .int 0, .int 0])), (u, .inl (E 0, n, .inl z0)), (g0, .inr (1, [.ref b0, .int 0, w2, .int (nI n)])), (b0, .inl (E 0, m, .inl z0))] t) (va_A [(h0, .inr (0, [.null, .int 0, .int 0, .int 0])), (g0, .inr (1, [.ref b0, .int 0, w2, .int (nI (n))])), (b0, .inl (E 0, m, .inl z0))] sz)) 1 1000 (va_A [(h0, .inr (0, [.null, .int 0, .int 0, .int 0])), (g0, .inr (1, [.ref b0, .int 0, w2, .int (nI (n))])), (b0, .inl (E 0, m, .inl z0))] sz) := by
  refine Met.ofW (cc := cJ0_init_db425) (maxL := 5) (ret := none) (by decide) rfl ?_
  intro p e s mI args below meth c s₁ B hml hv
  obtain ⟨rfl, hsz, hP, hK, hD0, hZ, hN⟩ := hv
  have hx := B.exec
  have hb := B.bytes
  have hr := B.returns
  have hts := atoms_spec (ws := wsJ0_init_db425) B.pre
  have hown : s.vm.findClass RJ0 = some mI.cls := findClass_of_methodNamed B.named
  have hlocks := B.notSynchronized
  have hin : meth.name = "<init>" := (name_of_methodNamed B.named B.method).1
  subst hsz
  have hD := hD0.self (sz := s.heap.size)
  generalize hAe : va_A [(h0, .inr (0, [.null, .int 0, .int 0, .int 0])), (g0, .inr (1, [.ref b0, .int 0, w2, .int (nI (n))])), (b0, .inl (E 0, m, .inl z0))] s.heap.size = A at hD hZ ⊢
  have hA : ∀ q : Nat, s.heap.size ≤ q → A q := fun q h => by rw [← hAe]; exact Or.inr h
  have hS : va_S A s.heap s.heap [] := va_S.rf
  have hl := lv_entry ([.ref h0, .ref g0, .null]) (n := 5) (Nat.le_of_ble_eq_true rfl)
  rw [lg_entry_eq]
  generalize (lg_sl ([.ref h0, .ref g0, .null]) ++ List.replicate (5 - (lg_sl ([.ref h0, .ref g0, .null])).length) Slot.unset).toArray = ls at hl ⊢
  clear hAe hD0
  have hl : lv_has ls 5 [(0, .ref h0), (1, .ref g0), (2, .null)] := hl
  obtain ⟨H, hH⟩ : ∃ H, H = s.heap := ⟨_, rfl⟩
  rw [← hH] at hP
  have hS : va_S A s.heap H [] := by rw [hH]; exact hS
  refine rf_heap hH ?_
  refine lv_aload_n hx hb dJ0_init_db425_0 rfl (lv_at hl 0 rfl) ?_
  refine W.objInit hx hb hown (hts (.methodLink RJ0 1 objectInit) (by decide +kernel)) (hts (.instanceMethod objectInit) (by decide +kernel)) (hts (.code objectInit ⟨#[0xb1]⟩ 1 none) (by decide +kernel)) rfl (by rw [hml]; exact hl.1) rfl dJ0_init_db425_1 (Nat.le_of_ble_eq_true rfl) (Nat.le_of_ble_eq_true rfl) ?_
  refine W.eq (g2 := F0 mI 4 ls []) rfl ?_
  refine lv_aload_n hx hb dJ0_init_db425_4 rfl (lv_at hl 1 rfl) ?_
  have hPc := hP.sub (ws' := [(g0, .inr (1, [.ref b0, .int 0, w2, .int (nI (n))]))]) [1] rfl
  have hDc := hD.sub (ws' := [(g0, .inr (1, [.ref b0, .int 0, w2, .int (nI (n))]))]) [1] (by decide) rfl
  have hFc := va_free (wc := [(g0, .inr (1, [.ref b0, .int 0, w2, .int (nI (n))]))]) hD hS hA [1] rfl
  have h_1 : 0 + 0 ≤ 1 := by omega
  have h_2 : 0 + 0 ≤ 1000 := by omega
  refine va_callr (va_runU (As := []) (rest := []) ⟨hx, hb, hml, hown, hts⟩ (c_J5_getValue_6d5f1 l D E H.size (g0) (b0) (.int 0) (w2) (.int (nI n))) (va_cwU 0 hts gJ0_init_db425_J5_getValue_6d5f1_u552J4 rfl rfl rfl rfl (by decide +kernel) ⟨Nat.le_of_ble_eq_true rfl, Nat.le_of_ble_eq_true rfl⟩) ⟨rf_blind _, va_recv hK hPc (ci := 1) (q0 := 0) rfl rfl, fun U hU hW => ⟨rfl, rf_pre hK hPc hDc hZ hN hS hFc U hU hW⟩⟩ rfl rfl hl.1 rfl (lv_room (Nat.le_of_ble_eq_true rfl)) dJ0_init_db425_5 ⟨h_1, h_2⟩) hS (fun q _ h => hFc q h) hFc (fun u ra t H1 locs ht hvm hw hB hz1 hk1 hS => ?_)
  obtain ⟨hra, hP1, hD1⟩ := hB
  try dsimp only at hra
  subst ra
  rw [ht] at hP1
  try dsimp only at hw hP1 hD1
  obtain ⟨hP, hD⟩ := va_join (wr := [(h0, .inr (0, [.null, .int 0, .int 0, .int 0])), (b0, .inl (E 0, m, .inl z0))]) (w1 := [(g0, .inr (1, [.ref b0, .int 0, w2, .int (nI (n))]))]) hP hD [1] [0, 2] rfl rfl (by decide) (by decide) hk1 hFc hP1 hD1
  clear hPc hDc hFc hP1 hD1 hk1 hz1 ht
  generalize H1 = H at hP hS ⊢
  have hP : va_P D vwCl [(h0, .inr (0, [.null, .int 0, .int 0, .int 0])), (b0, .inl (E 0, m, .inl z0)), (g0, .inr (1, [.ref b0, .int 0, w2, .int (nI (n))]))] H := hP
  have hD : va_D A [(h0, .inr (0, [.null, .int 0, .int 0, .int 0])), (b0, .inl (E 0, m, .inl z0)), (g0, .inr (1, [.ref b0, .int 0, w2, .int (nI (n))]))] := hD
  refine lv_astore_n hx hb dJ0_init_db425_8 rfl hl (Nat.le_of_ble_eq_true rfl) rfl (fun ls hl => ?_)
  have hl : lv_has ls 5 [(3, .ref b0), (0, .ref h0), (1, .ref g0), (2, .null)] := hl
  refine lv_aload_n hx hb dJ0_init_db425_9 rfl (lv_at hl 2 rfl) ?_
  have hPc := hP.sub (ws' := [(g0, .inr (1, [.ref b0, .int 0, w2, .int (nI (n))]))]) [2] rfl
  have hDc := hD.sub (ws' := [(g0, .inr (1, [.ref b0, .int 0, w2, .int (nI (n))]))]) [2] (by decide) rfl
  have hFc := va_free (wc := [(g0, .inr (1, [.ref b0, .int 0, w2, .int (nI (n))]))]) hD hS hA [2] rfl
  have h_1 : 0 + 0 ≤ 1 := by omega
  have h_2 : 0 + 0 ≤ 1000 := by omega
  refine va_calli (va_runU (As := []) (rest := []) ⟨hx, hb, hml, hown, hts⟩ (c_J4_length_8abf5 l D E H.size (g0) (n) (.ref b0) (.int 0) (w2)) (va_cwO 0 hts gJ0_init_db425_J4_length_8abf5_u549J4 rfl rfl rfl (b0 := cJ5_length_8abf5) (m0 := 1) (r0 := (some .int)) (by decide +kernel) (by decide +kernel) ⟨Nat.le_of_ble_eq_true rfl, Nat.le_of_ble_eq_true rfl⟩) ⟨rf_blind _, va_recv hK hPc (ci := 1) (q0 := 0) rfl rfl, fun U hU hW => ⟨rfl, rf_pre hK hPc hDc hZ hN hS hFc U hU hW⟩⟩ rfl rfl hl.1 rfl (lv_room (Nat.le_of_ble_eq_true rfl)) dJ0_init_db425_10 ⟨h_1, h_2⟩) hS (fun q _ h => hFc q h) hFc (fun r u t H1 locs ht hvm hw hB hz1 hk1 hS => ?_)
  obtain ⟨hP1, hD1⟩ := hB
  rw [ht] at hP1
  try dsimp only at hw hP1 hD1
  obtain rfl := hw
  obtain ⟨hP, hD⟩ := va_join (wr := [(h0, .inr (0, [.null, .int 0, .int 0, .int 0])), (b0, .inl (E 0, m, .inl z0))]) (w1 := [(g0, .inr (1, [.ref b0, .int 0, w2, .int (nI (n))]))]) hP hD [2] [0, 1] rfl rfl (by decide) (by decide) hk1 hFc hP1 hD1
  clear hPc hDc hFc hP1 hD1 hk1 hz1 ht
  generalize H1 = H at hP hS ⊢
  have hP : va_P D vwCl [(h0, .inr (0, [.null, .int 0, .int 0, .int 0])), (b0, .inl (E 0, m, .inl z0)), (g0, .inr (1, [.ref b0, .int 0, w2, .int (nI (n))]))] H := hP
  have hD : va_D A [(h0, .inr (0, [.null, .int 0, .int 0, .int 0])), (b0, .inl (E 0, m, .inl z0)), (g0, .inr (1, [.ref b0, .int 0, w2, .int (nI (n))]))] := hD
  refine lv_istore hx hb dJ0_init_db425_13 hl (Nat.le_of_ble_eq_true rfl) rfl (fun ls hl => ?_)
  have hl : lv_has ls 5 [(4, .int (nI (n))), (3, .ref b0), (0, .ref h0), (1, .ref g0), (2, .null)] := hl
  refine lv_aload_n hx hb dJ0_init_db425_15 rfl (lv_at hl 3 rfl) ?_
  have hPc := hP.sub (ws' := [(g0, .inr (1, [.ref b0, .int 0, w2, .int (nI (n))]))]) [2] rfl
  have hDc := hD.sub (ws' := [(g0, .inr (1, [.ref b0, .int 0, w2, .int (nI (n))]))]) [2] (by decide) rfl
  have hFc := va_free (wc := [(g0, .inr (1, [.ref b0, .int 0, w2, .int (nI (n))]))]) hD hS hA [2] rfl
  have h_1 : 0 + 0 ≤ 1 := by omega
  have h_2 : 0 + 0 ≤ 1000 := by omega
  refine va_calli (va_runU (As := []) (rest := []) ⟨hx, hb, hml, hown, hts⟩ (c_J5_isLatin1_aae02 l D E H.size (g0) (.ref b0) (w2) (.int (nI n))) (va_cwU 0 hts gJ0_init_db425_J5_isLatin1_aae02_u1047J4 rfl rfl rfl rfl (by decide +kernel) ⟨Nat.le_of_ble_eq_true rfl, Nat.le_of_ble_eq_true rfl⟩) ⟨rf_blind _, va_recv hK hPc (ci := 1) (q0 := 0) rfl rfl, fun U hU hW => ⟨rfl, rf_pre hK hPc hDc hZ hN hS hFc U hU hW⟩⟩ rfl rfl hl.1 rfl (lv_room (Nat.le_of_ble_eq_true rfl)) dJ0_init_db425_16 ⟨h_1, h_2⟩) hS (fun q _ h => hFc q h) hFc (fun r u t H1 locs ht hvm hw hB hz1 hk1 hS => ?_)
  obtain ⟨hP1, hD1⟩ := hB
  rw [ht] at hP1
  try dsimp only at hw hP1 hD1
  obtain rfl := hw
  obtain ⟨hP, hD⟩ := va_join (wr := [(h0, .inr (0, [.null, .int 0, .int 0, .int 0])), (b0, .inl (E 0, m, .inl z0))]) (w1 := [(g0, .inr (1, [.ref b0, .int 0, w2, .int (nI (n))]))]) hP hD [2] [0, 1] rfl rfl (by decide) (by decide) hk1 hFc hP1 hD1
  clear hPc hDc hFc hP1 hD1 hk1 hz1 ht
  generalize H1 = H at hP hS ⊢
  have hP : va_P D vwCl [(h0, .inr (0, [.null, .int 0, .int 0, .int 0])), (b0, .inl (E 0, m, .inl z0)), (g0, .inr (1, [.ref b0, .int 0, w2, .int (nI (n))]))] H := hP
  have hD : va_D A [(h0, .inr (0, [.null, .int 0, .int 0, .int 0])), (b0, .inl (E 0, m, .inl z0)), (g0, .inr (1, [.ref b0, .int 0, w2, .int (nI (n))]))] := hD
  refine lv_if_eq (tgt := 41) hx hb dJ0_init_db425_19 rfl (fun h => absurd h (by decide)) (fun _ => ?_)
  refine lv_aload_n hx hb dJ0_init_db425_22 rfl (lv_at hl 2 rfl) ?_
  refine lv_iconst (v := 0) hx hb dJ0_init_db425_23 (by decide) ?_
  refine va_putF (D := D) (ci := 0) (v := .int (0)) (ty := .byte) (C := RJ0) (T := TJ0) (N := 4) hx hb hts (by decide +kernel) tyJ0 tyJ0_ok nmJ0 hown hK hP hD hS 0 rfl rfl 1 (by decide) (hts (.fieldLink RJ0 15 "java/lang/String" "coder" "B") (by decide +kernel)) (fun _ h9 => h9) rfl hin rfl (by decide +kernel) rfl rfl (Nat.le_of_ble_eq_true rfl) dJ0_init_db425_24 (fun H locs hP hD hS => ?_)
  have hP : va_P D vwCl [(h0, .inr (0, [.null, .int (0), .int 0, .int 0])), (b0, .inl (E 0, m, .inl z0)), (g0, .inr (1, [.ref b0, .int 0, w2, .int (nI (n))]))] H := hP
  have hD : va_D A [(h0, .inr (0, [.null, .int (0), .int 0, .int 0])), (b0, .inl (E 0, m, .inl z0)), (g0, .inr (1, [.ref b0, .int 0, w2, .int (nI (n))]))] := hD
  refine lv_aload_n hx hb dJ0_init_db425_27 rfl (lv_at hl 2 rfl) ?_
  refine lv_aload_n hx hb dJ0_init_db425_28 rfl (lv_at hl 1 rfl) ?_
  refine lv_iconst (v := nI 0) hx hb dJ0_init_db425_29 (by decide) ?_
  refine lv_iload hx hb dJ0_init_db425_30 (lv_at hl 0 rfl) ?_
  have hPc := hP.sub (ws' := [(b0, .inl (E 0, m, .inl z0))]) [1] rfl
  have hDc := hD.sub (ws' := [(b0, .inl (E 0, m, .inl z0))]) [1] (by decide) rfl
  have hFc := va_free (wc := [(b0, .inl (E 0, m, .inl z0))]) hD hS hA [1] rfl
  have h_1 : 0 + 1 ≤ 1 := by omega
  have h_2 : 0 + 1000 ≤ 1000 := by omega
  refine va_callr (va_runS (As := [.ref b0, .int (nI 0), .int (nI (n))]) (rest := [.ref h0]) ⟨hx, hb, hml, hown, hts⟩ (c_J7_copyOfRange_39247 l D E H.size (b0) (m) (n) (by omega) (by omega)) (va_cwS 3 hts gJ0_init_db425_J7_copyOfRange_39247 rfl rfl rfl (by decide +kernel) ⟨Nat.le_of_ble_eq_true rfl, Nat.le_of_ble_eq_true rfl⟩) ⟨rf_blind _, fun U hU hW => ⟨rfl, rf_pre hK hPc hDc hZ hN hS hFc U hU hW⟩⟩ rfl rfl hl.1 rfl (lv_room (Nat.le_of_ble_eq_true rfl)) dJ0_init_db425_32 ⟨h_1, h_2⟩) hS (fun q _ h => hFc q h) hFc (fun u ra t H1 locs ht hvm hw hB hz1 hk1 hS => ?_)
  obtain ⟨hP1, hD1⟩ := hB
  rw [ht] at hP1
  try dsimp only at hw hP1 hD1
  obtain ⟨hP, hD⟩ := va_join (wr := [(h0, .inr (0, [.null, .int (0), .int 0, .int 0])), (g0, .inr (1, [.ref b0, .int 0, w2, .int (nI (n))]))]) (w1 := [(b0, .inl (E 0, m, .inl z0)), (ra, .inl (E 0, n, .inl z0))]) hP hD [1] [0, 2] rfl rfl (by decide) (by decide) hk1 hFc hP1 hD1
  clear hPc hDc hFc hP1 hD1 hk1 hz1 ht
  generalize H1 = H at hP hS ⊢
  have hP : va_P D vwCl [(h0, .inr (0, [.null, .int (0), .int 0, .int 0])), (g0, .inr (1, [.ref b0, .int 0, w2, .int (nI (n))])), (b0, .inl (E 0, m, .inl z0)), (ra, .inl (E 0, n, .inl z0))] H := hP
  have hD : va_D A [(h0, .inr (0, [.null, .int (0), .int 0, .int 0])), (g0, .inr (1, [.ref b0, .int 0, w2, .int (nI (n))])), (b0, .inl (E 0, m, .inl z0)), (ra, .inl (E 0, n, .inl z0))] := hD
  refine W.widen (k := 1) (n := 1000) (by omega) (by omega) ?_
  refine va_putF (D := D) (ci := 0) (v := .ref ra) (ty := .array .byte) (C := RJ0) (T := TJ0) (N := 4) hx hb hts (by decide +kernel) tyJ0 tyJ0_ok nmJ0 hown hK hP hD hS 0 rfl rfl 0 (by decide) (hts (.fieldLink RJ0 9 "java/lang/String" "value" "[B") (by decide +kernel)) (fun _ h9 => h9) rfl hin rfl (by decide +kernel) rfl rfl (Nat.le_of_ble_eq_true rfl) dJ0_init_db425_35 (fun H locs hP hD hS => ?_)
  have hP : va_P D vwCl [(h0, .inr (0, [.ref ra, .int (0), .int 0, .int 0])), (g0, .inr (1, [.ref b0, .int 0, w2, .int (nI (n))])), (b0, .inl (E 0, m, .inl z0)), (ra, .inl (E 0, n, .inl z0))] H := hP
  have hD : va_D A [(h0, .inr (0, [.ref ra, .int (0), .int 0, .int 0])), (g0, .inr (1, [.ref b0, .int 0, w2, .int (nI (n))])), (b0, .inl (E 0, m, .inl z0)), (ra, .inl (E 0, n, .inl z0))] := hD
  refine lv_goto (tgt := 97) hx hb dJ0_init_db425_38 rfl ?_
  have hP := hP.sub (ws' := [(h0, .inr (0, [.ref ra, .int 0, .int 0, .int 0])), (ra, .inl (E 0, n, .inl z0)), (g0, .inr (1, [.ref b0, .int 0, w2, .int (nI (n))])), (b0, .inl (E 0, m, .inl z0))]) [0, 3, 1, 2] rfl
  have hD := hD.sub (ws' := [(h0, .inr (0, [.ref ra, .int 0, .int 0, .int 0])), (ra, .inl (E 0, n, .inl z0)), (g0, .inr (1, [.ref b0, .int 0, w2, .int (nI (n))])), (b0, .inl (E 0, m, .inl z0))]) [0, 3, 1, 2] (by decide) rfl
  exact W.vret hx hb hr (fun t ht hW => ⟨⟨ra, rfl, trivial, rf_end ht hP hD⟩, hS.F ht⟩) hS.2.2 dJ0_init_db425_97
set_option maxHeartbeats 4000000 in
set_option maxRecDepth 100000 in
/-- String(StringBuilder) -/
theorem c_J0_init_81219 (l : Launch) (D : va_G) (E : Nat → ClassId) (sz : Nat) (h0 g0 b0 n m : Nat) (w2 : Value) (hm : m ≤ 1000) (hn : n ≤ m) : Met l yJ0_init_81219 wsJ0_init_81219 ({ frames := 6, cells := 1, slots := 1000, locals := 1000 }) (va_Pc [.ref h0, .ref g0] (rf_P D E [(h0, .inr (0, [.null, .int 0, .int 0, .int 0])), (g0, .inr (1, [.ref b0, .int 0, w2, .int (nI (n))])), (b0, .inl (E 0, m, .inl z0))] sz)) (va_Qv (fun (u : Nat) => True) (fun (u : Nat) (t : State) => rf_B D (va_A [(h0, .inr (0, [.null, .int 0, .int 0, .int 0])), (g0, .inr (1, [.ref b0, .int 0, w2, .int (nI (n))])), (b0, .inl (E 0, m, .inl z0))] sz) [(h0, .inr (0, [.ref u, .int 0, .int 0, .int 0])), (u, .inl (E 0, n, .inl z0)), (g0, .inr (1, [.ref b0, .int 0, w2, .int (nI n)])), (b0, .inl (E 0, m, .inl z0))] t) (va_A [(h0, .inr (0, [.null, .int 0, .int 0, .int 0])), (g0, .inr (1, [.ref b0, .int 0, w2, .int (nI (n))])), (b0, .inl (E 0, m, .inl z0))] sz)) 1 1000 (va_A [(h0, .inr (0, [.null, .int 0, .int 0, .int 0])), (g0, .inr (1, [.ref b0, .int 0, w2, .int (nI (n))])), (b0, .inl (E 0, m, .inl z0))] sz) := by
  refine Met.ofW (cc := cJ0_init_81219) (maxL := 2) (ret := none) (by decide) rfl ?_
  intro p e s mI args below meth c s₁ B hml hv
  obtain ⟨rfl, hsz, hP, hK, hD0, hZ, hN⟩ := hv
  have hx := B.exec
  have hb := B.bytes
  have hr := B.returns
  have hts := atoms_spec (ws := wsJ0_init_81219) B.pre
  have hown : s.vm.findClass RJ0 = some mI.cls := findClass_of_methodNamed B.named
  have hlocks := B.notSynchronized
  have hin : meth.name = "<init>" := (name_of_methodNamed B.named B.method).1
  subst hsz
  have hD := hD0.self (sz := s.heap.size)
  generalize hAe : va_A [(h0, .inr (0, [.null, .int 0, .int 0, .int 0])), (g0, .inr (1, [.ref b0, .int 0, w2, .int (nI (n))])), (b0, .inl (E 0, m, .inl z0))] s.heap.size = A at hD hZ ⊢
  have hA : ∀ q : Nat, s.heap.size ≤ q → A q := fun q h => by rw [← hAe]; exact Or.inr h
  have hS : va_S A s.heap s.heap [] := va_S.rf
  have hl := lv_entry ([.ref h0, .ref g0]) (n := 2) (Nat.le_of_ble_eq_true rfl)
  rw [lg_entry_eq]
  generalize (lg_sl ([.ref h0, .ref g0]) ++ List.replicate (2 - (lg_sl ([.ref h0, .ref g0])).length) Slot.unset).toArray = ls at hl ⊢
  clear hAe hD0
  have hl : lv_has ls 2 [(0, .ref h0), (1, .ref g0)] := hl
  obtain ⟨H, hH⟩ : ∃ H, H = s.heap := ⟨_, rfl⟩
  rw [← hH] at hP
  have hS : va_S A s.heap H [] := by rw [hH]; exact hS
  refine rf_heap hH ?_
  refine lv_aload_n hx hb dJ0_init_81219_0 rfl (lv_at hl 0 rfl) ?_
  refine lv_aload_n hx hb dJ0_init_81219_1 rfl (lv_at hl 1 rfl) ?_
  refine lv_null hx hb dJ0_init_81219_2 ?_
  have hPc := hP.sub (ws' := [(h0, .inr (0, [.null, .int 0, .int 0, .int 0])), (g0, .inr (1, [.ref b0, .int 0, w2, .int (nI (n))])), (b0, .inl (E 0, m, .inl z0))]) [0, 1, 2] rfl
  have hDc := hD.sub (ws' := [(h0, .inr (0, [.null, .int 0, .int 0, .int 0])), (g0, .inr (1, [.ref b0, .int 0, w2, .int (nI (n))])), (b0, .inl (E 0, m, .inl z0))]) [0, 1, 2] (by decide) rfl
  have hFc := va_free (wc := [(h0, .inr (0, [.null, .int 0, .int 0, .int 0])), (g0, .inr (1, [.ref b0, .int 0, w2, .int (nI (n))])), (b0, .inl (E 0, m, .inl z0))]) hD hS hA [0, 1, 2] rfl
  have h_1 : 0 + 1 ≤ 1 := by omega
  have h_2 : 0 + 1000 ≤ 1000 := by omega
  refine va_callv (va_runI (As := [.ref g0, .null]) (rest := []) ⟨hx, hb, hml, hown, hts⟩ (c_J0_init_db425 l D E H.size (h0) (g0) (b0) (n) (m) (w2) (by omega) (by omega)) (cwI 2 hts gJ0_init_81219_J0_init_db425 rfl rfl rfl (hts (.initialized RJ0) (by decide +kernel)) (hts (.methodLink RJ0 489 yJ0_init_db425) (by decide +kernel)) (hts (.instanceMethod yJ0_init_db425) (by decide +kernel)) rfl (by decide +kernel) ⟨Nat.le_of_ble_eq_true rfl, Nat.le_of_ble_eq_true rfl⟩) ⟨rf_blind _, fun U hU hW => ⟨rfl, rf_pre hK hPc hDc hZ hN hS hFc U hU hW⟩⟩ rfl rfl hl.1 rfl (lv_room (Nat.le_of_ble_eq_true rfl)) dJ0_init_81219_3 ⟨h_1, h_2⟩) hS (fun q _ h => hFc q h) hFc (fun u t H1 locs ht hvm hw hB hz1 hk1 hS => ?_)
  obtain ⟨hP1, hD1⟩ := hB
  rw [ht] at hP1
  try dsimp only at hw hP1 hD1
  obtain ⟨hP, hD⟩ := va_join (wr := []) (w1 := [(h0, .inr (0, [.ref u, .int 0, .int 0, .int 0])), (u, .inl (E 0, n, .inl z0)), (g0, .inr (1, [.ref b0, .int 0, w2, .int (nI (n))])), (b0, .inl (E 0, m, .inl z0))]) hP hD [0, 1, 2] [] rfl rfl (by decide) (by decide) hk1 hFc hP1 hD1
  clear hPc hDc hFc hP1 hD1 hk1 hz1 ht
  generalize H1 = H at hP hS ⊢
  have hP : va_P D vwCl [(h0, .inr (0, [.ref u, .int 0, .int 0, .int 0])), (u, .inl (E 0, n, .inl z0)), (g0, .inr (1, [.ref b0, .int 0, w2, .int (nI (n))])), (b0, .inl (E 0, m, .inl z0))] H := hP
  have hD : va_D A [(h0, .inr (0, [.ref u, .int 0, .int 0, .int 0])), (u, .inl (E 0, n, .inl z0)), (g0, .inr (1, [.ref b0, .int 0, w2, .int (nI (n))])), (b0, .inl (E 0, m, .inl z0))] := hD
  refine W.widen (k := 1) (n := 1000) (by omega) (by omega) ?_
  have hP := hP.sub (ws' := [(h0, .inr (0, [.ref u, .int 0, .int 0, .int 0])), (u, .inl (E 0, n, .inl z0)), (g0, .inr (1, [.ref b0, .int 0, w2, .int (nI (n))])), (b0, .inl (E 0, m, .inl z0))]) [0, 1, 2, 3] rfl
  have hD := hD.sub (ws' := [(h0, .inr (0, [.ref u, .int 0, .int 0, .int 0])), (u, .inl (E 0, n, .inl z0)), (g0, .inr (1, [.ref b0, .int 0, w2, .int (nI (n))])), (b0, .inl (E 0, m, .inl z0))]) [0, 1, 2, 3] (by decide) rfl
  exact W.vret hx hb hr (fun t ht hW => ⟨⟨u, rfl, trivial, rf_end ht hP hD⟩, hS.F ht⟩) hS.2.2 dJ0_init_81219_6
set_option maxHeartbeats 4000000 in
set_option maxRecDepth 100000 in
/-- StringBuilder.toString -/
theorem c_J4_toString_0e30d (l : Launch) (D : va_G) (E : Nat → ClassId) (sz : Nat) (g0 b0 n m : Nat) (w2 : Value) (hm : m ≤ 1000) (hn : n ≤ m) : Met l yJ4_toString_0e30d wsJ4_toString_0e30d ({ frames := 7, cells := 2, slots := 1004, locals := 1200 }) (va_Pc [.ref g0] (rf_P D E [(g0, .inr (1, [.ref b0, .int 0, w2, .int (nI (n))])), (b0, .inl (E 0, m, .inl z0))] sz)) (va_Qr (fun (u : Nat) => True) (fun (u : Nat) (ra : Nat) (t : State) => rf_B D (va_A [(g0, .inr (1, [.ref b0, .int 0, w2, .int (nI (n))])), (b0, .inl (E 0, m, .inl z0))] sz) [(ra, .inr (0, [.ref u, .int 0, .int 0, .int 0])), (u, .inl (E 0, n, .inl z0)), (g0, .inr (1, [.ref b0, .int 0, w2, .int (nI n)])), (b0, .inl (E 0, m, .inl z0))] t) (va_A [(g0, .inr (1, [.ref b0, .int 0, w2, .int (nI (n))])), (b0, .inl (E 0, m, .inl z0))] sz)) 2 1004 (va_A [(g0, .inr (1, [.ref b0, .int 0, w2, .int (nI (n))])), (b0, .inl (E 0, m, .inl z0))] sz) := by
  refine Met.ofW (cc := cJ4_toString_0e30d) (maxL := 1) (ret := (some (.object "java/lang/String"))) (by decide) rfl ?_
  intro p e s mI args below meth c s₁ B hml hv
  obtain ⟨rfl, hsz, hP, hK, hD0, hZ, hN⟩ := hv
  have hx := B.exec
  have hb := B.bytes
  have hr := B.returns
  have hts := atoms_spec (ws := wsJ4_toString_0e30d) B.pre
  have hown : s.vm.findClass RJ4 = some mI.cls := findClass_of_methodNamed B.named
  have hlocks := B.notSynchronized
  subst hsz
  have hD := hD0.self (sz := s.heap.size)
  generalize hAe : va_A [(g0, .inr (1, [.ref b0, .int 0, w2, .int (nI (n))])), (b0, .inl (E 0, m, .inl z0))] s.heap.size = A at hD hZ ⊢
  have hA : ∀ q : Nat, s.heap.size ≤ q → A q := fun q h => by rw [← hAe]; exact Or.inr h
  have hS : va_S A s.heap s.heap [] := va_S.rf
  have hl := lv_entry ([.ref g0]) (n := 1) (Nat.le_of_ble_eq_true rfl)
  rw [lg_entry_eq]
  generalize (lg_sl ([.ref g0]) ++ List.replicate (1 - (lg_sl ([.ref g0])).length) Slot.unset).toArray = ls at hl ⊢
  clear hAe hD0
  have hl : lv_has ls 1 [(0, .ref g0)] := hl
  obtain ⟨H, hH⟩ : ∃ H, H = s.heap := ⟨_, rfl⟩
  rw [← hH] at hP
  have hS : va_S A s.heap H [] := by rw [hH]; exact hS
  refine rf_heap hH ?_
  have h_1 : 0 + 1 ≤ 2 := by omega
  have h_2 : 0 + 4 ≤ 1004 := by omega
  refine va_new (ci := 0) (fs := [.null, .int 0, .int 0, .int 0]) (C := RJ0) (T := TJ0) (N := 4) hx hb hts (by decide +kernel) tyJ0 tyJ0_ok hown (hts (.classLink RJ4 18 RJ0) (by decide +kernel)) (hts (.instantiable RJ0 4) (by decide +kernel)) (hts (.initialized RJ0) (by decide +kernel)) hK hP hD hS hA rfl (fun j hj => by rcases (show j = 0 ∨ j = 1 ∨ j = 2 ∨ j = 3 by omega) with rfl | rfl | rfl | rfl <;> rfl) h_1 h_2 dJ4_toString_0e30d_0 (fun q1 H hP hD hS => ?_)
  have hP : va_P D vwCl [(g0, .inr (1, [.ref b0, .int 0, w2, .int (nI (n))])), (b0, .inl (E 0, m, .inl z0)), (q1, .inr (0, [.null, .int 0, .int 0, .int 0]))] H := hP
  have hD : va_D A [(g0, .inr (1, [.ref b0, .int 0, w2, .int (nI (n))])), (b0, .inl (E 0, m, .inl z0)), (q1, .inr (0, [.null, .int 0, .int 0, .int 0]))] := hD
  refine W.widen (k := 1) (n := 4) (by omega) (by omega) ?_
  refine lv_dup hx hb dJ4_toString_0e30d_3 rfl ?_
  refine lv_aload_n hx hb dJ4_toString_0e30d_4 rfl (lv_at hl 0 rfl) ?_
  have hPc := hP.sub (ws' := [(q1, .inr (0, [.null, .int 0, .int 0, .int 0])), (g0, .inr (1, [.ref b0, .int 0, w2, .int (nI (n))])), (b0, .inl (E 0, m, .inl z0))]) [2, 0, 1] rfl
  have hDc := hD.sub (ws' := [(q1, .inr (0, [.null, .int 0, .int 0, .int 0])), (g0, .inr (1, [.ref b0, .int 0, w2, .int (nI (n))])), (b0, .inl (E 0, m, .inl z0))]) [2, 0, 1] (by decide) rfl
  have hFc := va_free (wc := [(q1, .inr (0, [.null, .int 0, .int 0, .int 0])), (g0, .inr (1, [.ref b0, .int 0, w2, .int (nI (n))])), (b0, .inl (E 0, m, .inl z0))]) hD hS hA [2, 0, 1] rfl
  have h_1 : 1 + 1 ≤ 2 := by omega
  have h_2 : 4 + 1000 ≤ 1004 := by omega
  refine va_callv (va_runI (As := [.ref g0]) (rest := [.ref q1]) ⟨hx, hb, hml, hown, hts⟩ (c_J0_init_81219 l D E H.size (q1) (g0) (b0) (n) (m) (w2) (by omega) (by omega)) (cwI 1 hts gJ4_toString_0e30d_J0_init_81219 rfl rfl rfl (hts (.initialized RJ0) (by decide +kernel)) (hts (.methodLink RJ4 137 yJ0_init_81219) (by decide +kernel)) (hts (.instanceMethod yJ0_init_81219) (by decide +kernel)) rfl (by decide +kernel) ⟨Nat.le_of_ble_eq_true rfl, Nat.le_of_ble_eq_true rfl⟩) ⟨rf_blind _, fun U hU hW => ⟨rfl, rf_pre hK hPc hDc hZ hN hS hFc U hU hW⟩⟩ rfl rfl hl.1 rfl (lv_room (Nat.le_of_ble_eq_true rfl)) dJ4_toString_0e30d_5 ⟨h_1, h_2⟩) hS (fun q _ h => hFc q h) hFc (fun u t H1 locs ht hvm hw hB hz1 hk1 hS => ?_)
  obtain ⟨hP1, hD1⟩ := hB
  rw [ht] at hP1
  try dsimp only at hw hP1 hD1
  obtain ⟨hP, hD⟩ := va_join (wr := []) (w1 := [(q1, .inr (0, [.ref u, .int 0, .int 0, .int 0])), (u, .inl (E 0, n, .inl z0)), (g0, .inr (1, [.ref b0, .int 0, w2, .int (nI (n))])), (b0, .inl (E 0, m, .inl z0))]) hP hD [2, 0, 1] [] rfl rfl (by decide) (by decide) hk1 hFc hP1 hD1
  clear hPc hDc hFc hP1 hD1 hk1 hz1 ht
  generalize H1 = H at hP hS ⊢
  have hP : va_P D vwCl [(q1, .inr (0, [.ref u, .int 0, .int 0, .int 0])), (u, .inl (E 0, n, .inl z0)), (g0, .inr (1, [.ref b0, .int 0, w2, .int (nI (n))])), (b0, .inl (E 0, m, .inl z0))] H := hP
  have hD : va_D A [(q1, .inr (0, [.ref u, .int 0, .int 0, .int 0])), (u, .inl (E 0, n, .inl z0)), (g0, .inr (1, [.ref b0, .int 0, w2, .int (nI (n))])), (b0, .inl (E 0, m, .inl z0))] := hD
  refine W.widen (k := 2) (n := 1004) (by omega) (by omega) ?_
  have hP := hP.sub (ws' := [(q1, .inr (0, [.ref u, .int 0, .int 0, .int 0])), (u, .inl (E 0, n, .inl z0)), (g0, .inr (1, [.ref b0, .int 0, w2, .int (nI (n))])), (b0, .inl (E 0, m, .inl z0))]) [0, 1, 2, 3] rfl
  have hD := hD.sub (ws' := [(q1, .inr (0, [.ref u, .int 0, .int 0, .int 0])), (u, .inl (E 0, n, .inl z0)), (g0, .inr (1, [.ref b0, .int 0, w2, .int (nI (n))])), (b0, .inl (E 0, m, .inl z0))]) [0, 1, 2, 3] (by decide) rfl
  exact W.aret (v := .ref q1) hx hb hr (Or.inl ⟨_, rfl⟩) (Or.inr ⟨_, rfl⟩) (fun t ht hW => ⟨⟨u, q1, rfl, trivial, rf_end ht hP hD⟩, hS.F ht⟩) hS.2.2 dJ4_toString_0e30d_8
end
section
set_option maxHeartbeats 4000000 in
set_option maxRecDepth 100000 in
/-- coderFromArrayLen: 0 -/
theorem c_J2_coderFromArrayLen_85cad (l : Launch) (D : va_G) (E : Nat → ClassId) (sz : Nat) (b0 n : Nat) (hn : n ≤ 1000) : Met l yJ2_coderFromArrayLen_85cad wsJ2_coderFromArrayLen_85cad ({ frames := 2, cells := 0, slots := 0, locals := 200 }) (va_Pc [.ref b0, .int (nI n)] (rf_P D E [(b0, .inl (E 0, n, .inl z0))] sz)) (va_Qi (fun (r : Int32) (u : Unit) => r = 0) (fun (u : Unit) (t : State) => rf_B D (va_A [(b0, .inl (E 0, n, .inl z0))] sz) [(b0, .inl (E 0, n, .inl z0))] t) (va_A [(b0, .inl (E 0, n, .inl z0))] sz)) 0 0 (va_A [(b0, .inl (E 0, n, .inl z0))] sz) := by
  refine Met.ofW (cc := cJ2_coderFromArrayLen_85cad) (maxL := 2) (ret := (some .byte)) (by decide) rfl ?_
  intro p e s mI args below meth c s₁ B hml hv
  obtain ⟨rfl, hsz, hP, hK, hD0, hZ, hN⟩ := hv
  have hx := B.exec
  have hb := B.bytes
  have hr := B.returns
  have hts := atoms_spec (ws := wsJ2_coderFromArrayLen_85cad) B.pre
  have hown : s.vm.findClass RJ2 = some mI.cls := findClass_of_methodNamed B.named
  have hlocks := B.notSynchronized
  subst hsz
  have hD := hD0.self (sz := s.heap.size)
  generalize hAe : va_A [(b0, .inl (E 0, n, .inl z0))] s.heap.size = A at hD hZ ⊢
  have hA : ∀ q : Nat, s.heap.size ≤ q → A q := fun q h => by rw [← hAe]; exact Or.inr h
  have hS : va_S A s.heap s.heap [] := va_S.rf
  have hl := lv_entry ([.ref b0, .int (nI n)]) (n := 2) (Nat.le_of_ble_eq_true rfl)
  rw [lg_entry_eq]
  generalize (lg_sl ([.ref b0, .int (nI n)]) ++ List.replicate (2 - (lg_sl ([.ref b0, .int (nI n)])).length) Slot.unset).toArray = ls at hl ⊢
  clear hAe hD0
  have hl : lv_has ls 2 [(0, .ref b0), (1, .int (nI n))] := hl
  obtain ⟨H, hH⟩ : ∃ H, H = s.heap := ⟨_, rfl⟩
  rw [← hH] at hP
  have hS : va_S A s.heap H [] := by rw [hH]; exact hS
  refine rf_heap hH ?_
  refine lv_iload_n hx hb dJ2_coderFromArrayLen_85cad_0 rfl (lv_at hl 1 rfl) ?_
  refine lv_aload_n hx hb dJ2_coderFromArrayLen_85cad_1 rfl (lv_at hl 0 rfl) ?_
  refine va_alen (v := nI (n)) hx hb hK hP 0 0 rfl rfl rfl dJ2_coderFromArrayLen_85cad_2 ?_
  refine lv_isub hx hb dJ2_coderFromArrayLen_85cad_3 (lv_topi (fun f1 ef => ?_))
  obtain rfl : f1 = nI (0) := (show f1 = nI (n) - nI (n) from ef).trans ((pk_sub (by omega)).trans (congrArg nI (by omega)))
  refine lv_bipush (v := nI 31) hx hb dJ2_coderFromArrayLen_85cad_4 (by decide) ?_
  refine lv_iushr (v := 0) hx hb dJ2_coderFromArrayLen_85cad_6 (by decide) ?_
  refine lv_i2b (v := 0) hx hb dJ2_coderFromArrayLen_85cad_7 (by decide) ?_
  exact W.zret (v := 0) hx hb hr (by decide +kernel) (fun t ht hW => ⟨⟨0, (), rfl, rfl, rf_end ht hP hD⟩, hS.F ht⟩) hS.2.2 dJ2_coderFromArrayLen_85cad_8
set_option maxHeartbeats 4000000 in
set_option maxRecDepth 100000 in
/-- compress: all -/
theorem c_J2_compress_fe38e (l : Launch) (D : va_G) (E : Nat → ClassId) (sz : Nat) (c0 d0 n : Nat) (hn : n ≤ 200) : Met l yJ2_compress_fe38e wsJ2_compress_fe38e ({ frames := 2, cells := 0, slots := 0, locals := 200 }) (va_Pc [.ref c0, .int (nI 0), .ref d0, .int (nI 0), .int (nI n)] (rf_P D E [(c0, .inl (E 1, n, .inl z0)), (d0, .inl (E 0, n, .inl z0))] sz)) (va_Qi (fun (r : Int32) (u : Unit) => r = nI n) (fun (u : Unit) (t : State) => rf_B D (va_A [(c0, .inl (E 1, n, .inl z0)), (d0, .inl (E 0, n, .inl z0))] sz) [(c0, .inl (E 1, n, .inl z0)), (d0, .inl (E 0, n, .inl z0))] t) (va_A [(c0, .inl (E 1, n, .inl z0)), (d0, .inl (E 0, n, .inl z0))] sz)) 0 0 (va_A [(c0, .inl (E 1, n, .inl z0)), (d0, .inl (E 0, n, .inl z0))] sz) := by
  refine Met.ofW (cc := cJ2_compress_fe38e) (maxL := 7) (ret := (some .int)) (by decide) rfl ?_
  intro p e s mI args below meth c s₁ B hml hv
  obtain ⟨rfl, hsz, hP, hK, hD0, hZ, hN⟩ := hv
  have hx := B.exec
  have hb := B.bytes
  have hr := B.returns
  have hts := atoms_spec (ws := wsJ2_compress_fe38e) B.pre
  have hown : s.vm.findClass RJ2 = some mI.cls := findClass_of_methodNamed B.named
  have hlocks := B.notSynchronized
  subst hsz
  have hD := hD0.self (sz := s.heap.size)
  generalize hAe : va_A [(c0, .inl (E 1, n, .inl z0)), (d0, .inl (E 0, n, .inl z0))] s.heap.size = A at hD hZ ⊢
  have hA : ∀ q : Nat, s.heap.size ≤ q → A q := fun q h => by rw [← hAe]; exact Or.inr h
  have hS : va_S A s.heap s.heap [] := va_S.rf
  have hl := lv_entry ([.ref c0, .int (nI 0), .ref d0, .int (nI 0), .int (nI n)]) (n := 7) (Nat.le_of_ble_eq_true rfl)
  rw [lg_entry_eq]
  generalize (lg_sl ([.ref c0, .int (nI 0), .ref d0, .int (nI 0), .int (nI n)]) ++ List.replicate (7 - (lg_sl ([.ref c0, .int (nI 0), .ref d0, .int (nI 0), .int (nI n)])).length) Slot.unset).toArray = ls at hl ⊢
  clear hAe hD0
  have hl : lv_has ls 7 [(0, .ref c0), (1, .int (nI 0)), (2, .ref d0), (3, .int (nI 0)), (4, .int (nI n))] := hl
  obtain ⟨H, hH⟩ : ∃ H, H = s.heap := ⟨_, rfl⟩
  rw [← hH] at hP
  have hS : va_S A s.heap H [] := by rw [hH]; exact hS
  refine rf_heap hH ?_
  refine lv_iconst (v := nI 0) hx hb dJ2_compress_fe38e_0 (by decide) ?_
  refine lv_istore hx hb dJ2_compress_fe38e_1 hl (Nat.le_of_ble_eq_true rfl) rfl (fun ls hl => ?_)
  have hl : lv_has ls 7 [(5, .int (nI 0)), (0, .ref c0), (1, .int (nI 0)), (2, .ref d0), (3, .int (nI 0)), (4, .int (nI n))] := hl
  have hl : lv_has ls 7 [(0, .ref c0), (1, .int (nI 0)), (2, .ref d0), (3, .int (nI 0)), (4, .int (nI n)), (5, .int (nI 0))] := lv_sub hl [1, 2, 3, 4, 5, 0] rfl
  refine rf_loop (n) 0 0 (fun k H locs ls => lv_has ls 7 [(0, .ref c0), (1, .int (nI (k))), (2, .ref d0), (3, .int (nI (k))), (4, .int (nI n)), (5, .int (nI (k)))] ∧ va_P D vwCl [(c0, .inl (E 1, n, .inl z0)), (d0, .inl (E 0, n, .inl z0))] H ∧ va_D A [(c0, .inl (E 1, n, .inl z0)), (d0, .inl (E 0, n, .inl z0))] ∧ va_S A s.heap H locs) ⟨hl, hP, hD, hS⟩ ?_ ?_
  · intro H locs ls hI
    obtain ⟨hl, hP, hD, hS⟩ := hI
    refine lv_iload hx hb dJ2_compress_fe38e_3 (lv_at hl 5 rfl) ?_
    refine lv_iload hx hb dJ2_compress_fe38e_5 (lv_at hl 4 rfl) ?_
    refine lv_icmp_ge (tgt := 44) hx hb dJ2_compress_fe38e_7 rfl (fun _ => ?_) (fun h => absurd (show nI (n) ≤ nI (n) from nI_le (by omega) (by omega)) h)
    refine lv_iload hx hb dJ2_compress_fe38e_44 (lv_at hl 4 rfl) ?_
    refine W.widen (k := 0) (n := 0) (by omega) (by omega) ?_
    have hP := hP.sub (ws' := [(c0, .inl (E 1, n, .inl z0)), (d0, .inl (E 0, n, .inl z0))]) [0, 1] rfl
    have hD := hD.sub (ws' := [(c0, .inl (E 1, n, .inl z0)), (d0, .inl (E 0, n, .inl z0))]) [0, 1] (by decide) rfl
    exact W.iret (v := nI n) hx hb hr (fun t ht hW => ⟨⟨nI n, (), rfl, rfl, rf_end ht hP hD⟩, hS.F ht⟩) hS.2.2 dJ2_compress_fe38e_46
  · intro k H locs ls hkN hI kk
    obtain ⟨hl, hP, hD, hS⟩ := hI
    refine lv_iload hx hb dJ2_compress_fe38e_3 (lv_at hl 5 rfl) ?_
    refine lv_iload hx hb dJ2_compress_fe38e_5 (lv_at hl 4 rfl) ?_
    refine lv_icmp_ge (tgt := 44) hx hb dJ2_compress_fe38e_7 rfl (fun h => absurd h (show ¬ nI (n) ≤ nI (k) from nI_ge (by omega) (by omega))) (fun _ => ?_)
    refine lv_aload_n hx hb dJ2_compress_fe38e_10 rfl (lv_at hl 0 rfl) ?_
    refine lv_iload_n hx hb dJ2_compress_fe38e_11 rfl (lv_at hl 1 rfl) ?_
    refine va_cald hx hb hK hP 0 1 rfl rfl (vp_in_nI (by omega) (by omega)) dJ2_compress_fe38e_12 (W.eq (g2 := F0 mI 13 ls (.int 0 :: [])) rfl ?_)
    refine lv_istore hx hb dJ2_compress_fe38e_13 hl (Nat.le_of_ble_eq_true rfl) rfl (fun ls hl => ?_)
    have hl : lv_has ls 7 [(6, .int (0)), (0, .ref c0), (1, .int (nI (k))), (2, .ref d0), (3, .int (nI (k))), (4, .int (nI n)), (5, .int (nI (k)))] := hl
    refine lv_iload hx hb dJ2_compress_fe38e_15 (lv_at hl 0 rfl) ?_
    refine lv_sipush (v := nI 255) hx hb dJ2_compress_fe38e_17 (by decide) ?_
    refine lv_icmp_le (tgt := 26) hx hb dJ2_compress_fe38e_20 rfl (fun _ => ?_) (fun h => absurd (by decide) h)
    refine lv_aload_n hx hb dJ2_compress_fe38e_26 rfl (lv_at hl 3 rfl) ?_
    refine lv_iload_n hx hb dJ2_compress_fe38e_27 rfl (lv_at hl 4 rfl) ?_
    refine lv_iload hx hb dJ2_compress_fe38e_28 (lv_at hl 0 rfl) ?_
    refine lv_i2b (v := 0) hx hb dJ2_compress_fe38e_30 (by decide) ?_
    refine va_bast hx hb hK hP hD hS 1 0 rfl rfl (vp_in_nI (by omega) (by omega)) dJ2_compress_fe38e_31 (fun H locs hP hD hS => ?_)
    rw [rf_ub] at hP hD
    have hP : va_P D vwCl [(c0, .inl (E 1, n, .inl z0)), (d0, .inl (E 0, n, .inl z0))] H := hP
    have hD : va_D A [(c0, .inl (E 1, n, .inl z0)), (d0, .inl (E 0, n, .inl z0))] := hD
    refine lv_iinc (v := nI (k + 1)) hx hb dJ2_compress_fe38e_32 hl (k := 2) rfl ((show nI (k) + Int32.ofInt 1 = nI (k) + nI 1 from rfl).trans ((nI_add _ _).trans (congrArg nI (by omega)))) (Nat.le_of_ble_eq_true rfl) rfl (fun ls hl => ?_)
    have hl : lv_has ls 7 [(1, .int (nI (k + 1))), (6, .int (0)), (0, .ref c0), (2, .ref d0), (3, .int (nI (k))), (4, .int (nI n)), (5, .int (nI (k)))] := hl
    refine lv_iinc (v := nI (k + 1)) hx hb dJ2_compress_fe38e_35 hl (k := 4) rfl ((show nI (k) + Int32.ofInt 1 = nI (k) + nI 1 from rfl).trans ((nI_add _ _).trans (congrArg nI (by omega)))) (Nat.le_of_ble_eq_true rfl) rfl (fun ls hl => ?_)
    have hl : lv_has ls 7 [(3, .int (nI (k + 1))), (1, .int (nI (k + 1))), (6, .int (0)), (0, .ref c0), (2, .ref d0), (4, .int (nI n)), (5, .int (nI (k)))] := hl
    refine lv_iinc (v := nI (k + 1)) hx hb dJ2_compress_fe38e_38 hl (k := 6) rfl ((show nI (k) + Int32.ofInt 1 = nI (k) + nI 1 from rfl).trans ((nI_add _ _).trans (congrArg nI (by omega)))) (Nat.le_of_ble_eq_true rfl) rfl (fun ls hl => ?_)
    have hl : lv_has ls 7 [(5, .int (nI (k + 1))), (3, .int (nI (k + 1))), (1, .int (nI (k + 1))), (6, .int (0)), (0, .ref c0), (2, .ref d0), (4, .int (nI n))] := hl
    have hl : lv_has ls 7 [(0, .ref c0), (1, .int (nI (k + 1))), (2, .ref d0), (3, .int (nI (k + 1))), (4, .int (nI n)), (5, .int (nI (k + 1)))] := lv_sub hl [4, 2, 5, 1, 6, 0] rfl
    refine lv_goto (tgt := 3) hx hb dJ2_compress_fe38e_41 rfl ?_
    refine W.widen (k := 0 + (k + 1) * 0) (n := 0 + (k + 1) * 0) (by omega) (by omega) ?_
    exact kk _ _ _ ⟨hl, hP, hD, hS⟩
set_option maxHeartbeats 4000000 in
set_option maxRecDepth 100000 in
/-- compress(char[], 0, n) -/
theorem c_J2_compress_dfd3c (l : Launch) (D : va_G) (E : Nat → ClassId) (sz : Nat) (c0 n : Nat) (hn : n ≤ 200) : Met l yJ2_compress_dfd3c wsJ2_compress_dfd3c ({ frames := 3, cells := 1, slots := 200, locals := 400 }) (va_Pc [.ref c0, .int (nI 0), .int (nI n)] (rf_P D E [(c0, .inl (E 1, n, .inl z0))] sz)) (va_Qr (fun (u : Unit) => True) (fun (u : Unit) (ra : Nat) (t : State) => rf_B D (va_A [(c0, .inl (E 1, n, .inl z0))] sz) [(c0, .inl (E 1, n, .inl z0)), (ra, .inl (E 0, n, .inl z0))] t) (va_A [(c0, .inl (E 1, n, .inl z0))] sz)) 1 200 (va_A [(c0, .inl (E 1, n, .inl z0))] sz) := by
  refine Met.ofW (cc := cJ2_compress_dfd3c) (maxL := 6) (ret := (some (.array .byte))) (by decide) rfl ?_
  intro p e s mI args below meth c s₁ B hml hv
  obtain ⟨rfl, hsz, hP, hK, hD0, hZ, hN⟩ := hv
  have hx := B.exec
  have hb := B.bytes
  have hr := B.returns
  have hts := atoms_spec (ws := wsJ2_compress_dfd3c) B.pre
  have hown : s.vm.findClass RJ2 = some mI.cls := findClass_of_methodNamed B.named
  have hlocks := B.notSynchronized
  subst hsz
  have hD := hD0.self (sz := s.heap.size)
  generalize hAe : va_A [(c0, .inl (E 1, n, .inl z0))] s.heap.size = A at hD hZ ⊢
  have hA : ∀ q : Nat, s.heap.size ≤ q → A q := fun q h => by rw [← hAe]; exact Or.inr h
  have hS : va_S A s.heap s.heap [] := va_S.rf
  have hl := lv_entry ([.ref c0, .int (nI 0), .int (nI n)]) (n := 6) (Nat.le_of_ble_eq_true rfl)
  rw [lg_entry_eq]
  generalize (lg_sl ([.ref c0, .int (nI 0), .int (nI n)]) ++ List.replicate (6 - (lg_sl ([.ref c0, .int (nI 0), .int (nI n)])).length) Slot.unset).toArray = ls at hl ⊢
  clear hAe hD0
  have hl : lv_has ls 6 [(0, .ref c0), (1, .int (nI 0)), (2, .int (nI n))] := hl
  obtain ⟨H, hH⟩ : ∃ H, H = s.heap := ⟨_, rfl⟩
  rw [← hH] at hP
  have hS : va_S A s.heap H [] := by rw [hH]; exact hS
  refine rf_heap hH ?_
  refine lv_iload_n hx hb dJ2_compress_dfd3c_0 rfl (lv_at hl 2 rfl) ?_
  have h_1 : 0 + 1 ≤ 1 := by omega
  have h_2 : 0 + (n) ≤ 200 := by omega
  refine va_newa (atype := .byte) (N' := n) (a0 := (n, .inl z0)) hx hb (hts (.arrayClass .byte) (by decide +kernel)) rfl hK hP hD hS hA (fun _ => rfl) (nI_pos (by omega)) (nI_clamp (by omega)) (Nat.le_trans (Nat.mul_le_mul_right _ (show n ≤ 200 by omega)) (Nat.le_of_ble_eq_true rfl)) h_1 h_2 dJ2_compress_dfd3c_1 (fun q1 cA H hK2 hP hD hS => ?_)
  obtain rfl := rf_byte hK2
  have hP : va_P D vwCl [(c0, .inl (E 1, n, .inl z0)), (q1, .inl (E 0, n, .inl z0))] H := hP
  have hD : va_D A [(c0, .inl (E 1, n, .inl z0)), (q1, .inl (E 0, n, .inl z0))] := hD
  refine W.widen (k := 1) (n := 200) (by omega) (by omega) ?_
  refine lv_astore_n hx hb dJ2_compress_dfd3c_3 rfl hl (Nat.le_of_ble_eq_true rfl) rfl (fun ls hl => ?_)
  have hl : lv_has ls 6 [(3, .ref q1), (0, .ref c0), (1, .int (nI 0)), (2, .int (nI n))] := hl
  refine lv_aload_n hx hb dJ2_compress_dfd3c_4 rfl (lv_at hl 1 rfl) ?_
  refine lv_iload_n hx hb dJ2_compress_dfd3c_5 rfl (lv_at hl 2 rfl) ?_
  refine lv_aload_n hx hb dJ2_compress_dfd3c_6 rfl (lv_at hl 0 rfl) ?_
  refine lv_iconst (v := nI 0) hx hb dJ2_compress_dfd3c_7 (by decide) ?_
  refine lv_iload_n hx hb dJ2_compress_dfd3c_8 rfl (lv_at hl 3 rfl) ?_
  have hPc := hP.sub (ws' := [(c0, .inl (E 1, n, .inl z0)), (q1, .inl (E 0, n, .inl z0))]) [0, 1] rfl
  have hDc := hD.sub (ws' := [(c0, .inl (E 1, n, .inl z0)), (q1, .inl (E 0, n, .inl z0))]) [0, 1] (by decide) rfl
  have hFc := va_free (wc := [(c0, .inl (E 1, n, .inl z0)), (q1, .inl (E 0, n, .inl z0))]) hD hS hA [0, 1] rfl
  have h_1 : 1 + 0 ≤ 1 := by omega
  have h_2 : 200 + 0 ≤ 200 := by omega
  refine va_calli (va_runS (As := [.ref c0, .int (nI 0), .ref q1, .int (nI 0), .int (nI n)]) (rest := []) ⟨hx, hb, hml, hown, hts⟩ (c_J2_compress_fe38e l D E H.size (c0) (q1) (n) (by omega)) (va_cwS 5 hts gJ2_compress_dfd3c_J2_compress_fe38e rfl rfl rfl (by decide +kernel) ⟨Nat.le_of_ble_eq_true rfl, Nat.le_of_ble_eq_true rfl⟩) ⟨rf_blind _, fun U hU hW => ⟨rfl, rf_pre hK hPc hDc hZ hN hS hFc U hU hW⟩⟩ rfl rfl hl.1 rfl (lv_room (Nat.le_of_ble_eq_true rfl)) dJ2_compress_dfd3c_9 ⟨h_1, h_2⟩) hS (fun q _ h => hFc q h) hFc (fun r u t H1 locs ht hvm hw hB hz1 hk1 hS => ?_)
  obtain ⟨hP1, hD1⟩ := hB
  rw [ht] at hP1
  try dsimp only at hw hP1 hD1
  obtain rfl := hw
  obtain ⟨hP, hD⟩ := va_join (wr := []) (w1 := [(c0, .inl (E 1, n, .inl z0)), (q1, .inl (E 0, n, .inl z0))]) hP hD [0, 1] [] rfl rfl (by decide) (by decide) hk1 hFc hP1 hD1
  clear hPc hDc hFc hP1 hD1 hk1 hz1 ht
  generalize H1 = H at hP hS ⊢
  have hP : va_P D vwCl [(c0, .inl (E 1, n, .inl z0)), (q1, .inl (E 0, n, .inl z0))] H := hP
  have hD : va_D A [(c0, .inl (E 1, n, .inl z0)), (q1, .inl (E 0, n, .inl z0))] := hD
  refine lv_istore hx hb dJ2_compress_dfd3c_12 hl (Nat.le_of_ble_eq_true rfl) rfl (fun ls hl => ?_)
  have hl : lv_has ls 6 [(4, .int (nI (n))), (3, .ref q1), (0, .ref c0), (1, .int (nI 0)), (2, .int (nI n))] := hl
  refine lv_iload hx hb dJ2_compress_dfd3c_14 (lv_at hl 0 rfl) ?_
  refine lv_iload_n hx hb dJ2_compress_dfd3c_16 rfl (lv_at hl 4 rfl) ?_
  refine lv_icmp_eq (tgt := 57) hx hb dJ2_compress_dfd3c_17 rfl (fun _ => ?_) (fun h => absurd (show nI (n) = nI (n) from congrArg nI (by omega)) h)
  refine lv_aload_n hx hb dJ2_compress_dfd3c_57 rfl (lv_at hl 1 rfl) ?_
  exact W.aret (v := .ref q1) hx hb hr (Or.inr ⟨_, rfl⟩) (Or.inr ⟨_, rfl⟩) (fun t ht hW => ⟨⟨(), q1, rfl, trivial, rf_end ht hP hD⟩, hS.F ht⟩) hS.2.2 dJ2_compress_dfd3c_58
set_option maxHeartbeats 4000000 in
set_option maxRecDepth 100000 in
/-- String(char[], 0, n, null) -/
theorem c_J0_init_bb550 (l : Launch) (D : va_G) (E : Nat → ClassId) (sz : Nat) (h0 c0 n : Nat) (hn : n ≤ 200) (h1 : 0 < n) : Met l yJ0_init_bb550 wsJ0_init_bb550 ({ frames := 4, cells := 1, slots := 200, locals := 600 }) (va_Pc [.ref h0, .ref c0, .int (nI 0), .int (nI n), .null] (rf_P D E [(h0, .inr (0, [.null, .int 0, .int 0, .int 0])), (c0, .inl (E 1, n, .inl z0))] sz)) (va_Qv (fun (u : Nat) => True) (fun (u : Nat) (t : State) => rf_B D (va_A [(h0, .inr (0, [.null, .int 0, .int 0, .int 0])), (c0, .inl (E 1, n, .inl z0))] sz) [(h0, .inr (0, [.ref u, .int 0, .int 0, .int 0])), (u, .inl (E 0, n, .inl z0)), (c0, .inl (E 1, n, .inl z0))] t) (va_A [(h0, .inr (0, [.null, .int 0, .int 0, .int 0])), (c0, .inl (E 1, n, .inl z0))] sz)) 1 200 (va_A [(h0, .inr (0, [.null, .int 0, .int 0, .int 0])), (c0, .inl (E 1, n, .inl z0))] sz) := by
  refine Met.ofW (cc := cJ0_init_bb550) (maxL := 6) (ret := none) (by decide) rfl ?_
  intro p e s mI args below meth c s₁ B hml hv
  obtain ⟨rfl, hsz, hP, hK, hD0, hZ, hN⟩ := hv
  have hx := B.exec
  have hb := B.bytes
  have hr := B.returns
  have hts := atoms_spec (ws := wsJ0_init_bb550) B.pre
  have hown : s.vm.findClass RJ0 = some mI.cls := findClass_of_methodNamed B.named
  have hlocks := B.notSynchronized
  have hin : meth.name = "<init>" := (name_of_methodNamed B.named B.method).1
  subst hsz
  have hD := hD0.self (sz := s.heap.size)
  generalize hAe : va_A [(h0, .inr (0, [.null, .int 0, .int 0, .int 0])), (c0, .inl (E 1, n, .inl z0))] s.heap.size = A at hD hZ ⊢
  have hA : ∀ q : Nat, s.heap.size ≤ q → A q := fun q h => by rw [← hAe]; exact Or.inr h
  have hS : va_S A s.heap s.heap [] := va_S.rf
  have hl := lv_entry ([.ref h0, .ref c0, .int (nI 0), .int (nI n), .null]) (n := 6) (Nat.le_of_ble_eq_true rfl)
  rw [lg_entry_eq]
  generalize (lg_sl ([.ref h0, .ref c0, .int (nI 0), .int (nI n), .null]) ++ List.replicate (6 - (lg_sl ([.ref h0, .ref c0, .int (nI 0), .int (nI n), .null])).length) Slot.unset).toArray = ls at hl ⊢
  clear hAe hD0
  have hl : lv_has ls 6 [(0, .ref h0), (1, .ref c0), (2, .int (nI 0)), (3, .int (nI n)), (4, .null)] := hl
  obtain ⟨H, hH⟩ : ∃ H, H = s.heap := ⟨_, rfl⟩
  rw [← hH] at hP
  have hS : va_S A s.heap H [] := by rw [hH]; exact hS
  refine rf_heap hH ?_
  refine lv_aload_n hx hb dJ0_init_bb550_0 rfl (lv_at hl 0 rfl) ?_
  refine W.objInit hx hb hown (hts (.methodLink RJ0 1 objectInit) (by decide +kernel)) (hts (.instanceMethod objectInit) (by decide +kernel)) (hts (.code objectInit ⟨#[0xb1]⟩ 1 none) (by decide +kernel)) rfl (by rw [hml]; exact hl.1) rfl dJ0_init_bb550_1 (Nat.le_of_ble_eq_true rfl) (Nat.le_of_ble_eq_true rfl) ?_
  refine W.eq (g2 := F0 mI 4 ls []) rfl ?_
  refine lv_iload_n hx hb dJ0_init_bb550_4 rfl (lv_at hl 3 rfl) ?_
  refine lv_if_ne (tgt := 27) hx hb dJ0_init_bb550_5 rfl (fun _ => ?_) (fun h => absurd h (nI_ne0 (by omega) (by omega)))
  refine va_gets hx hb hZ hS hown (hts (.fieldLink RJ0 38 "java/lang/String" "COMPACT_STRINGS" "Z") (by decide +kernel)) (fun _ h9 => h9) dJ0_init_bb550_27 ?_
  refine lv_if_eq (tgt := 58) hx hb dJ0_init_bb550_30 rfl (fun h => absurd h (by decide)) (fun _ => ?_)
  refine lv_aload_n hx hb dJ0_init_bb550_33 rfl (lv_at hl 1 rfl) ?_
  refine lv_iload_n hx hb dJ0_init_bb550_34 rfl (lv_at hl 2 rfl) ?_
  refine lv_iload_n hx hb dJ0_init_bb550_35 rfl (lv_at hl 3 rfl) ?_
  have hPc := hP.sub (ws' := [(c0, .inl (E 1, n, .inl z0))]) [1] rfl
  have hDc := hD.sub (ws' := [(c0, .inl (E 1, n, .inl z0))]) [1] (by decide) rfl
  have hFc := va_free (wc := [(c0, .inl (E 1, n, .inl z0))]) hD hS hA [1] rfl
  have h_1 : 0 + 1 ≤ 1 := by omega
  have h_2 : 0 + 200 ≤ 200 := by omega
  refine va_callr (va_runS (As := [.ref c0, .int (nI 0), .int (nI n)]) (rest := []) ⟨hx, hb, hml, hown, hts⟩ (c_J2_compress_dfd3c l D E H.size (c0) (n) (by omega)) (va_cwS 3 hts gJ0_init_bb550_J2_compress_dfd3c rfl rfl rfl (by decide +kernel) ⟨Nat.le_of_ble_eq_true rfl, Nat.le_of_ble_eq_true rfl⟩) ⟨rf_blind _, fun U hU hW => ⟨rfl, rf_pre hK hPc hDc hZ hN hS hFc U hU hW⟩⟩ rfl rfl hl.1 rfl (lv_room (Nat.le_of_ble_eq_true rfl)) dJ0_init_bb550_36 ⟨h_1, h_2⟩) hS (fun q _ h => hFc q h) hFc (fun u ra t H1 locs ht hvm hw hB hz1 hk1 hS => ?_)
  obtain ⟨hP1, hD1⟩ := hB
  rw [ht] at hP1
  try dsimp only at hw hP1 hD1
  obtain ⟨hP, hD⟩ := va_join (wr := [(h0, .inr (0, [.null, .int 0, .int 0, .int 0]))]) (w1 := [(c0, .inl (E 1, n, .inl z0)), (ra, .inl (E 0, n, .inl z0))]) hP hD [1] [0] rfl rfl (by decide) (by decide) hk1 hFc hP1 hD1
  clear hPc hDc hFc hP1 hD1 hk1 hz1 ht
  generalize H1 = H at hP hS ⊢
  have hP : va_P D vwCl [(h0, .inr (0, [.null, .int 0, .int 0, .int 0])), (c0, .inl (E 1, n, .inl z0)), (ra, .inl (E 0, n, .inl z0))] H := hP
  have hD : va_D A [(h0, .inr (0, [.null, .int 0, .int 0, .int 0])), (c0, .inl (E 1, n, .inl z0)), (ra, .inl (E 0, n, .inl z0))] := hD
  refine W.widen (k := 1) (n := 200) (by omega) (by omega) ?_
  refine lv_astore hx hb dJ0_init_bb550_39 hl (Nat.le_of_ble_eq_true rfl) rfl (fun ls hl => ?_)
  have hl : lv_has ls 6 [(5, .ref ra), (0, .ref h0), (1, .ref c0), (2, .int (nI 0)), (3, .int (nI n)), (4, .null)] := hl
  refine lv_aload_n hx hb dJ0_init_bb550_41 rfl (lv_at hl 1 rfl) ?_
  refine lv_aload hx hb dJ0_init_bb550_42 (lv_at hl 0 rfl) ?_
  refine lv_iload_n hx hb dJ0_init_bb550_44 rfl (lv_at hl 4 rfl) ?_
  have hPc := hP.sub (ws' := [(ra, .inl (E 0, n, .inl z0))]) [2] rfl
  have hDc := hD.sub (ws' := [(ra, .inl (E 0, n, .inl z0))]) [2] (by decide) rfl
  have hFc := va_free (wc := [(ra, .inl (E 0, n, .inl z0))]) hD hS hA [2] rfl
  have h_1 : 1 + 0 ≤ 1 := by omega
  have h_2 : 200 + 0 ≤ 200 := by omega
  refine va_calli (va_runS (As := [.ref ra, .int (nI n)]) (rest := [.ref h0]) ⟨hx, hb, hml, hown, hts⟩ (c_J2_coderFromArrayLen_85cad l D E H.size (ra) (n) (by omega)) (va_cwS 2 hts gJ0_init_bb550_J2_coderFromArrayLen_85cad rfl rfl rfl (by decide +kernel) ⟨Nat.le_of_ble_eq_true rfl, Nat.le_of_ble_eq_true rfl⟩) ⟨rf_blind _, fun U hU hW => ⟨rfl, rf_pre hK hPc hDc hZ hN hS hFc U hU hW⟩⟩ rfl rfl hl.1 rfl (lv_room (Nat.le_of_ble_eq_true rfl)) dJ0_init_bb550_45 ⟨h_1, h_2⟩) hS (fun q _ h => hFc q h) hFc (fun r u t H1 locs ht hvm hw hB hz1 hk1 hS => ?_)
  obtain ⟨hP1, hD1⟩ := hB
  rw [ht] at hP1
  try dsimp only at hw hP1 hD1
  obtain rfl := hw
  obtain ⟨hP, hD⟩ := va_join (wr := [(h0, .inr (0, [.null, .int 0, .int 0, .int 0])), (c0, .inl (E 1, n, .inl z0))]) (w1 := [(ra, .inl (E 0, n, .inl z0))]) hP hD [2] [0, 1] rfl rfl (by decide) (by decide) hk1 hFc hP1 hD1
  clear hPc hDc hFc hP1 hD1 hk1 hz1 ht
  generalize H1 = H at hP hS ⊢
  have hP : va_P D vwCl [(h0, .inr (0, [.null, .int 0, .int 0, .int 0])), (c0, .inl (E 1, n, .inl z0)), (ra, .inl (E 0, n, .inl z0))] H := hP
  have hD : va_D A [(h0, .inr (0, [.null, .int 0, .int 0, .int 0])), (c0, .inl (E 1, n, .inl z0)), (ra, .inl (E 0, n, .inl z0))] := hD
  refine va_putF (D := D) (ci := 0) (v := .int (0)) (ty := .byte) (C := RJ0) (T := TJ0) (N := 4) hx hb hts (by decide +kernel) tyJ0 tyJ0_ok nmJ0 hown hK hP hD hS 0 rfl rfl 1 (by decide) (hts (.fieldLink RJ0 15 "java/lang/String" "coder" "B") (by decide +kernel)) (fun _ h9 => h9) rfl hin rfl (by decide +kernel) rfl rfl (Nat.le_of_ble_eq_true rfl) dJ0_init_bb550_48 (fun H locs hP hD hS => ?_)
  have hP : va_P D vwCl [(h0, .inr (0, [.null, .int (0), .int 0, .int 0])), (c0, .inl (E 1, n, .inl z0)), (ra, .inl (E 0, n, .inl z0))] H := hP
  have hD : va_D A [(h0, .inr (0, [.null, .int (0), .int 0, .int 0])), (c0, .inl (E 1, n, .inl z0)), (ra, .inl (E 0, n, .inl z0))] := hD
  refine lv_aload_n hx hb dJ0_init_bb550_51 rfl (lv_at hl 1 rfl) ?_
  refine lv_aload hx hb dJ0_init_bb550_52 (lv_at hl 0 rfl) ?_
  refine va_putF (D := D) (ci := 0) (v := .ref ra) (ty := .array .byte) (C := RJ0) (T := TJ0) (N := 4) hx hb hts (by decide +kernel) tyJ0 tyJ0_ok nmJ0 hown hK hP hD hS 0 rfl rfl 0 (by decide) (hts (.fieldLink RJ0 9 "java/lang/String" "value" "[B") (by decide +kernel)) (fun _ h9 => h9) rfl hin rfl (by decide +kernel) rfl rfl (Nat.le_of_ble_eq_true rfl) dJ0_init_bb550_54 (fun H locs hP hD hS => ?_)
  have hP : va_P D vwCl [(h0, .inr (0, [.ref ra, .int (0), .int 0, .int 0])), (c0, .inl (E 1, n, .inl z0)), (ra, .inl (E 0, n, .inl z0))] H := hP
  have hD : va_D A [(h0, .inr (0, [.ref ra, .int (0), .int 0, .int 0])), (c0, .inl (E 1, n, .inl z0)), (ra, .inl (E 0, n, .inl z0))] := hD
  have hP := hP.sub (ws' := [(h0, .inr (0, [.ref ra, .int 0, .int 0, .int 0])), (ra, .inl (E 0, n, .inl z0)), (c0, .inl (E 1, n, .inl z0))]) [0, 2, 1] rfl
  have hD := hD.sub (ws' := [(h0, .inr (0, [.ref ra, .int 0, .int 0, .int 0])), (ra, .inl (E 0, n, .inl z0)), (c0, .inl (E 1, n, .inl z0))]) [0, 2, 1] (by decide) rfl
  exact W.vret hx hb hr (fun t ht hW => ⟨⟨ra, rfl, trivial, rf_end ht hP hD⟩, hS.F ht⟩) hS.2.2 dJ0_init_bb550_57
set_option maxHeartbeats 4000000 in
set_option maxRecDepth 100000 in
/-- String(char[]) -/
theorem c_J0_init_905df (l : Launch) (D : va_G) (E : Nat → ClassId) (sz : Nat) (h0 c0 n : Nat) (hn : n ≤ 200) (h1 : 0 < n) : Met l yJ0_init_905df wsJ0_init_905df ({ frames := 5, cells := 1, slots := 200, locals := 800 }) (va_Pc [.ref h0, .ref c0] (rf_P D E [(h0, .inr (0, [.null, .int 0, .int 0, .int 0])), (c0, .inl (E 1, n, .inl z0))] sz)) (va_Qv (fun (u : Nat) => True) (fun (u : Nat) (t : State) => rf_B D (va_A [(h0, .inr (0, [.null, .int 0, .int 0, .int 0])), (c0, .inl (E 1, n, .inl z0))] sz) [(h0, .inr (0, [.ref u, .int 0, .int 0, .int 0])), (u, .inl (E 0, n, .inl z0)), (c0, .inl (E 1, n, .inl z0))] t) (va_A [(h0, .inr (0, [.null, .int 0, .int 0, .int 0])), (c0, .inl (E 1, n, .inl z0))] sz)) 1 200 (va_A [(h0, .inr (0, [.null, .int 0, .int 0, .int 0])), (c0, .inl (E 1, n, .inl z0))] sz) := by
  refine Met.ofW (cc := cJ0_init_905df) (maxL := 2) (ret := none) (by decide) rfl ?_
  intro p e s mI args below meth c s₁ B hml hv
  obtain ⟨rfl, hsz, hP, hK, hD0, hZ, hN⟩ := hv
  have hx := B.exec
  have hb := B.bytes
  have hr := B.returns
  have hts := atoms_spec (ws := wsJ0_init_905df) B.pre
  have hown : s.vm.findClass RJ0 = some mI.cls := findClass_of_methodNamed B.named
  have hlocks := B.notSynchronized
  have hin : meth.name = "<init>" := (name_of_methodNamed B.named B.method).1
  subst hsz
  have hD := hD0.self (sz := s.heap.size)
  generalize hAe : va_A [(h0, .inr (0, [.null, .int 0, .int 0, .int 0])), (c0, .inl (E 1, n, .inl z0))] s.heap.size = A at hD hZ ⊢
  have hA : ∀ q : Nat, s.heap.size ≤ q → A q := fun q h => by rw [← hAe]; exact Or.inr h
  have hS : va_S A s.heap s.heap [] := va_S.rf
  have hl := lv_entry ([.ref h0, .ref c0]) (n := 2) (Nat.le_of_ble_eq_true rfl)
  rw [lg_entry_eq]
  generalize (lg_sl ([.ref h0, .ref c0]) ++ List.replicate (2 - (lg_sl ([.ref h0, .ref c0])).length) Slot.unset).toArray = ls at hl ⊢
  clear hAe hD0
  have hl : lv_has ls 2 [(0, .ref h0), (1, .ref c0)] := hl
  obtain ⟨H, hH⟩ : ∃ H, H = s.heap := ⟨_, rfl⟩
  rw [← hH] at hP
  have hS : va_S A s.heap H [] := by rw [hH]; exact hS
  refine rf_heap hH ?_
  refine lv_aload_n hx hb dJ0_init_905df_0 rfl (lv_at hl 0 rfl) ?_
  refine lv_aload_n hx hb dJ0_init_905df_1 rfl (lv_at hl 1 rfl) ?_
  refine lv_iconst (v := nI 0) hx hb dJ0_init_905df_2 (by decide) ?_
  refine lv_aload_n hx hb dJ0_init_905df_3 rfl (lv_at hl 1 rfl) ?_
  refine va_alen (v := nI (n)) hx hb hK hP 1 1 rfl rfl rfl dJ0_init_905df_4 ?_
  refine lv_null hx hb dJ0_init_905df_5 ?_
  have hPc := hP.sub (ws' := [(h0, .inr (0, [.null, .int 0, .int 0, .int 0])), (c0, .inl (E 1, n, .inl z0))]) [0, 1] rfl
  have hDc := hD.sub (ws' := [(h0, .inr (0, [.null, .int 0, .int 0, .int 0])), (c0, .inl (E 1, n, .inl z0))]) [0, 1] (by decide) rfl
  have hFc := va_free (wc := [(h0, .inr (0, [.null, .int 0, .int 0, .int 0])), (c0, .inl (E 1, n, .inl z0))]) hD hS hA [0, 1] rfl
  have h_1 : 0 + 1 ≤ 1 := by omega
  have h_2 : 0 + 200 ≤ 200 := by omega
  refine va_callv (va_runI (As := [.ref c0, .int (nI 0), .int (nI (n)), .null]) (rest := []) ⟨hx, hb, hml, hown, hts⟩ (c_J0_init_bb550 l D E H.size (h0) (c0) (n) (by omega) (by omega)) (cwI 4 hts gJ0_init_905df_J0_init_bb550 rfl rfl rfl (hts (.initialized RJ0) (by decide +kernel)) (hts (.methodLink RJ0 27 yJ0_init_bb550) (by decide +kernel)) (hts (.instanceMethod yJ0_init_bb550) (by decide +kernel)) rfl (by decide +kernel) ⟨Nat.le_of_ble_eq_true rfl, Nat.le_of_ble_eq_true rfl⟩) ⟨rf_blind _, fun U hU hW => ⟨rfl, rf_pre hK hPc hDc hZ hN hS hFc U hU hW⟩⟩ rfl rfl hl.1 rfl (lv_room (Nat.le_of_ble_eq_true rfl)) dJ0_init_905df_6 ⟨h_1, h_2⟩) hS (fun q _ h => hFc q h) hFc (fun u t H1 locs ht hvm hw hB hz1 hk1 hS => ?_)
  obtain ⟨hP1, hD1⟩ := hB
  rw [ht] at hP1
  try dsimp only at hw hP1 hD1
  obtain ⟨hP, hD⟩ := va_join (wr := []) (w1 := [(h0, .inr (0, [.ref u, .int 0, .int 0, .int 0])), (u, .inl (E 0, n, .inl z0)), (c0, .inl (E 1, n, .inl z0))]) hP hD [0, 1] [] rfl rfl (by decide) (by decide) hk1 hFc hP1 hD1
  clear hPc hDc hFc hP1 hD1 hk1 hz1 ht
  generalize H1 = H at hP hS ⊢
  have hP : va_P D vwCl [(h0, .inr (0, [.ref u, .int 0, .int 0, .int 0])), (u, .inl (E 0, n, .inl z0)), (c0, .inl (E 1, n, .inl z0))] H := hP
  have hD : va_D A [(h0, .inr (0, [.ref u, .int 0, .int 0, .int 0])), (u, .inl (E 0, n, .inl z0)), (c0, .inl (E 1, n, .inl z0))] := hD
  refine W.widen (k := 1) (n := 200) (by omega) (by omega) ?_
  have hP := hP.sub (ws' := [(h0, .inr (0, [.ref u, .int 0, .int 0, .int 0])), (u, .inl (E 0, n, .inl z0)), (c0, .inl (E 1, n, .inl z0))]) [0, 1, 2] rfl
  have hD := hD.sub (ws' := [(h0, .inr (0, [.ref u, .int 0, .int 0, .int 0])), (u, .inl (E 0, n, .inl z0)), (c0, .inl (E 1, n, .inl z0))]) [0, 1, 2] (by decide) rfl
  exact W.vret hx hb hr (fun t ht hW => ⟨⟨u, rfl, trivial, rf_end ht hP hD⟩, hS.F ht⟩) hS.2.2 dJ0_init_905df_9
set_option maxHeartbeats 4000000 in
set_option maxRecDepth 100000 in
/-- checkTape(0) -/
theorem c_X1_checkTape (l : Launch) (D : va_G) (E : Nat → ClassId) (sz : Nat)   : Met l yX1_checkTape wsX1_checkTape ({ frames := 2, cells := 0, slots := 0, locals := 200 }) (va_Pc [.int (nI 0)] (rf_P D E [] sz)) (va_Qv (fun (u : Unit) => True) (fun (u : Unit) (t : State) => rf_B D (va_A [] sz) [] t) (va_A [] sz)) 0 0 (va_A [] sz) := by
  refine Met.ofW (cc := cX1_checkTape) (maxL := 1) (ret := none) (by decide) rfl ?_
  intro p e s mI args below meth c s₁ B hml hv
  obtain ⟨rfl, hsz, hP, hK, hD0, hZ, hN⟩ := hv
  have hx := B.exec
  have hb := B.bytes
  have hr := B.returns
  have hts := atoms_spec (ws := wsX1_checkTape) B.pre
  have hown : s.vm.findClass RX1 = some mI.cls := findClass_of_methodNamed B.named
  have hlocks := B.notSynchronized
  subst hsz
  have hD := hD0.self (sz := s.heap.size)
  generalize hAe : va_A [] s.heap.size = A at hD hZ ⊢
  have hA : ∀ q : Nat, s.heap.size ≤ q → A q := fun q h => by rw [← hAe]; exact Or.inr h
  have hS : va_S A s.heap s.heap [] := va_S.rf
  have hl := lv_entry ([.int (nI 0)]) (n := 1) (Nat.le_of_ble_eq_true rfl)
  rw [lg_entry_eq]
  generalize (lg_sl ([.int (nI 0)]) ++ List.replicate (1 - (lg_sl ([.int (nI 0)])).length) Slot.unset).toArray = ls at hl ⊢
  clear hAe hD0
  have hl : lv_has ls 1 [(0, .int (nI 0))] := hl
  obtain ⟨H, hH⟩ : ∃ H, H = s.heap := ⟨_, rfl⟩
  rw [← hH] at hP
  have hS : va_S A s.heap H [] := by rw [hH]; exact hS
  refine rf_heap hH ?_
  refine lv_iload_n hx hb dX1_checkTape_0 rfl (lv_at hl 0 rfl) ?_
  refine lv_if_lt (tgt := 9) hx hb dX1_checkTape_1 rfl (fun h => absurd h (by decide)) (fun _ => ?_)
  refine lv_iload_n hx hb dX1_checkTape_4 rfl (lv_at hl 0 rfl) ?_
  refine lv_iconst (v := nI 4) hx hb dX1_checkTape_5 (by decide) ?_
  refine lv_icmp_lt (tgt := 19) hx hb dX1_checkTape_6 rfl (fun _ => ?_) (fun h => absurd (by decide) h)
  exact W.vret hx hb hr (fun t ht hW => ⟨⟨(), rfl, trivial, rf_end ht hP hD⟩, hS.F ht⟩) hS.2.2 dX1_checkTape_19
set_option maxHeartbeats 4000000 in
set_option maxRecDepth 100000 in
/-- checkLength(n) -/
theorem c_X1_checkLength (l : Launch) (D : va_G) (E : Nat → ClassId) (sz : Nat) (n : Nat) (hn : n ≤ 200) : Met l yX1_checkLength wsX1_checkLength ({ frames := 2, cells := 0, slots := 0, locals := 200 }) (va_Pc [.int (nI n)] (rf_P D E [] sz)) (va_Qv (fun (u : Unit) => True) (fun (u : Unit) (t : State) => rf_B D (va_A [] sz) [] t) (va_A [] sz)) 0 0 (va_A [] sz) := by
  refine Met.ofW (cc := cX1_checkLength) (maxL := 1) (ret := none) (by decide) rfl ?_
  intro p e s mI args below meth c s₁ B hml hv
  obtain ⟨rfl, hsz, hP, hK, hD0, hZ, hN⟩ := hv
  have hx := B.exec
  have hb := B.bytes
  have hr := B.returns
  have hts := atoms_spec (ws := wsX1_checkLength) B.pre
  have hown : s.vm.findClass RX1 = some mI.cls := findClass_of_methodNamed B.named
  have hlocks := B.notSynchronized
  subst hsz
  have hD := hD0.self (sz := s.heap.size)
  generalize hAe : va_A [] s.heap.size = A at hD hZ ⊢
  have hA : ∀ q : Nat, s.heap.size ≤ q → A q := fun q h => by rw [← hAe]; exact Or.inr h
  have hS : va_S A s.heap s.heap [] := va_S.rf
  have hl := lv_entry ([.int (nI n)]) (n := 1) (Nat.le_of_ble_eq_true rfl)
  rw [lg_entry_eq]
  generalize (lg_sl ([.int (nI n)]) ++ List.replicate (1 - (lg_sl ([.int (nI n)])).length) Slot.unset).toArray = ls at hl ⊢
  clear hAe hD0
  have hl : lv_has ls 1 [(0, .int (nI n))] := hl
  obtain ⟨H, hH⟩ : ∃ H, H = s.heap := ⟨_, rfl⟩
  rw [← hH] at hP
  have hS : va_S A s.heap H [] := by rw [hH]; exact hS
  refine rf_heap hH ?_
  refine lv_iload_n hx hb dX1_checkLength_0 rfl (lv_at hl 0 rfl) ?_
  refine lv_if_lt (tgt := 11) hx hb dX1_checkLength_1 rfl (fun h => absurd h (nI_pos (by omega))) (fun _ => ?_)
  refine lv_iload_n hx hb dX1_checkLength_4 rfl (lv_at hl 0 rfl) ?_
  refine lv_sipush (v := nI 200) hx hb dX1_checkLength_5 (by decide) ?_
  refine lv_icmp_le (tgt := 21) hx hb dX1_checkLength_8 rfl (fun _ => ?_) (fun h => absurd (show nI (n) ≤ nI (200) from nI_le (by omega) (by omega)) h)
  exact W.vret hx hb hr (fun t ht hW => ⟨⟨(), rfl, trivial, rf_end ht hP hD⟩, hS.F ht⟩) hS.2.2 dX1_checkLength_21
set_option maxHeartbeats 4000000 in
set_option maxRecDepth 100000 in
/-- tapeOf(0) -/
theorem c_X1_tapeOf (l : Launch) (D : va_G) (E : Nat → ClassId) (sz : Nat) (x0 t0 r0 : Nat) (f : Nat → Option Nat) (p1 p2 p3 p4 p5 p6 : Value) (hf : f 0 = some r0) : Met l yX1_tapeOf wsX1_tapeOf ({ frames := 3, cells := 0, slots := 0, locals := 400 }) (va_Pc [.ref x0, .int (nI 0)] (rf_P D E [(x0, .inr (3, [.ref t0, p1, p2, p3, p4, p5, p6])), (t0, .inl (E 3, 4, .inr (.inr (.inr (.inr f)))))] sz)) (va_Qr (fun (u : Unit) => True) (fun (u : Unit) (ra : Nat) (t : State) => ra = r0 ∧ rf_B D (va_A [(x0, .inr (3, [.ref t0, p1, p2, p3, p4, p5, p6])), (t0, .inl (E 3, 4, .inr (.inr (.inr (.inr f)))))] sz) [(x0, .inr (3, [.ref t0, p1, p2, p3, p4, p5, p6])), (t0, .inl (E 3, 4, .inr (.inr (.inr (.inr f)))))] t) (va_A [(x0, .inr (3, [.ref t0, p1, p2, p3, p4, p5, p6])), (t0, .inl (E 3, 4, .inr (.inr (.inr (.inr f)))))] sz)) 0 0 (va_A [(x0, .inr (3, [.ref t0, p1, p2, p3, p4, p5, p6])), (t0, .inl (E 3, 4, .inr (.inr (.inr (.inr f)))))] sz) := by
  refine Met.ofW (cc := cX1_tapeOf) (maxL := 2) (ret := (some (.object "Tapebuffer$Row"))) (by decide) rfl ?_
  intro p e s mI args below meth c s₁ B hml hv
  obtain ⟨rfl, hsz, hP, hK, hD0, hZ, hN⟩ := hv
  have hx := B.exec
  have hb := B.bytes
  have hr := B.returns
  have hts := atoms_spec (ws := wsX1_tapeOf) B.pre
  have hown : s.vm.findClass RX1 = some mI.cls := findClass_of_methodNamed B.named
  have hlocks := B.notSynchronized
  subst hsz
  have hD := hD0.self (sz := s.heap.size)
  generalize hAe : va_A [(x0, .inr (3, [.ref t0, p1, p2, p3, p4, p5, p6])), (t0, .inl (E 3, 4, .inr (.inr (.inr (.inr f)))))] s.heap.size = A at hD hZ ⊢
  have hA : ∀ q : Nat, s.heap.size ≤ q → A q := fun q h => by rw [← hAe]; exact Or.inr h
  have hS : va_S A s.heap s.heap [] := va_S.rf
  have hl := lv_entry ([.ref x0, .int (nI 0)]) (n := 2) (Nat.le_of_ble_eq_true rfl)
  rw [lg_entry_eq]
  generalize (lg_sl ([.ref x0, .int (nI 0)]) ++ List.replicate (2 - (lg_sl ([.ref x0, .int (nI 0)])).length) Slot.unset).toArray = ls at hl ⊢
  clear hAe hD0
  have hl : lv_has ls 2 [(0, .ref x0), (1, .int (nI 0))] := hl
  obtain ⟨H, hH⟩ : ∃ H, H = s.heap := ⟨_, rfl⟩
  rw [← hH] at hP
  have hS : va_S A s.heap H [] := by rw [hH]; exact hS
  refine rf_heap hH ?_
  refine lv_iload_n hx hb dX1_tapeOf_0 rfl (lv_at hl 1 rfl) ?_
  have hPc := hP.sub (ws' := []) [] rfl
  have hDc := hD.sub (ws' := []) [] (by decide) rfl
  have hFc := va_free (wc := []) hD hS hA [] rfl
  have h_1 : 0 + 0 ≤ 0 := by omega
  have h_2 : 0 + 0 ≤ 0 := by omega
  refine va_callv (va_runS (As := [.int (nI 0)]) (rest := []) ⟨hx, hb, hml, hown, hts⟩ (c_X1_checkTape l D E H.size ) (va_cwS 1 hts gX1_tapeOf_X1_checkTape rfl rfl rfl (by decide +kernel) ⟨Nat.le_of_ble_eq_true rfl, Nat.le_of_ble_eq_true rfl⟩) ⟨rf_blind _, fun U hU hW => ⟨rfl, rf_pre hK hPc hDc hZ hN hS hFc U hU hW⟩⟩ rfl rfl hl.1 rfl (lv_room (Nat.le_of_ble_eq_true rfl)) dX1_tapeOf_1 ⟨h_1, h_2⟩) hS (fun q _ h => hFc q h) hFc (fun u t H1 locs ht hvm hw hB hz1 hk1 hS => ?_)
  obtain ⟨hP1, hD1⟩ := hB
  rw [ht] at hP1
  try dsimp only at hw hP1 hD1
  obtain ⟨hP, hD⟩ := va_join (wr := [(x0, .inr (3, [.ref t0, p1, p2, p3, p4, p5, p6])), (t0, .inl (E 3, 4, .inr (.inr (.inr (.inr f)))))]) (w1 := []) hP hD [] [0, 1] rfl rfl (by decide) (by decide) hk1 hFc hP1 hD1
  clear hPc hDc hFc hP1 hD1 hk1 hz1 ht
  generalize H1 = H at hP hS ⊢
  have hP : va_P D vwCl [(x0, .inr (3, [.ref t0, p1, p2, p3, p4, p5, p6])), (t0, .inl (E 3, 4, .inr (.inr (.inr (.inr f)))))] H := hP
  have hD : va_D A [(x0, .inr (3, [.ref t0, p1, p2, p3, p4, p5, p6])), (t0, .inl (E 3, 4, .inr (.inr (.inr (.inr f)))))] := hD
  refine lv_aload_n hx hb dX1_tapeOf_4 rfl (lv_at hl 0 rfl) ?_
  refine va_get (D := D) (ci := 3) (v := .ref t0) (C := RX1) (T := TX1) (N := 7) hx hb hts (by decide +kernel) hown hK hP 0 rfl rfl 0 (by decide) (hts (.fieldLink RX1 11 "Tapebuffer" "tapes" "[LTapebuffer$Row;") (by decide +kernel)) (fun _ h9 => h9) rfl dX1_tapeOf_5 ?_
  refine lv_iload_n hx hb dX1_tapeOf_8 rfl (lv_at hl 1 rfl) ?_
  refine va_aldq hx hb hK hP 1 3 rfl rfl (vp_in_nI (by omega) (by omega)) dX1_tapeOf_9 (W.eq (g2 := F0 mI 10 ls (.ref r0 :: [])) (by rw [show (nI 0).toNatClampNeg = 0 from rfl, hf]; rfl) ?_)
  have hP := hP.sub (ws' := [(x0, .inr (3, [.ref t0, p1, p2, p3, p4, p5, p6])), (t0, .inl (E 3, 4, .inr (.inr (.inr (.inr f)))))]) [0, 1] rfl
  have hD := hD.sub (ws' := [(x0, .inr (3, [.ref t0, p1, p2, p3, p4, p5, p6])), (t0, .inl (E 3, 4, .inr (.inr (.inr (.inr f)))))]) [0, 1] (by decide) rfl
  exact W.aret (v := .ref r0) hx hb hr (Or.inl ⟨_, rfl⟩) (Or.inr ⟨_, rfl⟩) (fun t ht hW => ⟨⟨(), r0, rfl, trivial, ⟨rfl, rf_end ht hP hD⟩⟩, hS.F ht⟩) hS.2.2 dX1_tapeOf_10
set_option maxHeartbeats 4000000 in
set_option maxRecDepth 100000 in
/-- becomeLong(n) of an empty row -/
theorem c_X0_becomeLong (l : Launch) (D : va_G) (E : Nat → ClassId) (sz : Nat) (r0 g0 n : Nat) (hn : n ≤ 200) : Met l yX0_becomeLong wsX0_becomeLong ({ frames := 2, cells := 0, slots := 0, locals := 200 }) (va_Pc [.ref r0, .int (nI n)] (rf_P D E [(r0, .inr (2, [.ref g0, .int (nI (0))])), (g0, .inl (E 2, 256, .inl z0))] sz)) (va_Qv (fun (u : Unit) => True) (fun (u : Unit) (t : State) => rf_B D (va_A [(r0, .inr (2, [.ref g0, .int (nI (0))])), (g0, .inl (E 2, 256, .inl z0))] sz) [(r0, .inr (2, [.ref g0, .int (nI n)])), (g0, .inl (E 2, 256, .inl z0))] t) (va_A [(r0, .inr (2, [.ref g0, .int (nI (0))])), (g0, .inl (E 2, 256, .inl z0))] sz)) 0 0 (va_A [(r0, .inr (2, [.ref g0, .int (nI (0))])), (g0, .inl (E 2, 256, .inl z0))] sz) := by
  refine Met.ofW (cc := cX0_becomeLong) (maxL := 3) (ret := none) (by decide) rfl ?_
  intro p e s mI args below meth c s₁ B hml hv
  obtain ⟨rfl, hsz, hP, hK, hD0, hZ, hN⟩ := hv
  have hx := B.exec
  have hb := B.bytes
  have hr := B.returns
  have hts := atoms_spec (ws := wsX0_becomeLong) B.pre
  have hown : s.vm.findClass RX0 = some mI.cls := findClass_of_methodNamed B.named
  have hlocks := B.notSynchronized
  subst hsz
  have hD := hD0.self (sz := s.heap.size)
  generalize hAe : va_A [(r0, .inr (2, [.ref g0, .int (nI (0))])), (g0, .inl (E 2, 256, .inl z0))] s.heap.size = A at hD hZ ⊢
  have hA : ∀ q : Nat, s.heap.size ≤ q → A q := fun q h => by rw [← hAe]; exact Or.inr h
  have hS : va_S A s.heap s.heap [] := va_S.rf
  have hl := lv_entry ([.ref r0, .int (nI n)]) (n := 3) (Nat.le_of_ble_eq_true rfl)
  rw [lg_entry_eq]
  generalize (lg_sl ([.ref r0, .int (nI n)]) ++ List.replicate (3 - (lg_sl ([.ref r0, .int (nI n)])).length) Slot.unset).toArray = ls at hl ⊢
  clear hAe hD0
  have hl : lv_has ls 3 [(0, .ref r0), (1, .int (nI n))] := hl
  obtain ⟨H, hH⟩ : ∃ H, H = s.heap := ⟨_, rfl⟩
  rw [← hH] at hP
  have hS : va_S A s.heap H [] := by rw [hH]; exact hS
  refine rf_heap hH ?_
  refine lv_iload_n hx hb dX0_becomeLong_0 rfl (lv_at hl 1 rfl) ?_
  refine lv_if_lt (tgt := 11) hx hb dX0_becomeLong_1 rfl (fun h => absurd h (nI_pos (by omega))) (fun _ => ?_)
  refine lv_iload_n hx hb dX0_becomeLong_4 rfl (lv_at hl 1 rfl) ?_
  refine lv_sipush (v := nI 256) hx hb dX0_becomeLong_5 (by decide) ?_
  refine lv_icmp_le (tgt := 12) hx hb dX0_becomeLong_8 rfl (fun _ => ?_) (fun h => absurd (show nI (n) ≤ nI (256) from nI_le (by omega) (by omega)) h)
  refine lv_aload_n hx hb dX0_becomeLong_12 rfl (lv_at hl 0 rfl) ?_
  refine va_get (D := D) (ci := 2) (v := .int (nI (0))) (C := RX0) (T := TX0) (N := 2) hx hb hts (by decide +kernel) hown hK hP 0 rfl rfl 1 (by decide) (hts (.fieldLink RX0 15 "Tapebuffer$Row" "size" "I") (by decide +kernel)) (fun _ h9 => h9) rfl dX0_becomeLong_13 ?_
  refine lv_istore_n hx hb dX0_becomeLong_16 rfl hl (Nat.le_of_ble_eq_true rfl) rfl (fun ls hl => ?_)
  have hl : lv_has ls 3 [(2, .int (nI (0))), (0, .ref r0), (1, .int (nI n))] := hl
  have hl : lv_has ls 3 [(0, .ref r0), (1, .int (nI n)), (2, .int (nI (0)))] := lv_sub hl [1, 2, 0] rfl
  refine rf_loop (n) 0 0 (fun k H locs ls => lv_has ls 3 [(0, .ref r0), (1, .int (nI n)), (2, .int (nI (k)))] ∧ va_P D vwCl [(r0, .inr (2, [.ref g0, .int (nI (0))])), (g0, .inl (E 2, 256, .inl z0))] H ∧ va_D A [(r0, .inr (2, [.ref g0, .int (nI (0))])), (g0, .inl (E 2, 256, .inl z0))] ∧ va_S A s.heap H locs) ⟨hl, hP, hD, hS⟩ ?_ ?_
  · intro H locs ls hI
    obtain ⟨hl, hP, hD, hS⟩ := hI
    refine lv_iload_n hx hb dX0_becomeLong_17 rfl (lv_at hl 2 rfl) ?_
    refine lv_iload_n hx hb dX0_becomeLong_18 rfl (lv_at hl 1 rfl) ?_
    refine lv_icmp_ge (tgt := 35) hx hb dX0_becomeLong_19 rfl (fun _ => ?_) (fun h => absurd (show nI (n) ≤ nI (n) from nI_le (by omega) (by omega)) h)
    refine lv_aload_n hx hb dX0_becomeLong_35 rfl (lv_at hl 0 rfl) ?_
    refine lv_iload_n hx hb dX0_becomeLong_36 rfl (lv_at hl 1 rfl) ?_
    refine va_put (D := D) (ci := 2) (v := .int (nI n)) (ty := .int) (C := RX0) (T := TX0) (N := 2) hx hb hts (by decide +kernel) tyX0 tyX0_ok nmX0 hown hK hP hD hS 0 rfl rfl 1 (by decide) (hts (.fieldLink RX0 15 "Tapebuffer$Row" "size" "I") (by decide +kernel)) (fun _ h9 => h9) rfl (by decide +kernel) rfl rfl (Nat.le_of_ble_eq_true rfl) dX0_becomeLong_37 (fun H locs hP hD hS => ?_)
    have hP : va_P D vwCl [(r0, .inr (2, [.ref g0, .int (nI n)])), (g0, .inl (E 2, 256, .inl z0))] H := hP
    have hD : va_D A [(r0, .inr (2, [.ref g0, .int (nI n)])), (g0, .inl (E 2, 256, .inl z0))] := hD
    refine W.widen (k := 0) (n := 0) (by omega) (by omega) ?_
    have hP := hP.sub (ws' := [(r0, .inr (2, [.ref g0, .int (nI (n))])), (g0, .inl (E 2, 256, .inl z0))]) [0, 1] rfl
    have hD := hD.sub (ws' := [(r0, .inr (2, [.ref g0, .int (nI (n))])), (g0, .inl (E 2, 256, .inl z0))]) [0, 1] (by decide) rfl
    exact W.vret hx hb hr (fun t ht hW => ⟨⟨(), rfl, trivial, rf_end ht hP hD⟩, hS.F ht⟩) hS.2.2 dX0_becomeLong_40
  · intro k H locs ls hkN hI kk
    obtain ⟨hl, hP, hD, hS⟩ := hI
    refine lv_iload_n hx hb dX0_becomeLong_17 rfl (lv_at hl 2 rfl) ?_
    refine lv_iload_n hx hb dX0_becomeLong_18 rfl (lv_at hl 1 rfl) ?_
    refine lv_icmp_ge (tgt := 35) hx hb dX0_becomeLong_19 rfl (fun h => absurd h (show ¬ nI (n) ≤ nI (k) from nI_ge (by omega) (by omega))) (fun _ => ?_)
    refine lv_aload_n hx hb dX0_becomeLong_22 rfl (lv_at hl 0 rfl) ?_
    refine va_get (D := D) (ci := 2) (v := .ref g0) (C := RX0) (T := TX0) (N := 2) hx hb hts (by decide +kernel) hown hK hP 0 rfl rfl 0 (by decide) (hts (.fieldLink RX0 9 "Tapebuffer$Row" "signs" "[I") (by decide +kernel)) (fun _ h9 => h9) rfl dX0_becomeLong_23 ?_
    refine lv_iload_n hx hb dX0_becomeLong_26 rfl (lv_at hl 2 rfl) ?_
    refine lv_iconst (v := 0) hx hb dX0_becomeLong_27 (by decide) ?_
    refine va_iast hx hb hK hP hD hS 1 2 rfl rfl (vp_in_nI (by omega) (by omega)) dX0_becomeLong_28 (fun H locs hP hD hS => ?_)
    rw [rf_u0] at hP hD
    have hP : va_P D vwCl [(r0, .inr (2, [.ref g0, .int (nI (0))])), (g0, .inl (E 2, 256, .inl z0))] H := hP
    have hD : va_D A [(r0, .inr (2, [.ref g0, .int (nI (0))])), (g0, .inl (E 2, 256, .inl z0))] := hD
    refine lv_iinc (v := nI (k + 1)) hx hb dX0_becomeLong_29 hl (k := 2) rfl ((show nI (k) + Int32.ofInt 1 = nI (k) + nI 1 from rfl).trans ((nI_add _ _).trans (congrArg nI (by omega)))) (Nat.le_of_ble_eq_true rfl) rfl (fun ls hl => ?_)
    have hl : lv_has ls 3 [(2, .int (nI (k + 1))), (0, .ref r0), (1, .int (nI n))] := hl
    have hl : lv_has ls 3 [(0, .ref r0), (1, .int (nI n)), (2, .int (nI (k + 1)))] := lv_sub hl [1, 2, 0] rfl
    refine lv_goto (tgt := 17) hx hb dX0_becomeLong_32 rfl ?_
    refine W.widen (k := 0 + (k + 1) * 0) (n := 0 + (k + 1) * 0) (by omega) (by omega) ?_
    exact kk _ _ _ ⟨hl, hP, hD, hS⟩
set_option maxHeartbeats 4000000 in
set_option maxRecDepth 100000 in
/-- setLength(0, n), the tape empty -/
theorem c_X1_setLength (l : Launch) (D : va_G) (E : Nat → ClassId) (sz : Nat) (x0 t0 r0 g0 n : Nat) (f : Nat → Option Nat) (p1 p2 p3 p4 p5 p6 : Value) (hf : f 0 = some r0) (hn : n ≤ 200) : Met l yX1_setLength wsX1_setLength ({ frames := 4, cells := 0, slots := 0, locals := 600 }) (va_Pc [.ref x0, .int (nI 0), .int (nI n)] (rf_P D E [(x0, .inr (3, [.ref t0, p1, p2, p3, p4, p5, p6])), (t0, .inl (E 3, 4, .inr (.inr (.inr (.inr f))))), (r0, .inr (2, [.ref g0, .int (nI (0))])), (g0, .inl (E 2, 256, .inl z0))] sz)) (va_Qi (fun (r : Int32) (u : Unit) => r = nI 0) (fun (u : Unit) (t : State) => rf_B D (va_A [(x0, .inr (3, [.ref t0, p1, p2, p3, p4, p5, p6])), (t0, .inl (E 3, 4, .inr (.inr (.inr (.inr f))))), (r0, .inr (2, [.ref g0, .int (nI (0))])), (g0, .inl (E 2, 256, .inl z0))] sz) [(x0, .inr (3, [.ref t0, p1, p2, p3, p4, p5, p6])), (t0, .inl (E 3, 4, .inr (.inr (.inr (.inr f))))), (r0, .inr (2, [.ref g0, .int (nI (n))])), (g0, .inl (E 2, 256, .inl z0))] t) (va_A [(x0, .inr (3, [.ref t0, p1, p2, p3, p4, p5, p6])), (t0, .inl (E 3, 4, .inr (.inr (.inr (.inr f))))), (r0, .inr (2, [.ref g0, .int (nI (0))])), (g0, .inl (E 2, 256, .inl z0))] sz)) 0 0 (va_A [(x0, .inr (3, [.ref t0, p1, p2, p3, p4, p5, p6])), (t0, .inl (E 3, 4, .inr (.inr (.inr (.inr f))))), (r0, .inr (2, [.ref g0, .int (nI (0))])), (g0, .inl (E 2, 256, .inl z0))] sz) := by
  refine Met.ofW (cc := cX1_setLength) (maxL := 5) (ret := (some .int)) (by decide) rfl ?_
  intro p e s mI args below meth c s₁ B hml hv
  obtain ⟨rfl, hsz, hP, hK, hD0, hZ, hN⟩ := hv
  have hx := B.exec
  have hb := B.bytes
  have hr := B.returns
  have hts := atoms_spec (ws := wsX1_setLength) B.pre
  have hown : s.vm.findClass RX1 = some mI.cls := findClass_of_methodNamed B.named
  have hlocks := B.notSynchronized
  subst hsz
  have hD := hD0.self (sz := s.heap.size)
  generalize hAe : va_A [(x0, .inr (3, [.ref t0, p1, p2, p3, p4, p5, p6])), (t0, .inl (E 3, 4, .inr (.inr (.inr (.inr f))))), (r0, .inr (2, [.ref g0, .int (nI (0))])), (g0, .inl (E 2, 256, .inl z0))] s.heap.size = A at hD hZ ⊢
  have hA : ∀ q : Nat, s.heap.size ≤ q → A q := fun q h => by rw [← hAe]; exact Or.inr h
  have hS : va_S A s.heap s.heap [] := va_S.rf
  have hl := lv_entry ([.ref x0, .int (nI 0), .int (nI n)]) (n := 5) (Nat.le_of_ble_eq_true rfl)
  rw [lg_entry_eq]
  generalize (lg_sl ([.ref x0, .int (nI 0), .int (nI n)]) ++ List.replicate (5 - (lg_sl ([.ref x0, .int (nI 0), .int (nI n)])).length) Slot.unset).toArray = ls at hl ⊢
  clear hAe hD0
  have hl : lv_has ls 5 [(0, .ref x0), (1, .int (nI 0)), (2, .int (nI n))] := hl
  obtain ⟨H, hH⟩ : ∃ H, H = s.heap := ⟨_, rfl⟩
  rw [← hH] at hP
  have hS : va_S A s.heap H [] := by rw [hH]; exact hS
  refine rf_heap hH ?_
  refine lv_aload_n hx hb dX1_setLength_0 rfl (lv_at hl 0 rfl) ?_
  refine lv_iload_n hx hb dX1_setLength_1 rfl (lv_at hl 1 rfl) ?_
  have hPc := hP.sub (ws' := [(x0, .inr (3, [.ref t0, p1, p2, p3, p4, p5, p6])), (t0, .inl (E 3, 4, .inr (.inr (.inr (.inr f)))))]) [0, 1] rfl
  have hDc := hD.sub (ws' := [(x0, .inr (3, [.ref t0, p1, p2, p3, p4, p5, p6])), (t0, .inl (E 3, 4, .inr (.inr (.inr (.inr f)))))]) [0, 1] (by decide) rfl
  have hFc := va_free (wc := [(x0, .inr (3, [.ref t0, p1, p2, p3, p4, p5, p6])), (t0, .inl (E 3, 4, .inr (.inr (.inr (.inr f)))))]) hD hS hA [0, 1] rfl
  have h_1 : 0 + 0 ≤ 0 := by omega
  have h_2 : 0 + 0 ≤ 0 := by omega
  refine va_callr (va_runV (As := [.int (nI 0)]) (rest := []) ⟨hx, hb, hml, hown, hts⟩ (c_X1_tapeOf l D E H.size (x0) (t0) (r0) (f) (p1) (p2) (p3) (p4) (p5) (p6) (hf)) (cwV 1 hts gX1_setLength_X1_tapeOf rfl rfl rfl (by decide +kernel) ⟨Nat.le_of_ble_eq_true rfl, Nat.le_of_ble_eq_true rfl⟩) ⟨rf_blind _, va_recv hK hPc (ci := 3) (q0 := 0) rfl rfl, fun U hU hW => ⟨rfl, rf_pre hK hPc hDc hZ hN hS hFc U hU hW⟩⟩ rfl rfl hl.1 rfl (lv_room (Nat.le_of_ble_eq_true rfl)) dX1_setLength_2 ⟨h_1, h_2⟩) hS (fun q _ h => hFc q h) hFc (fun u ra t H1 locs ht hvm hw hB hz1 hk1 hS => ?_)
  obtain ⟨hra, hP1, hD1⟩ := hB
  try dsimp only at hra
  subst ra
  rw [ht] at hP1
  try dsimp only at hw hP1 hD1
  obtain ⟨hP, hD⟩ := va_join (wr := [(r0, .inr (2, [.ref g0, .int (nI (0))])), (g0, .inl (E 2, 256, .inl z0))]) (w1 := [(x0, .inr (3, [.ref t0, p1, p2, p3, p4, p5, p6])), (t0, .inl (E 3, 4, .inr (.inr (.inr (.inr f)))))]) hP hD [0, 1] [2, 3] rfl rfl (by decide) (by decide) hk1 hFc hP1 hD1
  clear hPc hDc hFc hP1 hD1 hk1 hz1 ht
  generalize H1 = H at hP hS ⊢
  have hP : va_P D vwCl [(r0, .inr (2, [.ref g0, .int (nI (0))])), (g0, .inl (E 2, 256, .inl z0)), (x0, .inr (3, [.ref t0, p1, p2, p3, p4, p5, p6])), (t0, .inl (E 3, 4, .inr (.inr (.inr (.inr f)))))] H := hP
  have hD : va_D A [(r0, .inr (2, [.ref g0, .int (nI (0))])), (g0, .inl (E 2, 256, .inl z0)), (x0, .inr (3, [.ref t0, p1, p2, p3, p4, p5, p6])), (t0, .inl (E 3, 4, .inr (.inr (.inr (.inr f)))))] := hD
  refine lv_astore_n hx hb dX1_setLength_5 rfl hl (Nat.le_of_ble_eq_true rfl) rfl (fun ls hl => ?_)
  have hl : lv_has ls 5 [(3, .ref r0), (0, .ref x0), (1, .int (nI 0)), (2, .int (nI n))] := hl
  refine lv_iload_n hx hb dX1_setLength_6 rfl (lv_at hl 3 rfl) ?_
  have hPc := hP.sub (ws' := []) [] rfl
  have hDc := hD.sub (ws' := []) [] (by decide) rfl
  have hFc := va_free (wc := []) hD hS hA [] rfl
  have h_1 : 0 + 0 ≤ 0 := by omega
  have h_2 : 0 + 0 ≤ 0 := by omega
  refine va_callv (va_runS (As := [.int (nI n)]) (rest := []) ⟨hx, hb, hml, hown, hts⟩ (c_X1_checkLength l D E H.size (n) (by omega)) (va_cwS 1 hts gX1_setLength_X1_checkLength rfl rfl rfl (by decide +kernel) ⟨Nat.le_of_ble_eq_true rfl, Nat.le_of_ble_eq_true rfl⟩) ⟨rf_blind _, fun U hU hW => ⟨rfl, rf_pre hK hPc hDc hZ hN hS hFc U hU hW⟩⟩ rfl rfl hl.1 rfl (lv_room (Nat.le_of_ble_eq_true rfl)) dX1_setLength_7 ⟨h_1, h_2⟩) hS (fun q _ h => hFc q h) hFc (fun u t H1 locs ht hvm hw hB hz1 hk1 hS => ?_)
  obtain ⟨hP1, hD1⟩ := hB
  rw [ht] at hP1
  try dsimp only at hw hP1 hD1
  obtain ⟨hP, hD⟩ := va_join (wr := [(r0, .inr (2, [.ref g0, .int (nI (0))])), (g0, .inl (E 2, 256, .inl z0)), (x0, .inr (3, [.ref t0, p1, p2, p3, p4, p5, p6])), (t0, .inl (E 3, 4, .inr (.inr (.inr (.inr f)))))]) (w1 := []) hP hD [] [0, 1, 2, 3] rfl rfl (by decide) (by decide) hk1 hFc hP1 hD1
  clear hPc hDc hFc hP1 hD1 hk1 hz1 ht
  generalize H1 = H at hP hS ⊢
  have hP : va_P D vwCl [(r0, .inr (2, [.ref g0, .int (nI (0))])), (g0, .inl (E 2, 256, .inl z0)), (x0, .inr (3, [.ref t0, p1, p2, p3, p4, p5, p6])), (t0, .inl (E 3, 4, .inr (.inr (.inr (.inr f)))))] H := hP
  have hD : va_D A [(r0, .inr (2, [.ref g0, .int (nI (0))])), (g0, .inl (E 2, 256, .inl z0)), (x0, .inr (3, [.ref t0, p1, p2, p3, p4, p5, p6])), (t0, .inl (E 3, 4, .inr (.inr (.inr (.inr f)))))] := hD
  refine lv_aload_n hx hb dX1_setLength_10 rfl (lv_at hl 0 rfl) ?_
  refine va_get (D := D) (ci := 2) (v := .int (nI (0))) (C := RX0) (T := TX0) (N := 2) hx hb hts (by decide +kernel) hown hK hP 0 rfl rfl 1 (by decide) (hts (.fieldLink RX1 92 "Tapebuffer$Row" "size" "I") (by decide +kernel)) (fun _ h9 => h9) rfl dX1_setLength_11 ?_
  refine lv_istore hx hb dX1_setLength_14 hl (Nat.le_of_ble_eq_true rfl) rfl (fun ls hl => ?_)
  have hl : lv_has ls 5 [(4, .int (nI (0))), (3, .ref r0), (0, .ref x0), (1, .int (nI 0)), (2, .int (nI n))] := hl
  refine lv_aload_n hx hb dX1_setLength_16 rfl (lv_at hl 1 rfl) ?_
  refine lv_iload_n hx hb dX1_setLength_17 rfl (lv_at hl 4 rfl) ?_
  have hPc := hP.sub (ws' := [(r0, .inr (2, [.ref g0, .int (nI (0))])), (g0, .inl (E 2, 256, .inl z0))]) [0, 1] rfl
  have hDc := hD.sub (ws' := [(r0, .inr (2, [.ref g0, .int (nI (0))])), (g0, .inl (E 2, 256, .inl z0))]) [0, 1] (by decide) rfl
  have hFc := va_free (wc := [(r0, .inr (2, [.ref g0, .int (nI (0))])), (g0, .inl (E 2, 256, .inl z0))]) hD hS hA [0, 1] rfl
  have h_1 : 0 + 0 ≤ 0 := by omega
  have h_2 : 0 + 0 ≤ 0 := by omega
  refine va_callv (va_runV (As := [.int (nI n)]) (rest := []) ⟨hx, hb, hml, hown, hts⟩ (c_X0_becomeLong l D E H.size (r0) (g0) (n) (by omega)) (cwV 1 hts gX1_setLength_X0_becomeLong rfl rfl rfl (by decide +kernel) ⟨Nat.le_of_ble_eq_true rfl, Nat.le_of_ble_eq_true rfl⟩) ⟨rf_blind _, va_recv hK hPc (ci := 2) (q0 := 0) rfl rfl, fun U hU hW => ⟨rfl, rf_pre hK hPc hDc hZ hN hS hFc U hU hW⟩⟩ rfl rfl hl.1 rfl (lv_room (Nat.le_of_ble_eq_true rfl)) dX1_setLength_18 ⟨h_1, h_2⟩) hS (fun q _ h => hFc q h) hFc (fun u t H1 locs ht hvm hw hB hz1 hk1 hS => ?_)
  obtain ⟨hP1, hD1⟩ := hB
  rw [ht] at hP1
  try dsimp only at hw hP1 hD1
  obtain ⟨hP, hD⟩ := va_join (wr := [(x0, .inr (3, [.ref t0, p1, p2, p3, p4, p5, p6])), (t0, .inl (E 3, 4, .inr (.inr (.inr (.inr f)))))]) (w1 := [(r0, .inr (2, [.ref g0, .int (nI (n))])), (g0, .inl (E 2, 256, .inl z0))]) hP hD [0, 1] [2, 3] rfl rfl (by decide) (by decide) hk1 hFc hP1 hD1
  clear hPc hDc hFc hP1 hD1 hk1 hz1 ht
  generalize H1 = H at hP hS ⊢
  have hP : va_P D vwCl [(x0, .inr (3, [.ref t0, p1, p2, p3, p4, p5, p6])), (t0, .inl (E 3, 4, .inr (.inr (.inr (.inr f))))), (r0, .inr (2, [.ref g0, .int (nI (n))])), (g0, .inl (E 2, 256, .inl z0))] H := hP
  have hD : va_D A [(x0, .inr (3, [.ref t0, p1, p2, p3, p4, p5, p6])), (t0, .inl (E 3, 4, .inr (.inr (.inr (.inr f))))), (r0, .inr (2, [.ref g0, .int (nI (n))])), (g0, .inl (E 2, 256, .inl z0))] := hD
  refine lv_iload hx hb dX1_setLength_21 (lv_at hl 0 rfl) ?_
  have hP := hP.sub (ws' := [(x0, .inr (3, [.ref t0, p1, p2, p3, p4, p5, p6])), (t0, .inl (E 3, 4, .inr (.inr (.inr (.inr f))))), (r0, .inr (2, [.ref g0, .int (nI (n))])), (g0, .inl (E 2, 256, .inl z0))]) [0, 1, 2, 3] rfl
  have hD := hD.sub (ws' := [(x0, .inr (3, [.ref t0, p1, p2, p3, p4, p5, p6])), (t0, .inl (E 3, 4, .inr (.inr (.inr (.inr f))))), (r0, .inr (2, [.ref g0, .int (nI (n))])), (g0, .inl (E 2, 256, .inl z0))]) [0, 1, 2, 3] (by decide) rfl
  exact W.iret (v := nI (0)) hx hb hr (fun t ht hW => ⟨⟨nI (0), (), rfl, rfl, rf_end ht hP hD⟩, hS.F ht⟩) hS.2.2 dX1_setLength_23
set_option maxHeartbeats 4000000 in
set_option maxRecDepth 100000 in
/-- textOf(0, n) -/
theorem c_X0_textOf (l : Launch) (D : va_G) (E : Nat → ClassId) (sz : Nat) (r0 g0 n : Nat) (hn : n ≤ 200) (h1 : 0 < n) : Met l yX0_textOf wsX0_textOf ({ frames := 6, cells := 3, slots := 404, locals := 1000 }) (va_Pc [.ref r0, .int (nI 0), .int (nI n)] (rf_P D E [(r0, .inr (2, [.ref g0, .int (nI (n))])), (g0, .inl (E 2, 256, .inl z0))] sz)) (va_Qr (fun (u : Nat) => True) (fun (u : Nat) (ra : Nat) (t : State) => rf_B D (va_A [(r0, .inr (2, [.ref g0, .int (nI (n))])), (g0, .inl (E 2, 256, .inl z0))] sz) [(ra, .inr (0, [.ref u, .int 0, .int 0, .int 0])), (u, .inl (E 0, n, .inl z0)), (r0, .inr (2, [.ref g0, .int (nI n)])), (g0, .inl (E 2, 256, .inl z0))] t) (va_A [(r0, .inr (2, [.ref g0, .int (nI (n))])), (g0, .inl (E 2, 256, .inl z0))] sz)) 3 404 (va_A [(r0, .inr (2, [.ref g0, .int (nI (n))])), (g0, .inl (E 2, 256, .inl z0))] sz) := by
  refine Met.ofW (cc := cX0_textOf) (maxL := 5) (ret := (some (.object "java/lang/String"))) (by decide) rfl ?_
  intro p e s mI args below meth c s₁ B hml hv
  obtain ⟨rfl, hsz, hP, hK, hD0, hZ, hN⟩ := hv
  have hx := B.exec
  have hb := B.bytes
  have hr := B.returns
  have hts := atoms_spec (ws := wsX0_textOf) B.pre
  have hown : s.vm.findClass RX0 = some mI.cls := findClass_of_methodNamed B.named
  have hlocks := B.notSynchronized
  subst hsz
  have hD := hD0.self (sz := s.heap.size)
  generalize hAe : va_A [(r0, .inr (2, [.ref g0, .int (nI (n))])), (g0, .inl (E 2, 256, .inl z0))] s.heap.size = A at hD hZ ⊢
  have hA : ∀ q : Nat, s.heap.size ≤ q → A q := fun q h => by rw [← hAe]; exact Or.inr h
  have hS : va_S A s.heap s.heap [] := va_S.rf
  have hl := lv_entry ([.ref r0, .int (nI 0), .int (nI n)]) (n := 5) (Nat.le_of_ble_eq_true rfl)
  rw [lg_entry_eq]
  generalize (lg_sl ([.ref r0, .int (nI 0), .int (nI n)]) ++ List.replicate (5 - (lg_sl ([.ref r0, .int (nI 0), .int (nI n)])).length) Slot.unset).toArray = ls at hl ⊢
  clear hAe hD0
  have hl : lv_has ls 5 [(0, .ref r0), (1, .int (nI 0)), (2, .int (nI n))] := hl
  obtain ⟨H, hH⟩ : ∃ H, H = s.heap := ⟨_, rfl⟩
  rw [← hH] at hP
  have hS : va_S A s.heap H [] := by rw [hH]; exact hS
  refine rf_heap hH ?_
  refine lv_iload_n hx hb dX0_textOf_0 rfl (lv_at hl 1 rfl) ?_
  refine lv_if_lt (tgt := 17) hx hb dX0_textOf_1 rfl (fun h => absurd h (by decide)) (fun _ => ?_)
  refine lv_iload_n hx hb dX0_textOf_4 rfl (lv_at hl 2 rfl) ?_
  refine lv_iload_n hx hb dX0_textOf_5 rfl (lv_at hl 1 rfl) ?_
  refine lv_icmp_lt (tgt := 17) hx hb dX0_textOf_6 rfl (fun h => absurd h (show ¬ nI (n) < nI (0) from nI_nlt (by omega) (by omega))) (fun _ => ?_)
  refine lv_iload_n hx hb dX0_textOf_9 rfl (lv_at hl 2 rfl) ?_
  refine lv_aload_n hx hb dX0_textOf_10 rfl (lv_at hl 0 rfl) ?_
  refine va_get (D := D) (ci := 2) (v := .int (nI (n))) (C := RX0) (T := TX0) (N := 2) hx hb hts (by decide +kernel) hown hK hP 0 rfl rfl 1 (by decide) (hts (.fieldLink RX0 15 "Tapebuffer$Row" "size" "I") (by decide +kernel)) (fun _ h9 => h9) rfl dX0_textOf_11 ?_
  refine lv_icmp_le (tgt := 20) hx hb dX0_textOf_14 rfl (fun _ => ?_) (fun h => absurd (show nI (n) ≤ nI (n) from nI_le (by omega) (by omega)) h)
  refine lv_iload_n hx hb dX0_textOf_20 rfl (lv_at hl 2 rfl) ?_
  refine lv_iload_n hx hb dX0_textOf_21 rfl (lv_at hl 1 rfl) ?_
  refine lv_isub hx hb dX0_textOf_22 (lv_topi (fun f1 ef => ?_))
  obtain rfl : f1 = nI (n) := (show f1 = nI (n) - nI (0) from ef).trans ((pk_sub (by omega)).trans (congrArg nI (by omega)))
  have h_1 : 0 + 1 ≤ 3 := by omega
  have h_2 : 0 + (n) ≤ 404 := by omega
  refine va_newa (atype := .char) (N' := n) (a0 := (n, .inl z0)) hx hb (hts (.arrayClass .char) (by decide +kernel)) rfl hK hP hD hS hA (fun _ => rfl) (nI_pos (by omega)) (nI_clamp (by omega)) (Nat.le_trans (Nat.mul_le_mul_right _ (show n ≤ 200 by omega)) (Nat.le_of_ble_eq_true rfl)) h_1 h_2 dX0_textOf_23 (fun q1 cA H hK2 hP hD hS => ?_)
  obtain rfl := rf_char hK2
  have hP : va_P D vwCl [(r0, .inr (2, [.ref g0, .int (nI (n))])), (g0, .inl (E 2, 256, .inl z0)), (q1, .inl (E 1, n, .inl z0))] H := hP
  have hD : va_D A [(r0, .inr (2, [.ref g0, .int (nI (n))])), (g0, .inl (E 2, 256, .inl z0)), (q1, .inl (E 1, n, .inl z0))] := hD
  refine W.widen (k := 1) (n := 200) (by omega) (by omega) ?_
  refine lv_astore_n hx hb dX0_textOf_25 rfl hl (Nat.le_of_ble_eq_true rfl) rfl (fun ls hl => ?_)
  have hl : lv_has ls 5 [(3, .ref q1), (0, .ref r0), (1, .int (nI 0)), (2, .int (nI n))] := hl
  refine lv_iconst (v := nI 0) hx hb dX0_textOf_26 (by decide) ?_
  refine lv_istore hx hb dX0_textOf_27 hl (Nat.le_of_ble_eq_true rfl) rfl (fun ls hl => ?_)
  have hl : lv_has ls 5 [(4, .int (nI 0)), (3, .ref q1), (0, .ref r0), (1, .int (nI 0)), (2, .int (nI n))] := hl
  have hl : lv_has ls 5 [(0, .ref r0), (1, .int (nI 0)), (2, .int (nI n)), (3, .ref q1), (4, .int (nI 0))] := lv_sub hl [2, 3, 4, 1, 0] rfl
  refine rf_loop (n) 0 0 (fun k H locs ls => lv_has ls 5 [(0, .ref r0), (1, .int (nI 0)), (2, .int (nI n)), (3, .ref q1), (4, .int (nI (k)))] ∧ va_P D vwCl [(r0, .inr (2, [.ref g0, .int (nI (n))])), (g0, .inl (E 2, 256, .inl z0)), (q1, .inl (E 1, n, .inl z0))] H ∧ va_D A [(r0, .inr (2, [.ref g0, .int (nI (n))])), (g0, .inl (E 2, 256, .inl z0)), (q1, .inl (E 1, n, .inl z0))] ∧ va_S A s.heap H locs) ⟨hl, hP, hD, hS⟩ ?_ ?_
  · intro H locs ls hI
    obtain ⟨hl, hP, hD, hS⟩ := hI
    refine lv_iload hx hb dX0_textOf_29 (lv_at hl 4 rfl) ?_
    refine lv_aload_n hx hb dX0_textOf_31 rfl (lv_at hl 3 rfl) ?_
    refine va_alen (v := nI (n)) hx hb hK hP 2 1 rfl rfl rfl dX0_textOf_32 ?_
    refine lv_icmp_ge (tgt := 56) hx hb dX0_textOf_33 rfl (fun _ => ?_) (fun h => absurd (show nI (n) ≤ nI (n) from nI_le (by omega) (by omega)) h)
    have h_1 : 1 + n * 0 + 1 ≤ 3 := by omega
    have h_2 : 200 + n * 0 + 4 ≤ 404 := by omega
    refine va_new (ci := 0) (fs := [.null, .int 0, .int 0, .int 0]) (C := RJ0) (T := TJ0) (N := 4) hx hb hts (by decide +kernel) tyJ0 tyJ0_ok hown (hts (.classLink RX0 30 RJ0) (by decide +kernel)) (hts (.instantiable RJ0 4) (by decide +kernel)) (hts (.initialized RJ0) (by decide +kernel)) hK hP hD hS hA rfl (fun j hj => by rcases (show j = 0 ∨ j = 1 ∨ j = 2 ∨ j = 3 by omega) with rfl | rfl | rfl | rfl <;> rfl) h_1 h_2 dX0_textOf_56 (fun q2 H hP hD hS => ?_)
    have hP : va_P D vwCl [(r0, .inr (2, [.ref g0, .int (nI (n))])), (g0, .inl (E 2, 256, .inl z0)), (q1, .inl (E 1, n, .inl z0)), (q2, .inr (0, [.null, .int 0, .int 0, .int 0]))] H := hP
    have hD : va_D A [(r0, .inr (2, [.ref g0, .int (nI (n))])), (g0, .inl (E 2, 256, .inl z0)), (q1, .inl (E 1, n, .inl z0)), (q2, .inr (0, [.null, .int 0, .int 0, .int 0]))] := hD
    refine W.widen (k := 1 + n * 0 + 1) (n := 200 + n * 0 + 4) (by omega) (by omega) ?_
    refine lv_dup hx hb dX0_textOf_59 rfl ?_
    refine lv_aload_n hx hb dX0_textOf_60 rfl (lv_at hl 3 rfl) ?_
    have hPc := hP.sub (ws' := [(q2, .inr (0, [.null, .int 0, .int 0, .int 0])), (q1, .inl (E 1, n, .inl z0))]) [3, 2] rfl
    have hDc := hD.sub (ws' := [(q2, .inr (0, [.null, .int 0, .int 0, .int 0])), (q1, .inl (E 1, n, .inl z0))]) [3, 2] (by decide) rfl
    have hFc := va_free (wc := [(q2, .inr (0, [.null, .int 0, .int 0, .int 0])), (q1, .inl (E 1, n, .inl z0))]) hD hS hA [3, 2] rfl
    have h_1 : 1 + n * 0 + 1 + 1 ≤ 3 := by omega
    have h_2 : 200 + n * 0 + 4 + 200 ≤ 404 := by omega
    refine va_callv (va_runI (As := [.ref q1]) (rest := [.ref q2]) ⟨hx, hb, hml, hown, hts⟩ (c_J0_init_905df l D E H.size (q2) (q1) (n) (by omega) (by omega)) (cwI 1 hts gX0_textOf_J0_init_905df rfl rfl rfl (hts (.initialized RJ0) (by decide +kernel)) (hts (.methodLink RX0 52 yJ0_init_905df) (by decide +kernel)) (hts (.instanceMethod yJ0_init_905df) (by decide +kernel)) rfl (by decide +kernel) ⟨Nat.le_of_ble_eq_true rfl, Nat.le_of_ble_eq_true rfl⟩) ⟨rf_blind _, fun U hU hW => ⟨rfl, rf_pre hK hPc hDc hZ hN hS hFc U hU hW⟩⟩ rfl rfl hl.1 rfl (lv_room (Nat.le_of_ble_eq_true rfl)) dX0_textOf_61 ⟨h_1, h_2⟩) hS (fun q _ h => hFc q h) hFc (fun u t H1 locs ht hvm hw hB hz1 hk1 hS => ?_)
    obtain ⟨hP1, hD1⟩ := hB
    rw [ht] at hP1
    try dsimp only at hw hP1 hD1
    obtain ⟨hP, hD⟩ := va_join (wr := [(r0, .inr (2, [.ref g0, .int (nI (n))])), (g0, .inl (E 2, 256, .inl z0))]) (w1 := [(q2, .inr (0, [.ref u, .int 0, .int 0, .int 0])), (u, .inl (E 0, n, .inl z0)), (q1, .inl (E 1, n, .inl z0))]) hP hD [3, 2] [0, 1] rfl rfl (by decide) (by decide) hk1 hFc hP1 hD1
    clear hPc hDc hFc hP1 hD1 hk1 hz1 ht
    generalize H1 = H at hP hS ⊢
    have hP : va_P D vwCl [(r0, .inr (2, [.ref g0, .int (nI (n))])), (g0, .inl (E 2, 256, .inl z0)), (q2, .inr (0, [.ref u, .int 0, .int 0, .int 0])), (u, .inl (E 0, n, .inl z0)), (q1, .inl (E 1, n, .inl z0))] H := hP
    have hD : va_D A [(r0, .inr (2, [.ref g0, .int (nI (n))])), (g0, .inl (E 2, 256, .inl z0)), (q2, .inr (0, [.ref u, .int 0, .int 0, .int 0])), (u, .inl (E 0, n, .inl z0)), (q1, .inl (E 1, n, .inl z0))] := hD
    refine W.widen (k := 1 + n * 0 + 2) (n := 200 + n * 0 + 204) (by omega) (by omega) ?_
    refine W.widen (k := 3) (n := 404) (by omega) (by omega) ?_
    have hP := hP.sub (ws' := [(q2, .inr (0, [.ref u, .int 0, .int 0, .int 0])), (u, .inl (E 0, n, .inl z0)), (r0, .inr (2, [.ref g0, .int (nI (n))])), (g0, .inl (E 2, 256, .inl z0))]) [2, 3, 0, 1] rfl
    have hD := hD.sub (ws' := [(q2, .inr (0, [.ref u, .int 0, .int 0, .int 0])), (u, .inl (E 0, n, .inl z0)), (r0, .inr (2, [.ref g0, .int (nI (n))])), (g0, .inl (E 2, 256, .inl z0))]) [2, 3, 0, 1] (by decide) rfl
    exact W.aret (v := .ref q2) hx hb hr (Or.inl ⟨_, rfl⟩) (Or.inr ⟨_, rfl⟩) (fun t ht hW => ⟨⟨u, q2, rfl, trivial, rf_end ht hP hD⟩, hS.F ht⟩) hS.2.2 dX0_textOf_64
  · intro k H locs ls hkN hI kk
    obtain ⟨hl, hP, hD, hS⟩ := hI
    refine lv_iload hx hb dX0_textOf_29 (lv_at hl 4 rfl) ?_
    refine lv_aload_n hx hb dX0_textOf_31 rfl (lv_at hl 3 rfl) ?_
    refine va_alen (v := nI (n)) hx hb hK hP 2 1 rfl rfl rfl dX0_textOf_32 ?_
    refine lv_icmp_ge (tgt := 56) hx hb dX0_textOf_33 rfl (fun h => absurd h (show ¬ nI (n) ≤ nI (k) from nI_ge (by omega) (by omega))) (fun _ => ?_)
    refine lv_aload_n hx hb dX0_textOf_36 rfl (lv_at hl 3 rfl) ?_
    refine lv_iload hx hb dX0_textOf_37 (lv_at hl 4 rfl) ?_
    refine lv_aload_n hx hb dX0_textOf_39 rfl (lv_at hl 0 rfl) ?_
    refine va_get (D := D) (ci := 2) (v := .ref g0) (C := RX0) (T := TX0) (N := 2) hx hb hts (by decide +kernel) hown hK hP 0 rfl rfl 0 (by decide) (hts (.fieldLink RX0 9 "Tapebuffer$Row" "signs" "[I") (by decide +kernel)) (fun _ h9 => h9) rfl dX0_textOf_40 ?_
    refine lv_iload_n hx hb dX0_textOf_43 rfl (lv_at hl 1 rfl) ?_
    refine lv_iload hx hb dX0_textOf_44 (lv_at hl 4 rfl) ?_
    refine lv_iadd hx hb dX0_textOf_46 (lv_topi (fun f2 ef => ?_))
    obtain rfl : f2 = nI (k) := (show f2 = nI (0) + nI (k) from ef).trans ((nI_add _ _).trans (congrArg nI (by omega)))
    refine va_iald hx hb hK hP 1 2 rfl rfl (vp_in_nI (by omega) (by omega)) dX0_textOf_47 (W.eq (g2 := F0 mI 48 ls (.int 0 :: [.int (nI (k)), .ref q1])) rfl ?_)
    refine lv_i2c (v := 0) hx hb dX0_textOf_48 (by decide) ?_
    refine va_cast hx hb hK hP hD hS 2 1 rfl rfl (vp_in_nI (by omega) (by omega)) dX0_textOf_49 (fun H locs hP hD hS => ?_)
    rw [rf_uc] at hP hD
    have hP : va_P D vwCl [(r0, .inr (2, [.ref g0, .int (nI (n))])), (g0, .inl (E 2, 256, .inl z0)), (q1, .inl (E 1, n, .inl z0))] H := hP
    have hD : va_D A [(r0, .inr (2, [.ref g0, .int (nI (n))])), (g0, .inl (E 2, 256, .inl z0)), (q1, .inl (E 1, n, .inl z0))] := hD
    refine lv_iinc (v := nI (k + 1)) hx hb dX0_textOf_50 hl (k := 4) rfl ((show nI (k) + Int32.ofInt 1 = nI (k) + nI 1 from rfl).trans ((nI_add _ _).trans (congrArg nI (by omega)))) (Nat.le_of_ble_eq_true rfl) rfl (fun ls hl => ?_)
    have hl : lv_has ls 5 [(4, .int (nI (k + 1))), (0, .ref r0), (1, .int (nI 0)), (2, .int (nI n)), (3, .ref q1)] := hl
    have hl : lv_has ls 5 [(0, .ref r0), (1, .int (nI 0)), (2, .int (nI n)), (3, .ref q1), (4, .int (nI (k + 1)))] := lv_sub hl [1, 2, 3, 4, 0] rfl
    refine lv_goto (tgt := 29) hx hb dX0_textOf_53 rfl ?_
    refine W.widen (k := 1 + (k + 1) * 0) (n := 200 + (k + 1) * 0) (by omega) (by omega) ?_
    exact kk _ _ _ ⟨hl, hP, hD, hS⟩
set_option maxHeartbeats 4000000 in
set_option maxRecDepth 100000 in
/-- text(0) -/
theorem c_X1_text (l : Launch) (D : va_G) (E : Nat → ClassId) (sz : Nat) (x0 t0 r0 g0 n : Nat) (f : Nat → Option Nat) (p1 p2 p3 p4 p5 p6 : Value) (hf : f 0 = some r0) (hn : n ≤ 200) (h1 : 0 < n) : Met l yX1_text wsX1_text ({ frames := 7, cells := 3, slots := 404, locals := 1200 }) (va_Pc [.ref x0, .int (nI 0)] (rf_P D E [(x0, .inr (3, [.ref t0, p1, p2, p3, p4, p5, p6])), (t0, .inl (E 3, 4, .inr (.inr (.inr (.inr f))))), (r0, .inr (2, [.ref g0, .int (nI (n))])), (g0, .inl (E 2, 256, .inl z0))] sz)) (va_Qr (fun (u : Nat) => True) (fun (u : Nat) (ra : Nat) (t : State) => rf_B D (va_A [(x0, .inr (3, [.ref t0, p1, p2, p3, p4, p5, p6])), (t0, .inl (E 3, 4, .inr (.inr (.inr (.inr f))))), (r0, .inr (2, [.ref g0, .int (nI (n))])), (g0, .inl (E 2, 256, .inl z0))] sz) [(ra, .inr (0, [.ref u, .int 0, .int 0, .int 0])), (u, .inl (E 0, n, .inl z0)), (x0, .inr (3, [.ref t0, p1, p2, p3, p4, p5, p6])), (t0, .inl (E 3, 4, .inr (.inr (.inr (.inr f))))), (r0, .inr (2, [.ref g0, .int (nI (n))])), (g0, .inl (E 2, 256, .inl z0))] t) (va_A [(x0, .inr (3, [.ref t0, p1, p2, p3, p4, p5, p6])), (t0, .inl (E 3, 4, .inr (.inr (.inr (.inr f))))), (r0, .inr (2, [.ref g0, .int (nI (n))])), (g0, .inl (E 2, 256, .inl z0))] sz)) 3 404 (va_A [(x0, .inr (3, [.ref t0, p1, p2, p3, p4, p5, p6])), (t0, .inl (E 3, 4, .inr (.inr (.inr (.inr f))))), (r0, .inr (2, [.ref g0, .int (nI (n))])), (g0, .inl (E 2, 256, .inl z0))] sz) := by
  refine Met.ofW (cc := cX1_text) (maxL := 3) (ret := (some (.object "java/lang/String"))) (by decide) rfl ?_
  intro p e s mI args below meth c s₁ B hml hv
  obtain ⟨rfl, hsz, hP, hK, hD0, hZ, hN⟩ := hv
  have hx := B.exec
  have hb := B.bytes
  have hr := B.returns
  have hts := atoms_spec (ws := wsX1_text) B.pre
  have hown : s.vm.findClass RX1 = some mI.cls := findClass_of_methodNamed B.named
  have hlocks := B.notSynchronized
  subst hsz
  have hD := hD0.self (sz := s.heap.size)
  generalize hAe : va_A [(x0, .inr (3, [.ref t0, p1, p2, p3, p4, p5, p6])), (t0, .inl (E 3, 4, .inr (.inr (.inr (.inr f))))), (r0, .inr (2, [.ref g0, .int (nI (n))])), (g0, .inl (E 2, 256, .inl z0))] s.heap.size = A at hD hZ ⊢
  have hA : ∀ q : Nat, s.heap.size ≤ q → A q := fun q h => by rw [← hAe]; exact Or.inr h
  have hS : va_S A s.heap s.heap [] := va_S.rf
  have hl := lv_entry ([.ref x0, .int (nI 0)]) (n := 3) (Nat.le_of_ble_eq_true rfl)
  rw [lg_entry_eq]
  generalize (lg_sl ([.ref x0, .int (nI 0)]) ++ List.replicate (3 - (lg_sl ([.ref x0, .int (nI 0)])).length) Slot.unset).toArray = ls at hl ⊢
  clear hAe hD0
  have hl : lv_has ls 3 [(0, .ref x0), (1, .int (nI 0))] := hl
  obtain ⟨H, hH⟩ : ∃ H, H = s.heap := ⟨_, rfl⟩
  rw [← hH] at hP
  have hS : va_S A s.heap H [] := by rw [hH]; exact hS
  refine rf_heap hH ?_
  refine lv_aload_n hx hb dX1_text_0 rfl (lv_at hl 0 rfl) ?_
  refine lv_iload_n hx hb dX1_text_1 rfl (lv_at hl 1 rfl) ?_
  have hPc := hP.sub (ws' := [(x0, .inr (3, [.ref t0, p1, p2, p3, p4, p5, p6])), (t0, .inl (E 3, 4, .inr (.inr (.inr (.inr f)))))]) [0, 1] rfl
  have hDc := hD.sub (ws' := [(x0, .inr (3, [.ref t0, p1, p2, p3, p4, p5, p6])), (t0, .inl (E 3, 4, .inr (.inr (.inr (.inr f)))))]) [0, 1] (by decide) rfl
  have hFc := va_free (wc := [(x0, .inr (3, [.ref t0, p1, p2, p3, p4, p5, p6])), (t0, .inl (E 3, 4, .inr (.inr (.inr (.inr f)))))]) hD hS hA [0, 1] rfl
  have h_1 : 0 + 0 ≤ 3 := by omega
  have h_2 : 0 + 0 ≤ 404 := by omega
  refine va_callr (va_runV (As := [.int (nI 0)]) (rest := []) ⟨hx, hb, hml, hown, hts⟩ (c_X1_tapeOf l D E H.size (x0) (t0) (r0) (f) (p1) (p2) (p3) (p4) (p5) (p6) (hf)) (cwV 1 hts gX1_text_X1_tapeOf rfl rfl rfl (by decide +kernel) ⟨Nat.le_of_ble_eq_true rfl, Nat.le_of_ble_eq_true rfl⟩) ⟨rf_blind _, va_recv hK hPc (ci := 3) (q0 := 0) rfl rfl, fun U hU hW => ⟨rfl, rf_pre hK hPc hDc hZ hN hS hFc U hU hW⟩⟩ rfl rfl hl.1 rfl (lv_room (Nat.le_of_ble_eq_true rfl)) dX1_text_2 ⟨h_1, h_2⟩) hS (fun q _ h => hFc q h) hFc (fun u ra t H1 locs ht hvm hw hB hz1 hk1 hS => ?_)
  obtain ⟨hra, hP1, hD1⟩ := hB
  try dsimp only at hra
  subst ra
  rw [ht] at hP1
  try dsimp only at hw hP1 hD1
  obtain ⟨hP, hD⟩ := va_join (wr := [(r0, .inr (2, [.ref g0, .int (nI (n))])), (g0, .inl (E 2, 256, .inl z0))]) (w1 := [(x0, .inr (3, [.ref t0, p1, p2, p3, p4, p5, p6])), (t0, .inl (E 3, 4, .inr (.inr (.inr (.inr f)))))]) hP hD [0, 1] [2, 3] rfl rfl (by decide) (by decide) hk1 hFc hP1 hD1
  clear hPc hDc hFc hP1 hD1 hk1 hz1 ht
  generalize H1 = H at hP hS ⊢
  have hP : va_P D vwCl [(r0, .inr (2, [.ref g0, .int (nI (n))])), (g0, .inl (E 2, 256, .inl z0)), (x0, .inr (3, [.ref t0, p1, p2, p3, p4, p5, p6])), (t0, .inl (E 3, 4, .inr (.inr (.inr (.inr f)))))] H := hP
  have hD : va_D A [(r0, .inr (2, [.ref g0, .int (nI (n))])), (g0, .inl (E 2, 256, .inl z0)), (x0, .inr (3, [.ref t0, p1, p2, p3, p4, p5, p6])), (t0, .inl (E 3, 4, .inr (.inr (.inr (.inr f)))))] := hD
  refine lv_astore_n hx hb dX1_text_5 rfl hl (Nat.le_of_ble_eq_true rfl) rfl (fun ls hl => ?_)
  have hl : lv_has ls 3 [(2, .ref r0), (0, .ref x0), (1, .int (nI 0))] := hl
  refine lv_aload_n hx hb dX1_text_6 rfl (lv_at hl 0 rfl) ?_
  refine lv_iconst (v := nI 0) hx hb dX1_text_7 (by decide) ?_
  refine lv_aload_n hx hb dX1_text_8 rfl (lv_at hl 0 rfl) ?_
  refine va_get (D := D) (ci := 2) (v := .int (nI (n))) (C := RX0) (T := TX0) (N := 2) hx hb hts (by decide +kernel) hown hK hP 0 rfl rfl 1 (by decide) (hts (.fieldLink RX1 92 "Tapebuffer$Row" "size" "I") (by decide +kernel)) (fun _ h9 => h9) rfl dX1_text_9 ?_
  have hPc := hP.sub (ws' := [(r0, .inr (2, [.ref g0, .int (nI (n))])), (g0, .inl (E 2, 256, .inl z0))]) [0, 1] rfl
  have hDc := hD.sub (ws' := [(r0, .inr (2, [.ref g0, .int (nI (n))])), (g0, .inl (E 2, 256, .inl z0))]) [0, 1] (by decide) rfl
  have hFc := va_free (wc := [(r0, .inr (2, [.ref g0, .int (nI (n))])), (g0, .inl (E 2, 256, .inl z0))]) hD hS hA [0, 1] rfl
  have h_1 : 0 + 3 ≤ 3 := by omega
  have h_2 : 0 + 404 ≤ 404 := by omega
  refine va_callr (va_runV (As := [.int (nI 0), .int (nI (n))]) (rest := []) ⟨hx, hb, hml, hown, hts⟩ (c_X0_textOf l D E H.size (r0) (g0) (n) (by omega) (by omega)) (cwV 2 hts gX1_text_X0_textOf rfl rfl rfl (by decide +kernel) ⟨Nat.le_of_ble_eq_true rfl, Nat.le_of_ble_eq_true rfl⟩) ⟨rf_blind _, va_recv hK hPc (ci := 2) (q0 := 0) rfl rfl, fun U hU hW => ⟨rfl, rf_pre hK hPc hDc hZ hN hS hFc U hU hW⟩⟩ rfl rfl hl.1 rfl (lv_room (Nat.le_of_ble_eq_true rfl)) dX1_text_12 ⟨h_1, h_2⟩) hS (fun q _ h => hFc q h) hFc (fun u ra t H1 locs ht hvm hw hB hz1 hk1 hS => ?_)
  obtain ⟨hP1, hD1⟩ := hB
  rw [ht] at hP1
  try dsimp only at hw hP1 hD1
  obtain ⟨hP, hD⟩ := va_join (wr := [(x0, .inr (3, [.ref t0, p1, p2, p3, p4, p5, p6])), (t0, .inl (E 3, 4, .inr (.inr (.inr (.inr f)))))]) (w1 := [(ra, .inr (0, [.ref u, .int 0, .int 0, .int 0])), (u, .inl (E 0, n, .inl z0)), (r0, .inr (2, [.ref g0, .int (nI (n))])), (g0, .inl (E 2, 256, .inl z0))]) hP hD [0, 1] [2, 3] rfl rfl (by decide) (by decide) hk1 hFc hP1 hD1
  clear hPc hDc hFc hP1 hD1 hk1 hz1 ht
  generalize H1 = H at hP hS ⊢
  have hP : va_P D vwCl [(x0, .inr (3, [.ref t0, p1, p2, p3, p4, p5, p6])), (t0, .inl (E 3, 4, .inr (.inr (.inr (.inr f))))), (ra, .inr (0, [.ref u, .int 0, .int 0, .int 0])), (u, .inl (E 0, n, .inl z0)), (r0, .inr (2, [.ref g0, .int (nI (n))])), (g0, .inl (E 2, 256, .inl z0))] H := hP
  have hD : va_D A [(x0, .inr (3, [.ref t0, p1, p2, p3, p4, p5, p6])), (t0, .inl (E 3, 4, .inr (.inr (.inr (.inr f))))), (ra, .inr (0, [.ref u, .int 0, .int 0, .int 0])), (u, .inl (E 0, n, .inl z0)), (r0, .inr (2, [.ref g0, .int (nI (n))])), (g0, .inl (E 2, 256, .inl z0))] := hD
  refine W.widen (k := 3) (n := 404) (by omega) (by omega) ?_
  have hP := hP.sub (ws' := [(ra, .inr (0, [.ref u, .int 0, .int 0, .int 0])), (u, .inl (E 0, n, .inl z0)), (x0, .inr (3, [.ref t0, p1, p2, p3, p4, p5, p6])), (t0, .inl (E 3, 4, .inr (.inr (.inr (.inr f))))), (r0, .inr (2, [.ref g0, .int (nI (n))])), (g0, .inl (E 2, 256, .inl z0))]) [2, 3, 0, 1, 4, 5] rfl
  have hD := hD.sub (ws' := [(ra, .inr (0, [.ref u, .int 0, .int 0, .int 0])), (u, .inl (E 0, n, .inl z0)), (x0, .inr (3, [.ref t0, p1, p2, p3, p4, p5, p6])), (t0, .inl (E 3, 4, .inr (.inr (.inr (.inr f))))), (r0, .inr (2, [.ref g0, .int (nI (n))])), (g0, .inl (E 2, 256, .inl z0))]) [2, 3, 0, 1, 4, 5] (by decide) rfl
  exact W.aret (v := .ref ra) hx hb hr (Or.inl ⟨_, rfl⟩) (Or.inr ⟨_, rfl⟩) (fun t ht hW => ⟨⟨u, ra, rfl, trivial, rf_end ht hP hD⟩, hS.F ht⟩) hS.2.2 dX1_text_15
set_option maxHeartbeats 4000000 in
set_option maxRecDepth 100000 in
/-- Row() -/
theorem c_X0_init (l : Launch) (D : va_G) (E : Nat → ClassId) (sz : Nat) (r0 : Nat)  : Met l yX0_init wsX0_init ({ frames := 2, cells := 1, slots := 256, locals := 200 }) (va_Pc [.ref r0] (rf_P D E [(r0, .inr (2, [.null, .int 0]))] sz)) (va_Qv (fun (u : Nat) => True) (fun (u : Nat) (t : State) => rf_B D (va_A [(r0, .inr (2, [.null, .int 0]))] sz) [(r0, .inr (2, [.ref u, .int 0])), (u, .inl (E 2, 256, .inl z0))] t) (va_A [(r0, .inr (2, [.null, .int 0]))] sz)) 1 256 (va_A [(r0, .inr (2, [.null, .int 0]))] sz) := by
  refine Met.ofW (cc := cX0_init) (maxL := 1) (ret := none) (by decide) rfl ?_
  intro p e s mI args below meth c s₁ B hml hv
  obtain ⟨rfl, hsz, hP, hK, hD0, hZ, hN⟩ := hv
  have hx := B.exec
  have hb := B.bytes
  have hr := B.returns
  have hts := atoms_spec (ws := wsX0_init) B.pre
  have hown : s.vm.findClass RX0 = some mI.cls := findClass_of_methodNamed B.named
  have hlocks := B.notSynchronized
  have hin : meth.name = "<init>" := (name_of_methodNamed B.named B.method).1
  subst hsz
  have hD := hD0.self (sz := s.heap.size)
  generalize hAe : va_A [(r0, .inr (2, [.null, .int 0]))] s.heap.size = A at hD hZ ⊢
  have hA : ∀ q : Nat, s.heap.size ≤ q → A q := fun q h => by rw [← hAe]; exact Or.inr h
  have hS : va_S A s.heap s.heap [] := va_S.rf
  have hl := lv_entry ([.ref r0]) (n := 1) (Nat.le_of_ble_eq_true rfl)
  rw [lg_entry_eq]
  generalize (lg_sl ([.ref r0]) ++ List.replicate (1 - (lg_sl ([.ref r0])).length) Slot.unset).toArray = ls at hl ⊢
  clear hAe hD0
  have hl : lv_has ls 1 [(0, .ref r0)] := hl
  obtain ⟨H, hH⟩ : ∃ H, H = s.heap := ⟨_, rfl⟩
  rw [← hH] at hP
  have hS : va_S A s.heap H [] := by rw [hH]; exact hS
  refine rf_heap hH ?_
  refine lv_aload_n hx hb dX0_init_0 rfl (lv_at hl 0 rfl) ?_
  refine W.objInit hx hb hown (hts (.methodLink RX0 3 objectInit) (by decide +kernel)) (hts (.instanceMethod objectInit) (by decide +kernel)) (hts (.code objectInit ⟨#[0xb1]⟩ 1 none) (by decide +kernel)) rfl (by rw [hml]; exact hl.1) rfl dX0_init_1 (Nat.le_of_ble_eq_true rfl) (Nat.le_of_ble_eq_true rfl) ?_
  refine W.eq (g2 := F0 mI 4 ls []) rfl ?_
  refine lv_aload_n hx hb dX0_init_4 rfl (lv_at hl 0 rfl) ?_
  refine lv_sipush (v := nI 256) hx hb dX0_init_5 (by decide) ?_
  have h_1 : 0 + 1 ≤ 1 := by omega
  have h_2 : 0 + (256) ≤ 256 := by omega
  refine va_newa (atype := .int) (N' := 256) (a0 := (256, .inl z0)) hx hb (hts (.arrayClass .int) (by decide +kernel)) rfl hK hP hD hS hA (fun _ => rfl) (nI_pos (by omega)) (nI_clamp (by omega)) (Nat.le_trans (Nat.mul_le_mul_right _ (show 256 ≤ 256 by omega)) (Nat.le_of_ble_eq_true rfl)) h_1 h_2 dX0_init_8 (fun q1 cA H hK2 hP hD hS => ?_)
  obtain rfl := rf_int hK2
  have hP : va_P D vwCl [(r0, .inr (2, [.null, .int 0])), (q1, .inl (E 2, 256, .inl z0))] H := hP
  have hD : va_D A [(r0, .inr (2, [.null, .int 0])), (q1, .inl (E 2, 256, .inl z0))] := hD
  refine W.widen (k := 1) (n := 256) (by omega) (by omega) ?_
  refine va_putF (D := D) (ci := 2) (v := .ref q1) (ty := .array .int) (C := RX0) (T := TX0) (N := 2) hx hb hts (by decide +kernel) tyX0 tyX0_ok nmX0 hown hK hP hD hS 0 rfl rfl 0 (by decide) (hts (.fieldLink RX0 9 "Tapebuffer$Row" "signs" "[I") (by decide +kernel)) (fun _ h9 => h9) rfl hin rfl (by decide +kernel) rfl rfl (Nat.le_of_ble_eq_true rfl) dX0_init_10 (fun H locs hP hD hS => ?_)
  have hP : va_P D vwCl [(r0, .inr (2, [.ref q1, .int 0])), (q1, .inl (E 2, 256, .inl z0))] H := hP
  have hD : va_D A [(r0, .inr (2, [.ref q1, .int 0])), (q1, .inl (E 2, 256, .inl z0))] := hD
  exact W.vret hx hb hr (fun t ht hW => ⟨⟨q1, rfl, trivial, rf_end ht hP hD⟩, hS.F ht⟩) hS.2.2 dX0_init_13
set_option maxHeartbeats 4000000 in
set_option maxRecDepth 100000 in
/-- Out() -/
theorem c_X2_init (l : Launch) (D : va_G) (E : Nat → ClassId) (sz : Nat) (o0 : Nat)  : Met l yX2_init wsX2_init ({ frames := 2, cells := 0, slots := 0, locals := 200 }) (va_Pc [.ref o0] (rf_P D E [(o0, .inr (4, [.long 0, .null]))] sz)) (va_Qv (fun (u : Unit) => True) (fun (u : Unit) (t : State) => rf_B D (va_A [(o0, .inr (4, [.long 0, .null]))] sz) [(o0, .inr (4, [.long 0, .null]))] t) (va_A [(o0, .inr (4, [.long 0, .null]))] sz)) 0 0 (va_A [(o0, .inr (4, [.long 0, .null]))] sz) := by
  refine Met.ofW (cc := cX2_init) (maxL := 1) (ret := none) (by decide) rfl ?_
  intro p e s mI args below meth c s₁ B hml hv
  obtain ⟨rfl, hsz, hP, hK, hD0, hZ, hN⟩ := hv
  have hx := B.exec
  have hb := B.bytes
  have hr := B.returns
  have hts := atoms_spec (ws := wsX2_init) B.pre
  have hown : s.vm.findClass RX2 = some mI.cls := findClass_of_methodNamed B.named
  have hlocks := B.notSynchronized
  have hin : meth.name = "<init>" := (name_of_methodNamed B.named B.method).1
  subst hsz
  have hD := hD0.self (sz := s.heap.size)
  generalize hAe : va_A [(o0, .inr (4, [.long 0, .null]))] s.heap.size = A at hD hZ ⊢
  have hA : ∀ q : Nat, s.heap.size ≤ q → A q := fun q h => by rw [← hAe]; exact Or.inr h
  have hS : va_S A s.heap s.heap [] := va_S.rf
  have hl := lv_entry ([.ref o0]) (n := 1) (Nat.le_of_ble_eq_true rfl)
  rw [lg_entry_eq]
  generalize (lg_sl ([.ref o0]) ++ List.replicate (1 - (lg_sl ([.ref o0])).length) Slot.unset).toArray = ls at hl ⊢
  clear hAe hD0
  have hl : lv_has ls 1 [(0, .ref o0)] := hl
  obtain ⟨H, hH⟩ : ∃ H, H = s.heap := ⟨_, rfl⟩
  rw [← hH] at hP
  have hS : va_S A s.heap H [] := by rw [hH]; exact hS
  refine rf_heap hH ?_
  refine lv_aload_n hx hb dX2_init_0 rfl (lv_at hl 0 rfl) ?_
  refine W.objInit hx hb hown (hts (.methodLink RX2 1 objectInit) (by decide +kernel)) (hts (.instanceMethod objectInit) (by decide +kernel)) (hts (.code objectInit ⟨#[0xb1]⟩ 1 none) (by decide +kernel)) rfl (by rw [hml]; exact hl.1) rfl dX2_init_1 (Nat.le_of_ble_eq_true rfl) (Nat.le_of_ble_eq_true rfl) ?_
  refine W.eq (g2 := F0 mI 4 ls []) rfl ?_
  exact W.vret hx hb hr (fun t ht hW => ⟨⟨(), rfl, trivial, rf_end ht hP hD⟩, hS.F ht⟩) hS.2.2 dX2_init_4
end
section
set_option maxHeartbeats 4000000 in
set_option maxRecDepth 100000 in
/-- isIn(0, 0, 3) -/
theorem c_X3_isIn_t (l : Launch) (D : va_G) (E : Nat → ClassId) (sz : Nat)   : Met l yX3_isIn wsX3_isIn ({ frames := 2, cells := 0, slots := 0, locals := 200 }) (va_Pc [.long (lN 0), .long (lN 0), .long (lN 3)] (rf_P D E [] sz)) (va_Qi (fun (r : Int32) (u : Unit) => r = 1) (fun (u : Unit) (t : State) => rf_B D (va_A [] sz) [] t) (va_A [] sz)) 0 0 (va_A [] sz) := by
  refine Met.ofW (cc := cX3_isIn) (maxL := 6) (ret := (some .boolean)) (by decide) rfl ?_
  intro p e s mI args below meth c s₁ B hml hv
  obtain ⟨rfl, hsz, hP, hK, hD0, hZ, hN⟩ := hv
  have hx := B.exec
  have hb := B.bytes
  have hr := B.returns
  have hts := atoms_spec (ws := wsX3_isIn) B.pre
  have hown : s.vm.findClass RX3 = some mI.cls := findClass_of_methodNamed B.named
  have hlocks := B.notSynchronized
  subst hsz
  have hD := hD0.self (sz := s.heap.size)
  generalize hAe : va_A [] s.heap.size = A at hD hZ ⊢
  have hA : ∀ q : Nat, s.heap.size ≤ q → A q := fun q h => by rw [← hAe]; exact Or.inr h
  have hS : va_S A s.heap s.heap [] := va_S.rf
  have hl := lv_entry ([.long (lN 0), .long (lN 0), .long (lN 3)]) (n := 6) (Nat.le_of_ble_eq_true rfl)
  rw [lg_entry_eq]
  generalize (lg_sl ([.long (lN 0), .long (lN 0), .long (lN 3)]) ++ List.replicate (6 - (lg_sl ([.long (lN 0), .long (lN 0), .long (lN 3)])).length) Slot.unset).toArray = ls at hl ⊢
  clear hAe hD0
  have hl : lv_has ls 6 [(0, .long (lN 0)), (2, .long (lN 0)), (4, .long (lN 3))] := hl
  obtain ⟨H, hH⟩ : ∃ H, H = s.heap := ⟨_, rfl⟩
  rw [← hH] at hP
  have hS : va_S A s.heap H [] := by rw [hH]; exact hS
  refine rf_heap hH ?_
  refine lv_lload_n hx hb dX3_isIn_0 rfl (lv_at hl 0 rfl) ?_
  refine lv_lload_n hx hb dX3_isIn_1 rfl (lv_at hl 1 rfl) ?_
  refine W.lcmp hx hb dX3_isIn_2 (W.eq (g2 := F0 mI 3 ls (.int (0) :: [])) (congrArg (fun z => F0 mI 3 ls (.int z :: [])) (show lg_cmp (lN 0) (lN 0) = 0 by decide)) ?_)
  refine lv_if_lt (tgt := 17) hx hb dX3_isIn_3 rfl (fun h => absurd h (by decide)) (fun _ => ?_)
  refine lv_lload_n hx hb dX3_isIn_6 rfl (lv_at hl 0 rfl) ?_
  refine lv_lload hx hb dX3_isIn_7 (lv_at hl 2 rfl) ?_
  refine W.lcmp hx hb dX3_isIn_9 (W.eq (g2 := F0 mI 10 ls (.int (-1) :: [])) (congrArg (fun z => F0 mI 10 ls (.int z :: [])) (show lg_cmp (lN 0) (lN 3) = -1 by decide)) ?_)
  refine lv_if_gt (tgt := 17) hx hb dX3_isIn_10 rfl (fun h => absurd h (by decide)) (fun _ => ?_)
  refine lv_iconst (v := 1) hx hb dX3_isIn_13 (by decide) ?_
  refine lv_goto (tgt := 18) hx hb dX3_isIn_14 rfl ?_
  exact W.zret (v := 1) hx hb hr (by decide +kernel) (fun t ht hW => ⟨⟨1, (), rfl, rfl, rf_end ht hP hD⟩, hS.F ht⟩) hS.2.2 dX3_isIn_18
set_option maxHeartbeats 4000000 in
set_option maxRecDepth 100000 in
/-- isIn(200, 0, 200) -/
theorem c_X3_isIn_l (l : Launch) (D : va_G) (E : Nat → ClassId) (sz : Nat)   : Met l yX3_isIn wsX3_isIn ({ frames := 2, cells := 0, slots := 0, locals := 200 }) (va_Pc [.long (lN 200), .long (lN 0), .long (lN 200)] (rf_P D E [] sz)) (va_Qi (fun (r : Int32) (u : Unit) => r = 1) (fun (u : Unit) (t : State) => rf_B D (va_A [] sz) [] t) (va_A [] sz)) 0 0 (va_A [] sz) := by
  refine Met.ofW (cc := cX3_isIn) (maxL := 6) (ret := (some .boolean)) (by decide) rfl ?_
  intro p e s mI args below meth c s₁ B hml hv
  obtain ⟨rfl, hsz, hP, hK, hD0, hZ, hN⟩ := hv
  have hx := B.exec
  have hb := B.bytes
  have hr := B.returns
  have hts := atoms_spec (ws := wsX3_isIn) B.pre
  have hown : s.vm.findClass RX3 = some mI.cls := findClass_of_methodNamed B.named
  have hlocks := B.notSynchronized
  subst hsz
  have hD := hD0.self (sz := s.heap.size)
  generalize hAe : va_A [] s.heap.size = A at hD hZ ⊢
  have hA : ∀ q : Nat, s.heap.size ≤ q → A q := fun q h => by rw [← hAe]; exact Or.inr h
  have hS : va_S A s.heap s.heap [] := va_S.rf
  have hl := lv_entry ([.long (lN 200), .long (lN 0), .long (lN 200)]) (n := 6) (Nat.le_of_ble_eq_true rfl)
  rw [lg_entry_eq]
  generalize (lg_sl ([.long (lN 200), .long (lN 0), .long (lN 200)]) ++ List.replicate (6 - (lg_sl ([.long (lN 200), .long (lN 0), .long (lN 200)])).length) Slot.unset).toArray = ls at hl ⊢
  clear hAe hD0
  have hl : lv_has ls 6 [(0, .long (lN 200)), (2, .long (lN 0)), (4, .long (lN 200))] := hl
  obtain ⟨H, hH⟩ : ∃ H, H = s.heap := ⟨_, rfl⟩
  rw [← hH] at hP
  have hS : va_S A s.heap H [] := by rw [hH]; exact hS
  refine rf_heap hH ?_
  refine lv_lload_n hx hb dX3_isIn_0 rfl (lv_at hl 0 rfl) ?_
  refine lv_lload_n hx hb dX3_isIn_1 rfl (lv_at hl 1 rfl) ?_
  refine W.lcmp hx hb dX3_isIn_2 (W.eq (g2 := F0 mI 3 ls (.int (1) :: [])) (congrArg (fun z => F0 mI 3 ls (.int z :: [])) (show lg_cmp (lN 200) (lN 0) = 1 by decide)) ?_)
  refine lv_if_lt (tgt := 17) hx hb dX3_isIn_3 rfl (fun h => absurd h (by decide)) (fun _ => ?_)
  refine lv_lload_n hx hb dX3_isIn_6 rfl (lv_at hl 0 rfl) ?_
  refine lv_lload hx hb dX3_isIn_7 (lv_at hl 2 rfl) ?_
  refine W.lcmp hx hb dX3_isIn_9 (W.eq (g2 := F0 mI 10 ls (.int (0) :: [])) (congrArg (fun z => F0 mI 10 ls (.int z :: [])) (show lg_cmp (lN 200) (lN 200) = 0 by decide)) ?_)
  refine lv_if_gt (tgt := 17) hx hb dX3_isIn_10 rfl (fun h => absurd h (by decide)) (fun _ => ?_)
  refine lv_iconst (v := 1) hx hb dX3_isIn_13 (by decide) ?_
  refine lv_goto (tgt := 18) hx hb dX3_isIn_14 rfl ?_
  exact W.zret (v := 1) hx hb hr (by decide +kernel) (fun t ht hW => ⟨⟨1, (), rfl, rfl, rf_end ht hP hD⟩, hS.F ht⟩) hS.2.2 dX3_isIn_18
set_option maxHeartbeats 4000000 in
set_option maxRecDepth 100000 in
/-- isNoTape(0): 0 -/
theorem c_X3_isNoTape (l : Launch) (D : va_G) (E : Nat → ClassId) (sz : Nat)   : Met l yX3_isNoTape wsX3_isNoTape ({ frames := 3, cells := 0, slots := 0, locals := 400 }) (va_Pc [.int (nI 0)] (rf_P D E [] sz)) (va_Qi (fun (r : Int32) (u : Unit) => r = 0) (fun (u : Unit) (t : State) => rf_B D (va_A [] sz) [] t) (va_A [] sz)) 0 0 (va_A [] sz) := by
  refine Met.ofW (cc := cX3_isNoTape) (maxL := 1) (ret := (some .boolean)) (by decide) rfl ?_
  intro p e s mI args below meth c s₁ B hml hv
  obtain ⟨rfl, hsz, hP, hK, hD0, hZ, hN⟩ := hv
  have hx := B.exec
  have hb := B.bytes
  have hr := B.returns
  have hts := atoms_spec (ws := wsX3_isNoTape) B.pre
  have hown : s.vm.findClass RX3 = some mI.cls := findClass_of_methodNamed B.named
  have hlocks := B.notSynchronized
  subst hsz
  have hD := hD0.self (sz := s.heap.size)
  generalize hAe : va_A [] s.heap.size = A at hD hZ ⊢
  have hA : ∀ q : Nat, s.heap.size ≤ q → A q := fun q h => by rw [← hAe]; exact Or.inr h
  have hS : va_S A s.heap s.heap [] := va_S.rf
  have hl := lv_entry ([.int (nI 0)]) (n := 1) (Nat.le_of_ble_eq_true rfl)
  rw [lg_entry_eq]
  generalize (lg_sl ([.int (nI 0)]) ++ List.replicate (1 - (lg_sl ([.int (nI 0)])).length) Slot.unset).toArray = ls at hl ⊢
  clear hAe hD0
  have hl : lv_has ls 1 [(0, .int (nI 0))] := hl
  obtain ⟨H, hH⟩ : ∃ H, H = s.heap := ⟨_, rfl⟩
  rw [← hH] at hP
  have hS : va_S A s.heap H [] := by rw [hH]; exact hS
  refine rf_heap hH ?_
  refine lv_iload_n hx hb dX3_isNoTape_0 rfl (lv_at hl 0 rfl) ?_
  refine lv_i2l (v := lN 0) hx hb dX3_isNoTape_1 (by decide) ?_
  refine lv_lconst (v := lN 0) hx hb dX3_isNoTape_2 (by decide) ?_
  refine lv_ldc2 (v := 3) hx hb hown (hts (.constantLong RX3 26 3) (by decide +kernel)) dX3_isNoTape_3 ?_
  have hPc := hP.sub (ws' := []) [] rfl
  have hDc := hD.sub (ws' := []) [] (by decide) rfl
  have hFc := va_free (wc := []) hD hS hA [] rfl
  have h_1 : 0 + 0 ≤ 0 := by omega
  have h_2 : 0 + 0 ≤ 0 := by omega
  refine va_calli (va_runS (As := [.long (lN 0), .long (lN 0), .long (lN 3)]) (rest := []) ⟨hx, hb, hml, hown, hts⟩ (c_X3_isIn_t l D E H.size ) (va_cwS 3 hts gX3_isNoTape_X3_isIn rfl rfl rfl (by decide +kernel) ⟨Nat.le_of_ble_eq_true rfl, Nat.le_of_ble_eq_true rfl⟩) ⟨rf_blind _, fun U hU hW => ⟨rfl, rf_pre hK hPc hDc hZ hN hS hFc U hU hW⟩⟩ rfl rfl hl.1 rfl (lv_room (Nat.le_of_ble_eq_true rfl)) dX3_isNoTape_6 ⟨h_1, h_2⟩) hS (fun q _ h => hFc q h) hFc (fun r u t H1 locs ht hvm hw hB hz1 hk1 hS => ?_)
  obtain ⟨hP1, hD1⟩ := hB
  rw [ht] at hP1
  try dsimp only at hw hP1 hD1
  obtain rfl := hw
  obtain ⟨hP, hD⟩ := va_join (wr := []) (w1 := []) hP hD [] [] rfl rfl (by decide) (by decide) hk1 hFc hP1 hD1
  clear hPc hDc hFc hP1 hD1 hk1 hz1 ht
  generalize H1 = H at hP hS ⊢
  have hP : va_P D vwCl [] H := hP
  have hD : va_D A [] := hD
  refine lv_if_ne (tgt := 16) hx hb dX3_isNoTape_9 rfl (fun _ => ?_) (fun h => absurd h (by decide))
  refine lv_iconst (v := 0) hx hb dX3_isNoTape_16 (by decide) ?_
  exact W.zret (v := 0) hx hb hr (by decide +kernel) (fun t ht hW => ⟨⟨0, (), rfl, rfl, rf_end ht hP hD⟩, hS.F ht⟩) hS.2.2 dX3_isNoTape_17
set_option maxHeartbeats 4000000 in
set_option maxRecDepth 100000 in
/-- refuse(false, w) with nothing thrown: 0 -/
theorem c_X3_refuse (l : Launch) (D : va_G) (E : Nat → ClassId) (sz : Nat) (m0 t1 w : Nat) (a2 a3 a4 a5 : Value)  : Met l yX3_refuse wsX3_refuse ({ frames := 2, cells := 0, slots := 0, locals := 200 }) (va_Pc [.ref m0, .int (0), .int (nI w)] (rf_P D E [(m0, .inr (5, [.int 0, .ref t1, a2, a3, a4, a5]))] sz)) (va_Qi (fun (r : Int32) (u : Unit) => r = 0) (fun (u : Unit) (t : State) => rf_B D (va_A [(m0, .inr (5, [.int 0, .ref t1, a2, a3, a4, a5]))] sz) [(m0, .inr (5, [.int 0, .ref t1, a2, a3, a4, a5]))] t) (va_A [(m0, .inr (5, [.int 0, .ref t1, a2, a3, a4, a5]))] sz)) 0 0 (va_A [(m0, .inr (5, [.int 0, .ref t1, a2, a3, a4, a5]))] sz) := by
  refine Met.ofW (cc := cX3_refuse) (maxL := 3) (ret := (some .boolean)) (by decide) rfl ?_
  intro p e s mI args below meth c s₁ B hml hv
  obtain ⟨rfl, hsz, hP, hK, hD0, hZ, hN⟩ := hv
  have hx := B.exec
  have hb := B.bytes
  have hr := B.returns
  have hts := atoms_spec (ws := wsX3_refuse) B.pre
  have hown : s.vm.findClass RX3 = some mI.cls := findClass_of_methodNamed B.named
  have hlocks := B.notSynchronized
  subst hsz
  have hD := hD0.self (sz := s.heap.size)
  generalize hAe : va_A [(m0, .inr (5, [.int 0, .ref t1, a2, a3, a4, a5]))] s.heap.size = A at hD hZ ⊢
  have hA : ∀ q : Nat, s.heap.size ≤ q → A q := fun q h => by rw [← hAe]; exact Or.inr h
  have hS : va_S A s.heap s.heap [] := va_S.rf
  have hl := lv_entry ([.ref m0, .int (0), .int (nI w)]) (n := 3) (Nat.le_of_ble_eq_true rfl)
  rw [lg_entry_eq]
  generalize (lg_sl ([.ref m0, .int (0), .int (nI w)]) ++ List.replicate (3 - (lg_sl ([.ref m0, .int (0), .int (nI w)])).length) Slot.unset).toArray = ls at hl ⊢
  clear hAe hD0
  have hl : lv_has ls 3 [(0, .ref m0), (1, .int (0)), (2, .int (nI w))] := hl
  obtain ⟨H, hH⟩ : ∃ H, H = s.heap := ⟨_, rfl⟩
  rw [← hH] at hP
  have hS : va_S A s.heap H [] := by rw [hH]; exact hS
  refine rf_heap hH ?_
  refine lv_iload_n hx hb dX3_refuse_0 rfl (lv_at hl 1 rfl) ?_
  refine lv_if_eq (tgt := 16) hx hb dX3_refuse_1 rfl (fun _ => ?_) (fun h => absurd (by decide) h)
  refine lv_aload_n hx hb dX3_refuse_16 rfl (lv_at hl 0 rfl) ?_
  refine va_get (D := D) (ci := 5) (v := .int 0) (C := RX3) (T := TX3) (N := 6) hx hb hts (by decide +kernel) hown hK hP 0 rfl rfl 0 (by decide) (hts (.fieldLink RX3 18 "TapebufferModel" "thrown" "I") (by decide +kernel)) (fun _ h9 => h9) rfl dX3_refuse_17 ?_
  refine lv_if_le (tgt := 27) hx hb dX3_refuse_20 rfl (fun _ => ?_) (fun h => absurd (by decide) h)
  refine lv_iconst (v := 0) hx hb dX3_refuse_27 (by decide) ?_
  exact W.zret (v := 0) hx hb hr (by decide +kernel) (fun t ht hW => ⟨⟨0, (), rfl, rfl, rf_end ht hP hD⟩, hS.F ht⟩) hS.2.2 dX3_refuse_28
set_option maxHeartbeats 4000000 in
set_option maxRecDepth 100000 in
/-- start(false, 1): 0 -/
theorem c_X3_start (l : Launch) (D : va_G) (E : Nat → ClassId) (sz : Nat) (m0 t1 : Nat) (th : Int32) (a2 a3 a4 a5 : Value)  : Met l yX3_start wsX3_start ({ frames := 3, cells := 0, slots := 0, locals := 400 }) (va_Pc [.ref m0, .int (0), .int (nI 1)] (rf_P D E [(m0, .inr (5, [.int th, .ref t1, a2, a3, a4, a5]))] sz)) (va_Qi (fun (r : Int32) (u : Unit) => r = 0) (fun (u : Unit) (t : State) => rf_B D (va_A [(m0, .inr (5, [.int th, .ref t1, a2, a3, a4, a5]))] sz) [(m0, .inr (5, [.int 0, .ref t1, a2, a3, a4, a5]))] t) (va_A [(m0, .inr (5, [.int th, .ref t1, a2, a3, a4, a5]))] sz)) 0 0 (va_A [(m0, .inr (5, [.int th, .ref t1, a2, a3, a4, a5]))] sz) := by
  refine Met.ofW (cc := cX3_start) (maxL := 3) (ret := (some .boolean)) (by decide) rfl ?_
  intro p e s mI args below meth c s₁ B hml hv
  obtain ⟨rfl, hsz, hP, hK, hD0, hZ, hN⟩ := hv
  have hx := B.exec
  have hb := B.bytes
  have hr := B.returns
  have hts := atoms_spec (ws := wsX3_start) B.pre
  have hown : s.vm.findClass RX3 = some mI.cls := findClass_of_methodNamed B.named
  have hlocks := B.notSynchronized
  subst hsz
  have hD := hD0.self (sz := s.heap.size)
  generalize hAe : va_A [(m0, .inr (5, [.int th, .ref t1, a2, a3, a4, a5]))] s.heap.size = A at hD hZ ⊢
  have hA : ∀ q : Nat, s.heap.size ≤ q → A q := fun q h => by rw [← hAe]; exact Or.inr h
  have hS : va_S A s.heap s.heap [] := va_S.rf
  have hl := lv_entry ([.ref m0, .int (0), .int (nI 1)]) (n := 3) (Nat.le_of_ble_eq_true rfl)
  rw [lg_entry_eq]
  generalize (lg_sl ([.ref m0, .int (0), .int (nI 1)]) ++ List.replicate (3 - (lg_sl ([.ref m0, .int (0), .int (nI 1)])).length) Slot.unset).toArray = ls at hl ⊢
  clear hAe hD0
  have hl : lv_has ls 3 [(0, .ref m0), (1, .int (0)), (2, .int (nI 1))] := hl
  obtain ⟨H, hH⟩ : ∃ H, H = s.heap := ⟨_, rfl⟩
  rw [← hH] at hP
  have hS : va_S A s.heap H [] := by rw [hH]; exact hS
  refine rf_heap hH ?_
  refine lv_aload_n hx hb dX3_start_0 rfl (lv_at hl 0 rfl) ?_
  refine lv_iconst (v := 0) hx hb dX3_start_1 (by decide) ?_
  refine va_put (D := D) (ci := 5) (v := .int (0)) (ty := .int) (C := RX3) (T := TX3) (N := 6) hx hb hts (by decide +kernel) tyX3 tyX3_ok nmX3 hown hK hP hD hS 0 rfl rfl 0 (by decide) (hts (.fieldLink RX3 18 "TapebufferModel" "thrown" "I") (by decide +kernel)) (fun _ h9 => h9) rfl (by decide +kernel) rfl rfl (Nat.le_of_ble_eq_true rfl) dX3_start_2 (fun H locs hP hD hS => ?_)
  have hP : va_P D vwCl [(m0, .inr (5, [.int (0), .ref t1, a2, a3, a4, a5]))] H := hP
  have hD : va_D A [(m0, .inr (5, [.int (0), .ref t1, a2, a3, a4, a5]))] := hD
  refine lv_aload_n hx hb dX3_start_5 rfl (lv_at hl 0 rfl) ?_
  refine lv_iload_n hx hb dX3_start_6 rfl (lv_at hl 1 rfl) ?_
  refine lv_iload_n hx hb dX3_start_7 rfl (lv_at hl 2 rfl) ?_
  have hPc := hP.sub (ws' := [(m0, .inr (5, [.int (0), .ref t1, a2, a3, a4, a5]))]) [0] rfl
  have hDc := hD.sub (ws' := [(m0, .inr (5, [.int (0), .ref t1, a2, a3, a4, a5]))]) [0] (by decide) rfl
  have hFc := va_free (wc := [(m0, .inr (5, [.int (0), .ref t1, a2, a3, a4, a5]))]) hD hS hA [0] rfl
  have h_1 : 0 + 0 ≤ 0 := by omega
  have h_2 : 0 + 0 ≤ 0 := by omega
  refine va_calli (va_runV (As := [.int (0), .int (nI 1)]) (rest := []) ⟨hx, hb, hml, hown, hts⟩ (c_X3_refuse l D E H.size (m0) (t1) (1) (a2) (a3) (a4) (a5)) (cwV 2 hts gX3_start_X3_refuse rfl rfl rfl (by decide +kernel) ⟨Nat.le_of_ble_eq_true rfl, Nat.le_of_ble_eq_true rfl⟩) ⟨rf_blind _, va_recv hK hPc (ci := 5) (q0 := 0) rfl rfl, fun U hU hW => ⟨rfl, rf_pre hK hPc hDc hZ hN hS hFc U hU hW⟩⟩ rfl rfl hl.1 rfl (lv_room (Nat.le_of_ble_eq_true rfl)) dX3_start_8 ⟨h_1, h_2⟩) hS (fun q _ h => hFc q h) hFc (fun r u t H1 locs ht hvm hw hB hz1 hk1 hS => ?_)
  obtain ⟨hP1, hD1⟩ := hB
  rw [ht] at hP1
  try dsimp only at hw hP1 hD1
  obtain rfl := hw
  obtain ⟨hP, hD⟩ := va_join (wr := []) (w1 := [(m0, .inr (5, [.int (0), .ref t1, a2, a3, a4, a5]))]) hP hD [0] [] rfl rfl (by decide) (by decide) hk1 hFc hP1 hD1
  clear hPc hDc hFc hP1 hD1 hk1 hz1 ht
  generalize H1 = H at hP hS ⊢
  have hP : va_P D vwCl [(m0, .inr (5, [.int (0), .ref t1, a2, a3, a4, a5]))] H := hP
  have hD : va_D A [(m0, .inr (5, [.int (0), .ref t1, a2, a3, a4, a5]))] := hD
  have hP := hP.sub (ws' := [(m0, .inr (5, [.int (0), .ref t1, a2, a3, a4, a5]))]) [0] rfl
  have hD := hD.sub (ws' := [(m0, .inr (5, [.int (0), .ref t1, a2, a3, a4, a5]))]) [0] (by decide) rfl
  exact W.zret (v := 0) hx hb hr (by decide +kernel) (fun t ht hW => ⟨⟨0, (), rfl, rfl, rf_end ht hP hD⟩, hS.F ht⟩) hS.2.2 dX3_start_11
set_option maxHeartbeats 4000000 in
set_option maxRecDepth 100000 in
/-- joined of an empty row and 200 zeros -/
theorem c_X3_joined (l : Launch) (D : va_G) (E : Nat → ClassId) (sz : Nat) (ya yb : Nat)  : Met l yX3_joined wsX3_joined ({ frames := 2, cells := 1, slots := 200, locals := 200 }) (va_Pc [.ref ya, .ref yb] (rf_P D E [(ya, .inl (E 2, 0, .inl z0)), (yb, .inl (E 2, 200, .inl z0))] sz)) (va_Qr (fun (u : Unit) => True) (fun (u : Unit) (ra : Nat) (t : State) => rf_B D (va_A [(ya, .inl (E 2, 0, .inl z0)), (yb, .inl (E 2, 200, .inl z0))] sz) [(ya, .inl (E 2, 0, .inl z0)), (yb, .inl (E 2, 200, .inl z0)), (ra, .inl (E 2, 200, .inl z0))] t) (va_A [(ya, .inl (E 2, 0, .inl z0)), (yb, .inl (E 2, 200, .inl z0))] sz)) 1 200 (va_A [(ya, .inl (E 2, 0, .inl z0)), (yb, .inl (E 2, 200, .inl z0))] sz) := by
  refine Met.ofW (cc := cX3_joined) (maxL := 4) (ret := (some (.array .int))) (by decide) rfl ?_
  intro p e s mI args below meth c s₁ B hml hv
  obtain ⟨rfl, hsz, hP, hK, hD0, hZ, hN⟩ := hv
  have hx := B.exec
  have hb := B.bytes
  have hr := B.returns
  have hts := atoms_spec (ws := wsX3_joined) B.pre
  have hown : s.vm.findClass RX3 = some mI.cls := findClass_of_methodNamed B.named
  have hlocks := B.notSynchronized
  subst hsz
  have hD := hD0.self (sz := s.heap.size)
  generalize hAe : va_A [(ya, .inl (E 2, 0, .inl z0)), (yb, .inl (E 2, 200, .inl z0))] s.heap.size = A at hD hZ ⊢
  have hA : ∀ q : Nat, s.heap.size ≤ q → A q := fun q h => by rw [← hAe]; exact Or.inr h
  have hS : va_S A s.heap s.heap [] := va_S.rf
  have hl := lv_entry ([.ref ya, .ref yb]) (n := 4) (Nat.le_of_ble_eq_true rfl)
  rw [lg_entry_eq]
  generalize (lg_sl ([.ref ya, .ref yb]) ++ List.replicate (4 - (lg_sl ([.ref ya, .ref yb])).length) Slot.unset).toArray = ls at hl ⊢
  clear hAe hD0
  have hl : lv_has ls 4 [(0, .ref ya), (1, .ref yb)] := hl
  obtain ⟨H, hH⟩ : ∃ H, H = s.heap := ⟨_, rfl⟩
  rw [← hH] at hP
  have hS : va_S A s.heap H [] := by rw [hH]; exact hS
  refine rf_heap hH ?_
  refine lv_aload_n hx hb dX3_joined_0 rfl (lv_at hl 0 rfl) ?_
  refine va_alen (v := nI (0)) hx hb hK hP 0 2 rfl rfl rfl dX3_joined_1 ?_
  refine lv_aload_n hx hb dX3_joined_2 rfl (lv_at hl 1 rfl) ?_
  refine va_alen (v := nI (200)) hx hb hK hP 1 2 rfl rfl rfl dX3_joined_3 ?_
  refine lv_iadd hx hb dX3_joined_4 (lv_topi (fun f1 ef => ?_))
  obtain rfl : f1 = nI (200) := (show f1 = nI (0) + nI (200) from ef).trans ((nI_add _ _).trans (congrArg nI (by omega)))
  have h_1 : 0 + 1 ≤ 1 := by omega
  have h_2 : 0 + (200) ≤ 200 := by omega
  refine va_newa (atype := .int) (N' := 200) (a0 := (200, .inl z0)) hx hb (hts (.arrayClass .int) (by decide +kernel)) rfl hK hP hD hS hA (fun _ => rfl) (nI_pos (by omega)) (nI_clamp (by omega)) (Nat.le_trans (Nat.mul_le_mul_right _ (show 200 ≤ 200 by omega)) (Nat.le_of_ble_eq_true rfl)) h_1 h_2 dX3_joined_5 (fun q1 cA H hK2 hP hD hS => ?_)
  obtain rfl := rf_int hK2
  have hP : va_P D vwCl [(ya, .inl (E 2, 0, .inl z0)), (yb, .inl (E 2, 200, .inl z0)), (q1, .inl (E 2, 200, .inl z0))] H := hP
  have hD : va_D A [(ya, .inl (E 2, 0, .inl z0)), (yb, .inl (E 2, 200, .inl z0)), (q1, .inl (E 2, 200, .inl z0))] := hD
  refine W.widen (k := 1) (n := 200) (by omega) (by omega) ?_
  refine lv_astore_n hx hb dX3_joined_7 rfl hl (Nat.le_of_ble_eq_true rfl) rfl (fun ls hl => ?_)
  have hl : lv_has ls 4 [(2, .ref q1), (0, .ref ya), (1, .ref yb)] := hl
  refine lv_iconst (v := nI 0) hx hb dX3_joined_8 (by decide) ?_
  refine lv_istore_n hx hb dX3_joined_9 rfl hl (Nat.le_of_ble_eq_true rfl) rfl (fun ls hl => ?_)
  have hl : lv_has ls 4 [(3, .int (nI 0)), (2, .ref q1), (0, .ref ya), (1, .ref yb)] := hl
  have hl : lv_has ls 4 [(0, .ref ya), (1, .ref yb), (2, .ref q1), (3, .int (nI 0))] := lv_sub hl [2, 3, 1, 0] rfl
  refine rf_loop (200) 0 0 (fun k H locs ls => lv_has ls 4 [(0, .ref ya), (1, .ref yb), (2, .ref q1), (3, .int (nI (k)))] ∧ va_P D vwCl [(ya, .inl (E 2, 0, .inl z0)), (yb, .inl (E 2, 200, .inl z0)), (q1, .inl (E 2, 200, .inl z0))] H ∧ va_D A [(ya, .inl (E 2, 0, .inl z0)), (yb, .inl (E 2, 200, .inl z0)), (q1, .inl (E 2, 200, .inl z0))] ∧ va_S A s.heap H locs) ⟨hl, hP, hD, hS⟩ ?_ ?_
  · intro H locs ls hI
    obtain ⟨hl, hP, hD, hS⟩ := hI
    refine lv_iload_n hx hb dX3_joined_10 rfl (lv_at hl 3 rfl) ?_
    refine lv_aload_n hx hb dX3_joined_11 rfl (lv_at hl 2 rfl) ?_
    refine va_alen (v := nI (200)) hx hb hK hP 2 2 rfl rfl rfl dX3_joined_12 ?_
    refine lv_icmp_ge (tgt := 43) hx hb dX3_joined_13 rfl (fun _ => ?_) (fun h => absurd (by decide) h)
    refine lv_aload_n hx hb dX3_joined_43 rfl (lv_at hl 2 rfl) ?_
    refine W.widen (k := 1) (n := 200) (by omega) (by omega) ?_
    exact W.aret (v := .ref q1) hx hb hr (Or.inr ⟨_, rfl⟩) (Or.inr ⟨_, rfl⟩) (fun t ht hW => ⟨⟨(), q1, rfl, trivial, rf_end ht hP hD⟩, hS.F ht⟩) hS.2.2 dX3_joined_44
  · intro k H locs ls hkN hI kk
    obtain ⟨hl, hP, hD, hS⟩ := hI
    refine lv_iload_n hx hb dX3_joined_10 rfl (lv_at hl 3 rfl) ?_
    refine lv_aload_n hx hb dX3_joined_11 rfl (lv_at hl 2 rfl) ?_
    refine va_alen (v := nI (200)) hx hb hK hP 2 2 rfl rfl rfl dX3_joined_12 ?_
    refine lv_icmp_ge (tgt := 43) hx hb dX3_joined_13 rfl (fun h => absurd h (show ¬ nI (200) ≤ nI (k) from nI_ge (by omega) (by omega))) (fun _ => ?_)
    refine lv_aload_n hx hb dX3_joined_16 rfl (lv_at hl 2 rfl) ?_
    refine lv_iload_n hx hb dX3_joined_17 rfl (lv_at hl 3 rfl) ?_
    refine lv_iload_n hx hb dX3_joined_18 rfl (lv_at hl 3 rfl) ?_
    refine lv_aload_n hx hb dX3_joined_19 rfl (lv_at hl 0 rfl) ?_
    refine va_alen (v := nI (0)) hx hb hK hP 0 2 rfl rfl rfl dX3_joined_20 ?_
    refine lv_icmp_ge (tgt := 30) hx hb dX3_joined_21 rfl (fun _ => ?_) (fun h => absurd (show nI (0) ≤ nI (k) from nI_le (by omega) (by omega)) h)
    refine lv_aload_n hx hb dX3_joined_30 rfl (lv_at hl 1 rfl) ?_
    refine lv_iload_n hx hb dX3_joined_31 rfl (lv_at hl 3 rfl) ?_
    refine lv_aload_n hx hb dX3_joined_32 rfl (lv_at hl 0 rfl) ?_
    refine va_alen (v := nI (0)) hx hb hK hP 0 2 rfl rfl rfl dX3_joined_33 ?_
    refine lv_isub hx hb dX3_joined_34 (lv_topi (fun f2 ef => ?_))
    obtain rfl : f2 = nI (k) := (show f2 = nI (k) - nI (0) from ef).trans ((pk_sub (by omega)).trans (congrArg nI (by omega)))
    refine va_iald hx hb hK hP 1 2 rfl rfl (vp_in_nI (by omega) (by omega)) dX3_joined_35 (W.eq (g2 := F0 mI 36 ls (.int 0 :: [.int (nI (k)), .ref q1])) rfl ?_)
    refine va_iast hx hb hK hP hD hS 2 2 rfl rfl (vp_in_nI (by omega) (by omega)) dX3_joined_36 (fun H locs hP hD hS => ?_)
    rw [rf_u0] at hP hD
    have hP : va_P D vwCl [(ya, .inl (E 2, 0, .inl z0)), (yb, .inl (E 2, 200, .inl z0)), (q1, .inl (E 2, 200, .inl z0))] H := hP
    have hD : va_D A [(ya, .inl (E 2, 0, .inl z0)), (yb, .inl (E 2, 200, .inl z0)), (q1, .inl (E 2, 200, .inl z0))] := hD
    refine lv_iinc (v := nI (k + 1)) hx hb dX3_joined_37 hl (k := 3) rfl ((show nI (k) + Int32.ofInt 1 = nI (k) + nI 1 from rfl).trans ((nI_add _ _).trans (congrArg nI (by omega)))) (Nat.le_of_ble_eq_true rfl) rfl (fun ls hl => ?_)
    have hl : lv_has ls 4 [(3, .int (nI (k + 1))), (0, .ref ya), (1, .ref yb), (2, .ref q1)] := hl
    have hl : lv_has ls 4 [(0, .ref ya), (1, .ref yb), (2, .ref q1), (3, .int (nI (k + 1)))] := lv_sub hl [1, 2, 3, 0] rfl
    refine lv_goto (tgt := 10) hx hb dX3_joined_40 rfl ?_
    refine W.widen (k := 1 + (k + 1) * 0) (n := 200 + (k + 1) * 0) (by omega) (by omega) ?_
    exact kk _ _ _ ⟨hl, hP, hD, hS⟩
set_option maxHeartbeats 4000000 in
set_option maxRecDepth 100000 in
/-- part(row, 0, n) of 200 zeros -/
theorem c_X3_part (l : Launch) (D : va_G) (E : Nat → ClassId) (sz : Nat) (ya n : Nat) (hn : n ≤ 200) : Met l yX3_part wsX3_part ({ frames := 2, cells := 1, slots := 200, locals := 200 }) (va_Pc [.ref ya, .int (nI 0), .int (nI n)] (rf_P D E [(ya, .inl (E 2, 200, .inl z0))] sz)) (va_Qr (fun (u : Unit) => True) (fun (u : Unit) (ra : Nat) (t : State) => rf_B D (va_A [(ya, .inl (E 2, 200, .inl z0))] sz) [(ya, .inl (E 2, 200, .inl z0)), (ra, .inl (E 2, n, .inl z0))] t) (va_A [(ya, .inl (E 2, 200, .inl z0))] sz)) 1 200 (va_A [(ya, .inl (E 2, 200, .inl z0))] sz) := by
  refine Met.ofW (cc := cX3_part) (maxL := 5) (ret := (some (.array .int))) (by decide) rfl ?_
  intro p e s mI args below meth c s₁ B hml hv
  obtain ⟨rfl, hsz, hP, hK, hD0, hZ, hN⟩ := hv
  have hx := B.exec
  have hb := B.bytes
  have hr := B.returns
  have hts := atoms_spec (ws := wsX3_part) B.pre
  have hown : s.vm.findClass RX3 = some mI.cls := findClass_of_methodNamed B.named
  have hlocks := B.notSynchronized
  subst hsz
  have hD := hD0.self (sz := s.heap.size)
  generalize hAe : va_A [(ya, .inl (E 2, 200, .inl z0))] s.heap.size = A at hD hZ ⊢
  have hA : ∀ q : Nat, s.heap.size ≤ q → A q := fun q h => by rw [← hAe]; exact Or.inr h
  have hS : va_S A s.heap s.heap [] := va_S.rf
  have hl := lv_entry ([.ref ya, .int (nI 0), .int (nI n)]) (n := 5) (Nat.le_of_ble_eq_true rfl)
  rw [lg_entry_eq]
  generalize (lg_sl ([.ref ya, .int (nI 0), .int (nI n)]) ++ List.replicate (5 - (lg_sl ([.ref ya, .int (nI 0), .int (nI n)])).length) Slot.unset).toArray = ls at hl ⊢
  clear hAe hD0
  have hl : lv_has ls 5 [(0, .ref ya), (1, .int (nI 0)), (2, .int (nI n))] := hl
  obtain ⟨H, hH⟩ : ∃ H, H = s.heap := ⟨_, rfl⟩
  rw [← hH] at hP
  have hS : va_S A s.heap H [] := by rw [hH]; exact hS
  refine rf_heap hH ?_
  refine lv_iload_n hx hb dX3_part_0 rfl (lv_at hl 2 rfl) ?_
  refine lv_iload_n hx hb dX3_part_1 rfl (lv_at hl 1 rfl) ?_
  refine lv_isub hx hb dX3_part_2 (lv_topi (fun f1 ef => ?_))
  obtain rfl : f1 = nI (n) := (show f1 = nI (n) - nI (0) from ef).trans ((pk_sub (by omega)).trans (congrArg nI (by omega)))
  have h_1 : 0 + 1 ≤ 1 := by omega
  have h_2 : 0 + (n) ≤ 200 := by omega
  refine va_newa (atype := .int) (N' := n) (a0 := (n, .inl z0)) hx hb (hts (.arrayClass .int) (by decide +kernel)) rfl hK hP hD hS hA (fun _ => rfl) (nI_pos (by omega)) (nI_clamp (by omega)) (Nat.le_trans (Nat.mul_le_mul_right _ (show n ≤ 200 by omega)) (Nat.le_of_ble_eq_true rfl)) h_1 h_2 dX3_part_3 (fun q1 cA H hK2 hP hD hS => ?_)
  obtain rfl := rf_int hK2
  have hP : va_P D vwCl [(ya, .inl (E 2, 200, .inl z0)), (q1, .inl (E 2, n, .inl z0))] H := hP
  have hD : va_D A [(ya, .inl (E 2, 200, .inl z0)), (q1, .inl (E 2, n, .inl z0))] := hD
  refine W.widen (k := 1) (n := 200) (by omega) (by omega) ?_
  refine lv_astore_n hx hb dX3_part_5 rfl hl (Nat.le_of_ble_eq_true rfl) rfl (fun ls hl => ?_)
  have hl : lv_has ls 5 [(3, .ref q1), (0, .ref ya), (1, .int (nI 0)), (2, .int (nI n))] := hl
  refine lv_iload_n hx hb dX3_part_6 rfl (lv_at hl 2 rfl) ?_
  refine lv_istore hx hb dX3_part_7 hl (Nat.le_of_ble_eq_true rfl) rfl (fun ls hl => ?_)
  have hl : lv_has ls 5 [(4, .int (nI 0)), (3, .ref q1), (0, .ref ya), (1, .int (nI 0)), (2, .int (nI n))] := hl
  have hl : lv_has ls 5 [(0, .ref ya), (1, .int (nI 0)), (2, .int (nI n)), (3, .ref q1), (4, .int (nI 0))] := lv_sub hl [2, 3, 4, 1, 0] rfl
  refine rf_loop (n) 0 0 (fun k H locs ls => lv_has ls 5 [(0, .ref ya), (1, .int (nI 0)), (2, .int (nI n)), (3, .ref q1), (4, .int (nI (k)))] ∧ va_P D vwCl [(ya, .inl (E 2, 200, .inl z0)), (q1, .inl (E 2, n, .inl z0))] H ∧ va_D A [(ya, .inl (E 2, 200, .inl z0)), (q1, .inl (E 2, n, .inl z0))] ∧ va_S A s.heap H locs) ⟨hl, hP, hD, hS⟩ ?_ ?_
  · intro H locs ls hI
    obtain ⟨hl, hP, hD, hS⟩ := hI
    refine lv_iload hx hb dX3_part_9 (lv_at hl 4 rfl) ?_
    refine lv_iload_n hx hb dX3_part_11 rfl (lv_at hl 2 rfl) ?_
    refine lv_icmp_ge (tgt := 31) hx hb dX3_part_12 rfl (fun _ => ?_) (fun h => absurd (show nI (n) ≤ nI (n) from nI_le (by omega) (by omega)) h)
    refine lv_aload_n hx hb dX3_part_31 rfl (lv_at hl 3 rfl) ?_
    refine W.widen (k := 1) (n := 200) (by omega) (by omega) ?_
    exact W.aret (v := .ref q1) hx hb hr (Or.inr ⟨_, rfl⟩) (Or.inr ⟨_, rfl⟩) (fun t ht hW => ⟨⟨(), q1, rfl, trivial, rf_end ht hP hD⟩, hS.F ht⟩) hS.2.2 dX3_part_32
  · intro k H locs ls hkN hI kk
    obtain ⟨hl, hP, hD, hS⟩ := hI
    refine lv_iload hx hb dX3_part_9 (lv_at hl 4 rfl) ?_
    refine lv_iload_n hx hb dX3_part_11 rfl (lv_at hl 2 rfl) ?_
    refine lv_icmp_ge (tgt := 31) hx hb dX3_part_12 rfl (fun h => absurd h (show ¬ nI (n) ≤ nI (k) from nI_ge (by omega) (by omega))) (fun _ => ?_)
    refine lv_aload_n hx hb dX3_part_15 rfl (lv_at hl 3 rfl) ?_
    refine lv_iload hx hb dX3_part_16 (lv_at hl 4 rfl) ?_
    refine lv_iload_n hx hb dX3_part_18 rfl (lv_at hl 1 rfl) ?_
    refine lv_isub hx hb dX3_part_19 (lv_topi (fun f2 ef => ?_))
    obtain rfl : f2 = nI (k) := (show f2 = nI (k) - nI (0) from ef).trans ((pk_sub (by omega)).trans (congrArg nI (by omega)))
    refine lv_aload_n hx hb dX3_part_20 rfl (lv_at hl 0 rfl) ?_
    refine lv_iload hx hb dX3_part_21 (lv_at hl 4 rfl) ?_
    refine va_iald hx hb hK hP 0 2 rfl rfl (vp_in_nI (by omega) (by omega)) dX3_part_23 (W.eq (g2 := F0 mI 24 ls (.int 0 :: [.int (nI (k)), .ref q1])) rfl ?_)
    refine va_iast hx hb hK hP hD hS 1 2 rfl rfl (vp_in_nI (by omega) (by omega)) dX3_part_24 (fun H locs hP hD hS => ?_)
    rw [rf_u0] at hP hD
    have hP : va_P D vwCl [(ya, .inl (E 2, 200, .inl z0)), (q1, .inl (E 2, n, .inl z0))] H := hP
    have hD : va_D A [(ya, .inl (E 2, 200, .inl z0)), (q1, .inl (E 2, n, .inl z0))] := hD
    refine lv_iinc (v := nI (k + 1)) hx hb dX3_part_25 hl (k := 4) rfl ((show nI (k) + Int32.ofInt 1 = nI (k) + nI 1 from rfl).trans ((nI_add _ _).trans (congrArg nI (by omega)))) (Nat.le_of_ble_eq_true rfl) rfl (fun ls hl => ?_)
    have hl : lv_has ls 5 [(4, .int (nI (k + 1))), (0, .ref ya), (1, .int (nI 0)), (2, .int (nI n)), (3, .ref q1)] := hl
    have hl : lv_has ls 5 [(0, .ref ya), (1, .int (nI 0)), (2, .int (nI n)), (3, .ref q1), (4, .int (nI (k + 1)))] := lv_sub hl [1, 2, 3, 4, 0] rfl
    refine lv_goto (tgt := 9) hx hb dX3_part_28 rfl ?_
    refine W.widen (k := 1 + (k + 1) * 0) (n := 200 + (k + 1) * 0) (by omega) (by omega) ?_
    exact kk _ _ _ ⟨hl, hP, hD, hS⟩
set_option maxHeartbeats 4000000 in
set_option maxRecDepth 100000 in
/-- the reference: setLength(0, 200), the tape empty -/
theorem c_X3_setLength (l : Launch) (D : va_G) (E : Nat → ClassId) (sz : Nat) (m0 t1 y0 : Nat) (th : Int32) (f : Nat → Option Nat) (a2 a3 a4 a5 : Value) (hf : f 0 = some y0) : Met l yX3_setLength wsX3_setLength ({ frames := 4, cells := 3, slots := 600, locals := 600 }) (va_Pc [.ref m0, .int (nI 0), .int (nI 200)] (rf_P D E [(m0, .inr (5, [.int th, .ref t1, a2, a3, a4, a5])), (t1, .inl (E 4, 4, .inr (.inr (.inr (.inr f))))), (y0, .inl (E 2, 0, .inl z0))] sz)) (va_Qi (fun (r : Int32) (u : Nat) => r = nI 0) (fun (u : Nat) (t : State) => rf_B D (va_A [(m0, .inr (5, [.int th, .ref t1, a2, a3, a4, a5])), (t1, .inl (E 4, 4, .inr (.inr (.inr (.inr f))))), (y0, .inl (E 2, 0, .inl z0))] sz) [(m0, .inr (5, [.int 0, .ref t1, a2, a3, a4, a5])), (t1, .inl (E 4, 4, .inr (.inr (.inr (.inr (va_up f 0 (some u))))))), (u, .inl (E 2, 200, .inl z0))] t) (va_A [(m0, .inr (5, [.int th, .ref t1, a2, a3, a4, a5])), (t1, .inl (E 4, 4, .inr (.inr (.inr (.inr f))))), (y0, .inl (E 2, 0, .inl z0))] sz)) 3 600 (va_A [(m0, .inr (5, [.int th, .ref t1, a2, a3, a4, a5])), (t1, .inl (E 4, 4, .inr (.inr (.inr (.inr f))))), (y0, .inl (E 2, 0, .inl z0))] sz) := by
  refine Met.ofW (cc := cX3_setLength) (maxL := 4) (ret := (some .int)) (by decide) rfl ?_
  intro p e s mI args below meth c s₁ B hml hv
  obtain ⟨rfl, hsz, hP, hK, hD0, hZ, hN⟩ := hv
  have hx := B.exec
  have hb := B.bytes
  have hr := B.returns
  have hts := atoms_spec (ws := wsX3_setLength) B.pre
  have hown : s.vm.findClass RX3 = some mI.cls := findClass_of_methodNamed B.named
  have hlocks := B.notSynchronized
  subst hsz
  have hD := hD0.self (sz := s.heap.size)
  generalize hAe : va_A [(m0, .inr (5, [.int th, .ref t1, a2, a3, a4, a5])), (t1, .inl (E 4, 4, .inr (.inr (.inr (.inr f))))), (y0, .inl (E 2, 0, .inl z0))] s.heap.size = A at hD hZ ⊢
  have hA : ∀ q : Nat, s.heap.size ≤ q → A q := fun q h => by rw [← hAe]; exact Or.inr h
  have hS : va_S A s.heap s.heap [] := va_S.rf
  have hl := lv_entry ([.ref m0, .int (nI 0), .int (nI 200)]) (n := 4) (Nat.le_of_ble_eq_true rfl)
  rw [lg_entry_eq]
  generalize (lg_sl ([.ref m0, .int (nI 0), .int (nI 200)]) ++ List.replicate (4 - (lg_sl ([.ref m0, .int (nI 0), .int (nI 200)])).length) Slot.unset).toArray = ls at hl ⊢
  clear hAe hD0
  have hl : lv_has ls 4 [(0, .ref m0), (1, .int (nI 0)), (2, .int (nI 200))] := hl
  obtain ⟨H, hH⟩ : ∃ H, H = s.heap := ⟨_, rfl⟩
  rw [← hH] at hP
  have hS : va_S A s.heap H [] := by rw [hH]; exact hS
  refine rf_heap hH ?_
  refine lv_aload_n hx hb dX3_setLength_0 rfl (lv_at hl 0 rfl) ?_
  refine lv_iload_n hx hb dX3_setLength_1 rfl (lv_at hl 1 rfl) ?_
  have hPc := hP.sub (ws' := []) [] rfl
  have hDc := hD.sub (ws' := []) [] (by decide) rfl
  have hFc := va_free (wc := []) hD hS hA [] rfl
  have h_1 : 0 + 0 ≤ 3 := by omega
  have h_2 : 0 + 0 ≤ 600 := by omega
  refine va_calli (va_runS (As := [.int (nI 0)]) (rest := [.ref m0]) ⟨hx, hb, hml, hown, hts⟩ (c_X3_isNoTape l D E H.size ) (va_cwS 1 hts gX3_setLength_X3_isNoTape rfl rfl rfl (by decide +kernel) ⟨Nat.le_of_ble_eq_true rfl, Nat.le_of_ble_eq_true rfl⟩) ⟨rf_blind _, fun U hU hW => ⟨rfl, rf_pre hK hPc hDc hZ hN hS hFc U hU hW⟩⟩ rfl rfl hl.1 rfl (lv_room (Nat.le_of_ble_eq_true rfl)) dX3_setLength_2 ⟨h_1, h_2⟩) hS (fun q _ h => hFc q h) hFc (fun r u t H1 locs ht hvm hw hB hz1 hk1 hS => ?_)
  obtain ⟨hP1, hD1⟩ := hB
  rw [ht] at hP1
  try dsimp only at hw hP1 hD1
  obtain rfl := hw
  obtain ⟨hP, hD⟩ := va_join (wr := [(m0, .inr (5, [.int th, .ref t1, a2, a3, a4, a5])), (t1, .inl (E 4, 4, .inr (.inr (.inr (.inr f))))), (y0, .inl (E 2, 0, .inl z0))]) (w1 := []) hP hD [] [0, 1, 2] rfl rfl (by decide) (by decide) hk1 hFc hP1 hD1
  clear hPc hDc hFc hP1 hD1 hk1 hz1 ht
  generalize H1 = H at hP hS ⊢
  have hP : va_P D vwCl [(m0, .inr (5, [.int th, .ref t1, a2, a3, a4, a5])), (t1, .inl (E 4, 4, .inr (.inr (.inr (.inr f))))), (y0, .inl (E 2, 0, .inl z0))] H := hP
  have hD : va_D A [(m0, .inr (5, [.int th, .ref t1, a2, a3, a4, a5])), (t1, .inl (E 4, 4, .inr (.inr (.inr (.inr f))))), (y0, .inl (E 2, 0, .inl z0))] := hD
  refine lv_iconst (v := nI 1) hx hb dX3_setLength_5 (by decide) ?_
  have hPc := hP.sub (ws' := [(m0, .inr (5, [.int th, .ref t1, a2, a3, a4, a5]))]) [0] rfl
  have hDc := hD.sub (ws' := [(m0, .inr (5, [.int th, .ref t1, a2, a3, a4, a5]))]) [0] (by decide) rfl
  have hFc := va_free (wc := [(m0, .inr (5, [.int th, .ref t1, a2, a3, a4, a5]))]) hD hS hA [0] rfl
  have h_1 : 0 + 0 ≤ 3 := by omega
  have h_2 : 0 + 0 ≤ 600 := by omega
  refine va_calli (va_runV (As := [.int (0), .int (nI 1)]) (rest := []) ⟨hx, hb, hml, hown, hts⟩ (c_X3_start l D E H.size (m0) (t1) (th) (a2) (a3) (a4) (a5)) (cwV 2 hts gX3_setLength_X3_start rfl rfl rfl (by decide +kernel) ⟨Nat.le_of_ble_eq_true rfl, Nat.le_of_ble_eq_true rfl⟩) ⟨rf_blind _, va_recv hK hPc (ci := 5) (q0 := 0) rfl rfl, fun U hU hW => ⟨rfl, rf_pre hK hPc hDc hZ hN hS hFc U hU hW⟩⟩ rfl rfl hl.1 rfl (lv_room (Nat.le_of_ble_eq_true rfl)) dX3_setLength_6 ⟨h_1, h_2⟩) hS (fun q _ h => hFc q h) hFc (fun r u t H1 locs ht hvm hw hB hz1 hk1 hS => ?_)
  obtain ⟨hP1, hD1⟩ := hB
  rw [ht] at hP1
  try dsimp only at hw hP1 hD1
  obtain rfl := hw
  obtain ⟨hP, hD⟩ := va_join (wr := [(t1, .inl (E 4, 4, .inr (.inr (.inr (.inr f))))), (y0, .inl (E 2, 0, .inl z0))]) (w1 := [(m0, .inr (5, [.int (0), .ref t1, a2, a3, a4, a5]))]) hP hD [0] [1, 2] rfl rfl (by decide) (by decide) hk1 hFc hP1 hD1
  clear hPc hDc hFc hP1 hD1 hk1 hz1 ht
  generalize H1 = H at hP hS ⊢
  have hP : va_P D vwCl [(t1, .inl (E 4, 4, .inr (.inr (.inr (.inr f))))), (y0, .inl (E 2, 0, .inl z0)), (m0, .inr (5, [.int (0), .ref t1, a2, a3, a4, a5]))] H := hP
  have hD : va_D A [(t1, .inl (E 4, 4, .inr (.inr (.inr (.inr f))))), (y0, .inl (E 2, 0, .inl z0)), (m0, .inr (5, [.int (0), .ref t1, a2, a3, a4, a5]))] := hD
  refine lv_if_ne (tgt := 37) hx hb dX3_setLength_9 rfl (fun h => absurd (by decide) h) (fun _ => ?_)
  refine lv_aload_n hx hb dX3_setLength_12 rfl (lv_at hl 0 rfl) ?_
  refine lv_iload_n hx hb dX3_setLength_13 rfl (lv_at hl 2 rfl) ?_
  refine lv_i2l (v := lN 200) hx hb dX3_setLength_14 (by decide) ?_
  refine lv_lconst (v := lN 0) hx hb dX3_setLength_15 (by decide) ?_
  refine lv_ldc2 (v := 200) hx hb hown (hts (.constantLong RX3 143 200) (by decide +kernel)) dX3_setLength_16 ?_
  have hPc := hP.sub (ws' := []) [] rfl
  have hDc := hD.sub (ws' := []) [] (by decide) rfl
  have hFc := va_free (wc := []) hD hS hA [] rfl
  have h_1 : 0 + 0 ≤ 3 := by omega
  have h_2 : 0 + 0 ≤ 600 := by omega
  refine va_calli (va_runS (As := [.long (lN 200), .long (lN 0), .long (lN 200)]) (rest := [.ref m0]) ⟨hx, hb, hml, hown, hts⟩ (c_X3_isIn_l l D E H.size ) (va_cwS 3 hts gX3_setLength_X3_isIn rfl rfl rfl (by decide +kernel) ⟨Nat.le_of_ble_eq_true rfl, Nat.le_of_ble_eq_true rfl⟩) ⟨rf_blind _, fun U hU hW => ⟨rfl, rf_pre hK hPc hDc hZ hN hS hFc U hU hW⟩⟩ rfl rfl hl.1 rfl (lv_room (Nat.le_of_ble_eq_true rfl)) dX3_setLength_19 ⟨h_1, h_2⟩) hS (fun q _ h => hFc q h) hFc (fun r u t H1 locs ht hvm hw hB hz1 hk1 hS => ?_)
  obtain ⟨hP1, hD1⟩ := hB
  rw [ht] at hP1
  try dsimp only at hw hP1 hD1
  obtain rfl := hw
  obtain ⟨hP, hD⟩ := va_join (wr := [(t1, .inl (E 4, 4, .inr (.inr (.inr (.inr f))))), (y0, .inl (E 2, 0, .inl z0)), (m0, .inr (5, [.int (0), .ref t1, a2, a3, a4, a5]))]) (w1 := []) hP hD [] [0, 1, 2] rfl rfl (by decide) (by decide) hk1 hFc hP1 hD1
  clear hPc hDc hFc hP1 hD1 hk1 hz1 ht
  generalize H1 = H at hP hS ⊢
  have hP : va_P D vwCl [(t1, .inl (E 4, 4, .inr (.inr (.inr (.inr f))))), (y0, .inl (E 2, 0, .inl z0)), (m0, .inr (5, [.int (0), .ref t1, a2, a3, a4, a5]))] H := hP
  have hD : va_D A [(t1, .inl (E 4, 4, .inr (.inr (.inr (.inr f))))), (y0, .inl (E 2, 0, .inl z0)), (m0, .inr (5, [.int (0), .ref t1, a2, a3, a4, a5]))] := hD
  refine lv_if_ne (tgt := 29) hx hb dX3_setLength_22 rfl (fun _ => ?_) (fun h => absurd h (by decide))
  refine lv_iconst (v := 0) hx hb dX3_setLength_29 (by decide) ?_
  refine lv_iconst (v := nI 2) hx hb dX3_setLength_30 (by decide) ?_
  have hPc := hP.sub (ws' := [(m0, .inr (5, [.int (0), .ref t1, a2, a3, a4, a5]))]) [2] rfl
  have hDc := hD.sub (ws' := [(m0, .inr (5, [.int (0), .ref t1, a2, a3, a4, a5]))]) [2] (by decide) rfl
  have hFc := va_free (wc := [(m0, .inr (5, [.int (0), .ref t1, a2, a3, a4, a5]))]) hD hS hA [2] rfl
  have h_1 : 0 + 0 ≤ 3 := by omega
  have h_2 : 0 + 0 ≤ 600 := by omega
  refine va_calli (va_runV (As := [.int (0), .int (nI 2)]) (rest := []) ⟨hx, hb, hml, hown, hts⟩ (c_X3_refuse l D E H.size (m0) (t1) (2) (a2) (a3) (a4) (a5)) (cwV 2 hts gX3_setLength_X3_refuse rfl rfl rfl (by decide +kernel) ⟨Nat.le_of_ble_eq_true rfl, Nat.le_of_ble_eq_true rfl⟩) ⟨rf_blind _, va_recv hK hPc (ci := 5) (q0 := 0) rfl rfl, fun U hU hW => ⟨rfl, rf_pre hK hPc hDc hZ hN hS hFc U hU hW⟩⟩ rfl rfl hl.1 rfl (lv_room (Nat.le_of_ble_eq_true rfl)) dX3_setLength_31 ⟨h_1, h_2⟩) hS (fun q _ h => hFc q h) hFc (fun r u t H1 locs ht hvm hw hB hz1 hk1 hS => ?_)
  obtain ⟨hP1, hD1⟩ := hB
  rw [ht] at hP1
  try dsimp only at hw hP1 hD1
  obtain rfl := hw
  obtain ⟨hP, hD⟩ := va_join (wr := [(t1, .inl (E 4, 4, .inr (.inr (.inr (.inr f))))), (y0, .inl (E 2, 0, .inl z0))]) (w1 := [(m0, .inr (5, [.int (0), .ref t1, a2, a3, a4, a5]))]) hP hD [2] [0, 1] rfl rfl (by decide) (by decide) hk1 hFc hP1 hD1
  clear hPc hDc hFc hP1 hD1 hk1 hz1 ht
  generalize H1 = H at hP hS ⊢
  have hP : va_P D vwCl [(t1, .inl (E 4, 4, .inr (.inr (.inr (.inr f))))), (y0, .inl (E 2, 0, .inl z0)), (m0, .inr (5, [.int (0), .ref t1, a2, a3, a4, a5]))] H := hP
  have hD : va_D A [(t1, .inl (E 4, 4, .inr (.inr (.inr (.inr f))))), (y0, .inl (E 2, 0, .inl z0)), (m0, .inr (5, [.int (0), .ref t1, a2, a3, a4, a5]))] := hD
  refine lv_if_eq (tgt := 39) hx hb dX3_setLength_34 rfl (fun _ => ?_) (fun h => absurd (by decide) h)
  refine lv_aload_n hx hb dX3_setLength_39 rfl (lv_at hl 0 rfl) ?_
  refine va_get (D := D) (ci := 5) (v := .ref t1) (C := RX3) (T := TX3) (N := 6) hx hb hts (by decide +kernel) hown hK hP 2 rfl rfl 1 (by decide) (hts (.fieldLink RX3 11 "TapebufferModel" "tapes" "[[I") (by decide +kernel)) (fun _ h9 => h9) rfl dX3_setLength_40 ?_
  refine lv_iload_n hx hb dX3_setLength_43 rfl (lv_at hl 1 rfl) ?_
  refine rf_aldg hx hb hK hP 0 4 rfl rfl (vp_in_nI (by omega) (by omega)) dX3_setLength_44 (W.eq (g2 := F0 mI 45 ls (.ref y0 :: [])) (by rw [show (nI 0).toNatClampNeg = 0 from rfl, hf]; rfl) ?_)
  refine va_alen (v := nI (0)) hx hb hK hP 1 2 rfl rfl rfl dX3_setLength_45 ?_
  refine lv_istore_n hx hb dX3_setLength_46 rfl hl (Nat.le_of_ble_eq_true rfl) rfl (fun ls hl => ?_)
  have hl : lv_has ls 4 [(3, .int (nI (0))), (0, .ref m0), (1, .int (nI 0)), (2, .int (nI 200))] := hl
  refine lv_aload_n hx hb dX3_setLength_47 rfl (lv_at hl 1 rfl) ?_
  refine va_get (D := D) (ci := 5) (v := .ref t1) (C := RX3) (T := TX3) (N := 6) hx hb hts (by decide +kernel) hown hK hP 2 rfl rfl 1 (by decide) (hts (.fieldLink RX3 11 "TapebufferModel" "tapes" "[[I") (by decide +kernel)) (fun _ h9 => h9) rfl dX3_setLength_48 ?_
  refine lv_iload_n hx hb dX3_setLength_51 rfl (lv_at hl 2 rfl) ?_
  refine lv_aload_n hx hb dX3_setLength_52 rfl (lv_at hl 1 rfl) ?_
  refine va_get (D := D) (ci := 5) (v := .ref t1) (C := RX3) (T := TX3) (N := 6) hx hb hts (by decide +kernel) hown hK hP 2 rfl rfl 1 (by decide) (hts (.fieldLink RX3 11 "TapebufferModel" "tapes" "[[I") (by decide +kernel)) (fun _ h9 => h9) rfl dX3_setLength_53 ?_
  refine lv_iload_n hx hb dX3_setLength_56 rfl (lv_at hl 2 rfl) ?_
  refine rf_aldg hx hb hK hP 0 4 rfl rfl (vp_in_nI (by omega) (by omega)) dX3_setLength_57 (W.eq (g2 := F0 mI 58 ls (.ref y0 :: [.int (nI 0), .ref t1])) (by rw [show (nI 0).toNatClampNeg = 0 from rfl, hf]; rfl) ?_)
  refine lv_sipush (v := nI 200) hx hb dX3_setLength_58 (by decide) ?_
  have h_1 : 0 + 1 ≤ 3 := by omega
  have h_2 : 0 + (200) ≤ 600 := by omega
  refine va_newa (atype := .int) (N' := 200) (a0 := (200, .inl z0)) hx hb (hts (.arrayClass .int) (by decide +kernel)) rfl hK hP hD hS hA (fun _ => rfl) (nI_pos (by omega)) (nI_clamp (by omega)) (Nat.le_trans (Nat.mul_le_mul_right _ (show 200 ≤ 200 by omega)) (Nat.le_of_ble_eq_true rfl)) h_1 h_2 dX3_setLength_61 (fun q1 cA H hK2 hP hD hS => ?_)
  obtain rfl := rf_int hK2
  have hP : va_P D vwCl [(t1, .inl (E 4, 4, .inr (.inr (.inr (.inr f))))), (y0, .inl (E 2, 0, .inl z0)), (m0, .inr (5, [.int (0), .ref t1, a2, a3, a4, a5])), (q1, .inl (E 2, 200, .inl z0))] H := hP
  have hD : va_D A [(t1, .inl (E 4, 4, .inr (.inr (.inr (.inr f))))), (y0, .inl (E 2, 0, .inl z0)), (m0, .inr (5, [.int (0), .ref t1, a2, a3, a4, a5])), (q1, .inl (E 2, 200, .inl z0))] := hD
  refine W.widen (k := 1) (n := 200) (by omega) (by omega) ?_
  have hPc := hP.sub (ws' := [(y0, .inl (E 2, 0, .inl z0)), (q1, .inl (E 2, 200, .inl z0))]) [1, 3] rfl
  have hDc := hD.sub (ws' := [(y0, .inl (E 2, 0, .inl z0)), (q1, .inl (E 2, 200, .inl z0))]) [1, 3] (by decide) rfl
  have hFc := va_free (wc := [(y0, .inl (E 2, 0, .inl z0)), (q1, .inl (E 2, 200, .inl z0))]) hD hS hA [1, 3] rfl
  have h_1 : 1 + 1 ≤ 3 := by omega
  have h_2 : 200 + 200 ≤ 600 := by omega
  refine va_callr (va_runS (As := [.ref y0, .ref q1]) (rest := [.int (nI 0), .ref t1]) ⟨hx, hb, hml, hown, hts⟩ (c_X3_joined l D E H.size (y0) (q1)) (va_cwS 2 hts gX3_setLength_X3_joined rfl rfl rfl (by decide +kernel) ⟨Nat.le_of_ble_eq_true rfl, Nat.le_of_ble_eq_true rfl⟩) ⟨rf_blind _, fun U hU hW => ⟨rfl, rf_pre hK hPc hDc hZ hN hS hFc U hU hW⟩⟩ rfl rfl hl.1 rfl (lv_room (Nat.le_of_ble_eq_true rfl)) dX3_setLength_63 ⟨h_1, h_2⟩) hS (fun q _ h => hFc q h) hFc (fun u r1 t H1 locs ht hvm hw hB hz1 hk1 hS => ?_)
  obtain ⟨hP1, hD1⟩ := hB
  rw [ht] at hP1
  try dsimp only at hw hP1 hD1
  obtain ⟨hP, hD⟩ := va_join (wr := [(t1, .inl (E 4, 4, .inr (.inr (.inr (.inr f))))), (m0, .inr (5, [.int (0), .ref t1, a2, a3, a4, a5]))]) (w1 := [(y0, .inl (E 2, 0, .inl z0)), (q1, .inl (E 2, 200, .inl z0)), (r1, .inl (E 2, 200, .inl z0))]) hP hD [1, 3] [0, 2] rfl rfl (by decide) (by decide) hk1 hFc hP1 hD1
  clear hPc hDc hFc hP1 hD1 hk1 hz1 ht
  generalize H1 = H at hP hS ⊢
  have hP : va_P D vwCl [(t1, .inl (E 4, 4, .inr (.inr (.inr (.inr f))))), (m0, .inr (5, [.int (0), .ref t1, a2, a3, a4, a5])), (y0, .inl (E 2, 0, .inl z0)), (q1, .inl (E 2, 200, .inl z0)), (r1, .inl (E 2, 200, .inl z0))] H := hP
  have hD : va_D A [(t1, .inl (E 4, 4, .inr (.inr (.inr (.inr f))))), (m0, .inr (5, [.int (0), .ref t1, a2, a3, a4, a5])), (y0, .inl (E 2, 0, .inl z0)), (q1, .inl (E 2, 200, .inl z0)), (r1, .inl (E 2, 200, .inl z0))] := hD
  refine W.widen (k := 2) (n := 400) (by omega) (by omega) ?_
  refine lv_iconst (v := nI 0) hx hb dX3_setLength_66 (by decide) ?_
  refine lv_iload_n hx hb dX3_setLength_67 rfl (lv_at hl 3 rfl) ?_
  have hPc := hP.sub (ws' := [(r1, .inl (E 2, 200, .inl z0))]) [4] rfl
  have hDc := hD.sub (ws' := [(r1, .inl (E 2, 200, .inl z0))]) [4] (by decide) rfl
  have hFc := va_free (wc := [(r1, .inl (E 2, 200, .inl z0))]) hD hS hA [4] rfl
  have h_1 : 2 + 1 ≤ 3 := by omega
  have h_2 : 400 + 200 ≤ 600 := by omega
  refine va_callr (va_runS (As := [.ref r1, .int (nI 0), .int (nI 200)]) (rest := [.int (nI 0), .ref t1]) ⟨hx, hb, hml, hown, hts⟩ (c_X3_part l D E H.size (r1) (200) (by omega)) (va_cwS 3 hts gX3_setLength_X3_part rfl rfl rfl (by decide +kernel) ⟨Nat.le_of_ble_eq_true rfl, Nat.le_of_ble_eq_true rfl⟩) ⟨rf_blind _, fun U hU hW => ⟨rfl, rf_pre hK hPc hDc hZ hN hS hFc U hU hW⟩⟩ rfl rfl hl.1 rfl (lv_room (Nat.le_of_ble_eq_true rfl)) dX3_setLength_68 ⟨h_1, h_2⟩) hS (fun q _ h => hFc q h) hFc (fun u r2 t H1 locs ht hvm hw hB hz1 hk1 hS => ?_)
  obtain ⟨hP1, hD1⟩ := hB
  rw [ht] at hP1
  try dsimp only at hw hP1 hD1
  obtain ⟨hP, hD⟩ := va_join (wr := [(t1, .inl (E 4, 4, .inr (.inr (.inr (.inr f))))), (m0, .inr (5, [.int (0), .ref t1, a2, a3, a4, a5])), (y0, .inl (E 2, 0, .inl z0)), (q1, .inl (E 2, 200, .inl z0))]) (w1 := [(r1, .inl (E 2, 200, .inl z0)), (r2, .inl (E 2, 200, .inl z0))]) hP hD [4] [0, 1, 2, 3] rfl rfl (by decide) (by decide) hk1 hFc hP1 hD1
  clear hPc hDc hFc hP1 hD1 hk1 hz1 ht
  generalize H1 = H at hP hS ⊢
  have hP : va_P D vwCl [(t1, .inl (E 4, 4, .inr (.inr (.inr (.inr f))))), (m0, .inr (5, [.int (0), .ref t1, a2, a3, a4, a5])), (y0, .inl (E 2, 0, .inl z0)), (q1, .inl (E 2, 200, .inl z0)), (r1, .inl (E 2, 200, .inl z0)), (r2, .inl (E 2, 200, .inl z0))] H := hP
  have hD : va_D A [(t1, .inl (E 4, 4, .inr (.inr (.inr (.inr f))))), (m0, .inr (5, [.int (0), .ref t1, a2, a3, a4, a5])), (y0, .inl (E 2, 0, .inl z0)), (q1, .inl (E 2, 200, .inl z0)), (r1, .inl (E 2, 200, .inl z0)), (r2, .inl (E 2, 200, .inl z0))] := hD
  refine W.widen (k := 3) (n := 600) (by omega) (by omega) ?_
  refine rf_astg hx hb hK hN.2.2.2.2.1 hP hD hS 0 5 rfl rfl (vp_in_nI (by omega) (by omega)) dX3_setLength_71 (fun H locs hP hD hS => ?_)
  have hP : va_P D vwCl [(t1, .inl (E 4, 4, .inr (.inr (.inr (.inr (va_up f 0 (some r2))))))), (m0, .inr (5, [.int (0), .ref t1, a2, a3, a4, a5])), (y0, .inl (E 2, 0, .inl z0)), (q1, .inl (E 2, 200, .inl z0)), (r1, .inl (E 2, 200, .inl z0)), (r2, .inl (E 2, 200, .inl z0))] H := hP
  have hD : va_D A [(t1, .inl (E 4, 4, .inr (.inr (.inr (.inr (va_up f 0 (some r2))))))), (m0, .inr (5, [.int (0), .ref t1, a2, a3, a4, a5])), (y0, .inl (E 2, 0, .inl z0)), (q1, .inl (E 2, 200, .inl z0)), (r1, .inl (E 2, 200, .inl z0)), (r2, .inl (E 2, 200, .inl z0))] := hD
  refine lv_iload_n hx hb dX3_setLength_72 rfl (lv_at hl 0 rfl) ?_
  have hP := hP.sub (ws' := [(m0, .inr (5, [.int (0), .ref t1, a2, a3, a4, a5])), (t1, .inl (E 4, 4, .inr (.inr (.inr (.inr (va_up f 0 (some r2))))))), (r2, .inl (E 2, 200, .inl z0))]) [1, 0, 5] rfl
  have hD := hD.sub (ws' := [(m0, .inr (5, [.int (0), .ref t1, a2, a3, a4, a5])), (t1, .inl (E 4, 4, .inr (.inr (.inr (.inr (va_up f 0 (some r2))))))), (r2, .inl (E 2, 200, .inl z0))]) [1, 0, 5] (by decide) rfl
  exact W.iret (v := nI (0)) hx hb hr (fun t ht hW => ⟨⟨nI (0), r2, rfl, rfl, rf_end ht hP hD⟩, hS.F ht⟩) hS.2.2 dX3_setLength_73
end
section
set_option maxHeartbeats 4000000 in
set_option maxRecDepth 100000 in
/-- the reference: text of n + 1 zeros; the bytes of all its texts lie in the heap -/
theorem c_X3_text (l : Launch) (D : va_G) (E : Nat → ClassId) (sz : Nat) (r0 kb n : Nat) (kh kz : Value) (hn : n + 1 ≤ 200) : Met l yX3_text wsX3_text ({ frames := 8, cells := 1400, slots := 700000, locals := 1400 }) (va_Pc [.ref r0] (rf_P D E [(r0, .inl (E 2, n + 1, .inl z0)), ((E 5), .inr (0, [.ref kb, .int 0, kh, kz])), (kb, .inl (E 0, 0, .inl z0))] sz)) (va_Qr (fun (u : Nat × va_W) => rf_tri (n + 1) ≤ gs u.2) (fun (u : Nat × va_W) (ra : Nat) (t : State) => rf_B D (va_A [(r0, .inl (E 2, n + 1, .inl z0)), ((E 5), .inr (0, [.ref kb, .int 0, kh, kz])), (kb, .inl (E 0, 0, .inl z0))] sz) ([(r0, .inl (E 2, n + 1, .inl z0)), ((E 5), .inr (0, [.ref kb, .int 0, kh, kz])), (kb, .inl (E 0, 0, .inl z0)), (ra, .inr (0, [.ref u.1, .int 0, .int 0, .int 0])), (u.1, .inl (E 0, n + 1, .inl z0))] ++ u.2) t) (va_A [(r0, .inl (E 2, n + 1, .inl z0)), ((E 5), .inr (0, [.ref kb, .int 0, kh, kz])), (kb, .inl (E 0, 0, .inl z0))] sz)) 1400 700000 (va_A [(r0, .inl (E 2, n + 1, .inl z0)), ((E 5), .inr (0, [.ref kb, .int 0, kh, kz])), (kb, .inl (E 0, 0, .inl z0))] sz) := by
  refine Met.ofW (cc := cX3_text) (maxL := 6) (ret := (some (.object "java/lang/String"))) (by decide) rfl ?_
  intro p e s mI args below meth c s₁ B hml hv
  obtain ⟨rfl, hsz, hP, hK, hD0, hZ, hN⟩ := hv
  have hx := B.exec
  have hb := B.bytes
  have hr := B.returns
  have hts := atoms_spec (ws := wsX3_text) B.pre
  have hown : s.vm.findClass RX3 = some mI.cls := findClass_of_methodNamed B.named
  have hlocks := B.notSynchronized
  subst hsz
  have hD := hD0.self (sz := s.heap.size)
  generalize hAe : va_A [(r0, .inl (E 2, n + 1, .inl z0)), ((E 5), .inr (0, [.ref kb, .int 0, kh, kz])), (kb, .inl (E 0, 0, .inl z0))] s.heap.size = A at hD hZ ⊢
  have hA : ∀ q : Nat, s.heap.size ≤ q → A q := fun q h => by rw [← hAe]; exact Or.inr h
  have hS : va_S A s.heap s.heap [] := va_S.rf
  have hl := lv_entry ([.ref r0]) (n := 6) (Nat.le_of_ble_eq_true rfl)
  rw [lg_entry_eq]
  generalize (lg_sl ([.ref r0]) ++ List.replicate (6 - (lg_sl ([.ref r0])).length) Slot.unset).toArray = ls at hl ⊢
  clear hAe hD0
  have hl : lv_has ls 6 [(0, .ref r0)] := hl
  obtain ⟨H, hH⟩ : ∃ H, H = s.heap := ⟨_, rfl⟩
  rw [← hH] at hP
  have hS : va_S A s.heap H [] := by rw [hH]; exact hS
  refine rf_heap hH ?_
  refine va_ldcS hx hb hown hN.2.1 dX3_text_0 ?_
  refine lv_astore_n hx hb dX3_text_2 rfl hl (Nat.le_of_ble_eq_true rfl) rfl (fun ls hl => ?_)
  have hl : lv_has ls 6 [(1, .ref (E 5)), (0, .ref r0)] := hl
  refine lv_aload_n hx hb dX3_text_3 rfl (lv_at hl 1 rfl) ?_
  refine lv_astore_n hx hb dX3_text_4 rfl hl (Nat.le_of_ble_eq_true rfl) rfl (fun ls hl => ?_)
  have hl : lv_has ls 6 [(2, .ref r0), (1, .ref (E 5)), (0, .ref r0)] := hl
  refine lv_aload_n hx hb dX3_text_5 rfl (lv_at hl 0 rfl) ?_
  refine va_alen (v := nI (n + 1)) hx hb hK hP 0 2 rfl rfl rfl dX3_text_6 ?_
  refine lv_istore_n hx hb dX3_text_7 rfl hl (Nat.le_of_ble_eq_true rfl) rfl (fun ls hl => ?_)
  have hl : lv_has ls 6 [(3, .int (nI (n + 1))), (2, .ref r0), (1, .ref (E 5)), (0, .ref r0)] := hl
  refine lv_iconst (v := nI 0) hx hb dX3_text_8 (by decide) ?_
  refine lv_istore hx hb dX3_text_9 hl (Nat.le_of_ble_eq_true rfl) rfl (fun ls hl => ?_)
  have hl : lv_has ls 6 [(4, .int (nI 0)), (3, .int (nI (n + 1))), (2, .ref r0), (1, .ref (E 5)), (0, .ref r0)] := hl
  refine lv_iload hx hb dX3_text_11 (lv_at hl 0 rfl) ?_
  refine lv_iload_n hx hb dX3_text_13 rfl (lv_at hl 1 rfl) ?_
  refine lv_icmp_ge (tgt := 50) hx hb dX3_text_14 rfl (fun h => absurd h (show ¬ nI (n + 1) ≤ nI (0) from nI_ge (by omega) (by omega))) (fun _ => ?_)
  refine lv_aload_n hx hb dX3_text_17 rfl (lv_at hl 2 rfl) ?_
  refine lv_iload hx hb dX3_text_18 (lv_at hl 0 rfl) ?_
  refine va_iald hx hb hK hP 0 2 rfl rfl (vp_in_nI (by omega) (by omega)) dX3_text_20 (W.eq (g2 := F0 mI 21 ls (.int 0 :: [])) rfl ?_)
  refine lv_istore hx hb dX3_text_21 hl (Nat.le_of_ble_eq_true rfl) rfl (fun ls hl => ?_)
  have hl : lv_has ls 6 [(5, .int (0)), (4, .int (nI 0)), (3, .int (nI (n + 1))), (2, .ref r0), (1, .ref (E 5)), (0, .ref r0)] := hl
  have h_1 : 0 + 1 ≤ 1400 := by omega
  have h_2 : 0 + 4 ≤ 700000 := by omega
  refine va_new (ci := 1) (fs := [.null, .int 0, .int 0, .int 0]) (C := RJ4) (T := TJ4) (N := 4) hx hb hts (by decide +kernel) tyJ4 tyJ4_ok hown (hts (.classLink RX3 52 RJ4) (by decide +kernel)) (hts (.instantiable RJ4 4) (by decide +kernel)) (hts (.initialized RJ4) (by decide +kernel)) hK hP hD hS hA rfl (fun j hj => by rcases (show j = 0 ∨ j = 1 ∨ j = 2 ∨ j = 3 by omega) with rfl | rfl | rfl | rfl <;> rfl) h_1 h_2 dX3_text_23 (fun qs H hP hD hS => ?_)
  have hP : va_P D vwCl [(r0, .inl (E 2, n + 1, .inl z0)), ((E 5), .inr (0, [.ref kb, .int 0, kh, kz])), (kb, .inl (E 0, 0, .inl z0)), (qs, .inr (1, [.null, .int 0, .int 0, .int 0]))] H := hP
  have hD : va_D A [(r0, .inl (E 2, n + 1, .inl z0)), ((E 5), .inr (0, [.ref kb, .int 0, kh, kz])), (kb, .inl (E 0, 0, .inl z0)), (qs, .inr (1, [.null, .int 0, .int 0, .int 0]))] := hD
  refine W.widen (k := 1) (n := 4) (by omega) (by omega) ?_
  refine lv_dup hx hb dX3_text_26 rfl ?_
  have hPc := hP.sub (ws' := [(qs, .inr (1, [.null, .int 0, .int 0, .int 0]))]) [3] rfl
  have hDc := hD.sub (ws' := [(qs, .inr (1, [.null, .int 0, .int 0, .int 0]))]) [3] (by decide) rfl
  have hFc := va_free (wc := [(qs, .inr (1, [.null, .int 0, .int 0, .int 0]))]) hD hS hA [3] rfl
  have h_1 : 1 + 1 ≤ 1400 := by omega
  have h_2 : 4 + 16 ≤ 700000 := by omega
  refine va_callv (va_runI (As := []) (rest := [.ref qs]) ⟨hx, hb, hml, hown, hts⟩ (c_J4_init_da8c8 l D E H.size (qs)) (cwI 0 hts gX3_text_J4_init_da8c8 rfl rfl rfl (hts (.initialized RJ4) (by decide +kernel)) (hts (.methodLink RX3 54 yJ4_init_da8c8) (by decide +kernel)) (hts (.instanceMethod yJ4_init_da8c8) (by decide +kernel)) rfl (by decide +kernel) ⟨Nat.le_of_ble_eq_true rfl, Nat.le_of_ble_eq_true rfl⟩) ⟨rf_blind _, fun U hU hW => ⟨rfl, rf_pre hK hPc hDc hZ hN hS hFc U hU hW⟩⟩ rfl rfl hl.1 rfl (lv_room (Nat.le_of_ble_eq_true rfl)) dX3_text_27 ⟨h_1, h_2⟩) hS (fun q _ h => hFc q h) hFc (fun u t H1 locs ht hvm hw hB hz1 hk1 hS => ?_)
  obtain ⟨hP1, hD1⟩ := hB
  rw [ht] at hP1
  try dsimp only at hw hP1 hD1
  obtain ⟨hP, hD⟩ := va_join (wr := [(r0, .inl (E 2, n + 1, .inl z0)), ((E 5), .inr (0, [.ref kb, .int 0, kh, kz])), (kb, .inl (E 0, 0, .inl z0))]) (w1 := [(qs, .inr (1, [.ref u, .int 0, .int 0, .int 0])), (u, .inl (E 0, 16, .inl z0))]) hP hD [3] [0, 1, 2] rfl rfl (by decide) (by decide) hk1 hFc hP1 hD1
  clear hPc hDc hFc hP1 hD1 hk1 hz1 ht
  generalize H1 = H at hP hS ⊢
  have hP : va_P D vwCl [(r0, .inl (E 2, n + 1, .inl z0)), ((E 5), .inr (0, [.ref kb, .int 0, kh, kz])), (kb, .inl (E 0, 0, .inl z0)), (qs, .inr (1, [.ref u, .int 0, .int 0, .int 0])), (u, .inl (E 0, 16, .inl z0))] H := hP
  have hD : va_D A [(r0, .inl (E 2, n + 1, .inl z0)), ((E 5), .inr (0, [.ref kb, .int 0, kh, kz])), (kb, .inl (E 0, 0, .inl z0)), (qs, .inr (1, [.ref u, .int 0, .int 0, .int 0])), (u, .inl (E 0, 16, .inl z0))] := hD
  refine W.widen (k := 2) (n := 20) (by omega) (by omega) ?_
  refine lv_aload_n hx hb dX3_text_30 rfl (lv_at hl 4 rfl) ?_
  have hPc := hP.sub (ws' := [(qs, .inr (1, [.ref u, .int 0, .int 0, .int 0])), (u, .inl (E 0, 16, .inl z0)), ((E 5), .inr (0, [.ref kb, .int 0, kh, kz])), (kb, .inl (E 0, 0, .inl z0))]) [3, 4, 1, 2] rfl
  have hDc := hD.sub (ws' := [(qs, .inr (1, [.ref u, .int 0, .int 0, .int 0])), (u, .inl (E 0, 16, .inl z0)), ((E 5), .inr (0, [.ref kb, .int 0, kh, kz])), (kb, .inl (E 0, 0, .inl z0))]) [3, 4, 1, 2] (by decide) rfl
  have hFc := va_free (wc := [(qs, .inr (1, [.ref u, .int 0, .int 0, .int 0])), (u, .inl (E 0, 16, .inl z0)), ((E 5), .inr (0, [.ref kb, .int 0, kh, kz])), (kb, .inl (E 0, 0, .inl z0))]) hD hS hA [3, 4, 1, 2] rfl
  have h_1 : 2 + 1 ≤ 1400 := by omega
  have h_2 : 20 + 1000 ≤ 700000 := by omega
  refine va_callr (va_runV (As := [.ref (E 5)]) (rest := []) ⟨hx, hb, hml, hown, hts⟩ (c_J4_append_15ec4 l D E H.size (qs) (u) ((E 5)) (kb) (0) (16) (.int 0) (kh) (kz) (by omega) (by omega)) (cwV 1 hts gX3_text_J4_append_15ec4 rfl rfl rfl (by decide +kernel) ⟨Nat.le_of_ble_eq_true rfl, Nat.le_of_ble_eq_true rfl⟩) ⟨rf_blind _, va_recv hK hPc (ci := 1) (q0 := 0) rfl rfl, fun U hU hW => ⟨rfl, rf_pre hK hPc hDc hZ hN hS hFc U hU hW⟩⟩ rfl rfl hl.1 rfl (lv_room (Nat.le_of_ble_eq_true rfl)) dX3_text_31 ⟨h_1, h_2⟩) hS (fun q _ h => hFc q h) hFc (fun u ra t H1 locs ht hvm hw hB hz1 hk1 hS => ?_)
  obtain ⟨m2, b2⟩ := u
  obtain ⟨hra, hP1, hD1⟩ := hB
  try dsimp only at hra
  subst ra
  rw [ht] at hP1
  try dsimp only at hw hP1 hD1
  obtain ⟨hw1, hw2⟩ := hw
  obtain ⟨hP, hD⟩ := va_join (wr := [(r0, .inl (E 2, n + 1, .inl z0))]) (w1 := [(qs, .inr (1, [.ref b2, .int 0, .int 0, .int (nI (0))])), (b2, .inl (E 0, m2, .inl z0)), ((E 5), .inr (0, [.ref kb, .int 0, kh, kz])), (kb, .inl (E 0, 0, .inl z0))]) hP hD [3, 4, 1, 2] [0] rfl rfl (by decide) (by decide) hk1 hFc hP1 hD1
  clear hPc hDc hFc hP1 hD1 hk1 hz1 ht
  generalize H1 = H at hP hS ⊢
  have hP : va_P D vwCl [(r0, .inl (E 2, n + 1, .inl z0)), (qs, .inr (1, [.ref b2, .int 0, .int 0, .int (nI (0))])), (b2, .inl (E 0, m2, .inl z0)), ((E 5), .inr (0, [.ref kb, .int 0, kh, kz])), (kb, .inl (E 0, 0, .inl z0))] H := hP
  have hD : va_D A [(r0, .inl (E 2, n + 1, .inl z0)), (qs, .inr (1, [.ref b2, .int 0, .int 0, .int (nI (0))])), (b2, .inl (E 0, m2, .inl z0)), ((E 5), .inr (0, [.ref kb, .int 0, kh, kz])), (kb, .inl (E 0, 0, .inl z0))] := hD
  refine W.widen (k := 3) (n := 1020) (by omega) (by omega) ?_
  refine lv_iload hx hb dX3_text_34 (lv_at hl 0 rfl) ?_
  refine lv_i2c (v := 0) hx hb dX3_text_36 (by decide) ?_
  have hPc := hP.sub (ws' := [(qs, .inr (1, [.ref b2, .int 0, .int 0, .int (nI (0))])), (b2, .inl (E 0, m2, .inl z0))]) [1, 2] rfl
  have hDc := hD.sub (ws' := [(qs, .inr (1, [.ref b2, .int 0, .int 0, .int (nI (0))])), (b2, .inl (E 0, m2, .inl z0))]) [1, 2] (by decide) rfl
  have hFc := va_free (wc := [(qs, .inr (1, [.ref b2, .int 0, .int 0, .int (nI (0))])), (b2, .inl (E 0, m2, .inl z0))]) hD hS hA [1, 2] rfl
  have h_1 : 3 + 1 ≤ 1400 := by omega
  have h_2 : 1020 + 1000 ≤ 700000 := by omega
  refine va_callr (va_runV (As := [.int (0)]) (rest := []) ⟨hx, hb, hml, hown, hts⟩ (c_J4_append_cf468 l D E H.size (qs) (b2) (0) (m2) (.int 0) (by omega) (by omega)) (cwV 1 hts gX3_text_J4_append_cf468 rfl rfl rfl (by decide +kernel) ⟨Nat.le_of_ble_eq_true rfl, Nat.le_of_ble_eq_true rfl⟩) ⟨rf_blind _, va_recv hK hPc (ci := 1) (q0 := 0) rfl rfl, fun U hU hW => ⟨rfl, rf_pre hK hPc hDc hZ hN hS hFc U hU hW⟩⟩ rfl rfl hl.1 rfl (lv_room (Nat.le_of_ble_eq_true rfl)) dX3_text_37 ⟨h_1, h_2⟩) hS (fun q _ h => hFc q h) hFc (fun u ra t H1 locs ht hvm hw hB hz1 hk1 hS => ?_)
  obtain ⟨m3, b3⟩ := u
  obtain ⟨hra, hP1, hD1⟩ := hB
  try dsimp only at hra
  subst ra
  rw [ht] at hP1
  try dsimp only at hw hP1 hD1
  obtain ⟨hw3, hw4⟩ := hw
  obtain ⟨hP, hD⟩ := va_join (wr := [(r0, .inl (E 2, n + 1, .inl z0)), ((E 5), .inr (0, [.ref kb, .int 0, kh, kz])), (kb, .inl (E 0, 0, .inl z0))]) (w1 := [(qs, .inr (1, [.ref b3, .int 0, .int 0, .int (nI (0 + 1))])), (b3, .inl (E 0, m3, .inl z0))]) hP hD [1, 2] [0, 3, 4] rfl rfl (by decide) (by decide) hk1 hFc hP1 hD1
  clear hPc hDc hFc hP1 hD1 hk1 hz1 ht
  generalize H1 = H at hP hS ⊢
  have hP : va_P D vwCl [(r0, .inl (E 2, n + 1, .inl z0)), ((E 5), .inr (0, [.ref kb, .int 0, kh, kz])), (kb, .inl (E 0, 0, .inl z0)), (qs, .inr (1, [.ref b3, .int 0, .int 0, .int (nI (0 + 1))])), (b3, .inl (E 0, m3, .inl z0))] H := hP
  have hD : va_D A [(r0, .inl (E 2, n + 1, .inl z0)), ((E 5), .inr (0, [.ref kb, .int 0, kh, kz])), (kb, .inl (E 0, 0, .inl z0)), (qs, .inr (1, [.ref b3, .int 0, .int 0, .int (nI (0 + 1))])), (b3, .inl (E 0, m3, .inl z0))] := hD
  refine W.widen (k := 4) (n := 2020) (by omega) (by omega) ?_
  have hPc := hP.sub (ws' := [(qs, .inr (1, [.ref b3, .int 0, .int 0, .int (nI (0 + 1))])), (b3, .inl (E 0, m3, .inl z0))]) [3, 4] rfl
  have hDc := hD.sub (ws' := [(qs, .inr (1, [.ref b3, .int 0, .int 0, .int (nI (0 + 1))])), (b3, .inl (E 0, m3, .inl z0))]) [3, 4] (by decide) rfl
  have hFc := va_free (wc := [(qs, .inr (1, [.ref b3, .int 0, .int 0, .int (nI (0 + 1))])), (b3, .inl (E 0, m3, .inl z0))]) hD hS hA [3, 4] rfl
  have h_1 : 4 + 2 ≤ 1400 := by omega
  have h_2 : 2020 + 1004 ≤ 700000 := by omega
  refine va_callr (va_runV (As := []) (rest := []) ⟨hx, hb, hml, hown, hts⟩ (c_J4_toString_0e30d l D E H.size (qs) (b3) (0 + 1) (m3) (.int 0) (by omega) (by omega)) (cwV 0 hts gX3_text_J4_toString_0e30d rfl rfl rfl (by decide +kernel) ⟨Nat.le_of_ble_eq_true rfl, Nat.le_of_ble_eq_true rfl⟩) ⟨rf_blind _, va_recv hK hPc (ci := 1) (q0 := 0) rfl rfl, fun U hU hW => ⟨rfl, rf_pre hK hPc hDc hZ hN hS hFc U hU hW⟩⟩ rfl rfl hl.1 rfl (lv_room (Nat.le_of_ble_eq_true rfl)) dX3_text_40 ⟨h_1, h_2⟩) hS (fun q _ h => hFc q h) hFc (fun u rs t H1 locs ht hvm hw hB hz1 hk1 hS => ?_)
  obtain ⟨hP1, hD1⟩ := hB
  rw [ht] at hP1
  try dsimp only at hw hP1 hD1
  obtain ⟨hP, hD⟩ := va_join (wr := [(r0, .inl (E 2, n + 1, .inl z0)), ((E 5), .inr (0, [.ref kb, .int 0, kh, kz])), (kb, .inl (E 0, 0, .inl z0))]) (w1 := [(rs, .inr (0, [.ref u, .int 0, .int 0, .int 0])), (u, .inl (E 0, 0 + 1, .inl z0)), (qs, .inr (1, [.ref b3, .int 0, .int 0, .int (nI (0 + 1))])), (b3, .inl (E 0, m3, .inl z0))]) hP hD [3, 4] [0, 1, 2] rfl rfl (by decide) (by decide) hk1 hFc hP1 hD1
  clear hPc hDc hFc hP1 hD1 hk1 hz1 ht
  generalize H1 = H at hP hS ⊢
  have hP : va_P D vwCl [(r0, .inl (E 2, n + 1, .inl z0)), ((E 5), .inr (0, [.ref kb, .int 0, kh, kz])), (kb, .inl (E 0, 0, .inl z0)), (rs, .inr (0, [.ref u, .int 0, .int 0, .int 0])), (u, .inl (E 0, 0 + 1, .inl z0)), (qs, .inr (1, [.ref b3, .int 0, .int 0, .int (nI (0 + 1))])), (b3, .inl (E 0, m3, .inl z0))] H := hP
  have hD : va_D A [(r0, .inl (E 2, n + 1, .inl z0)), ((E 5), .inr (0, [.ref kb, .int 0, kh, kz])), (kb, .inl (E 0, 0, .inl z0)), (rs, .inr (0, [.ref u, .int 0, .int 0, .int 0])), (u, .inl (E 0, 0 + 1, .inl z0)), (qs, .inr (1, [.ref b3, .int 0, .int 0, .int (nI (0 + 1))])), (b3, .inl (E 0, m3, .inl z0))] := hD
  refine W.widen (k := 6) (n := 3024) (by omega) (by omega) ?_
  refine lv_astore_n hx hb dX3_text_43 rfl hl (Nat.le_of_ble_eq_true rfl) rfl (fun ls hl => ?_)
  have hl : lv_has ls 6 [(1, .ref rs), (5, .int (0)), (4, .int (nI 0)), (3, .int (nI (n + 1))), (2, .ref r0), (0, .ref r0)] := hl
  refine lv_iinc (v := nI (1)) hx hb dX3_text_44 hl (k := 2) rfl ((show nI (0) + Int32.ofInt 1 = nI (0) + nI 1 from rfl).trans ((nI_add _ _).trans (congrArg nI (by omega)))) (Nat.le_of_ble_eq_true rfl) rfl (fun ls hl => ?_)
  have hl : lv_has ls 6 [(4, .int (nI (1))), (1, .ref rs), (5, .int (0)), (3, .int (nI (n + 1))), (2, .ref r0), (0, .ref r0)] := hl
  have hl : lv_has ls 6 [(1, .ref rs), (2, .ref r0), (3, .int (nI (n + 1))), (4, .int (nI (1)))] := lv_sub hl [1, 4, 3, 0] rfl
  have hP := hP.sub (ws' := [(r0, .inl (E 2, n + 1, .inl z0)), ((E 5), .inr (0, [.ref kb, .int 0, kh, kz])), (kb, .inl (E 0, 0, .inl z0)), (rs, .inr (0, [.ref u, .int 0, .int 0, .int 0])), (u, .inl (E 0, 0 + 1, .inl z0))]) [0, 1, 2, 3, 4] rfl
  have hD := hD.sub (ws' := [(r0, .inl (E 2, n + 1, .inl z0)), ((E 5), .inr (0, [.ref kb, .int 0, kh, kz])), (kb, .inl (E 0, 0, .inl z0)), (rs, .inr (0, [.ref u, .int 0, .int 0, .int 0])), (u, .inl (E 0, 0 + 1, .inl z0))]) [0, 1, 2, 3, 4] (by decide) rfl
  refine lv_goto (tgt := 11) hx hb dX3_text_47 rfl ?_
  refine W.widen (k := 6) (n := 3024) (by omega) (by omega) ?_
  refine rf_loop (n) 6 3024 (fun k H locs ls => ∃ (q b : Nat) (G : va_W), lv_has ls 6 [(1, .ref q), (2, .ref r0), (3, .int (nI (n + 1))), (4, .int (nI (k + 1)))] ∧ va_P D vwCl ([(r0, .inl (E 2, n + 1, .inl z0)), ((E 5), .inr (0, [.ref kb, .int 0, kh, kz])), (kb, .inl (E 0, 0, .inl z0)), (q, .inr (0, [.ref b, .int 0, .int 0, .int 0])), (b, .inl (E 0, k + 1, .inl z0))] ++ G) H ∧ va_D A ([(r0, .inl (E 2, n + 1, .inl z0)), ((E 5), .inr (0, [.ref kb, .int 0, kh, kz])), (kb, .inl (E 0, 0, .inl z0)), (q, .inr (0, [.ref b, .int 0, .int 0, .int 0])), (b, .inl (E 0, k + 1, .inl z0))] ++ G) ∧ va_S A s.heap H locs ∧ rf_tri (k + 1) ≤ gs G) ⟨rs, u, [], hl, hP, hD, hS, Nat.le_refl 0⟩ ?_ ?_
  · intro H locs ls hI
    obtain ⟨q, b, G, hl, hP, hD, hS, hg⟩ := hI
    refine lv_iload hx hb dX3_text_11 (lv_at hl 3 rfl) ?_
    refine lv_iload_n hx hb dX3_text_13 rfl (lv_at hl 2 rfl) ?_
    refine lv_icmp_ge (tgt := 50) hx hb dX3_text_14 rfl (fun _ => ?_) (fun h => absurd (show nI (n + 1) ≤ nI (n + 1) from nI_le (by omega) (by omega)) h)
    refine lv_aload_n hx hb dX3_text_50 rfl (lv_at hl 0 rfl) ?_
    refine W.widen (k := 1400) (n := 700000) (by omega) (by omega) ?_
    exact W.aret (v := .ref q) hx hb hr (Or.inl ⟨_, rfl⟩) (Or.inr ⟨_, rfl⟩) (fun t ht hW => ⟨⟨(b, G), q, rfl, hg, rf_end ht hP hD⟩, hS.F ht⟩) hS.2.2 dX3_text_51
  · intro k H locs ls hkN hI kk
    obtain ⟨q, b, G, hl, hP, hD, hS, hg⟩ := hI
    refine lv_iload hx hb dX3_text_11 (lv_at hl 3 rfl) ?_
    refine lv_iload_n hx hb dX3_text_13 rfl (lv_at hl 2 rfl) ?_
    refine lv_icmp_ge (tgt := 50) hx hb dX3_text_14 rfl (fun h => absurd h (show ¬ nI (n + 1) ≤ nI (k + 1) from nI_ge (by omega) (by omega))) (fun _ => ?_)
    refine lv_aload_n hx hb dX3_text_17 rfl (lv_at hl 1 rfl) ?_
    refine lv_iload hx hb dX3_text_18 (lv_at hl 3 rfl) ?_
    refine va_iald hx hb hK hP 0 2 rfl rfl (vp_in_nI (by omega) (by omega)) dX3_text_20 (W.eq (g2 := F0 mI 21 ls (.int 0 :: [])) rfl ?_)
    refine lv_istore hx hb dX3_text_21 hl (Nat.le_of_ble_eq_true rfl) rfl (fun ls hl => ?_)
    have hl : lv_has ls 6 [(5, .int (0)), (1, .ref q), (2, .ref r0), (3, .int (nI (n + 1))), (4, .int (nI (k + 1)))] := hl
    have h_1 : 6 + k * 6 + 1 ≤ 1400 := by omega
    have h_2 : 3024 + k * 3024 + 4 ≤ 700000 := by omega
    refine va_new (ci := 1) (fs := [.null, .int 0, .int 0, .int 0]) (C := RJ4) (T := TJ4) (N := 4) hx hb hts (by decide +kernel) tyJ4 tyJ4_ok hown (hts (.classLink RX3 52 RJ4) (by decide +kernel)) (hts (.instantiable RJ4 4) (by decide +kernel)) (hts (.initialized RJ4) (by decide +kernel)) hK hP hD hS hA rfl (fun j hj => by rcases (show j = 0 ∨ j = 1 ∨ j = 2 ∨ j = 3 by omega) with rfl | rfl | rfl | rfl <;> rfl) h_1 h_2 dX3_text_23 (fun qs H hP hD hS => ?_)
    have hP := va_P.swap hP
    have hD := va_D.swap hD
    have hP : va_P D vwCl ([(r0, .inl (E 2, n + 1, .inl z0)), ((E 5), .inr (0, [.ref kb, .int 0, kh, kz])), (kb, .inl (E 0, 0, .inl z0)), (q, .inr (0, [.ref b, .int 0, .int 0, .int 0])), (b, .inl (E 0, k + 1, .inl z0)), (qs, .inr (1, [.null, .int 0, .int 0, .int 0]))] ++ G) H := hP
    have hD : va_D A ([(r0, .inl (E 2, n + 1, .inl z0)), ((E 5), .inr (0, [.ref kb, .int 0, kh, kz])), (kb, .inl (E 0, 0, .inl z0)), (q, .inr (0, [.ref b, .int 0, .int 0, .int 0])), (b, .inl (E 0, k + 1, .inl z0)), (qs, .inr (1, [.null, .int 0, .int 0, .int 0]))] ++ G) := hD
    refine W.widen (k := 6 + k * 6 + 1) (n := 3024 + k * 3024 + 4) (by omega) (by omega) ?_
    refine lv_dup hx hb dX3_text_26 rfl ?_
    have hPc := hP.sub (ws' := [(qs, .inr (1, [.null, .int 0, .int 0, .int 0]))]) [5] rfl
    have hDc := hD.sub (ws' := [(qs, .inr (1, [.null, .int 0, .int 0, .int 0]))]) [5] (by decide) rfl
    have hFc := va_free (wc := [(qs, .inr (1, [.null, .int 0, .int 0, .int 0]))]) hD hS hA [5] rfl
    have h_1 : 6 + k * 6 + 1 + 1 ≤ 1400 := by omega
    have h_2 : 3024 + k * 3024 + 4 + 16 ≤ 700000 := by omega
    refine va_callv (va_runI (As := []) (rest := [.ref qs]) ⟨hx, hb, hml, hown, hts⟩ (c_J4_init_da8c8 l D E H.size (qs)) (cwI 0 hts gX3_text_J4_init_da8c8 rfl rfl rfl (hts (.initialized RJ4) (by decide +kernel)) (hts (.methodLink RX3 54 yJ4_init_da8c8) (by decide +kernel)) (hts (.instanceMethod yJ4_init_da8c8) (by decide +kernel)) rfl (by decide +kernel) ⟨Nat.le_of_ble_eq_true rfl, Nat.le_of_ble_eq_true rfl⟩) ⟨rf_blind _, fun U hU hW => ⟨rfl, rf_pre hK hPc hDc hZ hN hS hFc U hU hW⟩⟩ rfl rfl hl.1 rfl (lv_room (Nat.le_of_ble_eq_true rfl)) dX3_text_27 ⟨h_1, h_2⟩) hS (fun q _ h => hFc q h) hFc (fun u t H1 locs ht hvm hw hB hz1 hk1 hS => ?_)
    obtain ⟨hP1, hD1⟩ := hB
    rw [ht] at hP1
    try dsimp only at hw hP1 hD1
    obtain ⟨hP, hD⟩ := va_joinQ (X := [(r0, .inl (E 2, n + 1, .inl z0)), ((E 5), .inr (0, [.ref kb, .int 0, kh, kz])), (kb, .inl (E 0, 0, .inl z0)), (q, .inr (0, [.ref b, .int 0, .int 0, .int 0])), (b, .inl (E 0, k + 1, .inl z0)), (qs, .inr (1, [.null, .int 0, .int 0, .int 0]))]) (cx := [(qs, .inr (1, [.null, .int 0, .int 0, .int 0]))]) (pl := G) (wr := [(r0, .inl (E 2, n + 1, .inl z0)), ((E 5), .inr (0, [.ref kb, .int 0, kh, kz])), (kb, .inl (E 0, 0, .inl z0)), (q, .inr (0, [.ref b, .int 0, .int 0, .int 0])), (b, .inl (E 0, k + 1, .inl z0))]) (w1 := [(qs, .inr (1, [.ref u, .int 0, .int 0, .int 0])), (u, .inl (E 0, 16, .inl z0))]) hP hD [5] [0, 1, 2, 3, 4] rfl rfl (by decide) (by decide) hk1 hFc hP1 hD1
    clear hPc hDc hFc hP1 hD1 hk1 hz1 ht
    generalize H1 = H at hP hS ⊢
    have hP : va_P D vwCl ([(r0, .inl (E 2, n + 1, .inl z0)), ((E 5), .inr (0, [.ref kb, .int 0, kh, kz])), (kb, .inl (E 0, 0, .inl z0)), (q, .inr (0, [.ref b, .int 0, .int 0, .int 0])), (b, .inl (E 0, k + 1, .inl z0)), (qs, .inr (1, [.ref u, .int 0, .int 0, .int 0])), (u, .inl (E 0, 16, .inl z0))] ++ G) H := hP
    have hD : va_D A ([(r0, .inl (E 2, n + 1, .inl z0)), ((E 5), .inr (0, [.ref kb, .int 0, kh, kz])), (kb, .inl (E 0, 0, .inl z0)), (q, .inr (0, [.ref b, .int 0, .int 0, .int 0])), (b, .inl (E 0, k + 1, .inl z0)), (qs, .inr (1, [.ref u, .int 0, .int 0, .int 0])), (u, .inl (E 0, 16, .inl z0))] ++ G) := hD
    refine W.widen (k := 6 + k * 6 + 2) (n := 3024 + k * 3024 + 20) (by omega) (by omega) ?_
    refine lv_aload_n hx hb dX3_text_30 rfl (lv_at hl 1 rfl) ?_
    have hPc := hP.sub (ws' := [(qs, .inr (1, [.ref u, .int 0, .int 0, .int 0])), (u, .inl (E 0, 16, .inl z0)), (q, .inr (0, [.ref b, .int 0, .int 0, .int 0])), (b, .inl (E 0, k + 1, .inl z0))]) [5, 6, 3, 4] rfl
    have hDc := hD.sub (ws' := [(qs, .inr (1, [.ref u, .int 0, .int 0, .int 0])), (u, .inl (E 0, 16, .inl z0)), (q, .inr (0, [.ref b, .int 0, .int 0, .int 0])), (b, .inl (E 0, k + 1, .inl z0))]) [5, 6, 3, 4] (by decide) rfl
    have hFc := va_free (wc := [(qs, .inr (1, [.ref u, .int 0, .int 0, .int 0])), (u, .inl (E 0, 16, .inl z0)), (q, .inr (0, [.ref b, .int 0, .int 0, .int 0])), (b, .inl (E 0, k + 1, .inl z0))]) hD hS hA [5, 6, 3, 4] rfl
    have h_1 : 6 + k * 6 + 2 + 1 ≤ 1400 := by omega
    have h_2 : 3024 + k * 3024 + 20 + 1000 ≤ 700000 := by omega
    refine va_callr (va_runV (As := [.ref q]) (rest := []) ⟨hx, hb, hml, hown, hts⟩ (c_J4_append_15ec4 l D E H.size (qs) (u) (q) (b) ((k + 1)) (16) (.int 0) (.int 0) (.int 0) (by omega) (by omega)) (cwV 1 hts gX3_text_J4_append_15ec4 rfl rfl rfl (by decide +kernel) ⟨Nat.le_of_ble_eq_true rfl, Nat.le_of_ble_eq_true rfl⟩) ⟨rf_blind _, va_recv hK hPc (ci := 1) (q0 := 0) rfl rfl, fun U hU hW => ⟨rfl, rf_pre hK hPc hDc hZ hN hS hFc U hU hW⟩⟩ rfl rfl hl.1 rfl (lv_room (Nat.le_of_ble_eq_true rfl)) dX3_text_31 ⟨h_1, h_2⟩) hS (fun q _ h => hFc q h) hFc (fun u ra t H1 locs ht hvm hw hB hz1 hk1 hS => ?_)
    obtain ⟨m2, b2⟩ := u
    obtain ⟨hra, hP1, hD1⟩ := hB
    try dsimp only at hra
    subst ra
    rw [ht] at hP1
    try dsimp only at hw hP1 hD1
    obtain ⟨hw1, hw2⟩ := hw
    obtain ⟨hP, hD⟩ := va_joinQ (X := [(r0, .inl (E 2, n + 1, .inl z0)), ((E 5), .inr (0, [.ref kb, .int 0, kh, kz])), (kb, .inl (E 0, 0, .inl z0)), (q, .inr (0, [.ref b, .int 0, .int 0, .int 0])), (b, .inl (E 0, k + 1, .inl z0)), (qs, .inr (1, [.ref u, .int 0, .int 0, .int 0])), (u, .inl (E 0, 16, .inl z0))]) (cx := [(qs, .inr (1, [.ref u, .int 0, .int 0, .int 0])), (u, .inl (E 0, 16, .inl z0)), (q, .inr (0, [.ref b, .int 0, .int 0, .int 0])), (b, .inl (E 0, k + 1, .inl z0))]) (pl := G) (wr := [(r0, .inl (E 2, n + 1, .inl z0)), ((E 5), .inr (0, [.ref kb, .int 0, kh, kz])), (kb, .inl (E 0, 0, .inl z0))]) (w1 := [(qs, .inr (1, [.ref b2, .int 0, .int 0, .int (nI ((k + 1)))])), (b2, .inl (E 0, m2, .inl z0)), (q, .inr (0, [.ref b, .int 0, .int 0, .int 0])), (b, .inl (E 0, (k + 1), .inl z0))]) hP hD [5, 6, 3, 4] [0, 1, 2] rfl rfl (by decide) (by decide) hk1 hFc hP1 hD1
    clear hPc hDc hFc hP1 hD1 hk1 hz1 ht
    generalize H1 = H at hP hS ⊢
    have hP : va_P D vwCl ([(r0, .inl (E 2, n + 1, .inl z0)), ((E 5), .inr (0, [.ref kb, .int 0, kh, kz])), (kb, .inl (E 0, 0, .inl z0)), (qs, .inr (1, [.ref b2, .int 0, .int 0, .int (nI ((k + 1)))])), (b2, .inl (E 0, m2, .inl z0)), (q, .inr (0, [.ref b, .int 0, .int 0, .int 0])), (b, .inl (E 0, (k + 1), .inl z0))] ++ G) H := hP
    have hD : va_D A ([(r0, .inl (E 2, n + 1, .inl z0)), ((E 5), .inr (0, [.ref kb, .int 0, kh, kz])), (kb, .inl (E 0, 0, .inl z0)), (qs, .inr (1, [.ref b2, .int 0, .int 0, .int (nI ((k + 1)))])), (b2, .inl (E 0, m2, .inl z0)), (q, .inr (0, [.ref b, .int 0, .int 0, .int 0])), (b, .inl (E 0, (k + 1), .inl z0))] ++ G) := hD
    refine W.widen (k := 6 + k * 6 + 3) (n := 3024 + k * 3024 + 1020) (by omega) (by omega) ?_
    refine lv_iload hx hb dX3_text_34 (lv_at hl 0 rfl) ?_
    refine lv_i2c (v := 0) hx hb dX3_text_36 (by decide) ?_
    have hPc := hP.sub (ws' := [(qs, .inr (1, [.ref b2, .int 0, .int 0, .int (nI ((k + 1)))])), (b2, .inl (E 0, m2, .inl z0))]) [3, 4] rfl
    have hDc := hD.sub (ws' := [(qs, .inr (1, [.ref b2, .int 0, .int 0, .int (nI ((k + 1)))])), (b2, .inl (E 0, m2, .inl z0))]) [3, 4] (by decide) rfl
    have hFc := va_free (wc := [(qs, .inr (1, [.ref b2, .int 0, .int 0, .int (nI ((k + 1)))])), (b2, .inl (E 0, m2, .inl z0))]) hD hS hA [3, 4] rfl
    have h_1 : 6 + k * 6 + 3 + 1 ≤ 1400 := by omega
    have h_2 : 3024 + k * 3024 + 1020 + 1000 ≤ 700000 := by omega
    refine va_callr (va_runV (As := [.int (0)]) (rest := []) ⟨hx, hb, hml, hown, hts⟩ (c_J4_append_cf468 l D E H.size (qs) (b2) ((k + 1)) (m2) (.int 0) (by omega) (by omega)) (cwV 1 hts gX3_text_J4_append_cf468 rfl rfl rfl (by decide +kernel) ⟨Nat.le_of_ble_eq_true rfl, Nat.le_of_ble_eq_true rfl⟩) ⟨rf_blind _, va_recv hK hPc (ci := 1) (q0 := 0) rfl rfl, fun U hU hW => ⟨rfl, rf_pre hK hPc hDc hZ hN hS hFc U hU hW⟩⟩ rfl rfl hl.1 rfl (lv_room (Nat.le_of_ble_eq_true rfl)) dX3_text_37 ⟨h_1, h_2⟩) hS (fun q _ h => hFc q h) hFc (fun u ra t H1 locs ht hvm hw hB hz1 hk1 hS => ?_)
    obtain ⟨m3, b3⟩ := u
    obtain ⟨hra, hP1, hD1⟩ := hB
    try dsimp only at hra
    subst ra
    rw [ht] at hP1
    try dsimp only at hw hP1 hD1
    obtain ⟨hw3, hw4⟩ := hw
    obtain ⟨hP, hD⟩ := va_joinQ (X := [(r0, .inl (E 2, n + 1, .inl z0)), ((E 5), .inr (0, [.ref kb, .int 0, kh, kz])), (kb, .inl (E 0, 0, .inl z0)), (qs, .inr (1, [.ref b2, .int 0, .int 0, .int (nI ((k + 1)))])), (b2, .inl (E 0, m2, .inl z0)), (q, .inr (0, [.ref b, .int 0, .int 0, .int 0])), (b, .inl (E 0, (k + 1), .inl z0))]) (cx := [(qs, .inr (1, [.ref b2, .int 0, .int 0, .int (nI ((k + 1)))])), (b2, .inl (E 0, m2, .inl z0))]) (pl := G) (wr := [(r0, .inl (E 2, n + 1, .inl z0)), ((E 5), .inr (0, [.ref kb, .int 0, kh, kz])), (kb, .inl (E 0, 0, .inl z0)), (q, .inr (0, [.ref b, .int 0, .int 0, .int 0])), (b, .inl (E 0, (k + 1), .inl z0))]) (w1 := [(qs, .inr (1, [.ref b3, .int 0, .int 0, .int (nI ((k + 1) + 1))])), (b3, .inl (E 0, m3, .inl z0))]) hP hD [3, 4] [0, 1, 2, 5, 6] rfl rfl (by decide) (by decide) hk1 hFc hP1 hD1
    clear hPc hDc hFc hP1 hD1 hk1 hz1 ht
    generalize H1 = H at hP hS ⊢
    have hP : va_P D vwCl ([(r0, .inl (E 2, n + 1, .inl z0)), ((E 5), .inr (0, [.ref kb, .int 0, kh, kz])), (kb, .inl (E 0, 0, .inl z0)), (q, .inr (0, [.ref b, .int 0, .int 0, .int 0])), (b, .inl (E 0, (k + 1), .inl z0)), (qs, .inr (1, [.ref b3, .int 0, .int 0, .int (nI ((k + 1) + 1))])), (b3, .inl (E 0, m3, .inl z0))] ++ G) H := hP
    have hD : va_D A ([(r0, .inl (E 2, n + 1, .inl z0)), ((E 5), .inr (0, [.ref kb, .int 0, kh, kz])), (kb, .inl (E 0, 0, .inl z0)), (q, .inr (0, [.ref b, .int 0, .int 0, .int 0])), (b, .inl (E 0, (k + 1), .inl z0)), (qs, .inr (1, [.ref b3, .int 0, .int 0, .int (nI ((k + 1) + 1))])), (b3, .inl (E 0, m3, .inl z0))] ++ G) := hD
    refine W.widen (k := 6 + k * 6 + 4) (n := 3024 + k * 3024 + 2020) (by omega) (by omega) ?_
    have hPc := hP.sub (ws' := [(qs, .inr (1, [.ref b3, .int 0, .int 0, .int (nI ((k + 1) + 1))])), (b3, .inl (E 0, m3, .inl z0))]) [5, 6] rfl
    have hDc := hD.sub (ws' := [(qs, .inr (1, [.ref b3, .int 0, .int 0, .int (nI ((k + 1) + 1))])), (b3, .inl (E 0, m3, .inl z0))]) [5, 6] (by decide) rfl
    have hFc := va_free (wc := [(qs, .inr (1, [.ref b3, .int 0, .int 0, .int (nI ((k + 1) + 1))])), (b3, .inl (E 0, m3, .inl z0))]) hD hS hA [5, 6] rfl
    have h_1 : 6 + k * 6 + 4 + 2 ≤ 1400 := by omega
    have h_2 : 3024 + k * 3024 + 2020 + 1004 ≤ 700000 := by omega
    refine va_callr (va_runV (As := []) (rest := []) ⟨hx, hb, hml, hown, hts⟩ (c_J4_toString_0e30d l D E H.size (qs) (b3) ((k + 1) + 1) (m3) (.int 0) (by omega) (by omega)) (cwV 0 hts gX3_text_J4_toString_0e30d rfl rfl rfl (by decide +kernel) ⟨Nat.le_of_ble_eq_true rfl, Nat.le_of_ble_eq_true rfl⟩) ⟨rf_blind _, va_recv hK hPc (ci := 1) (q0 := 0) rfl rfl, fun U hU hW => ⟨rfl, rf_pre hK hPc hDc hZ hN hS hFc U hU hW⟩⟩ rfl rfl hl.1 rfl (lv_room (Nat.le_of_ble_eq_true rfl)) dX3_text_40 ⟨h_1, h_2⟩) hS (fun q _ h => hFc q h) hFc (fun u rs t H1 locs ht hvm hw hB hz1 hk1 hS => ?_)
    obtain ⟨hP1, hD1⟩ := hB
    rw [ht] at hP1
    try dsimp only at hw hP1 hD1
    obtain ⟨hP, hD⟩ := va_joinQ (X := [(r0, .inl (E 2, n + 1, .inl z0)), ((E 5), .inr (0, [.ref kb, .int 0, kh, kz])), (kb, .inl (E 0, 0, .inl z0)), (q, .inr (0, [.ref b, .int 0, .int 0, .int 0])), (b, .inl (E 0, (k + 1), .inl z0)), (qs, .inr (1, [.ref b3, .int 0, .int 0, .int (nI ((k + 1) + 1))])), (b3, .inl (E 0, m3, .inl z0))]) (cx := [(qs, .inr (1, [.ref b3, .int 0, .int 0, .int (nI ((k + 1) + 1))])), (b3, .inl (E 0, m3, .inl z0))]) (pl := G) (wr := [(r0, .inl (E 2, n + 1, .inl z0)), ((E 5), .inr (0, [.ref kb, .int 0, kh, kz])), (kb, .inl (E 0, 0, .inl z0)), (q, .inr (0, [.ref b, .int 0, .int 0, .int 0])), (b, .inl (E 0, (k + 1), .inl z0))]) (w1 := [(rs, .inr (0, [.ref u, .int 0, .int 0, .int 0])), (u, .inl (E 0, (k + 1) + 1, .inl z0)), (qs, .inr (1, [.ref b3, .int 0, .int 0, .int (nI ((k + 1) + 1))])), (b3, .inl (E 0, m3, .inl z0))]) hP hD [5, 6] [0, 1, 2, 3, 4] rfl rfl (by decide) (by decide) hk1 hFc hP1 hD1
    clear hPc hDc hFc hP1 hD1 hk1 hz1 ht
    generalize H1 = H at hP hS ⊢
    have hP : va_P D vwCl ([(r0, .inl (E 2, n + 1, .inl z0)), ((E 5), .inr (0, [.ref kb, .int 0, kh, kz])), (kb, .inl (E 0, 0, .inl z0)), (q, .inr (0, [.ref b, .int 0, .int 0, .int 0])), (b, .inl (E 0, (k + 1), .inl z0)), (rs, .inr (0, [.ref u, .int 0, .int 0, .int 0])), (u, .inl (E 0, (k + 1) + 1, .inl z0)), (qs, .inr (1, [.ref b3, .int 0, .int 0, .int (nI ((k + 1) + 1))])), (b3, .inl (E 0, m3, .inl z0))] ++ G) H := hP
    have hD : va_D A ([(r0, .inl (E 2, n + 1, .inl z0)), ((E 5), .inr (0, [.ref kb, .int 0, kh, kz])), (kb, .inl (E 0, 0, .inl z0)), (q, .inr (0, [.ref b, .int 0, .int 0, .int 0])), (b, .inl (E 0, (k + 1), .inl z0)), (rs, .inr (0, [.ref u, .int 0, .int 0, .int 0])), (u, .inl (E 0, (k + 1) + 1, .inl z0)), (qs, .inr (1, [.ref b3, .int 0, .int 0, .int (nI ((k + 1) + 1))])), (b3, .inl (E 0, m3, .inl z0))] ++ G) := hD
    refine W.widen (k := 6 + k * 6 + 6) (n := 3024 + k * 3024 + 3024) (by omega) (by omega) ?_
    refine lv_astore_n hx hb dX3_text_43 rfl hl (Nat.le_of_ble_eq_true rfl) rfl (fun ls hl => ?_)
    have hl : lv_has ls 6 [(1, .ref rs), (5, .int (0)), (2, .ref r0), (3, .int (nI (n + 1))), (4, .int (nI (k + 1)))] := hl
    refine lv_iinc (v := nI (k + 1 + 1)) hx hb dX3_text_44 hl (k := 4) rfl ((show nI (k + 1) + Int32.ofInt 1 = nI (k + 1) + nI 1 from rfl).trans ((nI_add _ _).trans (congrArg nI (by omega)))) (Nat.le_of_ble_eq_true rfl) rfl (fun ls hl => ?_)
    have hl : lv_has ls 6 [(4, .int (nI (k + 1 + 1))), (1, .ref rs), (5, .int (0)), (2, .ref r0), (3, .int (nI (n + 1)))] := hl
    have hl : lv_has ls 6 [(1, .ref rs), (2, .ref r0), (3, .int (nI (n + 1))), (4, .int (nI (k + 1 + 1)))] := lv_sub hl [1, 3, 4, 0] rfl
    have hD := va_D.part (X := [(r0, .inl (E 2, n + 1, .inl z0)), ((E 5), .inr (0, [.ref kb, .int 0, kh, kz])), (kb, .inl (E 0, 0, .inl z0)), (q, .inr (0, [.ref b, .int 0, .int 0, .int 0])), (b, .inl (E 0, (k + 1), .inl z0)), (rs, .inr (0, [.ref u, .int 0, .int 0, .int 0])), (u, .inl (E 0, (k + 1) + 1, .inl z0)), (qs, .inr (1, [.ref b3, .int 0, .int 0, .int (nI ((k + 1) + 1))])), (b3, .inl (E 0, m3, .inl z0))]) (cx := [(r0, .inl (E 2, n + 1, .inl z0)), ((E 5), .inr (0, [.ref kb, .int 0, kh, kz])), (kb, .inl (E 0, 0, .inl z0)), (rs, .inr (0, [.ref u, .int 0, .int 0, .int 0])), (u, .inl (E 0, k + 1 + 1, .inl z0)), (b, .inl (E 0, k + 1, .inl z0))]) (pl := G) hD [0, 1, 2, 5, 6, 4] (by decide) rfl
    have hP := va_P.part (X := [(r0, .inl (E 2, n + 1, .inl z0)), ((E 5), .inr (0, [.ref kb, .int 0, kh, kz])), (kb, .inl (E 0, 0, .inl z0)), (q, .inr (0, [.ref b, .int 0, .int 0, .int 0])), (b, .inl (E 0, (k + 1), .inl z0)), (rs, .inr (0, [.ref u, .int 0, .int 0, .int 0])), (u, .inl (E 0, (k + 1) + 1, .inl z0)), (qs, .inr (1, [.ref b3, .int 0, .int 0, .int (nI ((k + 1) + 1))])), (b3, .inl (E 0, m3, .inl z0))]) (cx := [(r0, .inl (E 2, n + 1, .inl z0)), ((E 5), .inr (0, [.ref kb, .int 0, kh, kz])), (kb, .inl (E 0, 0, .inl z0)), (rs, .inr (0, [.ref u, .int 0, .int 0, .int 0])), (u, .inl (E 0, k + 1 + 1, .inl z0)), (b, .inl (E 0, k + 1, .inl z0))]) (pl := G) hP [0, 1, 2, 5, 6, 4] rfl
    have hP : va_P D vwCl ([(r0, .inl (E 2, n + 1, .inl z0)), ((E 5), .inr (0, [.ref kb, .int 0, kh, kz])), (kb, .inl (E 0, 0, .inl z0)), (rs, .inr (0, [.ref u, .int 0, .int 0, .int 0])), (u, .inl (E 0, k + 1 + 1, .inl z0))] ++ ((b, .inl (E 0, k + 1, .inl z0)) :: G)) H := hP
    have hD : va_D A ([(r0, .inl (E 2, n + 1, .inl z0)), ((E 5), .inr (0, [.ref kb, .int 0, kh, kz])), (kb, .inl (E 0, 0, .inl z0)), (rs, .inr (0, [.ref u, .int 0, .int 0, .int 0])), (u, .inl (E 0, k + 1 + 1, .inl z0))] ++ ((b, .inl (E 0, k + 1, .inl z0)) :: G)) := hD
    refine lv_goto (tgt := 11) hx hb dX3_text_47 rfl ?_
    refine W.widen (k := 6 + (k + 1) * 6) (n := 3024 + (k + 1) * 3024) (by omega) (by omega) ?_
    exact kk _ _ _ ⟨rs, u, ((b, .inl (E 0, k + 1, .inl z0)) :: G), hl, hP, hD, hS, (by show rf_tri (k + 1) + (k + 1) ≤ (k + 1) + gs G; omega)⟩
end
section
set_option maxHeartbeats 4000000 in
set_option maxRecDepth 100000 in
/-- the reference: text(0) -/
theorem c_X3_text_ (l : Launch) (D : va_G) (E : Nat → ClassId) (sz : Nat) (m0 t1 y0 kb n : Nat) (th : Int32) (f : Nat → Option Nat) (kh kz : Value) (a2 a3 a4 a5 : Value) (hf : f 0 = some y0) (hn : n + 1 ≤ 200) : Met l yX3_text_ wsX3_text_ ({ frames := 9, cells := 1400, slots := 700000, locals := 1600 }) (va_Pc [.ref m0, .int (nI 0)] (rf_P D E [(m0, .inr (5, [.int th, .ref t1, a2, a3, a4, a5])), (t1, .inl (E 4, 4, .inr (.inr (.inr (.inr f))))), (y0, .inl (E 2, n + 1, .inl z0)), ((E 5), .inr (0, [.ref kb, .int 0, kh, kz])), (kb, .inl (E 0, 0, .inl z0))] sz)) (va_Qr (fun (u : Nat × va_W) => rf_tri (n + 1) ≤ gs u.2) (fun (u : Nat × va_W) (ra : Nat) (t : State) => rf_B D (va_A [(m0, .inr (5, [.int th, .ref t1, a2, a3, a4, a5])), (t1, .inl (E 4, 4, .inr (.inr (.inr (.inr f))))), (y0, .inl (E 2, n + 1, .inl z0)), ((E 5), .inr (0, [.ref kb, .int 0, kh, kz])), (kb, .inl (E 0, 0, .inl z0))] sz) ([(m0, .inr (5, [.int 0, .ref t1, a2, a3, a4, a5])), (t1, .inl (E 4, 4, .inr (.inr (.inr (.inr f))))), (y0, .inl (E 2, n + 1, .inl z0)), ((E 5), .inr (0, [.ref kb, .int 0, kh, kz])), (kb, .inl (E 0, 0, .inl z0)), (ra, .inr (0, [.ref u.1, .int 0, .int 0, .int 0])), (u.1, .inl (E 0, n + 1, .inl z0))] ++ u.2) t) (va_A [(m0, .inr (5, [.int th, .ref t1, a2, a3, a4, a5])), (t1, .inl (E 4, 4, .inr (.inr (.inr (.inr f))))), (y0, .inl (E 2, n + 1, .inl z0)), ((E 5), .inr (0, [.ref kb, .int 0, kh, kz])), (kb, .inl (E 0, 0, .inl z0))] sz)) 1400 700000 (va_A [(m0, .inr (5, [.int th, .ref t1, a2, a3, a4, a5])), (t1, .inl (E 4, 4, .inr (.inr (.inr (.inr f))))), (y0, .inl (E 2, n + 1, .inl z0)), ((E 5), .inr (0, [.ref kb, .int 0, kh, kz])), (kb, .inl (E 0, 0, .inl z0))] sz) := by
  refine Met.ofW (cc := cX3_text_) (maxL := 2) (ret := (some (.object "java/lang/String"))) (by decide) rfl ?_
  intro p e s mI args below meth c s₁ B hml hv
  obtain ⟨rfl, hsz, hP, hK, hD0, hZ, hN⟩ := hv
  have hx := B.exec
  have hb := B.bytes
  have hr := B.returns
  have hts := atoms_spec (ws := wsX3_text_) B.pre
  have hown : s.vm.findClass RX3 = some mI.cls := findClass_of_methodNamed B.named
  have hlocks := B.notSynchronized
  subst hsz
  have hD := hD0.self (sz := s.heap.size)
  generalize hAe : va_A [(m0, .inr (5, [.int th, .ref t1, a2, a3, a4, a5])), (t1, .inl (E 4, 4, .inr (.inr (.inr (.inr f))))), (y0, .inl (E 2, n + 1, .inl z0)), ((E 5), .inr (0, [.ref kb, .int 0, kh, kz])), (kb, .inl (E 0, 0, .inl z0))] s.heap.size = A at hD hZ ⊢
  have hA : ∀ q : Nat, s.heap.size ≤ q → A q := fun q h => by rw [← hAe]; exact Or.inr h
  have hS : va_S A s.heap s.heap [] := va_S.rf
  have hl := lv_entry ([.ref m0, .int (nI 0)]) (n := 2) (Nat.le_of_ble_eq_true rfl)
  rw [lg_entry_eq]
  generalize (lg_sl ([.ref m0, .int (nI 0)]) ++ List.replicate (2 - (lg_sl ([.ref m0, .int (nI 0)])).length) Slot.unset).toArray = ls at hl ⊢
  clear hAe hD0
  have hl : lv_has ls 2 [(0, .ref m0), (1, .int (nI 0))] := hl
  obtain ⟨H, hH⟩ : ∃ H, H = s.heap := ⟨_, rfl⟩
  rw [← hH] at hP
  have hS : va_S A s.heap H [] := by rw [hH]; exact hS
  refine rf_heap hH ?_
  refine lv_aload_n hx hb dX3_text__0 rfl (lv_at hl 0 rfl) ?_
  refine lv_iload_n hx hb dX3_text__1 rfl (lv_at hl 1 rfl) ?_
  have hPc := hP.sub (ws' := []) [] rfl
  have hDc := hD.sub (ws' := []) [] (by decide) rfl
  have hFc := va_free (wc := []) hD hS hA [] rfl
  have h_1 : 0 + 0 ≤ 1400 := by omega
  have h_2 : 0 + 0 ≤ 700000 := by omega
  refine va_calli (va_runS (As := [.int (nI 0)]) (rest := [.ref m0]) ⟨hx, hb, hml, hown, hts⟩ (c_X3_isNoTape l D E H.size ) (va_cwS 1 hts gX3_text__X3_isNoTape rfl rfl rfl (by decide +kernel) ⟨Nat.le_of_ble_eq_true rfl, Nat.le_of_ble_eq_true rfl⟩) ⟨rf_blind _, fun U hU hW => ⟨rfl, rf_pre hK hPc hDc hZ hN hS hFc U hU hW⟩⟩ rfl rfl hl.1 rfl (lv_room (Nat.le_of_ble_eq_true rfl)) dX3_text__2 ⟨h_1, h_2⟩) hS (fun q _ h => hFc q h) hFc (fun r u t H1 locs ht hvm hw hB hz1 hk1 hS => ?_)
  obtain ⟨hP1, hD1⟩ := hB
  rw [ht] at hP1
  try dsimp only at hw hP1 hD1
  obtain rfl := hw
  obtain ⟨hP, hD⟩ := va_join (wr := [(m0, .inr (5, [.int th, .ref t1, a2, a3, a4, a5])), (t1, .inl (E 4, 4, .inr (.inr (.inr (.inr f))))), (y0, .inl (E 2, n + 1, .inl z0)), ((E 5), .inr (0, [.ref kb, .int 0, kh, kz])), (kb, .inl (E 0, 0, .inl z0))]) (w1 := []) hP hD [] [0, 1, 2, 3, 4] rfl rfl (by decide) (by decide) hk1 hFc hP1 hD1
  clear hPc hDc hFc hP1 hD1 hk1 hz1 ht
  generalize H1 = H at hP hS ⊢
  have hP : va_P D vwCl [(m0, .inr (5, [.int th, .ref t1, a2, a3, a4, a5])), (t1, .inl (E 4, 4, .inr (.inr (.inr (.inr f))))), (y0, .inl (E 2, n + 1, .inl z0)), ((E 5), .inr (0, [.ref kb, .int 0, kh, kz])), (kb, .inl (E 0, 0, .inl z0))] H := hP
  have hD : va_D A [(m0, .inr (5, [.int th, .ref t1, a2, a3, a4, a5])), (t1, .inl (E 4, 4, .inr (.inr (.inr (.inr f))))), (y0, .inl (E 2, n + 1, .inl z0)), ((E 5), .inr (0, [.ref kb, .int 0, kh, kz])), (kb, .inl (E 0, 0, .inl z0))] := hD
  refine lv_iconst (v := nI 1) hx hb dX3_text__5 (by decide) ?_
  have hPc := hP.sub (ws' := [(m0, .inr (5, [.int th, .ref t1, a2, a3, a4, a5]))]) [0] rfl
  have hDc := hD.sub (ws' := [(m0, .inr (5, [.int th, .ref t1, a2, a3, a4, a5]))]) [0] (by decide) rfl
  have hFc := va_free (wc := [(m0, .inr (5, [.int th, .ref t1, a2, a3, a4, a5]))]) hD hS hA [0] rfl
  have h_1 : 0 + 0 ≤ 1400 := by omega
  have h_2 : 0 + 0 ≤ 700000 := by omega
  refine va_calli (va_runV (As := [.int (0), .int (nI 1)]) (rest := []) ⟨hx, hb, hml, hown, hts⟩ (c_X3_start l D E H.size (m0) (t1) (th) (a2) (a3) (a4) (a5)) (cwV 2 hts gX3_text__X3_start rfl rfl rfl (by decide +kernel) ⟨Nat.le_of_ble_eq_true rfl, Nat.le_of_ble_eq_true rfl⟩) ⟨rf_blind _, va_recv hK hPc (ci := 5) (q0 := 0) rfl rfl, fun U hU hW => ⟨rfl, rf_pre hK hPc hDc hZ hN hS hFc U hU hW⟩⟩ rfl rfl hl.1 rfl (lv_room (Nat.le_of_ble_eq_true rfl)) dX3_text__6 ⟨h_1, h_2⟩) hS (fun q _ h => hFc q h) hFc (fun r u t H1 locs ht hvm hw hB hz1 hk1 hS => ?_)
  obtain ⟨hP1, hD1⟩ := hB
  rw [ht] at hP1
  try dsimp only at hw hP1 hD1
  obtain rfl := hw
  obtain ⟨hP, hD⟩ := va_join (wr := [(t1, .inl (E 4, 4, .inr (.inr (.inr (.inr f))))), (y0, .inl (E 2, n + 1, .inl z0)), ((E 5), .inr (0, [.ref kb, .int 0, kh, kz])), (kb, .inl (E 0, 0, .inl z0))]) (w1 := [(m0, .inr (5, [.int (0), .ref t1, a2, a3, a4, a5]))]) hP hD [0] [1, 2, 3, 4] rfl rfl (by decide) (by decide) hk1 hFc hP1 hD1
  clear hPc hDc hFc hP1 hD1 hk1 hz1 ht
  generalize H1 = H at hP hS ⊢
  have hP : va_P D vwCl [(t1, .inl (E 4, 4, .inr (.inr (.inr (.inr f))))), (y0, .inl (E 2, n + 1, .inl z0)), ((E 5), .inr (0, [.ref kb, .int 0, kh, kz])), (kb, .inl (E 0, 0, .inl z0)), (m0, .inr (5, [.int (0), .ref t1, a2, a3, a4, a5]))] H := hP
  have hD : va_D A [(t1, .inl (E 4, 4, .inr (.inr (.inr (.inr f))))), (y0, .inl (E 2, n + 1, .inl z0)), ((E 5), .inr (0, [.ref kb, .int 0, kh, kz])), (kb, .inl (E 0, 0, .inl z0)), (m0, .inr (5, [.int (0), .ref t1, a2, a3, a4, a5]))] := hD
  refine lv_if_eq (tgt := 17) hx hb dX3_text__9 rfl (fun _ => ?_) (fun h => absurd (by decide) h)
  refine lv_aload_n hx hb dX3_text__17 rfl (lv_at hl 0 rfl) ?_
  refine va_get (D := D) (ci := 5) (v := .ref t1) (C := RX3) (T := TX3) (N := 6) hx hb hts (by decide +kernel) hown hK hP 4 rfl rfl 1 (by decide) (hts (.fieldLink RX3 11 "TapebufferModel" "tapes" "[[I") (by decide +kernel)) (fun _ h9 => h9) rfl dX3_text__18 ?_
  refine lv_iload_n hx hb dX3_text__21 rfl (lv_at hl 1 rfl) ?_
  refine rf_aldg hx hb hK hP 0 4 rfl rfl (vp_in_nI (by omega) (by omega)) dX3_text__22 (W.eq (g2 := F0 mI 23 ls (.ref y0 :: [])) (by rw [show (nI 0).toNatClampNeg = 0 from rfl, hf]; rfl) ?_)
  have hPc := hP.sub (ws' := [(y0, .inl (E 2, n + 1, .inl z0)), ((E 5), .inr (0, [.ref kb, .int 0, kh, kz])), (kb, .inl (E 0, 0, .inl z0))]) [1, 2, 3] rfl
  have hDc := hD.sub (ws' := [(y0, .inl (E 2, n + 1, .inl z0)), ((E 5), .inr (0, [.ref kb, .int 0, kh, kz])), (kb, .inl (E 0, 0, .inl z0))]) [1, 2, 3] (by decide) rfl
  have hFc := va_free (wc := [(y0, .inl (E 2, n + 1, .inl z0)), ((E 5), .inr (0, [.ref kb, .int 0, kh, kz])), (kb, .inl (E 0, 0, .inl z0))]) hD hS hA [1, 2, 3] rfl
  have h_1 : 0 + 1400 ≤ 1400 := by omega
  have h_2 : 0 + 700000 ≤ 700000 := by omega
  refine va_callr (va_runS (As := [.ref y0]) (rest := []) ⟨hx, hb, hml, hown, hts⟩ (c_X3_text l D E H.size (y0) (kb) (n) (kh) (kz) (by omega)) (va_cwS 1 hts gX3_text__X3_text rfl rfl rfl (by decide +kernel) ⟨Nat.le_of_ble_eq_true rfl, Nat.le_of_ble_eq_true rfl⟩) ⟨rf_blind _, fun U hU hW => ⟨rfl, rf_pre hK hPc hDc hZ hN hS hFc U hU hW⟩⟩ rfl rfl hl.1 rfl (lv_room (Nat.le_of_ble_eq_true rfl)) dX3_text__23 ⟨h_1, h_2⟩) hS (fun q _ h => hFc q h) hFc (fun u rs t H1 locs ht hvm hw hB hz1 hk1 hS => ?_)
  obtain ⟨b1, G⟩ := u
  obtain ⟨hP1, hD1⟩ := hB
  rw [ht] at hP1
  try dsimp only at hw hP1 hD1
  obtain ⟨hP, hD⟩ := va_join (wr := [(t1, .inl (E 4, 4, .inr (.inr (.inr (.inr f))))), (m0, .inr (5, [.int (0), .ref t1, a2, a3, a4, a5]))]) (w1 := ([(y0, .inl (E 2, n + 1, .inl z0)), ((E 5), .inr (0, [.ref kb, .int 0, kh, kz])), (kb, .inl (E 0, 0, .inl z0)), (rs, .inr (0, [.ref b1, .int 0, .int 0, .int 0])), (b1, .inl (E 0, n + 1, .inl z0))] ++ G)) hP hD [1, 2, 3] [0, 4] rfl rfl (by decide) (by decide) hk1 hFc hP1 hD1
  clear hPc hDc hFc hP1 hD1 hk1 hz1 ht
  generalize H1 = H at hP hS ⊢
  have hP : va_P D vwCl ([(t1, .inl (E 4, 4, .inr (.inr (.inr (.inr f))))), (m0, .inr (5, [.int (0), .ref t1, a2, a3, a4, a5])), (y0, .inl (E 2, n + 1, .inl z0)), ((E 5), .inr (0, [.ref kb, .int 0, kh, kz])), (kb, .inl (E 0, 0, .inl z0)), (rs, .inr (0, [.ref b1, .int 0, .int 0, .int 0])), (b1, .inl (E 0, n + 1, .inl z0))] ++ G) H := hP
  have hD : va_D A ([(t1, .inl (E 4, 4, .inr (.inr (.inr (.inr f))))), (m0, .inr (5, [.int (0), .ref t1, a2, a3, a4, a5])), (y0, .inl (E 2, n + 1, .inl z0)), ((E 5), .inr (0, [.ref kb, .int 0, kh, kz])), (kb, .inl (E 0, 0, .inl z0)), (rs, .inr (0, [.ref b1, .int 0, .int 0, .int 0])), (b1, .inl (E 0, n + 1, .inl z0))] ++ G) := hD
  refine W.widen (k := 1400) (n := 700000) (by omega) (by omega) ?_
  have hD := va_D.part (X := [(t1, .inl (E 4, 4, .inr (.inr (.inr (.inr f))))), (m0, .inr (5, [.int (0), .ref t1, a2, a3, a4, a5])), (y0, .inl (E 2, n + 1, .inl z0)), ((E 5), .inr (0, [.ref kb, .int 0, kh, kz])), (kb, .inl (E 0, 0, .inl z0)), (rs, .inr (0, [.ref b1, .int 0, .int 0, .int 0])), (b1, .inl (E 0, n + 1, .inl z0))]) (cx := [(m0, .inr (5, [.int (0), .ref t1, a2, a3, a4, a5])), (t1, .inl (E 4, 4, .inr (.inr (.inr (.inr f))))), (y0, .inl (E 2, n + 1, .inl z0)), ((E 5), .inr (0, [.ref kb, .int 0, kh, kz])), (kb, .inl (E 0, 0, .inl z0)), (rs, .inr (0, [.ref b1, .int 0, .int 0, .int 0])), (b1, .inl (E 0, n + 1, .inl z0))]) (pl := G) hD [1, 0, 2, 3, 4, 5, 6] (by decide) rfl
  have hP := va_P.part (X := [(t1, .inl (E 4, 4, .inr (.inr (.inr (.inr f))))), (m0, .inr (5, [.int (0), .ref t1, a2, a3, a4, a5])), (y0, .inl (E 2, n + 1, .inl z0)), ((E 5), .inr (0, [.ref kb, .int 0, kh, kz])), (kb, .inl (E 0, 0, .inl z0)), (rs, .inr (0, [.ref b1, .int 0, .int 0, .int 0])), (b1, .inl (E 0, n + 1, .inl z0))]) (cx := [(m0, .inr (5, [.int (0), .ref t1, a2, a3, a4, a5])), (t1, .inl (E 4, 4, .inr (.inr (.inr (.inr f))))), (y0, .inl (E 2, n + 1, .inl z0)), ((E 5), .inr (0, [.ref kb, .int 0, kh, kz])), (kb, .inl (E 0, 0, .inl z0)), (rs, .inr (0, [.ref b1, .int 0, .int 0, .int 0])), (b1, .inl (E 0, n + 1, .inl z0))]) (pl := G) hP [1, 0, 2, 3, 4, 5, 6] rfl
  exact W.aret (v := .ref rs) hx hb hr (Or.inl ⟨_, rfl⟩) (Or.inr ⟨_, rfl⟩) (fun t ht hW => ⟨⟨(b1, G), rs, rfl, hw, rf_end ht hP hD⟩, hS.F ht⟩) hS.2.2 dX3_text__26
set_option maxHeartbeats 4000000 in
set_option maxRecDepth 100000 in
/-- the law: setLength(0, n) -/
theorem c_L_setLength (l : Launch) (D : va_G) (E : Nat → ClassId) (sz : Nat) (x0 t0 r0 g0 o0 n : Nat) (f : Nat → Option Nat) (nn sv : Value) (p1 p2 p3 p4 p5 p6 : Value) (hf : f 0 = some r0) (hn : n ≤ 200) : Met l yL_setLength wsL_setLength ({ frames := 5, cells := 0, slots := 0, locals := 800 }) (va_Pc [.ref x0, .int (nI 0), .int (nI n), .ref o0] (rf_P D E [(x0, .inr (3, [.ref t0, p1, p2, p3, p4, p5, p6])), (t0, .inl (E 3, 4, .inr (.inr (.inr (.inr f))))), (r0, .inr (2, [.ref g0, .int (nI (0))])), (g0, .inl (E 2, 256, .inl z0)), (o0, .inr (4, [nn, sv]))] sz)) (va_Qi (fun (r : Int32) (u : Unit) => r = 0) (fun (u : Unit) (t : State) => rf_B D (va_A [(x0, .inr (3, [.ref t0, p1, p2, p3, p4, p5, p6])), (t0, .inl (E 3, 4, .inr (.inr (.inr (.inr f))))), (r0, .inr (2, [.ref g0, .int (nI (0))])), (g0, .inl (E 2, 256, .inl z0)), (o0, .inr (4, [nn, sv]))] sz) [(x0, .inr (3, [.ref t0, p1, p2, p3, p4, p5, p6])), (t0, .inl (E 3, 4, .inr (.inr (.inr (.inr f))))), (r0, .inr (2, [.ref g0, .int (nI (n))])), (g0, .inl (E 2, 256, .inl z0)), (o0, .inr (4, [.long (lN 0), sv]))] t) (va_A [(x0, .inr (3, [.ref t0, p1, p2, p3, p4, p5, p6])), (t0, .inl (E 3, 4, .inr (.inr (.inr (.inr f))))), (r0, .inr (2, [.ref g0, .int (nI (0))])), (g0, .inl (E 2, 256, .inl z0)), (o0, .inr (4, [nn, sv]))] sz)) 0 0 (va_A [(x0, .inr (3, [.ref t0, p1, p2, p3, p4, p5, p6])), (t0, .inl (E 3, 4, .inr (.inr (.inr (.inr f))))), (r0, .inr (2, [.ref g0, .int (nI (0))])), (g0, .inl (E 2, 256, .inl z0)), (o0, .inr (4, [nn, sv]))] sz) := by
  refine va_MetW (cc := cL_setLength) (maxL := 5) (ret := (some .int)) (hh := [(0, 11, 14, 19), (0, 11, 18, 21)]) (by decide) rfl ?_
  intro p e s mI args below meth c s₁ B hml hv
  obtain ⟨rfl, hsz, hP, hK, hD0, hZ, hN⟩ := hv
  have hx := B.exec
  have hb := B.bytes
  have hr := B.returns
  have hts := atoms_spec (ws := wsL_setLength) B.pre
  have hown : s.vm.findClass RL = some mI.cls := findClass_of_methodNamed B.named
  have hlocks := B.notSynchronized
  subst hsz
  have hD := hD0.self (sz := s.heap.size)
  generalize hAe : va_A [(x0, .inr (3, [.ref t0, p1, p2, p3, p4, p5, p6])), (t0, .inl (E 3, 4, .inr (.inr (.inr (.inr f))))), (r0, .inr (2, [.ref g0, .int (nI (0))])), (g0, .inl (E 2, 256, .inl z0)), (o0, .inr (4, [nn, sv]))] s.heap.size = A at hD hZ ⊢
  have hA : ∀ q : Nat, s.heap.size ≤ q → A q := fun q h => by rw [← hAe]; exact Or.inr h
  have hS : va_S A s.heap s.heap [] := va_S.rf
  have hl := lv_entry ([.ref x0, .int (nI 0), .int (nI n), .ref o0]) (n := 5) (Nat.le_of_ble_eq_true rfl)
  rw [lg_entry_eq]
  generalize (lg_sl ([.ref x0, .int (nI 0), .int (nI n), .ref o0]) ++ List.replicate (5 - (lg_sl ([.ref x0, .int (nI 0), .int (nI n), .ref o0])).length) Slot.unset).toArray = ls at hl ⊢
  clear hAe hD0
  have hl : lv_has ls 5 [(0, .ref x0), (1, .int (nI 0)), (2, .int (nI n)), (3, .ref o0)] := hl
  obtain ⟨H, hH⟩ : ∃ H, H = s.heap := ⟨_, rfl⟩
  rw [← hH] at hP
  have hS : va_S A s.heap H [] := by rw [hH]; exact hS
  refine rf_heap hH ?_
  refine lv_aload_n hx hb dL_setLength_0 rfl (lv_at hl 3 rfl) ?_
  refine lv_aload_n hx hb dL_setLength_1 rfl (lv_at hl 0 rfl) ?_
  refine lv_iload_n hx hb dL_setLength_2 rfl (lv_at hl 1 rfl) ?_
  refine lv_iload_n hx hb dL_setLength_3 rfl (lv_at hl 2 rfl) ?_
  have hPc := hP.sub (ws' := [(x0, .inr (3, [.ref t0, p1, p2, p3, p4, p5, p6])), (t0, .inl (E 3, 4, .inr (.inr (.inr (.inr f))))), (r0, .inr (2, [.ref g0, .int (nI (0))])), (g0, .inl (E 2, 256, .inl z0))]) [0, 1, 2, 3] rfl
  have hDc := hD.sub (ws' := [(x0, .inr (3, [.ref t0, p1, p2, p3, p4, p5, p6])), (t0, .inl (E 3, 4, .inr (.inr (.inr (.inr f))))), (r0, .inr (2, [.ref g0, .int (nI (0))])), (g0, .inl (E 2, 256, .inl z0))]) [0, 1, 2, 3] (by decide) rfl
  have hFc := va_free (wc := [(x0, .inr (3, [.ref t0, p1, p2, p3, p4, p5, p6])), (t0, .inl (E 3, 4, .inr (.inr (.inr (.inr f))))), (r0, .inr (2, [.ref g0, .int (nI (0))])), (g0, .inl (E 2, 256, .inl z0))]) hD hS hA [0, 1, 2, 3] rfl
  have h_1 : 0 + 0 ≤ 0 := by omega
  have h_2 : 0 + 0 ≤ 0 := by omega
  refine va_calli (va_runV (As := [.int (nI 0), .int (nI n)]) (rest := [.ref o0]) ⟨hx, hb, hml, hown, hts⟩ (c_X1_setLength l D E H.size (x0) (t0) (r0) (g0) (n) (f) (p1) (p2) (p3) (p4) (p5) (p6) (hf) (by omega)) (cwV 2 hts gL_setLength_X1_setLength rfl rfl rfl (by decide +kernel) ⟨Nat.le_of_ble_eq_true rfl, Nat.le_of_ble_eq_true rfl⟩) ⟨rf_blind _, va_recv hK hPc (ci := 3) (q0 := 0) rfl rfl, fun U hU hW => ⟨rfl, rf_pre hK hPc hDc hZ hN hS hFc U hU hW⟩⟩ rfl rfl hl.1 rfl (lv_room (Nat.le_of_ble_eq_true rfl)) dL_setLength_4 ⟨h_1, h_2⟩) hS (fun q _ h => hFc q h) hFc (fun r u t H1 locs ht hvm hw hB hz1 hk1 hS => ?_)
  obtain ⟨hP1, hD1⟩ := hB
  rw [ht] at hP1
  try dsimp only at hw hP1 hD1
  obtain rfl := hw
  obtain ⟨hP, hD⟩ := va_join (wr := [(o0, .inr (4, [nn, sv]))]) (w1 := [(x0, .inr (3, [.ref t0, p1, p2, p3, p4, p5, p6])), (t0, .inl (E 3, 4, .inr (.inr (.inr (.inr f))))), (r0, .inr (2, [.ref g0, .int (nI (n))])), (g0, .inl (E 2, 256, .inl z0))]) hP hD [0, 1, 2, 3] [4] rfl rfl (by decide) (by decide) hk1 hFc hP1 hD1
  clear hPc hDc hFc hP1 hD1 hk1 hz1 ht
  generalize H1 = H at hP hS ⊢
  have hP : va_P D vwCl [(o0, .inr (4, [nn, sv])), (x0, .inr (3, [.ref t0, p1, p2, p3, p4, p5, p6])), (t0, .inl (E 3, 4, .inr (.inr (.inr (.inr f))))), (r0, .inr (2, [.ref g0, .int (nI (n))])), (g0, .inl (E 2, 256, .inl z0))] H := hP
  have hD : va_D A [(o0, .inr (4, [nn, sv])), (x0, .inr (3, [.ref t0, p1, p2, p3, p4, p5, p6])), (t0, .inl (E 3, 4, .inr (.inr (.inr (.inr f))))), (r0, .inr (2, [.ref g0, .int (nI (n))])), (g0, .inl (E 2, 256, .inl z0))] := hD
  refine lv_i2l (v := lN 0) hx hb dL_setLength_7 (by decide) ?_
  refine va_putN (D := D) (ci := 4) (v := .long (lN 0)) (ty := .long) (C := RX2) (T := TX2) (N := 2) hx hb hts (by decide +kernel) tyX2 tyX2_ok nmX2 hown hK hP hD hS 0 rfl rfl 0 (by decide) (va_Nw.use rfl hN.2.2.2.2.2.1) (fun _ h9 => h9) rfl (by decide +kernel) rfl rfl (Nat.le_of_ble_eq_true rfl) dL_setLength_8 (fun H locs hP hD hS => ?_)
  have hP : va_P D vwCl [(o0, .inr (4, [.long (lN 0), sv])), (x0, .inr (3, [.ref t0, p1, p2, p3, p4, p5, p6])), (t0, .inl (E 3, 4, .inr (.inr (.inr (.inr f))))), (r0, .inr (2, [.ref g0, .int (nI (n))])), (g0, .inl (E 2, 256, .inl z0))] H := hP
  have hD : va_D A [(o0, .inr (4, [.long (lN 0), sv])), (x0, .inr (3, [.ref t0, p1, p2, p3, p4, p5, p6])), (t0, .inl (E 3, 4, .inr (.inr (.inr (.inr f))))), (r0, .inr (2, [.ref g0, .int (nI (n))])), (g0, .inl (E 2, 256, .inl z0))] := hD
  refine lv_goto (tgt := 22) hx hb dL_setLength_11 rfl ?_
  refine lv_iconst (v := 0) hx hb dL_setLength_22 (by decide) ?_
  have hP := hP.sub (ws' := [(x0, .inr (3, [.ref t0, p1, p2, p3, p4, p5, p6])), (t0, .inl (E 3, 4, .inr (.inr (.inr (.inr f))))), (r0, .inr (2, [.ref g0, .int (nI (n))])), (g0, .inl (E 2, 256, .inl z0)), (o0, .inr (4, [.long (lN 0), sv]))]) [1, 2, 3, 4, 0] rfl
  have hD := hD.sub (ws' := [(x0, .inr (3, [.ref t0, p1, p2, p3, p4, p5, p6])), (t0, .inl (E 3, 4, .inr (.inr (.inr (.inr f))))), (r0, .inr (2, [.ref g0, .int (nI (n))])), (g0, .inl (E 2, 256, .inl z0)), (o0, .inr (4, [.long (lN 0), sv]))]) [1, 2, 3, 4, 0] (by decide) rfl
  exact W.iret (v := 0) hx hb hr (fun t ht hW => ⟨⟨0, (), rfl, rfl, rf_end ht hP hD⟩, hS.F ht⟩) hS.2.2 dL_setLength_23
set_option maxHeartbeats 4000000 in
set_option maxRecDepth 100000 in
/-- the law: text(0) -/
theorem c_L_text (l : Launch) (D : va_G) (E : Nat → ClassId) (sz : Nat) (x0 t0 r0 g0 o0 n : Nat) (f : Nat → Option Nat) (nn sv : Value) (p1 p2 p3 p4 p5 p6 : Value) (hf : f 0 = some r0) (hn : n ≤ 200) (h1 : 0 < n) : Met l yL_text wsL_text ({ frames := 8, cells := 3, slots := 404, locals := 1400 }) (va_Pc [.ref x0, .int (nI 0), .ref o0] (rf_P D E [(x0, .inr (3, [.ref t0, p1, p2, p3, p4, p5, p6])), (t0, .inl (E 3, 4, .inr (.inr (.inr (.inr f))))), (r0, .inr (2, [.ref g0, .int (nI (n))])), (g0, .inl (E 2, 256, .inl z0)), (o0, .inr (4, [nn, sv]))] sz)) (va_Qi (fun (r : Int32) (u : Nat × Nat) => r = 0) (fun (u : Nat × Nat) (t : State) => rf_B D (va_A [(x0, .inr (3, [.ref t0, p1, p2, p3, p4, p5, p6])), (t0, .inl (E 3, 4, .inr (.inr (.inr (.inr f))))), (r0, .inr (2, [.ref g0, .int (nI (n))])), (g0, .inl (E 2, 256, .inl z0)), (o0, .inr (4, [nn, sv]))] sz) [(x0, .inr (3, [.ref t0, p1, p2, p3, p4, p5, p6])), (t0, .inl (E 3, 4, .inr (.inr (.inr (.inr f))))), (r0, .inr (2, [.ref g0, .int (nI (n))])), (g0, .inl (E 2, 256, .inl z0)), (o0, .inr (4, [nn, .ref u.1])), (u.1, .inr (0, [.ref u.2, .int 0, .int 0, .int 0])), (u.2, .inl (E 0, n, .inl z0))] t) (va_A [(x0, .inr (3, [.ref t0, p1, p2, p3, p4, p5, p6])), (t0, .inl (E 3, 4, .inr (.inr (.inr (.inr f))))), (r0, .inr (2, [.ref g0, .int (nI (n))])), (g0, .inl (E 2, 256, .inl z0)), (o0, .inr (4, [nn, sv]))] sz)) 3 404 (va_A [(x0, .inr (3, [.ref t0, p1, p2, p3, p4, p5, p6])), (t0, .inl (E 3, 4, .inr (.inr (.inr (.inr f))))), (r0, .inr (2, [.ref g0, .int (nI (n))])), (g0, .inl (E 2, 256, .inl z0)), (o0, .inr (4, [nn, sv]))] sz) := by
  refine va_MetW (cc := cL_text) (maxL := 4) (ret := (some .int)) (hh := [(0, 9, 12, 19)]) (by decide) rfl ?_
  intro p e s mI args below meth c s₁ B hml hv
  obtain ⟨rfl, hsz, hP, hK, hD0, hZ, hN⟩ := hv
  have hx := B.exec
  have hb := B.bytes
  have hr := B.returns
  have hts := atoms_spec (ws := wsL_text) B.pre
  have hown : s.vm.findClass RL = some mI.cls := findClass_of_methodNamed B.named
  have hlocks := B.notSynchronized
  subst hsz
  have hD := hD0.self (sz := s.heap.size)
  generalize hAe : va_A [(x0, .inr (3, [.ref t0, p1, p2, p3, p4, p5, p6])), (t0, .inl (E 3, 4, .inr (.inr (.inr (.inr f))))), (r0, .inr (2, [.ref g0, .int (nI (n))])), (g0, .inl (E 2, 256, .inl z0)), (o0, .inr (4, [nn, sv]))] s.heap.size = A at hD hZ ⊢
  have hA : ∀ q : Nat, s.heap.size ≤ q → A q := fun q h => by rw [← hAe]; exact Or.inr h
  have hS : va_S A s.heap s.heap [] := va_S.rf
  have hl := lv_entry ([.ref x0, .int (nI 0), .ref o0]) (n := 4) (Nat.le_of_ble_eq_true rfl)
  rw [lg_entry_eq]
  generalize (lg_sl ([.ref x0, .int (nI 0), .ref o0]) ++ List.replicate (4 - (lg_sl ([.ref x0, .int (nI 0), .ref o0])).length) Slot.unset).toArray = ls at hl ⊢
  clear hAe hD0
  have hl : lv_has ls 4 [(0, .ref x0), (1, .int (nI 0)), (2, .ref o0)] := hl
  obtain ⟨H, hH⟩ : ∃ H, H = s.heap := ⟨_, rfl⟩
  rw [← hH] at hP
  have hS : va_S A s.heap H [] := by rw [hH]; exact hS
  refine rf_heap hH ?_
  refine lv_aload_n hx hb dL_text_0 rfl (lv_at hl 2 rfl) ?_
  refine lv_aload_n hx hb dL_text_1 rfl (lv_at hl 0 rfl) ?_
  refine lv_iload_n hx hb dL_text_2 rfl (lv_at hl 1 rfl) ?_
  have hPc := hP.sub (ws' := [(x0, .inr (3, [.ref t0, p1, p2, p3, p4, p5, p6])), (t0, .inl (E 3, 4, .inr (.inr (.inr (.inr f))))), (r0, .inr (2, [.ref g0, .int (nI (n))])), (g0, .inl (E 2, 256, .inl z0))]) [0, 1, 2, 3] rfl
  have hDc := hD.sub (ws' := [(x0, .inr (3, [.ref t0, p1, p2, p3, p4, p5, p6])), (t0, .inl (E 3, 4, .inr (.inr (.inr (.inr f))))), (r0, .inr (2, [.ref g0, .int (nI (n))])), (g0, .inl (E 2, 256, .inl z0))]) [0, 1, 2, 3] (by decide) rfl
  have hFc := va_free (wc := [(x0, .inr (3, [.ref t0, p1, p2, p3, p4, p5, p6])), (t0, .inl (E 3, 4, .inr (.inr (.inr (.inr f))))), (r0, .inr (2, [.ref g0, .int (nI (n))])), (g0, .inl (E 2, 256, .inl z0))]) hD hS hA [0, 1, 2, 3] rfl
  have h_1 : 0 + 3 ≤ 3 := by omega
  have h_2 : 0 + 404 ≤ 404 := by omega
  refine va_callr (va_runV (As := [.int (nI 0)]) (rest := [.ref o0]) ⟨hx, hb, hml, hown, hts⟩ (c_X1_text l D E H.size (x0) (t0) (r0) (g0) (n) (f) (p1) (p2) (p3) (p4) (p5) (p6) (hf) (by omega) (by omega)) (cwV 1 hts gL_text_X1_text rfl rfl rfl (by decide +kernel) ⟨Nat.le_of_ble_eq_true rfl, Nat.le_of_ble_eq_true rfl⟩) ⟨rf_blind _, va_recv hK hPc (ci := 3) (q0 := 0) rfl rfl, fun U hU hW => ⟨rfl, rf_pre hK hPc hDc hZ hN hS hFc U hU hW⟩⟩ rfl rfl hl.1 rfl (lv_room (Nat.le_of_ble_eq_true rfl)) dL_text_3 ⟨h_1, h_2⟩) hS (fun q _ h => hFc q h) hFc (fun u rs t H1 locs ht hvm hw hB hz1 hk1 hS => ?_)
  obtain ⟨hP1, hD1⟩ := hB
  rw [ht] at hP1
  try dsimp only at hw hP1 hD1
  obtain ⟨hP, hD⟩ := va_join (wr := [(o0, .inr (4, [nn, sv]))]) (w1 := [(rs, .inr (0, [.ref u, .int 0, .int 0, .int 0])), (u, .inl (E 0, n, .inl z0)), (x0, .inr (3, [.ref t0, p1, p2, p3, p4, p5, p6])), (t0, .inl (E 3, 4, .inr (.inr (.inr (.inr f))))), (r0, .inr (2, [.ref g0, .int (nI (n))])), (g0, .inl (E 2, 256, .inl z0))]) hP hD [0, 1, 2, 3] [4] rfl rfl (by decide) (by decide) hk1 hFc hP1 hD1
  clear hPc hDc hFc hP1 hD1 hk1 hz1 ht
  generalize H1 = H at hP hS ⊢
  have hP : va_P D vwCl [(o0, .inr (4, [nn, sv])), (rs, .inr (0, [.ref u, .int 0, .int 0, .int 0])), (u, .inl (E 0, n, .inl z0)), (x0, .inr (3, [.ref t0, p1, p2, p3, p4, p5, p6])), (t0, .inl (E 3, 4, .inr (.inr (.inr (.inr f))))), (r0, .inr (2, [.ref g0, .int (nI (n))])), (g0, .inl (E 2, 256, .inl z0))] H := hP
  have hD : va_D A [(o0, .inr (4, [nn, sv])), (rs, .inr (0, [.ref u, .int 0, .int 0, .int 0])), (u, .inl (E 0, n, .inl z0)), (x0, .inr (3, [.ref t0, p1, p2, p3, p4, p5, p6])), (t0, .inl (E 3, 4, .inr (.inr (.inr (.inr f))))), (r0, .inr (2, [.ref g0, .int (nI (n))])), (g0, .inl (E 2, 256, .inl z0))] := hD
  refine W.widen (k := 3) (n := 404) (by omega) (by omega) ?_
  refine va_putN (D := D) (ci := 4) (v := .ref rs) (ty := .object "java/lang/String") (C := RX2) (T := TX2) (N := 2) hx hb hts (by decide +kernel) tyX2 tyX2_ok nmX2 hown hK hP hD hS 0 rfl rfl 1 (by decide) (va_Nw.use rfl hN.2.2.2.2.2.2) (fun _ h9 => h9) rfl (by decide +kernel) rfl rfl (Nat.le_of_ble_eq_true rfl) dL_text_6 (fun H locs hP hD hS => ?_)
  have hP : va_P D vwCl [(o0, .inr (4, [nn, .ref rs])), (rs, .inr (0, [.ref u, .int 0, .int 0, .int 0])), (u, .inl (E 0, n, .inl z0)), (x0, .inr (3, [.ref t0, p1, p2, p3, p4, p5, p6])), (t0, .inl (E 3, 4, .inr (.inr (.inr (.inr f))))), (r0, .inr (2, [.ref g0, .int (nI (n))])), (g0, .inl (E 2, 256, .inl z0))] H := hP
  have hD : va_D A [(o0, .inr (4, [nn, .ref rs])), (rs, .inr (0, [.ref u, .int 0, .int 0, .int 0])), (u, .inl (E 0, n, .inl z0)), (x0, .inr (3, [.ref t0, p1, p2, p3, p4, p5, p6])), (t0, .inl (E 3, 4, .inr (.inr (.inr (.inr f))))), (r0, .inr (2, [.ref g0, .int (nI (n))])), (g0, .inl (E 2, 256, .inl z0))] := hD
  refine lv_goto (tgt := 15) hx hb dL_text_9 rfl ?_
  refine lv_iconst (v := 0) hx hb dL_text_15 (by decide) ?_
  have hP := hP.sub (ws' := [(x0, .inr (3, [.ref t0, p1, p2, p3, p4, p5, p6])), (t0, .inl (E 3, 4, .inr (.inr (.inr (.inr f))))), (r0, .inr (2, [.ref g0, .int (nI (n))])), (g0, .inl (E 2, 256, .inl z0)), (o0, .inr (4, [nn, .ref rs])), (rs, .inr (0, [.ref u, .int 0, .int 0, .int 0])), (u, .inl (E 0, n, .inl z0))]) [3, 4, 5, 6, 0, 1, 2] rfl
  have hD := hD.sub (ws' := [(x0, .inr (3, [.ref t0, p1, p2, p3, p4, p5, p6])), (t0, .inl (E 3, 4, .inr (.inr (.inr (.inr f))))), (r0, .inr (2, [.ref g0, .int (nI (n))])), (g0, .inl (E 2, 256, .inl z0)), (o0, .inr (4, [nn, .ref rs])), (rs, .inr (0, [.ref u, .int 0, .int 0, .int 0])), (u, .inl (E 0, n, .inl z0))]) [3, 4, 5, 6, 0, 1, 2] (by decide) rfl
  exact W.iret (v := 0) hx hb hr (fun t ht hW => ⟨⟨0, (rs, u), rfl, rfl, rf_end ht hP hD⟩, hS.F ht⟩) hS.2.2 dL_text_16
set_option maxHeartbeats 4000000 in
set_option maxRecDepth 100000 in
/-- Tapebuffer() -/
theorem c_X1_init (l : Launch) (D : va_G) (E : Nat → ClassId) (sz : Nat) (x0 : Nat)  : Met l yX1_init wsX1_init ({ frames := 3, cells := 20, slots := 3000, locals := 400 }) (va_Pc [.ref x0] (rf_P D E [(x0, .inr (3, [.null, .null, .null, .null, .int 0, .int 0, .int 0]))] sz)) (va_Qv (fun (u : Nat × Nat × Nat × (Nat → Option Nat) × Value × Value × Value) => u.2.2.2.1 0 = some u.2.1) (fun (u : Nat × Nat × Nat × (Nat → Option Nat) × Value × Value × Value) (t : State) => rf_B D (va_A [(x0, .inr (3, [.null, .null, .null, .null, .int 0, .int 0, .int 0]))] sz) [(x0, .inr (3, [.ref u.1, u.2.2.2.2.1, u.2.2.2.2.2.1, u.2.2.2.2.2.2, .int 0, .int 0, .int 0])), (u.1, .inl (E 3, 4, .inr (.inr (.inr (.inr u.2.2.2.1))))), (u.2.1, .inr (2, [.ref u.2.2.1, .int (nI 0)])), (u.2.2.1, .inl (E 2, 256, .inl z0))] t) (va_A [(x0, .inr (3, [.null, .null, .null, .null, .int 0, .int 0, .int 0]))] sz)) 20 3000 (va_A [(x0, .inr (3, [.null, .null, .null, .null, .int 0, .int 0, .int 0]))] sz) := by
  refine Met.ofW (cc := cX1_init) (maxL := 2) (ret := none) (by decide) rfl ?_
  intro p e s mI args below meth c s₁ B hml hv
  obtain ⟨rfl, hsz, hP, hK, hD0, hZ, hN⟩ := hv
  have hx := B.exec
  have hb := B.bytes
  have hr := B.returns
  have hts := atoms_spec (ws := wsX1_init) B.pre
  have hown : s.vm.findClass RX1 = some mI.cls := findClass_of_methodNamed B.named
  have hlocks := B.notSynchronized
  have hin : meth.name = "<init>" := (name_of_methodNamed B.named B.method).1
  subst hsz
  have hD := hD0.self (sz := s.heap.size)
  generalize hAe : va_A [(x0, .inr (3, [.null, .null, .null, .null, .int 0, .int 0, .int 0]))] s.heap.size = A at hD hZ ⊢
  have hA : ∀ q : Nat, s.heap.size ≤ q → A q := fun q h => by rw [← hAe]; exact Or.inr h
  have hS : va_S A s.heap s.heap [] := va_S.rf
  have hl := lv_entry ([.ref x0]) (n := 2) (Nat.le_of_ble_eq_true rfl)
  rw [lg_entry_eq]
  generalize (lg_sl ([.ref x0]) ++ List.replicate (2 - (lg_sl ([.ref x0])).length) Slot.unset).toArray = ls at hl ⊢
  clear hAe hD0
  have hl : lv_has ls 2 [(0, .ref x0)] := hl
  obtain ⟨H, hH⟩ : ∃ H, H = s.heap := ⟨_, rfl⟩
  rw [← hH] at hP
  have hS : va_S A s.heap H [] := by rw [hH]; exact hS
  refine rf_heap hH ?_
  refine lv_aload_n hx hb dX1_init_0 rfl (lv_at hl 0 rfl) ?_
  refine W.objInit hx hb hown (hts (.methodLink RX1 1 objectInit) (by decide +kernel)) (hts (.instanceMethod objectInit) (by decide +kernel)) (hts (.code objectInit ⟨#[0xb1]⟩ 1 none) (by decide +kernel)) rfl (by rw [hml]; exact hl.1) rfl dX1_init_1 (Nat.le_of_ble_eq_true rfl) (Nat.le_of_ble_eq_true rfl) ?_
  refine W.eq (g2 := F0 mI 4 ls []) rfl ?_
  refine lv_aload_n hx hb dX1_init_4 rfl (lv_at hl 0 rfl) ?_
  refine lv_iconst (v := nI 4) hx hb dX1_init_5 (by decide) ?_
  have h_1 : 0 + 1 ≤ 20 := by omega
  have h_2 : 0 + (4) ≤ 3000 := by omega
  refine va_newq (C := "Tapebuffer$Row") (N' := 4) hx hb hown (hts (.classLink RX1 9 "Tapebuffer$Row") (by decide +kernel)) hN.2.2.1 hK hP hD hS hA (nI_pos (by omega)) (nI_clamp (by omega)) (Nat.le_of_ble_eq_true rfl) h_1 h_2 dX1_init_6 (fun t0 cA H hK2 hP hD hS => ?_)
  obtain rfl := rf_rowc hK2
  have hP : va_P D vwCl [(x0, .inr (3, [.null, .null, .null, .null, .int 0, .int 0, .int 0])), (t0, .inl (E 3, 4, .inr (.inr (.inr (.inr (fun _ => none))))))] H := hP
  have hD : va_D A [(x0, .inr (3, [.null, .null, .null, .null, .int 0, .int 0, .int 0])), (t0, .inl (E 3, 4, .inr (.inr (.inr (.inr (fun _ => none))))))] := hD
  refine W.widen (k := 1) (n := 4) (by omega) (by omega) ?_
  refine va_putF (D := D) (ci := 3) (v := .ref t0) (ty := .array (.object "Tapebuffer$Row")) (C := RX1) (T := TX1) (N := 7) hx hb hts (by decide +kernel) tyX1 tyX1_ok nmX1 hown hK hP hD hS 0 rfl rfl 0 (by decide) (hts (.fieldLink RX1 11 "Tapebuffer" "tapes" "[LTapebuffer$Row;") (by decide +kernel)) (fun _ h9 => h9) rfl hin rfl (by decide +kernel) rfl rfl (Nat.le_of_ble_eq_true rfl) dX1_init_9 (fun H locs hP hD hS => ?_)
  have hP : va_P D vwCl [(x0, .inr (3, [.ref t0, .null, .null, .null, .int 0, .int 0, .int 0])), (t0, .inl (E 3, 4, .inr (.inr (.inr (.inr (fun _ => none))))))] H := hP
  have hD : va_D A [(x0, .inr (3, [.ref t0, .null, .null, .null, .int 0, .int 0, .int 0])), (t0, .inl (E 3, 4, .inr (.inr (.inr (.inr (fun _ => none))))))] := hD
  refine lv_iconst (v := nI 0) hx hb dX1_init_12 (by decide) ?_
  refine lv_istore_n hx hb dX1_init_13 rfl hl (Nat.le_of_ble_eq_true rfl) rfl (fun ls hl => ?_)
  have hl : lv_has ls 2 [(1, .int (nI 0)), (0, .ref x0)] := hl
  refine lv_iload_n hx hb dX1_init_14 rfl (lv_at hl 0 rfl) ?_
  refine lv_iconst (v := nI 4) hx hb dX1_init_15 (by decide) ?_
  refine lv_icmp_ge (tgt := 38) hx hb dX1_init_16 rfl (fun h => absurd h (by decide)) (fun _ => ?_)
  refine lv_aload_n hx hb dX1_init_19 rfl (lv_at hl 1 rfl) ?_
  refine va_get (D := D) (ci := 3) (v := .ref t0) (C := RX1) (T := TX1) (N := 7) hx hb hts (by decide +kernel) hown hK hP 0 rfl rfl 0 (by decide) (hts (.fieldLink RX1 11 "Tapebuffer" "tapes" "[LTapebuffer$Row;") (by decide +kernel)) (fun _ h9 => h9) rfl dX1_init_20 ?_
  refine lv_iload_n hx hb dX1_init_23 rfl (lv_at hl 0 rfl) ?_
  have h_1 : 1 + 1 ≤ 20 := by omega
  have h_2 : 4 + 2 ≤ 3000 := by omega
  refine va_new (ci := 2) (fs := [.null, .int 0]) (C := RX0) (T := TX0) (N := 2) hx hb hts (by decide +kernel) tyX0 tyX0_ok hown (hts (.classLink RX1 9 RX0) (by decide +kernel)) (hts (.instantiable RX0 2) (by decide +kernel)) (hts (.initialized RX0) (by decide +kernel)) hK hP hD hS hA rfl (fun j hj => by rcases (show j = 0 ∨ j = 1 by omega) with rfl | rfl <;> rfl) h_1 h_2 dX1_init_24 (fun q0 H hP hD hS => ?_)
  have hP : va_P D vwCl [(x0, .inr (3, [.ref t0, .null, .null, .null, .int 0, .int 0, .int 0])), (t0, .inl (E 3, 4, .inr (.inr (.inr (.inr (fun _ => none)))))), (q0, .inr (2, [.null, .int 0]))] H := hP
  have hD : va_D A [(x0, .inr (3, [.ref t0, .null, .null, .null, .int 0, .int 0, .int 0])), (t0, .inl (E 3, 4, .inr (.inr (.inr (.inr (fun _ => none)))))), (q0, .inr (2, [.null, .int 0]))] := hD
  refine W.widen (k := 2) (n := 6) (by omega) (by omega) ?_
  refine lv_dup hx hb dX1_init_27 rfl ?_
  have hPc := hP.sub (ws' := [(q0, .inr (2, [.null, .int 0]))]) [2] rfl
  have hDc := hD.sub (ws' := [(q0, .inr (2, [.null, .int 0]))]) [2] (by decide) rfl
  have hFc := va_free (wc := [(q0, .inr (2, [.null, .int 0]))]) hD hS hA [2] rfl
  have h_1 : 2 + 1 ≤ 20 := by omega
  have h_2 : 6 + 256 ≤ 3000 := by omega
  refine va_callv (va_runI (As := []) (rest := [.ref q0, .int (nI 0), .ref t0]) ⟨hx, hb, hml, hown, hts⟩ (c_X0_init l D E H.size (q0)) (cwI 0 hts gX1_init_X0_init rfl rfl rfl (hts (.initialized RX0) (by decide +kernel)) (hts (.methodLink RX1 15 yX0_init) (by decide +kernel)) (hts (.instanceMethod yX0_init) (by decide +kernel)) rfl (by decide +kernel) ⟨Nat.le_of_ble_eq_true rfl, Nat.le_of_ble_eq_true rfl⟩) ⟨rf_blind _, fun U hU hW => ⟨rfl, rf_pre hK hPc hDc hZ hN hS hFc U hU hW⟩⟩ rfl rfl hl.1 rfl (lv_room (Nat.le_of_ble_eq_true rfl)) dX1_init_28 ⟨h_1, h_2⟩) hS (fun q _ h => hFc q h) hFc (fun g0 t H1 locs ht hvm hw hB hz1 hk1 hS => ?_)
  obtain ⟨hP1, hD1⟩ := hB
  rw [ht] at hP1
  try dsimp only at hw hP1 hD1
  obtain ⟨hP, hD⟩ := va_join (wr := [(x0, .inr (3, [.ref t0, .null, .null, .null, .int 0, .int 0, .int 0])), (t0, .inl (E 3, 4, .inr (.inr (.inr (.inr (fun _ => none))))))]) (w1 := [(q0, .inr (2, [.ref g0, .int 0])), (g0, .inl (E 2, 256, .inl z0))]) hP hD [2] [0, 1] rfl rfl (by decide) (by decide) hk1 hFc hP1 hD1
  clear hPc hDc hFc hP1 hD1 hk1 hz1 ht
  generalize H1 = H at hP hS ⊢
  have hP : va_P D vwCl [(x0, .inr (3, [.ref t0, .null, .null, .null, .int 0, .int 0, .int 0])), (t0, .inl (E 3, 4, .inr (.inr (.inr (.inr (fun _ => none)))))), (q0, .inr (2, [.ref g0, .int 0])), (g0, .inl (E 2, 256, .inl z0))] H := hP
  have hD : va_D A [(x0, .inr (3, [.ref t0, .null, .null, .null, .int 0, .int 0, .int 0])), (t0, .inl (E 3, 4, .inr (.inr (.inr (.inr (fun _ => none)))))), (q0, .inr (2, [.ref g0, .int 0])), (g0, .inl (E 2, 256, .inl z0))] := hD
  refine W.widen (k := 3) (n := 262) (by omega) (by omega) ?_
  refine va_astq (r := (RX0, TX0, 2)) hx hb hK hP hD hS 1 3 2 2 rfl rfl rfl rfl (vp_in_nI (by omega) (by omega)) dX1_init_31 (fun H locs hP hD hS => ?_)
  have hP : va_P D vwCl [(x0, .inr (3, [.ref t0, .null, .null, .null, .int 0, .int 0, .int 0])), (t0, .inl (E 3, 4, .inr (.inr (.inr (.inr (va_up (fun _ => none) 0 (some q0))))))), (q0, .inr (2, [.ref g0, .int 0])), (g0, .inl (E 2, 256, .inl z0))] H := hP
  have hD : va_D A [(x0, .inr (3, [.ref t0, .null, .null, .null, .int 0, .int 0, .int 0])), (t0, .inl (E 3, 4, .inr (.inr (.inr (.inr (va_up (fun _ => none) 0 (some q0))))))), (q0, .inr (2, [.ref g0, .int 0])), (g0, .inl (E 2, 256, .inl z0))] := hD
  refine lv_iinc (v := nI (1)) hx hb dX1_init_32 hl (k := 0) rfl ((show nI (0) + Int32.ofInt 1 = nI (0) + nI 1 from rfl).trans ((nI_add _ _).trans (congrArg nI (by omega)))) (Nat.le_of_ble_eq_true rfl) rfl (fun ls hl => ?_)
  have hl : lv_has ls 2 [(1, .int (nI (1))), (0, .ref x0)] := hl
  refine lv_goto (tgt := 14) hx hb dX1_init_35 rfl ?_
  refine lv_iload_n hx hb dX1_init_14 rfl (lv_at hl 0 rfl) ?_
  refine lv_iconst (v := nI 4) hx hb dX1_init_15 (by decide) ?_
  refine lv_icmp_ge (tgt := 38) hx hb dX1_init_16 rfl (fun h => absurd h (by decide)) (fun _ => ?_)
  refine lv_aload_n hx hb dX1_init_19 rfl (lv_at hl 1 rfl) ?_
  refine va_get (D := D) (ci := 3) (v := .ref t0) (C := RX1) (T := TX1) (N := 7) hx hb hts (by decide +kernel) hown hK hP 0 rfl rfl 0 (by decide) (hts (.fieldLink RX1 11 "Tapebuffer" "tapes" "[LTapebuffer$Row;") (by decide +kernel)) (fun _ h9 => h9) rfl dX1_init_20 ?_
  refine lv_iload_n hx hb dX1_init_23 rfl (lv_at hl 0 rfl) ?_
  have h_1 : 3 + 1 ≤ 20 := by omega
  have h_2 : 262 + 2 ≤ 3000 := by omega
  refine va_new (ci := 2) (fs := [.null, .int 0]) (C := RX0) (T := TX0) (N := 2) hx hb hts (by decide +kernel) tyX0 tyX0_ok hown (hts (.classLink RX1 9 RX0) (by decide +kernel)) (hts (.instantiable RX0 2) (by decide +kernel)) (hts (.initialized RX0) (by decide +kernel)) hK hP hD hS hA rfl (fun j hj => by rcases (show j = 0 ∨ j = 1 by omega) with rfl | rfl <;> rfl) h_1 h_2 dX1_init_24 (fun q1 H hP hD hS => ?_)
  have hP : va_P D vwCl [(x0, .inr (3, [.ref t0, .null, .null, .null, .int 0, .int 0, .int 0])), (t0, .inl (E 3, 4, .inr (.inr (.inr (.inr (va_up (fun _ => none) 0 (some q0))))))), (q0, .inr (2, [.ref g0, .int 0])), (g0, .inl (E 2, 256, .inl z0)), (q1, .inr (2, [.null, .int 0]))] H := hP
  have hD : va_D A [(x0, .inr (3, [.ref t0, .null, .null, .null, .int 0, .int 0, .int 0])), (t0, .inl (E 3, 4, .inr (.inr (.inr (.inr (va_up (fun _ => none) 0 (some q0))))))), (q0, .inr (2, [.ref g0, .int 0])), (g0, .inl (E 2, 256, .inl z0)), (q1, .inr (2, [.null, .int 0]))] := hD
  refine W.widen (k := 4) (n := 264) (by omega) (by omega) ?_
  refine lv_dup hx hb dX1_init_27 rfl ?_
  have hPc := hP.sub (ws' := [(q1, .inr (2, [.null, .int 0]))]) [4] rfl
  have hDc := hD.sub (ws' := [(q1, .inr (2, [.null, .int 0]))]) [4] (by decide) rfl
  have hFc := va_free (wc := [(q1, .inr (2, [.null, .int 0]))]) hD hS hA [4] rfl
  have h_1 : 4 + 1 ≤ 20 := by omega
  have h_2 : 264 + 256 ≤ 3000 := by omega
  refine va_callv (va_runI (As := []) (rest := [.ref q1, .int (nI (1)), .ref t0]) ⟨hx, hb, hml, hown, hts⟩ (c_X0_init l D E H.size (q1)) (cwI 0 hts gX1_init_X0_init rfl rfl rfl (hts (.initialized RX0) (by decide +kernel)) (hts (.methodLink RX1 15 yX0_init) (by decide +kernel)) (hts (.instanceMethod yX0_init) (by decide +kernel)) rfl (by decide +kernel) ⟨Nat.le_of_ble_eq_true rfl, Nat.le_of_ble_eq_true rfl⟩) ⟨rf_blind _, fun U hU hW => ⟨rfl, rf_pre hK hPc hDc hZ hN hS hFc U hU hW⟩⟩ rfl rfl hl.1 rfl (lv_room (Nat.le_of_ble_eq_true rfl)) dX1_init_28 ⟨h_1, h_2⟩) hS (fun q _ h => hFc q h) hFc (fun g1 t H1 locs ht hvm hw hB hz1 hk1 hS => ?_)
  obtain ⟨hP1, hD1⟩ := hB
  rw [ht] at hP1
  try dsimp only at hw hP1 hD1
  obtain ⟨hP, hD⟩ := va_join (wr := [(x0, .inr (3, [.ref t0, .null, .null, .null, .int 0, .int 0, .int 0])), (t0, .inl (E 3, 4, .inr (.inr (.inr (.inr (va_up (fun _ => none) 0 (some q0))))))), (q0, .inr (2, [.ref g0, .int 0])), (g0, .inl (E 2, 256, .inl z0))]) (w1 := [(q1, .inr (2, [.ref g1, .int 0])), (g1, .inl (E 2, 256, .inl z0))]) hP hD [4] [0, 1, 2, 3] rfl rfl (by decide) (by decide) hk1 hFc hP1 hD1
  clear hPc hDc hFc hP1 hD1 hk1 hz1 ht
  generalize H1 = H at hP hS ⊢
  have hP : va_P D vwCl [(x0, .inr (3, [.ref t0, .null, .null, .null, .int 0, .int 0, .int 0])), (t0, .inl (E 3, 4, .inr (.inr (.inr (.inr (va_up (fun _ => none) 0 (some q0))))))), (q0, .inr (2, [.ref g0, .int 0])), (g0, .inl (E 2, 256, .inl z0)), (q1, .inr (2, [.ref g1, .int 0])), (g1, .inl (E 2, 256, .inl z0))] H := hP
  have hD : va_D A [(x0, .inr (3, [.ref t0, .null, .null, .null, .int 0, .int 0, .int 0])), (t0, .inl (E 3, 4, .inr (.inr (.inr (.inr (va_up (fun _ => none) 0 (some q0))))))), (q0, .inr (2, [.ref g0, .int 0])), (g0, .inl (E 2, 256, .inl z0)), (q1, .inr (2, [.ref g1, .int 0])), (g1, .inl (E 2, 256, .inl z0))] := hD
  refine W.widen (k := 5) (n := 520) (by omega) (by omega) ?_
  refine va_astq (r := (RX0, TX0, 2)) hx hb hK hP hD hS 1 3 4 2 rfl rfl rfl rfl (vp_in_nI (by omega) (by omega)) dX1_init_31 (fun H locs hP hD hS => ?_)
  have hP : va_P D vwCl [(x0, .inr (3, [.ref t0, .null, .null, .null, .int 0, .int 0, .int 0])), (t0, .inl (E 3, 4, .inr (.inr (.inr (.inr (va_up (va_up (fun _ => none) 0 (some q0)) 1 (some q1))))))), (q0, .inr (2, [.ref g0, .int 0])), (g0, .inl (E 2, 256, .inl z0)), (q1, .inr (2, [.ref g1, .int 0])), (g1, .inl (E 2, 256, .inl z0))] H := hP
  have hD : va_D A [(x0, .inr (3, [.ref t0, .null, .null, .null, .int 0, .int 0, .int 0])), (t0, .inl (E 3, 4, .inr (.inr (.inr (.inr (va_up (va_up (fun _ => none) 0 (some q0)) 1 (some q1))))))), (q0, .inr (2, [.ref g0, .int 0])), (g0, .inl (E 2, 256, .inl z0)), (q1, .inr (2, [.ref g1, .int 0])), (g1, .inl (E 2, 256, .inl z0))] := hD
  refine lv_iinc (v := nI (2)) hx hb dX1_init_32 hl (k := 0) rfl ((show nI (1) + Int32.ofInt 1 = nI (1) + nI 1 from rfl).trans ((nI_add _ _).trans (congrArg nI (by omega)))) (Nat.le_of_ble_eq_true rfl) rfl (fun ls hl => ?_)
  have hl : lv_has ls 2 [(1, .int (nI (2))), (0, .ref x0)] := hl
  refine lv_goto (tgt := 14) hx hb dX1_init_35 rfl ?_
  refine lv_iload_n hx hb dX1_init_14 rfl (lv_at hl 0 rfl) ?_
  refine lv_iconst (v := nI 4) hx hb dX1_init_15 (by decide) ?_
  refine lv_icmp_ge (tgt := 38) hx hb dX1_init_16 rfl (fun h => absurd h (by decide)) (fun _ => ?_)
  refine lv_aload_n hx hb dX1_init_19 rfl (lv_at hl 1 rfl) ?_
  refine va_get (D := D) (ci := 3) (v := .ref t0) (C := RX1) (T := TX1) (N := 7) hx hb hts (by decide +kernel) hown hK hP 0 rfl rfl 0 (by decide) (hts (.fieldLink RX1 11 "Tapebuffer" "tapes" "[LTapebuffer$Row;") (by decide +kernel)) (fun _ h9 => h9) rfl dX1_init_20 ?_
  refine lv_iload_n hx hb dX1_init_23 rfl (lv_at hl 0 rfl) ?_
  have h_1 : 5 + 1 ≤ 20 := by omega
  have h_2 : 520 + 2 ≤ 3000 := by omega
  refine va_new (ci := 2) (fs := [.null, .int 0]) (C := RX0) (T := TX0) (N := 2) hx hb hts (by decide +kernel) tyX0 tyX0_ok hown (hts (.classLink RX1 9 RX0) (by decide +kernel)) (hts (.instantiable RX0 2) (by decide +kernel)) (hts (.initialized RX0) (by decide +kernel)) hK hP hD hS hA rfl (fun j hj => by rcases (show j = 0 ∨ j = 1 by omega) with rfl | rfl <;> rfl) h_1 h_2 dX1_init_24 (fun q2 H hP hD hS => ?_)
  have hP : va_P D vwCl [(x0, .inr (3, [.ref t0, .null, .null, .null, .int 0, .int 0, .int 0])), (t0, .inl (E 3, 4, .inr (.inr (.inr (.inr (va_up (va_up (fun _ => none) 0 (some q0)) 1 (some q1))))))), (q0, .inr (2, [.ref g0, .int 0])), (g0, .inl (E 2, 256, .inl z0)), (q1, .inr (2, [.ref g1, .int 0])), (g1, .inl (E 2, 256, .inl z0)), (q2, .inr (2, [.null, .int 0]))] H := hP
  have hD : va_D A [(x0, .inr (3, [.ref t0, .null, .null, .null, .int 0, .int 0, .int 0])), (t0, .inl (E 3, 4, .inr (.inr (.inr (.inr (va_up (va_up (fun _ => none) 0 (some q0)) 1 (some q1))))))), (q0, .inr (2, [.ref g0, .int 0])), (g0, .inl (E 2, 256, .inl z0)), (q1, .inr (2, [.ref g1, .int 0])), (g1, .inl (E 2, 256, .inl z0)), (q2, .inr (2, [.null, .int 0]))] := hD
  refine W.widen (k := 6) (n := 522) (by omega) (by omega) ?_
  refine lv_dup hx hb dX1_init_27 rfl ?_
  have hPc := hP.sub (ws' := [(q2, .inr (2, [.null, .int 0]))]) [6] rfl
  have hDc := hD.sub (ws' := [(q2, .inr (2, [.null, .int 0]))]) [6] (by decide) rfl
  have hFc := va_free (wc := [(q2, .inr (2, [.null, .int 0]))]) hD hS hA [6] rfl
  have h_1 : 6 + 1 ≤ 20 := by omega
  have h_2 : 522 + 256 ≤ 3000 := by omega
  refine va_callv (va_runI (As := []) (rest := [.ref q2, .int (nI (2)), .ref t0]) ⟨hx, hb, hml, hown, hts⟩ (c_X0_init l D E H.size (q2)) (cwI 0 hts gX1_init_X0_init rfl rfl rfl (hts (.initialized RX0) (by decide +kernel)) (hts (.methodLink RX1 15 yX0_init) (by decide +kernel)) (hts (.instanceMethod yX0_init) (by decide +kernel)) rfl (by decide +kernel) ⟨Nat.le_of_ble_eq_true rfl, Nat.le_of_ble_eq_true rfl⟩) ⟨rf_blind _, fun U hU hW => ⟨rfl, rf_pre hK hPc hDc hZ hN hS hFc U hU hW⟩⟩ rfl rfl hl.1 rfl (lv_room (Nat.le_of_ble_eq_true rfl)) dX1_init_28 ⟨h_1, h_2⟩) hS (fun q _ h => hFc q h) hFc (fun g2 t H1 locs ht hvm hw hB hz1 hk1 hS => ?_)
  obtain ⟨hP1, hD1⟩ := hB
  rw [ht] at hP1
  try dsimp only at hw hP1 hD1
  obtain ⟨hP, hD⟩ := va_join (wr := [(x0, .inr (3, [.ref t0, .null, .null, .null, .int 0, .int 0, .int 0])), (t0, .inl (E 3, 4, .inr (.inr (.inr (.inr (va_up (va_up (fun _ => none) 0 (some q0)) 1 (some q1))))))), (q0, .inr (2, [.ref g0, .int 0])), (g0, .inl (E 2, 256, .inl z0)), (q1, .inr (2, [.ref g1, .int 0])), (g1, .inl (E 2, 256, .inl z0))]) (w1 := [(q2, .inr (2, [.ref g2, .int 0])), (g2, .inl (E 2, 256, .inl z0))]) hP hD [6] [0, 1, 2, 3, 4, 5] rfl rfl (by decide) (by decide) hk1 hFc hP1 hD1
  clear hPc hDc hFc hP1 hD1 hk1 hz1 ht
  generalize H1 = H at hP hS ⊢
  have hP : va_P D vwCl [(x0, .inr (3, [.ref t0, .null, .null, .null, .int 0, .int 0, .int 0])), (t0, .inl (E 3, 4, .inr (.inr (.inr (.inr (va_up (va_up (fun _ => none) 0 (some q0)) 1 (some q1))))))), (q0, .inr (2, [.ref g0, .int 0])), (g0, .inl (E 2, 256, .inl z0)), (q1, .inr (2, [.ref g1, .int 0])), (g1, .inl (E 2, 256, .inl z0)), (q2, .inr (2, [.ref g2, .int 0])), (g2, .inl (E 2, 256, .inl z0))] H := hP
  have hD : va_D A [(x0, .inr (3, [.ref t0, .null, .null, .null, .int 0, .int 0, .int 0])), (t0, .inl (E 3, 4, .inr (.inr (.inr (.inr (va_up (va_up (fun _ => none) 0 (some q0)) 1 (some q1))))))), (q0, .inr (2, [.ref g0, .int 0])), (g0, .inl (E 2, 256, .inl z0)), (q1, .inr (2, [.ref g1, .int 0])), (g1, .inl (E 2, 256, .inl z0)), (q2, .inr (2, [.ref g2, .int 0])), (g2, .inl (E 2, 256, .inl z0))] := hD
  refine W.widen (k := 7) (n := 778) (by omega) (by omega) ?_
  refine va_astq (r := (RX0, TX0, 2)) hx hb hK hP hD hS 1 3 6 2 rfl rfl rfl rfl (vp_in_nI (by omega) (by omega)) dX1_init_31 (fun H locs hP hD hS => ?_)
  have hP : va_P D vwCl [(x0, .inr (3, [.ref t0, .null, .null, .null, .int 0, .int 0, .int 0])), (t0, .inl (E 3, 4, .inr (.inr (.inr (.inr (va_up (va_up (va_up (fun _ => none) 0 (some q0)) 1 (some q1)) 2 (some q2))))))), (q0, .inr (2, [.ref g0, .int 0])), (g0, .inl (E 2, 256, .inl z0)), (q1, .inr (2, [.ref g1, .int 0])), (g1, .inl (E 2, 256, .inl z0)), (q2, .inr (2, [.ref g2, .int 0])), (g2, .inl (E 2, 256, .inl z0))] H := hP
  have hD : va_D A [(x0, .inr (3, [.ref t0, .null, .null, .null, .int 0, .int 0, .int 0])), (t0, .inl (E 3, 4, .inr (.inr (.inr (.inr (va_up (va_up (va_up (fun _ => none) 0 (some q0)) 1 (some q1)) 2 (some q2))))))), (q0, .inr (2, [.ref g0, .int 0])), (g0, .inl (E 2, 256, .inl z0)), (q1, .inr (2, [.ref g1, .int 0])), (g1, .inl (E 2, 256, .inl z0)), (q2, .inr (2, [.ref g2, .int 0])), (g2, .inl (E 2, 256, .inl z0))] := hD
  refine lv_iinc (v := nI (3)) hx hb dX1_init_32 hl (k := 0) rfl ((show nI (2) + Int32.ofInt 1 = nI (2) + nI 1 from rfl).trans ((nI_add _ _).trans (congrArg nI (by omega)))) (Nat.le_of_ble_eq_true rfl) rfl (fun ls hl => ?_)
  have hl : lv_has ls 2 [(1, .int (nI (3))), (0, .ref x0)] := hl
  refine lv_goto (tgt := 14) hx hb dX1_init_35 rfl ?_
  refine lv_iload_n hx hb dX1_init_14 rfl (lv_at hl 0 rfl) ?_
  refine lv_iconst (v := nI 4) hx hb dX1_init_15 (by decide) ?_
  refine lv_icmp_ge (tgt := 38) hx hb dX1_init_16 rfl (fun h => absurd h (by decide)) (fun _ => ?_)
  refine lv_aload_n hx hb dX1_init_19 rfl (lv_at hl 1 rfl) ?_
  refine va_get (D := D) (ci := 3) (v := .ref t0) (C := RX1) (T := TX1) (N := 7) hx hb hts (by decide +kernel) hown hK hP 0 rfl rfl 0 (by decide) (hts (.fieldLink RX1 11 "Tapebuffer" "tapes" "[LTapebuffer$Row;") (by decide +kernel)) (fun _ h9 => h9) rfl dX1_init_20 ?_
  refine lv_iload_n hx hb dX1_init_23 rfl (lv_at hl 0 rfl) ?_
  have h_1 : 7 + 1 ≤ 20 := by omega
  have h_2 : 778 + 2 ≤ 3000 := by omega
  refine va_new (ci := 2) (fs := [.null, .int 0]) (C := RX0) (T := TX0) (N := 2) hx hb hts (by decide +kernel) tyX0 tyX0_ok hown (hts (.classLink RX1 9 RX0) (by decide +kernel)) (hts (.instantiable RX0 2) (by decide +kernel)) (hts (.initialized RX0) (by decide +kernel)) hK hP hD hS hA rfl (fun j hj => by rcases (show j = 0 ∨ j = 1 by omega) with rfl | rfl <;> rfl) h_1 h_2 dX1_init_24 (fun q3 H hP hD hS => ?_)
  have hP : va_P D vwCl [(x0, .inr (3, [.ref t0, .null, .null, .null, .int 0, .int 0, .int 0])), (t0, .inl (E 3, 4, .inr (.inr (.inr (.inr (va_up (va_up (va_up (fun _ => none) 0 (some q0)) 1 (some q1)) 2 (some q2))))))), (q0, .inr (2, [.ref g0, .int 0])), (g0, .inl (E 2, 256, .inl z0)), (q1, .inr (2, [.ref g1, .int 0])), (g1, .inl (E 2, 256, .inl z0)), (q2, .inr (2, [.ref g2, .int 0])), (g2, .inl (E 2, 256, .inl z0)), (q3, .inr (2, [.null, .int 0]))] H := hP
  have hD : va_D A [(x0, .inr (3, [.ref t0, .null, .null, .null, .int 0, .int 0, .int 0])), (t0, .inl (E 3, 4, .inr (.inr (.inr (.inr (va_up (va_up (va_up (fun _ => none) 0 (some q0)) 1 (some q1)) 2 (some q2))))))), (q0, .inr (2, [.ref g0, .int 0])), (g0, .inl (E 2, 256, .inl z0)), (q1, .inr (2, [.ref g1, .int 0])), (g1, .inl (E 2, 256, .inl z0)), (q2, .inr (2, [.ref g2, .int 0])), (g2, .inl (E 2, 256, .inl z0)), (q3, .inr (2, [.null, .int 0]))] := hD
  refine W.widen (k := 8) (n := 780) (by omega) (by omega) ?_
  refine lv_dup hx hb dX1_init_27 rfl ?_
  have hPc := hP.sub (ws' := [(q3, .inr (2, [.null, .int 0]))]) [8] rfl
  have hDc := hD.sub (ws' := [(q3, .inr (2, [.null, .int 0]))]) [8] (by decide) rfl
  have hFc := va_free (wc := [(q3, .inr (2, [.null, .int 0]))]) hD hS hA [8] rfl
  have h_1 : 8 + 1 ≤ 20 := by omega
  have h_2 : 780 + 256 ≤ 3000 := by omega
  refine va_callv (va_runI (As := []) (rest := [.ref q3, .int (nI (3)), .ref t0]) ⟨hx, hb, hml, hown, hts⟩ (c_X0_init l D E H.size (q3)) (cwI 0 hts gX1_init_X0_init rfl rfl rfl (hts (.initialized RX0) (by decide +kernel)) (hts (.methodLink RX1 15 yX0_init) (by decide +kernel)) (hts (.instanceMethod yX0_init) (by decide +kernel)) rfl (by decide +kernel) ⟨Nat.le_of_ble_eq_true rfl, Nat.le_of_ble_eq_true rfl⟩) ⟨rf_blind _, fun U hU hW => ⟨rfl, rf_pre hK hPc hDc hZ hN hS hFc U hU hW⟩⟩ rfl rfl hl.1 rfl (lv_room (Nat.le_of_ble_eq_true rfl)) dX1_init_28 ⟨h_1, h_2⟩) hS (fun q _ h => hFc q h) hFc (fun g3 t H1 locs ht hvm hw hB hz1 hk1 hS => ?_)
  obtain ⟨hP1, hD1⟩ := hB
  rw [ht] at hP1
  try dsimp only at hw hP1 hD1
  obtain ⟨hP, hD⟩ := va_join (wr := [(x0, .inr (3, [.ref t0, .null, .null, .null, .int 0, .int 0, .int 0])), (t0, .inl (E 3, 4, .inr (.inr (.inr (.inr (va_up (va_up (va_up (fun _ => none) 0 (some q0)) 1 (some q1)) 2 (some q2))))))), (q0, .inr (2, [.ref g0, .int 0])), (g0, .inl (E 2, 256, .inl z0)), (q1, .inr (2, [.ref g1, .int 0])), (g1, .inl (E 2, 256, .inl z0)), (q2, .inr (2, [.ref g2, .int 0])), (g2, .inl (E 2, 256, .inl z0))]) (w1 := [(q3, .inr (2, [.ref g3, .int 0])), (g3, .inl (E 2, 256, .inl z0))]) hP hD [8] [0, 1, 2, 3, 4, 5, 6, 7] rfl rfl (by decide) (by decide) hk1 hFc hP1 hD1
  clear hPc hDc hFc hP1 hD1 hk1 hz1 ht
  generalize H1 = H at hP hS ⊢
  have hP : va_P D vwCl [(x0, .inr (3, [.ref t0, .null, .null, .null, .int 0, .int 0, .int 0])), (t0, .inl (E 3, 4, .inr (.inr (.inr (.inr (va_up (va_up (va_up (fun _ => none) 0 (some q0)) 1 (some q1)) 2 (some q2))))))), (q0, .inr (2, [.ref g0, .int 0])), (g0, .inl (E 2, 256, .inl z0)), (q1, .inr (2, [.ref g1, .int 0])), (g1, .inl (E 2, 256, .inl z0)), (q2, .inr (2, [.ref g2, .int 0])), (g2, .inl (E 2, 256, .inl z0)), (q3, .inr (2, [.ref g3, .int 0])), (g3, .inl (E 2, 256, .inl z0))] H := hP
  have hD : va_D A [(x0, .inr (3, [.ref t0, .null, .null, .null, .int 0, .int 0, .int 0])), (t0, .inl (E 3, 4, .inr (.inr (.inr (.inr (va_up (va_up (va_up (fun _ => none) 0 (some q0)) 1 (some q1)) 2 (some q2))))))), (q0, .inr (2, [.ref g0, .int 0])), (g0, .inl (E 2, 256, .inl z0)), (q1, .inr (2, [.ref g1, .int 0])), (g1, .inl (E 2, 256, .inl z0)), (q2, .inr (2, [.ref g2, .int 0])), (g2, .inl (E 2, 256, .inl z0)), (q3, .inr (2, [.ref g3, .int 0])), (g3, .inl (E 2, 256, .inl z0))] := hD
  refine W.widen (k := 9) (n := 1036) (by omega) (by omega) ?_
  refine va_astq (r := (RX0, TX0, 2)) hx hb hK hP hD hS 1 3 8 2 rfl rfl rfl rfl (vp_in_nI (by omega) (by omega)) dX1_init_31 (fun H locs hP hD hS => ?_)
  have hP : va_P D vwCl [(x0, .inr (3, [.ref t0, .null, .null, .null, .int 0, .int 0, .int 0])), (t0, .inl (E 3, 4, .inr (.inr (.inr (.inr (va_up (va_up (va_up (va_up (fun _ => none) 0 (some q0)) 1 (some q1)) 2 (some q2)) 3 (some q3))))))), (q0, .inr (2, [.ref g0, .int 0])), (g0, .inl (E 2, 256, .inl z0)), (q1, .inr (2, [.ref g1, .int 0])), (g1, .inl (E 2, 256, .inl z0)), (q2, .inr (2, [.ref g2, .int 0])), (g2, .inl (E 2, 256, .inl z0)), (q3, .inr (2, [.ref g3, .int 0])), (g3, .inl (E 2, 256, .inl z0))] H := hP
  have hD : va_D A [(x0, .inr (3, [.ref t0, .null, .null, .null, .int 0, .int 0, .int 0])), (t0, .inl (E 3, 4, .inr (.inr (.inr (.inr (va_up (va_up (va_up (va_up (fun _ => none) 0 (some q0)) 1 (some q1)) 2 (some q2)) 3 (some q3))))))), (q0, .inr (2, [.ref g0, .int 0])), (g0, .inl (E 2, 256, .inl z0)), (q1, .inr (2, [.ref g1, .int 0])), (g1, .inl (E 2, 256, .inl z0)), (q2, .inr (2, [.ref g2, .int 0])), (g2, .inl (E 2, 256, .inl z0)), (q3, .inr (2, [.ref g3, .int 0])), (g3, .inl (E 2, 256, .inl z0))] := hD
  refine lv_iinc (v := nI (4)) hx hb dX1_init_32 hl (k := 0) rfl ((show nI (3) + Int32.ofInt 1 = nI (3) + nI 1 from rfl).trans ((nI_add _ _).trans (congrArg nI (by omega)))) (Nat.le_of_ble_eq_true rfl) rfl (fun ls hl => ?_)
  have hl : lv_has ls 2 [(1, .int (nI (4))), (0, .ref x0)] := hl
  refine lv_goto (tgt := 14) hx hb dX1_init_35 rfl ?_
  refine lv_iload_n hx hb dX1_init_14 rfl (lv_at hl 0 rfl) ?_
  refine lv_iconst (v := nI 4) hx hb dX1_init_15 (by decide) ?_
  refine lv_icmp_ge (tgt := 38) hx hb dX1_init_16 rfl (fun _ => ?_) (fun h => absurd (by decide) h)
  refine lv_aload_n hx hb dX1_init_38 rfl (lv_at hl 1 rfl) ?_
  have h_1 : 9 + 1 ≤ 20 := by omega
  have h_2 : 1036 + 2 ≤ 3000 := by omega
  refine va_new (ci := 2) (fs := [.null, .int 0]) (C := RX0) (T := TX0) (N := 2) hx hb hts (by decide +kernel) tyX0 tyX0_ok hown (hts (.classLink RX1 9 RX0) (by decide +kernel)) (hts (.instantiable RX0 2) (by decide +kernel)) (hts (.initialized RX0) (by decide +kernel)) hK hP hD hS hA rfl (fun j hj => by rcases (show j = 0 ∨ j = 1 by omega) with rfl | rfl <;> rfl) h_1 h_2 dX1_init_39 (fun q4 H hP hD hS => ?_)
  have hP : va_P D vwCl [(x0, .inr (3, [.ref t0, .null, .null, .null, .int 0, .int 0, .int 0])), (t0, .inl (E 3, 4, .inr (.inr (.inr (.inr (va_up (va_up (va_up (va_up (fun _ => none) 0 (some q0)) 1 (some q1)) 2 (some q2)) 3 (some q3))))))), (q0, .inr (2, [.ref g0, .int 0])), (g0, .inl (E 2, 256, .inl z0)), (q1, .inr (2, [.ref g1, .int 0])), (g1, .inl (E 2, 256, .inl z0)), (q2, .inr (2, [.ref g2, .int 0])), (g2, .inl (E 2, 256, .inl z0)), (q3, .inr (2, [.ref g3, .int 0])), (g3, .inl (E 2, 256, .inl z0)), (q4, .inr (2, [.null, .int 0]))] H := hP
  have hD : va_D A [(x0, .inr (3, [.ref t0, .null, .null, .null, .int 0, .int 0, .int 0])), (t0, .inl (E 3, 4, .inr (.inr (.inr (.inr (va_up (va_up (va_up (va_up (fun _ => none) 0 (some q0)) 1 (some q1)) 2 (some q2)) 3 (some q3))))))), (q0, .inr (2, [.ref g0, .int 0])), (g0, .inl (E 2, 256, .inl z0)), (q1, .inr (2, [.ref g1, .int 0])), (g1, .inl (E 2, 256, .inl z0)), (q2, .inr (2, [.ref g2, .int 0])), (g2, .inl (E 2, 256, .inl z0)), (q3, .inr (2, [.ref g3, .int 0])), (g3, .inl (E 2, 256, .inl z0)), (q4, .inr (2, [.null, .int 0]))] := hD
  refine W.widen (k := 10) (n := 1038) (by omega) (by omega) ?_
  refine lv_dup hx hb dX1_init_42 rfl ?_
  have hPc := hP.sub (ws' := [(q4, .inr (2, [.null, .int 0]))]) [10] rfl
  have hDc := hD.sub (ws' := [(q4, .inr (2, [.null, .int 0]))]) [10] (by decide) rfl
  have hFc := va_free (wc := [(q4, .inr (2, [.null, .int 0]))]) hD hS hA [10] rfl
  have h_1 : 10 + 1 ≤ 20 := by omega
  have h_2 : 1038 + 256 ≤ 3000 := by omega
  refine va_callv (va_runI (As := []) (rest := [.ref q4, .ref x0]) ⟨hx, hb, hml, hown, hts⟩ (c_X0_init l D E H.size (q4)) (cwI 0 hts gX1_init_X0_init rfl rfl rfl (hts (.initialized RX0) (by decide +kernel)) (hts (.methodLink RX1 15 yX0_init) (by decide +kernel)) (hts (.instanceMethod yX0_init) (by decide +kernel)) rfl (by decide +kernel) ⟨Nat.le_of_ble_eq_true rfl, Nat.le_of_ble_eq_true rfl⟩) ⟨rf_blind _, fun U hU hW => ⟨rfl, rf_pre hK hPc hDc hZ hN hS hFc U hU hW⟩⟩ rfl rfl hl.1 rfl (lv_room (Nat.le_of_ble_eq_true rfl)) dX1_init_43 ⟨h_1, h_2⟩) hS (fun q _ h => hFc q h) hFc (fun g4 t H1 locs ht hvm hw hB hz1 hk1 hS => ?_)
  obtain ⟨hP1, hD1⟩ := hB
  rw [ht] at hP1
  try dsimp only at hw hP1 hD1
  obtain ⟨hP, hD⟩ := va_join (wr := [(x0, .inr (3, [.ref t0, .null, .null, .null, .int 0, .int 0, .int 0])), (t0, .inl (E 3, 4, .inr (.inr (.inr (.inr (va_up (va_up (va_up (va_up (fun _ => none) 0 (some q0)) 1 (some q1)) 2 (some q2)) 3 (some q3))))))), (q0, .inr (2, [.ref g0, .int 0])), (g0, .inl (E 2, 256, .inl z0)), (q1, .inr (2, [.ref g1, .int 0])), (g1, .inl (E 2, 256, .inl z0)), (q2, .inr (2, [.ref g2, .int 0])), (g2, .inl (E 2, 256, .inl z0)), (q3, .inr (2, [.ref g3, .int 0])), (g3, .inl (E 2, 256, .inl z0))]) (w1 := [(q4, .inr (2, [.ref g4, .int 0])), (g4, .inl (E 2, 256, .inl z0))]) hP hD [10] [0, 1, 2, 3, 4, 5, 6, 7, 8, 9] rfl rfl (by decide) (by decide) hk1 hFc hP1 hD1
  clear hPc hDc hFc hP1 hD1 hk1 hz1 ht
  generalize H1 = H at hP hS ⊢
  have hP : va_P D vwCl [(x0, .inr (3, [.ref t0, .null, .null, .null, .int 0, .int 0, .int 0])), (t0, .inl (E 3, 4, .inr (.inr (.inr (.inr (va_up (va_up (va_up (va_up (fun _ => none) 0 (some q0)) 1 (some q1)) 2 (some q2)) 3 (some q3))))))), (q0, .inr (2, [.ref g0, .int 0])), (g0, .inl (E 2, 256, .inl z0)), (q1, .inr (2, [.ref g1, .int 0])), (g1, .inl (E 2, 256, .inl z0)), (q2, .inr (2, [.ref g2, .int 0])), (g2, .inl (E 2, 256, .inl z0)), (q3, .inr (2, [.ref g3, .int 0])), (g3, .inl (E 2, 256, .inl z0)), (q4, .inr (2, [.ref g4, .int 0])), (g4, .inl (E 2, 256, .inl z0))] H := hP
  have hD : va_D A [(x0, .inr (3, [.ref t0, .null, .null, .null, .int 0, .int 0, .int 0])), (t0, .inl (E 3, 4, .inr (.inr (.inr (.inr (va_up (va_up (va_up (va_up (fun _ => none) 0 (some q0)) 1 (some q1)) 2 (some q2)) 3 (some q3))))))), (q0, .inr (2, [.ref g0, .int 0])), (g0, .inl (E 2, 256, .inl z0)), (q1, .inr (2, [.ref g1, .int 0])), (g1, .inl (E 2, 256, .inl z0)), (q2, .inr (2, [.ref g2, .int 0])), (g2, .inl (E 2, 256, .inl z0)), (q3, .inr (2, [.ref g3, .int 0])), (g3, .inl (E 2, 256, .inl z0)), (q4, .inr (2, [.ref g4, .int 0])), (g4, .inl (E 2, 256, .inl z0))] := hD
  refine W.widen (k := 11) (n := 1294) (by omega) (by omega) ?_
  refine va_putF (D := D) (ci := 3) (v := .ref q4) (ty := .object "Tapebuffer$Row") (C := RX1) (T := TX1) (N := 7) hx hb hts (by decide +kernel) tyX1 tyX1_ok nmX1 hown hK hP hD hS 0 rfl rfl 1 (by decide) (hts (.fieldLink RX1 16 "Tapebuffer" "picture" "LTapebuffer$Row;") (by decide +kernel)) (fun _ h9 => h9) rfl hin rfl (by decide +kernel) rfl rfl (Nat.le_of_ble_eq_true rfl) dX1_init_46 (fun H locs hP hD hS => ?_)
  have hP : va_P D vwCl [(x0, .inr (3, [.ref t0, .ref q4, .null, .null, .int 0, .int 0, .int 0])), (t0, .inl (E 3, 4, .inr (.inr (.inr (.inr (va_up (va_up (va_up (va_up (fun _ => none) 0 (some q0)) 1 (some q1)) 2 (some q2)) 3 (some q3))))))), (q0, .inr (2, [.ref g0, .int 0])), (g0, .inl (E 2, 256, .inl z0)), (q1, .inr (2, [.ref g1, .int 0])), (g1, .inl (E 2, 256, .inl z0)), (q2, .inr (2, [.ref g2, .int 0])), (g2, .inl (E 2, 256, .inl z0)), (q3, .inr (2, [.ref g3, .int 0])), (g3, .inl (E 2, 256, .inl z0)), (q4, .inr (2, [.ref g4, .int 0])), (g4, .inl (E 2, 256, .inl z0))] H := hP
  have hD : va_D A [(x0, .inr (3, [.ref t0, .ref q4, .null, .null, .int 0, .int 0, .int 0])), (t0, .inl (E 3, 4, .inr (.inr (.inr (.inr (va_up (va_up (va_up (va_up (fun _ => none) 0 (some q0)) 1 (some q1)) 2 (some q2)) 3 (some q3))))))), (q0, .inr (2, [.ref g0, .int 0])), (g0, .inl (E 2, 256, .inl z0)), (q1, .inr (2, [.ref g1, .int 0])), (g1, .inl (E 2, 256, .inl z0)), (q2, .inr (2, [.ref g2, .int 0])), (g2, .inl (E 2, 256, .inl z0)), (q3, .inr (2, [.ref g3, .int 0])), (g3, .inl (E 2, 256, .inl z0)), (q4, .inr (2, [.ref g4, .int 0])), (g4, .inl (E 2, 256, .inl z0))] := hD
  refine lv_aload_n hx hb dX1_init_49 rfl (lv_at hl 1 rfl) ?_
  have h_1 : 11 + 1 ≤ 20 := by omega
  have h_2 : 1294 + 2 ≤ 3000 := by omega
  refine va_new (ci := 2) (fs := [.null, .int 0]) (C := RX0) (T := TX0) (N := 2) hx hb hts (by decide +kernel) tyX0 tyX0_ok hown (hts (.classLink RX1 9 RX0) (by decide +kernel)) (hts (.instantiable RX0 2) (by decide +kernel)) (hts (.initialized RX0) (by decide +kernel)) hK hP hD hS hA rfl (fun j hj => by rcases (show j = 0 ∨ j = 1 by omega) with rfl | rfl <;> rfl) h_1 h_2 dX1_init_50 (fun q5 H hP hD hS => ?_)
  have hP : va_P D vwCl [(x0, .inr (3, [.ref t0, .ref q4, .null, .null, .int 0, .int 0, .int 0])), (t0, .inl (E 3, 4, .inr (.inr (.inr (.inr (va_up (va_up (va_up (va_up (fun _ => none) 0 (some q0)) 1 (some q1)) 2 (some q2)) 3 (some q3))))))), (q0, .inr (2, [.ref g0, .int 0])), (g0, .inl (E 2, 256, .inl z0)), (q1, .inr (2, [.ref g1, .int 0])), (g1, .inl (E 2, 256, .inl z0)), (q2, .inr (2, [.ref g2, .int 0])), (g2, .inl (E 2, 256, .inl z0)), (q3, .inr (2, [.ref g3, .int 0])), (g3, .inl (E 2, 256, .inl z0)), (q4, .inr (2, [.ref g4, .int 0])), (g4, .inl (E 2, 256, .inl z0)), (q5, .inr (2, [.null, .int 0]))] H := hP
  have hD : va_D A [(x0, .inr (3, [.ref t0, .ref q4, .null, .null, .int 0, .int 0, .int 0])), (t0, .inl (E 3, 4, .inr (.inr (.inr (.inr (va_up (va_up (va_up (va_up (fun _ => none) 0 (some q0)) 1 (some q1)) 2 (some q2)) 3 (some q3))))))), (q0, .inr (2, [.ref g0, .int 0])), (g0, .inl (E 2, 256, .inl z0)), (q1, .inr (2, [.ref g1, .int 0])), (g1, .inl (E 2, 256, .inl z0)), (q2, .inr (2, [.ref g2, .int 0])), (g2, .inl (E 2, 256, .inl z0)), (q3, .inr (2, [.ref g3, .int 0])), (g3, .inl (E 2, 256, .inl z0)), (q4, .inr (2, [.ref g4, .int 0])), (g4, .inl (E 2, 256, .inl z0)), (q5, .inr (2, [.null, .int 0]))] := hD
  refine W.widen (k := 12) (n := 1296) (by omega) (by omega) ?_
  refine lv_dup hx hb dX1_init_53 rfl ?_
  have hPc := hP.sub (ws' := [(q5, .inr (2, [.null, .int 0]))]) [12] rfl
  have hDc := hD.sub (ws' := [(q5, .inr (2, [.null, .int 0]))]) [12] (by decide) rfl
  have hFc := va_free (wc := [(q5, .inr (2, [.null, .int 0]))]) hD hS hA [12] rfl
  have h_1 : 12 + 1 ≤ 20 := by omega
  have h_2 : 1296 + 256 ≤ 3000 := by omega
  refine va_callv (va_runI (As := []) (rest := [.ref q5, .ref x0]) ⟨hx, hb, hml, hown, hts⟩ (c_X0_init l D E H.size (q5)) (cwI 0 hts gX1_init_X0_init rfl rfl rfl (hts (.initialized RX0) (by decide +kernel)) (hts (.methodLink RX1 15 yX0_init) (by decide +kernel)) (hts (.instanceMethod yX0_init) (by decide +kernel)) rfl (by decide +kernel) ⟨Nat.le_of_ble_eq_true rfl, Nat.le_of_ble_eq_true rfl⟩) ⟨rf_blind _, fun U hU hW => ⟨rfl, rf_pre hK hPc hDc hZ hN hS hFc U hU hW⟩⟩ rfl rfl hl.1 rfl (lv_room (Nat.le_of_ble_eq_true rfl)) dX1_init_54 ⟨h_1, h_2⟩) hS (fun q _ h => hFc q h) hFc (fun g5 t H1 locs ht hvm hw hB hz1 hk1 hS => ?_)
  obtain ⟨hP1, hD1⟩ := hB
  rw [ht] at hP1
  try dsimp only at hw hP1 hD1
  obtain ⟨hP, hD⟩ := va_join (wr := [(x0, .inr (3, [.ref t0, .ref q4, .null, .null, .int 0, .int 0, .int 0])), (t0, .inl (E 3, 4, .inr (.inr (.inr (.inr (va_up (va_up (va_up (va_up (fun _ => none) 0 (some q0)) 1 (some q1)) 2 (some q2)) 3 (some q3))))))), (q0, .inr (2, [.ref g0, .int 0])), (g0, .inl (E 2, 256, .inl z0)), (q1, .inr (2, [.ref g1, .int 0])), (g1, .inl (E 2, 256, .inl z0)), (q2, .inr (2, [.ref g2, .int 0])), (g2, .inl (E 2, 256, .inl z0)), (q3, .inr (2, [.ref g3, .int 0])), (g3, .inl (E 2, 256, .inl z0)), (q4, .inr (2, [.ref g4, .int 0])), (g4, .inl (E 2, 256, .inl z0))]) (w1 := [(q5, .inr (2, [.ref g5, .int 0])), (g5, .inl (E 2, 256, .inl z0))]) hP hD [12] [0, 1, 2, 3, 4, 5, 6, 7, 8, 9, 10, 11] rfl rfl (by decide) (by decide) hk1 hFc hP1 hD1
  clear hPc hDc hFc hP1 hD1 hk1 hz1 ht
  generalize H1 = H at hP hS ⊢
  have hP : va_P D vwCl [(x0, .inr (3, [.ref t0, .ref q4, .null, .null, .int 0, .int 0, .int 0])), (t0, .inl (E 3, 4, .inr (.inr (.inr (.inr (va_up (va_up (va_up (va_up (fun _ => none) 0 (some q0)) 1 (some q1)) 2 (some q2)) 3 (some q3))))))), (q0, .inr (2, [.ref g0, .int 0])), (g0, .inl (E 2, 256, .inl z0)), (q1, .inr (2, [.ref g1, .int 0])), (g1, .inl (E 2, 256, .inl z0)), (q2, .inr (2, [.ref g2, .int 0])), (g2, .inl (E 2, 256, .inl z0)), (q3, .inr (2, [.ref g3, .int 0])), (g3, .inl (E 2, 256, .inl z0)), (q4, .inr (2, [.ref g4, .int 0])), (g4, .inl (E 2, 256, .inl z0)), (q5, .inr (2, [.ref g5, .int 0])), (g5, .inl (E 2, 256, .inl z0))] H := hP
  have hD : va_D A [(x0, .inr (3, [.ref t0, .ref q4, .null, .null, .int 0, .int 0, .int 0])), (t0, .inl (E 3, 4, .inr (.inr (.inr (.inr (va_up (va_up (va_up (va_up (fun _ => none) 0 (some q0)) 1 (some q1)) 2 (some q2)) 3 (some q3))))))), (q0, .inr (2, [.ref g0, .int 0])), (g0, .inl (E 2, 256, .inl z0)), (q1, .inr (2, [.ref g1, .int 0])), (g1, .inl (E 2, 256, .inl z0)), (q2, .inr (2, [.ref g2, .int 0])), (g2, .inl (E 2, 256, .inl z0)), (q3, .inr (2, [.ref g3, .int 0])), (g3, .inl (E 2, 256, .inl z0)), (q4, .inr (2, [.ref g4, .int 0])), (g4, .inl (E 2, 256, .inl z0)), (q5, .inr (2, [.ref g5, .int 0])), (g5, .inl (E 2, 256, .inl z0))] := hD
  refine W.widen (k := 13) (n := 1552) (by omega) (by omega) ?_
  refine va_putF (D := D) (ci := 3) (v := .ref q5) (ty := .object "Tapebuffer$Row") (C := RX1) (T := TX1) (N := 7) hx hb hts (by decide +kernel) tyX1 tyX1_ok nmX1 hown hK hP hD hS 0 rfl rfl 2 (by decide) (hts (.fieldLink RX1 20 "Tapebuffer" "coming" "LTapebuffer$Row;") (by decide +kernel)) (fun _ h9 => h9) rfl hin rfl (by decide +kernel) rfl rfl (Nat.le_of_ble_eq_true rfl) dX1_init_57 (fun H locs hP hD hS => ?_)
  have hP : va_P D vwCl [(x0, .inr (3, [.ref t0, .ref q4, .ref q5, .null, .int 0, .int 0, .int 0])), (t0, .inl (E 3, 4, .inr (.inr (.inr (.inr (va_up (va_up (va_up (va_up (fun _ => none) 0 (some q0)) 1 (some q1)) 2 (some q2)) 3 (some q3))))))), (q0, .inr (2, [.ref g0, .int 0])), (g0, .inl (E 2, 256, .inl z0)), (q1, .inr (2, [.ref g1, .int 0])), (g1, .inl (E 2, 256, .inl z0)), (q2, .inr (2, [.ref g2, .int 0])), (g2, .inl (E 2, 256, .inl z0)), (q3, .inr (2, [.ref g3, .int 0])), (g3, .inl (E 2, 256, .inl z0)), (q4, .inr (2, [.ref g4, .int 0])), (g4, .inl (E 2, 256, .inl z0)), (q5, .inr (2, [.ref g5, .int 0])), (g5, .inl (E 2, 256, .inl z0))] H := hP
  have hD : va_D A [(x0, .inr (3, [.ref t0, .ref q4, .ref q5, .null, .int 0, .int 0, .int 0])), (t0, .inl (E 3, 4, .inr (.inr (.inr (.inr (va_up (va_up (va_up (va_up (fun _ => none) 0 (some q0)) 1 (some q1)) 2 (some q2)) 3 (some q3))))))), (q0, .inr (2, [.ref g0, .int 0])), (g0, .inl (E 2, 256, .inl z0)), (q1, .inr (2, [.ref g1, .int 0])), (g1, .inl (E 2, 256, .inl z0)), (q2, .inr (2, [.ref g2, .int 0])), (g2, .inl (E 2, 256, .inl z0)), (q3, .inr (2, [.ref g3, .int 0])), (g3, .inl (E 2, 256, .inl z0)), (q4, .inr (2, [.ref g4, .int 0])), (g4, .inl (E 2, 256, .inl z0)), (q5, .inr (2, [.ref g5, .int 0])), (g5, .inl (E 2, 256, .inl z0))] := hD
  refine lv_aload_n hx hb dX1_init_60 rfl (lv_at hl 1 rfl) ?_
  have h_1 : 13 + 1 ≤ 20 := by omega
  have h_2 : 1552 + 2 ≤ 3000 := by omega
  refine va_new (ci := 2) (fs := [.null, .int 0]) (C := RX0) (T := TX0) (N := 2) hx hb hts (by decide +kernel) tyX0 tyX0_ok hown (hts (.classLink RX1 9 RX0) (by decide +kernel)) (hts (.instantiable RX0 2) (by decide +kernel)) (hts (.initialized RX0) (by decide +kernel)) hK hP hD hS hA rfl (fun j hj => by rcases (show j = 0 ∨ j = 1 by omega) with rfl | rfl <;> rfl) h_1 h_2 dX1_init_61 (fun q6 H hP hD hS => ?_)
  have hP : va_P D vwCl [(x0, .inr (3, [.ref t0, .ref q4, .ref q5, .null, .int 0, .int 0, .int 0])), (t0, .inl (E 3, 4, .inr (.inr (.inr (.inr (va_up (va_up (va_up (va_up (fun _ => none) 0 (some q0)) 1 (some q1)) 2 (some q2)) 3 (some q3))))))), (q0, .inr (2, [.ref g0, .int 0])), (g0, .inl (E 2, 256, .inl z0)), (q1, .inr (2, [.ref g1, .int 0])), (g1, .inl (E 2, 256, .inl z0)), (q2, .inr (2, [.ref g2, .int 0])), (g2, .inl (E 2, 256, .inl z0)), (q3, .inr (2, [.ref g3, .int 0])), (g3, .inl (E 2, 256, .inl z0)), (q4, .inr (2, [.ref g4, .int 0])), (g4, .inl (E 2, 256, .inl z0)), (q5, .inr (2, [.ref g5, .int 0])), (g5, .inl (E 2, 256, .inl z0)), (q6, .inr (2, [.null, .int 0]))] H := hP
  have hD : va_D A [(x0, .inr (3, [.ref t0, .ref q4, .ref q5, .null, .int 0, .int 0, .int 0])), (t0, .inl (E 3, 4, .inr (.inr (.inr (.inr (va_up (va_up (va_up (va_up (fun _ => none) 0 (some q0)) 1 (some q1)) 2 (some q2)) 3 (some q3))))))), (q0, .inr (2, [.ref g0, .int 0])), (g0, .inl (E 2, 256, .inl z0)), (q1, .inr (2, [.ref g1, .int 0])), (g1, .inl (E 2, 256, .inl z0)), (q2, .inr (2, [.ref g2, .int 0])), (g2, .inl (E 2, 256, .inl z0)), (q3, .inr (2, [.ref g3, .int 0])), (g3, .inl (E 2, 256, .inl z0)), (q4, .inr (2, [.ref g4, .int 0])), (g4, .inl (E 2, 256, .inl z0)), (q5, .inr (2, [.ref g5, .int 0])), (g5, .inl (E 2, 256, .inl z0)), (q6, .inr (2, [.null, .int 0]))] := hD
  refine W.widen (k := 14) (n := 1554) (by omega) (by omega) ?_
  refine lv_dup hx hb dX1_init_64 rfl ?_
  have hPc := hP.sub (ws' := [(q6, .inr (2, [.null, .int 0]))]) [14] rfl
  have hDc := hD.sub (ws' := [(q6, .inr (2, [.null, .int 0]))]) [14] (by decide) rfl
  have hFc := va_free (wc := [(q6, .inr (2, [.null, .int 0]))]) hD hS hA [14] rfl
  have h_1 : 14 + 1 ≤ 20 := by omega
  have h_2 : 1554 + 256 ≤ 3000 := by omega
  refine va_callv (va_runI (As := []) (rest := [.ref q6, .ref x0]) ⟨hx, hb, hml, hown, hts⟩ (c_X0_init l D E H.size (q6)) (cwI 0 hts gX1_init_X0_init rfl rfl rfl (hts (.initialized RX0) (by decide +kernel)) (hts (.methodLink RX1 15 yX0_init) (by decide +kernel)) (hts (.instanceMethod yX0_init) (by decide +kernel)) rfl (by decide +kernel) ⟨Nat.le_of_ble_eq_true rfl, Nat.le_of_ble_eq_true rfl⟩) ⟨rf_blind _, fun U hU hW => ⟨rfl, rf_pre hK hPc hDc hZ hN hS hFc U hU hW⟩⟩ rfl rfl hl.1 rfl (lv_room (Nat.le_of_ble_eq_true rfl)) dX1_init_65 ⟨h_1, h_2⟩) hS (fun q _ h => hFc q h) hFc (fun g6 t H1 locs ht hvm hw hB hz1 hk1 hS => ?_)
  obtain ⟨hP1, hD1⟩ := hB
  rw [ht] at hP1
  try dsimp only at hw hP1 hD1
  obtain ⟨hP, hD⟩ := va_join (wr := [(x0, .inr (3, [.ref t0, .ref q4, .ref q5, .null, .int 0, .int 0, .int 0])), (t0, .inl (E 3, 4, .inr (.inr (.inr (.inr (va_up (va_up (va_up (va_up (fun _ => none) 0 (some q0)) 1 (some q1)) 2 (some q2)) 3 (some q3))))))), (q0, .inr (2, [.ref g0, .int 0])), (g0, .inl (E 2, 256, .inl z0)), (q1, .inr (2, [.ref g1, .int 0])), (g1, .inl (E 2, 256, .inl z0)), (q2, .inr (2, [.ref g2, .int 0])), (g2, .inl (E 2, 256, .inl z0)), (q3, .inr (2, [.ref g3, .int 0])), (g3, .inl (E 2, 256, .inl z0)), (q4, .inr (2, [.ref g4, .int 0])), (g4, .inl (E 2, 256, .inl z0)), (q5, .inr (2, [.ref g5, .int 0])), (g5, .inl (E 2, 256, .inl z0))]) (w1 := [(q6, .inr (2, [.ref g6, .int 0])), (g6, .inl (E 2, 256, .inl z0))]) hP hD [14] [0, 1, 2, 3, 4, 5, 6, 7, 8, 9, 10, 11, 12, 13] rfl rfl (by decide) (by decide) hk1 hFc hP1 hD1
  clear hPc hDc hFc hP1 hD1 hk1 hz1 ht
  generalize H1 = H at hP hS ⊢
  have hP : va_P D vwCl [(x0, .inr (3, [.ref t0, .ref q4, .ref q5, .null, .int 0, .int 0, .int 0])), (t0, .inl (E 3, 4, .inr (.inr (.inr (.inr (va_up (va_up (va_up (va_up (fun _ => none) 0 (some q0)) 1 (some q1)) 2 (some q2)) 3 (some q3))))))), (q0, .inr (2, [.ref g0, .int 0])), (g0, .inl (E 2, 256, .inl z0)), (q1, .inr (2, [.ref g1, .int 0])), (g1, .inl (E 2, 256, .inl z0)), (q2, .inr (2, [.ref g2, .int 0])), (g2, .inl (E 2, 256, .inl z0)), (q3, .inr (2, [.ref g3, .int 0])), (g3, .inl (E 2, 256, .inl z0)), (q4, .inr (2, [.ref g4, .int 0])), (g4, .inl (E 2, 256, .inl z0)), (q5, .inr (2, [.ref g5, .int 0])), (g5, .inl (E 2, 256, .inl z0)), (q6, .inr (2, [.ref g6, .int 0])), (g6, .inl (E 2, 256, .inl z0))] H := hP
  have hD : va_D A [(x0, .inr (3, [.ref t0, .ref q4, .ref q5, .null, .int 0, .int 0, .int 0])), (t0, .inl (E 3, 4, .inr (.inr (.inr (.inr (va_up (va_up (va_up (va_up (fun _ => none) 0 (some q0)) 1 (some q1)) 2 (some q2)) 3 (some q3))))))), (q0, .inr (2, [.ref g0, .int 0])), (g0, .inl (E 2, 256, .inl z0)), (q1, .inr (2, [.ref g1, .int 0])), (g1, .inl (E 2, 256, .inl z0)), (q2, .inr (2, [.ref g2, .int 0])), (g2, .inl (E 2, 256, .inl z0)), (q3, .inr (2, [.ref g3, .int 0])), (g3, .inl (E 2, 256, .inl z0)), (q4, .inr (2, [.ref g4, .int 0])), (g4, .inl (E 2, 256, .inl z0)), (q5, .inr (2, [.ref g5, .int 0])), (g5, .inl (E 2, 256, .inl z0)), (q6, .inr (2, [.ref g6, .int 0])), (g6, .inl (E 2, 256, .inl z0))] := hD
  refine W.widen (k := 15) (n := 1810) (by omega) (by omega) ?_
  refine va_putF (D := D) (ci := 3) (v := .ref q6) (ty := .object "Tapebuffer$Row") (C := RX1) (T := TX1) (N := 7) hx hb hts (by decide +kernel) tyX1 tyX1_ok nmX1 hown hK hP hD hS 0 rfl rfl 3 (by decide) (hts (.fieldLink RX1 23 "Tapebuffer" "spare" "LTapebuffer$Row;") (by decide +kernel)) (fun _ h9 => h9) rfl hin rfl (by decide +kernel) rfl rfl (Nat.le_of_ble_eq_true rfl) dX1_init_68 (fun H locs hP hD hS => ?_)
  have hP : va_P D vwCl [(x0, .inr (3, [.ref t0, .ref q4, .ref q5, .ref q6, .int 0, .int 0, .int 0])), (t0, .inl (E 3, 4, .inr (.inr (.inr (.inr (va_up (va_up (va_up (va_up (fun _ => none) 0 (some q0)) 1 (some q1)) 2 (some q2)) 3 (some q3))))))), (q0, .inr (2, [.ref g0, .int 0])), (g0, .inl (E 2, 256, .inl z0)), (q1, .inr (2, [.ref g1, .int 0])), (g1, .inl (E 2, 256, .inl z0)), (q2, .inr (2, [.ref g2, .int 0])), (g2, .inl (E 2, 256, .inl z0)), (q3, .inr (2, [.ref g3, .int 0])), (g3, .inl (E 2, 256, .inl z0)), (q4, .inr (2, [.ref g4, .int 0])), (g4, .inl (E 2, 256, .inl z0)), (q5, .inr (2, [.ref g5, .int 0])), (g5, .inl (E 2, 256, .inl z0)), (q6, .inr (2, [.ref g6, .int 0])), (g6, .inl (E 2, 256, .inl z0))] H := hP
  have hD : va_D A [(x0, .inr (3, [.ref t0, .ref q4, .ref q5, .ref q6, .int 0, .int 0, .int 0])), (t0, .inl (E 3, 4, .inr (.inr (.inr (.inr (va_up (va_up (va_up (va_up (fun _ => none) 0 (some q0)) 1 (some q1)) 2 (some q2)) 3 (some q3))))))), (q0, .inr (2, [.ref g0, .int 0])), (g0, .inl (E 2, 256, .inl z0)), (q1, .inr (2, [.ref g1, .int 0])), (g1, .inl (E 2, 256, .inl z0)), (q2, .inr (2, [.ref g2, .int 0])), (g2, .inl (E 2, 256, .inl z0)), (q3, .inr (2, [.ref g3, .int 0])), (g3, .inl (E 2, 256, .inl z0)), (q4, .inr (2, [.ref g4, .int 0])), (g4, .inl (E 2, 256, .inl z0)), (q5, .inr (2, [.ref g5, .int 0])), (g5, .inl (E 2, 256, .inl z0)), (q6, .inr (2, [.ref g6, .int 0])), (g6, .inl (E 2, 256, .inl z0))] := hD
  refine W.widen (k := 20) (n := 3000) (by omega) (by omega) ?_
  have hP := hP.sub (ws' := [(x0, .inr (3, [.ref t0, .ref q4, .ref q5, .ref q6, .int 0, .int 0, .int 0])), (t0, .inl (E 3, 4, .inr (.inr (.inr (.inr (va_up (va_up (va_up (va_up (fun _ => none) 0 (some q0)) 1 (some q1)) 2 (some q2)) 3 (some q3))))))), (q0, .inr (2, [.ref g0, .int 0])), (g0, .inl (E 2, 256, .inl z0))]) [0, 1, 2, 3] rfl
  have hD := hD.sub (ws' := [(x0, .inr (3, [.ref t0, .ref q4, .ref q5, .ref q6, .int 0, .int 0, .int 0])), (t0, .inl (E 3, 4, .inr (.inr (.inr (.inr (va_up (va_up (va_up (va_up (fun _ => none) 0 (some q0)) 1 (some q1)) 2 (some q2)) 3 (some q3))))))), (q0, .inr (2, [.ref g0, .int 0])), (g0, .inl (E 2, 256, .inl z0))]) [0, 1, 2, 3] (by decide) rfl
  exact W.vret hx hb hr (fun t ht hW => ⟨⟨(t0, q0, g0, (va_up (va_up (va_up (va_up (fun _ => none) 0 (some q0)) 1 (some q1)) 2 (some q2)) 3 (some q3)), .ref q4, .ref q5, .ref q6), rfl, (by simp [va_up]), rf_end ht hP hD⟩, hS.F ht⟩) hS.2.2 dX1_init_71
set_option maxHeartbeats 4000000 in
set_option maxRecDepth 100000 in
/-- TapebufferModel() -/
theorem c_X3_init (l : Launch) (D : va_G) (E : Nat → ClassId) (sz : Nat) (m0 : Nat)  : Met l yX3_init wsX3_init ({ frames := 2, cells := 6, slots := 4, locals := 200 }) (va_Pc [.ref m0] (rf_P D E [(m0, .inr (5, [.int 0, .null, .null, .int 0, .int 0, .int 0]))] sz)) (va_Qv (fun (u : Nat × Nat × (Nat → Option Nat) × Value) => u.2.2.1 0 = some u.2.1) (fun (u : Nat × Nat × (Nat → Option Nat) × Value) (t : State) => rf_B D (va_A [(m0, .inr (5, [.int 0, .null, .null, .int 0, .int 0, .int 0]))] sz) [(m0, .inr (5, [.int 0, .ref u.1, u.2.2.2, .int 0, .int 0, .int 0])), (u.1, .inl (E 4, 4, .inr (.inr (.inr (.inr u.2.2.1))))), (u.2.1, .inl (E 2, 0, .inl z0))] t) (va_A [(m0, .inr (5, [.int 0, .null, .null, .int 0, .int 0, .int 0]))] sz)) 6 4 (va_A [(m0, .inr (5, [.int 0, .null, .null, .int 0, .int 0, .int 0]))] sz) := by
  refine Met.ofW (cc := cX3_init) (maxL := 1) (ret := none) (by decide) rfl ?_
  intro p e s mI args below meth c s₁ B hml hv
  obtain ⟨rfl, hsz, hP, hK, hD0, hZ, hN⟩ := hv
  have hx := B.exec
  have hb := B.bytes
  have hr := B.returns
  have hts := atoms_spec (ws := wsX3_init) B.pre
  have hown : s.vm.findClass RX3 = some mI.cls := findClass_of_methodNamed B.named
  have hlocks := B.notSynchronized
  have hin : meth.name = "<init>" := (name_of_methodNamed B.named B.method).1
  subst hsz
  have hD := hD0.self (sz := s.heap.size)
  generalize hAe : va_A [(m0, .inr (5, [.int 0, .null, .null, .int 0, .int 0, .int 0]))] s.heap.size = A at hD hZ ⊢
  have hA : ∀ q : Nat, s.heap.size ≤ q → A q := fun q h => by rw [← hAe]; exact Or.inr h
  have hS : va_S A s.heap s.heap [] := va_S.rf
  have hl := lv_entry ([.ref m0]) (n := 1) (Nat.le_of_ble_eq_true rfl)
  rw [lg_entry_eq]
  generalize (lg_sl ([.ref m0]) ++ List.replicate (1 - (lg_sl ([.ref m0])).length) Slot.unset).toArray = ls at hl ⊢
  clear hAe hD0
  have hl : lv_has ls 1 [(0, .ref m0)] := hl
  obtain ⟨H, hH⟩ : ∃ H, H = s.heap := ⟨_, rfl⟩
  rw [← hH] at hP
  have hS : va_S A s.heap H [] := by rw [hH]; exact hS
  refine rf_heap hH ?_
  refine lv_aload_n hx hb dX3_init_0 rfl (lv_at hl 0 rfl) ?_
  refine W.objInit hx hb hown (hts (.methodLink RX3 1 objectInit) (by decide +kernel)) (hts (.instanceMethod objectInit) (by decide +kernel)) (hts (.code objectInit ⟨#[0xb1]⟩ 1 none) (by decide +kernel)) rfl (by rw [hml]; exact hl.1) rfl dX3_init_1 (Nat.le_of_ble_eq_true rfl) (Nat.le_of_ble_eq_true rfl) ?_
  refine W.eq (g2 := F0 mI 4 ls []) rfl ?_
  refine lv_aload_n hx hb dX3_init_4 rfl (lv_at hl 0 rfl) ?_
  refine lv_iconst (v := nI 4) hx hb dX3_init_5 (by decide) ?_
  refine lv_iconst (v := nI 0) hx hb dX3_init_6 (by decide) ?_
  have hP : va_P D vwCl ([(m0, .inr (5, [.int 0, .null, .null, .int 0, .int 0, .int 0]))] ++ va_pl [] (fun _ => .inl (E 2, 0, .inl z0))) H := hP
  have hD : va_D A ([(m0, .inr (5, [.int 0, .null, .null, .int 0, .int 0, .int 0]))] ++ va_pl [] (fun _ => .inl (E 2, 0, .inl z0))) := hD
  have h_1 : 0 + (1 + 4) ≤ 6 := by omega
  have h_2 : 0 + (4 + 4 * 0) ≤ 4 := by omega
  refine va_mna (N' := 4) (K' := 0) (z := (0, .inl z0)) (ty := .int) (cy := E 2) hx hb hown (hts (.classLink RX3 9 "[[I") (by decide +kernel)) hN.2.2.2.1 (hts (.arrayClass .int) (by decide +kernel)) (hK.2 2 _ rfl).2 hK hP hD hS hA (nI_pos (by omega)) (nI_pos (by omega)) (nI_clamp (by omega)) (nI_clamp (by omega)) (Nat.le_of_ble_eq_true rfl) (Nat.le_of_ble_eq_true rfl) (Nat.le_of_ble_eq_true rfl) rfl rfl h_1 h_2 (fun c => rf_inner c) dX3_init_7 (fun t1 r cA H hinj hnew hK2 hP hD hS => ?_)
  obtain rfl := rf_grid hK2
  have hin0 : r 0 ∈ (List.range 4).map r := List.mem_map.mpr ⟨0, List.mem_range.mpr (by omega), rfl⟩
  have hP := hP.sub (ws' := [(m0, .inr (5, [.int 0, .null, .null, .int 0, .int 0, .int 0])), (t1, .inl (E 4, 4, .inr (.inr (.inr (.inr (fun i => if i < 4 then some (r i) else none)))))), (r 0, vr_up (fun _ => .inl (E 2, 0, .inl z0)) ((List.range 4).map r) (.inl (E 2, 0, .inl z0)) (r 0))]) [0, 1, 2] rfl
  have hD := hD.sub (ws' := [(m0, .inr (5, [.int 0, .null, .null, .int 0, .int 0, .int 0])), (t1, .inl (E 4, 4, .inr (.inr (.inr (.inr (fun i => if i < 4 then some (r i) else none)))))), (r 0, vr_up (fun _ => .inl (E 2, 0, .inl z0)) ((List.range 4).map r) (.inl (E 2, 0, .inl z0)) (r 0))]) [0, 1, 2] (by decide) rfl
  rw [vr_up_in hin0] at hP hD
  have hP : va_P D vwCl [(m0, .inr (5, [.int 0, .null, .null, .int 0, .int 0, .int 0])), (t1, .inl (E 4, 4, .inr (.inr (.inr (.inr (fun i => if i < 4 then some (r i) else none)))))), ((r 0), .inl (E 2, 0, .inl z0))] H := hP
  have hD : va_D A [(m0, .inr (5, [.int 0, .null, .null, .int 0, .int 0, .int 0])), (t1, .inl (E 4, 4, .inr (.inr (.inr (.inr (fun i => if i < 4 then some (r i) else none)))))), ((r 0), .inl (E 2, 0, .inl z0))] := hD
  refine W.widen (k := 5) (n := 4) (by omega) (by omega) ?_
  refine va_putF (D := D) (ci := 5) (v := .ref t1) (ty := .array (.array .int)) (C := RX3) (T := TX3) (N := 6) hx hb hts (by decide +kernel) tyX3 tyX3_ok nmX3 hown hK hP hD hS 0 rfl rfl 1 (by decide) (hts (.fieldLink RX3 11 "TapebufferModel" "tapes" "[[I") (by decide +kernel)) (fun _ h9 => h9) rfl hin rfl (by decide +kernel) rfl rfl (Nat.le_of_ble_eq_true rfl) dX3_init_11 (fun H locs hP hD hS => ?_)
  have hP : va_P D vwCl [(m0, .inr (5, [.int 0, .ref t1, .null, .int 0, .int 0, .int 0])), (t1, .inl (E 4, 4, .inr (.inr (.inr (.inr (fun i => if i < 4 then some (r i) else none)))))), ((r 0), .inl (E 2, 0, .inl z0))] H := hP
  have hD : va_D A [(m0, .inr (5, [.int 0, .ref t1, .null, .int 0, .int 0, .int 0])), (t1, .inl (E 4, 4, .inr (.inr (.inr (.inr (fun i => if i < 4 then some (r i) else none)))))), ((r 0), .inl (E 2, 0, .inl z0))] := hD
  refine lv_aload_n hx hb dX3_init_14 rfl (lv_at hl 0 rfl) ?_
  refine lv_iconst (v := nI 0) hx hb dX3_init_15 (by decide) ?_
  have h_1 : 5 + 1 ≤ 6 := by omega
  have h_2 : 4 + (0) ≤ 4 := by omega
  refine va_newa (atype := .int) (N' := 0) (a0 := (0, .inl z0)) hx hb (hts (.arrayClass .int) (by decide +kernel)) rfl hK hP hD hS hA (fun _ => rfl) (nI_pos (by omega)) (nI_clamp (by omega)) (Nat.le_trans (Nat.mul_le_mul_right _ (show 0 ≤ 0 by omega)) (Nat.le_of_ble_eq_true rfl)) h_1 h_2 dX3_init_16 (fun q1 cA H hK2 hP hD hS => ?_)
  obtain rfl := rf_int hK2
  have hP : va_P D vwCl [(m0, .inr (5, [.int 0, .ref t1, .null, .int 0, .int 0, .int 0])), (t1, .inl (E 4, 4, .inr (.inr (.inr (.inr (fun i => if i < 4 then some (r i) else none)))))), ((r 0), .inl (E 2, 0, .inl z0)), (q1, .inl (E 2, 0, .inl z0))] H := hP
  have hD : va_D A [(m0, .inr (5, [.int 0, .ref t1, .null, .int 0, .int 0, .int 0])), (t1, .inl (E 4, 4, .inr (.inr (.inr (.inr (fun i => if i < 4 then some (r i) else none)))))), ((r 0), .inl (E 2, 0, .inl z0)), (q1, .inl (E 2, 0, .inl z0))] := hD
  refine W.widen (k := 6) (n := 4) (by omega) (by omega) ?_
  refine va_put (D := D) (ci := 5) (v := .ref q1) (ty := .array .int) (C := RX3) (T := TX3) (N := 6) hx hb hts (by decide +kernel) tyX3 tyX3_ok nmX3 hown hK hP hD hS 0 rfl rfl 2 (by decide) (hts (.fieldLink RX3 14 "TapebufferModel" "picture" "[I") (by decide +kernel)) (fun _ h9 => h9) rfl (by decide +kernel) rfl rfl (Nat.le_of_ble_eq_true rfl) dX3_init_18 (fun H locs hP hD hS => ?_)
  have hP : va_P D vwCl [(m0, .inr (5, [.int 0, .ref t1, .ref q1, .int 0, .int 0, .int 0])), (t1, .inl (E 4, 4, .inr (.inr (.inr (.inr (fun i => if i < 4 then some (r i) else none)))))), ((r 0), .inl (E 2, 0, .inl z0)), (q1, .inl (E 2, 0, .inl z0))] H := hP
  have hD : va_D A [(m0, .inr (5, [.int 0, .ref t1, .ref q1, .int 0, .int 0, .int 0])), (t1, .inl (E 4, 4, .inr (.inr (.inr (.inr (fun i => if i < 4 then some (r i) else none)))))), ((r 0), .inl (E 2, 0, .inl z0)), (q1, .inl (E 2, 0, .inl z0))] := hD
  have hP := hP.sub (ws' := [(m0, .inr (5, [.int 0, .ref t1, .ref q1, .int 0, .int 0, .int 0])), (t1, .inl (E 4, 4, .inr (.inr (.inr (.inr (fun i => if i < 4 then some (r i) else none)))))), ((r 0), .inl (E 2, 0, .inl z0))]) [0, 1, 2] rfl
  have hD := hD.sub (ws' := [(m0, .inr (5, [.int 0, .ref t1, .ref q1, .int 0, .int 0, .int 0])), (t1, .inl (E 4, 4, .inr (.inr (.inr (.inr (fun i => if i < 4 then some (r i) else none)))))), ((r 0), .inl (E 2, 0, .inl z0))]) [0, 1, 2] (by decide) rfl
  exact W.vret hx hb hr (fun t ht hW => ⟨⟨(t1, r 0, (fun i => if i < 4 then some (r i) else none), .ref q1), rfl, rfl, rf_end ht hP hD⟩, hS.F ht⟩) hS.2.2 dX3_init_21
end
section
/-! 'selects' of the builder's private methods, which the tables say but for the receiver's own class. -/
theorem rf_sel {C : String} {y z : MethodName} {s : State} {args : Array Value} {n : Nat} (hy : y.cls ≠ "java/lang/invoke/MethodHandle" ∧ y.cls ≠ "java/lang/invoke/VarHandle") (hzy : z.cls = y.cls)
    (hz : (Cond.selects C z z).before args s = true) (hins : (Cond.instantiable C n).before args s = true) (hpriv : (Cond.privateMethod y).before args s = true) (hinst : (Cond.instanceMethod y).before args s = true) :
    (Cond.selects C y y).before args s = true := by
  obtain ⟨c, k, hc, hk, -, -, -, -⟩ := Cond.instantiable_spec hins
  obtain ⟨mk, methM, hnamed, hmethM, -, -⟩ := Cond.instanceMethod_spec hinst
  have hfound : s.methodFound? y.cls y.name y.desc = some mk := State.methodFound?_of_named hnamed hy
  have hcls : s.vm.findClass y.cls = some mk.cls := findClass_of_methodNamed hnamed
  have hsel : selectMethod {} s.vm c mk = .method mk := selectMethod_private hmethM (Cond.privateMethod_at hpriv mk methM hnamed hmethM)
  have hni : (s.vm.classes[mk.cls]?).any (fun k => !k.isInterface) = true := by
    simp only [Cond.before, Cond.holds, Cond.value, hc] at hz
    cases h1 : s.methodFound? z.cls z.name z.desc with
    | none => simp [h1] at hz
    | some r =>
      cases h2 : s.methodNamed? z with
      | none => simp [h1, h2] at hz
      | some mz =>
        have h3 : mz.cls = mk.cls := Option.some.inj ((findClass_of_methodNamed h2).symm.trans ((congrArg (fun x => s.vm.findClass x) hzy).trans hcls))
        rw [h1, h2] at hz
        dsimp only at hz
        cases h4 : selectMethod {} s.vm c r with
        | method m' =>
          rw [h4] at hz
          dsimp only at hz
          rw [← h3]
          have h5 := (beq_iff_eq.mp hz)
          have h6 := Option.some.inj h5
          exact (Bool.and_eq_true_iff.mp h6).2
        | _ => rw [h4] at hz; simp at hz
  simp only [Cond.before, Cond.holds, Cond.value, hc, hfound, hnamed, hsel]
  simpa using hni
def rf_sels : List MethodName := [yJ5_appendNull_278bc, yJ5_ensureCapacityInternal_d00df, yJ5_newCapacity_0f7a4, yJ5_putStringAt_47b60, yJ5_inflateIfNeededFor_a7421, yJ5_inflate_da8c8]
def rf_tbl : List Cond := rf_sels.map (fun y => Cond.selects RJ4 y y) ++ lw_tbl
theorem rf_okz : Cond.selects RJ4 yJ5_isLatin1_aae02 yJ5_isLatin1_aae02 ∈ lw_tbl ∧ Cond.instantiable RJ4 4 ∈ lw_tbl := by decide +kernel
theorem rf_oks : ∀ y ∈ rf_sels, (y.cls ≠ "java/lang/invoke/MethodHandle" ∧ y.cls ≠ "java/lang/invoke/VarHandle") ∧ yJ5_isLatin1_aae02.cls = y.cls ∧ Cond.privateMethod y ∈ lw_tbl ∧ Cond.instanceMethod y ∈ lw_tbl := by decide +kernel
theorem rf_hts {s : State} {args : Array Value} (h : ∀ w ∈ lw_tbl, w.before args s = true) : ∀ w ∈ rf_tbl, w.before args s = true := by
  intro w hw
  rcases List.mem_append.mp hw with hw | hw
  · obtain ⟨y, hy, rfl⟩ := List.mem_map.mp hw
    obtain ⟨h1, h2, h3, h4⟩ := rf_oks y hy
    exact rf_sel h1 h2 (h _ rf_okz.1) (h _ rf_okz.2) (h _ h3) (h _ h4)
  · exact h w hw

set_option maxRecDepth 100000 in
set_option maxHeartbeats 4000000 in
theorem rgL_law_X1_init : GoodIn rf_tbl (wsX1_init) := goodIn_sub (by decide +kernel) (by decide +kernel)
set_option maxRecDepth 100000 in
set_option maxHeartbeats 4000000 in
theorem rgL_law_X3_init : GoodIn rf_tbl (wsX3_init) := goodIn_sub (by decide +kernel) (by decide +kernel)
set_option maxRecDepth 100000 in
set_option maxHeartbeats 4000000 in
theorem rgL_law_X2_init_n182 : GoodIn rf_tbl (wsX2_init) := goodIn_sub (by decide +kernel) (by decide +kernel)
set_option maxRecDepth 100000 in
set_option maxHeartbeats 4000000 in
theorem rgL_law_L_setLength : GoodIn rf_tbl (va_wsS RL 243 yL_setLength wsL_setLength) := goodIn_sub (by decide +kernel) (by decide +kernel)
set_option maxRecDepth 100000 in
set_option maxHeartbeats 4000000 in
theorem rgL_law_X3_setLength : GoodIn rf_tbl (wsV RL 245 RX3 yX3_setLength wsX3_setLength) := goodIn_sub (by decide +kernel) (by decide +kernel)
set_option maxRecDepth 100000 in
set_option maxHeartbeats 4000000 in
theorem rgL_law_L_text : GoodIn rf_tbl (va_wsS RL 276 yL_text wsL_text) := goodIn_sub (by decide +kernel) (by decide +kernel)
set_option maxRecDepth 100000 in
set_option maxHeartbeats 4000000 in
theorem rg_wsX3_text__r1 : GoodIn rf_tbl wsX3_text__r1 := goodIn_sub (by decide +kernel) (by decide +kernel)
set_option maxRecDepth 100000 in
set_option maxHeartbeats 4000000 in
theorem rg_wsX3_text__r2 : GoodIn rf_tbl wsX3_text__r2 := goodIn_sub (by decide +kernel) (by decide +kernel)
set_option maxRecDepth 100000 in
set_option maxHeartbeats 4000000 in
theorem rg_wsX3_text__r3 : GoodIn rf_tbl wsX3_text__r3 := goodIn_sub (by decide +kernel) (by decide +kernel)
set_option maxRecDepth 100000 in
set_option maxHeartbeats 4000000 in
theorem rg_wsX3_text__r4 : GoodIn rf_tbl wsX3_text__r4 := goodIn_sub (by decide +kernel) (by decide +kernel)
set_option maxRecDepth 100000 in
set_option maxHeartbeats 4000000 in
theorem rg_wsX3_text__r5 : GoodIn rf_tbl wsX3_text__r5 := goodIn_sub (by decide +kernel) (by decide +kernel)
set_option maxRecDepth 100000 in
set_option maxHeartbeats 4000000 in
theorem rg_wsX3_text__r6 : GoodIn rf_tbl wsX3_text__r6 := goodIn_sub (by decide +kernel) (by decide +kernel)
set_option maxRecDepth 100000 in
set_option maxHeartbeats 4000000 in
theorem rg_wsX3_text__r7 : GoodIn rf_tbl wsX3_text__r7 := goodIn_sub (by decide +kernel) (by decide +kernel)
set_option maxRecDepth 100000 in
set_option maxHeartbeats 4000000 in
theorem rg_wsX3_text__r8 : GoodIn rf_tbl wsX3_text__r8 := goodIn_sub (by decide +kernel) (by decide +kernel)
set_option maxRecDepth 100000 in
set_option maxHeartbeats 4000000 in
theorem rg_wsX3_text__r9 : GoodIn rf_tbl wsX3_text__r9 := goodIn_sub (by decide +kernel) (by decide +kernel)
set_option maxRecDepth 100000 in
set_option maxHeartbeats 4000000 in
theorem rg_wsX3_text__r10 : GoodIn rf_tbl wsX3_text__r10 := goodIn_sub (by decide +kernel) (by decide +kernel)
set_option maxRecDepth 100000 in
set_option maxHeartbeats 4000000 in
theorem rg_wsX3_text__r11 : GoodIn rf_tbl wsX3_text__r11 := goodIn_sub (by decide +kernel) (by decide +kernel)
set_option maxRecDepth 100000 in
set_option maxHeartbeats 4000000 in
theorem rg_wsX30 : GoodIn rf_tbl wsX30 := goodIn_sub (by decide +kernel) (by decide +kernel)
set_option maxRecDepth 100000 in
set_option maxHeartbeats 4000000 in
theorem rg_wsJ40 : GoodIn rf_tbl wsJ40 := goodIn_sub (by decide +kernel) (by decide +kernel)
set_option maxRecDepth 100000 in
set_option maxHeartbeats 4000000 in
theorem rg_wsJ00 : GoodIn rf_tbl wsJ00 := goodIn_sub (by decide +kernel) (by decide +kernel)
set_option maxRecDepth 100000 in
set_option maxHeartbeats 4000000 in
theorem rg_X3t0 : GoodIn rf_tbl ([.methodLink RL 278 yX3_text_, .instanceMethod yX3_text_, .selects RX3 yX3_text_ yX3_text_, .initialized RX3] ++ [.code yX3_text_ cX3_text_ 2 (some (.object "java/lang/String"))]) := goodIn_sub (by decide +kernel) (by decide +kernel)
theorem rgL_law_X3_text_ : GoodIn rf_tbl (wsV RL 278 RX3 yX3_text_ wsX3_text_) := by
  have h := goodIn_app rg_X3t0 (goodIn_app (goodIn_app (goodIn_app (goodIn_app rg_wsX3_text__r1 (goodIn_app rg_wsX3_text__r2 (goodIn_app rg_wsX3_text__r3 (goodIn_app rg_wsX3_text__r4 (goodIn_app rg_wsX3_text__r5 (goodIn_app rg_wsX3_text__r6 (goodIn_app rg_wsX3_text__r7 (goodIn_app rg_wsX3_text__r8 (goodIn_app rg_wsX3_text__r9 (goodIn_app rg_wsX3_text__r10 rg_wsX3_text__r11)))))))))) rg_wsX30) rg_wsJ40) rg_wsJ00)
  intro w hw
  refine h w ?_
  simpa [wsV, wsX3_text_] using hw
end
section
/-- the script: setLength(0, 200), then text(0) 511 times -/
def sc : Nat → Int32 := fun j => if j = 0 then nI 18 else if j = 2 then nI 200 else if j % 5 = 0 then nI 28 else nI 0
theorem sc_28 (k : Nat) (hk : k < 511) : sc (nI (5 * (k + 1))).toNatClampNeg = nI 28 := by
  rw [nI_clamp (by omega)]
  unfold sc
  rw [if_neg (by omega), if_neg (by omega), if_pos (by omega)]
theorem sc_0 (k : Nat) (hk : k < 511) : sc (nI (5 * (k + 1) + 1)).toNatClampNeg = nI 0 := by
  rw [nI_clamp (by omega)]
  unfold sc
  rw [if_neg (by omega), if_neg (by omega), if_neg (by omega)]
abbrev rf_room : Room := { frames := 2048, cells := 1000000, slots := 400000000, locals := 84000 }
def rf_sum (lo : Nat) (H : Heap) : Nat := ((H.toList.drop lo).map (fun c : Cell => c.slots.size)).sum
def rf_Z (below : List Frame) (s : State) : State → Prop := fun t => ∃ o, t.status = .running ∧ Ended t below o ∧ 6700000 < rf_sum s.heap.size t.heap
theorem rf_lo {A : Nat → Prop} {X G : va_W} {lo e5 kb : Nat} {x5 xk : va_E} (hD : va_D A (X ++ G)) (i5 ik : Nat) (h5 : X[i5]? = some (e5, x5)) (hk : X[ik]? = some (kb, xk)) (hA : ∀ q, A q → q = e5 ∨ q = kb ∨ lo ≤ q) : ∀ q ∈ G, lo ≤ q.1 := by
  intro q hq
  obtain ⟨j, hj⟩ := List.getElem?_of_mem hq
  have hl5 : i5 < X.length := (List.getElem?_eq_some_iff.mp h5).1
  have hlk : ik < X.length := (List.getElem?_eq_some_iff.mp hk).1
  have h1 : (X ++ G)[X.length + j]? = some q := by rw [List.getElem?_append_right (by omega)]; simpa using hj
  rcases hA _ (hD.2 _ _ h1) with e | e | e
  · have := hD.1 (X.length + j) i5 q (e5, x5) h1 (by rw [List.getElem?_append_left hl5]; exact h5) e
    omega
  · have := hD.1 (X.length + j) ik q (kb, xk) h1 (by rw [List.getElem?_append_left hlk]; exact hk) e
    omega
  · exact e
theorem rf_ret {p : Program} {l : Launch} {e : Env} {R : Room} {s : State} {m : MethodId} {args : Array Value} {below : List Frame} {meth : Method} {c : Code} {locs : List Loc} {cells slots : Nat} (hx : p.tables.exec = Jvm.exec) (hb : c.code = code) (hr : meth.sig.returnType = ret) (hlocks : meth.locks = false) {pc : Nat} {H : Heap} {ls : Array Slot} (hdg : decode code pc = .ok (.ireturn, 1)) (hbig : 6700000 < rf_sum s.heap.size H) : W p l e R s m args below meth c H locs cells slots (rf_Z below s) (F0 m pc ls [.int 1]) := by
  intro T hT X
  obtain ⟨fs, hret, hrun, hended, hW, hframe⟩ := X.leave (v := some (.int 1)) (hlocks := hlocks) (fun h => by rw [hr] at h; cases h)
  have hmeth' : T.vm.method? m = some meth := X.method'
  refine ⟨T.setFrames fs, ?_, .returned (some (.int 1)), hrun, hended, by show 6700000 < rf_sum s.heap.size T.heap; rw [hT]; exact hbig⟩
  jvm_step X.here [X.here.top, hx, hb, hdg, hmeth', hr, ret, narrow_b1]
  (try refine ⟨rfl, ?_⟩); (try refine ⟨rfl, ?_⟩)
  first | (intro acts; rw [hret _ acts rfl rfl rfl]) | rw [hret _ _ rfl rfl rfl]
  exact Steps.refl _
set_option maxHeartbeats 16000000 in
set_option maxRecDepth 100000 in
/-- the law on this script ends, and more than 6,700,000 fields and elements are new -/
theorem law_walk {p : Program} {e : Env} {s : State} {mI : MethodId} {below : List Frame} {meth : Method} {c : Code} (l : Launch) (D : va_G) (E : Nat → ClassId) {b kb : Nat} {kh kz : Value} {A : Nat → Prop}
    (hx : p.tables.exec = Jvm.exec) (hb : c.code = code) (hr : meth.sig.returnType = ret) (hml : c.maxLocals = 7) (hown : s.vm.findClass RL = some mI.cls) (hts : ∀ w ∈ rf_tbl, w.before #[Value.ref b] s = true) (hlocks : meth.locks = false)
    (hX : va_X b 2560 sc s s.heap) (hbl : b < s.heap.size) (hbA : ¬ A b) (hA : ∀ q : Nat, s.heap.size ≤ q → A q) (hAd : ∀ q : Nat, A q → q = E 5 ∨ q = kb ∨ s.heap.size ≤ q)
    (hK : va_K D vwCl (rf_T E) s) (hP : va_P D vwCl [((E 5), .inr (0, [.ref kb, .int 0, kh, kz])), (kb, .inl (E 0, 0, .inl z0))] s.heap) (hD : va_D A [((E 5), .inr (0, [.ref kb, .int 0, kh, kz])), (kb, .inl (E 0, 0, .inl z0))])
    (hZ : va_Z "java/lang/String" "COMPACT_STRINGS" "Z" (.int 1) A s s.heap) (hN : rf_N E s) (hM2 : va_Nw (.methodLinkNest RL 182 yX2_init RL) s) :
    W p l e rf_room s mI #[Value.ref b] below meth c s.heap [] 0 0 (rf_Z below s) (entryFrame mI ([Value.ref b] : List Value).toArray 7) := by
  have hS : va_S A s.heap s.heap [] := va_S.rf
  have h199 : rf_tri (199 + 1) = 19900 := by decide +kernel
  have hl := lv_entry ([.ref b]) (n := 7) (Nat.le_of_ble_eq_true rfl)
  rw [lg_entry_eq]
  generalize (lg_sl ([.ref b]) ++ List.replicate (7 - (lg_sl ([.ref b])).length) Slot.unset).toArray = ls at hl ⊢
  have hl : lv_has ls 7 [(0, .ref b)] := hl
  obtain ⟨H, hH⟩ : ∃ H, H = s.heap := ⟨_, rfl⟩
  rw [← hH] at hP
  have hS : va_S A s.heap H [] := by rw [hH]; exact hS
  refine rf_heap hH ?_
  have h_1 : 0 + 1 ≤ 1000000 := by omega
  have h_2 : 0 + 7 ≤ 400000000 := by omega
  refine va_new (ci := 3) (fs := [.null, .null, .null, .null, .int 0, .int 0, .int 0]) (C := RX1) (T := TX1) (N := 7) hx hb hts (by decide +kernel) tyX1 tyX1_ok hown (hts (.classLink RL 8 RX1) (by decide +kernel)) (hts (.instantiable RX1 7) (by decide +kernel)) (hts (.initialized RX1) (by decide +kernel)) hK hP hD hS hA rfl (fun j hj => by rcases (show j = 0 ∨ j = 1 ∨ j = 2 ∨ j = 3 ∨ j = 4 ∨ j = 5 ∨ j = 6 by omega) with rfl | rfl | rfl | rfl | rfl | rfl | rfl <;> rfl) h_1 h_2 dL_law_0 (fun x0 H hP hD hS => ?_)
  have hP : va_P D vwCl [((E 5), .inr (0, [.ref kb, .int 0, kh, kz])), (kb, .inl (E 0, 0, .inl z0)), (x0, .inr (3, [.null, .null, .null, .null, .int 0, .int 0, .int 0]))] H := hP
  have hD : va_D A [((E 5), .inr (0, [.ref kb, .int 0, kh, kz])), (kb, .inl (E 0, 0, .inl z0)), (x0, .inr (3, [.null, .null, .null, .null, .int 0, .int 0, .int 0]))] := hD
  refine W.widen (k := 1) (n := 7) (by omega) (by omega) ?_
  refine lv_dup hx hb dL_law_3 rfl ?_
  have hPc := hP.sub (ws' := [(x0, .inr (3, [.null, .null, .null, .null, .int 0, .int 0, .int 0]))]) [2] rfl
  have hDc := hD.sub (ws' := [(x0, .inr (3, [.null, .null, .null, .null, .int 0, .int 0, .int 0]))]) [2] (by decide) rfl
  have hFc := va_free (wc := [(x0, .inr (3, [.null, .null, .null, .null, .int 0, .int 0, .int 0]))]) hD hS hA [2] rfl
  have h_1 : 1 + 20 ≤ 1000000 := by omega
  have h_2 : 7 + 3000 ≤ 400000000 := by omega
  refine va_callv (va_runI (As := []) (rest := [.ref x0]) ⟨hx, hb, hml, hown, hts⟩ (c_X1_init l D E H.size (x0)) (cwI 0 hts rgL_law_X1_init rfl rfl rfl (hts (.initialized RX1) (by decide +kernel)) (hts (.methodLink RL 178 yX1_init) (by decide +kernel)) (hts (.instanceMethod yX1_init) (by decide +kernel)) rfl (by decide +kernel) ⟨Nat.le_of_ble_eq_true rfl, Nat.le_of_ble_eq_true rfl⟩) ⟨rf_blind _, fun U hU hW => ⟨rfl, rf_pre hK hPc hDc hZ hN hS hFc U hU hW⟩⟩ rfl rfl hl.1 rfl (lv_room (Nat.le_of_ble_eq_true rfl)) dL_law_4 ⟨h_1, h_2⟩) hS (fun q _ h => hFc q h) hFc (fun ux t H1 locs ht hvm hw hB hz1 hk1 hS => ?_)
  obtain ⟨t0, r0, g0, f, p1, p2, p3⟩ := ux
  obtain ⟨hP1, hD1⟩ := hB
  rw [ht] at hP1
  try dsimp only at hw hP1 hD1
  have hf : f 0 = some r0 := hw
  obtain ⟨hP, hD⟩ := va_join (wr := [((E 5), .inr (0, [.ref kb, .int 0, kh, kz])), (kb, .inl (E 0, 0, .inl z0))]) (w1 := [(x0, .inr (3, [.ref t0, p1, p2, p3, .int 0, .int 0, .int 0])), (t0, .inl (E 3, 4, .inr (.inr (.inr (.inr f))))), (r0, .inr (2, [.ref g0, .int (nI (0))])), (g0, .inl (E 2, 256, .inl z0))]) hP hD [2] [0, 1] rfl rfl (by decide) (by decide) hk1 hFc hP1 hD1
  clear hPc hDc hFc hP1 hD1 hk1 hz1 ht
  generalize H1 = H at hP hS ⊢
  have hP : va_P D vwCl [((E 5), .inr (0, [.ref kb, .int 0, kh, kz])), (kb, .inl (E 0, 0, .inl z0)), (x0, .inr (3, [.ref t0, p1, p2, p3, .int 0, .int 0, .int 0])), (t0, .inl (E 3, 4, .inr (.inr (.inr (.inr f))))), (r0, .inr (2, [.ref g0, .int (nI (0))])), (g0, .inl (E 2, 256, .inl z0))] H := hP
  have hD : va_D A [((E 5), .inr (0, [.ref kb, .int 0, kh, kz])), (kb, .inl (E 0, 0, .inl z0)), (x0, .inr (3, [.ref t0, p1, p2, p3, .int 0, .int 0, .int 0])), (t0, .inl (E 3, 4, .inr (.inr (.inr (.inr f))))), (r0, .inr (2, [.ref g0, .int (nI (0))])), (g0, .inl (E 2, 256, .inl z0))] := hD
  refine W.widen (k := 21) (n := 3007) (by omega) (by omega) ?_
  refine lv_astore_n hx hb dL_law_7 rfl hl (Nat.le_of_ble_eq_true rfl) rfl (fun ls hl => ?_)
  have hl : lv_has ls 7 [(1, .ref x0), (0, .ref b)] := hl
  have h_1 : 21 + 1 ≤ 1000000 := by omega
  have h_2 : 3007 + 6 ≤ 400000000 := by omega
  refine va_new (ci := 5) (fs := [.int 0, .null, .null, .int 0, .int 0, .int 0]) (C := RX3) (T := TX3) (N := 6) hx hb hts (by decide +kernel) tyX3 tyX3_ok hown (hts (.classLink RL 179 RX3) (by decide +kernel)) (hts (.instantiable RX3 6) (by decide +kernel)) (hts (.initialized RX3) (by decide +kernel)) hK hP hD hS hA rfl (fun j hj => by rcases (show j = 0 ∨ j = 1 ∨ j = 2 ∨ j = 3 ∨ j = 4 ∨ j = 5 by omega) with rfl | rfl | rfl | rfl | rfl | rfl <;> rfl) h_1 h_2 dL_law_8 (fun m0 H hP hD hS => ?_)
  have hP : va_P D vwCl [((E 5), .inr (0, [.ref kb, .int 0, kh, kz])), (kb, .inl (E 0, 0, .inl z0)), (x0, .inr (3, [.ref t0, p1, p2, p3, .int 0, .int 0, .int 0])), (t0, .inl (E 3, 4, .inr (.inr (.inr (.inr f))))), (r0, .inr (2, [.ref g0, .int (nI (0))])), (g0, .inl (E 2, 256, .inl z0)), (m0, .inr (5, [.int 0, .null, .null, .int 0, .int 0, .int 0]))] H := hP
  have hD : va_D A [((E 5), .inr (0, [.ref kb, .int 0, kh, kz])), (kb, .inl (E 0, 0, .inl z0)), (x0, .inr (3, [.ref t0, p1, p2, p3, .int 0, .int 0, .int 0])), (t0, .inl (E 3, 4, .inr (.inr (.inr (.inr f))))), (r0, .inr (2, [.ref g0, .int (nI (0))])), (g0, .inl (E 2, 256, .inl z0)), (m0, .inr (5, [.int 0, .null, .null, .int 0, .int 0, .int 0]))] := hD
  refine W.widen (k := 22) (n := 3013) (by omega) (by omega) ?_
  refine lv_dup hx hb dL_law_11 rfl ?_
  have hPc := hP.sub (ws' := [(m0, .inr (5, [.int 0, .null, .null, .int 0, .int 0, .int 0]))]) [6] rfl
  have hDc := hD.sub (ws' := [(m0, .inr (5, [.int 0, .null, .null, .int 0, .int 0, .int 0]))]) [6] (by decide) rfl
  have hFc := va_free (wc := [(m0, .inr (5, [.int 0, .null, .null, .int 0, .int 0, .int 0]))]) hD hS hA [6] rfl
  have h_1 : 22 + 6 ≤ 1000000 := by omega
  have h_2 : 3013 + 4 ≤ 400000000 := by omega
  refine va_callv (va_runI (As := []) (rest := [.ref m0]) ⟨hx, hb, hml, hown, hts⟩ (c_X3_init l D E H.size (m0)) (cwI 0 hts rgL_law_X3_init rfl rfl rfl (hts (.initialized RX3) (by decide +kernel)) (hts (.methodLink RL 181 yX3_init) (by decide +kernel)) (hts (.instanceMethod yX3_init) (by decide +kernel)) rfl (by decide +kernel) ⟨Nat.le_of_ble_eq_true rfl, Nat.le_of_ble_eq_true rfl⟩) ⟨rf_blind _, fun U hU hW => ⟨rfl, rf_pre hK hPc hDc hZ hN hS hFc U hU hW⟩⟩ rfl rfl hl.1 rfl (lv_room (Nat.le_of_ble_eq_true rfl)) dL_law_12 ⟨h_1, h_2⟩) hS (fun q _ h => hFc q h) hFc (fun um t H1 locs ht hvm hw hB hz1 hk1 hS => ?_)
  obtain ⟨t1, y0, f1, pq⟩ := um
  obtain ⟨hP1, hD1⟩ := hB
  rw [ht] at hP1
  try dsimp only at hw hP1 hD1
  have hf1 : f1 0 = some y0 := hw
  obtain ⟨hP, hD⟩ := va_join (wr := [((E 5), .inr (0, [.ref kb, .int 0, kh, kz])), (kb, .inl (E 0, 0, .inl z0)), (x0, .inr (3, [.ref t0, p1, p2, p3, .int 0, .int 0, .int 0])), (t0, .inl (E 3, 4, .inr (.inr (.inr (.inr f))))), (r0, .inr (2, [.ref g0, .int (nI (0))])), (g0, .inl (E 2, 256, .inl z0))]) (w1 := [(m0, .inr (5, [.int 0, .ref t1, pq, .int 0, .int 0, .int 0])), (t1, .inl (E 4, 4, .inr (.inr (.inr (.inr f1))))), (y0, .inl (E 2, 0, .inl z0))]) hP hD [6] [0, 1, 2, 3, 4, 5] rfl rfl (by decide) (by decide) hk1 hFc hP1 hD1
  clear hPc hDc hFc hP1 hD1 hk1 hz1 ht
  generalize H1 = H at hP hS ⊢
  have hP : va_P D vwCl [((E 5), .inr (0, [.ref kb, .int 0, kh, kz])), (kb, .inl (E 0, 0, .inl z0)), (x0, .inr (3, [.ref t0, p1, p2, p3, .int 0, .int 0, .int 0])), (t0, .inl (E 3, 4, .inr (.inr (.inr (.inr f))))), (r0, .inr (2, [.ref g0, .int (nI (0))])), (g0, .inl (E 2, 256, .inl z0)), (m0, .inr (5, [.int 0, .ref t1, pq, .int 0, .int 0, .int 0])), (t1, .inl (E 4, 4, .inr (.inr (.inr (.inr f1))))), (y0, .inl (E 2, 0, .inl z0))] H := hP
  have hD : va_D A [((E 5), .inr (0, [.ref kb, .int 0, kh, kz])), (kb, .inl (E 0, 0, .inl z0)), (x0, .inr (3, [.ref t0, p1, p2, p3, .int 0, .int 0, .int 0])), (t0, .inl (E 3, 4, .inr (.inr (.inr (.inr f))))), (r0, .inr (2, [.ref g0, .int (nI (0))])), (g0, .inl (E 2, 256, .inl z0)), (m0, .inr (5, [.int 0, .ref t1, pq, .int 0, .int 0, .int 0])), (t1, .inl (E 4, 4, .inr (.inr (.inr (.inr f1))))), (y0, .inl (E 2, 0, .inl z0))] := hD
  refine W.widen (k := 28) (n := 3017) (by omega) (by omega) ?_
  refine lv_astore_n hx hb dL_law_15 rfl hl (Nat.le_of_ble_eq_true rfl) rfl (fun ls hl => ?_)
  have hl : lv_has ls 7 [(2, .ref m0), (1, .ref x0), (0, .ref b)] := hl
  have h_1 : 28 + 1 ≤ 1000000 := by omega
  have h_2 : 3017 + 2 ≤ 400000000 := by omega
  refine va_new (ci := 4) (fs := [.long 0, .null]) (C := RX2) (T := TX2) (N := 2) hx hb hts (by decide +kernel) tyX2 tyX2_ok hown (hts (.classLink RL 14 RX2) (by decide +kernel)) (hts (.instantiable RX2 2) (by decide +kernel)) (hts (.initialized RX2) (by decide +kernel)) hK hP hD hS hA rfl (fun j hj => by rcases (show j = 0 ∨ j = 1 by omega) with rfl | rfl <;> rfl) h_1 h_2 dL_law_16 (fun o0 H hP hD hS => ?_)
  have hP : va_P D vwCl [((E 5), .inr (0, [.ref kb, .int 0, kh, kz])), (kb, .inl (E 0, 0, .inl z0)), (x0, .inr (3, [.ref t0, p1, p2, p3, .int 0, .int 0, .int 0])), (t0, .inl (E 3, 4, .inr (.inr (.inr (.inr f))))), (r0, .inr (2, [.ref g0, .int (nI (0))])), (g0, .inl (E 2, 256, .inl z0)), (m0, .inr (5, [.int 0, .ref t1, pq, .int 0, .int 0, .int 0])), (t1, .inl (E 4, 4, .inr (.inr (.inr (.inr f1))))), (y0, .inl (E 2, 0, .inl z0)), (o0, .inr (4, [.long 0, .null]))] H := hP
  have hD : va_D A [((E 5), .inr (0, [.ref kb, .int 0, kh, kz])), (kb, .inl (E 0, 0, .inl z0)), (x0, .inr (3, [.ref t0, p1, p2, p3, .int 0, .int 0, .int 0])), (t0, .inl (E 3, 4, .inr (.inr (.inr (.inr f))))), (r0, .inr (2, [.ref g0, .int (nI (0))])), (g0, .inl (E 2, 256, .inl z0)), (m0, .inr (5, [.int 0, .ref t1, pq, .int 0, .int 0, .int 0])), (t1, .inl (E 4, 4, .inr (.inr (.inr (.inr f1))))), (y0, .inl (E 2, 0, .inl z0)), (o0, .inr (4, [.long 0, .null]))] := hD
  refine W.widen (k := 29) (n := 3019) (by omega) (by omega) ?_
  refine lv_dup hx hb dL_law_19 rfl ?_
  have hPc := hP.sub (ws' := [(o0, .inr (4, [.long 0, .null]))]) [9] rfl
  have hDc := hD.sub (ws' := [(o0, .inr (4, [.long 0, .null]))]) [9] (by decide) rfl
  have hFc := va_free (wc := [(o0, .inr (4, [.long 0, .null]))]) hD hS hA [9] rfl
  have h_1 : 29 + 0 ≤ 1000000 := by omega
  have h_2 : 3019 + 0 ≤ 400000000 := by omega
  refine va_callv (va_runIN (As := []) (rest := [.ref o0]) ⟨hx, hb, hml, hown, hts⟩ (c_X2_init l D E H.size (o0)) ⟨va_cnB 0 hts rgL_law_X2_init_n182 rfl rfl rfl hM2 (hts (.initialized RX2) (by decide +kernel)) (by decide +kernel) ⟨Nat.le_of_ble_eq_true rfl, Nat.le_of_ble_eq_true rfl⟩, rfl, hts (.instanceMethod yX2_init) (by decide +kernel)⟩ ⟨rf_blind _, fun U hU hW => ⟨rfl, rf_pre hK hPc hDc hZ hN hS hFc U hU hW⟩⟩ rfl rfl hl.1 rfl (lv_room (Nat.le_of_ble_eq_true rfl)) dL_law_20 ⟨h_1, h_2⟩) hS (fun q _ h => hFc q h) hFc (fun u t H1 locs ht hvm hw hB hz1 hk1 hS => ?_)
  obtain ⟨hP1, hD1⟩ := hB
  rw [ht] at hP1
  try dsimp only at hw hP1 hD1
  obtain ⟨hP, hD⟩ := va_join (wr := [((E 5), .inr (0, [.ref kb, .int 0, kh, kz])), (kb, .inl (E 0, 0, .inl z0)), (x0, .inr (3, [.ref t0, p1, p2, p3, .int 0, .int 0, .int 0])), (t0, .inl (E 3, 4, .inr (.inr (.inr (.inr f))))), (r0, .inr (2, [.ref g0, .int (nI (0))])), (g0, .inl (E 2, 256, .inl z0)), (m0, .inr (5, [.int 0, .ref t1, pq, .int 0, .int 0, .int 0])), (t1, .inl (E 4, 4, .inr (.inr (.inr (.inr f1))))), (y0, .inl (E 2, 0, .inl z0))]) (w1 := [(o0, .inr (4, [.long 0, .null]))]) hP hD [9] [0, 1, 2, 3, 4, 5, 6, 7, 8] rfl rfl (by decide) (by decide) hk1 hFc hP1 hD1
  clear hPc hDc hFc hP1 hD1 hk1 hz1 ht
  generalize H1 = H at hP hS ⊢
  have hP : va_P D vwCl [((E 5), .inr (0, [.ref kb, .int 0, kh, kz])), (kb, .inl (E 0, 0, .inl z0)), (x0, .inr (3, [.ref t0, p1, p2, p3, .int 0, .int 0, .int 0])), (t0, .inl (E 3, 4, .inr (.inr (.inr (.inr f))))), (r0, .inr (2, [.ref g0, .int (nI (0))])), (g0, .inl (E 2, 256, .inl z0)), (m0, .inr (5, [.int 0, .ref t1, pq, .int 0, .int 0, .int 0])), (t1, .inl (E 4, 4, .inr (.inr (.inr (.inr f1))))), (y0, .inl (E 2, 0, .inl z0)), (o0, .inr (4, [.long 0, .null]))] H := hP
  have hD : va_D A [((E 5), .inr (0, [.ref kb, .int 0, kh, kz])), (kb, .inl (E 0, 0, .inl z0)), (x0, .inr (3, [.ref t0, p1, p2, p3, .int 0, .int 0, .int 0])), (t0, .inl (E 3, 4, .inr (.inr (.inr (.inr f))))), (r0, .inr (2, [.ref g0, .int (nI (0))])), (g0, .inl (E 2, 256, .inl z0)), (m0, .inr (5, [.int 0, .ref t1, pq, .int 0, .int 0, .int 0])), (t1, .inl (E 4, 4, .inr (.inr (.inr (.inr f1))))), (y0, .inl (E 2, 0, .inl z0)), (o0, .inr (4, [.long 0, .null]))] := hD
  refine lv_astore_n hx hb dL_law_23 rfl hl (Nat.le_of_ble_eq_true rfl) rfl (fun ls hl => ?_)
  have hl : lv_has ls 7 [(3, .ref o0), (2, .ref m0), (1, .ref x0), (0, .ref b)] := hl
  refine lv_iconst (v := nI 0) hx hb dL_law_24 (by decide) ?_
  refine lv_istore hx hb dL_law_25 hl (Nat.le_of_ble_eq_true rfl) rfl (fun ls hl => ?_)
  have hl : lv_has ls 7 [(4, .int (nI 0)), (3, .ref o0), (2, .ref m0), (1, .ref x0), (0, .ref b)] := hl
  refine lv_iload hx hb dL_law_27 (lv_at hl 0 rfl) ?_
  refine lv_aload_n hx hb dL_law_29 rfl (lv_at hl 4 rfl) ?_
  refine va_slen hx hb hX hbl hbA hS dL_law_30 (W.eq (g2 := F0 mI 31 ls (.int (nI 2560) :: [.int (nI 0)])) rfl ?_)
  refine lv_iconst (v := nI 5) hx hb dL_law_31 (by decide) ?_
  refine lv_isub hx hb dL_law_32 (lv_topi (fun f1 ef => ?_))
  obtain rfl : f1 = nI (2555) := (show f1 = nI (2560) - nI (5) from ef).trans ((pk_sub (by omega)).trans (congrArg nI (by omega)))
  refine lv_icmp_gt (tgt := 2354) hx hb dL_law_33 rfl (fun h => absurd h (by decide)) (fun _ => ?_)
  refine lv_aload_n hx hb dL_law_36 rfl (lv_at hl 4 rfl) ?_
  refine lv_iload hx hb dL_law_37 (lv_at hl 0 rfl) ?_
  refine va_sld hx hb hX hbl hbA hS (vp_in_nI (by omega) (by omega)) dL_law_39 (W.eq (g2 := F0 mI 40 ls (.int (nI 18) :: [])) (congrArg (fun z => F0 mI 40 ls (.int z :: [])) (show sc (nI 0).toNatClampNeg = nI 18 by decide)) ?_)
  refine lv_bipush (v := nI 63) hx hb dL_law_40 (by decide) ?_
  refine lv_iand hx hb dL_law_42 (lv_topi (fun f2 ef => ?_))
  obtain rfl : f2 = nI 18 := ef.trans (by decide)
  refine lv_tableIn (tgt := 1192) (off := 1149) hx hb dL_law_43 (by decide) (by decide) (by decide) rfl ?_
  refine lv_aload_n hx hb dL_law_1192 rfl (lv_at hl 3 rfl) ?_
  refine lv_aload_n hx hb dL_law_1193 rfl (lv_at hl 4 rfl) ?_
  refine lv_iload hx hb dL_law_1194 (lv_at hl 0 rfl) ?_
  refine lv_iconst (v := nI 1) hx hb dL_law_1196 (by decide) ?_
  refine lv_iadd hx hb dL_law_1197 (lv_topi (fun f3 ef => ?_))
  obtain rfl : f3 = nI (1) := (show f3 = nI (0) + nI (1) from ef).trans ((nI_add _ _).trans (congrArg nI (by omega)))
  refine va_sld hx hb hX hbl hbA hS (vp_in_nI (by omega) (by omega)) dL_law_1198 (W.eq (g2 := F0 mI 1199 ls (.int (nI 0) :: [.ref x0])) (congrArg (fun z => F0 mI 1199 ls (.int z :: [.ref x0])) (show sc (nI 1).toNatClampNeg = nI 0 by decide)) ?_)
  refine lv_aload_n hx hb dL_law_1199 rfl (lv_at hl 4 rfl) ?_
  refine lv_iload hx hb dL_law_1200 (lv_at hl 0 rfl) ?_
  refine lv_iconst (v := nI 2) hx hb dL_law_1202 (by decide) ?_
  refine lv_iadd hx hb dL_law_1203 (lv_topi (fun f4 ef => ?_))
  obtain rfl : f4 = nI (2) := (show f4 = nI (0) + nI (2) from ef).trans ((nI_add _ _).trans (congrArg nI (by omega)))
  refine va_sld hx hb hX hbl hbA hS (vp_in_nI (by omega) (by omega)) dL_law_1204 (W.eq (g2 := F0 mI 1205 ls (.int (nI 200) :: [.int (nI 0), .ref x0])) (congrArg (fun z => F0 mI 1205 ls (.int z :: [.int (nI 0), .ref x0])) (show sc (nI 2).toNatClampNeg = nI 200 by decide)) ?_)
  refine lv_aload_n hx hb dL_law_1205 rfl (lv_at hl 1 rfl) ?_
  have hPc := hP.sub (ws' := [(x0, .inr (3, [.ref t0, p1, p2, p3, .int 0, .int 0, .int 0])), (t0, .inl (E 3, 4, .inr (.inr (.inr (.inr f))))), (r0, .inr (2, [.ref g0, .int (nI (0))])), (g0, .inl (E 2, 256, .inl z0)), (o0, .inr (4, [.long 0, .null]))]) [2, 3, 4, 5, 9] rfl
  have hDc := hD.sub (ws' := [(x0, .inr (3, [.ref t0, p1, p2, p3, .int 0, .int 0, .int 0])), (t0, .inl (E 3, 4, .inr (.inr (.inr (.inr f))))), (r0, .inr (2, [.ref g0, .int (nI (0))])), (g0, .inl (E 2, 256, .inl z0)), (o0, .inr (4, [.long 0, .null]))]) [2, 3, 4, 5, 9] (by decide) rfl
  have hFc := va_free (wc := [(x0, .inr (3, [.ref t0, p1, p2, p3, .int 0, .int 0, .int 0])), (t0, .inl (E 3, 4, .inr (.inr (.inr (.inr f))))), (r0, .inr (2, [.ref g0, .int (nI (0))])), (g0, .inl (E 2, 256, .inl z0)), (o0, .inr (4, [.long 0, .null]))]) hD hS hA [2, 3, 4, 5, 9] rfl
  have h_1 : 29 + 0 ≤ 1000000 := by omega
  have h_2 : 3019 + 0 ≤ 400000000 := by omega
  refine va_calli (vx_runSW (As := [.ref x0, .int (nI 0), .int (nI 200), .ref o0]) (rest := []) ⟨hx, hb, hml, hown, hts⟩ (c_L_setLength l D E H.size (x0) (t0) (r0) (g0) (o0) (200) (f) (.long 0) (.null) (p1) (p2) (p3) (.int 0) (.int 0) (.int 0) (hf) (by omega)) (vx_cwSW 4 hts rgL_law_L_setLength rfl rfl rfl (by decide +kernel) ⟨Nat.le_of_ble_eq_true rfl, Nat.le_of_ble_eq_true rfl⟩) ⟨rf_blind _, fun U hU hW => ⟨rfl, rf_pre hK hPc hDc hZ hN hS hFc U hU hW⟩⟩ rfl rfl hl.1 rfl (lv_room (Nat.le_of_ble_eq_true rfl)) dL_law_1206 ⟨h_1, h_2⟩) hS (fun q _ h => hFc q h) hFc (fun r u t H1 locs ht hvm hw hB hz1 hk1 hS => ?_)
  obtain ⟨hP1, hD1⟩ := hB
  rw [ht] at hP1
  try dsimp only at hw hP1 hD1
  obtain rfl := hw
  obtain ⟨hP, hD⟩ := va_join (wr := [((E 5), .inr (0, [.ref kb, .int 0, kh, kz])), (kb, .inl (E 0, 0, .inl z0)), (m0, .inr (5, [.int 0, .ref t1, pq, .int 0, .int 0, .int 0])), (t1, .inl (E 4, 4, .inr (.inr (.inr (.inr f1))))), (y0, .inl (E 2, 0, .inl z0))]) (w1 := [(x0, .inr (3, [.ref t0, p1, p2, p3, .int 0, .int 0, .int 0])), (t0, .inl (E 3, 4, .inr (.inr (.inr (.inr f))))), (r0, .inr (2, [.ref g0, .int (nI (200))])), (g0, .inl (E 2, 256, .inl z0)), (o0, .inr (4, [.long (lN 0), .null]))]) hP hD [2, 3, 4, 5, 9] [0, 1, 6, 7, 8] rfl rfl (by decide) (by decide) hk1 hFc hP1 hD1
  clear hPc hDc hFc hP1 hD1 hk1 hz1 ht
  generalize H1 = H at hP hS ⊢
  have hP : va_P D vwCl [((E 5), .inr (0, [.ref kb, .int 0, kh, kz])), (kb, .inl (E 0, 0, .inl z0)), (m0, .inr (5, [.int 0, .ref t1, pq, .int 0, .int 0, .int 0])), (t1, .inl (E 4, 4, .inr (.inr (.inr (.inr f1))))), (y0, .inl (E 2, 0, .inl z0)), (x0, .inr (3, [.ref t0, p1, p2, p3, .int 0, .int 0, .int 0])), (t0, .inl (E 3, 4, .inr (.inr (.inr (.inr f))))), (r0, .inr (2, [.ref g0, .int (nI (200))])), (g0, .inl (E 2, 256, .inl z0)), (o0, .inr (4, [.long (lN 0), .null]))] H := hP
  have hD : va_D A [((E 5), .inr (0, [.ref kb, .int 0, kh, kz])), (kb, .inl (E 0, 0, .inl z0)), (m0, .inr (5, [.int 0, .ref t1, pq, .int 0, .int 0, .int 0])), (t1, .inl (E 4, 4, .inr (.inr (.inr (.inr f1))))), (y0, .inl (E 2, 0, .inl z0)), (x0, .inr (3, [.ref t0, p1, p2, p3, .int 0, .int 0, .int 0])), (t0, .inl (E 3, 4, .inr (.inr (.inr (.inr f))))), (r0, .inr (2, [.ref g0, .int (nI (200))])), (g0, .inl (E 2, 256, .inl z0)), (o0, .inr (4, [.long (lN 0), .null]))] := hD
  refine lv_istore hx hb dL_law_1209 hl (Nat.le_of_ble_eq_true rfl) rfl (fun ls hl => ?_)
  have hl : lv_has ls 7 [(5, .int (0)), (4, .int (nI 0)), (3, .ref o0), (2, .ref m0), (1, .ref x0), (0, .ref b)] := hl
  refine lv_aload_n hx hb dL_law_1211 rfl (lv_at hl 3 rfl) ?_
  refine lv_aload_n hx hb dL_law_1212 rfl (lv_at hl 5 rfl) ?_
  refine lv_iload hx hb dL_law_1213 (lv_at hl 1 rfl) ?_
  refine lv_iconst (v := nI 1) hx hb dL_law_1215 (by decide) ?_
  refine lv_iadd hx hb dL_law_1216 (lv_topi (fun f5 ef => ?_))
  obtain rfl : f5 = nI (1) := (show f5 = nI (0) + nI (1) from ef).trans ((nI_add _ _).trans (congrArg nI (by omega)))
  refine va_sld hx hb hX hbl hbA hS (vp_in_nI (by omega) (by omega)) dL_law_1217 (W.eq (g2 := F0 mI 1218 ls (.int (nI 0) :: [.ref m0])) (congrArg (fun z => F0 mI 1218 ls (.int z :: [.ref m0])) (show sc (nI 1).toNatClampNeg = nI 0 by decide)) ?_)
  refine lv_aload_n hx hb dL_law_1218 rfl (lv_at hl 5 rfl) ?_
  refine lv_iload hx hb dL_law_1219 (lv_at hl 1 rfl) ?_
  refine lv_iconst (v := nI 2) hx hb dL_law_1221 (by decide) ?_
  refine lv_iadd hx hb dL_law_1222 (lv_topi (fun f6 ef => ?_))
  obtain rfl : f6 = nI (2) := (show f6 = nI (0) + nI (2) from ef).trans ((nI_add _ _).trans (congrArg nI (by omega)))
  refine va_sld hx hb hX hbl hbA hS (vp_in_nI (by omega) (by omega)) dL_law_1223 (W.eq (g2 := F0 mI 1224 ls (.int (nI 200) :: [.int (nI 0), .ref m0])) (congrArg (fun z => F0 mI 1224 ls (.int z :: [.int (nI 0), .ref m0])) (show sc (nI 2).toNatClampNeg = nI 200 by decide)) ?_)
  have hPc := hP.sub (ws' := [(m0, .inr (5, [.int 0, .ref t1, pq, .int 0, .int 0, .int 0])), (t1, .inl (E 4, 4, .inr (.inr (.inr (.inr f1))))), (y0, .inl (E 2, 0, .inl z0))]) [2, 3, 4] rfl
  have hDc := hD.sub (ws' := [(m0, .inr (5, [.int 0, .ref t1, pq, .int 0, .int 0, .int 0])), (t1, .inl (E 4, 4, .inr (.inr (.inr (.inr f1))))), (y0, .inl (E 2, 0, .inl z0))]) [2, 3, 4] (by decide) rfl
  have hFc := va_free (wc := [(m0, .inr (5, [.int 0, .ref t1, pq, .int 0, .int 0, .int 0])), (t1, .inl (E 4, 4, .inr (.inr (.inr (.inr f1))))), (y0, .inl (E 2, 0, .inl z0))]) hD hS hA [2, 3, 4] rfl
  have h_1 : 29 + 3 ≤ 1000000 := by omega
  have h_2 : 3019 + 600 ≤ 400000000 := by omega
  refine va_calli (va_runV (As := [.int (nI 0), .int (nI 200)]) (rest := []) ⟨hx, hb, hml, hown, hts⟩ (c_X3_setLength l D E H.size (m0) (t1) (y0) (0) (f1) (pq) (.int 0) (.int 0) (.int 0) (hf1)) (cwV 2 hts rgL_law_X3_setLength rfl rfl rfl (by decide +kernel) ⟨Nat.le_of_ble_eq_true rfl, Nat.le_of_ble_eq_true rfl⟩) ⟨rf_blind _, va_recv hK hPc (ci := 5) (q0 := 0) rfl rfl, fun U hU hW => ⟨rfl, rf_pre hK hPc hDc hZ hN hS hFc U hU hW⟩⟩ rfl rfl hl.1 rfl (lv_room (Nat.le_of_ble_eq_true rfl)) dL_law_1224 ⟨h_1, h_2⟩) hS (fun q _ h => hFc q h) hFc (fun r y1 t H1 locs ht hvm hw hB hz1 hk1 hS => ?_)
  obtain ⟨hP1, hD1⟩ := hB
  rw [ht] at hP1
  try dsimp only at hw hP1 hD1
  obtain rfl := hw
  obtain ⟨hP, hD⟩ := va_join (wr := [((E 5), .inr (0, [.ref kb, .int 0, kh, kz])), (kb, .inl (E 0, 0, .inl z0)), (x0, .inr (3, [.ref t0, p1, p2, p3, .int 0, .int 0, .int 0])), (t0, .inl (E 3, 4, .inr (.inr (.inr (.inr f))))), (r0, .inr (2, [.ref g0, .int (nI (200))])), (g0, .inl (E 2, 256, .inl z0)), (o0, .inr (4, [.long (lN 0), .null]))]) (w1 := [(m0, .inr (5, [.int 0, .ref t1, pq, .int 0, .int 0, .int 0])), (t1, .inl (E 4, 4, .inr (.inr (.inr (.inr (va_up f1 0 (some y1))))))), (y1, .inl (E 2, 200, .inl z0))]) hP hD [2, 3, 4] [0, 1, 5, 6, 7, 8, 9] rfl rfl (by decide) (by decide) hk1 hFc hP1 hD1
  clear hPc hDc hFc hP1 hD1 hk1 hz1 ht
  generalize H1 = H at hP hS ⊢
  have hP : va_P D vwCl [((E 5), .inr (0, [.ref kb, .int 0, kh, kz])), (kb, .inl (E 0, 0, .inl z0)), (x0, .inr (3, [.ref t0, p1, p2, p3, .int 0, .int 0, .int 0])), (t0, .inl (E 3, 4, .inr (.inr (.inr (.inr f))))), (r0, .inr (2, [.ref g0, .int (nI (200))])), (g0, .inl (E 2, 256, .inl z0)), (o0, .inr (4, [.long (lN 0), .null])), (m0, .inr (5, [.int 0, .ref t1, pq, .int 0, .int 0, .int 0])), (t1, .inl (E 4, 4, .inr (.inr (.inr (.inr (va_up f1 0 (some y1))))))), (y1, .inl (E 2, 200, .inl z0))] H := hP
  have hD : va_D A [((E 5), .inr (0, [.ref kb, .int 0, kh, kz])), (kb, .inl (E 0, 0, .inl z0)), (x0, .inr (3, [.ref t0, p1, p2, p3, .int 0, .int 0, .int 0])), (t0, .inl (E 3, 4, .inr (.inr (.inr (.inr f))))), (r0, .inr (2, [.ref g0, .int (nI (200))])), (g0, .inl (E 2, 256, .inl z0)), (o0, .inr (4, [.long (lN 0), .null])), (m0, .inr (5, [.int 0, .ref t1, pq, .int 0, .int 0, .int 0])), (t1, .inl (E 4, 4, .inr (.inr (.inr (.inr (va_up f1 0 (some y1))))))), (y1, .inl (E 2, 200, .inl z0))] := hD
  refine W.widen (k := 32) (n := 3619) (by omega) (by omega) ?_
  refine lv_istore hx hb dL_law_1227 hl (Nat.le_of_ble_eq_true rfl) rfl (fun ls hl => ?_)
  have hl : lv_has ls 7 [(6, .int (nI 0)), (5, .int (0)), (4, .int (nI 0)), (3, .ref o0), (2, .ref m0), (1, .ref x0), (0, .ref b)] := hl
  refine lv_goto (tgt := 2348) hx hb dL_law_1229 rfl ?_
  have hl : lv_has ls 7 [(0, .ref b), (1, .ref x0), (2, .ref m0), (3, .ref o0), (4, .int (nI 0))] := lv_sub hl [6, 5, 4, 3, 2] rfl
  have hP := hP.sub (ws' := [(x0, .inr (3, [.ref t0, p1, p2, p3, .int 0, .int 0, .int 0])), (t0, .inl (E 3, 4, .inr (.inr (.inr (.inr f))))), (r0, .inr (2, [.ref g0, .int (nI (200))])), (g0, .inl (E 2, 256, .inl z0)), (m0, .inr (5, [.int 0, .ref t1, pq, .int 0, .int 0, .int 0])), (t1, .inl (E 4, 4, .inr (.inr (.inr (.inr (va_up f1 0 (some y1))))))), (y1, .inl (E 2, 200, .inl z0)), (o0, .inr (4, [.long (lN 0), .null])), ((E 5), .inr (0, [.ref kb, .int 0, kh, kz])), (kb, .inl (E 0, 0, .inl z0))]) [2, 3, 4, 5, 7, 8, 9, 6, 0, 1] rfl
  have hD := hD.sub (ws' := [(x0, .inr (3, [.ref t0, p1, p2, p3, .int 0, .int 0, .int 0])), (t0, .inl (E 3, 4, .inr (.inr (.inr (.inr f))))), (r0, .inr (2, [.ref g0, .int (nI (200))])), (g0, .inl (E 2, 256, .inl z0)), (m0, .inr (5, [.int 0, .ref t1, pq, .int 0, .int 0, .int 0])), (t1, .inl (E 4, 4, .inr (.inr (.inr (.inr (va_up f1 0 (some y1))))))), (y1, .inl (E 2, 200, .inl z0)), (o0, .inr (4, [.long (lN 0), .null])), ((E 5), .inr (0, [.ref kb, .int 0, kh, kz])), (kb, .inl (E 0, 0, .inl z0))]) [2, 3, 4, 5, 7, 8, 9, 6, 0, 1] (by decide) rfl
  refine lv_iinc (v := nI (5 * (0 + 1))) hx hb dL_law_2348 hl (k := 4) rfl ((show nI (0) + Int32.ofInt 5 = nI (0) + nI 5 from rfl).trans ((nI_add _ _).trans (congrArg nI (by omega)))) (Nat.le_of_ble_eq_true rfl) rfl (fun ls hl => ?_)
  have hl : lv_has ls 7 [(4, .int (nI (5 * (0 + 1)))), (0, .ref b), (1, .ref x0), (2, .ref m0), (3, .ref o0)] := hl
  have hl : lv_has ls 7 [(0, .ref b), (1, .ref x0), (2, .ref m0), (3, .ref o0), (4, .int (nI (5 * (0 + 1))))] := lv_sub hl [1, 2, 3, 4, 0] rfl
  refine lv_goto (tgt := 27) hx hb dL_law_2351 rfl ?_
  refine W.widen (k := 40) (n := 8000) (by omega) (by omega) ?_
  refine rf_loop (511) 1403 700404 (fun k H locs ls => ∃ (sv : Value) (G : va_W), lv_has ls 7 [(0, .ref b), (1, .ref x0), (2, .ref m0), (3, .ref o0), (4, .int (nI (5 * (k + 1))))] ∧ va_P D vwCl ([(x0, .inr (3, [.ref t0, p1, p2, p3, .int 0, .int 0, .int 0])), (t0, .inl (E 3, 4, .inr (.inr (.inr (.inr f))))), (r0, .inr (2, [.ref g0, .int (nI (200))])), (g0, .inl (E 2, 256, .inl z0)), (m0, .inr (5, [.int 0, .ref t1, pq, .int 0, .int 0, .int 0])), (t1, .inl (E 4, 4, .inr (.inr (.inr (.inr (va_up f1 0 (some y1))))))), (y1, .inl (E 2, 200, .inl z0)), (o0, .inr (4, [.long (lN 0), sv])), ((E 5), .inr (0, [.ref kb, .int 0, kh, kz])), (kb, .inl (E 0, 0, .inl z0))] ++ G) H ∧ va_D A ([(x0, .inr (3, [.ref t0, p1, p2, p3, .int 0, .int 0, .int 0])), (t0, .inl (E 3, 4, .inr (.inr (.inr (.inr f))))), (r0, .inr (2, [.ref g0, .int (nI (200))])), (g0, .inl (E 2, 256, .inl z0)), (m0, .inr (5, [.int 0, .ref t1, pq, .int 0, .int 0, .int 0])), (t1, .inl (E 4, 4, .inr (.inr (.inr (.inr (va_up f1 0 (some y1))))))), (y1, .inl (E 2, 200, .inl z0)), (o0, .inr (4, [.long (lN 0), sv])), ((E 5), .inr (0, [.ref kb, .int 0, kh, kz])), (kb, .inl (E 0, 0, .inl z0))] ++ G) ∧ va_S A s.heap H locs ∧ k * 19900 ≤ gs G) ⟨.null, [], hl, hP, hD, hS, Nat.le_of_ble_eq_true rfl⟩ ?_ ?_
  · intro H locs ls hI
    obtain ⟨sv, G, hl, hP, hD, hS, hg⟩ := hI
    refine lv_iload hx hb dL_law_27 (lv_at hl 4 rfl) ?_
    refine lv_aload_n hx hb dL_law_29 rfl (lv_at hl 0 rfl) ?_
    refine va_slen hx hb hX hbl hbA hS dL_law_30 (W.eq (g2 := F0 mI 31 ls (.int (nI 2560) :: [.int (nI (5 * (511 + 1)))])) rfl ?_)
    refine lv_iconst (v := nI 5) hx hb dL_law_31 (by decide) ?_
    refine lv_isub hx hb dL_law_32 (lv_topi (fun f7 ef => ?_))
    obtain rfl : f7 = nI (2555) := (show f7 = nI (2560) - nI (5) from ef).trans ((pk_sub (by omega)).trans (congrArg nI (by omega)))
    refine lv_icmp_gt (tgt := 2354) hx hb dL_law_33 rfl (fun _ => ?_) (fun h => absurd (show nI (2555) < nI (5 * (511 + 1)) from nI_lt (by omega) (by omega)) h)
    refine lv_iconst (v := 1) hx hb dL_law_2354 (by decide) ?_
    have hb9 := rf_big (X := [(x0, .inr (3, [.ref t0, p1, p2, p3, .int 0, .int 0, .int 0])), (t0, .inl (E 3, 4, .inr (.inr (.inr (.inr f))))), (r0, .inr (2, [.ref g0, .int (nI (200))])), (g0, .inl (E 2, 256, .inl z0)), (m0, .inr (5, [.int 0, .ref t1, pq, .int 0, .int 0, .int 0])), (t1, .inl (E 4, 4, .inr (.inr (.inr (.inr (va_up f1 0 (some y1))))))), (y1, .inl (E 2, 200, .inl z0)), (o0, .inr (4, [.long (lN 0), sv])), ((E 5), .inr (0, [.ref kb, .int 0, kh, kz])), (kb, .inl (E 0, 0, .inl z0))]) (G := G) (lo := s.heap.size) hP hD (rf_lo hD 8 9 rfl rfl hAd)
    exact rf_ret hx hb hr hlocks dL_law_2355 (by unfold rf_sum; omega)
  · intro k H locs ls hkN hI kk
    obtain ⟨sv, G, hl, hP, hD, hS, hg⟩ := hI
    refine lv_iload hx hb dL_law_27 (lv_at hl 4 rfl) ?_
    refine lv_aload_n hx hb dL_law_29 rfl (lv_at hl 0 rfl) ?_
    refine va_slen hx hb hX hbl hbA hS dL_law_30 (W.eq (g2 := F0 mI 31 ls (.int (nI 2560) :: [.int (nI (5 * (k + 1)))])) rfl ?_)
    refine lv_iconst (v := nI 5) hx hb dL_law_31 (by decide) ?_
    refine lv_isub hx hb dL_law_32 (lv_topi (fun f8 ef => ?_))
    obtain rfl : f8 = nI (2555) := (show f8 = nI (2560) - nI (5) from ef).trans ((pk_sub (by omega)).trans (congrArg nI (by omega)))
    refine lv_icmp_gt (tgt := 2354) hx hb dL_law_33 rfl (fun h => absurd h (show ¬ nI (2555) < nI (5 * (k + 1)) from nI_nlt (by omega) (by omega))) (fun _ => ?_)
    refine lv_aload_n hx hb dL_law_36 rfl (lv_at hl 0 rfl) ?_
    refine lv_iload hx hb dL_law_37 (lv_at hl 4 rfl) ?_
    refine va_sld hx hb hX hbl hbA hS (vp_in_nI (by omega) (by omega)) dL_law_39 (W.eq (g2 := F0 mI 40 ls (.int (nI 28) :: [])) (congrArg (fun z => F0 mI 40 ls (.int z :: [])) (sc_28 k hkN)) ?_)
    refine lv_bipush (v := nI 63) hx hb dL_law_40 (by decide) ?_
    refine lv_iand hx hb dL_law_42 (lv_topi (fun f9 ef => ?_))
    obtain rfl : f9 = nI 28 := ef.trans (by decide)
    refine lv_tableIn (tgt := 1493) (off := 1450) hx hb dL_law_43 (by decide) (by decide) (by decide) rfl ?_
    refine lv_aload_n hx hb dL_law_1493 rfl (lv_at hl 1 rfl) ?_
    refine lv_aload_n hx hb dL_law_1494 rfl (lv_at hl 0 rfl) ?_
    refine lv_iload hx hb dL_law_1495 (lv_at hl 4 rfl) ?_
    refine lv_iconst (v := nI 1) hx hb dL_law_1497 (by decide) ?_
    refine lv_iadd hx hb dL_law_1498 (lv_topi (fun f10 ef => ?_))
    obtain rfl : f10 = nI (5 * (k + 1) + 1) := (show f10 = nI (5 * (k + 1)) + nI (1) from ef).trans ((nI_add _ _).trans (congrArg nI (by omega)))
    refine va_sld hx hb hX hbl hbA hS (vp_in_nI (by omega) (by omega)) dL_law_1499 (W.eq (g2 := F0 mI 1500 ls (.int (nI 0) :: [.ref x0])) (congrArg (fun z => F0 mI 1500 ls (.int z :: [.ref x0])) (sc_0 k hkN)) ?_)
    refine lv_aload_n hx hb dL_law_1500 rfl (lv_at hl 3 rfl) ?_
    have hPc := hP.sub (ws' := [(x0, .inr (3, [.ref t0, p1, p2, p3, .int 0, .int 0, .int 0])), (t0, .inl (E 3, 4, .inr (.inr (.inr (.inr f))))), (r0, .inr (2, [.ref g0, .int (nI (200))])), (g0, .inl (E 2, 256, .inl z0)), (o0, .inr (4, [.long (lN 0), sv]))]) [0, 1, 2, 3, 7] rfl
    have hDc := hD.sub (ws' := [(x0, .inr (3, [.ref t0, p1, p2, p3, .int 0, .int 0, .int 0])), (t0, .inl (E 3, 4, .inr (.inr (.inr (.inr f))))), (r0, .inr (2, [.ref g0, .int (nI (200))])), (g0, .inl (E 2, 256, .inl z0)), (o0, .inr (4, [.long (lN 0), sv]))]) [0, 1, 2, 3, 7] (by decide) rfl
    have hFc := va_free (wc := [(x0, .inr (3, [.ref t0, p1, p2, p3, .int 0, .int 0, .int 0])), (t0, .inl (E 3, 4, .inr (.inr (.inr (.inr f))))), (r0, .inr (2, [.ref g0, .int (nI (200))])), (g0, .inl (E 2, 256, .inl z0)), (o0, .inr (4, [.long (lN 0), sv]))]) hD hS hA [0, 1, 2, 3, 7] rfl
    have h_1 : 40 + k * 1403 + 3 ≤ 1000000 := by omega
    have h_2 : 8000 + k * 700404 + 404 ≤ 400000000 := by omega
    refine va_calli (vx_runSW (As := [.ref x0, .int (nI 0), .ref o0]) (rest := []) ⟨hx, hb, hml, hown, hts⟩ (c_L_text l D E H.size (x0) (t0) (r0) (g0) (o0) (200) (f) (.long (lN 0)) (sv) (p1) (p2) (p3) (.int 0) (.int 0) (.int 0) (hf) (by omega) (by omega)) (vx_cwSW 3 hts rgL_law_L_text rfl rfl rfl (by decide +kernel) ⟨Nat.le_of_ble_eq_true rfl, Nat.le_of_ble_eq_true rfl⟩) ⟨rf_blind _, fun U hU hW => ⟨rfl, rf_pre hK hPc hDc hZ hN hS hFc U hU hW⟩⟩ rfl rfl hl.1 rfl (lv_room (Nat.le_of_ble_eq_true rfl)) dL_law_1501 ⟨h_1, h_2⟩) hS (fun q _ h => hFc q h) hFc (fun r uu t H1 locs ht hvm hw hB hz1 hk1 hS => ?_)
    obtain ⟨s1, s2⟩ := uu
    obtain ⟨hP1, hD1⟩ := hB
    rw [ht] at hP1
    try dsimp only at hw hP1 hD1
    obtain rfl := hw
    obtain ⟨hP, hD⟩ := va_joinQ (X := [(x0, .inr (3, [.ref t0, p1, p2, p3, .int 0, .int 0, .int 0])), (t0, .inl (E 3, 4, .inr (.inr (.inr (.inr f))))), (r0, .inr (2, [.ref g0, .int (nI (200))])), (g0, .inl (E 2, 256, .inl z0)), (m0, .inr (5, [.int 0, .ref t1, pq, .int 0, .int 0, .int 0])), (t1, .inl (E 4, 4, .inr (.inr (.inr (.inr (va_up f1 0 (some y1))))))), (y1, .inl (E 2, 200, .inl z0)), (o0, .inr (4, [.long (lN 0), sv])), ((E 5), .inr (0, [.ref kb, .int 0, kh, kz])), (kb, .inl (E 0, 0, .inl z0))]) (cx := [(x0, .inr (3, [.ref t0, p1, p2, p3, .int 0, .int 0, .int 0])), (t0, .inl (E 3, 4, .inr (.inr (.inr (.inr f))))), (r0, .inr (2, [.ref g0, .int (nI (200))])), (g0, .inl (E 2, 256, .inl z0)), (o0, .inr (4, [.long (lN 0), sv]))]) (pl := G) (wr := [(m0, .inr (5, [.int 0, .ref t1, pq, .int 0, .int 0, .int 0])), (t1, .inl (E 4, 4, .inr (.inr (.inr (.inr (va_up f1 0 (some y1))))))), (y1, .inl (E 2, 200, .inl z0)), ((E 5), .inr (0, [.ref kb, .int 0, kh, kz])), (kb, .inl (E 0, 0, .inl z0))]) (w1 := [(x0, .inr (3, [.ref t0, p1, p2, p3, .int 0, .int 0, .int 0])), (t0, .inl (E 3, 4, .inr (.inr (.inr (.inr f))))), (r0, .inr (2, [.ref g0, .int (nI (200))])), (g0, .inl (E 2, 256, .inl z0)), (o0, .inr (4, [.long (lN 0), .ref s1])), (s1, .inr (0, [.ref s2, .int 0, .int 0, .int 0])), (s2, .inl (E 0, 200, .inl z0))]) hP hD [0, 1, 2, 3, 7] [4, 5, 6, 8, 9] rfl rfl (by decide) (by decide) hk1 hFc hP1 hD1
    clear hPc hDc hFc hP1 hD1 hk1 hz1 ht
    generalize H1 = H at hP hS ⊢
    have hP : va_P D vwCl ([(m0, .inr (5, [.int 0, .ref t1, pq, .int 0, .int 0, .int 0])), (t1, .inl (E 4, 4, .inr (.inr (.inr (.inr (va_up f1 0 (some y1))))))), (y1, .inl (E 2, 200, .inl z0)), ((E 5), .inr (0, [.ref kb, .int 0, kh, kz])), (kb, .inl (E 0, 0, .inl z0)), (x0, .inr (3, [.ref t0, p1, p2, p3, .int 0, .int 0, .int 0])), (t0, .inl (E 3, 4, .inr (.inr (.inr (.inr f))))), (r0, .inr (2, [.ref g0, .int (nI (200))])), (g0, .inl (E 2, 256, .inl z0)), (o0, .inr (4, [.long (lN 0), .ref s1])), (s1, .inr (0, [.ref s2, .int 0, .int 0, .int 0])), (s2, .inl (E 0, 200, .inl z0))] ++ G) H := hP
    have hD : va_D A ([(m0, .inr (5, [.int 0, .ref t1, pq, .int 0, .int 0, .int 0])), (t1, .inl (E 4, 4, .inr (.inr (.inr (.inr (va_up f1 0 (some y1))))))), (y1, .inl (E 2, 200, .inl z0)), ((E 5), .inr (0, [.ref kb, .int 0, kh, kz])), (kb, .inl (E 0, 0, .inl z0)), (x0, .inr (3, [.ref t0, p1, p2, p3, .int 0, .int 0, .int 0])), (t0, .inl (E 3, 4, .inr (.inr (.inr (.inr f))))), (r0, .inr (2, [.ref g0, .int (nI (200))])), (g0, .inl (E 2, 256, .inl z0)), (o0, .inr (4, [.long (lN 0), .ref s1])), (s1, .inr (0, [.ref s2, .int 0, .int 0, .int 0])), (s2, .inl (E 0, 200, .inl z0))] ++ G) := hD
    refine W.widen (k := 40 + k * 1403 + 3) (n := 8000 + k * 700404 + 404) (by omega) (by omega) ?_
    refine lv_istore hx hb dL_law_1504 hl (Nat.le_of_ble_eq_true rfl) rfl (fun ls hl => ?_)
    have hl : lv_has ls 7 [(5, .int (0)), (0, .ref b), (1, .ref x0), (2, .ref m0), (3, .ref o0), (4, .int (nI (5 * (k + 1))))] := hl
    refine lv_aload_n hx hb dL_law_1506 rfl (lv_at hl 3 rfl) ?_
    refine lv_aload_n hx hb dL_law_1507 rfl (lv_at hl 1 rfl) ?_
    refine lv_iload hx hb dL_law_1508 (lv_at hl 5 rfl) ?_
    refine lv_iconst (v := nI 1) hx hb dL_law_1510 (by decide) ?_
    refine lv_iadd hx hb dL_law_1511 (lv_topi (fun f11 ef => ?_))
    obtain rfl : f11 = nI (5 * (k + 1) + 1) := (show f11 = nI (5 * (k + 1)) + nI (1) from ef).trans ((nI_add _ _).trans (congrArg nI (by omega)))
    refine va_sld hx hb hX hbl hbA hS (vp_in_nI (by omega) (by omega)) dL_law_1512 (W.eq (g2 := F0 mI 1513 ls (.int (nI 0) :: [.ref m0])) (congrArg (fun z => F0 mI 1513 ls (.int z :: [.ref m0])) (sc_0 k hkN)) ?_)
    have hPc := hP.sub (ws' := [(m0, .inr (5, [.int 0, .ref t1, pq, .int 0, .int 0, .int 0])), (t1, .inl (E 4, 4, .inr (.inr (.inr (.inr (va_up f1 0 (some y1))))))), (y1, .inl (E 2, 200, .inl z0)), ((E 5), .inr (0, [.ref kb, .int 0, kh, kz])), (kb, .inl (E 0, 0, .inl z0))]) [0, 1, 2, 3, 4] rfl
    have hDc := hD.sub (ws' := [(m0, .inr (5, [.int 0, .ref t1, pq, .int 0, .int 0, .int 0])), (t1, .inl (E 4, 4, .inr (.inr (.inr (.inr (va_up f1 0 (some y1))))))), (y1, .inl (E 2, 200, .inl z0)), ((E 5), .inr (0, [.ref kb, .int 0, kh, kz])), (kb, .inl (E 0, 0, .inl z0))]) [0, 1, 2, 3, 4] (by decide) rfl
    have hFc := va_free (wc := [(m0, .inr (5, [.int 0, .ref t1, pq, .int 0, .int 0, .int 0])), (t1, .inl (E 4, 4, .inr (.inr (.inr (.inr (va_up f1 0 (some y1))))))), (y1, .inl (E 2, 200, .inl z0)), ((E 5), .inr (0, [.ref kb, .int 0, kh, kz])), (kb, .inl (E 0, 0, .inl z0))]) hD hS hA [0, 1, 2, 3, 4] rfl
    have h_1 : 40 + k * 1403 + 3 + 1400 ≤ 1000000 := by omega
    have h_2 : 8000 + k * 700404 + 404 + 700000 ≤ 400000000 := by omega
    refine va_callr (va_runV (As := [.int (nI 0)]) (rest := []) ⟨hx, hb, hml, hown, hts⟩ (c_X3_text_ l D E H.size (m0) (t1) (y1) (kb) (199) (0) ((va_up f1 0 (some y1))) (kh) (kz) (pq) (.int 0) (.int 0) (.int 0) (by simp [va_up]) (by omega)) (cwV 1 hts rgL_law_X3_text_ rfl rfl rfl (by decide +kernel) ⟨Nat.le_of_ble_eq_true rfl, Nat.le_of_ble_eq_true rfl⟩) ⟨rf_blind _, va_recv hK hPc (ci := 5) (q0 := 0) rfl rfl, fun U hU hW => ⟨rfl, rf_pre hK hPc hDc hZ hN hS hFc U hU hW⟩⟩ rfl rfl hl.1 rfl (lv_room (Nat.le_of_ble_eq_true rfl)) dL_law_1513 ⟨h_1, h_2⟩) hS (fun q _ h => hFc q h) hFc (fun u rs t H1 locs ht hvm hw hB hz1 hk1 hS => ?_)
    obtain ⟨b1, G1⟩ := u
    obtain ⟨hP1, hD1⟩ := hB
    rw [ht] at hP1
    try dsimp only at hw hP1 hD1
    obtain ⟨hP, hD⟩ := va_joinQ (X := [(m0, .inr (5, [.int 0, .ref t1, pq, .int 0, .int 0, .int 0])), (t1, .inl (E 4, 4, .inr (.inr (.inr (.inr (va_up f1 0 (some y1))))))), (y1, .inl (E 2, 200, .inl z0)), ((E 5), .inr (0, [.ref kb, .int 0, kh, kz])), (kb, .inl (E 0, 0, .inl z0)), (x0, .inr (3, [.ref t0, p1, p2, p3, .int 0, .int 0, .int 0])), (t0, .inl (E 3, 4, .inr (.inr (.inr (.inr f))))), (r0, .inr (2, [.ref g0, .int (nI (200))])), (g0, .inl (E 2, 256, .inl z0)), (o0, .inr (4, [.long (lN 0), .ref s1])), (s1, .inr (0, [.ref s2, .int 0, .int 0, .int 0])), (s2, .inl (E 0, 200, .inl z0))]) (cx := [(m0, .inr (5, [.int 0, .ref t1, pq, .int 0, .int 0, .int 0])), (t1, .inl (E 4, 4, .inr (.inr (.inr (.inr (va_up f1 0 (some y1))))))), (y1, .inl (E 2, 200, .inl z0)), ((E 5), .inr (0, [.ref kb, .int 0, kh, kz])), (kb, .inl (E 0, 0, .inl z0))]) (pl := G) (wr := [(x0, .inr (3, [.ref t0, p1, p2, p3, .int 0, .int 0, .int 0])), (t0, .inl (E 3, 4, .inr (.inr (.inr (.inr f))))), (r0, .inr (2, [.ref g0, .int (nI (200))])), (g0, .inl (E 2, 256, .inl z0)), (o0, .inr (4, [.long (lN 0), .ref s1])), (s1, .inr (0, [.ref s2, .int 0, .int 0, .int 0])), (s2, .inl (E 0, 200, .inl z0))]) (w1 := ([(m0, .inr (5, [.int 0, .ref t1, pq, .int 0, .int 0, .int 0])), (t1, .inl (E 4, 4, .inr (.inr (.inr (.inr (va_up f1 0 (some y1))))))), (y1, .inl (E 2, 200, .inl z0)), ((E 5), .inr (0, [.ref kb, .int 0, kh, kz])), (kb, .inl (E 0, 0, .inl z0)), (rs, .inr (0, [.ref b1, .int 0, .int 0, .int 0])), (b1, .inl (E 0, 200, .inl z0))] ++ G1)) hP hD [0, 1, 2, 3, 4] [5, 6, 7, 8, 9, 10, 11] rfl rfl (by decide) (by decide) hk1 hFc hP1 hD1
    clear hPc hDc hFc hP1 hD1 hk1 hz1 ht
    generalize H1 = H at hP hS ⊢
    have hP : va_P D vwCl ([(x0, .inr (3, [.ref t0, p1, p2, p3, .int 0, .int 0, .int 0])), (t0, .inl (E 3, 4, .inr (.inr (.inr (.inr f))))), (r0, .inr (2, [.ref g0, .int (nI (200))])), (g0, .inl (E 2, 256, .inl z0)), (o0, .inr (4, [.long (lN 0), .ref s1])), (s1, .inr (0, [.ref s2, .int 0, .int 0, .int 0])), (s2, .inl (E 0, 200, .inl z0)), (m0, .inr (5, [.int 0, .ref t1, pq, .int 0, .int 0, .int 0])), (t1, .inl (E 4, 4, .inr (.inr (.inr (.inr (va_up f1 0 (some y1))))))), (y1, .inl (E 2, 200, .inl z0)), ((E 5), .inr (0, [.ref kb, .int 0, kh, kz])), (kb, .inl (E 0, 0, .inl z0)), (rs, .inr (0, [.ref b1, .int 0, .int 0, .int 0])), (b1, .inl (E 0, 200, .inl z0))] ++ (G1 ++ G)) H := hP
    have hD : va_D A ([(x0, .inr (3, [.ref t0, p1, p2, p3, .int 0, .int 0, .int 0])), (t0, .inl (E 3, 4, .inr (.inr (.inr (.inr f))))), (r0, .inr (2, [.ref g0, .int (nI (200))])), (g0, .inl (E 2, 256, .inl z0)), (o0, .inr (4, [.long (lN 0), .ref s1])), (s1, .inr (0, [.ref s2, .int 0, .int 0, .int 0])), (s2, .inl (E 0, 200, .inl z0)), (m0, .inr (5, [.int 0, .ref t1, pq, .int 0, .int 0, .int 0])), (t1, .inl (E 4, 4, .inr (.inr (.inr (.inr (va_up f1 0 (some y1))))))), (y1, .inl (E 2, 200, .inl z0)), ((E 5), .inr (0, [.ref kb, .int 0, kh, kz])), (kb, .inl (E 0, 0, .inl z0)), (rs, .inr (0, [.ref b1, .int 0, .int 0, .int 0])), (b1, .inl (E 0, 200, .inl z0))] ++ (G1 ++ G)) := hD
    refine W.widen (k := 40 + k * 1403 + 1403) (n := 8000 + k * 700404 + 700404) (by omega) (by omega) ?_
    refine lv_astore hx hb dL_law_1516 hl (Nat.le_of_ble_eq_true rfl) rfl (fun ls hl => ?_)
    have hl : lv_has ls 7 [(6, .ref rs), (5, .int (0)), (0, .ref b), (1, .ref x0), (2, .ref m0), (3, .ref o0), (4, .int (nI (5 * (k + 1))))] := hl
    refine lv_goto (tgt := 2348) hx hb dL_law_1518 rfl ?_
    have hl : lv_has ls 7 [(0, .ref b), (1, .ref x0), (2, .ref m0), (3, .ref o0), (4, .int (nI (5 * (k + 1))))] := lv_sub hl [2, 3, 4, 5, 6] rfl
    have hD := va_D.part (X := [(x0, .inr (3, [.ref t0, p1, p2, p3, .int 0, .int 0, .int 0])), (t0, .inl (E 3, 4, .inr (.inr (.inr (.inr f))))), (r0, .inr (2, [.ref g0, .int (nI (200))])), (g0, .inl (E 2, 256, .inl z0)), (o0, .inr (4, [.long (lN 0), .ref s1])), (s1, .inr (0, [.ref s2, .int 0, .int 0, .int 0])), (s2, .inl (E 0, 200, .inl z0)), (m0, .inr (5, [.int 0, .ref t1, pq, .int 0, .int 0, .int 0])), (t1, .inl (E 4, 4, .inr (.inr (.inr (.inr (va_up f1 0 (some y1))))))), (y1, .inl (E 2, 200, .inl z0)), ((E 5), .inr (0, [.ref kb, .int 0, kh, kz])), (kb, .inl (E 0, 0, .inl z0)), (rs, .inr (0, [.ref b1, .int 0, .int 0, .int 0])), (b1, .inl (E 0, 200, .inl z0))]) (cx := [(x0, .inr (3, [.ref t0, p1, p2, p3, .int 0, .int 0, .int 0])), (t0, .inl (E 3, 4, .inr (.inr (.inr (.inr f))))), (r0, .inr (2, [.ref g0, .int (nI (200))])), (g0, .inl (E 2, 256, .inl z0)), (m0, .inr (5, [.int 0, .ref t1, pq, .int 0, .int 0, .int 0])), (t1, .inl (E 4, 4, .inr (.inr (.inr (.inr (va_up f1 0 (some y1))))))), (y1, .inl (E 2, 200, .inl z0)), (o0, .inr (4, [.long (lN 0), .ref s1])), ((E 5), .inr (0, [.ref kb, .int 0, kh, kz])), (kb, .inl (E 0, 0, .inl z0))]) (pl := (G1 ++ G)) hD [0, 1, 2, 3, 7, 8, 9, 4, 10, 11] (by decide) rfl
    have hP := va_P.part (X := [(x0, .inr (3, [.ref t0, p1, p2, p3, .int 0, .int 0, .int 0])), (t0, .inl (E 3, 4, .inr (.inr (.inr (.inr f))))), (r0, .inr (2, [.ref g0, .int (nI (200))])), (g0, .inl (E 2, 256, .inl z0)), (o0, .inr (4, [.long (lN 0), .ref s1])), (s1, .inr (0, [.ref s2, .int 0, .int 0, .int 0])), (s2, .inl (E 0, 200, .inl z0)), (m0, .inr (5, [.int 0, .ref t1, pq, .int 0, .int 0, .int 0])), (t1, .inl (E 4, 4, .inr (.inr (.inr (.inr (va_up f1 0 (some y1))))))), (y1, .inl (E 2, 200, .inl z0)), ((E 5), .inr (0, [.ref kb, .int 0, kh, kz])), (kb, .inl (E 0, 0, .inl z0)), (rs, .inr (0, [.ref b1, .int 0, .int 0, .int 0])), (b1, .inl (E 0, 200, .inl z0))]) (cx := [(x0, .inr (3, [.ref t0, p1, p2, p3, .int 0, .int 0, .int 0])), (t0, .inl (E 3, 4, .inr (.inr (.inr (.inr f))))), (r0, .inr (2, [.ref g0, .int (nI (200))])), (g0, .inl (E 2, 256, .inl z0)), (m0, .inr (5, [.int 0, .ref t1, pq, .int 0, .int 0, .int 0])), (t1, .inl (E 4, 4, .inr (.inr (.inr (.inr (va_up f1 0 (some y1))))))), (y1, .inl (E 2, 200, .inl z0)), (o0, .inr (4, [.long (lN 0), .ref s1])), ((E 5), .inr (0, [.ref kb, .int 0, kh, kz])), (kb, .inl (E 0, 0, .inl z0))]) (pl := (G1 ++ G)) hP [0, 1, 2, 3, 7, 8, 9, 4, 10, 11] rfl
    have hP : va_P D vwCl ([(x0, .inr (3, [.ref t0, p1, p2, p3, .int 0, .int 0, .int 0])), (t0, .inl (E 3, 4, .inr (.inr (.inr (.inr f))))), (r0, .inr (2, [.ref g0, .int (nI (200))])), (g0, .inl (E 2, 256, .inl z0)), (m0, .inr (5, [.int 0, .ref t1, pq, .int 0, .int 0, .int 0])), (t1, .inl (E 4, 4, .inr (.inr (.inr (.inr (va_up f1 0 (some y1))))))), (y1, .inl (E 2, 200, .inl z0)), (o0, .inr (4, [.long (lN 0), .ref s1])), ((E 5), .inr (0, [.ref kb, .int 0, kh, kz])), (kb, .inl (E 0, 0, .inl z0))] ++ (G1 ++ G)) H := hP
    have hD : va_D A ([(x0, .inr (3, [.ref t0, p1, p2, p3, .int 0, .int 0, .int 0])), (t0, .inl (E 3, 4, .inr (.inr (.inr (.inr f))))), (r0, .inr (2, [.ref g0, .int (nI (200))])), (g0, .inl (E 2, 256, .inl z0)), (m0, .inr (5, [.int 0, .ref t1, pq, .int 0, .int 0, .int 0])), (t1, .inl (E 4, 4, .inr (.inr (.inr (.inr (va_up f1 0 (some y1))))))), (y1, .inl (E 2, 200, .inl z0)), (o0, .inr (4, [.long (lN 0), .ref s1])), ((E 5), .inr (0, [.ref kb, .int 0, kh, kz])), (kb, .inl (E 0, 0, .inl z0))] ++ (G1 ++ G)) := hD
    refine lv_iinc (v := nI (5 * (k + 1 + 1))) hx hb dL_law_2348 hl (k := 4) rfl ((show nI (5 * (k + 1)) + Int32.ofInt 5 = nI (5 * (k + 1)) + nI 5 from rfl).trans ((nI_add _ _).trans (congrArg nI (by omega)))) (Nat.le_of_ble_eq_true rfl) rfl (fun ls hl => ?_)
    have hl : lv_has ls 7 [(4, .int (nI (5 * (k + 1 + 1)))), (0, .ref b), (1, .ref x0), (2, .ref m0), (3, .ref o0)] := hl
    have hl : lv_has ls 7 [(0, .ref b), (1, .ref x0), (2, .ref m0), (3, .ref o0), (4, .int (nI (5 * (k + 1 + 1))))] := lv_sub hl [1, 2, 3, 4, 0] rfl
    refine lv_goto (tgt := 27) hx hb dL_law_2351 rfl ?_
    refine W.widen (k := 40 + (k + 1) * 1403) (n := 8000 + (k + 1) * 700404) (by omega) (by omega) ?_
    exact kk _ _ _ ⟨.ref s1, (G1 ++ G), hl, hP, hD, hS, (by rw [gs_app]; have h9 : 19900 ≤ gs G1 := hw; omega)⟩
end
section
/-! The claim refuted: the printed start, with this script in the place of its own, on a machine with more room. -/
def f_cells : Array Value := ⟨(List.range 2560).map (fun j => Value.int (sc j))⟩
def f_s : State := start1.aboutOf f_cells
def f_e : Env := launch0.env 0 2000000 1000000000
set_option maxRecDepth 100000 in
theorem f_ofvm (c d : Array Value) : (start1.aboutOf c).vm = (start1.aboutOf d).vm := rfl
theorem f_vm : start1.about.vm = f_s.vm := f_ofvm _ _
theorem f_size : f_cells.size = 2560 := by simp [f_cells]
theorem f_at (j : Nat) (hj : j < 2560) : f_cells[j]? = some (.int (sc j)) := by
  unfold f_cells
  rw [List.getElem?_toArray, List.getElem?_map, List.getElem?_range hj]
  rfl
set_option maxRecDepth 100000 in
theorem f_k1 : tables_1_1.all (fun w => w.onTables || w.before start1.args0 f_s) = true := by decide +kernel
set_option maxRecDepth 100000 in
theorem f_k2 : tables_1_2.all (fun w => w.onTables || w.before start1.args0 f_s) = true := by decide +kernel
set_option maxRecDepth 100000 in
theorem f_k3 : tables_1_3.all (fun w => w.onTables || w.before start1.args0 f_s) = true := by decide +kernel
set_option maxRecDepth 100000 in
theorem f_k4 : tables_1_4.all (fun w => w.onTables || w.before start1.args0 f_s) = true := by decide +kernel
set_option maxRecDepth 100000 in
theorem f_k5 : tables_1_5.all (fun w => w.onTables || w.before start1.args0 f_s) = true := by decide +kernel
set_option maxRecDepth 100000 in
theorem f_k6 : tables_1_6.all (fun w => w.onTables || w.before start1.args0 f_s) = true := by decide +kernel
set_option maxRecDepth 100000 in
theorem f_k7 : tables_1_7.all (fun w => w.onTables || w.before start1.args0 f_s) = true := by decide +kernel
theorem f_k : tables_1.all (fun w => w.onTables || w.before start1.args0 f_s) = true := by
  show (tables_1_1 ++ (tables_1_2 ++ (tables_1_3 ++ (tables_1_4 ++ (tables_1_5 ++ (tables_1_6 ++ tables_1_7)))))).all _ = true
  simp only [List.all_append, f_k1, f_k2, f_k3, f_k4, f_k5, f_k6, f_k7, Bool.and_self]
theorem f_tables : ∀ w ∈ tables_1, w.before start1.args0 f_s = true := by
  intro w hw
  have h0 := start1.words w (List.mem_cons_of_mem _ hw)
  have h1 := List.all_eq_true.mp f_k w hw
  rcases (Bool.or_eq_true_iff.mp h1) with h | h
  · exact va_tabs h f_vm h0
  · exact h
theorem f_words : ∀ w ∈ (Cond.code x code maxLocals ret :: tables_1), w.before start1.args0 f_s = true := by
  intro w hw
  rcases List.mem_cons.mp hw with rfl | h
  · exact va_tabs rfl f_vm (start1.words _ List.mem_cons_self)
  · exact f_tables w h
theorem f_ao {t : FieldType} {A A' : Array Value} {u U : State} (h : u.vm = U.vm) (hz : (Cond.arrayOver t).before A u = true) : (Cond.arrayOver t).before A' U = true := by
  have h1 := hz
  simp only [Cond.before, Cond.holds, Cond.value, h] at h1 ⊢
  exact h1
end
section
/-! The walk's ingredients at that start, and the claim's negation. -/
def f_E : Nat → ClassId := fun i => match i with | 0 => 27 | 1 => 29 | 2 => 25 | 3 => 30 | 4 => 31 | _ => 10
theorem f_tbl : ∀ w ∈ lw_tbl, w.before start1.args0 f_s = true := k2_hts_sels lw_privs f_tables lw_privs_ok
theorem f_all : ∀ w ∈ rf_tbl, w.before start1.args0 f_s = true := rf_hts f_tbl
theorem f_slot {C f d : String} {i : Nat} (h : (f_s.fieldFound? C f d).map (fun x => x.2.2.2.slot) = some i) : ∀ j, SlotIs f_s C f d j → j = i := by
  rintro j ⟨cf, kf, fi, fd, h1, h2⟩
  rw [h1] at h
  exact h2.symm.trans (Option.some.inj h)
set_option maxRecDepth 100000 in
theorem f_s0 : (f_s.fieldFound? "java/lang/String" "value" "[B").map (fun x => x.2.2.2.slot) = some 0 ∧ (f_s.fieldFound? "java/lang/String" "coder" "B").map (fun x => x.2.2.2.slot) = some 1 ∧ (f_s.fieldFound? "java/lang/String" "hash" "I").map (fun x => x.2.2.2.slot) = some 2 ∧ (f_s.fieldFound? "java/lang/String" "hashIsZero" "Z").map (fun x => x.2.2.2.slot) = some 3 := by decide +kernel
set_option maxRecDepth 100000 in
theorem f_names : f_s.vm.findClass "java/lang/String" = some 9 ∧ f_s.vm.findClass "[B" = some 27 ∧ f_s.vm.findClass "[C" = some 29 ∧ f_s.vm.findClass "[I" = some 25 ∧ f_s.vm.findClass "[LTapebuffer$Row;" = some 30 ∧ f_s.vm.findClass "[[I" = some 31 ∧ f_s.vm.findClass "Tapebuffer$Row" = some 3 := by decide +kernel
theorem f_i0 : (∀ w ∈ u_ws RJ0 TJ0 4, w ∈ lw_tbl) ∧ Cond.instantiable RJ0 4 ∈ lw_tbl := by decide +kernel
theorem f_i1 : (∀ w ∈ u_ws RJ4 TJ4 4, w ∈ lw_tbl) ∧ Cond.instantiable RJ4 4 ∈ lw_tbl := by decide +kernel
theorem f_i2 : (∀ w ∈ u_ws RX0 TX0 2, w ∈ lw_tbl) ∧ Cond.instantiable RX0 2 ∈ lw_tbl := by decide +kernel
theorem f_i3 : (∀ w ∈ u_ws RX1 TX1 7, w ∈ lw_tbl) ∧ Cond.instantiable RX1 7 ∈ lw_tbl := by decide +kernel
theorem f_i4 : (∀ w ∈ u_ws RX2 TX2 2, w ∈ lw_tbl) ∧ Cond.instantiable RX2 2 ∈ lw_tbl := by decide +kernel
theorem f_i5 : (∀ w ∈ u_ws RX3 TX3 6, w ∈ lw_tbl) ∧ Cond.instantiable RX3 6 ∈ lw_tbl := by decide +kernel
set_option maxRecDepth 100000 in
theorem f_h10 : f_s.heap[10]? = some { cls := 9, slots := #[.ref 11, .int 0, .int 0, .int 0], vm := .none } := rfl
set_option maxRecDepth 100000 in
theorem f_h11 : f_s.heap[11]? = some { cls := 27, slots := #[], vm := .none } := rfl
set_option maxRecDepth 100000 in
theorem f_h0 : f_s.heap[0]? = some { cls := 25, slots := f_cells, vm := .none } := rfl
set_option maxRecDepth 100000 in
theorem f_c25 : ∃ k : Class, f_s.vm.classes[25]? = some k ∧ k.kind = .array 24 .int := ⟨_, rfl, rfl⟩
set_option maxRecDepth 100000 in
theorem f_c27 : ∃ k : Class, f_s.vm.classes[27]? = some k ∧ k.kind = .array 26 .byte := ⟨_, rfl, rfl⟩
set_option maxRecDepth 100000 in
theorem f_c29 : ∃ k : Class, f_s.vm.classes[29]? = some k ∧ k.kind = .array 28 .char := ⟨_, rfl, rfl⟩
set_option maxRecDepth 100000 in
theorem f_c30 : ∃ k : Class, f_s.vm.classes[30]? = some k ∧ k.kind = .array 3 (.object "Tapebuffer$Row") := ⟨_, rfl, rfl⟩
set_option maxRecDepth 100000 in
theorem f_c31 : ∃ k : Class, f_s.vm.classes[31]? = some k ∧ k.kind = .array 25 (.array .int) := ⟨_, rfl, rfl⟩
theorem f_arr {c comp : ClassId} {ty : FieldType} (h : ∃ k : Class, f_s.vm.classes[c]? = some k ∧ k.kind = .array comp ty) : ArrOfT f_s c ty := by
  obtain ⟨k, h1, h2⟩ := h
  exact fun n z => ⟨fun q hq => (by cases hq), k, h1, comp, h2⟩
theorem f_K : ∃ D : va_G, va_K D vwCl (rf_T f_E) f_s ∧ va_P D vwCl [((f_E 5), .inr (0, [.ref 11, .int 0, .int 0, .int 0])), (11, .inl (f_E 0, 0, .inl z0))] f_s.heap := by
  obtain ⟨c0, i0, k0⟩ := u_known f_tbl f_i0.1 (f_tbl _ f_i0.2)
  obtain ⟨c1, i1, k1⟩ := u_known f_tbl f_i1.1 (f_tbl _ f_i1.2)
  obtain ⟨c2, i2, k2⟩ := u_known f_tbl f_i2.1 (f_tbl _ f_i2.2)
  obtain ⟨c3, i3, k3⟩ := u_known f_tbl f_i3.1 (f_tbl _ f_i3.2)
  obtain ⟨c4, i4, k4⟩ := u_known f_tbl f_i4.1 (f_tbl _ f_i4.2)
  obtain ⟨c5, i5, k5⟩ := u_known f_tbl f_i5.1 (f_tbl _ f_i5.2)
  obtain ⟨n0, n1, n2, n3, n4, n5, n6⟩ := f_names
  have e0 : c0 = 9 := Option.some.inj (k0.2.1.symm.trans n0)
  refine ⟨(fun c => match c with | 0 => c0 | 1 => c1 | 2 => c2 | 3 => c3 | 4 => c4 | _ => c5, fun c => match c with | 0 => i0 | 1 => i1 | 2 => i2 | 3 => i3 | 4 => i4 | _ => i5), ⟨fun c q hq => ?_, fun k q hq => ?_⟩, fun k q hq => ?_⟩
  · match c, hq with
    | 0, hq => cases hq; exact k0
    | 1, hq => cases hq; exact k1
    | 2, hq => cases hq; exact k2
    | 3, hq => cases hq; exact k3
    | 4, hq => cases hq; exact k4
    | 5, hq => cases hq; exact k5
    | c + 6, hq => cases hq
  · match k, hq with
    | 0, hq => cases hq; exact ⟨f_arr f_c27, n1⟩
    | 1, hq => cases hq; exact ⟨f_arr f_c29, n2⟩
    | 2, hq => cases hq; exact ⟨f_arr f_c25, n3⟩
    | 3, hq =>
      cases hq
      obtain ⟨kA, h1, h2⟩ := f_c30
      exact ⟨f_arr f_c30, kA, 3, h1, h2, n6, n4⟩
    | 4, hq => cases hq; exact ⟨f_arr f_c31, n5⟩
    | k + 5, hq => cases hq
  · match k, hq with
    | 0, hq =>
      cases hq
      refine ⟨(RJ0, TJ0, 4), rfl, _, f_h10, e0.symm, rfl, fun j hj => ?_⟩
      obtain ⟨s0, s1, s2, s3⟩ := f_s0
      have hj4 : j < 4 := hj
      have hj' : j = 0 ∨ j = 1 ∨ j = 2 ∨ j = 3 := by omega
      rcases hj' with rfl | rfl | rfl | rfl
      · show (#[.ref 11, .int 0, .int 0, .int 0] : Array Value)[i0 0]? = _
        rw [f_slot s0 _ (k0.1 0 (by decide))]; rfl
      · show (#[.ref 11, .int 0, .int 0, .int 0] : Array Value)[i0 1]? = _
        rw [f_slot s1 _ (k0.1 1 (by decide))]; rfl
      · show (#[.ref 11, .int 0, .int 0, .int 0] : Array Value)[i0 2]? = _
        rw [f_slot s2 _ (k0.1 2 (by decide))]; rfl
      · show (#[.ref 11, .int 0, .int 0, .int 0] : Array Value)[i0 3]? = _
        rw [f_slot s3 _ (k0.1 3 (by decide))]; rfl
    | 1, hq => cases hq; exact f_h11
    | k + 2, hq => cases hq
def f_A : Nat → Prop := fun q => q = f_E 5 ∨ q = 11 ∨ f_s.heap.size ≤ q
theorem f_D : va_D f_A [((f_E 5), .inr (0, [.ref 11, .int 0, .int 0, .int 0])), (11, .inl (f_E 0, 0, .inl z0))] := by
  refine ⟨fun i j p q hi hj e => ?_, fun k q hq => ?_⟩
  · match i, j, hi, hj with
    | 0, 0, _, _ => rfl
    | 1, 1, _, _ => rfl
    | 0, 1, hi, hj => cases hi; cases hj; exact absurd e (by decide)
    | 1, 0, hi, hj => cases hi; cases hj; exact absurd e (by decide)
    | i + 2, _, hi, _ => cases hi
    | 0, j + 2, _, hj => cases hj
    | 1, j + 2, _, hj => cases hj
  · match k, hq with
    | 0, hq => cases hq; exact Or.inl rfl
    | 1, hq => cases hq; exact Or.inr (Or.inl rfl)
    | k + 2, hq => cases hq
theorem f_X : va_X 0 2560 sc f_s f_s.heap := by
  obtain ⟨k, h1, h2⟩ := f_c25
  exact ⟨_, f_h0, ⟨fun q hq => (by cases hq), k, h1, 24, h2⟩, (fun q => by cases q), f_size, f_at⟩
set_option maxRecDepth 100000 in
theorem f_pre : (Cond.and given_1 narrow_1).before start1.args0 f_s = true := by decide +kernel
theorem f_words2 : Cond.laysStatic "java/lang/String" "COMPACT_STRINGS" "Z" ∈ lw_tbl ∧ Cond.initialized "java/lang/String" ∈ lw_tbl ∧ Cond.arrayOver (.object "Tapebuffer$Row") ∈ lw_tbl ∧ Cond.arrayOver (.array .int) ∈ lw_tbl ∧ Cond.fieldLinkNest RL 13 "TapebufferLaw$Out" "n" "J" RL ∈ lw_tbl ∧ Cond.fieldLinkNest RL 109 "TapebufferLaw$Out" "s" "Ljava/lang/String;" RL ∈ lw_tbl ∧ Cond.methodLinkNest RL 182 yX2_init RL ∈ lw_tbl ∧ Cond.stringRef RX3 50 "" ∈ lw_tbl ∧ Cond.castable "[B" "java/lang/Cloneable" ∈ lw_tbl := by decide +kernel
theorem f_Z : va_Z "java/lang/String" "COMPACT_STRINGS" "Z" (.int 1) f_A f_s f_s.heap := by
  have h := va_Zof (A := fun q => f_s.heap.size ≤ q) (f_tbl _ f_words2.1) (f_tbl _ f_words2.2.1) (va_eqi (z := 1) (flat_of_before _ f_pre _ (by decide +kernel))) (fun a ha => Nat.not_le.mpr ha)
  obtain ⟨cf, kf, fi, f, a, cell, h1, h2, h3, h4, h5, h6, h7, h8⟩ := h
  refine ⟨cf, kf, fi, f, a, cell, h1, h2, h3, h4, h5, h6, h7, fun h9 => ?_⟩
  rcases h9 with e | e | e
  · have e' : a = 10 := e
    rw [e', f_h10] at h5
    cases h5
    cases h6
  · rw [e, f_h11] at h5
    cases h5
    cases h6
  · exact h8 e
set_option maxRecDepth 100000 in
theorem f_str : (Term.string RX3 50).eval start1.args0 f_s none [] f_s = some (.ref 10) := by decide +kernel
theorem f_N : rf_N f_E f_s := by
  obtain ⟨-, -, w1, w2, w3, w4, -, w5, w6⟩ := f_words2
  exact ⟨va_Nw.of rfl (f_tbl _ w6), vk_R.of (A := start1.args0) (f_tbl _ w5) f_str, va_AO.of (f_tbl _ w1), f_ao rfl (f_tbl _ w2), f_c31, va_Nw.of rfl (f_tbl _ w3), va_Nw.of rfl (f_tbl _ w4)⟩
end
section
/-! The end: the law's run from that start on a roomier machine ends, and breaks the claim's own bound on what is new. -/
theorem f_met : MetFree launch0 x (headSpec (Cond.code x code maxLocals ret :: tables_1) rf_room) (fun args s => args = start1.args0 ∧ s = f_s) (fun _ _ _ _ _ => True) (fun _ s o t => 6700000 < rf_sum s.heap.size t.heap) := by
  refine MetFree.of_bodyS (code := code) (maxLocals := maxLocals) (ret := ret) (by decide) ?_ ?_
  · intro args s m h hn
    obtain ⟨meth, c, h1, h2, h3, h4, h5, h6, -, -⟩ := Cond.code_spec hn (atoms_spec (ws := Cond.code x code maxLocals ret :: tables_1) h _ List.mem_cons_self)
    exact ⟨meth, c, h1, h2, h3, h4, h5, h6⟩
  · intro p e s m args below meth c s₁ B hml0 hPs _
    obtain ⟨rfl, rfl⟩ := hPs
    have hown : f_s.vm.findClass RL = some m.cls := findClass_of_methodNamed B.named
    have hml : c.maxLocals = 7 := B.maxLocals_eq (f_words _ List.mem_cons_self)
    have X₀ := Stand.of_body B
    have hh0 : s₁.heap = f_s.heap := by rw [B.state]; rfl
    obtain ⟨D, hK, hP⟩ := f_K
    have hbl : 11 < f_s.heap.size := (Array.getElem?_eq_some_iff.mp f_h11).1
    have K := law_walk (p := p) (e := e) (s := f_s) (mI := m) (below := below) (meth := meth) (c := c) launch0 D f_E (b := 0) (kb := 11) (kh := .int 0) (kz := .int 0) (A := f_A) B.exec B.bytes B.returns hml hown f_all B.notSynchronized f_X (by omega) (fun h => by rcases h with h | h | h; exact absurd h (by decide); exact absurd h (by decide); omega) (fun q h => Or.inr (Or.inr h)) (fun q h => h) hK hP f_D f_Z f_N (va_Nw.of rfl (f_tbl _ f_words2.2.2.2.2.2.2.1))
    rw [← hh0] at K
    obtain ⟨t, a1, o, b1, b2, b3⟩ := K s₁ rfl X₀
    exact ⟨t, o, a1, b1, b2, b3⟩
set_option maxRecDepth 100000 in
theorem f_args : argsFit f_s.vm ⟨0, 0⟩ start1.args0 = true := by decide +kernel
theorem f_fit (i : Nat) (z : Int32) : f_s.fitsSlot 25 .none i (.int z) = true := by
  obtain ⟨k, h1, h2⟩ := f_c25
  simp [State.fitsSlot, State.slotType?, h1, h2, fits]
set_option maxRecDepth 100000 in
theorem f_heap1 : (f_s.heap.toList.drop 1).all (cellFits f_s) = true := by decide +kernel
theorem f_cellfit (c : Cell) (hc : c.cls = 25) (hv : c.vm = .none) (hs : c.slots = f_cells) : cellFits f_s c = true := by
  unfold cellFits
  refine List.all_eq_true.mpr fun i hi => ?_
  rw [hs] at hi ⊢
  have hi2 : i < f_cells.size := List.mem_range.mp hi
  rw [f_size] at hi2
  rw [f_at i hi2, hc, hv]
  exact f_fit i _
theorem f_heap : heapFits f_s = true := by
  show f_s.heap.all (cellFits f_s) = true
  rw [← Array.all_toList]
  have e : f_s.heap.toList = { cls := 25, slots := f_cells, vm := .none } :: f_s.heap.toList.drop 1 := by
    have h := f_h0
    rw [← Array.getElem?_toList] at h
    cases hl : f_s.heap.toList with
    | nil => rw [hl] at h; cases h
    | cons a r => rw [hl] at h; cases h; rfl
  rw [e, List.all_cons, f_heap1, Bool.and_true]
  exact f_cellfit _ rfl rfl rfl
end
section
set_option maxRecDepth 100000 in
theorem f_true : f_s.slotsTrue = true := by decide +kernel
set_option maxRecDepth 100000 in
theorem f_nums : f_s.frames.length + 2048 ≤ launch0.maxFrames ∧ f_s.localsInUse + 84000 ≤ launch0.maxStackSlots - stackMargin ∧ f_s.heap.size + 1000000 ≤ 2000000 ∧ f_s.slotsUsed + 400000000 ≤ 1000000000 ∧ f_s.localsInUse + 84000 + stackMargin ≤ realStackBytes / 8 := by decide +kernel
theorem f_room (r : Room) (h1 : r.frames ≤ 2048) (h2 : r.locals ≤ 84000) (h3 : r.cells ≤ 1000000) (h4 : r.slots ≤ 400000000) : f_s.hasRoom f_e.platform r = true := by
  obtain ⟨n1, n2, n3, n4, n5⟩ := f_nums
  refine State.hasRoom_of rfl ?_ ?_ ?_ ?_ f_true (Nat.le_trans (Nat.add_le_add_right (Nat.add_le_add_left h2 _) _) n5)
  · exact Nat.le_trans (Nat.le_trans (Nat.add_le_add_left h1 _) n1) (Nat.le_max_left _ _)
  · exact Nat.le_trans (Nat.le_trans (Nat.add_le_add_left h2 _) n2) (Nat.le_max_left _ _)
  · exact Nat.le_trans (Nat.le_trans (Nat.add_le_add_left h3 _) n3) (Nat.le_max_right _ _)
  · exact Nat.le_trans (Nat.le_trans (Nat.add_le_add_left h4 _) n4) (Nat.le_max_right _ _)
set_option maxRecDepth 100000 in
theorem f_applies (r : Room) (h1 : r.frames ≤ 2048) (h2 : r.locals ≤ 84000) (h3 : r.cells ≤ 1000000) (h4 : r.slots ≤ 400000000) : (headSpec (Cond.code x code maxLocals ret :: tables_1) r).applies x f_e.platform f_s = true :=
  (Spec.applies_iff rfl).mpr ⟨rfl, rfl, rfl, by decide +kernel, by decide +kernel, by decide +kernel, f_room r h1 h2 h3 h4, atoms_intro f_words⟩
theorem f_arrayAt : f_s.arrayAt? 0 = some { cls := 25, slots := f_cells, vm := .none } := by
  obtain ⟨k, h1, h2⟩ := f_c25
  simp [State.arrayAt?, f_h0, h1, h2]
  rfl
theorem f_and {A B : Cond} {args : Array Value} {s : State} (ha : A.value args s none s [] = some true) (hb : B.value args s none s [] = some true) : (Cond.and A B).before args s = true := by
  simp [Cond.before, Cond.holds, Cond.value, ha, hb]
theorem f_rest : rest_1_c.before start1.args0 f_s = true := by
  have hb := Cond.all_intro (args := start1.args0) (first := f_s) (o := none) (idx := []) (t := .arg 0) (c := .isInt (.elem (.arg 0) (.index 0))) (a := 0) rfl f_arrayAt (fun i hi => by
    have hi2 : i < f_cells.size := hi
    rw [f_size] at hi2
    have hi31 : i < 2 ^ 31 := Nat.lt_trans hi2 (by decide)
    have hneg : ¬ (i.toInt32 < 0) := Int32.ofNat_not_neg hi31
    have hnat : i.toInt32.toNatClampNeg = i := by
      show (Int32.ofNat i).toInt.toNat = i
      rw [Int32.toInt_ofNat_small hi31]; rfl
    have h0 : (Term.arg 0).eval start1.args0 f_s none [i] f_s = some (.ref 0) := rfl
    simp [Cond.value, Term.eval, h0, start1.args0, f_arrayAt, hneg, hnat, f_at i hi2])
  have ha : (Cond.isInt (.length (.arg 0))).value start1.args0 f_s none f_s [] = some true := by
    simp [Cond.value, Term.eval, start1.args0, f_arrayAt, f_size]
  exact f_and ha hb
set_option maxRecDepth 100000 in
theorem claim_false : ¬ Claimed_1_1 := by
  intro h
  obtain ⟨n, o, hw, hr, he, hpost⟩ := h launch0 rfl lists_1 trivial start1.p0 f_e (launch0.admits_env _ _ _) fairChoices_fair.cas fairChoices_fair.clock f_s ⟨0, 0⟩ start1.args0 Lib.HandBits.below0 rfl f_args f_heap (f_applies room_1 (by decide) (by decide) (by decide) (by decide)) ⟨trivial, f_rest, f_pre⟩
  obtain ⟨n2, o2, hw2, hr2, he2, hq⟩ := f_met start1.p0 f_e (launch0.admits_env _ _ _) fairChoices_fair.cas fairChoices_fair.clock f_s ⟨0, 0⟩ start1.args0 Lib.HandBits.below0 rfl ((Spec.applies_iff_loose rfl).mp (f_applies rf_room (by decide) (by decide) (by decide) (by decide))).1 ⟨rfl, rfl⟩ trivial
  have hn : n = n2 := by
    rcases Nat.lt_trichotomy n n2 with hlt | e | hlt
    · exact absurd (hw2 n hlt) he.not_within
    · exact e
    · exact absurd (hw n2 hlt) he2.not_within
  subst hn
  obtain ⟨-, -, -, hsame⟩ := hpost
  have hle : rf_sum f_s.heap.size (stepsAlone start1.p0.tables f_e n f_s).heap ≤ 6700000 := Nat.le_trans hsame.2.2.2.2.1 (by decide)
  omega
/-- what the claim owes can't be had: the room (REPORT.md, S1) -/
theorem owed_false : ¬ (Claimed_1_1 ∧ Claimed_1_2) := fun h => claim_false h.1
end
