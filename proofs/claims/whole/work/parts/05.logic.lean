
/-! ===== the logic of the pure machine: what a run of it says of the real one ===== -/
def cv (ad : Nat → Nat) (fm : Value) (v : Value) : Value := match v with
  | .ref k => if k = 120 then fm else .ref (ad k)
  | v => v
theorem cv_ref {ad : Nat → Nat} {fm : Value} {k : Nat} (h : k ≠ 120) : cv ad fm (.ref k) = .ref (ad k) := if_neg h
def fv (ad : Nat → Nat) (h : Hp) (ty : FieldType) (k f : Nat) : Value := match ty with
  | .long => .long (h.2 k f)
  | .object _ => .ref (ad (rf k f))
  | .array _ => .ref (ad (rf k f))
  | _ => .int (h.1 k f)
def fvs (ad : Nat → Nat) (h : Hp) (k c : Nat) : List Value := (List.range (nC c)).map (fun f => fv ad h (tyC c f) k f)
def enE (ad : Nat → Nat) (cI cJ cZ : ClassId) (h : Hp) (k : Nat) : va_E := match kd k with
  | (0, n) => .inl (cI, n, .inl (h.1 k))
  | (1, n) => .inl (cJ, n, .inr (.inl (h.2 k)))
  | (2, n) => .inl (cZ, n, .inl (h.1 k))
  | (_, c) => .inr (c, fvs ad h k c)
def wO (ad : Nat → Nat) (cI cJ cZ : ClassId) (h : Hp) : va_W := (List.range 95).map (fun k => (ad k, enE ad cI cJ cZ h k))
theorem wO_get {ad : Nat → Nat} {cI cJ cZ : ClassId} {h : Hp} {k : Nat} (hk : k < 95) : (wO ad cI cJ cZ h)[k]? = some (ad k, enE ad cI cJ cZ h k) := by
  simp [wO, hk]
theorem enE_congr {ad : Nat → Nat} {cI cJ cZ : ClassId} {h h' : Hp} {k : Nat} (h1 : h'.1 k = h.1 k) (h2 : h'.2 k = h.2 k) : enE ad cI cJ cZ h' k = enE ad cI cJ cZ h k := by
  simp only [enE, fvs, fv, h1, h2]
theorem wO_set {ad : Nat → Nat} {cI cJ cZ : ClassId} {h h' : Hp} {k : Nat} {e : va_E} (hk : k < 95) (he : enE ad cI cJ cZ h' k = e) (h1 : ∀ j, j ≠ k → h'.1 j = h.1 j) (h2 : ∀ j, j ≠ k → h'.2 j = h.2 j) : (wO ad cI cJ cZ h).set k (ad k, e) = wO ad cI cJ cZ h' := by
  apply List.ext_getElem?
  intro j
  rw [List.getElem?_set]
  by_cases hj : k = j
  · subst hj
    rw [if_pos rfl, wO_get hk, he]
    simp [wO, hk]
  · rw [if_neg hj]
    by_cases hl : j < 95
    · rw [wO_get hl, wO_get hl, enE_congr (h1 j (Ne.symm hj)) (h2 j (Ne.symm hj))]
    · have z : ∀ g : Hp, (wO ad cI cJ cZ g)[j]? = none := fun g => by simp [wO]; omega
      rw [z, z]
theorem sI_s (h : Hp) (k : Nat) (f : Nat → Int32) : (sI h k f).1 k = f := if_pos rfl
theorem sI_n {h : Hp} {k j : Nat} {f : Nat → Int32} (hj : j ≠ k) : (sI h k f).1 j = h.1 j := if_neg hj
theorem sI_2 (h : Hp) (k : Nat) (f : Nat → Int32) : (sI h k f).2 = h.2 := rfl
theorem sL_s (h : Hp) (k : Nat) (f : Nat → Int64) : (sL h k f).2 k = f := if_pos rfl
theorem sL_n {h : Hp} {k j : Nat} {f : Nat → Int64} (hj : j ≠ k) : (sL h k f).2 j = h.2 j := if_neg hj
theorem sL_1 (h : Hp) (k : Nat) (f : Nat → Int64) : (sL h k f).1 = h.1 := rfl
set_option maxRecDepth 10000 in
theorem kd_lt {k a b : Nat} (h : kd k = (a, b)) (ha : a < 4) : k < 95 := by
  by_cases hk : k < 116
  · have key : ∀ k, k < 116 → (kdL.getD k (9, 0)).1 < 4 → k < 95 := by decide +kernel
    refine key k hk ?_
    have h' : kdL.getD k (9, 0) = (a, b) := h
    rw [h']
    exact ha
  · have hl : kdL.length = 116 := by decide +kernel
    have hz : kdL[k]? = none := List.getElem?_eq_none (by omega)
    have h' : kdL.getD k (9, 0) = (a, b) := h
    rw [List.getD_eq_getElem?_getD, hz] at h'
    have := congrArg Prod.fst h'
    simp at this
    omega
def lenS : List Nat := [4, 2, 6, 4, 5, 6]
def bytS : List (List Int32) := [[119, 111, 114, 100], [105, 115], [114, 101, 99, 107, 111, 110], [109, 111, 114, 101], [102, 97, 108, 108, 115], [103, 114, 111, 117, 110, 100]]
def idxS : List Nat := [51, 61, 66, 68, 73, 75]
def txtS : List String := ["word", "is", "reckon", "more", "falls", "ground"]
def Sts (ad : Nat → Nat) (fm : Value) (xs : Nat → Int32) (L : Nat) (A : Nat → Prop) (U : State) (H : Heap) : Prop :=
  va_Z "ShakeLetters" "UNDER" "[I" (.ref (ad 96)) A U H ∧ va_T .int (ad 96) 6 (fun j => .int ((stI 96).getD j 0)) A U H ∧
  va_Z "ShakeLetters" "LAW_WITHOUT" "[I" (.ref (ad 97)) A U H ∧ va_T .int (ad 97) 8 (fun j => .int ((stI 97).getD j 0)) A U H ∧
  va_Z "java/lang/String" "COMPACT_STRINGS" "Z" (.int 1) A U H ∧
  va_Z "jdk/internal/util/Preconditions" "SIOOBE_FORMATTER" "Ljava/util/function/BiFunction;" fm A U H ∧
  vk_S 6 lenS bytS (fun i => ad (100 + i)) (fun i => ad (110 + i)) A U H ∧
  (∀ j, j < 6 → vk_R RX5 (idxS.getD j 0) (txtS.getD j "") (ad (100 + j)) U) ∧
  va_Nw (.methodLinkNest RX7 76 yX8_stepsBetween "ShakeLetters") U ∧ va_Nw (.methodLinkNest RX4 134 yX8_weightOfMiss "ShakeLetters") U ∧
  va_Nw (.fieldLinkNest RX1 53 "ShakeLetters" "UNDER" "[I" "ShakeLetters") U ∧ va_Nw (.fieldLinkNest RX7 67 "ShakeLetters" "LAW_WITHOUT" "[I" "ShakeLetters") U ∧
  va_X (ad 95) L xs U H ∧ ad 95 < H.size ∧ ¬ A (ad 95)
theorem Sts.same {ad : Nat → Nat} {fm : Value} {xs : Nat → Int32} {L : Nat} {A : Nat → Prop} {u U : State} {H : Heap} (hv : U.vm = u.vm) (h : Sts ad fm xs L A u H) : Sts ad fm xs L A U H := by
  obtain ⟨a1, a2, a3, a4, a5, a6, a7, a8, b1, b2, b3, b4, c1, c2, c3⟩ := h
  have al : u.vm.Alike U.vm := by rw [hv]; exact Vm.Alike.refl _
  exact ⟨a1.moved al, a2.moved al, a3.moved al, a4.moved al, a5.moved al, a6.moved al, a7.moved al, fun j hj => (a8 j hj).same hv, b1.same rfl hv.symm, b2.same rfl hv.symm, b3.same rfl hv.symm, b4.same rfl hv.symm, c1.moved al, c2, c3⟩
theorem Sts.go {ad : Nat → Nat} {fm : Value} {xs : Nat → Int32} {L : Nat} {A : Nat → Prop} {s U : State} {H : Heap} {locs : List Loc} (hS : va_S A s.heap H locs) (hU : U.heap = H) (hW : s.WarmedH U.vm) (h : Sts ad fm xs L A s s.heap) : Sts ad fm xs L A U U.heap := by
  obtain ⟨a1, a2, a3, a4, a5, a6, a7, a8, b1, b2, b3, b4, c1, c2, c3⟩ := h
  have al := hW.alike
  have hq := hS.2.1
  rw [hU]
  exact ⟨(a1.kept hq).moved al, (a2.kept hq).moved al, (a3.kept hq).moved al, (a4.kept hq).moved al, (a5.kept hq).moved al, (a6.kept hq).moved al, (a7.kept hq).moved al, fun j hj => (a8 j hj).warm hW, b1.warmM hW, b2.warmM hW, b3.warmF hW, b4.warmF hW, (c1.kept (hq _ c2 c3)).moved al, Nat.lt_of_lt_of_le c2 hS.1, c3⟩
abbrev tyz (cI cJ cZ : ClassId) : List (ClassId × FieldType) := [(cI, .int), (cJ, .long), (cZ, .boolean)]
/-- what stands while a method runs -/
def Cx (M : MD) (ad : Nat → Nat) (D : va_G) (cI cJ cZ : ClassId) (A : Nat → Prop) (fm : Value) (xs : Nat → Int32) (L : Nat) (p : Program) (R : Room) (s : State) (m : MethodId) (args : Array Value) (meth : Method) (c : Code) (cells slots : Nat) : Prop :=
  p.tables.exec = Jvm.exec ∧ c.code = M.1 ∧ c.maxLocals = M.2.2.2.1 ∧ s.vm.findClass (cnm M.2.2.1) = some m.cls ∧ (∀ w ∈ wall, w.before args s = true) ∧ (M.2.2.2.2.2.1 ≤ R.frames ∧ M.2.2.2.2.2.2 ≤ R.locals) ∧ va_K D vwCl (tyz cI cJ cZ) s ∧ Sts ad fm xs L A s s.heap ∧ (cells ≤ R.cells ∧ slots ≤ R.slots) ∧ fm.category = 1
/-- the real heap holds the pure one -/
def Cn (ad : Nat → Nat) (D : va_G) (cI cJ cZ : ClassId) (A : Nat → Prop) (xs : Nat → Int32) (L : Nat) (s : State) (h : Hp) (H : Heap) (locs : List Loc) : Prop :=
  va_P D vwCl (wO ad cI cJ cZ h) H ∧ va_D A (wO ad cI cJ cZ h) ∧ va_S A s.heap H locs ∧ h.1 95 = xs ∧ h.2 95 0 = lN L ∧ L ≤ 3072
def pr (ad : Nat → Nat) (fm : Value) (ls : List Value) : List (Nat × Value) := (List.range ls.length).filterMap (fun i => match (ls[i]? : Option Value) with
  | some Value.null => none
  | some v => some (i, cv ad fm v)
  | none => none)
theorem pr_mem {ad : Nat → Nat} {fm : Value} {ls : List Value} {i : Nat} {v : Value} (h : ls[i]? = some v) (hv : v ≠ .null) : (i, cv ad fm v) ∈ pr ad fm ls := by
  have hi : i < ls.length := (List.getElem?_eq_some_iff.mp h).1
  refine List.mem_filterMap.mpr ⟨i, List.mem_range.mpr hi, ?_⟩
  rw [h]
  cases v <;> first | rfl | exact absurd rfl hv
theorem pr_of {ad : Nat → Nat} {fm : Value} {ls : List Value} {q : Nat × Value} (h : q ∈ pr ad fm ls) : ∃ v, ls[q.1]? = some v ∧ v ≠ .null ∧ q.2 = cv ad fm v := by
  obtain ⟨i, -, hi⟩ := List.mem_filterMap.mp h
  cases hv : ls[i]? with
  | none => rw [hv] at hi; cases hi
  | some v =>
    rw [hv] at hi
    cases v <;> first | (cases hi; done) | (simp only [Option.some.injEq] at hi; subst hi; exact ⟨_, hv, (fun z => by cases z), rfl⟩)
theorem lv_weak {lsA : Array Slot} {n : Nat} {l l' : List (Nat × Value)} (h : lv_has lsA n l) (hs : ∀ q ∈ l', q ∈ l) : lv_has lsA n l' := ⟨h.1, h.2.1, fun q hq => h.2.2 q (hs q hq)⟩
theorem pr_at {ad : Nat → Nat} {fm : Value} {ls : List Value} {i n : Nat} {v : Value} {lsA : Array Slot} (hl : lv_has lsA n (pr ad fm ls)) (h : ls[i]? = some v) (hv : v ≠ .null) : lsA[i]? = some (.val (cv ad fm v)) := hl.2.2 (i, cv ad fm v) (pr_mem h hv)
def rtn (M : MD) (pc : Nat) (r : Option Value) : Prop := match r with
  | none => decode M.1 pc = .ok (.return_, 1) ∧ M.2.2.2.2.1 = none
  | some (.int v) => decode M.1 pc = .ok (.ireturn, 1) ∧ ∃ ty, M.2.2.2.2.1 = some ty ∧ narrow ty (.int v) = .int v
  | some (.long _) => decode M.1 pc = .ok (.lreturn, 1) ∧ M.2.2.2.2.1 = some .long
  | _ => False
/-- from here the method comes to a return with x.1, the heap then being x.2 -/
def Gd (M : MD) (pc : Nat) (ls st : List Value) (h : Hp) (x : Option Value × Hp) : Prop :=
  ∀ (l : Launch) (ad : Nat → Nat) (D : va_G) (cI cJ cZ : ClassId) (A : Nat → Prop) (fm : Value) (xs : Nat → Int32) (L : Nat) (p : Program) (e : Env) (R : Room) (s : State) (m : MethodId) (args : Array Value) (below : List Frame) (meth : Method) (c : Code) (cells slots : Nat) (Q : State → Prop),
    Cx M ad D cI cJ cZ A fm xs L p R s m args meth c cells slots →
    (∀ (H' : Heap) (locs' : List Loc) (lsA' : Array Slot) (pc' : Nat), Cn ad D cI cJ cZ A xs L s x.2 H' locs' → rtn M pc' x.1 → W p l e R s m args below meth c H' locs' cells slots Q (F0 m pc' lsA' (x.1.toList.map (cv ad fm)))) →
    ∀ (H : Heap) (locs : List Loc) (lsA : Array Slot), Cn ad D cI cJ cZ A xs L s h H locs → lv_has lsA M.2.2.2.1 (pr ad fm ls) → ls.length = M.2.2.2.1 → W p l e R s m args below meth c H locs cells slots Q (F0 m pc lsA (st.map (cv ad fm)))
section GD
variable {M : MD} {pc : Nat} {ls st : List Value} {h : Hp} {x : Option Value × Hp}

theorem gd_iconst {n : Int} {v : Int32} (hd : decode M.1 pc = .ok (.iconst n, 1)) (hv : Int32.ofInt n = v) (g : Gd M (pc + 1) ls (.int v :: st) h x) : Gd M pc ls st h x := by
  intro l ad D cI cJ cZ A fm xs L p e R s m args below meth c cells slots Q hC hR H locs lsA hN hl hn
  exact lv_iconst hC.1 hC.2.1 hd hv (g l ad D cI cJ cZ A fm xs L p e R s m args below meth c cells slots Q hC hR H locs lsA hN hl hn)
theorem gd_bipush {n : Int} {v : Int32} (hd : decode M.1 pc = .ok (.bipush n, 2)) (hv : (Int8.ofInt n).toInt32 = v) (g : Gd M (pc + 2) ls (.int v :: st) h x) : Gd M pc ls st h x := by
  intro l ad D cI cJ cZ A fm xs L p e R s m args below meth c cells slots Q hC hR H locs lsA hN hl hn
  exact lv_bipush hC.1 hC.2.1 hd hv (g l ad D cI cJ cZ A fm xs L p e R s m args below meth c cells slots Q hC hR H locs lsA hN hl hn)
theorem gd_sipush {n : Int} {v : Int32} (hd : decode M.1 pc = .ok (.sipush n, 3)) (hv : (Int16.ofInt n).toInt32 = v) (g : Gd M (pc + 3) ls (.int v :: st) h x) : Gd M pc ls st h x := by
  intro l ad D cI cJ cZ A fm xs L p e R s m args below meth c cells slots Q hC hR H locs lsA hN hl hn
  exact lv_sipush hC.1 hC.2.1 hd hv (g l ad D cI cJ cZ A fm xs L p e R s m args below meth c cells slots Q hC hR H locs lsA hN hl hn)
theorem gd_lconst {n : Fin 2} {v : Int64} (hd : decode M.1 pc = .ok (.lconst n, 1)) (hv : Int64.ofNat (n : Nat) = v) (g : Gd M (pc + 1) ls (.long v :: st) h x) : Gd M pc ls st h x := by
  intro l ad D cI cJ cZ A fm xs L p e R s m args below meth c cells slots Q hC hR H locs lsA hN hl hn
  exact lv_lconst hC.1 hC.2.1 hd hv (g l ad D cI cJ cZ A fm xs L p e R s m args below meth c cells slots Q hC hR H locs lsA hN hl hn)
theorem gd_ldc {i : Nat} {v : Int32} (hd : decode M.1 pc = .ok (.ldc i, 2)) (hc : Cond.constant (cnm M.2.2.1) i v ∈ wall) (g : Gd M (pc + 2) ls (.int v :: st) h x) : Gd M pc ls st h x := by
  intro l ad D cI cJ cZ A fm xs L p e R s m args below meth c cells slots Q hC hR H locs lsA hN hl hn
  exact lv_ldc hC.1 hC.2.1 hC.2.2.2.1 (hC.2.2.2.2.1 _ hc) hd (g l ad D cI cJ cZ A fm xs L p e R s m args below meth c cells slots Q hC hR H locs lsA hN hl hn)
theorem gd_ldcw {i : Nat} {v : Int32} (hd : decode M.1 pc = .ok (.ldc_w i, 3)) (hc : Cond.constant (cnm M.2.2.1) i v ∈ wall) (g : Gd M (pc + 3) ls (.int v :: st) h x) : Gd M pc ls st h x := by
  intro l ad D cI cJ cZ A fm xs L p e R s m args below meth c cells slots Q hC hR H locs lsA hN hl hn
  exact lv_ldcw hC.1 hC.2.1 hC.2.2.2.1 (hC.2.2.2.2.1 _ hc) hd (g l ad D cI cJ cZ A fm xs L p e R s m args below meth c cells slots Q hC hR H locs lsA hN hl hn)
theorem gd_ldc2 {i : Nat} {v : Int64} (hd : decode M.1 pc = .ok (.ldc2_w i, 3)) (hc : Cond.constantLong (cnm M.2.2.1) i v ∈ wall) (g : Gd M (pc + 3) ls (.long v :: st) h x) : Gd M pc ls st h x := by
  intro l ad D cI cJ cZ A fm xs L p e R s m args below meth c cells slots Q hC hR H locs lsA hN hl hn
  exact lv_ldc2 hC.1 hC.2.1 hC.2.2.2.1 (hC.2.2.2.2.1 _ hc) hd (g l ad D cI cJ cZ A fm xs L p e R s m args below meth c cells slots Q hC hR H locs lsA hN hl hn)
theorem gd_iadd {a b : Int32} (hd : decode M.1 pc = .ok (.iadd, 1)) (g : Gd M (pc + 1) ls (.int (a + b) :: st) h x) : Gd M pc ls (.int b :: .int a :: st) h x := by
  intro l ad D cI cJ cZ A fm xs L p e R s m args below meth c cells slots Q hC hR H locs lsA hN hl hn
  exact lv_iadd hC.1 hC.2.1 hd (g l ad D cI cJ cZ A fm xs L p e R s m args below meth c cells slots Q hC hR H locs lsA hN hl hn)
theorem gd_isub {a b : Int32} (hd : decode M.1 pc = .ok (.isub, 1)) (g : Gd M (pc + 1) ls (.int (a - b) :: st) h x) : Gd M pc ls (.int b :: .int a :: st) h x := by
  intro l ad D cI cJ cZ A fm xs L p e R s m args below meth c cells slots Q hC hR H locs lsA hN hl hn
  exact lv_isub hC.1 hC.2.1 hd (g l ad D cI cJ cZ A fm xs L p e R s m args below meth c cells slots Q hC hR H locs lsA hN hl hn)
theorem gd_imul {a b : Int32} (hd : decode M.1 pc = .ok (.imul, 1)) (g : Gd M (pc + 1) ls (.int (a * b) :: st) h x) : Gd M pc ls (.int b :: .int a :: st) h x := by
  intro l ad D cI cJ cZ A fm xs L p e R s m args below meth c cells slots Q hC hR H locs lsA hN hl hn
  exact lv_imul hC.1 hC.2.1 hd (g l ad D cI cJ cZ A fm xs L p e R s m args below meth c cells slots Q hC hR H locs lsA hN hl hn)
theorem gd_iand {a b : Int32} (hd : decode M.1 pc = .ok (.iand, 1)) (g : Gd M (pc + 1) ls (.int (a &&& b) :: st) h x) : Gd M pc ls (.int b :: .int a :: st) h x := by
  intro l ad D cI cJ cZ A fm xs L p e R s m args below meth c cells slots Q hC hR H locs lsA hN hl hn
  exact lv_iand hC.1 hC.2.1 hd (g l ad D cI cJ cZ A fm xs L p e R s m args below meth c cells slots Q hC hR H locs lsA hN hl hn)
theorem gd_ior {a b : Int32} (hd : decode M.1 pc = .ok (.ior, 1)) (g : Gd M (pc + 1) ls (.int (a ||| b) :: st) h x) : Gd M pc ls (.int b :: .int a :: st) h x := by
  intro l ad D cI cJ cZ A fm xs L p e R s m args below meth c cells slots Q hC hR H locs lsA hN hl hn
  exact lv_ior hC.1 hC.2.1 hd (g l ad D cI cJ cZ A fm xs L p e R s m args below meth c cells slots Q hC hR H locs lsA hN hl hn)
theorem gd_ixor {a b : Int32} (hd : decode M.1 pc = .ok (.ixor, 1)) (g : Gd M (pc + 1) ls (.int (a ^^^ b) :: st) h x) : Gd M pc ls (.int b :: .int a :: st) h x := by
  intro l ad D cI cJ cZ A fm xs L p e R s m args below meth c cells slots Q hC hR H locs lsA hN hl hn
  exact lv_ixor hC.1 hC.2.1 hd (g l ad D cI cJ cZ A fm xs L p e R s m args below meth c cells slots Q hC hR H locs lsA hN hl hn)
theorem gd_ishl {a b : Int32} (hd : decode M.1 pc = .ok (.ishl, 1)) (g : Gd M (pc + 1) ls (.int (a <<< (b &&& 31)) :: st) h x) : Gd M pc ls (.int b :: .int a :: st) h x := by
  intro l ad D cI cJ cZ A fm xs L p e R s m args below meth c cells slots Q hC hR H locs lsA hN hl hn
  exact lv_ishl hC.1 hC.2.1 hd (g l ad D cI cJ cZ A fm xs L p e R s m args below meth c cells slots Q hC hR H locs lsA hN hl hn)
theorem gd_ishr {a b : Int32} (hd : decode M.1 pc = .ok (.ishr, 1)) (g : Gd M (pc + 1) ls (.int (a >>> (b &&& 31)) :: st) h x) : Gd M pc ls (.int b :: .int a :: st) h x := by
  intro l ad D cI cJ cZ A fm xs L p e R s m args below meth c cells slots Q hC hR H locs lsA hN hl hn
  exact lv_ishr hC.1 hC.2.1 hd (g l ad D cI cJ cZ A fm xs L p e R s m args below meth c cells slots Q hC hR H locs lsA hN hl hn)
theorem gd_iushr {a b : Int32} (hd : decode M.1 pc = .ok (.iushr, 1)) (g : Gd M (pc + 1) ls (.int (a.toUInt32 >>> (b.toUInt32 &&& Int32.toUInt32 31)).toInt32 :: st) h x) : Gd M pc ls (.int b :: .int a :: st) h x := by
  intro l ad D cI cJ cZ A fm xs L p e R s m args below meth c cells slots Q hC hR H locs lsA hN hl hn
  exact lv_iushr hC.1 hC.2.1 hd rfl (g l ad D cI cJ cZ A fm xs L p e R s m args below meth c cells slots Q hC hR H locs lsA hN hl hn)
theorem gd_ladd {a b : Int64} (hd : decode M.1 pc = .ok (.ladd, 1)) (g : Gd M (pc + 1) ls (.long (a + b) :: st) h x) : Gd M pc ls (.long b :: .long a :: st) h x := by
  intro l ad D cI cJ cZ A fm xs L p e R s m args below meth c cells slots Q hC hR H locs lsA hN hl hn
  exact lv_ladd hC.1 hC.2.1 hd (g l ad D cI cJ cZ A fm xs L p e R s m args below meth c cells slots Q hC hR H locs lsA hN hl hn)
theorem gd_lsub {a b : Int64} (hd : decode M.1 pc = .ok (.lsub, 1)) (g : Gd M (pc + 1) ls (.long (a - b) :: st) h x) : Gd M pc ls (.long b :: .long a :: st) h x := by
  intro l ad D cI cJ cZ A fm xs L p e R s m args below meth c cells slots Q hC hR H locs lsA hN hl hn
  exact lv_lsub hC.1 hC.2.1 hd (g l ad D cI cJ cZ A fm xs L p e R s m args below meth c cells slots Q hC hR H locs lsA hN hl hn)
theorem gd_lmul {a b : Int64} (hd : decode M.1 pc = .ok (.lmul, 1)) (g : Gd M (pc + 1) ls (.long (a * b) :: st) h x) : Gd M pc ls (.long b :: .long a :: st) h x := by
  intro l ad D cI cJ cZ A fm xs L p e R s m args below meth c cells slots Q hC hR H locs lsA hN hl hn
  exact lv_lmul hC.1 hC.2.1 hd (g l ad D cI cJ cZ A fm xs L p e R s m args below meth c cells slots Q hC hR H locs lsA hN hl hn)
theorem gd_land {a b : Int64} (hd : decode M.1 pc = .ok (.land, 1)) (g : Gd M (pc + 1) ls (.long (a &&& b) :: st) h x) : Gd M pc ls (.long b :: .long a :: st) h x := by
  intro l ad D cI cJ cZ A fm xs L p e R s m args below meth c cells slots Q hC hR H locs lsA hN hl hn
  exact lv_land hC.1 hC.2.1 hd (g l ad D cI cJ cZ A fm xs L p e R s m args below meth c cells slots Q hC hR H locs lsA hN hl hn)
theorem gd_lor {a b : Int64} (hd : decode M.1 pc = .ok (.lor, 1)) (g : Gd M (pc + 1) ls (.long (a ||| b) :: st) h x) : Gd M pc ls (.long b :: .long a :: st) h x := by
  intro l ad D cI cJ cZ A fm xs L p e R s m args below meth c cells slots Q hC hR H locs lsA hN hl hn
  exact lv_lor hC.1 hC.2.1 hd (g l ad D cI cJ cZ A fm xs L p e R s m args below meth c cells slots Q hC hR H locs lsA hN hl hn)
theorem gd_lshl {a : Int64} {b : Int32} (hd : decode M.1 pc = .ok (.lshl, 1)) (g : Gd M (pc + 1) ls (.long (a <<< (b.toInt64 &&& 63)) :: st) h x) : Gd M pc ls (.int b :: .long a :: st) h x := by
  intro l ad D cI cJ cZ A fm xs L p e R s m args below meth c cells slots Q hC hR H locs lsA hN hl hn
  exact lv_lshl hC.1 hC.2.1 hd rfl (g l ad D cI cJ cZ A fm xs L p e R s m args below meth c cells slots Q hC hR H locs lsA hN hl hn)
theorem gd_lcmp {a b : Int64} (hd : decode M.1 pc = .ok (.lcmp, 1)) (g : Gd M (pc + 1) ls (.int (lg_cmp a b) :: st) h x) : Gd M pc ls (.long b :: .long a :: st) h x := by
  intro l ad D cI cJ cZ A fm xs L p e R s m args below meth c cells slots Q hC hR H locs lsA hN hl hn
  exact W.lcmp hC.1 hC.2.1 hd (g l ad D cI cJ cZ A fm xs L p e R s m args below meth c cells slots Q hC hR H locs lsA hN hl hn)
theorem gd_i2l {a : Int32} (hd : decode M.1 pc = .ok (.i2l, 1)) (g : Gd M (pc + 1) ls (.long a.toInt64 :: st) h x) : Gd M pc ls (.int a :: st) h x := by
  intro l ad D cI cJ cZ A fm xs L p e R s m args below meth c cells slots Q hC hR H locs lsA hN hl hn
  exact lv_i2l hC.1 hC.2.1 hd rfl (g l ad D cI cJ cZ A fm xs L p e R s m args below meth c cells slots Q hC hR H locs lsA hN hl hn)
theorem gd_l2i {a : Int64} (hd : decode M.1 pc = .ok (.l2i, 1)) (g : Gd M (pc + 1) ls (.int a.toInt32 :: st) h x) : Gd M pc ls (.long a :: st) h x := by
  intro l ad D cI cJ cZ A fm xs L p e R s m args below meth c cells slots Q hC hR H locs lsA hN hl hn
  exact lv_l2i hC.1 hC.2.1 hd rfl (g l ad D cI cJ cZ A fm xs L p e R s m args below meth c cells slots Q hC hR H locs lsA hN hl hn)
theorem gd_i2b {a : Int32} (hd : decode M.1 pc = .ok (.i2b, 1)) (g : Gd M (pc + 1) ls (.int a.toInt8.toInt32 :: st) h x) : Gd M pc ls (.int a :: st) h x := by
  intro l ad D cI cJ cZ A fm xs L p e R s m args below meth c cells slots Q hC hR H locs lsA hN hl hn
  exact lv_i2b hC.1 hC.2.1 hd rfl (g l ad D cI cJ cZ A fm xs L p e R s m args below meth c cells slots Q hC hR H locs lsA hN hl hn)
theorem gd_i2s {a : Int32} (hd : decode M.1 pc = .ok (.i2s, 1)) (g : Gd M (pc + 1) ls (.int a.toInt16.toInt32 :: st) h x) : Gd M pc ls (.int a :: st) h x := by
  intro l ad D cI cJ cZ A fm xs L p e R s m args below meth c cells slots Q hC hR H locs lsA hN hl hn
  exact lv_i2s hC.1 hC.2.1 hd rfl (g l ad D cI cJ cZ A fm xs L p e R s m args below meth c cells slots Q hC hR H locs lsA hN hl hn)
theorem gd_i2c {a : Int32} (hd : decode M.1 pc = .ok (.i2c, 1)) (g : Gd M (pc + 1) ls (.int (a.toUInt32 % 65536).toInt32 :: st) h x) : Gd M pc ls (.int a :: st) h x := by
  intro l ad D cI cJ cZ A fm xs L p e R s m args below meth c cells slots Q hC hR H locs lsA hN hl hn
  exact lv_i2c hC.1 hC.2.1 hd rfl (g l ad D cI cJ cZ A fm xs L p e R s m args below meth c cells slots Q hC hR H locs lsA hN hl hn)
theorem cv_cat (ad : Nat → Nat) {fm : Value} (hf : fm.category = 1) (v : Value) : (cv ad fm v).category = v.category := by
  cases v <;> try rfl
  simp only [cv]
  split
  · exact hf
  · rfl
theorem gd_dupi {a : Int32} (hd : decode M.1 pc = .ok (.dup, 1)) (g : Gd M (pc + 1) ls (.int a :: .int a :: st) h x) : Gd M pc ls (.int a :: st) h x := by
  intro l ad D cI cJ cZ A fm xs L p e R s m args below meth c cells slots Q hC hR H locs lsA hN hl hn
  exact lv_dup hC.1 hC.2.1 hd rfl (g l ad D cI cJ cZ A fm xs L p e R s m args below meth c cells slots Q hC hR H locs lsA hN hl hn)
theorem gd_popi {a : Int32} (hd : decode M.1 pc = .ok (.pop, 1)) (g : Gd M (pc + 1) ls st h x) : Gd M pc ls (.int a :: st) h x := by
  intro l ad D cI cJ cZ A fm xs L p e R s m args below meth c cells slots Q hC hR H locs lsA hN hl hn
  exact lv_pop hC.1 hC.2.1 hd rfl (g l ad D cI cJ cZ A fm xs L p e R s m args below meth c cells slots Q hC hR H locs lsA hN hl hn)
theorem gd_dupr {k : Nat} (hk : k ≠ 120) (hd : decode M.1 pc = .ok (.dup, 1)) (g : Gd M (pc + 1) ls (.ref k :: .ref k :: st) h x) : Gd M pc ls (.ref k :: st) h x := by
  intro l ad D cI cJ cZ A fm xs L p e R s m args below meth c cells slots Q hC hR H locs lsA hN hl hn
  have g2 := g l ad D cI cJ cZ A fm xs L p e R s m args below meth c cells slots Q hC hR H locs lsA hN hl hn
  simp only [List.map_cons, cv_ref hk] at g2 ⊢
  exact lv_dup hC.1 hC.2.1 hd rfl g2
theorem gd_dup2 {a : Int32} {k : Nat} (hk : k ≠ 120) (hd : decode M.1 pc = .ok (.dup2, 1)) (g : Gd M (pc + 1) ls (.int a :: .ref k :: .int a :: .ref k :: st) h x) : Gd M pc ls (.int a :: .ref k :: st) h x := by
  intro l ad D cI cJ cZ A fm xs L p e R s m args below meth c cells slots Q hC hR H locs lsA hN hl hn
  have g2 := g l ad D cI cJ cZ A fm xs L p e R s m args below meth c cells slots Q hC hR H locs lsA hN hl hn
  simp only [List.map_cons, cv_ref hk] at g2 ⊢
  exact lv_dup2_11 hC.1 hC.2.1 hd rfl rfl g2
theorem gd_if_eq {a : Int32} {off : Int} (tgt : Nat) (hd : decode M.1 pc = .ok (.ifCond .eq off, 3)) (ht : (pc : Int) + off = (tgt : Int)) (g : a = 0 → Gd M tgt ls st h x) (g2 : ¬ a = 0 → Gd M (pc + 3) ls st h x) : Gd M pc ls (.int a :: st) h x := by
  intro l ad D cI cJ cZ A fm xs L p e R s m args below meth c cells slots Q hC hR H locs lsA hN hl hn
  exact lv_if_eq hC.1 hC.2.1 hd ht (fun z => g z l ad D cI cJ cZ A fm xs L p e R s m args below meth c cells slots Q hC hR H locs lsA hN hl hn) (fun z => g2 z l ad D cI cJ cZ A fm xs L p e R s m args below meth c cells slots Q hC hR H locs lsA hN hl hn)
theorem gd_icmp_eq {a b : Int32} {off : Int} (tgt : Nat) (hd : decode M.1 pc = .ok (.if_icmp .eq off, 3)) (ht : (pc : Int) + off = (tgt : Int)) (g : a = b → Gd M tgt ls st h x) (g2 : ¬ a = b → Gd M (pc + 3) ls st h x) : Gd M pc ls (.int b :: .int a :: st) h x := by
  intro l ad D cI cJ cZ A fm xs L p e R s m args below meth c cells slots Q hC hR H locs lsA hN hl hn
  exact lv_icmp_eq hC.1 hC.2.1 hd ht (fun z => g z l ad D cI cJ cZ A fm xs L p e R s m args below meth c cells slots Q hC hR H locs lsA hN hl hn) (fun z => g2 z l ad D cI cJ cZ A fm xs L p e R s m args below meth c cells slots Q hC hR H locs lsA hN hl hn)
theorem gd_if_ne {a : Int32} {off : Int} (tgt : Nat) (hd : decode M.1 pc = .ok (.ifCond .ne off, 3)) (ht : (pc : Int) + off = (tgt : Int)) (g : ¬ a = 0 → Gd M tgt ls st h x) (g2 : a = 0 → Gd M (pc + 3) ls st h x) : Gd M pc ls (.int a :: st) h x := by
  intro l ad D cI cJ cZ A fm xs L p e R s m args below meth c cells slots Q hC hR H locs lsA hN hl hn
  exact lv_if_ne hC.1 hC.2.1 hd ht (fun z => g z l ad D cI cJ cZ A fm xs L p e R s m args below meth c cells slots Q hC hR H locs lsA hN hl hn) (fun z => g2 z l ad D cI cJ cZ A fm xs L p e R s m args below meth c cells slots Q hC hR H locs lsA hN hl hn)
theorem gd_icmp_ne {a b : Int32} {off : Int} (tgt : Nat) (hd : decode M.1 pc = .ok (.if_icmp .ne off, 3)) (ht : (pc : Int) + off = (tgt : Int)) (g : ¬ a = b → Gd M tgt ls st h x) (g2 : a = b → Gd M (pc + 3) ls st h x) : Gd M pc ls (.int b :: .int a :: st) h x := by
  intro l ad D cI cJ cZ A fm xs L p e R s m args below meth c cells slots Q hC hR H locs lsA hN hl hn
  exact lv_icmp_ne hC.1 hC.2.1 hd ht (fun z => g z l ad D cI cJ cZ A fm xs L p e R s m args below meth c cells slots Q hC hR H locs lsA hN hl hn) (fun z => g2 z l ad D cI cJ cZ A fm xs L p e R s m args below meth c cells slots Q hC hR H locs lsA hN hl hn)
theorem gd_if_lt {a : Int32} {off : Int} (tgt : Nat) (hd : decode M.1 pc = .ok (.ifCond .lt off, 3)) (ht : (pc : Int) + off = (tgt : Int)) (g : a < 0 → Gd M tgt ls st h x) (g2 : ¬ a < 0 → Gd M (pc + 3) ls st h x) : Gd M pc ls (.int a :: st) h x := by
  intro l ad D cI cJ cZ A fm xs L p e R s m args below meth c cells slots Q hC hR H locs lsA hN hl hn
  exact lv_if_lt hC.1 hC.2.1 hd ht (fun z => g z l ad D cI cJ cZ A fm xs L p e R s m args below meth c cells slots Q hC hR H locs lsA hN hl hn) (fun z => g2 z l ad D cI cJ cZ A fm xs L p e R s m args below meth c cells slots Q hC hR H locs lsA hN hl hn)
theorem gd_icmp_lt {a b : Int32} {off : Int} (tgt : Nat) (hd : decode M.1 pc = .ok (.if_icmp .lt off, 3)) (ht : (pc : Int) + off = (tgt : Int)) (g : a < b → Gd M tgt ls st h x) (g2 : ¬ a < b → Gd M (pc + 3) ls st h x) : Gd M pc ls (.int b :: .int a :: st) h x := by
  intro l ad D cI cJ cZ A fm xs L p e R s m args below meth c cells slots Q hC hR H locs lsA hN hl hn
  exact lv_icmp_lt hC.1 hC.2.1 hd ht (fun z => g z l ad D cI cJ cZ A fm xs L p e R s m args below meth c cells slots Q hC hR H locs lsA hN hl hn) (fun z => g2 z l ad D cI cJ cZ A fm xs L p e R s m args below meth c cells slots Q hC hR H locs lsA hN hl hn)
theorem gd_if_ge {a : Int32} {off : Int} (tgt : Nat) (hd : decode M.1 pc = .ok (.ifCond .ge off, 3)) (ht : (pc : Int) + off = (tgt : Int)) (g : 0 ≤ a → Gd M tgt ls st h x) (g2 : ¬ 0 ≤ a → Gd M (pc + 3) ls st h x) : Gd M pc ls (.int a :: st) h x := by
  intro l ad D cI cJ cZ A fm xs L p e R s m args below meth c cells slots Q hC hR H locs lsA hN hl hn
  exact lv_if_ge hC.1 hC.2.1 hd ht (fun z => g z l ad D cI cJ cZ A fm xs L p e R s m args below meth c cells slots Q hC hR H locs lsA hN hl hn) (fun z => g2 z l ad D cI cJ cZ A fm xs L p e R s m args below meth c cells slots Q hC hR H locs lsA hN hl hn)
theorem gd_icmp_ge {a b : Int32} {off : Int} (tgt : Nat) (hd : decode M.1 pc = .ok (.if_icmp .ge off, 3)) (ht : (pc : Int) + off = (tgt : Int)) (g : b ≤ a → Gd M tgt ls st h x) (g2 : ¬ b ≤ a → Gd M (pc + 3) ls st h x) : Gd M pc ls (.int b :: .int a :: st) h x := by
  intro l ad D cI cJ cZ A fm xs L p e R s m args below meth c cells slots Q hC hR H locs lsA hN hl hn
  exact lv_icmp_ge hC.1 hC.2.1 hd ht (fun z => g z l ad D cI cJ cZ A fm xs L p e R s m args below meth c cells slots Q hC hR H locs lsA hN hl hn) (fun z => g2 z l ad D cI cJ cZ A fm xs L p e R s m args below meth c cells slots Q hC hR H locs lsA hN hl hn)
theorem gd_if_gt {a : Int32} {off : Int} (tgt : Nat) (hd : decode M.1 pc = .ok (.ifCond .gt off, 3)) (ht : (pc : Int) + off = (tgt : Int)) (g : 0 < a → Gd M tgt ls st h x) (g2 : ¬ 0 < a → Gd M (pc + 3) ls st h x) : Gd M pc ls (.int a :: st) h x := by
  intro l ad D cI cJ cZ A fm xs L p e R s m args below meth c cells slots Q hC hR H locs lsA hN hl hn
  exact lv_if_gt hC.1 hC.2.1 hd ht (fun z => g z l ad D cI cJ cZ A fm xs L p e R s m args below meth c cells slots Q hC hR H locs lsA hN hl hn) (fun z => g2 z l ad D cI cJ cZ A fm xs L p e R s m args below meth c cells slots Q hC hR H locs lsA hN hl hn)
theorem gd_icmp_gt {a b : Int32} {off : Int} (tgt : Nat) (hd : decode M.1 pc = .ok (.if_icmp .gt off, 3)) (ht : (pc : Int) + off = (tgt : Int)) (g : b < a → Gd M tgt ls st h x) (g2 : ¬ b < a → Gd M (pc + 3) ls st h x) : Gd M pc ls (.int b :: .int a :: st) h x := by
  intro l ad D cI cJ cZ A fm xs L p e R s m args below meth c cells slots Q hC hR H locs lsA hN hl hn
  exact lv_icmp_gt hC.1 hC.2.1 hd ht (fun z => g z l ad D cI cJ cZ A fm xs L p e R s m args below meth c cells slots Q hC hR H locs lsA hN hl hn) (fun z => g2 z l ad D cI cJ cZ A fm xs L p e R s m args below meth c cells slots Q hC hR H locs lsA hN hl hn)
theorem gd_if_le {a : Int32} {off : Int} (tgt : Nat) (hd : decode M.1 pc = .ok (.ifCond .le off, 3)) (ht : (pc : Int) + off = (tgt : Int)) (g : a ≤ 0 → Gd M tgt ls st h x) (g2 : ¬ a ≤ 0 → Gd M (pc + 3) ls st h x) : Gd M pc ls (.int a :: st) h x := by
  intro l ad D cI cJ cZ A fm xs L p e R s m args below meth c cells slots Q hC hR H locs lsA hN hl hn
  exact lv_if_le hC.1 hC.2.1 hd ht (fun z => g z l ad D cI cJ cZ A fm xs L p e R s m args below meth c cells slots Q hC hR H locs lsA hN hl hn) (fun z => g2 z l ad D cI cJ cZ A fm xs L p e R s m args below meth c cells slots Q hC hR H locs lsA hN hl hn)
theorem gd_icmp_le {a b : Int32} {off : Int} (tgt : Nat) (hd : decode M.1 pc = .ok (.if_icmp .le off, 3)) (ht : (pc : Int) + off = (tgt : Int)) (g : a ≤ b → Gd M tgt ls st h x) (g2 : ¬ a ≤ b → Gd M (pc + 3) ls st h x) : Gd M pc ls (.int b :: .int a :: st) h x := by
  intro l ad D cI cJ cZ A fm xs L p e R s m args below meth c cells slots Q hC hR H locs lsA hN hl hn
  exact lv_icmp_le hC.1 hC.2.1 hd ht (fun z => g z l ad D cI cJ cZ A fm xs L p e R s m args below meth c cells slots Q hC hR H locs lsA hN hl hn) (fun z => g2 z l ad D cI cJ cZ A fm xs L p e R s m args below meth c cells slots Q hC hR H locs lsA hN hl hn)
theorem gd_goto {off : Int} (tgt : Nat) (hd : decode M.1 pc = .ok (.goto off, 3)) (ht : (pc : Int) + off = (tgt : Int)) (g : Gd M tgt ls st h x) : Gd M pc ls st h x := by
  intro l ad D cI cJ cZ A fm xs L p e R s m args below meth c cells slots Q hC hR H locs lsA hN hl hn
  exact lv_goto hC.1 hC.2.1 hd ht (g l ad D cI cJ cZ A fm xs L p e R s m args below meth c cells slots Q hC hR H locs lsA hN hl hn)
theorem gd_tabIn {dflt lo hi : Int} {offs : Array Int} {len : Nat} {a : Int32} {off : Int} (tgt : Nat) (hd : decode M.1 pc = .ok (.tableswitch dflt lo hi offs, len)) (h1 : ¬ a.toInt < lo) (h2 : ¬ hi < a.toInt) (ho : offs[(a.toInt - lo).toNat]? = some off) (ht : (pc : Int) + off = (tgt : Int)) (g : Gd M tgt ls st h x) : Gd M pc ls (.int a :: st) h x := by
  intro l ad D cI cJ cZ A fm xs L p e R s m args below meth c cells slots Q hC hR H locs lsA hN hl hn
  exact lv_tableIn hC.1 hC.2.1 hd h1 h2 ho ht (g l ad D cI cJ cZ A fm xs L p e R s m args below meth c cells slots Q hC hR H locs lsA hN hl hn)
theorem gd_tabOut {dflt lo hi : Int} {offs : Array Int} {len : Nat} {a : Int32} (tgt : Nat) (hd : decode M.1 pc = .ok (.tableswitch dflt lo hi offs, len)) (h1 : a.toInt < lo ∨ hi < a.toInt) (ht : (pc : Int) + dflt = (tgt : Int)) (g : Gd M tgt ls st h x) : Gd M pc ls (.int a :: st) h x := by
  intro l ad D cI cJ cZ A fm xs L p e R s m args below meth c cells slots Q hC hR H locs lsA hN hl hn
  exact lv_tableOut hC.1 hC.2.1 hd h1 ht (g l ad D cI cJ cZ A fm xs L p e R s m args below meth c cells slots Q hC hR H locs lsA hN hl hn)
theorem gd_lookup {dflt : Int} {ps : Array (Int × Int)} {len : Nat} {a : Int32} {off : Int} (tgt : Nat) (hd : decode M.1 pc = .ok (.lookupswitch dflt ps, len)) (hp : (ps.toList.zip (ps.toList.drop 1)).all (fun (a, next) => a.1 < next.1) = true) (ho : Op.lookupswitch.offset ps.toList dflt a.toInt = off) (ht : (pc : Int) + off = (tgt : Int)) (g : Gd M tgt ls st h x) : Gd M pc ls (.int a :: st) h x := by
  intro l ad D cI cJ cZ A fm xs L p e R s m args below meth c cells slots Q hC hR H locs lsA hN hl hn
  exact lv_lookup hC.1 hC.2.1 hd hp ho ht (g l ad D cI cJ cZ A fm xs L p e R s m args below meth c cells slots Q hC hR H locs lsA hN hl hn)
theorem gd_iloadn {k : Fin 4} {i : Nat} {a : Int32} (hd : decode M.1 pc = .ok (.iload_n k, 1)) (hi : (k : Nat) = i) (hx : ls[i]? = some (.int a)) (g : Gd M (pc + 1) ls (.int a :: st) h x) : Gd M pc ls st h x := by
  intro l ad D cI cJ cZ A fm xs L p e R s m args below meth c cells slots Q hC hR H locs lsA hN hl hn
  exact lv_iload_n hC.1 hC.2.1 hd hi (pr_at hl hx (fun z => by cases z)) (g l ad D cI cJ cZ A fm xs L p e R s m args below meth c cells slots Q hC hR H locs lsA hN hl hn)
theorem gd_iload {i : Nat} {a : Int32} (hd : decode M.1 pc = .ok (.iload i, 2)) (hx : ls[i]? = some (.int a)) (g : Gd M (pc + 2) ls (.int a :: st) h x) : Gd M pc ls st h x := by
  intro l ad D cI cJ cZ A fm xs L p e R s m args below meth c cells slots Q hC hR H locs lsA hN hl hn
  exact lv_iload hC.1 hC.2.1 hd (pr_at hl hx (fun z => by cases z)) (g l ad D cI cJ cZ A fm xs L p e R s m args below meth c cells slots Q hC hR H locs lsA hN hl hn)
theorem gd_lloadn {k : Fin 4} {i : Nat} {a : Int64} (hd : decode M.1 pc = .ok (.lload_n k, 1)) (hi : (k : Nat) = i) (hx : ls[i]? = some (.long a)) (g : Gd M (pc + 1) ls (.long a :: st) h x) : Gd M pc ls st h x := by
  intro l ad D cI cJ cZ A fm xs L p e R s m args below meth c cells slots Q hC hR H locs lsA hN hl hn
  exact lv_lload_n hC.1 hC.2.1 hd hi (pr_at hl hx (fun z => by cases z)) (g l ad D cI cJ cZ A fm xs L p e R s m args below meth c cells slots Q hC hR H locs lsA hN hl hn)
theorem gd_lload {i : Nat} {a : Int64} (hd : decode M.1 pc = .ok (.lload i, 2)) (hx : ls[i]? = some (.long a)) (g : Gd M (pc + 2) ls (.long a :: st) h x) : Gd M pc ls st h x := by
  intro l ad D cI cJ cZ A fm xs L p e R s m args below meth c cells slots Q hC hR H locs lsA hN hl hn
  exact lv_lload hC.1 hC.2.1 hd (pr_at hl hx (fun z => by cases z)) (g l ad D cI cJ cZ A fm xs L p e R s m args below meth c cells slots Q hC hR H locs lsA hN hl hn)
theorem gd_aloadn {k : Fin 4} {i a : Nat} (hd : decode M.1 pc = .ok (.aload_n k, 1)) (hi : (k : Nat) = i) (hx : ls[i]? = some (.ref a)) (ha : a ≠ 120) (g : Gd M (pc + 1) ls (.ref a :: st) h x) : Gd M pc ls st h x := by
  intro l ad D cI cJ cZ A fm xs L p e R s m args below meth c cells slots Q hC hR H locs lsA hN hl hn
  have g2 := g l ad D cI cJ cZ A fm xs L p e R s m args below meth c cells slots Q hC hR H locs lsA hN hl hn
  have hz := pr_at hl hx (fun z => by cases z)
  simp only [List.map_cons, cv_ref ha] at g2 hz
  exact lv_aload_n hC.1 hC.2.1 hd hi hz g2
theorem pr_set1 {ad : Nat → Nat} {fm : Value} {l : List Value} {i : Nat} {v : Value} {lv' : List (Nat × Value)} (hp : ∀ w, l[i - 1]? = some w → w.category = 1 ∨ i = 0) (hf : fm.category = 1) (hl : (i, cv ad fm v) :: (pr ad fm l).filter (fun q => !(q.1 == i) && !(q.1 + 1 == i && q.2.category == 2)) = lv') : ∀ q ∈ pr ad fm (l.set i v), q ∈ lv' := by
  intro q hq
  subst hl
  obtain ⟨w, h1, h2, h3⟩ := pr_of hq
  obtain ⟨j, z⟩ := q
  simp only at h1 h3
  subst h3
  rw [List.getElem?_set] at h1
  by_cases hj : i = j
  · subst hj
    rw [if_pos rfl] at h1
    split at h1
    · cases h1; exact List.mem_cons_self
    · cases h1
  · rw [if_neg hj] at h1
    refine List.mem_cons_of_mem _ (List.mem_filter.mpr ⟨pr_mem h1 h2, ?_⟩)
    have e1 : (j == i) = false := by simp; exact fun z => hj z.symm
    simp only [e1, Bool.not_false, Bool.true_and]
    by_cases e2 : j + 1 = i
    · have := hp w (by rw [← e2]; exact h1)
      rcases this with t1 | t1
      · rw [cv_cat ad hf, t1]; simp
      · omega
    · simp [e2]
theorem pr_set2 {ad : Nat → Nat} {fm : Value} {l : List Value} {i : Nat} {v : Value} {lv' : List (Nat × Value)} (hp : ∀ w, l[i - 1]? = some w → w.category = 1 ∨ i = 0) (hf : fm.category = 1) (hl : (i, cv ad fm v) :: (pr ad fm l).filter (fun q => !(q.1 == i) && (!(q.1 == i + 1) && !(q.1 + 1 == i && q.2.category == 2))) = lv') : ∀ q ∈ pr ad fm ((l.set i v).set (i + 1) .null), q ∈ lv' := by
  intro q hq
  subst hl
  obtain ⟨w, h1, h2, h3⟩ := pr_of hq
  obtain ⟨j, z⟩ := q
  simp only at h1 h3
  subst h3
  rw [List.getElem?_set] at h1
  by_cases hj1 : i + 1 = j
  · rw [if_pos hj1] at h1
    split at h1
    · cases h1; exact absurd rfl h2
    · cases h1
  · rw [if_neg hj1, List.getElem?_set] at h1
    by_cases hj : i = j
    · subst hj
      rw [if_pos rfl] at h1
      split at h1
      · cases h1; exact List.mem_cons_self
      · cases h1
    · rw [if_neg hj] at h1
      refine List.mem_cons_of_mem _ (List.mem_filter.mpr ⟨pr_mem h1 h2, ?_⟩)
      have e1 : (j == i) = false := by simp; exact fun z => hj z.symm
      have e3 : (j == i + 1) = false := by simp; exact fun z => hj1 z.symm
      simp only [e1, e3, Bool.not_false, Bool.true_and]
      by_cases e2 : j + 1 = i
      · have := hp w (by rw [← e2]; exact h1)
        rcases this with t1 | t1
        · rw [cv_cat ad hf, t1]; simp
        · omega
      · simp [e2]
theorem gd_istoren {k : Fin 4} {i : Nat} {a : Int32} (hd : decode M.1 pc = .ok (.istore_n k, 1)) (hi : (k : Nat) = i) (hi2 : i < ls.length) (hp : ∀ w, ls[i - 1]? = some w → w.category = 1 ∨ i = 0) (g : Gd M (pc + 1) (ls.set i (.int a)) st h x) : Gd M pc ls (.int a :: st) h x := by
  intro l ad D cI cJ cZ A fm xs L p e R s m args below meth c cells slots Q hC hR H locs lsA hN hl hn
  exact lv_istore_n hC.1 hC.2.1 hd hi hl (by rw [← hn]; exact hi2) rfl (fun lsB hB => g l ad D cI cJ cZ A fm xs L p e R s m args below meth c cells slots Q hC hR H locs lsB hN (lv_weak hB (pr_set1 hp hC.2.2.2.2.2.2.2.2.2 rfl)) (by rw [List.length_set]; exact hn))
theorem gd_istore {i : Nat} {a : Int32} (hd : decode M.1 pc = .ok (.istore i, 2)) (hi2 : i < ls.length) (hp : ∀ w, ls[i - 1]? = some w → w.category = 1 ∨ i = 0) (g : Gd M (pc + 2) (ls.set i (.int a)) st h x) : Gd M pc ls (.int a :: st) h x := by
  intro l ad D cI cJ cZ A fm xs L p e R s m args below meth c cells slots Q hC hR H locs lsA hN hl hn
  exact lv_istore hC.1 hC.2.1 hd hl (by rw [← hn]; exact hi2) rfl (fun lsB hB => g l ad D cI cJ cZ A fm xs L p e R s m args below meth c cells slots Q hC hR H locs lsB hN (lv_weak hB (pr_set1 hp hC.2.2.2.2.2.2.2.2.2 rfl)) (by rw [List.length_set]; exact hn))
theorem gd_iinc {i : Nat} {n : Int} {a b : Int32} (hd : decode M.1 pc = .ok (.iinc i n, 3)) (hx : ls[i]? = some (.int a)) (hb : Int32.ofInt n = b) (hp : ∀ w, ls[i - 1]? = some w → w.category = 1 ∨ i = 0) (g : Gd M (pc + 3) (ls.set i (.int (a + b))) st h x) : Gd M pc ls st h x := by
  intro l ad D cI cJ cZ A fm xs L p e R s m args below meth c cells slots Q hC hR H locs lsA hN hl hn
  obtain ⟨k, hk⟩ := List.getElem?_of_mem (pr_mem (ad := ad) (fm := fm) hx (fun z => by cases z))
  exact lv_iinc hC.1 hC.2.1 hd hl hk (by rw [hb]) (by rw [← hn]; exact (List.getElem?_eq_some_iff.mp hx).1) rfl (fun lsB hB => g l ad D cI cJ cZ A fm xs L p e R s m args below meth c cells slots Q hC hR H locs lsB hN (lv_weak hB (pr_set1 hp hC.2.2.2.2.2.2.2.2.2 rfl)) (by rw [List.length_set]; exact hn))
theorem gd_lstoren {k : Fin 4} {i : Nat} {a : Int64} (hd : decode M.1 pc = .ok (.lstore_n k, 1)) (hi : (k : Nat) = i) (hi2 : i + 1 < ls.length) (hp : ∀ w, ls[i - 1]? = some w → w.category = 1 ∨ i = 0) (g : Gd M (pc + 1) ((ls.set i (.long a)).set (i + 1) .null) st h x) : Gd M pc ls (.long a :: st) h x := by
  intro l ad D cI cJ cZ A fm xs L p e R s m args below meth c cells slots Q hC hR H locs lsA hN hl hn
  exact lv_lstore_n hC.1 hC.2.1 hd hi hl (by rw [← hn]; exact hi2) rfl (fun lsB hB => g l ad D cI cJ cZ A fm xs L p e R s m args below meth c cells slots Q hC hR H locs lsB hN (lv_weak hB (pr_set2 hp hC.2.2.2.2.2.2.2.2.2 rfl)) (by rw [List.length_set, List.length_set]; exact hn))
theorem gd_lstore {i : Nat} {a : Int64} (hd : decode M.1 pc = .ok (.lstore i, 2)) (hi2 : i + 1 < ls.length) (hp : ∀ w, ls[i - 1]? = some w → w.category = 1 ∨ i = 0) (g : Gd M (pc + 2) ((ls.set i (.long a)).set (i + 1) .null) st h x) : Gd M pc ls (.long a :: st) h x := by
  intro l ad D cI cJ cZ A fm xs L p e R s m args below meth c cells slots Q hC hR H locs lsA hN hl hn
  exact lv_lstore hC.1 hC.2.1 hd hl (by rw [← hn]; exact hi2) rfl (fun lsB hB => g l ad D cI cJ cZ A fm xs L p e R s m args below meth c cells slots Q hC hR H locs lsB hN (lv_weak hB (pr_set2 hp hC.2.2.2.2.2.2.2.2.2 rfl)) (by rw [List.length_set, List.length_set]; exact hn))
theorem gd_idiv {a b : Int32} (hd : decode M.1 pc = .ok (.idiv, 1)) (hb : ¬ b = 0) (g : Gd M (pc + 1) ls (.int (a / b) :: st) h x) : Gd M pc ls (.int b :: .int a :: st) h x := by
  intro l ad D cI cJ cZ A fm xs L p e R s m args below meth c cells slots Q hC hR H locs lsA hN hl hn
  exact lv_idiv hC.1 hC.2.1 hd hb (g l ad D cI cJ cZ A fm xs L p e R s m args below meth c cells slots Q hC hR H locs lsA hN hl hn)
theorem gd_irem {a b : Int32} (hd : decode M.1 pc = .ok (.irem, 1)) (hb : ¬ b = 0) (g : Gd M (pc + 1) ls (.int (a - a / b * b) :: st) h x) : Gd M pc ls (.int b :: .int a :: st) h x := by
  intro l ad D cI cJ cZ A fm xs L p e R s m args below meth c cells slots Q hC hR H locs lsA hN hl hn
  exact lv_irem hC.1 hC.2.1 hd hb (g l ad D cI cJ cZ A fm xs L p e R s m args below meth c cells slots Q hC hR H locs lsA hN hl hn)
theorem gd_ldiv {a b : Int64} (hd : decode M.1 pc = .ok (.ldiv, 1)) (hb : ¬ b = 0) (g : Gd M (pc + 1) ls (.long (a / b) :: st) h x) : Gd M pc ls (.long b :: .long a :: st) h x := by
  intro l ad D cI cJ cZ A fm xs L p e R s m args below meth c cells slots Q hC hR H locs lsA hN hl hn
  exact lv_ldiv hC.1 hC.2.1 hd hb (g l ad D cI cJ cZ A fm xs L p e R s m args below meth c cells slots Q hC hR H locs lsA hN hl hn)
theorem gd_lrem {a b : Int64} (hd : decode M.1 pc = .ok (.lrem, 1)) (hb : ¬ b = 0) (g : Gd M (pc + 1) ls (.long (a - a / b * b) :: st) h x) : Gd M pc ls (.long b :: .long a :: st) h x := by
  intro l ad D cI cJ cZ A fm xs L p e R s m args below meth c cells slots Q hC hR H locs lsA hN hl hn
  exact lv_lrem hC.1 hC.2.1 hd hb (g l ad D cI cJ cZ A fm xs L p e R s m args below meth c cells slots Q hC hR H locs lsA hN hl hn)
theorem enE_obj {ad : Nat → Nat} {cI cJ cZ : ClassId} {h : Hp} {k c : Nat} (hk : kd k = (3, c)) : enE ad cI cJ cZ h k = .inr (c, fvs ad h k c) := by simp only [enE, hk]
theorem enE_i {ad : Nat → Nat} {cI cJ cZ : ClassId} {h : Hp} {k n : Nat} (hk : kd k = (0, n)) : enE ad cI cJ cZ h k = .inl (cI, n, .inl (h.1 k)) := by simp only [enE, hk]
theorem enE_j {ad : Nat → Nat} {cI cJ cZ : ClassId} {h : Hp} {k n : Nat} (hk : kd k = (1, n)) : enE ad cI cJ cZ h k = .inl (cJ, n, .inr (.inl (h.2 k))) := by simp only [enE, hk]
theorem enE_z {ad : Nat → Nat} {cI cJ cZ : ClassId} {h : Hp} {k n : Nat} (hk : kd k = (2, n)) : enE ad cI cJ cZ h k = .inl (cZ, n, .inl (h.1 k)) := by simp only [enE, hk]
theorem nC_of {c N : Nat} {C : String} {T : u_T} (h : vwCl[c]? = some (C, T, N)) : nC c = N ∧ (∀ w ∈ u_ws C T N, w ∈ wall) ∧ (∀ k, k < N → parseFieldDescriptor (T k).2.2.1 = some (tyC c k)) ∧ (∀ a, a < N → ∀ b, b < N → a ≠ b → (T a).2.1 ≠ (T b).2.1) := by
  match c, h with
  | 0, h => cases h; exact ⟨rfl, lay_0, tyX0_ok, nmX0⟩
  | 1, h => cases h; exact ⟨rfl, lay_1, tyX1_ok, nmX1⟩
  | 2, h => cases h; exact ⟨rfl, lay_2, tyX2_ok, nmX2⟩
  | 3, h => cases h; exact ⟨rfl, lay_3, tyX3_ok, nmX3⟩
  | 4, h => cases h; exact ⟨rfl, lay_4, tyX4_ok, nmX4⟩
  | 5, h => cases h; exact ⟨rfl, lay_5, tyX5_ok, nmX5⟩
  | 6, h => cases h; exact ⟨rfl, lay_6, tyX6_ok, nmX6⟩
  | 7, h => cases h; exact ⟨rfl, lay_7, tyX7_ok, nmX7⟩
  | 8, h => cases h; exact ⟨rfl, lay_8, tyX8_ok, nmX8⟩
  | 9, h => cases h; exact ⟨rfl, lay_9, tyX9_ok, nmX9⟩
  | n + 10, h => simp [vwCl] at h
theorem fvs_get {ad : Nat → Nat} {h : Hp} {k c f : Nat} (hf : f < nC c) : (fvs ad h k c)[f]? = some (fv ad h (tyC c f) k f) := by simp [fvs, hf]
theorem gd_get0 {i c f k : Nat} {v : Value} (hd : decode M.1 pc = .ok (.getfield i, 3)) (hf : FLk M.2.2.1 i c f) (hk : kd k = (3, c)) (hv : ∀ ad fm, cv ad fm v = fv ad h (tyC c f) k f) (g : Gd M (pc + 3) ls (v :: st) h x) : Gd M pc ls (.ref k :: st) h x := by
  intro l ad D cI cJ cZ A fm xs L p e R s m args below meth c cells slots Q hC hR H locs lsA hN hl hn
  have k95 : k < 95 := kd_lt hk (by decide)
  obtain ⟨C, T, N, h1, h2, h3⟩ := hf
  obtain ⟨n1, n2, n3, n4⟩ := nC_of h1
  have g2 := g l ad D cI cJ cZ A fm xs L p e R s m args below meth c cells slots Q hC hR H locs lsA hN hl hn
  simp only [List.map_cons, hv, cv_ref (show k ≠ 120 by omega)] at g2 ⊢
  exact va_get hC.1 hC.2.1 hC.2.2.2.2.1 n2 hC.2.2.2.1 hC.2.2.2.2.2.2.1 hN.1 k (by rw [wO_get k95, enE_obj hk]) h1 f h2 (hC.2.2.2.2.1 _ h3) (fun _ z => z) (fvs_get (by rw [n1]; exact h2)) hd g2
theorem gd_getI {i c f k : Nat} (hd : decode M.1 pc = .ok (.getfield i, 3)) (hf : FLk M.2.2.1 i c f) (hk : kd k = (3, c)) (ht : tyC c f = .int) (g : Gd M (pc + 3) ls (.int (h.1 k f) :: st) h x) : Gd M pc ls (.ref k :: st) h x := gd_get0 hd hf hk (fun ad fm => by rw [ht]; rfl) g
theorem gd_getZ {i c f k : Nat} (hd : decode M.1 pc = .ok (.getfield i, 3)) (hf : FLk M.2.2.1 i c f) (hk : kd k = (3, c)) (ht : tyC c f = .boolean) (g : Gd M (pc + 3) ls (.int (h.1 k f) :: st) h x) : Gd M pc ls (.ref k :: st) h x := gd_get0 hd hf hk (fun ad fm => by rw [ht]; rfl) g
theorem gd_getJ {i c f k : Nat} (hd : decode M.1 pc = .ok (.getfield i, 3)) (hf : FLk M.2.2.1 i c f) (hk : kd k = (3, c)) (ht : tyC c f = .long) (g : Gd M (pc + 3) ls (.long (h.2 k f) :: st) h x) : Gd M pc ls (.ref k :: st) h x := gd_get0 hd hf hk (fun ad fm => by rw [ht]; rfl) g
def isRf (ty : FieldType) : Bool := match ty with
  | .object _ => true
  | .array _ => true
  | _ => false
theorem fv_rf {ad : Nat → Nat} {h : Hp} {ty : FieldType} {k f : Nat} (ht : isRf ty = true) : fv ad h ty k f = .ref (ad (rf k f)) := by
  cases ty <;> first | rfl | cases ht
theorem gd_getR {i c f k r : Nat} (hd : decode M.1 pc = .ok (.getfield i, 3)) (hf : FLk M.2.2.1 i c f) (hk : kd k = (3, c)) (ht : isRf (tyC c f) = true) (hr : rf k f = r) (hr2 : r ≠ 120) (g : Gd M (pc + 3) ls (.ref r :: st) h x) : Gd M pc ls (.ref k :: st) h x := gd_get0 hd hf hk (fun ad fm => by rw [fv_rf ht, hr, cv_ref hr2]) g
theorem gd_put0 {i q f k : Nat} {v : Value} {h' : Hp} (hd : decode M.1 pc = .ok (.putfield i, 3)) (hf : FLk M.2.2.1 i q f) (hk : kd k = (3, q)) (hz : ∀ C T N, vwCl[q]? = some (C, T, N) → (T f).2.2.2 = false) (hv : ∀ ad fm, cv ad fm v = v) (hn1 : narrow (tyC q f) v = v) (hn2 : fits (tyC q f) v = true)
    (hs : ∀ ad, fvs ad h' k q = (fvs ad h k q).set f v) (hs1 : ∀ j, j ≠ k → h'.1 j = h.1 j) (hs2 : ∀ j, j ≠ k → h'.2 j = h.2 j) (g : Gd M (pc + 3) ls st h' x) : Gd M pc ls (v :: .ref k :: st) h x := by
  intro l ad D cI cJ cZ A fm xs L p e R s m args below meth c cells slots Q hC hR H locs lsA hN hl hn
  have k95 : k < 95 := kd_lt hk (by decide)
  obtain ⟨C, T, N, h1, h2, h3⟩ := hf
  obtain ⟨n1, n2, n3, n4⟩ := nC_of h1
  simp only [List.map_cons, hv, cv_ref (show k ≠ 120 by omega)]
  refine va_put hC.1 hC.2.1 hC.2.2.2.2.1 n2 (tyC q) n3 n4 hC.2.2.2.1 hC.2.2.2.2.2.2.1 hN.1 hN.2.1 hN.2.2.1 k (by rw [wO_get k95, enE_obj hk]) h1 f h2 (hC.2.2.2.2.1 _ h3) (fun _ z => z) (hz _ _ _ h1) (n3 f h2) hn1 hn2 (by simp [fvs, n1, h2]) hd (fun H1 locs1 hP hD hS => ?_)
  have he0 : (wO ad cI cJ cZ h).set k (ad k, .inr (q, (fvs ad h k q).set f v)) = wO ad cI cJ cZ h' := wO_set k95 (by rw [enE_obj hk, hs]) hs1 hs2
  rw [he0] at hP hD
  exact g l ad D cI cJ cZ A fm xs L p e R s m args below meth c cells slots Q hC hR H1 locs1 lsA ⟨hP, hD, hS, by rw [hs1 95 (by omega)]; exact hN.2.2.2.1, by rw [hs2 95 (by omega)]; exact hN.2.2.2.2.1, hN.2.2.2.2.2⟩ hl hn
theorem fvs_setI {ad : Nat → Nat} {h : Hp} {k c f : Nat} {v : Int32} (ht : tyC c f = .int ∨ tyC c f = .boolean) : fvs ad (sI h k (upd (h.1 k) f v)) k c = (fvs ad h k c).set f (.int v) := by
  apply List.ext_getElem?
  intro j
  rw [List.getElem?_set]
  by_cases hj : j < nC c
  · rw [fvs_get hj]
    by_cases hf : f = j
    · subst hf
      rw [if_pos rfl, if_pos (by simp [fvs, hj])]
      rcases ht with ht | ht <;> rw [ht] <;> simp [fv, sI_s, upd]
    · rw [if_neg hf, fvs_get hj]
      have : ∀ ty, fv ad (sI h k (upd (h.1 k) f v)) ty k j = fv ad h ty k j := by
        intro ty
        cases ty <;> simp [fv, sI_s, sI_2, upd, Ne.symm hf]
      rw [this]
  · have z : ∀ g : Hp, (fvs ad g k c)[j]? = none := fun g => by simp [fvs]; omega
    rw [z, z]
    have : ¬ j < (fvs ad h k c).length := by simp [fvs]; omega
    split
    · simp_all
    · rfl
theorem fvs_setL {ad : Nat → Nat} {h : Hp} {k c f : Nat} {v : Int64} (ht : tyC c f = .long) : fvs ad (sL h k (vp_updL (h.2 k) f v)) k c = (fvs ad h k c).set f (.long v) := by
  apply List.ext_getElem?
  intro j
  rw [List.getElem?_set]
  by_cases hj : j < nC c
  · rw [fvs_get hj]
    by_cases hf : f = j
    · subst hf
      rw [if_pos rfl, if_pos (by simp [fvs, hj])]
      rw [ht]; simp [fv, sL_s, vp_updL]
    · rw [if_neg hf, fvs_get hj]
      have : ∀ ty, fv ad (sL h k (vp_updL (h.2 k) f v)) ty k j = fv ad h ty k j := by
        intro ty
        cases ty <;> simp [fv, sL_s, sL_1, vp_updL, Ne.symm hf]
      rw [this]
  · have z : ∀ g : Hp, (fvs ad g k c)[j]? = none := fun g => by simp [fvs]; omega
    rw [z, z]
    have : ¬ j < (fvs ad h k c).length := by simp [fvs]; omega
    split
    · simp_all
    · rfl
theorem gd_putI {i c f k : Nat} {v : Int32} (hd : decode M.1 pc = .ok (.putfield i, 3)) (hf : FLk M.2.2.1 i c f) (hk : kd k = (3, c)) (ht : tyC c f = .int) (hz : ∀ C T N, vwCl[c]? = some (C, T, N) → (T f).2.2.2 = false) (g : Gd M (pc + 3) ls st (sI h k (upd (h.1 k) f v)) x) : Gd M pc ls (.int v :: .ref k :: st) h x :=
  gd_put0 hd hf hk hz (fun _ _ => rfl) (by rw [ht]; rfl) (by rw [ht]; rfl) (fun ad => fvs_setI (Or.inl ht)) (fun j hj => sI_n hj) (fun _ _ => rfl) g
theorem gd_putZ {i c f k : Nat} {v : Int32} (hd : decode M.1 pc = .ok (.putfield i, 3)) (hf : FLk M.2.2.1 i c f) (hk : kd k = (3, c)) (ht : tyC c f = .boolean) (hz : ∀ C T N, vwCl[c]? = some (C, T, N) → (T f).2.2.2 = false) (hv : v = 0 ∨ v = 1) (g : Gd M (pc + 3) ls st (sI h k (upd (h.1 k) f v)) x) : Gd M pc ls (.int v :: .ref k :: st) h x :=
  gd_put0 hd hf hk hz (fun _ _ => rfl) (by rw [ht]; rcases hv with rfl | rfl <;> rfl) (by rw [ht]; rcases hv with rfl | rfl <;> rfl) (fun ad => fvs_setI (Or.inr ht)) (fun j hj => sI_n hj) (fun _ _ => rfl) g
theorem gd_putJ {i c f k : Nat} {v : Int64} (hd : decode M.1 pc = .ok (.putfield i, 3)) (hf : FLk M.2.2.1 i c f) (hk : kd k = (3, c)) (ht : tyC c f = .long) (hz : ∀ C T N, vwCl[c]? = some (C, T, N) → (T f).2.2.2 = false) (g : Gd M (pc + 3) ls st (sL h k (vp_updL (h.2 k) f v)) x) : Gd M pc ls (.long v :: .ref k :: st) h x :=
  gd_put0 hd hf hk hz (fun _ _ => rfl) (by rw [ht]; rfl) (by rw [ht]; rfl) (fun ad => fvs_setL ht) (fun _ _ => rfl) (fun j hj => sL_n hj) g
theorem gd_iaload {k n : Nat} {i : Int32} (hd : decode M.1 pc = .ok (.iaload, 1)) (hk : kd k = (0, n)) (hi : vp_in i n) (g : Gd M (pc + 1) ls (.int (h.1 k i.toNatClampNeg) :: st) h x) : Gd M pc ls (.int i :: .ref k :: st) h x := by
  intro l ad D cI cJ cZ A fm xs L p e R s m args below meth c cells slots Q hC hR H locs lsA hN hl hn
  have k95 : k < 95 := kd_lt hk (by decide)
  have g2 := g l ad D cI cJ cZ A fm xs L p e R s m args below meth c cells slots Q hC hR H locs lsA hN hl hn
  simp only [List.map_cons, cv_ref (show k ≠ 120 by omega)]
  exact va_iald hC.1 hC.2.1 hC.2.2.2.2.2.2.1 hN.1 k 0 (by rw [wO_get k95, enE_i hk]) rfl hi hd g2
theorem gd_laload {k n : Nat} {i : Int32} (hd : decode M.1 pc = .ok (.laload, 1)) (hk : kd k = (1, n)) (hi : vp_in i n) (g : Gd M (pc + 1) ls (.long (h.2 k i.toNatClampNeg) :: st) h x) : Gd M pc ls (.int i :: .ref k :: st) h x := by
  intro l ad D cI cJ cZ A fm xs L p e R s m args below meth c cells slots Q hC hR H locs lsA hN hl hn
  have k95 : k < 95 := kd_lt hk (by decide)
  have g2 := g l ad D cI cJ cZ A fm xs L p e R s m args below meth c cells slots Q hC hR H locs lsA hN hl hn
  simp only [List.map_cons, cv_ref (show k ≠ 120 by omega)]
  exact va_lald hC.1 hC.2.1 hC.2.2.2.2.2.2.1 hN.1 k 1 (by rw [wO_get k95, enE_j hk]) rfl hi hd g2
theorem gd_zaload {k n : Nat} {i : Int32} (hd : decode M.1 pc = .ok (.baload, 1)) (hk : kd k = (2, n)) (hi : vp_in i n) (g : Gd M (pc + 1) ls (.int (h.1 k i.toNatClampNeg) :: st) h x) : Gd M pc ls (.int i :: .ref k :: st) h x := by
  intro l ad D cI cJ cZ A fm xs L p e R s m args below meth c cells slots Q hC hR H locs lsA hN hl hn
  have k95 : k < 95 := kd_lt hk (by decide)
  have g2 := g l ad D cI cJ cZ A fm xs L p e R s m args below meth c cells slots Q hC hR H locs lsA hN hl hn
  simp only [List.map_cons, cv_ref (show k ≠ 120 by omega)]
  exact va_zald hC.1 hC.2.1 hC.2.2.2.2.2.2.1 hN.1 k 2 (by rw [wO_get k95, enE_z hk]) rfl hi hd g2
theorem gd_iastore {k n : Nat} {i v : Int32} (hd : decode M.1 pc = .ok (.iastore, 1)) (hk : kd k = (0, n)) (hi : vp_in i n) (g : Gd M (pc + 1) ls st (sI h k (upd (h.1 k) i.toNatClampNeg v)) x) : Gd M pc ls (.int v :: .int i :: .ref k :: st) h x := by
  intro l ad D cI cJ cZ A fm xs L p e R s m args below meth c cells slots Q hC hR H locs lsA hN hl hn
  have k95 : k < 95 := kd_lt hk (by decide)
  simp only [List.map_cons, cv_ref (show k ≠ 120 by omega)]
  refine va_iast hC.1 hC.2.1 hC.2.2.2.2.2.2.1 hN.1 hN.2.1 hN.2.2.1 k 0 (by rw [wO_get k95, enE_i hk]) rfl hi hd (fun H1 locs1 hP hD hS => ?_)
  have he0 : (wO ad cI cJ cZ h).set k (ad k, .inl (cI, n, .inl (upd (h.1 k) i.toNatClampNeg v))) = wO ad cI cJ cZ (sI h k (upd (h.1 k) i.toNatClampNeg v)) := wO_set k95 (by rw [enE_i hk, sI_s]) (fun j hj => sI_n hj) (fun _ _ => rfl)
  rw [he0] at hP hD
  exact g l ad D cI cJ cZ A fm xs L p e R s m args below meth c cells slots Q hC hR H1 locs1 lsA ⟨hP, hD, hS, by rw [sI_n (by omega)]; exact hN.2.2.2.1, hN.2.2.2.2.1, hN.2.2.2.2.2⟩ hl hn
theorem gd_lastore {k n : Nat} {i : Int32} {v : Int64} (hd : decode M.1 pc = .ok (.lastore, 1)) (hk : kd k = (1, n)) (hi : vp_in i n) (g : Gd M (pc + 1) ls st (sL h k (vp_updL (h.2 k) i.toNatClampNeg v)) x) : Gd M pc ls (.long v :: .int i :: .ref k :: st) h x := by
  intro l ad D cI cJ cZ A fm xs L p e R s m args below meth c cells slots Q hC hR H locs lsA hN hl hn
  have k95 : k < 95 := kd_lt hk (by decide)
  simp only [List.map_cons, cv_ref (show k ≠ 120 by omega)]
  refine va_last hC.1 hC.2.1 hC.2.2.2.2.2.2.1 hN.1 hN.2.1 hN.2.2.1 k 1 (by rw [wO_get k95, enE_j hk]) rfl hi hd (fun H1 locs1 hP hD hS => ?_)
  have he0 : (wO ad cI cJ cZ h).set k (ad k, .inl (cJ, n, .inr (.inl (vp_updL (h.2 k) i.toNatClampNeg v)))) = wO ad cI cJ cZ (sL h k (vp_updL (h.2 k) i.toNatClampNeg v)) := wO_set k95 (by rw [enE_j hk, sL_s]) (fun _ _ => rfl) (fun j hj => sL_n hj)
  rw [he0] at hP hD
  exact g l ad D cI cJ cZ A fm xs L p e R s m args below meth c cells slots Q hC hR H1 locs1 lsA ⟨hP, hD, hS, hN.2.2.2.1, by rw [sL_n (by omega)]; exact hN.2.2.2.2.1, hN.2.2.2.2.2⟩ hl hn
theorem gd_zastore {k n : Nat} {i v : Int32} (hd : decode M.1 pc = .ok (.bastore, 1)) (hk : kd k = (2, n)) (hi : vp_in i n) (hv : v = 0 ∨ v = 1) (g : Gd M (pc + 1) ls st (sI h k (upd (h.1 k) i.toNatClampNeg v)) x) : Gd M pc ls (.int v :: .int i :: .ref k :: st) h x := by
  intro l ad D cI cJ cZ A fm xs L p e R s m args below meth c cells slots Q hC hR H locs lsA hN hl hn
  have k95 : k < 95 := kd_lt hk (by decide)
  simp only [List.map_cons, cv_ref (show k ≠ 120 by omega)]
  refine va_zast hC.1 hC.2.1 hC.2.2.2.2.2.2.1 hN.1 hN.2.1 hN.2.2.1 k 2 (by rw [wO_get k95, enE_z hk]) rfl hi hd (fun H1 locs1 hP hD hS => ?_)
  have ev : vp_nar .boolean v = v := by rcases hv with rfl | rfl <;> decide
  rw [ev] at hP hD
  have he0 : (wO ad cI cJ cZ h).set k (ad k, .inl (cZ, n, .inl (upd (h.1 k) i.toNatClampNeg v))) = wO ad cI cJ cZ (sI h k (upd (h.1 k) i.toNatClampNeg v)) := wO_set k95 (by rw [enE_z hk, sI_s]) (fun j hj => sI_n hj) (fun _ _ => rfl)
  rw [he0] at hP hD
  exact g l ad D cI cJ cZ A fm xs L p e R s m args below meth c cells slots Q hC hR H1 locs1 lsA ⟨hP, hD, hS, by rw [sI_n (by omega)]; exact hN.2.2.2.1, hN.2.2.2.2.1, hN.2.2.2.2.2⟩ hl hn
theorem gd_alenI {k n : Nat} {v : Int32} (hd : decode M.1 pc = .ok (.arraylength, 1)) (hk : kd k = (0, n)) (hv : Int32.ofNat n = v) (g : Gd M (pc + 1) ls (.int v :: st) h x) : Gd M pc ls (.ref k :: st) h x := by
  intro l ad D cI cJ cZ A fm xs L p e R s m args below meth c cells slots Q hC hR H locs lsA hN hl hn
  have k95 : k < 95 := kd_lt hk (by decide)
  have g2 := g l ad D cI cJ cZ A fm xs L p e R s m args below meth c cells slots Q hC hR H locs lsA hN hl hn
  simp only [List.map_cons, cv_ref (show k ≠ 120 by omega)]
  exact va_alen hC.1 hC.2.1 hC.2.2.2.2.2.2.1 hN.1 k 0 (by rw [wO_get k95, enE_i hk]) rfl hv hd g2
theorem gd_alenJ {k n : Nat} {v : Int32} (hd : decode M.1 pc = .ok (.arraylength, 1)) (hk : kd k = (1, n)) (hv : Int32.ofNat n = v) (g : Gd M (pc + 1) ls (.int v :: st) h x) : Gd M pc ls (.ref k :: st) h x := by
  intro l ad D cI cJ cZ A fm xs L p e R s m args below meth c cells slots Q hC hR H locs lsA hN hl hn
  have k95 : k < 95 := kd_lt hk (by decide)
  have g2 := g l ad D cI cJ cZ A fm xs L p e R s m args below meth c cells slots Q hC hR H locs lsA hN hl hn
  simp only [List.map_cons, cv_ref (show k ≠ 120 by omega)]
  exact va_alen hC.1 hC.2.1 hC.2.2.2.2.2.2.1 hN.1 k 1 (by rw [wO_get k95, enE_j hk]) rfl hv hd g2
/-- how long the script is -/
def scL (h : Hp) : Nat := (h.2 95 0).toNatClampNeg
theorem scL_eq {h : Hp} {L : Nat} (h1 : h.2 95 0 = lN L) (h2 : L ≤ 3072) : scL h = L := by
  unfold scL
  rw [h1]
  have := pk_lT (n := L) (by omega)
  show (lN L).toInt.toNat = L
  rw [this]
  simp
theorem gd_ialoadX {i : Int32} (hd : decode M.1 pc = .ok (.iaload, 1)) (hi : vp_in i (scL h)) (g : Gd M (pc + 1) ls (.int (h.1 95 i.toNatClampNeg) :: st) h x) : Gd M pc ls (.int i :: .ref 95 :: st) h x := by
  intro l ad D cI cJ cZ A fm xs L p e R s m args below meth c cells slots Q hC hR H locs lsA hN hl hn
  have g2 := g l ad D cI cJ cZ A fm xs L p e R s m args below meth c cells slots Q hC hR H locs lsA hN hl hn
  obtain ⟨b1, b2, b3, b4, b5, b6⟩ := id hN
  obtain ⟨-, -, -, -, -, -, -, -, -, -, -, -, c1, c2, c3⟩ := id hC.2.2.2.2.2.2.2.1
  rw [scL_eq b5 b6] at hi
  rw [b4] at g2
  exact va_sld hC.1 hC.2.1 c1 c2 c3 b3 hi hd g2
theorem gd_alenX (hd : decode M.1 pc = .ok (.arraylength, 1)) (g : Gd M (pc + 1) ls (.int (nI (scL h)) :: st) h x) : Gd M pc ls (.ref 95 :: st) h x := by
  intro l ad D cI cJ cZ A fm xs L p e R s m args below meth c cells slots Q hC hR H locs lsA hN hl hn
  have g2 := g l ad D cI cJ cZ A fm xs L p e R s m args below meth c cells slots Q hC hR H locs lsA hN hl hn
  obtain ⟨b1, b2, b3, b4, b5, b6⟩ := id hN
  obtain ⟨-, -, -, -, -, -, -, -, -, -, -, -, c1, c2, c3⟩ := id hC.2.2.2.2.2.2.2.1
  rw [scL_eq b5 b6] at g2
  exact va_slen hC.1 hC.2.1 c1 c2 c3 b3 hd g2
theorem gd_ialoadU {i : Int32} (hd : decode M.1 pc = .ok (.iaload, 1)) (hi : vp_in i 6) (g : Gd M (pc + 1) ls (.int ((stI 96).getD i.toNatClampNeg 0) :: st) h x) : Gd M pc ls (.int i :: .ref 96 :: st) h x := by
  intro l ad D cI cJ cZ A fm xs L p e R s m args below meth c cells slots Q hC hR H locs lsA hN hl hn
  have g2 := g l ad D cI cJ cZ A fm xs L p e R s m args below meth c cells slots Q hC hR H locs lsA hN hl hn
  obtain ⟨-, c1, -⟩ := id hC.2.2.2.2.2.2.2.1
  exact va_ti hC.1 hC.2.1 c1 hN.2.2.1 hi rfl hd g2
theorem gd_ialoadW {i : Int32} (hd : decode M.1 pc = .ok (.iaload, 1)) (hi : vp_in i 8) (g : Gd M (pc + 1) ls (.int ((stI 97).getD i.toNatClampNeg 0) :: st) h x) : Gd M pc ls (.int i :: .ref 97 :: st) h x := by
  intro l ad D cI cJ cZ A fm xs L p e R s m args below meth c cells slots Q hC hR H locs lsA hN hl hn
  have g2 := g l ad D cI cJ cZ A fm xs L p e R s m args below meth c cells slots Q hC hR H locs lsA hN hl hn
  obtain ⟨-, -, -, c1, -⟩ := id hC.2.2.2.2.2.2.2.1
  exact va_ti hC.1 hC.2.1 c1 hN.2.2.1 hi rfl hd g2
theorem gd_baloadS {i : Int32} {j : Nat} (hj : j < 6) (hd : decode M.1 pc = .ok (.baload, 1)) (hi : vp_in i (lenS.getD j 0)) (g : Gd M (pc + 1) ls (.int ((bytS.getD j []).getD i.toNatClampNeg 0) :: st) h x) : Gd M pc ls (.int i :: .ref (110 + j) :: st) h x := by
  intro l ad D cI cJ cZ A fm xs L p e R s m args below meth c cells slots Q hC hR H locs lsA hN hl hn
  have g2 := g l ad D cI cJ cZ A fm xs L p e R s m args below meth c cells slots Q hC hR H locs lsA hN hl hn
  obtain ⟨-, -, -, -, -, -, c1, -⟩ := id hC.2.2.2.2.2.2.2.1
  simp only [List.map_cons, cv_ref (show 110 + j ≠ 120 by omega)]
  exact va_tb hC.1 hC.2.1 (c1.1 j hj).2.2.2 hN.2.2.1 hi rfl hd g2
theorem gd_alenS {j : Nat} {v : Int32} (hj : j < 6) (hd : decode M.1 pc = .ok (.arraylength, 1)) (hv : Int32.ofNat (lenS.getD j 0) = v) (g : Gd M (pc + 1) ls (.int v :: st) h x) : Gd M pc ls (.ref (110 + j) :: st) h x := by
  intro l ad D cI cJ cZ A fm xs L p e R s m args below meth c cells slots Q hC hR H locs lsA hN hl hn
  have g2 := g l ad D cI cJ cZ A fm xs L p e R s m args below meth c cells slots Q hC hR H locs lsA hN hl hn
  obtain ⟨-, -, -, -, -, -, c1, -⟩ := id hC.2.2.2.2.2.2.2.1
  simp only [List.map_cons, cv_ref (show 110 + j ≠ 120 by omega)]
  exact va_tlen hC.1 hC.2.1 (c1.1 j hj).2.2.2 hN.2.2.1 hv hd g2
theorem gd_getSv {j : Nat} (hj : j < 6) (ho : M.2.2.1 = 11) (hd : decode M.1 pc = .ok (.getfield 9, 3)) (g : Gd M (pc + 3) ls (.ref (110 + j) :: st) h x) : Gd M pc ls (.ref (100 + j) :: st) h x := by
  intro l ad D cI cJ cZ A fm xs L p e R s m args below meth c cells slots Q hC hR H locs lsA hN hl hn
  have g2 := g l ad D cI cJ cZ A fm xs L p e R s m args below meth c cells slots Q hC hR H locs lsA hN hl hn
  obtain ⟨-, -, -, -, -, -, c1, -⟩ := id hC.2.2.2.2.2.2.2.1
  have ho2 := hC.2.2.2.1
  rw [ho] at ho2
  simp only [List.map_cons, cv_ref (show 110 + j ≠ 120 by omega)] at g2
  simp only [List.map_cons, cv_ref (show 100 + j ≠ 120 by omega)]
  exact vk_getf hC.1 hC.2.1 (c1.1 j hj).2.2.1 hN.2.2.1 ho2 (hC.2.2.2.2.1 _ gs_11_9) (fun _ z => z) hd g2
theorem gd_getSc {j : Nat} (hj : j < 6) (ho : M.2.2.1 = 11) (hd : decode M.1 pc = .ok (.getfield 15, 3)) (g : Gd M (pc + 3) ls (.int 0 :: st) h x) : Gd M pc ls (.ref (100 + j) :: st) h x := by
  intro l ad D cI cJ cZ A fm xs L p e R s m args below meth c cells slots Q hC hR H locs lsA hN hl hn
  have g2 := g l ad D cI cJ cZ A fm xs L p e R s m args below meth c cells slots Q hC hR H locs lsA hN hl hn
  obtain ⟨-, -, -, -, -, -, c1, -⟩ := id hC.2.2.2.2.2.2.2.1
  have ho2 := hC.2.2.2.1
  rw [ho] at ho2
  simp only [List.map_cons, cv_ref (show 100 + j ≠ 120 by omega)]
  exact vk_getf hC.1 hC.2.1 (c1.1 j hj).2.1 hN.2.2.1 ho2 (hC.2.2.2.2.1 _ gs_11_15) (fun _ z => z) hd g2
theorem gd_ldcS {j i : Nat} (hj : j < 6) (hi : idxS.getD j 0 = i) (ho : M.2.2.1 = 5) (hd : decode M.1 pc = .ok (.ldc i, 2)) (g : Gd M (pc + 2) ls (.ref (100 + j) :: st) h x) : Gd M pc ls st h x := by
  intro l ad D cI cJ cZ A fm xs L p e R s m args below meth c cells slots Q hC hR H locs lsA hN hl hn
  have g2 := g l ad D cI cJ cZ A fm xs L p e R s m args below meth c cells slots Q hC hR H locs lsA hN hl hn
  obtain ⟨-, -, -, -, -, -, -, c1, -⟩ := id hC.2.2.2.2.2.2.2.1
  have ho2 := hC.2.2.2.1
  rw [ho] at ho2
  subst hi
  simp only [List.map_cons, cv_ref (show 100 + j ≠ 120 by omega)] at g2
  exact va_ldcS hC.1 hC.2.1 ho2 (c1 j hj) hd g2
theorem gd_gsU (ho : M.2.2.1 = 1) (hd : decode M.1 pc = .ok (.getstatic 53, 3)) (g : Gd M (pc + 3) ls (.ref 96 :: st) h x) : Gd M pc ls st h x := by
  intro l ad D cI cJ cZ A fm xs L p e R s m args below meth c cells slots Q hC hR H locs lsA hN hl hn
  have g2 := g l ad D cI cJ cZ A fm xs L p e R s m args below meth c cells slots Q hC hR H locs lsA hN hl hn
  obtain ⟨c1, -, -, -, -, -, -, -, -, -, c2, -⟩ := id hC.2.2.2.2.2.2.2.1
  have ho2 := hC.2.2.2.1
  rw [ho] at ho2
  exact va_getsN hC.1 hC.2.1 c1 hN.2.2.1 ho2 (va_Nw.use rfl c2) (fun _ z => z) hd g2
theorem gd_gsW (ho : M.2.2.1 = 7) (hd : decode M.1 pc = .ok (.getstatic 67, 3)) (g : Gd M (pc + 3) ls (.ref 97 :: st) h x) : Gd M pc ls st h x := by
  intro l ad D cI cJ cZ A fm xs L p e R s m args below meth c cells slots Q hC hR H locs lsA hN hl hn
  have g2 := g l ad D cI cJ cZ A fm xs L p e R s m args below meth c cells slots Q hC hR H locs lsA hN hl hn
  obtain ⟨-, -, c1, -, -, -, -, -, -, -, -, c2, -⟩ := id hC.2.2.2.2.2.2.2.1
  have ho2 := hC.2.2.2.1
  rw [ho] at ho2
  exact va_getsN hC.1 hC.2.1 c1 hN.2.2.1 ho2 (va_Nw.use rfl c2) (fun _ z => z) hd g2
theorem gd_gsC (ho : M.2.2.1 = 11) (hd : decode M.1 pc = .ok (.getstatic 38, 3)) (g : Gd M (pc + 3) ls (.int 1 :: st) h x) : Gd M pc ls st h x := by
  intro l ad D cI cJ cZ A fm xs L p e R s m args below meth c cells slots Q hC hR H locs lsA hN hl hn
  have g2 := g l ad D cI cJ cZ A fm xs L p e R s m args below meth c cells slots Q hC hR H locs lsA hN hl hn
  obtain ⟨-, -, -, -, c1, -⟩ := id hC.2.2.2.2.2.2.2.1
  have ho2 := hC.2.2.2.1
  rw [ho] at ho2
  exact va_gets hC.1 hC.2.1 c1 hN.2.2.1 ho2 (hC.2.2.2.2.1 _ gs_11_38) (fun _ z => z) hd g2
theorem gd_gsF (ho : M.2.2.1 = 11) (hd : decode M.1 pc = .ok (.getstatic 1053, 3)) (g : Gd M (pc + 3) ls (.ref 120 :: st) h x) : Gd M pc ls st h x := by
  intro l ad D cI cJ cZ A fm xs L p e R s m args below meth c cells slots Q hC hR H locs lsA hN hl hn
  have g2 := g l ad D cI cJ cZ A fm xs L p e R s m args below meth c cells slots Q hC hR H locs lsA hN hl hn
  obtain ⟨-, -, -, -, -, c1, -⟩ := id hC.2.2.2.2.2.2.2.1
  have ho2 := hC.2.2.2.1
  rw [ho] at ho2
  exact va_gets hC.1 hC.2.1 c1 hN.2.2.1 ho2 (hC.2.2.2.2.1 _ gs_11_1053) (fun _ z => z) hd g2
theorem gd_acI {i a0 a1 n0 n1 : Nat} {sp dp n : Int32} (hd : decode M.1 pc = .ok (.invokestatic i, 3)) (ha : Cond.methodLink (cnm M.2.2.1) i arraycopyName ∈ wall) (hr1 : 1 ≤ M.2.2.2.2.2.1) (hr2 : 26 ≤ M.2.2.2.2.2.2) (hst : (st.map fun v => v.category).sum ≤ 8) (h0 : kd a0 = (0, n0)) (h1 : kd a1 = (0, n1)) (p1 : ¬ sp < 0) (p2 : ¬ dp < 0) (p3 : ¬ n < 0) (p4 : sp.toNatClampNeg + n.toNatClampNeg ≤ n0) (p5 : dp.toNatClampNeg + n.toNatClampNeg ≤ n1) (g : Gd M (pc + 3) ls st (sI h a1 (va_cpy (h.1 a0) (h.1 a1) sp.toNatClampNeg dp.toNatClampNeg n.toNatClampNeg)) x) : Gd M pc ls (.int n :: .int dp :: .ref a1 :: .int sp :: .ref a0 :: st) h x := by
  intro l ad D cI cJ cZ A fm xs L p e R s m args below meth c cells slots Q hC hR H locs lsA hN hl hn
  have k0 : a0 < 95 := kd_lt h0 (by decide)
  have k1 : a1 < 95 := kd_lt h1 (by decide)
  simp only [List.map_cons, cv_ref (show a0 ≠ 120 by omega), cv_ref (show a1 ≠ 120 by omega)]
  have hst2 : ((st.map (cv ad fm)).map fun v => v.category).sum ≤ 8 := by
    rw [List.map_map]
    have e : ((fun v : Value => v.category) ∘ cv ad fm) = fun v => v.category := funext fun v => cv_cat ad hC.2.2.2.2.2.2.2.2.2 v
    rw [e]; exact hst
  have nf : nativeFrameWords "java/lang/System" "arraycopy" 5 = 7 := by decide
  refine va_copyi hC.1 hC.2.1 (by rw [hl.1]; exact hC.2.2.1) hC.2.2.2.1 (hC.2.2.2.2.1 _ ha) (hC.2.2.2.2.1 _ ac_n) (hC.2.2.2.2.1 _ ac_s) (hC.2.2.2.2.1 _ ac_i) hC.2.2.2.2.2.2.1 hN.1 hN.2.1 hN.2.2.1 a0 a1 0 0 (by rw [wO_get k0, enE_i h0]) (by rw [wO_get k1, enE_i h1]) rfl rfl rfl p1 p2 p3 p4 p5 (fun _ _ => rfl) (Nat.le_trans hr1 hC.2.2.2.2.2.1.1) (Nat.le_trans (by rw [nf]; omega) (Nat.le_trans hr2 hC.2.2.2.2.2.1.2)) hd (fun H1 locs1 hP hD hS => ?_)
  have he0 : (wO ad cI cJ cZ h).set a1 (ad a1, .inl (cI, n1, .inl (va_cpy (h.1 a0) (h.1 a1) sp.toNatClampNeg dp.toNatClampNeg n.toNatClampNeg))) = wO ad cI cJ cZ (sI h a1 (va_cpy (h.1 a0) (h.1 a1) sp.toNatClampNeg dp.toNatClampNeg n.toNatClampNeg)) := wO_set k1 (by rw [enE_i h1, sI_s]) (fun j hj => sI_n hj) (fun _ _ => rfl)
  rw [he0] at hP hD
  exact g l ad D cI cJ cZ A fm xs L p e R s m args below meth c cells slots Q hC hR H1 locs1 lsA ⟨hP, hD, hS, by rw [sI_n (by omega)]; exact hN.2.2.2.1, hN.2.2.2.2.1, hN.2.2.2.2.2⟩ hl hn
theorem gd_acL {i a0 a1 n0 n1 : Nat} {sp dp n : Int32} (hd : decode M.1 pc = .ok (.invokestatic i, 3)) (ha : Cond.methodLink (cnm M.2.2.1) i arraycopyName ∈ wall) (hr1 : 1 ≤ M.2.2.2.2.2.1) (hr2 : 26 ≤ M.2.2.2.2.2.2) (hst : (st.map fun v => v.category).sum ≤ 8) (h0 : kd a0 = (1, n0)) (h1 : kd a1 = (1, n1)) (p1 : ¬ sp < 0) (p2 : ¬ dp < 0) (p3 : ¬ n < 0) (p4 : sp.toNatClampNeg + n.toNatClampNeg ≤ n0) (p5 : dp.toNatClampNeg + n.toNatClampNeg ≤ n1) (g : Gd M (pc + 3) ls st (sL h a1 (va_cpy (h.2 a0) (h.2 a1) sp.toNatClampNeg dp.toNatClampNeg n.toNatClampNeg)) x) : Gd M pc ls (.int n :: .int dp :: .ref a1 :: .int sp :: .ref a0 :: st) h x := by
  intro l ad D cI cJ cZ A fm xs L p e R s m args below meth c cells slots Q hC hR H locs lsA hN hl hn
  have k0 : a0 < 95 := kd_lt h0 (by decide)
  have k1 : a1 < 95 := kd_lt h1 (by decide)
  simp only [List.map_cons, cv_ref (show a0 ≠ 120 by omega), cv_ref (show a1 ≠ 120 by omega)]
  have hst2 : ((st.map (cv ad fm)).map fun v => v.category).sum ≤ 8 := by
    rw [List.map_map]
    have e : ((fun v : Value => v.category) ∘ cv ad fm) = fun v => v.category := funext fun v => cv_cat ad hC.2.2.2.2.2.2.2.2.2 v
    rw [e]; exact hst
  have nf : nativeFrameWords "java/lang/System" "arraycopy" 5 = 7 := by decide
  refine va_copyl hC.1 hC.2.1 (by rw [hl.1]; exact hC.2.2.1) hC.2.2.2.1 (hC.2.2.2.2.1 _ ha) (hC.2.2.2.2.1 _ ac_n) (hC.2.2.2.2.1 _ ac_s) (hC.2.2.2.2.1 _ ac_i) hC.2.2.2.2.2.2.1 hN.1 hN.2.1 hN.2.2.1 a0 a1 1 1 (by rw [wO_get k0, enE_j h0]) (by rw [wO_get k1, enE_j h1]) rfl rfl rfl p1 p2 p3 p4 p5 (fun _ _ => rfl) (Nat.le_trans hr1 hC.2.2.2.2.2.1.1) (Nat.le_trans (by rw [nf]; omega) (Nat.le_trans hr2 hC.2.2.2.2.2.1.2)) hd (fun H1 locs1 hP hD hS => ?_)
  have he0 : (wO ad cI cJ cZ h).set a1 (ad a1, .inl (cJ, n1, .inr (.inl (va_cpy (h.2 a0) (h.2 a1) sp.toNatClampNeg dp.toNatClampNeg n.toNatClampNeg)))) = wO ad cI cJ cZ (sL h a1 (va_cpy (h.2 a0) (h.2 a1) sp.toNatClampNeg dp.toNatClampNeg n.toNatClampNeg)) := wO_set k1 (by rw [enE_j h1, sL_s]) (fun _ _ => rfl) (fun j hj => sL_n hj)
  rw [he0] at hP hD
  exact g l ad D cI cJ cZ A fm xs L p e R s m args below meth c cells slots Q hC hR H1 locs1 lsA ⟨hP, hD, hS, hN.2.2.2.1, by rw [sL_n (by omega)]; exact hN.2.2.2.2.1, hN.2.2.2.2.2⟩ hl hn
theorem st_cat {ad : Nat → Nat} {fm : Value} (hf : fm.category = 1) {st : List Value} {n : Nat} (h : (st.map fun v => v.category).sum ≤ n) : ((st.map (cv ad fm)).map fun v => v.category).sum ≤ n := by
  rw [List.map_map]
  have e : ((fun v : Value => v.category) ∘ cv ad fm) = fun v => v.category := funext fun v => cv_cat ad hf v
  rw [e]; exact h
theorem gd_mmax {i : Nat} {a b : Int32} (hd : decode M.1 pc = .ok (.invokestatic i, 3)) (ha : Cond.methodLink (cnm M.2.2.1) i Lib.Math.max.name ∈ wall) (hr1 : 1 ≤ M.2.2.2.2.2.1) (hr2 : 21 ≤ M.2.2.2.2.2.2) (hst : (st.map fun v => v.category).sum ≤ 8) (g : Gd M (pc + 3) ls (.int (if a < b then b else a) :: st) h x) : Gd M pc ls (.int b :: .int a :: st) h x := by
  intro l ad D cI cJ cZ A fm xs L p e R s m args below meth c cells slots Q hC hR H locs lsA hN hl hn
  have g2 := g l ad D cI cJ cZ A fm xs L p e R s m args below meth c cells slots Q hC hR H locs lsA hN hl hn
  exact va_mmax hC.1 hC.2.1 (by rw [hl.1]; exact hC.2.2.1) hC.2.2.2.1 (hC.2.2.2.2.1 _ ha) (hC.2.2.2.2.1 _ mmax_s) (hC.2.2.2.2.1 _ mth_i) (hC.2.2.2.2.1 _ mmax_c) (Nat.le_trans hr1 hC.2.2.2.2.2.1.1) (Nat.le_trans (by have := st_cat (ad := ad) hC.2.2.2.2.2.2.2.2.2 hst; omega) (Nat.le_trans hr2 hC.2.2.2.2.2.1.2)) hC.2.2.2.2.2.2.2.2.1.1 hC.2.2.2.2.2.2.2.2.1.2 hd g2
theorem gd_mmin {i : Nat} {a b : Int32} (hd : decode M.1 pc = .ok (.invokestatic i, 3)) (ha : Cond.methodLink (cnm M.2.2.1) i Lib.Math.min.name ∈ wall) (hr1 : 1 ≤ M.2.2.2.2.2.1) (hr2 : 21 ≤ M.2.2.2.2.2.2) (hst : (st.map fun v => v.category).sum ≤ 8) (g : Gd M (pc + 3) ls (.int (if b < a then b else a) :: st) h x) : Gd M pc ls (.int b :: .int a :: st) h x := by
  intro l ad D cI cJ cZ A fm xs L p e R s m args below meth c cells slots Q hC hR H locs lsA hN hl hn
  have g2 := g l ad D cI cJ cZ A fm xs L p e R s m args below meth c cells slots Q hC hR H locs lsA hN hl hn
  exact va_mmin hC.1 hC.2.1 (by rw [hl.1]; exact hC.2.2.1) hC.2.2.2.1 (hC.2.2.2.2.1 _ ha) (hC.2.2.2.2.1 _ mmin_s) (hC.2.2.2.2.1 _ mth_i) (hC.2.2.2.2.1 _ mmin_c) (Nat.le_trans hr1 hC.2.2.2.2.2.1.1) (Nat.le_trans (by have := st_cat (ad := ad) hC.2.2.2.2.2.2.2.2.2 hst; omega) (Nat.le_trans hr2 hC.2.2.2.2.2.1.2)) hC.2.2.2.2.2.2.2.2.1.1 hC.2.2.2.2.2.2.2.2.1.2 hd g2
theorem gd_iret {v : Int32} {ty : FieldType} (hd : decode M.1 pc = .ok (.ireturn, 1)) (hr : M.2.2.2.2.1 = some ty) (hv : narrow ty (.int v) = .int v) (hx : x = (some (.int v), h)) : Gd M pc ls [.int v] h x := by
  subst hx
  intro l ad D cI cJ cZ A fm xs L p e R s m args below meth c cells slots Q hC hR H locs lsA hN hl hn
  exact hR H locs lsA pc hN ⟨hd, ty, hr, hv⟩
theorem gd_lret {v : Int64} (hd : decode M.1 pc = .ok (.lreturn, 1)) (hr : M.2.2.2.2.1 = some .long) (hx : x = (some (.long v), h)) : Gd M pc ls [.long v] h x := by
  subst hx
  intro l ad D cI cJ cZ A fm xs L p e R s m args below meth c cells slots Q hC hR H locs lsA hN hl hn
  exact hR H locs lsA pc hN ⟨hd, hr⟩
theorem gd_vret (hd : decode M.1 pc = .ok (.return_, 1)) (hr : M.2.2.2.2.1 = none) (hx : x = (none, h)) : Gd M pc ls [] h x := by
  subst hx
  intro l ad D cI cJ cZ A fm xs L p e R s m args below meth c cells slots Q hC hR H locs lsA hN hl hn
  exact hR H locs lsA pc hN ⟨hd, hr⟩
end GD
