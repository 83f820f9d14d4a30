theorem ls_u : Cond.laysStatic "ShakeLetters" "UNDER" "[I" ∈ lw_tbl := List.mem_of_getElem? (i := 490) (by decide +kernel)
theorem ls_w : Cond.laysStatic "ShakeLetters" "LAW_WITHOUT" "[I" ∈ lw_tbl := List.mem_of_getElem? (i := 568) (by decide +kernel)
theorem ls_c : Cond.laysStatic "java/lang/String" "COMPACT_STRINGS" "Z" ∈ lw_tbl := List.mem_of_getElem? (i := 641) (by decide +kernel)
theorem ls_f : Cond.laysStatic "jdk/internal/util/Preconditions" "SIOOBE_FORMATTER" "Ljava/util/function/BiFunction;" ∈ lw_tbl := List.mem_of_getElem? (i := 657) (by decide +kernel)
theorem iz_s : Cond.initialized "ShakeLetters" ∈ lw_tbl := List.mem_of_getElem? (i := 58) (by decide +kernel)
theorem iz_j : Cond.initialized "java/lang/String" ∈ lw_tbl := List.mem_of_getElem? (i := 69) (by decide +kernel)
theorem iz_p : Cond.initialized "jdk/internal/util/Preconditions" ∈ lw_tbl := List.mem_of_getElem? (i := 71) (by decide +kernel)
theorem sr_0 : Cond.stringRef RX5 51 "word" ∈ lw_tbl := List.mem_of_getElem? (i := 627) (by decide +kernel)
theorem sr_1 : Cond.stringRef RX5 61 "is" ∈ lw_tbl := List.mem_of_getElem? (i := 688) (by decide +kernel)
theorem sr_2 : Cond.stringRef RX5 66 "reckon" ∈ lw_tbl := List.mem_of_getElem? (i := 697) (by decide +kernel)
theorem sr_3 : Cond.stringRef RX5 68 "more" ∈ lw_tbl := List.mem_of_getElem? (i := 698) (by decide +kernel)
theorem sr_4 : Cond.stringRef RX5 73 "falls" ∈ lw_tbl := List.mem_of_getElem? (i := 703) (by decide +kernel)
theorem sr_5 : Cond.stringRef RX5 75 "ground" ∈ lw_tbl := List.mem_of_getElem? (i := 704) (by decide +kernel)
theorem nw_1 : Cond.methodLinkNest RX7 76 yX8_stepsBetween "ShakeLetters" ∈ lw_tbl := List.mem_of_getElem? (i := 530) (by decide +kernel)
theorem nw_2 : Cond.methodLinkNest RX4 134 yX8_weightOfMiss "ShakeLetters" ∈ lw_tbl := List.mem_of_getElem? (i := 884) (by decide +kernel)
theorem nw_3 : Cond.fieldLinkNest RX1 53 "ShakeLetters" "UNDER" "[I" "ShakeLetters" ∈ lw_tbl := List.mem_of_getElem? (i := 489) (by decide +kernel)
theorem nw_4 : Cond.fieldLinkNest RX7 67 "ShakeLetters" "LAW_WITHOUT" "[I" "ShakeLetters" ∈ lw_tbl := List.mem_of_getElem? (i := 567) (by decide +kernel)

abbrev tUn : Term := .static "ShakeLetters" "UNDER" "[I"
abbrev tWo : Term := .static "ShakeLetters" "LAW_WITHOUT" "[I"
def tS (i : Nat) : Term := .string RX5 (idxS.getD i 0)
abbrev gvn : Cond := Jvm.Cond.and given_1 narrow_1
theorem gv_u : Cond.arrayOf tUn .int ∈ flatC gvn ∧ Cond.eq (.length tUn) (.int (Int32.ofNat 6)) ∈ flatC gvn ∧ ∀ j, j < 6 → Cond.eq (.elem tUn (.int (Int32.ofNat j))) (.int ((stI 96).getD j 0)) ∈ flatC gvn := by decide +kernel
theorem gv_w : Cond.arrayOf tWo .int ∈ flatC gvn ∧ Cond.eq (.length tWo) (.int (Int32.ofNat 8)) ∈ flatC gvn ∧ ∀ j, j < 8 → Cond.eq (.elem tWo (.int (Int32.ofNat j))) (.int ((stI 97).getD j 0)) ∈ flatC gvn := by decide +kernel
theorem gv_c : Cond.eq (.static "java/lang/String" "COMPACT_STRINGS" "Z") (.int 1) ∈ flatC gvn := by decide +kernel
theorem gv_f : Cond.isRef (.static "jdk/internal/util/Preconditions" "SIOOBE_FORMATTER" "Ljava/util/function/BiFunction;") ∈ flatC gvn := by decide +kernel
theorem gv_s1 : ∀ i, i < 6 → Cond.exactly (tS i) "java/lang/String" ∈ flatC gvn := by decide +kernel
theorem gv_s2 : ∀ i, i < 6 → Cond.eq (.field (tS i) "java/lang/String" "coder" "B") (.int 0) ∈ flatC gvn := by decide +kernel
theorem gv_s3 : ∀ i, i < 6 → Cond.arrayOf (.field (tS i) "java/lang/String" "value" "[B") .byte ∈ flatC gvn := by decide +kernel
theorem gv_s4 : ∀ i, i < 6 → Cond.eq (.length (.field (tS i) "java/lang/String" "value" "[B")) (.int (Int32.ofNat (lenS.getD i 0))) ∈ flatC gvn := by decide +kernel
theorem gv_s5 : ∀ i, i < 6 → ∀ j, j < lenS.getD i 0 → Cond.eq (.elem (.field (tS i) "java/lang/String" "value" "[B") (.int (Int32.ofNat j))) (.int ((bytS.getD i []).getD j 0)) ∈ flatC gvn := by decide +kernel
theorem gv_s6 : ∀ i, i < 6 → ∀ j, j < 6 → i ≠ j → Cond.not (Cond.eq (tS i) (tS j)) ∈ flatC gvn ∨ Cond.not (Cond.eq (tS j) (tS i)) ∈ flatC gvn := by decide +kernel
theorem gv_n : ∀ i, i < 6 → lenS.getD i 0 < 2 ^ 31 := by decide +kernel
set_option maxHeartbeats 1000000 in
/-- what the law's start gives of static fields, tables and names -/
theorem sts_start {s : State} {b L : Nat} {xs : Nat → Int32} (hts : ∀ w ∈ lw_tbl, w.before #[Value.ref b] s = true) (hX : va_X b L xs s s.heap) (hbl : b < s.heap.size) (hgv : gvn.before #[Value.ref b] s = true) :
    ∃ (tU tW : Nat) (aK aV : Nat → Nat) (fm : Value), fm.category = 1 ∧ ∀ ad : Nat → Nat, ad 95 = b → ad 96 = tU → ad 97 = tW → (∀ i, i < 6 → ad (100 + i) = aK i) → (∀ i, i < 6 → ad (110 + i) = aV i) → Sts ad fm xs L (fun q => s.heap.size ≤ q) s s.heap := by
  have hA : ∀ a : Nat, a < s.heap.size → ¬ (fun q : Nat => s.heap.size ≤ q) a := fun a h => Nat.not_le.mpr h
  have hs := flat_of_before _ hgv
  obtain ⟨u1, u2, u3⟩ := gv_u
  obtain ⟨w1, w2, w3⟩ := gv_w
  obtain ⟨tU, eU, hU⟩ := va_Tof (N := 6) (f := fun j => .int ((stI 96).getD j 0)) (A := fun q : Nat => s.heap.size ≤ q) (by decide) (hs _ u1) (va_eqt (hs _ u2)) (fun j hj => va_eqt (hs _ (u3 j hj))) hA
  obtain ⟨tW, eW, hW⟩ := va_Tof (N := 8) (f := fun j => .int ((stI 97).getD j 0)) (A := fun q : Nat => s.heap.size ≤ q) (by decide) (hs _ w1) (va_eqt (hs _ w2)) (fun j hj => va_eqt (hs _ (w3 j hj))) hA
  obtain ⟨aK, aV, hV, eV⟩ := vk_Sof (N := 6) (tm := tS) (len := lenS) (byt := bytS) (A := fun q : Nat => s.heap.size ≤ q) gv_n (fun i hi => hs _ (gv_s1 i hi)) (fun i hi => hs _ (gv_s2 i hi)) (fun i hi => hs _ (gv_s3 i hi)) (fun i hi => hs _ (gv_s4 i hi)) (fun i hi j hj => hs _ (gv_s5 i hi j hj)) (fun i j hi hj hn => (gv_s6 i hi j hj hn).imp (fun h => hs _ h) (fun h => hs _ h)) hA
  have zU := va_Zof (hts _ ls_u) (hts _ iz_s) eU hA
  have zW := va_Zof (hts _ ls_w) (hts _ iz_s) eW hA
  have zC := va_Zof (hts _ ls_c) (hts _ iz_j) (va_eqi (hs _ gv_c)) hA
  have hR : ∀ j, j < 6 → vk_R RX5 (idxS.getD j 0) (txtS.getD j "") (aK j) s := by
    intro j hj
    have ej := eV j hj
    rcases (show j = 0 ∨ j = 1 ∨ j = 2 ∨ j = 3 ∨ j = 4 ∨ j = 5 by omega) with rfl | rfl | rfl | rfl | rfl | rfl
    · exact vk_R.of (hts _ sr_0) ej
    · exact vk_R.of (hts _ sr_1) ej
    · exact vk_R.of (hts _ sr_2) ej
    · exact vk_R.of (hts _ sr_3) ej
    · exact vk_R.of (hts _ sr_4) ej
    · exact vk_R.of (hts _ sr_5) ej
  have key : ∀ fm : Value, va_Z "jdk/internal/util/Preconditions" "SIOOBE_FORMATTER" "Ljava/util/function/BiFunction;" fm (fun q : Nat => s.heap.size ≤ q) s s.heap → ∀ ad : Nat → Nat, ad 95 = b → ad 96 = tU → ad 97 = tW → (∀ i, i < 6 → ad (100 + i) = aK i) → (∀ i, i < 6 → ad (110 + i) = aV i) → Sts ad fm xs L (fun q => s.heap.size ≤ q) s s.heap := by
    intro fm zF ad e95 e96 e97 e100 e110
    refine ⟨by rw [e96]; exact zU, by rw [e96]; exact hU, by rw [e97]; exact zW, by rw [e97]; exact hW, zC, zF, ⟨fun i hi => ?_, fun i j hi hj e => ?_⟩, fun j hj => ?_, va_Nw.of rfl (hts _ nw_1), va_Nw.of rfl (hts _ nw_2), va_Nw.of rfl (hts _ nw_3), va_Nw.of rfl (hts _ nw_4), by rw [e95]; exact hX, by rw [e95]; exact hbl, by rw [e95]; exact hA b hbl⟩
    · dsimp only
      rw [e100 i hi, e110 i hi]
      exact hV.1 i hi
    · have e : ad (100 + i) = ad (100 + j) := e
      rw [e100 i hi, e100 j hj] at e
      exact hV.2 i j hi hj e
    · rw [e100 j hj]
      exact hR j hj
  rcases va_Zqof (hts _ ls_f) (hts _ iz_p) (hs _ gv_f) hA with z | ⟨t, z⟩
  · exact ⟨tU, tW, aK, aV, .null, rfl, key _ z⟩
  · exact ⟨tU, tW, aK, aV, .ref t, rfl, key _ z⟩
/-- the pure heap at the start -/
def hz (xs : Nat → Int32) (L : Nat) : Hp := (fun k => if k = 95 then xs else if k = 60 then (fun f => if f = 2 then 1 else 0) else fun _ => 0, fun k => if k = 95 then (fun _ => lN L) else fun _ => 0)
theorem hz_1 {xs : Nat → Int32} {L k f : Nat} (h1 : k ≠ 95) (h2 : k ≠ 60) : (hz xs L).1 k f = 0 := by
  show (if k = 95 then xs else if k = 60 then (fun f => if f = 2 then 1 else 0) else fun _ => 0) f = 0
  rw [if_neg h1, if_neg h2]
theorem hz_2 {xs : Nat → Int32} {L k f : Nat} (h1 : k ≠ 95) : (hz xs L).2 k f = 0 := by
  show (if k = 95 then (fun _ => lN L) else fun _ => 0) f = (0 : Int64)
  rw [if_neg h1]
theorem hz_ms (xs : Nat → Int32) (L : Nat) : ms (hz xs L) = fun _ _ => 0 := by
  funext k i
  unfold ms
  split
  · rename_i h
    by_cases hk : k < 8
    · exact hz_1 (by omega) (by omega)
    · exfalso
      have : szR k = 0 := by
        unfold szR
        rw [List.getD_eq_getElem?_getD, List.getElem?_eq_none (by simp; omega)]
        rfl
      omega
  · rfl
theorem z_n : tn 0 = 0 := by decide
theorem z_0 : (0 : Int32) = nI 0 := by decide
set_option maxHeartbeats 1000000 in
theorem inv_hz {xs : Nat → Int32} {L : Nat} (hL : L ≤ 3072) : Inv (hz xs L) := by
  have e0 : ∀ k f, k ≠ 95 → k ≠ 60 → (hz xs L).1 k f = 0 := fun k f h1 h2 => hz_1 h1 h2
  refine ⟨?_, ?_, ⟨Or.inl ((e0 0 2 (by decide) (by decide)).trans z_0), ?_, ?_⟩, ?_, ⟨⟨?_, ?_, ?_⟩, ?_⟩, ⟨?_, ?_, ?_, ?_, ?_⟩, ?_⟩
  · rw [hz_ms]
    have a : ∀ {t : Nat} {P : Prop}, t < tn 0 → P := fun h => absurd h (by rw [z_n]; exact Nat.not_lt_zero _)
    refine ⟨by decide, by decide, by decide, by decide, by decide, fun c _ => ⟨0, by decide, z_0⟩, fun t h => a h, fun i h => ?_, fun l h => a h, fun t h => a h, fun t h => a h, fun t h => a h, fun k h => a h⟩
    exact absurd (show i < 6 * tn 0 from h) (by rw [z_n]; exact Nat.not_lt_zero _)
  · rw [hz_ms]
    have a : ∀ {t : Nat} {P : Prop}, t < tn 0 → P := fun h => absurd h (by rw [z_n]; exact Nat.not_lt_zero _)
    refine ⟨e0 _ _ (by decide) (by decide), e0 _ _ (by decide) (by decide), e0 _ _ (by decide) (by decide), e0 _ _ (by decide) (by decide), e0 _ _ (by decide) (by decide), fun c _ => e0 _ _ (by decide) (by decide), fun t h => a h, fun i h => ?_, fun i _ _ => (e0 _ _ (by decide) (by decide)).trans z_0, fun t h => a h, fun t h => a h, fun t h => a h, fun t h => a h, fun t h => a h, fun t h => a h, fun t h => a h, fun t h => a h, (e0 _ _ (by decide) (by decide)).trans (by decide), fun t h => a h, fun t h => a h, fun t h => a h, fun t h => a h, fun t h => a h, fun t h => a h, fun t h => a h, fun t h => a h⟩
    exact absurd (show i < 6 * tn 0 from h) (by rw [z_n]; exact Nat.not_lt_zero _)
  · rw [e0 72 32 (by decide) (by decide), e0 0 2 (by decide) (by decide)]
  · intro h
    rw [e0 0 2 (by decide) (by decide)] at h
    exact absurd h (by decide)
  · intro j _
    rw [e0 73 _ (by decide) (by decide), e0 71 _ (by decide) (by decide)]
  · rw [e0 72 14 (by decide) (by decide), e0 51 1 (by decide) (by decide)]
    decide
  · rw [e0 72 14 (by decide) (by decide)]
    decide
  · rw [e0 72 14 (by decide) (by decide)]
    decide
  · rw [e0 72 14 (by decide) (by decide)]
    exact fun i h => absurd h (by rw [z_n]; exact Nat.not_lt_zero _)
  · intro q _
    rw [e0 58 _ (by decide) (by decide), e0 90 _ (by decide) (by decide)]
  · intro q _
    rw [e0 59 _ (by decide) (by decide), e0 91 _ (by decide) (by decide)]
  · intro q _
    rw [e0 91 _ (by decide) (by decide)]
    decide
  · intro q _
    rw [e0 90 _ (by decide) (by decide)]
    exact Or.inl z_0
  · intro i _
    rw [hz_2 (by decide), hz_2 (by decide)]
  · rw [scL_eq (h := hz xs L) (L := L) rfl hL]
    exact hL
set_option maxHeartbeats 4000000 in
set_option maxRecDepth 100000 in
theorem wO_hz (ad : Nat → Nat) (cI cJ cZ : ClassId) (xs : Nat → Int32) (L : Nat) : ws8 cI cJ cZ (ad 0) (fun k => ad (k + 1)) ++ ws9 cI cJ cZ (ad 72) (fun k => ad (73 + k)) = wO ad cI cJ cZ (hz xs L) := rfl
theorem k_at {s : State} {q : vw_C} {v : vw_C} {a : ClassId} {i : Nat → Nat} (h : u_Kn s v.1 v.2.1 v.2.2 a i) (e : (some v : Option vw_C) = some q) : u_Kn s q.1 q.2.1 q.2.2 a i := by cases e; exact h
set_option maxHeartbeats 1000000 in
/-- classes and array classes, as the tables know them -/
theorem known_start {s : State} {args : Array Value} (hw : ∀ w ∈ wall, w.before args s = true) : ∃ (D : va_G) (cI cJ cZ : ClassId), va_K D vwCl (tyz cI cJ cZ) s := by
  obtain ⟨c0, i0, k0⟩ := u_known (ws := wall) hw lay_0 (hw _ w_is_0)
  obtain ⟨c1, i1, k1⟩ := u_known (ws := wall) hw lay_1 (hw _ w_is_1)
  obtain ⟨c2, i2, k2⟩ := u_known (ws := wall) hw lay_2 (hw _ w_is_2)
  obtain ⟨c3, i3, k3⟩ := u_known (ws := wall) hw lay_3 (hw _ w_is_3)
  obtain ⟨c4, i4, k4⟩ := u_known (ws := wall) hw lay_4 (hw _ w_is_4)
  obtain ⟨c5, i5, k5⟩ := u_known (ws := wall) hw lay_5 (hw _ w_is_5)
  obtain ⟨c6, i6, k6⟩ := u_known (ws := wall) hw lay_6 (hw _ w_is_6)
  obtain ⟨c7, i7, k7⟩ := u_known (ws := wall) hw lay_7 (hw _ w_is_7)
  obtain ⟨c8, i8, k8⟩ := u_known (ws := wall) hw lay_8 (hw _ w_is_8)
  obtain ⟨c9, i9, k9⟩ := u_known (ws := wall) hw lay_9 (hw _ w_is_9)
  obtain ⟨cI, kI, oI, fI, gI, hI⟩ := Cond.arrayClass_spec (hw _ w_ar_int)
  obtain ⟨cJ, kJ, oJ, fJ, gJ, hJ⟩ := Cond.arrayClass_spec (hw _ w_ar_long)
  obtain ⟨cZ, kZ, oZ, fZ, gZ, hZ⟩ := Cond.arrayClass_spec (hw _ w_ar_boolean)
  refine ⟨(fun c => [c0, c1, c2, c3, c4, c5, c6, c7, c8, c9].getD c c0, fun c => [i0, i1, i2, i3, i4, i5, i6, i7, i8, i9].getD c i0), cI, cJ, cZ, ?_, ?_⟩
  · intro c q hq
    have hc : c < 10 := (List.getElem?_eq_some_iff.mp hq).1
    rcases (show c = 0 ∨ c = 1 ∨ c = 2 ∨ c = 3 ∨ c = 4 ∨ c = 5 ∨ c = 6 ∨ c = 7 ∨ c = 8 ∨ c = 9 by omega) with rfl | rfl | rfl | rfl | rfl | rfl | rfl | rfl | rfl | rfl
    · exact k_at k0 hq
    · exact k_at k1 hq
    · exact k_at k2 hq
    · exact k_at k3 hq
    · exact k_at k4 hq
    · exact k_at k5 hq
    · exact k_at k6 hq
    · exact k_at k7 hq
    · exact k_at k8 hq
    · exact k_at k9 hq
  · intro k q hq
    have hc : k < 3 := (List.getElem?_eq_some_iff.mp hq).1
    rcases (show k = 0 ∨ k = 1 ∨ k = 2 by omega) with rfl | rfl | rfl
    · cases hq
      exact ⟨fun n z => ⟨fun _ h => (by cases h), kI, gI, oI, hI⟩, fI⟩
    · cases hq
      exact ⟨fun n z => ⟨fun _ h => (by cases h), kJ, gJ, oJ, hJ⟩, fJ⟩
    · cases hq
      exact ⟨fun n z => ⟨fun _ h => (by cases h), kZ, gZ, oZ, hZ⟩, fZ⟩

