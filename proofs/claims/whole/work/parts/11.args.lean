
/-! ===== findings; what the acts ask of their arguments, on both sides ===== -/
def hm (h : Hp) (j : Nat) : Hp := sI h 73 (upd (h.1 73) (j + 1) (h.1 73 (j + 1) + nI 1))
theorem inv_find {h : Hp} {j : Nat} (i : Inv h) (hj : j < 7) : Inv (hm (hf h j) j) := by
  have e1 : ∀ k, k ≠ 71 → k ≠ 73 → (hm (hf h j) j).1 k = h.1 k := fun k h1 h2 => by
    unfold hm hf; rw [sI_n h2, sI_n h1]
  have e2 : (hm (hf h j) j).2 = h.2 := rfl
  have em : ms (hm (hf h j) j) = ms h := by
    funext k a
    unfold ms
    by_cases hk : a < szR k
    · rw [if_pos hk, if_pos hk, e1 _ (by omega) (by omega)]
    · rw [if_neg hk, if_neg hk]
  have ek : ks (hm (hf h j) j) = ks h := by
    funext k a
    unfold ks
    rw [e1 94 (by decide) (by decide)]
  refine ⟨by rw [em]; exact i.w, by rw [em]; exact i.c.same (fun a h1 h2 => e1 _ (by omega) (by omega)), ⟨?_, ?_, ?_⟩, ?_, ⟨?_, ?_⟩, ⟨?_, ?_, ?_, ?_, ?_⟩, ?_⟩
  · rw [e1 0 (by decide) (by decide)]; exact i.k.z
  · rw [e1 0 (by decide) (by decide), e1 72 (by decide) (by decide)]; exact i.k.e
  · rw [e1 0 (by decide) (by decide), ek]; exact fun e => ⟨(i.k.k e).1, (i.k.k e).2.same (fun a h1 h2 => e1 _ (by omega) (by omega))⟩
  · intro a ha
    unfold hm hf
    rw [sI_s, sI_n (by decide), sI_n (by decide), sI_s, upd_at, upd_at]
    by_cases e : a = j
    · subst e; rw [if_pos rfl, if_pos rfl, i.f a ha]
    · rw [if_neg (by omega), if_neg e, i.f a ha]
  · rw [e1 51 (by decide) (by decide), e1 72 (by decide) (by decide)]; exact i.p.n
  · rw [e1 72 (by decide) (by decide), e1 52 (by decide) (by decide), e1 85 (by decide) (by decide)]; exact i.p.b
  · rw [e1 58 (by decide) (by decide), e1 90 (by decide) (by decide)]; exact i.s.w
  · rw [e1 59 (by decide) (by decide), e1 91 (by decide) (by decide)]; exact i.s.z
  · rw [e1 91 (by decide) (by decide)]; exact i.s.n
  · rw [e1 90 (by decide) (by decide)]; exact i.s.v
  · rw [e2]; exact i.s.x
  · exact i.l
theorem inv_find2 {h h1 h2 : Hp} {j : Nat} (i : Inv h) (hj : j < 7) (q1 : Same h h1) (q2 : Same (hf h1 j) h2) : Inv (hm h2 j) := by
  refine Inv.same (h := hm (hf h j) j) ⟨fun k hk => ?_, ⟨?_, ?_, ?_⟩, fun k hk => ?_⟩ (inv_find i hj)
  · by_cases h73 : k = 73
    · subst h73
      unfold hm
      rw [sI_s, sI_s, q2.1 73 (by decide)]
      unfold hf
      rw [sI_n (by decide), sI_n (by decide), q1.1 73 (by decide)]
    · unfold hm
      rw [sI_n h73, sI_n h73, q2.1 k hk]
      by_cases h71 : k = 71
      · subst h71
        unfold hf
        rw [sI_s, sI_s, q1.1 71 (by decide)]
      · unfold hf
        rw [sI_n h71, sI_n h71, q1.1 k hk]
  · exact q2.2.1.1.trans q1.2.1.1
  · exact q2.2.1.2.1.trans q1.2.1.2.1
  · exact q2.2.1.2.2.trans q1.2.1.2.2
  · exact (q2.2.2 k hk).trans (q1.2.2 k hk)
/-- a step of the law: both sides answer alike, and what was between them still is -/
def Pas (Mc Mm : MD) (ac am : List Value) (h : Hp) : Prop := ∃ (r : Value) (h1 h2 : Hp), Gd Mc 0 ac [] h (some r, h1) ∧ Gd Mm 0 am [] h1 (some r, h2) ∧ Inv h2 ∧ h2.1 95 = h.1 95 ∧ h2.2 95 = h.2 95
theorem Pas.find {Mc Mm : MD} {ac am : List Value} {h h1 h2 : Hp} {v w : Int32} (j : Nat) (i : Inv h) (hj : j < 7) (hv : v = (-1000000001 : Int32) - nI j) (hw : w = v) (q1 : Same h h1) (q2 : Same (hf h1 j) h2) (g1 : Gd Mc 0 ac [] h (some (.int v), hf h1 j)) (g2 : Gd Mm 0 am [] (hf h1 j) (some (.int w), hm h2 j)) : Pas Mc Mm ac am h := by
  subst hw
  refine ⟨_, _, _, g1, g2, inv_find2 i hj q1 q2, ?_, ?_⟩
  · unfold hm; rw [sI_n (by decide), q2.1 95 (by decide)]; unfold hf; rw [sI_n (by decide), q1.1 95 (by decide)]
  · exact (q2.2.2 95 (by decide)).trans (q1.2.2 95 (by decide))
theorem Pas.read {Mc Mm : MD} {ac am : List Value} {h h1 h2 : Hp} {r r2 : Value} (i : Inv h) (hr : r2 = r) (q1 : Same h h1) (q2 : Same h1 h2) (g1 : Gd Mc 0 ac [] h (some r, h1)) (g2 : Gd Mm 0 am [] h1 (some r2, h2)) : Pas Mc Mm ac am h := by
  subst hr
  have q := q1.tr q2
  exact ⟨_, _, _, g1, g2, i.same q, q.1 95 (by decide), q.2.2 95 (by decide)⟩

theorem m_in (a b c : Int32) (h : Hp) : Gd mX9_in 0 [.int a, .int b, .int c] [] h (some (.int (bi (decide (b ≤ a ∧ a ≤ c)))), h) := by
  refine gd_ild0 dX9_in_0 ?_
  refine gd_ild1 dX9_in_1 ?_
  refine gd_icmp_lt 14 dX9_in_2 (by decide) (fun c2 => ?_) (fun c2 => ?_)
  · refine gd_ic0 dX9_in_14 ?_
    refine gd_iret dX9_in_15 rfl (by first | rfl | decide | exact nar_bi _ | assumption) ?_
    rw [show decide (b ≤ a ∧ a ≤ c) = false from decide_eq_false (fun z => absurd z.1 (Int32.not_le.mpr c2))]; rfl
  · refine gd_ild0 dX9_in_5 ?_
    refine gd_ild2 dX9_in_6 ?_
    refine gd_icmp_gt 14 dX9_in_7 (by decide) (fun c7 => ?_) (fun c7 => ?_)
    · refine gd_ic0 dX9_in_14 ?_
      refine gd_iret dX9_in_15 rfl (by first | rfl | decide | exact nar_bi _ | assumption) ?_
      rw [show decide (b ≤ a ∧ a ≤ c) = false from decide_eq_false (fun z => absurd z.2 (Int32.not_le.mpr c7))]; rfl
    · refine gd_ic1 dX9_in_10 ?_
      refine gd_goto 15 dX9_in_11 (by decide) ?_
      refine gd_iret dX9_in_15 rfl (by first | rfl | decide | exact nar_bi _ | assumption) ?_
      rw [show decide (b ≤ a ∧ a ≤ c) = true from decide_eq_true ⟨Int32.not_lt.mp c2, Int32.not_lt.mp c7⟩]; rfl

theorem rng2 {a : Int32} {n : Nat} (hn : n < 2 ^ 31) (h1 : 1 ≤ n) (ha : ¬ (0 ≤ a ∧ a < nI n)) : ¬ (nI 0 ≤ a ∧ a ≤ nI (n - 1)) := by
  intro z
  refine ha ⟨z.1, ?_⟩
  have z2 := z.2
  rw [Int32.le_iff_toInt_le, nI_toInt (by omega)] at z2
  rw [Int32.lt_iff_toInt_lt, nI_toInt hn]
  omega
theorem m_in_t {t m : Nat} (ht : t ≤ m) (hm : m < 2 ^ 31) (h : Hp) : Gd mX9_in 0 [.int (nI t), .int (nI 0), .int (nI m)] [] h (some (.int (nI 1)), h) := by
  have := m_in (nI t) (nI 0) (nI m) h
  rwa [decide_eq_true ⟨nI_le (Nat.zero_le _) (by omega), nI_le ht hm⟩] at this
theorem m_in_f {a : Int32} {n : Nat} (h1 : 1 ≤ n) (hn : n < 2 ^ 31) (ha : ¬ (0 ≤ a ∧ a < nI n)) (h : Hp) : Gd mX9_in 0 [.int a, .int (nI 0), .int (nI (n - 1))] [] h (some (.int (nI 0)), h) := by
  have := m_in a (nI 0) (nI (n - 1)) h
  rwa [decide_eq_false (rng2 hn h1 ha)] at this

theorem m_isCell_t {t : Nat} (ht : t < 144) (h : Hp) : Gd mX9_isCell 0 [.int (nI t)] [] h (some (.int (nI 1)), h) := by
  refine gd_ild0 dX9_isCell_0 ?_
  refine gd_ic0 dX9_isCell_1 ?_
  refine gd_sipush (v := nI 143) dX9_isCell_2 (by decide) ?_
  refine gd_cS3i dX9_isCell_5 ct_9_79 ⟨Nat.le_of_ble_eq_true rfl, Nat.le_of_ble_eq_true rfl⟩ (Nat.le_of_ble_eq_true rfl) (Nat.le_of_ble_eq_true rfl) (m_in_t (m := 143) (by omega) (by decide) _) ?_
  refine gd_iret dX9_isCell_8 rfl (by first | rfl | decide | exact nar_bi _ | assumption) ?_
  rfl

theorem m_isCell_f {a : Int32} (ha : ¬ (0 ≤ a ∧ a < nI 144)) (h : Hp) : Gd mX9_isCell 0 [.int a] [] h (some (.int (nI 0)), h) := by
  refine gd_ild0 dX9_isCell_0 ?_
  refine gd_ic0 dX9_isCell_1 ?_
  refine gd_sipush (v := nI 143) dX9_isCell_2 (by decide) ?_
  refine gd_cS3i dX9_isCell_5 ct_9_79 ⟨Nat.le_of_ble_eq_true rfl, Nat.le_of_ble_eq_true rfl⟩ (Nat.le_of_ble_eq_true rfl) (Nat.le_of_ble_eq_true rfl) (m_in_f (n := 144) (by decide) (by decide) ha _) ?_
  refine gd_iret dX9_isCell_8 rfl (by first | rfl | decide | exact nar_bi _ | assumption) ?_
  rfl

theorem m_isSheet_t {t : Nat} (ht : t < 4) (h : Hp) : Gd mX9_isSheet 0 [.int (nI t)] [] h (some (.int (nI 1)), h) := by
  refine gd_ild0 dX9_isSheet_0 ?_
  refine gd_ic0 dX9_isSheet_1 ?_
  refine gd_ic3 dX9_isSheet_2 ?_
  refine gd_cS3i dX9_isSheet_3 ct_9_79 ⟨Nat.le_of_ble_eq_true rfl, Nat.le_of_ble_eq_true rfl⟩ (Nat.le_of_ble_eq_true rfl) (Nat.le_of_ble_eq_true rfl) (m_in_t (m := 3) (by omega) (by decide) _) ?_
  refine gd_iret dX9_isSheet_6 rfl (by first | rfl | decide | exact nar_bi _ | assumption) ?_
  rfl

theorem m_isSheet_f {a : Int32} (ha : ¬ (0 ≤ a ∧ a < nI 4)) (h : Hp) : Gd mX9_isSheet 0 [.int a] [] h (some (.int (nI 0)), h) := by
  refine gd_ild0 dX9_isSheet_0 ?_
  refine gd_ic0 dX9_isSheet_1 ?_
  refine gd_ic3 dX9_isSheet_2 ?_
  refine gd_cS3i dX9_isSheet_3 ct_9_79 ⟨Nat.le_of_ble_eq_true rfl, Nat.le_of_ble_eq_true rfl⟩ (Nat.le_of_ble_eq_true rfl) (Nat.le_of_ble_eq_true rfl) (m_in_f (n := 4) (by decide) (by decide) ha _) ?_
  refine gd_iret dX9_isSheet_6 rfl (by first | rfl | decide | exact nar_bi _ | assumption) ?_
  rfl

theorem m_isDepth_t {t : Nat} (ht : t < 4) (h : Hp) : Gd mX9_isDepth 0 [.int (nI t)] [] h (some (.int (nI 1)), h) := by
  refine gd_ild0 dX9_isDepth_0 ?_
  refine gd_ic0 dX9_isDepth_1 ?_
  refine gd_ic3 dX9_isDepth_2 ?_
  refine gd_cS3i dX9_isDepth_3 ct_9_79 ⟨Nat.le_of_ble_eq_true rfl, Nat.le_of_ble_eq_true rfl⟩ (Nat.le_of_ble_eq_true rfl) (Nat.le_of_ble_eq_true rfl) (m_in_t (m := 3) (by omega) (by decide) _) ?_
  refine gd_iret dX9_isDepth_6 rfl (by first | rfl | decide | exact nar_bi _ | assumption) ?_
  rfl

theorem m_isDepth_f {a : Int32} (ha : ¬ (0 ≤ a ∧ a < nI 4)) (h : Hp) : Gd mX9_isDepth 0 [.int a] [] h (some (.int (nI 0)), h) := by
  refine gd_ild0 dX9_isDepth_0 ?_
  refine gd_ic0 dX9_isDepth_1 ?_
  refine gd_ic3 dX9_isDepth_2 ?_
  refine gd_cS3i dX9_isDepth_3 ct_9_79 ⟨Nat.le_of_ble_eq_true rfl, Nat.le_of_ble_eq_true rfl⟩ (Nat.le_of_ble_eq_true rfl) (Nat.le_of_ble_eq_true rfl) (m_in_f (n := 4) (by decide) (by decide) ha _) ?_
  refine gd_iret dX9_isDepth_6 rfl (by first | rfl | decide | exact nar_bi _ | assumption) ?_
  rfl

theorem m_inz_f {a : Int32} {n : Nat} (ha : ¬ (0 ≤ a ∧ a < nI n)) (hn : n < 2 ^ 31) (h : Hp) : Gd mX9_in 0 [.int a, .int (nI 0), .int (nI n - nI 1)] [] h (some (.int (nI 0)), h) := by
  have := m_in a (nI 0) (nI n - nI 1) h
  rwa [decide_eq_false (fun z => by
    rcases Nat.eq_zero_or_pos n with h0 | h0
    · subst h0
      have z1 := z.1
      have z2 := z.2
      rw [show nI 0 - nI 1 = -1 by decide] at z2
      rw [Int32.le_iff_toInt_le] at z1 z2
      rw [show (nI 0).toInt = 0 by decide] at z1
      rw [show (-1 : Int32).toInt = -1 by decide] at z2
      omega
    · rw [pk_sub h0] at z
      exact rng2 hn h0 ha z)] at this
theorem m_isTown_t {h : Hp} (w : WF (ms h)) {t : Nat} (ht : t < nT (ms h)) : Gd mX9_isTown 0 [.ref 72, .int (nI t)] [] h (some (.int (nI 1)), h) := by
  have e : h.1 74 0 = nI (nT (ms h)) := by rw [← w.t.1, ms_at (by decide)]
  have l := w.t.2
  refine gd_ild1 dX9_isTown_0 ?_
  refine gd_ic0 dX9_isTown_1 ?_
  refine gd_ald0 dX9_isTown_2 (by decide) ?_
  refine gd_getR (r := 74) dX9_isTown_3 fl_9_13 rfl rfl rfl (by decide) ?_
  refine gd_ic0 dX9_isTown_6 ?_
  refine gd_iald (n := 5) dX9_isTown_7 rfl (by decide) (by repeat (first | with_reducible rfl | refine ni_add ?_ ?_ | refine ni_mul ?_ ?_)) (by omega) ?_
  refine gd_ic1 dX9_isTown_8 ?_
  refine gd_isub dX9_isTown_9 ?_
  rw [e, pk_sub (by omega)]
  refine gd_cS3i dX9_isTown_10 ct_9_79 ⟨Nat.le_of_ble_eq_true rfl, Nat.le_of_ble_eq_true rfl⟩ (Nat.le_of_ble_eq_true rfl) (Nat.le_of_ble_eq_true rfl) (m_in_t (m := nT (ms h) - 1) (by omega) (by omega) _) ?_
  refine gd_iret dX9_isTown_13 rfl (by first | rfl | decide | exact nar_bi _ | assumption) ?_
  rfl

theorem c_isTown_t {h : Hp} (w : WF (ms h)) (c : CR h 1 (ms h)) {t : Nat} (ht : t < nT (ms h)) : Gd mX8_isTown 0 [.ref 0, .int (nI t)] [] h (some (.int (nI 1)), h) := by
  have e : h.1 2 3 = nI (nT (ms h)) := by rw [← w.t.1]; exact c.t
  have l := w.t.2
  refine gd_ild1 dX8_isTown_0 ?_
  refine gd_ald0 dX8_isTown_1 (by decide) ?_
  refine gd_getR (r := 1) dX8_isTown_2 fl_8_12 rfl rfl rfl (by decide) ?_
  refine gd_getR (r := 2) dX8_isTown_5 fl_8_57 rfl rfl rfl (by decide) ?_
  refine gd_getI dX8_isTown_8 fl_8_66 rfl rfl ?_
  rw [e]
  refine gd_cS2i dX8_isTown_11 ct_8_48 ⟨Nat.le_of_ble_eq_true rfl, Nat.le_of_ble_eq_true rfl⟩ (Nat.le_of_ble_eq_true rfl) (Nat.le_of_ble_eq_true rfl) (c_isBelow_t ht (by omega) _) ?_
  refine gd_iret dX8_isTown_14 rfl (by first | rfl | decide | exact nar_bi _ | assumption) ?_
  rfl

theorem m_isTown_f {h : Hp} (w : WF (ms h)) {a : Int32} (ha : ¬ (0 ≤ a ∧ a < nI (nT (ms h)))) : Gd mX9_isTown 0 [.ref 72, .int (a)] [] h (some (.int (nI 0)), h) := by
  have e : h.1 74 0 = nI (nT (ms h)) := by rw [← w.t.1, ms_at (by decide)]
  have l := w.t.2
  refine gd_ild1 dX9_isTown_0 ?_
  refine gd_ic0 dX9_isTown_1 ?_
  refine gd_ald0 dX9_isTown_2 (by decide) ?_
  refine gd_getR (r := 74) dX9_isTown_3 fl_9_13 rfl rfl rfl (by decide) ?_
  refine gd_ic0 dX9_isTown_6 ?_
  refine gd_iald (n := 5) dX9_isTown_7 rfl (by decide) (by repeat (first | with_reducible rfl | refine ni_add ?_ ?_ | refine ni_mul ?_ ?_)) (by omega) ?_
  refine gd_ic1 dX9_isTown_8 ?_
  refine gd_isub dX9_isTown_9 ?_
  rw [e]
  refine gd_cS3i dX9_isTown_10 ct_9_79 ⟨Nat.le_of_ble_eq_true rfl, Nat.le_of_ble_eq_true rfl⟩ (Nat.le_of_ble_eq_true rfl) (Nat.le_of_ble_eq_true rfl) (m_inz_f ha (by omega) _) ?_
  refine gd_iret dX9_isTown_13 rfl (by first | rfl | decide | exact nar_bi _ | assumption) ?_
  rfl

theorem c_isTown_f {h : Hp} (w : WF (ms h)) (c : CR h 1 (ms h)) {a : Int32} (ha : ¬ (0 ≤ a ∧ a < nI (nT (ms h)))) : Gd mX8_isTown 0 [.ref 0, .int (a)] [] h (some (.int (nI 0)), h) := by
  have e : h.1 2 3 = nI (nT (ms h)) := by rw [← w.t.1]; exact c.t
  have l := w.t.2
  refine gd_ild1 dX8_isTown_0 ?_
  refine gd_ald0 dX8_isTown_1 (by decide) ?_
  refine gd_getR (r := 1) dX8_isTown_2 fl_8_12 rfl rfl rfl (by decide) ?_
  refine gd_getR (r := 2) dX8_isTown_5 fl_8_57 rfl rfl rfl (by decide) ?_
  refine gd_getI dX8_isTown_8 fl_8_66 rfl rfl ?_
  rw [e]
  refine gd_cS2i dX8_isTown_11 ct_8_48 ⟨Nat.le_of_ble_eq_true rfl, Nat.le_of_ble_eq_true rfl⟩ (Nat.le_of_ble_eq_true rfl) (Nat.le_of_ble_eq_true rfl) (c_isBelow_f ha _) ?_
  refine gd_iret dX8_isTown_14 rfl (by first | rfl | decide | exact nar_bi _ | assumption) ?_
  rfl

theorem m_isLetter_t {h : Hp} (w : WF (ms h)) {t : Nat} (ht : t < nN (ms h)) : Gd mX9_isLetter 0 [.ref 72, .int (nI t)] [] h (some (.int (nI 1)), h) := by
  have e : h.1 74 1 = nI (nN (ms h)) := by rw [← w.n.1, ms_at (by decide)]
  have l := w.n.2
  refine gd_ild1 dX9_isLetter_0 ?_
  refine gd_ic0 dX9_isLetter_1 ?_
  refine gd_ald0 dX9_isLetter_2 (by decide) ?_
  refine gd_getR (r := 74) dX9_isLetter_3 fl_9_13 rfl rfl rfl (by decide) ?_
  refine gd_ic1 dX9_isLetter_6 ?_
  refine gd_iald (n := 5) dX9_isLetter_7 rfl (by decide) (by repeat (first | with_reducible rfl | refine ni_add ?_ ?_ | refine ni_mul ?_ ?_)) (by omega) ?_
  refine gd_ic1 dX9_isLetter_8 ?_
  refine gd_isub dX9_isLetter_9 ?_
  rw [e, pk_sub (by omega)]
  refine gd_cS3i dX9_isLetter_10 ct_9_79 ⟨Nat.le_of_ble_eq_true rfl, Nat.le_of_ble_eq_true rfl⟩ (Nat.le_of_ble_eq_true rfl) (Nat.le_of_ble_eq_true rfl) (m_in_t (m := nN (ms h) - 1) (by omega) (by omega) _) ?_
  refine gd_iret dX9_isLetter_13 rfl (by first | rfl | decide | exact nar_bi _ | assumption) ?_
  rfl

theorem c_isLetter_t {h : Hp} (w : WF (ms h)) (c : CR h 1 (ms h)) {t : Nat} (ht : t < nN (ms h)) : Gd mX8_isLetter 0 [.ref 0, .int (nI t)] [] h (some (.int (nI 1)), h) := by
  have e : h.1 6 9 = nI (nN (ms h)) := by rw [← w.n.1]; exact c.n
  have l := w.n.2
  refine gd_ild1 dX8_isLetter_0 ?_
  refine gd_ald0 dX8_isLetter_1 (by decide) ?_
  refine gd_getR (r := 1) dX8_isLetter_2 fl_8_12 rfl rfl rfl (by decide) ?_
  refine gd_getR (r := 6) dX8_isLetter_5 fl_8_100 rfl rfl rfl (by decide) ?_
  refine gd_getI dX8_isLetter_8 fl_8_135 rfl rfl ?_
  rw [e]
  refine gd_cS2i dX8_isLetter_11 ct_8_48 ⟨Nat.le_of_ble_eq_true rfl, Nat.le_of_ble_eq_true rfl⟩ (Nat.le_of_ble_eq_true rfl) (Nat.le_of_ble_eq_true rfl) (c_isBelow_t ht (by omega) _) ?_
  refine gd_iret dX8_isLetter_14 rfl (by first | rfl | decide | exact nar_bi _ | assumption) ?_
  rfl

theorem m_isLetter_f {h : Hp} (w : WF (ms h)) {a : Int32} (ha : ¬ (0 ≤ a ∧ a < nI (nN (ms h)))) : Gd mX9_isLetter 0 [.ref 72, .int (a)] [] h (some (.int (nI 0)), h) := by
  have e : h.1 74 1 = nI (nN (ms h)) := by rw [← w.n.1, ms_at (by decide)]
  have l := w.n.2
  refine gd_ild1 dX9_isLetter_0 ?_
  refine gd_ic0 dX9_isLetter_1 ?_
  refine gd_ald0 dX9_isLetter_2 (by decide) ?_
  refine gd_getR (r := 74) dX9_isLetter_3 fl_9_13 rfl rfl rfl (by decide) ?_
  refine gd_ic1 dX9_isLetter_6 ?_
  refine gd_iald (n := 5) dX9_isLetter_7 rfl (by decide) (by repeat (first | with_reducible rfl | refine ni_add ?_ ?_ | refine ni_mul ?_ ?_)) (by omega) ?_
  refine gd_ic1 dX9_isLetter_8 ?_
  refine gd_isub dX9_isLetter_9 ?_
  rw [e]
  refine gd_cS3i dX9_isLetter_10 ct_9_79 ⟨Nat.le_of_ble_eq_true rfl, Nat.le_of_ble_eq_true rfl⟩ (Nat.le_of_ble_eq_true rfl) (Nat.le_of_ble_eq_true rfl) (m_inz_f ha (by omega) _) ?_
  refine gd_iret dX9_isLetter_13 rfl (by first | rfl | decide | exact nar_bi _ | assumption) ?_
  rfl

theorem c_isLetter_f {h : Hp} (w : WF (ms h)) (c : CR h 1 (ms h)) {a : Int32} (ha : ¬ (0 ≤ a ∧ a < nI (nN (ms h)))) : Gd mX8_isLetter 0 [.ref 0, .int (a)] [] h (some (.int (nI 0)), h) := by
  have e : h.1 6 9 = nI (nN (ms h)) := by rw [← w.n.1]; exact c.n
  have l := w.n.2
  refine gd_ild1 dX8_isLetter_0 ?_
  refine gd_ald0 dX8_isLetter_1 (by decide) ?_
  refine gd_getR (r := 1) dX8_isLetter_2 fl_8_12 rfl rfl rfl (by decide) ?_
  refine gd_getR (r := 6) dX8_isLetter_5 fl_8_100 rfl rfl rfl (by decide) ?_
  refine gd_getI dX8_isLetter_8 fl_8_135 rfl rfl ?_
  rw [e]
  refine gd_cS2i dX8_isLetter_11 ct_8_48 ⟨Nat.le_of_ble_eq_true rfl, Nat.le_of_ble_eq_true rfl⟩ (Nat.le_of_ble_eq_true rfl) (Nat.le_of_ble_eq_true rfl) (c_isBelow_f ha _) ?_
  refine gd_iret dX8_isLetter_14 rfl (by first | rfl | decide | exact nar_bi _ | assumption) ?_
  rfl

theorem m_finds {j : Nat} (hj : j < 7) (h : Hp) : Gd mX9_finds 0 [.ref 72, .int (nI (j + 1))] [] h (some (.int ((-1000000000 : Int32) - nI (j + 1))), hm h j) := by
  refine gd_ald0 dX9_finds_0 (by decide) ?_
  refine gd_getR (r := 73) dX9_finds_1 fl_9_7 rfl rfl rfl (by decide) ?_
  refine gd_ild1 dX9_finds_4 ?_
  refine gd_dup2 (by decide) dX9_finds_5 ?_
  refine gd_iald (n := 8) dX9_finds_6 rfl (by decide) (by repeat (first | with_reducible rfl | refine ni_add ?_ ?_ | refine ni_mul ?_ ?_)) (by omega) ?_
  refine gd_ic1 dX9_finds_7 ?_
  refine gd_iadd dX9_finds_8 ?_
  refine gd_iast (n := 8) dX9_finds_9 rfl (by decide) (by repeat (first | with_reducible rfl | refine ni_add ?_ ?_ | refine ni_mul ?_ ?_)) (by omega) ?_
  refine gd_ldc dX9_finds_10 ld_9_78 ?_
  refine gd_ild1 dX9_finds_12 ?_
  refine gd_isub dX9_finds_13 ?_
  refine gd_iret dX9_finds_14 rfl rfl ?_
  rfl

theorem m_f0 (h : Hp) : Gd mX9_finds 0 [.ref 72, .int (nI 1)] [] h (some (.int ((-1000000000 : Int32) - nI 1)), hm h 0) := m_finds (j := 0) (by decide) h
theorem m_f1 (h : Hp) : Gd mX9_finds 0 [.ref 72, .int (nI 2)] [] h (some (.int ((-1000000000 : Int32) - nI 2)), hm h 1) := m_finds (j := 1) (by decide) h
theorem m_f2 (h : Hp) : Gd mX9_finds 0 [.ref 72, .int (nI 3)] [] h (some (.int ((-1000000000 : Int32) - nI 3)), hm h 2) := m_finds (j := 2) (by decide) h
theorem m_f3 (h : Hp) : Gd mX9_finds 0 [.ref 72, .int (nI 4)] [] h (some (.int ((-1000000000 : Int32) - nI 4)), hm h 3) := m_finds (j := 3) (by decide) h
theorem m_f4 (h : Hp) : Gd mX9_finds 0 [.ref 72, .int (nI 5)] [] h (some (.int ((-1000000000 : Int32) - nI 5)), hm h 4) := m_finds (j := 4) (by decide) h
theorem m_f5 (h : Hp) : Gd mX9_finds 0 [.ref 72, .int (nI 6)] [] h (some (.int ((-1000000000 : Int32) - nI 6)), hm h 5) := m_finds (j := 5) (by decide) h
theorem m_f6 (h : Hp) : Gd mX9_finds 0 [.ref 72, .int (nI 7)] [] h (some (.int ((-1000000000 : Int32) - nI 7)), hm h 6) := m_finds (j := 6) (by decide) h
