
/-! ===== the survey: pure words ===== -/
def sumN (f : Nat → Nat) : Nat → Nat
  | 0 => 0
  | n + 1 => sumN f n + f n
theorem sumN_congr {f g : Nat → Nat} {n : Nat} (h : ∀ k, k < n → f k = g k) : sumN f n = sumN g n := by
  induction n with
  | zero => rfl
  | succ n ih => show sumN f n + f n = sumN g n + g n; rw [ih (fun k hk => h k (by omega)), h n (by omega)]
theorem sumN_le {f : Nat → Nat} {n m : Nat} (h : ∀ k, k < n → f k ≤ m) : sumN f n ≤ n * m := by
  induction n with
  | zero => exact Nat.zero_le _
  | succ n ih =>
    have := ih (fun k hk => h k (by omega))
    have := h n (by omega)
    show sumN f n + f n ≤ _
    rw [Nat.succ_mul]; omega
def clN (s : Nat → Nat → Int32) (t : Nat) : Nat := tn (s 2 t)
def moN (s : Nat → Nat → Int32) (t : Nat) : Nat := tn (lawV s (5 + tn (s 1 (clN s t))))
def fvN (s : Nat → Nat → Int32) : Nat := tn (lawV s 4)
def sqN (a b : Nat) : Nat := (a - b) * (a - b) + (b - a) * (b - a)
def dqN (s : Nat → Nat → Int32) (t c d : Nat) : Nat := (sqN (c % 12) (clN s t % 12) + sqN (c / 12) (clN s t / 12) + 9 * d) / fvN s
def stN (s : Nat → Nat → Int32) (t c z d : Nat) : Nat := min 11 (z + moN s t - dqN s t c d)
def spF (s : Nat → Nat → Int32) (g : Int32) (t : Nat) : Nat → Nat
  | 0 => 4095
  | l + 1 => if (cB s g (nN s) l && decide (s 4 (9 * l + 1) = nI t)) = true then spF s g t l &&& letN s l else spF s g t l
def spN (s : Nat → Nat → Int32) (g : Int32) (t : Nat) : Nat := spF s g t (nN s)
def nrF (sp st : Nat) : Nat → Nat
  | 0 => 12
  | k + 1 => if sp.testBit k = true ∧ (k - st) + (st - k) < nrF sp st k then (k - st) + (st - k) else nrF sp st k
def nrN (sp st : Nat) : Nat := nrF sp st 12
def miN (s : Nat → Nat → Int32) (g : Int32) (t c z d : Nat) : Nat := nrN (spN s g t) (stN s t c z d)
def msN (s : Nat → Nat → Int32) (g : Int32) (c z d : Nat) : Nat := sumN (fun t => miN s g t c z d) (nT s)
theorem fv_ok {s : Nat → Nat → Int32} (w : WF s) : lawV s 4 = nI (fvN s) ∧ 1 ≤ fvN s ∧ fvN s ≤ 20 := by
  obtain ⟨v, e, _, h4, _⟩ := law_ok w (k := 4) (by decide)
  have := h4 rfl
  have q : fvN s = v := by unfold fvN; rw [e]; exact tn_nI (by omega)
  rw [q]; exact ⟨e, this⟩
theorem cl_ok {s : Nat → Nat → Int32} (w : WF s) {t : Nat} (ht : t < nT s) : s 2 t = nI (clN s t) ∧ clN s t < 144 := by
  obtain ⟨c, hc, e⟩ := w.c t ht
  have q : clN s t = c := by unfold clN; rw [e]; exact tn_nI (by omega)
  rw [q]; exact ⟨e, hc⟩
theorem mo_ok {s : Nat → Nat → Int32} (w : WF s) {t : Nat} (ht : t < nT s) : ∃ g, g < 3 ∧ s 1 (clN s t) = nI g ∧ lawV s (5 + g) = nI (moN s t) ∧ moN s t ≤ 9 := by
  obtain ⟨g, hg, e⟩ := w.g (clN s t) (cl_ok w ht).2
  obtain ⟨v, e2, _, _, h5⟩ := law_ok w (k := 5 + g) (by omega)
  have := h5 (by omega)
  have q : moN s t = v := by unfold moN; rw [e, tn_nI (by omega), e2]; exact tn_nI (by omega)
  exact ⟨g, hg, e, by rw [q]; exact e2, by omega⟩
theorem sq_I (a b : Nat) : (nI a - nI b) * (nI a - nI b) = nI (sqN a b) := by
  unfold sqN
  by_cases h : b ≤ a
  · rw [pk_sub h, pk_mul, show b - a = 0 by omega]; rfl
  · rw [← Int32.neg_sub, Int32.neg_mul, Int32.mul_neg, Int32.neg_neg, pk_sub (by omega), pk_mul, show a - b = 0 by omega]
    congr 1; omega
theorem sqN_le {a b m : Nat} (ha : a ≤ m) (hb : b ≤ m) : sqN a b ≤ m * m := by
  unfold sqN
  by_cases h : b ≤ a
  · rw [show b - a = 0 by omega]
    have : (a - b) * (a - b) ≤ m * m := Nat.mul_le_mul (by omega) (by omega)
    omega
  · rw [show a - b = 0 by omega]
    have : (b - a) * (b - a) ≤ m * m := Nat.mul_le_mul (by omega) (by omega)
    omega
theorem dq_le {s : Nat → Nat → Int32} {t c d : Nat} (hc : c < 144) (hl : clN s t < 144) (hd : d < 4) : sqN (c % 12) (clN s t % 12) + sqN (c / 12) (clN s t / 12) + 9 * d ≤ 269 ∧ dqN s t c d ≤ 269 := by
  have h1 := sqN_le (a := c % 12) (b := clN s t % 12) (m := 11) (by omega) (by omega)
  have h2 := sqN_le (a := c / 12) (b := clN s t / 12) (m := 11) (by omega) (by omega)
  refine ⟨by omega, ?_⟩
  unfold dqN
  exact Nat.le_trans (Nat.div_le_self _ _) (by omega)
theorem d_lt {A q m : Nat} (hA : A < 2 ^ 30) (hq : q < 2 ^ 30) (hm : m < 2 ^ 30) : nI A - nI q < nI m ↔ A < q + m := by
  rw [Int32.lt_iff_toInt_lt, pk_sub_toInt hA hq, nI_toInt (by omega)]; omega
theorem d_gt {A q m : Nat} (hA : A < 2 ^ 30) (hq : q < 2 ^ 30) (hm : m < 2 ^ 30) : nI m < nI A - nI q ↔ q + m < A := by
  rw [Int32.lt_iff_toInt_lt, pk_sub_toInt hA hq, nI_toInt (by omega)]; omega
theorem z_sub (z m q : Nat) : nI z + (nI m - nI q) = nI (z + m) - nI q := by
  rw [← nI_add, Int32.sub_eq_add_neg, Int32.sub_eq_add_neg, Int32.add_assoc]
theorem spF_lt {s : Nat → Nat → Int32} {g : Int32} {t : Nat} : ∀ n, spF s g t n < 4096 := by
  intro n
  induction n with
  | zero => exact (by decide : 4095 < 4096)
  | succ n ih =>
    rw [spF]
    split
    · exact Nat.lt_of_le_of_lt Nat.and_le_left ih
    · exact ih
theorem spN_lt (s : Nat → Nat → Int32) (g : Int32) (t : Nat) : spN s g t < 4096 := spF_lt _
theorem stN_le (s : Nat → Nat → Int32) (t c z d : Nat) : stN s t c z d ≤ 11 := Nat.min_le_left _ _
theorem nrF_ok {sp st : Nat} : ∀ n, nrF sp st n ≤ 12 ∧ (∀ k, k < n → sp.testBit k = true → nrF sp st n ≤ (k - st) + (st - k)) ∧ (nrF sp st n = 12 ∨ ∃ k, k < n ∧ sp.testBit k = true ∧ nrF sp st n = (k - st) + (st - k)) := by
  intro n
  induction n with
  | zero => exact ⟨Nat.le_refl _, fun k hk => absurd hk (by omega), Or.inl rfl⟩
  | succ n ih =>
    obtain ⟨a, b, c⟩ := ih
    rw [nrF]
    by_cases q : sp.testBit n = true ∧ (n - st) + (st - n) < nrF sp st n
    · rw [if_pos q]
      refine ⟨by omega, fun k hk hb => ?_, Or.inr ⟨n, by omega, q.1, rfl⟩⟩
      by_cases e : k = n
      · rw [e]; exact Nat.le_refl _
      · have := b k (by omega) hb; omega
    · rw [if_neg q]
      refine ⟨a, fun k hk hb => ?_, ?_⟩
      · by_cases e : k = n
        · rw [e] at hb ⊢
          have := Nat.not_lt.mp (fun z => q ⟨hb, z⟩)
          exact this
        · exact b k (by omega) hb
      · rcases c with c | ⟨k, k1, k2, k3⟩
        · exact Or.inl c
        · exact Or.inr ⟨k, by omega, k2, k3⟩
theorem nrN_le (sp st : Nat) : nrN sp st ≤ 12 := (nrF_ok 12).1
theorem hi_bit {sp k : Nat} (h : sp < 4096) (hk : 12 ≤ k) : sp.testBit k = false :=
  Nat.testBit_lt_two_pow (Nat.lt_of_lt_of_le (show sp < 2 ^ 12 from h) (Nat.pow_le_pow_right (by decide) hk))
theorem nr_no {sp st j : Nat} (h : sp < 4096) (hs : st < 12) (hj : j < nrN sp st) : sp.testBit (st + j) = false ∧ (j ≤ st → sp.testBit (st - j) = false) := by
  have q := (nrF_ok (sp := sp) (st := st) 12).2.1
  constructor
  · by_cases k : st + j < 12
    · cases e : sp.testBit (st + j) with
      | false => rfl
      | true => exact absurd (q _ k e) (by unfold nrN at hj; omega)
    · exact hi_bit h (by omega)
  · intro k
    cases e : sp.testBit (st - j) with
    | false => rfl
    | true => exact absurd (q _ (by omega) e) (by unfold nrN at hj; omega)
theorem nr_ye {sp st : Nat} (hs : st < 12) (hj : nrN sp st < 12) : sp.testBit (st + nrN sp st) = true ∨ (nrN sp st ≤ st ∧ sp.testBit (st - nrN sp st) = true) := by
  rcases (nrF_ok (sp := sp) (st := st) 12).2.2 with c | ⟨k, k1, k2, k3⟩
  · exact absurd c (by unfold nrN at hj; omega)
  · have k3 : nrN sp st = (k - st) + (st - k) := k3
    by_cases q : st ≤ k
    · left; rw [show st + nrN sp st = k by omega]; exact k2
    · right; exact ⟨by omega, by rw [show st - nrN sp st = k by omega]; exact k2⟩
def filI (f : Nat → Int32) (n : Nat) (v : Int32) : Nat → Int32 := fun j => if j < n then v else f j
theorem filI_0 (f : Nat → Int32) (v : Int32) : filI f 0 v = f := by funext j; unfold filI; rw [if_neg (by omega)]
theorem filI_s (f : Nat → Int32) (n : Nat) (v : Int32) : upd (filI f n v) n v = filI f (n + 1) v := by
  funext j; rw [upd_at]; unfold filI
  by_cases e : j = n
  · rw [if_pos e, if_pos (by omega)]
  · rw [if_neg e]
    by_cases q : j < n
    · rw [if_pos q, if_pos (by omega)]
    · rw [if_neg q, if_neg (by omega)]
theorem c_fill61 (v : Int32) (h : Hp) : Gd mJ7_fill_53178 0 [.ref 61, .int v, .null, .null] [] h (none, sI h 61 (filI (h.1 61) 16 v)) := by
  have key := loopG (P := fun j => Gd mJ7_fill_53178 5 [.ref 61, .int v, .int (nI j), .int (nI 16)] [] (sI h 61 (filI (h.1 61) j v)) (none, sI h 61 (filI (h.1 61) 16 v))) (n := 16) ?_ ?_ 0 (by omega)
  · rw [filI_0, sI_id] at key
    refine gd_ic0 dJ7_fill_53178_0 ?_
    refine gd_ist2 dJ7_fill_53178_1 rfl ?_
    refine gd_ald0 dJ7_fill_53178_2 (by decide) ?_
    refine gd_alenI (n := 16) (v := nI 16) dJ7_fill_53178_3 rfl rfl ?_
    refine gd_ist3 dJ7_fill_53178_4 rfl ?_
    exact key
  · refine gd_ild2 dJ7_fill_53178_5 ?_
    refine gd_ild3 dJ7_fill_53178_6 ?_
    refine gd_icmp_ge_t 20 dJ7_fill_53178_7 (by decide) (by exact nI_le (by omega) (by omega)) ?_
    refine gd_vret dJ7_fill_53178_20 rfl ?_
    rfl
  · intro j hj ih
    refine gd_ild2 dJ7_fill_53178_5 ?_
    refine gd_ild3 dJ7_fill_53178_6 ?_
    refine gd_icmp_ge_f 20 dJ7_fill_53178_7 (by decide) (by exact nI_ge (by omega) (by omega)) ?_
    refine gd_ald0 dJ7_fill_53178_10 (by decide) ?_
    refine gd_ild2 dJ7_fill_53178_11 ?_
    refine gd_ild1 dJ7_fill_53178_12 ?_
    refine gd_iast (n := 16) dJ7_fill_53178_13 rfl (by decide) (by repeat' (first | with_reducible rfl | apply ni_add | apply ni_mul)) (by omega) ?_
    refine gd_iinc2 (b := nI 1) dJ7_fill_53178_14 (by decide) rfl ?_
    rw [nI_add]
    refine gd_goto 5 dJ7_fill_53178_17 (by decide) ?_
    rw [sI_s, filI_s, sI_sI]
    exact ih
theorem c_fill68 (v : Int32) (h : Hp) : Gd mJ7_fill_53178 0 [.ref 68, .int v, .null, .null] [] h (none, sI h 68 (filI (h.1 68) 40 v)) := by
  have key := loopG (P := fun j => Gd mJ7_fill_53178 5 [.ref 68, .int v, .int (nI j), .int (nI 40)] [] (sI h 68 (filI (h.1 68) j v)) (none, sI h 68 (filI (h.1 68) 40 v))) (n := 40) ?_ ?_ 0 (by omega)
  · rw [filI_0, sI_id] at key
    refine gd_ic0 dJ7_fill_53178_0 ?_
    refine gd_ist2 dJ7_fill_53178_1 rfl ?_
    refine gd_ald0 dJ7_fill_53178_2 (by decide) ?_
    refine gd_alenI (n := 40) (v := nI 40) dJ7_fill_53178_3 rfl rfl ?_
    refine gd_ist3 dJ7_fill_53178_4 rfl ?_
    exact key
  · refine gd_ild2 dJ7_fill_53178_5 ?_
    refine gd_ild3 dJ7_fill_53178_6 ?_
    refine gd_icmp_ge_t 20 dJ7_fill_53178_7 (by decide) (by exact nI_le (by omega) (by omega)) ?_
    refine gd_vret dJ7_fill_53178_20 rfl ?_
    rfl
  · intro j hj ih
    refine gd_ild2 dJ7_fill_53178_5 ?_
    refine gd_ild3 dJ7_fill_53178_6 ?_
    refine gd_icmp_ge_f 20 dJ7_fill_53178_7 (by decide) (by exact nI_ge (by omega) (by omega)) ?_
    refine gd_ald0 dJ7_fill_53178_10 (by decide) ?_
    refine gd_ild2 dJ7_fill_53178_11 ?_
    refine gd_ild1 dJ7_fill_53178_12 ?_
    refine gd_iast (n := 40) dJ7_fill_53178_13 rfl (by decide) (by repeat' (first | with_reducible rfl | apply ni_add | apply ni_mul)) (by omega) ?_
    refine gd_iinc2 (b := nI 1) dJ7_fill_53178_14 (by decide) rfl ?_
    rw [nI_add]
    refine gd_goto 5 dJ7_fill_53178_17 (by decide) ?_
    rw [sI_s, filI_s, sI_sI]
    exact ih
theorem c_fill70 (v : Int32) (h : Hp) : Gd mJ7_fill_53178 0 [.ref 70, .int v, .null, .null] [] h (none, sI h 70 (filI (h.1 70) 192 v)) := by
  have key := loopG (P := fun j => Gd mJ7_fill_53178 5 [.ref 70, .int v, .int (nI j), .int (nI 192)] [] (sI h 70 (filI (h.1 70) j v)) (none, sI h 70 (filI (h.1 70) 192 v))) (n := 192) ?_ ?_ 0 (by omega)
  · rw [filI_0, sI_id] at key
    refine gd_ic0 dJ7_fill_53178_0 ?_
    refine gd_ist2 dJ7_fill_53178_1 rfl ?_
    refine gd_ald0 dJ7_fill_53178_2 (by decide) ?_
    refine gd_alenI (n := 192) (v := nI 192) dJ7_fill_53178_3 rfl rfl ?_
    refine gd_ist3 dJ7_fill_53178_4 rfl ?_
    exact key
  · refine gd_ild2 dJ7_fill_53178_5 ?_
    refine gd_ild3 dJ7_fill_53178_6 ?_
    refine gd_icmp_ge_t 20 dJ7_fill_53178_7 (by decide) (by exact nI_le (by omega) (by omega)) ?_
    refine gd_vret dJ7_fill_53178_20 rfl ?_
    rfl
  · intro j hj ih
    refine gd_ild2 dJ7_fill_53178_5 ?_
    refine gd_ild3 dJ7_fill_53178_6 ?_
    refine gd_icmp_ge_f 20 dJ7_fill_53178_7 (by decide) (by exact nI_ge (by omega) (by omega)) ?_
    refine gd_ald0 dJ7_fill_53178_10 (by decide) ?_
    refine gd_ild2 dJ7_fill_53178_11 ?_
    refine gd_ild1 dJ7_fill_53178_12 ?_
    refine gd_iast (n := 192) dJ7_fill_53178_13 rfl (by decide) (by repeat' (first | with_reducible rfl | apply ni_add | apply ni_mul)) (by omega) ?_
    refine gd_iinc2 (b := nI 1) dJ7_fill_53178_14 (by decide) rfl ?_
    rw [nI_add]
    refine gd_goto 5 dJ7_fill_53178_17 (by decide) ?_
    rw [sI_s, filI_s, sI_sI]
    exact ih
theorem c_distance {sp st : Nat} (hp : sp < 4096) (hs : st < 12) (h : Hp) : Gd mX4_distance 0 [.int (nI sp), .int (nI st), .null, .null, .null] [] h (some (.int (nI (nrN sp st))), h) := by
  have nl := nrN_le sp st
  have key := loopG (P := fun j => ∀ l3 l4, Gd mX4_distance 2 [.int (nI sp), .int (nI st), .int (nI j), l3, l4] [] h (some (.int (nI (nrN sp st))), h)) (n := nrN sp st) ?_ ?_ 0 (by omega)
  · refine gd_ic0 dX4_distance_0 ?_
    refine gd_ist2 dX4_distance_1 rfl ?_
    exact key _ _
  · intro l3 l4
    by_cases q : nrN sp st < 12
    · cases b1 : sp.testBit (st + nrN sp st) with
      | false =>
        rcases nr_ye hs q with z | ⟨z, b2⟩
        · rw [b1] at z; cases z
        · refine gd_ild2 dX4_distance_2 ?_
          refine gd_bipush (v := nI 12) dX4_distance_3 (by decide) ?_
          refine gd_icmp_ge_f 65 dX4_distance_5 (by decide) (by exact nI_ge (by omega) (by omega)) ?_
          refine gd_ild0 dX4_distance_8 ?_
          refine gd_ild1 dX4_distance_9 ?_
          refine gd_ild2 dX4_distance_10 ?_
          refine gd_iadd dX4_distance_11 ?_
          rw [nI_add]
          refine gd_ishr dX4_distance_12 ?_
          refine gd_ic1 dX4_distance_13 ?_
          refine gd_iand dX4_distance_14 ?_
          rw [bit_nI (by omega) (by omega)]
          refine gd_ic1 dX4_distance_15 ?_
          refine gd_icmp_ne_t 23 dX4_distance_16 (by decide) (by rw [b1]; decide) ?_
          refine gd_ic0 dX4_distance_23 ?_
          refine gd_ist3 dX4_distance_24 rfl ?_
          refine gd_ild2 dX4_distance_25 ?_
          refine gd_ild1 dX4_distance_26 ?_
          refine gd_icmp_gt_f 45 dX4_distance_27 (by decide) (by exact nI_nlt (by omega) (by omega)) ?_
          refine gd_ild0 dX4_distance_30 ?_
          refine gd_ild1 dX4_distance_31 ?_
          refine gd_ild2 dX4_distance_32 ?_
          refine gd_isub dX4_distance_33 ?_
          rw [pk_sub (by omega)]
          refine gd_ishr dX4_distance_34 ?_
          refine gd_ic1 dX4_distance_35 ?_
          refine gd_iand dX4_distance_36 ?_
          rw [bit_nI (by omega) (by omega)]
          refine gd_ic1 dX4_distance_37 ?_
          refine gd_icmp_ne_f 45 dX4_distance_38 (by decide) (by rw [b2]; decide) ?_
          refine gd_ic1 dX4_distance_41 ?_
          refine gd_goto 46 dX4_distance_42 (by decide) ?_
          refine gd_ist4 dX4_distance_46 rfl ?_
          refine gd_ild3 dX4_distance_48 ?_
          refine gd_if_ne_f 57 dX4_distance_49 (by decide) (by decide) ?_
          refine gd_ild4 dX4_distance_52 ?_
          refine gd_if_eq_f 59 dX4_distance_54 (by decide) (by decide) ?_
          refine gd_ild2 dX4_distance_57 ?_
          refine gd_iret dX4_distance_58 rfl rfl ?_
          rfl
      | true =>
        by_cases z : nrN sp st ≤ st
        · cases b2 : sp.testBit (st - nrN sp st) with
          | false =>
            refine gd_ild2 dX4_distance_2 ?_
            refine gd_bipush (v := nI 12) dX4_distance_3 (by decide) ?_
            refine gd_icmp_ge_f 65 dX4_distance_5 (by decide) (by exact nI_ge (by omega) (by omega)) ?_
            refine gd_ild0 dX4_distance_8 ?_
            refine gd_ild1 dX4_distance_9 ?_
            refine gd_ild2 dX4_distance_10 ?_
            refine gd_iadd dX4_distance_11 ?_
            rw [nI_add]
            refine gd_ishr dX4_distance_12 ?_
            refine gd_ic1 dX4_distance_13 ?_
            refine gd_iand dX4_distance_14 ?_
            rw [bit_nI (by omega) (by omega)]
            refine gd_ic1 dX4_distance_15 ?_
            refine gd_icmp_ne_f 23 dX4_distance_16 (by decide) (by rw [b1]; decide) ?_
            refine gd_ic1 dX4_distance_19 ?_
            refine gd_goto 24 dX4_distance_20 (by decide) ?_
            refine gd_ist3 dX4_distance_24 rfl ?_
            refine gd_ild2 dX4_distance_25 ?_
            refine gd_ild1 dX4_distance_26 ?_
            refine gd_icmp_gt_f 45 dX4_distance_27 (by decide) (by exact nI_nlt (by omega) (by omega)) ?_
            refine gd_ild0 dX4_distance_30 ?_
            refine gd_ild1 dX4_distance_31 ?_
            refine gd_ild2 dX4_distance_32 ?_
            refine gd_isub dX4_distance_33 ?_
            rw [pk_sub (by omega)]
            refine gd_ishr dX4_distance_34 ?_
            refine gd_ic1 dX4_distance_35 ?_
            refine gd_iand dX4_distance_36 ?_
            rw [bit_nI (by omega) (by omega)]
            refine gd_ic1 dX4_distance_37 ?_
            refine gd_icmp_ne_t 45 dX4_distance_38 (by decide) (by rw [b2]; decide) ?_
            refine gd_ic0 dX4_distance_45 ?_
            refine gd_ist4 dX4_distance_46 rfl ?_
            refine gd_ild3 dX4_distance_48 ?_
            refine gd_if_ne_t 57 dX4_distance_49 (by decide) (by decide) ?_
            refine gd_ild2 dX4_distance_57 ?_
            refine gd_iret dX4_distance_58 rfl rfl ?_
            rfl
          | true =>
            refine gd_ild2 dX4_distance_2 ?_
            refine gd_bipush (v := nI 12) dX4_distance_3 (by decide) ?_
            refine gd_icmp_ge_f 65 dX4_distance_5 (by decide) (by exact nI_ge (by omega) (by omega)) ?_
            refine gd_ild0 dX4_distance_8 ?_
            refine gd_ild1 dX4_distance_9 ?_
            refine gd_ild2 dX4_distance_10 ?_
            refine gd_iadd dX4_distance_11 ?_
            rw [nI_add]
            refine gd_ishr dX4_distance_12 ?_
            refine gd_ic1 dX4_distance_13 ?_
            refine gd_iand dX4_distance_14 ?_
            rw [bit_nI (by omega) (by omega)]
            refine gd_ic1 dX4_distance_15 ?_
            refine gd_icmp_ne_f 23 dX4_distance_16 (by decide) (by rw [b1]; decide) ?_
            refine gd_ic1 dX4_distance_19 ?_
            refine gd_goto 24 dX4_distance_20 (by decide) ?_
            refine gd_ist3 dX4_distance_24 rfl ?_
            refine gd_ild2 dX4_distance_25 ?_
            refine gd_ild1 dX4_distance_26 ?_
            refine gd_icmp_gt_f 45 dX4_distance_27 (by decide) (by exact nI_nlt (by omega) (by omega)) ?_
            refine gd_ild0 dX4_distance_30 ?_
            refine gd_ild1 dX4_distance_31 ?_
            refine gd_ild2 dX4_distance_32 ?_
            refine gd_isub dX4_distance_33 ?_
            rw [pk_sub (by omega)]
            refine gd_ishr dX4_distance_34 ?_
            refine gd_ic1 dX4_distance_35 ?_
            refine gd_iand dX4_distance_36 ?_
            rw [bit_nI (by omega) (by omega)]
            refine gd_ic1 dX4_distance_37 ?_
            refine gd_icmp_ne_f 45 dX4_distance_38 (by decide) (by rw [b2]; decide) ?_
            refine gd_ic1 dX4_distance_41 ?_
            refine gd_goto 46 dX4_distance_42 (by decide) ?_
            refine gd_ist4 dX4_distance_46 rfl ?_
            refine gd_ild3 dX4_distance_48 ?_
            refine gd_if_ne_t 57 dX4_distance_49 (by decide) (by decide) ?_
            refine gd_ild2 dX4_distance_57 ?_
            refine gd_iret dX4_distance_58 rfl rfl ?_
            rfl
        · refine gd_ild2 dX4_distance_2 ?_
          refine gd_bipush (v := nI 12) dX4_distance_3 (by decide) ?_
          refine gd_icmp_ge_f 65 dX4_distance_5 (by decide) (by exact nI_ge (by omega) (by omega)) ?_
          refine gd_ild0 dX4_distance_8 ?_
          refine gd_ild1 dX4_distance_9 ?_
          refine gd_ild2 dX4_distance_10 ?_
          refine gd_iadd dX4_distance_11 ?_
          rw [nI_add]
          refine gd_ishr dX4_distance_12 ?_
          refine gd_ic1 dX4_distance_13 ?_
          refine gd_iand dX4_distance_14 ?_
          rw [bit_nI (by omega) (by omega)]
          refine gd_ic1 dX4_distance_15 ?_
          refine gd_icmp_ne_f 23 dX4_distance_16 (by decide) (by rw [b1]; decide) ?_
          refine gd_ic1 dX4_distance_19 ?_
          refine gd_goto 24 dX4_distance_20 (by decide) ?_
          refine gd_ist3 dX4_distance_24 rfl ?_
          refine gd_ild2 dX4_distance_25 ?_
          refine gd_ild1 dX4_distance_26 ?_
          refine gd_icmp_gt_t 45 dX4_distance_27 (by decide) (by exact nI_lt (by omega) (by omega)) ?_
          refine gd_ic0 dX4_distance_45 ?_
          refine gd_ist4 dX4_distance_46 rfl ?_
          refine gd_ild3 dX4_distance_48 ?_
          refine gd_if_ne_t 57 dX4_distance_49 (by decide) (by decide) ?_
          refine gd_ild2 dX4_distance_57 ?_
          refine gd_iret dX4_distance_58 rfl rfl ?_
          rfl
    · rw [show nrN sp st = 12 by omega]
      refine gd_ild2 dX4_distance_2 ?_
      refine gd_bipush (v := nI 12) dX4_distance_3 (by decide) ?_
      refine gd_icmp_ge_t 65 dX4_distance_5 (by decide) (by exact nI_le (by omega) (by omega)) ?_
      refine gd_bipush (v := nI 12) dX4_distance_65 (by decide) ?_
      refine gd_iret dX4_distance_67 rfl rfl ?_
      rfl
  · intro j hj ih l3 l4
    obtain ⟨b1, b2⟩ := nr_no hp hs hj
    by_cases z : j ≤ st
    · have b3 := b2 z
      refine gd_ild2 dX4_distance_2 ?_
      refine gd_bipush (v := nI 12) dX4_distance_3 (by decide) ?_
      refine gd_icmp_ge_f 65 dX4_distance_5 (by decide) (by exact nI_ge (by omega) (by omega)) ?_
      refine gd_ild0 dX4_distance_8 ?_
      refine gd_ild1 dX4_distance_9 ?_
      refine gd_ild2 dX4_distance_10 ?_
      refine gd_iadd dX4_distance_11 ?_
      rw [nI_add]
      refine gd_ishr dX4_distance_12 ?_
      refine gd_ic1 dX4_distance_13 ?_
      refine gd_iand dX4_distance_14 ?_
      rw [bit_nI (by omega) (by omega)]
      refine gd_ic1 dX4_distance_15 ?_
      refine gd_icmp_ne_t 23 dX4_distance_16 (by decide) (by rw [b1]; decide) ?_
      refine gd_ic0 dX4_distance_23 ?_
      refine gd_ist3 dX4_distance_24 rfl ?_
      refine gd_ild2 dX4_distance_25 ?_
      refine gd_ild1 dX4_distance_26 ?_
      refine gd_icmp_gt_f 45 dX4_distance_27 (by decide) (by exact nI_nlt (by omega) (by omega)) ?_
      refine gd_ild0 dX4_distance_30 ?_
      refine gd_ild1 dX4_distance_31 ?_
      refine gd_ild2 dX4_distance_32 ?_
      refine gd_isub dX4_distance_33 ?_
      rw [pk_sub (by omega)]
      refine gd_ishr dX4_distance_34 ?_
      refine gd_ic1 dX4_distance_35 ?_
      refine gd_iand dX4_distance_36 ?_
      rw [bit_nI (by omega) (by omega)]
      refine gd_ic1 dX4_distance_37 ?_
      refine gd_icmp_ne_t 45 dX4_distance_38 (by decide) (by rw [b3]; decide) ?_
      refine gd_ic0 dX4_distance_45 ?_
      refine gd_ist4 dX4_distance_46 rfl ?_
      refine gd_ild3 dX4_distance_48 ?_
      refine gd_if_ne_f 57 dX4_distance_49 (by decide) (by decide) ?_
      refine gd_ild4 dX4_distance_52 ?_
      refine gd_if_eq_t 59 dX4_distance_54 (by decide) (by decide) ?_
      refine gd_iinc2 (b := nI 1) dX4_distance_59 (by decide) rfl ?_
      rw [nI_add]
      refine gd_goto 2 dX4_distance_62 (by decide) ?_
      exact ih _ _
    · refine gd_ild2 dX4_distance_2 ?_
      refine gd_bipush (v := nI 12) dX4_distance_3 (by decide) ?_
      refine gd_icmp_ge_f 65 dX4_distance_5 (by decide) (by exact nI_ge (by omega) (by omega)) ?_
      refine gd_ild0 dX4_distance_8 ?_
      refine gd_ild1 dX4_distance_9 ?_
      refine gd_ild2 dX4_distance_10 ?_
      refine gd_iadd dX4_distance_11 ?_
      rw [nI_add]
      refine gd_ishr dX4_distance_12 ?_
      refine gd_ic1 dX4_distance_13 ?_
      refine gd_iand dX4_distance_14 ?_
      rw [bit_nI (by omega) (by omega)]
      refine gd_ic1 dX4_distance_15 ?_
      refine gd_icmp_ne_t 23 dX4_distance_16 (by decide) (by rw [b1]; decide) ?_
      refine gd_ic0 dX4_distance_23 ?_
      refine gd_ist3 dX4_distance_24 rfl ?_
      refine gd_ild2 dX4_distance_25 ?_
      refine gd_ild1 dX4_distance_26 ?_
      refine gd_icmp_gt_t 45 dX4_distance_27 (by decide) (by exact nI_lt (by omega) (by omega)) ?_
      refine gd_ic0 dX4_distance_45 ?_
      refine gd_ist4 dX4_distance_46 rfl ?_
      refine gd_ild3 dX4_distance_48 ?_
      refine gd_if_ne_f 57 dX4_distance_49 (by decide) (by decide) ?_
      refine gd_ild4 dX4_distance_52 ?_
      refine gd_if_eq_t 59 dX4_distance_54 (by decide) (by decide) ?_
      refine gd_iinc2 (b := nI 1) dX4_distance_59 (by decide) rfl ?_
      rw [nI_add]
      refine gd_goto 2 dX4_distance_62 (by decide) ?_
      exact ih _ _
theorem bnd {A q : Nat} (hA : A < 2 ^ 30) (hq : q < 2 ^ 30) : (if nI 0 < (if nI A - nI q < nI 11 then nI A - nI q else nI 11) then (if nI A - nI q < nI 11 then nI A - nI q else nI 11) else nI 0) = nI (min 11 (A - q)) := by
  by_cases h1 : A < q + 11
  · rw [if_pos ((d_lt hA hq (by decide)).mpr h1)]
    by_cases h2 : q < A
    · rw [if_pos ((d_gt hA hq (by decide)).mpr (by omega)), pk_sub (by omega), Nat.min_eq_right (by omega)]
    · rw [if_neg (fun z => h2 (by have := (d_gt hA hq (by decide)).mp z; omega)), show A - q = 0 by omega]; rfl
  · rw [if_neg (fun z => h1 ((d_lt hA hq (by decide)).mp z)), if_pos (by decide), Nat.min_eq_left (by omega)]
theorem c_bounded {A q : Nat} (hA : A < 2 ^ 30) (hq : q < 2 ^ 30) (h : Hp) : Gd mX4_bounded 0 [.int (nI A - nI q)] [] h (some (.int (nI (min 11 (A - q)))), h) := by
  refine gd_ic0 dX4_bounded_0 ?_
  refine gd_bipush (v := nI 11) dX4_bounded_1 (by decide) ?_
  refine gd_ild0 dX4_bounded_3 ?_
  refine gd_mmin dX4_bounded_4 mm_4_106 (Nat.le_of_ble_eq_true rfl) (Nat.le_of_ble_eq_true rfl) (Nat.le_of_ble_eq_true rfl) ?_
  refine gd_mmax dX4_bounded_7 mm_4_63 (Nat.le_of_ble_eq_true rfl) (Nat.le_of_ble_eq_true rfl) (Nat.le_of_ble_eq_true rfl) ?_
  refine gd_iret dX4_bounded_10 rfl rfl ?_
  rw [bnd hA hq]
