
/-! ===== the days that a letter can mean ===== -/
def shU (f : Nat → Int32) (i n : Nat) : Nat → Int32 := fun j => if i < j ∧ j ≤ n then f (j - 1) else f j
theorem shU_0 (f : Nat → Int32) (n : Nat) : shU f n n = f := by funext j; unfold shU; rw [if_neg (by omega)]
theorem shU_s (f : Nat → Int32) {i n : Nat} (h : i + 1 ≤ n) : upd (shU f (i + 1) n) (i + 1) (f i) = shU f i n := by
  funext j; rw [upd_at]; unfold shU
  by_cases e : j = i + 1
  · rw [if_pos e, if_pos (by omega), e, Nat.add_sub_cancel]
  · rw [if_neg e]
    by_cases e2 : i < j ∧ j ≤ n
    · rw [if_pos (by omega), if_pos e2]
    · rw [if_neg (by omega), if_neg e2]
theorem shU_lo (f : Nat → Int32) {i n : Nat} : shU f (i + 1) n i = f i := by unfold shU; rw [if_neg (by omega)]
def insF (f : Nat → Int32) (p n : Nat) (v : Int32) : Nat → Int32 := upd (shU f p n) p v
theorem insF_at (f : Nat → Int32) (p n : Nat) (v : Int32) (j : Nat) : insF f p n v j = if j = p then v else if p < j ∧ j ≤ n then f (j - 1) else f j := rfl
def psN (f : Nat → Int32) (n : Nat) (v : Int32) : Nat := cntN (fun j => decide (f j < v)) n
def srt (f : Nat → Int32) (n : Nat) : Prop := ∀ a b, a < b → b < n → f a < f b
theorem i_tr {a b c : Int32} (h1 : a < b) (h2 : b < c) : a < c := by rw [Int32.lt_iff_toInt_lt] at *; omega
theorem i_ge {a b : Int32} (h1 : ¬ a < b) (h2 : ¬ a = b) : b < a := by
  rw [Int32.lt_iff_toInt_lt] at *
  have : a.toInt ≠ b.toInt := fun e => h2 (Int32.toInt_inj.mp e)
  omega
theorem i_ne {a b : Int32} (h : a < b) : ¬ a = b := fun e => by rw [e, Int32.lt_iff_toInt_lt] at h; omega
theorem i_as {a b : Int32} (h : a < b) : ¬ b < a := fun e => by rw [Int32.lt_iff_toInt_lt] at *; omega
theorem cnt_all {p : Nat → Bool} {n : Nat} (h : ∀ k, k < n → p k = true) : cntN p n = n := by
  induction n with
  | zero => rfl
  | succ n ih => rw [cnt_ye (h n (by omega)), ih (fun k hk => h k (by omega))]
theorem psN_ok {f : Nat → Int32} {v : Int32} {n : Nat} (s : srt f n) : psN f n v ≤ n ∧ (∀ k, k < psN f n v → f k < v) ∧ ∀ k, psN f n v ≤ k → k < n → ¬ f k < v := by
  unfold psN
  induction n with
  | zero => exact ⟨Nat.le_refl _, fun k hk => absurd hk (by show ¬ k < 0; omega), fun k _ hk => absurd hk (by omega)⟩
  | succ n ih =>
    obtain ⟨a, b, c⟩ := ih (fun x y h1 h2 => s x y h1 (by omega))
    by_cases e : f n < v
    · have hp : (fun j => decide (f j < v)) n = true := decide_eq_true e
      have hall : ∀ k, k < n → f k < v := fun k hk => i_tr (s k n hk (by omega)) e
      rw [cnt_ye hp, cnt_all (fun k hk => decide_eq_true (hall k hk))]
      refine ⟨Nat.le_refl _, fun k hk => ?_, fun k h1 h2 => absurd h2 (by omega)⟩
      by_cases q : k = n
      · rw [q]; exact e
      · exact hall k (by omega)
    · have hp : (fun j => decide (f j < v)) n = false := decide_eq_false e
      rw [cnt_no hp]
      refine ⟨by omega, b, fun k h1 h2 => ?_⟩
      by_cases q : k = n
      · rw [q]; exact e
      · exact c k h1 (by omega)
/-- put a day -/
def mem (f : Nat → Int32) (n : Nat) (v : Int32) : Bool := decide (psN f n v < n ∧ f (psN f n v) = v)
def pD (x : (Nat → Int32) × Nat) (v : Int32) : (Nat → Int32) × Nat := if mem x.1 x.2 v then x else (insF x.1 (psN x.1 x.2 v) x.2 v, x.2 + 1)
theorem mem_iff {f : Nat → Int32} {n : Nat} {v : Int32} (s : srt f n) : mem f n v = true ↔ ∃ j, j < n ∧ f j = v := by
  obtain ⟨a, b, c⟩ := psN_ok (v := v) s
  unfold mem
  rw [decide_eq_true_iff]
  constructor
  · exact fun q => ⟨_, q.1, q.2⟩
  · rintro ⟨j, hj, e⟩
    have h1 : ¬ j < psN f n v := fun z => i_ne (b j z) e
    by_cases h2 : j = psN f n v
    · rw [← h2]; exact ⟨hj, e⟩
    · have := s (psN f n v) j (by omega) hj
      rw [e] at this
      exact absurd this (c _ (Nat.le_refl _) (by omega))
theorem srt_ins {f : Nat → Int32} {n : Nat} {v : Int32} (s : srt f n) (m : mem f n v = false) : srt (insF f (psN f n v) n v) (n + 1) := by
  obtain ⟨a, b, c⟩ := psN_ok (v := v) s
  have m : ¬ (psN f n v < n ∧ f (psN f n v) = v) := of_decide_eq_false m
  have up : ∀ k, psN f n v ≤ k → k < n → v < f k := fun k h1 h2 => i_ge (c k h1 h2) (fun e => by
    by_cases q : k = psN f n v
    · exact m ⟨by omega, by rw [← q]; exact e⟩
    · have := s (psN f n v) k (by omega) h2
      rw [e] at this
      exact c _ (Nat.le_refl _) (by omega) this)
  intro x y h1 h2
  rw [insF_at, insF_at]
  generalize psN f n v = p at a b c m up
  by_cases e1 : x = p
  · rw [if_pos e1, if_neg (by omega), if_pos (by omega)]
    exact up _ (by omega) (by omega)
  · rw [if_neg e1]
    by_cases e2 : y = p
    · rw [if_pos e2, if_neg (by omega)]; exact b x (by omega)
    · rw [if_neg e2]
      by_cases e3 : p < x
      · rw [if_pos (by omega), if_pos (by omega)]; exact s _ _ (by omega) (by omega)
      · rw [if_neg (by omega)]
        by_cases e4 : p < y
        · rw [if_pos (by omega)]
          by_cases e5 : x = y - 1
          · omega
          · exact s _ _ (by omega) (by omega)
        · rw [if_neg (by omega)]; exact s _ _ h1 (by omega)
theorem srt_pD {x : (Nat → Int32) × Nat} {v : Int32} (s : srt x.1 x.2) : srt (pD x v).1 (pD x v).2 := by
  unfold pD
  cases m : mem x.1 x.2 v
  · rw [if_neg (by decide)]; exact srt_ins s m
  · rw [if_pos rfl]; exact s
theorem mem_pD {x : (Nat → Int32) × Nat} {v w : Int32} (s : srt x.1 x.2) : (∃ j, j < (pD x v).2 ∧ (pD x v).1 j = w) ↔ (w = v ∨ ∃ j, j < x.2 ∧ x.1 j = w) := by
  unfold pD
  cases m : mem x.1 x.2 v
  · rw [if_neg (by decide)]
    have a := (psN_ok (v := v) s).1
    show (∃ j, j < x.2 + 1 ∧ insF x.1 (psN x.1 x.2 v) x.2 v j = w) ↔ _
    generalize psN x.1 x.2 v = p at a
    constructor
    · rintro ⟨j, hj, e⟩
      rw [insF_at] at e
      by_cases e1 : j = p
      · rw [if_pos e1] at e; exact Or.inl e.symm
      · rw [if_neg e1] at e
        by_cases e2 : p < j
        · rw [if_pos (by omega)] at e; exact Or.inr ⟨j - 1, by omega, e⟩
        · rw [if_neg (by omega)] at e; exact Or.inr ⟨j, by omega, e⟩
    · rintro (e | ⟨j, hj, e⟩)
      · exact ⟨p, by omega, by rw [insF_at, if_pos rfl, e]⟩
      · by_cases e1 : j < p
        · exact ⟨j, by omega, by rw [insF_at, if_neg (by omega), if_neg (by omega)]; exact e⟩
        · exact ⟨j + 1, by omega, by rw [insF_at, if_neg (by omega), if_pos (by omega)]; exact e⟩
  · rw [if_pos rfl]
    constructor
    · exact fun q => Or.inr q
    · rintro (e | q)
      · rw [e]; exact (mem_iff s).mp m
      · exact q
def agr (x y : (Nat → Int32) × Nat) : Prop := x.2 = y.2 ∧ ∀ j, j < x.2 → x.1 j = y.1 j
theorem agr_pD {x y : (Nat → Int32) × Nat} {v : Int32} (h : agr x y) (s : srt x.1 x.2) : agr (pD x v) (pD y v) := by
  obtain ⟨h1, h2⟩ := h
  have ep : psN x.1 x.2 v = psN y.1 y.2 v := by
    unfold psN; rw [← h1]; exact cntN_congr (fun k hk => by rw [h2 k hk])
  have em : mem x.1 x.2 v = mem y.1 y.2 v := by
    unfold mem; rw [← ep, ← h1]
    by_cases q : psN x.1 x.2 v < x.2
    · rw [h2 _ q]
    · rw [decide_eq_false (fun z => q z.1), decide_eq_false (fun z => q z.1)]
  have a := (psN_ok (v := v) s).1
  unfold pD
  rw [← em]
  cases m : mem x.1 x.2 v
  · rw [if_neg (by decide), if_neg (by decide)]
    refine ⟨by show x.2 + 1 = y.2 + 1; rw [h1], fun j hj => ?_⟩
    show insF _ _ _ _ j = insF _ _ _ _ j
    have hj : j < x.2 + 1 := hj
    rw [insF_at, insF_at, ← ep, ← h1]
    by_cases e1 : j = psN x.1 x.2 v
    · rw [if_pos e1, if_pos e1]
    · rw [if_neg e1, if_neg e1]
      by_cases e2 : psN x.1 x.2 v < j
      · rw [if_pos (by omega), if_pos (by omega)]; exact h2 _ (by omega)
      · rw [if_neg (by omega), if_neg (by omega)]; exact h2 _ (by omega)
  · rw [if_pos rfl, if_pos rfl]; exact ⟨h1, h2⟩
def cnB (s : Nat → Nat → Int32) (l r : Nat) : Bool := decide (s 4 (9 * l + 4) = nI 4) || decide (s 4 (9 * l + 4) = nI r)
def fD (s : Nat → Nat → Int32) (l : Nat) (f : Nat → Int32) : Nat → (Nat → Int32) × Nat
  | 0 => (f, 0)
  | r + 1 => if cnB s l r then pD (fD s l f r) (s 4 (9 * l + 3) + lawV s r) else fD s l f r
theorem fD_srt (s : Nat → Nat → Int32) (l : Nat) (f : Nat → Int32) (r : Nat) : srt (fD s l f r).1 (fD s l f r).2 := by
  induction r with
  | zero => intro a b _ hb; exact absurd hb (by show ¬ b < 0; omega)
  | succ r ih =>
    unfold fD
    cases cnB s l r
    · rw [if_neg (by decide)]; exact ih
    · rw [if_pos rfl]; exact srt_pD ih
theorem fD_le (s : Nat → Nat → Int32) (l : Nat) (f : Nat → Int32) (r : Nat) : (fD s l f r).2 ≤ r := by
  induction r with
  | zero => exact Nat.le_refl _
  | succ r ih =>
    unfold fD
    cases cnB s l r
    · rw [if_neg (by decide)]; omega
    · rw [if_pos rfl]; unfold pD; split
      · omega
      · show _ + 1 ≤ _; omega
theorem fD_agr (s : Nat → Nat → Int32) (l : Nat) (f g : Nat → Int32) (r : Nat) : agr (fD s l f r) (fD s l g r) := by
  induction r with
  | zero => exact ⟨rfl, fun j hj => absurd hj (by show ¬ j < 0; omega)⟩
  | succ r ih =>
    unfold fD
    cases cnB s l r
    · rw [if_neg (by decide), if_neg (by decide)]; exact ih
    · rw [if_pos rfl, if_pos rfl]; exact agr_pD ih (fD_srt s l f r)
theorem fD_mem (s : Nat → Nat → Int32) (l : Nat) (f : Nat → Int32) (r : Nat) (w : Int32) : (∃ j, j < (fD s l f r).2 ∧ (fD s l f r).1 j = w) ↔ ∃ q, q < r ∧ cnB s l q = true ∧ w = s 4 (9 * l + 3) + lawV s q := by
  induction r with
  | zero => exact ⟨fun ⟨j, hj, _⟩ => absurd hj (by show ¬ j < 0; omega), fun ⟨q, hq, _⟩ => absurd hq (by omega)⟩
  | succ r ih =>
    unfold fD
    cases hc : cnB s l r
    · rw [if_neg (by decide), ih]
      constructor
      · rintro ⟨q, a, b⟩; exact ⟨q, by omega, b⟩
      · rintro ⟨q, a, b, c⟩
        by_cases e : q = r
        · rw [e, hc] at b; exact absurd b (by decide)
        · exact ⟨q, by omega, b, c⟩
    · rw [if_pos rfl, mem_pD (fD_srt s l f r), ih]
      constructor
      · rintro (e | ⟨q, a, b⟩)
        · exact ⟨r, by omega, hc, e⟩
        · exact ⟨q, by omega, b⟩
      · rintro ⟨q, a, b, c⟩
        by_cases e : q = r
        · rw [e] at c; exact Or.inl c
        · exact Or.inr ⟨q, by omega, b, c⟩

theorem m_hh (h : Hp) (a b c d : Nat → Int32) : sI (sI (sI (sI h 83 a) 72 b) 83 c) 72 d = sI (sI h 83 c) 72 d := by
  rw [sI_cm (h := sI h 83 a) (k := 72) (j := 83) (by decide), sI_sI, sI_sI]
theorem gd_eqH {M : MD} {pc : Nat} {ls st : List Value} {h h' : Hp} {x : Option Value × Hp} (e : h = h') (g : Gd M pc ls st h' x) : Gd M pc ls st h x := by rw [e]; exact g
theorem c_put1 {h : Hp} {n : Nat} {v : Int32} {l4 : Value} {x : Option Value × Hp} (hn : n ≤ 4) (s : srt (h.1 25) n) (g : Gd mX7_putDay 23 [.ref 1, .int (nI n), .int v, .int (nI (psN (h.1 25) n v)), l4] [] h x) : Gd mX7_putDay 2 [.ref 1, .int (nI n), .int v, .int (nI 0), l4] [] h x := by
  obtain ⟨a, b, c⟩ := psN_ok (v := v) s
  generalize psN (h.1 25) n v = p at a b c g
  refine loopG (P := fun j => Gd mX7_putDay 2 [.ref 1, .int (nI n), .int v, .int (nI j), l4] [] h x) (n := p) ?_ ?_ 0 (by omega)
  · by_cases e : p < n
    · refine gd_ild3 dX7_putDay_2 ?_
      refine gd_ild1 dX7_putDay_3 ?_
      refine gd_icmp_ge_f 23 dX7_putDay_4 (by decide) (by exact nI_ge (by omega) (by omega)) ?_
      refine gd_ald0 dX7_putDay_7 (by decide) ?_
      refine gd_getR (r := 25) dX7_putDay_8 fl_7_39 rfl rfl rfl (by decide) ?_
      refine gd_ild3 dX7_putDay_11 ?_
      refine gd_iald (n := 4) dX7_putDay_12 rfl (by decide) (by repeat' (first | with_reducible rfl | apply ni_add | apply ni_mul)) (by omega) ?_
      refine gd_ild2 dX7_putDay_13 ?_
      refine gd_icmp_ge_t 23 dX7_putDay_14 (by decide) (Int32.not_lt.mp (c p (Nat.le_refl _) e)) ?_
      exact g
    · refine gd_ild3 dX7_putDay_2 ?_
      refine gd_ild1 dX7_putDay_3 ?_
      refine gd_icmp_ge_t 23 dX7_putDay_4 (by decide) (by exact nI_le (by omega) (by omega)) ?_
      exact g
  · intro j hj ih
    refine gd_ild3 dX7_putDay_2 ?_
    refine gd_ild1 dX7_putDay_3 ?_
    refine gd_icmp_ge_f 23 dX7_putDay_4 (by decide) (by exact nI_ge (by omega) (by omega)) ?_
    refine gd_ald0 dX7_putDay_7 (by decide) ?_
    refine gd_getR (r := 25) dX7_putDay_8 fl_7_39 rfl rfl rfl (by decide) ?_
    refine gd_ild3 dX7_putDay_11 ?_
    refine gd_iald (n := 4) dX7_putDay_12 rfl (by decide) (by repeat' (first | with_reducible rfl | apply ni_add | apply ni_mul)) (by omega) ?_
    refine gd_ild2 dX7_putDay_13 ?_
    refine gd_icmp_ge_f 23 dX7_putDay_14 (by decide) (fun z => absurd (b j hj) (Int32.not_lt.mpr z)) ?_
    refine gd_iinc3 (b := nI 1) dX7_putDay_17 (by decide) rfl ?_
    rw [nI_add]
    refine gd_goto 2 dX7_putDay_20 (by decide) ?_
    exact ih
theorem c_put2 {h : Hp} {n p : Nat} {v : Int32} (hn : n < 4) (hp : p ≤ n) : Gd mX7_putDay 43 [.ref 1, .int (nI n), .int v, .int (nI p), .int (nI n)] [] h (some (.int (nI (n + 1))), sI h 25 (insF (h.1 25) p n v)) := by
  have key := loopG (P := fun d => Gd mX7_putDay 43 [.ref 1, .int (nI n), .int v, .int (nI p), .int (nI (n - d))] [] (sI h 25 (shU (h.1 25) (n - d) n)) (some (.int (nI (n + 1))), sI h 25 (insF (h.1 25) p n v))) (n := n - p) ?_ ?_ 0 (by omega)
  · rw [show n - 0 = n by omega, shU_0, sI_id] at key
    exact key
  · rw [show n - (n - p) = p by omega]
    refine gd_ild4 dX7_putDay_43 ?_
    refine gd_ild3 dX7_putDay_45 ?_
    refine gd_icmp_le_t 71 dX7_putDay_46 (by decide) (by exact nI_le (by omega) (by omega)) ?_
    refine gd_ald0 dX7_putDay_71 (by decide) ?_
    refine gd_getR (r := 25) dX7_putDay_72 fl_7_39 rfl rfl rfl (by decide) ?_
    refine gd_ild3 dX7_putDay_75 ?_
    refine gd_ild2 dX7_putDay_76 ?_
    refine gd_iast (n := 4) dX7_putDay_77 rfl (by decide) (by repeat' (first | with_reducible rfl | apply ni_add | apply ni_mul)) (by omega) ?_
    refine gd_ild1 dX7_putDay_78 ?_
    refine gd_ic1 dX7_putDay_79 ?_
    refine gd_iadd dX7_putDay_80 ?_
    rw [nI_add]
    refine gd_iret dX7_putDay_81 rfl rfl ?_
    rw [sI_s, sI_sI]; rfl
  · intro d hd ih
    obtain ⟨i, hi⟩ : ∃ i, n - d = i + 1 := ⟨n - d - 1, by omega⟩
    rw [show n - (d + 1) = i by omega] at ih
    rw [hi]
    refine gd_ild4 dX7_putDay_43 ?_
    refine gd_ild3 dX7_putDay_45 ?_
    refine gd_icmp_le_f 71 dX7_putDay_46 (by decide) (by exact nI_ge (by omega) (by omega)) ?_
    refine gd_ald0 dX7_putDay_49 (by decide) ?_
    refine gd_getR (r := 25) dX7_putDay_50 fl_7_39 rfl rfl rfl (by decide) ?_
    refine gd_ild4 dX7_putDay_53 ?_
    refine gd_ald0 dX7_putDay_55 (by decide) ?_
    refine gd_getR (r := 25) dX7_putDay_56 fl_7_39 rfl rfl rfl (by decide) ?_
    refine gd_ild4 dX7_putDay_59 ?_
    refine gd_ic1 dX7_putDay_61 ?_
    refine gd_isub dX7_putDay_62 ?_
    refine gd_iald (n := 4) dX7_putDay_63 rfl (by decide) (by rw [pk_sub (by omega)]) (by omega) ?_
    refine gd_iast (n := 4) dX7_putDay_64 rfl (by decide) (by repeat' (first | with_reducible rfl | apply ni_add | apply ni_mul)) (by omega) ?_
    refine gd_iinc4 (b := -1) dX7_putDay_65 (by decide) rfl ?_
    rw [nI_m1, pk_sub (by omega)]
    refine gd_goto 43 dX7_putDay_68 (by decide) ?_
    rw [sI_s, Nat.add_sub_cancel, shU_lo, shU_s _ (by omega), sI_sI]
    exact ih
theorem c_putDay {h : Hp} {n : Nat} {v : Int32} (hn : n < 4) (s : srt (h.1 25) n) : Gd mX7_putDay 0 [.ref 1, .int (nI n), .int v, .null, .null] [] h (some (.int (nI (pD (h.1 25, n) v).2)), sI h 25 (pD (h.1 25, n) v).1) := by
  obtain ⟨a, b, c⟩ := psN_ok (v := v) s
  refine gd_ic0 dX7_putDay_0 ?_
  refine gd_ist3 dX7_putDay_1 rfl ?_
  refine c_put1 (by omega) s ?_
  unfold pD
  cases m : mem (h.1 25) n v
  · rw [if_neg (by decide)]
    have m : ¬ (psN (h.1 25) n v < n ∧ h.1 25 (psN (h.1 25) n v) = v) := of_decide_eq_false m
    show Gd _ _ _ _ _ (some (.int (nI (n + 1))), sI h 25 (insF (h.1 25) (psN (h.1 25) n v) n v))
    by_cases e : psN (h.1 25) n v < n
    · refine gd_ild3 dX7_putDay_23 ?_
      refine gd_ild1 dX7_putDay_24 ?_
      refine gd_icmp_ge_f 40 dX7_putDay_25 (by decide) (by exact nI_ge (by omega) (by omega)) ?_
      refine gd_ald0 dX7_putDay_28 (by decide) ?_
      refine gd_getR (r := 25) dX7_putDay_29 fl_7_39 rfl rfl rfl (by decide) ?_
      refine gd_ild3 dX7_putDay_32 ?_
      refine gd_iald (n := 4) dX7_putDay_33 rfl (by decide) (by repeat' (first | with_reducible rfl | apply ni_add | apply ni_mul)) (by omega) ?_
      refine gd_ild2 dX7_putDay_34 ?_
      refine gd_icmp_ne_t 40 dX7_putDay_35 (by decide) (fun z => m ⟨e, z⟩) ?_
      refine gd_ild1 dX7_putDay_40 ?_
      refine gd_ist4 dX7_putDay_41 rfl ?_
      exact c_put2 hn a
    · refine gd_ild3 dX7_putDay_23 ?_
      refine gd_ild1 dX7_putDay_24 ?_
      refine gd_icmp_ge_t 40 dX7_putDay_25 (by decide) (by exact nI_le (by omega) (by omega)) ?_
      refine gd_ild1 dX7_putDay_40 ?_
      refine gd_ist4 dX7_putDay_41 rfl ?_
      exact c_put2 hn a
  · rw [if_pos rfl]
    have m : psN (h.1 25) n v < n ∧ h.1 25 (psN (h.1 25) n v) = v := of_decide_eq_true m
    show Gd _ _ _ _ _ (some (.int (nI n)), sI h 25 (h.1 25))
    rw [sI_id]
    refine gd_ild3 dX7_putDay_23 ?_
    refine gd_ild1 dX7_putDay_24 ?_
    refine gd_icmp_ge_f 40 dX7_putDay_25 (by decide) (by exact nI_ge (by omega) (by omega)) ?_
    refine gd_ald0 dX7_putDay_28 (by decide) ?_
    refine gd_getR (r := 25) dX7_putDay_29 fl_7_39 rfl rfl rfl (by decide) ?_
    refine gd_ild3 dX7_putDay_32 ?_
    refine gd_iald (n := 4) dX7_putDay_33 rfl (by decide) (by repeat' (first | with_reducible rfl | apply ni_add | apply ni_mul)) (by omega) ?_
    refine gd_ild2 dX7_putDay_34 ?_
    refine gd_icmp_ne_f 40 dX7_putDay_35 (by decide) (m.2) ?_
    refine gd_ild1 dX7_putDay_38 ?_
    refine gd_iret dX7_putDay_39 rfl rfl ?_
    rfl
theorem c_canBeBy {h : Hp} {s : Nat → Nat → Int32} (w : WF s) (c : CR h 1 s) {l r : Nat} (hl : l < nN s) (hr : r < 4) : Gd mX7_canBeBy 0 [.ref 1, .int (nI l), .int (nI r), .null] [] h (some (.int (bi (cnB s l r))), h) := by
  have lN := w.n.2
  unfold cnB
  by_cases e4 : s 4 (9 * l + 4) = nI 4
  · rw [decide_eq_true e4]
    refine gd_ald0 dX7_canBeBy_0 (by decide) ?_
    refine gd_getR (r := 6) dX7_canBeBy_1 fl_7_21 rfl rfl rfl (by decide) ?_
    refine gd_getR (r := 11) dX7_canBeBy_4 fl_7_108 rfl rfl rfl (by decide) ?_
    refine gd_ild1 dX7_canBeBy_7 ?_
    refine gd_iald (n := 30) dX7_canBeBy_8 rfl (by decide) (by repeat' (first | with_reducible rfl | apply ni_add | apply ni_mul)) (by omega) ?_
    rw [c.lr1 l hl]
    refine gd_ist3 dX7_canBeBy_9 rfl ?_
    refine gd_ild3 dX7_canBeBy_10 ?_
    refine gd_ic4 dX7_canBeBy_11 ?_
    refine gd_icmp_eq_t 20 dX7_canBeBy_12 (by decide) (e4) ?_
    refine gd_ic1 dX7_canBeBy_20 ?_
    refine gd_goto 25 dX7_canBeBy_21 (by decide) ?_
    refine gd_iret dX7_canBeBy_25 rfl (by first | rfl | decide | exact nar_bi _ | assumption) ?_
    rfl
  · rw [decide_eq_false e4]
    by_cases e : s 4 (9 * l + 4) = nI r
    · rw [decide_eq_true e]
      refine gd_ald0 dX7_canBeBy_0 (by decide) ?_
      refine gd_getR (r := 6) dX7_canBeBy_1 fl_7_21 rfl rfl rfl (by decide) ?_
      refine gd_getR (r := 11) dX7_canBeBy_4 fl_7_108 rfl rfl rfl (by decide) ?_
      refine gd_ild1 dX7_canBeBy_7 ?_
      refine gd_iald (n := 30) dX7_canBeBy_8 rfl (by decide) (by repeat' (first | with_reducible rfl | apply ni_add | apply ni_mul)) (by omega) ?_
      rw [c.lr1 l hl]
      refine gd_ist3 dX7_canBeBy_9 rfl ?_
      refine gd_ild3 dX7_canBeBy_10 ?_
      refine gd_ic4 dX7_canBeBy_11 ?_
      refine gd_icmp_eq_f 20 dX7_canBeBy_12 (by decide) (e4) ?_
      refine gd_ild3 dX7_canBeBy_15 ?_
      refine gd_ild2 dX7_canBeBy_16 ?_
      refine gd_icmp_ne_f 24 dX7_canBeBy_17 (by decide) (e) ?_
      refine gd_ic1 dX7_canBeBy_20 ?_
      refine gd_goto 25 dX7_canBeBy_21 (by decide) ?_
      refine gd_iret dX7_canBeBy_25 rfl (by first | rfl | decide | exact nar_bi _ | assumption) ?_
      rfl
    · rw [decide_eq_false e]
      refine gd_ald0 dX7_canBeBy_0 (by decide) ?_
      refine gd_getR (r := 6) dX7_canBeBy_1 fl_7_21 rfl rfl rfl (by decide) ?_
      refine gd_getR (r := 11) dX7_canBeBy_4 fl_7_108 rfl rfl rfl (by decide) ?_
      refine gd_ild1 dX7_canBeBy_7 ?_
      refine gd_iald (n := 30) dX7_canBeBy_8 rfl (by decide) (by repeat' (first | with_reducible rfl | apply ni_add | apply ni_mul)) (by omega) ?_
      rw [c.lr1 l hl]
      refine gd_ist3 dX7_canBeBy_9 rfl ?_
      refine gd_ild3 dX7_canBeBy_10 ?_
      refine gd_ic4 dX7_canBeBy_11 ?_
      refine gd_icmp_eq_f 20 dX7_canBeBy_12 (by decide) (e4) ?_
      refine gd_ild3 dX7_canBeBy_15 ?_
      refine gd_ild2 dX7_canBeBy_16 ?_
      refine gd_icmp_ne_t 24 dX7_canBeBy_17 (by decide) (e) ?_
      refine gd_ic0 dX7_canBeBy_24 ?_
      refine gd_iret dX7_canBeBy_25 rfl (by first | rfl | decide | exact nar_bi _ | assumption) ?_
      rfl
theorem c_fillDays {h : Hp} {s : Nat → Nat → Int32} (w : WF s) (c : CR h 1 s) {l : Nat} (hl : l < nN s) : Gd mX7_fillDays 0 [.ref 1, .int (nI l), .null, .null] [] h (some (.int (nI (fD s l (h.1 25) 4).2)), sI h 25 (fD s l (h.1 25) 4).1) := by
  have lN := w.n.2
  have key := loopG (P := fun r => Gd mX7_fillDays 4 [.ref 1, .int (nI l), .int (nI (fD s l (h.1 25) r).2), .int (nI r)] [] (sI h 25 (fD s l (h.1 25) r).1) (some (.int (nI (fD s l (h.1 25) 4).2)), sI h 25 (fD s l (h.1 25) 4).1)) (n := 4) ?_ ?_ 0 (by omega)
  · rw [show (fD s l (h.1 25) 0).1 = h.1 25 from rfl, sI_id] at key
    refine gd_ic0 dX7_fillDays_0 ?_
    refine gd_ist2 dX7_fillDays_1 rfl ?_
    refine gd_ic0 dX7_fillDays_2 ?_
    refine gd_ist3 dX7_fillDays_3 rfl ?_
    exact key
  · refine gd_ild3 dX7_fillDays_4 ?_
    refine gd_ic4 dX7_fillDays_5 ?_
    refine gd_icmp_ge_t 45 dX7_fillDays_6 (by decide) (by exact nI_le (by omega) (by omega)) ?_
    refine gd_ild2 dX7_fillDays_45 ?_
    refine gd_iret dX7_fillDays_46 rfl rfl ?_
    rfl
  · intro r hr ih
    cases hb : cnB s l r
    · rw [show fD s l (h.1 25) (r + 1) = fD s l (h.1 25) r by show (if _ then _ else _) = _; rw [if_neg (by rw [hb]; decide)]] at ih
      refine gd_ild3 dX7_fillDays_4 ?_
      refine gd_ic4 dX7_fillDays_5 ?_
      refine gd_icmp_ge_f 45 dX7_fillDays_6 (by decide) (by exact nI_ge (by omega) (by omega)) ?_
      refine gd_ald0 dX7_fillDays_9 (by decide) ?_
      refine gd_ild1 dX7_fillDays_10 ?_
      refine gd_ild3 dX7_fillDays_11 ?_
      refine gd_cV2i dX7_fillDays_12 ct_7_96 rc_1 ⟨Nat.le_of_ble_eq_true rfl, Nat.le_of_ble_eq_true rfl⟩ (Nat.le_of_ble_eq_true rfl) (Nat.le_of_ble_eq_true rfl) (c_canBeBy w (CR.same (h := h) (h' := sI h 25 (fD s l (h.1 25) r).1) (fun j h1 h2 => sI_n (by omega)) c) hl (by omega)) ?_
      rw [hb]
      refine gd_if_eq_t 39 dX7_fillDays_15 (by decide) (by decide) ?_
      refine gd_iinc3 (b := nI 1) dX7_fillDays_39 (by decide) rfl ?_
      rw [nI_add]
      refine gd_goto 4 dX7_fillDays_42 (by decide) ?_
      exact ih
    · rw [show fD s l (h.1 25) (r + 1) = pD (fD s l (h.1 25) r) (s 4 (9 * l + 3) + lawV s r) by show (if _ then _ else _) = _; rw [if_pos hb]] at ih
      refine gd_ild3 dX7_fillDays_4 ?_
      refine gd_ic4 dX7_fillDays_5 ?_
      refine gd_icmp_ge_f 45 dX7_fillDays_6 (by decide) (by exact nI_ge (by omega) (by omega)) ?_
      refine gd_ald0 dX7_fillDays_9 (by decide) ?_
      refine gd_ild1 dX7_fillDays_10 ?_
      refine gd_ild3 dX7_fillDays_11 ?_
      refine gd_cV2i dX7_fillDays_12 ct_7_96 rc_1 ⟨Nat.le_of_ble_eq_true rfl, Nat.le_of_ble_eq_true rfl⟩ (Nat.le_of_ble_eq_true rfl) (Nat.le_of_ble_eq_true rfl) (c_canBeBy w (CR.same (h := h) (h' := sI h 25 (fD s l (h.1 25) r).1) (fun j h1 h2 => sI_n (by omega)) c) hl (by omega)) ?_
      rw [hb]
      refine gd_if_eq_f 39 dX7_fillDays_15 (by decide) (by decide) ?_
      refine gd_ald0 dX7_fillDays_18 (by decide) ?_
      refine gd_ild2 dX7_fillDays_19 ?_
      refine gd_ald0 dX7_fillDays_20 (by decide) ?_
      refine gd_getR (r := 6) dX7_fillDays_21 fl_7_21 rfl rfl rfl (by decide) ?_
      refine gd_getR (r := 10) dX7_fillDays_24 fl_7_99 rfl rfl rfl (by decide) ?_
      refine gd_ild1 dX7_fillDays_27 ?_
      refine gd_iald (n := 30) dX7_fillDays_28 rfl (by decide) (by repeat' (first | with_reducible rfl | apply ni_add | apply ni_mul)) (by omega) ?_
      rw [show (sI h 25 (fD s l (h.1 25) r).1).1 10 l = s 4 (9 * l + 3) from c.ld1 l hl]
      refine gd_ald0 dX7_fillDays_29 (by decide) ?_
      refine gd_ild3 dX7_fillDays_30 ?_
      refine gd_cV1i dX7_fillDays_31 ct_7_102 rc_1 ⟨Nat.le_of_ble_eq_true rfl, Nat.le_of_ble_eq_true rfl⟩ (Nat.le_of_ble_eq_true rfl) (Nat.le_of_ble_eq_true rfl) (c_lawOf w (CR.same (h := h) (h' := sI h 25 (fD s l (h.1 25) r).1) (fun j h1 h2 => sI_n (by omega)) c) (by omega)) ?_
      refine gd_iadd dX7_fillDays_34 ?_
      refine gd_cV2i dX7_fillDays_35 ct_7_105 rc_1 ⟨Nat.le_of_ble_eq_true rfl, Nat.le_of_ble_eq_true rfl⟩ (Nat.le_of_ble_eq_true rfl) (Nat.le_of_ble_eq_true rfl) (c_putDay (by have := fD_le s l (h.1 25) r; omega) (fD_srt s l (h.1 25) r)) ?_
      refine gd_ist2 dX7_fillDays_38 rfl ?_
      refine gd_iinc3 (b := nI 1) dX7_fillDays_39 (by decide) rfl ?_
      rw [nI_add]
      refine gd_goto 4 dX7_fillDays_42 (by decide) ?_
      rw [sI_s, sI_sI]
      exact ih

theorem mem_all {f : Nat → Int32} {n : Nat} {v : Int32} (s : srt f n) : allN (fun k => !decide (f k = v)) n = !(mem f n v) := by
  have key : ∀ m, m ≤ n → (allN (fun k => !decide (f k = v)) m = true ↔ ∀ k, k < m → ¬ f k = v) := by
    intro m
    induction m with
    | zero => exact fun _ => ⟨fun _ k hk => absurd hk (by omega), fun _ => rfl⟩
    | succ m ih =>
      intro hm
      show (allN _ m && _) = true ↔ _
      rw [Bool.and_eq_true, ih (by omega)]
      constructor
      · rintro ⟨a, b⟩ k hk
        by_cases e : k = m
        · rw [e]; intro z; have b : (!decide (f m = v)) = true := b; rw [decide_eq_true z] at b; exact absurd b (by decide)
        · exact a k (by omega)
      · intro a
        exact ⟨fun k hk => a k (by omega), by show (!decide (f m = v)) = true; rw [decide_eq_false (a m (by omega))]; rfl⟩
  cases m : mem f n v
  · exact (key n (Nat.le_refl _)).mpr (fun k hk e => by rw [(mem_iff s).mpr ⟨k, hk, e⟩] at m; exact absurd m (by decide))
  · obtain ⟨j, hj, e⟩ := (mem_iff s).mp m
    cases a : allN (fun k => !decide (f k = v)) n
    · rfl
    · exact absurd e ((key n (Nat.le_refl _)).mp a j hj)
theorem m_find1 {h : Hp} {l n : Nat} {q r v : Int32} {x : Option Value × Hp} (b : Bool) (hn : n ≤ 4) (e : h.1 72 11 = nI n) (g : Gd mX9_findDays 92 [.ref 72, .int (nI l), .int q, .int r, .int v, .int (bi (b && allN (fun k => !decide (h.1 83 k = v)) n)), .int (nI n)] [] h x) : Gd mX9_findDays 53 [.ref 72, .int (nI l), .int q, .int r, .int v, .int (bi b), .int (nI 0)] [] h x := by
  have key := loopG (P := fun j => Gd mX9_findDays 53 [.ref 72, .int (nI l), .int q, .int r, .int v, .int (bi (b && allN (fun k => !decide (h.1 83 k = v)) j)), .int (nI j)] [] h x) (n := n) ?_ ?_ 0 (by omega)
  · rw [show (b && allN (fun k => !decide (h.1 83 k = v)) 0) = b from Bool.and_true b] at key
    exact key
  · refine gd_ild6 dX9_findDays_53 ?_
    refine gd_ald0 dX9_findDays_55 (by decide) ?_
    refine gd_getI dX9_findDays_56 fl_9_139 rfl rfl ?_
    refine gd_icmp_ge_t 92 dX9_findDays_59 (by decide) (by rw [e]; exact nI_le (by omega) (by omega)) ?_
    exact g
  · intro j hj ih
    rw [show (b && allN (fun k => !decide (h.1 83 k = v)) (j + 1)) = ((b && allN (fun k => !decide (h.1 83 k = v)) j) && !decide (h.1 83 j = v)) from (Bool.and_assoc _ _ _).symm] at ih
    cases hb : (b && allN (fun k => !decide (h.1 83 k = v)) j)
    · rw [hb] at ih
      refine gd_ild6 dX9_findDays_53 ?_
      refine gd_ald0 dX9_findDays_55 (by decide) ?_
      refine gd_getI dX9_findDays_56 fl_9_139 rfl rfl ?_
      refine gd_icmp_ge_f 92 dX9_findDays_59 (by decide) (by rw [e]; exact nI_ge (by omega) (by omega)) ?_
      refine gd_ild5 dX9_findDays_62 ?_
      refine gd_if_eq_t 83 dX9_findDays_64 (by decide) (by decide) ?_
      refine gd_ic0 dX9_findDays_83 ?_
      refine gd_ist5 dX9_findDays_84 rfl ?_
      refine gd_iinc6 (b := nI 1) dX9_findDays_86 (by decide) rfl ?_
      rw [nI_add]
      refine gd_goto 53 dX9_findDays_89 (by decide) ?_
      exact ih
    · rw [hb] at ih
      by_cases z : h.1 83 j = v
      · rw [decide_eq_true z] at ih
        refine gd_ild6 dX9_findDays_53 ?_
        refine gd_ald0 dX9_findDays_55 (by decide) ?_
        refine gd_getI dX9_findDays_56 fl_9_139 rfl rfl ?_
        refine gd_icmp_ge_f 92 dX9_findDays_59 (by decide) (by rw [e]; exact nI_ge (by omega) (by omega)) ?_
        refine gd_ild5 dX9_findDays_62 ?_
        refine gd_if_eq_f 83 dX9_findDays_64 (by decide) (by decide) ?_
        refine gd_ald0 dX9_findDays_67 (by decide) ?_
        refine gd_getR (r := 83) dX9_findDays_68 fl_9_41 rfl rfl rfl (by decide) ?_
        refine gd_ild6 dX9_findDays_71 ?_
        refine gd_iald (n := 4) dX9_findDays_73 rfl (by decide) (by repeat' (first | with_reducible rfl | apply ni_add | apply ni_mul)) (by omega) ?_
        refine gd_ild4 dX9_findDays_74 ?_
        refine gd_icmp_eq_t 83 dX9_findDays_76 (by decide) (z) ?_
        refine gd_ic0 dX9_findDays_83 ?_
        refine gd_ist5 dX9_findDays_84 rfl ?_
        refine gd_iinc6 (b := nI 1) dX9_findDays_86 (by decide) rfl ?_
        rw [nI_add]
        refine gd_goto 53 dX9_findDays_89 (by decide) ?_
        exact ih
      · rw [decide_eq_false z] at ih
        refine gd_ild6 dX9_findDays_53 ?_
        refine gd_ald0 dX9_findDays_55 (by decide) ?_
        refine gd_getI dX9_findDays_56 fl_9_139 rfl rfl ?_
        refine gd_icmp_ge_f 92 dX9_findDays_59 (by decide) (by rw [e]; exact nI_ge (by omega) (by omega)) ?_
        refine gd_ild5 dX9_findDays_62 ?_
        refine gd_if_eq_f 83 dX9_findDays_64 (by decide) (by decide) ?_
        refine gd_ald0 dX9_findDays_67 (by decide) ?_
        refine gd_getR (r := 83) dX9_findDays_68 fl_9_41 rfl rfl rfl (by decide) ?_
        refine gd_ild6 dX9_findDays_71 ?_
        refine gd_iald (n := 4) dX9_findDays_73 rfl (by decide) (by repeat' (first | with_reducible rfl | apply ni_add | apply ni_mul)) (by omega) ?_
        refine gd_ild4 dX9_findDays_74 ?_
        refine gd_icmp_eq_f 83 dX9_findDays_76 (by decide) (z) ?_
        refine gd_ic1 dX9_findDays_79 ?_
        refine gd_goto 84 dX9_findDays_80 (by decide) ?_
        refine gd_ist5 dX9_findDays_84 rfl ?_
        refine gd_iinc6 (b := nI 1) dX9_findDays_86 (by decide) rfl ?_
        rw [nI_add]
        refine gd_goto 53 dX9_findDays_89 (by decide) ?_
        exact ih
theorem m_find2 {h : Hp} {l n p : Nat} {q r v fl : Int32} {x : Option Value × Hp} (hn : n < 4) (e : h.1 72 11 = nI n) (hp : p ≤ n) (h1 : ∀ k, k < p → h.1 83 k < v) (h2 : ∀ k, p ≤ k → k < n → v < h.1 83 k) (g : Gd mX9_findDays 163 [.ref 72, .int (nI l), .int q, .int r, .int v, .int (fl), .int (nI p)] [] (sI (sI h 83 (insF (h.1 83) p n v)) 72 (upd (h.1 72) 11 (nI (n + 1)))) x) : Gd mX9_findDays 103 [.ref 72, .int (nI l), .int q, .int r, .int v, .int (fl), .int (nI n)] [] h x := by
  have key := loopG (P := fun d => Gd mX9_findDays 103 [.ref 72, .int (nI l), .int q, .int r, .int v, .int (fl), .int (nI (n - d))] [] (sI h 83 (shU (h.1 83) (n - d) n)) x) (n := n - p) ?_ ?_ 0 (by omega)
  · rw [show n - 0 = n by omega, shU_0, sI_id] at key
    exact key
  · rw [show n - (n - p) = p by omega]
    by_cases z : p = 0
    · subst z
      refine gd_ild6 dX9_findDays_103 ?_
      refine gd_if_le_t 144 dX9_findDays_105 (by decide) (by decide) ?_
      refine gd_ald0 dX9_findDays_144 (by decide) ?_
      refine gd_getR (r := 83) dX9_findDays_145 fl_9_41 rfl rfl rfl (by decide) ?_
      refine gd_ild6 dX9_findDays_148 ?_
      refine gd_ild4 dX9_findDays_150 ?_
      refine gd_iast (n := 4) dX9_findDays_152 rfl (by decide) (by repeat' (first | with_reducible rfl | apply ni_add | apply ni_mul)) (by omega) ?_
      refine gd_ald0 dX9_findDays_153 (by decide) ?_
      refine gd_dupr (by decide) dX9_findDays_154 ?_
      refine gd_getI dX9_findDays_155 fl_9_139 rfl rfl ?_
      rw [show ∀ f g, (sI (sI h 83 f) 83 g).1 72 11 = nI n from fun _ _ => e]
      refine gd_ic1 dX9_findDays_158 ?_
      refine gd_iadd dX9_findDays_159 ?_
      rw [nI_add]
      refine gd_putI dX9_findDays_160 fl_9_139 rfl rfl (fun _ _ _ e => by cases e; rfl) ?_
      rw [sI_s, sI_sI]
      exact g
    · refine gd_ild6 dX9_findDays_103 ?_
      refine gd_if_le_f 144 dX9_findDays_105 (by decide) (by rw [show (0 : Int32) = nI 0 from rfl]; exact nI_ge (by omega) (by omega)) ?_
      refine gd_ald0 dX9_findDays_108 (by decide) ?_
      refine gd_getR (r := 83) dX9_findDays_109 fl_9_41 rfl rfl rfl (by decide) ?_
      refine gd_ild6 dX9_findDays_112 ?_
      refine gd_ic1 dX9_findDays_114 ?_
      refine gd_isub dX9_findDays_115 ?_
      rw [pk_sub (by omega)]
      refine gd_iald (n := 4) dX9_findDays_116 rfl (by decide) (by repeat' (first | with_reducible rfl | apply ni_add | apply ni_mul)) (by omega) ?_
      refine gd_ild4 dX9_findDays_117 ?_
      refine gd_icmp_le_t 144 dX9_findDays_119 (by decide) (by rw [sI_s]; unfold shU; rw [if_neg (by omega)]; exact Int32.le_of_lt (h1 _ (by omega))) ?_
      refine gd_ald0 dX9_findDays_144 (by decide) ?_
      refine gd_getR (r := 83) dX9_findDays_145 fl_9_41 rfl rfl rfl (by decide) ?_
      refine gd_ild6 dX9_findDays_148 ?_
      refine gd_ild4 dX9_findDays_150 ?_
      refine gd_iast (n := 4) dX9_findDays_152 rfl (by decide) (by repeat' (first | with_reducible rfl | apply ni_add | apply ni_mul)) (by omega) ?_
      refine gd_ald0 dX9_findDays_153 (by decide) ?_
      refine gd_dupr (by decide) dX9_findDays_154 ?_
      refine gd_getI dX9_findDays_155 fl_9_139 rfl rfl ?_
      rw [show ∀ f g, (sI (sI h 83 f) 83 g).1 72 11 = nI n from fun _ _ => e]
      refine gd_ic1 dX9_findDays_158 ?_
      refine gd_iadd dX9_findDays_159 ?_
      rw [nI_add]
      refine gd_putI dX9_findDays_160 fl_9_139 rfl rfl (fun _ _ _ e => by cases e; rfl) ?_
      rw [sI_s, sI_sI]
      exact g
  · intro d hd ih
    obtain ⟨i, hi⟩ : ∃ i, n - d = i + 1 := ⟨n - d - 1, by omega⟩
    rw [show n - (d + 1) = i by omega] at ih
    rw [hi]
    refine gd_ild6 dX9_findDays_103 ?_
    refine gd_if_le_f 144 dX9_findDays_105 (by decide) (by rw [show (0 : Int32) = nI 0 from rfl]; exact nI_ge (by omega) (by omega)) ?_
    refine gd_ald0 dX9_findDays_108 (by decide) ?_
    refine gd_getR (r := 83) dX9_findDays_109 fl_9_41 rfl rfl rfl (by decide) ?_
    refine gd_ild6 dX9_findDays_112 ?_
    refine gd_ic1 dX9_findDays_114 ?_
    refine gd_isub dX9_findDays_115 ?_
    rw [pk_sub (by omega)]
    refine gd_iald (n := 4) dX9_findDays_116 rfl (by decide) (by repeat' (first | with_reducible rfl | apply ni_add | apply ni_mul)) (by omega) ?_
    refine gd_ild4 dX9_findDays_117 ?_
    refine gd_icmp_le_f 144 dX9_findDays_119 (by decide) (fun z => absurd (h2 i (by omega) (by omega)) (Int32.not_lt.mpr (by rw [sI_s, Nat.add_sub_cancel, shU_lo] at z; exact z))) ?_
    refine gd_ald0 dX9_findDays_122 (by decide) ?_
    refine gd_getR (r := 83) dX9_findDays_123 fl_9_41 rfl rfl rfl (by decide) ?_
    refine gd_ild6 dX9_findDays_126 ?_
    refine gd_ald0 dX9_findDays_128 (by decide) ?_
    refine gd_getR (r := 83) dX9_findDays_129 fl_9_41 rfl rfl rfl (by decide) ?_
    refine gd_ild6 dX9_findDays_132 ?_
    refine gd_ic1 dX9_findDays_134 ?_
    refine gd_isub dX9_findDays_135 ?_
    rw [pk_sub (by omega)]
    refine gd_iald (n := 4) dX9_findDays_136 rfl (by decide) (by repeat' (first | with_reducible rfl | apply ni_add | apply ni_mul)) (by omega) ?_
    refine gd_iast (n := 4) dX9_findDays_137 rfl (by decide) (by repeat' (first | with_reducible rfl | apply ni_add | apply ni_mul)) (by omega) ?_
    refine gd_iinc6 (b := -1) dX9_findDays_138 (by decide) rfl ?_
    rw [nI_m1, pk_sub (by omega)]
    refine gd_goto 103 dX9_findDays_141 (by decide) ?_
    rw [sI_s, Nat.add_sub_cancel, shU_lo, shU_s _ (by omega), sI_sI]
    exact ih

theorem nomem {f : Nat → Int32} {n : Nat} {v : Int32} (s : srt f n) (m : mem f n v = false) : ∀ k, psN f n v ≤ k → k < n → v < f k := fun k h1 h2 =>
  i_ge ((psN_ok (v := v) s).2.2 k h1 h2) (fun e => by rw [(mem_iff s).mpr ⟨k, h2, e⟩] at m; exact absurd m (by decide))
theorem m_find3 {h : Hp} {l n : Nat} {q r v : Int32} {l6 : Value} {x : Option Value × Hp} (b : Bool) (hn : n < 4) (s : srt (h.1 83) n) (e : h.1 72 11 = nI n) (g : ∀ fl j, Gd mX9_findDays 163 [.ref 72, .int (nI l), .int q, .int r, .int v, .int (fl), .int (j)] [] (sI (sI h 83 (if b then pD (h.1 83, n) v else (h.1 83, n)).1) 72 (upd (h.1 72) 11 (nI (if b then pD (h.1 83, n) v else (h.1 83, n)).2))) x) : Gd mX9_findDays 50 [.ref 72, .int (nI l), .int q, .int r, .int v, .int (bi b), l6] [] h x := by
  refine gd_ic0 dX9_findDays_50 ?_
  refine gd_ist6 dX9_findDays_51 rfl ?_
  refine m_find1 b (by omega) e ?_
  rw [mem_all s]
  cases b
  · have g := g (bi false) (nI n)
    rw [if_neg (by decide)] at g
    have g : Gd mX9_findDays 163 [.ref 72, .int (nI l), .int q, .int r, .int v, .int (bi false), .int (nI n)] [] (sI (sI h 83 (h.1 83)) 72 (upd (h.1 72) 11 (nI n))) x := g
    rw [show (sI (sI h 83 (h.1 83)) 72 (upd (h.1 72) 11 (nI n))) = h by rw [sI_id, upd_same e, sI_id]] at g
    refine gd_ild5 dX9_findDays_92 ?_
    refine gd_if_eq_t 163 dX9_findDays_94 (by decide) (by rw [Bool.false_and]; decide) ?_
    exact g
  · cases m : mem (h.1 83) n v
    · have g := g (bi true) (nI (psN (h.1 83) n v))
      rw [if_pos rfl] at g
      unfold pD at g
      rw [show (if mem (h.1 83, n).1 (h.1 83, n).2 v then (h.1 83, n) else (insF (h.1 83, n).1 (psN (h.1 83, n).1 (h.1 83, n).2 v) (h.1 83, n).2 v, (h.1 83, n).2 + 1)) = (insF (h.1 83) (psN (h.1 83) n v) n v, n + 1) from if_neg (by show ¬ mem (h.1 83) n v = true; rw [m]; decide)] at g
      refine gd_ild5 dX9_findDays_92 ?_
      refine gd_if_eq_f 163 dX9_findDays_94 (by decide) (by decide) ?_
      refine gd_ald0 dX9_findDays_97 (by decide) ?_
      refine gd_getI dX9_findDays_98 fl_9_139 rfl rfl ?_
      rw [e]
      refine gd_ist6 dX9_findDays_101 rfl ?_
      exact m_find2 hn e (psN_ok s).1 (psN_ok s).2.1 (nomem s m) g
    · have g := g (bi false) (nI n)
      rw [if_pos rfl] at g
      unfold pD at g
      rw [show (if mem (h.1 83, n).1 (h.1 83, n).2 v then (h.1 83, n) else (insF (h.1 83, n).1 (psN (h.1 83, n).1 (h.1 83, n).2 v) (h.1 83, n).2 v, (h.1 83, n).2 + 1)) = (h.1 83, n) from if_pos m] at g
      have g : Gd mX9_findDays 163 [.ref 72, .int (nI l), .int q, .int r, .int v, .int (bi false), .int (nI n)] [] (sI (sI h 83 (h.1 83)) 72 (upd (h.1 72) 11 (nI n))) x := g
      rw [show (sI (sI h 83 (h.1 83)) 72 (upd (h.1 72) 11 (nI n))) = h by rw [sI_id, upd_same e, sI_id]] at g
      refine gd_ild5 dX9_findDays_92 ?_
      refine gd_if_eq_t 163 dX9_findDays_94 (by decide) (by decide) ?_
      exact g
theorem m_findDays {h : Hp} (w : WF (ms h)) {l : Nat} (hl : l < nN (ms h)) : Gd mX9_findDays 0 [.ref 72, .int (nI l), .null, .null, .null, .null, .null] [] h (none, sI (sI h 83 (fD (ms h) l (h.1 83) 4).1) 72 (upd (h.1 72) 11 (nI (fD (ms h) l (h.1 83) 4).2))) := by
  have lN := w.n.2
  have key := loopG (P := fun r => ∀ l4 l5 l6, Gd mX9_findDays 14 [.ref 72, .int (nI l), .int (ms h 4 (9 * l + 4)), .int (nI r), l4, l5, l6] [] (sI (sI h 83 (fD (ms h) l (h.1 83) r).1) 72 (upd (h.1 72) 11 (nI (fD (ms h) l (h.1 83) r).2))) (none, sI (sI h 83 (fD (ms h) l (h.1 83) 4).1) 72 (upd (h.1 72) 11 (nI (fD (ms h) l (h.1 83) 4).2)))) (n := 4) ?_ ?_ 0 (by omega)
  · have key := key .null .null .null
    rw [show (fD (ms h) l (h.1 83) 0).1 = h.1 83 from rfl, sI_id] at key
    refine gd_ald0 dX9_findDays_0 (by decide) ?_
    refine gd_ic0 dX9_findDays_1 ?_
    refine gd_putI dX9_findDays_2 fl_9_139 rfl rfl (fun _ _ _ e => by cases e; rfl) ?_
    refine gd_ald0 dX9_findDays_5 (by decide) ?_
    refine gd_ild1 dX9_findDays_6 ?_
    refine gd_ic4 dX9_findDays_7 ?_
    refine gd_cV2i dX9_findDays_8 ct_9_120 rc_72 ⟨Nat.le_of_ble_eq_true rfl, Nat.le_of_ble_eq_true rfl⟩ (Nat.le_of_ble_eq_true rfl) (Nat.le_of_ble_eq_true rfl) (m_its (l := l) (w := 4) (by omega) (by decide) _) ?_
    rw [show ∀ f, (sI h 72 f).1 78 (9 * l + 4) = ms h 4 (9 * l + 4) from fun _ => (ms_r4 (by omega)).symm]
    refine gd_ist2 dX9_findDays_11 rfl ?_
    refine gd_ic0 dX9_findDays_12 ?_
    refine gd_ist3 dX9_findDays_13 rfl ?_
    exact key
  · intro l4 l5 l6
    refine gd_ild3 dX9_findDays_14 ?_
    refine gd_ic4 dX9_findDays_15 ?_
    refine gd_icmp_ge_t 169 dX9_findDays_16 (by decide) (by exact nI_le (by omega) (by omega)) ?_
    refine gd_vret dX9_findDays_169 rfl ?_
    rfl
  · intro r hr ih l4 l5 l6
    by_cases e4 : ms h 4 (9 * l + 4) = nI 4
    · have hb : cnB (ms h) l r = true := by unfold cnB; rw [decide_eq_true e4]; rfl
      refine gd_ild3 dX9_findDays_14 ?_
      refine gd_ic4 dX9_findDays_15 ?_
      refine gd_icmp_ge_f 169 dX9_findDays_16 (by decide) (by exact nI_ge (by omega) (by omega)) ?_
      refine gd_ald0 dX9_findDays_19 (by decide) ?_
      refine gd_ild1 dX9_findDays_20 ?_
      refine gd_ic3 dX9_findDays_21 ?_
      refine gd_cV2i dX9_findDays_22 ct_9_120 rc_72 ⟨Nat.le_of_ble_eq_true rfl, Nat.le_of_ble_eq_true rfl⟩ (Nat.le_of_ble_eq_true rfl) (Nat.le_of_ble_eq_true rfl) (m_its (l := l) (w := 3) (by omega) (by decide) _) ?_
      rw [show (sI (sI h 83 (fD (ms h) l (h.1 83) r).1) 72 (upd (h.1 72) 11 (nI (fD (ms h) l (h.1 83) r).2))).1 78 (9 * l + 3) = ms h 4 (9 * l + 3) from (ms_r4 (by omega)).symm]
      refine gd_ald0 dX9_findDays_25 (by decide) ?_
      refine gd_ild3 dX9_findDays_26 ?_
      refine gd_cV1i dX9_findDays_27 ct_9_143 rc_72 ⟨Nat.le_of_ble_eq_true rfl, Nat.le_of_ble_eq_true rfl⟩ (Nat.le_of_ble_eq_true rfl) (Nat.le_of_ble_eq_true rfl) (m_lawOf (h := sI (sI h 83 (fD (ms h) l (h.1 83) r).1) 72 (upd (h.1 72) 11 (nI (fD (ms h) l (h.1 83) r).2))) (by exact w) (by omega)) ?_
      rw [ms_si (Or.inl (by decide)), ms_si (Or.inr (by decide))]
      refine gd_iadd dX9_findDays_30 ?_
      refine gd_ist4 dX9_findDays_31 rfl ?_
      refine gd_ild2 dX9_findDays_33 ?_
      refine gd_ic4 dX9_findDays_34 ?_
      refine gd_icmp_eq_t 43 dX9_findDays_35 (by decide) (e4) ?_
      refine gd_ic1 dX9_findDays_43 ?_
      refine gd_goto 48 dX9_findDays_44 (by decide) ?_
      refine gd_ist5 dX9_findDays_48 rfl ?_
      refine m_find3 true (by have := fD_le (ms h) l (h.1 83) r; omega) (fD_srt (ms h) l (h.1 83) r) rfl (fun fl j => ?_)
      refine gd_iinc3 (b := nI 1) dX9_findDays_163 (by decide) rfl ?_
      rw [nI_add]
      refine gd_goto 14 dX9_findDays_166 (by decide) ?_
      refine gd_eqH ?_ (ih _ _ _)
      rw [show fD (ms h) l (h.1 83) (r + 1) = pD (fD (ms h) l (h.1 83) r) (ms h 4 (9 * l + 3) + lawV (ms h) r) by show (if _ then _ else _) = _; rw [if_pos hb]]
      simp only [sI_sI, sI_at, sI_2, sL_sL, sL_at, sL_1, Nat.reduceEqDiff, reduceIte, upd_upd]
      exact (m_hh _ _ _ _ _).trans rfl
    · by_cases e : ms h 4 (9 * l + 4) = nI r
      · have hb : cnB (ms h) l r = true := by unfold cnB; rw [decide_eq_true e, Bool.or_true]
        refine gd_ild3 dX9_findDays_14 ?_
        refine gd_ic4 dX9_findDays_15 ?_
        refine gd_icmp_ge_f 169 dX9_findDays_16 (by decide) (by exact nI_ge (by omega) (by omega)) ?_
        refine gd_ald0 dX9_findDays_19 (by decide) ?_
        refine gd_ild1 dX9_findDays_20 ?_
        refine gd_ic3 dX9_findDays_21 ?_
        refine gd_cV2i dX9_findDays_22 ct_9_120 rc_72 ⟨Nat.le_of_ble_eq_true rfl, Nat.le_of_ble_eq_true rfl⟩ (Nat.le_of_ble_eq_true rfl) (Nat.le_of_ble_eq_true rfl) (m_its (l := l) (w := 3) (by omega) (by decide) _) ?_
        rw [show (sI (sI h 83 (fD (ms h) l (h.1 83) r).1) 72 (upd (h.1 72) 11 (nI (fD (ms h) l (h.1 83) r).2))).1 78 (9 * l + 3) = ms h 4 (9 * l + 3) from (ms_r4 (by omega)).symm]
        refine gd_ald0 dX9_findDays_25 (by decide) ?_
        refine gd_ild3 dX9_findDays_26 ?_
        refine gd_cV1i dX9_findDays_27 ct_9_143 rc_72 ⟨Nat.le_of_ble_eq_true rfl, Nat.le_of_ble_eq_true rfl⟩ (Nat.le_of_ble_eq_true rfl) (Nat.le_of_ble_eq_true rfl) (m_lawOf (h := sI (sI h 83 (fD (ms h) l (h.1 83) r).1) 72 (upd (h.1 72) 11 (nI (fD (ms h) l (h.1 83) r).2))) (by exact w) (by omega)) ?_
        rw [ms_si (Or.inl (by decide)), ms_si (Or.inr (by decide))]
        refine gd_iadd dX9_findDays_30 ?_
        refine gd_ist4 dX9_findDays_31 rfl ?_
        refine gd_ild2 dX9_findDays_33 ?_
        refine gd_ic4 dX9_findDays_34 ?_
        refine gd_icmp_eq_f 43 dX9_findDays_35 (by decide) (e4) ?_
        refine gd_ild2 dX9_findDays_38 ?_
        refine gd_ild3 dX9_findDays_39 ?_
        refine gd_icmp_ne_f 47 dX9_findDays_40 (by decide) (e) ?_
        refine gd_ic1 dX9_findDays_43 ?_
        refine gd_goto 48 dX9_findDays_44 (by decide) ?_
        refine gd_ist5 dX9_findDays_48 rfl ?_
        refine m_find3 true (by have := fD_le (ms h) l (h.1 83) r; omega) (fD_srt (ms h) l (h.1 83) r) rfl (fun fl j => ?_)
        refine gd_iinc3 (b := nI 1) dX9_findDays_163 (by decide) rfl ?_
        rw [nI_add]
        refine gd_goto 14 dX9_findDays_166 (by decide) ?_
        refine gd_eqH ?_ (ih _ _ _)
        rw [show fD (ms h) l (h.1 83) (r + 1) = pD (fD (ms h) l (h.1 83) r) (ms h 4 (9 * l + 3) + lawV (ms h) r) by show (if _ then _ else _) = _; rw [if_pos hb]]
        simp only [sI_sI, sI_at, sI_2, sL_sL, sL_at, sL_1, Nat.reduceEqDiff, reduceIte, upd_upd]
        exact (m_hh _ _ _ _ _).trans rfl
      · have hb : cnB (ms h) l r = false := by unfold cnB; rw [decide_eq_false e, decide_eq_false e4]; rfl
        refine gd_ild3 dX9_findDays_14 ?_
        refine gd_ic4 dX9_findDays_15 ?_
        refine gd_icmp_ge_f 169 dX9_findDays_16 (by decide) (by exact nI_ge (by omega) (by omega)) ?_
        refine gd_ald0 dX9_findDays_19 (by decide) ?_
        refine gd_ild1 dX9_findDays_20 ?_
        refine gd_ic3 dX9_findDays_21 ?_
        refine gd_cV2i dX9_findDays_22 ct_9_120 rc_72 ⟨Nat.le_of_ble_eq_true rfl, Nat.le_of_ble_eq_true rfl⟩ (Nat.le_of_ble_eq_true rfl) (Nat.le_of_ble_eq_true rfl) (m_its (l := l) (w := 3) (by omega) (by decide) _) ?_
        rw [show (sI (sI h 83 (fD (ms h) l (h.1 83) r).1) 72 (upd (h.1 72) 11 (nI (fD (ms h) l (h.1 83) r).2))).1 78 (9 * l + 3) = ms h 4 (9 * l + 3) from (ms_r4 (by omega)).symm]
        refine gd_ald0 dX9_findDays_25 (by decide) ?_
        refine gd_ild3 dX9_findDays_26 ?_
        refine gd_cV1i dX9_findDays_27 ct_9_143 rc_72 ⟨Nat.le_of_ble_eq_true rfl, Nat.le_of_ble_eq_true rfl⟩ (Nat.le_of_ble_eq_true rfl) (Nat.le_of_ble_eq_true rfl) (m_lawOf (h := sI (sI h 83 (fD (ms h) l (h.1 83) r).1) 72 (upd (h.1 72) 11 (nI (fD (ms h) l (h.1 83) r).2))) (by exact w) (by omega)) ?_
        rw [ms_si (Or.inl (by decide)), ms_si (Or.inr (by decide))]
        refine gd_iadd dX9_findDays_30 ?_
        refine gd_ist4 dX9_findDays_31 rfl ?_
        refine gd_ild2 dX9_findDays_33 ?_
        refine gd_ic4 dX9_findDays_34 ?_
        refine gd_icmp_eq_f 43 dX9_findDays_35 (by decide) (e4) ?_
        refine gd_ild2 dX9_findDays_38 ?_
        refine gd_ild3 dX9_findDays_39 ?_
        refine gd_icmp_ne_t 47 dX9_findDays_40 (by decide) (e) ?_
        refine gd_ic0 dX9_findDays_47 ?_
        refine gd_ist5 dX9_findDays_48 rfl ?_
        refine m_find3 false (by have := fD_le (ms h) l (h.1 83) r; omega) (fD_srt (ms h) l (h.1 83) r) rfl (fun fl j => ?_)
        refine gd_iinc3 (b := nI 1) dX9_findDays_163 (by decide) rfl ?_
        rw [nI_add]
        refine gd_goto 14 dX9_findDays_166 (by decide) ?_
        refine gd_eqH ?_ (ih _ _ _)
        rw [show fD (ms h) l (h.1 83) (r + 1) = fD (ms h) l (h.1 83) r by show (if _ then _ else _) = _; rw [if_neg (by rw [hb]; decide)]]
        simp only [sI_sI, sI_at, sI_2, sL_sL, sL_at, sL_1, Nat.reduceEqDiff, reduceIte, upd_upd]
        exact (m_hh _ _ _ _ _).trans rfl
set_option maxHeartbeats 1000000 in
theorem p_days {h : Hp} (i : Inv h) (a : Int32) : Pas mX8_days mX9_days [.ref 0, .int a] [.ref 72, .int a] h := by
  have lN := i.lN
  rcases rng a (nN (ms h)) (by omega) with ⟨l, hl, rfl⟩ | ha
  · refine Pas.read (r := .int (nI (fD (ms h) l (h.1 25) 4).2)) (r2 := .int (nI (fD (ms h) l (h.1 83) 4).2)) (h1 := sI h 25 (fD (ms h) l (h.1 25) 4).1) (h2 := sI (sI (sI h 25 (fD (ms h) l (h.1 25) 4).1) 83 (fD (ms h) l (h.1 83) 4).1) 72 (upd (h.1 72) 11 (nI (fD (ms h) l (h.1 83) 4).2))) i (by rw [(fD_agr (ms h) l (h.1 25) (h.1 83) 4).1]) ((Same.rf _).si (by decide) (by decide) (by decide)) (((Same.rf _).si (by decide) (by decide) (by decide)).s72 rfl rfl) ?_ ?_
    · refine gd_ald0 dX8_days_0 (by decide) ?_
      refine gd_ild1 dX8_days_1 ?_
      refine gd_cV1i dX8_days_2 ct_8_142 rc_0 ⟨Nat.le_of_ble_eq_true rfl, Nat.le_of_ble_eq_true rfl⟩ (Nat.le_of_ble_eq_true rfl) (Nat.le_of_ble_eq_true rfl) (c_isLetter_t i.w i.c hl) ?_
      refine gd_if_ne_t 15 dX8_days_5 (by decide) (by decide) ?_
      refine gd_ald0 dX8_days_15 (by decide) ?_
      refine gd_getR (r := 1) dX8_days_16 fl_8_12 rfl rfl rfl (by decide) ?_
      refine gd_ild1 dX8_days_19 ?_
      refine gd_cV1i dX8_days_20 ct_8_171 rc_1 ⟨Nat.le_of_ble_eq_true rfl, Nat.le_of_ble_eq_true rfl⟩ (Nat.le_of_ble_eq_true rfl) (Nat.le_of_ble_eq_true rfl) (c_fillDays i.w i.c hl) ?_
      refine gd_iret dX8_days_23 rfl rfl ?_
      rfl
    · refine gd_ald0 dX9_days_0 (by decide) ?_
      refine gd_ild1 dX9_days_1 ?_
      refine gd_cV1i dX9_days_2 ct_9_113 rc_72 ⟨Nat.le_of_ble_eq_true rfl, Nat.le_of_ble_eq_true rfl⟩ (Nat.le_of_ble_eq_true rfl) (Nat.le_of_ble_eq_true rfl) (m_isLetter_t (h := sI h 25 (fD (ms h) l (h.1 25) 4).1) (by exact i.w) hl) ?_
      refine gd_if_ne_t 14 dX9_days_5 (by decide) (by decide) ?_
      refine gd_ald0 dX9_days_14 (by decide) ?_
      refine gd_ild1 dX9_days_15 ?_
      refine gd_cV1v dX9_days_16 ct_9_146 rc_72 ⟨Nat.le_of_ble_eq_true rfl, Nat.le_of_ble_eq_true rfl⟩ (Nat.le_of_ble_eq_true rfl) (Nat.le_of_ble_eq_true rfl) (show Gd mX9_findDays 0 [.ref 72, .int (nI l), .null, .null, .null, .null, .null] [] (sI h 25 (fD (ms h) l (h.1 25) 4).1) (none, sI (sI (sI h 25 (fD (ms h) l (h.1 25) 4).1) 83 (fD (ms h) l (h.1 83) 4).1) 72 (upd (h.1 72) 11 (nI (fD (ms h) l (h.1 83) 4).2))) from by have z := m_findDays (h := sI h 25 (fD (ms h) l (h.1 25) 4).1) (by rw [ms_si (Or.inl (by decide))]; exact i.w) (l := l) (by rw [ms_si (Or.inl (by decide))]; exact hl); rw [ms_si (Or.inl (by decide))] at z; exact z) ?_
      refine gd_ald0 dX9_days_19 (by decide) ?_
      refine gd_getI dX9_days_20 fl_9_139 rfl rfl ?_
      refine gd_iret dX9_days_23 rfl rfl ?_
      rfl
  · refine Pas.find (h1 := h) (h2 := hf (h) 0) (v := -1000000001) (w := (-1000000000 : Int32) - nI 1) 0 i (by decide) (by decide) (by decide) (Same.rf _) (Same.rf _) ?_ ?_
    · refine gd_ald0 dX8_days_0 (by decide) ?_
      refine gd_ild1 dX8_days_1 ?_
      refine gd_cV1i dX8_days_2 ct_8_142 rc_0 ⟨Nat.le_of_ble_eq_true rfl, Nat.le_of_ble_eq_true rfl⟩ (Nat.le_of_ble_eq_true rfl) (Nat.le_of_ble_eq_true rfl) (c_isLetter_f i.w i.c ha) ?_
      refine gd_if_ne_f 15 dX8_days_5 (by decide) (by decide) ?_
      refine gd_ald0 dX8_days_8 (by decide) ?_
      refine gd_ldc dX8_days_9 ld_8_52 ?_
      refine gd_cV1i dX8_days_11 ct_8_53 rc_0 ⟨Nat.le_of_ble_eq_true rfl, Nat.le_of_ble_eq_true rfl⟩ (Nat.le_of_ble_eq_true rfl) (Nat.le_of_ble_eq_true rfl) (c_f0 _) ?_
      refine gd_iret dX8_days_14 rfl rfl ?_
      rfl
    · refine gd_ald0 dX9_days_0 (by decide) ?_
      refine gd_ild1 dX9_days_1 ?_
      refine gd_cV1i dX9_days_2 ct_9_113 rc_72 ⟨Nat.le_of_ble_eq_true rfl, Nat.le_of_ble_eq_true rfl⟩ (Nat.le_of_ble_eq_true rfl) (Nat.le_of_ble_eq_true rfl) (m_isLetter_f (h := hf h 0) (by exact i.w) ha) ?_
      refine gd_if_ne_f 14 dX9_days_5 (by decide) (by decide) ?_
      refine gd_ald0 dX9_days_8 (by decide) ?_
      refine gd_ic1 dX9_days_9 ?_
      refine gd_cV1i dX9_days_10 ct_9_97 rc_72 ⟨Nat.le_of_ble_eq_true rfl, Nat.le_of_ble_eq_true rfl⟩ (Nat.le_of_ble_eq_true rfl) (Nat.le_of_ble_eq_true rfl) (m_f0 _) ?_
      refine gd_iret dX9_days_13 rfl rfl ?_
      rfl
set_option maxHeartbeats 1000000 in
theorem p_day {h : Hp} (i : Inv h) (a b : Int32) : Pas mX8_day mX9_day [.ref 0, .int a, .int b, .null] [.ref 72, .int a, .int b] h := by
  have lN := i.lN
  rcases rng a (nN (ms h)) (by omega) with ⟨l, hl, rfl⟩ | ha
  · have ag := fD_agr (ms h) l (h.1 25) (h.1 83) 4
    have le := fD_le (ms h) l (h.1 25) 4
    have ae := ag.1
    rcases ngO b with hb | ⟨n, hn, rfl⟩
    · refine Pas.find (h1 := h) (h2 := hf (h) 0) (v := -1000000001) (w := (-1000000000 : Int32) - nI 1) 0 i (by decide) (by decide) (by decide) (Same.rf _) (Same.rf _) ?_ ?_
      · refine gd_ald0 dX8_day_0 (by decide) ?_
        refine gd_ild1 dX8_day_1 ?_
        refine gd_cV1i dX8_day_2 ct_8_142 rc_0 ⟨Nat.le_of_ble_eq_true rfl, Nat.le_of_ble_eq_true rfl⟩ (Nat.le_of_ble_eq_true rfl) (Nat.le_of_ble_eq_true rfl) (c_isLetter_t i.w i.c hl) ?_
        refine gd_if_eq_f 12 dX8_day_5 (by decide) (by decide) ?_
        refine gd_ild2 dX8_day_8 ?_
        refine gd_if_ge_f 19 dX8_day_9 (by decide) (fun z => absurd hb (Int32.not_lt.mpr z)) ?_
        refine gd_ald0 dX8_day_12 (by decide) ?_
        refine gd_ldc dX8_day_13 ld_8_52 ?_
        refine gd_cV1i dX8_day_15 ct_8_53 rc_0 ⟨Nat.le_of_ble_eq_true rfl, Nat.le_of_ble_eq_true rfl⟩ (Nat.le_of_ble_eq_true rfl) (Nat.le_of_ble_eq_true rfl) (c_f0 _) ?_
        refine gd_iret dX8_day_18 rfl rfl ?_
        rfl
      · refine gd_ald0 dX9_day_0 (by decide) ?_
        refine gd_ild1 dX9_day_1 ?_
        refine gd_cV1i dX9_day_2 ct_9_113 rc_72 ⟨Nat.le_of_ble_eq_true rfl, Nat.le_of_ble_eq_true rfl⟩ (Nat.le_of_ble_eq_true rfl) (Nat.le_of_ble_eq_true rfl) (m_isLetter_t (h := hf h 0) (by exact i.w) hl) ?_
        refine gd_if_eq_f 12 dX9_day_5 (by decide) (by decide) ?_
        refine gd_ild2 dX9_day_8 ?_
        refine gd_if_ge_f 18 dX9_day_9 (by decide) (fun z => absurd hb (Int32.not_lt.mpr z)) ?_
        refine gd_ald0 dX9_day_12 (by decide) ?_
        refine gd_ic1 dX9_day_13 ?_
        refine gd_cV1i dX9_day_14 ct_9_97 rc_72 ⟨Nat.le_of_ble_eq_true rfl, Nat.le_of_ble_eq_true rfl⟩ (Nat.le_of_ble_eq_true rfl) (Nat.le_of_ble_eq_true rfl) (m_f0 _) ?_
        refine gd_iret dX9_day_17 rfl rfl ?_
        rfl
    · by_cases q : n < (fD (ms h) l (h.1 25) 4).2
      · refine Pas.read (r := .int ((fD (ms h) l (h.1 25) 4).1 n)) (r2 := .int ((fD (ms h) l (h.1 83) 4).1 n)) (h1 := sI h 25 (fD (ms h) l (h.1 25) 4).1) (h2 := sI (sI (sI h 25 (fD (ms h) l (h.1 25) 4).1) 83 (fD (ms h) l (h.1 83) 4).1) 72 (upd (h.1 72) 11 (nI (fD (ms h) l (h.1 83) 4).2))) i (by rw [ag.2 n q]) ((Same.rf _).si (by decide) (by decide) (by decide)) (((Same.rf _).si (by decide) (by decide) (by decide)).s72 rfl rfl) ?_ ?_
        · refine gd_ald0 dX8_day_0 (by decide) ?_
          refine gd_ild1 dX8_day_1 ?_
          refine gd_cV1i dX8_day_2 ct_8_142 rc_0 ⟨Nat.le_of_ble_eq_true rfl, Nat.le_of_ble_eq_true rfl⟩ (Nat.le_of_ble_eq_true rfl) (Nat.le_of_ble_eq_true rfl) (c_isLetter_t i.w i.c hl) ?_
          refine gd_if_eq_f 12 dX8_day_5 (by decide) (by decide) ?_
          refine gd_ild2 dX8_day_8 ?_
          refine gd_if_ge_t 19 dX8_day_9 (by decide) (nI_pos' hn) ?_
          refine gd_ald0 dX8_day_19 (by decide) ?_
          refine gd_getR (r := 1) dX8_day_20 fl_8_12 rfl rfl rfl (by decide) ?_
          refine gd_ild1 dX8_day_23 ?_
          refine gd_cV1i dX8_day_24 ct_8_171 rc_1 ⟨Nat.le_of_ble_eq_true rfl, Nat.le_of_ble_eq_true rfl⟩ (Nat.le_of_ble_eq_true rfl) (Nat.le_of_ble_eq_true rfl) (c_fillDays i.w i.c hl) ?_
          refine gd_ist3 dX8_day_27 rfl ?_
          refine gd_ild2 dX8_day_28 ?_
          refine gd_ild3 dX8_day_29 ?_
          refine gd_icmp_lt_t 40 dX8_day_30 (by decide) (by exact nI_lt (by omega) (by omega)) ?_
          refine gd_ald0 dX8_day_40 (by decide) ?_
          refine gd_getR (r := 1) dX8_day_41 fl_8_12 rfl rfl rfl (by decide) ?_
          refine gd_getR (r := 25) dX8_day_44 fl_8_175 rfl rfl rfl (by decide) ?_
          refine gd_ild2 dX8_day_47 ?_
          refine gd_iald (n := 4) dX8_day_48 rfl (by decide) (rfl) (by omega) ?_
          refine gd_iret dX8_day_49 rfl rfl ?_
          rfl
        · refine gd_ald0 dX9_day_0 (by decide) ?_
          refine gd_ild1 dX9_day_1 ?_
          refine gd_cV1i dX9_day_2 ct_9_113 rc_72 ⟨Nat.le_of_ble_eq_true rfl, Nat.le_of_ble_eq_true rfl⟩ (Nat.le_of_ble_eq_true rfl) (Nat.le_of_ble_eq_true rfl) (m_isLetter_t (h := sI h 25 (fD (ms h) l (h.1 25) 4).1) (by exact i.w) hl) ?_
          refine gd_if_eq_f 12 dX9_day_5 (by decide) (by decide) ?_
          refine gd_ild2 dX9_day_8 ?_
          refine gd_if_ge_t 18 dX9_day_9 (by decide) (nI_pos' hn) ?_
          refine gd_ald0 dX9_day_18 (by decide) ?_
          refine gd_ild1 dX9_day_19 ?_
          refine gd_cV1v dX9_day_20 ct_9_146 rc_72 ⟨Nat.le_of_ble_eq_true rfl, Nat.le_of_ble_eq_true rfl⟩ (Nat.le_of_ble_eq_true rfl) (Nat.le_of_ble_eq_true rfl) (show Gd mX9_findDays 0 [.ref 72, .int (nI l), .null, .null, .null, .null, .null] [] (sI h 25 (fD (ms h) l (h.1 25) 4).1) (none, sI (sI (sI h 25 (fD (ms h) l (h.1 25) 4).1) 83 (fD (ms h) l (h.1 83) 4).1) 72 (upd (h.1 72) 11 (nI (fD (ms h) l (h.1 83) 4).2))) from by have z := m_findDays (h := sI h 25 (fD (ms h) l (h.1 25) 4).1) (by rw [ms_si (Or.inl (by decide))]; exact i.w) (l := l) (by rw [ms_si (Or.inl (by decide))]; exact hl); rw [ms_si (Or.inl (by decide))] at z; exact z) ?_
          refine gd_ild2 dX9_day_23 ?_
          refine gd_ald0 dX9_day_24 (by decide) ?_
          refine gd_getI dX9_day_25 fl_9_139 rfl rfl ?_
          rw [show (sI (sI (sI h 25 (fD (ms h) l (h.1 25) 4).1) 83 (fD (ms h) l (h.1 83) 4).1) 72 (upd (h.1 72) 11 (nI (fD (ms h) l (h.1 83) 4).2))).1 72 11 = nI (fD (ms h) l (h.1 83) 4).2 from rfl]
          refine gd_icmp_ge_f 40 dX9_day_28 (by decide) (by exact nI_ge (by omega) (by omega)) ?_
          refine gd_ald0 dX9_day_31 (by decide) ?_
          refine gd_getR (r := 83) dX9_day_32 fl_9_41 rfl rfl rfl (by decide) ?_
          refine gd_ild2 dX9_day_35 ?_
          refine gd_iald (n := 4) dX9_day_36 rfl (by decide) (rfl) (by omega) ?_
          refine gd_goto 45 dX9_day_37 (by decide) ?_
          refine gd_iret dX9_day_45 rfl rfl ?_
          rfl
      · refine Pas.find (h1 := sI h 25 (fD (ms h) l (h.1 25) 4).1) (h2 := sI (sI (hf (sI h 25 (fD (ms h) l (h.1 25) 4).1) 3) 83 (fD (ms h) l (h.1 83) 4).1) 72 (upd (h.1 72) 11 (nI (fD (ms h) l (h.1 83) 4).2))) (v := -1000000004) (w := (-1000000000 : Int32) - nI 4) 3 i (by decide) (by decide) (by decide) ((Same.rf _).si (by decide) (by decide) (by decide)) (((Same.rf _).si (by decide) (by decide) (by decide)).s72 rfl rfl) ?_ ?_
        · refine gd_ald0 dX8_day_0 (by decide) ?_
          refine gd_ild1 dX8_day_1 ?_
          refine gd_cV1i dX8_day_2 ct_8_142 rc_0 ⟨Nat.le_of_ble_eq_true rfl, Nat.le_of_ble_eq_true rfl⟩ (Nat.le_of_ble_eq_true rfl) (Nat.le_of_ble_eq_true rfl) (c_isLetter_t i.w i.c hl) ?_
          refine gd_if_eq_f 12 dX8_day_5 (by decide) (by decide) ?_
          refine gd_ild2 dX8_day_8 ?_
          refine gd_if_ge_t 19 dX8_day_9 (by decide) (nI_pos' hn) ?_
          refine gd_ald0 dX8_day_19 (by decide) ?_
          refine gd_getR (r := 1) dX8_day_20 fl_8_12 rfl rfl rfl (by decide) ?_
          refine gd_ild1 dX8_day_23 ?_
          refine gd_cV1i dX8_day_24 ct_8_171 rc_1 ⟨Nat.le_of_ble_eq_true rfl, Nat.le_of_ble_eq_true rfl⟩ (Nat.le_of_ble_eq_true rfl) (Nat.le_of_ble_eq_true rfl) (c_fillDays i.w i.c hl) ?_
          refine gd_ist3 dX8_day_27 rfl ?_
          refine gd_ild2 dX8_day_28 ?_
          refine gd_ild3 dX8_day_29 ?_
          refine gd_icmp_lt_f 40 dX8_day_30 (by decide) (by exact nI_nlt (by omega) (by omega)) ?_
          refine gd_ald0 dX8_day_33 (by decide) ?_
          refine gd_ldc dX8_day_34 ld_8_174 ?_
          refine gd_cV1i dX8_day_36 ct_8_53 rc_0 ⟨Nat.le_of_ble_eq_true rfl, Nat.le_of_ble_eq_true rfl⟩ (Nat.le_of_ble_eq_true rfl) (Nat.le_of_ble_eq_true rfl) (c_f3 _) ?_
          refine gd_iret dX8_day_39 rfl rfl ?_
          rfl
        · refine gd_ald0 dX9_day_0 (by decide) ?_
          refine gd_ild1 dX9_day_1 ?_
          refine gd_cV1i dX9_day_2 ct_9_113 rc_72 ⟨Nat.le_of_ble_eq_true rfl, Nat.le_of_ble_eq_true rfl⟩ (Nat.le_of_ble_eq_true rfl) (Nat.le_of_ble_eq_true rfl) (m_isLetter_t (h := hf (sI h 25 (fD (ms h) l (h.1 25) 4).1) 3) (by exact i.w) hl) ?_
          refine gd_if_eq_f 12 dX9_day_5 (by decide) (by decide) ?_
          refine gd_ild2 dX9_day_8 ?_
          refine gd_if_ge_t 18 dX9_day_9 (by decide) (nI_pos' hn) ?_
          refine gd_ald0 dX9_day_18 (by decide) ?_
          refine gd_ild1 dX9_day_19 ?_
          refine gd_cV1v dX9_day_20 ct_9_146 rc_72 ⟨Nat.le_of_ble_eq_true rfl, Nat.le_of_ble_eq_true rfl⟩ (Nat.le_of_ble_eq_true rfl) (Nat.le_of_ble_eq_true rfl) (show Gd mX9_findDays 0 [.ref 72, .int (nI l), .null, .null, .null, .null, .null] [] (hf (sI h 25 (fD (ms h) l (h.1 25) 4).1) 3) (none, sI (sI (hf (sI h 25 (fD (ms h) l (h.1 25) 4).1) 3) 83 (fD (ms h) l (h.1 83) 4).1) 72 (upd (h.1 72) 11 (nI (fD (ms h) l (h.1 83) 4).2))) from by have z := m_findDays (h := hf (sI h 25 (fD (ms h) l (h.1 25) 4).1) 3) (by rw [ms_hf, ms_si (Or.inl (by decide))]; exact i.w) (l := l) (by rw [ms_hf, ms_si (Or.inl (by decide))]; exact hl); rw [ms_hf, ms_si (Or.inl (by decide))] at z; exact z) ?_
          refine gd_ild2 dX9_day_23 ?_
          refine gd_ald0 dX9_day_24 (by decide) ?_
          refine gd_getI dX9_day_25 fl_9_139 rfl rfl ?_
          rw [show (sI (sI (hf (sI h 25 (fD (ms h) l (h.1 25) 4).1) 3) 83 (fD (ms h) l (h.1 83) 4).1) 72 (upd (h.1 72) 11 (nI (fD (ms h) l (h.1 83) 4).2))).1 72 11 = nI (fD (ms h) l (h.1 83) 4).2 from rfl]
          refine gd_icmp_ge_t 40 dX9_day_28 (by decide) (by exact nI_le (by omega) (by omega)) ?_
          refine gd_ald0 dX9_day_40 (by decide) ?_
          refine gd_ic4 dX9_day_41 ?_
          refine gd_cV1i dX9_day_42 ct_9_97 rc_72 ⟨Nat.le_of_ble_eq_true rfl, Nat.le_of_ble_eq_true rfl⟩ (Nat.le_of_ble_eq_true rfl) (Nat.le_of_ble_eq_true rfl) (m_f3 _) ?_
          refine gd_iret dX9_day_45 rfl rfl ?_
          rfl
  · refine Pas.find (h1 := h) (h2 := hf (h) 0) (v := -1000000001) (w := (-1000000000 : Int32) - nI 1) 0 i (by decide) (by decide) (by decide) (Same.rf _) (Same.rf _) ?_ ?_
    · refine gd_ald0 dX8_day_0 (by decide) ?_
      refine gd_ild1 dX8_day_1 ?_
      refine gd_cV1i dX8_day_2 ct_8_142 rc_0 ⟨Nat.le_of_ble_eq_true rfl, Nat.le_of_ble_eq_true rfl⟩ (Nat.le_of_ble_eq_true rfl) (Nat.le_of_ble_eq_true rfl) (c_isLetter_f i.w i.c ha) ?_
      refine gd_if_eq_t 12 dX8_day_5 (by decide) (by decide) ?_
      refine gd_ald0 dX8_day_12 (by decide) ?_
      refine gd_ldc dX8_day_13 ld_8_52 ?_
      refine gd_cV1i dX8_day_15 ct_8_53 rc_0 ⟨Nat.le_of_ble_eq_true rfl, Nat.le_of_ble_eq_true rfl⟩ (Nat.le_of_ble_eq_true rfl) (Nat.le_of_ble_eq_true rfl) (c_f0 _) ?_
      refine gd_iret dX8_day_18 rfl rfl ?_
      rfl
    · refine gd_ald0 dX9_day_0 (by decide) ?_
      refine gd_ild1 dX9_day_1 ?_
      refine gd_cV1i dX9_day_2 ct_9_113 rc_72 ⟨Nat.le_of_ble_eq_true rfl, Nat.le_of_ble_eq_true rfl⟩ (Nat.le_of_ble_eq_true rfl) (Nat.le_of_ble_eq_true rfl) (m_isLetter_f (h := hf h 0) (by exact i.w) ha) ?_
      refine gd_if_eq_t 12 dX9_day_5 (by decide) (by decide) ?_
      refine gd_ald0 dX9_day_12 (by decide) ?_
      refine gd_ic1 dX9_day_13 ?_
      refine gd_cV1i dX9_day_14 ct_9_97 rc_72 ⟨Nat.le_of_ble_eq_true rfl, Nat.le_of_ble_eq_true rfl⟩ (Nat.le_of_ble_eq_true rfl) (Nat.le_of_ble_eq_true rfl) (m_f0 _) ?_
      refine gd_iret dX9_day_17 rfl rfl ?_
      rfl
