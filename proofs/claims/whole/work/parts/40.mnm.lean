
/-! ===== the reference takes a name ===== -/
def MT (h : Hp) (b : Nat → Nat) (N e : Nat) : Prop := MPB h b N ∧ e ≤ N ∧ h.1 72 15 = nI (tkS b N e) ∧ h.1 72 16 = nI (tkX b N e) ∧ h.1 72 17 = nI (tkL b N e) ∧ h.2 72 18 = tkM b N e
def hMk (h : Hp) (b : Nat → Nat) (N e : Nat) : Hp := hM h (nI (tkS b N e)) (nI (tkX b N e)) (nI (tkL b N e)) (tkM b N e)
theorem hMk_mt {h : Hp} {b : Nat → Nat} {N e : Nat} (t : MPB h b N) (he : e ≤ N) : MT (hMk h b N e) b N e := ⟨⟨t.1, t.2.1, t.2.2⟩, he, rfl, rfl, rfl, rfl⟩
theorem m_nx {h : Hp} {b : Nat → Nat} {N e : Nat} (t : MT h b N e) : Gd mX9_next 0 [.ref 72, .null] [] h (none, hMk h b N (tkX b N e)) :=
  m_next t.1 (tkX_ok t.1.2.1 t.2.1).2.1 t.2.2.2.1
theorem tkL_1 {b : Nat → Nat} {N e : Nat} : tkL b N e = 1 ↔ tkK b N e = 1 := by unfold tkL; split <;> omega
theorem tkL_2 {b : Nat → Nat} {N e : Nat} : tkL b N e = 2 ↔ tkK b N e = 2 := by unfold tkL; split <;> omega
theorem tkL_0 {b : Nat → Nat} {N e : Nat} : tkL b N e = 0 ↔ tkK b N e = 0 := by unfold tkL; split <;> omega
theorem tkL_lt {b : Nat → Nat} {N e : Nat} : tkL b N e ≤ 3 := by have := tkK_lt (b := b) (N := N) (e := e); unfold tkL; split <;> omega
/-- all bytes of a name are small letters -/
theorem tk_small {b : Nat → Nat} {N e : Nat} (hN : N ≤ 120) (he : e ≤ N) (k : tkK b N e = 1) : tkS b N e < N ∧ ∀ j, tkS b N e ≤ j → j < tkX b N e → 97 ≤ b j ∧ b j ≤ 122 := by
  have q : tkS b N e < N := by
    by_cases q : tkS b N e < N
    · exact q
    · unfold tkK at k; rw [if_neg q] at k; omega
  have kb : knd (b (tkS b N e)) = 1 := by unfold tkK at k; rw [if_pos q] at k; exact k
  refine ⟨q, fun j h1 h2 => knd1.mp ?_⟩
  unfold tkX at h2
  rw [if_pos q, k, if_pos (by decide)] at h2
  have r := runE_ok (p := fun j => decide (knd (b j) = 1)) (N := N) 200 (tkS b N e + 1) (by omega) (by omega)
  by_cases z : j = tkS b N e
  · rw [z]; exact kb
  · exact of_decide_eq_true (r.2.2.1 j (by omega) h2)
theorem nm0 {b : Nat → Nat} {N e : Nat} (hN : N ≤ 120) (he : e ≤ N) : isNm b N e ch0 4 ↔ tkK b N e = 1 ∧ tkM b N e = lN 2003792484 := by
  unfold isNm
  constructor
  · rintro ⟨k, x, a⟩
    refine ⟨k, ?_⟩
    unfold tkM
    rw [if_neg (by omega), if_pos k, x]
    show (if _ then lN (pkV b (tkS b N e) 4) else _) = _
    rw [if_pos (by decide)]
    congr 1
    rw [show pkV b (tkS b N e) 4 = pkV ch0 0 4 from (pk_inj (c := ch0) (r := 0) 4 4 (fun i hi => by have := (tk_small hN he k).2 (tkS b N e + i) (by omega) (by omega); omega) (fun i hi => by rcases (show i = 0 ∨ i = 1 ∨ i = 2 ∨ i = 3 by omega) with rfl | rfl | rfl | rfl <;> decide)).mpr ⟨rfl, fun i hi => by rw [a i hi, Nat.zero_add]⟩]
    rfl
  · rintro ⟨k, x⟩
    unfold tkM at x
    rw [if_neg (by omega), if_pos k] at x
    unfold nmV at x
    have sm := (tk_small hN he k).2
    by_cases q : tkX b N e - tkS b N e ≤ 7
    · rw [if_pos q, lN_inj (Nat.lt_of_lt_of_le (pkV_lt _ (fun i hi => by have := sm (tkS b N e + i) (by omega) (by omega); omega)) (Nat.le_trans (Nat.pow_le_pow_right (by decide) q) (by decide))) (by decide)] at x
      have y := (pk_inj (c := ch0) (r := 0) (tkX b N e - tkS b N e) 4 (fun i hi => by have := sm (tkS b N e + i) (by omega) (by omega); omega) (fun i hi => by rcases (show i = 0 ∨ i = 1 ∨ i = 2 ∨ i = 3 by omega) with rfl | rfl | rfl | rfl <;> decide)).mp (x.trans (by decide))
      exact ⟨k, y.1, fun i hi => by have := y.2 i (by omega); rw [Nat.zero_add] at this; exact this⟩
    · rw [if_neg q] at x
      exact absurd x (lN_nm (by decide))
theorem nm1 {b : Nat → Nat} {N e : Nat} (hN : N ≤ 120) (he : e ≤ N) : isNm b N e ch1 2 ↔ tkK b N e = 1 ∧ tkM b N e = lN 26995 := by
  unfold isNm
  constructor
  · rintro ⟨k, x, a⟩
    refine ⟨k, ?_⟩
    unfold tkM
    rw [if_neg (by omega), if_pos k, x]
    show (if _ then lN (pkV b (tkS b N e) 2) else _) = _
    rw [if_pos (by decide)]
    congr 1
    rw [show pkV b (tkS b N e) 2 = pkV ch1 0 2 from (pk_inj (c := ch1) (r := 0) 2 2 (fun i hi => by have := (tk_small hN he k).2 (tkS b N e + i) (by omega) (by omega); omega) (fun i hi => by rcases (show i = 0 ∨ i = 1 by omega) with rfl | rfl <;> decide)).mpr ⟨rfl, fun i hi => by rw [a i hi, Nat.zero_add]⟩]
    rfl
  · rintro ⟨k, x⟩
    unfold tkM at x
    rw [if_neg (by omega), if_pos k] at x
    unfold nmV at x
    have sm := (tk_small hN he k).2
    by_cases q : tkX b N e - tkS b N e ≤ 7
    · rw [if_pos q, lN_inj (Nat.lt_of_lt_of_le (pkV_lt _ (fun i hi => by have := sm (tkS b N e + i) (by omega) (by omega); omega)) (Nat.le_trans (Nat.pow_le_pow_right (by decide) q) (by decide))) (by decide)] at x
      have y := (pk_inj (c := ch1) (r := 0) (tkX b N e - tkS b N e) 2 (fun i hi => by have := sm (tkS b N e + i) (by omega) (by omega); omega) (fun i hi => by rcases (show i = 0 ∨ i = 1 by omega) with rfl | rfl <;> decide)).mp (x.trans (by decide))
      exact ⟨k, y.1, fun i hi => by have := y.2 i (by omega); rw [Nat.zero_add] at this; exact this⟩
    · rw [if_neg q] at x
      exact absurd x (lN_nm (by decide))
theorem nm2 {b : Nat → Nat} {N e : Nat} (hN : N ≤ 120) (he : e ≤ N) : isNm b N e ch2 6 ↔ tkK b N e = 1 ∧ tkM b N e = lN 125779785248622 := by
  unfold isNm
  constructor
  · rintro ⟨k, x, a⟩
    refine ⟨k, ?_⟩
    unfold tkM
    rw [if_neg (by omega), if_pos k, x]
    show (if _ then lN (pkV b (tkS b N e) 6) else _) = _
    rw [if_pos (by decide)]
    congr 1
    rw [show pkV b (tkS b N e) 6 = pkV ch2 0 6 from (pk_inj (c := ch2) (r := 0) 6 6 (fun i hi => by have := (tk_small hN he k).2 (tkS b N e + i) (by omega) (by omega); omega) (fun i hi => by rcases (show i = 0 ∨ i = 1 ∨ i = 2 ∨ i = 3 ∨ i = 4 ∨ i = 5 by omega) with rfl | rfl | rfl | rfl | rfl | rfl <;> decide)).mpr ⟨rfl, fun i hi => by rw [a i hi, Nat.zero_add]⟩]
    rfl
  · rintro ⟨k, x⟩
    unfold tkM at x
    rw [if_neg (by omega), if_pos k] at x
    unfold nmV at x
    have sm := (tk_small hN he k).2
    by_cases q : tkX b N e - tkS b N e ≤ 7
    · rw [if_pos q, lN_inj (Nat.lt_of_lt_of_le (pkV_lt _ (fun i hi => by have := sm (tkS b N e + i) (by omega) (by omega); omega)) (Nat.le_trans (Nat.pow_le_pow_right (by decide) q) (by decide))) (by decide)] at x
      have y := (pk_inj (c := ch2) (r := 0) (tkX b N e - tkS b N e) 6 (fun i hi => by have := sm (tkS b N e + i) (by omega) (by omega); omega) (fun i hi => by rcases (show i = 0 ∨ i = 1 ∨ i = 2 ∨ i = 3 ∨ i = 4 ∨ i = 5 by omega) with rfl | rfl | rfl | rfl | rfl | rfl <;> decide)).mp (x.trans (by decide))
      exact ⟨k, y.1, fun i hi => by have := y.2 i (by omega); rw [Nat.zero_add] at this; exact this⟩
    · rw [if_neg q] at x
      exact absurd x (lN_nm (by decide))
theorem nm3 {b : Nat → Nat} {N e : Nat} (hN : N ≤ 120) (he : e ≤ N) : isNm b N e ch3 4 ↔ tkK b N e = 1 ∧ tkM b N e = lN 1836020325 := by
  unfold isNm
  constructor
  · rintro ⟨k, x, a⟩
    refine ⟨k, ?_⟩
    unfold tkM
    rw [if_neg (by omega), if_pos k, x]
    show (if _ then lN (pkV b (tkS b N e) 4) else _) = _
    rw [if_pos (by decide)]
    congr 1
    rw [show pkV b (tkS b N e) 4 = pkV ch3 0 4 from (pk_inj (c := ch3) (r := 0) 4 4 (fun i hi => by have := (tk_small hN he k).2 (tkS b N e + i) (by omega) (by omega); omega) (fun i hi => by rcases (show i = 0 ∨ i = 1 ∨ i = 2 ∨ i = 3 by omega) with rfl | rfl | rfl | rfl <;> decide)).mpr ⟨rfl, fun i hi => by rw [a i hi, Nat.zero_add]⟩]
    rfl
  · rintro ⟨k, x⟩
    unfold tkM at x
    rw [if_neg (by omega), if_pos k] at x
    unfold nmV at x
    have sm := (tk_small hN he k).2
    by_cases q : tkX b N e - tkS b N e ≤ 7
    · rw [if_pos q, lN_inj (Nat.lt_of_lt_of_le (pkV_lt _ (fun i hi => by have := sm (tkS b N e + i) (by omega) (by omega); omega)) (Nat.le_trans (Nat.pow_le_pow_right (by decide) q) (by decide))) (by decide)] at x
      have y := (pk_inj (c := ch3) (r := 0) (tkX b N e - tkS b N e) 4 (fun i hi => by have := sm (tkS b N e + i) (by omega) (by omega); omega) (fun i hi => by rcases (show i = 0 ∨ i = 1 ∨ i = 2 ∨ i = 3 by omega) with rfl | rfl | rfl | rfl <;> decide)).mp (x.trans (by decide))
      exact ⟨k, y.1, fun i hi => by have := y.2 i (by omega); rw [Nat.zero_add] at this; exact this⟩
    · rw [if_neg q] at x
      exact absurd x (lN_nm (by decide))
theorem nm4 {b : Nat → Nat} {N e : Nat} (hN : N ≤ 120) (he : e ≤ N) : isNm b N e ch4 5 ↔ tkK b N e = 1 ∧ tkM b N e = lN 439721159795 := by
  unfold isNm
  constructor
  · rintro ⟨k, x, a⟩
    refine ⟨k, ?_⟩
    unfold tkM
    rw [if_neg (by omega), if_pos k, x]
    show (if _ then lN (pkV b (tkS b N e) 5) else _) = _
    rw [if_pos (by decide)]
    congr 1
    rw [show pkV b (tkS b N e) 5 = pkV ch4 0 5 from (pk_inj (c := ch4) (r := 0) 5 5 (fun i hi => by have := (tk_small hN he k).2 (tkS b N e + i) (by omega) (by omega); omega) (fun i hi => by rcases (show i = 0 ∨ i = 1 ∨ i = 2 ∨ i = 3 ∨ i = 4 by omega) with rfl | rfl | rfl | rfl | rfl <;> decide)).mpr ⟨rfl, fun i hi => by rw [a i hi, Nat.zero_add]⟩]
    rfl
  · rintro ⟨k, x⟩
    unfold tkM at x
    rw [if_neg (by omega), if_pos k] at x
    unfold nmV at x
    have sm := (tk_small hN he k).2
    by_cases q : tkX b N e - tkS b N e ≤ 7
    · rw [if_pos q, lN_inj (Nat.lt_of_lt_of_le (pkV_lt _ (fun i hi => by have := sm (tkS b N e + i) (by omega) (by omega); omega)) (Nat.le_trans (Nat.pow_le_pow_right (by decide) q) (by decide))) (by decide)] at x
      have y := (pk_inj (c := ch4) (r := 0) (tkX b N e - tkS b N e) 5 (fun i hi => by have := sm (tkS b N e + i) (by omega) (by omega); omega) (fun i hi => by rcases (show i = 0 ∨ i = 1 ∨ i = 2 ∨ i = 3 ∨ i = 4 by omega) with rfl | rfl | rfl | rfl | rfl <;> decide)).mp (x.trans (by decide))
      exact ⟨k, y.1, fun i hi => by have := y.2 i (by omega); rw [Nat.zero_add] at this; exact this⟩
    · rw [if_neg q] at x
      exact absurd x (lN_nm (by decide))
theorem nm5 {b : Nat → Nat} {N e : Nat} (hN : N ≤ 120) (he : e ≤ N) : isNm b N e ch5 6 ↔ tkK b N e = 1 ∧ tkM b N e = lN 113741193899620 := by
  unfold isNm
  constructor
  · rintro ⟨k, x, a⟩
    refine ⟨k, ?_⟩
    unfold tkM
    rw [if_neg (by omega), if_pos k, x]
    show (if _ then lN (pkV b (tkS b N e) 6) else _) = _
    rw [if_pos (by decide)]
    congr 1
    rw [show pkV b (tkS b N e) 6 = pkV ch5 0 6 from (pk_inj (c := ch5) (r := 0) 6 6 (fun i hi => by have := (tk_small hN he k).2 (tkS b N e + i) (by omega) (by omega); omega) (fun i hi => by rcases (show i = 0 ∨ i = 1 ∨ i = 2 ∨ i = 3 ∨ i = 4 ∨ i = 5 by omega) with rfl | rfl | rfl | rfl | rfl | rfl <;> decide)).mpr ⟨rfl, fun i hi => by rw [a i hi, Nat.zero_add]⟩]
    rfl
  · rintro ⟨k, x⟩
    unfold tkM at x
    rw [if_neg (by omega), if_pos k] at x
    unfold nmV at x
    have sm := (tk_small hN he k).2
    by_cases q : tkX b N e - tkS b N e ≤ 7
    · rw [if_pos q, lN_inj (Nat.lt_of_lt_of_le (pkV_lt _ (fun i hi => by have := sm (tkS b N e + i) (by omega) (by omega); omega)) (Nat.le_trans (Nat.pow_le_pow_right (by decide) q) (by decide))) (by decide)] at x
      have y := (pk_inj (c := ch5) (r := 0) (tkX b N e - tkS b N e) 6 (fun i hi => by have := sm (tkS b N e + i) (by omega) (by omega); omega) (fun i hi => by rcases (show i = 0 ∨ i = 1 ∨ i = 2 ∨ i = 3 ∨ i = 4 ∨ i = 5 by omega) with rfl | rfl | rfl | rfl | rfl | rfl <;> decide)).mp (x.trans (by decide))
      exact ⟨k, y.1, fun i hi => by have := y.2 i (by omega); rw [Nat.zero_add] at this; exact this⟩
    · rw [if_neg q] at x
      exact absurd x (lN_nm (by decide))
theorem m_isName {h : Hp} {b : Nat → Nat} {N e : Nat} (t : MT h b N e) (v : Int64) : Gd mX9_isName 0 [.ref 72, .long v, .null] [] h (some (.int (bi (decide (tkK b N e = 1 ∧ tkM b N e = v)))), h) := by
  have kl := tkL_lt (b := b) (N := N) (e := e)
  by_cases k : tkK b N e = 1
  · have l := tkL_1.mpr k
    by_cases q : tkM b N e = v
    · rw [decide_eq_true ⟨k, q⟩]
      refine gd_ald0 dX9_isName_0 (by decide) ?_
      refine gd_getI dX9_isName_1 fl_9_162 rfl rfl ?_
      rw [t.2.2.2.2.1]
      refine gd_ic1 dX9_isName_4 ?_
      refine gd_icmp_ne_f 21 dX9_isName_5 (by decide) (by rw [l]) ?_
      refine gd_ald0 dX9_isName_8 (by decide) ?_
      refine gd_getJ dX9_isName_9 fl_9_158 rfl rfl ?_
      rw [t.2.2.2.2.2]
      refine gd_lld1 dX9_isName_12 ?_
      refine gd_lcmp dX9_isName_13 ?_
      refine gd_if_ne_f 21 dX9_isName_14 (by decide) ((lg_cmp_eq _ _).mpr q) ?_
      refine gd_ic1 dX9_isName_17 ?_
      refine gd_goto 22 dX9_isName_18 (by decide) ?_
      refine gd_iret dX9_isName_22 rfl (by first | rfl | decide | exact nar_bi _ | assumption) ?_
      rfl
    · rw [decide_eq_false (fun z => q z.2)]
      refine gd_ald0 dX9_isName_0 (by decide) ?_
      refine gd_getI dX9_isName_1 fl_9_162 rfl rfl ?_
      rw [t.2.2.2.2.1]
      refine gd_ic1 dX9_isName_4 ?_
      refine gd_icmp_ne_f 21 dX9_isName_5 (by decide) (by rw [l]) ?_
      refine gd_ald0 dX9_isName_8 (by decide) ?_
      refine gd_getJ dX9_isName_9 fl_9_158 rfl rfl ?_
      rw [t.2.2.2.2.2]
      refine gd_lld1 dX9_isName_12 ?_
      refine gd_lcmp dX9_isName_13 ?_
      refine gd_if_ne_t 21 dX9_isName_14 (by decide) (fun z => q ((lg_cmp_eq _ _).mp z)) ?_
      refine gd_ic0 dX9_isName_21 ?_
      refine gd_iret dX9_isName_22 rfl (by first | rfl | decide | exact nar_bi _ | assumption) ?_
      rfl
  · rw [decide_eq_false (fun z => k z.1)]
    have l : ¬ tkL b N e = 1 := fun z => k (tkL_1.mp z)
    refine gd_ald0 dX9_isName_0 (by decide) ?_
    refine gd_getI dX9_isName_1 fl_9_162 rfl rfl ?_
    rw [t.2.2.2.2.1]
    refine gd_ic1 dX9_isName_4 ?_
    refine gd_icmp_ne_t 21 dX9_isName_5 (by decide) (by exact fun z => absurd ((nI_eq (by omega) (by omega)).mp z) (by omega)) ?_
    refine gd_ic0 dX9_isName_21 ?_
    refine gd_iret dX9_isName_22 rfl (by first | rfl | decide | exact nar_bi _ | assumption) ?_
    rfl
