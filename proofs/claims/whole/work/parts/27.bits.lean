
/-! ===== how many bits are set ===== -/
def cntN (p : Nat → Bool) : Nat → Nat
  | 0 => 0
  | n + 1 => cntN p n + (if p n then 1 else 0)
theorem cntN_le (p : Nat → Bool) (n : Nat) : cntN p n ≤ n := by
  induction n with
  | zero => exact Nat.le_refl _
  | succ n ih => unfold cntN; split <;> omega
theorem cntN_congr {p q : Nat → Bool} {n : Nat} (h : ∀ k, k < n → p k = q k) : cntN p n = cntN q n := by
  induction n with
  | zero => rfl
  | succ n ih => unfold cntN; rw [ih (fun k hk => h k (by omega)), h n (by omega)]
theorem cntN_add (p : Nat → Bool) (m n : Nat) : cntN p (m + n) = cntN p m + cntN (fun i => p (m + i)) n := by
  induction n with
  | zero => rfl
  | succ n ih =>
    show cntN p (m + n) + (if p (m + n) then 1 else 0) = cntN p m + (cntN (fun i => p (m + i)) n + (if p (m + n) then 1 else 0))
    rw [ih]; omega
theorem and_lane {a b c k : Nat} (hb : b < 2 ^ 8) (hk : k < 2 ^ 8) : (2 ^ 8 * a + b) &&& (2 ^ 8 * c + k) = 2 ^ 8 * (a &&& c) + (b &&& k) := by
  have h3 : b &&& k < 2 ^ 8 := Nat.and_lt_two_pow _ hk
  apply Nat.eq_of_testBit_eq
  intro i
  rw [Nat.testBit_and, Nat.testBit_two_pow_mul_add _ hb, Nat.testBit_two_pow_mul_add _ hk, Nat.testBit_two_pow_mul_add _ h3]
  split
  · rw [Nat.testBit_and]
  · rw [Nat.testBit_and]
def l4 (a b c d : Nat) : Nat := 2 ^ 8 * (2 ^ 8 * (2 ^ 8 * d + c) + b) + a
theorem l4_and {a b c d m : Nat} (ha : a < 2 ^ 8) (hb : b < 2 ^ 8) (hc : c < 2 ^ 8) (hm : m < 2 ^ 8) : l4 a b c d &&& l4 m m m m = l4 (a &&& m) (b &&& m) (c &&& m) (d &&& m) := by
  unfold l4
  rw [and_lane ha hm, and_lane hb hm, and_lane hc hm]
def q1 (a : Nat) : Nat := a - (a / 2 &&& 85)
def q2 (a : Nat) : Nat := (q1 a &&& 51) + (q1 a / 4 &&& 51)
def q3 (a : Nat) : Nat := (q2 a + q2 a / 16) &&& 15
set_option maxRecDepth 100000 in
theorem q_ok : ∀ a, a < 256 → ((a / 2 &&& 85) = ((a / 2 + 128) &&& 85) ∧ (a / 2 &&& 85) ≤ a ∧ q1 a < 256 ∧ (q1 a / 4 &&& 51) = ((q1 a / 4 + 64) &&& 51) ∧ (q1 a / 4 &&& 51) = ((q1 a / 4 + 128) &&& 51) ∧ (q1 a / 4 &&& 51) = ((q1 a / 4 + 192) &&& 51) ∧ q2 a / 16 ≤ 4 ∧ q2 a % 16 ≤ 4 ∧ q3 a = cntN a.testBit 8) := by decide +kernel
set_option maxRecDepth 100000 in
theorem q_ok3 : ∀ a, a < 256 → ∀ t, t < 5 → (q2 a + (q2 a / 16 + 16 * t)) &&& 15 = q3 a := by decide +kernel
theorem l4_eq (n : Nat) (hn : n < 2 ^ 32) : n = l4 (n % 256) (n / 256 % 256) (n / 65536 % 256) (n / 16777216) := by unfold l4; omega
theorem l4_bits {a b c d : Nat} (ha : a < 256) (hb : b < 256) (hc : c < 256) (hd : d < 256) : cntN (l4 a b c d).testBit 32 = cntN a.testBit 8 + cntN b.testBit 8 + cntN c.testBit 8 + cntN d.testBit 8 := by
  have e : ∀ i, (l4 a b c d).testBit i = if i < 8 then a.testBit i else if i - 8 < 8 then b.testBit (i - 8) else if i - 8 - 8 < 8 then c.testBit (i - 8 - 8) else d.testBit (i - 8 - 8 - 8) := fun i => by
    unfold l4
    rw [Nat.testBit_two_pow_mul_add _ ha, Nat.testBit_two_pow_mul_add _ hb, Nat.testBit_two_pow_mul_add _ hc]
  rw [show 32 = 8 + (8 + (8 + 8)) from rfl, cntN_add, cntN_add, cntN_add]
  rw [cntN_congr (p := (l4 a b c d).testBit) (q := a.testBit) (fun k hk => by rw [e, if_pos hk])]
  rw [cntN_congr (p := fun i => (l4 a b c d).testBit (8 + i)) (q := b.testBit) (fun k hk => by rw [e, if_neg (by omega), if_pos (by omega), show 8 + k - 8 = k by omega])]
  rw [cntN_congr (p := fun i => (l4 a b c d).testBit (8 + (8 + i))) (q := c.testBit) (fun k hk => by rw [e, if_neg (by omega), if_neg (by omega), if_pos (by omega), show 8 + (8 + k) - 8 - 8 = k by omega])]
  rw [cntN_congr (p := fun i => (l4 a b c d).testBit (8 + (8 + (8 + i)))) (q := d.testBit) (fun k hk => by rw [e, if_neg (by omega), if_neg (by omega), if_neg (by omega), show 8 + (8 + (8 + k)) - 8 - 8 - 8 = k by omega])]
  omega
/-- the sum by halves -/
def bcN (n : Nat) : Nat :=
  let x1 := n - (n / 2 &&& 1431655765)
  let x2 := (x1 &&& 858993459) + (x1 / 4 &&& 858993459)
  let x3 := (x2 + x2 / 16) &&& 252645135
  let x4 := x3 + x3 / 256
  let x5 := x4 + x4 / 65536
  x5 % 64
theorem fold4 {A B C E : Nat} (hA : A ≤ 8) (hB : B ≤ 8) (hC : C ≤ 8) (hE : E ≤ 8) : (l4 A B C E + l4 A B C E / 256 + (l4 A B C E + l4 A B C E / 256) / 65536) % 64 = A + B + C + E := by
  have e1 : l4 A B C E = 16777216 * E + 65536 * C + 256 * B + A := by unfold l4; omega
  have e2 : l4 A B C E / 256 = 65536 * E + 256 * C + B := by omega
  have e3 : (l4 A B C E + l4 A B C E / 256) / 65536 = 256 * E + (C + E) := by omega
  rw [e3, e2, e1]; omega
theorem bcN_eq {n : Nat} (hn : n < 2 ^ 32) : bcN n = cntN n.testBit 32 ∧ (n / 2 &&& 1431655765) ≤ n ∧ ((n - (n / 2 &&& 1431655765)) &&& 858993459) + ((n - (n / 2 &&& 1431655765)) / 4 &&& 858993459) < 2 ^ 31 := by
  obtain ⟨a, b, c, d, ha, hb, hc, hd, e⟩ : ∃ a b c d, a < 256 ∧ b < 256 ∧ c < 256 ∧ d < 256 ∧ n = l4 a b c d := ⟨n % 256, n / 256 % 256, n / 65536 % 256, n / 16777216, by omega, by omega, by omega, by omega, l4_eq n hn⟩
  have qa := q_ok a ha; have qb := q_ok b hb; have qc := q_ok c hc; have qd := q_ok d hd
  subst e
  have s1 : l4 a b c d / 2 = l4 (a / 2 + 128 * (b % 2)) (b / 2 + 128 * (c % 2)) (c / 2 + 128 * (d % 2)) (d / 2) := by unfold l4; omega
  have t1 : ∀ a, a < 256 → ∀ t, t < 2 → (a / 2 + 128 * t) &&& 85 = a / 2 &&& 85 := fun a ha t ht => by
    rcases (show t = 0 ∨ t = 1 by omega) with rfl | rfl
    · rfl
    · exact (q_ok a ha).1.symm
  have m1 : l4 a b c d / 2 &&& 1431655765 = l4 (a / 2 &&& 85) (b / 2 &&& 85) (c / 2 &&& 85) (d / 2 &&& 85) := by
    rw [s1, show 1431655765 = l4 85 85 85 85 from rfl, l4_and (by omega) (by omega) (by omega) (by decide), t1 a ha _ (by omega), t1 b hb _ (by omega), t1 c hc _ (by omega)]
  have x1 : l4 a b c d - (l4 a b c d / 2 &&& 1431655765) = l4 (q1 a) (q1 b) (q1 c) (q1 d) := by rw [m1]; unfold l4 q1; omega
  have s2 : l4 (q1 a) (q1 b) (q1 c) (q1 d) / 4 = l4 (q1 a / 4 + 64 * (q1 b % 4)) (q1 b / 4 + 64 * (q1 c % 4)) (q1 c / 4 + 64 * (q1 d % 4)) (q1 d / 4) := by unfold l4; omega
  have t2 : ∀ a, a < 256 → ∀ t, t < 4 → (q1 a / 4 + 64 * t) &&& 51 = q1 a / 4 &&& 51 := fun a ha t ht => by
    rcases (show t = 0 ∨ t = 1 ∨ t = 2 ∨ t = 3 by omega) with rfl | rfl | rfl | rfl
    · rfl
    · exact (q_ok a ha).2.2.2.1.symm
    · exact (q_ok a ha).2.2.2.2.1.symm
    · exact (q_ok a ha).2.2.2.2.2.1.symm
  have x2 : (l4 (q1 a) (q1 b) (q1 c) (q1 d) &&& 858993459) + (l4 (q1 a) (q1 b) (q1 c) (q1 d) / 4 &&& 858993459) = l4 (q2 a) (q2 b) (q2 c) (q2 d) := by
    rw [s2, show 858993459 = l4 51 51 51 51 from rfl, l4_and (by omega) (by omega) (by omega) (by decide), l4_and (by omega) (by omega) (by omega) (by decide), t2 a ha _ (by omega), t2 b hb _ (by omega), t2 c hc _ (by omega)]
    unfold l4 q2; omega
  have x3 : (l4 (q2 a) (q2 b) (q2 c) (q2 d) + l4 (q2 a) (q2 b) (q2 c) (q2 d) / 16) &&& 252645135 = l4 (q3 a) (q3 b) (q3 c) (q3 d) := by
    rw [show l4 (q2 a) (q2 b) (q2 c) (q2 d) + l4 (q2 a) (q2 b) (q2 c) (q2 d) / 16 = l4 (q2 a + (q2 a / 16 + 16 * (q2 b % 16))) (q2 b + (q2 b / 16 + 16 * (q2 c % 16))) (q2 c + (q2 c / 16 + 16 * (q2 d % 16))) (q2 d + q2 d / 16) by unfold l4; omega]
    rw [show 252645135 = l4 15 15 15 15 from rfl, l4_and (by omega) (by omega) (by omega) (by decide), q_ok3 a ha _ (by omega), q_ok3 b hb _ (by omega), q_ok3 c hc _ (by omega)]
    rfl
  have ca := cntN_le a.testBit 8; have cb := cntN_le b.testBit 8; have cc := cntN_le c.testBit 8; have cd := cntN_le d.testBit 8
  refine ⟨?_, ?_, ?_⟩
  · unfold bcN
    simp only [x1, x2, x3]
    rw [qa.2.2.2.2.2.2.2.2, qb.2.2.2.2.2.2.2.2, qc.2.2.2.2.2.2.2.2, qd.2.2.2.2.2.2.2.2, l4_bits ha hb hc hd]
    exact fold4 ca cb cc cd
  · rw [m1]; unfold l4; omega
  · rw [x1, x2]; unfold l4; omega
theorem ush {n k : Nat} (hn : n < 2 ^ 32) (hk : k < 32) : ((nI n).toUInt32 >>> ((nI k).toUInt32 &&& Int32.toUInt32 31)).toInt32 = nI (n / 2 ^ k) := by
  have : ∀ k, k < 32 → (((nI k).toUInt32 &&& Int32.toUInt32 31).toBitVec % 32).toNat = k := by decide
  exact pk_ushrN hn (nI k) k (this k hk)

theorem j_bitCount {n : Nat} (hn : n < 2 ^ 31) (h : Hp) : Gd mJ6_bitCount_0f7a4 0 [.int (nI n)] [] h (some (.int (nI (cntN n.testBit 32))), h) := by
  obtain ⟨b1, b2, b3⟩ := bcN_eq (n := n) (by omega)
  rw [← b1]
  have lt : ∀ x m : Nat, x &&& m ≤ m := fun x m => Nat.and_le_right
  refine gd_ild0 dJ6_bitCount_0f7a4_0 ?_
  refine gd_ild0 dJ6_bitCount_0f7a4_1 ?_
  refine gd_ic1 dJ6_bitCount_0f7a4_2 ?_
  refine gd_iushr dJ6_bitCount_0f7a4_3 ?_
  rw [ush (by omega) (by decide)]
  refine gd_ldcw dJ6_bitCount_0f7a4_4 ld_15_265 ?_
  refine gd_iand dJ6_bitCount_0f7a4_7 ?_
  rw [and_nI]
  refine gd_isub dJ6_bitCount_0f7a4_8 ?_
  rw [pk_sub b2]
  generalize hx1 : n - (n / 2 ^ 1 &&& 1431655765) = x1
  refine gd_ist0 dJ6_bitCount_0f7a4_9 trivial ?_
  refine gd_ild0 dJ6_bitCount_0f7a4_10 ?_
  refine gd_ldcw dJ6_bitCount_0f7a4_11 ld_15_266 ?_
  refine gd_iand dJ6_bitCount_0f7a4_14 ?_
  rw [and_nI]
  refine gd_ild0 dJ6_bitCount_0f7a4_15 ?_
  refine gd_ic2 dJ6_bitCount_0f7a4_16 ?_
  refine gd_iushr dJ6_bitCount_0f7a4_17 ?_
  rw [ush (by have : n - (n / 2 &&& 1431655765) = x1 := hx1; omega) (by decide)]
  refine gd_ldcw dJ6_bitCount_0f7a4_18 ld_15_266 ?_
  refine gd_iand dJ6_bitCount_0f7a4_21 ?_
  rw [and_nI]
  refine gd_iadd dJ6_bitCount_0f7a4_22 ?_
  rw [nI_add]
  have b4 : (x1 &&& 858993459) + (x1 / 2 ^ 2 &&& 858993459) < 2 ^ 31 := by rw [← hx1]; exact b3
  generalize hx2 : (x1 &&& 858993459) + (x1 / 2 ^ 2 &&& 858993459) = x2 at b4
  refine gd_ist0 dJ6_bitCount_0f7a4_23 trivial ?_
  refine gd_ild0 dJ6_bitCount_0f7a4_24 ?_
  refine gd_ild0 dJ6_bitCount_0f7a4_25 ?_
  refine gd_ic4 dJ6_bitCount_0f7a4_26 ?_
  refine gd_iushr dJ6_bitCount_0f7a4_27 ?_
  rw [ush (by omega) (by decide)]
  refine gd_iadd dJ6_bitCount_0f7a4_28 ?_
  rw [nI_add]
  refine gd_ldcw dJ6_bitCount_0f7a4_29 ld_15_267 ?_
  refine gd_iand dJ6_bitCount_0f7a4_32 ?_
  rw [and_nI]
  have b5 : (x2 + x2 / 2 ^ 4) &&& 252645135 ≤ 252645135 := Nat.and_le_right
  generalize hx3 : (x2 + x2 / 2 ^ 4) &&& 252645135 = x3 at b5
  refine gd_ist0 dJ6_bitCount_0f7a4_33 trivial ?_
  refine gd_ild0 dJ6_bitCount_0f7a4_34 ?_
  refine gd_ild0 dJ6_bitCount_0f7a4_35 ?_
  refine gd_bipush (v := nI 8) dJ6_bitCount_0f7a4_36 (by decide) ?_
  refine gd_iushr dJ6_bitCount_0f7a4_38 ?_
  rw [ush (by omega) (by decide)]
  refine gd_iadd dJ6_bitCount_0f7a4_39 ?_
  rw [nI_add]
  generalize hx4 : x3 + x3 / 2 ^ 8 = x4
  refine gd_ist0 dJ6_bitCount_0f7a4_40 trivial ?_
  refine gd_ild0 dJ6_bitCount_0f7a4_41 ?_
  refine gd_ild0 dJ6_bitCount_0f7a4_42 ?_
  refine gd_bipush (v := nI 16) dJ6_bitCount_0f7a4_43 (by decide) ?_
  refine gd_iushr dJ6_bitCount_0f7a4_45 ?_
  rw [ush (by omega) (by decide)]
  refine gd_iadd dJ6_bitCount_0f7a4_46 ?_
  rw [nI_add]
  refine gd_ist0 dJ6_bitCount_0f7a4_47 trivial ?_
  refine gd_ild0 dJ6_bitCount_0f7a4_48 ?_
  refine gd_bipush (v := nI 63) dJ6_bitCount_0f7a4_49 (by decide) ?_
  refine gd_iand dJ6_bitCount_0f7a4_51 ?_
  rw [pk_andN (n := x4 + x4 / 2 ^ 16) (m := nI 63) (by omega) 6 (by decide)]
  refine gd_iret dJ6_bitCount_0f7a4_52 rfl rfl ?_
  unfold bcN
  subst hx4 hx3 hx2 hx1
  rfl
