
/-! sets by bits -/
theorem bset_lt (p : Nat → Bool) (n : Nat) : bset p n < 2 ^ n := by
  induction n with
  | zero => simp [bset]
  | succ n ih =>
    unfold bset
    rw [Nat.pow_succ]
    split <;> omega
theorem bset_bit (p : Nat → Bool) (n l : Nat) : (bset p n).testBit l = (decide (l < n) && p l) := by
  induction n with
  | zero => simp [bset]
  | succ n ih =>
    unfold bset
    by_cases hp : p n = true
    · rw [if_pos hp]
      by_cases hl : l = n
      · subst hl
        rw [Nat.add_comm, Nat.testBit_two_pow_add_eq, Nat.testBit_lt_two_pow (bset_lt p l)]
        simp [hp]
      · rcases Nat.lt_or_gt_of_ne hl with h | h
        · rw [Nat.add_comm, Nat.testBit_two_pow_add_gt h, ih]
          simp [h, Nat.lt_succ_of_lt h]
        · have : bset p n + 2 ^ n < 2 ^ l := by
            have h1 := bset_lt p n
            have h2 : 2 ^ (n + 1) ≤ 2 ^ l := Nat.pow_le_pow_right (by decide) h
            rw [Nat.pow_succ] at h2; omega
          rw [Nat.testBit_lt_two_pow this]
          simp; omega
    · rw [if_neg hp, Nat.add_zero, ih]
      by_cases hl : l = n
      · subst hl; simp [hp]
      · by_cases h : l < n
        · simp [h, Nat.lt_succ_of_lt h]
        · have : ¬ l < n + 1 := by omega
          simp [h, this]
theorem bset_congr {p q : Nat → Bool} {n : Nat} (h : ∀ l, l < n → p l = q l) : bset p n = bset q n := by
  induction n with
  | zero => rfl
  | succ n ih => unfold bset; rw [ih (fun l hl => h l (by omega)), h n (by omega)]
theorem sh31 {l : Nat} (hl : l < 31) : (nI l &&& 31 : Int32) = nI l := by
  have : ∀ l, l < 31 → (nI l &&& 31 : Int32) = nI l := by decide
  exact this l hl
theorem shr_nI {S l : Nat} (hS : S < 2 ^ 31) (hl : l < 31) : nI S >>> (nI l &&& 31) = nI (S / 2 ^ l) := by
  rw [sh31 hl]
  have : ∀ l, l < 31 → ((nI l).toBitVec.smod 32).toNat = l := by decide
  exact pk_shrN hS (nI l) l (this l hl)
theorem shl_nI {l : Nat} (hl : l < 31) : nI 1 <<< (nI l &&& 31) = nI (2 ^ l) := by
  have : ∀ l, l < 31 → nI 1 <<< (nI l &&& 31) = nI (2 ^ l) := by decide
  exact this l hl
theorem and1_nI (S : Nat) (hS : S < 2 ^ 31) : nI S &&& nI 1 = nI (S % 2) := by
  have := pk_andN (n := S) (m := nI 1) (by omega) 1 (by decide)
  exact this
theorem bit_nI {S l : Nat} (hS : S < 2 ^ 31) (hl : l < 31) : (nI S >>> (nI l &&& 31)) &&& nI 1 = bi (S.testBit l) := by
  rw [shr_nI hS hl, and1_nI _ (Nat.lt_of_le_of_lt (Nat.div_le_self _ _) hS)]
  rw [Nat.testBit_eq_decide_div_mod_eq]
  rcases Nat.mod_two_eq_zero_or_one (S / 2 ^ l) with e | e <;> rw [e] <;> rfl
theorem tn_bv {n : Nat} (h : n < 2 ^ 32) : (nI n).toBitVec = BitVec.ofNat 32 n := rfl
theorem or_nI {a b : Nat} : nI a ||| nI b = nI (a ||| b) := by
  apply Int32.toBitVec_inj.mp
  show BitVec.ofNat 32 a ||| BitVec.ofNat 32 b = BitVec.ofNat 32 (a ||| b)
  apply BitVec.eq_of_getLsbD_eq
  intro i hi
  simp [BitVec.getLsbD_ofNat, Nat.testBit_or, hi]
theorem and_nI {a b : Nat} : nI a &&& nI b = nI (a &&& b) := by
  apply Int32.toBitVec_inj.mp
  show BitVec.ofNat 32 a &&& BitVec.ofNat 32 b = BitVec.ofNat 32 (a &&& b)
  apply BitVec.eq_of_getLsbD_eq
  intro i hi
  simp [BitVec.getLsbD_ofNat, Nat.testBit_and, hi]
theorem xor_nI {a b : Nat} : nI a ^^^ nI b = nI (a ^^^ b) := by
  apply Int32.toBitVec_inj.mp
  show BitVec.ofNat 32 a ^^^ BitVec.ofNat 32 b = BitVec.ofNat 32 (a ^^^ b)
  apply BitVec.eq_of_getLsbD_eq
  intro i hi
  simp [BitVec.getLsbD_ofNat, Nat.testBit_xor, hi]
/-- a set takes one more -/
theorem bset_or {p : Nat → Bool} {n : Nat} (hp : p n = true) (hn : n < 31) : nI (bset p n) ||| (nI 1 <<< (nI n &&& 31)) = nI (bset p (n + 1)) := by
  rw [shl_nI hn, or_nI]
  congr 1
  show _ = bset p n + _
  rw [if_pos hp]
  apply Nat.eq_of_testBit_eq
  intro j
  have e : bset p n + 2 ^ n = bset p (n + 1) := by show _ = bset p n + _; rw [if_pos hp]
  rw [Nat.testBit_or, Nat.testBit_two_pow, e, bset_bit, bset_bit]
  by_cases h1 : j = n
  · subst h1; simp [hp]
  · by_cases h2 : j < n
    · have : j < n + 1 := by omega
      simp [h2, this]; omega
    · have : ¬ j < n + 1 := by omega
      simp [h2, this]; omega
theorem bset_no {p : Nat → Bool} {n : Nat} (hp : p n = false) : bset p (n + 1) = bset p n := by
  show bset p n + _ = _
  rw [hp]; simp
theorem lostS_lt {s : Nat → Nat → Int32} (w : WF s) : lostS s < 2 ^ 30 := Nat.lt_of_lt_of_le (bset_lt _ _) (Nat.pow_le_pow_right (by decide) w.n.2)
theorem lost_bit {s : Nat → Nat → Int32} {l : Nat} (hl : l < nN s) : (lostS s).testBit l = decide (s 4 (9 * l + 6) = nI 1) := by
  unfold lostS; rw [bset_bit]; simp [hl]

theorem c_isLost {h : Hp} {s : Nat → Nat → Int32} (w : WF s) (c : CR h 1 s) {l : Nat} (hl : l < nN s) : Gd mX1_isLost 0 [.ref 6, .int (nI l)] [] h (some (.int (bi (decide (s 4 (9 * l + 6) = nI 1)))), h) := by
  have l1 := w.n.2
  have l2 := lostS_lt w
  refine gd_ald0 dX1_isLost_0 (by decide) ?_
  refine gd_getI dX1_isLost_1 fl_1_36 rfl rfl ?_
  refine gd_ild1 dX1_isLost_4 ?_
  refine gd_ishr dX1_isLost_5 ?_
  refine gd_ic1 dX1_isLost_6 ?_
  refine gd_iand dX1_isLost_7 ?_
  rw [c.lo1, bit_nI (by omega) (by omega), lost_bit hl]
  refine gd_ic1 dX1_isLost_8 ?_
  refine gd_icmp_ne 16 dX1_isLost_9 (by decide) (fun c9 => ?_) (fun c9 => ?_)
  · refine gd_ic0 dX1_isLost_16 ?_
    refine gd_iret dX1_isLost_17 rfl (by first | rfl | decide | exact nar_bi _ | assumption) ?_
    rw [show decide (s 4 (9 * l + 6) = nI 1) = false from by
        cases hb : decide (s 4 (9 * l + 6) = nI 1)
        · rfl
        · rw [hb] at c9; exact absurd rfl c9]
    rfl
  · refine gd_ic1 dX1_isLost_12 ?_
    refine gd_goto 17 dX1_isLost_13 (by decide) ?_
    refine gd_iret dX1_isLost_17 rfl (by first | rfl | decide | exact nar_bi _ | assumption) ?_
    rw [show decide (s 4 (9 * l + 6) = nI 1) = true from by
        cases hb : decide (s 4 (9 * l + 6) = nI 1)
        · rw [hb] at c9; exact absurd c9 (by decide)
        · rfl]
    rfl
theorem bi_dt {p : Prop} {d : Decidable p} (hp : p) : bi (@decide p d) = nI 1 := by rw [decide_eq_true hp]; rfl
theorem bi_df {p : Prop} {d : Decidable p} (hp : ¬ p) : bi (@decide p d) = nI 0 := by rw [decide_eq_false hp]; rfl
set_option maxHeartbeats 1000000 in
theorem p_reread {h : Hp} (i : Inv h) (a b : Int32) : Pas mX8_reread mX9_reread [.ref 0, .int a, .int b, .null] [.ref 72, .int a, .int b, .null] h := by
  have lN := i.lN
  rcases rng a (nN (ms h)) (by omega) with ⟨l, hl, rfl⟩ | ha
  · rcases rng b (16) (by decide) with ⟨v, hv, rfl⟩ | hb
    · by_cases hn1 : ms h 4 (9 * l + 6) = nI 1
      · refine Pas.find (h1 := h) (h2 := hf (h) 4) (v := -1000000005) (w := (-1000000000 : Int32) - nI 5) 4 i (by decide) (by decide) (by decide) (Same.rf _) (Same.rf _) ?_ ?_
        · refine gd_ald0 dX8_reread_0 (by decide) ?_
          refine gd_ild1 dX8_reread_1 ?_
          refine gd_cV1i dX8_reread_2 ct_8_142 rc_0 ⟨Nat.le_of_ble_eq_true rfl, Nat.le_of_ble_eq_true rfl⟩ (Nat.le_of_ble_eq_true rfl) (Nat.le_of_ble_eq_true rfl) (c_isLetter_t i.w i.c hl) ?_
          refine gd_if_eq_f 17 dX8_reread_5 (by decide) (by decide) ?_
          refine gd_ild2 dX8_reread_8 ?_
          refine gd_bipush (v := nI 16) dX8_reread_9 (by decide) ?_
          refine gd_cS2i dX8_reread_11 ct_8_48 ⟨Nat.le_of_ble_eq_true rfl, Nat.le_of_ble_eq_true rfl⟩ (Nat.le_of_ble_eq_true rfl) (Nat.le_of_ble_eq_true rfl) (c_isBelow_t hv (by decide) _) ?_
          refine gd_if_ne_t 24 dX8_reread_14 (by decide) (by decide) ?_
          refine gd_ald0 dX8_reread_24 (by decide) ?_
          refine gd_getR (r := 1) dX8_reread_25 fl_8_12 rfl rfl rfl (by decide) ?_
          refine gd_getR (r := 6) dX8_reread_28 fl_8_100 rfl rfl rfl (by decide) ?_
          refine gd_ild1 dX8_reread_31 ?_
          refine gd_cV1i dX8_reread_32 ct_8_152 rc_6 ⟨Nat.le_of_ble_eq_true rfl, Nat.le_of_ble_eq_true rfl⟩ (Nat.le_of_ble_eq_true rfl) (Nat.le_of_ble_eq_true rfl) (c_isLost i.w i.c hl) ?_
          rw [bi_dt hn1]
          refine gd_if_eq_f 45 dX8_reread_35 (by decide) (by decide) ?_
          refine gd_ald0 dX8_reread_38 (by decide) ?_
          refine gd_ldc dX8_reread_39 ld_8_158 ?_
          refine gd_cV1i dX8_reread_41 ct_8_53 rc_0 ⟨Nat.le_of_ble_eq_true rfl, Nat.le_of_ble_eq_true rfl⟩ (Nat.le_of_ble_eq_true rfl) (Nat.le_of_ble_eq_true rfl) (c_f4 _) ?_
          refine gd_iret dX8_reread_44 rfl rfl ?_
          rfl
        · refine gd_ald0 dX9_reread_0 (by decide) ?_
          refine gd_ild1 dX9_reread_1 ?_
          refine gd_cV1i dX9_reread_2 ct_9_113 rc_72 ⟨Nat.le_of_ble_eq_true rfl, Nat.le_of_ble_eq_true rfl⟩ (Nat.le_of_ble_eq_true rfl) (Nat.le_of_ble_eq_true rfl) (m_isLetter_t (h := hf h 4) (by exact i.w) hl) ?_
          refine gd_if_eq_f 18 dX9_reread_5 (by decide) (by decide) ?_
          refine gd_ild2 dX9_reread_8 ?_
          refine gd_ic0 dX9_reread_9 ?_
          refine gd_bipush (v := nI 15) dX9_reread_10 (by decide) ?_
          refine gd_cS3i dX9_reread_12 ct_9_79 ⟨Nat.le_of_ble_eq_true rfl, Nat.le_of_ble_eq_true rfl⟩ (Nat.le_of_ble_eq_true rfl) (Nat.le_of_ble_eq_true rfl) (m_in_t (m := 15) (by omega) (by decide) _) ?_
          refine gd_if_ne_t 24 dX9_reread_15 (by decide) (by decide) ?_
          refine gd_ald0 dX9_reread_24 (by decide) ?_
          refine gd_ild1 dX9_reread_25 ?_
          refine gd_bipush (v := nI 6) dX9_reread_26 (by decide) ?_
          refine gd_cV2i dX9_reread_28 ct_9_120 rc_72 ⟨Nat.le_of_ble_eq_true rfl, Nat.le_of_ble_eq_true rfl⟩ (Nat.le_of_ble_eq_true rfl) (Nat.le_of_ble_eq_true rfl) (m_its (l := l) (w := 6) (by omega) (by decide) _) ?_
          refine gd_ic1 dX9_reread_31 ?_
          refine gd_icmp_ne_f 41 dX9_reread_32 (by decide) (by show  h.1 78 (9 * l + 6) = nI 1; rw [← ms_r4 (by omega)]; exact hn1) ?_
          refine gd_ald0 dX9_reread_35 (by decide) ?_
          refine gd_ic5 dX9_reread_36 ?_
          refine gd_cV1i dX9_reread_37 ct_9_97 rc_72 ⟨Nat.le_of_ble_eq_true rfl, Nat.le_of_ble_eq_true rfl⟩ (Nat.le_of_ble_eq_true rfl) (Nat.le_of_ble_eq_true rfl) (m_f4 _) ?_
          refine gd_iret dX9_reread_40 rfl rfl ?_
          rfl
      · refine ⟨.int (ms h 4 (9 * l + 2)), sI h 9 (upd (h.1 9) l (nI v)), sI (sI h 9 (upd (h.1 9) l (nI v))) 78 (upd (h.1 78) (9 * l + 2) (nI v)), ?_, ?_, ?_, rfl, rfl⟩
        · refine gd_ald0 dX8_reread_0 (by decide) ?_
          refine gd_ild1 dX8_reread_1 ?_
          refine gd_cV1i dX8_reread_2 ct_8_142 rc_0 ⟨Nat.le_of_ble_eq_true rfl, Nat.le_of_ble_eq_true rfl⟩ (Nat.le_of_ble_eq_true rfl) (Nat.le_of_ble_eq_true rfl) (c_isLetter_t i.w i.c hl) ?_
          refine gd_if_eq_f 17 dX8_reread_5 (by decide) (by decide) ?_
          refine gd_ild2 dX8_reread_8 ?_
          refine gd_bipush (v := nI 16) dX8_reread_9 (by decide) ?_
          refine gd_cS2i dX8_reread_11 ct_8_48 ⟨Nat.le_of_ble_eq_true rfl, Nat.le_of_ble_eq_true rfl⟩ (Nat.le_of_ble_eq_true rfl) (Nat.le_of_ble_eq_true rfl) (c_isBelow_t hv (by decide) _) ?_
          refine gd_if_ne_t 24 dX8_reread_14 (by decide) (by decide) ?_
          refine gd_ald0 dX8_reread_24 (by decide) ?_
          refine gd_getR (r := 1) dX8_reread_25 fl_8_12 rfl rfl rfl (by decide) ?_
          refine gd_getR (r := 6) dX8_reread_28 fl_8_100 rfl rfl rfl (by decide) ?_
          refine gd_ild1 dX8_reread_31 ?_
          refine gd_cV1i dX8_reread_32 ct_8_152 rc_6 ⟨Nat.le_of_ble_eq_true rfl, Nat.le_of_ble_eq_true rfl⟩ (Nat.le_of_ble_eq_true rfl) (Nat.le_of_ble_eq_true rfl) (c_isLost i.w i.c hl) ?_
          rw [bi_df hn1]
          refine gd_if_eq_t 45 dX8_reread_35 (by decide) (by decide) ?_
          refine gd_ald0 dX8_reread_45 (by decide) ?_
          refine gd_getR (r := 1) dX8_reread_46 fl_8_12 rfl rfl rfl (by decide) ?_
          refine gd_getR (r := 6) dX8_reread_49 fl_8_100 rfl rfl rfl (by decide) ?_
          refine gd_getR (r := 9) dX8_reread_52 fl_8_159 rfl rfl rfl (by decide) ?_
          refine gd_ild1 dX8_reread_55 ?_
          refine gd_iald (n := 30) dX8_reread_56 rfl (by decide) (by repeat' (first | with_reducible rfl | apply ni_add | apply ni_mul)) (by omega) ?_
          refine gd_ist3 dX8_reread_57 rfl ?_
          refine gd_ald0 dX8_reread_58 (by decide) ?_
          refine gd_getR (r := 1) dX8_reread_59 fl_8_12 rfl rfl rfl (by decide) ?_
          refine gd_getR (r := 6) dX8_reread_62 fl_8_100 rfl rfl rfl (by decide) ?_
          refine gd_getR (r := 9) dX8_reread_65 fl_8_159 rfl rfl rfl (by decide) ?_
          refine gd_ild1 dX8_reread_68 ?_
          refine gd_ild2 dX8_reread_69 ?_
          refine gd_iast (n := 30) dX8_reread_70 rfl (by decide) (by repeat' (first | with_reducible rfl | apply ni_add | apply ni_mul)) (by omega) ?_
          refine gd_ild3 dX8_reread_71 ?_
          refine gd_iret dX8_reread_72 rfl rfl ?_
          rw [i.c.lw1 l hl]
        · refine gd_ald0 dX9_reread_0 (by decide) ?_
          refine gd_ild1 dX9_reread_1 ?_
          refine gd_cV1i dX9_reread_2 ct_9_113 rc_72 ⟨Nat.le_of_ble_eq_true rfl, Nat.le_of_ble_eq_true rfl⟩ (Nat.le_of_ble_eq_true rfl) (Nat.le_of_ble_eq_true rfl) (m_isLetter_t (by exact i.w) hl) ?_
          refine gd_if_eq_f 18 dX9_reread_5 (by decide) (by decide) ?_
          refine gd_ild2 dX9_reread_8 ?_
          refine gd_ic0 dX9_reread_9 ?_
          refine gd_bipush (v := nI 15) dX9_reread_10 (by decide) ?_
          refine gd_cS3i dX9_reread_12 ct_9_79 ⟨Nat.le_of_ble_eq_true rfl, Nat.le_of_ble_eq_true rfl⟩ (Nat.le_of_ble_eq_true rfl) (Nat.le_of_ble_eq_true rfl) (m_in_t (m := 15) (by omega) (by decide) _) ?_
          refine gd_if_ne_t 24 dX9_reread_15 (by decide) (by decide) ?_
          refine gd_ald0 dX9_reread_24 (by decide) ?_
          refine gd_ild1 dX9_reread_25 ?_
          refine gd_bipush (v := nI 6) dX9_reread_26 (by decide) ?_
          refine gd_cV2i dX9_reread_28 ct_9_120 rc_72 ⟨Nat.le_of_ble_eq_true rfl, Nat.le_of_ble_eq_true rfl⟩ (Nat.le_of_ble_eq_true rfl) (Nat.le_of_ble_eq_true rfl) (m_its (l := l) (w := 6) (by omega) (by decide) _) ?_
          refine gd_ic1 dX9_reread_31 ?_
          refine gd_icmp_ne_t 41 dX9_reread_32 (by decide) (by show ¬ h.1 78 (9 * l + 6) = nI 1; rw [← ms_r4 (by omega)]; exact hn1) ?_
          refine gd_ald0 dX9_reread_41 (by decide) ?_
          refine gd_ild1 dX9_reread_42 ?_
          refine gd_ic2 dX9_reread_43 ?_
          refine gd_cV2i dX9_reread_44 ct_9_120 rc_72 ⟨Nat.le_of_ble_eq_true rfl, Nat.le_of_ble_eq_true rfl⟩ (Nat.le_of_ble_eq_true rfl) (Nat.le_of_ble_eq_true rfl) (m_its (l := l) (w := 2) (by omega) (by decide) _) ?_
          refine gd_ist3 dX9_reread_47 rfl ?_
          refine gd_ald0 dX9_reread_48 (by decide) ?_
          refine gd_getR (r := 78) dX9_reread_49 fl_9_25 rfl rfl rfl (by decide) ?_
          refine gd_bipush (v := nI 9) dX9_reread_52 (by decide) ?_
          refine gd_ild1 dX9_reread_54 ?_
          refine gd_imul dX9_reread_55 ?_
          refine gd_ic2 dX9_reread_56 ?_
          refine gd_iadd dX9_reread_57 ?_
          refine gd_ild2 dX9_reread_58 ?_
          refine gd_iast (n := 270) dX9_reread_59 rfl (by decide) (by repeat' (first | with_reducible rfl | apply ni_add | apply ni_mul)) (by omega) ?_
          refine gd_ild3 dX9_reread_60 ?_
          refine gd_iret dX9_reread_61 rfl rfl ?_
          rw [ms_r4 (by omega)]; rfl
        · have em : ms (sI (sI h 9 (upd (h.1 9) l (nI v))) 78 (upd (h.1 78) (9 * l + 2) (nI v))) = sR (ms h) 4 (trR 4 (upd (h.1 78) (9 * l + 2) (nI v))) := by
            rw [ms_set 4 (by decide), ms_si (Or.inl (by decide))]
          have lN := i.lN
          refine inv_world i (fun k hk => by rw [sI_n (by omega), sI_n (by omega)]) rfl ?_ ?_
          · rw [em]
            refine ⟨i.w.t, i.w.n, i.w.x, i.w.o, i.w.d, i.w.g, i.w.c, i.w.h, ?_, i.w.f, i.w.c6, i.w.r, i.w.k⟩
            · intro j hj
              have hj : j < nN (ms h) := hj
              obtain ⟨k, t, x, d, r, q, z, y, a1, a2, a3, a4, a5, a6, a7, a8, b⟩ := i.w.l j hj
              have key : ∀ f, f < 9 → f ≠ 2 → (sR (ms h) 4 (trR 4 (upd (h.1 78) (9 * l + 2) (nI v)))) 4 (9 * j + f) = ms h 4 (9 * j + f) := fun f h1 h2 => by
                show trR 4 (upd (h.1 78) (9 * l + 2) (nI v)) (9 * j + f) = _
                rw [trR_at (show 9 * j + f < 270 by omega), upd_at, if_neg (by omega), ms_r4 (by omega)]
              unfold LetOK
              rw [show (sR (ms h) 4 (trR 4 (upd (h.1 78) (9 * l + 2) (nI v)))) 4 (9 * j) = ms h 4 (9 * j) from key 0 (by decide) (by decide), key 1 (by decide) (by decide), key 3 (by decide) (by decide), key 4 (by decide) (by decide), key 5 (by decide) (by decide), key 6 (by decide) (by decide), key 7 (by decide) (by decide), key 8 (by decide) (by decide)]
              by_cases e : j = l
              · subst e
                refine ⟨k, t, v, d, r, q, z, y, a1, a2, ?_, a4, a5, a6, a7, a8, b.1, b.2.1, by omega, b.2.2.2⟩
                show trR 4 (upd (h.1 78) (9 * j + 2) (nI v)) (9 * j + 2) = _
                rw [trR_at (show 9 * j + 2 < 270 by omega), upd_at, if_pos rfl]
              · refine ⟨k, t, x, d, r, q, z, y, a1, a2, ?_, a4, a5, a6, a7, a8, b⟩
                show trR 4 (upd (h.1 78) (9 * l + 2) (nI v)) (9 * j + 2) = _
                rw [trR_at (show 9 * j + 2 < 270 by omega), upd_at, if_neg (by omega), ← ms_r4 (by omega)]
                exact a3
          · rw [em]
            refine ⟨i.c.t, i.c.d, i.c.n, i.c.x, i.c.o, i.c.g, i.c.c, i.c.h, i.c.h0, ?_, ?_, ?_, ?_, ?_, ?_, ?_, ?_, ?_, i.c.f, i.c.c6, i.c.rk, i.c.rl, i.c.rh, i.c.ks, i.c.km, i.c.kd⟩
            · intro j hj
              have hj : j < nN (ms h) := hj
              show h.1 7 j = trR 4 (upd (h.1 78) (9 * l + 2) (nI v)) (9 * j)
              rw [trR_at (show 9 * j < 270 by omega), upd_at, if_neg (by omega), ← ms_r4 (by omega)]
              exact i.c.lk1 j hj
            · intro j hj
              have hj : j < nN (ms h) := hj
              show h.1 8 j = trR 4 (upd (h.1 78) (9 * l + 2) (nI v)) (9 * j + 1)
              rw [trR_at (show 9 * j + 1 < 270 by omega), upd_at, if_neg (by omega), ← ms_r4 (by omega)]
              exact i.c.lt1 j hj
            · intro j hj
              have hj : j < nN (ms h) := hj
              show upd (h.1 9) l (nI v) j = trR 4 (upd (h.1 78) (9 * l + 2) (nI v)) (9 * j + 2)
              rw [trR_at (show 9 * j + 2 < 270 by omega), upd_at, upd_at]
              by_cases e : j = l
              · rw [if_pos e, if_pos (by omega)]
              · rw [if_neg e, if_neg (by omega), ← ms_r4 (by omega)]; exact i.c.lw1 j hj
            · intro j hj
              have hj : j < nN (ms h) := hj
              show h.1 10 j = trR 4 (upd (h.1 78) (9 * l + 2) (nI v)) (9 * j + 3)
              rw [trR_at (show 9 * j + 3 < 270 by omega), upd_at, if_neg (by omega), ← ms_r4 (by omega)]
              exact i.c.ld1 j hj
            · intro j hj
              have hj : j < nN (ms h) := hj
              show h.1 11 j = trR 4 (upd (h.1 78) (9 * l + 2) (nI v)) (9 * j + 4)
              rw [trR_at (show 9 * j + 4 < 270 by omega), upd_at, if_neg (by omega), ← ms_r4 (by omega)]
              exact i.c.lr1 j hj
            · intro j hj
              have hj : j < nN (ms h) := hj
              show h.1 12 j = trR 4 (upd (h.1 78) (9 * l + 2) (nI v)) (9 * j + 5)
              rw [trR_at (show 9 * j + 5 < 270 by omega), upd_at, if_neg (by omega), ← ms_r4 (by omega)]
              exact i.c.lq1 j hj
            · intro j hj
              have hj : j < nN (ms h) := hj
              show h.1 13 j = trR 4 (upd (h.1 78) (9 * l + 2) (nI v)) (9 * j + 7)
              rw [trR_at (show 9 * j + 7 < 270 by omega), upd_at, if_neg (by omega), ← ms_r4 (by omega)]
              exact i.c.lf1 j hj
            · intro j hj
              have hj : j < nN (ms h) := hj
              show h.1 14 j = trR 4 (upd (h.1 78) (9 * l + 2) (nI v)) (9 * j + 8)
              rw [trR_at (show 9 * j + 8 < 270 by omega), upd_at, if_neg (by omega), ← ms_r4 (by omega)]
              exact i.c.le1 j hj
            · show h.1 6 8 = nI (lostS ((sR (ms h) 4 (trR 4 (upd (h.1 78) (9 * l + 2) (nI v))))))
              rw [i.c.lo1]
              congr 1
              refine bset_congr (fun j hj => ?_)
              have hj : j < nN (ms h) := hj
              show _ = decide (trR 4 (upd (h.1 78) (9 * l + 2) (nI v)) (9 * j + 6) = nI 1)
              rw [trR_at (show 9 * j + 6 < 270 by omega), upd_at, if_neg (by omega), ← ms_r4 (by omega)]
    · refine Pas.find (h1 := h) (h2 := hf (h) 0) (v := -1000000001) (w := (-1000000000 : Int32) - nI 1) 0 i (by decide) (by decide) (by decide) (Same.rf _) (Same.rf _) ?_ ?_
      · refine gd_ald0 dX8_reread_0 (by decide) ?_
        refine gd_ild1 dX8_reread_1 ?_
        refine gd_cV1i dX8_reread_2 ct_8_142 rc_0 ⟨Nat.le_of_ble_eq_true rfl, Nat.le_of_ble_eq_true rfl⟩ (Nat.le_of_ble_eq_true rfl) (Nat.le_of_ble_eq_true rfl) (c_isLetter_t i.w i.c hl) ?_
        refine gd_if_eq_f 17 dX8_reread_5 (by decide) (by decide) ?_
        refine gd_ild2 dX8_reread_8 ?_
        refine gd_bipush (v := nI 16) dX8_reread_9 (by decide) ?_
        refine gd_cS2i dX8_reread_11 ct_8_48 ⟨Nat.le_of_ble_eq_true rfl, Nat.le_of_ble_eq_true rfl⟩ (Nat.le_of_ble_eq_true rfl) (Nat.le_of_ble_eq_true rfl) (c_isBelow_f hb _) ?_
        refine gd_if_ne_f 24 dX8_reread_14 (by decide) (by decide) ?_
        refine gd_ald0 dX8_reread_17 (by decide) ?_
        refine gd_ldc dX8_reread_18 ld_8_52 ?_
        refine gd_cV1i dX8_reread_20 ct_8_53 rc_0 ⟨Nat.le_of_ble_eq_true rfl, Nat.le_of_ble_eq_true rfl⟩ (Nat.le_of_ble_eq_true rfl) (Nat.le_of_ble_eq_true rfl) (c_f0 _) ?_
        refine gd_iret dX8_reread_23 rfl rfl ?_
        rfl
      · refine gd_ald0 dX9_reread_0 (by decide) ?_
        refine gd_ild1 dX9_reread_1 ?_
        refine gd_cV1i dX9_reread_2 ct_9_113 rc_72 ⟨Nat.le_of_ble_eq_true rfl, Nat.le_of_ble_eq_true rfl⟩ (Nat.le_of_ble_eq_true rfl) (Nat.le_of_ble_eq_true rfl) (m_isLetter_t (h := hf h 0) (by exact i.w) hl) ?_
        refine gd_if_eq_f 18 dX9_reread_5 (by decide) (by decide) ?_
        refine gd_ild2 dX9_reread_8 ?_
        refine gd_ic0 dX9_reread_9 ?_
        refine gd_bipush (v := nI 15) dX9_reread_10 (by decide) ?_
        refine gd_cS3i dX9_reread_12 ct_9_79 ⟨Nat.le_of_ble_eq_true rfl, Nat.le_of_ble_eq_true rfl⟩ (Nat.le_of_ble_eq_true rfl) (Nat.le_of_ble_eq_true rfl) (m_in_f (n := 16) (by decide) (by decide) hb _) ?_
        refine gd_if_ne_f 24 dX9_reread_15 (by decide) (by decide) ?_
        refine gd_ald0 dX9_reread_18 (by decide) ?_
        refine gd_ic1 dX9_reread_19 ?_
        refine gd_cV1i dX9_reread_20 ct_9_97 rc_72 ⟨Nat.le_of_ble_eq_true rfl, Nat.le_of_ble_eq_true rfl⟩ (Nat.le_of_ble_eq_true rfl) (Nat.le_of_ble_eq_true rfl) (m_f0 _) ?_
        refine gd_iret dX9_reread_23 rfl rfl ?_
        rfl
  · refine Pas.find (h1 := h) (h2 := hf (h) 0) (v := -1000000001) (w := (-1000000000 : Int32) - nI 1) 0 i (by decide) (by decide) (by decide) (Same.rf _) (Same.rf _) ?_ ?_
    · refine gd_ald0 dX8_reread_0 (by decide) ?_
      refine gd_ild1 dX8_reread_1 ?_
      refine gd_cV1i dX8_reread_2 ct_8_142 rc_0 ⟨Nat.le_of_ble_eq_true rfl, Nat.le_of_ble_eq_true rfl⟩ (Nat.le_of_ble_eq_true rfl) (Nat.le_of_ble_eq_true rfl) (c_isLetter_f i.w i.c ha) ?_
      refine gd_if_eq_t 17 dX8_reread_5 (by decide) (by decide) ?_
      refine gd_ald0 dX8_reread_17 (by decide) ?_
      refine gd_ldc dX8_reread_18 ld_8_52 ?_
      refine gd_cV1i dX8_reread_20 ct_8_53 rc_0 ⟨Nat.le_of_ble_eq_true rfl, Nat.le_of_ble_eq_true rfl⟩ (Nat.le_of_ble_eq_true rfl) (Nat.le_of_ble_eq_true rfl) (c_f0 _) ?_
      refine gd_iret dX8_reread_23 rfl rfl ?_
      rfl
    · refine gd_ald0 dX9_reread_0 (by decide) ?_
      refine gd_ild1 dX9_reread_1 ?_
      refine gd_cV1i dX9_reread_2 ct_9_113 rc_72 ⟨Nat.le_of_ble_eq_true rfl, Nat.le_of_ble_eq_true rfl⟩ (Nat.le_of_ble_eq_true rfl) (Nat.le_of_ble_eq_true rfl) (m_isLetter_f (h := hf h 0) (by exact i.w) ha) ?_
      refine gd_if_eq_t 18 dX9_reread_5 (by decide) (by decide) ?_
      refine gd_ald0 dX9_reread_18 (by decide) ?_
      refine gd_ic1 dX9_reread_19 ?_
      refine gd_cV1i dX9_reread_20 ct_9_97 rc_72 ⟨Nat.le_of_ble_eq_true rfl, Nat.le_of_ble_eq_true rfl⟩ (Nat.le_of_ble_eq_true rfl) (Nat.le_of_ble_eq_true rfl) (m_f0 _) ?_
      refine gd_iret dX9_reread_23 rfl rfl ?_
      rfl
