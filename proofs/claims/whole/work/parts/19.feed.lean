
def byO (a : Int32) (k : Nat) : Int32 := (a >>> (nI 8 * nI k &&& 31)) &&& nI 255
def apF (f : Nat → Int32) (a : Int32) (p : Nat) : Nat → (Nat → Int32)
  | 0 => f
  | k + 1 => apF (upd f p (byO a k)) a (p + 1) k
theorem apF_eq {f g : Nat → Int32} {a : Int32} {p k : Nat} (e : ∀ j, j < p → f j = g j) : ∀ j, j < p + k → apF f a p k j = apF g a p k j := by
  induction k generalizing f g p with
  | zero => exact e
  | succ k ih =>
    intro j hj
    refine ih (p := p + 1) (fun j hj => ?_) j (by omega)
    rw [upd_at, upd_at]
    split
    · rfl
    · exact e j (by omega)
theorem byO_lt (a : Int32) (k : Nat) : ∃ v, v < 256 ∧ byO a k = nI v := by
  obtain ⟨j, h1, h2⟩ := pk_andE (a >>> (nI 8 * nI k &&& 31)) (m := nI 255) 8 (by decide)
  exact ⟨j, h1, h2⟩
theorem apF_lt {f : Nat → Int32} {a : Int32} {p k : Nat} (e : ∀ j, j < p → ∃ v, v < 256 ∧ f j = nI v) : ∀ j, j < p + k → ∃ v, v < 256 ∧ apF f a p k j = nI v := by
  induction k generalizing f p with
  | zero => exact e
  | succ k ih =>
    intro j hj
    refine ih (p := p + 1) (fun j hj => ?_) j (by omega)
    rw [upd_at]
    split
    · exact byO_lt a k
    · exact e j (by omega)
theorem upd_upd (f : Nat → Int32) (k : Nat) (v w : Int32) : upd (upd f k v) k w = upd f k w := by
  funext j; rw [upd_at, upd_at, upd_at]; split <;> rfl
theorem nI_m1 (k : Nat) : nI k + (-1) = nI k - nI 1 := by
  rw [Int32.sub_eq_add_neg]; rfl

def apcH (h : Hp) (a : Int32) (p k : Nat) : Hp := sI (sI h 52 (apF (h.1 52) a p k)) 51 (upd (h.1 51) 1 (nI (p + k)))
theorem apcH_s (h : Hp) (a : Int32) (p k : Nat) : apcH (sI (sI h 52 (upd (h.1 52) p (byO a k))) 51 (upd ((sI h 52 (upd (h.1 52) p (byO a k))).1 51) 1 (nI p + nI 1))) a (p + 1) k = apcH h a p (k + 1) := by
  unfold apcH
  simp only [sI_at, Nat.reduceEqDiff, reduceIte]
  rw [sI_cm (k := 51) (j := 52) (by decide), sI_sI, sI_sI, upd_upd, show p + 1 + k = p + (k + 1) by omega]
  rfl
theorem lp_apc {a n : Int32} : ∀ (k p : Nat) (h : Hp), h.1 51 1 = nI p → p + k ≤ 120 → Gd mX5_append 4 [.ref 51, .int a, .int n, .int (nI k - nI 1)] [] h (none, apcH h a p k)
  | 0, p, h, e, hp => by
    refine gd_ild3 dX5_append_4 ?_
    refine gd_if_lt_t 43 dX5_append_5 (by decide) (by decide) ?_
    refine gd_vret dX5_append_43 rfl ?_
    unfold apcH; rw [show apF (h.1 52) a p 0 = h.1 52 from rfl, sI_id, Nat.add_zero, upd_same e, sI_id]
  | k + 1, p, h, e, hp => by
    rw [show nI (k + 1) - nI 1 = nI k from pk_sub (a := k + 1) (b := 1) (by omega)]
    refine gd_ild3 dX5_append_4 ?_
    refine gd_if_lt_f 43 dX5_append_5 (by decide) (nI_pos (by omega)) ?_
    refine gd_ald0 dX5_append_8 (by decide) ?_
    refine gd_getR (r := 52) dX5_append_9 fl_5_9 rfl rfl rfl (by decide) ?_
    refine gd_ald0 dX5_append_12 (by decide) ?_
    refine gd_getI dX5_append_13 fl_5_15 rfl rfl ?_
    rw [e]
    refine gd_ild1 dX5_append_16 ?_
    refine gd_bipush (v := nI 8) dX5_append_17 (by decide) ?_
    refine gd_ild3 dX5_append_19 ?_
    refine gd_imul dX5_append_20 ?_
    refine gd_ishr dX5_append_21 ?_
    refine gd_sipush (v := nI 255) dX5_append_22 (by decide) ?_
    refine gd_iand dX5_append_25 ?_
    rw [show (a >>> (nI 8 * nI k &&& 31)) &&& nI 255 = byO a k from rfl]
    refine gd_iast (n := 120) dX5_append_26 rfl (by decide) (by repeat' (first | with_reducible rfl | apply ni_add | apply ni_mul)) (by omega) ?_
    refine gd_ald0 dX5_append_27 (by decide) ?_
    refine gd_dupr (by decide) dX5_append_28 ?_
    refine gd_getI dX5_append_29 fl_5_15 rfl rfl ?_
    rw [show (sI h 52 (upd (h.1 52) p (byO a k))).1 51 1 = nI p from e]
    refine gd_ic1 dX5_append_32 ?_
    refine gd_iadd dX5_append_33 ?_
    refine gd_putI dX5_append_34 fl_5_15 rfl rfl (fun _ _ _ e => by cases e; rfl) ?_
    refine gd_iinc3 (b := -1) dX5_append_37 (by decide) rfl ?_
    rw [nI_m1]
    refine gd_goto 4 dX5_append_40 (by decide) ?_
    refine gd_eq ?_ (lp_apc k (p + 1) _ (by show nI p + nI 1 = nI (p + 1); exact nI_add p 1) (by omega))
    rw [apcH_s]
def apmH (h : Hp) (a : Int32) (p k : Nat) : Hp := sI (sI h 85 (apF (h.1 85) a p k)) 72 (upd (h.1 72) 14 (nI (p + k)))
theorem apmH_s (h : Hp) (a : Int32) (p k : Nat) : apmH (sI (sI h 85 (upd (h.1 85) p (byO a k))) 72 (upd ((sI h 85 (upd (h.1 85) p (byO a k))).1 72) 14 (nI p + nI 1))) a (p + 1) k = apmH h a p (k + 1) := by
  unfold apmH
  simp only [sI_at, Nat.reduceEqDiff, reduceIte]
  rw [sI_cm (k := 72) (j := 85) (by decide), sI_sI, sI_sI, upd_upd, show p + 1 + k = p + (k + 1) by omega]
  rfl
theorem lp_apm {a n : Int32} : ∀ (k p : Nat) (h : Hp), h.1 72 14 = nI p → p + k ≤ 120 → Gd mX9_feed 36 [.ref 72, .int a, .int n, .int (nI k - nI 1)] [] h (some (.int (nI (p + k))), apmH h a p k)
  | 0, p, h, e, hp => by
    refine gd_ild3 dX9_feed_36 ?_
    refine gd_if_lt_t 75 dX9_feed_37 (by decide) (by decide) ?_
    refine gd_ald0 dX9_feed_75 (by decide) ?_
    refine gd_getI dX9_feed_76 fl_9_149 rfl rfl ?_
    rw [e]
    refine gd_iret dX9_feed_79 rfl rfl ?_
    unfold apmH; rw [show apF (h.1 85) a p 0 = h.1 85 from rfl, sI_id, Nat.add_zero, upd_same e, sI_id]
  | k + 1, p, h, e, hp => by
    rw [show nI (k + 1) - nI 1 = nI k from pk_sub (a := k + 1) (b := 1) (by omega)]
    refine gd_ild3 dX9_feed_36 ?_
    refine gd_if_lt_f 75 dX9_feed_37 (by decide) (nI_pos (by omega)) ?_
    refine gd_ald0 dX9_feed_40 (by decide) ?_
    refine gd_getR (r := 85) dX9_feed_41 fl_9_47 rfl rfl rfl (by decide) ?_
    refine gd_ald0 dX9_feed_44 (by decide) ?_
    refine gd_getI dX9_feed_45 fl_9_149 rfl rfl ?_
    rw [e]
    refine gd_ild1 dX9_feed_48 ?_
    refine gd_bipush (v := nI 8) dX9_feed_49 (by decide) ?_
    refine gd_ild3 dX9_feed_51 ?_
    refine gd_imul dX9_feed_52 ?_
    refine gd_ishr dX9_feed_53 ?_
    refine gd_sipush (v := nI 255) dX9_feed_54 (by decide) ?_
    refine gd_iand dX9_feed_57 ?_
    rw [show (a >>> (nI 8 * nI k &&& 31)) &&& nI 255 = byO a k from rfl]
    refine gd_iast (n := 120) dX9_feed_58 rfl (by decide) (by repeat' (first | with_reducible rfl | apply ni_add | apply ni_mul)) (by omega) ?_
    refine gd_ald0 dX9_feed_59 (by decide) ?_
    refine gd_dupr (by decide) dX9_feed_60 ?_
    refine gd_getI dX9_feed_61 fl_9_149 rfl rfl ?_
    rw [show (sI h 85 (upd (h.1 85) p (byO a k))).1 72 14 = nI p from e]
    refine gd_ic1 dX9_feed_64 ?_
    refine gd_iadd dX9_feed_65 ?_
    refine gd_putI dX9_feed_66 fl_9_149 rfl rfl (fun _ _ _ e => by cases e; rfl) ?_
    refine gd_iinc3 (b := -1) dX9_feed_69 (by decide) rfl ?_
    rw [nI_m1]
    refine gd_goto 36 dX9_feed_72 (by decide) ?_
    refine gd_eq ?_ (lp_apm k (p + 1) _ (by show nI p + nI 1 = nI (p + 1); exact nI_add p 1) (by omega))
    rw [apmH_s, show p + 1 + k = p + (k + 1) by omega]
theorem c_append {h : Hp} {a : Int32} {n p : Nat} (e : h.1 51 1 = nI p) (hp : p + n ≤ 120) : Gd mX5_append 0 [.ref 51, .int a, .int (nI n), .null] [] h (none, apcH h a p n) := by
  refine gd_ild2 dX5_append_0 ?_
  refine gd_ic1 dX5_append_1 ?_
  refine gd_isub dX5_append_2 ?_
  refine gd_ist3 dX5_append_3 rfl ?_
  exact lp_apc n p h e hp
set_option maxHeartbeats 1000000 in
theorem p_feed {h : Hp} (i : Inv h) (a b : Int32) : Pas mX8_feed mX9_feed [.ref 0, .int a, .int b] [.ref 72, .int a, .int b, .null] h := by
  have lp := i.p.n.2.2
  rcases rng1 b 4 (by decide) with ⟨n, t1, t2, rfl⟩ | ⟨ha, hb⟩
  · by_cases hd : tn (h.1 72 14) + n ≤ 120
    · refine ⟨.int (nI (tn (h.1 72 14) + n)), apcH h a (tn (h.1 72 14)) n, apmH (apcH h a (tn (h.1 72 14)) n) a (tn (h.1 72 14)) n, ?_, ?_, ?_, rfl, rfl⟩
      · refine gd_ild2 dX8_feed_0 ?_
        refine gd_ic1 dX8_feed_1 ?_
        refine gd_icmp_lt_f 10 dX8_feed_2 (by decide) (by exact nI_nlt (by omega) (by omega)) ?_
        refine gd_ild2 dX8_feed_5 ?_
        refine gd_ic4 dX8_feed_6 ?_
        refine gd_icmp_le_t 17 dX8_feed_7 (by decide) (by exact nI_le (by omega) (by omega)) ?_
        refine gd_ald0 dX8_feed_17 (by decide) ?_
        refine gd_getR (r := 51) dX8_feed_18 fl_8_26 rfl rfl rfl (by decide) ?_
        refine gd_getI dX8_feed_21 fl_8_181 rfl rfl ?_
        refine gd_ild2 dX8_feed_24 ?_
        refine gd_iadd dX8_feed_25 ?_
        rw [i.p.n.1, nI_add]
        refine gd_bipush (v := nI 120) dX8_feed_26 (by decide) ?_
        refine gd_icmp_le_t 38 dX8_feed_28 (by decide) (by exact nI_le (by omega) (by omega)) ?_
        refine gd_ald0 dX8_feed_38 (by decide) ?_
        refine gd_getR (r := 51) dX8_feed_39 fl_8_26 rfl rfl rfl (by decide) ?_
        refine gd_ild1 dX8_feed_42 ?_
        refine gd_ild2 dX8_feed_43 ?_
        refine gd_cV2v dX8_feed_44 ct_8_184 rc_51 ⟨Nat.le_of_ble_eq_true rfl, Nat.le_of_ble_eq_true rfl⟩ (Nat.le_of_ble_eq_true rfl) (Nat.le_of_ble_eq_true rfl) (c_append i.p.n.1 (by omega)) ?_
        refine gd_ald0 dX8_feed_47 (by decide) ?_
        refine gd_getR (r := 51) dX8_feed_48 fl_8_26 rfl rfl rfl (by decide) ?_
        refine gd_getI dX8_feed_51 fl_8_181 rfl rfl ?_
        rw [show (apcH h a (tn (h.1 72 14)) n).1 51 1 = nI (tn (h.1 72 14) + n) from rfl]
        refine gd_iret dX8_feed_54 rfl rfl ?_
        rfl
      · refine gd_ild2 dX9_feed_0 ?_
        refine gd_ic1 dX9_feed_1 ?_
        refine gd_ic4 dX9_feed_2 ?_
        refine gd_cS3i dX9_feed_3 ct_9_79 ⟨Nat.le_of_ble_eq_true rfl, Nat.le_of_ble_eq_true rfl⟩ (Nat.le_of_ble_eq_true rfl) (Nat.le_of_ble_eq_true rfl) (m_in_1 (m := 4) (by omega) (by omega) (by decide) _) ?_
        refine gd_if_ne_t 15 dX9_feed_6 (by decide) (by decide) ?_
        refine gd_ald0 dX9_feed_15 (by decide) ?_
        refine gd_getI dX9_feed_16 fl_9_149 rfl rfl ?_
        refine gd_ild2 dX9_feed_19 ?_
        refine gd_iadd dX9_feed_20 ?_
        rw [show (apcH h a (tn (h.1 72 14)) n).1 72 14 + nI n = nI (tn (h.1 72 14) + n) by rw [← nI_add, ← i.p.n.2.1]; rfl]
        refine gd_bipush (v := nI 120) dX9_feed_21 (by decide) ?_
        refine gd_icmp_le_t 32 dX9_feed_23 (by decide) (by exact nI_le (by omega) (by omega)) ?_
        refine gd_ild2 dX9_feed_32 ?_
        refine gd_ic1 dX9_feed_33 ?_
        refine gd_isub dX9_feed_34 ?_
        refine gd_ist3 dX9_feed_35 rfl ?_
        exact lp_apm n (tn (h.1 72 14)) _ i.p.n.2.1 (by omega)
      · have e14 : tn ((apmH (apcH h a (tn (h.1 72 14)) n) a (tn (h.1 72 14)) n).1 72 14) = tn (h.1 72 14) + n := tn_nI (by omega)
        refine inv_rest i (fun k hk => ?_) (Or.inl ⟨rfl, rfl⟩) ⟨⟨?_, ?_, ?_⟩, ?_⟩ i.s rfl
        · unfold apmH apcH
          rw [sI_n (by omega), sI_n (by omega), sI_n (by omega), sI_n (by omega)]
        · rw [e14]; rfl
        · rw [e14]; rfl
        · rw [e14]; exact hd
        · rw [e14]
          intro j hj
          refine ⟨?_, ?_⟩
          · show apF (h.1 52) a _ n j = apF (h.1 85) a _ n j
            exact apF_eq (fun j hj => (i.p.b j hj).1) j hj
          · show ∃ v, v < 256 ∧ apF (h.1 85) a _ n j = nI v
            exact apF_lt (fun j hj => (i.p.b j hj).2) j hj
    · refine Pas.find (h1 := h) (h2 := hf (h) 1) (v := -1000000002) (w := (-1000000000 : Int32) - nI 2) 1 i (by decide) (by decide) (by decide) (Same.rf _) (Same.rf _) ?_ ?_
      · refine gd_ild2 dX8_feed_0 ?_
        refine gd_ic1 dX8_feed_1 ?_
        refine gd_icmp_lt_f 10 dX8_feed_2 (by decide) (by exact nI_nlt (by omega) (by omega)) ?_
        refine gd_ild2 dX8_feed_5 ?_
        refine gd_ic4 dX8_feed_6 ?_
        refine gd_icmp_le_t 17 dX8_feed_7 (by decide) (by exact nI_le (by omega) (by omega)) ?_
        refine gd_ald0 dX8_feed_17 (by decide) ?_
        refine gd_getR (r := 51) dX8_feed_18 fl_8_26 rfl rfl rfl (by decide) ?_
        refine gd_getI dX8_feed_21 fl_8_181 rfl rfl ?_
        refine gd_ild2 dX8_feed_24 ?_
        refine gd_iadd dX8_feed_25 ?_
        rw [i.p.n.1, nI_add]
        refine gd_bipush (v := nI 120) dX8_feed_26 (by decide) ?_
        refine gd_icmp_le_f 38 dX8_feed_28 (by decide) (by exact nI_ge (by omega) (by omega)) ?_
        refine gd_ald0 dX8_feed_31 (by decide) ?_
        refine gd_ldc dX8_feed_32 ld_8_70 ?_
        refine gd_cV1i dX8_feed_34 ct_8_53 rc_0 ⟨Nat.le_of_ble_eq_true rfl, Nat.le_of_ble_eq_true rfl⟩ (Nat.le_of_ble_eq_true rfl) (Nat.le_of_ble_eq_true rfl) (c_f1 _) ?_
        refine gd_iret dX8_feed_37 rfl rfl ?_
        rfl
      · refine gd_ild2 dX9_feed_0 ?_
        refine gd_ic1 dX9_feed_1 ?_
        refine gd_ic4 dX9_feed_2 ?_
        refine gd_cS3i dX9_feed_3 ct_9_79 ⟨Nat.le_of_ble_eq_true rfl, Nat.le_of_ble_eq_true rfl⟩ (Nat.le_of_ble_eq_true rfl) (Nat.le_of_ble_eq_true rfl) (m_in_1 (m := 4) (by omega) (by omega) (by decide) _) ?_
        refine gd_if_ne_t 15 dX9_feed_6 (by decide) (by decide) ?_
        refine gd_ald0 dX9_feed_15 (by decide) ?_
        refine gd_getI dX9_feed_16 fl_9_149 rfl rfl ?_
        refine gd_ild2 dX9_feed_19 ?_
        refine gd_iadd dX9_feed_20 ?_
        rw [show (hf h 1).1 72 14 + nI n = nI (tn (h.1 72 14) + n) by rw [← nI_add, ← i.p.n.2.1]; rfl]
        refine gd_bipush (v := nI 120) dX9_feed_21 (by decide) ?_
        refine gd_icmp_le_f 32 dX9_feed_23 (by decide) (by exact nI_ge (by omega) (by omega)) ?_
        refine gd_ald0 dX9_feed_26 (by decide) ?_
        refine gd_ic2 dX9_feed_27 ?_
        refine gd_cV1i dX9_feed_28 ct_9_97 rc_72 ⟨Nat.le_of_ble_eq_true rfl, Nat.le_of_ble_eq_true rfl⟩ (Nat.le_of_ble_eq_true rfl) (Nat.le_of_ble_eq_true rfl) (m_f1 _) ?_
        refine gd_iret dX9_feed_31 rfl rfl ?_
        rfl
  · refine Pas.find (h1 := h) (h2 := hf (h) 0) (v := -1000000001) (w := (-1000000000 : Int32) - nI 1) 0 i (by decide) (by decide) (by decide) (Same.rf _) (Same.rf _) ?_ ?_
    · rcases hb with hb | ⟨hb1, hb2⟩
      · refine gd_ild2 dX8_feed_0 ?_
        refine gd_ic1 dX8_feed_1 ?_
        refine gd_icmp_lt_t 10 dX8_feed_2 (by decide) (hb) ?_
        refine gd_ald0 dX8_feed_10 (by decide) ?_
        refine gd_ldc dX8_feed_11 ld_8_52 ?_
        refine gd_cV1i dX8_feed_13 ct_8_53 rc_0 ⟨Nat.le_of_ble_eq_true rfl, Nat.le_of_ble_eq_true rfl⟩ (Nat.le_of_ble_eq_true rfl) (Nat.le_of_ble_eq_true rfl) (c_f0 _) ?_
        refine gd_iret dX8_feed_16 rfl rfl ?_
        rfl
      · refine gd_ild2 dX8_feed_0 ?_
        refine gd_ic1 dX8_feed_1 ?_
        refine gd_icmp_lt_f 10 dX8_feed_2 (by decide) (hb1) ?_
        refine gd_ild2 dX8_feed_5 ?_
        refine gd_ic4 dX8_feed_6 ?_
        refine gd_icmp_le_f 17 dX8_feed_7 (by decide) (hb2) ?_
        refine gd_ald0 dX8_feed_10 (by decide) ?_
        refine gd_ldc dX8_feed_11 ld_8_52 ?_
        refine gd_cV1i dX8_feed_13 ct_8_53 rc_0 ⟨Nat.le_of_ble_eq_true rfl, Nat.le_of_ble_eq_true rfl⟩ (Nat.le_of_ble_eq_true rfl) (Nat.le_of_ble_eq_true rfl) (c_f0 _) ?_
        refine gd_iret dX8_feed_16 rfl rfl ?_
        rfl
    · refine gd_ild2 dX9_feed_0 ?_
      refine gd_ic1 dX9_feed_1 ?_
      refine gd_ic4 dX9_feed_2 ?_
      refine gd_cS3i dX9_feed_3 ct_9_79 ⟨Nat.le_of_ble_eq_true rfl, Nat.le_of_ble_eq_true rfl⟩ (Nat.le_of_ble_eq_true rfl) (Nat.le_of_ble_eq_true rfl) (m_in_1f ha _) ?_
      refine gd_if_ne_f 15 dX9_feed_6 (by decide) (by decide) ?_
      refine gd_ald0 dX9_feed_9 (by decide) ?_
      refine gd_ic1 dX9_feed_10 ?_
      refine gd_cV1i dX9_feed_11 ct_9_97 rc_72 ⟨Nat.le_of_ble_eq_true rfl, Nat.le_of_ble_eq_true rfl⟩ (Nat.le_of_ble_eq_true rfl) (Nat.le_of_ble_eq_true rfl) (m_f0 _) ?_
      refine gd_iret dX9_feed_14 rfl rfl ?_
      rfl
theorem z_add (x : Int32) : nI 0 + x = x := by show (0 : Int32) + x = x; simp
theorem add_z (x : Int32) : x + nI 0 = x := by show x + (0 : Int32) = x; simp
theorem m_in_m1 {t : Nat} (ht : t < 7) (h : Hp) : Gd mX9_in 0 [.int (nI t), .int (-1), .int (nI 6)] [] h (some (.int (nI 1)), h) := by
  have := m_in (nI t) (-1) (nI 6) h
  rwa [decide_eq_true ⟨by have : ∀ t, t < 7 → (-1 : Int32) ≤ nI t := by decide
                          exact this t ht, nI_le (by omega) (by decide)⟩] at this
theorem m_in_mm (h : Hp) : Gd mX9_in 0 [.int (-1), .int (-1), .int (nI 6)] [] h (some (.int (nI 1)), h) := by
  have := m_in (-1) (-1) (nI 6) h
  rwa [decide_eq_true (by decide)] at this
theorem m_in_mf {a : Int32} (h1 : ¬ a = -1) (h2 : ¬ (0 ≤ a ∧ a < nI 7)) (h : Hp) : Gd mX9_in 0 [.int a, .int (-1), .int (nI 6)] [] h (some (.int (nI 0)), h) := by
  have := m_in a (-1) (nI 6) h
  rwa [decide_eq_false (fun z => by
    have z1 := z.1
    have z2 := z.2
    rw [Int32.le_iff_toInt_le] at z1 z2
    rw [show (-1 : Int32).toInt = -1 by decide] at z1
    rw [nI_toInt (by decide)] at z2
    by_cases e : a.toInt = -1
    · exact h1 (Int32.toInt_inj.mp (by rw [e]; decide))
    · refine h2 ⟨?_, ?_⟩
      · rw [Int32.le_iff_toInt_le, show (0 : Int32).toInt = 0 by decide]; omega
      · rw [Int32.lt_iff_toInt_lt, nI_toInt (by decide)]; omega)] at this
set_option maxHeartbeats 1000000 in
theorem p_status {h : Hp} (i : Inv h) (a : Int32) : Pas mX8_status mX9_status [.ref 0, .int a, .null, .null] [.ref 72, .int a, .null, .null] h := by
  by_cases ha : a = -1
  · subst ha
    refine Pas.read (r := .int (nI 0 + h.1 71 0 + h.1 71 1 + h.1 71 2 + h.1 71 3 + h.1 71 4 + h.1 71 5 + h.1 71 6)) (r2 := .int (nI 0 + h.1 71 0 + h.1 71 1 + h.1 71 2 + h.1 71 3 + h.1 71 4 + h.1 71 5 + h.1 71 6)) (h1 := h) (h2 := h) i rfl (Same.rf _) (Same.rf _) ?_ ?_
    · refine gd_ild1 dX8_status_0 ?_
      refine gd_icm1 dX8_status_1 ?_
      refine gd_icmp_ne_f 32 dX8_status_2 (by decide) (by decide) ?_
      refine gd_ic0 dX8_status_5 ?_
      refine gd_ist2 dX8_status_6 rfl ?_
      refine gd_ic0 dX8_status_7 ?_
      refine gd_ist3 dX8_status_8 rfl ?_
      refine gd_ild3 dX8_status_9 ?_
      refine gd_bipush (v := nI 7) dX8_status_10 (by decide) ?_
      refine gd_icmp_ge_f 30 dX8_status_12 (by decide) (by decide) ?_
      refine gd_ild2 dX8_status_15 ?_
      refine gd_ald0 dX8_status_16 (by decide) ?_
      refine gd_getR (r := 71) dX8_status_17 fl_8_44 rfl rfl rfl (by decide) ?_
      refine gd_ild3 dX8_status_20 ?_
      refine gd_iald (n := 7) dX8_status_21 rfl (by decide) (by repeat' (first | with_reducible rfl | apply ni_add | apply ni_mul)) (by omega) ?_
      refine gd_iadd dX8_status_22 ?_
      refine gd_ist2 dX8_status_23 rfl ?_
      refine gd_iinc3 (b := nI 1) dX8_status_24 (by decide) rfl ?_
      refine gd_goto 9 dX8_status_27 (by decide) ?_
      refine gd_ild3 dX8_status_9 ?_
      refine gd_bipush (v := nI 7) dX8_status_10 (by decide) ?_
      refine gd_icmp_ge_f 30 dX8_status_12 (by decide) (by decide) ?_
      refine gd_ild2 dX8_status_15 ?_
      refine gd_ald0 dX8_status_16 (by decide) ?_
      refine gd_getR (r := 71) dX8_status_17 fl_8_44 rfl rfl rfl (by decide) ?_
      refine gd_ild3 dX8_status_20 ?_
      refine gd_iald (n := 7) dX8_status_21 rfl (by decide) (by repeat' (first | with_reducible rfl | apply ni_add | apply ni_mul)) (by omega) ?_
      refine gd_iadd dX8_status_22 ?_
      refine gd_ist2 dX8_status_23 rfl ?_
      refine gd_iinc3 (b := nI 1) dX8_status_24 (by decide) rfl ?_
      refine gd_goto 9 dX8_status_27 (by decide) ?_
      refine gd_ild3 dX8_status_9 ?_
      refine gd_bipush (v := nI 7) dX8_status_10 (by decide) ?_
      refine gd_icmp_ge_f 30 dX8_status_12 (by decide) (by decide) ?_
      refine gd_ild2 dX8_status_15 ?_
      refine gd_ald0 dX8_status_16 (by decide) ?_
      refine gd_getR (r := 71) dX8_status_17 fl_8_44 rfl rfl rfl (by decide) ?_
      refine gd_ild3 dX8_status_20 ?_
      refine gd_iald (n := 7) dX8_status_21 rfl (by decide) (by repeat' (first | with_reducible rfl | apply ni_add | apply ni_mul)) (by omega) ?_
      refine gd_iadd dX8_status_22 ?_
      refine gd_ist2 dX8_status_23 rfl ?_
      refine gd_iinc3 (b := nI 1) dX8_status_24 (by decide) rfl ?_
      refine gd_goto 9 dX8_status_27 (by decide) ?_
      refine gd_ild3 dX8_status_9 ?_
      refine gd_bipush (v := nI 7) dX8_status_10 (by decide) ?_
      refine gd_icmp_ge_f 30 dX8_status_12 (by decide) (by decide) ?_
      refine gd_ild2 dX8_status_15 ?_
      refine gd_ald0 dX8_status_16 (by decide) ?_
      refine gd_getR (r := 71) dX8_status_17 fl_8_44 rfl rfl rfl (by decide) ?_
      refine gd_ild3 dX8_status_20 ?_
      refine gd_iald (n := 7) dX8_status_21 rfl (by decide) (by repeat' (first | with_reducible rfl | apply ni_add | apply ni_mul)) (by omega) ?_
      refine gd_iadd dX8_status_22 ?_
      refine gd_ist2 dX8_status_23 rfl ?_
      refine gd_iinc3 (b := nI 1) dX8_status_24 (by decide) rfl ?_
      refine gd_goto 9 dX8_status_27 (by decide) ?_
      refine gd_ild3 dX8_status_9 ?_
      refine gd_bipush (v := nI 7) dX8_status_10 (by decide) ?_
      refine gd_icmp_ge_f 30 dX8_status_12 (by decide) (by decide) ?_
      refine gd_ild2 dX8_status_15 ?_
      refine gd_ald0 dX8_status_16 (by decide) ?_
      refine gd_getR (r := 71) dX8_status_17 fl_8_44 rfl rfl rfl (by decide) ?_
      refine gd_ild3 dX8_status_20 ?_
      refine gd_iald (n := 7) dX8_status_21 rfl (by decide) (by repeat' (first | with_reducible rfl | apply ni_add | apply ni_mul)) (by omega) ?_
      refine gd_iadd dX8_status_22 ?_
      refine gd_ist2 dX8_status_23 rfl ?_
      refine gd_iinc3 (b := nI 1) dX8_status_24 (by decide) rfl ?_
      refine gd_goto 9 dX8_status_27 (by decide) ?_
      refine gd_ild3 dX8_status_9 ?_
      refine gd_bipush (v := nI 7) dX8_status_10 (by decide) ?_
      refine gd_icmp_ge_f 30 dX8_status_12 (by decide) (by decide) ?_
      refine gd_ild2 dX8_status_15 ?_
      refine gd_ald0 dX8_status_16 (by decide) ?_
      refine gd_getR (r := 71) dX8_status_17 fl_8_44 rfl rfl rfl (by decide) ?_
      refine gd_ild3 dX8_status_20 ?_
      refine gd_iald (n := 7) dX8_status_21 rfl (by decide) (by repeat' (first | with_reducible rfl | apply ni_add | apply ni_mul)) (by omega) ?_
      refine gd_iadd dX8_status_22 ?_
      refine gd_ist2 dX8_status_23 rfl ?_
      refine gd_iinc3 (b := nI 1) dX8_status_24 (by decide) rfl ?_
      refine gd_goto 9 dX8_status_27 (by decide) ?_
      refine gd_ild3 dX8_status_9 ?_
      refine gd_bipush (v := nI 7) dX8_status_10 (by decide) ?_
      refine gd_icmp_ge_f 30 dX8_status_12 (by decide) (by decide) ?_
      refine gd_ild2 dX8_status_15 ?_
      refine gd_ald0 dX8_status_16 (by decide) ?_
      refine gd_getR (r := 71) dX8_status_17 fl_8_44 rfl rfl rfl (by decide) ?_
      refine gd_ild3 dX8_status_20 ?_
      refine gd_iald (n := 7) dX8_status_21 rfl (by decide) (by repeat' (first | with_reducible rfl | apply ni_add | apply ni_mul)) (by omega) ?_
      refine gd_iadd dX8_status_22 ?_
      refine gd_ist2 dX8_status_23 rfl ?_
      refine gd_iinc3 (b := nI 1) dX8_status_24 (by decide) rfl ?_
      refine gd_goto 9 dX8_status_27 (by decide) ?_
      refine gd_ild3 dX8_status_9 ?_
      refine gd_bipush (v := nI 7) dX8_status_10 (by decide) ?_
      refine gd_icmp_ge_t 30 dX8_status_12 (by decide) (by decide) ?_
      refine gd_ild2 dX8_status_30 ?_
      refine gd_iret dX8_status_31 rfl rfl ?_
      rfl
    · refine gd_ild1 dX9_status_0 ?_
      refine gd_icm1 dX9_status_1 ?_
      refine gd_bipush (v := nI 6) dX9_status_2 (by decide) ?_
      refine gd_cS3i dX9_status_4 ct_9_79 ⟨Nat.le_of_ble_eq_true rfl, Nat.le_of_ble_eq_true rfl⟩ (Nat.le_of_ble_eq_true rfl) (Nat.le_of_ble_eq_true rfl) (m_in_mm _) ?_
      refine gd_if_ne_t 16 dX9_status_7 (by decide) (by decide) ?_
      refine gd_ic0 dX9_status_16 ?_
      refine gd_ist2 dX9_status_17 rfl ?_
      refine gd_ic1 dX9_status_18 ?_
      refine gd_ist3 dX9_status_19 rfl ?_
      refine gd_ild3 dX9_status_20 ?_
      refine gd_bipush (v := nI 8) dX9_status_21 (by decide) ?_
      refine gd_icmp_ge_f 57 dX9_status_23 (by decide) (by decide) ?_
      refine gd_ild2 dX9_status_26 ?_
      refine gd_ild1 dX9_status_27 ?_
      refine gd_icm1 dX9_status_28 ?_
      refine gd_icmp_eq_t 39 dX9_status_29 (by decide) (by decide) ?_
      refine gd_ald0 dX9_status_39 (by decide) ?_
      refine gd_getR (r := 73) dX9_status_40 fl_9_7 rfl rfl rfl (by decide) ?_
      refine gd_ild3 dX9_status_43 ?_
      refine gd_iald (n := 8) dX9_status_44 rfl (by decide) (by repeat' (first | with_reducible rfl | apply ni_add | apply ni_mul)) (by omega) ?_
      refine gd_goto 49 dX9_status_45 (by decide) ?_
      refine gd_iadd dX9_status_49 ?_
      refine gd_ist2 dX9_status_50 rfl ?_
      refine gd_iinc3 (b := nI 1) dX9_status_51 (by decide) rfl ?_
      refine gd_goto 20 dX9_status_54 (by decide) ?_
      refine gd_ild3 dX9_status_20 ?_
      refine gd_bipush (v := nI 8) dX9_status_21 (by decide) ?_
      refine gd_icmp_ge_f 57 dX9_status_23 (by decide) (by decide) ?_
      refine gd_ild2 dX9_status_26 ?_
      refine gd_ild1 dX9_status_27 ?_
      refine gd_icm1 dX9_status_28 ?_
      refine gd_icmp_eq_t 39 dX9_status_29 (by decide) (by decide) ?_
      refine gd_ald0 dX9_status_39 (by decide) ?_
      refine gd_getR (r := 73) dX9_status_40 fl_9_7 rfl rfl rfl (by decide) ?_
      refine gd_ild3 dX9_status_43 ?_
      refine gd_iald (n := 8) dX9_status_44 rfl (by decide) (by repeat' (first | with_reducible rfl | apply ni_add | apply ni_mul)) (by omega) ?_
      refine gd_goto 49 dX9_status_45 (by decide) ?_
      refine gd_iadd dX9_status_49 ?_
      refine gd_ist2 dX9_status_50 rfl ?_
      refine gd_iinc3 (b := nI 1) dX9_status_51 (by decide) rfl ?_
      refine gd_goto 20 dX9_status_54 (by decide) ?_
      refine gd_ild3 dX9_status_20 ?_
      refine gd_bipush (v := nI 8) dX9_status_21 (by decide) ?_
      refine gd_icmp_ge_f 57 dX9_status_23 (by decide) (by decide) ?_
      refine gd_ild2 dX9_status_26 ?_
      refine gd_ild1 dX9_status_27 ?_
      refine gd_icm1 dX9_status_28 ?_
      refine gd_icmp_eq_t 39 dX9_status_29 (by decide) (by decide) ?_
      refine gd_ald0 dX9_status_39 (by decide) ?_
      refine gd_getR (r := 73) dX9_status_40 fl_9_7 rfl rfl rfl (by decide) ?_
      refine gd_ild3 dX9_status_43 ?_
      refine gd_iald (n := 8) dX9_status_44 rfl (by decide) (by repeat' (first | with_reducible rfl | apply ni_add | apply ni_mul)) (by omega) ?_
      refine gd_goto 49 dX9_status_45 (by decide) ?_
      refine gd_iadd dX9_status_49 ?_
      refine gd_ist2 dX9_status_50 rfl ?_
      refine gd_iinc3 (b := nI 1) dX9_status_51 (by decide) rfl ?_
      refine gd_goto 20 dX9_status_54 (by decide) ?_
      refine gd_ild3 dX9_status_20 ?_
      refine gd_bipush (v := nI 8) dX9_status_21 (by decide) ?_
      refine gd_icmp_ge_f 57 dX9_status_23 (by decide) (by decide) ?_
      refine gd_ild2 dX9_status_26 ?_
      refine gd_ild1 dX9_status_27 ?_
      refine gd_icm1 dX9_status_28 ?_
      refine gd_icmp_eq_t 39 dX9_status_29 (by decide) (by decide) ?_
      refine gd_ald0 dX9_status_39 (by decide) ?_
      refine gd_getR (r := 73) dX9_status_40 fl_9_7 rfl rfl rfl (by decide) ?_
      refine gd_ild3 dX9_status_43 ?_
      refine gd_iald (n := 8) dX9_status_44 rfl (by decide) (by repeat' (first | with_reducible rfl | apply ni_add | apply ni_mul)) (by omega) ?_
      refine gd_goto 49 dX9_status_45 (by decide) ?_
      refine gd_iadd dX9_status_49 ?_
      refine gd_ist2 dX9_status_50 rfl ?_
      refine gd_iinc3 (b := nI 1) dX9_status_51 (by decide) rfl ?_
      refine gd_goto 20 dX9_status_54 (by decide) ?_
      refine gd_ild3 dX9_status_20 ?_
      refine gd_bipush (v := nI 8) dX9_status_21 (by decide) ?_
      refine gd_icmp_ge_f 57 dX9_status_23 (by decide) (by decide) ?_
      refine gd_ild2 dX9_status_26 ?_
      refine gd_ild1 dX9_status_27 ?_
      refine gd_icm1 dX9_status_28 ?_
      refine gd_icmp_eq_t 39 dX9_status_29 (by decide) (by decide) ?_
      refine gd_ald0 dX9_status_39 (by decide) ?_
      refine gd_getR (r := 73) dX9_status_40 fl_9_7 rfl rfl rfl (by decide) ?_
      refine gd_ild3 dX9_status_43 ?_
      refine gd_iald (n := 8) dX9_status_44 rfl (by decide) (by repeat' (first | with_reducible rfl | apply ni_add | apply ni_mul)) (by omega) ?_
      refine gd_goto 49 dX9_status_45 (by decide) ?_
      refine gd_iadd dX9_status_49 ?_
      refine gd_ist2 dX9_status_50 rfl ?_
      refine gd_iinc3 (b := nI 1) dX9_status_51 (by decide) rfl ?_
      refine gd_goto 20 dX9_status_54 (by decide) ?_
      refine gd_ild3 dX9_status_20 ?_
      refine gd_bipush (v := nI 8) dX9_status_21 (by decide) ?_
      refine gd_icmp_ge_f 57 dX9_status_23 (by decide) (by decide) ?_
      refine gd_ild2 dX9_status_26 ?_
      refine gd_ild1 dX9_status_27 ?_
      refine gd_icm1 dX9_status_28 ?_
      refine gd_icmp_eq_t 39 dX9_status_29 (by decide) (by decide) ?_
      refine gd_ald0 dX9_status_39 (by decide) ?_
      refine gd_getR (r := 73) dX9_status_40 fl_9_7 rfl rfl rfl (by decide) ?_
      refine gd_ild3 dX9_status_43 ?_
      refine gd_iald (n := 8) dX9_status_44 rfl (by decide) (by repeat' (first | with_reducible rfl | apply ni_add | apply ni_mul)) (by omega) ?_
      refine gd_goto 49 dX9_status_45 (by decide) ?_
      refine gd_iadd dX9_status_49 ?_
      refine gd_ist2 dX9_status_50 rfl ?_
      refine gd_iinc3 (b := nI 1) dX9_status_51 (by decide) rfl ?_
      refine gd_goto 20 dX9_status_54 (by decide) ?_
      refine gd_ild3 dX9_status_20 ?_
      refine gd_bipush (v := nI 8) dX9_status_21 (by decide) ?_
      refine gd_icmp_ge_f 57 dX9_status_23 (by decide) (by decide) ?_
      refine gd_ild2 dX9_status_26 ?_
      refine gd_ild1 dX9_status_27 ?_
      refine gd_icm1 dX9_status_28 ?_
      refine gd_icmp_eq_t 39 dX9_status_29 (by decide) (by decide) ?_
      refine gd_ald0 dX9_status_39 (by decide) ?_
      refine gd_getR (r := 73) dX9_status_40 fl_9_7 rfl rfl rfl (by decide) ?_
      refine gd_ild3 dX9_status_43 ?_
      refine gd_iald (n := 8) dX9_status_44 rfl (by decide) (by repeat' (first | with_reducible rfl | apply ni_add | apply ni_mul)) (by omega) ?_
      refine gd_goto 49 dX9_status_45 (by decide) ?_
      refine gd_iadd dX9_status_49 ?_
      refine gd_ist2 dX9_status_50 rfl ?_
      refine gd_iinc3 (b := nI 1) dX9_status_51 (by decide) rfl ?_
      refine gd_goto 20 dX9_status_54 (by decide) ?_
      refine gd_ild3 dX9_status_20 ?_
      refine gd_bipush (v := nI 8) dX9_status_21 (by decide) ?_
      refine gd_icmp_ge_t 57 dX9_status_23 (by decide) (by decide) ?_
      refine gd_ild2 dX9_status_57 ?_
      refine gd_iret dX9_status_58 rfl rfl ?_
      show (some (Value.int (nI 0 + h.1 71 0 + h.1 71 1 + h.1 71 2 + h.1 71 3 + h.1 71 4 + h.1 71 5 + h.1 71 6)), h) = (some (Value.int (nI 0 + h.1 73 1 + h.1 73 2 + h.1 73 3 + h.1 73 4 + h.1 73 5 + h.1 73 6 + h.1 73 7)), h)
      rw [show h.1 73 1 = h.1 71 0 from i.f 0 (by decide), show h.1 73 2 = h.1 71 1 from i.f 1 (by decide), show h.1 73 3 = h.1 71 2 from i.f 2 (by decide), show h.1 73 4 = h.1 71 3 from i.f 3 (by decide), show h.1 73 5 = h.1 71 4 from i.f 4 (by decide), show h.1 73 6 = h.1 71 5 from i.f 5 (by decide), show h.1 73 7 = h.1 71 6 from i.f 6 (by decide)]
  · rcases rng a (7) (by decide) with ⟨j, hj, rfl⟩ | hb
    · rcases (show j = 0 ∨ j = 1 ∨ j = 2 ∨ j = 3 ∨ j = 4 ∨ j = 5 ∨ j = 6 by omega) with rfl | rfl | rfl | rfl | rfl | rfl | rfl
      · refine Pas.read (r := .int (h.1 71 0)) (r2 := .int (h.1 71 0)) (h1 := h) (h2 := h) i rfl (Same.rf _) (Same.rf _) ?_ ?_
        · refine gd_ild1 dX8_status_0 ?_
          refine gd_icm1 dX8_status_1 ?_
          refine gd_icmp_ne_t 32 dX8_status_2 (by decide) (by decide) ?_
          refine gd_ild1 dX8_status_32 ?_
          refine gd_bipush (v := nI 7) dX8_status_33 (by decide) ?_
          refine gd_cS2i dX8_status_35 ct_8_48 ⟨Nat.le_of_ble_eq_true rfl, Nat.le_of_ble_eq_true rfl⟩ (Nat.le_of_ble_eq_true rfl) (Nat.le_of_ble_eq_true rfl) (c_isBelow_t (by decide) (by decide) _) ?_
          refine gd_if_eq_f 50 dX8_status_38 (by decide) (by decide) ?_
          refine gd_ald0 dX8_status_41 (by decide) ?_
          refine gd_getR (r := 71) dX8_status_42 fl_8_44 rfl rfl rfl (by decide) ?_
          refine gd_ild1 dX8_status_45 ?_
          refine gd_iald (n := 7) dX8_status_46 rfl (by decide) (by repeat' (first | with_reducible rfl | apply ni_add | apply ni_mul)) (by omega) ?_
          refine gd_goto 56 dX8_status_47 (by decide) ?_
          refine gd_iret dX8_status_56 rfl rfl ?_
          rfl
        · refine gd_ild1 dX9_status_0 ?_
          refine gd_icm1 dX9_status_1 ?_
          refine gd_bipush (v := nI 6) dX9_status_2 (by decide) ?_
          refine gd_cS3i dX9_status_4 ct_9_79 ⟨Nat.le_of_ble_eq_true rfl, Nat.le_of_ble_eq_true rfl⟩ (Nat.le_of_ble_eq_true rfl) (Nat.le_of_ble_eq_true rfl) (m_in_m1 (by decide) _) ?_
          refine gd_if_ne_t 16 dX9_status_7 (by decide) (by decide) ?_
          refine gd_ic0 dX9_status_16 ?_
          refine gd_ist2 dX9_status_17 rfl ?_
          refine gd_ic1 dX9_status_18 ?_
          refine gd_ist3 dX9_status_19 rfl ?_
          refine gd_ild3 dX9_status_20 ?_
          refine gd_bipush (v := nI 8) dX9_status_21 (by decide) ?_
          refine gd_icmp_ge_f 57 dX9_status_23 (by decide) (by decide) ?_
          refine gd_ild2 dX9_status_26 ?_
          refine gd_ild1 dX9_status_27 ?_
          refine gd_icm1 dX9_status_28 ?_
          refine gd_icmp_eq_f 39 dX9_status_29 (by decide) (by decide) ?_
          refine gd_ild1 dX9_status_32 ?_
          refine gd_ild3 dX9_status_33 ?_
          refine gd_ic1 dX9_status_34 ?_
          refine gd_isub dX9_status_35 ?_
          refine gd_icmp_ne_f 48 dX9_status_36 (by decide) (by decide) ?_
          refine gd_ald0 dX9_status_39 (by decide) ?_
          refine gd_getR (r := 73) dX9_status_40 fl_9_7 rfl rfl rfl (by decide) ?_
          refine gd_ild3 dX9_status_43 ?_
          refine gd_iald (n := 8) dX9_status_44 rfl (by decide) (by repeat' (first | with_reducible rfl | apply ni_add | apply ni_mul)) (by omega) ?_
          refine gd_goto 49 dX9_status_45 (by decide) ?_
          refine gd_iadd dX9_status_49 ?_
          refine gd_ist2 dX9_status_50 rfl ?_
          refine gd_iinc3 (b := nI 1) dX9_status_51 (by decide) rfl ?_
          refine gd_goto 20 dX9_status_54 (by decide) ?_
          refine gd_ild3 dX9_status_20 ?_
          refine gd_bipush (v := nI 8) dX9_status_21 (by decide) ?_
          refine gd_icmp_ge_f 57 dX9_status_23 (by decide) (by decide) ?_
          refine gd_ild2 dX9_status_26 ?_
          refine gd_ild1 dX9_status_27 ?_
          refine gd_icm1 dX9_status_28 ?_
          refine gd_icmp_eq_f 39 dX9_status_29 (by decide) (by decide) ?_
          refine gd_ild1 dX9_status_32 ?_
          refine gd_ild3 dX9_status_33 ?_
          refine gd_ic1 dX9_status_34 ?_
          refine gd_isub dX9_status_35 ?_
          refine gd_icmp_ne_t 48 dX9_status_36 (by decide) (by decide) ?_
          refine gd_ic0 dX9_status_48 ?_
          refine gd_iadd dX9_status_49 ?_
          refine gd_ist2 dX9_status_50 rfl ?_
          refine gd_iinc3 (b := nI 1) dX9_status_51 (by decide) rfl ?_
          refine gd_goto 20 dX9_status_54 (by decide) ?_
          refine gd_ild3 dX9_status_20 ?_
          refine gd_bipush (v := nI 8) dX9_status_21 (by decide) ?_
          refine gd_icmp_ge_f 57 dX9_status_23 (by decide) (by decide) ?_
          refine gd_ild2 dX9_status_26 ?_
          refine gd_ild1 dX9_status_27 ?_
          refine gd_icm1 dX9_status_28 ?_
          refine gd_icmp_eq_f 39 dX9_status_29 (by decide) (by decide) ?_
          refine gd_ild1 dX9_status_32 ?_
          refine gd_ild3 dX9_status_33 ?_
          refine gd_ic1 dX9_status_34 ?_
          refine gd_isub dX9_status_35 ?_
          refine gd_icmp_ne_t 48 dX9_status_36 (by decide) (by decide) ?_
          refine gd_ic0 dX9_status_48 ?_
          refine gd_iadd dX9_status_49 ?_
          refine gd_ist2 dX9_status_50 rfl ?_
          refine gd_iinc3 (b := nI 1) dX9_status_51 (by decide) rfl ?_
          refine gd_goto 20 dX9_status_54 (by decide) ?_
          refine gd_ild3 dX9_status_20 ?_
          refine gd_bipush (v := nI 8) dX9_status_21 (by decide) ?_
          refine gd_icmp_ge_f 57 dX9_status_23 (by decide) (by decide) ?_
          refine gd_ild2 dX9_status_26 ?_
          refine gd_ild1 dX9_status_27 ?_
          refine gd_icm1 dX9_status_28 ?_
          refine gd_icmp_eq_f 39 dX9_status_29 (by decide) (by decide) ?_
          refine gd_ild1 dX9_status_32 ?_
          refine gd_ild3 dX9_status_33 ?_
          refine gd_ic1 dX9_status_34 ?_
          refine gd_isub dX9_status_35 ?_
          refine gd_icmp_ne_t 48 dX9_status_36 (by decide) (by decide) ?_
          refine gd_ic0 dX9_status_48 ?_
          refine gd_iadd dX9_status_49 ?_
          refine gd_ist2 dX9_status_50 rfl ?_
          refine gd_iinc3 (b := nI 1) dX9_status_51 (by decide) rfl ?_
          refine gd_goto 20 dX9_status_54 (by decide) ?_
          refine gd_ild3 dX9_status_20 ?_
          refine gd_bipush (v := nI 8) dX9_status_21 (by decide) ?_
          refine gd_icmp_ge_f 57 dX9_status_23 (by decide) (by decide) ?_
          refine gd_ild2 dX9_status_26 ?_
          refine gd_ild1 dX9_status_27 ?_
          refine gd_icm1 dX9_status_28 ?_
          refine gd_icmp_eq_f 39 dX9_status_29 (by decide) (by decide) ?_
          refine gd_ild1 dX9_status_32 ?_
          refine gd_ild3 dX9_status_33 ?_
          refine gd_ic1 dX9_status_34 ?_
          refine gd_isub dX9_status_35 ?_
          refine gd_icmp_ne_t 48 dX9_status_36 (by decide) (by decide) ?_
          refine gd_ic0 dX9_status_48 ?_
          refine gd_iadd dX9_status_49 ?_
          refine gd_ist2 dX9_status_50 rfl ?_
          refine gd_iinc3 (b := nI 1) dX9_status_51 (by decide) rfl ?_
          refine gd_goto 20 dX9_status_54 (by decide) ?_
          refine gd_ild3 dX9_status_20 ?_
          refine gd_bipush (v := nI 8) dX9_status_21 (by decide) ?_
          refine gd_icmp_ge_f 57 dX9_status_23 (by decide) (by decide) ?_
          refine gd_ild2 dX9_status_26 ?_
          refine gd_ild1 dX9_status_27 ?_
          refine gd_icm1 dX9_status_28 ?_
          refine gd_icmp_eq_f 39 dX9_status_29 (by decide) (by decide) ?_
          refine gd_ild1 dX9_status_32 ?_
          refine gd_ild3 dX9_status_33 ?_
          refine gd_ic1 dX9_status_34 ?_
          refine gd_isub dX9_status_35 ?_
          refine gd_icmp_ne_t 48 dX9_status_36 (by decide) (by decide) ?_
          refine gd_ic0 dX9_status_48 ?_
          refine gd_iadd dX9_status_49 ?_
          refine gd_ist2 dX9_status_50 rfl ?_
          refine gd_iinc3 (b := nI 1) dX9_status_51 (by decide) rfl ?_
          refine gd_goto 20 dX9_status_54 (by decide) ?_
          refine gd_ild3 dX9_status_20 ?_
          refine gd_bipush (v := nI 8) dX9_status_21 (by decide) ?_
          refine gd_icmp_ge_f 57 dX9_status_23 (by decide) (by decide) ?_
          refine gd_ild2 dX9_status_26 ?_
          refine gd_ild1 dX9_status_27 ?_
          refine gd_icm1 dX9_status_28 ?_
          refine gd_icmp_eq_f 39 dX9_status_29 (by decide) (by decide) ?_
          refine gd_ild1 dX9_status_32 ?_
          refine gd_ild3 dX9_status_33 ?_
          refine gd_ic1 dX9_status_34 ?_
          refine gd_isub dX9_status_35 ?_
          refine gd_icmp_ne_t 48 dX9_status_36 (by decide) (by decide) ?_
          refine gd_ic0 dX9_status_48 ?_
          refine gd_iadd dX9_status_49 ?_
          refine gd_ist2 dX9_status_50 rfl ?_
          refine gd_iinc3 (b := nI 1) dX9_status_51 (by decide) rfl ?_
          refine gd_goto 20 dX9_status_54 (by decide) ?_
          refine gd_ild3 dX9_status_20 ?_
          refine gd_bipush (v := nI 8) dX9_status_21 (by decide) ?_
          refine gd_icmp_ge_t 57 dX9_status_23 (by decide) (by decide) ?_
          refine gd_ild2 dX9_status_57 ?_
          refine gd_iret dX9_status_58 rfl rfl ?_
          simp only [z_add, add_z]
          rw [show h.1 71 0 = h.1 73 1 from (i.f 0 (by decide)).symm]
      · refine Pas.read (r := .int (h.1 71 1)) (r2 := .int (h.1 71 1)) (h1 := h) (h2 := h) i rfl (Same.rf _) (Same.rf _) ?_ ?_
        · refine gd_ild1 dX8_status_0 ?_
          refine gd_icm1 dX8_status_1 ?_
          refine gd_icmp_ne_t 32 dX8_status_2 (by decide) (by decide) ?_
          refine gd_ild1 dX8_status_32 ?_
          refine gd_bipush (v := nI 7) dX8_status_33 (by decide) ?_
          refine gd_cS2i dX8_status_35 ct_8_48 ⟨Nat.le_of_ble_eq_true rfl, Nat.le_of_ble_eq_true rfl⟩ (Nat.le_of_ble_eq_true rfl) (Nat.le_of_ble_eq_true rfl) (c_isBelow_t (by decide) (by decide) _) ?_
          refine gd_if_eq_f 50 dX8_status_38 (by decide) (by decide) ?_
          refine gd_ald0 dX8_status_41 (by decide) ?_
          refine gd_getR (r := 71) dX8_status_42 fl_8_44 rfl rfl rfl (by decide) ?_
          refine gd_ild1 dX8_status_45 ?_
          refine gd_iald (n := 7) dX8_status_46 rfl (by decide) (by repeat' (first | with_reducible rfl | apply ni_add | apply ni_mul)) (by omega) ?_
          refine gd_goto 56 dX8_status_47 (by decide) ?_
          refine gd_iret dX8_status_56 rfl rfl ?_
          rfl
        · refine gd_ild1 dX9_status_0 ?_
          refine gd_icm1 dX9_status_1 ?_
          refine gd_bipush (v := nI 6) dX9_status_2 (by decide) ?_
          refine gd_cS3i dX9_status_4 ct_9_79 ⟨Nat.le_of_ble_eq_true rfl, Nat.le_of_ble_eq_true rfl⟩ (Nat.le_of_ble_eq_true rfl) (Nat.le_of_ble_eq_true rfl) (m_in_m1 (by decide) _) ?_
          refine gd_if_ne_t 16 dX9_status_7 (by decide) (by decide) ?_
          refine gd_ic0 dX9_status_16 ?_
          refine gd_ist2 dX9_status_17 rfl ?_
          refine gd_ic1 dX9_status_18 ?_
          refine gd_ist3 dX9_status_19 rfl ?_
          refine gd_ild3 dX9_status_20 ?_
          refine gd_bipush (v := nI 8) dX9_status_21 (by decide) ?_
          refine gd_icmp_ge_f 57 dX9_status_23 (by decide) (by decide) ?_
          refine gd_ild2 dX9_status_26 ?_
          refine gd_ild1 dX9_status_27 ?_
          refine gd_icm1 dX9_status_28 ?_
          refine gd_icmp_eq_f 39 dX9_status_29 (by decide) (by decide) ?_
          refine gd_ild1 dX9_status_32 ?_
          refine gd_ild3 dX9_status_33 ?_
          refine gd_ic1 dX9_status_34 ?_
          refine gd_isub dX9_status_35 ?_
          refine gd_icmp_ne_t 48 dX9_status_36 (by decide) (by decide) ?_
          refine gd_ic0 dX9_status_48 ?_
          refine gd_iadd dX9_status_49 ?_
          refine gd_ist2 dX9_status_50 rfl ?_
          refine gd_iinc3 (b := nI 1) dX9_status_51 (by decide) rfl ?_
          refine gd_goto 20 dX9_status_54 (by decide) ?_
          refine gd_ild3 dX9_status_20 ?_
          refine gd_bipush (v := nI 8) dX9_status_21 (by decide) ?_
          refine gd_icmp_ge_f 57 dX9_status_23 (by decide) (by decide) ?_
          refine gd_ild2 dX9_status_26 ?_
          refine gd_ild1 dX9_status_27 ?_
          refine gd_icm1 dX9_status_28 ?_
          refine gd_icmp_eq_f 39 dX9_status_29 (by decide) (by decide) ?_
          refine gd_ild1 dX9_status_32 ?_
          refine gd_ild3 dX9_status_33 ?_
          refine gd_ic1 dX9_status_34 ?_
          refine gd_isub dX9_status_35 ?_
          refine gd_icmp_ne_f 48 dX9_status_36 (by decide) (by decide) ?_
          refine gd_ald0 dX9_status_39 (by decide) ?_
          refine gd_getR (r := 73) dX9_status_40 fl_9_7 rfl rfl rfl (by decide) ?_
          refine gd_ild3 dX9_status_43 ?_
          refine gd_iald (n := 8) dX9_status_44 rfl (by decide) (by repeat' (first | with_reducible rfl | apply ni_add | apply ni_mul)) (by omega) ?_
          refine gd_goto 49 dX9_status_45 (by decide) ?_
          refine gd_iadd dX9_status_49 ?_
          refine gd_ist2 dX9_status_50 rfl ?_
          refine gd_iinc3 (b := nI 1) dX9_status_51 (by decide) rfl ?_
          refine gd_goto 20 dX9_status_54 (by decide) ?_
          refine gd_ild3 dX9_status_20 ?_
          refine gd_bipush (v := nI 8) dX9_status_21 (by decide) ?_
          refine gd_icmp_ge_f 57 dX9_status_23 (by decide) (by decide) ?_
          refine gd_ild2 dX9_status_26 ?_
          refine gd_ild1 dX9_status_27 ?_
          refine gd_icm1 dX9_status_28 ?_
          refine gd_icmp_eq_f 39 dX9_status_29 (by decide) (by decide) ?_
          refine gd_ild1 dX9_status_32 ?_
          refine gd_ild3 dX9_status_33 ?_
          refine gd_ic1 dX9_status_34 ?_
          refine gd_isub dX9_status_35 ?_
          refine gd_icmp_ne_t 48 dX9_status_36 (by decide) (by decide) ?_
          refine gd_ic0 dX9_status_48 ?_
          refine gd_iadd dX9_status_49 ?_
          refine gd_ist2 dX9_status_50 rfl ?_
          refine gd_iinc3 (b := nI 1) dX9_status_51 (by decide) rfl ?_
          refine gd_goto 20 dX9_status_54 (by decide) ?_
          refine gd_ild3 dX9_status_20 ?_
          refine gd_bipush (v := nI 8) dX9_status_21 (by decide) ?_
          refine gd_icmp_ge_f 57 dX9_status_23 (by decide) (by decide) ?_
          refine gd_ild2 dX9_status_26 ?_
          refine gd_ild1 dX9_status_27 ?_
          refine gd_icm1 dX9_status_28 ?_
          refine gd_icmp_eq_f 39 dX9_status_29 (by decide) (by decide) ?_
          refine gd_ild1 dX9_status_32 ?_
          refine gd_ild3 dX9_status_33 ?_
          refine gd_ic1 dX9_status_34 ?_
          refine gd_isub dX9_status_35 ?_
          refine gd_icmp_ne_t 48 dX9_status_36 (by decide) (by decide) ?_
          refine gd_ic0 dX9_status_48 ?_
          refine gd_iadd dX9_status_49 ?_
          refine gd_ist2 dX9_status_50 rfl ?_
          refine gd_iinc3 (b := nI 1) dX9_status_51 (by decide) rfl ?_
          refine gd_goto 20 dX9_status_54 (by decide) ?_
          refine gd_ild3 dX9_status_20 ?_
          refine gd_bipush (v := nI 8) dX9_status_21 (by decide) ?_
          refine gd_icmp_ge_f 57 dX9_status_23 (by decide) (by decide) ?_
          refine gd_ild2 dX9_status_26 ?_
          refine gd_ild1 dX9_status_27 ?_
          refine gd_icm1 dX9_status_28 ?_
          refine gd_icmp_eq_f 39 dX9_status_29 (by decide) (by decide) ?_
          refine gd_ild1 dX9_status_32 ?_
          refine gd_ild3 dX9_status_33 ?_
          refine gd_ic1 dX9_status_34 ?_
          refine gd_isub dX9_status_35 ?_
          refine gd_icmp_ne_t 48 dX9_status_36 (by decide) (by decide) ?_
          refine gd_ic0 dX9_status_48 ?_
          refine gd_iadd dX9_status_49 ?_
          refine gd_ist2 dX9_status_50 rfl ?_
          refine gd_iinc3 (b := nI 1) dX9_status_51 (by decide) rfl ?_
          refine gd_goto 20 dX9_status_54 (by decide) ?_
          refine gd_ild3 dX9_status_20 ?_
          refine gd_bipush (v := nI 8) dX9_status_21 (by decide) ?_
          refine gd_icmp_ge_f 57 dX9_status_23 (by decide) (by decide) ?_
          refine gd_ild2 dX9_status_26 ?_
          refine gd_ild1 dX9_status_27 ?_
          refine gd_icm1 dX9_status_28 ?_
          refine gd_icmp_eq_f 39 dX9_status_29 (by decide) (by decide) ?_
          refine gd_ild1 dX9_status_32 ?_
          refine gd_ild3 dX9_status_33 ?_
          refine gd_ic1 dX9_status_34 ?_
          refine gd_isub dX9_status_35 ?_
          refine gd_icmp_ne_t 48 dX9_status_36 (by decide) (by decide) ?_
          refine gd_ic0 dX9_status_48 ?_
          refine gd_iadd dX9_status_49 ?_
          refine gd_ist2 dX9_status_50 rfl ?_
          refine gd_iinc3 (b := nI 1) dX9_status_51 (by decide) rfl ?_
          refine gd_goto 20 dX9_status_54 (by decide) ?_
          refine gd_ild3 dX9_status_20 ?_
          refine gd_bipush (v := nI 8) dX9_status_21 (by decide) ?_
          refine gd_icmp_ge_f 57 dX9_status_23 (by decide) (by decide) ?_
          refine gd_ild2 dX9_status_26 ?_
          refine gd_ild1 dX9_status_27 ?_
          refine gd_icm1 dX9_status_28 ?_
          refine gd_icmp_eq_f 39 dX9_status_29 (by decide) (by decide) ?_
          refine gd_ild1 dX9_status_32 ?_
          refine gd_ild3 dX9_status_33 ?_
          refine gd_ic1 dX9_status_34 ?_
          refine gd_isub dX9_status_35 ?_
          refine gd_icmp_ne_t 48 dX9_status_36 (by decide) (by decide) ?_
          refine gd_ic0 dX9_status_48 ?_
          refine gd_iadd dX9_status_49 ?_
          refine gd_ist2 dX9_status_50 rfl ?_
          refine gd_iinc3 (b := nI 1) dX9_status_51 (by decide) rfl ?_
          refine gd_goto 20 dX9_status_54 (by decide) ?_
          refine gd_ild3 dX9_status_20 ?_
          refine gd_bipush (v := nI 8) dX9_status_21 (by decide) ?_
          refine gd_icmp_ge_t 57 dX9_status_23 (by decide) (by decide) ?_
          refine gd_ild2 dX9_status_57 ?_
          refine gd_iret dX9_status_58 rfl rfl ?_
          simp only [z_add, add_z]
          rw [show h.1 71 1 = h.1 73 2 from (i.f 1 (by decide)).symm]
      · refine Pas.read (r := .int (h.1 71 2)) (r2 := .int (h.1 71 2)) (h1 := h) (h2 := h) i rfl (Same.rf _) (Same.rf _) ?_ ?_
        · refine gd_ild1 dX8_status_0 ?_
          refine gd_icm1 dX8_status_1 ?_
          refine gd_icmp_ne_t 32 dX8_status_2 (by decide) (by decide) ?_
          refine gd_ild1 dX8_status_32 ?_
          refine gd_bipush (v := nI 7) dX8_status_33 (by decide) ?_
          refine gd_cS2i dX8_status_35 ct_8_48 ⟨Nat.le_of_ble_eq_true rfl, Nat.le_of_ble_eq_true rfl⟩ (Nat.le_of_ble_eq_true rfl) (Nat.le_of_ble_eq_true rfl) (c_isBelow_t (by decide) (by decide) _) ?_
          refine gd_if_eq_f 50 dX8_status_38 (by decide) (by decide) ?_
          refine gd_ald0 dX8_status_41 (by decide) ?_
          refine gd_getR (r := 71) dX8_status_42 fl_8_44 rfl rfl rfl (by decide) ?_
          refine gd_ild1 dX8_status_45 ?_
          refine gd_iald (n := 7) dX8_status_46 rfl (by decide) (by repeat' (first | with_reducible rfl | apply ni_add | apply ni_mul)) (by omega) ?_
          refine gd_goto 56 dX8_status_47 (by decide) ?_
          refine gd_iret dX8_status_56 rfl rfl ?_
          rfl
        · refine gd_ild1 dX9_status_0 ?_
          refine gd_icm1 dX9_status_1 ?_
          refine gd_bipush (v := nI 6) dX9_status_2 (by decide) ?_
          refine gd_cS3i dX9_status_4 ct_9_79 ⟨Nat.le_of_ble_eq_true rfl, Nat.le_of_ble_eq_true rfl⟩ (Nat.le_of_ble_eq_true rfl) (Nat.le_of_ble_eq_true rfl) (m_in_m1 (by decide) _) ?_
          refine gd_if_ne_t 16 dX9_status_7 (by decide) (by decide) ?_
          refine gd_ic0 dX9_status_16 ?_
          refine gd_ist2 dX9_status_17 rfl ?_
          refine gd_ic1 dX9_status_18 ?_
          refine gd_ist3 dX9_status_19 rfl ?_
          refine gd_ild3 dX9_status_20 ?_
          refine gd_bipush (v := nI 8) dX9_status_21 (by decide) ?_
          refine gd_icmp_ge_f 57 dX9_status_23 (by decide) (by decide) ?_
          refine gd_ild2 dX9_status_26 ?_
          refine gd_ild1 dX9_status_27 ?_
          refine gd_icm1 dX9_status_28 ?_
          refine gd_icmp_eq_f 39 dX9_status_29 (by decide) (by decide) ?_
          refine gd_ild1 dX9_status_32 ?_
          refine gd_ild3 dX9_status_33 ?_
          refine gd_ic1 dX9_status_34 ?_
          refine gd_isub dX9_status_35 ?_
          refine gd_icmp_ne_t 48 dX9_status_36 (by decide) (by decide) ?_
          refine gd_ic0 dX9_status_48 ?_
          refine gd_iadd dX9_status_49 ?_
          refine gd_ist2 dX9_status_50 rfl ?_
          refine gd_iinc3 (b := nI 1) dX9_status_51 (by decide) rfl ?_
          refine gd_goto 20 dX9_status_54 (by decide) ?_
          refine gd_ild3 dX9_status_20 ?_
          refine gd_bipush (v := nI 8) dX9_status_21 (by decide) ?_
          refine gd_icmp_ge_f 57 dX9_status_23 (by decide) (by decide) ?_
          refine gd_ild2 dX9_status_26 ?_
          refine gd_ild1 dX9_status_27 ?_
          refine gd_icm1 dX9_status_28 ?_
          refine gd_icmp_eq_f 39 dX9_status_29 (by decide) (by decide) ?_
          refine gd_ild1 dX9_status_32 ?_
          refine gd_ild3 dX9_status_33 ?_
          refine gd_ic1 dX9_status_34 ?_
          refine gd_isub dX9_status_35 ?_
          refine gd_icmp_ne_t 48 dX9_status_36 (by decide) (by decide) ?_
          refine gd_ic0 dX9_status_48 ?_
          refine gd_iadd dX9_status_49 ?_
          refine gd_ist2 dX9_status_50 rfl ?_
          refine gd_iinc3 (b := nI 1) dX9_status_51 (by decide) rfl ?_
          refine gd_goto 20 dX9_status_54 (by decide) ?_
          refine gd_ild3 dX9_status_20 ?_
          refine gd_bipush (v := nI 8) dX9_status_21 (by decide) ?_
          refine gd_icmp_ge_f 57 dX9_status_23 (by decide) (by decide) ?_
          refine gd_ild2 dX9_status_26 ?_
          refine gd_ild1 dX9_status_27 ?_
          refine gd_icm1 dX9_status_28 ?_
          refine gd_icmp_eq_f 39 dX9_status_29 (by decide) (by decide) ?_
          refine gd_ild1 dX9_status_32 ?_
          refine gd_ild3 dX9_status_33 ?_
          refine gd_ic1 dX9_status_34 ?_
          refine gd_isub dX9_status_35 ?_
          refine gd_icmp_ne_f 48 dX9_status_36 (by decide) (by decide) ?_
          refine gd_ald0 dX9_status_39 (by decide) ?_
          refine gd_getR (r := 73) dX9_status_40 fl_9_7 rfl rfl rfl (by decide) ?_
          refine gd_ild3 dX9_status_43 ?_
          refine gd_iald (n := 8) dX9_status_44 rfl (by decide) (by repeat' (first | with_reducible rfl | apply ni_add | apply ni_mul)) (by omega) ?_
          refine gd_goto 49 dX9_status_45 (by decide) ?_
          refine gd_iadd dX9_status_49 ?_
          refine gd_ist2 dX9_status_50 rfl ?_
          refine gd_iinc3 (b := nI 1) dX9_status_51 (by decide) rfl ?_
          refine gd_goto 20 dX9_status_54 (by decide) ?_
          refine gd_ild3 dX9_status_20 ?_
          refine gd_bipush (v := nI 8) dX9_status_21 (by decide) ?_
          refine gd_icmp_ge_f 57 dX9_status_23 (by decide) (by decide) ?_
          refine gd_ild2 dX9_status_26 ?_
          refine gd_ild1 dX9_status_27 ?_
          refine gd_icm1 dX9_status_28 ?_
          refine gd_icmp_eq_f 39 dX9_status_29 (by decide) (by decide) ?_
          refine gd_ild1 dX9_status_32 ?_
          refine gd_ild3 dX9_status_33 ?_
          refine gd_ic1 dX9_status_34 ?_
          refine gd_isub dX9_status_35 ?_
          refine gd_icmp_ne_t 48 dX9_status_36 (by decide) (by decide) ?_
          refine gd_ic0 dX9_status_48 ?_
          refine gd_iadd dX9_status_49 ?_
          refine gd_ist2 dX9_status_50 rfl ?_
          refine gd_iinc3 (b := nI 1) dX9_status_51 (by decide) rfl ?_
          refine gd_goto 20 dX9_status_54 (by decide) ?_
          refine gd_ild3 dX9_status_20 ?_
          refine gd_bipush (v := nI 8) dX9_status_21 (by decide) ?_
          refine gd_icmp_ge_f 57 dX9_status_23 (by decide) (by decide) ?_
          refine gd_ild2 dX9_status_26 ?_
          refine gd_ild1 dX9_status_27 ?_
          refine gd_icm1 dX9_status_28 ?_
          refine gd_icmp_eq_f 39 dX9_status_29 (by decide) (by decide) ?_
          refine gd_ild1 dX9_status_32 ?_
          refine gd_ild3 dX9_status_33 ?_
          refine gd_ic1 dX9_status_34 ?_
          refine gd_isub dX9_status_35 ?_
          refine gd_icmp_ne_t 48 dX9_status_36 (by decide) (by decide) ?_
          refine gd_ic0 dX9_status_48 ?_
          refine gd_iadd dX9_status_49 ?_
          refine gd_ist2 dX9_status_50 rfl ?_
          refine gd_iinc3 (b := nI 1) dX9_status_51 (by decide) rfl ?_
          refine gd_goto 20 dX9_status_54 (by decide) ?_
          refine gd_ild3 dX9_status_20 ?_
          refine gd_bipush (v := nI 8) dX9_status_21 (by decide) ?_
          refine gd_icmp_ge_f 57 dX9_status_23 (by decide) (by decide) ?_
          refine gd_ild2 dX9_status_26 ?_
          refine gd_ild1 dX9_status_27 ?_
          refine gd_icm1 dX9_status_28 ?_
          refine gd_icmp_eq_f 39 dX9_status_29 (by decide) (by decide) ?_
          refine gd_ild1 dX9_status_32 ?_
          refine gd_ild3 dX9_status_33 ?_
          refine gd_ic1 dX9_status_34 ?_
          refine gd_isub dX9_status_35 ?_
          refine gd_icmp_ne_t 48 dX9_status_36 (by decide) (by decide) ?_
          refine gd_ic0 dX9_status_48 ?_
          refine gd_iadd dX9_status_49 ?_
          refine gd_ist2 dX9_status_50 rfl ?_
          refine gd_iinc3 (b := nI 1) dX9_status_51 (by decide) rfl ?_
          refine gd_goto 20 dX9_status_54 (by decide) ?_
          refine gd_ild3 dX9_status_20 ?_
          refine gd_bipush (v := nI 8) dX9_status_21 (by decide) ?_
          refine gd_icmp_ge_f 57 dX9_status_23 (by decide) (by decide) ?_
          refine gd_ild2 dX9_status_26 ?_
          refine gd_ild1 dX9_status_27 ?_
          refine gd_icm1 dX9_status_28 ?_
          refine gd_icmp_eq_f 39 dX9_status_29 (by decide) (by decide) ?_
          refine gd_ild1 dX9_status_32 ?_
          refine gd_ild3 dX9_status_33 ?_
          refine gd_ic1 dX9_status_34 ?_
          refine gd_isub dX9_status_35 ?_
          refine gd_icmp_ne_t 48 dX9_status_36 (by decide) (by decide) ?_
          refine gd_ic0 dX9_status_48 ?_
          refine gd_iadd dX9_status_49 ?_
          refine gd_ist2 dX9_status_50 rfl ?_
          refine gd_iinc3 (b := nI 1) dX9_status_51 (by decide) rfl ?_
          refine gd_goto 20 dX9_status_54 (by decide) ?_
          refine gd_ild3 dX9_status_20 ?_
          refine gd_bipush (v := nI 8) dX9_status_21 (by decide) ?_
          refine gd_icmp_ge_t 57 dX9_status_23 (by decide) (by decide) ?_
          refine gd_ild2 dX9_status_57 ?_
          refine gd_iret dX9_status_58 rfl rfl ?_
          simp only [z_add, add_z]
          rw [show h.1 71 2 = h.1 73 3 from (i.f 2 (by decide)).symm]
      · refine Pas.read (r := .int (h.1 71 3)) (r2 := .int (h.1 71 3)) (h1 := h) (h2 := h) i rfl (Same.rf _) (Same.rf _) ?_ ?_
        · refine gd_ild1 dX8_status_0 ?_
          refine gd_icm1 dX8_status_1 ?_
          refine gd_icmp_ne_t 32 dX8_status_2 (by decide) (by decide) ?_
          refine gd_ild1 dX8_status_32 ?_
          refine gd_bipush (v := nI 7) dX8_status_33 (by decide) ?_
          refine gd_cS2i dX8_status_35 ct_8_48 ⟨Nat.le_of_ble_eq_true rfl, Nat.le_of_ble_eq_true rfl⟩ (Nat.le_of_ble_eq_true rfl) (Nat.le_of_ble_eq_true rfl) (c_isBelow_t (by decide) (by decide) _) ?_
          refine gd_if_eq_f 50 dX8_status_38 (by decide) (by decide) ?_
          refine gd_ald0 dX8_status_41 (by decide) ?_
          refine gd_getR (r := 71) dX8_status_42 fl_8_44 rfl rfl rfl (by decide) ?_
          refine gd_ild1 dX8_status_45 ?_
          refine gd_iald (n := 7) dX8_status_46 rfl (by decide) (by repeat' (first | with_reducible rfl | apply ni_add | apply ni_mul)) (by omega) ?_
          refine gd_goto 56 dX8_status_47 (by decide) ?_
          refine gd_iret dX8_status_56 rfl rfl ?_
          rfl
        · refine gd_ild1 dX9_status_0 ?_
          refine gd_icm1 dX9_status_1 ?_
          refine gd_bipush (v := nI 6) dX9_status_2 (by decide) ?_
          refine gd_cS3i dX9_status_4 ct_9_79 ⟨Nat.le_of_ble_eq_true rfl, Nat.le_of_ble_eq_true rfl⟩ (Nat.le_of_ble_eq_true rfl) (Nat.le_of_ble_eq_true rfl) (m_in_m1 (by decide) _) ?_
          refine gd_if_ne_t 16 dX9_status_7 (by decide) (by decide) ?_
          refine gd_ic0 dX9_status_16 ?_
          refine gd_ist2 dX9_status_17 rfl ?_
          refine gd_ic1 dX9_status_18 ?_
          refine gd_ist3 dX9_status_19 rfl ?_
          refine gd_ild3 dX9_status_20 ?_
          refine gd_bipush (v := nI 8) dX9_status_21 (by decide) ?_
          refine gd_icmp_ge_f 57 dX9_status_23 (by decide) (by decide) ?_
          refine gd_ild2 dX9_status_26 ?_
          refine gd_ild1 dX9_status_27 ?_
          refine gd_icm1 dX9_status_28 ?_
          refine gd_icmp_eq_f 39 dX9_status_29 (by decide) (by decide) ?_
          refine gd_ild1 dX9_status_32 ?_
          refine gd_ild3 dX9_status_33 ?_
          refine gd_ic1 dX9_status_34 ?_
          refine gd_isub dX9_status_35 ?_
          refine gd_icmp_ne_t 48 dX9_status_36 (by decide) (by decide) ?_
          refine gd_ic0 dX9_status_48 ?_
          refine gd_iadd dX9_status_49 ?_
          refine gd_ist2 dX9_status_50 rfl ?_
          refine gd_iinc3 (b := nI 1) dX9_status_51 (by decide) rfl ?_
          refine gd_goto 20 dX9_status_54 (by decide) ?_
          refine gd_ild3 dX9_status_20 ?_
          refine gd_bipush (v := nI 8) dX9_status_21 (by decide) ?_
          refine gd_icmp_ge_f 57 dX9_status_23 (by decide) (by decide) ?_
          refine gd_ild2 dX9_status_26 ?_
          refine gd_ild1 dX9_status_27 ?_
          refine gd_icm1 dX9_status_28 ?_
          refine gd_icmp_eq_f 39 dX9_status_29 (by decide) (by decide) ?_
          refine gd_ild1 dX9_status_32 ?_
          refine gd_ild3 dX9_status_33 ?_
          refine gd_ic1 dX9_status_34 ?_
          refine gd_isub dX9_status_35 ?_
          refine gd_icmp_ne_t 48 dX9_status_36 (by decide) (by decide) ?_
          refine gd_ic0 dX9_status_48 ?_
          refine gd_iadd dX9_status_49 ?_
          refine gd_ist2 dX9_status_50 rfl ?_
          refine gd_iinc3 (b := nI 1) dX9_status_51 (by decide) rfl ?_
          refine gd_goto 20 dX9_status_54 (by decide) ?_
          refine gd_ild3 dX9_status_20 ?_
          refine gd_bipush (v := nI 8) dX9_status_21 (by decide) ?_
          refine gd_icmp_ge_f 57 dX9_status_23 (by decide) (by decide) ?_
          refine gd_ild2 dX9_status_26 ?_
          refine gd_ild1 dX9_status_27 ?_
          refine gd_icm1 dX9_status_28 ?_
          refine gd_icmp_eq_f 39 dX9_status_29 (by decide) (by decide) ?_
          refine gd_ild1 dX9_status_32 ?_
          refine gd_ild3 dX9_status_33 ?_
          refine gd_ic1 dX9_status_34 ?_
          refine gd_isub dX9_status_35 ?_
          refine gd_icmp_ne_t 48 dX9_status_36 (by decide) (by decide) ?_
          refine gd_ic0 dX9_status_48 ?_
          refine gd_iadd dX9_status_49 ?_
          refine gd_ist2 dX9_status_50 rfl ?_
          refine gd_iinc3 (b := nI 1) dX9_status_51 (by decide) rfl ?_
          refine gd_goto 20 dX9_status_54 (by decide) ?_
          refine gd_ild3 dX9_status_20 ?_
          refine gd_bipush (v := nI 8) dX9_status_21 (by decide) ?_
          refine gd_icmp_ge_f 57 dX9_status_23 (by decide) (by decide) ?_
          refine gd_ild2 dX9_status_26 ?_
          refine gd_ild1 dX9_status_27 ?_
          refine gd_icm1 dX9_status_28 ?_
          refine gd_icmp_eq_f 39 dX9_status_29 (by decide) (by decide) ?_
          refine gd_ild1 dX9_status_32 ?_
          refine gd_ild3 dX9_status_33 ?_
          refine gd_ic1 dX9_status_34 ?_
          refine gd_isub dX9_status_35 ?_
          refine gd_icmp_ne_f 48 dX9_status_36 (by decide) (by decide) ?_
          refine gd_ald0 dX9_status_39 (by decide) ?_
          refine gd_getR (r := 73) dX9_status_40 fl_9_7 rfl rfl rfl (by decide) ?_
          refine gd_ild3 dX9_status_43 ?_
          refine gd_iald (n := 8) dX9_status_44 rfl (by decide) (by repeat' (first | with_reducible rfl | apply ni_add | apply ni_mul)) (by omega) ?_
          refine gd_goto 49 dX9_status_45 (by decide) ?_
          refine gd_iadd dX9_status_49 ?_
          refine gd_ist2 dX9_status_50 rfl ?_
          refine gd_iinc3 (b := nI 1) dX9_status_51 (by decide) rfl ?_
          refine gd_goto 20 dX9_status_54 (by decide) ?_
          refine gd_ild3 dX9_status_20 ?_
          refine gd_bipush (v := nI 8) dX9_status_21 (by decide) ?_
          refine gd_icmp_ge_f 57 dX9_status_23 (by decide) (by decide) ?_
          refine gd_ild2 dX9_status_26 ?_
          refine gd_ild1 dX9_status_27 ?_
          refine gd_icm1 dX9_status_28 ?_
          refine gd_icmp_eq_f 39 dX9_status_29 (by decide) (by decide) ?_
          refine gd_ild1 dX9_status_32 ?_
          refine gd_ild3 dX9_status_33 ?_
          refine gd_ic1 dX9_status_34 ?_
          refine gd_isub dX9_status_35 ?_
          refine gd_icmp_ne_t 48 dX9_status_36 (by decide) (by decide) ?_
          refine gd_ic0 dX9_status_48 ?_
          refine gd_iadd dX9_status_49 ?_
          refine gd_ist2 dX9_status_50 rfl ?_
          refine gd_iinc3 (b := nI 1) dX9_status_51 (by decide) rfl ?_
          refine gd_goto 20 dX9_status_54 (by decide) ?_
          refine gd_ild3 dX9_status_20 ?_
          refine gd_bipush (v := nI 8) dX9_status_21 (by decide) ?_
          refine gd_icmp_ge_f 57 dX9_status_23 (by decide) (by decide) ?_
          refine gd_ild2 dX9_status_26 ?_
          refine gd_ild1 dX9_status_27 ?_
          refine gd_icm1 dX9_status_28 ?_
          refine gd_icmp_eq_f 39 dX9_status_29 (by decide) (by decide) ?_
          refine gd_ild1 dX9_status_32 ?_
          refine gd_ild3 dX9_status_33 ?_
          refine gd_ic1 dX9_status_34 ?_
          refine gd_isub dX9_status_35 ?_
          refine gd_icmp_ne_t 48 dX9_status_36 (by decide) (by decide) ?_
          refine gd_ic0 dX9_status_48 ?_
          refine gd_iadd dX9_status_49 ?_
          refine gd_ist2 dX9_status_50 rfl ?_
          refine gd_iinc3 (b := nI 1) dX9_status_51 (by decide) rfl ?_
          refine gd_goto 20 dX9_status_54 (by decide) ?_
          refine gd_ild3 dX9_status_20 ?_
          refine gd_bipush (v := nI 8) dX9_status_21 (by decide) ?_
          refine gd_icmp_ge_f 57 dX9_status_23 (by decide) (by decide) ?_
          refine gd_ild2 dX9_status_26 ?_
          refine gd_ild1 dX9_status_27 ?_
          refine gd_icm1 dX9_status_28 ?_
          refine gd_icmp_eq_f 39 dX9_status_29 (by decide) (by decide) ?_
          refine gd_ild1 dX9_status_32 ?_
          refine gd_ild3 dX9_status_33 ?_
          refine gd_ic1 dX9_status_34 ?_
          refine gd_isub dX9_status_35 ?_
          refine gd_icmp_ne_t 48 dX9_status_36 (by decide) (by decide) ?_
          refine gd_ic0 dX9_status_48 ?_
          refine gd_iadd dX9_status_49 ?_
          refine gd_ist2 dX9_status_50 rfl ?_
          refine gd_iinc3 (b := nI 1) dX9_status_51 (by decide) rfl ?_
          refine gd_goto 20 dX9_status_54 (by decide) ?_
          refine gd_ild3 dX9_status_20 ?_
          refine gd_bipush (v := nI 8) dX9_status_21 (by decide) ?_
          refine gd_icmp_ge_t 57 dX9_status_23 (by decide) (by decide) ?_
          refine gd_ild2 dX9_status_57 ?_
          refine gd_iret dX9_status_58 rfl rfl ?_
          simp only [z_add, add_z]
          rw [show h.1 71 3 = h.1 73 4 from (i.f 3 (by decide)).symm]
      · refine Pas.read (r := .int (h.1 71 4)) (r2 := .int (h.1 71 4)) (h1 := h) (h2 := h) i rfl (Same.rf _) (Same.rf _) ?_ ?_
        · refine gd_ild1 dX8_status_0 ?_
          refine gd_icm1 dX8_status_1 ?_
          refine gd_icmp_ne_t 32 dX8_status_2 (by decide) (by decide) ?_
          refine gd_ild1 dX8_status_32 ?_
          refine gd_bipush (v := nI 7) dX8_status_33 (by decide) ?_
          refine gd_cS2i dX8_status_35 ct_8_48 ⟨Nat.le_of_ble_eq_true rfl, Nat.le_of_ble_eq_true rfl⟩ (Nat.le_of_ble_eq_true rfl) (Nat.le_of_ble_eq_true rfl) (c_isBelow_t (by decide) (by decide) _) ?_
          refine gd_if_eq_f 50 dX8_status_38 (by decide) (by decide) ?_
          refine gd_ald0 dX8_status_41 (by decide) ?_
          refine gd_getR (r := 71) dX8_status_42 fl_8_44 rfl rfl rfl (by decide) ?_
          refine gd_ild1 dX8_status_45 ?_
          refine gd_iald (n := 7) dX8_status_46 rfl (by decide) (by repeat' (first | with_reducible rfl | apply ni_add | apply ni_mul)) (by omega) ?_
          refine gd_goto 56 dX8_status_47 (by decide) ?_
          refine gd_iret dX8_status_56 rfl rfl ?_
          rfl
        · refine gd_ild1 dX9_status_0 ?_
          refine gd_icm1 dX9_status_1 ?_
          refine gd_bipush (v := nI 6) dX9_status_2 (by decide) ?_
          refine gd_cS3i dX9_status_4 ct_9_79 ⟨Nat.le_of_ble_eq_true rfl, Nat.le_of_ble_eq_true rfl⟩ (Nat.le_of_ble_eq_true rfl) (Nat.le_of_ble_eq_true rfl) (m_in_m1 (by decide) _) ?_
          refine gd_if_ne_t 16 dX9_status_7 (by decide) (by decide) ?_
          refine gd_ic0 dX9_status_16 ?_
          refine gd_ist2 dX9_status_17 rfl ?_
          refine gd_ic1 dX9_status_18 ?_
          refine gd_ist3 dX9_status_19 rfl ?_
          refine gd_ild3 dX9_status_20 ?_
          refine gd_bipush (v := nI 8) dX9_status_21 (by decide) ?_
          refine gd_icmp_ge_f 57 dX9_status_23 (by decide) (by decide) ?_
          refine gd_ild2 dX9_status_26 ?_
          refine gd_ild1 dX9_status_27 ?_
          refine gd_icm1 dX9_status_28 ?_
          refine gd_icmp_eq_f 39 dX9_status_29 (by decide) (by decide) ?_
          refine gd_ild1 dX9_status_32 ?_
          refine gd_ild3 dX9_status_33 ?_
          refine gd_ic1 dX9_status_34 ?_
          refine gd_isub dX9_status_35 ?_
          refine gd_icmp_ne_t 48 dX9_status_36 (by decide) (by decide) ?_
          refine gd_ic0 dX9_status_48 ?_
          refine gd_iadd dX9_status_49 ?_
          refine gd_ist2 dX9_status_50 rfl ?_
          refine gd_iinc3 (b := nI 1) dX9_status_51 (by decide) rfl ?_
          refine gd_goto 20 dX9_status_54 (by decide) ?_
          refine gd_ild3 dX9_status_20 ?_
          refine gd_bipush (v := nI 8) dX9_status_21 (by decide) ?_
          refine gd_icmp_ge_f 57 dX9_status_23 (by decide) (by decide) ?_
          refine gd_ild2 dX9_status_26 ?_
          refine gd_ild1 dX9_status_27 ?_
          refine gd_icm1 dX9_status_28 ?_
          refine gd_icmp_eq_f 39 dX9_status_29 (by decide) (by decide) ?_
          refine gd_ild1 dX9_status_32 ?_
          refine gd_ild3 dX9_status_33 ?_
          refine gd_ic1 dX9_status_34 ?_
          refine gd_isub dX9_status_35 ?_
          refine gd_icmp_ne_t 48 dX9_status_36 (by decide) (by decide) ?_
          refine gd_ic0 dX9_status_48 ?_
          refine gd_iadd dX9_status_49 ?_
          refine gd_ist2 dX9_status_50 rfl ?_
          refine gd_iinc3 (b := nI 1) dX9_status_51 (by decide) rfl ?_
          refine gd_goto 20 dX9_status_54 (by decide) ?_
          refine gd_ild3 dX9_status_20 ?_
          refine gd_bipush (v := nI 8) dX9_status_21 (by decide) ?_
          refine gd_icmp_ge_f 57 dX9_status_23 (by decide) (by decide) ?_
          refine gd_ild2 dX9_status_26 ?_
          refine gd_ild1 dX9_status_27 ?_
          refine gd_icm1 dX9_status_28 ?_
          refine gd_icmp_eq_f 39 dX9_status_29 (by decide) (by decide) ?_
          refine gd_ild1 dX9_status_32 ?_
          refine gd_ild3 dX9_status_33 ?_
          refine gd_ic1 dX9_status_34 ?_
          refine gd_isub dX9_status_35 ?_
          refine gd_icmp_ne_t 48 dX9_status_36 (by decide) (by decide) ?_
          refine gd_ic0 dX9_status_48 ?_
          refine gd_iadd dX9_status_49 ?_
          refine gd_ist2 dX9_status_50 rfl ?_
          refine gd_iinc3 (b := nI 1) dX9_status_51 (by decide) rfl ?_
          refine gd_goto 20 dX9_status_54 (by decide) ?_
          refine gd_ild3 dX9_status_20 ?_
          refine gd_bipush (v := nI 8) dX9_status_21 (by decide) ?_
          refine gd_icmp_ge_f 57 dX9_status_23 (by decide) (by decide) ?_
          refine gd_ild2 dX9_status_26 ?_
          refine gd_ild1 dX9_status_27 ?_
          refine gd_icm1 dX9_status_28 ?_
          refine gd_icmp_eq_f 39 dX9_status_29 (by decide) (by decide) ?_
          refine gd_ild1 dX9_status_32 ?_
          refine gd_ild3 dX9_status_33 ?_
          refine gd_ic1 dX9_status_34 ?_
          refine gd_isub dX9_status_35 ?_
          refine gd_icmp_ne_t 48 dX9_status_36 (by decide) (by decide) ?_
          refine gd_ic0 dX9_status_48 ?_
          refine gd_iadd dX9_status_49 ?_
          refine gd_ist2 dX9_status_50 rfl ?_
          refine gd_iinc3 (b := nI 1) dX9_status_51 (by decide) rfl ?_
          refine gd_goto 20 dX9_status_54 (by decide) ?_
          refine gd_ild3 dX9_status_20 ?_
          refine gd_bipush (v := nI 8) dX9_status_21 (by decide) ?_
          refine gd_icmp_ge_f 57 dX9_status_23 (by decide) (by decide) ?_
          refine gd_ild2 dX9_status_26 ?_
          refine gd_ild1 dX9_status_27 ?_
          refine gd_icm1 dX9_status_28 ?_
          refine gd_icmp_eq_f 39 dX9_status_29 (by decide) (by decide) ?_
          refine gd_ild1 dX9_status_32 ?_
          refine gd_ild3 dX9_status_33 ?_
          refine gd_ic1 dX9_status_34 ?_
          refine gd_isub dX9_status_35 ?_
          refine gd_icmp_ne_f 48 dX9_status_36 (by decide) (by decide) ?_
          refine gd_ald0 dX9_status_39 (by decide) ?_
          refine gd_getR (r := 73) dX9_status_40 fl_9_7 rfl rfl rfl (by decide) ?_
          refine gd_ild3 dX9_status_43 ?_
          refine gd_iald (n := 8) dX9_status_44 rfl (by decide) (by repeat' (first | with_reducible rfl | apply ni_add | apply ni_mul)) (by omega) ?_
          refine gd_goto 49 dX9_status_45 (by decide) ?_
          refine gd_iadd dX9_status_49 ?_
          refine gd_ist2 dX9_status_50 rfl ?_
          refine gd_iinc3 (b := nI 1) dX9_status_51 (by decide) rfl ?_
          refine gd_goto 20 dX9_status_54 (by decide) ?_
          refine gd_ild3 dX9_status_20 ?_
          refine gd_bipush (v := nI 8) dX9_status_21 (by decide) ?_
          refine gd_icmp_ge_f 57 dX9_status_23 (by decide) (by decide) ?_
          refine gd_ild2 dX9_status_26 ?_
          refine gd_ild1 dX9_status_27 ?_
          refine gd_icm1 dX9_status_28 ?_
          refine gd_icmp_eq_f 39 dX9_status_29 (by decide) (by decide) ?_
          refine gd_ild1 dX9_status_32 ?_
          refine gd_ild3 dX9_status_33 ?_
          refine gd_ic1 dX9_status_34 ?_
          refine gd_isub dX9_status_35 ?_
          refine gd_icmp_ne_t 48 dX9_status_36 (by decide) (by decide) ?_
          refine gd_ic0 dX9_status_48 ?_
          refine gd_iadd dX9_status_49 ?_
          refine gd_ist2 dX9_status_50 rfl ?_
          refine gd_iinc3 (b := nI 1) dX9_status_51 (by decide) rfl ?_
          refine gd_goto 20 dX9_status_54 (by decide) ?_
          refine gd_ild3 dX9_status_20 ?_
          refine gd_bipush (v := nI 8) dX9_status_21 (by decide) ?_
          refine gd_icmp_ge_f 57 dX9_status_23 (by decide) (by decide) ?_
          refine gd_ild2 dX9_status_26 ?_
          refine gd_ild1 dX9_status_27 ?_
          refine gd_icm1 dX9_status_28 ?_
          refine gd_icmp_eq_f 39 dX9_status_29 (by decide) (by decide) ?_
          refine gd_ild1 dX9_status_32 ?_
          refine gd_ild3 dX9_status_33 ?_
          refine gd_ic1 dX9_status_34 ?_
          refine gd_isub dX9_status_35 ?_
          refine gd_icmp_ne_t 48 dX9_status_36 (by decide) (by decide) ?_
          refine gd_ic0 dX9_status_48 ?_
          refine gd_iadd dX9_status_49 ?_
          refine gd_ist2 dX9_status_50 rfl ?_
          refine gd_iinc3 (b := nI 1) dX9_status_51 (by decide) rfl ?_
          refine gd_goto 20 dX9_status_54 (by decide) ?_
          refine gd_ild3 dX9_status_20 ?_
          refine gd_bipush (v := nI 8) dX9_status_21 (by decide) ?_
          refine gd_icmp_ge_t 57 dX9_status_23 (by decide) (by decide) ?_
          refine gd_ild2 dX9_status_57 ?_
          refine gd_iret dX9_status_58 rfl rfl ?_
          simp only [z_add, add_z]
          rw [show h.1 71 4 = h.1 73 5 from (i.f 4 (by decide)).symm]
      · refine Pas.read (r := .int (h.1 71 5)) (r2 := .int (h.1 71 5)) (h1 := h) (h2 := h) i rfl (Same.rf _) (Same.rf _) ?_ ?_
        · refine gd_ild1 dX8_status_0 ?_
          refine gd_icm1 dX8_status_1 ?_
          refine gd_icmp_ne_t 32 dX8_status_2 (by decide) (by decide) ?_
          refine gd_ild1 dX8_status_32 ?_
          refine gd_bipush (v := nI 7) dX8_status_33 (by decide) ?_
          refine gd_cS2i dX8_status_35 ct_8_48 ⟨Nat.le_of_ble_eq_true rfl, Nat.le_of_ble_eq_true rfl⟩ (Nat.le_of_ble_eq_true rfl) (Nat.le_of_ble_eq_true rfl) (c_isBelow_t (by decide) (by decide) _) ?_
          refine gd_if_eq_f 50 dX8_status_38 (by decide) (by decide) ?_
          refine gd_ald0 dX8_status_41 (by decide) ?_
          refine gd_getR (r := 71) dX8_status_42 fl_8_44 rfl rfl rfl (by decide) ?_
          refine gd_ild1 dX8_status_45 ?_
          refine gd_iald (n := 7) dX8_status_46 rfl (by decide) (by repeat' (first | with_reducible rfl | apply ni_add | apply ni_mul)) (by omega) ?_
          refine gd_goto 56 dX8_status_47 (by decide) ?_
          refine gd_iret dX8_status_56 rfl rfl ?_
          rfl
        · refine gd_ild1 dX9_status_0 ?_
          refine gd_icm1 dX9_status_1 ?_
          refine gd_bipush (v := nI 6) dX9_status_2 (by decide) ?_
          refine gd_cS3i dX9_status_4 ct_9_79 ⟨Nat.le_of_ble_eq_true rfl, Nat.le_of_ble_eq_true rfl⟩ (Nat.le_of_ble_eq_true rfl) (Nat.le_of_ble_eq_true rfl) (m_in_m1 (by decide) _) ?_
          refine gd_if_ne_t 16 dX9_status_7 (by decide) (by decide) ?_
          refine gd_ic0 dX9_status_16 ?_
          refine gd_ist2 dX9_status_17 rfl ?_
          refine gd_ic1 dX9_status_18 ?_
          refine gd_ist3 dX9_status_19 rfl ?_
          refine gd_ild3 dX9_status_20 ?_
          refine gd_bipush (v := nI 8) dX9_status_21 (by decide) ?_
          refine gd_icmp_ge_f 57 dX9_status_23 (by decide) (by decide) ?_
          refine gd_ild2 dX9_status_26 ?_
          refine gd_ild1 dX9_status_27 ?_
          refine gd_icm1 dX9_status_28 ?_
          refine gd_icmp_eq_f 39 dX9_status_29 (by decide) (by decide) ?_
          refine gd_ild1 dX9_status_32 ?_
          refine gd_ild3 dX9_status_33 ?_
          refine gd_ic1 dX9_status_34 ?_
          refine gd_isub dX9_status_35 ?_
          refine gd_icmp_ne_t 48 dX9_status_36 (by decide) (by decide) ?_
          refine gd_ic0 dX9_status_48 ?_
          refine gd_iadd dX9_status_49 ?_
          refine gd_ist2 dX9_status_50 rfl ?_
          refine gd_iinc3 (b := nI 1) dX9_status_51 (by decide) rfl ?_
          refine gd_goto 20 dX9_status_54 (by decide) ?_
          refine gd_ild3 dX9_status_20 ?_
          refine gd_bipush (v := nI 8) dX9_status_21 (by decide) ?_
          refine gd_icmp_ge_f 57 dX9_status_23 (by decide) (by decide) ?_
          refine gd_ild2 dX9_status_26 ?_
          refine gd_ild1 dX9_status_27 ?_
          refine gd_icm1 dX9_status_28 ?_
          refine gd_icmp_eq_f 39 dX9_status_29 (by decide) (by decide) ?_
          refine gd_ild1 dX9_status_32 ?_
          refine gd_ild3 dX9_status_33 ?_
          refine gd_ic1 dX9_status_34 ?_
          refine gd_isub dX9_status_35 ?_
          refine gd_icmp_ne_t 48 dX9_status_36 (by decide) (by decide) ?_
          refine gd_ic0 dX9_status_48 ?_
          refine gd_iadd dX9_status_49 ?_
          refine gd_ist2 dX9_status_50 rfl ?_
          refine gd_iinc3 (b := nI 1) dX9_status_51 (by decide) rfl ?_
          refine gd_goto 20 dX9_status_54 (by decide) ?_
          refine gd_ild3 dX9_status_20 ?_
          refine gd_bipush (v := nI 8) dX9_status_21 (by decide) ?_
          refine gd_icmp_ge_f 57 dX9_status_23 (by decide) (by decide) ?_
          refine gd_ild2 dX9_status_26 ?_
          refine gd_ild1 dX9_status_27 ?_
          refine gd_icm1 dX9_status_28 ?_
          refine gd_icmp_eq_f 39 dX9_status_29 (by decide) (by decide) ?_
          refine gd_ild1 dX9_status_32 ?_
          refine gd_ild3 dX9_status_33 ?_
          refine gd_ic1 dX9_status_34 ?_
          refine gd_isub dX9_status_35 ?_
          refine gd_icmp_ne_t 48 dX9_status_36 (by decide) (by decide) ?_
          refine gd_ic0 dX9_status_48 ?_
          refine gd_iadd dX9_status_49 ?_
          refine gd_ist2 dX9_status_50 rfl ?_
          refine gd_iinc3 (b := nI 1) dX9_status_51 (by decide) rfl ?_
          refine gd_goto 20 dX9_status_54 (by decide) ?_
          refine gd_ild3 dX9_status_20 ?_
          refine gd_bipush (v := nI 8) dX9_status_21 (by decide) ?_
          refine gd_icmp_ge_f 57 dX9_status_23 (by decide) (by decide) ?_
          refine gd_ild2 dX9_status_26 ?_
          refine gd_ild1 dX9_status_27 ?_
          refine gd_icm1 dX9_status_28 ?_
          refine gd_icmp_eq_f 39 dX9_status_29 (by decide) (by decide) ?_
          refine gd_ild1 dX9_status_32 ?_
          refine gd_ild3 dX9_status_33 ?_
          refine gd_ic1 dX9_status_34 ?_
          refine gd_isub dX9_status_35 ?_
          refine gd_icmp_ne_t 48 dX9_status_36 (by decide) (by decide) ?_
          refine gd_ic0 dX9_status_48 ?_
          refine gd_iadd dX9_status_49 ?_
          refine gd_ist2 dX9_status_50 rfl ?_
          refine gd_iinc3 (b := nI 1) dX9_status_51 (by decide) rfl ?_
          refine gd_goto 20 dX9_status_54 (by decide) ?_
          refine gd_ild3 dX9_status_20 ?_
          refine gd_bipush (v := nI 8) dX9_status_21 (by decide) ?_
          refine gd_icmp_ge_f 57 dX9_status_23 (by decide) (by decide) ?_
          refine gd_ild2 dX9_status_26 ?_
          refine gd_ild1 dX9_status_27 ?_
          refine gd_icm1 dX9_status_28 ?_
          refine gd_icmp_eq_f 39 dX9_status_29 (by decide) (by decide) ?_
          refine gd_ild1 dX9_status_32 ?_
          refine gd_ild3 dX9_status_33 ?_
          refine gd_ic1 dX9_status_34 ?_
          refine gd_isub dX9_status_35 ?_
          refine gd_icmp_ne_t 48 dX9_status_36 (by decide) (by decide) ?_
          refine gd_ic0 dX9_status_48 ?_
          refine gd_iadd dX9_status_49 ?_
          refine gd_ist2 dX9_status_50 rfl ?_
          refine gd_iinc3 (b := nI 1) dX9_status_51 (by decide) rfl ?_
          refine gd_goto 20 dX9_status_54 (by decide) ?_
          refine gd_ild3 dX9_status_20 ?_
          refine gd_bipush (v := nI 8) dX9_status_21 (by decide) ?_
          refine gd_icmp_ge_f 57 dX9_status_23 (by decide) (by decide) ?_
          refine gd_ild2 dX9_status_26 ?_
          refine gd_ild1 dX9_status_27 ?_
          refine gd_icm1 dX9_status_28 ?_
          refine gd_icmp_eq_f 39 dX9_status_29 (by decide) (by decide) ?_
          refine gd_ild1 dX9_status_32 ?_
          refine gd_ild3 dX9_status_33 ?_
          refine gd_ic1 dX9_status_34 ?_
          refine gd_isub dX9_status_35 ?_
          refine gd_icmp_ne_f 48 dX9_status_36 (by decide) (by decide) ?_
          refine gd_ald0 dX9_status_39 (by decide) ?_
          refine gd_getR (r := 73) dX9_status_40 fl_9_7 rfl rfl rfl (by decide) ?_
          refine gd_ild3 dX9_status_43 ?_
          refine gd_iald (n := 8) dX9_status_44 rfl (by decide) (by repeat' (first | with_reducible rfl | apply ni_add | apply ni_mul)) (by omega) ?_
          refine gd_goto 49 dX9_status_45 (by decide) ?_
          refine gd_iadd dX9_status_49 ?_
          refine gd_ist2 dX9_status_50 rfl ?_
          refine gd_iinc3 (b := nI 1) dX9_status_51 (by decide) rfl ?_
          refine gd_goto 20 dX9_status_54 (by decide) ?_
          refine gd_ild3 dX9_status_20 ?_
          refine gd_bipush (v := nI 8) dX9_status_21 (by decide) ?_
          refine gd_icmp_ge_f 57 dX9_status_23 (by decide) (by decide) ?_
          refine gd_ild2 dX9_status_26 ?_
          refine gd_ild1 dX9_status_27 ?_
          refine gd_icm1 dX9_status_28 ?_
          refine gd_icmp_eq_f 39 dX9_status_29 (by decide) (by decide) ?_
          refine gd_ild1 dX9_status_32 ?_
          refine gd_ild3 dX9_status_33 ?_
          refine gd_ic1 dX9_status_34 ?_
          refine gd_isub dX9_status_35 ?_
          refine gd_icmp_ne_t 48 dX9_status_36 (by decide) (by decide) ?_
          refine gd_ic0 dX9_status_48 ?_
          refine gd_iadd dX9_status_49 ?_
          refine gd_ist2 dX9_status_50 rfl ?_
          refine gd_iinc3 (b := nI 1) dX9_status_51 (by decide) rfl ?_
          refine gd_goto 20 dX9_status_54 (by decide) ?_
          refine gd_ild3 dX9_status_20 ?_
          refine gd_bipush (v := nI 8) dX9_status_21 (by decide) ?_
          refine gd_icmp_ge_t 57 dX9_status_23 (by decide) (by decide) ?_
          refine gd_ild2 dX9_status_57 ?_
          refine gd_iret dX9_status_58 rfl rfl ?_
          simp only [z_add, add_z]
          rw [show h.1 71 5 = h.1 73 6 from (i.f 5 (by decide)).symm]
      · refine Pas.read (r := .int (h.1 71 6)) (r2 := .int (h.1 71 6)) (h1 := h) (h2 := h) i rfl (Same.rf _) (Same.rf _) ?_ ?_
        · refine gd_ild1 dX8_status_0 ?_
          refine gd_icm1 dX8_status_1 ?_
          refine gd_icmp_ne_t 32 dX8_status_2 (by decide) (by decide) ?_
          refine gd_ild1 dX8_status_32 ?_
          refine gd_bipush (v := nI 7) dX8_status_33 (by decide) ?_
          refine gd_cS2i dX8_status_35 ct_8_48 ⟨Nat.le_of_ble_eq_true rfl, Nat.le_of_ble_eq_true rfl⟩ (Nat.le_of_ble_eq_true rfl) (Nat.le_of_ble_eq_true rfl) (c_isBelow_t (by decide) (by decide) _) ?_
          refine gd_if_eq_f 50 dX8_status_38 (by decide) (by decide) ?_
          refine gd_ald0 dX8_status_41 (by decide) ?_
          refine gd_getR (r := 71) dX8_status_42 fl_8_44 rfl rfl rfl (by decide) ?_
          refine gd_ild1 dX8_status_45 ?_
          refine gd_iald (n := 7) dX8_status_46 rfl (by decide) (by repeat' (first | with_reducible rfl | apply ni_add | apply ni_mul)) (by omega) ?_
          refine gd_goto 56 dX8_status_47 (by decide) ?_
          refine gd_iret dX8_status_56 rfl rfl ?_
          rfl
        · refine gd_ild1 dX9_status_0 ?_
          refine gd_icm1 dX9_status_1 ?_
          refine gd_bipush (v := nI 6) dX9_status_2 (by decide) ?_
          refine gd_cS3i dX9_status_4 ct_9_79 ⟨Nat.le_of_ble_eq_true rfl, Nat.le_of_ble_eq_true rfl⟩ (Nat.le_of_ble_eq_true rfl) (Nat.le_of_ble_eq_true rfl) (m_in_m1 (by decide) _) ?_
          refine gd_if_ne_t 16 dX9_status_7 (by decide) (by decide) ?_
          refine gd_ic0 dX9_status_16 ?_
          refine gd_ist2 dX9_status_17 rfl ?_
          refine gd_ic1 dX9_status_18 ?_
          refine gd_ist3 dX9_status_19 rfl ?_
          refine gd_ild3 dX9_status_20 ?_
          refine gd_bipush (v := nI 8) dX9_status_21 (by decide) ?_
          refine gd_icmp_ge_f 57 dX9_status_23 (by decide) (by decide) ?_
          refine gd_ild2 dX9_status_26 ?_
          refine gd_ild1 dX9_status_27 ?_
          refine gd_icm1 dX9_status_28 ?_
          refine gd_icmp_eq_f 39 dX9_status_29 (by decide) (by decide) ?_
          refine gd_ild1 dX9_status_32 ?_
          refine gd_ild3 dX9_status_33 ?_
          refine gd_ic1 dX9_status_34 ?_
          refine gd_isub dX9_status_35 ?_
          refine gd_icmp_ne_t 48 dX9_status_36 (by decide) (by decide) ?_
          refine gd_ic0 dX9_status_48 ?_
          refine gd_iadd dX9_status_49 ?_
          refine gd_ist2 dX9_status_50 rfl ?_
          refine gd_iinc3 (b := nI 1) dX9_status_51 (by decide) rfl ?_
          refine gd_goto 20 dX9_status_54 (by decide) ?_
          refine gd_ild3 dX9_status_20 ?_
          refine gd_bipush (v := nI 8) dX9_status_21 (by decide) ?_
          refine gd_icmp_ge_f 57 dX9_status_23 (by decide) (by decide) ?_
          refine gd_ild2 dX9_status_26 ?_
          refine gd_ild1 dX9_status_27 ?_
          refine gd_icm1 dX9_status_28 ?_
          refine gd_icmp_eq_f 39 dX9_status_29 (by decide) (by decide) ?_
          refine gd_ild1 dX9_status_32 ?_
          refine gd_ild3 dX9_status_33 ?_
          refine gd_ic1 dX9_status_34 ?_
          refine gd_isub dX9_status_35 ?_
          refine gd_icmp_ne_t 48 dX9_status_36 (by decide) (by decide) ?_
          refine gd_ic0 dX9_status_48 ?_
          refine gd_iadd dX9_status_49 ?_
          refine gd_ist2 dX9_status_50 rfl ?_
          refine gd_iinc3 (b := nI 1) dX9_status_51 (by decide) rfl ?_
          refine gd_goto 20 dX9_status_54 (by decide) ?_
          refine gd_ild3 dX9_status_20 ?_
          refine gd_bipush (v := nI 8) dX9_status_21 (by decide) ?_
          refine gd_icmp_ge_f 57 dX9_status_23 (by decide) (by decide) ?_
          refine gd_ild2 dX9_status_26 ?_
          refine gd_ild1 dX9_status_27 ?_
          refine gd_icm1 dX9_status_28 ?_
          refine gd_icmp_eq_f 39 dX9_status_29 (by decide) (by decide) ?_
          refine gd_ild1 dX9_status_32 ?_
          refine gd_ild3 dX9_status_33 ?_
          refine gd_ic1 dX9_status_34 ?_
          refine gd_isub dX9_status_35 ?_
          refine gd_icmp_ne_t 48 dX9_status_36 (by decide) (by decide) ?_
          refine gd_ic0 dX9_status_48 ?_
          refine gd_iadd dX9_status_49 ?_
          refine gd_ist2 dX9_status_50 rfl ?_
          refine gd_iinc3 (b := nI 1) dX9_status_51 (by decide) rfl ?_
          refine gd_goto 20 dX9_status_54 (by decide) ?_
          refine gd_ild3 dX9_status_20 ?_
          refine gd_bipush (v := nI 8) dX9_status_21 (by decide) ?_
          refine gd_icmp_ge_f 57 dX9_status_23 (by decide) (by decide) ?_
          refine gd_ild2 dX9_status_26 ?_
          refine gd_ild1 dX9_status_27 ?_
          refine gd_icm1 dX9_status_28 ?_
          refine gd_icmp_eq_f 39 dX9_status_29 (by decide) (by decide) ?_
          refine gd_ild1 dX9_status_32 ?_
          refine gd_ild3 dX9_status_33 ?_
          refine gd_ic1 dX9_status_34 ?_
          refine gd_isub dX9_status_35 ?_
          refine gd_icmp_ne_t 48 dX9_status_36 (by decide) (by decide) ?_
          refine gd_ic0 dX9_status_48 ?_
          refine gd_iadd dX9_status_49 ?_
          refine gd_ist2 dX9_status_50 rfl ?_
          refine gd_iinc3 (b := nI 1) dX9_status_51 (by decide) rfl ?_
          refine gd_goto 20 dX9_status_54 (by decide) ?_
          refine gd_ild3 dX9_status_20 ?_
          refine gd_bipush (v := nI 8) dX9_status_21 (by decide) ?_
          refine gd_icmp_ge_f 57 dX9_status_23 (by decide) (by decide) ?_
          refine gd_ild2 dX9_status_26 ?_
          refine gd_ild1 dX9_status_27 ?_
          refine gd_icm1 dX9_status_28 ?_
          refine gd_icmp_eq_f 39 dX9_status_29 (by decide) (by decide) ?_
          refine gd_ild1 dX9_status_32 ?_
          refine gd_ild3 dX9_status_33 ?_
          refine gd_ic1 dX9_status_34 ?_
          refine gd_isub dX9_status_35 ?_
          refine gd_icmp_ne_t 48 dX9_status_36 (by decide) (by decide) ?_
          refine gd_ic0 dX9_status_48 ?_
          refine gd_iadd dX9_status_49 ?_
          refine gd_ist2 dX9_status_50 rfl ?_
          refine gd_iinc3 (b := nI 1) dX9_status_51 (by decide) rfl ?_
          refine gd_goto 20 dX9_status_54 (by decide) ?_
          refine gd_ild3 dX9_status_20 ?_
          refine gd_bipush (v := nI 8) dX9_status_21 (by decide) ?_
          refine gd_icmp_ge_f 57 dX9_status_23 (by decide) (by decide) ?_
          refine gd_ild2 dX9_status_26 ?_
          refine gd_ild1 dX9_status_27 ?_
          refine gd_icm1 dX9_status_28 ?_
          refine gd_icmp_eq_f 39 dX9_status_29 (by decide) (by decide) ?_
          refine gd_ild1 dX9_status_32 ?_
          refine gd_ild3 dX9_status_33 ?_
          refine gd_ic1 dX9_status_34 ?_
          refine gd_isub dX9_status_35 ?_
          refine gd_icmp_ne_t 48 dX9_status_36 (by decide) (by decide) ?_
          refine gd_ic0 dX9_status_48 ?_
          refine gd_iadd dX9_status_49 ?_
          refine gd_ist2 dX9_status_50 rfl ?_
          refine gd_iinc3 (b := nI 1) dX9_status_51 (by decide) rfl ?_
          refine gd_goto 20 dX9_status_54 (by decide) ?_
          refine gd_ild3 dX9_status_20 ?_
          refine gd_bipush (v := nI 8) dX9_status_21 (by decide) ?_
          refine gd_icmp_ge_f 57 dX9_status_23 (by decide) (by decide) ?_
          refine gd_ild2 dX9_status_26 ?_
          refine gd_ild1 dX9_status_27 ?_
          refine gd_icm1 dX9_status_28 ?_
          refine gd_icmp_eq_f 39 dX9_status_29 (by decide) (by decide) ?_
          refine gd_ild1 dX9_status_32 ?_
          refine gd_ild3 dX9_status_33 ?_
          refine gd_ic1 dX9_status_34 ?_
          refine gd_isub dX9_status_35 ?_
          refine gd_icmp_ne_f 48 dX9_status_36 (by decide) (by decide) ?_
          refine gd_ald0 dX9_status_39 (by decide) ?_
          refine gd_getR (r := 73) dX9_status_40 fl_9_7 rfl rfl rfl (by decide) ?_
          refine gd_ild3 dX9_status_43 ?_
          refine gd_iald (n := 8) dX9_status_44 rfl (by decide) (by repeat' (first | with_reducible rfl | apply ni_add | apply ni_mul)) (by omega) ?_
          refine gd_goto 49 dX9_status_45 (by decide) ?_
          refine gd_iadd dX9_status_49 ?_
          refine gd_ist2 dX9_status_50 rfl ?_
          refine gd_iinc3 (b := nI 1) dX9_status_51 (by decide) rfl ?_
          refine gd_goto 20 dX9_status_54 (by decide) ?_
          refine gd_ild3 dX9_status_20 ?_
          refine gd_bipush (v := nI 8) dX9_status_21 (by decide) ?_
          refine gd_icmp_ge_t 57 dX9_status_23 (by decide) (by decide) ?_
          refine gd_ild2 dX9_status_57 ?_
          refine gd_iret dX9_status_58 rfl rfl ?_
          simp only [z_add, add_z]
          rw [show h.1 71 6 = h.1 73 7 from (i.f 6 (by decide)).symm]
    · refine Pas.find (h1 := h) (h2 := hf (h) 0) (v := -1000000001) (w := (-1000000000 : Int32) - nI 1) 0 i (by decide) (by decide) (by decide) (Same.rf _) (Same.rf _) ?_ ?_
      · refine gd_ild1 dX8_status_0 ?_
        refine gd_icm1 dX8_status_1 ?_
        refine gd_icmp_ne_t 32 dX8_status_2 (by decide) (ha) ?_
        refine gd_ild1 dX8_status_32 ?_
        refine gd_bipush (v := nI 7) dX8_status_33 (by decide) ?_
        refine gd_cS2i dX8_status_35 ct_8_48 ⟨Nat.le_of_ble_eq_true rfl, Nat.le_of_ble_eq_true rfl⟩ (Nat.le_of_ble_eq_true rfl) (Nat.le_of_ble_eq_true rfl) (c_isBelow_f hb _) ?_
        refine gd_if_eq_t 50 dX8_status_38 (by decide) (by decide) ?_
        refine gd_ald0 dX8_status_50 (by decide) ?_
        refine gd_ldc dX8_status_51 ld_8_52 ?_
        refine gd_cV1i dX8_status_53 ct_8_53 rc_0 ⟨Nat.le_of_ble_eq_true rfl, Nat.le_of_ble_eq_true rfl⟩ (Nat.le_of_ble_eq_true rfl) (Nat.le_of_ble_eq_true rfl) (c_f0 _) ?_
        refine gd_iret dX8_status_56 rfl rfl ?_
        rfl
      · refine gd_ild1 dX9_status_0 ?_
        refine gd_icm1 dX9_status_1 ?_
        refine gd_bipush (v := nI 6) dX9_status_2 (by decide) ?_
        refine gd_cS3i dX9_status_4 ct_9_79 ⟨Nat.le_of_ble_eq_true rfl, Nat.le_of_ble_eq_true rfl⟩ (Nat.le_of_ble_eq_true rfl) (Nat.le_of_ble_eq_true rfl) (m_in_mf ha hb _) ?_
        refine gd_if_ne_f 16 dX9_status_7 (by decide) (by decide) ?_
        refine gd_ald0 dX9_status_10 (by decide) ?_
        refine gd_ic1 dX9_status_11 ?_
        refine gd_cV1i dX9_status_12 ct_9_97 rc_72 ⟨Nat.le_of_ble_eq_true rfl, Nat.le_of_ble_eq_true rfl⟩ (Nat.le_of_ble_eq_true rfl) (Nat.le_of_ble_eq_true rfl) (m_f0 _) ?_
        refine gd_iret dX9_status_15 rfl rfl ?_
        rfl
