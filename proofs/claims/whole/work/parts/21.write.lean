theorem Pas.findV {Mc Mm : MD} {ac am : List Value} {h h1 h2 : Hp} {r r2 : Value} (j : Nat) (i : Inv h) (hj : j < 7) (hr : r2 = r) (q1 : Same h h1) (q2 : Same (hf h1 j) h2) (g1 : Gd Mc 0 ac [] h (some r, hf h1 j)) (g2 : Gd Mm 0 am [] (hf h1 j) (some r2, hm h2 j)) : Pas Mc Mm ac am h := by
  subst hr
  refine ⟨_, _, _, g1, g2, inv_find2 i hj q1 q2, ?_, ?_⟩
  · unfold hm; rw [sI_n (by decide), q2.1 95 (by decide)]; unfold hf; rw [sI_n (by decide), q1.1 95 (by decide)]
  · exact (q2.2.2 95 (by decide)).trans (q1.2.2 95 (by decide))
theorem c_isMissing0 {h : Hp} {q v : Nat} (hq : q < 4) (e : h.1 58 q = nI v) (hv : 0 < v) (hv2 : v < 100) : Gd mX3_isMissing 0 [.ref 56, .int (nI q)] [] h (some (.int (nI 0)), h) := by
  refine gd_ald0 dX3_isMissing_0 (by decide) ?_
  refine gd_getR (r := 58) dX3_isMissing_1 fl_3_15 rfl rfl rfl (by decide) ?_
  refine gd_ild1 dX3_isMissing_4 ?_
  refine gd_iald (n := 4) dX3_isMissing_5 rfl (by decide) (by repeat' (first | with_reducible rfl | apply ni_add | apply ni_mul)) (by omega) ?_
  rw [e]
  refine gd_if_ne_t 13 dX3_isMissing_6 (by decide) (by exact nI_ne0 (by omega) (by omega)) ?_
  refine gd_ic0 dX3_isMissing_13 ?_
  refine gd_iret dX3_isMissing_14 rfl (by first | rfl | decide | exact nar_bi _ | assumption) ?_
  rfl
theorem c_isMissing1 {h : Hp} {q : Nat} (hq : q < 4) (e : h.1 58 q = nI 0) : Gd mX3_isMissing 0 [.ref 56, .int (nI q)] [] h (some (.int (nI 1)), h) := by
  refine gd_ald0 dX3_isMissing_0 (by decide) ?_
  refine gd_getR (r := 58) dX3_isMissing_1 fl_3_15 rfl rfl rfl (by decide) ?_
  refine gd_ild1 dX3_isMissing_4 ?_
  refine gd_iald (n := 4) dX3_isMissing_5 rfl (by decide) (by repeat' (first | with_reducible rfl | apply ni_add | apply ni_mul)) (by omega) ?_
  rw [e]
  refine gd_if_ne_f 13 dX3_isMissing_6 (by decide) (by decide) ?_
  refine gd_ic1 dX3_isMissing_9 ?_
  refine gd_goto 14 dX3_isMissing_10 (by decide) ?_
  refine gd_iret dX3_isMissing_14 rfl (by first | rfl | decide | exact nar_bi _ | assumption) ?_
  rfl
theorem c_at {q j : Nat} (hq : q < 4) (hj : j < 40) (h : Hp) : Gd mX3_at 0 [.ref 56, .int (nI q), .int (nI j)] [] h (some (.long (h.2 57 (40 * q + j))), h) := by
  refine gd_ald0 dX3_at_0 (by decide) ?_
  refine gd_getR (r := 57) dX3_at_1 fl_3_9 rfl rfl rfl (by decide) ?_
  refine gd_ild1 dX3_at_4 ?_
  refine gd_bipush (v := nI 40) dX3_at_5 (by decide) ?_
  refine gd_imul dX3_at_7 ?_
  refine gd_ild2 dX3_at_8 ?_
  refine gd_iadd dX3_at_9 ?_
  refine gd_lald (n := 160) dX3_at_10 rfl (by decide) (by repeat' (first | with_reducible rfl | apply ni_add | apply ni_mul)) (by omega) ?_
  refine gd_lret dX3_at_11 rfl ?_
  rw [show q * 40 + j = 40 * q + j by omega]
theorem c_low8 (v : Int64) (h : Hp) : Gd mX3_lowestBits 0 [.long v, .null, .int (nI 8)] [] h (some (.long (v.toInt32.toInt8.toInt32.toInt64)), h) := by
  refine gd_ild2 dX3_lowestBits_0 ?_
  refine gd_lookup (off := 27) 28 dX3_lowestBits_1 (by decide) (by decide) (by decide) ?_
  refine gd_lld0 dX3_lowestBits_28 ?_
  refine gd_l2i dX3_lowestBits_29 ?_
  refine gd_i2b dX3_lowestBits_30 ?_
  refine gd_i2l dX3_lowestBits_31 ?_
  refine gd_lret dX3_lowestBits_32 rfl ?_
  rfl
theorem c_put8 {q j : Nat} (hq : q < 4) (hj : j < 40) (v : Int64) (h : Hp) (e : h.1 58 q = nI 8) : Gd mX3_put 0 [.ref 56, .int (nI q), .int (nI j), .long v, .null, .null, .null] [] h (some (.long (h.2 57 (40 * q + j))), sL h 57 (vp_updL (h.2 57) (40 * q + j) (v.toInt32.toInt8.toInt32.toInt64))) := by
  refine gd_ald0 dX3_put_0 (by decide) ?_
  refine gd_ild1 dX3_put_1 ?_
  refine gd_ild2 dX3_put_2 ?_
  refine gd_cV2l dX3_put_3 ct_3_28 rc_56 ⟨Nat.le_of_ble_eq_true rfl, Nat.le_of_ble_eq_true rfl⟩ (Nat.le_of_ble_eq_true rfl) (Nat.le_of_ble_eq_true rfl) (c_at hq hj _) ?_
  refine gd_lst5 dX3_put_6 rfl ?_
  refine gd_ald0 dX3_put_8 (by decide) ?_
  refine gd_getR (r := 57) dX3_put_9 fl_3_9 rfl rfl rfl (by decide) ?_
  refine gd_ild1 dX3_put_12 ?_
  refine gd_bipush (v := nI 40) dX3_put_13 (by decide) ?_
  refine gd_imul dX3_put_15 ?_
  refine gd_ild2 dX3_put_16 ?_
  refine gd_iadd dX3_put_17 ?_
  refine gd_lld3 dX3_put_18 ?_
  refine gd_ald0 dX3_put_19 (by decide) ?_
  refine gd_getR (r := 58) dX3_put_20 fl_3_15 rfl rfl rfl (by decide) ?_
  refine gd_ild1 dX3_put_23 ?_
  refine gd_iald (n := 4) dX3_put_24 rfl (by decide) (by repeat' (first | with_reducible rfl | apply ni_add | apply ni_mul)) (by omega) ?_
  rw [e]
  refine gd_cS2l dX3_put_25 ct_3_32 ⟨Nat.le_of_ble_eq_true rfl, Nat.le_of_ble_eq_true rfl⟩ (Nat.le_of_ble_eq_true rfl) (Nat.le_of_ble_eq_true rfl) (c_low8 v _) ?_
  refine gd_last (n := 160) dX3_put_28 rfl (by decide) (by repeat' (first | with_reducible rfl | apply ni_add | apply ni_mul)) (by omega) ?_
  refine gd_lld5 dX3_put_29 ?_
  refine gd_lret dX3_put_31 rfl ?_
  rw [show q * 40 + j = 40 * q + j by omega]
theorem c_low16 (v : Int64) (h : Hp) : Gd mX3_lowestBits 0 [.long v, .null, .int (nI 16)] [] h (some (.long (v.toInt32.toInt16.toInt32.toInt64)), h) := by
  refine gd_ild2 dX3_lowestBits_0 ?_
  refine gd_lookup (off := 32) 33 dX3_lowestBits_1 (by decide) (by decide) (by decide) ?_
  refine gd_lld0 dX3_lowestBits_33 ?_
  refine gd_l2i dX3_lowestBits_34 ?_
  refine gd_i2s dX3_lowestBits_35 ?_
  refine gd_i2l dX3_lowestBits_36 ?_
  refine gd_lret dX3_lowestBits_37 rfl ?_
  rfl
theorem c_put16 {q j : Nat} (hq : q < 4) (hj : j < 40) (v : Int64) (h : Hp) (e : h.1 58 q = nI 16) : Gd mX3_put 0 [.ref 56, .int (nI q), .int (nI j), .long v, .null, .null, .null] [] h (some (.long (h.2 57 (40 * q + j))), sL h 57 (vp_updL (h.2 57) (40 * q + j) (v.toInt32.toInt16.toInt32.toInt64))) := by
  refine gd_ald0 dX3_put_0 (by decide) ?_
  refine gd_ild1 dX3_put_1 ?_
  refine gd_ild2 dX3_put_2 ?_
  refine gd_cV2l dX3_put_3 ct_3_28 rc_56 ⟨Nat.le_of_ble_eq_true rfl, Nat.le_of_ble_eq_true rfl⟩ (Nat.le_of_ble_eq_true rfl) (Nat.le_of_ble_eq_true rfl) (c_at hq hj _) ?_
  refine gd_lst5 dX3_put_6 rfl ?_
  refine gd_ald0 dX3_put_8 (by decide) ?_
  refine gd_getR (r := 57) dX3_put_9 fl_3_9 rfl rfl rfl (by decide) ?_
  refine gd_ild1 dX3_put_12 ?_
  refine gd_bipush (v := nI 40) dX3_put_13 (by decide) ?_
  refine gd_imul dX3_put_15 ?_
  refine gd_ild2 dX3_put_16 ?_
  refine gd_iadd dX3_put_17 ?_
  refine gd_lld3 dX3_put_18 ?_
  refine gd_ald0 dX3_put_19 (by decide) ?_
  refine gd_getR (r := 58) dX3_put_20 fl_3_15 rfl rfl rfl (by decide) ?_
  refine gd_ild1 dX3_put_23 ?_
  refine gd_iald (n := 4) dX3_put_24 rfl (by decide) (by repeat' (first | with_reducible rfl | apply ni_add | apply ni_mul)) (by omega) ?_
  rw [e]
  refine gd_cS2l dX3_put_25 ct_3_32 ⟨Nat.le_of_ble_eq_true rfl, Nat.le_of_ble_eq_true rfl⟩ (Nat.le_of_ble_eq_true rfl) (Nat.le_of_ble_eq_true rfl) (c_low16 v _) ?_
  refine gd_last (n := 160) dX3_put_28 rfl (by decide) (by repeat' (first | with_reducible rfl | apply ni_add | apply ni_mul)) (by omega) ?_
  refine gd_lld5 dX3_put_29 ?_
  refine gd_lret dX3_put_31 rfl ?_
  rw [show q * 40 + j = 40 * q + j by omega]
theorem c_low64 (v : Int64) (h : Hp) : Gd mX3_lowestBits 0 [.long v, .null, .int (nI 64)] [] h (some (.long (v)), h) := by
  refine gd_ild2 dX3_lowestBits_0 ?_
  refine gd_lookup (off := 37) 38 dX3_lowestBits_1 (by decide) (by decide) (by decide) ?_
  refine gd_lld0 dX3_lowestBits_38 ?_
  refine gd_lret dX3_lowestBits_39 rfl ?_
  rfl
theorem c_put64 {q j : Nat} (hq : q < 4) (hj : j < 40) (v : Int64) (h : Hp) (e : h.1 58 q = nI 64) : Gd mX3_put 0 [.ref 56, .int (nI q), .int (nI j), .long v, .null, .null, .null] [] h (some (.long (h.2 57 (40 * q + j))), sL h 57 (vp_updL (h.2 57) (40 * q + j) (v))) := by
  refine gd_ald0 dX3_put_0 (by decide) ?_
  refine gd_ild1 dX3_put_1 ?_
  refine gd_ild2 dX3_put_2 ?_
  refine gd_cV2l dX3_put_3 ct_3_28 rc_56 ⟨Nat.le_of_ble_eq_true rfl, Nat.le_of_ble_eq_true rfl⟩ (Nat.le_of_ble_eq_true rfl) (Nat.le_of_ble_eq_true rfl) (c_at hq hj _) ?_
  refine gd_lst5 dX3_put_6 rfl ?_
  refine gd_ald0 dX3_put_8 (by decide) ?_
  refine gd_getR (r := 57) dX3_put_9 fl_3_9 rfl rfl rfl (by decide) ?_
  refine gd_ild1 dX3_put_12 ?_
  refine gd_bipush (v := nI 40) dX3_put_13 (by decide) ?_
  refine gd_imul dX3_put_15 ?_
  refine gd_ild2 dX3_put_16 ?_
  refine gd_iadd dX3_put_17 ?_
  refine gd_lld3 dX3_put_18 ?_
  refine gd_ald0 dX3_put_19 (by decide) ?_
  refine gd_getR (r := 58) dX3_put_20 fl_3_15 rfl rfl rfl (by decide) ?_
  refine gd_ild1 dX3_put_23 ?_
  refine gd_iald (n := 4) dX3_put_24 rfl (by decide) (by repeat' (first | with_reducible rfl | apply ni_add | apply ni_mul)) (by omega) ?_
  rw [e]
  refine gd_cS2l dX3_put_25 ct_3_32 ⟨Nat.le_of_ble_eq_true rfl, Nat.le_of_ble_eq_true rfl⟩ (Nat.le_of_ble_eq_true rfl) (Nat.le_of_ble_eq_true rfl) (c_low64 v _) ?_
  refine gd_last (n := 160) dX3_put_28 rfl (by decide) (by repeat' (first | with_reducible rfl | apply ni_add | apply ni_mul)) (by omega) ?_
  refine gd_lld5 dX3_put_29 ?_
  refine gd_lret dX3_put_31 rfl ?_
  rw [show q * 40 + j = 40 * q + j by omega]
theorem m_inz_t {t n : Nat} (ht : t < n) (hn : n < 2 ^ 31) (h : Hp) : Gd mX9_in 0 [.int (nI t), .int (nI 0), .int (nI n - nI 1)] [] h (some (.int (nI 1)), h) := by
  rw [pk_sub (by omega)]
  exact m_in_t (by omega) (by omega) h
set_option maxHeartbeats 1000000 in
theorem p_write {h : Hp} (i : Inv h) (a b : Int32) (v : Int64) : Pas mX8_write mX9_write [.ref 0, .int a, .int b, .long v, .null] [.ref 72, .int a, .int b, .long v, .null, .null, .null] h := by
  rcases rng a (4) (by decide) with ⟨q, hq, rfl⟩ | ha
  · have e91 := (i.s.n q hq).1
    have l91 := (i.s.n q hq).2
    have e59 : h.1 59 q = nI (tn (h.1 91 q)) := (i.s.z q hq).trans e91
    rcases i.s.v q hq with e90 | e90 | e90 | e90
    · have e58 : h.1 58 q = nI 0 := (i.s.w q hq).trans e90
      refine Pas.findV (h1 := h) (h2 := hf (h) 5) (r := .long (-1000000006 : Int32).toInt64) (r2 := .long ((-1000000000 : Int32) - nI 6).toInt64) 5 i (by decide) (by decide) (Same.rf _) (Same.rf _) ?_ ?_
      · refine gd_ild1 dX8_write_0 ?_
        refine gd_ic4 dX8_write_1 ?_
        refine gd_cS2i dX8_write_2 ct_8_48 ⟨Nat.le_of_ble_eq_true rfl, Nat.le_of_ble_eq_true rfl⟩ (Nat.le_of_ble_eq_true rfl) (Nat.le_of_ble_eq_true rfl) (c_isBelow_t hq (by decide) _) ?_
        refine gd_if_ne_t 16 dX8_write_5 (by decide) (by decide) ?_
        refine gd_ald0 dX8_write_16 (by decide) ?_
        refine gd_getR (r := 56) dX8_write_17 fl_8_33 rfl rfl rfl (by decide) ?_
        refine gd_ild1 dX8_write_20 ?_
        refine gd_cV1i dX8_write_21 ct_8_82 rc_56 ⟨Nat.le_of_ble_eq_true rfl, Nat.le_of_ble_eq_true rfl⟩ (Nat.le_of_ble_eq_true rfl) (Nat.le_of_ble_eq_true rfl) (c_isMissing1 hq e58) ?_
        refine gd_if_eq_f 35 dX8_write_24 (by decide) (by decide) ?_
        refine gd_ald0 dX8_write_27 (by decide) ?_
        refine gd_ldc dX8_write_28 ld_8_85 ?_
        refine gd_cV1i dX8_write_30 ct_8_53 rc_0 ⟨Nat.le_of_ble_eq_true rfl, Nat.le_of_ble_eq_true rfl⟩ (Nat.le_of_ble_eq_true rfl) (Nat.le_of_ble_eq_true rfl) (c_f5 _) ?_
        refine gd_i2l dX8_write_33 ?_
        refine gd_lret dX8_write_34 rfl ?_
        rfl
      · refine gd_ild1 dX9_write_0 ?_
        refine gd_cS1i dX9_write_1 ct_9_104 ⟨Nat.le_of_ble_eq_true rfl, Nat.le_of_ble_eq_true rfl⟩ (Nat.le_of_ble_eq_true rfl) (Nat.le_of_ble_eq_true rfl) (m_isSheet_t hq _) ?_
        refine gd_if_ne_t 14 dX9_write_4 (by decide) (by decide) ?_
        refine gd_ald0 dX9_write_14 (by decide) ?_
        refine gd_getR (r := 90) dX9_write_15 fl_9_63 rfl rfl rfl (by decide) ?_
        refine gd_ild1 dX9_write_18 ?_
        refine gd_iald (n := 4) dX9_write_19 rfl (by decide) (by repeat' (first | with_reducible rfl | apply ni_add | apply ni_mul)) (by omega) ?_
        rw [show (hf h 5).1 90 q = nI 0 from e90]
        refine gd_if_ne_f 31 dX9_write_20 (by decide) (by decide) ?_
        refine gd_ald0 dX9_write_23 (by decide) ?_
        refine gd_bipush (v := nI 6) dX9_write_24 (by decide) ?_
        refine gd_cV1i dX9_write_26 ct_9_97 rc_72 ⟨Nat.le_of_ble_eq_true rfl, Nat.le_of_ble_eq_true rfl⟩ (Nat.le_of_ble_eq_true rfl) (Nat.le_of_ble_eq_true rfl) (m_f5 _) ?_
        refine gd_i2l dX9_write_29 ?_
        refine gd_lret dX9_write_30 rfl ?_
        rfl
    · have e58 : h.1 58 q = nI 8 := (i.s.w q hq).trans e90
      rcases rng b (tn (h.1 91 q)) (by omega) with ⟨j, hj, rfl⟩ | hb
      · refine ⟨.long (h.2 92 (40 * q + j)), sL h 57 (vp_updL (h.2 57) (40 * q + j) (v.toInt32.toInt8.toInt32.toInt64)), sL (sL h 57 (vp_updL (h.2 57) (40 * q + j) (v.toInt32.toInt8.toInt32.toInt64))) 92 (vp_updL (h.2 92) (40 * q + j) (v.toInt32.toInt8.toInt32.toInt64)), ?_, ?_, ?_, rfl, rfl⟩
        · refine gd_ild1 dX8_write_0 ?_
          refine gd_ic4 dX8_write_1 ?_
          refine gd_cS2i dX8_write_2 ct_8_48 ⟨Nat.le_of_ble_eq_true rfl, Nat.le_of_ble_eq_true rfl⟩ (Nat.le_of_ble_eq_true rfl) (Nat.le_of_ble_eq_true rfl) (c_isBelow_t hq (by decide) _) ?_
          refine gd_if_ne_t 16 dX8_write_5 (by decide) (by decide) ?_
          refine gd_ald0 dX8_write_16 (by decide) ?_
          refine gd_getR (r := 56) dX8_write_17 fl_8_33 rfl rfl rfl (by decide) ?_
          refine gd_ild1 dX8_write_20 ?_
          refine gd_cV1i dX8_write_21 ct_8_82 rc_56 ⟨Nat.le_of_ble_eq_true rfl, Nat.le_of_ble_eq_true rfl⟩ (Nat.le_of_ble_eq_true rfl) (Nat.le_of_ble_eq_true rfl) (c_isMissing0 hq e58 (by decide) (by decide)) ?_
          refine gd_if_eq_t 35 dX8_write_24 (by decide) (by decide) ?_
          refine gd_ild2 dX8_write_35 ?_
          refine gd_ald0 dX8_write_36 (by decide) ?_
          refine gd_getR (r := 56) dX8_write_37 fl_8_33 rfl rfl rfl (by decide) ?_
          refine gd_getR (r := 59) dX8_write_40 fl_8_86 rfl rfl rfl (by decide) ?_
          refine gd_ild1 dX8_write_43 ?_
          refine gd_iald (n := 4) dX8_write_44 rfl (by decide) (by repeat' (first | with_reducible rfl | apply ni_add | apply ni_mul)) (by omega) ?_
          rw [e59]
          refine gd_cS2i dX8_write_45 ct_8_48 ⟨Nat.le_of_ble_eq_true rfl, Nat.le_of_ble_eq_true rfl⟩ (Nat.le_of_ble_eq_true rfl) (Nat.le_of_ble_eq_true rfl) (c_isBelow_t hj (by omega) _) ?_
          refine gd_if_ne_t 59 dX8_write_48 (by decide) (by decide) ?_
          refine gd_ald0 dX8_write_59 (by decide) ?_
          refine gd_getR (r := 56) dX8_write_60 fl_8_33 rfl rfl rfl (by decide) ?_
          refine gd_ild1 dX8_write_63 ?_
          refine gd_ild2 dX8_write_64 ?_
          refine gd_lld3 dX8_write_65 ?_
          refine gd_cV3l dX8_write_66 ct_8_302 rc_56 ⟨Nat.le_of_ble_eq_true rfl, Nat.le_of_ble_eq_true rfl⟩ (Nat.le_of_ble_eq_true rfl) (Nat.le_of_ble_eq_true rfl) (c_put8 hq (by omega) v _ e58) ?_
          refine gd_lret dX8_write_69 rfl ?_
          rw [i.s.x _ (by omega)]
        · refine gd_ild1 dX9_write_0 ?_
          refine gd_cS1i dX9_write_1 ct_9_104 ⟨Nat.le_of_ble_eq_true rfl, Nat.le_of_ble_eq_true rfl⟩ (Nat.le_of_ble_eq_true rfl) (Nat.le_of_ble_eq_true rfl) (m_isSheet_t hq _) ?_
          refine gd_if_ne_t 14 dX9_write_4 (by decide) (by decide) ?_
          refine gd_ald0 dX9_write_14 (by decide) ?_
          refine gd_getR (r := 90) dX9_write_15 fl_9_63 rfl rfl rfl (by decide) ?_
          refine gd_ild1 dX9_write_18 ?_
          refine gd_iald (n := 4) dX9_write_19 rfl (by decide) (by repeat' (first | with_reducible rfl | apply ni_add | apply ni_mul)) (by omega) ?_
          rw [show (sL h 57 (vp_updL (h.2 57) (40 * q + j) (v.toInt32.toInt8.toInt32.toInt64))).1 90 q = nI 8 from e90]
          refine gd_if_ne_t 31 dX9_write_20 (by decide) (by decide) ?_
          refine gd_ild2 dX9_write_31 ?_
          refine gd_ic0 dX9_write_32 ?_
          refine gd_ald0 dX9_write_33 (by decide) ?_
          refine gd_getR (r := 91) dX9_write_34 fl_9_66 rfl rfl rfl (by decide) ?_
          refine gd_ild1 dX9_write_37 ?_
          refine gd_iald (n := 4) dX9_write_38 rfl (by decide) (by repeat' (first | with_reducible rfl | apply ni_add | apply ni_mul)) (by omega) ?_
          rw [show (sL h 57 (vp_updL (h.2 57) (40 * q + j) (v.toInt32.toInt8.toInt32.toInt64))).1 91 q = nI (tn (h.1 91 q)) from e91]
          refine gd_ic1 dX9_write_39 ?_
          refine gd_isub dX9_write_40 ?_
          refine gd_cS3i dX9_write_41 ct_9_79 ⟨Nat.le_of_ble_eq_true rfl, Nat.le_of_ble_eq_true rfl⟩ (Nat.le_of_ble_eq_true rfl) (Nat.le_of_ble_eq_true rfl) (m_inz_t hj (by omega) _) ?_
          refine gd_if_ne_t 54 dX9_write_44 (by decide) (by decide) ?_
          refine gd_ald0 dX9_write_54 (by decide) ?_
          refine gd_getR (r := 92) dX9_write_55 fl_9_69 rfl rfl rfl (by decide) ?_
          refine gd_bipush (v := nI 40) dX9_write_58 (by decide) ?_
          refine gd_ild1 dX9_write_60 ?_
          refine gd_imul dX9_write_61 ?_
          refine gd_ild2 dX9_write_62 ?_
          refine gd_iadd dX9_write_63 ?_
          refine gd_lald (n := 160) dX9_write_64 rfl (by decide) (by repeat' (first | with_reducible rfl | apply ni_add | apply ni_mul)) (by omega) ?_
          refine gd_lst5 dX9_write_65 rfl ?_
          refine gd_ald0 dX9_write_67 (by decide) ?_
          refine gd_getR (r := 92) dX9_write_68 fl_9_69 rfl rfl rfl (by decide) ?_
          refine gd_bipush (v := nI 40) dX9_write_71 (by decide) ?_
          refine gd_ild1 dX9_write_73 ?_
          refine gd_imul dX9_write_74 ?_
          refine gd_ild2 dX9_write_75 ?_
          refine gd_iadd dX9_write_76 ?_
          refine gd_ald0 dX9_write_77 (by decide) ?_
          refine gd_getR (r := 90) dX9_write_78 fl_9_63 rfl rfl rfl (by decide) ?_
          refine gd_ild1 dX9_write_81 ?_
          refine gd_iald (n := 4) dX9_write_82 rfl (by decide) (by repeat' (first | with_reducible rfl | apply ni_add | apply ni_mul)) (by omega) ?_
          rw [show (sL h 57 (vp_updL (h.2 57) (40 * q + j) (v.toInt32.toInt8.toInt32.toInt64))).1 90 q = nI 8 from e90]
          refine gd_bipush (v := nI 8) dX9_write_83 (by decide) ?_
          refine gd_icmp_ne_f 95 dX9_write_85 (by decide) (by decide) ?_
          refine gd_lld3 dX9_write_88 ?_
          refine gd_l2i dX9_write_89 ?_
          refine gd_i2b dX9_write_90 ?_
          refine gd_i2l dX9_write_91 ?_
          refine gd_goto 114 dX9_write_92 (by decide) ?_
          refine gd_last (n := 160) dX9_write_114 rfl (by decide) (by repeat' (first | with_reducible rfl | apply ni_add | apply ni_mul)) (by omega) ?_
          refine gd_lld5 dX9_write_115 ?_
          refine gd_lret dX9_write_117 rfl ?_
          rfl
        · refine inv_rest i (fun k hk => rfl) (Or.inl ⟨rfl, rfl⟩) ⟨i.p.n, i.p.b⟩ ⟨i.s.w, i.s.z, i.s.n, i.s.v, ?_⟩ rfl
          intro p hp
          show vp_updL (h.2 57) _ _ p = vp_updL (h.2 92) _ _ p
          rw [updL_at, updL_at, i.s.x p hp]
      · refine Pas.findV (h1 := h) (h2 := hf (h) 0) (r := .long (-1000000001 : Int32).toInt64) (r2 := .long ((-1000000000 : Int32) - nI 1).toInt64) 0 i (by decide) (by decide) (Same.rf _) (Same.rf _) ?_ ?_
        · refine gd_ild1 dX8_write_0 ?_
          refine gd_ic4 dX8_write_1 ?_
          refine gd_cS2i dX8_write_2 ct_8_48 ⟨Nat.le_of_ble_eq_true rfl, Nat.le_of_ble_eq_true rfl⟩ (Nat.le_of_ble_eq_true rfl) (Nat.le_of_ble_eq_true rfl) (c_isBelow_t hq (by decide) _) ?_
          refine gd_if_ne_t 16 dX8_write_5 (by decide) (by decide) ?_
          refine gd_ald0 dX8_write_16 (by decide) ?_
          refine gd_getR (r := 56) dX8_write_17 fl_8_33 rfl rfl rfl (by decide) ?_
          refine gd_ild1 dX8_write_20 ?_
          refine gd_cV1i dX8_write_21 ct_8_82 rc_56 ⟨Nat.le_of_ble_eq_true rfl, Nat.le_of_ble_eq_true rfl⟩ (Nat.le_of_ble_eq_true rfl) (Nat.le_of_ble_eq_true rfl) (c_isMissing0 hq e58 (by decide) (by decide)) ?_
          refine gd_if_eq_t 35 dX8_write_24 (by decide) (by decide) ?_
          refine gd_ild2 dX8_write_35 ?_
          refine gd_ald0 dX8_write_36 (by decide) ?_
          refine gd_getR (r := 56) dX8_write_37 fl_8_33 rfl rfl rfl (by decide) ?_
          refine gd_getR (r := 59) dX8_write_40 fl_8_86 rfl rfl rfl (by decide) ?_
          refine gd_ild1 dX8_write_43 ?_
          refine gd_iald (n := 4) dX8_write_44 rfl (by decide) (by repeat' (first | with_reducible rfl | apply ni_add | apply ni_mul)) (by omega) ?_
          rw [e59]
          refine gd_cS2i dX8_write_45 ct_8_48 ⟨Nat.le_of_ble_eq_true rfl, Nat.le_of_ble_eq_true rfl⟩ (Nat.le_of_ble_eq_true rfl) (Nat.le_of_ble_eq_true rfl) (c_isBelow_f hb _) ?_
          refine gd_if_ne_f 59 dX8_write_48 (by decide) (by decide) ?_
          refine gd_ald0 dX8_write_51 (by decide) ?_
          refine gd_ldc dX8_write_52 ld_8_52 ?_
          refine gd_cV1i dX8_write_54 ct_8_53 rc_0 ⟨Nat.le_of_ble_eq_true rfl, Nat.le_of_ble_eq_true rfl⟩ (Nat.le_of_ble_eq_true rfl) (Nat.le_of_ble_eq_true rfl) (c_f0 _) ?_
          refine gd_i2l dX8_write_57 ?_
          refine gd_lret dX8_write_58 rfl ?_
          rfl
        · refine gd_ild1 dX9_write_0 ?_
          refine gd_cS1i dX9_write_1 ct_9_104 ⟨Nat.le_of_ble_eq_true rfl, Nat.le_of_ble_eq_true rfl⟩ (Nat.le_of_ble_eq_true rfl) (Nat.le_of_ble_eq_true rfl) (m_isSheet_t hq _) ?_
          refine gd_if_ne_t 14 dX9_write_4 (by decide) (by decide) ?_
          refine gd_ald0 dX9_write_14 (by decide) ?_
          refine gd_getR (r := 90) dX9_write_15 fl_9_63 rfl rfl rfl (by decide) ?_
          refine gd_ild1 dX9_write_18 ?_
          refine gd_iald (n := 4) dX9_write_19 rfl (by decide) (by repeat' (first | with_reducible rfl | apply ni_add | apply ni_mul)) (by omega) ?_
          rw [show (hf h 0).1 90 q = nI 8 from e90]
          refine gd_if_ne_t 31 dX9_write_20 (by decide) (by decide) ?_
          refine gd_ild2 dX9_write_31 ?_
          refine gd_ic0 dX9_write_32 ?_
          refine gd_ald0 dX9_write_33 (by decide) ?_
          refine gd_getR (r := 91) dX9_write_34 fl_9_66 rfl rfl rfl (by decide) ?_
          refine gd_ild1 dX9_write_37 ?_
          refine gd_iald (n := 4) dX9_write_38 rfl (by decide) (by repeat' (first | with_reducible rfl | apply ni_add | apply ni_mul)) (by omega) ?_
          rw [show (hf h 0).1 91 q = nI (tn (h.1 91 q)) from e91]
          refine gd_ic1 dX9_write_39 ?_
          refine gd_isub dX9_write_40 ?_
          refine gd_cS3i dX9_write_41 ct_9_79 ⟨Nat.le_of_ble_eq_true rfl, Nat.le_of_ble_eq_true rfl⟩ (Nat.le_of_ble_eq_true rfl) (Nat.le_of_ble_eq_true rfl) (m_inz_f hb (by omega) _) ?_
          refine gd_if_ne_f 54 dX9_write_44 (by decide) (by decide) ?_
          refine gd_ald0 dX9_write_47 (by decide) ?_
          refine gd_ic1 dX9_write_48 ?_
          refine gd_cV1i dX9_write_49 ct_9_97 rc_72 ⟨Nat.le_of_ble_eq_true rfl, Nat.le_of_ble_eq_true rfl⟩ (Nat.le_of_ble_eq_true rfl) (Nat.le_of_ble_eq_true rfl) (m_f0 _) ?_
          refine gd_i2l dX9_write_52 ?_
          refine gd_lret dX9_write_53 rfl ?_
          rfl
    · have e58 : h.1 58 q = nI 16 := (i.s.w q hq).trans e90
      rcases rng b (tn (h.1 91 q)) (by omega) with ⟨j, hj, rfl⟩ | hb
      · refine ⟨.long (h.2 92 (40 * q + j)), sL h 57 (vp_updL (h.2 57) (40 * q + j) (v.toInt32.toInt16.toInt32.toInt64)), sL (sL h 57 (vp_updL (h.2 57) (40 * q + j) (v.toInt32.toInt16.toInt32.toInt64))) 92 (vp_updL (h.2 92) (40 * q + j) (v.toInt32.toInt16.toInt32.toInt64)), ?_, ?_, ?_, rfl, rfl⟩
        · refine gd_ild1 dX8_write_0 ?_
          refine gd_ic4 dX8_write_1 ?_
          refine gd_cS2i dX8_write_2 ct_8_48 ⟨Nat.le_of_ble_eq_true rfl, Nat.le_of_ble_eq_true rfl⟩ (Nat.le_of_ble_eq_true rfl) (Nat.le_of_ble_eq_true rfl) (c_isBelow_t hq (by decide) _) ?_
          refine gd_if_ne_t 16 dX8_write_5 (by decide) (by decide) ?_
          refine gd_ald0 dX8_write_16 (by decide) ?_
          refine gd_getR (r := 56) dX8_write_17 fl_8_33 rfl rfl rfl (by decide) ?_
          refine gd_ild1 dX8_write_20 ?_
          refine gd_cV1i dX8_write_21 ct_8_82 rc_56 ⟨Nat.le_of_ble_eq_true rfl, Nat.le_of_ble_eq_true rfl⟩ (Nat.le_of_ble_eq_true rfl) (Nat.le_of_ble_eq_true rfl) (c_isMissing0 hq e58 (by decide) (by decide)) ?_
          refine gd_if_eq_t 35 dX8_write_24 (by decide) (by decide) ?_
          refine gd_ild2 dX8_write_35 ?_
          refine gd_ald0 dX8_write_36 (by decide) ?_
          refine gd_getR (r := 56) dX8_write_37 fl_8_33 rfl rfl rfl (by decide) ?_
          refine gd_getR (r := 59) dX8_write_40 fl_8_86 rfl rfl rfl (by decide) ?_
          refine gd_ild1 dX8_write_43 ?_
          refine gd_iald (n := 4) dX8_write_44 rfl (by decide) (by repeat' (first | with_reducible rfl | apply ni_add | apply ni_mul)) (by omega) ?_
          rw [e59]
          refine gd_cS2i dX8_write_45 ct_8_48 ⟨Nat.le_of_ble_eq_true rfl, Nat.le_of_ble_eq_true rfl⟩ (Nat.le_of_ble_eq_true rfl) (Nat.le_of_ble_eq_true rfl) (c_isBelow_t hj (by omega) _) ?_
          refine gd_if_ne_t 59 dX8_write_48 (by decide) (by decide) ?_
          refine gd_ald0 dX8_write_59 (by decide) ?_
          refine gd_getR (r := 56) dX8_write_60 fl_8_33 rfl rfl rfl (by decide) ?_
          refine gd_ild1 dX8_write_63 ?_
          refine gd_ild2 dX8_write_64 ?_
          refine gd_lld3 dX8_write_65 ?_
          refine gd_cV3l dX8_write_66 ct_8_302 rc_56 ⟨Nat.le_of_ble_eq_true rfl, Nat.le_of_ble_eq_true rfl⟩ (Nat.le_of_ble_eq_true rfl) (Nat.le_of_ble_eq_true rfl) (c_put16 hq (by omega) v _ e58) ?_
          refine gd_lret dX8_write_69 rfl ?_
          rw [i.s.x _ (by omega)]
        · refine gd_ild1 dX9_write_0 ?_
          refine gd_cS1i dX9_write_1 ct_9_104 ⟨Nat.le_of_ble_eq_true rfl, Nat.le_of_ble_eq_true rfl⟩ (Nat.le_of_ble_eq_true rfl) (Nat.le_of_ble_eq_true rfl) (m_isSheet_t hq _) ?_
          refine gd_if_ne_t 14 dX9_write_4 (by decide) (by decide) ?_
          refine gd_ald0 dX9_write_14 (by decide) ?_
          refine gd_getR (r := 90) dX9_write_15 fl_9_63 rfl rfl rfl (by decide) ?_
          refine gd_ild1 dX9_write_18 ?_
          refine gd_iald (n := 4) dX9_write_19 rfl (by decide) (by repeat' (first | with_reducible rfl | apply ni_add | apply ni_mul)) (by omega) ?_
          rw [show (sL h 57 (vp_updL (h.2 57) (40 * q + j) (v.toInt32.toInt16.toInt32.toInt64))).1 90 q = nI 16 from e90]
          refine gd_if_ne_t 31 dX9_write_20 (by decide) (by decide) ?_
          refine gd_ild2 dX9_write_31 ?_
          refine gd_ic0 dX9_write_32 ?_
          refine gd_ald0 dX9_write_33 (by decide) ?_
          refine gd_getR (r := 91) dX9_write_34 fl_9_66 rfl rfl rfl (by decide) ?_
          refine gd_ild1 dX9_write_37 ?_
          refine gd_iald (n := 4) dX9_write_38 rfl (by decide) (by repeat' (first | with_reducible rfl | apply ni_add | apply ni_mul)) (by omega) ?_
          rw [show (sL h 57 (vp_updL (h.2 57) (40 * q + j) (v.toInt32.toInt16.toInt32.toInt64))).1 91 q = nI (tn (h.1 91 q)) from e91]
          refine gd_ic1 dX9_write_39 ?_
          refine gd_isub dX9_write_40 ?_
          refine gd_cS3i dX9_write_41 ct_9_79 ⟨Nat.le_of_ble_eq_true rfl, Nat.le_of_ble_eq_true rfl⟩ (Nat.le_of_ble_eq_true rfl) (Nat.le_of_ble_eq_true rfl) (m_inz_t hj (by omega) _) ?_
          refine gd_if_ne_t 54 dX9_write_44 (by decide) (by decide) ?_
          refine gd_ald0 dX9_write_54 (by decide) ?_
          refine gd_getR (r := 92) dX9_write_55 fl_9_69 rfl rfl rfl (by decide) ?_
          refine gd_bipush (v := nI 40) dX9_write_58 (by decide) ?_
          refine gd_ild1 dX9_write_60 ?_
          refine gd_imul dX9_write_61 ?_
          refine gd_ild2 dX9_write_62 ?_
          refine gd_iadd dX9_write_63 ?_
          refine gd_lald (n := 160) dX9_write_64 rfl (by decide) (by repeat' (first | with_reducible rfl | apply ni_add | apply ni_mul)) (by omega) ?_
          refine gd_lst5 dX9_write_65 rfl ?_
          refine gd_ald0 dX9_write_67 (by decide) ?_
          refine gd_getR (r := 92) dX9_write_68 fl_9_69 rfl rfl rfl (by decide) ?_
          refine gd_bipush (v := nI 40) dX9_write_71 (by decide) ?_
          refine gd_ild1 dX9_write_73 ?_
          refine gd_imul dX9_write_74 ?_
          refine gd_ild2 dX9_write_75 ?_
          refine gd_iadd dX9_write_76 ?_
          refine gd_ald0 dX9_write_77 (by decide) ?_
          refine gd_getR (r := 90) dX9_write_78 fl_9_63 rfl rfl rfl (by decide) ?_
          refine gd_ild1 dX9_write_81 ?_
          refine gd_iald (n := 4) dX9_write_82 rfl (by decide) (by repeat' (first | with_reducible rfl | apply ni_add | apply ni_mul)) (by omega) ?_
          rw [show (sL h 57 (vp_updL (h.2 57) (40 * q + j) (v.toInt32.toInt16.toInt32.toInt64))).1 90 q = nI 16 from e90]
          refine gd_bipush (v := nI 8) dX9_write_83 (by decide) ?_
          refine gd_icmp_ne_t 95 dX9_write_85 (by decide) (by decide) ?_
          refine gd_ald0 dX9_write_95 (by decide) ?_
          refine gd_getR (r := 90) dX9_write_96 fl_9_63 rfl rfl rfl (by decide) ?_
          refine gd_ild1 dX9_write_99 ?_
          refine gd_iald (n := 4) dX9_write_100 rfl (by decide) (by repeat' (first | with_reducible rfl | apply ni_add | apply ni_mul)) (by omega) ?_
          rw [show (sL h 57 (vp_updL (h.2 57) (40 * q + j) (v.toInt32.toInt16.toInt32.toInt64))).1 90 q = nI 16 from e90]
          refine gd_bipush (v := nI 16) dX9_write_101 (by decide) ?_
          refine gd_icmp_ne_f 113 dX9_write_103 (by decide) (by decide) ?_
          refine gd_lld3 dX9_write_106 ?_
          refine gd_l2i dX9_write_107 ?_
          refine gd_i2s dX9_write_108 ?_
          refine gd_i2l dX9_write_109 ?_
          refine gd_goto 114 dX9_write_110 (by decide) ?_
          refine gd_last (n := 160) dX9_write_114 rfl (by decide) (by repeat' (first | with_reducible rfl | apply ni_add | apply ni_mul)) (by omega) ?_
          refine gd_lld5 dX9_write_115 ?_
          refine gd_lret dX9_write_117 rfl ?_
          rfl
        · refine inv_rest i (fun k hk => rfl) (Or.inl ⟨rfl, rfl⟩) ⟨i.p.n, i.p.b⟩ ⟨i.s.w, i.s.z, i.s.n, i.s.v, ?_⟩ rfl
          intro p hp
          show vp_updL (h.2 57) _ _ p = vp_updL (h.2 92) _ _ p
          rw [updL_at, updL_at, i.s.x p hp]
      · refine Pas.findV (h1 := h) (h2 := hf (h) 0) (r := .long (-1000000001 : Int32).toInt64) (r2 := .long ((-1000000000 : Int32) - nI 1).toInt64) 0 i (by decide) (by decide) (Same.rf _) (Same.rf _) ?_ ?_
        · refine gd_ild1 dX8_write_0 ?_
          refine gd_ic4 dX8_write_1 ?_
          refine gd_cS2i dX8_write_2 ct_8_48 ⟨Nat.le_of_ble_eq_true rfl, Nat.le_of_ble_eq_true rfl⟩ (Nat.le_of_ble_eq_true rfl) (Nat.le_of_ble_eq_true rfl) (c_isBelow_t hq (by decide) _) ?_
          refine gd_if_ne_t 16 dX8_write_5 (by decide) (by decide) ?_
          refine gd_ald0 dX8_write_16 (by decide) ?_
          refine gd_getR (r := 56) dX8_write_17 fl_8_33 rfl rfl rfl (by decide) ?_
          refine gd_ild1 dX8_write_20 ?_
          refine gd_cV1i dX8_write_21 ct_8_82 rc_56 ⟨Nat.le_of_ble_eq_true rfl, Nat.le_of_ble_eq_true rfl⟩ (Nat.le_of_ble_eq_true rfl) (Nat.le_of_ble_eq_true rfl) (c_isMissing0 hq e58 (by decide) (by decide)) ?_
          refine gd_if_eq_t 35 dX8_write_24 (by decide) (by decide) ?_
          refine gd_ild2 dX8_write_35 ?_
          refine gd_ald0 dX8_write_36 (by decide) ?_
          refine gd_getR (r := 56) dX8_write_37 fl_8_33 rfl rfl rfl (by decide) ?_
          refine gd_getR (r := 59) dX8_write_40 fl_8_86 rfl rfl rfl (by decide) ?_
          refine gd_ild1 dX8_write_43 ?_
          refine gd_iald (n := 4) dX8_write_44 rfl (by decide) (by repeat' (first | with_reducible rfl | apply ni_add | apply ni_mul)) (by omega) ?_
          rw [e59]
          refine gd_cS2i dX8_write_45 ct_8_48 ⟨Nat.le_of_ble_eq_true rfl, Nat.le_of_ble_eq_true rfl⟩ (Nat.le_of_ble_eq_true rfl) (Nat.le_of_ble_eq_true rfl) (c_isBelow_f hb _) ?_
          refine gd_if_ne_f 59 dX8_write_48 (by decide) (by decide) ?_
          refine gd_ald0 dX8_write_51 (by decide) ?_
          refine gd_ldc dX8_write_52 ld_8_52 ?_
          refine gd_cV1i dX8_write_54 ct_8_53 rc_0 ⟨Nat.le_of_ble_eq_true rfl, Nat.le_of_ble_eq_true rfl⟩ (Nat.le_of_ble_eq_true rfl) (Nat.le_of_ble_eq_true rfl) (c_f0 _) ?_
          refine gd_i2l dX8_write_57 ?_
          refine gd_lret dX8_write_58 rfl ?_
          rfl
        · refine gd_ild1 dX9_write_0 ?_
          refine gd_cS1i dX9_write_1 ct_9_104 ⟨Nat.le_of_ble_eq_true rfl, Nat.le_of_ble_eq_true rfl⟩ (Nat.le_of_ble_eq_true rfl) (Nat.le_of_ble_eq_true rfl) (m_isSheet_t hq _) ?_
          refine gd_if_ne_t 14 dX9_write_4 (by decide) (by decide) ?_
          refine gd_ald0 dX9_write_14 (by decide) ?_
          refine gd_getR (r := 90) dX9_write_15 fl_9_63 rfl rfl rfl (by decide) ?_
          refine gd_ild1 dX9_write_18 ?_
          refine gd_iald (n := 4) dX9_write_19 rfl (by decide) (by repeat' (first | with_reducible rfl | apply ni_add | apply ni_mul)) (by omega) ?_
          rw [show (hf h 0).1 90 q = nI 16 from e90]
          refine gd_if_ne_t 31 dX9_write_20 (by decide) (by decide) ?_
          refine gd_ild2 dX9_write_31 ?_
          refine gd_ic0 dX9_write_32 ?_
          refine gd_ald0 dX9_write_33 (by decide) ?_
          refine gd_getR (r := 91) dX9_write_34 fl_9_66 rfl rfl rfl (by decide) ?_
          refine gd_ild1 dX9_write_37 ?_
          refine gd_iald (n := 4) dX9_write_38 rfl (by decide) (by repeat' (first | with_reducible rfl | apply ni_add | apply ni_mul)) (by omega) ?_
          rw [show (hf h 0).1 91 q = nI (tn (h.1 91 q)) from e91]
          refine gd_ic1 dX9_write_39 ?_
          refine gd_isub dX9_write_40 ?_
          refine gd_cS3i dX9_write_41 ct_9_79 ⟨Nat.le_of_ble_eq_true rfl, Nat.le_of_ble_eq_true rfl⟩ (Nat.le_of_ble_eq_true rfl) (Nat.le_of_ble_eq_true rfl) (m_inz_f hb (by omega) _) ?_
          refine gd_if_ne_f 54 dX9_write_44 (by decide) (by decide) ?_
          refine gd_ald0 dX9_write_47 (by decide) ?_
          refine gd_ic1 dX9_write_48 ?_
          refine gd_cV1i dX9_write_49 ct_9_97 rc_72 ⟨Nat.le_of_ble_eq_true rfl, Nat.le_of_ble_eq_true rfl⟩ (Nat.le_of_ble_eq_true rfl) (Nat.le_of_ble_eq_true rfl) (m_f0 _) ?_
          refine gd_i2l dX9_write_52 ?_
          refine gd_lret dX9_write_53 rfl ?_
          rfl
    · have e58 : h.1 58 q = nI 64 := (i.s.w q hq).trans e90
      rcases rng b (tn (h.1 91 q)) (by omega) with ⟨j, hj, rfl⟩ | hb
      · refine ⟨.long (h.2 92 (40 * q + j)), sL h 57 (vp_updL (h.2 57) (40 * q + j) (v)), sL (sL h 57 (vp_updL (h.2 57) (40 * q + j) (v))) 92 (vp_updL (h.2 92) (40 * q + j) (v)), ?_, ?_, ?_, rfl, rfl⟩
        · refine gd_ild1 dX8_write_0 ?_
          refine gd_ic4 dX8_write_1 ?_
          refine gd_cS2i dX8_write_2 ct_8_48 ⟨Nat.le_of_ble_eq_true rfl, Nat.le_of_ble_eq_true rfl⟩ (Nat.le_of_ble_eq_true rfl) (Nat.le_of_ble_eq_true rfl) (c_isBelow_t hq (by decide) _) ?_
          refine gd_if_ne_t 16 dX8_write_5 (by decide) (by decide) ?_
          refine gd_ald0 dX8_write_16 (by decide) ?_
          refine gd_getR (r := 56) dX8_write_17 fl_8_33 rfl rfl rfl (by decide) ?_
          refine gd_ild1 dX8_write_20 ?_
          refine gd_cV1i dX8_write_21 ct_8_82 rc_56 ⟨Nat.le_of_ble_eq_true rfl, Nat.le_of_ble_eq_true rfl⟩ (Nat.le_of_ble_eq_true rfl) (Nat.le_of_ble_eq_true rfl) (c_isMissing0 hq e58 (by decide) (by decide)) ?_
          refine gd_if_eq_t 35 dX8_write_24 (by decide) (by decide) ?_
          refine gd_ild2 dX8_write_35 ?_
          refine gd_ald0 dX8_write_36 (by decide) ?_
          refine gd_getR (r := 56) dX8_write_37 fl_8_33 rfl rfl rfl (by decide) ?_
          refine gd_getR (r := 59) dX8_write_40 fl_8_86 rfl rfl rfl (by decide) ?_
          refine gd_ild1 dX8_write_43 ?_
          refine gd_iald (n := 4) dX8_write_44 rfl (by decide) (by repeat' (first | with_reducible rfl | apply ni_add | apply ni_mul)) (by omega) ?_
          rw [e59]
          refine gd_cS2i dX8_write_45 ct_8_48 ⟨Nat.le_of_ble_eq_true rfl, Nat.le_of_ble_eq_true rfl⟩ (Nat.le_of_ble_eq_true rfl) (Nat.le_of_ble_eq_true rfl) (c_isBelow_t hj (by omega) _) ?_
          refine gd_if_ne_t 59 dX8_write_48 (by decide) (by decide) ?_
          refine gd_ald0 dX8_write_59 (by decide) ?_
          refine gd_getR (r := 56) dX8_write_60 fl_8_33 rfl rfl rfl (by decide) ?_
          refine gd_ild1 dX8_write_63 ?_
          refine gd_ild2 dX8_write_64 ?_
          refine gd_lld3 dX8_write_65 ?_
          refine gd_cV3l dX8_write_66 ct_8_302 rc_56 ⟨Nat.le_of_ble_eq_true rfl, Nat.le_of_ble_eq_true rfl⟩ (Nat.le_of_ble_eq_true rfl) (Nat.le_of_ble_eq_true rfl) (c_put64 hq (by omega) v _ e58) ?_
          refine gd_lret dX8_write_69 rfl ?_
          rw [i.s.x _ (by omega)]
        · refine gd_ild1 dX9_write_0 ?_
          refine gd_cS1i dX9_write_1 ct_9_104 ⟨Nat.le_of_ble_eq_true rfl, Nat.le_of_ble_eq_true rfl⟩ (Nat.le_of_ble_eq_true rfl) (Nat.le_of_ble_eq_true rfl) (m_isSheet_t hq _) ?_
          refine gd_if_ne_t 14 dX9_write_4 (by decide) (by decide) ?_
          refine gd_ald0 dX9_write_14 (by decide) ?_
          refine gd_getR (r := 90) dX9_write_15 fl_9_63 rfl rfl rfl (by decide) ?_
          refine gd_ild1 dX9_write_18 ?_
          refine gd_iald (n := 4) dX9_write_19 rfl (by decide) (by repeat' (first | with_reducible rfl | apply ni_add | apply ni_mul)) (by omega) ?_
          rw [show (sL h 57 (vp_updL (h.2 57) (40 * q + j) (v))).1 90 q = nI 64 from e90]
          refine gd_if_ne_t 31 dX9_write_20 (by decide) (by decide) ?_
          refine gd_ild2 dX9_write_31 ?_
          refine gd_ic0 dX9_write_32 ?_
          refine gd_ald0 dX9_write_33 (by decide) ?_
          refine gd_getR (r := 91) dX9_write_34 fl_9_66 rfl rfl rfl (by decide) ?_
          refine gd_ild1 dX9_write_37 ?_
          refine gd_iald (n := 4) dX9_write_38 rfl (by decide) (by repeat' (first | with_reducible rfl | apply ni_add | apply ni_mul)) (by omega) ?_
          rw [show (sL h 57 (vp_updL (h.2 57) (40 * q + j) (v))).1 91 q = nI (tn (h.1 91 q)) from e91]
          refine gd_ic1 dX9_write_39 ?_
          refine gd_isub dX9_write_40 ?_
          refine gd_cS3i dX9_write_41 ct_9_79 ⟨Nat.le_of_ble_eq_true rfl, Nat.le_of_ble_eq_true rfl⟩ (Nat.le_of_ble_eq_true rfl) (Nat.le_of_ble_eq_true rfl) (m_inz_t hj (by omega) _) ?_
          refine gd_if_ne_t 54 dX9_write_44 (by decide) (by decide) ?_
          refine gd_ald0 dX9_write_54 (by decide) ?_
          refine gd_getR (r := 92) dX9_write_55 fl_9_69 rfl rfl rfl (by decide) ?_
          refine gd_bipush (v := nI 40) dX9_write_58 (by decide) ?_
          refine gd_ild1 dX9_write_60 ?_
          refine gd_imul dX9_write_61 ?_
          refine gd_ild2 dX9_write_62 ?_
          refine gd_iadd dX9_write_63 ?_
          refine gd_lald (n := 160) dX9_write_64 rfl (by decide) (by repeat' (first | with_reducible rfl | apply ni_add | apply ni_mul)) (by omega) ?_
          refine gd_lst5 dX9_write_65 rfl ?_
          refine gd_ald0 dX9_write_67 (by decide) ?_
          refine gd_getR (r := 92) dX9_write_68 fl_9_69 rfl rfl rfl (by decide) ?_
          refine gd_bipush (v := nI 40) dX9_write_71 (by decide) ?_
          refine gd_ild1 dX9_write_73 ?_
          refine gd_imul dX9_write_74 ?_
          refine gd_ild2 dX9_write_75 ?_
          refine gd_iadd dX9_write_76 ?_
          refine gd_ald0 dX9_write_77 (by decide) ?_
          refine gd_getR (r := 90) dX9_write_78 fl_9_63 rfl rfl rfl (by decide) ?_
          refine gd_ild1 dX9_write_81 ?_
          refine gd_iald (n := 4) dX9_write_82 rfl (by decide) (by repeat' (first | with_reducible rfl | apply ni_add | apply ni_mul)) (by omega) ?_
          rw [show (sL h 57 (vp_updL (h.2 57) (40 * q + j) (v))).1 90 q = nI 64 from e90]
          refine gd_bipush (v := nI 8) dX9_write_83 (by decide) ?_
          refine gd_icmp_ne_t 95 dX9_write_85 (by decide) (by decide) ?_
          refine gd_ald0 dX9_write_95 (by decide) ?_
          refine gd_getR (r := 90) dX9_write_96 fl_9_63 rfl rfl rfl (by decide) ?_
          refine gd_ild1 dX9_write_99 ?_
          refine gd_iald (n := 4) dX9_write_100 rfl (by decide) (by repeat' (first | with_reducible rfl | apply ni_add | apply ni_mul)) (by omega) ?_
          rw [show (sL h 57 (vp_updL (h.2 57) (40 * q + j) (v))).1 90 q = nI 64 from e90]
          refine gd_bipush (v := nI 16) dX9_write_101 (by decide) ?_
          refine gd_icmp_ne_t 113 dX9_write_103 (by decide) (by decide) ?_
          refine gd_lld3 dX9_write_113 ?_
          refine gd_last (n := 160) dX9_write_114 rfl (by decide) (by repeat' (first | with_reducible rfl | apply ni_add | apply ni_mul)) (by omega) ?_
          refine gd_lld5 dX9_write_115 ?_
          refine gd_lret dX9_write_117 rfl ?_
          rfl
        · refine inv_rest i (fun k hk => rfl) (Or.inl ⟨rfl, rfl⟩) ⟨i.p.n, i.p.b⟩ ⟨i.s.w, i.s.z, i.s.n, i.s.v, ?_⟩ rfl
          intro p hp
          show vp_updL (h.2 57) _ _ p = vp_updL (h.2 92) _ _ p
          rw [updL_at, updL_at, i.s.x p hp]
      · refine Pas.findV (h1 := h) (h2 := hf (h) 0) (r := .long (-1000000001 : Int32).toInt64) (r2 := .long ((-1000000000 : Int32) - nI 1).toInt64) 0 i (by decide) (by decide) (Same.rf _) (Same.rf _) ?_ ?_
        · refine gd_ild1 dX8_write_0 ?_
          refine gd_ic4 dX8_write_1 ?_
          refine gd_cS2i dX8_write_2 ct_8_48 ⟨Nat.le_of_ble_eq_true rfl, Nat.le_of_ble_eq_true rfl⟩ (Nat.le_of_ble_eq_true rfl) (Nat.le_of_ble_eq_true rfl) (c_isBelow_t hq (by decide) _) ?_
          refine gd_if_ne_t 16 dX8_write_5 (by decide) (by decide) ?_
          refine gd_ald0 dX8_write_16 (by decide) ?_
          refine gd_getR (r := 56) dX8_write_17 fl_8_33 rfl rfl rfl (by decide) ?_
          refine gd_ild1 dX8_write_20 ?_
          refine gd_cV1i dX8_write_21 ct_8_82 rc_56 ⟨Nat.le_of_ble_eq_true rfl, Nat.le_of_ble_eq_true rfl⟩ (Nat.le_of_ble_eq_true rfl) (Nat.le_of_ble_eq_true rfl) (c_isMissing0 hq e58 (by decide) (by decide)) ?_
          refine gd_if_eq_t 35 dX8_write_24 (by decide) (by decide) ?_
          refine gd_ild2 dX8_write_35 ?_
          refine gd_ald0 dX8_write_36 (by decide) ?_
          refine gd_getR (r := 56) dX8_write_37 fl_8_33 rfl rfl rfl (by decide) ?_
          refine gd_getR (r := 59) dX8_write_40 fl_8_86 rfl rfl rfl (by decide) ?_
          refine gd_ild1 dX8_write_43 ?_
          refine gd_iald (n := 4) dX8_write_44 rfl (by decide) (by repeat' (first | with_reducible rfl | apply ni_add | apply ni_mul)) (by omega) ?_
          rw [e59]
          refine gd_cS2i dX8_write_45 ct_8_48 ⟨Nat.le_of_ble_eq_true rfl, Nat.le_of_ble_eq_true rfl⟩ (Nat.le_of_ble_eq_true rfl) (Nat.le_of_ble_eq_true rfl) (c_isBelow_f hb _) ?_
          refine gd_if_ne_f 59 dX8_write_48 (by decide) (by decide) ?_
          refine gd_ald0 dX8_write_51 (by decide) ?_
          refine gd_ldc dX8_write_52 ld_8_52 ?_
          refine gd_cV1i dX8_write_54 ct_8_53 rc_0 ⟨Nat.le_of_ble_eq_true rfl, Nat.le_of_ble_eq_true rfl⟩ (Nat.le_of_ble_eq_true rfl) (Nat.le_of_ble_eq_true rfl) (c_f0 _) ?_
          refine gd_i2l dX8_write_57 ?_
          refine gd_lret dX8_write_58 rfl ?_
          rfl
        · refine gd_ild1 dX9_write_0 ?_
          refine gd_cS1i dX9_write_1 ct_9_104 ⟨Nat.le_of_ble_eq_true rfl, Nat.le_of_ble_eq_true rfl⟩ (Nat.le_of_ble_eq_true rfl) (Nat.le_of_ble_eq_true rfl) (m_isSheet_t hq _) ?_
          refine gd_if_ne_t 14 dX9_write_4 (by decide) (by decide) ?_
          refine gd_ald0 dX9_write_14 (by decide) ?_
          refine gd_getR (r := 90) dX9_write_15 fl_9_63 rfl rfl rfl (by decide) ?_
          refine gd_ild1 dX9_write_18 ?_
          refine gd_iald (n := 4) dX9_write_19 rfl (by decide) (by repeat' (first | with_reducible rfl | apply ni_add | apply ni_mul)) (by omega) ?_
          rw [show (hf h 0).1 90 q = nI 64 from e90]
          refine gd_if_ne_t 31 dX9_write_20 (by decide) (by decide) ?_
          refine gd_ild2 dX9_write_31 ?_
          refine gd_ic0 dX9_write_32 ?_
          refine gd_ald0 dX9_write_33 (by decide) ?_
          refine gd_getR (r := 91) dX9_write_34 fl_9_66 rfl rfl rfl (by decide) ?_
          refine gd_ild1 dX9_write_37 ?_
          refine gd_iald (n := 4) dX9_write_38 rfl (by decide) (by repeat' (first | with_reducible rfl | apply ni_add | apply ni_mul)) (by omega) ?_
          rw [show (hf h 0).1 91 q = nI (tn (h.1 91 q)) from e91]
          refine gd_ic1 dX9_write_39 ?_
          refine gd_isub dX9_write_40 ?_
          refine gd_cS3i dX9_write_41 ct_9_79 ⟨Nat.le_of_ble_eq_true rfl, Nat.le_of_ble_eq_true rfl⟩ (Nat.le_of_ble_eq_true rfl) (Nat.le_of_ble_eq_true rfl) (m_inz_f hb (by omega) _) ?_
          refine gd_if_ne_f 54 dX9_write_44 (by decide) (by decide) ?_
          refine gd_ald0 dX9_write_47 (by decide) ?_
          refine gd_ic1 dX9_write_48 ?_
          refine gd_cV1i dX9_write_49 ct_9_97 rc_72 ⟨Nat.le_of_ble_eq_true rfl, Nat.le_of_ble_eq_true rfl⟩ (Nat.le_of_ble_eq_true rfl) (Nat.le_of_ble_eq_true rfl) (m_f0 _) ?_
          refine gd_i2l dX9_write_52 ?_
          refine gd_lret dX9_write_53 rfl ?_
          rfl
  · refine Pas.findV (h1 := h) (h2 := hf (h) 0) (r := .long (-1000000001 : Int32).toInt64) (r2 := .long ((-1000000000 : Int32) - nI 1).toInt64) 0 i (by decide) (by decide) (Same.rf _) (Same.rf _) ?_ ?_
    · refine gd_ild1 dX8_write_0 ?_
      refine gd_ic4 dX8_write_1 ?_
      refine gd_cS2i dX8_write_2 ct_8_48 ⟨Nat.le_of_ble_eq_true rfl, Nat.le_of_ble_eq_true rfl⟩ (Nat.le_of_ble_eq_true rfl) (Nat.le_of_ble_eq_true rfl) (c_isBelow_f ha _) ?_
      refine gd_if_ne_f 16 dX8_write_5 (by decide) (by decide) ?_
      refine gd_ald0 dX8_write_8 (by decide) ?_
      refine gd_ldc dX8_write_9 ld_8_52 ?_
      refine gd_cV1i dX8_write_11 ct_8_53 rc_0 ⟨Nat.le_of_ble_eq_true rfl, Nat.le_of_ble_eq_true rfl⟩ (Nat.le_of_ble_eq_true rfl) (Nat.le_of_ble_eq_true rfl) (c_f0 _) ?_
      refine gd_i2l dX8_write_14 ?_
      refine gd_lret dX8_write_15 rfl ?_
      rfl
    · refine gd_ild1 dX9_write_0 ?_
      refine gd_cS1i dX9_write_1 ct_9_104 ⟨Nat.le_of_ble_eq_true rfl, Nat.le_of_ble_eq_true rfl⟩ (Nat.le_of_ble_eq_true rfl) (Nat.le_of_ble_eq_true rfl) (m_isSheet_f ha _) ?_
      refine gd_if_ne_f 14 dX9_write_4 (by decide) (by decide) ?_
      refine gd_ald0 dX9_write_7 (by decide) ?_
      refine gd_ic1 dX9_write_8 ?_
      refine gd_cV1i dX9_write_9 ct_9_97 rc_72 ⟨Nat.le_of_ble_eq_true rfl, Nat.le_of_ble_eq_true rfl⟩ (Nat.le_of_ble_eq_true rfl) (Nat.le_of_ble_eq_true rfl) (m_f0 _) ?_
      refine gd_i2l dX9_write_12 ?_
      refine gd_lret dX9_write_13 rfl ?_
      rfl
