theorem c_setHouses {h : Hp} {t f : Nat} (ht : t < 16) (hf : f < 6) (v : Int32) : Gd mX0_setHouses 0 [.ref 2, .int (nI t), .int (nI f), .int v, .null, .null] [] h (some (.int (h.1 5 (6 * t + f))), sI h 5 (upd (h.1 5) (6 * t + f) v)) := by
  refine gd_ild1 dX0_setHouses_0 ?_
  refine gd_ic2 dX0_setHouses_1 ?_
  refine gd_imul dX0_setHouses_2 ?_
  refine gd_ic3 dX0_setHouses_3 ?_
  refine gd_imul dX0_setHouses_4 ?_
  refine gd_ild2 dX0_setHouses_5 ?_
  refine gd_iadd dX0_setHouses_6 ?_
  refine gd_ist4 dX0_setHouses_7 rfl ?_
  refine gd_ald0 dX0_setHouses_9 (by decide) ?_
  refine gd_getR (r := 5) dX0_setHouses_10 fl_0_18 rfl rfl rfl (by decide) ?_
  refine gd_ild4 dX0_setHouses_13 ?_
  refine gd_iald (n := 96) dX0_setHouses_15 rfl (by decide) (by repeat' (first | with_reducible rfl | apply ni_add | apply ni_mul)) (by omega) ?_
  refine gd_ist5 dX0_setHouses_16 rfl ?_
  refine gd_ald0 dX0_setHouses_18 (by decide) ?_
  refine gd_getR (r := 5) dX0_setHouses_19 fl_0_18 rfl rfl rfl (by decide) ?_
  refine gd_ild4 dX0_setHouses_22 ?_
  refine gd_ild3 dX0_setHouses_24 ?_
  refine gd_iast (n := 96) dX0_setHouses_25 rfl (by decide) (by repeat' (first | with_reducible rfl | apply ni_add | apply ni_mul)) (by omega) ?_
  refine gd_ild5 dX0_setHouses_26 ?_
  refine gd_iret dX0_setHouses_28 rfl rfl ?_
  rw [show t * 2 * 3 + f = 6 * t + f by omega]
set_option maxHeartbeats 1000000 in
theorem p_houses {h : Hp} (i : Inv h) (a b c : Int32) : Pas mX8_houses mX9_houses [.ref 0, .int a, .int b, .int c] [.ref 72, .int a, .int b, .int c, .null] h := by
  have lT := i.lT
  rcases rng a (nT (ms h)) (by omega) with ⟨t, ht, rfl⟩ | ha
  · rcases rng b (6) (by decide) with ⟨f, hff, rfl⟩ | hb
    · rcases rng c (10000) (by decide) with ⟨v, hv, rfl⟩ | hc
      · refine ⟨.int (ms h 3 (6 * t + f)), sI h 5 (upd (h.1 5) (6 * t + f) (nI v)), sI (sI h 5 (upd (h.1 5) (6 * t + f) (nI v))) 77 (upd (h.1 77) (6 * t + f) (nI v)), ?_, ?_, ?_, rfl, rfl⟩
        · refine gd_ald0 dX8_houses_0 (by decide) ?_
          refine gd_ild1 dX8_houses_1 ?_
          refine gd_cV1i dX8_houses_2 ct_8_74 rc_0 ⟨Nat.le_of_ble_eq_true rfl, Nat.le_of_ble_eq_true rfl⟩ (Nat.le_of_ble_eq_true rfl) (Nat.le_of_ble_eq_true rfl) (c_isTown_t i.w i.c ht) ?_
          refine gd_if_eq_f 27 dX8_houses_5 (by decide) (by decide) ?_
          refine gd_ild2 dX8_houses_8 ?_
          refine gd_bipush (v := nI 6) dX8_houses_9 (by decide) ?_
          refine gd_cS2i dX8_houses_11 ct_8_48 ⟨Nat.le_of_ble_eq_true rfl, Nat.le_of_ble_eq_true rfl⟩ (Nat.le_of_ble_eq_true rfl) (Nat.le_of_ble_eq_true rfl) (c_isBelow_t hff (by decide) _) ?_
          refine gd_if_eq_f 27 dX8_houses_14 (by decide) (by decide) ?_
          refine gd_ild3 dX8_houses_17 ?_
          refine gd_sipush (v := nI 10000) dX8_houses_18 (by decide) ?_
          refine gd_cS2i dX8_houses_21 ct_8_48 ⟨Nat.le_of_ble_eq_true rfl, Nat.le_of_ble_eq_true rfl⟩ (Nat.le_of_ble_eq_true rfl) (Nat.le_of_ble_eq_true rfl) (c_isBelow_t hv (by decide) _) ?_
          refine gd_if_ne_t 34 dX8_houses_24 (by decide) (by decide) ?_
          refine gd_ald0 dX8_houses_34 (by decide) ?_
          refine gd_getR (r := 1) dX8_houses_35 fl_8_12 rfl rfl rfl (by decide) ?_
          refine gd_getR (r := 2) dX8_houses_38 fl_8_57 rfl rfl rfl (by decide) ?_
          refine gd_ild1 dX8_houses_41 ?_
          refine gd_ild2 dX8_houses_42 ?_
          refine gd_ild3 dX8_houses_43 ?_
          refine gd_cV3i dX8_houses_44 ct_8_78 rc_2 ⟨Nat.le_of_ble_eq_true rfl, Nat.le_of_ble_eq_true rfl⟩ (Nat.le_of_ble_eq_true rfl) (Nat.le_of_ble_eq_true rfl) (c_setHouses (by omega) hff _) ?_
          refine gd_iret dX8_houses_47 rfl rfl ?_
          rw [i.c.h1 _ (by omega)]
        · refine gd_ald0 dX9_houses_0 (by decide) ?_
          refine gd_ild1 dX9_houses_1 ?_
          refine gd_cV1i dX9_houses_2 ct_9_101 rc_72 ⟨Nat.le_of_ble_eq_true rfl, Nat.le_of_ble_eq_true rfl⟩ (Nat.le_of_ble_eq_true rfl) (Nat.le_of_ble_eq_true rfl) (m_isTown_t (by exact i.w) ht) ?_
          refine gd_if_eq_f 28 dX9_houses_5 (by decide) (by decide) ?_
          refine gd_ild2 dX9_houses_8 ?_
          refine gd_ic0 dX9_houses_9 ?_
          refine gd_ic5 dX9_houses_10 ?_
          refine gd_cS3i dX9_houses_11 ct_9_79 ⟨Nat.le_of_ble_eq_true rfl, Nat.le_of_ble_eq_true rfl⟩ (Nat.le_of_ble_eq_true rfl) (Nat.le_of_ble_eq_true rfl) (m_in_t (m := 5) (by omega) (by decide) _) ?_
          refine gd_if_eq_f 28 dX9_houses_14 (by decide) (by decide) ?_
          refine gd_ild3 dX9_houses_17 ?_
          refine gd_ic0 dX9_houses_18 ?_
          refine gd_sipush (v := nI 9999) dX9_houses_19 (by decide) ?_
          refine gd_cS3i dX9_houses_22 ct_9_79 ⟨Nat.le_of_ble_eq_true rfl, Nat.le_of_ble_eq_true rfl⟩ (Nat.le_of_ble_eq_true rfl) (Nat.le_of_ble_eq_true rfl) (m_in_t (m := 9999) (by omega) (by decide) _) ?_
          refine gd_if_ne_t 34 dX9_houses_25 (by decide) (by decide) ?_
          refine gd_ald0 dX9_houses_34 (by decide) ?_
          refine gd_getR (r := 77) dX9_houses_35 fl_9_22 rfl rfl rfl (by decide) ?_
          refine gd_bipush (v := nI 6) dX9_houses_38 (by decide) ?_
          refine gd_ild1 dX9_houses_40 ?_
          refine gd_imul dX9_houses_41 ?_
          refine gd_ild2 dX9_houses_42 ?_
          refine gd_iadd dX9_houses_43 ?_
          refine gd_iald (n := 96) dX9_houses_44 rfl (by decide) (by repeat' (first | with_reducible rfl | apply ni_add | apply ni_mul)) (by omega) ?_
          refine gd_ist4 dX9_houses_45 rfl ?_
          refine gd_ald0 dX9_houses_47 (by decide) ?_
          refine gd_getR (r := 77) dX9_houses_48 fl_9_22 rfl rfl rfl (by decide) ?_
          refine gd_bipush (v := nI 6) dX9_houses_51 (by decide) ?_
          refine gd_ild1 dX9_houses_53 ?_
          refine gd_imul dX9_houses_54 ?_
          refine gd_ild2 dX9_houses_55 ?_
          refine gd_iadd dX9_houses_56 ?_
          refine gd_ild3 dX9_houses_57 ?_
          refine gd_iast (n := 96) dX9_houses_58 rfl (by decide) (by repeat' (first | with_reducible rfl | apply ni_add | apply ni_mul)) (by omega) ?_
          refine gd_ild4 dX9_houses_59 ?_
          refine gd_iret dX9_houses_61 rfl rfl ?_
          rw [ms_r3 (by omega)]; rfl
        · have em : ms (sI (sI h 5 (upd (h.1 5) (6 * t + f) (nI v))) 77 (upd (h.1 77) (6 * t + f) (nI v))) = sR (ms h) 3 (trR 3 (upd (h.1 77) (6 * t + f) (nI v))) := by
            rw [ms_set 3 (by decide), ms_si (Or.inl (by decide))]
          skip
          refine inv_world i (fun k hk => by rw [sI_n (by omega), sI_n (by omega)]) rfl ?_ ?_
          · rw [em]
            refine ⟨i.w.t, i.w.n, i.w.x, i.w.o, i.w.d, i.w.g, i.w.c, ?_, i.w.l, i.w.f, i.w.c6, i.w.r, i.w.k⟩
            · intro j hj
              have hj : j < 6 * nT (ms h) := hj
              show ∃ z, z < 10000 ∧ trR 3 (upd (h.1 77) (6 * t + f) (nI v)) j = nI z
              rw [trR_at (show j < 96 by omega), upd_at]
              split
              · exact ⟨v, hv, rfl⟩
              · rw [← ms_r3 (by omega)]; exact i.w.h j hj
          · rw [em]
            refine ⟨i.c.t, i.c.d, i.c.n, i.c.x, i.c.o, i.c.g, i.c.c, ?_, ?_, i.c.lk, i.c.lt, i.c.lw, i.c.ld, i.c.lr, i.c.lq, i.c.lf, i.c.le, i.c.lo, i.c.f, i.c.c6, i.c.rk, i.c.rl, i.c.rh, i.c.ks, i.c.km, i.c.kd⟩
            · intro j hj
              have hj : j < 6 * nT (ms h) := hj
              show upd (h.1 5) (6 * t + f) (nI v) j = trR 3 (upd (h.1 77) (6 * t + f) (nI v)) j
              rw [trR_at (show j < 96 by omega), upd_at, upd_at, i.c.h1 j hj, ms_r3 (by omega)]
            · intro j h1 h2
              have h2 : 6 * nT (ms h) ≤ j := h2
              show upd (h.1 5) (6 * t + f) (nI v) j = nI 0
              rw [upd_at, if_neg (by omega)]
              exact i.c.h01 j h1 h2
      · refine Pas.find (h1 := h) (h2 := hf (h) 0) (v := -1000000001) (w := (-1000000000 : Int32) - nI 1) 0 i (by decide) (by decide) (by decide) (Same.rf _) (Same.rf _) ?_ ?_
        · refine gd_ald0 dX8_houses_0 (by decide) ?_
          refine gd_ild1 dX8_houses_1 ?_
          refine gd_cV1i dX8_houses_2 ct_8_74 rc_0 ⟨Nat.le_of_ble_eq_true rfl, Nat.le_of_ble_eq_true rfl⟩ (Nat.le_of_ble_eq_true rfl) (Nat.le_of_ble_eq_true rfl) (c_isTown_t i.w i.c ht) ?_
          refine gd_if_eq_f 27 dX8_houses_5 (by decide) (by decide) ?_
          refine gd_ild2 dX8_houses_8 ?_
          refine gd_bipush (v := nI 6) dX8_houses_9 (by decide) ?_
          refine gd_cS2i dX8_houses_11 ct_8_48 ⟨Nat.le_of_ble_eq_true rfl, Nat.le_of_ble_eq_true rfl⟩ (Nat.le_of_ble_eq_true rfl) (Nat.le_of_ble_eq_true rfl) (c_isBelow_t hff (by decide) _) ?_
          refine gd_if_eq_f 27 dX8_houses_14 (by decide) (by decide) ?_
          refine gd_ild3 dX8_houses_17 ?_
          refine gd_sipush (v := nI 10000) dX8_houses_18 (by decide) ?_
          refine gd_cS2i dX8_houses_21 ct_8_48 ⟨Nat.le_of_ble_eq_true rfl, Nat.le_of_ble_eq_true rfl⟩ (Nat.le_of_ble_eq_true rfl) (Nat.le_of_ble_eq_true rfl) (c_isBelow_f hc _) ?_
          refine gd_if_ne_f 34 dX8_houses_24 (by decide) (by decide) ?_
          refine gd_ald0 dX8_houses_27 (by decide) ?_
          refine gd_ldc dX8_houses_28 ld_8_52 ?_
          refine gd_cV1i dX8_houses_30 ct_8_53 rc_0 ⟨Nat.le_of_ble_eq_true rfl, Nat.le_of_ble_eq_true rfl⟩ (Nat.le_of_ble_eq_true rfl) (Nat.le_of_ble_eq_true rfl) (c_f0 _) ?_
          refine gd_iret dX8_houses_33 rfl rfl ?_
          rfl
        · refine gd_ald0 dX9_houses_0 (by decide) ?_
          refine gd_ild1 dX9_houses_1 ?_
          refine gd_cV1i dX9_houses_2 ct_9_101 rc_72 ⟨Nat.le_of_ble_eq_true rfl, Nat.le_of_ble_eq_true rfl⟩ (Nat.le_of_ble_eq_true rfl) (Nat.le_of_ble_eq_true rfl) (m_isTown_t (h := hf h 0) (by exact i.w) ht) ?_
          refine gd_if_eq_f 28 dX9_houses_5 (by decide) (by decide) ?_
          refine gd_ild2 dX9_houses_8 ?_
          refine gd_ic0 dX9_houses_9 ?_
          refine gd_ic5 dX9_houses_10 ?_
          refine gd_cS3i dX9_houses_11 ct_9_79 ⟨Nat.le_of_ble_eq_true rfl, Nat.le_of_ble_eq_true rfl⟩ (Nat.le_of_ble_eq_true rfl) (Nat.le_of_ble_eq_true rfl) (m_in_t (m := 5) (by omega) (by decide) _) ?_
          refine gd_if_eq_f 28 dX9_houses_14 (by decide) (by decide) ?_
          refine gd_ild3 dX9_houses_17 ?_
          refine gd_ic0 dX9_houses_18 ?_
          refine gd_sipush (v := nI 9999) dX9_houses_19 (by decide) ?_
          refine gd_cS3i dX9_houses_22 ct_9_79 ⟨Nat.le_of_ble_eq_true rfl, Nat.le_of_ble_eq_true rfl⟩ (Nat.le_of_ble_eq_true rfl) (Nat.le_of_ble_eq_true rfl) (m_in_f (n := 10000) (by decide) (by decide) hc _) ?_
          refine gd_if_ne_f 34 dX9_houses_25 (by decide) (by decide) ?_
          refine gd_ald0 dX9_houses_28 (by decide) ?_
          refine gd_ic1 dX9_houses_29 ?_
          refine gd_cV1i dX9_houses_30 ct_9_97 rc_72 ⟨Nat.le_of_ble_eq_true rfl, Nat.le_of_ble_eq_true rfl⟩ (Nat.le_of_ble_eq_true rfl) (Nat.le_of_ble_eq_true rfl) (m_f0 _) ?_
          refine gd_iret dX9_houses_33 rfl rfl ?_
          rfl
    · refine Pas.find (h1 := h) (h2 := hf (h) 0) (v := -1000000001) (w := (-1000000000 : Int32) - nI 1) 0 i (by decide) (by decide) (by decide) (Same.rf _) (Same.rf _) ?_ ?_
      · refine gd_ald0 dX8_houses_0 (by decide) ?_
        refine gd_ild1 dX8_houses_1 ?_
        refine gd_cV1i dX8_houses_2 ct_8_74 rc_0 ⟨Nat.le_of_ble_eq_true rfl, Nat.le_of_ble_eq_true rfl⟩ (Nat.le_of_ble_eq_true rfl) (Nat.le_of_ble_eq_true rfl) (c_isTown_t i.w i.c ht) ?_
        refine gd_if_eq_f 27 dX8_houses_5 (by decide) (by decide) ?_
        refine gd_ild2 dX8_houses_8 ?_
        refine gd_bipush (v := nI 6) dX8_houses_9 (by decide) ?_
        refine gd_cS2i dX8_houses_11 ct_8_48 ⟨Nat.le_of_ble_eq_true rfl, Nat.le_of_ble_eq_true rfl⟩ (Nat.le_of_ble_eq_true rfl) (Nat.le_of_ble_eq_true rfl) (c_isBelow_f hb _) ?_
        refine gd_if_eq_t 27 dX8_houses_14 (by decide) (by decide) ?_
        refine gd_ald0 dX8_houses_27 (by decide) ?_
        refine gd_ldc dX8_houses_28 ld_8_52 ?_
        refine gd_cV1i dX8_houses_30 ct_8_53 rc_0 ⟨Nat.le_of_ble_eq_true rfl, Nat.le_of_ble_eq_true rfl⟩ (Nat.le_of_ble_eq_true rfl) (Nat.le_of_ble_eq_true rfl) (c_f0 _) ?_
        refine gd_iret dX8_houses_33 rfl rfl ?_
        rfl
      · refine gd_ald0 dX9_houses_0 (by decide) ?_
        refine gd_ild1 dX9_houses_1 ?_
        refine gd_cV1i dX9_houses_2 ct_9_101 rc_72 ⟨Nat.le_of_ble_eq_true rfl, Nat.le_of_ble_eq_true rfl⟩ (Nat.le_of_ble_eq_true rfl) (Nat.le_of_ble_eq_true rfl) (m_isTown_t (h := hf h 0) (by exact i.w) ht) ?_
        refine gd_if_eq_f 28 dX9_houses_5 (by decide) (by decide) ?_
        refine gd_ild2 dX9_houses_8 ?_
        refine gd_ic0 dX9_houses_9 ?_
        refine gd_ic5 dX9_houses_10 ?_
        refine gd_cS3i dX9_houses_11 ct_9_79 ⟨Nat.le_of_ble_eq_true rfl, Nat.le_of_ble_eq_true rfl⟩ (Nat.le_of_ble_eq_true rfl) (Nat.le_of_ble_eq_true rfl) (m_in_f (n := 6) (by decide) (by decide) hb _) ?_
        refine gd_if_eq_t 28 dX9_houses_14 (by decide) (by decide) ?_
        refine gd_ald0 dX9_houses_28 (by decide) ?_
        refine gd_ic1 dX9_houses_29 ?_
        refine gd_cV1i dX9_houses_30 ct_9_97 rc_72 ⟨Nat.le_of_ble_eq_true rfl, Nat.le_of_ble_eq_true rfl⟩ (Nat.le_of_ble_eq_true rfl) (Nat.le_of_ble_eq_true rfl) (m_f0 _) ?_
        refine gd_iret dX9_houses_33 rfl rfl ?_
        rfl
  · refine Pas.find (h1 := h) (h2 := hf (h) 0) (v := -1000000001) (w := (-1000000000 : Int32) - nI 1) 0 i (by decide) (by decide) (by decide) (Same.rf _) (Same.rf _) ?_ ?_
    · refine gd_ald0 dX8_houses_0 (by decide) ?_
      refine gd_ild1 dX8_houses_1 ?_
      refine gd_cV1i dX8_houses_2 ct_8_74 rc_0 ⟨Nat.le_of_ble_eq_true rfl, Nat.le_of_ble_eq_true rfl⟩ (Nat.le_of_ble_eq_true rfl) (Nat.le_of_ble_eq_true rfl) (c_isTown_f i.w i.c ha) ?_
      refine gd_if_eq_t 27 dX8_houses_5 (by decide) (by decide) ?_
      refine gd_ald0 dX8_houses_27 (by decide) ?_
      refine gd_ldc dX8_houses_28 ld_8_52 ?_
      refine gd_cV1i dX8_houses_30 ct_8_53 rc_0 ⟨Nat.le_of_ble_eq_true rfl, Nat.le_of_ble_eq_true rfl⟩ (Nat.le_of_ble_eq_true rfl) (Nat.le_of_ble_eq_true rfl) (c_f0 _) ?_
      refine gd_iret dX8_houses_33 rfl rfl ?_
      rfl
    · refine gd_ald0 dX9_houses_0 (by decide) ?_
      refine gd_ild1 dX9_houses_1 ?_
      refine gd_cV1i dX9_houses_2 ct_9_101 rc_72 ⟨Nat.le_of_ble_eq_true rfl, Nat.le_of_ble_eq_true rfl⟩ (Nat.le_of_ble_eq_true rfl) (Nat.le_of_ble_eq_true rfl) (m_isTown_f (h := hf h 0) (by exact i.w) ha) ?_
      refine gd_if_eq_t 28 dX9_houses_5 (by decide) (by decide) ?_
      refine gd_ald0 dX9_houses_28 (by decide) ?_
      refine gd_ic1 dX9_houses_29 ?_
      refine gd_cV1i dX9_houses_30 ct_9_97 rc_72 ⟨Nat.le_of_ble_eq_true rfl, Nat.le_of_ble_eq_true rfl⟩ (Nat.le_of_ble_eq_true rfl) (Nat.le_of_ble_eq_true rfl) (m_f0 _) ?_
      refine gd_iret dX9_houses_33 rfl rfl ?_
      rfl
