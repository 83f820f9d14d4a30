set_option maxHeartbeats 1000000 in
theorem p_span {h : Hp} (i : Inv h) (a : Int32) : Pas mX8_span mX9_span [.ref 0, .int a] [.ref 72, .int a] h := by
  rcases rng a (nT (ms h)) (by have := i.lT; omega) with ⟨t, ht, rfl⟩ | ha
  · have lT := i.lT
    obtain ⟨h1, gt, f1, v1⟩ := c_take i.w i.c (-1)
    have c1 := f1.cr i.c
    have e1 : ms (h1) = ms h := (f1).same.msE
    obtain ⟨h2, gp, f2, v2⟩ := m_prepare (h := h1) (by rw [e1]; exact i.w) (-1)
    rw [e1] at v2
    refine Pas.read (h1 := h1) (h2 := h2) (r := .int (nI (spN (ms h) (-1) t))) i rfl (f1).same (f2).same ?_ ?_
    · refine gd_ald0 dX8_span_0 (by decide) ?_
      refine gd_ild1 dX8_span_1 ?_
      refine gd_cV1i dX8_span_2 ct_8_74 rc_0 ⟨Nat.le_of_ble_eq_true rfl, Nat.le_of_ble_eq_true rfl⟩ (Nat.le_of_ble_eq_true rfl) (Nat.le_of_ble_eq_true rfl) (c_isTown_t i.w i.c ht) ?_
      refine gd_if_ne_t 15 dX8_span_5 (by decide) (by decide) ?_
      refine gd_ald0 dX8_span_15 (by decide) ?_
      refine gd_getR (r := 60) dX8_span_16 fl_8_40 rfl rfl rfl (by decide) ?_
      refine gd_ald0 dX8_span_19 (by decide) ?_
      refine gd_getR (r := 1) dX8_span_20 fl_8_12 rfl rfl rfl (by decide) ?_
      refine gd_icm1 dX8_span_23 ?_
      refine gd_cV2v dX8_span_24 ct_8_211 rc_60 ⟨Nat.le_of_ble_eq_true rfl, Nat.le_of_ble_eq_true rfl⟩ (Nat.le_of_ble_eq_true rfl) (Nat.le_of_ble_eq_true rfl) (gt) ?_
      refine gd_ald0 dX8_span_27 (by decide) ?_
      refine gd_getR (r := 60) dX8_span_28 fl_8_40 rfl rfl rfl (by decide) ?_
      refine gd_getR (r := 61) dX8_span_31 fl_8_215 rfl rfl rfl (by decide) ?_
      refine gd_ild1 dX8_span_34 ?_
      refine gd_iald (n := 16) dX8_span_35 rfl (by decide) (by repeat' (first | with_reducible rfl | apply ni_add | apply ni_mul)) (by omega) ?_
      rw [v1.1.2.2 t ht]
      refine gd_iret dX8_span_36 rfl rfl ?_
      rfl
    · refine gd_ald0 dX9_span_0 (by decide) ?_
      refine gd_ild1 dX9_span_1 ?_
      refine gd_cV1i dX9_span_2 ct_9_101 rc_72 ⟨Nat.le_of_ble_eq_true rfl, Nat.le_of_ble_eq_true rfl⟩ (Nat.le_of_ble_eq_true rfl) (Nat.le_of_ble_eq_true rfl) (m_isTown_t (h := h1) (by rw [e1]; exact i.w) (by rw [e1]; exact ht)) ?_
      refine gd_if_ne_t 14 dX9_span_5 (by decide) (by decide) ?_
      refine gd_ald0 dX9_span_14 (by decide) ?_
      refine gd_icm1 dX9_span_15 ?_
      refine gd_cV1v dX9_span_16 ct_9_216 rc_72 ⟨Nat.le_of_ble_eq_true rfl, Nat.le_of_ble_eq_true rfl⟩ (Nat.le_of_ble_eq_true rfl) (Nat.le_of_ble_eq_true rfl) (gp) ?_
      refine gd_ald0 dX9_span_19 (by decide) ?_
      refine gd_getR (r := 86) dX9_span_20 fl_9_50 rfl rfl rfl (by decide) ?_
      refine gd_ild1 dX9_span_23 ?_
      refine gd_iald (n := 16) dX9_span_24 rfl (by decide) (by repeat' (first | with_reducible rfl | apply ni_add | apply ni_mul)) (by omega) ?_
      rw [v2.2.2.2.1 t ht]
      refine gd_iret dX9_span_25 rfl rfl ?_
      rfl
  · refine Pas.find (h1 := h) (h2 := hf (h) 0) (v := -1000000001) (w := (-1000000000 : Int32) - nI 1) 0 i (by decide) (by decide) (by decide) (Same.rf _) (Same.rf _) ?_ ?_
    · refine gd_ald0 dX8_span_0 (by decide) ?_
      refine gd_ild1 dX8_span_1 ?_
      refine gd_cV1i dX8_span_2 ct_8_74 rc_0 ⟨Nat.le_of_ble_eq_true rfl, Nat.le_of_ble_eq_true rfl⟩ (Nat.le_of_ble_eq_true rfl) (Nat.le_of_ble_eq_true rfl) (c_isTown_f i.w i.c ha) ?_
      refine gd_if_ne_f 15 dX8_span_5 (by decide) (by decide) ?_
      refine gd_ald0 dX8_span_8 (by decide) ?_
      refine gd_ldc dX8_span_9 ld_8_52 ?_
      refine gd_cV1i dX8_span_11 ct_8_53 rc_0 ⟨Nat.le_of_ble_eq_true rfl, Nat.le_of_ble_eq_true rfl⟩ (Nat.le_of_ble_eq_true rfl) (Nat.le_of_ble_eq_true rfl) (c_f0 _) ?_
      refine gd_iret dX8_span_14 rfl rfl ?_
      rfl
    · refine gd_ald0 dX9_span_0 (by decide) ?_
      refine gd_ild1 dX9_span_1 ?_
      refine gd_cV1i dX9_span_2 ct_9_101 rc_72 ⟨Nat.le_of_ble_eq_true rfl, Nat.le_of_ble_eq_true rfl⟩ (Nat.le_of_ble_eq_true rfl) (Nat.le_of_ble_eq_true rfl) (m_isTown_f (h := hf h 0) (by exact i.w) ha) ?_
      refine gd_if_ne_f 14 dX9_span_5 (by decide) (by decide) ?_
      refine gd_ald0 dX9_span_8 (by decide) ?_
      refine gd_ic1 dX9_span_9 ?_
      refine gd_cV1i dX9_span_10 ct_9_97 rc_72 ⟨Nat.le_of_ble_eq_true rfl, Nat.le_of_ble_eq_true rfl⟩ (Nat.le_of_ble_eq_true rfl) (Nat.le_of_ble_eq_true rfl) (m_f0 _) ?_
      refine gd_iret dX9_span_13 rfl rfl ?_
      rfl
set_option maxHeartbeats 1000000 in
theorem p_beside {h : Hp} (i : Inv h) (a : Int32) : Pas mX8_beside mX9_beside [.ref 0, .int a] [.ref 72, .int a] h := by
  rcases rng a (nN (ms h)) (by have := i.lN; omega) with ⟨l, hl, rfl⟩ | ha
  · have lT := i.lT
    have lN := i.lN
    obtain ⟨t, ht, et⟩ := lt_ok i.w hl
    obtain ⟨h1, gt, f1, v1⟩ := c_take i.w i.c (nI l)
    have c1 := f1.cr i.c
    have e1 : ms (h1) = ms h := (f1).same.msE
    obtain ⟨h2, gp, f2, v2⟩ := m_prepare (h := h1) (by rw [e1]; exact i.w) (nI l)
    rw [e1] at v2
    refine Pas.read (h1 := h1) (h2 := h2) (r := .int (nI (spN (ms h) (nI l) t))) i rfl (f1).same (f2).same ?_ ?_
    · refine gd_ald0 dX8_beside_0 (by decide) ?_
      refine gd_ild1 dX8_beside_1 ?_
      refine gd_cV1i dX8_beside_2 ct_8_142 rc_0 ⟨Nat.le_of_ble_eq_true rfl, Nat.le_of_ble_eq_true rfl⟩ (Nat.le_of_ble_eq_true rfl) (Nat.le_of_ble_eq_true rfl) (c_isLetter_t i.w i.c hl) ?_
      refine gd_if_ne_t 15 dX8_beside_5 (by decide) (by decide) ?_
      refine gd_ald0 dX8_beside_15 (by decide) ?_
      refine gd_getR (r := 60) dX8_beside_16 fl_8_40 rfl rfl rfl (by decide) ?_
      refine gd_ald0 dX8_beside_19 (by decide) ?_
      refine gd_getR (r := 1) dX8_beside_20 fl_8_12 rfl rfl rfl (by decide) ?_
      refine gd_ild1 dX8_beside_23 ?_
      refine gd_cV2v dX8_beside_24 ct_8_211 rc_60 ⟨Nat.le_of_ble_eq_true rfl, Nat.le_of_ble_eq_true rfl⟩ (Nat.le_of_ble_eq_true rfl) (Nat.le_of_ble_eq_true rfl) (gt) ?_
      refine gd_ald0 dX8_beside_27 (by decide) ?_
      refine gd_getR (r := 60) dX8_beside_28 fl_8_40 rfl rfl rfl (by decide) ?_
      refine gd_getR (r := 61) dX8_beside_31 fl_8_215 rfl rfl rfl (by decide) ?_
      refine gd_ald0 dX8_beside_34 (by decide) ?_
      refine gd_getR (r := 1) dX8_beside_35 fl_8_12 rfl rfl rfl (by decide) ?_
      refine gd_getR (r := 6) dX8_beside_38 fl_8_100 rfl rfl rfl (by decide) ?_
      refine gd_getR (r := 8) dX8_beside_41 fl_8_218 rfl rfl rfl (by decide) ?_
      refine gd_ild1 dX8_beside_44 ?_
      refine gd_iald (n := 30) dX8_beside_45 rfl (by decide) (by repeat' (first | with_reducible rfl | apply ni_add | apply ni_mul)) (by omega) ?_
      rw [c1.lt1 l hl, et]
      refine gd_iald (n := 16) dX8_beside_46 rfl (by decide) (by repeat' (first | with_reducible rfl | apply ni_add | apply ni_mul)) (by omega) ?_
      rw [v1.1.2.2 t ht]
      refine gd_iret dX8_beside_47 rfl rfl ?_
      rfl
    · refine gd_ald0 dX9_beside_0 (by decide) ?_
      refine gd_ild1 dX9_beside_1 ?_
      refine gd_cV1i dX9_beside_2 ct_9_113 rc_72 ⟨Nat.le_of_ble_eq_true rfl, Nat.le_of_ble_eq_true rfl⟩ (Nat.le_of_ble_eq_true rfl) (Nat.le_of_ble_eq_true rfl) (m_isLetter_t (h := h1) (by rw [e1]; exact i.w) (by rw [e1]; exact hl)) ?_
      refine gd_if_ne_t 14 dX9_beside_5 (by decide) (by decide) ?_
      refine gd_ald0 dX9_beside_14 (by decide) ?_
      refine gd_ild1 dX9_beside_15 ?_
      refine gd_cV1v dX9_beside_16 ct_9_216 rc_72 ⟨Nat.le_of_ble_eq_true rfl, Nat.le_of_ble_eq_true rfl⟩ (Nat.le_of_ble_eq_true rfl) (Nat.le_of_ble_eq_true rfl) (gp) ?_
      refine gd_ald0 dX9_beside_19 (by decide) ?_
      refine gd_getR (r := 86) dX9_beside_20 fl_9_50 rfl rfl rfl (by decide) ?_
      refine gd_ald0 dX9_beside_23 (by decide) ?_
      refine gd_ild1 dX9_beside_24 ?_
      refine gd_ic1 dX9_beside_25 ?_
      refine gd_cV2i dX9_beside_26 ct_9_120 rc_72 ⟨Nat.le_of_ble_eq_true rfl, Nat.le_of_ble_eq_true rfl⟩ (Nat.le_of_ble_eq_true rfl) (Nat.le_of_ble_eq_true rfl) (m_its (w := 1) (by omega) (by decide) _) ?_
      rw [show h2.1 78 (9 * l + 1) = nI t by rw [← ms_r4 (by omega), v2.1]; exact et]
      refine gd_iald (n := 16) dX9_beside_29 rfl (by decide) (by repeat' (first | with_reducible rfl | apply ni_add | apply ni_mul)) (by omega) ?_
      rw [v2.2.2.2.1 t ht]
      refine gd_iret dX9_beside_30 rfl rfl ?_
      rfl
  · refine Pas.find (h1 := h) (h2 := hf (h) 0) (v := -1000000001) (w := (-1000000000 : Int32) - nI 1) 0 i (by decide) (by decide) (by decide) (Same.rf _) (Same.rf _) ?_ ?_
    · refine gd_ald0 dX8_beside_0 (by decide) ?_
      refine gd_ild1 dX8_beside_1 ?_
      refine gd_cV1i dX8_beside_2 ct_8_142 rc_0 ⟨Nat.le_of_ble_eq_true rfl, Nat.le_of_ble_eq_true rfl⟩ (Nat.le_of_ble_eq_true rfl) (Nat.le_of_ble_eq_true rfl) (c_isLetter_f i.w i.c ha) ?_
      refine gd_if_ne_f 15 dX8_beside_5 (by decide) (by decide) ?_
      refine gd_ald0 dX8_beside_8 (by decide) ?_
      refine gd_ldc dX8_beside_9 ld_8_52 ?_
      refine gd_cV1i dX8_beside_11 ct_8_53 rc_0 ⟨Nat.le_of_ble_eq_true rfl, Nat.le_of_ble_eq_true rfl⟩ (Nat.le_of_ble_eq_true rfl) (Nat.le_of_ble_eq_true rfl) (c_f0 _) ?_
      refine gd_iret dX8_beside_14 rfl rfl ?_
      rfl
    · refine gd_ald0 dX9_beside_0 (by decide) ?_
      refine gd_ild1 dX9_beside_1 ?_
      refine gd_cV1i dX9_beside_2 ct_9_113 rc_72 ⟨Nat.le_of_ble_eq_true rfl, Nat.le_of_ble_eq_true rfl⟩ (Nat.le_of_ble_eq_true rfl) (Nat.le_of_ble_eq_true rfl) (m_isLetter_f (h := hf h 0) (by exact i.w) ha) ?_
      refine gd_if_ne_f 14 dX9_beside_5 (by decide) (by decide) ?_
      refine gd_ald0 dX9_beside_8 (by decide) ?_
      refine gd_ic1 dX9_beside_9 ?_
      refine gd_cV1i dX9_beside_10 ct_9_97 rc_72 ⟨Nat.le_of_ble_eq_true rfl, Nat.le_of_ble_eq_true rfl⟩ (Nat.le_of_ble_eq_true rfl) (Nat.le_of_ble_eq_true rfl) (m_f0 _) ?_
      refine gd_iret dX9_beside_13 rfl rfl ?_
      rfl
set_option maxHeartbeats 1000000 in
theorem p_step {h : Hp} (i : Inv h) (a b : Int32) : Pas mX8_step mX9_step [.ref 0, .int a, .int b] [.ref 72, .int a, .int b] h := by
  rcases shI a with ⟨n, hn, rfl⟩ | hs
  · rcases rng b (nT (ms h)) (by have := i.lT; omega) with ⟨t, ht, rfl⟩ | ha
    · obtain ⟨h1, gt, f1, v1⟩ := c_take i.w i.c (-1)
      have c1 := f1.cr i.c
      have e1 : ms (h1) = ms h := (f1).same.msE
      obtain ⟨h2, gp, f2, v2⟩ := m_prepare (h := h1) (by rw [e1]; exact i.w) (-1)
      rw [e1] at v2
      refine Pas.read (h1 := h1) (h2 := h2) (r := .int (nI (stN (ms h) t (n / 1000) (n / 10 % 100) (n % 10)))) i rfl (f1).same (f2).same ?_ ?_
      · refine gd_ild1 dX8_step_0 ?_
        refine gd_i2l dX8_step_1 ?_
        rw [i2l_n (by have := sh_lt hn; omega)]
        refine gd_cS1i dX8_step_2 ct_8_221 ⟨Nat.le_of_ble_eq_true rfl, Nat.le_of_ble_eq_true rfl⟩ (Nat.le_of_ble_eq_true rfl) (Nat.le_of_ble_eq_true rfl) (c_isShake_t hn _) ?_
        refine gd_if_eq_f 16 dX8_step_5 (by decide) (by decide) ?_
        refine gd_ald0 dX8_step_8 (by decide) ?_
        refine gd_ild2 dX8_step_9 ?_
        refine gd_cV1i dX8_step_10 ct_8_74 rc_0 ⟨Nat.le_of_ble_eq_true rfl, Nat.le_of_ble_eq_true rfl⟩ (Nat.le_of_ble_eq_true rfl) (Nat.le_of_ble_eq_true rfl) (c_isTown_t i.w i.c ht) ?_
        refine gd_if_ne_t 23 dX8_step_13 (by decide) (by decide) ?_
        refine gd_ald0 dX8_step_23 (by decide) ?_
        refine gd_getR (r := 60) dX8_step_24 fl_8_40 rfl rfl rfl (by decide) ?_
        refine gd_ald0 dX8_step_27 (by decide) ?_
        refine gd_getR (r := 1) dX8_step_28 fl_8_12 rfl rfl rfl (by decide) ?_
        refine gd_icm1 dX8_step_31 ?_
        refine gd_cV2v dX8_step_32 ct_8_211 rc_60 ⟨Nat.le_of_ble_eq_true rfl, Nat.le_of_ble_eq_true rfl⟩ (Nat.le_of_ble_eq_true rfl) (Nat.le_of_ble_eq_true rfl) (gt) ?_
        refine gd_ald0 dX8_step_35 (by decide) ?_
        refine gd_getR (r := 60) dX8_step_36 fl_8_40 rfl rfl rfl (by decide) ?_
        refine gd_ild1 dX8_step_39 ?_
        refine gd_ild2 dX8_step_40 ?_
        refine gd_cV2i dX8_step_41 ct_8_225 rc_60 ⟨Nat.le_of_ble_eq_true rfl, Nat.le_of_ble_eq_true rfl⟩ (Nat.le_of_ble_eq_true rfl) (Nat.le_of_ble_eq_true rfl) (c_stepOf i.w v1 ht hn) ?_
        refine gd_iret dX8_step_44 rfl rfl ?_
        rfl
      · refine gd_ild1 dX9_step_0 ?_
        refine gd_i2l dX9_step_1 ?_
        rw [i2l_n (by have := sh_lt hn; omega)]
        refine gd_cS1i dX9_step_2 ct_9_225 ⟨Nat.le_of_ble_eq_true rfl, Nat.le_of_ble_eq_true rfl⟩ (Nat.le_of_ble_eq_true rfl) (Nat.le_of_ble_eq_true rfl) (m_isShake_t hn _) ?_
        refine gd_if_eq_f 16 dX9_step_5 (by decide) (by decide) ?_
        refine gd_ald0 dX9_step_8 (by decide) ?_
        refine gd_ild2 dX9_step_9 ?_
        refine gd_cV1i dX9_step_10 ct_9_101 rc_72 ⟨Nat.le_of_ble_eq_true rfl, Nat.le_of_ble_eq_true rfl⟩ (Nat.le_of_ble_eq_true rfl) (Nat.le_of_ble_eq_true rfl) (m_isTown_t (h := h1) (by rw [e1]; exact i.w) (by rw [e1]; exact ht)) ?_
        refine gd_if_ne_t 22 dX9_step_13 (by decide) (by decide) ?_
        refine gd_ald0 dX9_step_22 (by decide) ?_
        refine gd_icm1 dX9_step_23 ?_
        refine gd_cV1v dX9_step_24 ct_9_216 rc_72 ⟨Nat.le_of_ble_eq_true rfl, Nat.le_of_ble_eq_true rfl⟩ (Nat.le_of_ble_eq_true rfl) (Nat.le_of_ble_eq_true rfl) (gp) ?_
        refine gd_ald0 dX9_step_27 (by decide) ?_
        refine gd_ild1 dX9_step_28 ?_
        refine gd_ild2 dX9_step_29 ?_
        refine gd_cV2i dX9_step_30 ct_9_219 rc_72 ⟨Nat.le_of_ble_eq_true rfl, Nat.le_of_ble_eq_true rfl⟩ (Nat.le_of_ble_eq_true rfl) (Nat.le_of_ble_eq_true rfl) (m_stepOf i.w v2 ht hn) ?_
        refine gd_iret dX9_step_33 rfl rfl ?_
        rfl
    · refine Pas.find (h1 := h) (h2 := hf (h) 0) (v := -1000000001) (w := (-1000000000 : Int32) - nI 1) 0 i (by decide) (by decide) (by decide) (Same.rf _) (Same.rf _) ?_ ?_
      · refine gd_ild1 dX8_step_0 ?_
        refine gd_i2l dX8_step_1 ?_
        rw [i2l_n (by have := sh_lt hn; omega)]
        refine gd_cS1i dX8_step_2 ct_8_221 ⟨Nat.le_of_ble_eq_true rfl, Nat.le_of_ble_eq_true rfl⟩ (Nat.le_of_ble_eq_true rfl) (Nat.le_of_ble_eq_true rfl) (c_isShake_t hn _) ?_
        refine gd_if_eq_f 16 dX8_step_5 (by decide) (by decide) ?_
        refine gd_ald0 dX8_step_8 (by decide) ?_
        refine gd_ild2 dX8_step_9 ?_
        refine gd_cV1i dX8_step_10 ct_8_74 rc_0 ⟨Nat.le_of_ble_eq_true rfl, Nat.le_of_ble_eq_true rfl⟩ (Nat.le_of_ble_eq_true rfl) (Nat.le_of_ble_eq_true rfl) (c_isTown_f i.w i.c ha) ?_
        refine gd_if_ne_f 23 dX8_step_13 (by decide) (by decide) ?_
        refine gd_ald0 dX8_step_16 (by decide) ?_
        refine gd_ldc dX8_step_17 ld_8_52 ?_
        refine gd_cV1i dX8_step_19 ct_8_53 rc_0 ⟨Nat.le_of_ble_eq_true rfl, Nat.le_of_ble_eq_true rfl⟩ (Nat.le_of_ble_eq_true rfl) (Nat.le_of_ble_eq_true rfl) (c_f0 _) ?_
        refine gd_iret dX8_step_22 rfl rfl ?_
        rfl
      · refine gd_ild1 dX9_step_0 ?_
        refine gd_i2l dX9_step_1 ?_
        rw [i2l_n (by have := sh_lt hn; omega)]
        refine gd_cS1i dX9_step_2 ct_9_225 ⟨Nat.le_of_ble_eq_true rfl, Nat.le_of_ble_eq_true rfl⟩ (Nat.le_of_ble_eq_true rfl) (Nat.le_of_ble_eq_true rfl) (m_isShake_t hn _) ?_
        refine gd_if_eq_f 16 dX9_step_5 (by decide) (by decide) ?_
        refine gd_ald0 dX9_step_8 (by decide) ?_
        refine gd_ild2 dX9_step_9 ?_
        refine gd_cV1i dX9_step_10 ct_9_101 rc_72 ⟨Nat.le_of_ble_eq_true rfl, Nat.le_of_ble_eq_true rfl⟩ (Nat.le_of_ble_eq_true rfl) (Nat.le_of_ble_eq_true rfl) (m_isTown_f (h := hf h 0) (by exact i.w) ha) ?_
        refine gd_if_ne_f 22 dX9_step_13 (by decide) (by decide) ?_
        refine gd_ald0 dX9_step_16 (by decide) ?_
        refine gd_ic1 dX9_step_17 ?_
        refine gd_cV1i dX9_step_18 ct_9_97 rc_72 ⟨Nat.le_of_ble_eq_true rfl, Nat.le_of_ble_eq_true rfl⟩ (Nat.le_of_ble_eq_true rfl) (Nat.le_of_ble_eq_true rfl) (m_f0 _) ?_
        refine gd_iret dX9_step_21 rfl rfl ?_
        rfl
  · refine Pas.find (h1 := h) (h2 := hf (h) 0) (v := -1000000001) (w := (-1000000000 : Int32) - nI 1) 0 i (by decide) (by decide) (by decide) (Same.rf _) (Same.rf _) ?_ ?_
    · refine gd_ild1 dX8_step_0 ?_
      refine gd_i2l dX8_step_1 ?_
      refine gd_cS1i dX8_step_2 ct_8_221 ⟨Nat.le_of_ble_eq_true rfl, Nat.le_of_ble_eq_true rfl⟩ (Nat.le_of_ble_eq_true rfl) (Nat.le_of_ble_eq_true rfl) (c_isShake_f hs _) ?_
      refine gd_if_eq_t 16 dX8_step_5 (by decide) (by decide) ?_
      refine gd_ald0 dX8_step_16 (by decide) ?_
      refine gd_ldc dX8_step_17 ld_8_52 ?_
      refine gd_cV1i dX8_step_19 ct_8_53 rc_0 ⟨Nat.le_of_ble_eq_true rfl, Nat.le_of_ble_eq_true rfl⟩ (Nat.le_of_ble_eq_true rfl) (Nat.le_of_ble_eq_true rfl) (c_f0 _) ?_
      refine gd_iret dX8_step_22 rfl rfl ?_
      rfl
    · refine gd_ild1 dX9_step_0 ?_
      refine gd_i2l dX9_step_1 ?_
      refine gd_cS1i dX9_step_2 ct_9_225 ⟨Nat.le_of_ble_eq_true rfl, Nat.le_of_ble_eq_true rfl⟩ (Nat.le_of_ble_eq_true rfl) (Nat.le_of_ble_eq_true rfl) (m_isShake_f hs _) ?_
      refine gd_if_eq_t 16 dX9_step_5 (by decide) (by decide) ?_
      refine gd_ald0 dX9_step_16 (by decide) ?_
      refine gd_ic1 dX9_step_17 ?_
      refine gd_cV1i dX9_step_18 ct_9_97 rc_72 ⟨Nat.le_of_ble_eq_true rfl, Nat.le_of_ble_eq_true rfl⟩ (Nat.le_of_ble_eq_true rfl) (Nat.le_of_ble_eq_true rfl) (m_f0 _) ?_
      refine gd_iret dX9_step_21 rfl rfl ?_
      rfl
set_option maxHeartbeats 1000000 in
theorem p_miss {h : Hp} (i : Inv h) (a b : Int32) : Pas mX8_miss mX9_miss [.ref 0, .int a, .int b] [.ref 72, .int a, .int b] h := by
  rcases shI a with ⟨n, hn, rfl⟩ | hs
  · by_cases hb : b = -1
    · subst hb
      obtain ⟨h1, gt, f1, v1⟩ := c_take i.w i.c (-1)
      have c1 := f1.cr i.c
      have e1 : ms (h1) = ms h := (f1).same.msE
      obtain ⟨h2, gp, f2, v2⟩ := m_prepare (h := h1) (by rw [e1]; exact i.w) (-1)
      rw [e1] at v2
      refine Pas.read (h1 := h1) (h2 := h2) (r := .int (nI (msN (ms h) (-1) (n / 1000) (n / 10 % 100) (n % 10)))) i rfl (f1).same (f2).same ?_ ?_
      · refine gd_ild1 dX8_miss_0 ?_
        refine gd_i2l dX8_miss_1 ?_
        rw [i2l_n (by have := sh_lt hn; omega)]
        refine gd_cS1i dX8_miss_2 ct_8_221 ⟨Nat.le_of_ble_eq_true rfl, Nat.le_of_ble_eq_true rfl⟩ (Nat.le_of_ble_eq_true rfl) (Nat.le_of_ble_eq_true rfl) (c_isShake_t hn _) ?_
        refine gd_if_eq_f 21 dX8_miss_5 (by decide) (by decide) ?_
        refine gd_ild2 dX8_miss_8 ?_
        refine gd_icm1 dX8_miss_9 ?_
        refine gd_icmp_eq_t 28 dX8_miss_10 (by decide) (rfl) ?_
        refine gd_ald0 dX8_miss_28 (by decide) ?_
        refine gd_getR (r := 60) dX8_miss_29 fl_8_40 rfl rfl rfl (by decide) ?_
        refine gd_ald0 dX8_miss_32 (by decide) ?_
        refine gd_getR (r := 1) dX8_miss_33 fl_8_12 rfl rfl rfl (by decide) ?_
        refine gd_icm1 dX8_miss_36 ?_
        refine gd_cV2v dX8_miss_37 ct_8_211 rc_60 ⟨Nat.le_of_ble_eq_true rfl, Nat.le_of_ble_eq_true rfl⟩ (Nat.le_of_ble_eq_true rfl) (Nat.le_of_ble_eq_true rfl) (gt) ?_
        refine gd_ild2 dX8_miss_40 ?_
        refine gd_icm1 dX8_miss_41 ?_
        refine gd_icmp_ne_f 56 dX8_miss_42 (by decide) (rfl) ?_
        refine gd_ald0 dX8_miss_45 (by decide) ?_
        refine gd_getR (r := 60) dX8_miss_46 fl_8_40 rfl rfl rfl (by decide) ?_
        refine gd_ild1 dX8_miss_49 ?_
        refine gd_cV1i dX8_miss_50 ct_8_228 rc_60 ⟨Nat.le_of_ble_eq_true rfl, Nat.le_of_ble_eq_true rfl⟩ (Nat.le_of_ble_eq_true rfl) (Nat.le_of_ble_eq_true rfl) (c_missOf i.w v1 hn) ?_
        refine gd_goto 65 dX8_miss_53 (by decide) ?_
        refine gd_iret dX8_miss_65 rfl rfl ?_
        rfl
      · refine gd_ild1 dX9_miss_0 ?_
        refine gd_i2l dX9_miss_1 ?_
        rw [i2l_n (by have := sh_lt hn; omega)]
        refine gd_cS1i dX9_miss_2 ct_9_225 ⟨Nat.le_of_ble_eq_true rfl, Nat.le_of_ble_eq_true rfl⟩ (Nat.le_of_ble_eq_true rfl) (Nat.le_of_ble_eq_true rfl) (m_isShake_t hn _) ?_
        refine gd_if_eq_f 21 dX9_miss_5 (by decide) (by decide) ?_
        refine gd_ild2 dX9_miss_8 ?_
        refine gd_icm1 dX9_miss_9 ?_
        refine gd_icmp_eq_t 27 dX9_miss_10 (by decide) (rfl) ?_
        refine gd_ald0 dX9_miss_27 (by decide) ?_
        refine gd_icm1 dX9_miss_28 ?_
        refine gd_cV1v dX9_miss_29 ct_9_216 rc_72 ⟨Nat.le_of_ble_eq_true rfl, Nat.le_of_ble_eq_true rfl⟩ (Nat.le_of_ble_eq_true rfl) (Nat.le_of_ble_eq_true rfl) (gp) ?_
        refine gd_ild2 dX9_miss_32 ?_
        refine gd_if_ge_f 44 dX9_miss_33 (by decide) (by decide) ?_
        refine gd_ald0 dX9_miss_36 (by decide) ?_
        refine gd_ild1 dX9_miss_37 ?_
        refine gd_cV1i dX9_miss_38 ct_9_228 rc_72 ⟨Nat.le_of_ble_eq_true rfl, Nat.le_of_ble_eq_true rfl⟩ (Nat.le_of_ble_eq_true rfl) (Nat.le_of_ble_eq_true rfl) (m_missOf i.w v2 hn) ?_
        refine gd_goto 50 dX9_miss_41 (by decide) ?_
        refine gd_iret dX9_miss_50 rfl rfl ?_
        rfl
    · rcases rng b (nT (ms h)) (by have := i.lT; omega) with ⟨t, ht, rfl⟩ | ha
      · have lT := i.lT
        obtain ⟨h1, gt, f1, v1⟩ := c_take i.w i.c (-1)
        have c1 := f1.cr i.c
        have e1 : ms (h1) = ms h := (f1).same.msE
        obtain ⟨h2, gp, f2, v2⟩ := m_prepare (h := h1) (by rw [e1]; exact i.w) (-1)
        rw [e1] at v2
        refine Pas.read (h1 := h1) (h2 := h2) (r := .int (nI (miN (ms h) (-1) t (n / 1000) (n / 10 % 100) (n % 10)))) i rfl (f1).same (f2).same ?_ ?_
        · refine gd_ild1 dX8_miss_0 ?_
          refine gd_i2l dX8_miss_1 ?_
          rw [i2l_n (by have := sh_lt hn; omega)]
          refine gd_cS1i dX8_miss_2 ct_8_221 ⟨Nat.le_of_ble_eq_true rfl, Nat.le_of_ble_eq_true rfl⟩ (Nat.le_of_ble_eq_true rfl) (Nat.le_of_ble_eq_true rfl) (c_isShake_t hn _) ?_
          refine gd_if_eq_f 21 dX8_miss_5 (by decide) (by decide) ?_
          refine gd_ild2 dX8_miss_8 ?_
          refine gd_icm1 dX8_miss_9 ?_
          refine gd_icmp_eq_f 28 dX8_miss_10 (by decide) (hb) ?_
          refine gd_ald0 dX8_miss_13 (by decide) ?_
          refine gd_ild2 dX8_miss_14 ?_
          refine gd_cV1i dX8_miss_15 ct_8_74 rc_0 ⟨Nat.le_of_ble_eq_true rfl, Nat.le_of_ble_eq_true rfl⟩ (Nat.le_of_ble_eq_true rfl) (Nat.le_of_ble_eq_true rfl) (c_isTown_t i.w i.c ht) ?_
          refine gd_if_ne_t 28 dX8_miss_18 (by decide) (by decide) ?_
          refine gd_ald0 dX8_miss_28 (by decide) ?_
          refine gd_getR (r := 60) dX8_miss_29 fl_8_40 rfl rfl rfl (by decide) ?_
          refine gd_ald0 dX8_miss_32 (by decide) ?_
          refine gd_getR (r := 1) dX8_miss_33 fl_8_12 rfl rfl rfl (by decide) ?_
          refine gd_icm1 dX8_miss_36 ?_
          refine gd_cV2v dX8_miss_37 ct_8_211 rc_60 ⟨Nat.le_of_ble_eq_true rfl, Nat.le_of_ble_eq_true rfl⟩ (Nat.le_of_ble_eq_true rfl) (Nat.le_of_ble_eq_true rfl) (gt) ?_
          refine gd_ild2 dX8_miss_40 ?_
          refine gd_icm1 dX8_miss_41 ?_
          refine gd_icmp_ne_t 56 dX8_miss_42 (by decide) (hb) ?_
          refine gd_ald0 dX8_miss_56 (by decide) ?_
          refine gd_getR (r := 60) dX8_miss_57 fl_8_40 rfl rfl rfl (by decide) ?_
          refine gd_ild1 dX8_miss_60 ?_
          refine gd_ild2 dX8_miss_61 ?_
          refine gd_cV2i dX8_miss_62 ct_8_231 rc_60 ⟨Nat.le_of_ble_eq_true rfl, Nat.le_of_ble_eq_true rfl⟩ (Nat.le_of_ble_eq_true rfl) (Nat.le_of_ble_eq_true rfl) (c_missIn i.w v1 ht hn) ?_
          refine gd_iret dX8_miss_65 rfl rfl ?_
          rfl
        · refine gd_ild1 dX9_miss_0 ?_
          refine gd_i2l dX9_miss_1 ?_
          rw [i2l_n (by have := sh_lt hn; omega)]
          refine gd_cS1i dX9_miss_2 ct_9_225 ⟨Nat.le_of_ble_eq_true rfl, Nat.le_of_ble_eq_true rfl⟩ (Nat.le_of_ble_eq_true rfl) (Nat.le_of_ble_eq_true rfl) (m_isShake_t hn _) ?_
          refine gd_if_eq_f 21 dX9_miss_5 (by decide) (by decide) ?_
          refine gd_ild2 dX9_miss_8 ?_
          refine gd_icm1 dX9_miss_9 ?_
          refine gd_icmp_eq_f 27 dX9_miss_10 (by decide) (hb) ?_
          refine gd_ald0 dX9_miss_13 (by decide) ?_
          refine gd_ild2 dX9_miss_14 ?_
          refine gd_cV1i dX9_miss_15 ct_9_101 rc_72 ⟨Nat.le_of_ble_eq_true rfl, Nat.le_of_ble_eq_true rfl⟩ (Nat.le_of_ble_eq_true rfl) (Nat.le_of_ble_eq_true rfl) (m_isTown_t (h := h1) (by rw [e1]; exact i.w) (by rw [e1]; exact ht)) ?_
          refine gd_if_ne_t 27 dX9_miss_18 (by decide) (by decide) ?_
          refine gd_ald0 dX9_miss_27 (by decide) ?_
          refine gd_icm1 dX9_miss_28 ?_
          refine gd_cV1v dX9_miss_29 ct_9_216 rc_72 ⟨Nat.le_of_ble_eq_true rfl, Nat.le_of_ble_eq_true rfl⟩ (Nat.le_of_ble_eq_true rfl) (Nat.le_of_ble_eq_true rfl) (gp) ?_
          refine gd_ild2 dX9_miss_32 ?_
          refine gd_if_ge_t 44 dX9_miss_33 (by decide) (by exact nI_pos' (by omega)) ?_
          refine gd_ald0 dX9_miss_44 (by decide) ?_
          refine gd_ild1 dX9_miss_45 ?_
          refine gd_ild2 dX9_miss_46 ?_
          refine gd_cV2i dX9_miss_47 ct_9_222 rc_72 ⟨Nat.le_of_ble_eq_true rfl, Nat.le_of_ble_eq_true rfl⟩ (Nat.le_of_ble_eq_true rfl) (Nat.le_of_ble_eq_true rfl) (m_missAt i.w v2 ht hn) ?_
          refine gd_iret dX9_miss_50 rfl rfl ?_
          rfl
      · refine Pas.find (h1 := h) (h2 := hf (h) 0) (v := -1000000001) (w := (-1000000000 : Int32) - nI 1) 0 i (by decide) (by decide) (by decide) (Same.rf _) (Same.rf _) ?_ ?_
        · refine gd_ild1 dX8_miss_0 ?_
          refine gd_i2l dX8_miss_1 ?_
          rw [i2l_n (by have := sh_lt hn; omega)]
          refine gd_cS1i dX8_miss_2 ct_8_221 ⟨Nat.le_of_ble_eq_true rfl, Nat.le_of_ble_eq_true rfl⟩ (Nat.le_of_ble_eq_true rfl) (Nat.le_of_ble_eq_true rfl) (c_isShake_t hn _) ?_
          refine gd_if_eq_f 21 dX8_miss_5 (by decide) (by decide) ?_
          refine gd_ild2 dX8_miss_8 ?_
          refine gd_icm1 dX8_miss_9 ?_
          refine gd_icmp_eq_f 28 dX8_miss_10 (by decide) (hb) ?_
          refine gd_ald0 dX8_miss_13 (by decide) ?_
          refine gd_ild2 dX8_miss_14 ?_
          refine gd_cV1i dX8_miss_15 ct_8_74 rc_0 ⟨Nat.le_of_ble_eq_true rfl, Nat.le_of_ble_eq_true rfl⟩ (Nat.le_of_ble_eq_true rfl) (Nat.le_of_ble_eq_true rfl) (c_isTown_f i.w i.c ha) ?_
          refine gd_if_ne_f 28 dX8_miss_18 (by decide) (by decide) ?_
          refine gd_ald0 dX8_miss_21 (by decide) ?_
          refine gd_ldc dX8_miss_22 ld_8_52 ?_
          refine gd_cV1i dX8_miss_24 ct_8_53 rc_0 ⟨Nat.le_of_ble_eq_true rfl, Nat.le_of_ble_eq_true rfl⟩ (Nat.le_of_ble_eq_true rfl) (Nat.le_of_ble_eq_true rfl) (c_f0 _) ?_
          refine gd_iret dX8_miss_27 rfl rfl ?_
          rfl
        · refine gd_ild1 dX9_miss_0 ?_
          refine gd_i2l dX9_miss_1 ?_
          rw [i2l_n (by have := sh_lt hn; omega)]
          refine gd_cS1i dX9_miss_2 ct_9_225 ⟨Nat.le_of_ble_eq_true rfl, Nat.le_of_ble_eq_true rfl⟩ (Nat.le_of_ble_eq_true rfl) (Nat.le_of_ble_eq_true rfl) (m_isShake_t hn _) ?_
          refine gd_if_eq_f 21 dX9_miss_5 (by decide) (by decide) ?_
          refine gd_ild2 dX9_miss_8 ?_
          refine gd_icm1 dX9_miss_9 ?_
          refine gd_icmp_eq_f 27 dX9_miss_10 (by decide) (hb) ?_
          refine gd_ald0 dX9_miss_13 (by decide) ?_
          refine gd_ild2 dX9_miss_14 ?_
          refine gd_cV1i dX9_miss_15 ct_9_101 rc_72 ⟨Nat.le_of_ble_eq_true rfl, Nat.le_of_ble_eq_true rfl⟩ (Nat.le_of_ble_eq_true rfl) (Nat.le_of_ble_eq_true rfl) (m_isTown_f (h := hf h 0) (by exact i.w) ha) ?_
          refine gd_if_ne_f 27 dX9_miss_18 (by decide) (by decide) ?_
          refine gd_ald0 dX9_miss_21 (by decide) ?_
          refine gd_ic1 dX9_miss_22 ?_
          refine gd_cV1i dX9_miss_23 ct_9_97 rc_72 ⟨Nat.le_of_ble_eq_true rfl, Nat.le_of_ble_eq_true rfl⟩ (Nat.le_of_ble_eq_true rfl) (Nat.le_of_ble_eq_true rfl) (m_f0 _) ?_
          refine gd_iret dX9_miss_26 rfl rfl ?_
          rfl
  · refine Pas.find (h1 := h) (h2 := hf (h) 0) (v := -1000000001) (w := (-1000000000 : Int32) - nI 1) 0 i (by decide) (by decide) (by decide) (Same.rf _) (Same.rf _) ?_ ?_
    · refine gd_ild1 dX8_miss_0 ?_
      refine gd_i2l dX8_miss_1 ?_
      refine gd_cS1i dX8_miss_2 ct_8_221 ⟨Nat.le_of_ble_eq_true rfl, Nat.le_of_ble_eq_true rfl⟩ (Nat.le_of_ble_eq_true rfl) (Nat.le_of_ble_eq_true rfl) (c_isShake_f hs _) ?_
      refine gd_if_eq_t 21 dX8_miss_5 (by decide) (by decide) ?_
      refine gd_ald0 dX8_miss_21 (by decide) ?_
      refine gd_ldc dX8_miss_22 ld_8_52 ?_
      refine gd_cV1i dX8_miss_24 ct_8_53 rc_0 ⟨Nat.le_of_ble_eq_true rfl, Nat.le_of_ble_eq_true rfl⟩ (Nat.le_of_ble_eq_true rfl) (Nat.le_of_ble_eq_true rfl) (c_f0 _) ?_
      refine gd_iret dX8_miss_27 rfl rfl ?_
      rfl
    · refine gd_ild1 dX9_miss_0 ?_
      refine gd_i2l dX9_miss_1 ?_
      refine gd_cS1i dX9_miss_2 ct_9_225 ⟨Nat.le_of_ble_eq_true rfl, Nat.le_of_ble_eq_true rfl⟩ (Nat.le_of_ble_eq_true rfl) (Nat.le_of_ble_eq_true rfl) (m_isShake_f hs _) ?_
      refine gd_if_eq_t 21 dX9_miss_5 (by decide) (by decide) ?_
      refine gd_ald0 dX9_miss_21 (by decide) ?_
      refine gd_ic1 dX9_miss_22 ?_
      refine gd_cV1i dX9_miss_23 ct_9_97 rc_72 ⟨Nat.le_of_ble_eq_true rfl, Nat.le_of_ble_eq_true rfl⟩ (Nat.le_of_ble_eq_true rfl) (Nat.le_of_ble_eq_true rfl) (m_f0 _) ?_
      refine gd_iret dX9_miss_26 rfl rfl ?_
      rfl
def wtN (m : Nat) : Nat := if 10 < m then 0 else 2 ^ (2 * (10 - m))
theorem c_weightOfMiss {m : Nat} (hm : m < 2 ^ 31) (h : Hp) : Gd mX8_weightOfMiss 0 [.int (nI m)] [] h (some (.int (nI (wtN m))), h) := by
  unfold wtN
  by_cases q : 10 < m
  · rw [if_pos q]
    refine gd_ild0 dX8_weightOfMiss_0 ?_
    refine gd_bipush (v := nI 10) dX8_weightOfMiss_1 (by decide) ?_
    refine gd_icmp_le_f 10 dX8_weightOfMiss_3 (by decide) (by exact nI_ge (by omega) (by omega)) ?_
    refine gd_ic0 dX8_weightOfMiss_6 ?_
    refine gd_goto 18 dX8_weightOfMiss_7 (by decide) ?_
    refine gd_iret dX8_weightOfMiss_18 rfl rfl ?_
    rfl
  · rw [if_neg q]
    refine gd_ild0 dX8_weightOfMiss_0 ?_
    refine gd_bipush (v := nI 10) dX8_weightOfMiss_1 (by decide) ?_
    refine gd_icmp_le_t 10 dX8_weightOfMiss_3 (by decide) (by exact nI_le (by omega) (by omega)) ?_
    refine gd_ic1 dX8_weightOfMiss_10 ?_
    refine gd_ic2 dX8_weightOfMiss_11 ?_
    refine gd_bipush (v := nI 10) dX8_weightOfMiss_12 (by decide) ?_
    refine gd_ild0 dX8_weightOfMiss_14 ?_
    refine gd_isub dX8_weightOfMiss_15 ?_
    rw [pk_sub (by omega)]
    refine gd_imul dX8_weightOfMiss_16 ?_
    rw [pk_mul]
    refine gd_ishl dX8_weightOfMiss_17 ?_
    rw [shl_nI (by omega)]
    refine gd_iret dX8_weightOfMiss_18 rfl rfl ?_
    rfl
theorem m_weightOf {m : Nat} (hm : m < 2 ^ 31) (h : Hp) : Gd mX9_weightOf 0 [.int (nI m)] [] h (some (.int (nI (wtN m))), h) := by
  unfold wtN
  by_cases q : 10 < m
  · rw [if_pos q]
    refine gd_ild0 dX9_weightOf_0 ?_
    refine gd_bipush (v := nI 10) dX9_weightOf_1 (by decide) ?_
    refine gd_icmp_le_f 10 dX9_weightOf_3 (by decide) (by exact nI_ge (by omega) (by omega)) ?_
    refine gd_ic0 dX9_weightOf_6 ?_
    refine gd_goto 18 dX9_weightOf_7 (by decide) ?_
    refine gd_iret dX9_weightOf_18 rfl rfl ?_
    rfl
  · rw [if_neg q]
    refine gd_ild0 dX9_weightOf_0 ?_
    refine gd_bipush (v := nI 10) dX9_weightOf_1 (by decide) ?_
    refine gd_icmp_le_t 10 dX9_weightOf_3 (by decide) (by exact nI_le (by omega) (by omega)) ?_
    refine gd_ic1 dX9_weightOf_10 ?_
    refine gd_ic2 dX9_weightOf_11 ?_
    refine gd_bipush (v := nI 10) dX9_weightOf_12 (by decide) ?_
    refine gd_ild0 dX9_weightOf_14 ?_
    refine gd_isub dX9_weightOf_15 ?_
    rw [pk_sub (by omega)]
    refine gd_imul dX9_weightOf_16 ?_
    rw [pk_mul]
    refine gd_ishl dX9_weightOf_17 ?_
    rw [shl_nI (by omega)]
    refine gd_iret dX9_weightOf_18 rfl rfl ?_
    rfl
theorem mi_le (s : Nat → Nat → Int32) (g : Int32) (t c z d : Nat) : miN s g t c z d ≤ 12 := nrN_le _ _
theorem ms_le {s : Nat → Nat → Int32} (w : WF s) (g : Int32) (c z d : Nat) : msN s g c z d ≤ 192 := by
  have h1 : msN s g c z d ≤ nT s * 12 := sumN_le (fun t _ => mi_le s g t c z d)
  have h2 := w.t.2
  omega
set_option maxHeartbeats 1000000 in
theorem p_weight {h : Hp} (i : Inv h) (a : Int32) : Pas mX8_weight mX9_weight [.ref 0, .int a] [.ref 72, .int a] h := by
  rcases shI a with ⟨n, hn, rfl⟩ | hs
  · obtain ⟨h1, gt, f1, v1⟩ := c_take i.w i.c (-1)
    have c1 := f1.cr i.c
    have e1 : ms (h1) = ms h := (f1).same.msE
    obtain ⟨h2, gp, f2, v2⟩ := m_prepare (h := h1) (by rw [e1]; exact i.w) (-1)
    rw [e1] at v2
    refine Pas.read (h1 := h1) (h2 := h2) (r := .int (nI (wtN (msN (ms h) (-1) (n / 1000) (n / 10 % 100) (n % 10))))) i rfl (f1).same (f2).same ?_ ?_
    · refine gd_ild1 dX8_weight_0 ?_
      refine gd_i2l dX8_weight_1 ?_
      rw [i2l_n (by have := sh_lt hn; omega)]
      refine gd_cS1i dX8_weight_2 ct_8_221 ⟨Nat.le_of_ble_eq_true rfl, Nat.le_of_ble_eq_true rfl⟩ (Nat.le_of_ble_eq_true rfl) (Nat.le_of_ble_eq_true rfl) (c_isShake_t hn _) ?_
      refine gd_if_ne_t 15 dX8_weight_5 (by decide) (by decide) ?_
      refine gd_ald0 dX8_weight_15 (by decide) ?_
      refine gd_getR (r := 60) dX8_weight_16 fl_8_40 rfl rfl rfl (by decide) ?_
      refine gd_ald0 dX8_weight_19 (by decide) ?_
      refine gd_getR (r := 1) dX8_weight_20 fl_8_12 rfl rfl rfl (by decide) ?_
      refine gd_icm1 dX8_weight_23 ?_
      refine gd_cV2v dX8_weight_24 ct_8_211 rc_60 ⟨Nat.le_of_ble_eq_true rfl, Nat.le_of_ble_eq_true rfl⟩ (Nat.le_of_ble_eq_true rfl) (Nat.le_of_ble_eq_true rfl) (gt) ?_
      refine gd_ald0 dX8_weight_27 (by decide) ?_
      refine gd_getR (r := 60) dX8_weight_28 fl_8_40 rfl rfl rfl (by decide) ?_
      refine gd_ild1 dX8_weight_31 ?_
      refine gd_cV1i dX8_weight_32 ct_8_228 rc_60 ⟨Nat.le_of_ble_eq_true rfl, Nat.le_of_ble_eq_true rfl⟩ (Nat.le_of_ble_eq_true rfl) (Nat.le_of_ble_eq_true rfl) (c_missOf i.w v1 hn) ?_
      refine gd_cS1i dX8_weight_35 ct_8_256 ⟨Nat.le_of_ble_eq_true rfl, Nat.le_of_ble_eq_true rfl⟩ (Nat.le_of_ble_eq_true rfl) (Nat.le_of_ble_eq_true rfl) (c_weightOfMiss (by have := ms_le i.w (-1) (n / 1000) (n / 10 % 100) (n % 10); omega) _) ?_
      refine gd_iret dX8_weight_38 rfl rfl ?_
      rfl
    · refine gd_ild1 dX9_weight_0 ?_
      refine gd_i2l dX9_weight_1 ?_
      rw [i2l_n (by have := sh_lt hn; omega)]
      refine gd_cS1i dX9_weight_2 ct_9_225 ⟨Nat.le_of_ble_eq_true rfl, Nat.le_of_ble_eq_true rfl⟩ (Nat.le_of_ble_eq_true rfl) (Nat.le_of_ble_eq_true rfl) (m_isShake_t hn _) ?_
      refine gd_if_ne_t 14 dX9_weight_5 (by decide) (by decide) ?_
      refine gd_ald0 dX9_weight_14 (by decide) ?_
      refine gd_icm1 dX9_weight_15 ?_
      refine gd_cV1v dX9_weight_16 ct_9_216 rc_72 ⟨Nat.le_of_ble_eq_true rfl, Nat.le_of_ble_eq_true rfl⟩ (Nat.le_of_ble_eq_true rfl) (Nat.le_of_ble_eq_true rfl) (gp) ?_
      refine gd_ald0 dX9_weight_19 (by decide) ?_
      refine gd_ild1 dX9_weight_20 ?_
      refine gd_cV1i dX9_weight_21 ct_9_228 rc_72 ⟨Nat.le_of_ble_eq_true rfl, Nat.le_of_ble_eq_true rfl⟩ (Nat.le_of_ble_eq_true rfl) (Nat.le_of_ble_eq_true rfl) (m_missOf i.w v2 hn) ?_
      refine gd_cS1i dX9_weight_24 ct_9_247 ⟨Nat.le_of_ble_eq_true rfl, Nat.le_of_ble_eq_true rfl⟩ (Nat.le_of_ble_eq_true rfl) (Nat.le_of_ble_eq_true rfl) (m_weightOf (by have := ms_le i.w (-1) (n / 1000) (n / 10 % 100) (n % 10); omega) _) ?_
      refine gd_iret dX9_weight_27 rfl rfl ?_
      rfl
  · refine Pas.find (h1 := h) (h2 := hf (h) 0) (v := -1000000001) (w := (-1000000000 : Int32) - nI 1) 0 i (by decide) (by decide) (by decide) (Same.rf _) (Same.rf _) ?_ ?_
    · refine gd_ild1 dX8_weight_0 ?_
      refine gd_i2l dX8_weight_1 ?_
      refine gd_cS1i dX8_weight_2 ct_8_221 ⟨Nat.le_of_ble_eq_true rfl, Nat.le_of_ble_eq_true rfl⟩ (Nat.le_of_ble_eq_true rfl) (Nat.le_of_ble_eq_true rfl) (c_isShake_f hs _) ?_
      refine gd_if_ne_f 15 dX8_weight_5 (by decide) (by decide) ?_
      refine gd_ald0 dX8_weight_8 (by decide) ?_
      refine gd_ldc dX8_weight_9 ld_8_52 ?_
      refine gd_cV1i dX8_weight_11 ct_8_53 rc_0 ⟨Nat.le_of_ble_eq_true rfl, Nat.le_of_ble_eq_true rfl⟩ (Nat.le_of_ble_eq_true rfl) (Nat.le_of_ble_eq_true rfl) (c_f0 _) ?_
      refine gd_iret dX8_weight_14 rfl rfl ?_
      rfl
    · refine gd_ild1 dX9_weight_0 ?_
      refine gd_i2l dX9_weight_1 ?_
      refine gd_cS1i dX9_weight_2 ct_9_225 ⟨Nat.le_of_ble_eq_true rfl, Nat.le_of_ble_eq_true rfl⟩ (Nat.le_of_ble_eq_true rfl) (Nat.le_of_ble_eq_true rfl) (m_isShake_f hs _) ?_
      refine gd_if_ne_f 14 dX9_weight_5 (by decide) (by decide) ?_
      refine gd_ald0 dX9_weight_8 (by decide) ?_
      refine gd_ic1 dX9_weight_9 ?_
      refine gd_cV1i dX9_weight_10 ct_9_97 rc_72 ⟨Nat.le_of_ble_eq_true rfl, Nat.le_of_ble_eq_true rfl⟩ (Nat.le_of_ble_eq_true rfl) (Nat.le_of_ble_eq_true rfl) (m_f0 _) ?_
      refine gd_iret dX9_weight_13 rfl rfl ?_
      rfl
theorem c_layMisses {h : Hp} {s : Nat → Nat → Int32} (w : WF s) {g : Int32} (v : SV h s g) {p n : Nat} (hp : p < 12) (hn : isSh n) : Gd mX4_layMisses 0 [.ref 60, .int (nI p), .int (nI n), .null] [] h (none, sI h 66 (hr3 (h.1 66) (p * 16) (nT s) (fun t => nI (miN s g t (n / 1000) (n / 10 % 100) (n % 10))))) := by
  have lT := w.t.2
  have key := loopG (P := fun t => Gd mX4_layMisses 2 [.ref 60, .int (nI p), .int (nI n), .int (nI t)] [] (sI h 66 (hr3 (h.1 66) (p * 16) t (fun t => nI (miN s g t (n / 1000) (n / 10 % 100) (n % 10))))) (none, sI h 66 (hr3 (h.1 66) (p * 16) (nT s) (fun t => nI (miN s g t (n / 1000) (n / 10 % 100) (n % 10)))))) (n := nT s) ?_ ?_ 0 (by omega)
  · rw [hr3_0, sI_id] at key
    refine gd_ic0 dX4_layMisses_0 ?_
    refine gd_ist3 dX4_layMisses_1 rfl ?_
    exact key
  · refine gd_ild3 dX4_layMisses_2 ?_
    refine gd_ald0 dX4_layMisses_3 (by decide) ?_
    refine gd_getI dX4_layMisses_4 fl_4_43 rfl rfl ?_
    refine gd_icmp_ge_t 33 dX4_layMisses_7 (by decide) (by rw [show (sI h 66 (hr3 (h.1 66) (p * 16) (nT s) (fun t => nI (miN s g t (n / 1000) (n / 10 % 100) (n % 10))))).1 60 1 = nI (nT s) from v.1.1]; exact nI_le (by omega) (by omega)) ?_
    refine gd_vret dX4_layMisses_33 rfl ?_
    rfl
  · intro t ht ih
    have vv : SV (sI h 66 (hr3 (h.1 66) (p * 16) t (fun t => nI (miN s g t (n / 1000) (n / 10 % 100) (n % 10))))) s g := v
    refine gd_ild3 dX4_layMisses_2 ?_
    refine gd_ald0 dX4_layMisses_3 (by decide) ?_
    refine gd_getI dX4_layMisses_4 fl_4_43 rfl rfl ?_
    refine gd_icmp_ge_f 33 dX4_layMisses_7 (by decide) (by rw [show (sI h 66 (hr3 (h.1 66) (p * 16) t (fun t => nI (miN s g t (n / 1000) (n / 10 % 100) (n % 10))))).1 60 1 = nI (nT s) from v.1.1]; exact nI_ge (by omega) (by omega)) ?_
    refine gd_ald0 dX4_layMisses_10 (by decide) ?_
    refine gd_getR (r := 66) dX4_layMisses_11 fl_4_27 rfl rfl rfl (by decide) ?_
    refine gd_ild1 dX4_layMisses_14 ?_
    refine gd_bipush (v := nI 16) dX4_layMisses_15 (by decide) ?_
    refine gd_imul dX4_layMisses_17 ?_
    refine gd_ild3 dX4_layMisses_18 ?_
    refine gd_iadd dX4_layMisses_19 ?_
    refine gd_ald0 dX4_layMisses_20 (by decide) ?_
    refine gd_ild2 dX4_layMisses_21 ?_
    refine gd_ild3 dX4_layMisses_22 ?_
    refine gd_cV2i dX4_layMisses_23 ct_4_119 rc_60 ⟨Nat.le_of_ble_eq_true rfl, Nat.le_of_ble_eq_true rfl⟩ (Nat.le_of_ble_eq_true rfl) (Nat.le_of_ble_eq_true rfl) (c_missIn w vv ht hn) ?_
    refine gd_iast (n := 192) dX4_layMisses_26 rfl (by decide) (by repeat' (first | with_reducible rfl | apply ni_add | apply ni_mul)) (by omega) ?_
    refine gd_iinc3 (b := nI 1) dX4_layMisses_27 (by decide) rfl ?_
    rw [nI_add]
    refine gd_goto 2 dX4_layMisses_30 (by decide) ?_
    rw [sI_s, hr3_s (h.1 66) (p * 16) t (fun t => nI (miN s g t (n / 1000) (n / 10 % 100) (n % 10))), sI_sI]
    exact ih
theorem c_missOfTwo {h : Hp} {s : Nat → Nat → Int32} (w : WF s) {g : Int32} (v : SV h s g) {p q : Nat} {A B : Nat → Nat} (hp : p < 12) (hq : q < 12) (hA : ∀ t, t < nT s → h.1 66 (p * 16 + t) = nI (A t) ∧ A t ≤ 12) (hB : ∀ t, t < nT s → h.1 66 (q * 16 + t) = nI (B t) ∧ B t ≤ 12) : Gd mX4_missOfTwo 0 [.ref 60, .int (nI p), .int (nI q), .null, .null] [] h (some (.int (nI (sumN (fun t => min (A t) (B t)) (nT s)))), h) := by
  have lT := w.t.2
  have key := loopG (P := fun t => Gd mX4_missOfTwo 5 [.ref 60, .int (nI p), .int (nI q), .int (nI (sumN (fun t => min (A t) (B t)) t)), .int (nI t)] [] h (some (.int (nI (sumN (fun t => min (A t) (B t)) (nT s)))), h)) (n := nT s) ?_ ?_ 0 (by omega)
  · refine gd_ic0 dX4_missOfTwo_0 ?_
    refine gd_ist3 dX4_missOfTwo_1 rfl ?_
    refine gd_ic0 dX4_missOfTwo_2 ?_
    refine gd_ist4 dX4_missOfTwo_3 rfl ?_
    exact key
  · refine gd_ild4 dX4_missOfTwo_5 ?_
    refine gd_ald0 dX4_missOfTwo_7 (by decide) ?_
    refine gd_getI dX4_missOfTwo_8 fl_4_43 rfl rfl ?_
    refine gd_icmp_ge_t 50 dX4_missOfTwo_11 (by decide) (by rw [v.1.1]; exact nI_le (by omega) (by omega)) ?_
    refine gd_ild3 dX4_missOfTwo_50 ?_
    refine gd_iret dX4_missOfTwo_51 rfl rfl ?_
    rfl
  · intro t ht ih
    have a1 := hA t ht
    have b1 := hB t ht
    refine gd_ild4 dX4_missOfTwo_5 ?_
    refine gd_ald0 dX4_missOfTwo_7 (by decide) ?_
    refine gd_getI dX4_missOfTwo_8 fl_4_43 rfl rfl ?_
    refine gd_icmp_ge_f 50 dX4_missOfTwo_11 (by decide) (by rw [v.1.1]; exact nI_ge (by omega) (by omega)) ?_
    refine gd_ild3 dX4_missOfTwo_14 ?_
    refine gd_ald0 dX4_missOfTwo_15 (by decide) ?_
    refine gd_getR (r := 66) dX4_missOfTwo_16 fl_4_27 rfl rfl rfl (by decide) ?_
    refine gd_ild1 dX4_missOfTwo_19 ?_
    refine gd_bipush (v := nI 16) dX4_missOfTwo_20 (by decide) ?_
    refine gd_imul dX4_missOfTwo_22 ?_
    refine gd_ild4 dX4_missOfTwo_23 ?_
    refine gd_iadd dX4_missOfTwo_25 ?_
    refine gd_iald (n := 192) dX4_missOfTwo_26 rfl (by decide) (by repeat' (first | with_reducible rfl | apply ni_add | apply ni_mul)) (by omega) ?_
    rw [a1.1]
    refine gd_ald0 dX4_missOfTwo_27 (by decide) ?_
    refine gd_getR (r := 66) dX4_missOfTwo_28 fl_4_27 rfl rfl rfl (by decide) ?_
    refine gd_ild2 dX4_missOfTwo_31 ?_
    refine gd_bipush (v := nI 16) dX4_missOfTwo_32 (by decide) ?_
    refine gd_imul dX4_missOfTwo_34 ?_
    refine gd_ild4 dX4_missOfTwo_35 ?_
    refine gd_iadd dX4_missOfTwo_37 ?_
    refine gd_iald (n := 192) dX4_missOfTwo_38 rfl (by decide) (by repeat' (first | with_reducible rfl | apply ni_add | apply ni_mul)) (by omega) ?_
    rw [b1.1]
    refine gd_mmin dX4_missOfTwo_39 mm_4_106 (Nat.le_of_ble_eq_true rfl) (Nat.le_of_ble_eq_true rfl) (Nat.le_of_ble_eq_true rfl) ?_
    rw [mn_nI (by omega) (by omega)]
    refine gd_iadd dX4_missOfTwo_42 ?_
    rw [nI_add]
    refine gd_ist3 dX4_missOfTwo_43 rfl ?_
    refine gd_iinc4 (b := nI 1) dX4_missOfTwo_44 (by decide) rfl ?_
    rw [nI_add]
    refine gd_goto 5 dX4_missOfTwo_47 (by decide) ?_
    exact ih
def twN (s : Nat → Nat → Int32) (g : Int32) (n m : Nat) : Nat := sumN (fun t => min (miN s g t (n / 1000) (n / 10 % 100) (n % 10)) (miN s g t (m / 1000) (m / 10 % 100) (m % 10))) (nT s)
theorem m_twoOf {h : Hp} {s : Nat → Nat → Int32} (w : WF s) {g : Int32} (v : PV h s g) {n m : Nat} (hn : isSh n) (hm : isSh m) : Gd mX9_twoOf 0 [.ref 72, .int (nI n), .int (nI m), .null, .null, .null, .null] [] h (some (.int (nI (twN s g n m))), h) := by
  have lT := w.t.2
  have et := PV.t w v
  have key := loopG (P := fun t => ∀ l5 l6, Gd mX9_twoOf 5 [.ref 72, .int (nI n), .int (nI m), .int (nI (sumN (fun t => min (miN s g t (n / 1000) (n / 10 % 100) (n % 10)) (miN s g t (m / 1000) (m / 10 % 100) (m % 10))) t)), .int (nI t), l5, l6] [] h (some (.int (nI (twN s g n m))), h)) (n := nT s) ?_ ?_ 0 (by omega)
  · refine gd_ic0 dX9_twoOf_0 ?_
    refine gd_ist3 dX9_twoOf_1 rfl ?_
    refine gd_ic0 dX9_twoOf_2 ?_
    refine gd_ist4 dX9_twoOf_3 rfl ?_
    exact key _ _
  · intro l5 l6
    refine gd_ild4 dX9_twoOf_5 ?_
    refine gd_ald0 dX9_twoOf_7 (by decide) ?_
    refine gd_getR (r := 74) dX9_twoOf_8 fl_9_13 rfl rfl rfl (by decide) ?_
    refine gd_ic0 dX9_twoOf_11 ?_
    refine gd_iald (n := 5) dX9_twoOf_12 rfl (by decide) (by repeat' (first | with_reducible rfl | apply ni_add | apply ni_mul)) (by omega) ?_
    refine gd_icmp_ge_t 57 dX9_twoOf_13 (by decide) (by rw [et]; exact nI_le (by omega) (by omega)) ?_
    refine gd_ild3 dX9_twoOf_57 ?_
    refine gd_iret dX9_twoOf_58 rfl rfl ?_
    rfl
  · intro t ht ih l5 l6
    have m1 := mi_le s g t (n / 1000) (n / 10 % 100) (n % 10)
    have m2 := mi_le s g t (m / 1000) (m / 10 % 100) (m % 10)
    by_cases q : (miN s g t (n / 1000) (n / 10 % 100) (n % 10)) < (miN s g t (m / 1000) (m / 10 % 100) (m % 10))
    · have sm : min (miN s g t (n / 1000) (n / 10 % 100) (n % 10)) (miN s g t (m / 1000) (m / 10 % 100) (m % 10)) = (miN s g t (n / 1000) (n / 10 % 100) (n % 10)) := by omega
      refine gd_ild4 dX9_twoOf_5 ?_
      refine gd_ald0 dX9_twoOf_7 (by decide) ?_
      refine gd_getR (r := 74) dX9_twoOf_8 fl_9_13 rfl rfl rfl (by decide) ?_
      refine gd_ic0 dX9_twoOf_11 ?_
      refine gd_iald (n := 5) dX9_twoOf_12 rfl (by decide) (by repeat' (first | with_reducible rfl | apply ni_add | apply ni_mul)) (by omega) ?_
      refine gd_icmp_ge_f 57 dX9_twoOf_13 (by decide) (by rw [et]; exact nI_ge (by omega) (by omega)) ?_
      refine gd_ald0 dX9_twoOf_16 (by decide) ?_
      refine gd_ild1 dX9_twoOf_17 ?_
      refine gd_ild4 dX9_twoOf_18 ?_
      refine gd_cV2i dX9_twoOf_20 ct_9_222 rc_72 ⟨Nat.le_of_ble_eq_true rfl, Nat.le_of_ble_eq_true rfl⟩ (Nat.le_of_ble_eq_true rfl) (Nat.le_of_ble_eq_true rfl) (m_missAt w v ht hn) ?_
      refine gd_ist5 dX9_twoOf_23 rfl ?_
      refine gd_ald0 dX9_twoOf_25 (by decide) ?_
      refine gd_ild2 dX9_twoOf_26 ?_
      refine gd_ild4 dX9_twoOf_27 ?_
      refine gd_cV2i dX9_twoOf_29 ct_9_222 rc_72 ⟨Nat.le_of_ble_eq_true rfl, Nat.le_of_ble_eq_true rfl⟩ (Nat.le_of_ble_eq_true rfl) (Nat.le_of_ble_eq_true rfl) (m_missAt w v ht hm) ?_
      refine gd_ist6 dX9_twoOf_32 rfl ?_
      refine gd_ild3 dX9_twoOf_34 ?_
      refine gd_ild5 dX9_twoOf_35 ?_
      refine gd_ild6 dX9_twoOf_37 ?_
      refine gd_icmp_ge_f 47 dX9_twoOf_39 (by decide) (by exact nI_ge (by omega) (by omega)) ?_
      refine gd_ild5 dX9_twoOf_42 ?_
      refine gd_goto 49 dX9_twoOf_44 (by decide) ?_
      refine gd_iadd dX9_twoOf_49 ?_
      rw [nI_add]
      refine gd_ist3 dX9_twoOf_50 rfl ?_
      refine gd_iinc4 (b := nI 1) dX9_twoOf_51 (by decide) rfl ?_
      rw [nI_add]
      refine gd_goto 5 dX9_twoOf_54 (by decide) ?_
      have ih := ih (.int (nI (miN s g t (n / 1000) (n / 10 % 100) (n % 10)))) (.int (nI (miN s g t (m / 1000) (m / 10 % 100) (m % 10))))
      rw [show sumN (fun t => min (miN s g t (n / 1000) (n / 10 % 100) (n % 10)) (miN s g t (m / 1000) (m / 10 % 100) (m % 10))) (t + 1) = (sumN (fun t => min (miN s g t (n / 1000) (n / 10 % 100) (n % 10)) (miN s g t (m / 1000) (m / 10 % 100) (m % 10))) t) + min (miN s g t (n / 1000) (n / 10 % 100) (n % 10)) (miN s g t (m / 1000) (m / 10 % 100) (m % 10)) from rfl, sm] at ih
      exact ih
    · have sm : min (miN s g t (n / 1000) (n / 10 % 100) (n % 10)) (miN s g t (m / 1000) (m / 10 % 100) (m % 10)) = (miN s g t (m / 1000) (m / 10 % 100) (m % 10)) := by omega
      refine gd_ild4 dX9_twoOf_5 ?_
      refine gd_ald0 dX9_twoOf_7 (by decide) ?_
      refine gd_getR (r := 74) dX9_twoOf_8 fl_9_13 rfl rfl rfl (by decide) ?_
      refine gd_ic0 dX9_twoOf_11 ?_
      refine gd_iald (n := 5) dX9_twoOf_12 rfl (by decide) (by repeat' (first | with_reducible rfl | apply ni_add | apply ni_mul)) (by omega) ?_
      refine gd_icmp_ge_f 57 dX9_twoOf_13 (by decide) (by rw [et]; exact nI_ge (by omega) (by omega)) ?_
      refine gd_ald0 dX9_twoOf_16 (by decide) ?_
      refine gd_ild1 dX9_twoOf_17 ?_
      refine gd_ild4 dX9_twoOf_18 ?_
      refine gd_cV2i dX9_twoOf_20 ct_9_222 rc_72 ⟨Nat.le_of_ble_eq_true rfl, Nat.le_of_ble_eq_true rfl⟩ (Nat.le_of_ble_eq_true rfl) (Nat.le_of_ble_eq_true rfl) (m_missAt w v ht hn) ?_
      refine gd_ist5 dX9_twoOf_23 rfl ?_
      refine gd_ald0 dX9_twoOf_25 (by decide) ?_
      refine gd_ild2 dX9_twoOf_26 ?_
      refine gd_ild4 dX9_twoOf_27 ?_
      refine gd_cV2i dX9_twoOf_29 ct_9_222 rc_72 ⟨Nat.le_of_ble_eq_true rfl, Nat.le_of_ble_eq_true rfl⟩ (Nat.le_of_ble_eq_true rfl) (Nat.le_of_ble_eq_true rfl) (m_missAt w v ht hm) ?_
      refine gd_ist6 dX9_twoOf_32 rfl ?_
      refine gd_ild3 dX9_twoOf_34 ?_
      refine gd_ild5 dX9_twoOf_35 ?_
      refine gd_ild6 dX9_twoOf_37 ?_
      refine gd_icmp_ge_t 47 dX9_twoOf_39 (by decide) (by exact nI_le (by omega) (by omega)) ?_
      refine gd_ild6 dX9_twoOf_47 ?_
      refine gd_iadd dX9_twoOf_49 ?_
      rw [nI_add]
      refine gd_ist3 dX9_twoOf_50 rfl ?_
      refine gd_iinc4 (b := nI 1) dX9_twoOf_51 (by decide) rfl ?_
      rw [nI_add]
      refine gd_goto 5 dX9_twoOf_54 (by decide) ?_
      have ih := ih (.int (nI (miN s g t (n / 1000) (n / 10 % 100) (n % 10)))) (.int (nI (miN s g t (m / 1000) (m / 10 % 100) (m % 10))))
      rw [show sumN (fun t => min (miN s g t (n / 1000) (n / 10 % 100) (n % 10)) (miN s g t (m / 1000) (m / 10 % 100) (m % 10))) (t + 1) = (sumN (fun t => min (miN s g t (n / 1000) (n / 10 % 100) (n % 10)) (miN s g t (m / 1000) (m / 10 % 100) (m % 10))) t) + min (miN s g t (n / 1000) (n / 10 % 100) (n % 10)) (miN s g t (m / 1000) (m / 10 % 100) (m % 10)) from rfl, sm] at ih
      exact ih
set_option maxHeartbeats 1000000 in
theorem p_two {h : Hp} (i : Inv h) (a b : Int32) : Pas mX8_two mX9_two [.ref 0, .int a, .int b] [.ref 72, .int a, .int b] h := by
  rcases shI a with ⟨n, hn, rfl⟩ | hs
  · rcases shI b with ⟨m, hm, rfl⟩ | hs
    · obtain ⟨h1, gt, f1, v1⟩ := c_take i.w i.c (-1)
      have c1 := f1.cr i.c
      have vA : SV (sI h1 66 (hr3 (h1.1 66) (0 * 16) (nT (ms h)) (fun t => nI (miN (ms h) (-1) t (n / 1000) (n / 10 % 100) (n % 10))))) (ms h) (-1) := v1
      have vB : SV (sI (sI h1 66 (hr3 (h1.1 66) (0 * 16) (nT (ms h)) (fun t => nI (miN (ms h) (-1) t (n / 1000) (n / 10 % 100) (n % 10))))) 66 (hr3 ((sI h1 66 (hr3 (h1.1 66) (0 * 16) (nT (ms h)) (fun t => nI (miN (ms h) (-1) t (n / 1000) (n / 10 % 100) (n % 10))))).1 66) (1 * 16) (nT (ms h)) (fun t => nI (miN (ms h) (-1) t (m / 1000) (m / 10 % 100) (m % 10))))) (ms h) (-1) := v1
      have lT := i.lT
      have rA : ∀ t, t < nT (ms h) → (sI (sI h1 66 (hr3 (h1.1 66) (0 * 16) (nT (ms h)) (fun t => nI (miN (ms h) (-1) t (n / 1000) (n / 10 % 100) (n % 10))))) 66 (hr3 ((sI h1 66 (hr3 (h1.1 66) (0 * 16) (nT (ms h)) (fun t => nI (miN (ms h) (-1) t (n / 1000) (n / 10 % 100) (n % 10))))).1 66) (1 * 16) (nT (ms h)) (fun t => nI (miN (ms h) (-1) t (m / 1000) (m / 10 % 100) (m % 10))))).1 66 (0 * 16 + t) = nI (miN (ms h) (-1) t (n / 1000) (n / 10 % 100) (n % 10)) ∧ miN (ms h) (-1) t (n / 1000) (n / 10 % 100) (n % 10) ≤ 12 := by
        intro t ht
        refine ⟨?_, mi_le _ _ _ _ _ _⟩
        show hr3 (hr3 (h1.1 66) (0 * 16) (nT (ms h)) (fun t => nI (miN (ms h) (-1) t (n / 1000) (n / 10 % 100) (n % 10)))) (1 * 16) (nT (ms h)) (fun t => nI (miN (ms h) (-1) t (m / 1000) (m / 10 % 100) (m % 10))) (0 * 16 + t) = _
        unfold hr3
        rw [if_neg (by omega), if_pos (by omega), show 0 * 16 + t - 0 * 16 = t by omega]
      have rB : ∀ t, t < nT (ms h) → (sI (sI h1 66 (hr3 (h1.1 66) (0 * 16) (nT (ms h)) (fun t => nI (miN (ms h) (-1) t (n / 1000) (n / 10 % 100) (n % 10))))) 66 (hr3 ((sI h1 66 (hr3 (h1.1 66) (0 * 16) (nT (ms h)) (fun t => nI (miN (ms h) (-1) t (n / 1000) (n / 10 % 100) (n % 10))))).1 66) (1 * 16) (nT (ms h)) (fun t => nI (miN (ms h) (-1) t (m / 1000) (m / 10 % 100) (m % 10))))).1 66 (1 * 16 + t) = nI (miN (ms h) (-1) t (m / 1000) (m / 10 % 100) (m % 10)) ∧ miN (ms h) (-1) t (m / 1000) (m / 10 % 100) (m % 10) ≤ 12 := by
        intro t ht
        refine ⟨?_, mi_le _ _ _ _ _ _⟩
        show hr3 (hr3 (h1.1 66) (0 * 16) (nT (ms h)) (fun t => nI (miN (ms h) (-1) t (n / 1000) (n / 10 % 100) (n % 10)))) (1 * 16) (nT (ms h)) (fun t => nI (miN (ms h) (-1) t (m / 1000) (m / 10 % 100) (m % 10))) (1 * 16 + t) = _
        unfold hr3
        rw [if_pos (by omega), show 1 * 16 + t - 1 * 16 = t by omega]
      have e1 : ms (sI (sI h1 66 (hr3 (h1.1 66) (0 * 16) (nT (ms h)) (fun t => nI (miN (ms h) (-1) t (n / 1000) (n / 10 % 100) (n % 10))))) 66 (hr3 ((sI h1 66 (hr3 (h1.1 66) (0 * 16) (nT (ms h)) (fun t => nI (miN (ms h) (-1) t (n / 1000) (n / 10 % 100) (n % 10))))).1 66) (1 * 16) (nT (ms h)) (fun t => nI (miN (ms h) (-1) t (m / 1000) (m / 10 % 100) (m % 10))))) = ms h := ((f1.si (by decide) (by decide)).si (by decide) (by decide)).same.msE
      obtain ⟨h2, gp, f2, v2⟩ := m_prepare (h := sI (sI h1 66 (hr3 (h1.1 66) (0 * 16) (nT (ms h)) (fun t => nI (miN (ms h) (-1) t (n / 1000) (n / 10 % 100) (n % 10))))) 66 (hr3 ((sI h1 66 (hr3 (h1.1 66) (0 * 16) (nT (ms h)) (fun t => nI (miN (ms h) (-1) t (n / 1000) (n / 10 % 100) (n % 10))))).1 66) (1 * 16) (nT (ms h)) (fun t => nI (miN (ms h) (-1) t (m / 1000) (m / 10 % 100) (m % 10))))) (by rw [e1]; exact i.w) (-1)
      rw [e1] at v2
      refine Pas.read (h1 := sI (sI h1 66 (hr3 (h1.1 66) (0 * 16) (nT (ms h)) (fun t => nI (miN (ms h) (-1) t (n / 1000) (n / 10 % 100) (n % 10))))) 66 (hr3 ((sI h1 66 (hr3 (h1.1 66) (0 * 16) (nT (ms h)) (fun t => nI (miN (ms h) (-1) t (n / 1000) (n / 10 % 100) (n % 10))))).1 66) (1 * 16) (nT (ms h)) (fun t => nI (miN (ms h) (-1) t (m / 1000) (m / 10 % 100) (m % 10))))) (h2 := h2) (r := .int (nI (twN (ms h) (-1) n m))) i rfl ((f1.si (by decide) (by decide)).si (by decide) (by decide)).same (f2).same ?_ ?_
      · refine gd_ild1 dX8_two_0 ?_
        refine gd_i2l dX8_two_1 ?_
        rw [i2l_n (by have := sh_lt hn; omega)]
        refine gd_cS1i dX8_two_2 ct_8_221 ⟨Nat.le_of_ble_eq_true rfl, Nat.le_of_ble_eq_true rfl⟩ (Nat.le_of_ble_eq_true rfl) (Nat.le_of_ble_eq_true rfl) (c_isShake_t hn _) ?_
        refine gd_if_eq_f 16 dX8_two_5 (by decide) (by decide) ?_
        refine gd_ild2 dX8_two_8 ?_
        refine gd_i2l dX8_two_9 ?_
        rw [i2l_n (by have := sh_lt hm; omega)]
        refine gd_cS1i dX8_two_10 ct_8_221 ⟨Nat.le_of_ble_eq_true rfl, Nat.le_of_ble_eq_true rfl⟩ (Nat.le_of_ble_eq_true rfl) (Nat.le_of_ble_eq_true rfl) (c_isShake_t hm _) ?_
        refine gd_if_ne_t 23 dX8_two_13 (by decide) (by decide) ?_
        refine gd_ald0 dX8_two_23 (by decide) ?_
        refine gd_getR (r := 60) dX8_two_24 fl_8_40 rfl rfl rfl (by decide) ?_
        refine gd_ald0 dX8_two_27 (by decide) ?_
        refine gd_getR (r := 1) dX8_two_28 fl_8_12 rfl rfl rfl (by decide) ?_
        refine gd_icm1 dX8_two_31 ?_
        refine gd_cV2v dX8_two_32 ct_8_211 rc_60 ⟨Nat.le_of_ble_eq_true rfl, Nat.le_of_ble_eq_true rfl⟩ (Nat.le_of_ble_eq_true rfl) (Nat.le_of_ble_eq_true rfl) (gt) ?_
        refine gd_ald0 dX8_two_35 (by decide) ?_
        refine gd_getR (r := 60) dX8_two_36 fl_8_40 rfl rfl rfl (by decide) ?_
        refine gd_ic0 dX8_two_39 ?_
        refine gd_ild1 dX8_two_40 ?_
        refine gd_cV2v dX8_two_41 ct_8_234 rc_60 ⟨Nat.le_of_ble_eq_true rfl, Nat.le_of_ble_eq_true rfl⟩ (Nat.le_of_ble_eq_true rfl) (Nat.le_of_ble_eq_true rfl) (c_layMisses (p := 0) i.w v1 (by decide) hn) ?_
        refine gd_ald0 dX8_two_44 (by decide) ?_
        refine gd_getR (r := 60) dX8_two_45 fl_8_40 rfl rfl rfl (by decide) ?_
        refine gd_ic1 dX8_two_48 ?_
        refine gd_ild2 dX8_two_49 ?_
        refine gd_cV2v dX8_two_50 ct_8_234 rc_60 ⟨Nat.le_of_ble_eq_true rfl, Nat.le_of_ble_eq_true rfl⟩ (Nat.le_of_ble_eq_true rfl) (Nat.le_of_ble_eq_true rfl) (c_layMisses (p := 1) i.w vA (by decide) hm) ?_
        refine gd_ald0 dX8_two_53 (by decide) ?_
        refine gd_getR (r := 60) dX8_two_54 fl_8_40 rfl rfl rfl (by decide) ?_
        refine gd_ic0 dX8_two_57 ?_
        refine gd_ic1 dX8_two_58 ?_
        refine gd_cV2i dX8_two_59 ct_8_237 rc_60 ⟨Nat.le_of_ble_eq_true rfl, Nat.le_of_ble_eq_true rfl⟩ (Nat.le_of_ble_eq_true rfl) (Nat.le_of_ble_eq_true rfl) (c_missOfTwo (p := 0) (q := 1) i.w vB (by decide) (by decide) rA rB) ?_
        refine gd_iret dX8_two_62 rfl rfl ?_
        rfl
      · refine gd_ild1 dX9_two_0 ?_
        refine gd_i2l dX9_two_1 ?_
        rw [i2l_n (by have := sh_lt hn; omega)]
        refine gd_cS1i dX9_two_2 ct_9_225 ⟨Nat.le_of_ble_eq_true rfl, Nat.le_of_ble_eq_true rfl⟩ (Nat.le_of_ble_eq_true rfl) (Nat.le_of_ble_eq_true rfl) (m_isShake_t hn _) ?_
        refine gd_if_eq_f 16 dX9_two_5 (by decide) (by decide) ?_
        refine gd_ild2 dX9_two_8 ?_
        refine gd_i2l dX9_two_9 ?_
        rw [i2l_n (by have := sh_lt hm; omega)]
        refine gd_cS1i dX9_two_10 ct_9_225 ⟨Nat.le_of_ble_eq_true rfl, Nat.le_of_ble_eq_true rfl⟩ (Nat.le_of_ble_eq_true rfl) (Nat.le_of_ble_eq_true rfl) (m_isShake_t hm _) ?_
        refine gd_if_ne_t 22 dX9_two_13 (by decide) (by decide) ?_
        refine gd_ald0 dX9_two_22 (by decide) ?_
        refine gd_icm1 dX9_two_23 ?_
        refine gd_cV1v dX9_two_24 ct_9_216 rc_72 ⟨Nat.le_of_ble_eq_true rfl, Nat.le_of_ble_eq_true rfl⟩ (Nat.le_of_ble_eq_true rfl) (Nat.le_of_ble_eq_true rfl) (gp) ?_
        refine gd_ald0 dX9_two_27 (by decide) ?_
        refine gd_ild1 dX9_two_28 ?_
        refine gd_ild2 dX9_two_29 ?_
        refine gd_cV2i dX9_two_30 ct_9_231 rc_72 ⟨Nat.le_of_ble_eq_true rfl, Nat.le_of_ble_eq_true rfl⟩ (Nat.le_of_ble_eq_true rfl) (Nat.le_of_ble_eq_true rfl) (m_twoOf i.w v2 hn hm) ?_
        refine gd_iret dX9_two_33 rfl rfl ?_
        rfl
    · refine Pas.find (h1 := h) (h2 := hf (h) 0) (v := -1000000001) (w := (-1000000000 : Int32) - nI 1) 0 i (by decide) (by decide) (by decide) (Same.rf _) (Same.rf _) ?_ ?_
      · refine gd_ild1 dX8_two_0 ?_
        refine gd_i2l dX8_two_1 ?_
        rw [i2l_n (by have := sh_lt hn; omega)]
        refine gd_cS1i dX8_two_2 ct_8_221 ⟨Nat.le_of_ble_eq_true rfl, Nat.le_of_ble_eq_true rfl⟩ (Nat.le_of_ble_eq_true rfl) (Nat.le_of_ble_eq_true rfl) (c_isShake_t hn _) ?_
        refine gd_if_eq_f 16 dX8_two_5 (by decide) (by decide) ?_
        refine gd_ild2 dX8_two_8 ?_
        refine gd_i2l dX8_two_9 ?_
        refine gd_cS1i dX8_two_10 ct_8_221 ⟨Nat.le_of_ble_eq_true rfl, Nat.le_of_ble_eq_true rfl⟩ (Nat.le_of_ble_eq_true rfl) (Nat.le_of_ble_eq_true rfl) (c_isShake_f hs _) ?_
        refine gd_if_ne_f 23 dX8_two_13 (by decide) (by decide) ?_
        refine gd_ald0 dX8_two_16 (by decide) ?_
        refine gd_ldc dX8_two_17 ld_8_52 ?_
        refine gd_cV1i dX8_two_19 ct_8_53 rc_0 ⟨Nat.le_of_ble_eq_true rfl, Nat.le_of_ble_eq_true rfl⟩ (Nat.le_of_ble_eq_true rfl) (Nat.le_of_ble_eq_true rfl) (c_f0 _) ?_
        refine gd_iret dX8_two_22 rfl rfl ?_
        rfl
      · refine gd_ild1 dX9_two_0 ?_
        refine gd_i2l dX9_two_1 ?_
        rw [i2l_n (by have := sh_lt hn; omega)]
        refine gd_cS1i dX9_two_2 ct_9_225 ⟨Nat.le_of_ble_eq_true rfl, Nat.le_of_ble_eq_true rfl⟩ (Nat.le_of_ble_eq_true rfl) (Nat.le_of_ble_eq_true rfl) (m_isShake_t hn _) ?_
        refine gd_if_eq_f 16 dX9_two_5 (by decide) (by decide) ?_
        refine gd_ild2 dX9_two_8 ?_
        refine gd_i2l dX9_two_9 ?_
        refine gd_cS1i dX9_two_10 ct_9_225 ⟨Nat.le_of_ble_eq_true rfl, Nat.le_of_ble_eq_true rfl⟩ (Nat.le_of_ble_eq_true rfl) (Nat.le_of_ble_eq_true rfl) (m_isShake_f hs _) ?_
        refine gd_if_ne_f 22 dX9_two_13 (by decide) (by decide) ?_
        refine gd_ald0 dX9_two_16 (by decide) ?_
        refine gd_ic1 dX9_two_17 ?_
        refine gd_cV1i dX9_two_18 ct_9_97 rc_72 ⟨Nat.le_of_ble_eq_true rfl, Nat.le_of_ble_eq_true rfl⟩ (Nat.le_of_ble_eq_true rfl) (Nat.le_of_ble_eq_true rfl) (m_f0 _) ?_
        refine gd_iret dX9_two_21 rfl rfl ?_
        rfl
  · refine Pas.find (h1 := h) (h2 := hf (h) 0) (v := -1000000001) (w := (-1000000000 : Int32) - nI 1) 0 i (by decide) (by decide) (by decide) (Same.rf _) (Same.rf _) ?_ ?_
    · refine gd_ild1 dX8_two_0 ?_
      refine gd_i2l dX8_two_1 ?_
      refine gd_cS1i dX8_two_2 ct_8_221 ⟨Nat.le_of_ble_eq_true rfl, Nat.le_of_ble_eq_true rfl⟩ (Nat.le_of_ble_eq_true rfl) (Nat.le_of_ble_eq_true rfl) (c_isShake_f hs _) ?_
      refine gd_if_eq_t 16 dX8_two_5 (by decide) (by decide) ?_
      refine gd_ald0 dX8_two_16 (by decide) ?_
      refine gd_ldc dX8_two_17 ld_8_52 ?_
      refine gd_cV1i dX8_two_19 ct_8_53 rc_0 ⟨Nat.le_of_ble_eq_true rfl, Nat.le_of_ble_eq_true rfl⟩ (Nat.le_of_ble_eq_true rfl) (Nat.le_of_ble_eq_true rfl) (c_f0 _) ?_
      refine gd_iret dX8_two_22 rfl rfl ?_
      rfl
    · refine gd_ild1 dX9_two_0 ?_
      refine gd_i2l dX9_two_1 ?_
      refine gd_cS1i dX9_two_2 ct_9_225 ⟨Nat.le_of_ble_eq_true rfl, Nat.le_of_ble_eq_true rfl⟩ (Nat.le_of_ble_eq_true rfl) (Nat.le_of_ble_eq_true rfl) (m_isShake_f hs _) ?_
      refine gd_if_eq_t 16 dX9_two_5 (by decide) (by decide) ?_
      refine gd_ald0 dX9_two_16 (by decide) ?_
      refine gd_ic1 dX9_two_17 ?_
      refine gd_cV1i dX9_two_18 ct_9_97 rc_72 ⟨Nat.le_of_ble_eq_true rfl, Nat.le_of_ble_eq_true rfl⟩ (Nat.le_of_ble_eq_true rfl) (Nat.le_of_ble_eq_true rfl) (m_f0 _) ?_
      refine gd_iret dX9_two_21 rfl rfl ?_
      rfl
set_option maxHeartbeats 1000000 in
theorem p_split {h : Hp} (i : Inv h) (a b : Int32) : Pas mX8_split mX9_split [.ref 0, .int a, .int b, .null, .null] [.ref 72, .int a, .int b, .null, .null] h := by
  rcases shI a with ⟨n, hn, rfl⟩ | hs
  · rcases shI b with ⟨m, hm, rfl⟩ | hs
    · obtain ⟨h1, gt, f1, v1⟩ := c_take i.w i.c (-1)
      have c1 := f1.cr i.c
      have e1 : ms (h1) = ms h := (f1).same.msE
      obtain ⟨h2, gp, f2, v2⟩ := m_prepare (h := h1) (by rw [e1]; exact i.w) (-1)
      rw [e1] at v2
      have lT := i.lT
      have et := PV.t i.w v2
      have k8 : Gd mX8_split 40 [.ref 0, .int (nI n), .int (nI m), .int (nI (bset (fun t => decide (miN (ms h) (-1) t (m / 1000) (m / 10 % 100) (m % 10) < miN (ms h) (-1) t (n / 1000) (n / 10 % 100) (n % 10))) 0)), .int (nI 0)] [] h1 (some (.int (nI (bset (fun t => decide (miN (ms h) (-1) t (m / 1000) (m / 10 % 100) (m % 10) < miN (ms h) (-1) t (n / 1000) (n / 10 % 100) (n % 10))) (nT (ms h))))), h1) := by
        refine loopG (P := fun t => Gd mX8_split 40 [.ref 0, .int (nI n), .int (nI m), .int (nI (bset (fun t => decide (miN (ms h) (-1) t (m / 1000) (m / 10 % 100) (m % 10) < miN (ms h) (-1) t (n / 1000) (n / 10 % 100) (n % 10))) t)), .int (nI t)] [] h1 (some (.int (nI (bset (fun t => decide (miN (ms h) (-1) t (m / 1000) (m / 10 % 100) (m % 10) < miN (ms h) (-1) t (n / 1000) (n / 10 % 100) (n % 10))) (nT (ms h))))), h1)) (n := nT (ms h)) ?_ ?_ 0 (by omega)
        · refine gd_ild4 dX8_split_40 ?_
          refine gd_ald0 dX8_split_42 (by decide) ?_
          refine gd_getR (r := 1) dX8_split_43 fl_8_12 rfl rfl rfl (by decide) ?_
          refine gd_getR (r := 2) dX8_split_46 fl_8_57 rfl rfl rfl (by decide) ?_
          refine gd_getI dX8_split_49 fl_8_66 rfl rfl ?_
          refine gd_icmp_ge_t 91 dX8_split_52 (by decide) (by rw [show h1.1 2 3 = nI (nT (ms h)) from c1.t1.trans i.w.t.1]; exact nI_le (by omega) (by omega)) ?_
          refine gd_ild3 dX8_split_91 ?_
          refine gd_iret dX8_split_92 rfl rfl ?_
          rfl
        · intro t ht ih
          have q1 := mi_le (ms h) (-1) t (n / 1000) (n / 10 % 100) (n % 10)
          have q2 := mi_le (ms h) (-1) t (m / 1000) (m / 10 % 100) (m % 10)
          by_cases q : miN (ms h) (-1) t (m / 1000) (m / 10 % 100) (m % 10) < miN (ms h) (-1) t (n / 1000) (n / 10 % 100) (n % 10)
          · refine gd_ild4 dX8_split_40 ?_
            refine gd_ald0 dX8_split_42 (by decide) ?_
            refine gd_getR (r := 1) dX8_split_43 fl_8_12 rfl rfl rfl (by decide) ?_
            refine gd_getR (r := 2) dX8_split_46 fl_8_57 rfl rfl rfl (by decide) ?_
            refine gd_getI dX8_split_49 fl_8_66 rfl rfl ?_
            refine gd_icmp_ge_f 91 dX8_split_52 (by decide) (by rw [show h1.1 2 3 = nI (nT (ms h)) from c1.t1.trans i.w.t.1]; exact nI_ge (by omega) (by omega)) ?_
            refine gd_ald0 dX8_split_55 (by decide) ?_
            refine gd_getR (r := 60) dX8_split_56 fl_8_40 rfl rfl rfl (by decide) ?_
            refine gd_ild2 dX8_split_59 ?_
            refine gd_ild4 dX8_split_60 ?_
            refine gd_cV2i dX8_split_62 ct_8_231 rc_60 ⟨Nat.le_of_ble_eq_true rfl, Nat.le_of_ble_eq_true rfl⟩ (Nat.le_of_ble_eq_true rfl) (Nat.le_of_ble_eq_true rfl) (c_missIn i.w v1 ht hm) ?_
            refine gd_ald0 dX8_split_65 (by decide) ?_
            refine gd_getR (r := 60) dX8_split_66 fl_8_40 rfl rfl rfl (by decide) ?_
            refine gd_ild1 dX8_split_69 ?_
            refine gd_ild4 dX8_split_70 ?_
            refine gd_cV2i dX8_split_72 ct_8_231 rc_60 ⟨Nat.le_of_ble_eq_true rfl, Nat.le_of_ble_eq_true rfl⟩ (Nat.le_of_ble_eq_true rfl) (Nat.le_of_ble_eq_true rfl) (c_missIn i.w v1 ht hn) ?_
            refine gd_icmp_ge_f 85 dX8_split_75 (by decide) (by exact nI_ge (by omega) (by omega)) ?_
            refine gd_ild3 dX8_split_78 ?_
            refine gd_ic1 dX8_split_79 ?_
            refine gd_ild4 dX8_split_80 ?_
            refine gd_ishl dX8_split_82 ?_
            refine gd_ior dX8_split_83 ?_
            rw [bset_or (p := (fun t => decide (miN (ms h) (-1) t (m / 1000) (m / 10 % 100) (m % 10) < miN (ms h) (-1) t (n / 1000) (n / 10 % 100) (n % 10)))) (decide_eq_true q) (by omega)]
            refine gd_ist3 dX8_split_84 rfl ?_
            refine gd_iinc4 (b := nI 1) dX8_split_85 (by decide) rfl ?_
            rw [nI_add]
            refine gd_goto 40 dX8_split_88 (by decide) ?_
            exact ih
          · refine gd_ild4 dX8_split_40 ?_
            refine gd_ald0 dX8_split_42 (by decide) ?_
            refine gd_getR (r := 1) dX8_split_43 fl_8_12 rfl rfl rfl (by decide) ?_
            refine gd_getR (r := 2) dX8_split_46 fl_8_57 rfl rfl rfl (by decide) ?_
            refine gd_getI dX8_split_49 fl_8_66 rfl rfl ?_
            refine gd_icmp_ge_f 91 dX8_split_52 (by decide) (by rw [show h1.1 2 3 = nI (nT (ms h)) from c1.t1.trans i.w.t.1]; exact nI_ge (by omega) (by omega)) ?_
            refine gd_ald0 dX8_split_55 (by decide) ?_
            refine gd_getR (r := 60) dX8_split_56 fl_8_40 rfl rfl rfl (by decide) ?_
            refine gd_ild2 dX8_split_59 ?_
            refine gd_ild4 dX8_split_60 ?_
            refine gd_cV2i dX8_split_62 ct_8_231 rc_60 ⟨Nat.le_of_ble_eq_true rfl, Nat.le_of_ble_eq_true rfl⟩ (Nat.le_of_ble_eq_true rfl) (Nat.le_of_ble_eq_true rfl) (c_missIn i.w v1 ht hm) ?_
            refine gd_ald0 dX8_split_65 (by decide) ?_
            refine gd_getR (r := 60) dX8_split_66 fl_8_40 rfl rfl rfl (by decide) ?_
            refine gd_ild1 dX8_split_69 ?_
            refine gd_ild4 dX8_split_70 ?_
            refine gd_cV2i dX8_split_72 ct_8_231 rc_60 ⟨Nat.le_of_ble_eq_true rfl, Nat.le_of_ble_eq_true rfl⟩ (Nat.le_of_ble_eq_true rfl) (Nat.le_of_ble_eq_true rfl) (c_missIn i.w v1 ht hn) ?_
            refine gd_icmp_ge_t 85 dX8_split_75 (by decide) (by exact nI_le (by omega) (by omega)) ?_
            refine gd_iinc4 (b := nI 1) dX8_split_85 (by decide) rfl ?_
            rw [nI_add]
            refine gd_goto 40 dX8_split_88 (by decide) ?_
            rw [bset_no (p := (fun t => decide (miN (ms h) (-1) t (m / 1000) (m / 10 % 100) (m % 10) < miN (ms h) (-1) t (n / 1000) (n / 10 % 100) (n % 10)))) (decide_eq_false q)] at ih
            exact ih
      have k9 : Gd mX9_split 32 [.ref 72, .int (nI n), .int (nI m), .int (nI (bset (fun t => decide (miN (ms h) (-1) t (m / 1000) (m / 10 % 100) (m % 10) < miN (ms h) (-1) t (n / 1000) (n / 10 % 100) (n % 10))) 0)), .int (nI 0)] [] h2 (some (.int (nI (bset (fun t => decide (miN (ms h) (-1) t (m / 1000) (m / 10 % 100) (m % 10) < miN (ms h) (-1) t (n / 1000) (n / 10 % 100) (n % 10))) (nT (ms h))))), h2) := by
        refine loopG (P := fun t => Gd mX9_split 32 [.ref 72, .int (nI n), .int (nI m), .int (nI (bset (fun t => decide (miN (ms h) (-1) t (m / 1000) (m / 10 % 100) (m % 10) < miN (ms h) (-1) t (n / 1000) (n / 10 % 100) (n % 10))) t)), .int (nI t)] [] h2 (some (.int (nI (bset (fun t => decide (miN (ms h) (-1) t (m / 1000) (m / 10 % 100) (m % 10) < miN (ms h) (-1) t (n / 1000) (n / 10 % 100) (n % 10))) (nT (ms h))))), h2)) (n := nT (ms h)) ?_ ?_ 0 (by omega)
        · refine gd_ild4 dX9_split_32 ?_
          refine gd_ald0 dX9_split_34 (by decide) ?_
          refine gd_getR (r := 74) dX9_split_35 fl_9_13 rfl rfl rfl (by decide) ?_
          refine gd_ic0 dX9_split_38 ?_
          refine gd_iald (n := 5) dX9_split_39 rfl (by decide) (by repeat' (first | with_reducible rfl | apply ni_add | apply ni_mul)) (by omega) ?_
          refine gd_icmp_ge_t 77 dX9_split_40 (by decide) (by rw [et]; exact nI_le (by omega) (by omega)) ?_
          refine gd_ild3 dX9_split_77 ?_
          refine gd_iret dX9_split_78 rfl rfl ?_
          rfl
        · intro t ht ih
          have q1 := mi_le (ms h) (-1) t (n / 1000) (n / 10 % 100) (n % 10)
          have q2 := mi_le (ms h) (-1) t (m / 1000) (m / 10 % 100) (m % 10)
          by_cases q : miN (ms h) (-1) t (m / 1000) (m / 10 % 100) (m % 10) < miN (ms h) (-1) t (n / 1000) (n / 10 % 100) (n % 10)
          · refine gd_ild4 dX9_split_32 ?_
            refine gd_ald0 dX9_split_34 (by decide) ?_
            refine gd_getR (r := 74) dX9_split_35 fl_9_13 rfl rfl rfl (by decide) ?_
            refine gd_ic0 dX9_split_38 ?_
            refine gd_iald (n := 5) dX9_split_39 rfl (by decide) (by repeat' (first | with_reducible rfl | apply ni_add | apply ni_mul)) (by omega) ?_
            refine gd_icmp_ge_f 77 dX9_split_40 (by decide) (by rw [et]; exact nI_ge (by omega) (by omega)) ?_
            refine gd_ild3 dX9_split_43 ?_
            refine gd_ald0 dX9_split_44 (by decide) ?_
            refine gd_ild2 dX9_split_45 ?_
            refine gd_ild4 dX9_split_46 ?_
            refine gd_cV2i dX9_split_48 ct_9_222 rc_72 ⟨Nat.le_of_ble_eq_true rfl, Nat.le_of_ble_eq_true rfl⟩ (Nat.le_of_ble_eq_true rfl) (Nat.le_of_ble_eq_true rfl) (m_missAt i.w v2 ht hm) ?_
            refine gd_ald0 dX9_split_51 (by decide) ?_
            refine gd_ild1 dX9_split_52 ?_
            refine gd_ild4 dX9_split_53 ?_
            refine gd_cV2i dX9_split_55 ct_9_222 rc_72 ⟨Nat.le_of_ble_eq_true rfl, Nat.le_of_ble_eq_true rfl⟩ (Nat.le_of_ble_eq_true rfl) (Nat.le_of_ble_eq_true rfl) (m_missAt i.w v2 ht hn) ?_
            refine gd_icmp_ge_f 68 dX9_split_58 (by decide) (by exact nI_ge (by omega) (by omega)) ?_
            refine gd_ic1 dX9_split_61 ?_
            refine gd_ild4 dX9_split_62 ?_
            refine gd_ishl dX9_split_64 ?_
            refine gd_goto 69 dX9_split_65 (by decide) ?_
            refine gd_ior dX9_split_69 ?_
            rw [bset_or (p := (fun t => decide (miN (ms h) (-1) t (m / 1000) (m / 10 % 100) (m % 10) < miN (ms h) (-1) t (n / 1000) (n / 10 % 100) (n % 10)))) (decide_eq_true q) (by omega)]
            refine gd_ist3 dX9_split_70 rfl ?_
            refine gd_iinc4 (b := nI 1) dX9_split_71 (by decide) rfl ?_
            rw [nI_add]
            refine gd_goto 32 dX9_split_74 (by decide) ?_
            exact ih
          · refine gd_ild4 dX9_split_32 ?_
            refine gd_ald0 dX9_split_34 (by decide) ?_
            refine gd_getR (r := 74) dX9_split_35 fl_9_13 rfl rfl rfl (by decide) ?_
            refine gd_ic0 dX9_split_38 ?_
            refine gd_iald (n := 5) dX9_split_39 rfl (by decide) (by repeat' (first | with_reducible rfl | apply ni_add | apply ni_mul)) (by omega) ?_
            refine gd_icmp_ge_f 77 dX9_split_40 (by decide) (by rw [et]; exact nI_ge (by omega) (by omega)) ?_
            refine gd_ild3 dX9_split_43 ?_
            refine gd_ald0 dX9_split_44 (by decide) ?_
            refine gd_ild2 dX9_split_45 ?_
            refine gd_ild4 dX9_split_46 ?_
            refine gd_cV2i dX9_split_48 ct_9_222 rc_72 ⟨Nat.le_of_ble_eq_true rfl, Nat.le_of_ble_eq_true rfl⟩ (Nat.le_of_ble_eq_true rfl) (Nat.le_of_ble_eq_true rfl) (m_missAt i.w v2 ht hm) ?_
            refine gd_ald0 dX9_split_51 (by decide) ?_
            refine gd_ild1 dX9_split_52 ?_
            refine gd_ild4 dX9_split_53 ?_
            refine gd_cV2i dX9_split_55 ct_9_222 rc_72 ⟨Nat.le_of_ble_eq_true rfl, Nat.le_of_ble_eq_true rfl⟩ (Nat.le_of_ble_eq_true rfl) (Nat.le_of_ble_eq_true rfl) (m_missAt i.w v2 ht hn) ?_
            refine gd_icmp_ge_t 68 dX9_split_58 (by decide) (by exact nI_le (by omega) (by omega)) ?_
            refine gd_ic0 dX9_split_68 ?_
            refine gd_ior dX9_split_69 ?_
            rw [or_nI, Nat.or_zero]
            refine gd_ist3 dX9_split_70 rfl ?_
            refine gd_iinc4 (b := nI 1) dX9_split_71 (by decide) rfl ?_
            rw [nI_add]
            refine gd_goto 32 dX9_split_74 (by decide) ?_
            rw [bset_no (p := (fun t => decide (miN (ms h) (-1) t (m / 1000) (m / 10 % 100) (m % 10) < miN (ms h) (-1) t (n / 1000) (n / 10 % 100) (n % 10)))) (decide_eq_false q)] at ih
            exact ih
      refine Pas.read (h1 := h1) (h2 := h2) (r := .int (nI (bset (fun t => decide (miN (ms h) (-1) t (m / 1000) (m / 10 % 100) (m % 10) < miN (ms h) (-1) t (n / 1000) (n / 10 % 100) (n % 10))) (nT (ms h))))) i rfl (f1).same (f2).same ?_ ?_
      · refine gd_ild1 dX8_split_0 ?_
        refine gd_i2l dX8_split_1 ?_
        rw [i2l_n (by have := sh_lt hn; omega)]
        refine gd_cS1i dX8_split_2 ct_8_221 ⟨Nat.le_of_ble_eq_true rfl, Nat.le_of_ble_eq_true rfl⟩ (Nat.le_of_ble_eq_true rfl) (Nat.le_of_ble_eq_true rfl) (c_isShake_t hn _) ?_
        refine gd_if_eq_f 16 dX8_split_5 (by decide) (by decide) ?_
        refine gd_ild2 dX8_split_8 ?_
        refine gd_i2l dX8_split_9 ?_
        rw [i2l_n (by have := sh_lt hm; omega)]
        refine gd_cS1i dX8_split_10 ct_8_221 ⟨Nat.le_of_ble_eq_true rfl, Nat.le_of_ble_eq_true rfl⟩ (Nat.le_of_ble_eq_true rfl) (Nat.le_of_ble_eq_true rfl) (c_isShake_t hm _) ?_
        refine gd_if_ne_t 23 dX8_split_13 (by decide) (by decide) ?_
        refine gd_ald0 dX8_split_23 (by decide) ?_
        refine gd_getR (r := 60) dX8_split_24 fl_8_40 rfl rfl rfl (by decide) ?_
        refine gd_ald0 dX8_split_27 (by decide) ?_
        refine gd_getR (r := 1) dX8_split_28 fl_8_12 rfl rfl rfl (by decide) ?_
        refine gd_icm1 dX8_split_31 ?_
        refine gd_cV2v dX8_split_32 ct_8_211 rc_60 ⟨Nat.le_of_ble_eq_true rfl, Nat.le_of_ble_eq_true rfl⟩ (Nat.le_of_ble_eq_true rfl) (Nat.le_of_ble_eq_true rfl) (gt) ?_
        refine gd_ic0 dX8_split_35 ?_
        refine gd_ist3 dX8_split_36 rfl ?_
        refine gd_ic0 dX8_split_37 ?_
        refine gd_ist4 dX8_split_38 rfl ?_
        exact k8
      · refine gd_ild1 dX9_split_0 ?_
        refine gd_i2l dX9_split_1 ?_
        rw [i2l_n (by have := sh_lt hn; omega)]
        refine gd_cS1i dX9_split_2 ct_9_225 ⟨Nat.le_of_ble_eq_true rfl, Nat.le_of_ble_eq_true rfl⟩ (Nat.le_of_ble_eq_true rfl) (Nat.le_of_ble_eq_true rfl) (m_isShake_t hn _) ?_
        refine gd_if_eq_f 16 dX9_split_5 (by decide) (by decide) ?_
        refine gd_ild2 dX9_split_8 ?_
        refine gd_i2l dX9_split_9 ?_
        rw [i2l_n (by have := sh_lt hm; omega)]
        refine gd_cS1i dX9_split_10 ct_9_225 ⟨Nat.le_of_ble_eq_true rfl, Nat.le_of_ble_eq_true rfl⟩ (Nat.le_of_ble_eq_true rfl) (Nat.le_of_ble_eq_true rfl) (m_isShake_t hm _) ?_
        refine gd_if_ne_t 22 dX9_split_13 (by decide) (by decide) ?_
        refine gd_ald0 dX9_split_22 (by decide) ?_
        refine gd_icm1 dX9_split_23 ?_
        refine gd_cV1v dX9_split_24 ct_9_216 rc_72 ⟨Nat.le_of_ble_eq_true rfl, Nat.le_of_ble_eq_true rfl⟩ (Nat.le_of_ble_eq_true rfl) (Nat.le_of_ble_eq_true rfl) (gp) ?_
        refine gd_ic0 dX9_split_27 ?_
        refine gd_ist3 dX9_split_28 rfl ?_
        refine gd_ic0 dX9_split_29 ?_
        refine gd_ist4 dX9_split_30 rfl ?_
        exact k9
    · refine Pas.find (h1 := h) (h2 := hf (h) 0) (v := -1000000001) (w := (-1000000000 : Int32) - nI 1) 0 i (by decide) (by decide) (by decide) (Same.rf _) (Same.rf _) ?_ ?_
      · refine gd_ild1 dX8_split_0 ?_
        refine gd_i2l dX8_split_1 ?_
        rw [i2l_n (by have := sh_lt hn; omega)]
        refine gd_cS1i dX8_split_2 ct_8_221 ⟨Nat.le_of_ble_eq_true rfl, Nat.le_of_ble_eq_true rfl⟩ (Nat.le_of_ble_eq_true rfl) (Nat.le_of_ble_eq_true rfl) (c_isShake_t hn _) ?_
        refine gd_if_eq_f 16 dX8_split_5 (by decide) (by decide) ?_
        refine gd_ild2 dX8_split_8 ?_
        refine gd_i2l dX8_split_9 ?_
        refine gd_cS1i dX8_split_10 ct_8_221 ⟨Nat.le_of_ble_eq_true rfl, Nat.le_of_ble_eq_true rfl⟩ (Nat.le_of_ble_eq_true rfl) (Nat.le_of_ble_eq_true rfl) (c_isShake_f hs _) ?_
        refine gd_if_ne_f 23 dX8_split_13 (by decide) (by decide) ?_
        refine gd_ald0 dX8_split_16 (by decide) ?_
        refine gd_ldc dX8_split_17 ld_8_52 ?_
        refine gd_cV1i dX8_split_19 ct_8_53 rc_0 ⟨Nat.le_of_ble_eq_true rfl, Nat.le_of_ble_eq_true rfl⟩ (Nat.le_of_ble_eq_true rfl) (Nat.le_of_ble_eq_true rfl) (c_f0 _) ?_
        refine gd_iret dX8_split_22 rfl rfl ?_
        rfl
      · refine gd_ild1 dX9_split_0 ?_
        refine gd_i2l dX9_split_1 ?_
        rw [i2l_n (by have := sh_lt hn; omega)]
        refine gd_cS1i dX9_split_2 ct_9_225 ⟨Nat.le_of_ble_eq_true rfl, Nat.le_of_ble_eq_true rfl⟩ (Nat.le_of_ble_eq_true rfl) (Nat.le_of_ble_eq_true rfl) (m_isShake_t hn _) ?_
        refine gd_if_eq_f 16 dX9_split_5 (by decide) (by decide) ?_
        refine gd_ild2 dX9_split_8 ?_
        refine gd_i2l dX9_split_9 ?_
        refine gd_cS1i dX9_split_10 ct_9_225 ⟨Nat.le_of_ble_eq_true rfl, Nat.le_of_ble_eq_true rfl⟩ (Nat.le_of_ble_eq_true rfl) (Nat.le_of_ble_eq_true rfl) (m_isShake_f hs _) ?_
        refine gd_if_ne_f 22 dX9_split_13 (by decide) (by decide) ?_
        refine gd_ald0 dX9_split_16 (by decide) ?_
        refine gd_ic1 dX9_split_17 ?_
        refine gd_cV1i dX9_split_18 ct_9_97 rc_72 ⟨Nat.le_of_ble_eq_true rfl, Nat.le_of_ble_eq_true rfl⟩ (Nat.le_of_ble_eq_true rfl) (Nat.le_of_ble_eq_true rfl) (m_f0 _) ?_
        refine gd_iret dX9_split_21 rfl rfl ?_
        rfl
  · refine Pas.find (h1 := h) (h2 := hf (h) 0) (v := -1000000001) (w := (-1000000000 : Int32) - nI 1) 0 i (by decide) (by decide) (by decide) (Same.rf _) (Same.rf _) ?_ ?_
    · refine gd_ild1 dX8_split_0 ?_
      refine gd_i2l dX8_split_1 ?_
      refine gd_cS1i dX8_split_2 ct_8_221 ⟨Nat.le_of_ble_eq_true rfl, Nat.le_of_ble_eq_true rfl⟩ (Nat.le_of_ble_eq_true rfl) (Nat.le_of_ble_eq_true rfl) (c_isShake_f hs _) ?_
      refine gd_if_eq_t 16 dX8_split_5 (by decide) (by decide) ?_
      refine gd_ald0 dX8_split_16 (by decide) ?_
      refine gd_ldc dX8_split_17 ld_8_52 ?_
      refine gd_cV1i dX8_split_19 ct_8_53 rc_0 ⟨Nat.le_of_ble_eq_true rfl, Nat.le_of_ble_eq_true rfl⟩ (Nat.le_of_ble_eq_true rfl) (Nat.le_of_ble_eq_true rfl) (c_f0 _) ?_
      refine gd_iret dX8_split_22 rfl rfl ?_
      rfl
    · refine gd_ild1 dX9_split_0 ?_
      refine gd_i2l dX9_split_1 ?_
      refine gd_cS1i dX9_split_2 ct_9_225 ⟨Nat.le_of_ble_eq_true rfl, Nat.le_of_ble_eq_true rfl⟩ (Nat.le_of_ble_eq_true rfl) (Nat.le_of_ble_eq_true rfl) (m_isShake_f hs _) ?_
      refine gd_if_eq_t 16 dX9_split_5 (by decide) (by decide) ?_
      refine gd_ald0 dX9_split_16 (by decide) ?_
      refine gd_ic1 dX9_split_17 ?_
      refine gd_cV1i dX9_split_18 ct_9_97 rc_72 ⟨Nat.le_of_ble_eq_true rfl, Nat.le_of_ble_eq_true rfl⟩ (Nat.le_of_ble_eq_true rfl) (Nat.le_of_ble_eq_true rfl) (m_f0 _) ?_
      refine gd_iret dX9_split_21 rfl rfl ?_
      rfl
