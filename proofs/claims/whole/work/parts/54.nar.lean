
/-! ===== odds, best, without, narrow, judge ===== -/
set_option maxHeartbeats 1000000 in
theorem p_best {h : Hp} (i : Inv h) (a : Int32) : Pas mX8_best mX9_best [.ref 0, .int a] [.ref 72, .int a] h := by
  rcases rng a (4) (by decide) with ⟨d, hd, rfl⟩ | ha
  · obtain ⟨h1, gt, f1, v1⟩ := c_take i.w i.c (-1)
    have c1 := f1.cr i.c
    obtain ⟨h3, g3, f3, v3⟩ := c_bestShake i.w v1 hd
    have e1 : ms (h3) = ms h := (f1.tr f3).same.msE
    obtain ⟨h2, gp, f2, v2⟩ := m_prepare (h := h3) (by rw [e1]; exact i.w) (-1)
    rw [e1] at v2
    obtain ⟨h4, gs, sw⟩ := m_sweep i.w v2 hd
    have eb : h4.1 72 25 = nI (cdN d (amN (mfN (ms h) (-1) d) 5760)) := sw.2.2.2.2.1
    refine Pas.read (h1 := h3) (h2 := h4) (r := .int (nI (cdN d (amN (mfN (ms h) (-1) d) 5760)))) i rfl (f1.tr f3).same (f2.tr sw.1).same ?_ ?_
    · refine gd_ild1 dX8_best_0 ?_
      refine gd_ic4 dX8_best_1 ?_
      refine gd_cS2i dX8_best_2 ct_8_48 ⟨Nat.le_of_ble_eq_true rfl, Nat.le_of_ble_eq_true rfl⟩ (Nat.le_of_ble_eq_true rfl) (Nat.le_of_ble_eq_true rfl) (c_isBelow_t hd (by decide) _) ?_
      refine gd_if_ne_t 15 dX8_best_5 (by decide) (by decide) ?_
      refine gd_ald0 dX8_best_15 (by decide) ?_
      refine gd_getR (r := 60) dX8_best_16 fl_8_40 rfl rfl rfl (by decide) ?_
      refine gd_ald0 dX8_best_19 (by decide) ?_
      refine gd_getR (r := 1) dX8_best_20 fl_8_12 rfl rfl rfl (by decide) ?_
      refine gd_icm1 dX8_best_23 ?_
      refine gd_cV2v dX8_best_24 ct_8_211 rc_60 ⟨Nat.le_of_ble_eq_true rfl, Nat.le_of_ble_eq_true rfl⟩ (Nat.le_of_ble_eq_true rfl) (Nat.le_of_ble_eq_true rfl) (gt) ?_
      refine gd_ald0 dX8_best_27 (by decide) ?_
      refine gd_getR (r := 60) dX8_best_28 fl_8_40 rfl rfl rfl (by decide) ?_
      refine gd_ild1 dX8_best_31 ?_
      refine gd_cV1i dX8_best_32 ct_8_266 rc_60 ⟨Nat.le_of_ble_eq_true rfl, Nat.le_of_ble_eq_true rfl⟩ (Nat.le_of_ble_eq_true rfl) (Nat.le_of_ble_eq_true rfl) (g3) ?_
      refine gd_iret dX8_best_35 rfl rfl ?_
      rfl
    · refine gd_ild1 dX9_best_0 ?_
      refine gd_cS1i dX9_best_1 ct_9_259 ⟨Nat.le_of_ble_eq_true rfl, Nat.le_of_ble_eq_true rfl⟩ (Nat.le_of_ble_eq_true rfl) (Nat.le_of_ble_eq_true rfl) (m_isDepth_t hd _) ?_
      refine gd_if_ne_t 13 dX9_best_4 (by decide) (by decide) ?_
      refine gd_ald0 dX9_best_13 (by decide) ?_
      refine gd_icm1 dX9_best_14 ?_
      refine gd_cV1v dX9_best_15 ct_9_216 rc_72 ⟨Nat.le_of_ble_eq_true rfl, Nat.le_of_ble_eq_true rfl⟩ (Nat.le_of_ble_eq_true rfl) (Nat.le_of_ble_eq_true rfl) (gp) ?_
      refine gd_ald0 dX9_best_18 (by decide) ?_
      refine gd_ild1 dX9_best_19 ?_
      refine gd_cV1v dX9_best_20 ct_9_262 rc_72 ⟨Nat.le_of_ble_eq_true rfl, Nat.le_of_ble_eq_true rfl⟩ (Nat.le_of_ble_eq_true rfl) (Nat.le_of_ble_eq_true rfl) (gs) ?_
      refine gd_ald0 dX9_best_23 (by decide) ?_
      refine gd_getI dX9_best_24 fl_9_253 rfl rfl ?_
      rw [eb]
      refine gd_iret dX9_best_27 rfl rfl ?_
      rfl
  · refine Pas.find (h1 := h) (h2 := hf (h) 0) (v := -1000000001) (w := (-1000000000 : Int32) - nI 1) 0 i (by decide) (by decide) (by decide) (Same.rf _) (Same.rf _) ?_ ?_
    · refine gd_ild1 dX8_best_0 ?_
      refine gd_ic4 dX8_best_1 ?_
      refine gd_cS2i dX8_best_2 ct_8_48 ⟨Nat.le_of_ble_eq_true rfl, Nat.le_of_ble_eq_true rfl⟩ (Nat.le_of_ble_eq_true rfl) (Nat.le_of_ble_eq_true rfl) (c_isBelow_f ha _) ?_
      refine gd_if_ne_f 15 dX8_best_5 (by decide) (by decide) ?_
      refine gd_ald0 dX8_best_8 (by decide) ?_
      refine gd_ldc dX8_best_9 ld_8_52 ?_
      refine gd_cV1i dX8_best_11 ct_8_53 rc_0 ⟨Nat.le_of_ble_eq_true rfl, Nat.le_of_ble_eq_true rfl⟩ (Nat.le_of_ble_eq_true rfl) (Nat.le_of_ble_eq_true rfl) (c_f0 _) ?_
      refine gd_iret dX8_best_14 rfl rfl ?_
      rfl
    · refine gd_ild1 dX9_best_0 ?_
      refine gd_cS1i dX9_best_1 ct_9_259 ⟨Nat.le_of_ble_eq_true rfl, Nat.le_of_ble_eq_true rfl⟩ (Nat.le_of_ble_eq_true rfl) (Nat.le_of_ble_eq_true rfl) (m_isDepth_f ha _) ?_
      refine gd_if_ne_f 13 dX9_best_4 (by decide) (by decide) ?_
      refine gd_ald0 dX9_best_7 (by decide) ?_
      refine gd_ic1 dX9_best_8 ?_
      refine gd_cV1i dX9_best_9 ct_9_97 rc_72 ⟨Nat.le_of_ble_eq_true rfl, Nat.le_of_ble_eq_true rfl⟩ (Nat.le_of_ble_eq_true rfl) (Nat.le_of_ble_eq_true rfl) (m_f0 _) ?_
      refine gd_iret dX9_best_12 rfl rfl ?_
      rfl
set_option maxHeartbeats 1000000 in
theorem p_without {h : Hp} (i : Inv h) (a b : Int32) : Pas mX8_without mX9_without [.ref 0, .int a, .int b] [.ref 72, .int a, .int b] h := by
  rcases rng a (4) (by decide) with ⟨d, hd, rfl⟩ | ha
  · rcases rng b (nN (ms h)) (by have := i.lN; omega) with ⟨l, hl, rfl⟩ | hb
    · obtain ⟨h1, gt, f1, v1⟩ := c_take i.w i.c (nI l)
      have c1 := f1.cr i.c
      obtain ⟨h3, g3, f3, v3⟩ := c_bestShake i.w v1 hd
      have e1 : ms (h3) = ms h := (f1.tr f3).same.msE
      obtain ⟨h2, gp, f2, v2⟩ := m_prepare (h := h3) (by rw [e1]; exact i.w) (nI l)
      rw [e1] at v2
      obtain ⟨h4, gs, sw⟩ := m_sweep i.w v2 hd
      have ebm : h4.1 72 26 = nI ((mfN (ms h) (nI l) d) (amN (mfN (ms h) (nI l) d) 5760)) := sw.2.2.2.2.2
      have al := am_lt (mfN (ms h) (nI l) d) 5760 (by decide)
      have cs := cd_sh (d := d) (i := (amN (mfN (ms h) (nI l) d) 5760)) hd al
      have gm := c_missOf i.w v3 cs.1
      rw [cs.2.1, cs.2.2.1, cs.2.2.2] at gm
      refine Pas.read (h1 := h3) (h2 := h4) (r := .int (nI ((mfN (ms h) (nI l) d) (amN (mfN (ms h) (nI l) d) 5760)))) i rfl (f1.tr f3).same (f2.tr sw.1).same ?_ ?_
      · refine gd_ild1 dX8_without_0 ?_
        refine gd_ic4 dX8_without_1 ?_
        refine gd_cS2i dX8_without_2 ct_8_48 ⟨Nat.le_of_ble_eq_true rfl, Nat.le_of_ble_eq_true rfl⟩ (Nat.le_of_ble_eq_true rfl) (Nat.le_of_ble_eq_true rfl) (c_isBelow_t hd (by decide) _) ?_
        refine gd_if_eq_f 16 dX8_without_5 (by decide) (by decide) ?_
        refine gd_ald0 dX8_without_8 (by decide) ?_
        refine gd_ild2 dX8_without_9 ?_
        refine gd_cV1i dX8_without_10 ct_8_142 rc_0 ⟨Nat.le_of_ble_eq_true rfl, Nat.le_of_ble_eq_true rfl⟩ (Nat.le_of_ble_eq_true rfl) (Nat.le_of_ble_eq_true rfl) (c_isLetter_t i.w i.c hl) ?_
        refine gd_if_ne_t 23 dX8_without_13 (by decide) (by decide) ?_
        refine gd_ald0 dX8_without_23 (by decide) ?_
        refine gd_getR (r := 60) dX8_without_24 fl_8_40 rfl rfl rfl (by decide) ?_
        refine gd_ald0 dX8_without_27 (by decide) ?_
        refine gd_getR (r := 1) dX8_without_28 fl_8_12 rfl rfl rfl (by decide) ?_
        refine gd_ild2 dX8_without_31 ?_
        refine gd_cV2v dX8_without_32 ct_8_211 rc_60 ⟨Nat.le_of_ble_eq_true rfl, Nat.le_of_ble_eq_true rfl⟩ (Nat.le_of_ble_eq_true rfl) (Nat.le_of_ble_eq_true rfl) (gt) ?_
        refine gd_ald0 dX8_without_35 (by decide) ?_
        refine gd_getR (r := 60) dX8_without_36 fl_8_40 rfl rfl rfl (by decide) ?_
        refine gd_ald0 dX8_without_39 (by decide) ?_
        refine gd_getR (r := 60) dX8_without_40 fl_8_40 rfl rfl rfl (by decide) ?_
        refine gd_ild1 dX8_without_43 ?_
        refine gd_cV1i dX8_without_44 ct_8_266 rc_60 ⟨Nat.le_of_ble_eq_true rfl, Nat.le_of_ble_eq_true rfl⟩ (Nat.le_of_ble_eq_true rfl) (Nat.le_of_ble_eq_true rfl) (g3) ?_
        refine gd_cV1i dX8_without_47 ct_8_228 rc_60 ⟨Nat.le_of_ble_eq_true rfl, Nat.le_of_ble_eq_true rfl⟩ (Nat.le_of_ble_eq_true rfl) (Nat.le_of_ble_eq_true rfl) (gm) ?_
        refine gd_iret dX8_without_50 rfl rfl ?_
        rfl
      · refine gd_ild1 dX9_without_0 ?_
        refine gd_cS1i dX9_without_1 ct_9_259 ⟨Nat.le_of_ble_eq_true rfl, Nat.le_of_ble_eq_true rfl⟩ (Nat.le_of_ble_eq_true rfl) (Nat.le_of_ble_eq_true rfl) (m_isDepth_t hd _) ?_
        refine gd_if_eq_f 15 dX9_without_4 (by decide) (by decide) ?_
        refine gd_ald0 dX9_without_7 (by decide) ?_
        refine gd_ild2 dX9_without_8 ?_
        refine gd_cV1i dX9_without_9 ct_9_113 rc_72 ⟨Nat.le_of_ble_eq_true rfl, Nat.le_of_ble_eq_true rfl⟩ (Nat.le_of_ble_eq_true rfl) (Nat.le_of_ble_eq_true rfl) (m_isLetter_t (h := h3) (by rw [e1]; exact i.w) (by rw [e1]; exact hl)) ?_
        refine gd_if_ne_t 21 dX9_without_12 (by decide) (by decide) ?_
        refine gd_ald0 dX9_without_21 (by decide) ?_
        refine gd_ild2 dX9_without_22 ?_
        refine gd_cV1v dX9_without_23 ct_9_216 rc_72 ⟨Nat.le_of_ble_eq_true rfl, Nat.le_of_ble_eq_true rfl⟩ (Nat.le_of_ble_eq_true rfl) (Nat.le_of_ble_eq_true rfl) (gp) ?_
        refine gd_ald0 dX9_without_26 (by decide) ?_
        refine gd_ild1 dX9_without_27 ?_
        refine gd_cV1v dX9_without_28 ct_9_262 rc_72 ⟨Nat.le_of_ble_eq_true rfl, Nat.le_of_ble_eq_true rfl⟩ (Nat.le_of_ble_eq_true rfl) (Nat.le_of_ble_eq_true rfl) (gs) ?_
        refine gd_ald0 dX9_without_31 (by decide) ?_
        refine gd_getI dX9_without_32 fl_9_256 rfl rfl ?_
        rw [ebm]
        refine gd_iret dX9_without_35 rfl rfl ?_
        rfl
    · refine Pas.find (h1 := h) (h2 := hf (h) 0) (v := -1000000001) (w := (-1000000000 : Int32) - nI 1) 0 i (by decide) (by decide) (by decide) (Same.rf _) (Same.rf _) ?_ ?_
      · refine gd_ild1 dX8_without_0 ?_
        refine gd_ic4 dX8_without_1 ?_
        refine gd_cS2i dX8_without_2 ct_8_48 ⟨Nat.le_of_ble_eq_true rfl, Nat.le_of_ble_eq_true rfl⟩ (Nat.le_of_ble_eq_true rfl) (Nat.le_of_ble_eq_true rfl) (c_isBelow_t hd (by decide) _) ?_
        refine gd_if_eq_f 16 dX8_without_5 (by decide) (by decide) ?_
        refine gd_ald0 dX8_without_8 (by decide) ?_
        refine gd_ild2 dX8_without_9 ?_
        refine gd_cV1i dX8_without_10 ct_8_142 rc_0 ⟨Nat.le_of_ble_eq_true rfl, Nat.le_of_ble_eq_true rfl⟩ (Nat.le_of_ble_eq_true rfl) (Nat.le_of_ble_eq_true rfl) (c_isLetter_f i.w i.c hb) ?_
        refine gd_if_ne_f 23 dX8_without_13 (by decide) (by decide) ?_
        refine gd_ald0 dX8_without_16 (by decide) ?_
        refine gd_ldc dX8_without_17 ld_8_52 ?_
        refine gd_cV1i dX8_without_19 ct_8_53 rc_0 ⟨Nat.le_of_ble_eq_true rfl, Nat.le_of_ble_eq_true rfl⟩ (Nat.le_of_ble_eq_true rfl) (Nat.le_of_ble_eq_true rfl) (c_f0 _) ?_
        refine gd_iret dX8_without_22 rfl rfl ?_
        rfl
      · refine gd_ild1 dX9_without_0 ?_
        refine gd_cS1i dX9_without_1 ct_9_259 ⟨Nat.le_of_ble_eq_true rfl, Nat.le_of_ble_eq_true rfl⟩ (Nat.le_of_ble_eq_true rfl) (Nat.le_of_ble_eq_true rfl) (m_isDepth_t hd _) ?_
        refine gd_if_eq_f 15 dX9_without_4 (by decide) (by decide) ?_
        refine gd_ald0 dX9_without_7 (by decide) ?_
        refine gd_ild2 dX9_without_8 ?_
        refine gd_cV1i dX9_without_9 ct_9_113 rc_72 ⟨Nat.le_of_ble_eq_true rfl, Nat.le_of_ble_eq_true rfl⟩ (Nat.le_of_ble_eq_true rfl) (Nat.le_of_ble_eq_true rfl) (m_isLetter_f (h := hf h 0) (by exact i.w) hb) ?_
        refine gd_if_ne_f 21 dX9_without_12 (by decide) (by decide) ?_
        refine gd_ald0 dX9_without_15 (by decide) ?_
        refine gd_ic1 dX9_without_16 ?_
        refine gd_cV1i dX9_without_17 ct_9_97 rc_72 ⟨Nat.le_of_ble_eq_true rfl, Nat.le_of_ble_eq_true rfl⟩ (Nat.le_of_ble_eq_true rfl) (Nat.le_of_ble_eq_true rfl) (m_f0 _) ?_
        refine gd_iret dX9_without_20 rfl rfl ?_
        rfl
  · refine Pas.find (h1 := h) (h2 := hf (h) 0) (v := -1000000001) (w := (-1000000000 : Int32) - nI 1) 0 i (by decide) (by decide) (by decide) (Same.rf _) (Same.rf _) ?_ ?_
    · refine gd_ild1 dX8_without_0 ?_
      refine gd_ic4 dX8_without_1 ?_
      refine gd_cS2i dX8_without_2 ct_8_48 ⟨Nat.le_of_ble_eq_true rfl, Nat.le_of_ble_eq_true rfl⟩ (Nat.le_of_ble_eq_true rfl) (Nat.le_of_ble_eq_true rfl) (c_isBelow_f ha _) ?_
      refine gd_if_eq_t 16 dX8_without_5 (by decide) (by decide) ?_
      refine gd_ald0 dX8_without_16 (by decide) ?_
      refine gd_ldc dX8_without_17 ld_8_52 ?_
      refine gd_cV1i dX8_without_19 ct_8_53 rc_0 ⟨Nat.le_of_ble_eq_true rfl, Nat.le_of_ble_eq_true rfl⟩ (Nat.le_of_ble_eq_true rfl) (Nat.le_of_ble_eq_true rfl) (c_f0 _) ?_
      refine gd_iret dX8_without_22 rfl rfl ?_
      rfl
    · refine gd_ild1 dX9_without_0 ?_
      refine gd_cS1i dX9_without_1 ct_9_259 ⟨Nat.le_of_ble_eq_true rfl, Nat.le_of_ble_eq_true rfl⟩ (Nat.le_of_ble_eq_true rfl) (Nat.le_of_ble_eq_true rfl) (m_isDepth_f ha _) ?_
      refine gd_if_eq_t 15 dX9_without_4 (by decide) (by decide) ?_
      refine gd_ald0 dX9_without_15 (by decide) ?_
      refine gd_ic1 dX9_without_16 ?_
      refine gd_cV1i dX9_without_17 ct_9_97 rc_72 ⟨Nat.le_of_ble_eq_true rfl, Nat.le_of_ble_eq_true rfl⟩ (Nat.le_of_ble_eq_true rfl) (Nat.le_of_ble_eq_true rfl) (m_f0 _) ?_
      refine gd_iret dX9_without_20 rfl rfl ?_
      rfl
set_option maxHeartbeats 1000000 in
theorem p_odds {h : Hp} (i : Inv h) (a b : Int32) : Pas mX8_odds mX9_odds [.ref 0, .int a, .int b] [.ref 72, .int a, .int b] h := by
  rcases rng a (4) (by decide) with ⟨d, hd, rfl⟩ | ha
  · by_cases hb : b = -1
    · subst hb
      obtain ⟨h1, gt, f1, v1⟩ := c_take i.w i.c (-1)
      have c1 := f1.cr i.c
      obtain ⟨h3, g3, f3, v3, r3⟩ := c_weighGrid i.w v1 hd
      have e1 : ms (h3) = ms h := (f1.tr f3).same.msE
      obtain ⟨h2, gp, f2, v2⟩ := m_prepare (h := h3) (by rw [e1]; exact i.w) (-1)
      rw [e1] at v2
      obtain ⟨h4, gs, sw⟩ := m_sweep i.w v2 hd
      refine Pas.read (h1 := h3) (h2 := h4) (r := .long (lN (alN (ms h) (-1) d))) i rfl (f1.tr f3).same (f2.tr sw.1).same ?_ ?_
      · refine gd_ild1 dX8_odds_0 ?_
        refine gd_ic4 dX8_odds_1 ?_
        refine gd_cS2i dX8_odds_2 ct_8_48 ⟨Nat.le_of_ble_eq_true rfl, Nat.le_of_ble_eq_true rfl⟩ (Nat.le_of_ble_eq_true rfl) (Nat.le_of_ble_eq_true rfl) (c_isBelow_t hd (by decide) _) ?_
        refine gd_if_eq_f 23 dX8_odds_5 (by decide) (by decide) ?_
        refine gd_ild2 dX8_odds_8 ?_
        refine gd_icm1 dX8_odds_9 ?_
        refine gd_icmp_eq_t 31 dX8_odds_10 (by decide) (rfl) ?_
        refine gd_ald0 dX8_odds_31 (by decide) ?_
        refine gd_getR (r := 60) dX8_odds_32 fl_8_40 rfl rfl rfl (by decide) ?_
        refine gd_ald0 dX8_odds_35 (by decide) ?_
        refine gd_getR (r := 1) dX8_odds_36 fl_8_12 rfl rfl rfl (by decide) ?_
        refine gd_icm1 dX8_odds_39 ?_
        refine gd_cV2v dX8_odds_40 ct_8_211 rc_60 ⟨Nat.le_of_ble_eq_true rfl, Nat.le_of_ble_eq_true rfl⟩ (Nat.le_of_ble_eq_true rfl) (Nat.le_of_ble_eq_true rfl) (gt) ?_
        refine gd_ild2 dX8_odds_43 ?_
        refine gd_icm1 dX8_odds_44 ?_
        refine gd_icmp_ne_f 59 dX8_odds_45 (by decide) (rfl) ?_
        refine gd_ald0 dX8_odds_48 (by decide) ?_
        refine gd_getR (r := 60) dX8_odds_49 fl_8_40 rfl rfl rfl (by decide) ?_
        refine gd_ild1 dX8_odds_52 ?_
        refine gd_cV1l dX8_odds_53 ct_8_259 rc_60 ⟨Nat.le_of_ble_eq_true rfl, Nat.le_of_ble_eq_true rfl⟩ (Nat.le_of_ble_eq_true rfl) (Nat.le_of_ble_eq_true rfl) (g3) ?_
        refine gd_goto 68 dX8_odds_56 (by decide) ?_
        refine gd_lret dX8_odds_68 rfl ?_
        rfl
      · refine gd_ild1 dX9_odds_0 ?_
        refine gd_cS1i dX9_odds_1 ct_9_259 ⟨Nat.le_of_ble_eq_true rfl, Nat.le_of_ble_eq_true rfl⟩ (Nat.le_of_ble_eq_true rfl) (Nat.le_of_ble_eq_true rfl) (m_isDepth_t hd _) ?_
        refine gd_if_eq_f 19 dX9_odds_4 (by decide) (by decide) ?_
        refine gd_ild2 dX9_odds_7 ?_
        refine gd_icm1 dX9_odds_8 ?_
        refine gd_icmp_eq_t 26 dX9_odds_9 (by decide) (rfl) ?_
        refine gd_ald0 dX9_odds_26 (by decide) ?_
        refine gd_icm1 dX9_odds_27 ?_
        refine gd_cV1v dX9_odds_28 ct_9_216 rc_72 ⟨Nat.le_of_ble_eq_true rfl, Nat.le_of_ble_eq_true rfl⟩ (Nat.le_of_ble_eq_true rfl) (Nat.le_of_ble_eq_true rfl) (gp) ?_
        refine gd_ald0 dX9_odds_31 (by decide) ?_
        refine gd_ild1 dX9_odds_32 ?_
        refine gd_cV1v dX9_odds_33 ct_9_262 rc_72 ⟨Nat.le_of_ble_eq_true rfl, Nat.le_of_ble_eq_true rfl⟩ (Nat.le_of_ble_eq_true rfl) (Nat.le_of_ble_eq_true rfl) (gs) ?_
        refine gd_ild2 dX9_odds_36 ?_
        refine gd_if_ge_f 47 dX9_odds_37 (by decide) (by decide) ?_
        refine gd_ald0 dX9_odds_40 (by decide) ?_
        refine gd_getJ dX9_odds_41 fl_9_250 rfl rfl ?_
        rw [sw.2.2.2.1]
        refine gd_goto 53 dX9_odds_44 (by decide) ?_
        refine gd_lret dX9_odds_53 rfl ?_
        rfl
    · rcases rng b (144) (by decide) with ⟨c, hc, rfl⟩ | hbb
      · obtain ⟨h1, gt, f1, v1⟩ := c_take i.w i.c (-1)
        have c1 := f1.cr i.c
        obtain ⟨h3, g3, f3⟩ := c_weighCell i.w v1 hc hd
        have e1 : ms (h3) = ms h := (f1.tr f3.fs).same.msE
        obtain ⟨h2, gp, f2, v2⟩ := m_prepare (h := h3) (by rw [e1]; exact i.w) (-1)
        rw [e1] at v2
        obtain ⟨h4, gs, sw⟩ := m_sweep i.w v2 hd
        refine Pas.read (h1 := h3) (h2 := h4) (r := .long (lN (owN (ms h) (-1) d c))) i rfl (f1.tr f3.fs).same (f2.tr sw.1).same ?_ ?_
        · refine gd_ild1 dX8_odds_0 ?_
          refine gd_ic4 dX8_odds_1 ?_
          refine gd_cS2i dX8_odds_2 ct_8_48 ⟨Nat.le_of_ble_eq_true rfl, Nat.le_of_ble_eq_true rfl⟩ (Nat.le_of_ble_eq_true rfl) (Nat.le_of_ble_eq_true rfl) (c_isBelow_t hd (by decide) _) ?_
          refine gd_if_eq_f 23 dX8_odds_5 (by decide) (by decide) ?_
          refine gd_ild2 dX8_odds_8 ?_
          refine gd_icm1 dX8_odds_9 ?_
          refine gd_icmp_eq_f 31 dX8_odds_10 (by decide) (hb) ?_
          refine gd_ild2 dX8_odds_13 ?_
          refine gd_sipush (v := nI 144) dX8_odds_14 (by decide) ?_
          refine gd_cS2i dX8_odds_17 ct_8_48 ⟨Nat.le_of_ble_eq_true rfl, Nat.le_of_ble_eq_true rfl⟩ (Nat.le_of_ble_eq_true rfl) (Nat.le_of_ble_eq_true rfl) (c_isBelow_t hc (by decide) _) ?_
          refine gd_if_ne_t 31 dX8_odds_20 (by decide) (by decide) ?_
          refine gd_ald0 dX8_odds_31 (by decide) ?_
          refine gd_getR (r := 60) dX8_odds_32 fl_8_40 rfl rfl rfl (by decide) ?_
          refine gd_ald0 dX8_odds_35 (by decide) ?_
          refine gd_getR (r := 1) dX8_odds_36 fl_8_12 rfl rfl rfl (by decide) ?_
          refine gd_icm1 dX8_odds_39 ?_
          refine gd_cV2v dX8_odds_40 ct_8_211 rc_60 ⟨Nat.le_of_ble_eq_true rfl, Nat.le_of_ble_eq_true rfl⟩ (Nat.le_of_ble_eq_true rfl) (Nat.le_of_ble_eq_true rfl) (gt) ?_
          refine gd_ild2 dX8_odds_43 ?_
          refine gd_icm1 dX8_odds_44 ?_
          refine gd_icmp_ne_t 59 dX8_odds_45 (by decide) (hb) ?_
          refine gd_ald0 dX8_odds_59 (by decide) ?_
          refine gd_getR (r := 60) dX8_odds_60 fl_8_40 rfl rfl rfl (by decide) ?_
          refine gd_ild2 dX8_odds_63 ?_
          refine gd_ild1 dX8_odds_64 ?_
          refine gd_cV2l dX8_odds_65 ct_8_263 rc_60 ⟨Nat.le_of_ble_eq_true rfl, Nat.le_of_ble_eq_true rfl⟩ (Nat.le_of_ble_eq_true rfl) (Nat.le_of_ble_eq_true rfl) (g3) ?_
          refine gd_lret dX8_odds_68 rfl ?_
          rfl
        · refine gd_ild1 dX9_odds_0 ?_
          refine gd_cS1i dX9_odds_1 ct_9_259 ⟨Nat.le_of_ble_eq_true rfl, Nat.le_of_ble_eq_true rfl⟩ (Nat.le_of_ble_eq_true rfl) (Nat.le_of_ble_eq_true rfl) (m_isDepth_t hd _) ?_
          refine gd_if_eq_f 19 dX9_odds_4 (by decide) (by decide) ?_
          refine gd_ild2 dX9_odds_7 ?_
          refine gd_icm1 dX9_odds_8 ?_
          refine gd_icmp_eq_f 26 dX9_odds_9 (by decide) (hb) ?_
          refine gd_ild2 dX9_odds_12 ?_
          refine gd_cS1i dX9_odds_13 ct_9_93 ⟨Nat.le_of_ble_eq_true rfl, Nat.le_of_ble_eq_true rfl⟩ (Nat.le_of_ble_eq_true rfl) (Nat.le_of_ble_eq_true rfl) (m_isCell_t hc _) ?_
          refine gd_if_ne_t 26 dX9_odds_16 (by decide) (by decide) ?_
          refine gd_ald0 dX9_odds_26 (by decide) ?_
          refine gd_icm1 dX9_odds_27 ?_
          refine gd_cV1v dX9_odds_28 ct_9_216 rc_72 ⟨Nat.le_of_ble_eq_true rfl, Nat.le_of_ble_eq_true rfl⟩ (Nat.le_of_ble_eq_true rfl) (Nat.le_of_ble_eq_true rfl) (gp) ?_
          refine gd_ald0 dX9_odds_31 (by decide) ?_
          refine gd_ild1 dX9_odds_32 ?_
          refine gd_cV1v dX9_odds_33 ct_9_262 rc_72 ⟨Nat.le_of_ble_eq_true rfl, Nat.le_of_ble_eq_true rfl⟩ (Nat.le_of_ble_eq_true rfl) (Nat.le_of_ble_eq_true rfl) (gs) ?_
          refine gd_ild2 dX9_odds_36 ?_
          refine gd_if_ge_t 47 dX9_odds_37 (by decide) (by exact nI_pos' (by omega)) ?_
          refine gd_ald0 dX9_odds_47 (by decide) ?_
          refine gd_getR (r := 88) dX9_odds_48 fl_9_56 rfl rfl rfl (by decide) ?_
          refine gd_ild2 dX9_odds_51 ?_
          refine gd_lald (n := 144) dX9_odds_52 rfl (by decide) (by repeat' (first | with_reducible rfl | apply ni_add | apply ni_mul)) (by omega) ?_
          rw [sw.2.2.1 c hc]
          refine gd_lret dX9_odds_53 rfl ?_
          rfl
      · refine Pas.findV (h1 := h) (h2 := hf (h) 0) (r := .long (-1000000001 : Int32).toInt64) (r2 := .long ((-1000000000 : Int32) - nI 1).toInt64) 0 i (by decide) (by decide) (Same.rf _) (Same.rf _) ?_ ?_
        · refine gd_ild1 dX8_odds_0 ?_
          refine gd_ic4 dX8_odds_1 ?_
          refine gd_cS2i dX8_odds_2 ct_8_48 ⟨Nat.le_of_ble_eq_true rfl, Nat.le_of_ble_eq_true rfl⟩ (Nat.le_of_ble_eq_true rfl) (Nat.le_of_ble_eq_true rfl) (c_isBelow_t hd (by decide) _) ?_
          refine gd_if_eq_f 23 dX8_odds_5 (by decide) (by decide) ?_
          refine gd_ild2 dX8_odds_8 ?_
          refine gd_icm1 dX8_odds_9 ?_
          refine gd_icmp_eq_f 31 dX8_odds_10 (by decide) (hb) ?_
          refine gd_ild2 dX8_odds_13 ?_
          refine gd_sipush (v := nI 144) dX8_odds_14 (by decide) ?_
          refine gd_cS2i dX8_odds_17 ct_8_48 ⟨Nat.le_of_ble_eq_true rfl, Nat.le_of_ble_eq_true rfl⟩ (Nat.le_of_ble_eq_true rfl) (Nat.le_of_ble_eq_true rfl) (c_isBelow_f hbb _) ?_
          refine gd_if_ne_f 31 dX8_odds_20 (by decide) (by decide) ?_
          refine gd_ald0 dX8_odds_23 (by decide) ?_
          refine gd_ldc dX8_odds_24 ld_8_52 ?_
          refine gd_cV1i dX8_odds_26 ct_8_53 rc_0 ⟨Nat.le_of_ble_eq_true rfl, Nat.le_of_ble_eq_true rfl⟩ (Nat.le_of_ble_eq_true rfl) (Nat.le_of_ble_eq_true rfl) (c_f0 _) ?_
          refine gd_i2l dX8_odds_29 ?_
          refine gd_lret dX8_odds_30 rfl ?_
          rfl
        · refine gd_ild1 dX9_odds_0 ?_
          refine gd_cS1i dX9_odds_1 ct_9_259 ⟨Nat.le_of_ble_eq_true rfl, Nat.le_of_ble_eq_true rfl⟩ (Nat.le_of_ble_eq_true rfl) (Nat.le_of_ble_eq_true rfl) (m_isDepth_t hd _) ?_
          refine gd_if_eq_f 19 dX9_odds_4 (by decide) (by decide) ?_
          refine gd_ild2 dX9_odds_7 ?_
          refine gd_icm1 dX9_odds_8 ?_
          refine gd_icmp_eq_f 26 dX9_odds_9 (by decide) (hb) ?_
          refine gd_ild2 dX9_odds_12 ?_
          refine gd_cS1i dX9_odds_13 ct_9_93 ⟨Nat.le_of_ble_eq_true rfl, Nat.le_of_ble_eq_true rfl⟩ (Nat.le_of_ble_eq_true rfl) (Nat.le_of_ble_eq_true rfl) (m_isCell_f hbb _) ?_
          refine gd_if_ne_f 26 dX9_odds_16 (by decide) (by decide) ?_
          refine gd_ald0 dX9_odds_19 (by decide) ?_
          refine gd_ic1 dX9_odds_20 ?_
          refine gd_cV1i dX9_odds_21 ct_9_97 rc_72 ⟨Nat.le_of_ble_eq_true rfl, Nat.le_of_ble_eq_true rfl⟩ (Nat.le_of_ble_eq_true rfl) (Nat.le_of_ble_eq_true rfl) (m_f0 _) ?_
          refine gd_i2l dX9_odds_24 ?_
          refine gd_lret dX9_odds_25 rfl ?_
          rfl
  · refine Pas.findV (h1 := h) (h2 := hf (h) 0) (r := .long (-1000000001 : Int32).toInt64) (r2 := .long ((-1000000000 : Int32) - nI 1).toInt64) 0 i (by decide) (by decide) (Same.rf _) (Same.rf _) ?_ ?_
    · refine gd_ild1 dX8_odds_0 ?_
      refine gd_ic4 dX8_odds_1 ?_
      refine gd_cS2i dX8_odds_2 ct_8_48 ⟨Nat.le_of_ble_eq_true rfl, Nat.le_of_ble_eq_true rfl⟩ (Nat.le_of_ble_eq_true rfl) (Nat.le_of_ble_eq_true rfl) (c_isBelow_f ha _) ?_
      refine gd_if_eq_t 23 dX8_odds_5 (by decide) (by decide) ?_
      refine gd_ald0 dX8_odds_23 (by decide) ?_
      refine gd_ldc dX8_odds_24 ld_8_52 ?_
      refine gd_cV1i dX8_odds_26 ct_8_53 rc_0 ⟨Nat.le_of_ble_eq_true rfl, Nat.le_of_ble_eq_true rfl⟩ (Nat.le_of_ble_eq_true rfl) (Nat.le_of_ble_eq_true rfl) (c_f0 _) ?_
      refine gd_i2l dX8_odds_29 ?_
      refine gd_lret dX8_odds_30 rfl ?_
      rfl
    · refine gd_ild1 dX9_odds_0 ?_
      refine gd_cS1i dX9_odds_1 ct_9_259 ⟨Nat.le_of_ble_eq_true rfl, Nat.le_of_ble_eq_true rfl⟩ (Nat.le_of_ble_eq_true rfl) (Nat.le_of_ble_eq_true rfl) (m_isDepth_f ha _) ?_
      refine gd_if_eq_t 19 dX9_odds_4 (by decide) (by decide) ?_
      refine gd_ald0 dX9_odds_19 (by decide) ?_
      refine gd_ic1 dX9_odds_20 ?_
      refine gd_cV1i dX9_odds_21 ct_9_97 rc_72 ⟨Nat.le_of_ble_eq_true rfl, Nat.le_of_ble_eq_true rfl⟩ (Nat.le_of_ble_eq_true rfl) (Nat.le_of_ble_eq_true rfl) (m_f0 _) ?_
      refine gd_i2l dX9_odds_24 ?_
      refine gd_lret dX9_odds_25 rfl ?_
      rfl

def xmN (f : Nat → Nat) : Nat → Nat
  | 0 => 0
  | n + 1 => if f (xmN f n) < f n then n else xmN f n
theorem xm_ok (f : Nat → Nat) : ∀ n, 1 ≤ n → xmN f n < n ∧ (∀ k, k < n → f k ≤ f (xmN f n)) ∧ ∀ k, k < xmN f n → f k < f (xmN f n) := by
  intro n
  induction n with
  | zero => omega
  | succ n ih =>
    intro _
    by_cases e : n = 0
    · subst e
      have h0 : xmN f (0 + 1) = 0 := by rw [xmN]; exact if_neg (Nat.lt_irrefl _)
      rw [h0]
      exact ⟨by omega, fun k hk => by rw [show k = 0 by omega]; exact Nat.le_refl _, fun k hk => absurd hk (by omega)⟩
    · obtain ⟨a, b, c⟩ := ih (by omega)
      rw [xmN]
      by_cases q : f (xmN f n) < f n
      · rw [if_pos q]
        refine ⟨by omega, fun k hk => ?_, fun k hk => ?_⟩
        · by_cases z : k = n
          · rw [z]; exact Nat.le_refl _
          · have := b k (by omega); omega
        · have := b k hk; omega
      · rw [if_neg q]
        refine ⟨by omega, fun k hk => ?_, c⟩
        by_cases z : k = n
        · rw [z]; omega
        · exact b k (by omega)
def tkA (w : Nat → Nat) (T : Nat → Bool) (c : Nat) : Nat := if T c = true then 0 else w c
def tkB (w : Nat → Nat) (T : Nat → Bool) (c : Nat) : Nat := if T c = true then 0 else w c + 1
def inT (T : Nat → Bool) (m : Nat) : Nat → Bool := fun c => T c || decide (m = c)
def hdN (w : Nat → Nat) (T : Nat → Bool) : Nat → Nat := sumN (fun c => if T c = true then w c else 0)
theorem hd_le (w : Nat → Nat) (T : Nat → Bool) : ∀ n, hdN w T n ≤ sumN w n := by
  intro n
  induction n with
  | zero => exact Nat.le_refl _
  | succ n ih =>
    show hdN w T n + (if T n = true then w n else 0) ≤ sumN w n + w n
    split <;> omega
theorem hd_all {w : Nat → Nat} {T : Nat → Bool} : ∀ n, (∀ c, c < n → T c = true ∨ w c = 0) → hdN w T n = sumN w n := by
  intro n
  induction n with
  | zero => exact fun _ => rfl
  | succ n ih =>
    intro h
    show hdN w T n + (if T n = true then w n else 0) = sumN w n + w n
    rw [ih (fun c hc => h c (by omega))]
    rcases h n (by omega) with e | e
    · rw [if_pos e]
    · rw [e]; split <;> rfl
theorem hd_ex {w : Nat → Nat} {T : Nat → Bool} {n : Nat} (h : hdN w T n < sumN w n) : ∃ c, c < n ∧ T c = false ∧ 1 ≤ w c := by
  apply Classical.byContradiction
  intro q
  have := hd_all (w := w) (T := T) n (fun c hc => by
    cases e : T c with
    | true => exact Or.inl rfl
    | false =>
      right
      apply Classical.byContradiction
      intro z
      exact q ⟨c, hc, e, by omega⟩)
  omega
theorem hd_in {w : Nat → Nat} {T : Nat → Bool} {m : Nat} : ∀ n, hdN w (inT T m) n = hdN w T n + (if m < n then tkA w T m else 0) := by
  intro n
  induction n with
  | zero => rfl
  | succ n ih =>
    show hdN w (inT T m) n + (if inT T m n = true then w n else 0) = hdN w T n + (if T n = true then w n else 0) + _
    rw [ih]
    by_cases e : m = n
    · subst e
      rw [if_neg (Nat.lt_irrefl _), if_pos (Nat.lt_succ_self _)]
      unfold inT tkA
      cases T m <;> simp
    · have en : inT T m n = T n := by unfold inT; rw [decide_eq_false e, Bool.or_false]
      rw [en]
      by_cases q : m < n
      · rw [if_pos q, if_pos (show m < n + 1 by omega)]; omega
      · rw [if_neg q, if_neg (show ¬ m < n + 1 by omega)]; omega
theorem tkA_f {w : Nat → Nat} {T : Nat → Bool} {c : Nat} (h : T c = false) : tkA w T c = w c := by unfold tkA; rw [h]; rfl
theorem tkA_in {w : Nat → Nat} {T : Nat → Bool} {m c : Nat} : tkA w (inT T m) c = if c = m then 0 else tkA w T c := by
  unfold tkA inT
  by_cases e : c = m
  · rw [if_pos e, decide_eq_true e.symm, Bool.or_true, if_pos rfl]
  · rw [if_neg e, decide_eq_false (Ne.symm e), Bool.or_false]
theorem xm_same {w : Nat → Nat} {T : Nat → Bool} {n : Nat} (hn : 1 ≤ n) (h : ∃ c, c < n ∧ T c = false ∧ 1 ≤ w c) : xmN (tkB w T) n = xmN (tkA w T) n ∧ T (xmN (tkA w T) n) = false := by
  obtain ⟨a1, a2, a3⟩ := xm_ok (tkA w T) n hn
  obtain ⟨b1, b2, b3⟩ := xm_ok (tkB w T) n hn
  generalize xmN (tkA w T) n = m at *
  generalize xmN (tkB w T) n = y at *
  obtain ⟨c, c1, c2, c3⟩ := h
  have am : 1 ≤ tkA w T m := by have := a2 c c1; have e : tkA w T c = w c := by unfold tkA; rw [c2]; rfl
                                omega
  have tm : T m = false := by
    cases e : T m with
    | false => rfl
    | true => unfold tkA at am; rw [e, if_pos rfl] at am; omega
  have em : tkB w T m = tkA w T m + 1 := by unfold tkA tkB; rw [tm]; rfl
  have le : ∀ k, tkB w T k ≤ tkA w T k + 1 := by intro k; unfold tkA tkB; split <;> omega
  have zz : ∀ k, tkA w T k < tkA w T m → tkB w T k < tkB w T m := by intro k hk; have := le k; omega
  refine ⟨?_, tm⟩
  by_cases q : y = m
  · exact q
  · by_cases q2 : y < m
    · have h1 := zz y (a3 y q2)
      have h2 := b2 m a1
      omega
    · have h1 := b3 m (by omega)
      have h2 := le y
      have h3 := a2 y b1
      omega
def nwN (w : Nat → Nat) (P A : Nat) : Nat → (Nat → Bool) → Nat → Nat
  | 0, _, j => j
  | f + 1, T, j => if 100 * hdN w T 144 < P * A then nwN w P A f (inT T (xmN (tkA w T) 144)) (j + 1) else j

theorem c_takeWeight {m : Nat} (hm : m < 144) (h : Hp) : Gd mX4_takeWeight 0 [.ref 60, .int (nI m), .null, .null] [] h (some (.long (h.2 69 m)), sL h 69 (vp_updL (h.2 69) m (lN 0))) := by
  refine gd_ald0 dX4_takeWeight_0 (by decide) ?_
  refine gd_getR (r := 69) dX4_takeWeight_1 fl_4_36 rfl rfl rfl (by decide) ?_
  refine gd_ild1 dX4_takeWeight_4 ?_
  refine gd_lald (n := 144) dX4_takeWeight_5 rfl (by decide) (by repeat' (first | with_reducible rfl | apply ni_add | apply ni_mul)) (by omega) ?_
  refine gd_lst2 dX4_takeWeight_6 rfl ?_
  refine gd_ald0 dX4_takeWeight_7 (by decide) ?_
  refine gd_getR (r := 69) dX4_takeWeight_8 fl_4_36 rfl rfl rfl (by decide) ?_
  refine gd_ild1 dX4_takeWeight_11 ?_
  refine gd_lc0 dX4_takeWeight_12 ?_
  refine gd_last (n := 144) dX4_takeWeight_13 rfl (by decide) (by repeat' (first | with_reducible rfl | apply ni_add | apply ni_mul)) (by omega) ?_
  refine gd_lld2 dX4_takeWeight_14 ?_
  refine gd_lret dX4_takeWeight_15 rfl ?_
  rfl
theorem c_heaviest {h : Hp} {f : Nat → Nat} (hf : ∀ c, c < 144 → h.2 69 c = lN (f c) ∧ f c < 2 ^ 31) : Gd mX4_heaviestCell 0 [.ref 60, .null, .null] [] h (some (.int (nI (xmN f 144))), h) := by
  have x1 : xmN f 1 = 0 := by rw [xmN]; exact if_neg (Nat.lt_irrefl _)
  have key := loopG (P := fun c => 1 ≤ c → Gd mX4_heaviestCell 4 [.ref 60, .int (nI (xmN f c)), .int (nI c)] [] h (some (.int (nI (xmN f 144))), h)) (n := 144) ?_ ?_ 1 (by decide) (Nat.le_refl _)
  · rw [x1] at key
    refine gd_ic0 dX4_heaviestCell_0 ?_
    refine gd_ist1 dX4_heaviestCell_1 rfl ?_
    refine gd_ic1 dX4_heaviestCell_2 ?_
    refine gd_ist2 dX4_heaviestCell_3 rfl ?_
    exact key
  · intro _
    refine gd_ild2 dX4_heaviestCell_4 ?_
    refine gd_sipush (v := nI 144) dX4_heaviestCell_5 (by decide) ?_
    refine gd_icmp_ge_t 35 dX4_heaviestCell_8 (by decide) (by exact nI_le (by omega) (by omega)) ?_
    refine gd_ild1 dX4_heaviestCell_35 ?_
    refine gd_iret dX4_heaviestCell_36 rfl rfl ?_
    rfl
  · intro c hc ih c1
    have ih := ih (by omega)
    have xl := (xm_ok f c c1).1
    have a1 := hf c hc
    have b1 := hf (xmN f c) (by omega)
    by_cases q : f (xmN f c) < f c
    · rw [show xmN f (c + 1) = c from if_pos q] at ih
      refine gd_ild2 dX4_heaviestCell_4 ?_
      refine gd_sipush (v := nI 144) dX4_heaviestCell_5 (by decide) ?_
      refine gd_icmp_ge_f 35 dX4_heaviestCell_8 (by decide) (by exact nI_ge (by omega) (by omega)) ?_
      refine gd_ald0 dX4_heaviestCell_11 (by decide) ?_
      refine gd_getR (r := 69) dX4_heaviestCell_12 fl_4_36 rfl rfl rfl (by decide) ?_
      refine gd_ild2 dX4_heaviestCell_15 ?_
      refine gd_lald (n := 144) dX4_heaviestCell_16 rfl (by decide) (by repeat' (first | with_reducible rfl | apply ni_add | apply ni_mul)) (by omega) ?_
      rw [a1.1]
      refine gd_ald0 dX4_heaviestCell_17 (by decide) ?_
      refine gd_getR (r := 69) dX4_heaviestCell_18 fl_4_36 rfl rfl rfl (by decide) ?_
      refine gd_ild1 dX4_heaviestCell_21 ?_
      refine gd_lald (n := 144) dX4_heaviestCell_22 rfl (by decide) (by repeat' (first | with_reducible rfl | apply ni_add | apply ni_mul)) (by omega) ?_
      rw [b1.1]
      refine gd_lcmp dX4_heaviestCell_23 ?_
      refine gd_if_le_f 29 dX4_heaviestCell_24 (by decide) (fun z => absurd ((lN_le a1.2 b1.2).mp ((lg_cmp_le _ _).mp z)) (by omega)) ?_
      refine gd_ild2 dX4_heaviestCell_27 ?_
      refine gd_ist1 dX4_heaviestCell_28 rfl ?_
      refine gd_iinc2 (b := nI 1) dX4_heaviestCell_29 (by decide) rfl ?_
      rw [nI_add]
      refine gd_goto 4 dX4_heaviestCell_32 (by decide) ?_
      exact ih
    · rw [show xmN f (c + 1) = xmN f c from if_neg q] at ih
      refine gd_ild2 dX4_heaviestCell_4 ?_
      refine gd_sipush (v := nI 144) dX4_heaviestCell_5 (by decide) ?_
      refine gd_icmp_ge_f 35 dX4_heaviestCell_8 (by decide) (by exact nI_ge (by omega) (by omega)) ?_
      refine gd_ald0 dX4_heaviestCell_11 (by decide) ?_
      refine gd_getR (r := 69) dX4_heaviestCell_12 fl_4_36 rfl rfl rfl (by decide) ?_
      refine gd_ild2 dX4_heaviestCell_15 ?_
      refine gd_lald (n := 144) dX4_heaviestCell_16 rfl (by decide) (by repeat' (first | with_reducible rfl | apply ni_add | apply ni_mul)) (by omega) ?_
      rw [a1.1]
      refine gd_ald0 dX4_heaviestCell_17 (by decide) ?_
      refine gd_getR (r := 69) dX4_heaviestCell_18 fl_4_36 rfl rfl rfl (by decide) ?_
      refine gd_ild1 dX4_heaviestCell_21 ?_
      refine gd_lald (n := 144) dX4_heaviestCell_22 rfl (by decide) (by repeat' (first | with_reducible rfl | apply ni_add | apply ni_mul)) (by omega) ?_
      rw [b1.1]
      refine gd_lcmp dX4_heaviestCell_23 ?_
      refine gd_if_le_t 29 dX4_heaviestCell_24 (by decide) ((lg_cmp_le _ _).mpr ((lN_le a1.2 b1.2).mpr (by omega))) ?_
      refine gd_iinc2 (b := nI 1) dX4_heaviestCell_29 (by decide) rfl ?_
      rw [nI_add]
      refine gd_goto 4 dX4_heaviestCell_32 (by decide) ?_
      exact ih
theorem c_narrow {w : Nat → Nat} {d p A : Nat} (hw : ∀ c, w c < 2 ^ 31) (hA : A ≤ 6039797760) (hs : sumN w 144 = A) (hp : p ≤ 100) : ∀ (f j : Nat) (T : Nat → Bool) (h : Hp), j + f = 144 → (∀ c, c < 144 → h.2 69 c = lN (tkA w T c)) → ∃ h2, Gd mX8_narrow 64 [.ref 0, .int (nI d), .int (nI p), .long (lN A), .null, .long (lN (hdN w T 144)), .null, .int (nI j)] [] h (some (.int (nI (nwN w p A f T j))), h2) ∧ FS h h2 := by
  intro f
  induction f with
  | zero =>
    intro j T h hj hT
    rw [show j = 144 by omega]
    refine ⟨h, ?_, FS.rf h⟩
    refine gd_ild7 dX8_narrow_64 ?_
    refine gd_sipush (v := nI 144) dX8_narrow_66 (by decide) ?_
    refine gd_icmp_ge_t 114 dX8_narrow_69 (by decide) (by exact nI_le (by omega) (by omega)) ?_
    refine gd_sipush (v := nI 144) dX8_narrow_114 (by decide) ?_
    refine gd_iret dX8_narrow_117 rfl rfl ?_
    rfl
  | succ f ih =>
    intro j T h hj hT
    have hl := hd_le w T 144
    have pa : A * p ≤ 6039797760 * 100 := Nat.mul_le_mul hA hp
    have ta : ∀ c, tkA w T c < 2 ^ 31 := fun c => by have := hw c; unfold tkA; split <;> omega
    have xl := (xm_ok (tkA w T) 144 (by decide)).1
    have mc : A * p = p * A := Nat.mul_comm _ _
    by_cases q : 100 * hdN w T 144 < p * A
    · have eh : hdN w (inT T (xmN (tkA w T) 144)) 144 = hdN w T 144 + tkA w T (xmN (tkA w T) 144) := by rw [hd_in, if_pos xl]
      obtain ⟨h2, gg, f2⟩ := ih (j + 1) (inT T (xmN (tkA w T) 144)) (sL h 69 (vp_updL (h.2 69) (xmN (tkA w T) 144) (lN 0))) (by omega) (fun c hc => by
        rw [sL_s, updL_at, tkA_in]
        split
        · rfl
        · exact hT c hc)
      rw [show nwN w p A (f + 1) T j = nwN w p A f (inT T (xmN (tkA w T) 144)) (j + 1) from if_pos q]
      refine ⟨h2, ?_, (FS.rf h).sl.tr f2⟩
      refine gd_ild7 dX8_narrow_64 ?_
      refine gd_sipush (v := nI 144) dX8_narrow_66 (by decide) ?_
      refine gd_icmp_ge_f 114 dX8_narrow_69 (by decide) (by exact nI_ge (by omega) (by omega)) ?_
      refine gd_lld5 dX8_narrow_72 ?_
      refine gd_ldc2 dX8_narrow_74 l2_8_269 ?_
      refine gd_lmul dX8_narrow_77 ?_
      rw [lN_mul]
      refine gd_lld3 dX8_narrow_78 ?_
      refine gd_ild2 dX8_narrow_79 ?_
      refine gd_i2l dX8_narrow_80 ?_
      rw [i2l_n (by omega)]
      refine gd_lmul dX8_narrow_81 ?_
      rw [lN_mul]
      refine gd_lcmp dX8_narrow_82 ?_
      refine gd_if_lt_t 89 dX8_narrow_83 (by decide) ((lg_cmp_lt _ _).mpr ((pk_lLT (by omega) (by omega)).mpr (by omega))) ?_
      refine gd_lld5 dX8_narrow_89 ?_
      refine gd_ald0 dX8_narrow_91 (by decide) ?_
      refine gd_getR (r := 60) dX8_narrow_92 fl_8_40 rfl rfl rfl (by decide) ?_
      refine gd_ald0 dX8_narrow_95 (by decide) ?_
      refine gd_getR (r := 60) dX8_narrow_96 fl_8_40 rfl rfl rfl (by decide) ?_
      refine gd_cV0i dX8_narrow_99 ct_8_271 rc_60 ⟨Nat.le_of_ble_eq_true rfl, Nat.le_of_ble_eq_true rfl⟩ (Nat.le_of_ble_eq_true rfl) (Nat.le_of_ble_eq_true rfl) (c_heaviest (f := tkA w T) (fun c hc => ⟨hT c hc, ta c⟩)) ?_
      refine gd_cV1l dX8_narrow_102 ct_8_274 rc_60 ⟨Nat.le_of_ble_eq_true rfl, Nat.le_of_ble_eq_true rfl⟩ (Nat.le_of_ble_eq_true rfl) (Nat.le_of_ble_eq_true rfl) (c_takeWeight xl _) ?_
      rw [hT _ xl]
      refine gd_ladd dX8_narrow_105 ?_
      rw [lN_add, ← eh]
      refine gd_lst5 dX8_narrow_106 rfl ?_
      refine gd_iinc7 (b := nI 1) dX8_narrow_108 (by decide) rfl ?_
      rw [nI_add]
      refine gd_goto 64 dX8_narrow_111 (by decide) ?_
      exact gg
    · rw [show nwN w p A (f + 1) T j = j from if_neg q]
      refine ⟨h, ?_, FS.rf h⟩
      refine gd_ild7 dX8_narrow_64 ?_
      refine gd_sipush (v := nI 144) dX8_narrow_66 (by decide) ?_
      refine gd_icmp_ge_f 114 dX8_narrow_69 (by decide) (by exact nI_ge (by omega) (by omega)) ?_
      refine gd_lld5 dX8_narrow_72 ?_
      refine gd_ldc2 dX8_narrow_74 l2_8_269 ?_
      refine gd_lmul dX8_narrow_77 ?_
      rw [lN_mul]
      refine gd_lld3 dX8_narrow_78 ?_
      refine gd_ild2 dX8_narrow_79 ?_
      refine gd_i2l dX8_narrow_80 ?_
      rw [i2l_n (by omega)]
      refine gd_lmul dX8_narrow_81 ?_
      rw [lN_mul]
      refine gd_lcmp dX8_narrow_82 ?_
      refine gd_if_lt_f 89 dX8_narrow_83 (by decide) (fun z => absurd ((pk_lLT (by omega) (by omega)).mp ((lg_cmp_lt _ _).mp z)) (by omega)) ?_
      refine gd_ild7 dX8_narrow_86 ?_
      refine gd_iret dX8_narrow_88 rfl rfl ?_
      rfl

def tkL8 (w : Nat → Nat) (T : Nat → Bool) (c : Nat) : Int64 := if T c = true then -1 else lN (w c)
theorem tkL_le {w : Nat → Nat} {T : Nat → Bool} (hw : ∀ c, w c < 2 ^ 31) (a b : Nat) : tkL8 w T a ≤ tkL8 w T b ↔ tkB w T a ≤ tkB w T b := by
  have h1 := hw a
  have h2 := hw b
  have e : (-1 : Int64).toInt = -1 := by decide
  unfold tkL8 tkB
  rw [Int64.le_iff_toInt_le]
  split <;> split <;> simp only [e, pk_lT (show w a < 2 ^ 63 by omega), pk_lT (show w b < 2 ^ 63 by omega)] <;> omega
theorem tkL_in {w : Nat → Nat} {T : Nat → Bool} {m c : Nat} : tkL8 w (inT T m) c = if c = m then -1 else tkL8 w T c := by
  unfold tkL8 inT
  by_cases e : c = m
  · rw [if_pos e, decide_eq_true e.symm, Bool.or_true, if_pos rfl]
  · rw [if_neg e, decide_eq_false (Ne.symm e), Bool.or_false]
theorem cnt_in {T : Nat → Bool} {m : Nat} (hT : T m = false) : ∀ n, m < n → cntN (fun c => !(inT T m c)) n + 1 = cntN (fun c => !(T c)) n := by
  intro n
  induction n with
  | zero => exact fun h => absurd h (by omega)
  | succ n ih =>
    intro h
    show cntN (fun c => !(inT T m c)) n + (if (!(inT T m n)) = true then 1 else 0) + 1 = cntN (fun c => !(T c)) n + (if (!(T n)) = true then 1 else 0)
    by_cases e : m = n
    · subst e
      have z : cntN (fun c => !(inT T m c)) m = cntN (fun c => !(T c)) m := cntN_congr (fun k hk => by unfold inT; rw [decide_eq_false (by omega), Bool.or_false])
      rw [z]
      unfold inT
      rw [hT, decide_eq_true rfl]
      rfl
    · have := ih (by omega)
      unfold inT at *
      rw [decide_eq_false e, Bool.or_false]
      omega
theorem cnt_z {p : Nat → Bool} : ∀ n, cntN p n = 0 → ∀ k, k < n → p k = false := by
  intro n
  induction n with
  | zero => exact fun _ k hk => absurd hk (by omega)
  | succ n ih =>
    intro h k hk
    have h : cntN p n + (if p n = true then 1 else 0) = 0 := h
    by_cases e : k = n
    · rw [e]
      cases q : p n with
      | false => rfl
      | true => rw [q] at h; exact absurd h (by simp)
    · exact ih (by omega) k (by omega)

theorem m_nar1 {h : Hp} {w : Nat → Nat} {T : Nat → Bool} {d p j : Nat} {sm : Int64} (hw : ∀ c, w c < 2 ^ 31) (hT : ∀ c, c < 144 → h.2 88 c = tkL8 w T c) {x : Option Value × Hp} (k : Gd mX9_narrow 117 [.ref 72, .int (nI d), .int (nI p), .int (nI j), .long sm, .null, .int (nI (xmN (tkB w T) 144)), .int (nI 144)] [] h x) : Gd mX9_narrow 76 [.ref 72, .int (nI d), .int (nI p), .int (nI j), .long sm, .null, .int (nI 0), .int (nI 1)] [] h x := by
  have x1 : xmN (tkB w T) 1 = 0 := by rw [xmN]; exact if_neg (Nat.lt_irrefl _)
  have key := loopG (P := fun c => 1 ≤ c → Gd mX9_narrow 76 [.ref 72, .int (nI d), .int (nI p), .int (nI j), .long sm, .null, .int (nI (xmN (tkB w T) c)), .int (nI c)] [] h x) (n := 144) ?_ ?_ 1 (by decide) (Nat.le_refl _)
  · rw [x1] at key
    exact key
  · intro _
    refine gd_ild7 dX9_narrow_76 ?_
    refine gd_sipush (v := nI 144) dX9_narrow_78 (by decide) ?_
    refine gd_icmp_ge_t 117 dX9_narrow_81 (by decide) (by exact nI_le (by omega) (by omega)) ?_
    exact k
  · intro c hc ih c1
    have ih := ih (by omega)
    have xl := (xm_ok (tkB w T) c c1).1
    by_cases q : tkB w T (xmN (tkB w T) c) < tkB w T c
    · rw [show xmN (tkB w T) (c + 1) = c from if_pos q] at ih
      refine gd_ild7 dX9_narrow_76 ?_
      refine gd_sipush (v := nI 144) dX9_narrow_78 (by decide) ?_
      refine gd_icmp_ge_f 117 dX9_narrow_81 (by decide) (by exact nI_ge (by omega) (by omega)) ?_
      refine gd_ald0 dX9_narrow_84 (by decide) ?_
      refine gd_getR (r := 88) dX9_narrow_85 fl_9_56 rfl rfl rfl (by decide) ?_
      refine gd_ild7 dX9_narrow_88 ?_
      refine gd_lald (n := 144) dX9_narrow_90 rfl (by decide) (by repeat' (first | with_reducible rfl | apply ni_add | apply ni_mul)) (by omega) ?_
      rw [hT c hc]
      refine gd_ald0 dX9_narrow_91 (by decide) ?_
      refine gd_getR (r := 88) dX9_narrow_92 fl_9_56 rfl rfl rfl (by decide) ?_
      refine gd_ild6 dX9_narrow_95 ?_
      refine gd_lald (n := 144) dX9_narrow_97 rfl (by decide) (by repeat' (first | with_reducible rfl | apply ni_add | apply ni_mul)) (by omega) ?_
      rw [hT _ (by omega)]
      refine gd_lcmp dX9_narrow_98 ?_
      refine gd_if_le_f 107 dX9_narrow_99 (by decide) (fun z => absurd ((tkL_le hw _ _).mp ((lg_cmp_le _ _).mp z)) (by omega)) ?_
      refine gd_ild7 dX9_narrow_102 ?_
      refine gd_goto 109 dX9_narrow_104 (by decide) ?_
      refine gd_ist6 dX9_narrow_109 rfl ?_
      refine gd_iinc7 (b := nI 1) dX9_narrow_111 (by decide) rfl ?_
      rw [nI_add]
      refine gd_goto 76 dX9_narrow_114 (by decide) ?_
      exact ih
    · rw [show xmN (tkB w T) (c + 1) = xmN (tkB w T) c from if_neg q] at ih
      refine gd_ild7 dX9_narrow_76 ?_
      refine gd_sipush (v := nI 144) dX9_narrow_78 (by decide) ?_
      refine gd_icmp_ge_f 117 dX9_narrow_81 (by decide) (by exact nI_ge (by omega) (by omega)) ?_
      refine gd_ald0 dX9_narrow_84 (by decide) ?_
      refine gd_getR (r := 88) dX9_narrow_85 fl_9_56 rfl rfl rfl (by decide) ?_
      refine gd_ild7 dX9_narrow_88 ?_
      refine gd_lald (n := 144) dX9_narrow_90 rfl (by decide) (by repeat' (first | with_reducible rfl | apply ni_add | apply ni_mul)) (by omega) ?_
      rw [hT c hc]
      refine gd_ald0 dX9_narrow_91 (by decide) ?_
      refine gd_getR (r := 88) dX9_narrow_92 fl_9_56 rfl rfl rfl (by decide) ?_
      refine gd_ild6 dX9_narrow_95 ?_
      refine gd_lald (n := 144) dX9_narrow_97 rfl (by decide) (by repeat' (first | with_reducible rfl | apply ni_add | apply ni_mul)) (by omega) ?_
      rw [hT _ (by omega)]
      refine gd_lcmp dX9_narrow_98 ?_
      refine gd_if_le_t 107 dX9_narrow_99 (by decide) ((lg_cmp_le _ _).mpr ((tkL_le hw _ _).mpr (by omega))) ?_
      refine gd_ild6 dX9_narrow_107 ?_
      refine gd_ist6 dX9_narrow_109 rfl ?_
      refine gd_iinc7 (b := nI 1) dX9_narrow_111 (by decide) rfl ?_
      rw [nI_add]
      refine gd_goto 76 dX9_narrow_114 (by decide) ?_
      exact ih
theorem m_narrow {w : Nat → Nat} {d p A : Nat} (hw : ∀ c, w c < 2 ^ 31) (hA : A ≤ 6039797760) (hs : sumN w 144 = A) (hp : p ≤ 100) : ∀ (f j : Nat) (T : Nat → Bool) (h : Hp) (l6 l7 : Value), cntN (fun c => !(T c)) 144 ≤ f → (∀ c, c < 144 → h.2 88 c = tkL8 w T c) → h.2 72 24 = lN A → ∃ h2, Gd mX9_narrow 53 [.ref 72, .int (nI d), .int (nI p), .int (nI j), .long (lN (hdN w T 144)), .null, l6, l7] [] h (some (.int (nI (nwN w p A f T j))), h2) ∧ FM h h2 := by
  intro f
  induction f with
  | zero =>
    intro j T h l6 l7 hc hT hal
    have ha : hdN w T 144 = A := by rw [← hs]; exact hd_all 144 (fun c hc2 => Or.inl (by have := cnt_z 144 (Nat.le_zero.mp hc) c hc2; cases e : T c with
      | true => rfl
      | false => rw [e] at this; cases this))
    have pa : p * A ≤ 100 * 6039797760 := Nat.mul_le_mul hp hA
    have pb : p * A ≤ 100 * A := Nat.mul_le_mul hp (Nat.le_refl _)
    refine ⟨h, ?_, FM.rf h⟩
    refine gd_ldc2 dX9_narrow_53 l2_9_265 ?_
    refine gd_lld4 dX9_narrow_56 ?_
    refine gd_lmul dX9_narrow_58 ?_
    rw [lN_mul]
    refine gd_ild2 dX9_narrow_59 ?_
    refine gd_i2l dX9_narrow_60 ?_
    rw [i2l_n (by omega)]
    refine gd_ald0 dX9_narrow_61 (by decide) ?_
    refine gd_getJ dX9_narrow_62 fl_9_250 rfl rfl ?_
    rw [hal]
    refine gd_lmul dX9_narrow_65 ?_
    rw [lN_mul]
    refine gd_lcmp dX9_narrow_66 ?_
    refine gd_if_ge_t 145 dX9_narrow_67 (by decide) ((lg_cmp_ge _ _).mpr ((pk_lLE (by omega) (by omega)).mpr (by omega))) ?_
    refine gd_ild3 dX9_narrow_145 ?_
    refine gd_iret dX9_narrow_146 rfl rfl ?_
    rfl
  | succ f ih =>
    intro j T h l6 l7 hc hT hal
    have hl := hd_le w T 144
    have pa : p * A ≤ 100 * 6039797760 := Nat.mul_le_mul hp hA
    have pb : p * A ≤ 100 * A := Nat.mul_le_mul hp (Nat.le_refl _)
    have xl := (xm_ok (tkA w T) 144 (by decide)).1
    by_cases q : 100 * hdN w T 144 < p * A
    · have sm := xm_same (w := w) (T := T) (n := 144) (by decide) (hd_ex (by omega))
      have cn := cnt_in sm.2 144 xl
      have eh : hdN w (inT T (xmN (tkA w T) 144)) 144 = hdN w T 144 + w (xmN (tkA w T) 144) := by rw [hd_in, if_pos xl, tkA_f sm.2]
      obtain ⟨h2, gg, f2⟩ := ih (j + 1) (inT T (xmN (tkA w T) 144)) (sL h 88 (vp_updL (h.2 88) (xmN (tkA w T) 144) (-1))) (.int (nI (xmN (tkA w T) 144))) (.int (nI 144)) (by omega) (fun c hc => by
        rw [sL_s, updL_at, tkL_in]
        split
        · rfl
        · exact hT c hc) hal
      rw [show nwN w p A (f + 1) T j = nwN w p A f (inT T (xmN (tkA w T) 144)) (j + 1) from if_pos q]
      refine ⟨h2, ?_, ((FM.rf h).sl (by omega)).tr f2⟩
      refine gd_ldc2 dX9_narrow_53 l2_9_265 ?_
      refine gd_lld4 dX9_narrow_56 ?_
      refine gd_lmul dX9_narrow_58 ?_
      rw [lN_mul]
      refine gd_ild2 dX9_narrow_59 ?_
      refine gd_i2l dX9_narrow_60 ?_
      rw [i2l_n (by omega)]
      refine gd_ald0 dX9_narrow_61 (by decide) ?_
      refine gd_getJ dX9_narrow_62 fl_9_250 rfl rfl ?_
      rw [hal]
      refine gd_lmul dX9_narrow_65 ?_
      rw [lN_mul]
      refine gd_lcmp dX9_narrow_66 ?_
      refine gd_if_ge_f 145 dX9_narrow_67 (by decide) (fun z => absurd ((pk_lLE (by omega) (by omega)).mp ((lg_cmp_ge _ _).mp z)) (by omega)) ?_
      refine gd_ic0 dX9_narrow_70 ?_
      refine gd_ist6 dX9_narrow_71 rfl ?_
      refine gd_ic1 dX9_narrow_73 ?_
      refine gd_ist7 dX9_narrow_74 rfl ?_
      refine m_nar1 hw hT ?_
      rw [sm.1]
      refine gd_lld4 dX9_narrow_117 ?_
      refine gd_ald0 dX9_narrow_119 (by decide) ?_
      refine gd_getR (r := 88) dX9_narrow_120 fl_9_56 rfl rfl rfl (by decide) ?_
      refine gd_ild6 dX9_narrow_123 ?_
      refine gd_lald (n := 144) dX9_narrow_125 rfl (by decide) (by repeat' (first | with_reducible rfl | apply ni_add | apply ni_mul)) (by omega) ?_
      rw [hT _ xl, show tkL8 w T (xmN (tkA w T) 144) = lN (w (xmN (tkA w T) 144)) by unfold tkL8; rw [sm.2]; rfl]
      refine gd_ladd dX9_narrow_126 ?_
      rw [lN_add, ← eh]
      refine gd_lst4 dX9_narrow_127 rfl ?_
      refine gd_ald0 dX9_narrow_129 (by decide) ?_
      refine gd_getR (r := 88) dX9_narrow_130 fl_9_56 rfl rfl rfl (by decide) ?_
      refine gd_ild6 dX9_narrow_133 ?_
      refine gd_ldc2 dX9_narrow_135 l2_9_168 ?_
      refine gd_last (n := 144) dX9_narrow_138 rfl (by decide) (by repeat' (first | with_reducible rfl | apply ni_add | apply ni_mul)) (by omega) ?_
      refine gd_iinc3 (b := nI 1) dX9_narrow_139 (by decide) rfl ?_
      rw [nI_add]
      refine gd_goto 53 dX9_narrow_142 (by decide) ?_
      exact gg
    · rw [show nwN w p A (f + 1) T j = j from if_neg q]
      refine ⟨h, ?_, FM.rf h⟩
      refine gd_ldc2 dX9_narrow_53 l2_9_265 ?_
      refine gd_lld4 dX9_narrow_56 ?_
      refine gd_lmul dX9_narrow_58 ?_
      rw [lN_mul]
      refine gd_ild2 dX9_narrow_59 ?_
      refine gd_i2l dX9_narrow_60 ?_
      rw [i2l_n (by omega)]
      refine gd_ald0 dX9_narrow_61 (by decide) ?_
      refine gd_getJ dX9_narrow_62 fl_9_250 rfl rfl ?_
      rw [hal]
      refine gd_lmul dX9_narrow_65 ?_
      rw [lN_mul]
      refine gd_lcmp dX9_narrow_66 ?_
      refine gd_if_ge_t 145 dX9_narrow_67 (by decide) ((lg_cmp_ge _ _).mpr ((pk_lLE (by omega) (by omega)).mpr (by omega))) ?_
      refine gd_ild3 dX9_narrow_145 ?_
      refine gd_iret dX9_narrow_146 rfl rfl ?_
      rfl
theorem sum_z {f : Nat → Nat} (n : Nat) (h : ∀ k, f k = 0) : sumN f n = 0 := by
  induction n with
  | zero => rfl
  | succ n ih => show sumN f n + f n = 0; rw [ih, h]
set_option maxHeartbeats 2000000 in
theorem p_narrow {h : Hp} (i : Inv h) (a b : Int32) : Pas mX8_narrow mX9_narrow [.ref 0, .int a, .int b, .null, .null, .null, .null, .null] [.ref 72, .int a, .int b, .null, .null, .null, .null, .null] h := by
  rcases rng a (4) (by decide) with ⟨d, hd, rfl⟩ | ha
  · rcases rng b (101) (by decide) with ⟨p, hp, rfl⟩ | hb
    · obtain ⟨h1, gt, f1, v1⟩ := c_take i.w i.c (-1)
      have c1 := f1.cr i.c
      obtain ⟨h3, g3, f3, v3, r3⟩ := c_weighGrid i.w v1 hd
      have al := al_le (ms h) (-1) d
      by_cases z0 : (alN (ms h) (-1) d) = 0
      · have e1 : ms (hf h3 3) = ms h := by rw [ms_hf]; exact (f1.tr f3).same.msE
        obtain ⟨h2, gp, f2, v2⟩ := m_prepare (h := hf h3 3) (by rw [e1]; exact i.w) (-1)
        rw [e1] at v2
        obtain ⟨h4, gs, sw⟩ := m_sweep i.w v2 hd
        have ao : h4.2 72 24 = lN 0 := sw.2.2.2.1.trans (congrArg lN z0)
        refine Pas.find (h1 := h3) (h2 := h4) (v := -1000000004) (w := (-1000000000 : Int32) - nI 4) 3 i (by decide) (by decide) (by decide) (f1.tr f3).same (f2.tr sw.1).same ?_ ?_
        · refine gd_ild1 dX8_narrow_0 ?_
          refine gd_ic4 dX8_narrow_1 ?_
          refine gd_cS2i dX8_narrow_2 ct_8_48 ⟨Nat.le_of_ble_eq_true rfl, Nat.le_of_ble_eq_true rfl⟩ (Nat.le_of_ble_eq_true rfl) (Nat.le_of_ble_eq_true rfl) (c_isBelow_t hd (by decide) _) ?_
          refine gd_if_eq_f 17 dX8_narrow_5 (by decide) (by decide) ?_
          refine gd_ild2 dX8_narrow_8 ?_
          refine gd_bipush (v := nI 101) dX8_narrow_9 (by decide) ?_
          refine gd_cS2i dX8_narrow_11 ct_8_48 ⟨Nat.le_of_ble_eq_true rfl, Nat.le_of_ble_eq_true rfl⟩ (Nat.le_of_ble_eq_true rfl) (Nat.le_of_ble_eq_true rfl) (c_isBelow_t hp (by decide) _) ?_
          refine gd_if_ne_t 24 dX8_narrow_14 (by decide) (by decide) ?_
          refine gd_ald0 dX8_narrow_24 (by decide) ?_
          refine gd_getR (r := 60) dX8_narrow_25 fl_8_40 rfl rfl rfl (by decide) ?_
          refine gd_ald0 dX8_narrow_28 (by decide) ?_
          refine gd_getR (r := 1) dX8_narrow_29 fl_8_12 rfl rfl rfl (by decide) ?_
          refine gd_icm1 dX8_narrow_32 ?_
          refine gd_cV2v dX8_narrow_33 ct_8_211 rc_60 ⟨Nat.le_of_ble_eq_true rfl, Nat.le_of_ble_eq_true rfl⟩ (Nat.le_of_ble_eq_true rfl) (Nat.le_of_ble_eq_true rfl) (gt) ?_
          refine gd_ald0 dX8_narrow_36 (by decide) ?_
          refine gd_getR (r := 60) dX8_narrow_37 fl_8_40 rfl rfl rfl (by decide) ?_
          refine gd_ild1 dX8_narrow_40 ?_
          refine gd_cV1l dX8_narrow_41 ct_8_259 rc_60 ⟨Nat.le_of_ble_eq_true rfl, Nat.le_of_ble_eq_true rfl⟩ (Nat.le_of_ble_eq_true rfl) (Nat.le_of_ble_eq_true rfl) (g3) ?_
          refine gd_lst3 dX8_narrow_44 rfl ?_
          refine gd_lld3 dX8_narrow_45 ?_
          refine gd_lc0 dX8_narrow_46 ?_
          refine gd_lcmp dX8_narrow_47 ?_
          refine gd_if_ne_f 58 dX8_narrow_48 (by decide) ((lg_cmp_eq _ _).mpr (congrArg lN z0)) ?_
          refine gd_ald0 dX8_narrow_51 (by decide) ?_
          refine gd_ldc dX8_narrow_52 ld_8_174 ?_
          refine gd_cV1i dX8_narrow_54 ct_8_53 rc_0 ⟨Nat.le_of_ble_eq_true rfl, Nat.le_of_ble_eq_true rfl⟩ (Nat.le_of_ble_eq_true rfl) (Nat.le_of_ble_eq_true rfl) (c_f3 _) ?_
          refine gd_iret dX8_narrow_57 rfl rfl ?_
          rfl
        · refine gd_ild1 dX9_narrow_0 ?_
          refine gd_cS1i dX9_narrow_1 ct_9_259 ⟨Nat.le_of_ble_eq_true rfl, Nat.le_of_ble_eq_true rfl⟩ (Nat.le_of_ble_eq_true rfl) (Nat.le_of_ble_eq_true rfl) (m_isDepth_t hd _) ?_
          refine gd_if_eq_f 17 dX9_narrow_4 (by decide) (by decide) ?_
          refine gd_ild2 dX9_narrow_7 ?_
          refine gd_ic0 dX9_narrow_8 ?_
          refine gd_bipush (v := nI 100) dX9_narrow_9 (by decide) ?_
          refine gd_cS3i dX9_narrow_11 ct_9_79 ⟨Nat.le_of_ble_eq_true rfl, Nat.le_of_ble_eq_true rfl⟩ (Nat.le_of_ble_eq_true rfl) (Nat.le_of_ble_eq_true rfl) (m_in_t (m := 100) (by omega) (by decide) _) ?_
          refine gd_if_ne_t 23 dX9_narrow_14 (by decide) (by decide) ?_
          refine gd_ald0 dX9_narrow_23 (by decide) ?_
          refine gd_icm1 dX9_narrow_24 ?_
          refine gd_cV1v dX9_narrow_25 ct_9_216 rc_72 ⟨Nat.le_of_ble_eq_true rfl, Nat.le_of_ble_eq_true rfl⟩ (Nat.le_of_ble_eq_true rfl) (Nat.le_of_ble_eq_true rfl) (gp) ?_
          refine gd_ald0 dX9_narrow_28 (by decide) ?_
          refine gd_ild1 dX9_narrow_29 ?_
          refine gd_cV1v dX9_narrow_30 ct_9_262 rc_72 ⟨Nat.le_of_ble_eq_true rfl, Nat.le_of_ble_eq_true rfl⟩ (Nat.le_of_ble_eq_true rfl) (Nat.le_of_ble_eq_true rfl) (gs) ?_
          refine gd_ald0 dX9_narrow_33 (by decide) ?_
          refine gd_getJ dX9_narrow_34 fl_9_250 rfl rfl ?_
          refine gd_lc0 dX9_narrow_37 ?_
          refine gd_lcmp dX9_narrow_38 ?_
          refine gd_if_ne_f 48 dX9_narrow_39 (by decide) ((lg_cmp_eq _ _).mpr ao) ?_
          refine gd_ald0 dX9_narrow_42 (by decide) ?_
          refine gd_ic4 dX9_narrow_43 ?_
          refine gd_cV1i dX9_narrow_44 ct_9_97 rc_72 ⟨Nat.le_of_ble_eq_true rfl, Nat.le_of_ble_eq_true rfl⟩ (Nat.le_of_ble_eq_true rfl) (Nat.le_of_ble_eq_true rfl) (m_f3 _) ?_
          refine gd_iret dX9_narrow_47 rfl rfl ?_
          rfl
      · obtain ⟨h5, g5, f5⟩ := c_narrow (w := (owN (ms h) (-1) d)) (d := d) (p := p) (A := (alN (ms h) (-1) d)) (fun c => by have := ow_le (ms h) (-1) d c; omega) al rfl (by omega) 144 0 (fun _ => false) h3 rfl r3
        have e1 : ms h5 = ms h := ((f1.tr f3).tr f5).same.msE
        obtain ⟨h2, gp, f2, v2⟩ := m_prepare (h := h5) (by rw [e1]; exact i.w) (-1)
        rw [e1] at v2
        obtain ⟨h4, gs, sw⟩ := m_sweep i.w v2 hd
        obtain ⟨h6, g6, f6⟩ := m_narrow (w := (owN (ms h) (-1) d)) (d := d) (p := p) (A := (alN (ms h) (-1) d)) (fun c => by have := ow_le (ms h) (-1) d c; omega) al rfl (by omega) 144 0 (fun _ => false) h4 .null .null (cntN_le _ _) sw.2.2.1 sw.2.2.2.1
        have h00 : hdN (owN (ms h) (-1) d) (fun _ => false) 144 = 0 := sum_z _ (fun _ => rfl)
        rw [h00] at g5 g6
        refine Pas.read (h1 := h5) (h2 := h6) (r := .int (nI (nwN (owN (ms h) (-1) d) p (alN (ms h) (-1) d) 144 (fun _ => false) 0))) i rfl ((f1.tr f3).tr f5).same ((f2.tr sw.1).tr f6).same ?_ ?_
        · refine gd_ild1 dX8_narrow_0 ?_
          refine gd_ic4 dX8_narrow_1 ?_
          refine gd_cS2i dX8_narrow_2 ct_8_48 ⟨Nat.le_of_ble_eq_true rfl, Nat.le_of_ble_eq_true rfl⟩ (Nat.le_of_ble_eq_true rfl) (Nat.le_of_ble_eq_true rfl) (c_isBelow_t hd (by decide) _) ?_
          refine gd_if_eq_f 17 dX8_narrow_5 (by decide) (by decide) ?_
          refine gd_ild2 dX8_narrow_8 ?_
          refine gd_bipush (v := nI 101) dX8_narrow_9 (by decide) ?_
          refine gd_cS2i dX8_narrow_11 ct_8_48 ⟨Nat.le_of_ble_eq_true rfl, Nat.le_of_ble_eq_true rfl⟩ (Nat.le_of_ble_eq_true rfl) (Nat.le_of_ble_eq_true rfl) (c_isBelow_t hp (by decide) _) ?_
          refine gd_if_ne_t 24 dX8_narrow_14 (by decide) (by decide) ?_
          refine gd_ald0 dX8_narrow_24 (by decide) ?_
          refine gd_getR (r := 60) dX8_narrow_25 fl_8_40 rfl rfl rfl (by decide) ?_
          refine gd_ald0 dX8_narrow_28 (by decide) ?_
          refine gd_getR (r := 1) dX8_narrow_29 fl_8_12 rfl rfl rfl (by decide) ?_
          refine gd_icm1 dX8_narrow_32 ?_
          refine gd_cV2v dX8_narrow_33 ct_8_211 rc_60 ⟨Nat.le_of_ble_eq_true rfl, Nat.le_of_ble_eq_true rfl⟩ (Nat.le_of_ble_eq_true rfl) (Nat.le_of_ble_eq_true rfl) (gt) ?_
          refine gd_ald0 dX8_narrow_36 (by decide) ?_
          refine gd_getR (r := 60) dX8_narrow_37 fl_8_40 rfl rfl rfl (by decide) ?_
          refine gd_ild1 dX8_narrow_40 ?_
          refine gd_cV1l dX8_narrow_41 ct_8_259 rc_60 ⟨Nat.le_of_ble_eq_true rfl, Nat.le_of_ble_eq_true rfl⟩ (Nat.le_of_ble_eq_true rfl) (Nat.le_of_ble_eq_true rfl) (g3) ?_
          refine gd_lst3 dX8_narrow_44 rfl ?_
          refine gd_lld3 dX8_narrow_45 ?_
          refine gd_lc0 dX8_narrow_46 ?_
          refine gd_lcmp dX8_narrow_47 ?_
          refine gd_if_ne_t 58 dX8_narrow_48 (by decide) (fun y => z0 ((pk_lEQ (by omega) (by decide)).mp ((lg_cmp_eq _ _).mp y))) ?_
          refine gd_lc0 dX8_narrow_58 ?_
          refine gd_lst5 dX8_narrow_59 rfl ?_
          refine gd_ic0 dX8_narrow_61 ?_
          refine gd_ist7 dX8_narrow_62 rfl ?_
          exact g5
        · refine gd_ild1 dX9_narrow_0 ?_
          refine gd_cS1i dX9_narrow_1 ct_9_259 ⟨Nat.le_of_ble_eq_true rfl, Nat.le_of_ble_eq_true rfl⟩ (Nat.le_of_ble_eq_true rfl) (Nat.le_of_ble_eq_true rfl) (m_isDepth_t hd _) ?_
          refine gd_if_eq_f 17 dX9_narrow_4 (by decide) (by decide) ?_
          refine gd_ild2 dX9_narrow_7 ?_
          refine gd_ic0 dX9_narrow_8 ?_
          refine gd_bipush (v := nI 100) dX9_narrow_9 (by decide) ?_
          refine gd_cS3i dX9_narrow_11 ct_9_79 ⟨Nat.le_of_ble_eq_true rfl, Nat.le_of_ble_eq_true rfl⟩ (Nat.le_of_ble_eq_true rfl) (Nat.le_of_ble_eq_true rfl) (m_in_t (m := 100) (by omega) (by decide) _) ?_
          refine gd_if_ne_t 23 dX9_narrow_14 (by decide) (by decide) ?_
          refine gd_ald0 dX9_narrow_23 (by decide) ?_
          refine gd_icm1 dX9_narrow_24 ?_
          refine gd_cV1v dX9_narrow_25 ct_9_216 rc_72 ⟨Nat.le_of_ble_eq_true rfl, Nat.le_of_ble_eq_true rfl⟩ (Nat.le_of_ble_eq_true rfl) (Nat.le_of_ble_eq_true rfl) (gp) ?_
          refine gd_ald0 dX9_narrow_28 (by decide) ?_
          refine gd_ild1 dX9_narrow_29 ?_
          refine gd_cV1v dX9_narrow_30 ct_9_262 rc_72 ⟨Nat.le_of_ble_eq_true rfl, Nat.le_of_ble_eq_true rfl⟩ (Nat.le_of_ble_eq_true rfl) (Nat.le_of_ble_eq_true rfl) (gs) ?_
          refine gd_ald0 dX9_narrow_33 (by decide) ?_
          refine gd_getJ dX9_narrow_34 fl_9_250 rfl rfl ?_
          rw [show h4.2 72 24 = lN (alN (ms h) (-1) d) from sw.2.2.2.1]
          refine gd_lc0 dX9_narrow_37 ?_
          refine gd_lcmp dX9_narrow_38 ?_
          refine gd_if_ne_t 48 dX9_narrow_39 (by decide) (fun y => z0 ((pk_lEQ (by omega) (by decide)).mp ((lg_cmp_eq _ _).mp y))) ?_
          refine gd_ic0 dX9_narrow_48 ?_
          refine gd_ist3 dX9_narrow_49 rfl ?_
          refine gd_lc0 dX9_narrow_50 ?_
          refine gd_lst4 dX9_narrow_51 rfl ?_
          exact g6
    · refine Pas.find (h1 := h) (h2 := hf (h) 0) (v := -1000000001) (w := (-1000000000 : Int32) - nI 1) 0 i (by decide) (by decide) (by decide) (Same.rf _) (Same.rf _) ?_ ?_
      · refine gd_ild1 dX8_narrow_0 ?_
        refine gd_ic4 dX8_narrow_1 ?_
        refine gd_cS2i dX8_narrow_2 ct_8_48 ⟨Nat.le_of_ble_eq_true rfl, Nat.le_of_ble_eq_true rfl⟩ (Nat.le_of_ble_eq_true rfl) (Nat.le_of_ble_eq_true rfl) (c_isBelow_t hd (by decide) _) ?_
        refine gd_if_eq_f 17 dX8_narrow_5 (by decide) (by decide) ?_
        refine gd_ild2 dX8_narrow_8 ?_
        refine gd_bipush (v := nI 101) dX8_narrow_9 (by decide) ?_
        refine gd_cS2i dX8_narrow_11 ct_8_48 ⟨Nat.le_of_ble_eq_true rfl, Nat.le_of_ble_eq_true rfl⟩ (Nat.le_of_ble_eq_true rfl) (Nat.le_of_ble_eq_true rfl) (c_isBelow_f hb _) ?_
        refine gd_if_ne_f 24 dX8_narrow_14 (by decide) (by decide) ?_
        refine gd_ald0 dX8_narrow_17 (by decide) ?_
        refine gd_ldc dX8_narrow_18 ld_8_52 ?_
        refine gd_cV1i dX8_narrow_20 ct_8_53 rc_0 ⟨Nat.le_of_ble_eq_true rfl, Nat.le_of_ble_eq_true rfl⟩ (Nat.le_of_ble_eq_true rfl) (Nat.le_of_ble_eq_true rfl) (c_f0 _) ?_
        refine gd_iret dX8_narrow_23 rfl rfl ?_
        rfl
      · refine gd_ild1 dX9_narrow_0 ?_
        refine gd_cS1i dX9_narrow_1 ct_9_259 ⟨Nat.le_of_ble_eq_true rfl, Nat.le_of_ble_eq_true rfl⟩ (Nat.le_of_ble_eq_true rfl) (Nat.le_of_ble_eq_true rfl) (m_isDepth_t hd _) ?_
        refine gd_if_eq_f 17 dX9_narrow_4 (by decide) (by decide) ?_
        refine gd_ild2 dX9_narrow_7 ?_
        refine gd_ic0 dX9_narrow_8 ?_
        refine gd_bipush (v := nI 100) dX9_narrow_9 (by decide) ?_
        refine gd_cS3i dX9_narrow_11 ct_9_79 ⟨Nat.le_of_ble_eq_true rfl, Nat.le_of_ble_eq_true rfl⟩ (Nat.le_of_ble_eq_true rfl) (Nat.le_of_ble_eq_true rfl) (m_in_f (n := 101) (by decide) (by decide) hb _) ?_
        refine gd_if_ne_f 23 dX9_narrow_14 (by decide) (by decide) ?_
        refine gd_ald0 dX9_narrow_17 (by decide) ?_
        refine gd_ic1 dX9_narrow_18 ?_
        refine gd_cV1i dX9_narrow_19 ct_9_97 rc_72 ⟨Nat.le_of_ble_eq_true rfl, Nat.le_of_ble_eq_true rfl⟩ (Nat.le_of_ble_eq_true rfl) (Nat.le_of_ble_eq_true rfl) (m_f0 _) ?_
        refine gd_iret dX9_narrow_22 rfl rfl ?_
        rfl
  · refine Pas.find (h1 := h) (h2 := hf (h) 0) (v := -1000000001) (w := (-1000000000 : Int32) - nI 1) 0 i (by decide) (by decide) (by decide) (Same.rf _) (Same.rf _) ?_ ?_
    · refine gd_ild1 dX8_narrow_0 ?_
      refine gd_ic4 dX8_narrow_1 ?_
      refine gd_cS2i dX8_narrow_2 ct_8_48 ⟨Nat.le_of_ble_eq_true rfl, Nat.le_of_ble_eq_true rfl⟩ (Nat.le_of_ble_eq_true rfl) (Nat.le_of_ble_eq_true rfl) (c_isBelow_f ha _) ?_
      refine gd_if_eq_t 17 dX8_narrow_5 (by decide) (by decide) ?_
      refine gd_ald0 dX8_narrow_17 (by decide) ?_
      refine gd_ldc dX8_narrow_18 ld_8_52 ?_
      refine gd_cV1i dX8_narrow_20 ct_8_53 rc_0 ⟨Nat.le_of_ble_eq_true rfl, Nat.le_of_ble_eq_true rfl⟩ (Nat.le_of_ble_eq_true rfl) (Nat.le_of_ble_eq_true rfl) (c_f0 _) ?_
      refine gd_iret dX8_narrow_23 rfl rfl ?_
      rfl
    · refine gd_ild1 dX9_narrow_0 ?_
      refine gd_cS1i dX9_narrow_1 ct_9_259 ⟨Nat.le_of_ble_eq_true rfl, Nat.le_of_ble_eq_true rfl⟩ (Nat.le_of_ble_eq_true rfl) (Nat.le_of_ble_eq_true rfl) (m_isDepth_f ha _) ?_
      refine gd_if_eq_t 17 dX9_narrow_4 (by decide) (by decide) ?_
      refine gd_ald0 dX9_narrow_17 (by decide) ?_
      refine gd_ic1 dX9_narrow_18 ?_
      refine gd_cV1i dX9_narrow_19 ct_9_97 rc_72 ⟨Nat.le_of_ble_eq_true rfl, Nat.le_of_ble_eq_true rfl⟩ (Nat.le_of_ble_eq_true rfl) (Nat.le_of_ble_eq_true rfl) (m_f0 _) ?_
      refine gd_iret dX9_narrow_22 rfl rfl ?_
      rfl
