
/-! ===== the reference wants names, numbers ===== -/
def hW (h : Hp) (b : Nat → Nat) (N e : Nat) (fa : Int32) (R : Nat → Int32) : Hp := hMk (sI (sI h 72 (upd (h.1 72) 19 fa)) 80 R) b N e
theorem mpF_mp (f : Nat → Int32) (s x k s' x' k' : Int32) : mpF (mpF f s x k) s' x' k' = mpF f s' x' k' := by
  funext j; unfold mpF
  by_cases a : j = 15
  · simp only [if_pos a]
  · by_cases c : j = 16
    · simp only [if_neg a, if_pos c]
    · by_cases d : j = 17
      · simp only [if_neg a, if_neg c, if_pos d]
      · simp only [if_neg a, if_neg c, if_neg d]
theorem hM_hM (h : Hp) (s x k : Int32) (v : Int64) (s' x' k' : Int32) (v' : Int64) : hM (hM h s x k v) s' x' k' v' = hM h s' x' k' v' := by
  unfold hM
  rw [sL_1, sI_s, mpF_mp, sI_sL, sI_sI, sL_sL, sL_s, updL_updL]
theorem mpF_19 (f : Nat → Int32) (s x k u w : Int32) : upd (mpF (upd f 19 w) s x k) 19 u = mpF (upd f 19 u) s x k := by
  funext j; rw [upd_at]; unfold mpF
  rw [upd_at, upd_at]
  by_cases a : j = 19
  · rw [if_pos a, if_neg (by omega), if_neg (by omega), if_neg (by omega), if_pos a]
  · rw [if_neg a, if_neg a, if_neg a]
theorem hW_adv (h : Hp) (b : Nat → Nat) (N e e' : Nat) (fa : Int32) (R : Nat → Int32) : hMk (hW h b N e fa R) b N e' = hW h b N e' fa R := by
  unfold hW hMk
  rw [hM_hM]
theorem hW_f (h : Hp) (b : Nat → Nat) (N e : Nat) (fa f : Int32) (R : Nat → Int32) : sI (hW h b N e fa R) 72 (upd ((hW h b N e fa R).1 72) 19 f) = hW h b N e f R := by
  unfold hW hMk hM
  rw [sL_1, sI_s, sI_sL, sI_sI]
  rw [show (sI (sI h 72 (upd (h.1 72) 19 fa)) 80 R).1 72 = upd (h.1 72) 19 fa from rfl, show (sI (sI h 72 (upd (h.1 72) 19 f)) 80 R).1 72 = upd (h.1 72) 19 f from rfl, mpF_19]
  rw [sI_cm (k := 80) (j := 72) (by decide), sI_sI, sI_cm (k := 80) (j := 72) (by decide), sI_sI]
  rfl
theorem hW_80 (h : Hp) (b : Nat → Nat) (N e : Nat) (fa : Int32) (R f : Nat → Int32) : sI (hW h b N e fa R) 80 f = hW h b N e fa f := by
  unfold hW hMk hM
  rw [sI_sL, sI_cm (k := 72) (j := 80) (by decide), sI_sI]
  rfl
theorem hW_r (h : Hp) (b : Nat → Nat) (N e : Nat) (fa : Int32) (R : Nat → Int32) : (hW h b N e fa R).1 80 = R := rfl
theorem hW_15 (h : Hp) (b : Nat → Nat) (N e : Nat) (fa : Int32) (R : Nat → Int32) : (hW h b N e fa R).1 72 15 = nI (tkS b N e) := rfl
theorem hW_17 (h : Hp) (b : Nat → Nat) (N e : Nat) (fa : Int32) (R : Nat → Int32) : (hW h b N e fa R).1 72 17 = nI (tkL b N e) := rfl
theorem hW_18 (h : Hp) (b : Nat → Nat) (N e : Nat) (fa : Int32) (R : Nat → Int32) : (hW h b N e fa R).2 72 18 = tkM b N e := rfl
theorem hW_19 (h : Hp) (b : Nat → Nat) (N e : Nat) (fa : Int32) (R : Nat → Int32) : (hW h b N e fa R).1 72 19 = fa := rfl
theorem hW_mt {h : Hp} {b : Nat → Nat} {N e : Nat} {fa : Int32} {R : Nat → Int32} (t : MPB h b N) (he : e ≤ N) : MT (hW h b N e fa R) b N e := ⟨⟨t.1, t.2.1, t.2.2⟩, he, rfl, rfl, rfl, rfl⟩
theorem mX_le {h : Hp} {b : Nat → Nat} {N e : Nat} (t : MPB h b N) (he : e ≤ N) : tkX b N e ≤ N := (tkX_ok t.2.1 he).2.1
theorem mS_le {h : Hp} {b : Nat → Nat} {N e : Nat} (t : MPB h b N) (he : e ≤ N) : tkS b N e ≤ 120 := by
  have := (tkS_ok (b := b) t.2.1 he).2.1
  have := t.2.1
  omega
theorem mW_nx {h : Hp} {b : Nat → Nat} {N e : Nat} {fa : Int32} {R : Nat → Int32} (t : MPB h b N) (he : e ≤ N) : Gd mX9_next 0 [.ref 72, .null] [] (hW h b N e fa R) (none, hW h b N (tkX b N e) fa R) := by
  have g := m_nx (hW_mt (fa := fa) (R := R) t he)
  rw [hW_adv] at g
  exact g

theorem nI_leb {a c : Nat} (ha : a < 2 ^ 31) (hc : c < 2 ^ 31) : nI a ≤ nI c ↔ a ≤ c := by
  constructor
  · intro z
    by_cases q : a ≤ c
    · exact q
    · exact absurd z (nI_ge (by omega) (by omega))
  · intro z; exact nI_le z hc

theorem mW_want_n {h : Hp} {b : Nat → Nat} {N e : Nat} {R : Nat → Int32} (t : MPB h b N) (he : e ≤ N) : Gd mX9_want 0 [.ref 72, .int (nI 1)] [] (hW h b N e (-1) R) (none, hW h b N (tkX b N e) (-1) R) := by
  refine gd_ald0 dX9_want_0 (by decide) ?_
  refine gd_getI dX9_want_1 fl_9_175 rfl rfl ?_
  rw [hW_19]
  refine gd_if_ge_f 18 dX9_want_4 (by decide) (by decide) ?_
  refine gd_ild1 dX9_want_7 ?_
  refine gd_if_eq_f 18 dX9_want_8 (by decide) (by decide) ?_
  refine gd_ald0 dX9_want_11 (by decide) ?_
  refine gd_cV0v dX9_want_12 ct_9_178 rc_72 ⟨Nat.le_of_ble_eq_true rfl, Nat.le_of_ble_eq_true rfl⟩ (Nat.le_of_ble_eq_true rfl) (Nat.le_of_ble_eq_true rfl) (mW_nx t he) ?_
  refine gd_goto 33 dX9_want_15 (by decide) ?_
  refine gd_vret dX9_want_33 rfl ?_
  rfl
theorem mW_want_f {h : Hp} {b : Nat → Nat} {N e : Nat} {R : Nat → Int32} (t : MPB h b N) (he : e ≤ N) : Gd mX9_want 0 [.ref 72, .int (nI 0)] [] (hW h b N e (-1) R) (none, hW h b N e (nI (tkS b N e)) R) := by
  refine gd_ald0 dX9_want_0 (by decide) ?_
  refine gd_getI dX9_want_1 fl_9_175 rfl rfl ?_
  rw [hW_19]
  refine gd_if_ge_f 18 dX9_want_4 (by decide) (by decide) ?_
  refine gd_ild1 dX9_want_7 ?_
  refine gd_if_eq_t 18 dX9_want_8 (by decide) (by decide) ?_
  refine gd_ald0 dX9_want_18 (by decide) ?_
  refine gd_getI dX9_want_19 fl_9_175 rfl rfl ?_
  rw [hW_19]
  refine gd_if_ge_f 33 dX9_want_22 (by decide) (by decide) ?_
  refine gd_ald0 dX9_want_25 (by decide) ?_
  refine gd_ald0 dX9_want_26 (by decide) ?_
  refine gd_getI dX9_want_27 fl_9_155 rfl rfl ?_
  rw [hW_15]
  refine gd_putI dX9_want_30 fl_9_175 rfl rfl (fun _ _ _ e => by cases e; rfl) ?_
  rw [hW_f]
  refine gd_vret dX9_want_33 rfl ?_
  rfl
theorem mW_want_d {h : Hp} {b : Nat → Nat} {N e f : Nat} {R : Nat → Int32} (hf : f ≤ 120) (c : Int32) : Gd mX9_want 0 [.ref 72, .int c] [] (hW h b N e (nI f) R) (none, hW h b N e (nI f) R) := by
  refine gd_ald0 dX9_want_0 (by decide) ?_
  refine gd_getI dX9_want_1 fl_9_175 rfl rfl ?_
  rw [hW_19]
  refine gd_if_ge_t 18 dX9_want_4 (by decide) (by exact nI_pos' (by omega)) ?_
  refine gd_ald0 dX9_want_18 (by decide) ?_
  refine gd_getI dX9_want_19 fl_9_175 rfl rfl ?_
  rw [hW_19]
  refine gd_if_ge_t 33 dX9_want_22 (by decide) (by exact nI_pos' (by omega)) ?_
  refine gd_vret dX9_want_33 rfl ?_
  rfl
theorem mW_nm0_t {fa : Int32} {h : Hp} {b : Nat → Nat} {N e : Nat} {R : Nat → Int32} (t : MPB h b N) (he : e ≤ N) (m : isNm b N e ch0 4) : Gd mX9_isName 0 [.ref 72, .long (lN 2003792484), .null] [] (hW h b N e fa R) (some (.int (nI 1)), hW h b N e fa R) := by
  have g := m_isName (hW_mt (fa := fa) (R := R) t he) (lN 2003792484)
  rw [decide_eq_true ((nm0 t.2.1 he).mp m)] at g
  exact g
theorem mW_nm0_f {fa : Int32} {h : Hp} {b : Nat → Nat} {N e : Nat} {R : Nat → Int32} (t : MPB h b N) (he : e ≤ N) (m : ¬ isNm b N e ch0 4) : Gd mX9_isName 0 [.ref 72, .long (lN 2003792484), .null] [] (hW h b N e fa R) (some (.int (nI 0)), hW h b N e fa R) := by
  have g := m_isName (hW_mt (fa := fa) (R := R) t he) (lN 2003792484)
  rw [decide_eq_false (fun z => m ((nm0 t.2.1 he).mpr z))] at g
  exact g
theorem mW_nm1_t {fa : Int32} {h : Hp} {b : Nat → Nat} {N e : Nat} {R : Nat → Int32} (t : MPB h b N) (he : e ≤ N) (m : isNm b N e ch1 2) : Gd mX9_isName 0 [.ref 72, .long (lN 26995), .null] [] (hW h b N e fa R) (some (.int (nI 1)), hW h b N e fa R) := by
  have g := m_isName (hW_mt (fa := fa) (R := R) t he) (lN 26995)
  rw [decide_eq_true ((nm1 t.2.1 he).mp m)] at g
  exact g
theorem mW_nm1_f {fa : Int32} {h : Hp} {b : Nat → Nat} {N e : Nat} {R : Nat → Int32} (t : MPB h b N) (he : e ≤ N) (m : ¬ isNm b N e ch1 2) : Gd mX9_isName 0 [.ref 72, .long (lN 26995), .null] [] (hW h b N e fa R) (some (.int (nI 0)), hW h b N e fa R) := by
  have g := m_isName (hW_mt (fa := fa) (R := R) t he) (lN 26995)
  rw [decide_eq_false (fun z => m ((nm1 t.2.1 he).mpr z))] at g
  exact g
theorem mW_nm2_t {fa : Int32} {h : Hp} {b : Nat → Nat} {N e : Nat} {R : Nat → Int32} (t : MPB h b N) (he : e ≤ N) (m : isNm b N e ch2 6) : Gd mX9_isName 0 [.ref 72, .long (lN 125779785248622), .null] [] (hW h b N e fa R) (some (.int (nI 1)), hW h b N e fa R) := by
  have g := m_isName (hW_mt (fa := fa) (R := R) t he) (lN 125779785248622)
  rw [decide_eq_true ((nm2 t.2.1 he).mp m)] at g
  exact g
theorem mW_nm2_f {fa : Int32} {h : Hp} {b : Nat → Nat} {N e : Nat} {R : Nat → Int32} (t : MPB h b N) (he : e ≤ N) (m : ¬ isNm b N e ch2 6) : Gd mX9_isName 0 [.ref 72, .long (lN 125779785248622), .null] [] (hW h b N e fa R) (some (.int (nI 0)), hW h b N e fa R) := by
  have g := m_isName (hW_mt (fa := fa) (R := R) t he) (lN 125779785248622)
  rw [decide_eq_false (fun z => m ((nm2 t.2.1 he).mpr z))] at g
  exact g
theorem mW_nm3_t {fa : Int32} {h : Hp} {b : Nat → Nat} {N e : Nat} {R : Nat → Int32} (t : MPB h b N) (he : e ≤ N) (m : isNm b N e ch3 4) : Gd mX9_isName 0 [.ref 72, .long (lN 1836020325), .null] [] (hW h b N e fa R) (some (.int (nI 1)), hW h b N e fa R) := by
  have g := m_isName (hW_mt (fa := fa) (R := R) t he) (lN 1836020325)
  rw [decide_eq_true ((nm3 t.2.1 he).mp m)] at g
  exact g
theorem mW_nm3_f {fa : Int32} {h : Hp} {b : Nat → Nat} {N e : Nat} {R : Nat → Int32} (t : MPB h b N) (he : e ≤ N) (m : ¬ isNm b N e ch3 4) : Gd mX9_isName 0 [.ref 72, .long (lN 1836020325), .null] [] (hW h b N e fa R) (some (.int (nI 0)), hW h b N e fa R) := by
  have g := m_isName (hW_mt (fa := fa) (R := R) t he) (lN 1836020325)
  rw [decide_eq_false (fun z => m ((nm3 t.2.1 he).mpr z))] at g
  exact g
theorem mW_nm4_t {fa : Int32} {h : Hp} {b : Nat → Nat} {N e : Nat} {R : Nat → Int32} (t : MPB h b N) (he : e ≤ N) (m : isNm b N e ch4 5) : Gd mX9_isName 0 [.ref 72, .long (lN 439721159795), .null] [] (hW h b N e fa R) (some (.int (nI 1)), hW h b N e fa R) := by
  have g := m_isName (hW_mt (fa := fa) (R := R) t he) (lN 439721159795)
  rw [decide_eq_true ((nm4 t.2.1 he).mp m)] at g
  exact g
theorem mW_nm4_f {fa : Int32} {h : Hp} {b : Nat → Nat} {N e : Nat} {R : Nat → Int32} (t : MPB h b N) (he : e ≤ N) (m : ¬ isNm b N e ch4 5) : Gd mX9_isName 0 [.ref 72, .long (lN 439721159795), .null] [] (hW h b N e fa R) (some (.int (nI 0)), hW h b N e fa R) := by
  have g := m_isName (hW_mt (fa := fa) (R := R) t he) (lN 439721159795)
  rw [decide_eq_false (fun z => m ((nm4 t.2.1 he).mpr z))] at g
  exact g
theorem mW_nm5_t {fa : Int32} {h : Hp} {b : Nat → Nat} {N e : Nat} {R : Nat → Int32} (t : MPB h b N) (he : e ≤ N) (m : isNm b N e ch5 6) : Gd mX9_isName 0 [.ref 72, .long (lN 113741193899620), .null] [] (hW h b N e fa R) (some (.int (nI 1)), hW h b N e fa R) := by
  have g := m_isName (hW_mt (fa := fa) (R := R) t he) (lN 113741193899620)
  rw [decide_eq_true ((nm5 t.2.1 he).mp m)] at g
  exact g
theorem mW_nm5_f {fa : Int32} {h : Hp} {b : Nat → Nat} {N e : Nat} {R : Nat → Int32} (t : MPB h b N) (he : e ≤ N) (m : ¬ isNm b N e ch5 6) : Gd mX9_isName 0 [.ref 72, .long (lN 113741193899620), .null] [] (hW h b N e fa R) (some (.int (nI 0)), hW h b N e fa R) := by
  have g := m_isName (hW_mt (fa := fa) (R := R) t he) (lN 113741193899620)
  rw [decide_eq_false (fun z => m ((nm5 t.2.1 he).mpr z))] at g
  exact g
theorem i2l_n {n : Nat} (hn : n < 2 ^ 31) : (nI n).toInt64 = lN n := by
  apply Int64.toInt_inj.mp
  rw [Int32.toInt_toInt64, lN_toInt hn]
  exact nI_toInt hn
theorem sg_M {b : Nat → Nat} {N e c : Nat} (hb : ∀ j, j < N → b j < 256) (hc : c = 59 ∨ c = 45) : sgn b N e c ↔ tkL b N e = 3 ∧ tkM b N e = lN c := by
  unfold sgn
  have q : tkK b N e = 3 ∨ tkK b N e = 4 → tkS b N e < N := by
    intro k
    by_cases q : tkS b N e < N
    · exact q
    · unfold tkK at k; rw [if_neg q] at k; omega
  constructor
  · rintro ⟨k, v⟩
    refine ⟨by unfold tkL; rw [if_neg (by omega)]; exact k, ?_⟩
    unfold tkM
    rw [if_neg (by omega), if_neg (by omega), if_neg (by omega)]
    unfold tkV at v
    rw [if_pos k] at v
    rw [v]
  · rintro ⟨l, v⟩
    have k : tkK b N e = 3 ∨ tkK b N e = 4 := by unfold tkL at l; split at l <;> omega
    have qs := q k
    have hs := hb _ qs
    unfold tkM at v
    rw [if_neg (by omega), if_neg (by omega), if_neg (by omega), lN_eq (by omega) (by omega)] at v
    have kb : tkK b N e = knd (b (tkS b N e)) := by unfold tkK; rw [if_pos qs]
    have k3 : tkK b N e = 3 := by rw [kb, v]; exact knd3.mpr hc
    refine ⟨k3, ?_⟩
    unfold tkV
    rw [if_pos k3]
    exact v
theorem mW_sgn_t {fa : Int32} {h : Hp} {b : Nat → Nat} {N e : Nat} {R : Nat → Int32} (t : MPB h b N) (he : e ≤ N) {c : Nat} (hc : c = 59 ∨ c = 45) (m : sgn b N e c) : Gd mX9_isSign 0 [.ref 72, .int (nI c)] [] (hW h b N e fa R) (some (.int (nI 1)), hW h b N e fa R) := by
  have sm := sg_M (N := N) (e := e) (fun j hj => (t.2.2 j hj).2) hc
  obtain ⟨l, v⟩ := sm.mp m
  refine gd_ald0 dX9_isSign_0 (by decide) ?_
  refine gd_getI dX9_isSign_1 fl_9_162 rfl rfl ?_
  rw [hW_17]
  refine gd_ic3 dX9_isSign_4 ?_
  refine gd_icmp_ne_f 22 dX9_isSign_5 (by decide) (by rw [l]) ?_
  refine gd_ald0 dX9_isSign_8 (by decide) ?_
  refine gd_getJ dX9_isSign_9 fl_9_158 rfl rfl ?_
  rw [hW_18]
  refine gd_ild1 dX9_isSign_12 ?_
  refine gd_i2l dX9_isSign_13 ?_
  rw [i2l_n (by omega)]
  refine gd_lcmp dX9_isSign_14 ?_
  refine gd_if_ne_f 22 dX9_isSign_15 (by decide) ((lg_cmp_eq _ _).mpr v) ?_
  refine gd_ic1 dX9_isSign_18 ?_
  refine gd_goto 23 dX9_isSign_19 (by decide) ?_
  refine gd_iret dX9_isSign_23 rfl (by first | rfl | decide | exact nar_bi _ | assumption) ?_
  rfl
theorem mW_sgn_f {fa : Int32} {h : Hp} {b : Nat → Nat} {N e : Nat} {R : Nat → Int32} (t : MPB h b N) (he : e ≤ N) {c : Nat} (hc : c = 59 ∨ c = 45) (m : ¬ sgn b N e c) : Gd mX9_isSign 0 [.ref 72, .int (nI c)] [] (hW h b N e fa R) (some (.int (nI 0)), hW h b N e fa R) := by
  have sm := sg_M (N := N) (e := e) (fun j hj => (t.2.2 j hj).2) hc
  have ll := tkL_lt (b := b) (N := N) (e := e)
  by_cases l : tkL b N e = 3
  · have v : ¬ tkM b N e = lN c := fun z => m (sm.mpr ⟨l, z⟩)
    refine gd_ald0 dX9_isSign_0 (by decide) ?_
    refine gd_getI dX9_isSign_1 fl_9_162 rfl rfl ?_
    rw [hW_17]
    refine gd_ic3 dX9_isSign_4 ?_
    refine gd_icmp_ne_f 22 dX9_isSign_5 (by decide) (by rw [l]) ?_
    refine gd_ald0 dX9_isSign_8 (by decide) ?_
    refine gd_getJ dX9_isSign_9 fl_9_158 rfl rfl ?_
    rw [hW_18]
    refine gd_ild1 dX9_isSign_12 ?_
    refine gd_i2l dX9_isSign_13 ?_
    rw [i2l_n (by omega)]
    refine gd_lcmp dX9_isSign_14 ?_
    refine gd_if_ne_t 22 dX9_isSign_15 (by decide) (fun z => v ((lg_cmp_eq _ _).mp z)) ?_
    refine gd_ic0 dX9_isSign_22 ?_
    refine gd_iret dX9_isSign_23 rfl (by first | rfl | decide | exact nar_bi _ | assumption) ?_
    rfl
  · refine gd_ald0 dX9_isSign_0 (by decide) ?_
    refine gd_getI dX9_isSign_1 fl_9_162 rfl rfl ?_
    rw [hW_17]
    refine gd_ic3 dX9_isSign_4 ?_
    refine gd_icmp_ne_t 22 dX9_isSign_5 (by decide) (by exact fun z => absurd ((nI_eq (by omega) (by omega)).mp z) (by omega)) ?_
    refine gd_ic0 dX9_isSign_22 ?_
    refine gd_iret dX9_isSign_23 rfl (by first | rfl | decide | exact nar_bi _ | assumption) ?_
    rfl
theorem md_dc {b : Nat → Nat} {s : Nat} : ∀ n, (mdV b s n ≤ 9999 → dcV b s n = mdV b s n) ∧ (9999 < mdV b s n → 9999 < dcV b s n) := by
  intro n
  induction n with
  | zero => exact ⟨fun _ => rfl, fun h => absurd h (by show ¬ 9999 < 0; omega)⟩
  | succ n ih =>
    show ((if 9999 < mdV b s n then mdV b s n else 10 * mdV b s n + (b (s + n) - 48)) ≤ 9999 → 10 * dcV b s n + (b (s + n) - 48) = (if 9999 < mdV b s n then mdV b s n else 10 * mdV b s n + (b (s + n) - 48))) ∧ (9999 < (if 9999 < mdV b s n then mdV b s n else 10 * mdV b s n + (b (s + n) - 48)) → 9999 < 10 * dcV b s n + (b (s + n) - 48))
    by_cases q : 9999 < mdV b s n
    · rw [if_pos q]
      have := ih.2 q
      exact ⟨fun z => absurd q (by omega), fun _ => by omega⟩
    · rw [if_neg q]
      have := ih.1 (by omega)
      rw [this]
      exact ⟨fun _ => rfl, fun z => z⟩
theorem tk_dig {b : Nat → Nat} {N e : Nat} (hN : N ≤ 120) (he : e ≤ N) (k : tkK b N e = 2) : tkS b N e < N ∧ ∀ j, tkS b N e ≤ j → j < tkX b N e → 48 ≤ b j ∧ b j ≤ 57 := by
  have q : tkS b N e < N := by
    by_cases q : tkS b N e < N
    · exact q
    · unfold tkK at k; rw [if_neg q] at k; omega
  have kb : knd (b (tkS b N e)) = 2 := by unfold tkK at k; rw [if_pos q] at k; exact k
  refine ⟨q, fun j h1 h2 => knd2.mp ?_⟩
  unfold tkX at h2
  rw [if_pos q, k, if_pos (by decide)] at h2
  have r := runE_ok (p := fun j => decide (knd (b j) = 2)) (N := N) 200 (tkS b N e + 1) (by omega) (by omega)
  by_cases z : j = tkS b N e
  · rw [z]; exact kb
  · exact of_decide_eq_true (r.2.2.1 j (by omega) h2)
theorem tk_md {b : Nat → Nat} {N e : Nat} (hN : N ≤ 120) (he : e ≤ N) (k : tkK b N e = 2) : ∃ m, m ≤ 99999 ∧ tkM b N e = lN m ∧ (m ≤ 9999 → tkV b N e = m) ∧ (9999 < m → 9999 < tkV b N e) := by
  have sx := tkX_ok (b := b) hN he
  have d := (tk_dig hN he k).2
  refine ⟨mdV b (tkS b N e) (tkX b N e - tkS b N e), mdV_le (fun j hj => (d _ (by omega) (by omega)).2), ?_, ?_⟩
  · unfold tkM
    rw [if_neg (by omega), if_neg (by omega), if_pos k]
  · have q := md_dc (b := b) (s := tkS b N e) (tkX b N e - tkS b N e)
    unfold tkV
    rw [if_neg (by omega), if_pos k]
    exact ⟨fun z => by have := q.1 z; omega, fun z => by have := q.2 z; omega⟩
theorem mW_num_t {h : Hp} {b : Nat → Nat} {N e : Nat} {R : Nat → Int32} (t : MPB h b N) (he : e ≤ N) {lo hi : Nat} (hh : hi ≤ 9999) (m : nOk b N e lo hi) : Gd mX9_wantNumber 0 [.ref 72, .int (nI lo), .int (nI hi), .null] [] (hW h b N e (-1) R) (some (.int (nI (tkV b N e))), hW h b N (tkX b N e) (-1) R) := by
  obtain ⟨m1, m2, m3⟩ := m
  obtain ⟨v, v1, v2, v3, v4⟩ := tk_md t.2.1 he m1
  have v5 : v = tkV b N e := by omega
  subst v5
  have l := tkL_2.mpr m1
  have i1 := m_in (nI (tkV b N e)) (nI lo) (nI hi) (hW h b N e (-1) R)
  rw [decide_eq_true ⟨nI_le m2 (by omega), nI_le m3 (by omega)⟩] at i1
  refine gd_ald0 dX9_wantNumber_0 (by decide) ?_
  refine gd_getJ dX9_wantNumber_1 fl_9_158 rfl rfl ?_
  rw [hW_18]
  refine gd_l2i dX9_wantNumber_4 ?_
  rw [v2, lN_i]
  refine gd_ist3 dX9_wantNumber_5 rfl ?_
  refine gd_ald0 dX9_wantNumber_6 (by decide) ?_
  refine gd_ald0 dX9_wantNumber_7 (by decide) ?_
  refine gd_getI dX9_wantNumber_8 fl_9_162 rfl rfl ?_
  rw [hW_17]
  refine gd_ic2 dX9_wantNumber_11 ?_
  refine gd_icmp_ne_f 28 dX9_wantNumber_12 (by decide) (by rw [l]) ?_
  refine gd_ild3 dX9_wantNumber_15 ?_
  refine gd_ild1 dX9_wantNumber_16 ?_
  refine gd_ild2 dX9_wantNumber_17 ?_
  refine gd_cS3i dX9_wantNumber_18 ct_9_79 ⟨Nat.le_of_ble_eq_true rfl, Nat.le_of_ble_eq_true rfl⟩ (Nat.le_of_ble_eq_true rfl) (Nat.le_of_ble_eq_true rfl) (i1) ?_
  refine gd_if_eq_f 28 dX9_wantNumber_21 (by decide) (by decide) ?_
  refine gd_ic1 dX9_wantNumber_24 ?_
  refine gd_goto 29 dX9_wantNumber_25 (by decide) ?_
  refine gd_cV1v dX9_wantNumber_29 ct_9_181 rc_72 ⟨Nat.le_of_ble_eq_true rfl, Nat.le_of_ble_eq_true rfl⟩ (Nat.le_of_ble_eq_true rfl) (Nat.le_of_ble_eq_true rfl) (mW_want_n t he) ?_
  refine gd_ild3 dX9_wantNumber_32 ?_
  refine gd_iret dX9_wantNumber_33 rfl rfl ?_
  rfl
theorem mW_num_f {h : Hp} {b : Nat → Nat} {N e : Nat} {R : Nat → Int32} (t : MPB h b N) (he : e ≤ N) {lo hi : Nat} (hl : lo < 2 ^ 31) (hh : hi ≤ 9999) (m : ¬ nOk b N e lo hi) : Gd mX9_wantNumber 0 [.ref 72, .int (nI lo), .int (nI hi), .null] [] (hW h b N e (-1) R) (some (.int (tkM b N e).toInt32), hW h b N e (nI (tkS b N e)) R) := by
  have ll := tkL_lt (b := b) (N := N) (e := e)
  by_cases m1 : tkK b N e = 2
  · obtain ⟨v, v1, v2, v3, v4⟩ := tk_md t.2.1 he m1
    have l := tkL_2.mpr m1
    have i1 := m_in (nI v) (nI lo) (nI hi) (hW h b N e (-1) R)
    rw [decide_eq_false (fun z => m ⟨m1, by
      have a := (nI_leb (by omega) (by omega)).mp z.1
      have c := (nI_leb (by omega) (by omega)).mp z.2
      omega, by
      have a := (nI_leb (by omega) (by omega)).mp z.1
      have c := (nI_leb (by omega) (by omega)).mp z.2
      omega⟩)] at i1
    rw [v2, lN_i]
    refine gd_ald0 dX9_wantNumber_0 (by decide) ?_
    refine gd_getJ dX9_wantNumber_1 fl_9_158 rfl rfl ?_
    rw [hW_18]
    refine gd_l2i dX9_wantNumber_4 ?_
    rw [v2, lN_i]
    refine gd_ist3 dX9_wantNumber_5 rfl ?_
    refine gd_ald0 dX9_wantNumber_6 (by decide) ?_
    refine gd_ald0 dX9_wantNumber_7 (by decide) ?_
    refine gd_getI dX9_wantNumber_8 fl_9_162 rfl rfl ?_
    rw [hW_17]
    refine gd_ic2 dX9_wantNumber_11 ?_
    refine gd_icmp_ne_f 28 dX9_wantNumber_12 (by decide) (by rw [l]) ?_
    refine gd_ild3 dX9_wantNumber_15 ?_
    refine gd_ild1 dX9_wantNumber_16 ?_
    refine gd_ild2 dX9_wantNumber_17 ?_
    refine gd_cS3i dX9_wantNumber_18 ct_9_79 ⟨Nat.le_of_ble_eq_true rfl, Nat.le_of_ble_eq_true rfl⟩ (Nat.le_of_ble_eq_true rfl) (Nat.le_of_ble_eq_true rfl) (i1) ?_
    refine gd_if_eq_t 28 dX9_wantNumber_21 (by decide) (by decide) ?_
    refine gd_ic0 dX9_wantNumber_28 ?_
    refine gd_cV1v dX9_wantNumber_29 ct_9_181 rc_72 ⟨Nat.le_of_ble_eq_true rfl, Nat.le_of_ble_eq_true rfl⟩ (Nat.le_of_ble_eq_true rfl) (Nat.le_of_ble_eq_true rfl) (mW_want_f t he) ?_
    refine gd_ild3 dX9_wantNumber_32 ?_
    refine gd_iret dX9_wantNumber_33 rfl rfl ?_
    rfl
  · have l : ¬ tkL b N e = 2 := fun z => m1 (tkL_2.mp z)
    refine gd_ald0 dX9_wantNumber_0 (by decide) ?_
    refine gd_getJ dX9_wantNumber_1 fl_9_158 rfl rfl ?_
    rw [hW_18]
    refine gd_l2i dX9_wantNumber_4 ?_
    refine gd_ist3 dX9_wantNumber_5 rfl ?_
    refine gd_ald0 dX9_wantNumber_6 (by decide) ?_
    refine gd_ald0 dX9_wantNumber_7 (by decide) ?_
    refine gd_getI dX9_wantNumber_8 fl_9_162 rfl rfl ?_
    rw [hW_17]
    refine gd_ic2 dX9_wantNumber_11 ?_
    refine gd_icmp_ne_t 28 dX9_wantNumber_12 (by decide) (by exact fun z => absurd ((nI_eq (by omega) (by omega)).mp z) (by omega)) ?_
    refine gd_ic0 dX9_wantNumber_28 ?_
    refine gd_cV1v dX9_wantNumber_29 ct_9_181 rc_72 ⟨Nat.le_of_ble_eq_true rfl, Nat.le_of_ble_eq_true rfl⟩ (Nat.le_of_ble_eq_true rfl) (Nat.le_of_ble_eq_true rfl) (mW_want_f t he) ?_
    refine gd_ild3 dX9_wantNumber_32 ?_
    refine gd_iret dX9_wantNumber_33 rfl rfl ?_
    rfl
theorem mW_num_d {h : Hp} {b : Nat → Nat} {N e f : Nat} {R : Nat → Int32} (hf : f ≤ 120) (lo hi : Int32) : Gd mX9_wantNumber 0 [.ref 72, .int lo, .int hi, .null] [] (hW h b N e (nI f) R) (some (.int (tkM b N e).toInt32), hW h b N e (nI f) R) := by
  have ll := tkL_lt (b := b) (N := N) (e := e)
  by_cases l : tkL b N e = 2
  · refine gd_ald0 dX9_wantNumber_0 (by decide) ?_
    refine gd_getJ dX9_wantNumber_1 fl_9_158 rfl rfl ?_
    rw [hW_18]
    refine gd_l2i dX9_wantNumber_4 ?_
    refine gd_ist3 dX9_wantNumber_5 rfl ?_
    refine gd_ald0 dX9_wantNumber_6 (by decide) ?_
    refine gd_ald0 dX9_wantNumber_7 (by decide) ?_
    refine gd_getI dX9_wantNumber_8 fl_9_162 rfl rfl ?_
    rw [hW_17]
    refine gd_ic2 dX9_wantNumber_11 ?_
    refine gd_icmp_ne_f 28 dX9_wantNumber_12 (by decide) (by rw [l]) ?_
    refine gd_ild3 dX9_wantNumber_15 ?_
    refine gd_ild1 dX9_wantNumber_16 ?_
    refine gd_ild2 dX9_wantNumber_17 ?_
    refine gd_cS3i dX9_wantNumber_18 ct_9_79 ⟨Nat.le_of_ble_eq_true rfl, Nat.le_of_ble_eq_true rfl⟩ (Nat.le_of_ble_eq_true rfl) (Nat.le_of_ble_eq_true rfl) (m_in _ _ _ _) ?_
    refine gd_if_eq 28 dX9_wantNumber_21 (by decide) (fun c21 => ?_) (fun c21 => ?_)
    · refine gd_ic0 dX9_wantNumber_28 ?_
      refine gd_cV1v dX9_wantNumber_29 ct_9_181 rc_72 ⟨Nat.le_of_ble_eq_true rfl, Nat.le_of_ble_eq_true rfl⟩ (Nat.le_of_ble_eq_true rfl) (Nat.le_of_ble_eq_true rfl) (mW_want_d hf _) ?_
      refine gd_ild3 dX9_wantNumber_32 ?_
      refine gd_iret dX9_wantNumber_33 rfl rfl ?_
      rfl
    · refine gd_ic1 dX9_wantNumber_24 ?_
      refine gd_goto 29 dX9_wantNumber_25 (by decide) ?_
      refine gd_cV1v dX9_wantNumber_29 ct_9_181 rc_72 ⟨Nat.le_of_ble_eq_true rfl, Nat.le_of_ble_eq_true rfl⟩ (Nat.le_of_ble_eq_true rfl) (Nat.le_of_ble_eq_true rfl) (mW_want_d hf _) ?_
      refine gd_ild3 dX9_wantNumber_32 ?_
      refine gd_iret dX9_wantNumber_33 rfl rfl ?_
      rfl
  · refine gd_ald0 dX9_wantNumber_0 (by decide) ?_
    refine gd_getJ dX9_wantNumber_1 fl_9_158 rfl rfl ?_
    rw [hW_18]
    refine gd_l2i dX9_wantNumber_4 ?_
    refine gd_ist3 dX9_wantNumber_5 rfl ?_
    refine gd_ald0 dX9_wantNumber_6 (by decide) ?_
    refine gd_ald0 dX9_wantNumber_7 (by decide) ?_
    refine gd_getI dX9_wantNumber_8 fl_9_162 rfl rfl ?_
    rw [hW_17]
    refine gd_ic2 dX9_wantNumber_11 ?_
    refine gd_icmp_ne_t 28 dX9_wantNumber_12 (by decide) (by exact fun z => absurd ((nI_eq (by omega) (by omega)).mp z) (by omega)) ?_
    refine gd_ic0 dX9_wantNumber_28 ?_
    refine gd_cV1v dX9_wantNumber_29 ct_9_181 rc_72 ⟨Nat.le_of_ble_eq_true rfl, Nat.le_of_ble_eq_true rfl⟩ (Nat.le_of_ble_eq_true rfl) (Nat.le_of_ble_eq_true rfl) (mW_want_d hf _) ?_
    refine gd_ild3 dX9_wantNumber_32 ?_
    refine gd_iret dX9_wantNumber_33 rfl rfl ?_
    rfl
