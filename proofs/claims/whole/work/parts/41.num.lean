
/-! ===== the class takes numbers, values, steps ===== -/
def hR (h : Hp) (b : Nat → Nat) (N e : Nat) (K L G : Nat → Int32) : Hp := sI (sI (sI (hTk h b N e) 53 K) 54 L) 55 G
def nOk (b : Nat → Nat) (N e lo hi : Nat) : Prop := tkK b N e = 2 ∧ lo ≤ tkV b N e ∧ tkV b N e ≤ hi
def sgn (b : Nat → Nat) (N e c : Nat) : Prop := tkK b N e = 3 ∧ tkV b N e = c
theorem tkV_lt {b : Nat → Nat} {N e : Nat} (hb : ∀ j, j < N → b j < 256) : tkV b N e ≤ 100000 := by
  unfold tkV
  by_cases k : tkK b N e = 3
  · rw [if_pos k]
    have q : tkS b N e < N := by
      by_cases q : tkS b N e < N
      · exact q
      · unfold tkK at k; rw [if_neg q] at k; omega
    have := hb _ q
    omega
  · rw [if_neg k]
    split <;> omega
theorem hT_si (h : Hp) (s x k v : Int32) {j : Nat} (hj : j ≠ 51) (f : Nat → Int32) : hT (sI h j f) s x k v = sI (hT h s x k v) j f := by
  unfold hT
  rw [sI_n (Ne.symm hj), sI_cm hj]
theorem hR_adv (h : Hp) (b : Nat → Nat) (N e e' : Nat) (K L G : Nat → Int32) : hTk (hR h b N e K L G) b N e' = hR h b N e' K L G := by
  unfold hR hTk
  rw [hT_si _ _ _ _ _ (by decide), hT_si _ _ _ _ _ (by decide), hT_si _ _ _ _ _ (by decide), hT_hT]
theorem hR_53 (h : Hp) (b : Nat → Nat) (N e : Nat) (K L G f : Nat → Int32) : sI (hR h b N e K L G) 53 f = hR h b N e f L G := by
  unfold hR
  rw [sI_cm (k := 55) (j := 53) (by decide), sI_cm (k := 54) (j := 53) (by decide), sI_sI]
theorem hR_54 (h : Hp) (b : Nat → Nat) (N e : Nat) (K L G f : Nat → Int32) : sI (hR h b N e K L G) 54 f = hR h b N e K f G := by
  unfold hR
  rw [sI_cm (k := 55) (j := 54) (by decide), sI_sI]
theorem hR_55 (h : Hp) (b : Nat → Nat) (N e : Nat) (K L G f : Nat → Int32) : sI (hR h b N e K L G) 55 f = hR h b N e K L f := by
  unfold hR
  rw [sI_sI]
theorem hR_r3 (h : Hp) (b : Nat → Nat) (N e : Nat) (K L G : Nat → Int32) : (hR h b N e K L G).1 53 = K := rfl
theorem hR_r4 (h : Hp) (b : Nat → Nat) (N e : Nat) (K L G : Nat → Int32) : (hR h b N e K L G).1 54 = L := rfl
theorem hR_r5 (h : Hp) (b : Nat → Nat) (N e : Nat) (K L G : Nat → Int32) : (hR h b N e K L G).1 55 = G := rfl
theorem hR_v6 (h : Hp) (b : Nat → Nat) (N e : Nat) (K L G : Nat → Int32) : (hR h b N e K L G).1 51 6 = nI (tkS b N e) := rfl
theorem hR_v8 (h : Hp) (b : Nat → Nat) (N e : Nat) (K L G : Nat → Int32) : (hR h b N e K L G).1 51 8 = nI (tkK b N e) := rfl
theorem hR_v9 (h : Hp) (b : Nat → Nat) (N e : Nat) (K L G : Nat → Int32) : (hR h b N e K L G).1 51 9 = nI (tkV b N e) := rfl
theorem hR_ct {h : Hp} {b : Nat → Nat} {N e : Nat} {K L G : Nat → Int32} (t : TPB h b N) (he : e ≤ N) : CT (hR h b N e K L G) b N e := ⟨⟨t.1, t.2.1, t.2.2⟩, he, rfl, rfl, rfl, rfl⟩
theorem cR_adv {h : Hp} {b : Nat → Nat} {N e : Nat} {K L G : Nat → Int32} (t : TPB h b N) (he : e ≤ N) : Gd mX5_advance 0 [.ref 51, .null, .null] [] (hR h b N e K L G) (none, hR h b N (tkX b N e) K L G) := by
  have g := c_adv (hR_ct (K := K) (L := L) (G := G) t he)
  rw [hR_adv] at g
  exact g
theorem tX_le {h : Hp} {b : Nat → Nat} {N e : Nat} (t : TPB h b N) (he : e ≤ N) : tkX b N e ≤ N := (tkX_ok t.2.1 he).2.1

theorem cR_nm0_t {h : Hp} {b : Nat → Nat} {N e : Nat} {K L G : Nat → Int32} (t : TPB h b N) (he : e ≤ N) (m : isNm b N e ch0 4) : Gd mX5_takeName 0 [.ref 51, .ref 100, .null] [] (hR h b N e K L G) (some (.int (nI 1)), hR h b N (tkX b N e) K L G) := by
  have g := c_takeName0_t (hR_ct (K := K) (L := L) (G := G) t he) m
  rw [hR_adv] at g
  exact g
theorem cR_nm0_f {h : Hp} {b : Nat → Nat} {N e : Nat} {K L G : Nat → Int32} (t : TPB h b N) (he : e ≤ N) (m : ¬ isNm b N e ch0 4) : Gd mX5_takeName 0 [.ref 51, .ref 100, .null] [] (hR h b N e K L G) (some (.int (nI 0)), (hR h b N e K L G)) := c_takeName0_f (hR_ct (K := K) (L := L) (G := G) t he) m
theorem cR_nm1_t {h : Hp} {b : Nat → Nat} {N e : Nat} {K L G : Nat → Int32} (t : TPB h b N) (he : e ≤ N) (m : isNm b N e ch1 2) : Gd mX5_takeName 0 [.ref 51, .ref 101, .null] [] (hR h b N e K L G) (some (.int (nI 1)), hR h b N (tkX b N e) K L G) := by
  have g := c_takeName1_t (hR_ct (K := K) (L := L) (G := G) t he) m
  rw [hR_adv] at g
  exact g
theorem cR_nm1_f {h : Hp} {b : Nat → Nat} {N e : Nat} {K L G : Nat → Int32} (t : TPB h b N) (he : e ≤ N) (m : ¬ isNm b N e ch1 2) : Gd mX5_takeName 0 [.ref 51, .ref 101, .null] [] (hR h b N e K L G) (some (.int (nI 0)), (hR h b N e K L G)) := c_takeName1_f (hR_ct (K := K) (L := L) (G := G) t he) m
theorem cR_nm2_t {h : Hp} {b : Nat → Nat} {N e : Nat} {K L G : Nat → Int32} (t : TPB h b N) (he : e ≤ N) (m : isNm b N e ch2 6) : Gd mX5_takeName 0 [.ref 51, .ref 102, .null] [] (hR h b N e K L G) (some (.int (nI 1)), hR h b N (tkX b N e) K L G) := by
  have g := c_takeName2_t (hR_ct (K := K) (L := L) (G := G) t he) m
  rw [hR_adv] at g
  exact g
theorem cR_nm2_f {h : Hp} {b : Nat → Nat} {N e : Nat} {K L G : Nat → Int32} (t : TPB h b N) (he : e ≤ N) (m : ¬ isNm b N e ch2 6) : Gd mX5_takeName 0 [.ref 51, .ref 102, .null] [] (hR h b N e K L G) (some (.int (nI 0)), (hR h b N e K L G)) := c_takeName2_f (hR_ct (K := K) (L := L) (G := G) t he) m
theorem cR_nm3_t {h : Hp} {b : Nat → Nat} {N e : Nat} {K L G : Nat → Int32} (t : TPB h b N) (he : e ≤ N) (m : isNm b N e ch3 4) : Gd mX5_takeName 0 [.ref 51, .ref 103, .null] [] (hR h b N e K L G) (some (.int (nI 1)), hR h b N (tkX b N e) K L G) := by
  have g := c_takeName3_t (hR_ct (K := K) (L := L) (G := G) t he) m
  rw [hR_adv] at g
  exact g
theorem cR_nm3_f {h : Hp} {b : Nat → Nat} {N e : Nat} {K L G : Nat → Int32} (t : TPB h b N) (he : e ≤ N) (m : ¬ isNm b N e ch3 4) : Gd mX5_takeName 0 [.ref 51, .ref 103, .null] [] (hR h b N e K L G) (some (.int (nI 0)), (hR h b N e K L G)) := c_takeName3_f (hR_ct (K := K) (L := L) (G := G) t he) m
theorem cR_nm4_t {h : Hp} {b : Nat → Nat} {N e : Nat} {K L G : Nat → Int32} (t : TPB h b N) (he : e ≤ N) (m : isNm b N e ch4 5) : Gd mX5_takeName 0 [.ref 51, .ref 104, .null] [] (hR h b N e K L G) (some (.int (nI 1)), hR h b N (tkX b N e) K L G) := by
  have g := c_takeName4_t (hR_ct (K := K) (L := L) (G := G) t he) m
  rw [hR_adv] at g
  exact g
theorem cR_nm4_f {h : Hp} {b : Nat → Nat} {N e : Nat} {K L G : Nat → Int32} (t : TPB h b N) (he : e ≤ N) (m : ¬ isNm b N e ch4 5) : Gd mX5_takeName 0 [.ref 51, .ref 104, .null] [] (hR h b N e K L G) (some (.int (nI 0)), (hR h b N e K L G)) := c_takeName4_f (hR_ct (K := K) (L := L) (G := G) t he) m
theorem cR_nm5_t {h : Hp} {b : Nat → Nat} {N e : Nat} {K L G : Nat → Int32} (t : TPB h b N) (he : e ≤ N) (m : isNm b N e ch5 6) : Gd mX5_takeName 0 [.ref 51, .ref 105, .null] [] (hR h b N e K L G) (some (.int (nI 1)), hR h b N (tkX b N e) K L G) := by
  have g := c_takeName5_t (hR_ct (K := K) (L := L) (G := G) t he) m
  rw [hR_adv] at g
  exact g
theorem cR_nm5_f {h : Hp} {b : Nat → Nat} {N e : Nat} {K L G : Nat → Int32} (t : TPB h b N) (he : e ≤ N) (m : ¬ isNm b N e ch5 6) : Gd mX5_takeName 0 [.ref 51, .ref 105, .null] [] (hR h b N e K L G) (some (.int (nI 0)), (hR h b N e K L G)) := c_takeName5_f (hR_ct (K := K) (L := L) (G := G) t he) m
theorem cR_num_t {h : Hp} {b : Nat → Nat} {N e : Nat} {K L G : Nat → Int32} (t : TPB h b N) (he : e ≤ N) {lo hi : Nat} (hh : hi < 2 ^ 31) (m : nOk b N e lo hi) : Gd mX5_takeNumber 0 [.ref 51, .int (nI lo), .int (nI hi)] [] (hR h b N e K L G) (some (.int (nI 1)), hR h b N (tkX b N e) K L G) := by
  obtain ⟨m1, m2, m3⟩ := m
  have vl := tkV_lt (b := b) (N := N) (e := e) (fun j hj => (t.2.2 j hj).2)
  refine gd_ald0 dX5_takeNumber_0 (by decide) ?_
  refine gd_getI dX5_takeNumber_1 fl_5_48 rfl rfl ?_
  rw [hR_v8]
  refine gd_ic2 dX5_takeNumber_4 ?_
  refine gd_icmp_ne_f 24 dX5_takeNumber_5 (by decide) (by rw [m1]) ?_
  refine gd_ald0 dX5_takeNumber_8 (by decide) ?_
  refine gd_getI dX5_takeNumber_9 fl_5_77 rfl rfl ?_
  rw [hR_v9]
  refine gd_ild1 dX5_takeNumber_12 ?_
  refine gd_icmp_lt_f 24 dX5_takeNumber_13 (by decide) (by exact nI_nlt (by omega) (by omega)) ?_
  refine gd_ald0 dX5_takeNumber_16 (by decide) ?_
  refine gd_getI dX5_takeNumber_17 fl_5_77 rfl rfl ?_
  rw [hR_v9]
  refine gd_ild2 dX5_takeNumber_20 ?_
  refine gd_icmp_le_t 26 dX5_takeNumber_21 (by decide) (by exact nI_le (by omega) (by omega)) ?_
  refine gd_ald0 dX5_takeNumber_26 (by decide) ?_
  refine gd_cV0v dX5_takeNumber_27 ct_5_34 rc_51 ⟨Nat.le_of_ble_eq_true rfl, Nat.le_of_ble_eq_true rfl⟩ (Nat.le_of_ble_eq_true rfl) (Nat.le_of_ble_eq_true rfl) (cR_adv t he) ?_
  refine gd_ic1 dX5_takeNumber_30 ?_
  refine gd_iret dX5_takeNumber_31 rfl (by first | rfl | decide | exact nar_bi _ | assumption) ?_
  rfl
theorem cR_num_f {h : Hp} {b : Nat → Nat} {N e : Nat} {K L G : Nat → Int32} (t : TPB h b N) (he : e ≤ N) {lo hi : Nat} (hl : lo < 2 ^ 31) (hh : hi < 2 ^ 31) (m : ¬ nOk b N e lo hi) : Gd mX5_takeNumber 0 [.ref 51, .int (nI lo), .int (nI hi)] [] (hR h b N e K L G) (some (.int (nI 0)), (hR h b N e K L G)) := by
  have vl := tkV_lt (b := b) (N := N) (e := e) (fun j hj => (t.2.2 j hj).2)
  have kl := tkK_lt (b := b) (N := N) (e := e)
  by_cases m1 : tkK b N e = 2
  · by_cases m2 : lo ≤ tkV b N e
    · have m3 : ¬ tkV b N e ≤ hi := fun z => m ⟨m1, m2, z⟩
      refine gd_ald0 dX5_takeNumber_0 (by decide) ?_
      refine gd_getI dX5_takeNumber_1 fl_5_48 rfl rfl ?_
      rw [hR_v8]
      refine gd_ic2 dX5_takeNumber_4 ?_
      refine gd_icmp_ne_f 24 dX5_takeNumber_5 (by decide) (by rw [m1]) ?_
      refine gd_ald0 dX5_takeNumber_8 (by decide) ?_
      refine gd_getI dX5_takeNumber_9 fl_5_77 rfl rfl ?_
      rw [hR_v9]
      refine gd_ild1 dX5_takeNumber_12 ?_
      refine gd_icmp_lt_f 24 dX5_takeNumber_13 (by decide) (by exact nI_nlt (by omega) (by omega)) ?_
      refine gd_ald0 dX5_takeNumber_16 (by decide) ?_
      refine gd_getI dX5_takeNumber_17 fl_5_77 rfl rfl ?_
      rw [hR_v9]
      refine gd_ild2 dX5_takeNumber_20 ?_
      refine gd_icmp_le_f 26 dX5_takeNumber_21 (by decide) (by exact nI_ge (by omega) (by omega)) ?_
      refine gd_ic0 dX5_takeNumber_24 ?_
      refine gd_iret dX5_takeNumber_25 rfl (by first | rfl | decide | exact nar_bi _ | assumption) ?_
      rfl
    · refine gd_ald0 dX5_takeNumber_0 (by decide) ?_
      refine gd_getI dX5_takeNumber_1 fl_5_48 rfl rfl ?_
      rw [hR_v8]
      refine gd_ic2 dX5_takeNumber_4 ?_
      refine gd_icmp_ne_f 24 dX5_takeNumber_5 (by decide) (by rw [m1]) ?_
      refine gd_ald0 dX5_takeNumber_8 (by decide) ?_
      refine gd_getI dX5_takeNumber_9 fl_5_77 rfl rfl ?_
      rw [hR_v9]
      refine gd_ild1 dX5_takeNumber_12 ?_
      refine gd_icmp_lt_t 24 dX5_takeNumber_13 (by decide) (by exact nI_lt (by omega) (by omega)) ?_
      refine gd_ic0 dX5_takeNumber_24 ?_
      refine gd_iret dX5_takeNumber_25 rfl (by first | rfl | decide | exact nar_bi _ | assumption) ?_
      rfl
  · refine gd_ald0 dX5_takeNumber_0 (by decide) ?_
    refine gd_getI dX5_takeNumber_1 fl_5_48 rfl rfl ?_
    rw [hR_v8]
    refine gd_ic2 dX5_takeNumber_4 ?_
    refine gd_icmp_ne_t 24 dX5_takeNumber_5 (by decide) (by exact fun z => absurd ((nI_eq (by omega) (by omega)).mp z) (by omega)) ?_
    refine gd_ic0 dX5_takeNumber_24 ?_
    refine gd_iret dX5_takeNumber_25 rfl (by first | rfl | decide | exact nar_bi _ | assumption) ?_
    rfl
theorem cR_sgn_t {h : Hp} {b : Nat → Nat} {N e : Nat} {K L G : Nat → Int32} (t : TPB h b N) (he : e ≤ N) {c : Nat} (m : sgn b N e c) : Gd mX5_isSign 0 [.ref 51, .int (nI c)] [] (hR h b N e K L G) (some (.int (nI 1)), (hR h b N e K L G)) := by
  obtain ⟨m1, m2⟩ := m
  refine gd_ald0 dX5_isSign_0 (by decide) ?_
  refine gd_getI dX5_isSign_1 fl_5_48 rfl rfl ?_
  rw [hR_v8]
  refine gd_ic3 dX5_isSign_4 ?_
  refine gd_icmp_ne_f 20 dX5_isSign_5 (by decide) (by rw [m1]) ?_
  refine gd_ald0 dX5_isSign_8 (by decide) ?_
  refine gd_getI dX5_isSign_9 fl_5_77 rfl rfl ?_
  rw [hR_v9]
  refine gd_ild1 dX5_isSign_12 ?_
  refine gd_icmp_ne_f 20 dX5_isSign_13 (by decide) (by rw [m2]) ?_
  refine gd_ic1 dX5_isSign_16 ?_
  refine gd_goto 21 dX5_isSign_17 (by decide) ?_
  refine gd_iret dX5_isSign_21 rfl (by first | rfl | decide | exact nar_bi _ | assumption) ?_
  rfl
theorem cR_sgn_f {h : Hp} {b : Nat → Nat} {N e : Nat} {K L G : Nat → Int32} (t : TPB h b N) (he : e ≤ N) {c : Nat} (hc : c < 256) (m : ¬ sgn b N e c) : Gd mX5_isSign 0 [.ref 51, .int (nI c)] [] (hR h b N e K L G) (some (.int (nI 0)), (hR h b N e K L G)) := by
  have vl := tkV_lt (b := b) (N := N) (e := e) (fun j hj => (t.2.2 j hj).2)
  have kl := tkK_lt (b := b) (N := N) (e := e)
  by_cases m1 : tkK b N e = 3
  · have m2 : ¬ tkV b N e = c := fun z => m ⟨m1, z⟩
    refine gd_ald0 dX5_isSign_0 (by decide) ?_
    refine gd_getI dX5_isSign_1 fl_5_48 rfl rfl ?_
    rw [hR_v8]
    refine gd_ic3 dX5_isSign_4 ?_
    refine gd_icmp_ne_f 20 dX5_isSign_5 (by decide) (by rw [m1]) ?_
    refine gd_ald0 dX5_isSign_8 (by decide) ?_
    refine gd_getI dX5_isSign_9 fl_5_77 rfl rfl ?_
    rw [hR_v9]
    refine gd_ild1 dX5_isSign_12 ?_
    refine gd_icmp_ne_t 20 dX5_isSign_13 (by decide) (by exact fun z => absurd ((nI_eq (by omega) (by omega)).mp z) (by omega)) ?_
    refine gd_ic0 dX5_isSign_20 ?_
    refine gd_iret dX5_isSign_21 rfl (by first | rfl | decide | exact nar_bi _ | assumption) ?_
    rfl
  · refine gd_ald0 dX5_isSign_0 (by decide) ?_
    refine gd_getI dX5_isSign_1 fl_5_48 rfl rfl ?_
    rw [hR_v8]
    refine gd_ic3 dX5_isSign_4 ?_
    refine gd_icmp_ne_t 20 dX5_isSign_5 (by decide) (by exact fun z => absurd ((nI_eq (by omega) (by omega)).mp z) (by omega)) ?_
    refine gd_ic0 dX5_isSign_20 ?_
    refine gd_iret dX5_isSign_21 rfl (by first | rfl | decide | exact nar_bi _ | assumption) ?_
    rfl
theorem cR_abt_t {h : Hp} {b : Nat → Nat} {N e : Nat} {K L G : Nat → Int32} (t : TPB h b N) (he : e ≤ N) {r ky hi : Nat} (hr : r < 6) (hh : hi < 2 ^ 31) (m : nOk b N e 0 hi) : Gd mX5_takeAbout 0 [.ref 51, .int (nI r), .int (nI ky), .int (nI hi)] [] (hR h b N e K L G) (some (.int (nI 1)), hR h b N (tkX b N e)  (upd K r (nI (ky + tkV b N e))) L G) := by
  refine gd_ald0 dX5_takeAbout_0 (by decide) ?_
  refine gd_getR (r := 53) dX5_takeAbout_1 fl_5_19 rfl rfl rfl (by decide) ?_
  refine gd_ild1 dX5_takeAbout_4 ?_
  refine gd_ild2 dX5_takeAbout_5 ?_
  refine gd_ald0 dX5_takeAbout_6 (by decide) ?_
  refine gd_getI dX5_takeAbout_7 fl_5_77 rfl rfl ?_
  rw [hR_v9]
  refine gd_iadd dX5_takeAbout_10 ?_
  rw [nI_add]
  refine gd_iast (n := 6) dX5_takeAbout_11 rfl (by decide) (by repeat' (first | with_reducible rfl | apply ni_add | apply ni_mul)) (by omega) ?_
  rw [hR_r3, hR_53]
  refine gd_ald0 dX5_takeAbout_12 (by decide) ?_
  refine gd_ic0 dX5_takeAbout_13 ?_
  refine gd_ild3 dX5_takeAbout_14 ?_
  refine gd_cV2i dX5_takeAbout_15 ct_5_80 rc_51 ⟨Nat.le_of_ble_eq_true rfl, Nat.le_of_ble_eq_true rfl⟩ (Nat.le_of_ble_eq_true rfl) (Nat.le_of_ble_eq_true rfl) (cR_num_t t he hh m) ?_
  refine gd_iret dX5_takeAbout_18 rfl (by first | rfl | decide | exact nar_bi _ | assumption) ?_
  rfl
theorem cR_val_t {h : Hp} {b : Nat → Nat} {N e : Nat} {K L G : Nat → Int32} (t : TPB h b N) (he : e ≤ N) {r lo hi : Nat} (hr : r < 6) (hl : lo < 2 ^ 31) (hh : hi < 2 ^ 31) (m : nOk b N e lo hi) : Gd mX5_takeValue 0 [.ref 51, .int (nI r), .int (nI lo), .int (nI hi)] [] (hR h b N e K L G) (some (.int (nI 1)), hR h b N (tkX b N e)  K (upd L r (nI (tkV b N e))) (upd G r (nI (tkV b N e)))) := by
  refine gd_ald0 dX5_takeValue_0 (by decide) ?_
  refine gd_getR (r := 54) dX5_takeValue_1 fl_5_22 rfl rfl rfl (by decide) ?_
  refine gd_ild1 dX5_takeValue_4 ?_
  refine gd_ald0 dX5_takeValue_5 (by decide) ?_
  refine gd_getI dX5_takeValue_6 fl_5_77 rfl rfl ?_
  rw [hR_v9]
  refine gd_iast (n := 6) dX5_takeValue_9 rfl (by decide) (by repeat' (first | with_reducible rfl | apply ni_add | apply ni_mul)) (by omega) ?_
  rw [hR_r4, hR_54]
  refine gd_ald0 dX5_takeValue_10 (by decide) ?_
  refine gd_getR (r := 55) dX5_takeValue_11 fl_5_25 rfl rfl rfl (by decide) ?_
  refine gd_ild1 dX5_takeValue_14 ?_
  refine gd_ald0 dX5_takeValue_15 (by decide) ?_
  refine gd_getI dX5_takeValue_16 fl_5_77 rfl rfl ?_
  rw [hR_v9]
  refine gd_iast (n := 6) dX5_takeValue_19 rfl (by decide) (by repeat' (first | with_reducible rfl | apply ni_add | apply ni_mul)) (by omega) ?_
  rw [hR_r5, hR_55]
  refine gd_ald0 dX5_takeValue_20 (by decide) ?_
  refine gd_ild2 dX5_takeValue_21 ?_
  refine gd_ild3 dX5_takeValue_22 ?_
  refine gd_cV2i dX5_takeValue_23 ct_5_80 rc_51 ⟨Nat.le_of_ble_eq_true rfl, Nat.le_of_ble_eq_true rfl⟩ (Nat.le_of_ble_eq_true rfl) (Nat.le_of_ble_eq_true rfl) (cR_num_t t he hh m) ?_
  refine gd_iret dX5_takeValue_26 rfl (by first | rfl | decide | exact nar_bi _ | assumption) ?_
  rfl
theorem cR_abt_f {h : Hp} {b : Nat → Nat} {N e : Nat} {K L G : Nat → Int32} (t : TPB h b N) (he : e ≤ N) {r ky hi : Nat} (hr : r < 6) (hh : hi < 2 ^ 31) (m : ¬ nOk b N e 0 hi) : Gd mX5_takeAbout 0 [.ref 51, .int (nI r), .int (nI ky), .int (nI hi)] [] (hR h b N e K L G) (some (.int (nI 0)), hR h b N e  (upd K r (nI (ky + tkV b N e))) L G) := by
  refine gd_ald0 dX5_takeAbout_0 (by decide) ?_
  refine gd_getR (r := 53) dX5_takeAbout_1 fl_5_19 rfl rfl rfl (by decide) ?_
  refine gd_ild1 dX5_takeAbout_4 ?_
  refine gd_ild2 dX5_takeAbout_5 ?_
  refine gd_ald0 dX5_takeAbout_6 (by decide) ?_
  refine gd_getI dX5_takeAbout_7 fl_5_77 rfl rfl ?_
  rw [hR_v9]
  refine gd_iadd dX5_takeAbout_10 ?_
  rw [nI_add]
  refine gd_iast (n := 6) dX5_takeAbout_11 rfl (by decide) (by repeat' (first | with_reducible rfl | apply ni_add | apply ni_mul)) (by omega) ?_
  rw [hR_r3, hR_53]
  refine gd_ald0 dX5_takeAbout_12 (by decide) ?_
  refine gd_ic0 dX5_takeAbout_13 ?_
  refine gd_ild3 dX5_takeAbout_14 ?_
  refine gd_cV2i dX5_takeAbout_15 ct_5_80 rc_51 ⟨Nat.le_of_ble_eq_true rfl, Nat.le_of_ble_eq_true rfl⟩ (Nat.le_of_ble_eq_true rfl) (Nat.le_of_ble_eq_true rfl) (cR_num_f t he (by decide) hh m) ?_
  refine gd_iret dX5_takeAbout_18 rfl (by first | rfl | decide | exact nar_bi _ | assumption) ?_
  rfl
theorem cR_val_f {h : Hp} {b : Nat → Nat} {N e : Nat} {K L G : Nat → Int32} (t : TPB h b N) (he : e ≤ N) {r lo hi : Nat} (hr : r < 6) (hl : lo < 2 ^ 31) (hh : hi < 2 ^ 31) (m : ¬ nOk b N e lo hi) : Gd mX5_takeValue 0 [.ref 51, .int (nI r), .int (nI lo), .int (nI hi)] [] (hR h b N e K L G) (some (.int (nI 0)), hR h b N e  K (upd L r (nI (tkV b N e))) (upd G r (nI (tkV b N e)))) := by
  refine gd_ald0 dX5_takeValue_0 (by decide) ?_
  refine gd_getR (r := 54) dX5_takeValue_1 fl_5_22 rfl rfl rfl (by decide) ?_
  refine gd_ild1 dX5_takeValue_4 ?_
  refine gd_ald0 dX5_takeValue_5 (by decide) ?_
  refine gd_getI dX5_takeValue_6 fl_5_77 rfl rfl ?_
  rw [hR_v9]
  refine gd_iast (n := 6) dX5_takeValue_9 rfl (by decide) (by repeat' (first | with_reducible rfl | apply ni_add | apply ni_mul)) (by omega) ?_
  rw [hR_r4, hR_54]
  refine gd_ald0 dX5_takeValue_10 (by decide) ?_
  refine gd_getR (r := 55) dX5_takeValue_11 fl_5_25 rfl rfl rfl (by decide) ?_
  refine gd_ild1 dX5_takeValue_14 ?_
  refine gd_ald0 dX5_takeValue_15 (by decide) ?_
  refine gd_getI dX5_takeValue_16 fl_5_77 rfl rfl ?_
  rw [hR_v9]
  refine gd_iast (n := 6) dX5_takeValue_19 rfl (by decide) (by repeat' (first | with_reducible rfl | apply ni_add | apply ni_mul)) (by omega) ?_
  rw [hR_r5, hR_55]
  refine gd_ald0 dX5_takeValue_20 (by decide) ?_
  refine gd_ild2 dX5_takeValue_21 ?_
  refine gd_ild3 dX5_takeValue_22 ?_
  refine gd_cV2i dX5_takeValue_23 ct_5_80 rc_51 ⟨Nat.le_of_ble_eq_true rfl, Nat.le_of_ble_eq_true rfl⟩ (Nat.le_of_ble_eq_true rfl) (Nat.le_of_ble_eq_true rfl) (cR_num_f t he hl hh m) ?_
  refine gd_iret dX5_takeValue_26 rfl (by first | rfl | decide | exact nar_bi _ | assumption) ?_
  rfl
theorem cR_stp1 {h : Hp} {b : Nat → Nat} {N e : Nat} {K L G : Nat → Int32} (t : TPB h b N) (he : e ≤ N) {r : Nat} (hr : r < 6) (m : ¬ nOk b N e 0 11) : Gd mX5_takeSteps 0 [.ref 51, .int (nI r)] [] (hR h b N e K L G) (some (.int (nI 0)), hR h b N e K (upd L r (nI (tkV b N e))) (upd G r (nI (tkV b N e)))) := by
  refine gd_ald0 dX5_takeSteps_0 (by decide) ?_
  refine gd_getR (r := 54) dX5_takeSteps_1 fl_5_22 rfl rfl rfl (by decide) ?_
  refine gd_ild1 dX5_takeSteps_4 ?_
  refine gd_ald0 dX5_takeSteps_5 (by decide) ?_
  refine gd_getI dX5_takeSteps_6 fl_5_77 rfl rfl ?_
  rw [hR_v9]
  refine gd_iast (n := 6) dX5_takeSteps_9 rfl (by decide) (by repeat' (first | with_reducible rfl | apply ni_add | apply ni_mul)) (by omega) ?_
  rw [hR_r4, hR_54]
  refine gd_ald0 dX5_takeSteps_10 (by decide) ?_
  refine gd_getR (r := 55) dX5_takeSteps_11 fl_5_25 rfl rfl rfl (by decide) ?_
  refine gd_ild1 dX5_takeSteps_14 ?_
  refine gd_ald0 dX5_takeSteps_15 (by decide) ?_
  refine gd_getI dX5_takeSteps_16 fl_5_77 rfl rfl ?_
  rw [hR_v9]
  refine gd_iast (n := 6) dX5_takeSteps_19 rfl (by decide) (by repeat' (first | with_reducible rfl | apply ni_add | apply ni_mul)) (by omega) ?_
  rw [hR_r5, hR_55]
  refine gd_ald0 dX5_takeSteps_20 (by decide) ?_
  refine gd_ic0 dX5_takeSteps_21 ?_
  refine gd_bipush (v := nI 11) dX5_takeSteps_22 (by decide) ?_
  refine gd_cV2i dX5_takeSteps_24 ct_5_80 rc_51 ⟨Nat.le_of_ble_eq_true rfl, Nat.le_of_ble_eq_true rfl⟩ (Nat.le_of_ble_eq_true rfl) (Nat.le_of_ble_eq_true rfl) (cR_num_f t he (by decide) (by decide) m) ?_
  refine gd_if_ne_f 32 dX5_takeSteps_27 (by decide) (by decide) ?_
  refine gd_ic0 dX5_takeSteps_30 ?_
  refine gd_iret dX5_takeSteps_31 rfl (by first | rfl | decide | exact nar_bi _ | assumption) ?_
  first | rfl | (rw [upd_upd])
theorem cR_stp2 {h : Hp} {b : Nat → Nat} {N e : Nat} {K L G : Nat → Int32} (t : TPB h b N) (he : e ≤ N) {r : Nat} (hr : r < 6) (m : nOk b N e 0 11) (m2 : ¬ sgn b N (tkX b N e) 45) : Gd mX5_takeSteps 0 [.ref 51, .int (nI r)] [] (hR h b N e K L G) (some (.int (nI 1)), hR h b N (tkX b N e) K (upd L r (nI (tkV b N e))) (upd G r (nI (tkV b N e)))) := by
  refine gd_ald0 dX5_takeSteps_0 (by decide) ?_
  refine gd_getR (r := 54) dX5_takeSteps_1 fl_5_22 rfl rfl rfl (by decide) ?_
  refine gd_ild1 dX5_takeSteps_4 ?_
  refine gd_ald0 dX5_takeSteps_5 (by decide) ?_
  refine gd_getI dX5_takeSteps_6 fl_5_77 rfl rfl ?_
  rw [hR_v9]
  refine gd_iast (n := 6) dX5_takeSteps_9 rfl (by decide) (by repeat' (first | with_reducible rfl | apply ni_add | apply ni_mul)) (by omega) ?_
  rw [hR_r4, hR_54]
  refine gd_ald0 dX5_takeSteps_10 (by decide) ?_
  refine gd_getR (r := 55) dX5_takeSteps_11 fl_5_25 rfl rfl rfl (by decide) ?_
  refine gd_ild1 dX5_takeSteps_14 ?_
  refine gd_ald0 dX5_takeSteps_15 (by decide) ?_
  refine gd_getI dX5_takeSteps_16 fl_5_77 rfl rfl ?_
  rw [hR_v9]
  refine gd_iast (n := 6) dX5_takeSteps_19 rfl (by decide) (by repeat' (first | with_reducible rfl | apply ni_add | apply ni_mul)) (by omega) ?_
  rw [hR_r5, hR_55]
  refine gd_ald0 dX5_takeSteps_20 (by decide) ?_
  refine gd_ic0 dX5_takeSteps_21 ?_
  refine gd_bipush (v := nI 11) dX5_takeSteps_22 (by decide) ?_
  refine gd_cV2i dX5_takeSteps_24 ct_5_80 rc_51 ⟨Nat.le_of_ble_eq_true rfl, Nat.le_of_ble_eq_true rfl⟩ (Nat.le_of_ble_eq_true rfl) (Nat.le_of_ble_eq_true rfl) (cR_num_t t he (by decide) m) ?_
  refine gd_if_ne_t 32 dX5_takeSteps_27 (by decide) (by decide) ?_
  refine gd_ald0 dX5_takeSteps_32 (by decide) ?_
  refine gd_bipush (v := nI 45) dX5_takeSteps_33 (by decide) ?_
  refine gd_cV1i dX5_takeSteps_35 ct_5_44 rc_51 ⟨Nat.le_of_ble_eq_true rfl, Nat.le_of_ble_eq_true rfl⟩ (Nat.le_of_ble_eq_true rfl) (Nat.le_of_ble_eq_true rfl) (cR_sgn_f t (tX_le t he) (by decide) m2) ?_
  refine gd_if_ne_f 43 dX5_takeSteps_38 (by decide) (by decide) ?_
  refine gd_ic1 dX5_takeSteps_41 ?_
  refine gd_iret dX5_takeSteps_42 rfl (by first | rfl | decide | exact nar_bi _ | assumption) ?_
  first | rfl | (rw [upd_upd])
theorem cR_stp3 {h : Hp} {b : Nat → Nat} {N e : Nat} {K L G : Nat → Int32} (t : TPB h b N) (he : e ≤ N) {r : Nat} (hr : r < 6) (m : nOk b N e 0 11) (m2 : sgn b N (tkX b N e) 45) (m3 : ¬ nOk b N (tkX b N (tkX b N e)) (tkV b N e) 11) : Gd mX5_takeSteps 0 [.ref 51, .int (nI r)] [] (hR h b N e K L G) (some (.int (nI 0)), hR h b N (tkX b N (tkX b N e)) K (upd L r (nI (tkV b N e))) (upd G r (nI (tkV b N (tkX b N (tkX b N e)))))) := by
  have vl := tkV_lt (b := b) (N := N) (e := e) (fun j hj => (t.2.2 j hj).2)
  refine gd_ald0 dX5_takeSteps_0 (by decide) ?_
  refine gd_getR (r := 54) dX5_takeSteps_1 fl_5_22 rfl rfl rfl (by decide) ?_
  refine gd_ild1 dX5_takeSteps_4 ?_
  refine gd_ald0 dX5_takeSteps_5 (by decide) ?_
  refine gd_getI dX5_takeSteps_6 fl_5_77 rfl rfl ?_
  rw [hR_v9]
  refine gd_iast (n := 6) dX5_takeSteps_9 rfl (by decide) (by repeat' (first | with_reducible rfl | apply ni_add | apply ni_mul)) (by omega) ?_
  rw [hR_r4, hR_54]
  refine gd_ald0 dX5_takeSteps_10 (by decide) ?_
  refine gd_getR (r := 55) dX5_takeSteps_11 fl_5_25 rfl rfl rfl (by decide) ?_
  refine gd_ild1 dX5_takeSteps_14 ?_
  refine gd_ald0 dX5_takeSteps_15 (by decide) ?_
  refine gd_getI dX5_takeSteps_16 fl_5_77 rfl rfl ?_
  rw [hR_v9]
  refine gd_iast (n := 6) dX5_takeSteps_19 rfl (by decide) (by repeat' (first | with_reducible rfl | apply ni_add | apply ni_mul)) (by omega) ?_
  rw [hR_r5, hR_55]
  refine gd_ald0 dX5_takeSteps_20 (by decide) ?_
  refine gd_ic0 dX5_takeSteps_21 ?_
  refine gd_bipush (v := nI 11) dX5_takeSteps_22 (by decide) ?_
  refine gd_cV2i dX5_takeSteps_24 ct_5_80 rc_51 ⟨Nat.le_of_ble_eq_true rfl, Nat.le_of_ble_eq_true rfl⟩ (Nat.le_of_ble_eq_true rfl) (Nat.le_of_ble_eq_true rfl) (cR_num_t t he (by decide) m) ?_
  refine gd_if_ne_t 32 dX5_takeSteps_27 (by decide) (by decide) ?_
  refine gd_ald0 dX5_takeSteps_32 (by decide) ?_
  refine gd_bipush (v := nI 45) dX5_takeSteps_33 (by decide) ?_
  refine gd_cV1i dX5_takeSteps_35 ct_5_44 rc_51 ⟨Nat.le_of_ble_eq_true rfl, Nat.le_of_ble_eq_true rfl⟩ (Nat.le_of_ble_eq_true rfl) (Nat.le_of_ble_eq_true rfl) (cR_sgn_t t (tX_le t he) m2) ?_
  refine gd_if_ne_t 43 dX5_takeSteps_38 (by decide) (by decide) ?_
  refine gd_ald0 dX5_takeSteps_43 (by decide) ?_
  refine gd_cV0v dX5_takeSteps_44 ct_5_34 rc_51 ⟨Nat.le_of_ble_eq_true rfl, Nat.le_of_ble_eq_true rfl⟩ (Nat.le_of_ble_eq_true rfl) (Nat.le_of_ble_eq_true rfl) (cR_adv t (tX_le t he)) ?_
  refine gd_ald0 dX5_takeSteps_47 (by decide) ?_
  refine gd_getR (r := 55) dX5_takeSteps_48 fl_5_25 rfl rfl rfl (by decide) ?_
  refine gd_ild1 dX5_takeSteps_51 ?_
  refine gd_ald0 dX5_takeSteps_52 (by decide) ?_
  refine gd_getI dX5_takeSteps_53 fl_5_77 rfl rfl ?_
  rw [hR_v9]
  refine gd_iast (n := 6) dX5_takeSteps_56 rfl (by decide) (by repeat' (first | with_reducible rfl | apply ni_add | apply ni_mul)) (by omega) ?_
  rw [hR_r5, hR_55]
  refine gd_ald0 dX5_takeSteps_57 (by decide) ?_
  refine gd_ald0 dX5_takeSteps_58 (by decide) ?_
  refine gd_getR (r := 54) dX5_takeSteps_59 fl_5_22 rfl rfl rfl (by decide) ?_
  refine gd_ild1 dX5_takeSteps_62 ?_
  refine gd_iald (n := 6) dX5_takeSteps_63 rfl (by decide) (by repeat' (first | with_reducible rfl | apply ni_add | apply ni_mul)) (by omega) ?_
  rw [hR_r4, upd_at, if_pos rfl]
  refine gd_bipush (v := nI 11) dX5_takeSteps_64 (by decide) ?_
  refine gd_cV2i dX5_takeSteps_66 ct_5_80 rc_51 ⟨Nat.le_of_ble_eq_true rfl, Nat.le_of_ble_eq_true rfl⟩ (Nat.le_of_ble_eq_true rfl) (Nat.le_of_ble_eq_true rfl) (cR_num_f t (tX_le t (tX_le t he)) (by omega) (by decide) m3) ?_
  refine gd_iret dX5_takeSteps_69 rfl (by first | rfl | decide | exact nar_bi _ | assumption) ?_
  first | rfl | (rw [upd_upd])
theorem cR_stp4 {h : Hp} {b : Nat → Nat} {N e : Nat} {K L G : Nat → Int32} (t : TPB h b N) (he : e ≤ N) {r : Nat} (hr : r < 6) (m : nOk b N e 0 11) (m2 : sgn b N (tkX b N e) 45) (m3 : nOk b N (tkX b N (tkX b N e)) (tkV b N e) 11) : Gd mX5_takeSteps 0 [.ref 51, .int (nI r)] [] (hR h b N e K L G) (some (.int (nI 1)), hR h b N (tkX b N (tkX b N (tkX b N e))) K (upd L r (nI (tkV b N e))) (upd G r (nI (tkV b N (tkX b N (tkX b N e)))))) := by
  refine gd_ald0 dX5_takeSteps_0 (by decide) ?_
  refine gd_getR (r := 54) dX5_takeSteps_1 fl_5_22 rfl rfl rfl (by decide) ?_
  refine gd_ild1 dX5_takeSteps_4 ?_
  refine gd_ald0 dX5_takeSteps_5 (by decide) ?_
  refine gd_getI dX5_takeSteps_6 fl_5_77 rfl rfl ?_
  rw [hR_v9]
  refine gd_iast (n := 6) dX5_takeSteps_9 rfl (by decide) (by repeat' (first | with_reducible rfl | apply ni_add | apply ni_mul)) (by omega) ?_
  rw [hR_r4, hR_54]
  refine gd_ald0 dX5_takeSteps_10 (by decide) ?_
  refine gd_getR (r := 55) dX5_takeSteps_11 fl_5_25 rfl rfl rfl (by decide) ?_
  refine gd_ild1 dX5_takeSteps_14 ?_
  refine gd_ald0 dX5_takeSteps_15 (by decide) ?_
  refine gd_getI dX5_takeSteps_16 fl_5_77 rfl rfl ?_
  rw [hR_v9]
  refine gd_iast (n := 6) dX5_takeSteps_19 rfl (by decide) (by repeat' (first | with_reducible rfl | apply ni_add | apply ni_mul)) (by omega) ?_
  rw [hR_r5, hR_55]
  refine gd_ald0 dX5_takeSteps_20 (by decide) ?_
  refine gd_ic0 dX5_takeSteps_21 ?_
  refine gd_bipush (v := nI 11) dX5_takeSteps_22 (by decide) ?_
  refine gd_cV2i dX5_takeSteps_24 ct_5_80 rc_51 ⟨Nat.le_of_ble_eq_true rfl, Nat.le_of_ble_eq_true rfl⟩ (Nat.le_of_ble_eq_true rfl) (Nat.le_of_ble_eq_true rfl) (cR_num_t t he (by decide) m) ?_
  refine gd_if_ne_t 32 dX5_takeSteps_27 (by decide) (by decide) ?_
  refine gd_ald0 dX5_takeSteps_32 (by decide) ?_
  refine gd_bipush (v := nI 45) dX5_takeSteps_33 (by decide) ?_
  refine gd_cV1i dX5_takeSteps_35 ct_5_44 rc_51 ⟨Nat.le_of_ble_eq_true rfl, Nat.le_of_ble_eq_true rfl⟩ (Nat.le_of_ble_eq_true rfl) (Nat.le_of_ble_eq_true rfl) (cR_sgn_t t (tX_le t he) m2) ?_
  refine gd_if_ne_t 43 dX5_takeSteps_38 (by decide) (by decide) ?_
  refine gd_ald0 dX5_takeSteps_43 (by decide) ?_
  refine gd_cV0v dX5_takeSteps_44 ct_5_34 rc_51 ⟨Nat.le_of_ble_eq_true rfl, Nat.le_of_ble_eq_true rfl⟩ (Nat.le_of_ble_eq_true rfl) (Nat.le_of_ble_eq_true rfl) (cR_adv t (tX_le t he)) ?_
  refine gd_ald0 dX5_takeSteps_47 (by decide) ?_
  refine gd_getR (r := 55) dX5_takeSteps_48 fl_5_25 rfl rfl rfl (by decide) ?_
  refine gd_ild1 dX5_takeSteps_51 ?_
  refine gd_ald0 dX5_takeSteps_52 (by decide) ?_
  refine gd_getI dX5_takeSteps_53 fl_5_77 rfl rfl ?_
  rw [hR_v9]
  refine gd_iast (n := 6) dX5_takeSteps_56 rfl (by decide) (by repeat' (first | with_reducible rfl | apply ni_add | apply ni_mul)) (by omega) ?_
  rw [hR_r5, hR_55]
  refine gd_ald0 dX5_takeSteps_57 (by decide) ?_
  refine gd_ald0 dX5_takeSteps_58 (by decide) ?_
  refine gd_getR (r := 54) dX5_takeSteps_59 fl_5_22 rfl rfl rfl (by decide) ?_
  refine gd_ild1 dX5_takeSteps_62 ?_
  refine gd_iald (n := 6) dX5_takeSteps_63 rfl (by decide) (by repeat' (first | with_reducible rfl | apply ni_add | apply ni_mul)) (by omega) ?_
  rw [hR_r4, upd_at, if_pos rfl]
  refine gd_bipush (v := nI 11) dX5_takeSteps_64 (by decide) ?_
  refine gd_cV2i dX5_takeSteps_66 ct_5_80 rc_51 ⟨Nat.le_of_ble_eq_true rfl, Nat.le_of_ble_eq_true rfl⟩ (Nat.le_of_ble_eq_true rfl) (Nat.le_of_ble_eq_true rfl) (cR_num_t t (tX_le t (tX_le t he)) (by decide) m3) ?_
  refine gd_iret dX5_takeSteps_69 rfl (by first | rfl | decide | exact nar_bi _ | assumption) ?_
  first | rfl | (rw [upd_upd])
