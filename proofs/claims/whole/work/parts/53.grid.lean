
/-! ===== the grid ===== -/
def owN (s : Nat → Nat → Int32) (g : Int32) (d c : Nat) : Nat := sumN (fun z => wtN (msN s g c z d)) 40
def alN (s : Nat → Nat → Int32) (g : Int32) (d : Nat) : Nat := sumN (owN s g d) 144
theorem wt_le (m : Nat) : wtN m ≤ 1048576 := by
  unfold wtN
  split
  · omega
  · exact Nat.le_trans (Nat.pow_le_pow_right (by decide) (show 2 * (10 - m) ≤ 20 by omega)) (by decide)
theorem ow_le (s : Nat → Nat → Int32) (g : Int32) (d c : Nat) : owN s g d c ≤ 41943040 := sumN_le (fun _ _ => wt_le _)
theorem sum_mono (f : Nat → Nat) {a b : Nat} (h : a ≤ b) : sumN f a ≤ sumN f b := by
  induction b with
  | zero => rw [show a = 0 by omega]; exact Nat.le_refl _
  | succ b ih =>
    by_cases e : a = b + 1
    · rw [e]; exact Nat.le_refl _
    · exact Nat.le_trans (ih (by omega)) (Nat.le_add_right _ _)
theorem al_le (s : Nat → Nat → Int32) (g : Int32) (d : Nat) : alN s g d ≤ 6039797760 := sumN_le (fun c _ => ow_le s g d c)
def amN (f : Nat → Nat) : Nat → Nat
  | 0 => 0
  | n + 1 => if f n < f (amN f n) then n else amN f n
def cdN (d i : Nat) : Nat := 1000 * (i / 40) + 10 * (i % 40) + d
def mfN (s : Nat → Nat → Int32) (g : Int32) (d i : Nat) : Nat := msN s g (i / 40) (i % 40) d
def lsI (f : Nat → Nat) (i : Nat) : Int32 := if i = 0 then 1000000 else nI (f (amN f i))
def bsI (f : Nat → Nat) (d i : Nat) : Int32 := if i = 0 then -1 else nI (cdN d (amN f i))
def bmI (f : Nat → Nat) (i : Nat) : Int32 := if i = 0 then nI 0 else nI (f (amN f i))
theorem am_y {f : Nat → Nat} {i : Nat} (h : f i < f (amN f i)) : amN f (i + 1) = i := if_pos h
theorem am_n {f : Nat → Nat} {i : Nat} (h : ¬ f i < f (amN f i)) : amN f (i + 1) = amN f i := if_neg h
theorem am_lt (f : Nat → Nat) : ∀ n, 1 ≤ n → amN f n < n := by
  intro n
  induction n with
  | zero => omega
  | succ n ih =>
    intro _
    rw [amN]
    split
    · omega
    · by_cases e : n = 0
      · rw [e]; exact Nat.zero_lt_one
      · have := ih (by omega); omega
theorem cd_sh {d i : Nat} (hd : d < 4) (hi : i < 5760) : isSh (cdN d i) ∧ cdN d i / 1000 = i / 40 ∧ cdN d i / 10 % 100 = i % 40 ∧ cdN d i % 10 = d := by
  unfold isSh cdN; omega
theorem ix_cz {c z : Nat} (hz : z < 40) : (40 * c + z) / 40 = c ∧ (40 * c + z) % 40 = z := by omega

theorem nI_ltb {a c : Nat} (ha : a < 2 ^ 31) (hc : c < 2 ^ 31) : nI a < nI c ↔ a < c := by
  constructor
  · intro z
    by_cases q : a < c
    · exact q
    · exact absurd z (nI_nlt (by omega) ha)
  · intro z; exact nI_lt z hc
theorem c_weighCell {h : Hp} {s : Nat → Nat → Int32} (w : WF s) {g : Int32} (v : SV h s g) {c d : Nat} (hc : c < 144) (hd : d < 4) : ∃ h2, Gd mX4_weighCell 0 [.ref 60, .int (nI c), .int (nI d), .null, .null, .null] [] h (some (.long (lN (owN s g d c))), h2) ∧ FR h h2 := by
  obtain ⟨h2, gg, f2, r2⟩ := c_fillRow w v hc hd
  refine ⟨h2, ?_, f2⟩
  have key := loopG (P := fun z => Gd mX4_weighCell 11 [.ref 60, .int (nI c), .int (nI d), .long (lN (sumN (fun z => wtN (msN s g c z d)) z)), .null, .int (nI z)] [] h2 (some (.long (lN (owN s g d c))), h2)) (n := 40) ?_ ?_ 0 (by omega)
  · refine gd_ald0 dX4_weighCell_0 (by decide) ?_
    refine gd_ild1 dX4_weighCell_1 ?_
    refine gd_ild2 dX4_weighCell_2 ?_
    refine gd_cV2v dX4_weighCell_3 ct_4_130 rc_60 ⟨Nat.le_of_ble_eq_true rfl, Nat.le_of_ble_eq_true rfl⟩ (Nat.le_of_ble_eq_true rfl) (Nat.le_of_ble_eq_true rfl) (gg) ?_
    refine gd_lc0 dX4_weighCell_6 ?_
    refine gd_lst3 dX4_weighCell_7 rfl ?_
    refine gd_ic0 dX4_weighCell_8 ?_
    refine gd_ist5 dX4_weighCell_9 rfl ?_
    exact key
  · refine gd_ild5 dX4_weighCell_11 ?_
    refine gd_bipush (v := nI 40) dX4_weighCell_13 (by decide) ?_
    refine gd_icmp_ge_t 38 dX4_weighCell_15 (by decide) (by exact nI_le (by omega) (by omega)) ?_
    refine gd_lld3 dX4_weighCell_38 ?_
    refine gd_lret dX4_weighCell_39 rfl ?_
    rfl
  · intro z hz ih
    have ml := ms_le w g c z d
    have wl := wt_le (msN s g c z d)
    refine gd_ild5 dX4_weighCell_11 ?_
    refine gd_bipush (v := nI 40) dX4_weighCell_13 (by decide) ?_
    refine gd_icmp_ge_f 38 dX4_weighCell_15 (by decide) (by exact nI_ge (by omega) (by omega)) ?_
    refine gd_lld3 dX4_weighCell_18 ?_
    refine gd_ald0 dX4_weighCell_19 (by decide) ?_
    refine gd_getR (r := 68) dX4_weighCell_20 fl_4_33 rfl rfl rfl (by decide) ?_
    refine gd_ild5 dX4_weighCell_23 ?_
    refine gd_iald (n := 40) dX4_weighCell_25 rfl (by decide) (by repeat' (first | with_reducible rfl | apply ni_add | apply ni_mul)) (by omega) ?_
    rw [r2.2 z hz]
    refine gd_callN (vs := [_]) dX4_weighCell_26 ct_4_134 rfl (fun _ _ _ _ _ _ _ z => z.2.2.2.2.2.2.2.2.2.1) ⟨Nat.le_of_ble_eq_true rfl, Nat.le_of_ble_eq_true rfl⟩ (Nat.le_of_ble_eq_true rfl) (Nat.le_of_ble_eq_true rfl) (c_weightOfMiss (by omega) _) ?_
    refine gd_i2l dX4_weighCell_29 ?_
    rw [i2l_n (by omega)]
    refine gd_ladd dX4_weighCell_30 ?_
    rw [lN_add]
    refine gd_lst3 dX4_weighCell_31 rfl ?_
    refine gd_iinc5 (b := nI 1) dX4_weighCell_32 (by decide) rfl ?_
    rw [nI_add]
    refine gd_goto 11 dX4_weighCell_35 (by decide) ?_
    exact ih
theorem c_weighGrid {h : Hp} {s : Nat → Nat → Int32} (w : WF s) {g : Int32} (v : SV h s g) {d : Nat} (hd : d < 4) : ∃ h2, Gd mX4_weighGrid 0 [.ref 60, .int (nI d), .null, .null, .null] [] h (some (.long (lN (alN s g d))), h2) ∧ FS h h2 ∧ SV h2 s g ∧ ∀ u, u < 144 → h2.2 69 u = lN (owN s g d u) := by
  have key : ∀ h', (FS h h' ∧ SV h' s g ∧ ∀ u, u < 0 → h'.2 69 u = lN (owN s g d u)) → ∃ h2, Gd mX4_weighGrid 5 [.ref 60, .int (nI d), .long (lN (sumN (owN s g d) 0)), .null, .int (nI 0)] [] h' (some (.long (lN (alN s g d))), h2) ∧ FS h h2 ∧ SV h2 s g ∧ ∀ u, u < 144 → h2.2 69 u = lN (owN s g d u) := by
    refine loopG (P := fun c => ∀ h', (FS h h' ∧ SV h' s g ∧ ∀ u, u < c → h'.2 69 u = lN (owN s g d u)) → ∃ h2, Gd mX4_weighGrid 5 [.ref 60, .int (nI d), .long (lN (sumN (owN s g d) c)), .null, .int (nI c)] [] h' (some (.long (lN (alN s g d))), h2) ∧ FS h h2 ∧ SV h2 s g ∧ ∀ u, u < 144 → h2.2 69 u = lN (owN s g d u)) (n := 144) ?_ ?_ 0 (by omega)
    · intro h' q
      refine ⟨h', ?_, q⟩
      refine gd_ild4 dX4_weighGrid_5 ?_
      refine gd_sipush (v := nI 144) dX4_weighGrid_7 (by decide) ?_
      refine gd_icmp_ge_t 43 dX4_weighGrid_10 (by decide) (by exact nI_le (by omega) (by omega)) ?_
      refine gd_lld2 dX4_weighGrid_43 ?_
      refine gd_lret dX4_weighGrid_44 rfl ?_
      rfl
    · intro c hc ih h' q
      obtain ⟨h3, g3, f3⟩ := c_weighCell w q.2.1 (c := c) hc hd
      have hq : FS h (sL h3 69 (vp_updL (h3.2 69) c (lN (owN s g d c)))) ∧ SV (sL h3 69 (vp_updL (h3.2 69) c (lN (owN s g d c)))) s g ∧ ∀ u, u < c + 1 → (sL h3 69 (vp_updL (h3.2 69) c (lN (owN s g d c)))).2 69 u = lN (owN s g d u) := by
        refine ⟨(q.1.tr f3.fs).sl, f3.sv q.2.1, fun u hu => ?_⟩
        rw [sL_s, updL_at]
        by_cases e : u = c
        · rw [if_pos e, e]
        · rw [if_neg e, f3.2]; exact q.2.2 u (by omega)
      obtain ⟨h2, gg, r⟩ := ih _ hq
      refine ⟨h2, ?_, r⟩
      refine gd_ild4 dX4_weighGrid_5 ?_
      refine gd_sipush (v := nI 144) dX4_weighGrid_7 (by decide) ?_
      refine gd_icmp_ge_f 43 dX4_weighGrid_10 (by decide) (by exact nI_ge (by omega) (by omega)) ?_
      refine gd_ald0 dX4_weighGrid_13 (by decide) ?_
      refine gd_getR (r := 69) dX4_weighGrid_14 fl_4_36 rfl rfl rfl (by decide) ?_
      refine gd_ild4 dX4_weighGrid_17 ?_
      refine gd_ald0 dX4_weighGrid_19 (by decide) ?_
      refine gd_ild4 dX4_weighGrid_20 ?_
      refine gd_ild1 dX4_weighGrid_22 ?_
      refine gd_cV2l dX4_weighGrid_23 ct_4_137 rc_60 ⟨Nat.le_of_ble_eq_true rfl, Nat.le_of_ble_eq_true rfl⟩ (Nat.le_of_ble_eq_true rfl) (Nat.le_of_ble_eq_true rfl) (g3) ?_
      refine gd_last (n := 144) dX4_weighGrid_26 rfl (by decide) (by repeat' (first | with_reducible rfl | apply ni_add | apply ni_mul)) (by omega) ?_
      refine gd_lld2 dX4_weighGrid_27 ?_
      refine gd_ald0 dX4_weighGrid_28 (by decide) ?_
      refine gd_getR (r := 69) dX4_weighGrid_29 fl_4_36 rfl rfl rfl (by decide) ?_
      refine gd_ild4 dX4_weighGrid_32 ?_
      refine gd_lald (n := 144) dX4_weighGrid_34 rfl (by decide) (by repeat' (first | with_reducible rfl | apply ni_add | apply ni_mul)) (by omega) ?_
      rw [show (sL h3 69 (vp_updL (h3.2 69) c (lN (owN s g d c)))).2 69 c = lN (owN s g d c) from if_pos rfl]
      refine gd_ladd dX4_weighGrid_35 ?_
      rw [lN_add]
      refine gd_lst2 dX4_weighGrid_36 rfl ?_
      refine gd_iinc4 (b := nI 1) dX4_weighGrid_37 (by decide) rfl ?_
      rw [nI_add]
      refine gd_goto 5 dX4_weighGrid_40 (by decide) ?_
      exact gg
  obtain ⟨h2, gg, r⟩ := key h ⟨FS.rf h, v, fun u hu => absurd hu (by omega)⟩
  refine ⟨h2, ?_, r⟩
  refine gd_lc0 dX4_weighGrid_0 ?_
  refine gd_lst2 dX4_weighGrid_1 rfl ?_
  refine gd_ic0 dX4_weighGrid_2 ?_
  refine gd_ist4 dX4_weighGrid_3 rfl ?_
  exact gg
theorem ls_lt {f : Nat → Nat} {i : Nat} (h : ∀ j, f j ≤ 192) : (nI (f i) < lsI f i ↔ i = 0 ∨ f i < f (amN f i)) := by
  unfold lsI
  have := h i
  by_cases e : i = 0
  · rw [if_pos e]; exact ⟨fun _ => Or.inl e, fun _ => nI_lt (b := 1000000) (by omega) (by decide)⟩
  · have := h (amN f i)
    rw [if_neg e]; exact ⟨fun z => Or.inr ((nI_ltb (by omega) (by omega)).mp z), fun z => nI_lt (by omega) (by omega)⟩
theorem ls_y {f : Nat → Nat} {i : Nat} (h : i = 0 ∨ f i < f (amN f i)) : lsI f (i + 1) = nI (f i) ∧ amN f (i + 1) = i := by
  unfold lsI
  rw [if_neg (by omega)]
  rcases h with e | e
  · subst e
    have h0 : amN f (0 + 1) = 0 := am_n (Nat.lt_irrefl _)
    rw [h0]; exact ⟨rfl, rfl⟩
  · rw [am_y e]; exact ⟨rfl, rfl⟩
theorem ls_n {f : Nat → Nat} {i : Nat} (h : ¬ (i = 0 ∨ f i < f (amN f i))) : lsI f (i + 1) = lsI f i ∧ amN f (i + 1) = amN f i := by
  unfold lsI
  rw [if_neg (by omega), if_neg (by omega), am_n (by omega)]
  exact ⟨rfl, rfl⟩
theorem bs_y {f : Nat → Nat} {d i : Nat} (h : i = 0 ∨ f i < f (amN f i)) : bsI f d (i + 1) = nI (cdN d i) ∧ bmI f (i + 1) = nI (f i) := by
  have q := (ls_y h).2
  unfold bsI bmI
  rw [if_neg (by omega), if_neg (by omega), q]; exact ⟨rfl, rfl⟩
theorem bs_n {f : Nat → Nat} {d i : Nat} (h : ¬ (i = 0 ∨ f i < f (amN f i))) : bsI f d (i + 1) = bsI f d i ∧ bmI f (i + 1) = bmI f i := by
  unfold bsI bmI
  rw [if_neg (by omega), if_neg (by omega), if_neg (by omega), if_neg (by omega), am_n (by omega)]
  exact ⟨rfl, rfl⟩
theorem lp_best1 {h2 : Hp} {s : Nat → Nat → Int32} (w : WF s) {g : Int32} {c d : Nat} (r2 : RWP s g c d h2) {x : Option Value × Hp} (k : Gd mX4_bestShake 73 [.ref 60, .int (nI d), .int (nI (cdN d (amN (mfN s g d) (40 * c + 40)))), .int (lsI (mfN s g d) (40 * c + 40)), .int (nI c), .int (nI 40)] [] h2 x) : Gd mX4_bestShake 26 [.ref 60, .int (nI d), .int (nI (cdN d (amN (mfN s g d) (40 * c + 0)))), .int (lsI (mfN s g d) (40 * c + 0)), .int (nI c), .int (nI 0)] [] h2 x := by
  have fl : ∀ j, (mfN s g d) j ≤ 192 := fun j => ms_le w g _ _ _
  refine loopG (P := fun z => Gd mX4_bestShake 26 [.ref 60, .int (nI d), .int (nI (cdN d (amN (mfN s g d) (40 * c + z)))), .int (lsI (mfN s g d) (40 * c + z)), .int (nI c), .int (nI z)] [] h2 x) (n := 40) ?_ ?_ 0 (by omega)
  · refine gd_ild5 dX4_bestShake_26 ?_
    refine gd_bipush (v := nI 40) dX4_bestShake_28 (by decide) ?_
    refine gd_icmp_ge_t 73 dX4_bestShake_30 (by decide) (by exact nI_le (by omega) (by omega)) ?_
    exact k
  · intro z hz ih
    have em : (mfN s g d) (40 * c + z) = msN s g c z d := by unfold mfN; rw [(ix_cz hz).1, (ix_cz hz).2]
    have ec : cdN d (40 * c + z) = 1000 * c + 10 * z + d := by unfold cdN; rw [(ix_cz hz).1, (ix_cz hz).2]
    rw [show 40 * c + (z + 1) = 40 * c + z + 1 from rfl] at ih
    by_cases q : 40 * c + z = 0 ∨ (mfN s g d) (40 * c + z) < (mfN s g d) (amN (mfN s g d) (40 * c + z))
    · rw [(ls_y q).1, (ls_y q).2] at ih
      refine gd_ild5 dX4_bestShake_26 ?_
      refine gd_bipush (v := nI 40) dX4_bestShake_28 (by decide) ?_
      refine gd_icmp_ge_f 73 dX4_bestShake_30 (by decide) (by exact nI_ge (by omega) (by omega)) ?_
      refine gd_ald0 dX4_bestShake_33 (by decide) ?_
      refine gd_getR (r := 68) dX4_bestShake_34 fl_4_33 rfl rfl rfl (by decide) ?_
      refine gd_ild5 dX4_bestShake_37 ?_
      refine gd_iald (n := 40) dX4_bestShake_39 rfl (by decide) (by repeat' (first | with_reducible rfl | apply ni_add | apply ni_mul)) (by omega) ?_
      rw [r2.2 z hz, ← em]
      refine gd_ild3 dX4_bestShake_40 ?_
      refine gd_icmp_ge_f 67 dX4_bestShake_41 (by decide) (fun y => absurd ((ls_lt fl).mpr q) (Int32.not_lt.mpr y)) ?_
      refine gd_ald0 dX4_bestShake_44 (by decide) ?_
      refine gd_getR (r := 68) dX4_bestShake_45 fl_4_33 rfl rfl rfl (by decide) ?_
      refine gd_ild5 dX4_bestShake_48 ?_
      refine gd_iald (n := 40) dX4_bestShake_50 rfl (by decide) (by repeat' (first | with_reducible rfl | apply ni_add | apply ni_mul)) (by omega) ?_
      rw [r2.2 z hz, ← em]
      refine gd_ist3 dX4_bestShake_51 rfl ?_
      refine gd_sipush (v := nI 1000) dX4_bestShake_52 (by decide) ?_
      refine gd_ild4 dX4_bestShake_55 ?_
      refine gd_imul dX4_bestShake_57 ?_
      refine gd_bipush (v := nI 10) dX4_bestShake_58 (by decide) ?_
      refine gd_ild5 dX4_bestShake_60 ?_
      refine gd_imul dX4_bestShake_62 ?_
      refine gd_iadd dX4_bestShake_63 ?_
      refine gd_ild1 dX4_bestShake_64 ?_
      refine gd_iadd dX4_bestShake_65 ?_
      rw [pk_mul, pk_mul, nI_add, nI_add, ← ec]
      refine gd_ist2 dX4_bestShake_66 rfl ?_
      refine gd_iinc5 (b := nI 1) dX4_bestShake_67 (by decide) rfl ?_
      rw [nI_add]
      refine gd_goto 26 dX4_bestShake_70 (by decide) ?_
      exact ih
    · rw [(ls_n q).1, (ls_n q).2] at ih
      refine gd_ild5 dX4_bestShake_26 ?_
      refine gd_bipush (v := nI 40) dX4_bestShake_28 (by decide) ?_
      refine gd_icmp_ge_f 73 dX4_bestShake_30 (by decide) (by exact nI_ge (by omega) (by omega)) ?_
      refine gd_ald0 dX4_bestShake_33 (by decide) ?_
      refine gd_getR (r := 68) dX4_bestShake_34 fl_4_33 rfl rfl rfl (by decide) ?_
      refine gd_ild5 dX4_bestShake_37 ?_
      refine gd_iald (n := 40) dX4_bestShake_39 rfl (by decide) (by repeat' (first | with_reducible rfl | apply ni_add | apply ni_mul)) (by omega) ?_
      rw [r2.2 z hz, ← em]
      refine gd_ild3 dX4_bestShake_40 ?_
      refine gd_icmp_ge_t 67 dX4_bestShake_41 (by decide) (Int32.not_lt.mp (fun y => q ((ls_lt fl).mp y))) ?_
      refine gd_iinc5 (b := nI 1) dX4_bestShake_67 (by decide) rfl ?_
      rw [nI_add]
      refine gd_goto 26 dX4_bestShake_70 (by decide) ?_
      exact ih
theorem c_bestShake {h : Hp} {s : Nat → Nat → Int32} (w : WF s) {g : Int32} (v : SV h s g) {d : Nat} (hd : d < 4) : ∃ h2, Gd mX4_bestShake 0 [.ref 60, .int (nI d), .null, .null, .null, .null] [] h (some (.int (nI (cdN d (amN (mfN s g d) 5760)))), h2) ∧ FS h h2 ∧ SV h2 s g := by
  have key : ∀ h' l5, FS h h' → SV h' s g → ∃ h2, Gd mX4_bestShake 8 [.ref 60, .int (nI d), .int (nI (cdN d (amN (mfN s g d) (40 * 0)))), .int (lsI (mfN s g d) (40 * 0)), .int (nI 0), l5] [] h' (some (.int (nI (cdN d (amN (mfN s g d) 5760)))), h2) ∧ FS h h2 ∧ SV h2 s g := by
    refine loopG (P := fun c => ∀ h' l5, FS h h' → SV h' s g → ∃ h2, Gd mX4_bestShake 8 [.ref 60, .int (nI d), .int (nI (cdN d (amN (mfN s g d) (40 * c)))), .int (lsI (mfN s g d) (40 * c)), .int (nI c), l5] [] h' (some (.int (nI (cdN d (amN (mfN s g d) 5760)))), h2) ∧ FS h h2 ∧ SV h2 s g) (n := 144) ?_ ?_ 0 (by omega)
    · intro h' l5 q1 q2
      refine ⟨h', ?_, q1, q2⟩
      refine gd_ild4 dX4_bestShake_8 ?_
      refine gd_sipush (v := nI 144) dX4_bestShake_10 (by decide) ?_
      refine gd_icmp_ge_t 79 dX4_bestShake_13 (by decide) (by exact nI_le (by omega) (by omega)) ?_
      refine gd_ild2 dX4_bestShake_79 ?_
      refine gd_iret dX4_bestShake_80 rfl rfl ?_
      rfl
    · intro c hc ih h' l5 q1 q2
      obtain ⟨h3, g3, f3, r3⟩ := c_fillRow w q2 (c := c) hc hd
      obtain ⟨h2, gg, r⟩ := ih h3 (.int (nI 40)) (q1.tr f3.fs) (f3.sv q2)
      refine ⟨h2, ?_, r⟩
      rw [show 40 * (c + 1) = 40 * c + 40 by omega] at gg
      refine gd_ild4 dX4_bestShake_8 ?_
      refine gd_sipush (v := nI 144) dX4_bestShake_10 (by decide) ?_
      refine gd_icmp_ge_f 79 dX4_bestShake_13 (by decide) (by exact nI_ge (by omega) (by omega)) ?_
      refine gd_ald0 dX4_bestShake_16 (by decide) ?_
      refine gd_ild4 dX4_bestShake_17 ?_
      refine gd_ild1 dX4_bestShake_19 ?_
      refine gd_cV2v dX4_bestShake_20 ct_4_130 rc_60 ⟨Nat.le_of_ble_eq_true rfl, Nat.le_of_ble_eq_true rfl⟩ (Nat.le_of_ble_eq_true rfl) (Nat.le_of_ble_eq_true rfl) (g3) ?_
      refine gd_ic0 dX4_bestShake_23 ?_
      refine gd_ist5 dX4_bestShake_24 rfl ?_
      refine lp_best1 w r3 ?_
      refine gd_iinc4 (b := nI 1) dX4_bestShake_73 (by decide) rfl ?_
      rw [nI_add]
      refine gd_goto 8 dX4_bestShake_76 (by decide) ?_
      exact gg
  obtain ⟨h2, gg, r⟩ := key h .null (FS.rf h) v
  refine ⟨h2, ?_, r⟩
  rw [show cdN d (amN (mfN s g d) (40 * 0)) = d by show cdN d 0 = d; unfold cdN; omega] at gg
  refine gd_ild1 dX4_bestShake_0 ?_
  refine gd_ist2 dX4_bestShake_1 rfl ?_
  refine gd_ldc dX4_bestShake_2 ld_4_122 ?_
  refine gd_ist3 dX4_bestShake_4 rfl ?_
  refine gd_ic0 dX4_bestShake_5 ?_
  refine gd_ist4 dX4_bestShake_6 rfl ?_
  exact gg

theorem PV.sl {h : Hp} {s : Nat → Nat → Int32} {g : Int32} (v : PV h s g) (k : Nat) (f : Nat → Int64) : PV (sL h k f) s g := v
theorem PV.s72 {h : Hp} {s : Nat → Nat → Int32} {g : Int32} (v : PV h s g) {j : Nat} {x : Int32} (hj : j ≠ 21) : PV (sI h 72 (upd (h.1 72) j x)) s g := ⟨(ms_si (Or.inl (by decide))).trans v.1, (upd_n (Ne.symm hj)).trans v.2.1, v.2.2⟩
def SWI (h : Hp) (s : Nat → Nat → Int32) (g : Int32) (d c z : Nat) (h' : Hp) : Prop := FM h h' ∧ PV h' s g ∧ (∀ u, u < c → h'.2 88 u = lN (owN s g d u)) ∧ h'.2 88 c = lN (sumN (fun z => wtN (msN s g c z d)) z) ∧ h'.2 72 24 = lN (sumN (owN s g d) c) ∧ h'.1 72 25 = bsI (mfN s g d) d (40 * c + z) ∧ h'.1 72 26 = bmI (mfN s g d) (40 * c + z)
def SWO (h : Hp) (s : Nat → Nat → Int32) (g : Int32) (d c : Nat) (h' : Hp) : Prop := FM h h' ∧ PV h' s g ∧ (∀ u, u < c → h'.2 88 u = lN (owN s g d u)) ∧ h'.2 72 24 = lN (sumN (owN s g d) c) ∧ h'.1 72 25 = bsI (mfN s g d) d (40 * c) ∧ h'.1 72 26 = bmI (mfN s g d) (40 * c)
theorem bs_lt {f : Nat → Nat} {d i : Nat} (hd : d < 4) (hi : i ≤ 5760) : (bsI f d i < 0 ↔ i = 0) := by
  unfold bsI
  by_cases e : i = 0
  · rw [if_pos e]; exact ⟨fun _ => e, fun _ => by decide⟩
  · have := am_lt f i (by omega)
    rw [if_neg e]; exact ⟨fun z => absurd z (nI_pos (by have := sh_lt (cd_sh (d := d) (i := amN f i) hd (by omega)).1; omega)), fun z => absurd z e⟩
theorem updL_n {f : Nat → Int64} {k j : Nat} {v : Int64} (h : j ≠ k) : vp_updL f k v j = f j := if_neg h
theorem updL_ss (f : Nat → Int64) (k : Nat) (v : Int64) : vp_updL f k v k = v := if_pos rfl

theorem lp_sweep1 {h : Hp} {s : Nat → Nat → Int32} (w : WF s) {g : Int32} {d c : Nat} (hd : d < 4) (hc : c < 144) (ih : ∀ h' l3 l4 l5, SWO h s g d (c + 1) h' → ∃ h2, Gd mX9_sweep 17 [.ref 72, .int (nI d), .int (nI (c + 1)), l3, l4, l5] [] h' (none, h2) ∧ SWO h s g d 144 h2) : ∀ h' l4 l5, SWI h s g d c 0 h' → ∃ h2, Gd mX9_sweep 33 [.ref 72, .int (nI d), .int (nI c), .int (nI 0), l4, l5] [] h' (none, h2) ∧ SWO h s g d 144 h2 := by
  have fl : ∀ j, (mfN s g d) j ≤ 192 := fun j => ms_le w g _ _ _
  refine loopG (P := fun z => ∀ h' l4 l5, SWI h s g d c z h' → ∃ h2, Gd mX9_sweep 33 [.ref 72, .int (nI d), .int (nI c), .int (nI z), l4, l5] [] h' (none, h2) ∧ SWO h s g d 144 h2) (n := 40) ?_ ?_ 0 (by omega)
  · intro h' l4 l5 q
    have hq : SWO h s g d (c + 1) (sL h' 72 (vp_updL (h'.2 72) 24 (lN (sumN (owN s g d) (c + 1))))) := by
      refine ⟨q.1.sl (by omega), q.2.1, fun u hu => ?_, (by rw [sL_s, updL_ss]), ?_, ?_⟩
      · by_cases e : u = c
        · rw [e]; exact q.2.2.2.1
        · exact q.2.2.1 u (by omega)
      · rw [show 40 * (c + 1) = 40 * c + 40 by omega]; exact q.2.2.2.2.2.1
      · rw [show 40 * (c + 1) = 40 * c + 40 by omega]; exact q.2.2.2.2.2.2
    obtain ⟨h2, gg, r⟩ := ih _ (.int (nI 40)) l4 l5 hq
    refine ⟨h2, ?_, r⟩
    refine gd_ild3 dX9_sweep_33 ?_
    refine gd_bipush (v := nI 40) dX9_sweep_34 (by decide) ?_
    refine gd_icmp_ge_t 110 dX9_sweep_36 (by decide) (by exact nI_le (by omega) (by omega)) ?_
    refine gd_ald0 dX9_sweep_110 (by decide) ?_
    refine gd_dupr (by decide) dX9_sweep_111 ?_
    refine gd_getJ dX9_sweep_112 fl_9_250 rfl rfl ?_
    rw [q.2.2.2.2.1]
    refine gd_ald0 dX9_sweep_115 (by decide) ?_
    refine gd_getR (r := 88) dX9_sweep_116 fl_9_56 rfl rfl rfl (by decide) ?_
    refine gd_ild2 dX9_sweep_119 ?_
    refine gd_lald (n := 144) dX9_sweep_120 rfl (by decide) (by repeat' (first | with_reducible rfl | apply ni_add | apply ni_mul)) (by omega) ?_
    rw [q.2.2.2.1]
    refine gd_ladd dX9_sweep_121 ?_
    rw [lN_add, show sumN (owN s g d) c + sumN (fun z => wtN (msN s g c z d)) 40 = sumN (owN s g d) (c + 1) from rfl]
    refine gd_putJ dX9_sweep_122 fl_9_250 rfl rfl (fun _ _ _ e => by cases e; rfl) ?_
    refine gd_iinc2 (b := nI 1) dX9_sweep_125 (by decide) rfl ?_
    rw [nI_add]
    refine gd_goto 17 dX9_sweep_128 (by decide) ?_
    exact gg
  · intro z hz ih2 h' l4 l5 q
    have em : (mfN s g d) (40 * c + z) = msN s g c z d := by unfold mfN; rw [(ix_cz hz).1, (ix_cz hz).2]
    have ec : cdN d (40 * c + z) = 1000 * c + 10 * z + d := by unfold cdN; rw [(ix_cz hz).1, (ix_cz hz).2]
    have cs := cd_sh (d := d) (i := 40 * c + z) hd (by omega)
    have gmo := m_missOf w q.2.1 cs.1
    rw [cs.2.1, cs.2.2.1, cs.2.2.2, (ix_cz hz).1, (ix_cz hz).2] at gmo
    have ml := ms_le w g c z d
    have wl := wt_le (msN s g c z d)
    by_cases y : 40 * c + z = 0 ∨ (mfN s g d) (40 * c + z) < (mfN s g d) (amN (mfN s g d) (40 * c + z))
    · have hq : SWI h s g d c (z + 1) (sI (sI (sL h' 88 (vp_updL (h'.2 88) c (lN (sumN (fun z => wtN (msN s g c z d)) (z + 1))))) 72 (upd (h'.1 72) 25 (nI (cdN d (40 * c + z))))) 72 (upd ((sI (sL h' 88 (vp_updL (h'.2 88) c (lN (sumN (fun z => wtN (msN s g c z d)) (z + 1))))) 72 (upd (h'.1 72) 25 (nI (cdN d (40 * c + z))))).1 72) 26 (nI (msN s g c z d)))) := by
        refine ⟨((q.1.sl (by omega)).s72 (by decide) (by decide)).s72 (by decide) (by decide), ((q.2.1.sl 88 _).s72 (by decide)).s72 (by decide), fun u hu => (updL_n (by omega)).trans (q.2.2.1 u hu), updL_ss _ _ _, q.2.2.2.2.1, ?_, ?_⟩
        · rw [show 40 * c + (z + 1) = 40 * c + z + 1 from rfl, (bs_y y).1]; rfl
        · rw [show 40 * c + (z + 1) = 40 * c + z + 1 from rfl, (bs_y (d := d) y).2, em]; rfl
      obtain ⟨h2, gg, r⟩ := ih2 _ (.int (nI (cdN d (40 * c + z)))) (.int (nI (msN s g c z d))) hq
      refine ⟨h2, ?_, r⟩
      by_cases i0 : 40 * c + z = 0
      · refine gd_ild3 dX9_sweep_33 ?_
        refine gd_bipush (v := nI 40) dX9_sweep_34 (by decide) ?_
        refine gd_icmp_ge_f 110 dX9_sweep_36 (by decide) (by exact nI_ge (by omega) (by omega)) ?_
        refine gd_sipush (v := nI 1000) dX9_sweep_39 (by decide) ?_
        refine gd_ild2 dX9_sweep_42 ?_
        refine gd_imul dX9_sweep_43 ?_
        refine gd_bipush (v := nI 10) dX9_sweep_44 (by decide) ?_
        refine gd_ild3 dX9_sweep_46 ?_
        refine gd_imul dX9_sweep_47 ?_
        refine gd_iadd dX9_sweep_48 ?_
        refine gd_ild1 dX9_sweep_49 ?_
        refine gd_iadd dX9_sweep_50 ?_
        rw [pk_mul, pk_mul, nI_add, nI_add, ← ec]
        refine gd_ist4 dX9_sweep_51 rfl ?_
        refine gd_ald0 dX9_sweep_53 (by decide) ?_
        refine gd_ild4 dX9_sweep_54 ?_
        refine gd_cV1i dX9_sweep_56 ct_9_228 rc_72 ⟨Nat.le_of_ble_eq_true rfl, Nat.le_of_ble_eq_true rfl⟩ (Nat.le_of_ble_eq_true rfl) (Nat.le_of_ble_eq_true rfl) (gmo) ?_
        refine gd_ist5 dX9_sweep_59 rfl ?_
        refine gd_ald0 dX9_sweep_61 (by decide) ?_
        refine gd_getR (r := 88) dX9_sweep_62 fl_9_56 rfl rfl rfl (by decide) ?_
        refine gd_ild2 dX9_sweep_65 ?_
        refine gd_dup2 (by decide) dX9_sweep_66 ?_
        refine gd_lald (n := 144) dX9_sweep_67 rfl (by decide) (by repeat' (first | with_reducible rfl | apply ni_add | apply ni_mul)) (by omega) ?_
        rw [q.2.2.2.1]
        refine gd_ild5 dX9_sweep_68 ?_
        refine gd_cS1i dX9_sweep_70 ct_9_247 ⟨Nat.le_of_ble_eq_true rfl, Nat.le_of_ble_eq_true rfl⟩ (Nat.le_of_ble_eq_true rfl) (Nat.le_of_ble_eq_true rfl) (m_weightOf (by omega) _) ?_
        refine gd_i2l dX9_sweep_73 ?_
        rw [i2l_n (by omega)]
        refine gd_ladd dX9_sweep_74 ?_
        rw [lN_add, show sumN (fun z => wtN (msN s g c z d)) z + wtN (msN s g c z d) = sumN (fun z => wtN (msN s g c z d)) (z + 1) from rfl]
        refine gd_last (n := 144) dX9_sweep_75 rfl (by decide) (by repeat' (first | with_reducible rfl | apply ni_add | apply ni_mul)) (by omega) ?_
        refine gd_ald0 dX9_sweep_76 (by decide) ?_
        refine gd_getI dX9_sweep_77 fl_9_253 rfl rfl ?_
        rw [show (sL h' 88 (vp_updL (h'.2 88) c (lN (sumN (fun z => wtN (msN s g c z d)) (z + 1))))).1 72 25 = bsI (mfN s g d) d (40 * c + z) from q.2.2.2.2.2.1]
        refine gd_if_lt_t 92 dX9_sweep_80 (by decide) ((bs_lt hd (by omega)).mpr i0) ?_
        refine gd_ald0 dX9_sweep_92 (by decide) ?_
        refine gd_ild4 dX9_sweep_93 ?_
        refine gd_putI dX9_sweep_95 fl_9_253 rfl rfl (fun _ _ _ e => by cases e; rfl) ?_
        refine gd_ald0 dX9_sweep_98 (by decide) ?_
        refine gd_ild5 dX9_sweep_99 ?_
        refine gd_putI dX9_sweep_101 fl_9_256 rfl rfl (fun _ _ _ e => by cases e; rfl) ?_
        refine gd_iinc3 (b := nI 1) dX9_sweep_104 (by decide) rfl ?_
        rw [nI_add]
        refine gd_goto 33 dX9_sweep_107 (by decide) ?_
        exact gg
      · have y2 : (mfN s g d) (40 * c + z) < (mfN s g d) (amN (mfN s g d) (40 * c + z)) := by omega
        refine gd_ild3 dX9_sweep_33 ?_
        refine gd_bipush (v := nI 40) dX9_sweep_34 (by decide) ?_
        refine gd_icmp_ge_f 110 dX9_sweep_36 (by decide) (by exact nI_ge (by omega) (by omega)) ?_
        refine gd_sipush (v := nI 1000) dX9_sweep_39 (by decide) ?_
        refine gd_ild2 dX9_sweep_42 ?_
        refine gd_imul dX9_sweep_43 ?_
        refine gd_bipush (v := nI 10) dX9_sweep_44 (by decide) ?_
        refine gd_ild3 dX9_sweep_46 ?_
        refine gd_imul dX9_sweep_47 ?_
        refine gd_iadd dX9_sweep_48 ?_
        refine gd_ild1 dX9_sweep_49 ?_
        refine gd_iadd dX9_sweep_50 ?_
        rw [pk_mul, pk_mul, nI_add, nI_add, ← ec]
        refine gd_ist4 dX9_sweep_51 rfl ?_
        refine gd_ald0 dX9_sweep_53 (by decide) ?_
        refine gd_ild4 dX9_sweep_54 ?_
        refine gd_cV1i dX9_sweep_56 ct_9_228 rc_72 ⟨Nat.le_of_ble_eq_true rfl, Nat.le_of_ble_eq_true rfl⟩ (Nat.le_of_ble_eq_true rfl) (Nat.le_of_ble_eq_true rfl) (gmo) ?_
        refine gd_ist5 dX9_sweep_59 rfl ?_
        refine gd_ald0 dX9_sweep_61 (by decide) ?_
        refine gd_getR (r := 88) dX9_sweep_62 fl_9_56 rfl rfl rfl (by decide) ?_
        refine gd_ild2 dX9_sweep_65 ?_
        refine gd_dup2 (by decide) dX9_sweep_66 ?_
        refine gd_lald (n := 144) dX9_sweep_67 rfl (by decide) (by repeat' (first | with_reducible rfl | apply ni_add | apply ni_mul)) (by omega) ?_
        rw [q.2.2.2.1]
        refine gd_ild5 dX9_sweep_68 ?_
        refine gd_cS1i dX9_sweep_70 ct_9_247 ⟨Nat.le_of_ble_eq_true rfl, Nat.le_of_ble_eq_true rfl⟩ (Nat.le_of_ble_eq_true rfl) (Nat.le_of_ble_eq_true rfl) (m_weightOf (by omega) _) ?_
        refine gd_i2l dX9_sweep_73 ?_
        rw [i2l_n (by omega)]
        refine gd_ladd dX9_sweep_74 ?_
        rw [lN_add, show sumN (fun z => wtN (msN s g c z d)) z + wtN (msN s g c z d) = sumN (fun z => wtN (msN s g c z d)) (z + 1) from rfl]
        refine gd_last (n := 144) dX9_sweep_75 rfl (by decide) (by repeat' (first | with_reducible rfl | apply ni_add | apply ni_mul)) (by omega) ?_
        refine gd_ald0 dX9_sweep_76 (by decide) ?_
        refine gd_getI dX9_sweep_77 fl_9_253 rfl rfl ?_
        rw [show (sL h' 88 (vp_updL (h'.2 88) c (lN (sumN (fun z => wtN (msN s g c z d)) (z + 1))))).1 72 25 = bsI (mfN s g d) d (40 * c + z) from q.2.2.2.2.2.1]
        refine gd_if_lt_f 92 dX9_sweep_80 (by decide) (fun x => i0 ((bs_lt hd (by omega)).mp x)) ?_
        refine gd_ild5 dX9_sweep_83 ?_
        refine gd_ald0 dX9_sweep_85 (by decide) ?_
        refine gd_getI dX9_sweep_86 fl_9_256 rfl rfl ?_
        rw [show (sL h' 88 (vp_updL (h'.2 88) c (lN (sumN (fun z => wtN (msN s g c z d)) (z + 1))))).1 72 26 = bmI (mfN s g d) (40 * c + z) from q.2.2.2.2.2.2]
        refine gd_icmp_ge_f 104 dX9_sweep_89 (by decide) (by unfold bmI; rw [if_neg i0, ← em]; exact nI_ge y2 (by have := fl (amN (mfN s g d) (40 * c + z)); omega)) ?_
        refine gd_ald0 dX9_sweep_92 (by decide) ?_
        refine gd_ild4 dX9_sweep_93 ?_
        refine gd_putI dX9_sweep_95 fl_9_253 rfl rfl (fun _ _ _ e => by cases e; rfl) ?_
        refine gd_ald0 dX9_sweep_98 (by decide) ?_
        refine gd_ild5 dX9_sweep_99 ?_
        refine gd_putI dX9_sweep_101 fl_9_256 rfl rfl (fun _ _ _ e => by cases e; rfl) ?_
        refine gd_iinc3 (b := nI 1) dX9_sweep_104 (by decide) rfl ?_
        rw [nI_add]
        refine gd_goto 33 dX9_sweep_107 (by decide) ?_
        exact gg
    · have hq : SWI h s g d c (z + 1) (sL h' 88 (vp_updL (h'.2 88) c (lN (sumN (fun z => wtN (msN s g c z d)) (z + 1))))) := by
        refine ⟨q.1.sl (by omega), q.2.1.sl 88 _, fun u hu => (updL_n (by omega)).trans (q.2.2.1 u hu), updL_ss _ _ _, q.2.2.2.2.1, ?_, ?_⟩
        · rw [show 40 * c + (z + 1) = 40 * c + z + 1 from rfl, (bs_n y).1]; exact q.2.2.2.2.2.1
        · rw [show 40 * c + (z + 1) = 40 * c + z + 1 from rfl, (bs_n (d := d) y).2]; exact q.2.2.2.2.2.2
      obtain ⟨h2, gg, r⟩ := ih2 _ (.int (nI (cdN d (40 * c + z)))) (.int (nI (msN s g c z d))) hq
      refine ⟨h2, ?_, r⟩
      refine gd_ild3 dX9_sweep_33 ?_
      refine gd_bipush (v := nI 40) dX9_sweep_34 (by decide) ?_
      refine gd_icmp_ge_f 110 dX9_sweep_36 (by decide) (by exact nI_ge (by omega) (by omega)) ?_
      refine gd_sipush (v := nI 1000) dX9_sweep_39 (by decide) ?_
      refine gd_ild2 dX9_sweep_42 ?_
      refine gd_imul dX9_sweep_43 ?_
      refine gd_bipush (v := nI 10) dX9_sweep_44 (by decide) ?_
      refine gd_ild3 dX9_sweep_46 ?_
      refine gd_imul dX9_sweep_47 ?_
      refine gd_iadd dX9_sweep_48 ?_
      refine gd_ild1 dX9_sweep_49 ?_
      refine gd_iadd dX9_sweep_50 ?_
      rw [pk_mul, pk_mul, nI_add, nI_add, ← ec]
      refine gd_ist4 dX9_sweep_51 rfl ?_
      refine gd_ald0 dX9_sweep_53 (by decide) ?_
      refine gd_ild4 dX9_sweep_54 ?_
      refine gd_cV1i dX9_sweep_56 ct_9_228 rc_72 ⟨Nat.le_of_ble_eq_true rfl, Nat.le_of_ble_eq_true rfl⟩ (Nat.le_of_ble_eq_true rfl) (Nat.le_of_ble_eq_true rfl) (gmo) ?_
      refine gd_ist5 dX9_sweep_59 rfl ?_
      refine gd_ald0 dX9_sweep_61 (by decide) ?_
      refine gd_getR (r := 88) dX9_sweep_62 fl_9_56 rfl rfl rfl (by decide) ?_
      refine gd_ild2 dX9_sweep_65 ?_
      refine gd_dup2 (by decide) dX9_sweep_66 ?_
      refine gd_lald (n := 144) dX9_sweep_67 rfl (by decide) (by repeat' (first | with_reducible rfl | apply ni_add | apply ni_mul)) (by omega) ?_
      rw [q.2.2.2.1]
      refine gd_ild5 dX9_sweep_68 ?_
      refine gd_cS1i dX9_sweep_70 ct_9_247 ⟨Nat.le_of_ble_eq_true rfl, Nat.le_of_ble_eq_true rfl⟩ (Nat.le_of_ble_eq_true rfl) (Nat.le_of_ble_eq_true rfl) (m_weightOf (by omega) _) ?_
      refine gd_i2l dX9_sweep_73 ?_
      rw [i2l_n (by omega)]
      refine gd_ladd dX9_sweep_74 ?_
      rw [lN_add, show sumN (fun z => wtN (msN s g c z d)) z + wtN (msN s g c z d) = sumN (fun z => wtN (msN s g c z d)) (z + 1) from rfl]
      refine gd_last (n := 144) dX9_sweep_75 rfl (by decide) (by repeat' (first | with_reducible rfl | apply ni_add | apply ni_mul)) (by omega) ?_
      refine gd_ald0 dX9_sweep_76 (by decide) ?_
      refine gd_getI dX9_sweep_77 fl_9_253 rfl rfl ?_
      rw [show (sL h' 88 (vp_updL (h'.2 88) c (lN (sumN (fun z => wtN (msN s g c z d)) (z + 1))))).1 72 25 = bsI (mfN s g d) d (40 * c + z) from q.2.2.2.2.2.1]
      refine gd_if_lt_f 92 dX9_sweep_80 (by decide) (fun x => y (Or.inl ((bs_lt hd (by omega)).mp x))) ?_
      refine gd_ild5 dX9_sweep_83 ?_
      refine gd_ald0 dX9_sweep_85 (by decide) ?_
      refine gd_getI dX9_sweep_86 fl_9_256 rfl rfl ?_
      rw [show (sL h' 88 (vp_updL (h'.2 88) c (lN (sumN (fun z => wtN (msN s g c z d)) (z + 1))))).1 72 26 = bmI (mfN s g d) (40 * c + z) from q.2.2.2.2.2.2]
      refine gd_icmp_ge_t 104 dX9_sweep_89 (by decide) (by unfold bmI; rw [if_neg (by omega), ← em]; exact nI_le (by omega) (by have := fl (40 * c + z); omega)) ?_
      refine gd_iinc3 (b := nI 1) dX9_sweep_104 (by decide) rfl ?_
      rw [nI_add]
      refine gd_goto 33 dX9_sweep_107 (by decide) ?_
      exact gg
theorem m_sweep {h : Hp} {s : Nat → Nat → Int32} (w : WF s) {g : Int32} (v : PV h s g) {d : Nat} (hd : d < 4) : ∃ h2, Gd mX9_sweep 0 [.ref 72, .int (nI d), .null, .null, .null, .null] [] h (none, h2) ∧ SWO h s g d 144 h2 := by
  have key : ∀ h' l3 l4 l5, SWO h s g d 0 h' → ∃ h2, Gd mX9_sweep 17 [.ref 72, .int (nI d), .int (nI 0), l3, l4, l5] [] h' (none, h2) ∧ SWO h s g d 144 h2 := by
    refine loopG (P := fun c => ∀ h' l3 l4 l5, SWO h s g d c h' → ∃ h2, Gd mX9_sweep 17 [.ref 72, .int (nI d), .int (nI c), l3, l4, l5] [] h' (none, h2) ∧ SWO h s g d 144 h2) (n := 144) ?_ ?_ 0 (by omega)
    · intro h' l3 l4 l5 q
      refine ⟨h', ?_, q⟩
      refine gd_ild2 dX9_sweep_17 ?_
      refine gd_sipush (v := nI 144) dX9_sweep_18 (by decide) ?_
      refine gd_icmp_ge_t 131 dX9_sweep_21 (by decide) (by exact nI_le (by omega) (by omega)) ?_
      refine gd_vret dX9_sweep_131 rfl ?_
      rfl
    · intro c hc ih h' l3 l4 l5 q
      obtain ⟨h2, gg, r⟩ := lp_sweep1 w hd hc ih (sL h' 88 (vp_updL (h'.2 88) c (lN 0))) l4 l5 ⟨q.1.sl (by omega), q.2.1.sl 88 _, fun u hu => (updL_n (by omega)).trans (q.2.2.1 u hu), updL_ss _ _ _, q.2.2.2.1, q.2.2.2.2.1, q.2.2.2.2.2⟩
      refine ⟨h2, ?_, r⟩
      refine gd_ild2 dX9_sweep_17 ?_
      refine gd_sipush (v := nI 144) dX9_sweep_18 (by decide) ?_
      refine gd_icmp_ge_f 131 dX9_sweep_21 (by decide) (by exact nI_ge (by omega) (by omega)) ?_
      refine gd_ald0 dX9_sweep_24 (by decide) ?_
      refine gd_getR (r := 88) dX9_sweep_25 fl_9_56 rfl rfl rfl (by decide) ?_
      refine gd_ild2 dX9_sweep_28 ?_
      refine gd_lc0 dX9_sweep_29 ?_
      refine gd_last (n := 144) dX9_sweep_30 rfl (by decide) (by repeat' (first | with_reducible rfl | apply ni_add | apply ni_mul)) (by omega) ?_
      refine gd_ic0 dX9_sweep_31 ?_
      refine gd_ist3 dX9_sweep_32 rfl ?_
      exact gg
  obtain ⟨h2, gg, r⟩ := key (sI (sI (sL h 72 (vp_updL (h.2 72) 24 (lN 0))) 72 (upd (h.1 72) 25 (-1))) 72 (upd (upd (h.1 72) 25 (-1)) 26 (nI 0))) .null .null .null ⟨((FM.rf h).sl (by omega)).s72 (by decide) (by decide) |>.s72 (by decide) (by decide), ((v.sl 72 _).s72 (by decide)).s72 (by decide), fun u hu => absurd hu (by omega), (by show vp_updL (h.2 72) 24 (lN 0) 24 = _; rw [updL_ss]; rfl), rfl, rfl⟩
  refine ⟨h2, ?_, r⟩
  refine gd_ald0 dX9_sweep_0 (by decide) ?_
  refine gd_lc0 dX9_sweep_1 ?_
  refine gd_putJ dX9_sweep_2 fl_9_250 rfl rfl (fun _ _ _ e => by cases e; rfl) ?_
  refine gd_ald0 dX9_sweep_5 (by decide) ?_
  refine gd_icm1 dX9_sweep_6 ?_
  refine gd_putI dX9_sweep_7 fl_9_253 rfl rfl (fun _ _ _ e => by cases e; rfl) ?_
  refine gd_ald0 dX9_sweep_10 (by decide) ?_
  refine gd_ic0 dX9_sweep_11 ?_
  refine gd_putI dX9_sweep_12 fl_9_256 rfl rfl (fun _ _ _ e => by cases e; rfl) ?_
  refine gd_ic0 dX9_sweep_15 ?_
  refine gd_ist2 dX9_sweep_16 rfl ?_
  exact gg
