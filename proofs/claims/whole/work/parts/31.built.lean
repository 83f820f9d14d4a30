
theorem cnt_ye {p : Nat → Bool} {j : Nat} (h : p j = true) : cntN p (j + 1) = cntN p j + 1 := by show cntN p j + _ = _; rw [h]; rfl
theorem lrng (a : Int64) (n : Nat) (hn : n < 2 ^ 31) : (∃ t, t < n ∧ a = lN t) ∨ ¬ (0 ≤ a ∧ a < lN n) := by
  by_cases h : 0 ≤ a ∧ a < lN n
  · left
    rw [Int64.le_iff_toInt_le, Int64.lt_iff_toInt_lt, lN_toInt hn, show (0 : Int64).toInt = 0 by decide] at h
    refine ⟨a.toInt.toNat, by omega, ?_⟩
    apply Int64.toInt_inj.mp
    rw [lN_toInt (by omega)]; omega
  · exact Or.inr h
def inB (f : Nat → Int64) (b j : Nat) : Prop := ∃ v, v < b ∧ f j = lN v
theorem belD (f : Nat → Int64) (b : Nat) (hb : b < 2 ^ 31) : ∀ n, (∀ j, j < n → inB f b j) ∨ ∃ k, k < n ∧ (∀ j, j < k → inB f b j) ∧ ¬ (0 ≤ f k ∧ f k < lN b) := by
  intro n
  induction n with
  | zero => exact Or.inl (fun j hj => absurd hj (by omega))
  | succ n ih =>
    rcases ih with a | ⟨k, a, b', c⟩
    · rcases lrng (f n) b hb with ⟨v, hv, e⟩ | e
      · left; intro j hj
        by_cases q : j = n
        · subst q; exact ⟨v, hv, e⟩
        · exact a j (by omega)
      · exact Or.inr ⟨n, by omega, a, e⟩
    · exact Or.inr ⟨k, by omega, b', c⟩
theorem lnot (v b : Nat) (hv : v < 2 ^ 31) : ¬ lN v < lN 0 := by rw [lN_lt hv (by decide)]; omega

theorem c_allBelow_t {h : Hp} {q b n : Nat} (hq : q < 4) (hz : h.1 59 q = nI n) (hn : n ≤ 40) (hb : b < 2 ^ 31) (ha : ∀ j, j < n → inB (fun j => h.2 57 (40 * q + j)) b j) : Gd mX3_allBelow 0 [.ref 56, .int (nI q), .int (nI b), .null] [] h (some (.int (nI 1)), h) := by
  have key := loopG (P := fun j => Gd mX3_allBelow 2 [.ref 56, .int (nI q), .int (nI b), .int (nI j)] [] h (some (.int (nI 1)), h)) (n := n) ?_ ?_ 0 (by omega)
  · refine gd_ic0 dX3_allBelow_0 ?_
    refine gd_ist3 dX3_allBelow_1 rfl ?_
    exact key
  · refine gd_ild3 dX3_allBelow_2 ?_
    refine gd_ald0 dX3_allBelow_3 (by decide) ?_
    refine gd_getR (r := 59) dX3_allBelow_4 fl_3_19 rfl rfl rfl (by decide) ?_
    refine gd_ild1 dX3_allBelow_7 ?_
    refine gd_iald (n := 4) dX3_allBelow_8 rfl (by decide) (by repeat' (first | with_reducible rfl | apply ni_add | apply ni_mul)) (by omega) ?_
    refine gd_icmp_ge_t 43 dX3_allBelow_9 (by decide) (by rw [hz]; exact nI_le (by omega) (by omega)) ?_
    refine gd_ic1 dX3_allBelow_43 ?_
    refine gd_iret dX3_allBelow_44 rfl (by first | rfl | decide | exact nar_bi _ | assumption) ?_
    rfl
  · intro j hj ih
    obtain ⟨v, hv, e⟩ := ha j (by omega)
    have e : h.2 57 (40 * q + j) = lN v := e
    refine gd_ild3 dX3_allBelow_2 ?_
    refine gd_ald0 dX3_allBelow_3 (by decide) ?_
    refine gd_getR (r := 59) dX3_allBelow_4 fl_3_19 rfl rfl rfl (by decide) ?_
    refine gd_ild1 dX3_allBelow_7 ?_
    refine gd_iald (n := 4) dX3_allBelow_8 rfl (by decide) (by repeat' (first | with_reducible rfl | apply ni_add | apply ni_mul)) (by omega) ?_
    refine gd_icmp_ge_f 43 dX3_allBelow_9 (by decide) (by rw [hz]; exact nI_ge (by omega) (by omega)) ?_
    refine gd_ald0 dX3_allBelow_12 (by decide) ?_
    refine gd_ild1 dX3_allBelow_13 ?_
    refine gd_ild3 dX3_allBelow_14 ?_
    refine gd_cV2l dX3_allBelow_15 ct_3_28 rc_56 ⟨Nat.le_of_ble_eq_true rfl, Nat.le_of_ble_eq_true rfl⟩ (Nat.le_of_ble_eq_true rfl) (Nat.le_of_ble_eq_true rfl) (c_at hq (by omega) _) ?_
    refine gd_lc0 dX3_allBelow_18 ?_
    refine gd_lcmp dX3_allBelow_19 ?_
    refine gd_if_lt_f 35 dX3_allBelow_20 (by decide) (fun z => lnot v b (by omega) (by rw [lg_cmp_lt, e] at z; exact z)) ?_
    refine gd_ald0 dX3_allBelow_23 (by decide) ?_
    refine gd_ild1 dX3_allBelow_24 ?_
    refine gd_ild3 dX3_allBelow_25 ?_
    refine gd_cV2l dX3_allBelow_26 ct_3_28 rc_56 ⟨Nat.le_of_ble_eq_true rfl, Nat.le_of_ble_eq_true rfl⟩ (Nat.le_of_ble_eq_true rfl) (Nat.le_of_ble_eq_true rfl) (c_at hq (by omega) _) ?_
    refine gd_ild2 dX3_allBelow_29 ?_
    refine gd_i2l dX3_allBelow_30 ?_
    refine gd_lcmp dX3_allBelow_31 ?_
    refine gd_if_lt_t 37 dX3_allBelow_32 (by decide) ((lg_cmp_lt _ _).mpr (by rw [e, nI_l hb, lN_lt (by omega) (by omega)]; omega)) ?_
    refine gd_iinc3 (b := nI 1) dX3_allBelow_37 (by decide) rfl ?_
    rw [nI_add]
    refine gd_goto 2 dX3_allBelow_40 (by decide) ?_
    exact ih
theorem c_allBelow_f {h : Hp} {q b n k : Nat} (hq : q < 4) (hz : h.1 59 q = nI n) (hn : n ≤ 40) (hb : b < 2 ^ 31) (hk : k < n) (ha : ∀ j, j < k → inB (fun j => h.2 57 (40 * q + j)) b j) (hx : ¬ (0 ≤ h.2 57 (40 * q + k) ∧ h.2 57 (40 * q + k) < lN b)) : Gd mX3_allBelow 0 [.ref 56, .int (nI q), .int (nI b), .null] [] h (some (.int (nI 0)), h) := by
  have key := loopG (P := fun j => Gd mX3_allBelow 2 [.ref 56, .int (nI q), .int (nI b), .int (nI j)] [] h (some (.int (nI 0)), h)) (n := k) ?_ ?_ 0 (by omega)
  · refine gd_ic0 dX3_allBelow_0 ?_
    refine gd_ist3 dX3_allBelow_1 rfl ?_
    exact key
  · by_cases z : h.2 57 (40 * q + k) < lN 0
    · refine gd_ild3 dX3_allBelow_2 ?_
      refine gd_ald0 dX3_allBelow_3 (by decide) ?_
      refine gd_getR (r := 59) dX3_allBelow_4 fl_3_19 rfl rfl rfl (by decide) ?_
      refine gd_ild1 dX3_allBelow_7 ?_
      refine gd_iald (n := 4) dX3_allBelow_8 rfl (by decide) (by repeat' (first | with_reducible rfl | apply ni_add | apply ni_mul)) (by omega) ?_
      refine gd_icmp_ge_f 43 dX3_allBelow_9 (by decide) (by rw [hz]; exact nI_ge (by omega) (by omega)) ?_
      refine gd_ald0 dX3_allBelow_12 (by decide) ?_
      refine gd_ild1 dX3_allBelow_13 ?_
      refine gd_ild3 dX3_allBelow_14 ?_
      refine gd_cV2l dX3_allBelow_15 ct_3_28 rc_56 ⟨Nat.le_of_ble_eq_true rfl, Nat.le_of_ble_eq_true rfl⟩ (Nat.le_of_ble_eq_true rfl) (Nat.le_of_ble_eq_true rfl) (c_at hq (by omega) _) ?_
      refine gd_lc0 dX3_allBelow_18 ?_
      refine gd_lcmp dX3_allBelow_19 ?_
      refine gd_if_lt_t 35 dX3_allBelow_20 (by decide) ((lg_cmp_lt _ _).mpr z) ?_
      refine gd_ic0 dX3_allBelow_35 ?_
      refine gd_iret dX3_allBelow_36 rfl (by first | rfl | decide | exact nar_bi _ | assumption) ?_
      rfl
    · refine gd_ild3 dX3_allBelow_2 ?_
      refine gd_ald0 dX3_allBelow_3 (by decide) ?_
      refine gd_getR (r := 59) dX3_allBelow_4 fl_3_19 rfl rfl rfl (by decide) ?_
      refine gd_ild1 dX3_allBelow_7 ?_
      refine gd_iald (n := 4) dX3_allBelow_8 rfl (by decide) (by repeat' (first | with_reducible rfl | apply ni_add | apply ni_mul)) (by omega) ?_
      refine gd_icmp_ge_f 43 dX3_allBelow_9 (by decide) (by rw [hz]; exact nI_ge (by omega) (by omega)) ?_
      refine gd_ald0 dX3_allBelow_12 (by decide) ?_
      refine gd_ild1 dX3_allBelow_13 ?_
      refine gd_ild3 dX3_allBelow_14 ?_
      refine gd_cV2l dX3_allBelow_15 ct_3_28 rc_56 ⟨Nat.le_of_ble_eq_true rfl, Nat.le_of_ble_eq_true rfl⟩ (Nat.le_of_ble_eq_true rfl) (Nat.le_of_ble_eq_true rfl) (c_at hq (by omega) _) ?_
      refine gd_lc0 dX3_allBelow_18 ?_
      refine gd_lcmp dX3_allBelow_19 ?_
      refine gd_if_lt_f 35 dX3_allBelow_20 (by decide) (fun y => z ((lg_cmp_lt _ _).mp y)) ?_
      refine gd_ald0 dX3_allBelow_23 (by decide) ?_
      refine gd_ild1 dX3_allBelow_24 ?_
      refine gd_ild3 dX3_allBelow_25 ?_
      refine gd_cV2l dX3_allBelow_26 ct_3_28 rc_56 ⟨Nat.le_of_ble_eq_true rfl, Nat.le_of_ble_eq_true rfl⟩ (Nat.le_of_ble_eq_true rfl) (Nat.le_of_ble_eq_true rfl) (c_at hq (by omega) _) ?_
      refine gd_ild2 dX3_allBelow_29 ?_
      refine gd_i2l dX3_allBelow_30 ?_
      refine gd_lcmp dX3_allBelow_31 ?_
      refine gd_if_lt_f 37 dX3_allBelow_32 (by decide) (fun y => hx ⟨Int64.not_lt.mp z, by rw [lg_cmp_lt, nI_l hb] at y; exact y⟩) ?_
      refine gd_ic0 dX3_allBelow_35 ?_
      refine gd_iret dX3_allBelow_36 rfl (by first | rfl | decide | exact nar_bi _ | assumption) ?_
      rfl
  · intro j hj ih
    obtain ⟨v, hv, e⟩ := ha j (by omega)
    have e : h.2 57 (40 * q + j) = lN v := e
    refine gd_ild3 dX3_allBelow_2 ?_
    refine gd_ald0 dX3_allBelow_3 (by decide) ?_
    refine gd_getR (r := 59) dX3_allBelow_4 fl_3_19 rfl rfl rfl (by decide) ?_
    refine gd_ild1 dX3_allBelow_7 ?_
    refine gd_iald (n := 4) dX3_allBelow_8 rfl (by decide) (by repeat' (first | with_reducible rfl | apply ni_add | apply ni_mul)) (by omega) ?_
    refine gd_icmp_ge_f 43 dX3_allBelow_9 (by decide) (by rw [hz]; exact nI_ge (by omega) (by omega)) ?_
    refine gd_ald0 dX3_allBelow_12 (by decide) ?_
    refine gd_ild1 dX3_allBelow_13 ?_
    refine gd_ild3 dX3_allBelow_14 ?_
    refine gd_cV2l dX3_allBelow_15 ct_3_28 rc_56 ⟨Nat.le_of_ble_eq_true rfl, Nat.le_of_ble_eq_true rfl⟩ (Nat.le_of_ble_eq_true rfl) (Nat.le_of_ble_eq_true rfl) (c_at hq (by omega) _) ?_
    refine gd_lc0 dX3_allBelow_18 ?_
    refine gd_lcmp dX3_allBelow_19 ?_
    refine gd_if_lt_f 35 dX3_allBelow_20 (by decide) (fun z => lnot v b (by omega) (by rw [lg_cmp_lt, e] at z; exact z)) ?_
    refine gd_ald0 dX3_allBelow_23 (by decide) ?_
    refine gd_ild1 dX3_allBelow_24 ?_
    refine gd_ild3 dX3_allBelow_25 ?_
    refine gd_cV2l dX3_allBelow_26 ct_3_28 rc_56 ⟨Nat.le_of_ble_eq_true rfl, Nat.le_of_ble_eq_true rfl⟩ (Nat.le_of_ble_eq_true rfl) (Nat.le_of_ble_eq_true rfl) (c_at hq (by omega) _) ?_
    refine gd_ild2 dX3_allBelow_29 ?_
    refine gd_i2l dX3_allBelow_30 ?_
    refine gd_lcmp dX3_allBelow_31 ?_
    refine gd_if_lt_t 37 dX3_allBelow_32 (by decide) ((lg_cmp_lt _ _).mpr (by rw [e, nI_l hb, lN_lt (by omega) (by omega)]; omega)) ?_
    refine gd_iinc3 (b := nI 1) dX3_allBelow_37 (by decide) rfl ?_
    rw [nI_add]
    refine gd_goto 2 dX3_allBelow_40 (by decide) ?_
    exact ih

def hr3 (f : Nat → Int32) (a j : Nat) (v : Nat → Int32) : Nat → Int32 := fun p => if a ≤ p ∧ p < a + j then v (p - a) else f p
theorem hr3_0 (f : Nat → Int32) (a : Nat) (v : Nat → Int32) : hr3 f a 0 v = f := by funext p; unfold hr3; rw [if_neg (by omega)]
theorem hr3_at (f : Nat → Int32) (a j : Nat) (v : Nat → Int32) : hr3 f a j v (a + j) = f (a + j) := by unfold hr3; rw [if_neg (by omega)]
theorem hr3_s (f : Nat → Int32) (a j : Nat) (v : Nat → Int32) : upd (hr3 f a j v) (a + j) (v j) = hr3 f a (j + 1) v := by
  funext p; rw [upd_at]; unfold hr3
  by_cases e : p = a + j
  · rw [if_pos e, if_pos (by omega), e, Nat.add_sub_cancel_left]
  · rw [if_neg e]
    by_cases e2 : a ≤ p ∧ p < a + j
    · rw [if_pos e2, if_pos (by omega)]
    · rw [if_neg e2, if_neg (by omega)]
theorem m_built1_t {h : Hp} {a : Int32} {q : Nat} {x : Option Value × Hp} (hq : q < 4) (ha : ∀ j, j < 3 → inB (fun j => h.2 92 (40 * q + j)) 10000 j) (g : ∀ l3 l4 l5, Gd mX9_built 102 [.ref 72, .int a, .int (nI q), l3, l4, l5] [] h x) : ∀ l4 l5, Gd mX9_built 56 [.ref 72, .int a, .int (nI q), .int (nI 0), l4, l5] [] h x := by
  refine loopG (P := fun j => ∀ l4 l5, Gd mX9_built 56 [.ref 72, .int a, .int (nI q), .int (nI j), l4, l5] [] h x) (n := 3) ?_ ?_ 0 (by omega)
  · intro l4 l5
    refine gd_ild3 dX9_built_56 ?_
    refine gd_ic3 dX9_built_57 ?_
    refine gd_icmp_ge_t 102 dX9_built_58 (by decide) (by exact nI_le (by omega) (by omega)) ?_
    exact g _ _ _
  · intro j hj ih l4 l5
    obtain ⟨v, hv, e⟩ := ha j (by omega)
    have e : h.2 92 (40 * q + j) = lN v := e
    refine gd_ild3 dX9_built_56 ?_
    refine gd_ic3 dX9_built_57 ?_
    refine gd_icmp_ge_f 102 dX9_built_58 (by decide) (by exact nI_ge (by omega) (by omega)) ?_
    refine gd_ald0 dX9_built_61 (by decide) ?_
    refine gd_getR (r := 92) dX9_built_62 fl_9_69 rfl rfl rfl (by decide) ?_
    refine gd_bipush (v := nI 40) dX9_built_65 (by decide) ?_
    refine gd_ild2 dX9_built_67 ?_
    refine gd_imul dX9_built_68 ?_
    refine gd_ild3 dX9_built_69 ?_
    refine gd_iadd dX9_built_70 ?_
    refine gd_lald (n := 160) dX9_built_71 rfl (by decide) (by rw [pk_mul, nI_add]) (by omega) ?_
    refine gd_lst4 dX9_built_72 rfl ?_
    refine gd_lld4 dX9_built_74 ?_
    refine gd_lc0 dX9_built_76 ?_
    refine gd_lcmp dX9_built_77 ?_
    refine gd_if_lt_f 90 dX9_built_78 (by decide) (fun z => lnot v 0 (by omega) (by rw [lg_cmp_lt, e] at z; exact z)) ?_
    refine gd_lld4 dX9_built_81 ?_
    refine gd_ldc2 dX9_built_83 l2_9_107 ?_
    refine gd_lcmp dX9_built_86 ?_
    refine gd_if_le_t 96 dX9_built_87 (by decide) ((lg_cmp_le _ _).mpr (by rw [e, lN_le (by omega) (by decide)]; omega)) ?_
    refine gd_iinc3 (b := nI 1) dX9_built_96 (by decide) rfl ?_
    rw [nI_add]
    refine gd_goto 56 dX9_built_99 (by decide) ?_
    exact ih _ _
theorem m_built1_f {h : Hp} {a : Int32} {q k : Nat} (hq : q < 4) (hk : k < 3) (ha : ∀ j, j < k → inB (fun j => h.2 92 (40 * q + j)) 10000 j) (hx : ¬ (0 ≤ h.2 92 (40 * q + k) ∧ h.2 92 (40 * q + k) < lN 10000)) : ∀ l4 l5, Gd mX9_built 56 [.ref 72, .int a, .int (nI q), .int (nI 0), l4, l5] [] h (some (.int ((-1000000000 : Int32) - nI 1)), hm h 0) := by
  refine loopG (P := fun j => ∀ l4 l5, Gd mX9_built 56 [.ref 72, .int a, .int (nI q), .int (nI j), l4, l5] [] h (some (.int ((-1000000000 : Int32) - nI 1)), hm h 0)) (n := k) ?_ ?_ 0 (by omega)
  · intro l4 l5
    have hle : ∀ y : Int64, y ≤ lN 9999 → y < lN 10000 := fun y hy => by
      rw [Int64.le_iff_toInt_le, lN_toInt (by decide)] at hy
      rw [Int64.lt_iff_toInt_lt, lN_toInt (by decide)]; omega
    by_cases z : h.2 92 (40 * q + k) < lN 0
    · refine gd_ild3 dX9_built_56 ?_
      refine gd_ic3 dX9_built_57 ?_
      refine gd_icmp_ge_f 102 dX9_built_58 (by decide) (by exact nI_ge (by omega) (by omega)) ?_
      refine gd_ald0 dX9_built_61 (by decide) ?_
      refine gd_getR (r := 92) dX9_built_62 fl_9_69 rfl rfl rfl (by decide) ?_
      refine gd_bipush (v := nI 40) dX9_built_65 (by decide) ?_
      refine gd_ild2 dX9_built_67 ?_
      refine gd_imul dX9_built_68 ?_
      refine gd_ild3 dX9_built_69 ?_
      refine gd_iadd dX9_built_70 ?_
      refine gd_lald (n := 160) dX9_built_71 rfl (by decide) (by rw [pk_mul, nI_add]) (by omega) ?_
      refine gd_lst4 dX9_built_72 rfl ?_
      refine gd_lld4 dX9_built_74 ?_
      refine gd_lc0 dX9_built_76 ?_
      refine gd_lcmp dX9_built_77 ?_
      refine gd_if_lt_t 90 dX9_built_78 (by decide) ((lg_cmp_lt _ _).mpr z) ?_
      refine gd_ald0 dX9_built_90 (by decide) ?_
      refine gd_ic1 dX9_built_91 ?_
      refine gd_cV1i dX9_built_92 ct_9_97 rc_72 ⟨Nat.le_of_ble_eq_true rfl, Nat.le_of_ble_eq_true rfl⟩ (Nat.le_of_ble_eq_true rfl) (Nat.le_of_ble_eq_true rfl) (m_f0 _) ?_
      refine gd_iret dX9_built_95 rfl rfl ?_
      rfl
    · refine gd_ild3 dX9_built_56 ?_
      refine gd_ic3 dX9_built_57 ?_
      refine gd_icmp_ge_f 102 dX9_built_58 (by decide) (by exact nI_ge (by omega) (by omega)) ?_
      refine gd_ald0 dX9_built_61 (by decide) ?_
      refine gd_getR (r := 92) dX9_built_62 fl_9_69 rfl rfl rfl (by decide) ?_
      refine gd_bipush (v := nI 40) dX9_built_65 (by decide) ?_
      refine gd_ild2 dX9_built_67 ?_
      refine gd_imul dX9_built_68 ?_
      refine gd_ild3 dX9_built_69 ?_
      refine gd_iadd dX9_built_70 ?_
      refine gd_lald (n := 160) dX9_built_71 rfl (by decide) (by rw [pk_mul, nI_add]) (by omega) ?_
      refine gd_lst4 dX9_built_72 rfl ?_
      refine gd_lld4 dX9_built_74 ?_
      refine gd_lc0 dX9_built_76 ?_
      refine gd_lcmp dX9_built_77 ?_
      refine gd_if_lt_f 90 dX9_built_78 (by decide) (fun y => z ((lg_cmp_lt _ _).mp y)) ?_
      refine gd_lld4 dX9_built_81 ?_
      refine gd_ldc2 dX9_built_83 l2_9_107 ?_
      refine gd_lcmp dX9_built_86 ?_
      refine gd_if_le_f 96 dX9_built_87 (by decide) (fun y => hx ⟨Int64.not_lt.mp z, hle _ ((lg_cmp_le _ _).mp y)⟩) ?_
      refine gd_ald0 dX9_built_90 (by decide) ?_
      refine gd_ic1 dX9_built_91 ?_
      refine gd_cV1i dX9_built_92 ct_9_97 rc_72 ⟨Nat.le_of_ble_eq_true rfl, Nat.le_of_ble_eq_true rfl⟩ (Nat.le_of_ble_eq_true rfl) (Nat.le_of_ble_eq_true rfl) (m_f0 _) ?_
      refine gd_iret dX9_built_95 rfl rfl ?_
      rfl
  · intro j hj ih l4 l5
    obtain ⟨v, hv, e⟩ := ha j (by omega)
    have e : h.2 92 (40 * q + j) = lN v := e
    refine gd_ild3 dX9_built_56 ?_
    refine gd_ic3 dX9_built_57 ?_
    refine gd_icmp_ge_f 102 dX9_built_58 (by decide) (by exact nI_ge (by omega) (by omega)) ?_
    refine gd_ald0 dX9_built_61 (by decide) ?_
    refine gd_getR (r := 92) dX9_built_62 fl_9_69 rfl rfl rfl (by decide) ?_
    refine gd_bipush (v := nI 40) dX9_built_65 (by decide) ?_
    refine gd_ild2 dX9_built_67 ?_
    refine gd_imul dX9_built_68 ?_
    refine gd_ild3 dX9_built_69 ?_
    refine gd_iadd dX9_built_70 ?_
    refine gd_lald (n := 160) dX9_built_71 rfl (by decide) (by rw [pk_mul, nI_add]) (by omega) ?_
    refine gd_lst4 dX9_built_72 rfl ?_
    refine gd_lld4 dX9_built_74 ?_
    refine gd_lc0 dX9_built_76 ?_
    refine gd_lcmp dX9_built_77 ?_
    refine gd_if_lt_f 90 dX9_built_78 (by decide) (fun z => lnot v 0 (by omega) (by rw [lg_cmp_lt, e] at z; exact z)) ?_
    refine gd_lld4 dX9_built_81 ?_
    refine gd_ldc2 dX9_built_83 l2_9_107 ?_
    refine gd_lcmp dX9_built_86 ?_
    refine gd_if_le_t 96 dX9_built_87 (by decide) ((lg_cmp_le _ _).mpr (by rw [e, lN_le (by omega) (by decide)]; omega)) ?_
    refine gd_iinc3 (b := nI 1) dX9_built_96 (by decide) rfl ?_
    rw [nI_add]
    refine gd_goto 56 dX9_built_99 (by decide) ?_
    exact ih _ _
theorem lp_built8 {h : Hp} (i : Inv h) {t q : Nat} (ht : t < nT (ms h)) (hq : q < 4) : ∀ l5, Gd mX8_built 87 [.ref 0, .int (nI t), .int (nI q), .int (nI (cntN (fun j => decide (¬ ms h 3 (6 * t + 3 + j) = (h.2 92 (40 * q + j)).toInt32)) 0)), .int (nI 0), l5] [] (h) (some (.int (nI (cntN (fun j => decide (¬ ms h 3 (6 * t + 3 + j) = (h.2 92 (40 * q + j)).toInt32)) 3))), sI h 5 (hr3 (h.1 5) (6 * t + 3) 3 (fun j => (h.2 92 (40 * q + j)).toInt32))) := by
  have lT := i.lT
  have key := loopG (P := fun j => ∀ l5, Gd mX8_built 87 [.ref 0, .int (nI t), .int (nI q), .int (nI (cntN (fun j => decide (¬ ms h 3 (6 * t + 3 + j) = (h.2 92 (40 * q + j)).toInt32)) j)), .int (nI j), l5] [] (sI h 5 (hr3 (h.1 5) (6 * t + 3) j (fun j => (h.2 92 (40 * q + j)).toInt32))) (some (.int (nI (cntN (fun j => decide (¬ ms h 3 (6 * t + 3 + j) = (h.2 92 (40 * q + j)).toInt32)) 3))), sI h 5 (hr3 (h.1 5) (6 * t + 3) 3 (fun j => (h.2 92 (40 * q + j)).toInt32)))) (n := 3) ?_ ?_ 0 (by omega)
  · rw [hr3_0, sI_id] at key
    exact key
  · intro l5
    refine gd_ild4 dX8_built_87 ?_
    refine gd_ic3 dX8_built_89 ?_
    refine gd_icmp_ge_t 137 dX8_built_90 (by decide) (by exact nI_le (by omega) (by omega)) ?_
    refine gd_ild3 dX8_built_137 ?_
    refine gd_iret dX8_built_138 rfl rfl ?_
    rfl
  · intro j hj ih l5
    by_cases e : ms h 3 (6 * t + 3 + j) = (h.2 92 (40 * q + j)).toInt32
    · have hp : (fun j => decide (¬ ms h 3 (6 * t + 3 + j) = (h.2 92 (40 * q + j)).toInt32)) j = false := decide_eq_false (fun z => z e)
      rw [cnt_no hp] at ih
      refine gd_ild4 dX8_built_87 ?_
      refine gd_ic3 dX8_built_89 ?_
      refine gd_icmp_ge_f 137 dX8_built_90 (by decide) (by exact nI_ge (by omega) (by omega)) ?_
      refine gd_ald0 dX8_built_93 (by decide) ?_
      refine gd_getR (r := 56) dX8_built_94 fl_8_33 rfl rfl rfl (by decide) ?_
      refine gd_ild2 dX8_built_97 ?_
      refine gd_ild4 dX8_built_98 ?_
      refine gd_cV2l dX8_built_100 ct_8_93 rc_56 ⟨Nat.le_of_ble_eq_true rfl, Nat.le_of_ble_eq_true rfl⟩ (Nat.le_of_ble_eq_true rfl) (Nat.le_of_ble_eq_true rfl) (c_at hq (by omega) _) ?_
      rw [show (sI h 5 (hr3 (h.1 5) (6 * t + 3) j (fun j => (h.2 92 (40 * q + j)).toInt32))).2 57 (40 * q + j) = h.2 92 (40 * q + j) from i.s.x _ (by omega)]
      refine gd_l2i dX8_built_103 ?_
      refine gd_ist5 dX8_built_104 rfl ?_
      refine gd_ald0 dX8_built_106 (by decide) ?_
      refine gd_getR (r := 1) dX8_built_107 fl_8_12 rfl rfl rfl (by decide) ?_
      refine gd_getR (r := 2) dX8_built_110 fl_8_57 rfl rfl rfl (by decide) ?_
      refine gd_ild1 dX8_built_113 ?_
      refine gd_ic3 dX8_built_114 ?_
      refine gd_ild4 dX8_built_115 ?_
      refine gd_iadd dX8_built_117 ?_
      rw [nI_add]
      refine gd_ild5 dX8_built_118 ?_
      refine gd_cV3i dX8_built_120 ct_8_78 rc_2 ⟨Nat.le_of_ble_eq_true rfl, Nat.le_of_ble_eq_true rfl⟩ (Nat.le_of_ble_eq_true rfl) (Nat.le_of_ble_eq_true rfl) (c_setHouses (by omega) (f := 3 + j) (by omega) _) ?_
      rw [show 6 * t + (3 + j) = 6 * t + 3 + j by omega, show (sI h 5 (hr3 (h.1 5) (6 * t + 3) j (fun j => (h.2 92 (40 * q + j)).toInt32))).1 5 (6 * t + 3 + j) = ms h 3 (6 * t + 3 + j) by rw [sI_s, hr3_at]; exact i.c.h1 _ (by omega), sI_s, hr3_s _ _ _ (fun j => (h.2 92 (40 * q + j)).toInt32), sI_sI]
      refine gd_ild5 dX8_built_123 ?_
      refine gd_icmp_eq_t 131 dX8_built_125 (by decide) (e) ?_
      refine gd_iinc4 (b := nI 1) dX8_built_131 (by decide) rfl ?_
      rw [nI_add]
      refine gd_goto 87 dX8_built_134 (by decide) ?_
      exact ih _
    · have hp : (fun j => decide (¬ ms h 3 (6 * t + 3 + j) = (h.2 92 (40 * q + j)).toInt32)) j = true := decide_eq_true e
      rw [cnt_ye hp] at ih
      refine gd_ild4 dX8_built_87 ?_
      refine gd_ic3 dX8_built_89 ?_
      refine gd_icmp_ge_f 137 dX8_built_90 (by decide) (by exact nI_ge (by omega) (by omega)) ?_
      refine gd_ald0 dX8_built_93 (by decide) ?_
      refine gd_getR (r := 56) dX8_built_94 fl_8_33 rfl rfl rfl (by decide) ?_
      refine gd_ild2 dX8_built_97 ?_
      refine gd_ild4 dX8_built_98 ?_
      refine gd_cV2l dX8_built_100 ct_8_93 rc_56 ⟨Nat.le_of_ble_eq_true rfl, Nat.le_of_ble_eq_true rfl⟩ (Nat.le_of_ble_eq_true rfl) (Nat.le_of_ble_eq_true rfl) (c_at hq (by omega) _) ?_
      rw [show (sI h 5 (hr3 (h.1 5) (6 * t + 3) j (fun j => (h.2 92 (40 * q + j)).toInt32))).2 57 (40 * q + j) = h.2 92 (40 * q + j) from i.s.x _ (by omega)]
      refine gd_l2i dX8_built_103 ?_
      refine gd_ist5 dX8_built_104 rfl ?_
      refine gd_ald0 dX8_built_106 (by decide) ?_
      refine gd_getR (r := 1) dX8_built_107 fl_8_12 rfl rfl rfl (by decide) ?_
      refine gd_getR (r := 2) dX8_built_110 fl_8_57 rfl rfl rfl (by decide) ?_
      refine gd_ild1 dX8_built_113 ?_
      refine gd_ic3 dX8_built_114 ?_
      refine gd_ild4 dX8_built_115 ?_
      refine gd_iadd dX8_built_117 ?_
      rw [nI_add]
      refine gd_ild5 dX8_built_118 ?_
      refine gd_cV3i dX8_built_120 ct_8_78 rc_2 ⟨Nat.le_of_ble_eq_true rfl, Nat.le_of_ble_eq_true rfl⟩ (Nat.le_of_ble_eq_true rfl) (Nat.le_of_ble_eq_true rfl) (c_setHouses (by omega) (f := 3 + j) (by omega) _) ?_
      rw [show 6 * t + (3 + j) = 6 * t + 3 + j by omega, show (sI h 5 (hr3 (h.1 5) (6 * t + 3) j (fun j => (h.2 92 (40 * q + j)).toInt32))).1 5 (6 * t + 3 + j) = ms h 3 (6 * t + 3 + j) by rw [sI_s, hr3_at]; exact i.c.h1 _ (by omega), sI_s, hr3_s _ _ _ (fun j => (h.2 92 (40 * q + j)).toInt32), sI_sI]
      refine gd_ild5 dX8_built_123 ?_
      refine gd_icmp_eq_f 131 dX8_built_125 (by decide) (e) ?_
      refine gd_iinc3 (b := nI 1) dX8_built_128 (by decide) rfl ?_
      rw [nI_add]
      refine gd_iinc4 (b := nI 1) dX8_built_131 (by decide) rfl ?_
      rw [nI_add]
      refine gd_goto 87 dX8_built_134 (by decide) ?_
      exact ih _
theorem lp_built9 {h : Hp} (i : Inv h) {t q : Nat} (ht : t < nT (ms h)) (hq : q < 4) : ∀ l5, Gd mX9_built 107 [.ref 72, .int (nI t), .int (nI q), .int (nI (cntN (fun j => decide (¬ ms h 3 (6 * t + 3 + j) = (h.2 92 (40 * q + j)).toInt32)) 0)), .int (nI 0), l5] [] (sI h 5 (hr3 (h.1 5) (6 * t + 3) 3 (fun j => (h.2 92 (40 * q + j)).toInt32))) (some (.int (nI (cntN (fun j => decide (¬ ms h 3 (6 * t + 3 + j) = (h.2 92 (40 * q + j)).toInt32)) 3))), sI (sI h 5 (hr3 (h.1 5) (6 * t + 3) 3 (fun j => (h.2 92 (40 * q + j)).toInt32))) 77 (hr3 (h.1 77) (6 * t + 3) 3 (fun j => (h.2 92 (40 * q + j)).toInt32))) := by
  have lT := i.lT
  have key := loopG (P := fun j => ∀ l5, Gd mX9_built 107 [.ref 72, .int (nI t), .int (nI q), .int (nI (cntN (fun j => decide (¬ ms h 3 (6 * t + 3 + j) = (h.2 92 (40 * q + j)).toInt32)) j)), .int (nI j), l5] [] (sI (sI h 5 (hr3 (h.1 5) (6 * t + 3) 3 (fun j => (h.2 92 (40 * q + j)).toInt32))) 77 (hr3 (h.1 77) (6 * t + 3) j (fun j => (h.2 92 (40 * q + j)).toInt32))) (some (.int (nI (cntN (fun j => decide (¬ ms h 3 (6 * t + 3 + j) = (h.2 92 (40 * q + j)).toInt32)) 3))), sI (sI h 5 (hr3 (h.1 5) (6 * t + 3) 3 (fun j => (h.2 92 (40 * q + j)).toInt32))) 77 (hr3 (h.1 77) (6 * t + 3) 3 (fun j => (h.2 92 (40 * q + j)).toInt32)))) (n := 3) ?_ ?_ 0 (by omega)
  · rw [hr3_0, show (h.1 77) = (sI h 5 (hr3 (h.1 5) (6 * t + 3) 3 (fun j => (h.2 92 (40 * q + j)).toInt32))).1 77 from rfl, sI_id] at key
    exact key
  · intro l5
    refine gd_ild4 dX9_built_107 ?_
    refine gd_ic3 dX9_built_109 ?_
    refine gd_icmp_ge_t 181 dX9_built_110 (by decide) (by exact nI_le (by omega) (by omega)) ?_
    refine gd_ild3 dX9_built_181 ?_
    refine gd_iret dX9_built_182 rfl rfl ?_
    rfl
  · intro j hj ih l5
    by_cases e : ms h 3 (6 * t + 3 + j) = (h.2 92 (40 * q + j)).toInt32
    · have hp : (fun j => decide (¬ ms h 3 (6 * t + 3 + j) = (h.2 92 (40 * q + j)).toInt32)) j = false := decide_eq_false (fun z => z e)
      rw [cnt_no hp] at ih
      refine gd_ild4 dX9_built_107 ?_
      refine gd_ic3 dX9_built_109 ?_
      refine gd_icmp_ge_f 181 dX9_built_110 (by decide) (by exact nI_ge (by omega) (by omega)) ?_
      refine gd_bipush (v := nI 6) dX9_built_113 (by decide) ?_
      refine gd_ild1 dX9_built_115 ?_
      refine gd_imul dX9_built_116 ?_
      refine gd_ic3 dX9_built_117 ?_
      refine gd_iadd dX9_built_118 ?_
      refine gd_ild4 dX9_built_119 ?_
      refine gd_iadd dX9_built_121 ?_
      rw [show nI 6 * nI t + nI 3 + nI j = nI (6 * t + 3 + j) by rw [pk_mul, nI_add, nI_add]]
      refine gd_ist5 dX9_built_122 rfl ?_
      refine gd_ild3 dX9_built_124 ?_
      refine gd_ald0 dX9_built_125 (by decide) ?_
      refine gd_getR (r := 77) dX9_built_126 fl_9_22 rfl rfl rfl (by decide) ?_
      refine gd_ild5 dX9_built_129 ?_
      refine gd_iald (n := 96) dX9_built_131 rfl (by decide) (rfl) (by omega) ?_
      rw [show (sI (sI h 5 (hr3 (h.1 5) (6 * t + 3) 3 (fun j => (h.2 92 (40 * q + j)).toInt32))) 77 (hr3 (h.1 77) (6 * t + 3) j (fun j => (h.2 92 (40 * q + j)).toInt32))).1 77 (6 * t + 3 + j) = ms h 3 (6 * t + 3 + j) by rw [sI_s, hr3_at]; exact (ms_r3 (by omega)).symm]
      refine gd_ald0 dX9_built_132 (by decide) ?_
      refine gd_getR (r := 92) dX9_built_133 fl_9_69 rfl rfl rfl (by decide) ?_
      refine gd_bipush (v := nI 40) dX9_built_136 (by decide) ?_
      refine gd_ild2 dX9_built_138 ?_
      refine gd_imul dX9_built_139 ?_
      refine gd_ild4 dX9_built_140 ?_
      refine gd_iadd dX9_built_142 ?_
      refine gd_lald (n := 160) dX9_built_143 rfl (by decide) (by rw [pk_mul, nI_add]) (by omega) ?_
      refine gd_l2i dX9_built_144 ?_
      refine gd_icmp_eq_t 152 dX9_built_145 (by decide) (e) ?_
      refine gd_ic0 dX9_built_152 ?_
      refine gd_iadd dX9_built_153 ?_
      rw [add_z]
      refine gd_ist3 dX9_built_154 rfl ?_
      refine gd_ald0 dX9_built_155 (by decide) ?_
      refine gd_getR (r := 77) dX9_built_156 fl_9_22 rfl rfl rfl (by decide) ?_
      refine gd_ild5 dX9_built_159 ?_
      refine gd_ald0 dX9_built_161 (by decide) ?_
      refine gd_getR (r := 92) dX9_built_162 fl_9_69 rfl rfl rfl (by decide) ?_
      refine gd_bipush (v := nI 40) dX9_built_165 (by decide) ?_
      refine gd_ild2 dX9_built_167 ?_
      refine gd_imul dX9_built_168 ?_
      refine gd_ild4 dX9_built_169 ?_
      refine gd_iadd dX9_built_171 ?_
      refine gd_lald (n := 160) dX9_built_172 rfl (by decide) (by rw [pk_mul, nI_add]) (by omega) ?_
      refine gd_l2i dX9_built_173 ?_
      refine gd_iast (n := 96) dX9_built_174 rfl (by decide) (rfl) (by omega) ?_
      refine gd_iinc4 (b := nI 1) dX9_built_175 (by decide) rfl ?_
      rw [nI_add]
      refine gd_goto 107 dX9_built_178 (by decide) ?_
      rw [show (sI (sI h 5 (hr3 (h.1 5) (6 * t + 3) 3 (fun j => (h.2 92 (40 * q + j)).toInt32))) 77 (hr3 (h.1 77) (6 * t + 3) j (fun j => (h.2 92 (40 * q + j)).toInt32))).2 92 (40 * q + j) = h.2 92 (40 * q + j) from rfl, sI_s, hr3_s _ _ _ (fun j => (h.2 92 (40 * q + j)).toInt32), sI_sI]
      exact ih _
    · have hp : (fun j => decide (¬ ms h 3 (6 * t + 3 + j) = (h.2 92 (40 * q + j)).toInt32)) j = true := decide_eq_true e
      rw [cnt_ye hp] at ih
      refine gd_ild4 dX9_built_107 ?_
      refine gd_ic3 dX9_built_109 ?_
      refine gd_icmp_ge_f 181 dX9_built_110 (by decide) (by exact nI_ge (by omega) (by omega)) ?_
      refine gd_bipush (v := nI 6) dX9_built_113 (by decide) ?_
      refine gd_ild1 dX9_built_115 ?_
      refine gd_imul dX9_built_116 ?_
      refine gd_ic3 dX9_built_117 ?_
      refine gd_iadd dX9_built_118 ?_
      refine gd_ild4 dX9_built_119 ?_
      refine gd_iadd dX9_built_121 ?_
      rw [show nI 6 * nI t + nI 3 + nI j = nI (6 * t + 3 + j) by rw [pk_mul, nI_add, nI_add]]
      refine gd_ist5 dX9_built_122 rfl ?_
      refine gd_ild3 dX9_built_124 ?_
      refine gd_ald0 dX9_built_125 (by decide) ?_
      refine gd_getR (r := 77) dX9_built_126 fl_9_22 rfl rfl rfl (by decide) ?_
      refine gd_ild5 dX9_built_129 ?_
      refine gd_iald (n := 96) dX9_built_131 rfl (by decide) (rfl) (by omega) ?_
      rw [show (sI (sI h 5 (hr3 (h.1 5) (6 * t + 3) 3 (fun j => (h.2 92 (40 * q + j)).toInt32))) 77 (hr3 (h.1 77) (6 * t + 3) j (fun j => (h.2 92 (40 * q + j)).toInt32))).1 77 (6 * t + 3 + j) = ms h 3 (6 * t + 3 + j) by rw [sI_s, hr3_at]; exact (ms_r3 (by omega)).symm]
      refine gd_ald0 dX9_built_132 (by decide) ?_
      refine gd_getR (r := 92) dX9_built_133 fl_9_69 rfl rfl rfl (by decide) ?_
      refine gd_bipush (v := nI 40) dX9_built_136 (by decide) ?_
      refine gd_ild2 dX9_built_138 ?_
      refine gd_imul dX9_built_139 ?_
      refine gd_ild4 dX9_built_140 ?_
      refine gd_iadd dX9_built_142 ?_
      refine gd_lald (n := 160) dX9_built_143 rfl (by decide) (by rw [pk_mul, nI_add]) (by omega) ?_
      refine gd_l2i dX9_built_144 ?_
      refine gd_icmp_eq_f 152 dX9_built_145 (by decide) (e) ?_
      refine gd_ic1 dX9_built_148 ?_
      refine gd_goto 153 dX9_built_149 (by decide) ?_
      refine gd_iadd dX9_built_153 ?_
      rw [nI_add]
      refine gd_ist3 dX9_built_154 rfl ?_
      refine gd_ald0 dX9_built_155 (by decide) ?_
      refine gd_getR (r := 77) dX9_built_156 fl_9_22 rfl rfl rfl (by decide) ?_
      refine gd_ild5 dX9_built_159 ?_
      refine gd_ald0 dX9_built_161 (by decide) ?_
      refine gd_getR (r := 92) dX9_built_162 fl_9_69 rfl rfl rfl (by decide) ?_
      refine gd_bipush (v := nI 40) dX9_built_165 (by decide) ?_
      refine gd_ild2 dX9_built_167 ?_
      refine gd_imul dX9_built_168 ?_
      refine gd_ild4 dX9_built_169 ?_
      refine gd_iadd dX9_built_171 ?_
      refine gd_lald (n := 160) dX9_built_172 rfl (by decide) (by rw [pk_mul, nI_add]) (by omega) ?_
      refine gd_l2i dX9_built_173 ?_
      refine gd_iast (n := 96) dX9_built_174 rfl (by decide) (rfl) (by omega) ?_
      refine gd_iinc4 (b := nI 1) dX9_built_175 (by decide) rfl ?_
      rw [nI_add]
      refine gd_goto 107 dX9_built_178 (by decide) ?_
      rw [show (sI (sI h 5 (hr3 (h.1 5) (6 * t + 3) 3 (fun j => (h.2 92 (40 * q + j)).toInt32))) 77 (hr3 (h.1 77) (6 * t + 3) j (fun j => (h.2 92 (40 * q + j)).toInt32))).2 92 (40 * q + j) = h.2 92 (40 * q + j) from rfl, sI_s, hr3_s _ _ _ (fun j => (h.2 92 (40 * q + j)).toInt32), sI_sI]
      exact ih _
set_option maxHeartbeats 1000000 in
theorem p_built {h : Hp} (i : Inv h) (a b : Int32) : Pas mX8_built mX9_built [.ref 0, .int a, .int b, .null, .null, .null] [.ref 72, .int a, .int b, .null, .null, .null] h := by
  have lT := i.lT
  rcases rng a (nT (ms h)) (by omega) with ⟨t, ht, rfl⟩ | ha
  · rcases rng b (4) (by decide) with ⟨q, hq, rfl⟩ | hb
    · have e91 := (i.s.n q hq).1
      have l91 := (i.s.n q hq).2
      have e59 : h.1 59 q = nI (tn (h.1 91 q)) := (i.s.z q hq).trans e91
      rcases i.s.v q hq with e90 | e90 | e90 | e90
      · have e58 : h.1 58 q = nI 0 := (i.s.w q hq).trans e90
        refine Pas.find (h1 := h) (h2 := hf (h) 5) (v := -1000000006) (w := (-1000000000 : Int32) - nI 6) 5 i (by decide) (by decide) (by decide) (Same.rf _) (Same.rf _) ?_ ?_
        · refine gd_ald0 dX8_built_0 (by decide) ?_
          refine gd_ild1 dX8_built_1 ?_
          refine gd_cV1i dX8_built_2 ct_8_74 rc_0 ⟨Nat.le_of_ble_eq_true rfl, Nat.le_of_ble_eq_true rfl⟩ (Nat.le_of_ble_eq_true rfl) (Nat.le_of_ble_eq_true rfl) (c_isTown_t i.w i.c ht) ?_
          refine gd_if_eq_f 16 dX8_built_5 (by decide) (by decide) ?_
          refine gd_ild2 dX8_built_8 ?_
          refine gd_ic4 dX8_built_9 ?_
          refine gd_cS2i dX8_built_10 ct_8_48 ⟨Nat.le_of_ble_eq_true rfl, Nat.le_of_ble_eq_true rfl⟩ (Nat.le_of_ble_eq_true rfl) (Nat.le_of_ble_eq_true rfl) (c_isBelow_t hq (by decide) _) ?_
          refine gd_if_ne_t 23 dX8_built_13 (by decide) (by decide) ?_
          refine gd_ald0 dX8_built_23 (by decide) ?_
          refine gd_getR (r := 56) dX8_built_24 fl_8_33 rfl rfl rfl (by decide) ?_
          refine gd_ild2 dX8_built_27 ?_
          refine gd_cV1i dX8_built_28 ct_8_82 rc_56 ⟨Nat.le_of_ble_eq_true rfl, Nat.le_of_ble_eq_true rfl⟩ (Nat.le_of_ble_eq_true rfl) (Nat.le_of_ble_eq_true rfl) (c_isMissing1 hq e58) ?_
          refine gd_if_eq_f 41 dX8_built_31 (by decide) (by decide) ?_
          refine gd_ald0 dX8_built_34 (by decide) ?_
          refine gd_ldc dX8_built_35 ld_8_85 ?_
          refine gd_cV1i dX8_built_37 ct_8_53 rc_0 ⟨Nat.le_of_ble_eq_true rfl, Nat.le_of_ble_eq_true rfl⟩ (Nat.le_of_ble_eq_true rfl) (Nat.le_of_ble_eq_true rfl) (c_f5 _) ?_
          refine gd_iret dX8_built_40 rfl rfl ?_
          rfl
        · refine gd_ald0 dX9_built_0 (by decide) ?_
          refine gd_ild1 dX9_built_1 ?_
          refine gd_cV1i dX9_built_2 ct_9_101 rc_72 ⟨Nat.le_of_ble_eq_true rfl, Nat.le_of_ble_eq_true rfl⟩ (Nat.le_of_ble_eq_true rfl) (Nat.le_of_ble_eq_true rfl) (m_isTown_t (h := hf h 5) (by exact i.w) ht) ?_
          refine gd_if_eq_f 15 dX9_built_5 (by decide) (by decide) ?_
          refine gd_ild2 dX9_built_8 ?_
          refine gd_cS1i dX9_built_9 ct_9_104 ⟨Nat.le_of_ble_eq_true rfl, Nat.le_of_ble_eq_true rfl⟩ (Nat.le_of_ble_eq_true rfl) (Nat.le_of_ble_eq_true rfl) (m_isSheet_t hq _) ?_
          refine gd_if_ne_t 21 dX9_built_12 (by decide) (by decide) ?_
          refine gd_ald0 dX9_built_21 (by decide) ?_
          refine gd_getR (r := 90) dX9_built_22 fl_9_63 rfl rfl rfl (by decide) ?_
          refine gd_ild2 dX9_built_25 ?_
          refine gd_iald (n := 4) dX9_built_26 rfl (by decide) (by repeat' (first | with_reducible rfl | apply ni_add | apply ni_mul)) (by omega) ?_
          refine gd_if_ne_f 37 dX9_built_27 (by decide) (by rw [show (hf h 5).1 90 q = nI 0 from e90]; decide) ?_
          refine gd_ald0 dX9_built_30 (by decide) ?_
          refine gd_bipush (v := nI 6) dX9_built_31 (by decide) ?_
          refine gd_cV1i dX9_built_33 ct_9_97 rc_72 ⟨Nat.le_of_ble_eq_true rfl, Nat.le_of_ble_eq_true rfl⟩ (Nat.le_of_ble_eq_true rfl) (Nat.le_of_ble_eq_true rfl) (m_f5 _) ?_
          refine gd_iret dX9_built_36 rfl rfl ?_
          rfl
      · have e58 : h.1 58 q = nI 8 := (i.s.w q hq).trans e90
        by_cases s3 : tn (h.1 91 q) = 3
        · rcases belD (fun j => h.2 92 (40 * q + j)) 10000 (by decide) 3 with ha | ⟨k, hk, ha, hx⟩
          · refine ⟨.int (nI (cntN (fun j => decide (¬ ms h 3 (6 * t + 3 + j) = (h.2 92 (40 * q + j)).toInt32)) 3)), sI h 5 (hr3 (h.1 5) (6 * t + 3) 3 (fun j => (h.2 92 (40 * q + j)).toInt32)), sI (sI h 5 (hr3 (h.1 5) (6 * t + 3) 3 (fun j => (h.2 92 (40 * q + j)).toInt32))) 77 (hr3 (h.1 77) (6 * t + 3) 3 (fun j => (h.2 92 (40 * q + j)).toInt32)), ?_, ?_, ?_, rfl, rfl⟩
            · refine gd_ald0 dX8_built_0 (by decide) ?_
              refine gd_ild1 dX8_built_1 ?_
              refine gd_cV1i dX8_built_2 ct_8_74 rc_0 ⟨Nat.le_of_ble_eq_true rfl, Nat.le_of_ble_eq_true rfl⟩ (Nat.le_of_ble_eq_true rfl) (Nat.le_of_ble_eq_true rfl) (c_isTown_t i.w i.c ht) ?_
              refine gd_if_eq_f 16 dX8_built_5 (by decide) (by decide) ?_
              refine gd_ild2 dX8_built_8 ?_
              refine gd_ic4 dX8_built_9 ?_
              refine gd_cS2i dX8_built_10 ct_8_48 ⟨Nat.le_of_ble_eq_true rfl, Nat.le_of_ble_eq_true rfl⟩ (Nat.le_of_ble_eq_true rfl) (Nat.le_of_ble_eq_true rfl) (c_isBelow_t hq (by decide) _) ?_
              refine gd_if_ne_t 23 dX8_built_13 (by decide) (by decide) ?_
              refine gd_ald0 dX8_built_23 (by decide) ?_
              refine gd_getR (r := 56) dX8_built_24 fl_8_33 rfl rfl rfl (by decide) ?_
              refine gd_ild2 dX8_built_27 ?_
              refine gd_cV1i dX8_built_28 ct_8_82 rc_56 ⟨Nat.le_of_ble_eq_true rfl, Nat.le_of_ble_eq_true rfl⟩ (Nat.le_of_ble_eq_true rfl) (Nat.le_of_ble_eq_true rfl) (c_isMissing0 hq e58 (by decide) (by decide)) ?_
              refine gd_if_eq_t 41 dX8_built_31 (by decide) (by decide) ?_
              refine gd_ald0 dX8_built_41 (by decide) ?_
              refine gd_getR (r := 56) dX8_built_42 fl_8_33 rfl rfl rfl (by decide) ?_
              refine gd_getR (r := 59) dX8_built_45 fl_8_86 rfl rfl rfl (by decide) ?_
              refine gd_ild2 dX8_built_48 ?_
              refine gd_iald (n := 4) dX8_built_49 rfl (by decide) (by repeat' (first | with_reducible rfl | apply ni_add | apply ni_mul)) (by omega) ?_
              rw [e59]
              refine gd_ic3 dX8_built_50 ?_
              refine gd_icmp_eq_t 61 dX8_built_51 (by decide) (by exact (nI_eq (by omega) (by omega)).mpr (by omega)) ?_
              refine gd_ald0 dX8_built_61 (by decide) ?_
              refine gd_getR (r := 56) dX8_built_62 fl_8_33 rfl rfl rfl (by decide) ?_
              refine gd_ild2 dX8_built_65 ?_
              refine gd_sipush (v := nI 10000) dX8_built_66 (by decide) ?_
              refine gd_cV2i dX8_built_69 ct_8_90 rc_56 ⟨Nat.le_of_ble_eq_true rfl, Nat.le_of_ble_eq_true rfl⟩ (Nat.le_of_ble_eq_true rfl) (Nat.le_of_ble_eq_true rfl) (c_allBelow_t hq (e59.trans (by rw [s3])) (by decide) (by decide) (fun j hj => by obtain ⟨v, hv, e⟩ := ha j hj; exact ⟨v, hv, (i.s.x _ (by omega)).trans e⟩)) ?_
              refine gd_if_ne_t 82 dX8_built_72 (by decide) (by decide) ?_
              refine gd_ic0 dX8_built_82 ?_
              refine gd_ist3 dX8_built_83 rfl ?_
              refine gd_ic0 dX8_built_84 ?_
              refine gd_ist4 dX8_built_85 rfl ?_
              exact lp_built8 i ht hq _
            · refine gd_ald0 dX9_built_0 (by decide) ?_
              refine gd_ild1 dX9_built_1 ?_
              refine gd_cV1i dX9_built_2 ct_9_101 rc_72 ⟨Nat.le_of_ble_eq_true rfl, Nat.le_of_ble_eq_true rfl⟩ (Nat.le_of_ble_eq_true rfl) (Nat.le_of_ble_eq_true rfl) (m_isTown_t (h := sI h 5 (hr3 (h.1 5) (6 * t + 3) 3 (fun j => (h.2 92 (40 * q + j)).toInt32))) (by exact i.w) ht) ?_
              refine gd_if_eq_f 15 dX9_built_5 (by decide) (by decide) ?_
              refine gd_ild2 dX9_built_8 ?_
              refine gd_cS1i dX9_built_9 ct_9_104 ⟨Nat.le_of_ble_eq_true rfl, Nat.le_of_ble_eq_true rfl⟩ (Nat.le_of_ble_eq_true rfl) (Nat.le_of_ble_eq_true rfl) (m_isSheet_t hq _) ?_
              refine gd_if_ne_t 21 dX9_built_12 (by decide) (by decide) ?_
              refine gd_ald0 dX9_built_21 (by decide) ?_
              refine gd_getR (r := 90) dX9_built_22 fl_9_63 rfl rfl rfl (by decide) ?_
              refine gd_ild2 dX9_built_25 ?_
              refine gd_iald (n := 4) dX9_built_26 rfl (by decide) (by repeat' (first | with_reducible rfl | apply ni_add | apply ni_mul)) (by omega) ?_
              refine gd_if_ne_t 37 dX9_built_27 (by decide) (by rw [show (sI h 5 (hr3 (h.1 5) (6 * t + 3) 3 (fun j => (h.2 92 (40 * q + j)).toInt32))).1 90 q = nI 8 from e90]; decide) ?_
              refine gd_ald0 dX9_built_37 (by decide) ?_
              refine gd_getR (r := 91) dX9_built_38 fl_9_66 rfl rfl rfl (by decide) ?_
              refine gd_ild2 dX9_built_41 ?_
              refine gd_iald (n := 4) dX9_built_42 rfl (by decide) (by repeat' (first | with_reducible rfl | apply ni_add | apply ni_mul)) (by omega) ?_
              rw [show (sI h 5 (hr3 (h.1 5) (6 * t + 3) 3 (fun j => (h.2 92 (40 * q + j)).toInt32))).1 91 q = nI (tn (h.1 91 q)) from e91]
              refine gd_ic3 dX9_built_43 ?_
              refine gd_icmp_eq_t 54 dX9_built_44 (by decide) (by exact (nI_eq (by omega) (by omega)).mpr (by omega)) ?_
              refine gd_ic0 dX9_built_54 ?_
              refine gd_ist3 dX9_built_55 rfl ?_
              exact m_built1_t (h := sI h 5 (hr3 (h.1 5) (6 * t + 3) 3 (fun j => (h.2 92 (40 * q + j)).toInt32))) hq ha (fun l3 l4 l5 => by
                refine gd_ic0 dX9_built_102 ?_
                refine gd_ist3 dX9_built_103 rfl ?_
                refine gd_ic0 dX9_built_104 ?_
                refine gd_ist4 dX9_built_105 rfl ?_
                exact lp_built9 i ht hq _) _ _
            · have em : ms (sI (sI h 5 (hr3 (h.1 5) (6 * t + 3) 3 (fun j => (h.2 92 (40 * q + j)).toInt32))) 77 (hr3 (h.1 77) (6 * t + 3) 3 (fun j => (h.2 92 (40 * q + j)).toInt32))) = sR (ms h) 3 (trR 3 (hr3 (h.1 77) (6 * t + 3) 3 (fun j => (h.2 92 (40 * q + j)).toInt32))) := by
                rw [ms_set 3 (by decide), ms_si (Or.inl (by decide))]
              skip
              refine inv_world i (fun k hk => by rw [sI_n (by omega), sI_n (by omega)]) rfl ?_ ?_
              · rw [em]
                refine ⟨i.w.t, i.w.n, i.w.x, i.w.o, i.w.d, i.w.g, i.w.c, ?_, i.w.l, i.w.f, i.w.c6, i.w.r, i.w.k⟩
                · intro j hj
                  have hj : j < 6 * nT (ms h) := hj
                  show ∃ z, z < 10000 ∧ trR 3 (hr3 (h.1 77) (6 * t + 3) 3 (fun j => (h.2 92 (40 * q + j)).toInt32)) j = nI z
                  rw [trR_at (show j < 96 by omega)]
                  unfold hr3
                  split
                  · obtain ⟨v, hv, e⟩ := ha (j - (6 * t + 3)) (by omega)
                    exact ⟨v, hv, by show (h.2 92 (40 * q + (j - (6 * t + 3)))).toInt32 = _; rw [show h.2 92 (40 * q + (j - (6 * t + 3))) = lN v from e, lN_i]⟩
                  · rw [← ms_r3 (by omega)]; exact i.w.h j hj
              · rw [em]
                refine ⟨i.c.t, i.c.d, i.c.n, i.c.x, i.c.o, i.c.g, i.c.c, ?_, ?_, i.c.lk, i.c.lt, i.c.lw, i.c.ld, i.c.lr, i.c.lq, i.c.lf, i.c.le, i.c.lo, i.c.f, i.c.c6, i.c.rk, i.c.rl, i.c.rh, i.c.ks, i.c.km, i.c.kd⟩
                · intro j hj
                  have hj : j < 6 * nT (ms h) := hj
                  show hr3 (h.1 5) (6 * t + 3) 3 (fun j => (h.2 92 (40 * q + j)).toInt32) j = trR 3 (hr3 (h.1 77) (6 * t + 3) 3 (fun j => (h.2 92 (40 * q + j)).toInt32)) j
                  rw [trR_at (show j < 96 by omega)]
                  unfold hr3
                  rw [i.c.h1 j hj, ms_r3 (by omega)]
                · intro j h1 h2
                  have h2 : 6 * nT (ms h) ≤ j := h2
                  show hr3 (h.1 5) (6 * t + 3) 3 (fun j => (h.2 92 (40 * q + j)).toInt32) j = nI 0
                  unfold hr3
                  rw [if_neg (by omega)]
                  exact i.c.h01 j h1 h2
          · refine Pas.find (h1 := h) (h2 := hf (h) 0) (v := -1000000001) (w := (-1000000000 : Int32) - nI 1) 0 i (by decide) (by decide) (by decide) (Same.rf _) (Same.rf _) ?_ ?_
            · refine gd_ald0 dX8_built_0 (by decide) ?_
              refine gd_ild1 dX8_built_1 ?_
              refine gd_cV1i dX8_built_2 ct_8_74 rc_0 ⟨Nat.le_of_ble_eq_true rfl, Nat.le_of_ble_eq_true rfl⟩ (Nat.le_of_ble_eq_true rfl) (Nat.le_of_ble_eq_true rfl) (c_isTown_t i.w i.c ht) ?_
              refine gd_if_eq_f 16 dX8_built_5 (by decide) (by decide) ?_
              refine gd_ild2 dX8_built_8 ?_
              refine gd_ic4 dX8_built_9 ?_
              refine gd_cS2i dX8_built_10 ct_8_48 ⟨Nat.le_of_ble_eq_true rfl, Nat.le_of_ble_eq_true rfl⟩ (Nat.le_of_ble_eq_true rfl) (Nat.le_of_ble_eq_true rfl) (c_isBelow_t hq (by decide) _) ?_
              refine gd_if_ne_t 23 dX8_built_13 (by decide) (by decide) ?_
              refine gd_ald0 dX8_built_23 (by decide) ?_
              refine gd_getR (r := 56) dX8_built_24 fl_8_33 rfl rfl rfl (by decide) ?_
              refine gd_ild2 dX8_built_27 ?_
              refine gd_cV1i dX8_built_28 ct_8_82 rc_56 ⟨Nat.le_of_ble_eq_true rfl, Nat.le_of_ble_eq_true rfl⟩ (Nat.le_of_ble_eq_true rfl) (Nat.le_of_ble_eq_true rfl) (c_isMissing0 hq e58 (by decide) (by decide)) ?_
              refine gd_if_eq_t 41 dX8_built_31 (by decide) (by decide) ?_
              refine gd_ald0 dX8_built_41 (by decide) ?_
              refine gd_getR (r := 56) dX8_built_42 fl_8_33 rfl rfl rfl (by decide) ?_
              refine gd_getR (r := 59) dX8_built_45 fl_8_86 rfl rfl rfl (by decide) ?_
              refine gd_ild2 dX8_built_48 ?_
              refine gd_iald (n := 4) dX8_built_49 rfl (by decide) (by repeat' (first | with_reducible rfl | apply ni_add | apply ni_mul)) (by omega) ?_
              rw [e59]
              refine gd_ic3 dX8_built_50 ?_
              refine gd_icmp_eq_t 61 dX8_built_51 (by decide) (by exact (nI_eq (by omega) (by omega)).mpr (by omega)) ?_
              refine gd_ald0 dX8_built_61 (by decide) ?_
              refine gd_getR (r := 56) dX8_built_62 fl_8_33 rfl rfl rfl (by decide) ?_
              refine gd_ild2 dX8_built_65 ?_
              refine gd_sipush (v := nI 10000) dX8_built_66 (by decide) ?_
              refine gd_cV2i dX8_built_69 ct_8_90 rc_56 ⟨Nat.le_of_ble_eq_true rfl, Nat.le_of_ble_eq_true rfl⟩ (Nat.le_of_ble_eq_true rfl) (Nat.le_of_ble_eq_true rfl) (c_allBelow_f hq (e59.trans (by rw [s3])) (by decide) (by decide) hk (fun j hj => by obtain ⟨v, hv, e⟩ := ha j hj; exact ⟨v, hv, (i.s.x _ (by omega)).trans e⟩) (by rw [i.s.x _ (by omega)]; exact hx)) ?_
              refine gd_if_ne_f 82 dX8_built_72 (by decide) (by decide) ?_
              refine gd_ald0 dX8_built_75 (by decide) ?_
              refine gd_ldc dX8_built_76 ld_8_52 ?_
              refine gd_cV1i dX8_built_78 ct_8_53 rc_0 ⟨Nat.le_of_ble_eq_true rfl, Nat.le_of_ble_eq_true rfl⟩ (Nat.le_of_ble_eq_true rfl) (Nat.le_of_ble_eq_true rfl) (c_f0 _) ?_
              refine gd_iret dX8_built_81 rfl rfl ?_
              rfl
            · refine gd_ald0 dX9_built_0 (by decide) ?_
              refine gd_ild1 dX9_built_1 ?_
              refine gd_cV1i dX9_built_2 ct_9_101 rc_72 ⟨Nat.le_of_ble_eq_true rfl, Nat.le_of_ble_eq_true rfl⟩ (Nat.le_of_ble_eq_true rfl) (Nat.le_of_ble_eq_true rfl) (m_isTown_t (h := hf h 0) (by exact i.w) ht) ?_
              refine gd_if_eq_f 15 dX9_built_5 (by decide) (by decide) ?_
              refine gd_ild2 dX9_built_8 ?_
              refine gd_cS1i dX9_built_9 ct_9_104 ⟨Nat.le_of_ble_eq_true rfl, Nat.le_of_ble_eq_true rfl⟩ (Nat.le_of_ble_eq_true rfl) (Nat.le_of_ble_eq_true rfl) (m_isSheet_t hq _) ?_
              refine gd_if_ne_t 21 dX9_built_12 (by decide) (by decide) ?_
              refine gd_ald0 dX9_built_21 (by decide) ?_
              refine gd_getR (r := 90) dX9_built_22 fl_9_63 rfl rfl rfl (by decide) ?_
              refine gd_ild2 dX9_built_25 ?_
              refine gd_iald (n := 4) dX9_built_26 rfl (by decide) (by repeat' (first | with_reducible rfl | apply ni_add | apply ni_mul)) (by omega) ?_
              refine gd_if_ne_t 37 dX9_built_27 (by decide) (by rw [show (hf h 0).1 90 q = nI 8 from e90]; decide) ?_
              refine gd_ald0 dX9_built_37 (by decide) ?_
              refine gd_getR (r := 91) dX9_built_38 fl_9_66 rfl rfl rfl (by decide) ?_
              refine gd_ild2 dX9_built_41 ?_
              refine gd_iald (n := 4) dX9_built_42 rfl (by decide) (by repeat' (first | with_reducible rfl | apply ni_add | apply ni_mul)) (by omega) ?_
              rw [show (hf h 0).1 91 q = nI (tn (h.1 91 q)) from e91]
              refine gd_ic3 dX9_built_43 ?_
              refine gd_icmp_eq_t 54 dX9_built_44 (by decide) (by exact (nI_eq (by omega) (by omega)).mpr (by omega)) ?_
              refine gd_ic0 dX9_built_54 ?_
              refine gd_ist3 dX9_built_55 rfl ?_
              exact m_built1_f (h := hf h 0) hq hk ha hx _ _
        · refine Pas.find (h1 := h) (h2 := hf (h) 6) (v := -1000000007) (w := (-1000000000 : Int32) - nI 7) 6 i (by decide) (by decide) (by decide) (Same.rf _) (Same.rf _) ?_ ?_
          · refine gd_ald0 dX8_built_0 (by decide) ?_
            refine gd_ild1 dX8_built_1 ?_
            refine gd_cV1i dX8_built_2 ct_8_74 rc_0 ⟨Nat.le_of_ble_eq_true rfl, Nat.le_of_ble_eq_true rfl⟩ (Nat.le_of_ble_eq_true rfl) (Nat.le_of_ble_eq_true rfl) (c_isTown_t i.w i.c ht) ?_
            refine gd_if_eq_f 16 dX8_built_5 (by decide) (by decide) ?_
            refine gd_ild2 dX8_built_8 ?_
            refine gd_ic4 dX8_built_9 ?_
            refine gd_cS2i dX8_built_10 ct_8_48 ⟨Nat.le_of_ble_eq_true rfl, Nat.le_of_ble_eq_true rfl⟩ (Nat.le_of_ble_eq_true rfl) (Nat.le_of_ble_eq_true rfl) (c_isBelow_t hq (by decide) _) ?_
            refine gd_if_ne_t 23 dX8_built_13 (by decide) (by decide) ?_
            refine gd_ald0 dX8_built_23 (by decide) ?_
            refine gd_getR (r := 56) dX8_built_24 fl_8_33 rfl rfl rfl (by decide) ?_
            refine gd_ild2 dX8_built_27 ?_
            refine gd_cV1i dX8_built_28 ct_8_82 rc_56 ⟨Nat.le_of_ble_eq_true rfl, Nat.le_of_ble_eq_true rfl⟩ (Nat.le_of_ble_eq_true rfl) (Nat.le_of_ble_eq_true rfl) (c_isMissing0 hq e58 (by decide) (by decide)) ?_
            refine gd_if_eq_t 41 dX8_built_31 (by decide) (by decide) ?_
            refine gd_ald0 dX8_built_41 (by decide) ?_
            refine gd_getR (r := 56) dX8_built_42 fl_8_33 rfl rfl rfl (by decide) ?_
            refine gd_getR (r := 59) dX8_built_45 fl_8_86 rfl rfl rfl (by decide) ?_
            refine gd_ild2 dX8_built_48 ?_
            refine gd_iald (n := 4) dX8_built_49 rfl (by decide) (by repeat' (first | with_reducible rfl | apply ni_add | apply ni_mul)) (by omega) ?_
            rw [e59]
            refine gd_ic3 dX8_built_50 ?_
            refine gd_icmp_eq_f 61 dX8_built_51 (by decide) (by exact fun z => absurd ((nI_eq (by omega) (by omega)).mp z) (by omega)) ?_
            refine gd_ald0 dX8_built_54 (by decide) ?_
            refine gd_ldc dX8_built_55 ld_8_89 ?_
            refine gd_cV1i dX8_built_57 ct_8_53 rc_0 ⟨Nat.le_of_ble_eq_true rfl, Nat.le_of_ble_eq_true rfl⟩ (Nat.le_of_ble_eq_true rfl) (Nat.le_of_ble_eq_true rfl) (c_f6 _) ?_
            refine gd_iret dX8_built_60 rfl rfl ?_
            rfl
          · refine gd_ald0 dX9_built_0 (by decide) ?_
            refine gd_ild1 dX9_built_1 ?_
            refine gd_cV1i dX9_built_2 ct_9_101 rc_72 ⟨Nat.le_of_ble_eq_true rfl, Nat.le_of_ble_eq_true rfl⟩ (Nat.le_of_ble_eq_true rfl) (Nat.le_of_ble_eq_true rfl) (m_isTown_t (h := hf h 6) (by exact i.w) ht) ?_
            refine gd_if_eq_f 15 dX9_built_5 (by decide) (by decide) ?_
            refine gd_ild2 dX9_built_8 ?_
            refine gd_cS1i dX9_built_9 ct_9_104 ⟨Nat.le_of_ble_eq_true rfl, Nat.le_of_ble_eq_true rfl⟩ (Nat.le_of_ble_eq_true rfl) (Nat.le_of_ble_eq_true rfl) (m_isSheet_t hq _) ?_
            refine gd_if_ne_t 21 dX9_built_12 (by decide) (by decide) ?_
            refine gd_ald0 dX9_built_21 (by decide) ?_
            refine gd_getR (r := 90) dX9_built_22 fl_9_63 rfl rfl rfl (by decide) ?_
            refine gd_ild2 dX9_built_25 ?_
            refine gd_iald (n := 4) dX9_built_26 rfl (by decide) (by repeat' (first | with_reducible rfl | apply ni_add | apply ni_mul)) (by omega) ?_
            refine gd_if_ne_t 37 dX9_built_27 (by decide) (by rw [show (hf h 6).1 90 q = nI 8 from e90]; decide) ?_
            refine gd_ald0 dX9_built_37 (by decide) ?_
            refine gd_getR (r := 91) dX9_built_38 fl_9_66 rfl rfl rfl (by decide) ?_
            refine gd_ild2 dX9_built_41 ?_
            refine gd_iald (n := 4) dX9_built_42 rfl (by decide) (by repeat' (first | with_reducible rfl | apply ni_add | apply ni_mul)) (by omega) ?_
            rw [show (hf h 6).1 91 q = nI (tn (h.1 91 q)) from e91]
            refine gd_ic3 dX9_built_43 ?_
            refine gd_icmp_eq_f 54 dX9_built_44 (by decide) (by exact fun z => absurd ((nI_eq (by omega) (by omega)).mp z) (by omega)) ?_
            refine gd_ald0 dX9_built_47 (by decide) ?_
            refine gd_bipush (v := nI 7) dX9_built_48 (by decide) ?_
            refine gd_cV1i dX9_built_50 ct_9_97 rc_72 ⟨Nat.le_of_ble_eq_true rfl, Nat.le_of_ble_eq_true rfl⟩ (Nat.le_of_ble_eq_true rfl) (Nat.le_of_ble_eq_true rfl) (m_f6 _) ?_
            refine gd_iret dX9_built_53 rfl rfl ?_
            rfl
      · have e58 : h.1 58 q = nI 16 := (i.s.w q hq).trans e90
        by_cases s3 : tn (h.1 91 q) = 3
        · rcases belD (fun j => h.2 92 (40 * q + j)) 10000 (by decide) 3 with ha | ⟨k, hk, ha, hx⟩
          · refine ⟨.int (nI (cntN (fun j => decide (¬ ms h 3 (6 * t + 3 + j) = (h.2 92 (40 * q + j)).toInt32)) 3)), sI h 5 (hr3 (h.1 5) (6 * t + 3) 3 (fun j => (h.2 92 (40 * q + j)).toInt32)), sI (sI h 5 (hr3 (h.1 5) (6 * t + 3) 3 (fun j => (h.2 92 (40 * q + j)).toInt32))) 77 (hr3 (h.1 77) (6 * t + 3) 3 (fun j => (h.2 92 (40 * q + j)).toInt32)), ?_, ?_, ?_, rfl, rfl⟩
            · refine gd_ald0 dX8_built_0 (by decide) ?_
              refine gd_ild1 dX8_built_1 ?_
              refine gd_cV1i dX8_built_2 ct_8_74 rc_0 ⟨Nat.le_of_ble_eq_true rfl, Nat.le_of_ble_eq_true rfl⟩ (Nat.le_of_ble_eq_true rfl) (Nat.le_of_ble_eq_true rfl) (c_isTown_t i.w i.c ht) ?_
              refine gd_if_eq_f 16 dX8_built_5 (by decide) (by decide) ?_
              refine gd_ild2 dX8_built_8 ?_
              refine gd_ic4 dX8_built_9 ?_
              refine gd_cS2i dX8_built_10 ct_8_48 ⟨Nat.le_of_ble_eq_true rfl, Nat.le_of_ble_eq_true rfl⟩ (Nat.le_of_ble_eq_true rfl) (Nat.le_of_ble_eq_true rfl) (c_isBelow_t hq (by decide) _) ?_
              refine gd_if_ne_t 23 dX8_built_13 (by decide) (by decide) ?_
              refine gd_ald0 dX8_built_23 (by decide) ?_
              refine gd_getR (r := 56) dX8_built_24 fl_8_33 rfl rfl rfl (by decide) ?_
              refine gd_ild2 dX8_built_27 ?_
              refine gd_cV1i dX8_built_28 ct_8_82 rc_56 ⟨Nat.le_of_ble_eq_true rfl, Nat.le_of_ble_eq_true rfl⟩ (Nat.le_of_ble_eq_true rfl) (Nat.le_of_ble_eq_true rfl) (c_isMissing0 hq e58 (by decide) (by decide)) ?_
              refine gd_if_eq_t 41 dX8_built_31 (by decide) (by decide) ?_
              refine gd_ald0 dX8_built_41 (by decide) ?_
              refine gd_getR (r := 56) dX8_built_42 fl_8_33 rfl rfl rfl (by decide) ?_
              refine gd_getR (r := 59) dX8_built_45 fl_8_86 rfl rfl rfl (by decide) ?_
              refine gd_ild2 dX8_built_48 ?_
              refine gd_iald (n := 4) dX8_built_49 rfl (by decide) (by repeat' (first | with_reducible rfl | apply ni_add | apply ni_mul)) (by omega) ?_
              rw [e59]
              refine gd_ic3 dX8_built_50 ?_
              refine gd_icmp_eq_t 61 dX8_built_51 (by decide) (by exact (nI_eq (by omega) (by omega)).mpr (by omega)) ?_
              refine gd_ald0 dX8_built_61 (by decide) ?_
              refine gd_getR (r := 56) dX8_built_62 fl_8_33 rfl rfl rfl (by decide) ?_
              refine gd_ild2 dX8_built_65 ?_
              refine gd_sipush (v := nI 10000) dX8_built_66 (by decide) ?_
              refine gd_cV2i dX8_built_69 ct_8_90 rc_56 ⟨Nat.le_of_ble_eq_true rfl, Nat.le_of_ble_eq_true rfl⟩ (Nat.le_of_ble_eq_true rfl) (Nat.le_of_ble_eq_true rfl) (c_allBelow_t hq (e59.trans (by rw [s3])) (by decide) (by decide) (fun j hj => by obtain ⟨v, hv, e⟩ := ha j hj; exact ⟨v, hv, (i.s.x _ (by omega)).trans e⟩)) ?_
              refine gd_if_ne_t 82 dX8_built_72 (by decide) (by decide) ?_
              refine gd_ic0 dX8_built_82 ?_
              refine gd_ist3 dX8_built_83 rfl ?_
              refine gd_ic0 dX8_built_84 ?_
              refine gd_ist4 dX8_built_85 rfl ?_
              exact lp_built8 i ht hq _
            · refine gd_ald0 dX9_built_0 (by decide) ?_
              refine gd_ild1 dX9_built_1 ?_
              refine gd_cV1i dX9_built_2 ct_9_101 rc_72 ⟨Nat.le_of_ble_eq_true rfl, Nat.le_of_ble_eq_true rfl⟩ (Nat.le_of_ble_eq_true rfl) (Nat.le_of_ble_eq_true rfl) (m_isTown_t (h := sI h 5 (hr3 (h.1 5) (6 * t + 3) 3 (fun j => (h.2 92 (40 * q + j)).toInt32))) (by exact i.w) ht) ?_
              refine gd_if_eq_f 15 dX9_built_5 (by decide) (by decide) ?_
              refine gd_ild2 dX9_built_8 ?_
              refine gd_cS1i dX9_built_9 ct_9_104 ⟨Nat.le_of_ble_eq_true rfl, Nat.le_of_ble_eq_true rfl⟩ (Nat.le_of_ble_eq_true rfl) (Nat.le_of_ble_eq_true rfl) (m_isSheet_t hq _) ?_
              refine gd_if_ne_t 21 dX9_built_12 (by decide) (by decide) ?_
              refine gd_ald0 dX9_built_21 (by decide) ?_
              refine gd_getR (r := 90) dX9_built_22 fl_9_63 rfl rfl rfl (by decide) ?_
              refine gd_ild2 dX9_built_25 ?_
              refine gd_iald (n := 4) dX9_built_26 rfl (by decide) (by repeat' (first | with_reducible rfl | apply ni_add | apply ni_mul)) (by omega) ?_
              refine gd_if_ne_t 37 dX9_built_27 (by decide) (by rw [show (sI h 5 (hr3 (h.1 5) (6 * t + 3) 3 (fun j => (h.2 92 (40 * q + j)).toInt32))).1 90 q = nI 16 from e90]; decide) ?_
              refine gd_ald0 dX9_built_37 (by decide) ?_
              refine gd_getR (r := 91) dX9_built_38 fl_9_66 rfl rfl rfl (by decide) ?_
              refine gd_ild2 dX9_built_41 ?_
              refine gd_iald (n := 4) dX9_built_42 rfl (by decide) (by repeat' (first | with_reducible rfl | apply ni_add | apply ni_mul)) (by omega) ?_
              rw [show (sI h 5 (hr3 (h.1 5) (6 * t + 3) 3 (fun j => (h.2 92 (40 * q + j)).toInt32))).1 91 q = nI (tn (h.1 91 q)) from e91]
              refine gd_ic3 dX9_built_43 ?_
              refine gd_icmp_eq_t 54 dX9_built_44 (by decide) (by exact (nI_eq (by omega) (by omega)).mpr (by omega)) ?_
              refine gd_ic0 dX9_built_54 ?_
              refine gd_ist3 dX9_built_55 rfl ?_
              exact m_built1_t (h := sI h 5 (hr3 (h.1 5) (6 * t + 3) 3 (fun j => (h.2 92 (40 * q + j)).toInt32))) hq ha (fun l3 l4 l5 => by
                refine gd_ic0 dX9_built_102 ?_
                refine gd_ist3 dX9_built_103 rfl ?_
                refine gd_ic0 dX9_built_104 ?_
                refine gd_ist4 dX9_built_105 rfl ?_
                exact lp_built9 i ht hq _) _ _
            · have em : ms (sI (sI h 5 (hr3 (h.1 5) (6 * t + 3) 3 (fun j => (h.2 92 (40 * q + j)).toInt32))) 77 (hr3 (h.1 77) (6 * t + 3) 3 (fun j => (h.2 92 (40 * q + j)).toInt32))) = sR (ms h) 3 (trR 3 (hr3 (h.1 77) (6 * t + 3) 3 (fun j => (h.2 92 (40 * q + j)).toInt32))) := by
                rw [ms_set 3 (by decide), ms_si (Or.inl (by decide))]
              skip
              refine inv_world i (fun k hk => by rw [sI_n (by omega), sI_n (by omega)]) rfl ?_ ?_
              · rw [em]
                refine ⟨i.w.t, i.w.n, i.w.x, i.w.o, i.w.d, i.w.g, i.w.c, ?_, i.w.l, i.w.f, i.w.c6, i.w.r, i.w.k⟩
                · intro j hj
                  have hj : j < 6 * nT (ms h) := hj
                  show ∃ z, z < 10000 ∧ trR 3 (hr3 (h.1 77) (6 * t + 3) 3 (fun j => (h.2 92 (40 * q + j)).toInt32)) j = nI z
                  rw [trR_at (show j < 96 by omega)]
                  unfold hr3
                  split
                  · obtain ⟨v, hv, e⟩ := ha (j - (6 * t + 3)) (by omega)
                    exact ⟨v, hv, by show (h.2 92 (40 * q + (j - (6 * t + 3)))).toInt32 = _; rw [show h.2 92 (40 * q + (j - (6 * t + 3))) = lN v from e, lN_i]⟩
                  · rw [← ms_r3 (by omega)]; exact i.w.h j hj
              · rw [em]
                refine ⟨i.c.t, i.c.d, i.c.n, i.c.x, i.c.o, i.c.g, i.c.c, ?_, ?_, i.c.lk, i.c.lt, i.c.lw, i.c.ld, i.c.lr, i.c.lq, i.c.lf, i.c.le, i.c.lo, i.c.f, i.c.c6, i.c.rk, i.c.rl, i.c.rh, i.c.ks, i.c.km, i.c.kd⟩
                · intro j hj
                  have hj : j < 6 * nT (ms h) := hj
                  show hr3 (h.1 5) (6 * t + 3) 3 (fun j => (h.2 92 (40 * q + j)).toInt32) j = trR 3 (hr3 (h.1 77) (6 * t + 3) 3 (fun j => (h.2 92 (40 * q + j)).toInt32)) j
                  rw [trR_at (show j < 96 by omega)]
                  unfold hr3
                  rw [i.c.h1 j hj, ms_r3 (by omega)]
                · intro j h1 h2
                  have h2 : 6 * nT (ms h) ≤ j := h2
                  show hr3 (h.1 5) (6 * t + 3) 3 (fun j => (h.2 92 (40 * q + j)).toInt32) j = nI 0
                  unfold hr3
                  rw [if_neg (by omega)]
                  exact i.c.h01 j h1 h2
          · refine Pas.find (h1 := h) (h2 := hf (h) 0) (v := -1000000001) (w := (-1000000000 : Int32) - nI 1) 0 i (by decide) (by decide) (by decide) (Same.rf _) (Same.rf _) ?_ ?_
            · refine gd_ald0 dX8_built_0 (by decide) ?_
              refine gd_ild1 dX8_built_1 ?_
              refine gd_cV1i dX8_built_2 ct_8_74 rc_0 ⟨Nat.le_of_ble_eq_true rfl, Nat.le_of_ble_eq_true rfl⟩ (Nat.le_of_ble_eq_true rfl) (Nat.le_of_ble_eq_true rfl) (c_isTown_t i.w i.c ht) ?_
              refine gd_if_eq_f 16 dX8_built_5 (by decide) (by decide) ?_
              refine gd_ild2 dX8_built_8 ?_
              refine gd_ic4 dX8_built_9 ?_
              refine gd_cS2i dX8_built_10 ct_8_48 ⟨Nat.le_of_ble_eq_true rfl, Nat.le_of_ble_eq_true rfl⟩ (Nat.le_of_ble_eq_true rfl) (Nat.le_of_ble_eq_true rfl) (c_isBelow_t hq (by decide) _) ?_
              refine gd_if_ne_t 23 dX8_built_13 (by decide) (by decide) ?_
              refine gd_ald0 dX8_built_23 (by decide) ?_
              refine gd_getR (r := 56) dX8_built_24 fl_8_33 rfl rfl rfl (by decide) ?_
              refine gd_ild2 dX8_built_27 ?_
              refine gd_cV1i dX8_built_28 ct_8_82 rc_56 ⟨Nat.le_of_ble_eq_true rfl, Nat.le_of_ble_eq_true rfl⟩ (Nat.le_of_ble_eq_true rfl) (Nat.le_of_ble_eq_true rfl) (c_isMissing0 hq e58 (by decide) (by decide)) ?_
              refine gd_if_eq_t 41 dX8_built_31 (by decide) (by decide) ?_
              refine gd_ald0 dX8_built_41 (by decide) ?_
              refine gd_getR (r := 56) dX8_built_42 fl_8_33 rfl rfl rfl (by decide) ?_
              refine gd_getR (r := 59) dX8_built_45 fl_8_86 rfl rfl rfl (by decide) ?_
              refine gd_ild2 dX8_built_48 ?_
              refine gd_iald (n := 4) dX8_built_49 rfl (by decide) (by repeat' (first | with_reducible rfl | apply ni_add | apply ni_mul)) (by omega) ?_
              rw [e59]
              refine gd_ic3 dX8_built_50 ?_
              refine gd_icmp_eq_t 61 dX8_built_51 (by decide) (by exact (nI_eq (by omega) (by omega)).mpr (by omega)) ?_
              refine gd_ald0 dX8_built_61 (by decide) ?_
              refine gd_getR (r := 56) dX8_built_62 fl_8_33 rfl rfl rfl (by decide) ?_
              refine gd_ild2 dX8_built_65 ?_
              refine gd_sipush (v := nI 10000) dX8_built_66 (by decide) ?_
              refine gd_cV2i dX8_built_69 ct_8_90 rc_56 ⟨Nat.le_of_ble_eq_true rfl, Nat.le_of_ble_eq_true rfl⟩ (Nat.le_of_ble_eq_true rfl) (Nat.le_of_ble_eq_true rfl) (c_allBelow_f hq (e59.trans (by rw [s3])) (by decide) (by decide) hk (fun j hj => by obtain ⟨v, hv, e⟩ := ha j hj; exact ⟨v, hv, (i.s.x _ (by omega)).trans e⟩) (by rw [i.s.x _ (by omega)]; exact hx)) ?_
              refine gd_if_ne_f 82 dX8_built_72 (by decide) (by decide) ?_
              refine gd_ald0 dX8_built_75 (by decide) ?_
              refine gd_ldc dX8_built_76 ld_8_52 ?_
              refine gd_cV1i dX8_built_78 ct_8_53 rc_0 ⟨Nat.le_of_ble_eq_true rfl, Nat.le_of_ble_eq_true rfl⟩ (Nat.le_of_ble_eq_true rfl) (Nat.le_of_ble_eq_true rfl) (c_f0 _) ?_
              refine gd_iret dX8_built_81 rfl rfl ?_
              rfl
            · refine gd_ald0 dX9_built_0 (by decide) ?_
              refine gd_ild1 dX9_built_1 ?_
              refine gd_cV1i dX9_built_2 ct_9_101 rc_72 ⟨Nat.le_of_ble_eq_true rfl, Nat.le_of_ble_eq_true rfl⟩ (Nat.le_of_ble_eq_true rfl) (Nat.le_of_ble_eq_true rfl) (m_isTown_t (h := hf h 0) (by exact i.w) ht) ?_
              refine gd_if_eq_f 15 dX9_built_5 (by decide) (by decide) ?_
              refine gd_ild2 dX9_built_8 ?_
              refine gd_cS1i dX9_built_9 ct_9_104 ⟨Nat.le_of_ble_eq_true rfl, Nat.le_of_ble_eq_true rfl⟩ (Nat.le_of_ble_eq_true rfl) (Nat.le_of_ble_eq_true rfl) (m_isSheet_t hq _) ?_
              refine gd_if_ne_t 21 dX9_built_12 (by decide) (by decide) ?_
              refine gd_ald0 dX9_built_21 (by decide) ?_
              refine gd_getR (r := 90) dX9_built_22 fl_9_63 rfl rfl rfl (by decide) ?_
              refine gd_ild2 dX9_built_25 ?_
              refine gd_iald (n := 4) dX9_built_26 rfl (by decide) (by repeat' (first | with_reducible rfl | apply ni_add | apply ni_mul)) (by omega) ?_
              refine gd_if_ne_t 37 dX9_built_27 (by decide) (by rw [show (hf h 0).1 90 q = nI 16 from e90]; decide) ?_
              refine gd_ald0 dX9_built_37 (by decide) ?_
              refine gd_getR (r := 91) dX9_built_38 fl_9_66 rfl rfl rfl (by decide) ?_
              refine gd_ild2 dX9_built_41 ?_
              refine gd_iald (n := 4) dX9_built_42 rfl (by decide) (by repeat' (first | with_reducible rfl | apply ni_add | apply ni_mul)) (by omega) ?_
              rw [show (hf h 0).1 91 q = nI (tn (h.1 91 q)) from e91]
              refine gd_ic3 dX9_built_43 ?_
              refine gd_icmp_eq_t 54 dX9_built_44 (by decide) (by exact (nI_eq (by omega) (by omega)).mpr (by omega)) ?_
              refine gd_ic0 dX9_built_54 ?_
              refine gd_ist3 dX9_built_55 rfl ?_
              exact m_built1_f (h := hf h 0) hq hk ha hx _ _
        · refine Pas.find (h1 := h) (h2 := hf (h) 6) (v := -1000000007) (w := (-1000000000 : Int32) - nI 7) 6 i (by decide) (by decide) (by decide) (Same.rf _) (Same.rf _) ?_ ?_
          · refine gd_ald0 dX8_built_0 (by decide) ?_
            refine gd_ild1 dX8_built_1 ?_
            refine gd_cV1i dX8_built_2 ct_8_74 rc_0 ⟨Nat.le_of_ble_eq_true rfl, Nat.le_of_ble_eq_true rfl⟩ (Nat.le_of_ble_eq_true rfl) (Nat.le_of_ble_eq_true rfl) (c_isTown_t i.w i.c ht) ?_
            refine gd_if_eq_f 16 dX8_built_5 (by decide) (by decide) ?_
            refine gd_ild2 dX8_built_8 ?_
            refine gd_ic4 dX8_built_9 ?_
            refine gd_cS2i dX8_built_10 ct_8_48 ⟨Nat.le_of_ble_eq_true rfl, Nat.le_of_ble_eq_true rfl⟩ (Nat.le_of_ble_eq_true rfl) (Nat.le_of_ble_eq_true rfl) (c_isBelow_t hq (by decide) _) ?_
            refine gd_if_ne_t 23 dX8_built_13 (by decide) (by decide) ?_
            refine gd_ald0 dX8_built_23 (by decide) ?_
            refine gd_getR (r := 56) dX8_built_24 fl_8_33 rfl rfl rfl (by decide) ?_
            refine gd_ild2 dX8_built_27 ?_
            refine gd_cV1i dX8_built_28 ct_8_82 rc_56 ⟨Nat.le_of_ble_eq_true rfl, Nat.le_of_ble_eq_true rfl⟩ (Nat.le_of_ble_eq_true rfl) (Nat.le_of_ble_eq_true rfl) (c_isMissing0 hq e58 (by decide) (by decide)) ?_
            refine gd_if_eq_t 41 dX8_built_31 (by decide) (by decide) ?_
            refine gd_ald0 dX8_built_41 (by decide) ?_
            refine gd_getR (r := 56) dX8_built_42 fl_8_33 rfl rfl rfl (by decide) ?_
            refine gd_getR (r := 59) dX8_built_45 fl_8_86 rfl rfl rfl (by decide) ?_
            refine gd_ild2 dX8_built_48 ?_
            refine gd_iald (n := 4) dX8_built_49 rfl (by decide) (by repeat' (first | with_reducible rfl | apply ni_add | apply ni_mul)) (by omega) ?_
            rw [e59]
            refine gd_ic3 dX8_built_50 ?_
            refine gd_icmp_eq_f 61 dX8_built_51 (by decide) (by exact fun z => absurd ((nI_eq (by omega) (by omega)).mp z) (by omega)) ?_
            refine gd_ald0 dX8_built_54 (by decide) ?_
            refine gd_ldc dX8_built_55 ld_8_89 ?_
            refine gd_cV1i dX8_built_57 ct_8_53 rc_0 ⟨Nat.le_of_ble_eq_true rfl, Nat.le_of_ble_eq_true rfl⟩ (Nat.le_of_ble_eq_true rfl) (Nat.le_of_ble_eq_true rfl) (c_f6 _) ?_
            refine gd_iret dX8_built_60 rfl rfl ?_
            rfl
          · refine gd_ald0 dX9_built_0 (by decide) ?_
            refine gd_ild1 dX9_built_1 ?_
            refine gd_cV1i dX9_built_2 ct_9_101 rc_72 ⟨Nat.le_of_ble_eq_true rfl, Nat.le_of_ble_eq_true rfl⟩ (Nat.le_of_ble_eq_true rfl) (Nat.le_of_ble_eq_true rfl) (m_isTown_t (h := hf h 6) (by exact i.w) ht) ?_
            refine gd_if_eq_f 15 dX9_built_5 (by decide) (by decide) ?_
            refine gd_ild2 dX9_built_8 ?_
            refine gd_cS1i dX9_built_9 ct_9_104 ⟨Nat.le_of_ble_eq_true rfl, Nat.le_of_ble_eq_true rfl⟩ (Nat.le_of_ble_eq_true rfl) (Nat.le_of_ble_eq_true rfl) (m_isSheet_t hq _) ?_
            refine gd_if_ne_t 21 dX9_built_12 (by decide) (by decide) ?_
            refine gd_ald0 dX9_built_21 (by decide) ?_
            refine gd_getR (r := 90) dX9_built_22 fl_9_63 rfl rfl rfl (by decide) ?_
            refine gd_ild2 dX9_built_25 ?_
            refine gd_iald (n := 4) dX9_built_26 rfl (by decide) (by repeat' (first | with_reducible rfl | apply ni_add | apply ni_mul)) (by omega) ?_
            refine gd_if_ne_t 37 dX9_built_27 (by decide) (by rw [show (hf h 6).1 90 q = nI 16 from e90]; decide) ?_
            refine gd_ald0 dX9_built_37 (by decide) ?_
            refine gd_getR (r := 91) dX9_built_38 fl_9_66 rfl rfl rfl (by decide) ?_
            refine gd_ild2 dX9_built_41 ?_
            refine gd_iald (n := 4) dX9_built_42 rfl (by decide) (by repeat' (first | with_reducible rfl | apply ni_add | apply ni_mul)) (by omega) ?_
            rw [show (hf h 6).1 91 q = nI (tn (h.1 91 q)) from e91]
            refine gd_ic3 dX9_built_43 ?_
            refine gd_icmp_eq_f 54 dX9_built_44 (by decide) (by exact fun z => absurd ((nI_eq (by omega) (by omega)).mp z) (by omega)) ?_
            refine gd_ald0 dX9_built_47 (by decide) ?_
            refine gd_bipush (v := nI 7) dX9_built_48 (by decide) ?_
            refine gd_cV1i dX9_built_50 ct_9_97 rc_72 ⟨Nat.le_of_ble_eq_true rfl, Nat.le_of_ble_eq_true rfl⟩ (Nat.le_of_ble_eq_true rfl) (Nat.le_of_ble_eq_true rfl) (m_f6 _) ?_
            refine gd_iret dX9_built_53 rfl rfl ?_
            rfl
      · have e58 : h.1 58 q = nI 64 := (i.s.w q hq).trans e90
        by_cases s3 : tn (h.1 91 q) = 3
        · rcases belD (fun j => h.2 92 (40 * q + j)) 10000 (by decide) 3 with ha | ⟨k, hk, ha, hx⟩
          · refine ⟨.int (nI (cntN (fun j => decide (¬ ms h 3 (6 * t + 3 + j) = (h.2 92 (40 * q + j)).toInt32)) 3)), sI h 5 (hr3 (h.1 5) (6 * t + 3) 3 (fun j => (h.2 92 (40 * q + j)).toInt32)), sI (sI h 5 (hr3 (h.1 5) (6 * t + 3) 3 (fun j => (h.2 92 (40 * q + j)).toInt32))) 77 (hr3 (h.1 77) (6 * t + 3) 3 (fun j => (h.2 92 (40 * q + j)).toInt32)), ?_, ?_, ?_, rfl, rfl⟩
            · refine gd_ald0 dX8_built_0 (by decide) ?_
              refine gd_ild1 dX8_built_1 ?_
              refine gd_cV1i dX8_built_2 ct_8_74 rc_0 ⟨Nat.le_of_ble_eq_true rfl, Nat.le_of_ble_eq_true rfl⟩ (Nat.le_of_ble_eq_true rfl) (Nat.le_of_ble_eq_true rfl) (c_isTown_t i.w i.c ht) ?_
              refine gd_if_eq_f 16 dX8_built_5 (by decide) (by decide) ?_
              refine gd_ild2 dX8_built_8 ?_
              refine gd_ic4 dX8_built_9 ?_
              refine gd_cS2i dX8_built_10 ct_8_48 ⟨Nat.le_of_ble_eq_true rfl, Nat.le_of_ble_eq_true rfl⟩ (Nat.le_of_ble_eq_true rfl) (Nat.le_of_ble_eq_true rfl) (c_isBelow_t hq (by decide) _) ?_
              refine gd_if_ne_t 23 dX8_built_13 (by decide) (by decide) ?_
              refine gd_ald0 dX8_built_23 (by decide) ?_
              refine gd_getR (r := 56) dX8_built_24 fl_8_33 rfl rfl rfl (by decide) ?_
              refine gd_ild2 dX8_built_27 ?_
              refine gd_cV1i dX8_built_28 ct_8_82 rc_56 ⟨Nat.le_of_ble_eq_true rfl, Nat.le_of_ble_eq_true rfl⟩ (Nat.le_of_ble_eq_true rfl) (Nat.le_of_ble_eq_true rfl) (c_isMissing0 hq e58 (by decide) (by decide)) ?_
              refine gd_if_eq_t 41 dX8_built_31 (by decide) (by decide) ?_
              refine gd_ald0 dX8_built_41 (by decide) ?_
              refine gd_getR (r := 56) dX8_built_42 fl_8_33 rfl rfl rfl (by decide) ?_
              refine gd_getR (r := 59) dX8_built_45 fl_8_86 rfl rfl rfl (by decide) ?_
              refine gd_ild2 dX8_built_48 ?_
              refine gd_iald (n := 4) dX8_built_49 rfl (by decide) (by repeat' (first | with_reducible rfl | apply ni_add | apply ni_mul)) (by omega) ?_
              rw [e59]
              refine gd_ic3 dX8_built_50 ?_
              refine gd_icmp_eq_t 61 dX8_built_51 (by decide) (by exact (nI_eq (by omega) (by omega)).mpr (by omega)) ?_
              refine gd_ald0 dX8_built_61 (by decide) ?_
              refine gd_getR (r := 56) dX8_built_62 fl_8_33 rfl rfl rfl (by decide) ?_
              refine gd_ild2 dX8_built_65 ?_
              refine gd_sipush (v := nI 10000) dX8_built_66 (by decide) ?_
              refine gd_cV2i dX8_built_69 ct_8_90 rc_56 ⟨Nat.le_of_ble_eq_true rfl, Nat.le_of_ble_eq_true rfl⟩ (Nat.le_of_ble_eq_true rfl) (Nat.le_of_ble_eq_true rfl) (c_allBelow_t hq (e59.trans (by rw [s3])) (by decide) (by decide) (fun j hj => by obtain ⟨v, hv, e⟩ := ha j hj; exact ⟨v, hv, (i.s.x _ (by omega)).trans e⟩)) ?_
              refine gd_if_ne_t 82 dX8_built_72 (by decide) (by decide) ?_
              refine gd_ic0 dX8_built_82 ?_
              refine gd_ist3 dX8_built_83 rfl ?_
              refine gd_ic0 dX8_built_84 ?_
              refine gd_ist4 dX8_built_85 rfl ?_
              exact lp_built8 i ht hq _
            · refine gd_ald0 dX9_built_0 (by decide) ?_
              refine gd_ild1 dX9_built_1 ?_
              refine gd_cV1i dX9_built_2 ct_9_101 rc_72 ⟨Nat.le_of_ble_eq_true rfl, Nat.le_of_ble_eq_true rfl⟩ (Nat.le_of_ble_eq_true rfl) (Nat.le_of_ble_eq_true rfl) (m_isTown_t (h := sI h 5 (hr3 (h.1 5) (6 * t + 3) 3 (fun j => (h.2 92 (40 * q + j)).toInt32))) (by exact i.w) ht) ?_
              refine gd_if_eq_f 15 dX9_built_5 (by decide) (by decide) ?_
              refine gd_ild2 dX9_built_8 ?_
              refine gd_cS1i dX9_built_9 ct_9_104 ⟨Nat.le_of_ble_eq_true rfl, Nat.le_of_ble_eq_true rfl⟩ (Nat.le_of_ble_eq_true rfl) (Nat.le_of_ble_eq_true rfl) (m_isSheet_t hq _) ?_
              refine gd_if_ne_t 21 dX9_built_12 (by decide) (by decide) ?_
              refine gd_ald0 dX9_built_21 (by decide) ?_
              refine gd_getR (r := 90) dX9_built_22 fl_9_63 rfl rfl rfl (by decide) ?_
              refine gd_ild2 dX9_built_25 ?_
              refine gd_iald (n := 4) dX9_built_26 rfl (by decide) (by repeat' (first | with_reducible rfl | apply ni_add | apply ni_mul)) (by omega) ?_
              refine gd_if_ne_t 37 dX9_built_27 (by decide) (by rw [show (sI h 5 (hr3 (h.1 5) (6 * t + 3) 3 (fun j => (h.2 92 (40 * q + j)).toInt32))).1 90 q = nI 64 from e90]; decide) ?_
              refine gd_ald0 dX9_built_37 (by decide) ?_
              refine gd_getR (r := 91) dX9_built_38 fl_9_66 rfl rfl rfl (by decide) ?_
              refine gd_ild2 dX9_built_41 ?_
              refine gd_iald (n := 4) dX9_built_42 rfl (by decide) (by repeat' (first | with_reducible rfl | apply ni_add | apply ni_mul)) (by omega) ?_
              rw [show (sI h 5 (hr3 (h.1 5) (6 * t + 3) 3 (fun j => (h.2 92 (40 * q + j)).toInt32))).1 91 q = nI (tn (h.1 91 q)) from e91]
              refine gd_ic3 dX9_built_43 ?_
              refine gd_icmp_eq_t 54 dX9_built_44 (by decide) (by exact (nI_eq (by omega) (by omega)).mpr (by omega)) ?_
              refine gd_ic0 dX9_built_54 ?_
              refine gd_ist3 dX9_built_55 rfl ?_
              exact m_built1_t (h := sI h 5 (hr3 (h.1 5) (6 * t + 3) 3 (fun j => (h.2 92 (40 * q + j)).toInt32))) hq ha (fun l3 l4 l5 => by
                refine gd_ic0 dX9_built_102 ?_
                refine gd_ist3 dX9_built_103 rfl ?_
                refine gd_ic0 dX9_built_104 ?_
                refine gd_ist4 dX9_built_105 rfl ?_
                exact lp_built9 i ht hq _) _ _
            · have em : ms (sI (sI h 5 (hr3 (h.1 5) (6 * t + 3) 3 (fun j => (h.2 92 (40 * q + j)).toInt32))) 77 (hr3 (h.1 77) (6 * t + 3) 3 (fun j => (h.2 92 (40 * q + j)).toInt32))) = sR (ms h) 3 (trR 3 (hr3 (h.1 77) (6 * t + 3) 3 (fun j => (h.2 92 (40 * q + j)).toInt32))) := by
                rw [ms_set 3 (by decide), ms_si (Or.inl (by decide))]
              skip
              refine inv_world i (fun k hk => by rw [sI_n (by omega), sI_n (by omega)]) rfl ?_ ?_
              · rw [em]
                refine ⟨i.w.t, i.w.n, i.w.x, i.w.o, i.w.d, i.w.g, i.w.c, ?_, i.w.l, i.w.f, i.w.c6, i.w.r, i.w.k⟩
                · intro j hj
                  have hj : j < 6 * nT (ms h) := hj
                  show ∃ z, z < 10000 ∧ trR 3 (hr3 (h.1 77) (6 * t + 3) 3 (fun j => (h.2 92 (40 * q + j)).toInt32)) j = nI z
                  rw [trR_at (show j < 96 by omega)]
                  unfold hr3
                  split
                  · obtain ⟨v, hv, e⟩ := ha (j - (6 * t + 3)) (by omega)
                    exact ⟨v, hv, by show (h.2 92 (40 * q + (j - (6 * t + 3)))).toInt32 = _; rw [show h.2 92 (40 * q + (j - (6 * t + 3))) = lN v from e, lN_i]⟩
                  · rw [← ms_r3 (by omega)]; exact i.w.h j hj
              · rw [em]
                refine ⟨i.c.t, i.c.d, i.c.n, i.c.x, i.c.o, i.c.g, i.c.c, ?_, ?_, i.c.lk, i.c.lt, i.c.lw, i.c.ld, i.c.lr, i.c.lq, i.c.lf, i.c.le, i.c.lo, i.c.f, i.c.c6, i.c.rk, i.c.rl, i.c.rh, i.c.ks, i.c.km, i.c.kd⟩
                · intro j hj
                  have hj : j < 6 * nT (ms h) := hj
                  show hr3 (h.1 5) (6 * t + 3) 3 (fun j => (h.2 92 (40 * q + j)).toInt32) j = trR 3 (hr3 (h.1 77) (6 * t + 3) 3 (fun j => (h.2 92 (40 * q + j)).toInt32)) j
                  rw [trR_at (show j < 96 by omega)]
                  unfold hr3
                  rw [i.c.h1 j hj, ms_r3 (by omega)]
                · intro j h1 h2
                  have h2 : 6 * nT (ms h) ≤ j := h2
                  show hr3 (h.1 5) (6 * t + 3) 3 (fun j => (h.2 92 (40 * q + j)).toInt32) j = nI 0
                  unfold hr3
                  rw [if_neg (by omega)]
                  exact i.c.h01 j h1 h2
          · refine Pas.find (h1 := h) (h2 := hf (h) 0) (v := -1000000001) (w := (-1000000000 : Int32) - nI 1) 0 i (by decide) (by decide) (by decide) (Same.rf _) (Same.rf _) ?_ ?_
            · refine gd_ald0 dX8_built_0 (by decide) ?_
              refine gd_ild1 dX8_built_1 ?_
              refine gd_cV1i dX8_built_2 ct_8_74 rc_0 ⟨Nat.le_of_ble_eq_true rfl, Nat.le_of_ble_eq_true rfl⟩ (Nat.le_of_ble_eq_true rfl) (Nat.le_of_ble_eq_true rfl) (c_isTown_t i.w i.c ht) ?_
              refine gd_if_eq_f 16 dX8_built_5 (by decide) (by decide) ?_
              refine gd_ild2 dX8_built_8 ?_
              refine gd_ic4 dX8_built_9 ?_
              refine gd_cS2i dX8_built_10 ct_8_48 ⟨Nat.le_of_ble_eq_true rfl, Nat.le_of_ble_eq_true rfl⟩ (Nat.le_of_ble_eq_true rfl) (Nat.le_of_ble_eq_true rfl) (c_isBelow_t hq (by decide) _) ?_
              refine gd_if_ne_t 23 dX8_built_13 (by decide) (by decide) ?_
              refine gd_ald0 dX8_built_23 (by decide) ?_
              refine gd_getR (r := 56) dX8_built_24 fl_8_33 rfl rfl rfl (by decide) ?_
              refine gd_ild2 dX8_built_27 ?_
              refine gd_cV1i dX8_built_28 ct_8_82 rc_56 ⟨Nat.le_of_ble_eq_true rfl, Nat.le_of_ble_eq_true rfl⟩ (Nat.le_of_ble_eq_true rfl) (Nat.le_of_ble_eq_true rfl) (c_isMissing0 hq e58 (by decide) (by decide)) ?_
              refine gd_if_eq_t 41 dX8_built_31 (by decide) (by decide) ?_
              refine gd_ald0 dX8_built_41 (by decide) ?_
              refine gd_getR (r := 56) dX8_built_42 fl_8_33 rfl rfl rfl (by decide) ?_
              refine gd_getR (r := 59) dX8_built_45 fl_8_86 rfl rfl rfl (by decide) ?_
              refine gd_ild2 dX8_built_48 ?_
              refine gd_iald (n := 4) dX8_built_49 rfl (by decide) (by repeat' (first | with_reducible rfl | apply ni_add | apply ni_mul)) (by omega) ?_
              rw [e59]
              refine gd_ic3 dX8_built_50 ?_
              refine gd_icmp_eq_t 61 dX8_built_51 (by decide) (by exact (nI_eq (by omega) (by omega)).mpr (by omega)) ?_
              refine gd_ald0 dX8_built_61 (by decide) ?_
              refine gd_getR (r := 56) dX8_built_62 fl_8_33 rfl rfl rfl (by decide) ?_
              refine gd_ild2 dX8_built_65 ?_
              refine gd_sipush (v := nI 10000) dX8_built_66 (by decide) ?_
              refine gd_cV2i dX8_built_69 ct_8_90 rc_56 ⟨Nat.le_of_ble_eq_true rfl, Nat.le_of_ble_eq_true rfl⟩ (Nat.le_of_ble_eq_true rfl) (Nat.le_of_ble_eq_true rfl) (c_allBelow_f hq (e59.trans (by rw [s3])) (by decide) (by decide) hk (fun j hj => by obtain ⟨v, hv, e⟩ := ha j hj; exact ⟨v, hv, (i.s.x _ (by omega)).trans e⟩) (by rw [i.s.x _ (by omega)]; exact hx)) ?_
              refine gd_if_ne_f 82 dX8_built_72 (by decide) (by decide) ?_
              refine gd_ald0 dX8_built_75 (by decide) ?_
              refine gd_ldc dX8_built_76 ld_8_52 ?_
              refine gd_cV1i dX8_built_78 ct_8_53 rc_0 ⟨Nat.le_of_ble_eq_true rfl, Nat.le_of_ble_eq_true rfl⟩ (Nat.le_of_ble_eq_true rfl) (Nat.le_of_ble_eq_true rfl) (c_f0 _) ?_
              refine gd_iret dX8_built_81 rfl rfl ?_
              rfl
            · refine gd_ald0 dX9_built_0 (by decide) ?_
              refine gd_ild1 dX9_built_1 ?_
              refine gd_cV1i dX9_built_2 ct_9_101 rc_72 ⟨Nat.le_of_ble_eq_true rfl, Nat.le_of_ble_eq_true rfl⟩ (Nat.le_of_ble_eq_true rfl) (Nat.le_of_ble_eq_true rfl) (m_isTown_t (h := hf h 0) (by exact i.w) ht) ?_
              refine gd_if_eq_f 15 dX9_built_5 (by decide) (by decide) ?_
              refine gd_ild2 dX9_built_8 ?_
              refine gd_cS1i dX9_built_9 ct_9_104 ⟨Nat.le_of_ble_eq_true rfl, Nat.le_of_ble_eq_true rfl⟩ (Nat.le_of_ble_eq_true rfl) (Nat.le_of_ble_eq_true rfl) (m_isSheet_t hq _) ?_
              refine gd_if_ne_t 21 dX9_built_12 (by decide) (by decide) ?_
              refine gd_ald0 dX9_built_21 (by decide) ?_
              refine gd_getR (r := 90) dX9_built_22 fl_9_63 rfl rfl rfl (by decide) ?_
              refine gd_ild2 dX9_built_25 ?_
              refine gd_iald (n := 4) dX9_built_26 rfl (by decide) (by repeat' (first | with_reducible rfl | apply ni_add | apply ni_mul)) (by omega) ?_
              refine gd_if_ne_t 37 dX9_built_27 (by decide) (by rw [show (hf h 0).1 90 q = nI 64 from e90]; decide) ?_
              refine gd_ald0 dX9_built_37 (by decide) ?_
              refine gd_getR (r := 91) dX9_built_38 fl_9_66 rfl rfl rfl (by decide) ?_
              refine gd_ild2 dX9_built_41 ?_
              refine gd_iald (n := 4) dX9_built_42 rfl (by decide) (by repeat' (first | with_reducible rfl | apply ni_add | apply ni_mul)) (by omega) ?_
              rw [show (hf h 0).1 91 q = nI (tn (h.1 91 q)) from e91]
              refine gd_ic3 dX9_built_43 ?_
              refine gd_icmp_eq_t 54 dX9_built_44 (by decide) (by exact (nI_eq (by omega) (by omega)).mpr (by omega)) ?_
              refine gd_ic0 dX9_built_54 ?_
              refine gd_ist3 dX9_built_55 rfl ?_
              exact m_built1_f (h := hf h 0) hq hk ha hx _ _
        · refine Pas.find (h1 := h) (h2 := hf (h) 6) (v := -1000000007) (w := (-1000000000 : Int32) - nI 7) 6 i (by decide) (by decide) (by decide) (Same.rf _) (Same.rf _) ?_ ?_
          · refine gd_ald0 dX8_built_0 (by decide) ?_
            refine gd_ild1 dX8_built_1 ?_
            refine gd_cV1i dX8_built_2 ct_8_74 rc_0 ⟨Nat.le_of_ble_eq_true rfl, Nat.le_of_ble_eq_true rfl⟩ (Nat.le_of_ble_eq_true rfl) (Nat.le_of_ble_eq_true rfl) (c_isTown_t i.w i.c ht) ?_
            refine gd_if_eq_f 16 dX8_built_5 (by decide) (by decide) ?_
            refine gd_ild2 dX8_built_8 ?_
            refine gd_ic4 dX8_built_9 ?_
            refine gd_cS2i dX8_built_10 ct_8_48 ⟨Nat.le_of_ble_eq_true rfl, Nat.le_of_ble_eq_true rfl⟩ (Nat.le_of_ble_eq_true rfl) (Nat.le_of_ble_eq_true rfl) (c_isBelow_t hq (by decide) _) ?_
            refine gd_if_ne_t 23 dX8_built_13 (by decide) (by decide) ?_
            refine gd_ald0 dX8_built_23 (by decide) ?_
            refine gd_getR (r := 56) dX8_built_24 fl_8_33 rfl rfl rfl (by decide) ?_
            refine gd_ild2 dX8_built_27 ?_
            refine gd_cV1i dX8_built_28 ct_8_82 rc_56 ⟨Nat.le_of_ble_eq_true rfl, Nat.le_of_ble_eq_true rfl⟩ (Nat.le_of_ble_eq_true rfl) (Nat.le_of_ble_eq_true rfl) (c_isMissing0 hq e58 (by decide) (by decide)) ?_
            refine gd_if_eq_t 41 dX8_built_31 (by decide) (by decide) ?_
            refine gd_ald0 dX8_built_41 (by decide) ?_
            refine gd_getR (r := 56) dX8_built_42 fl_8_33 rfl rfl rfl (by decide) ?_
            refine gd_getR (r := 59) dX8_built_45 fl_8_86 rfl rfl rfl (by decide) ?_
            refine gd_ild2 dX8_built_48 ?_
            refine gd_iald (n := 4) dX8_built_49 rfl (by decide) (by repeat' (first | with_reducible rfl | apply ni_add | apply ni_mul)) (by omega) ?_
            rw [e59]
            refine gd_ic3 dX8_built_50 ?_
            refine gd_icmp_eq_f 61 dX8_built_51 (by decide) (by exact fun z => absurd ((nI_eq (by omega) (by omega)).mp z) (by omega)) ?_
            refine gd_ald0 dX8_built_54 (by decide) ?_
            refine gd_ldc dX8_built_55 ld_8_89 ?_
            refine gd_cV1i dX8_built_57 ct_8_53 rc_0 ⟨Nat.le_of_ble_eq_true rfl, Nat.le_of_ble_eq_true rfl⟩ (Nat.le_of_ble_eq_true rfl) (Nat.le_of_ble_eq_true rfl) (c_f6 _) ?_
            refine gd_iret dX8_built_60 rfl rfl ?_
            rfl
          · refine gd_ald0 dX9_built_0 (by decide) ?_
            refine gd_ild1 dX9_built_1 ?_
            refine gd_cV1i dX9_built_2 ct_9_101 rc_72 ⟨Nat.le_of_ble_eq_true rfl, Nat.le_of_ble_eq_true rfl⟩ (Nat.le_of_ble_eq_true rfl) (Nat.le_of_ble_eq_true rfl) (m_isTown_t (h := hf h 6) (by exact i.w) ht) ?_
            refine gd_if_eq_f 15 dX9_built_5 (by decide) (by decide) ?_
            refine gd_ild2 dX9_built_8 ?_
            refine gd_cS1i dX9_built_9 ct_9_104 ⟨Nat.le_of_ble_eq_true rfl, Nat.le_of_ble_eq_true rfl⟩ (Nat.le_of_ble_eq_true rfl) (Nat.le_of_ble_eq_true rfl) (m_isSheet_t hq _) ?_
            refine gd_if_ne_t 21 dX9_built_12 (by decide) (by decide) ?_
            refine gd_ald0 dX9_built_21 (by decide) ?_
            refine gd_getR (r := 90) dX9_built_22 fl_9_63 rfl rfl rfl (by decide) ?_
            refine gd_ild2 dX9_built_25 ?_
            refine gd_iald (n := 4) dX9_built_26 rfl (by decide) (by repeat' (first | with_reducible rfl | apply ni_add | apply ni_mul)) (by omega) ?_
            refine gd_if_ne_t 37 dX9_built_27 (by decide) (by rw [show (hf h 6).1 90 q = nI 64 from e90]; decide) ?_
            refine gd_ald0 dX9_built_37 (by decide) ?_
            refine gd_getR (r := 91) dX9_built_38 fl_9_66 rfl rfl rfl (by decide) ?_
            refine gd_ild2 dX9_built_41 ?_
            refine gd_iald (n := 4) dX9_built_42 rfl (by decide) (by repeat' (first | with_reducible rfl | apply ni_add | apply ni_mul)) (by omega) ?_
            rw [show (hf h 6).1 91 q = nI (tn (h.1 91 q)) from e91]
            refine gd_ic3 dX9_built_43 ?_
            refine gd_icmp_eq_f 54 dX9_built_44 (by decide) (by exact fun z => absurd ((nI_eq (by omega) (by omega)).mp z) (by omega)) ?_
            refine gd_ald0 dX9_built_47 (by decide) ?_
            refine gd_bipush (v := nI 7) dX9_built_48 (by decide) ?_
            refine gd_cV1i dX9_built_50 ct_9_97 rc_72 ⟨Nat.le_of_ble_eq_true rfl, Nat.le_of_ble_eq_true rfl⟩ (Nat.le_of_ble_eq_true rfl) (Nat.le_of_ble_eq_true rfl) (m_f6 _) ?_
            refine gd_iret dX9_built_53 rfl rfl ?_
            rfl
    · refine Pas.find (h1 := h) (h2 := hf (h) 0) (v := -1000000001) (w := (-1000000000 : Int32) - nI 1) 0 i (by decide) (by decide) (by decide) (Same.rf _) (Same.rf _) ?_ ?_
      · refine gd_ald0 dX8_built_0 (by decide) ?_
        refine gd_ild1 dX8_built_1 ?_
        refine gd_cV1i dX8_built_2 ct_8_74 rc_0 ⟨Nat.le_of_ble_eq_true rfl, Nat.le_of_ble_eq_true rfl⟩ (Nat.le_of_ble_eq_true rfl) (Nat.le_of_ble_eq_true rfl) (c_isTown_t i.w i.c ht) ?_
        refine gd_if_eq_f 16 dX8_built_5 (by decide) (by decide) ?_
        refine gd_ild2 dX8_built_8 ?_
        refine gd_ic4 dX8_built_9 ?_
        refine gd_cS2i dX8_built_10 ct_8_48 ⟨Nat.le_of_ble_eq_true rfl, Nat.le_of_ble_eq_true rfl⟩ (Nat.le_of_ble_eq_true rfl) (Nat.le_of_ble_eq_true rfl) (c_isBelow_f hb _) ?_
        refine gd_if_ne_f 23 dX8_built_13 (by decide) (by decide) ?_
        refine gd_ald0 dX8_built_16 (by decide) ?_
        refine gd_ldc dX8_built_17 ld_8_52 ?_
        refine gd_cV1i dX8_built_19 ct_8_53 rc_0 ⟨Nat.le_of_ble_eq_true rfl, Nat.le_of_ble_eq_true rfl⟩ (Nat.le_of_ble_eq_true rfl) (Nat.le_of_ble_eq_true rfl) (c_f0 _) ?_
        refine gd_iret dX8_built_22 rfl rfl ?_
        rfl
      · refine gd_ald0 dX9_built_0 (by decide) ?_
        refine gd_ild1 dX9_built_1 ?_
        refine gd_cV1i dX9_built_2 ct_9_101 rc_72 ⟨Nat.le_of_ble_eq_true rfl, Nat.le_of_ble_eq_true rfl⟩ (Nat.le_of_ble_eq_true rfl) (Nat.le_of_ble_eq_true rfl) (m_isTown_t (h := hf h 0) (by exact i.w) ht) ?_
        refine gd_if_eq_f 15 dX9_built_5 (by decide) (by decide) ?_
        refine gd_ild2 dX9_built_8 ?_
        refine gd_cS1i dX9_built_9 ct_9_104 ⟨Nat.le_of_ble_eq_true rfl, Nat.le_of_ble_eq_true rfl⟩ (Nat.le_of_ble_eq_true rfl) (Nat.le_of_ble_eq_true rfl) (m_isSheet_f hb _) ?_
        refine gd_if_ne_f 21 dX9_built_12 (by decide) (by decide) ?_
        refine gd_ald0 dX9_built_15 (by decide) ?_
        refine gd_ic1 dX9_built_16 ?_
        refine gd_cV1i dX9_built_17 ct_9_97 rc_72 ⟨Nat.le_of_ble_eq_true rfl, Nat.le_of_ble_eq_true rfl⟩ (Nat.le_of_ble_eq_true rfl) (Nat.le_of_ble_eq_true rfl) (m_f0 _) ?_
        refine gd_iret dX9_built_20 rfl rfl ?_
        rfl
  · refine Pas.find (h1 := h) (h2 := hf (h) 0) (v := -1000000001) (w := (-1000000000 : Int32) - nI 1) 0 i (by decide) (by decide) (by decide) (Same.rf _) (Same.rf _) ?_ ?_
    · refine gd_ald0 dX8_built_0 (by decide) ?_
      refine gd_ild1 dX8_built_1 ?_
      refine gd_cV1i dX8_built_2 ct_8_74 rc_0 ⟨Nat.le_of_ble_eq_true rfl, Nat.le_of_ble_eq_true rfl⟩ (Nat.le_of_ble_eq_true rfl) (Nat.le_of_ble_eq_true rfl) (c_isTown_f i.w i.c ha) ?_
      refine gd_if_eq_t 16 dX8_built_5 (by decide) (by decide) ?_
      refine gd_ald0 dX8_built_16 (by decide) ?_
      refine gd_ldc dX8_built_17 ld_8_52 ?_
      refine gd_cV1i dX8_built_19 ct_8_53 rc_0 ⟨Nat.le_of_ble_eq_true rfl, Nat.le_of_ble_eq_true rfl⟩ (Nat.le_of_ble_eq_true rfl) (Nat.le_of_ble_eq_true rfl) (c_f0 _) ?_
      refine gd_iret dX8_built_22 rfl rfl ?_
      rfl
    · refine gd_ald0 dX9_built_0 (by decide) ?_
      refine gd_ild1 dX9_built_1 ?_
      refine gd_cV1i dX9_built_2 ct_9_101 rc_72 ⟨Nat.le_of_ble_eq_true rfl, Nat.le_of_ble_eq_true rfl⟩ (Nat.le_of_ble_eq_true rfl) (Nat.le_of_ble_eq_true rfl) (m_isTown_f (h := hf h 0) (by exact i.w) ha) ?_
      refine gd_if_eq_t 15 dX9_built_5 (by decide) (by decide) ?_
      refine gd_ald0 dX9_built_15 (by decide) ?_
      refine gd_ic1 dX9_built_16 ?_
      refine gd_cV1i dX9_built_17 ct_9_97 rc_72 ⟨Nat.le_of_ble_eq_true rfl, Nat.le_of_ble_eq_true rfl⟩ (Nat.le_of_ble_eq_true rfl) (Nat.le_of_ble_eq_true rfl) (m_f0 _) ?_
      refine gd_iret dX9_built_20 rfl rfl ?_
      rfl
