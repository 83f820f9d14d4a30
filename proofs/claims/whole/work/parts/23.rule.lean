
/-! ===== which rule counts ===== -/
def rT (s : Nat → Nat → Int32) (w a : Int32) (t : Nat) : Nat → Nat → Option Nat
  | _, 0 => none
  | k, n + 1 => if s 6 (4 * (6 * t + k)) = w ∧ s 6 (4 * (6 * t + k) + 1) = a then some (6 * t + k) else rT s w a t (k + 1) n
def rF (s : Nat → Nat → Int32) (w a : Int32) : Nat → Option Nat
  | 0 => none
  | t + 1 => if s 5 (2 * t) ≤ s 0 4 then (match rT s w a t 0 (cR s t) with
      | some q => some q
      | none => rF s w a t) else rF s w a t
def oI (o : Option Nat) : Int32 := match o with
  | none => -1
  | some q => nI q
def kw (k : Nat) : Nat := if k < 4 then 1 else if k = 4 then 2 else if k < 8 then 3 else 0
def ka (k : Nat) : Nat := if k < 4 then k else if k = 4 then 0 else if k < 8 then k - 5 else k - 8
def rk (s : Nat → Nat → Int32) (k : Nat) : Option Nat := rF s (nI (kw k)) (nI (ka k)) (nX s)
theorem key_iff {w a u v : Int32} {k : Nat} (r : RulOK w a u v) (hk : k < 24) : keyI w a = nI k ↔ w = nI (kw k) ∧ a = nI (ka k) := by
  obtain ⟨wn, an, un, vn, rfl, rfl, rfl, rfl, h1, h2⟩ := r
  have kb : kw k ≤ 3 ∧ ka k ≤ 23 := by unfold kw ka; split <;> (try split) <;> (try split) <;> omega
  rcases h2 with ⟨rfl, h⟩ | ⟨rfl, h⟩ | ⟨rfl, h⟩ | ⟨rfl, h⟩
  · rw [show keyI (nI 0) (nI an) = nI (8 + an) by unfold keyI; rw [if_pos rfl, nI_add], nI_eq (by omega) (by omega), nI_eq (by omega) (by omega), nI_eq (by omega) (by omega)]
    unfold kw ka; repeat' split
    all_goals omega
  · rw [show keyI (nI 1) (nI an) = nI an by unfold keyI; rw [if_neg (by decide), if_pos rfl], nI_eq (by omega) (by omega), nI_eq (by omega) (by omega), nI_eq (by omega) (by omega)]
    unfold kw ka; repeat' split
    all_goals omega
  · rw [show keyI (nI 2) (nI an) = nI 4 by unfold keyI; rw [if_neg (by decide), if_neg (by decide), if_pos rfl], nI_eq (by omega) (by omega), nI_eq (by omega) (by omega), nI_eq (by omega) (by omega)]
    unfold kw ka; repeat' split
    all_goals omega
  · rw [show keyI (nI 3) (nI an) = nI (5 + an) by unfold keyI; rw [if_neg (by decide), if_neg (by decide), if_neg (by decide), nI_add], nI_eq (by omega) (by omega), nI_eq (by omega) (by omega), nI_eq (by omega) (by omega)]
    unfold kw ka; repeat' split
    all_goals omega
theorem rT_at {s : Nat → Nat → Int32} {w a : Int32} {t q : Nat} : ∀ {n k : Nat}, rT s w a t k n = some q → ∃ r, k ≤ r ∧ r < k + n ∧ q = 6 * t + r ∧ s 6 (4 * q) = w ∧ s 6 (4 * q + 1) = a
  | 0, k, e => by simp [rT] at e
  | n + 1, k, e => by
    unfold rT at e
    split at e
    · rename_i hc
      cases e
      exact ⟨k, by omega, by omega, rfl, hc.1, hc.2⟩
    · obtain ⟨r, h1, h2, h3⟩ := rT_at e
      exact ⟨r, by omega, by omega, h3⟩
theorem rF_at {s : Nat → Nat → Int32} {w a : Int32} {q : Nat} : ∀ {n : Nat}, rF s w a n = some q → ∃ t r, t < n ∧ r < cR s t ∧ q = 6 * t + r ∧ s 6 (4 * q) = w ∧ s 6 (4 * q + 1) = a
  | 0, e => by simp [rF] at e
  | n + 1, e => by
    unfold rF at e
    split at e
    · split at e
      · rename_i q2 hq
        cases e
        obtain ⟨r, h1, h2, h3⟩ := rT_at hq
        exact ⟨n, r, by omega, by omega, h3⟩
      · obtain ⟨t, r, h1, h2⟩ := rF_at e
        exact ⟨t, r, by omega, h2⟩
    · obtain ⟨t, r, h1, h2⟩ := rF_at e
      exact ⟨t, r, by omega, h2⟩
theorem rk_at {s : Nat → Nat → Int32} {k q : Nat} (w : WF s) (e : rk s k = some q) : ∃ t r, t < nX s ∧ r < cR s t ∧ q = 6 * t + r ∧ q < 48 ∧ s 6 (4 * q) = nI (kw k) ∧ s 6 (4 * q + 1) = nI (ka k) := by
  obtain ⟨t, r, h1, h2, h3, h4⟩ := rF_at e
  have := w.x.2
  have := (w.c6 t h1).2.2
  exact ⟨t, r, h1, h2, h3, by omega, h4⟩
theorem rT_n {s : Nat → Nat → Int32} {w a : Int32} {t k n : Nat} (h : ¬ (s 6 (4 * (6 * t + k)) = w ∧ s 6 (4 * (6 * t + k) + 1) = a)) : rT s w a t k (n + 1) = rT s w a t (k + 1) n := by
  rw [rT, if_neg h]
theorem rT_y {s : Nat → Nat → Int32} {w a : Int32} {t k n : Nat} (h : s 6 (4 * (6 * t + k)) = w ∧ s 6 (4 * (6 * t + k) + 1) = a) : rT s w a t k (n + 1) = some (6 * t + k) := by
  rw [rT, if_pos h]
def oE (a b : Option Nat) : Option Nat := match a with
  | some q => some q
  | none => b
theorem rF_y {s : Nat → Nat → Int32} {w a : Int32} {t : Nat} (h : s 5 (2 * t) ≤ s 0 4) : rF s w a (t + 1) = oE (rT s w a t 0 (cR s t)) (rF s w a t) := by
  rw [rF, if_pos h]; rfl
theorem rF_n {s : Nat → Nat → Int32} {w a : Int32} {t : Nat} (h : ¬ s 5 (2 * t) ≤ s 0 4) : rF s w a (t + 1) = rF s w a t := by
  rw [rF, if_neg h]

theorem lp_ruleFor {h : Hp} {s : Nat → Nat → Int32} (w : WF s) (c : CR h 1 s) {k : Nat} (hk : k < 24) : ∀ (n : Nat) (u : Value), n ≤ nX s → Gd mX6_ruleFor 7 [.ref 15, .int (nI k), .int (s 0 4), .int (nI n - nI 1), u] [] h (some (.int (oI (rF s (nI (kw k)) (nI (ka k)) n))), h)
  | 0, u, hn => by
    refine gd_ild3 dX6_ruleFor_7 ?_
    refine gd_if_lt_t 74 dX6_ruleFor_8 (by decide) (by decide) ?_
    refine gd_icm1 dX6_ruleFor_74 ?_
    refine gd_iret dX6_ruleFor_75 rfl rfl ?_
    rfl
  | n + 1, u, hn => by
    have lx := w.x.2
    have l6 := (w.c6 n (by omega)).2.2
    rw [show nI (n + 1) - nI 1 = nI n from pk_sub (a := n + 1) (b := 1) (by omega)]
    have inner : ∀ r m, r + m = cR s n → Gd mX6_ruleFor 27 [.ref 15, .int (nI k), .int (s 0 4), .int (nI n), .int (nI r)] [] h (some (.int (oI (oE (rT s (nI (kw k)) (nI (ka k)) n r m) (rF s (nI (kw k)) (nI (ka k)) n)))), h) := by
      intro r m hm
      induction m generalizing r with
      | zero =>
        refine gd_ild4 dX6_ruleFor_27 ?_
        refine gd_ald0 dX6_ruleFor_29 (by decide) ?_
        refine gd_getR (r := 17) dX6_ruleFor_30 fl_6_15 rfl rfl rfl (by decide) ?_
        refine gd_ild3 dX6_ruleFor_33 ?_
        refine gd_iald (n := 8) dX6_ruleFor_34 rfl (by decide) (by repeat' (first | with_reducible rfl | apply ni_add | apply ni_mul)) (by omega) ?_
        refine gd_icmp_ge_t 68 dX6_ruleFor_35 (by decide) (by rw [c.c61 n (by omega), (w.c6 n (by omega)).1]; exact nI_le (by omega) (by omega)) ?_
        refine gd_iinc3 (b := -1) dX6_ruleFor_68 (by decide) rfl ?_
        refine gd_goto 7 dX6_ruleFor_71 (by decide) ?_
        rw [nI_m1]
        exact lp_ruleFor w c hk n _ (by omega)
      | succ m inner =>
        refine gd_ild4 dX6_ruleFor_27 ?_
        refine gd_ald0 dX6_ruleFor_29 (by decide) ?_
        refine gd_getR (r := 17) dX6_ruleFor_30 fl_6_15 rfl rfl rfl (by decide) ?_
        refine gd_ild3 dX6_ruleFor_33 ?_
        refine gd_iald (n := 8) dX6_ruleFor_34 rfl (by decide) (by repeat' (first | with_reducible rfl | apply ni_add | apply ni_mul)) (by omega) ?_
        refine gd_icmp_ge_f 68 dX6_ruleFor_35 (by decide) (by rw [c.c61 n (by omega), (w.c6 n (by omega)).1]; exact nI_ge (by omega) (by omega)) ?_
        refine gd_ald0 dX6_ruleFor_38 (by decide) ?_
        refine gd_getR (r := 18) dX6_ruleFor_39 fl_6_18 rfl rfl rfl (by decide) ?_
        refine gd_ild3 dX6_ruleFor_42 ?_
        refine gd_bipush (v := nI 6) dX6_ruleFor_43 (by decide) ?_
        refine gd_imul dX6_ruleFor_45 ?_
        refine gd_ild4 dX6_ruleFor_46 ?_
        refine gd_iadd dX6_ruleFor_48 ?_
        refine gd_iald (n := 48) dX6_ruleFor_49 rfl (by decide) (by repeat' (first | with_reducible rfl | apply ni_add | apply ni_mul)) (by omega) ?_
        rw [show n * 6 + r = 6 * n + r by omega, c.rk1 n (by omega) r (by omega)]
        refine gd_ild1 dX6_ruleFor_50 ?_
        refine gd_icmp_ne 62 dX6_ruleFor_51 (by decide) (fun c51 => ?_) (fun c51 => ?_)
        · refine gd_iinc4 (b := nI 1) dX6_ruleFor_62 (by decide) rfl ?_
          rw [nI_add]
          refine gd_goto 27 dX6_ruleFor_65 (by decide) ?_
          rw [rT_n (fun z => c51 ((key_iff (w.r n (by omega) r (by omega)) hk).mpr z))]
          exact inner (r + 1) (by omega)
        · refine gd_ild3 dX6_ruleFor_54 ?_
          refine gd_bipush (v := nI 6) dX6_ruleFor_55 (by decide) ?_
          refine gd_imul dX6_ruleFor_57 ?_
          refine gd_ild4 dX6_ruleFor_58 ?_
          refine gd_iadd dX6_ruleFor_60 ?_
          refine gd_iret dX6_ruleFor_61 rfl rfl ?_
          rw [rT_y ((key_iff (w.r n (by omega) r (by omega)) hk).mp c51), show nI n * nI 6 + nI r = nI (6 * n + r) by rw [pk_mul, nI_add, Nat.mul_comm]]
          rfl
    refine gd_ild3 dX6_ruleFor_7 ?_
    refine gd_if_lt_f 74 dX6_ruleFor_8 (by decide) (by exact nI_pos (by omega)) ?_
    refine gd_ald0 dX6_ruleFor_11 (by decide) ?_
    refine gd_getR (r := 16) dX6_ruleFor_12 fl_6_9 rfl rfl rfl (by decide) ?_
    refine gd_ild3 dX6_ruleFor_15 ?_
    refine gd_iald (n := 8) dX6_ruleFor_16 rfl (by decide) (by repeat' (first | with_reducible rfl | apply ni_add | apply ni_mul)) (by omega) ?_
    rw [c.f1 n (by omega)]
    refine gd_ild2 dX6_ruleFor_17 ?_
    refine gd_icmp_le 24 dX6_ruleFor_18 (by decide) (fun c18 => ?_) (fun c18 => ?_)
    · refine gd_ic0 dX6_ruleFor_24 ?_
      refine gd_ist4 dX6_ruleFor_25 rfl ?_
      rw [rF_y c18]
      exact inner 0 (cR s n) (by omega)
    · refine gd_goto 68 dX6_ruleFor_21 (by decide) ?_
      refine gd_iinc3 (b := -1) dX6_ruleFor_68 (by decide) rfl ?_
      refine gd_goto 7 dX6_ruleFor_71 (by decide) ?_
      rw [nI_m1, rF_n c18]
      exact lp_ruleFor w c hk n _ (by omega)
theorem c_ruleFor {h : Hp} {s : Nat → Nat → Int32} (w : WF s) (c : CR h 1 s) {k : Nat} (hk : k < 24) : Gd mX6_ruleFor 0 [.ref 15, .int (nI k), .int (s 0 4), .null, .null] [] h (some (.int (oI (rk s k))), h) := by
  refine gd_ald0 dX6_ruleFor_0 (by decide) ?_
  refine gd_getI dX6_ruleFor_1 fl_6_27 rfl rfl ?_
  rw [c.x1, w.x.1]
  refine gd_ic1 dX6_ruleFor_4 ?_
  refine gd_isub dX6_ruleFor_5 ?_
  refine gd_ist3 dX6_ruleFor_6 rfl ?_
  exact lp_ruleFor w c hk (nX s) _ (Nat.le_refl _)
theorem lp_ruleOf {h : Hp} (f : WF (ms h)) {w a : Int32} : ∀ (n : Nat) (u u2 : Value), n ≤ nX (ms h) → Gd mX9_ruleOf 9 [.ref 72, .int w, .int a, .int (nI n - nI 1), u, u2] [] h (some (.int (oI (rF (ms h) w a n))), h)
  | 0, u, u2, hn => by
    refine gd_ild3 dX9_ruleOf_9 ?_
    refine gd_if_lt_t 100 dX9_ruleOf_10 (by decide) (by decide) ?_
    refine gd_icm1 dX9_ruleOf_100 ?_
    refine gd_iret dX9_ruleOf_101 rfl rfl ?_
    rfl
  | n + 1, u, u2, hn => by
    have lx := f.x.2
    have l6 := (f.c6 n (by omega)).2.2
    have e1 : h.1 79 (2 * n + 1) = nI (cR (ms h) n) := by rw [← ms_r5 (by omega)]; exact (f.c6 n (by omega)).1
    have e2 : h.1 79 (2 * n) = ms h 5 (2 * n) := (ms_r5 (by omega)).symm
    have e3 : h.1 74 4 = ms h 0 4 := (ms_r0 (by decide)).symm
    rw [show nI (n + 1) - nI 1 = nI n from pk_sub (a := n + 1) (b := 1) (by omega)]
    have inner : ∀ r m u2, r + m = cR (ms h) n → Gd mX9_ruleOf 16 [.ref 72, .int w, .int a, .int (nI n), .int (nI r), u2] [] h (some (.int (oI (if ms h 5 (2 * n) ≤ ms h 0 4 then oE (rT (ms h) w a n r m) (rF (ms h) w a n) else rF (ms h) w a n))), h) := by
      intro r m u2 hm
      induction m generalizing r u2 with
      | zero =>
        simp only [rT, oE]
        refine gd_ild4 dX9_ruleOf_16 ?_
        refine gd_ald0 dX9_ruleOf_18 (by decide) ?_
        refine gd_getR (r := 79) dX9_ruleOf_19 fl_9_28 rfl rfl rfl (by decide) ?_
        refine gd_ic2 dX9_ruleOf_22 ?_
        refine gd_ild3 dX9_ruleOf_23 ?_
        refine gd_imul dX9_ruleOf_24 ?_
        refine gd_ic1 dX9_ruleOf_25 ?_
        refine gd_iadd dX9_ruleOf_26 ?_
        refine gd_iald (n := 16) dX9_ruleOf_27 rfl (by decide) (by repeat' (first | with_reducible rfl | apply ni_add | apply ni_mul)) (by omega) ?_
        rw [e1]
        refine gd_icmp_ge_t 94 dX9_ruleOf_28 (by decide) (by exact nI_le (by omega) (by omega)) ?_
        refine gd_iinc3 (b := -1) dX9_ruleOf_94 (by decide) rfl ?_
        refine gd_goto 9 dX9_ruleOf_97 (by decide) ?_
        rw [nI_m1]
        split
        · exact lp_ruleOf f n _ _ (by omega)
        · exact lp_ruleOf f n _ _ (by omega)
      | succ m inner =>
        refine gd_ild4 dX9_ruleOf_16 ?_
        refine gd_ald0 dX9_ruleOf_18 (by decide) ?_
        refine gd_getR (r := 79) dX9_ruleOf_19 fl_9_28 rfl rfl rfl (by decide) ?_
        refine gd_ic2 dX9_ruleOf_22 ?_
        refine gd_ild3 dX9_ruleOf_23 ?_
        refine gd_imul dX9_ruleOf_24 ?_
        refine gd_ic1 dX9_ruleOf_25 ?_
        refine gd_iadd dX9_ruleOf_26 ?_
        refine gd_iald (n := 16) dX9_ruleOf_27 rfl (by decide) (by repeat' (first | with_reducible rfl | apply ni_add | apply ni_mul)) (by omega) ?_
        rw [e1]
        refine gd_icmp_ge_f 94 dX9_ruleOf_28 (by decide) (by exact nI_ge (by omega) (by omega)) ?_
        refine gd_ald0 dX9_ruleOf_31 (by decide) ?_
        refine gd_getR (r := 79) dX9_ruleOf_32 fl_9_28 rfl rfl rfl (by decide) ?_
        refine gd_ic2 dX9_ruleOf_35 ?_
        refine gd_ild3 dX9_ruleOf_36 ?_
        refine gd_imul dX9_ruleOf_37 ?_
        refine gd_iald (n := 16) dX9_ruleOf_38 rfl (by decide) (by repeat' (first | with_reducible rfl | apply ni_add | apply ni_mul)) (by omega) ?_
        rw [e2]
        refine gd_ald0 dX9_ruleOf_39 (by decide) ?_
        refine gd_getR (r := 74) dX9_ruleOf_40 fl_9_13 rfl rfl rfl (by decide) ?_
        refine gd_ic4 dX9_ruleOf_43 ?_
        refine gd_iald (n := 5) dX9_ruleOf_44 rfl (by decide) (by repeat' (first | with_reducible rfl | apply ni_add | apply ni_mul)) (by omega) ?_
        rw [e3]
        refine gd_icmp_gt 94 dX9_ruleOf_45 (by decide) (fun c45 => ?_) (fun c45 => ?_)
        · refine gd_iinc3 (b := -1) dX9_ruleOf_94 (by decide) rfl ?_
          refine gd_goto 9 dX9_ruleOf_97 (by decide) ?_
          rw [nI_m1, if_neg (fun z => absurd c45 (Int32.not_lt.mpr z))]
          exact lp_ruleOf f n _ _ (by omega)
        · refine gd_bipush (v := nI 6) dX9_ruleOf_48 (by decide) ?_
          refine gd_ild3 dX9_ruleOf_50 ?_
          refine gd_imul dX9_ruleOf_51 ?_
          refine gd_ild4 dX9_ruleOf_52 ?_
          refine gd_iadd dX9_ruleOf_54 ?_
          refine gd_ist5 dX9_ruleOf_55 rfl ?_
          refine gd_ald0 dX9_ruleOf_57 (by decide) ?_
          refine gd_getR (r := 80) dX9_ruleOf_58 fl_9_31 rfl rfl rfl (by decide) ?_
          refine gd_ic4 dX9_ruleOf_61 ?_
          refine gd_ild5 dX9_ruleOf_62 ?_
          refine gd_imul dX9_ruleOf_64 ?_
          refine gd_iald (n := 192) dX9_ruleOf_65 rfl (by decide) (by repeat' (first | with_reducible rfl | apply ni_add | apply ni_mul)) (by omega) ?_
          rw [show h.1 80 (4 * (6 * n + r)) = ms h 6 (4 * (6 * n + r)) from (ms_r6 (by omega)).symm]
          refine gd_ild1 dX9_ruleOf_66 ?_
          refine gd_icmp_ne 88 dX9_ruleOf_67 (by decide) (fun c67 => ?_) (fun c67 => ?_)
          · refine gd_iinc4 (b := nI 1) dX9_ruleOf_88 (by decide) rfl ?_
            rw [nI_add]
            refine gd_goto 16 dX9_ruleOf_91 (by decide) ?_
            have ih := inner (r + 1) (.int (nI 6 * nI n + nI r)) (by omega)
            rw [if_pos (Int32.not_lt.mp c45)] at ih ⊢
            rw [rT_n (fun z => c67 z.1)]
            exact ih
          · refine gd_ald0 dX9_ruleOf_70 (by decide) ?_
            refine gd_getR (r := 80) dX9_ruleOf_71 fl_9_31 rfl rfl rfl (by decide) ?_
            refine gd_ic4 dX9_ruleOf_74 ?_
            refine gd_ild5 dX9_ruleOf_75 ?_
            refine gd_imul dX9_ruleOf_77 ?_
            refine gd_ic1 dX9_ruleOf_78 ?_
            refine gd_iadd dX9_ruleOf_79 ?_
            refine gd_iald (n := 192) dX9_ruleOf_80 rfl (by decide) (by repeat' (first | with_reducible rfl | apply ni_add | apply ni_mul)) (by omega) ?_
            rw [show h.1 80 (4 * (6 * n + r) + 1) = ms h 6 (4 * (6 * n + r) + 1) from (ms_r6 (by omega)).symm]
            refine gd_ild2 dX9_ruleOf_81 ?_
            refine gd_icmp_ne 88 dX9_ruleOf_82 (by decide) (fun c82 => ?_) (fun c82 => ?_)
            · refine gd_iinc4 (b := nI 1) dX9_ruleOf_88 (by decide) rfl ?_
              rw [nI_add]
              refine gd_goto 16 dX9_ruleOf_91 (by decide) ?_
              have ih := inner (r + 1) (.int (nI 6 * nI n + nI r)) (by omega)
              rw [if_pos (Int32.not_lt.mp c45)] at ih ⊢
              rw [rT_n (fun z => c82 z.2)]
              exact ih
            · refine gd_ild5 dX9_ruleOf_85 ?_
              refine gd_iret dX9_ruleOf_87 rfl rfl ?_
              rw [if_pos (Int32.not_lt.mp c45), rT_y ⟨c67, c82⟩, pk_mul, nI_add]
              rfl
    have e4 : rF (ms h) w a (n + 1) = (if ms h 5 (2 * n) ≤ ms h 0 4 then oE (rT (ms h) w a n 0 (cR (ms h) n)) (rF (ms h) w a n) else rF (ms h) w a n) := by
      by_cases z : ms h 5 (2 * n) ≤ ms h 0 4
      · rw [rF_y z, if_pos z]
      · rw [rF_n z, if_neg z]
    rw [e4]
    refine gd_ild3 dX9_ruleOf_9 ?_
    refine gd_if_lt_f 100 dX9_ruleOf_10 (by decide) (by exact nI_pos (by omega)) ?_
    refine gd_ic0 dX9_ruleOf_13 ?_
    refine gd_ist4 dX9_ruleOf_14 rfl ?_
    exact inner 0 (cR (ms h) n) _ (by omega)
theorem m_ruleOf {h : Hp} (f : WF (ms h)) (w a : Int32) : Gd mX9_ruleOf 0 [.ref 72, .int w, .int a, .null, .null, .null] [] h (some (.int (oI (rF (ms h) w a (nX (ms h))))), h) := by
  refine gd_ald0 dX9_ruleOf_0 (by decide) ?_
  refine gd_getR (r := 74) dX9_ruleOf_1 fl_9_13 rfl rfl rfl (by decide) ?_
  refine gd_ic2 dX9_ruleOf_4 ?_
  refine gd_iald (n := 5) dX9_ruleOf_5 rfl (by decide) (by repeat' (first | with_reducible rfl | apply ni_add | apply ni_mul)) (by omega) ?_
  rw [show h.1 74 2 = nI (nX (ms h)) by rw [← f.x.1, ms_r0 (by decide)]]
  refine gd_ic1 dX9_ruleOf_6 ?_
  refine gd_isub dX9_ruleOf_7 ?_
  refine gd_ist3 dX9_ruleOf_8 rfl ?_
  exact lp_ruleOf f (nX (ms h)) _ _ (Nat.le_refl _)
theorem m_ruleAbout {h : Hp} (f : WF (ms h)) {k : Nat} (hk : k < 24) : Gd mX9_ruleAbout 0 [.ref 72, .int (nI k)] [] h (some (.int (oI (rk (ms h) k))), h) := by
  rcases (show k < 4 ∨ k = 4 ∨ (4 < k ∧ k < 8) ∨ 8 ≤ k by omega) with q | q | q | q
  · refine gd_ild1 dX9_ruleAbout_0 ?_
    refine gd_ic4 dX9_ruleAbout_1 ?_
    refine gd_icmp_ge_f 14 dX9_ruleAbout_2 (by decide) (by exact nI_ge (by omega) (by omega)) ?_
    refine gd_ald0 dX9_ruleAbout_5 (by decide) ?_
    refine gd_ic1 dX9_ruleAbout_6 ?_
    refine gd_ild1 dX9_ruleAbout_7 ?_
    refine gd_cV2i dX9_ruleAbout_8 ct_9_127 rc_72 ⟨Nat.le_of_ble_eq_true rfl, Nat.le_of_ble_eq_true rfl⟩ (Nat.le_of_ble_eq_true rfl) (Nat.le_of_ble_eq_true rfl) (m_ruleOf f _ _) ?_
    refine gd_goto 54 dX9_ruleAbout_11 (by decide) ?_
    refine gd_iret dX9_ruleAbout_54 rfl rfl ?_
    rw [show rk (ms h) k = rF (ms h) (nI (kw k)) (nI (ka k)) (nX (ms h)) from rfl, show kw k = 1 by unfold kw; rw [if_pos (by omega)], show ka k = k by unfold ka; rw [if_pos (by omega)]]
  · refine gd_ild1 dX9_ruleAbout_0 ?_
    refine gd_ic4 dX9_ruleAbout_1 ?_
    refine gd_icmp_ge_t 14 dX9_ruleAbout_2 (by decide) (by exact nI_le (by omega) (by omega)) ?_
    refine gd_ild1 dX9_ruleAbout_14 ?_
    refine gd_ic4 dX9_ruleAbout_15 ?_
    refine gd_icmp_ne_f 28 dX9_ruleAbout_16 (by decide) (by exact (nI_eq (by omega) (by omega)).mpr (by omega)) ?_
    refine gd_ald0 dX9_ruleAbout_19 (by decide) ?_
    refine gd_ic2 dX9_ruleAbout_20 ?_
    refine gd_ic0 dX9_ruleAbout_21 ?_
    refine gd_cV2i dX9_ruleAbout_22 ct_9_127 rc_72 ⟨Nat.le_of_ble_eq_true rfl, Nat.le_of_ble_eq_true rfl⟩ (Nat.le_of_ble_eq_true rfl) (Nat.le_of_ble_eq_true rfl) (m_ruleOf f _ _) ?_
    refine gd_goto 54 dX9_ruleAbout_25 (by decide) ?_
    refine gd_iret dX9_ruleAbout_54 rfl rfl ?_
    rw [show rk (ms h) k = rF (ms h) (nI (kw k)) (nI (ka k)) (nX (ms h)) from rfl, show kw k = 2 by unfold kw; rw [if_neg (by omega), if_pos (by omega)], show ka k = 0 by unfold ka; rw [if_neg (by omega), if_pos (by omega)]]
  · refine gd_ild1 dX9_ruleAbout_0 ?_
    refine gd_ic4 dX9_ruleAbout_1 ?_
    refine gd_icmp_ge_t 14 dX9_ruleAbout_2 (by decide) (by exact nI_le (by omega) (by omega)) ?_
    refine gd_ild1 dX9_ruleAbout_14 ?_
    refine gd_ic4 dX9_ruleAbout_15 ?_
    refine gd_icmp_ne_t 28 dX9_ruleAbout_16 (by decide) (by exact fun z => absurd ((nI_eq (by omega) (by omega)).mp z) (by omega)) ?_
    refine gd_ild1 dX9_ruleAbout_28 ?_
    refine gd_bipush (v := nI 8) dX9_ruleAbout_29 (by decide) ?_
    refine gd_icmp_ge_f 45 dX9_ruleAbout_31 (by decide) (by exact nI_ge (by omega) (by omega)) ?_
    refine gd_ald0 dX9_ruleAbout_34 (by decide) ?_
    refine gd_ic3 dX9_ruleAbout_35 ?_
    refine gd_ild1 dX9_ruleAbout_36 ?_
    refine gd_ic5 dX9_ruleAbout_37 ?_
    refine gd_isub dX9_ruleAbout_38 ?_
    rw [pk_sub (by omega)]
    refine gd_cV2i dX9_ruleAbout_39 ct_9_127 rc_72 ⟨Nat.le_of_ble_eq_true rfl, Nat.le_of_ble_eq_true rfl⟩ (Nat.le_of_ble_eq_true rfl) (Nat.le_of_ble_eq_true rfl) (m_ruleOf f _ _) ?_
    refine gd_goto 54 dX9_ruleAbout_42 (by decide) ?_
    refine gd_iret dX9_ruleAbout_54 rfl rfl ?_
    rw [show rk (ms h) k = rF (ms h) (nI (kw k)) (nI (ka k)) (nX (ms h)) from rfl, show kw k = 3 by unfold kw; rw [if_neg (by omega), if_neg (by omega), if_pos (by omega)], show ka k = k - 5 by unfold ka; rw [if_neg (by omega), if_neg (by omega), if_pos (by omega)]]
  · refine gd_ild1 dX9_ruleAbout_0 ?_
    refine gd_ic4 dX9_ruleAbout_1 ?_
    refine gd_icmp_ge_t 14 dX9_ruleAbout_2 (by decide) (by exact nI_le (by omega) (by omega)) ?_
    refine gd_ild1 dX9_ruleAbout_14 ?_
    refine gd_ic4 dX9_ruleAbout_15 ?_
    refine gd_icmp_ne_t 28 dX9_ruleAbout_16 (by decide) (by exact fun z => absurd ((nI_eq (by omega) (by omega)).mp z) (by omega)) ?_
    refine gd_ild1 dX9_ruleAbout_28 ?_
    refine gd_bipush (v := nI 8) dX9_ruleAbout_29 (by decide) ?_
    refine gd_icmp_ge_t 45 dX9_ruleAbout_31 (by decide) (by exact nI_le (by omega) (by omega)) ?_
    refine gd_ald0 dX9_ruleAbout_45 (by decide) ?_
    refine gd_ic0 dX9_ruleAbout_46 ?_
    refine gd_ild1 dX9_ruleAbout_47 ?_
    refine gd_bipush (v := nI 8) dX9_ruleAbout_48 (by decide) ?_
    refine gd_isub dX9_ruleAbout_50 ?_
    rw [pk_sub (by omega)]
    refine gd_cV2i dX9_ruleAbout_51 ct_9_127 rc_72 ⟨Nat.le_of_ble_eq_true rfl, Nat.le_of_ble_eq_true rfl⟩ (Nat.le_of_ble_eq_true rfl) (Nat.le_of_ble_eq_true rfl) (m_ruleOf f _ _) ?_
    refine gd_iret dX9_ruleAbout_54 rfl rfl ?_
    rw [show rk (ms h) k = rF (ms h) (nI (kw k)) (nI (ka k)) (nX (ms h)) from rfl, show kw k = 0 by unfold kw; rw [if_neg (by omega), if_neg (by omega), if_neg (by omega)], show ka k = k - 8 by unfold ka; rw [if_neg (by omega), if_neg (by omega), if_neg (by omega)]]
