
/-! ===== the reference's next ===== -/
def FT (h h' : Hp) : Prop := (∀ k, k ≠ 89 → h'.1 k = h.1 k) ∧ h'.2 = h.2
theorem FT.rf (h : Hp) : FT h h := ⟨fun _ _ => rfl, rfl⟩
theorem FT.tr {a b c : Hp} (p : FT a b) (q : FT b c) : FT a c := ⟨fun k hk => (q.1 k hk).trans (p.1 k hk), q.2.trans p.2⟩
theorem FT.si {a b : Hp} {f : Nat → Int32} (p : FT a b) : FT a (sI b 89 f) := ⟨fun k hk => by rw [sI_n hk]; exact p.1 k hk, p.2⟩
theorem FT.fm {h h' : Hp} (p : FT h h') : FM h h' := ⟨fun k _ _ _ _ h5 => p.1 k h5, ⟨by rw [p.1 72 (by decide)], by rw [p.1 72 (by decide)]⟩, fun k _ _ => by rw [p.2]⟩
theorem FT.pv {h h' : Hp} {s : Nat → Nat → Int32} {g : Int32} (p : FT h h') (v : PV h s g) : PV h' s g := by
  refine ⟨p.fm.ms.trans v.1, ?_, ?_, ?_, ?_⟩
  · rw [p.1 72 (by decide)]; exact v.2.1
  · rw [p.1 87 (by decide)]; exact v.2.2.1
  · rw [p.1 86 (by decide)]; exact v.2.2.2.1
  · rw [p.1 82 (by decide)]; exact v.2.2.2.2
def RM (s : Nat → Nat → Int32) (h : Hp) (L : Nat → Nat → Nat) : Prop := ∀ t, t < nT s → ∀ k, k < 12 → h.1 89 (12 * t + k) = nI (L t k)
theorem rm_congr {s : Nat → Nat → Int32} {h : Hp} {L M : Nat → Nat → Nat} (e : ∀ t k, L t k = M t k) (r : RM s h L) : RM s h M := fun t ht k hk => by rw [← e t k]; exact r t ht k hk

theorem m_tally {h : Hp} {s : Nat → Nat → Int32} (w : WF s) {g : Int32} (v : PV h s g) {c z d n : Nat} (hn : isSh n) {L : Nat → Nat → Nat} (hL : RM s h L) : ∃ h2 l6, (∀ x, Gd mX9_next_ 144 [.ref 72, .int (nI d), .int (nI c), .int (nI z), .int (nI n), .int (nI 1), l6] [] h2 x → Gd mX9_next_ 99 [.ref 72, .int (nI d), .int (nI c), .int (nI z), .int (nI n), .int (nI 1), .int (nI 0)] [] h x) ∧ FT h h2 ∧ RM s h2 (fun u k => L u k + (if stN s u (n / 1000) (n / 10 % 100) (n % 10) = k then 1 else 0)) := by
  have lT := w.t.2
  have key : ∀ h', FT h h' → (∀ u, u < nT s → ∀ k, k < 12 → h'.1 89 (12 * u + k) = nI (if u < 0 then (fun u k => L u k + (if stN s u (n / 1000) (n / 10 % 100) (n % 10) = k then 1 else 0)) u k else L u k)) → ∃ h2 l6, (∀ x, Gd mX9_next_ 144 [.ref 72, .int (nI d), .int (nI c), .int (nI z), .int (nI n), .int (nI 1), l6] [] h2 x → Gd mX9_next_ 99 [.ref 72, .int (nI d), .int (nI c), .int (nI z), .int (nI n), .int (nI 1), .int (nI 0)] [] h' x) ∧ FT h h2 ∧ RM s h2 (fun u k => L u k + (if stN s u (n / 1000) (n / 10 % 100) (n % 10) = k then 1 else 0)) := by
    refine loopG (P := fun t => ∀ h', FT h h' → (∀ u, u < nT s → ∀ k, k < 12 → h'.1 89 (12 * u + k) = nI (if u < t then (fun u k => L u k + (if stN s u (n / 1000) (n / 10 % 100) (n % 10) = k then 1 else 0)) u k else L u k)) → ∃ h2 l6, (∀ x, Gd mX9_next_ 144 [.ref 72, .int (nI d), .int (nI c), .int (nI z), .int (nI n), .int (nI 1), l6] [] h2 x → Gd mX9_next_ 99 [.ref 72, .int (nI d), .int (nI c), .int (nI z), .int (nI n), .int (nI 1), .int (nI t)] [] h' x) ∧ FT h h2 ∧ RM s h2 (fun u k => L u k + (if stN s u (n / 1000) (n / 10 % 100) (n % 10) = k then 1 else 0))) (n := nT s) ?_ ?_ 0 (by omega)
    · intro h' q1 q2
      refine ⟨h', .int (nI (nT s)), fun x gg => ?_, q1, fun t ht k hk => by rw [q2 t ht k hk, if_pos ht]⟩
      refine gd_ild6 dX9_next__99 ?_
      refine gd_ald0 dX9_next__101 (by decide) ?_
      refine gd_getR (r := 74) dX9_next__102 fl_9_13 rfl rfl rfl (by decide) ?_
      refine gd_ic0 dX9_next__105 ?_
      refine gd_iald (n := 5) dX9_next__106 rfl (by decide) (by repeat' (first | with_reducible rfl | apply ni_add | apply ni_mul)) (by omega) ?_
      refine gd_icmp_ge_t 144 dX9_next__107 (by decide) (by rw [PV.t w (q1.pv v)]; exact nI_le (by omega) (by omega)) ?_
      exact gg
    · intro t ht ih h' q1 q2
      have sl := stN_le s t (n / 1000) (n / 10 % 100) (n % 10)
      have v' := q1.pv v
      have q3 : ∀ u, u < nT s → ∀ k, k < 12 → (sI h' 89 (upd (h'.1 89) (12 * t + (stN s t (n / 1000) (n / 10 % 100) (n % 10))) (nI (L t (stN s t (n / 1000) (n / 10 % 100) (n % 10)) + 1)))).1 89 (12 * u + k) = nI (if u < t + 1 then (fun u k => L u k + (if stN s u (n / 1000) (n / 10 % 100) (n % 10) = k then 1 else 0)) u k else L u k) := by
        intro u hu k hk
        rw [sI_s, upd_at]
        by_cases e : u = t
        · subst e
          rw [if_pos (show u < u + 1 by omega)]
          by_cases y : (stN s u (n / 1000) (n / 10 % 100) (n % 10)) = k
          · rw [if_pos (by rw [y]), y]; dsimp only; rw [if_pos y]
          · rw [if_neg (by omega), q2 u hu k hk, if_neg (Nat.lt_irrefl _)]; dsimp only; rw [if_neg y]; rfl
        · rw [if_neg (by omega), q2 u hu k hk]
          by_cases y : u < t
          · rw [if_pos y, if_pos (by omega)]
          · rw [if_neg y, if_neg (by omega)]
      obtain ⟨h2, l6, gg, r⟩ := ih (sI h' 89 (upd (h'.1 89) (12 * t + (stN s t (n / 1000) (n / 10 % 100) (n % 10))) (nI (L t (stN s t (n / 1000) (n / 10 % 100) (n % 10)) + 1)))) q1.si q3
      refine ⟨h2, l6, fun x y => ?_, r⟩
      refine gd_ild6 dX9_next__99 ?_
      refine gd_ald0 dX9_next__101 (by decide) ?_
      refine gd_getR (r := 74) dX9_next__102 fl_9_13 rfl rfl rfl (by decide) ?_
      refine gd_ic0 dX9_next__105 ?_
      refine gd_iald (n := 5) dX9_next__106 rfl (by decide) (by repeat' (first | with_reducible rfl | apply ni_add | apply ni_mul)) (by omega) ?_
      refine gd_icmp_ge_f 144 dX9_next__107 (by decide) (by rw [PV.t w v']; exact nI_ge (by omega) (by omega)) ?_
      refine gd_ild5 dX9_next__110 ?_
      refine gd_if_eq_f 144 dX9_next__112 (by decide) (by decide) ?_
      refine gd_ald0 dX9_next__115 (by decide) ?_
      refine gd_getR (r := 89) dX9_next__116 fl_9_60 rfl rfl rfl (by decide) ?_
      refine gd_bipush (v := nI 12) dX9_next__119 (by decide) ?_
      refine gd_ild6 dX9_next__121 ?_
      refine gd_imul dX9_next__123 ?_
      refine gd_ald0 dX9_next__124 (by decide) ?_
      refine gd_ild4 dX9_next__125 ?_
      refine gd_ild6 dX9_next__127 ?_
      refine gd_cV2i dX9_next__129 ct_9_219 rc_72 ⟨Nat.le_of_ble_eq_true rfl, Nat.le_of_ble_eq_true rfl⟩ (Nat.le_of_ble_eq_true rfl) (Nat.le_of_ble_eq_true rfl) (m_stepOf w v' ht hn) ?_
      refine gd_iadd dX9_next__132 ?_
      refine gd_dup2 (by decide) dX9_next__133 ?_
      refine gd_iald (n := 192) dX9_next__134 rfl (by decide) (by repeat' (first | with_reducible rfl | apply ni_add | apply ni_mul)) (by omega) ?_
      rw [show h'.1 89 (12 * t + (stN s t (n / 1000) (n / 10 % 100) (n % 10))) = nI (L t (stN s t (n / 1000) (n / 10 % 100) (n % 10))) from (q2 t ht _ (by omega)).trans (by rw [if_neg (Nat.lt_irrefl _)])]
      refine gd_ic1 dX9_next__135 ?_
      refine gd_iadd dX9_next__136 ?_
      rw [nI_add]
      refine gd_iast (n := 192) dX9_next__137 rfl (by decide) (by repeat' (first | with_reducible rfl | apply ni_add | apply ni_mul)) (by omega) ?_
      refine gd_iinc6 (b := nI 1) dX9_next__138 (by decide) rfl ?_
      rw [nI_add]
      refine gd_goto 99 dX9_next__141 (by decide) ?_
      exact gg x y
  exact key h (FT.rf h) (fun u hu k hk => by rw [if_neg (by omega)]; exact hL u hu k hk)
theorem lp_tl1 {h : Hp} {s : Nat → Nat → Int32} (w : WF s) {g : Int32} (v : PV h s g) {c d b : Nat} (hc : c < 144) (hd : d < 4) (hb : b ≤ 192) (hbm : h.1 72 26 = nI b) (ih : ∀ h' l3 l4 l5 l6, FT h h' → RM s h' (fun t k => tlN s g d b t k (40 * (c + 1))) → ∃ h2 m3 m4 m5 m6, (∀ x, Gd mX9_next_ 156 [.ref 72, .int (nI d), .int (nI 144), m3, m4, m5, m6] [] h2 x → Gd mX9_next_ 47 [.ref 72, .int (nI d), .int (nI (c + 1)), l3, l4, l5, l6] [] h' x) ∧ FT h h2 ∧ RM s h2 (fun t k => tlN s g d b t k (5760))) : ∀ h' l4 l5 l6, FT h h' → RM s h' (fun t k => tlN s g d b t k (40 * c + 0)) → ∃ h2 m3 m4 m5 m6, (∀ x, Gd mX9_next_ 156 [.ref 72, .int (nI d), .int (nI 144), m3, m4, m5, m6] [] h2 x → Gd mX9_next_ 56 [.ref 72, .int (nI d), .int (nI c), .int (nI 0), l4, l5, l6] [] h' x) ∧ FT h h2 ∧ RM s h2 (fun t k => tlN s g d b t k (5760)) := by
  have lT := w.t.2
  refine loopG (P := fun z => ∀ h' l4 l5 l6, FT h h' → RM s h' (fun t k => tlN s g d b t k (40 * c + z)) → ∃ h2 m3 m4 m5 m6, (∀ x, Gd mX9_next_ 156 [.ref 72, .int (nI d), .int (nI 144), m3, m4, m5, m6] [] h2 x → Gd mX9_next_ 56 [.ref 72, .int (nI d), .int (nI c), .int (nI z), l4, l5, l6] [] h' x) ∧ FT h h2 ∧ RM s h2 (fun t k => tlN s g d b t k (5760))) (n := 40) ?_ ?_ 0 (by omega)
  · intro h' l4 l5 l6 q1 q2
    rw [show 40 * (c + 1) = 40 * c + 40 by omega] at ih
    obtain ⟨h2, m3, m4, m5, m6, gg, r⟩ := ih h' (.int (nI 40)) l4 l5 l6 q1 q2
    refine ⟨h2, m3, m4, m5, m6, fun x y => ?_, r⟩
    refine gd_ild3 dX9_next__56 ?_
    refine gd_bipush (v := nI 40) dX9_next__57 (by decide) ?_
    refine gd_icmp_ge_t 150 dX9_next__59 (by decide) (by exact nI_le (by omega) (by omega)) ?_
    refine gd_iinc2 (b := nI 1) dX9_next__150 (by decide) rfl ?_
    rw [nI_add]
    refine gd_goto 47 dX9_next__153 (by decide) ?_
    exact gg x y
  · intro z hz ih2 h' l4 l5 l6 q1 q2
    have v' := q1.pv v
    have em : mfN s g d (40 * c + z) = msN s g c z d := by unfold mfN; rw [(ix_cz hz).1, (ix_cz hz).2]
    have ec : (cdN d (40 * c + z)) = 1000 * c + 10 * z + d := by unfold cdN; rw [(ix_cz hz).1, (ix_cz hz).2]
    have cs := cd_sh (d := d) (i := 40 * c + z) hd (by omega)
    have gmo := m_missOf w v' cs.1
    rw [cs.2.1, cs.2.2.1, cs.2.2.2, (ix_cz hz).1, (ix_cz hz).2] at gmo
    have ml := ms_le w g c z d
    rw [show 40 * c + (z + 1) = 40 * c + z + 1 from rfl] at ih2
    by_cases e : msN s g c z d = b
    · obtain ⟨h3, l6', g3, f3, r3⟩ := m_tally (c := c) (z := z) (d := d) w v' cs.1 q2
      have r4 : RM s h3 (fun t k => tlN s g d b t k (40 * c + z + 1)) := rm_congr (fun t k => by
        rw [cs.2.1, cs.2.2.1, cs.2.2.2, tl_y (em.trans e)]) r3
      obtain ⟨h2, m3, m4, m5, m6, gg, r⟩ := ih2 h3 (.int (nI (cdN d (40 * c + z)))) (.int (nI 1)) l6' (q1.tr f3) r4
      refine ⟨h2, m3, m4, m5, m6, fun x y => ?_, r⟩
      refine gd_ild3 dX9_next__56 ?_
      refine gd_bipush (v := nI 40) dX9_next__57 (by decide) ?_
      refine gd_icmp_ge_f 150 dX9_next__59 (by decide) (by exact nI_ge (by omega) (by omega)) ?_
      refine gd_sipush (v := nI 1000) dX9_next__62 (by decide) ?_
      refine gd_ild2 dX9_next__65 ?_
      refine gd_imul dX9_next__66 ?_
      refine gd_bipush (v := nI 10) dX9_next__67 (by decide) ?_
      refine gd_ild3 dX9_next__69 ?_
      refine gd_imul dX9_next__70 ?_
      refine gd_iadd dX9_next__71 ?_
      refine gd_ild1 dX9_next__72 ?_
      refine gd_iadd dX9_next__73 ?_
      rw [pk_mul, pk_mul, nI_add, nI_add, ← ec]
      refine gd_ist4 dX9_next__74 rfl ?_
      refine gd_ald0 dX9_next__76 (by decide) ?_
      refine gd_ild4 dX9_next__77 ?_
      refine gd_cV1i dX9_next__79 ct_9_228 rc_72 ⟨Nat.le_of_ble_eq_true rfl, Nat.le_of_ble_eq_true rfl⟩ (Nat.le_of_ble_eq_true rfl) (Nat.le_of_ble_eq_true rfl) (gmo) ?_
      refine gd_ald0 dX9_next__82 (by decide) ?_
      refine gd_getI dX9_next__83 fl_9_256 rfl rfl ?_
      rw [show h'.1 72 26 = nI b from (congrFun (q1.1 72 (by decide)) 26).trans hbm]
      refine gd_icmp_ne_f 93 dX9_next__86 (by decide) (by exact (nI_eq (by omega) (by omega)).mpr (by omega)) ?_
      refine gd_ic1 dX9_next__89 ?_
      refine gd_goto 94 dX9_next__90 (by decide) ?_
      refine gd_ist5 dX9_next__94 rfl ?_
      refine gd_ic0 dX9_next__96 ?_
      refine gd_ist6 dX9_next__97 rfl ?_
      refine g3 x ?_
      refine gd_iinc3 (b := nI 1) dX9_next__144 (by decide) rfl ?_
      rw [nI_add]
      refine gd_goto 56 dX9_next__147 (by decide) ?_
      exact gg x y
    · have r4 : RM s h' (fun t k => tlN s g d b t k (40 * c + z + 1)) := rm_congr (fun t k => (tl_n (by rw [em]; exact e)).symm) q2
      obtain ⟨h2, m3, m4, m5, m6, gg, r⟩ := ih2 h' (.int (nI (cdN d (40 * c + z)))) (.int (nI 0)) (.int (nI 0)) q1 r4
      refine ⟨h2, m3, m4, m5, m6, fun x y => ?_, r⟩
      refine gd_ild3 dX9_next__56 ?_
      refine gd_bipush (v := nI 40) dX9_next__57 (by decide) ?_
      refine gd_icmp_ge_f 150 dX9_next__59 (by decide) (by exact nI_ge (by omega) (by omega)) ?_
      refine gd_sipush (v := nI 1000) dX9_next__62 (by decide) ?_
      refine gd_ild2 dX9_next__65 ?_
      refine gd_imul dX9_next__66 ?_
      refine gd_bipush (v := nI 10) dX9_next__67 (by decide) ?_
      refine gd_ild3 dX9_next__69 ?_
      refine gd_imul dX9_next__70 ?_
      refine gd_iadd dX9_next__71 ?_
      refine gd_ild1 dX9_next__72 ?_
      refine gd_iadd dX9_next__73 ?_
      rw [pk_mul, pk_mul, nI_add, nI_add, ← ec]
      refine gd_ist4 dX9_next__74 rfl ?_
      refine gd_ald0 dX9_next__76 (by decide) ?_
      refine gd_ild4 dX9_next__77 ?_
      refine gd_cV1i dX9_next__79 ct_9_228 rc_72 ⟨Nat.le_of_ble_eq_true rfl, Nat.le_of_ble_eq_true rfl⟩ (Nat.le_of_ble_eq_true rfl) (Nat.le_of_ble_eq_true rfl) (gmo) ?_
      refine gd_ald0 dX9_next__82 (by decide) ?_
      refine gd_getI dX9_next__83 fl_9_256 rfl rfl ?_
      rw [show h'.1 72 26 = nI b from (congrFun (q1.1 72 (by decide)) 26).trans hbm]
      refine gd_icmp_ne_t 93 dX9_next__86 (by decide) (by exact fun z => absurd ((nI_eq (by omega) (by omega)).mp z) (by omega)) ?_
      refine gd_ic0 dX9_next__93 ?_
      refine gd_ist5 dX9_next__94 rfl ?_
      refine gd_ic0 dX9_next__96 ?_
      refine gd_ist6 dX9_next__97 rfl ?_
      by_cases n0 : nT s = 0
      · refine gd_ild6 dX9_next__99 ?_
        refine gd_ald0 dX9_next__101 (by decide) ?_
        refine gd_getR (r := 74) dX9_next__102 fl_9_13 rfl rfl rfl (by decide) ?_
        refine gd_ic0 dX9_next__105 ?_
        refine gd_iald (n := 5) dX9_next__106 rfl (by decide) (by repeat' (first | with_reducible rfl | apply ni_add | apply ni_mul)) (by omega) ?_
        refine gd_icmp_ge_t 144 dX9_next__107 (by decide) (by rw [PV.t w v']; exact nI_le (by omega) (by omega)) ?_
        refine gd_iinc3 (b := nI 1) dX9_next__144 (by decide) rfl ?_
        rw [nI_add]
        refine gd_goto 56 dX9_next__147 (by decide) ?_
        exact gg x y
      · refine gd_ild6 dX9_next__99 ?_
        refine gd_ald0 dX9_next__101 (by decide) ?_
        refine gd_getR (r := 74) dX9_next__102 fl_9_13 rfl rfl rfl (by decide) ?_
        refine gd_ic0 dX9_next__105 ?_
        refine gd_iald (n := 5) dX9_next__106 rfl (by decide) (by repeat' (first | with_reducible rfl | apply ni_add | apply ni_mul)) (by omega) ?_
        refine gd_icmp_ge_f 144 dX9_next__107 (by decide) (by rw [PV.t w v']; exact nI_ge (by omega) (by omega)) ?_
        refine gd_ild5 dX9_next__110 ?_
        refine gd_if_eq_t 144 dX9_next__112 (by decide) (by decide) ?_
        refine gd_iinc3 (b := nI 1) dX9_next__144 (by decide) rfl ?_
        rw [nI_add]
        refine gd_goto 56 dX9_next__147 (by decide) ?_
        exact gg x y
theorem m_tlall {h : Hp} {s : Nat → Nat → Int32} (w : WF s) {g : Int32} (v : PV h s g) {d b : Nat} (hd : d < 4) (hb : b ≤ 192) (hbm : h.1 72 26 = nI b) (r0 : RM s h (fun _ _ => 0)) : ∃ h2 m3 m4 m5 m6, (∀ x, Gd mX9_next_ 156 [.ref 72, .int (nI d), .int (nI 144), m3, m4, m5, m6] [] h2 x → Gd mX9_next_ 47 [.ref 72, .int (nI d), .int (nI 0), .null, .null, .null, .null] [] h x) ∧ FT h h2 ∧ RM s h2 (fun t k => tlN s g d b t k (5760)) := by
  have key : ∀ h' l3 l4 l5 l6, FT h h' → RM s h' (fun t k => tlN s g d b t k (40 * 0)) → ∃ h2 m3 m4 m5 m6, (∀ x, Gd mX9_next_ 156 [.ref 72, .int (nI d), .int (nI 144), m3, m4, m5, m6] [] h2 x → Gd mX9_next_ 47 [.ref 72, .int (nI d), .int (nI 0), l3, l4, l5, l6] [] h' x) ∧ FT h h2 ∧ RM s h2 (fun t k => tlN s g d b t k (5760)) := by
    refine loopG (P := fun c => ∀ h' l3 l4 l5 l6, FT h h' → RM s h' (fun t k => tlN s g d b t k (40 * c)) → ∃ h2 m3 m4 m5 m6, (∀ x, Gd mX9_next_ 156 [.ref 72, .int (nI d), .int (nI 144), m3, m4, m5, m6] [] h2 x → Gd mX9_next_ 47 [.ref 72, .int (nI d), .int (nI c), l3, l4, l5, l6] [] h' x) ∧ FT h h2 ∧ RM s h2 (fun t k => tlN s g d b t k (5760))) (n := 144) ?_ ?_ 0 (by omega)
    · intro h' l3 l4 l5 l6 q1 q2
      refine ⟨h', l3, l4, l5, l6, fun x y => ?_, q1, q2⟩
      refine gd_ild2 dX9_next__47 ?_
      refine gd_sipush (v := nI 144) dX9_next__48 (by decide) ?_
      refine gd_icmp_ge_t 156 dX9_next__51 (by decide) (by exact nI_le (by omega) (by omega)) ?_
      exact y
    · intro c hc ih h' l3 l4 l5 l6 q1 q2
      obtain ⟨h2, m3, m4, m5, m6, gg, r⟩ := lp_tl1 w v hc hd hb hbm ih h' l4 l5 l6 q1 q2
      refine ⟨h2, m3, m4, m5, m6, fun x y => ?_, r⟩
      refine gd_ild2 dX9_next__47 ?_
      refine gd_sipush (v := nI 144) dX9_next__48 (by decide) ?_
      refine gd_icmp_ge_f 156 dX9_next__51 (by decide) (by exact nI_ge (by omega) (by omega)) ?_
      refine gd_ic0 dX9_next__54 ?_
      refine gd_ist3 dX9_next__55 rfl ?_
      exact gg x y
  exact key h .null .null .null .null (FT.rf h) r0
theorem m_most {h : Hp} {s : Nat → Nat → Int32} (w : WF s) {d t : Nat} (ht : t < nT s) {L : Nat → Nat → Nat} (hL : ∀ k, L t k ≤ 5760) (r : RM s h L) {x : Option Value × Hp} {l2 l3 : Int32} (g : Gd mX9_next_ 231 [.ref 72, .int (nI d), .int l2, .int l3, .int (nI t), .int (nI (mxN (L t) 12)), .int (nI 12)] [] h x) : Gd mX9_next_ 180 [.ref 72, .int (nI d), .int l2, .int l3, .int (nI t), .int (nI (mxN (L t) 0)), .int (nI 0)] [] h x := by
  have lT := w.t.2
  refine loopG (P := fun k => Gd mX9_next_ 180 [.ref 72, .int (nI d), .int l2, .int l3, .int (nI t), .int (nI (mxN (L t) k)), .int (nI k)] [] h x) (n := 12) ?_ ?_ 0 (by omega)
  · refine gd_ild6 dX9_next__180 ?_
    refine gd_bipush (v := nI 12) dX9_next__182 (by decide) ?_
    refine gd_icmp_ge_t 231 dX9_next__184 (by decide) (by exact nI_le (by omega) (by omega)) ?_
    exact g
  · intro k hk ih
    have l1 := mx_le hL k
    have l2 := hL k
    have em : mxN (L t) (k + 1) = max (mxN (L t) k) (L t k) := rfl
    by_cases y : mxN (L t) k < L t k
    · rw [em, Nat.max_eq_right (by omega)] at ih
      refine gd_ild6 dX9_next__180 ?_
      refine gd_bipush (v := nI 12) dX9_next__182 (by decide) ?_
      refine gd_icmp_ge_f 231 dX9_next__184 (by decide) (by exact nI_ge (by omega) (by omega)) ?_
      refine gd_ald0 dX9_next__187 (by decide) ?_
      refine gd_getR (r := 89) dX9_next__188 fl_9_60 rfl rfl rfl (by decide) ?_
      refine gd_bipush (v := nI 12) dX9_next__191 (by decide) ?_
      refine gd_ild4 dX9_next__193 ?_
      refine gd_imul dX9_next__195 ?_
      refine gd_ild6 dX9_next__196 ?_
      refine gd_iadd dX9_next__198 ?_
      refine gd_iald (n := 192) dX9_next__199 rfl (by decide) (by repeat' (first | with_reducible rfl | apply ni_add | apply ni_mul)) (by omega) ?_
      rw [r t ht k hk]
      refine gd_ild5 dX9_next__200 ?_
      refine gd_icmp_le_f 221 dX9_next__202 (by decide) (by exact nI_ge (by omega) (by omega)) ?_
      refine gd_ald0 dX9_next__205 (by decide) ?_
      refine gd_getR (r := 89) dX9_next__206 fl_9_60 rfl rfl rfl (by decide) ?_
      refine gd_bipush (v := nI 12) dX9_next__209 (by decide) ?_
      refine gd_ild4 dX9_next__211 ?_
      refine gd_imul dX9_next__213 ?_
      refine gd_ild6 dX9_next__214 ?_
      refine gd_iadd dX9_next__216 ?_
      refine gd_iald (n := 192) dX9_next__217 rfl (by decide) (by repeat' (first | with_reducible rfl | apply ni_add | apply ni_mul)) (by omega) ?_
      rw [r t ht k hk]
      refine gd_goto 223 dX9_next__218 (by decide) ?_
      refine gd_ist5 dX9_next__223 rfl ?_
      refine gd_iinc6 (b := nI 1) dX9_next__225 (by decide) rfl ?_
      rw [nI_add]
      refine gd_goto 180 dX9_next__228 (by decide) ?_
      exact ih
    · rw [em, Nat.max_eq_left (by omega)] at ih
      refine gd_ild6 dX9_next__180 ?_
      refine gd_bipush (v := nI 12) dX9_next__182 (by decide) ?_
      refine gd_icmp_ge_f 231 dX9_next__184 (by decide) (by exact nI_ge (by omega) (by omega)) ?_
      refine gd_ald0 dX9_next__187 (by decide) ?_
      refine gd_getR (r := 89) dX9_next__188 fl_9_60 rfl rfl rfl (by decide) ?_
      refine gd_bipush (v := nI 12) dX9_next__191 (by decide) ?_
      refine gd_ild4 dX9_next__193 ?_
      refine gd_imul dX9_next__195 ?_
      refine gd_ild6 dX9_next__196 ?_
      refine gd_iadd dX9_next__198 ?_
      refine gd_iald (n := 192) dX9_next__199 rfl (by decide) (by repeat' (first | with_reducible rfl | apply ni_add | apply ni_mul)) (by omega) ?_
      rw [r t ht k hk]
      refine gd_ild5 dX9_next__200 ?_
      refine gd_icmp_le_t 221 dX9_next__202 (by decide) (by exact nI_le (by omega) (by omega)) ?_
      refine gd_ild5 dX9_next__221 ?_
      refine gd_ist5 dX9_next__223 rfl ?_
      refine gd_iinc6 (b := nI 1) dX9_next__225 (by decide) rfl ?_
      rw [nI_add]
      refine gd_goto 180 dX9_next__228 (by decide) ?_
      exact ih
theorem m_choose {h : Hp} {s : Nat → Nat → Int32} (w : WF s) {g : Int32} (v : PV h s g) {d b : Nat} (r : RM s h (fun t k => tlN s g d b t k (5760))) {x : Option Value × Hp} (k : ∀ l4 l5 l6, Gd mX9_next_ 267 [.ref 72, .int (nI d), .int (akI (nxN (wdB s g) (fun t => mxN (fun k => tlN s g d b t k 5760) 12) (nT s))), .int (fwI (nI 0) (nxN (wdB s g) (fun t => mxN (fun k => tlN s g d b t k 5760) 12) (nT s))), l4, l5, l6] [] h x) : ∀ l5 l6, Gd mX9_next_ 163 [.ref 72, .int (nI d), .int (akI (nxN (wdB s g) (fun t => mxN (fun k => tlN s g d b t k 5760) 12) 0)), .int (fwI (nI 0) (nxN (wdB s g) (fun t => mxN (fun k => tlN s g d b t k 5760) 12) 0)), .int (nI 0), l5, l6] [] h x := by
  have lT := w.t.2
  have tl : ∀ t k, tlN s g d b t k 5760 ≤ 5760 := fun t k => tl_le s g d _ t k 5760
  have ml : ∀ t, (fun t => mxN (fun k => tlN s g d b t k 5760) 12) t ≤ 5760 := fun t => mx_le (tl t) 12
  refine loopG (P := fun t => ∀ l5 l6, Gd mX9_next_ 163 [.ref 72, .int (nI d), .int (akI (nxN (wdB s g) (fun t => mxN (fun k => tlN s g d b t k 5760) 12) t)), .int (fwI (nI 0) (nxN (wdB s g) (fun t => mxN (fun k => tlN s g d b t k 5760) 12) t)), .int (nI t), l5, l6] [] h x) (n := nT s) ?_ ?_ 0 (by omega)
  · intro l5 l6
    refine gd_ild4 dX9_next__163 ?_
    refine gd_ald0 dX9_next__165 (by decide) ?_
    refine gd_getR (r := 74) dX9_next__166 fl_9_13 rfl rfl rfl (by decide) ?_
    refine gd_ic0 dX9_next__169 ?_
    refine gd_iald (n := 5) dX9_next__170 rfl (by decide) (by repeat' (first | with_reducible rfl | apply ni_add | apply ni_mul)) (by omega) ?_
    refine gd_icmp_ge_t 267 dX9_next__171 (by decide) (by rw [PV.t w v]; exact nI_le (by omega) (by omega)) ?_
    exact k _ _ _
  · intro t ht ih l5 l6
    have nl := nx_le (wd := wdB s g) ml t
    have mt : mxN (fun k => tlN s g d b t k 5760) 12 ≤ 5760 := ml t
    have cl := cntN_le (spN s g t).testBit 30
    refine gd_ild4 dX9_next__163 ?_
    refine gd_ald0 dX9_next__165 (by decide) ?_
    refine gd_getR (r := 74) dX9_next__166 fl_9_13 rfl rfl rfl (by decide) ?_
    refine gd_ic0 dX9_next__169 ?_
    refine gd_iald (n := 5) dX9_next__170 rfl (by decide) (by repeat' (first | with_reducible rfl | apply ni_add | apply ni_mul)) (by omega) ?_
    refine gd_icmp_ge_f 267 dX9_next__171 (by decide) (by rw [PV.t w v]; exact nI_ge (by omega) (by omega)) ?_
    refine gd_ic0 dX9_next__174 ?_
    refine gd_ist5 dX9_next__175 rfl ?_
    refine gd_ic0 dX9_next__177 ?_
    refine gd_ist6 dX9_next__178 rfl ?_
    refine m_most (L := (fun t k => tlN s g d b t k (5760))) w ht (tl t) r ?_
    by_cases hw : 1 < cntN (spN s g t).testBit 30
    · have hwt : wdB s g t = true := decide_eq_true hw
      by_cases y : ((nxN (wdB s g) (fun t => mxN (fun k => tlN s g d b t k 5760) 12) t)).1 = 0 ∨ mxN (fun k => tlN s g d b t k 5760) 12 < ((nxN (wdB s g) (fun t => mxN (fun k => tlN s g d b t k 5760) 12) t)).2
      · rw [show (nxN (wdB s g) (fun t => mxN (fun k => tlN s g d b t k 5760) 12) (t + 1)) = (t + 1, mxN (fun k => tlN s g d b t k 5760) 12) from if_pos ⟨hwt, y⟩] at ih
        by_cases e : ((nxN (wdB s g) (fun t => mxN (fun k => tlN s g d b t k 5760) 12) t)).1 = 0
        · refine gd_ald0 dX9_next__231 (by decide) ?_
          refine gd_getR (r := 86) dX9_next__232 fl_9_50 rfl rfl rfl (by decide) ?_
          refine gd_ild4 dX9_next__235 ?_
          refine gd_iald (n := 16) dX9_next__237 rfl (by decide) (by repeat' (first | with_reducible rfl | apply ni_add | apply ni_mul)) (by omega) ?_
          rw [v.2.2.2.1 t ht]
          refine gd_cS1i dX9_next__238 ct_9_269 ⟨Nat.le_of_ble_eq_true rfl, Nat.le_of_ble_eq_true rfl⟩ (Nat.le_of_ble_eq_true rfl) (Nat.le_of_ble_eq_true rfl) (m_bits (spN_lt s g t) _) ?_
          refine gd_ic1 dX9_next__241 ?_
          refine gd_icmp_le_f 261 dX9_next__242 (by decide) (by exact nI_ge (by omega) (by omega)) ?_
          refine gd_ild2 dX9_next__245 ?_
          refine gd_if_lt_t 255 dX9_next__246 (by decide) (by unfold akI; rw [if_pos e]; decide) ?_
          refine gd_ild4 dX9_next__255 ?_
          refine gd_ist2 dX9_next__257 rfl ?_
          refine gd_ild5 dX9_next__258 ?_
          refine gd_ist3 dX9_next__260 rfl ?_
          refine gd_iinc4 (b := nI 1) dX9_next__261 (by decide) rfl ?_
          rw [nI_add]
          refine gd_goto 163 dX9_next__264 (by decide) ?_
          exact ih _ _
        · refine gd_ald0 dX9_next__231 (by decide) ?_
          refine gd_getR (r := 86) dX9_next__232 fl_9_50 rfl rfl rfl (by decide) ?_
          refine gd_ild4 dX9_next__235 ?_
          refine gd_iald (n := 16) dX9_next__237 rfl (by decide) (by repeat' (first | with_reducible rfl | apply ni_add | apply ni_mul)) (by omega) ?_
          rw [v.2.2.2.1 t ht]
          refine gd_cS1i dX9_next__238 ct_9_269 ⟨Nat.le_of_ble_eq_true rfl, Nat.le_of_ble_eq_true rfl⟩ (Nat.le_of_ble_eq_true rfl) (Nat.le_of_ble_eq_true rfl) (m_bits (spN_lt s g t) _) ?_
          refine gd_ic1 dX9_next__241 ?_
          refine gd_icmp_le_f 261 dX9_next__242 (by decide) (by exact nI_ge (by omega) (by omega)) ?_
          refine gd_ild2 dX9_next__245 ?_
          refine gd_if_lt_f 255 dX9_next__246 (by decide) (by unfold akI; rw [if_neg e]; exact nI_pos (by omega)) ?_
          refine gd_ild5 dX9_next__249 ?_
          refine gd_ild3 dX9_next__251 ?_
          refine gd_icmp_ge_f 261 dX9_next__252 (by decide) (by unfold fwI; rw [if_neg e]; exact nI_ge (by omega) (by omega)) ?_
          refine gd_ild4 dX9_next__255 ?_
          refine gd_ist2 dX9_next__257 rfl ?_
          refine gd_ild5 dX9_next__258 ?_
          refine gd_ist3 dX9_next__260 rfl ?_
          refine gd_iinc4 (b := nI 1) dX9_next__261 (by decide) rfl ?_
          rw [nI_add]
          refine gd_goto 163 dX9_next__264 (by decide) ?_
          exact ih _ _
      · rw [show (nxN (wdB s g) (fun t => mxN (fun k => tlN s g d b t k 5760) 12) (t + 1)) = (nxN (wdB s g) (fun t => mxN (fun k => tlN s g d b t k 5760) 12) t) from if_neg (fun z => y z.2)] at ih
        refine gd_ald0 dX9_next__231 (by decide) ?_
        refine gd_getR (r := 86) dX9_next__232 fl_9_50 rfl rfl rfl (by decide) ?_
        refine gd_ild4 dX9_next__235 ?_
        refine gd_iald (n := 16) dX9_next__237 rfl (by decide) (by repeat' (first | with_reducible rfl | apply ni_add | apply ni_mul)) (by omega) ?_
        rw [v.2.2.2.1 t ht]
        refine gd_cS1i dX9_next__238 ct_9_269 ⟨Nat.le_of_ble_eq_true rfl, Nat.le_of_ble_eq_true rfl⟩ (Nat.le_of_ble_eq_true rfl) (Nat.le_of_ble_eq_true rfl) (m_bits (spN_lt s g t) _) ?_
        refine gd_ic1 dX9_next__241 ?_
        refine gd_icmp_le_f 261 dX9_next__242 (by decide) (by exact nI_ge (by omega) (by omega)) ?_
        refine gd_ild2 dX9_next__245 ?_
        refine gd_if_lt_f 255 dX9_next__246 (by decide) (by unfold akI; rw [if_neg (by omega)]; exact nI_pos (by omega)) ?_
        refine gd_ild5 dX9_next__249 ?_
        refine gd_ild3 dX9_next__251 ?_
        refine gd_icmp_ge_t 261 dX9_next__252 (by decide) (by unfold fwI; rw [if_neg (by omega)]; exact nI_le (by omega) (by omega)) ?_
        refine gd_iinc4 (b := nI 1) dX9_next__261 (by decide) rfl ?_
        rw [nI_add]
        refine gd_goto 163 dX9_next__264 (by decide) ?_
        exact ih _ _
    · rw [show (nxN (wdB s g) (fun t => mxN (fun k => tlN s g d b t k 5760) 12) (t + 1)) = (nxN (wdB s g) (fun t => mxN (fun k => tlN s g d b t k 5760) 12) t) from if_neg (fun z => absurd z.1 (by unfold wdB; rw [decide_eq_false hw]; decide))] at ih
      refine gd_ald0 dX9_next__231 (by decide) ?_
      refine gd_getR (r := 86) dX9_next__232 fl_9_50 rfl rfl rfl (by decide) ?_
      refine gd_ild4 dX9_next__235 ?_
      refine gd_iald (n := 16) dX9_next__237 rfl (by decide) (by repeat' (first | with_reducible rfl | apply ni_add | apply ni_mul)) (by omega) ?_
      rw [v.2.2.2.1 t ht]
      refine gd_cS1i dX9_next__238 ct_9_269 ⟨Nat.le_of_ble_eq_true rfl, Nat.le_of_ble_eq_true rfl⟩ (Nat.le_of_ble_eq_true rfl) (Nat.le_of_ble_eq_true rfl) (m_bits (spN_lt s g t) _) ?_
      refine gd_ic1 dX9_next__241 ?_
      refine gd_icmp_le_t 261 dX9_next__242 (by decide) (by exact nI_le (by omega) (by omega)) ?_
      refine gd_iinc4 (b := nI 1) dX9_next__261 (by decide) rfl ?_
      rw [nI_add]
      refine gd_goto 163 dX9_next__264 (by decide) ?_
      exact ih _ _
theorem m_tl0 {h : Hp} {d : Nat} {x : Option Value × Hp} (k : Gd mX9_next_ 47 [.ref 72, .int (nI d), .int (nI 0), .null, .null, .null, .null] [] (sI h 89 (filI (h.1 89) 192 (nI 0))) x) : Gd mX9_next_ 25 [.ref 72, .int (nI d), .int (nI 0), .null, .null, .null, .null] [] h x := by
  have key := loopG (P := fun j => Gd mX9_next_ 25 [.ref 72, .int (nI d), .int (nI j), .null, .null, .null, .null] [] (sI h 89 (filI (h.1 89) j (nI 0))) x) (n := 192) ?_ ?_ 0 (by omega)
  · rw [filI_0, sI_id] at key
    exact key
  · refine gd_ild2 dX9_next__25 ?_
    refine gd_sipush (v := nI 192) dX9_next__26 (by decide) ?_
    refine gd_icmp_ge_t 45 dX9_next__29 (by decide) (by exact nI_le (by omega) (by omega)) ?_
    refine gd_ic0 dX9_next__45 ?_
    refine gd_ist2 dX9_next__46 rfl ?_
    exact k
  · intro j hj ih
    refine gd_ild2 dX9_next__25 ?_
    refine gd_sipush (v := nI 192) dX9_next__26 (by decide) ?_
    refine gd_icmp_ge_f 45 dX9_next__29 (by decide) (by exact nI_ge (by omega) (by omega)) ?_
    refine gd_ald0 dX9_next__32 (by decide) ?_
    refine gd_getR (r := 89) dX9_next__33 fl_9_60 rfl rfl rfl (by decide) ?_
    refine gd_ild2 dX9_next__36 ?_
    refine gd_ic0 dX9_next__37 ?_
    refine gd_iast (n := 192) dX9_next__38 rfl (by decide) (by repeat' (first | with_reducible rfl | apply ni_add | apply ni_mul)) (by omega) ?_
    refine gd_iinc2 (b := nI 1) dX9_next__39 (by decide) rfl ?_
    rw [nI_add]
    refine gd_goto 25 dX9_next__42 (by decide) ?_
    rw [sI_s, filI_s, sI_sI]
    exact ih
set_option maxHeartbeats 2000000 in
theorem p_next {h : Hp} (i : Inv h) (a : Int32) : Pas mX8_next mX9_next_ [.ref 0, .int a, .null] [.ref 72, .int a, .null, .null, .null, .null, .null] h := by
  rcases rng a (4) (by decide) with ⟨d, hd, rfl⟩ | ha
  · have lT := i.lT
    obtain ⟨h1, gt, f1, v1⟩ := c_take i.w i.c (-1)
    obtain ⟨h3, g3, f3⟩ := c_townToAsk i.w v1 hd
    have f13 := f1.tr f3
    by_cases z0 : ((nxN (wdB (ms h) (-1)) (fun t => mxN (fun k => tlN (ms h) (-1) d ((mfN (ms h) (-1) d) (amN (mfN (ms h) (-1) d) 5760)) t k 5760) 12) (nT (ms h)))).1 = 0
    · have ea : akI (nxN (wdB (ms h) (-1)) (fun t => mxN (fun k => tlN (ms h) (-1) d ((mfN (ms h) (-1) d) (amN (mfN (ms h) (-1) d) 5760)) t k 5760) 12) (nT (ms h))) = -1 := if_pos z0
      have e1 : ms (hf h3 3) = ms h := by rw [ms_hf]; exact f13.same.msE
      obtain ⟨h2, gp, f2, v2⟩ := m_prepare (h := hf h3 3) (by rw [e1]; exact i.w) (-1)
      rw [e1] at v2
      obtain ⟨h4, gs, sw⟩ := m_sweep i.w v2 hd
      have ebm : h4.1 72 26 = nI ((mfN (ms h) (-1) d) (amN (mfN (ms h) (-1) d) 5760)) := sw.2.2.2.2.2
      have ft : FT h4 (sI h4 89 (filI (h4.1 89) 192 (nI 0))) := (FT.rf h4).si
      obtain ⟨h5, m3, m4, m5, m6, g5, f5, r5⟩ := m_tlall (h := sI h4 89 (filI (h4.1 89) 192 (nI 0))) (d := d) (b := ((mfN (ms h) (-1) d) (amN (mfN (ms h) (-1) d) 5760))) i.w (ft.pv sw.2.1) hd (ms_le i.w _ _ _ _) ebm (fun t ht k hk => by rw [sI_s]; exact if_pos (show 12 * t + k < 192 by have := i.lT; omega))
      have v5 := (ft.tr f5).pv sw.2.1
      refine Pas.find (h1 := h3) (h2 := h5) (v := -1000000004) (w := (-1000000000 : Int32) - nI 4) 3 i (by decide) (by decide) (by decide) f13.same (((f2.tr sw.1).tr ft.fm).tr f5.fm).same ?_ ?_
      · refine gd_ild1 dX8_next_0 ?_
        refine gd_ic4 dX8_next_1 ?_
        refine gd_cS2i dX8_next_2 ct_8_48 ⟨Nat.le_of_ble_eq_true rfl, Nat.le_of_ble_eq_true rfl⟩ (Nat.le_of_ble_eq_true rfl) (Nat.le_of_ble_eq_true rfl) (c_isBelow_t hd (by decide) _) ?_
        refine gd_if_ne_t 15 dX8_next_5 (by decide) (by decide) ?_
        refine gd_ald0 dX8_next_15 (by decide) ?_
        refine gd_getR (r := 60) dX8_next_16 fl_8_40 rfl rfl rfl (by decide) ?_
        refine gd_ald0 dX8_next_19 (by decide) ?_
        refine gd_getR (r := 1) dX8_next_20 fl_8_12 rfl rfl rfl (by decide) ?_
        refine gd_icm1 dX8_next_23 ?_
        refine gd_cV2v dX8_next_24 ct_8_211 rc_60 ⟨Nat.le_of_ble_eq_true rfl, Nat.le_of_ble_eq_true rfl⟩ (Nat.le_of_ble_eq_true rfl) (Nat.le_of_ble_eq_true rfl) (gt) ?_
        refine gd_ald0 dX8_next_27 (by decide) ?_
        refine gd_getR (r := 60) dX8_next_28 fl_8_40 rfl rfl rfl (by decide) ?_
        refine gd_ild1 dX8_next_31 ?_
        refine gd_cV1i dX8_next_32 ct_8_277 rc_60 ⟨Nat.le_of_ble_eq_true rfl, Nat.le_of_ble_eq_true rfl⟩ (Nat.le_of_ble_eq_true rfl) (Nat.le_of_ble_eq_true rfl) (g3) ?_
        refine gd_ist2 dX8_next_35 rfl ?_
        refine gd_ild2 dX8_next_36 ?_
        refine gd_if_ge_f 49 dX8_next_37 (by decide) (by rw [ea]; decide) ?_
        refine gd_ald0 dX8_next_40 (by decide) ?_
        refine gd_ldc dX8_next_41 ld_8_174 ?_
        refine gd_cV1i dX8_next_43 ct_8_53 rc_0 ⟨Nat.le_of_ble_eq_true rfl, Nat.le_of_ble_eq_true rfl⟩ (Nat.le_of_ble_eq_true rfl) (Nat.le_of_ble_eq_true rfl) (c_f3 _) ?_
        refine gd_goto 50 dX8_next_46 (by decide) ?_
        refine gd_iret dX8_next_50 rfl rfl ?_
        rfl
      · refine gd_ild1 dX9_next__0 ?_
        refine gd_cS1i dX9_next__1 ct_9_259 ⟨Nat.le_of_ble_eq_true rfl, Nat.le_of_ble_eq_true rfl⟩ (Nat.le_of_ble_eq_true rfl) (Nat.le_of_ble_eq_true rfl) (m_isDepth_t hd _) ?_
        refine gd_if_ne_t 13 dX9_next__4 (by decide) (by decide) ?_
        refine gd_ald0 dX9_next__13 (by decide) ?_
        refine gd_icm1 dX9_next__14 ?_
        refine gd_cV1v dX9_next__15 ct_9_216 rc_72 ⟨Nat.le_of_ble_eq_true rfl, Nat.le_of_ble_eq_true rfl⟩ (Nat.le_of_ble_eq_true rfl) (Nat.le_of_ble_eq_true rfl) (gp) ?_
        refine gd_ald0 dX9_next__18 (by decide) ?_
        refine gd_ild1 dX9_next__19 ?_
        refine gd_cV1v dX9_next__20 ct_9_262 rc_72 ⟨Nat.le_of_ble_eq_true rfl, Nat.le_of_ble_eq_true rfl⟩ (Nat.le_of_ble_eq_true rfl) (Nat.le_of_ble_eq_true rfl) (gs) ?_
        refine gd_ic0 dX9_next__23 ?_
        refine gd_ist2 dX9_next__24 rfl ?_
        refine m_tl0 (g5 _ ?_)
        refine gd_icm1 dX9_next__156 ?_
        refine gd_ist2 dX9_next__157 rfl ?_
        refine gd_ic0 dX9_next__158 ?_
        refine gd_ist3 dX9_next__159 rfl ?_
        refine gd_ic0 dX9_next__160 ?_
        refine gd_ist4 dX9_next__161 rfl ?_
        refine m_choose i.w v5 r5 (fun l4 l5 l6 => ?_) _ _
        refine gd_ild2 dX9_next__267 ?_
        refine gd_if_ge_f 279 dX9_next__268 (by decide) (by rw [ea]; decide) ?_
        refine gd_ald0 dX9_next__271 (by decide) ?_
        refine gd_ic4 dX9_next__272 ?_
        refine gd_cV1i dX9_next__273 ct_9_97 rc_72 ⟨Nat.le_of_ble_eq_true rfl, Nat.le_of_ble_eq_true rfl⟩ (Nat.le_of_ble_eq_true rfl) (Nat.le_of_ble_eq_true rfl) (m_f3 _) ?_
        refine gd_goto 280 dX9_next__276 (by decide) ?_
        refine gd_iret dX9_next__280 rfl rfl ?_
        rfl
    · have ea : akI (nxN (wdB (ms h) (-1)) (fun t => mxN (fun k => tlN (ms h) (-1) d ((mfN (ms h) (-1) d) (amN (mfN (ms h) (-1) d) 5760)) t k 5760) 12) (nT (ms h))) = nI (((nxN (wdB (ms h) (-1)) (fun t => mxN (fun k => tlN (ms h) (-1) d ((mfN (ms h) (-1) d) (amN (mfN (ms h) (-1) d) 5760)) t k 5760) 12) (nT (ms h)))).1 - 1) := if_neg z0
      have nl := (nx_le (wd := wdB (ms h) (-1)) (m := fun t => mxN (fun k => tlN (ms h) (-1) d ((mfN (ms h) (-1) d) (amN (mfN (ms h) (-1) d) 5760)) t k 5760) 12) (fun t => mx_le (fun k => tl_le (ms h) (-1) d _ t k 5760) 12) (nT (ms h))).1
      have e1 : ms h3 = ms h := f13.same.msE
      obtain ⟨h2, gp, f2, v2⟩ := m_prepare (h := h3) (by rw [e1]; exact i.w) (-1)
      rw [e1] at v2
      obtain ⟨h4, gs, sw⟩ := m_sweep i.w v2 hd
      have ebm : h4.1 72 26 = nI ((mfN (ms h) (-1) d) (amN (mfN (ms h) (-1) d) 5760)) := sw.2.2.2.2.2
      have ft : FT h4 (sI h4 89 (filI (h4.1 89) 192 (nI 0))) := (FT.rf h4).si
      obtain ⟨h5, m3, m4, m5, m6, g5, f5, r5⟩ := m_tlall (h := sI h4 89 (filI (h4.1 89) 192 (nI 0))) (d := d) (b := ((mfN (ms h) (-1) d) (amN (mfN (ms h) (-1) d) 5760))) i.w (ft.pv sw.2.1) hd (ms_le i.w _ _ _ _) ebm (fun t ht k hk => by rw [sI_s]; exact if_pos (show 12 * t + k < 192 by have := i.lT; omega))
      have v5 := (ft.tr f5).pv sw.2.1
      refine Pas.read (h1 := h3) (h2 := h5) (r := .int (akI (nxN (wdB (ms h) (-1)) (fun t => mxN (fun k => tlN (ms h) (-1) d ((mfN (ms h) (-1) d) (amN (mfN (ms h) (-1) d) 5760)) t k 5760) 12) (nT (ms h))))) i rfl (f13).same (((f2.tr sw.1).tr ft.fm).tr f5.fm).same ?_ ?_
      · refine gd_ild1 dX8_next_0 ?_
        refine gd_ic4 dX8_next_1 ?_
        refine gd_cS2i dX8_next_2 ct_8_48 ⟨Nat.le_of_ble_eq_true rfl, Nat.le_of_ble_eq_true rfl⟩ (Nat.le_of_ble_eq_true rfl) (Nat.le_of_ble_eq_true rfl) (c_isBelow_t hd (by decide) _) ?_
        refine gd_if_ne_t 15 dX8_next_5 (by decide) (by decide) ?_
        refine gd_ald0 dX8_next_15 (by decide) ?_
        refine gd_getR (r := 60) dX8_next_16 fl_8_40 rfl rfl rfl (by decide) ?_
        refine gd_ald0 dX8_next_19 (by decide) ?_
        refine gd_getR (r := 1) dX8_next_20 fl_8_12 rfl rfl rfl (by decide) ?_
        refine gd_icm1 dX8_next_23 ?_
        refine gd_cV2v dX8_next_24 ct_8_211 rc_60 ⟨Nat.le_of_ble_eq_true rfl, Nat.le_of_ble_eq_true rfl⟩ (Nat.le_of_ble_eq_true rfl) (Nat.le_of_ble_eq_true rfl) (gt) ?_
        refine gd_ald0 dX8_next_27 (by decide) ?_
        refine gd_getR (r := 60) dX8_next_28 fl_8_40 rfl rfl rfl (by decide) ?_
        refine gd_ild1 dX8_next_31 ?_
        refine gd_cV1i dX8_next_32 ct_8_277 rc_60 ⟨Nat.le_of_ble_eq_true rfl, Nat.le_of_ble_eq_true rfl⟩ (Nat.le_of_ble_eq_true rfl) (Nat.le_of_ble_eq_true rfl) (g3) ?_
        refine gd_ist2 dX8_next_35 rfl ?_
        refine gd_ild2 dX8_next_36 ?_
        refine gd_if_ge_t 49 dX8_next_37 (by decide) (by rw [ea]; exact nI_pos' (by omega)) ?_
        refine gd_ild2 dX8_next_49 ?_
        refine gd_iret dX8_next_50 rfl rfl ?_
        rfl
      · refine gd_ild1 dX9_next__0 ?_
        refine gd_cS1i dX9_next__1 ct_9_259 ⟨Nat.le_of_ble_eq_true rfl, Nat.le_of_ble_eq_true rfl⟩ (Nat.le_of_ble_eq_true rfl) (Nat.le_of_ble_eq_true rfl) (m_isDepth_t hd _) ?_
        refine gd_if_ne_t 13 dX9_next__4 (by decide) (by decide) ?_
        refine gd_ald0 dX9_next__13 (by decide) ?_
        refine gd_icm1 dX9_next__14 ?_
        refine gd_cV1v dX9_next__15 ct_9_216 rc_72 ⟨Nat.le_of_ble_eq_true rfl, Nat.le_of_ble_eq_true rfl⟩ (Nat.le_of_ble_eq_true rfl) (Nat.le_of_ble_eq_true rfl) (gp) ?_
        refine gd_ald0 dX9_next__18 (by decide) ?_
        refine gd_ild1 dX9_next__19 ?_
        refine gd_cV1v dX9_next__20 ct_9_262 rc_72 ⟨Nat.le_of_ble_eq_true rfl, Nat.le_of_ble_eq_true rfl⟩ (Nat.le_of_ble_eq_true rfl) (Nat.le_of_ble_eq_true rfl) (gs) ?_
        refine gd_ic0 dX9_next__23 ?_
        refine gd_ist2 dX9_next__24 rfl ?_
        refine m_tl0 (g5 _ ?_)
        refine gd_icm1 dX9_next__156 ?_
        refine gd_ist2 dX9_next__157 rfl ?_
        refine gd_ic0 dX9_next__158 ?_
        refine gd_ist3 dX9_next__159 rfl ?_
        refine gd_ic0 dX9_next__160 ?_
        refine gd_ist4 dX9_next__161 rfl ?_
        refine m_choose i.w v5 r5 (fun l4 l5 l6 => ?_) _ _
        refine gd_ild2 dX9_next__267 ?_
        refine gd_if_ge_t 279 dX9_next__268 (by decide) (by rw [ea]; exact nI_pos' (by omega)) ?_
        refine gd_ild2 dX9_next__279 ?_
        refine gd_iret dX9_next__280 rfl rfl ?_
        rfl
  · refine Pas.find (h1 := h) (h2 := hf (h) 0) (v := -1000000001) (w := (-1000000000 : Int32) - nI 1) 0 i (by decide) (by decide) (by decide) (Same.rf _) (Same.rf _) ?_ ?_
    · refine gd_ild1 dX8_next_0 ?_
      refine gd_ic4 dX8_next_1 ?_
      refine gd_cS2i dX8_next_2 ct_8_48 ⟨Nat.le_of_ble_eq_true rfl, Nat.le_of_ble_eq_true rfl⟩ (Nat.le_of_ble_eq_true rfl) (Nat.le_of_ble_eq_true rfl) (c_isBelow_f ha _) ?_
      refine gd_if_ne_f 15 dX8_next_5 (by decide) (by decide) ?_
      refine gd_ald0 dX8_next_8 (by decide) ?_
      refine gd_ldc dX8_next_9 ld_8_52 ?_
      refine gd_cV1i dX8_next_11 ct_8_53 rc_0 ⟨Nat.le_of_ble_eq_true rfl, Nat.le_of_ble_eq_true rfl⟩ (Nat.le_of_ble_eq_true rfl) (Nat.le_of_ble_eq_true rfl) (c_f0 _) ?_
      refine gd_iret dX8_next_14 rfl rfl ?_
      rfl
    · refine gd_ild1 dX9_next__0 ?_
      refine gd_cS1i dX9_next__1 ct_9_259 ⟨Nat.le_of_ble_eq_true rfl, Nat.le_of_ble_eq_true rfl⟩ (Nat.le_of_ble_eq_true rfl) (Nat.le_of_ble_eq_true rfl) (m_isDepth_f ha _) ?_
      refine gd_if_ne_f 13 dX9_next__4 (by decide) (by decide) ?_
      refine gd_ald0 dX9_next__7 (by decide) ?_
      refine gd_ic1 dX9_next__8 ?_
      refine gd_cV1i dX9_next__9 ct_9_97 rc_72 ⟨Nat.le_of_ble_eq_true rfl, Nat.le_of_ble_eq_true rfl⟩ (Nat.le_of_ble_eq_true rfl) (Nat.le_of_ble_eq_true rfl) (m_f0 _) ?_
      refine gd_iret dX9_next__12 rfl rfl ?_
      rfl
