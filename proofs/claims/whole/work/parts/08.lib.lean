
/-! ===== small things ===== -/
def bi (b : Bool) : Int32 := if b then nI 1 else nI 0
theorem nar_bi (b : Bool) : narrow .boolean (.int (bi b)) = .int (bi b) := by cases b <;> rfl
theorem bi_z (b : Bool) : bi b = 0 ∨ bi b = 1 := by cases b <;> decide
theorem bi_e0 {b : Bool} : bi b = 0 ↔ b = false := by cases b <;> decide
theorem bi_n0 {b : Bool} : ¬ bi b = 0 ↔ b = true := by cases b <;> decide
theorem ni_add {a b : Int32} {i j : Nat} (h1 : a = nI i) (h2 : b = nI j) : a + b = nI (i + j) := by rw [h1, h2, nI_add]
theorem ni_mul {a b : Int32} {i j : Nat} (h1 : a = nI i) (h2 : b = nI j) : a * b = nI (i * j) := by rw [h1, h2, pk_mul]
theorem rng (a : Int32) (n : Nat) (hn : n < 2 ^ 31) : (∃ t, t < n ∧ a = nI t) ∨ ¬ (0 ≤ a ∧ a < nI n) := by
  rcases pk_ix a hn with h | h | h
  · exact Or.inr (fun z => absurd z.1 (Int32.not_le.mpr h))
  · exact Or.inr (fun z => absurd z.2 (Int32.not_lt.mpr h))
  · exact Or.inl h
theorem rng_in {t n : Nat} (h : t < n) (hn : n < 2 ^ 31) : 0 ≤ nI t ∧ nI t < nI n := ⟨nI_pos' (by omega), nI_lt h hn⟩
theorem loopG {P : Nat → Prop} {n : Nat} (hx : P n) (hs : ∀ i, i < n → P (i + 1) → P i) (i : Nat) (hi : i ≤ n) : P i := by
  obtain ⟨k, hk⟩ : ∃ k, i + k = n := ⟨n - i, by omega⟩
  induction k generalizing i with
  | zero => have : i = n := by omega
            rw [this]; exact hx
  | succ k ih => exact hs i (by omega) (ih (i + 1) (by omega) (by omega))
theorem sI_at (h : Hp) (k j : Nat) (f : Nat → Int32) : (sI h k f).1 j = if j = k then f else h.1 j := rfl
theorem sL_at (h : Hp) (k j : Nat) (f : Nat → Int64) : (sL h k f).2 j = if j = k then f else h.2 j := rfl
theorem sI_sI (h : Hp) (k : Nat) (f g : Nat → Int32) : sI (sI h k f) k g = sI h k g := by
  unfold sI
  congr 1
  funext j
  by_cases hj : j = k <;> simp [hj]
theorem sL_sL (h : Hp) (k : Nat) (f g : Nat → Int64) : sL (sL h k f) k g = sL h k g := by
  unfold sL
  congr 1
  funext j
  by_cases hj : j = k <;> simp [hj]
theorem sI_id (h : Hp) (k : Nat) : sI h k (h.1 k) = h := by
  unfold sI
  refine Prod.ext ?_ rfl
  funext j
  by_cases hj : j = k
  · simp [hj]
  · simp [hj]
theorem sL_id (h : Hp) (k : Nat) : sL h k (h.2 k) = h := by
  unfold sL
  refine Prod.ext rfl ?_
  funext j
  by_cases hj : j = k
  · simp [hj]
  · simp [hj]
theorem sI_cm {h : Hp} {k j : Nat} {f g : Nat → Int32} (hk : k ≠ j) : sI (sI h k f) j g = sI (sI h j g) k f := by
  unfold sI
  refine Prod.ext ?_ rfl
  funext i
  by_cases h1 : i = j
  · subst h1; simp [Ne.symm hk]
  · simp [h1]
theorem sI_sL {h : Hp} {k j : Nat} {f : Nat → Int64} {g : Nat → Int32} : sI (sL h k f) j g = sL (sI h j g) k f := rfl
theorem upd_at (f : Nat → Int32) (k : Nat) (v : Int32) (j : Nat) : upd f k v j = if j = k then v else f j := rfl
theorem updL_at (f : Nat → Int64) (k : Nat) (v : Int64) (j : Nat) : vp_updL f k v j = if j = k then v else f j := rfl
section GE
variable {M : MD} {pc : Nat} {ls st : List Value} {h : Hp} {x : Option Value × Hp}
theorem gd_eq {y : Option Value × Hp} (e : x = y) (g : Gd M pc ls st h y) : Gd M pc ls st h x := e ▸ g
theorem gd_iald {k n j : Nat} {i : Int32} (hd : decode M.1 pc = .ok (.iaload, 1)) (hk : kd k = (0, n)) (hn : n < 2 ^ 31) (hi : i = nI j) (hj : j < n) (g : Gd M (pc + 1) ls (.int (h.1 k j) :: st) h x) : Gd M pc ls (.int i :: .ref k :: st) h x := by
  subst hi
  exact gd_iaload hd hk (vp_in_nI hj hn) (by rw [nI_clamp (by omega)]; exact g)
theorem gd_lald {k n j : Nat} {i : Int32} (hd : decode M.1 pc = .ok (.laload, 1)) (hk : kd k = (1, n)) (hn : n < 2 ^ 31) (hi : i = nI j) (hj : j < n) (g : Gd M (pc + 1) ls (.long (h.2 k j) :: st) h x) : Gd M pc ls (.int i :: .ref k :: st) h x := by
  subst hi
  exact gd_laload hd hk (vp_in_nI hj hn) (by rw [nI_clamp (by omega)]; exact g)
theorem gd_zald {k n j : Nat} {i : Int32} (hd : decode M.1 pc = .ok (.baload, 1)) (hk : kd k = (2, n)) (hn : n < 2 ^ 31) (hi : i = nI j) (hj : j < n) (g : Gd M (pc + 1) ls (.int (h.1 k j) :: st) h x) : Gd M pc ls (.int i :: .ref k :: st) h x := by
  subst hi
  exact gd_zaload hd hk (vp_in_nI hj hn) (by rw [nI_clamp (by omega)]; exact g)
theorem gd_iast {k n j : Nat} {i v : Int32} (hd : decode M.1 pc = .ok (.iastore, 1)) (hk : kd k = (0, n)) (hn : n < 2 ^ 31) (hi : i = nI j) (hj : j < n) (g : Gd M (pc + 1) ls st (sI h k (upd (h.1 k) j v)) x) : Gd M pc ls (.int v :: .int i :: .ref k :: st) h x := by
  subst hi
  exact gd_iastore hd hk (vp_in_nI hj hn) (by rw [nI_clamp (by omega)]; exact g)
theorem gd_last {k n j : Nat} {i : Int32} {v : Int64} (hd : decode M.1 pc = .ok (.lastore, 1)) (hk : kd k = (1, n)) (hn : n < 2 ^ 31) (hi : i = nI j) (hj : j < n) (g : Gd M (pc + 1) ls st (sL h k (vp_updL (h.2 k) j v)) x) : Gd M pc ls (.long v :: .int i :: .ref k :: st) h x := by
  subst hi
  exact gd_lastore hd hk (vp_in_nI hj hn) (by rw [nI_clamp (by omega)]; exact g)
theorem gd_zast {k n j : Nat} {i v : Int32} (hd : decode M.1 pc = .ok (.bastore, 1)) (hk : kd k = (2, n)) (hn : n < 2 ^ 31) (hi : i = nI j) (hj : j < n) (hv : v = 0 ∨ v = 1) (g : Gd M (pc + 1) ls st (sI h k (upd (h.1 k) j v)) x) : Gd M pc ls (.int v :: .int i :: .ref k :: st) h x := by
  subst hi
  exact gd_zastore hd hk (vp_in_nI hj hn) hv (by rw [nI_clamp (by omega)]; exact g)
theorem gd_xald {j : Nat} {i : Int32} (hd : decode M.1 pc = .ok (.iaload, 1)) (hl : scL h < 2 ^ 31) (hi : i = nI j) (hj : j < scL h) (g : Gd M (pc + 1) ls (.int (h.1 95 j) :: st) h x) : Gd M pc ls (.int i :: .ref 95 :: st) h x := by
  subst hi
  exact gd_ialoadX hd (vp_in_nI hj hl) (by rw [nI_clamp (by omega)]; exact g)
theorem gd_uald {j : Nat} {i : Int32} (hd : decode M.1 pc = .ok (.iaload, 1)) (hi : i = nI j) (hj : j < 6) (g : Gd M (pc + 1) ls (.int ((stI 96).getD j 0) :: st) h x) : Gd M pc ls (.int i :: .ref 96 :: st) h x := by
  subst hi
  exact gd_ialoadU hd (vp_in_nI hj (by decide)) (by rw [nI_clamp (by omega)]; exact g)
theorem gd_wald {j : Nat} {i : Int32} (hd : decode M.1 pc = .ok (.iaload, 1)) (hi : i = nI j) (hj : j < 8) (g : Gd M (pc + 1) ls (.int ((stI 97).getD j 0) :: st) h x) : Gd M pc ls (.int i :: .ref 97 :: st) h x := by
  subst hi
  exact gd_ialoadW hd (vp_in_nI hj (by decide)) (by rw [nI_clamp (by omega)]; exact g)
theorem gd_bald {j q : Nat} {i : Int32} (hq : q < 6) (hd : decode M.1 pc = .ok (.baload, 1)) (hi : i = nI j) (hj : j < lenS.getD q 0) (g : Gd M (pc + 1) ls (.int ((bytS.getD q []).getD j 0) :: st) h x) : Gd M pc ls (.int i :: .ref (110 + q) :: st) h x := by
  subst hi
  have hl : lenS.getD q 0 < 100 := by
    have : ∀ q, q < 6 → lenS.getD q 0 < 100 := by decide
    exact this q hq
  exact gd_baloadS hq hd (vp_in_nI hj (by omega)) (by rw [nI_clamp (by omega)]; exact g)

theorem gd_if_eq_t {a : Int32} {off : Int} (tgt : Nat) (hd : decode M.1 pc = .ok (.ifCond .eq off, 3)) (ht : (pc : Int) + off = (tgt : Int)) (hc : a = 0) (g : Gd M tgt ls st h x) : Gd M pc ls (.int a :: st) h x := gd_if_eq tgt hd ht (fun _ => g) (fun z => absurd hc z)
theorem gd_if_eq_f {a : Int32} {off : Int} (tgt : Nat) (hd : decode M.1 pc = .ok (.ifCond .eq off, 3)) (ht : (pc : Int) + off = (tgt : Int)) (hc : ¬ a = 0) (g : Gd M (pc + 3) ls st h x) : Gd M pc ls (.int a :: st) h x := gd_if_eq tgt hd ht (fun z => absurd z hc) (fun _ => g)
theorem gd_icmp_eq_t {a b : Int32} {off : Int} (tgt : Nat) (hd : decode M.1 pc = .ok (.if_icmp .eq off, 3)) (ht : (pc : Int) + off = (tgt : Int)) (hc : a = b) (g : Gd M tgt ls st h x) : Gd M pc ls (.int b :: .int a :: st) h x := gd_icmp_eq tgt hd ht (fun _ => g) (fun z => absurd hc z)
theorem gd_icmp_eq_f {a b : Int32} {off : Int} (tgt : Nat) (hd : decode M.1 pc = .ok (.if_icmp .eq off, 3)) (ht : (pc : Int) + off = (tgt : Int)) (hc : ¬ a = b) (g : Gd M (pc + 3) ls st h x) : Gd M pc ls (.int b :: .int a :: st) h x := gd_icmp_eq tgt hd ht (fun z => absurd z hc) (fun _ => g)
theorem gd_if_ne_t {a : Int32} {off : Int} (tgt : Nat) (hd : decode M.1 pc = .ok (.ifCond .ne off, 3)) (ht : (pc : Int) + off = (tgt : Int)) (hc : ¬ a = 0) (g : Gd M tgt ls st h x) : Gd M pc ls (.int a :: st) h x := gd_if_ne tgt hd ht (fun _ => g) (fun z => absurd z hc)
theorem gd_if_ne_f {a : Int32} {off : Int} (tgt : Nat) (hd : decode M.1 pc = .ok (.ifCond .ne off, 3)) (ht : (pc : Int) + off = (tgt : Int)) (hc : a = 0) (g : Gd M (pc + 3) ls st h x) : Gd M pc ls (.int a :: st) h x := gd_if_ne tgt hd ht (fun z => absurd hc z) (fun _ => g)
theorem gd_icmp_ne_t {a b : Int32} {off : Int} (tgt : Nat) (hd : decode M.1 pc = .ok (.if_icmp .ne off, 3)) (ht : (pc : Int) + off = (tgt : Int)) (hc : ¬ a = b) (g : Gd M tgt ls st h x) : Gd M pc ls (.int b :: .int a :: st) h x := gd_icmp_ne tgt hd ht (fun _ => g) (fun z => absurd z hc)
theorem gd_icmp_ne_f {a b : Int32} {off : Int} (tgt : Nat) (hd : decode M.1 pc = .ok (.if_icmp .ne off, 3)) (ht : (pc : Int) + off = (tgt : Int)) (hc : a = b) (g : Gd M (pc + 3) ls st h x) : Gd M pc ls (.int b :: .int a :: st) h x := gd_icmp_ne tgt hd ht (fun z => absurd hc z) (fun _ => g)
theorem gd_if_lt_t {a : Int32} {off : Int} (tgt : Nat) (hd : decode M.1 pc = .ok (.ifCond .lt off, 3)) (ht : (pc : Int) + off = (tgt : Int)) (hc : a < 0) (g : Gd M tgt ls st h x) : Gd M pc ls (.int a :: st) h x := gd_if_lt tgt hd ht (fun _ => g) (fun z => absurd hc z)
theorem gd_if_lt_f {a : Int32} {off : Int} (tgt : Nat) (hd : decode M.1 pc = .ok (.ifCond .lt off, 3)) (ht : (pc : Int) + off = (tgt : Int)) (hc : ¬ a < 0) (g : Gd M (pc + 3) ls st h x) : Gd M pc ls (.int a :: st) h x := gd_if_lt tgt hd ht (fun z => absurd z hc) (fun _ => g)
theorem gd_icmp_lt_t {a b : Int32} {off : Int} (tgt : Nat) (hd : decode M.1 pc = .ok (.if_icmp .lt off, 3)) (ht : (pc : Int) + off = (tgt : Int)) (hc : a < b) (g : Gd M tgt ls st h x) : Gd M pc ls (.int b :: .int a :: st) h x := gd_icmp_lt tgt hd ht (fun _ => g) (fun z => absurd hc z)
theorem gd_icmp_lt_f {a b : Int32} {off : Int} (tgt : Nat) (hd : decode M.1 pc = .ok (.if_icmp .lt off, 3)) (ht : (pc : Int) + off = (tgt : Int)) (hc : ¬ a < b) (g : Gd M (pc + 3) ls st h x) : Gd M pc ls (.int b :: .int a :: st) h x := gd_icmp_lt tgt hd ht (fun z => absurd z hc) (fun _ => g)
theorem gd_if_ge_t {a : Int32} {off : Int} (tgt : Nat) (hd : decode M.1 pc = .ok (.ifCond .ge off, 3)) (ht : (pc : Int) + off = (tgt : Int)) (hc : 0 ≤ a) (g : Gd M tgt ls st h x) : Gd M pc ls (.int a :: st) h x := gd_if_ge tgt hd ht (fun _ => g) (fun z => absurd hc z)
theorem gd_if_ge_f {a : Int32} {off : Int} (tgt : Nat) (hd : decode M.1 pc = .ok (.ifCond .ge off, 3)) (ht : (pc : Int) + off = (tgt : Int)) (hc : ¬ 0 ≤ a) (g : Gd M (pc + 3) ls st h x) : Gd M pc ls (.int a :: st) h x := gd_if_ge tgt hd ht (fun z => absurd z hc) (fun _ => g)
theorem gd_icmp_ge_t {a b : Int32} {off : Int} (tgt : Nat) (hd : decode M.1 pc = .ok (.if_icmp .ge off, 3)) (ht : (pc : Int) + off = (tgt : Int)) (hc : b ≤ a) (g : Gd M tgt ls st h x) : Gd M pc ls (.int b :: .int a :: st) h x := gd_icmp_ge tgt hd ht (fun _ => g) (fun z => absurd hc z)
theorem gd_icmp_ge_f {a b : Int32} {off : Int} (tgt : Nat) (hd : decode M.1 pc = .ok (.if_icmp .ge off, 3)) (ht : (pc : Int) + off = (tgt : Int)) (hc : ¬ b ≤ a) (g : Gd M (pc + 3) ls st h x) : Gd M pc ls (.int b :: .int a :: st) h x := gd_icmp_ge tgt hd ht (fun z => absurd z hc) (fun _ => g)
theorem gd_if_gt_t {a : Int32} {off : Int} (tgt : Nat) (hd : decode M.1 pc = .ok (.ifCond .gt off, 3)) (ht : (pc : Int) + off = (tgt : Int)) (hc : 0 < a) (g : Gd M tgt ls st h x) : Gd M pc ls (.int a :: st) h x := gd_if_gt tgt hd ht (fun _ => g) (fun z => absurd hc z)
theorem gd_if_gt_f {a : Int32} {off : Int} (tgt : Nat) (hd : decode M.1 pc = .ok (.ifCond .gt off, 3)) (ht : (pc : Int) + off = (tgt : Int)) (hc : ¬ 0 < a) (g : Gd M (pc + 3) ls st h x) : Gd M pc ls (.int a :: st) h x := gd_if_gt tgt hd ht (fun z => absurd z hc) (fun _ => g)
theorem gd_icmp_gt_t {a b : Int32} {off : Int} (tgt : Nat) (hd : decode M.1 pc = .ok (.if_icmp .gt off, 3)) (ht : (pc : Int) + off = (tgt : Int)) (hc : b < a) (g : Gd M tgt ls st h x) : Gd M pc ls (.int b :: .int a :: st) h x := gd_icmp_gt tgt hd ht (fun _ => g) (fun z => absurd hc z)
theorem gd_icmp_gt_f {a b : Int32} {off : Int} (tgt : Nat) (hd : decode M.1 pc = .ok (.if_icmp .gt off, 3)) (ht : (pc : Int) + off = (tgt : Int)) (hc : ¬ b < a) (g : Gd M (pc + 3) ls st h x) : Gd M pc ls (.int b :: .int a :: st) h x := gd_icmp_gt tgt hd ht (fun z => absurd z hc) (fun _ => g)
theorem gd_if_le_t {a : Int32} {off : Int} (tgt : Nat) (hd : decode M.1 pc = .ok (.ifCond .le off, 3)) (ht : (pc : Int) + off = (tgt : Int)) (hc : a ≤ 0) (g : Gd M tgt ls st h x) : Gd M pc ls (.int a :: st) h x := gd_if_le tgt hd ht (fun _ => g) (fun z => absurd hc z)
theorem gd_if_le_f {a : Int32} {off : Int} (tgt : Nat) (hd : decode M.1 pc = .ok (.ifCond .le off, 3)) (ht : (pc : Int) + off = (tgt : Int)) (hc : ¬ a ≤ 0) (g : Gd M (pc + 3) ls st h x) : Gd M pc ls (.int a :: st) h x := gd_if_le tgt hd ht (fun z => absurd z hc) (fun _ => g)
theorem gd_icmp_le_t {a b : Int32} {off : Int} (tgt : Nat) (hd : decode M.1 pc = .ok (.if_icmp .le off, 3)) (ht : (pc : Int) + off = (tgt : Int)) (hc : a ≤ b) (g : Gd M tgt ls st h x) : Gd M pc ls (.int b :: .int a :: st) h x := gd_icmp_le tgt hd ht (fun _ => g) (fun z => absurd hc z)
theorem gd_icmp_le_f {a b : Int32} {off : Int} (tgt : Nat) (hd : decode M.1 pc = .ok (.if_icmp .le off, 3)) (ht : (pc : Int) + off = (tgt : Int)) (hc : ¬ a ≤ b) (g : Gd M (pc + 3) ls st h x) : Gd M pc ls (.int b :: .int a :: st) h x := gd_icmp_le tgt hd ht (fun z => absurd z hc) (fun _ => g)
end GE
