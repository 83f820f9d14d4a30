
/-! ===== what a state is: the rows of the reference's world, and how the class holds them ===== -/
def szR (k : Nat) : Nat := [5, 144, 16, 96, 270, 16, 192, 60].getD k 0
def kof (k : Nat) : Nat := [0, 5, 149, 165, 261, 531, 547, 739].getD k 0
def ms (h : Hp) : Nat → Nat → Int32 := fun k i => if i < szR k then h.1 (74 + k) i else 0
def ks (h : Hp) : Nat → Nat → Int32 := fun k i => if i < szR k then h.1 94 (kof k + i) else 0
def tn (a : Int32) : Nat := a.toNatClampNeg
def nT (s : Nat → Nat → Int32) : Nat := tn (s 0 0)
def nN (s : Nat → Nat → Int32) : Nat := tn (s 0 1)
def nX (s : Nat → Nat → Int32) : Nat := tn (s 0 2)
def nO (s : Nat → Nat → Int32) : Nat := tn (s 0 3)
def nD (s : Nat → Nat → Int32) : Nat := tn (s 0 4)
def cR (s : Nat → Nat → Int32) (t : Nat) : Nat := tn (s 5 (2 * t + 1))
def bset (p : Nat → Bool) : Nat → Nat
  | 0 => 0
  | n + 1 => bset p n + (if p n then 2 ^ n else 0)
def isSh (n : Nat) : Prop := n / 1000 < 144 ∧ n / 10 % 100 < 40 ∧ n % 10 < 4
/-- a rule of sort w about a, first u, last v -/
def RulOK (w a u v : Int32) : Prop := ∃ wn an un vn : Nat, w = nI wn ∧ a = nI an ∧ u = nI un ∧ v = nI vn ∧ un ≤ vn ∧
  ((wn = 0 ∧ an < 16 ∧ vn ≤ 11) ∨ (wn = 1 ∧ an < 4 ∧ vn ≤ 99) ∨ (wn = 2 ∧ an = 0 ∧ 1 ≤ un ∧ vn ≤ 20) ∨ (wn = 3 ∧ an < 3 ∧ vn ≤ 9))
/-- a letter's row -/
def LetOK (s : Nat → Nat → Int32) (l : Nat) : Prop := ∃ k t w d r q o e : Nat, s 4 (9 * l) = nI k ∧ s 4 (9 * l + 1) = nI t ∧ s 4 (9 * l + 2) = nI w ∧ s 4 (9 * l + 3) = nI d ∧ s 4 (9 * l + 4) = nI r ∧ s 4 (9 * l + 5) = nI q ∧ s 4 (9 * l + 6) = nI o ∧ s 4 (9 * l + 8) = nI e ∧
  k ≤ 5 ∧ t < nT s ∧ w ≤ 15 ∧ d ≤ 999 ∧ r ≤ 4 ∧ q ≤ 10098 ∧ o ≤ 1 ∧ e ≤ 5 ∧ (s 4 (9 * l + 7) = -1 ∨ ∃ j, j < l ∧ s 4 (9 * l + 7) = nI j) ∧ (k = 3 → ¬ s 4 (9 * l + 7) = -1)

/-- ranges of a world -/
def WF (s : Nat → Nat → Int32) : Prop :=
  (s 0 0 = nI (nT s) ∧ nT s ≤ 16) ∧
  (s 0 1 = nI (nN s) ∧ nN s ≤ 30) ∧
  (s 0 2 = nI (nX s) ∧ nX s ≤ 8) ∧
  (s 0 3 = nI (nO s) ∧ nO s ≤ 20) ∧
  (s 0 4 = nI (nD s) ∧ nD s ≤ 9999) ∧
  (∀ c, c < 144 → ∃ g, g < 3 ∧ s 1 c = nI g) ∧
  (∀ t, t < nT s → ∃ c, c < 144 ∧ s 2 t = nI c) ∧
  (∀ i, i < 6 * nT s → ∃ v, v < 10000 ∧ s 3 i = nI v) ∧
  (∀ l, l < nN s → LetOK s l) ∧
  (∀ t, t < nX s → ∃ v, v < 10000 ∧ s 5 (2 * t) = nI v) ∧
  (∀ t, t < nX s → s 5 (2 * t + 1) = nI (cR s t) ∧ 1 ≤ cR s t ∧ cR s t ≤ 6) ∧
  (∀ t, t < nX s → ∀ r, r < cR s t → RulOK (s 6 (4 * (6 * t + r))) (s 6 (4 * (6 * t + r) + 1)) (s 6 (4 * (6 * t + r) + 2)) (s 6 (4 * (6 * t + r) + 3))) ∧
  (∀ k, k < nO s → ∃ n, isSh n ∧ s 7 (3 * k) = nI n)
theorem WF.t {s : Nat → Nat → Int32} (q : WF s) : s 0 0 = nI (nT s) ∧ nT s ≤ 16 := q.1
theorem WF.n {s : Nat → Nat → Int32} (q : WF s) : s 0 1 = nI (nN s) ∧ nN s ≤ 30 := q.2.1
theorem WF.x {s : Nat → Nat → Int32} (q : WF s) : s 0 2 = nI (nX s) ∧ nX s ≤ 8 := q.2.2.1
theorem WF.o {s : Nat → Nat → Int32} (q : WF s) : s 0 3 = nI (nO s) ∧ nO s ≤ 20 := q.2.2.2.1
theorem WF.d {s : Nat → Nat → Int32} (q : WF s) : s 0 4 = nI (nD s) ∧ nD s ≤ 9999 := q.2.2.2.2.1
theorem WF.g {s : Nat → Nat → Int32} (q : WF s) : ∀ c, c < 144 → ∃ g, g < 3 ∧ s 1 c = nI g := q.2.2.2.2.2.1
theorem WF.c {s : Nat → Nat → Int32} (q : WF s) : ∀ t, t < nT s → ∃ c, c < 144 ∧ s 2 t = nI c := q.2.2.2.2.2.2.1
theorem WF.h {s : Nat → Nat → Int32} (q : WF s) : ∀ i, i < 6 * nT s → ∃ v, v < 10000 ∧ s 3 i = nI v := q.2.2.2.2.2.2.2.1
theorem WF.l {s : Nat → Nat → Int32} (q : WF s) : ∀ l, l < nN s → LetOK s l := q.2.2.2.2.2.2.2.2.1
theorem WF.f {s : Nat → Nat → Int32} (q : WF s) : ∀ t, t < nX s → ∃ v, v < 10000 ∧ s 5 (2 * t) = nI v := q.2.2.2.2.2.2.2.2.2.1
theorem WF.c6 {s : Nat → Nat → Int32} (q : WF s) : ∀ t, t < nX s → s 5 (2 * t + 1) = nI (cR s t) ∧ 1 ≤ cR s t ∧ cR s t ≤ 6 := q.2.2.2.2.2.2.2.2.2.2.1
theorem WF.r {s : Nat → Nat → Int32} (q : WF s) : ∀ t, t < nX s → ∀ r, r < cR s t → RulOK (s 6 (4 * (6 * t + r))) (s 6 (4 * (6 * t + r) + 1)) (s 6 (4 * (6 * t + r) + 2)) (s 6 (4 * (6 * t + r) + 3)) := q.2.2.2.2.2.2.2.2.2.2.2.1
theorem WF.k {s : Nat → Nat → Int32} (q : WF s) : ∀ k, k < nO s → ∃ n, isSh n ∧ s 7 (3 * k) = nI n := q.2.2.2.2.2.2.2.2.2.2.2.2
def keyI (w a : Int32) : Int32 := if w = nI 0 then nI 8 + a else if w = nI 1 then a else if w = nI 2 then nI 4 else nI 5 + a
def lostS (s : Nat → Nat → Int32) : Nat := bset (fun l => decide (s 4 (9 * l + 6) = nI 1)) (nN s)
/-- the class holds the world s in the cells from b on -/
def CR (h : Hp) (b : Nat) (s : Nat → Nat → Int32) : Prop :=
  (h.1 (b + 1) 3 = s 0 0) ∧
  (h.1 (b + 1) 4 = s 0 4) ∧
  (h.1 (b + 5) 9 = s 0 1) ∧
  (h.1 (b + 14) 5 = s 0 2) ∧
  (h.1 (b + 20) 3 = s 0 3) ∧
  (∀ c, c < 144 → h.1 (b + 2) c = s 1 c) ∧
  (∀ t, t < nT s → h.1 (b + 3) t = s 2 t) ∧
  (∀ i, i < 6 * nT s → h.1 (b + 4) i = s 3 i) ∧
  (∀ i, i < 96 → 6 * nT s ≤ i → h.1 (b + 4) i = nI 0) ∧
  (∀ l, l < nN s → h.1 (b + 6) l = s 4 (9 * l)) ∧
  (∀ l, l < nN s → h.1 (b + 7) l = s 4 (9 * l + 1)) ∧
  (∀ l, l < nN s → h.1 (b + 8) l = s 4 (9 * l + 2)) ∧
  (∀ l, l < nN s → h.1 (b + 9) l = s 4 (9 * l + 3)) ∧
  (∀ l, l < nN s → h.1 (b + 10) l = s 4 (9 * l + 4)) ∧
  (∀ l, l < nN s → h.1 (b + 11) l = s 4 (9 * l + 5)) ∧
  (∀ l, l < nN s → h.1 (b + 12) l = s 4 (9 * l + 7)) ∧
  (∀ l, l < nN s → h.1 (b + 13) l = s 4 (9 * l + 8)) ∧
  (h.1 (b + 5) 8 = nI (lostS s)) ∧
  (∀ t, t < nX s → h.1 (b + 15) t = s 5 (2 * t)) ∧
  (∀ t, t < nX s → h.1 (b + 16) t = s 5 (2 * t + 1)) ∧
  (∀ t, t < nX s → ∀ r, r < cR s t → h.1 (b + 17) (6 * t + r) = keyI (s 6 (4 * (6 * t + r))) (s 6 (4 * (6 * t + r) + 1))) ∧
  (∀ t, t < nX s → ∀ r, r < cR s t → h.1 (b + 18) (6 * t + r) = s 6 (4 * (6 * t + r) + 2)) ∧
  (∀ t, t < nX s → ∀ r, r < cR s t → h.1 (b + 19) (6 * t + r) = s 6 (4 * (6 * t + r) + 3)) ∧
  (∀ k, k < nO s → h.1 (b + 21) k = s 7 (3 * k)) ∧
  (∀ k, k < nO s → h.1 (b + 22) k = s 7 (3 * k + 1)) ∧
  (∀ k, k < nO s → h.1 (b + 23) k = s 7 (3 * k + 2))
theorem CR.t {h : Hp} {b : Nat} {s : Nat → Nat → Int32} (q : CR h b s) : h.1 (b + 1) 3 = s 0 0 := q.1
theorem CR.d {h : Hp} {b : Nat} {s : Nat → Nat → Int32} (q : CR h b s) : h.1 (b + 1) 4 = s 0 4 := q.2.1
theorem CR.n {h : Hp} {b : Nat} {s : Nat → Nat → Int32} (q : CR h b s) : h.1 (b + 5) 9 = s 0 1 := q.2.2.1
theorem CR.x {h : Hp} {b : Nat} {s : Nat → Nat → Int32} (q : CR h b s) : h.1 (b + 14) 5 = s 0 2 := q.2.2.2.1
theorem CR.o {h : Hp} {b : Nat} {s : Nat → Nat → Int32} (q : CR h b s) : h.1 (b + 20) 3 = s 0 3 := q.2.2.2.2.1
theorem CR.g {h : Hp} {b : Nat} {s : Nat → Nat → Int32} (q : CR h b s) : ∀ c, c < 144 → h.1 (b + 2) c = s 1 c := q.2.2.2.2.2.1
theorem CR.c {h : Hp} {b : Nat} {s : Nat → Nat → Int32} (q : CR h b s) : ∀ t, t < nT s → h.1 (b + 3) t = s 2 t := q.2.2.2.2.2.2.1
theorem CR.h {h : Hp} {b : Nat} {s : Nat → Nat → Int32} (q : CR h b s) : ∀ i, i < 6 * nT s → h.1 (b + 4) i = s 3 i := q.2.2.2.2.2.2.2.1
theorem CR.h0 {h : Hp} {b : Nat} {s : Nat → Nat → Int32} (q : CR h b s) : ∀ i, i < 96 → 6 * nT s ≤ i → h.1 (b + 4) i = nI 0 := q.2.2.2.2.2.2.2.2.1
theorem CR.lk {h : Hp} {b : Nat} {s : Nat → Nat → Int32} (q : CR h b s) : ∀ l, l < nN s → h.1 (b + 6) l = s 4 (9 * l) := q.2.2.2.2.2.2.2.2.2.1
theorem CR.lt {h : Hp} {b : Nat} {s : Nat → Nat → Int32} (q : CR h b s) : ∀ l, l < nN s → h.1 (b + 7) l = s 4 (9 * l + 1) := q.2.2.2.2.2.2.2.2.2.2.1
theorem CR.lw {h : Hp} {b : Nat} {s : Nat → Nat → Int32} (q : CR h b s) : ∀ l, l < nN s → h.1 (b + 8) l = s 4 (9 * l + 2) := q.2.2.2.2.2.2.2.2.2.2.2.1
theorem CR.ld {h : Hp} {b : Nat} {s : Nat → Nat → Int32} (q : CR h b s) : ∀ l, l < nN s → h.1 (b + 9) l = s 4 (9 * l + 3) := q.2.2.2.2.2.2.2.2.2.2.2.2.1
theorem CR.lr {h : Hp} {b : Nat} {s : Nat → Nat → Int32} (q : CR h b s) : ∀ l, l < nN s → h.1 (b + 10) l = s 4 (9 * l + 4) := q.2.2.2.2.2.2.2.2.2.2.2.2.2.1
theorem CR.lq {h : Hp} {b : Nat} {s : Nat → Nat → Int32} (q : CR h b s) : ∀ l, l < nN s → h.1 (b + 11) l = s 4 (9 * l + 5) := q.2.2.2.2.2.2.2.2.2.2.2.2.2.2.1
theorem CR.lf {h : Hp} {b : Nat} {s : Nat → Nat → Int32} (q : CR h b s) : ∀ l, l < nN s → h.1 (b + 12) l = s 4 (9 * l + 7) := q.2.2.2.2.2.2.2.2.2.2.2.2.2.2.2.1
theorem CR.le {h : Hp} {b : Nat} {s : Nat → Nat → Int32} (q : CR h b s) : ∀ l, l < nN s → h.1 (b + 13) l = s 4 (9 * l + 8) := q.2.2.2.2.2.2.2.2.2.2.2.2.2.2.2.2.1
theorem CR.lo {h : Hp} {b : Nat} {s : Nat → Nat → Int32} (q : CR h b s) : h.1 (b + 5) 8 = nI (lostS s) := q.2.2.2.2.2.2.2.2.2.2.2.2.2.2.2.2.2.1
theorem CR.f {h : Hp} {b : Nat} {s : Nat → Nat → Int32} (q : CR h b s) : ∀ t, t < nX s → h.1 (b + 15) t = s 5 (2 * t) := q.2.2.2.2.2.2.2.2.2.2.2.2.2.2.2.2.2.2.1
theorem CR.c6 {h : Hp} {b : Nat} {s : Nat → Nat → Int32} (q : CR h b s) : ∀ t, t < nX s → h.1 (b + 16) t = s 5 (2 * t + 1) := q.2.2.2.2.2.2.2.2.2.2.2.2.2.2.2.2.2.2.2.1
theorem CR.rk {h : Hp} {b : Nat} {s : Nat → Nat → Int32} (q : CR h b s) : ∀ t, t < nX s → ∀ r, r < cR s t → h.1 (b + 17) (6 * t + r) = keyI (s 6 (4 * (6 * t + r))) (s 6 (4 * (6 * t + r) + 1)) := q.2.2.2.2.2.2.2.2.2.2.2.2.2.2.2.2.2.2.2.2.1
theorem CR.rl {h : Hp} {b : Nat} {s : Nat → Nat → Int32} (q : CR h b s) : ∀ t, t < nX s → ∀ r, r < cR s t → h.1 (b + 18) (6 * t + r) = s 6 (4 * (6 * t + r) + 2) := q.2.2.2.2.2.2.2.2.2.2.2.2.2.2.2.2.2.2.2.2.2.1
theorem CR.rh {h : Hp} {b : Nat} {s : Nat → Nat → Int32} (q : CR h b s) : ∀ t, t < nX s → ∀ r, r < cR s t → h.1 (b + 19) (6 * t + r) = s 6 (4 * (6 * t + r) + 3) := q.2.2.2.2.2.2.2.2.2.2.2.2.2.2.2.2.2.2.2.2.2.2.1
theorem CR.ks {h : Hp} {b : Nat} {s : Nat → Nat → Int32} (q : CR h b s) : ∀ k, k < nO s → h.1 (b + 21) k = s 7 (3 * k) := q.2.2.2.2.2.2.2.2.2.2.2.2.2.2.2.2.2.2.2.2.2.2.2.1
theorem CR.km {h : Hp} {b : Nat} {s : Nat → Nat → Int32} (q : CR h b s) : ∀ k, k < nO s → h.1 (b + 22) k = s 7 (3 * k + 1) := q.2.2.2.2.2.2.2.2.2.2.2.2.2.2.2.2.2.2.2.2.2.2.2.2.1
theorem CR.kd {h : Hp} {b : Nat} {s : Nat → Nat → Int32} (q : CR h b s) : ∀ k, k < nO s → h.1 (b + 23) k = s 7 (3 * k + 2) := q.2.2.2.2.2.2.2.2.2.2.2.2.2.2.2.2.2.2.2.2.2.2.2.2.2
def KP (h : Hp) : Prop :=
  (h.1 0 2 = nI 0 ∨ h.1 0 2 = nI 1) ∧
  (h.1 72 32 = h.1 0 2) ∧
  (h.1 0 2 = nI 1 → WF (ks h) ∧ CR h 26 (ks h))
theorem KP.z {h : Hp} (q : KP h) : h.1 0 2 = nI 0 ∨ h.1 0 2 = nI 1 := q.1
theorem KP.e {h : Hp} (q : KP h) : h.1 72 32 = h.1 0 2 := q.2.1
theorem KP.k {h : Hp} (q : KP h) : h.1 0 2 = nI 1 → WF (ks h) ∧ CR h 26 (ks h) := q.2.2
def TP (h : Hp) : Prop :=
  (h.1 51 1 = nI (tn (h.1 72 14)) ∧ h.1 72 14 = nI (tn (h.1 72 14)) ∧ tn (h.1 72 14) ≤ 120) ∧
  (∀ i, i < tn (h.1 72 14) → h.1 52 i = h.1 85 i ∧ ∃ v, v < 256 ∧ h.1 85 i = nI v)
theorem TP.n {h : Hp} (q : TP h) : h.1 51 1 = nI (tn (h.1 72 14)) ∧ h.1 72 14 = nI (tn (h.1 72 14)) ∧ tn (h.1 72 14) ≤ 120 := q.1
theorem TP.b {h : Hp} (q : TP h) : ∀ i, i < tn (h.1 72 14) → h.1 52 i = h.1 85 i ∧ ∃ v, v < 256 ∧ h.1 85 i = nI v := q.2
def SH (h : Hp) : Prop :=
  (∀ q, q < 4 → h.1 58 q = h.1 90 q) ∧
  (∀ q, q < 4 → h.1 59 q = h.1 91 q) ∧
  (∀ q, q < 4 → h.1 91 q = nI (tn (h.1 91 q)) ∧ tn (h.1 91 q) ≤ 40) ∧
  (∀ q, q < 4 → h.1 90 q = nI 0 ∨ h.1 90 q = nI 8 ∨ h.1 90 q = nI 16 ∨ h.1 90 q = nI 64) ∧
  (∀ i, i < 160 → h.2 57 i = h.2 92 i)
theorem SH.w {h : Hp} (q : SH h) : ∀ q, q < 4 → h.1 58 q = h.1 90 q := q.1
theorem SH.z {h : Hp} (q : SH h) : ∀ q, q < 4 → h.1 59 q = h.1 91 q := q.2.1
theorem SH.n {h : Hp} (q : SH h) : ∀ q, q < 4 → h.1 91 q = nI (tn (h.1 91 q)) ∧ tn (h.1 91 q) ≤ 40 := q.2.2.1
theorem SH.v {h : Hp} (q : SH h) : ∀ q, q < 4 → h.1 90 q = nI 0 ∨ h.1 90 q = nI 8 ∨ h.1 90 q = nI 16 ∨ h.1 90 q = nI 64 := q.2.2.2.1
theorem SH.x {h : Hp} (q : SH h) : ∀ i, i < 160 → h.2 57 i = h.2 92 i := q.2.2.2.2
def Inv (h : Hp) : Prop :=
  (WF (ms h)) ∧
  (CR h 1 (ms h)) ∧
  (KP h) ∧
  (∀ j, j < 7 → h.1 73 (j + 1) = h.1 71 j) ∧
  (TP h) ∧
  (SH h) ∧
  (scL h ≤ 3072)
theorem Inv.w {h : Hp} (q : Inv h) : WF (ms h) := q.1
theorem Inv.c {h : Hp} (q : Inv h) : CR h 1 (ms h) := q.2.1
theorem Inv.k {h : Hp} (q : Inv h) : KP h := q.2.2.1
theorem Inv.f {h : Hp} (q : Inv h) : ∀ j, j < 7 → h.1 73 (j + 1) = h.1 71 j := q.2.2.2.1
theorem Inv.p {h : Hp} (q : Inv h) : TP h := q.2.2.2.2.1
theorem Inv.s {h : Hp} (q : Inv h) : SH h := q.2.2.2.2.2.1
theorem Inv.l {h : Hp} (q : Inv h) : scL h ≤ 3072 := q.2.2.2.2.2.2

/-- rows that an answer can rest on -/
def pers (k : Nat) : Bool := !([25, 50, 51, 53, 54, 55, 60, 61, 62, 63, 64, 65, 66, 67, 68, 69, 70, 72, 82, 83, 84, 86, 87, 88, 89, 93].contains k)
def persL (k : Nat) : Bool := !([69, 72, 88, 93].contains k)
def Same (h h' : Hp) : Prop := (∀ k, pers k = true → h'.1 k = h.1 k) ∧ (h'.1 51 1 = h.1 51 1 ∧ h'.1 72 14 = h.1 72 14 ∧ h'.1 72 32 = h.1 72 32) ∧ (∀ k, persL k = true → h'.2 k = h.2 k)
theorem Same.rf (h : Hp) : Same h h := ⟨fun _ _ => rfl, ⟨rfl, rfl, rfl⟩, fun _ _ => rfl⟩
theorem Same.tr {a b c : Hp} (h1 : Same a b) (h2 : Same b c) : Same a c := ⟨fun k hk => (h2.1 k hk).trans (h1.1 k hk), ⟨h2.2.1.1.trans h1.2.1.1, h2.2.1.2.1.trans h1.2.1.2.1, h2.2.1.2.2.trans h1.2.1.2.2⟩, fun k hk => (h2.2.2 k hk).trans (h1.2.2 k hk)⟩
theorem Same.si {a b : Hp} {k : Nat} {f : Nat → Int32} (h1 : Same a b) (hk : pers k = false) (h51 : k ≠ 51) (h72 : k ≠ 72) : Same a (sI b k f) := by
  refine ⟨fun j hj => ?_, ⟨?_, ?_, ?_⟩, fun j hj => h1.2.2 j hj⟩
  · rw [sI_n (fun e => by rw [e, hk] at hj; cases hj)]; exact h1.1 j hj
  · rw [sI_n (Ne.symm h51)]; exact h1.2.1.1
  · rw [sI_n (Ne.symm h72)]; exact h1.2.1.2.1
  · rw [sI_n (Ne.symm h72)]; exact h1.2.1.2.2
theorem Same.sl {a b : Hp} {k : Nat} {f : Nat → Int64} (h1 : Same a b) (hk : persL k = false) : Same a (sL b k f) := by
  refine ⟨fun j hj => h1.1 j hj, h1.2.1, fun j hj => ?_⟩
  rw [sL_n (fun e => by rw [e, hk] at hj; cases hj)]; exact h1.2.2 j hj
theorem Same.s51 {a b : Hp} {f : Nat → Int32} (h1 : Same a b) (hf : f 1 = b.1 51 1) : Same a (sI b 51 f) := by
  refine ⟨fun j hj => ?_, ⟨?_, ?_, ?_⟩, fun j hj => h1.2.2 j hj⟩
  · rw [sI_n (fun e => by rw [e] at hj; cases hj)]; exact h1.1 j hj
  · rw [sI_s, hf]; exact h1.2.1.1
  · rw [sI_n (by decide)]; exact h1.2.1.2.1
  · rw [sI_n (by decide)]; exact h1.2.1.2.2
theorem Same.s72 {a b : Hp} {f : Nat → Int32} (h1 : Same a b) (hf : f 14 = b.1 72 14) (hg : f 32 = b.1 72 32) : Same a (sI b 72 f) := by
  refine ⟨fun j hj => ?_, ⟨?_, ?_, ?_⟩, fun j hj => h1.2.2 j hj⟩
  · rw [sI_n (fun e => by rw [e] at hj; cases hj)]; exact h1.1 j hj
  · rw [sI_n (by decide)]; exact h1.2.1.1
  · rw [sI_s, hf]; exact h1.2.1.2.1
  · rw [sI_s, hg]; exact h1.2.1.2.2
theorem ms_at {h : Hp} {k i : Nat} (hi : i < szR k) : ms h k i = h.1 (74 + k) i := if_pos hi
theorem ks_at {h : Hp} {k i : Nat} (hi : i < szR k) : ks h k i = h.1 94 (kof k + i) := if_pos hi
theorem Same.msE {h h' : Hp} (q : Same h h') : ms h' = ms h := by
  funext k i
  unfold ms
  by_cases hk : k < 8
  · have : ∀ k, k < 8 → pers (74 + k) = true := by decide
    rw [q.1 _ (this k hk)]
  · have : szR k = 0 := by unfold szR; rw [List.getD_eq_getElem?_getD, List.getElem?_eq_none (by simp; omega)]; rfl
    simp [this]
theorem Same.ksE {h h' : Hp} (q : Same h h') : ks h' = ks h := by
  funext k i
  unfold ks
  rw [q.1 94 (by decide)]
theorem CR.same {h h' : Hp} {b : Nat} {s : Nat → Nat → Int32} (hb : ∀ j, 1 ≤ j → j ≤ 23 → h'.1 (b + j) = h.1 (b + j)) (q : CR h b s) : CR h' b s := by
  unfold CR at q ⊢
  rw [hb 1 (by decide) (by decide), hb 2 (by decide) (by decide), hb 3 (by decide) (by decide), hb 4 (by decide) (by decide), hb 5 (by decide) (by decide), hb 6 (by decide) (by decide), hb 7 (by decide) (by decide), hb 8 (by decide) (by decide), hb 9 (by decide) (by decide), hb 10 (by decide) (by decide), hb 11 (by decide) (by decide), hb 12 (by decide) (by decide), hb 13 (by decide) (by decide), hb 14 (by decide) (by decide), hb 15 (by decide) (by decide), hb 16 (by decide) (by decide), hb 17 (by decide) (by decide), hb 18 (by decide) (by decide), hb 19 (by decide) (by decide), hb 20 (by decide) (by decide), hb 21 (by decide) (by decide), hb 22 (by decide) (by decide), hb 23 (by decide) (by decide)]
  exact q
theorem Inv.same {h h' : Hp} (q : Same h h') (i : Inv h) : Inv h' := by
  have p2 : ∀ j, 1 ≤ j → j ≤ 23 → pers (26 + j) = true := by
    have : ∀ j, j < 24 → 1 ≤ j → pers (26 + j) = true := by decide
    exact fun j h1 h2 => this j (by omega) h1
  have p1 : ∀ j, 1 ≤ j → j ≤ 23 → pers (1 + j) = true := by
    have : ∀ j, j < 24 → 1 ≤ j → pers (1 + j) = true := by decide
    exact fun j h1 h2 => this j (by omega) h1
  refine ⟨by rw [q.msE]; exact i.w, by rw [q.msE]; exact i.c.same (fun j h1 h2 => q.1 _ (p1 j h1 h2)), ⟨?_, ?_, ?_⟩, ?_, ⟨?_, ?_⟩, ⟨?_, ?_, ?_, ?_, ?_⟩, ?_⟩
  · rw [q.1 0 (by decide)]; exact i.k.z
  · rw [q.1 0 (by decide), q.2.1.2.2]; exact i.k.e
  · rw [q.1 0 (by decide), q.ksE]; exact fun e => ⟨(i.k.k e).1, (i.k.k e).2.same (fun j h1 h2 => q.1 _ (p2 j h1 h2))⟩
  · rw [q.1 73 (by decide), q.1 71 (by decide)]; exact i.f
  · rw [q.2.1.1, q.2.1.2.1]; exact i.p.n
  · rw [q.2.1.2.1, q.1 52 (by decide), q.1 85 (by decide)]; exact i.p.b
  · rw [q.1 58 (by decide), q.1 90 (by decide)]; exact i.s.w
  · rw [q.1 59 (by decide), q.1 91 (by decide)]; exact i.s.z
  · rw [q.1 91 (by decide)]; exact i.s.n
  · rw [q.1 90 (by decide)]; exact i.s.v
  · rw [q.2.2 57 (by decide), q.2.2 92 (by decide)]; exact i.s.x
  · unfold scL; rw [q.2.2 95 (by decide)]; exact i.l

