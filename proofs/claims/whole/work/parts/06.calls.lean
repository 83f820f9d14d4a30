
/-! ===== calls ===== -/
def slV : List Value → List Value
  | [] => []
  | .long a :: vs => .long a :: .null :: slV vs
  | .double a :: vs => .double a :: .null :: slV vs
  | v :: vs => v :: slV vs
def entL (n : Nat) (vs : List Value) : List Value := slV vs ++ List.replicate (n - (slV vs).length) .null
theorem slV_cons (v : Value) (vs : List Value) : slV (v :: vs) = if v.category = 2 then v :: .null :: slV vs else v :: slV vs := by
  cases v <;> simp [slV, Value.category]
theorem lg_len {ad : Nat → Nat} {fm : Value} (hf : fm.category = 1) : ∀ vs : List Value, (lg_sl (vs.map (cv ad fm))).length = (slV vs).length
  | [] => rfl
  | v :: vs => by
    have ih := lg_len (ad := ad) hf vs
    rw [slV_cons, List.map_cons]
    simp only [lg_sl, List.flatMap_cons, List.length_append] at ih ⊢
    rw [cv_cat ad hf]
    split
    · simp only [List.length_cons, List.length_nil]; omega
    · simp only [List.length_cons, List.length_nil]; omega
theorem slV_args {ad : Nat → Nat} {fm : Value} (hf : fm.category = 1) : ∀ (vs : List Value) (i j : Nat) (w : Value), (slV vs)[j]? = some w → w ≠ .null → (i + j, cv ad fm w) ∈ lv_args i (vs.map (cv ad fm))
  | [], i, j, w, h, _ => by simp [slV] at h
  | v :: vs, i, j, w, h, hw => by
    rw [slV_cons] at h
    simp only [List.map_cons, lv_args]
    rw [cv_cat ad hf]
    split at h
    next hc =>
      rw [if_pos hc]
      match j, h with
      | 0, h => simp at h; subst h; exact List.mem_cons_self
      | 1, h => simp at h; exact absurd h.symm hw
      | j + 2, h =>
        simp at h
        have := slV_args (ad := ad) hf vs (i + 2) j w h hw
        rw [show i + (j + 2) = i + 2 + j by omega]
        exact List.mem_cons_of_mem _ this
    next hc =>
      rw [if_neg hc]
      match j, h with
      | 0, h => simp at h; subst h; exact List.mem_cons_self
      | j + 1, h =>
        simp at h
        have := slV_args (ad := ad) hf vs (i + 1) j w h hw
        rw [show i + (j + 1) = i + 1 + j by omega]
        exact List.mem_cons_of_mem _ this
theorem pr_ent {ad : Nat → Nat} {fm : Value} (hf : fm.category = 1) {n : Nat} {vs : List Value} : ∀ q ∈ pr ad fm (entL n vs), q ∈ lv_args 0 (vs.map (cv ad fm)) := by
  intro q hq
  obtain ⟨w, h1, h2, h3⟩ := pr_of hq
  obtain ⟨j, z⟩ := q
  simp only at h1 h3
  subst h3
  unfold entL at h1
  rw [List.getElem?_append] at h1
  split at h1
  · have := slV_args (ad := ad) hf vs 0 j w h1 h2
    rwa [Nat.zero_add] at this
  · rw [List.getElem?_replicate] at h1
    split at h1
    · cases h1; exact absurd rfl h2
    · cases h1
theorem entL_len {n : Nat} {vs : List Value} (h : (slV vs).length ≤ n) : (entL n vs).length = n := by
  unfold entL
  rw [List.length_append, List.length_replicate]
  omega
def Wd (ad : Nat → Nat) (D : va_G) (cI cJ cZ : ClassId) (A : Nat → Prop) (fm : Value) (xs : Nat → Int32) (L : Nat) (h : Hp) (U : State) : Prop := va_P D vwCl (wO ad cI cJ cZ h) U.heap ∧ va_D A (wO ad cI cJ cZ h) ∧ va_K D vwCl (tyz cI cJ cZ) U ∧ Sts ad fm xs L A U U.heap ∧ h.1 95 = xs ∧ h.2 95 0 = lN L ∧ L ≤ 3072
def Qf (ad : Nat → Nat) (D : va_G) (cI cJ cZ : ClassId) (A : Nat → Prop) (fm : Value) (xs : Nat → Int32) (L : Nat) (x : Option Value × Hp) : Array Value → State → Outcome → State → Prop := fun _ st o t => o = .returned (x.1.map (cv ad fm)) ∧ va_P D vwCl (wO ad cI cJ cZ x.2) t.heap ∧ va_D A (wO ad cI cJ cZ x.2) ∧ x.2.1 95 = xs ∧ x.2.2 95 0 = lN L ∧ va_F A st t
abbrev wsM (M : MD) : List Cond := Cond.code M.2.1 M.1 M.2.2.2.1 M.2.2.2.2.1 :: wall
abbrev rmM (M : MD) : Room := { frames := M.2.2.2.2.2.1, cells := 0, slots := 0, locals := M.2.2.2.2.2.2 }
set_option maxHeartbeats 1000000 in
theorem met_of {M : MD} {vs : List Value} {h : Hp} {x : Option Value × Hp} (hok : OKm M) (hlen : (slV vs).length ≤ M.2.2.2.1) (g : Gd M 0 (entL M.2.2.2.1 vs) [] h x) (l : Launch) (ad : Nat → Nat) (D : va_G) (cI cJ cZ : ClassId) (A : Nat → Prop) (fm : Value) (xs : Nat → Int32) (L : Nat) (hf : fm.category = 1) :
    Met l M.2.1 (wsM M) (rmM M) (va_Pc (vs.map (cv ad fm)) (Wd ad D cI cJ cZ A fm xs L h)) (Qf ad D cI cJ cZ A fm xs L x) 0 0 A := by
  refine Met.ofW (cc := M.1) (maxL := M.2.2.2.1) (ret := M.2.2.2.2.1) hok.2.2.1 rfl ?_
  intro p e s m args below meth c s₁ B hml hv
  obtain ⟨rfl, hP, hD, hK, hSt, hx1, hx2, hL⟩ := hv
  have hts := atoms_spec (ws := wsM M) B.pre
  have hown : s.vm.findClass M.2.1.cls = some m.cls := findClass_of_methodNamed B.named
  rw [hok.2.2.2.1] at hown
  have hl := lv_entry (vs.map (cv ad fm)) (n := M.2.2.2.1) (by rw [lg_len hf]; exact hlen)
  rw [lg_entry_eq]
  refine g l ad D cI cJ cZ A fm xs L p e _ s m _ below meth c 0 0 _ ⟨B.exec, B.bytes, hml, hown, fun w hw => hts w (List.mem_cons_of_mem _ hw), ⟨Nat.le_refl _, Nat.le_refl _⟩, hK, hSt, ⟨Nat.le_refl _, Nat.le_refl _⟩, hf⟩ ?_ s.heap [] _ ⟨hP, hD, va_S.rf, hx1, hx2, hL⟩ (lv_weak hl (pr_ent hf)) (entL_len hlen)
  intro H' locs' lsA' pc' hN hr
  obtain ⟨r, h1⟩ := x
  have hf2 : ∀ q ∈ locs', A q.base := hN.2.2.1.2.2
  have hq : ∀ t : State, t.heap = H' → s.WarmedH t.vm → Qf ad D cI cJ cZ A fm xs L (r, h1) (vs.map (cv ad fm)).toArray s (.returned (r.map (cv ad fm))) t := fun t ht _ => ⟨rfl, by rw [ht]; exact hN.1, hN.2.1, hN.2.2.2.1, hN.2.2.2.2.1, hN.2.2.1.F ht⟩
  cases r with
  | none => exact W.vret B.exec B.bytes (B.returns.trans hr.2) hq hf2 hr.1
  | some v =>
    cases v with
    | int v =>
      obtain ⟨hd, ty, h2, h3⟩ := hr
      exact W.zret B.exec B.bytes (B.returns.trans h2) h3 hq hf2 hd
    | long v => exact W.lret B.exec B.bytes (B.returns.trans hr.2) hq hf2 hr.1
    | _ => exact absurd hr id
theorem call_go {p : Program} {l : Launch} {e : Env} {R : Room} {s : State} {m : MethodId} {args : Array Value} {below : List Frame} {meth : Method} {c : Code} {H : Heap} {locs : List Loc} {cells slots : Nat} {Q : State → Prop} {pc : Nat} {lsA : Array Slot} {st0 rest : List Value} {a : Array Value} {ad : Nat → Nat} {D : va_G} {cI cJ cZ : ClassId} {A : Nat → Prop} {fm : Value} {xs : Nat → Int32} {L : Nat} {x : Option Value × Hp}
    (hr : va_Run p l e R s m args below meth c H locs cells slots 0 0 (F0 m pc lsA st0) rest (Qf ad D cI cJ cZ A fm xs L x a) A) (hS : va_S A s.heap H locs) (hL : L ≤ 3072)
    (kk : ∀ (H1 : Heap) (locs1 : List Loc), Cn ad D cI cJ cZ A xs L s x.2 H1 locs1 → W p l e R s m args below meth c H1 locs1 cells slots Q (F0 m (pc + 3) lsA ((x.1.map (cv ad fm)).toList ++ rest))) : W p l e R s m args below meth c H locs cells slots Q (F0 m pc lsA st0) := by
  intro T hT X
  obtain ⟨v, st₀, t, T', L', h0, X', hL', e1, e2, ⟨hv, hP, hD, hx1, hx2, hz, hk⟩, st⟩ := hr T hT X
  have hv2 : v = x.1.map (cv ad fm) := by injection hv
  subst hv2
  rw [h0] at hz hk
  obtain ⟨t2, a1, b1⟩ := kk T'.heap (locs ++ L') ⟨by rw [e1]; exact hP, hD, ⟨Nat.le_trans hS.1 (by rw [e1]; exact hz), fun q h1 h2 => by rw [e1, hk q (Nat.lt_of_lt_of_le h1 hS.1) h2]; exact hS.2.1 q h1 h2, fun q hq => by
      rcases List.mem_append.mp hq with h | h
      · exact hS.2.2 q h
      · exact hL' q h⟩, hx1, hx2, hL⟩ T' rfl X'
  exact ⟨t2, st t2 a1, b1⟩
theorem good_wall {ws : List Cond} (h : ∀ w ∈ ws, w ∈ wall) : GoodIn wall ws := fun w hw => ⟨h w hw, good_of_word (wall_good (h w hw))⟩
theorem Wd.blind {ad : Nat → Nat} {D : va_G} {cI cJ cZ : ClassId} {A : Nat → Prop} {fm : Value} {xs : Nat → Int32} {L : Nat} {h : Hp} {av : List Value} : FrameBlind (va_Pc av (Wd ad D cI cJ cZ A fm xs L h)) := by
  intro a U g mk q
  obtain ⟨q0, q1, q2, q3, q4, q5⟩ := q
  exact ⟨q0, q1, q2, va_K.moved (u := U) (U := U.calling g mk a) (Vm.Alike.refl U.vm) q3, Sts.same (u := U) rfl q4, q5⟩
def RCk (b : Nat) (C : String) : Prop := (∃ c T N, kd b = (3, c) ∧ vwCl[c]? = some (C, T, N)) ∨ ∃ j, j < 6 ∧ b = 100 + j ∧ C = "java/lang/String"
theorem RCk.ne {b : Nat} {C : String} (h : RCk b C) : b ≠ 120 := by
  rcases h with ⟨c, T, N, h1, -⟩ | ⟨j, h1, h2, -⟩
  · have := kd_lt h1 (by decide); omega
  · omega
section GC
variable {M : MD} {pc : Nat} {ls st : List Value} {h : Hp} {x : Option Value × Hp}
theorem opt_map (ad : Nat → Nat) (fm : Value) (o : Option Value) (st : List Value) : (o.toList ++ st).map (cv ad fm) = (o.map (cv ad fm)).toList ++ st.map (cv ad fm) := by
  cases o <;> simp
set_option maxHeartbeats 1000000 in
theorem gd_callV {i n b : Nat} {M' : MD} {vs : List Value} {y : Option Value × Hp} (hd : decode M.1 pc = .ok (.invokevirtual i, 3)) (hc : CVk M.2.2.1 i M' n) (hb : RCk b M'.2.1.cls) (hvn : vs.length = n) (hr : M'.2.2.2.2.2.1 + 1 ≤ M.2.2.2.2.2.1 ∧ 8 + (M'.2.2.2.1 + 11) + M'.2.2.2.2.2.2 ≤ M.2.2.2.2.2.2) (hst : (st.map fun v => v.category).sum ≤ 8) (hlen : (slV (.ref b :: vs)).length ≤ M'.2.2.2.1) (gc : Gd M' 0 (entL M'.2.2.2.1 (.ref b :: vs)) [] h y) (g : Gd M (pc + 3) ls (y.1.toList ++ st) y.2 x) : Gd M pc ls (vs.reverse ++ .ref b :: st) h x := by
  intro l ad D cI cJ cZ A fm xs L p e R s m args below meth c cells slots Q hC hR H locs lsA hN hl hn
  have hM := met_of hc.1 hlen gc l ad D cI cJ cZ A fm xs L hC.2.2.2.2.2.2.2.2.2
  obtain ⟨⟨k1, k2, k3, k4, k5⟩, k6, k7, k8, k9⟩ := hc
  have hrecv : ∃ cell : Cell, H[ad b]? = some cell ∧ cell.vm.isStatics = false ∧ s.vm.findClass M'.2.1.cls = some cell.cls := by
    rcases hb with ⟨c0, T, N, e1, e2⟩ | ⟨j, e1, e2, e3⟩
    · exact va_recv hC.2.2.2.2.2.2.1 hN.1 e2 (by rw [wO_get (kd_lt e1 (by decide)), enE_obj e1])
    · obtain ⟨-, -, -, -, -, -, c1, -⟩ := id hC.2.2.2.2.2.2.2.1
      rw [e2, e3]
      exact vk_recv (adK := fun i => ad (100 + i)) c1 e1 hN.2.2.1
  have cw := cwV (R := R) (own := cnm M.2.2.1) (index := i) (C := M'.2.1.cls) (y := M'.2.1) (bytes := M'.1) (maxL := M'.2.2.2.1) (ret := M'.2.2.2.2.1) (ws := wsM M') (ws' := wall) (rm := rmM M') (mc := 0) (ms := 0) n hC.2.2.2.2.1 (good_wall (fun w hw => by
    unfold wsV at hw
    simp only [List.cons_append, List.nil_append, List.mem_cons] at hw
    rcases hw with rfl | rfl | rfl | rfl | rfl | hw
    · exact k6
    · exact k7
    · exact k8
    · exact k5
    · exact k1
    · exact hw)) rfl rfl rfl ⟨rfl, k2.1, k2.2, k9⟩ ⟨Nat.le_trans hr.1 hC.2.2.2.2.2.1.1, Nat.le_trans hr.2 hC.2.2.2.2.2.1.2⟩
  have hrun := va_runV (As := vs.map (cv ad fm)) (rest := st.map (cv ad fm)) (g := F0 m pc lsA ((vs.reverse ++ .ref b :: st).map (cv ad fm))) (b := ad b) (cells := cells) (slots := slots) (H := H) (locs := locs) (e := e) (below := below) (meth := meth) ⟨hC.1, hC.2.1, hC.2.2.1, hC.2.2.2.1, hC.2.2.2.2.1⟩ hM cw ⟨Wd.blind, hrecv, fun U hU hW => ⟨by rw [List.map_cons, cv_ref hb.ne], by rw [hU]; exact hN.1, hN.2.1, va_K.moved hW.alike hC.2.2.2.2.2.2.1, Sts.go hN.2.2.1 hU hW hC.2.2.2.2.2.2.2.1, hN.2.2.2.1, hN.2.2.2.2.1, hN.2.2.2.2.2⟩⟩ rfl (by simp [hvn]) hl.1 (by simp [cv_ref hb.ne]) (lv_room (st_cat hC.2.2.2.2.2.2.2.2.2 hst)) hd ⟨hC.2.2.2.2.2.2.2.2.1.1, hC.2.2.2.2.2.2.2.2.1.2⟩
  refine call_go hrun hN.2.2.1 hN.2.2.2.2.2 (fun H1 locs1 hN1 => ?_)
  have g2 := g l ad D cI cJ cZ A fm xs L p e R s m args below meth c cells slots Q hC hR H1 locs1 lsA hN1 hl hn
  rw [opt_map] at g2
  exact g2
set_option maxHeartbeats 1000000 in
theorem gd_callS {i n : Nat} {M' : MD} {vs : List Value} {y : Option Value × Hp} (hd : decode M.1 pc = .ok (.invokestatic i, 3)) (hc : CSk M.2.2.1 i M' n) (hvn : vs.length = n) (hr : M'.2.2.2.2.2.1 + 1 ≤ M.2.2.2.2.2.1 ∧ 8 + (M'.2.2.2.1 + 11) + M'.2.2.2.2.2.2 ≤ M.2.2.2.2.2.2) (hst : (st.map fun v => v.category).sum ≤ 8) (hlen : (slV vs).length ≤ M'.2.2.2.1) (gc : Gd M' 0 (entL M'.2.2.2.1 vs) [] h y) (g : Gd M (pc + 3) ls (y.1.toList ++ st) y.2 x) : Gd M pc ls (vs.reverse ++ st) h x := by
  intro l ad D cI cJ cZ A fm xs L p e R s m args below meth c cells slots Q hC hR H locs lsA hN hl hn
  have hM := met_of hc.1 hlen gc l ad D cI cJ cZ A fm xs L hC.2.2.2.2.2.2.2.2.2
  obtain ⟨⟨k1, k2, k3, k4, k5⟩, k6, k7, k9⟩ := hc
  have cw := va_cwS (R := R) (own := cnm M.2.2.1) (index := i) (y := M'.2.1) (bytes := M'.1) (maxL := M'.2.2.2.1) (ret := M'.2.2.2.2.1) (ws := wsM M') (ws' := wall) (rm := rmM M') (mc := 0) (ms := 0) n hC.2.2.2.2.1 (good_wall (fun w hw => by
    unfold va_wsS at hw
    simp only [List.cons_append, List.nil_append, List.mem_cons] at hw
    rcases hw with rfl | rfl | rfl | rfl | hw
    · exact k6
    · exact k7
    · exact k5
    · exact k1
    · exact hw)) rfl rfl rfl ⟨k2.1, k2.2, k9⟩ ⟨Nat.le_trans hr.1 hC.2.2.2.2.2.1.1, Nat.le_trans hr.2 hC.2.2.2.2.2.1.2⟩
  have hrun := va_runS (As := vs.map (cv ad fm)) (rest := st.map (cv ad fm)) (g := F0 m pc lsA ((vs.reverse ++ st).map (cv ad fm))) (cells := cells) (slots := slots) (H := H) (locs := locs) (e := e) (below := below) (meth := meth) ⟨hC.1, hC.2.1, hC.2.2.1, hC.2.2.2.1, hC.2.2.2.2.1⟩ hM cw ⟨Wd.blind, fun U hU hW => ⟨rfl, by rw [hU]; exact hN.1, hN.2.1, va_K.moved hW.alike hC.2.2.2.2.2.2.1, Sts.go hN.2.2.1 hU hW hC.2.2.2.2.2.2.2.1, hN.2.2.2.1, hN.2.2.2.2.1, hN.2.2.2.2.2⟩⟩ rfl (by simp [hvn]) hl.1 (by simp) (lv_room (st_cat hC.2.2.2.2.2.2.2.2.2 hst)) hd ⟨hC.2.2.2.2.2.2.2.2.1.1, hC.2.2.2.2.2.2.2.2.1.2⟩
  refine call_go hrun hN.2.2.1 hN.2.2.2.2.2 (fun H1 locs1 hN1 => ?_)
  have g2 := g l ad D cI cJ cZ A fm xs L p e R s m args below meth c cells slots Q hC hR H1 locs1 lsA hN1 hl hn
  rw [opt_map] at g2
  exact g2
set_option maxHeartbeats 1000000 in
theorem gd_callN {i n : Nat} {M' : MD} {vs : List Value} {y : Option Value × Hp} (hd : decode M.1 pc = .ok (.invokestatic i, 3)) (hc : CNk M' n) (hvn : vs.length = n) (hnest : ∀ (ad : Nat → Nat) (fm : Value) (xs : Nat → Int32) (L : Nat) (A : Nat → Prop) (U : State) (H : Heap), Sts ad fm xs L A U H → va_Nw (.methodLinkNest (cnm M.2.2.1) i M'.2.1 "ShakeLetters") U) (hr : M'.2.2.2.2.2.1 + 1 ≤ M.2.2.2.2.2.1 ∧ 8 + (M'.2.2.2.1 + 11) + M'.2.2.2.2.2.2 ≤ M.2.2.2.2.2.2) (hst : (st.map fun v => v.category).sum ≤ 8) (hlen : (slV vs).length ≤ M'.2.2.2.1) (gc : Gd M' 0 (entL M'.2.2.2.1 vs) [] h y) (g : Gd M (pc + 3) ls (y.1.toList ++ st) y.2 x) : Gd M pc ls (vs.reverse ++ st) h x := by
  intro l ad D cI cJ cZ A fm xs L p e R s m args below meth c cells slots Q hC hR H locs lsA hN hl hn
  have hM := met_of hc.1 hlen gc l ad D cI cJ cZ A fm xs L hC.2.2.2.2.2.2.2.2.2
  obtain ⟨⟨k1, k2, k3, k4, k5⟩, k7, k9⟩ := hc
  have cw := va_cnB (R := R) (own := cnm M.2.2.1) (host := "ShakeLetters") (index := i) (y := M'.2.1) (bytes := M'.1) (maxL := M'.2.2.2.1) (ret := M'.2.2.2.2.1) (ws := wsM M') (ws' := wall) (rm := rmM M') (mc := 0) (ms := 0) n hC.2.2.2.2.1 (good_wall (fun w hw => by
    simp only [List.mem_cons] at hw
    rcases hw with rfl | hw
    · exact k1
    · exact hw)) rfl rfl rfl (hnest _ _ _ _ _ _ _ hC.2.2.2.2.2.2.2.1) (hC.2.2.2.2.1 _ k5) ⟨k2.1, k2.2, k9⟩ ⟨Nat.le_trans hr.1 hC.2.2.2.2.2.1.1, Nat.le_trans hr.2 hC.2.2.2.2.2.1.2⟩
  have hrun := va_runSN (As := vs.map (cv ad fm)) (rest := st.map (cv ad fm)) (g := F0 m pc lsA ((vs.reverse ++ st).map (cv ad fm))) (cells := cells) (slots := slots) (H := H) (locs := locs) (e := e) (below := below) (meth := meth) ⟨hC.1, hC.2.1, hC.2.2.1, hC.2.2.2.1, hC.2.2.2.2.1⟩ hM ⟨cw, hC.2.2.2.2.1 _ k7, trivial⟩ ⟨Wd.blind, fun U hU hW => ⟨rfl, by rw [hU]; exact hN.1, hN.2.1, va_K.moved hW.alike hC.2.2.2.2.2.2.1, Sts.go hN.2.2.1 hU hW hC.2.2.2.2.2.2.2.1, hN.2.2.2.1, hN.2.2.2.2.1, hN.2.2.2.2.2⟩⟩ rfl (by simp [hvn]) hl.1 (by simp) (lv_room (st_cat hC.2.2.2.2.2.2.2.2.2 hst)) hd ⟨hC.2.2.2.2.2.2.2.2.1.1, hC.2.2.2.2.2.2.2.2.1.2⟩
  refine call_go hrun hN.2.2.1 hN.2.2.2.2.2 (fun H1 locs1 hN1 => ?_)
  have g2 := g l ad D cI cJ cZ A fm xs L p e R s m args below meth c cells slots Q hC hR H1 locs1 lsA hN1 hl hn
  rw [opt_map] at g2
  exact g2

theorem gd_cV0i {i b : Nat} {M' : MD} {v : Int32} {h1 : Hp} (hd : decode M.1 pc = .ok (.invokevirtual i, 3)) (hc : CVk M.2.2.1 i M' 0) (hb : RCk b M'.2.1.cls) (hr : M'.2.2.2.2.2.1 + 1 ≤ M.2.2.2.2.2.1 ∧ 8 + (M'.2.2.2.1 + 11) + M'.2.2.2.2.2.2 ≤ M.2.2.2.2.2.2) (hst : (st.map fun v => v.category).sum ≤ 8) (hlen : (slV [.ref b]).length ≤ M'.2.2.2.1) (gc : Gd M' 0 (entL M'.2.2.2.1 [.ref b]) [] h (some (.int v), h1)) (g : Gd M (pc + 3) ls (.int v :: st) h1 x) : Gd M pc ls (.ref b :: st) h x := gd_callV (vs := []) hd hc hb rfl hr hst hlen gc g
theorem gd_cV0l {i b : Nat} {M' : MD} {v : Int64} {h1 : Hp} (hd : decode M.1 pc = .ok (.invokevirtual i, 3)) (hc : CVk M.2.2.1 i M' 0) (hb : RCk b M'.2.1.cls) (hr : M'.2.2.2.2.2.1 + 1 ≤ M.2.2.2.2.2.1 ∧ 8 + (M'.2.2.2.1 + 11) + M'.2.2.2.2.2.2 ≤ M.2.2.2.2.2.2) (hst : (st.map fun v => v.category).sum ≤ 8) (hlen : (slV [.ref b]).length ≤ M'.2.2.2.1) (gc : Gd M' 0 (entL M'.2.2.2.1 [.ref b]) [] h (some (.long v), h1)) (g : Gd M (pc + 3) ls (.long v :: st) h1 x) : Gd M pc ls (.ref b :: st) h x := gd_callV (vs := []) hd hc hb rfl hr hst hlen gc g
theorem gd_cV0v {i b : Nat} {M' : MD} {h1 : Hp} (hd : decode M.1 pc = .ok (.invokevirtual i, 3)) (hc : CVk M.2.2.1 i M' 0) (hb : RCk b M'.2.1.cls) (hr : M'.2.2.2.2.2.1 + 1 ≤ M.2.2.2.2.2.1 ∧ 8 + (M'.2.2.2.1 + 11) + M'.2.2.2.2.2.2 ≤ M.2.2.2.2.2.2) (hst : (st.map fun v => v.category).sum ≤ 8) (hlen : (slV [.ref b]).length ≤ M'.2.2.2.1) (gc : Gd M' 0 (entL M'.2.2.2.1 [.ref b]) [] h (none, h1)) (g : Gd M (pc + 3) ls st h1 x) : Gd M pc ls (.ref b :: st) h x := gd_callV (vs := []) hd hc hb rfl hr hst hlen gc g
theorem gd_cV1i {i b : Nat} {M' : MD} {a1 : Value} {v : Int32} {h1 : Hp} (hd : decode M.1 pc = .ok (.invokevirtual i, 3)) (hc : CVk M.2.2.1 i M' 1) (hb : RCk b M'.2.1.cls) (hr : M'.2.2.2.2.2.1 + 1 ≤ M.2.2.2.2.2.1 ∧ 8 + (M'.2.2.2.1 + 11) + M'.2.2.2.2.2.2 ≤ M.2.2.2.2.2.2) (hst : (st.map fun v => v.category).sum ≤ 8) (hlen : (slV [.ref b, a1]).length ≤ M'.2.2.2.1) (gc : Gd M' 0 (entL M'.2.2.2.1 [.ref b, a1]) [] h (some (.int v), h1)) (g : Gd M (pc + 3) ls (.int v :: st) h1 x) : Gd M pc ls (a1 :: .ref b :: st) h x := gd_callV (vs := [a1]) hd hc hb rfl hr hst hlen gc g
theorem gd_cS1i {i : Nat} {M' : MD} {a1 : Value} {v : Int32} {h1 : Hp} (hd : decode M.1 pc = .ok (.invokestatic i, 3)) (hc : CSk M.2.2.1 i M' 1) (hr : M'.2.2.2.2.2.1 + 1 ≤ M.2.2.2.2.2.1 ∧ 8 + (M'.2.2.2.1 + 11) + M'.2.2.2.2.2.2 ≤ M.2.2.2.2.2.2) (hst : (st.map fun v => v.category).sum ≤ 8) (hlen : (slV [a1]).length ≤ M'.2.2.2.1) (gc : Gd M' 0 (entL M'.2.2.2.1 [a1]) [] h (some (.int v), h1)) (g : Gd M (pc + 3) ls (.int v :: st) h1 x) : Gd M pc ls (a1 :: st) h x := gd_callS (vs := [a1]) hd hc rfl hr hst hlen gc g
theorem gd_cV1l {i b : Nat} {M' : MD} {a1 : Value} {v : Int64} {h1 : Hp} (hd : decode M.1 pc = .ok (.invokevirtual i, 3)) (hc : CVk M.2.2.1 i M' 1) (hb : RCk b M'.2.1.cls) (hr : M'.2.2.2.2.2.1 + 1 ≤ M.2.2.2.2.2.1 ∧ 8 + (M'.2.2.2.1 + 11) + M'.2.2.2.2.2.2 ≤ M.2.2.2.2.2.2) (hst : (st.map fun v => v.category).sum ≤ 8) (hlen : (slV [.ref b, a1]).length ≤ M'.2.2.2.1) (gc : Gd M' 0 (entL M'.2.2.2.1 [.ref b, a1]) [] h (some (.long v), h1)) (g : Gd M (pc + 3) ls (.long v :: st) h1 x) : Gd M pc ls (a1 :: .ref b :: st) h x := gd_callV (vs := [a1]) hd hc hb rfl hr hst hlen gc g
theorem gd_cS1l {i : Nat} {M' : MD} {a1 : Value} {v : Int64} {h1 : Hp} (hd : decode M.1 pc = .ok (.invokestatic i, 3)) (hc : CSk M.2.2.1 i M' 1) (hr : M'.2.2.2.2.2.1 + 1 ≤ M.2.2.2.2.2.1 ∧ 8 + (M'.2.2.2.1 + 11) + M'.2.2.2.2.2.2 ≤ M.2.2.2.2.2.2) (hst : (st.map fun v => v.category).sum ≤ 8) (hlen : (slV [a1]).length ≤ M'.2.2.2.1) (gc : Gd M' 0 (entL M'.2.2.2.1 [a1]) [] h (some (.long v), h1)) (g : Gd M (pc + 3) ls (.long v :: st) h1 x) : Gd M pc ls (a1 :: st) h x := gd_callS (vs := [a1]) hd hc rfl hr hst hlen gc g
theorem gd_cV1v {i b : Nat} {M' : MD} {a1 : Value} {h1 : Hp} (hd : decode M.1 pc = .ok (.invokevirtual i, 3)) (hc : CVk M.2.2.1 i M' 1) (hb : RCk b M'.2.1.cls) (hr : M'.2.2.2.2.2.1 + 1 ≤ M.2.2.2.2.2.1 ∧ 8 + (M'.2.2.2.1 + 11) + M'.2.2.2.2.2.2 ≤ M.2.2.2.2.2.2) (hst : (st.map fun v => v.category).sum ≤ 8) (hlen : (slV [.ref b, a1]).length ≤ M'.2.2.2.1) (gc : Gd M' 0 (entL M'.2.2.2.1 [.ref b, a1]) [] h (none, h1)) (g : Gd M (pc + 3) ls st h1 x) : Gd M pc ls (a1 :: .ref b :: st) h x := gd_callV (vs := [a1]) hd hc hb rfl hr hst hlen gc g
theorem gd_cS1v {i : Nat} {M' : MD} {a1 : Value} {h1 : Hp} (hd : decode M.1 pc = .ok (.invokestatic i, 3)) (hc : CSk M.2.2.1 i M' 1) (hr : M'.2.2.2.2.2.1 + 1 ≤ M.2.2.2.2.2.1 ∧ 8 + (M'.2.2.2.1 + 11) + M'.2.2.2.2.2.2 ≤ M.2.2.2.2.2.2) (hst : (st.map fun v => v.category).sum ≤ 8) (hlen : (slV [a1]).length ≤ M'.2.2.2.1) (gc : Gd M' 0 (entL M'.2.2.2.1 [a1]) [] h (none, h1)) (g : Gd M (pc + 3) ls st h1 x) : Gd M pc ls (a1 :: st) h x := gd_callS (vs := [a1]) hd hc rfl hr hst hlen gc g
theorem gd_cV2i {i b : Nat} {M' : MD} {a1 a2 : Value} {v : Int32} {h1 : Hp} (hd : decode M.1 pc = .ok (.invokevirtual i, 3)) (hc : CVk M.2.2.1 i M' 2) (hb : RCk b M'.2.1.cls) (hr : M'.2.2.2.2.2.1 + 1 ≤ M.2.2.2.2.2.1 ∧ 8 + (M'.2.2.2.1 + 11) + M'.2.2.2.2.2.2 ≤ M.2.2.2.2.2.2) (hst : (st.map fun v => v.category).sum ≤ 8) (hlen : (slV [.ref b, a1, a2]).length ≤ M'.2.2.2.1) (gc : Gd M' 0 (entL M'.2.2.2.1 [.ref b, a1, a2]) [] h (some (.int v), h1)) (g : Gd M (pc + 3) ls (.int v :: st) h1 x) : Gd M pc ls (a2 :: a1 :: .ref b :: st) h x := gd_callV (vs := [a1, a2]) hd hc hb rfl hr hst hlen gc g
theorem gd_cS2i {i : Nat} {M' : MD} {a1 a2 : Value} {v : Int32} {h1 : Hp} (hd : decode M.1 pc = .ok (.invokestatic i, 3)) (hc : CSk M.2.2.1 i M' 2) (hr : M'.2.2.2.2.2.1 + 1 ≤ M.2.2.2.2.2.1 ∧ 8 + (M'.2.2.2.1 + 11) + M'.2.2.2.2.2.2 ≤ M.2.2.2.2.2.2) (hst : (st.map fun v => v.category).sum ≤ 8) (hlen : (slV [a1, a2]).length ≤ M'.2.2.2.1) (gc : Gd M' 0 (entL M'.2.2.2.1 [a1, a2]) [] h (some (.int v), h1)) (g : Gd M (pc + 3) ls (.int v :: st) h1 x) : Gd M pc ls (a2 :: a1 :: st) h x := gd_callS (vs := [a1, a2]) hd hc rfl hr hst hlen gc g
theorem gd_cV2l {i b : Nat} {M' : MD} {a1 a2 : Value} {v : Int64} {h1 : Hp} (hd : decode M.1 pc = .ok (.invokevirtual i, 3)) (hc : CVk M.2.2.1 i M' 2) (hb : RCk b M'.2.1.cls) (hr : M'.2.2.2.2.2.1 + 1 ≤ M.2.2.2.2.2.1 ∧ 8 + (M'.2.2.2.1 + 11) + M'.2.2.2.2.2.2 ≤ M.2.2.2.2.2.2) (hst : (st.map fun v => v.category).sum ≤ 8) (hlen : (slV [.ref b, a1, a2]).length ≤ M'.2.2.2.1) (gc : Gd M' 0 (entL M'.2.2.2.1 [.ref b, a1, a2]) [] h (some (.long v), h1)) (g : Gd M (pc + 3) ls (.long v :: st) h1 x) : Gd M pc ls (a2 :: a1 :: .ref b :: st) h x := gd_callV (vs := [a1, a2]) hd hc hb rfl hr hst hlen gc g
theorem gd_cS2l {i : Nat} {M' : MD} {a1 a2 : Value} {v : Int64} {h1 : Hp} (hd : decode M.1 pc = .ok (.invokestatic i, 3)) (hc : CSk M.2.2.1 i M' 2) (hr : M'.2.2.2.2.2.1 + 1 ≤ M.2.2.2.2.2.1 ∧ 8 + (M'.2.2.2.1 + 11) + M'.2.2.2.2.2.2 ≤ M.2.2.2.2.2.2) (hst : (st.map fun v => v.category).sum ≤ 8) (hlen : (slV [a1, a2]).length ≤ M'.2.2.2.1) (gc : Gd M' 0 (entL M'.2.2.2.1 [a1, a2]) [] h (some (.long v), h1)) (g : Gd M (pc + 3) ls (.long v :: st) h1 x) : Gd M pc ls (a2 :: a1 :: st) h x := gd_callS (vs := [a1, a2]) hd hc rfl hr hst hlen gc g
theorem gd_cV2v {i b : Nat} {M' : MD} {a1 a2 : Value} {h1 : Hp} (hd : decode M.1 pc = .ok (.invokevirtual i, 3)) (hc : CVk M.2.2.1 i M' 2) (hb : RCk b M'.2.1.cls) (hr : M'.2.2.2.2.2.1 + 1 ≤ M.2.2.2.2.2.1 ∧ 8 + (M'.2.2.2.1 + 11) + M'.2.2.2.2.2.2 ≤ M.2.2.2.2.2.2) (hst : (st.map fun v => v.category).sum ≤ 8) (hlen : (slV [.ref b, a1, a2]).length ≤ M'.2.2.2.1) (gc : Gd M' 0 (entL M'.2.2.2.1 [.ref b, a1, a2]) [] h (none, h1)) (g : Gd M (pc + 3) ls st h1 x) : Gd M pc ls (a2 :: a1 :: .ref b :: st) h x := gd_callV (vs := [a1, a2]) hd hc hb rfl hr hst hlen gc g
theorem gd_cS2v {i : Nat} {M' : MD} {a1 a2 : Value} {h1 : Hp} (hd : decode M.1 pc = .ok (.invokestatic i, 3)) (hc : CSk M.2.2.1 i M' 2) (hr : M'.2.2.2.2.2.1 + 1 ≤ M.2.2.2.2.2.1 ∧ 8 + (M'.2.2.2.1 + 11) + M'.2.2.2.2.2.2 ≤ M.2.2.2.2.2.2) (hst : (st.map fun v => v.category).sum ≤ 8) (hlen : (slV [a1, a2]).length ≤ M'.2.2.2.1) (gc : Gd M' 0 (entL M'.2.2.2.1 [a1, a2]) [] h (none, h1)) (g : Gd M (pc + 3) ls st h1 x) : Gd M pc ls (a2 :: a1 :: st) h x := gd_callS (vs := [a1, a2]) hd hc rfl hr hst hlen gc g
theorem gd_cV3i {i b : Nat} {M' : MD} {a1 a2 a3 : Value} {v : Int32} {h1 : Hp} (hd : decode M.1 pc = .ok (.invokevirtual i, 3)) (hc : CVk M.2.2.1 i M' 3) (hb : RCk b M'.2.1.cls) (hr : M'.2.2.2.2.2.1 + 1 ≤ M.2.2.2.2.2.1 ∧ 8 + (M'.2.2.2.1 + 11) + M'.2.2.2.2.2.2 ≤ M.2.2.2.2.2.2) (hst : (st.map fun v => v.category).sum ≤ 8) (hlen : (slV [.ref b, a1, a2, a3]).length ≤ M'.2.2.2.1) (gc : Gd M' 0 (entL M'.2.2.2.1 [.ref b, a1, a2, a3]) [] h (some (.int v), h1)) (g : Gd M (pc + 3) ls (.int v :: st) h1 x) : Gd M pc ls (a3 :: a2 :: a1 :: .ref b :: st) h x := gd_callV (vs := [a1, a2, a3]) hd hc hb rfl hr hst hlen gc g
theorem gd_cS3i {i : Nat} {M' : MD} {a1 a2 a3 : Value} {v : Int32} {h1 : Hp} (hd : decode M.1 pc = .ok (.invokestatic i, 3)) (hc : CSk M.2.2.1 i M' 3) (hr : M'.2.2.2.2.2.1 + 1 ≤ M.2.2.2.2.2.1 ∧ 8 + (M'.2.2.2.1 + 11) + M'.2.2.2.2.2.2 ≤ M.2.2.2.2.2.2) (hst : (st.map fun v => v.category).sum ≤ 8) (hlen : (slV [a1, a2, a3]).length ≤ M'.2.2.2.1) (gc : Gd M' 0 (entL M'.2.2.2.1 [a1, a2, a3]) [] h (some (.int v), h1)) (g : Gd M (pc + 3) ls (.int v :: st) h1 x) : Gd M pc ls (a3 :: a2 :: a1 :: st) h x := gd_callS (vs := [a1, a2, a3]) hd hc rfl hr hst hlen gc g
theorem gd_cV3l {i b : Nat} {M' : MD} {a1 a2 a3 : Value} {v : Int64} {h1 : Hp} (hd : decode M.1 pc = .ok (.invokevirtual i, 3)) (hc : CVk M.2.2.1 i M' 3) (hb : RCk b M'.2.1.cls) (hr : M'.2.2.2.2.2.1 + 1 ≤ M.2.2.2.2.2.1 ∧ 8 + (M'.2.2.2.1 + 11) + M'.2.2.2.2.2.2 ≤ M.2.2.2.2.2.2) (hst : (st.map fun v => v.category).sum ≤ 8) (hlen : (slV [.ref b, a1, a2, a3]).length ≤ M'.2.2.2.1) (gc : Gd M' 0 (entL M'.2.2.2.1 [.ref b, a1, a2, a3]) [] h (some (.long v), h1)) (g : Gd M (pc + 3) ls (.long v :: st) h1 x) : Gd M pc ls (a3 :: a2 :: a1 :: .ref b :: st) h x := gd_callV (vs := [a1, a2, a3]) hd hc hb rfl hr hst hlen gc g
theorem gd_cS3l {i : Nat} {M' : MD} {a1 a2 a3 : Value} {v : Int64} {h1 : Hp} (hd : decode M.1 pc = .ok (.invokestatic i, 3)) (hc : CSk M.2.2.1 i M' 3) (hr : M'.2.2.2.2.2.1 + 1 ≤ M.2.2.2.2.2.1 ∧ 8 + (M'.2.2.2.1 + 11) + M'.2.2.2.2.2.2 ≤ M.2.2.2.2.2.2) (hst : (st.map fun v => v.category).sum ≤ 8) (hlen : (slV [a1, a2, a3]).length ≤ M'.2.2.2.1) (gc : Gd M' 0 (entL M'.2.2.2.1 [a1, a2, a3]) [] h (some (.long v), h1)) (g : Gd M (pc + 3) ls (.long v :: st) h1 x) : Gd M pc ls (a3 :: a2 :: a1 :: st) h x := gd_callS (vs := [a1, a2, a3]) hd hc rfl hr hst hlen gc g
theorem gd_cV3v {i b : Nat} {M' : MD} {a1 a2 a3 : Value} {h1 : Hp} (hd : decode M.1 pc = .ok (.invokevirtual i, 3)) (hc : CVk M.2.2.1 i M' 3) (hb : RCk b M'.2.1.cls) (hr : M'.2.2.2.2.2.1 + 1 ≤ M.2.2.2.2.2.1 ∧ 8 + (M'.2.2.2.1 + 11) + M'.2.2.2.2.2.2 ≤ M.2.2.2.2.2.2) (hst : (st.map fun v => v.category).sum ≤ 8) (hlen : (slV [.ref b, a1, a2, a3]).length ≤ M'.2.2.2.1) (gc : Gd M' 0 (entL M'.2.2.2.1 [.ref b, a1, a2, a3]) [] h (none, h1)) (g : Gd M (pc + 3) ls st h1 x) : Gd M pc ls (a3 :: a2 :: a1 :: .ref b :: st) h x := gd_callV (vs := [a1, a2, a3]) hd hc hb rfl hr hst hlen gc g
theorem gd_cS3v {i : Nat} {M' : MD} {a1 a2 a3 : Value} {h1 : Hp} (hd : decode M.1 pc = .ok (.invokestatic i, 3)) (hc : CSk M.2.2.1 i M' 3) (hr : M'.2.2.2.2.2.1 + 1 ≤ M.2.2.2.2.2.1 ∧ 8 + (M'.2.2.2.1 + 11) + M'.2.2.2.2.2.2 ≤ M.2.2.2.2.2.2) (hst : (st.map fun v => v.category).sum ≤ 8) (hlen : (slV [a1, a2, a3]).length ≤ M'.2.2.2.1) (gc : Gd M' 0 (entL M'.2.2.2.1 [a1, a2, a3]) [] h (none, h1)) (g : Gd M (pc + 3) ls st h1 x) : Gd M pc ls (a3 :: a2 :: a1 :: st) h x := gd_callS (vs := [a1, a2, a3]) hd hc rfl hr hst hlen gc g
theorem gd_cV4i {i b : Nat} {M' : MD} {a1 a2 a3 a4 : Value} {v : Int32} {h1 : Hp} (hd : decode M.1 pc = .ok (.invokevirtual i, 3)) (hc : CVk M.2.2.1 i M' 4) (hb : RCk b M'.2.1.cls) (hr : M'.2.2.2.2.2.1 + 1 ≤ M.2.2.2.2.2.1 ∧ 8 + (M'.2.2.2.1 + 11) + M'.2.2.2.2.2.2 ≤ M.2.2.2.2.2.2) (hst : (st.map fun v => v.category).sum ≤ 8) (hlen : (slV [.ref b, a1, a2, a3, a4]).length ≤ M'.2.2.2.1) (gc : Gd M' 0 (entL M'.2.2.2.1 [.ref b, a1, a2, a3, a4]) [] h (some (.int v), h1)) (g : Gd M (pc + 3) ls (.int v :: st) h1 x) : Gd M pc ls (a4 :: a3 :: a2 :: a1 :: .ref b :: st) h x := gd_callV (vs := [a1, a2, a3, a4]) hd hc hb rfl hr hst hlen gc g
theorem gd_cS4i {i : Nat} {M' : MD} {a1 a2 a3 a4 : Value} {v : Int32} {h1 : Hp} (hd : decode M.1 pc = .ok (.invokestatic i, 3)) (hc : CSk M.2.2.1 i M' 4) (hr : M'.2.2.2.2.2.1 + 1 ≤ M.2.2.2.2.2.1 ∧ 8 + (M'.2.2.2.1 + 11) + M'.2.2.2.2.2.2 ≤ M.2.2.2.2.2.2) (hst : (st.map fun v => v.category).sum ≤ 8) (hlen : (slV [a1, a2, a3, a4]).length ≤ M'.2.2.2.1) (gc : Gd M' 0 (entL M'.2.2.2.1 [a1, a2, a3, a4]) [] h (some (.int v), h1)) (g : Gd M (pc + 3) ls (.int v :: st) h1 x) : Gd M pc ls (a4 :: a3 :: a2 :: a1 :: st) h x := gd_callS (vs := [a1, a2, a3, a4]) hd hc rfl hr hst hlen gc g
theorem gd_cV4l {i b : Nat} {M' : MD} {a1 a2 a3 a4 : Value} {v : Int64} {h1 : Hp} (hd : decode M.1 pc = .ok (.invokevirtual i, 3)) (hc : CVk M.2.2.1 i M' 4) (hb : RCk b M'.2.1.cls) (hr : M'.2.2.2.2.2.1 + 1 ≤ M.2.2.2.2.2.1 ∧ 8 + (M'.2.2.2.1 + 11) + M'.2.2.2.2.2.2 ≤ M.2.2.2.2.2.2) (hst : (st.map fun v => v.category).sum ≤ 8) (hlen : (slV [.ref b, a1, a2, a3, a4]).length ≤ M'.2.2.2.1) (gc : Gd M' 0 (entL M'.2.2.2.1 [.ref b, a1, a2, a3, a4]) [] h (some (.long v), h1)) (g : Gd M (pc + 3) ls (.long v :: st) h1 x) : Gd M pc ls (a4 :: a3 :: a2 :: a1 :: .ref b :: st) h x := gd_callV (vs := [a1, a2, a3, a4]) hd hc hb rfl hr hst hlen gc g
theorem gd_cS4l {i : Nat} {M' : MD} {a1 a2 a3 a4 : Value} {v : Int64} {h1 : Hp} (hd : decode M.1 pc = .ok (.invokestatic i, 3)) (hc : CSk M.2.2.1 i M' 4) (hr : M'.2.2.2.2.2.1 + 1 ≤ M.2.2.2.2.2.1 ∧ 8 + (M'.2.2.2.1 + 11) + M'.2.2.2.2.2.2 ≤ M.2.2.2.2.2.2) (hst : (st.map fun v => v.category).sum ≤ 8) (hlen : (slV [a1, a2, a3, a4]).length ≤ M'.2.2.2.1) (gc : Gd M' 0 (entL M'.2.2.2.1 [a1, a2, a3, a4]) [] h (some (.long v), h1)) (g : Gd M (pc + 3) ls (.long v :: st) h1 x) : Gd M pc ls (a4 :: a3 :: a2 :: a1 :: st) h x := gd_callS (vs := [a1, a2, a3, a4]) hd hc rfl hr hst hlen gc g
theorem gd_cV4v {i b : Nat} {M' : MD} {a1 a2 a3 a4 : Value} {h1 : Hp} (hd : decode M.1 pc = .ok (.invokevirtual i, 3)) (hc : CVk M.2.2.1 i M' 4) (hb : RCk b M'.2.1.cls) (hr : M'.2.2.2.2.2.1 + 1 ≤ M.2.2.2.2.2.1 ∧ 8 + (M'.2.2.2.1 + 11) + M'.2.2.2.2.2.2 ≤ M.2.2.2.2.2.2) (hst : (st.map fun v => v.category).sum ≤ 8) (hlen : (slV [.ref b, a1, a2, a3, a4]).length ≤ M'.2.2.2.1) (gc : Gd M' 0 (entL M'.2.2.2.1 [.ref b, a1, a2, a3, a4]) [] h (none, h1)) (g : Gd M (pc + 3) ls st h1 x) : Gd M pc ls (a4 :: a3 :: a2 :: a1 :: .ref b :: st) h x := gd_callV (vs := [a1, a2, a3, a4]) hd hc hb rfl hr hst hlen gc g
theorem gd_cS4v {i : Nat} {M' : MD} {a1 a2 a3 a4 : Value} {h1 : Hp} (hd : decode M.1 pc = .ok (.invokestatic i, 3)) (hc : CSk M.2.2.1 i M' 4) (hr : M'.2.2.2.2.2.1 + 1 ≤ M.2.2.2.2.2.1 ∧ 8 + (M'.2.2.2.1 + 11) + M'.2.2.2.2.2.2 ≤ M.2.2.2.2.2.2) (hst : (st.map fun v => v.category).sum ≤ 8) (hlen : (slV [a1, a2, a3, a4]).length ≤ M'.2.2.2.1) (gc : Gd M' 0 (entL M'.2.2.2.1 [a1, a2, a3, a4]) [] h (none, h1)) (g : Gd M (pc + 3) ls st h1 x) : Gd M pc ls (a4 :: a3 :: a2 :: a1 :: st) h x := gd_callS (vs := [a1, a2, a3, a4]) hd hc rfl hr hst hlen gc g
theorem gd_cV5i {i b : Nat} {M' : MD} {a1 a2 a3 a4 a5 : Value} {v : Int32} {h1 : Hp} (hd : decode M.1 pc = .ok (.invokevirtual i, 3)) (hc : CVk M.2.2.1 i M' 5) (hb : RCk b M'.2.1.cls) (hr : M'.2.2.2.2.2.1 + 1 ≤ M.2.2.2.2.2.1 ∧ 8 + (M'.2.2.2.1 + 11) + M'.2.2.2.2.2.2 ≤ M.2.2.2.2.2.2) (hst : (st.map fun v => v.category).sum ≤ 8) (hlen : (slV [.ref b, a1, a2, a3, a4, a5]).length ≤ M'.2.2.2.1) (gc : Gd M' 0 (entL M'.2.2.2.1 [.ref b, a1, a2, a3, a4, a5]) [] h (some (.int v), h1)) (g : Gd M (pc + 3) ls (.int v :: st) h1 x) : Gd M pc ls (a5 :: a4 :: a3 :: a2 :: a1 :: .ref b :: st) h x := gd_callV (vs := [a1, a2, a3, a4, a5]) hd hc hb rfl hr hst hlen gc g
theorem gd_cS5i {i : Nat} {M' : MD} {a1 a2 a3 a4 a5 : Value} {v : Int32} {h1 : Hp} (hd : decode M.1 pc = .ok (.invokestatic i, 3)) (hc : CSk M.2.2.1 i M' 5) (hr : M'.2.2.2.2.2.1 + 1 ≤ M.2.2.2.2.2.1 ∧ 8 + (M'.2.2.2.1 + 11) + M'.2.2.2.2.2.2 ≤ M.2.2.2.2.2.2) (hst : (st.map fun v => v.category).sum ≤ 8) (hlen : (slV [a1, a2, a3, a4, a5]).length ≤ M'.2.2.2.1) (gc : Gd M' 0 (entL M'.2.2.2.1 [a1, a2, a3, a4, a5]) [] h (some (.int v), h1)) (g : Gd M (pc + 3) ls (.int v :: st) h1 x) : Gd M pc ls (a5 :: a4 :: a3 :: a2 :: a1 :: st) h x := gd_callS (vs := [a1, a2, a3, a4, a5]) hd hc rfl hr hst hlen gc g
theorem gd_cV5l {i b : Nat} {M' : MD} {a1 a2 a3 a4 a5 : Value} {v : Int64} {h1 : Hp} (hd : decode M.1 pc = .ok (.invokevirtual i, 3)) (hc : CVk M.2.2.1 i M' 5) (hb : RCk b M'.2.1.cls) (hr : M'.2.2.2.2.2.1 + 1 ≤ M.2.2.2.2.2.1 ∧ 8 + (M'.2.2.2.1 + 11) + M'.2.2.2.2.2.2 ≤ M.2.2.2.2.2.2) (hst : (st.map fun v => v.category).sum ≤ 8) (hlen : (slV [.ref b, a1, a2, a3, a4, a5]).length ≤ M'.2.2.2.1) (gc : Gd M' 0 (entL M'.2.2.2.1 [.ref b, a1, a2, a3, a4, a5]) [] h (some (.long v), h1)) (g : Gd M (pc + 3) ls (.long v :: st) h1 x) : Gd M pc ls (a5 :: a4 :: a3 :: a2 :: a1 :: .ref b :: st) h x := gd_callV (vs := [a1, a2, a3, a4, a5]) hd hc hb rfl hr hst hlen gc g
theorem gd_cS5l {i : Nat} {M' : MD} {a1 a2 a3 a4 a5 : Value} {v : Int64} {h1 : Hp} (hd : decode M.1 pc = .ok (.invokestatic i, 3)) (hc : CSk M.2.2.1 i M' 5) (hr : M'.2.2.2.2.2.1 + 1 ≤ M.2.2.2.2.2.1 ∧ 8 + (M'.2.2.2.1 + 11) + M'.2.2.2.2.2.2 ≤ M.2.2.2.2.2.2) (hst : (st.map fun v => v.category).sum ≤ 8) (hlen : (slV [a1, a2, a3, a4, a5]).length ≤ M'.2.2.2.1) (gc : Gd M' 0 (entL M'.2.2.2.1 [a1, a2, a3, a4, a5]) [] h (some (.long v), h1)) (g : Gd M (pc + 3) ls (.long v :: st) h1 x) : Gd M pc ls (a5 :: a4 :: a3 :: a2 :: a1 :: st) h x := gd_callS (vs := [a1, a2, a3, a4, a5]) hd hc rfl hr hst hlen gc g
theorem gd_cV5v {i b : Nat} {M' : MD} {a1 a2 a3 a4 a5 : Value} {h1 : Hp} (hd : decode M.1 pc = .ok (.invokevirtual i, 3)) (hc : CVk M.2.2.1 i M' 5) (hb : RCk b M'.2.1.cls) (hr : M'.2.2.2.2.2.1 + 1 ≤ M.2.2.2.2.2.1 ∧ 8 + (M'.2.2.2.1 + 11) + M'.2.2.2.2.2.2 ≤ M.2.2.2.2.2.2) (hst : (st.map fun v => v.category).sum ≤ 8) (hlen : (slV [.ref b, a1, a2, a3, a4, a5]).length ≤ M'.2.2.2.1) (gc : Gd M' 0 (entL M'.2.2.2.1 [.ref b, a1, a2, a3, a4, a5]) [] h (none, h1)) (g : Gd M (pc + 3) ls st h1 x) : Gd M pc ls (a5 :: a4 :: a3 :: a2 :: a1 :: .ref b :: st) h x := gd_callV (vs := [a1, a2, a3, a4, a5]) hd hc hb rfl hr hst hlen gc g
theorem gd_cS5v {i : Nat} {M' : MD} {a1 a2 a3 a4 a5 : Value} {h1 : Hp} (hd : decode M.1 pc = .ok (.invokestatic i, 3)) (hc : CSk M.2.2.1 i M' 5) (hr : M'.2.2.2.2.2.1 + 1 ≤ M.2.2.2.2.2.1 ∧ 8 + (M'.2.2.2.1 + 11) + M'.2.2.2.2.2.2 ≤ M.2.2.2.2.2.2) (hst : (st.map fun v => v.category).sum ≤ 8) (hlen : (slV [a1, a2, a3, a4, a5]).length ≤ M'.2.2.2.1) (gc : Gd M' 0 (entL M'.2.2.2.1 [a1, a2, a3, a4, a5]) [] h (none, h1)) (g : Gd M (pc + 3) ls st h1 x) : Gd M pc ls (a5 :: a4 :: a3 :: a2 :: a1 :: st) h x := gd_callS (vs := [a1, a2, a3, a4, a5]) hd hc rfl hr hst hlen gc g
theorem gd_cV6i {i b : Nat} {M' : MD} {a1 a2 a3 a4 a5 a6 : Value} {v : Int32} {h1 : Hp} (hd : decode M.1 pc = .ok (.invokevirtual i, 3)) (hc : CVk M.2.2.1 i M' 6) (hb : RCk b M'.2.1.cls) (hr : M'.2.2.2.2.2.1 + 1 ≤ M.2.2.2.2.2.1 ∧ 8 + (M'.2.2.2.1 + 11) + M'.2.2.2.2.2.2 ≤ M.2.2.2.2.2.2) (hst : (st.map fun v => v.category).sum ≤ 8) (hlen : (slV [.ref b, a1, a2, a3, a4, a5, a6]).length ≤ M'.2.2.2.1) (gc : Gd M' 0 (entL M'.2.2.2.1 [.ref b, a1, a2, a3, a4, a5, a6]) [] h (some (.int v), h1)) (g : Gd M (pc + 3) ls (.int v :: st) h1 x) : Gd M pc ls (a6 :: a5 :: a4 :: a3 :: a2 :: a1 :: .ref b :: st) h x := gd_callV (vs := [a1, a2, a3, a4, a5, a6]) hd hc hb rfl hr hst hlen gc g
theorem gd_cS6i {i : Nat} {M' : MD} {a1 a2 a3 a4 a5 a6 : Value} {v : Int32} {h1 : Hp} (hd : decode M.1 pc = .ok (.invokestatic i, 3)) (hc : CSk M.2.2.1 i M' 6) (hr : M'.2.2.2.2.2.1 + 1 ≤ M.2.2.2.2.2.1 ∧ 8 + (M'.2.2.2.1 + 11) + M'.2.2.2.2.2.2 ≤ M.2.2.2.2.2.2) (hst : (st.map fun v => v.category).sum ≤ 8) (hlen : (slV [a1, a2, a3, a4, a5, a6]).length ≤ M'.2.2.2.1) (gc : Gd M' 0 (entL M'.2.2.2.1 [a1, a2, a3, a4, a5, a6]) [] h (some (.int v), h1)) (g : Gd M (pc + 3) ls (.int v :: st) h1 x) : Gd M pc ls (a6 :: a5 :: a4 :: a3 :: a2 :: a1 :: st) h x := gd_callS (vs := [a1, a2, a3, a4, a5, a6]) hd hc rfl hr hst hlen gc g
theorem gd_cV6l {i b : Nat} {M' : MD} {a1 a2 a3 a4 a5 a6 : Value} {v : Int64} {h1 : Hp} (hd : decode M.1 pc = .ok (.invokevirtual i, 3)) (hc : CVk M.2.2.1 i M' 6) (hb : RCk b M'.2.1.cls) (hr : M'.2.2.2.2.2.1 + 1 ≤ M.2.2.2.2.2.1 ∧ 8 + (M'.2.2.2.1 + 11) + M'.2.2.2.2.2.2 ≤ M.2.2.2.2.2.2) (hst : (st.map fun v => v.category).sum ≤ 8) (hlen : (slV [.ref b, a1, a2, a3, a4, a5, a6]).length ≤ M'.2.2.2.1) (gc : Gd M' 0 (entL M'.2.2.2.1 [.ref b, a1, a2, a3, a4, a5, a6]) [] h (some (.long v), h1)) (g : Gd M (pc + 3) ls (.long v :: st) h1 x) : Gd M pc ls (a6 :: a5 :: a4 :: a3 :: a2 :: a1 :: .ref b :: st) h x := gd_callV (vs := [a1, a2, a3, a4, a5, a6]) hd hc hb rfl hr hst hlen gc g
theorem gd_cS6l {i : Nat} {M' : MD} {a1 a2 a3 a4 a5 a6 : Value} {v : Int64} {h1 : Hp} (hd : decode M.1 pc = .ok (.invokestatic i, 3)) (hc : CSk M.2.2.1 i M' 6) (hr : M'.2.2.2.2.2.1 + 1 ≤ M.2.2.2.2.2.1 ∧ 8 + (M'.2.2.2.1 + 11) + M'.2.2.2.2.2.2 ≤ M.2.2.2.2.2.2) (hst : (st.map fun v => v.category).sum ≤ 8) (hlen : (slV [a1, a2, a3, a4, a5, a6]).length ≤ M'.2.2.2.1) (gc : Gd M' 0 (entL M'.2.2.2.1 [a1, a2, a3, a4, a5, a6]) [] h (some (.long v), h1)) (g : Gd M (pc + 3) ls (.long v :: st) h1 x) : Gd M pc ls (a6 :: a5 :: a4 :: a3 :: a2 :: a1 :: st) h x := gd_callS (vs := [a1, a2, a3, a4, a5, a6]) hd hc rfl hr hst hlen gc g
theorem gd_cV6v {i b : Nat} {M' : MD} {a1 a2 a3 a4 a5 a6 : Value} {h1 : Hp} (hd : decode M.1 pc = .ok (.invokevirtual i, 3)) (hc : CVk M.2.2.1 i M' 6) (hb : RCk b M'.2.1.cls) (hr : M'.2.2.2.2.2.1 + 1 ≤ M.2.2.2.2.2.1 ∧ 8 + (M'.2.2.2.1 + 11) + M'.2.2.2.2.2.2 ≤ M.2.2.2.2.2.2) (hst : (st.map fun v => v.category).sum ≤ 8) (hlen : (slV [.ref b, a1, a2, a3, a4, a5, a6]).length ≤ M'.2.2.2.1) (gc : Gd M' 0 (entL M'.2.2.2.1 [.ref b, a1, a2, a3, a4, a5, a6]) [] h (none, h1)) (g : Gd M (pc + 3) ls st h1 x) : Gd M pc ls (a6 :: a5 :: a4 :: a3 :: a2 :: a1 :: .ref b :: st) h x := gd_callV (vs := [a1, a2, a3, a4, a5, a6]) hd hc hb rfl hr hst hlen gc g
theorem gd_cS6v {i : Nat} {M' : MD} {a1 a2 a3 a4 a5 a6 : Value} {h1 : Hp} (hd : decode M.1 pc = .ok (.invokestatic i, 3)) (hc : CSk M.2.2.1 i M' 6) (hr : M'.2.2.2.2.2.1 + 1 ≤ M.2.2.2.2.2.1 ∧ 8 + (M'.2.2.2.1 + 11) + M'.2.2.2.2.2.2 ≤ M.2.2.2.2.2.2) (hst : (st.map fun v => v.category).sum ≤ 8) (hlen : (slV [a1, a2, a3, a4, a5, a6]).length ≤ M'.2.2.2.1) (gc : Gd M' 0 (entL M'.2.2.2.1 [a1, a2, a3, a4, a5, a6]) [] h (none, h1)) (g : Gd M (pc + 3) ls st h1 x) : Gd M pc ls (a6 :: a5 :: a4 :: a3 :: a2 :: a1 :: st) h x := gd_callS (vs := [a1, a2, a3, a4, a5, a6]) hd hc rfl hr hst hlen gc g
theorem gd_ild0 {a : Int32} {l : List Value} (hd : decode M.1 pc = .ok (.iload_n 0, 1)) (g : Gd M (pc + 1) (.int a :: l) (.int a :: st) h x) : Gd M pc (.int a :: l) st h x := gd_iloadn hd rfl rfl g
theorem gd_lld0 {a : Int64} {l : List Value} (hd : decode M.1 pc = .ok (.lload_n 0, 1)) (g : Gd M (pc + 1) (.long a :: l) (.long a :: st) h x) : Gd M pc (.long a :: l) st h x := gd_lloadn hd rfl rfl g
theorem gd_ald0 {a : Nat} {l : List Value} (hd : decode M.1 pc = .ok (.aload_n 0, 1)) (ha : a ≠ 120) (g : Gd M (pc + 1) (.ref a :: l) (.ref a :: st) h x) : Gd M pc (.ref a :: l) st h x := gd_aloadn hd rfl rfl ha g
theorem gd_ist0 {u : Value} {a : Int32} {l : List Value} (hd : decode M.1 pc = .ok (.istore_n 0, 1)) (hp : True) (g : Gd M (pc + 1) (.int a :: l) st h x) : Gd M pc (u :: l) (.int a :: st) h x := gd_istoren hd rfl (by simp only [List.length_cons]; omega) (fun w hw => by first | exact Or.inr rfl | (cases hw; exact Or.inl hp)) g
theorem gd_iinc0 {n : Int} {a b : Int32} {l : List Value} (hd : decode M.1 pc = .ok (.iinc 0 n, 3)) (hb : Int32.ofInt n = b) (hp : True) (g : Gd M (pc + 3) (.int (a + b) :: l) st h x) : Gd M pc (.int a :: l) st h x := gd_iinc hd rfl hb (fun w hw => by first | exact Or.inr rfl | (cases hw; exact Or.inl hp)) g
theorem gd_lst0 {u u2 : Value} {a : Int64} {l : List Value} (hd : decode M.1 pc = .ok (.lstore_n 0, 1)) (hp : True) (g : Gd M (pc + 1) (.long a :: .null :: l) st h x) : Gd M pc (u :: u2 :: l) (.long a :: st) h x := gd_lstoren hd rfl (by simp only [List.length_cons]; omega) (fun w hw => by first | exact Or.inr rfl | (cases hw; exact Or.inl hp)) g
theorem gd_ild1 {w0 : Value} {a : Int32} {l : List Value} (hd : decode M.1 pc = .ok (.iload_n 1, 1)) (g : Gd M (pc + 1) (w0 :: .int a :: l) (.int a :: st) h x) : Gd M pc (w0 :: .int a :: l) st h x := gd_iloadn hd rfl rfl g
theorem gd_lld1 {w0 : Value} {a : Int64} {l : List Value} (hd : decode M.1 pc = .ok (.lload_n 1, 1)) (g : Gd M (pc + 1) (w0 :: .long a :: l) (.long a :: st) h x) : Gd M pc (w0 :: .long a :: l) st h x := gd_lloadn hd rfl rfl g
theorem gd_ald1 {w0 : Value} {a : Nat} {l : List Value} (hd : decode M.1 pc = .ok (.aload_n 1, 1)) (ha : a ≠ 120) (g : Gd M (pc + 1) (w0 :: .ref a :: l) (.ref a :: st) h x) : Gd M pc (w0 :: .ref a :: l) st h x := gd_aloadn hd rfl rfl ha g
theorem gd_ist1 {w0 : Value} {u : Value} {a : Int32} {l : List Value} (hd : decode M.1 pc = .ok (.istore_n 1, 1)) (hp : w0.category = 1) (g : Gd M (pc + 1) (w0 :: .int a :: l) st h x) : Gd M pc (w0 :: u :: l) (.int a :: st) h x := gd_istoren hd rfl (by simp only [List.length_cons]; omega) (fun w hw => by first | exact Or.inr rfl | (cases hw; exact Or.inl hp)) g
theorem gd_iinc1 {w0 : Value} {n : Int} {a b : Int32} {l : List Value} (hd : decode M.1 pc = .ok (.iinc 1 n, 3)) (hb : Int32.ofInt n = b) (hp : w0.category = 1) (g : Gd M (pc + 3) (w0 :: .int (a + b) :: l) st h x) : Gd M pc (w0 :: .int a :: l) st h x := gd_iinc hd rfl hb (fun w hw => by first | exact Or.inr rfl | (cases hw; exact Or.inl hp)) g
theorem gd_lst1 {w0 : Value} {u u2 : Value} {a : Int64} {l : List Value} (hd : decode M.1 pc = .ok (.lstore_n 1, 1)) (hp : w0.category = 1) (g : Gd M (pc + 1) (w0 :: .long a :: .null :: l) st h x) : Gd M pc (w0 :: u :: u2 :: l) (.long a :: st) h x := gd_lstoren hd rfl (by simp only [List.length_cons]; omega) (fun w hw => by first | exact Or.inr rfl | (cases hw; exact Or.inl hp)) g
theorem gd_ild2 {w0 w1 : Value} {a : Int32} {l : List Value} (hd : decode M.1 pc = .ok (.iload_n 2, 1)) (g : Gd M (pc + 1) (w0 :: w1 :: .int a :: l) (.int a :: st) h x) : Gd M pc (w0 :: w1 :: .int a :: l) st h x := gd_iloadn hd rfl rfl g
theorem gd_lld2 {w0 w1 : Value} {a : Int64} {l : List Value} (hd : decode M.1 pc = .ok (.lload_n 2, 1)) (g : Gd M (pc + 1) (w0 :: w1 :: .long a :: l) (.long a :: st) h x) : Gd M pc (w0 :: w1 :: .long a :: l) st h x := gd_lloadn hd rfl rfl g
theorem gd_ald2 {w0 w1 : Value} {a : Nat} {l : List Value} (hd : decode M.1 pc = .ok (.aload_n 2, 1)) (ha : a ≠ 120) (g : Gd M (pc + 1) (w0 :: w1 :: .ref a :: l) (.ref a :: st) h x) : Gd M pc (w0 :: w1 :: .ref a :: l) st h x := gd_aloadn hd rfl rfl ha g
theorem gd_ist2 {w0 w1 : Value} {u : Value} {a : Int32} {l : List Value} (hd : decode M.1 pc = .ok (.istore_n 2, 1)) (hp : w1.category = 1) (g : Gd M (pc + 1) (w0 :: w1 :: .int a :: l) st h x) : Gd M pc (w0 :: w1 :: u :: l) (.int a :: st) h x := gd_istoren hd rfl (by simp only [List.length_cons]; omega) (fun w hw => by first | exact Or.inr rfl | (cases hw; exact Or.inl hp)) g
theorem gd_iinc2 {w0 w1 : Value} {n : Int} {a b : Int32} {l : List Value} (hd : decode M.1 pc = .ok (.iinc 2 n, 3)) (hb : Int32.ofInt n = b) (hp : w1.category = 1) (g : Gd M (pc + 3) (w0 :: w1 :: .int (a + b) :: l) st h x) : Gd M pc (w0 :: w1 :: .int a :: l) st h x := gd_iinc hd rfl hb (fun w hw => by first | exact Or.inr rfl | (cases hw; exact Or.inl hp)) g
theorem gd_lst2 {w0 w1 : Value} {u u2 : Value} {a : Int64} {l : List Value} (hd : decode M.1 pc = .ok (.lstore_n 2, 1)) (hp : w1.category = 1) (g : Gd M (pc + 1) (w0 :: w1 :: .long a :: .null :: l) st h x) : Gd M pc (w0 :: w1 :: u :: u2 :: l) (.long a :: st) h x := gd_lstoren hd rfl (by simp only [List.length_cons]; omega) (fun w hw => by first | exact Or.inr rfl | (cases hw; exact Or.inl hp)) g
theorem gd_ild3 {w0 w1 w2 : Value} {a : Int32} {l : List Value} (hd : decode M.1 pc = .ok (.iload_n 3, 1)) (g : Gd M (pc + 1) (w0 :: w1 :: w2 :: .int a :: l) (.int a :: st) h x) : Gd M pc (w0 :: w1 :: w2 :: .int a :: l) st h x := gd_iloadn hd rfl rfl g
theorem gd_lld3 {w0 w1 w2 : Value} {a : Int64} {l : List Value} (hd : decode M.1 pc = .ok (.lload_n 3, 1)) (g : Gd M (pc + 1) (w0 :: w1 :: w2 :: .long a :: l) (.long a :: st) h x) : Gd M pc (w0 :: w1 :: w2 :: .long a :: l) st h x := gd_lloadn hd rfl rfl g
theorem gd_ald3 {w0 w1 w2 : Value} {a : Nat} {l : List Value} (hd : decode M.1 pc = .ok (.aload_n 3, 1)) (ha : a ≠ 120) (g : Gd M (pc + 1) (w0 :: w1 :: w2 :: .ref a :: l) (.ref a :: st) h x) : Gd M pc (w0 :: w1 :: w2 :: .ref a :: l) st h x := gd_aloadn hd rfl rfl ha g
theorem gd_ist3 {w0 w1 w2 : Value} {u : Value} {a : Int32} {l : List Value} (hd : decode M.1 pc = .ok (.istore_n 3, 1)) (hp : w2.category = 1) (g : Gd M (pc + 1) (w0 :: w1 :: w2 :: .int a :: l) st h x) : Gd M pc (w0 :: w1 :: w2 :: u :: l) (.int a :: st) h x := gd_istoren hd rfl (by simp only [List.length_cons]; omega) (fun w hw => by first | exact Or.inr rfl | (cases hw; exact Or.inl hp)) g
theorem gd_iinc3 {w0 w1 w2 : Value} {n : Int} {a b : Int32} {l : List Value} (hd : decode M.1 pc = .ok (.iinc 3 n, 3)) (hb : Int32.ofInt n = b) (hp : w2.category = 1) (g : Gd M (pc + 3) (w0 :: w1 :: w2 :: .int (a + b) :: l) st h x) : Gd M pc (w0 :: w1 :: w2 :: .int a :: l) st h x := gd_iinc hd rfl hb (fun w hw => by first | exact Or.inr rfl | (cases hw; exact Or.inl hp)) g
theorem gd_lst3 {w0 w1 w2 : Value} {u u2 : Value} {a : Int64} {l : List Value} (hd : decode M.1 pc = .ok (.lstore_n 3, 1)) (hp : w2.category = 1) (g : Gd M (pc + 1) (w0 :: w1 :: w2 :: .long a :: .null :: l) st h x) : Gd M pc (w0 :: w1 :: w2 :: u :: u2 :: l) (.long a :: st) h x := gd_lstoren hd rfl (by simp only [List.length_cons]; omega) (fun w hw => by first | exact Or.inr rfl | (cases hw; exact Or.inl hp)) g
theorem gd_ild4 {w0 w1 w2 w3 : Value} {a : Int32} {l : List Value} (hd : decode M.1 pc = .ok (.iload 4, 2)) (g : Gd M (pc + 2) (w0 :: w1 :: w2 :: w3 :: .int a :: l) (.int a :: st) h x) : Gd M pc (w0 :: w1 :: w2 :: w3 :: .int a :: l) st h x := gd_iload hd rfl g
theorem gd_lld4 {w0 w1 w2 w3 : Value} {a : Int64} {l : List Value} (hd : decode M.1 pc = .ok (.lload 4, 2)) (g : Gd M (pc + 2) (w0 :: w1 :: w2 :: w3 :: .long a :: l) (.long a :: st) h x) : Gd M pc (w0 :: w1 :: w2 :: w3 :: .long a :: l) st h x := gd_lload hd rfl g
theorem gd_ist4 {w0 w1 w2 w3 : Value} {u : Value} {a : Int32} {l : List Value} (hd : decode M.1 pc = .ok (.istore 4, 2)) (hp : w3.category = 1) (g : Gd M (pc + 2) (w0 :: w1 :: w2 :: w3 :: .int a :: l) st h x) : Gd M pc (w0 :: w1 :: w2 :: w3 :: u :: l) (.int a :: st) h x := gd_istore hd (by simp only [List.length_cons]; omega) (fun w hw => by first | exact Or.inr rfl | (cases hw; exact Or.inl hp)) g
theorem gd_iinc4 {w0 w1 w2 w3 : Value} {n : Int} {a b : Int32} {l : List Value} (hd : decode M.1 pc = .ok (.iinc 4 n, 3)) (hb : Int32.ofInt n = b) (hp : w3.category = 1) (g : Gd M (pc + 3) (w0 :: w1 :: w2 :: w3 :: .int (a + b) :: l) st h x) : Gd M pc (w0 :: w1 :: w2 :: w3 :: .int a :: l) st h x := gd_iinc hd rfl hb (fun w hw => by first | exact Or.inr rfl | (cases hw; exact Or.inl hp)) g
theorem gd_lst4 {w0 w1 w2 w3 : Value} {u u2 : Value} {a : Int64} {l : List Value} (hd : decode M.1 pc = .ok (.lstore 4, 2)) (hp : w3.category = 1) (g : Gd M (pc + 2) (w0 :: w1 :: w2 :: w3 :: .long a :: .null :: l) st h x) : Gd M pc (w0 :: w1 :: w2 :: w3 :: u :: u2 :: l) (.long a :: st) h x := gd_lstore hd (by simp only [List.length_cons]; omega) (fun w hw => by first | exact Or.inr rfl | (cases hw; exact Or.inl hp)) g
theorem gd_ild5 {w0 w1 w2 w3 w4 : Value} {a : Int32} {l : List Value} (hd : decode M.1 pc = .ok (.iload 5, 2)) (g : Gd M (pc + 2) (w0 :: w1 :: w2 :: w3 :: w4 :: .int a :: l) (.int a :: st) h x) : Gd M pc (w0 :: w1 :: w2 :: w3 :: w4 :: .int a :: l) st h x := gd_iload hd rfl g
theorem gd_lld5 {w0 w1 w2 w3 w4 : Value} {a : Int64} {l : List Value} (hd : decode M.1 pc = .ok (.lload 5, 2)) (g : Gd M (pc + 2) (w0 :: w1 :: w2 :: w3 :: w4 :: .long a :: l) (.long a :: st) h x) : Gd M pc (w0 :: w1 :: w2 :: w3 :: w4 :: .long a :: l) st h x := gd_lload hd rfl g
theorem gd_ist5 {w0 w1 w2 w3 w4 : Value} {u : Value} {a : Int32} {l : List Value} (hd : decode M.1 pc = .ok (.istore 5, 2)) (hp : w4.category = 1) (g : Gd M (pc + 2) (w0 :: w1 :: w2 :: w3 :: w4 :: .int a :: l) st h x) : Gd M pc (w0 :: w1 :: w2 :: w3 :: w4 :: u :: l) (.int a :: st) h x := gd_istore hd (by simp only [List.length_cons]; omega) (fun w hw => by first | exact Or.inr rfl | (cases hw; exact Or.inl hp)) g
theorem gd_iinc5 {w0 w1 w2 w3 w4 : Value} {n : Int} {a b : Int32} {l : List Value} (hd : decode M.1 pc = .ok (.iinc 5 n, 3)) (hb : Int32.ofInt n = b) (hp : w4.category = 1) (g : Gd M (pc + 3) (w0 :: w1 :: w2 :: w3 :: w4 :: .int (a + b) :: l) st h x) : Gd M pc (w0 :: w1 :: w2 :: w3 :: w4 :: .int a :: l) st h x := gd_iinc hd rfl hb (fun w hw => by first | exact Or.inr rfl | (cases hw; exact Or.inl hp)) g
theorem gd_lst5 {w0 w1 w2 w3 w4 : Value} {u u2 : Value} {a : Int64} {l : List Value} (hd : decode M.1 pc = .ok (.lstore 5, 2)) (hp : w4.category = 1) (g : Gd M (pc + 2) (w0 :: w1 :: w2 :: w3 :: w4 :: .long a :: .null :: l) st h x) : Gd M pc (w0 :: w1 :: w2 :: w3 :: w4 :: u :: u2 :: l) (.long a :: st) h x := gd_lstore hd (by simp only [List.length_cons]; omega) (fun w hw => by first | exact Or.inr rfl | (cases hw; exact Or.inl hp)) g
theorem gd_ild6 {w0 w1 w2 w3 w4 w5 : Value} {a : Int32} {l : List Value} (hd : decode M.1 pc = .ok (.iload 6, 2)) (g : Gd M (pc + 2) (w0 :: w1 :: w2 :: w3 :: w4 :: w5 :: .int a :: l) (.int a :: st) h x) : Gd M pc (w0 :: w1 :: w2 :: w3 :: w4 :: w5 :: .int a :: l) st h x := gd_iload hd rfl g
theorem gd_lld6 {w0 w1 w2 w3 w4 w5 : Value} {a : Int64} {l : List Value} (hd : decode M.1 pc = .ok (.lload 6, 2)) (g : Gd M (pc + 2) (w0 :: w1 :: w2 :: w3 :: w4 :: w5 :: .long a :: l) (.long a :: st) h x) : Gd M pc (w0 :: w1 :: w2 :: w3 :: w4 :: w5 :: .long a :: l) st h x := gd_lload hd rfl g
theorem gd_ist6 {w0 w1 w2 w3 w4 w5 : Value} {u : Value} {a : Int32} {l : List Value} (hd : decode M.1 pc = .ok (.istore 6, 2)) (hp : w5.category = 1) (g : Gd M (pc + 2) (w0 :: w1 :: w2 :: w3 :: w4 :: w5 :: .int a :: l) st h x) : Gd M pc (w0 :: w1 :: w2 :: w3 :: w4 :: w5 :: u :: l) (.int a :: st) h x := gd_istore hd (by simp only [List.length_cons]; omega) (fun w hw => by first | exact Or.inr rfl | (cases hw; exact Or.inl hp)) g
theorem gd_iinc6 {w0 w1 w2 w3 w4 w5 : Value} {n : Int} {a b : Int32} {l : List Value} (hd : decode M.1 pc = .ok (.iinc 6 n, 3)) (hb : Int32.ofInt n = b) (hp : w5.category = 1) (g : Gd M (pc + 3) (w0 :: w1 :: w2 :: w3 :: w4 :: w5 :: .int (a + b) :: l) st h x) : Gd M pc (w0 :: w1 :: w2 :: w3 :: w4 :: w5 :: .int a :: l) st h x := gd_iinc hd rfl hb (fun w hw => by first | exact Or.inr rfl | (cases hw; exact Or.inl hp)) g
theorem gd_lst6 {w0 w1 w2 w3 w4 w5 : Value} {u u2 : Value} {a : Int64} {l : List Value} (hd : decode M.1 pc = .ok (.lstore 6, 2)) (hp : w5.category = 1) (g : Gd M (pc + 2) (w0 :: w1 :: w2 :: w3 :: w4 :: w5 :: .long a :: .null :: l) st h x) : Gd M pc (w0 :: w1 :: w2 :: w3 :: w4 :: w5 :: u :: u2 :: l) (.long a :: st) h x := gd_lstore hd (by simp only [List.length_cons]; omega) (fun w hw => by first | exact Or.inr rfl | (cases hw; exact Or.inl hp)) g
theorem gd_ild7 {w0 w1 w2 w3 w4 w5 w6 : Value} {a : Int32} {l : List Value} (hd : decode M.1 pc = .ok (.iload 7, 2)) (g : Gd M (pc + 2) (w0 :: w1 :: w2 :: w3 :: w4 :: w5 :: w6 :: .int a :: l) (.int a :: st) h x) : Gd M pc (w0 :: w1 :: w2 :: w3 :: w4 :: w5 :: w6 :: .int a :: l) st h x := gd_iload hd rfl g
theorem gd_lld7 {w0 w1 w2 w3 w4 w5 w6 : Value} {a : Int64} {l : List Value} (hd : decode M.1 pc = .ok (.lload 7, 2)) (g : Gd M (pc + 2) (w0 :: w1 :: w2 :: w3 :: w4 :: w5 :: w6 :: .long a :: l) (.long a :: st) h x) : Gd M pc (w0 :: w1 :: w2 :: w3 :: w4 :: w5 :: w6 :: .long a :: l) st h x := gd_lload hd rfl g
theorem gd_ist7 {w0 w1 w2 w3 w4 w5 w6 : Value} {u : Value} {a : Int32} {l : List Value} (hd : decode M.1 pc = .ok (.istore 7, 2)) (hp : w6.category = 1) (g : Gd M (pc + 2) (w0 :: w1 :: w2 :: w3 :: w4 :: w5 :: w6 :: .int a :: l) st h x) : Gd M pc (w0 :: w1 :: w2 :: w3 :: w4 :: w5 :: w6 :: u :: l) (.int a :: st) h x := gd_istore hd (by simp only [List.length_cons]; omega) (fun w hw => by first | exact Or.inr rfl | (cases hw; exact Or.inl hp)) g
theorem gd_iinc7 {w0 w1 w2 w3 w4 w5 w6 : Value} {n : Int} {a b : Int32} {l : List Value} (hd : decode M.1 pc = .ok (.iinc 7 n, 3)) (hb : Int32.ofInt n = b) (hp : w6.category = 1) (g : Gd M (pc + 3) (w0 :: w1 :: w2 :: w3 :: w4 :: w5 :: w6 :: .int (a + b) :: l) st h x) : Gd M pc (w0 :: w1 :: w2 :: w3 :: w4 :: w5 :: w6 :: .int a :: l) st h x := gd_iinc hd rfl hb (fun w hw => by first | exact Or.inr rfl | (cases hw; exact Or.inl hp)) g
theorem gd_lst7 {w0 w1 w2 w3 w4 w5 w6 : Value} {u u2 : Value} {a : Int64} {l : List Value} (hd : decode M.1 pc = .ok (.lstore 7, 2)) (hp : w6.category = 1) (g : Gd M (pc + 2) (w0 :: w1 :: w2 :: w3 :: w4 :: w5 :: w6 :: .long a :: .null :: l) st h x) : Gd M pc (w0 :: w1 :: w2 :: w3 :: w4 :: w5 :: w6 :: u :: u2 :: l) (.long a :: st) h x := gd_lstore hd (by simp only [List.length_cons]; omega) (fun w hw => by first | exact Or.inr rfl | (cases hw; exact Or.inl hp)) g
theorem gd_ild8 {w0 w1 w2 w3 w4 w5 w6 w7 : Value} {a : Int32} {l : List Value} (hd : decode M.1 pc = .ok (.iload 8, 2)) (g : Gd M (pc + 2) (w0 :: w1 :: w2 :: w3 :: w4 :: w5 :: w6 :: w7 :: .int a :: l) (.int a :: st) h x) : Gd M pc (w0 :: w1 :: w2 :: w3 :: w4 :: w5 :: w6 :: w7 :: .int a :: l) st h x := gd_iload hd rfl g
theorem gd_lld8 {w0 w1 w2 w3 w4 w5 w6 w7 : Value} {a : Int64} {l : List Value} (hd : decode M.1 pc = .ok (.lload 8, 2)) (g : Gd M (pc + 2) (w0 :: w1 :: w2 :: w3 :: w4 :: w5 :: w6 :: w7 :: .long a :: l) (.long a :: st) h x) : Gd M pc (w0 :: w1 :: w2 :: w3 :: w4 :: w5 :: w6 :: w7 :: .long a :: l) st h x := gd_lload hd rfl g
theorem gd_ist8 {w0 w1 w2 w3 w4 w5 w6 w7 : Value} {u : Value} {a : Int32} {l : List Value} (hd : decode M.1 pc = .ok (.istore 8, 2)) (hp : w7.category = 1) (g : Gd M (pc + 2) (w0 :: w1 :: w2 :: w3 :: w4 :: w5 :: w6 :: w7 :: .int a :: l) st h x) : Gd M pc (w0 :: w1 :: w2 :: w3 :: w4 :: w5 :: w6 :: w7 :: u :: l) (.int a :: st) h x := gd_istore hd (by simp only [List.length_cons]; omega) (fun w hw => by first | exact Or.inr rfl | (cases hw; exact Or.inl hp)) g
theorem gd_iinc8 {w0 w1 w2 w3 w4 w5 w6 w7 : Value} {n : Int} {a b : Int32} {l : List Value} (hd : decode M.1 pc = .ok (.iinc 8 n, 3)) (hb : Int32.ofInt n = b) (hp : w7.category = 1) (g : Gd M (pc + 3) (w0 :: w1 :: w2 :: w3 :: w4 :: w5 :: w6 :: w7 :: .int (a + b) :: l) st h x) : Gd M pc (w0 :: w1 :: w2 :: w3 :: w4 :: w5 :: w6 :: w7 :: .int a :: l) st h x := gd_iinc hd rfl hb (fun w hw => by first | exact Or.inr rfl | (cases hw; exact Or.inl hp)) g
theorem gd_lst8 {w0 w1 w2 w3 w4 w5 w6 w7 : Value} {u u2 : Value} {a : Int64} {l : List Value} (hd : decode M.1 pc = .ok (.lstore 8, 2)) (hp : w7.category = 1) (g : Gd M (pc + 2) (w0 :: w1 :: w2 :: w3 :: w4 :: w5 :: w6 :: w7 :: .long a :: .null :: l) st h x) : Gd M pc (w0 :: w1 :: w2 :: w3 :: w4 :: w5 :: w6 :: w7 :: u :: u2 :: l) (.long a :: st) h x := gd_lstore hd (by simp only [List.length_cons]; omega) (fun w hw => by first | exact Or.inr rfl | (cases hw; exact Or.inl hp)) g
theorem gd_ild9 {w0 w1 w2 w3 w4 w5 w6 w7 w8 : Value} {a : Int32} {l : List Value} (hd : decode M.1 pc = .ok (.iload 9, 2)) (g : Gd M (pc + 2) (w0 :: w1 :: w2 :: w3 :: w4 :: w5 :: w6 :: w7 :: w8 :: .int a :: l) (.int a :: st) h x) : Gd M pc (w0 :: w1 :: w2 :: w3 :: w4 :: w5 :: w6 :: w7 :: w8 :: .int a :: l) st h x := gd_iload hd rfl g
theorem gd_lld9 {w0 w1 w2 w3 w4 w5 w6 w7 w8 : Value} {a : Int64} {l : List Value} (hd : decode M.1 pc = .ok (.lload 9, 2)) (g : Gd M (pc + 2) (w0 :: w1 :: w2 :: w3 :: w4 :: w5 :: w6 :: w7 :: w8 :: .long a :: l) (.long a :: st) h x) : Gd M pc (w0 :: w1 :: w2 :: w3 :: w4 :: w5 :: w6 :: w7 :: w8 :: .long a :: l) st h x := gd_lload hd rfl g
theorem gd_ist9 {w0 w1 w2 w3 w4 w5 w6 w7 w8 : Value} {u : Value} {a : Int32} {l : List Value} (hd : decode M.1 pc = .ok (.istore 9, 2)) (hp : w8.category = 1) (g : Gd M (pc + 2) (w0 :: w1 :: w2 :: w3 :: w4 :: w5 :: w6 :: w7 :: w8 :: .int a :: l) st h x) : Gd M pc (w0 :: w1 :: w2 :: w3 :: w4 :: w5 :: w6 :: w7 :: w8 :: u :: l) (.int a :: st) h x := gd_istore hd (by simp only [List.length_cons]; omega) (fun w hw => by first | exact Or.inr rfl | (cases hw; exact Or.inl hp)) g
theorem gd_iinc9 {w0 w1 w2 w3 w4 w5 w6 w7 w8 : Value} {n : Int} {a b : Int32} {l : List Value} (hd : decode M.1 pc = .ok (.iinc 9 n, 3)) (hb : Int32.ofInt n = b) (hp : w8.category = 1) (g : Gd M (pc + 3) (w0 :: w1 :: w2 :: w3 :: w4 :: w5 :: w6 :: w7 :: w8 :: .int (a + b) :: l) st h x) : Gd M pc (w0 :: w1 :: w2 :: w3 :: w4 :: w5 :: w6 :: w7 :: w8 :: .int a :: l) st h x := gd_iinc hd rfl hb (fun w hw => by first | exact Or.inr rfl | (cases hw; exact Or.inl hp)) g
theorem gd_lst9 {w0 w1 w2 w3 w4 w5 w6 w7 w8 : Value} {u u2 : Value} {a : Int64} {l : List Value} (hd : decode M.1 pc = .ok (.lstore 9, 2)) (hp : w8.category = 1) (g : Gd M (pc + 2) (w0 :: w1 :: w2 :: w3 :: w4 :: w5 :: w6 :: w7 :: w8 :: .long a :: .null :: l) st h x) : Gd M pc (w0 :: w1 :: w2 :: w3 :: w4 :: w5 :: w6 :: w7 :: w8 :: u :: u2 :: l) (.long a :: st) h x := gd_lstore hd (by simp only [List.length_cons]; omega) (fun w hw => by first | exact Or.inr rfl | (cases hw; exact Or.inl hp)) g
theorem gd_ild10 {w0 w1 w2 w3 w4 w5 w6 w7 w8 w9 : Value} {a : Int32} {l : List Value} (hd : decode M.1 pc = .ok (.iload 10, 2)) (g : Gd M (pc + 2) (w0 :: w1 :: w2 :: w3 :: w4 :: w5 :: w6 :: w7 :: w8 :: w9 :: .int a :: l) (.int a :: st) h x) : Gd M pc (w0 :: w1 :: w2 :: w3 :: w4 :: w5 :: w6 :: w7 :: w8 :: w9 :: .int a :: l) st h x := gd_iload hd rfl g
theorem gd_lld10 {w0 w1 w2 w3 w4 w5 w6 w7 w8 w9 : Value} {a : Int64} {l : List Value} (hd : decode M.1 pc = .ok (.lload 10, 2)) (g : Gd M (pc + 2) (w0 :: w1 :: w2 :: w3 :: w4 :: w5 :: w6 :: w7 :: w8 :: w9 :: .long a :: l) (.long a :: st) h x) : Gd M pc (w0 :: w1 :: w2 :: w3 :: w4 :: w5 :: w6 :: w7 :: w8 :: w9 :: .long a :: l) st h x := gd_lload hd rfl g
theorem gd_ist10 {w0 w1 w2 w3 w4 w5 w6 w7 w8 w9 : Value} {u : Value} {a : Int32} {l : List Value} (hd : decode M.1 pc = .ok (.istore 10, 2)) (hp : w9.category = 1) (g : Gd M (pc + 2) (w0 :: w1 :: w2 :: w3 :: w4 :: w5 :: w6 :: w7 :: w8 :: w9 :: .int a :: l) st h x) : Gd M pc (w0 :: w1 :: w2 :: w3 :: w4 :: w5 :: w6 :: w7 :: w8 :: w9 :: u :: l) (.int a :: st) h x := gd_istore hd (by simp only [List.length_cons]; omega) (fun w hw => by first | exact Or.inr rfl | (cases hw; exact Or.inl hp)) g
theorem gd_iinc10 {w0 w1 w2 w3 w4 w5 w6 w7 w8 w9 : Value} {n : Int} {a b : Int32} {l : List Value} (hd : decode M.1 pc = .ok (.iinc 10 n, 3)) (hb : Int32.ofInt n = b) (hp : w9.category = 1) (g : Gd M (pc + 3) (w0 :: w1 :: w2 :: w3 :: w4 :: w5 :: w6 :: w7 :: w8 :: w9 :: .int (a + b) :: l) st h x) : Gd M pc (w0 :: w1 :: w2 :: w3 :: w4 :: w5 :: w6 :: w7 :: w8 :: w9 :: .int a :: l) st h x := gd_iinc hd rfl hb (fun w hw => by first | exact Or.inr rfl | (cases hw; exact Or.inl hp)) g
theorem gd_lst10 {w0 w1 w2 w3 w4 w5 w6 w7 w8 w9 : Value} {u u2 : Value} {a : Int64} {l : List Value} (hd : decode M.1 pc = .ok (.lstore 10, 2)) (hp : w9.category = 1) (g : Gd M (pc + 2) (w0 :: w1 :: w2 :: w3 :: w4 :: w5 :: w6 :: w7 :: w8 :: w9 :: .long a :: .null :: l) st h x) : Gd M pc (w0 :: w1 :: w2 :: w3 :: w4 :: w5 :: w6 :: w7 :: w8 :: w9 :: u :: u2 :: l) (.long a :: st) h x := gd_lstore hd (by simp only [List.length_cons]; omega) (fun w hw => by first | exact Or.inr rfl | (cases hw; exact Or.inl hp)) g
theorem gd_icm1 (hd : decode M.1 pc = .ok (.iconst (-1), 1)) (g : Gd M (pc + 1) ls (.int (-1) :: st) h x) : Gd M pc ls st h x := gd_iconst hd (by decide) g
theorem gd_ic0 (hd : decode M.1 pc = .ok (.iconst (0), 1)) (g : Gd M (pc + 1) ls (.int (nI 0) :: st) h x) : Gd M pc ls st h x := gd_iconst hd (by decide) g
theorem gd_ic1 (hd : decode M.1 pc = .ok (.iconst (1), 1)) (g : Gd M (pc + 1) ls (.int (nI 1) :: st) h x) : Gd M pc ls st h x := gd_iconst hd (by decide) g
theorem gd_ic2 (hd : decode M.1 pc = .ok (.iconst (2), 1)) (g : Gd M (pc + 1) ls (.int (nI 2) :: st) h x) : Gd M pc ls st h x := gd_iconst hd (by decide) g
theorem gd_ic3 (hd : decode M.1 pc = .ok (.iconst (3), 1)) (g : Gd M (pc + 1) ls (.int (nI 3) :: st) h x) : Gd M pc ls st h x := gd_iconst hd (by decide) g
theorem gd_ic4 (hd : decode M.1 pc = .ok (.iconst (4), 1)) (g : Gd M (pc + 1) ls (.int (nI 4) :: st) h x) : Gd M pc ls st h x := gd_iconst hd (by decide) g
theorem gd_ic5 (hd : decode M.1 pc = .ok (.iconst (5), 1)) (g : Gd M (pc + 1) ls (.int (nI 5) :: st) h x) : Gd M pc ls st h x := gd_iconst hd (by decide) g
theorem gd_lc0 (hd : decode M.1 pc = .ok (.lconst 0, 1)) (g : Gd M (pc + 1) ls (.long (lN 0) :: st) h x) : Gd M pc ls st h x := gd_lconst hd (by decide) g
theorem gd_lc1 (hd : decode M.1 pc = .ok (.lconst 1, 1)) (g : Gd M (pc + 1) ls (.long (lN 1) :: st) h x) : Gd M pc ls st h x := gd_lconst hd (by decide) g
end GC
theorem rc_0 : RCk 0 RX8 := Or.inl ⟨8, _, _, rfl, rfl⟩
theorem rc_1 : RCk 1 RX7 := Or.inl ⟨7, _, _, rfl, rfl⟩
theorem rc_2 : RCk 2 RX0 := Or.inl ⟨0, _, _, rfl, rfl⟩
theorem rc_6 : RCk 6 RX1 := Or.inl ⟨1, _, _, rfl, rfl⟩
theorem rc_15 : RCk 15 RX6 := Or.inl ⟨6, _, _, rfl, rfl⟩
theorem rc_21 : RCk 21 RX2 := Or.inl ⟨2, _, _, rfl, rfl⟩
theorem rc_26 : RCk 26 RX7 := Or.inl ⟨7, _, _, rfl, rfl⟩
theorem rc_27 : RCk 27 RX0 := Or.inl ⟨0, _, _, rfl, rfl⟩
theorem rc_31 : RCk 31 RX1 := Or.inl ⟨1, _, _, rfl, rfl⟩
theorem rc_40 : RCk 40 RX6 := Or.inl ⟨6, _, _, rfl, rfl⟩
theorem rc_46 : RCk 46 RX2 := Or.inl ⟨2, _, _, rfl, rfl⟩
theorem rc_51 : RCk 51 RX5 := Or.inl ⟨5, _, _, rfl, rfl⟩
theorem rc_56 : RCk 56 RX3 := Or.inl ⟨3, _, _, rfl, rfl⟩
theorem rc_60 : RCk 60 RX4 := Or.inl ⟨4, _, _, rfl, rfl⟩
theorem rc_72 : RCk 72 RX9 := Or.inl ⟨9, _, _, rfl, rfl⟩
theorem rc_100 : RCk 100 RJ0 := Or.inr ⟨0, by decide, rfl, rfl⟩
theorem rc_101 : RCk 101 RJ0 := Or.inr ⟨1, by decide, rfl, rfl⟩
theorem rc_102 : RCk 102 RJ0 := Or.inr ⟨2, by decide, rfl, rfl⟩
theorem rc_103 : RCk 103 RJ0 := Or.inr ⟨3, by decide, rfl, rfl⟩
theorem rc_104 : RCk 104 RJ0 := Or.inr ⟨4, by decide, rfl, rfl⟩
theorem rc_105 : RCk 105 RJ0 := Or.inr ⟨5, by decide, rfl, rfl⟩
