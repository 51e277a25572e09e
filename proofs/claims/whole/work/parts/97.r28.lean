section R28
variable {G : Gp} {I : Im} {L : Nat → Nat → Int64} {t : Nat}
section
variable {C M D E : Im} {L : Nat → Nat → Int64}
theorem qb_0 {X : Im} : ∀ k, k ≤ 5 → qbN X 0 k = X := by
  intro k
  induction k with
  | zero => intro _; rw [qbN_0]
  | succ k ih =>
    intro hk
    have e : b2i ((0 : Int32) >>> (nI k &&& 31) &&& 1 = 1) = 0 := by
      rcases (by omega : k = 0 ∨ k = 1 ∨ k = 2 ∨ k = 3 ∨ k = 4) with rfl | rfl | rfl | rfl | rfl <;> decide
    rw [qbN_s, if_pos e]
    exact ih (by omega)
theorem cut_nw {X : Im} {N : Nat → Int32} : cut (rdw (nw X 500 N) 500) = cut N := by
  funext p
  unfold cut
  by_cases c : p < 125
  · rw [if_pos c, if_pos c]
    exact nw_in c
  · rw [if_neg c, if_neg c]
theorem qwD_0 {q z : Nat} (h : WmS M) : qwD M q z 0 = wkD M q z := by
  obtain ⟨m, hm, em⟩ := h
  unfold qwD wkD qbM
  rw [em, nI_clamp (by omega), qb_0 m hm]
  unfold qb0
  rw [cut_nw, wkM_e]
theorem qo_eq {q z : Nat} (h : RelP C M) (hq : q < 4) (hz : z < 4) (h7 : ¬ M 207 q = 0) (h9 : ¬ M 209 z = 0) : (f_X11_quietOf C (124 + 2 * q) (132 + 3 * z)).1 = qwV M q z 0 := by
  obtain ⟨n, n3, n16, e0, eC, e26, er⟩ := wake_both h hq hz h7 h9
  have ew : wildN (rng (wakeI (up2 C 24 2 0) (124 + 2 * q) (132 + 3 * z)) 25) (n - 1) = wildN (rgM (wkD M q z)) (n - 1) := wild_c _ (fun i hi => er i (by omega))
  have lw := wildN_le (rgM (wkD M q z)) (n - 1)
  unfold f_X11_quietOf qwV
  dsimp only
  rw [qwD_0 h.hWm, e26, e0, nI_clamp (show n < 2 ^ 31 by omega), ew, nI_clamp (by omega), er _ (by omega)]
theorem qo_pr {b s : Nat} : FrC (f_X11_quietOf C b s).2 C ∧ (f_X11_quietOf C b s).2 0 = C 0 ∧ (f_X11_quietOf C b s).2 102 = C 102 := by
  unfold f_X11_quietOf
  dsimp only
  exact ⟨FrC.trans (FrC.up (by omega)) (FrC.wk clr_t), by rw [wakeI_off clr_t (by omega), up2_off (by decide)], by rw [wakeI_off clr_t (by omega), up2_off (by decide)]⟩
theorem qo_pr2 {q z b s : Nat} {x : Int32} : Pr C M (f_X11_quietOf C b s).2 (qwI M q z x) := by
  obtain ⟨a1, a2, a3⟩ := qo_pr (C := C) (b := b) (s := s)
  have k := qw_pr (C := C) (M := M) (q := q) (z := z) (b := b) (s := s) (x := x)
  exact ⟨a1, k.2.1, a2, a3, k.2.2.2.2.1, k.2.2.2.2.2.1, k.2.2.2.2.2.2⟩
theorem wo_ws {q z : Nat} {w : Int32} (h : RelP C M) (hq : q < 4) (hz : z < 4) (h7 : ¬ M 207 q = 0) (h9 : ¬ M 209 z = 0) : ∀ k, (woN C (124 + 2 * q) (132 + 3 * z) w k).1 = (wsM M q z w k).1 ∧ (woN C (124 + 2 * q) (132 + 3 * z) w k).2.1 = (wsM M q z w k).2.1 ∧ Pr C M (woN C (124 + 2 * q) (132 + 3 * z) w k).2.2 (wsM M q z w k).2.2 := by
  intro k
  induction k with
  | zero =>
    rw [woN_0, wsM_0]
    exact ⟨rfl, rfl, Pr.refl⟩
  | succ k ih =>
    obtain ⟨i1, i2, i3⟩ := ih
    have eq := qw_eq (x := 1 <<< (nI k &&& 31)) (i3.rel h) hq hz (by rw [i3.2.1.1 207 (by omega)]; exact h7) (by rw [i3.2.1.1 209 (by omega)]; exact h9)
    rw [woN_s, wsM_s, eq, i1, i2]
    exact ⟨rfl, rfl, i3.trans qw_pr⟩
theorem K_worse {k z : Int32} (h : RelP C M) : Same C M (f_X11_worse C k z) (f_X12_worse M k z) := by
  unfold f_X11_worse f_X12_worse
  rcases pre_wake (k := k) (z := z) h with ⟨g0, ⟨c1, g⟩ | ⟨c1, c2, g⟩ | ⟨c1, c2, c3, g⟩ | ⟨c1, c2, c3, c4, g⟩⟩ | ⟨g0, g1, c1, c2, c3, c4, vk, vz, d3, d4⟩
  · simp only [if_neg g0, if_pos c1]
    exact g
  · simp only [if_neg g0, if_neg c1, if_pos c2]
    exact g
  · simp only [if_neg g0, if_neg c1, if_neg c2, if_pos c3]
    exact g
  · simp only [if_neg g0, if_neg c1, if_neg c2, if_neg c3, if_pos c4]
    exact g
  · simp only [if_pos g0, if_neg c1, if_neg c2, if_neg c3, if_neg c4, g1]
    have qk := (vpn vk).1
    have qz := (vpn vz).1
    have p1 := qo_pr2 (C := C) (M := M) (q := k.toNatClampNeg) (z := z.toNatClampNeg) (b := 124 + 2 * k.toNatClampNeg) (s := 132 + 3 * z.toNatClampNeg) (x := 0)
    have r1 := p1.rel h
    rw [qo_eq h qk qz d3 d4, r1.wrk.e]
    obtain ⟨a1, a2, a3⟩ := wo_ws (w := qwV M k.toNatClampNeg z.toNatClampNeg 0) r1 qk qz (by rw [p1.2.1.1 207 (by omega)]; exact d3) (by rw [p1.2.1.1 209 (by omega)]; exact d4) (qwI M k.toNatClampNeg z.toNatClampNeg 0 200 37).toNatClampNeg
    exact (p1.trans a3).tell h a2 a1
theorem cm_c {J : Im} {x : Int32} (h : J 222 = M 222) : ∀ k, cmN J x k = cmN M x k := by
  intro k
  induction k with
  | zero => rw [cmN_0, cmN_0]
  | succ k ih => rw [cmN_s, cmN_s, ih, h]
theorem cm_z : ∀ k, k ≤ 5 → cmN M 0 k = 0 := by
  intro k
  induction k with
  | zero => intro _; rw [cmN_0]
  | succ k ih =>
    intro hk
    have e : b2i ((0 : Int32) >>> (nI k &&& 31) &&& 1 = 1) = 0 := by
      rcases (by omega : k = 0 ∨ k = 1 ∨ k = 2 ∨ k = 3 ∨ k = 4) with rfl | rfl | rfl | rfl | rfl <;> decide
    rw [cmN_s, if_pos e, ih (by omega)]
    rfl
theorem le_ls {q z : Nat} {c : Int32} (hc : 0 ≤ c) (h : RelP C M) (hq : q < 4) (hz : z < 4) (h7 : ¬ M 207 q = 0) (h9 : ¬ M 209 z = 0) : ∀ k, k < 100 → (leN C (124 + 2 * q) (132 + 3 * z) c (M 200 37).toNatClampNeg k).1 = (lsM M q z c (M 200 37).toNatClampNeg (k + 1)).1 ∧ (leN C (124 + 2 * q) (132 + 3 * z) c (M 200 37).toNatClampNeg k).2.1 = (lsM M q z c (M 200 37).toNatClampNeg (k + 1)).2.1 ∧ (leN C (124 + 2 * q) (132 + 3 * z) c (M 200 37).toNatClampNeg k).2.2.1 = cmN M (lsM M q z c (M 200 37).toNatClampNeg (k + 1)).1 (M 200 37).toNatClampNeg ∧ ¬ (lsM M q z c (M 200 37).toNatClampNeg (k + 1)).1 = -9 ∧ Pr C M (leN C (124 + 2 * q) (132 + 3 * z) c (M 200 37).toNatClampNeg k).2.2.2 (lsM M q z c (M 200 37).toNatClampNeg (k + 1)).2.2 := by
  obtain ⟨m, m5, em⟩ := h.wrk.m5
  intro k
  induction k with
  | zero =>
    intro _
    have z0 : cmN M 0 (M 200 37).toNatClampNeg = 0 := by
      rw [em, nI_clamp (by omega)]
      exact cm_z m m5
    have e : lsM M q z c (M 200 37).toNatClampNeg (0 + 1) = (0, qwV M q z 0, qwI M q z 0) := by
      rw [lsM_s, lsM_0]
      dsimp only
      rw [show nI 0 = 0 from rfl, z0, if_neg (Int32.not_lt.mpr hc), if_pos (Or.inl rfl)]
    rw [e, leN_0]
    dsimp only
    exact ⟨rfl, qo_eq h hq hz h7 h9, z0.symm, by decide, qo_pr2⟩
  | succ k ih =>
    intro hk
    obtain ⟨i1, i2, i3, i4, i5⟩ := ih (by omega)
    have r := i5.rel h
    have s7 : ¬ (lsM M q z c (M 200 37).toNatClampNeg (k + 1)).2.2 207 q = 0 := by rw [i5.2.1.1 207 (by omega)]; exact h7
    have s9 : ¬ (lsM M q z c (M 200 37).toNatClampNeg (k + 1)).2.2 209 z = 0 := by rw [i5.2.1.1 209 (by omega)]; exact h9
    have eq := qw_eq (x := nI (k + 1)) r hq hz s7 s9
    have s2 : (lsM M q z c (M 200 37).toNatClampNeg (k + 1)).2.2 222 = M 222 := i5.2.1.1 222 (by omega)
    have s37 : (lsM M q z c (M 200 37).toNatClampNeg (k + 1)).2.2 200 37 = M 200 37 := i5.2.1.2.2
    have ec := co_cm (x := nI (k + 1)) r (M 200 37).toNatClampNeg (by rw [s37]; exact Nat.le_refl _)
    have t2 : qwI (lsM M q z c (M 200 37).toNatClampNeg (k + 1)).2.2 q z (nI (k + 1)) 222 = M 222 := by rw [qwI_off (by decide) (by decide)]; exact s2
    rw [leN_s, lsM_s, eq, ec, cm_c s2, cm_c t2, cm_c t2, i2, i3]
    by_cases c1 : c < cmN M (nI (k + 1)) (M 200 37).toNatClampNeg
    · rw [if_pos c1, if_pos c1]
      exact ⟨i1, i2, i3, i4, i5⟩
    rw [if_neg c1, if_neg c1]
    by_cases c2 : qwV (lsM M q z c (M 200 37).toNatClampNeg (k + 1)).2.2 q z (nI (k + 1)) < (lsM M q z c (M 200 37).toNatClampNeg (k + 1)).2.1 ∨ qwV (lsM M q z c (M 200 37).toNatClampNeg (k + 1)).2.2 q z (nI (k + 1)) = (lsM M q z c (M 200 37).toNatClampNeg (k + 1)).2.1 ∧ cmN M (nI (k + 1)) (M 200 37).toNatClampNeg < cmN M (lsM M q z c (M 200 37).toNatClampNeg (k + 1)).1 (M 200 37).toNatClampNeg
    · rw [if_pos c2, if_pos (Or.inr c2)]
      exact ⟨rfl, rfl, rfl, fun z => absurd (z ▸ nI_pos' (by omega) : (0 : Int32) ≤ -9) (by decide), i5.trans qw_pr⟩
    · rw [if_neg c2, if_neg (fun z => z.elim i4 c2)]
      exact ⟨i1, rfl, rfl, i4, i5.trans qw_pr⟩
theorem K_least {k z c : Int32} (h : RelP C M) : Same C M (f_X11_least C k z c) (f_X12_least M k z c) := by
  unfold f_X11_least f_X12_least
  by_cases c0 : b2i (0 ≤ c ∧ c ≤ 500) = 0
  · simp only [if_pos c0]
    by_cases c1 : b2i (0 ≤ k ∧ k ≤ 3) = 0
    · rw [if_pos c1]
      exact sm_v h
    rw [if_neg c1]
    by_cases c2 : b2i (0 ≤ z ∧ z ≤ 3) = 0
    · rw [if_pos c2]
      exact sm_v h
    rw [if_neg c2]
    exact sm_v h
  simp only [if_neg c0]
  rcases pre_wake (k := k) (z := z) h with ⟨g0, ⟨c1, g⟩ | ⟨c1, c2, g⟩ | ⟨c1, c2, c3, g⟩ | ⟨c1, c2, c3, c4, g⟩⟩ | ⟨g0, g1, c1, c2, c3, c4, vk, vz, d3, d4⟩
  · simp only [if_neg g0, if_pos c1]
    exact g
  · simp only [if_neg g0, if_neg c1, if_pos c2]
    exact g
  · simp only [if_neg g0, if_neg c1, if_neg c2, if_pos c3]
    exact g
  · simp only [if_neg g0, if_neg c1, if_neg c2, if_neg c3, if_pos c4]
    exact g
  · simp only [if_pos g0, if_neg c1, if_neg c2, if_neg c3, if_neg c4, g1]
    obtain ⟨m, m5, em⟩ := h.wrk.m5
    have pw : 2 ^ (M 200 37).toNatClampNeg - 1 < 100 ∧ 2 ^ (M 200 37).toNatClampNeg - 1 + 1 = 2 ^ (M 200 37).toNatClampNeg := by
      rw [em, nI_clamp (by omega)]
      rcases (by omega : m = 0 ∨ m = 1 ∨ m = 2 ∨ m = 3 ∨ m = 4 ∨ m = 5) with rfl | rfl | rfl | rfl | rfl | rfl <;> decide
    rw [h.wrk.e]
    obtain ⟨a1, a2, -, -, a5⟩ := le_ls (c := c) (b2i_n0.mp c0).1 h (vpn vk).1 (vpn vz).1 d3 d4 _ pw.1
    rw [pw.2] at a1 a2 a5
    exact a5.tell h a2 a1
end
end R28
