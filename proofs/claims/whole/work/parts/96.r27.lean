section R27
variable {G : Gp} {I : Im} {L : Nat → Nat → Int64} {t : Nat}
section
variable {C M D E : Im} {L : Nat → Nat → Int64}
def Pr (C M D E : Im) : Prop := FrC D C ∧ FrM E M ∧ D 0 = C 0 ∧ D 102 = C 102 ∧ E 200 0 = M 200 0 ∧ E 200 2 = M 200 2 ∧ E 201 = M 201
theorem Pr.rel (h : RelP C M) (k : Pr C M D E) : RelP D E := rel_fr h k.1 k.2.1 k.2.2.1 k.2.2.2.1 k.2.2.2.2.1 k.2.2.2.2.2.2 k.2.2.2.2.2.1
theorem Pr.refl : Pr C M C M := ⟨FrC.refl, FrM.refl, rfl, rfl, rfl, rfl, rfl⟩
theorem Pr.trans {D' E' : Im} (h : Pr C M D E) (k : Pr D E D' E') : Pr C M D' E' := ⟨FrC.trans h.1 k.1, FrM.trans h.2.1 k.2.1, k.2.2.1.trans h.2.2.1, k.2.2.2.1.trans h.2.2.2.1, k.2.2.2.2.1.trans h.2.2.2.2.1, k.2.2.2.2.2.1.trans h.2.2.2.2.2.1, k.2.2.2.2.2.2.trans h.2.2.2.2.2.2⟩
theorem Pr.tell {v v' a a' : Int32} (h : RelP C M) (k : Pr C M D E) (ev : v = v') (ea : a = a') : Same C M ((f_X11_tell D v a).1, (f_X11_tell D v a).2) (a', up2 E 200 2 v') := sm_t h k.1 k.2.1 (by rw [k.2.2.1]) k.2.2.2.1 k.2.2.2.2.1 k.2.2.2.2.2.2 ev ea
theorem BaR_H {X : Im} {b n mo : Nat} {H K : Nat → Int32} (h : BaR X b H n mo) (e : ∀ p, p < 21 → K p = H p) : BaR X b K n mo := by
  have n16 := h.n16
  exact BaR.mk h.n3 h.n16 h.mm h.ce h.mu (by rw [e 2 (by decide)]; exact h.wi) (by rw [e 3 (by decide)]; exact h.ru) (by rw [e 4 (by decide)]; exact h.wa) (fun j hj => by rw [e _ (by omega)]; exact h.de j hj) (by rw [e 0 (by decide)]; exact h.h0) (by rw [e 1 (by decide)]; exact h.h1)
theorem HaX_H {H K : Nat → Int32} (h : HaX H) (e : ∀ p, p < 21 → K p = H p) : HaX K := ⟨by rw [e 2 (by decide)]; exact h.1, by rw [e 3 (by decide)]; exact h.2.1, fun j hj => by rw [e _ (by omega)]; exact h.2.2 j hj⟩
theorem BaR_t {b n mo : Nat} {H : Nat → Int32} (hb : 94 < b) (h : BaR C b H n mo) : BaR (baTake C 93 b) 93 H n mo := by
  have n16 := h.n16
  refine BaR.mk h.n3 h.n16 h.mm ?_ ?_ ?_ ?_ ?_ ?_ h.h0 h.h1
  · rw [ba_t (by omega) (by decide) (by decide)]
    exact h.ce
  · rw [ba_t (by omega) (by decide) (by decide)]
    exact h.mu
  · rw [ba_t (by omega) (by decide) (by decide)]
    exact h.wi
  · rw [ba_t (by omega) (by decide) (by decide)]
    exact h.ru
  · rw [ba_t (by omega) (by decide) (by decide)]
    exact h.wa
  · intro j hj
    unfold baTake
    rw [cp_in (by omega), tk1_off (by omega), tk1_off (by omega), tk1_off (by omega), tk1_off (by omega), tk1_off (by omega), tk1_off (by omega)]
    exact h.de j hj
theorem baT_o {b e : Nat} (h : e ≠ 93) (h1 : e ≠ 94) : baTake C 93 b e = C e := by
  unfold baTake
  rw [cpR_off h1, tk1_off h, tk1_off h, tk1_off h, tk1_off h, tk1_off h, tk1_off h]
theorem qw_sim {q n mo : Nat} {x : Int32} (h : RelP C M) (hq : q < 4) (hb : BaR C (124 + 2 * q) (fun p => M 208 (21 * q + p)) n mo) (hx : HaX (fun p => M 208 (21 * q + p))) : ∀ k, k ≤ (M 200 37).toNatClampNeg → BaR (qwN (baTake C 93 (124 + 2 * q)) x k) 93 (rdw (qbN (qb0 M q) x k) 500) n mo ∧ HaX (rdw (qbN (qb0 M q) x k) 500) := by
  obtain ⟨m, m5, em⟩ := h.wrk.m5
  have em' : (M 200 37).toNatClampNeg = m := by rw [em, nI_clamp (by omega)]
  intro k
  induction k with
  | zero =>
    intro _
    rw [qwN_0, qbN_0]
    exact ⟨BaR_H (BaR_t (by omega) hb) (fun p hp => qb0_p hp), HaX_H hx (fun p hp => qb0_p hp)⟩
  | succ k ih =>
    intro hk
    obtain ⟨i1, i2⟩ := ih (by omega)
    obtain ⟨w0, ⟨d, hd, ed⟩, ⟨v, hv, ev⟩, -⟩ := h.wrk.wk k (by omega)
    obtain ⟨hj, ej⟩ := vpn (h.wrk.wj k (by omega))
    have b2 : ∀ j, qbN (qb0 M q) x k 222 j = M 222 j := fun j => by rw [qbN_off (by decide), qb0_off (by decide) (by decide)]
    have x7 : ∀ j, j < 4 → qwN (baTake C 93 (124 + 2 * q)) x k (147 + k) j = M 222 (4 * k + j) := fun j hj => by
      rw [qwN_off (by omega) (by omega), baT_o (by omega) (by omega)]
      exact w0 j hj
    rw [qwN_s, qbN_s]
    by_cases c : x >>> (nI k &&& 31) &&& 1 = 1
    · rw [if_pos c, if_neg (b2i_n0.mpr c)]
      exact bd_sim (by omega) hd hj hv i1 i2 ((b2 _).trans ed) ((b2 _).trans ej) ((b2 _).trans ev) ((x7 0 (by decide)).trans ed) ((x7 1 (by decide)).trans ej) ((x7 2 (by decide)).trans ev)
    · rw [if_neg c, if_pos (b2i_0.mpr c)]
      exact ⟨i1, i2⟩
theorem wb_l {q z c : Nat} {x : Int32} {S : Im} (c4 : c ≤ 4) (hS : S 211 = M 211) : Laid (wbN S (cut (rdw (qbM M q x) 500)) z) (rdw (qbM M q x) 500) (fun i => M 211 (8 * z + i)) c := by
  refine ⟨fun p hp => ?_, fun i hi => ?_, fun p h1 h2 => ?_⟩
  · unfold wbN
    rw [wnd_out (by omega), wnd_out (by omega), upn_n (by omega)]
    exact if_pos (by omega)
  · unfold wbN
    rw [wnd_out (by omega), wnd_in (by omega), hS]
  · unfold wbN
    have e := wnd_in (N := wnd (upn (cut (rdw (qbM M q x) 500)) 21 (S 210 z)) 22 8 (fun j => S 211 (8 * z + j))) (g := fun _ => (0 : Int32)) (o := 30) (k := 95) (j := p - 30) (by omega)
    rw [show 30 + (p - 30) = p by omega] at e
    exact e
theorem qw_eq {q z : Nat} {x : Int32} (h : RelP C M) (hq : q < 4) (hz : z < 4) (h7 : ¬ M 207 q = 0) (h9 : ¬ M 209 z = 0) : (f_X11_quietWith C (124 + 2 * q) (132 + 3 * z) x).1 = qwV M q z x := by
  obtain ⟨⟨n, mo, hb⟩, hx⟩ := (h.har q hq).th h7
  obtain ⟨c, hs, em, -⟩ := (h.sea z hz).th h9
  have n16 := hb.n16
  have mm := hb.mm
  have c4 := hs.c4
  have e0 : M 208 (21 * q) = nI n := hb.h0
  have e1 : M 208 (21 * q + 1) = nI mo := hb.h1
  obtain ⟨i1, -⟩ := qw_sim (x := x) h hq hb hx _ (Nat.le_refl _)
  have hw := qw_w (x := x) h.hHm hq h7 h.hSb hz h.hWj h.hWm
  rw [e0, e1, em, nI_clamp (show n < 2 ^ 31 by omega), nI_clamp (show mo < 2 ^ 31 by omega), nI_clamp (show c < 2 ^ 31 by omega)] at hw
  have eB : qbM M q x = qbN (qb0 M q) x (M 200 37).toNatClampNeg := rfl
  rw [← eB] at i1
  have e16 : (baTake C 93 (124 + 2 * q) 0 16) = M 200 37 := by
    rw [baT_o (by decide) (by decide)]
    exact h.wrk.e
  have hQ : ∀ e, 94 < e → up2 (qwN (baTake C 93 (124 + 2 * q)) x (M 200 37).toNatClampNeg) 24 2 0 e = C e := fun e he => by rw [up2_off (by omega), qwN_off (by omega) (by omega), baT_o (by omega) (by omega)]
  have hb' : BaR (up2 (qwN (baTake C 93 (124 + 2 * q)) x (M 200 37).toNatClampNeg) 24 2 0) 93 (rdw (qbM M q x) 500) n mo := BaR_of i1 (up2_off (by decide)) (up2_off (by decide))
  have hs' : SeR (up2 (qwN (baTake C 93 (124 + 2 * q)) x (M 200 37).toNatClampNeg) 24 2 0) (132 + 3 * z) (fun i => M 211 (8 * z + i)) c := SeR_of hs (hQ _ (by omega)) (hQ _ (by omega)) (hQ _ (by omega))
  have hN := wk_NR hb' hs' (by omega) (by omega) u20 (by decide) (wb_l (z := z) (x := x) (q := q) c4 rfl) hw
  have eD : qwD M q z x = secI (wbN M (cut (rdw (qbM M q x) 500)) z) n mo c 300 := by
    unfold qwD
    rw [e0, e1, em, nI_clamp (by omega), nI_clamp (by omega), nI_clamp (by omega)]
  rw [← eD] at hN
  have ew := wild_c (f := rng (wakeI (up2 (qwN (baTake C 93 (124 + 2 * q)) x (M 200 37).toNatClampNeg) 24 2 0) 93 (132 + 3 * z)) 25) (g := rgM (qwD M q z x)) (n - 1) (fun i hi => rng_eq hN (by have := hb.n3; omega))
  have lw := wildN_le (rgM (qwD M q z x)) (n - 1)
  have n3 := hb.n3
  unfold f_X11_quietWith f_X11_quietOf qwV
  dsimp only
  rw [e16, e0, show wakeI (up2 (qwN (baTake C 93 (124 + 2 * q)) x (M 200 37).toNatClampNeg) 24 2 0) 93 (132 + 3 * z) 26 2 = nI n from hN.2.2.1, nI_clamp (show n < 2 ^ 31 by omega), ew, nI_clamp (by omega)]
  exact rng_eq hN (by omega)
theorem qw_pr {q z b s : Nat} {x : Int32} : Pr C M (f_X11_quietWith C b s x).2 (qwI M q z x) := by
  refine ⟨⟨fun e he => qw_off (by omega) (by omega) (by omega), by rw [qw_off (by omega) (by omega) (by omega)]⟩, ?_, qw_off (by omega) (by omega) (by omega), qw_off (by omega) (by omega) (by omega), qwI_200 (by decide), qwI_200 (by decide), qwI_off (by decide) (by decide)⟩
  refine ⟨fun e he => qwI_off (by omega) (by omega), fun j hj => ?_, qwI_200 (by decide)⟩
  unfold qwI
  unfold nw
  rw [flw_out (by omega)]
  unfold qbM
  generalize (M 200 37).toNatClampNeg = k
  induction k with
  | zero =>
    rw [qbN_0]
    unfold qb0 nw
    rw [flw_out (by omega), lk_off (by decide)]
  | succ k ih =>
    rw [qbN_s]
    split
    · exact ih
    · refine Eq.trans ?_ ih
      unfold f_X12_builds
      have a0 : ∀ y : Int32, j ≠ 500 + y.toNatClampNeg := fun y => by omega
      repeat' first | exact rfl | exact u2_j (a0 _) | refine ite_j ?_ ?_
theorem co_cm {x : Int32} (h : RelP C M) : ∀ k, k ≤ (M 200 37).toNatClampNeg → coN C x k = cmN M x k := by
  intro k
  induction k with
  | zero => intro _; rw [coN_0, cmN_0]
  | succ k ih =>
    intro hk
    have e := (h.wrk.wk k (by omega)).1 3 (by decide)
    rw [coN_s, cmN_s, ih (by omega), e]
    by_cases c : x >>> (nI k &&& 31) &&& 1 = 1
    · rw [if_pos c, if_neg (b2i_n0.mpr c)]
    · rw [if_neg c, if_pos (b2i_0.mpr c)]
/-- what must be there before a waking -/
theorem pre_wake {k z : Int32} (h : RelP C M) : (¬ 0 ≤ (f_X12_needWoken M k z).1 ∧ ((b2i (0 ≤ k ∧ k ≤ 3) = 0 ∧ Same C M (-1, C) (f_X12_needWoken M k z)) ∨ (¬ b2i (0 ≤ k ∧ k ≤ 3) = 0 ∧ b2i (0 ≤ z ∧ z ≤ 3) = 0 ∧ Same C M (-1, C) (f_X12_needWoken M k z)) ∨ (¬ b2i (0 ≤ k ∧ k ≤ 3) = 0 ∧ ¬ b2i (0 ≤ z ∧ z ≤ 3) = 0 ∧ C (124 + 2 * k.toNatClampNeg) 1 = 0 ∧ Same C M ((f_X11_refuse C 1).1, (f_X11_refuse C 1).2) (f_X12_needWoken M k z)) ∨ (¬ b2i (0 ≤ k ∧ k ≤ 3) = 0 ∧ ¬ b2i (0 ≤ z ∧ z ≤ 3) = 0 ∧ ¬ C (124 + 2 * k.toNatClampNeg) 1 = 0 ∧ C (132 + 3 * z.toNatClampNeg) 2 = 0 ∧ Same C M ((f_X11_refuse C 1).1, (f_X11_refuse C 1).2) (f_X12_needWoken M k z)))) ∨ (0 ≤ (f_X12_needWoken M k z).1 ∧ (f_X12_needWoken M k z).2 = M ∧ ¬ b2i (0 ≤ k ∧ k ≤ 3) = 0 ∧ ¬ b2i (0 ≤ z ∧ z ≤ 3) = 0 ∧ ¬ C (124 + 2 * k.toNatClampNeg) 1 = 0 ∧ ¬ C (132 + 3 * z.toNatClampNeg) 2 = 0 ∧ vp_in k 4 ∧ vp_in z 4 ∧ ¬ M 207 k.toNatClampNeg = 0 ∧ ¬ M 209 z.toNatClampNeg = 0) := by
  unfold f_X12_needWoken
  by_cases c1 : b2i (0 ≤ k ∧ k ≤ 3) = 0
  · rw [if_pos c1]
    exact Or.inl ⟨m1_n, Or.inl ⟨c1, sm_v h⟩⟩
  rw [if_neg c1]
  by_cases c2 : b2i (0 ≤ z ∧ z ≤ 3) = 0
  · rw [if_pos c2]
    exact Or.inl ⟨m1_n, Or.inr (Or.inl ⟨c1, c2, sm_v h⟩)⟩
  rw [if_neg c2]
  obtain ⟨qk, vk⟩ := cl_lt (N := 4) (by decide) c1
  obtain ⟨qz, vz⟩ := cl_lt (N := 4) (by decide) c2
  have m3 : ∀ X : Im, ¬ 0 ≤ ((-3 : Int32), X).1 := fun X z => absurd (show (0 : Int32) ≤ -3 from z) (by decide)
  by_cases c3 : M 207 k.toNatClampNeg = 0
  · rw [if_pos c3]
    exact Or.inl ⟨m3 _, Or.inr (Or.inr (Or.inl ⟨c1, c2, (h.har _ qk).e.trans c3, sm_1 h⟩))⟩
  rw [if_neg c3]
  by_cases c4 : M 209 z.toNatClampNeg = 0
  · rw [if_pos c4]
    exact Or.inl ⟨m3 _, Or.inr (Or.inr (Or.inr ⟨c1, c2, by rw [(h.har _ qk).e]; exact c3, (h.sea _ qz).e.trans c4, sm_1 h⟩))⟩
  rw [if_neg c4]
  exact Or.inr ⟨show (0 : Int32) ≤ 0 by decide, rfl, c1, c2, by rw [(h.har _ qk).e]; exact c3, by rw [(h.sea _ qz).e]; exact c4, vk, vz, c3, c4⟩
theorem K_does {k z x : Int32} (h : RelP C M) : Same C M (f_X11_does C k z x) (f_X12_does M k z x) := by
  unfold f_X11_does f_X12_does f_X11_allWorks
  rw [h.wrk.e]
  by_cases c0 : b2i (0 ≤ x ∧ x ≤ 1 <<< (M 200 37 &&& 31) - 1) = 0
  · simp only [if_pos c0]
    by_cases c1 : b2i (0 ≤ k ∧ k ≤ 3) = 0
    · rw [if_pos c1]
      exact sm_v h
    rw [if_neg c1]
    by_cases c2 : b2i (0 ≤ z ∧ z ≤ 3) = 0
    · rw [if_pos c2]
      exact sm_v h
    rw [if_neg c2]
    exact sm_v h
  simp only [if_neg c0]
  rcases pre_wake (k := k) (z := z) h with ⟨g0, ⟨c1, g⟩ | ⟨c1, c2, g⟩ | ⟨c1, c2, c3, g⟩ | ⟨c1, c2, c3, c4, g⟩⟩ | ⟨g0, g1, c1, c2, c3, c4, vk, vz, d3, d4⟩
  · simp only [if_neg g0, if_pos c1]
    exact g
  · simp only [if_neg g0, if_neg c1, if_pos c2]
    exact g
  · simp only [if_neg g0, if_neg c1, if_neg c2, if_pos c3]
    exact g
  · simp only [if_neg g0, if_neg c1, if_neg c2, if_neg c3, if_pos c4]
    exact g
  · simp only [if_pos g0, if_neg c1, if_neg c2, if_neg c3, if_neg c4, g1]
    exact qw_pr.tell h (co_cm h _ (Nat.le_refl _)) (qw_eq h (vpn vk).1 (vpn vz).1 d3 d4)
end
end R27
