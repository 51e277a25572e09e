section R35
variable {G : Gp} {I : Im} {L : Nat → Nat → Int64} {t : Nat}
section
variable {C M D E : Im} {L : Nat → Nat → Int64}
theorem qo_w {q z : Nat} (h : RelP C M) (hq : q < 4) (hz : z < 4) (h7 : ¬ M 207 q = 0) (h9 : ¬ M 209 z = 0) : (f_X11_quietOf C (124 + 2 * q) (132 + 3 * z)).1 = rgM (wkD M q z) (wildN (rgM (wkD M q z)) ((M 208 (21 * q)).toNatClampNeg - 1)) := by
  rw [qo_eq h hq hz h7 h9]
  unfold qwV
  rw [qwD_0 h.hWm]
theorem qo_gt {q z : Nat} (h : RelP C M) (hq : q < 4) (hz : z < 4) (h7 : ¬ M 207 q = 0) (h9 : ¬ M 209 z = 0) : -1 < rgM (wkD M q z) (wildN (rgM (wkD M q z)) ((M 208 (21 * q)).toNatClampNeg - 1)) := by
  obtain ⟨⟨n, mo, hb⟩, hx⟩ := (h.har q hq).th h7
  obtain ⟨c, hs, em, sx⟩ := (h.sea z hz).th h9
  obtain ⟨l1, l2, e0, e1⟩ := wkM_l hb hs em
  have n16 := hb.n16
  have n3 := hb.n3
  have lw := wildN_le (rgM (secI (wkM M q z) n mo c 300)) (n - 1)
  rw [wkD_eq hb.n16 hb.mm hs.c4 e0 e1 em, e0, nI_clamp (by omega)]
  refine rg_nn l2 (HaX_H hx (fun p hp => wkM_h hp)) (fun i hi => ?_) (fun p h1 h2 => wkM_z h1) (by omega)
  have c4 := hs.c4
  obtain ⟨-, a, ha, ea⟩ := sx i hi
  exact ⟨a, ha, by rw [show 23 + 2 * i = 22 + (2 * i + 1) by omega, wkM_s (by omega)]; exact ea⟩
theorem lw_pr {q z b s : Nat} : Pr C M (f_X11_quietOf C b s).2 (lwI M q z) := by
  obtain ⟨a1, a2, a3⟩ := qo_pr (C := C) (b := b) (s := s)
  exact ⟨a1, FrM.lw, a2, a3, lw_200 (by decide), lw_200 (by decide), lwI_off (by decide) (by decide)⟩
theorem ws_mw {q : Nat} (h : RelP C M) (hq : q < 4) (h7 : ¬ M 207 q = 0) : ∀ k, k ≤ 4 → Pr C M (wsN C (124 + 2 * q) k).2.2 (mwN M q (M 208 (21 * q)).toNatClampNeg k).2.2 ∧ (((wsN C (124 + 2 * q) k).2.1 = -1 ∧ (mwN M q (M 208 (21 * q)).toNatClampNeg k).1 = -9 ∧ ∀ i, i < k → M 209 i = 0) ∨ ((wsN C (124 + 2 * q) k).1 = (mwN M q (M 208 (21 * q)).toNatClampNeg k).1 ∧ (wsN C (124 + 2 * q) k).2.1 = (mwN M q (M 208 (21 * q)).toNatClampNeg k).2.1 ∧ ¬ (mwN M q (M 208 (21 * q)).toNatClampNeg k).1 = -9)) := by
  intro k
  induction k with
  | zero =>
    intro _
    rw [wsN_0, mwN_0]
    exact ⟨Pr.refl, Or.inl ⟨rfl, rfl, fun i hi => absurd hi (Nat.not_lt_zero i)⟩⟩
  | succ k ih =>
    intro hk
    obtain ⟨i1, i2⟩ := ih (by omega)
    have r := i1.rel h
    have f9 : (mwN M q (M 208 (21 * q)).toNatClampNeg k).2.2 209 k = M 209 k := by rw [i1.2.1.1 209 (by omega)]
    have f8 : (mwN M q (M 208 (21 * q)).toNatClampNeg k).2.2 208 = M 208 := i1.2.1.1 208 (by omega)
    have s7 : ¬ (mwN M q (M 208 (21 * q)).toNatClampNeg k).2.2 207 q = 0 := by rw [i1.2.1.1 207 (by omega)]; exact h7
    rw [wsN_s, mwN_s, (r.sea k (by omega)).e, f9]
    by_cases c9 : M 209 k = 0
    · rw [if_pos c9, if_pos c9]
      refine ⟨i1, i2.elim (fun z => Or.inl ⟨z.1, z.2.1, fun i hi => ?_⟩) Or.inr⟩
      by_cases e : i = k
      · rw [e]
        exact c9
      · exact z.2.2 i (by omega)
    · rw [if_neg c9, if_neg c9]
      have s9 : ¬ (mwN M q (M 208 (21 * q)).toNatClampNeg k).2.2 209 k = 0 := by rw [f9]; exact c9
      have ev := qo_w r hq (show k < 4 by omega) s7 s9
      have gt := qo_gt r hq (show k < 4 by omega) s7 s9
      rw [f8] at ev gt
      rw [ev]
      have n9 : ¬ nI k = -9 := fun z => absurd (z ▸ nI_pos' (by omega) : (0 : Int32) ≤ -9) (by decide)
      rcases i2 with ⟨a1, a2, -⟩ | ⟨a1, a2, a3⟩
      · rw [a1, if_pos gt, if_pos (Or.inl a2)]
        exact ⟨i1.trans lw_pr, Or.inr ⟨rfl, rfl, n9⟩⟩
      · rw [a2]
        by_cases c : (mwN M q (M 208 (21 * q)).toNatClampNeg k).2.1 < rgM (wkD (mwN M q (M 208 (21 * q)).toNatClampNeg k).2.2 q k) (wildN (rgM (wkD (mwN M q (M 208 (21 * q)).toNatClampNeg k).2.2 q k)) ((M 208 (21 * q)).toNatClampNeg - 1))
        · rw [if_pos c, if_pos (Or.inr c)]
          exact ⟨i1.trans lw_pr, Or.inr ⟨rfl, rfl, n9⟩⟩
        · rw [if_neg c, if_neg (fun z => z.elim a3 c)]
          exact ⟨i1.trans lw_pr, Or.inr ⟨a1, rfl, a3⟩⟩
theorem any_z (h : ∀ i, i < 4 → M 209 i = 0) : f_X12_isAnySea M = 0 := by
  unfold f_X12_isAnySea
  rw [if_pos (show M 209 (0 : Int32).toNatClampNeg = 0 from h 0 (by decide)), if_pos (show M 209 (0 + 1 : Int32).toNatClampNeg = 0 from h 1 (by decide)), if_pos (show M 209 (0 + 1 + 1 : Int32).toNatClampNeg = 0 from h 2 (by decide)), if_pos (show M 209 (0 + 1 + 1 + 1 : Int32).toNatClampNeg = 0 from h 3 (by decide))]
theorem K_wakes {k : Int32} (h : RelP C M) : Same C M (f_X11_wakes C k) (f_X12_wakes M k) := by
  unfold f_X11_wakes f_X12_wakes
  by_cases c1 : b2i (0 ≤ k ∧ k ≤ 3) = 0
  · simp only [if_pos c1]
    exact sm_v h
  simp only [if_neg c1]
  obtain ⟨qk, vk⟩ := cl_lt (N := 4) (by decide) c1
  rw [(h.har _ qk).e, any_eq h]
  by_cases c3 : M 207 k.toNatClampNeg = 0
  · simp only [if_pos c3]
    exact sm_1 h
  by_cases c4 : f_X12_isAnySea M = 0
  · simp only [if_neg c3, if_pos c4]
    exact sm_1 h
  simp only [if_neg c3, if_neg c4]
  obtain ⟨p, z⟩ := ws_mw h qk c3 4 (by decide)
  rcases z with ⟨-, -, z⟩ | ⟨a1, a2, -⟩
  · exact absurd (any_z z) c4
  · exact p.tell h a2 a1
/-- a window laid with a harbour and a sea -/
theorem wb_all {b z n mo c : Nat} {X H : Nat → Int32} (hb : BaR C b H n mo) (hx : HaX H) (hs : SeR C (132 + 3 * z) (fun i => M 211 (8 * z + i)) c) (em : M 210 z = nI c) (sx : SeX (fun i => M 211 (8 * z + i)) c) (hX : ∀ p, p < 21 → X p = H p) : Laid (wbN M X z) H (fun i => M 211 (8 * z + i)) c ∧ WfN (wbN M X z) n mo c ∧ HaX (wbN M X z) ∧ (∀ i, i < c → ∃ a, a ≤ 99 ∧ wbN M X z (23 + 2 * i) = nI a) ∧ ∀ p, 30 ≤ p → p < 95 → wbN M X z p = 0 := by
  have c4 := hs.c4
  have p0 : ∀ p, p < 21 → wbN M X z p = H p := fun p hp => by
    unfold wbN
    rw [wnd_out (by omega), wnd_out (by omega), upn_n (by omega)]
    exact hX p hp
  have p1 : wbN M X z 21 = M 210 z := by
    unfold wbN
    rw [wnd_out (by omega), wnd_out (by omega), upn_s]
  have p2 : ∀ i, i < 8 → wbN M X z (22 + i) = M 211 (8 * z + i) := fun i hi => by
    unfold wbN
    rw [wnd_out (by omega), wnd_in (by omega)]
  have p3 : ∀ p, 30 ≤ p → p < 125 → wbN M X z p = 0 := fun p h1 h2 => by
    unfold wbN
    have e := wnd_in (N := wnd (upn X 21 (M 210 z)) 22 8 (fun j => M 211 (8 * z + j))) (g := fun _ => (0 : Int32)) (o := 30) (k := 95) (j := p - 30) (by omega)
    rw [show 30 + (p - 30) = p by omega] at e
    exact e
  refine ⟨⟨p0, fun i hi => p2 i (by omega), fun p h1 h2 => p3 p h1 (by omega)⟩, ⟨⟨hb.n3, hb.n16⟩, ?_, ⟨hb.mm, ?_⟩, ⟨c4, ?_, fun i hi => ?_⟩, fun s hs h1 => ?_⟩, HaX_H hx p0, fun i hi => ?_, fun p h1 h2 => p3 p h1 (by omega)⟩
  · rw [p0 0 (by decide)]
    exact hb.h0
  · rw [p0 1 (by decide)]
    exact hb.h1
  · rw [p1]
    exact em
  · rw [p2 _ (by omega)]
    intro zz
    exact (hs.be i hi).2.2 (by rw [zz]; decide)
  · rw [p3 _ (by omega) (by omega)] at h1
    exact absurd h1 (by decide)
  · obtain ⟨-, a, ha, ea⟩ := sx i hi
    exact ⟨a, ha, by rw [show 23 + 2 * i = 22 + (2 * i + 1) by omega, p2 _ (by omega)]; exact ea⟩
theorem far_sym {x y : Int32} : (if x < y then y - x else x - y) = if y < x then x - y else y - x := by
  by_cases c : x < y
  · rw [if_pos c, if_neg (Int32.not_lt.mpr (Int32.le_of_lt c))]
  · rw [if_neg c]
    by_cases d : y < x
    · rw [if_pos d]
    · have : x = y := Int32.le_antisymm (Int32.not_lt.mp d) (Int32.not_lt.mp c)
      rw [if_neg d, this]
theorem far_i {x y : Int32} (x1 : -10000 ≤ x.toInt) (x2 : x.toInt ≤ 10000) (y1 : -4000000 ≤ y.toInt) (y2 : y.toInt ≤ 4000000) : 0 ≤ (if y < x then x - y else y - x).toInt ∧ (if y < x then x - y else y - x).toInt ≤ 4010000 := by
  have e1 : (x - y).toInt = x.toInt - y.toInt := i_sub rfl rfl (by omega) (by omega)
  have e2 : (y - x).toInt = y.toInt - x.toInt := i_sub rfl rfl (by omega) (by omega)
  split
  · have := Int32.lt_iff_toInt_lt.mp (by assumption)
    omega
  · have := Int32.le_iff_toInt_le.mp (Int32.not_lt.mp (by assumption))
    omega
theorem of_sim {b s n mo c q p r m : Nat} {N : Nat → Int32} (hW : WR (waBegin C 25 b s) 25 N n mo c) (hw : WfN N n mo c) (hx : HaX N) (hs : ∀ i, i < c → ∃ a, a ≤ 99 ∧ N (23 + 2 * i) = nI a) (h0 : ∀ p, 30 ≤ p → p < 95 → N p = 0) (hq : q < n) (hp : 103 < p) (hm : m ≤ 60) (hr : ∀ i, i < m → C (p + 1) i = M 203 (60 * r + i)) (hv : ∀ i, i < m → -10000 ≤ M 203 (60 * r + i) ∧ M 203 (60 * r + i) ≤ 10000) : ∀ k, k ≤ m → (ofN C b s n c q p k).1 = ofM M r N n mo c q k ∧ WR (ofN C b s n c q p k).2 25 (secI N n mo c k) n mo c ∧ 0 ≤ (ofM M r N n mo c q k).toInt ∧ (ofM M r N n mo c q k).toInt ≤ 4010000 * (k : Int) := by
  intro k
  induction k with
  | zero =>
    intro _
    rw [ofN_0, ofM_0, secI_0]
    exact ⟨rfl, hW, by decide, by decide⟩
  | succ k ih =>
    intro hk
    obtain ⟨i1, i2, i3, i4⟩ := ih (by omega)
    have sW := WR_s i2 (WfN_i hw k)
    have eh : waPass (ofN C b s n c q p k).2 25 n c 31 q = secI N n mo c (k + 1) (31 + q) := by
      rw [secI_s]
      exact sW.he q hq
    have ev : waPass (ofN C b s n c q p k).2 25 n c (p + 1) k = M 203 (60 * r + k) := by
      rw [waPass_off (by omega) (by omega) (by omega) (by omega) (by omega), ofN_off (by omega)]
      exact hr k (by omega)
    have sm := h_small hw hx hs h0 (k := k + 1) (by omega) hq
    have v1 := Int32.le_iff_toInt_le.mp (hv k (by omega)).1
    have v2 := Int32.le_iff_toInt_le.mp (hv k (by omega)).2
    rw [show (-10000 : Int32).toInt = -10000 from rfl] at v1
    rw [show (10000 : Int32).toInt = 10000 from rfl] at v2
    rw [ofN_s, ofM_s, eh, ev, far_abs (by omega) (by omega) (by omega) (by omega), far_sym, i1]
    have f := far_i v1 v2 sm.1 sm.2
    generalize (if secI N n mo c (k + 1) (31 + q) < M 203 (60 * r + k) then M 203 (60 * r + k) - secI N n mo c (k + 1) (31 + q) else secI N n mo c (k + 1) (31 + q) - M 203 (60 * r + k)) = x at f
    have e := i_add (a := ofM M r N n mo c q k) (b := x) rfl rfl (by omega) (by omega)
    refine ⟨rfl, ?_, ?_, ?_⟩
    · rw [secI_s]
      exact sW
    · rw [e]
      omega
    · rw [e]
      omega
end
end R35
