section R11
variable {G : Gp} {I : Im} {L : Nat → Nat → Int64} {t : Nat}
section
variable {C M D E : Im}
theorem Rel_nig (h : RelP C M) (hC : ∀ e, e = 95 ∨ (104 ≤ e ∧ e < 200) → D e = C e) (hC2 : D 0 16 = C 0 16) (hM : ∀ e, e = 202 ∨ e = 203 ∨ (205 ≤ e ∧ e ≤ 211) ∨ (214 ≤ e ∧ e ≤ 215) ∨ e = 222 → E e = M e) (h6 : ∀ q, q < 3 → E 216 (1 + q) = M 216 (1 + q)) (hM2 : ∀ j, 125 ≤ j → j < 500 → E 217 j = M 217 j) (hM3 : E 200 37 = M 200 37) (hX : NigR D E 8 0 0) (hF : FndR D E) : RelP D E := by
  refine RelP.mk ?_ ?_ ?_ ?_ ?_ ?_ hX ?_ hF ?_ ?_
  · intro q hq
    exact RowR_of (h.row q hq) (hC _ (by omega)) (hC _ (by omega)) (by rw [hM 202 (by omega)]) (fun i hi => by rw [hM 203 (by omega)])
  · intro q hq
    exact TxtR_of (h.txt q hq) (hC _ (by omega)) (hC _ (by omega)) (by rw [hM 205 (by omega)]) (fun i hi => by rw [hM 206 (by omega)])
  · intro q hq
    exact HarR_of (h.har q hq) (hC _ (by omega)) (hC _ (by omega)) (by rw [hM 207 (by omega)]) (fun i hi => by rw [hM 208 (by omega)])
  · intro q hq
    exact SeaR_of (h.sea q hq) (hC _ (by omega)) (hC _ (by omega)) (hC _ (by omega)) (by rw [hM 209 (by omega)]) (by rw [hM 210 (by omega)]) (fun i hi => by rw [hM 211 (by omega)])
  · intro q hq
    exact ShpR_of (h.shp q hq) (hC _ (by omega)) (by rw [hM 214 (by omega)]) (fun i hi => by rw [hM 215 (by omega)])
  · exact WrkR_of h.wrk hC2 (fun q hq => hC _ (by omega)) hM3 (hM 222 (by omega))
  · intro q hq
    exact NigR_of (h.kep q hq) (fun e h1 h2 => hC e (by omega)) (h6 q hq) (fun p hp => hM2 _ (by omega) (by omega))
  · unfold CalmS
    rw [hC 95 (by omega)]
    exact h.cal
  · unfold BtS
    rw [hM 206 (by omega)]
    exact h.bts
theorem niP_0 {a n c m q : Nat} (h0 : C (a + 13 + q) 0 = 0) : ∀ k, niPass C a n c m k (a + 13 + q) = C (a + 13 + q) := by
  intro k
  induction k with
  | zero => rfl
  | succ k ih =>
    show niStep (niPass C a n c m k) a n c m (a + 13 + q) = _
    unfold niStep
    have o : waPass (niPass C a n c m k) (a + 1) n c (a + 13 + q) = C (a + 13 + q) := by
      rw [waPass_off (by omega) (by omega) (by omega) (by omega) (by omega)]
      exact ih
    rw [rid_z (by rw [o]; exact h0) m]
    exact o
theorem secI_r {N : Nat → Int32} {n mo c i j : Nat} (h : WfN N n mo c) (hi : i < 3) (hj : j < 6) : ∀ k, secI N n mo c k (95 + 10 * i + j) = N (95 + 10 * i + j) := by
  intro k
  induction k with
  | zero => rw [secI_0]
  | succ k ih => rw [secI_s, secN_r h.1.2 h.2.2.1.1 hi hj, ih]
theorem NigR_go {a B f n mo c k : Nat} (h : NigR C M a B f) (hz : ¬ M 216 f = 0) (hN : NR C a 3 (rdw M B) n mo c) (e1 : E 216 f = M 216 f) (e2 : ∀ p, p < 125 → E 217 (B + p) = secI (rdw M B) n mo c k p) : NigR (niPass C a n c 3 k) E a B f := by
  obtain ⟨-, x1, x2, x3, x4⟩ := h.th hz
  have hNk := NR_i hN k
  have hw := hN.2.1
  have off : ∀ e, e ≠ a + 1 → e ≠ a + 7 → e ≠ a + 8 → e ≠ a + 10 → e ≠ a + 11 → (∀ i, i < 3 → e ≠ a + 13 + i) → niPass C a n c 3 k e = C e := fun e g0 g6 g7 g9 g10 gb => niPass_off g0 g6 g7 g9 g10 gb k
  have er : ∀ p, p < 125 → rdw E B p = secI (rdw M B) n mo c k p := e2
  refine NigR.mk (by rw [e1]; exact h.z) ?_ ?_
  · rw [off a (by omega) (by omega) (by omega) (by omega) (by omega) (fun i hi => by omega), e1]
    exact h.e
  · intro _
    refine ⟨⟨n, mo, c, NR_of hNk (fun e _ _ => rfl) er⟩, ?_, ?_, ?_, ?_⟩
    · rw [off (a + 2) (by omega) (by omega) (by omega) (by omega) (by omega) (fun i hi => by omega)]
      exact x1
    · rw [off (a + 4) (by omega) (by omega) (by omega) (by omega) (by omega) (fun i hi => by omega)]
      exact x2
    · rw [off (a + 2) (by omega) (by omega) (by omega) (by omega) (by omega) (fun i hi => by omega)]
      intro n' hn' n16 s hs
      have en : n' = n := (nI_eq (by omega) (by have := hw.1.2; omega)).mp (hn'.symm.trans hN.2.2.1)
      subst en
      rcases x3 n' hn' n16 s hs with z | z
      · refine Or.inl ⟨by rw [niP_0 z.1 k]; exact z.1, ?_⟩
        have := secI_r hw hs (show 0 < 6 by decide) k
        rw [Nat.add_zero] at this
        rw [er _ (by omega), this]
        exact z.2
      · refine Or.inr ⟨?_, ?_⟩
        · rw [niPass_z (by omega) k]
          exact z.1
        · exact BoK_of (BoK_i hN z.2 hs hs k) hs rfl er
    · refine HaX_of x4 (fun p hp => ?_)
      rw [er p (by omega), secI_c hw (by omega) k]
theorem sm_mk2 {a a' : Int32} (ea : a = a') (hR : RelP D E) (h1 : ∀ e, 200 ≤ e → D e = C e) (h2 : ∀ e, e < 200 → E e = M e) : Same C M (a, D) (a', E) := ⟨ea, hR, h1, h2⟩
theorem go_w {k : Nat} (h : WfS M 0) : ∀ p, p < 125 → goW (lkI M 0) 0 k 217 (0 + p) = secI (rdw M 0) (M 217 0).toNatClampNeg (M 217 (0 + 1)).toNatClampNeg (M 217 (0 + 21)).toNatClampNeg k p := by
  intro p hp
  unfold goW
  rw [nw_in hp]
  rfl
theorem goW_far {k j : Nat} (h : 125 ≤ j) : goW (lkI M 0) 0 k 217 j = M 217 j := by
  unfold goW
  exact flw_out (by omega)
theorem K_go {n : Int32} (h : RelP C M) : Same C M (f_X11_go C n) (f_X12_go M n) := by
  unfold f_X11_go f_X12_go
  by_cases c1 : b2i (0 ≤ n ∧ n ≤ 400) = 0
  · rw [if_pos c1, if_pos c1]
    exact sm_v h
  rw [if_neg c1, if_neg c1, h.nig.e, show (0 : Int32).toNatClampNeg = 0 from rfl]
  by_cases c2 : M 216 0 = 0
  · rw [if_pos c2, if_pos c2]
    exact sm_v h
  rw [if_neg c2, if_neg c2]
  obtain ⟨⟨nn, mo, c, hN⟩, -⟩ := h.nig.th c2
  have es : C 9 7 = M 217 30 := by
    have := hN.1.sec
    rw [show (rdw M 0) 30 = M 217 30 by unfold rdw; rw [Nat.zero_add]] at this
    exact this
  have e30 : lkI M 0 217 (0 + (30 : Int32).toNatClampNeg) = M 217 30 := by rw [lk_off (by decide)]; rfl
  dsimp only
  rw [e30, es]
  by_cases c3 : M 217 30 + n ≤ 10000
  · rw [if_pos c3, if_pos c3]
    have hw := hN.2.1
    have n16 := hw.1.2
    have mn := hw.2.2.1.1
    have c4 := hw.2.2.2.1.1
    have hWf := h.nig.hW c2
    have g1 : niGo C 8 n.toNatClampNeg = niPass C 8 nn c 3 n.toNatClampNeg := by
      unfold niGo
      rw [hN.2.2.1, hN.2.2.2.1, hN.2.2.2.2, nI_clamp (by omega), nI_clamp (by omega), nI_clamp (by omega)]
    have q0 : M 217 0 = nI nn := by
      have := hw.2.1
      unfold rdw at this
      rw [Nat.zero_add] at this
      exact this
    have q1 : M 217 (0 + 1) = nI mo := hw.2.2.1.2
    have q2 : M 217 (0 + 21) = nI c := hw.2.2.2.1.2.1
    have g2 : ∀ p, p < 125 → goW (lkI M 0) 0 n.toNatClampNeg 217 (0 + p) = secI (rdw M 0) nn mo c n.toNatClampNeg p := fun p hp => by
      rw [go_w hWf p hp, q0, q1, q2, nI_clamp (by omega), nI_clamp (by omega), nI_clamp (by omega)]
    have gO : ∀ e, e ≠ 200 → e ≠ 217 → goW (lkI M 0) 0 n.toNatClampNeg e = M e := fun e h1 h2 => by rw [goW_off h2, lk_off h1]
    have g200 : ∀ j, j ≠ 24 → goW (lkI M 0) 0 n.toNatClampNeg 200 j = M 200 j := fun j hj => by rw [goW_off (by decide)]; exact u2_j hj
    rw [g1]
    have hX : NigR (niPass C 8 nn c 3 n.toNatClampNeg) (goW (lkI M 0) 0 n.toNatClampNeg) 8 0 0 := NigR_go h.nig c2 hN (by rw [gO 216 (by decide) (by decide)]) g2
    have fC : ∀ e, e < 9 ∨ 23 < e → niPass C 8 nn c 3 n.toNatClampNeg e = C e := fun e he => niPass_off (by omega) (by omega) (by omega) (by omega) (by omega) (fun i hi => by omega) _
    have ea : niPass C 8 nn c 3 n.toNatClampNeg 9 7 = goW (lkI M 0) 0 n.toNatClampNeg 217 (0 + (30 : Int32).toNatClampNeg) := by
      have := (NR_i hN n.toNatClampNeg).1.sec
      rw [show (0 + (30 : Int32).toNatClampNeg) = 0 + 30 from rfl, g2 30 (by decide)]
      exact this
    refine sm_mk2 ea (Rel_nig h (fun e he => fC e (by omega)) (by rw [fC 0 (by omega)]) (fun e he => gO e (by omega) (by omega)) (fun q hq => by rw [gO 216 (by decide) (by decide)]) (fun j h1 h2 => goW_far h1) (g200 37 (by decide)) hX ?_) (fun e he => fC e (by omega)) (fun e he => gO e (by omega) (by omega))
    exact FndR_of h.fnd (by rw [fC 0 (by omega)]) (fC 102 (by omega)) (by rw [fC 0 (by omega)]) (g200 0 (by decide)) (gO 201 (by decide) (by decide)) (g200 2 (by decide))
  · rw [if_neg c3, if_neg c3]
    exact sm_mk (rel_lk h) (fun _ _ => rfl) FrM.lk.lo
theorem nig_n {nn mo c : Nat} (hN : NR C 8 3 (rdw M 0) nn mo c) : M 217 0 = nI nn ∧ C 10 2 = nI nn ∧ nn ≤ 16 ∧ 3 ≤ nn := by
  have := hN.2.1.2.1
  unfold rdw at this
  rw [Nat.zero_add] at this
  exact ⟨this, hN.2.2.1, hN.2.1.1.2, hN.2.1.1.1⟩
theorem sm_tl {v v' : Int32} (h : RelP C M) (ev : v = v') : Same C M ((f_X11_tell C v 1).1, (f_X11_tell C v 1).2) (1, up2 (lkI M 0) 200 2 v') := sm_t h FrC.refl FrM.lk rfl rfl (u2_j (by decide)) (lk_off (by decide)) ev rfl
theorem sm_mlk {k : Nat} (h : RelP C M) (h1 : 1 ≤ k) (h5 : k ≤ 5) : Same C M ((f_X11_refuse C (nI k)).1, (f_X11_refuse C (nI k)).2) (-3, meI (lkI M 0) (nI k)) := by
  have := sm_m (rel_lk (x := 0) h) h1 h5
  exact ⟨this.1, this.2.1, this.2.2.1, fun e he => (this.2.2.2 e he).trans (lk_off (by omega))⟩
theorem K_cell {k w : Int32} (h : RelP C M) : Same C M (f_X11_cell C k w) (f_X12_cell M k w) := by
  unfold f_X11_cell f_X12_cell
  by_cases c1 : b2i (0 ≤ k ∧ k ≤ 15) = 0
  · rw [if_pos c1, if_pos c1]
    exact sm_v h
  rw [if_neg c1, if_neg c1]
  by_cases c2 : b2i (0 ≤ w ∧ w ≤ 2) = 0
  · rw [if_pos c2, if_pos c2]
    exact sm_v h
  rw [if_neg c2, if_neg c2, h.nig.e, show (0 : Int32).toNatClampNeg = 0 from rfl]
  by_cases c3 : M 216 0 = 0
  · rw [if_pos c3, if_pos c3]
    exact sm_v h
  rw [if_neg c3, if_neg c3]
  obtain ⟨⟨nn, mo, c, hN⟩, -⟩ := h.nig.th c3
  obtain ⟨e0, e10, n16, n3⟩ := nig_n hN
  have el : lkI M 0 217 (0 + 0) = nI nn := by rw [lk_off (by decide)]; exact e0
  dsimp only
  rw [el, e10]
  obtain ⟨q, -, hq, rfl⟩ := rng_n (a := 0) (b := 15) rfl rfl (by decide) (by decide) c1
  by_cases c4 : q < nn
  · rw [if_neg (b2i_n0.mpr ⟨nI_pos' (by omega), nI_lt c4 (by omega), nI_lt (b := 16) (by omega) (by decide)⟩), if_pos (nI_lt c4 (by omega))]
    have x31 : (31 + nI q).toNatClampNeg = 31 + q := by
      rw [show (31 : Int32) + nI q = nI (31 + q) from nI_add 31 q, nI_clamp (by omega)]
    have eh := hN.1.he q c4
    have rd : ∀ p, rdw M 0 p = M 217 (0 + p) := fun _ => rfl
    rw [x31, nI_clamp (show q < 2 ^ 31 by omega)]
    by_cases c5 : w = 0
    · rw [if_pos c5]
      refine sm_tl h ?_
      unfold waFact
      rw [if_pos c5, nI_clamp (show q < 2 ^ 31 by omega), lk_off (by decide)]
      exact eh
    rw [if_neg c5]
    by_cases c6 : w = 1
    · rw [if_pos c6]
      refine sm_tl h ?_
      unfold waFact
      rw [if_neg c5, if_pos c6, nI_clamp (show q < 2 ^ 31 by omega), nI_clamp (show nn < 2 ^ 31 by omega), show rdw (lkI M 0) 0 = rdw M 0 from rfl]
      unfold fFr
      by_cases c7 : q + 1 < nn
      · rw [if_pos c7]
        exact hN.1.fl q c7
      · rw [if_neg c7, show q = nn - 1 by omega]
        exact hN.1.fz
    · rw [if_neg c6]
      refine sm_tl h ?_
      unfold waFact rng
      rw [if_neg c5, if_neg c6, nI_clamp (show q < 2 ^ 31 by omega), lk_off (by decide)]
      have a1 := hN.1.hi q c4
      have a2 := hN.1.lo q c4
      rw [rd] at a1 a2
      rw [show (9 : Nat) + 9 = 8 + 1 + 9 from rfl, a1, show (9 : Nat) + 10 = 8 + 1 + 10 from rfl, a2]
  · rw [if_pos (b2i_0.mpr (fun z => c4 ((nI_ltI (by omega) (by omega)).mp z.2.1))), if_neg (nI_nlt (by omega) (by omega))]
    exact sm_mlk (k := 2) h (by decide) (by decide)
theorem K_rides {s w : Int32} (h : RelP C M) : Same C M (f_X11_rides C s w) (f_X12_rides M s w) := by
  unfold f_X11_rides f_X12_rides
  by_cases c1 : b2i (0 ≤ s ∧ s ≤ 2) = 0
  · rw [if_pos c1, if_pos c1]
    exact sm_v h
  rw [if_neg c1, if_neg c1]
  by_cases c2 : b2i (0 ≤ w ∧ w ≤ 3) = 0
  · rw [if_pos c2, if_pos c2]
    exact sm_v h
  rw [if_neg c2, if_neg c2, h.nig.e]
  dsimp only
  rw [show lkI M 0 216 (0 : Int32).toNatClampNeg = M 216 0 from rfl]
  by_cases c3 : M 216 0 = 0
  · rw [if_pos c3, if_pos c3]
    exact sm_mk (rel_lk h) (fun _ _ => rfl) FrM.lk.lo
  rw [if_neg c3, if_neg c3]
  obtain ⟨⟨nn, mo, c, hN⟩, -, -, x3, -⟩ := h.nig.th c3
  obtain ⟨qs, vs⟩ := cl_lt (N := 3) (by decide) c1
  obtain ⟨qw, vw⟩ := cl_lt (N := 4) (by decide) c2
  have n16 := hN.2.1.1.2
  generalize s.toNatClampNeg = q at qs
  generalize w.toNatClampNeg = j at qw
  have m3 : (C 8 2).toNatClampNeg = 3 := by rw [hN.2.2.2.2, nI_clamp (by decide)]
  have er : lkI M 0 217 (0 + (nI (95 + 10 * q)).toNatClampNeg) = rdw M 0 (95 + 10 * q) := by
    rw [nI_clamp (by omega), lk_off (by decide)]
    rfl
  rw [er]
  rcases x3 nn hN.2.2.1 n16 q qs with z | z
  · rw [if_pos (b2i_0.mpr (fun y => y.2 z.1)), if_neg (by rw [z.2]; decide)]
    exact sm_mk (rel_lk h) (fun _ _ => rfl) FrM.lk.lo
  · rw [if_neg (b2i_n0.mpr ⟨by rw [m3]; exact qs, by rw [z.1]; decide⟩), if_pos z.2.2.1]
    refine sm_tl h ?_
    rw [lk_off (by decide)]
    have hb := z.2.1
    unfold riddenF
    rcases (by omega : j = 0 ∨ j = 1 ∨ j = 2 ∨ j = 3) with rfl | rfl | rfl | rfl
    · rw [if_pos rfl]
      exact hb 6 (by decide) (by decide)
    · rw [if_neg (by decide), if_pos rfl]
      exact hb 7 (by decide) (by decide)
    · rw [if_neg (by decide), if_neg (by decide), if_pos rfl]
      exact hb 8 (by decide) (by decide)
    · rw [if_neg (by decide), if_neg (by decide), if_neg (by decide)]
      exact hb 9 (by decide) (by decide)
theorem K_water (h : RelP C M) : Same C M (f_X11_water C) (f_X12_water M) := by
  unfold f_X11_water f_X12_water
  rw [h.nig.e, show (0 : Int32).toNatClampNeg = 0 from rfl]
  by_cases c3 : M 216 0 = 0
  · rw [if_pos c3, if_pos c3]
    exact sm_v h
  rw [if_neg c3, if_neg c3]
  obtain ⟨⟨nn, mo, c, hN⟩, -⟩ := h.nig.th c3
  obtain ⟨e0, e10, n16, n3⟩ := nig_n hN
  refine sm_tl h ?_
  rw [show C (9 + 1) 2 = nI nn from e10, lk_off (by decide), e0, nI_clamp (by omega)]
  have key : ∀ k, k ≤ nn → sumI (C (9 + 6)) k = sumI (fun j => M 217 (31 + j)) k := by
    intro k
    induction k with
    | zero => intro _; rfl
    | succ k ih =>
      intro hk
      have eh := hN.1.he k (by omega)
      unfold rdw at eh
      rw [Nat.zero_add] at eh
      show sumI _ k + C 15 k = sumI _ k + M 217 (31 + k)
      rw [ih (by omega)]
      exact congrArg (_ + ·) eh
  exact key nn (Nat.le_refl _)
end
end R11
