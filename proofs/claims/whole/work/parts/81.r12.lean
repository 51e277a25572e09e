section R12
variable {G : Gp} {I : Im} {L : Nat → Nat → Int64} {t : Nat}
section
variable {C M D E : Im}
theorem WR_cp {w v : Nat} {N P : Nat → Int32} {n mo c : Nat} (h : WR C v N n mo c) (hn : n ≤ 16) (n1 : 1 ≤ n) (hc : c ≤ 4) (e1 : ∀ j, 3 ≤ j → j ≤ 5 → D (w + 1) j = C (v + 1) j) (e4 : ∀ i, i < 4 → D (w + 4) i = C (v + 4) i) (e5 : ∀ i, i < 4 → D (w + 5) i = C (v + 5) i) (e0 : D w 7 = C v 7) (ea : ∀ r j, 6 ≤ r → r ≤ 10 → j < 16 → D (w + r) j = C (v + r) j) (hN : ∀ p, p < 95 → P p = N p) : WR D w P n mo c := by
  refine WR.mk ?_ ?_ ?_ ?_ ?_ ?_ ?_ ?_ ?_ ?_ ?_ ?_
  · rw [e1 4 (by decide) (by decide), hN 2 (by decide)]
    exact h.wi
  · rw [e1 5 (by decide) (by decide), hN 3 (by decide)]
    exact h.ru
  · rw [e1 3 (by decide) (by decide)]
    exact h.mou
  · intro j hj
    rw [ea 8 j (by decide) (by decide) (by omega)]
    unfold opM isW
    rw [hN 4 (by decide), hN (5 + j) (by omega), hN (5 + j + 1) (by omega)]
    exact h.op j hj
  · intro j hj hw
    rw [ea 7 j (by decide) (by decide) (by omega)]
    unfold isW at hw
    rw [hN 4 (by decide)] at hw
    exact h.wa j hj hw
  · intro i hi
    rw [e4 i (by omega), e5 i (by omega), hN (22 + 2 * i) (by omega), hN (23 + 2 * i) (by omega)]
    exact h.se i hi
  · rw [e0, hN 30 (by decide)]
    exact h.sec
  · intro j hj
    rw [ea 6 j (by decide) (by decide) (by omega), hN (31 + j) (by omega)]
    exact h.he j hj
  · intro j hj
    rw [ea 7 j (by decide) (by decide) (by omega), hN (47 + j) (by omega)]
    exact h.fl j hj
  · rw [ea 7 (n - 1) (by decide) (by decide) (by omega)]
    exact h.fz
  · intro j hj
    rw [ea 9 j (by decide) (by decide) (by omega), hN (79 + j) (by omega)]
    exact h.hi j hj
  · intro j hj
    rw [ea 10 j (by decide) (by decide) (by omega), hN (63 + j) (by omega)]
    exact h.lo j hj
theorem ba_t {a b j : Nat} (hb : b ≠ a) (h1 : 1 ≤ j) (h6 : j ≤ 6) : baTake C a b a j = C b j := by
  unfold baTake
  rw [cpR_off (by omega)]
  rcases (by omega : j = 1 ∨ j = 2 ∨ j = 3 ∨ j = 4 ∨ j = 5 ∨ j = 6) with rfl | rfl | rfl | rfl | rfl | rfl
  all_goals simp [tk1, up2, hb]
theorem sw_t {a b j : Nat} (hb : b ≠ a) (hj : j = 2 ∨ j = 3) : swTake C a b a j = C b j := by
  unfold swTake
  rw [cpR_off (by omega), cpR_off (by omega)]
  rcases hj with rfl | rfl
  all_goals simp [tk1, up2, hb]
theorem sw_a {a b i : Nat} (hab : a + 2 < b ∨ b + 2 < a) (hi : i < 4) : swTake C a b (a + 1) i = C (b + 1) i ∧ swTake C a b (a + 2) i = C (b + 2) i := by
  unfold swTake
  constructor
  · rw [cpR_off (by omega), cp_in hi, tk1_off (by omega), tk1_off (by omega)]
  · rw [cp_in hi, cpR_off (by omega), tk1_off (by omega), tk1_off (by omega)]
theorem wt_b {w v : Nat} (h : w + 10 < v ∨ v + 10 < w) {j : Nat} (h1 : 1 ≤ j) (h6 : j ≤ 6) : waTake C w v (w + 1) j = C (v + 1) j := by
  unfold waTake
  rw [cpR_off (by omega), cpR_off (by omega), cpR_off (by omega), cpR_off (by omega), cpR_off (by omega), tk1_off (by omega), swTake_off (by omega) (by omega) (by omega), ba_t (by omega) h1 h6]
theorem wt_s {w v : Nat} (h : w + 10 < v ∨ v + 10 < w) {j : Nat} (hj : j = 2 ∨ j = 3) : waTake C w v (w + 3) j = C (v + 3) j := by
  unfold waTake
  rw [cpR_off (by omega), cpR_off (by omega), cpR_off (by omega), cpR_off (by omega), cpR_off (by omega), tk1_off (by omega), sw_t (by omega) hj, baTake_off (by omega) (by omega)]
theorem wt_e {w v : Nat} (h : w + 10 < v ∨ v + 10 < w) {i : Nat} (hi : i < 4) : waTake C w v (w + 4) i = C (v + 4) i ∧ waTake C w v (w + 5) i = C (v + 5) i := by
  have hs := sw_a (C := baTake C (w + 1) (v + 1)) (a := w + 3) (b := v + 3) (by omega) hi
  unfold waTake
  rw [cpR_off (by omega), cpR_off (by omega), cpR_off (by omega), cpR_off (by omega), cpR_off (by omega), tk1_off (by omega), cpR_off (by omega), cpR_off (by omega), cpR_off (by omega), cpR_off (by omega), cpR_off (by omega), tk1_off (by omega)]
  exact ⟨hs.1.trans (by rw [baTake_off (by omega) (by omega)]), hs.2.trans (by rw [baTake_off (by omega) (by omega)])⟩
theorem wt_7 {w v : Nat} (h : w + 10 < v ∨ v + 10 < w) : waTake C w v w 7 = C v 7 := by
  unfold waTake
  rw [cpR_off (by omega), cpR_off (by omega), cpR_off (by omega), cpR_off (by omega), cpR_off (by omega)]
  unfold tk1
  rw [u2_s, swTake_off (by omega) (by omega) (by omega), baTake_off (by omega) (by omega)]
theorem wt_a {w v : Nat} (h : w + 10 < v ∨ v + 10 < w) {r j : Nat} (h6 : 6 ≤ r) (h10 : r ≤ 10) (hj : j < 16) : waTake C w v (w + r) j = C (v + r) j := by
  have base : ∀ e, (v + 6 ≤ e ∧ e ≤ v + 10) → tk1 (swTake (baTake C (w + 1) (v + 1)) (w + 3) (v + 3)) w v 7 e = C e := fun e he => by
    rw [tk1_off (by omega), swTake_off (by omega) (by omega) (by omega), baTake_off (by omega) (by omega)]
  unfold waTake
  rcases (by omega : r = 6 ∨ r = 7 ∨ r = 8 ∨ r = 9 ∨ r = 10) with rfl | rfl | rfl | rfl | rfl
  · rw [cpR_off (by omega), cpR_off (by omega), cpR_off (by omega), cpR_off (by omega), cp_in hj, base _ (by omega)]
  · rw [cpR_off (by omega), cpR_off (by omega), cpR_off (by omega), cp_in hj, cpR_off (by omega), base _ (by omega)]
  · rw [cpR_off (by omega), cpR_off (by omega), cp_in hj, cpR_off (by omega), cpR_off (by omega), base _ (by omega)]
  · rw [cpR_off (by omega), cp_in hj, cpR_off (by omega), cpR_off (by omega), cpR_off (by omega), base _ (by omega)]
  · rw [cp_in hj, cpR_off (by omega), cpR_off (by omega), cpR_off (by omega), cpR_off (by omega), base _ (by omega)]
theorem bo_t {a b j : Nat} (hb : b ≠ a) (h9 : j ≤ 9) : boTake C a b a j = C b j := by
  unfold boTake
  rcases (by omega : j = 0 ∨ j = 1 ∨ j = 2 ∨ j = 3 ∨ j = 4 ∨ j = 5 ∨ j = 6 ∨ j = 7 ∨ j = 8 ∨ j = 9) with rfl | rfl | rfl | rfl | rfl | rfl | rfl | rfl | rfl | rfl
  all_goals simp [tk1, up2, hb]
theorem bts_at {a o i j : Nat} (h : a + 20 < o + 13 ∨ o + 20 < a + 13) (hj : j ≤ 9) : ∀ k, k ≤ 3 → i < k → bts C a o k (a + 13 + i) j = C (o + 13 + i) j := by
  intro k
  induction k with
  | zero => intro _ h; omega
  | succ k ih =>
    intro hk hi
    show boTake (bts C a o k) (a + 13 + k) (o + 13 + k) (a + 13 + i) j = _
    by_cases e : i = k
    · subst e
      rw [bo_t (by omega) hj, bts_off i (fun r hr => by omega)]
    · rw [boTake_off (by omega), ih (by omega) (by omega)]
theorem nt_off {a o e : Nat} (h : e < a ∨ a + 15 < e) : niTake C a o 3 e = C e := by
  unfold niTake
  rw [bts_off 3 (fun i hi => by omega), up2_off (by omega), waTake_off (by omega), up2_off (by omega)]
theorem NigR_cp {a o B B' f f' : Nat} (h : NigR C M o B f) (hz : ¬ M 216 f = 0) (hd : a + 15 < o ∨ o + 15 < a) (e1 : E 216 f' = 1) (e2 : ∀ p, p < 125 → E 217 (B' + p) = M 217 (B + p)) : NigR (niTake C a o 3) E a B' f' := by
  obtain ⟨⟨n, mo, c, h1, h2, h3, h4, h5⟩, x1, x2, x3, x4⟩ := h.th hz
  have n16 := h2.1.2
  have n3 := h2.1.1
  have c4 := h2.2.2.2.1.1
  have er : ∀ p, p < 125 → rdw E B' p = rdw M B p := e2
  have o3 : C o 3 = 1 := by
    rw [h.e]
    exact h.z.resolve_left hz
  have oa : ∀ e, a < e → e ≤ a + 11 → niTake C a o 3 e = waTake (up2 C a 3 (C o 3)) (a + 1) (o + 1) e := fun e he h2 => by
    unfold niTake
    rw [bts_off 3 (fun i hi => by omega), up2_off (by omega)]
  have oc : ∀ e, e ≠ a → up2 C a 3 (C o 3) e = C e := fun e he => up2_off he
  have wd : a + 1 + 10 < o + 1 ∨ o + 1 + 10 < a + 1 := by omega
  have bt : ∀ s, s < 3 → ∀ j, j ≤ 9 → niTake C a o 3 (a + 13 + s) j = C (o + 13 + s) j := fun s hs j hj => by
    unfold niTake
    rw [bts_at (by omega) hj 3 (by decide) hs, up2_off (by omega), waTake_off (by omega), oc _ (by omega)]
  have a2 : niTake C a o 3 a 2 = nI 3 := by
    unfold niTake
    rw [bts_off 3 (fun i hi => by omega), u2_s]
  have a3 : niTake C a o 3 a 3 = 1 := by
    unfold niTake
    rw [bts_off 3 (fun i hi => by omega), u2_j (by decide), waTake_off (by omega), u2_s, o3]
  have b2 : ∀ j, 1 ≤ j → j ≤ 6 → niTake C a o 3 (a + 2) j = C (o + 2) j := fun j g1 g6 => by
    rw [oa _ (by omega) (by omega), show a + 2 = a + 1 + 1 from rfl, wt_b wd g1 g6, oc _ (by omega)]
  have b4 : ∀ j, j = 2 ∨ j = 3 → niTake C a o 3 (a + 4) j = C (o + 4) j := fun j g => by
    rw [oa _ (by omega) (by omega), show a + 4 = a + 1 + 3 from rfl, wt_s wd g, oc _ (by omega)]
  refine NigR.mk (Or.inr e1) (by rw [e1, a3]) (fun _ => ⟨⟨n, mo, c, ?_, WfN_95 h2 er, ?_, ?_, a2⟩, ?_, ?_, ?_, HaX_of x4 (fun p hp => er p (by omega))⟩)
  · refine WR_cp h1 n16 (by omega) c4 (fun j g1 g2 => b2 j (by omega) (by omega)) (fun i hi => ?_) (fun i hi => ?_) ?_ (fun r j g1 g2 hj => ?_) (fun p hp => er p (by omega))
    · rw [oa _ (by omega) (by omega), (wt_e wd hi).1, oc _ (by omega)]
    · rw [oa _ (by omega) (by omega), (wt_e wd hi).2, oc _ (by omega)]
    · rw [oa _ (by omega) (by omega), wt_7 wd, oc _ (by omega)]
    · rw [oa _ (by omega) (by omega), wt_a wd g1 g2 hj, oc _ (by omega)]
  · rw [b2 2 (by decide) (by decide)]
    exact h3
  · rw [b4 3 (by omega)]
    exact h4
  · rw [b2 1 (by decide) (by decide)]
    exact x1
  · rw [b4 2 (by omega)]
    exact x2
  · rw [b2 2 (by decide) (by decide)]
    intro n' hn' hn16 s hs
    rw [bt s hs 0 (by decide), er _ (by omega)]
    refine (x3 n' hn' hn16 s hs).imp id (fun z => ⟨z.1, ?_⟩)
    obtain ⟨k1, k2, k3, k4, k5⟩ := z.2
    refine ⟨fun j g1 g9 => ?_, ?_, ?_, ?_, ?_⟩
    · rw [bt s hs j g9, er _ (by omega)]
      exact k1 j g1 g9
    · rw [er _ (by omega)]
      exact k2
    · rw [bt s hs 0 (by decide)]
      exact k3
    · rw [er _ (by omega)]
      exact k4
    · rw [er _ (by omega)]
      exact k5
theorem Rel_kep {q : Nat} (hq : q < 3) (h : RelP C M) (hC : ∀ e, (8 ≤ e ∧ e ≤ 23) ∨ e = 95 ∨ (104 ≤ e ∧ e < 200) → (e < 152 + 16 * q ∨ 152 + 16 * q + 15 < e) → D e = C e) (hC2 : D 0 16 = C 0 16) (hM : ∀ e, e = 202 ∨ e = 203 ∨ (205 ≤ e ∧ e ≤ 211) ∨ (214 ≤ e ∧ e ≤ 215) ∨ e = 222 → E e = M e) (h6 : ∀ k, k ≠ 1 + q → E 216 k = M 216 k) (hM2 : ∀ j, (j < 125 * (1 + q) ∨ 125 * (1 + q) + 125 ≤ j) → j < 500 → E 217 j = M 217 j) (hM3 : E 200 37 = M 200 37) (hX : NigR D E (152 + 16 * q) (125 * (1 + q)) (1 + q)) (hF : FndR D E) : RelP D E := by
  refine RelP.mk ?_ ?_ ?_ ?_ ?_ ?_ ?_ ?_ hF ?_ ?_
  · intro k hk
    exact RowR_of (h.row k hk) (hC _ (by omega) (by omega)) (hC _ (by omega) (by omega)) (by rw [hM 202 (by omega)]) (fun i hi => by rw [hM 203 (by omega)])
  · intro k hk
    exact TxtR_of (h.txt k hk) (hC _ (by omega) (by omega)) (hC _ (by omega) (by omega)) (by rw [hM 205 (by omega)]) (fun i hi => by rw [hM 206 (by omega)])
  · intro k hk
    exact HarR_of (h.har k hk) (hC _ (by omega) (by omega)) (hC _ (by omega) (by omega)) (by rw [hM 207 (by omega)]) (fun i hi => by rw [hM 208 (by omega)])
  · intro k hk
    exact SeaR_of (h.sea k hk) (hC _ (by omega) (by omega)) (hC _ (by omega) (by omega)) (hC _ (by omega) (by omega)) (by rw [hM 209 (by omega)]) (by rw [hM 210 (by omega)]) (fun i hi => by rw [hM 211 (by omega)])
  · intro k hk
    exact ShpR_of (h.shp k hk) (hC _ (by omega) (by omega)) (by rw [hM 214 (by omega)]) (fun i hi => by rw [hM 215 (by omega)])
  · exact WrkR_of h.wrk hC2 (fun k hk => hC _ (by omega) (by omega)) hM3 (hM 222 (by omega))
  · exact NigR_of h.nig (fun e h1 h2 => hC e (by omega) (by omega)) (h6 0 (by omega)) (fun p hp => hM2 _ (by omega) (by omega))
  · intro k hk
    by_cases e : k = q
    · subst e
      exact hX
    · exact NigR_of (h.kep k hk) (fun e h1 h2 => hC e (by omega) (by omega)) (h6 _ (by omega)) (fun p hp => hM2 _ (by omega) (by omega))
  · unfold CalmS
    rw [hC 95 (by omega) (by omega)]
    exact h.cal
  · unfold BtS
    rw [hM 206 (by omega)]
    exact h.bts
theorem K_keep {k : Int32} (h : RelP C M) : Same C M (f_X11_keep C k) (f_X12_keep M k) := by
  unfold f_X11_keep f_X12_keep
  by_cases c1 : b2i (0 ≤ k ∧ k ≤ 2) = 0
  · rw [if_pos c1, if_pos c1]
    exact sm_v h
  rw [if_neg c1, if_neg c1, h.nig.e, show (0 : Int32).toNatClampNeg = 0 from rfl]
  by_cases c2 : M 216 0 = 0
  · rw [if_pos c2, if_pos c2]
    exact sm_v h
  rw [if_neg c2, if_neg c2]
  obtain ⟨qk, vk⟩ := cl_lt (N := 3) (by decide) c1
  obtain ⟨⟨nn, mo, c, hN⟩, -⟩ := h.nig.th c2
  rw [tn1 vk, hN.2.2.2.2, nI_clamp (by decide), show (0 + (30 : Int32).toNatClampNeg) = 30 from rfl]
  generalize k.toNatClampNeg = q at qk
  have f1 : ∀ e, e < 152 + 16 * q ∨ 152 + 16 * q + 15 < e → niTake C (152 + 16 * q) 8 3 e = C e := fun e he => nt_off he
  have f2 : ∀ e, e ≠ 200 → e ≠ 216 → e ≠ 217 → lkI (up2 (cnI M 0 (1 + q)) 216 (1 + q) 1) 0 e = M e := fun e h1 h2 h3 => by
    rw [lk_off h1, up2_off h2]
    unfold cnI
    exact flw_off h3
  have f3 : ∀ j, lkI (up2 (cnI M 0 (1 + q)) 216 (1 + q) 1) 0 217 j = cnI M 0 (1 + q) 217 j := fun j => by
    rw [lk_off (by decide), up2_off (by decide)]
  have f4 : ∀ j, j ≠ 24 → lkI (up2 (cnI M 0 (1 + q)) 216 (1 + q) 1) 0 200 j = M 200 j := fun j hj => by
    unfold lkI cnI
    rw [u2_j hj, up2_off (by decide), flw_off (by decide)]
  have f5 : ∀ j, (j < 125 * (1 + q) ∨ 125 * (1 + q) + 125 ≤ j) → cnI M 0 (1 + q) 217 j = M 217 j := fun j hj => by
    unfold cnI
    exact flw_out hj
  have es : C 9 7 = M 217 30 := by
    have := hN.1.sec
    unfold rdw at this
    rw [Nat.zero_add] at this
    exact this
  refine sm_mk2 ?_ (Rel_kep qk h (fun e h1 h2 => f1 e h2) (by rw [f1 0 (by omega)]) (fun e he => f2 e (by omega) (by omega) (by omega)) (fun k hk => ?_) (fun j h1 h2 => by rw [f3, f5 j h1]) (f4 37 (by decide)) ?_ ?_) (fun e he => f1 e (by omega)) (fun e he => f2 e (by omega) (by omega) (by omega))
  · rw [f1 9 (by omega), f3, f5 30 (by omega)]
    exact es
  · rw [lk_off (by decide), u2_j hk]
    unfold cnI
    rw [flw_off (by decide)]
  · refine NigR_cp h.nig c2 (by omega) ?_ (fun p hp => ?_)
    · rw [lk_off (by decide), u2_s]
    · rw [f3]
      unfold cnI
      rw [flw_in hp, Nat.mul_zero]
  · exact FndR_of h.fnd (by rw [f1 0 (by omega)]) (f1 102 (by omega)) (by rw [f1 0 (by omega)]) (f4 0 (by decide)) (f2 201 (by decide) (by decide) (by decide)) (f4 2 (by decide))
theorem K_on {k : Int32} (h : RelP C M) : Same C M (f_X11_on C k) (f_X12_on M k) := by
  unfold f_X11_on f_X12_on
  by_cases c1 : b2i (0 ≤ k ∧ k ≤ 2) = 0
  · rw [if_pos c1, if_pos c1]
    exact sm_v h
  rw [if_neg c1, if_neg c1]
  obtain ⟨qk, vk⟩ := cl_lt (N := 3) (by decide) c1
  rw [tn1 vk, show (0 : Int32).toNatClampNeg = 0 from rfl, show (0 + (30 : Int32).toNatClampNeg) = 30 from rfl]
  generalize k.toNatClampNeg = q at qk
  have hk := h.kep q qk
  rw [hk.e]
  by_cases c2 : M 216 (1 + q) = 0
  · rw [if_pos c2, if_pos c2]
    exact sm_1 h
  rw [if_neg c2, if_neg c2]
  obtain ⟨⟨nn, mo, c, hN⟩, -⟩ := hk.th c2
  rw [hN.2.2.2.2, nI_clamp (by decide)]
  have f1 : ∀ e, e < 8 ∨ 23 < e → niTake C 8 (152 + 16 * q) 3 e = C e := fun e he => nt_off (by omega)
  have f2 : ∀ e, e ≠ 200 → e ≠ 216 → e ≠ 217 → lkI (up2 (cnI M (1 + q) 0) 216 0 1) 0 e = M e := fun e h1 h2 h3 => by
    rw [lk_off h1, up2_off h2]
    unfold cnI
    exact flw_off h3
  have f3 : ∀ j, lkI (up2 (cnI M (1 + q) 0) 216 0 1) 0 217 j = cnI M (1 + q) 0 217 j := fun j => by
    rw [lk_off (by decide), up2_off (by decide)]
  have f4 : ∀ j, j ≠ 24 → lkI (up2 (cnI M (1 + q) 0) 216 0 1) 0 200 j = M 200 j := fun j hj => by
    unfold lkI cnI
    rw [u2_j hj, up2_off (by decide), flw_off (by decide)]
  have f5 : ∀ j, 125 ≤ j → cnI M (1 + q) 0 217 j = M 217 j := fun j hj => by
    unfold cnI
    exact flw_out (by omega)
  have f6 : ∀ p, p < 125 → cnI M (1 + q) 0 217 (0 + p) = M 217 (125 * (1 + q) + p) := fun p hp => by
    unfold cnI
    rw [Nat.mul_zero, flw_in hp]
  have hX : NigR (niTake C 8 (152 + 16 * q) 3) (lkI (up2 (cnI M (1 + q) 0) 216 0 1) 0) 8 0 0 := by
    refine NigR_cp hk c2 (by omega) ?_ (fun p hp => ?_)
    · rw [lk_off (by decide), u2_s]
    · rw [f3]
      exact f6 p hp
  refine sm_mk2 ?_ (Rel_nig h (fun e he => f1 e (by omega)) (by rw [f1 0 (by omega)]) (fun e he => f2 e (by omega) (by omega) (by omega)) (fun r hr => ?_) (fun j h1 h2 => by rw [f3, f5 j h1]) (f4 37 (by decide)) hX ?_) (fun e he => f1 e (by omega)) (fun e he => f2 e (by omega) (by omega) (by omega))
  · have nz : ¬ lkI (up2 (cnI M (1 + q) 0) 216 0 1) 0 216 0 = 0 := by
      rw [lk_off (by decide), u2_s]
      decide
    obtain ⟨⟨n2, m2, c3, h2⟩, -⟩ := hX.th nz
    have := h2.1.sec
    unfold rdw at this
    rw [Nat.zero_add] at this
    exact this
  · rw [lk_off (by decide), u2_j (by omega)]
    unfold cnI
    rw [flw_off (by decide)]
  · exact FndR_of h.fnd (by rw [f1 0 (by omega)]) (f1 102 (by omega)) (by rw [f1 0 (by omega)]) (f4 0 (by decide)) (f2 201 (by decide) (by decide) (by decide)) (f4 2 (by decide))
end
end R12
