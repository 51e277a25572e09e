section R15
variable {G : Gp} {I : Im} {L : Nat → Nat → Int64} {t : Nat}
section
variable {C M D E : Im}
theorem wild_c {f g : Nat → Int32} : ∀ k, (∀ i, i ≤ k → f i = g i) → wildN f k = wildN g k := by
  intro k
  induction k with
  | zero => intro _; rfl
  | succ k ih =>
    intro h
    have e := ih (fun i hi => h i (by omega))
    have l := wildN_le g k
    show (if f (wildN f k) < f (k + 1) then k + 1 else wildN f k) = (if g (wildN g k) < g (k + 1) then k + 1 else wildN g k)
    rw [e, h (wildN g k) (by omega), h (k + 1) (Nat.le_refl _)]
theorem calm_c {f g : Nat → Int32} : ∀ k, (∀ i, i ≤ k → f i = g i) → calmN f k = calmN g k := by
  intro k
  induction k with
  | zero => intro _; rfl
  | succ k ih =>
    intro h
    have e := ih (fun i hi => h i (by omega))
    have l := calmN_le g k
    show (if f (k + 1) < f (calmN f k) then k + 1 else calmN f k) = (if g (k + 1) < g (calmN g k) then k + 1 else calmN g k)
    rw [e, h (calmN g k) (by omega), h (k + 1) (Nat.le_refl _)]
/-- a laid row: harbour, sea, nothing else below the riders -/
def Laid (N H S : Nat → Int32) (c : Nat) : Prop := (∀ p, p < 21 → N p = H p) ∧ (∀ i, i < 2 * c → N (22 + i) = S i) ∧ ∀ p, 30 ≤ p → p < 95 → N p = 0
theorem nb_NR {b s m n mo c : Nat} {N H S : Nat → Int32} (hb : BaR C b H n mo) (hs : SeR C s S c) (b9 : 90 < b) (s9 : 90 < s) (hm : C 24 2 = nI m) (hl : Laid N H S c) (hw : WfN N n mo c) : NR (niBegin C 24 b s) 24 m N n mo c := by
  have fo : ∀ e, e ≠ 24 → up2 C 24 3 1 e = C e := fun e he => up2_off he
  have hb' : BaR (up2 C 24 3 1) b H n mo := BaR_of hb (fo _ (by omega)) (fo _ (by omega))
  have hs' : SeR (up2 C 24 3 1) s S c := SeR_of hs (fo _ (by omega)) (fo _ (by omega)) (fo _ (by omega))
  refine ⟨WR_b (w := 25) hb' hs' (by omega) (by omega) hl.1 hl.2.1 hl.2.2, hw, ?_, ?_, ?_⟩
  · exact (waBegin_bas (a := 25) (by omega) (by omega) (by omega) (by omega) 2 (by decide) (by decide)).trans (by rw [fo _ (by omega)]; exact hb.ce)
  · exact (waBegin_sw (a := 25) (by omega) (by omega) (by omega)).trans (by rw [fo _ (by omega)]; exact hs.ct)
  · unfold niBegin
    rw [waBegin_off (by omega), u2_j (by decide)]
    exact hm
theorem wk_eq {b s m n mo c : Nat} {H S : Nat → Int32} (hb : BaR C b H n mo) (hs : SeR C s S c) (hm : C 24 2 = nI m) (m48 : m ≤ 48) : wakeI C b s = niPass (niBegin C 24 b s) 24 n c m 300 := by
  have n16 := hb.n16
  have c4 := hs.c4
  unfold wakeI
  rw [wkI_eq, hb.ce, hs.ct, hm, nI_clamp (by omega), nI_clamp (by omega), nI_clamp (by omega)]
theorem wk_NR {b s m n mo c : Nat} {N H S : Nat → Int32} (hb : BaR C b H n mo) (hs : SeR C s S c) (b9 : 90 < b) (s9 : 90 < s) (hm : C 24 2 = nI m) (m48 : m ≤ 48) (hl : Laid N H S c) (hw : WfN N n mo c) : NR (wakeI C b s) 24 m (secI N n mo c 300) n mo c := by
  rw [wk_eq hb hs hm m48]
  exact NR_i (nb_NR hb hs b9 s9 hm hl hw) 300
theorem wk_Bo {b s m n mo c q r : Nat} {N H S : Nat → Int32} (hb : BaR C b H n mo) (hs : SeR C s S c) (b9 : 90 < b) (s9 : 90 < s) (hm : C 24 2 = nI m) (m48 : m ≤ 48) (hl : Laid N H S c) (hw : WfN N n mo c) (hq : q < m) (hr : r < 3) (hB : BoK C (37 + q) N r n) : BoK (wakeI C b s) (37 + q) (secI N n mo c 300) r n := by
  rw [wk_eq hb hs hm m48]
  refine BoK_i (q := q) (nb_NR hb hs b9 s9 hm hl hw) ?_ hq hr 300
  refine BoK_of hB hr ?_ (fun p hp => rfl)
  unfold niBegin
  rw [waBegin_off (by omega), up2_off (by omega)]
theorem rng_eq {m n mo c q : Nat} {N : Nat → Int32} (h : NR D 24 m N n mo c) (hq : q < n) : rng D 25 q = rgM N q := by
  have a1 := h.1.hi q hq
  have a2 := h.1.lo q hq
  unfold rng rgM
  rw [← a1, ← a2]
theorem wkM_l {q z n mo c : Nat} (hb : BaR C (124 + 2 * q) (fun p => M 208 (21 * q + p)) n mo) (hs : SeR C (132 + 3 * z) (fun i => M 211 (8 * z + i)) c) (em : M 210 z = nI c) : Laid (wkM M q z) (fun p => M 208 (21 * q + p)) (fun i => M 211 (8 * z + i)) c ∧ WfN (wkM M q z) n mo c ∧ M 208 (21 * q) = nI n ∧ M 208 (21 * q + 1) = nI mo := by
  have c4 := hs.c4
  have e0 : M 208 (21 * q) = nI n := hb.h0
  have e1 : M 208 (21 * q + 1) = nI mo := hb.h1
  refine ⟨⟨fun p hp => wkM_h hp, fun i hi => wkM_s (by omega), fun p h1 h2 => wkM_z h1⟩, ⟨⟨hb.n3, hb.n16⟩, ?_, ⟨hb.mm, ?_⟩, ⟨c4, ?_, fun i hi => ?_⟩, fun s hs h1 => ?_⟩, e0, e1⟩
  · rw [wkM_h (by decide)]
    exact e0
  · rw [wkM_h (by decide)]
    exact e1
  · rw [wkM_21]
    exact em
  · rw [wkM_s (by omega)]
    intro zz
    exact (hs.be i hi).2.2 (by rw [zz]; decide)
  · rw [wkM_z (by omega)] at h1
    exact absurd h1 (by decide)
theorem wkD_eq {q z n mo c : Nat} (n16 : n ≤ 16) (mn : mo < n) (c4 : c ≤ 4) (e0 : M 208 (21 * q) = nI n) (e1 : M 208 (21 * q + 1) = nI mo) (em : M 210 z = nI c) : wkD M q z = secI (wkM M q z) n mo c 300 := by
  unfold wkD
  rw [e0, e1, em, nI_clamp (by omega), nI_clamp (by omega), nI_clamp (by omega)]
theorem FrC.wk {b s : Nat} (h : TOk C) : FrC (wakeI C b s) C := ⟨fun e he => wakeI_off h (by omega), by rw [wakeI_off h (by omega)]⟩
theorem FrM.lw {q z : Nat} : FrM (lwI M q z) M := FrM.trans FrM.lk FrM.n5
theorem lw_200 {q z j : Nat} (h : j ≠ 24) : lwI M q z 200 j = M 200 j := by
  unfold lwI
  rw [nw_off (by decide)]
  exact u2_j h
/-- the waking of a harbour by a sea, on both sides -/
theorem wake_both {q z : Nat} (h : RelP C M) (hq : q < 4) (hz : z < 4) (h7 : ¬ M 207 q = 0) (h9 : ¬ M 209 z = 0) : ∃ n, 3 ≤ n ∧ n ≤ 16 ∧ M 208 (21 * q) = nI n ∧ C (124 + 2 * q) 2 = nI n ∧ wakeI (up2 C 24 2 0) (124 + 2 * q) (132 + 3 * z) 26 2 = nI n ∧ ∀ j, j < n → rng (wakeI (up2 C 24 2 0) (124 + 2 * q) (132 + 3 * z)) 25 j = rgM (wkD M q z) j := by
  obtain ⟨⟨n, mo, hb⟩, -⟩ := (h.har q hq).th h7
  obtain ⟨c, hs, em, -⟩ := (h.sea z hz).th h9
  obtain ⟨l1, l2, e0, e1⟩ := wkM_l hb hs em
  have hb' : BaR (up2 C 24 2 0) (124 + 2 * q) (fun p => M 208 (21 * q + p)) n mo := BaR_of hb (up2_off (by omega)) (up2_off (by omega))
  have hs' : SeR (up2 C 24 2 0) (132 + 3 * z) (fun i => M 211 (8 * z + i)) c := SeR_of hs (up2_off (by omega)) (up2_off (by omega)) (up2_off (by omega))
  have hN := wk_NR hb' hs' (by omega) (by omega) u20 (by decide) l1 l2
  refine ⟨n, hb.n3, hb.n16, e0, hb.ce, hN.2.2.1, fun j hj => ?_⟩
  rw [rng_eq hN hj, wkD_eq hb.n16 hb.mm hs.c4 e0 e1 em]
theorem K_quiet {k z : Int32} (h : RelP C M) : Same C M (f_X11_quiet C k z) (f_X12_quiet M k z) := by
  unfold f_X11_quiet f_X12_quiet f_X12_needWoken
  by_cases c1 : b2i (0 ≤ k ∧ k ≤ 3) = 0
  · simp only [if_pos c1]
    exact sm_v h
  by_cases c2 : b2i (0 ≤ z ∧ z ≤ 3) = 0
  · simp only [if_neg c1, if_pos c2]
    exact sm_v h
  obtain ⟨qk, vk⟩ := cl_lt (N := 4) (by decide) c1
  obtain ⟨qz, vz⟩ := cl_lt (N := 4) (by decide) c2
  simp only [if_neg c1, if_neg c2]
  rw [(h.har _ qk).e, (h.sea _ qz).e]
  by_cases c3 : M 207 k.toNatClampNeg = 0
  · simp only [if_pos c3]
    exact sm_1 h
  by_cases c4 : M 209 z.toNatClampNeg = 0
  · simp only [if_neg c3, if_pos c4]
    exact sm_1 h
  simp only [if_neg c3, if_neg c4]
  rw [if_pos (by decide)]
  obtain ⟨n, n3, n16, e0, eC, e26, er⟩ := wake_both h qk qz c3 c4
  have ew : wildN (rng (wakeI (up2 C 24 2 0) (124 + 2 * k.toNatClampNeg) (132 + 3 * z.toNatClampNeg)) 25) (n - 1) = wildN (rgM (wkD M k.toNatClampNeg z.toNatClampNeg)) (n - 1) := wild_c _ (fun i hi => er i (by omega))
  have lw := wildN_le (rgM (wkD M k.toNatClampNeg z.toNatClampNeg)) (n - 1)
  unfold f_X11_quietOf
  dsimp only
  rw [e26, e0, nI_clamp (show n < 2 ^ 31 by omega), ew, nI_clamp (show wildN (rgM (wkD M k.toNatClampNeg z.toNatClampNeg)) (n - 1) < 2 ^ 31 by omega), er _ (by omega)]
  exact sm_t h (FrC.trans (FrC.up (by omega)) (FrC.wk clr_t)) FrM.lw (by rw [wakeI_off clr_t (by omega), up2_off (by decide)]) (by rw [wakeI_off clr_t (by omega), up2_off (by decide)]) (lw_200 (by decide)) (lwI_off (by decide) (by decide)) rfl rfl
theorem K_still {k z : Int32} (h : RelP C M) : Same C M (f_X11_still C k z) (f_X12_still M k z) := by
  unfold f_X11_still f_X12_still f_X12_needWoken
  by_cases c1 : b2i (0 ≤ k ∧ k ≤ 3) = 0
  · simp only [if_pos c1]
    exact sm_v h
  by_cases c2 : b2i (0 ≤ z ∧ z ≤ 3) = 0
  · simp only [if_neg c1, if_pos c2]
    exact sm_v h
  obtain ⟨qk, vk⟩ := cl_lt (N := 4) (by decide) c1
  obtain ⟨qz, vz⟩ := cl_lt (N := 4) (by decide) c2
  simp only [if_neg c1, if_neg c2]
  rw [(h.har _ qk).e, (h.sea _ qz).e]
  by_cases c3 : M 207 k.toNatClampNeg = 0
  · simp only [if_pos c3]
    exact sm_1 h
  by_cases c4 : M 209 z.toNatClampNeg = 0
  · simp only [if_neg c3, if_pos c4]
    exact sm_1 h
  simp only [if_neg c3, if_neg c4]
  rw [if_pos (by decide)]
  obtain ⟨n, n3, n16, e0, eC, e26, er⟩ := wake_both h qk qz c3 c4
  have ew : calmN (rng (wakeI (up2 C 24 2 0) (124 + 2 * k.toNatClampNeg) (132 + 3 * z.toNatClampNeg)) 25) (n - 1) = calmN (rgM (wkD M k.toNatClampNeg z.toNatClampNeg)) (n - 1) := calm_c _ (fun i hi => er i (by omega))
  have lw := calmN_le (rgM (wkD M k.toNatClampNeg z.toNatClampNeg)) (n - 1)
  rw [e26, e0, nI_clamp (show n < 2 ^ 31 by omega), ew, nI_clamp (show calmN (rgM (wkD M k.toNatClampNeg z.toNatClampNeg)) (n - 1) < 2 ^ 31 by omega), er _ (by omega)]
  exact sm_t h (FrC.trans (FrC.up (by omega)) (FrC.wk clr_t)) FrM.lw (by rw [wakeI_off clr_t (by omega), up2_off (by decide)]) (by rw [wakeI_off clr_t (by omega), up2_off (by decide)]) (lw_200 (by decide)) (lwI_off (by decide) (by decide)) rfl rfl
end
end R15
