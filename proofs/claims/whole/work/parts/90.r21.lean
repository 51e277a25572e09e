section R21
variable {G : Gp} {I : Im} {L : Nat → Nat → Int64} {t : Nat}
section
variable {C M D E : Im} {L : Nat → Nat → Int64}
theorem WR_lift {X : Im} {w q n mo c : Nat} {v : Int32} {N : Nat → Int32} (h : WR X w N n mo c) (hn : n ≤ 16) (hq : q < n) (hc : c ≤ 4) : WR (up2 X (w + 6) q v) w (upn N (31 + q) v) n mo c := by
  have o1 : ∀ p, p < 31 → upn N (31 + q) v p = N p := fun p hp => upn_n (by omega)
  refine WR.mk ?_ ?_ ?_ ?_ ?_ ?_ ?_ ?_ ?_ ?_ ?_ ?_
  · rw [up2_off (by omega), o1 2 (by decide)]
    exact h.wi
  · rw [up2_off (by omega), o1 3 (by decide)]
    exact h.ru
  · rw [up2_off (by omega)]
    exact h.mou
  · intro j hj
    rw [up2_off (by omega)]
    unfold opM isW
    rw [o1 4 (by decide), o1 (5 + j) (by omega), o1 (5 + j + 1) (by omega)]
    exact h.op j hj
  · intro j hj hw
    rw [up2_off (by omega)]
    unfold isW at hw
    rw [o1 4 (by decide)] at hw
    exact h.wa j hj hw
  · intro i hi
    rw [up2_off (by omega), up2_off (by omega), o1 _ (by omega), o1 _ (by omega)]
    exact h.se i hi
  · rw [up2_off (by omega), o1 30 (by decide)]
    exact h.sec
  · intro j hj
    by_cases e : j = q
    · subst e
      rw [u2_s, upn_s]
    · rw [u2_j e, upn_n (by omega)]
      exact h.he j hj
  · intro j hj
    rw [up2_off (by omega), upn_n (by omega)]
    exact h.fl j hj
  · rw [up2_off (by omega)]
    exact h.fz
  · intro j hj
    rw [up2_off (by omega), upn_n (by omega)]
    exact h.hi j hj
  · intro j hj
    rw [up2_off (by omega), upn_n (by omega)]
    exact h.lo j hj
theorem hr_sim {J : Im} {N : Nat → Int32} {n mo q : Nat} (h : WR J 25 N n mo 0) (hw : WfN N n mo 0) (hq : q < n) : ∀ k, k ≤ 400 → WR (hrI J n q k) 25 (secI N n mo 0 k) n mo 0 ∧ ∀ i, i < k → hrI J n q k 100 i = secI N n mo 0 (i + 1) (31 + q) := by
  intro k
  induction k with
  | zero =>
    intro _
    rw [hrI_0, secI_0]
    exact ⟨h, fun i hi => absurd hi (Nat.not_lt_zero i)⟩
  | succ k ih =>
    intro hk
    obtain ⟨i1, i2⟩ := ih (by omega)
    have s := WR_s i1 (WfN_i hw k)
    have ee : waPass (hrI J n q k) 25 n 0 31 q = secI N n mo 0 (k + 1) (31 + q) := by
      rw [secI_s]
      exact s.he q hq
    rw [hrI_s, secI_s]
    refine ⟨WR_of s (up2_off (by decide)) (up2_off (by decide)) (up2_off (by decide)) (by rw [up2_off (by decide)]) (up2_off (by decide)) (up2_off (by decide)) (up2_off (by decide)) (up2_off (by decide)) (up2_off (by decide)) (fun _ _ => rfl) hw.1.2 (by decide), ?_⟩
    intro i hi
    by_cases e : i = k
    · subst e
      rw [u2_s]
      exact ee
    · rw [u2_j e, waPass_off (by decide) (by decide) (by decide) (by decide) (by decide)]
      exact i2 i (by omega)
theorem Hrd_mk {J K : Im} {f g : Nat → Int32} {x y : Int32} (hC : FrC J C) (hM : FrM K M) (e0 : J 0 = C 0) (e1 : J 102 = C 102) (e2 : K 200 0 = M 200 0) (e3 : K 200 2 = M 200 2) (e4 : K 201 = M 201) (hf : ∀ i, i < 400 → f i = g i) : Hrd C M (crW J (crN f 399)) (crM K (mcN g (0, x, y, 0, 0) (400 - 1))) := by
  refine ⟨FrC.trans hC ⟨fun e he => crW_off (by omega), by rw [crW_off (by decide)]⟩, FrM.trans hM ⟨fun e he => crM_off (by omega), fun j hj => by rw [crM_off (by decide)], crM_o (by omega)⟩, by rw [crW_off (by decide)]; exact e0, by rw [crW_off (by decide)]; exact e1, ⟨by rw [crM_o (by omega)]; exact e2, by rw [crM_o (by omega)]; exact e3⟩, by rw [crM_off (by decide)]; exact e4, ?_⟩
  obtain ⟨k, hk, rest⟩ := mc_cr (x := x) (y := y) (n := 400) (by decide) hf 399 (by decide)
  exact ⟨k, by omega, rest⟩
theorem hear_ring {q c : Nat} (h : RelP C M) (hq : q < 4) (h7 : ¬ M 207 q = 0) (hc : nI c < M 208 (21 * q)) (c16 : c < 16) : Hrd C M (hearF C (124 + 2 * q) c) (lrI M q c) ∧ ∀ i, i < 400 → hearF C (124 + 2 * q) c 100 i = lrI M q c 218 i := by
  obtain ⟨⟨n, mo, hb⟩, -⟩ := (h.har q hq).th h7
  have n16 := hb.n16
  have n3 := hb.n3
  have mn := hb.mm
  have e0 : M 208 (21 * q) = nI n := hb.h0
  have e1 : M 208 (21 * q + 1) = nI mo := hb.h1
  have cn : c < n := by
    rw [e0] at hc
    exact (nI_ltI (by omega) (by omega)).mp hc
  have hs : SeR C 95 (fun _ => 0) 0 := ⟨by decide, h.cal.2, fun i hi => absurd hi (Nat.not_lt_zero i)⟩
  have hw : WfN (rinN M q c) n mo 0 := riN1_w c16 n3 n16 mn e0 e1
  have hw0 : WR (waBegin C 25 (124 + 2 * q) 95) 25 (wnd (upn (wnd (rdw (lkI M 4) 500) 0 21 (fun j => M 208 (21 * q + j))) 21 0) 30 95 (fun _ => 0)) n mo 0 := by
    refine WR_b (w := 25) hb hs (by omega) (by omega) ?_ (fun i hi => absurd hi (by omega)) ?_
    · intro p hp
      have e := wnd_in (N := rdw (lkI M 4) 500) (g := fun j => M 208 (21 * q + j)) (o := 0) hp
      rw [Nat.zero_add] at e
      rw [wnd_out (by omega), upn_n (by omega), e]
    · intro p h30 h95
      have e := wnd_in (N := upn (wnd (rdw (lkI M 4) 500) 0 21 (fun j => M 208 (21 * q + j))) 21 0) (g := fun _ => (0 : Int32)) (o := 30) (k := 95) (j := p - 30) (by omega)
      rw [show 30 + (p - 30) = p by omega] at e
      exact e
  have cb : waBegin C 25 (124 + 2 * q) 95 26 2 = nI n := (waBegin_bas (a := 25) (by omega) (by omega) (by omega) (by omega) 2 (by decide) (by decide)).trans hb.ce
  have eJ : heJ C (124 + 2 * q) c = up2 (waBegin C 25 (124 + 2 * q) 95) 31 c 1000 := by
    unfold heJ waLift
    rw [nI_clamp (by omega), if_pos (show hasC (waBegin C 25 (124 + 2 * q) 95) (25 + 1) (nI c) from ⟨nI_pos' (by omega), by rw [show 25 + 1 = 26 from rfl, cb]; exact nI_lt cn (by omega), nI_lt (b := 16) c16 (by decide)⟩)]
  have hJ : WR (heJ C (124 + 2 * q) c) 25 (rinN M q c) n mo 0 := by
    rw [eJ]
    exact WR_lift (w := 25) hw0 n16 cn (by decide)
  obtain ⟨s1, s2⟩ := hr_sim hJ hw cn 400 (by decide)
  have eS : ∀ k, rinS M q c k = secI (rinN M q c) n mo 0 k := fun k => by
    unfold rinS
    rw [e0, e1, nI_clamp (by omega), nI_clamp (by omega)]
  have eh : hearF C (124 + 2 * q) c = crW (hrI (heJ C (124 + 2 * q) c) n c 400) (crN (hrI (heJ C (124 + 2 * q) c) n c 400 100) 399) := by
    unfold hearF
    dsimp only
    rw [hb.ce, nI_clamp (by omega)]
  have fo : ∀ e, e < 24 ∨ (35 < e ∧ e ≠ 100) → hrI (heJ C (124 + 2 * q) c) n c 400 e = C e := fun e he => by
    rw [hrI_off (by omega), eJ, up2_off (by omega), waBegin_off (by omega)]
  have m8 : ∀ i, i < 400 → rinI M q c 400 218 i = secI (rinN M q c) n mo 0 (i + 1) (31 + c) := fun i hi => by
    unfold rinI
    have e2 := flw_in (I := up2 (lkI M 4) 200 26 400) (c := 218) (o := 0) (k := 400) (j := i) (g := fun i => rinS M q c (i + 1) (31 + c)) hi
    rw [Nat.zero_add] at e2
    rw [nw_off (by decide), e2, eS]
  have mo0 : ∀ j, j ≠ 24 → j ≠ 26 → rinI M q c 400 200 j = M 200 j := fun j h1 h2 => by
    unfold rinI lkI
    rw [nw_off (by decide), flw_off (by decide), u2_j h2, u2_j h1]
  rw [eh]
  refine ⟨?_, fun i hi => ?_⟩
  · unfold lrI
    refine Hrd_mk ⟨fun e he => fo e (by omega), by rw [fo 0 (by omega)]⟩ ?_ (fo 0 (by omega)) (fo 102 (by omega)) (mo0 0 (by decide) (by decide)) (mo0 2 (by decide) (by decide)) ?_ (fun i hi => (s2 i hi).trans (m8 i hi).symm)
    · unfold rinI
      exact FrM.trans (FrM.trans (FrM.trans FrM.lk (FrM.u0 (by decide))) (show FrM (flw _ 218 0 400 _) _ from ⟨fun e he => flw_off (by omega), fun j hj => by rw [flw_off (by decide)], by rw [flw_off (by decide)]⟩)) FrM.n5
    · unfold rinI lkI
      rw [nw_off (by decide), flw_off (by decide), up2_off (by decide), up2_off (by decide)]
  · unfold lrI
    rw [crW_off (by decide), crM_off (by decide), s2 i hi, m8 i hi]
theorem K_ring {k c : Int32} (h : RelP C M) (hL : FrL L) : SameL C M (f_X11_ring C L k c) (f_X12_ring M (f_X11_ring C L k c).2.2 k c) := by
  unfold f_X11_ring f_X12_ring
  by_cases c1 : b2i (0 ≤ k ∧ k ≤ 3) = 0
  · simp only [if_pos c1]
    exact sml (sm_v h) hL
  by_cases c2 : b2i (0 ≤ c ∧ c ≤ 15) = 0
  · simp only [if_neg c1, if_pos c2]
    exact sml (sm_v h) hL
  simp only [if_neg c1, if_neg c2]
  obtain ⟨qk, vk⟩ := cl_lt (N := 4) (by decide) c1
  obtain ⟨qc, vc⟩ := cl_lt (N := 16) (by decide) c2
  rw [(h.har _ qk).e, (ixz (c := 21) (C := 21) (R := 4) rfl (by decide) vk (by decide)).2]
  by_cases c3 : M 207 k.toNatClampNeg = 0
  · simp only [if_pos c3]
    exact sml (sm_1 h) hL
  simp only [if_neg c3]
  obtain ⟨⟨n, mo, hb⟩, -⟩ := (h.har _ qk).th c3
  have e0 : M 208 (21 * k.toNatClampNeg) = nI n := hb.h0
  have n16 := hb.n16
  simp only [hb.ce, e0]
  have ec := (vpn vc).2
  by_cases c4 : c < nI n
  · have hin : ¬ b2i (0 ≤ c ∧ c < nI n ∧ c < 16) = 0 := b2i_n0.mpr ⟨(b2i_n0.mp c2).1, c4, by rw [ec]; exact nI_lt (b := 16) qc (by decide)⟩
    simp only [if_neg hin, if_pos c4]
    exact K_tells h (hear_ring h qk c3 (by rw [e0, ← ec]; exact c4) qc).1 hL
  · have hin : b2i (0 ≤ c ∧ c < nI n ∧ c < 16) = 0 := b2i_0.mpr (fun z => c4 z.2.1)
    simp only [if_pos hin, if_neg c4]
    exact sml (sm_2 h) hL
end
end R21
