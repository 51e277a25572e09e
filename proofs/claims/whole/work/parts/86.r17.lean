section R17
variable {G : Gp} {I : Im} {L : Nat → Nat → Int64} {t : Nat}
section
variable {C M D E : Im}
theorem calm_s {r : Nat → Int32} {k : Nat} : calmN r (k + 1) = if r (k + 1) < r (calmN r k) then k + 1 else calmN r k := rfl
theorem mr_b {J : Im} {s m0 : Nat} {c g : Nat → Int32} (h : J 24 2 = nI m0) (hs : 90 < s) : ∀ k, m0 + k ≤ 48 → ∀ b, b < k → ∀ j, j ≤ 9 → mrN J s c g k (37 + (m0 + b)) j = if j = 6 ∨ j = 7 ∨ j = 8 then 0 else if j = 9 then -9 else if j = 1 then c b else if j = 3 then g b else J s j := by
  intro k
  induction k with
  | zero =>
    intro _ b hb
    exact absurd hb (Nat.not_lt_zero b)
  | succ k ih =>
    intro hk b hb j hj
    rw [mrN_s, mrN_m h k (by omega), nI_clamp (by omega)]
    by_cases e : b = k
    · subst e
      rw [mo24 hs (by omega) hj, mrN_off h (by omega) b (by omega)]
    · rw [moorI_off (by omega) (by omega)]
      exact ih (by omega) b (by omega) j hj
theorem tg_fr {s q z : Nat} {c : Int32} : ∀ k, FrM (tgN M s q z c k).2.2 M ∧ ∀ j, j ≠ 24 → j ≠ 32 → j ≠ 33 → (tgN M s q z c k).2.2 200 j = M 200 j := by
  intro k
  induction k with
  | zero =>
    rw [tgN_0]
    exact ⟨FrM.refl, fun _ _ _ _ => rfl⟩
  | succ k ih =>
    have e : (tgN M s q z c (k + 1)).2.2 = plI (tgN M s q z c k).2.2 s q z c (nI (k + 1)) := by
      rw [tgN_s]
      split <;> rfl
    rw [e]
    exact ⟨FrM.trans ih.1 FrM.pl, fun j a b d => by rw [pl_200 a b d]; exact ih.2 j a b d⟩
theorem wh_fr {s q z : Nat} {g : Int32} : ∀ k, FrM (whN M s q z g k).2.2 M ∧ ∀ j, j ≠ 24 → j ≠ 32 → j ≠ 33 → (whN M s q z g k).2.2 200 j = M 200 j := by
  intro k
  induction k with
  | zero =>
    rw [whN_0]
    exact ⟨FrM.refl, fun _ _ _ _ => rfl⟩
  | succ k ih =>
    have e : (whN M s q z g (k + 1)).2.2 = plI (whN M s q z g k).2.2 s q z (nI k) g := by
      rw [whN_s]
      split <;> rfl
    rw [e]
    exact ⟨FrM.trans ih.1 FrM.pl, fun j a b d => by rw [pl_200 a b d]; exact ih.2 j a b d⟩
theorem tg_e {s q z : Nat} {c : Int32} : ∀ k, k ≤ 40 → (tgN M s q z c (k + 1)).1 = nI (calmN (fun i => plD M s q z c (nI (i + 1)) (95 + 10 * s + 8)) k + 1) ∧ (tgN M s q z c (k + 1)).2.1 = plD M s q z c (nI (calmN (fun i => plD M s q z c (nI (i + 1)) (95 + 10 * s + 8)) k + 1)) (95 + 10 * s + 8) := by
  have pc : ∀ k g, plI (tgN M s q z c k).2.2 s q z c g 200 32 = plD M s q z c g (95 + 10 * s + 8) := fun k g => by
    rw [plI_t, plD_c (tgN_off (by decide) (by decide) k) (tgN_off (by decide) (by decide) k) (tgN_off (by decide) (by decide) k) (tgN_off (by decide) (by decide) k)]
  intro k
  induction k with
  | zero =>
    intro _
    rw [tgN_s, pc, if_pos (Or.inl (by rw [tgN_0]))]
    exact ⟨rfl, rfl⟩
  | succ k ih =>
    intro hk
    obtain ⟨i1, i2⟩ := ih (by omega)
    have le := calmN_le (fun i => plD M s q z c (nI (i + 1)) (95 + 10 * s + 8)) k
    have n9 : ¬ nI (calmN (fun i => plD M s q z c (nI (i + 1)) (95 + 10 * s + 8)) k + 1) = -9 := fun z => absurd (z ▸ nI_pos' (by omega) : (0 : Int32) ≤ -9) (by decide)
    rw [tgN_s, pc, i1, i2]
    rw [calm_s]
    by_cases cc : plD M s q z c (nI (k + 1 + 1)) (95 + 10 * s + 8) < plD M s q z c (nI (calmN (fun i => plD M s q z c (nI (i + 1)) (95 + 10 * s + 8)) k + 1)) (95 + 10 * s + 8)
    · rw [if_pos (Or.inr cc), if_pos cc]
      exact ⟨rfl, rfl⟩
    · rw [if_neg (fun z => z.elim n9 cc), if_neg cc]
      exact ⟨rfl, rfl⟩
theorem wh_e {s q z : Nat} {g : Int32} : ∀ k, k ≤ 40 → (whN M s q z g (k + 1)).1 = nI (calmN (fun i => plD M s q z (nI i) g (95 + 10 * s + 8)) k) ∧ (whN M s q z g (k + 1)).2.1 = plD M s q z (nI (calmN (fun i => plD M s q z (nI i) g (95 + 10 * s + 8)) k)) g (95 + 10 * s + 8) := by
  have pc : ∀ k c, plI (whN M s q z g k).2.2 s q z c g 200 32 = plD M s q z c g (95 + 10 * s + 8) := fun k c => by
    rw [plI_t, plD_c (whN_off (by decide) (by decide) k) (whN_off (by decide) (by decide) k) (whN_off (by decide) (by decide) k) (whN_off (by decide) (by decide) k)]
  intro k
  induction k with
  | zero =>
    intro _
    rw [whN_s, pc, if_pos (Or.inl (by rw [whN_0]))]
    exact ⟨rfl, rfl⟩
  | succ k ih =>
    intro hk
    obtain ⟨i1, i2⟩ := ih (by omega)
    have le := calmN_le (fun i => plD M s q z (nI i) g (95 + 10 * s + 8)) k
    have n9 : ¬ nI (calmN (fun i => plD M s q z (nI i) g (95 + 10 * s + 8)) k) = -9 := fun z => absurd (z ▸ nI_pos' (by omega) : (0 : Int32) ≤ -9) (by decide)
    rw [whN_s, pc, i1, i2]
    rw [calm_s]
    by_cases cc : plD M s q z (nI (k + 1)) g (95 + 10 * s + 8) < plD M s q z (nI (calmN (fun i => plD M s q z (nI i) g (95 + 10 * s + 8)) k)) g (95 + 10 * s + 8)
    · rw [if_pos (Or.inr cc), if_pos cc]
      exact ⟨rfl, rfl⟩
    · rw [if_neg (fun z => z.elim n9 cc), if_neg cc]
      exact ⟨rfl, rfl⟩
theorem K_tight {s k z : Int32} (h : RelP C M) : Same C M (f_X11_tight C s k z) (f_X12_tight M s k z) := by
  unfold f_X11_tight f_X12_tight
  dsimp only
  rcases pre_ship (s := s) (k := k) (z := z) 1 h with ⟨g1, g2, g3⟩ | ⟨g1, vs, vk, vz, c4, c5, c6, g2⟩
  · rw [if_neg g1, if_neg g2]
    exact g3
  rw [if_neg (by decide)] at g2
  have qs := (vpn vs).1
  have qk := (vpn vk).1
  have qz := (vpn vz).1
  obtain ⟨⟨n, mo, hb⟩, -⟩ := (h.har _ qk).th c5
  obtain ⟨x0, ⟨cc, hc16, ec⟩, -⟩ := (h.shp _ qs).th c4
  have e1 : C (144 + s.toNatClampNeg) 1 = M 215 (5 * s.toNatClampNeg) := x0 0 (by decide)
  have e0 : M 208 (21 * k.toNatClampNeg) = nI n := hb.h0
  have n16 := hb.n16
  have ux : up2 C 24 2 0 (144 + s.toNatClampNeg) = C (144 + s.toNatClampNeg) := up2_off (by omega)
  have uy : up2 C 24 2 0 (124 + 2 * k.toNatClampNeg) = C (124 + 2 * k.toNatClampNeg) := up2_off (by omega)
  rw [(ixz (c := 5) (C := 5) (R := 3) rfl (by decide) vs (by decide)).2, (ixz (c := 21) (C := 21) (R := 4) rfl (by decide) vk (by decide)).2] at g2
  rw [g1, if_pos rfl, (ixz (c := 5) (C := 5) (R := 3) rfl (by decide) vs (by decide)).2]
  dsimp only
  simp only [ux, e1, hb.ce]
  by_cases c7 : M 215 (5 * s.toNatClampNeg) < M 208 (21 * k.toNatClampNeg)
  · have cn : cc < n := by
      rw [ec, e0] at c7
      exact (nI_ltI (by omega) (by omega)).mp c7
    rw [if_pos c7] at g2
    have hin : ¬ b2i (0 ≤ M 215 (5 * s.toNatClampNeg) ∧ M 215 (5 * s.toNatClampNeg) < nI n ∧ M 215 (5 * s.toNatClampNeg) < 16) = 0 := b2i_n0.mpr ⟨by rw [ec]; exact nI_pos' (by omega), by rw [ec]; exact nI_lt cn (by omega), by rw [ec]; exact nI_lt (b := 16) hc16 (by decide)⟩
    rw [g2, if_neg hin]
    dsimp only
    rw [if_pos (show (0 : Int32) ≤ 0 by decide), ec]
    have h24 : up2 C 24 2 0 24 2 = nI 0 := u20
    have hm := mrN_m (s := 144 + s.toNatClampNeg) (c := fun _ => nI cc) (g := fun i => nI (i + 1)) h24 9 (by decide)
    have ho : ∀ e, e < 24 ∨ 84 < e → mrN (up2 C 24 2 0) (144 + s.toNatClampNeg) (fun _ => nI cc) (fun i => nI (i + 1)) 9 e = C e := fun e he => by rw [mrN_off h24 he 9 (by decide), up2_off (by omega)]
    have tb := fun b (hb9 : b < 9) => trial_boat (X := mrN (up2 C 24 2 0) (144 + s.toNatClampNeg) (fun _ => nI cc) (fun i => nI (i + 1)) 9) (m := 9) (b := b) (cc := cc) (g := nI (b + 1)) h qs qk qz c4 c5 c6 (fun e he => ho e (by omega)) hm (by decide) hb9 (by rw [ec] at c7; exact c7) hc16 (fun j hj => by
      have := mr_b (s := 144 + s.toNatClampNeg) (c := fun _ => nI cc) (g := fun i => nI (i + 1)) h24 (by omega) 9 (by decide) b hb9 j hj
      rw [Nat.zero_add] at this
      rw [this, up2_off (show 144 + s.toNatClampNeg ≠ 24 by omega)])
    have wo : ∀ e, e < 24 ∨ 84 < e → wakeI (mrN (up2 C 24 2 0) (144 + s.toNatClampNeg) (fun _ => nI cc) (fun i => nI (i + 1)) 9) (124 + 2 * k.toNatClampNeg) (132 + 3 * z.toNatClampNeg) e = C e := fun e he => by rw [wakeI_off (mr_t h24 (by decide)) (by omega)]; exact ho e he
    have ce := calm_c (f := pullV (wakeI (mrN (up2 C 24 2 0) (144 + s.toNatClampNeg) (fun _ => nI cc) (fun i => nI (i + 1)) 9) (124 + 2 * k.toNatClampNeg) (132 + 3 * z.toNatClampNeg)) 24 9) (g := fun i => plD M s.toNatClampNeg k.toNatClampNeg z.toNatClampNeg (nI cc) (nI (i + 1)) (95 + 10 * s.toNatClampNeg + 8)) 8 (fun i hi => (tb i (by omega)).2.1)
    have le := calmN_le (fun i => plD M s.toNatClampNeg k.toNatClampNeg z.toNatClampNeg (nI cc) (nI (i + 1)) (95 + 10 * s.toNatClampNeg + 8)) 8
    rw [(tb 0 (by decide)).1, nI_clamp (show 9 < 2 ^ 31 by decide), show 9 - 1 = 8 from rfl, ce, nI_clamp (by omega), (tg_e 8 (by decide)).1, (tg_e 8 (by decide)).2]
    refine sm_t h ⟨fun e he => wo e (by omega), by rw [wo 0 (by omega)]⟩ (tg_fr 9).1 (by rw [wo 0 (by omega)]) (wo 102 (by omega)) ((tg_fr 9).2 0 (by decide) (by decide) (by decide)) (tgN_off (by decide) (by decide) 9) ?_ ?_
    · exact (tb _ (by omega)).2.1
    · exact nI_1 _
  · rw [if_neg c7] at g2
    rw [g2, if_neg (fun z => absurd (show (0 : Int32) ≤ -3 from z) (by decide)), if_pos (show b2i (0 ≤ M 215 (5 * s.toNatClampNeg) ∧ M 215 (5 * s.toNatClampNeg) < nI n ∧ M 215 (5 * s.toNatClampNeg) < 16) = 0 from b2i_0.mpr (fun z => c7 (by rw [e0]; exact z.2.1)))]
    exact sm_2 h
theorem K_where {s k z : Int32} (h : RelP C M) : Same C M (f_X11_where C s k z) (f_X12_where M s k z) := by
  unfold f_X11_where f_X12_where
  dsimp only
  rcases pre_ship (s := s) (k := k) (z := z) 0 h with ⟨g1, g2, g3⟩ | ⟨g1, vs, vk, vz, c4, c5, c6, g2⟩
  · rw [if_neg g1, if_neg g2]
    exact g3
  rw [if_pos rfl] at g2
  have qs := (vpn vs).1
  have qk := (vpn vk).1
  have qz := (vpn vz).1
  obtain ⟨⟨n, mo, hb⟩, -⟩ := (h.har _ qk).th c5
  obtain ⟨x0, ⟨cc, hc16, ec⟩, -⟩ := (h.shp _ qs).th c4
  have e3 : C (144 + s.toNatClampNeg) 3 = M 215 (5 * s.toNatClampNeg + 2) := x0 2 (by decide)
  have e0 : M 208 (21 * k.toNatClampNeg) = nI n := hb.h0
  have n16 := hb.n16
  have ux : up2 C 24 2 0 (144 + s.toNatClampNeg) = C (144 + s.toNatClampNeg) := up2_off (by omega)
  have uy : up2 C 24 2 0 (124 + 2 * k.toNatClampNeg) = C (124 + 2 * k.toNatClampNeg) := up2_off (by omega)
  have n3 := hb.n3
  rw [g1, g2, if_pos rfl]
  dsimp only
  rw [if_pos (show (0 : Int32) ≤ 0 by decide), show (5 * s + 2).toNatClampNeg = 5 * s.toNatClampNeg + 2 from (ixm (c := 5) (C := 5) (R := 3) rfl vs (i := 2) (by unfold vp_in; decide) (by decide)).2]
  simp only [ux, uy, e3, hb.ce, e0, nI_clamp (show n < 2 ^ 31 by omega)]
  have h24 : up2 C 24 2 0 24 2 = nI 0 := u20
  have hm := mrN_m (s := 144 + s.toNatClampNeg) (c := nI) (g := fun _ => M 215 (5 * s.toNatClampNeg + 2)) h24 n (by omega)
  rw [Nat.zero_add] at hm
  have ho : ∀ e, e < 24 ∨ 84 < e → mrN (up2 C 24 2 0) (144 + s.toNatClampNeg) nI (fun _ => M 215 (5 * s.toNatClampNeg + 2)) n e = C e := fun e he => by rw [mrN_off h24 he n (by omega), up2_off (by omega)]
  have tb := fun b (hbn : b < n) => trial_boat (X := mrN (up2 C 24 2 0) (144 + s.toNatClampNeg) nI (fun _ => M 215 (5 * s.toNatClampNeg + 2)) n) (m := n) (b := b) (cc := b) (g := M 215 (5 * s.toNatClampNeg + 2)) h qs qk qz c4 c5 c6 (fun e he => ho e (by omega)) hm (by omega) hbn (by rw [e0]; exact nI_lt hbn (by omega)) (by omega) (fun j hj => by
    have := mr_b (s := 144 + s.toNatClampNeg) (c := nI) (g := fun _ => M 215 (5 * s.toNatClampNeg + 2)) h24 (by omega) n (by omega) b hbn j hj
    rw [Nat.zero_add] at this
    rw [this, up2_off (show 144 + s.toNatClampNeg ≠ 24 by omega)])
  have wo : ∀ e, e < 24 ∨ 84 < e → wakeI (mrN (up2 C 24 2 0) (144 + s.toNatClampNeg) nI (fun _ => M 215 (5 * s.toNatClampNeg + 2)) n) (124 + 2 * k.toNatClampNeg) (132 + 3 * z.toNatClampNeg) e = C e := fun e he => by rw [wakeI_off (mr_t h24 (by omega)) (by omega)]; exact ho e he
  obtain ⟨k', rfl⟩ : ∃ k', n = k' + 1 := ⟨n - 1, by omega⟩
  have ce := calm_c (f := pullV (wakeI (mrN (up2 C 24 2 0) (144 + s.toNatClampNeg) nI (fun _ => M 215 (5 * s.toNatClampNeg + 2)) (k' + 1)) (124 + 2 * k.toNatClampNeg) (132 + 3 * z.toNatClampNeg)) 24 (k' + 1)) (g := fun i => plD M s.toNatClampNeg k.toNatClampNeg z.toNatClampNeg (nI i) (M 215 (5 * s.toNatClampNeg + 2)) (95 + 10 * s.toNatClampNeg + 8)) k' (fun i hi => (tb i (by omega)).2.1)
  have le := calmN_le (fun i => plD M s.toNatClampNeg k.toNatClampNeg z.toNatClampNeg (nI i) (M 215 (5 * s.toNatClampNeg + 2)) (95 + 10 * s.toNatClampNeg + 8)) k'
  rw [(tb 0 (by omega)).1, nI_clamp (show k' + 1 < 2 ^ 31 by omega), show k' + 1 - 1 = k' from rfl, ce, nI_clamp (by omega), (wh_e k' (by omega)).1, (wh_e k' (by omega)).2]
  refine sm_t h ⟨fun e he => wo e (by omega), by rw [wo 0 (by omega)]⟩ (wh_fr (k' + 1)).1 (by rw [wo 0 (by omega)]) (wo 102 (by omega)) ((wh_fr (k' + 1)).2 0 (by decide) (by decide) (by decide)) (whN_off (by decide) (by decide) (k' + 1)) ?_ rfl
  exact (tb _ (by omega)).2.1
end
end R17
