section R18
variable {G : Gp} {I : Im} {L : Nat → Nat → Int64} {t : Nat}
section
variable {C M D E : Im} {L : Nat → Nat → Int64}
def SameL (C M : Im) (x y : Int32 × Im × (Nat → Nat → Int64)) : Prop := x.1 = y.1 ∧ RelP x.2.1 y.2.1 ∧ (∀ e, 200 ≤ e → x.2.1 e = C e) ∧ (∀ e, e < 200 → y.2.1 e = M e) ∧ FrL y.2.2
theorem sml {x y : Int32 × Im} {K : Nat → Nat → Int64} (h : Same C M x y) (hL : FrL K) : SameL C M (x.1, x.2, L) (y.1, y.2, K) := ⟨h.1, h.2.1, h.2.2.1, h.2.2.2, hL⟩
theorem sml_k {a : Int32} {K : Nat → Nat → Int64} (hR : RelP D E) (h1 : ∀ e, 200 ≤ e → D e = C e) (h2 : ∀ e, e < 200 → E e = M e) (hL : FrL K) : SameL C M (a, D, L) (a, E, K) := ⟨rfl, hR, h1, h2, hL⟩
theorem fr_both {o u : Nat} : FrL (frM (frT L o u) o u) := by
  unfold FrL frM frT
  refine ⟨?_, ?_⟩
  · simp [up2]
  · simp [up2]
theorem any_eq (h : RelP C M) : f_X11_anySea C = f_X12_isAnySea M := by
  have a0 : C 132 2 = M 209 0 := (h.sea 0 (by decide)).e
  have a1 : C 135 2 = M 209 1 := (h.sea 1 (by decide)).e
  have a2 : C 138 2 = M 209 2 := (h.sea 2 (by decide)).e
  have a3 : C 141 2 = M 209 3 := (h.sea 3 (by decide)).e
  unfold f_X11_anySea f_X12_isAnySea
  rw [a0, a1, a2, a3]
  rfl
theorem ws_trial {Y : Im} {s q z cc : Nat} (h : RelP C M) (hs : s < 3) (hq : q < 4) (hz : z < 4) (h4 : ¬ M 214 s = 0) (h7 : ¬ M 207 q = 0) (h9 : ¬ M 209 z = 0) (hY : ∀ e, 84 < e → Y e = C e) (ec : M 215 (5 * s) = nI cc) (hc16 : cc < 16) (hcc : nI cc < M 208 (21 * q)) : f_X11_wakeShip Y (144 + s) (124 + 2 * q) (132 + 3 * z) 24 2 = nI 1 ∧ pullV (f_X11_wakeShip Y (144 + s) (124 + 2 * q) (132 + 3 * z)) 24 1 0 = plD M s q z (nI cc) (M 215 (5 * s + 2)) (95 + 10 * s + 8) ∧ partV (f_X11_wakeShip Y (144 + s) (124 + 2 * q) (132 + 3 * z)) 24 1 0 = plD M s q z (nI cc) (M 215 (5 * s + 2)) (95 + 10 * s + 9) := by
  obtain ⟨x0, -⟩ := (h.shp _ hs).th h4
  have e1 : C (144 + s) 1 = M 215 (5 * s) := x0 0 (by decide)
  have e3 : C (144 + s) 3 = M 215 (5 * s + 2) := x0 2 (by decide)
  have hX0 : ∀ e, 90 < e → moorI (up2 Y 24 2 0) 24 0 (144 + s) (nI cc) (M 215 (5 * s + 2)) e = C e := fun e he => by rw [moorI_off (by omega) (by omega), up2_off (by omega), hY e (by omega)]
  have tb := trial_boat (X := moorI (up2 Y 24 2 0) 24 0 (144 + s) (nI cc) (M 215 (5 * s + 2))) (m := 1) (b := 0) (cc := cc) (g := M 215 (5 * s + 2)) h hs hq hz h4 h7 h9 hX0 moorI_m (by decide) (by decide) hcc hc16 (fun j hj => by rw [mo24 (by omega) (by decide) hj, up2_off (show 144 + s ≠ 24 by omega), hY _ (by omega)])
  have eW : f_X11_wakeShip Y (144 + s) (124 + 2 * q) (132 + 3 * z) = wakeI (moorI (up2 Y 24 2 0) 24 0 (144 + s) (nI cc) (M 215 (5 * s + 2))) (124 + 2 * q) (132 + 3 * z) := by
    unfold f_X11_wakeShip
    dsimp only
    rw [u20, nI_clamp (by decide), up2_off (show 144 + s ≠ 24 by omega), hY _ (by omega), e1, ec, e3]
  rw [eW]
  exact tb
theorem mo_fr {s q : Nat} {c g : Int32} : ∀ k, FrM (moN M s q c g k).2.2 M ∧ ∀ j, j ≠ 24 → j ≠ 32 → j ≠ 33 → (moN M s q c g k).2.2 200 j = M 200 j := by
  intro k
  induction k with
  | zero =>
    rw [moN_0]
    exact ⟨FrM.refl, fun _ _ _ _ => rfl⟩
  | succ k ih =>
    rw [moN_s]
    split
    · exact ih
    · exact ⟨FrM.trans ih.1 FrM.pl, fun j a b d => (pl_200 a b d).trans (ih.2 j a b d)⟩
theorem od_mo {s q cc : Nat} (h : RelP C M) (hs : s < 3) (hq : q < 4) (h4 : ¬ M 214 s = 0) (h7 : ¬ M 207 q = 0) (ec : M 215 (5 * s) = nI cc) (hc16 : cc < 16) (hcc : nI cc < M 208 (21 * q)) : ∀ k, k ≤ 4 → (odN C (144 + s) (124 + 2 * q) k).1 = (moN M s q (nI cc) (M 215 (5 * s + 2)) k).2.1 := by
  intro k
  induction k with
  | zero =>
    intro _
    rw [odN_0, moN_0]
  | succ k ih =>
    intro hk
    have i1 := ih (by omega)
    rw [odN_s, moN_s, odN_off (by omega) k, moN_off (by decide) (by decide) k, (h.sea k (by omega)).e]
    by_cases c9 : M 209 k = 0
    · rw [if_pos c9, if_pos c9]
      exact i1
    · rw [if_neg c9, if_neg c9]
      dsimp only
      obtain ⟨t1, -, t3⟩ := ws_trial (Y := (odN C (144 + s) (124 + 2 * q) k).2) (z := k) h hs hq (by omega) h4 h7 c9 (fun e he => odN_off (by omega) k) ec hc16 hcc
      rw [t1, nI_clamp (by decide), show (0 : Int32).toNatClampNeg = 0 from rfl, t3, plI_p, plD_c (moN_off (by decide) (by decide) k) (moN_off (by decide) (by decide) k) (moN_off (by decide) (by decide) k) (moN_off (by decide) (by decide) k), i1]
theorem K_odds {s k : Int32} (h : RelP C M) (hL : FrL L) : SameL C M (f_X11_odds C L s k) (f_X12_odds M (f_X11_odds C L s k).2.2 s k) := by
  unfold f_X11_odds f_X12_odds
  by_cases c1 : b2i (0 ≤ s ∧ s ≤ 2) = 0
  · simp only [if_pos c1]
    exact sml (sm_v h) hL
  by_cases c2 : b2i (0 ≤ k ∧ k ≤ 3) = 0
  · simp only [if_neg c1, if_pos c2]
    exact sml (sm_v h) hL
  simp only [if_neg c1, if_neg c2]
  obtain ⟨qs, vs⟩ := cl_lt (N := 3) (by decide) c1
  obtain ⟨qk, vk⟩ := cl_lt (N := 4) (by decide) c2
  rw [(h.shp _ qs).e, (h.har _ qk).e, any_eq h]
  by_cases c4 : M 214 s.toNatClampNeg = 0
  · simp only [if_pos c4]
    exact sml (sm_v h) hL
  by_cases c5 : M 207 k.toNatClampNeg = 0
  · simp only [if_neg c4, if_pos c5]
    exact sml (sm_1 h) hL
  by_cases c6 : f_X12_isAnySea M = 0
  · simp only [if_neg c4, if_neg c5, if_pos c6]
    exact sml (sm_1 h) hL
  simp only [if_neg c4, if_neg c5, if_neg c6]
  obtain ⟨⟨n, mo, hb⟩, -⟩ := (h.har _ qk).th c5
  obtain ⟨x0, ⟨cc, hc16, ec⟩, -⟩ := (h.shp _ qs).th c4
  have e1 : C (144 + s.toNatClampNeg) 1 = M 215 (5 * s.toNatClampNeg) := x0 0 (by decide)
  have e0 : M 208 (21 * k.toNatClampNeg) = nI n := hb.h0
  have n16 := hb.n16
  rw [(ixz (c := 5) (C := 5) (R := 3) rfl (by decide) vs (by decide)).2, (ixz (c := 21) (C := 21) (R := 4) rfl (by decide) vk (by decide)).2, show (5 * s + 2).toNatClampNeg = 5 * s.toNatClampNeg + 2 from (ixm (c := 5) (C := 5) (R := 3) rfl vs (i := 2) (by unfold vp_in; decide) (by decide)).2]
  simp only [e1, hb.ce, ec, e0]
  by_cases cn : cc < n
  · have hin : ¬ b2i (0 ≤ nI cc ∧ nI cc < nI n ∧ nI cc < 16) = 0 := b2i_n0.mpr ⟨nI_pos' (by omega), nI_lt cn (by omega), nI_lt (b := 16) hc16 (by decide)⟩
    have hcc : nI cc < M 208 (21 * k.toNatClampNeg) := by rw [e0]; exact nI_lt cn (by omega)
    have om := od_mo h qs qk c4 c5 ec hc16 hcc 4 (by decide)
    have m1 := moN_1 (I := M) (s := s.toNatClampNeg) (q := k.toNatClampNeg) (c := nI cc) (g := M 215 (5 * s.toNatClampNeg + 2)) 4
    have lc := cntN_le (f := M 209) 4
    simp only [if_neg hin, if_pos (nI_lt cn (by omega) : nI cc < nI n)]
    have ct : f_X11_count (odN C (144 + s.toNatClampNeg) (124 + 2 * k.toNatClampNeg) 4).2 1 = nI (moN M s.toNatClampNeg k.toNatClampNeg (nI cc) (M 215 (5 * s.toNatClampNeg + 2)) 4).1 := by
      rw [count_1, m1.1, cntN_congr (g := M 209) 4 (fun i hi => by rw [odN_off (by omega)]; exact (h.sea i hi).e)]
    rw [om, ct]
    refine sml_k ?_ ?_ ?_ fr_both
    · refine Rel_of h ⟨fun e he => odN_off (by omega) 4, by rw [odN_off (by omega) 4]⟩ (mo_fr 4).1.ke ?_
      exact FndR_of h.fnd (by rw [odN_off (by omega) 4]) (odN_off (by omega) 4) (by rw [odN_off (by omega) 4]) ((mo_fr 4).2 0 (by decide) (by decide) (by decide)) (moN_off (by decide) (by decide) 4) ((mo_fr 4).2 2 (by decide) (by decide) (by decide))
    · exact fun e he => odN_off (by omega) 4
    · exact fun e he => (mo_fr 4).1.1 e (Or.inl he)
  · have hin : b2i (0 ≤ nI cc ∧ nI cc < nI n ∧ nI cc < 16) = 0 := b2i_0.mpr (fun z => cn ((nI_ltI (by omega) (by omega)).mp z.2.1))
    simp only [if_pos hin, if_neg (fun z => cn ((nI_ltI (by omega) (by omega)).mp z) : ¬ nI cc < nI n)]
    exact sml (sm_2 h) hL
end
end R18
