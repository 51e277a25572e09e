section R16
variable {G : Gp} {I : Im} {L : Nat → Nat → Int64} {t : Nat}
section
variable {C M D E : Im}
theorem pre_ship {s k z : Int32} (w : Int32) (h : RelP C M) : (¬ (f_X11_refusedShip C s k z).1 = 0 ∧ ¬ 0 ≤ (f_X12_needPull M s k z w).1 ∧ Same C M (f_X11_refusedShip C s k z) (f_X12_needPull M s k z w)) ∨ (f_X11_refusedShip C s k z = (0, C) ∧ vp_in s 3 ∧ vp_in k 4 ∧ vp_in z 4 ∧ ¬ M 214 s.toNatClampNeg = 0 ∧ ¬ M 207 k.toNatClampNeg = 0 ∧ ¬ M 209 z.toNatClampNeg = 0 ∧ f_X12_needPull M s k z w = if w = 0 then (0, M) else if M 215 (5 * s).toNatClampNeg < M 208 (21 * k).toNatClampNeg then (0, M) else (-3, meI M 2)) := by
  have n1 : ∀ X : Im, ¬ ((-1 : Int32), X).1 = 0 := fun X z => absurd (show (-1 : Int32) = 0 from z) (by decide)
  have m1 : ∀ X : Im, ¬ 0 ≤ ((-1 : Int32), X).1 := fun X z => absurd (show (0 : Int32) ≤ -1 from z) (by decide)
  have m3 : ∀ X : Im, ¬ 0 ≤ ((-3 : Int32), X).1 := fun X z => absurd (show (0 : Int32) ≤ -3 from z) (by decide)
  have r3 : ¬ (f_X11_refuse C 1).1 = 0 := by
    rw [ref_1]
    decide
  unfold f_X11_refusedShip f_X12_needPull
  by_cases c1 : b2i (0 ≤ s ∧ s ≤ 2) = 0
  · rw [if_pos c1, if_pos c1]
    exact Or.inl ⟨n1 _, m1 _, sm_v h⟩
  rw [if_neg c1, if_neg c1]
  by_cases c2 : b2i (0 ≤ k ∧ k ≤ 3) = 0
  · rw [if_pos c2, if_pos c2]
    exact Or.inl ⟨n1 _, m1 _, sm_v h⟩
  rw [if_neg c2, if_neg c2]
  by_cases c3 : b2i (0 ≤ z ∧ z ≤ 3) = 0
  · rw [if_pos c3, if_pos c3]
    exact Or.inl ⟨n1 _, m1 _, sm_v h⟩
  rw [if_neg c3, if_neg c3]
  obtain ⟨qs, vs⟩ := cl_lt (N := 3) (by decide) c1
  obtain ⟨qk, vk⟩ := cl_lt (N := 4) (by decide) c2
  obtain ⟨qz, vz⟩ := cl_lt (N := 4) (by decide) c3
  rw [(h.shp _ qs).e, (h.har _ qk).e, (h.sea _ qz).e]
  by_cases c4 : M 214 s.toNatClampNeg = 0
  · rw [if_pos c4, if_pos c4]
    exact Or.inl ⟨fun z => absurd (show (-4 : Int32) = 0 from z) (by decide), fun z => absurd (show (0 : Int32) ≤ -4 from z) (by decide), sm_v h⟩
  rw [if_neg c4, if_neg c4]
  by_cases c5 : M 207 k.toNatClampNeg = 0
  · rw [if_pos c5, if_pos c5]
    exact Or.inl ⟨r3, m3 _, sm_1 h⟩
  rw [if_neg c5, if_neg c5]
  by_cases c6 : M 209 z.toNatClampNeg = 0
  · rw [if_pos c6, if_pos c6]
    exact Or.inl ⟨r3, m3 _, sm_1 h⟩
  rw [if_neg c6, if_neg c6]
  exact Or.inr ⟨rfl, vs, vk, vz, c4, c5, c6, rfl⟩
theorem mo24 {X : Im} {m p j : Nat} {c g : Int32} (hp : 90 < p) (m48 : m < 48) (hj : j ≤ 9) : moorI X 24 m p c g (37 + m) j = if j = 6 ∨ j = 7 ∨ j = 8 then 0 else if j = 9 then -9 else if j = 1 then c else if j = 3 then g else X p j := by
  unfold moorI boRest
  rw [up2_off (by omega), show 24 + 13 + m = 37 + m by omega]
  simp only [u2_b]
  rcases (by omega : j = 0 ∨ j = 1 ∨ j = 2 ∨ j = 3 ∨ j = 4 ∨ j = 5 ∨ j = 6 ∨ j = 7 ∨ j = 8 ∨ j = 9) with rfl | rfl | rfl | rfl | rfl | rfl | rfl | rfl | rfl | rfl
  all_goals simp
  all_goals exact bo_t (by omega) (by decide)
theorem pl_r {s q z j : Nat} {c g : Int32} (hj : j < 10) : plN M s q z c g (95 + 10 * s + j) = if j = 3 then g else if j = 1 then c else if j = 0 then 1 else if j ≤ 5 then M 215 (5 * s + (j - 1)) else if j = 9 then -9 else 0 := by
  unfold plN
  by_cases c3 : j = 3
  · subst c3
    rw [upn_s, if_pos rfl]
  rw [upn_n (by omega), if_neg c3]
  by_cases c1 : j = 1
  · subst c1
    rw [upn_s, if_pos rfl]
  rw [upn_n (by omega), if_neg c1]
  unfold shN
  by_cases c9 : j = 9
  · subst c9
    rw [upn_s, if_neg (by decide), if_neg (by decide), if_pos rfl]
  rw [upn_n (by omega)]
  by_cases c8 : j = 8
  · subst c8
    rw [upn_s, if_neg (by decide), if_neg (by decide), if_neg (by decide)]
  rw [upn_n (by omega)]
  by_cases c7 : j = 7
  · subst c7
    rw [upn_s, if_neg (by decide), if_neg (by decide), if_neg (by decide)]
  rw [upn_n (by omega)]
  by_cases c6 : j = 6
  · subst c6
    rw [upn_s, if_neg (by decide), if_neg (by decide), if_neg (by decide)]
  rw [upn_n (by omega)]
  by_cases c0 : j = 0
  · subst c0
    rw [wnd_out (by omega), Nat.add_zero, upn_s, if_pos rfl]
  · have e := wnd_in (N := upn (wkM M q z) (95 + 10 * s) 1) (g := fun j => M 215 (5 * s + j)) (o := 95 + 10 * s + 1) (k := 5) (j := j - 1) (by omega)
    rw [show 95 + 10 * s + 1 + (j - 1) = 95 + 10 * s + j by omega] at e
    rw [e, if_neg c0, if_pos (by omega)]
theorem plD_c {J : Im} {s q z : Nat} {c g : Int32} (h8 : J 208 = M 208) (h0 : J 210 = M 210) (h1 : J 211 = M 211) (h5 : J 215 = M 215) : plD J s q z c g = plD M s q z c g := by
  unfold plD
  rw [plN_c h8 h0 h1 h5, h8, h0]
/-- a boat of a trial and the model's own waking of it -/
theorem trial_boat {X : Im} {s q z m b cc : Nat} {g : Int32} (h : RelP C M) (hs : s < 3) (hq : q < 4) (hz : z < 4) (h4 : ¬ M 214 s = 0) (h7 : ¬ M 207 q = 0) (h9 : ¬ M 209 z = 0) (hX : ∀ e, 90 < e → X e = C e) (hm : X 24 2 = nI m) (m48 : m ≤ 48) (hb : b < m) (hcc : nI cc < M 208 (21 * q)) (hc16 : cc < 16) (hB : ∀ j, j ≤ 9 → X (37 + b) j = if j = 6 ∨ j = 7 ∨ j = 8 then 0 else if j = 9 then -9 else if j = 1 then nI cc else if j = 3 then g else C (144 + s) j) : wakeI X (124 + 2 * q) (132 + 3 * z) 24 2 = nI m ∧ pullV (wakeI X (124 + 2 * q) (132 + 3 * z)) 24 m b = plD M s q z (nI cc) g (95 + 10 * s + 8) ∧ partV (wakeI X (124 + 2 * q) (132 + 3 * z)) 24 m b = plD M s q z (nI cc) g (95 + 10 * s + 9) := by
  obtain ⟨⟨n, mo, hb0⟩, -⟩ := (h.har q hq).th h7
  obtain ⟨c, hs0, em, -⟩ := (h.sea z hz).th h9
  obtain ⟨l1, -, e0, e1⟩ := wkM_l hb0 hs0 em
  have n16 := hb0.n16
  have mn := hb0.mm
  have c4 := hs0.c4
  have hbX : BaR X (124 + 2 * q) (fun p => M 208 (21 * q + p)) n mo := BaR_of hb0 (hX _ (by omega)) (hX _ (by omega))
  have hsX : SeR X (132 + 3 * z) (fun i => M 211 (8 * z + i)) c := SeR_of hs0 (hX _ (by omega)) (hX _ (by omega)) (hX _ (by omega))
  have hw := plN_w (g := g) h.hHm hq h7 h.hSb hz hs h.hSp h4 hc16
  rw [e0, e1, em, nI_clamp (show n < 2 ^ 31 by omega), nI_clamp (show mo < 2 ^ 31 by omega), nI_clamp (show c < 2 ^ 31 by omega)] at hw
  have hl : Laid (plN M s q z (nI cc) g) (fun p => M 208 (21 * q + p)) (fun i => M 211 (8 * z + i)) c := ⟨fun p hp => by rw [plN_o (by omega)]; exact l1.1 p hp, fun i hi => by rw [plN_o (by omega)]; exact l1.2.1 i hi, fun p g1 g2 => by rw [plN_o (by omega)]; exact l1.2.2 p g1 g2⟩
  have eD : plD M s q z (nI cc) g = secI (plN M s q z (nI cc) g) n mo c 300 := by
    unfold plD
    rw [e0, e1, em, nI_clamp (by omega), nI_clamp (by omega), nI_clamp (by omega)]
  obtain ⟨x0, -, ⟨w, w1, w9, ew⟩, -⟩ := (h.shp s hs).th h4
  have hK : BoK X (37 + b) (plN M s q z (nI cc) g) s n := by
    have p0 := pl_r (M := M) (s := s) (q := q) (z := z) (c := nI cc) (g := g) (j := 0) (by decide)
    rw [Nat.add_zero] at p0
    refine ⟨fun j g1 g9 => ?_, ?_, ?_, ⟨cc, ?_, ?_⟩, ⟨w, w1, w9, ?_⟩⟩
    · rw [hB j g9, pl_r (by omega)]
      by_cases d3 : j = 3
      · subst d3
        rfl
      rw [if_neg d3]
      by_cases d1 : j = 1
      · subst d1
        rfl
      rw [if_neg d1]
      by_cases d5 : j ≤ 5
      · rw [if_neg (show ¬ (j = 6 ∨ j = 7 ∨ j = 8) by omega), if_neg (show ¬ j = 9 by omega), if_neg (show ¬ j = 0 by omega), if_pos d5]
        have := x0 (j - 1) (by omega)
        rw [show 1 + (j - 1) = j by omega] at this
        try rw [if_neg d3, if_neg d1]
        exact this
      · rw [if_neg (show ¬ j = 0 by omega), if_neg d5]
        by_cases d9 : j = 9
        · subst d9
          rfl
        · rw [if_pos (show (j = 6 ∨ j = 7 ∨ j = 8) by omega), if_neg d9]
          try rw [if_neg d3, if_neg d1]
    · rw [p0]
      rfl
    · rw [hB 0 (by decide)]
      show ¬ C (144 + s) 0 = 0
      rw [(h.shp s hs).e]
      exact h4
    · rw [e0] at hcc
      exact (nI_ltI (by omega) (by omega)).mp hcc
    · rw [pl_r (by decide)]
      rfl
    · rw [pl_r (by decide)]
      exact ew
  have hT : TOk X := ⟨m, m48, hm⟩
  have e24 : wakeI X (124 + 2 * q) (132 + 3 * z) 24 2 = nI m := by rw [wakeI_m hT]; exact hm
  have hf := wk_Bo hbX hsX (by omega) (by omega) hm m48 hl hw hb hs hK
  rw [← eD] at hf
  refine ⟨e24, ?_, ?_⟩
  · unfold pullV
    rw [show 24 + 13 + b = 37 + b by omega, if_pos ⟨hb, hf.2.2.1⟩]
    exact hf.1 8 (by decide) (by decide)
  · unfold partV
    rw [show 24 + 13 + b = 37 + b by omega, if_pos ⟨hb, hf.2.2.1⟩]
    exact hf.1 9 (by decide) (by decide)
theorem FrM.pl {s q z : Nat} {c g : Int32} : FrM (plI M s q z c g) M := FrM.trans (FrM.trans FrM.lk FrM.n5) (FrM.trans (FrM.u0 (by decide)) (FrM.u0 (by decide)))
theorem pl_200 {s q z j : Nat} {c g : Int32} (h : j ≠ 24) (h2 : j ≠ 32) (h3 : j ≠ 33) : plI M s q z c g 200 j = M 200 j := by
  unfold plI
  rw [u2_j h3, u2_j h2, nw_off (by decide)]
  exact u2_j h
theorem K_pull {s k z : Int32} (h : RelP C M) : Same C M (f_X11_pull C s k z) (f_X12_pull M s k z) := by
  unfold f_X11_pull f_X12_pull
  dsimp only
  rcases pre_ship (s := s) (k := k) (z := z) 1 h with ⟨g1, g2, g3⟩ | ⟨g1, vs, vk, vz, c4, c5, c6, g2⟩
  · rw [if_neg g1, if_neg g2]
    exact g3
  rw [if_neg (by decide)] at g2
  have qs := (vpn vs).1
  have qk := (vpn vk).1
  have qz := (vpn vz).1
  obtain ⟨⟨n, mo, hb⟩, -⟩ := (h.har _ qk).th c5
  obtain ⟨x0, ⟨cc, hc16, ec⟩, -⟩ := (h.shp _ qs).th c4
  have e1 : C (144 + s.toNatClampNeg) 1 = M 215 (5 * s.toNatClampNeg) := x0 0 (by decide)
  have e3 : C (144 + s.toNatClampNeg) 3 = M 215 (5 * s.toNatClampNeg + 2) := x0 2 (by decide)
  have e0 : M 208 (21 * k.toNatClampNeg) = nI n := hb.h0
  have n16 := hb.n16
  rw [(ixz (c := 5) (C := 5) (R := 3) rfl (by decide) vs (by decide)).2, (ixz (c := 21) (C := 21) (R := 4) rfl (by decide) vk (by decide)).2] at g2
  rw [g1, if_pos rfl, (ixz (c := 5) (C := 5) (R := 3) rfl (by decide) vs (by decide)).2, show (5 * s + 2).toNatClampNeg = 5 * s.toNatClampNeg + 2 from (ixm (c := 5) (C := 5) (R := 3) rfl vs (i := 2) (by unfold vp_in; decide) (by decide)).2]
  dsimp only
  simp only [e1, hb.ce]
  by_cases c7 : M 215 (5 * s.toNatClampNeg) < M 208 (21 * k.toNatClampNeg)
  · have cn : cc < n := by
      rw [ec, e0] at c7
      exact (nI_ltI (by omega) (by omega)).mp c7
    rw [if_pos c7] at g2
    have hin : ¬ b2i (0 ≤ M 215 (5 * s.toNatClampNeg) ∧ M 215 (5 * s.toNatClampNeg) < nI n ∧ M 215 (5 * s.toNatClampNeg) < 16) = 0 := b2i_n0.mpr ⟨by rw [ec]; exact nI_pos' (by omega), by rw [ec]; exact nI_lt cn (by omega), by rw [ec]; exact nI_lt (b := 16) hc16 (by decide)⟩
    rw [g2, if_neg hin]
    dsimp only
    rw [if_pos (show (0 : Int32) ≤ 0 by decide)]
    rw [plI_t, plI_p]
    have hX0 : ∀ e, 90 < e → moorI (up2 C 24 2 0) 24 0 (144 + s.toNatClampNeg) (nI cc) (C (144 + s.toNatClampNeg) 3) e = C e := fun e he => by rw [moorI_off (by omega) (by omega), up2_off (by omega)]
    have tb := trial_boat (X := moorI (up2 C 24 2 0) 24 0 (144 + s.toNatClampNeg) (nI cc) (C (144 + s.toNatClampNeg) 3)) (m := 1) (b := 0) (cc := cc) (g := C (144 + s.toNatClampNeg) 3) h qs qk qz c4 c5 c6 hX0 moorI_m (by decide) (by decide) (by rw [ec] at c7; exact c7) hc16 (fun j hj => by rw [mo24 (by omega) (by decide) hj, up2_off (show 144 + s.toNatClampNeg ≠ 24 by omega)])
    have eW : f_X11_wakeShip C (144 + s.toNatClampNeg) (124 + 2 * k.toNatClampNeg) (132 + 3 * z.toNatClampNeg) = wakeI (moorI (up2 C 24 2 0) 24 0 (144 + s.toNatClampNeg) (nI cc) (C (144 + s.toNatClampNeg) 3)) (124 + 2 * k.toNatClampNeg) (132 + 3 * z.toNatClampNeg) := by
      unfold f_X11_wakeShip
      dsimp only
      rw [u20, nI_clamp (by decide), up2_off (show 144 + s.toNatClampNeg ≠ 24 by omega), e1, ec]
    have wo : ∀ e, e < 24 ∨ 84 < e → f_X11_wakeShip C (144 + s.toNatClampNeg) (124 + 2 * k.toNatClampNeg) (132 + 3 * z.toNatClampNeg) e = C e := fun e he => wship_off he
    refine sm_t h ⟨fun e he => wo e (by omega), by rw [wo 0 (by omega)]⟩ FrM.pl (by rw [wo 0 (by omega)]) (wo 102 (by omega)) (pl_200 (by decide) (by decide) (by decide)) (plI_off (by decide) (by decide)) ?_ ?_
    · rw [eW, tb.1, nI_clamp (by decide), show (0 : Int32).toNatClampNeg = 0 from rfl, tb.2.2, ec, e3]
    · rw [eW, tb.1, nI_clamp (by decide), show (0 : Int32).toNatClampNeg = 0 from rfl, tb.2.1, ec, e3]
  · rw [if_neg c7] at g2
    rw [g2, if_neg (fun z => absurd (show (0 : Int32) ≤ -3 from z) (by decide)), if_pos (show b2i (0 ≤ M 215 (5 * s.toNatClampNeg) ∧ M 215 (5 * s.toNatClampNeg) < nI n ∧ M 215 (5 * s.toNatClampNeg) < 16) = 0 from b2i_0.mpr (fun z => c7 (by rw [e0]; exact z.2.1)))]
    exact sm_2 h
end
end R16
