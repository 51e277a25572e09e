section R23
variable {G : Gp} {I : Im} {L : Nat → Nat → Int64} {t : Nat}
section
variable {C M D E : Im} {L : Nat → Nat → Int64}
theorem nI_dv {o u : Nat} (ho : o < 2 ^ 31) (hu : u < 2 ^ 31) : nI o / nI u = nI (o / u) := by
  have h1 : o / u ≤ o := Nat.div_le_self o u
  apply Int32.toInt_inj.mp
  rw [Int32.toInt_div, nI_toInt ho, nI_toInt hu, ← Int.ofNat_tdiv]
  generalize o / u = d at h1
  rw [nI_toInt (by omega), Int.bmod_eq_of_le (by omega) (by omega)]
/-- far apart, both ways -/
theorem far_abs {x y : Int32} (x1 : -(2 : Int) ^ 30 < x.toInt) (x2 : x.toInt < 2 ^ 30) (y1 : -(2 : Int) ^ 30 < y.toInt) (y2 : y.toInt < 2 ^ 30) : (if 0 ≤ x - y then x - y else 0 - (x - y)) = if x < y then y - x else x - y := by
  have e1 : (x - y).toInt = x.toInt - y.toInt := by
    rw [Int32.toInt_sub, Int.bmod_eq_of_le (by omega) (by omega)]
  have e2 : (y - x).toInt = y.toInt - x.toInt := by
    rw [Int32.toInt_sub, Int.bmod_eq_of_le (by omega) (by omega)]
  by_cases c : x < y
  · have c' := Int32.lt_iff_toInt_lt.mp c
    rw [if_pos c, if_neg (fun z => by
      have := Int32.le_iff_toInt_le.mp z
      rw [e1, Int32.toInt_zero] at this
      omega)]
    apply Int32.toInt_inj.mp
    rw [Int32.toInt_sub, e1, e2, Int32.toInt_zero, Int.bmod_eq_of_le (by omega) (by omega)]
    omega
  · have c' := Int32.le_iff_toInt_le.mp (Int32.not_lt.mp c)
    rw [if_neg c, if_pos (by
      rw [Int32.le_iff_toInt_le, e1, Int32.toInt_zero]
      omega)]
theorem far_nI {a b : Nat} (ha : a < 2 ^ 30) (hb : b < 2 ^ 30) : (if 0 ≤ nI a - nI b then nI a - nI b else 0 - (nI a - nI b)) = if nI a < nI b then nI b - nI a else nI a - nI b := by
  refine far_abs ?_ ?_ ?_ ?_
  · rw [nI_toInt (by omega)]
    omega
  · rw [nI_toInt (by omega)]
    omega
  · rw [nI_toInt (by omega)]
    omega
  · rw [nI_toInt (by omega)]
    omega
theorem ex_both {a b : Int32} (h : a = b) : ∃ v, a = v ∧ b = v := ⟨b, h, rfl⟩
theorem cut_eq (k : Hrd C M D E) (h2 : ¬ b2i (2 ≤ D 99 1) = 0) : cutB D = (E 200 29 - E 200 28) / (E 200 27 - 1) := by
  obtain ⟨m, hm, e1, e2, e3, -, -⟩ := k.2.2.2.2.2.2
  dsimp only at e1 e2 e3
  have c2 := b2i_n0.mp h2
  have : 1 ≤ m := by
    rcases Nat.eq_zero_or_pos m with z | z
    · subst z
      rw [e1] at c2
      exact absurd c2 (by decide)
    · exact z
  unfold cutB
  rw [if_pos c2, e1, e2, (e3 this).1, (e3 this).2]
theorem cut_n {X : Im} (h : CrG X) (h2 : ¬ b2i (2 ≤ X 99 1) = 0) : ∃ o, o < 2 ^ 30 ∧ cutB X = nI o := by
  have c2 := b2i_n0.mp h2
  obtain ⟨o, u, ho, u1, hu, e1, e2⟩ := h c2
  have := Nat.div_le_self o u
  unfold cutB
  rw [if_pos c2, e1, e2, nI_dv (by omega) (by omega)]
  exact ⟨o / u, by omega, rfl⟩
def KdR (C M : Im) (z i : Int32) (x y : Int32 × Im) : Prop := x.1 = y.1 ∧ ((¬ 0 ≤ x.1 ∧ Same C M x y) ∨ ((x.1 = 1 ∨ x.1 = 5) ∧ Hrd C M x.2 y.2 ∧ (∀ j, j < 400 → x.2 100 j = y.2 218 j) ∧ cutB x.2 = (y.2 200 29 - y.2 200 28) / (y.2 200 27 - 1)) ∨ (x.1 = 3 ∧ Hrd C M x.2 y.2 ∧ cutB x.2 = (y.2 200 29 - y.2 200 28) / (y.2 200 27 - 1)) ∨ ((x.1 = 2 ∨ x.1 = 4) ∧ Hrd C M x.2 y.2 ∧ f_X11_beatOfSet x.2 z i = y.2 211 (8 * z + 2 * i).toNatClampNeg ∧ (x.1 = 4 → cutB x.2 = (y.2 200 29 - y.2 200 28) / (y.2 200 27 - 1) ∧ (∃ a, a < 2 ^ 30 ∧ cutB x.2 = nI a) ∧ ∃ a, a < 2 ^ 30 ∧ f_X11_beatOfSet x.2 z i = nI a)))
theorem m1_n {X : Im} : ¬ 0 ≤ ((-1 : Int32), X).1 := show ¬ (0 : Int32) ≤ -1 by decide
theorem m4_n {X : Im} : ¬ 0 ≤ ((-4 : Int32), X).1 := show ¬ (0 : Int32) ≤ -4 by decide
theorem kd_s {z i : Int32} {x y : Int32 × Im} (h : Same C M x y) (h0 : ¬ 0 ≤ x.1) : KdR C M z i x y := ⟨h.1, Or.inl ⟨h0, h⟩⟩
theorem ref_m3 {k : Int32} {X Y : Im} : ¬ 0 ≤ ((f_X11_refuse X k).1, Y).1 := by
  dsimp only
  rw [ref_1]
  decide
theorem kd_ring {z i k c : Int32} (h : RelP C M) : KdR C M z i (f_X11_kindOfRing C k c) (f_X12_kindOfRing M k c) := by
  unfold f_X11_kindOfRing f_X12_kindOfRing
  by_cases c1 : b2i (0 ≤ k ∧ k ≤ 3) = 0
  · simp only [if_pos c1]
    exact kd_s (sm_v h) m1_n
  by_cases c2 : b2i (0 ≤ c ∧ c ≤ 15) = 0
  · simp only [if_neg c1, if_pos c2]
    exact kd_s (sm_v h) m1_n
  simp only [if_neg c1, if_neg c2]
  obtain ⟨qk, vk⟩ := cl_lt (N := 4) (by decide) c1
  obtain ⟨qc, vc⟩ := cl_lt (N := 16) (by decide) c2
  rw [(h.har _ qk).e, (ixz (c := 21) (C := 21) (R := 4) rfl (by decide) vk (by decide)).2]
  by_cases c3 : M 207 k.toNatClampNeg = 0
  · simp only [if_pos c3]
    exact kd_s (sm_1 h) ref_m3
  simp only [if_neg c3]
  obtain ⟨⟨n, mo, hb⟩, -⟩ := (h.har _ qk).th c3
  have e0 : M 208 (21 * k.toNatClampNeg) = nI n := hb.h0
  have n16 := hb.n16
  simp only [hb.ce, e0]
  have ec := (vpn vc).2
  by_cases c4 : c < nI n
  · have hin : ¬ b2i (0 ≤ c ∧ c < nI n ∧ c < 16) = 0 := b2i_n0.mpr ⟨(b2i_n0.mp c2).1, c4, by rw [ec]; exact nI_lt (b := 16) qc (by decide)⟩
    simp only [if_neg hin, if_pos c4]
    obtain ⟨g1, g2⟩ := hear_ring h qk c3 (show nI c.toNatClampNeg < M 208 (21 * k.toNatClampNeg) by rw [e0, ← ec]; exact c4) qc
    have e2 : hearF C (124 + 2 * k.toNatClampNeg) c.toNatClampNeg 99 1 = lrI M k.toNatClampNeg c.toNatClampNeg 200 27 := by
      obtain ⟨m, hm, e1, e2, -⟩ := g1.2.2.2.2.2.2
      exact e1.trans e2.symm
    have el := last_c 400 g2
    rw [el, ← e2]
    by_cases c5 : b2i (2 ≤ hearF C (124 + 2 * k.toNatClampNeg) c.toNatClampNeg 99 1) = 0
    · simp only [if_pos c5]
      exact kd_s (sm_tr g1.1 g1.2.1 (sm_4 (g1.rel h))) ref_m3
    simp only [if_neg c5]
    by_cases c6 : 300 < nI (lastL (lrI M k.toNatClampNeg c.toNatClampNeg 218) 400)
    · simp only [if_pos c6]
      exact ⟨rfl, Or.inr (Or.inl ⟨Or.inl rfl, g1, g2, cut_eq g1 c5⟩)⟩
    · simp only [if_neg c6]
      exact ⟨rfl, Or.inr (Or.inl ⟨Or.inr rfl, g1, g2, cut_eq g1 c5⟩)⟩
  · have hin : b2i (0 ≤ c ∧ c < nI n ∧ c < 16) = 0 := b2i_0.mpr (fun z => c4 z.2.1)
    simp only [if_pos hin, if_neg c4]
    exact kd_s (sm_2 h) ref_m3
theorem kd_roll {z i s : Int32} (h : RelP C M) : KdR C M z i (f_X11_kindOfRoll C s) (f_X12_kindOfRoll M s) := by
  unfold f_X11_kindOfRoll f_X12_kindOfRoll
  by_cases c1 : b2i (0 ≤ s ∧ s ≤ 2) = 0
  · simp only [if_pos c1]
    exact kd_s (sm_v h) m1_n
  simp only [if_neg c1]
  obtain ⟨qs, vs⟩ := cl_lt (N := 3) (by decide) c1
  rw [(h.shp _ qs).e]
  by_cases c4 : M 214 s.toNatClampNeg = 0
  · simp only [if_pos c4]
    exact kd_s (sm_v h) m4_n
  simp only [if_neg c4]
  have g1 := hear_roll h qs c4
  have e2 : rollF C (144 + s.toNatClampNeg) 99 1 = loI M s.toNatClampNeg 200 27 := by
    obtain ⟨m, hm, e1, e2, -⟩ := g1.2.2.2.2.2.2
    exact e1.trans e2.symm
  rw [← e2]
  by_cases c5 : b2i (2 ≤ rollF C (144 + s.toNatClampNeg) 99 1) = 0
  · simp only [if_pos c5]
    exact kd_s (sm_tr g1.1 g1.2.1 (sm_4 (g1.rel h))) ref_m3
  simp only [if_neg c5]
  exact ⟨rfl, Or.inr (Or.inr (Or.inl ⟨rfl, g1, cut_eq g1 c5⟩))⟩
theorem kd_set {z i k : Int32} (h : RelP C M) : KdR C M z i (f_X11_kindOfSet C z i k) (f_X12_kindOfSet M z i k) := by
  unfold f_X11_kindOfSet f_X12_kindOfSet
  by_cases c1 : b2i (0 ≤ z ∧ z ≤ 3) = 0
  · simp only [if_pos c1]
    exact kd_s (sm_v h) m1_n
  by_cases c2 : b2i (0 ≤ k ∧ k ≤ 3) = 0
  · simp only [if_neg c1, if_pos c2]
    exact kd_s (sm_v h) m1_n
  simp only [if_neg c1, if_neg c2]
  obtain ⟨qz, vz⟩ := cl_lt (N := 4) (by decide) c1
  obtain ⟨qk, vk⟩ := cl_lt (N := 4) (by decide) c2
  rw [(h.har _ qk).e, (h.sea _ qz).e, show (21 * k + 1).toNatClampNeg = 21 * k.toNatClampNeg + 1 from (ixm (c := 21) (C := 21) (R := 4) rfl vk (i := 1) (by unfold vp_in; decide) (by decide)).2]
  by_cases c3 : M 209 z.toNatClampNeg = 0
  · simp only [if_pos c3]
    exact kd_s (sm_1 h) ref_m3
  by_cases c4 : M 207 k.toNatClampNeg = 0
  · simp only [if_neg c3, if_pos c4]
    exact kd_s (sm_1 h) ref_m3
  simp only [if_neg c3, if_neg c4]
  obtain ⟨⟨n, mo, hb⟩, -⟩ := (h.har _ qk).th c4
  obtain ⟨c, hs, em, hx⟩ := (h.sea _ qz).th c3
  have n16 := hb.n16
  have mm := hb.mm
  have cc4 := hs.c4
  have e0 : M 208 (21 * k.toNatClampNeg) = nI n := hb.h0
  have e1 : M 208 (21 * k.toNatClampNeg + 1) = nI mo := hb.h1
  simp only [hs.ct, em]
  by_cases c5 : 0 ≤ i ∧ i < nI c
  · obtain ⟨j, hj, rfl⟩ := nI_of (Int32.not_lt.mpr c5.1)
    have hjc := (nI_ltI hj (by omega)).mp c5.2
    have hin : ¬ b2i (0 ≤ nI j ∧ nI j < nI c ∧ nI j < 4) = 0 := b2i_n0.mpr ⟨c5.1, c5.2, nI_lt (b := 4) (by omega) (by decide)⟩
    simp only [if_neg hin, if_neg (b2i_n0.mpr ⟨c5.1, (lt_le (by omega)).mp c5.2⟩ : ¬ b2i (0 ≤ nI j ∧ nI j ≤ nI c - 1) = 0)]
    obtain ⟨-, -, x1, -⟩ := ix8 vz (vp_in_nI (show j < 4 by omega) (by decide))
    obtain ⟨b1, -, -⟩ := hs.be j hjc
    obtain ⟨⟨p, p2, p60, ep⟩, -⟩ := hx j hjc
    have h3 : C (124 + 2 * k.toNatClampNeg) 3 = nI mo := hb.2.2.2.2.1
    rw [h3, e1, nI_clamp (show mo < 2 ^ 31 by omega)]
    obtain ⟨g1, g2⟩ := hear_ring h qk c4 (show nI mo < M 208 (21 * k.toNatClampNeg) by rw [e0]; exact nI_lt mm (by omega)) (by omega)
    have e2 : hearF C (124 + 2 * k.toNatClampNeg) mo 99 1 = lrI M k.toNatClampNeg mo 200 27 := by
      obtain ⟨m, hm, e1, e2, -⟩ := g1.2.2.2.2.2.2
      exact e1.trans e2.symm
    have fo : ∀ e, 104 ≤ e → hearF C (124 + 2 * k.toNatClampNeg) mo e = C e := fun e he => g1.1.1 e (by omega)
    have m1 : lrI M k.toNatClampNeg mo 211 = M 211 := g1.2.1.1 211 (by omega)
    have eb : f_X11_beatOfSet (hearF C (124 + 2 * k.toNatClampNeg) mo) z (nI j) = lrI M k.toNatClampNeg mo 211 (8 * z + 2 * nI j).toNatClampNeg := by
      unfold f_X11_beatOfSet
      rw [if_neg c1, fo _ (by omega), fo _ (by omega), hs.ct, if_neg hin, x1, m1, nI_clamp hj]
      exact b1
    have ep2 : lrI M k.toNatClampNeg mo 211 (8 * z + 2 * nI j).toNatClampNeg = nI p := by
      rw [x1, m1, nI_clamp hj]
      exact ep
    by_cases c6 : b2i (2 ≤ hearF C (124 + 2 * k.toNatClampNeg) mo 99 1) = 0
    · have c6' : b2i (2 ≤ lrI M k.toNatClampNeg mo 200 27) = 0 := by rw [← e2]; exact c6
      simp only [if_pos c6, if_pos c6']
      exact ⟨rfl, Or.inr (Or.inr (Or.inr ⟨Or.inl rfl, g1, eb, fun z => absurd (show (2 : Int32) = 4 from z) (by decide)⟩))⟩
    have c6' : ¬ b2i (2 ≤ lrI M k.toNatClampNeg mo 200 27) = 0 := by rw [← e2]; exact c6
    obtain ⟨o, ho, eo⟩ := cut_n crG_h c6
    have ek := cut_eq g1 c6
    simp only [if_neg c6, if_neg c6']
    have eq : (if 0 ≤ f_X11_beatOfSet (hearF C (124 + 2 * k.toNatClampNeg) mo) z (nI j) - cutB (hearF C (124 + 2 * k.toNatClampNeg) mo) then f_X11_beatOfSet (hearF C (124 + 2 * k.toNatClampNeg) mo) z (nI j) - cutB (hearF C (124 + 2 * k.toNatClampNeg) mo) else 0 - (f_X11_beatOfSet (hearF C (124 + 2 * k.toNatClampNeg) mo) z (nI j) - cutB (hearF C (124 + 2 * k.toNatClampNeg) mo))) = (if lrI M k.toNatClampNeg mo 211 (8 * z + 2 * nI j).toNatClampNeg < (lrI M k.toNatClampNeg mo 200 29 - lrI M k.toNatClampNeg mo 200 28) / (lrI M k.toNatClampNeg mo 200 27 - 1) then (lrI M k.toNatClampNeg mo 200 29 - lrI M k.toNatClampNeg mo 200 28) / (lrI M k.toNatClampNeg mo 200 27 - 1) - lrI M k.toNatClampNeg mo 211 (8 * z + 2 * nI j).toNatClampNeg else lrI M k.toNatClampNeg mo 211 (8 * z + 2 * nI j).toNatClampNeg - (lrI M k.toNatClampNeg mo 200 29 - lrI M k.toNatClampNeg mo 200 28) / (lrI M k.toNatClampNeg mo 200 27 - 1)) := by
      rw [← ek, eb, ep2, eo]
      exact far_nI (by omega) ho
    have r4 : (∃ a, a < 2 ^ 30 ∧ cutB (hearF C (124 + 2 * k.toNatClampNeg) mo) = nI a) ∧ ∃ a, a < 2 ^ 30 ∧ f_X11_beatOfSet (hearF C (124 + 2 * k.toNatClampNeg) mo) z (nI j) = nI a := ⟨⟨o, ho, eo⟩, p, by omega, by rw [eb, ep2]⟩
    obtain ⟨v, v1, v2⟩ := ex_both eq
    rw [v1, v2]
    by_cases c7 : 2 < v
    · simp only [if_pos c7]
      exact ⟨rfl, Or.inr (Or.inr (Or.inr ⟨Or.inl rfl, g1, eb, fun z => absurd (show (2 : Int32) = 4 from z) (by decide)⟩))⟩
    · simp only [if_neg c7]
      exact ⟨rfl, Or.inr (Or.inr (Or.inr ⟨Or.inr rfl, g1, eb, fun _ => ⟨ek, r4⟩⟩))⟩
  · simp only [if_pos (b2i_0.mpr (fun z => c5 ⟨z.1, z.2.1⟩) : b2i (0 ≤ i ∧ i < nI c ∧ i < 4) = 0), if_pos (b2i_0.mpr (fun z => c5 ⟨z.1, (lt_le (by omega)).mpr z.2⟩) : b2i (0 ≤ i ∧ i ≤ nI c - 1) = 0)]
    exact kd_s (sm_2 h) ref_m3
theorem kd_of {w a i c : Int32} (h : RelP C M) : KdR C M a i (f_X11_kindOf C w a i c) (f_X12_kindOf M w a i c) := by
  unfold f_X11_kindOf f_X12_kindOf
  by_cases w0 : w = 0
  · simp only [if_pos w0]
    exact kd_ring h
  by_cases w1 : w = 1
  · simp only [if_neg w0, if_pos w1]
    exact kd_set h
  by_cases w2 : w = 2
  · simp only [if_neg w0, if_neg w1, if_pos w2]
    exact kd_roll h
  simp only [if_neg w0, if_neg w1, if_neg w2]
  exact kd_s (sm_v h) m1_n
theorem kd_rel {a i : Int32} {x y : Int32 × Im} (h : RelP C M) (k : KdR C M a i x y) : Same C M x y := by
  rcases k.2 with ⟨-, g⟩ | ⟨-, g, -⟩ | ⟨-, g, -⟩ | ⟨-, g, -⟩
  · exact g
  · exact ⟨k.1, g.rel h, fun e he => g.1.1 e (by omega), fun e he => g.2.1.1 e (by omega)⟩
  · exact ⟨k.1, g.rel h, fun e he => g.1.1 e (by omega), fun e he => g.2.1.1 e (by omega)⟩
  · exact ⟨k.1, g.rel h, fun e he => g.1.1 e (by omega), fun e he => g.2.1.1 e (by omega)⟩
theorem K_kind {w a i c : Int32} (h : RelP C M) : Same C M (f_X11_kind C w a i c) (f_X12_kind M w a i c) := by
  unfold f_X11_kind f_X12_kind
  exact kd_rel h (kd_of h)
end
end R23
