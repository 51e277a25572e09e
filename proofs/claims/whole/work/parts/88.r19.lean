section R19
variable {G : Gp} {I : Im} {L : Nat → Nat → Int64} {t : Nat}
section
variable {C M D E : Im}
theorem has_y {i n y : Int32} {m : Nat} (hm : m ≤ 60) (ey : y = nI m) (h : ¬ hasR i n y = 0) : ∃ a b, a + b ≤ m ∧ i = nI a ∧ n = nI b ∧ ¬ i < 0 ∧ ¬ 0 < lg_cmp (i.toInt64 + n.toInt64) y.toInt64 ∧ lg_cmp (i.toInt64 + n.toInt64) y.toInt64 ≤ 0 := by
  obtain ⟨h0, h1, h2⟩ := b2i_n0.mp h
  obtain ⟨a, ha, rfl⟩ := nI_of (Int32.not_lt.mpr h0)
  obtain ⟨b, hb, rfl⟩ := nI_of (Int32.not_lt.mpr h1)
  subst ey
  have h3 := Int32.le_iff_toInt_le.mp h2
  rw [nI_toInt ha, Int32.toInt_sub, nI_toInt (by omega), nI_toInt hb, Int.bmod_eq_of_le (by omega) (by omega)] at h3
  have h4 : (nI a).toInt64 + (nI b).toInt64 ≤ (nI m).toInt64 := by
    rw [Int64.le_iff_toInt_le, Int64.toInt_add, Int32.toInt_toInt64, Int32.toInt_toInt64, Int32.toInt_toInt64, nI_toInt ha, nI_toInt hb, nI_toInt (by omega), Int.bmod_eq_of_le (by omega) (by omega)]
    omega
  exact ⟨a, b, by omega, rfl, rfl, Int32.not_lt.mpr h0, fun z => absurd ((lg_cmp_gt _ _).mp z) (Int64.not_lt.mpr h4), (lg_cmp_le _ _).mpr h4⟩
theorem has_n {i n y : Int32} {m : Nat} (hm : m ≤ 60) (ey : y = nI m) (hi : ¬ i < 0) (hn : 0 ≤ n) (h : ¬ 0 < lg_cmp (i.toInt64 + n.toInt64) y.toInt64) : ¬ hasR i n y = 0 := by
  obtain ⟨a, ha, rfl⟩ := nI_of hi
  obtain ⟨b, hb, rfl⟩ := nI_of (Int32.not_lt.mpr hn)
  subst ey
  have h1 := Int64.not_lt.mp (fun z => h ((lg_cmp_gt _ _).mpr z))
  rw [Int64.le_iff_toInt_le, Int64.toInt_add, Int32.toInt_toInt64, Int32.toInt_toInt64, Int32.toInt_toInt64, nI_toInt ha, nI_toInt hb, nI_toInt (by omega), Int.bmod_eq_of_le (by omega) (by omega)] at h1
  refine b2i_n0.mpr ⟨nI_pos' ha, nI_pos' hb, ?_⟩
  rw [Int32.le_iff_toInt_le, nI_toInt ha, Int32.toInt_sub, nI_toInt (by omega), nI_toInt hb, Int.bmod_eq_of_le (by omega) (by omega)]
  omega
theorem K_copy {r i s j n : Int32} (h : RelP C M) : Same C M (f_X11_copy C r i s j n) (f_X12_copy M r i s j n) := by
  unfold f_X11_copy f_X12_copy
  by_cases c1 : b2i (0 ≤ r ∧ r ≤ 5) = 0
  · simp only [if_pos c1]
    exact sm_v h
  by_cases c2 : b2i (0 ≤ s ∧ s ≤ 5) = 0
  · simp only [if_neg c1, if_pos c2]
    exact sm_v h
  obtain ⟨qr, vr⟩ := cl_lt (N := 6) (by decide) c1
  obtain ⟨qs, vs⟩ := cl_lt (N := 6) (by decide) c2
  have rr := h.row _ qr
  have rs := h.row _ qs
  by_cases c3 : 0 ≤ n
  · simp only [if_neg c1, if_neg c2, if_pos c3]
    by_cases c4 : C (104 + 2 * r.toNatClampNeg) 2 = 0
    · rw [if_pos c4, if_pos (row_0 rr c4).2]
      exact sm_1 h
    obtain ⟨t1, t2, ⟨m, hm, em⟩, t3, t3', t4⟩ := row_1 rr c4
    rw [if_neg c4, if_neg t3']
    by_cases c5 : C (104 + 2 * s.toNatClampNeg) 2 = 0
    · rw [if_pos c5, if_neg (row_0 rs c5).1]
      exact sm_1 h
    obtain ⟨u1, u2, ⟨m', hm', em'⟩, u3, u3', u4⟩ := row_1 rs c5
    rw [if_neg c5, if_pos u3]
    by_cases c6 : hasR i n (C (104 + 2 * r.toNatClampNeg) 1) = 0
    · rw [if_pos c6]
      by_cases d1 : i < 0
      · rw [if_pos d1]
        exact sm_2 h
      rw [if_neg d1]
      by_cases d2 : j < 0
      · rw [if_pos d2]
        exact sm_2 h
      rw [if_neg d2, t2]
      by_cases d3 : 0 < lg_cmp (i.toInt64 + n.toInt64) (C (104 + 2 * r.toNatClampNeg) 1).toInt64
      · rw [if_pos d3]
        exact sm_2 h
      · exact absurd c6 (has_n hm em d1 c3 d3)
    obtain ⟨a, b, ab, ea, eb, x1, x2, x3⟩ := has_y hm em c6
    rw [if_neg c6, if_neg x1, t2, if_neg x2]
    by_cases c7 : hasR j n (C (104 + 2 * s.toNatClampNeg) 1) = 0
    · rw [if_pos c7]
      by_cases d2 : j < 0
      · rw [if_pos d2]
        exact sm_2 h
      rw [if_neg d2, u2, if_neg (fun z => absurd c7 (has_n hm' em' d2 c3 (fun w => absurd ((lg_cmp_gt _ _).mp w) (Int64.not_lt.mpr ((lg_cmp_le _ _).mp z)))))]
      exact sm_2 h
    obtain ⟨c, b', cb, ec, eb', y1, y2, y3⟩ := has_y hm' em' c7
    rw [if_neg c7, if_neg y1, u2, if_pos y3]
    have bb : b = b' := (nI_eq (by omega) (by omega)).mp (eb.symm.trans eb')
    subst bb
    rw [ea, ec, eb, nI_clamp (show a < 2 ^ 31 by omega), nI_clamp (show b < 2 ^ 31 by omega), nI_clamp (show c < 2 ^ 31 by omega)]
    generalize r.toNatClampNeg = p at qr rr c4 t1 t2 em t3 t4
    generalize s.toNatClampNeg = q at qs rs c5 u1 u2 em' u3 u4
    show Same C M (1, cpR C (104 + 2 * p + 1) (104 + 2 * q + 1) a c b) (1, flw (flw M 204 0 b (fun k => M 203 (60 * p + (a + k)))) 203 (60 * q + c) b (flw M 204 0 b (fun k => M 203 (60 * p + (a + k))) 204))
    have f1 : ∀ e, e ≠ 104 + 2 * q + 1 → cpR C (104 + 2 * p + 1) (104 + 2 * q + 1) a c b e = C e := fun e h1 => cpR_off h1
    have f2 : ∀ e, e ≠ 204 → e ≠ 203 → flw (flw M 204 0 b (fun k => M 203 (60 * p + (a + k)))) 203 (60 * q + c) b (flw M 204 0 b (fun k => M 203 (60 * p + (a + k))) 204) e = M e := fun e h1 h2 => by rw [flw_off h2, flw_off h1]
    refine sm_mk (Rel_row (q := q) qs h (fun e h1 h2 => f1 e (by omega)) (by rw [f1 0 (by omega)]) (fun e he => f2 e (by omega) (by omega)) (fun j hj => by rw [f2 217 (by decide) (by decide)]) (by rw [f2 200 (by decide) (by decide)]) ?_ ?_ ?_ ?_) (fun e he => f1 e (by omega)) (fun e he => f2 e (by omega) (by omega))
    · intro k hk ek
      rw [f2 202 (by decide) (by decide)]
    · intro k i hk ek hi
      rw [flw_out (by omega), flw_off (by decide)]
    · refine RowR.mk ⟨m', hm', by rw [f1 _ (by omega)]; exact em'⟩ (Or.inr ⟨by rw [f1 _ (by omega)]; exact u1, by rw [f1 _ (by omega), f2 202 (by decide) (by decide)]; exact u2, ?_⟩)
      rw [f1 (104 + 2 * q) (by omega), em', nI_clamp (by omega)]
      rw [em', nI_clamp (by omega)] at u4
      rw [em, nI_clamp (by omega)] at t4
      intro k hk
      have e1 : cpR C (104 + 2 * p + 1) (104 + 2 * q + 1) a c b (104 + 2 * q + 1) k = if c ≤ k ∧ k < c + b then C (104 + 2 * p + 1) (a + (k - c)) else C (104 + 2 * q + 1) k := by
        simp [cpR, va_cpy]
      rw [e1]
      by_cases d : c ≤ k ∧ k < c + b
      · rw [if_pos d, t4 _ (by omega)]
        have e2 := flw_in (I := flw M 204 0 b (fun k => M 203 (60 * p + (a + k)))) (c := 203) (o := 60 * q + c) (k := b) (j := k - c) (g := flw M 204 0 b (fun k => M 203 (60 * p + (a + k))) 204) (by omega)
        have e3 := flw_in (I := M) (c := 204) (o := 0) (k := b) (j := k - c) (g := fun k => M 203 (60 * p + (a + k))) (by omega)
        rw [Nat.zero_add] at e3
        rw [e3, show 60 * q + c + (k - c) = 60 * q + k by omega] at e2
        exact e2.symm
      · rw [if_neg d, flw_out (by omega), flw_off (by decide)]
        exact u4 k hk
    · exact fnd_0 h.fnd (f1 0 (by omega)) (f1 102 (by omega)) (f2 200 (by decide) (by decide)) (f2 201 (by decide) (by decide))
  · simp only [if_neg c1, if_neg c2, if_neg c3]
    exact sm_5 h
end
end R19
