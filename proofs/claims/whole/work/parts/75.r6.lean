section R6
variable {G : Gp} {I : Im} {L : Nat → Nat → Int64} {t : Nat}
section
variable {C M D E : Im}
def Same (C M : Im) (x y : Int32 × Im) : Prop := x.1 = y.1 ∧ RelP x.2 y.2 ∧ (∀ e, 200 ≤ e → x.2 e = C e) ∧ ∀ e, e < 200 → y.2 e = M e
theorem sm_v {a : Int32} (h : RelP C M) : Same C M (a, C) (a, M) := ⟨rfl, h, fun _ _ => rfl, fun _ _ => rfl⟩
theorem FrC.hi (h : FrC D C) : ∀ e, 200 ≤ e → D e = C e := fun e he => h.1 e (by omega)
theorem FrM.lo (h : FrM E M) : ∀ e, e < 200 → E e = M e := fun e he => h.1 e (by omega)
theorem sm_m {k : Nat} (h : RelP C M) (h1 : 1 ≤ k) (h5 : k ≤ 5) : Same C M ((f_X11_refuse C (nI k)).1, (f_X11_refuse C (nI k)).2) (-3, meI M (nI k)) := ⟨ref_1, rel_me h h1 h5, FrC.refuse.hi, FrM.me.lo⟩
theorem sm_1 (h : RelP C M) : Same C M ((f_X11_refuse C 1).1, (f_X11_refuse C 1).2) (-3, meI M 1) := sm_m (k := 1) h (by decide) (by decide)
theorem sm_2 (h : RelP C M) : Same C M ((f_X11_refuse C 2).1, (f_X11_refuse C 2).2) (-3, meI M 2) := sm_m (k := 2) h (by decide) (by decide)
theorem sm_3 (h : RelP C M) : Same C M ((f_X11_refuse C 3).1, (f_X11_refuse C 3).2) (-3, meI M 3) := sm_m (k := 3) h (by decide) (by decide)
theorem sm_4 (h : RelP C M) : Same C M ((f_X11_refuse C 4).1, (f_X11_refuse C 4).2) (-3, meI M 4) := sm_m (k := 4) h (by decide) (by decide)
theorem sm_5 (h : RelP C M) : Same C M ((f_X11_refuse C 5).1, (f_X11_refuse C 5).2) (-3, meI M 5) := sm_m (k := 5) h (by decide) (by decide)
/-- told behind a trial -/
theorem sm_t {v v' a a' : Int32} (h : RelP C M) (hC : FrC D C) (hM : FrM E M) (e0 : D 0 17 = C 0 17) (e1 : D 102 = C 102) (e3 : E 200 0 = M 200 0) (e4 : E 201 = M 201) (ev : v = v') (ea : a = a') : Same C M ((f_X11_tell D v a).1, (f_X11_tell D v a).2) (a', up2 E 200 2 v') := by
  subst ev ea
  exact ⟨rfl, rel_tell h hC hM e0 e1 e3 e4, (FrC.trans hC FrC.tell).hi, (FrM.trans hM (FrM.u0 (by decide))).lo⟩
theorem sm_t0 {v v' a : Int32} (h : RelP C M) (ev : v = v') : Same C M ((f_X11_tell C v a).1, (f_X11_tell C v a).2) (a, up2 M 200 2 v') := sm_t h FrC.refl FrM.refl rfl rfl rfl rfl ev rfl
theorem lt_le {i : Int32} {m : Nat} (hm : m < 2 ^ 30) : i < nI m ↔ i ≤ nI m - 1 := by
  rw [Int32.lt_iff_toInt_lt, Int32.le_iff_toInt_le, Int32.toInt_sub, nI_toInt (by omega), (by decide : (1 : Int32).toInt = 1), Int.bmod_eq_of_le (by omega) (by omega)]
  omega
theorem in_lt {i y z : Int32} {m : Nat} (hm : m < 2 ^ 30) (ey : y = nI m) (ez : z = y) : b2i (0 ≤ i ∧ i < y) = 0 ↔ b2i (0 ≤ i ∧ i ≤ z - 1) = 0 := by
  subst ez ey
  rw [b2i_0, b2i_0, lt_le hm]
theorem row_0 {q : Nat} (r : RowR C M q) (h : C (104 + 2 * q) 2 = 0) : ¬ 0 ≤ M 202 q ∧ M 202 q < 0 := by
  rcases r.th with z | z
  · rw [z.2]
    decide
  · rw [z.1] at h
    exact absurd h (by decide)
theorem row_1 {q : Nat} (r : RowR C M q) (h : ¬ C (104 + 2 * q) 2 = 0) : C (104 + 2 * q) 2 = 1 ∧ M 202 q = C (104 + 2 * q) 1 ∧ (∃ m, m ≤ 60 ∧ C (104 + 2 * q) 1 = nI m) ∧ 0 ≤ M 202 q ∧ ¬ M 202 q < 0 ∧ ∀ i, i < (C (104 + 2 * q) 1).toNatClampNeg → C (104 + 2 * q + 1) i = M 203 (60 * q + i) := by
  rcases r.th with z | z
  · exact absurd z.1 h
  · obtain ⟨m, hm, e⟩ := r.sz
    have h0 : 0 ≤ M 202 q := by rw [z.2.1, e]; exact nI_pos' (by omega)
    exact ⟨z.1, z.2.1, r.sz, h0, Int32.not_lt.mpr h0, z.2.2⟩
theorem row_v {q : Nat} {r i : Int32} (hq : r.toNatClampNeg = q) (vr : vp_in r 6) {m : Nat} (hm : m ≤ 60) (hs : C (104 + 2 * q) 1 = nI m) (h : ∀ j, j < (C (104 + 2 * q) 1).toNatClampNeg → C (104 + 2 * q + 1) j = M 203 (60 * q + j)) (hi : ¬ b2i (0 ≤ i ∧ i < C (104 + 2 * q) 1) = 0) : C (104 + 2 * q + 1) i.toNatClampNeg = M 203 (60 * r + i).toNatClampNeg ∧ (60 * r + i).toNatClampNeg = 60 * q + i.toNatClampNeg ∧ i.toNatClampNeg < m := by
  have vi := in_b hs hm (by decide) hi
  have h1 := b2i_n0.mp hi
  rw [hs] at h1
  obtain ⟨j, hj, rfl⟩ := nI_of (Int32.not_lt.mpr h1.1)
  have hjm : j < m := (nI_ltI hj (by omega)).mp h1.2
  have e := (ixm (c := 60) (C := 60) (R := 6) rfl vr vi (by decide)).2
  rw [e, hq, nI_clamp hj]
  exact ⟨h j (by rw [hs, nI_clamp (by omega)]; exact hjm), rfl, hjm⟩
theorem K_at {r i : Int32} (h : RelP C M) : Same C M (f_X11_at C r i) (f_X12_at M r i) := by
  unfold f_X11_at f_X12_at
  by_cases c1 : b2i (0 ≤ r ∧ r ≤ 5) = 0
  · rw [if_pos c1, if_pos c1]
    exact sm_v h
  rw [if_neg c1, if_neg c1]
  obtain ⟨qr, vr⟩ := cl_lt (N := 6) (by decide) c1
  have rr := h.row _ qr
  by_cases c2 : C (104 + 2 * r.toNatClampNeg) 2 = 0
  · rw [if_pos c2, if_neg (row_0 rr c2).1]
    exact sm_1 h
  obtain ⟨t1, t2, ⟨m, hm, em⟩, t3, -, t4⟩ := row_1 rr c2
  rw [if_neg c2, if_pos t3]
  have eq := in_lt (i := i) (by omega) em t2
  by_cases c3 : b2i (0 ≤ i ∧ i < C (104 + 2 * r.toNatClampNeg) 1) = 0
  · rw [if_pos c3, if_pos (eq.mp c3)]
    exact sm_2 h
  rw [if_neg c3, if_neg (fun z => c3 (eq.mpr z))]
  exact sm_t0 h (row_v rfl vr hm em t4 c3).1
theorem K_mean {r : Int32} (h : RelP C M) : Same C M (f_X11_mean C r) (f_X12_mean M r) := by
  unfold f_X11_mean f_X12_mean
  by_cases c1 : b2i (0 ≤ r ∧ r ≤ 5) = 0
  · rw [if_pos c1, if_pos c1]
    exact sm_v h
  rw [if_neg c1, if_neg c1]
  obtain ⟨qr, vr⟩ := cl_lt (N := 6) (by decide) c1
  have rr := h.row _ qr
  by_cases c2 : C (104 + 2 * r.toNatClampNeg) 2 = 0
  · rw [if_pos c2, if_neg (row_0 rr c2).1]
    exact sm_1 h
  obtain ⟨t1, t2, ⟨m, hm, em⟩, t3, -, t4⟩ := row_1 rr c2
  rw [if_neg c2, if_pos t3]
  by_cases c3 : 1 ≤ C (104 + 2 * r.toNatClampNeg) 1
  · have c3' : ¬ M 202 r.toNatClampNeg = 0 := by
      rw [t2]
      intro z
      rw [z] at c3
      exact absurd c3 (by decide)
    rw [if_pos c3, if_neg c3', t2]
    have es : ∀ k, k ≤ (C (104 + 2 * r.toNatClampNeg) 1).toNatClampNeg → sumL (C (104 + 2 * r.toNatClampNeg + 1)) k = sumL (fun j => M 203 (60 * r.toNatClampNeg + j)) k := by
      intro k
      induction k with
      | zero => intro _; rfl
      | succ k ih =>
        intro hk
        show sumL _ k + _ = sumL _ k + _
        rw [ih (by omega), t4 k (by omega)]
    exact sm_t0 h (by rw [es _ (Nat.le_refl _)])
  · have c3' : M 202 r.toNatClampNeg = 0 := by
      rw [t2, em] at *
      have : ¬ 1 ≤ m := fun z => c3 (nI_le (a := 1) z (by omega))
      rw [show m = 0 by omega]
      rfl
    rw [if_neg c3, if_pos c3']
    exact sm_4 h
end
end R6
