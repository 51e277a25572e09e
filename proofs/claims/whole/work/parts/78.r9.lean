section R9
variable {G : Gp} {I : Im} {L : Nat → Nat → Int64} {t : Nat}
section
variable {C M D E : Im}
theorem Rel_wrk (h : RelP C M) (hC : ∀ e, ((8 ≤ e ∧ e ≤ 23) ∨ e = 95 ∨ (104 ≤ e ∧ e < 200)) → (e < 147 ∨ 151 < e) → D e = C e) (hM : ∀ e, e = 202 ∨ e = 203 ∨ (205 ≤ e ∧ e ≤ 211) ∨ (214 ≤ e ∧ e ≤ 216) → E e = M e) (hM2 : ∀ j, j < 500 → E 217 j = M 217 j) (hX : WrkR D E) (hF : FndR D E) : RelP D E := by
  refine RelP.mk ?_ ?_ ?_ ?_ ?_ hX ?_ ?_ hF ?_ ?_
  · intro q hq
    exact RowR_of (h.row q hq) (hC _ (by omega) (by omega)) (hC _ (by omega) (by omega)) (by rw [hM 202 (by omega)]) (fun i hi => by rw [hM 203 (by omega)])
  · intro q hq
    exact TxtR_of (h.txt q hq) (hC _ (by omega) (by omega)) (hC _ (by omega) (by omega)) (by rw [hM 205 (by omega)]) (fun i hi => by rw [hM 206 (by omega)])
  · intro q hq
    exact HarR_of (h.har q hq) (hC _ (by omega) (by omega)) (hC _ (by omega) (by omega)) (by rw [hM 207 (by omega)]) (fun i hi => by rw [hM 208 (by omega)])
  · intro q hq
    exact SeaR_of (h.sea q hq) (hC _ (by omega) (by omega)) (hC _ (by omega) (by omega)) (hC _ (by omega) (by omega)) (by rw [hM 209 (by omega)]) (by rw [hM 210 (by omega)]) (fun i hi => by rw [hM 211 (by omega)])
  · intro q hq
    exact ShpR_of (h.shp q hq) (hC _ (by omega) (by omega)) (by rw [hM 214 (by omega)]) (fun i hi => by rw [hM 215 (by omega)])
  · exact NigR_of h.nig (fun e h1 h2 => hC e (by omega) (by omega)) (by rw [hM 216 (by omega)]) (fun p hp => hM2 _ (by omega))
  · intro q hq
    exact NigR_of (h.kep q hq) (fun e h1 h2 => hC e (by omega) (by omega)) (by rw [hM 216 (by omega)]) (fun p hp => hM2 _ (by omega))
  · unfold CalmS
    rw [hC 95 (by omega) (by omega)]
    exact h.cal
  · unfold BtS
    rw [hM 206 (by omega)]
    exact h.bts
theorem K_back {n : Int32} (h : RelP C M) : Same C M (f_X11_back C n) (f_X12_back M n) := by
  unfold f_X11_back f_X12_back
  rw [h.wrk.e]
  by_cases c1 : b2i (0 ≤ n ∧ n ≤ M 200 37) = 0
  · rw [if_pos c1, if_pos c1]
    exact sm_v h
  rw [if_neg c1, if_neg c1]
  obtain ⟨m, h5, em⟩ := h.wrk.m5
  have h1 := b2i_n0.mp c1
  rw [em] at h1
  obtain ⟨j, hj, rfl⟩ := nI_of (Int32.not_lt.mpr h1.1)
  have hjm := (nI_leI hj (by omega)).mp h1.2
  show Same C M (M 200 37 - nI j, up2 C 0 16 (nI j)) (M 200 37 - nI j, up2 M 200 37 (nI j))
  refine sm_mk (Rel_wrk h (fun e h1 h2 => up2_off (by omega)) (fun e he => up2_off (by omega)) (fun j hj => by rw [up2_off (by decide)]) ?_ ?_) (fun e he => up2_off (by omega)) (fun e he => up2_off (by omega))
  · refine WrkR.mk ⟨j, by omega, u2_s⟩ (by rw [u2_s, u2_s]) (by rw [up2_off (by decide)]; exact h.wrk.wj) ?_
    rw [u2_s, nI_clamp hj, up2_off (show (222 : Nat) ≠ 200 by decide)]
    intro q hq
    rw [up2_off (show 147 + q ≠ 0 by omega)]
    exact h.wrk.wk q (by rw [em, nI_clamp (by omega)]; omega)
  · exact FndR_of h.fnd (u2_j (by decide)) (up2_off (by decide)) (u2_j (by decide)) (u2_j (by decide)) (up2_off (by decide)) (u2_j (by decide))
def wkC (C : Im) (m : Nat) (s k v c : Int32) : Im := up2 (woPlan C (147 + m) s k v c) 0 16 (nI (m + 1))
def wkE (M : Im) (m : Nat) (s k v c : Int32) : Im := up2 (up2 (up2 (up2 (up2 M 222 (4 * m) s) 222 (4 * m + 1) k) 222 (4 * m + 2) v) 222 (4 * m + 3) c) 200 37 (nI (m + 1))
theorem wp_o {a e : Nat} {s k v c : Int32} (h : e ≠ a) : woPlan C a s k v c e = C e := by
  unfold woPlan
  rw [up2_off h, up2_off h, up2_off h, up2_off h]
theorem wp_v {a : Nat} {s k v c : Int32} : woPlan C a s k v c a 0 = s ∧ woPlan C a s k v c a 1 = k ∧ woPlan C a s k v c a 2 = v ∧ woPlan C a s k v c a 3 = c := by
  unfold woPlan
  simp [u2_b]
theorem we_o {m e : Nat} {s k v c : Int32} (h : e ≠ 200) (h2 : e ≠ 222) : wkE M m s k v c e = M e := by
  unfold wkE
  rw [up2_off h, up2_off h2, up2_off h2, up2_off h2, up2_off h2]
theorem we_v {m : Nat} {s k v c : Int32} : wkE M m s k v c 222 (4 * m) = s ∧ wkE M m s k v c 222 (4 * m + 1) = k ∧ wkE M m s k v c 222 (4 * m + 2) = v ∧ wkE M m s k v c 222 (4 * m + 3) = c := by
  unfold wkE
  rw [up2_off (by decide)]
  simp [u2_b]
theorem we_j {m j : Nat} {s k v c : Int32} (h : j < 4 * m ∨ 4 * m + 3 < j) : wkE M m s k v c 222 j = M 222 j := by
  unfold wkE
  rw [up2_off (by decide), u2_j (by omega), u2_j (by omega), u2_j (by omega), u2_j (by omega)]
theorem K_work {s k v c : Int32} (h : RelP C M) : Same C M (f_X11_work C s k v c) (f_X12_work M s k v c) := by
  unfold f_X11_work f_X12_work
  by_cases c1 : b2i (0 ≤ s ∧ s ≤ 5) = 0
  · rw [if_pos c1, if_pos c1]
    exact sm_v h
  rw [if_neg c1, if_neg c1]
  by_cases c2 : b2i (0 ≤ k ∧ k ≤ 15) = 0
  · rw [if_pos c2, if_pos c2]
    exact sm_v h
  rw [if_neg c2, if_neg c2]
  by_cases c3 : b2i (0 ≤ v ∧ v ≤ 9) = 0
  · rw [if_pos c3, if_pos c3]
    exact sm_v h
  rw [if_neg c3, if_neg c3]
  by_cases c4 : b2i (0 ≤ c ∧ c ≤ 99) = 0
  · rw [if_pos c4, if_pos c4]
    exact sm_v h
  rw [if_neg c4, if_neg c4]
  obtain ⟨m, h5, em⟩ := h.wrk.m5
  have eC : C 0 16 = nI m := h.wrk.e.trans em
  rw [eC]
  by_cases c5 : m = 5
  · rw [if_neg (show ¬ nI m < 5 by rw [c5]; decide), if_pos (show M 200 37 = 5 by rw [em, c5]; rfl)]
    exact sm_v h
  rw [if_pos (show nI m < 5 from nI_lt (b := 5) (by omega) (by decide)), if_neg (show ¬ M 200 37 = 5 by rw [em]; exact fun z => c5 ((nI_eq (b := 5) (by omega) (by decide)).mp z))]
  obtain ⟨d1, -, b1, e1⟩ := rng_n (a := 0) (b := 5) rfl rfl (by decide) (by decide) c1
  obtain ⟨d3, -, b3, e3⟩ := rng_n (a := 0) (b := 9) rfl rfl (by decide) (by decide) c3
  obtain ⟨d4, -, b4, e4⟩ := rng_n (a := 0) (b := 99) rfl rfl (by decide) (by decide) c4
  have vk := (cl_lt (N := 16) (by decide) c2).2
  have x : ∀ j, j < 4 → (4 * nI m + nI j).toNatClampNeg = 4 * m + j := fun j hj => by
    rw [show (4 : Int32) * nI m = nI (4 * m) from pk_mul 4 m, nI_add, nI_clamp (by omega)]
  have x0 : (4 * nI m).toNatClampNeg = 4 * m := by
    rw [show (4 : Int32) * nI m = nI (4 * m) from pk_mul 4 m, nI_clamp (by omega)]
  have g1 : ∀ X : Im, ∀ j w, up2 X 222 j w 200 = X 200 := fun X j w => up2_off (by decide)
  simp only [g1, em, x0]
  rw [show (4 * nI m + 1).toNatClampNeg = 4 * m + 1 from x 1 (by decide), show (4 * nI m + 2).toNatClampNeg = 4 * m + 2 from x 2 (by decide), show (4 * nI m + 3).toNatClampNeg = 4 * m + 3 from x 3 (by decide), wp_o (show 0 ≠ 147 + (nI m).toNatClampNeg by omega), eC, u2_s, u2_s, nI_clamp (show m < 2 ^ 31 by omega), nI_1]
  show Same C M (nI (m + 1) - 1, wkC C m s k v c) (nI (m + 1) - 1, wkE M m s k v c)
  have f1 : ∀ e, e ≠ 0 → e ≠ 147 + m → wkC C m s k v c e = C e := fun e h1 h2 => by
    unfold wkC
    rw [up2_off h1, wp_o h2]
  refine sm_mk (Rel_wrk h (fun e h1 h2 => f1 e (by omega) (by omega)) (fun e he => we_o (by omega) (by omega)) (fun j hj => by rw [we_o (by decide) (by decide)]) ?_ ?_) (fun e he => f1 e (by omega) (by omega)) (fun e he => we_o (by omega) (by omega))
  · have z1 : wkE M m s k v c 200 37 = nI (m + 1) := u2_s
    obtain ⟨v0, v1, v2, v3⟩ := we_v (M := M) (m := m) (s := s) (k := k) (v := v) (c := c)
    refine WrkR.mk ⟨m + 1, by omega, z1⟩ (by rw [z1]; exact u2_s) ?_ ?_
    · intro q hq
      by_cases eq : q = m
      · subst eq
        rw [v1]
        exact vk
      · rw [we_j (by omega)]
        exact h.wrk.wj q hq
    · rw [z1, nI_clamp (by omega)]
      intro q hq
      by_cases eq : q = m
      · subst eq
        obtain ⟨w0, w1, w2, w3⟩ := wp_v (C := C) (a := 147 + q) (s := s) (k := k) (v := v) (c := c)
        have o : wkC C q s k v c (147 + q) = woPlan C (147 + q) s k v c (147 + q) := by
          unfold wkC
          exact up2_off (by omega)
        rw [o]
        refine ⟨fun j hj => ?_, ⟨d1, b1, by rw [v0]; exact e1⟩, ⟨d3, b3, by rw [v2]; exact e3⟩, ⟨d4, b4, by rw [v3]; exact e4⟩⟩
        rcases (by omega : j = 0 ∨ j = 1 ∨ j = 2 ∨ j = 3) with rfl | rfl | rfl | rfl
        · exact w0.trans v0.symm
        · exact w1.trans v1.symm
        · exact w2.trans v2.symm
        · exact w3.trans v3.symm
      · have old := h.wrk.wk q (by rw [em, nI_clamp (by omega)]; omega)
        rw [f1 (147 + q) (by omega) (by omega), we_j (j := 4 * q) (by omega), we_j (j := 4 * q + 2) (by omega), we_j (j := 4 * q + 3) (by omega)]
        exact ⟨fun j hj => by rw [we_j (by omega)]; exact old.1 j hj, old.2⟩
  · refine FndR_of h.fnd ?_ (f1 102 (by decide) (by omega)) ?_ ?_ (we_o (by decide) (by decide)) ?_
    · unfold wkC
      rw [u2_j (by decide), wp_o (by omega)]
    · unfold wkC
      rw [u2_j (by decide), wp_o (by omega)]
    · unfold wkE
      rw [u2_j (by decide), up2_off (by decide), up2_off (by decide), up2_off (by decide), up2_off (by decide)]
    · unfold wkE
      rw [u2_j (by decide), up2_off (by decide), up2_off (by decide), up2_off (by decide), up2_off (by decide)]
end
end R9
