section R10
variable {G : Gp} {I : Im} {L : Nat → Nat → Int64} {t : Nat}
section
variable {C M D E : Im}
theorem cntN_z {f g : Nat → Int32} : ∀ k, (∀ i, i < k → (f i = 0 ↔ g i = 0)) → cntN f k = cntN g k := by
  intro k
  induction k with
  | zero => intro _; rw [cntN_0, cntN_0]
  | succ k ih =>
    intro h
    rw [cntN_s, cntN_s, ih (fun i hi => h i (by omega))]
    by_cases c : f k = 0
    · rw [if_pos c, if_pos ((h k (by omega)).mp c)]
    · rw [if_neg c, if_neg (fun z => c ((h k (by omega)).mpr z))]
theorem cntN_sh {g : Nat → Int32} (h : g 0 = 0) : ∀ k, cntN g (k + 1) = cntN (fun q => g (q + 1)) k := by
  intro k
  induction k with
  | zero => rw [cntN_s, cntN_0, cntN_0, if_pos h]
  | succ k ih => rw [cntN_s, ih, cntN_s]
theorem cnt_eq {w : Int32} (h : RelP C M) (vw : vp_in w 8) : f_X11_count C w = f_counted M w := by
  obtain ⟨h1, h2⟩ := vpn vw
  generalize w.toNatClampNeg = j at h1 h2
  subst h2
  unfold f_X11_count f_counted
  have n : ∀ a b : Nat, a ≠ b → a < 8 → b < 8 → ¬ nI a = nI b := fun a b e ha hb z => e ((nI_eq (by omega) (by omega)).mp z)
  rcases (by omega : j = 0 ∨ j = 1 ∨ j = 2 ∨ j = 3 ∨ j = 4 ∨ j = 5 ∨ j = 6 ∨ j = 7) with rfl | rfl | rfl | rfl | rfl | rfl | rfl | rfl
  · rw [if_pos (by decide), if_pos (by decide), cntN_congr 4 (fun q hq => (h.har q hq).e)]
  · rw [if_neg (by decide), if_pos (by decide), if_neg (by decide), if_pos (by decide), cntN_congr 4 (fun q hq => (h.sea q hq).e)]
  · rw [if_neg (by decide), if_neg (by decide), if_pos (by decide), if_neg (by decide), if_neg (by decide), if_pos (by decide), cntN_congr 3 (fun q hq => (h.shp q hq).e)]
  · rw [if_neg (by decide), if_neg (by decide), if_neg (by decide), if_pos (by decide), if_neg (by decide), if_neg (by decide), if_neg (by decide), if_pos (by decide)]
    exact h.wrk.e
  · conv =>
      rhs
      rw [if_neg (by decide), if_neg (by decide), if_neg (by decide), if_neg (by decide), if_pos (by decide)]
    rw [if_neg (by decide), if_neg (by decide), if_neg (by decide), if_neg (by decide), if_pos (by decide), h.nig.e]
    by_cases c : M 216 0 = 0
    · rw [if_pos c, if_pos c]
    · rw [if_neg c, if_neg c]
      obtain ⟨⟨n, mo, c, hN⟩, -⟩ := h.nig.th c
      have e : C (8 + 1) 7 = M 217 (0 + 30) := hN.1.sec
      rw [Nat.zero_add] at e
      exact e
  · rw [if_neg (by decide), if_neg (by decide), if_neg (by decide), if_neg (by decide), if_neg (by decide), if_pos (by decide), if_neg (by decide), if_neg (by decide), if_neg (by decide), if_neg (by decide), if_neg (by decide), if_pos (by decide), cntN_sh (g := fun e => if e = 0 then 0 else M 216 e) (if_pos rfl) 3]
    rw [cntN_congr (f := fun q => C (152 + 16 * q) 3) (g := fun q => if q + 1 = 0 then 0 else M 216 (q + 1)) 3 (fun q hq => by rw [if_neg (by omega), Nat.add_comm q 1]; exact (h.kep q hq).e)]
  · rw [if_neg (by decide), if_neg (by decide), if_neg (by decide), if_neg (by decide), if_neg (by decide), if_neg (by decide), if_pos (by decide), if_neg (by decide), if_neg (by decide), if_neg (by decide), if_neg (by decide), if_neg (by decide), if_neg (by decide), if_pos (by decide)]
    rw [cntN_z (f := fun q => C (104 + 2 * q) 2) (g := fun e => if M 202 e < 0 then 0 else 1) 6 (fun q hq => ?_)]
    by_cases c : C (104 + 2 * q) 2 = 0
    · rw [if_pos (row_0 (h.row q hq) c).2]
      exact ⟨fun _ => rfl, fun _ => c⟩
    · rw [if_neg (row_1 (h.row q hq) c).2.2.2.2.1]
      exact ⟨fun z => absurd z c, fun z => absurd z (by decide)⟩
  · rw [if_neg (by decide), if_neg (by decide), if_neg (by decide), if_neg (by decide), if_neg (by decide), if_neg (by decide), if_neg (by decide), if_pos (by decide), if_neg (by decide), if_neg (by decide), if_neg (by decide), if_neg (by decide), if_neg (by decide), if_neg (by decide), if_neg (by decide)]
    rw [cntN_z (f := fun q => C (116 + 2 * q) 2) (g := fun e => if M 205 e < 0 then 0 else 1) 4 (fun q hq => ?_)]
    by_cases c : C (116 + 2 * q) 2 = 0
    · rw [if_pos (txt_0 (h.txt q hq) c).2]
      exact ⟨fun _ => rfl, fun _ => c⟩
    · rw [if_neg (txt_1 (h.txt q hq) c).2.2.2.2.1]
      exact ⟨fun z => absurd z c, fun z => absurd z (by decide)⟩
theorem cnt_bad {w : Int32} (h : b2i (0 ≤ w ∧ w ≤ 7) = 0) : f_X11_count C w = -1 := by
  have hn := b2i_0.mp h
  unfold f_X11_count
  rw [if_neg (fun z => hn (by rw [z]; decide)), if_neg (fun z => hn (by rw [z]; decide)), if_neg (fun z => hn (by rw [z]; decide)), if_neg (fun z => hn (by rw [z]; decide)), if_neg (fun z => hn (by rw [z]; decide)), if_neg (fun z => hn (by rw [z]; decide)), if_neg (fun z => hn (by rw [z]; decide)), if_neg (fun z => hn (by rw [z]; decide))]
theorem rel_fr (h : RelP C M) (hC : FrC D C) (hM : FrM E M) (e0 : D 0 = C 0) (e1 : D 102 = C 102) (e3 : E 200 0 = M 200 0) (e4 : E 201 = M 201) (e5 : E 200 2 = M 200 2) : RelP D E := Rel_of h hC.ke hM.ke (FndR_of h.fnd (by rw [e0]) e1 (by rw [e0]) e3 e4 e5)
theorem rel_lk {x : Int32} (h : RelP C M) : RelP C (lkI M x) := rel_fr h FrC.refl FrM.lk rfl rfl (u2_j (by decide)) (lk_off (by decide)) (u2_j (by decide))
theorem K_count {w : Int32} (h : RelP C M) : Same C M (f_X11_count C w, C) (f_X12_count M w) := by
  unfold f_X12_count
  by_cases c1 : b2i (0 ≤ w ∧ w ≤ 7) = 0
  · rw [if_pos c1, cnt_bad c1]
    exact sm_v h
  rw [if_neg c1, cnt_eq h (cl_lt (N := 8) (by decide) c1).2]
  show Same C M (f_counted M w, C) (f_counted M w, lkI M 0)
  exact sm_mk (rel_lk h) (fun _ _ => rfl) FrM.lk.lo
theorem K_findings {f : Int32} (h : RelP C M) : Same C M (f_X11_findings C f, C) (f_X12_findings M f, M) := by
  have e : f_X11_findings C f = f_X12_findings M f := by
    unfold f_X11_findings f_X12_findings
    by_cases c1 : b2i (1 ≤ f ∧ f ≤ 5) = 0
    · rw [if_pos c1, if_pos c1]
    rw [if_neg c1, if_neg c1]
    exact h.fnd.co _ (vpn (f16 c1)).1
  rw [e]
  exact sm_v h
theorem K_finding (h : RelP C M) : Same C M (f_X11_finding C, C) (f_X12_finding M, M) := by
  rw [show f_X11_finding C = f_X12_finding M from h.fnd.la]
  exact sm_v h
theorem K_asked (h : RelP C M) : Same C M (f_X11_asked C, C) (f_X12_asked M, M) := by
  rw [show f_X11_asked C = f_X12_asked M from h.fnd.to]
  exact sm_v h
theorem K_about {k w : Int32} (h : RelP C M) : Same C M (f_X11_about C k w) (f_X12_about M k w) := by
  unfold f_X11_about f_X12_about
  by_cases c1 : b2i (0 ≤ k ∧ k ≤ 3) = 0
  · rw [if_pos c1, if_pos c1]
    exact sm_v h
  rw [if_neg c1, if_neg c1]
  by_cases c2 : b2i (0 ≤ w ∧ w ≤ 20) = 0
  · rw [if_pos c2, if_pos c2]
    exact sm_v h
  rw [if_neg c2, if_neg c2]
  obtain ⟨qk, vk⟩ := cl_lt (N := 4) (by decide) c1
  obtain ⟨qw, vw⟩ := cl_lt (N := 21) (by decide) c2
  have rr := h.har _ qk
  rw [rr.e]
  by_cases c3 : M 207 k.toNatClampNeg = 0
  · rw [if_pos c3, if_pos c3]
    exact sm_1 h
  rw [if_neg c3, if_neg c3]
  obtain ⟨⟨n, mo, hb⟩, -⟩ := rr.th c3
  have h0 : M 208 (21 * k.toNatClampNeg) = nI n := hb.h0
  rw [(ixz (c := 21) (C := 21) (R := 4) rfl (by decide) vk (by decide)).2, (ixm (c := 21) (C := 21) (R := 4) rfl vk vw (by decide)).2, h0]
  have n16 := hb.n16
  have n3 := hb.n3
  have ew := (vpn vw).2
  have hce := hb.ce
  have hH : ∀ p, (fun p => M 208 (21 * k.toNatClampNeg + p)) p = M 208 (21 * k.toNatClampNeg + p) := fun _ => rfl
  by_cases c4 : w < 5
  · have w5 : w.toNatClampNeg < 5 := by
      rw [ew] at c4
      exact (nI_ltI (b := 5) (by omega) (by decide)).mp c4
    have c5 : ¬ nI n ≤ w - 5 := by
      rw [Int32.le_iff_toInt_le, Int32.toInt_sub, nI_toInt (by omega), (by decide : (5 : Int32).toInt = 5), ew, nI_toInt (by omega), Int.bmod_eq_of_le (by omega) (by omega)]
      omega
    rw [if_pos c4, if_neg c5]
    refine sm_t0 h ?_
    generalize w.toNatClampNeg = j at w5
    unfold facF
    rcases (by omega : j = 0 ∨ j = 1 ∨ j = 2 ∨ j = 3 ∨ j = 4) with rfl | rfl | rfl | rfl | rfl
    · rw [if_pos rfl]
      exact hce.trans h0.symm
    · rw [if_neg (by decide), if_pos rfl]
      exact hb.mu.trans hb.h1.symm
    · rw [if_neg (by decide), if_neg (by decide), if_pos rfl]
      exact hb.wi
    · rw [if_neg (by decide), if_neg (by decide), if_neg (by decide), if_pos rfl]
      exact hb.ru
    · rw [if_neg (by decide), if_neg (by decide), if_neg (by decide), if_neg (by decide), if_pos rfl]
      exact hb.wa
  rw [if_neg c4]
  have w5 : 5 ≤ w.toNatClampNeg := by
    rw [ew] at c4
    exact Nat.not_lt.mp (fun z => c4 (nI_lt (b := 5) z (by decide)))
  have e5 : w - 5 = nI (w.toNatClampNeg - 5) := by
    have := nI_sub (a := 5) (b := w.toNatClampNeg) w5 (by omega)
    rw [this, ← ew]
    rfl
  rw [e5, hce]
  by_cases c5 : w.toNatClampNeg - 5 < n
  · have d : 0 ≤ nI (w.toNatClampNeg - 5) ∧ nI (w.toNatClampNeg - 5) < nI n ∧ nI (w.toNatClampNeg - 5) < 16 := ⟨nI_pos' (by omega), nI_lt c5 (by omega), nI_lt (b := 16) (by omega) (by decide)⟩
    rw [if_neg (b2i_n0.mpr d), if_neg (nI_ge c5 (by omega))]
    refine sm_t0 h ?_
    unfold facF
    rw [if_neg (by omega), if_neg (by omega), if_neg (by omega), if_neg (by omega), if_neg (by omega), if_pos (show hasC C (124 + 2 * k.toNatClampNeg) (nI (w.toNatClampNeg - 5)) from ⟨d.1, by rw [hce]; exact d.2.1, d.2.2⟩), hb.de _ c5, show 5 + (w.toNatClampNeg - 5) = w.toNatClampNeg by omega]
  · rw [if_pos (b2i_0.mpr (fun z => c5 ((nI_ltI (by omega) (by omega)).mp z.2.1))), if_pos (nI_le (by omega) (by omega))]
    exact sm_2 h
theorem K_set {k i : Int32} (h : RelP C M) : Same C M (f_X11_set C k i) (f_X12_set M k i) := by
  unfold f_X11_set f_X12_set
  by_cases c1 : b2i (0 ≤ k ∧ k ≤ 3) = 0
  · rw [if_pos c1, if_pos c1]
    exact sm_v h
  rw [if_neg c1, if_neg c1]
  obtain ⟨qk, vk⟩ := cl_lt (N := 4) (by decide) c1
  have rr := h.sea _ qk
  rw [rr.e]
  by_cases c3 : M 209 k.toNatClampNeg = 0
  · rw [if_pos c3, if_pos c3]
    exact sm_1 h
  rw [if_neg c3, if_neg c3]
  obtain ⟨c, hs, em, -⟩ := rr.th c3
  have c4 := hs.c4
  rw [hs.ct, em]
  by_cases c5 : 0 ≤ i ∧ i < nI c
  · obtain ⟨j, hj, rfl⟩ := nI_of (Int32.not_lt.mpr c5.1)
    have hjc := (nI_ltI hj (by omega)).mp c5.2
    rw [if_neg (b2i_n0.mpr ⟨c5.1, c5.2, nI_lt (b := 4) (by omega) (by decide)⟩), if_neg (b2i_n0.mpr ⟨c5.1, (lt_le (by omega)).mp c5.2⟩)]
    obtain ⟨-, -, x1, x2⟩ := ix8 vk (vp_in_nI (show j < 4 by omega) (by decide))
    obtain ⟨b1, b2, -⟩ := hs.be j hjc
    rw [x1, x2, nI_clamp hj]
    refine sm_t h FrC.refl FrM.refl rfl rfl rfl rfl ?_ ?_
    · rw [b2, show 8 * k.toNatClampNeg + 2 * j + 1 = 8 * k.toNatClampNeg + (2 * j + 1) by omega]
    · exact b1
  · rw [if_pos (b2i_0.mpr (fun z => c5 ⟨z.1, z.2.1⟩)), if_pos (b2i_0.mpr (fun z => c5 ⟨z.1, (lt_le (by omega)).mpr z.2⟩))]
    exact sm_2 h
end
end R10
