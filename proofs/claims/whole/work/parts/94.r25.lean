section R25
variable {G : Gp} {I : Im} {L : Nat → Nat → Int64} {t : Nat}
section
variable {C M D E : Im} {L : Nat → Nat → Int64}
def setN (K : Im) (N : Nat → Int32) : Im := fun e j => if e = 217 then N j else K e j
theorem setN_7 {K : Im} {N : Nat → Int32} : setN K N 217 = N := by
  funext j
  exact if_pos rfl
theorem setN_o {K : Im} {N : Nat → Int32} {e : Nat} (h : e ≠ 217) : setN K N e = K e := by
  funext j
  exact if_neg h
theorem rd_set {K : Im} {N : Nat → Int32} : rdw (setN K N) 0 = N := by
  funext p
  unfold rdw
  rw [setN_7, Nat.zero_add]
theorem niP_1 {X : Im} {a n c m : Nat} : niPass X a n c m 1 = niStep X a n c m := rfl
theorem secI_1 {N : Nat → Int32} {n mo c k : Nat} : secI (secI N n mo c k) n mo c 1 = secI N n mo c (k + 1) := by
  rw [secI_s, secI_s, secI_0]
theorem ga_sim {J K : Im} {N : Nat → Int32} {n mo c q p : Nat} (hp : 103 < p) (h0 : NigR J (setN K N) 8 0 0) (hz : ¬ K 216 0 = 0) (hN : NR J 8 3 N n mo c) (hq : q < n) : ∀ k, NR (gaN J q p k) 8 3 (secI N n mo c k) n mo c ∧ NigR (gaN J q p k) (setN K (secI N n mo c k)) 8 0 0 ∧ (∀ e, (e < 9 ∨ 23 < e) → e ≠ p + 1 → gaN J q p k e = J e) ∧ ∀ i, gaN J q p k (p + 1) i = if i < k then secI N n mo c (i + 1) (31 + q) else J (p + 1) i := by
  have n16 := hN.2.1.1.2
  have c4 := hN.2.1.2.2.2.1.1
  intro k
  induction k with
  | zero =>
    rw [gaN_0, secI_0]
    exact ⟨hN, h0, fun _ _ _ => rfl, fun i => by rw [if_neg (Nat.not_lt_zero i)]⟩
  | succ k ih =>
    obtain ⟨i1, i2, i3, i4⟩ := ih
    have g1 : niGo (gaN J q p k) 8 (1 : Int32).toNatClampNeg = niStep (gaN J q p k) 8 n c 3 := by
      unfold niGo
      rw [i1.2.2.1, i1.2.2.2.1, i1.2.2.2.2, nI_clamp (by omega), nI_clamp (by omega), nI_clamp (by omega), show (1 : Int32).toNatClampNeg = 1 from rfl, niP_1]
    have s1 := NR_s i1
    have s2 : NigR (niPass (gaN J q p k) 8 n c 3 1) (setN K (secI N n mo c (k + 1))) 8 0 0 := NigR_go i2 (by rw [setN_o (by decide)]; exact hz) (by rw [rd_set]; exact i1) (by rw [setN_o (by decide), setN_o (by decide)]) (fun j hj => by rw [setN_7, rd_set, secI_1, Nat.zero_add])
    rw [niP_1] at s2
    have fo : ∀ e, e < 9 ∨ 23 < e → niStep (gaN J q p k) 8 n c 3 e = gaN J q p k e := fun e he => niStep_off (by omega) (by omega) (by omega) (by omega) (by omega) (fun i hi => by omega)
    have hh : niStep (gaN J q p k) 8 n c 3 15 q = secI N n mo c (k + 1) (31 + q) := by
      rw [secI_s]
      exact s1.1.he q hq
    rw [gaN_s, g1]
    refine ⟨?_, ?_, ?_, ?_⟩
    · rw [secI_s]
      exact NR_of s1 (fun e h1 h2 => up2_off (by omega)) (fun _ _ => rfl)
    · exact NigR_of s2 (fun e h1 h2 => up2_off (by omega)) rfl (fun _ _ => rfl)
    · intro e h1 h2
      rw [up2_off h2, fo e h1]
      exact i3 e h1 h2
    · intro i
      by_cases e : i = k
      · subst e
        rw [u2_s, if_pos (by omega)]
        exact hh
      · rw [u2_j e, fo _ (by omega), i4 i]
        by_cases d : i < k
        · rw [if_pos d, if_pos (by omega)]
        · rw [if_neg d, if_neg (by omega)]
theorem K_gauge {k n r : Int32} (h : RelP C M) : Same C M (f_X11_gauge C k n r) (f_X12_gauge M k n r) := by
  unfold f_X11_gauge f_X12_gauge
  by_cases c1 : b2i (0 ≤ k ∧ k ≤ 15) = 0
  · simp only [if_pos c1]
    exact sm_v h
  by_cases c2 : b2i (0 ≤ n ∧ n ≤ 60) = 0
  · simp only [if_neg c1, if_pos c2]
    exact sm_v h
  by_cases c3 : b2i (0 ≤ r ∧ r ≤ 5) = 0
  · simp only [if_neg c1, if_neg c2, if_pos c3]
    exact sm_v h
  simp only [if_neg c1, if_neg c2, if_neg c3]
  obtain ⟨qk, vk⟩ := cl_lt (N := 16) (by decide) c1
  obtain ⟨qr, vr⟩ := cl_lt (N := 6) (by decide) c3
  rw [h.nig.e, show (0 : Int32).toNatClampNeg = 0 from rfl]
  by_cases c4 : M 216 0 = 0
  · simp only [if_pos c4]
    exact sm_v h
  simp only [if_neg c4]
  obtain ⟨⟨nn, mo, c, hN⟩, -⟩ := h.nig.th c4
  obtain ⟨q0, q2, n16, n3⟩ := nig_n hN
  have hw := hN.2.1
  have mn := hw.2.2.1.1
  have c44 := hw.2.2.2.1.1
  have e00 : lkI M 0 217 (0 + 0) = nI nn := by rw [lk_off (by decide)]; exact q0
  have e30 : lkI M 0 217 (0 + (30 : Int32).toNatClampNeg) = M 217 30 := by rw [lk_off (by decide)]; rfl
  have es : C 9 7 = M 217 30 := by
    have := hN.1.sec
    rw [show (rdw M 0) 30 = M 217 30 by unfold rdw; rw [Nat.zero_add]] at this
    exact this
  have ek := (vpn vk).2
  simp only [q2, e00, e30, es]
  by_cases c5 : k < nI nn
  · have hin : ¬ b2i (0 ≤ k ∧ k < nI nn ∧ k < 16) = 0 := b2i_n0.mpr ⟨(b2i_n0.mp c1).1, c5, by rw [ek]; exact nI_lt (b := 16) qk (by decide)⟩
    simp only [if_neg hin, if_pos c5]
    by_cases c6 : M 217 30 + n ≤ 10000
    · simp only [if_pos c6]
      obtain ⟨b1, b2⟩ := b2i_n0.mp c2
      obtain ⟨m, hm, rfl⟩ := nI_of2 (M := 60) (n := 60) (by decide) (Int32.not_lt.mpr b1) b2
      have qn : k.toNatClampNeg < nn := by
        rw [ek] at c5
        exact (nI_ltI (by omega) (by omega)).mp c5
      have eW : gauW (up2 (lkI M 0) 202 r.toNatClampNeg (nI m)) k (nI m) r = nw (flw (up2 (lkI M 0) 202 r.toNatClampNeg (nI m)) 203 (60 * r.toNatClampNeg) 60 (gaG (rdw M 0) nn mo c m k.toNatClampNeg)) 0 (secI (rdw M 0) nn mo c m) := by
        have er : rdw (up2 (lkI M 0) 202 r.toNatClampNeg (nI m)) 0 = rdw M 0 := by
          unfold rdw
          rw [up2_off (by decide), lk_off (by decide)]
        have x1 : M 217 (0 + 1) = nI mo := hw.2.2.1.2
        have x2 : M 217 (0 + 21) = nI c := hw.2.2.2.1.2.1
        unfold gauW gaM
        rw [er, up2_off (by decide), lk_off (by decide), q0, x1, x2, nI_clamp (show nn < 2 ^ 31 by omega), nI_clamp (show mo < 2 ^ 31 by omega), nI_clamp (show c < 2 ^ 31 by omega), nI_clamp (show m < 2 ^ 31 by omega), show min 60 m = m by omega]
      rw [eW, nI_clamp (show m < 2 ^ 31 by omega)]
      generalize k.toNatClampNeg = q at qk qn
      generalize r.toNatClampNeg = s at qr
      have jo : ∀ e, e ≠ 104 + 2 * s → e ≠ 104 + 2 * s + 1 → nuNew C (104 + 2 * s) m e = C e := fun e h1 h2 => nuN_off h1 h2
      have hJ : NigR (nuNew C (104 + 2 * s) m) (setN M (rdw M 0)) 8 0 0 := NigR_of h.nig (fun e h1 h2 => jo e (by omega) (by omega)) (by rw [setN_o (by decide)]) (fun p hp => by rw [setN_7]; unfold rdw; rw [Nat.zero_add])
      have hNJ : NR (nuNew C (104 + 2 * s) m) 8 3 (rdw M 0) nn mo c := NR_of hN (fun e h1 h2 => jo e (by omega) (by omega)) (fun _ _ => rfl)
      obtain ⟨s1, s2, s3, s4⟩ := ga_sim (p := 104 + 2 * s) (by omega) hJ c4 hNJ qn m
      generalize hD : gaN (nuNew C (104 + 2 * s) m) q (104 + 2 * s) m = D at s1 s2 s3 s4
      generalize hE : nw (flw (up2 (lkI M 0) 202 s (nI m)) 203 (60 * s) 60 (gaG (rdw M 0) nn mo c m q)) 0 (secI (rdw M 0) nn mo c m) = E
      have Eo : ∀ e, e ≠ 217 → e ≠ 203 → e ≠ 202 → e ≠ 200 → E e = M e := fun e h1 h2 h3 h4 => by rw [← hE, nw_off h1, flw_off h2, up2_off h3, lk_off h4]
      have E200 : ∀ j, j ≠ 24 → E 200 j = M 200 j := fun j hj => by
        rw [← hE, nw_off (by decide), flw_off (by decide), up2_off (by decide)]
        exact u2_j hj
      have E202 : ∀ j, E 202 j = if j = s then nI m else M 202 j := fun j => by
        rw [← hE, nw_off (by decide), flw_off (by decide)]
        by_cases e : j = s
        · subst e
          rw [u2_s, if_pos rfl]
        · rw [u2_j e, lk_off (by decide), if_neg e]
      have E203 : ∀ j, j < 60 * s ∨ 60 * s + 60 ≤ j → E 203 j = M 203 j := fun j hj => by
        rw [← hE, nw_off (by decide), flw_out hj, up2_off (by decide), lk_off (by decide)]
      have E203' : ∀ i, i < m → E 203 (60 * s + i) = secI (rdw M 0) nn mo c (i + 1) (31 + q) := fun i hi => by
        rw [← hE, nw_off (by decide), flw_in (by omega)]
        exact if_pos hi
      have E217 : ∀ p, p < 125 → E 217 (0 + p) = secI (rdw M 0) nn mo c m p := fun p hp => by
        rw [← hE]
        unfold nw
        exact flw_in hp
      have E217' : ∀ p, 125 ≤ p → E 217 p = M 217 p := fun p hp => by
        rw [← hE]
        unfold nw
        rw [flw_out (by omega), flw_off (by decide), up2_off (by decide), lk_off (by decide)]
      have Do : ∀ e, e < 9 ∨ 23 < e → e ≠ 104 + 2 * s → e ≠ 104 + 2 * s + 1 → D e = C e := fun e h1 h2 h3 => by rw [s3 e h1 h3, jo e h2 h3]
      have Dr : D (104 + 2 * s) = nuNew C (104 + 2 * s) m (104 + 2 * s) := s3 _ (by omega) (by omega)
      have hX : NigR D E 8 0 0 := NigR_of s2 (fun _ _ _ => rfl) (by rw [setN_o (by decide), Eo 216 (by decide) (by decide) (by decide) (by decide)]) (fun p hp => by rw [setN_7, E217 p hp, Nat.zero_add])
      have hF : FndR D E := FndR_of h.fnd (by rw [Do 0 (by omega) (by omega) (by omega)]) (Do 102 (by omega) (by omega) (by omega)) (by rw [Do 0 (by omega) (by omega) (by omega)]) (E200 0 (by decide)) (Eo 201 (by decide) (by decide) (by decide) (by decide)) (E200 2 (by decide))
      have hR1 : RelP (fun e => if 23 < e then D e else C e) (fun e => if e = 217 then M e else E e) := by
        refine Rel_row (q := s) qr h ?_ ?_ ?_ ?_ ?_ ?_ ?_ ?_ ?_
        · intro e h1 h2
          skip
          by_cases d : 23 < e
          · rw [if_pos d]
            exact Do e (by omega) (by omega) (by omega)
          · rw [if_neg d]
        · skip
          rw [if_neg (by decide)]
        · intro e he
          skip
          rw [if_neg (by omega)]
          exact Eo e (by omega) (by omega) (by omega) (by omega)
        · intro j hj
          skip
          rw [if_pos rfl]
        · skip
          rw [if_neg (by decide)]
          exact E200 37 (by decide)
        · intro j hj ej
          skip
          rw [if_neg (by decide), E202, if_neg ej]
        · intro j i hj ej hi
          skip
          rw [if_neg (by decide)]
          exact E203 _ (by omega)
        · refine RowR.mk ?_ (Or.inr ⟨?_, ?_, ?_⟩)
          · skip
            rw [if_pos (by omega), Dr]
            exact ⟨m, hm, nu_s.1⟩
          · skip
            rw [if_pos (by omega), Dr]
            exact nu_s.2
          · skip
            rw [if_neg (show ¬ 202 = 217 by decide), if_pos (show 23 < 104 + 2 * s by omega), Dr, E202, if_pos rfl]
            exact nu_s.1.symm
          · skip
            rw [if_pos (by omega), if_pos (by omega), if_neg (by decide), Dr, nu_s.1, nI_clamp (by omega)]
            intro i hi
            rw [s4 i, if_pos hi, E203' i hi]
        · refine FndR_of hF ?_ ?_ ?_ ?_ ?_ ?_
          · skip
            rw [if_neg (by decide), Do 0 (by omega) (by omega) (by omega)]
          · skip
            rw [if_pos (by decide)]
          · skip
            rw [if_neg (by decide), Do 0 (by omega) (by omega) (by omega)]
          · skip
            rw [if_neg (by decide)]
          · skip
            rw [if_neg (by decide)]
          · skip
            rw [if_neg (by decide)]
      refine sm_mk2 ?_ (Rel_nig hR1 ?_ ?_ ?_ ?_ ?_ ?_ hX hF) (fun e he => Do e (by omega) (by omega) (by omega)) (fun e he => Eo e (by omega) (by omega) (by omega) (by omega))
      · rw [show (0 + (30 : Int32).toNatClampNeg) = 0 + 30 from rfl, E217 30 (by decide)]
        exact s1.1.sec
      · intro e he
        skip
        rw [if_pos (by omega)]
      · skip
        rw [if_neg (by decide), Do 0 (by omega) (by omega) (by omega)]
      · intro e he
        skip
        rw [if_neg (by omega)]
      · intro q hq
        skip
        rw [if_neg (by decide)]
      · intro j h1 h2
        skip
        rw [if_pos rfl]
        exact E217' j h1
      · skip
        rw [if_neg (by decide)]
    · simp only [if_neg c6]
      exact sm_mk (rel_lk h) (fun _ _ => rfl) FrM.lk.lo
  · have hin : b2i (0 ≤ k ∧ k < nI nn ∧ k < 16) = 0 := b2i_0.mpr (fun z => c5 z.2.1)
    simp only [if_pos hin, if_neg c5]
    exact sm_mlk (k := 2) h (by decide) (by decide)
end
end R25
