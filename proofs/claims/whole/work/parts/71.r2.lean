section R2
variable {G : Gp} {I : Im} {L : Nat → Nat → Int64} {t : Nat}
theorem st_eq {p g s : Int32} : stra p g s = f_X12_strainOf p g s := by
  unfold stra f_X12_strainOf
  by_cases h : p < 0
  · rw [if_neg (Int32.not_le.mpr h)]
    simp only [if_pos h]
    by_cases c : 0 < -p - s
    · rw [if_pos c, if_neg (Int32.not_le.mpr c)]
    · rw [if_neg c, if_pos (Int32.not_lt.mp c)]
  · rw [if_pos (Int32.not_lt.mp h)]
    simp only [if_neg h]
    by_cases c : 0 < p - s
    · rw [if_pos c, if_neg (Int32.not_le.mpr c)]
    · rw [if_neg c, if_pos (Int32.not_lt.mp c)]
def BoR (C : Im) (b : Nat) (N : Nat → Int32) (a : Nat) : Prop := ∀ j, 1 ≤ j → j ≤ 9 → C b j = N (a + j)
theorem m4 {x : Int32} (h : ∃ w, 1 ≤ w ∧ w ≤ 9 ∧ x = nI w) : mx 1 (4 * x) = 4 * x := by
  obtain ⟨w, h1, h9, rfl⟩ := h
  unfold mx
  rw [show (4 : Int32) * nI w = nI (4 * w) from pk_mul 4 w, if_pos (show (1 : Int32) < nI (4 * w) from nI_lt (a := 1) (by omega) (by omega))]
section
variable {C : Im} {b : Nat} {N : Nat → Int32} {a : Nat} {x : Int32}
theorem bo_sp (h : BoR C b N a) (hw : ∃ w, 1 ≤ w ∧ w ≤ 9 ∧ N (a + 2) = nI w) : C b 7 + (if 0 < C b 6 then x - stra (C b 6) (C b 3) (C b 4) else x + stra (C b 6) (C b 3) (C b 4)) / mx 1 (4 * C b 2) - (C b 7 + (if 0 < C b 6 then x - stra (C b 6) (C b 3) (C b 4) else x + stra (C b 6) (C b 3) (C b 4)) / mx 1 (4 * C b 2)) / 16 = mvV N a x := by
  have ef : (if 0 < C b 6 then x - stra (C b 6) (C b 3) (C b 4) else x + stra (C b 6) (C b 3) (C b 4)) = mvF N a x := by
    unfold mvF mvS
    rw [st_eq, h 6 (by decide) (by decide), h 3 (by decide) (by decide), h 4 (by decide) (by decide)]
    by_cases c : 0 < N (a + 6)
    · rw [if_pos c, if_neg (Int32.not_le.mpr c)]
    · rw [if_neg c, if_pos (Int32.not_lt.mp c), Int32.sub_eq_add_neg, Int32.neg_neg]
  rw [ef, h 7 (by decide) (by decide), h 2 (by decide) (by decide), m4 hw]
  rfl
theorem mv_6 : mvN N a x (a + 6) = N (a + 6) + mvV N a x := by
  unfold mvN
  rw [upn_n (by omega), upn_s]
theorem mv_7 : mvN N a x (a + 7) = mvV N a x := upn_s
theorem mv_S : mvS (mvN N a x) a = f_X12_strainOf (N (a + 6) + mvV N a x) (N (a + 3)) (N (a + 4)) := by
  unfold mvS
  rw [mv_6, mvN_off (by omega) (by omega), mvN_off (by omega) (by omega)]
theorem wt_9 : wtN (mvN N a x) a (a + 9) = if N (a + 9) = -9 ∧ N (a + 5) < mvS (mvN N a x) a then mvN N a x 30 else N (a + 9) := by
  unfold wtN
  rw [mvN_off (p := a + 9) (by omega) (by omega), mvN_off (p := a + 5) (by omega) (by omega)]
  by_cases c : N (a + 9) = -9 ∧ N (a + 5) < mvS (mvN N a x) a
  · rw [if_pos c, if_pos c, upn_s]
  · rw [if_neg c, if_neg c]
    unfold wt1
    rw [upn_n (by omega), mvN_off (by omega) (by omega)]
theorem wt_8 : wtN (mvN N a x) a (a + 8) = if mvS (mvN N a x) a < N (a + 8) then N (a + 8) else mvS (mvN N a x) a := by
  unfold wtN wt1
  rw [mvN_off (p := a + 8) (by omega) (by omega)]
  split
  · rw [upn_n (by omega), upn_s]
  · rw [upn_s]
theorem mx_c {u v : Int32} : mx u v = if v < u then u else v := by
  unfold mx
  by_cases h : u < v
  · rw [if_pos h, if_neg (Int32.not_lt.mpr (Int32.le_of_lt h))]
  · rw [if_neg h]
    by_cases h2 : v < u
    · rw [if_pos h2]
    · rw [if_neg h2]
      exact Int32.le_antisymm (Int32.not_lt.mp h2) (Int32.not_lt.mp h)
theorem u2_ite {p : Prop} [Decidable p] {X : Im} {e j : Nat} {v : Int32} {e' j' : Nat} : (if p then up2 X e j v else X) e' j' = if e' = e ∧ j' = j then (if p then v else X e' j') else X e' j' := by
  by_cases h : p
  · rw [if_pos h, if_pos h]
    rfl
  · rw [if_neg h, if_neg h]
    split
    · rfl
    · rfl
theorem BoR_s {sec : Int32} (h : BoR C b N a) (hw : ∃ w, 1 ≤ w ∧ w ≤ 9 ∧ N (a + 2) = nI w) (hs : sec = N 30) (ha : 30 < a) : BoR (boRide C b x sec) b (wtN (mvN N a x) a) a := by
  have e7 := bo_sp (x := x) h hw
  intro j h1 h9
  unfold boRide
  rw [e7, st_eq, h 6 (by decide) (by decide), h 3 (by decide) (by decide), h 4 (by decide) (by decide), h 5 (by decide) (by decide), h 8 (by decide) (by decide), h 9 (by decide) (by decide), ← mv_S, u2_ite]
  by_cases c9 : j = 9
  · subst c9
    rw [if_pos ⟨rfl, rfl⟩, wt_9, mvN_off (by omega) (by omega), hs, u2_j (by decide), u2_j (by decide), u2_j (by decide), u2_j (by decide), h 9 (by decide) (by decide)]
  rw [if_neg (fun z => c9 z.2)]
  by_cases c8 : j = 8
  · subst c8
    rw [u2_s, wt_8, mx_c]
  rw [u2_j c8, wtN_off (by omega) (by omega)]
  by_cases c6 : j = 6
  · subst c6
    rw [u2_s, mv_6]
  rw [u2_j c6]
  by_cases c7 : j = 7
  · subst c7
    rw [u2_s, mv_7]
  rw [u2_j c7, u2_j c7, mvN_off (by omega) (by omega)]
  exact h j h1 h9
end
theorem u2_b {X : Im} {b i j : Nat} {v : Int32} : up2 X b i v b j = if j = i then v else X b j := by
  by_cases h : j = i
  · rw [if_pos h, h, u2_s]
  · rw [if_neg h, u2_j h]
theorem boRide_c {I J : Im} {b : Nat} {f s : Int32} (h : I b = J b) : boRide I b f s b = boRide J b f s b := by
  funext j
  unfold boRide
  simp only [u2_ite, u2_b, h]
theorem flAt_c {I J : Im} {w : Nat} {k : Int32} (h1 : I (w + 1) = J (w + 1)) (h7 : I (w + 7) = J (w + 7)) : flAt I w k = flAt J w k := by
  have e : hasC I (w + 1) k ↔ hasC J (w + 1) k := by
    show (0 ≤ k ∧ k < I (w + 1) 2 ∧ k < 16) ↔ (0 ≤ k ∧ k < J (w + 1) 2 ∧ k < 16)
    rw [h1]
  unfold flAt
  rw [h7]
  by_cases c : hasC I (w + 1) k
  · rw [if_pos c, if_pos (e.mp c)]
  · rw [if_neg c, if_neg (fun z => c (e.mpr z))]
theorem rid_at {J : Im} {a q : Nat} {sec : Int32} (h0 : ¬ J (a + 13 + q) 0 = 0) : ∀ m, q < m → ridesI J a sec m (a + 13 + q) = boRide J (a + 13 + q) (flAt J (a + 1) (J (a + 13 + q) 1)) sec (a + 13 + q) := by
  intro m
  induction m with
  | zero => intro h; omega
  | succ m ih =>
    intro h
    by_cases e : q = m
    · subst e
      have o : ∀ e, (∀ i, i < q → e ≠ a + 13 + i) → ridesI J a sec q e = J e := fun e he => ridesI_off q he
      have eb := o (a + 13 + q) (fun i hi => by omega)
      show (if ridesI J a sec q (a + 13 + q) 0 = 0 then ridesI J a sec q else boRide (ridesI J a sec q) (a + 13 + q) (flAt (ridesI J a sec q) (a + 1) (ridesI J a sec q (a + 13 + q) 1)) sec) (a + 13 + q) = _
      rw [if_neg (by rw [eb]; exact h0), boRide_c eb, eb, flAt_c (J := J) (o _ (fun i hi => by omega)) (o _ (fun i hi => by omega))]
    · show (if ridesI J a sec m (a + 13 + m) 0 = 0 then ridesI J a sec m else boRide (ridesI J a sec m) (a + 13 + m) (flAt (ridesI J a sec m) (a + 1) (ridesI J a sec m (a + 13 + m) 1)) sec) (a + 13 + q) = _
      split
      · exact ih (by omega)
      · rw [boRide_off (by omega)]
        exact ih (by omega)
theorem rid_z {J : Im} {a q : Nat} {sec : Int32} (h0 : J (a + 13 + q) 0 = 0) : ∀ m, ridesI J a sec m (a + 13 + q) = J (a + 13 + q) := by
  intro m
  induction m with
  | zero => rfl
  | succ m ih =>
    show (if ridesI J a sec m (a + 13 + m) 0 = 0 then ridesI J a sec m else boRide (ridesI J a sec m) (a + 13 + m) (flAt (ridesI J a sec m) (a + 1) (ridesI J a sec m (a + 13 + m) 1)) sec) (a + 13 + q) = _
    by_cases e : q = m
    · subst e
      rw [if_pos (by rw [ih]; exact h0)]
      exact ih
    · split
      · exact ih
      · rw [boRide_off (by omega)]
        exact ih
theorem fl_at {C : Im} {w : Nat} {N : Nat → Int32} {n mo c q : Nat} (h : WR C w N n mo c) (hc2 : C (w + 1) 2 = nI n) (hq : q < n) (hn : n ≤ 16) : flAt C w (nI q) = fTo N q + fFr N n q := by
  unfold flAt fTo fFr
  rw [if_pos (show hasC C (w + 1) (nI q) from ⟨nI_pos' (by omega), by rw [hc2]; exact nI_lt hq (by omega), nI_lt (b := 16) (by omega) (by decide)⟩)]
  have ez : ∀ j, j < n → C (w + 7) j = if j + 1 < n then N (47 + j) else 0 := by
    intro j hj
    by_cases c1 : j + 1 < n
    · rw [if_pos c1, h.fl j c1]
    · rw [if_neg c1, show j = n - 1 by omega, h.fz]
  by_cases c0 : q = 0
  · subst c0
    rw [if_pos rfl, if_neg (by decide), Int32.zero_add]
    exact ez 0 hq
  · rw [if_neg c0, if_pos (show (0 : Int32) < nI q from nI_lt (a := 0) (by omega) (by omega))]
    have e1 : (nI q - 1).toNatClampNeg = q - 1 := by
      obtain ⟨j, rfl⟩ : ∃ j, q = j + 1 := ⟨q - 1, by omega⟩
      rw [nI_pred, nI_clamp (by omega)]
      rfl
    rw [e1, nI_clamp (by omega), ez q hq, h.fl (q - 1) (by omega)]
theorem mw_c {M N : Nat → Int32} {a : Nat} {x : Int32} (h : ∀ j, j < 10 → M (a + j) = N (a + j)) (h30 : M 30 = N 30) (ha : 30 < a) : ∀ j, j < 10 → wtN (mvN M a x) a (a + j) = wtN (mvN N a x) a (a + j) := by
  have eS : mvS M a = mvS N a := by
    unfold mvS
    rw [h 6 (by decide), h 3 (by decide), h 4 (by decide)]
  have eF : mvF M a x = mvF N a x := by
    unfold mvF
    rw [h 6 (by decide), eS]
  have eV : mvV M a x = mvV N a x := by
    unfold mvV
    rw [eF, h 7 (by decide), h 2 (by decide)]
  have eS2 : mvS (mvN M a x) a = mvS (mvN N a x) a := by
    rw [mv_S, mv_S, eV, h 6 (by decide), h 3 (by decide), h 4 (by decide)]
  intro j hj
  by_cases c9 : j = 9
  · subst c9
    rw [wt_9, wt_9, eS2, h 9 (by decide), h 5 (by decide), mvN_off (by omega) (by omega), mvN_off (by omega) (by omega), h30]
  by_cases c8 : j = 8
  · subst c8
    rw [wt_8, wt_8, eS2, h 8 (by decide)]
  rw [wtN_off (by omega) (by omega), wtN_off (by omega) (by omega)]
  by_cases c6 : j = 6
  · subst c6
    rw [mv_6, mv_6, eV, h 6 (by decide)]
  by_cases c7 : j = 7
  · subst c7
    rw [mv_7, mv_7, eV]
  rw [mvN_off (by omega) (by omega), mvN_off (by omega) (by omega), h j hj]
theorem rd_at {N : Nat → Int32} {n s : Nat} (h1 : N (95 + 10 * s) = 1) (hq : (N (95 + 10 * s + 1)).toNatClampNeg ≤ 16) : ∀ k, s < k → ∀ j, j < 10 → rdN N n k (95 + 10 * s + j) = wtN (mvN N (95 + 10 * s) (fTo N (N (95 + 10 * s + 1)).toNatClampNeg + fFr N n (N (95 + 10 * s + 1)).toNatClampNeg)) (95 + 10 * s) (95 + 10 * s + j) := by
  intro k
  induction k with
  | zero => intro h; omega
  | succ k ih =>
    intro h j hj
    by_cases e : s = k
    · subst e
      have o : ∀ p, (p < 95 ∨ 95 + 10 * s ≤ p) → rdN N n s p = N p := fun p hp => rdN_off s (fun i hi => by omega)
      have o0 := o (95 + 10 * s) (by omega)
      rw [rdN_s, if_pos (by rw [o0]; exact h1), o (95 + 10 * s + 1) (by omega)]
      generalize (N (95 + 10 * s + 1)).toNatClampNeg = q at hq ⊢
      have eT : fTo (rdN N n s) q = fTo N q := by
        unfold fTo
        rw [o (47 + (q - 1)) (by omega)]
      have eF : fFr (rdN N n s) n q = fFr N n q := by
        unfold fFr
        rw [o (47 + q) (by omega)]
      rw [eT, eF]
      exact mw_c (fun i hi => o _ (by omega)) (o 30 (by omega)) (by omega) j hj
    · rw [rdN_s]
      split
      · rw [wtN_off (by omega) (by omega), mvN_off (by omega) (by omega)]
        exact ih (by omega) j hj
      · exact ih (by omega) j hj
/-- a rider after a second -/
theorem sec_b {N : Nat → Int32} {n mo c s : Nat} (hn : n ≤ 16) (hm : mo < n) (hs : s < 3) (h1 : N (95 + 10 * s) = 1) (hq : (N (95 + 10 * s + 1)).toNatClampNeg ≤ 16) : ∀ j, j < 10 → secN N n mo c (95 + 10 * s + j) = wtN (mvN (s2N N n mo c) (95 + 10 * s) (fTo (s2N N n mo c) (N (95 + 10 * s + 1)).toNatClampNeg + fFr (s2N N n mo c) n (N (95 + 10 * s + 1)).toNatClampNeg)) (95 + 10 * s) (95 + 10 * s + j) := by
  intro j hj
  have o : ∀ p, 63 ≤ p → s2N N n mo c p = N p := fun p hp => s2N_o hn hm (by omega)
  have key := rd_at (N := s2N N n mo c) (n := n) (s := s) (by rw [o _ (by omega)]; exact h1) (by rw [o _ (by omega)]; exact hq) 3 hs j hj
  rw [o (95 + 10 * s + 1) (by omega)] at key
  unfold secN
  rw [upn_n (by omega), rgN_o (by omega) (by omega)]
  exact key
theorem WR_2 {C : Im} {w : Nat} {N : Nat → Int32} {n mo c : Nat} (h : WR C w N n mo c) (hw : WfN N n mo c) {q : Nat} (hq : q < n) (hc2 : C (w + 1) 2 = nI n) : flAt (waPass C w n c) w (nI q) = fTo (s2N N n mo c) q + fFr (s2N N n mo c) n q := by
  have hn := hw.1.2
  have hm := hw.2.2.1.1
  have key := fl_at (WR_s h hw) (by rw [waPass_off (by omega) (by omega) (by omega) (by omega) (by omega)]; exact hc2) hq hn
  rw [key]
  have e : ∀ j, j + 1 < n → secN N n mo c (47 + j) = s2N N n mo c (47 + j) := fun j hj => by rw [sec_f hj hm hn, s2_f hj hm hn]
  unfold fTo fFr
  by_cases c0 : q = 0
  · rw [if_pos c0, if_pos c0]
    by_cases c1 : q + 1 < n
    · rw [if_pos c1, if_pos c1, e q c1]
    · rw [if_neg c1, if_neg c1]
  · rw [if_neg c0, if_neg c0, e (q - 1) (by omega)]
    by_cases c1 : q + 1 < n
    · rw [if_pos c1, if_pos c1, e q c1]
    · rw [if_neg c1, if_neg c1]
/-- one boat of a night, and the row's rider -/
def BoK (C : Im) (b : Nat) (N : Nat → Int32) (s n : Nat) : Prop := BoR C b N (95 + 10 * s) ∧ N (95 + 10 * s) = 1 ∧ ¬ C b 0 = 0 ∧ (∃ q, q < n ∧ N (95 + 10 * s + 1) = nI q) ∧ ∃ w, 1 ≤ w ∧ w ≤ 9 ∧ N (95 + 10 * s + 2) = nI w
theorem BoK_s {C : Im} {a q m s : Nat} {N : Nat → Int32} {n mo c : Nat} (h : WR C (a + 1) N n mo c) (hw : WfN N n mo c) (hc2 : C (a + 2) 2 = nI n) (hb : BoK C (a + 13 + q) N s n) (hqm : q < m) (hs : s < 3) : BoK (niStep C a n c m) (a + 13 + q) (secN N n mo c) s n := by
  have hn := hw.1.2
  have hm := hw.2.2.1.1
  obtain ⟨b1, b2, b3, ⟨k, hk, ek⟩, b5⟩ := hb
  have o : waPass C (a + 1) n c (a + 13 + q) = C (a + 13 + q) := waPass_off (by omega) (by omega) (by omega) (by omega) (by omega)
  have o0 := secN_r (N := N) (c := c) (i := s) (j := 0) hn hm hs (by decide)
  rw [Nat.add_zero] at o0
  have e1 : C (a + 13 + q) 1 = nI k := (b1 1 (by decide) (by decide)).trans ek
  have key : niStep C a n c m (a + 13 + q) = boRide (waPass C (a + 1) n c) (a + 13 + q) (fTo (s2N N n mo c) k + fFr (s2N N n mo c) n k) (C (a + 1) 7) (a + 13 + q) := by
    unfold niStep
    rw [rid_at (by rw [o]; exact b3) m hqm, o, e1, WR_2 h hw hk hc2]
  have hb2 : BoR (waPass C (a + 1) n c) (a + 13 + q) (s2N N n mo c) (95 + 10 * s) := by
    intro j h1 h9
    rw [o, s2N_o hn hm (by omega)]
    exact b1 j h1 h9
  have hb3 := BoR_s (x := fTo (s2N N n mo c) k + fFr (s2N N n mo c) n k) (sec := C (a + 1) 7) hb2 (by rw [s2N_o hn hm (by omega)]; exact b5) (by rw [s2N_o hn hm (by omega)]; exact h.sec) (by omega)
  have ekn : (N (95 + 10 * s + 1)).toNatClampNeg = k := by rw [ek, nI_clamp (by omega)]
  refine ⟨?_, by rw [o0]; exact b2, ?_, ⟨k, hk, by rw [secN_r hn hm hs (by decide)]; exact ek⟩, by rw [secN_r hn hm hs (by decide)]; exact b5⟩
  · intro j h1 h9
    rw [key, hb3 j h1 h9, sec_b hn hm hs b2 (by rw [ekn]; omega) j (by omega), ekn]
  · rw [key]
    have z : boRide (waPass C (a + 1) n c) (a + 13 + q) (fTo (s2N N n mo c) k + fFr (s2N N n mo c) n k) (C (a + 1) 7) (a + 13 + q) 0 = waPass C (a + 1) n c (a + 13 + q) 0 := boRide_0
    rw [z, o]
    exact b3
end R2
