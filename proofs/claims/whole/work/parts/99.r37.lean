section R37
variable {G : Gp} {I : Im} {L : Nat → Nat → Int64} {t : Nat}
section
variable {C M D E : Im} {L : Nat → Nat → Int64}
theorem wi_wh {q p m n mo : Nat} {c : Int32} (h : RelP C M) (qk : q < 4) (qr : p < 6) (hb : BaR C (124 + 2 * q) (fun p => M 208 (21 * q + p)) n mo) (hx : HaX (fun p => M 208 (21 * q + p))) (qc : c.toNatClampNeg < n) (ec : c = nI c.toNatClampNeg) (hm : m ≤ 60) (em : C (104 + 2 * p) 1 = nI m) (em' : M 202 p = nI m) (t4 : ∀ i, i < m → C (104 + 2 * p + 1) i = M 203 (60 * p + i)) (d7 : nfP (fun j => M 203 (60 * p + j)) m) : ∀ k, k ≤ 4 → (∀ e, e < 25 ∨ 35 < e → (wiN C (124 + 2 * q) c (104 + 2 * p) k).2.2 e = C e) ∧ (∀ j, j < 21 → (whM M q p c.toNatClampNeg k).2.2 j = M 208 (21 * q + j)) ∧ (((wiN C (124 + 2 * q) c (104 + 2 * p) k).1 = -1 ∧ (whM M q p c.toNatClampNeg k).1 = -9 ∧ ∀ i, i < k → M 209 i = 0) ∨ ((wiN C (124 + 2 * q) c (104 + 2 * p) k).1 = (whM M q p c.toNatClampNeg k).1 ∧ (wiN C (124 + 2 * q) c (104 + 2 * p) k).2.1 = (whM M q p c.toNatClampNeg k).2.1 ∧ 0 ≤ (whM M q p c.toNatClampNeg k).1)) := by
  have n16 := hb.n16
  have mm := hb.mm
  have e0 : M 208 (21 * q) = nI n := hb.h0
  have e1 : M 208 (21 * q + 1) = nI mo := hb.h1
  intro k
  induction k with
  | zero =>
    intro _
    rw [wiN_0, whM_0]
    exact ⟨fun _ _ => rfl, fun j hj => hbN_p hj, Or.inl ⟨rfl, rfl, fun i hi => absurd hi (Nat.not_lt_zero i)⟩⟩
  | succ k ih =>
    intro hk
    obtain ⟨i1, i2, i3⟩ := ih (by omega)
    rw [wiN_s, whM_s, i1 (132 + 3 * k) (by omega), (h.sea k (by omega)).e]
    by_cases c9 : M 209 k = 0
    · rw [if_pos c9, if_pos c9]
      refine ⟨i1, i2, i3.elim (fun z => Or.inl ⟨z.1, z.2.1, fun i hi => ?_⟩) Or.inr⟩
      by_cases e : i = k
      · rw [e]
        exact c9
      · exact z.2.2 i (by omega)
    · rw [if_neg c9, if_neg c9]
      obtain ⟨cc, hs, es, sx⟩ := (h.sea k (by omega)).th c9
      have cc4 := hs.c4
      have hb' : BaR (wiN C (124 + 2 * q) c (104 + 2 * p) k).2.2 (124 + 2 * q) (fun p => M 208 (21 * q + p)) n mo := BaR_of hb (i1 _ (by omega)) (i1 _ (by omega))
      have hs' : SeR (wiN C (124 + 2 * q) c (104 + 2 * p) k).2.2 (132 + 3 * k) (fun i => M 211 (8 * k + i)) cc := SeR_of hs (i1 _ (by omega)) (i1 _ (by omega)) (i1 _ (by omega))
      obtain ⟨o1, -, -⟩ := of_both (X := (whM M q p c.toNatClampNeg k).2.2) hb' hx hs' es sx i2 (by omega) ec qc qr hm (by rw [i1 _ (by omega)]; exact em) (fun i hi => by rw [i1 _ (by omega)]; exact t4 i hi) d7
      rw [o1, e0, e1, es, em', nI_clamp (show n < 2 ^ 31 by omega), nI_clamp (show mo < 2 ^ 31 by omega), nI_clamp (show cc < 2 ^ 31 by omega), nI_clamp (show m < 2 ^ 31 by omega)]
      have g1 : ∀ e, e < 25 ∨ 35 < e → (ofF (wiN C (124 + 2 * q) c (104 + 2 * p) k).2.2 (124 + 2 * q) (132 + 3 * k) c (104 + 2 * p)).2 e = C e := fun e he => by rw [ofF_off he, i1 e he]
      have g2 : ∀ j, j < 21 → secI (wbN M (whM M q p c.toNatClampNeg k).2.2 k) n mo cc m j = M 208 (21 * q + j) := fun j hj => by
        rw [secI_p n16 mm (by omega)]
        exact (wb_all hb hx hs es sx i2).1.1 j hj
      generalize ofM M p (wbN M (whM M q p c.toNatClampNeg k).2.2 k) n mo cc c.toNatClampNeg m = x
      rcases i3 with ⟨a1, a2, -⟩ | ⟨a1, a2, a3⟩
      · rw [a1, if_pos (Or.inl (by decide)), if_pos (Or.inl a2)]
        exact ⟨g1, g2, Or.inr ⟨rfl, rfl, nI_pos' (by omega)⟩⟩
      · rw [a1, a2]
        have b1 : ¬ (whM M q p c.toNatClampNeg k).1 < 0 := Int32.not_lt.mpr a3
        have b2 : ¬ (whM M q p c.toNatClampNeg k).1 = -9 := fun z => absurd (z ▸ a3 : (0 : Int32) ≤ -9) (by decide)
        by_cases d : x < (whM M q p c.toNatClampNeg k).2.1
        · rw [if_pos (Or.inr d), if_pos (Or.inr d)]
          exact ⟨g1, g2, Or.inr ⟨rfl, rfl, nI_pos' (by omega)⟩⟩
        · rw [if_neg (fun z => z.elim b1 d), if_neg (fun z => z.elim b2 d)]
          exact ⟨g1, g2, Or.inr ⟨rfl, rfl, a3⟩⟩
theorem K_which {k c r : Int32} (h : RelP C M) : Same C M (f_X11_which C k c r) (f_X12_which M k c r) := by
  unfold f_X11_which f_X12_which
  by_cases c1 : b2i (0 ≤ k ∧ k ≤ 3) = 0
  · rw [if_pos c1, if_pos (Or.inl c1)]
    exact sm_v h
  rw [if_neg c1]
  by_cases c3 : b2i (0 ≤ c ∧ c ≤ 15) = 0
  · rw [if_pos c3, if_pos (Or.inr (Or.inl c3))]
    exact sm_v h
  rw [if_neg c3]
  by_cases c5 : b2i (0 ≤ r ∧ r ≤ 5) = 0
  · rw [if_pos c5, if_pos (Or.inr (Or.inr c5))]
    exact sm_v h
  rw [if_neg c5, if_neg (show ¬ (b2i (0 ≤ k ∧ k ≤ 3) = 0 ∨ b2i (0 ≤ c ∧ c ≤ 15) = 0 ∨ b2i (0 ≤ r ∧ r ≤ 5) = 0) from fun q => q.elim c1 (fun q => q.elim c3 c5))]
  obtain ⟨qk, vk⟩ := cl_lt (N := 4) (by decide) c1
  obtain ⟨qc, vc⟩ := cl_lt (N := 16) (by decide) c3
  obtain ⟨qr, vr⟩ := cl_lt (N := 6) (by decide) c5
  have ec := (vpn vc).2
  have m3 : ∀ X : Im, ¬ 0 ≤ ((-3 : Int32), X).1 := fun X z => absurd (show (0 : Int32) ≤ -3 from z) (by decide)
  unfold f_X12_needFloat
  rw [(h.har _ qk).e, any_eq h, (ixz (c := 21) (C := 21) (R := 4) rfl (by decide) vk (by decide)).2]
  by_cases d1 : M 207 k.toNatClampNeg = 0
  · simp only [if_pos d1, if_neg (m3 _)]
    exact sm_1 h
  simp only [if_neg d1]
  by_cases d3 : C (104 + 2 * r.toNatClampNeg) 2 = 0
  · simp only [if_pos d3, if_neg (row_0 (h.row _ qr) d3).1]
    by_cases d2 : f_X12_isAnySea M = 0
    · simp only [if_pos d2, if_neg (m3 _)]
      exact sm_1 h
    · simp only [if_neg d2, if_neg (m3 _)]
      exact sm_1 h
  simp only [if_neg d3]
  by_cases d2 : f_X12_isAnySea M = 0
  · simp only [if_pos d2, if_neg (m3 _)]
    exact sm_1 h
  simp only [if_neg d2]
  obtain ⟨m, hm, em, em', t3, t4⟩ := row_f qr h d3
  simp only [if_pos t3]
  simp only [em, em', nI_clamp (show m < 2 ^ 31 by omega)]
  by_cases d4 : 1 ≤ nI m
  · have d4' : ¬ b2i (1 ≤ nI m ∧ nI m ≤ 60) = 0 := b2i_n0.mpr ⟨d4, nI_le (b := 60) hm (by decide)⟩
    simp only [if_pos d4, if_neg d4']
    obtain ⟨⟨n, mo, hb⟩, hx⟩ := (h.har _ qk).th d1
    have n16 := hb.n16
    have n3 := hb.n3
    have e0 : M 208 (21 * k.toNatClampNeg) = nI n := hb.h0
    simp only [hb.ce, e0]
    by_cases d5 : nI n ≤ c
    · simp only [if_pos (b2i_0.mpr (fun z => absurd z.2.1 (Int32.not_lt.mpr d5)) : b2i (0 ≤ c ∧ c < nI n ∧ c < 16) = 0), if_pos d5, if_neg (m3 _)]
      exact sm_2 h
    have d5' : ¬ b2i (0 ≤ c ∧ c < nI n ∧ c < 16) = 0 := b2i_n0.mpr ⟨(b2i_n0.mp c3).1, Int32.not_le.mp d5, by rw [ec]; exact nI_lt (b := 16) qc (by decide)⟩
    have d6' : (-9 : Int32) + 1 < nI n := Int32.lt_of_lt_of_le (show (-9 : Int32) + 1 < 0 by decide) (nI_pos' (by omega))
    simp only [if_neg d5', if_neg d5, if_pos d6']
    have cn : c.toNatClampNeg < n := by
      have := Int32.not_le.mp d5
      rw [ec] at this
      exact (nI_ltI (by omega) (by omega)).mp this
    by_cases d7 : nfP (fun j => M 203 (60 * r.toNatClampNeg + j)) m
    · have d7' := (nf_c (f := C (104 + 2 * r.toNatClampNeg + 1)) t4).mpr d7
      simp only [if_neg (b2i_n0.mpr d7'), if_neg (nfB_n.mpr d7), if_pos (show (0 : Int32) ≤ 0 by decide)]
      obtain ⟨w1, -, w3⟩ := wi_wh h qk qr hb hx cn ec hm em em' t4 d7 4 (by decide)
      rcases w3 with ⟨-, -, z⟩ | ⟨a1, a2, -⟩
      · exact absurd (any_z z) d2
      · unfold whI
        exact sm_t h ⟨fun e he => w1 e (by omega), by rw [w1 0 (by omega)]⟩ (FrM.trans FrM.lk FrM.n5) (by rw [w1 0 (by omega)]) (w1 102 (by omega)) (by rw [nw_off (by decide)]; exact u2_j (by decide)) (by rw [nw_off (by decide), lk_off (by decide)]) a2 a1
    · have d7' : ¬ ∀ j, j < m → -10000 ≤ C (104 + 2 * r.toNatClampNeg + 1) j ∧ C (104 + 2 * r.toNatClampNeg + 1) j ≤ 10000 := fun q => d7 ((nf_c (f := C (104 + 2 * r.toNatClampNeg + 1)) t4).mp q)
      simp only [if_pos (b2i_0.mpr d7'), if_pos (nfB_0.mpr d7), if_neg (m3 _)]
      exact sm_3 h
  · have d4' : b2i (1 ≤ nI m ∧ nI m ≤ 60) = 0 := b2i_0.mpr (fun q => d4 q.1)
    simp only [if_neg d4, if_pos d4', if_neg (m3 _)]
    exact sm_5 h
end
end R37
