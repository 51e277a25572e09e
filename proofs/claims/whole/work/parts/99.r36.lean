section R36
variable {G : Gp} {I : Im} {L : Nat → Nat → Int64} {t : Nat}
section
variable {C M D E : Im} {L : Nat → Nat → Int64}
/-- how far a float is off, on both sides -/
theorem of_both {b z n mo c q r m : Nat} {X H : Nat → Int32} {y : Int32} (hb : BaR C b H n mo) (hx : HaX H) (hs : SeR C (132 + 3 * z) (fun i => M 211 (8 * z + i)) c) (em : M 210 z = nI c) (sx : SeX (fun i => M 211 (8 * z + i)) c) (hX : ∀ p, p < 21 → X p = H p) (b9 : 90 < b) (hq : y = nI q) (qn : q < n) (r6 : r < 6) (hm : m ≤ 60) (e1 : C (104 + 2 * r) 1 = nI m) (hr : ∀ i, i < m → C (104 + 2 * r + 1) i = M 203 (60 * r + i)) (hv : ∀ i, i < m → -10000 ≤ M 203 (60 * r + i) ∧ M 203 (60 * r + i) ≤ 10000) : (ofF C b (132 + 3 * z) y (104 + 2 * r)).1 = ofM M r (wbN M X z) n mo c q m ∧ 0 ≤ (ofM M r (wbN M X z) n mo c q m).toInt ∧ (ofM M r (wbN M X z) n mo c q m).toInt ≤ 240600000 := by
  have n16 := hb.n16
  have c4 := hs.c4
  obtain ⟨l1, l2, l3, l4, l5⟩ := wb_all hb hx hs em sx hX
  have hW : WR (waBegin C 25 b (132 + 3 * z)) 25 (wbN M X z) n mo c := WR_b (w := 25) hb hs (by omega) (by omega) l1.1 l1.2.1 l1.2.2
  obtain ⟨a1, -, a3, a4⟩ := of_sim (q := q) (p := 104 + 2 * r) (r := r) (m := m) hW l2 l3 l4 l5 qn (by omega) hm hr hv m (Nat.le_refl m)
  refine ⟨?_, a3, by omega⟩
  unfold ofF
  rw [hb.ce, hs.ct, e1, hq, nI_clamp (by omega), nI_clamp (by omega), nI_clamp (by omega), nI_clamp (by omega)]
  exact a1
theorem row_f {r : Nat} (hr : r < 6) (h : RelP C M) (c2 : ¬ C (104 + 2 * r) 2 = 0) : ∃ m, m ≤ 60 ∧ C (104 + 2 * r) 1 = nI m ∧ M 202 r = nI m ∧ 0 ≤ M 202 r ∧ ∀ i, i < m → C (104 + 2 * r + 1) i = M 203 (60 * r + i) := by
  obtain ⟨t1, t2, ⟨m, hm, em⟩, t3, t3', t4⟩ := row_1 (h.row _ hr) c2
  rw [em, nI_clamp (by omega)] at t4
  exact ⟨m, hm, em, t2.trans em, t3, t4⟩
theorem fl_pr {b s p : Nat} {y : Int32} : FrC (ofF C b s y p).2 C ∧ (ofF C b s y p).2 0 = C 0 ∧ (ofF C b s y p).2 102 = C 102 := ⟨⟨fun e he => ofF_off (by omega), by rw [ofF_off (by omega)]⟩, ofF_off (by omega), ofF_off (by omega)⟩
theorem nf_c {f g : Nat → Int32} {m : Nat} (h : ∀ i, i < m → f i = g i) : (∀ j, j < m → -10000 ≤ f j ∧ f j ≤ 10000) ↔ nfP g m := ⟨fun z j hj => by rw [← h j hj]; exact z j hj, fun z j hj => by rw [h j hj]; exact z j hj⟩
theorem K_since {k z c w r : Int32} (h : RelP C M) : Same C M (f_X11_since C k z c w r) (f_X12_since M k z c w r) := by
  unfold f_X11_since f_X12_since
  by_cases c1 : b2i (0 ≤ k ∧ k ≤ 3) = 0
  · rw [if_pos c1, if_pos (Or.inl c1)]
    exact sm_v h
  rw [if_neg c1]
  by_cases c2 : b2i (0 ≤ z ∧ z ≤ 3) = 0
  · rw [if_pos c2, if_pos (Or.inr (Or.inl c2))]
    exact sm_v h
  rw [if_neg c2]
  by_cases c3 : b2i (0 ≤ c ∧ c ≤ 15) = 0
  · rw [if_pos c3, if_pos (Or.inr (Or.inr (Or.inl c3)))]
    exact sm_v h
  rw [if_neg c3]
  by_cases c4 : b2i (0 ≤ w ∧ w ≤ 15) = 0
  · rw [if_pos c4, if_pos (Or.inr (Or.inr (Or.inr (Or.inl c4))))]
    exact sm_v h
  rw [if_neg c4]
  by_cases c5 : b2i (0 ≤ r ∧ r ≤ 5) = 0
  · rw [if_pos c5, if_pos (Or.inr (Or.inr (Or.inr (Or.inr c5))))]
    exact sm_v h
  rw [if_neg c5, if_neg (show ¬ (b2i (0 ≤ k ∧ k ≤ 3) = 0 ∨ b2i (0 ≤ z ∧ z ≤ 3) = 0 ∨ b2i (0 ≤ c ∧ c ≤ 15) = 0 ∨ b2i (0 ≤ w ∧ w ≤ 15) = 0 ∨ b2i (0 ≤ r ∧ r ≤ 5) = 0) from fun q => q.elim c1 (fun q => q.elim c2 (fun q => q.elim c3 (fun q => q.elim c4 c5))))]
  obtain ⟨qk, vk⟩ := cl_lt (N := 4) (by decide) c1
  obtain ⟨qz, vz⟩ := cl_lt (N := 4) (by decide) c2
  obtain ⟨qc, vc⟩ := cl_lt (N := 16) (by decide) c3
  obtain ⟨qw, vw⟩ := cl_lt (N := 16) (by decide) c4
  obtain ⟨qr, vr⟩ := cl_lt (N := 6) (by decide) c5
  have ec := (vpn vc).2
  have ew := (vpn vw).2
  have m3 : ∀ X : Im, ¬ 0 ≤ ((-3 : Int32), X).1 := fun X z => absurd (show (0 : Int32) ≤ -3 from z) (by decide)
  unfold f_X12_needFloat
  rw [(h.har _ qk).e, (h.sea _ qz).e, (ixz (c := 21) (C := 21) (R := 4) rfl (by decide) vk (by decide)).2]
  by_cases d1 : M 207 k.toNatClampNeg = 0
  · simp only [if_pos d1, if_neg (m3 _)]
    exact sm_1 h
  by_cases d2 : M 209 z.toNatClampNeg = 0
  · simp only [if_neg d1, if_pos d2, if_neg (m3 _)]
    exact sm_1 h
  simp only [if_neg d1, if_neg d2]
  by_cases d3 : C (104 + 2 * r.toNatClampNeg) 2 = 0
  · simp only [if_pos d3, if_neg (row_0 (h.row _ qr) d3).1, if_neg (m3 _)]
    exact sm_1 h
  obtain ⟨m, hm, em, em', t3, t4⟩ := row_f qr h d3
  simp only [if_neg d3, if_pos t3]
  simp only [em, em', nI_clamp (show m < 2 ^ 31 by omega)]
  by_cases d4 : 1 ≤ nI m
  · have d4' : ¬ b2i (1 ≤ nI m ∧ nI m ≤ 60) = 0 := b2i_n0.mpr ⟨d4, nI_le (b := 60) hm (by decide)⟩
    simp only [if_pos d4, if_neg d4']
    obtain ⟨⟨n, mo, hb⟩, hx⟩ := (h.har _ qk).th d1
    obtain ⟨cc, hs, es, sx⟩ := (h.sea _ qz).th d2
    have n16 := hb.n16
    have n3 := hb.n3
    have mm := hb.mm
    have cc4 := hs.c4
    have e0 : M 208 (21 * k.toNatClampNeg) = nI n := hb.h0
    have e1 : M 208 (21 * k.toNatClampNeg + 1) = nI mo := hb.h1
    simp only [hb.ce, e0]
    by_cases d5 : nI n ≤ c
    · simp only [if_pos (b2i_0.mpr (fun z => absurd z.2.1 (Int32.not_lt.mpr d5)) : b2i (0 ≤ c ∧ c < nI n ∧ c < 16) = 0), if_pos d5, if_neg (m3 _)]
      exact sm_2 h
    have d5' : ¬ b2i (0 ≤ c ∧ c < nI n ∧ c < 16) = 0 := b2i_n0.mpr ⟨(b2i_n0.mp c3).1, Int32.not_le.mp d5, by rw [ec]; exact nI_lt (b := 16) qc (by decide)⟩
    simp only [if_neg d5', if_neg d5]
    have cn : c.toNatClampNeg < n := by
      have := Int32.not_le.mp d5
      rw [ec] at this
      exact (nI_ltI (by omega) (by omega)).mp this
    have en1 : (nI n - 1 : Int32) = nI (n - 1) := (nI_sub (a := 1) (by omega) (by omega)).symm
    have ew1 : w + 1 = nI (w.toNatClampNeg + 1) := by
      rw [← nI_1, ← ew]
    by_cases d6 : w.toNatClampNeg + 1 < n
    · have d6' : w + 1 < nI n := by rw [ew1]; exact nI_lt d6 (by omega)
      have hW0 : 0 ≤ w ∧ w < nI n - 1 ∧ w < 15 := ⟨(b2i_n0.mp c4).1, by rw [en1, ew]; exact nI_lt (by omega) (by omega), by rw [ew]; exact nI_lt (b := 15) (by omega) (by decide)⟩
      simp only [if_neg (b2i_n0.mpr hW0), if_pos d6']
      by_cases d7 : nfP (fun j => M 203 (60 * r.toNatClampNeg + j)) m
      · have d7' := (nf_c (f := C (104 + 2 * r.toNatClampNeg + 1)) t4).mpr d7
        simp only [if_neg (b2i_n0.mpr d7'), if_neg (nfB_n.mpr d7), if_pos (show (0 : Int32) ≤ 0 by decide)]
        generalize k.toNatClampNeg = q at qk d1 hb hx e0 e1
        generalize z.toNatClampNeg = y at qz d2 hs es sx
        generalize r.toNatClampNeg = p at qr d3 em em' t3 t4 d7 d7'
        obtain ⟨o1, o2, o3⟩ := of_both (X := hbN M q) hb hx hs es sx (fun p hp => hbN_p hp) (by omega) ec cn qr hm em t4 d7
        obtain ⟨f1, f2, f3⟩ := fl_pr (C := C) (b := 124 + 2 * q) (s := 132 + 3 * y) (p := 104 + 2 * p) (y := c)
        generalize hI4 : (ofF C (124 + 2 * q) (132 + 3 * y) c (104 + 2 * p)).2 = I4 at f1 f2 f3
        have hb4 : BaR I4 (124 + 2 * q) (fun p => M 208 (21 * q + p)) n mo := BaR_of hb (f1.1 _ (by omega)) (f1.1 _ (by omega))
        have hb5 := BaR_t (b := 124 + 2 * q) (by omega) hb4
        have eW : baWall (baTake I4 93 (124 + 2 * q)) 93 w = up2 (baTake I4 93 (124 + 2 * q)) 93 6 (baTake I4 93 (124 + 2 * q) 93 6 ||| 1 <<< (w &&& 31)) := by
          unfold baWall
          rw [if_pos (show hasW (baTake I4 93 (124 + 2 * q)) 93 w by unfold hasW; rw [hb5.ce]; exact hW0)]
        have hb6 : BaR (baWall (baTake I4 93 (124 + 2 * q)) 93 w) 93 (upn (fun p => M 208 (21 * q + p)) 4 (M 208 (21 * q + 4) ||| 1 <<< (w &&& 31))) n mo := by
          rw [eW, hb5.wa]
          exact BaR_4 hb5
        have f6 : ∀ e, 94 < e → baWall (baTake I4 93 (124 + 2 * q)) 93 w e = C e := fun e he => by
          rw [eW, up2_off (by omega), baT_o (by omega) (by omega), ← hI4, ofF_off (by omega)]
        have f60 : ∀ e, e < 24 → baWall (baTake I4 93 (124 + 2 * q)) 93 w e = C e := fun e he => by
          rw [eW, up2_off (by omega), baT_o (by omega) (by omega), ← hI4, ofF_off (by omega)]
        have hs6 : SeR (baWall (baTake I4 93 (124 + 2 * q)) 93 w) (132 + 3 * y) (fun i => M 211 (8 * y + i)) cc := SeR_of hs (f6 _ (by omega)) (f6 _ (by omega)) (f6 _ (by omega))
        have sD : ∀ j, j < 21 → siD M q y m j = M 208 (21 * q + j) := fun j hj => by
          unfold siD
          rw [e0, e1, es, nI_clamp (by omega), nI_clamp (by omega), nI_clamp (by omega), secI_p n16 mm (by omega)]
          exact ((wb_all hb hx hs es sx (fun p hp => hbN_p hp)).1.1 j hj)
        obtain ⟨u1, u2, u3⟩ := of_both (C := baWall (baTake I4 93 (124 + 2 * q)) 93 w) (X := siN M q y m w) hb6 (HaX_4 hx) hs6 es sx (fun j hj => by
          unfold siN
          by_cases e : j = 4
          · subst e
            rw [upn_s, upn_s, sD 4 (by decide)]
          · rw [upn_n e, upn_n e]
            exact sD j hj) (by decide) ec cn qr hm (by rw [f6 _ (by omega)]; exact em) (fun i hi => by rw [f6 _ (by omega)]; exact t4 i hi) d7
        have eA : siA M q y p c.toNatClampNeg m = ofM M p (wbN M (hbN M q) y) n mo cc c.toNatClampNeg m := by
          unfold siA
          rw [e0, e1, es, nI_clamp (by omega), nI_clamp (by omega), nI_clamp (by omega)]
        have eB : siB M q y p c.toNatClampNeg m w = ofM M p (wbN M (siN M q y m w) y) n mo cc c.toNatClampNeg m := by
          unfold siB
          rw [e0, e1, es, nI_clamp (by omega), nI_clamp (by omega), nI_clamp (by omega)]
        rw [← eA] at o1 o2 o3
        rw [← eB] at u1 u2 u3
        unfold siV siI
        rw [em', nI_clamp (by omega), o1, u1]
        have fr : FrC (ofF (baWall (baTake I4 93 (124 + 2 * q)) 93 w) 93 (132 + 3 * y) c (104 + 2 * p)).2 C := ⟨fun e he => by rw [ofF_off (by omega)]; exact (by omega : e < 24 ∨ 94 < e).elim (f60 e) (f6 e), by rw [ofF_off (by omega), f60 0 (by decide)]⟩
        have eV := far_abs (x := siA M q y p c.toNatClampNeg m) (y := siB M q y p c.toNatClampNeg m w) (by omega) (by omega) (by omega) (by omega)
        by_cases d8 : siA M q y p c.toNatClampNeg m ≤ siB M q y p c.toNatClampNeg m w
        · rw [if_pos d8, if_neg (show ¬ siB M q y p c.toNatClampNeg m w < siA M q y p c.toNatClampNeg m from Int32.not_lt.mpr d8)]
          exact sm_t h fr (FrM.trans FrM.lk FrM.n5) (by rw [ofF_off (by omega), f60 0 (by decide)]) (by rw [ofF_off (by omega), f6 102 (by decide)]) (by rw [nw_off (by decide)]; exact u2_j (by decide)) (by rw [nw_off (by decide), lk_off (by decide)]) eV rfl
        · rw [if_neg d8, if_pos (show siB M q y p c.toNatClampNeg m w < siA M q y p c.toNatClampNeg m from Int32.not_le.mp d8)]
          exact sm_t h fr (FrM.trans FrM.lk FrM.n5) (by rw [ofF_off (by omega), f60 0 (by decide)]) (by rw [ofF_off (by omega), f6 102 (by decide)]) (by rw [nw_off (by decide)]; exact u2_j (by decide)) (by rw [nw_off (by decide), lk_off (by decide)]) eV rfl
      · have d7' : ¬ ∀ j, j < m → -10000 ≤ C (104 + 2 * r.toNatClampNeg + 1) j ∧ C (104 + 2 * r.toNatClampNeg + 1) j ≤ 10000 := fun q => d7 ((nf_c (f := C (104 + 2 * r.toNatClampNeg + 1)) t4).mp q)
        simp only [if_pos (b2i_0.mpr d7'), if_pos (nfB_0.mpr d7), if_neg (m3 _)]
        exact sm_3 h
    · have d6' : ¬ w + 1 < nI n := fun q => d6 (by rw [ew1] at q; exact (nI_ltI (by omega) (by omega)).mp q)
      have hW0 : b2i (0 ≤ w ∧ w < nI n - 1 ∧ w < 15) = 0 := b2i_0.mpr (fun q => d6 (by
        have := q.2.1
        rw [en1, ew] at this
        have := (nI_ltI (by omega) (by omega)).mp this
        omega))
      simp only [if_pos hW0, if_neg d6', if_neg (m3 _)]
      exact sm_2 h
  · have d4' : b2i (1 ≤ nI m ∧ nI m ≤ 60) = 0 := b2i_0.mpr (fun q => d4 q.1)
    simp only [if_neg d4, if_pos d4', if_neg (m3 _)]
    exact sm_5 h
end
end R36
