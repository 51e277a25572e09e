section R43
variable {G : Gp} {I : Im} {L : Nat → Nat → Int64} {t : Nat}
section
variable {C M D E : Im}
theorem ton_main {q z n mo r : Nat} (h : RelP C M) (hq : q < 4) (hz : z < 4) (hr : r < 6) (h7 : ¬ M 207 q = 0) (h9 : ¬ M 209 z = 0) (hb : BaR C (124 + 2 * q) (fun p => M 208 (21 * q + p)) n mo) (h0 : ¬ cntN (M 214) 3 = 0) {W X : Im} (eW : W = wakeI (tmN (up2 C 24 2 0) n 3) (124 + 2 * q) (132 + 3 * z)) (eX : X = tsN M q z n 3) {a : Nat} (ea : a = cntN (M 214) 3) {D8 : Im} (e8 : D8 = rwN (nuNew (spF (bbI W a n) n (bbF W a n).toNatClampNeg a a) (104 + 2 * r) a) (104 + 2 * r + 1) a) : Same C M ((f_X11_tell D8 (puF D8 a (nI n)) (paF D8 a (nI n))).1, (f_X11_tell D8 (puF D8 a (nI n)) (paF D8 a (nI n))).2) ((liE X n).2.1, liI X n r) := by
  have n16 := hb.n16
  have n3 := hb.n3
  have h24 : up2 C 24 2 0 24 2 = nI 0 := u20
  have hW : ∀ e, e < 24 ∨ 84 < e → W e = C e := fun e he => by
    rw [eW, wakeI_off (tmN_t n16 h24) (by omega), (tmN_all n16 h24 3 (by decide)).1 e he, up2_off (by omega)]
  obtain ⟨sh, p, t0, t1, t2, t3, t4, t5⟩ := tn_all (P := M 214) (n := n) (p8 := P8 M q z) (p9 := P9 M q z) n3 n16 h0
  rw [← ea] at t0 t1 t2 t3 t4 t5
  have hT : Tr W n a (fun i j => P8 M q z (sh i) j) (fun i j => P9 M q z (sh i) j) := by
    refine ⟨?_, fun i hi j hj => ?_⟩
    · obtain ⟨s1, s2, s3⟩ := t1 0 (by omega)
      rw [eW, ea]
      exact (ton_boat h hq hz h7 h9 hb s1 s2 (j := 0) (by omega)).1
    · obtain ⟨s1, s2, s3⟩ := t1 i hi
      have tb := ton_boat h hq hz h7 h9 hb s1 s2 hj
      rw [s3, ← ea, ← eW] at tb
      exact tb.2
  obtain ⟨c, fc, eb, c4⟩ := bb_fa hT n3 n16 t0
  rw [eb, nI_clamp (by omega)] at e8
  obtain ⟨v1, v2, v3⟩ := ts_v (M := M) (q := q) (z := z) n16 3 (by decide)
  rw [← eX] at v1 v2 v3
  have x14 : X 214 = M 214 := v2.1 214 (by omega)
  have x01 : X 201 = M 201 := by rw [eX]; exact tsN_off (by decide) (by decide) (by decide) (by decide) 3
  have sc := li_sc (X := X) (P := M 214) n3 n16 x14 v1 (n * n * n) (Nat.le_refl _)
  have ex : ∃ k, FA (Vm (M 214) n) (Sm (M 214) (fun s j => pS (P9 M q z s j)) n) (Sm (M 214) (P8 M q z) n) (n * n * n) k ∧ (liE X n).1 = nI k ∧ (liE X n).2.1 = Sm (M 214) (fun s j => pS (P9 M q z s j)) n k ∧ (liE X n).2.2.1 = Sm (M 214) (P8 M q z) n k := by
    rcases sc with ⟨-, g⟩ | g
    · obtain ⟨k, k1, k2⟩ := t4 c fc.1 fc.2.1
      exact absurd k2 (g k k1)
    · exact g
  obtain ⟨k, fk, l1, l2, l3⟩ := ex
  have fp := t2 k fk
  have ec : c = p k := fa_un fc fp
  have dg1 := t3 k fk.1 fk.2.1
  have sumA : Sm (M 214) (fun s j => pS (P9 M q z s j)) n k = Ac (fun i j => P9 M q z (sh i) j) n a c ∧ Sm (M 214) (P8 M q z) n k = Bc (fun i j => P8 M q z (sh i) j) n a c := by
    rw [ec]
    exact t5 k fk.1 fk.2.1
  have o8 : ∀ e, e ≠ 101 → e ≠ 104 + 2 * r → e ≠ 104 + 2 * r + 1 → D8 e = W e := fun e g1 g2 g3 => by
    rw [e8, rwN_off g3, nuN_off g2 g3, spF_off g1, bbI_off g1]
  have d101 : ∀ i, i < a → D8 101 i = nI (gd n a c i) := fun i hi => by
    rw [e8, rwN_off (by omega), nuN_off (by omega) (by omega)]
    exact spF_at a (Nat.le_refl a) hi (by omega)
  obtain ⟨-, ev1, ev2⟩ := ev_c (X := D8) (c := c) hT n3 n16 t0 (fun e he => o8 e (by omega) (by omega) (by omega)) d101
  have a3 : a ≤ 3 := by omega
  rw [ev1, ev2]
  have rsv := rs_v (J := flw (lib (liE X n).2.2.2 (nI n) (liE X n).1) 203 (60 * r) 60 (fun _ => 0)) (r := r) (P := M 214) (by
    rw [flw_off (by decide), l1, lib_e n3 n16 fk.1, li3_off (by decide)]
    unfold liE
    rw [liN_off (by decide), x14]) 3 (by decide)
  have oE : ∀ e, e ≠ 200 → e ≠ 202 → e ≠ 203 → e ≠ 221 → liI X n r e = X e := fun e g1 g2 g3 g4 => by
    unfold liI liR
    rw [up2_off g1, up2_off g2, rsN_off g3, flw_off g3, l1, lib_e n3 n16 fk.1, li3_off g4]
    unfold liE
    rw [liN_off g4]
  have o200 : ∀ j, j ≠ 2 → liI X n r 200 j = X 200 j := fun j hj => by
    unfold liI liR
    rw [u2_j hj, up2_off (by decide), rsN_off (by decide), flw_off (by decide), l1, lib_e n3 n16 fk.1, li3_off (by decide)]
    unfold liE
    rw [liN_off (by decide)]
  have oD : ∀ e, e ≠ 0 → (f_X11_tell D8 (Bc (fun i j => P8 M q z (sh i) j) n a c) (Ac (fun i j => P9 M q z (sh i) j) n a c)).2 e = D8 e := fun e he => up2_off he
  have oD0 : ∀ j, j ≠ 18 → (f_X11_tell D8 (Bc (fun i j => P8 M q z (sh i) j) n a c) (Ac (fun i j => P9 M q z (sh i) j) n a c)).2 0 j = D8 0 j := fun j hj => u2_j hj
  refine sm_mk2 (l2.trans sumA.1).symm (Rel_row (q := r) hr h (fun e g1 g2 => ?_) ?_ (fun e he => ?_) (fun j hj => ?_) ?_ ?_ ?_ ?_ ?_) (fun e he => ?_) (fun e he => ?_)
  · rw [oD e (by omega), o8 e (by omega) (by omega) (by omega), hW e (by omega)]
  · rw [oD0 16 (by decide), o8 0 (by omega) (by omega) (by omega), hW 0 (by omega)]
  · rw [oE e (by omega) (by omega) (by omega) (by omega)]
    exact v2.1 e (by omega)
  · rw [oE 217 (by decide) (by decide) (by decide) (by decide)]
    exact v2.2.1 j hj
  · rw [o200 37 (by decide)]
    exact v2.2.2
  · intro k' hk ek
    unfold liI liR
    rw [up2_off (by decide), u2_j ek, rsN_off (by decide), flw_off (by decide), l1, lib_e n3 n16 fk.1, li3_off (by decide)]
    unfold liE
    rw [liN_off (by decide), v2.1 202 (by omega)]
  · intro k' i hk ek hi
    have := rsv.2.2 (60 * k' + i) (by omega)
    unfold liI liR
    rw [up2_off (by decide), up2_off (by decide), this, flw_out (by omega), l1, lib_e n3 n16 fk.1, li3_off (by decide)]
    unfold liE
    rw [liN_off (by decide), v2.1 203 (by omega)]
  · have s1 : D8 (104 + 2 * r) 1 = nI a ∧ D8 (104 + 2 * r) 2 = 1 := by
      rw [e8, rwN_off (by omega)]
      exact nu_s
    refine RowR.mk ⟨a, by omega, by rw [oD _ (by omega)]; exact s1.1⟩ (Or.inr ⟨by rw [oD _ (by omega)]; exact s1.2, ?_, ?_⟩)
    · rw [oD _ (by omega), s1.1]
      unfold liI liR
      rw [up2_off (by decide), u2_s, rsv.1, ← ea]
    · rw [oD _ (by omega), s1.1, nI_clamp (by omega)]
      intro i hi
      obtain ⟨s4, s5, s6⟩ := t1 i hi
      have := rsv.2.1 (sh i) s4 s5
      rw [s6] at this
      unfold liI liR
      rw [oD _ (by omega), up2_off (by decide), up2_off (by decide), this, flw_off (by decide), l1, lib_e n3 n16 fk.1, li3_e s4, ← dg1 i hi, ← ec]
      rw [e8, rw_at (by omega) a i hi, nuN_off (by omega) (by omega)]
      exact spF_at a (Nat.le_refl a) hi (by omega)
  · refine FndR.mk ?_ ?_ ?_
    · rw [oD0 17 (by decide), o200 0 (by decide), o8 0 (by omega) (by omega) (by omega), hW 0 (by omega), v3 0 (by decide) (by decide) (by decide)]
      exact h.fnd.la
    · rw [oD 102 (by decide), oE 201 (by decide) (by decide) (by decide) (by decide), o8 102 (by omega) (by omega) (by omega), hW 102 (by omega), x01]
      exact h.fnd.co
    · have e2 : liI X n r 200 2 = (liE X n).2.2.1 := by
        unfold liI
        exact u2_s
      rw [e2, l3, sumA.2]
      unfold f_X11_tell
      dsimp only
      exact u2_s
  · rw [oD e (by omega), o8 e (by omega) (by omega) (by omega), hW e (by omega)]
  · rw [oE e (by omega) (by omega) (by omega) (by omega)]
    exact v2.1 e (by omega)
theorem K_tonight {k z r : Int32} (h : RelP C M) : Same C M (f_X11_tonight C k z r) (f_X12_tonight M k z r) := by
  unfold f_X11_tonight f_X12_tonight
  dsimp only
  by_cases c1 : b2i (0 ≤ k ∧ k ≤ 3) = 0
  · simp only [if_pos c1]
    exact sm_v h
  by_cases c2 : b2i (0 ≤ z ∧ z ≤ 3) = 0
  · simp only [if_neg c1, if_pos c2]
    exact sm_v h
  by_cases c0 : b2i (0 ≤ r ∧ r ≤ 5) = 0
  · simp only [if_neg c1, if_neg c2, if_pos c0]
    exact sm_v h
  obtain ⟨qk, vk⟩ := cl_lt (N := 4) (by decide) c1
  obtain ⟨qz, vz⟩ := cl_lt (N := 4) (by decide) c2
  obtain ⟨qr, vr⟩ := cl_lt (N := 6) (by decide) c0
  rw [if_neg c1, if_neg c1, if_neg c2, if_neg c2, if_neg c0, if_neg c0, (h.har _ qk).e, (h.sea _ qz).e]
  by_cases c3 : M 207 k.toNatClampNeg = 0
  · rw [if_pos c3, if_pos c3]
    exact sm_1 h
  by_cases c4 : M 209 z.toNatClampNeg = 0
  · rw [if_neg c3, if_neg c3, if_pos c4, if_pos c4]
    exact sm_1 h
  rw [if_neg c3, if_neg c3, if_neg c4, if_neg c4]
  obtain ⟨⟨n, mo, hb⟩, -⟩ := (h.har _ qk).th c3
  have n16 := hb.n16
  have e0 : M 208 (21 * k.toNatClampNeg) = nI n := hb.h0
  have ct : cntN (fun q => C (144 + q) 0) 3 = cntN (M 214) 3 := cntN_congr 3 (fun i hi => (h.shp i (by omega)).e)
  have cle := cntN_le (f := M 214) 3
  have e3 : cntN (M 214) 3 = if M 214 2 = 0 then (if M 214 1 = 0 then (if M 214 0 = 0 then 0 else 1) else (if M 214 0 = 0 then 0 else 1) + 1) else (if M 214 1 = 0 then (if M 214 0 = 0 then 0 else 1) else (if M 214 0 = 0 then 0 else 1) + 1) + 1 := by rw [cntN_s, cntN_s, cntN_s, cntN_0]
  rw [(ixz (c := 21) (C := 21) (R := 4) rfl (by decide) vk (by decide)).2, e0, hb.ce, count_2, ct, nI_clamp (show n < 2 ^ 31 by omega), nI_clamp (show cntN (M 214) 3 < 2 ^ 31 by omega)]
  by_cases c5 : cntN (M 214) 3 = 0
  · have z3 : M 214 0 = 0 ∧ M 214 1 = 0 ∧ M 214 2 = 0 := by
      rw [e3] at c5
      by_cases p0 : M 214 0 = 0 <;> by_cases p1 : M 214 1 = 0 <;> by_cases p2 : M 214 2 = 0 <;> simp [p0, p1, p2] at c5 ⊢
    rw [c5, if_neg (show ¬ (1 : Int32) ≤ nI 0 by decide), if_pos (show M 214 (0 : Int32).toNatClampNeg = 0 from z3.1), if_pos (show M 214 (1 : Int32).toNatClampNeg = 0 from z3.2.1), if_pos (show M 214 (2 : Int32).toNatClampNeg = 0 from z3.2.2)]
    exact sm_v h
  · rw [if_pos (show (1 : Int32) ≤ nI (cntN (M 214) 3) from nI_le (a := 1) (by omega) (by omega))]
    have key := ton_main (r := r.toNatClampNeg) h qk qz qr c3 c4 hb c5 rfl rfl rfl rfl
    by_cases p0 : M 214 (0 : Int32).toNatClampNeg = 0
    · rw [if_pos p0]
      by_cases p1 : M 214 (1 : Int32).toNatClampNeg = 0
      · rw [if_pos p1]
        by_cases p2 : M 214 (2 : Int32).toNatClampNeg = 0
        · refine absurd ?_ c5
          rw [e3, if_pos (show M 214 0 = 0 from p0), if_pos (show M 214 1 = 0 from p1), if_pos (show M 214 2 = 0 from p2)]
        · rw [if_neg p2]
          exact key
      · rw [if_neg p1]
        exact key
    · rw [if_neg p0]
      exact key
end
end R43
