section R39
variable {G : Gp} {I : Im} {L : Nat → Nat → Int64} {t : Nat}
section
variable {C M D E : Im}
theorem mr_keep {J : Im} {s m0 : Nat} {c g : Nat → Int32} (h : J 24 2 = nI m0) : ∀ k, m0 + k ≤ 48 → ∀ b, b < m0 → mrN J s c g k (37 + b) = J (37 + b) := by
  intro k
  induction k with
  | zero =>
    intro _ b hb
    rw [mrN_0]
  | succ k ih =>
    intro hk b hb
    rw [mrN_s, mrN_m h k (by omega), nI_clamp (by omega), moorI_off (by omega) (by omega)]
    exact ih (by omega) b hb
theorem cnt_up {f : Nat → Int32} : ∀ k s, s < k → ¬ f s = 0 → cntN f s + 1 ≤ cntN f k := by
  intro k
  induction k with
  | zero => intro s hs; exact absurd hs (Nat.not_lt_zero s)
  | succ k ih =>
    intro s hs hf
    rw [cntN_s]
    by_cases e : s = k
    · subst e
      rw [if_neg hf]
      exact Nat.le_refl _
    · have := ih s (by omega) hf
      split
      · exact this
      · omega
theorem tm_b {J : Im} {n : Nat} (hn : n ≤ 16) (h : J 24 2 = nI 0) : ∀ k, k ≤ 3 → ∀ s, s < k → ¬ J (144 + s) 0 = 0 → ∀ j, j < n → ∀ i, i ≤ 9 → tmN J n k (37 + (cntN (fun q => J (144 + q) 0) s * n + j)) i = if i = 6 ∨ i = 7 ∨ i = 8 then 0 else if i = 9 then -9 else if i = 1 then nI j else if i = 3 then J (144 + s) 3 else J (144 + s) i := by
  intro k
  induction k with
  | zero => intro _ s hs; exact absurd hs (Nat.not_lt_zero s)
  | succ k ih =>
    intro hk s hs hp j hj i hi
    obtain ⟨a1, a2⟩ := tmN_all hn h k (by omega)
    have cle := cntN_le (f := fun q => J (144 + q) 0) k
    have m48 : cntN (fun q => J (144 + q) 0) k * n + n ≤ 48 := by
      have h1 : (cntN (fun q => J (144 + q) 0) k + 1) * n ≤ 3 * n := Nat.mul_le_mul_right n (by omega)
      have h2 : (cntN (fun q => J (144 + q) 0) k + 1) * n = cntN (fun q => J (144 + q) 0) k * n + n := by rw [Nat.add_mul, Nat.one_mul]
      omega
    rw [tmN_s, a1 (144 + k) (by omega)]
    by_cases e : s = k
    · subst e
      rw [if_neg hp, mr_b a2 (by omega) n m48 j hj i hi, a1 (144 + s) (by omega)]
    · split
      · exact ih (by omega) s (by omega) hp j hj i hi
      · have up := cnt_up (f := fun q => J (144 + q) 0) k s (by omega) hp
        have lt : cntN (fun q => J (144 + q) 0) s * n + j < cntN (fun q => J (144 + q) 0) k * n := by
          have h1 : (cntN (fun q => J (144 + q) 0) s + 1) * n ≤ cntN (fun q => J (144 + q) 0) k * n := Nat.mul_le_mul_right n up
          have h2 : (cntN (fun q => J (144 + q) 0) s + 1) * n = cntN (fun q => J (144 + q) 0) s * n + n := by rw [Nat.add_mul, Nat.one_mul]
          omega
        rw [mr_keep a2 n m48 _ lt]
        exact ih (by omega) s (by omega) hp j hj i hi
def P8 (M : Im) (q z s j : Nat) : Int32 := plD M s q z (nI j) (M 215 (5 * s + 2)) (95 + 10 * s + 8)
def P9 (M : Im) (q z s j : Nat) : Int32 := plD M s q z (nI j) (M 215 (5 * s + 2)) (95 + 10 * s + 9)
theorem cnt_pr (h : RelP C M) : ∀ k, k ≤ 3 → cntN (fun q => up2 C 24 2 0 (144 + q) 0) k = cntN (M 214) k := fun k hk => cntN_congr k (fun i hi => by
  rw [up2_off (by omega)]
  exact (h.shp i (by omega)).e)
theorem ton_boat {q z n mo s j : Nat} (h : RelP C M) (hq : q < 4) (hz : z < 4) (h7 : ¬ M 207 q = 0) (h9 : ¬ M 209 z = 0) (hb : BaR C (124 + 2 * q) (fun p => M 208 (21 * q + p)) n mo) (hs : s < 3) (h4 : ¬ M 214 s = 0) (hj : j < n) : wakeI (tmN (up2 C 24 2 0) n 3) (124 + 2 * q) (132 + 3 * z) 24 2 = nI (cntN (M 214) 3 * n) ∧ pullV (wakeI (tmN (up2 C 24 2 0) n 3) (124 + 2 * q) (132 + 3 * z)) 24 (cntN (M 214) 3 * n) (cntN (M 214) s * n + j) = P8 M q z s j ∧ partV (wakeI (tmN (up2 C 24 2 0) n 3) (124 + 2 * q) (132 + 3 * z)) 24 (cntN (M 214) 3 * n) (cntN (M 214) s * n + j) = P9 M q z s j := by
  have n16 := hb.n16
  have h24 : up2 C 24 2 0 24 2 = nI 0 := u20
  obtain ⟨a1, a2⟩ := tmN_all n16 h24 3 (by decide)
  rw [cnt_pr h 3 (by decide)] at a2
  obtain ⟨x0, -⟩ := (h.shp _ hs).th h4
  have e3 : C (144 + s) 3 = M 215 (5 * s + 2) := x0 2 (by decide)
  have e0 : M 208 (21 * q) = nI n := hb.h0
  have ux : ∀ e, e ≠ 24 → up2 C 24 2 0 e = C e := fun e he => up2_off he
  have up := cnt_up (f := M 214) 3 s hs h4
  have cle := cntN_le (f := M 214) 3
  have lt : cntN (M 214) s * n + j < cntN (M 214) 3 * n := by
    have h1 : (cntN (M 214) s + 1) * n ≤ cntN (M 214) 3 * n := Nat.mul_le_mul_right n up
    have h2 : (cntN (M 214) s + 1) * n = cntN (M 214) s * n + n := by rw [Nat.add_mul, Nat.one_mul]
    omega
  have m48 : cntN (M 214) 3 * n ≤ 48 := by
    have h1 : cntN (M 214) 3 * n ≤ 3 * n := Nat.mul_le_mul_right n cle
    omega
  have tb := tm_b n16 h24 3 (by decide) s hs (by rw [ux _ (by omega), (h.shp _ hs).e]; exact h4) j hj
  rw [cnt_pr h s (by omega)] at tb
  exact trial_boat (X := tmN (up2 C 24 2 0) n 3) (m := cntN (M 214) 3 * n) (b := cntN (M 214) s * n + j) (cc := j) (g := M 215 (5 * s + 2)) h hs hq hz h4 h7 h9 (fun e he => by rw [a1 e (by omega), ux e (by omega)]) a2 m48 lt (by rw [e0]; exact nI_lt hj (by omega)) (by omega) (fun i hi => by rw [tb i hi, ux _ (by omega), e3])
theorem tf_v {I : Im} {s q z : Nat} : ∀ k, k ≤ 16 → (∀ j, j < k → tfN I s q z k 219 (16 * s + j) = P8 I q z s j ∧ tfN I s q z k 220 (16 * s + j) = if P9 I q z s j = -9 then 0 else 1) ∧ (∀ i, i < 16 * s ∨ 16 * s + 16 ≤ i → tfN I s q z k 219 i = I 219 i ∧ tfN I s q z k 220 i = I 220 i) ∧ FrM (tfN I s q z k) I ∧ ∀ j, j ≠ 24 → j ≠ 32 → j ≠ 33 → tfN I s q z k 200 j = I 200 j := by
  intro k
  induction k with
  | zero =>
    intro _
    rw [tfN_0]
    exact ⟨fun j hj => absurd hj (Nat.not_lt_zero j), fun i hi => ⟨rfl, rfl⟩, FrM.refl, fun _ _ _ _ => rfl⟩
  | succ k ih =>
    intro hk
    obtain ⟨i1, i2, i3, i4⟩ := ih (by omega)
    have o5 : tfN I s q z k 215 = I 215 := tfN_off (by decide) (by decide) (by decide) (by decide) k
    have pc : ∀ c g, plD (tfN I s q z k) s q z c g = plD I s q z c g := fun c g => plD_c (tfN_off (by decide) (by decide) (by decide) (by decide) k) (tfN_off (by decide) (by decide) (by decide) (by decide) k) (tfN_off (by decide) (by decide) (by decide) (by decide) k) o5
    rw [tfN_s, plI_t, plI_p, pc, o5]
    refine ⟨fun j hj => ?_, fun i hi => ?_, ?_, fun j g1 g2 g3 => ?_⟩
    · by_cases e : j = k
      · subst e
        rw [up2_off (by decide), u2_s, u2_s]
        exact ⟨rfl, rfl⟩
      · rw [up2_off (by decide), u2_j (by omega), u2_j (by omega), up2_off (by decide), plI_off (by decide) (by decide), plI_off (by decide) (by decide)]
        exact i1 j (by omega)
    · rw [up2_off (by decide), u2_j (by omega), u2_j (by omega), up2_off (by decide), plI_off (by decide) (by decide), plI_off (by decide) (by decide)]
      exact i2 i hi
    · exact FrM.trans (FrM.trans (FrM.trans i3 FrM.pl) (FrM.up (by omega))) (FrM.up (by omega))
    · rw [up2_off (by decide), up2_off (by decide), pl_200 g1 g2 g3]
      exact i4 j g1 g2 g3
theorem P_c {I J : Im} {q z s j : Nat} (h8 : J 208 = I 208) (h0 : J 210 = I 210) (h1 : J 211 = I 211) (h5 : J 215 = I 215) : P8 J q z s j = P8 I q z s j ∧ P9 J q z s j = P9 I q z s j := by
  unfold P8 P9
  rw [plD_c h8 h0 h1 h5, h5]
  exact ⟨rfl, rfl⟩
theorem ts_v {q z n : Nat} (hn : n ≤ 16) : ∀ k, k ≤ 3 → (∀ s, s < k → ¬ M 214 s = 0 → ∀ j, j < n → tsN M q z n k 219 (16 * s + j) = P8 M q z s j ∧ tsN M q z n k 220 (16 * s + j) = if P9 M q z s j = -9 then 0 else 1) ∧ FrM (tsN M q z n k) M ∧ ∀ j, j ≠ 24 → j ≠ 32 → j ≠ 33 → tsN M q z n k 200 j = M 200 j := by
  intro k
  induction k with
  | zero =>
    intro _
    rw [tsN_0]
    exact ⟨fun s hs => absurd hs (Nat.not_lt_zero s), FrM.refl, fun _ _ _ _ => rfl⟩
  | succ k ih =>
    intro hk
    obtain ⟨i1, i2, i3⟩ := ih (by omega)
    rw [tsN_s, tsN_off (by decide) (by decide) (by decide) (by decide) k]
    by_cases c : M 214 k = 0
    · rw [if_pos c]
      refine ⟨fun s hs h4 j hj => ?_, i2, i3⟩
      have : s ≠ k := fun e => h4 (by rw [e]; exact c)
      exact i1 s (by omega) h4 j hj
    · rw [if_neg c]
      obtain ⟨t1, t2, t3, t4⟩ := tf_v (I := tsN M q z n k) (s := k) (q := q) (z := z) n hn
      refine ⟨fun s hs h4 j hj => ?_, FrM.trans i2 t3, fun j g1 g2 g3 => (t4 j g1 g2 g3).trans (i3 j g1 g2 g3)⟩
      by_cases e : s = k
      · subst e
        obtain ⟨p1, p2⟩ := P_c (I := M) (J := tsN M q z n s) (q := q) (z := z) (s := s) (j := j) (tsN_off (by decide) (by decide) (by decide) (by decide) s) (tsN_off (by decide) (by decide) (by decide) (by decide) s) (tsN_off (by decide) (by decide) (by decide) (by decide) s) (tsN_off (by decide) (by decide) (by decide) (by decide) s)
        obtain ⟨r1, r2⟩ := t1 j hj
        rw [r1, r2, p1, p2]
        exact ⟨rfl, rfl⟩
      · obtain ⟨r1, r2⟩ := t2 (16 * s + j) (by omega)
        rw [r1, r2]
        exact i1 s (by omega) h4 j hj
end
end R39
