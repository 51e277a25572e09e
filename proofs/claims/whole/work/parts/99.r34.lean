section R34
variable {G : Gp} {I : Im} {L : Nat → Nat → Int64} {t : Nat}
section
variable {N : Nat → Int32} {n mo c : Nat}
theorem st_int (hw : WfN N n mo c) (hx : HaX N) (hs : ∀ i, i < c → ∃ a, a ≤ 99 ∧ N (23 + 2 * i) = nI a) (hb : ∀ i, i < n → (-4000000 ≤ hI N n i ∧ hI N n i ≤ 4000000) ∧ -4000000 ≤ fI N n i ∧ fI N n i ≤ 4000000) (hz : ∀ i, i + 1 < n → isW N i → N (47 + i) = 0) : StI (hI N n) (fI N n) (hI (secN N n mo c) n) (fI (secN N n mo c) n) (oI N n) (N 3).toInt (N 2).toInt (puN (s1N N n) (N 30) c).toInt mo n ∧ -400 ≤ (puN (s1N N n) (N 30) c).toInt ∧ (puN (s1N N n) (N 30) c).toInt ≤ 400 := by
  have n16 := hw.1.2
  have mn := hw.2.2.1.1
  have c4 := hw.2.2.2.1.1
  obtain ⟨g0, g9⟩ := ha_g hx
  have pb := pu_b (N := s1N N n) (c := c) (s := N 30) (fun i hi => by rw [s1_o (by omega)]; exact hs i hi) c4 c (Nat.le_refl c)
  have F2e : ∀ i, i + 1 < n → fI (secN N n mo c) n i = (flV N i).toInt := fun i hi => by
    unfold fI
    rw [if_pos hi, sec_f hi mn n16]
  refine ⟨⟨fun i hi => ?_, ?_, fun i hi => ?_⟩, by omega, by omega⟩
  · rw [F2e i hi]
    exact (fl_int hx n16 hb hz hi).1
  · unfold fI
    rw [if_neg (by omega)]
  · obtain ⟨⟨a1, a2⟩, -, -⟩ := hb i hi
    have eh : (N (31 + i)).toInt = hI N n i := (if_pos hi).symm
    have e1 : (if i = 0 then (0 : Int32) else flV N (i - 1)).toInt = prI (fI (secN N n mo c) n) i ∧ -9000000 ≤ prI (fI (secN N n mo c) n) i ∧ prI (fI (secN N n mo c) n) i ≤ 9000000 := by
      unfold prI
      by_cases e : i = 0
      · rw [if_pos e, if_pos e]
        decide
      · rw [if_neg e, if_neg e, F2e _ (by omega)]
        exact ⟨rfl, (fl_int hx n16 hb hz (show i - 1 + 1 < n by omega)).2⟩
    have e2 : (if i + 1 < n then flV N i else (0 : Int32)).toInt = fI (secN N n mo c) n i ∧ -9000000 ≤ fI (secN N n mo c) n i ∧ fI (secN N n mo c) n i ≤ 9000000 := by
      by_cases e : i + 1 < n
      · rw [if_pos e, F2e _ e]
        exact ⟨rfl, (fl_int hx n16 hb hz e).2⟩
      · rw [if_neg e]
        unfold fI
        rw [if_neg e]
        decide
    have d1 := i_add eh e1.1 (by omega) (by omega)
    have d2 : (hX N n i).toInt = kI (hI N n) (fI (secN N n mo c) n) i := i_sub d1 e2.1 (by omega) (by omega)
    have kb : -22000000 ≤ kI (hI N n) (fI (secN N n mo c) n) i ∧ kI (hI N n) (fI (secN N n mo c) n) i ≤ 22000000 := by
      unfold kI
      omega
    have eH : hI (secN N n mo c) n i = (hY N n mo c i).toInt := by
      unfold hI
      rw [if_pos hi, sec_h hi mn n16]
    rw [eH]
    unfold hY
    generalize kI (hI N n) (fI (secN N n mo c) n) i = k at d2 kb
    by_cases e : i = mo
    · rw [if_pos e, if_pos e]
      have m1 := mul_b (d := (puN (s1N N n) (N 30) c).toInt - k) (o := (N 2).toInt) (D := 22000400) (by omega) (by omega) g0 g9
      have t1 := td_e (((puN (s1N N n) (N 30) c).toInt - k) * (N 2).toInt) (d := 16) (by decide)
      have d3 := i_sub (a := puN (s1N N n) (N 30) c) rfl d2 (by omega) (by omega)
      have d4 := i_mul (b := N 2) d3 rfl (by omega) (by omega)
      have d5 := i_16 d4 (by omega) (by omega)
      exact i_add d2 d5 (by omega) (by omega)
    · rw [if_neg e, if_neg e, d2]
      omega
theorem secI_p (hn : n ≤ 16) (hm : mo < n) {p : Nat} (hp : p < 30) : ∀ k, secI N n mo c k p = N p := by
  intro k
  induction k with
  | zero => rw [secI_0]
  | succ k ih => rw [secI_s, secN_c hn hm hp, ih]
theorem secI_30 : ∀ k, N 30 = 0 → secI N n mo c k 30 = nI k := by
  intro k h
  induction k with
  | zero => rw [secI_0, h]; rfl
  | succ k ih =>
    rw [secI_s]
    unfold secN
    rw [upn_s, ih, nI_1]
theorem opM_c {K : Nat → Int32} (h : ∀ p, p < 30 → K p = N p) {i : Nat} (hi : i < 16) : opM K i = opM N i ∧ (isW K i ↔ isW N i) := by
  unfold opM isW
  rw [h 4 (by decide), h (5 + i) (by omega), h (5 + i + 1) (by omega)]
  exact ⟨rfl, Iff.rfl⟩
theorem HaX_30 {K : Nat → Int32} (h : ∀ p, p < 30 → K p = N p) (hx : HaX N) : HaX K := HaX_H hx (fun p hp => h p (by omega))
theorem en_k (hw : WfN N n mo c) (hx : HaX N) (hs : ∀ i, i < c → ∃ a, a ≤ 99 ∧ N (23 + 2 * i) = nI a) (h0 : ∀ p, 30 ≤ p → p < 95 → N p = 0) : ∀ k, k ≤ 300 → En (oI N n) (N 3).toInt (N 2).toInt mo n (hI (secI N n mo c k) n) (fI (secI N n mo c k) n) ≤ ((k : Rat) + 1) * ((k : Rat) + 1) * 33600000 ∧ (∀ i, i + 1 < n → isW N i → secI N n mo c k (47 + i) = 0) ∧ ∀ i, i < n → (-4000000 ≤ hI (secI N n mo c k) n i ∧ hI (secI N n mo c k) n i ≤ 4000000) ∧ -4000000 ≤ fI (secI N n mo c k) n i ∧ fI (secI N n mo c k) n i ≤ 4000000 := by
  have n3 := hw.1.1
  have n16 := hw.1.2
  have mn := hw.2.2.1.1
  obtain ⟨g0, g9⟩ := ha_g hx
  obtain ⟨r0, r9⟩ := ha_r hx
  have bnd : ∀ k : Nat, k ≤ 300 → En (oI N n) (N 3).toInt (N 2).toInt mo n (hI (secI N n mo c k) n) (fI (secI N n mo c k) n) ≤ ((k : Rat) + 1) * ((k : Rat) + 1) * 33600000 → ∀ i, i < n → (-4000000 ≤ hI (secI N n mo c k) n i ∧ hI (secI N n mo c k) n i ≤ 4000000) ∧ -4000000 ≤ fI (secI N n mo c k) n i ∧ fI (secI N n mo c k) n i ≤ 4000000 := by
    intro k hk hE
    refine en_bnd (mo := mo) (by omega) r0 r9 g0 g9 (oI_b hx n16) ?_ ?_
    · unfold fI
      rw [if_neg (by omega)]
    · have k1 : (k : Rat) ≤ 300 := ca_le (x := (k : Int)) (k := 300) (by omega)
      have k0 : (0 : Rat) ≤ (k : Rat) := ca_le (x := 0) (k := (k : Int)) (by omega)
      have q : 0 ≤ (300 - (k : Rat)) * (302 + (k : Rat)) := Rat.mul_nonneg (by grind) (by grind)
      grind
  intro k
  induction k with
  | zero =>
    intro _
    have e1 : hI (secI N n mo c 0) n = fun _ => 0 := by
      funext i
      unfold hI
      split
      · rw [secI_0, h0 _ (by omega) (by omega)]
        rfl
      · rfl
    have e2 : fI (secI N n mo c 0) n = fun _ => 0 := by
      funext i
      unfold fI
      split
      · rw [secI_0, h0 _ (by omega) (by omega)]
        rfl
      · rfl
    have e3 : En (oI N n) (N 3).toInt (N 2).toInt mo n (hI (secI N n mo c 0) n) (fI (secI N n mo c 0) n) ≤ (((0 : Nat) : Rat) + 1) * (((0 : Nat) : Rat) + 1) * 33600000 := by
      rw [e1, e2]
      unfold En
      have : ∀ j, sR (eT (PR (N 2).toInt mo) (bR (N 3).toInt) (wR (oI N n)) (fun _ => ((0 : Int) : Rat)) (fun _ => ((0 : Int) : Rat))) j = 0 := by
        intro j
        induction j with
        | zero => rfl
        | succ j ih =>
          show sR (eT (PR (N 2).toInt mo) (bR (N 3).toInt) (wR (oI N n)) (fun _ => ((0 : Int) : Rat)) (fun _ => ((0 : Int) : Rat))) j + eT (PR (N 2).toInt mo) (bR (N 3).toInt) (wR (oI N n)) (fun _ => ((0 : Int) : Rat)) (fun _ => ((0 : Int) : Rat)) j = 0
          rw [ih]
          unfold eT
          dsimp only
          have z : ((0 : Int) : Rat) = 0 := rfl
          rw [z]
          grind
      rw [this]
      have z : ((0 : Nat) : Rat) = 0 := rfl
      rw [z]
      grind
    refine ⟨e3, fun i hi _ => ?_, bnd 0 (by decide) e3⟩
    rw [secI_0]
    exact h0 _ (by omega) (by omega)
  | succ k ih =>
    intro hk
    obtain ⟨i1, i2, i3⟩ := ih (by omega)
    have kc : ∀ p, p < 30 → secI N n mo c k p = N p := fun p hp => secI_p n16 mn hp k
    have hwk := WfN_i hw k
    have hxk := HaX_30 kc hx
    have st := st_int hwk hxk (fun i hi => by rw [kc _ (by have := hw.2.2.2.1.1; omega)]; exact hs i hi) i3 (fun i hi w => i2 i hi ((opM_c kc (by omega)).2.mp w))
    have eo : oI (secI N n mo c k) n = oI N n := by
      funext i
      unfold oI
      by_cases e : i + 1 < n
      · rw [if_pos e, if_pos e, (opM_c kc (by omega)).1]
      · rw [if_neg e, if_neg e]
    rw [eo, kc 3 (by decide), kc 2 (by decide), ← secI_s] at st
    have k0 : (0 : Rat) ≤ (k : Rat) := ca_le (x := 0) (k := (k : Int)) (by omega)
    have E := en_int (t := (k : Rat) + 1) (by omega) n16 (by grind) r0 r9 g0 g9 st.2.1 st.2.2 (oI_b hx n16) (by unfold oI; rw [if_neg (by omega)]) (fun i z => by
      by_cases e : i + 1 < n
      · unfold fI
        rw [if_pos e, i2 i e (oI_z hx n16 e z)]
        rfl
      · unfold fI
        rw [if_neg e]) st.1 i1
    have ck : ((k + 1 : Nat) : Rat) = (k : Rat) + 1 := by grind
    rw [← ck] at E
    refine ⟨E, fun i hi w => ?_, bnd (k + 1) hk E⟩
    rw [secI_s, sec_f hi mn n16]
    unfold flV
    exact if_neg (b2i_n0.mpr ((opM_c kc (by omega)).2.mpr w))
/-- the heights stay small -/
theorem h_small (hw : WfN N n mo c) (hx : HaX N) (hs : ∀ i, i < c → ∃ a, a ≤ 99 ∧ N (23 + 2 * i) = nI a) (h0 : ∀ p, 30 ≤ p → p < 95 → N p = 0) {k j : Nat} (hk : k ≤ 300) (hj : j < n) : -4000000 ≤ (secI N n mo c k (31 + j)).toInt ∧ (secI N n mo c k (31 + j)).toInt ≤ 4000000 := by
  have := ((en_k hw hx hs h0 k hk).2.2 j hj).1
  unfold hI at this
  rw [if_pos hj] at this
  exact this
theorem r_small (hw : WfN N n mo c) (hx : HaX N) (hs : ∀ i, i < c → ∃ a, a ≤ 99 ∧ N (23 + 2 * i) = nI a) (h0 : ∀ p, 30 ≤ p → p < 95 → N p = 0) {j : Nat} (hj : j < n) : ∀ k, k < 300 → -4000000 ≤ (secI N n mo c (k + 1) (63 + j)).toInt ∧ (secI N n mo c (k + 1) (63 + j)).toInt ≤ (secI N n mo c (k + 1) (79 + j)).toInt ∧ (secI N n mo c (k + 1) (79 + j)).toInt ≤ 4000000 := by
  have n16 := hw.1.2
  have mn := hw.2.2.1.1
  intro k
  induction k with
  | zero =>
    intro _
    have b := h_small hw hx hs h0 (k := 0 + 1) (by decide) hj
    rw [secI_s, sec_h hj mn n16] at b
    rw [secI_s, sec_lo hj mn n16, sec_hi hj mn n16, secI_0, if_pos (h0 30 (by decide) (by decide)), if_pos (h0 30 (by decide) (by decide))]
    rw [secI_0] at b
    omega
  | succ k ih =>
    intro hk
    have i0 := ih (by omega)
    have b := h_small hw hx hs h0 (k := k + 1 + 1) (by omega) hj
    rw [secI_s, sec_h hj mn n16] at b
    have z : ¬ secI N n mo c (k + 1) 30 = 0 := by
      rw [secI_30 _ (h0 30 (by decide) (by decide))]
      exact fun q => absurd ((nI_eq (a := k + 1) (b := 0) (by omega) (by decide)).mp q) (by omega)
    rw [secI_s, sec_lo hj mn n16, sec_hi hj mn n16, if_neg z, if_neg z]
    generalize hY (secI N n mo c (k + 1)) n mo c j = v at b
    have a1 : ∀ x y : Int32, x < y ↔ x.toInt < y.toInt := fun x y => Int32.lt_iff_toInt_lt
    split <;> split <;> (rename_i h1 h2; rw [a1] at h1 h2; omega)
theorem rg_nn (hw : WfN N n mo c) (hx : HaX N) (hs : ∀ i, i < c → ∃ a, a ≤ 99 ∧ N (23 + 2 * i) = nI a) (h0 : ∀ p, 30 ≤ p → p < 95 → N p = 0) {j : Nat} (hj : j < n) : -1 < rgM (secI N n mo c 300) j := by
  have b := r_small hw hx hs h0 hj 299 (by decide)
  rw [show 299 + 1 = 300 from rfl] at b
  have e : (rgM (secI N n mo c 300) j).toInt = (secI N n mo c 300 (79 + j)).toInt - (secI N n mo c 300 (63 + j)).toInt := i_sub rfl rfl (by omega) (by omega)
  rw [Int32.lt_iff_toInt_lt, e, show (-1 : Int32).toInt = -1 from rfl]
  omega
end
end R34
