section R33
variable {G : Gp} {I : Im} {L : Nat → Nat → Int64} {t : Nat}
section
theorem i_add {a b : Int32} {x y : Int} (ha : a.toInt = x) (hb : b.toInt = y) (h1 : -2147483648 ≤ x + y) (h2 : x + y ≤ 2147483647) : (a + b).toInt = x + y := by
  rw [Int32.toInt_add, ha, hb, Int.bmod_eq_of_le (by omega) (by omega)]
theorem i_sub {a b : Int32} {x y : Int} (ha : a.toInt = x) (hb : b.toInt = y) (h1 : -2147483648 ≤ x - y) (h2 : x - y ≤ 2147483647) : (a - b).toInt = x - y := by
  rw [Int32.toInt_sub, ha, hb, Int.bmod_eq_of_le (by omega) (by omega)]
theorem i_mul {a b : Int32} {x y : Int} (ha : a.toInt = x) (hb : b.toInt = y) (h1 : -2147483648 ≤ x * y) (h2 : x * y ≤ 2147483647) : (a * b).toInt = x * y := by
  rw [Int32.toInt_mul, ha, hb, Int.bmod_eq_of_le (by omega) (by omega)]
theorem i_16 {a : Int32} {x : Int} (ha : a.toInt = x) (h1 : -2147483000 ≤ x) (h2 : x ≤ 2147483000) : (a / 16).toInt = x.tdiv 16 := by
  have := td_e x (d := 16) (by decide)
  rw [Int32.toInt_div, ha, show (16 : Int32).toInt = 16 from rfl, Int.bmod_eq_of_le (by omega) (by omega)]
theorem i_64 {a : Int32} {x : Int} (ha : a.toInt = x) (h1 : -2147483000 ≤ x) (h2 : x ≤ 2147483000) : (a / 64).toInt = x.tdiv 64 := by
  have := td_e x (d := 64) (by decide)
  rw [Int32.toInt_div, ha, show (64 : Int32).toInt = 64 from rfl, Int.bmod_eq_of_le (by omega) (by omega)]
theorem mul_b {d o D : Int} (h1 : -D ≤ d) (h2 : d ≤ D) (o0 : 0 ≤ o) (o9 : o ≤ 9) : -(9 * D) ≤ d * o ∧ d * o ≤ 9 * D := by
  rcases (by omega : o = 0 ∨ o = 1 ∨ o = 2 ∨ o = 3 ∨ o = 4 ∨ o = 5 ∨ o = 6 ∨ o = 7 ∨ o = 8 ∨ o = 9) with rfl | rfl | rfl | rfl | rfl | rfl | rfl | rfl | rfl | rfl <;> omega
section
variable {N : Nat → Int32} {n mo c : Nat}
def hI (N : Nat → Int32) (n i : Nat) : Int := if i < n then (N (31 + i)).toInt else 0
def fI (N : Nat → Int32) (n i : Nat) : Int := if i + 1 < n then (N (47 + i)).toInt else 0
def oI (N : Nat → Int32) (n i : Nat) : Int := if i + 1 < n then (opM N i).toInt else 0
theorem ha_g (hx : HaX N) : 0 ≤ (N 2).toInt ∧ (N 2).toInt ≤ 9 := by
  obtain ⟨g, hg, e⟩ := hx.1
  rw [e, nI_toInt (by omega)]
  omega
theorem ha_r (hx : HaX N) : 0 ≤ (N 3).toInt ∧ (N 3).toInt ≤ 9 := by
  obtain ⟨g, hg, e⟩ := hx.2.1
  rw [e, nI_toInt (by omega)]
  omega
theorem dep_i (hx : HaX N) {i : Nat} (hi : i < 15) : 1 ≤ (if N (5 + i) < N (5 + i + 1) then N (5 + i) else N (5 + i + 1)).toInt ∧ (if N (5 + i) < N (5 + i + 1) then N (5 + i) else N (5 + i + 1)).toInt ≤ 9 := by
  obtain ⟨d, d1, d9, e⟩ := hx.2.2 i (by omega)
  obtain ⟨d', d1', d9', e'⟩ := hx.2.2 (i + 1) (by omega)
  rw [show 5 + (i + 1) = 5 + i + 1 by omega] at e'
  rw [e, e']
  split
  · rw [nI_toInt (by omega)]
    omega
  · rw [nI_toInt (by omega)]
    omega
theorem oI_b (hx : HaX N) (hn : n ≤ 16) (i : Nat) : 0 ≤ oI N n i ∧ oI N n i ≤ 9 := by
  unfold oI
  split
  · unfold opM
    split
    · decide
    · have := dep_i hx (i := i) (by omega)
      omega
  · decide
theorem oI_z (hx : HaX N) (hn : n ≤ 16) {i : Nat} (hi : i + 1 < n) (h : oI N n i = 0) : isW N i := by
  unfold oI at h
  rw [if_pos hi] at h
  unfold opM at h
  by_cases e : isW N i
  · exact e
  · rw [if_neg e] at h
    have := dep_i hx (i := i) (by omega)
    omega
theorem fl_int (hx : HaX N) (hn : n ≤ 16) (hb : ∀ i, i < n → (-4000000 ≤ hI N n i ∧ hI N n i ≤ 4000000) ∧ -4000000 ≤ fI N n i ∧ fI N n i ≤ 4000000) (hz : ∀ i, i + 1 < n → isW N i → N (47 + i) = 0) {i : Nat} (hi : i + 1 < n) : (flV N i).toInt = gI (hI N n) (fI N n) (oI N n) i - (gI (hI N n) (fI N n) (oI N n) i * (N 3).toInt).tdiv 64 ∧ -9000000 ≤ (flV N i).toInt ∧ (flV N i).toInt ≤ 9000000 := by
  obtain ⟨r0, r9⟩ := ha_r hx
  unfold flV
  by_cases w : isW N i
  · rw [if_neg (show ¬ b2i (N 4 >>> (nI i &&& 31) &&& 1 = 1) = 0 from b2i_n0.mpr w)]
    have e1 : fI N n i = 0 := by
      unfold fI
      rw [if_pos hi, hz i hi w]
      rfl
    have e2 : oI N n i = 0 := by
      unfold oI opM
      rw [if_pos hi, if_pos w]
      rfl
    have e3 : gI (hI N n) (fI N n) (oI N n) i = 0 := by
      unfold gI
      rw [e1, e2, Int.mul_zero]
      rfl
    rw [e3, Int.zero_mul]
    decide
  · rw [if_pos (show b2i (N 4 >>> (nI i &&& 31) &&& 1 = 1) = 0 from b2i_0.mpr w)]
    obtain ⟨⟨a1, a2⟩, a3, a4⟩ := hb i (by omega)
    obtain ⟨⟨b1, b2⟩, -, -⟩ := hb (i + 1) (by omega)
    obtain ⟨o0, o9⟩ := oI_b hx hn i
    have eh : (N (31 + i)).toInt = hI N n i := (if_pos (show i < n by omega)).symm
    have eh1 : (N (31 + i + 1)).toInt = hI N n (i + 1) := by
      unfold hI
      rw [if_pos hi, show 31 + (i + 1) = 31 + i + 1 by omega]
    have ef : (N (47 + i)).toInt = fI N n i := (if_pos hi).symm
    have eo : (if N (5 + i) < N (5 + i + 1) then N (5 + i) else N (5 + i + 1)).toInt = oI N n i := by
      unfold oI opM
      rw [if_pos hi, if_neg w]
    have m1 := mul_b (d := hI N n i - hI N n (i + 1)) (o := oI N n i) (D := 8000000) (by omega) (by omega) o0 o9
    have t1 := td_e ((hI N n i - hI N n (i + 1)) * oI N n i) (d := 16) (by decide)
    have d1 := i_sub eh eh1 (by omega) (by omega)
    have d2 := i_mul d1 eo (by omega) (by omega)
    have d3 := i_16 d2 (by omega) (by omega)
    have d4 : (flE N i).toInt = gI (hI N n) (fI N n) (oI N n) i := i_add ef d3 (by omega) (by omega)
    have gb : -8500002 ≤ gI (hI N n) (fI N n) (oI N n) i ∧ gI (hI N n) (fI N n) (oI N n) i ≤ 8500002 := by
      unfold gI
      omega
    generalize gI (hI N n) (fI N n) (oI N n) i = g at d4 gb
    have m2 := mul_b (d := g) (o := (N 3).toInt) (D := 8500002) (by omega) (by omega) r0 r9
    have t2 := td_e (g * (N 3).toInt) (d := 64) (by decide)
    have d5 := i_mul (b := N 3) d4 rfl (by omega) (by omega)
    have d6 := i_64 d5 (by omega) (by omega)
    have d7 := i_sub d4 d6 (by omega) (by omega)
    refine ⟨d7, ?_, ?_⟩
    · rw [d7]
      rcases Int.le_total 0 g with z | z
      · have : 0 ≤ g * (N 3).toInt := Int.mul_nonneg z r0
        omega
      · have : g * (N 3).toInt ≤ 0 := Int.mul_nonpos_of_nonpos_of_nonneg z r0
        have m3 : 9 * g ≤ g * (N 3).toInt := by
          have := Int.mul_nonneg (show 0 ≤ -g by omega) (show 0 ≤ 9 - (N 3).toInt by omega)
          grind
        omega
    · rw [d7]
      rcases Int.le_total 0 g with z | z
      · have : 0 ≤ g * (N 3).toInt := Int.mul_nonneg z r0
        omega
      · have : g * (N 3).toInt ≤ 0 := Int.mul_nonpos_of_nonpos_of_nonneg z r0
        have m3 : 9 * g ≤ g * (N 3).toInt := by
          have := Int.mul_nonneg (show 0 ≤ -g by omega) (show 0 ≤ 9 - (N 3).toInt by omega)
          grind
        omega
theorem pm_b {s b : Int32} {a : Nat} (ha : a ≤ 99) : -99 ≤ (pm1 s b (nI a)).toInt ∧ (pm1 s b (nI a)).toInt ≤ 99 := by
  have e := nI_toInt (show a < 2 ^ 31 by omega)
  unfold pm1
  split
  · rw [e]
    omega
  · rw [Int32.toInt_neg, e, Int.bmod_eq_of_le (by omega) (by omega)]
    omega
theorem pu_b {s : Int32} (hs : ∀ i, i < c → ∃ a, a ≤ 99 ∧ N (23 + 2 * i) = nI a) (c4 : c ≤ 4) : ∀ k, k ≤ c → -(99 * (k : Int)) ≤ (puN N s k).toInt ∧ (puN N s k).toInt ≤ 99 * (k : Int) := by
  intro k
  induction k with
  | zero =>
    intro _
    show -(99 * ((0 : Nat) : Int)) ≤ (0 : Int32).toInt ∧ (0 : Int32).toInt ≤ 99 * ((0 : Nat) : Int)
    decide
  | succ k ih =>
    intro hk
    obtain ⟨i1, i2⟩ := ih (by omega)
    obtain ⟨a, ha, ea⟩ := hs k (by omega)
    have p := pm_b (s := s) (b := N (22 + 2 * k)) ha
    rw [← ea] at p
    have d := i_add (a := puN N s k) (b := pm1 s (N (22 + 2 * k)) (N (23 + 2 * k))) rfl rfl (by omega) (by omega)
    have e : puN N s (k + 1) = puN N s k + pm1 s (N (22 + 2 * k)) (N (23 + 2 * k)) := rfl
    rw [e, d]
    omega
end
end
end R33
