section R41
variable {G : Gp} {I : Im} {L : Nat → Nat → Int64} {t : Nat}
section
variable {C M D E : Im}
theorem d0_ {n k : Nat} : dg n k 0 = k / (n * n) := rfl
theorem d1_ {n k : Nat} : dg n k 1 = k / n % n := rfl
theorem d2_ {n k : Nat} : dg n k 2 = k % n := rfl
theorem g10_ {n c : Nat} : gd n 1 c 0 = c % n := by unfold gd; rw [show 1 - 1 - 0 = 0 from rfl, Nat.pow_zero, Nat.div_one]
theorem g20_ {n c : Nat} : gd n 2 c 0 = c / n % n := by unfold gd; rw [show 2 - 1 - 0 = 1 from rfl, Nat.pow_one]
theorem g21_ {n c : Nat} : gd n 2 c 1 = c % n := by unfold gd; rw [show 2 - 1 - 1 = 0 from rfl, Nat.pow_zero, Nat.div_one]
theorem g30_ {n c : Nat} : gd n 3 c 0 = c / (n * n) % n := by unfold gd; rw [show 3 - 1 - 0 = 2 from rfl, Nat.pow_two]
theorem g31_ {n c : Nat} : gd n 3 c 1 = c / n % n := by unfold gd; rw [show 3 - 1 - 1 = 1 from rfl, Nat.pow_one]
theorem g32_ {n c : Nat} : gd n 3 c 2 = c % n := by unfold gd; rw [show 3 - 1 - 2 = 0 from rfl, Nat.pow_zero, Nat.div_one]
def Ar (n a : Nat) (mi : Nat → Prop) (sh p q : Nat → Nat) : Prop := (∀ k, k < n * n * n → (∀ s, mi s → dg n k s = 0) → p k < n ^ a ∧ (∀ i, i < a → gd n a (p k) i = dg n k (sh i)) ∧ ∀ c, c < p k → q c < k) ∧ ∀ c, c < n ^ a → q c < n * n * n ∧ (∀ s, mi s → dg n (q c) s = 0) ∧ p (q c) = c
def p_012 (n k : Nat) : Nat := k + 0 * n
def q_012 (n c : Nat) : Nat := c + 0 * n
def h_012 (i : Nat) : Nat := i
theorem ar_012 {n : Nat} (n3 : 3 ≤ n) (hn : n ≤ 16) : Ar n 3 (fun s => s = 3 ∧ False) h_012 (p_012 n) (q_012 n) := by
  have hh : n = 3 ∨ n = 4 ∨ n = 5 ∨ n = 6 ∨ n = 7 ∨ n = 8 ∨ n = 9 ∨ n = 10 ∨ n = 11 ∨ n = 12 ∨ n = 13 ∨ n = 14 ∨ n = 15 ∨ n = 16 := by omega
  refine ⟨fun k hk hm => ?_, fun c hc => ?_⟩
  · unfold p_012 q_012
    refine ⟨?_, fun i hi => ?_, fun c hc => ?_⟩
    · rw [Nat.pow_succ, Nat.pow_two]
      all_goals (rcases hh with rfl | rfl | rfl | rfl | rfl | rfl | rfl | rfl | rfl | rfl | rfl | rfl | rfl | rfl <;> omega)
    · have hi2 : i = 0 ∨ i = 1 ∨ i = 2 := by omega
      rcases hi2 with rfl | rfl | rfl
      · show gd n 3 _ 0 = dg n k 0
        rw [g30_, d0_]
        all_goals (rcases hh with rfl | rfl | rfl | rfl | rfl | rfl | rfl | rfl | rfl | rfl | rfl | rfl | rfl | rfl <;> omega)
      · show gd n 3 _ 1 = dg n k 1
        rw [g31_, d1_]
        all_goals (rcases hh with rfl | rfl | rfl | rfl | rfl | rfl | rfl | rfl | rfl | rfl | rfl | rfl | rfl | rfl <;> omega)
      · show gd n 3 _ 2 = dg n k 2
        rw [g32_, d2_]
        all_goals (rcases hh with rfl | rfl | rfl | rfl | rfl | rfl | rfl | rfl | rfl | rfl | rfl | rfl | rfl | rfl <;> omega)
    · all_goals (rcases hh with rfl | rfl | rfl | rfl | rfl | rfl | rfl | rfl | rfl | rfl | rfl | rfl | rfl | rfl <;> omega)
  · rw [Nat.pow_succ, Nat.pow_two] at hc
    unfold p_012 q_012
    refine ⟨?_, fun s hs => ?_, ?_⟩
    · all_goals (rcases hh with rfl | rfl | rfl | rfl | rfl | rfl | rfl | rfl | rfl | rfl | rfl | rfl | rfl | rfl <;> omega)
    · exact absurd hs.2 id
    · all_goals (rcases hh with rfl | rfl | rfl | rfl | rfl | rfl | rfl | rfl | rfl | rfl | rfl | rfl | rfl | rfl <;> omega)
def p_12 (n k : Nat) : Nat := k % (n * n)
def q_12 (n c : Nat) : Nat := c + 0 * n
def h_12 (i : Nat) : Nat := if i = 0 then 1 else 2
theorem ar_12 {n : Nat} (n3 : 3 ≤ n) (hn : n ≤ 16) : Ar n 2 (fun s => s = 0) h_12 (p_12 n) (q_12 n) := by
  have hh : n = 3 ∨ n = 4 ∨ n = 5 ∨ n = 6 ∨ n = 7 ∨ n = 8 ∨ n = 9 ∨ n = 10 ∨ n = 11 ∨ n = 12 ∨ n = 13 ∨ n = 14 ∨ n = 15 ∨ n = 16 := by omega
  refine ⟨fun k hk hm => ?_, fun c hc => ?_⟩
  · have m0 := hm 0 (by decide)
    rw [d0_] at m0
    unfold p_12 q_12
    refine ⟨?_, fun i hi => ?_, fun c hc => ?_⟩
    · rw [Nat.pow_two]
      all_goals (rcases hh with rfl | rfl | rfl | rfl | rfl | rfl | rfl | rfl | rfl | rfl | rfl | rfl | rfl | rfl <;> omega)
    · have hi2 : i = 0 ∨ i = 1 := by omega
      rcases hi2 with rfl | rfl
      · show gd n 2 _ 0 = dg n k 1
        rw [g20_, d1_]
        all_goals (rcases hh with rfl | rfl | rfl | rfl | rfl | rfl | rfl | rfl | rfl | rfl | rfl | rfl | rfl | rfl <;> omega)
      · show gd n 2 _ 1 = dg n k 2
        rw [g21_, d2_]
        all_goals (rcases hh with rfl | rfl | rfl | rfl | rfl | rfl | rfl | rfl | rfl | rfl | rfl | rfl | rfl | rfl <;> omega)
    · all_goals (rcases hh with rfl | rfl | rfl | rfl | rfl | rfl | rfl | rfl | rfl | rfl | rfl | rfl | rfl | rfl <;> omega)
  · rw [Nat.pow_two] at hc
    unfold p_12 q_12
    refine ⟨?_, fun s hs => ?_, ?_⟩
    · all_goals (rcases hh with rfl | rfl | rfl | rfl | rfl | rfl | rfl | rfl | rfl | rfl | rfl | rfl | rfl | rfl <;> omega)
    · rcases hs with rfl
      · rw [d0_]
        all_goals (rcases hh with rfl | rfl | rfl | rfl | rfl | rfl | rfl | rfl | rfl | rfl | rfl | rfl | rfl | rfl <;> omega)
    · all_goals (rcases hh with rfl | rfl | rfl | rfl | rfl | rfl | rfl | rfl | rfl | rfl | rfl | rfl | rfl | rfl <;> omega)
def p_01 (n k : Nat) : Nat := k / n
def q_01 (n c : Nat) : Nat := c * n
def h_01 (i : Nat) : Nat := if i = 0 then 0 else 1
theorem ar_01 {n : Nat} (n3 : 3 ≤ n) (hn : n ≤ 16) : Ar n 2 (fun s => s = 2) h_01 (p_01 n) (q_01 n) := by
  have hh : n = 3 ∨ n = 4 ∨ n = 5 ∨ n = 6 ∨ n = 7 ∨ n = 8 ∨ n = 9 ∨ n = 10 ∨ n = 11 ∨ n = 12 ∨ n = 13 ∨ n = 14 ∨ n = 15 ∨ n = 16 := by omega
  refine ⟨fun k hk hm => ?_, fun c hc => ?_⟩
  · have m2 := hm 2 (by decide)
    rw [d2_] at m2
    unfold p_01 q_01
    refine ⟨?_, fun i hi => ?_, fun c hc => ?_⟩
    · rw [Nat.pow_two]
      all_goals (rcases hh with rfl | rfl | rfl | rfl | rfl | rfl | rfl | rfl | rfl | rfl | rfl | rfl | rfl | rfl <;> omega)
    · have hi2 : i = 0 ∨ i = 1 := by omega
      rcases hi2 with rfl | rfl
      · show gd n 2 _ 0 = dg n k 0
        rw [g20_, d0_]
        all_goals (rcases hh with rfl | rfl | rfl | rfl | rfl | rfl | rfl | rfl | rfl | rfl | rfl | rfl | rfl | rfl <;> omega)
      · show gd n 2 _ 1 = dg n k 1
        rw [g21_, d1_]
        all_goals (rcases hh with rfl | rfl | rfl | rfl | rfl | rfl | rfl | rfl | rfl | rfl | rfl | rfl | rfl | rfl <;> omega)
    · all_goals (rcases hh with rfl | rfl | rfl | rfl | rfl | rfl | rfl | rfl | rfl | rfl | rfl | rfl | rfl | rfl <;> omega)
  · rw [Nat.pow_two] at hc
    unfold p_01 q_01
    refine ⟨?_, fun s hs => ?_, ?_⟩
    · all_goals (rcases hh with rfl | rfl | rfl | rfl | rfl | rfl | rfl | rfl | rfl | rfl | rfl | rfl | rfl | rfl <;> omega)
    · rcases hs with rfl
      · rw [d2_]
        all_goals (rcases hh with rfl | rfl | rfl | rfl | rfl | rfl | rfl | rfl | rfl | rfl | rfl | rfl | rfl | rfl <;> omega)
    · all_goals (rcases hh with rfl | rfl | rfl | rfl | rfl | rfl | rfl | rfl | rfl | rfl | rfl | rfl | rfl | rfl <;> omega)
def p_02 (n k : Nat) : Nat := k / (n * n) * n + k % n
def q_02 (n c : Nat) : Nat := c / n * (n * n) + c % n
def h_02 (i : Nat) : Nat := if i = 0 then 0 else 2
theorem ar_02 {n : Nat} (n3 : 3 ≤ n) (hn : n ≤ 16) : Ar n 2 (fun s => s = 1) h_02 (p_02 n) (q_02 n) := by
  have hh : n = 3 ∨ n = 4 ∨ n = 5 ∨ n = 6 ∨ n = 7 ∨ n = 8 ∨ n = 9 ∨ n = 10 ∨ n = 11 ∨ n = 12 ∨ n = 13 ∨ n = 14 ∨ n = 15 ∨ n = 16 := by omega
  refine ⟨fun k hk hm => ?_, fun c hc => ?_⟩
  · have m1 := hm 1 (by decide)
    rw [d1_] at m1
    unfold p_02 q_02
    refine ⟨?_, fun i hi => ?_, fun c hc => ?_⟩
    · rw [Nat.pow_two]
      all_goals (rcases hh with rfl | rfl | rfl | rfl | rfl | rfl | rfl | rfl | rfl | rfl | rfl | rfl | rfl | rfl <;> omega)
    · have hi2 : i = 0 ∨ i = 1 := by omega
      rcases hi2 with rfl | rfl
      · show gd n 2 _ 0 = dg n k 0
        rw [g20_, d0_]
        all_goals (rcases hh with rfl | rfl | rfl | rfl | rfl | rfl | rfl | rfl | rfl | rfl | rfl | rfl | rfl | rfl <;> omega)
      · show gd n 2 _ 1 = dg n k 2
        rw [g21_, d2_]
        all_goals (rcases hh with rfl | rfl | rfl | rfl | rfl | rfl | rfl | rfl | rfl | rfl | rfl | rfl | rfl | rfl <;> omega)
    · all_goals (rcases hh with rfl | rfl | rfl | rfl | rfl | rfl | rfl | rfl | rfl | rfl | rfl | rfl | rfl | rfl <;> omega)
  · rw [Nat.pow_two] at hc
    unfold p_02 q_02
    refine ⟨?_, fun s hs => ?_, ?_⟩
    · all_goals (rcases hh with rfl | rfl | rfl | rfl | rfl | rfl | rfl | rfl | rfl | rfl | rfl | rfl | rfl | rfl <;> omega)
    · rcases hs with rfl
      · rw [d1_]
        all_goals (rcases hh with rfl | rfl | rfl | rfl | rfl | rfl | rfl | rfl | rfl | rfl | rfl | rfl | rfl | rfl <;> omega)
    · all_goals (rcases hh with rfl | rfl | rfl | rfl | rfl | rfl | rfl | rfl | rfl | rfl | rfl | rfl | rfl | rfl <;> omega)
def p_0 (n k : Nat) : Nat := k / (n * n)
def q_0 (n c : Nat) : Nat := c * (n * n)
def h_0 (i : Nat) : Nat := 0 + 0 * i
theorem ar_0 {n : Nat} (n3 : 3 ≤ n) (hn : n ≤ 16) : Ar n 1 (fun s => s = 1 ∨ s = 2) h_0 (p_0 n) (q_0 n) := by
  have hh : n = 3 ∨ n = 4 ∨ n = 5 ∨ n = 6 ∨ n = 7 ∨ n = 8 ∨ n = 9 ∨ n = 10 ∨ n = 11 ∨ n = 12 ∨ n = 13 ∨ n = 14 ∨ n = 15 ∨ n = 16 := by omega
  refine ⟨fun k hk hm => ?_, fun c hc => ?_⟩
  · have m1 := hm 1 (by decide)
    rw [d1_] at m1
    have m2 := hm 2 (by decide)
    rw [d2_] at m2
    unfold p_0 q_0
    refine ⟨?_, fun i hi => ?_, fun c hc => ?_⟩
    · rw [Nat.pow_one]
      all_goals (rcases hh with rfl | rfl | rfl | rfl | rfl | rfl | rfl | rfl | rfl | rfl | rfl | rfl | rfl | rfl <;> omega)
    · have hi2 : i = 0 := by omega
      rcases hi2 with rfl
      · show gd n 1 _ 0 = dg n k 0
        rw [g10_, d0_]
        all_goals (rcases hh with rfl | rfl | rfl | rfl | rfl | rfl | rfl | rfl | rfl | rfl | rfl | rfl | rfl | rfl <;> omega)
    · all_goals (rcases hh with rfl | rfl | rfl | rfl | rfl | rfl | rfl | rfl | rfl | rfl | rfl | rfl | rfl | rfl <;> omega)
  · rw [Nat.pow_one] at hc
    unfold p_0 q_0
    refine ⟨?_, fun s hs => ?_, ?_⟩
    · all_goals (rcases hh with rfl | rfl | rfl | rfl | rfl | rfl | rfl | rfl | rfl | rfl | rfl | rfl | rfl | rfl <;> omega)
    · rcases hs with rfl | rfl
      · rw [d1_]
        all_goals (rcases hh with rfl | rfl | rfl | rfl | rfl | rfl | rfl | rfl | rfl | rfl | rfl | rfl | rfl | rfl <;> omega)
      · rw [d2_]
        all_goals (rcases hh with rfl | rfl | rfl | rfl | rfl | rfl | rfl | rfl | rfl | rfl | rfl | rfl | rfl | rfl <;> omega)
    · all_goals (rcases hh with rfl | rfl | rfl | rfl | rfl | rfl | rfl | rfl | rfl | rfl | rfl | rfl | rfl | rfl <;> omega)
def p_1 (n k : Nat) : Nat := k / n % n
def q_1 (n c : Nat) : Nat := c * n
def h_1 (i : Nat) : Nat := 1 + 0 * i
theorem ar_1 {n : Nat} (n3 : 3 ≤ n) (hn : n ≤ 16) : Ar n 1 (fun s => s = 0 ∨ s = 2) h_1 (p_1 n) (q_1 n) := by
  have hh : n = 3 ∨ n = 4 ∨ n = 5 ∨ n = 6 ∨ n = 7 ∨ n = 8 ∨ n = 9 ∨ n = 10 ∨ n = 11 ∨ n = 12 ∨ n = 13 ∨ n = 14 ∨ n = 15 ∨ n = 16 := by omega
  refine ⟨fun k hk hm => ?_, fun c hc => ?_⟩
  · have m0 := hm 0 (by decide)
    rw [d0_] at m0
    have m2 := hm 2 (by decide)
    rw [d2_] at m2
    unfold p_1 q_1
    refine ⟨?_, fun i hi => ?_, fun c hc => ?_⟩
    · rw [Nat.pow_one]
      all_goals (rcases hh with rfl | rfl | rfl | rfl | rfl | rfl | rfl | rfl | rfl | rfl | rfl | rfl | rfl | rfl <;> omega)
    · have hi2 : i = 0 := by omega
      rcases hi2 with rfl
      · show gd n 1 _ 0 = dg n k 1
        rw [g10_, d1_]
        all_goals (rcases hh with rfl | rfl | rfl | rfl | rfl | rfl | rfl | rfl | rfl | rfl | rfl | rfl | rfl | rfl <;> omega)
    · all_goals (rcases hh with rfl | rfl | rfl | rfl | rfl | rfl | rfl | rfl | rfl | rfl | rfl | rfl | rfl | rfl <;> omega)
  · rw [Nat.pow_one] at hc
    unfold p_1 q_1
    refine ⟨?_, fun s hs => ?_, ?_⟩
    · all_goals (rcases hh with rfl | rfl | rfl | rfl | rfl | rfl | rfl | rfl | rfl | rfl | rfl | rfl | rfl | rfl <;> omega)
    · rcases hs with rfl | rfl
      · rw [d0_]
        all_goals (rcases hh with rfl | rfl | rfl | rfl | rfl | rfl | rfl | rfl | rfl | rfl | rfl | rfl | rfl | rfl <;> omega)
      · rw [d2_]
        all_goals (rcases hh with rfl | rfl | rfl | rfl | rfl | rfl | rfl | rfl | rfl | rfl | rfl | rfl | rfl | rfl <;> omega)
    · all_goals (rcases hh with rfl | rfl | rfl | rfl | rfl | rfl | rfl | rfl | rfl | rfl | rfl | rfl | rfl | rfl <;> omega)
def p_2 (n k : Nat) : Nat := k % n
def q_2 (n c : Nat) : Nat := c + 0 * n
def h_2 (i : Nat) : Nat := 2 + 0 * i
theorem ar_2 {n : Nat} (n3 : 3 ≤ n) (hn : n ≤ 16) : Ar n 1 (fun s => s = 0 ∨ s = 1) h_2 (p_2 n) (q_2 n) := by
  have hh : n = 3 ∨ n = 4 ∨ n = 5 ∨ n = 6 ∨ n = 7 ∨ n = 8 ∨ n = 9 ∨ n = 10 ∨ n = 11 ∨ n = 12 ∨ n = 13 ∨ n = 14 ∨ n = 15 ∨ n = 16 := by omega
  refine ⟨fun k hk hm => ?_, fun c hc => ?_⟩
  · have m0 := hm 0 (by decide)
    rw [d0_] at m0
    have m1 := hm 1 (by decide)
    rw [d1_] at m1
    unfold p_2 q_2
    refine ⟨?_, fun i hi => ?_, fun c hc => ?_⟩
    · rw [Nat.pow_one]
      all_goals (rcases hh with rfl | rfl | rfl | rfl | rfl | rfl | rfl | rfl | rfl | rfl | rfl | rfl | rfl | rfl <;> omega)
    · have hi2 : i = 0 := by omega
      rcases hi2 with rfl
      · show gd n 1 _ 0 = dg n k 2
        rw [g10_, d2_]
        all_goals (rcases hh with rfl | rfl | rfl | rfl | rfl | rfl | rfl | rfl | rfl | rfl | rfl | rfl | rfl | rfl <;> omega)
    · all_goals (rcases hh with rfl | rfl | rfl | rfl | rfl | rfl | rfl | rfl | rfl | rfl | rfl | rfl | rfl | rfl <;> omega)
  · rw [Nat.pow_one] at hc
    unfold p_2 q_2
    refine ⟨?_, fun s hs => ?_, ?_⟩
    · all_goals (rcases hh with rfl | rfl | rfl | rfl | rfl | rfl | rfl | rfl | rfl | rfl | rfl | rfl | rfl | rfl <;> omega)
    · rcases hs with rfl | rfl
      · rw [d0_]
        all_goals (rcases hh with rfl | rfl | rfl | rfl | rfl | rfl | rfl | rfl | rfl | rfl | rfl | rfl | rfl | rfl <;> omega)
      · rw [d1_]
        all_goals (rcases hh with rfl | rfl | rfl | rfl | rfl | rfl | rfl | rfl | rfl | rfl | rfl | rfl | rfl | rfl <;> omega)
    · all_goals (rcases hh with rfl | rfl | rfl | rfl | rfl | rfl | rfl | rfl | rfl | rfl | rfl | rfl | rfl | rfl <;> omega)
/-- the model's side: which codes are taken, and what they cost -/
def Vm (P : Nat → Int32) (n k : Nat) : Prop := (∀ s, s < 3 → P s = 0 → dg n k s = 0) ∧ (¬ P 1 = 0 → ¬ P 0 = 0 → dg n k 1 ≠ dg n k 0) ∧ (¬ P 2 = 0 → ¬ P 0 = 0 → dg n k 2 ≠ dg n k 0) ∧ (¬ P 2 = 0 → ¬ P 1 = 0 → dg n k 2 ≠ dg n k 1)
def yS (P : Nat → Int32) (f : Nat → Nat → Int32) (n k s : Nat) : Int32 := if P s = 0 then 0 else f s (dg n k s)
def Sm (P : Nat → Int32) (f : Nat → Nat → Int32) (n k : Nat) : Int32 := 0 + yS P f n k 0 + yS P f n k 1 + yS P f n k 2
theorem dg_lt {n k : Nat} (n3 : 3 ≤ n) (hk : k < n * n * n) : ∀ s, dg n k s < n := by
  intro s
  unfold dg
  split
  · exact Nat.div_lt_of_lt_mul hk
  · split
    · exact Nat.mod_lt _ (by omega)
    · exact Nat.mod_lt _ (by omega)
theorem ap_e {J : Im} {P : Nat → Int32} {n k : Nat} (n3 : 3 ≤ n) (hn : n ≤ 16) (hk : k < n * n * n) (h4 : J 214 = P) (e : ∀ s, s < 3 → J 221 s = nI (dg n k s)) : ¬ apN J 3 = 0 ↔ Vm P n k := by
  have l := dg_lt n3 hk
  have q0 : ∀ s, nI (dg n k s) = 0 ↔ dg n k s = 0 := fun s => by
    have := l s
    exact nI_eq (a := dg n k s) (b := 0) (by omega) (by omega)
  have q2 : ∀ s o, nI (dg n k s) = nI (dg n k o) ↔ dg n k s = dg n k o := fun s o => by
    have := l s
    have := l o
    exact nI_eq (by omega) (by omega)
  have e3 : apN J 3 = aiN J 2 (aiN J 1 (aiN J 0 1 0) 1) 2 := by rw [apN_s, apN_s, apN_s, apN_0]
  rw [e3, aiN_s, aiN_s, aiN_0, aiN_s, aiN_0, aiN_0, h4, e 0 (by decide), e 1 (by decide), e 2 (by decide)]
  unfold Vm
  have a3 : (∀ s, s < 3 → P s = 0 → dg n k s = 0) ↔ (P 0 = 0 → dg n k 0 = 0) ∧ (P 1 = 0 → dg n k 1 = 0) ∧ (P 2 = 0 → dg n k 2 = 0) := by
    refine ⟨fun z => ⟨z 0 (by decide), z 1 (by decide), z 2 (by decide)⟩, fun z s hs => ?_⟩
    have : s = 0 ∨ s = 1 ∨ s = 2 := by omega
    rcases this with rfl | rfl | rfl
    · exact z.1
    · exact z.2.1
    · exact z.2.2
  rw [a3]
  simp only [q0, q2]
  by_cases p0 : P 0 = 0 <;> by_cases p1 : P 1 = 0 <;> by_cases p2 : P 2 = 0 <;> by_cases z0 : dg n k 0 = 0 <;> by_cases z1 : dg n k 1 = 0 <;> by_cases z2 : dg n k 2 = 0 <;> by_cases w1 : dg n k 1 = dg n k 0 <;> by_cases w2 : dg n k 2 = dg n k 0 <;> by_cases w3 : dg n k 2 = dg n k 1 <;> simp [p0, p1, p2, z0, z1, z2, w1, w2, w3]
theorem sm_e {J : Im} {P : Nat → Int32} {n k : Nat} {p8 p9 : Nat → Nat → Int32} (n3 : 3 ≤ n) (hn : n ≤ 16) (hk : k < n * n * n) (h4 : J 214 = P) (e : ∀ s, s < 3 → J 221 s = nI (dg n k s)) (ht : ∀ s, s < 3 → ¬ P s = 0 → ∀ j, j < n → J 219 (16 * s + j) = p8 s j ∧ J 220 (16 * s + j) = if p9 s j = -9 then 0 else 1) : (smN J 3).1 = Sm P (fun s j => pS (p9 s j)) n k ∧ (smN J 3).2 = Sm P p8 n k := by
  have l := dg_lt n3 hk
  have ec : ∀ s, s < 3 → (J 221 s).toNatClampNeg = dg n k s := fun s hs => by
    have := l s
    rw [e s hs, nI_clamp (by omega)]
  have x1 : ∀ s, s < 3 → (if J 214 s = 0 then 0 else if J 220 (16 * s + (J 221 s).toNatClampNeg) = 0 then 0 else 1 : Int32) = yS P (fun s j => pS (p9 s j)) n k s := fun s hs => by
    unfold yS
    rw [h4, ec s hs]
    by_cases p : P s = 0
    · rw [if_pos p, if_pos p]
    · rw [if_neg p, if_neg p, (ht s hs p _ (l s)).2]
      unfold pS
      by_cases c : p9 s (dg n k s) = -9 <;> simp [c]
  have x2 : ∀ s, s < 3 → (if J 214 s = 0 then 0 else J 219 (16 * s + (J 221 s).toNatClampNeg)) = yS P p8 n k s := fun s hs => by
    unfold yS
    rw [h4, ec s hs]
    by_cases p : P s = 0
    · rw [if_pos p, if_pos p]
    · rw [if_neg p, if_neg p, (ht s hs p _ (l s)).1]
  rw [smN_s, smN_s, smN_s, smN_0]
  dsimp only
  rw [x1 0 (by decide), x1 1 (by decide), x1 2 (by decide), x2 0 (by decide), x2 1 (by decide), x2 2 (by decide)]
  exact ⟨rfl, rfl⟩
theorem li3_e {J : Im} {n k s : Nat} (hs : s < 3) : li3 J n k 221 s = nI (dg n k s) := by
  have : s = 0 ∨ s = 1 ∨ s = 2 := by omega
  rcases this with rfl | rfl | rfl
  · exact li3_0
  · exact li3_1
  · exact li3_2
theorem li_sc {X : Im} {P : Nat → Int32} {n : Nat} {p8 p9 : Nat → Nat → Int32} (n3 : 3 ≤ n) (hn : n ≤ 16) (h4 : X 214 = P) (ht : ∀ s, s < 3 → ¬ P s = 0 → ∀ j, j < n → X 219 (16 * s + j) = p8 s j ∧ X 220 (16 * s + j) = if p9 s j = -9 then 0 else 1) : ∀ k, k ≤ n * n * n → Sc (Vm P n) (Sm P (fun s j => pS (p9 s j)) n) (Sm P p8 n) (fun x => x = -9) k (liN X n k).1 (liN X n k).2.1 (liN X n k).2.2.1 := by
  have big := n3_le (n := n) hn
  intro k
  induction k with
  | zero =>
    intro _
    rw [liN_0]
    exact sc_0 rfl
  | succ k ih =>
    intro hk
    have i0 := ih (by omega)
    have o : ∀ e, e ≠ 221 → li3 (liN X n k).2.2.2 n k e = X e := fun e he => by rw [li3_off he, liN_off he]
    have e1 := ap_e (J := li3 (liN X n k).2.2.2 n k) (P := P) (n := n) (k := k) n3 hn (by omega) (by rw [o 214 (by decide)]; exact h4) (fun s hs => li3_e hs)
    obtain ⟨e2, e3⟩ := sm_e (J := li3 (liN X n k).2.2.2 n k) (P := P) (n := n) (k := k) (p8 := p8) (p9 := p9) n3 hn (by omega) (by rw [o 214 (by decide)]; exact h4) (fun s hs => li3_e hs) (fun s hs p j hj => by rw [o 219 (by decide), o 220 (by decide)]; exact ht s hs p j hj)
    rw [liN_s]
    by_cases v : Vm P n k
    · rw [if_neg (e1.mpr v), e2, e3]
      by_cases c : (liN X n k).1 = -9 ∨ Sm P (fun s j => pS (p9 s j)) n k < (liN X n k).2.1 ∨ (Sm P (fun s j => pS (p9 s j)) n k = (liN X n k).2.1 ∧ Sm P p8 n k < (liN X n k).2.2.1)
      · rw [if_pos c]
        exact sc_yes (by omega) (fun i hi z => absurd (nI_pos' hi) (by rw [z]; decide)) v c i0
      · rw [if_neg c]
        exact sc_keep v c i0
    · rw [if_pos (Decidable.not_not.mp (fun z => v (e1.mp z)))]
      exact sc_no v i0
theorem lib_e {J : Im} {n k : Nat} (n3 : 3 ≤ n) (hn : n ≤ 16) (hk : k < n * n * n) : lib J (nI n) (nI k) = li3 J n k := by
  have big := n3_le (n := n) hn
  have n2 : n * n ≤ 256 := Nat.le_trans (Nat.mul_le_mul hn hn) (by decide)
  have dl : k / n ≤ k := Nat.div_le_self _ _
  have dl2 : k / n / n ≤ k / n := Nat.div_le_self _ _
  have m1 := Nat.div_mul_le_self k n
  have m2 := Nat.div_mul_le_self (k / n) n
  have x1 := Nat.mod_eq_sub_div_mul (x := k) (k := n)
  have x2 := Nat.mod_eq_sub_div_mul (x := k / n) (k := n)
  unfold lib li3
  rw [pk_mul, nI_dv (by omega) (by omega), nI_dv (by omega) (by omega), nI_dv (by omega) (by omega), pk_mul, pk_mul, ← nI_sub m1 (by omega), ← nI_sub m2 (by omega), x1, x2]
end
end R41
