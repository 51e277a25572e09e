section R40
variable {G : Gp} {I : Im} {L : Nat → Nat → Int64} {t : Nat}
section
variable {C M D E : Im}
def dg (n k s : Nat) : Nat := if s = 0 then k / (n * n) else if s = 1 then k / n % n else k % n
def gd (n a c i : Nat) : Nat := c / n ^ (a - 1 - i) % n
def pS (x : Int32) : Int32 := if x = -9 then 0 else 1
def smA (a : Nat) (x : Nat → Int32) : Int32 := if a = 1 then 0 + x 0 else if a = 2 then 0 + x 0 + x 1 else 0 + x 0 + x 1 + x 2
def Vc (n a c : Nat) : Prop := (2 ≤ a → gd n a c 1 ≠ gd n a c 0) ∧ (3 ≤ a → gd n a c 2 ≠ gd n a c 0 ∧ gd n a c 2 ≠ gd n a c 1)
def Ac (p9 : Nat → Nat → Int32) (n a c : Nat) : Int32 := smA a (fun i => pS (p9 i (gd n a c i)))
def Bc (p8 : Nat → Nat → Int32) (n a c : Nat) : Int32 := smA a (fun i => p8 i (gd n a c i))
/-- the trial, seen by rank and cell -/
def Tr (W : Im) (n a : Nat) (p8 p9 : Nat → Nat → Int32) : Prop := W 24 2 = nI (a * n) ∧ ∀ i, i < a → ∀ j, j < n → pullV W 24 (a * n) (i * n + j) = p8 i j ∧ partV W 24 (a * n) (i * n + j) = p9 i j
theorem Tr_of {W J : Im} {n a : Nat} {p8 p9 : Nat → Nat → Int32} (h : Tr W n a p8 p9) (hn : n ≤ 16) (ha : a ≤ 3) (e : ∀ k, k ≤ 84 → J k = W k) : Tr J n a p8 p9 := by
  have m48 : a * n ≤ 48 := by
    have : a * n ≤ 3 * n := Nat.mul_le_mul_right n ha
    omega
  refine ⟨by rw [e 24 (by decide)]; exact h.1, fun i hi j hj => ?_⟩
  have lt : i * n + j < a * n := by
    have h1 : (i + 1) * n ≤ a * n := Nat.mul_le_mul_right n hi
    have h2 : (i + 1) * n = i * n + n := by rw [Nat.add_mul, Nat.one_mul]
    omega
  have := h.2 i hi j hj
  unfold pullV partV at this ⊢
  rw [e (24 + 13 + (i * n + j)) (by omega)]
  exact this
theorem ix_t {n i g : Nat} {x : Int32} (hn : n ≤ 16) (hi : i ≤ 3) (hg : g < n) (ex : x = nI g) : (nI i * nI n + x).toNatClampNeg = i * n + g := by
  have : i * n ≤ 3 * n := Nat.mul_le_mul_right n hi
  rw [ex, pk_mul, nI_add, nI_clamp (by omega)]
theorem ev_c {W X : Im} {n a c : Nat} {p8 p9 : Nat → Nat → Int32} (h : Tr W n a p8 p9) (n3 : 3 ≤ n) (hn : n ≤ 16) (ha : a = 1 ∨ a = 2 ∨ a = 3) (hX : ∀ k, k ≤ 84 → X k = W k) (hd : ∀ i, i < a → X 101 i = nI (gd n a c i)) : (¬ apF X a = 0 ↔ Vc n a c) ∧ paF X a (nI n) = Ac p9 n a c ∧ puF X a (nI n) = Bc p8 n a c := by
  have gl : ∀ i, gd n a c i < n := fun i => Nat.mod_lt _ (by omega)
  have eqn : ∀ i j, (nI (gd n a c i) = nI (gd n a c j)) ↔ gd n a c i = gd n a c j := fun i j => by
    have := gl i
    have := gl j
    exact nI_eq (by omega) (by omega)
  have hT := Tr_of h hn (by omega) hX
  have m48 : a * n ≤ 48 := by
    have : a * n ≤ 3 * n := Nat.mul_le_mul_right n (by omega)
    omega
  have e24 : (X 24 2).toNatClampNeg = a * n := by rw [hT.1, nI_clamp (by omega)]
  have pp : ∀ i, i < a → pullV X 24 (a * n) (nI i * nI n + X 101 i).toNatClampNeg = p8 i (gd n a c i) ∧ partV X 24 (a * n) (nI i * nI n + X 101 i).toNatClampNeg = p9 i (gd n a c i) := fun i hi => by
    rw [ix_t hn (by omega) (gl i) (hd i hi)]
    exact hT.2 i hi _ (gl i)
  rcases ha with rfl | rfl | rfl
  · obtain ⟨a1, a2⟩ := pp 0 (by decide)
    refine ⟨⟨fun _ => ⟨fun z => absurd z (by decide), fun z => absurd z (by decide)⟩, fun _ => by unfold apF f_X11_apart1; rw [if_pos rfl]; decide⟩, ?_, ?_⟩
    · unfold paF f_X11_partingOf1 Ac smA pS
      rw [if_pos rfl, if_pos rfl, e24, show (0 * nI n + X 101 (0 : Int32).toNatClampNeg) = nI 0 * nI n + X 101 0 from rfl, a2]
      dsimp only
      generalize p9 0 (gd n 1 c 0) = x
      by_cases hx : x = -9 <;> simp [hx]
    · unfold puF f_X11_pullsOf1 Bc smA
      rw [if_pos rfl, if_pos rfl, e24, show (0 * nI n + X 101 (0 : Int32).toNatClampNeg) = nI 0 * nI n + X 101 0 from rfl, a1]
  · obtain ⟨a1, a2⟩ := pp 0 (by decide)
    obtain ⟨b1, b2⟩ := pp 1 (by decide)
    refine ⟨?_, ?_, ?_⟩
    · unfold apF f_X11_apart2 Vc
      rw [if_neg (by decide), if_pos rfl, show X 101 (1 : Int32).toNatClampNeg = nI (gd n 2 c 1) from hd 1 (by decide), show X 101 (0 : Int32).toNatClampNeg = nI (gd n 2 c 0) from hd 0 (by decide)]
      by_cases c : nI (gd n 2 c 1) = nI (gd n 2 c 0)
      · rw [if_pos c]
        exact ⟨fun z => absurd rfl z, fun z => absurd ((eqn 1 0).mp c) (z.1 (by decide))⟩
      · rw [if_neg c]
        exact ⟨fun _ => ⟨fun _ z => c ((eqn 1 0).mpr z), fun z => absurd z (by decide)⟩, fun _ => by decide⟩
    · unfold paF f_X11_partingOf2 Ac smA pS
      rw [if_neg (by decide), if_pos rfl, if_neg (show ¬ (2 : Nat) = 1 by decide), if_pos (show (2 : Nat) = 2 from rfl), e24, show (0 * nI n + X 101 (0 : Int32).toNatClampNeg) = nI 0 * nI n + X 101 0 from rfl, a2, show ((0 + 1) * nI n + X 101 (0 + 1 : Int32).toNatClampNeg) = nI 1 * nI n + X 101 1 from rfl, b2]
      dsimp only
      generalize p9 0 (gd n 2 c 0) = x
      generalize p9 1 (gd n 2 c 1) = y
      by_cases hx : x = -9 <;> by_cases hy : y = -9 <;> simp [hx, hy]
    · unfold puF f_X11_pullsOf2 Bc smA
      rw [if_neg (by decide), if_pos rfl, if_neg (show ¬ (2 : Nat) = 1 by decide), if_pos (show (2 : Nat) = 2 from rfl), e24, show (0 * nI n + X 101 (0 : Int32).toNatClampNeg) = nI 0 * nI n + X 101 0 from rfl, a1, show ((0 + 1) * nI n + X 101 (0 + 1 : Int32).toNatClampNeg) = nI 1 * nI n + X 101 1 from rfl, b1]
  · obtain ⟨a1, a2⟩ := pp 0 (by decide)
    obtain ⟨b1, b2⟩ := pp 1 (by decide)
    obtain ⟨c1, c2⟩ := pp 2 (by decide)
    refine ⟨?_, ?_, ?_⟩
    · unfold apF f_X11_apart3 Vc
      rw [if_neg (by decide), if_neg (by decide), show X 101 (1 : Int32).toNatClampNeg = nI (gd n 3 c 1) from hd 1 (by decide), show X 101 (0 : Int32).toNatClampNeg = nI (gd n 3 c 0) from hd 0 (by decide), show X 101 (1 + 1 : Int32).toNatClampNeg = nI (gd n 3 c 2) from hd 2 (by decide), show X 101 (0 + 1 : Int32).toNatClampNeg = nI (gd n 3 c 1) from hd 1 (by decide)]
      by_cases d1 : nI (gd n 3 c 1) = nI (gd n 3 c 0)
      · rw [if_pos d1]
        exact ⟨fun z => absurd rfl z, fun z => absurd ((eqn 1 0).mp d1) (z.1 (by decide))⟩
      rw [if_neg d1]
      by_cases d2 : nI (gd n 3 c 2) = nI (gd n 3 c 0)
      · rw [if_pos d2]
        exact ⟨fun z => absurd rfl z, fun z => absurd ((eqn 2 0).mp d2) (z.2 (by decide)).1⟩
      rw [if_neg d2]
      by_cases d3 : nI (gd n 3 c 2) = nI (gd n 3 c 1)
      · rw [if_pos d3]
        exact ⟨fun z => absurd rfl z, fun z => absurd ((eqn 2 1).mp d3) (z.2 (by decide)).2⟩
      rw [if_neg d3]
      exact ⟨fun _ => ⟨fun _ z => d1 ((eqn 1 0).mpr z), fun _ => ⟨fun z => d2 ((eqn 2 0).mpr z), fun z => d3 ((eqn 2 1).mpr z)⟩⟩, fun _ => by decide⟩
    · unfold paF f_X11_partingOf3 Ac smA pS
      rw [if_neg (by decide), if_neg (by decide), if_neg (show ¬ (3 : Nat) = 1 by decide), if_neg (show ¬ (3 : Nat) = 2 by decide), e24, show (0 * nI n + X 101 (0 : Int32).toNatClampNeg) = nI 0 * nI n + X 101 0 from rfl, a2, show ((0 + 1) * nI n + X 101 (0 + 1 : Int32).toNatClampNeg) = nI 1 * nI n + X 101 1 from rfl, b2, show ((0 + 1 + 1) * nI n + X 101 (0 + 1 + 1 : Int32).toNatClampNeg) = nI 2 * nI n + X 101 2 from rfl, c2]
      dsimp only
      generalize p9 0 (gd n 3 c 0) = x
      generalize p9 1 (gd n 3 c 1) = y
      generalize p9 2 (gd n 3 c 2) = z
      by_cases hx : x = -9 <;> by_cases hy : y = -9 <;> by_cases hz : z = -9 <;> simp [hx, hy, hz]
    · unfold puF f_X11_pullsOf3 Bc smA
      rw [if_neg (by decide), if_neg (by decide), if_neg (show ¬ (3 : Nat) = 1 by decide), if_neg (show ¬ (3 : Nat) = 2 by decide), e24, show (0 * nI n + X 101 (0 : Int32).toNatClampNeg) = nI 0 * nI n + X 101 0 from rfl, a1, show ((0 + 1) * nI n + X 101 (0 + 1 : Int32).toNatClampNeg) = nI 1 * nI n + X 101 1 from rfl, b1, show ((0 + 1 + 1) * nI n + X 101 (0 + 1 + 1 : Int32).toNatClampNeg) = nI 2 * nI n + X 101 2 from rfl, c1]
theorem p3_le {n a : Nat} (hn : n ≤ 16) (ha : a ≤ 3) : n ^ a ≤ 4096 := Nat.le_trans (Nat.pow_le_pow_left hn a) (Nat.le_trans (Nat.pow_le_pow_right (by decide) ha) (by decide))
theorem bb_sc {W : Im} {n a : Nat} {p8 p9 : Nat → Nat → Int32} (h : Tr W n a p8 p9) (n3 : 3 ≤ n) (hn : n ≤ 16) (ha : a = 1 ∨ a = 2 ∨ a = 3) : ∀ k, k ≤ n ^ a → Sc (Vc n a) (Ac p9 n a) (Bc p8 n a) (fun x => x < 0) k (bbN W a n k).1 (bbN W a n k).2.1 (bbN W a n k).2.2.1 := by
  have big := p3_le (n := n) (a := a) hn (by omega)
  intro k
  induction k with
  | zero =>
    intro _
    rw [bbN_0]
    exact sc_0 (show (-1 : Int32) < 0 by decide)
  | succ k ih =>
    intro hk
    have i0 := ih (by omega)
    obtain ⟨e1, e2, e3⟩ := ev_c (X := spF (bbN W a n k).2.2.2 n k a a) (c := k) h n3 hn ha (fun j hj => by rw [spF_off (by omega), bbN_off (by omega)]) (fun i hi => spF_at a (Nat.le_refl a) hi (by omega))
    rw [bbN_s]
    by_cases v : Vc n a k
    · rw [if_neg (e1.mpr v), e2, e3]
      by_cases c : (bbN W a n k).1 < 0 ∨ Ac p9 n a k < (bbN W a n k).2.1 ∨ (Ac p9 n a k = (bbN W a n k).2.1 ∧ Bc p8 n a k < (bbN W a n k).2.2.1)
      · rw [if_pos c]
        exact sc_yes (by omega) (fun i hi => Int32.not_lt.mpr (nI_pos' hi)) v c i0
      · rw [if_neg c]
        exact sc_keep v c i0
    · rw [if_pos (Decidable.not_not.mp (fun z => v (e1.mp z)))]
      exact sc_no v i0
theorem bb_fa {W : Im} {n a : Nat} {p8 p9 : Nat → Nat → Int32} (h : Tr W n a p8 p9) (n3 : 3 ≤ n) (hn : n ≤ 16) (ha : a = 1 ∨ a = 2 ∨ a = 3) : ∃ c, FA (Vc n a) (Ac p9 n a) (Bc p8 n a) (n ^ a) c ∧ bbF W a n = nI c ∧ c < 4096 := by
  have big := p3_le (n := n) (a := a) hn (by omega)
  have ex : ∃ c, c < n ^ a ∧ Vc n a c := by
    rcases ha with rfl | rfl | rfl
    · exact ⟨0, by rw [Nat.pow_one]; omega, fun z => absurd z (by decide), fun z => absurd z (by decide)⟩
    · refine ⟨1, ?_, fun _ => ?_, fun z => absurd z (by decide)⟩
      · rw [Nat.pow_two]
        have := Nat.mul_le_mul n3 n3
        omega
      · unfold gd
        rw [show 2 - 1 - 1 = 0 from rfl, show 2 - 1 - 0 = 1 from rfl, Nat.pow_zero, Nat.pow_one, Nat.div_one, Nat.mod_eq_of_lt (by omega), Nat.div_eq_of_lt (by omega), Nat.zero_mod]
        omega
    · have e : (n + 2) / n = 1 := by rw [Nat.add_div_left _ (by omega), Nat.div_eq_of_lt (by omega)]
      have e2 : (n + 2) / n ^ 2 = 0 := by
        rw [Nat.pow_two]
        refine Nat.div_eq_of_lt ?_
        have := Nat.mul_le_mul_right n n3
        omega
      refine ⟨n + 2, ?_, fun _ => ?_, fun _ => ⟨?_, ?_⟩⟩
      · have hh : n = 3 ∨ n = 4 ∨ n = 5 ∨ n = 6 ∨ n = 7 ∨ n = 8 ∨ n = 9 ∨ n = 10 ∨ n = 11 ∨ n = 12 ∨ n = 13 ∨ n = 14 ∨ n = 15 ∨ n = 16 := by omega
        clear e e2
        rcases hh with rfl | rfl | rfl | rfl | rfl | rfl | rfl | rfl | rfl | rfl | rfl | rfl | rfl | rfl <;> decide
      · unfold gd
        rw [show 3 - 1 - 1 = 1 from rfl, show 3 - 1 - 0 = 2 from rfl, Nat.pow_one, e, e2, Nat.mod_eq_of_lt (by omega), Nat.zero_mod]
        omega
      · unfold gd
        rw [show 3 - 1 - 2 = 0 from rfl, show 3 - 1 - 0 = 2 from rfl, Nat.pow_zero, Nat.div_one, e2, Nat.add_mod_left, Nat.mod_eq_of_lt (by omega), Nat.zero_mod]
        omega
      · unfold gd
        rw [show 3 - 1 - 2 = 0 from rfl, show 3 - 1 - 1 = 1 from rfl, Nat.pow_zero, Nat.pow_one, Nat.div_one, e, Nat.add_mod_left, Nat.mod_eq_of_lt (by omega), Nat.mod_eq_of_lt (by omega)]
        omega
  obtain ⟨c0, hc0, v0⟩ := ex
  rcases bb_sc h n3 hn ha (n ^ a) (Nat.le_refl _) with ⟨-, z⟩ | ⟨c, f, ec, -, -⟩
  · exact absurd v0 (z c0 hc0)
  · have cl := f.1
    refine ⟨c, f, ?_, by omega⟩
    unfold bbF
    rw [ec]
    by_cases p : 0 < nI c
    · rw [if_pos p]
    · rw [if_neg p]
      exact Int32.le_antisymm (nI_pos' (by omega)) (Int32.not_lt.mp p)
end
end R40
