section N4
variable {G : Gp} {I : Im} {L : Nat → Nat → Int64} {t : Nat}
def mrN (J : Im) (s : Nat) (c g : Nat → Int32) (i : Nat) : Im :=
  match i with
  | 0 => J
  | k + 1 => moorI (mrN J s c g k) 24 (mrN J s c g k 24 2).toNatClampNeg s (c k) (g k)
termination_by i
theorem mrN_0 {J : Im} {s : Nat} {c g : Nat → Int32} : mrN J s c g 0 = J := by rw [mrN]
theorem mrN_s {J : Im} {s k : Nat} {c g : Nat → Int32} : mrN J s c g (k + 1) = moorI (mrN J s c g k) 24 (mrN J s c g k 24 2).toNatClampNeg s (c k) (g k) := by rw [mrN]
theorem mrN_m {J : Im} {s m0 : Nat} {c g : Nat → Int32} (h : J 24 2 = nI m0) : ∀ k, m0 + k < 2 ^ 31 → mrN J s c g k 24 2 = nI (m0 + k) := by
  intro k
  induction k with
  | zero => intro _; rw [mrN_0]; exact h
  | succ k ih =>
    intro hk
    rw [mrN_s, moorI_m, ih (by omega), nI_clamp (by omega)]
    rfl
theorem mrN_off {J : Im} {s m0 e : Nat} {c g : Nat → Int32} (h : J 24 2 = nI m0) (he : e < 24 ∨ 84 < e) : ∀ k, m0 + k ≤ 48 → mrN J s c g k e = J e := by
  intro k
  induction k with
  | zero => intro _; rw [mrN_0]
  | succ k ih =>
    intro hk
    rw [mrN_s, moorI_off (by omega) (by rw [mrN_m h k (by omega), nI_clamp (by omega)]; omega), ih (by omega)]
theorem ref_1 {f : Int32} : (f_X11_refuse I f).1 = -3 := by
  unfold f_X11_refuse
  dsimp only
  split <;> rfl
theorem refShip0 {s k z : Int32} (h : (f_X11_refusedShip I s k z).1 = 0) : (f_X11_refusedShip I s k z).2 = I ∧ ¬ b2i (0 ≤ s ∧ s ≤ 2) = 0 ∧ ¬ b2i (0 ≤ k ∧ k ≤ 3) = 0 ∧ ¬ b2i (0 ≤ z ∧ z ≤ 3) = 0 ∧ ¬ I (144 + s.toNatClampNeg) 0 = 0 ∧ ¬ I (124 + 2 * k.toNatClampNeg) 1 = 0 ∧ ¬ I (132 + 3 * z.toNatClampNeg) 2 = 0 := by
  unfold f_X11_refusedShip at h ⊢
  by_cases c0 : b2i (0 ≤ s ∧ s ≤ 2) = 0
  · rw [if_pos c0] at h
    exact absurd h (by decide)
  rw [if_neg c0] at h ⊢
  by_cases c1 : b2i (0 ≤ k ∧ k ≤ 3) = 0
  · rw [if_pos c1] at h
    exact absurd h (by decide)
  rw [if_neg c1] at h ⊢
  by_cases c2 : b2i (0 ≤ z ∧ z ≤ 3) = 0
  · rw [if_pos c2] at h
    exact absurd h (by decide)
  rw [if_neg c2] at h ⊢
  by_cases c3 : I (144 + s.toNatClampNeg) 0 = 0
  · rw [if_pos c3] at h
    exact absurd h (by decide)
  rw [if_neg c3] at h ⊢
  by_cases c4 : I (124 + 2 * k.toNatClampNeg) 1 = 0
  · rw [if_pos c4] at h
    exact absurd ((ref_1 (I := I) (f := 1)).symm.trans h) (by decide)
  rw [if_neg c4] at h ⊢
  by_cases c5 : I (132 + 3 * z.toNatClampNeg) 2 = 0
  · rw [if_pos c5] at h
    exact absurd ((ref_1 (I := I) (f := 1)).symm.trans h) (by decide)
  rw [if_neg c5] at h ⊢
  exact ⟨rfl, c0, c1, c2, c3, c4, c5⟩
end N4
