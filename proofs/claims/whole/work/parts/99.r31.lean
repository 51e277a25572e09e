section R31
variable {G : Gp} {I : Im} {L : Nat → Nat → Int64} {t : Nat}
section
theorem td_e (x : Int) {d : Int} (hd : 0 < d) : d * x.tdiv d ≤ x + d ∧ x - d ≤ d * x.tdiv d := by
  have h1 := Int.mul_tdiv_add_tmod x d
  have h2 := Int.tmod_lt_of_pos x hd
  have h3 := Int.lt_tmod_of_pos x hd
  omega
theorem td16 (x : Int) : -1 ≤ ((x.tdiv 16 : Int) : Rat) - (x : Rat) / 16 ∧ ((x.tdiv 16 : Int) : Rat) - (x : Rat) / 16 ≤ 1 := by
  obtain ⟨h1, h2⟩ := td_e x (d := 16) (by decide)
  have g1 : (16 : Rat) * ((x.tdiv 16 : Int) : Rat) ≤ (x : Rat) + 16 := by exact_mod_cast h1
  have g2 : (x : Rat) - 16 ≤ (16 : Rat) * ((x.tdiv 16 : Int) : Rat) := by exact_mod_cast h2
  constructor <;> grind
theorem td64 (x : Int) : -1 ≤ ((x.tdiv 64 : Int) : Rat) - (x : Rat) / 64 ∧ ((x.tdiv 64 : Int) : Rat) - (x : Rat) / 64 ≤ 1 := by
  obtain ⟨h1, h2⟩ := td_e x (d := 64) (by decide)
  have g1 : (64 : Rat) * ((x.tdiv 64 : Int) : Rat) ≤ (x : Rat) + 64 := by exact_mod_cast h1
  have g2 : (x : Rat) - 64 ≤ (64 : Rat) * ((x.tdiv 64 : Int) : Rat) := by exact_mod_cast h2
  constructor <;> grind
def alR (r : Int) : Rat := 1 - (r : Rat) / 64
def bR (r : Int) : Rat := (1 + (alR r)⁻¹) / 2
def cR (o : Nat → Int) (i : Nat) : Rat := (o i : Rat) / 16
def wR (o : Nat → Int) (i : Nat) : Rat := if o i = 0 then 16 else (cR o i)⁻¹
def GR (g : Int) (mo i : Nat) : Rat := if i = mo then 1 - (g : Rat) / 16 else 1
def PR (g : Int) (mo i : Nat) : Rat := (1 + (GR g mo i)⁻¹) / 2
def En (o : Nat → Int) (r g : Int) (mo n : Nat) (H F : Nat → Int) : Rat := sR (eT (PR g mo) (bR r) (wR o) (fun i => (H i : Rat)) (fun i => (F i : Rat))) n
theorem inv_f {x y m : Rat} (hm : 0 < m) (hx : m ≤ x) (h1 : x ≤ 1) (hy : m * y = 1) (h0 : 0 ≤ y) : x * x⁻¹ = 1 ∧ 1 ≤ x⁻¹ ∧ x⁻¹ ≤ y := by
  have e : x * x⁻¹ = 1 := Rat.mul_inv_cancel x (by grind)
  obtain ⟨a, ha, a1⟩ := inv_ex (x := x) (by grind) h1
  have : x⁻¹ = a := inv_le e ha (by grind)
  rw [this]
  exact ⟨ha, a1, inv_up ha hm hx hy h0⟩
theorem al_f {r : Int} (r0 : 0 ≤ r) (r9 : r ≤ 9) : alR r * (alR r)⁻¹ = 1 ∧ 1 ≤ (alR r)⁻¹ ∧ (alR r)⁻¹ ≤ 64 / 55 ∧ 0 ≤ alR r ∧ alR r ≤ 1 := by
  have h0 : (0 : Rat) ≤ (r : Rat) := by exact_mod_cast r0
  have h9 : (r : Rat) ≤ 9 := by exact_mod_cast r9
  obtain ⟨q1, q2, q3⟩ := inv_f (x := alR r) (y := 64 / 55) (m := 55 / 64) (by grind) (by unfold alR; grind) (by unfold alR; grind) (by grind) (by grind)
  exact ⟨q1, q2, q3, by unfold alR; grind, by unfold alR; grind⟩
theorem G_f {g : Int} {mo i : Nat} (g0 : 0 ≤ g) (g9 : g ≤ 9) : GR g mo i * (GR g mo i)⁻¹ = 1 ∧ 1 ≤ (GR g mo i)⁻¹ ∧ (GR g mo i)⁻¹ ≤ 16 / 7 ∧ 0 ≤ GR g mo i ∧ GR g mo i ≤ 1 := by
  have h0 : (0 : Rat) ≤ (g : Rat) := by exact_mod_cast g0
  have h9 : (g : Rat) ≤ 9 := by exact_mod_cast g9
  have a : 7 / 16 ≤ GR g mo i ∧ GR g mo i ≤ 1 := by
    unfold GR
    split <;> constructor <;> grind
  obtain ⟨q1, q2, q3⟩ := inv_f (x := GR g mo i) (y := 16 / 7) (m := 7 / 16) (by grind) a.1 a.2 (by grind) (by grind)
  exact ⟨q1, q2, q3, by grind, a.2⟩
theorem w_f {o : Nat → Int} {i : Nat} (o0 : 0 ≤ o i) (o9 : o i ≤ 9) : 16 / 9 ≤ wR o i ∧ wR o i ≤ 16 ∧ (wR o i * cR o i = 1 ∨ cR o i = 0) := by
  unfold wR
  by_cases e : o i = 0
  · rw [if_pos e]
    refine ⟨by grind, by grind, Or.inr ?_⟩
    unfold cR
    rw [e]
    grind
  · rw [if_neg e]
    have h1 : (1 : Rat) ≤ (o i : Rat) := by
      have : 1 ≤ o i := by omega
      exact_mod_cast this
    have h9 : (o i : Rat) ≤ 9 := by exact_mod_cast o9
    have c1 : 1 / 16 ≤ cR o i ∧ cR o i ≤ 9 / 16 := by
      unfold cR
      constructor <;> grind
    have ec : cR o i * (cR o i)⁻¹ = 1 := Rat.mul_inv_cancel _ (by grind)
    refine ⟨?_, ?_, Or.inl (by grind)⟩
    · generalize (cR o i)⁻¹ = a at ec
      generalize cR o i = x at ec c1
      rcases (Rat.le_total : 16 / 9 ≤ a ∨ a ≤ 16 / 9) with h | h
      · exact h
      · have q1 : 0 ≤ (16 / 9 - a) * x := Rat.mul_nonneg (by grind) (by grind)
        have q2 : x = 9 / 16 := by grind
        have q3 : a = 16 / 9 := by
          rw [q2] at ec
          grind
        rw [q3]
        exact Rat.le_refl
    · exact inv_up ec (m := 1 / 16) (by grind) c1.1 (by grind) (by grind)
def prI (F : Nat → Int) (i : Nat) : Int := if i = 0 then 0 else F (i - 1)
def kI (H F : Nat → Int) (i : Nat) : Int := H i + prI F i - F i
def gI (H F o : Nat → Int) (i : Nat) : Int := F i + ((H i - H (i + 1)) * o i).tdiv 16
theorem err_f {H F F2 o : Nat → Int} {r : Int} {i : Nat} (r0 : 0 ≤ r) (r9 : r ≤ 9) (e : F2 i = gI H F o i - (gI H F o i * r).tdiv 64) : -2 ≤ (F2 i : Rat) - fEx (alR r) (cR o) (fun i => (H i : Rat)) (fun i => (F i : Rat)) i ∧ (F2 i : Rat) - fEx (alR r) (cR o) (fun i => (H i : Rat)) (fun i => (F i : Rat)) i ≤ 2 := by
  obtain ⟨-, -, -, l0, l1⟩ := al_f r0 r9
  obtain ⟨a1, a2⟩ := td16 ((H i - H (i + 1)) * o i)
  obtain ⟨b1, b2⟩ := td64 (gI H F o i * r)
  have e1 : (gI H F o i : Rat) = (F i : Rat) + ((((H i - H (i + 1)) * o i).tdiv 16 : Int) : Rat) := by
    unfold gI
    push_cast
    rfl
  have e2 : (F2 i : Rat) = (gI H F o i : Rat) - (((gI H F o i * r).tdiv 64 : Int) : Rat) := by
    rw [e]
    push_cast
    rfl
  have e3 : (((H i - H (i + 1)) * o i : Int) : Rat) = ((H i : Rat) - (H (i + 1) : Rat)) * (o i : Rat) := by
    push_cast
    rfl
  have e4 : ((gI H F o i * r : Int) : Rat) = (gI H F o i : Rat) * (r : Rat) := by
    push_cast
    rfl
  generalize (((H i - H (i + 1)) * o i).tdiv 16 : Int) = q1 at a1 a2 e1
  generalize ((gI H F o i * r).tdiv 64 : Int) = q2 at b1 b2 e2
  rw [e3] at a1 a2
  rw [e4] at b1 b2
  unfold fEx cR
  dsimp only
  have key : (F2 i : Rat) - alR r * ((F i : Rat) + (o i : Rat) / 16 * ((H i : Rat) - (H (i + 1) : Rat))) = alR r * ((q1 : Rat) - ((H i : Rat) - (H (i + 1) : Rat)) * (o i : Rat) / 16) - ((q2 : Rat) - (gI H F o i : Rat) * (r : Rat) / 64) := by
    rw [e2]
    unfold alR
    grind
  rw [key]
  generalize (q1 : Rat) - ((H i : Rat) - (H (i + 1) : Rat)) * (o i : Rat) / 16 = x at a1 a2
  generalize (q2 : Rat) - (gI H F o i : Rat) * (r : Rat) / 64 = y at b1 b2
  have p1 : 0 ≤ alR r * (1 - x) := Rat.mul_nonneg l0 (by grind)
  have p2 : 0 ≤ alR r * (1 + x) := Rat.mul_nonneg l0 (by grind)
  constructor <;> grind
end
end R31
