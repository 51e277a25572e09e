section R29
variable {G : Gp} {I : Im} {L : Nat → Nat → Int64} {t : Nat}
section
theorem sq_nn (x : Rat) : 0 ≤ x * x := by
  rcases (Rat.le_total : 0 ≤ x ∨ x ≤ 0) with h | h
  · exact Rat.mul_nonneg h h
  · have : 0 ≤ (-x) * (-x) := Rat.mul_nonneg (by grind) (by grind)
    grind
def sR (u : Nat → Rat) : Nat → Rat
  | 0 => 0
  | k + 1 => sR u k + u k
/-- the energy at one cell: what stands, what flows behind it -/
def eT (P : Nat → Rat) (b : Rat) (w h f : Nat → Rat) (i : Nat) : Rat := P i * (h i * h i) + b * w i * (f i * f i) + f i * (h i - h (i + 1))
def prv (f : Nat → Rat) (i : Nat) : Rat := if i = 0 then 0 else f (i - 1)
theorem cell_le {P g G h k : Rat} (hc : (P = 1 ∧ G = 1) ∨ (G * g = 1 ∧ 1 ≤ g ∧ 0 ≤ G ∧ 2 * P = 1 + g)) : P * ((G * k) * (G * k)) + (h - k) * (G * k) ≤ (P - 1) * (h * h) + h * k := by
  rcases hc with ⟨rfl, rfl⟩ | ⟨h1, h2, h3, h4⟩
  · grind
  · have q : 0 ≤ (g - 1) * ((h + G * k) * (h + G * k)) := Rat.mul_nonneg (by grind) (sq_nn _)
    have e : 2 * ((P - 1) * (h * h) + h * k - (P * ((G * k) * (G * k)) + (h - k) * (G * k))) = (g - 1) * ((h + G * k) * (h + G * k)) := by grind
    grind
theorem edge_le {b a al w c f f' D : Rat} (ha : al * a = 1) (a1 : 1 ≤ a) (hb : 2 * b = 1 + a) (hw : 0 ≤ w) (hf : f' = al * (f + c * D)) (hc : w * c = 1 ∨ (c = 0 ∧ f = 0)) : b * w * (f' * f') - f' * D ≤ b * w * (f * f) + f * D := by
  rcases hc with h1 | ⟨h1, h2⟩
  · have eD : D = w * (a * f' - f) := by grind
    have q : 0 ≤ w * ((a - 1) * ((f + f') * (f + f'))) := Rat.mul_nonneg hw (Rat.mul_nonneg (by grind) (sq_nn _))
    have e : 2 * (b * w * (f * f) + f * D - (b * w * (f' * f') - f' * D)) = w * ((a - 1) * ((f + f') * (f + f'))) := by grind
    grind
  · have e1 : f' = 0 := by grind
    rw [e1, h2]
    grind
/-- a step that is exact does not raise the energy -/
theorem en_step {P w c h f h' f' G g : Nat → Rat} {b a al : Rat} {n : Nat} (ha : al * a = 1) (a1 : 1 ≤ a) (hb : 2 * b = 1 + a) (hw : ∀ i, 0 ≤ w i) (hP : ∀ i, (P i = 1 ∧ G i = 1) ∨ (G i * g i = 1 ∧ 1 ≤ g i ∧ 0 ≤ G i ∧ 2 * P i = 1 + g i)) (hc : ∀ i, i < n → w i * c i = 1 ∨ (c i = 0 ∧ f i = 0)) (hf : ∀ i, i < n → f' i = al * (f i + c i * (h i - h (i + 1)))) (hh : ∀ i, i < n → h' i = G i * (h i + prv f' i - f' i)) : ∀ k, k ≤ n → sR (eT P b w h' f') k + prv f' k * (h' k + h k) ≤ sR (eT P b w h f) k := by
  intro k
  induction k with
  | zero =>
    intro _
    show (0 : Rat) + 0 * (h' 0 + h 0) ≤ 0
    grind
  | succ k ih =>
    intro hk
    have i0 := ih (by omega)
    have e1 := edge_le ha a1 hb (hw k) (hf k (by omega)) (hc k (by omega))
    have e2 := cell_le (h := h k) (k := h k + prv f' k - f' k) (hP k)
    have e3 := hh k (by omega)
    have e4 : prv f' (k + 1) = f' k := by
      unfold prv
      rw [if_neg (by omega)]
      rfl
    rw [← e3] at e2
    rw [e4]
    show sR (eT P b w h' f') k + eT P b w h' f' k + f' k * (h' (k + 1) + h (k + 1)) ≤ sR (eT P b w h f) k + eT P b w h f k
    unfold eT at i0 ⊢
    grind
theorem en_pos1 {P b w h f h1 : Rat} (hP : 1 ≤ P) (hb : 1 ≤ b) (hw : 16 / 9 ≤ w ∨ f = 0) : 5 / 8 * (h * h) + 4 / 9 * (f * f) - 3 / 8 * (h1 * h1) ≤ P * (h * h) + b * w * (f * f) + f * (h - h1) := by
  have q1 : 0 ≤ (P - 1) * (h * h) := Rat.mul_nonneg (by grind) (sq_nn _)
  rcases hw with hw | rfl
  · have q2 : 0 ≤ (b - 1) * (w * (f * f)) := Rat.mul_nonneg (by grind) (Rat.mul_nonneg (by grind) (sq_nn _))
    have q3 : 0 ≤ (w - 16 / 9) * (f * f) := Rat.mul_nonneg (by grind) (sq_nn _)
    have q4 := sq_nn (4 * f + 3 * h)
    have q5 := sq_nn (4 * f - 3 * h1)
    grind
  · have q4 := sq_nn h
    have q5 := sq_nn h1
    grind
def qT (h f : Nat → Rat) (i : Nat) : Rat := 1 / 4 * (h i * h i) + 4 / 9 * (f i * f i)
theorem en_pos {P w h f : Nat → Rat} {b : Rat} {n : Nat} (hP : ∀ i, 1 ≤ P i) (hb : 1 ≤ b) (hw : ∀ i, i < n → 16 / 9 ≤ w i ∨ f i = 0) : ∀ k, k ≤ n → sR (qT h f) k ≤ sR (eT P b w h f) k + 3 / 8 * (h k * h k) := by
  intro k
  induction k with
  | zero =>
    intro _
    have := sq_nn (h 0)
    show (0 : Rat) ≤ 0 + 3 / 8 * (h 0 * h 0)
    grind
  | succ k ih =>
    intro hk
    have i0 := ih (by omega)
    have e := en_pos1 (h := h k) (h1 := h (k + 1)) (hP k) hb (hw k (by omega))
    show sR (qT h f) k + qT h f k ≤ sR (eT P b w h f) k + eT P b w h f k + 3 / 8 * (h (k + 1) * h (k + 1))
    unfold qT eT at i0 ⊢
    grind
theorem en_posn {P w h f : Nat → Rat} {b : Rat} {n : Nat} (hP : ∀ i, 1 ≤ P i) (hb : 1 ≤ b) (hw : ∀ i, i < n → 16 / 9 ≤ w i ∨ f i = 0) (n1 : 1 ≤ n) (hf : f (n - 1) = 0) : sR (qT h f) n ≤ sR (eT P b w h f) n := by
  obtain ⟨k, rfl⟩ : ∃ k, n = k + 1 := ⟨n - 1, by omega⟩
  have hf' : f k = 0 := hf
  have i0 := en_pos (h := h) hP hb hw k (by omega)
  have q1 : 0 ≤ (P k - 1) * (h k * h k) := Rat.mul_nonneg (by have := hP k; grind) (sq_nn _)
  have q2 := sq_nn (h k)
  show sR (qT h f) k + qT h f k ≤ sR (eT P b w h f) k + eT P b w h f k
  have e1 : qT h f k = 1 / 4 * (h k * h k) := by
    unfold qT
    rw [hf']
    grind
  have e2 : eT P b w h f k = P k * (h k * h k) := by
    unfold eT
    rw [hf']
    grind
  rw [e1, e2]
  grind
theorem sR_nn {u : Nat → Rat} : ∀ k, (∀ i, i < k → 0 ≤ u i) → 0 ≤ sR u k := by
  intro k
  induction k with
  | zero => intro _; exact Rat.le_refl
  | succ k ih =>
    intro h
    have a := ih (fun i hi => h i (by omega))
    have b := h k (by omega)
    show 0 ≤ sR u k + u k
    grind
theorem sR_one {u : Nat → Rat} : ∀ k, (∀ i, i < k → 0 ≤ u i) → ∀ j, j < k → u j ≤ sR u k := by
  intro k
  induction k with
  | zero => intro _ j hj; exact absurd hj (Nat.not_lt_zero j)
  | succ k ih =>
    intro h j hj
    have b := h k (by omega)
    show u j ≤ sR u k + u k
    by_cases e : j = k
    · subst e
      have := sR_nn j (fun i hi => h i (by omega))
      grind
    · have a := ih (fun i hi => h i (by omega)) j (by omega)
      grind
theorem sR_le {u : Nat → Rat} {T : Rat} (hT : 0 ≤ T) : ∀ k, k ≤ 16 → (∀ i, i < k → u i ≤ T) → sR u k ≤ (k : Rat) * T := by
  intro k
  induction k with
  | zero =>
    intro _ _
    show (0 : Rat) ≤ ((0 : Nat) : Rat) * T
    grind
  | succ k ih =>
    intro hk h
    have a := ih (by omega) (fun i hi => h i (by omega))
    have b := h k (by omega)
    show sR u k + u k ≤ ((k + 1 : Nat) : Rat) * T
    have : ((k + 1 : Nat) : Rat) = (k : Rat) + 1 := by grind
    rw [this]
    grind
theorem qT_nn {h f : Nat → Rat} (i : Nat) : 0 ≤ qT h f i := by
  have := sq_nn (h i)
  have := sq_nn (f i)
  unfold qT
  grind
/-- the energy of a sum -/
theorem en_mix {P w y v e u : Nat → Rat} {b t : Rat} : ∀ k, t * sR (eT P b w (fun i => y i + e i) (fun i => v i + u i)) k + sR (eT P b w (fun i => y i - t * e i) (fun i => v i - t * u i)) k = (t + 1) * sR (eT P b w y v) k + t * (t + 1) * sR (eT P b w e u) k := by
  intro k
  induction k with
  | zero =>
    show t * 0 + 0 = (t + 1) * 0 + t * (t + 1) * 0
    grind
  | succ k ih =>
    show t * (sR (eT P b w (fun i => y i + e i) (fun i => v i + u i)) k + eT P b w (fun i => y i + e i) (fun i => v i + u i) k) + (sR (eT P b w (fun i => y i - t * e i) (fun i => v i - t * u i)) k + eT P b w (fun i => y i - t * e i) (fun i => v i - t * u i) k) = (t + 1) * (sR (eT P b w y v) k + eT P b w y v k) + t * (t + 1) * (sR (eT P b w e u) k + eT P b w e u k)
    have t1 : t * eT P b w (fun i => y i + e i) (fun i => v i + u i) k + eT P b w (fun i => y i - t * e i) (fun i => v i - t * u i) k = (t + 1) * eT P b w y v k + t * (t + 1) * eT P b w e u k := by
      unfold eT
      dsimp only
      grind
    grind
end
end R29
