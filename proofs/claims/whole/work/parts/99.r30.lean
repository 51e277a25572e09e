section R30
variable {G : Gp} {I : Im} {L : Nat → Nat → Int64} {t : Nat}
section
theorem inv_ex {x : Rat} (h1 : 0 < x) (h2 : x ≤ 1) : ∃ a, x * a = 1 ∧ 1 ≤ a := by
  refine ⟨x⁻¹, Rat.mul_inv_cancel x (by grind), ?_⟩
  have e : x * x⁻¹ = 1 := Rat.mul_inv_cancel x (by grind)
  rcases (Rat.le_total : 1 ≤ x⁻¹ ∨ x⁻¹ ≤ 1) with h | h
  · exact h
  · have q : 0 ≤ (1 - x⁻¹) * x := Rat.mul_nonneg (by grind) (by grind)
    have q2 : 1 ≤ x := by grind
    have q3 : x = 1 := by grind
    rw [q3] at e ⊢
    grind
theorem inv_le {x a y : Rat} (e : x * a = 1) (h : x * y = 1) (hx : 0 < x) : a = y := by
  have : x * (a - y) = 0 := by grind
  grind
theorem inv_up {x a m y : Rat} (e : x * a = 1) (hm : 0 < m) (hx : m ≤ x) (hy : m * y = 1) (h0 : 0 ≤ y) : a ≤ y := by
  rcases (Rat.le_total : a ≤ y ∨ y ≤ a) with h | h
  · exact h
  · have q : 0 ≤ (x - m) * a := Rat.mul_nonneg (by grind) (by grind)
    have q2 : 0 ≤ m * (a - y) := Rat.mul_nonneg (by grind) (by grind)
    have q3 : m * (a - y) = 0 := by grind
    grind
/-- the exact step -/
def fEx (al : Rat) (c h f : Nat → Rat) (i : Nat) : Rat := al * (f i + c i * (h i - h (i + 1)))
def hEx (al : Rat) (c h f G : Nat → Rat) (i : Nat) : Rat := G i * (h i + prv (fEx al c h f) i - fEx al c h f i)
theorem dT_le {P b w x x1 u : Rat} (P1 : 1 ≤ P) (P2 : P ≤ 2) (b1 : 1 ≤ b) (b2 : b ≤ 2) (w1 : 0 ≤ w) (w2 : w ≤ 16) (x1l : -1000 ≤ x) (x1u : x ≤ 1000) (ul : -2 ≤ u) (uu : u ≤ 2) (hz : u = 0 ∨ (-1000 ≤ x1 ∧ x1 ≤ 1000)) : P * (x * x) + b * w * (u * u) + u * (x - x1) ≤ 2100000 := by
  have q1 : 0 ≤ (1000 - x) * (1000 + x) := Rat.mul_nonneg (by grind) (by grind)
  have q2 : 0 ≤ (2 - P) * (x * x) := Rat.mul_nonneg (by grind) (sq_nn _)
  have q3 : 0 ≤ (2 - u) * (2 + u) := Rat.mul_nonneg (by grind) (by grind)
  have q4 : 0 ≤ (2 - b) * (w * (u * u)) := Rat.mul_nonneg (by grind) (Rat.mul_nonneg w1 (sq_nn _))
  have q5 : 0 ≤ (16 - w) * (u * u) := Rat.mul_nonneg (by grind) (sq_nn _)
  rcases hz with rfl | ⟨z1, z2⟩
  · grind
  · have q6 : 0 ≤ (2 - u) * (2000 + (x - x1)) := Rat.mul_nonneg (by grind) (by grind)
    have q7 : 0 ≤ (2 + u) * (2000 - (x - x1)) := Rat.mul_nonneg (by grind) (by grind)
    grind
/-- one second, with what is cut off and what is pushed -/
theorem en_next {P w c h f h2 f2 G g : Nat → Rat} {b a al t : Rat} {n : Nat} (n1 : 1 ≤ n) (n16 : n ≤ 16) (ht : 1 ≤ t) (ha : al * a = 1) (a1 : 1 ≤ a) (hb : 2 * b = 1 + a) (b2 : b ≤ 2) (hw : ∀ i, 16 / 9 ≤ w i ∧ w i ≤ 16) (hP : ∀ i, (P i = 1 ∧ G i = 1) ∨ (G i * g i = 1 ∧ 1 ≤ g i ∧ 0 ≤ G i ∧ 2 * P i = 1 + g i)) (P2 : ∀ i, 1 ≤ P i ∧ P i ≤ 2) (hc : ∀ i, i < n → w i * c i = 1 ∨ (c i = 0 ∧ f i = 0)) (hz : f (n - 1) = 0) (cz : c (n - 1) = 0) (fz : f2 (n - 1) = 0) (hf : ∀ i, i < n → -2 ≤ f2 i - fEx al c h f i ∧ f2 i - fEx al c h f i ≤ 2) (hh : ∀ i, i < n → -1000 ≤ h2 i - hEx al c h f G i ∧ h2 i - hEx al c h f G i ≤ 1000) (hE : sR (eT P b w h f) n ≤ t * t * 33600000) : sR (eT P b w h2 f2) n ≤ (t + 1) * (t + 1) * 33600000 := by
  have st := en_step (P := P) (w := w) (c := c) (h := h) (f := f) (h' := hEx al c h f G) (f' := fEx al c h f) (G := G) (g := g) ha a1 hb (fun i => by have := (hw i).1; grind) hP hc (fun i hi => rfl) (fun i hi => rfl) n (Nat.le_refl n)
  have xz : fEx al c h f (n - 1) = 0 := by
    unfold fEx
    rw [hz, cz]
    grind
  have pz : prv (fEx al c h f) n = 0 := by
    unfold prv
    rw [if_neg (by omega)]
    exact xz
  rw [pz] at st
  have mix := en_mix (P := P) (w := w) (y := hEx al c h f G) (v := fEx al c h f) (e := fun i => h2 i - hEx al c h f G i) (u := fun i => f2 i - fEx al c h f i) (b := b) (t := t) n
  have e1 : (fun i => hEx al c h f G i + (h2 i - hEx al c h f G i)) = h2 := by
    funext i
    grind
  have e2 : (fun i => fEx al c h f i + (f2 i - fEx al c h f i)) = f2 := by
    funext i
    grind
  rw [e1, e2] at mix
  have b1 : 1 ≤ b := by grind
  have pos := en_posn (P := P) (w := w) (h := fun i => hEx al c h f G i - t * (h2 i - hEx al c h f G i)) (f := fun i => fEx al c h f i - t * (f2 i - fEx al c h f i)) (b := b) (n := n) (fun i => (P2 i).1) b1 (fun i hi => Or.inl (hw i).1) n1 (by rw [xz, fz]; grind)
  have pos2 := sR_nn (u := qT (fun i => hEx al c h f G i - t * (h2 i - hEx al c h f G i)) (fun i => fEx al c h f i - t * (f2 i - fEx al c h f i))) n (fun i hi => qT_nn i)
  have dd : sR (eT P b w (fun i => h2 i - hEx al c h f G i) (fun i => f2 i - fEx al c h f i)) n ≤ (n : Rat) * 2100000 := by
    refine sR_le (by grind) n n16 (fun i hi => ?_)
    unfold eT
    dsimp only
    refine dT_le (P2 i).1 (P2 i).2 b1 b2 (by have := (hw i).1; grind) (hw i).2 (hh i hi).1 (hh i hi).2 (hf i hi).1 (hf i hi).2 ?_
    by_cases e : i + 1 < n
    · exact Or.inr (hh (i + 1) e)
    · left
      have : i = n - 1 := by omega
      rw [this, xz, fz]
      grind
  have nn : (n : Rat) ≤ 16 := by exact_mod_cast n16
  have dd2 : sR (eT P b w (fun i => h2 i - hEx al c h f G i) (fun i => f2 i - fEx al c h f i)) n ≤ 33600000 := by grind
  have q1 : 0 ≤ t * (t + 1) * (33600000 - sR (eT P b w (fun i => h2 i - hEx al c h f G i) (fun i => f2 i - fEx al c h f i)) n) := Rat.mul_nonneg (Rat.mul_nonneg (by grind) (by grind)) (by grind)
  have q2 : 0 ≤ (t + 1) * (t * t * 33600000 - sR (eT P b w (hEx al c h f G) (fEx al c h f)) n) := Rat.mul_nonneg (by grind) (by grind)
  have q3 : t * sR (eT P b w h2 f2) n ≤ t * ((t + 1) * (t + 1) * 33600000) := by grind
  rcases (Rat.le_total : sR (eT P b w h2 f2) n ≤ (t + 1) * (t + 1) * 33600000 ∨ (t + 1) * (t + 1) * 33600000 ≤ sR (eT P b w h2 f2) n) with h | h
  · exact h
  · have q4 : 0 ≤ (t - 1) * (sR (eT P b w h2 f2) n - (t + 1) * (t + 1) * 33600000) := Rat.mul_nonneg (by grind) (by grind)
    grind
end
end R30
