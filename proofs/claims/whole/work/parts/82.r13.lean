section R13
variable {G : Gp} {I : Im} {L : Nat → Nat → Int64} {t : Nat}
section
variable {C M D E : Im}
theorem nig_tree {α : Type} {a0 a1 a2 b0 b1 b2 : Prop} [Decidable a0] [Decidable a1] [Decidable a2] [Decidable b0] [Decidable b1] [Decidable b2] {x y : α} : (if a0 then (if a1 then (if a2 then y else if b2 then x else y) else if b1 then x else (if a2 then y else if b2 then x else y)) else if b0 then x else (if a1 then (if a2 then y else if b2 then x else y) else if b1 then x else (if a2 then y else if b2 then x else y))) = if (¬ a0 ∧ b0) ∨ (¬ a1 ∧ b1) ∨ (¬ a2 ∧ b2) then x else y := by
  by_cases h0 : a0 <;> by_cases h1 : a1 <;> by_cases h2 : a2 <;> by_cases g0 : b0 <;> by_cases g1 : b1 <;> by_cases g2 : b2 <;> simp [h0, h1, h2, g0, g1, g2]
def boN (J : Im) (s j : Nat) : Int32 := if j = 6 ∨ j = 7 ∨ j = 8 then 0 else if j = 9 then -9 else J (144 + s) j
theorem mo_at {X : Im} {k j : Nat} (hj : j ≤ 9) : moorI X 8 k (144 + k) (X (144 + k) 1) (X (144 + k) 3) (21 + k) j = boN X k j := by
  unfold moorI boRest boN
  rw [up2_off (by omega), show 8 + 13 + k = 21 + k by omega]
  simp only [u2_b]
  rcases (by omega : j = 0 ∨ j = 1 ∨ j = 2 ∨ j = 3 ∨ j = 4 ∨ j = 5 ∨ j = 6 ∨ j = 7 ∨ j = 8 ∨ j = 9) with rfl | rfl | rfl | rfl | rfl | rfl | rfl | rfl | rfl | rfl
  all_goals simp
  all_goals exact bo_t (by omega) (by decide)
theorem nm_at {J : Im} {s j : Nat} (hj : j ≤ 9) : ∀ k, k ≤ 3 → s < k → nmN J k (21 + s) j = boN J s j := by
  intro k
  induction k with
  | zero => intro _ h; omega
  | succ k ih =>
    intro hk hs
    rw [nmN_s]
    by_cases e : s = k
    · subst e
      rw [mo_at hj]
      unfold boN
      rw [nmN_off (by omega) (by omega) s (by omega)]
    · rw [mo8_off (by omega) (by omega), ih (by omega) (by omega)]
theorem nh_r {N : Nat → Int32} {s j : Nat} (hs : s < 3) (hj : j < 10) : nhN M N 3 (95 + 10 * s + j) = if M 214 s = 0 then N (95 + 10 * s + j) else if j = 0 then 1 else if j ≤ 5 then M 215 (5 * s + (j - 1)) else if j = 9 then -9 else 0 := by
  have key : ∀ X : Nat → Int32, shN X (95 + 10 * s) (fun j => M 215 (5 * s + j)) (95 + 10 * s + j) = if j = 0 then 1 else if j ≤ 5 then M 215 (5 * s + (j - 1)) else if j = 9 then -9 else 0 := by
    intro X
    unfold shN
    by_cases c9 : j = 9
    · subst c9
      rw [upn_s, if_neg (by decide), if_neg (by decide), if_pos rfl]
    rw [upn_n (by omega)]
    by_cases c8 : j = 8
    · subst c8
      rw [upn_s, if_neg (by decide), if_neg (by decide), if_neg (by decide)]
    rw [upn_n (by omega)]
    by_cases c7 : j = 7
    · subst c7
      rw [upn_s, if_neg (by decide), if_neg (by decide), if_neg (by decide)]
    rw [upn_n (by omega)]
    by_cases c6 : j = 6
    · subst c6
      rw [upn_s, if_neg (by decide), if_neg (by decide), if_neg (by decide)]
    rw [upn_n (by omega)]
    by_cases c0 : j = 0
    · subst c0
      rw [wnd_out (by omega), Nat.add_zero, upn_s, if_pos rfl]
    · have e := wnd_in (N := upn X (95 + 10 * s) 1) (g := fun j => M 215 (5 * s + j)) (o := 95 + 10 * s + 1) (k := 5) (j := j - 1) (by omega)
      rw [show 95 + 10 * s + 1 + (j - 1) = 95 + 10 * s + j by omega] at e
      rw [e, if_neg c0, if_pos (by omega)]
  have oth : ∀ X : Nat → Int32, ∀ k, k ≠ s → shN X (95 + 10 * k) (fun j => M 215 (5 * k + j)) (95 + 10 * s + j) = X (95 + 10 * s + j) := by
    intro X k hk
    unfold shN
    rw [upn_n (by omega), upn_n (by omega), upn_n (by omega), upn_n (by omega), wnd_out (by omega), upn_n (by omega)]
  have st : ∀ k, nhN M N (k + 1) (95 + 10 * s + j) = if k = s then (if M 214 s = 0 then nhN M N k (95 + 10 * s + j) else if j = 0 then 1 else if j ≤ 5 then M 215 (5 * s + (j - 1)) else if j = 9 then -9 else 0) else nhN M N k (95 + 10 * s + j) := by
    intro k
    rw [nhN_s]
    by_cases e : k = s
    · subst e
      rw [if_pos rfl]
      by_cases c : M 214 k = 0
      · rw [if_pos c, if_pos c]
      · rw [if_neg c, if_neg c, key]
    · rw [if_neg e]
      split
      · rfl
      · exact oth _ k e
  rw [st 2, st 1, st 0, nhN_0]
  rcases (by omega : s = 0 ∨ s = 1 ∨ s = 2) with rfl | rfl | rfl
  all_goals simp
theorem wkM_h {q z p : Nat} (h : p < 21) : wkM M q z p = M 208 (21 * q + p) := if_pos h
theorem wkM_s {q z i : Nat} (h : i < 8) : wkM M q z (22 + i) = M 211 (8 * z + i) := by
  unfold wkM
  rw [if_neg (by omega), if_neg (by omega), if_pos (by omega), show 22 + i - 22 = i by omega]
theorem wkM_z {q z p : Nat} (h : 30 ≤ p) : wkM M q z p = 0 := by
  unfold wkM
  rw [if_neg (by omega), if_neg (by omega), if_neg (by omega)]
theorem wkM_21 {q z : Nat} : wkM M q z 21 = M 210 z := (if_neg (by decide)).trans (if_pos rfl)
end
end R13
