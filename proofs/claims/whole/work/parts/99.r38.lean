section R38
variable {G : Gp} {I : Im} {L : Nat → Nat → Int64} {t : Nat}
section
variable {A B : Nat → Int32} {V : Nat → Prop}
def ltI (A B : Nat → Int32) (x y : Nat) : Prop := A x < A y ∨ (A x = A y ∧ B x < B y)
theorem lt_i {x y : Nat} : ltI A B x y ↔ (A x).toInt < (A y).toInt ∨ ((A x).toInt = (A y).toInt ∧ (B x).toInt < (B y).toInt) := by
  unfold ltI
  rw [Int32.lt_iff_toInt_lt, Int32.lt_iff_toInt_lt, ← Int32.toInt_inj]
theorem lt_ir {x : Nat} : ¬ ltI A B x x := by
  rw [lt_i]
  omega
theorem lt_tr {x y z : Nat} (h : ltI A B x y) (k : ¬ ltI A B z y) : ltI A B x z := by
  rw [lt_i] at h k ⊢
  omega
theorem lt_tr2 {x y z : Nat} (h : ltI A B x y) (k : ltI A B y z) : ltI A B x z := by
  rw [lt_i] at h k ⊢
  omega
/-- the first of the least -/
def FA (V : Nat → Prop) (A B : Nat → Int32) (k i : Nat) : Prop := i < k ∧ V i ∧ (∀ j, j < k → V j → ¬ ltI A B j i) ∧ ∀ j, j < i → V j → ltI A B i j
theorem fa_un {k i i' : Nat} (h : FA V A B k i) (h' : FA V A B k i') : i = i' := by
  rcases Nat.lt_trichotomy i i' with c | c | c
  · exact absurd (h'.2.2.2 i c h.2.1) (h.2.2.1 i' h'.1 h'.2.1)
  · exact c
  · exact absurd (h.2.2.2 i' c h'.2.1) (h'.2.2.1 i h.1 h.2.1)
def Sc (V : Nat → Prop) (A B : Nat → Int32) (no : Int32 → Prop) (k : Nat) (x a b : Int32) : Prop := (no x ∧ ∀ j, j < k → ¬ V j) ∨ ∃ i, FA V A B k i ∧ x = nI i ∧ a = A i ∧ b = B i
theorem sc_0 {no : Int32 → Prop} {x a b : Int32} (h : no x) : Sc V A B no 0 x a b := Or.inl ⟨h, fun j hj => absurd hj (Nat.not_lt_zero j)⟩
theorem sc_no {no : Int32 → Prop} {k : Nat} {x a b : Int32} (hv : ¬ V k) (h : Sc V A B no k x a b) : Sc V A B no (k + 1) x a b := by
  rcases h with ⟨h1, h2⟩ | ⟨i, ⟨f1, f2, f3, f4⟩, r⟩
  · refine Or.inl ⟨h1, fun j hj => ?_⟩
    by_cases e : j = k
    · rw [e]
      exact hv
    · exact h2 j (by omega)
  · refine Or.inr ⟨i, ⟨by omega, f2, fun j hj vj => ?_, f4⟩, r⟩
    by_cases e : j = k
    · rw [e] at vj
      exact absurd vj hv
    · exact f3 j (by omega) vj
theorem sc_yes {no : Int32 → Prop} {k : Nat} {x a b : Int32} (hk : k < 2 ^ 31) (hno : ∀ i, i < 2 ^ 31 → ¬ no (nI i)) (hv : V k) (c : no x ∨ A k < a ∨ (A k = a ∧ B k < b)) (h : Sc V A B no k x a b) : Sc V A B no (k + 1) (nI k) (A k) (B k) := by
  refine Or.inr ⟨k, ?_, rfl, rfl, rfl⟩
  rcases h with ⟨h1, h2⟩ | ⟨i, ⟨f1, f2, f3, f4⟩, ex, ea, eb⟩
  · refine ⟨by omega, hv, fun j hj vj => ?_, fun j hj vj => absurd vj (h2 j hj)⟩
    by_cases e : j = k
    · rw [e]
      exact lt_ir
    · exact absurd vj (h2 j (by omega))
  · have l : ltI A B k i := by
      rcases c with c | c
      · rw [ex] at c
        exact absurd c (hno i (by omega))
      · unfold ltI
        rw [← ea, ← eb]
        exact c
    refine ⟨by omega, hv, fun j hj vj z => ?_, fun j hj vj => lt_tr l (f3 j hj vj)⟩
    by_cases e : j = k
    · rw [e] at z
      exact lt_ir z
    · exact f3 j (by omega) vj (lt_tr2 z l)
theorem sc_keep {no : Int32 → Prop} {k : Nat} {x a b : Int32} (hv : V k) (c : ¬ (no x ∨ A k < a ∨ (A k = a ∧ B k < b))) (h : Sc V A B no k x a b) : Sc V A B no (k + 1) x a b := by
  rcases h with ⟨h1, h2⟩ | ⟨i, ⟨f1, f2, f3, f4⟩, ex, ea, eb⟩
  · exact absurd (Or.inl h1) c
  · refine Or.inr ⟨i, ⟨by omega, f2, fun j hj vj => ?_, f4⟩, ex, ea, eb⟩
    by_cases e : j = k
    · rw [e]
      intro z
      unfold ltI at z
      rw [← ea, ← eb] at z
      exact c (Or.inr z)
    · exact f3 j (by omega) vj
/-- the same choice, made in two enumerations -/
theorem fa_map {V' : Nat → Prop} {A' B' : Nat → Int32} {K K' i : Nat} {p s : Nat → Nat} (h : FA V' A' B' K' i) (hp : ∀ j, j < K' → V' j → p j < K ∧ V (p j) ∧ A' j = A (p j) ∧ B' j = B (p j)) (hs : ∀ c, c < K → V c → s c < K' ∧ V' (s c) ∧ p (s c) = c) (hm : ∀ j c, j < K' → V' j → c < p j → s c < j) : FA V A B K (p i) := by
  obtain ⟨f1, f2, f3, f4⟩ := h
  obtain ⟨p1, p2, p3, p4⟩ := hp i f1 f2
  have tr : ∀ j, j < K' → V' j → ∀ j', j' < K' → V' j' → (ltI A' B' j j' ↔ ltI A B (p j) (p j')) := fun j h1 h2 j' h3 h4 => by
    unfold ltI
    rw [(hp j h1 h2).2.2.1, (hp j h1 h2).2.2.2, (hp j' h3 h4).2.2.1, (hp j' h3 h4).2.2.2]
  refine ⟨p1, p2, fun c hc vc z => ?_, fun c hc vc => ?_⟩
  · obtain ⟨s1, s2, s3⟩ := hs c hc vc
    refine f3 (s c) s1 s2 ((tr _ s1 s2 i f1 f2).mpr ?_)
    rw [s3]
    exact z
  · obtain ⟨s1, s2, s3⟩ := hs c (by omega) vc
    have := (tr i f1 f2 _ s1 s2).mp (f4 (s c) (hm i c f1 f2 hc) s2)
    rw [s3] at this
    exact this
end
end R38
