section R24
variable {G : Gp} {I : Im} {L : Nat → Nat → Int64} {t : Nat}
section
variable {C M D E : Im} {L : Nat → Nat → Int64}
theorem kd_3 {a i : Int32} {x y : Int32 × Im} (h : RelP C M) (k : KdR C M a i x y) : Same C M ((f_X11_refuse x.2 3).1, (f_X11_refuse x.2 3).2) (-3, meI y.2 3) := by
  have s := kd_rel h k
  have g := sm_3 s.2.1
  exact ⟨g.1, g.2.1, fun e he => (g.2.2.1 e he).trans (s.2.2.1 e he), fun e he => (g.2.2.2 e he).trans (s.2.2.2 e he)⟩
theorem kd_v {a i u v : Int32} {x y : Int32 × Im} (h : RelP C M) (k : KdR C M a i x y) (e : u = v) : Same C M (u, x.2) (v, y.2) := by
  have s := kd_rel h k
  exact ⟨e, s.2.1, s.2.2.1, s.2.2.2⟩
theorem K_mark {w a i c k : Int32} (h : RelP C M) : Same C M (f_X11_mark C w a i c k) (f_X12_mark M w a i c k) := by
  unfold f_X11_mark f_X12_mark
  have kd := kd_of (w := w) (a := a) (i := i) (c := c) h
  unfold f_X12_mark1 f_X12_mark2 f_X12_mark3 f_X12_mark4 f_X12_mark5
  dsimp only
  generalize f_X11_kindOf C w a i c = x at kd
  generalize f_X12_kindOf M w a i c = y at kd
  by_cases c0 : b2i (1 ≤ k ∧ k ≤ 5) = 0
  · rw [if_pos c0, if_neg (show ¬ k = 1 from fun z => by rw [z] at c0; exact absurd c0 (by decide)), if_neg (show ¬ k = 2 from fun z => by rw [z] at c0; exact absurd c0 (by decide)), if_neg (show ¬ k = 3 from fun z => by rw [z] at c0; exact absurd c0 (by decide)), if_neg (show ¬ k = 4 from fun z => by rw [z] at c0; exact absurd c0 (by decide)), if_neg (show ¬ k = 5 from fun z => by rw [z] at c0; exact absurd c0 (by decide))]
    exact sm_v h
  rw [if_neg c0]
  have hk : k = 1 ∨ k = 2 ∨ k = 3 ∨ k = 4 ∨ k = 5 := by
    obtain ⟨g1, g5⟩ := b2i_n0.mp c0
    obtain ⟨j, hj, rfl⟩ := nI_of2 (M := 5) (n := 5) (by decide) (Int32.not_lt.mpr (Int32.le_trans (by decide) g1)) g5
    rcases (by omega : j = 0 ∨ j = 1 ∨ j = 2 ∨ j = 3 ∨ j = 4 ∨ j = 5) with rfl | rfl | rfl | rfl | rfl | rfl
    · exact absurd g1 (by decide)
    · exact Or.inl rfl
    · exact Or.inr (Or.inl rfl)
    · exact Or.inr (Or.inr (Or.inl rfl))
    · exact Or.inr (Or.inr (Or.inr (Or.inl rfl)))
    · exact Or.inr (Or.inr (Or.inr (Or.inr rfl)))
  have k3 := kd_3 h kd
  have kv := fun {u v : Int32} (e : u = v) => kd_v (u := u) (v := v) h kd e
  have e1 := kd.1
  rcases kd.2 with ⟨g0, g⟩ | ⟨g0, g, gl, gc⟩ | ⟨g0, g, gc⟩ | ⟨g0, g, gb, gc⟩
  · have g0' : ¬ 0 ≤ y.1 := by rw [← e1]; exact g0
    rw [if_neg g0]
    rcases hk with rfl | rfl | rfl | rfl | rfl <;> simp only [if_neg g0'] <;> exact g
  · rw [← e1]
    have el := last_c 400 gl
    rcases g0 with z | z <;> rw [z] <;> rcases hk with rfl | rfl | rfl | rfl | rfl <;> first | exact k3 | exact kv gc | exact kv (by rw [el])
  · rw [← e1, g0]
    rcases hk with rfl | rfl | rfl | rfl | rfl <;> first | exact k3 | exact kv gc
  · rw [← e1]
    rcases g0 with z | z
    · rw [z]
      rcases hk with rfl | rfl | rfl | rfl | rfl <;> first | exact k3 | exact kv gb
    · obtain ⟨g4, ⟨o, ho, eo⟩, p, hp, ep⟩ := gc z
      rw [z]
      rcases hk with rfl | rfl | rfl | rfl | rfl
      · exact k3
      · exact kv gb
      · exact k3
      · refine kv ?_
        rw [← gb, ← g4, eo, ep]
        exact far_nI hp ho
      · exact k3
end
end R24
