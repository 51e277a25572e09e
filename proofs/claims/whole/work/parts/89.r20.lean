section R20
variable {G : Gp} {I : Im} {L : Nat → Nat → Int64} {t : Nat}
section
variable {C M D E : Im} {L : Nat → Nat → Int64}
theorem mn_c {u v : Int32} : mn u v = if u < v then u else v := by
  unfold mn
  by_cases h : u < v
  · rw [if_pos h, if_neg (Int32.not_lt.mpr (Int32.le_of_lt h))]
  · rw [if_neg h]
    by_cases h2 : v < u
    · rw [if_pos h2]
    · rw [if_neg h2]
      exact Int32.le_antisymm (Int32.not_lt.mp h2) (Int32.not_lt.mp h)
def CrE (v w : Cr) (k : Nat) : Prop := ∃ m, m ≤ k ∧ v.1 = nI m ∧ w.1 = nI m ∧ (1 ≤ m → v.2.1 = w.2.1 ∧ v.2.2.1 = w.2.2.1) ∧ v.2.2.2.1 = w.2.2.2.1 ∧ v.2.2.2.2 = w.2.2.2.2
theorem cr_1 {v w : Cr} {k : Nat} {i : Int32} (hk : k < 1000) (h : CrE v w k) : CrE (cr1 i v) (cr1M i w) (k + 1) := by
  obtain ⟨m, hm, e1, e2, e3, e4, e5⟩ := h
  refine ⟨m + 1, by omega, ?_, ?_, ?_, ?_, ?_⟩
  · unfold cr1
    rw [e1]
    exact nI_1 m
  · unfold cr1M
    rw [e2]
    exact nI_1 m
  · intro _
    unfold cr1 cr1M
    dsimp only
    rw [e1, e2]
    by_cases c : nI m = 0
    · rw [if_pos c, if_pos c]
      exact ⟨rfl, rfl⟩
    · rw [if_neg c, if_neg c]
      have : 1 ≤ m := by
        rcases Nat.eq_zero_or_pos m with z | z
        · subst z
          exact absurd rfl c
        · exact z
      exact ⟨(e3 this).1, rfl⟩
  · unfold cr1 cr1M
    dsimp only
    rw [e1, e2, e4]
    by_cases c : nI m = 0
    · rw [if_pos c, if_pos c]
    · rw [if_neg c, if_neg c]
      have : 1 ≤ m := by
        rcases Nat.eq_zero_or_pos m with z | z
        · subst z
          exact absurd rfl c
        · exact z
      rw [(e3 this).2, mn_c]
  · unfold cr1 cr1M
    dsimp only
    rw [e1, e2, e5]
    by_cases c : nI m = 0
    · rw [if_pos c, if_pos c]
    · rw [if_neg c, if_neg c]
      have : 1 ≤ m := by
        rcases Nat.eq_zero_or_pos m with z | z
        · subst z
          exact absurd rfl c
        · exact z
      rw [(e3 this).2, mx_c]
theorem mc_cr {f g : Nat → Int32} {x y : Int32} {n : Nat} (hn : n < 1000) (hf : ∀ i, i < n → f i = g i) : ∀ k, k ≤ n - 1 → CrE (crN f k) (mcN g (0, x, y, 0, 0) k) k := by
  intro k
  induction k with
  | zero =>
    intro _
    rw [mcN_0]
    exact ⟨0, by decide, rfl, rfl, fun z => absurd z (by decide), rfl, rfl⟩
  | succ k ih =>
    intro hk
    have i0 := ih (by omega)
    rw [mcN_s, ← hf k (by omega), ← hf (k + 1) (by omega)]
    show CrE (if f k < 0 ∧ 0 ≤ f (k + 1) then cr1 (nI (k + 1)) (crN f k) else crN f k) _ (k + 1)
    by_cases c : f k < 0 ∧ 0 ≤ f (k + 1)
    · rw [if_pos c, if_pos c]
      exact cr_1 (by omega) i0
    · rw [if_neg c, if_neg c]
      obtain ⟨m, hm, r⟩ := i0
      exact ⟨m, by omega, r⟩
def Hrd (C M D E : Im) : Prop := FrC D C ∧ FrM E M ∧ D 0 = C 0 ∧ D 102 = C 102 ∧ (E 200 0 = M 200 0 ∧ E 200 2 = M 200 2) ∧ E 201 = M 201 ∧ CrE (D 99 1, D 99 2, D 99 3, D 99 4, D 99 5) (E 200 27, E 200 28, E 200 29, E 200 30, E 200 31) 400
theorem Hrd.rel (h : RelP C M) (k : Hrd C M D E) : RelP D E := rel_fr h k.1 k.2.1 k.2.2.1 k.2.2.2.1 k.2.2.2.2.1.1 k.2.2.2.2.2.1 k.2.2.2.2.1.2
theorem sm_tr {x y : Int32 × Im} (hC : FrC D C) (hM : FrM E M) (h : Same D E x y) : Same C M x y := ⟨h.1, h.2.1, fun e he => (h.2.2.1 e he).trans (hC.1 e (by omega)), fun e he => (h.2.2.2 e he).trans (hM.1 e (by omega))⟩
theorem K_tells (h : RelP C M) (k : Hrd C M D E) (hL : FrL L) : SameL C M ((f_X11_tellBeat D L).1, (f_X11_tellBeat D L).2.1, (f_X11_tellBeat D L).2.2) ((f_X12_tellsBeat E (f_X11_tellBeat D L).2.2).1, (f_X12_tellsBeat E (f_X11_tellBeat D L).2.2).2.1, (f_X12_tellsBeat E (f_X11_tellBeat D L).2.2).2.2) := by
  obtain ⟨m, hm, e1, e2, e3, -, -⟩ := k.2.2.2.2.2.2
  have r := k.rel h
  dsimp only at e1 e2 e3
  unfold f_X11_tellBeat f_X12_tellsBeat
  rw [e1, e2]
  by_cases c : b2i (2 ≤ nI m) = 0
  · simp only [if_pos c]
    exact sml (sm_tr k.1 k.2.1 (sm_4 r)) hL
  · simp only [if_neg c]
    have : 1 ≤ m := by
      rcases Nat.eq_zero_or_pos m with z | z
      · subst z
        exact absurd rfl c
      · exact z
    rw [(e3 this).1, (e3 this).2]
    exact sml_k r (fun e he => k.1.1 e (by omega)) (fun e he => k.2.1.1 e (by omega)) fr_both
theorem heard_0 {r : Int32} (h : RelP C M) : (¬ 0 ≤ (f_X12_needHeard M r).1 ∧ ((b2i (0 ≤ r ∧ r ≤ 5) = 0 ∧ Same C M (-1, C) (f_X12_needHeard M r)) ∨ (¬ b2i (0 ≤ r ∧ r ≤ 5) = 0 ∧ C (104 + 2 * r.toNatClampNeg) 2 = 0 ∧ Same C M ((f_X11_refuse C 1).1, (f_X11_refuse C 1).2) (f_X12_needHeard M r)))) ∨ (¬ b2i (0 ≤ r ∧ r ≤ 5) = 0 ∧ ¬ C (104 + 2 * r.toNatClampNeg) 2 = 0 ∧ 0 ≤ (f_X12_needHeard M r).1 ∧ Hrd C M (crW C (crN (C (104 + 2 * r.toNatClampNeg + 1)) ((C (104 + 2 * r.toNatClampNeg) 1).toNatClampNeg - 1))) (f_X12_needHeard M r).2) := by
  unfold f_X12_needHeard
  by_cases c1 : b2i (0 ≤ r ∧ r ≤ 5) = 0
  · rw [if_pos c1]
    exact Or.inl ⟨fun z => absurd (show (0 : Int32) ≤ -1 from z) (by decide), Or.inl ⟨c1, sm_v h⟩⟩
  rw [if_neg c1]
  obtain ⟨qr, vr⟩ := cl_lt (N := 6) (by decide) c1
  have rr := h.row _ qr
  by_cases c2 : C (104 + 2 * r.toNatClampNeg) 2 = 0
  · rw [if_neg (row_0 rr c2).1]
    exact Or.inl ⟨fun z => absurd (show (0 : Int32) ≤ -3 from z) (by decide), Or.inr ⟨c1, c2, sm_1 h⟩⟩
  obtain ⟨t1, t2, ⟨m, hm, em⟩, t3, t3', t4⟩ := row_1 rr c2
  rw [if_pos t3]
  refine Or.inr ⟨c1, c2, show (0 : Int32) ≤ 0 by decide, ?_⟩
  dsimp only
  have e26 : up2 M 200 26 (M 202 r.toNatClampNeg) 200 26 = nI m := by rw [u2_s, t2, em]
  rw [flw_off (e := 200) (by decide), e26, em, nI_clamp (by omega), u2_j (by decide), u2_j (by decide)]
  rw [em, nI_clamp (by omega)] at t4
  have cr := mc_cr (f := C (104 + 2 * r.toNatClampNeg + 1)) (g := flw (up2 M 200 26 (M 202 r.toNatClampNeg)) 218 0 m (fun e => up2 M 200 26 (M 202 r.toNatClampNeg) 203 (60 * r.toNatClampNeg + e)) 218) (x := M 200 28) (y := M 200 29) (n := m) (by omega) (fun i hi => by
    have e2 := flw_in (I := up2 M 200 26 (M 202 r.toNatClampNeg)) (c := 218) (o := 0) (k := m) (j := i) (g := fun e => up2 M 200 26 (M 202 r.toNatClampNeg) 203 (60 * r.toNatClampNeg + e)) hi
    rw [Nat.zero_add] at e2
    rw [e2, up2_off (by decide)]
    exact t4 i hi) (m - 1) (Nat.le_refl _)
  refine ⟨⟨fun e he => crW_off (by omega), by rw [crW_off (by decide)]⟩, ?_, crW_off (by decide), crW_off (by decide), ⟨?_, ?_⟩, ?_, ?_⟩
  · refine FrM.trans (FrM.trans (FrM.u0 (v := M 202 r.toNatClampNeg) (show 26 ≠ 37 by decide)) (show FrM (flw _ 218 0 m _) _ from ?_)) ⟨fun e he => crM_off (by omega), fun j hj => by rw [crM_off (by decide)], crM_o (by omega)⟩
    exact ⟨fun e he => flw_off (by omega), fun j hj => by rw [flw_off (by decide)], by rw [flw_off (by decide)]⟩
  · rw [crM_o (by omega), flw_off (by decide), u2_j (by decide)]
  · rw [crM_o (by omega), flw_off (by decide), u2_j (by decide)]
  · rw [crM_off (by decide), flw_off (by decide), up2_off (by decide)]
  · obtain ⟨k, hk, rest⟩ := cr
    exact ⟨k, by omega, rest⟩
theorem K_beat {r : Int32} (h : RelP C M) (hL : FrL L) : SameL C M (f_X11_beat C L r) (f_X12_beat M (f_X11_beat C L r).2.2 r) := by
  unfold f_X11_beat f_X12_beat
  rcases heard_0 (r := r) h with ⟨g1, ⟨c1, g3⟩ | ⟨c1, c2, g3⟩⟩ | ⟨c1, c2, g1, g2⟩
  · simp only [if_pos c1, if_neg g1]
    exact sml g3 hL
  · simp only [if_neg c1, if_pos c2, if_neg g1]
    exact sml g3 hL
  · simp only [if_neg c1, if_neg c2, if_pos g1]
    exact K_tells h g2 hL
theorem K_span {r : Int32} (h : RelP C M) : Same C M (f_X11_span C r) (f_X12_span M r) := by
  unfold f_X11_span f_X12_span
  rcases heard_0 (r := r) h with ⟨g1, ⟨c1, g3⟩ | ⟨c1, c2, g3⟩⟩ | ⟨c1, c2, g1, g2⟩
  · simp only [if_pos c1, if_neg g1]
    exact g3
  · simp only [if_neg c1, if_pos c2, if_neg g1]
    exact g3
  · simp only [if_neg c1, if_neg c2, if_pos g1]
    obtain ⟨m, hm, e1, e2, -, e4, e5⟩ := g2.2.2.2.2.2.2
    dsimp only at e1 e2 e4 e5
    rw [e1, e2, e4, e5]
    by_cases c : b2i (2 ≤ nI m) = 0
    · simp only [if_pos c]
      exact sm_tr g2.1 g2.2.1 (sm_4 (g2.rel h))
    · simp only [if_neg c]
      exact sm_t h g2.1 g2.2.1 (by rw [g2.2.2.1]) g2.2.2.2.1 g2.2.2.2.2.1.1 g2.2.2.2.2.2.1 rfl rfl
end
end R20
