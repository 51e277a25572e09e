section R32
variable {G : Gp} {I : Im} {L : Nat → Nat → Int64} {t : Nat}
section
theorem ca_le {x k : Int} (h : x ≤ k) : (x : Rat) ≤ (k : Rat) := by exact_mod_cast h
theorem ca_ge {x k : Int} (h : (x : Rat) ≤ (k : Rat)) : x ≤ k := by exact_mod_cast h
theorem ca_sq {x k : Int} (h : (x : Rat) * (x : Rat) ≤ (k : Rat)) : x * x ≤ k := by exact_mod_cast h
theorem err_h {H F F2 H2 o : Nat → Int} {r g p : Int} {mo i : Nat} (g0 : 0 ≤ g) (g9 : g ≤ 9) (p1 : -400 ≤ p) (p2 : p ≤ 400) (hA : -2 ≤ (prI F2 i : Rat) - prv (fEx (alR r) (cR o) (fun i => (H i : Rat)) (fun i => (F i : Rat))) i ∧ (prI F2 i : Rat) - prv (fEx (alR r) (cR o) (fun i => (H i : Rat)) (fun i => (F i : Rat))) i ≤ 2) (hB : -2 ≤ (F2 i : Rat) - fEx (alR r) (cR o) (fun i => (H i : Rat)) (fun i => (F i : Rat)) i ∧ (F2 i : Rat) - fEx (alR r) (cR o) (fun i => (H i : Rat)) (fun i => (F i : Rat)) i ≤ 2) (e : H2 i = kI H F2 i + (if i = mo then ((p - kI H F2 i) * g).tdiv 16 else 0)) : -1000 ≤ (H2 i : Rat) - hEx (alR r) (cR o) (fun i => (H i : Rat)) (fun i => (F i : Rat)) (GR g mo) i ∧ (H2 i : Rat) - hEx (alR r) (cR o) (fun i => (H i : Rat)) (fun i => (F i : Rat)) (GR g mo) i ≤ 1000 := by
  unfold hEx
  dsimp only
  generalize prv (fEx (alR r) (cR o) (fun i => (H i : Rat)) (fun i => (F i : Rat))) i = x at hA
  generalize fEx (alR r) (cR o) (fun i => (H i : Rat)) (fun i => (F i : Rat)) i = y at hB
  have ek : (kI H F2 i : Rat) = (H i : Rat) + (prI F2 i : Rat) - (F2 i : Rat) := by
    unfold kI
    push_cast
    rfl
  by_cases c : i = mo
  · rw [if_pos c] at e
    obtain ⟨a1, a2⟩ := td16 ((p - kI H F2 i) * g)
    have e2 : (H2 i : Rat) = (kI H F2 i : Rat) + ((((p - kI H F2 i) * g).tdiv 16 : Int) : Rat) := by
      rw [e]
      push_cast
      rfl
    have e3 : (((p - kI H F2 i) * g : Int) : Rat) = ((p : Rat) - (kI H F2 i : Rat)) * (g : Rat) := by
      push_cast
      rfl
    rw [e3] at a1 a2
    generalize (((p - kI H F2 i) * g).tdiv 16 : Int) = q at a1 a2 e2
    have h0 : (0 : Rat) ≤ (g : Rat) := by exact_mod_cast g0
    have h9 : (g : Rat) ≤ 9 := by exact_mod_cast g9
    have P1 : (-400 : Rat) ≤ (p : Rat) := ca_le (x := -400) p1
    have P2 : (p : Rat) ≤ 400 := ca_le (k := 400) p2
    obtain ⟨-, -, -, G0, G1⟩ := G_f (mo := mo) (i := i) g0 g9
    have eG : GR g mo i = 1 - (g : Rat) / 16 := if_pos c
    have key : (H2 i : Rat) - GR g mo i * ((H i : Rat) + x - y) = GR g mo i * (((prI F2 i : Rat) - x) - ((F2 i : Rat) - y)) + (p : Rat) * (g : Rat) / 16 + ((q : Rat) - ((p : Rat) - (kI H F2 i : Rat)) * (g : Rat) / 16) := by
      rw [e2, eG, ek]
      grind
    rw [key]
    generalize (q : Rat) - ((p : Rat) - (kI H F2 i : Rat)) * (g : Rat) / 16 = z at a1 a2
    generalize (prI F2 i : Rat) - x = u at hA
    generalize (F2 i : Rat) - y = v at hB
    have q1 : 0 ≤ GR g mo i * (4 - (u - v)) := Rat.mul_nonneg G0 (by grind)
    have q2 : 0 ≤ GR g mo i * (4 + (u - v)) := Rat.mul_nonneg G0 (by grind)
    have q3 : 0 ≤ (400 - (p : Rat)) * (g : Rat) := Rat.mul_nonneg (by grind) h0
    have q4 : 0 ≤ (400 + (p : Rat)) * (g : Rat) := Rat.mul_nonneg (by grind) h0
    constructor <;> grind
  · rw [if_neg c] at e
    have e2 : (H2 i : Rat) = (kI H F2 i : Rat) := by
      rw [e]
      congr 1
      omega
    have eG : GR g mo i = 1 := if_neg c
    rw [e2, eG, ek]
    constructor <;> grind
/-- one second of whole numbers -/
def StI (H F H2 F2 o : Nat → Int) (r g p : Int) (mo n : Nat) : Prop := (∀ i, i + 1 < n → F2 i = gI H F o i - (gI H F o i * r).tdiv 64) ∧ F2 (n - 1) = 0 ∧ ∀ i, i < n → H2 i = kI H F2 i + (if i = mo then ((p - kI H F2 i) * g).tdiv 16 else 0)
theorem en_int {H F H2 F2 o : Nat → Int} {r g p : Int} {mo n : Nat} {t : Rat} (n1 : 1 ≤ n) (n16 : n ≤ 16) (ht : 1 ≤ t) (r0 : 0 ≤ r) (r9 : r ≤ 9) (g0 : 0 ≤ g) (g9 : g ≤ 9) (p1 : -400 ≤ p) (p2 : p ≤ 400) (ho : ∀ i, 0 ≤ o i ∧ o i ≤ 9) (oz : o (n - 1) = 0) (wz : ∀ i, o i = 0 → F i = 0) (st : StI H F H2 F2 o r g p mo n) (hE : En o r g mo n H F ≤ t * t * 33600000) : En o r g mo n H2 F2 ≤ (t + 1) * (t + 1) * 33600000 := by
  obtain ⟨s1, s2, s3⟩ := st
  obtain ⟨a1, a2, a3, -, -⟩ := al_f r0 r9
  have hz : F (n - 1) = 0 := wz _ oz
  have ef : ∀ i, i < n → -2 ≤ (F2 i : Rat) - fEx (alR r) (cR o) (fun i => (H i : Rat)) (fun i => (F i : Rat)) i ∧ (F2 i : Rat) - fEx (alR r) (cR o) (fun i => (H i : Rat)) (fun i => (F i : Rat)) i ≤ 2 := by
    intro i hi
    by_cases e : i + 1 < n
    · exact err_f r0 r9 (s1 i e)
    · have ei : i = n - 1 := by omega
      have z : fEx (alR r) (cR o) (fun i => (H i : Rat)) (fun i => (F i : Rat)) i = 0 := by
        unfold fEx cR
        dsimp only
        rw [ei, oz, hz]
        grind
      rw [z, ei, s2]
      constructor <;> grind
  have ep : ∀ i, i < n → -2 ≤ (prI F2 i : Rat) - prv (fEx (alR r) (cR o) (fun i => (H i : Rat)) (fun i => (F i : Rat))) i ∧ (prI F2 i : Rat) - prv (fEx (alR r) (cR o) (fun i => (H i : Rat)) (fun i => (F i : Rat))) i ≤ 2 := by
    intro i hi
    unfold prI prv
    by_cases e : i = 0
    · rw [if_pos e, if_pos e]
      constructor <;> grind
    · rw [if_neg e, if_neg e]
      exact ef (i - 1) (by omega)
  unfold En at hE ⊢
  refine en_next (c := cR o) (h := fun i => (H i : Rat)) (f := fun i => (F i : Rat)) (G := GR g mo) (g := fun i => (GR g mo i)⁻¹) (a := (alR r)⁻¹) (al := alR r) n1 n16 ht a1 a2 ?_ ?_ (fun i => ⟨(w_f (ho i).1 (ho i).2).1, (w_f (ho i).1 (ho i).2).2.1⟩) (fun i => Or.inr ⟨(G_f g0 g9).1, (G_f g0 g9).2.1, (G_f g0 g9).2.2.2.1, ?_⟩) (fun i => ?_) (fun i hi => ?_) ?_ ?_ ?_ ef (fun i hi => ?_) hE
  · unfold bR
    grind
  · unfold bR
    grind
  · unfold PR
    grind
  · obtain ⟨-, q2, q3, -, -⟩ := G_f (mo := mo) (i := i) g0 g9
    unfold PR
    constructor <;> grind
  · rcases (w_f (ho i).1 (ho i).2).2.2 with z | z
    · exact Or.inl z
    · refine Or.inr ⟨z, ?_⟩
      have : o i = 0 := by
        unfold cR at z
        have z2 : (o i : Rat) = 0 := by grind
        exact_mod_cast z2
      rw [wz i this]
      rfl
  · rw [hz]
    rfl
  · unfold cR
    rw [oz]
    grind
  · rw [s2]
    rfl
  · exact err_h g0 g9 p1 p2 (ep i hi) (ef i hi) (s3 i hi)
theorem sq_b {x : Int} (h : x * x ≤ 16000000000000) : -4000000 ≤ x ∧ x ≤ 4000000 := by
  constructor
  · rcases Int.lt_or_le x (-4000000) with c | c
    · have := Int.mul_pos (show 0 < -4000000 - x by omega) (show 0 < 4000000 - x by omega)
      grind
    · exact c
  · rcases Int.lt_or_le 4000000 x with c | c
    · have := Int.mul_pos (show 0 < x - 4000000 by omega) (show 0 < x + 4000000 by omega)
      grind
    · exact c
theorem en_bnd {H F o : Nat → Int} {r g : Int} {mo n : Nat} (n1 : 1 ≤ n) (r0 : 0 ≤ r) (r9 : r ≤ 9) (g0 : 0 ≤ g) (g9 : g ≤ 9) (ho : ∀ i, 0 ≤ o i ∧ o i ≤ 9) (hz : F (n - 1) = 0) (hE : En o r g mo n H F ≤ 4000000000000) : ∀ i, i < n → (-4000000 ≤ H i ∧ H i ≤ 4000000) ∧ -4000000 ≤ F i ∧ F i ≤ 4000000 := by
  obtain ⟨a1, a2, a3, -, -⟩ := al_f r0 r9
  intro i hi
  have b1 : 1 ≤ bR r := by
    unfold bR
    grind
  have pos := en_posn (P := PR g mo) (w := wR o) (h := fun i => (H i : Rat)) (f := fun i => (F i : Rat)) (b := bR r) (n := n) (fun i => by
    obtain ⟨-, q2, q3, -, -⟩ := G_f (mo := mo) (i := i) g0 g9
    unfold PR
    grind) b1 (fun i hi => Or.inl (w_f (ho i).1 (ho i).2).1) n1 (by rw [hz]; rfl)
  have one := sR_one (u := qT (fun i => (H i : Rat)) (fun i => (F i : Rat))) n (fun j hj => qT_nn j) i hi
  unfold En at hE
  have tot : qT (fun i => (H i : Rat)) (fun i => (F i : Rat)) i ≤ 4000000000000 := by grind
  unfold qT at tot
  dsimp only at tot
  have s1 := sq_nn (H i : Rat)
  have s2 := sq_nn (F i : Rat)
  have t1 : (H i : Rat) * (H i : Rat) ≤ 16000000000000 := by grind
  have t2 : (F i : Rat) * (F i : Rat) ≤ 16000000000000 := by grind
  exact ⟨sq_b (ca_sq (k := 16000000000000) t1), sq_b (ca_sq (k := 16000000000000) t2)⟩
end
end R32
