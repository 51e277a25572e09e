section R46
variable {G : Gp} {I : Im} {L : Nat → Nat → Int64} {t : Nat}
section
variable {C M D E : Im}
theorem numR_k2 {f : Nat → Int32} {p : Nat} {lo hi : Int32} (h0 : 0 ≤ lo) : (¬ numR f p lo hi < 0 ↔ numOk f p lo hi) ∧ (numOk f p lo hi → numR f p lo hi = numW f p) := by
  unfold numR
  by_cases c : figOk f p 0 ∧ lo ≤ numW f p ∧ numW f p ≤ hi
  · rw [if_pos c]
    exact ⟨⟨fun _ => c, fun _ => Int32.not_lt.mpr (Int32.le_trans h0 c.2.1)⟩, fun _ => rfl⟩
  · rw [if_neg c]
    exact ⟨⟨fun z => absurd (show (-1 : Int32) < 0 by decide) z, fun z => absurd z c⟩, fun z => absurd z c⟩
theorem hr_new {n : Nat} {x : Int32} (n3 : 3 ≤ n) (n16 : n ≤ 16) (ex : x = nI n) (h2 : ∀ p, 1 ≤ p → p < 21 → E 212 p = rhG p) : HR (up2 (baNew D 86) 86 2 x) (up2 E 212 0 x) n := by
  have q : ∀ p, 1 ≤ p → p < 21 → up2 E 212 0 x 212 p = rhG p := fun p h1 hp => by rw [u2_j (by omega)]; exact h2 p h1 hp
  have q5 : ∀ j, j < 16 → up2 E 212 0 x 212 (5 + j) = nI 4 := fun j hj => by
    rw [q (5 + j) (by omega) (by omega)]
    unfold rhG
    rw [if_pos (show (5 : Int32) ≤ nI (5 + j) from nI_le (a := 5) (by omega) (by omega))]
    rfl
  have b : ∀ j, baNew D 86 86 j = up2 (up2 (up2 (up2 (up2 (up2 D 86 1 1) 86 2 0) 86 3 0) 86 4 4) 86 5 1) 86 6 0 86 j := fun j => by
    unfold baNew
    rw [fill_off (by decide)]
  refine ⟨⟨0, n3, n16, by omega, ?_, ?_, ?_, ?_, ?_, fun j hj => ?_, ?_, ?_⟩, ⟨?_, ?_, fun j hj => ?_⟩, ?_⟩
  · rw [u2_s, ex]
  · rw [u2_j (by decide), b, u2_j (by decide), u2_j (by decide), u2_j (by decide), u2_s]
    rfl
  · rw [u2_j (by decide), b, u2_j (by decide), u2_j (by decide), u2_s, q 2 (by decide) (by decide)]
    rfl
  · rw [u2_j (by decide), b, u2_j (by decide), u2_s, q 3 (by decide) (by decide)]
    rfl
  · rw [u2_j (by decide), b, u2_s, q 4 (by decide) (by decide)]
    rfl
  · rw [up2_off (by decide), q5 j (by omega)]
    unfold baNew
    rw [fill_at (show j < 16 by omega)]
    rfl
  · rw [u2_s, ex]
  · rw [q 1 (by decide) (by decide)]
    rfl
  · rw [q 2 (by decide) (by decide)]
    exact ⟨4, by decide, rfl⟩
  · rw [q 3 (by decide) (by decide)]
    exact ⟨1, by decide, rfl⟩
  · exact ⟨4, by decide, by decide, q5 j hj⟩
  · rw [u2_j (by decide), b, u2_j (by decide), u2_j (by decide), u2_j (by decide), u2_j (by decide), u2_j (by decide), u2_s]
/-- a harbour's text, read by both from its first place -/
def hd0 (f : Nat → Int32) (m p0 : Nat) (D : Im) : Int32 × Nat × Im := if f p0 = 99 then (if numR f (p0 + 1) 3 16 < 0 then (nI (numN f (p0 + 1)), numN f (p0 + 1), D) else rdH f (numR f (p0 + 1) 3 16).toNatClampNeg m 100 (skipN f 100 (numN f (p0 + 1))) (up2 D 86 2 (numR f (p0 + 1) 3 16))) else (nI p0, p0, D)
theorem hd_sim {f g : Nat → Int32} {m : Nat} (hA : Ag f g) (hm : m ≤ 100) (he : ∀ p, m ≤ p → ¬ f p = 32) (he9 : ∀ p, m ≤ p → ¬ f p = 99) {E : Im} (e0 : E 212 0 = 0) (h2 : ∀ p, 1 ≤ p → p < 21 → E 212 p = rhG p) : ∀ k p, p ≤ m → m ≤ p + k → (hd0 f m (skipN f 100 p) (baNew D 86)).1 = (mhF g m k p E).1 ∧ (((mhF g m k p E).1 = -9 → ∃ n, HR (hd0 f m (skipN f 100 p) (baNew D 86)).2.2 (mhF g m k p E).2.2 n) ∧ (∀ e, e ≠ 86 → e ≠ 87 → (hd0 f m (skipN f 100 p) (baNew D 86)).2.2 e = D e) ∧ (∀ e, e ≠ 212 → (mhF g m k p E).2.2 e = E e)) := by
  intro k
  have fin : ∀ k', (hd0 f m (skipN f 100 m) (baNew D 86)).1 = (mhF g m k' m E).1 ∧ (((mhF g m k' m E).1 = -9 → ∃ n, HR (hd0 f m (skipN f 100 m) (baNew D 86)).2.2 (mhF g m k' m E).2.2 n) ∧ (∀ e, e ≠ 86 → e ≠ 87 → (hd0 f m (skipN f 100 m) (baNew D 86)).2.2 e = D e) ∧ (∀ e, e ≠ 212 → (mhF g m k' m E).2.2 e = E e)) := by
    intro k'
    rw [sk_no (he m (Nat.le_refl m)), mhF_e (Nat.le_refl m), if_pos e0]
    unfold hd0
    rw [if_neg (he9 m (Nat.le_refl m))]
    refine ⟨rfl, fun z => ?_, fun e g1 g2 => baNew_off g1 g2, fun _ _ => rfl⟩
    exact absurd (nI_pos' (show m < 2 ^ 31 by omega)) (by rw [show nI m = -9 from z]; decide)
  induction k with
  | zero =>
    intro p h1 h2'
    have : p = m := by omega
    subst this
    exact fin 0
  | succ k ih =>
    intro p h1 h2'
    by_cases hp : m ≤ p
    · have : p = m := by omega
      subst this
      exact fin (k + 1)
    rw [mhF_s hp]
    by_cases c : f p = 32
    · rw [if_pos ((ag_c hA (by decide) (by decide)).mp c)]
      have es : skipN f 100 p = skipN f 100 (p + 1) := by
        rw [show skipN f 100 p = skipN f 99 (p + 1) by show (if f p = 32 then skipN f 99 (p + 1) else p) = _; rw [if_pos c]]
        exact sk_fuel he 99 100 (p + 1) (by omega) (by omega)
      rw [es]
      exact ih (p + 1) (by omega) (by omega)
    · rw [if_neg (fun z => c ((ag_c hA (by decide) (by decide)).mpr z)), sk_no c, if_pos e0]
      unfold hd0
      by_cases c9 : f p = 99
      · have d9 : g p = 99 := (ag_c hA (by decide) (by decide)).mp c9
        have ep : rcP g p = numN f (p + 1) := by
          unfold rcP
          rw [if_pos d9, ag_n hA]
        obtain ⟨k1, k2⟩ := numR_k2 (f := g) (p := p + 1) (lo := 3) (hi := 16) (by decide)
        rw [if_pos c9, ag_r hA]
        have nb := numN_b (f := f) (p := p + 1)
        by_cases c3 : numR g (p + 1) 3 16 < 0
        · have nr : ¬ rcOk g p := fun z => k1.mpr z.2 c3
          rw [if_pos c3, if_neg nr, ep]
          unfold rcI
          rw [if_neg nr]
          refine ⟨rfl, fun z => ?_, fun e g1 g2 => baNew_off g1 g2, fun _ _ => rfl⟩
          exact absurd (nI_pos' (show numN f (p + 1) < 2 ^ 31 by omega)) (by rw [show nI (numN f (p + 1)) = -9 from z]; decide)
        · have ok : numOk g (p + 1) 3 16 := k1.mp c3
          have rr : rcOk g p := ⟨d9, ok⟩
          rw [if_neg c3, if_pos rr, ep, k2 ok]
          obtain ⟨j, hj, ej⟩ := nI_of2 (M := 16) (n := 16) (by decide) (Int32.not_lt.mpr (Int32.le_trans (by decide) ok.2.1)) ok.2.2
          have j3 : 3 ≤ j := by
            have := ok.2.1
            rw [ej] at this
            exact (nI_leI (a := 3) (by decide) (by omega)).mp this
          have er : rcI E g p = up2 E 212 0 (numW g (p + 1)) := by
            unfold rcI
            rw [if_pos rr]
          rw [er]
          have hn := hr_new (D := D) (E := E) j3 hj ej h2
          rw [show (numW g (p + 1)).toNatClampNeg = j by rw [ej, nI_clamp (by omega)]]
          obtain ⟨i1, i2, i3, i4⟩ := rh_sim hA hm he k 100 (numN f (p + 1)) _ _ (by omega) (by omega) hn
          refine ⟨i1, fun _ => ⟨j, i2⟩, fun e g1 g2 => ?_, fun e g1 => ?_⟩
          · rw [i3 e g1 g2, up2_off g1, baNew_off g1 g2]
          · rw [i4 e g1, up2_off g1]
      · have d9 : ¬ g p = 99 := fun z => c9 ((ag_c hA (by decide) (by decide)).mpr z)
        have nr : ¬ rcOk g p := fun z => d9 z.1
        rw [if_neg c9, if_neg nr]
        unfold rcP rcI
        rw [if_neg d9, if_neg nr]
        refine ⟨rfl, fun z => ?_, fun e g1 g2 => baNew_off g1 g2, fun _ _ => rfl⟩
        exact absurd (nI_pos' (show p < 2 ^ 31 by omega)) (by rw [show nI p = -9 from z]; decide)
/-- a sea's text -/
def SR (D E : Im) (c : Nat) : Prop := SeR D 88 (E 213) c ∧ SeX (E 213) c ∧ E 200 17 = nI c ∧ D 88 2 = 1
def ItQ (x : It) : Prop := (x.2.2.1 = 0 ∧ x.1 = false) ∨ (x.2.2.1 = 1 ∧ x.1 = true ∧ (∃ a, 2 ≤ a ∧ a ≤ 60 ∧ x.2.2.2.1 = nI a) ∧ ∃ b, b ≤ 99 ∧ x.2.2.2.2 = nI b)
theorem itS_q {f : Nat → Int32} {c p : Nat} : ItQ (itS f c p) := by
  unfold itS
  by_cases c4 : 4 ≤ c
  · rw [if_pos c4]
    exact Or.inl ⟨rfl, rfl⟩
  rw [if_neg c4]
  by_cases c5 : f p = 112
  · rw [if_neg (fun z => z c5)]
    by_cases c6 : numR f (p + 1) 2 60 < 0
    · rw [if_pos c6]
      exact Or.inl ⟨rfl, rfl⟩
    rw [if_neg c6]
    by_cases c7 : f (numN f (p + 1)) = 58
    · rw [if_neg (fun z => z c7)]
      by_cases c8 : numR f (numN f (p + 1) + 1) 0 99 < 0
      · rw [if_pos c8]
        exact Or.inl ⟨rfl, rfl⟩
      rw [if_neg c8]
      obtain ⟨a, ha, ea⟩ := numR_b (k := 60) (by decide) c6
      obtain ⟨b, hb, eb⟩ := numR_b (k := 99) (by decide) c8
      have a2 : 2 ≤ a := by
        obtain ⟨k1, k2⟩ := numR_k2 (f := f) (p := p + 1) (lo := 2) (hi := 60) (by decide)
        have ok := k1.mp c6
        have := ok.2.1
        rw [← k2 ok, show numR f (p + 1) 2 60 = nI a from ea] at this
        exact (nI_leI (a := 2) (by decide) (by omega)).mp this
      exact Or.inr ⟨rfl, rfl, ⟨a, a2, ha, ea⟩, b, hb, eb⟩
    · rw [if_pos c7]
      exact Or.inl ⟨rfl, rfl⟩
  · rw [if_pos c5]
    exact Or.inl ⟨rfl, rfl⟩
theorem sr_no {c : Nat} {x : It} (h : SR D E c) (h2 : x.2.2.1 = 0) : SR (itSE D c x) (itSM E c x) c := by
  unfold itSE itSM
  rw [if_neg (by rw [h2]; decide), if_neg (by rw [h2]; decide)]
  exact h
theorem sr_it {c : Nat} {x : It} (h : SR D E c) (c4 : c < 4) (hx : ItQ x) (h1 : x.2.2.1 = 1) : SR (itSE D c x) (itSM E c x) (c + 1) := by
  obtain ⟨hs, hX, h17, h82⟩ := h
  rcases hx with ⟨e, -⟩ | ⟨-, -, ⟨a, a2, a6, ea⟩, b, b9, eb⟩
  · rw [h1] at e
    exact absurd e (by decide)
  have e1 : itSE D c x = up2 (up2 (up2 D 89 c (nI a)) 90 c (nI b)) 88 3 (nI (c + 1)) := by
    unfold itSE swAdd
    rw [if_pos h1, ea, eb]
  have e2 : itSM E c x = up2 (up2 (up2 E 213 (2 * c) (nI a)) 213 (2 * c + 1) (nI b)) 200 17 (nI (c + 1)) := by
    unfold itSM
    rw [if_pos h1, ea, eb]
  rw [e1, e2]
  have q : ∀ p, p ≠ 2 * c → p ≠ 2 * c + 1 → up2 (up2 (up2 E 213 (2 * c) (nI a)) 213 (2 * c + 1) (nI b)) 200 17 (nI (c + 1)) 213 p = E 213 p := fun p g1 g2 => by rw [up2_off (by decide), u2_j g2, u2_j g1]
  have q0 : up2 (up2 (up2 E 213 (2 * c) (nI a)) 213 (2 * c + 1) (nI b)) 200 17 (nI (c + 1)) 213 (2 * c) = nI a := by rw [up2_off (by decide), u2_j (by omega), u2_s]
  have q1 : up2 (up2 (up2 E 213 (2 * c) (nI a)) 213 (2 * c + 1) (nI b)) 200 17 (nI (c + 1)) 213 (2 * c + 1) = nI b := by rw [up2_off (by decide), u2_s]
  refine ⟨⟨by omega, u2_s, fun i hi => ?_⟩, fun i hi => ?_, u2_s, ?_⟩
  · rw [show 88 + 1 = 89 from rfl, show 88 + 2 = 90 from rfl]
    by_cases ei : i = c
    · subst ei
      rw [q0, q1, up2_off (by decide), up2_off (by decide), u2_s, up2_off (by decide), u2_s]
      refine ⟨rfl, rfl, Int32.not_le.mpr (nI_lt (a := 0) (by omega) (by omega))⟩
    · rw [q _ (by omega) (by omega), q _ (by omega) (by omega), up2_off (by decide), up2_off (by decide), u2_j ei, up2_off (by decide), u2_j ei]
      rw [up2_off (by decide)]
      exact hs.be i (by omega)
  · by_cases ei : i = c
    · subst ei
      rw [q0, q1]
      exact ⟨⟨a, a2, a6, rfl⟩, b, b9, rfl⟩
    · rw [q _ (by omega) (by omega), q _ (by omega) (by omega)]
      exact hX i (by omega)
  · rw [u2_j (by decide), up2_off (by decide), up2_off (by decide)]
    exact h82
theorem rs_sim {f g : Nat → Int32} {m : Nat} (hA : Ag f g) (hm : m ≤ 100) (he : ∀ p, m ≤ p → ¬ f p = 32) : ∀ k kc p c D E, m ≤ p + k → m ≤ p + kc → SR D E c → (rdS f m kc (skipN f 100 p) c D).1 = (msF g m k p c E).1 ∧ (∃ c', SR (rdS f m kc (skipN f 100 p) c D).2.2 (msF g m k p c E).2.2.2 c') ∧ (∀ e, e ≠ 88 → e ≠ 89 → e ≠ 90 → (rdS f m kc (skipN f 100 p) c D).2.2 e = D e) ∧ (∀ e, e ≠ 200 → e ≠ 213 → (msF g m k p c E).2.2.2 e = E e) ∧ ∀ j, j ≠ 17 → (msF g m k p c E).2.2.2 200 j = E 200 j := by
  intro k
  have fin : ∀ kc p c D E k', m ≤ p → SR D E c → (rdS f m kc (skipN f 100 p) c D).1 = (msF g m k' p c E).1 ∧ (∃ c', SR (rdS f m kc (skipN f 100 p) c D).2.2 (msF g m k' p c E).2.2.2 c') ∧ (∀ e, e ≠ 88 → e ≠ 89 → e ≠ 90 → (rdS f m kc (skipN f 100 p) c D).2.2 e = D e) ∧ (∀ e, e ≠ 200 → e ≠ 213 → (msF g m k' p c E).2.2.2 e = E e) ∧ ∀ j, j ≠ 17 → (msF g m k' p c E).2.2.2 200 j = E 200 j := by
    intro kc p c D E k' hp hr
    have e1 : rdS f m kc p c D = (-9, p, D) := by
      cases kc with
      | zero => rfl
      | succ kc => unfold rdS; rw [if_pos hp]
    have e2 : msF g m k' p c E = (-9, p, c, E) := by
      cases k' with
      | zero => rw [msF]
      | succ k' => rw [msF, if_pos hp]
    rw [sk_no (he p hp), e1, e2]
    exact ⟨rfl, ⟨c, hr⟩, fun _ _ _ _ => rfl, fun _ _ _ => rfl, fun _ _ => rfl⟩
  have of1 : ∀ (E : Im) c x, (∀ e, e ≠ 200 → e ≠ 213 → itSM E c x e = E e) ∧ ∀ j, j ≠ 17 → itSM E c x 200 j = E 200 j := fun E c x => by
    unfold itSM
    split
    · exact ⟨fun e g1 g2 => by rw [up2_off g1, up2_off g2, up2_off g2], fun j hj => by rw [u2_j hj, up2_off (by decide), up2_off (by decide)]⟩
    · exact ⟨fun _ _ _ => rfl, fun _ _ => rfl⟩
  induction k with
  | zero =>
    intro kc p c D E h1 h2 hr
    exact fin kc p c D E 0 (by omega) hr
  | succ k ih =>
    intro kc p c D E h1 h2 hr
    by_cases hp : m ≤ p
    · exact fin kc p c D E (k + 1) hp hr
    rw [msF, if_neg hp]
    by_cases cc : f p = 32
    · rw [if_pos ((ag_c hA (by decide) (by decide)).mp cc)]
      have es : skipN f 100 p = skipN f 100 (p + 1) := by
        rw [show skipN f 100 p = skipN f 99 (p + 1) by show (if f p = 32 then skipN f 99 (p + 1) else p) = _; rw [if_pos cc]]
        exact sk_fuel he 99 100 (p + 1) (by omega) (by omega)
      rw [es]
      exact ih kc (p + 1) c D E (by omega) (by omega) hr
    · rw [if_neg (fun z => cc ((ag_c hA (by decide) (by decide)).mpr z)), sk_no cc, ← ag_S hA]
      obtain ⟨kc', rfl⟩ : ∃ kc', kc = kc' + 1 := ⟨kc - 1, by omega⟩
      have es : rdS f m (kc' + 1) p c D = if (itS f c p).1 = true then rdS f m kc' (skipN f 100 (itS f c p).2.1) (c + 1) (itSE D c (itS f c p)) else (nI (itS f c p).2.1, (itS f c p).2.1, itSE D c (itS f c p)) := by
        show (if m ≤ p then _ else _) = _
        rw [if_neg hp]
      have iq := itS_q (f := f) (c := c) (p := p)
      obtain ⟨o1, o2⟩ := of1 E c (itS f c p)
      rw [es]
      by_cases c2 : (itS f c p).1 = true
      · rw [if_pos c2, if_pos c2]
        obtain ⟨b, l4, e1⟩ := (itS_b (f := f) (c := c) (p := p)).2 c2
        obtain ⟨i1, i2, i3, i4, i5⟩ := ih kc' (itS f c p).2.1 (c + 1) (itSE D c (itS f c p)) (itSM E c (itS f c p)) (by omega) (by omega) (sr_it hr l4 iq e1)
        exact ⟨i1, i2, fun e g1 g2 g3 => (i3 e g1 g2 g3).trans (itSE_off g1 g2 g3), fun e g1 g2 => (i4 e g1 g2).trans (o1 e g1 g2), fun j hj => (i5 j hj).trans (o2 j hj)⟩
      · rw [if_neg c2, if_neg c2]
        refine ⟨rfl, ⟨c, ?_⟩, fun e g1 g2 g3 => itSE_off g1 g2 g3, o1, o2⟩
        rcases iq with ⟨z1, z2⟩ | ⟨z1, z2, -⟩
        · exact sr_no hr z1
        · exact absurd z2 c2
end
end R46
