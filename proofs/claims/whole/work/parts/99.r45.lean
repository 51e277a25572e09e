section R45
variable {G : Gp} {I : Im} {L : Nat → Nat → Int64} {t : Nat}
section
variable {f g : Nat → Int32} {p n m c : Nat}
/-- one text, seen by both readers -/
def Ag (f g : Nat → Int32) : Prop := ∀ p, f p = g p ∨ (f p = 1000 ∧ g p = 0)
theorem ag_c {x : Int32} (h : Ag f g) (h1 : ¬ (1000 : Int32) = x) (h2 : ¬ (0 : Int32) = x) : f p = x ↔ g p = x := by
  rcases h p with e | ⟨e1, e2⟩
  · rw [e]
  · rw [e1, e2]
    exact ⟨fun z => absurd z h1, fun z => absurd z h2⟩
theorem ag_f {lo : Int32} (h : Ag f g) (hl : ¬ lo ≤ 0 - 48) : figOk f p lo ↔ figOk g p lo := by
  unfold figOk
  rcases h p with e | ⟨e1, e2⟩
  · rw [e]
  · rw [e1, e2]
    exact ⟨fun z => absurd z.2 (by decide), fun z => absurd z.1 hl⟩
theorem ag_v {lo : Int32} (h : Ag f g) (k : figOk f p lo) : f p = g p := by
  rcases h p with e | ⟨e1, e2⟩
  · exact e
  · unfold figOk at k
    rw [e1] at k
    exact absurd k.2 (by decide)
theorem ag_n (h : Ag f g) : numN f p = numN g p := by
  unfold numN
  simp only [ag_f (lo := 0) h (by decide)]
theorem ag_w (h : Ag f g) (k : figOk f p 0) : numW f p = numW g p := by
  unfold numW
  by_cases d : figOk f (p + 1) 0
  · rw [if_pos d, if_pos ((ag_f h (by decide)).mp d), ag_v h k, ag_v h d]
  · rw [if_neg d, if_neg (fun z => d ((ag_f h (by decide)).mpr z)), ag_v h k]
theorem ag_r {lo hi : Int32} (h : Ag f g) : numR f p lo hi = numR g p lo hi := by
  unfold numR
  by_cases k : figOk f p 0
  · simp only [ag_w h k, ag_f (lo := 0) h (by decide)]
  · rw [if_neg (fun z => k z.1), if_neg (fun z => k ((ag_f h (by decide)).mpr z.1))]
theorem ag_K {hi lo : Int32} {kd : Nat} (h : Ag f g) (hl : ¬ lo ≤ 0 - 48) : itK f p hi lo kd = itK g p hi lo kd := by
  unfold itK
  rw [ag_r h, ag_n h]
  by_cases c1 : numR g p 0 hi < 0
  · rw [if_pos c1, if_pos c1]
  rw [if_neg c1, if_neg c1]
  by_cases c2 : g (numN g p) = 58
  · rw [if_neg (show ¬ ¬ f (numN g p) = 58 from fun z => z ((ag_c h (by decide) (by decide)).mpr c2)), if_neg (show ¬ ¬ g (numN g p) = 58 from fun z => z c2)]
    by_cases c3 : figOk f (numN g p + 1) lo
    · rw [if_pos c3, if_pos ((ag_f h hl).mp c3), ag_v h c3]
    · rw [if_neg c3, if_neg (fun z => c3 ((ag_f h hl).mpr z))]
  · rw [if_pos (show ¬ f (numN g p) = 58 from fun z => c2 ((ag_c h (by decide) (by decide)).mp z)), if_pos c2]
theorem ag_W {hi : Int32} (h : Ag f g) : itW f p hi = itW g p hi := by
  unfold itW
  rw [ag_r h, ag_n h]
theorem ag_R (h : Ag f g) : itR f p = itR g p := by
  unfold itR
  by_cases c3 : figOk f p 0
  · rw [if_pos c3, if_pos ((ag_f h (by decide)).mp c3), ag_v h c3]
  · rw [if_neg c3, if_neg (fun z => c3 ((ag_f h (by decide)).mpr z))]
theorem ag_m (h : Ag f g) : itm f n p = itm g n p := by
  unfold itm
  simp only [ag_c (x := 100) h (by decide) (by decide), ag_c (x := 119) h (by decide) (by decide), ag_c (x := 109) h (by decide) (by decide), ag_c (x := 114) h (by decide) (by decide)]
  rw [ag_K h (by decide), ag_K h (by decide), ag_W h, ag_R h]
theorem ag_S (h : Ag f g) : itS f c p = itS g c p := by
  unfold itS
  rw [ag_r h, ag_n h, ag_n h, ag_r h]
  simp only [ag_c (x := 112) h (by decide) (by decide), ag_c (x := 58) h (by decide) (by decide)]
/-- blanks -/
theorem sk_no {k : Nat} (h : ¬ f p = 32) : skipN f k p = p := by
  cases k with
  | zero => rfl
  | succ k => unfold skipN; rw [if_neg h]
theorem sk_fuel (he : ∀ p, m ≤ p → ¬ f p = 32) : ∀ k k' p, m ≤ p + k → m ≤ p + k' → skipN f k p = skipN f k' p := by
  intro k
  induction k with
  | zero =>
    intro k' p h1 h2
    rw [sk_no (he p (by omega)), sk_no (he p (by omega))]
  | succ k ih =>
    intro k' p h1 h2
    by_cases c : f p = 32
    · have : p < m := Nat.not_le.mp (fun z => he p z c)
      cases k' with
      | zero => omega
      | succ k' =>
        unfold skipN
        rw [if_pos c, if_pos c]
        exact ih k' (p + 1) (by omega) (by omega)
    · rw [sk_no c, sk_no c]
/-- what an item says -/
def ItP (n : Nat) (x : It) : Prop := x.2.2.1 = 0 ∨ (x.2.2.1 = 1 ∧ (∃ a, a < n ∧ x.2.2.2.1 = nI a) ∧ ∃ b, 1 ≤ b ∧ b ≤ 9 ∧ x.2.2.2.2 = nI b) ∨ (x.2.2.1 = 2 ∧ ∃ a, a + 1 < n ∧ x.2.2.2.1 = nI a) ∨ (x.2.2.1 = 3 ∧ (∃ a, a < n ∧ x.2.2.2.1 = nI a) ∧ ∃ b, b ≤ 9 ∧ x.2.2.2.2 = nI b) ∨ (x.2.2.1 = 4 ∧ ∃ b, b ≤ 9 ∧ x.2.2.2.2 = nI b)
theorem numR_b {lo : Int32} {k : Nat} (hk : k < 2 ^ 31) (h : ¬ numR f p lo (nI k) < 0) : ∃ a, a ≤ k ∧ numR f p lo (nI k) = nI a := by
  obtain ⟨j, hj, e⟩ := nI_of h
  refine ⟨j, ?_, e⟩
  have : numR f p lo (nI k) ≤ nI k := by
    unfold numR at h ⊢
    split
    · next c => exact c.2.2
    · next c =>
      rw [if_neg c] at h
      exact absurd (show (-1 : Int32) < 0 by decide) h
  rw [e] at this
  exact (nI_leI hj hk).mp this
theorem fig_b {lo : Int32} (h0 : 0 ≤ lo) (h : figOk f p lo) : ∃ b, b ≤ 9 ∧ f p - 48 = nI b := by
  obtain ⟨j, hj, e⟩ := nI_of2 (M := 9) (n := 9) (by decide) (Int32.not_lt.mpr (Int32.le_trans h0 h.1)) h.2
  exact ⟨j, hj, e⟩
theorem itm_p (n3 : 3 ≤ n) (n16 : n ≤ 16) : ItP n (itm f n p) := by
  have kK : ∀ hi, hi + 1 = n → ∀ lo, 0 ≤ lo → ∀ kd, itK f (p + 1) (nI hi) lo kd = (false, (itK f (p + 1) (nI hi) lo kd).2.1, 0, 0, 0) ∨ ∃ a b, a < n ∧ figOk f (numN f (p + 1) + 1) lo ∧ b ≤ 9 ∧ f (numN f (p + 1) + 1) - 48 = nI b ∧ itK f (p + 1) (nI hi) lo kd = (true, numN f (p + 1) + 2, kd, nI a, nI b) := by
    intro hi hh lo h0 kd
    by_cases c1 : numR f (p + 1) 0 (nI hi) < 0
    · refine Or.inl ?_
      unfold itK
      rw [if_pos c1]
    by_cases c2 : f (numN f (p + 1)) = 58
    · by_cases c3 : figOk f (numN f (p + 1) + 1) lo
      · obtain ⟨a, ha, ea⟩ := numR_b (by omega) c1
        obtain ⟨b, hb, eb⟩ := fig_b h0 c3
        refine Or.inr ⟨a, b, by omega, c3, hb, eb, ?_⟩
        unfold itK
        rw [if_neg c1, if_neg (fun z => z c2), if_pos c3, ea, eb]
      · refine Or.inl ?_
        unfold itK
        rw [if_neg c1, if_neg (fun z => z c2), if_neg c3]
    · refine Or.inl ?_
      unfold itK
      rw [if_neg c1, if_pos c2]
  unfold itm
  by_cases d1 : f p = 100
  · rw [if_pos d1]
    rcases kK (n - 1) (by omega) 1 (by decide) 1 with e | ⟨a, b, ha, hf, hb, eb, e⟩
    · rw [e]
      exact Or.inl rfl
    · rw [e]
      refine Or.inr (Or.inl ⟨rfl, ⟨a, ha, rfl⟩, b, ?_, hb, rfl⟩)
      have := hf.1
      rw [eb] at this
      exact (nI_leI (a := 1) (by decide) (by omega)).mp this
  rw [if_neg d1]
  by_cases d2 : f p = 119
  · rw [if_pos d2]
    unfold itW
    by_cases c1 : numR f (p + 1) 0 (nI (n - 2)) < 0
    · rw [if_pos c1]
      exact Or.inl rfl
    · rw [if_neg c1]
      obtain ⟨a, ha, ea⟩ := numR_b (by omega) c1
      rw [ea]
      exact Or.inr (Or.inr (Or.inl ⟨rfl, a, by omega, rfl⟩))
  rw [if_neg d2]
  by_cases d3 : f p = 109
  · rw [if_pos d3]
    rcases kK (n - 1) (by omega) 0 (by decide) 3 with e | ⟨a, b, ha, hf, hb, eb, e⟩
    · rw [e]
      exact Or.inl rfl
    · rw [e]
      exact Or.inr (Or.inr (Or.inr (Or.inl ⟨rfl, ⟨a, ha, rfl⟩, b, hb, rfl⟩)))
  rw [if_neg d3]
  by_cases d4 : f p = 114
  · rw [if_pos d4]
    unfold itR
    by_cases c3 : figOk f (p + 1) 0
    · rw [if_pos c3]
      obtain ⟨b, hb, eb⟩ := fig_b (by decide) c3
      exact Or.inr (Or.inr (Or.inr (Or.inr ⟨rfl, b, hb, eb⟩)))
    · rw [if_neg c3]
      exact Or.inl rfl
  · rw [if_neg d4]
    exact Or.inl rfl
end
section
variable {C M D E : Im}
/-- the harbour that is read, in both -/
def HR (D E : Im) (n : Nat) : Prop := (∃ mo, BaR D 86 (E 212) n mo) ∧ HaX (E 212) ∧ D 86 1 = 1
theorem hr_it {n : Nat} {x : It} (h : HR D E n) (hx : ItP n x) : HR (itE D x) (itM E x) n := by
  obtain ⟨⟨mo, hb⟩, ha, h1⟩ := h
  have n3 := hb.n3
  have n16 := hb.n16
  have mm := hb.mm
  obtain ⟨g2, g3, g5⟩ := ha
  rcases hx with e | ⟨e, ⟨a, ha, ea⟩, b, b1, b9, eb⟩ | ⟨e, a, ha, ea⟩ | ⟨e, ⟨a, ha, ea⟩, b, b9, eb⟩ | ⟨e, b, b9, eb⟩
  · unfold itE itM
    rw [e]
    exact ⟨⟨mo, hb⟩, ⟨g2, g3, g5⟩, h1⟩
  · have e1 : itE D x = up2 D 87 a (nI b) := by
      unfold itE
      rw [if_pos e, ea, eb, nI_clamp (by omega)]
    have e2 : itM E x = up2 E 212 (5 + a) (nI b) := by
      unfold itM
      rw [if_pos e, ea, eb, show (5 : Int32) + nI a = nI (5 + a) from nI_add 5 a, nI_clamp (by omega)]
    rw [e1, e2]
    have o : up2 D 87 a (nI b) 86 = D 86 := up2_off (by decide)
    have q : ∀ p, p < 5 → up2 E 212 (5 + a) (nI b) 212 p = E 212 p := fun p hp => u2_j (by omega)
    refine ⟨⟨mo, n3, n16, mm, ?_, ?_, ?_, ?_, ?_, fun j hj => ?_, ?_, ?_⟩, ⟨?_, ?_, fun j hj => ?_⟩, ?_⟩
    · rw [o]; exact hb.ce
    · rw [o]; exact hb.mu
    · rw [o, q 2 (by decide)]; exact hb.wi
    · rw [o, q 3 (by decide)]; exact hb.ru
    · rw [o, q 4 (by decide)]; exact hb.wa
    · by_cases ej : j = a
      · subst ej
        rw [u2_s, u2_s]
      · rw [u2_j ej, u2_j (by omega)]
        exact hb.de j hj
    · rw [q 0 (by decide)]; exact hb.h0
    · rw [q 1 (by decide)]; exact hb.h1
    · rw [q 2 (by decide)]; exact g2
    · rw [q 3 (by decide)]; exact g3
    · by_cases ej : j = a
      · subst ej
        rw [u2_s]
        exact ⟨b, b1, b9, rfl⟩
      · rw [u2_j (by omega)]
        exact g5 j hj
    · rw [o]; exact h1
  · have hw : hasW D 86 (nI a) := ⟨nI_pos' (by omega), by rw [hb.ce, show nI n - 1 = nI (n - 1) from (nI_sub (a := 1) (b := n) (by omega) (by omega)).symm]; exact nI_lt (by omega) (by omega), nI_lt (b := 15) (by omega) (by decide)⟩
    have e1 : itE D x = up2 D 86 6 (D 86 6 ||| 1 <<< (nI a &&& 31)) := by
      unfold itE baWall
      rw [if_neg (by rw [e]; decide), if_pos e, ea, if_pos hw]
    have e2 : itM E x = up2 E 212 4 (E 212 4 ||| 1 <<< (nI a &&& 31)) := by
      unfold itM
      rw [if_neg (by rw [e]; decide), if_pos e, ea]
    rw [e1, e2]
    have o : ∀ j, j ≠ 6 → up2 D 86 6 (D 86 6 ||| 1 <<< (nI a &&& 31)) 86 j = D 86 j := fun j hj => u2_j hj
    have q : ∀ p, p ≠ 4 → up2 E 212 4 (E 212 4 ||| 1 <<< (nI a &&& 31)) 212 p = E 212 p := fun p hp => u2_j hp
    refine ⟨⟨mo, n3, n16, mm, ?_, ?_, ?_, ?_, ?_, fun j hj => ?_, ?_, ?_⟩, ⟨?_, ?_, fun j hj => ?_⟩, ?_⟩
    · rw [o 2 (by decide)]; exact hb.ce
    · rw [o 3 (by decide)]; exact hb.mu
    · rw [o 4 (by decide), q 2 (by decide)]; exact hb.wi
    · rw [o 5 (by decide), q 3 (by decide)]; exact hb.ru
    · rw [u2_s, u2_s, show D 86 6 = E 212 4 from hb.wa]
    · rw [up2_off (by decide), q (5 + j) (by omega)]; exact hb.de j hj
    · rw [q 0 (by decide)]; exact hb.h0
    · rw [q 1 (by decide)]; exact hb.h1
    · rw [q 2 (by decide)]; exact g2
    · rw [q 3 (by decide)]; exact g3
    · rw [q (5 + j) (by omega)]; exact g5 j hj
    · rw [o 1 (by decide)]; exact h1
  · have e1 : itE D x = up2 (up2 D 86 3 (nI a)) 86 4 (nI b) := by
      unfold itE
      rw [if_neg (by rw [e]; decide), if_neg (by rw [e]; decide), if_pos e, ea, eb]
    have e2 : itM E x = up2 (up2 E 212 1 (nI a)) 212 2 (nI b) := by
      unfold itM
      rw [if_neg (by rw [e]; decide), if_neg (by rw [e]; decide), if_pos e, ea, eb]
    rw [e1, e2]
    have o : ∀ j, j ≠ 3 → j ≠ 4 → up2 (up2 D 86 3 (nI a)) 86 4 (nI b) 86 j = D 86 j := fun j hj h4 => by rw [u2_j h4, u2_j hj]
    have q : ∀ p, p ≠ 1 → p ≠ 2 → up2 (up2 E 212 1 (nI a)) 212 2 (nI b) 212 p = E 212 p := fun p hp h2 => by rw [u2_j h2, u2_j hp]
    refine ⟨⟨a, n3, n16, ha, ?_, ?_, ?_, ?_, ?_, fun j hj => ?_, ?_, ?_⟩, ⟨?_, ?_, fun j hj => ?_⟩, ?_⟩
    · rw [o 2 (by decide) (by decide)]; exact hb.ce
    · rw [u2_j (by decide), u2_s]
    · rw [u2_s, u2_s]
    · rw [o 5 (by decide) (by decide), q 3 (by decide) (by decide)]; exact hb.ru
    · rw [o 6 (by decide) (by decide), q 4 (by decide) (by decide)]; exact hb.wa
    · rw [up2_off (by decide), up2_off (by decide), q (5 + j) (by omega) (by omega)]; exact hb.de j hj
    · rw [q 0 (by decide) (by decide)]; exact hb.h0
    · rw [u2_j (by decide), u2_s]
    · rw [u2_s]; exact ⟨b, b9, rfl⟩
    · rw [q 3 (by decide) (by decide)]; exact g3
    · rw [q (5 + j) (by omega) (by omega)]; exact g5 j hj
    · rw [o 1 (by decide) (by decide)]; exact h1
  · have e1 : itE D x = up2 D 86 5 (nI b) := by
      unfold itE
      rw [if_neg (by rw [e]; decide), if_neg (by rw [e]; decide), if_neg (by rw [e]; decide), if_pos e, eb]
    have e2 : itM E x = up2 E 212 3 (nI b) := by
      unfold itM
      rw [if_neg (by rw [e]; decide), if_neg (by rw [e]; decide), if_neg (by rw [e]; decide), if_pos e, eb]
    rw [e1, e2]
    have o : ∀ j, j ≠ 5 → up2 D 86 5 (nI b) 86 j = D 86 j := fun j hj => u2_j hj
    have q : ∀ p, p ≠ 3 → up2 E 212 3 (nI b) 212 p = E 212 p := fun p hp => u2_j hp
    refine ⟨⟨mo, n3, n16, mm, ?_, ?_, ?_, ?_, ?_, fun j hj => ?_, ?_, ?_⟩, ⟨?_, ?_, fun j hj => ?_⟩, ?_⟩
    · rw [o 2 (by decide)]; exact hb.ce
    · rw [o 3 (by decide)]; exact hb.mu
    · rw [o 4 (by decide), q 2 (by decide)]; exact hb.wi
    · rw [u2_s, u2_s]
    · rw [o 6 (by decide), q 4 (by decide)]; exact hb.wa
    · rw [up2_off (by decide), q (5 + j) (by omega)]; exact hb.de j hj
    · rw [q 0 (by decide)]; exact hb.h0
    · rw [q 1 (by decide)]; exact hb.h1
    · rw [q 2 (by decide)]; exact g2
    · rw [u2_s]; exact ⟨b, b9, rfl⟩
    · rw [q (5 + j) (by omega)]; exact g5 j hj
    · rw [o 1 (by decide)]; exact h1
/-- the rest of a harbour's text, read by both -/
theorem rh_sim {f g : Nat → Int32} {m : Nat} (hA : Ag f g) (hm : m ≤ 100) (he : ∀ p, m ≤ p → ¬ f p = 32) {n : Nat} : ∀ k kc p D E, m ≤ p + k → m ≤ p + kc → HR D E n → (rdH f n m kc (skipN f 100 p) D).1 = (mhF g m k p E).1 ∧ HR (rdH f n m kc (skipN f 100 p) D).2.2 (mhF g m k p E).2.2 n ∧ (∀ e, e ≠ 86 → e ≠ 87 → (rdH f n m kc (skipN f 100 p) D).2.2 e = D e) ∧ (∀ e, e ≠ 212 → (mhF g m k p E).2.2 e = E e) := by
  intro k
  have fin : ∀ kc p D E k', m ≤ p → HR D E n → (rdH f n m kc (skipN f 100 p) D).1 = (mhF g m k' p E).1 ∧ HR (rdH f n m kc (skipN f 100 p) D).2.2 (mhF g m k' p E).2.2 n ∧ (∀ e, e ≠ 86 → e ≠ 87 → (rdH f n m kc (skipN f 100 p) D).2.2 e = D e) ∧ (∀ e, e ≠ 212 → (mhF g m k' p E).2.2 e = E e) := by
    intro kc p D E k' hp hr
    have e1 : rdH f n m kc p D = (-9, p, D) := by
      cases kc with
      | zero => rfl
      | succ kc => unfold rdH; rw [if_pos hp]
    obtain ⟨mo, hb⟩ := hr.1
    have n3 := hb.n3
    have n16 := hb.n16
    have z : ¬ E 212 0 = 0 := by
      rw [hb.h0]
      exact fun z => by
        have := (nI_eq (a := n) (b := 0) (by omega) (by omega)).mp z
        omega
    rw [sk_no (he p hp), e1, mhF_e hp, if_neg z]
    exact ⟨rfl, hr, fun _ _ _ => rfl, fun _ _ => rfl⟩
  induction k with
  | zero =>
    intro kc p D E h1 h2 hr
    exact fin kc p D E 0 (by omega) hr
  | succ k ih =>
    intro kc p D E h1 h2 hr
    by_cases hp : m ≤ p
    · exact fin kc p D E (k + 1) hp hr
    rw [mhF_s hp]
    by_cases c : f p = 32
    · rw [if_pos ((ag_c hA (by decide) (by decide)).mp c)]
      have es : skipN f 100 p = skipN f 100 (p + 1) := by
        rw [show skipN f 100 p = skipN f 99 (p + 1) by show (if f p = 32 then skipN f 99 (p + 1) else p) = _; rw [if_pos c]]
        exact sk_fuel he 99 100 (p + 1) (by omega) (by omega)
      rw [es]
      exact ih kc (p + 1) D E (by omega) (by omega) hr
    · rw [if_neg (fun z => c ((ag_c hA (by decide) (by decide)).mpr z)), sk_no c]
      obtain ⟨mo, hb⟩ := hr.1
      have n3 := hb.n3
      have n16 := hb.n16
      have z : ¬ E 212 0 = 0 := by
        rw [hb.h0]
        exact fun z => by
          have := (nI_eq (a := n) (b := 0) (by omega) (by omega)).mp z
          omega
      rw [if_neg z, show (E 212 0).toNatClampNeg = n by rw [hb.h0, nI_clamp (by omega)], ← ag_m hA]
      obtain ⟨kc', rfl⟩ : ∃ kc', kc = kc' + 1 := ⟨kc - 1, by omega⟩
      have hi := hr_it hr (itm_p (f := f) (p := p) n3 n16)
      have es : rdH f n m (kc' + 1) p D = if (itm f n p).1 = true then rdH f n m kc' (skipN f 100 (itm f n p).2.1) (itE D (itm f n p)) else (nI (itm f n p).2.1, (itm f n p).2.1, itE D (itm f n p)) := by
        show (if m ≤ p then _ else _) = _
        rw [if_neg hp]
      rw [es]
      by_cases c2 : (itm f n p).1 = true
      · rw [if_pos c2, if_pos c2]
        have b := (itm_b (f := f) (n := n) (p := p)).2 c2
        obtain ⟨i1, i2, i3, i4⟩ := ih kc' (itm f n p).2.1 (itE D (itm f n p)) (itM E (itm f n p)) (by omega) (by omega) hi
        exact ⟨i1, i2, fun e g1 g2 => (i3 e g1 g2).trans (itE_off g1 g2), fun e g1 => (i4 e g1).trans (itM_off g1)⟩
      · rw [if_neg c2, if_neg c2]
        exact ⟨rfl, hi, fun e g1 g2 => itE_off g1 g2, fun e g1 => itM_off g1⟩
end
end R45
