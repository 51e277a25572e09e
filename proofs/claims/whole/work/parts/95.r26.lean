section R26
variable {G : Gp} {I : Im} {L : Nat → Nat → Int64} {t : Nat}
section
variable {C M D E : Im} {L : Nat → Nat → Int64}
theorem rd_up {I : Im} {p : Nat} {v : Int32} : rdw (up2 I 217 (500 + p) v) 500 = upn (rdw I 500) p v := by
  funext i
  unfold rdw upn up2
  by_cases e : i = p
  · rw [if_pos ⟨rfl, by omega⟩, if_pos e]
  · rw [if_neg (by omega), if_neg e]
theorem BaR_2 {X : Im} {b n mo : Nat} {H : Nat → Int32} {v : Int32} (h : BaR X b H n mo) : BaR (up2 X b 4 v) b (upn H 2 v) n mo := by
  refine BaR.mk h.n3 h.n16 h.mm ?_ ?_ ?_ ?_ ?_ ?_ ?_ ?_
  · rw [u2_j (by decide)]
    exact h.ce
  · rw [u2_j (by decide)]
    exact h.mu
  · rw [u2_s, upn_s]
  · rw [u2_j (by decide), upn_n (by decide)]
    exact h.ru
  · rw [u2_j (by decide), upn_n (by decide)]
    exact h.wa
  · intro j hj
    rw [up2_off (by omega), upn_n (by omega)]
    exact h.de j hj
  · rw [upn_n (by decide)]
    exact h.h0
  · rw [upn_n (by decide)]
    exact h.h1
theorem BaR_4 {X : Im} {b n mo : Nat} {H : Nat → Int32} {v : Int32} (h : BaR X b H n mo) : BaR (up2 X b 6 v) b (upn H 4 v) n mo := by
  refine BaR.mk h.n3 h.n16 h.mm ?_ ?_ ?_ ?_ ?_ ?_ ?_ ?_
  · rw [u2_j (by decide)]
    exact h.ce
  · rw [u2_j (by decide)]
    exact h.mu
  · rw [u2_j (by decide), upn_n (by decide)]
    exact h.wi
  · rw [u2_j (by decide), upn_n (by decide)]
    exact h.ru
  · rw [u2_s, upn_s]
  · intro j hj
    rw [up2_off (by omega), upn_n (by omega)]
    exact h.de j hj
  · rw [upn_n (by decide)]
    exact h.h0
  · rw [upn_n (by decide)]
    exact h.h1
theorem BaR_5 {X : Im} {b n mo i : Nat} {H : Nat → Int32} {v : Int32} (h : BaR X b H n mo) : BaR (up2 X (b + 1) i v) b (upn H (5 + i) v) n mo := by
  refine BaR.mk h.n3 h.n16 h.mm ?_ ?_ ?_ ?_ ?_ ?_ ?_ ?_
  · rw [up2_off (by omega)]
    exact h.ce
  · rw [up2_off (by omega)]
    exact h.mu
  · rw [up2_off (by omega), upn_n (by omega)]
    exact h.wi
  · rw [up2_off (by omega), upn_n (by omega)]
    exact h.ru
  · rw [up2_off (by omega), upn_n (by omega)]
    exact h.wa
  · intro j hj
    by_cases e : j = i
    · subst e
      rw [u2_s, upn_s]
    · rw [u2_j e, upn_n (by omega)]
      exact h.de j hj
  · rw [upn_n (by omega)]
    exact h.h0
  · rw [upn_n (by omega)]
    exact h.h1
theorem HaX_2 {H : Nat → Int32} {v : Int32} (h : HaX H) (hv : ∃ g, g ≤ 9 ∧ v = nI g) : HaX (upn H 2 v) := by
  refine ⟨?_, ?_, fun j hj => ?_⟩
  · rw [upn_s]
    exact hv
  · rw [upn_n (by decide)]
    exact h.2.1
  · rw [upn_n (by omega)]
    exact h.2.2 j hj
theorem HaX_4 {H : Nat → Int32} {v : Int32} (h : HaX H) : HaX (upn H 4 v) := by
  refine ⟨?_, ?_, fun j hj => ?_⟩
  · rw [upn_n (by decide)]
    exact h.1
  · rw [upn_n (by decide)]
    exact h.2.1
  · rw [upn_n (by omega)]
    exact h.2.2 j hj
theorem HaX_5 {H : Nat → Int32} {i : Nat} {v : Int32} (h : HaX H) (hv : ∃ d, 1 ≤ d ∧ d ≤ 9 ∧ v = nI d) : HaX (upn H (5 + i) v) := by
  refine ⟨?_, ?_, fun j hj => ?_⟩
  · rw [upn_n (by omega)]
    exact h.1
  · rw [upn_n (by omega)]
    exact h.2.1
  · by_cases e : j = i
    · subst e
      rw [upn_s]
      exact hv
    · rw [upn_n (by omega)]
      exact h.2.2 j hj
theorem wid_p {g v : Nat} (hg : g ≤ 9) (hv : v ≤ 9) : (if 0 < (if nI g + nI v < 9 then nI g + nI v else 9) then (if nI g + nI v < 9 then nI g + nI v else 9) else 0) = (if 9 < nI g + nI v then 9 else nI g + nI v) ∧ ∃ d, d ≤ 9 ∧ (if 9 < nI g + nI v then 9 else nI g + nI v) = nI d := by
  have key : ∀ g, g < 10 → ∀ v, v < 10 → (if 0 < (if nI g + nI v < 9 then nI g + nI v else 9) then (if nI g + nI v < 9 then nI g + nI v else 9) else 0) = (if 9 < nI g + nI v then 9 else nI g + nI v) ∧ (if 9 < nI g + nI v then 9 else nI g + nI v) = nI (min 9 (g + v)) := by decide +kernel
  obtain ⟨k1, k2⟩ := key g (by omega) v (by omega)
  exact ⟨k1, min 9 (g + v), by omega, k2⟩
theorem wid_m {g v : Nat} (hg : g ≤ 9) (hv : v ≤ 9) : (if 0 < (if nI g + -nI v < 9 then nI g + -nI v else 9) then (if nI g + -nI v < 9 then nI g + -nI v else 9) else 0) = (if nI g - nI v < 0 then 0 else nI g - nI v) ∧ ∃ d, d ≤ 9 ∧ (if nI g - nI v < 0 then 0 else nI g - nI v) = nI d := by
  have key : ∀ g, g < 10 → ∀ v, v < 10 → (if 0 < (if nI g + -nI v < 9 then nI g + -nI v else 9) then (if nI g + -nI v < 9 then nI g + -nI v else 9) else 0) = (if nI g - nI v < 0 then 0 else nI g - nI v) ∧ (if nI g - nI v < 0 then 0 else nI g - nI v) = nI (g - v) := by decide +kernel
  obtain ⟨k1, k2⟩ := key g (by omega) v (by omega)
  exact ⟨k1, g - v, by omega, k2⟩
theorem dep_p {g v : Nat} (h1 : 1 ≤ g) (hg : g ≤ 9) (hv : v ≤ 9) : deepV (nI g) (nI v) = (if 9 < nI g + nI v then 9 else nI g + nI v) ∧ ∃ d, 1 ≤ d ∧ d ≤ 9 ∧ (if 9 < nI g + nI v then 9 else nI g + nI v) = nI d := by
  have key : ∀ g, g < 10 → 1 ≤ g → ∀ v, v < 10 → deepV (nI g) (nI v) = (if 9 < nI g + nI v then 9 else nI g + nI v) ∧ (if 9 < nI g + nI v then 9 else nI g + nI v) = nI (min 9 (g + v)) := by decide +kernel
  obtain ⟨k1, k2⟩ := key g (by omega) h1 v (by omega)
  exact ⟨k1, min 9 (g + v), by omega, by omega, k2⟩
theorem dep_m {g v : Nat} (h1 : 1 ≤ g) (hg : g ≤ 9) (hv : v ≤ 9) : deepV (nI g) (-nI v) = (if nI g - nI v < 1 then 1 else nI g - nI v) ∧ ∃ d, 1 ≤ d ∧ d ≤ 9 ∧ (if nI g - nI v < 1 then 1 else nI g - nI v) = nI d := by
  have key : ∀ g, g < 10 → 1 ≤ g → ∀ v, v < 10 → deepV (nI g) (-nI v) = (if nI g - nI v < 1 then 1 else nI g - nI v) ∧ (if nI g - nI v < 1 then 1 else nI g - nI v) = nI (max 1 (g - v)) := by decide +kernel
  obtain ⟨k1, k2⟩ := key g (by omega) h1 v (by omega)
  exact ⟨k1, max 1 (g - v), by omega, by omega, k2⟩
/-- what one work does to a window -/
def bdF (H : Nat → Int32) (d j n : Nat) (v : Int32) : Nat → Int32 :=
  if d = 0 then (if n ≤ j + 1 then H else upn H 4 (H 4 ||| 1 <<< (nI j &&& 31)))
  else if d = 1 then (if n ≤ j + 1 then H else upn H 4 (H 4 &&& (1 <<< (nI j &&& 31) ^^^ (-1))))
  else if d = 2 then upn H 2 (if 9 < H 2 + v then 9 else H 2 + v)
  else if d = 3 then upn H 2 (if H 2 - v < 0 then 0 else H 2 - v)
  else if d = 4 then (if n ≤ j then H else upn H (5 + j) (if 9 < H (5 + j) + v then 9 else H (5 + j) + v))
  else (if n ≤ j then H else upn H (5 + j) (if H (5 + j) - v < 1 then 1 else H (5 + j) - v))

theorem bd_eq {I : Im} {k d j n : Nat} (hk : k < 5) (hd : d ≤ 5) (hj : j < 16) (hn : n ≤ 16) (e0 : I 217 500 = nI n) (ed : I 222 (4 * k) = nI d) (ej : I 222 (4 * k + 1) = nI j) : rdw (f_X12_builds I (nI k)) 500 = bdF (rdw I 500) d j n (I 222 (4 * k + 2)) := by
  have i0 : (4 * nI k).toNatClampNeg = 4 * k := by rw [show (4 * nI k : Int32) = nI (4 * k) from pk_mul 4 k, nI_clamp (by omega)]
  have i1 : (4 * nI k + 1).toNatClampNeg = 4 * k + 1 := by rw [show (4 * nI k + 1 : Int32) = nI (4 * k + 1) by rw [show (4 : Int32) = nI 4 from rfl, pk_mul, nI_1], nI_clamp (by omega)]
  have i2 : (4 * nI k + 2).toNatClampNeg = 4 * k + 2 := by rw [show (4 * nI k + 2 : Int32) = nI (4 * k + 2) by rw [show (4 : Int32) = nI 4 from rfl, pk_mul, show (2 : Int32) = nI 2 from rfl, nI_add], nI_clamp (by omega)]
  have i5 : (5 + nI j : Int32).toNatClampNeg = 5 + j := by rw [show (5 + nI j : Int32) = nI (5 + j) by rw [show (5 : Int32) = nI 5 from rfl, nI_add], nI_clamp (by omega)]
  have z0 : (0 : Int32).toNatClampNeg = 0 := rfl
  have z2 : (2 : Int32).toNatClampNeg = 2 := rfl
  have z4 : (4 : Int32).toNatClampNeg = 4 := rfl
  have a1 : (nI n ≤ nI j + 1) = (n ≤ j + 1) := propext ⟨fun z => by rw [nI_1] at z; exact (nI_leI (by omega) (by omega)).mp z, fun z => by rw [nI_1]; exact nI_le z (by omega)⟩
  have a2 : (nI n ≤ nI j) = (n ≤ j) := propext ⟨fun z => (nI_leI (by omega) (by omega)).mp z, fun z => nI_le z (by omega)⟩
  have t : ∀ p, I 217 (500 + p) = rdw I 500 p := fun _ => rfl
  unfold f_X12_builds bdF
  dsimp only
  rw [z0, z2, z4, Nat.add_zero, e0, i0, i1, i2, ed, ej, i5]
  simp only [a1, a2]
  generalize I 222 (4 * k + 2) = v

  rcases (by omega : d = 0 ∨ d = 1 ∨ d = 2 ∨ d = 3 ∨ d = 4 ∨ d = 5) with rfl | rfl | rfl | rfl | rfl | rfl
  · by_cases c1 : n ≤ j + 1
    · by_cases c2 : n ≤ j
      · simp only [eq_true c1, eq_true c2, show (nI 0 = (0 : Int32)) = True from eq_true rfl, show (nI 0 = (1 : Int32)) = False from eq_false (by decide), show (nI 0 = (2 : Int32)) = False from eq_false (by decide), show (nI 0 = (3 : Int32)) = False from eq_false (by decide), show (nI 0 = (4 : Int32)) = False from eq_false (by decide), show (nI 0 = (5 : Int32)) = False from eq_false (by decide), show (0 = 0) = True from eq_true rfl, show (0 = 1) = False from eq_false (by decide), show (0 = 2) = False from eq_false (by decide), show (0 = 3) = False from eq_false (by decide), show (0 = 4) = False from eq_false (by decide), show (0 = 5) = False from eq_false (by decide), if_true, if_false]
        try rw [rd_up, t]
      · simp only [eq_true c1, eq_false c2, show (nI 0 = (0 : Int32)) = True from eq_true rfl, show (nI 0 = (1 : Int32)) = False from eq_false (by decide), show (nI 0 = (2 : Int32)) = False from eq_false (by decide), show (nI 0 = (3 : Int32)) = False from eq_false (by decide), show (nI 0 = (4 : Int32)) = False from eq_false (by decide), show (nI 0 = (5 : Int32)) = False from eq_false (by decide), show (0 = 0) = True from eq_true rfl, show (0 = 1) = False from eq_false (by decide), show (0 = 2) = False from eq_false (by decide), show (0 = 3) = False from eq_false (by decide), show (0 = 4) = False from eq_false (by decide), show (0 = 5) = False from eq_false (by decide), if_true, if_false]
        try rw [rd_up, t]
    · simp only [eq_false c1, eq_false (show ¬ n ≤ j by omega), show (nI 0 = (0 : Int32)) = True from eq_true rfl, show (nI 0 = (1 : Int32)) = False from eq_false (by decide), show (nI 0 = (2 : Int32)) = False from eq_false (by decide), show (nI 0 = (3 : Int32)) = False from eq_false (by decide), show (nI 0 = (4 : Int32)) = False from eq_false (by decide), show (nI 0 = (5 : Int32)) = False from eq_false (by decide), show (0 = 0) = True from eq_true rfl, show (0 = 1) = False from eq_false (by decide), show (0 = 2) = False from eq_false (by decide), show (0 = 3) = False from eq_false (by decide), show (0 = 4) = False from eq_false (by decide), show (0 = 5) = False from eq_false (by decide), if_true, if_false]
      try rw [rd_up, t]
  · by_cases c1 : n ≤ j + 1
    · by_cases c2 : n ≤ j
      · simp only [eq_true c1, eq_true c2, show (nI 1 = (0 : Int32)) = False from eq_false (by decide), show (nI 1 = (1 : Int32)) = True from eq_true rfl, show (nI 1 = (2 : Int32)) = False from eq_false (by decide), show (nI 1 = (3 : Int32)) = False from eq_false (by decide), show (nI 1 = (4 : Int32)) = False from eq_false (by decide), show (nI 1 = (5 : Int32)) = False from eq_false (by decide), show (1 = 0) = False from eq_false (by decide), show (1 = 1) = True from eq_true rfl, show (1 = 2) = False from eq_false (by decide), show (1 = 3) = False from eq_false (by decide), show (1 = 4) = False from eq_false (by decide), show (1 = 5) = False from eq_false (by decide), if_true, if_false]
        try rw [rd_up, t]
      · simp only [eq_true c1, eq_false c2, show (nI 1 = (0 : Int32)) = False from eq_false (by decide), show (nI 1 = (1 : Int32)) = True from eq_true rfl, show (nI 1 = (2 : Int32)) = False from eq_false (by decide), show (nI 1 = (3 : Int32)) = False from eq_false (by decide), show (nI 1 = (4 : Int32)) = False from eq_false (by decide), show (nI 1 = (5 : Int32)) = False from eq_false (by decide), show (1 = 0) = False from eq_false (by decide), show (1 = 1) = True from eq_true rfl, show (1 = 2) = False from eq_false (by decide), show (1 = 3) = False from eq_false (by decide), show (1 = 4) = False from eq_false (by decide), show (1 = 5) = False from eq_false (by decide), if_true, if_false]
        try rw [rd_up, t]
    · simp only [eq_false c1, eq_false (show ¬ n ≤ j by omega), show (nI 1 = (0 : Int32)) = False from eq_false (by decide), show (nI 1 = (1 : Int32)) = True from eq_true rfl, show (nI 1 = (2 : Int32)) = False from eq_false (by decide), show (nI 1 = (3 : Int32)) = False from eq_false (by decide), show (nI 1 = (4 : Int32)) = False from eq_false (by decide), show (nI 1 = (5 : Int32)) = False from eq_false (by decide), show (1 = 0) = False from eq_false (by decide), show (1 = 1) = True from eq_true rfl, show (1 = 2) = False from eq_false (by decide), show (1 = 3) = False from eq_false (by decide), show (1 = 4) = False from eq_false (by decide), show (1 = 5) = False from eq_false (by decide), if_true, if_false]
      try rw [rd_up, t]
  · by_cases c1 : n ≤ j + 1
    · by_cases c2 : n ≤ j
      · simp only [eq_true c1, eq_true c2, show (nI 2 = (0 : Int32)) = False from eq_false (by decide), show (nI 2 = (1 : Int32)) = False from eq_false (by decide), show (nI 2 = (2 : Int32)) = True from eq_true rfl, show (nI 2 = (3 : Int32)) = False from eq_false (by decide), show (nI 2 = (4 : Int32)) = False from eq_false (by decide), show (nI 2 = (5 : Int32)) = False from eq_false (by decide), show (2 = 0) = False from eq_false (by decide), show (2 = 1) = False from eq_false (by decide), show (2 = 2) = True from eq_true rfl, show (2 = 3) = False from eq_false (by decide), show (2 = 4) = False from eq_false (by decide), show (2 = 5) = False from eq_false (by decide), if_true, if_false]
        try rw [rd_up, t]
      · simp only [eq_true c1, eq_false c2, show (nI 2 = (0 : Int32)) = False from eq_false (by decide), show (nI 2 = (1 : Int32)) = False from eq_false (by decide), show (nI 2 = (2 : Int32)) = True from eq_true rfl, show (nI 2 = (3 : Int32)) = False from eq_false (by decide), show (nI 2 = (4 : Int32)) = False from eq_false (by decide), show (nI 2 = (5 : Int32)) = False from eq_false (by decide), show (2 = 0) = False from eq_false (by decide), show (2 = 1) = False from eq_false (by decide), show (2 = 2) = True from eq_true rfl, show (2 = 3) = False from eq_false (by decide), show (2 = 4) = False from eq_false (by decide), show (2 = 5) = False from eq_false (by decide), if_true, if_false]
        try rw [rd_up, t]
    · simp only [eq_false c1, eq_false (show ¬ n ≤ j by omega), show (nI 2 = (0 : Int32)) = False from eq_false (by decide), show (nI 2 = (1 : Int32)) = False from eq_false (by decide), show (nI 2 = (2 : Int32)) = True from eq_true rfl, show (nI 2 = (3 : Int32)) = False from eq_false (by decide), show (nI 2 = (4 : Int32)) = False from eq_false (by decide), show (nI 2 = (5 : Int32)) = False from eq_false (by decide), show (2 = 0) = False from eq_false (by decide), show (2 = 1) = False from eq_false (by decide), show (2 = 2) = True from eq_true rfl, show (2 = 3) = False from eq_false (by decide), show (2 = 4) = False from eq_false (by decide), show (2 = 5) = False from eq_false (by decide), if_true, if_false]
      try rw [rd_up, t]
  · by_cases c1 : n ≤ j + 1
    · by_cases c2 : n ≤ j
      · simp only [eq_true c1, eq_true c2, show (nI 3 = (0 : Int32)) = False from eq_false (by decide), show (nI 3 = (1 : Int32)) = False from eq_false (by decide), show (nI 3 = (2 : Int32)) = False from eq_false (by decide), show (nI 3 = (3 : Int32)) = True from eq_true rfl, show (nI 3 = (4 : Int32)) = False from eq_false (by decide), show (nI 3 = (5 : Int32)) = False from eq_false (by decide), show (3 = 0) = False from eq_false (by decide), show (3 = 1) = False from eq_false (by decide), show (3 = 2) = False from eq_false (by decide), show (3 = 3) = True from eq_true rfl, show (3 = 4) = False from eq_false (by decide), show (3 = 5) = False from eq_false (by decide), if_true, if_false]
        try rw [rd_up, t]
      · simp only [eq_true c1, eq_false c2, show (nI 3 = (0 : Int32)) = False from eq_false (by decide), show (nI 3 = (1 : Int32)) = False from eq_false (by decide), show (nI 3 = (2 : Int32)) = False from eq_false (by decide), show (nI 3 = (3 : Int32)) = True from eq_true rfl, show (nI 3 = (4 : Int32)) = False from eq_false (by decide), show (nI 3 = (5 : Int32)) = False from eq_false (by decide), show (3 = 0) = False from eq_false (by decide), show (3 = 1) = False from eq_false (by decide), show (3 = 2) = False from eq_false (by decide), show (3 = 3) = True from eq_true rfl, show (3 = 4) = False from eq_false (by decide), show (3 = 5) = False from eq_false (by decide), if_true, if_false]
        try rw [rd_up, t]
    · simp only [eq_false c1, eq_false (show ¬ n ≤ j by omega), show (nI 3 = (0 : Int32)) = False from eq_false (by decide), show (nI 3 = (1 : Int32)) = False from eq_false (by decide), show (nI 3 = (2 : Int32)) = False from eq_false (by decide), show (nI 3 = (3 : Int32)) = True from eq_true rfl, show (nI 3 = (4 : Int32)) = False from eq_false (by decide), show (nI 3 = (5 : Int32)) = False from eq_false (by decide), show (3 = 0) = False from eq_false (by decide), show (3 = 1) = False from eq_false (by decide), show (3 = 2) = False from eq_false (by decide), show (3 = 3) = True from eq_true rfl, show (3 = 4) = False from eq_false (by decide), show (3 = 5) = False from eq_false (by decide), if_true, if_false]
      try rw [rd_up, t]
  · by_cases c1 : n ≤ j + 1
    · by_cases c2 : n ≤ j
      · simp only [eq_true c1, eq_true c2, show (nI 4 = (0 : Int32)) = False from eq_false (by decide), show (nI 4 = (1 : Int32)) = False from eq_false (by decide), show (nI 4 = (2 : Int32)) = False from eq_false (by decide), show (nI 4 = (3 : Int32)) = False from eq_false (by decide), show (nI 4 = (4 : Int32)) = True from eq_true rfl, show (nI 4 = (5 : Int32)) = False from eq_false (by decide), show (4 = 0) = False from eq_false (by decide), show (4 = 1) = False from eq_false (by decide), show (4 = 2) = False from eq_false (by decide), show (4 = 3) = False from eq_false (by decide), show (4 = 4) = True from eq_true rfl, show (4 = 5) = False from eq_false (by decide), if_true, if_false]
        try rw [rd_up, t]
      · simp only [eq_true c1, eq_false c2, show (nI 4 = (0 : Int32)) = False from eq_false (by decide), show (nI 4 = (1 : Int32)) = False from eq_false (by decide), show (nI 4 = (2 : Int32)) = False from eq_false (by decide), show (nI 4 = (3 : Int32)) = False from eq_false (by decide), show (nI 4 = (4 : Int32)) = True from eq_true rfl, show (nI 4 = (5 : Int32)) = False from eq_false (by decide), show (4 = 0) = False from eq_false (by decide), show (4 = 1) = False from eq_false (by decide), show (4 = 2) = False from eq_false (by decide), show (4 = 3) = False from eq_false (by decide), show (4 = 4) = True from eq_true rfl, show (4 = 5) = False from eq_false (by decide), if_true, if_false]
        try rw [rd_up, t]
    · simp only [eq_false c1, eq_false (show ¬ n ≤ j by omega), show (nI 4 = (0 : Int32)) = False from eq_false (by decide), show (nI 4 = (1 : Int32)) = False from eq_false (by decide), show (nI 4 = (2 : Int32)) = False from eq_false (by decide), show (nI 4 = (3 : Int32)) = False from eq_false (by decide), show (nI 4 = (4 : Int32)) = True from eq_true rfl, show (nI 4 = (5 : Int32)) = False from eq_false (by decide), show (4 = 0) = False from eq_false (by decide), show (4 = 1) = False from eq_false (by decide), show (4 = 2) = False from eq_false (by decide), show (4 = 3) = False from eq_false (by decide), show (4 = 4) = True from eq_true rfl, show (4 = 5) = False from eq_false (by decide), if_true, if_false]
      try rw [rd_up, t]
  · by_cases c1 : n ≤ j + 1
    · by_cases c2 : n ≤ j
      · simp only [eq_true c1, eq_true c2, show (nI 5 = (0 : Int32)) = False from eq_false (by decide), show (nI 5 = (1 : Int32)) = False from eq_false (by decide), show (nI 5 = (2 : Int32)) = False from eq_false (by decide), show (nI 5 = (3 : Int32)) = False from eq_false (by decide), show (nI 5 = (4 : Int32)) = False from eq_false (by decide), show (nI 5 = (5 : Int32)) = True from eq_true rfl, show (5 = 0) = False from eq_false (by decide), show (5 = 1) = False from eq_false (by decide), show (5 = 2) = False from eq_false (by decide), show (5 = 3) = False from eq_false (by decide), show (5 = 4) = False from eq_false (by decide), show (5 = 5) = True from eq_true rfl, if_true, if_false]
        try rw [rd_up, t]
      · simp only [eq_true c1, eq_false c2, show (nI 5 = (0 : Int32)) = False from eq_false (by decide), show (nI 5 = (1 : Int32)) = False from eq_false (by decide), show (nI 5 = (2 : Int32)) = False from eq_false (by decide), show (nI 5 = (3 : Int32)) = False from eq_false (by decide), show (nI 5 = (4 : Int32)) = False from eq_false (by decide), show (nI 5 = (5 : Int32)) = True from eq_true rfl, show (5 = 0) = False from eq_false (by decide), show (5 = 1) = False from eq_false (by decide), show (5 = 2) = False from eq_false (by decide), show (5 = 3) = False from eq_false (by decide), show (5 = 4) = False from eq_false (by decide), show (5 = 5) = True from eq_true rfl, if_true, if_false]
        try rw [rd_up, t]
    · simp only [eq_false c1, eq_false (show ¬ n ≤ j by omega), show (nI 5 = (0 : Int32)) = False from eq_false (by decide), show (nI 5 = (1 : Int32)) = False from eq_false (by decide), show (nI 5 = (2 : Int32)) = False from eq_false (by decide), show (nI 5 = (3 : Int32)) = False from eq_false (by decide), show (nI 5 = (4 : Int32)) = False from eq_false (by decide), show (nI 5 = (5 : Int32)) = True from eq_true rfl, show (5 = 0) = False from eq_false (by decide), show (5 = 1) = False from eq_false (by decide), show (5 = 2) = False from eq_false (by decide), show (5 = 3) = False from eq_false (by decide), show (5 = 4) = False from eq_false (by decide), show (5 = 5) = True from eq_true rfl, if_true, if_false]
      try rw [rd_up, t]
theorem bd_sim {X I : Im} {k n mo d j v : Nat} (hk : k < 5) (hd : d ≤ 5) (hj : j < 16) (hv : v ≤ 9) (hb : BaR X 93 (rdw I 500) n mo) (hx : HaX (rdw I 500)) (ed : I 222 (4 * k) = nI d) (ej : I 222 (4 * k + 1) = nI j) (ev : I 222 (4 * k + 2) = nI v) (x0 : X (147 + k) 0 = nI d) (x1 : X (147 + k) 1 = nI j) (x2 : X (147 + k) 2 = nI v) : BaR (woDo X (147 + k) 93) 93 (rdw (f_X12_builds I (nI k)) 500) n mo ∧ HaX (rdw (f_X12_builds I (nI k)) 500) := by
  have n16 := hb.n16
  have n3 := hb.n3
  have e0 : I 217 500 = nI n := hb.h0
  rw [bd_eq hk hd hj n16 e0 ed ej, ev]
  unfold woDo
  rw [x0, x1, x2]
  have cW : hasW X 93 (nI j) = ¬ n ≤ j + 1 := by
    unfold hasW
    rw [hb.ce]
    refine propext ⟨fun z c => ?_, fun z => ⟨nI_pos' (by omega), ?_, ?_⟩⟩
    · have := z.2.1
      rw [show (nI n - 1 : Int32) = nI (n - 1) from (nI_sub (a := 1) (by omega) (by omega)).symm] at this
      have := (nI_ltI (by omega) (by omega)).mp this
      omega
    · rw [show (nI n - 1 : Int32) = nI (n - 1) from (nI_sub (a := 1) (by omega) (by omega)).symm]
      exact nI_lt (by omega) (by omega)
    · exact nI_lt (b := 15) (by omega) (by decide)
  have cC : hasC X 93 (nI j) = ¬ n ≤ j := by
    unfold hasC
    rw [hb.ce]
    refine propext ⟨fun z c => ?_, fun z => ⟨nI_pos' (by omega), nI_lt (by omega) (by omega), nI_lt (b := 16) (by omega) (by decide)⟩⟩
    have := (nI_ltI (by omega) (by omega)).mp z.2.1
    omega
  obtain ⟨g, hg, eg⟩ := hx.1
  obtain ⟨p, p1, p9, ep⟩ := hx.2.2 j hj
  have hwi : X 93 4 = nI g := hb.wi.trans eg
  unfold bdF
  rcases (by omega : d = 0 ∨ d = 1 ∨ d = 2 ∨ d = 3 ∨ d = 4 ∨ d = 5) with rfl | rfl | rfl | rfl | rfl | rfl
  · rw [if_pos (show nI 0 = 0 from rfl), if_pos (show (0 : Nat) = 0 from rfl)]
    unfold baWall
    by_cases c : n ≤ j + 1
    · rw [if_pos c, if_neg (by rw [cW]; exact fun z => z c)]
      exact ⟨hb, hx⟩
    · rw [if_neg c, if_pos (by rw [cW]; exact c), hb.wa]
      exact ⟨BaR_4 hb, HaX_4 hx⟩
  · rw [if_neg (show ¬ nI 1 = 0 by decide), if_pos (show nI 1 = 1 from rfl), if_neg (show ¬ (1 : Nat) = 0 by decide), if_pos (show (1 : Nat) = 1 from rfl)]
    unfold baBreak
    by_cases c : n ≤ j + 1
    · rw [if_pos c, if_neg (by rw [cW]; exact fun z => z c)]
      exact ⟨hb, hx⟩
    · rw [if_neg c, if_pos (by rw [cW]; exact c), hb.wa]
      exact ⟨BaR_4 hb, HaX_4 hx⟩
  · rw [if_neg (show ¬ nI 2 = 0 by decide), if_neg (show ¬ nI 2 = 1 by decide), if_pos (show nI 2 = 2 from rfl), if_neg (show ¬ (2 : Nat) = 0 by decide), if_neg (show ¬ (2 : Nat) = 1 by decide), if_pos (show (2 : Nat) = 2 from rfl)]
    unfold baWide
    obtain ⟨w1, w2⟩ := wid_p hg hv
    rw [hwi, eg, w1]
    exact ⟨BaR_2 hb, HaX_2 hx w2⟩
  · rw [if_neg (show ¬ nI 3 = 0 by decide), if_neg (show ¬ nI 3 = 1 by decide), if_neg (show ¬ nI 3 = 2 by decide), if_pos (show nI 3 = 3 from rfl), if_neg (show ¬ (3 : Nat) = 0 by decide), if_neg (show ¬ (3 : Nat) = 1 by decide), if_neg (show ¬ (3 : Nat) = 2 by decide), if_pos (show (3 : Nat) = 3 from rfl)]
    unfold baWide
    obtain ⟨w1, w2⟩ := wid_m hg hv
    rw [hwi, eg, w1]
    exact ⟨BaR_2 hb, HaX_2 hx w2⟩
  · rw [if_neg (show ¬ nI 4 = 0 by decide), if_neg (show ¬ nI 4 = 1 by decide), if_neg (show ¬ nI 4 = 2 by decide), if_neg (show ¬ nI 4 = 3 by decide), if_pos (show nI 4 = 4 from rfl), if_neg (show ¬ (4 : Nat) = 0 by decide), if_neg (show ¬ (4 : Nat) = 1 by decide), if_neg (show ¬ (4 : Nat) = 2 by decide), if_neg (show ¬ (4 : Nat) = 3 by decide), if_pos (show (4 : Nat) = 4 from rfl)]
    unfold baDeep
    by_cases c : n ≤ j
    · rw [if_pos c, if_neg (by rw [cC]; exact fun z => z c)]
      exact ⟨hb, hx⟩
    · obtain ⟨w1, w2⟩ := dep_p p1 p9 hv
      rw [if_neg c, if_pos (by rw [cC]; exact c), nI_clamp (by omega), show 93 + 1 = 94 from rfl, show X 94 j = nI p from (hb.de j (by omega)).trans ep, ep, w1]
      exact ⟨BaR_5 hb, HaX_5 hx w2⟩
  · rw [if_neg (show ¬ nI 5 = 0 by decide), if_neg (show ¬ nI 5 = 1 by decide), if_neg (show ¬ nI 5 = 2 by decide), if_neg (show ¬ nI 5 = 3 by decide), if_neg (show ¬ nI 5 = 4 by decide), if_neg (show ¬ (5 : Nat) = 0 by decide), if_neg (show ¬ (5 : Nat) = 1 by decide), if_neg (show ¬ (5 : Nat) = 2 by decide), if_neg (show ¬ (5 : Nat) = 3 by decide), if_neg (show ¬ (5 : Nat) = 4 by decide)]
    unfold baDeep
    by_cases c : n ≤ j
    · rw [if_pos c, if_neg (by rw [cC]; exact fun z => z c)]
      exact ⟨hb, hx⟩
    · obtain ⟨w1, w2⟩ := dep_m p1 p9 hv
      rw [if_neg c, if_pos (by rw [cC]; exact c), nI_clamp (by omega), show 93 + 1 = 94 from rfl, show X 94 j = nI p from (hb.de j (by omega)).trans ep, ep, w1]
      exact ⟨BaR_5 hb, HaX_5 hx w2⟩
end
end R26
