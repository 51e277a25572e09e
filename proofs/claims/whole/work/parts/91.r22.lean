section R22
variable {G : Gp} {I : Im} {L : Nat → Nat → Int64} {t : Nat}
section
variable {C M D E : Im} {L : Nat → Nat → Int64}
theorem Bo7_s {X : Im} {b a : Nat} {N : Nat → Int32} {x sec : Int32} (h : ∀ j, 1 ≤ j → j ≤ 7 → X b j = N (a + j)) (hw : ∃ w, 1 ≤ w ∧ w ≤ 9 ∧ N (a + 2) = nI w) (ha : 30 < a) : ∀ j, 1 ≤ j → j ≤ 7 → boRide X b x sec b j = mvN N a x (a + j) := by
  intro j h1 h7
  have e0 : ∀ p, p ≠ 30 → p ≠ a + 8 → p ≠ a + 9 → upn (upn (upn N 30 sec) (a + 8) (X b 8)) (a + 9) (X b 9) p = N p := fun p g1 g2 g3 => by rw [upn_n g3, upn_n g2, upn_n g1]
  have hB : BoR X b (upn (upn (upn N 30 sec) (a + 8) (X b 8)) (a + 9) (X b 9)) a := by
    intro j g1 g9
    by_cases d9 : j = 9
    · subst d9
      rw [upn_s]
    by_cases d8 : j = 8
    · subst d8
      rw [upn_n (by omega), upn_s]
    rw [e0 _ (by omega) (by omega) (by omega)]
    exact h j g1 (by omega)
  have hw' : ∃ w, 1 ≤ w ∧ w ≤ 9 ∧ upn (upn (upn N 30 sec) (a + 8) (X b 8)) (a + 9) (X b 9) (a + 2) = nI w := by
    obtain ⟨w, w1, w9, e⟩ := hw
    exact ⟨w, w1, w9, by rw [e0 _ (by omega) (by omega) (by omega)]; exact e⟩
  have k := BoR_s (x := x) (sec := sec) hB hw' (by rw [upn_n (by omega), upn_n (by omega), upn_s]) ha j h1 (by omega)
  have ev : mvV (upn (upn (upn N 30 sec) (a + 8) (X b 8)) (a + 9) (X b 9)) a x = mvV N a x := by
    unfold mvV mvF mvS
    rw [e0 (a + 7) (by omega) (by omega) (by omega), e0 (a + 6) (by omega) (by omega) (by omega), e0 (a + 4) (by omega) (by omega) (by omega), e0 (a + 3) (by omega) (by omega) (by omega), e0 (a + 2) (by omega) (by omega) (by omega)]
  rw [k, wtN_off (by omega) (by omega)]
  by_cases d7 : j = 7
  · subst d7
    rw [mv_7, mv_7, ev]
  by_cases d6 : j = 6
  · subst d6
    rw [mv_6, mv_6, ev, e0 _ (by omega) (by omega) (by omega)]
  rw [mvN_off (by omega) (by omega), mvN_off (by omega) (by omega), e0 _ (by omega) (by omega) (by omega)]
theorem ro_sim {J : Im} {a : Nat} {N : Nat → Int32} (h : ∀ j, 1 ≤ j → j ≤ 7 → J 98 j = N (a + j)) (hw : ∃ w, 1 ≤ w ∧ w ≤ 9 ∧ N (a + 2) = nI w) (ha : 30 < a) : ∀ k, k ≤ 400 → (∀ j, 1 ≤ j → j ≤ 7 → roI J k 98 j = rlN N a k (a + j)) ∧ (∀ i, i < k → roI J k 100 i = rlN N a (i + 1) (a + 6)) ∧ ∀ e, e ≠ 98 → e ≠ 100 → roI J k e = J e := by
  intro k
  induction k with
  | zero =>
    intro _
    rw [roI_0, rlN_0]
    exact ⟨h, fun i hi => absurd hi (Nat.not_lt_zero i), fun _ _ _ => rfl⟩
  | succ k ih =>
    intro hk
    obtain ⟨i1, i2, i3⟩ := ih (by omega)
    have s := Bo7_s (x := 0) (sec := nI k) i1 (by rw [rlN_off (by omega) (by omega)]; exact hw) ha
    rw [roI_s]
    refine ⟨fun j g1 g7 => ?_, fun i hi => ?_, fun e g1 g2 => ?_⟩
    · rw [up2_off (by decide), rlN_s]
      exact s j g1 g7
    · by_cases e : i = k
      · subst e
        rw [u2_s, rlN_s]
        exact s 6 (by decide) (by decide)
      · rw [u2_j e, boRide_off (by decide)]
        exact i2 i (by omega)
    · rw [up2_off g2, boRide_off g1]
      exact i3 e g1 g2
theorem rol_r {s j : Nat} (h1 : 1 ≤ j) (h7 : j ≤ 7) : rolN M s (95 + 10 * s + j) = if j = 6 then M 215 (5 * s + 3) + 100 else if j = 7 then 0 else M 215 (5 * s + (j - 1)) := by
  unfold rolN shN
  by_cases d6 : j = 6
  · subst d6
    rw [upn_s, if_pos rfl]
  rw [upn_n (by omega), if_neg d6, upn_n (by omega), upn_n (by omega)]
  by_cases d7 : j = 7
  · subst d7
    rw [upn_s, if_pos rfl]
  rw [upn_n (by omega), upn_n (by omega), if_neg d7]
  have e := wnd_in (N := upn (wnd (rdw (lkI M 4) 500) 30 95 (fun _ => 0)) (95 + 10 * s) 1) (g := fun j => M 215 (5 * s + j)) (o := 95 + 10 * s + 1) (k := 5) (j := j - 1) (by omega)
  rw [show 95 + 10 * s + 1 + (j - 1) = 95 + 10 * s + j by omega] at e
  exact e
theorem hear_roll {s : Nat} (h : RelP C M) (hs : s < 3) (h4 : ¬ M 214 s = 0) : Hrd C M (rollF C (144 + s)) (loI M s) := by
  obtain ⟨x0, -, hw, -⟩ := (h.shp s hs).th h4
  have eb : ∀ j, j ≤ 9 → boRest (boTake C 98 (144 + s)) 98 98 j = if j = 9 then -9 else if j = 8 then 0 else if j = 7 then 0 else if j = 6 then 0 else C (144 + s) j := fun j hj => by
    unfold boRest
    simp only [u2_b]
    rw [bo_t (by omega) hj]
  have hJ : ∀ j, 1 ≤ j → j ≤ 7 → roJ C (144 + s) 98 j = rolN M s (95 + 10 * s + j) := by
    intro j h1 h7
    unfold roJ
    rw [rol_r h1 h7]
    by_cases d6 : j = 6
    · subst d6
      rw [u2_s, if_pos rfl, eb 4 (by decide)]
      exact congrArg (fun z => z + 100) (x0 3 (by decide))
    rw [u2_j d6, eb j (by omega), if_neg d6, if_neg (show ¬ j = 9 by omega), if_neg (show ¬ j = 8 by omega)]
    by_cases d7 : j = 7
    · subst d7
      rfl
    · have := x0 (j - 1) (by omega)
      rw [show 1 + (j - 1) = j by omega] at this
      rw [if_neg d7, if_neg d7]
      try rw [if_neg d6]
      exact this
  have hw' : ∃ w, 1 ≤ w ∧ w ≤ 9 ∧ rolN M s (95 + 10 * s + 2) = nI w := by
    rw [rolN_2]
    exact hw
  obtain ⟨-, s2, s3⟩ := ro_sim hJ hw' (by omega) 400 (by decide)
  have fo : ∀ e, e ≠ 98 → e ≠ 100 → roI (roJ C (144 + s)) 400 e = C e := fun e g1 g2 => by
    rw [s3 e g1 g2]
    unfold roJ boRest
    rw [up2_off g1, up2_off g1, up2_off g1, up2_off g1, up2_off g1]
    unfold boTake
    simp only [tk1_off g1]
  have m8 : ∀ i, i < 400 → rolI M s 400 218 i = rlN (rolN M s) (95 + 10 * s) (i + 1) (95 + 10 * s + 6) := fun i hi => by
    unfold rolI
    have e2 := flw_in (I := up2 (lkI M 4) 200 26 400) (c := 218) (o := 0) (k := 400) (j := i) (g := fun i => rlN (rolN M s) (95 + 10 * s) (i + 1) (95 + 10 * s + 6)) hi
    rw [Nat.zero_add] at e2
    rw [nw_off (by decide), e2]
  have mo0 : ∀ j, j ≠ 24 → j ≠ 26 → rolI M s 400 200 j = M 200 j := fun j h1 h2 => by
    unfold rolI lkI
    rw [nw_off (by decide), flw_off (by decide), u2_j h2, u2_j h1]
  unfold rollF loI
  refine Hrd_mk ⟨fun e he => fo e (by omega) (by omega), by rw [fo 0 (by omega) (by omega)]⟩ ?_ (fo 0 (by omega) (by omega)) (fo 102 (by omega) (by omega)) (mo0 0 (by decide) (by decide)) (mo0 2 (by decide) (by decide)) ?_ (fun i hi => (s2 i hi).trans (m8 i hi).symm)
  · unfold rolI
    exact FrM.trans (FrM.trans (FrM.trans FrM.lk (FrM.u0 (by decide))) (show FrM (flw _ 218 0 400 _) _ from ⟨fun e he => flw_off (by omega), fun j hj => by rw [flw_off (by decide)], by rw [flw_off (by decide)]⟩)) FrM.n5
  · unfold rolI lkI
    rw [nw_off (by decide), flw_off (by decide), up2_off (by decide), up2_off (by decide)]
theorem K_roll {s : Int32} (h : RelP C M) (hL : FrL L) : SameL C M (f_X11_roll C L s) (f_X12_roll M (f_X11_roll C L s).2.2 s) := by
  unfold f_X11_roll f_X12_roll
  by_cases c1 : b2i (0 ≤ s ∧ s ≤ 2) = 0
  · simp only [if_pos c1]
    exact sml (sm_v h) hL
  simp only [if_neg c1]
  obtain ⟨qs, vs⟩ := cl_lt (N := 3) (by decide) c1
  rw [(h.shp _ qs).e]
  by_cases c4 : M 214 s.toNatClampNeg = 0
  · simp only [if_pos c4]
    exact sml (sm_v h) hL
  simp only [if_neg c4]
  exact K_tells h (hear_roll h qs c4) hL
theorem last_c {f g : Nat → Int32} : ∀ k, (∀ i, i < k → f i = g i) → lastL f k = lastL g k := by
  intro k
  induction k with
  | zero => intro _; rfl
  | succ k ih =>
    intro hk
    show (if 100 < f k ∨ f k < -100 then k + 1 else lastL f k) = if 100 < g k ∨ g k < -100 then k + 1 else lastL g k
    rw [hk k (by omega), ih (fun i hi => hk i (by omega))]
end
end R22
