section N1
variable {G : Gp} {I : Im} {L : Nat → Nat → Int64} {t : Nat}
theorem ly_bts_dec : ∀ q, q < 3 → R0 20 q = some (21 + q) ∧ K0 (21 + q) = (1, 10) := by decide +kernel
theorem ly_bts {q : Nat} (h : q < 3) : Rt t 20 q = some (21 + q) := by
  unfold Rt
  rw [if_neg (by omega)]
  exact (ly_bts_dec q h).1
theorem ky_bts {q : Nat} (h : q < 3) : K0 (21 + q) = (1, 10) := (ly_bts_dec q h).2
theorem ky_kep12 : ∀ q, q < 3 → K0 (152 + 16 * q + 12) = (17, 3) := by decide +kernel
def niGo (I : Im) (a q : Nat) : Im := niPass I a (I (a + 2) 2).toNatClampNeg (I (a + 4) 3).toNatClampNeg (I a 2).toNatClampNeg q
theorem s_passN {x : Int32} (hN : NW I 8) (h : ¬ I 8 3 = 0) (h0 : 0 ≤ x) : Ca G mdX5_pass [.ref 8, .int x] (mk I L t) (Rv (mk (niGo I 8 x.toNatClampNeg) L t)) := by
  obtain ⟨q, hq, rfl⟩ := nI_of (Int32.not_lt.mpr h0)
  obtain ⟨e2, ⟨n, h3, hn, e⟩, ⟨c, hc, ec⟩, -⟩ := hN.2 h
  unfold niGo
  simp only [e2, e, ec, nI_clamp (show (3 : Nat) < 2 ^ 31 by decide), nI_clamp (show n < 2 ^ 31 by omega), nI_clamp (show c < 2 ^ 31 by omega), nI_clamp hq]
  exact s_X5_pass (a := 8) (B := 2) rfl rfl (by decide) e2 (by decide) h3 hn e ec hc hq
theorem hc_q {k y : Int32} {n : Nat} (e : y = nI n) (hn : n ≤ 16) (h : ¬ b2i (0 ≤ k ∧ k < y ∧ k < 16) = 0) : ∃ q, q < n ∧ k = nI q := by
  obtain ⟨h0, h1, -⟩ := b2i_n0.mp h
  obtain ⟨q, hq, rfl⟩ := nI_of (Int32.not_lt.mpr h0)
  subst e
  exact ⟨q, Nat.not_le.mp fun z => absurd h1 (nI_nlt z hq), rfl⟩
theorem wi_q {w b : Int32} {m : Nat} (e : b = nI m) (hm : m < 2 ^ 31) (h : ¬ b2i (0 ≤ w ∧ w ≤ b) = 0) : ∃ q, q ≤ m ∧ w = nI q := by
  obtain ⟨h0, h1⟩ := b2i_n0.mp h
  obtain ⟨q, hq, rfl⟩ := nI_of (Int32.not_lt.mpr h0)
  subst e
  refine ⟨q, ?_, rfl⟩
  have := Int32.le_iff_toInt_le.mp h1
  rw [nI_toInt hq, nI_toInt hm] at this
  omega
def waFact (I : Im) (a : Nat) (k w : Int32) : Int32 := if w = 0 then I (a + 6) k.toNatClampNeg else if w = 1 then I (a + 7) k.toNatClampNeg else rng I a k.toNatClampNeg
theorem s_factN {a : Nat} {k w : Int32} (ha : K0 a = (9, 8)) (he : ∃ n, 3 ≤ n ∧ n ≤ 16 ∧ I (a + 1) 2 = nI n) (hk : ¬ b2i (0 ≤ k ∧ k < I (a + 1) 2 ∧ k < 16) = 0) (hw : ¬ b2i (0 ≤ w ∧ w ≤ 2) = 0) : Ca G mdX9_fact [.ref a, .int k, .int w] (mk I L t) (Rs (.int (waFact I a k w)) (mk I L t)) := by
  obtain ⟨n, -, hn, e⟩ := he
  obtain ⟨q, hq, rfl⟩ := hc_q e hn hk
  obtain ⟨j, hj, rfl⟩ := wi_q (m := 2) rfl (by decide) hw
  unfold waFact
  rw [nI_clamp (by omega)]
  rcases (by omega : j = 0 ∨ j = 1 ∨ j = 2) with rfl | rfl | rfl
  · exact s_X9_fact0 ha hn e hq
  · exact s_X9_fact1 ha hn e hq
  · exact s_X9_fact2 ha hn e hq
theorem s_wholeN {a : Nat} (ha : K0 a = (9, 8)) (he : ∃ n, 3 ≤ n ∧ n ≤ 16 ∧ I (a + 1) 2 = nI n) : Ca G mdX9_whole [.ref a] (mk I L t) (Rs (.int (sumI (I (a + 6)) (I (a + 1) 2).toNatClampNeg)) (mk I L t)) := by
  obtain ⟨n, h3, hn, e⟩ := he
  rw [e, nI_clamp (by omega)]
  exact s_X9_whole ha h3 hn e
theorem s_hasN {a B : Nat} {s : Int32} (ha : K0 a = (5, 4)) (hB : K0 (a + 12) = (17, B + 1)) (hB2 : B < 2 ^ 31 - 1) (hm : ∃ m, m ≤ B + 1 ∧ I a 2 = nI m) (h0 : 0 ≤ s) : Ca G mdX5_has [.ref a, .int s] (mk I L t) (Rs (.int (b2i (s.toNatClampNeg < (I a 2).toNatClampNeg ∧ ¬ I (a + 13 + s.toNatClampNeg) 0 = 0))) (mk I L t)) := by
  obtain ⟨m, hmB, e⟩ := hm
  obtain ⟨q, hq, rfl⟩ := nI_of (Int32.not_lt.mpr h0)
  simp only [e, nI_clamp (show m < 2 ^ 31 by omega), nI_clamp hq]
  exact s_X5_has ha hB hB2 e hmB hq
theorem s_riddenN {a : Nat} {w : Int32} (ha : K0 a = (1, 10)) (hw : ¬ b2i (0 ≤ w ∧ w ≤ 3) = 0) : Ca G mdX1_ridden [.ref a, .int w] (mk I L t) (Rs (.int (riddenF I a w.toNatClampNeg)) (mk I L t)) := by
  obtain ⟨j, hj, rfl⟩ := wi_q (m := 3) rfl (by decide) hw
  rw [nI_clamp (by omega)]
  exact s_X1_ridden ha hj
theorem s_takeN {a o : Nat} (ha : K0 a = (5, 4)) (ho : K0 o = (5, 4)) (hB : K0 (a + 12) = (17, 3)) (hBo : K0 (o + 12) = (17, 3)) (hN : NW I o) (h : ¬ I o 3 = 0) (hd : o + 15 < a ∨ a + 15 < o) : Ca G mdX5_take [.ref a, .ref o] (mk I L t) (Rv (mk (niTake I a o (I o 2).toNatClampNeg) L t)) := by
  obtain ⟨e2, ⟨n, h3, hn, e⟩, ⟨c, hc, ec⟩, z1, z2, zb⟩ := hN.2 h
  rw [e2, nI_clamp (by decide)]
  exact s_X5_take ha ho hB hBo e2 (by decide) hN.1 z1 z2 zb hd
theorem s_lookN {b N : Nat} {x : Int32} (hb : K0 b = (14, N + 1)) (hb9 : b ≠ 99) (hx : ∃ n, n ≤ N + 1 ∧ x = nI n) (hN : N < 2 ^ 31 - 1) : Ca G mdX2_look [.ref 99, .ref b, .int x] (mk I L t) (Rv (mk (crW I (crN (I b) (x.toNatClampNeg - 1))) L t)) := by
  obtain ⟨n, hn, rfl⟩ := hx
  rw [nI_clamp (by omega)]
  exact s_X2_look hb hb9 hn hN
theorem nI_sub {a b : Nat} (h : a ≤ b) (hb : b < 2 ^ 31) : nI (b - a) = nI b - nI a := by
  apply Int32.toInt_inj.mp
  rw [Int32.toInt_sub, nI_toInt (by omega), nI_toInt hb, nI_toInt (by omega), Int.bmod_eq_of_le (by omega) (by omega)]
  omega
theorem gcdS_eq : ∀ k x y, y < 2 ^ k → gcdS (2 * k + 1) x y = Nat.gcd x y := by
  intro k
  induction k with
  | zero =>
    intro x y h
    have h2 : y = 0 := by omega
    subst h2
    rw [Nat.gcd_zero_right]
    rfl
  | succ k ih =>
    intro x y h
    show (if y = 0 then x else (if x % y = 0 then y else gcdS (2 * k + 1) (x % y) (y % (x % y)))) = Nat.gcd x y
    split
    · next e => subst e; rw [Nat.gcd_zero_right]
    · next e =>
      split
      · next e2 => rw [Nat.gcd_comm, Nat.gcd_rec, e2, Nat.gcd_zero_left]
      · next e2 =>
        have hy : 0 < y := by omega
        have h1 : x % y < y := Nat.mod_lt _ hy
        have h0 : 0 < x % y := by omega
        have h2 : y % (x % y) < x % y := Nat.mod_lt _ h0
        have hb : y % (x % y) < 2 ^ k := by
          rw [Nat.pow_succ] at h
          have q2 := Nat.mod_add_div y (x % y)
          have : 1 ≤ y / (x % y) := Nat.div_pos (by omega) h0
          have : (x % y) * 1 ≤ (x % y) * (y / (x % y)) := Nat.mul_le_mul_left _ this
          omega
        rw [ih _ _ hb, Nat.gcd_comm x y, Nat.gcd_rec y x, Nat.gcd_rec (x % y) y]
        exact Nat.gcd_comm _ _
theorem gcdS_64 {x y : Nat} (h : y < 2 ^ 30) : gcdS 64 x y = Nat.gcd x y := by
  show (if y = 0 then x else gcdS 63 y (x % y)) = _
  split
  · next e => subst e; rw [Nat.gcd_zero_right]
  · next e =>
    have := Nat.mod_lt x (show 0 < y by omega)
    rw [gcdS_eq 31 y (x % y) (by omega), Nat.gcd_comm x y, Nat.gcd_rec y x]
    exact Nat.gcd_comm _ _
def CrB (k : Nat) (v : Cr) : Prop := ∃ m a b, m ≤ k ∧ a ≤ b ∧ b ≤ k ∧ v.1 = nI m ∧ v.2.1 = nI a ∧ v.2.2.1 = nI b
theorem crB {f : Nat → Int32} : ∀ k, k < 2 ^ 30 → CrB k (crN f k) := by
  intro k
  induction k with
  | zero => intro h; exact ⟨0, 0, 0, by omega, by omega, by omega, rfl, rfl, rfl⟩
  | succ k ih =>
    intro h
    obtain ⟨m, a, b, h1, h2, h3, e1, e2, e3⟩ := ih (by omega)
    unfold crN
    split
    · refine ⟨m + 1, if m = 0 then k + 1 else a, k + 1, by omega, by split <;> omega, by omega, ?_, ?_, rfl⟩
      · show (crN f k).1 + 1 = _
        rw [e1]
        exact (nI_succ m).symm
      · show (if (crN f k).1 = 0 then nI (k + 1) else (crN f k).2.1) = _
        rw [e1, e2]
        by_cases hm : m = 0
        · subst hm; rfl
        · rw [if_neg hm, if_neg]
          intro q
          exact hm ((nI_eq (by omega) (by decide)).mp (q : nI m = nI 0))
    · exact ⟨m, a, b, by omega, h2, by omega, e1, e2, e3⟩
def CrG (I : Im) : Prop := 2 ≤ I 99 1 → ∃ o u, o < 2 ^ 30 ∧ 1 ≤ u ∧ u < 2 ^ 30 ∧ I 99 3 - I 99 2 = nI o ∧ I 99 1 - 1 = nI u
theorem crG {f : Nat → Int32} {k : Nat} (hk : k < 2 ^ 30) : CrG (crW I (crN f k)) := by
  intro h
  obtain ⟨m, a, b, h1, h2, h3, e1, e2, e3⟩ := crB (f := f) k hk
  have h' : (2 : Int32) ≤ (crN f k).1 := h
  rw [e1] at h'
  have h2m := (nI_leI (a := 2) (by decide) (by omega)).mp h'
  refine ⟨b - a, m - 1, by omega, by omega, by omega, ?_, ?_⟩
  · show (crN f k).2.2.1 - (crN f k).2.1 = _
    rw [e2, e3]
    exact (nI_sub h2 (by omega)).symm
  · show (crN f k).1 - 1 = _
    rw [e1]
    exact (nI_sub (a := 1) (by omega) (by omega)).symm
theorem s_tellN {x y : Int32} (h : ∃ o u, o < 2 ^ 30 ∧ 1 ≤ u ∧ u < 2 ^ 30 ∧ x = nI o ∧ y = nI u) : Ca G mdX3_tell [.ref 103, .int x, .int y] (mk I L t) (Rv (mk I (frT L x.toNatClampNeg y.toNatClampNeg) t)) := by
  obtain ⟨o, u, ho, h1, hu, rfl, rfl⟩ := h
  rw [nI_clamp (by omega), nI_clamp (by omega)]
  exact s_X3_tell (by omega) (by omega) h1 (by rw [gcdS_64 (by omega)]; exact Nat.le_of_dvd (by omega) (Nat.gcd_dvd_right o u))
def f_X11_go (I : Im) (n : Int32) : Int32 × Im :=
  if (b2i (0 ≤ n ∧ n ≤ 400)) = 0 then
    ((-1), I)
  else
    if (I 8 3) = 0 then
      ((-4), I)
    else
      if ((I 9 7) + n) ≤ 10000 then
        let I1 : Im := niGo I 8 n.toNatClampNeg
        (I1 9 7, I1)
      else
        ((-6), I)
set_option maxRecDepth 100000 in
set_option maxHeartbeats 4000000 in
theorem s_X11_go  {n : Int32} (hN : NW I 8) : Ca G mdX11_go [.ref 0, .int n] (mk I L t) (Rs (.int (f_X11_go I n).1) (mk ((f_X11_go I n).2) L t)) := by
  refine Ca.intro [some (.ref 0), some (.int n)] (by decide) (Nat.le_of_ble_eq_true rfl) rfl rfl ?_
  refine ex_iload_n dX11_go_0 rfl ?_
  refine ex_iconst (v := 0) dX11_go_1 (by decide) ?_
  refine ex_sipush (v := 400) dX11_go_2 (by decide) ?_
  refine rx_cS dX11_go_5 rfl lk_X11_117 ⟨⟨rfl, rfl⟩, by decide, by decide⟩ rfl (Nat.le_of_ble_eq_true rfl) rfl s_X11_within (Rs.k ?_)
  refine ex_if_ne 13 dX11_go_8 (by decide) (fun h8 => ?_) (fun h8 => ?_)
  · skip
    refine ex_aload_n dX11_go_13 rfl ?_
    refine g_11_7 dX11_go_14 rfl wf_X11_54 (by first | assumption | rfl) (show Rt _ 0 7 = some 8 from rfl) ?_
    refine g_5_3 dX11_go_17 rfl wf_X11_250 (by first | assumption | rfl) ?_
    refine ex_if_ne 26 dX11_go_20 (by decide) (fun h20 => ?_) (fun h20 => ?_)
    · skip
      refine ex_aload_n dX11_go_26 rfl ?_
      refine g_11_7 dX11_go_27 rfl wf_X11_54 (by first | assumption | rfl) (show Rt _ 0 7 = some 8 from rfl) ?_
      refine g_5_0 dX11_go_30 rfl wf_X11_251 (by first | assumption | rfl) (show Rt _ 8 0 = some 9 from rfl) ?_
      refine g_9_7 dX11_go_33 rfl wf_X11_255 (by first | assumption | rfl) ?_
      refine ex_iload_n dX11_go_36 rfl ?_
      refine ex_iadd dX11_go_37 ?_
      refine ex_sipush (v := 10000) dX11_go_38 (by decide) ?_
      refine ex_icmp_le 47 dX11_go_41 (by decide) (fun h41 => ?_) (fun h41 => ?_)
      · skip
        refine ex_aload_n dX11_go_47 rfl ?_
        refine g_11_7 dX11_go_48 rfl wf_X11_54 (by first | assumption | rfl) (show Rt _ 0 7 = some 8 from rfl) ?_
        refine ex_iload_n dX11_go_51 rfl ?_
        refine rx_cV (kd := 5) dX11_go_52 rfl lk_X11_260 rfl (by decide) (by first | assumption | rfl) ⟨⟨rfl, rfl⟩, by decide, by decide⟩ rfl (Nat.le_of_ble_eq_true rfl) rfl (s_passN hN h20 (b2i_n0.mp h8).1) (Rv.k ?_)
        refine ex_aload_n dX11_go_55 rfl ?_
        refine g_11_7 dX11_go_56 rfl wf_X11_54 (by first | assumption | rfl) (show Rt _ 0 7 = some 8 from rfl) ?_
        refine g_5_0 dX11_go_59 rfl wf_X11_251 (by first | assumption | rfl) (show Rt _ 8 0 = some 9 from rfl) ?_
        refine g_9_7 dX11_go_62 rfl wf_X11_255 (by first | assumption | rfl) ?_
        refine ex_iret dX11_go_65 rfl rfl ⟨rfl, Nat.le_refl _⟩ ?_
        exact ⟨(by simp only [f_X11_go, ↓eq_false h8, ↓eq_false h20, ↓h41, if_true, if_false, not_true_eq_false, not_false_eq_true]), (by simp only [f_X11_go, ↓eq_false h8, ↓eq_false h20, ↓h41, if_true, if_false, not_true_eq_false, not_false_eq_true])⟩
      · skip
        refine ex_bipush (v := (-6)) dX11_go_44 (by decide) ?_
        refine ex_iret dX11_go_46 rfl rfl ⟨rfl, Nat.le_refl _⟩ ?_
        exact ⟨(by simp only [f_X11_go, ↓eq_false h8, ↓eq_false h20, ↓h41, if_true, if_false, not_true_eq_false, not_false_eq_true]), (by simp only [f_X11_go, ↓eq_false h8, ↓eq_false h20, ↓h41, if_true, if_false, not_true_eq_false, not_false_eq_true])⟩
    · skip
      refine ex_bipush (v := (-4)) dX11_go_23 (by decide) ?_
      refine ex_iret dX11_go_25 rfl rfl ⟨rfl, Nat.le_refl _⟩ ?_
      exact ⟨(by simp only [f_X11_go, ↓eq_false h8, ↓eq_true h20, if_true, if_false, not_true_eq_false, not_false_eq_true]), (by simp only [f_X11_go, ↓eq_false h8, ↓eq_true h20, if_true, if_false, not_true_eq_false, not_false_eq_true])⟩
  · skip
    refine ex_iconst (v := (-1)) dX11_go_11 (by decide) ?_
    refine ex_iret dX11_go_12 rfl rfl ⟨rfl, Nat.le_refl _⟩ ?_
    exact ⟨(by simp only [f_X11_go, ↓eq_true h8, if_true, if_false, not_true_eq_false, not_false_eq_true]), (by simp only [f_X11_go, ↓eq_true h8, if_true, if_false, not_true_eq_false, not_false_eq_true])⟩
def f_X11_cell (I : Im) (k : Int32) (w : Int32) : Int32 × Im :=
  if (b2i (0 ≤ k ∧ k ≤ 15)) = 0 then
    ((-1), I)
  else
    if (b2i (0 ≤ w ∧ w ≤ 2)) = 0 then
      ((-1), I)
    else
      if (I 8 3) = 0 then
        ((-4), I)
      else
        if (b2i (0 ≤ k ∧ k < I 10 2 ∧ k < 16)) = 0 then
          let I2 : Im := (f_X11_refuse I 2).2
          ((f_X11_refuse I 2).1, I2)
        else
          let I1 : Im := (f_X11_tell I (waFact I 9 k w) 1).2
          ((f_X11_tell I (waFact I 9 k w) 1).1, I1)
set_option maxRecDepth 100000 in
set_option maxHeartbeats 4000000 in
theorem s_X11_cell  {k : Int32} {w : Int32} (hN : NW I 8) : Ca G mdX11_cell [.ref 0, .int k, .int w] (mk I L t) (Rs (.int (f_X11_cell I k w).1) (mk ((f_X11_cell I k w).2) L t)) := by
  refine Ca.intro [some (.ref 0), some (.int k), some (.int w)] (by decide) (Nat.le_of_ble_eq_true rfl) rfl rfl ?_
  refine ex_iload_n dX11_cell_0 rfl ?_
  refine rx_cS dX11_cell_1 rfl lk_X11_225 ⟨⟨rfl, rfl⟩, by decide, by decide⟩ rfl (Nat.le_of_ble_eq_true rfl) rfl s_X11_isCell (Rs.k ?_)
  refine ex_if_eq 16 dX11_cell_4 (by decide) (fun h4 => ?_) (fun h4 => ?_)
  · skip
    refine ex_iconst (v := (-1)) dX11_cell_16 (by decide) ?_
    refine ex_iret dX11_cell_17 rfl rfl ⟨rfl, Nat.le_refl _⟩ ?_
    exact ⟨(by simp only [f_X11_cell, ↓eq_true h4, if_true, if_false, not_true_eq_false, not_false_eq_true]), (by simp only [f_X11_cell, ↓eq_true h4, if_true, if_false, not_true_eq_false, not_false_eq_true])⟩
  · skip
    refine ex_iload_n dX11_cell_7 rfl ?_
    refine ex_iconst (v := 0) dX11_cell_8 (by decide) ?_
    refine ex_iconst (v := 2) dX11_cell_9 (by decide) ?_
    refine rx_cS dX11_cell_10 rfl lk_X11_117 ⟨⟨rfl, rfl⟩, by decide, by decide⟩ rfl (Nat.le_of_ble_eq_true rfl) rfl s_X11_within (Rs.k ?_)
    refine ex_if_ne 18 dX11_cell_13 (by decide) (fun h13 => ?_) (fun h13 => ?_)
    · skip
      refine ex_aload_n dX11_cell_18 rfl ?_
      refine g_11_7 dX11_cell_19 rfl wf_X11_54 (by first | assumption | rfl) (show Rt _ 0 7 = some 8 from rfl) ?_
      refine g_5_3 dX11_cell_22 rfl wf_X11_250 (by first | assumption | rfl) ?_
      refine ex_if_ne 31 dX11_cell_25 (by decide) (fun h25 => ?_) (fun h25 => ?_)
      · skip
        refine ex_aload_n dX11_cell_31 rfl ?_
        refine g_11_7 dX11_cell_32 rfl wf_X11_54 (by first | assumption | rfl) (show Rt _ 0 7 = some 8 from rfl) ?_
        refine g_5_0 dX11_cell_35 rfl wf_X11_251 (by first | assumption | rfl) (show Rt _ 8 0 = some 9 from rfl) ?_
        refine g_9_0 dX11_cell_38 rfl wf_X11_263 (by first | assumption | rfl) (show Rt _ 9 0 = some 10 from rfl) ?_
        refine ex_iload_n dX11_cell_41 rfl ?_
        refine rx_cV (kd := 0) dX11_cell_42 rfl lk_X11_207 rfl (by decide) (by first | assumption | rfl) ⟨⟨rfl, rfl⟩, by decide, by decide⟩ rfl (Nat.le_of_ble_eq_true rfl) rfl (s_X0_hasCell (a := 10) rfl) (Rs.k ?_)
        refine ex_if_ne 54 dX11_cell_45 (by decide) (fun h45 => ?_) (fun h45 => ?_)
        · skip
          refine ex_aload_n dX11_cell_54 rfl ?_
          refine ex_aload_n dX11_cell_55 rfl ?_
          refine g_11_7 dX11_cell_56 rfl wf_X11_54 (by first | assumption | rfl) (show Rt _ 0 7 = some 8 from rfl) ?_
          refine g_5_0 dX11_cell_59 rfl wf_X11_251 (by first | assumption | rfl) (show Rt _ 8 0 = some 9 from rfl) ?_
          refine ex_iload_n dX11_cell_62 rfl ?_
          refine ex_iload_n dX11_cell_63 rfl ?_
          refine rx_cV (kd := 9) dX11_cell_64 rfl lk_X11_264 rfl (by decide) (by first | assumption | rfl) ⟨⟨rfl, rfl⟩, by decide, by decide⟩ rfl (Nat.le_of_ble_eq_true rfl) rfl (s_factN (a := 9) rfl (hN.2 h25).2.1 h45 h13) (Rs.k ?_)
          refine ex_iconst (v := 1) dX11_cell_67 (by decide) ?_
          refine rx_cV (kd := 11) dX11_cell_68 rfl lk_X11_143 rfl (by decide) (by first | assumption | rfl) ⟨⟨rfl, rfl⟩, by decide, by decide⟩ rfl (Nat.le_of_ble_eq_true rfl) rfl s_X11_tell (Rs.k ?_)
          refine ex_iret dX11_cell_71 rfl rfl ⟨rfl, Nat.le_refl _⟩ ?_
          exact ⟨(by simp only [f_X11_cell, ↓eq_false h4, ↓eq_false h13, ↓eq_false h25, ↓eq_false h45, if_true, if_false, not_true_eq_false, not_false_eq_true]), (by simp only [f_X11_cell, ↓eq_false h4, ↓eq_false h13, ↓eq_false h25, ↓eq_false h45, if_true, if_false, not_true_eq_false, not_false_eq_true])⟩
        · skip
          refine ex_aload_n dX11_cell_48 rfl ?_
          refine ex_iconst (v := 2) dX11_cell_49 (by decide) ?_
          refine rx_cV (kd := 11) dX11_cell_50 rfl lk_X11_129 rfl (by decide) (by first | assumption | rfl) ⟨⟨rfl, rfl⟩, by decide, by decide⟩ rfl (Nat.le_of_ble_eq_true rfl) rfl (s_X11_refuse (by unfold vp_in; decide)) (Rs.k ?_)
          refine ex_iret dX11_cell_53 rfl rfl ⟨rfl, Nat.le_refl _⟩ ?_
          exact ⟨(by simp only [f_X11_cell, ↓eq_false h4, ↓eq_false h13, ↓eq_false h25, ↓eq_true h45, if_true, if_false, not_true_eq_false, not_false_eq_true]), (by simp only [f_X11_cell, ↓eq_false h4, ↓eq_false h13, ↓eq_false h25, ↓eq_true h45, if_true, if_false, not_true_eq_false, not_false_eq_true])⟩
      · skip
        refine ex_bipush (v := (-4)) dX11_cell_28 (by decide) ?_
        refine ex_iret dX11_cell_30 rfl rfl ⟨rfl, Nat.le_refl _⟩ ?_
        exact ⟨(by simp only [f_X11_cell, ↓eq_false h4, ↓eq_false h13, ↓eq_true h25, if_true, if_false, not_true_eq_false, not_false_eq_true]), (by simp only [f_X11_cell, ↓eq_false h4, ↓eq_false h13, ↓eq_true h25, if_true, if_false, not_true_eq_false, not_false_eq_true])⟩
    · skip
      refine ex_iconst (v := (-1)) dX11_cell_16 (by decide) ?_
      refine ex_iret dX11_cell_17 rfl rfl ⟨rfl, Nat.le_refl _⟩ ?_
      exact ⟨(by simp only [f_X11_cell, ↓eq_false h4, ↓eq_true h13, if_true, if_false, not_true_eq_false, not_false_eq_true]), (by simp only [f_X11_cell, ↓eq_false h4, ↓eq_true h13, if_true, if_false, not_true_eq_false, not_false_eq_true])⟩
def f_X11_rides (I : Im) (s : Int32) (w : Int32) : Int32 × Im :=
  if (b2i (0 ≤ s ∧ s ≤ 2)) = 0 then
    ((-1), I)
  else
    if (b2i (0 ≤ w ∧ w ≤ 3)) = 0 then
      ((-1), I)
    else
      if (I 8 3) = 0 then
        ((-4), I)
      else
        if (b2i (s.toNatClampNeg < (I 8 2).toNatClampNeg ∧ ¬ I (8 + 13 + s.toNatClampNeg) 0 = 0)) = 0 then
          ((-4), I)
        else
          let I1 : Im := (f_X11_tell I (riddenF I (21 + s.toNatClampNeg) w.toNatClampNeg) 1).2
          ((f_X11_tell I (riddenF I (21 + s.toNatClampNeg) w.toNatClampNeg) 1).1, I1)
set_option maxRecDepth 100000 in
set_option maxHeartbeats 4000000 in
theorem s_X11_rides  {s : Int32} {w : Int32} (hN : NW I 8) : Ca G mdX11_rides [.ref 0, .int s, .int w] (mk I L t) (Rs (.int (f_X11_rides I s w).1) (mk ((f_X11_rides I s w).2) L t)) := by
  refine Ca.intro [some (.ref 0), some (.int s), some (.int w)] (by decide) (Nat.le_of_ble_eq_true rfl) rfl rfl ?_
  refine ex_iload_n dX11_rides_0 rfl ?_
  refine rx_cS dX11_rides_1 rfl lk_X11_222 ⟨⟨rfl, rfl⟩, by decide, by decide⟩ rfl (Nat.le_of_ble_eq_true rfl) rfl s_X11_isShip (Rs.k ?_)
  refine ex_if_eq 16 dX11_rides_4 (by decide) (fun h4 => ?_) (fun h4 => ?_)
  · skip
    refine ex_iconst (v := (-1)) dX11_rides_16 (by decide) ?_
    refine ex_iret dX11_rides_17 rfl rfl ⟨rfl, Nat.le_refl _⟩ ?_
    exact ⟨(by simp only [f_X11_rides, ↓eq_true h4, if_true, if_false, not_true_eq_false, not_false_eq_true]), (by simp only [f_X11_rides, ↓eq_true h4, if_true, if_false, not_true_eq_false, not_false_eq_true])⟩
  · skip
    refine ex_iload_n dX11_rides_7 rfl ?_
    refine ex_iconst (v := 0) dX11_rides_8 (by decide) ?_
    refine ex_iconst (v := 3) dX11_rides_9 (by decide) ?_
    refine rx_cS dX11_rides_10 rfl lk_X11_117 ⟨⟨rfl, rfl⟩, by decide, by decide⟩ rfl (Nat.le_of_ble_eq_true rfl) rfl s_X11_within (Rs.k ?_)
    refine ex_if_ne 18 dX11_rides_13 (by decide) (fun h13 => ?_) (fun h13 => ?_)
    · skip
      refine ex_aload_n dX11_rides_18 rfl ?_
      refine g_11_7 dX11_rides_19 rfl wf_X11_54 (by first | assumption | rfl) (show Rt _ 0 7 = some 8 from rfl) ?_
      refine g_5_3 dX11_rides_22 rfl wf_X11_250 (by first | assumption | rfl) ?_
      refine ex_if_eq 39 dX11_rides_25 (by decide) (fun h25 => ?_) (fun h25 => ?_)
      · skip
        refine ex_bipush (v := (-4)) dX11_rides_39 (by decide) ?_
        refine ex_iret dX11_rides_41 rfl rfl ⟨rfl, Nat.le_refl _⟩ ?_
        exact ⟨(by simp only [f_X11_rides, ↓eq_false h4, ↓eq_false h13, ↓eq_true h25, if_true, if_false, not_true_eq_false, not_false_eq_true]), (by simp only [f_X11_rides, ↓eq_false h4, ↓eq_false h13, ↓eq_true h25, if_true, if_false, not_true_eq_false, not_false_eq_true])⟩
      · skip
        refine ex_aload_n dX11_rides_28 rfl ?_
        refine g_11_7 dX11_rides_29 rfl wf_X11_54 (by first | assumption | rfl) (show Rt _ 0 7 = some 8 from rfl) ?_
        refine ex_iload_n dX11_rides_32 rfl ?_
        refine rx_cV (kd := 5) dX11_rides_33 rfl lk_X11_266 rfl (by decide) (by first | assumption | rfl) ⟨⟨rfl, rfl⟩, by decide, by decide⟩ rfl (Nat.le_of_ble_eq_true rfl) rfl (s_hasN (a := 8) (B := 2) rfl rfl (by decide) ⟨3, by decide, (hN.2 h25).1⟩ (b2i_n0.mp h4).1) (Rs.k ?_)
        refine ex_if_ne 42 dX11_rides_36 (by decide) (fun h36 => ?_) (fun h36 => ?_)
        · have qs := (cl_lt (N := 3) (by decide) h4).1
          have vs := (cl_lt (N := 3) (by decide) h4).2
          have ks := ky_bts qs
          have ls := ly_bts (t := t) qs
          refine ex_aload_n dX11_rides_42 rfl ?_
          refine ex_aload_n dX11_rides_43 rfl ?_
          refine g_11_7 dX11_rides_44 rfl wf_X11_54 (by first | assumption | rfl) (show Rt _ 0 7 = some 8 from rfl) ?_
          refine g_5_1 dX11_rides_47 rfl wf_X11_267 (by first | assumption | rfl) (show Rt _ 8 1 = some 20 from rfl) ?_
          refine ex_iload_n dX11_rides_50 rfl ?_
          refine rx_aald dX11_rides_51 (by first | assumption | rfl) (by decide) rfl (by first | assumption | (unfold vp_in; decide)) (by first | assumption | rfl) ?_
          refine ex_iload_n dX11_rides_52 rfl ?_
          refine rx_cV (kd := 1) dX11_rides_53 rfl lk_X11_270 rfl (by decide) (by first | assumption | rfl) ⟨⟨rfl, rfl⟩, by decide, by decide⟩ rfl (Nat.le_of_ble_eq_true rfl) rfl (s_riddenN (by assumption) h13) (Rs.k ?_)
          refine ex_iconst (v := 1) dX11_rides_56 (by decide) ?_
          refine rx_cV (kd := 11) dX11_rides_57 rfl lk_X11_143 rfl (by decide) (by first | assumption | rfl) ⟨⟨rfl, rfl⟩, by decide, by decide⟩ rfl (Nat.le_of_ble_eq_true rfl) rfl s_X11_tell (Rs.k ?_)
          refine ex_iret dX11_rides_60 rfl rfl ⟨rfl, Nat.le_refl _⟩ ?_
          exact ⟨(by simp only [f_X11_rides, ↓eq_false h4, ↓eq_false h13, ↓eq_false h25, ↓eq_false h36, if_true, if_false, not_true_eq_false, not_false_eq_true]), (by simp only [f_X11_rides, ↓eq_false h4, ↓eq_false h13, ↓eq_false h25, ↓eq_false h36, if_true, if_false, not_true_eq_false, not_false_eq_true])⟩
        · skip
          refine ex_bipush (v := (-4)) dX11_rides_39 (by decide) ?_
          refine ex_iret dX11_rides_41 rfl rfl ⟨rfl, Nat.le_refl _⟩ ?_
          exact ⟨(by simp only [f_X11_rides, ↓eq_false h4, ↓eq_false h13, ↓eq_false h25, ↓eq_true h36, if_true, if_false, not_true_eq_false, not_false_eq_true]), (by simp only [f_X11_rides, ↓eq_false h4, ↓eq_false h13, ↓eq_false h25, ↓eq_true h36, if_true, if_false, not_true_eq_false, not_false_eq_true])⟩
    · skip
      refine ex_iconst (v := (-1)) dX11_rides_16 (by decide) ?_
      refine ex_iret dX11_rides_17 rfl rfl ⟨rfl, Nat.le_refl _⟩ ?_
      exact ⟨(by simp only [f_X11_rides, ↓eq_false h4, ↓eq_true h13, if_true, if_false, not_true_eq_false, not_false_eq_true]), (by simp only [f_X11_rides, ↓eq_false h4, ↓eq_true h13, if_true, if_false, not_true_eq_false, not_false_eq_true])⟩
def f_X11_keep (I : Im) (k : Int32) : Int32 × Im :=
  if (b2i (0 ≤ k ∧ k ≤ 2)) = 0 then
    ((-1), I)
  else
    if (I 8 3) = 0 then
      ((-4), I)
    else
      let I1 : Im := niTake I (152 + 16 * k.toNatClampNeg) 8 (I 8 2).toNatClampNeg
      (I1 9 7, I1)
set_option maxRecDepth 100000 in
set_option maxHeartbeats 4000000 in
theorem s_X11_keep  {k : Int32} (hN : NW I 8) : Ca G mdX11_keep [.ref 0, .int k] (mk I L t) (Rs (.int (f_X11_keep I k).1) (mk ((f_X11_keep I k).2) L t)) := by
  refine Ca.intro [some (.ref 0), some (.int k)] (by decide) (Nat.le_of_ble_eq_true rfl) rfl rfl ?_
  refine ex_iload_n dX11_keep_0 rfl ?_
  refine ex_iconst (v := 0) dX11_keep_1 (by decide) ?_
  refine ex_iconst (v := 2) dX11_keep_2 (by decide) ?_
  refine rx_cS dX11_keep_3 rfl lk_X11_117 ⟨⟨rfl, rfl⟩, by decide, by decide⟩ rfl (Nat.le_of_ble_eq_true rfl) rfl s_X11_within (Rs.k ?_)
  refine ex_if_ne 11 dX11_keep_6 (by decide) (fun h6 => ?_) (fun h6 => ?_)
  · have qk := (cl_lt (N := 3) (by decide) h6).1
    have vk := (cl_lt (N := 3) (by decide) h6).2
    have kk := ky_kep qk
    have lk := ly_kep (t := t) qk
    refine ex_aload_n dX11_keep_11 rfl ?_
    refine g_11_7 dX11_keep_12 rfl wf_X11_54 (by first | assumption | rfl) (show Rt _ 0 7 = some 8 from rfl) ?_
    refine g_5_3 dX11_keep_15 rfl wf_X11_250 (by first | assumption | rfl) ?_
    refine ex_if_ne 24 dX11_keep_18 (by decide) (fun h18 => ?_) (fun h18 => ?_)
    · skip
      refine ex_aload_n dX11_keep_24 rfl ?_
      refine g_11_6 dX11_keep_25 rfl wf_X11_47 (by first | assumption | rfl) (show Rt _ 0 6 = some 7 from rfl) ?_
      refine ex_iload_n dX11_keep_28 rfl ?_
      refine rx_aald dX11_keep_29 (by first | assumption | rfl) (by decide) rfl (by first | assumption | (unfold vp_in; decide)) (by first | assumption | rfl) ?_
      refine ex_aload_n dX11_keep_30 rfl ?_
      refine g_11_7 dX11_keep_31 rfl wf_X11_54 (by first | assumption | rfl) (show Rt _ 0 7 = some 8 from rfl) ?_
      refine rx_cV (kd := 5) dX11_keep_34 rfl lk_X11_276 rfl (by decide) (by first | assumption | rfl) ⟨⟨rfl, rfl⟩, by decide, by decide⟩ rfl (Nat.le_of_ble_eq_true rfl) rfl (s_takeN kk rfl (ky_kep12 _ qk) rfl hN h18 (by omega)) (Rv.k ?_)
      refine ex_aload_n dX11_keep_37 rfl ?_
      refine g_11_7 dX11_keep_38 rfl wf_X11_54 (by first | assumption | rfl) (show Rt _ 0 7 = some 8 from rfl) ?_
      refine g_5_0 dX11_keep_41 rfl wf_X11_251 (by first | assumption | rfl) (show Rt _ 8 0 = some 9 from rfl) ?_
      refine g_9_7 dX11_keep_44 rfl wf_X11_255 (by first | assumption | rfl) ?_
      refine ex_iret dX11_keep_47 rfl rfl ⟨rfl, Nat.le_refl _⟩ ?_
      exact ⟨(by simp only [f_X11_keep, ↓eq_false h6, ↓eq_false h18, if_true, if_false, not_true_eq_false, not_false_eq_true]), (by simp only [f_X11_keep, ↓eq_false h6, ↓eq_false h18, if_true, if_false, not_true_eq_false, not_false_eq_true])⟩
    · skip
      refine ex_bipush (v := (-4)) dX11_keep_21 (by decide) ?_
      refine ex_iret dX11_keep_23 rfl rfl ⟨rfl, Nat.le_refl _⟩ ?_
      exact ⟨(by simp only [f_X11_keep, ↓eq_false h6, ↓eq_true h18, if_true, if_false, not_true_eq_false, not_false_eq_true]), (by simp only [f_X11_keep, ↓eq_false h6, ↓eq_true h18, if_true, if_false, not_true_eq_false, not_false_eq_true])⟩
  · skip
    refine ex_iconst (v := (-1)) dX11_keep_9 (by decide) ?_
    refine ex_iret dX11_keep_10 rfl rfl ⟨rfl, Nat.le_refl _⟩ ?_
    exact ⟨(by simp only [f_X11_keep, ↓eq_true h6, if_true, if_false, not_true_eq_false, not_false_eq_true]), (by simp only [f_X11_keep, ↓eq_true h6, if_true, if_false, not_true_eq_false, not_false_eq_true])⟩
def f_X11_on (I : Im) (k : Int32) : Int32 × Im :=
  if (b2i (0 ≤ k ∧ k ≤ 2)) = 0 then
    ((-1), I)
  else
    if (I (152 + 16 * k.toNatClampNeg) 3) = 0 then
      let I2 : Im := (f_X11_refuse I 1).2
      ((f_X11_refuse I 1).1, I2)
    else
      let I1 : Im := niTake I 8 (152 + 16 * k.toNatClampNeg) (I (152 + 16 * k.toNatClampNeg) 2).toNatClampNeg
      (I1 9 7, I1)
set_option maxRecDepth 100000 in
set_option maxHeartbeats 4000000 in
theorem s_X11_on  {k : Int32} (hK : ∀ q, q < 3 → NW I (152 + 16 * q)) : Ca G mdX11_on [.ref 0, .int k] (mk I L t) (Rs (.int (f_X11_on I k).1) (mk ((f_X11_on I k).2) L t)) := by
  refine Ca.intro [some (.ref 0), some (.int k)] (by decide) (Nat.le_of_ble_eq_true rfl) rfl rfl ?_
  refine ex_iload_n dX11_on_0 rfl ?_
  refine ex_iconst (v := 0) dX11_on_1 (by decide) ?_
  refine ex_iconst (v := 2) dX11_on_2 (by decide) ?_
  refine rx_cS dX11_on_3 rfl lk_X11_117 ⟨⟨rfl, rfl⟩, by decide, by decide⟩ rfl (Nat.le_of_ble_eq_true rfl) rfl s_X11_within (Rs.k ?_)
  refine ex_if_ne 11 dX11_on_6 (by decide) (fun h6 => ?_) (fun h6 => ?_)
  · have qk := (cl_lt (N := 3) (by decide) h6).1
    have vk := (cl_lt (N := 3) (by decide) h6).2
    have kk := ky_kep qk
    have lk := ly_kep (t := t) qk
    refine ex_aload_n dX11_on_11 rfl ?_
    refine g_11_6 dX11_on_12 rfl wf_X11_47 (by first | assumption | rfl) (show Rt _ 0 6 = some 7 from rfl) ?_
    refine ex_iload_n dX11_on_15 rfl ?_
    refine rx_aald dX11_on_16 (by first | assumption | rfl) (by decide) rfl (by first | assumption | (unfold vp_in; decide)) (by first | assumption | rfl) ?_
    refine g_5_3 dX11_on_17 rfl wf_X11_250 (by first | assumption | rfl) ?_
    refine ex_if_ne 29 dX11_on_20 (by decide) (fun h20 => ?_) (fun h20 => ?_)
    · skip
      refine ex_aload_n dX11_on_29 rfl ?_
      refine g_11_7 dX11_on_30 rfl wf_X11_54 (by first | assumption | rfl) (show Rt _ 0 7 = some 8 from rfl) ?_
      refine ex_aload_n dX11_on_33 rfl ?_
      refine g_11_6 dX11_on_34 rfl wf_X11_47 (by first | assumption | rfl) (show Rt _ 0 6 = some 7 from rfl) ?_
      refine ex_iload_n dX11_on_37 rfl ?_
      refine rx_aald dX11_on_38 (by first | assumption | rfl) (by decide) rfl (by first | assumption | (unfold vp_in; decide)) (by first | assumption | rfl) ?_
      refine rx_cV (kd := 5) dX11_on_39 rfl lk_X11_276 rfl (by decide) (by first | assumption | rfl) ⟨⟨rfl, rfl⟩, by decide, by decide⟩ rfl (Nat.le_of_ble_eq_true rfl) rfl (s_takeN rfl kk rfl (ky_kep12 _ qk) (hK _ qk) h20 (by omega)) (Rv.k ?_)
      refine ex_aload_n dX11_on_42 rfl ?_
      refine g_11_7 dX11_on_43 rfl wf_X11_54 (by first | assumption | rfl) (show Rt _ 0 7 = some 8 from rfl) ?_
      refine g_5_0 dX11_on_46 rfl wf_X11_251 (by first | assumption | rfl) (show Rt _ 8 0 = some 9 from rfl) ?_
      refine g_9_7 dX11_on_49 rfl wf_X11_255 (by first | assumption | rfl) ?_
      refine ex_iret dX11_on_52 rfl rfl ⟨rfl, Nat.le_refl _⟩ ?_
      exact ⟨(by simp only [f_X11_on, ↓eq_false h6, ↓eq_false h20, if_true, if_false, not_true_eq_false, not_false_eq_true]), (by simp only [f_X11_on, ↓eq_false h6, ↓eq_false h20, if_true, if_false, not_true_eq_false, not_false_eq_true])⟩
    · skip
      refine ex_aload_n dX11_on_23 rfl ?_
      refine ex_iconst (v := 1) dX11_on_24 (by decide) ?_
      refine rx_cV (kd := 11) dX11_on_25 rfl lk_X11_129 rfl (by decide) (by first | assumption | rfl) ⟨⟨rfl, rfl⟩, by decide, by decide⟩ rfl (Nat.le_of_ble_eq_true rfl) rfl (s_X11_refuse (by unfold vp_in; decide)) (Rs.k ?_)
      refine ex_iret dX11_on_28 rfl rfl ⟨rfl, Nat.le_refl _⟩ ?_
      exact ⟨(by simp only [f_X11_on, ↓eq_false h6, ↓eq_true h20, if_true, if_false, not_true_eq_false, not_false_eq_true]), (by simp only [f_X11_on, ↓eq_false h6, ↓eq_true h20, if_true, if_false, not_true_eq_false, not_false_eq_true])⟩
  · skip
    refine ex_iconst (v := (-1)) dX11_on_9 (by decide) ?_
    refine ex_iret dX11_on_10 rfl rfl ⟨rfl, Nat.le_refl _⟩ ?_
    exact ⟨(by simp only [f_X11_on, ↓eq_true h6, if_true, if_false, not_true_eq_false, not_false_eq_true]), (by simp only [f_X11_on, ↓eq_true h6, if_true, if_false, not_true_eq_false, not_false_eq_true])⟩
def f_X11_water (I : Im) : Int32 × Im :=
  if (I 8 3) = 0 then
    ((-4), I)
  else
    let I1 : Im := (f_X11_tell I (sumI (I (9 + 6)) (I (9 + 1) 2).toNatClampNeg) 1).2
    ((f_X11_tell I (sumI (I (9 + 6)) (I (9 + 1) 2).toNatClampNeg) 1).1, I1)
set_option maxRecDepth 100000 in
set_option maxHeartbeats 4000000 in
theorem s_X11_water  (hN : NW I 8) : Ca G mdX11_water [.ref 0] (mk I L t) (Rs (.int (f_X11_water I).1) (mk ((f_X11_water I).2) L t)) := by
  refine Ca.intro [some (.ref 0)] (by decide) (Nat.le_of_ble_eq_true rfl) rfl rfl ?_
  refine ex_aload_n dX11_water_0 rfl ?_
  refine g_11_7 dX11_water_1 rfl wf_X11_54 (by first | assumption | rfl) (show Rt _ 0 7 = some 8 from rfl) ?_
  refine g_5_3 dX11_water_4 rfl wf_X11_250 (by first | assumption | rfl) ?_
  refine ex_if_ne 13 dX11_water_7 (by decide) (fun h7 => ?_) (fun h7 => ?_)
  · skip
    refine ex_aload_n dX11_water_13 rfl ?_
    refine ex_aload_n dX11_water_14 rfl ?_
    refine g_11_7 dX11_water_15 rfl wf_X11_54 (by first | assumption | rfl) (show Rt _ 0 7 = some 8 from rfl) ?_
    refine g_5_0 dX11_water_18 rfl wf_X11_251 (by first | assumption | rfl) (show Rt _ 8 0 = some 9 from rfl) ?_
    refine rx_cV (kd := 9) dX11_water_21 rfl lk_X11_279 rfl (by decide) (by first | assumption | rfl) ⟨⟨rfl, rfl⟩, by decide, by decide⟩ rfl (Nat.le_of_ble_eq_true rfl) rfl (s_wholeN (a := 9) rfl (hN.2 h7).2.1) (Rs.k ?_)
    refine ex_iconst (v := 1) dX11_water_24 (by decide) ?_
    refine rx_cV (kd := 11) dX11_water_25 rfl lk_X11_143 rfl (by decide) (by first | assumption | rfl) ⟨⟨rfl, rfl⟩, by decide, by decide⟩ rfl (Nat.le_of_ble_eq_true rfl) rfl s_X11_tell (Rs.k ?_)
    refine ex_iret dX11_water_28 rfl rfl ⟨rfl, Nat.le_refl _⟩ ?_
    exact ⟨(by simp only [f_X11_water, ↓eq_false h7, if_true, if_false, not_true_eq_false, not_false_eq_true]), (by simp only [f_X11_water, ↓eq_false h7, if_true, if_false, not_true_eq_false, not_false_eq_true])⟩
  · skip
    refine ex_bipush (v := (-4)) dX11_water_10 (by decide) ?_
    refine ex_iret dX11_water_12 rfl rfl ⟨rfl, Nat.le_refl _⟩ ?_
    exact ⟨(by simp only [f_X11_water, ↓eq_true h7, if_true, if_false, not_true_eq_false, not_false_eq_true]), (by simp only [f_X11_water, ↓eq_true h7, if_true, if_false, not_true_eq_false, not_false_eq_true])⟩
def f_X11_tellBeat (I : Im) (L : Nat → Nat → Int64) : Int32 × Im × (Nat → Nat → Int64) :=
  if (b2i (2 ≤ I 99 1)) = 0 then
    let I2 : Im := (f_X11_refuse I 4).2
    ((f_X11_refuse I 4).1, I2, L)
  else
    let L1 : Nat → Nat → Int64 := frT L ((I 99 3) - (I 99 2)).toNatClampNeg ((I 99 1) - 1).toNatClampNeg
    (I 99 1, I, L1)
set_option maxRecDepth 100000 in
set_option maxHeartbeats 4000000 in
theorem s_X11_tellBeat  (hC : CrG I) : Ca G mdX11_tellBeat [.ref 0] (mk I L t) (Rs (.int (f_X11_tellBeat I L).1) (mk ((f_X11_tellBeat I L).2.1) ((f_X11_tellBeat I L).2.2) t)) := by
  refine Ca.intro [some (.ref 0)] (by decide) (Nat.le_of_ble_eq_true rfl) rfl rfl ?_
  refine ex_aload_n dX11_tellBeat_0 rfl ?_
  refine g_11_13 dX11_tellBeat_1 rfl wf_X11_86 (by first | assumption | rfl) (show Rt _ 0 13 = some 99 from rfl) ?_
  refine rx_cV (kd := 2) dX11_tellBeat_4 rfl lk_X11_290 rfl (by decide) (by first | assumption | rfl) ⟨⟨rfl, rfl⟩, by decide, by decide⟩ rfl (Nat.le_of_ble_eq_true rfl) rfl (s_X2_haveBeat) (Rs.k ?_)
  refine ex_if_ne 16 dX11_tellBeat_7 (by decide) (fun h7 => ?_) (fun h7 => ?_)
  · skip
    refine ex_aload_n dX11_tellBeat_16 rfl ?_
    refine g_11_19 dX11_tellBeat_17 rfl wf_X11_110 (by first | assumption | rfl) (show Rt _ 0 19 = some 103 from rfl) ?_
    refine ex_aload_n dX11_tellBeat_20 rfl ?_
    refine g_11_13 dX11_tellBeat_21 rfl wf_X11_86 (by first | assumption | rfl) (show Rt _ 0 13 = some 99 from rfl) ?_
    refine g_2_3 dX11_tellBeat_24 rfl wf_X11_326 (by first | assumption | rfl) ?_
    refine ex_aload_n dX11_tellBeat_27 rfl ?_
    refine g_11_13 dX11_tellBeat_28 rfl wf_X11_86 (by first | assumption | rfl) (show Rt _ 0 13 = some 99 from rfl) ?_
    refine g_2_2 dX11_tellBeat_31 rfl wf_X11_329 (by first | assumption | rfl) ?_
    refine ex_isub dX11_tellBeat_34 ?_
    refine ex_aload_n dX11_tellBeat_35 rfl ?_
    refine g_11_13 dX11_tellBeat_36 rfl wf_X11_86 (by first | assumption | rfl) (show Rt _ 0 13 = some 99 from rfl) ?_
    refine g_2_1 dX11_tellBeat_39 rfl wf_X11_332 (by first | assumption | rfl) ?_
    refine ex_iconst (v := 1) dX11_tellBeat_42 (by decide) ?_
    refine ex_isub dX11_tellBeat_43 ?_
    refine rx_cV (kd := 3) dX11_tellBeat_44 rfl lk_X11_335 rfl (by decide) (by first | assumption | rfl) ⟨⟨rfl, rfl⟩, by decide, by decide⟩ rfl (Nat.le_of_ble_eq_true rfl) rfl (s_tellN (hC (b2i_n0.mp h7))) (Rv.k ?_)
    refine ex_aload_n dX11_tellBeat_47 rfl ?_
    refine g_11_13 dX11_tellBeat_48 rfl wf_X11_86 (by first | assumption | rfl) (show Rt _ 0 13 = some 99 from rfl) ?_
    refine g_2_1 dX11_tellBeat_51 rfl wf_X11_332 (by first | assumption | rfl) ?_
    refine ex_iret dX11_tellBeat_54 rfl rfl ⟨rfl, Nat.le_refl _⟩ ?_
    exact ⟨(by simp only [f_X11_tellBeat, ↓eq_false h7, if_true, if_false, not_true_eq_false, not_false_eq_true]), (by simp only [f_X11_tellBeat, ↓eq_false h7, if_true, if_false, not_true_eq_false, not_false_eq_true])⟩
  · skip
    refine ex_aload_n dX11_tellBeat_10 rfl ?_
    refine ex_iconst (v := 4) dX11_tellBeat_11 (by decide) ?_
    refine rx_cV (kd := 11) dX11_tellBeat_12 rfl lk_X11_129 rfl (by decide) (by first | assumption | rfl) ⟨⟨rfl, rfl⟩, by decide, by decide⟩ rfl (Nat.le_of_ble_eq_true rfl) rfl (s_X11_refuse (by unfold vp_in; decide)) (Rs.k ?_)
    refine ex_iret dX11_tellBeat_15 rfl rfl ⟨rfl, Nat.le_refl _⟩ ?_
    exact ⟨(by simp only [f_X11_tellBeat, ↓eq_true h7, if_true, if_false, not_true_eq_false, not_false_eq_true]), (by simp only [f_X11_tellBeat, ↓eq_true h7, if_true, if_false, not_true_eq_false, not_false_eq_true])⟩
def f_X11_beat (I : Im) (L : Nat → Nat → Int64) (r : Int32) : Int32 × Im × (Nat → Nat → Int64) :=
  if (b2i (0 ≤ r ∧ r ≤ 5)) = 0 then
    ((-1), I, L)
  else
    if (I (104 + 2 * r.toNatClampNeg) 2) = 0 then
      let I4 : Im := (f_X11_refuse I 1).2
      ((f_X11_refuse I 1).1, I4, L)
    else
      let I1 : Im := crW I (crN (I (104 + 2 * r.toNatClampNeg + 1)) ((I (104 + 2 * r.toNatClampNeg) 1).toNatClampNeg - 1))
      let I2 : Im := (f_X11_tellBeat I1 L).2.1
      let L3 : Nat → Nat → Int64 := (f_X11_tellBeat I1 L).2.2
      ((f_X11_tellBeat I1 L).1, I2, L3)
set_option maxRecDepth 100000 in
set_option maxHeartbeats 4000000 in
theorem s_X11_beat  {r : Int32} (hRow : RowS I) : Ca G mdX11_beat [.ref 0, .int r] (mk I L t) (Rs (.int (f_X11_beat I L r).1) (mk ((f_X11_beat I L r).2.1) ((f_X11_beat I L r).2.2) t)) := by
  refine Ca.intro [some (.ref 0), some (.int r)] (by decide) (Nat.le_of_ble_eq_true rfl) rfl rfl ?_
  refine ex_iload_n dX11_beat_0 rfl ?_
  refine rx_cS dX11_beat_1 rfl lk_X11_125 ⟨⟨rfl, rfl⟩, by decide, by decide⟩ rfl (Nat.le_of_ble_eq_true rfl) rfl s_X11_isRow (Rs.k ?_)
  refine ex_if_ne 9 dX11_beat_4 (by decide) (fun h4 => ?_) (fun h4 => ?_)
  · have qr := (cl_lt (N := 6) (by decide) h4).1
    have vr := (cl_lt (N := 6) (by decide) h4).2
    have kr := ky_row qr
    have lr := ly_row (t := t) qr
    have kp := (lay6 kr).2
    refine ex_aload_n dX11_beat_9 rfl ?_
    refine g_11_0 dX11_beat_10 rfl wf_X11_11 (by first | assumption | rfl) (show Rt _ 0 0 = some 1 from rfl) ?_
    refine ex_iload_n dX11_beat_13 rfl ?_
    refine rx_aald dX11_beat_14 (by first | assumption | rfl) (by decide) rfl (by first | assumption | (unfold vp_in; decide)) (by first | assumption | rfl) ?_
    refine g_6_2 dX11_beat_15 rfl wf_X11_136 (by first | assumption | rfl) ?_
    refine ex_if_ne 27 dX11_beat_18 (by decide) (fun h18 => ?_) (fun h18 => ?_)
    · skip
      refine ex_aload_n dX11_beat_27 rfl ?_
      refine g_11_13 dX11_beat_28 rfl wf_X11_86 (by first | assumption | rfl) (show Rt _ 0 13 = some 99 from rfl) ?_
      refine ex_aload_n dX11_beat_31 rfl ?_
      refine g_11_0 dX11_beat_32 rfl wf_X11_11 (by first | assumption | rfl) (show Rt _ 0 0 = some 1 from rfl) ?_
      refine ex_iload_n dX11_beat_35 rfl ?_
      refine rx_aald dX11_beat_36 (by first | assumption | rfl) (by decide) rfl (by first | assumption | (unfold vp_in; decide)) (by first | assumption | rfl) ?_
      refine g_6_0 dX11_beat_37 rfl wf_X11_140 (by first | assumption | rfl) (layR_6_0 (by first | assumption | rfl)) ?_
      refine ex_aload_n dX11_beat_40 rfl ?_
      refine g_11_0 dX11_beat_41 rfl wf_X11_11 (by first | assumption | rfl) (show Rt _ 0 0 = some 1 from rfl) ?_
      refine ex_iload_n dX11_beat_44 rfl ?_
      refine rx_aald dX11_beat_45 (by first | assumption | rfl) (by decide) rfl (by first | assumption | (unfold vp_in; decide)) (by first | assumption | rfl) ?_
      refine g_6_1 dX11_beat_46 rfl wf_X11_157 (by first | assumption | rfl) ?_
      refine rx_cV (kd := 2) dX11_beat_49 rfl lk_X11_283 rfl (by decide) (by first | assumption | rfl) ⟨⟨rfl, rfl⟩, by decide, by decide⟩ rfl (Nat.le_of_ble_eq_true rfl) rfl (s_lookN (N := 59) kp (by omega) (hRow _ qr) (by decide)) (Rv.k ?_)
      refine ex_aload_n dX11_beat_52 rfl ?_
      refine rx_cV (kd := 11) dX11_beat_53 rfl lk_X11_287 rfl (by decide) (by first | assumption | rfl) ⟨⟨rfl, rfl⟩, by decide, by decide⟩ rfl (Nat.le_of_ble_eq_true rfl) rfl (s_X11_tellBeat (crG (by obtain ⟨m, hm, e⟩ := hRow _ qr; rw [e, nI_clamp (by omega)]; omega))) (Rs.k ?_)
      refine ex_iret dX11_beat_56 rfl rfl ⟨rfl, Nat.le_refl _⟩ ?_
      exact ⟨(by simp only [f_X11_beat, ↓eq_false h4, ↓eq_false h18, if_true, if_false, not_true_eq_false, not_false_eq_true]), (by simp only [f_X11_beat, ↓eq_false h4, ↓eq_false h18, if_true, if_false, not_true_eq_false, not_false_eq_true])⟩
    · skip
      refine ex_aload_n dX11_beat_21 rfl ?_
      refine ex_iconst (v := 1) dX11_beat_22 (by decide) ?_
      refine rx_cV (kd := 11) dX11_beat_23 rfl lk_X11_129 rfl (by decide) (by first | assumption | rfl) ⟨⟨rfl, rfl⟩, by decide, by decide⟩ rfl (Nat.le_of_ble_eq_true rfl) rfl (s_X11_refuse (by unfold vp_in; decide)) (Rs.k ?_)
      refine ex_iret dX11_beat_26 rfl rfl ⟨rfl, Nat.le_refl _⟩ ?_
      exact ⟨(by simp only [f_X11_beat, ↓eq_false h4, ↓eq_true h18, if_true, if_false, not_true_eq_false, not_false_eq_true]), (by simp only [f_X11_beat, ↓eq_false h4, ↓eq_true h18, if_true, if_false, not_true_eq_false, not_false_eq_true])⟩
  · skip
    refine ex_iconst (v := (-1)) dX11_beat_7 (by decide) ?_
    refine ex_iret dX11_beat_8 rfl rfl ⟨rfl, Nat.le_refl _⟩ ?_
    exact ⟨(by simp only [f_X11_beat, ↓eq_true h4, if_true, if_false, not_true_eq_false, not_false_eq_true]), (by simp only [f_X11_beat, ↓eq_true h4, if_true, if_false, not_true_eq_false, not_false_eq_true])⟩
def f_X11_span (I : Im) (r : Int32) : Int32 × Im :=
  if (b2i (0 ≤ r ∧ r ≤ 5)) = 0 then
    ((-1), I)
  else
    if (I (104 + 2 * r.toNatClampNeg) 2) = 0 then
      let I4 : Im := (f_X11_refuse I 1).2
      ((f_X11_refuse I 1).1, I4)
    else
      let I1 : Im := crW I (crN (I (104 + 2 * r.toNatClampNeg + 1)) ((I (104 + 2 * r.toNatClampNeg) 1).toNatClampNeg - 1))
      if (b2i (2 ≤ I1 99 1)) = 0 then
        let I3 : Im := (f_X11_refuse I1 4).2
        ((f_X11_refuse I1 4).1, I3)
      else
        let I2 : Im := (f_X11_tell I1 (I1 99 5) (I1 99 4)).2
        ((f_X11_tell I1 (I1 99 5) (I1 99 4)).1, I2)
set_option maxRecDepth 100000 in
set_option maxHeartbeats 4000000 in
theorem s_X11_span  {r : Int32} (hRow : RowS I) : Ca G mdX11_span [.ref 0, .int r] (mk I L t) (Rs (.int (f_X11_span I r).1) (mk ((f_X11_span I r).2) L t)) := by
  refine Ca.intro [some (.ref 0), some (.int r)] (by decide) (Nat.le_of_ble_eq_true rfl) rfl rfl ?_
  refine ex_iload_n dX11_span_0 rfl ?_
  refine rx_cS dX11_span_1 rfl lk_X11_125 ⟨⟨rfl, rfl⟩, by decide, by decide⟩ rfl (Nat.le_of_ble_eq_true rfl) rfl s_X11_isRow (Rs.k ?_)
  refine ex_if_ne 9 dX11_span_4 (by decide) (fun h4 => ?_) (fun h4 => ?_)
  · have qr := (cl_lt (N := 6) (by decide) h4).1
    have vr := (cl_lt (N := 6) (by decide) h4).2
    have kr := ky_row qr
    have lr := ly_row (t := t) qr
    have kp := (lay6 kr).2
    refine ex_aload_n dX11_span_9 rfl ?_
    refine g_11_0 dX11_span_10 rfl wf_X11_11 (by first | assumption | rfl) (show Rt _ 0 0 = some 1 from rfl) ?_
    refine ex_iload_n dX11_span_13 rfl ?_
    refine rx_aald dX11_span_14 (by first | assumption | rfl) (by decide) rfl (by first | assumption | (unfold vp_in; decide)) (by first | assumption | rfl) ?_
    refine g_6_2 dX11_span_15 rfl wf_X11_136 (by first | assumption | rfl) ?_
    refine ex_if_ne 27 dX11_span_18 (by decide) (fun h18 => ?_) (fun h18 => ?_)
    · skip
      refine ex_aload_n dX11_span_27 rfl ?_
      refine g_11_13 dX11_span_28 rfl wf_X11_86 (by first | assumption | rfl) (show Rt _ 0 13 = some 99 from rfl) ?_
      refine ex_aload_n dX11_span_31 rfl ?_
      refine g_11_0 dX11_span_32 rfl wf_X11_11 (by first | assumption | rfl) (show Rt _ 0 0 = some 1 from rfl) ?_
      refine ex_iload_n dX11_span_35 rfl ?_
      refine rx_aald dX11_span_36 (by first | assumption | rfl) (by decide) rfl (by first | assumption | (unfold vp_in; decide)) (by first | assumption | rfl) ?_
      refine g_6_0 dX11_span_37 rfl wf_X11_140 (by first | assumption | rfl) (layR_6_0 (by first | assumption | rfl)) ?_
      refine ex_aload_n dX11_span_40 rfl ?_
      refine g_11_0 dX11_span_41 rfl wf_X11_11 (by first | assumption | rfl) (show Rt _ 0 0 = some 1 from rfl) ?_
      refine ex_iload_n dX11_span_44 rfl ?_
      refine rx_aald dX11_span_45 (by first | assumption | rfl) (by decide) rfl (by first | assumption | (unfold vp_in; decide)) (by first | assumption | rfl) ?_
      refine g_6_1 dX11_span_46 rfl wf_X11_157 (by first | assumption | rfl) ?_
      refine rx_cV (kd := 2) dX11_span_49 rfl lk_X11_283 rfl (by decide) (by first | assumption | rfl) ⟨⟨rfl, rfl⟩, by decide, by decide⟩ rfl (Nat.le_of_ble_eq_true rfl) rfl (s_lookN (N := 59) kp (by omega) (hRow _ qr) (by decide)) (Rv.k ?_)
      refine ex_aload_n dX11_span_52 rfl ?_
      refine g_11_13 dX11_span_53 rfl wf_X11_86 (by first | assumption | rfl) (show Rt _ 0 13 = some 99 from rfl) ?_
      refine rx_cV (kd := 2) dX11_span_56 rfl lk_X11_290 rfl (by decide) (by first | assumption | rfl) ⟨⟨rfl, rfl⟩, by decide, by decide⟩ rfl (Nat.le_of_ble_eq_true rfl) rfl (s_X2_haveBeat) (Rs.k ?_)
      refine ex_if_ne 68 dX11_span_59 (by decide) (fun h59 => ?_) (fun h59 => ?_)
      · skip
        refine ex_aload_n dX11_span_68 rfl ?_
        refine ex_aload_n dX11_span_69 rfl ?_
        refine g_11_13 dX11_span_70 rfl wf_X11_86 (by first | assumption | rfl) (show Rt _ 0 13 = some 99 from rfl) ?_
        refine g_2_5 dX11_span_73 rfl wf_X11_294 (by first | assumption | rfl) ?_
        refine ex_aload_n dX11_span_76 rfl ?_
        refine g_11_13 dX11_span_77 rfl wf_X11_86 (by first | assumption | rfl) (show Rt _ 0 13 = some 99 from rfl) ?_
        refine g_2_4 dX11_span_80 rfl wf_X11_297 (by first | assumption | rfl) ?_
        refine rx_cV (kd := 11) dX11_span_83 rfl lk_X11_143 rfl (by decide) (by first | assumption | rfl) ⟨⟨rfl, rfl⟩, by decide, by decide⟩ rfl (Nat.le_of_ble_eq_true rfl) rfl s_X11_tell (Rs.k ?_)
        refine ex_iret dX11_span_86 rfl rfl ⟨rfl, Nat.le_refl _⟩ ?_
        exact ⟨(by simp only [f_X11_span, ↓eq_false h4, ↓eq_false h18, ↓eq_false h59, if_true, if_false, not_true_eq_false, not_false_eq_true]), (by simp only [f_X11_span, ↓eq_false h4, ↓eq_false h18, ↓eq_false h59, if_true, if_false, not_true_eq_false, not_false_eq_true])⟩
      · skip
        refine ex_aload_n dX11_span_62 rfl ?_
        refine ex_iconst (v := 4) dX11_span_63 (by decide) ?_
        refine rx_cV (kd := 11) dX11_span_64 rfl lk_X11_129 rfl (by decide) (by first | assumption | rfl) ⟨⟨rfl, rfl⟩, by decide, by decide⟩ rfl (Nat.le_of_ble_eq_true rfl) rfl (s_X11_refuse (by unfold vp_in; decide)) (Rs.k ?_)
        refine ex_iret dX11_span_67 rfl rfl ⟨rfl, Nat.le_refl _⟩ ?_
        exact ⟨(by simp only [f_X11_span, ↓eq_false h4, ↓eq_false h18, ↓eq_true h59, if_true, if_false, not_true_eq_false, not_false_eq_true]), (by simp only [f_X11_span, ↓eq_false h4, ↓eq_false h18, ↓eq_true h59, if_true, if_false, not_true_eq_false, not_false_eq_true])⟩
    · skip
      refine ex_aload_n dX11_span_21 rfl ?_
      refine ex_iconst (v := 1) dX11_span_22 (by decide) ?_
      refine rx_cV (kd := 11) dX11_span_23 rfl lk_X11_129 rfl (by decide) (by first | assumption | rfl) ⟨⟨rfl, rfl⟩, by decide, by decide⟩ rfl (Nat.le_of_ble_eq_true rfl) rfl (s_X11_refuse (by unfold vp_in; decide)) (Rs.k ?_)
      refine ex_iret dX11_span_26 rfl rfl ⟨rfl, Nat.le_refl _⟩ ?_
      exact ⟨(by simp only [f_X11_span, ↓eq_false h4, ↓eq_true h18, if_true, if_false, not_true_eq_false, not_false_eq_true]), (by simp only [f_X11_span, ↓eq_false h4, ↓eq_true h18, if_true, if_false, not_true_eq_false, not_false_eq_true])⟩
  · skip
    refine ex_iconst (v := (-1)) dX11_span_7 (by decide) ?_
    refine ex_iret dX11_span_8 rfl rfl ⟨rfl, Nat.le_refl _⟩ ?_
    exact ⟨(by simp only [f_X11_span, ↓eq_true h4, if_true, if_false, not_true_eq_false, not_false_eq_true]), (by simp only [f_X11_span, ↓eq_true h4, if_true, if_false, not_true_eq_false, not_false_eq_true])⟩
end N1
