section N12
variable {G : Gp} {I : Im} {L : Nat → Nat → Int64} {t : Nat}
theorem ite_j {p : Prop} [Decidable p] {x y : Im} {c j : Nat} {z : Int32} (hx : x c j = z) (hy : y c j = z) : (if p then x else y) c j = z := by
  split
  · exact hx
  · exact hy
theorem boRide_0 {a : Nat} {f s : Int32} : boRide I a f s a 0 = I a 0 := by
  unfold boRide
  exact ite_j (by rw [u2_j (show (0 : Nat) ≠ 9 by decide), u2_j (show (0 : Nat) ≠ 8 by decide), u2_j (show (0 : Nat) ≠ 6 by decide), u2_j (show (0 : Nat) ≠ 7 by decide), u2_j (show (0 : Nat) ≠ 7 by decide)]) (by rw [u2_j (show (0 : Nat) ≠ 8 by decide), u2_j (show (0 : Nat) ≠ 6 by decide), u2_j (show (0 : Nat) ≠ 7 by decide), u2_j (show (0 : Nat) ≠ 7 by decide)])
theorem ridesI_z {J : Im} {a e : Nat} {sec : Int32} : ∀ k, ridesI J a sec k e 0 = J e 0 := by
  intro k
  induction k with
  | zero => rfl
  | succ k ih =>
    unfold ridesI
    split
    · exact ih
    · by_cases h : e = a + 13 + k
      · rw [h, boRide_0, ← h]
        exact ih
      · rw [boRide_off h]
        exact ih
theorem niPass_z {a n c m e : Nat} (h : a + 12 < e) : ∀ k, niPass I a n c m k e 0 = I e 0 := by
  intro k
  induction k with
  | zero => rfl
  | succ k ih =>
    unfold niPass niStep
    rw [ridesI_z, waPass_off (by omega) (by omega) (by omega) (by omega) (by omega)]
    exact ih
def GqS (I : Im) : Prop := NW I 8 ∧ ¬ I 8 3 = 0
theorem Gq_of {J : Im} (hI : GqS I) (h8 : J 8 = I 8) (h10 : J 10 = I 10) (h12 : J 12 = I 12) (hb : ∀ i, i < 3 → J (8 + 13 + i) 0 = I (8 + 13 + i) 0) : GqS J := by
  unfold GqS NW at hI ⊢
  obtain ⟨⟨h1, h2⟩, h3⟩ := hI
  obtain ⟨e2, e3, e4, e5, e6, e7⟩ := h2 h3
  refine ⟨⟨by rw [h8]; exact h1, fun _ => ⟨by rw [h8]; exact e2, ?_, ?_, ?_, ?_, ?_⟩⟩, by rw [h8]; exact h3⟩
  · rw [show J (8 + 2) = I (8 + 2) from h10]; exact e3
  · rw [show J (8 + 4) = I (8 + 4) from h12]; exact e4
  · rw [show J (8 + 2) = I (8 + 2) from h10]; exact e5
  · rw [show J (8 + 4) = I (8 + 4) from h12]; exact e6
  · intro i hi
    rw [hb i hi]
    exact e7 i hi
theorem niGo_off {q e : Nat} (h : GqS I) (h1 : e < 9 ∨ e = 10 ∨ e = 12 ∨ 23 < e) : niGo I 8 q e = I e := by
  obtain ⟨e2, -⟩ := h.1.2 h.2
  unfold niGo
  rw [e2, nI_clamp (by decide)]
  exact niPass_off (by omega) (by omega) (by omega) (by omega) (by omega) (fun i hi => by omega) q
theorem Gq_go {q : Nat} (h : GqS I) : GqS (niGo I 8 q) := Gq_of h (niGo_off h (by decide)) (niGo_off h (by decide)) (niGo_off h (by decide)) (fun i hi => niPass_z (by omega) q)
def gaN (J : Im) (q p k : Nat) : Im :=
  match k with
  | 0 => J
  | k + 1 => up2 (niGo (gaN J q p k) 8 (1 : Int32).toNatClampNeg) (p + 1) k (niGo (gaN J q p k) 8 (1 : Int32).toNatClampNeg 15 q)
termination_by k
theorem gaN_0 {J : Im} {q p : Nat} : gaN J q p 0 = J := by rw [gaN]
theorem gaN_s {J : Im} {q p k : Nat} : gaN J q p (k + 1) = up2 (niGo (gaN J q p k) 8 (1 : Int32).toNatClampNeg) (p + 1) k (niGo (gaN J q p k) 8 (1 : Int32).toNatClampNeg 15 q) := by rw [gaN]
theorem Gq_ga {J : Im} {q p : Nat} (h : GqS J) (hp : 90 < p) : ∀ k, GqS (gaN J q p k) := by
  intro k
  induction k with
  | zero => rw [gaN_0]; exact h
  | succ k ih =>
    rw [gaN_s]
    exact Gq_of (Gq_go ih) (up2_off (by omega)) (up2_off (by omega)) (up2_off (by omega)) (fun i hi => by rw [up2_off (by omega)])
set_option maxRecDepth 100000 in
set_option maxHeartbeats 4000000 in
theorem lp_gau {P : Option Value → Mem → Prop} {J : Im} {x r : Int32} {n : Nat} (hn : n ≤ 60) (hJ : GqS J) (vx : vp_in x 16) (vr : vp_in r 6) (kr : K0 (104 + 2 * r.toNatClampNeg) = (6, 3)) (kp : K0 ((104 + 2 * r.toNatClampNeg) + 1) = (14, 60)) (lr : Rt t 1 r.toNatClampNeg = some (104 + 2 * r.toNatClampNeg)) (kont : Ex G mdX11_gauge 140 [some (.ref 0), some (.int x), some (.int (nI n)), some (.int r), some (.int (nI n))] [] (mk (gaN J x.toNatClampNeg (104 + 2 * r.toNatClampNeg) n) L t) 0 0 P) : Ex G mdX11_gauge 96 [some (.ref 0), some (.int x), some (.int (nI n)), some (.int r), some (.int (nI 0))] [] (mk (gaN J x.toNatClampNeg (104 + 2 * r.toNatClampNeg) 0) L t) 0 0 P := by
  refine loop_up (G := G) (d := mdX11_gauge) (pc := 96) (st := []) (uc := 0) (us := 0) (P := P) n (fun k => mk (gaN J x.toNatClampNeg (104 + 2 * r.toNatClampNeg) k) L t) (fun k => [some (.ref 0), some (.int x), some (.int (nI n)), some (.int r), some (.int (nI k))]) ?_ ?_ 0 (Nat.zero_le _)
  · intro k hk ih
    have hg := Gq_ga (q := x.toNatClampNeg) (p := (104 + 2 * r.toNatClampNeg)) hJ (by omega) k
    refine ex_iload dX11_gauge_96 rfl ?_
    refine ex_iload_n dX11_gauge_98 rfl ?_
    refine ex_icmp_ge 140 dX11_gauge_99 (by decide) (fun h99 => ?_) (fun h99 => ?_)
    · exact absurd h99 (nI_ge hk (by omega))
    · skip
      refine ex_aload_n dX11_gauge_102 rfl ?_
      refine g_11_7 dX11_gauge_103 rfl wf_X11_54 (by first | assumption | rfl) (show Rt _ 0 7 = some 8 from rfl) ?_
      refine ex_iconst (v := 1) dX11_gauge_106 (by decide) ?_
      refine rx_cV (kd := 5) dX11_gauge_107 rfl lk_X11_260 rfl (by decide) (by first | assumption | rfl) ⟨⟨rfl, rfl⟩, by decide, by decide⟩ rfl (Nat.le_of_ble_eq_true rfl) rfl (s_passN hg.1 hg.2 (by decide)) (Rv.k ?_)
      refine ex_aload_n dX11_gauge_110 rfl ?_
      refine g_11_0 dX11_gauge_111 rfl wf_X11_11 (by first | assumption | rfl) (show Rt _ 0 0 = some 1 from rfl) ?_
      refine ex_iload_n dX11_gauge_114 rfl ?_
      refine rx_aald dX11_gauge_115 (by first | assumption | rfl) (by decide) rfl (by first | assumption | (unfold vp_in; decide)) (by first | assumption | rfl) ?_
      refine g_6_0 dX11_gauge_116 rfl wf_X11_140 (by first | assumption | rfl) (layR_6_0 (by first | assumption | rfl)) ?_
      refine ex_iload dX11_gauge_119 rfl ?_
      refine ex_aload_n dX11_gauge_121 rfl ?_
      refine g_11_7 dX11_gauge_122 rfl wf_X11_54 (by first | assumption | rfl) (show Rt _ 0 7 = some 8 from rfl) ?_
      refine g_5_0 dX11_gauge_125 rfl wf_X11_251 (by first | assumption | rfl) (layR_5_0 (by first | assumption | rfl)) ?_
      refine g_9_2 dX11_gauge_128 rfl wf_X11_273 (by first | assumption | rfl) (layR_9_2 (by first | assumption | rfl)) ?_
      refine ex_iload_n dX11_gauge_131 rfl ?_
      refine rx_iald dX11_gauge_132 (by first | assumption | rfl) (by first | assumption | (unfold vp_in; decide)) ?_
      refine rx_iast dX11_gauge_133 (by first | assumption | rfl) (vp_in_nI (by omega) (by decide)) ?_
      refine inc4 (v := _ + 1) dX11_gauge_134 (by rfl) (by first | exact rfl | exact trivial) ?_
      refine ex_goto 96 dX11_gauge_137 (by decide) ?_
      rw [nI_clamp (by omega), nI_1]
      rw [gaN_s] at ih
      exact ih
  · skip
    refine ex_iload dX11_gauge_96 rfl ?_
    refine ex_iload_n dX11_gauge_98 rfl ?_
    refine ex_icmp_ge 140 dX11_gauge_99 (by decide) (fun h99 => ?_) (fun h99 => ?_)
    · skip
      exact kont
    · exact absurd (Int32.le_refl _) h99
theorem lp_gau0 {P : Option Value → Mem → Prop} {J : Im} {x y r : Int32} (h0 : 0 ≤ y) (h60 : y ≤ 60) (hJ : GqS J) (vx : vp_in x 16) (vr : vp_in r 6) (kr : K0 (104 + 2 * r.toNatClampNeg) = (6, 3)) (kp : K0 ((104 + 2 * r.toNatClampNeg) + 1) = (14, 60)) (lr : Rt t 1 r.toNatClampNeg = some (104 + 2 * r.toNatClampNeg)) (kont : Ex G mdX11_gauge 140 [some (.ref 0), some (.int x), some (.int y), some (.int r), none] [] (mk (gaN J x.toNatClampNeg (104 + 2 * r.toNatClampNeg) y.toNatClampNeg) L t) 0 0 P) : Ex G mdX11_gauge 96 [some (.ref 0), some (.int x), some (.int y), some (.int r), some (.int 0)] [] (mk J L t) 0 0 P := by
  obtain ⟨n, hn, rfl⟩ := nI_of2 (M := 60) (n := 60) (by decide) (Int32.not_lt.mpr h0) h60
  rw [nI_clamp (by omega)] at kont
  have h := lp_gau (G := G) (L := L) (x := x) (r := r) hn hJ vx vr kr kp lr (P := P) (fg4 kont)
  rw [gaN_0] at h
  exact h
theorem nuG {p n : Nat} (h : GqS I) (hp : 90 < p) : GqS (nuNew I p n) := Gq_of h (nuN_off (by omega) (by omega)) (nuN_off (by omega) (by omega)) (nuN_off (by omega) (by omega)) (fun i hi => by rw [nuN_off (by omega) (by omega)])
def f_X11_gauge (I : Im) (c : Int32) (n : Int32) (r : Int32) : Int32 × Im :=
  if (b2i (0 ≤ c ∧ c ≤ 15)) = 0 then
    ((-1), I)
  else
    if (b2i (0 ≤ n ∧ n ≤ 60)) = 0 then
      ((-1), I)
    else
      if (b2i (0 ≤ r ∧ r ≤ 5)) = 0 then
        ((-1), I)
      else
        if (I 8 3) = 0 then
          ((-4), I)
        else
          if (b2i (0 ≤ c ∧ c < I 10 2 ∧ c < 16)) = 0 then
            let I3 : Im := (f_X11_refuse I 2).2
            ((f_X11_refuse I 2).1, I3)
          else
            if ((I 9 7) + n) ≤ 10000 then
              let I1 : Im := nuNew I (104 + 2 * r.toNatClampNeg) n.toNatClampNeg
              let I2 : Im := gaN I1 c.toNatClampNeg (104 + 2 * r.toNatClampNeg) n.toNatClampNeg
              (I2 9 7, I2)
            else
              ((-6), I)
set_option maxRecDepth 100000 in
set_option maxHeartbeats 4000000 in
theorem s_X11_gauge  {c : Int32} {n : Int32} {r : Int32} (hN : NW I 8) : Ca G mdX11_gauge [.ref 0, .int c, .int n, .int r] (mk I L t) (Rs (.int (f_X11_gauge I c n r).1) (mk ((f_X11_gauge I c n r).2) L t)) := by
  refine Ca.intro [some (.ref 0), some (.int c), some (.int n), some (.int r), none] (by decide) (Nat.le_of_ble_eq_true rfl) rfl rfl ?_
  refine ex_iload_n dX11_gauge_0 rfl ?_
  refine rx_cS dX11_gauge_1 rfl lk_X11_225 ⟨⟨rfl, rfl⟩, by decide, by decide⟩ rfl (Nat.le_of_ble_eq_true rfl) rfl s_X11_isCell (Rs.k ?_)
  refine ex_if_eq 24 dX11_gauge_4 (by decide) (fun h4 => ?_) (fun h4 => ?_)
  · skip
    refine ex_iconst (v := (-1)) dX11_gauge_24 (by decide) ?_
    refine ex_iret dX11_gauge_25 rfl rfl ⟨rfl, Nat.le_refl _⟩ ?_
    exact ⟨(by simp only [f_X11_gauge, ↓eq_true h4, if_true, if_false, not_true_eq_false, not_false_eq_true]), (by simp only [f_X11_gauge, ↓eq_true h4, if_true, if_false, not_true_eq_false, not_false_eq_true])⟩
  · have qc := (cl_lt (N := 16) (by decide) h4).1
    have vc := (cl_lt (N := 16) (by decide) h4).2
    refine ex_iload_n dX11_gauge_7 rfl ?_
    refine ex_iconst (v := 0) dX11_gauge_8 (by decide) ?_
    refine ex_bipush (v := 60) dX11_gauge_9 (by decide) ?_
    refine rx_cS dX11_gauge_11 rfl lk_X11_117 ⟨⟨rfl, rfl⟩, by decide, by decide⟩ rfl (Nat.le_of_ble_eq_true rfl) rfl s_X11_within (Rs.k ?_)
    refine ex_if_eq 24 dX11_gauge_14 (by decide) (fun h14 => ?_) (fun h14 => ?_)
    · skip
      refine ex_iconst (v := (-1)) dX11_gauge_24 (by decide) ?_
      refine ex_iret dX11_gauge_25 rfl rfl ⟨rfl, Nat.le_refl _⟩ ?_
      exact ⟨(by simp only [f_X11_gauge, ↓eq_false h4, ↓eq_true h14, if_true, if_false, not_true_eq_false, not_false_eq_true]), (by simp only [f_X11_gauge, ↓eq_false h4, ↓eq_true h14, if_true, if_false, not_true_eq_false, not_false_eq_true])⟩
    · have n0 := b2i_n0.mp h14
      refine ex_iload_n dX11_gauge_17 rfl ?_
      refine rx_cS dX11_gauge_18 rfl lk_X11_125 ⟨⟨rfl, rfl⟩, by decide, by decide⟩ rfl (Nat.le_of_ble_eq_true rfl) rfl s_X11_isRow (Rs.k ?_)
      refine ex_if_ne 26 dX11_gauge_21 (by decide) (fun h21 => ?_) (fun h21 => ?_)
      · have qr := (cl_lt (N := 6) (by decide) h21).1
        have vr := (cl_lt (N := 6) (by decide) h21).2
        have kr := ky_row qr
        have lr := ly_row (t := t) qr
        have kp := (lay6 kr).2
        refine ex_aload_n dX11_gauge_26 rfl ?_
        refine g_11_7 dX11_gauge_27 rfl wf_X11_54 (by first | assumption | rfl) (show Rt _ 0 7 = some 8 from rfl) ?_
        refine g_5_3 dX11_gauge_30 rfl wf_X11_250 (by first | assumption | rfl) ?_
        refine ex_if_ne 39 dX11_gauge_33 (by decide) (fun h33 => ?_) (fun h33 => ?_)
        · skip
          refine ex_aload_n dX11_gauge_39 rfl ?_
          refine g_11_7 dX11_gauge_40 rfl wf_X11_54 (by first | assumption | rfl) (show Rt _ 0 7 = some 8 from rfl) ?_
          refine g_5_0 dX11_gauge_43 rfl wf_X11_251 (by first | assumption | rfl) (show Rt _ 8 0 = some 9 from rfl) ?_
          refine g_9_0 dX11_gauge_46 rfl wf_X11_263 (by first | assumption | rfl) (show Rt _ 9 0 = some 10 from rfl) ?_
          refine ex_iload_n dX11_gauge_49 rfl ?_
          refine rx_cV (kd := 0) dX11_gauge_50 rfl lk_X11_207 rfl (by decide) (by first | assumption | rfl) ⟨⟨rfl, rfl⟩, by decide, by decide⟩ rfl (Nat.le_of_ble_eq_true rfl) rfl (s_X0_hasCell (a := 10) rfl) (Rs.k ?_)
          refine ex_if_ne 62 dX11_gauge_53 (by decide) (fun h53 => ?_) (fun h53 => ?_)
          · skip
            refine ex_aload_n dX11_gauge_62 rfl ?_
            refine g_11_7 dX11_gauge_63 rfl wf_X11_54 (by first | assumption | rfl) (show Rt _ 0 7 = some 8 from rfl) ?_
            refine g_5_0 dX11_gauge_66 rfl wf_X11_251 (by first | assumption | rfl) (show Rt _ 8 0 = some 9 from rfl) ?_
            refine g_9_7 dX11_gauge_69 rfl wf_X11_255 (by first | assumption | rfl) ?_
            refine ex_iload_n dX11_gauge_72 rfl ?_
            refine ex_iadd dX11_gauge_73 ?_
            refine ex_sipush (v := 10000) dX11_gauge_74 (by decide) ?_
            refine ex_icmp_le 83 dX11_gauge_77 (by decide) (fun h77 => ?_) (fun h77 => ?_)
            · skip
              refine ex_aload_n dX11_gauge_83 rfl ?_
              refine g_11_0 dX11_gauge_84 rfl wf_X11_11 (by first | assumption | rfl) (show Rt _ 0 0 = some 1 from rfl) ?_
              refine ex_iload_n dX11_gauge_87 rfl ?_
              refine rx_aald dX11_gauge_88 (by first | assumption | rfl) (by decide) rfl (by first | assumption | (unfold vp_in; decide)) (by first | assumption | rfl) ?_
              refine ex_iload_n dX11_gauge_89 rfl ?_
              refine rx_cV (kd := 6) dX11_gauge_90 rfl lk_X11_133 rfl (by decide) (by first | assumption | rfl) ⟨⟨rfl, rfl⟩, by decide, by decide⟩ rfl (Nat.le_of_ble_eq_true rfl) rfl (s_X6_renewR kr n0.1 n0.2) (Rv.k ?_)
              refine ex_iconst (v := 0) dX11_gauge_93 (by decide) ?_
              refine st_i4 dX11_gauge_94 (by first | exact rfl | exact trivial) ?_
              refine (lp_gau0 n0.1 n0.2 (nuG ⟨hN, h33⟩ (by omega)) vc vr kr kp lr) ?_
              refine ex_aload_n dX11_gauge_140 rfl ?_
              refine g_11_7 dX11_gauge_141 rfl wf_X11_54 (by first | assumption | rfl) (show Rt _ 0 7 = some 8 from rfl) ?_
              refine g_5_0 dX11_gauge_144 rfl wf_X11_251 (by first | assumption | rfl) (show Rt _ 8 0 = some 9 from rfl) ?_
              refine g_9_7 dX11_gauge_147 rfl wf_X11_255 (by first | assumption | rfl) ?_
              refine ex_iret dX11_gauge_150 rfl rfl ⟨rfl, Nat.le_refl _⟩ ?_
              exact ⟨(by simp only [f_X11_gauge, ↓eq_false h4, ↓eq_false h14, ↓eq_false h21, ↓eq_false h33, ↓eq_false h53, ↓h77, if_true, if_false, not_true_eq_false, not_false_eq_true]), (by simp only [f_X11_gauge, ↓eq_false h4, ↓eq_false h14, ↓eq_false h21, ↓eq_false h33, ↓eq_false h53, ↓h77, if_true, if_false, not_true_eq_false, not_false_eq_true])⟩
            · skip
              refine ex_bipush (v := (-6)) dX11_gauge_80 (by decide) ?_
              refine ex_iret dX11_gauge_82 rfl rfl ⟨rfl, Nat.le_refl _⟩ ?_
              exact ⟨(by simp only [f_X11_gauge, ↓eq_false h4, ↓eq_false h14, ↓eq_false h21, ↓eq_false h33, ↓eq_false h53, ↓h77, if_true, if_false, not_true_eq_false, not_false_eq_true]), (by simp only [f_X11_gauge, ↓eq_false h4, ↓eq_false h14, ↓eq_false h21, ↓eq_false h33, ↓eq_false h53, ↓h77, if_true, if_false, not_true_eq_false, not_false_eq_true])⟩
          · skip
            refine ex_aload_n dX11_gauge_56 rfl ?_
            refine ex_iconst (v := 2) dX11_gauge_57 (by decide) ?_
            refine rx_cV (kd := 11) dX11_gauge_58 rfl lk_X11_129 rfl (by decide) (by first | assumption | rfl) ⟨⟨rfl, rfl⟩, by decide, by decide⟩ rfl (Nat.le_of_ble_eq_true rfl) rfl (s_X11_refuse (by unfold vp_in; decide)) (Rs.k ?_)
            refine ex_iret dX11_gauge_61 rfl rfl ⟨rfl, Nat.le_refl _⟩ ?_
            exact ⟨(by simp only [f_X11_gauge, ↓eq_false h4, ↓eq_false h14, ↓eq_false h21, ↓eq_false h33, ↓eq_true h53, if_true, if_false, not_true_eq_false, not_false_eq_true]), (by simp only [f_X11_gauge, ↓eq_false h4, ↓eq_false h14, ↓eq_false h21, ↓eq_false h33, ↓eq_true h53, if_true, if_false, not_true_eq_false, not_false_eq_true])⟩
        · skip
          refine ex_bipush (v := (-4)) dX11_gauge_36 (by decide) ?_
          refine ex_iret dX11_gauge_38 rfl rfl ⟨rfl, Nat.le_refl _⟩ ?_
          exact ⟨(by simp only [f_X11_gauge, ↓eq_false h4, ↓eq_false h14, ↓eq_false h21, ↓eq_true h33, if_true, if_false, not_true_eq_false, not_false_eq_true]), (by simp only [f_X11_gauge, ↓eq_false h4, ↓eq_false h14, ↓eq_false h21, ↓eq_true h33, if_true, if_false, not_true_eq_false, not_false_eq_true])⟩
      · skip
        refine ex_iconst (v := (-1)) dX11_gauge_24 (by decide) ?_
        refine ex_iret dX11_gauge_25 rfl rfl ⟨rfl, Nat.le_refl _⟩ ?_
        exact ⟨(by simp only [f_X11_gauge, ↓eq_false h4, ↓eq_false h14, ↓eq_true h21, if_true, if_false, not_true_eq_false, not_false_eq_true]), (by simp only [f_X11_gauge, ↓eq_false h4, ↓eq_false h14, ↓eq_true h21, if_true, if_false, not_true_eq_false, not_false_eq_true])⟩
theorem mo8_m {m s : Nat} {c g : Int32} : moorI I 8 m s c g 8 2 = nI (m + 1) := by
  unfold moorI
  rw [u2_s]
theorem mo8_off {m s e : Nat} {c g : Int32} (h : e ≠ 8) (h2 : e ≠ 21 + m) : moorI I 8 m s c g e = I e := by
  unfold moorI
  rw [up2_off h, boRest_off (by omega), up2_off (by omega), up2_off (by omega), boTake_off (by omega)]
def nmN (J : Im) (k : Nat) : Im :=
  match k with
  | 0 => J
  | k + 1 => moorI (nmN J k) 8 k (144 + k) (nmN J k (144 + k) 1) (nmN J k (144 + k) 3)
termination_by k
theorem nmN_0 {J : Im} : nmN J 0 = J := by rw [nmN]
theorem nmN_s {J : Im} {k : Nat} : nmN J (k + 1) = moorI (nmN J k) 8 k (144 + k) (nmN J k (144 + k) 1) (nmN J k (144 + k) 3) := by rw [nmN]
theorem nmN_m {J : Im} (h : J 8 2 = nI 0) : ∀ k, nmN J k 8 2 = nI k := by
  intro k
  cases k with
  | zero => rw [nmN_0]; exact h
  | succ k => rw [nmN_s, mo8_m]
theorem nmN_off {J : Im} {e : Nat} (h : e ≠ 8) (h2 : e < 21 ∨ 23 < e) : ∀ k, k ≤ 3 → nmN J k e = J e := by
  intro k
  induction k with
  | zero => intro _; rw [nmN_0]
  | succ k ih => intro hk; rw [nmN_s, mo8_off h (by omega), ih (by omega)]
set_option maxRecDepth 100000 in
set_option maxHeartbeats 4000000 in
theorem lp_nig {P : Option Value → Mem → Prop} {J : Im} {x y : Int32} (h8 : J 8 2 = nI 0) (hz : ∀ q, q < 3 → J (144 + q) 0 = 0 ∨ J (144 + q) 0 = 1) (kont : Ex G mdX11_night 146 [some (.ref 0), some (.int x), some (.int y), some (.int (nI 3))] [] (mk (nmN J 3) L t) 0 0 P) : Ex G mdX11_night 104 [some (.ref 0), some (.int x), some (.int y), some (.int (nI 0))] [] (mk (nmN J 0) L t) 0 0 P := by
  refine loop_up (G := G) (d := mdX11_night) (pc := 104) (st := []) (uc := 0) (us := 0) (P := P) 3 (fun k => mk (nmN J k) L t) (fun k => [some (.ref 0), some (.int x), some (.int y), some (.int (nI k))]) ?_ ?_ 0 (Nat.zero_le _)
  · intro k hk ih
    refine ex_iload_n dX11_night_104 rfl ?_
    refine ex_iconst (v := 3) dX11_night_105 (by decide) ?_
    refine ex_icmp_ge 146 dX11_night_106 (by decide) (fun h106 => ?_) (fun h106 => ?_)
    · exact absurd h106 (nI_ge hk (by decide))
    · skip
      refine ex_aload_n dX11_night_109 rfl ?_
      refine g_11_7 dX11_night_110 rfl wf_X11_54 (by first | assumption | rfl) (show Rt _ 0 7 = some 8 from rfl) ?_
      refine ex_aload_n dX11_night_113 rfl ?_
      refine g_11_4 dX11_night_114 rfl wf_X11_35 (by first | assumption | rfl) (show Rt _ 0 4 = some 5 from rfl) ?_
      refine ex_iload_n dX11_night_117 rfl ?_
      refine rx_aald dX11_night_118 (by first | assumption | rfl) (by decide) rfl (vp_in_nI hk (by decide)) (by rw [nI_clamp (by omega)]; exact ly_shp hk) ?_
      refine ex_aload_n dX11_night_119 rfl ?_
      refine g_11_4 dX11_night_120 rfl wf_X11_35 (by first | assumption | rfl) (show Rt _ 0 4 = some 5 from rfl) ?_
      refine ex_iload_n dX11_night_123 rfl ?_
      refine rx_aald dX11_night_124 (by first | assumption | rfl) (by decide) rfl (vp_in_nI hk (by decide)) (by rw [nI_clamp (by omega)]; exact ly_shp hk) ?_
      refine g_1_1 dX11_night_125 rfl wf_X11_233 (ky_shp hk) ?_
      refine ex_aload_n dX11_night_128 rfl ?_
      refine g_11_4 dX11_night_129 rfl wf_X11_35 (by first | assumption | rfl) (show Rt _ 0 4 = some 5 from rfl) ?_
      refine ex_iload_n dX11_night_132 rfl ?_
      refine rx_aald dX11_night_133 (by first | assumption | rfl) (by decide) rfl (vp_in_nI hk (by decide)) (by rw [nI_clamp (by omega)]; exact ly_shp hk) ?_
      refine g_1_3 dX11_night_134 rfl wf_X11_239 (ky_shp hk) ?_
      refine rx_cV (kd := 5) dX11_night_137 rfl lk_X11_242 rfl (by decide) (by first | assumption | rfl) ⟨⟨rfl, rfl⟩, by decide, by decide⟩ rfl (Nat.le_of_ble_eq_true rfl) rfl (s_X5_moor (a := 8) (B := 2) rfl rfl (by decide) (nmN_m h8 k) (by omega) (ky_shp hk) (by rw [nmN_off (by omega) (by omega) k (by omega)]; exact hz k hk)) (Rv.k ?_)
      refine inc3 (v := _ + 1) dX11_night_140 (by rfl) (by first | exact rfl | exact trivial) ?_
      refine ex_goto 104 dX11_night_143 (by decide) ?_
      rw [nI_1]
      rw [nmN_s] at ih
      exact ih
  · skip
    refine ex_iload_n dX11_night_104 rfl ?_
    refine ex_iconst (v := 3) dX11_night_105 (by decide) ?_
    refine ex_icmp_ge 146 dX11_night_106 (by decide) (fun h106 => ?_) (fun h106 => ?_)
    · skip
      exact kont
    · exact absurd (by decide : nI 3 ≤ nI 3) h106
theorem lp_nig0 {P : Option Value → Mem → Prop} {J : Im} {x y : Int32} (h8 : J 8 2 = nI 0) (hz : ∀ q, q < 3 → J (144 + q) 0 = 0 ∨ J (144 + q) 0 = 1) (kont : Ex G mdX11_night 146 [some (.ref 0), some (.int x), some (.int y), none] [] (mk (nmN J 3) L t) 0 0 P) : Ex G mdX11_night 104 [some (.ref 0), some (.int x), some (.int y), some (.int 0)] [] (mk J L t) 0 0 P := by
  have h := lp_nig (G := G) (L := L) (x := x) (y := y) h8 hz (P := P) (fg3 kont)
  rw [nmN_0] at h
  exact h
theorem u80 : up2 I 8 2 0 8 2 = nI 0 := by
  rw [u2_s]
  rfl
theorem clr8 {e : Nat} (h : e ≠ 8) : up2 I 8 2 0 e = I e := up2_off h
def f_X11_night (I : Im) (k : Int32) (z : Int32) : Int32 × Im :=
  if (b2i (0 ≤ k ∧ k ≤ 3)) = 0 then
    ((-1), I)
  else
    if (b2i (0 ≤ z ∧ z ≤ 3)) = 0 then
      ((-1), I)
    else
      if (I (124 + 2 * k.toNatClampNeg) 1) = 0 then
        let I1 : Im := (f_X11_refuse I 1).2
        ((f_X11_refuse I 1).1, I1)
      else
        if (I (132 + 3 * z.toNatClampNeg) 2) = 0 then
          let I26 : Im := (f_X11_refuse I 1).2
          ((f_X11_refuse I 1).1, I26)
        else
          if (I 144 0) = 0 then
            if (I 145 0) = 0 then
              if (I 146 0) = 0 then
                let I2 : Im := up2 I 8 2 0
                let I3 : Im := nmN I2 3
                let I4 : Im := niBegin I3 8 (124 + 2 * k.toNatClampNeg) (132 + 3 * z.toNatClampNeg)
                (I4 (124 + 2 * k.toNatClampNeg) 2, I4)
              else
                if (b2i (0 ≤ (I 146 1) ∧ (I 146 1) < I (124 + 2 * k.toNatClampNeg) 2 ∧ (I 146 1) < 16)) = 0 then
                  ((-4), I)
                else
                  let I5 : Im := up2 I 8 2 0
                  let I6 : Im := nmN I5 3
                  let I7 : Im := niBegin I6 8 (124 + 2 * k.toNatClampNeg) (132 + 3 * z.toNatClampNeg)
                  (I7 (124 + 2 * k.toNatClampNeg) 2, I7)
            else
              if (b2i (0 ≤ (I 145 1) ∧ (I 145 1) < I (124 + 2 * k.toNatClampNeg) 2 ∧ (I 145 1) < 16)) = 0 then
                ((-4), I)
              else
                if (I 146 0) = 0 then
                  let I8 : Im := up2 I 8 2 0
                  let I9 : Im := nmN I8 3
                  let I10 : Im := niBegin I9 8 (124 + 2 * k.toNatClampNeg) (132 + 3 * z.toNatClampNeg)
                  (I10 (124 + 2 * k.toNatClampNeg) 2, I10)
                else
                  if (b2i (0 ≤ (I 146 1) ∧ (I 146 1) < I (124 + 2 * k.toNatClampNeg) 2 ∧ (I 146 1) < 16)) = 0 then
                    ((-4), I)
                  else
                    let I11 : Im := up2 I 8 2 0
                    let I12 : Im := nmN I11 3
                    let I13 : Im := niBegin I12 8 (124 + 2 * k.toNatClampNeg) (132 + 3 * z.toNatClampNeg)
                    (I13 (124 + 2 * k.toNatClampNeg) 2, I13)
          else
            if (b2i (0 ≤ (I 144 1) ∧ (I 144 1) < I (124 + 2 * k.toNatClampNeg) 2 ∧ (I 144 1) < 16)) = 0 then
              ((-4), I)
            else
              if (I 145 0) = 0 then
                if (I 146 0) = 0 then
                  let I14 : Im := up2 I 8 2 0
                  let I15 : Im := nmN I14 3
                  let I16 : Im := niBegin I15 8 (124 + 2 * k.toNatClampNeg) (132 + 3 * z.toNatClampNeg)
                  (I16 (124 + 2 * k.toNatClampNeg) 2, I16)
                else
                  if (b2i (0 ≤ (I 146 1) ∧ (I 146 1) < I (124 + 2 * k.toNatClampNeg) 2 ∧ (I 146 1) < 16)) = 0 then
                    ((-4), I)
                  else
                    let I17 : Im := up2 I 8 2 0
                    let I18 : Im := nmN I17 3
                    let I19 : Im := niBegin I18 8 (124 + 2 * k.toNatClampNeg) (132 + 3 * z.toNatClampNeg)
                    (I19 (124 + 2 * k.toNatClampNeg) 2, I19)
              else
                if (b2i (0 ≤ (I 145 1) ∧ (I 145 1) < I (124 + 2 * k.toNatClampNeg) 2 ∧ (I 145 1) < 16)) = 0 then
                  ((-4), I)
                else
                  if (I 146 0) = 0 then
                    let I20 : Im := up2 I 8 2 0
                    let I21 : Im := nmN I20 3
                    let I22 : Im := niBegin I21 8 (124 + 2 * k.toNatClampNeg) (132 + 3 * z.toNatClampNeg)
                    (I22 (124 + 2 * k.toNatClampNeg) 2, I22)
                  else
                    if (b2i (0 ≤ (I 146 1) ∧ (I 146 1) < I (124 + 2 * k.toNatClampNeg) 2 ∧ (I 146 1) < 16)) = 0 then
                      ((-4), I)
                    else
                      let I23 : Im := up2 I 8 2 0
                      let I24 : Im := nmN I23 3
                      let I25 : Im := niBegin I24 8 (124 + 2 * k.toNatClampNeg) (132 + 3 * z.toNatClampNeg)
                      (I25 (124 + 2 * k.toNatClampNeg) 2, I25)
set_option maxRecDepth 100000 in
set_option maxHeartbeats 4000000 in
theorem s_X11_night  {k : Int32} {z : Int32} (hHar : HarS I) (hSea : SeaS I) (hShp : ShpS I) : Ca G mdX11_night [.ref 0, .int k, .int z] (mk I L t) (Rs (.int (f_X11_night I k z).1) (mk ((f_X11_night I k z).2) L t)) := by
  refine Ca.intro [some (.ref 0), some (.int k), some (.int z), none] (by decide) (Nat.le_of_ble_eq_true rfl) rfl rfl ?_
  refine ex_iload_n dX11_night_0 rfl ?_
  refine rx_cS dX11_night_1 rfl lk_X11_181 ⟨⟨rfl, rfl⟩, by decide, by decide⟩ rfl (Nat.le_of_ble_eq_true rfl) rfl s_X11_isHarbour (Rs.k ?_)
  refine ex_if_eq 14 dX11_night_4 (by decide) (fun h4 => ?_) (fun h4 => ?_)
  · skip
    refine ex_iconst (v := (-1)) dX11_night_14 (by decide) ?_
    refine ex_iret dX11_night_15 rfl rfl ⟨rfl, Nat.le_refl _⟩ ?_
    exact ⟨(by simp only [f_X11_night, ↓eq_true h4, if_true, if_false, not_true_eq_false, not_false_eq_true]), (by simp only [f_X11_night, ↓eq_true h4, if_true, if_false, not_true_eq_false, not_false_eq_true])⟩
  · have qk := (cl_lt (N := 4) (by decide) h4).1
    have vk := (cl_lt (N := 4) (by decide) h4).2
    have kk := ky_har qk
    have lk := ly_har (t := t) qk
    refine ex_iload_n dX11_night_7 rfl ?_
    refine rx_cS dX11_night_8 rfl lk_X11_194 ⟨⟨rfl, rfl⟩, by decide, by decide⟩ rfl (Nat.le_of_ble_eq_true rfl) rfl s_X11_isSea (Rs.k ?_)
    refine ex_if_ne 16 dX11_night_11 (by decide) (fun h11 => ?_) (fun h11 => ?_)
    · have qz := (cl_lt (N := 4) (by decide) h11).1
      have vz := (cl_lt (N := 4) (by decide) h11).2
      have kz := ky_sea qz
      have lz := ly_sea (t := t) qz
      refine ex_aload_n dX11_night_16 rfl ?_
      refine g_11_2 dX11_night_17 rfl wf_X11_23 (by first | assumption | rfl) (show Rt _ 0 2 = some 3 from rfl) ?_
      refine ex_iload_n dX11_night_20 rfl ?_
      refine rx_aald dX11_night_21 (by first | assumption | rfl) (by decide) rfl (by first | assumption | (unfold vp_in; decide)) (by first | assumption | rfl) ?_
      refine g_0_1 dX11_night_22 rfl wf_X11_206 (by first | assumption | rfl) ?_
      refine ex_if_eq 40 dX11_night_25 (by decide) (fun h25 => ?_) (fun h25 => ?_)
      · skip
        refine ex_aload_n dX11_night_40 rfl ?_
        refine ex_iconst (v := 1) dX11_night_41 (by decide) ?_
        refine rx_cV (kd := 11) dX11_night_42 rfl lk_X11_129 rfl (by decide) (by first | assumption | rfl) ⟨⟨rfl, rfl⟩, by decide, by decide⟩ rfl (Nat.le_of_ble_eq_true rfl) rfl (s_X11_refuse (by unfold vp_in; decide)) (Rs.k ?_)
        refine ex_iret dX11_night_45 rfl rfl ⟨rfl, Nat.le_refl _⟩ ?_
        exact ⟨(by simp only [f_X11_night, ↓eq_false h4, ↓eq_false h11, ↓eq_true h25, if_true, if_false, not_true_eq_false, not_false_eq_true]), (by simp only [f_X11_night, ↓eq_false h4, ↓eq_false h11, ↓eq_true h25, if_true, if_false, not_true_eq_false, not_false_eq_true])⟩
      · skip
        refine ex_aload_n dX11_night_28 rfl ?_
        refine g_11_3 dX11_night_29 rfl wf_X11_29 (by first | assumption | rfl) (show Rt _ 0 3 = some 4 from rfl) ?_
        refine ex_iload_n dX11_night_32 rfl ?_
        refine rx_aald dX11_night_33 (by first | assumption | rfl) (by decide) rfl (by first | assumption | (unfold vp_in; decide)) (by first | assumption | rfl) ?_
        refine g_8_2 dX11_night_34 rfl wf_X11_121 (by first | assumption | rfl) ?_
        refine ex_if_ne 46 dX11_night_37 (by decide) (fun h37 => ?_) (fun h37 => ?_)
        · have hb := BOk_h hHar qk h25
          have hs := SOk_s hSea qz
          refine ex_iconst (v := 0) dX11_night_46 (by decide) ?_
          refine st_i3 dX11_night_47 (by first | exact rfl | exact trivial) ?_
          refine ex_iload_n dX11_night_48 rfl ?_
          refine ex_iconst (v := 3) dX11_night_49 (by decide) ?_
          refine ex_icmp_ge 95 dX11_night_50 (by decide) (fun h50 => ?_) (fun h50 => ?_)
          · exact absurd h50 (by decide)
          · skip
            refine ex_aload_n dX11_night_53 rfl ?_
            refine g_11_4 dX11_night_54 rfl wf_X11_35 (by first | assumption | rfl) (show Rt _ 0 4 = some 5 from rfl) ?_
            refine ex_iload_n dX11_night_57 rfl ?_
            refine rx_aald dX11_night_58 (by first | assumption | rfl) (by decide) rfl (by unfold vp_in; decide) (show Rt _ 5 _ = some 144 from rfl) ?_
            refine g_1_0 dX11_night_59 rfl wf_X11_232 (by first | assumption | rfl) ?_
            refine ex_if_eq 89 dX11_night_62 (by decide) (fun h62 => ?_) (fun h62 => ?_)
            · skip
              refine inc3 (v := _ + 1) dX11_night_89 (by rfl) (by first | exact rfl | exact trivial) ?_
              refine ex_goto 48 dX11_night_92 (by decide) ?_
              refine ex_iload_n dX11_night_48 rfl ?_
              refine ex_iconst (v := 3) dX11_night_49 (by decide) ?_
              refine ex_icmp_ge 95 dX11_night_50 (by decide) (fun h50_1 => ?_) (fun h50_1 => ?_)
              · exact absurd h50_1 (by decide)
              · skip
                refine ex_aload_n dX11_night_53 rfl ?_
                refine g_11_4 dX11_night_54 rfl wf_X11_35 (by first | assumption | rfl) (show Rt _ 0 4 = some 5 from rfl) ?_
                refine ex_iload_n dX11_night_57 rfl ?_
                refine rx_aald dX11_night_58 (by first | assumption | rfl) (by decide) rfl (by unfold vp_in; decide) (show Rt _ 5 _ = some 145 from rfl) ?_
                refine g_1_0 dX11_night_59 rfl wf_X11_232 (by first | assumption | rfl) ?_
                refine ex_if_eq 89 dX11_night_62 (by decide) (fun h62_1 => ?_) (fun h62_1 => ?_)
                · skip
                  refine inc3 (v := _ + 1) dX11_night_89 (by rfl) (by first | exact rfl | exact trivial) ?_
                  refine ex_goto 48 dX11_night_92 (by decide) ?_
                  refine ex_iload_n dX11_night_48 rfl ?_
                  refine ex_iconst (v := 3) dX11_night_49 (by decide) ?_
                  refine ex_icmp_ge 95 dX11_night_50 (by decide) (fun h50_2 => ?_) (fun h50_2 => ?_)
                  · exact absurd h50_2 (by decide)
                  · skip
                    refine ex_aload_n dX11_night_53 rfl ?_
                    refine g_11_4 dX11_night_54 rfl wf_X11_35 (by first | assumption | rfl) (show Rt _ 0 4 = some 5 from rfl) ?_
                    refine ex_iload_n dX11_night_57 rfl ?_
                    refine rx_aald dX11_night_58 (by first | assumption | rfl) (by decide) rfl (by unfold vp_in; decide) (show Rt _ 5 _ = some 146 from rfl) ?_
                    refine g_1_0 dX11_night_59 rfl wf_X11_232 (by first | assumption | rfl) ?_
                    refine ex_if_eq 89 dX11_night_62 (by decide) (fun h62_2 => ?_) (fun h62_2 => ?_)
                    · skip
                      refine inc3 (v := _ + 1) dX11_night_89 (by rfl) (by first | exact rfl | exact trivial) ?_
                      refine ex_goto 48 dX11_night_92 (by decide) ?_
                      refine ex_iload_n dX11_night_48 rfl ?_
                      refine ex_iconst (v := 3) dX11_night_49 (by decide) ?_
                      refine ex_icmp_ge 95 dX11_night_50 (by decide) (fun h50_3 => ?_) (fun h50_3 => ?_)
                      · skip
                        refine ex_aload_n dX11_night_95 rfl ?_
                        refine g_11_7 dX11_night_96 rfl wf_X11_54 (by first | assumption | rfl) (show Rt _ 0 7 = some 8 from rfl) ?_
                        refine rx_cV (kd := 5) dX11_night_99 rfl lk_X11_236 rfl (by decide) (by first | assumption | rfl) ⟨⟨rfl, rfl⟩, by decide, by decide⟩ rfl (Nat.le_of_ble_eq_true rfl) rfl (s_X5_clear (a := 8) rfl) (Rv.k ?_)
                        refine ex_iconst (v := 0) dX11_night_102 (by decide) ?_
                        refine st_i3 dX11_night_103 (by first | exact rfl | exact trivial) ?_
                        refine (lp_nig0 u80 (fun q hq => by rw [clr8 (by omega)]; exact hShp q hq)) ?_
                        refine ex_aload_n dX11_night_146 rfl ?_
                        refine g_11_7 dX11_night_147 rfl wf_X11_54 (by first | assumption | rfl) (show Rt _ 0 7 = some 8 from rfl) ?_
                        refine ex_aload_n dX11_night_150 rfl ?_
                        refine g_11_2 dX11_night_151 rfl wf_X11_23 (by first | assumption | rfl) (show Rt _ 0 2 = some 3 from rfl) ?_
                        refine ex_iload_n dX11_night_154 rfl ?_
                        refine rx_aald dX11_night_155 (by first | assumption | rfl) (by decide) rfl (by first | assumption | (unfold vp_in; decide)) (by first | assumption | rfl) ?_
                        refine ex_aload_n dX11_night_156 rfl ?_
                        refine g_11_3 dX11_night_157 rfl wf_X11_29 (by first | assumption | rfl) (show Rt _ 0 3 = some 4 from rfl) ?_
                        refine ex_iload_n dX11_night_160 rfl ?_
                        refine rx_aald dX11_night_161 (by first | assumption | rfl) (by decide) rfl (by first | assumption | (unfold vp_in; decide)) (by first | assumption | rfl) ?_
                        refine rx_cV (kd := 5) dX11_night_162 rfl lk_X11_246 rfl (by decide) (by first | assumption | rfl) ⟨⟨rfl, rfl⟩, by decide, by decide⟩ rfl (Nat.le_of_ble_eq_true rfl) rfl (s_X5_begin (a := 8) rfl kk kz (by rw [nmN_off (by omega) (by omega) 3 (by decide), clr8 (by omega)]; exact hb.2.2.1) (by rw [nmN_off (by omega) (by omega) 3 (by decide), clr8 (by omega)]; exact hs.2.2.1)) (Rv.k ?_)
                        refine ex_aload_n dX11_night_165 rfl ?_
                        refine g_11_2 dX11_night_166 rfl wf_X11_23 (by first | assumption | rfl) (show Rt _ 0 2 = some 3 from rfl) ?_
                        refine ex_iload_n dX11_night_169 rfl ?_
                        refine rx_aald dX11_night_170 (by first | assumption | rfl) (by decide) rfl (by first | assumption | (unfold vp_in; decide)) (by first | assumption | rfl) ?_
                        refine g_0_2 dX11_night_171 rfl wf_X11_191 (by first | assumption | rfl) ?_
                        refine ex_iret dX11_night_174 rfl rfl ⟨rfl, Nat.le_refl _⟩ ?_
                        exact ⟨(by simp only [f_X11_night, ↓eq_false h4, ↓eq_false h11, ↓eq_false h25, ↓eq_false h37, ↓eq_true h62, ↓eq_true h62_1, ↓eq_true h62_2, if_true, if_false, not_true_eq_false, not_false_eq_true]), (by simp only [f_X11_night, ↓eq_false h4, ↓eq_false h11, ↓eq_false h25, ↓eq_false h37, ↓eq_true h62, ↓eq_true h62_1, ↓eq_true h62_2, if_true, if_false, not_true_eq_false, not_false_eq_true])⟩
                      · exact absurd h50_3 (by decide)
                    · skip
                      refine ex_aload_n dX11_night_65 rfl ?_
                      refine g_11_2 dX11_night_66 rfl wf_X11_23 (by first | assumption | rfl) (show Rt _ 0 2 = some 3 from rfl) ?_
                      refine ex_iload_n dX11_night_69 rfl ?_
                      refine rx_aald dX11_night_70 (by first | assumption | rfl) (by decide) rfl (by first | assumption | (unfold vp_in; decide)) (by first | assumption | rfl) ?_
                      refine ex_aload_n dX11_night_71 rfl ?_
                      refine g_11_4 dX11_night_72 rfl wf_X11_35 (by first | assumption | rfl) (show Rt _ 0 4 = some 5 from rfl) ?_
                      refine ex_iload_n dX11_night_75 rfl ?_
                      refine rx_aald dX11_night_76 (by first | assumption | rfl) (by decide) rfl (by unfold vp_in; decide) (show Rt _ 5 _ = some 146 from rfl) ?_
                      refine g_1_1 dX11_night_77 rfl wf_X11_233 (by first | assumption | rfl) ?_
                      refine rx_cV (kd := 0) dX11_night_80 rfl lk_X11_207 rfl (by decide) (by first | assumption | rfl) ⟨⟨rfl, rfl⟩, by decide, by decide⟩ rfl (Nat.le_of_ble_eq_true rfl) rfl (s_X0_hasCell kk) (Rs.k ?_)
                      refine ex_if_ne 89 dX11_night_83 (by decide) (fun h83 => ?_) (fun h83 => ?_)
                      · skip
                        refine inc3 (v := _ + 1) dX11_night_89 (by rfl) (by first | exact rfl | exact trivial) ?_
                        refine ex_goto 48 dX11_night_92 (by decide) ?_
                        refine ex_iload_n dX11_night_48 rfl ?_
                        refine ex_iconst (v := 3) dX11_night_49 (by decide) ?_
                        refine ex_icmp_ge 95 dX11_night_50 (by decide) (fun h50_3 => ?_) (fun h50_3 => ?_)
                        · skip
                          refine ex_aload_n dX11_night_95 rfl ?_
                          refine g_11_7 dX11_night_96 rfl wf_X11_54 (by first | assumption | rfl) (show Rt _ 0 7 = some 8 from rfl) ?_
                          refine rx_cV (kd := 5) dX11_night_99 rfl lk_X11_236 rfl (by decide) (by first | assumption | rfl) ⟨⟨rfl, rfl⟩, by decide, by decide⟩ rfl (Nat.le_of_ble_eq_true rfl) rfl (s_X5_clear (a := 8) rfl) (Rv.k ?_)
                          refine ex_iconst (v := 0) dX11_night_102 (by decide) ?_
                          refine st_i3 dX11_night_103 (by first | exact rfl | exact trivial) ?_
                          refine (lp_nig0 u80 (fun q hq => by rw [clr8 (by omega)]; exact hShp q hq)) ?_
                          refine ex_aload_n dX11_night_146 rfl ?_
                          refine g_11_7 dX11_night_147 rfl wf_X11_54 (by first | assumption | rfl) (show Rt _ 0 7 = some 8 from rfl) ?_
                          refine ex_aload_n dX11_night_150 rfl ?_
                          refine g_11_2 dX11_night_151 rfl wf_X11_23 (by first | assumption | rfl) (show Rt _ 0 2 = some 3 from rfl) ?_
                          refine ex_iload_n dX11_night_154 rfl ?_
                          refine rx_aald dX11_night_155 (by first | assumption | rfl) (by decide) rfl (by first | assumption | (unfold vp_in; decide)) (by first | assumption | rfl) ?_
                          refine ex_aload_n dX11_night_156 rfl ?_
                          refine g_11_3 dX11_night_157 rfl wf_X11_29 (by first | assumption | rfl) (show Rt _ 0 3 = some 4 from rfl) ?_
                          refine ex_iload_n dX11_night_160 rfl ?_
                          refine rx_aald dX11_night_161 (by first | assumption | rfl) (by decide) rfl (by first | assumption | (unfold vp_in; decide)) (by first | assumption | rfl) ?_
                          refine rx_cV (kd := 5) dX11_night_162 rfl lk_X11_246 rfl (by decide) (by first | assumption | rfl) ⟨⟨rfl, rfl⟩, by decide, by decide⟩ rfl (Nat.le_of_ble_eq_true rfl) rfl (s_X5_begin (a := 8) rfl kk kz (by rw [nmN_off (by omega) (by omega) 3 (by decide), clr8 (by omega)]; exact hb.2.2.1) (by rw [nmN_off (by omega) (by omega) 3 (by decide), clr8 (by omega)]; exact hs.2.2.1)) (Rv.k ?_)
                          refine ex_aload_n dX11_night_165 rfl ?_
                          refine g_11_2 dX11_night_166 rfl wf_X11_23 (by first | assumption | rfl) (show Rt _ 0 2 = some 3 from rfl) ?_
                          refine ex_iload_n dX11_night_169 rfl ?_
                          refine rx_aald dX11_night_170 (by first | assumption | rfl) (by decide) rfl (by first | assumption | (unfold vp_in; decide)) (by first | assumption | rfl) ?_
                          refine g_0_2 dX11_night_171 rfl wf_X11_191 (by first | assumption | rfl) ?_
                          refine ex_iret dX11_night_174 rfl rfl ⟨rfl, Nat.le_refl _⟩ ?_
                          exact ⟨(by simp only [f_X11_night, ↓eq_false h4, ↓eq_false h11, ↓eq_false h25, ↓eq_false h37, ↓eq_true h62, ↓eq_true h62_1, ↓eq_false h62_2, ↓eq_false h83, if_true, if_false, not_true_eq_false, not_false_eq_true]), (by simp only [f_X11_night, ↓eq_false h4, ↓eq_false h11, ↓eq_false h25, ↓eq_false h37, ↓eq_true h62, ↓eq_true h62_1, ↓eq_false h62_2, ↓eq_false h83, if_true, if_false, not_true_eq_false, not_false_eq_true])⟩
                        · exact absurd h50_3 (by decide)
                      · skip
                        refine ex_bipush (v := (-4)) dX11_night_86 (by decide) ?_
                        refine ex_iret dX11_night_88 rfl rfl ⟨rfl, Nat.le_refl _⟩ ?_
                        exact ⟨(by simp only [f_X11_night, ↓eq_false h4, ↓eq_false h11, ↓eq_false h25, ↓eq_false h37, ↓eq_true h62, ↓eq_true h62_1, ↓eq_false h62_2, ↓eq_true h83, if_true, if_false, not_true_eq_false, not_false_eq_true]), (by simp only [f_X11_night, ↓eq_false h4, ↓eq_false h11, ↓eq_false h25, ↓eq_false h37, ↓eq_true h62, ↓eq_true h62_1, ↓eq_false h62_2, ↓eq_true h83, if_true, if_false, not_true_eq_false, not_false_eq_true])⟩
                · skip
                  refine ex_aload_n dX11_night_65 rfl ?_
                  refine g_11_2 dX11_night_66 rfl wf_X11_23 (by first | assumption | rfl) (show Rt _ 0 2 = some 3 from rfl) ?_
                  refine ex_iload_n dX11_night_69 rfl ?_
                  refine rx_aald dX11_night_70 (by first | assumption | rfl) (by decide) rfl (by first | assumption | (unfold vp_in; decide)) (by first | assumption | rfl) ?_
                  refine ex_aload_n dX11_night_71 rfl ?_
                  refine g_11_4 dX11_night_72 rfl wf_X11_35 (by first | assumption | rfl) (show Rt _ 0 4 = some 5 from rfl) ?_
                  refine ex_iload_n dX11_night_75 rfl ?_
                  refine rx_aald dX11_night_76 (by first | assumption | rfl) (by decide) rfl (by unfold vp_in; decide) (show Rt _ 5 _ = some 145 from rfl) ?_
                  refine g_1_1 dX11_night_77 rfl wf_X11_233 (by first | assumption | rfl) ?_
                  refine rx_cV (kd := 0) dX11_night_80 rfl lk_X11_207 rfl (by decide) (by first | assumption | rfl) ⟨⟨rfl, rfl⟩, by decide, by decide⟩ rfl (Nat.le_of_ble_eq_true rfl) rfl (s_X0_hasCell kk) (Rs.k ?_)
                  refine ex_if_ne 89 dX11_night_83 (by decide) (fun h83 => ?_) (fun h83 => ?_)
                  · skip
                    refine inc3 (v := _ + 1) dX11_night_89 (by rfl) (by first | exact rfl | exact trivial) ?_
                    refine ex_goto 48 dX11_night_92 (by decide) ?_
                    refine ex_iload_n dX11_night_48 rfl ?_
                    refine ex_iconst (v := 3) dX11_night_49 (by decide) ?_
                    refine ex_icmp_ge 95 dX11_night_50 (by decide) (fun h50_2 => ?_) (fun h50_2 => ?_)
                    · exact absurd h50_2 (by decide)
                    · skip
                      refine ex_aload_n dX11_night_53 rfl ?_
                      refine g_11_4 dX11_night_54 rfl wf_X11_35 (by first | assumption | rfl) (show Rt _ 0 4 = some 5 from rfl) ?_
                      refine ex_iload_n dX11_night_57 rfl ?_
                      refine rx_aald dX11_night_58 (by first | assumption | rfl) (by decide) rfl (by unfold vp_in; decide) (show Rt _ 5 _ = some 146 from rfl) ?_
                      refine g_1_0 dX11_night_59 rfl wf_X11_232 (by first | assumption | rfl) ?_
                      refine ex_if_eq 89 dX11_night_62 (by decide) (fun h62_2 => ?_) (fun h62_2 => ?_)
                      · skip
                        refine inc3 (v := _ + 1) dX11_night_89 (by rfl) (by first | exact rfl | exact trivial) ?_
                        refine ex_goto 48 dX11_night_92 (by decide) ?_
                        refine ex_iload_n dX11_night_48 rfl ?_
                        refine ex_iconst (v := 3) dX11_night_49 (by decide) ?_
                        refine ex_icmp_ge 95 dX11_night_50 (by decide) (fun h50_3 => ?_) (fun h50_3 => ?_)
                        · skip
                          refine ex_aload_n dX11_night_95 rfl ?_
                          refine g_11_7 dX11_night_96 rfl wf_X11_54 (by first | assumption | rfl) (show Rt _ 0 7 = some 8 from rfl) ?_
                          refine rx_cV (kd := 5) dX11_night_99 rfl lk_X11_236 rfl (by decide) (by first | assumption | rfl) ⟨⟨rfl, rfl⟩, by decide, by decide⟩ rfl (Nat.le_of_ble_eq_true rfl) rfl (s_X5_clear (a := 8) rfl) (Rv.k ?_)
                          refine ex_iconst (v := 0) dX11_night_102 (by decide) ?_
                          refine st_i3 dX11_night_103 (by first | exact rfl | exact trivial) ?_
                          refine (lp_nig0 u80 (fun q hq => by rw [clr8 (by omega)]; exact hShp q hq)) ?_
                          refine ex_aload_n dX11_night_146 rfl ?_
                          refine g_11_7 dX11_night_147 rfl wf_X11_54 (by first | assumption | rfl) (show Rt _ 0 7 = some 8 from rfl) ?_
                          refine ex_aload_n dX11_night_150 rfl ?_
                          refine g_11_2 dX11_night_151 rfl wf_X11_23 (by first | assumption | rfl) (show Rt _ 0 2 = some 3 from rfl) ?_
                          refine ex_iload_n dX11_night_154 rfl ?_
                          refine rx_aald dX11_night_155 (by first | assumption | rfl) (by decide) rfl (by first | assumption | (unfold vp_in; decide)) (by first | assumption | rfl) ?_
                          refine ex_aload_n dX11_night_156 rfl ?_
                          refine g_11_3 dX11_night_157 rfl wf_X11_29 (by first | assumption | rfl) (show Rt _ 0 3 = some 4 from rfl) ?_
                          refine ex_iload_n dX11_night_160 rfl ?_
                          refine rx_aald dX11_night_161 (by first | assumption | rfl) (by decide) rfl (by first | assumption | (unfold vp_in; decide)) (by first | assumption | rfl) ?_
                          refine rx_cV (kd := 5) dX11_night_162 rfl lk_X11_246 rfl (by decide) (by first | assumption | rfl) ⟨⟨rfl, rfl⟩, by decide, by decide⟩ rfl (Nat.le_of_ble_eq_true rfl) rfl (s_X5_begin (a := 8) rfl kk kz (by rw [nmN_off (by omega) (by omega) 3 (by decide), clr8 (by omega)]; exact hb.2.2.1) (by rw [nmN_off (by omega) (by omega) 3 (by decide), clr8 (by omega)]; exact hs.2.2.1)) (Rv.k ?_)
                          refine ex_aload_n dX11_night_165 rfl ?_
                          refine g_11_2 dX11_night_166 rfl wf_X11_23 (by first | assumption | rfl) (show Rt _ 0 2 = some 3 from rfl) ?_
                          refine ex_iload_n dX11_night_169 rfl ?_
                          refine rx_aald dX11_night_170 (by first | assumption | rfl) (by decide) rfl (by first | assumption | (unfold vp_in; decide)) (by first | assumption | rfl) ?_
                          refine g_0_2 dX11_night_171 rfl wf_X11_191 (by first | assumption | rfl) ?_
                          refine ex_iret dX11_night_174 rfl rfl ⟨rfl, Nat.le_refl _⟩ ?_
                          exact ⟨(by simp only [f_X11_night, ↓eq_false h4, ↓eq_false h11, ↓eq_false h25, ↓eq_false h37, ↓eq_true h62, ↓eq_false h62_1, ↓eq_false h83, ↓eq_true h62_2, if_true, if_false, not_true_eq_false, not_false_eq_true]), (by simp only [f_X11_night, ↓eq_false h4, ↓eq_false h11, ↓eq_false h25, ↓eq_false h37, ↓eq_true h62, ↓eq_false h62_1, ↓eq_false h83, ↓eq_true h62_2, if_true, if_false, not_true_eq_false, not_false_eq_true])⟩
                        · exact absurd h50_3 (by decide)
                      · skip
                        refine ex_aload_n dX11_night_65 rfl ?_
                        refine g_11_2 dX11_night_66 rfl wf_X11_23 (by first | assumption | rfl) (show Rt _ 0 2 = some 3 from rfl) ?_
                        refine ex_iload_n dX11_night_69 rfl ?_
                        refine rx_aald dX11_night_70 (by first | assumption | rfl) (by decide) rfl (by first | assumption | (unfold vp_in; decide)) (by first | assumption | rfl) ?_
                        refine ex_aload_n dX11_night_71 rfl ?_
                        refine g_11_4 dX11_night_72 rfl wf_X11_35 (by first | assumption | rfl) (show Rt _ 0 4 = some 5 from rfl) ?_
                        refine ex_iload_n dX11_night_75 rfl ?_
                        refine rx_aald dX11_night_76 (by first | assumption | rfl) (by decide) rfl (by unfold vp_in; decide) (show Rt _ 5 _ = some 146 from rfl) ?_
                        refine g_1_1 dX11_night_77 rfl wf_X11_233 (by first | assumption | rfl) ?_
                        refine rx_cV (kd := 0) dX11_night_80 rfl lk_X11_207 rfl (by decide) (by first | assumption | rfl) ⟨⟨rfl, rfl⟩, by decide, by decide⟩ rfl (Nat.le_of_ble_eq_true rfl) rfl (s_X0_hasCell kk) (Rs.k ?_)
                        refine ex_if_ne 89 dX11_night_83 (by decide) (fun h83_1 => ?_) (fun h83_1 => ?_)
                        · skip
                          refine inc3 (v := _ + 1) dX11_night_89 (by rfl) (by first | exact rfl | exact trivial) ?_
                          refine ex_goto 48 dX11_night_92 (by decide) ?_
                          refine ex_iload_n dX11_night_48 rfl ?_
                          refine ex_iconst (v := 3) dX11_night_49 (by decide) ?_
                          refine ex_icmp_ge 95 dX11_night_50 (by decide) (fun h50_3 => ?_) (fun h50_3 => ?_)
                          · skip
                            refine ex_aload_n dX11_night_95 rfl ?_
                            refine g_11_7 dX11_night_96 rfl wf_X11_54 (by first | assumption | rfl) (show Rt _ 0 7 = some 8 from rfl) ?_
                            refine rx_cV (kd := 5) dX11_night_99 rfl lk_X11_236 rfl (by decide) (by first | assumption | rfl) ⟨⟨rfl, rfl⟩, by decide, by decide⟩ rfl (Nat.le_of_ble_eq_true rfl) rfl (s_X5_clear (a := 8) rfl) (Rv.k ?_)
                            refine ex_iconst (v := 0) dX11_night_102 (by decide) ?_
                            refine st_i3 dX11_night_103 (by first | exact rfl | exact trivial) ?_
                            refine (lp_nig0 u80 (fun q hq => by rw [clr8 (by omega)]; exact hShp q hq)) ?_
                            refine ex_aload_n dX11_night_146 rfl ?_
                            refine g_11_7 dX11_night_147 rfl wf_X11_54 (by first | assumption | rfl) (show Rt _ 0 7 = some 8 from rfl) ?_
                            refine ex_aload_n dX11_night_150 rfl ?_
                            refine g_11_2 dX11_night_151 rfl wf_X11_23 (by first | assumption | rfl) (show Rt _ 0 2 = some 3 from rfl) ?_
                            refine ex_iload_n dX11_night_154 rfl ?_
                            refine rx_aald dX11_night_155 (by first | assumption | rfl) (by decide) rfl (by first | assumption | (unfold vp_in; decide)) (by first | assumption | rfl) ?_
                            refine ex_aload_n dX11_night_156 rfl ?_
                            refine g_11_3 dX11_night_157 rfl wf_X11_29 (by first | assumption | rfl) (show Rt _ 0 3 = some 4 from rfl) ?_
                            refine ex_iload_n dX11_night_160 rfl ?_
                            refine rx_aald dX11_night_161 (by first | assumption | rfl) (by decide) rfl (by first | assumption | (unfold vp_in; decide)) (by first | assumption | rfl) ?_
                            refine rx_cV (kd := 5) dX11_night_162 rfl lk_X11_246 rfl (by decide) (by first | assumption | rfl) ⟨⟨rfl, rfl⟩, by decide, by decide⟩ rfl (Nat.le_of_ble_eq_true rfl) rfl (s_X5_begin (a := 8) rfl kk kz (by rw [nmN_off (by omega) (by omega) 3 (by decide), clr8 (by omega)]; exact hb.2.2.1) (by rw [nmN_off (by omega) (by omega) 3 (by decide), clr8 (by omega)]; exact hs.2.2.1)) (Rv.k ?_)
                            refine ex_aload_n dX11_night_165 rfl ?_
                            refine g_11_2 dX11_night_166 rfl wf_X11_23 (by first | assumption | rfl) (show Rt _ 0 2 = some 3 from rfl) ?_
                            refine ex_iload_n dX11_night_169 rfl ?_
                            refine rx_aald dX11_night_170 (by first | assumption | rfl) (by decide) rfl (by first | assumption | (unfold vp_in; decide)) (by first | assumption | rfl) ?_
                            refine g_0_2 dX11_night_171 rfl wf_X11_191 (by first | assumption | rfl) ?_
                            refine ex_iret dX11_night_174 rfl rfl ⟨rfl, Nat.le_refl _⟩ ?_
                            exact ⟨(by simp only [f_X11_night, ↓eq_false h4, ↓eq_false h11, ↓eq_false h25, ↓eq_false h37, ↓eq_true h62, ↓eq_false h62_1, ↓eq_false h83, ↓eq_false h62_2, ↓eq_false h83_1, if_true, if_false, not_true_eq_false, not_false_eq_true]), (by simp only [f_X11_night, ↓eq_false h4, ↓eq_false h11, ↓eq_false h25, ↓eq_false h37, ↓eq_true h62, ↓eq_false h62_1, ↓eq_false h83, ↓eq_false h62_2, ↓eq_false h83_1, if_true, if_false, not_true_eq_false, not_false_eq_true])⟩
                          · exact absurd h50_3 (by decide)
                        · skip
                          refine ex_bipush (v := (-4)) dX11_night_86 (by decide) ?_
                          refine ex_iret dX11_night_88 rfl rfl ⟨rfl, Nat.le_refl _⟩ ?_
                          exact ⟨(by simp only [f_X11_night, ↓eq_false h4, ↓eq_false h11, ↓eq_false h25, ↓eq_false h37, ↓eq_true h62, ↓eq_false h62_1, ↓eq_false h83, ↓eq_false h62_2, ↓eq_true h83_1, if_true, if_false, not_true_eq_false, not_false_eq_true]), (by simp only [f_X11_night, ↓eq_false h4, ↓eq_false h11, ↓eq_false h25, ↓eq_false h37, ↓eq_true h62, ↓eq_false h62_1, ↓eq_false h83, ↓eq_false h62_2, ↓eq_true h83_1, if_true, if_false, not_true_eq_false, not_false_eq_true])⟩
                  · skip
                    refine ex_bipush (v := (-4)) dX11_night_86 (by decide) ?_
                    refine ex_iret dX11_night_88 rfl rfl ⟨rfl, Nat.le_refl _⟩ ?_
                    exact ⟨(by simp only [f_X11_night, ↓eq_false h4, ↓eq_false h11, ↓eq_false h25, ↓eq_false h37, ↓eq_true h62, ↓eq_false h62_1, ↓eq_true h83, if_true, if_false, not_true_eq_false, not_false_eq_true]), (by simp only [f_X11_night, ↓eq_false h4, ↓eq_false h11, ↓eq_false h25, ↓eq_false h37, ↓eq_true h62, ↓eq_false h62_1, ↓eq_true h83, if_true, if_false, not_true_eq_false, not_false_eq_true])⟩
            · skip
              refine ex_aload_n dX11_night_65 rfl ?_
              refine g_11_2 dX11_night_66 rfl wf_X11_23 (by first | assumption | rfl) (show Rt _ 0 2 = some 3 from rfl) ?_
              refine ex_iload_n dX11_night_69 rfl ?_
              refine rx_aald dX11_night_70 (by first | assumption | rfl) (by decide) rfl (by first | assumption | (unfold vp_in; decide)) (by first | assumption | rfl) ?_
              refine ex_aload_n dX11_night_71 rfl ?_
              refine g_11_4 dX11_night_72 rfl wf_X11_35 (by first | assumption | rfl) (show Rt _ 0 4 = some 5 from rfl) ?_
              refine ex_iload_n dX11_night_75 rfl ?_
              refine rx_aald dX11_night_76 (by first | assumption | rfl) (by decide) rfl (by unfold vp_in; decide) (show Rt _ 5 _ = some 144 from rfl) ?_
              refine g_1_1 dX11_night_77 rfl wf_X11_233 (by first | assumption | rfl) ?_
              refine rx_cV (kd := 0) dX11_night_80 rfl lk_X11_207 rfl (by decide) (by first | assumption | rfl) ⟨⟨rfl, rfl⟩, by decide, by decide⟩ rfl (Nat.le_of_ble_eq_true rfl) rfl (s_X0_hasCell kk) (Rs.k ?_)
              refine ex_if_ne 89 dX11_night_83 (by decide) (fun h83 => ?_) (fun h83 => ?_)
              · skip
                refine inc3 (v := _ + 1) dX11_night_89 (by rfl) (by first | exact rfl | exact trivial) ?_
                refine ex_goto 48 dX11_night_92 (by decide) ?_
                refine ex_iload_n dX11_night_48 rfl ?_
                refine ex_iconst (v := 3) dX11_night_49 (by decide) ?_
                refine ex_icmp_ge 95 dX11_night_50 (by decide) (fun h50_1 => ?_) (fun h50_1 => ?_)
                · exact absurd h50_1 (by decide)
                · skip
                  refine ex_aload_n dX11_night_53 rfl ?_
                  refine g_11_4 dX11_night_54 rfl wf_X11_35 (by first | assumption | rfl) (show Rt _ 0 4 = some 5 from rfl) ?_
                  refine ex_iload_n dX11_night_57 rfl ?_
                  refine rx_aald dX11_night_58 (by first | assumption | rfl) (by decide) rfl (by unfold vp_in; decide) (show Rt _ 5 _ = some 145 from rfl) ?_
                  refine g_1_0 dX11_night_59 rfl wf_X11_232 (by first | assumption | rfl) ?_
                  refine ex_if_eq 89 dX11_night_62 (by decide) (fun h62_1 => ?_) (fun h62_1 => ?_)
                  · skip
                    refine inc3 (v := _ + 1) dX11_night_89 (by rfl) (by first | exact rfl | exact trivial) ?_
                    refine ex_goto 48 dX11_night_92 (by decide) ?_
                    refine ex_iload_n dX11_night_48 rfl ?_
                    refine ex_iconst (v := 3) dX11_night_49 (by decide) ?_
                    refine ex_icmp_ge 95 dX11_night_50 (by decide) (fun h50_2 => ?_) (fun h50_2 => ?_)
                    · exact absurd h50_2 (by decide)
                    · skip
                      refine ex_aload_n dX11_night_53 rfl ?_
                      refine g_11_4 dX11_night_54 rfl wf_X11_35 (by first | assumption | rfl) (show Rt _ 0 4 = some 5 from rfl) ?_
                      refine ex_iload_n dX11_night_57 rfl ?_
                      refine rx_aald dX11_night_58 (by first | assumption | rfl) (by decide) rfl (by unfold vp_in; decide) (show Rt _ 5 _ = some 146 from rfl) ?_
                      refine g_1_0 dX11_night_59 rfl wf_X11_232 (by first | assumption | rfl) ?_
                      refine ex_if_eq 89 dX11_night_62 (by decide) (fun h62_2 => ?_) (fun h62_2 => ?_)
                      · skip
                        refine inc3 (v := _ + 1) dX11_night_89 (by rfl) (by first | exact rfl | exact trivial) ?_
                        refine ex_goto 48 dX11_night_92 (by decide) ?_
                        refine ex_iload_n dX11_night_48 rfl ?_
                        refine ex_iconst (v := 3) dX11_night_49 (by decide) ?_
                        refine ex_icmp_ge 95 dX11_night_50 (by decide) (fun h50_3 => ?_) (fun h50_3 => ?_)
                        · skip
                          refine ex_aload_n dX11_night_95 rfl ?_
                          refine g_11_7 dX11_night_96 rfl wf_X11_54 (by first | assumption | rfl) (show Rt _ 0 7 = some 8 from rfl) ?_
                          refine rx_cV (kd := 5) dX11_night_99 rfl lk_X11_236 rfl (by decide) (by first | assumption | rfl) ⟨⟨rfl, rfl⟩, by decide, by decide⟩ rfl (Nat.le_of_ble_eq_true rfl) rfl (s_X5_clear (a := 8) rfl) (Rv.k ?_)
                          refine ex_iconst (v := 0) dX11_night_102 (by decide) ?_
                          refine st_i3 dX11_night_103 (by first | exact rfl | exact trivial) ?_
                          refine (lp_nig0 u80 (fun q hq => by rw [clr8 (by omega)]; exact hShp q hq)) ?_
                          refine ex_aload_n dX11_night_146 rfl ?_
                          refine g_11_7 dX11_night_147 rfl wf_X11_54 (by first | assumption | rfl) (show Rt _ 0 7 = some 8 from rfl) ?_
                          refine ex_aload_n dX11_night_150 rfl ?_
                          refine g_11_2 dX11_night_151 rfl wf_X11_23 (by first | assumption | rfl) (show Rt _ 0 2 = some 3 from rfl) ?_
                          refine ex_iload_n dX11_night_154 rfl ?_
                          refine rx_aald dX11_night_155 (by first | assumption | rfl) (by decide) rfl (by first | assumption | (unfold vp_in; decide)) (by first | assumption | rfl) ?_
                          refine ex_aload_n dX11_night_156 rfl ?_
                          refine g_11_3 dX11_night_157 rfl wf_X11_29 (by first | assumption | rfl) (show Rt _ 0 3 = some 4 from rfl) ?_
                          refine ex_iload_n dX11_night_160 rfl ?_
                          refine rx_aald dX11_night_161 (by first | assumption | rfl) (by decide) rfl (by first | assumption | (unfold vp_in; decide)) (by first | assumption | rfl) ?_
                          refine rx_cV (kd := 5) dX11_night_162 rfl lk_X11_246 rfl (by decide) (by first | assumption | rfl) ⟨⟨rfl, rfl⟩, by decide, by decide⟩ rfl (Nat.le_of_ble_eq_true rfl) rfl (s_X5_begin (a := 8) rfl kk kz (by rw [nmN_off (by omega) (by omega) 3 (by decide), clr8 (by omega)]; exact hb.2.2.1) (by rw [nmN_off (by omega) (by omega) 3 (by decide), clr8 (by omega)]; exact hs.2.2.1)) (Rv.k ?_)
                          refine ex_aload_n dX11_night_165 rfl ?_
                          refine g_11_2 dX11_night_166 rfl wf_X11_23 (by first | assumption | rfl) (show Rt _ 0 2 = some 3 from rfl) ?_
                          refine ex_iload_n dX11_night_169 rfl ?_
                          refine rx_aald dX11_night_170 (by first | assumption | rfl) (by decide) rfl (by first | assumption | (unfold vp_in; decide)) (by first | assumption | rfl) ?_
                          refine g_0_2 dX11_night_171 rfl wf_X11_191 (by first | assumption | rfl) ?_
                          refine ex_iret dX11_night_174 rfl rfl ⟨rfl, Nat.le_refl _⟩ ?_
                          exact ⟨(by simp only [f_X11_night, ↓eq_false h4, ↓eq_false h11, ↓eq_false h25, ↓eq_false h37, ↓eq_false h62, ↓eq_false h83, ↓eq_true h62_1, ↓eq_true h62_2, if_true, if_false, not_true_eq_false, not_false_eq_true]), (by simp only [f_X11_night, ↓eq_false h4, ↓eq_false h11, ↓eq_false h25, ↓eq_false h37, ↓eq_false h62, ↓eq_false h83, ↓eq_true h62_1, ↓eq_true h62_2, if_true, if_false, not_true_eq_false, not_false_eq_true])⟩
                        · exact absurd h50_3 (by decide)
                      · skip
                        refine ex_aload_n dX11_night_65 rfl ?_
                        refine g_11_2 dX11_night_66 rfl wf_X11_23 (by first | assumption | rfl) (show Rt _ 0 2 = some 3 from rfl) ?_
                        refine ex_iload_n dX11_night_69 rfl ?_
                        refine rx_aald dX11_night_70 (by first | assumption | rfl) (by decide) rfl (by first | assumption | (unfold vp_in; decide)) (by first | assumption | rfl) ?_
                        refine ex_aload_n dX11_night_71 rfl ?_
                        refine g_11_4 dX11_night_72 rfl wf_X11_35 (by first | assumption | rfl) (show Rt _ 0 4 = some 5 from rfl) ?_
                        refine ex_iload_n dX11_night_75 rfl ?_
                        refine rx_aald dX11_night_76 (by first | assumption | rfl) (by decide) rfl (by unfold vp_in; decide) (show Rt _ 5 _ = some 146 from rfl) ?_
                        refine g_1_1 dX11_night_77 rfl wf_X11_233 (by first | assumption | rfl) ?_
                        refine rx_cV (kd := 0) dX11_night_80 rfl lk_X11_207 rfl (by decide) (by first | assumption | rfl) ⟨⟨rfl, rfl⟩, by decide, by decide⟩ rfl (Nat.le_of_ble_eq_true rfl) rfl (s_X0_hasCell kk) (Rs.k ?_)
                        refine ex_if_ne 89 dX11_night_83 (by decide) (fun h83_1 => ?_) (fun h83_1 => ?_)
                        · skip
                          refine inc3 (v := _ + 1) dX11_night_89 (by rfl) (by first | exact rfl | exact trivial) ?_
                          refine ex_goto 48 dX11_night_92 (by decide) ?_
                          refine ex_iload_n dX11_night_48 rfl ?_
                          refine ex_iconst (v := 3) dX11_night_49 (by decide) ?_
                          refine ex_icmp_ge 95 dX11_night_50 (by decide) (fun h50_3 => ?_) (fun h50_3 => ?_)
                          · skip
                            refine ex_aload_n dX11_night_95 rfl ?_
                            refine g_11_7 dX11_night_96 rfl wf_X11_54 (by first | assumption | rfl) (show Rt _ 0 7 = some 8 from rfl) ?_
                            refine rx_cV (kd := 5) dX11_night_99 rfl lk_X11_236 rfl (by decide) (by first | assumption | rfl) ⟨⟨rfl, rfl⟩, by decide, by decide⟩ rfl (Nat.le_of_ble_eq_true rfl) rfl (s_X5_clear (a := 8) rfl) (Rv.k ?_)
                            refine ex_iconst (v := 0) dX11_night_102 (by decide) ?_
                            refine st_i3 dX11_night_103 (by first | exact rfl | exact trivial) ?_
                            refine (lp_nig0 u80 (fun q hq => by rw [clr8 (by omega)]; exact hShp q hq)) ?_
                            refine ex_aload_n dX11_night_146 rfl ?_
                            refine g_11_7 dX11_night_147 rfl wf_X11_54 (by first | assumption | rfl) (show Rt _ 0 7 = some 8 from rfl) ?_
                            refine ex_aload_n dX11_night_150 rfl ?_
                            refine g_11_2 dX11_night_151 rfl wf_X11_23 (by first | assumption | rfl) (show Rt _ 0 2 = some 3 from rfl) ?_
                            refine ex_iload_n dX11_night_154 rfl ?_
                            refine rx_aald dX11_night_155 (by first | assumption | rfl) (by decide) rfl (by first | assumption | (unfold vp_in; decide)) (by first | assumption | rfl) ?_
                            refine ex_aload_n dX11_night_156 rfl ?_
                            refine g_11_3 dX11_night_157 rfl wf_X11_29 (by first | assumption | rfl) (show Rt _ 0 3 = some 4 from rfl) ?_
                            refine ex_iload_n dX11_night_160 rfl ?_
                            refine rx_aald dX11_night_161 (by first | assumption | rfl) (by decide) rfl (by first | assumption | (unfold vp_in; decide)) (by first | assumption | rfl) ?_
                            refine rx_cV (kd := 5) dX11_night_162 rfl lk_X11_246 rfl (by decide) (by first | assumption | rfl) ⟨⟨rfl, rfl⟩, by decide, by decide⟩ rfl (Nat.le_of_ble_eq_true rfl) rfl (s_X5_begin (a := 8) rfl kk kz (by rw [nmN_off (by omega) (by omega) 3 (by decide), clr8 (by omega)]; exact hb.2.2.1) (by rw [nmN_off (by omega) (by omega) 3 (by decide), clr8 (by omega)]; exact hs.2.2.1)) (Rv.k ?_)
                            refine ex_aload_n dX11_night_165 rfl ?_
                            refine g_11_2 dX11_night_166 rfl wf_X11_23 (by first | assumption | rfl) (show Rt _ 0 2 = some 3 from rfl) ?_
                            refine ex_iload_n dX11_night_169 rfl ?_
                            refine rx_aald dX11_night_170 (by first | assumption | rfl) (by decide) rfl (by first | assumption | (unfold vp_in; decide)) (by first | assumption | rfl) ?_
                            refine g_0_2 dX11_night_171 rfl wf_X11_191 (by first | assumption | rfl) ?_
                            refine ex_iret dX11_night_174 rfl rfl ⟨rfl, Nat.le_refl _⟩ ?_
                            exact ⟨(by simp only [f_X11_night, ↓eq_false h4, ↓eq_false h11, ↓eq_false h25, ↓eq_false h37, ↓eq_false h62, ↓eq_false h83, ↓eq_true h62_1, ↓eq_false h62_2, ↓eq_false h83_1, if_true, if_false, not_true_eq_false, not_false_eq_true]), (by simp only [f_X11_night, ↓eq_false h4, ↓eq_false h11, ↓eq_false h25, ↓eq_false h37, ↓eq_false h62, ↓eq_false h83, ↓eq_true h62_1, ↓eq_false h62_2, ↓eq_false h83_1, if_true, if_false, not_true_eq_false, not_false_eq_true])⟩
                          · exact absurd h50_3 (by decide)
                        · skip
                          refine ex_bipush (v := (-4)) dX11_night_86 (by decide) ?_
                          refine ex_iret dX11_night_88 rfl rfl ⟨rfl, Nat.le_refl _⟩ ?_
                          exact ⟨(by simp only [f_X11_night, ↓eq_false h4, ↓eq_false h11, ↓eq_false h25, ↓eq_false h37, ↓eq_false h62, ↓eq_false h83, ↓eq_true h62_1, ↓eq_false h62_2, ↓eq_true h83_1, if_true, if_false, not_true_eq_false, not_false_eq_true]), (by simp only [f_X11_night, ↓eq_false h4, ↓eq_false h11, ↓eq_false h25, ↓eq_false h37, ↓eq_false h62, ↓eq_false h83, ↓eq_true h62_1, ↓eq_false h62_2, ↓eq_true h83_1, if_true, if_false, not_true_eq_false, not_false_eq_true])⟩
                  · skip
                    refine ex_aload_n dX11_night_65 rfl ?_
                    refine g_11_2 dX11_night_66 rfl wf_X11_23 (by first | assumption | rfl) (show Rt _ 0 2 = some 3 from rfl) ?_
                    refine ex_iload_n dX11_night_69 rfl ?_
                    refine rx_aald dX11_night_70 (by first | assumption | rfl) (by decide) rfl (by first | assumption | (unfold vp_in; decide)) (by first | assumption | rfl) ?_
                    refine ex_aload_n dX11_night_71 rfl ?_
                    refine g_11_4 dX11_night_72 rfl wf_X11_35 (by first | assumption | rfl) (show Rt _ 0 4 = some 5 from rfl) ?_
                    refine ex_iload_n dX11_night_75 rfl ?_
                    refine rx_aald dX11_night_76 (by first | assumption | rfl) (by decide) rfl (by unfold vp_in; decide) (show Rt _ 5 _ = some 145 from rfl) ?_
                    refine g_1_1 dX11_night_77 rfl wf_X11_233 (by first | assumption | rfl) ?_
                    refine rx_cV (kd := 0) dX11_night_80 rfl lk_X11_207 rfl (by decide) (by first | assumption | rfl) ⟨⟨rfl, rfl⟩, by decide, by decide⟩ rfl (Nat.le_of_ble_eq_true rfl) rfl (s_X0_hasCell kk) (Rs.k ?_)
                    refine ex_if_ne 89 dX11_night_83 (by decide) (fun h83_1 => ?_) (fun h83_1 => ?_)
                    · skip
                      refine inc3 (v := _ + 1) dX11_night_89 (by rfl) (by first | exact rfl | exact trivial) ?_
                      refine ex_goto 48 dX11_night_92 (by decide) ?_
                      refine ex_iload_n dX11_night_48 rfl ?_
                      refine ex_iconst (v := 3) dX11_night_49 (by decide) ?_
                      refine ex_icmp_ge 95 dX11_night_50 (by decide) (fun h50_2 => ?_) (fun h50_2 => ?_)
                      · exact absurd h50_2 (by decide)
                      · skip
                        refine ex_aload_n dX11_night_53 rfl ?_
                        refine g_11_4 dX11_night_54 rfl wf_X11_35 (by first | assumption | rfl) (show Rt _ 0 4 = some 5 from rfl) ?_
                        refine ex_iload_n dX11_night_57 rfl ?_
                        refine rx_aald dX11_night_58 (by first | assumption | rfl) (by decide) rfl (by unfold vp_in; decide) (show Rt _ 5 _ = some 146 from rfl) ?_
                        refine g_1_0 dX11_night_59 rfl wf_X11_232 (by first | assumption | rfl) ?_
                        refine ex_if_eq 89 dX11_night_62 (by decide) (fun h62_2 => ?_) (fun h62_2 => ?_)
                        · skip
                          refine inc3 (v := _ + 1) dX11_night_89 (by rfl) (by first | exact rfl | exact trivial) ?_
                          refine ex_goto 48 dX11_night_92 (by decide) ?_
                          refine ex_iload_n dX11_night_48 rfl ?_
                          refine ex_iconst (v := 3) dX11_night_49 (by decide) ?_
                          refine ex_icmp_ge 95 dX11_night_50 (by decide) (fun h50_3 => ?_) (fun h50_3 => ?_)
                          · skip
                            refine ex_aload_n dX11_night_95 rfl ?_
                            refine g_11_7 dX11_night_96 rfl wf_X11_54 (by first | assumption | rfl) (show Rt _ 0 7 = some 8 from rfl) ?_
                            refine rx_cV (kd := 5) dX11_night_99 rfl lk_X11_236 rfl (by decide) (by first | assumption | rfl) ⟨⟨rfl, rfl⟩, by decide, by decide⟩ rfl (Nat.le_of_ble_eq_true rfl) rfl (s_X5_clear (a := 8) rfl) (Rv.k ?_)
                            refine ex_iconst (v := 0) dX11_night_102 (by decide) ?_
                            refine st_i3 dX11_night_103 (by first | exact rfl | exact trivial) ?_
                            refine (lp_nig0 u80 (fun q hq => by rw [clr8 (by omega)]; exact hShp q hq)) ?_
                            refine ex_aload_n dX11_night_146 rfl ?_
                            refine g_11_7 dX11_night_147 rfl wf_X11_54 (by first | assumption | rfl) (show Rt _ 0 7 = some 8 from rfl) ?_
                            refine ex_aload_n dX11_night_150 rfl ?_
                            refine g_11_2 dX11_night_151 rfl wf_X11_23 (by first | assumption | rfl) (show Rt _ 0 2 = some 3 from rfl) ?_
                            refine ex_iload_n dX11_night_154 rfl ?_
                            refine rx_aald dX11_night_155 (by first | assumption | rfl) (by decide) rfl (by first | assumption | (unfold vp_in; decide)) (by first | assumption | rfl) ?_
                            refine ex_aload_n dX11_night_156 rfl ?_
                            refine g_11_3 dX11_night_157 rfl wf_X11_29 (by first | assumption | rfl) (show Rt _ 0 3 = some 4 from rfl) ?_
                            refine ex_iload_n dX11_night_160 rfl ?_
                            refine rx_aald dX11_night_161 (by first | assumption | rfl) (by decide) rfl (by first | assumption | (unfold vp_in; decide)) (by first | assumption | rfl) ?_
                            refine rx_cV (kd := 5) dX11_night_162 rfl lk_X11_246 rfl (by decide) (by first | assumption | rfl) ⟨⟨rfl, rfl⟩, by decide, by decide⟩ rfl (Nat.le_of_ble_eq_true rfl) rfl (s_X5_begin (a := 8) rfl kk kz (by rw [nmN_off (by omega) (by omega) 3 (by decide), clr8 (by omega)]; exact hb.2.2.1) (by rw [nmN_off (by omega) (by omega) 3 (by decide), clr8 (by omega)]; exact hs.2.2.1)) (Rv.k ?_)
                            refine ex_aload_n dX11_night_165 rfl ?_
                            refine g_11_2 dX11_night_166 rfl wf_X11_23 (by first | assumption | rfl) (show Rt _ 0 2 = some 3 from rfl) ?_
                            refine ex_iload_n dX11_night_169 rfl ?_
                            refine rx_aald dX11_night_170 (by first | assumption | rfl) (by decide) rfl (by first | assumption | (unfold vp_in; decide)) (by first | assumption | rfl) ?_
                            refine g_0_2 dX11_night_171 rfl wf_X11_191 (by first | assumption | rfl) ?_
                            refine ex_iret dX11_night_174 rfl rfl ⟨rfl, Nat.le_refl _⟩ ?_
                            exact ⟨(by simp only [f_X11_night, ↓eq_false h4, ↓eq_false h11, ↓eq_false h25, ↓eq_false h37, ↓eq_false h62, ↓eq_false h83, ↓eq_false h62_1, ↓eq_false h83_1, ↓eq_true h62_2, if_true, if_false, not_true_eq_false, not_false_eq_true]), (by simp only [f_X11_night, ↓eq_false h4, ↓eq_false h11, ↓eq_false h25, ↓eq_false h37, ↓eq_false h62, ↓eq_false h83, ↓eq_false h62_1, ↓eq_false h83_1, ↓eq_true h62_2, if_true, if_false, not_true_eq_false, not_false_eq_true])⟩
                          · exact absurd h50_3 (by decide)
                        · skip
                          refine ex_aload_n dX11_night_65 rfl ?_
                          refine g_11_2 dX11_night_66 rfl wf_X11_23 (by first | assumption | rfl) (show Rt _ 0 2 = some 3 from rfl) ?_
                          refine ex_iload_n dX11_night_69 rfl ?_
                          refine rx_aald dX11_night_70 (by first | assumption | rfl) (by decide) rfl (by first | assumption | (unfold vp_in; decide)) (by first | assumption | rfl) ?_
                          refine ex_aload_n dX11_night_71 rfl ?_
                          refine g_11_4 dX11_night_72 rfl wf_X11_35 (by first | assumption | rfl) (show Rt _ 0 4 = some 5 from rfl) ?_
                          refine ex_iload_n dX11_night_75 rfl ?_
                          refine rx_aald dX11_night_76 (by first | assumption | rfl) (by decide) rfl (by unfold vp_in; decide) (show Rt _ 5 _ = some 146 from rfl) ?_
                          refine g_1_1 dX11_night_77 rfl wf_X11_233 (by first | assumption | rfl) ?_
                          refine rx_cV (kd := 0) dX11_night_80 rfl lk_X11_207 rfl (by decide) (by first | assumption | rfl) ⟨⟨rfl, rfl⟩, by decide, by decide⟩ rfl (Nat.le_of_ble_eq_true rfl) rfl (s_X0_hasCell kk) (Rs.k ?_)
                          refine ex_if_ne 89 dX11_night_83 (by decide) (fun h83_2 => ?_) (fun h83_2 => ?_)
                          · skip
                            refine inc3 (v := _ + 1) dX11_night_89 (by rfl) (by first | exact rfl | exact trivial) ?_
                            refine ex_goto 48 dX11_night_92 (by decide) ?_
                            refine ex_iload_n dX11_night_48 rfl ?_
                            refine ex_iconst (v := 3) dX11_night_49 (by decide) ?_
                            refine ex_icmp_ge 95 dX11_night_50 (by decide) (fun h50_3 => ?_) (fun h50_3 => ?_)
                            · skip
                              refine ex_aload_n dX11_night_95 rfl ?_
                              refine g_11_7 dX11_night_96 rfl wf_X11_54 (by first | assumption | rfl) (show Rt _ 0 7 = some 8 from rfl) ?_
                              refine rx_cV (kd := 5) dX11_night_99 rfl lk_X11_236 rfl (by decide) (by first | assumption | rfl) ⟨⟨rfl, rfl⟩, by decide, by decide⟩ rfl (Nat.le_of_ble_eq_true rfl) rfl (s_X5_clear (a := 8) rfl) (Rv.k ?_)
                              refine ex_iconst (v := 0) dX11_night_102 (by decide) ?_
                              refine st_i3 dX11_night_103 (by first | exact rfl | exact trivial) ?_
                              refine (lp_nig0 u80 (fun q hq => by rw [clr8 (by omega)]; exact hShp q hq)) ?_
                              refine ex_aload_n dX11_night_146 rfl ?_
                              refine g_11_7 dX11_night_147 rfl wf_X11_54 (by first | assumption | rfl) (show Rt _ 0 7 = some 8 from rfl) ?_
                              refine ex_aload_n dX11_night_150 rfl ?_
                              refine g_11_2 dX11_night_151 rfl wf_X11_23 (by first | assumption | rfl) (show Rt _ 0 2 = some 3 from rfl) ?_
                              refine ex_iload_n dX11_night_154 rfl ?_
                              refine rx_aald dX11_night_155 (by first | assumption | rfl) (by decide) rfl (by first | assumption | (unfold vp_in; decide)) (by first | assumption | rfl) ?_
                              refine ex_aload_n dX11_night_156 rfl ?_
                              refine g_11_3 dX11_night_157 rfl wf_X11_29 (by first | assumption | rfl) (show Rt _ 0 3 = some 4 from rfl) ?_
                              refine ex_iload_n dX11_night_160 rfl ?_
                              refine rx_aald dX11_night_161 (by first | assumption | rfl) (by decide) rfl (by first | assumption | (unfold vp_in; decide)) (by first | assumption | rfl) ?_
                              refine rx_cV (kd := 5) dX11_night_162 rfl lk_X11_246 rfl (by decide) (by first | assumption | rfl) ⟨⟨rfl, rfl⟩, by decide, by decide⟩ rfl (Nat.le_of_ble_eq_true rfl) rfl (s_X5_begin (a := 8) rfl kk kz (by rw [nmN_off (by omega) (by omega) 3 (by decide), clr8 (by omega)]; exact hb.2.2.1) (by rw [nmN_off (by omega) (by omega) 3 (by decide), clr8 (by omega)]; exact hs.2.2.1)) (Rv.k ?_)
                              refine ex_aload_n dX11_night_165 rfl ?_
                              refine g_11_2 dX11_night_166 rfl wf_X11_23 (by first | assumption | rfl) (show Rt _ 0 2 = some 3 from rfl) ?_
                              refine ex_iload_n dX11_night_169 rfl ?_
                              refine rx_aald dX11_night_170 (by first | assumption | rfl) (by decide) rfl (by first | assumption | (unfold vp_in; decide)) (by first | assumption | rfl) ?_
                              refine g_0_2 dX11_night_171 rfl wf_X11_191 (by first | assumption | rfl) ?_
                              refine ex_iret dX11_night_174 rfl rfl ⟨rfl, Nat.le_refl _⟩ ?_
                              exact ⟨(by simp only [f_X11_night, ↓eq_false h4, ↓eq_false h11, ↓eq_false h25, ↓eq_false h37, ↓eq_false h62, ↓eq_false h83, ↓eq_false h62_1, ↓eq_false h83_1, ↓eq_false h62_2, ↓eq_false h83_2, if_true, if_false, not_true_eq_false, not_false_eq_true]), (by simp only [f_X11_night, ↓eq_false h4, ↓eq_false h11, ↓eq_false h25, ↓eq_false h37, ↓eq_false h62, ↓eq_false h83, ↓eq_false h62_1, ↓eq_false h83_1, ↓eq_false h62_2, ↓eq_false h83_2, if_true, if_false, not_true_eq_false, not_false_eq_true])⟩
                            · exact absurd h50_3 (by decide)
                          · skip
                            refine ex_bipush (v := (-4)) dX11_night_86 (by decide) ?_
                            refine ex_iret dX11_night_88 rfl rfl ⟨rfl, Nat.le_refl _⟩ ?_
                            exact ⟨(by simp only [f_X11_night, ↓eq_false h4, ↓eq_false h11, ↓eq_false h25, ↓eq_false h37, ↓eq_false h62, ↓eq_false h83, ↓eq_false h62_1, ↓eq_false h83_1, ↓eq_false h62_2, ↓eq_true h83_2, if_true, if_false, not_true_eq_false, not_false_eq_true]), (by simp only [f_X11_night, ↓eq_false h4, ↓eq_false h11, ↓eq_false h25, ↓eq_false h37, ↓eq_false h62, ↓eq_false h83, ↓eq_false h62_1, ↓eq_false h83_1, ↓eq_false h62_2, ↓eq_true h83_2, if_true, if_false, not_true_eq_false, not_false_eq_true])⟩
                    · skip
                      refine ex_bipush (v := (-4)) dX11_night_86 (by decide) ?_
                      refine ex_iret dX11_night_88 rfl rfl ⟨rfl, Nat.le_refl _⟩ ?_
                      exact ⟨(by simp only [f_X11_night, ↓eq_false h4, ↓eq_false h11, ↓eq_false h25, ↓eq_false h37, ↓eq_false h62, ↓eq_false h83, ↓eq_false h62_1, ↓eq_true h83_1, if_true, if_false, not_true_eq_false, not_false_eq_true]), (by simp only [f_X11_night, ↓eq_false h4, ↓eq_false h11, ↓eq_false h25, ↓eq_false h37, ↓eq_false h62, ↓eq_false h83, ↓eq_false h62_1, ↓eq_true h83_1, if_true, if_false, not_true_eq_false, not_false_eq_true])⟩
              · skip
                refine ex_bipush (v := (-4)) dX11_night_86 (by decide) ?_
                refine ex_iret dX11_night_88 rfl rfl ⟨rfl, Nat.le_refl _⟩ ?_
                exact ⟨(by simp only [f_X11_night, ↓eq_false h4, ↓eq_false h11, ↓eq_false h25, ↓eq_false h37, ↓eq_false h62, ↓eq_true h83, if_true, if_false, not_true_eq_false, not_false_eq_true]), (by simp only [f_X11_night, ↓eq_false h4, ↓eq_false h11, ↓eq_false h25, ↓eq_false h37, ↓eq_false h62, ↓eq_true h83, if_true, if_false, not_true_eq_false, not_false_eq_true])⟩
        · skip
          refine ex_aload_n dX11_night_40 rfl ?_
          refine ex_iconst (v := 1) dX11_night_41 (by decide) ?_
          refine rx_cV (kd := 11) dX11_night_42 rfl lk_X11_129 rfl (by decide) (by first | assumption | rfl) ⟨⟨rfl, rfl⟩, by decide, by decide⟩ rfl (Nat.le_of_ble_eq_true rfl) rfl (s_X11_refuse (by unfold vp_in; decide)) (Rs.k ?_)
          refine ex_iret dX11_night_45 rfl rfl ⟨rfl, Nat.le_refl _⟩ ?_
          exact ⟨(by simp only [f_X11_night, ↓eq_false h4, ↓eq_false h11, ↓eq_false h25, ↓eq_true h37, if_true, if_false, not_true_eq_false, not_false_eq_true]), (by simp only [f_X11_night, ↓eq_false h4, ↓eq_false h11, ↓eq_false h25, ↓eq_true h37, if_true, if_false, not_true_eq_false, not_false_eq_true])⟩
    · skip
      refine ex_iconst (v := (-1)) dX11_night_14 (by decide) ?_
      refine ex_iret dX11_night_15 rfl rfl ⟨rfl, Nat.le_refl _⟩ ?_
      exact ⟨(by simp only [f_X11_night, ↓eq_false h4, ↓eq_true h11, if_true, if_false, not_true_eq_false, not_false_eq_true]), (by simp only [f_X11_night, ↓eq_false h4, ↓eq_true h11, if_true, if_false, not_true_eq_false, not_false_eq_true])⟩
end N12
