section N8
variable {G : Gp} {I : Im} {L : Nat → Nat → Int64} {t : Nat}
theorem wship_off {p b s e : Nat} (h : e < 24 ∨ 84 < e) : f_X11_wakeShip I p b s e = I e := by
  unfold f_X11_wakeShip
  rw [wakeI_off ⟨1, by decide, by rw [moorI_m, u2_s]; rfl⟩ h, moorI_off (by omega) (by rw [u2_s]; exact (by decide : (0 : Int32).toNatClampNeg = 0) ▸ (by omega)), clr (by omega)]
def odN (I : Im) (p b i : Nat) : Nat × Im :=
  match i with
  | 0 => (0, I)
  | k + 1 => if (odN I p b k).2 (132 + 3 * k) 2 = 0 then odN I p b k else ((odN I p b k).1 + (if partV (f_X11_wakeShip (odN I p b k).2 p b (132 + 3 * k)) 24 ((f_X11_wakeShip (odN I p b k).2 p b (132 + 3 * k)) 24 2).toNatClampNeg (0 : Int32).toNatClampNeg = -9 then 0 else 1), (f_X11_wakeShip (odN I p b k).2 p b (132 + 3 * k)))
termination_by i
theorem odN_0 {p b : Nat} : odN I p b 0 = (0, I) := by rw [odN]
theorem odN_s {p b k : Nat} : odN I p b (k + 1) = if (odN I p b k).2 (132 + 3 * k) 2 = 0 then odN I p b k else ((odN I p b k).1 + (if partV (f_X11_wakeShip (odN I p b k).2 p b (132 + 3 * k)) 24 ((f_X11_wakeShip (odN I p b k).2 p b (132 + 3 * k)) 24 2).toNatClampNeg (0 : Int32).toNatClampNeg = -9 then 0 else 1), (f_X11_wakeShip (odN I p b k).2 p b (132 + 3 * k))) := by rw [odN]
theorem odN_off {p b e : Nat} (h : e < 24 ∨ 84 < e) : ∀ k, (odN I p b k).2 e = I e := by
  intro k
  induction k with
  | zero => rw [odN_0]
  | succ k ih =>
    rw [odN_s]
    split
    · exact ih
    · exact (wship_off h).trans ih
theorem odN_le {p b : Nat} : ∀ k, (odN I p b k).1 ≤ k := by
  intro k
  induction k with
  | zero => rw [odN_0]; exact Nat.le_refl 0
  | succ k ih =>
    rw [odN_s]
    split
    · omega
    · dsimp only
      split <;> omega
theorem cntN_mono {f : Nat → Int32} {k : Nat} (h : ¬ f k = 0) : ∀ d, 1 ≤ cntN f (k + 1 + d) := by
  intro d
  induction d with
  | zero => rw [Nat.add_zero, cntN_s, if_neg h]; omega
  | succ d ih => rw [← Nat.add_assoc, cntN_s]; split <;> omega
theorem cntN_congr {f g : Nat → Int32} : ∀ k, (∀ i, i < k → f i = g i) → cntN f k = cntN g k := by
  intro k
  induction k with
  | zero => intro _; rw [cntN_0, cntN_0]
  | succ k ih => intro h; rw [cntN_s, cntN_s, ih (fun i hi => h i (by omega)), h k (by omega)]
theorem any_1 (h : ¬ f_X11_anySea I = 0) : 1 ≤ cntN (fun q => I (132 + 3 * q) 2) 4 := by
  unfold f_X11_anySea at h
  by_cases c0 : I 132 2 = 0
  · rw [if_pos c0] at h
    by_cases c1 : I 135 2 = 0
    · rw [if_pos c1] at h
      by_cases c2 : I 138 2 = 0
      · rw [if_pos c2] at h
        by_cases c3 : I 141 2 = 0
        · rw [if_pos c3] at h
          exact absurd rfl h
        · exact cntN_mono (f := fun q => I (132 + 3 * q) 2) (k := 3) c3 0
      · exact cntN_mono (f := fun q => I (132 + 3 * q) 2) (k := 2) c2 1
    · exact cntN_mono (f := fun q => I (132 + 3 * q) 2) (k := 1) c1 2
  · exact cntN_mono (f := fun q => I (132 + 3 * q) 2) (k := 0) c0 3
theorem count_1 : f_X11_count I 1 = nI (cntN (fun q => I (132 + 3 * q) 2) 4) := by
  unfold f_X11_count
  rw [if_neg (by decide), if_pos rfl]
theorem od_ok {p b : Nat} (h : ¬ f_X11_anySea I = 0) : ∃ o u, o < 2 ^ 30 ∧ 1 ≤ u ∧ u < 2 ^ 30 ∧ nI (odN I p b 4).1 = nI o ∧ f_X11_count (odN I p b 4).2 1 = nI u := by
  have h1 := odN_le (I := I) (p := p) (b := b) 4
  have h2 : cntN (fun q => (odN I p b 4).2 (132 + 3 * q) 2) 4 = cntN (fun q => I (132 + 3 * q) 2) 4 := cntN_congr 4 (fun i hi => by rw [odN_off (by omega)])
  have h3 := cntN_le (f := fun q => I (132 + 3 * q) 2) 4
  exact ⟨(odN I p b 4).1, cntN (fun q => I (132 + 3 * q) 2) 4, by omega, any_1 h, by omega, rfl, by rw [count_1, h2]⟩
set_option maxRecDepth 100000 in
set_option maxHeartbeats 4000000 in
theorem lp_odds {P : Option Value → Mem → Prop} {s x : Int32} (vs : vp_in s 3) (ks : K0 (144 + s.toNatClampNeg) = (1, 10)) (ls : Rt t 5 s.toNatClampNeg = some (144 + s.toNatClampNeg)) (vk : vp_in x 4) (qk : x.toNatClampNeg < 4) (lk : Rt t 3 x.toNatClampNeg = some (124 + 2 * x.toNatClampNeg)) (hb : BOk I (124 + 2 * x.toNatClampNeg)) (hSea : SeaS I) (hz : I (144 + s.toNatClampNeg) 0 = 0 ∨ I (144 + s.toNatClampNeg) 0 = 1) (kont : Ex G mdX11_odds 157 [some (.ref 0), some (.int s), some (.int x), some (.int (nI (odN I (144 + s.toNatClampNeg) (124 + 2 * x.toNatClampNeg) 4).1)), some (.int (nI 4))] [] (mk (odN I (144 + s.toNatClampNeg) (124 + 2 * x.toNatClampNeg) 4).2 L t) 0 0 P) : Ex G mdX11_odds 88 [some (.ref 0), some (.int s), some (.int x), some (.int (nI (odN I (144 + s.toNatClampNeg) (124 + 2 * x.toNatClampNeg) 0).1)), some (.int (nI 0))] [] (mk (odN I (144 + s.toNatClampNeg) (124 + 2 * x.toNatClampNeg) 0).2 L t) 0 0 P := by
  refine loop_up (G := G) (d := mdX11_odds) (pc := 88) (st := []) (uc := 0) (us := 0) (P := P) 4 (fun k => mk (odN I (144 + s.toNatClampNeg) (124 + 2 * x.toNatClampNeg) k).2 L t) (fun k => [some (.ref 0), some (.int s), some (.int x), some (.int (nI (odN I (144 + s.toNatClampNeg) (124 + 2 * x.toNatClampNeg) k).1)), some (.int (nI k))]) ?_ ?_ 0 (Nat.zero_le _)
  · intro k hk ih
    refine ex_iload dX11_odds_88 rfl ?_
    refine ex_iconst (v := 4) dX11_odds_90 (by decide) ?_
    refine ex_icmp_ge 157 dX11_odds_91 (by decide) (fun h91 => ?_) (fun h91 => ?_)
    · exact absurd h91 (nI_ge hk (by decide))
    · skip
      refine ex_aload_n dX11_odds_94 rfl ?_
      refine g_11_3 dX11_odds_95 rfl wf_X11_29 (by first | assumption | rfl) (show Rt _ 0 3 = some 4 from rfl) ?_
      refine ex_iload dX11_odds_98 rfl ?_
      refine rx_aald dX11_odds_100 (by first | assumption | rfl) (by decide) rfl (vp_in_nI hk (by decide)) (by rw [nI_clamp (by omega)]; exact ly_sea hk) ?_
      refine g_8_2 dX11_odds_101 rfl wf_X11_121 (ky_sea hk) ?_
      refine ex_if_eq 151 dX11_odds_104 (by decide) (fun h104 => ?_) (fun h104 => ?_)
      · have hw : odN I (144 + s.toNatClampNeg) (124 + 2 * x.toNatClampNeg) (k + 1) = (odN I (144 + s.toNatClampNeg) (124 + 2 * x.toNatClampNeg) k) := odN_s.trans (if_pos h104)
        refine inc4 (v := _ + 1) dX11_odds_151 (by rfl) (by first | exact rfl | exact trivial) ?_
        refine ex_goto 88 dX11_odds_154 (by decide) ?_
        simp only [Int32.add_zero, nI_1]
        rw [hw] at ih
        exact ih
      · skip
        refine ex_aload_n dX11_odds_107 rfl ?_
        refine ex_aload_n dX11_odds_108 rfl ?_
        refine g_11_4 dX11_odds_109 rfl wf_X11_35 (by first | assumption | rfl) (show Rt _ 0 4 = some 5 from rfl) ?_
        refine ex_iload_n dX11_odds_112 rfl ?_
        refine rx_aald dX11_odds_113 (by first | assumption | rfl) (by decide) rfl (by first | assumption | (unfold vp_in; decide)) (by first | assumption | rfl) ?_
        refine ex_aload_n dX11_odds_114 rfl ?_
        refine g_11_2 dX11_odds_115 rfl wf_X11_23 (by first | assumption | rfl) (show Rt _ 0 2 = some 3 from rfl) ?_
        refine ex_iload_n dX11_odds_118 rfl ?_
        refine rx_aald dX11_odds_119 (by first | assumption | rfl) (by decide) rfl (by first | assumption | (unfold vp_in; decide)) (by first | assumption | rfl) ?_
        refine ex_aload_n dX11_odds_120 rfl ?_
        refine g_11_3 dX11_odds_121 rfl wf_X11_29 (by first | assumption | rfl) (show Rt _ 0 3 = some 4 from rfl) ?_
        refine ex_iload dX11_odds_124 rfl ?_
        refine rx_aald dX11_odds_126 (by first | assumption | rfl) (by decide) rfl (vp_in_nI hk (by decide)) (by rw [nI_clamp (by omega)]; exact ly_sea hk) ?_
        refine rx_cV (kd := 11) dX11_odds_127 rfl lk_X11_396 rfl (by decide) (by first | assumption | rfl) ⟨⟨rfl, rfl⟩, by decide, by decide⟩ rfl (Nat.le_of_ble_eq_true rfl) rfl (s_X11_wakeShip (BOk_of (odN_off (by omega) _) hb) (SOk_of (odN_off (by omega) _) (SOk_s hSea hk)) ks (by rw [odN_off (by omega)]; exact hz) (by omega)) (Rv.k ?_)
        refine ex_iload_n dX11_odds_130 rfl ?_
        refine ex_aload_n dX11_odds_131 rfl ?_
        refine g_11_8 dX11_odds_132 rfl wf_X11_58 (by first | assumption | rfl) (show Rt _ 0 8 = some 24 from rfl) ?_
        refine ex_iconst (v := 0) dX11_odds_135 (by decide) ?_
        refine rx_cV (kd := 5) dX11_odds_136 rfl lk_X11_400 rfl (by decide) (by first | assumption | rfl) ⟨⟨rfl, rfl⟩, by decide, by decide⟩ rfl (Nat.le_of_ble_eq_true rfl) rfl (s_part0 wship_t) (Rs.k ?_)
        refine ex_bipush (v := (-9)) dX11_odds_139 (by decide) ?_
        refine ex_icmp_ne 148 dX11_odds_141 (by decide) (fun h141 => ?_) (fun h141 => ?_)
        · have hw : odN I (144 + s.toNatClampNeg) (124 + 2 * x.toNatClampNeg) (k + 1) = ((odN I (144 + s.toNatClampNeg) (124 + 2 * x.toNatClampNeg) k).1 + 1, (f_X11_wakeShip (odN I (144 + s.toNatClampNeg) (124 + 2 * x.toNatClampNeg) k).2 (144 + s.toNatClampNeg) (124 + 2 * x.toNatClampNeg) (132 + 3 * k))) := by rw [odN_s, if_neg h104, if_neg h141]
          refine ex_iconst (v := 1) dX11_odds_148 (by decide) ?_
          refine ex_iadd dX11_odds_149 ?_
          refine st_i3 dX11_odds_150 (by first | exact rfl | exact trivial) ?_
          refine inc4 (v := _ + 1) dX11_odds_151 (by rfl) (by first | exact rfl | exact trivial) ?_
          refine ex_goto 88 dX11_odds_154 (by decide) ?_
          simp only [Int32.add_zero, nI_1]
          rw [hw] at ih
          exact ih
        · have hw : odN I (144 + s.toNatClampNeg) (124 + 2 * x.toNatClampNeg) (k + 1) = ((odN I (144 + s.toNatClampNeg) (124 + 2 * x.toNatClampNeg) k).1 + 0, (f_X11_wakeShip (odN I (144 + s.toNatClampNeg) (124 + 2 * x.toNatClampNeg) k).2 (144 + s.toNatClampNeg) (124 + 2 * x.toNatClampNeg) (132 + 3 * k))) := by rw [odN_s, if_neg h104, if_pos h141]
          refine ex_iconst (v := 0) dX11_odds_144 (by decide) ?_
          refine ex_goto 149 dX11_odds_145 (by decide) ?_
          refine ex_iadd dX11_odds_149 ?_
          refine st_i3 dX11_odds_150 (by first | exact rfl | exact trivial) ?_
          refine inc4 (v := _ + 1) dX11_odds_151 (by rfl) (by first | exact rfl | exact trivial) ?_
          refine ex_goto 88 dX11_odds_154 (by decide) ?_
          simp only [Int32.add_zero, nI_1]
          rw [hw] at ih
          exact ih
  · skip
    refine ex_iload dX11_odds_88 rfl ?_
    refine ex_iconst (v := 4) dX11_odds_90 (by decide) ?_
    refine ex_icmp_ge 157 dX11_odds_91 (by decide) (fun h91 => ?_) (fun h91 => ?_)
    · skip
      exact kont
    · exact absurd (by decide : nI 4 ≤ nI 4) h91
theorem lp_odds0 {P : Option Value → Mem → Prop} {s x : Int32} (vs : vp_in s 3) (ks : K0 (144 + s.toNatClampNeg) = (1, 10)) (ls : Rt t 5 s.toNatClampNeg = some (144 + s.toNatClampNeg)) (vk : vp_in x 4) (qk : x.toNatClampNeg < 4) (lk : Rt t 3 x.toNatClampNeg = some (124 + 2 * x.toNatClampNeg)) (hb : BOk I (124 + 2 * x.toNatClampNeg)) (hSea : SeaS I) (hz : I (144 + s.toNatClampNeg) 0 = 0 ∨ I (144 + s.toNatClampNeg) 0 = 1) (kont : Ex G mdX11_odds 157 [some (.ref 0), some (.int s), some (.int x), some (.int (nI (odN I (144 + s.toNatClampNeg) (124 + 2 * x.toNatClampNeg) 4).1)), none] [] (mk (odN I (144 + s.toNatClampNeg) (124 + 2 * x.toNatClampNeg) 4).2 L t) 0 0 P) : Ex G mdX11_odds 88 [some (.ref 0), some (.int s), some (.int x), some (.int 0), some (.int 0)] [] (mk I L t) 0 0 P := by
  have h := lp_odds (G := G) (L := L) vs ks ls vk qk lk hb hSea hz (P := P) (fg4 kont)
  rw [odN_0] at h
  exact h
def f_X11_odds (I : Im) (L : Nat → Nat → Int64) (s : Int32) (k : Int32) : Int32 × Im × (Nat → Nat → Int64) :=
  if (b2i (0 ≤ s ∧ s ≤ 2)) = 0 then
    ((-1), I, L)
  else
    if (b2i (0 ≤ k ∧ k ≤ 3)) = 0 then
      ((-1), I, L)
    else
      if (I (144 + s.toNatClampNeg) 0) = 0 then
        ((-4), I, L)
      else
        if (I (124 + 2 * k.toNatClampNeg) 1) = 0 then
          let I1 : Im := (f_X11_refuse I 1).2
          ((f_X11_refuse I 1).1, I1, L)
        else
          if ((f_X11_anySea I)) = 0 then
            let I5 : Im := (f_X11_refuse I 1).2
            ((f_X11_refuse I 1).1, I5, L)
          else
            if (b2i (0 ≤ (I (144 + s.toNatClampNeg) 1) ∧ (I (144 + s.toNatClampNeg) 1) < I (124 + 2 * k.toNatClampNeg) 2 ∧ (I (144 + s.toNatClampNeg) 1) < 16)) = 0 then
              let I4 : Im := (f_X11_refuse I 2).2
              ((f_X11_refuse I 2).1, I4, L)
            else
              let I2 : Im := (odN I (144 + s.toNatClampNeg) (124 + 2 * k.toNatClampNeg) 4).2
              let L3 : Nat → Nat → Int64 := frT L (nI (odN I (144 + s.toNatClampNeg) (124 + 2 * k.toNatClampNeg) 4).1).toNatClampNeg ((f_X11_count I2 1)).toNatClampNeg
              (nI (odN I (144 + s.toNatClampNeg) (124 + 2 * k.toNatClampNeg) 4).1, I2, L3)
set_option maxRecDepth 100000 in
set_option maxHeartbeats 4000000 in
theorem s_X11_odds  {s : Int32} {k : Int32} (hHar : HarS I) (hSea : SeaS I) (hShp : ShpS I) : Ca G mdX11_odds [.ref 0, .int s, .int k] (mk I L t) (Rs (.int (f_X11_odds I L s k).1) (mk ((f_X11_odds I L s k).2.1) ((f_X11_odds I L s k).2.2) t)) := by
  refine Ca.intro [some (.ref 0), some (.int s), some (.int k), none, none] (by decide) (Nat.le_of_ble_eq_true rfl) rfl rfl ?_
  refine ex_iload_n dX11_odds_0 rfl ?_
  refine rx_cS dX11_odds_1 rfl lk_X11_222 ⟨⟨rfl, rfl⟩, by decide, by decide⟩ rfl (Nat.le_of_ble_eq_true rfl) rfl s_X11_isShip (Rs.k ?_)
  refine ex_if_eq 14 dX11_odds_4 (by decide) (fun h4 => ?_) (fun h4 => ?_)
  · skip
    refine ex_iconst (v := (-1)) dX11_odds_14 (by decide) ?_
    refine ex_iret dX11_odds_15 rfl rfl ⟨rfl, Nat.le_refl _⟩ ?_
    exact ⟨(by simp only [f_X11_odds, ↓eq_true h4, if_true, if_false, not_true_eq_false, not_false_eq_true]), (by simp only [f_X11_odds, ↓eq_true h4, if_true, if_false, not_true_eq_false, not_false_eq_true])⟩
  · have qs := (cl_lt (N := 3) (by decide) h4).1
    have vs := (cl_lt (N := 3) (by decide) h4).2
    have ks := ky_shp qs
    have ls := ly_shp (t := t) qs
    refine ex_iload_n dX11_odds_7 rfl ?_
    refine rx_cS dX11_odds_8 rfl lk_X11_181 ⟨⟨rfl, rfl⟩, by decide, by decide⟩ rfl (Nat.le_of_ble_eq_true rfl) rfl s_X11_isHarbour (Rs.k ?_)
    refine ex_if_ne 16 dX11_odds_11 (by decide) (fun h11 => ?_) (fun h11 => ?_)
    · have qk := (cl_lt (N := 4) (by decide) h11).1
      have vk := (cl_lt (N := 4) (by decide) h11).2
      have kk := ky_har qk
      have lk := ly_har (t := t) qk
      refine ex_aload_n dX11_odds_16 rfl ?_
      refine g_11_4 dX11_odds_17 rfl wf_X11_35 (by first | assumption | rfl) (show Rt _ 0 4 = some 5 from rfl) ?_
      refine ex_iload_n dX11_odds_20 rfl ?_
      refine rx_aald dX11_odds_21 (by first | assumption | rfl) (by decide) rfl (by first | assumption | (unfold vp_in; decide)) (by first | assumption | rfl) ?_
      refine g_1_0 dX11_odds_22 rfl wf_X11_232 (by first | assumption | rfl) ?_
      refine ex_if_ne 31 dX11_odds_25 (by decide) (fun h25 => ?_) (fun h25 => ?_)
      · skip
        refine ex_aload_n dX11_odds_31 rfl ?_
        refine g_11_2 dX11_odds_32 rfl wf_X11_23 (by first | assumption | rfl) (show Rt _ 0 2 = some 3 from rfl) ?_
        refine ex_iload_n dX11_odds_35 rfl ?_
        refine rx_aald dX11_odds_36 (by first | assumption | rfl) (by decide) rfl (by first | assumption | (unfold vp_in; decide)) (by first | assumption | rfl) ?_
        refine g_0_1 dX11_odds_37 rfl wf_X11_206 (by first | assumption | rfl) ?_
        refine ex_if_eq 50 dX11_odds_40 (by decide) (fun h40 => ?_) (fun h40 => ?_)
        · skip
          refine ex_aload_n dX11_odds_50 rfl ?_
          refine ex_iconst (v := 1) dX11_odds_51 (by decide) ?_
          refine rx_cV (kd := 11) dX11_odds_52 rfl lk_X11_129 rfl (by decide) (by first | assumption | rfl) ⟨⟨rfl, rfl⟩, by decide, by decide⟩ rfl (Nat.le_of_ble_eq_true rfl) rfl (s_X11_refuse (by unfold vp_in; decide)) (Rs.k ?_)
          refine ex_iret dX11_odds_55 rfl rfl ⟨rfl, Nat.le_refl _⟩ ?_
          exact ⟨(by simp only [f_X11_odds, ↓eq_false h4, ↓eq_false h11, ↓eq_false h25, ↓eq_true h40, if_true, if_false, not_true_eq_false, not_false_eq_true]), (by simp only [f_X11_odds, ↓eq_false h4, ↓eq_false h11, ↓eq_false h25, ↓eq_true h40, if_true, if_false, not_true_eq_false, not_false_eq_true])⟩
        · skip
          refine ex_aload_n dX11_odds_43 rfl ?_
          refine rx_cV (kd := 11) dX11_odds_44 rfl lk_X11_390 rfl (by decide) (by first | assumption | rfl) ⟨⟨rfl, rfl⟩, by decide, by decide⟩ rfl (Nat.le_of_ble_eq_true rfl) rfl s_X11_anySea (Rs.k ?_)
          refine ex_if_ne 56 dX11_odds_47 (by decide) (fun h47 => ?_) (fun h47 => ?_)
          · skip
            refine ex_aload_n dX11_odds_56 rfl ?_
            refine g_11_2 dX11_odds_57 rfl wf_X11_23 (by first | assumption | rfl) (show Rt _ 0 2 = some 3 from rfl) ?_
            refine ex_iload_n dX11_odds_60 rfl ?_
            refine rx_aald dX11_odds_61 (by first | assumption | rfl) (by decide) rfl (by first | assumption | (unfold vp_in; decide)) (by first | assumption | rfl) ?_
            refine ex_aload_n dX11_odds_62 rfl ?_
            refine g_11_4 dX11_odds_63 rfl wf_X11_35 (by first | assumption | rfl) (show Rt _ 0 4 = some 5 from rfl) ?_
            refine ex_iload_n dX11_odds_66 rfl ?_
            refine rx_aald dX11_odds_67 (by first | assumption | rfl) (by decide) rfl (by first | assumption | (unfold vp_in; decide)) (by first | assumption | rfl) ?_
            refine g_1_1 dX11_odds_68 rfl wf_X11_233 (by first | assumption | rfl) ?_
            refine rx_cV (kd := 0) dX11_odds_71 rfl lk_X11_207 rfl (by decide) (by first | assumption | rfl) ⟨⟨rfl, rfl⟩, by decide, by decide⟩ rfl (Nat.le_of_ble_eq_true rfl) rfl (s_X0_hasCell kk) (Rs.k ?_)
            refine ex_if_ne 83 dX11_odds_74 (by decide) (fun h74 => ?_) (fun h74 => ?_)
            · skip
              refine ex_iconst (v := 0) dX11_odds_83 (by decide) ?_
              refine st_i3 dX11_odds_84 (by first | exact rfl | exact trivial) ?_
              refine ex_iconst (v := 0) dX11_odds_85 (by decide) ?_
              refine st_i4 dX11_odds_86 (by first | exact rfl | exact trivial) ?_
              refine (lp_odds0 vs ks ls vk qk lk (BOk_h hHar qk h40) hSea (hShp _ qs)) ?_
              refine ex_aload_n dX11_odds_157 rfl ?_
              refine g_11_19 dX11_odds_158 rfl wf_X11_110 (by first | assumption | rfl) (show Rt _ 0 19 = some 103 from rfl) ?_
              refine ex_iload_n dX11_odds_161 rfl ?_
              refine ex_aload_n dX11_odds_162 rfl ?_
              refine ex_iconst (v := 1) dX11_odds_163 (by decide) ?_
              refine rx_cV (kd := 11) dX11_odds_164 rfl lk_X11_413 rfl (by decide) (by first | assumption | rfl) ⟨⟨rfl, rfl⟩, by decide, by decide⟩ rfl (Nat.le_of_ble_eq_true rfl) rfl s_X11_count (Rs.k ?_)
              refine rx_cV (kd := 3) dX11_odds_167 rfl lk_X11_335 rfl (by decide) (by first | assumption | rfl) ⟨⟨rfl, rfl⟩, by decide, by decide⟩ rfl (Nat.le_of_ble_eq_true rfl) rfl (s_tellN (od_ok h47)) (Rv.k ?_)
              refine ex_iload_n dX11_odds_170 rfl ?_
              refine ex_iret dX11_odds_171 rfl rfl ⟨rfl, Nat.le_refl _⟩ ?_
              exact ⟨(by simp only [f_X11_odds, ↓eq_false h4, ↓eq_false h11, ↓eq_false h25, ↓eq_false h40, ↓eq_false h47, ↓eq_false h74, if_true, if_false, not_true_eq_false, not_false_eq_true]), (by simp only [f_X11_odds, ↓eq_false h4, ↓eq_false h11, ↓eq_false h25, ↓eq_false h40, ↓eq_false h47, ↓eq_false h74, if_true, if_false, not_true_eq_false, not_false_eq_true])⟩
            · skip
              refine ex_aload_n dX11_odds_77 rfl ?_
              refine ex_iconst (v := 2) dX11_odds_78 (by decide) ?_
              refine rx_cV (kd := 11) dX11_odds_79 rfl lk_X11_129 rfl (by decide) (by first | assumption | rfl) ⟨⟨rfl, rfl⟩, by decide, by decide⟩ rfl (Nat.le_of_ble_eq_true rfl) rfl (s_X11_refuse (by unfold vp_in; decide)) (Rs.k ?_)
              refine ex_iret dX11_odds_82 rfl rfl ⟨rfl, Nat.le_refl _⟩ ?_
              exact ⟨(by simp only [f_X11_odds, ↓eq_false h4, ↓eq_false h11, ↓eq_false h25, ↓eq_false h40, ↓eq_false h47, ↓eq_true h74, if_true, if_false, not_true_eq_false, not_false_eq_true]), (by simp only [f_X11_odds, ↓eq_false h4, ↓eq_false h11, ↓eq_false h25, ↓eq_false h40, ↓eq_false h47, ↓eq_true h74, if_true, if_false, not_true_eq_false, not_false_eq_true])⟩
          · skip
            refine ex_aload_n dX11_odds_50 rfl ?_
            refine ex_iconst (v := 1) dX11_odds_51 (by decide) ?_
            refine rx_cV (kd := 11) dX11_odds_52 rfl lk_X11_129 rfl (by decide) (by first | assumption | rfl) ⟨⟨rfl, rfl⟩, by decide, by decide⟩ rfl (Nat.le_of_ble_eq_true rfl) rfl (s_X11_refuse (by unfold vp_in; decide)) (Rs.k ?_)
            refine ex_iret dX11_odds_55 rfl rfl ⟨rfl, Nat.le_refl _⟩ ?_
            exact ⟨(by simp only [f_X11_odds, ↓eq_false h4, ↓eq_false h11, ↓eq_false h25, ↓eq_false h40, ↓eq_true h47, if_true, if_false, not_true_eq_false, not_false_eq_true]), (by simp only [f_X11_odds, ↓eq_false h4, ↓eq_false h11, ↓eq_false h25, ↓eq_false h40, ↓eq_true h47, if_true, if_false, not_true_eq_false, not_false_eq_true])⟩
      · skip
        refine ex_bipush (v := (-4)) dX11_odds_28 (by decide) ?_
        refine ex_iret dX11_odds_30 rfl rfl ⟨rfl, Nat.le_refl _⟩ ?_
        exact ⟨(by simp only [f_X11_odds, ↓eq_false h4, ↓eq_false h11, ↓eq_true h25, if_true, if_false, not_true_eq_false, not_false_eq_true]), (by simp only [f_X11_odds, ↓eq_false h4, ↓eq_false h11, ↓eq_true h25, if_true, if_false, not_true_eq_false, not_false_eq_true])⟩
    · skip
      refine ex_iconst (v := (-1)) dX11_odds_14 (by decide) ?_
      refine ex_iret dX11_odds_15 rfl rfl ⟨rfl, Nat.le_refl _⟩ ?_
      exact ⟨(by simp only [f_X11_odds, ↓eq_false h4, ↓eq_true h11, if_true, if_false, not_true_eq_false, not_false_eq_true]), (by simp only [f_X11_odds, ↓eq_false h4, ↓eq_true h11, if_true, if_false, not_true_eq_false, not_false_eq_true])⟩
end N8
